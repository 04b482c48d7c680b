section
set_option maxHeartbeats 4000000 in
set_option maxRecDepth 100000 in
theorem c_X11_mostNow2 (l : Launch) (D : va_G) (cy : Nat → ClassId) (sz : Nat) (xo : Nat) (xk : Nat) (xn : Nat) (xc : Nat) (xh : Nat) (xt : Nat) (xw : Nat) (xm : Nat) (xp : Nat) (pf : Int32) (ph : Int32) (tr : Int64) (fi : Int32) (n1 : Nat) (n2 : Nat) (n3 : Nat) (n4 : Nat) (n5 : Nat) (vp : Int32) (vn : Int32) (clo : Nat) (cro : Nat) (c4 : Nat) (c5 : Nat) (c6 : Nat) (c7 : Nat) (c8 : Nat) (fk : Nat → Int32) (fs : Nat → Int32) (fe : Nat → Int32) (fw : Nat → Int32) (fp : Nat → Int32) (rl : Nat → Nat) (Ml : Nat → Nat → Int32) (rr : Nat → Nat) (Mr : Nat → Nat → Int32) (f4 : Nat → Int32) (f5 : Nat → Int32) (f6 : Nat → Int32) (f7 : Nat → Int32) (f8 : Nat → Int32) (k0 : Nat) (k1 : Nat) (k2 : Nat) (k3 : Nat) (k4 : Nat) (a1 : Int32) (a2 : Int32) (hvp : 0 ≤ vp.toInt ∧ vp.toInt ≤ 12) (hvn : 0 ≤ vn.toInt ∧ vn.toInt ≤ 40) (q1 : 0 ≤ a1.toInt ∧ a1.toInt < vp.toInt) (q2 : 0 ≤ a2.toInt ∧ a2.toInt < vp.toInt) (hne : a1.toInt ≠ a2.toInt) (hnc : netC vp.toInt vn.toInt fs fe) (hpr : prng fs fe 40) (r_f7 : rng f7 12 (0) (11)) (r_f8 : rng f8 12 (0) (11)) (r_fk : rng fk 40 (0) (4)) (r_fw : rng fw 40 (0) (2000)) : Met l yX11_mostNow wsX11_mostNow ({ frames := 4, cells := 0, slots := 0, locals := 88 }) (va_Pc [.ref xo, .int a1, .int a2] (fun U => U.heap.size = sz ∧ va_P D vwCl [ob11_0_ xo xk xn xc xh xt xw xm xp pf ph tr fi, ob3_0_ xn vp vn n1 n2 n3 n4 n5, ai_ cy n1 40 fk, ai_ cy n2 40 fs, ai_ cy n3 40 fe, ai_ cy n4 40 fw, ai_ cy n5 40 fp, ob0_0_ xc xn xk clo cro c4 c5 c6 c7 c8, aq_ cy 6 clo 12 (gf_ rl), ai_ cy (rl 0) 12 (Ml 0), ai_ cy (rl 1) 12 (Ml 1), ai_ cy (rl 2) 12 (Ml 2), ai_ cy (rl 3) 12 (Ml 3), ai_ cy (rl 4) 12 (Ml 4), ai_ cy (rl 5) 12 (Ml 5), ai_ cy (rl 6) 12 (Ml 6), ai_ cy (rl 7) 12 (Ml 7), ai_ cy (rl 8) 12 (Ml 8), ai_ cy (rl 9) 12 (Ml 9), ai_ cy (rl 10) 12 (Ml 10), ai_ cy (rl 11) 12 (Ml 11), aq_ cy 6 cro 12 (gf_ rr), ai_ cy (rr 0) 12 (Mr 0), ai_ cy (rr 1) 12 (Mr 1), ai_ cy (rr 2) 12 (Mr 2), ai_ cy (rr 3) 12 (Mr 3), ai_ cy (rr 4) 12 (Mr 4), ai_ cy (rr 5) 12 (Mr 5), ai_ cy (rr 6) 12 (Mr 6), ai_ cy (rr 7) 12 (Mr 7), ai_ cy (rr 8) 12 (Mr 8), ai_ cy (rr 9) 12 (Mr 9), ai_ cy (rr 10) 12 (Mr 10), ai_ cy (rr 11) 12 (Mr 11), ai_ cy c4 40 f4, ai_ cy c5 40 f5, ai_ cy c6 40 f6, ai_ cy c7 12 f7, ai_ cy c8 12 f8, aq_ cy 3 xk 5 (kf_ k0 k1 k2 k3 k4), ob6_0_ k0, ob5_0_ k1, ob9_0_ k2, ob2_0_ k3, ob8_0_ k4] U.heap ∧ kg_ D cy U ∧ va_D (fun _ => True) [ob11_0_ xo xk xn xc xh xt xw xm xp pf ph tr fi, ob3_0_ xn vp vn n1 n2 n3 n4 n5, ai_ cy n1 40 fk, ai_ cy n2 40 fs, ai_ cy n3 40 fe, ai_ cy n4 40 fw, ai_ cy n5 40 fp, ob0_0_ xc xn xk clo cro c4 c5 c6 c7 c8, aq_ cy 6 clo 12 (gf_ rl), ai_ cy (rl 0) 12 (Ml 0), ai_ cy (rl 1) 12 (Ml 1), ai_ cy (rl 2) 12 (Ml 2), ai_ cy (rl 3) 12 (Ml 3), ai_ cy (rl 4) 12 (Ml 4), ai_ cy (rl 5) 12 (Ml 5), ai_ cy (rl 6) 12 (Ml 6), ai_ cy (rl 7) 12 (Ml 7), ai_ cy (rl 8) 12 (Ml 8), ai_ cy (rl 9) 12 (Ml 9), ai_ cy (rl 10) 12 (Ml 10), ai_ cy (rl 11) 12 (Ml 11), aq_ cy 6 cro 12 (gf_ rr), ai_ cy (rr 0) 12 (Mr 0), ai_ cy (rr 1) 12 (Mr 1), ai_ cy (rr 2) 12 (Mr 2), ai_ cy (rr 3) 12 (Mr 3), ai_ cy (rr 4) 12 (Mr 4), ai_ cy (rr 5) 12 (Mr 5), ai_ cy (rr 6) 12 (Mr 6), ai_ cy (rr 7) 12 (Mr 7), ai_ cy (rr 8) 12 (Mr 8), ai_ cy (rr 9) 12 (Mr 9), ai_ cy (rr 10) 12 (Mr 10), ai_ cy (rr 11) 12 (Mr 11), ai_ cy c4 40 f4, ai_ cy c5 40 f5, ai_ cy c6 40 f6, ai_ cy c7 12 f7, ai_ cy c8 12 f8, aq_ cy 3 xk 5 (kf_ k0 k1 k2 k3 k4), ob6_0_ k0, ob5_0_ k1, ob9_0_ k2, ob2_0_ k3, ob8_0_ k4])) (va_Qi (fun (r : Int32) (u : Int32) => u = r ∧ ((mostR (cutF fk fs fe fw (-9) vn.toNatClampNeg) a1.toNatClampNeg a2.toNatClampNeg r.toInt))) (fun (u : Int32) (t : State) => ∃ (eMl : Nat → Nat → Int32), ∃ (eMr : Nat → Nat → Int32), ∃ (e4 : Nat → Int32), ∃ (e5 : Nat → Int32), ∃ (e6 : Nat → Int32), ∃ (e7 : Nat → Int32), ∃ (e8 : Nat → Int32), (∀ S : Nat → Bool, outZ (zM eMl) S vp.toNatClampNeg = cutF fk fs fe fw (-9) vn.toNatClampNeg S) ∧ (u.toInt ≠ -5 → flw (zM eMl) (zM eMr) vp.toNatClampNeg a1.toNatClampNeg a2.toNatClampNeg u.toInt) ∧ (rng e7 12 (0) (11)) ∧ (rng e8 12 (0) (11)) ∧ va_P D vwCl [ob11_0_ xo xk xn xc xh xt xw xm xp pf ph tr fi, ob3_0_ xn vp vn n1 n2 n3 n4 n5, ai_ cy n1 40 fk, ai_ cy n2 40 fs, ai_ cy n3 40 fe, ai_ cy n4 40 fw, ai_ cy n5 40 fp, ob0_0_ xc xn xk clo cro c4 c5 c6 c7 c8, aq_ cy 6 clo 12 (gf_ rl), ai_ cy (rl 0) 12 (eMl 0), ai_ cy (rl 1) 12 (eMl 1), ai_ cy (rl 2) 12 (eMl 2), ai_ cy (rl 3) 12 (eMl 3), ai_ cy (rl 4) 12 (eMl 4), ai_ cy (rl 5) 12 (eMl 5), ai_ cy (rl 6) 12 (eMl 6), ai_ cy (rl 7) 12 (eMl 7), ai_ cy (rl 8) 12 (eMl 8), ai_ cy (rl 9) 12 (eMl 9), ai_ cy (rl 10) 12 (eMl 10), ai_ cy (rl 11) 12 (eMl 11), aq_ cy 6 cro 12 (gf_ rr), ai_ cy (rr 0) 12 (eMr 0), ai_ cy (rr 1) 12 (eMr 1), ai_ cy (rr 2) 12 (eMr 2), ai_ cy (rr 3) 12 (eMr 3), ai_ cy (rr 4) 12 (eMr 4), ai_ cy (rr 5) 12 (eMr 5), ai_ cy (rr 6) 12 (eMr 6), ai_ cy (rr 7) 12 (eMr 7), ai_ cy (rr 8) 12 (eMr 8), ai_ cy (rr 9) 12 (eMr 9), ai_ cy (rr 10) 12 (eMr 10), ai_ cy (rr 11) 12 (eMr 11), ai_ cy c4 40 e4, ai_ cy c5 40 e5, ai_ cy c6 40 e6, ai_ cy c7 12 e7, ai_ cy c8 12 e8, aq_ cy 3 xk 5 (kf_ k0 k1 k2 k3 k4), ob6_0_ k0, ob5_0_ k1, ob9_0_ k2, ob2_0_ k3, ob8_0_ k4] t.heap ∧ va_D (va_A [ob11_0_ xo xk xn xc xh xt xw xm xp pf ph tr fi, ob3_0_ xn vp vn n1 n2 n3 n4 n5, ai_ cy n1 40 fk, ai_ cy n2 40 fs, ai_ cy n3 40 fe, ai_ cy n4 40 fw, ai_ cy n5 40 fp, ob0_0_ xc xn xk clo cro c4 c5 c6 c7 c8, aq_ cy 6 clo 12 (gf_ rl), ai_ cy (rl 0) 12 (Ml 0), ai_ cy (rl 1) 12 (Ml 1), ai_ cy (rl 2) 12 (Ml 2), ai_ cy (rl 3) 12 (Ml 3), ai_ cy (rl 4) 12 (Ml 4), ai_ cy (rl 5) 12 (Ml 5), ai_ cy (rl 6) 12 (Ml 6), ai_ cy (rl 7) 12 (Ml 7), ai_ cy (rl 8) 12 (Ml 8), ai_ cy (rl 9) 12 (Ml 9), ai_ cy (rl 10) 12 (Ml 10), ai_ cy (rl 11) 12 (Ml 11), aq_ cy 6 cro 12 (gf_ rr), ai_ cy (rr 0) 12 (Mr 0), ai_ cy (rr 1) 12 (Mr 1), ai_ cy (rr 2) 12 (Mr 2), ai_ cy (rr 3) 12 (Mr 3), ai_ cy (rr 4) 12 (Mr 4), ai_ cy (rr 5) 12 (Mr 5), ai_ cy (rr 6) 12 (Mr 6), ai_ cy (rr 7) 12 (Mr 7), ai_ cy (rr 8) 12 (Mr 8), ai_ cy (rr 9) 12 (Mr 9), ai_ cy (rr 10) 12 (Mr 10), ai_ cy (rr 11) 12 (Mr 11), ai_ cy c4 40 f4, ai_ cy c5 40 f5, ai_ cy c6 40 f6, ai_ cy c7 12 f7, ai_ cy c8 12 f8, aq_ cy 3 xk 5 (kf_ k0 k1 k2 k3 k4), ob6_0_ k0, ob5_0_ k1, ob9_0_ k2, ob2_0_ k3, ob8_0_ k4] sz) [ob11_0_ xo xk xn xc xh xt xw xm xp pf ph tr fi, ob3_0_ xn vp vn n1 n2 n3 n4 n5, ai_ cy n1 40 fk, ai_ cy n2 40 fs, ai_ cy n3 40 fe, ai_ cy n4 40 fw, ai_ cy n5 40 fp, ob0_0_ xc xn xk clo cro c4 c5 c6 c7 c8, aq_ cy 6 clo 12 (gf_ rl), ai_ cy (rl 0) 12 (eMl 0), ai_ cy (rl 1) 12 (eMl 1), ai_ cy (rl 2) 12 (eMl 2), ai_ cy (rl 3) 12 (eMl 3), ai_ cy (rl 4) 12 (eMl 4), ai_ cy (rl 5) 12 (eMl 5), ai_ cy (rl 6) 12 (eMl 6), ai_ cy (rl 7) 12 (eMl 7), ai_ cy (rl 8) 12 (eMl 8), ai_ cy (rl 9) 12 (eMl 9), ai_ cy (rl 10) 12 (eMl 10), ai_ cy (rl 11) 12 (eMl 11), aq_ cy 6 cro 12 (gf_ rr), ai_ cy (rr 0) 12 (eMr 0), ai_ cy (rr 1) 12 (eMr 1), ai_ cy (rr 2) 12 (eMr 2), ai_ cy (rr 3) 12 (eMr 3), ai_ cy (rr 4) 12 (eMr 4), ai_ cy (rr 5) 12 (eMr 5), ai_ cy (rr 6) 12 (eMr 6), ai_ cy (rr 7) 12 (eMr 7), ai_ cy (rr 8) 12 (eMr 8), ai_ cy (rr 9) 12 (eMr 9), ai_ cy (rr 10) 12 (eMr 10), ai_ cy (rr 11) 12 (eMr 11), ai_ cy c4 40 e4, ai_ cy c5 40 e5, ai_ cy c6 40 e6, ai_ cy c7 12 e7, ai_ cy c8 12 e8, aq_ cy 3 xk 5 (kf_ k0 k1 k2 k3 k4), ob6_0_ k0, ob5_0_ k1, ob9_0_ k2, ob2_0_ k3, ob8_0_ k4]) (va_A [ob11_0_ xo xk xn xc xh xt xw xm xp pf ph tr fi, ob3_0_ xn vp vn n1 n2 n3 n4 n5, ai_ cy n1 40 fk, ai_ cy n2 40 fs, ai_ cy n3 40 fe, ai_ cy n4 40 fw, ai_ cy n5 40 fp, ob0_0_ xc xn xk clo cro c4 c5 c6 c7 c8, aq_ cy 6 clo 12 (gf_ rl), ai_ cy (rl 0) 12 (Ml 0), ai_ cy (rl 1) 12 (Ml 1), ai_ cy (rl 2) 12 (Ml 2), ai_ cy (rl 3) 12 (Ml 3), ai_ cy (rl 4) 12 (Ml 4), ai_ cy (rl 5) 12 (Ml 5), ai_ cy (rl 6) 12 (Ml 6), ai_ cy (rl 7) 12 (Ml 7), ai_ cy (rl 8) 12 (Ml 8), ai_ cy (rl 9) 12 (Ml 9), ai_ cy (rl 10) 12 (Ml 10), ai_ cy (rl 11) 12 (Ml 11), aq_ cy 6 cro 12 (gf_ rr), ai_ cy (rr 0) 12 (Mr 0), ai_ cy (rr 1) 12 (Mr 1), ai_ cy (rr 2) 12 (Mr 2), ai_ cy (rr 3) 12 (Mr 3), ai_ cy (rr 4) 12 (Mr 4), ai_ cy (rr 5) 12 (Mr 5), ai_ cy (rr 6) 12 (Mr 6), ai_ cy (rr 7) 12 (Mr 7), ai_ cy (rr 8) 12 (Mr 8), ai_ cy (rr 9) 12 (Mr 9), ai_ cy (rr 10) 12 (Mr 10), ai_ cy (rr 11) 12 (Mr 11), ai_ cy c4 40 f4, ai_ cy c5 40 f5, ai_ cy c6 40 f6, ai_ cy c7 12 f7, ai_ cy c8 12 f8, aq_ cy 3 xk 5 (kf_ k0 k1 k2 k3 k4), ob6_0_ k0, ob5_0_ k1, ob9_0_ k2, ob2_0_ k3, ob8_0_ k4] sz)) 0 0 (va_A [ob11_0_ xo xk xn xc xh xt xw xm xp pf ph tr fi, ob3_0_ xn vp vn n1 n2 n3 n4 n5, ai_ cy n1 40 fk, ai_ cy n2 40 fs, ai_ cy n3 40 fe, ai_ cy n4 40 fw, ai_ cy n5 40 fp, ob0_0_ xc xn xk clo cro c4 c5 c6 c7 c8, aq_ cy 6 clo 12 (gf_ rl), ai_ cy (rl 0) 12 (Ml 0), ai_ cy (rl 1) 12 (Ml 1), ai_ cy (rl 2) 12 (Ml 2), ai_ cy (rl 3) 12 (Ml 3), ai_ cy (rl 4) 12 (Ml 4), ai_ cy (rl 5) 12 (Ml 5), ai_ cy (rl 6) 12 (Ml 6), ai_ cy (rl 7) 12 (Ml 7), ai_ cy (rl 8) 12 (Ml 8), ai_ cy (rl 9) 12 (Ml 9), ai_ cy (rl 10) 12 (Ml 10), ai_ cy (rl 11) 12 (Ml 11), aq_ cy 6 cro 12 (gf_ rr), ai_ cy (rr 0) 12 (Mr 0), ai_ cy (rr 1) 12 (Mr 1), ai_ cy (rr 2) 12 (Mr 2), ai_ cy (rr 3) 12 (Mr 3), ai_ cy (rr 4) 12 (Mr 4), ai_ cy (rr 5) 12 (Mr 5), ai_ cy (rr 6) 12 (Mr 6), ai_ cy (rr 7) 12 (Mr 7), ai_ cy (rr 8) 12 (Mr 8), ai_ cy (rr 9) 12 (Mr 9), ai_ cy (rr 10) 12 (Mr 10), ai_ cy (rr 11) 12 (Mr 11), ai_ cy c4 40 f4, ai_ cy c5 40 f5, ai_ cy c6 40 f6, ai_ cy c7 12 f7, ai_ cy c8 12 f8, aq_ cy 3 xk 5 (kf_ k0 k1 k2 k3 k4), ob6_0_ k0, ob5_0_ k1, ob9_0_ k2, ob2_0_ k3, ob8_0_ k4] sz) := by
  refine ofQ (cc := cX11_mostNow) (maxL := 3) (ret := (some .int)) (by decide) rfl ?_
  intro p e s m args below meth c s₁ Q hQ B hml hv
  obtain ⟨rfl, hsz, hP, hK, hD0⟩ := hv
  have hG := hK.2
  have hK := hK.1
  have hx := B.exec
  have hb := B.bytes
  have hr := B.returns
  have hts := atoms_spec (ws := wsX11_mostNow) B.pre
  have hown : s.vm.findClass RX11 = some m.cls := by have h_ := findClass_of_methodNamed B.named; exact h_
  have hlocks := B.notSynchronized
  subst hsz
  have hD := hD0.self (sz := s.heap.size)
  generalize hAe : va_A [ob11_0_ xo xk xn xc xh xt xw xm xp pf ph tr fi, ob3_0_ xn vp vn n1 n2 n3 n4 n5, ai_ cy n1 40 fk, ai_ cy n2 40 fs, ai_ cy n3 40 fe, ai_ cy n4 40 fw, ai_ cy n5 40 fp, ob0_0_ xc xn xk clo cro c4 c5 c6 c7 c8, aq_ cy 6 clo 12 (gf_ rl), ai_ cy (rl 0) 12 (Ml 0), ai_ cy (rl 1) 12 (Ml 1), ai_ cy (rl 2) 12 (Ml 2), ai_ cy (rl 3) 12 (Ml 3), ai_ cy (rl 4) 12 (Ml 4), ai_ cy (rl 5) 12 (Ml 5), ai_ cy (rl 6) 12 (Ml 6), ai_ cy (rl 7) 12 (Ml 7), ai_ cy (rl 8) 12 (Ml 8), ai_ cy (rl 9) 12 (Ml 9), ai_ cy (rl 10) 12 (Ml 10), ai_ cy (rl 11) 12 (Ml 11), aq_ cy 6 cro 12 (gf_ rr), ai_ cy (rr 0) 12 (Mr 0), ai_ cy (rr 1) 12 (Mr 1), ai_ cy (rr 2) 12 (Mr 2), ai_ cy (rr 3) 12 (Mr 3), ai_ cy (rr 4) 12 (Mr 4), ai_ cy (rr 5) 12 (Mr 5), ai_ cy (rr 6) 12 (Mr 6), ai_ cy (rr 7) 12 (Mr 7), ai_ cy (rr 8) 12 (Mr 8), ai_ cy (rr 9) 12 (Mr 9), ai_ cy (rr 10) 12 (Mr 10), ai_ cy (rr 11) 12 (Mr 11), ai_ cy c4 40 f4, ai_ cy c5 40 f5, ai_ cy c6 40 f6, ai_ cy c7 12 f7, ai_ cy c8 12 f8, aq_ cy 3 xk 5 (kf_ k0 k1 k2 k3 k4), ob6_0_ k0, ob5_0_ k1, ob9_0_ k2, ob2_0_ k3, ob8_0_ k4] s.heap.size = A at hD hQ
  have hA : ∀ q : Nat, s.heap.size ≤ q → A q := fun q h => by rw [← hAe]; exact Or.inr h
  have hS : va_S A s.heap s.heap [] := va_S.rf
  have hl := lv_entry ([.ref xo, .int a1, .int a2]) (n := 3) (Nat.le_of_ble_eq_true rfl)
  rw [lg_entry_eq]
  generalize (lg_sl ([.ref xo, .int a1, .int a2]) ++ List.replicate (3 - (lg_sl ([.ref xo, .int a1, .int a2])).length) Slot.unset).toArray = ls at hl ⊢
  have hl : lv_has ls 3 [(0, .ref xo), (1, .int a1), (2, .int a2)] := hl
  have zm9 : ((-9) : Int32).toInt = -9 := by decide
  have zm9_ : ((-9) : Int32).toInt = -9 := by decide
  refine lv_aload_n hx hb dB_36_3_34.1.1.1 rfl (lv_at hl 0 rfl) ?_
  refine va_get (ci := 11) (v := .ref xc) (C := RX11) (T := TX11) (N := 12) hx hb hts (fun _ h => List.mem_cons_of_mem _ (List.mem_append_left _ (List.mem_append_left _ (List.mem_append_right _ h)))) hown hK.1 hP 0 rfl rfl 2 (by decide) (hts (.fieldLink RX11 40 "CutAtlas" "current" "LCutAtlas$Current;") (List.mem_of_getElem? (i := 1) rfl)) (fun _ h9 => h9) rfl dB_36_3_34.1.1.2 ?_
  refine lv_bipush (v := (-9)) hx hb dB_36_3_34.1.2.1 (by decide) ?_
  refine ct_S hP hD hS hA [ob0_0_ xc xn xk clo cro c4 c5 c6 c7 c8, ob3_0_ xn vp vn n1 n2 n3 n4 n5, ai_ cy n1 40 fk, ai_ cy n2 40 fs, ai_ cy n3 40 fe, ai_ cy n4 40 fw, aq_ cy 6 clo 12 (gf_ rl), ai_ cy (rl 0) 12 (Ml 0), ai_ cy (rl 1) 12 (Ml 1), ai_ cy (rl 2) 12 (Ml 2), ai_ cy (rl 3) 12 (Ml 3), ai_ cy (rl 4) 12 (Ml 4), ai_ cy (rl 5) 12 (Ml 5), ai_ cy (rl 6) 12 (Ml 6), ai_ cy (rl 7) 12 (Ml 7), ai_ cy (rl 8) 12 (Ml 8), ai_ cy (rl 9) 12 (Ml 9), ai_ cy (rl 10) 12 (Ml 10), ai_ cy (rl 11) 12 (Ml 11), ai_ cy c5 40 f5, ai_ cy c6 40 f6, aq_ cy 3 xk 5 (kf_ k0 k1 k2 k3 k4), ob6_0_ k0, ob5_0_ k1, ob9_0_ k2, ob2_0_ k3, ob8_0_ k4] [7, 1, 2, 3, 4, 5, 8, 9, 10, 11, 12, 13, 14, 15, 16, 17, 18, 19, 20, 35, 36, 39, 40, 41, 42, 43, 44] (by decide +kernel) rfl (fun hPc hDw hFc hC_ => ?_)
  refine va_callv (va_runV (As := [.int (-9)]) (rest := []) ⟨hx, hb, hml, hown, hts⟩ (c_X0_load2 l D cy s.heap.size xc xk clo cro c4 c5 c6 c7 c8 xn n1 n2 n3 n4 n5 vp vn fk fs fe fw rl Ml f5 f6 k0 k1 k2 k3 k4 ((-9) : Int32) (by first | with_reducible assumption | omega | assumption) (by first | with_reducible assumption | omega | assumption) (by first | with_reducible assumption | assumption | omega) (by first | with_reducible assumption | assumption | omega) (by first | with_reducible assumption | assumption | omega) (by first | with_reducible assumption | assumption | omega)) (cwV 1 hts gX11_mostNow_X0_load rfl rfl rfl ⟨rfl, hd_X0_load⟩ ⟨Nat.le_of_ble_eq_true rfl, Nat.le_of_ble_eq_true rfl⟩) ⟨bl_g, va_recvX hK.1 hP (ci := 0) (q0 := 7) rfl rfl, fun U hU hW => ⟨rfl, by rw [hU], by rw [hU]; exact hPc, ⟨kk_mv hW hK, arrOfT_moved hW.alike hG⟩, hDw⟩⟩ rfl rfl hl.1 rfl (lv_room (Nat.le_of_ble_eq_true rfl)) dB_36_3_34.1.2.2.1 ⟨Nat.le_of_ble_eq_true rfl, Nat.le_of_ble_eq_true rfl⟩) hS (fun q _ h => hFc q h) hFc (fun u t H locs ht hvm hw hB hz1 hk1 hS => ?_)
  obtain ⟨eMl_2, e5_3, e6_4, g_5, g_6, hP1, hD1⟩ := hB
  rw [ht] at hP1
  obtain ⟨hP, hD⟩ := va_join (wr := [ob11_0_ xo xk xn xc xh xt xw xm xp pf ph tr fi, ai_ cy n5 40 fp, aq_ cy 6 cro 12 (gf_ rr), ai_ cy (rr 0) 12 (Mr 0), ai_ cy (rr 1) 12 (Mr 1), ai_ cy (rr 2) 12 (Mr 2), ai_ cy (rr 3) 12 (Mr 3), ai_ cy (rr 4) 12 (Mr 4), ai_ cy (rr 5) 12 (Mr 5), ai_ cy (rr 6) 12 (Mr 6), ai_ cy (rr 7) 12 (Mr 7), ai_ cy (rr 8) 12 (Mr 8), ai_ cy (rr 9) 12 (Mr 9), ai_ cy (rr 10) 12 (Mr 10), ai_ cy (rr 11) 12 (Mr 11), ai_ cy c4 40 f4, ai_ cy c7 12 f7, ai_ cy c8 12 f8]) (w1 := [ob0_0_ xc xn xk clo cro c4 c5 c6 c7 c8, ob3_0_ xn vp vn n1 n2 n3 n4 n5, ai_ cy n1 40 fk, ai_ cy n2 40 fs, ai_ cy n3 40 fe, ai_ cy n4 40 fw, aq_ cy 6 clo 12 (gf_ rl), ai_ cy (rl 0) 12 (eMl_2 0), ai_ cy (rl 1) 12 (eMl_2 1), ai_ cy (rl 2) 12 (eMl_2 2), ai_ cy (rl 3) 12 (eMl_2 3), ai_ cy (rl 4) 12 (eMl_2 4), ai_ cy (rl 5) 12 (eMl_2 5), ai_ cy (rl 6) 12 (eMl_2 6), ai_ cy (rl 7) 12 (eMl_2 7), ai_ cy (rl 8) 12 (eMl_2 8), ai_ cy (rl 9) 12 (eMl_2 9), ai_ cy (rl 10) 12 (eMl_2 10), ai_ cy (rl 11) 12 (eMl_2 11), ai_ cy c5 40 e5_3, ai_ cy c6 40 e6_4, aq_ cy 3 xk 5 (kf_ k0 k1 k2 k3 k4), ob6_0_ k0, ob5_0_ k1, ob9_0_ k2, ob2_0_ k3, ob8_0_ k4]) hP hD [7, 1, 2, 3, 4, 5, 8, 9, 10, 11, 12, 13, 14, 15, 16, 17, 18, 19, 20, 35, 36, 39, 40, 41, 42, 43, 44] [0, 6, 21, 22, 23, 24, 25, 26, 27, 28, 29, 30, 31, 32, 33, 34, 37, 38] hC_ rfl (by decide +kernel) (by decide +kernel) hk1 hFc hP1 hD1
  refine pd_S hP hD [ob11_0_ xo xk xn xc xh xt xw xm xp pf ph tr fi, ob3_0_ xn vp vn n1 n2 n3 n4 n5, ai_ cy n1 40 fk, ai_ cy n2 40 fs, ai_ cy n3 40 fe, ai_ cy n4 40 fw, ai_ cy n5 40 fp, ob0_0_ xc xn xk clo cro c4 c5 c6 c7 c8, aq_ cy 6 clo 12 (gf_ rl), ai_ cy (rl 0) 12 (eMl_2 0), ai_ cy (rl 1) 12 (eMl_2 1), ai_ cy (rl 2) 12 (eMl_2 2), ai_ cy (rl 3) 12 (eMl_2 3), ai_ cy (rl 4) 12 (eMl_2 4), ai_ cy (rl 5) 12 (eMl_2 5), ai_ cy (rl 6) 12 (eMl_2 6), ai_ cy (rl 7) 12 (eMl_2 7), ai_ cy (rl 8) 12 (eMl_2 8), ai_ cy (rl 9) 12 (eMl_2 9), ai_ cy (rl 10) 12 (eMl_2 10), ai_ cy (rl 11) 12 (eMl_2 11), aq_ cy 6 cro 12 (gf_ rr), ai_ cy (rr 0) 12 (Mr 0), ai_ cy (rr 1) 12 (Mr 1), ai_ cy (rr 2) 12 (Mr 2), ai_ cy (rr 3) 12 (Mr 3), ai_ cy (rr 4) 12 (Mr 4), ai_ cy (rr 5) 12 (Mr 5), ai_ cy (rr 6) 12 (Mr 6), ai_ cy (rr 7) 12 (Mr 7), ai_ cy (rr 8) 12 (Mr 8), ai_ cy (rr 9) 12 (Mr 9), ai_ cy (rr 10) 12 (Mr 10), ai_ cy (rr 11) 12 (Mr 11), ai_ cy c4 40 f4, ai_ cy c5 40 e5_3, ai_ cy c6 40 e6_4, ai_ cy c7 12 f7, ai_ cy c8 12 f8, aq_ cy 3 xk 5 (kf_ k0 k1 k2 k3 k4), ob6_0_ k0, ob5_0_ k1, ob9_0_ k2, ob2_0_ k3, ob8_0_ k4] [0, 19, 20, 21, 22, 23, 1, 18, 24, 25, 26, 27, 28, 29, 30, 31, 32, 33, 34, 35, 36, 2, 3, 4, 5, 6, 7, 8, 9, 10, 11, 12, 13, 14, 15, 37, 38, 16, 17, 39, 40, 41, 42, 43, 44] (by decide +kernel) rfl (fun hP hD => ?_)
  have hmx_ := g_5
  have hM_ : ∀ x y : Nat, x < vp.toNatClampNeg → y < vp.toNatClampNeg → 0 ≤ zM eMl_2 x y ∧ zM eMl_2 x y ≤ 80000000 := fun x y hx hy => mtx_bd hmx_ r_fw (by have c_ := clI (i := vn) (by omega); omega) (by have c_ := clI (i := vp) (by omega); omega) (by have c_ := clI (i := vp) (by omega); omega)
  have hC_ : ∀ S : Nat → Bool, clsd (zM eMl_2) vp.toNatClampNeg 1000000 S → outZ (zM eMl_2) S vp.toNatClampNeg ≤ 100000 := fun S hS => small_cut hmx_ hnc hpr r_fw hvp hvn.2 hS
  have hO_ : ∀ S : Nat → Bool, outZ (zM eMl_2) S vp.toNatClampNeg = cutF fk fs fe fw (-9) vn.toNatClampNeg S := fun S => out_mtx hmx_ hnc hpr hvp hvn.2
  refine lv_aload_n hx hb dB_36_3_34.1.2.2.2 rfl (lv_at hl 0 rfl) ?_
  refine va_get (ci := 11) (v := .ref xc) (C := RX11) (T := TX11) (N := 12) hx hb hts (fun _ h => List.mem_cons_of_mem _ (List.mem_append_left _ (List.mem_append_left _ (List.mem_append_right _ h)))) hown hK.1 hP 0 rfl rfl 2 (by decide) (hts (.fieldLink RX11 40 "CutAtlas" "current" "LCutAtlas$Current;") (List.mem_of_getElem? (i := 1) rfl)) (fun _ h9 => h9) rfl dB_36_3_34.2.1.1 ?_
  refine lv_iload_n hx hb dB_36_3_34.2.1.2 rfl (lv_at hl 1 rfl) ?_
  refine lv_iload_n hx hb dB_36_3_34.2.2.1 rfl (lv_at hl 2 rfl) ?_
  refine ct_S hP hD hS hA [ob0_0_ xc xn xk clo cro c4 c5 c6 c7 c8, ob3_0_ xn vp vn n1 n2 n3 n4 n5, ai_ cy n2 40 fs, ai_ cy n3 40 fe, aq_ cy 6 clo 12 (gf_ rl), ai_ cy (rl 0) 12 (eMl_2 0), ai_ cy (rl 1) 12 (eMl_2 1), ai_ cy (rl 2) 12 (eMl_2 2), ai_ cy (rl 3) 12 (eMl_2 3), ai_ cy (rl 4) 12 (eMl_2 4), ai_ cy (rl 5) 12 (eMl_2 5), ai_ cy (rl 6) 12 (eMl_2 6), ai_ cy (rl 7) 12 (eMl_2 7), ai_ cy (rl 8) 12 (eMl_2 8), ai_ cy (rl 9) 12 (eMl_2 9), ai_ cy (rl 10) 12 (eMl_2 10), ai_ cy (rl 11) 12 (eMl_2 11), aq_ cy 6 cro 12 (gf_ rr), ai_ cy (rr 0) 12 (Mr 0), ai_ cy (rr 1) 12 (Mr 1), ai_ cy (rr 2) 12 (Mr 2), ai_ cy (rr 3) 12 (Mr 3), ai_ cy (rr 4) 12 (Mr 4), ai_ cy (rr 5) 12 (Mr 5), ai_ cy (rr 6) 12 (Mr 6), ai_ cy (rr 7) 12 (Mr 7), ai_ cy (rr 8) 12 (Mr 8), ai_ cy (rr 9) 12 (Mr 9), ai_ cy (rr 10) 12 (Mr 10), ai_ cy (rr 11) 12 (Mr 11), ai_ cy c4 40 f4, ai_ cy c5 40 e5_3, ai_ cy c6 40 e6_4, ai_ cy c7 12 f7, ai_ cy c8 12 f8] [7, 1, 3, 4, 8, 9, 10, 11, 12, 13, 14, 15, 16, 17, 18, 19, 20, 21, 22, 23, 24, 25, 26, 27, 28, 29, 30, 31, 32, 33, 34, 35, 36, 37, 38] (by decide +kernel) rfl (fun hPc hDw hFc hC_ => ?_)
  refine va_calli (va_runV (As := [.int a1, .int a2]) (rest := []) ⟨hx, hb, hml, hown, hts⟩ (c_X0_fill2 l D cy H.size xc xk clo cro c4 c5 c6 c7 c8 xn n1 n2 n3 n4 n5 vp vn fs fe rl eMl_2 rr Mr f4 e5_3 e6_4 f7 f8 a1 a2 (by first | with_reducible assumption | omega | assumption) (by first | with_reducible assumption | omega | assumption) (by first | with_reducible assumption | omega | assumption) (by first | with_reducible assumption | omega | assumption) (by first | with_reducible assumption | assumption | omega) (by first | with_reducible assumption | assumption | omega) (by first | with_reducible assumption | assumption | omega) (by first | with_reducible assumption | assumption | omega) (by first | with_reducible assumption | assumption | omega)) (cwV 2 hts gX11_mostNow_X0_fill rfl rfl rfl ⟨rfl, hd_X0_fill⟩ ⟨Nat.le_of_ble_eq_true rfl, Nat.le_of_ble_eq_true rfl⟩) ⟨bl_g, va_recvX hK.1 hP (ci := 0) (q0 := 7) rfl rfl, fun U hU hW => ⟨rfl, by rw [hU], by rw [hU]; exact hPc, ⟨kk_mv hW hK, arrOfT_moved hW.alike hG⟩, hDw⟩⟩ rfl rfl hl.1 rfl (lv_room (Nat.le_of_ble_eq_true rfl)) dB_36_3_34.2.2.2.1 ⟨Nat.le_of_ble_eq_true rfl, Nat.le_of_ble_eq_true rfl⟩) hS (fun q _ h => hFc q h) hFc (fun r_7 u t H locs ht hvm hw hB hz1 hk1 hS => ?_)
  obtain ⟨eu_, hw⟩ := hw
  have eu_ := eu_.symm
  subst eu_
  obtain ⟨eMr_8, e4_9, e7_10, e8_11, g_12, g_13, g_14, hP1, hD1⟩ := hB
  rw [ht] at hP1
  obtain ⟨hP, hD⟩ := va_join (wr := [ob11_0_ xo xk xn xc xh xt xw xm xp pf ph tr fi, ai_ cy n1 40 fk, ai_ cy n4 40 fw, ai_ cy n5 40 fp, aq_ cy 3 xk 5 (kf_ k0 k1 k2 k3 k4), ob6_0_ k0, ob5_0_ k1, ob9_0_ k2, ob2_0_ k3, ob8_0_ k4]) (w1 := [ob0_0_ xc xn xk clo cro c4 c5 c6 c7 c8, ob3_0_ xn vp vn n1 n2 n3 n4 n5, ai_ cy n2 40 fs, ai_ cy n3 40 fe, aq_ cy 6 clo 12 (gf_ rl), ai_ cy (rl 0) 12 (eMl_2 0), ai_ cy (rl 1) 12 (eMl_2 1), ai_ cy (rl 2) 12 (eMl_2 2), ai_ cy (rl 3) 12 (eMl_2 3), ai_ cy (rl 4) 12 (eMl_2 4), ai_ cy (rl 5) 12 (eMl_2 5), ai_ cy (rl 6) 12 (eMl_2 6), ai_ cy (rl 7) 12 (eMl_2 7), ai_ cy (rl 8) 12 (eMl_2 8), ai_ cy (rl 9) 12 (eMl_2 9), ai_ cy (rl 10) 12 (eMl_2 10), ai_ cy (rl 11) 12 (eMl_2 11), aq_ cy 6 cro 12 (gf_ rr), ai_ cy (rr 0) 12 (eMr_8 0), ai_ cy (rr 1) 12 (eMr_8 1), ai_ cy (rr 2) 12 (eMr_8 2), ai_ cy (rr 3) 12 (eMr_8 3), ai_ cy (rr 4) 12 (eMr_8 4), ai_ cy (rr 5) 12 (eMr_8 5), ai_ cy (rr 6) 12 (eMr_8 6), ai_ cy (rr 7) 12 (eMr_8 7), ai_ cy (rr 8) 12 (eMr_8 8), ai_ cy (rr 9) 12 (eMr_8 9), ai_ cy (rr 10) 12 (eMr_8 10), ai_ cy (rr 11) 12 (eMr_8 11), ai_ cy c4 40 e4_9, ai_ cy c5 40 e5_3, ai_ cy c6 40 e6_4, ai_ cy c7 12 e7_10, ai_ cy c8 12 e8_11]) hP hD [7, 1, 3, 4, 8, 9, 10, 11, 12, 13, 14, 15, 16, 17, 18, 19, 20, 21, 22, 23, 24, 25, 26, 27, 28, 29, 30, 31, 32, 33, 34, 35, 36, 37, 38] [0, 2, 5, 6, 39, 40, 41, 42, 43, 44] hC_ rfl (by decide) (by decide) hk1 hFc hP1 hD1
  refine pd_S hP hD [ob11_0_ xo xk xn xc xh xt xw xm xp pf ph tr fi, ob3_0_ xn vp vn n1 n2 n3 n4 n5, ai_ cy n1 40 fk, ai_ cy n2 40 fs, ai_ cy n3 40 fe, ai_ cy n4 40 fw, ai_ cy n5 40 fp, ob0_0_ xc xn xk clo cro c4 c5 c6 c7 c8, aq_ cy 6 clo 12 (gf_ rl), ai_ cy (rl 0) 12 (eMl_2 0), ai_ cy (rl 1) 12 (eMl_2 1), ai_ cy (rl 2) 12 (eMl_2 2), ai_ cy (rl 3) 12 (eMl_2 3), ai_ cy (rl 4) 12 (eMl_2 4), ai_ cy (rl 5) 12 (eMl_2 5), ai_ cy (rl 6) 12 (eMl_2 6), ai_ cy (rl 7) 12 (eMl_2 7), ai_ cy (rl 8) 12 (eMl_2 8), ai_ cy (rl 9) 12 (eMl_2 9), ai_ cy (rl 10) 12 (eMl_2 10), ai_ cy (rl 11) 12 (eMl_2 11), aq_ cy 6 cro 12 (gf_ rr), ai_ cy (rr 0) 12 (eMr_8 0), ai_ cy (rr 1) 12 (eMr_8 1), ai_ cy (rr 2) 12 (eMr_8 2), ai_ cy (rr 3) 12 (eMr_8 3), ai_ cy (rr 4) 12 (eMr_8 4), ai_ cy (rr 5) 12 (eMr_8 5), ai_ cy (rr 6) 12 (eMr_8 6), ai_ cy (rr 7) 12 (eMr_8 7), ai_ cy (rr 8) 12 (eMr_8 8), ai_ cy (rr 9) 12 (eMr_8 9), ai_ cy (rr 10) 12 (eMr_8 10), ai_ cy (rr 11) 12 (eMr_8 11), ai_ cy c4 40 e4_9, ai_ cy c5 40 e5_3, ai_ cy c6 40 e6_4, ai_ cy c7 12 e7_10, ai_ cy c8 12 e8_11, aq_ cy 3 xk 5 (kf_ k0 k1 k2 k3 k4), ob6_0_ k0, ob5_0_ k1, ob9_0_ k2, ob2_0_ k3, ob8_0_ k4] [0, 11, 1, 12, 13, 2, 3, 10, 14, 15, 16, 17, 18, 19, 20, 21, 22, 23, 24, 25, 26, 27, 28, 29, 30, 31, 32, 33, 34, 35, 36, 37, 38, 39, 40, 41, 42, 43, 44, 4, 5, 6, 7, 8, 9] (by decide +kernel) rfl (fun hP hD => ?_)
  have f0_r_7 := hw
  have hfo_ := g_12
  rw [hQ]
  exact W.iret (v := r_7) hx hb hr (fun t ht hW => ⟨⟨r_7, r_7, rfl, ⟨rfl, (mostR_cg f0_r_7 hO_)⟩, eMl_2, eMr_8, e4_9, e5_3, e6_4, e7_10, e8_11, (hO_), (hfo_), (by first | with_reducible assumption | assumption | exact rng_zero (by omega) (by omega) | omega), (by first | with_reducible assumption | assumption | exact rng_zero (by omega) (by omega) | omega), by rw [ht]; exact hP, hD⟩, hS.F ht⟩) hS.2.2 dB_36_3_34.2.2.2.2

set_option maxHeartbeats 4000000 in
set_option maxRecDepth 100000 in
theorem c_X11_most2 (l : Launch) (D : va_G) (cy : Nat → ClassId) (sz : Nat) (xo : Nat) (xk : Nat) (xn : Nat) (xc : Nat) (xh : Nat) (xt : Nat) (xw : Nat) (xm : Nat) (xp : Nat) (pf : Int32) (ph : Int32) (tr : Int64) (fi : Int32) (n1 : Nat) (n2 : Nat) (n3 : Nat) (n4 : Nat) (n5 : Nat) (vp : Int32) (vn : Int32) (clo : Nat) (cro : Nat) (c4 : Nat) (c5 : Nat) (c6 : Nat) (c7 : Nat) (c8 : Nat) (fk : Nat → Int32) (fs : Nat → Int32) (fe : Nat → Int32) (fw : Nat → Int32) (fp : Nat → Int32) (rl : Nat → Nat) (Ml : Nat → Nat → Int32) (rr : Nat → Nat) (Mr : Nat → Nat → Int32) (f4 : Nat → Int32) (f5 : Nat → Int32) (f6 : Nat → Int32) (f7 : Nat → Int32) (f8 : Nat → Int32) (k0 : Nat) (k1 : Nat) (k2 : Nat) (k3 : Nat) (k4 : Nat) (a1 : Int32) (a2 : Int32) (hvp : 0 ≤ vp.toInt ∧ vp.toInt ≤ 12) (hvn : 0 ≤ vn.toInt ∧ vn.toInt ≤ 40) (hnc : netC vp.toInt vn.toInt fs fe) (hpr : prng fs fe 40) (r_f7 : rng f7 12 (0) (11)) (r_f8 : rng f8 12 (0) (11)) (r_fk : rng fk 40 (0) (4)) (r_fw : rng fw 40 (0) (2000)) : Met l yX11_most wsX11_most ({ frames := 5, cells := 0, slots := 0, locals := 110 }) (va_Pc [.ref xo, .int a1, .int a2] (fun U => U.heap.size = sz ∧ va_P D vwCl [ob11_0_ xo xk xn xc xh xt xw xm xp pf ph tr fi, ob3_0_ xn vp vn n1 n2 n3 n4 n5, ai_ cy n1 40 fk, ai_ cy n2 40 fs, ai_ cy n3 40 fe, ai_ cy n4 40 fw, ai_ cy n5 40 fp, ob0_0_ xc xn xk clo cro c4 c5 c6 c7 c8, aq_ cy 6 clo 12 (gf_ rl), ai_ cy (rl 0) 12 (Ml 0), ai_ cy (rl 1) 12 (Ml 1), ai_ cy (rl 2) 12 (Ml 2), ai_ cy (rl 3) 12 (Ml 3), ai_ cy (rl 4) 12 (Ml 4), ai_ cy (rl 5) 12 (Ml 5), ai_ cy (rl 6) 12 (Ml 6), ai_ cy (rl 7) 12 (Ml 7), ai_ cy (rl 8) 12 (Ml 8), ai_ cy (rl 9) 12 (Ml 9), ai_ cy (rl 10) 12 (Ml 10), ai_ cy (rl 11) 12 (Ml 11), aq_ cy 6 cro 12 (gf_ rr), ai_ cy (rr 0) 12 (Mr 0), ai_ cy (rr 1) 12 (Mr 1), ai_ cy (rr 2) 12 (Mr 2), ai_ cy (rr 3) 12 (Mr 3), ai_ cy (rr 4) 12 (Mr 4), ai_ cy (rr 5) 12 (Mr 5), ai_ cy (rr 6) 12 (Mr 6), ai_ cy (rr 7) 12 (Mr 7), ai_ cy (rr 8) 12 (Mr 8), ai_ cy (rr 9) 12 (Mr 9), ai_ cy (rr 10) 12 (Mr 10), ai_ cy (rr 11) 12 (Mr 11), ai_ cy c4 40 f4, ai_ cy c5 40 f5, ai_ cy c6 40 f6, ai_ cy c7 12 f7, ai_ cy c8 12 f8, aq_ cy 3 xk 5 (kf_ k0 k1 k2 k3 k4), ob6_0_ k0, ob5_0_ k1, ob9_0_ k2, ob2_0_ k3, ob8_0_ k4] U.heap ∧ kg_ D cy U ∧ va_D (fun _ => True) [ob11_0_ xo xk xn xc xh xt xw xm xp pf ph tr fi, ob3_0_ xn vp vn n1 n2 n3 n4 n5, ai_ cy n1 40 fk, ai_ cy n2 40 fs, ai_ cy n3 40 fe, ai_ cy n4 40 fw, ai_ cy n5 40 fp, ob0_0_ xc xn xk clo cro c4 c5 c6 c7 c8, aq_ cy 6 clo 12 (gf_ rl), ai_ cy (rl 0) 12 (Ml 0), ai_ cy (rl 1) 12 (Ml 1), ai_ cy (rl 2) 12 (Ml 2), ai_ cy (rl 3) 12 (Ml 3), ai_ cy (rl 4) 12 (Ml 4), ai_ cy (rl 5) 12 (Ml 5), ai_ cy (rl 6) 12 (Ml 6), ai_ cy (rl 7) 12 (Ml 7), ai_ cy (rl 8) 12 (Ml 8), ai_ cy (rl 9) 12 (Ml 9), ai_ cy (rl 10) 12 (Ml 10), ai_ cy (rl 11) 12 (Ml 11), aq_ cy 6 cro 12 (gf_ rr), ai_ cy (rr 0) 12 (Mr 0), ai_ cy (rr 1) 12 (Mr 1), ai_ cy (rr 2) 12 (Mr 2), ai_ cy (rr 3) 12 (Mr 3), ai_ cy (rr 4) 12 (Mr 4), ai_ cy (rr 5) 12 (Mr 5), ai_ cy (rr 6) 12 (Mr 6), ai_ cy (rr 7) 12 (Mr 7), ai_ cy (rr 8) 12 (Mr 8), ai_ cy (rr 9) 12 (Mr 9), ai_ cy (rr 10) 12 (Mr 10), ai_ cy (rr 11) 12 (Mr 11), ai_ cy c4 40 f4, ai_ cy c5 40 f5, ai_ cy c6 40 f6, ai_ cy c7 12 f7, ai_ cy c8 12 f8, aq_ cy 3 xk 5 (kf_ k0 k1 k2 k3 k4), ob6_0_ k0, ob5_0_ k1, ob9_0_ k2, ob2_0_ k3, ob8_0_ k4])) (va_Qi (fun (r : Int32) (_ : Unit) => ((mgI a1.toInt a2.toInt vp.toInt = 0 → mostR (cutF fk fs fe fw (-9) vn.toNatClampNeg) a1.toNatClampNeg a2.toNatClampNeg r.toInt) ∧ (mgI a1.toInt a2.toInt vp.toInt ≠ 0 → r.toInt = -1))) (fun (_ : Unit) (t : State) => ∃ (eMl : Nat → Nat → Int32), ∃ (eMr : Nat → Nat → Int32), ∃ (e4 : Nat → Int32), ∃ (e5 : Nat → Int32), ∃ (e6 : Nat → Int32), ∃ (e7 : Nat → Int32), ∃ (e8 : Nat → Int32), (rng e7 12 (0) (11)) ∧ (rng e8 12 (0) (11)) ∧ va_P D vwCl [ob11_0_ xo xk xn xc xh xt xw xm xp pf ph tr fi, ob3_0_ xn vp vn n1 n2 n3 n4 n5, ai_ cy n1 40 fk, ai_ cy n2 40 fs, ai_ cy n3 40 fe, ai_ cy n4 40 fw, ai_ cy n5 40 fp, ob0_0_ xc xn xk clo cro c4 c5 c6 c7 c8, aq_ cy 6 clo 12 (gf_ rl), ai_ cy (rl 0) 12 (eMl 0), ai_ cy (rl 1) 12 (eMl 1), ai_ cy (rl 2) 12 (eMl 2), ai_ cy (rl 3) 12 (eMl 3), ai_ cy (rl 4) 12 (eMl 4), ai_ cy (rl 5) 12 (eMl 5), ai_ cy (rl 6) 12 (eMl 6), ai_ cy (rl 7) 12 (eMl 7), ai_ cy (rl 8) 12 (eMl 8), ai_ cy (rl 9) 12 (eMl 9), ai_ cy (rl 10) 12 (eMl 10), ai_ cy (rl 11) 12 (eMl 11), aq_ cy 6 cro 12 (gf_ rr), ai_ cy (rr 0) 12 (eMr 0), ai_ cy (rr 1) 12 (eMr 1), ai_ cy (rr 2) 12 (eMr 2), ai_ cy (rr 3) 12 (eMr 3), ai_ cy (rr 4) 12 (eMr 4), ai_ cy (rr 5) 12 (eMr 5), ai_ cy (rr 6) 12 (eMr 6), ai_ cy (rr 7) 12 (eMr 7), ai_ cy (rr 8) 12 (eMr 8), ai_ cy (rr 9) 12 (eMr 9), ai_ cy (rr 10) 12 (eMr 10), ai_ cy (rr 11) 12 (eMr 11), ai_ cy c4 40 e4, ai_ cy c5 40 e5, ai_ cy c6 40 e6, ai_ cy c7 12 e7, ai_ cy c8 12 e8, aq_ cy 3 xk 5 (kf_ k0 k1 k2 k3 k4), ob6_0_ k0, ob5_0_ k1, ob9_0_ k2, ob2_0_ k3, ob8_0_ k4] t.heap ∧ va_D (va_A [ob11_0_ xo xk xn xc xh xt xw xm xp pf ph tr fi, ob3_0_ xn vp vn n1 n2 n3 n4 n5, ai_ cy n1 40 fk, ai_ cy n2 40 fs, ai_ cy n3 40 fe, ai_ cy n4 40 fw, ai_ cy n5 40 fp, ob0_0_ xc xn xk clo cro c4 c5 c6 c7 c8, aq_ cy 6 clo 12 (gf_ rl), ai_ cy (rl 0) 12 (Ml 0), ai_ cy (rl 1) 12 (Ml 1), ai_ cy (rl 2) 12 (Ml 2), ai_ cy (rl 3) 12 (Ml 3), ai_ cy (rl 4) 12 (Ml 4), ai_ cy (rl 5) 12 (Ml 5), ai_ cy (rl 6) 12 (Ml 6), ai_ cy (rl 7) 12 (Ml 7), ai_ cy (rl 8) 12 (Ml 8), ai_ cy (rl 9) 12 (Ml 9), ai_ cy (rl 10) 12 (Ml 10), ai_ cy (rl 11) 12 (Ml 11), aq_ cy 6 cro 12 (gf_ rr), ai_ cy (rr 0) 12 (Mr 0), ai_ cy (rr 1) 12 (Mr 1), ai_ cy (rr 2) 12 (Mr 2), ai_ cy (rr 3) 12 (Mr 3), ai_ cy (rr 4) 12 (Mr 4), ai_ cy (rr 5) 12 (Mr 5), ai_ cy (rr 6) 12 (Mr 6), ai_ cy (rr 7) 12 (Mr 7), ai_ cy (rr 8) 12 (Mr 8), ai_ cy (rr 9) 12 (Mr 9), ai_ cy (rr 10) 12 (Mr 10), ai_ cy (rr 11) 12 (Mr 11), ai_ cy c4 40 f4, ai_ cy c5 40 f5, ai_ cy c6 40 f6, ai_ cy c7 12 f7, ai_ cy c8 12 f8, aq_ cy 3 xk 5 (kf_ k0 k1 k2 k3 k4), ob6_0_ k0, ob5_0_ k1, ob9_0_ k2, ob2_0_ k3, ob8_0_ k4] sz) [ob11_0_ xo xk xn xc xh xt xw xm xp pf ph tr fi, ob3_0_ xn vp vn n1 n2 n3 n4 n5, ai_ cy n1 40 fk, ai_ cy n2 40 fs, ai_ cy n3 40 fe, ai_ cy n4 40 fw, ai_ cy n5 40 fp, ob0_0_ xc xn xk clo cro c4 c5 c6 c7 c8, aq_ cy 6 clo 12 (gf_ rl), ai_ cy (rl 0) 12 (eMl 0), ai_ cy (rl 1) 12 (eMl 1), ai_ cy (rl 2) 12 (eMl 2), ai_ cy (rl 3) 12 (eMl 3), ai_ cy (rl 4) 12 (eMl 4), ai_ cy (rl 5) 12 (eMl 5), ai_ cy (rl 6) 12 (eMl 6), ai_ cy (rl 7) 12 (eMl 7), ai_ cy (rl 8) 12 (eMl 8), ai_ cy (rl 9) 12 (eMl 9), ai_ cy (rl 10) 12 (eMl 10), ai_ cy (rl 11) 12 (eMl 11), aq_ cy 6 cro 12 (gf_ rr), ai_ cy (rr 0) 12 (eMr 0), ai_ cy (rr 1) 12 (eMr 1), ai_ cy (rr 2) 12 (eMr 2), ai_ cy (rr 3) 12 (eMr 3), ai_ cy (rr 4) 12 (eMr 4), ai_ cy (rr 5) 12 (eMr 5), ai_ cy (rr 6) 12 (eMr 6), ai_ cy (rr 7) 12 (eMr 7), ai_ cy (rr 8) 12 (eMr 8), ai_ cy (rr 9) 12 (eMr 9), ai_ cy (rr 10) 12 (eMr 10), ai_ cy (rr 11) 12 (eMr 11), ai_ cy c4 40 e4, ai_ cy c5 40 e5, ai_ cy c6 40 e6, ai_ cy c7 12 e7, ai_ cy c8 12 e8, aq_ cy 3 xk 5 (kf_ k0 k1 k2 k3 k4), ob6_0_ k0, ob5_0_ k1, ob9_0_ k2, ob2_0_ k3, ob8_0_ k4]) (va_A [ob11_0_ xo xk xn xc xh xt xw xm xp pf ph tr fi, ob3_0_ xn vp vn n1 n2 n3 n4 n5, ai_ cy n1 40 fk, ai_ cy n2 40 fs, ai_ cy n3 40 fe, ai_ cy n4 40 fw, ai_ cy n5 40 fp, ob0_0_ xc xn xk clo cro c4 c5 c6 c7 c8, aq_ cy 6 clo 12 (gf_ rl), ai_ cy (rl 0) 12 (Ml 0), ai_ cy (rl 1) 12 (Ml 1), ai_ cy (rl 2) 12 (Ml 2), ai_ cy (rl 3) 12 (Ml 3), ai_ cy (rl 4) 12 (Ml 4), ai_ cy (rl 5) 12 (Ml 5), ai_ cy (rl 6) 12 (Ml 6), ai_ cy (rl 7) 12 (Ml 7), ai_ cy (rl 8) 12 (Ml 8), ai_ cy (rl 9) 12 (Ml 9), ai_ cy (rl 10) 12 (Ml 10), ai_ cy (rl 11) 12 (Ml 11), aq_ cy 6 cro 12 (gf_ rr), ai_ cy (rr 0) 12 (Mr 0), ai_ cy (rr 1) 12 (Mr 1), ai_ cy (rr 2) 12 (Mr 2), ai_ cy (rr 3) 12 (Mr 3), ai_ cy (rr 4) 12 (Mr 4), ai_ cy (rr 5) 12 (Mr 5), ai_ cy (rr 6) 12 (Mr 6), ai_ cy (rr 7) 12 (Mr 7), ai_ cy (rr 8) 12 (Mr 8), ai_ cy (rr 9) 12 (Mr 9), ai_ cy (rr 10) 12 (Mr 10), ai_ cy (rr 11) 12 (Mr 11), ai_ cy c4 40 f4, ai_ cy c5 40 f5, ai_ cy c6 40 f6, ai_ cy c7 12 f7, ai_ cy c8 12 f8, aq_ cy 3 xk 5 (kf_ k0 k1 k2 k3 k4), ob6_0_ k0, ob5_0_ k1, ob9_0_ k2, ob2_0_ k3, ob8_0_ k4] sz)) 0 0 (va_A [ob11_0_ xo xk xn xc xh xt xw xm xp pf ph tr fi, ob3_0_ xn vp vn n1 n2 n3 n4 n5, ai_ cy n1 40 fk, ai_ cy n2 40 fs, ai_ cy n3 40 fe, ai_ cy n4 40 fw, ai_ cy n5 40 fp, ob0_0_ xc xn xk clo cro c4 c5 c6 c7 c8, aq_ cy 6 clo 12 (gf_ rl), ai_ cy (rl 0) 12 (Ml 0), ai_ cy (rl 1) 12 (Ml 1), ai_ cy (rl 2) 12 (Ml 2), ai_ cy (rl 3) 12 (Ml 3), ai_ cy (rl 4) 12 (Ml 4), ai_ cy (rl 5) 12 (Ml 5), ai_ cy (rl 6) 12 (Ml 6), ai_ cy (rl 7) 12 (Ml 7), ai_ cy (rl 8) 12 (Ml 8), ai_ cy (rl 9) 12 (Ml 9), ai_ cy (rl 10) 12 (Ml 10), ai_ cy (rl 11) 12 (Ml 11), aq_ cy 6 cro 12 (gf_ rr), ai_ cy (rr 0) 12 (Mr 0), ai_ cy (rr 1) 12 (Mr 1), ai_ cy (rr 2) 12 (Mr 2), ai_ cy (rr 3) 12 (Mr 3), ai_ cy (rr 4) 12 (Mr 4), ai_ cy (rr 5) 12 (Mr 5), ai_ cy (rr 6) 12 (Mr 6), ai_ cy (rr 7) 12 (Mr 7), ai_ cy (rr 8) 12 (Mr 8), ai_ cy (rr 9) 12 (Mr 9), ai_ cy (rr 10) 12 (Mr 10), ai_ cy (rr 11) 12 (Mr 11), ai_ cy c4 40 f4, ai_ cy c5 40 f5, ai_ cy c6 40 f6, ai_ cy c7 12 f7, ai_ cy c8 12 f8, aq_ cy 3 xk 5 (kf_ k0 k1 k2 k3 k4), ob6_0_ k0, ob5_0_ k1, ob9_0_ k2, ob2_0_ k3, ob8_0_ k4] sz) := by
  refine ofQ (cc := cX11_most) (maxL := 3) (ret := (some .int)) (by decide) rfl ?_
  intro p e s m args below meth c s₁ Q hQ B hml hv
  obtain ⟨rfl, hsz, hP, hK, hD0⟩ := hv
  have hG := hK.2
  have hK := hK.1
  have hx := B.exec
  have hb := B.bytes
  have hr := B.returns
  have hts := atoms_spec (ws := wsX11_most) B.pre
  have hown : s.vm.findClass RX11 = some m.cls := by have h_ := findClass_of_methodNamed B.named; exact h_
  have hlocks := B.notSynchronized
  subst hsz
  have hD := hD0.self (sz := s.heap.size)
  generalize hAe : va_A [ob11_0_ xo xk xn xc xh xt xw xm xp pf ph tr fi, ob3_0_ xn vp vn n1 n2 n3 n4 n5, ai_ cy n1 40 fk, ai_ cy n2 40 fs, ai_ cy n3 40 fe, ai_ cy n4 40 fw, ai_ cy n5 40 fp, ob0_0_ xc xn xk clo cro c4 c5 c6 c7 c8, aq_ cy 6 clo 12 (gf_ rl), ai_ cy (rl 0) 12 (Ml 0), ai_ cy (rl 1) 12 (Ml 1), ai_ cy (rl 2) 12 (Ml 2), ai_ cy (rl 3) 12 (Ml 3), ai_ cy (rl 4) 12 (Ml 4), ai_ cy (rl 5) 12 (Ml 5), ai_ cy (rl 6) 12 (Ml 6), ai_ cy (rl 7) 12 (Ml 7), ai_ cy (rl 8) 12 (Ml 8), ai_ cy (rl 9) 12 (Ml 9), ai_ cy (rl 10) 12 (Ml 10), ai_ cy (rl 11) 12 (Ml 11), aq_ cy 6 cro 12 (gf_ rr), ai_ cy (rr 0) 12 (Mr 0), ai_ cy (rr 1) 12 (Mr 1), ai_ cy (rr 2) 12 (Mr 2), ai_ cy (rr 3) 12 (Mr 3), ai_ cy (rr 4) 12 (Mr 4), ai_ cy (rr 5) 12 (Mr 5), ai_ cy (rr 6) 12 (Mr 6), ai_ cy (rr 7) 12 (Mr 7), ai_ cy (rr 8) 12 (Mr 8), ai_ cy (rr 9) 12 (Mr 9), ai_ cy (rr 10) 12 (Mr 10), ai_ cy (rr 11) 12 (Mr 11), ai_ cy c4 40 f4, ai_ cy c5 40 f5, ai_ cy c6 40 f6, ai_ cy c7 12 f7, ai_ cy c8 12 f8, aq_ cy 3 xk 5 (kf_ k0 k1 k2 k3 k4), ob6_0_ k0, ob5_0_ k1, ob9_0_ k2, ob2_0_ k3, ob8_0_ k4] s.heap.size = A at hD hQ
  have hA : ∀ q : Nat, s.heap.size ≤ q → A q := fun q h => by rw [← hAe]; exact Or.inr h
  have hS : va_S A s.heap s.heap [] := va_S.rf
  have hl := lv_entry ([.ref xo, .int a1, .int a2]) (n := 3) (Nat.le_of_ble_eq_true rfl)
  rw [lg_entry_eq]
  generalize (lg_sl ([.ref xo, .int a1, .int a2]) ++ List.replicate (3 - (lg_sl ([.ref xo, .int a1, .int a2])).length) Slot.unset).toArray = ls at hl ⊢
  have hl : lv_has ls 3 [(0, .ref xo), (1, .int a1), (2, .int a2)] := hl
  have zm1 : ((-1) : Int32).toInt = -1 := by decide
  refine lv_aload_n hx hb dB_36_2_50.1.1.1 rfl (lv_at hl 0 rfl) ?_
  refine va_get (ci := 11) (v := .ref xn) (C := RX11) (T := TX11) (N := 12) hx hb hts (fun _ h => List.mem_cons_of_mem _ (List.mem_append_left _ (List.mem_append_left _ (List.mem_append_right _ h)))) hown hK.1 hP 0 rfl rfl 1 (by decide) (hts (.fieldLink RX11 31 "CutAtlas" "net" "LCutAtlas$Net;") (List.mem_of_getElem? (i := 1) rfl)) (fun _ h9 => h9) rfl dB_36_2_50.1.1.2.1 ?_
  refine lv_iload_n hx hb dB_36_2_50.1.1.2.2 rfl (lv_at hl 1 rfl) ?_
  refine lv_i2l (v := a1.toInt64) hx hb dB_36_2_50.1.2.1.1 rfl ?_
  have q_5 : (a1.toInt64).toInt = a1.toInt := Int32.toInt_toInt64 a1
  refine lv_iload_n hx hb dB_36_2_50.1.2.1.2 rfl (lv_at hl 2 rfl) ?_
  refine lv_i2l (v := a2.toInt64) hx hb dB_36_2_50.1.2.2.1 rfl ?_
  have q_7 : (a2.toInt64).toInt = a2.toInt := Int32.toInt_toInt64 a2
  refine ct_R hP hD [ob3_0_ xn vp vn n1 n2 n3 n4 n5] [1] (by decide) rfl (fun hPc hDw => ?_)
  have hFc := va_free (wc := []) hD hS hA [] rfl
  refine va_calli (va_runV (As := [.long a1.toInt64, .long a2.toInt64]) (rest := []) ⟨hx, hb, hml, hown, hts⟩ (c_X3_hasPair l D cy s.heap.size xn n1 n2 n3 n4 n5 vp vn a1.toInt64 a2.toInt64) (cwV 2 hts gX11_most_X3_hasPair rfl rfl rfl ⟨rfl, hd_X3_hasPair⟩ ⟨Nat.le_of_ble_eq_true rfl, Nat.le_of_ble_eq_true rfl⟩) ⟨bl_, va_recvX hK.1 hP (ci := 3) (q0 := 1) rfl rfl, fun U hU hW => ⟨rfl, by rw [hU], by rw [hU]; exact hPc, kk_mv hW hK, hDw⟩⟩ rfl rfl hl.1 rfl (lv_room (Nat.le_of_ble_eq_true rfl)) dB_36_2_50.1.2.2.2 ⟨Nat.le_of_ble_eq_true rfl, Nat.le_of_ble_eq_true rfl⟩) hS (fun q _ h => hFc q h) hFc (fun r_1 u t H locs ht hvm hw hB hz1 hk1 hS => ?_)
  have hP : va_P D vwCl _ H := ro_keep hP hk1
  rcases hw with ⟨w_2, e_⟩ | ⟨w_2, e_⟩
  · have e_ := e_.symm
    subst e_
    refine lv_if_ne (tgt := 16) hx hb dB_36_2_50.2.1.1.1 (by decide) (fun c_3 => ?_) (fun c_3 => ?_)
    · have _ := c_3
      refine lv_aload_n hx hb dB_36_2_50.2.1.2.2 rfl (lv_at hl 0 rfl) ?_
      refine lv_iload_n hx hb dB_36_2_50.2.2.1.1 rfl (lv_at hl 1 rfl) ?_
      refine lv_iload_n hx hb dB_36_2_50.2.2.1.2 rfl (lv_at hl 2 rfl) ?_
      refine ct_S hP hD hS hA [ob11_0_ xo xk xn xc xh xt xw xm xp pf ph tr fi, ob3_0_ xn vp vn n1 n2 n3 n4 n5, ai_ cy n1 40 fk, ai_ cy n2 40 fs, ai_ cy n3 40 fe, ai_ cy n4 40 fw, ai_ cy n5 40 fp, ob0_0_ xc xn xk clo cro c4 c5 c6 c7 c8, aq_ cy 6 clo 12 (gf_ rl), ai_ cy (rl 0) 12 (Ml 0), ai_ cy (rl 1) 12 (Ml 1), ai_ cy (rl 2) 12 (Ml 2), ai_ cy (rl 3) 12 (Ml 3), ai_ cy (rl 4) 12 (Ml 4), ai_ cy (rl 5) 12 (Ml 5), ai_ cy (rl 6) 12 (Ml 6), ai_ cy (rl 7) 12 (Ml 7), ai_ cy (rl 8) 12 (Ml 8), ai_ cy (rl 9) 12 (Ml 9), ai_ cy (rl 10) 12 (Ml 10), ai_ cy (rl 11) 12 (Ml 11), aq_ cy 6 cro 12 (gf_ rr), ai_ cy (rr 0) 12 (Mr 0), ai_ cy (rr 1) 12 (Mr 1), ai_ cy (rr 2) 12 (Mr 2), ai_ cy (rr 3) 12 (Mr 3), ai_ cy (rr 4) 12 (Mr 4), ai_ cy (rr 5) 12 (Mr 5), ai_ cy (rr 6) 12 (Mr 6), ai_ cy (rr 7) 12 (Mr 7), ai_ cy (rr 8) 12 (Mr 8), ai_ cy (rr 9) 12 (Mr 9), ai_ cy (rr 10) 12 (Mr 10), ai_ cy (rr 11) 12 (Mr 11), ai_ cy c4 40 f4, ai_ cy c5 40 f5, ai_ cy c6 40 f6, ai_ cy c7 12 f7, ai_ cy c8 12 f8, aq_ cy 3 xk 5 (kf_ k0 k1 k2 k3 k4), ob6_0_ k0, ob5_0_ k1, ob9_0_ k2, ob2_0_ k3, ob8_0_ k4] [0, 1, 2, 3, 4, 5, 6, 7, 8, 9, 10, 11, 12, 13, 14, 15, 16, 17, 18, 19, 20, 21, 22, 23, 24, 25, 26, 27, 28, 29, 30, 31, 32, 33, 34, 35, 36, 37, 38, 39, 40, 41, 42, 43, 44] (by decide +kernel) rfl (fun hPc hDw hFc hC_ => ?_)
      refine va_calli (va_runV (As := [.int a1, .int a2]) (rest := []) ⟨hx, hb, hml, hown, hts⟩ (c_X11_mostNow2 l D cy H.size xo xk xn xc xh xt xw xm xp pf ph tr fi n1 n2 n3 n4 n5 vp vn clo cro c4 c5 c6 c7 c8 fk fs fe fw fp rl Ml rr Mr f4 f5 f6 f7 f8 k0 k1 k2 k3 k4 a1 a2 (by first | with_reducible assumption | omega | assumption) (by first | with_reducible assumption | omega | assumption) (by first | with_reducible assumption | omega | assumption) (by first | with_reducible assumption | omega | assumption) (by first | with_reducible assumption | assumption | omega) (by first | with_reducible assumption | assumption | omega) (by first | with_reducible assumption | assumption | omega) (by first | with_reducible assumption | assumption | omega) (by first | with_reducible assumption | assumption | omega) (by first | with_reducible assumption | assumption | omega) (by first | with_reducible assumption | assumption | omega)) (cwV 2 hts gX11_most_X11_mostNow rfl rfl rfl ⟨rfl, hd_X11_mostNow⟩ ⟨Nat.le_of_ble_eq_true rfl, Nat.le_of_ble_eq_true rfl⟩) ⟨bl_g, va_recvX hK.1 hP (ci := 11) (q0 := 0) rfl rfl, fun U hU hW => ⟨rfl, by rw [hU], by rw [hU]; exact hPc, ⟨kk_mv hW hK, arrOfT_moved hW.alike hG⟩, hDw⟩⟩ rfl rfl hl.1 rfl (lv_room (Nat.le_of_ble_eq_true rfl)) dB_36_2_50.2.2.2.1 ⟨Nat.le_of_ble_eq_true rfl, Nat.le_of_ble_eq_true rfl⟩) hS (fun q _ h => hFc q h) hFc (fun r_4 u t H locs ht hvm hw hB hz1 hk1 hS => ?_)
      obtain ⟨eu_, hw⟩ := hw
      have eu_ := eu_.symm
      subst eu_
      obtain ⟨eMl_5, eMr_6, e4_7, e5_8, e6_9, e7_10, e8_11, g_12, g_13, g_14, g_15, hP1, hD1⟩ := hB
      rw [ht] at hP1
      obtain ⟨hP, hD⟩ := va_join (wr := []) (w1 := [ob11_0_ xo xk xn xc xh xt xw xm xp pf ph tr fi, ob3_0_ xn vp vn n1 n2 n3 n4 n5, ai_ cy n1 40 fk, ai_ cy n2 40 fs, ai_ cy n3 40 fe, ai_ cy n4 40 fw, ai_ cy n5 40 fp, ob0_0_ xc xn xk clo cro c4 c5 c6 c7 c8, aq_ cy 6 clo 12 (gf_ rl), ai_ cy (rl 0) 12 (eMl_5 0), ai_ cy (rl 1) 12 (eMl_5 1), ai_ cy (rl 2) 12 (eMl_5 2), ai_ cy (rl 3) 12 (eMl_5 3), ai_ cy (rl 4) 12 (eMl_5 4), ai_ cy (rl 5) 12 (eMl_5 5), ai_ cy (rl 6) 12 (eMl_5 6), ai_ cy (rl 7) 12 (eMl_5 7), ai_ cy (rl 8) 12 (eMl_5 8), ai_ cy (rl 9) 12 (eMl_5 9), ai_ cy (rl 10) 12 (eMl_5 10), ai_ cy (rl 11) 12 (eMl_5 11), aq_ cy 6 cro 12 (gf_ rr), ai_ cy (rr 0) 12 (eMr_6 0), ai_ cy (rr 1) 12 (eMr_6 1), ai_ cy (rr 2) 12 (eMr_6 2), ai_ cy (rr 3) 12 (eMr_6 3), ai_ cy (rr 4) 12 (eMr_6 4), ai_ cy (rr 5) 12 (eMr_6 5), ai_ cy (rr 6) 12 (eMr_6 6), ai_ cy (rr 7) 12 (eMr_6 7), ai_ cy (rr 8) 12 (eMr_6 8), ai_ cy (rr 9) 12 (eMr_6 9), ai_ cy (rr 10) 12 (eMr_6 10), ai_ cy (rr 11) 12 (eMr_6 11), ai_ cy c4 40 e4_7, ai_ cy c5 40 e5_8, ai_ cy c6 40 e6_9, ai_ cy c7 12 e7_10, ai_ cy c8 12 e8_11, aq_ cy 3 xk 5 (kf_ k0 k1 k2 k3 k4), ob6_0_ k0, ob5_0_ k1, ob9_0_ k2, ob2_0_ k3, ob8_0_ k4]) hP hD [0, 1, 2, 3, 4, 5, 6, 7, 8, 9, 10, 11, 12, 13, 14, 15, 16, 17, 18, 19, 20, 21, 22, 23, 24, 25, 26, 27, 28, 29, 30, 31, 32, 33, 34, 35, 36, 37, 38, 39, 40, 41, 42, 43, 44] [] hC_ rfl (by decide) (by decide) hk1 hFc hP1 hD1
      refine pd_K [ob11_0_ xo xk xn xc xh xt xw xm xp pf ph tr fi, ob3_0_ xn vp vn n1 n2 n3 n4 n5, ai_ cy n1 40 fk, ai_ cy n2 40 fs, ai_ cy n3 40 fe, ai_ cy n4 40 fw, ai_ cy n5 40 fp, ob0_0_ xc xn xk clo cro c4 c5 c6 c7 c8, aq_ cy 6 clo 12 (gf_ rl), ai_ cy (rl 0) 12 (eMl_5 0), ai_ cy (rl 1) 12 (eMl_5 1), ai_ cy (rl 2) 12 (eMl_5 2), ai_ cy (rl 3) 12 (eMl_5 3), ai_ cy (rl 4) 12 (eMl_5 4), ai_ cy (rl 5) 12 (eMl_5 5), ai_ cy (rl 6) 12 (eMl_5 6), ai_ cy (rl 7) 12 (eMl_5 7), ai_ cy (rl 8) 12 (eMl_5 8), ai_ cy (rl 9) 12 (eMl_5 9), ai_ cy (rl 10) 12 (eMl_5 10), ai_ cy (rl 11) 12 (eMl_5 11), aq_ cy 6 cro 12 (gf_ rr), ai_ cy (rr 0) 12 (eMr_6 0), ai_ cy (rr 1) 12 (eMr_6 1), ai_ cy (rr 2) 12 (eMr_6 2), ai_ cy (rr 3) 12 (eMr_6 3), ai_ cy (rr 4) 12 (eMr_6 4), ai_ cy (rr 5) 12 (eMr_6 5), ai_ cy (rr 6) 12 (eMr_6 6), ai_ cy (rr 7) 12 (eMr_6 7), ai_ cy (rr 8) 12 (eMr_6 8), ai_ cy (rr 9) 12 (eMr_6 9), ai_ cy (rr 10) 12 (eMr_6 10), ai_ cy (rr 11) 12 (eMr_6 11), ai_ cy c4 40 e4_7, ai_ cy c5 40 e5_8, ai_ cy c6 40 e6_9, ai_ cy c7 12 e7_10, ai_ cy c8 12 e8_11, aq_ cy 3 xk 5 (kf_ k0 k1 k2 k3 k4), ob6_0_ k0, ob5_0_ k1, ob9_0_ k2, ob2_0_ k3, ob8_0_ k4] hP hD (fun hP hD => ?_)
      have f0_r_4 := hw
      rw [hQ]
      exact W.iret (v := r_4) hx hb hr (fun t ht hW => ⟨⟨r_4, (), rfl, (by first | exact ⟨fun h => absurd h (by unfold mgI; (repeat' (first | with_reducible refine if_n (by omega) ?_ | with_reducible refine if_ns (by omega) ?_ | with_reducible refine if_nz (by omega) ?_ | with_reducible exact if_p (by omega) (by omega) | with_reducible exact if_ps (by omega) (by omega) | with_reducible exact if_pz (by omega) (by omega))) <;> omega), fun _ => by decide⟩ | exact ⟨fun _ => f0_r_4, fun h => absurd (by unfold mgI; (repeat' (first | with_reducible refine if_n (by omega) ?_ | with_reducible refine if_ns (by omega) ?_ | with_reducible refine if_nz (by omega) ?_ | with_reducible exact if_p (by omega) (by omega) | with_reducible exact if_ps (by omega) (by omega) | with_reducible exact if_pz (by omega) (by omega))) <;> omega) h⟩), eMl_5, eMr_6, e4_7, e5_8, e6_9, e7_10, e8_11, (by first | with_reducible assumption | assumption | exact rng_zero (by omega) (by omega) | omega), (by first | with_reducible assumption | assumption | exact rng_zero (by omega) (by omega) | omega), by rw [ht]; exact hP, hD⟩, hS.F ht⟩) hS.2.2 dB_36_2_50.2.2.2.2
    · exact absurd c_3 (by decide)
  · have e_ := e_.symm
    subst e_
    refine lv_if_ne (tgt := 16) hx hb dB_36_2_50.2.1.1.1 (by decide) (fun c_16 => ?_) (fun c_16 => ?_)
    · exact absurd c_16 (by decide)
    · have _ := c_16
      refine lv_iconst (v := (-1)) hx hb dB_36_2_50.2.1.1.2 (by decide) ?_
      rw [hQ]
      exact W.iret (v := (-1)) hx hb hr (fun t ht hW => ⟨⟨(-1), (), rfl, (by first | exact ⟨fun h => absurd h (by unfold mgI; (repeat' (first | with_reducible refine if_n (by omega) ?_ | with_reducible refine if_ns (by omega) ?_ | with_reducible refine if_nz (by omega) ?_ | with_reducible exact if_p (by omega) (by omega) | with_reducible exact if_ps (by omega) (by omega) | with_reducible exact if_pz (by omega) (by omega))) <;> omega), fun _ => by decide⟩ | exact ⟨fun _ => f0__lit, fun h => absurd (by unfold mgI; (repeat' (first | with_reducible refine if_n (by omega) ?_ | with_reducible refine if_ns (by omega) ?_ | with_reducible refine if_nz (by omega) ?_ | with_reducible exact if_p (by omega) (by omega) | with_reducible exact if_ps (by omega) (by omega) | with_reducible exact if_pz (by omega) (by omega))) <;> omega) h⟩), Ml, Mr, f4, f5, f6, f7, f8, (by first | with_reducible assumption | assumption | exact rng_zero (by omega) (by omega) | omega), (by first | with_reducible assumption | assumption | exact rng_zero (by omega) (by omega) | omega), by rw [ht]; exact hP, hD⟩, hS.F ht⟩) hS.2.2 dB_36_2_50.2.1.2.1

set_option maxHeartbeats 4000000 in
set_option maxRecDepth 100000 in
theorem c_X11_raise2 (l : Launch) (D : va_G) (cy : Nat → ClassId) (sz : Nat) (xo : Nat) (xk : Nat) (xn : Nat) (xc : Nat) (xh : Nat) (xt : Nat) (xw : Nat) (xm : Nat) (xp : Nat) (pf : Int32) (ph : Int32) (tr : Int64) (fi : Int32) (n1 : Nat) (n2 : Nat) (n3 : Nat) (n4 : Nat) (n5 : Nat) (vp : Int32) (vn : Int32) (clo : Nat) (cro : Nat) (c4 : Nat) (c5 : Nat) (c6 : Nat) (c7 : Nat) (c8 : Nat) (fk : Nat → Int32) (fs : Nat → Int32) (fe : Nat → Int32) (fw : Nat → Int32) (fp : Nat → Int32) (rl : Nat → Nat) (Ml : Nat → Nat → Int32) (rr : Nat → Nat) (Mr : Nat → Nat → Int32) (f4 : Nat → Int32) (f5 : Nat → Int32) (f6 : Nat → Int32) (f7 : Nat → Int32) (f8 : Nat → Int32) (k0 : Nat) (k1 : Nat) (k2 : Nat) (k3 : Nat) (k4 : Nat) (a1 : Int32) (a2 : Int32) (a3 : Int32) (hvp : 0 ≤ vp.toInt ∧ vp.toInt ≤ 12) (hvn : 0 ≤ vn.toInt ∧ vn.toInt ≤ 40) (hnc : netC vp.toInt vn.toInt fs fe) (hpr : prng fs fe 40) (r_f7 : rng f7 12 (0) (11)) (r_f8 : rng f8 12 (0) (11)) (r_fk : rng fk 40 (0) (4)) (r_fw : rng fw 40 (0) (2000)) : Met l yX11_raise wsX11_raise ({ frames := 4, cells := 0, slots := 0, locals := 88 }) (va_Pc [.ref xo, .int a1, .int a2, .int a3] (fun U => U.heap.size = sz ∧ va_P D vwCl [ob11_0_ xo xk xn xc xh xt xw xm xp pf ph tr fi, ob3_0_ xn vp vn n1 n2 n3 n4 n5, ai_ cy n1 40 fk, ai_ cy n2 40 fs, ai_ cy n3 40 fe, ai_ cy n4 40 fw, ai_ cy n5 40 fp, ob0_0_ xc xn xk clo cro c4 c5 c6 c7 c8, aq_ cy 6 clo 12 (gf_ rl), ai_ cy (rl 0) 12 (Ml 0), ai_ cy (rl 1) 12 (Ml 1), ai_ cy (rl 2) 12 (Ml 2), ai_ cy (rl 3) 12 (Ml 3), ai_ cy (rl 4) 12 (Ml 4), ai_ cy (rl 5) 12 (Ml 5), ai_ cy (rl 6) 12 (Ml 6), ai_ cy (rl 7) 12 (Ml 7), ai_ cy (rl 8) 12 (Ml 8), ai_ cy (rl 9) 12 (Ml 9), ai_ cy (rl 10) 12 (Ml 10), ai_ cy (rl 11) 12 (Ml 11), aq_ cy 6 cro 12 (gf_ rr), ai_ cy (rr 0) 12 (Mr 0), ai_ cy (rr 1) 12 (Mr 1), ai_ cy (rr 2) 12 (Mr 2), ai_ cy (rr 3) 12 (Mr 3), ai_ cy (rr 4) 12 (Mr 4), ai_ cy (rr 5) 12 (Mr 5), ai_ cy (rr 6) 12 (Mr 6), ai_ cy (rr 7) 12 (Mr 7), ai_ cy (rr 8) 12 (Mr 8), ai_ cy (rr 9) 12 (Mr 9), ai_ cy (rr 10) 12 (Mr 10), ai_ cy (rr 11) 12 (Mr 11), ai_ cy c4 40 f4, ai_ cy c5 40 f5, ai_ cy c6 40 f6, ai_ cy c7 12 f7, ai_ cy c8 12 f8, aq_ cy 3 xk 5 (kf_ k0 k1 k2 k3 k4), ob6_0_ k0, ob5_0_ k1, ob9_0_ k2, ob2_0_ k3, ob8_0_ k4] U.heap ∧ kg_ D cy U ∧ va_D (fun _ => True) [ob11_0_ xo xk xn xc xh xt xw xm xp pf ph tr fi, ob3_0_ xn vp vn n1 n2 n3 n4 n5, ai_ cy n1 40 fk, ai_ cy n2 40 fs, ai_ cy n3 40 fe, ai_ cy n4 40 fw, ai_ cy n5 40 fp, ob0_0_ xc xn xk clo cro c4 c5 c6 c7 c8, aq_ cy 6 clo 12 (gf_ rl), ai_ cy (rl 0) 12 (Ml 0), ai_ cy (rl 1) 12 (Ml 1), ai_ cy (rl 2) 12 (Ml 2), ai_ cy (rl 3) 12 (Ml 3), ai_ cy (rl 4) 12 (Ml 4), ai_ cy (rl 5) 12 (Ml 5), ai_ cy (rl 6) 12 (Ml 6), ai_ cy (rl 7) 12 (Ml 7), ai_ cy (rl 8) 12 (Ml 8), ai_ cy (rl 9) 12 (Ml 9), ai_ cy (rl 10) 12 (Ml 10), ai_ cy (rl 11) 12 (Ml 11), aq_ cy 6 cro 12 (gf_ rr), ai_ cy (rr 0) 12 (Mr 0), ai_ cy (rr 1) 12 (Mr 1), ai_ cy (rr 2) 12 (Mr 2), ai_ cy (rr 3) 12 (Mr 3), ai_ cy (rr 4) 12 (Mr 4), ai_ cy (rr 5) 12 (Mr 5), ai_ cy (rr 6) 12 (Mr 6), ai_ cy (rr 7) 12 (Mr 7), ai_ cy (rr 8) 12 (Mr 8), ai_ cy (rr 9) 12 (Mr 9), ai_ cy (rr 10) 12 (Mr 10), ai_ cy (rr 11) 12 (Mr 11), ai_ cy c4 40 f4, ai_ cy c5 40 f5, ai_ cy c6 40 f6, ai_ cy c7 12 f7, ai_ cy c8 12 f8, aq_ cy 3 xk 5 (kf_ k0 k1 k2 k3 k4), ob6_0_ k0, ob5_0_ k1, ob9_0_ k2, ob2_0_ k3, ob8_0_ k4])) (va_Qi (fun (r : Int32) (_ : Unit) => ((rsI a1.toInt a2.toInt a3.toInt vp.toInt vn.toInt (gI (fs a3.toNatClampNeg).toInt) = 0 → mostR (cutF fk fs fe fw a3.toInt vn.toNatClampNeg) a1.toNatClampNeg a2.toNatClampNeg r.toInt) ∧ (rsI a1.toInt a2.toInt a3.toInt vp.toInt vn.toInt (gI (fs a3.toNatClampNeg).toInt) ≠ 0 → r.toInt = rsI a1.toInt a2.toInt a3.toInt vp.toInt vn.toInt (gI (fs a3.toNatClampNeg).toInt)))) (fun (_ : Unit) (t : State) => ∃ (eMl : Nat → Nat → Int32), ∃ (eMr : Nat → Nat → Int32), ∃ (e4 : Nat → Int32), ∃ (e5 : Nat → Int32), ∃ (e6 : Nat → Int32), ∃ (e7 : Nat → Int32), ∃ (e8 : Nat → Int32), (rng e7 12 (0) (11)) ∧ (rng e8 12 (0) (11)) ∧ va_P D vwCl [ob11_0_ xo xk xn xc xh xt xw xm xp pf ph tr fi, ob3_0_ xn vp vn n1 n2 n3 n4 n5, ai_ cy n1 40 fk, ai_ cy n2 40 fs, ai_ cy n3 40 fe, ai_ cy n4 40 fw, ai_ cy n5 40 fp, ob0_0_ xc xn xk clo cro c4 c5 c6 c7 c8, aq_ cy 6 clo 12 (gf_ rl), ai_ cy (rl 0) 12 (eMl 0), ai_ cy (rl 1) 12 (eMl 1), ai_ cy (rl 2) 12 (eMl 2), ai_ cy (rl 3) 12 (eMl 3), ai_ cy (rl 4) 12 (eMl 4), ai_ cy (rl 5) 12 (eMl 5), ai_ cy (rl 6) 12 (eMl 6), ai_ cy (rl 7) 12 (eMl 7), ai_ cy (rl 8) 12 (eMl 8), ai_ cy (rl 9) 12 (eMl 9), ai_ cy (rl 10) 12 (eMl 10), ai_ cy (rl 11) 12 (eMl 11), aq_ cy 6 cro 12 (gf_ rr), ai_ cy (rr 0) 12 (eMr 0), ai_ cy (rr 1) 12 (eMr 1), ai_ cy (rr 2) 12 (eMr 2), ai_ cy (rr 3) 12 (eMr 3), ai_ cy (rr 4) 12 (eMr 4), ai_ cy (rr 5) 12 (eMr 5), ai_ cy (rr 6) 12 (eMr 6), ai_ cy (rr 7) 12 (eMr 7), ai_ cy (rr 8) 12 (eMr 8), ai_ cy (rr 9) 12 (eMr 9), ai_ cy (rr 10) 12 (eMr 10), ai_ cy (rr 11) 12 (eMr 11), ai_ cy c4 40 e4, ai_ cy c5 40 e5, ai_ cy c6 40 e6, ai_ cy c7 12 e7, ai_ cy c8 12 e8, aq_ cy 3 xk 5 (kf_ k0 k1 k2 k3 k4), ob6_0_ k0, ob5_0_ k1, ob9_0_ k2, ob2_0_ k3, ob8_0_ k4] t.heap ∧ va_D (va_A [ob11_0_ xo xk xn xc xh xt xw xm xp pf ph tr fi, ob3_0_ xn vp vn n1 n2 n3 n4 n5, ai_ cy n1 40 fk, ai_ cy n2 40 fs, ai_ cy n3 40 fe, ai_ cy n4 40 fw, ai_ cy n5 40 fp, ob0_0_ xc xn xk clo cro c4 c5 c6 c7 c8, aq_ cy 6 clo 12 (gf_ rl), ai_ cy (rl 0) 12 (Ml 0), ai_ cy (rl 1) 12 (Ml 1), ai_ cy (rl 2) 12 (Ml 2), ai_ cy (rl 3) 12 (Ml 3), ai_ cy (rl 4) 12 (Ml 4), ai_ cy (rl 5) 12 (Ml 5), ai_ cy (rl 6) 12 (Ml 6), ai_ cy (rl 7) 12 (Ml 7), ai_ cy (rl 8) 12 (Ml 8), ai_ cy (rl 9) 12 (Ml 9), ai_ cy (rl 10) 12 (Ml 10), ai_ cy (rl 11) 12 (Ml 11), aq_ cy 6 cro 12 (gf_ rr), ai_ cy (rr 0) 12 (Mr 0), ai_ cy (rr 1) 12 (Mr 1), ai_ cy (rr 2) 12 (Mr 2), ai_ cy (rr 3) 12 (Mr 3), ai_ cy (rr 4) 12 (Mr 4), ai_ cy (rr 5) 12 (Mr 5), ai_ cy (rr 6) 12 (Mr 6), ai_ cy (rr 7) 12 (Mr 7), ai_ cy (rr 8) 12 (Mr 8), ai_ cy (rr 9) 12 (Mr 9), ai_ cy (rr 10) 12 (Mr 10), ai_ cy (rr 11) 12 (Mr 11), ai_ cy c4 40 f4, ai_ cy c5 40 f5, ai_ cy c6 40 f6, ai_ cy c7 12 f7, ai_ cy c8 12 f8, aq_ cy 3 xk 5 (kf_ k0 k1 k2 k3 k4), ob6_0_ k0, ob5_0_ k1, ob9_0_ k2, ob2_0_ k3, ob8_0_ k4] sz) [ob11_0_ xo xk xn xc xh xt xw xm xp pf ph tr fi, ob3_0_ xn vp vn n1 n2 n3 n4 n5, ai_ cy n1 40 fk, ai_ cy n2 40 fs, ai_ cy n3 40 fe, ai_ cy n4 40 fw, ai_ cy n5 40 fp, ob0_0_ xc xn xk clo cro c4 c5 c6 c7 c8, aq_ cy 6 clo 12 (gf_ rl), ai_ cy (rl 0) 12 (eMl 0), ai_ cy (rl 1) 12 (eMl 1), ai_ cy (rl 2) 12 (eMl 2), ai_ cy (rl 3) 12 (eMl 3), ai_ cy (rl 4) 12 (eMl 4), ai_ cy (rl 5) 12 (eMl 5), ai_ cy (rl 6) 12 (eMl 6), ai_ cy (rl 7) 12 (eMl 7), ai_ cy (rl 8) 12 (eMl 8), ai_ cy (rl 9) 12 (eMl 9), ai_ cy (rl 10) 12 (eMl 10), ai_ cy (rl 11) 12 (eMl 11), aq_ cy 6 cro 12 (gf_ rr), ai_ cy (rr 0) 12 (eMr 0), ai_ cy (rr 1) 12 (eMr 1), ai_ cy (rr 2) 12 (eMr 2), ai_ cy (rr 3) 12 (eMr 3), ai_ cy (rr 4) 12 (eMr 4), ai_ cy (rr 5) 12 (eMr 5), ai_ cy (rr 6) 12 (eMr 6), ai_ cy (rr 7) 12 (eMr 7), ai_ cy (rr 8) 12 (eMr 8), ai_ cy (rr 9) 12 (eMr 9), ai_ cy (rr 10) 12 (eMr 10), ai_ cy (rr 11) 12 (eMr 11), ai_ cy c4 40 e4, ai_ cy c5 40 e5, ai_ cy c6 40 e6, ai_ cy c7 12 e7, ai_ cy c8 12 e8, aq_ cy 3 xk 5 (kf_ k0 k1 k2 k3 k4), ob6_0_ k0, ob5_0_ k1, ob9_0_ k2, ob2_0_ k3, ob8_0_ k4]) (va_A [ob11_0_ xo xk xn xc xh xt xw xm xp pf ph tr fi, ob3_0_ xn vp vn n1 n2 n3 n4 n5, ai_ cy n1 40 fk, ai_ cy n2 40 fs, ai_ cy n3 40 fe, ai_ cy n4 40 fw, ai_ cy n5 40 fp, ob0_0_ xc xn xk clo cro c4 c5 c6 c7 c8, aq_ cy 6 clo 12 (gf_ rl), ai_ cy (rl 0) 12 (Ml 0), ai_ cy (rl 1) 12 (Ml 1), ai_ cy (rl 2) 12 (Ml 2), ai_ cy (rl 3) 12 (Ml 3), ai_ cy (rl 4) 12 (Ml 4), ai_ cy (rl 5) 12 (Ml 5), ai_ cy (rl 6) 12 (Ml 6), ai_ cy (rl 7) 12 (Ml 7), ai_ cy (rl 8) 12 (Ml 8), ai_ cy (rl 9) 12 (Ml 9), ai_ cy (rl 10) 12 (Ml 10), ai_ cy (rl 11) 12 (Ml 11), aq_ cy 6 cro 12 (gf_ rr), ai_ cy (rr 0) 12 (Mr 0), ai_ cy (rr 1) 12 (Mr 1), ai_ cy (rr 2) 12 (Mr 2), ai_ cy (rr 3) 12 (Mr 3), ai_ cy (rr 4) 12 (Mr 4), ai_ cy (rr 5) 12 (Mr 5), ai_ cy (rr 6) 12 (Mr 6), ai_ cy (rr 7) 12 (Mr 7), ai_ cy (rr 8) 12 (Mr 8), ai_ cy (rr 9) 12 (Mr 9), ai_ cy (rr 10) 12 (Mr 10), ai_ cy (rr 11) 12 (Mr 11), ai_ cy c4 40 f4, ai_ cy c5 40 f5, ai_ cy c6 40 f6, ai_ cy c7 12 f7, ai_ cy c8 12 f8, aq_ cy 3 xk 5 (kf_ k0 k1 k2 k3 k4), ob6_0_ k0, ob5_0_ k1, ob9_0_ k2, ob2_0_ k3, ob8_0_ k4] sz)) 0 0 (va_A [ob11_0_ xo xk xn xc xh xt xw xm xp pf ph tr fi, ob3_0_ xn vp vn n1 n2 n3 n4 n5, ai_ cy n1 40 fk, ai_ cy n2 40 fs, ai_ cy n3 40 fe, ai_ cy n4 40 fw, ai_ cy n5 40 fp, ob0_0_ xc xn xk clo cro c4 c5 c6 c7 c8, aq_ cy 6 clo 12 (gf_ rl), ai_ cy (rl 0) 12 (Ml 0), ai_ cy (rl 1) 12 (Ml 1), ai_ cy (rl 2) 12 (Ml 2), ai_ cy (rl 3) 12 (Ml 3), ai_ cy (rl 4) 12 (Ml 4), ai_ cy (rl 5) 12 (Ml 5), ai_ cy (rl 6) 12 (Ml 6), ai_ cy (rl 7) 12 (Ml 7), ai_ cy (rl 8) 12 (Ml 8), ai_ cy (rl 9) 12 (Ml 9), ai_ cy (rl 10) 12 (Ml 10), ai_ cy (rl 11) 12 (Ml 11), aq_ cy 6 cro 12 (gf_ rr), ai_ cy (rr 0) 12 (Mr 0), ai_ cy (rr 1) 12 (Mr 1), ai_ cy (rr 2) 12 (Mr 2), ai_ cy (rr 3) 12 (Mr 3), ai_ cy (rr 4) 12 (Mr 4), ai_ cy (rr 5) 12 (Mr 5), ai_ cy (rr 6) 12 (Mr 6), ai_ cy (rr 7) 12 (Mr 7), ai_ cy (rr 8) 12 (Mr 8), ai_ cy (rr 9) 12 (Mr 9), ai_ cy (rr 10) 12 (Mr 10), ai_ cy (rr 11) 12 (Mr 11), ai_ cy c4 40 f4, ai_ cy c5 40 f5, ai_ cy c6 40 f6, ai_ cy c7 12 f7, ai_ cy c8 12 f8, aq_ cy 3 xk 5 (kf_ k0 k1 k2 k3 k4), ob6_0_ k0, ob5_0_ k1, ob9_0_ k2, ob2_0_ k3, ob8_0_ k4] sz) := by
  refine ofQ (cc := cX11_raise) (maxL := 4) (ret := (some .int)) (by decide) rfl ?_
  intro p e s m args below meth c s₁ Q hQ B hml hv
  obtain ⟨rfl, hsz, hP, hK, hD0⟩ := hv
  have hG := hK.2
  have hK := hK.1
  have hx := B.exec
  have hb := B.bytes
  have hr := B.returns
  have hts := atoms_spec (ws := wsX11_raise) B.pre
  have hown : s.vm.findClass RX11 = some m.cls := by have h_ := findClass_of_methodNamed B.named; exact h_
  have hlocks := B.notSynchronized
  subst hsz
  have hD := hD0.self (sz := s.heap.size)
  generalize hAe : va_A [ob11_0_ xo xk xn xc xh xt xw xm xp pf ph tr fi, ob3_0_ xn vp vn n1 n2 n3 n4 n5, ai_ cy n1 40 fk, ai_ cy n2 40 fs, ai_ cy n3 40 fe, ai_ cy n4 40 fw, ai_ cy n5 40 fp, ob0_0_ xc xn xk clo cro c4 c5 c6 c7 c8, aq_ cy 6 clo 12 (gf_ rl), ai_ cy (rl 0) 12 (Ml 0), ai_ cy (rl 1) 12 (Ml 1), ai_ cy (rl 2) 12 (Ml 2), ai_ cy (rl 3) 12 (Ml 3), ai_ cy (rl 4) 12 (Ml 4), ai_ cy (rl 5) 12 (Ml 5), ai_ cy (rl 6) 12 (Ml 6), ai_ cy (rl 7) 12 (Ml 7), ai_ cy (rl 8) 12 (Ml 8), ai_ cy (rl 9) 12 (Ml 9), ai_ cy (rl 10) 12 (Ml 10), ai_ cy (rl 11) 12 (Ml 11), aq_ cy 6 cro 12 (gf_ rr), ai_ cy (rr 0) 12 (Mr 0), ai_ cy (rr 1) 12 (Mr 1), ai_ cy (rr 2) 12 (Mr 2), ai_ cy (rr 3) 12 (Mr 3), ai_ cy (rr 4) 12 (Mr 4), ai_ cy (rr 5) 12 (Mr 5), ai_ cy (rr 6) 12 (Mr 6), ai_ cy (rr 7) 12 (Mr 7), ai_ cy (rr 8) 12 (Mr 8), ai_ cy (rr 9) 12 (Mr 9), ai_ cy (rr 10) 12 (Mr 10), ai_ cy (rr 11) 12 (Mr 11), ai_ cy c4 40 f4, ai_ cy c5 40 f5, ai_ cy c6 40 f6, ai_ cy c7 12 f7, ai_ cy c8 12 f8, aq_ cy 3 xk 5 (kf_ k0 k1 k2 k3 k4), ob6_0_ k0, ob5_0_ k1, ob9_0_ k2, ob2_0_ k3, ob8_0_ k4] s.heap.size = A at hD hQ
  have hA : ∀ q : Nat, s.heap.size ≤ q → A q := fun q h => by rw [← hAe]; exact Or.inr h
  have hS : va_S A s.heap s.heap [] := va_S.rf
  have hl := lv_entry ([.ref xo, .int a1, .int a2, .int a3]) (n := 4) (Nat.le_of_ble_eq_true rfl)
  rw [lg_entry_eq]
  generalize (lg_sl ([.ref xo, .int a1, .int a2, .int a3]) ++ List.replicate (4 - (lg_sl ([.ref xo, .int a1, .int a2, .int a3])).length) Slot.unset).toArray = ls at hl ⊢
  have hl : lv_has ls 4 [(0, .ref xo), (1, .int a1), (2, .int a2), (3, .int a3)] := hl
  have zm2 : ((-2) : Int32).toInt = -2 := by decide
  have zm1 : ((-1) : Int32).toInt = -1 := by decide
  refine lv_aload_n hx hb dB_36_3_47.1.1.1.1 rfl (lv_at hl 0 rfl) ?_
  refine va_get (ci := 11) (v := .ref xn) (C := RX11) (T := TX11) (N := 12) hx hb hts (fun _ h => List.mem_cons_of_mem _ (List.mem_append_left _ (List.mem_append_left _ (List.mem_append_right _ h)))) hown hK.1 hP 0 rfl rfl 1 (by decide) (hts (.fieldLink RX11 31 "CutAtlas" "net" "LCutAtlas$Net;") (List.mem_of_getElem? (i := 1) rfl)) (fun _ h9 => h9) rfl dB_36_3_47.1.1.1.2 ?_
  refine lv_iload_n hx hb dB_36_3_47.1.1.2.1 rfl (lv_at hl 1 rfl) ?_
  refine lv_i2l (v := a1.toInt64) hx hb dB_36_3_47.1.1.2.2 rfl ?_
  have q_5 : (a1.toInt64).toInt = a1.toInt := Int32.toInt_toInt64 a1
  refine lv_iload_n hx hb dB_36_3_47.1.2.1.1 rfl (lv_at hl 2 rfl) ?_
  refine lv_i2l (v := a2.toInt64) hx hb dB_36_3_47.1.2.1.2 rfl ?_
  have q_7 : (a2.toInt64).toInt = a2.toInt := Int32.toInt_toInt64 a2
  refine ct_R hP hD [ob3_0_ xn vp vn n1 n2 n3 n4 n5] [1] (by decide) rfl (fun hPc hDw => ?_)
  have hFc := va_free (wc := []) hD hS hA [] rfl
  refine va_calli (va_runV (As := [.long a1.toInt64, .long a2.toInt64]) (rest := []) ⟨hx, hb, hml, hown, hts⟩ (c_X3_hasPair l D cy s.heap.size xn n1 n2 n3 n4 n5 vp vn a1.toInt64 a2.toInt64) (cwV 2 hts gX11_raise_X3_hasPair rfl rfl rfl ⟨rfl, hd_X3_hasPair⟩ ⟨Nat.le_of_ble_eq_true rfl, Nat.le_of_ble_eq_true rfl⟩) ⟨bl_, va_recvX hK.1 hP (ci := 3) (q0 := 1) rfl rfl, fun U hU hW => ⟨rfl, by rw [hU], by rw [hU]; exact hPc, kk_mv hW hK, hDw⟩⟩ rfl rfl hl.1 rfl (lv_room (Nat.le_of_ble_eq_true rfl)) dB_36_3_47.1.2.2.1 ⟨Nat.le_of_ble_eq_true rfl, Nat.le_of_ble_eq_true rfl⟩) hS (fun q _ h => hFc q h) hFc (fun r_1 u t H locs ht hvm hw hB hz1 hk1 hS => ?_)
  have hP : va_P D vwCl _ H := ro_keep hP hk1
  rcases hw with ⟨w_2, e_⟩ | ⟨w_2, e_⟩
  · have e_ := e_.symm
    subst e_
    refine lv_if_eq (tgt := 25) hx hb dB_36_3_47.1.2.2.2 (by decide) (fun c_3 => ?_) (fun c_3 => ?_)
    · exact absurd c_3 (by decide)
    · have _ := c_3
      refine lv_aload_n hx hb dB_36_3_47.2.1.1.1 rfl (lv_at hl 0 rfl) ?_
      refine va_get (ci := 11) (v := .ref xn) (C := RX11) (T := TX11) (N := 12) hx hb hts (fun _ h => List.mem_cons_of_mem _ (List.mem_append_left _ (List.mem_append_left _ (List.mem_append_right _ h)))) hown hK.1 hP 0 rfl rfl 1 (by decide) (hts (.fieldLink RX11 31 "CutAtlas" "net" "LCutAtlas$Net;") (List.mem_of_getElem? (i := 1) rfl)) (fun _ h9 => h9) rfl dB_36_3_47.2.1.1.2 ?_
      refine lv_iload_n hx hb dB_36_3_47.2.1.2.1 rfl (lv_at hl 3 rfl) ?_
      refine ct_R hP hD [ob3_0_ xn vp vn n1 n2 n3 n4 n5] [1] (by decide) rfl (fun hPc hDw => ?_)
      have hFc := va_free (wc := []) hD hS hA [] rfl
      refine va_calli (va_runV (As := [.int a3]) (rest := []) ⟨hx, hb, hml, hown, hts⟩ (c_X3_hasLine l D cy H.size xn n1 n2 n3 n4 n5 vp vn a3) (cwV 1 hts gX11_raise_X3_hasLine rfl rfl rfl ⟨rfl, hd_X3_hasLine⟩ ⟨Nat.le_of_ble_eq_true rfl, Nat.le_of_ble_eq_true rfl⟩) ⟨bl_, va_recvX hK.1 hP (ci := 3) (q0 := 1) rfl rfl, fun U hU hW => ⟨rfl, by rw [hU], by rw [hU]; exact hPc, kk_mv hW hK, hDw⟩⟩ rfl rfl hl.1 rfl (lv_room (Nat.le_of_ble_eq_true rfl)) dB_36_3_47.2.1.2.2 ⟨Nat.le_of_ble_eq_true rfl, Nat.le_of_ble_eq_true rfl⟩) hS (fun q _ h => hFc q h) hFc (fun r_4 u t H locs ht hvm hw hB hz1 hk1 hS => ?_)
      have hP : va_P D vwCl _ H := ro_keep hP hk1
      rcases hw with ⟨w_5, e_⟩ | ⟨w_5, e_⟩
      · have e_ := e_.symm
        subst e_
        refine lv_if_ne (tgt := 27) hx hb dB_36_3_47.2.2.1.1 (by decide) (fun c_6 => ?_) (fun c_6 => ?_)
        · have _ := c_6
          refine lv_aload_n hx hb dB_36_3_47.2.2.2.2 rfl (lv_at hl 0 rfl) ?_
          refine va_get (ci := 11) (v := .ref xn) (C := RX11) (T := TX11) (N := 12) hx hb hts (fun _ h => List.mem_cons_of_mem _ (List.mem_append_left _ (List.mem_append_left _ (List.mem_append_right _ h)))) hown hK.1 hP 0 rfl rfl 1 (by decide) (hts (.fieldLink RX11 31 "CutAtlas" "net" "LCutAtlas$Net;") (List.mem_of_getElem? (i := 1) rfl)) (fun _ h9 => h9) rfl dB_36_3_48.1.1.1.1 ?_
          refine lv_iload_n hx hb dB_36_3_48.1.1.1.2 rfl (lv_at hl 3 rfl) ?_
          refine ct_R hP hD [ob3_0_ xn vp vn n1 n2 n3 n4 n5, ai_ cy n2 40 fs] [1, 3] (by decide) rfl (fun hPc hDw => ?_)
          have hFc := va_free (wc := []) hD hS hA [] rfl
          refine va_calli (va_runV (As := [.int a3]) (rest := []) ⟨hx, hb, hml, hown, hts⟩ (c_X3_isMissing l D cy H.size xn n1 n2 n3 n4 n5 vp vn fs a3 (by first | with_reducible assumption | omega | assumption)) (cwV 1 hts gX11_raise_X3_isMissing rfl rfl rfl ⟨rfl, hd_X3_isMissing⟩ ⟨Nat.le_of_ble_eq_true rfl, Nat.le_of_ble_eq_true rfl⟩) ⟨bl_, va_recvX hK.1 hP (ci := 3) (q0 := 1) rfl rfl, fun U hU hW => ⟨rfl, by rw [hU], by rw [hU]; exact hPc, kk_mv hW hK, hDw⟩⟩ rfl rfl hl.1 rfl (lv_room (Nat.le_of_ble_eq_true rfl)) dB_36_3_48.1.1.2.1 ⟨Nat.le_of_ble_eq_true rfl, Nat.le_of_ble_eq_true rfl⟩) hS (fun q _ h => hFc q h) hFc (fun r_7 u t H locs ht hvm hw hB hz1 hk1 hS => ?_)
          have hP : va_P D vwCl _ H := ro_keep hP hk1
          rcases hw with ⟨w_8, e_⟩ | ⟨w_8, e_⟩
          · have e_ := e_.symm
            subst e_
            refine lv_if_eq (tgt := 41) hx hb dB_36_3_48.1.1.2.2 (by decide) (fun c_9 => ?_) (fun c_9 => ?_)
            · exact absurd c_9 (by decide)
            · have _ := c_9
              refine lv_bipush (v := (-2)) hx hb dB_36_3_48.1.2.1.1 (by decide) ?_
              rw [hQ]
              exact W.iret (v := (-2)) hx hb hr (fun t ht hW => ⟨⟨(-2), (), rfl, (⟨fun h => absurd h (by first | (rw [gI_0 (by omega)]; unfold rsI; (repeat' (first | with_reducible refine if_n (by omega) ?_ | with_reducible refine if_ns (by omega) ?_ | with_reducible refine if_nz (by omega) ?_ | with_reducible exact if_p (by omega) (by omega) | with_reducible exact if_ps (by omega) (by omega) | with_reducible exact if_pz (by omega) (by omega))) <;> omega) | (rw [gI_1 (by omega)]; unfold rsI; (repeat' (first | with_reducible refine if_n (by omega) ?_ | with_reducible refine if_ns (by omega) ?_ | with_reducible refine if_nz (by omega) ?_ | with_reducible exact if_p (by omega) (by omega) | with_reducible exact if_ps (by omega) (by omega) | with_reducible exact if_pz (by omega) (by omega))) <;> omega) | (unfold rsI; (repeat' (first | with_reducible refine if_n (by omega) ?_ | with_reducible refine if_ns (by omega) ?_ | with_reducible refine if_nz (by omega) ?_ | with_reducible exact if_p (by omega) (by omega) | with_reducible exact if_ps (by omega) (by omega) | with_reducible exact if_pz (by omega) (by omega))) <;> omega)), fun _ => (by first | (rw [gI_0 (by omega)]; unfold rsI; (repeat' (first | with_reducible refine if_n (by omega) ?_ | with_reducible refine if_ns (by omega) ?_ | with_reducible refine if_nz (by omega) ?_ | with_reducible exact if_p (by omega) (by omega) | with_reducible exact if_ps (by omega) (by omega) | with_reducible exact if_pz (by omega) (by omega))) <;> omega) | (rw [gI_1 (by omega)]; unfold rsI; (repeat' (first | with_reducible refine if_n (by omega) ?_ | with_reducible refine if_ns (by omega) ?_ | with_reducible refine if_nz (by omega) ?_ | with_reducible exact if_p (by omega) (by omega) | with_reducible exact if_ps (by omega) (by omega) | with_reducible exact if_pz (by omega) (by omega))) <;> omega) | (unfold rsI; (repeat' (first | with_reducible refine if_n (by omega) ?_ | with_reducible refine if_ns (by omega) ?_ | with_reducible refine if_nz (by omega) ?_ | with_reducible exact if_p (by omega) (by omega) | with_reducible exact if_ps (by omega) (by omega) | with_reducible exact if_pz (by omega) (by omega))) <;> omega))⟩), Ml, Mr, f4, f5, f6, f7, f8, (by first | with_reducible assumption | assumption | exact rng_zero (by omega) (by omega) | omega), (by first | with_reducible assumption | assumption | exact rng_zero (by omega) (by omega) | omega), by rw [ht]; exact hP, hD⟩, hS.F ht⟩) hS.2.2 dB_36_3_48.1.2.1.2
          · have e_ := e_.symm
            subst e_
            refine lv_if_eq (tgt := 41) hx hb dB_36_3_48.1.1.2.2 (by decide) (fun c_10 => ?_) (fun c_10 => ?_)
            · have _ := c_10
              refine lv_aload_n hx hb dB_36_3_48.1.2.2.1 rfl (lv_at hl 0 rfl) ?_
              refine va_get (ci := 11) (v := .ref xc) (C := RX11) (T := TX11) (N := 12) hx hb hts (fun _ h => List.mem_cons_of_mem _ (List.mem_append_left _ (List.mem_append_left _ (List.mem_append_right _ h)))) hown hK.1 hP 0 rfl rfl 2 (by decide) (hts (.fieldLink RX11 40 "CutAtlas" "current" "LCutAtlas$Current;") (List.mem_of_getElem? (i := 2) rfl)) (fun _ h9 => h9) rfl dB_36_3_48.1.2.2.2 ?_
              refine lv_iload_n hx hb dB_36_3_48.2.1.1.1 rfl (lv_at hl 3 rfl) ?_
              refine ct_S hP hD hS hA [ob0_0_ xc xn xk clo cro c4 c5 c6 c7 c8, ob3_0_ xn vp vn n1 n2 n3 n4 n5, ai_ cy n1 40 fk, ai_ cy n2 40 fs, ai_ cy n3 40 fe, ai_ cy n4 40 fw, aq_ cy 6 clo 12 (gf_ rl), ai_ cy (rl 0) 12 (Ml 0), ai_ cy (rl 1) 12 (Ml 1), ai_ cy (rl 2) 12 (Ml 2), ai_ cy (rl 3) 12 (Ml 3), ai_ cy (rl 4) 12 (Ml 4), ai_ cy (rl 5) 12 (Ml 5), ai_ cy (rl 6) 12 (Ml 6), ai_ cy (rl 7) 12 (Ml 7), ai_ cy (rl 8) 12 (Ml 8), ai_ cy (rl 9) 12 (Ml 9), ai_ cy (rl 10) 12 (Ml 10), ai_ cy (rl 11) 12 (Ml 11), ai_ cy c5 40 f5, ai_ cy c6 40 f6, aq_ cy 3 xk 5 (kf_ k0 k1 k2 k3 k4), ob6_0_ k0, ob5_0_ k1, ob9_0_ k2, ob2_0_ k3, ob8_0_ k4] [7, 1, 2, 3, 4, 5, 8, 9, 10, 11, 12, 13, 14, 15, 16, 17, 18, 19, 20, 35, 36, 39, 40, 41, 42, 43, 44] (by decide +kernel) rfl (fun hPc hDw hFc hC_ => ?_)
              refine va_callv (va_runV (As := [.int a3]) (rest := []) ⟨hx, hb, hml, hown, hts⟩ (c_X0_load2 l D cy H.size xc xk clo cro c4 c5 c6 c7 c8 xn n1 n2 n3 n4 n5 vp vn fk fs fe fw rl Ml f5 f6 k0 k1 k2 k3 k4 a3 (by first | with_reducible assumption | omega | assumption) (by first | with_reducible assumption | omega | assumption) (by first | with_reducible assumption | assumption | omega) (by first | with_reducible assumption | assumption | omega) (by first | with_reducible assumption | assumption | omega) (by first | with_reducible assumption | assumption | omega)) (cwV 1 hts gX11_raise_X0_load rfl rfl rfl ⟨rfl, hd_X0_load⟩ ⟨Nat.le_of_ble_eq_true rfl, Nat.le_of_ble_eq_true rfl⟩) ⟨bl_g, va_recvX hK.1 hP (ci := 0) (q0 := 7) rfl rfl, fun U hU hW => ⟨rfl, by rw [hU], by rw [hU]; exact hPc, ⟨kk_mv hW hK, arrOfT_moved hW.alike hG⟩, hDw⟩⟩ rfl rfl hl.1 rfl (lv_room (Nat.le_of_ble_eq_true rfl)) dB_36_3_48.2.1.1.2 ⟨Nat.le_of_ble_eq_true rfl, Nat.le_of_ble_eq_true rfl⟩) hS (fun q _ h => hFc q h) hFc (fun u t H locs ht hvm hw hB hz1 hk1 hS => ?_)
              obtain ⟨eMl_12, e5_13, e6_14, g_15, g_16, hP1, hD1⟩ := hB
              rw [ht] at hP1
              obtain ⟨hP, hD⟩ := va_join (wr := [ob11_0_ xo xk xn xc xh xt xw xm xp pf ph tr fi, ai_ cy n5 40 fp, aq_ cy 6 cro 12 (gf_ rr), ai_ cy (rr 0) 12 (Mr 0), ai_ cy (rr 1) 12 (Mr 1), ai_ cy (rr 2) 12 (Mr 2), ai_ cy (rr 3) 12 (Mr 3), ai_ cy (rr 4) 12 (Mr 4), ai_ cy (rr 5) 12 (Mr 5), ai_ cy (rr 6) 12 (Mr 6), ai_ cy (rr 7) 12 (Mr 7), ai_ cy (rr 8) 12 (Mr 8), ai_ cy (rr 9) 12 (Mr 9), ai_ cy (rr 10) 12 (Mr 10), ai_ cy (rr 11) 12 (Mr 11), ai_ cy c4 40 f4, ai_ cy c7 12 f7, ai_ cy c8 12 f8]) (w1 := [ob0_0_ xc xn xk clo cro c4 c5 c6 c7 c8, ob3_0_ xn vp vn n1 n2 n3 n4 n5, ai_ cy n1 40 fk, ai_ cy n2 40 fs, ai_ cy n3 40 fe, ai_ cy n4 40 fw, aq_ cy 6 clo 12 (gf_ rl), ai_ cy (rl 0) 12 (eMl_12 0), ai_ cy (rl 1) 12 (eMl_12 1), ai_ cy (rl 2) 12 (eMl_12 2), ai_ cy (rl 3) 12 (eMl_12 3), ai_ cy (rl 4) 12 (eMl_12 4), ai_ cy (rl 5) 12 (eMl_12 5), ai_ cy (rl 6) 12 (eMl_12 6), ai_ cy (rl 7) 12 (eMl_12 7), ai_ cy (rl 8) 12 (eMl_12 8), ai_ cy (rl 9) 12 (eMl_12 9), ai_ cy (rl 10) 12 (eMl_12 10), ai_ cy (rl 11) 12 (eMl_12 11), ai_ cy c5 40 e5_13, ai_ cy c6 40 e6_14, aq_ cy 3 xk 5 (kf_ k0 k1 k2 k3 k4), ob6_0_ k0, ob5_0_ k1, ob9_0_ k2, ob2_0_ k3, ob8_0_ k4]) hP hD [7, 1, 2, 3, 4, 5, 8, 9, 10, 11, 12, 13, 14, 15, 16, 17, 18, 19, 20, 35, 36, 39, 40, 41, 42, 43, 44] [0, 6, 21, 22, 23, 24, 25, 26, 27, 28, 29, 30, 31, 32, 33, 34, 37, 38] hC_ rfl (by decide +kernel) (by decide +kernel) hk1 hFc hP1 hD1
              refine pd_S hP hD [ob11_0_ xo xk xn xc xh xt xw xm xp pf ph tr fi, ob3_0_ xn vp vn n1 n2 n3 n4 n5, ai_ cy n1 40 fk, ai_ cy n2 40 fs, ai_ cy n3 40 fe, ai_ cy n4 40 fw, ai_ cy n5 40 fp, ob0_0_ xc xn xk clo cro c4 c5 c6 c7 c8, aq_ cy 6 clo 12 (gf_ rl), ai_ cy (rl 0) 12 (eMl_12 0), ai_ cy (rl 1) 12 (eMl_12 1), ai_ cy (rl 2) 12 (eMl_12 2), ai_ cy (rl 3) 12 (eMl_12 3), ai_ cy (rl 4) 12 (eMl_12 4), ai_ cy (rl 5) 12 (eMl_12 5), ai_ cy (rl 6) 12 (eMl_12 6), ai_ cy (rl 7) 12 (eMl_12 7), ai_ cy (rl 8) 12 (eMl_12 8), ai_ cy (rl 9) 12 (eMl_12 9), ai_ cy (rl 10) 12 (eMl_12 10), ai_ cy (rl 11) 12 (eMl_12 11), aq_ cy 6 cro 12 (gf_ rr), ai_ cy (rr 0) 12 (Mr 0), ai_ cy (rr 1) 12 (Mr 1), ai_ cy (rr 2) 12 (Mr 2), ai_ cy (rr 3) 12 (Mr 3), ai_ cy (rr 4) 12 (Mr 4), ai_ cy (rr 5) 12 (Mr 5), ai_ cy (rr 6) 12 (Mr 6), ai_ cy (rr 7) 12 (Mr 7), ai_ cy (rr 8) 12 (Mr 8), ai_ cy (rr 9) 12 (Mr 9), ai_ cy (rr 10) 12 (Mr 10), ai_ cy (rr 11) 12 (Mr 11), ai_ cy c4 40 f4, ai_ cy c5 40 e5_13, ai_ cy c6 40 e6_14, ai_ cy c7 12 f7, ai_ cy c8 12 f8, aq_ cy 3 xk 5 (kf_ k0 k1 k2 k3 k4), ob6_0_ k0, ob5_0_ k1, ob9_0_ k2, ob2_0_ k3, ob8_0_ k4] [0, 19, 20, 21, 22, 23, 1, 18, 24, 25, 26, 27, 28, 29, 30, 31, 32, 33, 34, 35, 36, 2, 3, 4, 5, 6, 7, 8, 9, 10, 11, 12, 13, 14, 15, 37, 38, 16, 17, 39, 40, 41, 42, 43, 44] (by decide +kernel) rfl (fun hP hD => ?_)
              have hmx_ := g_15
              have hM_ : ∀ x y : Nat, x < vp.toNatClampNeg → y < vp.toNatClampNeg → 0 ≤ zM eMl_12 x y ∧ zM eMl_12 x y ≤ 80000000 := fun x y hx hy => mtx_bd hmx_ r_fw (by have c_ := clI (i := vn) (by omega); omega) (by have c_ := clI (i := vp) (by omega); omega) (by have c_ := clI (i := vp) (by omega); omega)
              have hC_ : ∀ S : Nat → Bool, clsd (zM eMl_12) vp.toNatClampNeg 1000000 S → outZ (zM eMl_12) S vp.toNatClampNeg ≤ 100000 := fun S hS => small_cut hmx_ hnc hpr r_fw hvp hvn.2 hS
              have hO_ : ∀ S : Nat → Bool, outZ (zM eMl_12) S vp.toNatClampNeg = cutF fk fs fe fw a3.toInt vn.toNatClampNeg S := fun S => out_mtx hmx_ hnc hpr hvp hvn.2
              refine lv_aload_n hx hb dB_36_3_48.2.1.2.1 rfl (lv_at hl 0 rfl) ?_
              refine va_get (ci := 11) (v := .ref xc) (C := RX11) (T := TX11) (N := 12) hx hb hts (fun _ h => List.mem_cons_of_mem _ (List.mem_append_left _ (List.mem_append_left _ (List.mem_append_right _ h)))) hown hK.1 hP 0 rfl rfl 2 (by decide) (hts (.fieldLink RX11 40 "CutAtlas" "current" "LCutAtlas$Current;") (List.mem_of_getElem? (i := 2) rfl)) (fun _ h9 => h9) rfl dB_36_3_48.2.1.2.2 ?_
              refine lv_iload_n hx hb dB_36_3_48.2.2.1.1 rfl (lv_at hl 1 rfl) ?_
              refine lv_iload_n hx hb dB_36_3_48.2.2.1.2 rfl (lv_at hl 2 rfl) ?_
              refine ct_S hP hD hS hA [ob0_0_ xc xn xk clo cro c4 c5 c6 c7 c8, ob3_0_ xn vp vn n1 n2 n3 n4 n5, ai_ cy n2 40 fs, ai_ cy n3 40 fe, aq_ cy 6 clo 12 (gf_ rl), ai_ cy (rl 0) 12 (eMl_12 0), ai_ cy (rl 1) 12 (eMl_12 1), ai_ cy (rl 2) 12 (eMl_12 2), ai_ cy (rl 3) 12 (eMl_12 3), ai_ cy (rl 4) 12 (eMl_12 4), ai_ cy (rl 5) 12 (eMl_12 5), ai_ cy (rl 6) 12 (eMl_12 6), ai_ cy (rl 7) 12 (eMl_12 7), ai_ cy (rl 8) 12 (eMl_12 8), ai_ cy (rl 9) 12 (eMl_12 9), ai_ cy (rl 10) 12 (eMl_12 10), ai_ cy (rl 11) 12 (eMl_12 11), aq_ cy 6 cro 12 (gf_ rr), ai_ cy (rr 0) 12 (Mr 0), ai_ cy (rr 1) 12 (Mr 1), ai_ cy (rr 2) 12 (Mr 2), ai_ cy (rr 3) 12 (Mr 3), ai_ cy (rr 4) 12 (Mr 4), ai_ cy (rr 5) 12 (Mr 5), ai_ cy (rr 6) 12 (Mr 6), ai_ cy (rr 7) 12 (Mr 7), ai_ cy (rr 8) 12 (Mr 8), ai_ cy (rr 9) 12 (Mr 9), ai_ cy (rr 10) 12 (Mr 10), ai_ cy (rr 11) 12 (Mr 11), ai_ cy c4 40 f4, ai_ cy c5 40 e5_13, ai_ cy c6 40 e6_14, ai_ cy c7 12 f7, ai_ cy c8 12 f8] [7, 1, 3, 4, 8, 9, 10, 11, 12, 13, 14, 15, 16, 17, 18, 19, 20, 21, 22, 23, 24, 25, 26, 27, 28, 29, 30, 31, 32, 33, 34, 35, 36, 37, 38] (by decide +kernel) rfl (fun hPc hDw hFc hC_ => ?_)
              refine va_calli (va_runV (As := [.int a1, .int a2]) (rest := []) ⟨hx, hb, hml, hown, hts⟩ (c_X0_fill2 l D cy H.size xc xk clo cro c4 c5 c6 c7 c8 xn n1 n2 n3 n4 n5 vp vn fs fe rl eMl_12 rr Mr f4 e5_13 e6_14 f7 f8 a1 a2 (by first | with_reducible assumption | omega | assumption) (by first | with_reducible assumption | omega | assumption) (by first | with_reducible assumption | omega | assumption) (by first | with_reducible assumption | omega | assumption) (by first | with_reducible assumption | assumption | omega) (by first | with_reducible assumption | assumption | omega) (by first | with_reducible assumption | assumption | omega) (by first | with_reducible assumption | assumption | omega) (by first | with_reducible assumption | assumption | omega)) (cwV 2 hts gX11_raise_X0_fill rfl rfl rfl ⟨rfl, hd_X0_fill⟩ ⟨Nat.le_of_ble_eq_true rfl, Nat.le_of_ble_eq_true rfl⟩) ⟨bl_g, va_recvX hK.1 hP (ci := 0) (q0 := 7) rfl rfl, fun U hU hW => ⟨rfl, by rw [hU], by rw [hU]; exact hPc, ⟨kk_mv hW hK, arrOfT_moved hW.alike hG⟩, hDw⟩⟩ rfl rfl hl.1 rfl (lv_room (Nat.le_of_ble_eq_true rfl)) dB_36_3_48.2.2.2.1 ⟨Nat.le_of_ble_eq_true rfl, Nat.le_of_ble_eq_true rfl⟩) hS (fun q _ h => hFc q h) hFc (fun r_17 u t H locs ht hvm hw hB hz1 hk1 hS => ?_)
              obtain ⟨eu_, hw⟩ := hw
              have eu_ := eu_.symm
              subst eu_
              obtain ⟨eMr_18, e4_19, e7_20, e8_21, g_22, g_23, g_24, hP1, hD1⟩ := hB
              rw [ht] at hP1
              obtain ⟨hP, hD⟩ := va_join (wr := [ob11_0_ xo xk xn xc xh xt xw xm xp pf ph tr fi, ai_ cy n1 40 fk, ai_ cy n4 40 fw, ai_ cy n5 40 fp, aq_ cy 3 xk 5 (kf_ k0 k1 k2 k3 k4), ob6_0_ k0, ob5_0_ k1, ob9_0_ k2, ob2_0_ k3, ob8_0_ k4]) (w1 := [ob0_0_ xc xn xk clo cro c4 c5 c6 c7 c8, ob3_0_ xn vp vn n1 n2 n3 n4 n5, ai_ cy n2 40 fs, ai_ cy n3 40 fe, aq_ cy 6 clo 12 (gf_ rl), ai_ cy (rl 0) 12 (eMl_12 0), ai_ cy (rl 1) 12 (eMl_12 1), ai_ cy (rl 2) 12 (eMl_12 2), ai_ cy (rl 3) 12 (eMl_12 3), ai_ cy (rl 4) 12 (eMl_12 4), ai_ cy (rl 5) 12 (eMl_12 5), ai_ cy (rl 6) 12 (eMl_12 6), ai_ cy (rl 7) 12 (eMl_12 7), ai_ cy (rl 8) 12 (eMl_12 8), ai_ cy (rl 9) 12 (eMl_12 9), ai_ cy (rl 10) 12 (eMl_12 10), ai_ cy (rl 11) 12 (eMl_12 11), aq_ cy 6 cro 12 (gf_ rr), ai_ cy (rr 0) 12 (eMr_18 0), ai_ cy (rr 1) 12 (eMr_18 1), ai_ cy (rr 2) 12 (eMr_18 2), ai_ cy (rr 3) 12 (eMr_18 3), ai_ cy (rr 4) 12 (eMr_18 4), ai_ cy (rr 5) 12 (eMr_18 5), ai_ cy (rr 6) 12 (eMr_18 6), ai_ cy (rr 7) 12 (eMr_18 7), ai_ cy (rr 8) 12 (eMr_18 8), ai_ cy (rr 9) 12 (eMr_18 9), ai_ cy (rr 10) 12 (eMr_18 10), ai_ cy (rr 11) 12 (eMr_18 11), ai_ cy c4 40 e4_19, ai_ cy c5 40 e5_13, ai_ cy c6 40 e6_14, ai_ cy c7 12 e7_20, ai_ cy c8 12 e8_21]) hP hD [7, 1, 3, 4, 8, 9, 10, 11, 12, 13, 14, 15, 16, 17, 18, 19, 20, 21, 22, 23, 24, 25, 26, 27, 28, 29, 30, 31, 32, 33, 34, 35, 36, 37, 38] [0, 2, 5, 6, 39, 40, 41, 42, 43, 44] hC_ rfl (by decide) (by decide) hk1 hFc hP1 hD1
              refine pd_S hP hD [ob11_0_ xo xk xn xc xh xt xw xm xp pf ph tr fi, ob3_0_ xn vp vn n1 n2 n3 n4 n5, ai_ cy n1 40 fk, ai_ cy n2 40 fs, ai_ cy n3 40 fe, ai_ cy n4 40 fw, ai_ cy n5 40 fp, ob0_0_ xc xn xk clo cro c4 c5 c6 c7 c8, aq_ cy 6 clo 12 (gf_ rl), ai_ cy (rl 0) 12 (eMl_12 0), ai_ cy (rl 1) 12 (eMl_12 1), ai_ cy (rl 2) 12 (eMl_12 2), ai_ cy (rl 3) 12 (eMl_12 3), ai_ cy (rl 4) 12 (eMl_12 4), ai_ cy (rl 5) 12 (eMl_12 5), ai_ cy (rl 6) 12 (eMl_12 6), ai_ cy (rl 7) 12 (eMl_12 7), ai_ cy (rl 8) 12 (eMl_12 8), ai_ cy (rl 9) 12 (eMl_12 9), ai_ cy (rl 10) 12 (eMl_12 10), ai_ cy (rl 11) 12 (eMl_12 11), aq_ cy 6 cro 12 (gf_ rr), ai_ cy (rr 0) 12 (eMr_18 0), ai_ cy (rr 1) 12 (eMr_18 1), ai_ cy (rr 2) 12 (eMr_18 2), ai_ cy (rr 3) 12 (eMr_18 3), ai_ cy (rr 4) 12 (eMr_18 4), ai_ cy (rr 5) 12 (eMr_18 5), ai_ cy (rr 6) 12 (eMr_18 6), ai_ cy (rr 7) 12 (eMr_18 7), ai_ cy (rr 8) 12 (eMr_18 8), ai_ cy (rr 9) 12 (eMr_18 9), ai_ cy (rr 10) 12 (eMr_18 10), ai_ cy (rr 11) 12 (eMr_18 11), ai_ cy c4 40 e4_19, ai_ cy c5 40 e5_13, ai_ cy c6 40 e6_14, ai_ cy c7 12 e7_20, ai_ cy c8 12 e8_21, aq_ cy 3 xk 5 (kf_ k0 k1 k2 k3 k4), ob6_0_ k0, ob5_0_ k1, ob9_0_ k2, ob2_0_ k3, ob8_0_ k4] [0, 11, 1, 12, 13, 2, 3, 10, 14, 15, 16, 17, 18, 19, 20, 21, 22, 23, 24, 25, 26, 27, 28, 29, 30, 31, 32, 33, 34, 35, 36, 37, 38, 39, 40, 41, 42, 43, 44, 4, 5, 6, 7, 8, 9] (by decide +kernel) rfl (fun hP hD => ?_)
              have f0_r_17 := hw
              have hmo_ := mostR_cg f0_r_17 hO_
              rw [hQ]
              exact W.iret (v := r_17) hx hb hr (fun t ht hW => ⟨⟨r_17, (), rfl, (⟨fun _ => hmo_, fun h => absurd (by first | (rw [gI_0 (by omega)]; unfold rsI; (repeat' (first | with_reducible refine if_n (by omega) ?_ | with_reducible refine if_ns (by omega) ?_ | with_reducible refine if_nz (by omega) ?_ | with_reducible exact if_p (by omega) (by omega) | with_reducible exact if_ps (by omega) (by omega) | with_reducible exact if_pz (by omega) (by omega))) <;> omega) | (rw [gI_1 (by omega)]; unfold rsI; (repeat' (first | with_reducible refine if_n (by omega) ?_ | with_reducible refine if_ns (by omega) ?_ | with_reducible refine if_nz (by omega) ?_ | with_reducible exact if_p (by omega) (by omega) | with_reducible exact if_ps (by omega) (by omega) | with_reducible exact if_pz (by omega) (by omega))) <;> omega) | (unfold rsI; (repeat' (first | with_reducible refine if_n (by omega) ?_ | with_reducible refine if_ns (by omega) ?_ | with_reducible refine if_nz (by omega) ?_ | with_reducible exact if_p (by omega) (by omega) | with_reducible exact if_ps (by omega) (by omega) | with_reducible exact if_pz (by omega) (by omega))) <;> omega)) h⟩), eMl_12, eMr_18, e4_19, e5_13, e6_14, e7_20, e8_21, (by first | with_reducible assumption | assumption | exact rng_zero (by omega) (by omega) | omega), (by first | with_reducible assumption | assumption | exact rng_zero (by omega) (by omega) | omega), by rw [ht]; exact hP, hD⟩, hS.F ht⟩) hS.2.2 dB_36_3_48.2.2.2.2
            · exact absurd c_10 (by decide)
        · exact absurd c_6 (by decide)
      · have e_ := e_.symm
        subst e_
        refine lv_if_ne (tgt := 27) hx hb dB_36_3_47.2.2.1.1 (by decide) (fun c_25 => ?_) (fun c_25 => ?_)
        · exact absurd c_25 (by decide)
        · have _ := c_25
          refine lv_iconst (v := (-1)) hx hb dB_36_3_47.2.2.1.2 (by decide) ?_
          rw [hQ]
          exact W.iret (v := (-1)) hx hb hr (fun t ht hW => ⟨⟨(-1), (), rfl, (⟨fun h => absurd h (by first | (rw [gI_0 (by omega)]; unfold rsI; (repeat' (first | with_reducible refine if_n (by omega) ?_ | with_reducible refine if_ns (by omega) ?_ | with_reducible refine if_nz (by omega) ?_ | with_reducible exact if_p (by omega) (by omega) | with_reducible exact if_ps (by omega) (by omega) | with_reducible exact if_pz (by omega) (by omega))) <;> omega) | (rw [gI_1 (by omega)]; unfold rsI; (repeat' (first | with_reducible refine if_n (by omega) ?_ | with_reducible refine if_ns (by omega) ?_ | with_reducible refine if_nz (by omega) ?_ | with_reducible exact if_p (by omega) (by omega) | with_reducible exact if_ps (by omega) (by omega) | with_reducible exact if_pz (by omega) (by omega))) <;> omega) | (unfold rsI; (repeat' (first | with_reducible refine if_n (by omega) ?_ | with_reducible refine if_ns (by omega) ?_ | with_reducible refine if_nz (by omega) ?_ | with_reducible exact if_p (by omega) (by omega) | with_reducible exact if_ps (by omega) (by omega) | with_reducible exact if_pz (by omega) (by omega))) <;> omega)), fun _ => (by first | (rw [gI_0 (by omega)]; unfold rsI; (repeat' (first | with_reducible refine if_n (by omega) ?_ | with_reducible refine if_ns (by omega) ?_ | with_reducible refine if_nz (by omega) ?_ | with_reducible exact if_p (by omega) (by omega) | with_reducible exact if_ps (by omega) (by omega) | with_reducible exact if_pz (by omega) (by omega))) <;> omega) | (rw [gI_1 (by omega)]; unfold rsI; (repeat' (first | with_reducible refine if_n (by omega) ?_ | with_reducible refine if_ns (by omega) ?_ | with_reducible refine if_nz (by omega) ?_ | with_reducible exact if_p (by omega) (by omega) | with_reducible exact if_ps (by omega) (by omega) | with_reducible exact if_pz (by omega) (by omega))) <;> omega) | (unfold rsI; (repeat' (first | with_reducible refine if_n (by omega) ?_ | with_reducible refine if_ns (by omega) ?_ | with_reducible refine if_nz (by omega) ?_ | with_reducible exact if_p (by omega) (by omega) | with_reducible exact if_ps (by omega) (by omega) | with_reducible exact if_pz (by omega) (by omega))) <;> omega))⟩), Ml, Mr, f4, f5, f6, f7, f8, (by first | with_reducible assumption | assumption | exact rng_zero (by omega) (by omega) | omega), (by first | with_reducible assumption | assumption | exact rng_zero (by omega) (by omega) | omega), by rw [ht]; exact hP, hD⟩, hS.F ht⟩) hS.2.2 dB_36_3_47.2.2.2.1
  · have e_ := e_.symm
    subst e_
    refine lv_if_eq (tgt := 25) hx hb dB_36_3_47.1.2.2.2 (by decide) (fun c_26 => ?_) (fun c_26 => ?_)
    · have _ := c_26
      refine lv_iconst (v := (-1)) hx hb dB_36_3_47.2.2.1.2 (by decide) ?_
      rw [hQ]
      exact W.iret (v := (-1)) hx hb hr (fun t ht hW => ⟨⟨(-1), (), rfl, (⟨fun h => absurd h (by first | (rw [gI_0 (by omega)]; unfold rsI; (repeat' (first | with_reducible refine if_n (by omega) ?_ | with_reducible refine if_ns (by omega) ?_ | with_reducible refine if_nz (by omega) ?_ | with_reducible exact if_p (by omega) (by omega) | with_reducible exact if_ps (by omega) (by omega) | with_reducible exact if_pz (by omega) (by omega))) <;> omega) | (rw [gI_1 (by omega)]; unfold rsI; (repeat' (first | with_reducible refine if_n (by omega) ?_ | with_reducible refine if_ns (by omega) ?_ | with_reducible refine if_nz (by omega) ?_ | with_reducible exact if_p (by omega) (by omega) | with_reducible exact if_ps (by omega) (by omega) | with_reducible exact if_pz (by omega) (by omega))) <;> omega) | (unfold rsI; (repeat' (first | with_reducible refine if_n (by omega) ?_ | with_reducible refine if_ns (by omega) ?_ | with_reducible refine if_nz (by omega) ?_ | with_reducible exact if_p (by omega) (by omega) | with_reducible exact if_ps (by omega) (by omega) | with_reducible exact if_pz (by omega) (by omega))) <;> omega)), fun _ => (by first | (rw [gI_0 (by omega)]; unfold rsI; (repeat' (first | with_reducible refine if_n (by omega) ?_ | with_reducible refine if_ns (by omega) ?_ | with_reducible refine if_nz (by omega) ?_ | with_reducible exact if_p (by omega) (by omega) | with_reducible exact if_ps (by omega) (by omega) | with_reducible exact if_pz (by omega) (by omega))) <;> omega) | (rw [gI_1 (by omega)]; unfold rsI; (repeat' (first | with_reducible refine if_n (by omega) ?_ | with_reducible refine if_ns (by omega) ?_ | with_reducible refine if_nz (by omega) ?_ | with_reducible exact if_p (by omega) (by omega) | with_reducible exact if_ps (by omega) (by omega) | with_reducible exact if_pz (by omega) (by omega))) <;> omega) | (unfold rsI; (repeat' (first | with_reducible refine if_n (by omega) ?_ | with_reducible refine if_ns (by omega) ?_ | with_reducible refine if_nz (by omega) ?_ | with_reducible exact if_p (by omega) (by omega) | with_reducible exact if_ps (by omega) (by omega) | with_reducible exact if_pz (by omega) (by omega))) <;> omega))⟩), Ml, Mr, f4, f5, f6, f7, f8, (by first | with_reducible assumption | assumption | exact rng_zero (by omega) (by omega) | omega), (by first | with_reducible assumption | assumption | exact rng_zero (by omega) (by omega) | omega), by rw [ht]; exact hP, hD⟩, hS.F ht⟩) hS.2.2 dB_36_3_47.2.2.2.1
    · exact absurd c_26 (by decide)
end

section
set_option maxHeartbeats 4000000 in
set_option maxRecDepth 100000 in
theorem c_X12_mostOf2 (l : Launch) (D : va_G) (cy : Nat → ClassId) (sz : Nat) (mo : Nat) (g5 : Nat) (g6 : Nat) (g7 : Nat) (g8 : Nat) (g9 : Nat) (g10 : Nat) (g12 : Nat) (g13 : Nat) (g14 : Nat) (g15 : Nat) (g16 : Nat) (g17 : Nat) (g18 : Nat) (g19 : Nat) (g20 : Nat) (g22 : Nat) (g23 : Nat) (g24 : Nat) (g29 : Nat) (g30 : Nat) (g31 : Nat) (g32 : Nat) (g33 : Nat) (s0 : Int32) (s1 : Int32) (s3 : Int32) (s4 : Int32) (s11 : Int32) (s21 : Int32) (s25 : Int32) (s26 : Int32) (s27 : Int32) (s28 : Int32) (t2 : Int64) (f5 : Nat → Int32) (f6 : Nat → Int32) (f7 : Nat → Int32) (f8 : Nat → Int32) (f10 : Nat → Int32) (a1 : Int32) (a2 : Int32) (hN : 0 ≤ s4.toInt ∧ s4.toInt ≤ 40) (hPl : 0 ≤ s3.toInt ∧ s3.toInt ≤ 12) (hnet : netE s3.toInt s4.toInt f6 f7 f10) (q1 : 0 ≤ a1.toInt ∧ a1.toInt < s3.toInt) (q2 : 0 ≤ a2.toInt ∧ a2.toInt < s3.toInt) (r_f6 : rng f6 40 (0) (11)) (r_f7 : rng f7 40 (0) (11)) (r_f8 : rng f8 40 (0) (2000)) : Met l yX12_mostOf wsX12_mostOf ({ frames := 3, cells := 0, slots := 0, locals := 71 }) (va_Pc [.ref mo, .int a1, .int a2] (fun U => U.heap.size = sz ∧ va_P D vwCl [ob12_0_ mo s0 s1 t2 s3 s4 g5 g6 g7 g8 g9 g10 s11 g12 g13 g14 g15 g16 g17 g18 g19 g20 s21 g22 g23 g24 s25 s26 s27 s28 g29 g30 g31 g32 g33, ai_ cy g5 40 f5, ai_ cy g6 40 f6, ai_ cy g7 40 f7, ai_ cy g8 40 f8, az_ cy g10 40 f10] U.heap ∧ kk_ D cy U ∧ va_D (fun _ => True) [ob12_0_ mo s0 s1 t2 s3 s4 g5 g6 g7 g8 g9 g10 s11 g12 g13 g14 g15 g16 g17 g18 g19 g20 s21 g22 g23 g24 s25 s26 s27 s28 g29 g30 g31 g32 g33, ai_ cy g5 40 f5, ai_ cy g6 40 f6, ai_ cy g7 40 f7, ai_ cy g8 40 f8, az_ cy g10 40 f10])) (va_Qi (fun (r : Int32) (_ : Unit) => (mstM (cutR f5 f6 f7 f8 f10 s21.toInt s4.toNatClampNeg) a1.toNatClampNeg a2.toNatClampNeg r.toInt)) (fun (_ : Unit) (_ : State) => True) (va_A [] sz)) 0 0 (va_A [] sz) := by
  refine ofQ (cc := cX12_mostOf) (maxL := 6) (ret := (some .int)) (by decide) rfl ?_
  intro p e s m args below meth c s₁ Q hQ B hml hv
  obtain ⟨rfl, hsz, hP, hK, hD0⟩ := hv
  have hx := B.exec
  have hb := B.bytes
  have hr := B.returns
  have hts := atoms_spec (ws := wsX12_mostOf) B.pre
  have hown : s.vm.findClass RX12 = some m.cls := by have h_ := findClass_of_methodNamed B.named; exact h_
  have hlocks := B.notSynchronized
  subst hsz
  have hD : va_D (va_A [] s.heap.size) [] := dd_nil
  generalize hAe : va_A [] s.heap.size = A at hD hQ
  have hA : ∀ q : Nat, s.heap.size ≤ q → A q := fun q h => by rw [← hAe]; exact Or.inr h
  have hS : va_S A s.heap s.heap [] := va_S.rf
  have hl := lv_entry ([.ref mo, .int a1, .int a2]) (n := 6) (Nat.le_of_ble_eq_true rfl)
  rw [lg_entry_eq]
  generalize (lg_sl ([.ref mo, .int a1, .int a2]) ++ List.replicate (6 - (lg_sl ([.ref mo, .int a1, .int a2])).length) Slot.unset).toArray = ls at hl ⊢
  have hl : lv_has ls 6 [(0, .ref mo), (1, .int a1), (2, .int a2)] := hl
  have z0 : (0 : Int32).toInt = 0 := by decide
  have z1 : (1 : Int32).toInt = 1 := by decide
  have z1000000 : (1000000 : Int32).toInt = 1000000 := by decide
  refine lv_ldc (v := 1000000) hx hb hown (hts (.constant RX12 159 (1000000)) (List.mem_of_getElem? (i := 1) rfl)) dB_3_1_46.1.1.1.1 ?_
  refine lv_istore_n (lv' := [(3, .int 1000000), (0, .ref mo), (1, .int a1), (2, .int a2)]) hx hb dB_3_1_46.1.1.1.2 rfl hl (by decide) rfl (fun ls hl => ?_)
  refine lv_iconst (v := 0) hx hb dB_3_1_46.1.1.2.1 (by decide) ?_
  refine lv_istore (lv' := [(4, .int 0), (3, .int 1000000), (0, .ref mo), (1, .int a1), (2, .int a2)]) hx hb dB_3_1_46.1.1.2.2 hl (by decide) rfl (fun ls hl => ?_)
  suffices LOOP_1 : ∀ (n_1 : Nat) (x4_1 : Int32) (x3_1 : Int32) (H : Heap) (locs : List Loc) (ls : Array Slot), 4096 - x4_1.toInt < (n_1 : Int) → (0 ≤ x4_1.toInt) → (x4_1.toInt ≤ 4096) → (mstW (cutR f5 f6 f7 f8 f10 s21.toInt s4.toNatClampNeg) a1.toNatClampNeg a2.toNatClampNeg x3_1.toInt x4_1.toInt) → va_P D vwCl [ob12_0_ mo s0 s1 t2 s3 s4 g5 g6 g7 g8 g9 g10 s11 g12 g13 g14 g15 g16 g17 g18 g19 g20 s21 g22 g23 g24 s25 s26 s27 s28 g29 g30 g31 g32 g33, ai_ cy g5 40 f5, ai_ cy g6 40 f6, ai_ cy g7 40 f7, ai_ cy g8 40 f8, az_ cy g10 40 f10] H → va_S A s.heap H locs → lv_has ls 6 [(4, .int x4_1), (3, .int x3_1), (0, .ref mo), (1, .int a1), (2, .int a2)] → W p l e ({ frames := 3, cells := 0, slots := 0, locals := 71 } : Room) s m (([.ref mo, .int a1, .int a2] : List Value).toArray) below meth c H locs 0 0 Q (F0 m 6 ls []) from LOOP_1 ((4096 - (0 : Int32).toInt).toNat + 1) (0 : Int32) (1000000 : Int32) _ _ _ (by omega) (by first | with_reducible assumption | omega | assumption) (by first | with_reducible assumption | omega | assumption) (by first | exact mstW_0 | exact mstW_st v_none (by omega) (by omega) ⟨b_tr hbs_ (by omega), bt_fl hbt_ (by omega)⟩ hsz_ (by omega) | exact mstW_no v_none (by omega) (by omega) (fun h => absurd ((bt_fl hbs_ (by omega)).symm.trans h.1) (by decide)) | exact mstW_no v_none (by omega) (by omega) (fun h => absurd ((bt_nz hbt_ (by omega)).symm.trans h.2) (by decide))) hP hS (lv_sub hl [0, 1, 2, 3, 4] rfl)
  intro n_1
  induction n_1 with
  | zero =>
    intro x4_1 x3_1 H locs ls hm v0_1 v1_1 v2_1 hP hS hl
    exact absurd hm (by omega)
  | succ n_1 ih_1 =>
    intro x4_1 x3_1 H locs ls hm v0_1 v1_1 v2_1 hP hS hl
    refine lv_iload hx hb dB_3_1_46.1.2.1.1 (lv_at hl 0 rfl) ?_
    refine lv_iconst (v := 1) hx hb dB_3_1_46.1.2.1.2 (by decide) ?_
    refine lv_aload_n hx hb dB_3_1_46.1.2.2.1 rfl (lv_at hl 2 rfl) ?_
    refine va_get (ci := 12) (v := .int s3) (C := RX12) (T := TX12) (N := 34) hx hb hts (fun _ h => List.mem_cons_of_mem _ (List.mem_append_right _ h)) hown hK.1 hP 0 rfl rfl 3 (by decide) (hts (.fieldLink RX12 88 "CutAtlasModel" "places" "I") (List.mem_of_getElem? (i := 2) rfl)) (fun _ h9 => h9) rfl dB_3_1_46.1.2.2.2 ?_
    refine lv_ishl hx hb dB_3_1_46.2.1.1.1 ?_
    refine lv_topi (fun y_2 ey_2 => ?_)
    have ty_2 : (1 ≤ y_2.toInt ∧ y_2.toInt ≤ 4096) ∧ y_2.toInt = ((2 ^ s3.toNatClampNeg : Nat) : Int) := ⟨by rw [ey_2]; exact shl1 (by omega) (by omega), shl_E (by omega) ey_2⟩
    refine lv_icmp_ge (tgt := 63) hx hb dB_3_1_46.2.1.1.2 (by decide) (fun c_3 => ?_) (fun c_3 => ?_)
    · have t_3 : y_2.toInt ≤ x4_1.toInt := Int32.le_iff_toInt_le.mp c_3
      refine lv_iload_n hx hb dB_3_1_48.2.2.1 rfl (lv_at hl 1 rfl) ?_
      rw [hQ]
      exact W.iret (v := x3_1) hx hb hr (fun t ht hW => ⟨⟨x3_1, (), rfl, (mstW_end v2_1 hPl (by omega) (nc_lt (by omega) (by omega)) (nc_lt (by omega) (by omega)) (fun S T h => cutR_set hnet r_f6 r_f7 hN.2 hPl.1 h)), trivial⟩, hS.F ht⟩) hS.2.2 dB_3_1_48.2.2.2
    · have t_3 : ¬ y_2.toInt ≤ x4_1.toInt := fun h => c_3 (Int32.le_iff_toInt_le.mpr h)
      refine lv_iload hx hb dB_3_1_46.2.1.2.1 (lv_at hl 0 rfl) ?_
      refine lv_iload_n hx hb dB_3_1_46.2.1.2.2 rfl (lv_at hl 3 rfl) ?_
      refine lv_ishr hx hb dB_3_1_46.2.2.1.1 ?_
      refine lv_topi (fun y_4 ey_4 => ?_)
      refine lv_iconst (v := 1) hx hb dB_3_1_46.2.2.1.2 (by decide) ?_
      refine lv_iand hx hb dB_3_1_46.2.2.2.1 ?_
      refine lv_topi (fun y_5 ey_5 => ?_)
      have hbs_ := bI_w (x := x4_1) (y := a1) (by omega) (by omega) ey_4 ey_5
      refine lv_iconst (v := 1) hx hb dB_3_1_46.2.2.2.2 (by decide) ?_
      refine lv_icmp_ne (tgt := 57) hx hb dB_3_1_47.1.1.1.1 (by decide) (fun c_6 => ?_) (fun c_6 => ?_)
      · have t_6 : ¬ y_5.toInt = (1 : Int32).toInt := fun h => c_6 (Int32.toInt_inj.mp h)
        obtain ⟨y_7, ey_7⟩ : ∃ y : Int32, y = x4_1 + 1 := ⟨_, rfl⟩
        have ty_7 : y_7.toInt = x4_1.toInt + (1 : Int32).toInt := by rw [ey_7]; exact addI (by omega) (by omega)
        refine lv_iinc (v := y_7) (lv' := [(4, .int y_7), (3, .int x3_1), (0, .ref mo), (1, .int a1), (2, .int a2)]) hx hb dB_3_1_48.1.2.2 hl (k := 0) rfl (by rw [ey_7]; rfl) (by decide) rfl (fun ls hl => ?_)
        refine lv_goto (tgt := 6) hx hb dB_3_1_48.2.1 (by decide) ?_
        exact ih_1 y_7 x3_1 _ _ _ (by omega) (by first | with_reducible assumption | omega | assumption) (by first | with_reducible assumption | omega | assumption) (by first | exact mstW_0 | exact mstW_st v2_1 (by omega) (by omega) ⟨b_tr hbs_ (by omega), bt_fl hbt_ (by omega)⟩ hsz_ (by omega) | exact mstW_no v2_1 (by omega) (by omega) (fun h => absurd ((bt_fl hbs_ (by omega)).symm.trans h.1) (by decide)) | exact mstW_no v2_1 (by omega) (by omega) (fun h => absurd ((bt_nz hbt_ (by omega)).symm.trans h.2) (by decide))) hP hS (lv_sub hl [0, 1, 2, 3, 4] rfl)
      · have t_6 : y_5.toInt = (1 : Int32).toInt := congrArg Int32.toInt c_6
        refine lv_iload hx hb dB_3_1_47.1.1.1.2 (lv_at hl 0 rfl) ?_
        refine lv_iload_n hx hb dB_3_1_47.1.1.2.1 rfl (lv_at hl 4 rfl) ?_
        refine lv_ishr hx hb dB_3_1_47.1.1.2.2 ?_
        refine lv_topi (fun y_8 ey_8 => ?_)
        refine lv_iconst (v := 1) hx hb dB_3_1_47.1.2.1.1 (by decide) ?_
        refine lv_iand hx hb dB_3_1_47.1.2.1.2 ?_
        refine lv_topi (fun y_9 ey_9 => ?_)
        have hbt_ := bI_w (x := x4_1) (y := a2) (by omega) (by omega) ey_8 ey_9
        refine lv_if_ne (tgt := 57) hx hb dB_3_1_47.1.2.2.1 (by decide) (fun c_10 => ?_) (fun c_10 => ?_)
        · have t_10 : ¬ y_9.toInt = (0 : Int32).toInt := fun h => c_10 (Int32.toInt_inj.mp h)
          obtain ⟨y_11, ey_11⟩ : ∃ y : Int32, y = x4_1 + 1 := ⟨_, rfl⟩
          have ty_11 : y_11.toInt = x4_1.toInt + (1 : Int32).toInt := by rw [ey_11]; exact addI (by omega) (by omega)
          refine lv_iinc (v := y_11) (lv' := [(4, .int y_11), (3, .int x3_1), (0, .ref mo), (1, .int a1), (2, .int a2)]) hx hb dB_3_1_48.1.2.2 hl (k := 0) rfl (by rw [ey_11]; rfl) (by decide) rfl (fun ls hl => ?_)
          refine lv_goto (tgt := 6) hx hb dB_3_1_48.2.1 (by decide) ?_
          exact ih_1 y_11 x3_1 _ _ _ (by omega) (by first | with_reducible assumption | omega | assumption) (by first | with_reducible assumption | omega | assumption) (by first | exact mstW_0 | exact mstW_st v2_1 (by omega) (by omega) ⟨b_tr hbs_ (by omega), bt_fl hbt_ (by omega)⟩ hsz_ (by omega) | exact mstW_no v2_1 (by omega) (by omega) (fun h => absurd ((bt_fl hbs_ (by omega)).symm.trans h.1) (by decide)) | exact mstW_no v2_1 (by omega) (by omega) (fun h => absurd ((bt_nz hbt_ (by omega)).symm.trans h.2) (by decide))) hP hS (lv_sub hl [0, 1, 2, 3, 4] rfl)
        · have t_10 : y_9.toInt = (0 : Int32).toInt := congrArg Int32.toInt c_10
          refine lv_aload_n hx hb dB_3_1_47.1.2.2.2 rfl (lv_at hl 2 rfl) ?_
          refine lv_iload hx hb dB_3_1_47.2.1.1.1 (lv_at hl 0 rfl) ?_
          refine ct_R hP hD0 [ob12_0_ mo s0 s1 t2 s3 s4 g5 g6 g7 g8 g9 g10 s11 g12 g13 g14 g15 g16 g17 g18 g19 g20 s21 g22 g23 g24 s25 s26 s27 s28 g29 g30 g31 g32 g33, ai_ cy g5 40 f5, ai_ cy g6 40 f6, ai_ cy g7 40 f7, ai_ cy g8 40 f8, az_ cy g10 40 f10] [0, 1, 2, 3, 4, 5] (by decide) rfl (fun hPc hDw => ?_)
          have hFc := va_free (wc := []) hD hS hA [] rfl
          refine va_calli (va_runV (As := [.int x4_1]) (rest := []) ⟨hx, hb, hml, hown, hts⟩ (c_X12_sizeOf2 l D cy H.size mo g5 g6 g7 g8 g9 g10 g12 g13 g14 g15 g16 g17 g18 g19 g20 g22 g23 g24 g29 g30 g31 g32 g33 s0 s1 s3 s4 s11 s21 s25 s26 s27 s28 t2 f5 f6 f7 f8 f10 x4_1 (by first | with_reducible assumption | omega | assumption) (by first | with_reducible assumption | assumption | omega) (by first | with_reducible assumption | assumption | omega) (by first | with_reducible assumption | assumption | omega)) (cwV 1 hts gX12_mostOf_X12_sizeOf rfl rfl rfl ⟨rfl, hd_X12_sizeOf⟩ ⟨Nat.le_of_ble_eq_true rfl, Nat.le_of_ble_eq_true rfl⟩) ⟨bl_, va_recvX hK.1 hP (ci := 12) (q0 := 0) rfl rfl, fun U hU hW => ⟨rfl, by rw [hU], by rw [hU]; exact hPc, kk_mv hW hK, hDw⟩⟩ rfl rfl hl.1 rfl (lv_room (Nat.le_of_ble_eq_true rfl)) dB_3_1_47.2.1.1.2 ⟨Nat.le_of_ble_eq_true rfl, Nat.le_of_ble_eq_true rfl⟩) hS (fun q _ h => hFc q h) hFc (fun r_12 u t H locs ht hvm hw hB hz1 hk1 hS => ?_)
          have hP : va_P D vwCl _ H := ro_keep hP hk1
          have f0_r_12 := hw
          have hsz_ := f0_r_12
          refine lv_istore (lv' := [(5, .int r_12), (4, .int x4_1), (3, .int x3_1), (0, .ref mo), (1, .int a1), (2, .int a2)]) hx hb dB_3_1_47.2.1.2.1 hl (by decide) rfl (fun ls hl => ?_)
          refine lv_iload hx hb dB_3_1_47.2.1.2.2 (lv_at hl 0 rfl) ?_
          refine lv_iload_n hx hb dB_3_1_47.2.2.1.1 rfl (lv_at hl 2 rfl) ?_
          refine lv_icmp_ge (tgt := 55) hx hb dB_3_1_47.2.2.1.2 (by decide) (fun c_13 => ?_) (fun c_13 => ?_)
          · have t_13 : x3_1.toInt ≤ r_12.toInt := Int32.le_iff_toInt_le.mp c_13
            refine lv_iload_n hx hb dB_3_1_48.1.1 rfl (lv_at hl 2 rfl) ?_
            refine lv_istore_n (lv' := [(3, .int x3_1), (5, .int r_12), (4, .int x4_1), (0, .ref mo), (1, .int a1), (2, .int a2)]) hx hb dB_3_1_48.1.2.1 rfl hl (by decide) rfl (fun ls hl => ?_)
            obtain ⟨y_14, ey_14⟩ : ∃ y : Int32, y = x4_1 + 1 := ⟨_, rfl⟩
            have ty_14 : y_14.toInt = x4_1.toInt + (1 : Int32).toInt := by rw [ey_14]; exact addI (by omega) (by omega)
            refine lv_iinc (v := y_14) (lv' := [(4, .int y_14), (3, .int x3_1), (5, .int r_12), (0, .ref mo), (1, .int a1), (2, .int a2)]) hx hb dB_3_1_48.1.2.2 hl (k := 2) rfl (by rw [ey_14]; rfl) (by decide) rfl (fun ls hl => ?_)
            refine lv_goto (tgt := 6) hx hb dB_3_1_48.2.1 (by decide) ?_
            exact ih_1 y_14 x3_1 _ _ _ (by omega) (by first | with_reducible assumption | omega | assumption) (by first | with_reducible assumption | omega | assumption) (by first | exact mstW_0 | exact mstW_st v2_1 (by omega) (by omega) ⟨b_tr hbs_ (by omega), bt_fl hbt_ (by omega)⟩ hsz_ (by omega) | exact mstW_no v2_1 (by omega) (by omega) (fun h => absurd ((bt_fl hbs_ (by omega)).symm.trans h.1) (by decide)) | exact mstW_no v2_1 (by omega) (by omega) (fun h => absurd ((bt_nz hbt_ (by omega)).symm.trans h.2) (by decide))) hP hS (lv_sub hl [0, 1, 3, 4, 5] rfl)
          · have t_13 : ¬ x3_1.toInt ≤ r_12.toInt := fun h => c_13 (Int32.le_iff_toInt_le.mpr h)
            refine lv_iload hx hb dB_3_1_47.2.2.2.1 (lv_at hl 0 rfl) ?_
            refine lv_goto (tgt := 56) hx hb dB_3_1_47.2.2.2.2 (by decide) ?_
            refine lv_istore_n (lv' := [(3, .int r_12), (5, .int r_12), (4, .int x4_1), (0, .ref mo), (1, .int a1), (2, .int a2)]) hx hb dB_3_1_48.1.2.1 rfl hl (by decide) rfl (fun ls hl => ?_)
            obtain ⟨y_15, ey_15⟩ : ∃ y : Int32, y = x4_1 + 1 := ⟨_, rfl⟩
            have ty_15 : y_15.toInt = x4_1.toInt + (1 : Int32).toInt := by rw [ey_15]; exact addI (by omega) (by omega)
            refine lv_iinc (v := y_15) (lv' := [(4, .int y_15), (3, .int r_12), (5, .int r_12), (0, .ref mo), (1, .int a1), (2, .int a2)]) hx hb dB_3_1_48.1.2.2 hl (k := 2) rfl (by rw [ey_15]; rfl) (by decide) rfl (fun ls hl => ?_)
            refine lv_goto (tgt := 6) hx hb dB_3_1_48.2.1 (by decide) ?_
            exact ih_1 y_15 r_12 _ _ _ (by omega) (by first | with_reducible assumption | omega | assumption) (by first | with_reducible assumption | omega | assumption) (by first | exact mstW_0 | exact mstW_st v2_1 (by omega) (by omega) ⟨b_tr hbs_ (by omega), bt_fl hbt_ (by omega)⟩ hsz_ (by omega) | exact mstW_no v2_1 (by omega) (by omega) (fun h => absurd ((bt_fl hbs_ (by omega)).symm.trans h.1) (by decide)) | exact mstW_no v2_1 (by omega) (by omega) (fun h => absurd ((bt_nz hbt_ (by omega)).symm.trans h.2) (by decide))) hP hS (lv_sub hl [0, 1, 3, 4, 5] rfl)

set_option maxHeartbeats 4000000 in
set_option maxRecDepth 100000 in
theorem c_X12_most2 (l : Launch) (D : va_G) (cy : Nat → ClassId) (sz : Nat) (mo : Nat) (g5 : Nat) (g6 : Nat) (g7 : Nat) (g8 : Nat) (g9 : Nat) (g10 : Nat) (g12 : Nat) (g13 : Nat) (g14 : Nat) (g15 : Nat) (g16 : Nat) (g17 : Nat) (g18 : Nat) (g19 : Nat) (g20 : Nat) (g22 : Nat) (g23 : Nat) (g24 : Nat) (g29 : Nat) (g30 : Nat) (g31 : Nat) (g32 : Nat) (g33 : Nat) (s0 : Int32) (s1 : Int32) (s3 : Int32) (s4 : Int32) (s11 : Int32) (s21 : Int32) (s25 : Int32) (s26 : Int32) (s27 : Int32) (s28 : Int32) (t2 : Int64) (f5 : Nat → Int32) (f6 : Nat → Int32) (f7 : Nat → Int32) (f8 : Nat → Int32) (f10 : Nat → Int32) (a1 : Int32) (a2 : Int32) (hN : 0 ≤ s4.toInt ∧ s4.toInt ≤ 40) (hPl : 0 ≤ s3.toInt ∧ s3.toInt ≤ 12) (h21 : s21 = (-9)) (hnet : netE s3.toInt s4.toInt f6 f7 f10) (r_f6 : rng f6 40 (0) (11)) (r_f7 : rng f7 40 (0) (11)) (r_f8 : rng f8 40 (0) (2000)) : Met l yX12_most wsX12_most ({ frames := 4, cells := 0, slots := 0, locals := 96 }) (va_Pc [.ref mo, .int a1, .int a2] (fun U => U.heap.size = sz ∧ va_P D vwCl [ob12_0_ mo s0 s1 t2 s3 s4 g5 g6 g7 g8 g9 g10 s11 g12 g13 g14 g15 g16 g17 g18 g19 g20 s21 g22 g23 g24 s25 s26 s27 s28 g29 g30 g31 g32 g33, ai_ cy g5 40 f5, ai_ cy g6 40 f6, ai_ cy g7 40 f7, ai_ cy g8 40 f8, az_ cy g10 40 f10] U.heap ∧ kk_ D cy U ∧ va_D (fun _ => True) [ob12_0_ mo s0 s1 t2 s3 s4 g5 g6 g7 g8 g9 g10 s11 g12 g13 g14 g15 g16 g17 g18 g19 g20 s21 g22 g23 g24 s25 s26 s27 s28 g29 g30 g31 g32 g33, ai_ cy g5 40 f5, ai_ cy g6 40 f6, ai_ cy g7 40 f7, ai_ cy g8 40 f8, az_ cy g10 40 f10])) (va_Qi (fun (r : Int32) (_ : Unit) => ((mgI a1.toInt a2.toInt s3.toInt = 0 → mostR (cutR f5 f6 f7 f8 f10 (-9) s4.toNatClampNeg) a1.toNatClampNeg a2.toNatClampNeg r.toInt) ∧ (mgI a1.toInt a2.toInt s3.toInt ≠ 0 → r.toInt = -1))) (fun (_ : Unit) (t : State) => va_P D vwCl [ob12_0_ mo 0 s1 t2 s3 s4 g5 g6 g7 g8 g9 g10 s11 g12 g13 g14 g15 g16 g17 g18 g19 g20 s21 g22 g23 g24 s25 s26 s27 s28 g29 g30 g31 g32 g33, ai_ cy g5 40 f5, ai_ cy g6 40 f6, ai_ cy g7 40 f7, ai_ cy g8 40 f8, az_ cy g10 40 f10] t.heap ∧ va_D (va_A [ob12_0_ mo s0 s1 t2 s3 s4 g5 g6 g7 g8 g9 g10 s11 g12 g13 g14 g15 g16 g17 g18 g19 g20 s21 g22 g23 g24 s25 s26 s27 s28 g29 g30 g31 g32 g33, ai_ cy g5 40 f5, ai_ cy g6 40 f6, ai_ cy g7 40 f7, ai_ cy g8 40 f8, az_ cy g10 40 f10] sz) [ob12_0_ mo 0 s1 t2 s3 s4 g5 g6 g7 g8 g9 g10 s11 g12 g13 g14 g15 g16 g17 g18 g19 g20 s21 g22 g23 g24 s25 s26 s27 s28 g29 g30 g31 g32 g33, ai_ cy g5 40 f5, ai_ cy g6 40 f6, ai_ cy g7 40 f7, ai_ cy g8 40 f8, az_ cy g10 40 f10]) (va_A [ob12_0_ mo s0 s1 t2 s3 s4 g5 g6 g7 g8 g9 g10 s11 g12 g13 g14 g15 g16 g17 g18 g19 g20 s21 g22 g23 g24 s25 s26 s27 s28 g29 g30 g31 g32 g33, ai_ cy g5 40 f5, ai_ cy g6 40 f6, ai_ cy g7 40 f7, ai_ cy g8 40 f8, az_ cy g10 40 f10] sz)) 0 0 (va_A [ob12_0_ mo s0 s1 t2 s3 s4 g5 g6 g7 g8 g9 g10 s11 g12 g13 g14 g15 g16 g17 g18 g19 g20 s21 g22 g23 g24 s25 s26 s27 s28 g29 g30 g31 g32 g33, ai_ cy g5 40 f5, ai_ cy g6 40 f6, ai_ cy g7 40 f7, ai_ cy g8 40 f8, az_ cy g10 40 f10] sz) := by
  refine ofQ (cc := cX12_most) (maxL := 3) (ret := (some .int)) (by decide) rfl ?_
  intro p e s m args below meth c s₁ Q hQ B hml hv
  obtain ⟨rfl, hsz, hP, hK, hD0⟩ := hv
  have hx := B.exec
  have hb := B.bytes
  have hr := B.returns
  have hts := atoms_spec (ws := wsX12_most) B.pre
  have hown : s.vm.findClass RX12 = some m.cls := by have h_ := findClass_of_methodNamed B.named; exact h_
  have hlocks := B.notSynchronized
  subst hsz
  have hD := hD0.self (sz := s.heap.size)
  generalize hAe : va_A [ob12_0_ mo s0 s1 t2 s3 s4 g5 g6 g7 g8 g9 g10 s11 g12 g13 g14 g15 g16 g17 g18 g19 g20 s21 g22 g23 g24 s25 s26 s27 s28 g29 g30 g31 g32 g33, ai_ cy g5 40 f5, ai_ cy g6 40 f6, ai_ cy g7 40 f7, ai_ cy g8 40 f8, az_ cy g10 40 f10] s.heap.size = A at hD hQ
  have hA : ∀ q : Nat, s.heap.size ≤ q → A q := fun q h => by rw [← hAe]; exact Or.inr h
  have hS : va_S A s.heap s.heap [] := va_S.rf
  have hl := lv_entry ([.ref mo, .int a1, .int a2]) (n := 3) (Nat.le_of_ble_eq_true rfl)
  rw [lg_entry_eq]
  generalize (lg_sl ([.ref mo, .int a1, .int a2]) ++ List.replicate (3 - (lg_sl ([.ref mo, .int a1, .int a2])).length) Slot.unset).toArray = ls at hl ⊢
  have hl : lv_has ls 3 [(0, .ref mo), (1, .int a1), (2, .int a2)] := hl
  have zm1 : ((-1) : Int32).toInt = -1 := by decide
  have z0 : (0 : Int32).toInt = 0 := by decide
  have h21i_ : s21.toInt = -9 := by rw [h21]; decide
  refine lv_aload_n hx hb dB_3_1_45.1.1.1.1 rfl (lv_at hl 0 rfl) ?_
  refine lv_iconst (v := 0) hx hb dB_3_1_45.1.1.1.2 (by decide) ?_
  refine va_put (ci := 12) (v := .int 0) (ty := .int) (C := RX12) (T := TX12) (N := 34) hx hb hts (fun _ h => List.mem_cons_of_mem _ (List.mem_append_right _ h)) tyX12 tyX12_ok nmX12 hown hK.1 hP hD hS 0 rfl rfl 0 (by decide) (hts (.fieldLink RX12 85 "CutAtlasModel" "thrown" "I") (List.mem_of_getElem? (i := 1) rfl)) (fun _ h9 => h9) rfl (by decide +kernel) rfl rfl (Nat.le_of_ble_eq_true rfl) dB_3_1_45.1.1.2.1 (fun H locs hP hD hS => ?_)
  refine pd_K [ob12_0_ mo 0 s1 t2 s3 s4 g5 g6 g7 g8 g9 g10 s11 g12 g13 g14 g15 g16 g17 g18 g19 g20 s21 g22 g23 g24 s25 s26 s27 s28 g29 g30 g31 g32 g33, ai_ cy g5 40 f5, ai_ cy g6 40 f6, ai_ cy g7 40 f7, ai_ cy g8 40 f8, az_ cy g10 40 f10] hP hD (fun hP hD => ?_)
  refine lv_aload_n hx hb dB_3_1_45.1.1.2.2 rfl (lv_at hl 0 rfl) ?_
  refine lv_iload_n hx hb dB_3_1_45.1.2.1.1 rfl (lv_at hl 1 rfl) ?_
  refine lv_iload_n hx hb dB_3_1_45.1.2.1.2 rfl (lv_at hl 2 rfl) ?_
  refine ct_R hP hD [ob12_0_ mo 0 s1 t2 s3 s4 g5 g6 g7 g8 g9 g10 s11 g12 g13 g14 g15 g16 g17 g18 g19 g20 s21 g22 g23 g24 s25 s26 s27 s28 g29 g30 g31 g32 g33] [0] (by decide) rfl (fun hPc hDw => ?_)
  have hFc := va_free (wc := []) hD hS hA [] rfl
  refine va_calli (va_runV (As := [.int a1, .int a2]) (rest := []) ⟨hx, hb, hml, hown, hts⟩ (c_X12_arePlaces l D cy H.size mo g5 g6 g7 g8 g9 g10 g12 g13 g14 g15 g16 g17 g18 g19 g20 g22 g23 g24 g29 g30 g31 g32 g33 (0 : Int32) s1 s3 s4 s11 s21 s25 s26 s27 s28 t2 a1 a2 (by first | with_reducible assumption | omega | assumption)) (cwV 2 hts gX12_most_X12_arePlaces rfl rfl rfl ⟨rfl, hd_X12_arePlaces⟩ ⟨Nat.le_of_ble_eq_true rfl, Nat.le_of_ble_eq_true rfl⟩) ⟨bl_, va_recvX hK.1 hP (ci := 12) (q0 := 0) rfl rfl, fun U hU hW => ⟨rfl, by rw [hU], by rw [hU]; exact hPc, kk_mv hW hK, hDw⟩⟩ rfl rfl hl.1 rfl (lv_room (Nat.le_of_ble_eq_true rfl)) dB_3_1_45.1.2.2.1 ⟨Nat.le_of_ble_eq_true rfl, Nat.le_of_ble_eq_true rfl⟩) hS (fun q _ h => hFc q h) hFc (fun r_1 u t H locs ht hvm hw hB hz1 hk1 hS => ?_)
  have hP : va_P D vwCl _ H := ro_keep hP hk1
  rcases hw with ⟨w_2, e_⟩ | ⟨w_2, e_⟩
  · have e_ := e_.symm
    subst e_
    refine lv_if_eq (tgt := 26) hx hb dB_3_1_45.1.2.2.2 (by decide) (fun c_3 => ?_) (fun c_3 => ?_)
    · exact absurd c_3 (by decide)
    · have _ := c_3
      refine lv_aload_n hx hb dB_3_1_45.2.1.1.1 rfl (lv_at hl 0 rfl) ?_
      refine lv_iload_n hx hb dB_3_1_45.2.1.1.2 rfl (lv_at hl 1 rfl) ?_
      refine lv_iload_n hx hb dB_3_1_45.2.1.2.1 rfl (lv_at hl 2 rfl) ?_
      refine ct_R hP hD [ob12_0_ mo 0 s1 t2 s3 s4 g5 g6 g7 g8 g9 g10 s11 g12 g13 g14 g15 g16 g17 g18 g19 g20 s21 g22 g23 g24 s25 s26 s27 s28 g29 g30 g31 g32 g33, ai_ cy g5 40 f5, ai_ cy g6 40 f6, ai_ cy g7 40 f7, ai_ cy g8 40 f8, az_ cy g10 40 f10] [0, 1, 2, 3, 4, 5] (by decide) rfl (fun hPc hDw => ?_)
      have hFc := va_free (wc := []) hD hS hA [] rfl
      refine va_calli (va_runV (As := [.int a1, .int a2]) (rest := []) ⟨hx, hb, hml, hown, hts⟩ (c_X12_mostOf2 l D cy H.size mo g5 g6 g7 g8 g9 g10 g12 g13 g14 g15 g16 g17 g18 g19 g20 g22 g23 g24 g29 g30 g31 g32 g33 (0 : Int32) s1 s3 s4 s11 s21 s25 s26 s27 s28 t2 f5 f6 f7 f8 f10 a1 a2 (by first | with_reducible assumption | omega | assumption) (by first | with_reducible assumption | omega | assumption) (by first | with_reducible assumption | assumption | omega) (by first | with_reducible assumption | omega | assumption) (by first | with_reducible assumption | omega | assumption) (by first | with_reducible assumption | assumption | omega) (by first | with_reducible assumption | assumption | omega) (by first | with_reducible assumption | assumption | omega)) (cwV 2 hts gX12_most_X12_mostOf rfl rfl rfl ⟨rfl, hd_X12_mostOf⟩ ⟨Nat.le_of_ble_eq_true rfl, Nat.le_of_ble_eq_true rfl⟩) ⟨bl_, va_recvX hK.1 hP (ci := 12) (q0 := 0) rfl rfl, fun U hU hW => ⟨rfl, by rw [hU], by rw [hU]; exact hPc, kk_mv hW hK, hDw⟩⟩ rfl rfl hl.1 rfl (lv_room (Nat.le_of_ble_eq_true rfl)) dB_3_1_45.2.1.2.2 ⟨Nat.le_of_ble_eq_true rfl, Nat.le_of_ble_eq_true rfl⟩) hS (fun q _ h => hFc q h) hFc (fun r_4 u t H locs ht hvm hw hB hz1 hk1 hS => ?_)
      have hP : va_P D vwCl _ H := ro_keep hP hk1
      have f0_r_4 := hw
      have hmo_ := f0_r_4
      refine ct_R hP hD [] [] (by decide) rfl (fun hPc hDw => ?_)
      have hFc := va_free (wc := []) hD hS hA [] rfl
      refine va_calli (va_runS (As := [.int r_4]) (rest := []) ⟨hx, hb, hml, hown, hts⟩ (c_X12_asTold2 l D cy H.size r_4) (va_cwS 1 hts gX12_most_X12_asTold rfl rfl rfl hd_X12_asTold ⟨Nat.le_of_ble_eq_true rfl, Nat.le_of_ble_eq_true rfl⟩) ⟨bl_, fun U hU hW => ⟨rfl, by rw [hU], by rw [hU]; exact hPc, kk_mv hW hK, hDw⟩⟩ rfl rfl hl.1 rfl (lv_room (Nat.le_of_ble_eq_true rfl)) dB_3_1_45.2.2.1.1 ⟨Nat.le_of_ble_eq_true rfl, Nat.le_of_ble_eq_true rfl⟩) hS (fun q _ h => hFc q h) hFc (fun r_5 u t H locs ht hvm hw hB hz1 hk1 hS => ?_)
      have hP : va_P D vwCl _ H := ro_keep hP hk1
      have f0_r_5 := hw
      have hto_ : mostR (cutR f5 f6 f7 f8 f10 (-9) s4.toNatClampNeg) a1.toNatClampNeg a2.toNatClampNeg r_5.toInt := by have h_ := mst_told hmo_ (fun S => cutR_nn r_f8 hN.2) f0_r_5; rw [h21i_] at h_; exact h_
      refine lv_goto (tgt := 27) hx hb dB_3_1_45.2.2.1.2 (by decide) ?_
      rw [hQ]
      exact W.iret (v := r_5) hx hb hr (fun t ht hW => ⟨⟨r_5, (), rfl, (by first | exact ⟨fun h => absurd h (by unfold mgI; (repeat' (first | with_reducible refine if_n (by omega) ?_ | with_reducible refine if_ns (by omega) ?_ | with_reducible refine if_nz (by omega) ?_ | with_reducible exact if_p (by omega) (by omega) | with_reducible exact if_ps (by omega) (by omega) | with_reducible exact if_pz (by omega) (by omega))) <;> omega), fun _ => by decide⟩ | exact ⟨fun _ => hto_, fun h => absurd (by unfold mgI; (repeat' (first | with_reducible refine if_n (by omega) ?_ | with_reducible refine if_ns (by omega) ?_ | with_reducible refine if_nz (by omega) ?_ | with_reducible exact if_p (by omega) (by omega) | with_reducible exact if_ps (by omega) (by omega) | with_reducible exact if_pz (by omega) (by omega))) <;> omega) h⟩), by rw [ht]; exact hP, hD⟩, hS.F ht⟩) hS.2.2 dB_3_1_45.2.2.2.2
  · have e_ := e_.symm
    subst e_
    refine lv_if_eq (tgt := 26) hx hb dB_3_1_45.1.2.2.2 (by decide) (fun c_6 => ?_) (fun c_6 => ?_)
    · have _ := c_6
      refine lv_iconst (v := (-1)) hx hb dB_3_1_45.2.2.2.1 (by decide) ?_
      rw [hQ]
      exact W.iret (v := (-1)) hx hb hr (fun t ht hW => ⟨⟨(-1), (), rfl, (by first | exact ⟨fun h => absurd h (by unfold mgI; (repeat' (first | with_reducible refine if_n (by omega) ?_ | with_reducible refine if_ns (by omega) ?_ | with_reducible refine if_nz (by omega) ?_ | with_reducible exact if_p (by omega) (by omega) | with_reducible exact if_ps (by omega) (by omega) | with_reducible exact if_pz (by omega) (by omega))) <;> omega), fun _ => by decide⟩ | exact ⟨fun _ => hto_, fun h => absurd (by unfold mgI; (repeat' (first | with_reducible refine if_n (by omega) ?_ | with_reducible refine if_ns (by omega) ?_ | with_reducible refine if_nz (by omega) ?_ | with_reducible exact if_p (by omega) (by omega) | with_reducible exact if_ps (by omega) (by omega) | with_reducible exact if_pz (by omega) (by omega))) <;> omega) h⟩), by rw [ht]; exact hP, hD⟩, hS.F ht⟩) hS.2.2 dB_3_1_45.2.2.2.2
    · exact absurd c_6 (by decide)

set_option maxHeartbeats 4000000 in
set_option maxRecDepth 100000 in
theorem c_X12_raise2 (l : Launch) (D : va_G) (cy : Nat → ClassId) (sz : Nat) (mo : Nat) (g5 : Nat) (g6 : Nat) (g7 : Nat) (g8 : Nat) (g9 : Nat) (g10 : Nat) (g12 : Nat) (g13 : Nat) (g14 : Nat) (g15 : Nat) (g16 : Nat) (g17 : Nat) (g18 : Nat) (g19 : Nat) (g20 : Nat) (g22 : Nat) (g23 : Nat) (g24 : Nat) (g29 : Nat) (g30 : Nat) (g31 : Nat) (g32 : Nat) (g33 : Nat) (s0 : Int32) (s1 : Int32) (s3 : Int32) (s4 : Int32) (s11 : Int32) (s21 : Int32) (s25 : Int32) (s26 : Int32) (s27 : Int32) (s28 : Int32) (t2 : Int64) (f5 : Nat → Int32) (f6 : Nat → Int32) (f7 : Nat → Int32) (f8 : Nat → Int32) (f10 : Nat → Int32) (a1 : Int32) (a2 : Int32) (a3 : Int32) (hN : 0 ≤ s4.toInt ∧ s4.toInt ≤ 40) (hPl : 0 ≤ s3.toInt ∧ s3.toInt ≤ 12) (h21 : s21 = (-9)) (hnet : netE s3.toInt s4.toInt f6 f7 f10) (r_f6 : rng f6 40 (0) (11)) (r_f7 : rng f7 40 (0) (11)) (r_f8 : rng f8 40 (0) (2000)) : Met l yX12_raise wsX12_raise ({ frames := 4, cells := 0, slots := 0, locals := 96 }) (va_Pc [.ref mo, .int a1, .int a2, .int a3] (fun U => U.heap.size = sz ∧ va_P D vwCl [ob12_0_ mo s0 s1 t2 s3 s4 g5 g6 g7 g8 g9 g10 s11 g12 g13 g14 g15 g16 g17 g18 g19 g20 s21 g22 g23 g24 s25 s26 s27 s28 g29 g30 g31 g32 g33, ai_ cy g5 40 f5, ai_ cy g6 40 f6, ai_ cy g7 40 f7, ai_ cy g8 40 f8, az_ cy g10 40 f10] U.heap ∧ kk_ D cy U ∧ va_D (fun _ => True) [ob12_0_ mo s0 s1 t2 s3 s4 g5 g6 g7 g8 g9 g10 s11 g12 g13 g14 g15 g16 g17 g18 g19 g20 s21 g22 g23 g24 s25 s26 s27 s28 g29 g30 g31 g32 g33, ai_ cy g5 40 f5, ai_ cy g6 40 f6, ai_ cy g7 40 f7, ai_ cy g8 40 f8, az_ cy g10 40 f10])) (va_Qi (fun (r : Int32) (_ : Unit) => ((rsI a1.toInt a2.toInt a3.toInt s3.toInt s4.toInt (f10 a3.toNatClampNeg).toInt = 0 → mostR (cutR f5 f6 f7 f8 f10 a3.toInt s4.toNatClampNeg) a1.toNatClampNeg a2.toNatClampNeg r.toInt) ∧ (rsI a1.toInt a2.toInt a3.toInt s3.toInt s4.toInt (f10 a3.toNatClampNeg).toInt ≠ 0 → r.toInt = rsI a1.toInt a2.toInt a3.toInt s3.toInt s4.toInt (f10 a3.toNatClampNeg).toInt))) (fun (_ : Unit) (t : State) => ∃ (n21 : Int32), (n21 = (-9)) ∧ va_P D vwCl [ob12_0_ mo 0 s1 t2 s3 s4 g5 g6 g7 g8 g9 g10 s11 g12 g13 g14 g15 g16 g17 g18 g19 g20 n21 g22 g23 g24 s25 s26 s27 s28 g29 g30 g31 g32 g33, ai_ cy g5 40 f5, ai_ cy g6 40 f6, ai_ cy g7 40 f7, ai_ cy g8 40 f8, az_ cy g10 40 f10] t.heap ∧ va_D (va_A [ob12_0_ mo s0 s1 t2 s3 s4 g5 g6 g7 g8 g9 g10 s11 g12 g13 g14 g15 g16 g17 g18 g19 g20 s21 g22 g23 g24 s25 s26 s27 s28 g29 g30 g31 g32 g33, ai_ cy g5 40 f5, ai_ cy g6 40 f6, ai_ cy g7 40 f7, ai_ cy g8 40 f8, az_ cy g10 40 f10] sz) [ob12_0_ mo 0 s1 t2 s3 s4 g5 g6 g7 g8 g9 g10 s11 g12 g13 g14 g15 g16 g17 g18 g19 g20 n21 g22 g23 g24 s25 s26 s27 s28 g29 g30 g31 g32 g33, ai_ cy g5 40 f5, ai_ cy g6 40 f6, ai_ cy g7 40 f7, ai_ cy g8 40 f8, az_ cy g10 40 f10]) (va_A [ob12_0_ mo s0 s1 t2 s3 s4 g5 g6 g7 g8 g9 g10 s11 g12 g13 g14 g15 g16 g17 g18 g19 g20 s21 g22 g23 g24 s25 s26 s27 s28 g29 g30 g31 g32 g33, ai_ cy g5 40 f5, ai_ cy g6 40 f6, ai_ cy g7 40 f7, ai_ cy g8 40 f8, az_ cy g10 40 f10] sz)) 0 0 (va_A [ob12_0_ mo s0 s1 t2 s3 s4 g5 g6 g7 g8 g9 g10 s11 g12 g13 g14 g15 g16 g17 g18 g19 g20 s21 g22 g23 g24 s25 s26 s27 s28 g29 g30 g31 g32 g33, ai_ cy g5 40 f5, ai_ cy g6 40 f6, ai_ cy g7 40 f7, ai_ cy g8 40 f8, az_ cy g10 40 f10] sz) := by
  refine ofQ (cc := cX12_raise) (maxL := 5) (ret := (some .int)) (by decide) rfl ?_
  intro p e s m args below meth c s₁ Q hQ B hml hv
  obtain ⟨rfl, hsz, hP, hK, hD0⟩ := hv
  have hx := B.exec
  have hb := B.bytes
  have hr := B.returns
  have hts := atoms_spec (ws := wsX12_raise) B.pre
  have hown : s.vm.findClass RX12 = some m.cls := by have h_ := findClass_of_methodNamed B.named; exact h_
  have hlocks := B.notSynchronized
  subst hsz
  have hD := hD0.self (sz := s.heap.size)
  generalize hAe : va_A [ob12_0_ mo s0 s1 t2 s3 s4 g5 g6 g7 g8 g9 g10 s11 g12 g13 g14 g15 g16 g17 g18 g19 g20 s21 g22 g23 g24 s25 s26 s27 s28 g29 g30 g31 g32 g33, ai_ cy g5 40 f5, ai_ cy g6 40 f6, ai_ cy g7 40 f7, ai_ cy g8 40 f8, az_ cy g10 40 f10] s.heap.size = A at hD hQ
  have hA : ∀ q : Nat, s.heap.size ≤ q → A q := fun q h => by rw [← hAe]; exact Or.inr h
  have hS : va_S A s.heap s.heap [] := va_S.rf
  have hl := lv_entry ([.ref mo, .int a1, .int a2, .int a3]) (n := 5) (Nat.le_of_ble_eq_true rfl)
  rw [lg_entry_eq]
  generalize (lg_sl ([.ref mo, .int a1, .int a2, .int a3]) ++ List.replicate (5 - (lg_sl ([.ref mo, .int a1, .int a2, .int a3])).length) Slot.unset).toArray = ls at hl ⊢
  have hl : lv_has ls 5 [(0, .ref mo), (1, .int a1), (2, .int a2), (3, .int a3)] := hl
  have zm9 : ((-9) : Int32).toInt = -9 := by decide
  have zm2 : ((-2) : Int32).toInt = -2 := by decide
  have zm1 : ((-1) : Int32).toInt = -1 := by decide
  have z0 : (0 : Int32).toInt = 0 := by decide
  refine lv_aload_n hx hb dB_3_1_51.1.1.1.1 rfl (lv_at hl 0 rfl) ?_
  refine lv_iconst (v := 0) hx hb dB_3_1_51.1.1.1.2 (by decide) ?_
  refine va_put (ci := 12) (v := .int 0) (ty := .int) (C := RX12) (T := TX12) (N := 34) hx hb hts (fun _ h => List.mem_cons_of_mem _ (List.mem_append_right _ h)) tyX12 tyX12_ok nmX12 hown hK.1 hP hD hS 0 rfl rfl 0 (by decide) (hts (.fieldLink RX12 85 "CutAtlasModel" "thrown" "I") (List.mem_of_getElem? (i := 1) rfl)) (fun _ h9 => h9) rfl (by decide +kernel) rfl rfl (Nat.le_of_ble_eq_true rfl) dB_3_1_51.1.1.2.1 (fun H locs hP hD hS => ?_)
  refine pd_K [ob12_0_ mo 0 s1 t2 s3 s4 g5 g6 g7 g8 g9 g10 s11 g12 g13 g14 g15 g16 g17 g18 g19 g20 s21 g22 g23 g24 s25 s26 s27 s28 g29 g30 g31 g32 g33, ai_ cy g5 40 f5, ai_ cy g6 40 f6, ai_ cy g7 40 f7, ai_ cy g8 40 f8, az_ cy g10 40 f10] hP hD (fun hP hD => ?_)
  refine lv_aload_n hx hb dB_3_1_51.1.1.2.2 rfl (lv_at hl 0 rfl) ?_
  refine lv_iload_n hx hb dB_3_1_51.1.2.1.1 rfl (lv_at hl 1 rfl) ?_
  refine lv_iload_n hx hb dB_3_1_51.1.2.1.2 rfl (lv_at hl 2 rfl) ?_
  refine ct_R hP hD [ob12_0_ mo 0 s1 t2 s3 s4 g5 g6 g7 g8 g9 g10 s11 g12 g13 g14 g15 g16 g17 g18 g19 g20 s21 g22 g23 g24 s25 s26 s27 s28 g29 g30 g31 g32 g33] [0] (by decide) rfl (fun hPc hDw => ?_)
  have hFc := va_free (wc := []) hD hS hA [] rfl
  refine va_calli (va_runV (As := [.int a1, .int a2]) (rest := []) ⟨hx, hb, hml, hown, hts⟩ (c_X12_arePlaces l D cy H.size mo g5 g6 g7 g8 g9 g10 g12 g13 g14 g15 g16 g17 g18 g19 g20 g22 g23 g24 g29 g30 g31 g32 g33 (0 : Int32) s1 s3 s4 s11 s21 s25 s26 s27 s28 t2 a1 a2 (by first | with_reducible assumption | omega | assumption)) (cwV 2 hts gX12_raise_X12_arePlaces rfl rfl rfl ⟨rfl, hd_X12_arePlaces⟩ ⟨Nat.le_of_ble_eq_true rfl, Nat.le_of_ble_eq_true rfl⟩) ⟨bl_, va_recvX hK.1 hP (ci := 12) (q0 := 0) rfl rfl, fun U hU hW => ⟨rfl, by rw [hU], by rw [hU]; exact hPc, kk_mv hW hK, hDw⟩⟩ rfl rfl hl.1 rfl (lv_room (Nat.le_of_ble_eq_true rfl)) dB_3_1_51.1.2.2.1 ⟨Nat.le_of_ble_eq_true rfl, Nat.le_of_ble_eq_true rfl⟩) hS (fun q _ h => hFc q h) hFc (fun r_1 u t H locs ht hvm hw hB hz1 hk1 hS => ?_)
  have hP : va_P D vwCl _ H := ro_keep hP hk1
  rcases hw with ⟨w_2, e_⟩ | ⟨w_2, e_⟩
  · have e_ := e_.symm
    subst e_
    refine lv_if_eq (tgt := 22) hx hb dB_3_1_51.1.2.2.2 (by decide) (fun c_3 => ?_) (fun c_3 => ?_)
    · exact absurd c_3 (by decide)
    · have _ := c_3
      refine lv_aload_n hx hb dB_3_1_51.2.1.1.1 rfl (lv_at hl 0 rfl) ?_
      refine lv_iload_n hx hb dB_3_1_51.2.1.1.2 rfl (lv_at hl 3 rfl) ?_
      refine ct_R hP hD [ob12_0_ mo 0 s1 t2 s3 s4 g5 g6 g7 g8 g9 g10 s11 g12 g13 g14 g15 g16 g17 g18 g19 g20 s21 g22 g23 g24 s25 s26 s27 s28 g29 g30 g31 g32 g33] [0] (by decide) rfl (fun hPc hDw => ?_)
      have hFc := va_free (wc := []) hD hS hA [] rfl
      refine va_calli (va_runV (As := [.int a3]) (rest := []) ⟨hx, hb, hml, hown, hts⟩ (c_X12_isLine l D cy H.size mo g5 g6 g7 g8 g9 g10 g12 g13 g14 g15 g16 g17 g18 g19 g20 g22 g23 g24 g29 g30 g31 g32 g33 (0 : Int32) s1 s3 s4 s11 s21 s25 s26 s27 s28 t2 a3 (by first | with_reducible assumption | omega | assumption)) (cwV 1 hts gX12_raise_X12_isLine rfl rfl rfl ⟨rfl, hd_X12_isLine⟩ ⟨Nat.le_of_ble_eq_true rfl, Nat.le_of_ble_eq_true rfl⟩) ⟨bl_, va_recvX hK.1 hP (ci := 12) (q0 := 0) rfl rfl, fun U hU hW => ⟨rfl, by rw [hU], by rw [hU]; exact hPc, kk_mv hW hK, hDw⟩⟩ rfl rfl hl.1 rfl (lv_room (Nat.le_of_ble_eq_true rfl)) dB_3_1_51.2.1.2.1 ⟨Nat.le_of_ble_eq_true rfl, Nat.le_of_ble_eq_true rfl⟩) hS (fun q _ h => hFc q h) hFc (fun r_4 u t H locs ht hvm hw hB hz1 hk1 hS => ?_)
      have hP : va_P D vwCl _ H := ro_keep hP hk1
      rcases hw with ⟨w_5, e_⟩ | ⟨w_5, e_⟩
      · have e_ := e_.symm
        subst e_
        refine lv_if_ne (tgt := 24) hx hb dB_3_1_51.2.1.2.2 (by decide) (fun c_6 => ?_) (fun c_6 => ?_)
        · have _ := c_6
          refine lv_aload_n hx hb dB_3_1_51.2.2.2.1 rfl (lv_at hl 0 rfl) ?_
          refine va_get (ci := 12) (v := .ref g10) (C := RX12) (T := TX12) (N := 34) hx hb hts (fun _ h => List.mem_cons_of_mem _ (List.mem_append_right _ h)) hown hK.1 hP 0 rfl rfl 10 (by decide) (hts (.fieldLink RX12 25 "CutAtlasModel" "isMissing" "[Z") (List.mem_of_getElem? (i := 2) rfl)) (fun _ h9 => h9) rfl dB_3_1_51.2.2.2.2 ?_
          refine lv_iload_n hx hb dB_3_1_52.1.1.1.1 rfl (lv_at hl 3 rfl) ?_
          have h_7 : vp_in a3 40 := in_I (by first | with_reducible assumption | omega) (by omega)
          refine va_zald hx hb hK.1 hP 5 2 rfl rfl (i := a3) h_7 dB_3_1_52.1.1.1.2 ?_
          refine lv_topi (fun y_8 ey_8 => ?_)
          have ky_8 : y_8.toInt = (f10 a3.toNatClampNeg).toInt := by rw [ey_8]
          refine lv_if_eq (tgt := 36) hx hb dB_3_1_52.1.1.2.1 (by decide) (fun c_9 => ?_) (fun c_9 => ?_)
          · have t_9 : y_8.toInt = (0 : Int32).toInt := congrArg Int32.toInt c_9
            refine lv_aload_n hx hb dB_3_1_52.1.2.1.2 rfl (lv_at hl 0 rfl) ?_
            refine lv_iload_n hx hb dB_3_1_52.1.2.2.1 rfl (lv_at hl 3 rfl) ?_
            refine va_put (ci := 12) (v := .int a3) (ty := .int) (C := RX12) (T := TX12) (N := 34) hx hb hts (fun _ h => List.mem_cons_of_mem _ (List.mem_append_right _ h)) tyX12 tyX12_ok nmX12 hown hK.1 hP hD hS 0 rfl rfl 21 (by decide) (hts (.fieldLink RX12 57 "CutAtlasModel" "raised" "I") (List.mem_of_getElem? (i := 3) rfl)) (fun _ h9 => h9) rfl (by decide +kernel) rfl rfl (Nat.le_of_ble_eq_true rfl) dB_3_1_52.1.2.2.2 (fun H locs hP hD hS => ?_)
            refine pd_K [ob12_0_ mo 0 s1 t2 s3 s4 g5 g6 g7 g8 g9 g10 s11 g12 g13 g14 g15 g16 g17 g18 g19 g20 a3 g22 g23 g24 s25 s26 s27 s28 g29 g30 g31 g32 g33, ai_ cy g5 40 f5, ai_ cy g6 40 f6, ai_ cy g7 40 f7, ai_ cy g8 40 f8, az_ cy g10 40 f10] hP hD (fun hP hD => ?_)
            refine lv_aload_n hx hb dB_3_1_52.2.1.1.1 rfl (lv_at hl 0 rfl) ?_
            refine lv_iload_n hx hb dB_3_1_52.2.1.1.2 rfl (lv_at hl 1 rfl) ?_
            refine lv_iload_n hx hb dB_3_1_52.2.1.2.1 rfl (lv_at hl 2 rfl) ?_
            refine ct_R hP hD [ob12_0_ mo 0 s1 t2 s3 s4 g5 g6 g7 g8 g9 g10 s11 g12 g13 g14 g15 g16 g17 g18 g19 g20 a3 g22 g23 g24 s25 s26 s27 s28 g29 g30 g31 g32 g33, ai_ cy g5 40 f5, ai_ cy g6 40 f6, ai_ cy g7 40 f7, ai_ cy g8 40 f8, az_ cy g10 40 f10] [0, 1, 2, 3, 4, 5] (by decide) rfl (fun hPc hDw => ?_)
            have hFc := va_free (wc := []) hD hS hA [] rfl
            refine va_calli (va_runV (As := [.int a1, .int a2]) (rest := []) ⟨hx, hb, hml, hown, hts⟩ (c_X12_mostOf2 l D cy H.size mo g5 g6 g7 g8 g9 g10 g12 g13 g14 g15 g16 g17 g18 g19 g20 g22 g23 g24 g29 g30 g31 g32 g33 (0 : Int32) s1 s3 s4 s11 a3 s25 s26 s27 s28 t2 f5 f6 f7 f8 f10 a1 a2 (by first | with_reducible assumption | omega | assumption) (by first | with_reducible assumption | omega | assumption) (by first | with_reducible assumption | assumption | omega) (by first | with_reducible assumption | omega | assumption) (by first | with_reducible assumption | omega | assumption) (by first | with_reducible assumption | assumption | omega) (by first | with_reducible assumption | assumption | omega) (by first | with_reducible assumption | assumption | omega)) (cwV 2 hts gX12_raise_X12_mostOf rfl rfl rfl ⟨rfl, hd_X12_mostOf⟩ ⟨Nat.le_of_ble_eq_true rfl, Nat.le_of_ble_eq_true rfl⟩) ⟨bl_, va_recvX hK.1 hP (ci := 12) (q0 := 0) rfl rfl, fun U hU hW => ⟨rfl, by rw [hU], by rw [hU]; exact hPc, kk_mv hW hK, hDw⟩⟩ rfl rfl hl.1 rfl (lv_room (Nat.le_of_ble_eq_true rfl)) dB_3_1_52.2.1.2.2 ⟨Nat.le_of_ble_eq_true rfl, Nat.le_of_ble_eq_true rfl⟩) hS (fun q _ h => hFc q h) hFc (fun r_10 u t H locs ht hvm hw hB hz1 hk1 hS => ?_)
            have hP : va_P D vwCl _ H := ro_keep hP hk1
            have f0_r_10 := hw
            have hmo_ := f0_r_10
            refine lv_istore (lv' := [(4, .int r_10), (0, .ref mo), (1, .int a1), (2, .int a2), (3, .int a3)]) hx hb dB_3_1_52.2.2.1.1 hl (by decide) rfl (fun ls hl => ?_)
            refine lv_aload_n hx hb dB_3_1_52.2.2.1.2 rfl (lv_at hl 1 rfl) ?_
            refine lv_bipush (v := (-9)) hx hb dB_3_1_52.2.2.2.1 (by decide) ?_
            refine va_put (ci := 12) (v := .int (-9)) (ty := .int) (C := RX12) (T := TX12) (N := 34) hx hb hts (fun _ h => List.mem_cons_of_mem _ (List.mem_append_right _ h)) tyX12 tyX12_ok nmX12 hown hK.1 hP hD hS 0 rfl rfl 21 (by decide) (hts (.fieldLink RX12 57 "CutAtlasModel" "raised" "I") (List.mem_of_getElem? (i := 3) rfl)) (fun _ h9 => h9) rfl (by decide +kernel) rfl rfl (Nat.le_of_ble_eq_true rfl) dB_3_1_52.2.2.2.2 (fun H locs hP hD hS => ?_)
            refine pd_K [ob12_0_ mo 0 s1 t2 s3 s4 g5 g6 g7 g8 g9 g10 s11 g12 g13 g14 g15 g16 g17 g18 g19 g20 (-9) g22 g23 g24 s25 s26 s27 s28 g29 g30 g31 g32 g33, ai_ cy g5 40 f5, ai_ cy g6 40 f6, ai_ cy g7 40 f7, ai_ cy g8 40 f8, az_ cy g10 40 f10] hP hD (fun hP hD => ?_)
            refine lv_iload hx hb dB_3_1_53.1 (lv_at hl 0 rfl) ?_
            refine ct_R hP hD [] [] (by decide) rfl (fun hPc hDw => ?_)
            have hFc := va_free (wc := []) hD hS hA [] rfl
            refine va_calli (va_runS (As := [.int r_10]) (rest := []) ⟨hx, hb, hml, hown, hts⟩ (c_X12_asTold2 l D cy H.size r_10) (va_cwS 1 hts gX12_raise_X12_asTold rfl rfl rfl hd_X12_asTold ⟨Nat.le_of_ble_eq_true rfl, Nat.le_of_ble_eq_true rfl⟩) ⟨bl_, fun U hU hW => ⟨rfl, by rw [hU], by rw [hU]; exact hPc, kk_mv hW hK, hDw⟩⟩ rfl rfl hl.1 rfl (lv_room (Nat.le_of_ble_eq_true rfl)) dB_3_1_53.2.1 ⟨Nat.le_of_ble_eq_true rfl, Nat.le_of_ble_eq_true rfl⟩) hS (fun q _ h => hFc q h) hFc (fun r_11 u t H locs ht hvm hw hB hz1 hk1 hS => ?_)
            have hP : va_P D vwCl _ H := ro_keep hP hk1
            have f0_r_11 := hw
            have hto_ := mst_told hmo_ (fun S => cutR_nn r_f8 hN.2) f0_r_11
            rw [hQ]
            exact W.iret (v := r_11) hx hb hr (fun t ht hW => ⟨⟨r_11, (), rfl, (⟨fun _ => hto_, fun h => absurd (by unfold rsI; (repeat' (first | with_reducible refine if_n (by omega) ?_ | with_reducible refine if_ns (by omega) ?_ | with_reducible refine if_nz (by omega) ?_ | with_reducible exact if_p (by omega) (by omega) | with_reducible exact if_ps (by omega) (by omega) | with_reducible exact if_pz (by omega) (by omega))) <;> omega) h⟩), ((-9) : Int32), (by first | with_reducible assumption | assumption | rfl), by rw [ht]; exact hP, hD⟩, hS.F ht⟩) hS.2.2 dB_3_1_53.2.2
          · have t_9 : ¬ y_8.toInt = (0 : Int32).toInt := fun h => c_9 (Int32.toInt_inj.mp h)
            refine lv_bipush (v := (-2)) hx hb dB_3_1_52.1.1.2.2 (by decide) ?_
            rw [hQ]
            exact W.iret (v := (-2)) hx hb hr (fun t ht hW => ⟨⟨(-2), (), rfl, (⟨fun h => absurd h (by unfold rsI; (repeat' (first | with_reducible refine if_n (by omega) ?_ | with_reducible refine if_ns (by omega) ?_ | with_reducible refine if_nz (by omega) ?_ | with_reducible exact if_p (by omega) (by omega) | with_reducible exact if_ps (by omega) (by omega) | with_reducible exact if_pz (by omega) (by omega))) <;> omega), fun _ => (by unfold rsI; (repeat' (first | with_reducible refine if_n (by omega) ?_ | with_reducible refine if_ns (by omega) ?_ | with_reducible refine if_nz (by omega) ?_ | with_reducible exact if_p (by omega) (by omega) | with_reducible exact if_ps (by omega) (by omega) | with_reducible exact if_pz (by omega) (by omega))) <;> omega)⟩), s21, (by first | with_reducible assumption | assumption | rfl), by rw [ht]; exact hP, hD⟩, hS.F ht⟩) hS.2.2 dB_3_1_52.1.2.1.1
        · exact absurd c_6 (by decide)
      · have e_ := e_.symm
        subst e_
        refine lv_if_ne (tgt := 24) hx hb dB_3_1_51.2.1.2.2 (by decide) (fun c_12 => ?_) (fun c_12 => ?_)
        · exact absurd c_12 (by decide)
        · have _ := c_12
          refine lv_iconst (v := (-1)) hx hb dB_3_1_51.2.2.1.1 (by decide) ?_
          rw [hQ]
          exact W.iret (v := (-1)) hx hb hr (fun t ht hW => ⟨⟨(-1), (), rfl, (⟨fun h => absurd h (by unfold rsI; (repeat' (first | with_reducible refine if_n (by omega) ?_ | with_reducible refine if_ns (by omega) ?_ | with_reducible refine if_nz (by omega) ?_ | with_reducible exact if_p (by omega) (by omega) | with_reducible exact if_ps (by omega) (by omega) | with_reducible exact if_pz (by omega) (by omega))) <;> omega), fun _ => (by unfold rsI; (repeat' (first | with_reducible refine if_n (by omega) ?_ | with_reducible refine if_ns (by omega) ?_ | with_reducible refine if_nz (by omega) ?_ | with_reducible exact if_p (by omega) (by omega) | with_reducible exact if_ps (by omega) (by omega) | with_reducible exact if_pz (by omega) (by omega))) <;> omega)⟩), s21, (by first | with_reducible assumption | assumption | rfl), by rw [ht]; exact hP, hD⟩, hS.F ht⟩) hS.2.2 dB_3_1_51.2.2.1.2
  · have e_ := e_.symm
    subst e_
    refine lv_if_eq (tgt := 22) hx hb dB_3_1_51.1.2.2.2 (by decide) (fun c_13 => ?_) (fun c_13 => ?_)
    · have _ := c_13
      refine lv_iconst (v := (-1)) hx hb dB_3_1_51.2.2.1.1 (by decide) ?_
      rw [hQ]
      exact W.iret (v := (-1)) hx hb hr (fun t ht hW => ⟨⟨(-1), (), rfl, (⟨fun h => absurd h (by unfold rsI; (repeat' (first | with_reducible refine if_n (by omega) ?_ | with_reducible refine if_ns (by omega) ?_ | with_reducible refine if_nz (by omega) ?_ | with_reducible exact if_p (by omega) (by omega) | with_reducible exact if_ps (by omega) (by omega) | with_reducible exact if_pz (by omega) (by omega))) <;> omega), fun _ => (by unfold rsI; (repeat' (first | with_reducible refine if_n (by omega) ?_ | with_reducible refine if_ns (by omega) ?_ | with_reducible refine if_nz (by omega) ?_ | with_reducible exact if_p (by omega) (by omega) | with_reducible exact if_ps (by omega) (by omega) | with_reducible exact if_pz (by omega) (by omega))) <;> omega)⟩), s21, (by first | with_reducible assumption | assumption | rfl), by rw [ht]; exact hP, hD⟩, hS.F ht⟩) hS.2.2 dB_3_1_51.2.2.1.2
    · exact absurd c_13 (by decide)
end

section
/-! ===== the least and the greatest of the least cuts ===== -/
noncomputable def zT (M : Nat → Nat → Int32) (x y : Nat) : Int := (M y x).toInt
noncomputable def cutS (C : (Nat → Bool) → Int) (s t : Nat) (m : Int) (S : Nat → Bool) : Prop := sep s t S ∧ C S = m
noncomputable def nearP (C : (Nat → Bool) → Int) (s t P : Nat) (m : Int) (r : Int32) : Prop := cutS C s t m (bt r) ∧ (∀ S : Nat → Bool, cutS C s t m S → ∀ x : Nat, bt r x = true → S x = true) ∧ ∀ x : Nat, bt r x = true → x < P
noncomputable def farP (C : (Nat → Bool) → Int) (s t P : Nat) (m : Int) (r : Int32) : Prop := cutS C s t m (bt r) ∧ (∀ S : Nat → Bool, cutS C s t m S → ∀ x : Nat, x < P → S x = true → bt r x = true) ∧ ∀ x : Nat, bt r x = true → x < P
/-- what is not met -/
noncomputable def farS (P : Nat) (q r : Int32) : Prop := ∀ x : Nat, bt r x = (decide (x < P) && !bt q x)
section NF_
variable {C : (Nat → Bool) → Int} {L M : Nat → Nat → Int} {P s t : Nat} {m : Int} {S : Nat → Bool}
theorem cut_iff (hf : flw L M P s t m) (hC : ∀ S : Nat → Bool, outZ L S P = C S) (hs : sep s t S) : C S = m ↔ clsd M P 1 S := by
  have a := hf.2 S hs
  rw [hC S] at a
  constructor
  · intro e x y hx hy sx sy
    have b := outZ_pair (M := M) (S := S) (fun x y hx hy => (hf.1 x y hx hy).1) hx hy sx sy
    omega
  · intro hc
    rw [outZ_clsd (fun x y hx hy => (hf.1 x y hx hy).1) hc] at a
    omega
theorem most_cut (h : mostR C s t m) (hm : m ≠ -5) : ∃ S : Nat → Bool, cutS C s t m S := by
  rcases h with h | h
  · exact absurd h.1 hm
  · obtain ⟨S, a, b⟩ := h.2.2.1
    exact ⟨S, a, b⟩
theorem near_ok {r : Int32} (hf : flw L M P s t m) (hC : ∀ S : Nat → Bool, outZ L S P = C S) (hm : mostR C s t m) (h5 : m ≠ -5) (hr : rchd M P 1 s (bt r)) : nearP C s t P m r := by
  obtain ⟨S0, h0⟩ := most_cut hm h5
  have mn : ∀ S : Nat → Bool, cutS C s t m S → ∀ x : Nat, bt r x = true → S x = true := fun S hS => hr.2.2.1 S hS.1.1 ((cut_iff hf hC hS.1).mp hS.2)
  have sp : sep s t (bt r) := ⟨hr.1, by
    cases z : bt r t
    · rfl
    · have := mn S0 h0 t z
      rw [h0.1.2] at this
      cases this⟩
  exact ⟨⟨sp, (cut_iff hf hC sp).mpr hr.2.1⟩, mn, hr.2.2.2⟩
theorem far_ok {N : Nat → Nat → Int} {q r : Int32} (hf : flw L M P s t m) (hC : ∀ S : Nat → Bool, outZ L S P = C S) (hm : mostR C s t m) (h5 : m ≠ -5) (hN : ∀ x y : Nat, N x y = M y x) (hr : rchd N P 1 t (bt q)) (hs : s < P) (he : farS P q r) : farP C s t P m r := by
  obtain ⟨S0, h0⟩ := most_cut hm h5
  have out : ∀ S : Nat → Bool, cutS C s t m S → ∀ x : Nat, bt q x = true → S x = false := fun S hS x hx => by
    have a := hr.2.2.1 (fun x => !S x) (by rw [hS.1.2]; rfl) (fun x y hx hy sx sy => by
      rw [hN x y]
      refine (cut_iff hf hC hS.1).mp hS.2 y x hy hx ?_ ?_
      · cases z : S y <;> simp_all
      · cases z : S x <;> simp_all) x hx
    cases z : S x <;> simp_all
  have sp : sep s t (bt r) := by
    constructor
    · rw [he s]
      have a : bt q s = false := by
        cases z : bt q s
        · rfl
        · have := out S0 h0 s z
          rw [h0.1.1] at this
          cases this
      rw [a]
      simp [hs]
    · rw [he t, hr.1]
      simp
  have cl : clsd M P 1 (bt r) := fun x y hx hy sx sy => by
    rw [he x] at sx
    rw [he y] at sy
    have qy : bt q y = true := by
      cases z : bt q y <;> simp_all
    have qx : bt q x = false := by
      cases z : bt q x <;> simp_all
    have := hr.2.1 y x hy hx qy qx
    rw [hN y x] at this
    exact this
  refine ⟨⟨sp, (cut_iff hf hC sp).mpr cl⟩, fun S hS x hx sx => ?_, fun x hx => ?_⟩
  · rw [he x]
    have a : bt q x = false := by
      cases z : bt q x
      · rfl
      · have := out S hS x z
        rw [sx] at this
        cases this
    rw [a]
    simp [hx]
  · rw [he x] at hx
    simp at hx
    exact hx.1
end NF_
theorem far_mask {P m al q n r : Int32} (hP : 0 ≤ P.toInt ∧ P.toInt ≤ 12) (em : m = (1 : Int32) <<< (P &&& 31)) (el : al = m - 1) (en : n = q ^^^ (-1)) (er : r = al &&& n) : farS P.toNatClampNeg q r := fun x => by
  have c := clI (i := P) hP.1
  have e := nI_cl hP.1
  by_cases hx : x < 32
  · have b : bt al x = decide (x < P.toNatClampNeg) := by
      have a := bt_mask P.toNatClampNeg (by omega) x hx
      rw [← e, ← em, ← el] at a
      exact a
    rw [er, b_and, b, en, b_not _ hx]
  · have z : bt r x = false := by
      cases w : bt r x
      · rfl
      · exact absurd (bt_hi w) hx
    rw [z]
    simp
    omega
/-! bits -/
noncomputable def bitI (x : Int32) : Int := sumI (fun i => if bt x i = true then 1 else 0) 12
theorem sumI_sub {f g : Nat → Int} : ∀ n : Nat, (∀ j : Nat, j < n → f j ≤ g j) → sumI f n ≤ sumI g n ∧ (sumI g n ≤ sumI f n → ∀ j : Nat, j < n → f j = g j)
  | 0, _ => ⟨Int.le_refl _, fun _ j hj => by omega⟩
  | n + 1, h => by
    obtain ⟨a, b⟩ := sumI_sub n (fun j hj => h j (by omega))
    have c := h n (by omega)
    have e1 : sumI f (n + 1) = sumI f n + f n := rfl
    have e2 : sumI g (n + 1) = sumI g n + g n := rfl
    refine ⟨by omega, fun w j hj => ?_⟩
    by_cases z : j = n
    · rw [z]
      omega
    · exact b (by omega) j (by omega)
theorem bit_sub {a b : Int32} (h : ∀ i : Nat, bt a i = true → bt b i = true) : bitI a ≤ bitI b ∧ (bitI b ≤ bitI a → ∀ i : Nat, i < 12 → bt a i = bt b i) := by
  have q := sumI_sub (f := fun i => if bt a i = true then 1 else 0) (g := fun i => if bt b i = true then 1 else 0) 12 (fun j _ => by
    try dsimp only
    by_cases z : bt a j = true
    · rw [if_pos z, if_pos (h j z)]
      omega
    · rw [if_neg z]
      split <;> omega)
  refine ⟨q.1, fun w i hi => ?_⟩
  have e := q.2 w i hi
  try dsimp only at e
  cases x : bt a i <;> cases y : bt b i <;> simp_all
theorem bt_ext {a b : Int32} (h : ∀ i : Nat, bt a i = bt b i) : a = b := by
  have e : a.toBitVec = b.toBitVec := BitVec.eq_of_getLsbD_eq (fun i _ => h i)
  exact Int32.toBitVec_inj.mp e
theorem bt_num {k P i : Nat} (hk : k < 2 ^ P) (hP : P ≤ 12) (h : bt (nI k) i = true) : i < P := by
  have h32 := bt_hi h
  rw [bt_nI h32] at h
  rcases Nat.lt_or_ge i P with w | w
  · exact w
  · have := Nat.testBit_lt_two_pow (Nat.lt_of_lt_of_le hk (Nat.pow_le_pow_right (by decide) w))
    rw [this] at h
    cases h
theorem num_of {r : Int32} {P : Nat} (hP : P ≤ 12) (h : ∀ x : Nat, bt r x = true → x < P) : ∃ k : Nat, k < 2 ^ P ∧ r = nI k := by
  obtain ⟨k, hk, e⟩ := mask_ex (bt r) P hP
  refine ⟨k, hk, bt_ext (fun i => ?_)⟩
  by_cases w : i < P
  · exact (e i w).symm
  · have a : bt r i = false := by
      cases z : bt r i
      · rfl
      · exact absurd (h i z) w
    have b : bt (nI k) i = false := by
      cases z : bt (nI k) i
      · rfl
      · exact absurd (bt_num hk hP z) w
    rw [a, b]
/-! the reference's run over all sets -/
noncomputable def cutQ (C : (Nat → Bool) → Int) (s t : Nat) (m : Int) (S : Nat → Bool) : Bool := S s && !S t && decide (mn6 (C S) = m)
noncomputable def cnQ (p : Nat → Bool) (k : Nat) : Int := sumI (fun j => if p j = true then 1 else 0) k
noncomputable def ctsW (p : Nat → Bool) (i : Int) (k : Nat) (cuts near far chosen : Int32) : Prop := cuts.toInt = cnQ p k ∧ ((cnQ p k = 0 ∧ near.toInt = -9) ∨ ∃ j : Nat, j < k ∧ p j = true ∧ near = nI j ∧ ∀ j2 : Nat, j2 < k → p j2 = true → bitI (nI j) ≤ bitI (nI j2)) ∧ ((cnQ p k = 0 ∧ far.toInt = -9) ∨ ∃ j : Nat, j < k ∧ p j = true ∧ far = nI j ∧ ∀ j2 : Nat, j2 < k → p j2 = true → bitI (nI j2) ≤ bitI (nI j)) ∧ ((cnQ p k ≤ i ∧ chosen.toInt = -9) ∨ ∃ j : Nat, j < k ∧ p j = true ∧ cnQ p j = i ∧ chosen = nI j)
theorem cnQ_nn {p : Nat → Bool} {k : Nat} : 0 ≤ cnQ p k ∧ cnQ p k ≤ k := by
  have a := sumI_rng (g := fun j => if p j = true then 1 else 0) (B := 1) k (fun j _ => by
    try dsimp only
    split <;> omega)
  unfold cnQ
  omega
theorem cnQ_pos {p : Nat → Bool} {k j : Nat} (hj : j < k) (h : p j = true) : 1 ≤ cnQ p k := by
  have a := sumI_le1 (f := fun j => if p j = true then 1 else 0) (n := k) (k := j) (fun j _ => by
    try dsimp only
    split <;> omega) hj
  rw [if_pos h] at a
  exact a
theorem cnQ_0 {p : Nat → Bool} {k : Nat} (h : cnQ p k = 0) {j : Nat} (hj : j < k) : p j = false := by
  cases z : p j
  · rfl
  · have := cnQ_pos hj z
    omega
theorem ctsW_0 {p : Nat → Bool} {i : Int} (hi : 0 ≤ i) : ctsW p i (0 : Int32).toNatClampNeg 0 (-9) (-9) (-9) := by
  have z : ((-9) : Int32).toInt = -9 := by decide
  rw [cl_0]
  exact ⟨rfl, Or.inl ⟨rfl, z⟩, Or.inl ⟨rfl, z⟩, Or.inl ⟨hi, z⟩⟩
theorem ctsW_no {p : Nat → Bool} {i : Int} {k k2 cu ne fa ch : Int32} (h : ctsW p i k.toNatClampNeg cu ne fa ch) (h0 : 0 ≤ k.toInt) (e : k2.toInt = k.toInt + 1) (hp : p k.toNatClampNeg = false) : ctsW p i k2.toNatClampNeg cu ne fa ch := by
  have c := clI (i := k) h0
  have c2 := clI (i := k2) (by omega)
  rw [show k2.toNatClampNeg = k.toNatClampNeg + 1 by omega]
  have q : cnQ p (k.toNatClampNeg + 1) = cnQ p k.toNatClampNeg := by
    show cnQ p k.toNatClampNeg + (if p k.toNatClampNeg = true then 1 else 0) = _
    rw [if_neg (by rw [hp]; decide)]
    omega
  have ot : ∀ j : Nat, j < k.toNatClampNeg + 1 → p j = true → j < k.toNatClampNeg := fun j hj h => by
    rcases Nat.lt_or_ge j k.toNatClampNeg with w | w
    · exact w
    · rw [show j = k.toNatClampNeg by omega, hp] at h
      cases h
  obtain ⟨a1, a2, a3, a4⟩ := h
  refine ⟨by omega, ?_, ?_, ?_⟩
  · rcases a2 with w | ⟨j, hj, b1, b2, b3⟩
    · exact Or.inl ⟨by omega, w.2⟩
    · exact Or.inr ⟨j, by omega, b1, b2, fun j2 h2 g => b3 j2 (ot j2 h2 g) g⟩
  · rcases a3 with w | ⟨j, hj, b1, b2, b3⟩
    · exact Or.inl ⟨by omega, w.2⟩
    · exact Or.inr ⟨j, by omega, b1, b2, fun j2 h2 g => b3 j2 (ot j2 h2 g) g⟩
  · rcases a4 with w | ⟨j, hj, b1, b2, b3⟩
    · exact Or.inl ⟨by omega, w.2⟩
    · exact Or.inr ⟨j, by omega, b1, b2, b3⟩
theorem ctsW_st {p : Nat → Bool} {i : Int} {k k2 cu ne fa ch cu2 ne2 fa2 ch2 : Int32} (h : ctsW p i k.toNatClampNeg cu ne fa ch) (h0 : 0 ≤ k.toInt) (e : k2.toInt = k.toInt + 1) (hp : p k.toNatClampNeg = true) (hcu : cu2.toInt = cu.toInt + 1) (hne : (ne2 = k ∧ (ne.toInt = -9 ∨ bitI k < bitI ne)) ∨ (ne2 = ne ∧ ne.toInt ≠ -9 ∧ bitI ne ≤ bitI k)) (hfa : (fa2 = k ∧ (fa.toInt = -9 ∨ bitI fa < bitI k)) ∨ (fa2 = fa ∧ fa.toInt ≠ -9 ∧ bitI k ≤ bitI fa)) (hch : (ch2 = k ∧ cu.toInt = i) ∨ (ch2 = ch ∧ cu.toInt ≠ i)) (h40 : k.toInt ≤ 5000) : ctsW p i k2.toNatClampNeg cu2 ne2 fa2 ch2 := by
  have c := clI (i := k) h0
  have c2 := clI (i := k2) (by omega)
  have ek := nI_cl h0
  rw [show k2.toNatClampNeg = k.toNatClampNeg + 1 by omega]
  have q : cnQ p (k.toNatClampNeg + 1) = cnQ p k.toNatClampNeg + 1 := by
    show cnQ p k.toNatClampNeg + (if p k.toNatClampNeg = true then 1 else 0) = _
    rw [if_pos hp]
  have n0 := cnQ_nn (p := p) (k := k.toNatClampNeg)
  have nn : ∀ j : Nat, j < k.toNatClampNeg → (nI j).toInt ≠ -9 := fun j hj => by
    rw [nI_toInt (by omega)]
    omega
  obtain ⟨a1, a2, a3, a4⟩ := h
  refine ⟨by omega, Or.inr ?_, Or.inr ?_, ?_⟩
  · rcases hne with ⟨w, g⟩ | ⟨w, g1, g2⟩
    · refine ⟨k.toNatClampNeg, by omega, hp, by rw [w]; exact ek, fun j2 h2 gj => ?_⟩
      by_cases z : j2 = k.toNatClampNeg
      · rw [z]
        exact Int.le_refl _
      · rw [← ek]
        rcases a2 with b | ⟨j, hj, b1, b2, b3⟩
        · rw [cnQ_0 b.1 (show j2 < k.toNatClampNeg by omega)] at gj
          cases gj
        · have := b3 j2 (by omega) gj
          have x := nn j hj
          rw [b2] at g
          omega
    · rcases a2 with b | ⟨j, hj, b1, b2, b3⟩
      · exact absurd b.2 g1
      · refine ⟨j, by omega, b1, by rw [w]; exact b2, fun j2 h2 gj => ?_⟩
        by_cases z : j2 = k.toNatClampNeg
        · rw [z, ← ek, ← b2]
          exact g2
        · exact b3 j2 (by omega) gj
  · rcases hfa with ⟨w, g⟩ | ⟨w, g1, g2⟩
    · refine ⟨k.toNatClampNeg, by omega, hp, by rw [w]; exact ek, fun j2 h2 gj => ?_⟩
      by_cases z : j2 = k.toNatClampNeg
      · rw [z]
        exact Int.le_refl _
      · rw [← ek]
        rcases a3 with b | ⟨j, hj, b1, b2, b3⟩
        · rw [cnQ_0 b.1 (show j2 < k.toNatClampNeg by omega)] at gj
          cases gj
        · have := b3 j2 (by omega) gj
          have x := nn j hj
          rw [b2] at g
          omega
    · rcases a3 with b | ⟨j, hj, b1, b2, b3⟩
      · exact absurd b.2 g1
      · refine ⟨j, by omega, b1, by rw [w]; exact b2, fun j2 h2 gj => ?_⟩
        by_cases z : j2 = k.toNatClampNeg
        · rw [z, ← ek, ← b2]
          exact g2
        · exact b3 j2 (by omega) gj
  · rcases hch with ⟨w, g⟩ | ⟨w, g⟩
    · exact Or.inr ⟨k.toNatClampNeg, by omega, hp, by omega, by rw [w]; exact ek⟩
    · rw [w]
      rcases a4 with b | ⟨j, hj, b1, b2, b3⟩
      · exact Or.inl ⟨by omega, b.2⟩
      · exact Or.inr ⟨j, by omega, b1, b2, b3⟩
theorem cutQ_iff {C : (Nat → Bool) → Int} {s t : Nat} {m : Int} {S : Nat → Bool} (hm : m < 1000000) : cutQ C s t m S = true ↔ cutS C s t m S := by
  unfold cutQ cutS sep
  rw [Bool.and_eq_true, Bool.and_eq_true, Bool.not_eq_true', decide_eq_true_iff]
  constructor
  · intro h
    refine ⟨h.1, ?_⟩
    have a := h.2
    unfold mn6 at a
    split at a <;> omega
  · intro h
    refine ⟨h.1, ?_⟩
    rw [h.2]
    exact if_pos hm
noncomputable def refP (C : (Nat → Bool) → Int) (s t : Nat) (m : Int) (j : Nat) : Bool := cutQ C s t m (bt (nI j))
/-! cut() -/
noncomputable def ctI (a b w P : Int) : Int := if ¬ ((0 ≤ a ∧ a < P) ∧ (0 ≤ b ∧ b < P) ∧ a ≠ b) ∨ ¬ (0 ≤ w ∧ w ≤ 1) then -1 else 0
/-- the class's answer -/
noncomputable def ctA (C : (Nat → Bool) → Int) (s t P : Nat) (w : Int) (r : Int32) : Prop := ∃ m : Int, mostR C s t m ∧ (m = -5 → r.toInt = -5) ∧ (m ≠ -5 → (w = 0 → nearP C s t P m r) ∧ (w ≠ 0 → farP C s t P m r))
/-- the reference's -/
noncomputable def ctB (C : (Nat → Bool) → Int) (s t P : Nat) (w : Int) (r : Int32) : Prop := ∃ m : Int, mstM C s t m ∧ (m = 1000000 → r.toInt = -5) ∧ (m ≠ 1000000 → ∃ (i : Int) (cu ne fa ch : Int32), ctsW (refP C s t m) i (2 ^ P) cu ne fa ch ∧ (w = 0 → r = ne) ∧ (w ≠ 0 → r = fa))
theorem mst_most {C : (Nat → Bool) → Int} {s t : Nat} {m a : Int} (h : mostR C s t m) (h0 : ∀ S : Nat → Bool, 0 ≤ C S) (hs : ∃ S : Nat → Bool, sep s t S) (ha : mstM C s t a) : (m = -5 ∧ a = 1000000) ∨ (m ≠ -5 ∧ a = m ∧ m < 1000000) := by
  obtain ⟨b1, b2, b3⟩ := ha
  rcases h with ⟨h1, h2⟩ | ⟨h1, h2, ⟨S, hS, e⟩, h4⟩
  · left
    refine ⟨h1, ?_⟩
    rcases b2 with b2 | ⟨S, hS, e⟩
    · exact b2
    · have := h2 S hS
      unfold mn6 at e
      split at e <;> omega
  · right
    refine ⟨by omega, ?_, h2⟩
    have x := b3 S hS
    have y : mn6 (C S) = C S := if_pos (by omega)
    rw [y] at x
    rcases b2 with b2 | ⟨T, hT, g⟩
    · omega
    · have z := h4 T hT
      unfold mn6 at g
      split at g <;> omega
theorem sep_ex {s t : Nat} (h : s ≠ t) : ∃ S : Nat → Bool, sep s t S := ⟨fun x => decide (x = s), decide_eq_true rfl, decide_eq_false (fun e => h e.symm)⟩
theorem cutF_fun {vp vn P N : Int32} {fk fs fe fw fp f5 f6 f7 f8 f9 f10 : Nat → Int32} {r : Int} (h : nrel vp vn fk fs fe fw fp P N f5 f6 f7 f8 f9 f10) (r6 : rng f6 40 0 11) (hN : 0 ≤ N.toInt ∧ N.toInt ≤ 40) : cutF fk fs fe fw r vn.toNatClampNeg = cutR f5 f6 f7 f8 f10 r N.toNatClampNeg := funext (fun _ => cut_same h r6 hN)
theorem refP_f {C : (Nat → Bool) → Int} {s t : Nat} {m : Int} {k : Int32} (h : bt k s = false ∨ bt k t = true ∨ mn6 (C (bt k)) ≠ m) (h0 : 0 ≤ k.toInt) : refP C s t m k.toNatClampNeg = false := by
  unfold refP cutQ
  rw [← nI_cl h0]
  rcases h with h | h | h
  · rw [h]
    rfl
  · rw [h]
    simp
  · rw [decide_eq_false h]
    simp
theorem refP_t {C : (Nat → Bool) → Int} {s t : Nat} {m : Int} {k : Int32} (h1 : bt k s = true) (h2 : bt k t = false) (h3 : mn6 (C (bt k)) = m) (h0 : 0 ≤ k.toInt) : refP C s t m k.toNatClampNeg = true := by
  unfold refP cutQ
  rw [← nI_cl h0, h1, h2, decide_eq_true h3]
  rfl
end

section
set_option maxHeartbeats 4000000 in
set_option maxRecDepth 100000 in
theorem c_X0_reaching2 (l : Launch) (D : va_G) (cy : Nat → ClassId) (sz : Nat) (xc : Nat) (xk : Nat) (clo : Nat) (cro : Nat) (c4 : Nat) (c5 : Nat) (c6 : Nat) (c7 : Nat) (c8 : Nat) (xn : Nat) (n1 : Nat) (n2 : Nat) (n3 : Nat) (n4 : Nat) (n5 : Nat) (vp : Int32) (vn : Int32) (rr : Nat → Nat) (Mr : Nat → Nat → Int32) (f7 : Nat → Int32) (a1 : Int32) (hvp : 0 ≤ vp.toInt ∧ vp.toInt ≤ 12) (q1 : 0 ≤ a1.toInt ∧ a1.toInt < vp.toInt) (r_f7 : rng f7 12 (0) (11)) : Met l yX0_reaching wsX0_reaching ({ frames := 0, cells := 0, slots := 0, locals := 0 }) (va_Pc [.ref xc, .int a1] (fun U => U.heap.size = sz ∧ va_P D vwCl [ob0_0_ xc xn xk clo cro c4 c5 c6 c7 c8, ob3_0_ xn vp vn n1 n2 n3 n4 n5, aq_ cy 6 cro 12 (gf_ rr), ai_ cy (rr 0) 12 (Mr 0), ai_ cy (rr 1) 12 (Mr 1), ai_ cy (rr 2) 12 (Mr 2), ai_ cy (rr 3) 12 (Mr 3), ai_ cy (rr 4) 12 (Mr 4), ai_ cy (rr 5) 12 (Mr 5), ai_ cy (rr 6) 12 (Mr 6), ai_ cy (rr 7) 12 (Mr 7), ai_ cy (rr 8) 12 (Mr 8), ai_ cy (rr 9) 12 (Mr 9), ai_ cy (rr 10) 12 (Mr 10), ai_ cy (rr 11) 12 (Mr 11), ai_ cy c7 12 f7] U.heap ∧ kg_ D cy U ∧ va_D (fun _ => True) [ob0_0_ xc xn xk clo cro c4 c5 c6 c7 c8, ob3_0_ xn vp vn n1 n2 n3 n4 n5, aq_ cy 6 cro 12 (gf_ rr), ai_ cy (rr 0) 12 (Mr 0), ai_ cy (rr 1) 12 (Mr 1), ai_ cy (rr 2) 12 (Mr 2), ai_ cy (rr 3) 12 (Mr 3), ai_ cy (rr 4) 12 (Mr 4), ai_ cy (rr 5) 12 (Mr 5), ai_ cy (rr 6) 12 (Mr 6), ai_ cy (rr 7) 12 (Mr 7), ai_ cy (rr 8) 12 (Mr 8), ai_ cy (rr 9) 12 (Mr 9), ai_ cy (rr 10) 12 (Mr 10), ai_ cy (rr 11) 12 (Mr 11), ai_ cy c7 12 f7])) (va_Qi (fun (r : Int32) (_ : Unit) => (rchd (zT Mr) vp.toNatClampNeg 1 a1.toNatClampNeg (bt r))) (fun (_ : Unit) (t : State) => ∃ (e7 : Nat → Int32), (rng e7 12 (0) (11)) ∧ va_P D vwCl [ob0_0_ xc xn xk clo cro c4 c5 c6 c7 c8, ob3_0_ xn vp vn n1 n2 n3 n4 n5, aq_ cy 6 cro 12 (gf_ rr), ai_ cy (rr 0) 12 (Mr 0), ai_ cy (rr 1) 12 (Mr 1), ai_ cy (rr 2) 12 (Mr 2), ai_ cy (rr 3) 12 (Mr 3), ai_ cy (rr 4) 12 (Mr 4), ai_ cy (rr 5) 12 (Mr 5), ai_ cy (rr 6) 12 (Mr 6), ai_ cy (rr 7) 12 (Mr 7), ai_ cy (rr 8) 12 (Mr 8), ai_ cy (rr 9) 12 (Mr 9), ai_ cy (rr 10) 12 (Mr 10), ai_ cy (rr 11) 12 (Mr 11), ai_ cy c7 12 e7] t.heap ∧ va_D (va_A [ob0_0_ xc xn xk clo cro c4 c5 c6 c7 c8, ob3_0_ xn vp vn n1 n2 n3 n4 n5, aq_ cy 6 cro 12 (gf_ rr), ai_ cy (rr 0) 12 (Mr 0), ai_ cy (rr 1) 12 (Mr 1), ai_ cy (rr 2) 12 (Mr 2), ai_ cy (rr 3) 12 (Mr 3), ai_ cy (rr 4) 12 (Mr 4), ai_ cy (rr 5) 12 (Mr 5), ai_ cy (rr 6) 12 (Mr 6), ai_ cy (rr 7) 12 (Mr 7), ai_ cy (rr 8) 12 (Mr 8), ai_ cy (rr 9) 12 (Mr 9), ai_ cy (rr 10) 12 (Mr 10), ai_ cy (rr 11) 12 (Mr 11), ai_ cy c7 12 f7] sz) [ob0_0_ xc xn xk clo cro c4 c5 c6 c7 c8, ob3_0_ xn vp vn n1 n2 n3 n4 n5, aq_ cy 6 cro 12 (gf_ rr), ai_ cy (rr 0) 12 (Mr 0), ai_ cy (rr 1) 12 (Mr 1), ai_ cy (rr 2) 12 (Mr 2), ai_ cy (rr 3) 12 (Mr 3), ai_ cy (rr 4) 12 (Mr 4), ai_ cy (rr 5) 12 (Mr 5), ai_ cy (rr 6) 12 (Mr 6), ai_ cy (rr 7) 12 (Mr 7), ai_ cy (rr 8) 12 (Mr 8), ai_ cy (rr 9) 12 (Mr 9), ai_ cy (rr 10) 12 (Mr 10), ai_ cy (rr 11) 12 (Mr 11), ai_ cy c7 12 e7]) (va_A [ob0_0_ xc xn xk clo cro c4 c5 c6 c7 c8, ob3_0_ xn vp vn n1 n2 n3 n4 n5, aq_ cy 6 cro 12 (gf_ rr), ai_ cy (rr 0) 12 (Mr 0), ai_ cy (rr 1) 12 (Mr 1), ai_ cy (rr 2) 12 (Mr 2), ai_ cy (rr 3) 12 (Mr 3), ai_ cy (rr 4) 12 (Mr 4), ai_ cy (rr 5) 12 (Mr 5), ai_ cy (rr 6) 12 (Mr 6), ai_ cy (rr 7) 12 (Mr 7), ai_ cy (rr 8) 12 (Mr 8), ai_ cy (rr 9) 12 (Mr 9), ai_ cy (rr 10) 12 (Mr 10), ai_ cy (rr 11) 12 (Mr 11), ai_ cy c7 12 f7] sz)) 0 0 (va_A [ob0_0_ xc xn xk clo cro c4 c5 c6 c7 c8, ob3_0_ xn vp vn n1 n2 n3 n4 n5, aq_ cy 6 cro 12 (gf_ rr), ai_ cy (rr 0) 12 (Mr 0), ai_ cy (rr 1) 12 (Mr 1), ai_ cy (rr 2) 12 (Mr 2), ai_ cy (rr 3) 12 (Mr 3), ai_ cy (rr 4) 12 (Mr 4), ai_ cy (rr 5) 12 (Mr 5), ai_ cy (rr 6) 12 (Mr 6), ai_ cy (rr 7) 12 (Mr 7), ai_ cy (rr 8) 12 (Mr 8), ai_ cy (rr 9) 12 (Mr 9), ai_ cy (rr 10) 12 (Mr 10), ai_ cy (rr 11) 12 (Mr 11), ai_ cy c7 12 f7] sz) := by
  refine ofQ (cc := cX0_reaching) (maxL := 6) (ret := (some .int)) (by decide) rfl ?_
  intro p e s m args below meth c s₁ Q hQ B hml hv
  obtain ⟨rfl, hsz, hP, hK, hD0⟩ := hv
  have hG := hK.2
  have hK := hK.1
  have hx := B.exec
  have hb := B.bytes
  have hr := B.returns
  have hts := atoms_spec (ws := wsX0_reaching) B.pre
  have hown : s.vm.findClass RX0 = some m.cls := by have h_ := findClass_of_methodNamed B.named; exact h_
  have hlocks := B.notSynchronized
  subst hsz
  have hD := hD0.self (sz := s.heap.size)
  generalize hAe : va_A [ob0_0_ xc xn xk clo cro c4 c5 c6 c7 c8, ob3_0_ xn vp vn n1 n2 n3 n4 n5, aq_ cy 6 cro 12 (gf_ rr), ai_ cy (rr 0) 12 (Mr 0), ai_ cy (rr 1) 12 (Mr 1), ai_ cy (rr 2) 12 (Mr 2), ai_ cy (rr 3) 12 (Mr 3), ai_ cy (rr 4) 12 (Mr 4), ai_ cy (rr 5) 12 (Mr 5), ai_ cy (rr 6) 12 (Mr 6), ai_ cy (rr 7) 12 (Mr 7), ai_ cy (rr 8) 12 (Mr 8), ai_ cy (rr 9) 12 (Mr 9), ai_ cy (rr 10) 12 (Mr 10), ai_ cy (rr 11) 12 (Mr 11), ai_ cy c7 12 f7] s.heap.size = A at hD hQ
  have hA : ∀ q : Nat, s.heap.size ≤ q → A q := fun q h => by rw [← hAe]; exact Or.inr h
  have hS : va_S A s.heap s.heap [] := va_S.rf
  have hl := lv_entry ([.ref xc, .int a1]) (n := 6) (Nat.le_of_ble_eq_true rfl)
  rw [lg_entry_eq]
  generalize (lg_sl ([.ref xc, .int a1]) ++ List.replicate (6 - (lg_sl ([.ref xc, .int a1])).length) Slot.unset).toArray = ls at hl ⊢
  have hl : lv_has ls 6 [(0, .ref xc), (1, .int a1)] := hl
  have z0 : (0 : Int32).toInt = 0 := by decide
  have z1 : (1 : Int32).toInt = 1 := by decide
  have z12 : (12 : Int32).toInt = 12 := by decide
  refine lv_iconst (v := 1) hx hb dB_36_0_31.1.1.1.1 (by decide) ?_
  refine lv_iload_n hx hb dB_36_0_31.1.1.1.2 rfl (lv_at hl 1 rfl) ?_
  refine lv_ishl hx hb dB_36_0_31.1.1.2.1 ?_
  refine lv_topi (fun y_1 ey_1 => ?_)
  refine lv_istore_n (lv' := [(2, .int y_1), (0, .ref xc), (1, .int a1)]) hx hb dB_36_0_31.1.1.2.2 rfl hl (by decide) rfl (fun ls hl => ?_)
  refine lv_iconst (v := 1) hx hb dB_36_0_31.1.2.1.1 (by decide) ?_
  refine lv_istore_n (lv' := [(3, .int 1), (2, .int y_1), (0, .ref xc), (1, .int a1)]) hx hb dB_36_0_31.1.2.1.2 rfl hl (by decide) rfl (fun ls hl => ?_)
  refine lv_aload_n hx hb dB_36_0_31.1.2.2.1 rfl (lv_at hl 2 rfl) ?_
  refine va_get (ci := 0) (v := .ref c7) (C := RX0) (T := TX0) (N := 9) hx hb hts (fun _ h => List.mem_cons_of_mem _ (List.mem_append_left _ (List.mem_append_right _ h))) hown hK.1 hP 0 rfl rfl 7 (by decide) (hts (.fieldLink RX0 29 "CutAtlas$Current" "queue" "[I") (List.mem_of_getElem? (i := 1) rfl)) (fun _ h9 => h9) rfl dB_36_0_31.1.2.2.2 ?_
  refine lv_iconst (v := 0) hx hb dB_36_0_31.2.1.1.1 (by decide) ?_
  refine lv_iload_n hx hb dB_36_0_31.2.1.1.2 rfl (lv_at hl 3 rfl) ?_
  have h_2 : vp_in (0 : Int32) 12 := by unfold vp_in; decide
  refine va_iast hx hb hK.1 hP hD hS 15 0 rfl rfl (i := 0) h_2 dB_36_0_31.2.1.2.1 (fun H locs hP hD hS => ?_)
  obtain ⟨f_3, ef_3⟩ : ∃ g : Nat → Int32, g = upd f7 (0 : Int32).toNatClampNeg a1 := ⟨_, rfl⟩
  refine pd_K (D := D) (cl := vwCl) (H := H) (A := A) [ob0_0_ xc xn xk clo cro c4 c5 c6 c7 c8, ob3_0_ xn vp vn n1 n2 n3 n4 n5, aq_ cy 6 cro 12 (gf_ rr), ai_ cy (rr 0) 12 (Mr 0), ai_ cy (rr 1) 12 (Mr 1), ai_ cy (rr 2) 12 (Mr 2), ai_ cy (rr 3) 12 (Mr 3), ai_ cy (rr 4) 12 (Mr 4), ai_ cy (rr 5) 12 (Mr 5), ai_ cy (rr 6) 12 (Mr 6), ai_ cy (rr 7) 12 (Mr 7), ai_ cy (rr 8) 12 (Mr 8), ai_ cy (rr 9) 12 (Mr 9), ai_ cy (rr 10) 12 (Mr 10), ai_ cy (rr 11) 12 (Mr 11), ai_ cy c7 12 f_3] (by rw [ef_3]; exact hP) (by rw [ef_3]; exact hD) (fun hP hD => ?_)
  have rf_3 : rng f_3 12 (0) (11) := by rw [ef_3]; exact rng_upd r_f7 (by omega) (by omega)
  have hq_ : mq y_1 f_3 (1 : Int32).toNatClampNeg := mq_one (by assumption) (by assumption) (by omega) (by omega)
  have hbf_ : bfq (rB (zT Mr) 1) vp.toNatClampNeg a1.toNatClampNeg y_1 f_3 (1 : Int32).toNatClampNeg := bfq_one (by assumption) (by assumption) (by omega) (by omega) (nc_lt (by omega) (by omega))
  refine lv_iconst (v := 0) hx hb dB_36_0_31.2.1.2.2 (by decide) ?_
  refine lv_istore (lv' := [(4, .int 0), (3, .int 1), (2, .int y_1), (0, .ref xc), (1, .int a1)]) hx hb dB_36_0_31.2.2.1.1 hl (by decide) rfl (fun ls hl => ?_)
  suffices LOOP_4 : ∀ (n_4 : Nat) (x4_4 : Int32) (x3_4 : Int32) (x2_4 : Int32) (c_c7_4 : Nat → Int32) (H : Heap) (locs : List Loc) (ls : Array Slot), 12 - x4_4.toInt < (n_4 : Int) → (1 ≤ x3_4.toInt) → (x3_4.toInt ≤ 12) → (0 ≤ x4_4.toInt) → (x4_4.toInt ≤ 12) → (mq x2_4 c_c7_4 x3_4.toNatClampNeg) → (bfq (rB (zT Mr) 1) vp.toNatClampNeg a1.toNatClampNeg x2_4 c_c7_4 x3_4.toNatClampNeg) → (don (zT Mr) vp.toNatClampNeg 1 x2_4 c_c7_4 x4_4.toNatClampNeg) → (rng c_c7_4 12 (0) (11)) → pd_2 D vwCl A [ob0_0_ xc xn xk clo cro c4 c5 c6 c7 c8, ob3_0_ xn vp vn n1 n2 n3 n4 n5, aq_ cy 6 cro 12 (gf_ rr), ai_ cy (rr 0) 12 (Mr 0), ai_ cy (rr 1) 12 (Mr 1), ai_ cy (rr 2) 12 (Mr 2), ai_ cy (rr 3) 12 (Mr 3), ai_ cy (rr 4) 12 (Mr 4), ai_ cy (rr 5) 12 (Mr 5), ai_ cy (rr 6) 12 (Mr 6), ai_ cy (rr 7) 12 (Mr 7), ai_ cy (rr 8) 12 (Mr 8), ai_ cy (rr 9) 12 (Mr 9), ai_ cy (rr 10) 12 (Mr 10), ai_ cy (rr 11) 12 (Mr 11), ai_ cy c7 12 c_c7_4] H → va_S A s.heap H locs → lv_has ls 6 [(4, .int x4_4), (3, .int x3_4), (2, .int x2_4), (0, .ref xc), (1, .int a1)] → W p l e ({ frames := 0, cells := 0, slots := 0, locals := 0 } : Room) s m (([.ref xc, .int a1] : List Value).toArray) below meth c H locs 0 0 Q (F0 m 16 ls []) from LOOP_4 ((12 - (0 : Int32).toInt).toNat + 1) (0 : Int32) (1 : Int32) y_1 f_3 _ _ _ (by omega) (by first | with_reducible assumption | omega | assumption) (by first | with_reducible assumption | omega | assumption) (by first | with_reducible assumption | omega | assumption) (by first | with_reducible assumption | omega | assumption) (by first | with_reducible assumption | assumption | omega) (by first | exact hbf_ | assumption) (by first | exact don_0 | exact don_nx v_none v_none (by omega) (by omega) (by omega)) (by first | with_reducible assumption | assumption | exact rng_zero (by omega) (by omega) | exact orng_zero) ⟨hP, hD⟩ hS (lv_sub hl [0, 1, 2, 3, 4] rfl)
  intro n_4
  induction n_4 with
  | zero =>
    intro x4_4 x3_4 x2_4 c_c7_4 H locs ls hm v0_4 v1_4 v2_4 v3_4 v4_4 v5_4 v6_4 rc_c7_4 hPD hS hl; obtain ⟨hP, hD⟩ := hPD
    exact absurd hm (by omega)
  | succ n_4 ih_4 =>
    intro x4_4 x3_4 x2_4 c_c7_4 H locs ls hm v0_4 v1_4 v2_4 v3_4 v4_4 v5_4 v6_4 rc_c7_4 hPD hS hl; obtain ⟨hP, hD⟩ := hPD
    refine lv_iload hx hb dB_36_0_31.2.2.1.2 (lv_at hl 0 rfl) ?_
    refine lv_iload_n hx hb dB_36_0_31.2.2.2.1 rfl (lv_at hl 1 rfl) ?_
    refine lv_icmp_ge (tgt := 101) hx hb dB_36_0_31.2.2.2.2 (by decide) (fun c_5 => ?_) (fun c_5 => ?_)
    · have t_5 : x3_4.toInt ≤ x4_4.toInt := Int32.le_iff_toInt_le.mp c_5
      refine lv_iload_n hx hb dB_36_0_34.2.2.2.1 rfl (lv_at hl 2 rfl) ?_
      rw [hQ]
      exact W.iret (v := x2_4) hx hb hr (fun t ht hW => ⟨⟨x2_4, (), rfl, (bfq_rchd v5_4 v6_4 (nc_le (by omega) (by omega))), c_c7_4, (by first | with_reducible assumption | assumption | exact rng_zero (by omega) (by omega) | omega), by rw [ht]; exact hP, hD⟩, hS.F ht⟩) hS.2.2 dB_36_0_34.2.2.2.2
    · have t_5 : ¬ x3_4.toInt ≤ x4_4.toInt := fun h => c_5 (Int32.le_iff_toInt_le.mpr h)
      refine lv_iload hx hb dB_36_0_32.1.1.1.1 (lv_at hl 0 rfl) ?_
      refine lv_bipush (v := 12) hx hb dB_36_0_32.1.1.1.2 (by decide) ?_
      refine lv_icmp_ge (tgt := 101) hx hb dB_36_0_32.1.1.2.1 (by decide) (fun c_6 => ?_) (fun c_6 => ?_)
      · have t_6 : (12 : Int32).toInt ≤ x4_4.toInt := Int32.le_iff_toInt_le.mp c_6
        refine lv_iload_n hx hb dB_36_0_34.2.2.2.1 rfl (lv_at hl 2 rfl) ?_
        rw [hQ]
        exact W.iret (v := x2_4) hx hb hr (fun t ht hW => ⟨⟨x2_4, (), rfl, (bfq_rchd v5_4 v6_4 (nc_le (by omega) (by omega))), c_c7_4, (by first | with_reducible assumption | assumption | exact rng_zero (by omega) (by omega) | omega), by rw [ht]; exact hP, hD⟩, hS.F ht⟩) hS.2.2 dB_36_0_34.2.2.2.2
      · have t_6 : ¬ (12 : Int32).toInt ≤ x4_4.toInt := fun h => c_6 (Int32.le_iff_toInt_le.mpr h)
        refine lv_iconst (v := 0) hx hb dB_36_0_32.1.1.2.2 (by decide) ?_
        refine lv_istore (lv' := [(5, .int 0), (4, .int x4_4), (3, .int x3_4), (2, .int x2_4), (0, .ref xc), (1, .int a1)]) hx hb dB_36_0_32.1.2.1.1 hl (by decide) rfl (fun ls hl => ?_)
        suffices LOOP_7 : ∀ (n_7 : Nat) (x5_7 : Int32) (x3_7 : Int32) (x2_7 : Int32) (c_c7_7 : Nat → Int32) (H : Heap) (locs : List Loc) (ls : Array Slot), vp.toInt - x5_7.toInt < (n_7 : Int) → (1 ≤ x3_7.toInt) → (x3_7.toInt ≤ 12) → (0 ≤ x5_7.toInt) → (x5_7.toInt ≤ vp.toInt) → (mq x2_7 c_c7_7 x3_7.toNatClampNeg) → (bfq (rB (zT Mr) 1) vp.toNatClampNeg a1.toNatClampNeg x2_7 c_c7_7 x3_7.toNatClampNeg) → (don (zT Mr) vp.toNatClampNeg 1 x2_7 c_c7_7 x4_4.toNatClampNeg) → (x4_4.toInt < x3_7.toInt) → (donY (zT Mr) 1 x2_7 (nF c_c7_7 x4_4.toNatClampNeg) x5_7.toNatClampNeg) → (rng c_c7_7 12 (0) (11)) → pd_2 D vwCl A [ob0_0_ xc xn xk clo cro c4 c5 c6 c7 c8, ob3_0_ xn vp vn n1 n2 n3 n4 n5, aq_ cy 6 cro 12 (gf_ rr), ai_ cy (rr 0) 12 (Mr 0), ai_ cy (rr 1) 12 (Mr 1), ai_ cy (rr 2) 12 (Mr 2), ai_ cy (rr 3) 12 (Mr 3), ai_ cy (rr 4) 12 (Mr 4), ai_ cy (rr 5) 12 (Mr 5), ai_ cy (rr 6) 12 (Mr 6), ai_ cy (rr 7) 12 (Mr 7), ai_ cy (rr 8) 12 (Mr 8), ai_ cy (rr 9) 12 (Mr 9), ai_ cy (rr 10) 12 (Mr 10), ai_ cy (rr 11) 12 (Mr 11), ai_ cy c7 12 c_c7_7] H → va_S A s.heap H locs → lv_has ls 6 [(5, .int x5_7), (4, .int x4_4), (3, .int x3_7), (2, .int x2_7), (0, .ref xc), (1, .int a1)] → W p l e ({ frames := 0, cells := 0, slots := 0, locals := 0 } : Room) s m (([.ref xc, .int a1] : List Value).toArray) below meth c H locs 0 0 Q (F0 m 32 ls []) from LOOP_7 ((vp.toInt - (0 : Int32).toInt).toNat + 1) (0 : Int32) x3_4 x2_4 c_c7_4 _ _ _ (by omega) (by first | with_reducible assumption | omega | assumption) (by first | with_reducible assumption | omega | assumption) (by first | with_reducible assumption | omega | assumption) (by first | with_reducible assumption | omega | assumption) (by first | with_reducible assumption | assumption | exact hp_ _ (by omega)) (by first | with_reducible assumption | assumption | exact hb2_ _ (by omega)) (by first | with_reducible assumption | assumption | exact hd2_) (by first | with_reducible assumption | omega | assumption) (by first | exact donY_0 | exact hy2_ _ (by omega) | exact donY_met v_none (by omega) (by omega) (Or.inl (bt_nz hbw_ (by omega))) | exact donY_met v_none (by omega) (by omega) (Or.inr (by omega))) (by first | with_reducible assumption | assumption | exact rng_zero (by omega) (by omega) | exact orng_zero) ⟨hP, hD⟩ hS (lv_sub hl [0, 1, 2, 3, 4, 5] rfl)
        intro n_7
        induction n_7 with
        | zero =>
          intro x5_7 x3_7 x2_7 c_c7_7 H locs ls hm v0_7 v1_7 v2_7 v3_7 v4_7 v5_7 v6_7 v7_7 v8_7 rc_c7_7 hPD hS hl; obtain ⟨hP, hD⟩ := hPD
          exact absurd hm (by omega)
        | succ n_7 ih_7 =>
          intro x5_7 x3_7 x2_7 c_c7_7 H locs ls hm v0_7 v1_7 v2_7 v3_7 v4_7 v5_7 v6_7 v7_7 v8_7 rc_c7_7 hPD hS hl; obtain ⟨hP, hD⟩ := hPD
          refine lv_iload hx hb dB_36_0_32.1.2.1.2 (lv_at hl 0 rfl) ?_
          refine lv_aload_n hx hb dB_36_0_32.1.2.2.1 rfl (lv_at hl 4 rfl) ?_
          refine va_get (ci := 0) (v := .ref xn) (C := RX0) (T := TX0) (N := 9) hx hb hts (fun _ h => List.mem_cons_of_mem _ (List.mem_append_left _ (List.mem_append_right _ h))) hown hK.1 hP 0 rfl rfl 0 (by decide) (hts (.fieldLink RX0 35 "CutAtlas$Current" "net" "LCutAtlas$Net;") (List.mem_of_getElem? (i := 2) rfl)) (fun _ h9 => h9) rfl dB_36_0_32.1.2.2.2 ?_
          refine va_get (ci := 3) (v := .int vp) (C := RX3) (T := TX3) (N := 7) hx hb hts (fun _ h => List.mem_cons_of_mem _ (List.mem_append_right _ h)) hown hK.1 hP 1 rfl rfl 0 (by decide) (hts (.fieldLink RX0 43 "CutAtlas$Net" "places" "I") (List.mem_of_getElem? (i := 3) rfl)) (fun _ h9 => h9) rfl dB_36_0_32.2.1.1.1 ?_
          refine lv_icmp_ge (tgt := 95) hx hb dB_36_0_32.2.1.1.2 (by decide) (fun c_8 => ?_) (fun c_8 => ?_)
          · have t_8 : vp.toInt ≤ x5_7.toInt := Int32.le_iff_toInt_le.mp c_8
            obtain ⟨y_9, ey_9⟩ : ∃ y : Int32, y = x4_4 + 1 := ⟨_, rfl⟩
            have ty_9 : y_9.toInt = x4_4.toInt + (1 : Int32).toInt := by rw [ey_9]; exact addI (by omega) (by omega)
            refine lv_iinc (v := y_9) (lv' := [(4, .int y_9), (5, .int x5_7), (3, .int x3_7), (2, .int x2_7), (0, .ref xc), (1, .int a1)]) hx hb dB_36_0_34.2.1.2.2 hl (k := 1) rfl (by rw [ey_9]; rfl) (by decide) rfl (fun ls hl => ?_)
            refine lv_goto (tgt := 16) hx hb dB_36_0_34.2.2.1 (by decide) ?_
            exact ih_4 y_9 x3_7 x2_7 c_c7_7 _ _ _ (by omega) (by first | with_reducible assumption | omega | assumption) (by first | with_reducible assumption | omega | assumption) (by first | with_reducible assumption | omega | assumption) (by first | with_reducible assumption | omega | assumption) (by first | with_reducible assumption | assumption | omega) (by first | exact hbf_ | assumption) (by first | exact don_0 | exact don_nx v6_7 v8_7 (by omega) (by omega) (by omega)) (by first | with_reducible assumption | assumption | exact rng_zero (by omega) (by omega) | exact orng_zero) ⟨hP, hD⟩ hS (lv_sub hl [0, 2, 3, 4, 5] rfl)
          · have t_8 : ¬ vp.toInt ≤ x5_7.toInt := fun h => c_8 (Int32.le_iff_toInt_le.mpr h)
            refine lv_iload_n hx hb dB_36_0_32.2.1.2.1 rfl (lv_at hl 3 rfl) ?_
            refine lv_iload hx hb dB_36_0_32.2.1.2.2 (lv_at hl 0 rfl) ?_
            refine lv_ishr hx hb dB_36_0_32.2.2.1.1 ?_
            refine lv_topi (fun y_10 ey_10 => ?_)
            refine lv_iconst (v := 1) hx hb dB_36_0_32.2.2.1.2 (by decide) ?_
            refine lv_iand hx hb dB_36_0_32.2.2.2.1 ?_
            refine lv_topi (fun y_11 ey_11 => ?_)
            have hbw_ := bI_w (x := x2_7) (y := x5_7) (by omega) (by omega) ey_10 ey_11
            refine lv_if_ne (tgt := 89) hx hb dB_36_0_32.2.2.2.2 (by decide) (fun c_12 => ?_) (fun c_12 => ?_)
            · have t_12 : ¬ y_11.toInt = (0 : Int32).toInt := fun h => c_12 (Int32.toInt_inj.mp h)
              obtain ⟨y_13, ey_13⟩ : ∃ y : Int32, y = x5_7 + 1 := ⟨_, rfl⟩
              have ty_13 : y_13.toInt = x5_7.toInt + (1 : Int32).toInt := by rw [ey_13]; exact addI (by omega) (by omega)
              refine lv_iinc (v := y_13) (lv' := [(5, .int y_13), (4, .int x4_4), (3, .int x3_7), (2, .int x2_7), (0, .ref xc), (1, .int a1)]) hx hb dB_36_0_34.2.1.1 hl (k := 0) rfl (by rw [ey_13]; rfl) (by decide) rfl (fun ls hl => ?_)
              refine lv_goto (tgt := 32) hx hb dB_36_0_34.2.1.2.1 (by decide) ?_
              exact ih_7 y_13 x3_7 x2_7 c_c7_7 _ _ _ (by omega) (by first | with_reducible assumption | omega | assumption) (by first | with_reducible assumption | omega | assumption) (by first | with_reducible assumption | omega | assumption) (by first | with_reducible assumption | omega | assumption) (by first | with_reducible assumption | assumption | exact hp_ _ (by omega)) (by first | with_reducible assumption | assumption | exact hb2_ _ (by omega)) (by first | with_reducible assumption | assumption | exact hd2_) (by first | with_reducible assumption | omega | assumption) (by first | exact donY_0 | exact hy2_ _ (by omega) | exact donY_met v8_7 (by omega) (by omega) (Or.inl (bt_nz hbw_ (by omega))) | exact donY_met v8_7 (by omega) (by omega) (Or.inr (by omega))) (by first | with_reducible assumption | assumption | exact rng_zero (by omega) (by omega) | exact orng_zero) ⟨hP, hD⟩ hS (lv_sub hl [0, 1, 2, 3, 4, 5] rfl)
            · have t_12 : y_11.toInt = (0 : Int32).toInt := congrArg Int32.toInt c_12
              have hun_ : bt x2_7 x5_7.toNatClampNeg = false := bt_zero (by omega) (by omega) ey_10 ey_11 (by omega)
              refine lv_aload_n hx hb dB_36_0_33.1.1.1.1 rfl (lv_at hl 4 rfl) ?_
              refine va_get (ci := 0) (v := .ref cro) (C := RX0) (T := TX0) (N := 9) hx hb hts (fun _ h => List.mem_cons_of_mem _ (List.mem_append_left _ (List.mem_append_right _ h))) hown hK.1 hP 0 rfl rfl 3 (by decide) (hts (.fieldLink RX0 16 "CutAtlas$Current" "room" "[[I") (List.mem_of_getElem? (i := 4) rfl)) (fun _ h9 => h9) rfl dB_36_0_33.1.1.1.2 ?_
              refine lv_iload hx hb dB_36_0_33.1.1.2.1 (lv_at hl 0 rfl) ?_
              have h_14 : vp_in x5_7 12 := in_I (by first | with_reducible assumption | omega) (by omega)
              refine va_alda hx hb hG hP 2 rfl (i := x5_7) h_14 dB_36_0_33.1.1.2.2 ?_
              refine lv_topv (v' := .ref (rr x5_7.toNatClampNeg)) (gf_at h_14) ?_
              refine lv_aload_n hx hb dB_36_0_33.1.2.1.1 rfl (lv_at hl 4 rfl) ?_
              refine va_get (ci := 0) (v := .ref c7) (C := RX0) (T := TX0) (N := 9) hx hb hts (fun _ h => List.mem_cons_of_mem _ (List.mem_append_left _ (List.mem_append_right _ h))) hown hK.1 hP 0 rfl rfl 7 (by decide) (hts (.fieldLink RX0 29 "CutAtlas$Current" "queue" "[I") (List.mem_of_getElem? (i := 1) rfl)) (fun _ h9 => h9) rfl dB_36_0_33.1.2.1.2 ?_
              refine lv_iload hx hb dB_36_0_33.1.2.2.1 (lv_at hl 1 rfl) ?_
              have h_15 : vp_in x4_4 12 := in_I (by first | with_reducible assumption | omega) (by omega)
              refine va_iald hx hb hK.1 hP 15 0 rfl rfl (i := x4_4) h_15 dB_36_0_33.1.2.2.2 ?_
              refine lv_topi (fun y_16 ey_16 => ?_)
              have ry_16 : 0 ≤ y_16.toInt ∧ y_16.toInt ≤ 11 := by rw [ey_16]; exact rc_c7_7 _ (in_lt h_15)
              have h_17 : vp_in y_16 12 := in_I (by first | with_reducible assumption | omega) (by omega)
              have hPg : va_P D vwCl (([ob0_0_ xc xn xk clo cro c4 c5 c6 c7 c8, ob3_0_ xn vp vn n1 n2 n3 n4 n5, aq_ cy 6 cro 12 (gf_ rr)] : va_W) ++ (gro (cy 0) rr Mr ++ ([ai_ cy c7 12 c_c7_7] : va_W))) H := hP
              refine va_gld (X := [ob0_0_ xc xn xk clo cro c4 c5 c6 c7 c8, ob3_0_ xn vp vn n1 n2 n3 n4 n5, aq_ cy 6 cro 12 (gf_ rr)]) (Y := [ai_ cy c7 12 c_c7_7]) (r := rr) (M := Mr) (k := x5_7.toNatClampNeg) hx hb hK.1 hPg 0 rfl (in_lt h_14) (i := y_16) h_17 dB_36_0_33.2.1.1.1 ?_
              refine lv_topi (fun y_18 ey_18 => ?_)
              have hmv_ : y_18.toInt = zT Mr (nF c_c7_7 x4_4.toNatClampNeg) x5_7.toNatClampNeg := by unfold zT nF; rw [ey_18, ey_16]
              refine lv_if_le (tgt := 89) hx hb dB_36_0_33.2.1.1.2 (by decide) (fun c_19 => ?_) (fun c_19 => ?_)
              · have t_19 : y_18.toInt ≤ (0 : Int32).toInt := Int32.le_iff_toInt_le.mp c_19
                obtain ⟨y_20, ey_20⟩ : ∃ y : Int32, y = x5_7 + 1 := ⟨_, rfl⟩
                have ty_20 : y_20.toInt = x5_7.toInt + (1 : Int32).toInt := by rw [ey_20]; exact addI (by omega) (by omega)
                refine lv_iinc (v := y_20) (lv' := [(5, .int y_20), (4, .int x4_4), (3, .int x3_7), (2, .int x2_7), (0, .ref xc), (1, .int a1)]) hx hb dB_36_0_34.2.1.1 hl (k := 0) rfl (by rw [ey_20]; rfl) (by decide) rfl (fun ls hl => ?_)
                refine lv_goto (tgt := 32) hx hb dB_36_0_34.2.1.2.1 (by decide) ?_
                exact ih_7 y_20 x3_7 x2_7 c_c7_7 _ _ _ (by omega) (by first | with_reducible assumption | omega | assumption) (by first | with_reducible assumption | omega | assumption) (by first | with_reducible assumption | omega | assumption) (by first | with_reducible assumption | omega | assumption) (by first | with_reducible assumption | assumption | exact hp_ _ (by omega)) (by first | with_reducible assumption | assumption | exact hb2_ _ (by omega)) (by first | with_reducible assumption | assumption | exact hd2_) (by first | with_reducible assumption | omega | assumption) (by first | exact donY_0 | exact hy2_ _ (by omega) | exact donY_met v8_7 (by omega) (by omega) (Or.inl (bt_nz hbw_ (by omega))) | exact donY_met v8_7 (by omega) (by omega) (Or.inr (by omega))) (by first | with_reducible assumption | assumption | exact rng_zero (by omega) (by omega) | exact orng_zero) ⟨hP, hD⟩ hS (lv_sub hl [0, 1, 2, 3, 4, 5] rfl)
              · have t_19 : ¬ y_18.toInt ≤ (0 : Int32).toInt := fun h => c_19 (Int32.le_iff_toInt_le.mpr h)
                have hr_ : x3_7.toInt < 12 := mq_room (x := x2_7) (y := x5_7) (z := y_10) (w := y_11) (q := c_c7_7) (by assumption) (by omega) (by omega) (by assumption) (by assumption) (by omega) (by omega)
                refine lv_iload_n hx hb dB_36_0_33.2.1.2.1 rfl (lv_at hl 3 rfl) ?_
                refine lv_iconst (v := 1) hx hb dB_36_0_33.2.1.2.2 (by decide) ?_
                refine lv_iload hx hb dB_36_0_33.2.2.1.1 (lv_at hl 0 rfl) ?_
                refine lv_ishl hx hb dB_36_0_33.2.2.1.2 ?_
                refine lv_topi (fun y_21 ey_21 => ?_)
                refine lv_ior hx hb dB_36_0_33.2.2.2.1 ?_
                refine lv_topi (fun y_22 ey_22 => ?_)
                refine lv_istore_n (lv' := [(2, .int y_22), (5, .int x5_7), (4, .int x4_4), (3, .int x3_7), (0, .ref xc), (1, .int a1)]) hx hb dB_36_0_33.2.2.2.2 rfl hl (by decide) rfl (fun ls hl => ?_)
                refine lv_aload_n hx hb dB_36_0_34.1.1.1 rfl (lv_at hl 4 rfl) ?_
                refine va_get (ci := 0) (v := .ref c7) (C := RX0) (T := TX0) (N := 9) hx hb hts (fun _ h => List.mem_cons_of_mem _ (List.mem_append_left _ (List.mem_append_right _ h))) hown hK.1 hP 0 rfl rfl 7 (by decide) (hts (.fieldLink RX0 29 "CutAtlas$Current" "queue" "[I") (List.mem_of_getElem? (i := 1) rfl)) (fun _ h9 => h9) rfl dB_36_0_34.1.1.2.1 ?_
                refine lv_iload_n hx hb dB_36_0_34.1.1.2.2 rfl (lv_at hl 3 rfl) ?_
                refine lv_iload hx hb dB_36_0_34.1.2.1 (lv_at hl 1 rfl) ?_
                have h_23 : vp_in x3_7 12 := in_I (by first | with_reducible assumption | omega) (by omega)
                refine va_iast hx hb hK.1 hP hD hS 15 0 rfl rfl (i := x3_7) h_23 dB_36_0_34.1.2.2.1 (fun H locs hP hD hS => ?_)
                obtain ⟨f_24, ef_24⟩ : ∃ g : Nat → Int32, g = upd c_c7_7 x3_7.toNatClampNeg x5_7 := ⟨_, rfl⟩
                refine pd_K (D := D) (cl := vwCl) (H := H) (A := A) [ob0_0_ xc xn xk clo cro c4 c5 c6 c7 c8, ob3_0_ xn vp vn n1 n2 n3 n4 n5, aq_ cy 6 cro 12 (gf_ rr), ai_ cy (rr 0) 12 (Mr 0), ai_ cy (rr 1) 12 (Mr 1), ai_ cy (rr 2) 12 (Mr 2), ai_ cy (rr 3) 12 (Mr 3), ai_ cy (rr 4) 12 (Mr 4), ai_ cy (rr 5) 12 (Mr 5), ai_ cy (rr 6) 12 (Mr 6), ai_ cy (rr 7) 12 (Mr 7), ai_ cy (rr 8) 12 (Mr 8), ai_ cy (rr 9) 12 (Mr 9), ai_ cy (rr 10) 12 (Mr 10), ai_ cy (rr 11) 12 (Mr 11), ai_ cy c7 12 f_24] (by rw [ef_24]; exact hP) (by rw [ef_24]; exact hD) (fun hP hD => ?_)
                have rf_24 : rng f_24 12 (0) (11) := by rw [ef_24]; exact rng_upd rc_c7_7 (by omega) (by omega)
                have hp_ : ∀ m2 : Int32, m2.toInt = x3_7.toInt + 1 → mq y_22 f_24 m2.toNatClampNeg := fun m2 em => mq_push (x := x2_7) (y := x5_7) (z := y_10) (w := y_11) (m := x3_7) (b := y_21) (q := c_c7_7) (by assumption) (by omega) (by omega) (by assumption) (by assumption) (by omega) (by omega) (by assumption) (by assumption) (by assumption) em
                have hb2_ : ∀ m2 : Int32, m2.toInt = x3_7.toInt + 1 → bfq (rB (zT Mr) 1) vp.toNatClampNeg a1.toNatClampNeg y_22 f_24 m2.toNatClampNeg := fun m2 em => bfq_push (h := x4_4.toNatClampNeg) v5_7 (by omega) (by omega) (nc_lt (by omega) (by omega)) (by omega) ey_21 ey_22 ef_24 em (nc_lt (x := x4_4) (P := x3_7) (by omega) (by omega)) (fun u v _ r => r) hun_ (by unfold rB; omega)
                have hd2_ : don (zT Mr) vp.toNatClampNeg 1 y_22 f_24 x4_4.toNatClampNeg := don_push v6_7 ey_22 ef_24 (Nat.le_of_lt (nc_lt (x := x4_4) (P := x3_7) (by omega) (by omega)))
                have hnq_ : nF f_24 x4_4.toNatClampNeg = nF c_c7_7 x4_4.toNatClampNeg := by unfold nF; rw [ef_24, pk_un (Nat.ne_of_lt (nc_lt (x := x4_4) (P := x3_7) (by omega) (by omega)))]
                have hy2_ : ∀ y2 : Int32, y2.toInt = x5_7.toInt + 1 → donY (zT Mr) 1 y_22 (nF f_24 x4_4.toNatClampNeg) y2.toNatClampNeg := fun y2 ey => by rw [hnq_]; exact donY_push v8_7 (by omega) (by omega) ey_21 ey_22 ey
                obtain ⟨y_25, ey_25⟩ : ∃ y : Int32, y = x3_7 + 1 := ⟨_, rfl⟩
                have ty_25 : y_25.toInt = x3_7.toInt + (1 : Int32).toInt := by rw [ey_25]; exact addI (by omega) (by omega)
                refine lv_iinc (v := y_25) (lv' := [(3, .int y_25), (2, .int y_22), (5, .int x5_7), (4, .int x4_4), (0, .ref xc), (1, .int a1)]) hx hb dB_36_0_34.1.2.2.2 hl (k := 3) rfl (by rw [ey_25]; rfl) (by decide) rfl (fun ls hl => ?_)
                obtain ⟨y_26, ey_26⟩ : ∃ y : Int32, y = x5_7 + 1 := ⟨_, rfl⟩
                have ty_26 : y_26.toInt = x5_7.toInt + (1 : Int32).toInt := by rw [ey_26]; exact addI (by omega) (by omega)
                refine lv_iinc (v := y_26) (lv' := [(5, .int y_26), (3, .int y_25), (2, .int y_22), (4, .int x4_4), (0, .ref xc), (1, .int a1)]) hx hb dB_36_0_34.2.1.1 hl (k := 2) rfl (by rw [ey_26]; rfl) (by decide) rfl (fun ls hl => ?_)
                refine lv_goto (tgt := 32) hx hb dB_36_0_34.2.1.2.1 (by decide) ?_
                exact ih_7 y_26 y_25 y_22 f_24 _ _ _ (by omega) (by first | with_reducible assumption | omega | assumption) (by first | with_reducible assumption | omega | assumption) (by first | with_reducible assumption | omega | assumption) (by first | with_reducible assumption | omega | assumption) (by first | with_reducible assumption | assumption | exact hp_ _ (by omega)) (by first | with_reducible assumption | assumption | exact hb2_ _ (by omega)) (by first | with_reducible assumption | assumption | exact hd2_) (by first | with_reducible assumption | omega | assumption) (by first | exact donY_0 | exact hy2_ _ (by omega) | exact donY_met v8_7 (by omega) (by omega) (Or.inl (bt_nz hbw_ (by omega))) | exact donY_met v8_7 (by omega) (by omega) (Or.inr (by omega))) (by first | with_reducible assumption | assumption | exact rng_zero (by omega) (by omega) | exact orng_zero) ⟨hP, hD⟩ hS (lv_sub hl [0, 3, 1, 2, 4, 5] rfl)

set_option maxHeartbeats 4000000 in
set_option maxRecDepth 100000 in
theorem c_X0_nearCut2 (l : Launch) (D : va_G) (cy : Nat → ClassId) (sz : Nat) (xc : Nat) (xk : Nat) (clo : Nat) (cro : Nat) (c4 : Nat) (c5 : Nat) (c6 : Nat) (c7 : Nat) (c8 : Nat) (xn : Nat) (n1 : Nat) (n2 : Nat) (n3 : Nat) (n4 : Nat) (n5 : Nat) (vp : Int32) (vn : Int32) (rr : Nat → Nat) (Mr : Nat → Nat → Int32) (f7 : Nat → Int32) (a1 : Int32) (hvp : 0 ≤ vp.toInt ∧ vp.toInt ≤ 12) (q1 : 0 ≤ a1.toInt ∧ a1.toInt < vp.toInt) (r_f7 : rng f7 12 (0) (11)) : Met l yX0_nearCut wsX0_nearCut ({ frames := 1, cells := 0, slots := 0, locals := 26 }) (va_Pc [.ref xc, .int a1] (fun U => U.heap.size = sz ∧ va_P D vwCl [ob0_0_ xc xn xk clo cro c4 c5 c6 c7 c8, ob3_0_ xn vp vn n1 n2 n3 n4 n5, aq_ cy 6 cro 12 (gf_ rr), ai_ cy (rr 0) 12 (Mr 0), ai_ cy (rr 1) 12 (Mr 1), ai_ cy (rr 2) 12 (Mr 2), ai_ cy (rr 3) 12 (Mr 3), ai_ cy (rr 4) 12 (Mr 4), ai_ cy (rr 5) 12 (Mr 5), ai_ cy (rr 6) 12 (Mr 6), ai_ cy (rr 7) 12 (Mr 7), ai_ cy (rr 8) 12 (Mr 8), ai_ cy (rr 9) 12 (Mr 9), ai_ cy (rr 10) 12 (Mr 10), ai_ cy (rr 11) 12 (Mr 11), ai_ cy c7 12 f7] U.heap ∧ kg_ D cy U ∧ va_D (fun _ => True) [ob0_0_ xc xn xk clo cro c4 c5 c6 c7 c8, ob3_0_ xn vp vn n1 n2 n3 n4 n5, aq_ cy 6 cro 12 (gf_ rr), ai_ cy (rr 0) 12 (Mr 0), ai_ cy (rr 1) 12 (Mr 1), ai_ cy (rr 2) 12 (Mr 2), ai_ cy (rr 3) 12 (Mr 3), ai_ cy (rr 4) 12 (Mr 4), ai_ cy (rr 5) 12 (Mr 5), ai_ cy (rr 6) 12 (Mr 6), ai_ cy (rr 7) 12 (Mr 7), ai_ cy (rr 8) 12 (Mr 8), ai_ cy (rr 9) 12 (Mr 9), ai_ cy (rr 10) 12 (Mr 10), ai_ cy (rr 11) 12 (Mr 11), ai_ cy c7 12 f7])) (va_Qi (fun (r : Int32) (_ : Unit) => (rchd (zM Mr) vp.toNatClampNeg 1 a1.toNatClampNeg (bt r))) (fun (_ : Unit) (t : State) => ∃ (e7 : Nat → Int32), (rng e7 12 (0) (11)) ∧ va_P D vwCl [ob0_0_ xc xn xk clo cro c4 c5 c6 c7 c8, ob3_0_ xn vp vn n1 n2 n3 n4 n5, aq_ cy 6 cro 12 (gf_ rr), ai_ cy (rr 0) 12 (Mr 0), ai_ cy (rr 1) 12 (Mr 1), ai_ cy (rr 2) 12 (Mr 2), ai_ cy (rr 3) 12 (Mr 3), ai_ cy (rr 4) 12 (Mr 4), ai_ cy (rr 5) 12 (Mr 5), ai_ cy (rr 6) 12 (Mr 6), ai_ cy (rr 7) 12 (Mr 7), ai_ cy (rr 8) 12 (Mr 8), ai_ cy (rr 9) 12 (Mr 9), ai_ cy (rr 10) 12 (Mr 10), ai_ cy (rr 11) 12 (Mr 11), ai_ cy c7 12 e7] t.heap ∧ va_D (va_A [ob0_0_ xc xn xk clo cro c4 c5 c6 c7 c8, ob3_0_ xn vp vn n1 n2 n3 n4 n5, aq_ cy 6 cro 12 (gf_ rr), ai_ cy (rr 0) 12 (Mr 0), ai_ cy (rr 1) 12 (Mr 1), ai_ cy (rr 2) 12 (Mr 2), ai_ cy (rr 3) 12 (Mr 3), ai_ cy (rr 4) 12 (Mr 4), ai_ cy (rr 5) 12 (Mr 5), ai_ cy (rr 6) 12 (Mr 6), ai_ cy (rr 7) 12 (Mr 7), ai_ cy (rr 8) 12 (Mr 8), ai_ cy (rr 9) 12 (Mr 9), ai_ cy (rr 10) 12 (Mr 10), ai_ cy (rr 11) 12 (Mr 11), ai_ cy c7 12 f7] sz) [ob0_0_ xc xn xk clo cro c4 c5 c6 c7 c8, ob3_0_ xn vp vn n1 n2 n3 n4 n5, aq_ cy 6 cro 12 (gf_ rr), ai_ cy (rr 0) 12 (Mr 0), ai_ cy (rr 1) 12 (Mr 1), ai_ cy (rr 2) 12 (Mr 2), ai_ cy (rr 3) 12 (Mr 3), ai_ cy (rr 4) 12 (Mr 4), ai_ cy (rr 5) 12 (Mr 5), ai_ cy (rr 6) 12 (Mr 6), ai_ cy (rr 7) 12 (Mr 7), ai_ cy (rr 8) 12 (Mr 8), ai_ cy (rr 9) 12 (Mr 9), ai_ cy (rr 10) 12 (Mr 10), ai_ cy (rr 11) 12 (Mr 11), ai_ cy c7 12 e7]) (va_A [ob0_0_ xc xn xk clo cro c4 c5 c6 c7 c8, ob3_0_ xn vp vn n1 n2 n3 n4 n5, aq_ cy 6 cro 12 (gf_ rr), ai_ cy (rr 0) 12 (Mr 0), ai_ cy (rr 1) 12 (Mr 1), ai_ cy (rr 2) 12 (Mr 2), ai_ cy (rr 3) 12 (Mr 3), ai_ cy (rr 4) 12 (Mr 4), ai_ cy (rr 5) 12 (Mr 5), ai_ cy (rr 6) 12 (Mr 6), ai_ cy (rr 7) 12 (Mr 7), ai_ cy (rr 8) 12 (Mr 8), ai_ cy (rr 9) 12 (Mr 9), ai_ cy (rr 10) 12 (Mr 10), ai_ cy (rr 11) 12 (Mr 11), ai_ cy c7 12 f7] sz)) 0 0 (va_A [ob0_0_ xc xn xk clo cro c4 c5 c6 c7 c8, ob3_0_ xn vp vn n1 n2 n3 n4 n5, aq_ cy 6 cro 12 (gf_ rr), ai_ cy (rr 0) 12 (Mr 0), ai_ cy (rr 1) 12 (Mr 1), ai_ cy (rr 2) 12 (Mr 2), ai_ cy (rr 3) 12 (Mr 3), ai_ cy (rr 4) 12 (Mr 4), ai_ cy (rr 5) 12 (Mr 5), ai_ cy (rr 6) 12 (Mr 6), ai_ cy (rr 7) 12 (Mr 7), ai_ cy (rr 8) 12 (Mr 8), ai_ cy (rr 9) 12 (Mr 9), ai_ cy (rr 10) 12 (Mr 10), ai_ cy (rr 11) 12 (Mr 11), ai_ cy c7 12 f7] sz) := by
  refine ofQ (cc := cX0_nearCut) (maxL := 2) (ret := (some .int)) (by decide) rfl ?_
  intro p e s m args below meth c s₁ Q hQ B hml hv
  obtain ⟨rfl, hsz, hP, hK, hD0⟩ := hv
  have hG := hK.2
  have hK := hK.1
  have hx := B.exec
  have hb := B.bytes
  have hr := B.returns
  have hts := atoms_spec (ws := wsX0_nearCut) B.pre
  have hown : s.vm.findClass RX0 = some m.cls := by have h_ := findClass_of_methodNamed B.named; exact h_
  have hlocks := B.notSynchronized
  subst hsz
  have hD := hD0.self (sz := s.heap.size)
  generalize hAe : va_A [ob0_0_ xc xn xk clo cro c4 c5 c6 c7 c8, ob3_0_ xn vp vn n1 n2 n3 n4 n5, aq_ cy 6 cro 12 (gf_ rr), ai_ cy (rr 0) 12 (Mr 0), ai_ cy (rr 1) 12 (Mr 1), ai_ cy (rr 2) 12 (Mr 2), ai_ cy (rr 3) 12 (Mr 3), ai_ cy (rr 4) 12 (Mr 4), ai_ cy (rr 5) 12 (Mr 5), ai_ cy (rr 6) 12 (Mr 6), ai_ cy (rr 7) 12 (Mr 7), ai_ cy (rr 8) 12 (Mr 8), ai_ cy (rr 9) 12 (Mr 9), ai_ cy (rr 10) 12 (Mr 10), ai_ cy (rr 11) 12 (Mr 11), ai_ cy c7 12 f7] s.heap.size = A at hD hQ
  have hA : ∀ q : Nat, s.heap.size ≤ q → A q := fun q h => by rw [← hAe]; exact Or.inr h
  have hS : va_S A s.heap s.heap [] := va_S.rf
  have hl := lv_entry ([.ref xc, .int a1]) (n := 2) (Nat.le_of_ble_eq_true rfl)
  rw [lg_entry_eq]
  generalize (lg_sl ([.ref xc, .int a1]) ++ List.replicate (2 - (lg_sl ([.ref xc, .int a1])).length) Slot.unset).toArray = ls at hl ⊢
  have hl : lv_has ls 2 [(0, .ref xc), (1, .int a1)] := hl
  have z1 : (1 : Int32).toInt = 1 := by decide
  refine lv_aload_n hx hb dB_36_0_26.1.1 rfl (lv_at hl 0 rfl) ?_
  refine lv_iload_n hx hb dB_36_0_26.1.2 rfl (lv_at hl 1 rfl) ?_
  refine lv_iconst (v := 1) hx hb dB_36_0_26.2.1 (by decide) ?_
  refine ct_S hP hD hS hA [ob0_0_ xc xn xk clo cro c4 c5 c6 c7 c8, ob3_0_ xn vp vn n1 n2 n3 n4 n5, aq_ cy 6 cro 12 (gf_ rr), ai_ cy (rr 0) 12 (Mr 0), ai_ cy (rr 1) 12 (Mr 1), ai_ cy (rr 2) 12 (Mr 2), ai_ cy (rr 3) 12 (Mr 3), ai_ cy (rr 4) 12 (Mr 4), ai_ cy (rr 5) 12 (Mr 5), ai_ cy (rr 6) 12 (Mr 6), ai_ cy (rr 7) 12 (Mr 7), ai_ cy (rr 8) 12 (Mr 8), ai_ cy (rr 9) 12 (Mr 9), ai_ cy (rr 10) 12 (Mr 10), ai_ cy (rr 11) 12 (Mr 11), ai_ cy c7 12 f7] [0, 1, 2, 3, 4, 5, 6, 7, 8, 9, 10, 11, 12, 13, 14, 15] (by decide +kernel) rfl (fun hPc hDw hFc hC_ => ?_)
  refine va_calli (va_runV (As := [.int a1, .int 1]) (rest := []) ⟨hx, hb, hml, hown, hts⟩ (c_X0_reachedFrom2 l D cy s.heap.size xc xk clo cro c4 c5 c6 c7 c8 xn n1 n2 n3 n4 n5 vp vn rr Mr f7 a1 (1 : Int32) (by first | with_reducible assumption | omega | assumption) (by first | with_reducible assumption | omega | assumption) (by first | with_reducible assumption | assumption | omega)) (cwV 2 hts gX0_nearCut_X0_reachedFrom rfl rfl rfl ⟨rfl, hd_X0_reachedFrom⟩ ⟨Nat.le_of_ble_eq_true rfl, Nat.le_of_ble_eq_true rfl⟩) ⟨bl_g, va_recvX hK.1 hP (ci := 0) (q0 := 0) rfl rfl, fun U hU hW => ⟨rfl, by rw [hU], by rw [hU]; exact hPc, ⟨kk_mv hW hK, arrOfT_moved hW.alike hG⟩, hDw⟩⟩ rfl rfl hl.1 rfl (lv_room (Nat.le_of_ble_eq_true rfl)) dB_36_0_26.2.2.1 ⟨Nat.le_of_ble_eq_true rfl, Nat.le_of_ble_eq_true rfl⟩) hS (fun q _ h => hFc q h) hFc (fun r_1 u t H locs ht hvm hw hB hz1 hk1 hS => ?_)
  obtain ⟨e7_2, g_3, hP1, hD1⟩ := hB
  rw [ht] at hP1
  obtain ⟨hP, hD⟩ := va_join (wr := []) (w1 := [ob0_0_ xc xn xk clo cro c4 c5 c6 c7 c8, ob3_0_ xn vp vn n1 n2 n3 n4 n5, aq_ cy 6 cro 12 (gf_ rr), ai_ cy (rr 0) 12 (Mr 0), ai_ cy (rr 1) 12 (Mr 1), ai_ cy (rr 2) 12 (Mr 2), ai_ cy (rr 3) 12 (Mr 3), ai_ cy (rr 4) 12 (Mr 4), ai_ cy (rr 5) 12 (Mr 5), ai_ cy (rr 6) 12 (Mr 6), ai_ cy (rr 7) 12 (Mr 7), ai_ cy (rr 8) 12 (Mr 8), ai_ cy (rr 9) 12 (Mr 9), ai_ cy (rr 10) 12 (Mr 10), ai_ cy (rr 11) 12 (Mr 11), ai_ cy c7 12 e7_2]) hP hD [0, 1, 2, 3, 4, 5, 6, 7, 8, 9, 10, 11, 12, 13, 14, 15] [] hC_ rfl (by decide) (by decide) hk1 hFc hP1 hD1
  refine pd_K [ob0_0_ xc xn xk clo cro c4 c5 c6 c7 c8, ob3_0_ xn vp vn n1 n2 n3 n4 n5, aq_ cy 6 cro 12 (gf_ rr), ai_ cy (rr 0) 12 (Mr 0), ai_ cy (rr 1) 12 (Mr 1), ai_ cy (rr 2) 12 (Mr 2), ai_ cy (rr 3) 12 (Mr 3), ai_ cy (rr 4) 12 (Mr 4), ai_ cy (rr 5) 12 (Mr 5), ai_ cy (rr 6) 12 (Mr 6), ai_ cy (rr 7) 12 (Mr 7), ai_ cy (rr 8) 12 (Mr 8), ai_ cy (rr 9) 12 (Mr 9), ai_ cy (rr 10) 12 (Mr 10), ai_ cy (rr 11) 12 (Mr 11), ai_ cy c7 12 e7_2] hP hD (fun hP hD => ?_)
  have f0_r_1 := hw
  have hrc_ : rchd (zM Mr) vp.toNatClampNeg 1 a1.toNatClampNeg (bt r_1) := f0_r_1
  rw [hQ]
  exact W.iret (v := r_1) hx hb hr (fun t ht hW => ⟨⟨r_1, (), rfl, (hrc_), e7_2, (by first | with_reducible assumption | assumption | exact rng_zero (by omega) (by omega) | omega), by rw [ht]; exact hP, hD⟩, hS.F ht⟩) hS.2.2 dB_36_0_26.2.2.2

set_option maxHeartbeats 4000000 in
set_option maxRecDepth 100000 in
theorem c_X0_farCut2 (l : Launch) (D : va_G) (cy : Nat → ClassId) (sz : Nat) (xc : Nat) (xk : Nat) (clo : Nat) (cro : Nat) (c4 : Nat) (c5 : Nat) (c6 : Nat) (c7 : Nat) (c8 : Nat) (xn : Nat) (n1 : Nat) (n2 : Nat) (n3 : Nat) (n4 : Nat) (n5 : Nat) (vp : Int32) (vn : Int32) (rr : Nat → Nat) (Mr : Nat → Nat → Int32) (f7 : Nat → Int32) (a1 : Int32) (hvp : 0 ≤ vp.toInt ∧ vp.toInt ≤ 12) (q1 : 0 ≤ a1.toInt ∧ a1.toInt < vp.toInt) (r_f7 : rng f7 12 (0) (11)) : Met l yX0_farCut wsX0_farCut ({ frames := 1, cells := 0, slots := 0, locals := 25 }) (va_Pc [.ref xc, .int a1] (fun U => U.heap.size = sz ∧ va_P D vwCl [ob0_0_ xc xn xk clo cro c4 c5 c6 c7 c8, ob3_0_ xn vp vn n1 n2 n3 n4 n5, aq_ cy 6 cro 12 (gf_ rr), ai_ cy (rr 0) 12 (Mr 0), ai_ cy (rr 1) 12 (Mr 1), ai_ cy (rr 2) 12 (Mr 2), ai_ cy (rr 3) 12 (Mr 3), ai_ cy (rr 4) 12 (Mr 4), ai_ cy (rr 5) 12 (Mr 5), ai_ cy (rr 6) 12 (Mr 6), ai_ cy (rr 7) 12 (Mr 7), ai_ cy (rr 8) 12 (Mr 8), ai_ cy (rr 9) 12 (Mr 9), ai_ cy (rr 10) 12 (Mr 10), ai_ cy (rr 11) 12 (Mr 11), ai_ cy c7 12 f7] U.heap ∧ kg_ D cy U ∧ va_D (fun _ => True) [ob0_0_ xc xn xk clo cro c4 c5 c6 c7 c8, ob3_0_ xn vp vn n1 n2 n3 n4 n5, aq_ cy 6 cro 12 (gf_ rr), ai_ cy (rr 0) 12 (Mr 0), ai_ cy (rr 1) 12 (Mr 1), ai_ cy (rr 2) 12 (Mr 2), ai_ cy (rr 3) 12 (Mr 3), ai_ cy (rr 4) 12 (Mr 4), ai_ cy (rr 5) 12 (Mr 5), ai_ cy (rr 6) 12 (Mr 6), ai_ cy (rr 7) 12 (Mr 7), ai_ cy (rr 8) 12 (Mr 8), ai_ cy (rr 9) 12 (Mr 9), ai_ cy (rr 10) 12 (Mr 10), ai_ cy (rr 11) 12 (Mr 11), ai_ cy c7 12 f7])) (va_Qi (fun (r : Int32) (_ : Unit) => (∃ q : Int32, rchd (zT Mr) vp.toNatClampNeg 1 a1.toNatClampNeg (bt q) ∧ farS vp.toNatClampNeg q r)) (fun (_ : Unit) (t : State) => ∃ (e7 : Nat → Int32), (rng e7 12 (0) (11)) ∧ va_P D vwCl [ob0_0_ xc xn xk clo cro c4 c5 c6 c7 c8, ob3_0_ xn vp vn n1 n2 n3 n4 n5, aq_ cy 6 cro 12 (gf_ rr), ai_ cy (rr 0) 12 (Mr 0), ai_ cy (rr 1) 12 (Mr 1), ai_ cy (rr 2) 12 (Mr 2), ai_ cy (rr 3) 12 (Mr 3), ai_ cy (rr 4) 12 (Mr 4), ai_ cy (rr 5) 12 (Mr 5), ai_ cy (rr 6) 12 (Mr 6), ai_ cy (rr 7) 12 (Mr 7), ai_ cy (rr 8) 12 (Mr 8), ai_ cy (rr 9) 12 (Mr 9), ai_ cy (rr 10) 12 (Mr 10), ai_ cy (rr 11) 12 (Mr 11), ai_ cy c7 12 e7] t.heap ∧ va_D (va_A [ob0_0_ xc xn xk clo cro c4 c5 c6 c7 c8, ob3_0_ xn vp vn n1 n2 n3 n4 n5, aq_ cy 6 cro 12 (gf_ rr), ai_ cy (rr 0) 12 (Mr 0), ai_ cy (rr 1) 12 (Mr 1), ai_ cy (rr 2) 12 (Mr 2), ai_ cy (rr 3) 12 (Mr 3), ai_ cy (rr 4) 12 (Mr 4), ai_ cy (rr 5) 12 (Mr 5), ai_ cy (rr 6) 12 (Mr 6), ai_ cy (rr 7) 12 (Mr 7), ai_ cy (rr 8) 12 (Mr 8), ai_ cy (rr 9) 12 (Mr 9), ai_ cy (rr 10) 12 (Mr 10), ai_ cy (rr 11) 12 (Mr 11), ai_ cy c7 12 f7] sz) [ob0_0_ xc xn xk clo cro c4 c5 c6 c7 c8, ob3_0_ xn vp vn n1 n2 n3 n4 n5, aq_ cy 6 cro 12 (gf_ rr), ai_ cy (rr 0) 12 (Mr 0), ai_ cy (rr 1) 12 (Mr 1), ai_ cy (rr 2) 12 (Mr 2), ai_ cy (rr 3) 12 (Mr 3), ai_ cy (rr 4) 12 (Mr 4), ai_ cy (rr 5) 12 (Mr 5), ai_ cy (rr 6) 12 (Mr 6), ai_ cy (rr 7) 12 (Mr 7), ai_ cy (rr 8) 12 (Mr 8), ai_ cy (rr 9) 12 (Mr 9), ai_ cy (rr 10) 12 (Mr 10), ai_ cy (rr 11) 12 (Mr 11), ai_ cy c7 12 e7]) (va_A [ob0_0_ xc xn xk clo cro c4 c5 c6 c7 c8, ob3_0_ xn vp vn n1 n2 n3 n4 n5, aq_ cy 6 cro 12 (gf_ rr), ai_ cy (rr 0) 12 (Mr 0), ai_ cy (rr 1) 12 (Mr 1), ai_ cy (rr 2) 12 (Mr 2), ai_ cy (rr 3) 12 (Mr 3), ai_ cy (rr 4) 12 (Mr 4), ai_ cy (rr 5) 12 (Mr 5), ai_ cy (rr 6) 12 (Mr 6), ai_ cy (rr 7) 12 (Mr 7), ai_ cy (rr 8) 12 (Mr 8), ai_ cy (rr 9) 12 (Mr 9), ai_ cy (rr 10) 12 (Mr 10), ai_ cy (rr 11) 12 (Mr 11), ai_ cy c7 12 f7] sz)) 0 0 (va_A [ob0_0_ xc xn xk clo cro c4 c5 c6 c7 c8, ob3_0_ xn vp vn n1 n2 n3 n4 n5, aq_ cy 6 cro 12 (gf_ rr), ai_ cy (rr 0) 12 (Mr 0), ai_ cy (rr 1) 12 (Mr 1), ai_ cy (rr 2) 12 (Mr 2), ai_ cy (rr 3) 12 (Mr 3), ai_ cy (rr 4) 12 (Mr 4), ai_ cy (rr 5) 12 (Mr 5), ai_ cy (rr 6) 12 (Mr 6), ai_ cy (rr 7) 12 (Mr 7), ai_ cy (rr 8) 12 (Mr 8), ai_ cy (rr 9) 12 (Mr 9), ai_ cy (rr 10) 12 (Mr 10), ai_ cy (rr 11) 12 (Mr 11), ai_ cy c7 12 f7] sz) := by
  refine ofQ (cc := cX0_farCut) (maxL := 2) (ret := (some .int)) (by decide) rfl ?_
  intro p e s m args below meth c s₁ Q hQ B hml hv
  obtain ⟨rfl, hsz, hP, hK, hD0⟩ := hv
  have hG := hK.2
  have hK := hK.1
  have hx := B.exec
  have hb := B.bytes
  have hr := B.returns
  have hts := atoms_spec (ws := wsX0_farCut) B.pre
  have hown : s.vm.findClass RX0 = some m.cls := by have h_ := findClass_of_methodNamed B.named; exact h_
  have hlocks := B.notSynchronized
  subst hsz
  have hD := hD0.self (sz := s.heap.size)
  generalize hAe : va_A [ob0_0_ xc xn xk clo cro c4 c5 c6 c7 c8, ob3_0_ xn vp vn n1 n2 n3 n4 n5, aq_ cy 6 cro 12 (gf_ rr), ai_ cy (rr 0) 12 (Mr 0), ai_ cy (rr 1) 12 (Mr 1), ai_ cy (rr 2) 12 (Mr 2), ai_ cy (rr 3) 12 (Mr 3), ai_ cy (rr 4) 12 (Mr 4), ai_ cy (rr 5) 12 (Mr 5), ai_ cy (rr 6) 12 (Mr 6), ai_ cy (rr 7) 12 (Mr 7), ai_ cy (rr 8) 12 (Mr 8), ai_ cy (rr 9) 12 (Mr 9), ai_ cy (rr 10) 12 (Mr 10), ai_ cy (rr 11) 12 (Mr 11), ai_ cy c7 12 f7] s.heap.size = A at hD hQ
  have hA : ∀ q : Nat, s.heap.size ≤ q → A q := fun q h => by rw [← hAe]; exact Or.inr h
  have hS : va_S A s.heap s.heap [] := va_S.rf
  have hl := lv_entry ([.ref xc, .int a1]) (n := 2) (Nat.le_of_ble_eq_true rfl)
  rw [lg_entry_eq]
  generalize (lg_sl ([.ref xc, .int a1]) ++ List.replicate (2 - (lg_sl ([.ref xc, .int a1])).length) Slot.unset).toArray = ls at hl ⊢
  have hl : lv_has ls 2 [(0, .ref xc), (1, .int a1)] := hl
  have z1 : (1 : Int32).toInt = 1 := by decide
  refine lv_iconst (v := 1) hx hb dB_36_0_3.1.1.1 (by decide) ?_
  refine lv_aload_n hx hb dB_36_0_3.1.1.2.1 rfl (lv_at hl 0 rfl) ?_
  refine va_get (ci := 0) (v := .ref xn) (C := RX0) (T := TX0) (N := 9) hx hb hts (fun _ h => List.mem_cons_of_mem _ (List.mem_append_left _ (List.mem_append_right _ h))) hown hK.1 hP 0 rfl rfl 0 (by decide) (hts (.fieldLink RX0 35 "CutAtlas$Current" "net" "LCutAtlas$Net;") (List.mem_of_getElem? (i := 1) rfl)) (fun _ h9 => h9) rfl dB_36_0_3.1.1.2.2 ?_
  refine va_get (ci := 3) (v := .int vp) (C := RX3) (T := TX3) (N := 7) hx hb hts (fun _ h => List.mem_cons_of_mem _ (List.mem_append_right _ h)) hown hK.1 hP 1 rfl rfl 0 (by decide) (hts (.fieldLink RX0 43 "CutAtlas$Net" "places" "I") (List.mem_of_getElem? (i := 2) rfl)) (fun _ h9 => h9) rfl dB_36_0_3.1.2.1.1 ?_
  refine lv_ishl hx hb dB_36_0_3.1.2.1.2 ?_
  refine lv_topi (fun y_1 ey_1 => ?_)
  refine lv_iconst (v := 1) hx hb dB_36_0_3.1.2.2.1 (by decide) ?_
  refine lv_isub hx hb dB_36_0_3.1.2.2.2 ?_
  refine lv_topi (fun y_2 ey_2 => ?_)
  refine lv_aload_n hx hb dB_36_0_3.2.1.1 rfl (lv_at hl 0 rfl) ?_
  refine lv_iload_n hx hb dB_36_0_3.2.1.2.1 rfl (lv_at hl 1 rfl) ?_
  refine ct_S hP hD hS hA [ob0_0_ xc xn xk clo cro c4 c5 c6 c7 c8, ob3_0_ xn vp vn n1 n2 n3 n4 n5, aq_ cy 6 cro 12 (gf_ rr), ai_ cy (rr 0) 12 (Mr 0), ai_ cy (rr 1) 12 (Mr 1), ai_ cy (rr 2) 12 (Mr 2), ai_ cy (rr 3) 12 (Mr 3), ai_ cy (rr 4) 12 (Mr 4), ai_ cy (rr 5) 12 (Mr 5), ai_ cy (rr 6) 12 (Mr 6), ai_ cy (rr 7) 12 (Mr 7), ai_ cy (rr 8) 12 (Mr 8), ai_ cy (rr 9) 12 (Mr 9), ai_ cy (rr 10) 12 (Mr 10), ai_ cy (rr 11) 12 (Mr 11), ai_ cy c7 12 f7] [0, 1, 2, 3, 4, 5, 6, 7, 8, 9, 10, 11, 12, 13, 14, 15] (by decide +kernel) rfl (fun hPc hDw hFc hC_ => ?_)
  refine va_calli (va_runV (As := [.int a1]) (rest := [.int y_2]) ⟨hx, hb, hml, hown, hts⟩ (c_X0_reaching2 l D cy s.heap.size xc xk clo cro c4 c5 c6 c7 c8 xn n1 n2 n3 n4 n5 vp vn rr Mr f7 a1 (by first | with_reducible assumption | omega | assumption) (by first | with_reducible assumption | omega | assumption) (by first | with_reducible assumption | assumption | omega)) (cwV 1 hts gX0_farCut_X0_reaching rfl rfl rfl ⟨rfl, hd_X0_reaching⟩ ⟨Nat.le_of_ble_eq_true rfl, Nat.le_of_ble_eq_true rfl⟩) ⟨bl_g, va_recvX hK.1 hP (ci := 0) (q0 := 0) rfl rfl, fun U hU hW => ⟨rfl, by rw [hU], by rw [hU]; exact hPc, ⟨kk_mv hW hK, arrOfT_moved hW.alike hG⟩, hDw⟩⟩ rfl rfl hl.1 rfl (lv_room (Nat.le_of_ble_eq_true rfl)) dB_36_0_3.2.1.2.2 ⟨Nat.le_of_ble_eq_true rfl, Nat.le_of_ble_eq_true rfl⟩) hS (fun q _ h => hFc q h) hFc (fun r_3 u t H locs ht hvm hw hB hz1 hk1 hS => ?_)
  obtain ⟨e7_4, g_5, hP1, hD1⟩ := hB
  rw [ht] at hP1
  obtain ⟨hP, hD⟩ := va_join (wr := []) (w1 := [ob0_0_ xc xn xk clo cro c4 c5 c6 c7 c8, ob3_0_ xn vp vn n1 n2 n3 n4 n5, aq_ cy 6 cro 12 (gf_ rr), ai_ cy (rr 0) 12 (Mr 0), ai_ cy (rr 1) 12 (Mr 1), ai_ cy (rr 2) 12 (Mr 2), ai_ cy (rr 3) 12 (Mr 3), ai_ cy (rr 4) 12 (Mr 4), ai_ cy (rr 5) 12 (Mr 5), ai_ cy (rr 6) 12 (Mr 6), ai_ cy (rr 7) 12 (Mr 7), ai_ cy (rr 8) 12 (Mr 8), ai_ cy (rr 9) 12 (Mr 9), ai_ cy (rr 10) 12 (Mr 10), ai_ cy (rr 11) 12 (Mr 11), ai_ cy c7 12 e7_4]) hP hD [0, 1, 2, 3, 4, 5, 6, 7, 8, 9, 10, 11, 12, 13, 14, 15] [] hC_ rfl (by decide) (by decide) hk1 hFc hP1 hD1
  refine pd_K [ob0_0_ xc xn xk clo cro c4 c5 c6 c7 c8, ob3_0_ xn vp vn n1 n2 n3 n4 n5, aq_ cy 6 cro 12 (gf_ rr), ai_ cy (rr 0) 12 (Mr 0), ai_ cy (rr 1) 12 (Mr 1), ai_ cy (rr 2) 12 (Mr 2), ai_ cy (rr 3) 12 (Mr 3), ai_ cy (rr 4) 12 (Mr 4), ai_ cy (rr 5) 12 (Mr 5), ai_ cy (rr 6) 12 (Mr 6), ai_ cy (rr 7) 12 (Mr 7), ai_ cy (rr 8) 12 (Mr 8), ai_ cy (rr 9) 12 (Mr 9), ai_ cy (rr 10) 12 (Mr 10), ai_ cy (rr 11) 12 (Mr 11), ai_ cy c7 12 e7_4] hP hD (fun hP hD => ?_)
  have f0_r_3 := hw
  refine lv_iconst (v := (-1)) hx hb dB_36_0_3.2.2.1.1 (by decide) ?_
  refine lv_ixor hx hb dB_36_0_3.2.2.1.2 ?_
  refine lv_topi (fun y_6 ey_6 => ?_)
  refine lv_iand hx hb dB_36_0_3.2.2.2.1 ?_
  refine lv_topi (fun y_7 ey_7 => ?_)
  rw [hQ]
  exact W.iret (v := y_7) hx hb hr (fun t ht hW => ⟨⟨y_7, (), rfl, (⟨_, f0_r_3, far_mask hvp ey_1 ey_2 ey_6 ey_7⟩), e7_4, (by first | with_reducible assumption | assumption | exact rng_zero (by omega) (by omega) | omega), by rw [ht]; exact hP, hD⟩, hS.F ht⟩) hS.2.2 dB_36_0_3.2.2.2.2

set_option maxHeartbeats 4000000 in
set_option maxRecDepth 100000 in
theorem c_X11_cut2 (l : Launch) (D : va_G) (cy : Nat → ClassId) (sz : Nat) (xo : Nat) (xk : Nat) (xn : Nat) (xc : Nat) (xh : Nat) (xt : Nat) (xw : Nat) (xm : Nat) (xp : Nat) (pf : Int32) (ph : Int32) (tr : Int64) (fi : Int32) (n1 : Nat) (n2 : Nat) (n3 : Nat) (n4 : Nat) (n5 : Nat) (vp : Int32) (vn : Int32) (clo : Nat) (cro : Nat) (c4 : Nat) (c5 : Nat) (c6 : Nat) (c7 : Nat) (c8 : Nat) (fk : Nat → Int32) (fs : Nat → Int32) (fe : Nat → Int32) (fw : Nat → Int32) (fp : Nat → Int32) (rl : Nat → Nat) (Ml : Nat → Nat → Int32) (rr : Nat → Nat) (Mr : Nat → Nat → Int32) (f4 : Nat → Int32) (f5 : Nat → Int32) (f6 : Nat → Int32) (f7 : Nat → Int32) (f8 : Nat → Int32) (k0 : Nat) (k1 : Nat) (k2 : Nat) (k3 : Nat) (k4 : Nat) (a1 : Int32) (a2 : Int32) (a3 : Int32) (hvp : 0 ≤ vp.toInt ∧ vp.toInt ≤ 12) (hvn : 0 ≤ vn.toInt ∧ vn.toInt ≤ 40) (hnc : netC vp.toInt vn.toInt fs fe) (hpr : prng fs fe 40) (r_f7 : rng f7 12 (0) (11)) (r_f8 : rng f8 12 (0) (11)) (r_fk : rng fk 40 (0) (4)) (r_fw : rng fw 40 (0) (2000)) : Met l yX11_cut wsX11_cut ({ frames := 5, cells := 0, slots := 0, locals := 110 }) (va_Pc [.ref xo, .int a1, .int a2, .int a3] (fun U => U.heap.size = sz ∧ va_P D vwCl [ob11_0_ xo xk xn xc xh xt xw xm xp pf ph tr fi, ob3_0_ xn vp vn n1 n2 n3 n4 n5, ai_ cy n1 40 fk, ai_ cy n2 40 fs, ai_ cy n3 40 fe, ai_ cy n4 40 fw, ai_ cy n5 40 fp, ob0_0_ xc xn xk clo cro c4 c5 c6 c7 c8, aq_ cy 6 clo 12 (gf_ rl), ai_ cy (rl 0) 12 (Ml 0), ai_ cy (rl 1) 12 (Ml 1), ai_ cy (rl 2) 12 (Ml 2), ai_ cy (rl 3) 12 (Ml 3), ai_ cy (rl 4) 12 (Ml 4), ai_ cy (rl 5) 12 (Ml 5), ai_ cy (rl 6) 12 (Ml 6), ai_ cy (rl 7) 12 (Ml 7), ai_ cy (rl 8) 12 (Ml 8), ai_ cy (rl 9) 12 (Ml 9), ai_ cy (rl 10) 12 (Ml 10), ai_ cy (rl 11) 12 (Ml 11), aq_ cy 6 cro 12 (gf_ rr), ai_ cy (rr 0) 12 (Mr 0), ai_ cy (rr 1) 12 (Mr 1), ai_ cy (rr 2) 12 (Mr 2), ai_ cy (rr 3) 12 (Mr 3), ai_ cy (rr 4) 12 (Mr 4), ai_ cy (rr 5) 12 (Mr 5), ai_ cy (rr 6) 12 (Mr 6), ai_ cy (rr 7) 12 (Mr 7), ai_ cy (rr 8) 12 (Mr 8), ai_ cy (rr 9) 12 (Mr 9), ai_ cy (rr 10) 12 (Mr 10), ai_ cy (rr 11) 12 (Mr 11), ai_ cy c4 40 f4, ai_ cy c5 40 f5, ai_ cy c6 40 f6, ai_ cy c7 12 f7, ai_ cy c8 12 f8, aq_ cy 3 xk 5 (kf_ k0 k1 k2 k3 k4), ob6_0_ k0, ob5_0_ k1, ob9_0_ k2, ob2_0_ k3, ob8_0_ k4] U.heap ∧ kg_ D cy U ∧ va_D (fun _ => True) [ob11_0_ xo xk xn xc xh xt xw xm xp pf ph tr fi, ob3_0_ xn vp vn n1 n2 n3 n4 n5, ai_ cy n1 40 fk, ai_ cy n2 40 fs, ai_ cy n3 40 fe, ai_ cy n4 40 fw, ai_ cy n5 40 fp, ob0_0_ xc xn xk clo cro c4 c5 c6 c7 c8, aq_ cy 6 clo 12 (gf_ rl), ai_ cy (rl 0) 12 (Ml 0), ai_ cy (rl 1) 12 (Ml 1), ai_ cy (rl 2) 12 (Ml 2), ai_ cy (rl 3) 12 (Ml 3), ai_ cy (rl 4) 12 (Ml 4), ai_ cy (rl 5) 12 (Ml 5), ai_ cy (rl 6) 12 (Ml 6), ai_ cy (rl 7) 12 (Ml 7), ai_ cy (rl 8) 12 (Ml 8), ai_ cy (rl 9) 12 (Ml 9), ai_ cy (rl 10) 12 (Ml 10), ai_ cy (rl 11) 12 (Ml 11), aq_ cy 6 cro 12 (gf_ rr), ai_ cy (rr 0) 12 (Mr 0), ai_ cy (rr 1) 12 (Mr 1), ai_ cy (rr 2) 12 (Mr 2), ai_ cy (rr 3) 12 (Mr 3), ai_ cy (rr 4) 12 (Mr 4), ai_ cy (rr 5) 12 (Mr 5), ai_ cy (rr 6) 12 (Mr 6), ai_ cy (rr 7) 12 (Mr 7), ai_ cy (rr 8) 12 (Mr 8), ai_ cy (rr 9) 12 (Mr 9), ai_ cy (rr 10) 12 (Mr 10), ai_ cy (rr 11) 12 (Mr 11), ai_ cy c4 40 f4, ai_ cy c5 40 f5, ai_ cy c6 40 f6, ai_ cy c7 12 f7, ai_ cy c8 12 f8, aq_ cy 3 xk 5 (kf_ k0 k1 k2 k3 k4), ob6_0_ k0, ob5_0_ k1, ob9_0_ k2, ob2_0_ k3, ob8_0_ k4])) (va_Qi (fun (r : Int32) (_ : Unit) => ((ctI a1.toInt a2.toInt a3.toInt vp.toInt = 0 → ctA (cutF fk fs fe fw (-9) vn.toNatClampNeg) a1.toNatClampNeg a2.toNatClampNeg vp.toNatClampNeg a3.toInt r) ∧ (ctI a1.toInt a2.toInt a3.toInt vp.toInt ≠ 0 → r.toInt = -1))) (fun (_ : Unit) (t : State) => ∃ (eMl : Nat → Nat → Int32), ∃ (eMr : Nat → Nat → Int32), ∃ (e4 : Nat → Int32), ∃ (e5 : Nat → Int32), ∃ (e6 : Nat → Int32), ∃ (e7 : Nat → Int32), ∃ (e8 : Nat → Int32), (rng e7 12 (0) (11)) ∧ (rng e8 12 (0) (11)) ∧ va_P D vwCl [ob11_0_ xo xk xn xc xh xt xw xm xp pf ph tr fi, ob3_0_ xn vp vn n1 n2 n3 n4 n5, ai_ cy n1 40 fk, ai_ cy n2 40 fs, ai_ cy n3 40 fe, ai_ cy n4 40 fw, ai_ cy n5 40 fp, ob0_0_ xc xn xk clo cro c4 c5 c6 c7 c8, aq_ cy 6 clo 12 (gf_ rl), ai_ cy (rl 0) 12 (eMl 0), ai_ cy (rl 1) 12 (eMl 1), ai_ cy (rl 2) 12 (eMl 2), ai_ cy (rl 3) 12 (eMl 3), ai_ cy (rl 4) 12 (eMl 4), ai_ cy (rl 5) 12 (eMl 5), ai_ cy (rl 6) 12 (eMl 6), ai_ cy (rl 7) 12 (eMl 7), ai_ cy (rl 8) 12 (eMl 8), ai_ cy (rl 9) 12 (eMl 9), ai_ cy (rl 10) 12 (eMl 10), ai_ cy (rl 11) 12 (eMl 11), aq_ cy 6 cro 12 (gf_ rr), ai_ cy (rr 0) 12 (eMr 0), ai_ cy (rr 1) 12 (eMr 1), ai_ cy (rr 2) 12 (eMr 2), ai_ cy (rr 3) 12 (eMr 3), ai_ cy (rr 4) 12 (eMr 4), ai_ cy (rr 5) 12 (eMr 5), ai_ cy (rr 6) 12 (eMr 6), ai_ cy (rr 7) 12 (eMr 7), ai_ cy (rr 8) 12 (eMr 8), ai_ cy (rr 9) 12 (eMr 9), ai_ cy (rr 10) 12 (eMr 10), ai_ cy (rr 11) 12 (eMr 11), ai_ cy c4 40 e4, ai_ cy c5 40 e5, ai_ cy c6 40 e6, ai_ cy c7 12 e7, ai_ cy c8 12 e8, aq_ cy 3 xk 5 (kf_ k0 k1 k2 k3 k4), ob6_0_ k0, ob5_0_ k1, ob9_0_ k2, ob2_0_ k3, ob8_0_ k4] t.heap ∧ va_D (va_A [ob11_0_ xo xk xn xc xh xt xw xm xp pf ph tr fi, ob3_0_ xn vp vn n1 n2 n3 n4 n5, ai_ cy n1 40 fk, ai_ cy n2 40 fs, ai_ cy n3 40 fe, ai_ cy n4 40 fw, ai_ cy n5 40 fp, ob0_0_ xc xn xk clo cro c4 c5 c6 c7 c8, aq_ cy 6 clo 12 (gf_ rl), ai_ cy (rl 0) 12 (Ml 0), ai_ cy (rl 1) 12 (Ml 1), ai_ cy (rl 2) 12 (Ml 2), ai_ cy (rl 3) 12 (Ml 3), ai_ cy (rl 4) 12 (Ml 4), ai_ cy (rl 5) 12 (Ml 5), ai_ cy (rl 6) 12 (Ml 6), ai_ cy (rl 7) 12 (Ml 7), ai_ cy (rl 8) 12 (Ml 8), ai_ cy (rl 9) 12 (Ml 9), ai_ cy (rl 10) 12 (Ml 10), ai_ cy (rl 11) 12 (Ml 11), aq_ cy 6 cro 12 (gf_ rr), ai_ cy (rr 0) 12 (Mr 0), ai_ cy (rr 1) 12 (Mr 1), ai_ cy (rr 2) 12 (Mr 2), ai_ cy (rr 3) 12 (Mr 3), ai_ cy (rr 4) 12 (Mr 4), ai_ cy (rr 5) 12 (Mr 5), ai_ cy (rr 6) 12 (Mr 6), ai_ cy (rr 7) 12 (Mr 7), ai_ cy (rr 8) 12 (Mr 8), ai_ cy (rr 9) 12 (Mr 9), ai_ cy (rr 10) 12 (Mr 10), ai_ cy (rr 11) 12 (Mr 11), ai_ cy c4 40 f4, ai_ cy c5 40 f5, ai_ cy c6 40 f6, ai_ cy c7 12 f7, ai_ cy c8 12 f8, aq_ cy 3 xk 5 (kf_ k0 k1 k2 k3 k4), ob6_0_ k0, ob5_0_ k1, ob9_0_ k2, ob2_0_ k3, ob8_0_ k4] sz) [ob11_0_ xo xk xn xc xh xt xw xm xp pf ph tr fi, ob3_0_ xn vp vn n1 n2 n3 n4 n5, ai_ cy n1 40 fk, ai_ cy n2 40 fs, ai_ cy n3 40 fe, ai_ cy n4 40 fw, ai_ cy n5 40 fp, ob0_0_ xc xn xk clo cro c4 c5 c6 c7 c8, aq_ cy 6 clo 12 (gf_ rl), ai_ cy (rl 0) 12 (eMl 0), ai_ cy (rl 1) 12 (eMl 1), ai_ cy (rl 2) 12 (eMl 2), ai_ cy (rl 3) 12 (eMl 3), ai_ cy (rl 4) 12 (eMl 4), ai_ cy (rl 5) 12 (eMl 5), ai_ cy (rl 6) 12 (eMl 6), ai_ cy (rl 7) 12 (eMl 7), ai_ cy (rl 8) 12 (eMl 8), ai_ cy (rl 9) 12 (eMl 9), ai_ cy (rl 10) 12 (eMl 10), ai_ cy (rl 11) 12 (eMl 11), aq_ cy 6 cro 12 (gf_ rr), ai_ cy (rr 0) 12 (eMr 0), ai_ cy (rr 1) 12 (eMr 1), ai_ cy (rr 2) 12 (eMr 2), ai_ cy (rr 3) 12 (eMr 3), ai_ cy (rr 4) 12 (eMr 4), ai_ cy (rr 5) 12 (eMr 5), ai_ cy (rr 6) 12 (eMr 6), ai_ cy (rr 7) 12 (eMr 7), ai_ cy (rr 8) 12 (eMr 8), ai_ cy (rr 9) 12 (eMr 9), ai_ cy (rr 10) 12 (eMr 10), ai_ cy (rr 11) 12 (eMr 11), ai_ cy c4 40 e4, ai_ cy c5 40 e5, ai_ cy c6 40 e6, ai_ cy c7 12 e7, ai_ cy c8 12 e8, aq_ cy 3 xk 5 (kf_ k0 k1 k2 k3 k4), ob6_0_ k0, ob5_0_ k1, ob9_0_ k2, ob2_0_ k3, ob8_0_ k4]) (va_A [ob11_0_ xo xk xn xc xh xt xw xm xp pf ph tr fi, ob3_0_ xn vp vn n1 n2 n3 n4 n5, ai_ cy n1 40 fk, ai_ cy n2 40 fs, ai_ cy n3 40 fe, ai_ cy n4 40 fw, ai_ cy n5 40 fp, ob0_0_ xc xn xk clo cro c4 c5 c6 c7 c8, aq_ cy 6 clo 12 (gf_ rl), ai_ cy (rl 0) 12 (Ml 0), ai_ cy (rl 1) 12 (Ml 1), ai_ cy (rl 2) 12 (Ml 2), ai_ cy (rl 3) 12 (Ml 3), ai_ cy (rl 4) 12 (Ml 4), ai_ cy (rl 5) 12 (Ml 5), ai_ cy (rl 6) 12 (Ml 6), ai_ cy (rl 7) 12 (Ml 7), ai_ cy (rl 8) 12 (Ml 8), ai_ cy (rl 9) 12 (Ml 9), ai_ cy (rl 10) 12 (Ml 10), ai_ cy (rl 11) 12 (Ml 11), aq_ cy 6 cro 12 (gf_ rr), ai_ cy (rr 0) 12 (Mr 0), ai_ cy (rr 1) 12 (Mr 1), ai_ cy (rr 2) 12 (Mr 2), ai_ cy (rr 3) 12 (Mr 3), ai_ cy (rr 4) 12 (Mr 4), ai_ cy (rr 5) 12 (Mr 5), ai_ cy (rr 6) 12 (Mr 6), ai_ cy (rr 7) 12 (Mr 7), ai_ cy (rr 8) 12 (Mr 8), ai_ cy (rr 9) 12 (Mr 9), ai_ cy (rr 10) 12 (Mr 10), ai_ cy (rr 11) 12 (Mr 11), ai_ cy c4 40 f4, ai_ cy c5 40 f5, ai_ cy c6 40 f6, ai_ cy c7 12 f7, ai_ cy c8 12 f8, aq_ cy 3 xk 5 (kf_ k0 k1 k2 k3 k4), ob6_0_ k0, ob5_0_ k1, ob9_0_ k2, ob2_0_ k3, ob8_0_ k4] sz)) 0 0 (va_A [ob11_0_ xo xk xn xc xh xt xw xm xp pf ph tr fi, ob3_0_ xn vp vn n1 n2 n3 n4 n5, ai_ cy n1 40 fk, ai_ cy n2 40 fs, ai_ cy n3 40 fe, ai_ cy n4 40 fw, ai_ cy n5 40 fp, ob0_0_ xc xn xk clo cro c4 c5 c6 c7 c8, aq_ cy 6 clo 12 (gf_ rl), ai_ cy (rl 0) 12 (Ml 0), ai_ cy (rl 1) 12 (Ml 1), ai_ cy (rl 2) 12 (Ml 2), ai_ cy (rl 3) 12 (Ml 3), ai_ cy (rl 4) 12 (Ml 4), ai_ cy (rl 5) 12 (Ml 5), ai_ cy (rl 6) 12 (Ml 6), ai_ cy (rl 7) 12 (Ml 7), ai_ cy (rl 8) 12 (Ml 8), ai_ cy (rl 9) 12 (Ml 9), ai_ cy (rl 10) 12 (Ml 10), ai_ cy (rl 11) 12 (Ml 11), aq_ cy 6 cro 12 (gf_ rr), ai_ cy (rr 0) 12 (Mr 0), ai_ cy (rr 1) 12 (Mr 1), ai_ cy (rr 2) 12 (Mr 2), ai_ cy (rr 3) 12 (Mr 3), ai_ cy (rr 4) 12 (Mr 4), ai_ cy (rr 5) 12 (Mr 5), ai_ cy (rr 6) 12 (Mr 6), ai_ cy (rr 7) 12 (Mr 7), ai_ cy (rr 8) 12 (Mr 8), ai_ cy (rr 9) 12 (Mr 9), ai_ cy (rr 10) 12 (Mr 10), ai_ cy (rr 11) 12 (Mr 11), ai_ cy c4 40 f4, ai_ cy c5 40 f5, ai_ cy c6 40 f6, ai_ cy c7 12 f7, ai_ cy c8 12 f8, aq_ cy 3 xk 5 (kf_ k0 k1 k2 k3 k4), ob6_0_ k0, ob5_0_ k1, ob9_0_ k2, ob2_0_ k3, ob8_0_ k4] sz) := by
  refine ofQ (cc := cX11_cut) (maxL := 4) (ret := (some .int)) (by decide) rfl ?_
  intro p e s m args below meth c s₁ Q hQ B hml hv
  obtain ⟨rfl, hsz, hP, hK, hD0⟩ := hv
  have hG := hK.2
  have hK := hK.1
  have hx := B.exec
  have hb := B.bytes
  have hr := B.returns
  have hts := atoms_spec (ws := wsX11_cut) B.pre
  have hown : s.vm.findClass RX11 = some m.cls := by have h_ := findClass_of_methodNamed B.named; exact h_
  have hlocks := B.notSynchronized
  subst hsz
  have hD := hD0.self (sz := s.heap.size)
  generalize hAe : va_A [ob11_0_ xo xk xn xc xh xt xw xm xp pf ph tr fi, ob3_0_ xn vp vn n1 n2 n3 n4 n5, ai_ cy n1 40 fk, ai_ cy n2 40 fs, ai_ cy n3 40 fe, ai_ cy n4 40 fw, ai_ cy n5 40 fp, ob0_0_ xc xn xk clo cro c4 c5 c6 c7 c8, aq_ cy 6 clo 12 (gf_ rl), ai_ cy (rl 0) 12 (Ml 0), ai_ cy (rl 1) 12 (Ml 1), ai_ cy (rl 2) 12 (Ml 2), ai_ cy (rl 3) 12 (Ml 3), ai_ cy (rl 4) 12 (Ml 4), ai_ cy (rl 5) 12 (Ml 5), ai_ cy (rl 6) 12 (Ml 6), ai_ cy (rl 7) 12 (Ml 7), ai_ cy (rl 8) 12 (Ml 8), ai_ cy (rl 9) 12 (Ml 9), ai_ cy (rl 10) 12 (Ml 10), ai_ cy (rl 11) 12 (Ml 11), aq_ cy 6 cro 12 (gf_ rr), ai_ cy (rr 0) 12 (Mr 0), ai_ cy (rr 1) 12 (Mr 1), ai_ cy (rr 2) 12 (Mr 2), ai_ cy (rr 3) 12 (Mr 3), ai_ cy (rr 4) 12 (Mr 4), ai_ cy (rr 5) 12 (Mr 5), ai_ cy (rr 6) 12 (Mr 6), ai_ cy (rr 7) 12 (Mr 7), ai_ cy (rr 8) 12 (Mr 8), ai_ cy (rr 9) 12 (Mr 9), ai_ cy (rr 10) 12 (Mr 10), ai_ cy (rr 11) 12 (Mr 11), ai_ cy c4 40 f4, ai_ cy c5 40 f5, ai_ cy c6 40 f6, ai_ cy c7 12 f7, ai_ cy c8 12 f8, aq_ cy 3 xk 5 (kf_ k0 k1 k2 k3 k4), ob6_0_ k0, ob5_0_ k1, ob9_0_ k2, ob2_0_ k3, ob8_0_ k4] s.heap.size = A at hD hQ
  have hA : ∀ q : Nat, s.heap.size ≤ q → A q := fun q h => by rw [← hAe]; exact Or.inr h
  have hS : va_S A s.heap s.heap [] := va_S.rf
  have hl := lv_entry ([.ref xo, .int a1, .int a2, .int a3]) (n := 4) (Nat.le_of_ble_eq_true rfl)
  rw [lg_entry_eq]
  generalize (lg_sl ([.ref xo, .int a1, .int a2, .int a3]) ++ List.replicate (4 - (lg_sl ([.ref xo, .int a1, .int a2, .int a3])).length) Slot.unset).toArray = ls at hl ⊢
  have hl : lv_has ls 4 [(0, .ref xo), (1, .int a1), (2, .int a2), (3, .int a3)] := hl
  have zm5 : ((-5) : Int32).toInt = -5 := by decide
  have zm1 : ((-1) : Int32).toInt = -1 := by decide
  have z0 : (0 : Int32).toInt = 0 := by decide
  have z1 : (1 : Int32).toInt = 1 := by decide
  refine lv_aload_n hx hb dB_36_2_33.1.1.1 rfl (lv_at hl 0 rfl) ?_
  refine va_get (ci := 11) (v := .ref xn) (C := RX11) (T := TX11) (N := 12) hx hb hts (fun _ h => List.mem_cons_of_mem _ (List.mem_append_left _ (List.mem_append_left _ (List.mem_append_right _ h)))) hown hK.1 hP 0 rfl rfl 1 (by decide) (hts (.fieldLink RX11 31 "CutAtlas" "net" "LCutAtlas$Net;") (List.mem_of_getElem? (i := 1) rfl)) (fun _ h9 => h9) rfl dB_36_2_33.1.1.2 ?_
  refine lv_iload_n hx hb dB_36_2_33.1.2.1 rfl (lv_at hl 1 rfl) ?_
  refine lv_i2l (v := a1.toInt64) hx hb dB_36_2_33.1.2.2 rfl ?_
  have q_5 : (a1.toInt64).toInt = a1.toInt := Int32.toInt_toInt64 a1
  refine lv_iload_n hx hb dB_36_2_33.2.1.1 rfl (lv_at hl 2 rfl) ?_
  refine lv_i2l (v := a2.toInt64) hx hb dB_36_2_33.2.1.2 rfl ?_
  have q_7 : (a2.toInt64).toInt = a2.toInt := Int32.toInt_toInt64 a2
  refine ct_R hP hD [ob3_0_ xn vp vn n1 n2 n3 n4 n5] [1] (by decide) rfl (fun hPc hDw => ?_)
  have hFc := va_free (wc := []) hD hS hA [] rfl
  refine va_calli (va_runV (As := [.long a1.toInt64, .long a2.toInt64]) (rest := []) ⟨hx, hb, hml, hown, hts⟩ (c_X3_hasPair l D cy s.heap.size xn n1 n2 n3 n4 n5 vp vn a1.toInt64 a2.toInt64) (cwV 2 hts gX11_cut_X3_hasPair rfl rfl rfl ⟨rfl, hd_X3_hasPair⟩ ⟨Nat.le_of_ble_eq_true rfl, Nat.le_of_ble_eq_true rfl⟩) ⟨bl_, va_recvX hK.1 hP (ci := 3) (q0 := 1) rfl rfl, fun U hU hW => ⟨rfl, by rw [hU], by rw [hU]; exact hPc, kk_mv hW hK, hDw⟩⟩ rfl rfl hl.1 rfl (lv_room (Nat.le_of_ble_eq_true rfl)) dB_36_2_33.2.2.1 ⟨Nat.le_of_ble_eq_true rfl, Nat.le_of_ble_eq_true rfl⟩) hS (fun q _ h => hFc q h) hFc (fun r_1 u t H locs ht hvm hw hB hz1 hk1 hS => ?_)
  have hP : va_P D vwCl _ H := ro_keep hP hk1
  rcases hw with ⟨w_2, e_⟩ | ⟨w_2, e_⟩
  · have e_ := e_.symm
    subst e_
    refine lv_if_eq (tgt := 23) hx hb dB_36_2_33.2.2.2 (by decide) (fun c_3 => ?_) (fun c_3 => ?_)
    · exact absurd c_3 (by decide)
    · have _ := c_3
      refine lv_iload_n hx hb dB_36_3_13.1.1.1.1 rfl (lv_at hl 3 rfl) ?_
      refine lv_if_lt (tgt := 23) hx hb dB_36_3_13.1.1.1.2 (by decide) (fun c_4 => ?_) (fun c_4 => ?_)
      · have t_4 : a3.toInt < (0 : Int32).toInt := Int32.lt_iff_toInt_lt.mp c_4
        refine lv_iconst (v := (-1)) hx hb dB_36_3_13.1.2.1.2 (by decide) ?_
        rw [hQ]
        exact W.iret (v := (-1)) hx hb hr (fun t ht hW => ⟨⟨(-1), (), rfl, (⟨fun h => absurd h (by unfold ctI; (repeat' (first | with_reducible refine if_n (by omega) ?_ | with_reducible refine if_ns (by omega) ?_ | with_reducible refine if_nz (by omega) ?_ | with_reducible exact if_p (by omega) (by omega) | with_reducible exact if_ps (by omega) (by omega) | with_reducible exact if_pz (by omega) (by omega))) <;> omega), fun _ => by decide⟩), Ml, Mr, f4, f5, f6, f7, f8, (by first | with_reducible assumption | assumption | exact rng_zero (by omega) (by omega) | omega), (by first | with_reducible assumption | assumption | exact rng_zero (by omega) (by omega) | omega), by rw [ht]; exact hP, hD⟩, hS.F ht⟩) hS.2.2 dB_36_3_13.1.2.2.1
      · have t_4 : ¬ a3.toInt < (0 : Int32).toInt := fun h => c_4 (Int32.lt_iff_toInt_lt.mpr h)
        refine lv_iload_n hx hb dB_36_3_13.1.1.2.1 rfl (lv_at hl 3 rfl) ?_
        refine lv_iconst (v := 1) hx hb dB_36_3_13.1.1.2.2 (by decide) ?_
        refine lv_icmp_le (tgt := 25) hx hb dB_36_3_13.1.2.1.1 (by decide) (fun c_5 => ?_) (fun c_5 => ?_)
        · have t_5 : a3.toInt ≤ (1 : Int32).toInt := Int32.le_iff_toInt_le.mp c_5
          refine lv_aload_n hx hb dB_36_3_13.1.2.2.2 rfl (lv_at hl 0 rfl) ?_
          refine lv_iload_n hx hb dB_36_3_13.2.1.1.1 rfl (lv_at hl 1 rfl) ?_
          refine lv_iload_n hx hb dB_36_3_13.2.1.1.2 rfl (lv_at hl 2 rfl) ?_
          refine ct_S hP hD hS hA [ob11_0_ xo xk xn xc xh xt xw xm xp pf ph tr fi, ob3_0_ xn vp vn n1 n2 n3 n4 n5, ai_ cy n1 40 fk, ai_ cy n2 40 fs, ai_ cy n3 40 fe, ai_ cy n4 40 fw, ai_ cy n5 40 fp, ob0_0_ xc xn xk clo cro c4 c5 c6 c7 c8, aq_ cy 6 clo 12 (gf_ rl), ai_ cy (rl 0) 12 (Ml 0), ai_ cy (rl 1) 12 (Ml 1), ai_ cy (rl 2) 12 (Ml 2), ai_ cy (rl 3) 12 (Ml 3), ai_ cy (rl 4) 12 (Ml 4), ai_ cy (rl 5) 12 (Ml 5), ai_ cy (rl 6) 12 (Ml 6), ai_ cy (rl 7) 12 (Ml 7), ai_ cy (rl 8) 12 (Ml 8), ai_ cy (rl 9) 12 (Ml 9), ai_ cy (rl 10) 12 (Ml 10), ai_ cy (rl 11) 12 (Ml 11), aq_ cy 6 cro 12 (gf_ rr), ai_ cy (rr 0) 12 (Mr 0), ai_ cy (rr 1) 12 (Mr 1), ai_ cy (rr 2) 12 (Mr 2), ai_ cy (rr 3) 12 (Mr 3), ai_ cy (rr 4) 12 (Mr 4), ai_ cy (rr 5) 12 (Mr 5), ai_ cy (rr 6) 12 (Mr 6), ai_ cy (rr 7) 12 (Mr 7), ai_ cy (rr 8) 12 (Mr 8), ai_ cy (rr 9) 12 (Mr 9), ai_ cy (rr 10) 12 (Mr 10), ai_ cy (rr 11) 12 (Mr 11), ai_ cy c4 40 f4, ai_ cy c5 40 f5, ai_ cy c6 40 f6, ai_ cy c7 12 f7, ai_ cy c8 12 f8, aq_ cy 3 xk 5 (kf_ k0 k1 k2 k3 k4), ob6_0_ k0, ob5_0_ k1, ob9_0_ k2, ob2_0_ k3, ob8_0_ k4] [0, 1, 2, 3, 4, 5, 6, 7, 8, 9, 10, 11, 12, 13, 14, 15, 16, 17, 18, 19, 20, 21, 22, 23, 24, 25, 26, 27, 28, 29, 30, 31, 32, 33, 34, 35, 36, 37, 38, 39, 40, 41, 42, 43, 44] (by decide +kernel) rfl (fun hPc hDw hFc hC_ => ?_)
          refine va_calli (va_runV (As := [.int a1, .int a2]) (rest := []) ⟨hx, hb, hml, hown, hts⟩ (c_X11_mostNow2 l D cy H.size xo xk xn xc xh xt xw xm xp pf ph tr fi n1 n2 n3 n4 n5 vp vn clo cro c4 c5 c6 c7 c8 fk fs fe fw fp rl Ml rr Mr f4 f5 f6 f7 f8 k0 k1 k2 k3 k4 a1 a2 (by first | with_reducible assumption | omega | assumption) (by first | with_reducible assumption | omega | assumption) (by first | with_reducible assumption | omega | assumption) (by first | with_reducible assumption | omega | assumption) (by first | with_reducible assumption | assumption | omega) (by first | with_reducible assumption | assumption | omega) (by first | with_reducible assumption | assumption | omega) (by first | with_reducible assumption | assumption | omega) (by first | with_reducible assumption | assumption | omega) (by first | with_reducible assumption | assumption | omega) (by first | with_reducible assumption | assumption | omega)) (cwV 2 hts gX11_cut_X11_mostNow rfl rfl rfl ⟨rfl, hd_X11_mostNow⟩ ⟨Nat.le_of_ble_eq_true rfl, Nat.le_of_ble_eq_true rfl⟩) ⟨bl_g, va_recvX hK.1 hP (ci := 11) (q0 := 0) rfl rfl, fun U hU hW => ⟨rfl, by rw [hU], by rw [hU]; exact hPc, ⟨kk_mv hW hK, arrOfT_moved hW.alike hG⟩, hDw⟩⟩ rfl rfl hl.1 rfl (lv_room (Nat.le_of_ble_eq_true rfl)) dB_36_3_13.2.1.2.1 ⟨Nat.le_of_ble_eq_true rfl, Nat.le_of_ble_eq_true rfl⟩) hS (fun q _ h => hFc q h) hFc (fun r_6 u t H locs ht hvm hw hB hz1 hk1 hS => ?_)
          obtain ⟨eu_, hw⟩ := hw
          have eu_ := eu_.symm
          subst eu_
          obtain ⟨eMl_7, eMr_8, e4_9, e5_10, e6_11, e7_12, e8_13, g_14, g_15, g_16, g_17, hP1, hD1⟩ := hB
          rw [ht] at hP1
          obtain ⟨hP, hD⟩ := va_join (wr := []) (w1 := [ob11_0_ xo xk xn xc xh xt xw xm xp pf ph tr fi, ob3_0_ xn vp vn n1 n2 n3 n4 n5, ai_ cy n1 40 fk, ai_ cy n2 40 fs, ai_ cy n3 40 fe, ai_ cy n4 40 fw, ai_ cy n5 40 fp, ob0_0_ xc xn xk clo cro c4 c5 c6 c7 c8, aq_ cy 6 clo 12 (gf_ rl), ai_ cy (rl 0) 12 (eMl_7 0), ai_ cy (rl 1) 12 (eMl_7 1), ai_ cy (rl 2) 12 (eMl_7 2), ai_ cy (rl 3) 12 (eMl_7 3), ai_ cy (rl 4) 12 (eMl_7 4), ai_ cy (rl 5) 12 (eMl_7 5), ai_ cy (rl 6) 12 (eMl_7 6), ai_ cy (rl 7) 12 (eMl_7 7), ai_ cy (rl 8) 12 (eMl_7 8), ai_ cy (rl 9) 12 (eMl_7 9), ai_ cy (rl 10) 12 (eMl_7 10), ai_ cy (rl 11) 12 (eMl_7 11), aq_ cy 6 cro 12 (gf_ rr), ai_ cy (rr 0) 12 (eMr_8 0), ai_ cy (rr 1) 12 (eMr_8 1), ai_ cy (rr 2) 12 (eMr_8 2), ai_ cy (rr 3) 12 (eMr_8 3), ai_ cy (rr 4) 12 (eMr_8 4), ai_ cy (rr 5) 12 (eMr_8 5), ai_ cy (rr 6) 12 (eMr_8 6), ai_ cy (rr 7) 12 (eMr_8 7), ai_ cy (rr 8) 12 (eMr_8 8), ai_ cy (rr 9) 12 (eMr_8 9), ai_ cy (rr 10) 12 (eMr_8 10), ai_ cy (rr 11) 12 (eMr_8 11), ai_ cy c4 40 e4_9, ai_ cy c5 40 e5_10, ai_ cy c6 40 e6_11, ai_ cy c7 12 e7_12, ai_ cy c8 12 e8_13, aq_ cy 3 xk 5 (kf_ k0 k1 k2 k3 k4), ob6_0_ k0, ob5_0_ k1, ob9_0_ k2, ob2_0_ k3, ob8_0_ k4]) hP hD [0, 1, 2, 3, 4, 5, 6, 7, 8, 9, 10, 11, 12, 13, 14, 15, 16, 17, 18, 19, 20, 21, 22, 23, 24, 25, 26, 27, 28, 29, 30, 31, 32, 33, 34, 35, 36, 37, 38, 39, 40, 41, 42, 43, 44] [] hC_ rfl (by decide) (by decide) hk1 hFc hP1 hD1
          refine pd_K [ob11_0_ xo xk xn xc xh xt xw xm xp pf ph tr fi, ob3_0_ xn vp vn n1 n2 n3 n4 n5, ai_ cy n1 40 fk, ai_ cy n2 40 fs, ai_ cy n3 40 fe, ai_ cy n4 40 fw, ai_ cy n5 40 fp, ob0_0_ xc xn xk clo cro c4 c5 c6 c7 c8, aq_ cy 6 clo 12 (gf_ rl), ai_ cy (rl 0) 12 (eMl_7 0), ai_ cy (rl 1) 12 (eMl_7 1), ai_ cy (rl 2) 12 (eMl_7 2), ai_ cy (rl 3) 12 (eMl_7 3), ai_ cy (rl 4) 12 (eMl_7 4), ai_ cy (rl 5) 12 (eMl_7 5), ai_ cy (rl 6) 12 (eMl_7 6), ai_ cy (rl 7) 12 (eMl_7 7), ai_ cy (rl 8) 12 (eMl_7 8), ai_ cy (rl 9) 12 (eMl_7 9), ai_ cy (rl 10) 12 (eMl_7 10), ai_ cy (rl 11) 12 (eMl_7 11), aq_ cy 6 cro 12 (gf_ rr), ai_ cy (rr 0) 12 (eMr_8 0), ai_ cy (rr 1) 12 (eMr_8 1), ai_ cy (rr 2) 12 (eMr_8 2), ai_ cy (rr 3) 12 (eMr_8 3), ai_ cy (rr 4) 12 (eMr_8 4), ai_ cy (rr 5) 12 (eMr_8 5), ai_ cy (rr 6) 12 (eMr_8 6), ai_ cy (rr 7) 12 (eMr_8 7), ai_ cy (rr 8) 12 (eMr_8 8), ai_ cy (rr 9) 12 (eMr_8 9), ai_ cy (rr 10) 12 (eMr_8 10), ai_ cy (rr 11) 12 (eMr_8 11), ai_ cy c4 40 e4_9, ai_ cy c5 40 e5_10, ai_ cy c6 40 e6_11, ai_ cy c7 12 e7_12, ai_ cy c8 12 e8_13, aq_ cy 3 xk 5 (kf_ k0 k1 k2 k3 k4), ob6_0_ k0, ob5_0_ k1, ob9_0_ k2, ob2_0_ k3, ob8_0_ k4] hP hD (fun hP hD => ?_)
          have f0_r_6 := hw
          have hmo_ := f0_r_6
          have hO_ := g_14
          have hfl_ := g_15
          refine lv_bipush (v := (-5)) hx hb dB_36_3_13.2.1.2.2 (by decide) ?_
          refine lv_icmp_ne (tgt := 39) hx hb dB_36_3_13.2.2.1.1 (by decide) (fun c_18 => ?_) (fun c_18 => ?_)
          · have t_18 : ¬ r_6.toInt = ((-5) : Int32).toInt := fun h => c_18 (Int32.toInt_inj.mp h)
            have hf_ := hfl_ (by omega)
            refine lv_iload_n hx hb dB_36_3_13.2.2.2.2 rfl (lv_at hl 3 rfl) ?_
            refine lv_if_ne (tgt := 54) hx hb dB_36_3_14.1.1.1 (by decide) (fun c_19 => ?_) (fun c_19 => ?_)
            · have t_19 : ¬ a3.toInt = (0 : Int32).toInt := fun h => c_19 (Int32.toInt_inj.mp h)
              refine lv_aload_n hx hb dB_36_3_14.2.1.2.1 rfl (lv_at hl 0 rfl) ?_
              refine va_get (ci := 11) (v := .ref xc) (C := RX11) (T := TX11) (N := 12) hx hb hts (fun _ h => List.mem_cons_of_mem _ (List.mem_append_left _ (List.mem_append_left _ (List.mem_append_right _ h)))) hown hK.1 hP 0 rfl rfl 2 (by decide) (hts (.fieldLink RX11 40 "CutAtlas" "current" "LCutAtlas$Current;") (List.mem_of_getElem? (i := 2) rfl)) (fun _ h9 => h9) rfl dB_36_3_14.2.1.2.2 ?_
              refine lv_iload_n hx hb dB_36_3_14.2.2.1 rfl (lv_at hl 2 rfl) ?_
              refine ct_S hP hD hS hA [ob0_0_ xc xn xk clo cro c4 c5 c6 c7 c8, ob3_0_ xn vp vn n1 n2 n3 n4 n5, aq_ cy 6 cro 12 (gf_ rr), ai_ cy (rr 0) 12 (eMr_8 0), ai_ cy (rr 1) 12 (eMr_8 1), ai_ cy (rr 2) 12 (eMr_8 2), ai_ cy (rr 3) 12 (eMr_8 3), ai_ cy (rr 4) 12 (eMr_8 4), ai_ cy (rr 5) 12 (eMr_8 5), ai_ cy (rr 6) 12 (eMr_8 6), ai_ cy (rr 7) 12 (eMr_8 7), ai_ cy (rr 8) 12 (eMr_8 8), ai_ cy (rr 9) 12 (eMr_8 9), ai_ cy (rr 10) 12 (eMr_8 10), ai_ cy (rr 11) 12 (eMr_8 11), ai_ cy c7 12 e7_12] [7, 1, 21, 22, 23, 24, 25, 26, 27, 28, 29, 30, 31, 32, 33, 37] (by decide +kernel) rfl (fun hPc hDw hFc hC_ => ?_)
              refine va_calli (va_runV (As := [.int a2]) (rest := []) ⟨hx, hb, hml, hown, hts⟩ (c_X0_farCut2 l D cy H.size xc xk clo cro c4 c5 c6 c7 c8 xn n1 n2 n3 n4 n5 vp vn rr eMr_8 e7_12 a2 (by first | with_reducible assumption | omega | assumption) (by first | with_reducible assumption | omega | assumption) (by first | with_reducible assumption | assumption | omega)) (cwV 1 hts gX11_cut_X0_farCut rfl rfl rfl ⟨rfl, hd_X0_farCut⟩ ⟨Nat.le_of_ble_eq_true rfl, Nat.le_of_ble_eq_true rfl⟩) ⟨bl_g, va_recvX hK.1 hP (ci := 0) (q0 := 7) rfl rfl, fun U hU hW => ⟨rfl, by rw [hU], by rw [hU]; exact hPc, ⟨kk_mv hW hK, arrOfT_moved hW.alike hG⟩, hDw⟩⟩ rfl rfl hl.1 rfl (lv_room (Nat.le_of_ble_eq_true rfl)) dB_36_3_14.2.2.2.1 ⟨Nat.le_of_ble_eq_true rfl, Nat.le_of_ble_eq_true rfl⟩) hS (fun q _ h => hFc q h) hFc (fun r_20 u t H locs ht hvm hw hB hz1 hk1 hS => ?_)
              obtain ⟨e7_21, g_22, hP1, hD1⟩ := hB
              rw [ht] at hP1
              obtain ⟨hP, hD⟩ := va_join (wr := [ob11_0_ xo xk xn xc xh xt xw xm xp pf ph tr fi, ai_ cy n1 40 fk, ai_ cy n2 40 fs, ai_ cy n3 40 fe, ai_ cy n4 40 fw, ai_ cy n5 40 fp, aq_ cy 6 clo 12 (gf_ rl), ai_ cy (rl 0) 12 (eMl_7 0), ai_ cy (rl 1) 12 (eMl_7 1), ai_ cy (rl 2) 12 (eMl_7 2), ai_ cy (rl 3) 12 (eMl_7 3), ai_ cy (rl 4) 12 (eMl_7 4), ai_ cy (rl 5) 12 (eMl_7 5), ai_ cy (rl 6) 12 (eMl_7 6), ai_ cy (rl 7) 12 (eMl_7 7), ai_ cy (rl 8) 12 (eMl_7 8), ai_ cy (rl 9) 12 (eMl_7 9), ai_ cy (rl 10) 12 (eMl_7 10), ai_ cy (rl 11) 12 (eMl_7 11), ai_ cy c4 40 e4_9, ai_ cy c5 40 e5_10, ai_ cy c6 40 e6_11, ai_ cy c8 12 e8_13, aq_ cy 3 xk 5 (kf_ k0 k1 k2 k3 k4), ob6_0_ k0, ob5_0_ k1, ob9_0_ k2, ob2_0_ k3, ob8_0_ k4]) (w1 := [ob0_0_ xc xn xk clo cro c4 c5 c6 c7 c8, ob3_0_ xn vp vn n1 n2 n3 n4 n5, aq_ cy 6 cro 12 (gf_ rr), ai_ cy (rr 0) 12 (eMr_8 0), ai_ cy (rr 1) 12 (eMr_8 1), ai_ cy (rr 2) 12 (eMr_8 2), ai_ cy (rr 3) 12 (eMr_8 3), ai_ cy (rr 4) 12 (eMr_8 4), ai_ cy (rr 5) 12 (eMr_8 5), ai_ cy (rr 6) 12 (eMr_8 6), ai_ cy (rr 7) 12 (eMr_8 7), ai_ cy (rr 8) 12 (eMr_8 8), ai_ cy (rr 9) 12 (eMr_8 9), ai_ cy (rr 10) 12 (eMr_8 10), ai_ cy (rr 11) 12 (eMr_8 11), ai_ cy c7 12 e7_21]) hP hD [7, 1, 21, 22, 23, 24, 25, 26, 27, 28, 29, 30, 31, 32, 33, 37] [0, 2, 3, 4, 5, 6, 8, 9, 10, 11, 12, 13, 14, 15, 16, 17, 18, 19, 20, 34, 35, 36, 38, 39, 40, 41, 42, 43, 44] hC_ rfl (by decide +kernel) (by decide +kernel) hk1 hFc hP1 hD1
              refine pd_S hP hD [ob11_0_ xo xk xn xc xh xt xw xm xp pf ph tr fi, ob3_0_ xn vp vn n1 n2 n3 n4 n5, ai_ cy n1 40 fk, ai_ cy n2 40 fs, ai_ cy n3 40 fe, ai_ cy n4 40 fw, ai_ cy n5 40 fp, ob0_0_ xc xn xk clo cro c4 c5 c6 c7 c8, aq_ cy 6 clo 12 (gf_ rl), ai_ cy (rl 0) 12 (eMl_7 0), ai_ cy (rl 1) 12 (eMl_7 1), ai_ cy (rl 2) 12 (eMl_7 2), ai_ cy (rl 3) 12 (eMl_7 3), ai_ cy (rl 4) 12 (eMl_7 4), ai_ cy (rl 5) 12 (eMl_7 5), ai_ cy (rl 6) 12 (eMl_7 6), ai_ cy (rl 7) 12 (eMl_7 7), ai_ cy (rl 8) 12 (eMl_7 8), ai_ cy (rl 9) 12 (eMl_7 9), ai_ cy (rl 10) 12 (eMl_7 10), ai_ cy (rl 11) 12 (eMl_7 11), aq_ cy 6 cro 12 (gf_ rr), ai_ cy (rr 0) 12 (eMr_8 0), ai_ cy (rr 1) 12 (eMr_8 1), ai_ cy (rr 2) 12 (eMr_8 2), ai_ cy (rr 3) 12 (eMr_8 3), ai_ cy (rr 4) 12 (eMr_8 4), ai_ cy (rr 5) 12 (eMr_8 5), ai_ cy (rr 6) 12 (eMr_8 6), ai_ cy (rr 7) 12 (eMr_8 7), ai_ cy (rr 8) 12 (eMr_8 8), ai_ cy (rr 9) 12 (eMr_8 9), ai_ cy (rr 10) 12 (eMr_8 10), ai_ cy (rr 11) 12 (eMr_8 11), ai_ cy c4 40 e4_9, ai_ cy c5 40 e5_10, ai_ cy c6 40 e6_11, ai_ cy c7 12 e7_21, ai_ cy c8 12 e8_13, aq_ cy 3 xk 5 (kf_ k0 k1 k2 k3 k4), ob6_0_ k0, ob5_0_ k1, ob9_0_ k2, ob2_0_ k3, ob8_0_ k4] [0, 30, 1, 2, 3, 4, 5, 29, 6, 7, 8, 9, 10, 11, 12, 13, 14, 15, 16, 17, 18, 31, 32, 33, 34, 35, 36, 37, 38, 39, 40, 41, 42, 43, 19, 20, 21, 44, 22, 23, 24, 25, 26, 27, 28] (by decide +kernel) rfl (fun hP hD => ?_)
              have f0_r_20 := hw
              first | (obtain ⟨q_, hq1_, hq2_⟩ := f0_r_20; have hfa_ := far_ok hf_ hO_ hmo_ (by omega) (fun _ _ => rfl) hq1_ (nc_lt (by omega) (by omega)) hq2_) | skip
              rw [hQ]
              exact W.iret (v := r_20) hx hb hr (fun t ht hW => ⟨⟨r_20, (), rfl, (by first | exact ⟨fun _ => ⟨_, hmo_, fun h => absurd h (by omega), fun _ => ⟨fun _ => hne_, fun h => absurd (by omega) h⟩⟩, fun h => absurd (by unfold ctI; (repeat' (first | with_reducible refine if_n (by omega) ?_ | with_reducible refine if_ns (by omega) ?_ | with_reducible refine if_nz (by omega) ?_ | with_reducible exact if_p (by omega) (by omega) | with_reducible exact if_ps (by omega) (by omega) | with_reducible exact if_pz (by omega) (by omega))) <;> omega) h⟩ | exact ⟨fun _ => ⟨_, hmo_, fun h => absurd h (by omega), fun _ => ⟨fun h => absurd h (by omega), fun _ => hfa_⟩⟩, fun h => absurd (by unfold ctI; (repeat' (first | with_reducible refine if_n (by omega) ?_ | with_reducible refine if_ns (by omega) ?_ | with_reducible refine if_nz (by omega) ?_ | with_reducible exact if_p (by omega) (by omega) | with_reducible exact if_ps (by omega) (by omega) | with_reducible exact if_pz (by omega) (by omega))) <;> omega) h⟩), eMl_7, eMr_8, e4_9, e5_10, e6_11, e7_21, e8_13, (by first | with_reducible assumption | assumption | exact rng_zero (by omega) (by omega) | omega), (by first | with_reducible assumption | assumption | exact rng_zero (by omega) (by omega) | omega), by rw [ht]; exact hP, hD⟩, hS.F ht⟩) hS.2.2 dB_36_3_14.2.2.2.2
            · have t_19 : a3.toInt = (0 : Int32).toInt := congrArg Int32.toInt c_19
              refine lv_aload_n hx hb dB_36_3_14.1.1.2 rfl (lv_at hl 0 rfl) ?_
              refine va_get (ci := 11) (v := .ref xc) (C := RX11) (T := TX11) (N := 12) hx hb hts (fun _ h => List.mem_cons_of_mem _ (List.mem_append_left _ (List.mem_append_left _ (List.mem_append_right _ h)))) hown hK.1 hP 0 rfl rfl 2 (by decide) (hts (.fieldLink RX11 40 "CutAtlas" "current" "LCutAtlas$Current;") (List.mem_of_getElem? (i := 2) rfl)) (fun _ h9 => h9) rfl dB_36_3_14.1.2.1 ?_
              refine lv_iload_n hx hb dB_36_3_14.1.2.2.1 rfl (lv_at hl 1 rfl) ?_
              refine ct_S hP hD hS hA [ob0_0_ xc xn xk clo cro c4 c5 c6 c7 c8, ob3_0_ xn vp vn n1 n2 n3 n4 n5, aq_ cy 6 cro 12 (gf_ rr), ai_ cy (rr 0) 12 (eMr_8 0), ai_ cy (rr 1) 12 (eMr_8 1), ai_ cy (rr 2) 12 (eMr_8 2), ai_ cy (rr 3) 12 (eMr_8 3), ai_ cy (rr 4) 12 (eMr_8 4), ai_ cy (rr 5) 12 (eMr_8 5), ai_ cy (rr 6) 12 (eMr_8 6), ai_ cy (rr 7) 12 (eMr_8 7), ai_ cy (rr 8) 12 (eMr_8 8), ai_ cy (rr 9) 12 (eMr_8 9), ai_ cy (rr 10) 12 (eMr_8 10), ai_ cy (rr 11) 12 (eMr_8 11), ai_ cy c7 12 e7_12] [7, 1, 21, 22, 23, 24, 25, 26, 27, 28, 29, 30, 31, 32, 33, 37] (by decide +kernel) rfl (fun hPc hDw hFc hC_ => ?_)
              refine va_calli (va_runV (As := [.int a1]) (rest := []) ⟨hx, hb, hml, hown, hts⟩ (c_X0_nearCut2 l D cy H.size xc xk clo cro c4 c5 c6 c7 c8 xn n1 n2 n3 n4 n5 vp vn rr eMr_8 e7_12 a1 (by first | with_reducible assumption | omega | assumption) (by first | with_reducible assumption | omega | assumption) (by first | with_reducible assumption | assumption | omega)) (cwV 1 hts gX11_cut_X0_nearCut rfl rfl rfl ⟨rfl, hd_X0_nearCut⟩ ⟨Nat.le_of_ble_eq_true rfl, Nat.le_of_ble_eq_true rfl⟩) ⟨bl_g, va_recvX hK.1 hP (ci := 0) (q0 := 7) rfl rfl, fun U hU hW => ⟨rfl, by rw [hU], by rw [hU]; exact hPc, ⟨kk_mv hW hK, arrOfT_moved hW.alike hG⟩, hDw⟩⟩ rfl rfl hl.1 rfl (lv_room (Nat.le_of_ble_eq_true rfl)) dB_36_3_14.1.2.2.2 ⟨Nat.le_of_ble_eq_true rfl, Nat.le_of_ble_eq_true rfl⟩) hS (fun q _ h => hFc q h) hFc (fun r_23 u t H locs ht hvm hw hB hz1 hk1 hS => ?_)
              obtain ⟨e7_24, g_25, hP1, hD1⟩ := hB
              rw [ht] at hP1
              obtain ⟨hP, hD⟩ := va_join (wr := [ob11_0_ xo xk xn xc xh xt xw xm xp pf ph tr fi, ai_ cy n1 40 fk, ai_ cy n2 40 fs, ai_ cy n3 40 fe, ai_ cy n4 40 fw, ai_ cy n5 40 fp, aq_ cy 6 clo 12 (gf_ rl), ai_ cy (rl 0) 12 (eMl_7 0), ai_ cy (rl 1) 12 (eMl_7 1), ai_ cy (rl 2) 12 (eMl_7 2), ai_ cy (rl 3) 12 (eMl_7 3), ai_ cy (rl 4) 12 (eMl_7 4), ai_ cy (rl 5) 12 (eMl_7 5), ai_ cy (rl 6) 12 (eMl_7 6), ai_ cy (rl 7) 12 (eMl_7 7), ai_ cy (rl 8) 12 (eMl_7 8), ai_ cy (rl 9) 12 (eMl_7 9), ai_ cy (rl 10) 12 (eMl_7 10), ai_ cy (rl 11) 12 (eMl_7 11), ai_ cy c4 40 e4_9, ai_ cy c5 40 e5_10, ai_ cy c6 40 e6_11, ai_ cy c8 12 e8_13, aq_ cy 3 xk 5 (kf_ k0 k1 k2 k3 k4), ob6_0_ k0, ob5_0_ k1, ob9_0_ k2, ob2_0_ k3, ob8_0_ k4]) (w1 := [ob0_0_ xc xn xk clo cro c4 c5 c6 c7 c8, ob3_0_ xn vp vn n1 n2 n3 n4 n5, aq_ cy 6 cro 12 (gf_ rr), ai_ cy (rr 0) 12 (eMr_8 0), ai_ cy (rr 1) 12 (eMr_8 1), ai_ cy (rr 2) 12 (eMr_8 2), ai_ cy (rr 3) 12 (eMr_8 3), ai_ cy (rr 4) 12 (eMr_8 4), ai_ cy (rr 5) 12 (eMr_8 5), ai_ cy (rr 6) 12 (eMr_8 6), ai_ cy (rr 7) 12 (eMr_8 7), ai_ cy (rr 8) 12 (eMr_8 8), ai_ cy (rr 9) 12 (eMr_8 9), ai_ cy (rr 10) 12 (eMr_8 10), ai_ cy (rr 11) 12 (eMr_8 11), ai_ cy c7 12 e7_24]) hP hD [7, 1, 21, 22, 23, 24, 25, 26, 27, 28, 29, 30, 31, 32, 33, 37] [0, 2, 3, 4, 5, 6, 8, 9, 10, 11, 12, 13, 14, 15, 16, 17, 18, 19, 20, 34, 35, 36, 38, 39, 40, 41, 42, 43, 44] hC_ rfl (by decide +kernel) (by decide +kernel) hk1 hFc hP1 hD1
              refine pd_S hP hD [ob11_0_ xo xk xn xc xh xt xw xm xp pf ph tr fi, ob3_0_ xn vp vn n1 n2 n3 n4 n5, ai_ cy n1 40 fk, ai_ cy n2 40 fs, ai_ cy n3 40 fe, ai_ cy n4 40 fw, ai_ cy n5 40 fp, ob0_0_ xc xn xk clo cro c4 c5 c6 c7 c8, aq_ cy 6 clo 12 (gf_ rl), ai_ cy (rl 0) 12 (eMl_7 0), ai_ cy (rl 1) 12 (eMl_7 1), ai_ cy (rl 2) 12 (eMl_7 2), ai_ cy (rl 3) 12 (eMl_7 3), ai_ cy (rl 4) 12 (eMl_7 4), ai_ cy (rl 5) 12 (eMl_7 5), ai_ cy (rl 6) 12 (eMl_7 6), ai_ cy (rl 7) 12 (eMl_7 7), ai_ cy (rl 8) 12 (eMl_7 8), ai_ cy (rl 9) 12 (eMl_7 9), ai_ cy (rl 10) 12 (eMl_7 10), ai_ cy (rl 11) 12 (eMl_7 11), aq_ cy 6 cro 12 (gf_ rr), ai_ cy (rr 0) 12 (eMr_8 0), ai_ cy (rr 1) 12 (eMr_8 1), ai_ cy (rr 2) 12 (eMr_8 2), ai_ cy (rr 3) 12 (eMr_8 3), ai_ cy (rr 4) 12 (eMr_8 4), ai_ cy (rr 5) 12 (eMr_8 5), ai_ cy (rr 6) 12 (eMr_8 6), ai_ cy (rr 7) 12 (eMr_8 7), ai_ cy (rr 8) 12 (eMr_8 8), ai_ cy (rr 9) 12 (eMr_8 9), ai_ cy (rr 10) 12 (eMr_8 10), ai_ cy (rr 11) 12 (eMr_8 11), ai_ cy c4 40 e4_9, ai_ cy c5 40 e5_10, ai_ cy c6 40 e6_11, ai_ cy c7 12 e7_24, ai_ cy c8 12 e8_13, aq_ cy 3 xk 5 (kf_ k0 k1 k2 k3 k4), ob6_0_ k0, ob5_0_ k1, ob9_0_ k2, ob2_0_ k3, ob8_0_ k4] [0, 30, 1, 2, 3, 4, 5, 29, 6, 7, 8, 9, 10, 11, 12, 13, 14, 15, 16, 17, 18, 31, 32, 33, 34, 35, 36, 37, 38, 39, 40, 41, 42, 43, 19, 20, 21, 44, 22, 23, 24, 25, 26, 27, 28] (by decide +kernel) rfl (fun hP hD => ?_)
              have f0_r_23 := hw
              have hne_ := near_ok hf_ hO_ hmo_ (by omega) f0_r_23
              refine lv_goto (tgt := 62) hx hb dB_36_3_14.2.1.1 (by decide) ?_
              first | (obtain ⟨q_, hq1_, hq2_⟩ := f0_r_23; have hfa_ := far_ok hf_ hO_ hmo_ (by omega) (fun _ _ => rfl) hq1_ (nc_lt (by omega) (by omega)) hq2_) | skip
              rw [hQ]
              exact W.iret (v := r_23) hx hb hr (fun t ht hW => ⟨⟨r_23, (), rfl, (by first | exact ⟨fun _ => ⟨_, hmo_, fun h => absurd h (by omega), fun _ => ⟨fun _ => hne_, fun h => absurd (by omega) h⟩⟩, fun h => absurd (by unfold ctI; (repeat' (first | with_reducible refine if_n (by omega) ?_ | with_reducible refine if_ns (by omega) ?_ | with_reducible refine if_nz (by omega) ?_ | with_reducible exact if_p (by omega) (by omega) | with_reducible exact if_ps (by omega) (by omega) | with_reducible exact if_pz (by omega) (by omega))) <;> omega) h⟩ | exact ⟨fun _ => ⟨_, hmo_, fun h => absurd h (by omega), fun _ => ⟨fun h => absurd h (by omega), fun _ => hfa_⟩⟩, fun h => absurd (by unfold ctI; (repeat' (first | with_reducible refine if_n (by omega) ?_ | with_reducible refine if_ns (by omega) ?_ | with_reducible refine if_nz (by omega) ?_ | with_reducible exact if_p (by omega) (by omega) | with_reducible exact if_ps (by omega) (by omega) | with_reducible exact if_pz (by omega) (by omega))) <;> omega) h⟩), eMl_7, eMr_8, e4_9, e5_10, e6_11, e7_24, e8_13, (by first | with_reducible assumption | assumption | exact rng_zero (by omega) (by omega) | omega), (by first | with_reducible assumption | assumption | exact rng_zero (by omega) (by omega) | omega), by rw [ht]; exact hP, hD⟩, hS.F ht⟩) hS.2.2 dB_36_3_14.2.2.2.2
          · have t_18 : r_6.toInt = ((-5) : Int32).toInt := congrArg Int32.toInt c_18
            refine lv_bipush (v := (-5)) hx hb dB_36_3_13.2.2.1.2 (by decide) ?_
            rw [hQ]
            exact W.iret (v := (-5)) hx hb hr (fun t ht hW => ⟨⟨(-5), (), rfl, (⟨fun _ => ⟨_, hmo_, fun _ => by decide, fun h => absurd (by omega) h⟩, fun h => absurd (by unfold ctI; (repeat' (first | with_reducible refine if_n (by omega) ?_ | with_reducible refine if_ns (by omega) ?_ | with_reducible refine if_nz (by omega) ?_ | with_reducible exact if_p (by omega) (by omega) | with_reducible exact if_ps (by omega) (by omega) | with_reducible exact if_pz (by omega) (by omega))) <;> omega) h⟩), eMl_7, eMr_8, e4_9, e5_10, e6_11, e7_12, e8_13, (by first | with_reducible assumption | assumption | exact rng_zero (by omega) (by omega) | omega), (by first | with_reducible assumption | assumption | exact rng_zero (by omega) (by omega) | omega), by rw [ht]; exact hP, hD⟩, hS.F ht⟩) hS.2.2 dB_36_3_13.2.2.2.1
        · have t_5 : ¬ a3.toInt ≤ (1 : Int32).toInt := fun h => c_5 (Int32.le_iff_toInt_le.mpr h)
          refine lv_iconst (v := (-1)) hx hb dB_36_3_13.1.2.1.2 (by decide) ?_
          rw [hQ]
          exact W.iret (v := (-1)) hx hb hr (fun t ht hW => ⟨⟨(-1), (), rfl, (⟨fun h => absurd h (by unfold ctI; (repeat' (first | with_reducible refine if_n (by omega) ?_ | with_reducible refine if_ns (by omega) ?_ | with_reducible refine if_nz (by omega) ?_ | with_reducible exact if_p (by omega) (by omega) | with_reducible exact if_ps (by omega) (by omega) | with_reducible exact if_pz (by omega) (by omega))) <;> omega), fun _ => by decide⟩), Ml, Mr, f4, f5, f6, f7, f8, (by first | with_reducible assumption | assumption | exact rng_zero (by omega) (by omega) | omega), (by first | with_reducible assumption | assumption | exact rng_zero (by omega) (by omega) | omega), by rw [ht]; exact hP, hD⟩, hS.F ht⟩) hS.2.2 dB_36_3_13.1.2.2.1
  · have e_ := e_.symm
    subst e_
    refine lv_if_eq (tgt := 23) hx hb dB_36_2_33.2.2.2 (by decide) (fun c_26 => ?_) (fun c_26 => ?_)
    · have _ := c_26
      refine lv_iconst (v := (-1)) hx hb dB_36_3_13.1.2.1.2 (by decide) ?_
      rw [hQ]
      exact W.iret (v := (-1)) hx hb hr (fun t ht hW => ⟨⟨(-1), (), rfl, (⟨fun h => absurd h (by unfold ctI; (repeat' (first | with_reducible refine if_n (by omega) ?_ | with_reducible refine if_ns (by omega) ?_ | with_reducible refine if_nz (by omega) ?_ | with_reducible exact if_p (by omega) (by omega) | with_reducible exact if_ps (by omega) (by omega) | with_reducible exact if_pz (by omega) (by omega))) <;> omega), fun _ => by decide⟩), Ml, Mr, f4, f5, f6, f7, f8, (by first | with_reducible assumption | assumption | exact rng_zero (by omega) (by omega) | omega), (by first | with_reducible assumption | assumption | exact rng_zero (by omega) (by omega) | omega), by rw [ht]; exact hP, hD⟩, hS.F ht⟩) hS.2.2 dB_36_3_13.1.2.2.1
    · exact absurd c_26 (by decide)
end
