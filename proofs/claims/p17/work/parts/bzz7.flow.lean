section
set_option maxHeartbeats 4000000 in
set_option maxRecDepth 100000 in
theorem c_X11_mostNow4 (l : Launch) (D : va_G) (cy : Nat → ClassId) (sz : Nat) (xo : Nat) (xk : Nat) (xn : Nat) (xc : Nat) (xh : Nat) (xt : Nat) (xw : Nat) (xm : Nat) (xp : Nat) (pf : Int32) (ph : Int32) (tr : Int64) (fi : Int32) (n1 : Nat) (n2 : Nat) (n3 : Nat) (n4 : Nat) (n5 : Nat) (vp : Int32) (vn : Int32) (clo : Nat) (cro : Nat) (c4 : Nat) (c5 : Nat) (c6 : Nat) (c7 : Nat) (c8 : Nat) (fk : Nat → Int32) (fs : Nat → Int32) (fe : Nat → Int32) (fw : Nat → Int32) (fp : Nat → Int32) (rl : Nat → Nat) (Ml : Nat → Nat → Int32) (rr : Nat → Nat) (Mr : Nat → Nat → Int32) (f4 : Nat → Int32) (f5 : Nat → Int32) (f6 : Nat → Int32) (f7 : Nat → Int32) (f8 : Nat → Int32) (k0 : Nat) (k1 : Nat) (k2 : Nat) (k3 : Nat) (k4 : Nat) (a1 : Int32) (a2 : Int32) (hvp : 0 ≤ vp.toInt ∧ vp.toInt ≤ 12) (hvn : 0 ≤ vn.toInt ∧ vn.toInt ≤ 40) (q1 : 0 ≤ a1.toInt ∧ a1.toInt < vp.toInt) (q2 : 0 ≤ a2.toInt ∧ a2.toInt < vp.toInt) (hne : a1.toInt ≠ a2.toInt) (hnc : netC vp.toInt vn.toInt fs fe) (hdc : netDC vn.toInt fs fe) (hpr : prng fs fe 40) (r_f7 : rng f7 12 (0) (11)) (r_f8 : rng f8 12 (0) (11)) (r_fk : rng fk 40 (0) (4)) (r_fw : rng fw 40 (0) (2000)) : Met l yX11_mostNow wsX11_mostNow ({ frames := 4, cells := 0, slots := 0, locals := 88 }) (va_Pc [.ref xo, .int a1, .int a2] (fun U => U.heap.size = sz ∧ va_P D vwCl [ob11_0_ xo xk xn xc xh xt xw xm xp pf ph tr fi, ob3_0_ xn vp vn n1 n2 n3 n4 n5, ai_ cy n1 40 fk, ai_ cy n2 40 fs, ai_ cy n3 40 fe, ai_ cy n4 40 fw, ai_ cy n5 40 fp, ob0_0_ xc xn xk clo cro c4 c5 c6 c7 c8, aq_ cy 6 clo 12 (gf_ rl), ai_ cy (rl 0) 12 (Ml 0), ai_ cy (rl 1) 12 (Ml 1), ai_ cy (rl 2) 12 (Ml 2), ai_ cy (rl 3) 12 (Ml 3), ai_ cy (rl 4) 12 (Ml 4), ai_ cy (rl 5) 12 (Ml 5), ai_ cy (rl 6) 12 (Ml 6), ai_ cy (rl 7) 12 (Ml 7), ai_ cy (rl 8) 12 (Ml 8), ai_ cy (rl 9) 12 (Ml 9), ai_ cy (rl 10) 12 (Ml 10), ai_ cy (rl 11) 12 (Ml 11), aq_ cy 6 cro 12 (gf_ rr), ai_ cy (rr 0) 12 (Mr 0), ai_ cy (rr 1) 12 (Mr 1), ai_ cy (rr 2) 12 (Mr 2), ai_ cy (rr 3) 12 (Mr 3), ai_ cy (rr 4) 12 (Mr 4), ai_ cy (rr 5) 12 (Mr 5), ai_ cy (rr 6) 12 (Mr 6), ai_ cy (rr 7) 12 (Mr 7), ai_ cy (rr 8) 12 (Mr 8), ai_ cy (rr 9) 12 (Mr 9), ai_ cy (rr 10) 12 (Mr 10), ai_ cy (rr 11) 12 (Mr 11), ai_ cy c4 40 f4, ai_ cy c5 40 f5, ai_ cy c6 40 f6, ai_ cy c7 12 f7, ai_ cy c8 12 f8, aq_ cy 3 xk 5 (kf_ k0 k1 k2 k3 k4), ob6_0_ k0, ob5_0_ k1, ob9_0_ k2, ob2_0_ k3, ob8_0_ k4] U.heap ∧ kg_ D cy U ∧ va_D (fun _ => True) [ob11_0_ xo xk xn xc xh xt xw xm xp pf ph tr fi, ob3_0_ xn vp vn n1 n2 n3 n4 n5, ai_ cy n1 40 fk, ai_ cy n2 40 fs, ai_ cy n3 40 fe, ai_ cy n4 40 fw, ai_ cy n5 40 fp, ob0_0_ xc xn xk clo cro c4 c5 c6 c7 c8, aq_ cy 6 clo 12 (gf_ rl), ai_ cy (rl 0) 12 (Ml 0), ai_ cy (rl 1) 12 (Ml 1), ai_ cy (rl 2) 12 (Ml 2), ai_ cy (rl 3) 12 (Ml 3), ai_ cy (rl 4) 12 (Ml 4), ai_ cy (rl 5) 12 (Ml 5), ai_ cy (rl 6) 12 (Ml 6), ai_ cy (rl 7) 12 (Ml 7), ai_ cy (rl 8) 12 (Ml 8), ai_ cy (rl 9) 12 (Ml 9), ai_ cy (rl 10) 12 (Ml 10), ai_ cy (rl 11) 12 (Ml 11), aq_ cy 6 cro 12 (gf_ rr), ai_ cy (rr 0) 12 (Mr 0), ai_ cy (rr 1) 12 (Mr 1), ai_ cy (rr 2) 12 (Mr 2), ai_ cy (rr 3) 12 (Mr 3), ai_ cy (rr 4) 12 (Mr 4), ai_ cy (rr 5) 12 (Mr 5), ai_ cy (rr 6) 12 (Mr 6), ai_ cy (rr 7) 12 (Mr 7), ai_ cy (rr 8) 12 (Mr 8), ai_ cy (rr 9) 12 (Mr 9), ai_ cy (rr 10) 12 (Mr 10), ai_ cy (rr 11) 12 (Mr 11), ai_ cy c4 40 f4, ai_ cy c5 40 f5, ai_ cy c6 40 f6, ai_ cy c7 12 f7, ai_ cy c8 12 f8, aq_ cy 3 xk 5 (kf_ k0 k1 k2 k3 k4), ob6_0_ k0, ob5_0_ k1, ob9_0_ k2, ob2_0_ k3, ob8_0_ k4])) (va_Qi (fun (r : Int32) (u : Int32) => u = r ∧ ((mostR (cutF fk fs fe fw (-9) vn.toNatClampNeg) a1.toNatClampNeg a2.toNatClampNeg r.toInt))) (fun (u : Int32) (t : State) => ∃ (eMl : Nat → Nat → Int32), ∃ (eMr : Nat → Nat → Int32), ∃ (e4 : Nat → Int32), ∃ (e5 : Nat → Int32), ∃ (e6 : Nat → Int32), ∃ (e7 : Nat → Int32), ∃ (e8 : Nat → Int32), (∀ S : Nat → Bool, outZ (zM eMl) S vp.toNatClampNeg = cutF fk fs fe fw (-9) vn.toNatClampNeg S) ∧ (u.toInt ≠ -5 → flw (zM eMl) (zM eMr) vp.toNatClampNeg a1.toNatClampNeg a2.toNatClampNeg u.toInt) ∧ (u.toInt ≠ -5 → enF (fun l => rmW (kF fk l) (wF fw (-9) l) 1) (fun l => rmW (kF fk l) (wF fw (-9) l) 0) (gN vn.toNatClampNeg (gF fs)) (nF fs) (nF fe) vn.toNatClampNeg vp.toNatClampNeg a1.toNatClampNeg a2.toNatClampNeg (kF e4)) ∧ (u.toInt ≠ -5 → cnZ (zM eMl) (zM eMr) vp.toNatClampNeg a1.toNatClampNeg a2.toNatClampNeg u.toInt) ∧ (mtx eMl vp.toInt fk fs fe fw (-9) vn.toNatClampNeg) ∧ (rng e7 12 (0) (11)) ∧ (rng e8 12 (0) (11)) ∧ va_P D vwCl [ob11_0_ xo xk xn xc xh xt xw xm xp pf ph tr fi, ob3_0_ xn vp vn n1 n2 n3 n4 n5, ai_ cy n1 40 fk, ai_ cy n2 40 fs, ai_ cy n3 40 fe, ai_ cy n4 40 fw, ai_ cy n5 40 fp, ob0_0_ xc xn xk clo cro c4 c5 c6 c7 c8, aq_ cy 6 clo 12 (gf_ rl), ai_ cy (rl 0) 12 (eMl 0), ai_ cy (rl 1) 12 (eMl 1), ai_ cy (rl 2) 12 (eMl 2), ai_ cy (rl 3) 12 (eMl 3), ai_ cy (rl 4) 12 (eMl 4), ai_ cy (rl 5) 12 (eMl 5), ai_ cy (rl 6) 12 (eMl 6), ai_ cy (rl 7) 12 (eMl 7), ai_ cy (rl 8) 12 (eMl 8), ai_ cy (rl 9) 12 (eMl 9), ai_ cy (rl 10) 12 (eMl 10), ai_ cy (rl 11) 12 (eMl 11), aq_ cy 6 cro 12 (gf_ rr), ai_ cy (rr 0) 12 (eMr 0), ai_ cy (rr 1) 12 (eMr 1), ai_ cy (rr 2) 12 (eMr 2), ai_ cy (rr 3) 12 (eMr 3), ai_ cy (rr 4) 12 (eMr 4), ai_ cy (rr 5) 12 (eMr 5), ai_ cy (rr 6) 12 (eMr 6), ai_ cy (rr 7) 12 (eMr 7), ai_ cy (rr 8) 12 (eMr 8), ai_ cy (rr 9) 12 (eMr 9), ai_ cy (rr 10) 12 (eMr 10), ai_ cy (rr 11) 12 (eMr 11), ai_ cy c4 40 e4, ai_ cy c5 40 e5, ai_ cy c6 40 e6, ai_ cy c7 12 e7, ai_ cy c8 12 e8, aq_ cy 3 xk 5 (kf_ k0 k1 k2 k3 k4), ob6_0_ k0, ob5_0_ k1, ob9_0_ k2, ob2_0_ k3, ob8_0_ k4] t.heap ∧ va_D (va_A [ob11_0_ xo xk xn xc xh xt xw xm xp pf ph tr fi, ob3_0_ xn vp vn n1 n2 n3 n4 n5, ai_ cy n1 40 fk, ai_ cy n2 40 fs, ai_ cy n3 40 fe, ai_ cy n4 40 fw, ai_ cy n5 40 fp, ob0_0_ xc xn xk clo cro c4 c5 c6 c7 c8, aq_ cy 6 clo 12 (gf_ rl), ai_ cy (rl 0) 12 (Ml 0), ai_ cy (rl 1) 12 (Ml 1), ai_ cy (rl 2) 12 (Ml 2), ai_ cy (rl 3) 12 (Ml 3), ai_ cy (rl 4) 12 (Ml 4), ai_ cy (rl 5) 12 (Ml 5), ai_ cy (rl 6) 12 (Ml 6), ai_ cy (rl 7) 12 (Ml 7), ai_ cy (rl 8) 12 (Ml 8), ai_ cy (rl 9) 12 (Ml 9), ai_ cy (rl 10) 12 (Ml 10), ai_ cy (rl 11) 12 (Ml 11), aq_ cy 6 cro 12 (gf_ rr), ai_ cy (rr 0) 12 (Mr 0), ai_ cy (rr 1) 12 (Mr 1), ai_ cy (rr 2) 12 (Mr 2), ai_ cy (rr 3) 12 (Mr 3), ai_ cy (rr 4) 12 (Mr 4), ai_ cy (rr 5) 12 (Mr 5), ai_ cy (rr 6) 12 (Mr 6), ai_ cy (rr 7) 12 (Mr 7), ai_ cy (rr 8) 12 (Mr 8), ai_ cy (rr 9) 12 (Mr 9), ai_ cy (rr 10) 12 (Mr 10), ai_ cy (rr 11) 12 (Mr 11), ai_ cy c4 40 f4, ai_ cy c5 40 f5, ai_ cy c6 40 f6, ai_ cy c7 12 f7, ai_ cy c8 12 f8, aq_ cy 3 xk 5 (kf_ k0 k1 k2 k3 k4), ob6_0_ k0, ob5_0_ k1, ob9_0_ k2, ob2_0_ k3, ob8_0_ k4] sz) [ob11_0_ xo xk xn xc xh xt xw xm xp pf ph tr fi, ob3_0_ xn vp vn n1 n2 n3 n4 n5, ai_ cy n1 40 fk, ai_ cy n2 40 fs, ai_ cy n3 40 fe, ai_ cy n4 40 fw, ai_ cy n5 40 fp, ob0_0_ xc xn xk clo cro c4 c5 c6 c7 c8, aq_ cy 6 clo 12 (gf_ rl), ai_ cy (rl 0) 12 (eMl 0), ai_ cy (rl 1) 12 (eMl 1), ai_ cy (rl 2) 12 (eMl 2), ai_ cy (rl 3) 12 (eMl 3), ai_ cy (rl 4) 12 (eMl 4), ai_ cy (rl 5) 12 (eMl 5), ai_ cy (rl 6) 12 (eMl 6), ai_ cy (rl 7) 12 (eMl 7), ai_ cy (rl 8) 12 (eMl 8), ai_ cy (rl 9) 12 (eMl 9), ai_ cy (rl 10) 12 (eMl 10), ai_ cy (rl 11) 12 (eMl 11), aq_ cy 6 cro 12 (gf_ rr), ai_ cy (rr 0) 12 (eMr 0), ai_ cy (rr 1) 12 (eMr 1), ai_ cy (rr 2) 12 (eMr 2), ai_ cy (rr 3) 12 (eMr 3), ai_ cy (rr 4) 12 (eMr 4), ai_ cy (rr 5) 12 (eMr 5), ai_ cy (rr 6) 12 (eMr 6), ai_ cy (rr 7) 12 (eMr 7), ai_ cy (rr 8) 12 (eMr 8), ai_ cy (rr 9) 12 (eMr 9), ai_ cy (rr 10) 12 (eMr 10), ai_ cy (rr 11) 12 (eMr 11), ai_ cy c4 40 e4, ai_ cy c5 40 e5, ai_ cy c6 40 e6, ai_ cy c7 12 e7, ai_ cy c8 12 e8, aq_ cy 3 xk 5 (kf_ k0 k1 k2 k3 k4), ob6_0_ k0, ob5_0_ k1, ob9_0_ k2, ob2_0_ k3, ob8_0_ k4]) (va_A [ob11_0_ xo xk xn xc xh xt xw xm xp pf ph tr fi, ob3_0_ xn vp vn n1 n2 n3 n4 n5, ai_ cy n1 40 fk, ai_ cy n2 40 fs, ai_ cy n3 40 fe, ai_ cy n4 40 fw, ai_ cy n5 40 fp, ob0_0_ xc xn xk clo cro c4 c5 c6 c7 c8, aq_ cy 6 clo 12 (gf_ rl), ai_ cy (rl 0) 12 (Ml 0), ai_ cy (rl 1) 12 (Ml 1), ai_ cy (rl 2) 12 (Ml 2), ai_ cy (rl 3) 12 (Ml 3), ai_ cy (rl 4) 12 (Ml 4), ai_ cy (rl 5) 12 (Ml 5), ai_ cy (rl 6) 12 (Ml 6), ai_ cy (rl 7) 12 (Ml 7), ai_ cy (rl 8) 12 (Ml 8), ai_ cy (rl 9) 12 (Ml 9), ai_ cy (rl 10) 12 (Ml 10), ai_ cy (rl 11) 12 (Ml 11), aq_ cy 6 cro 12 (gf_ rr), ai_ cy (rr 0) 12 (Mr 0), ai_ cy (rr 1) 12 (Mr 1), ai_ cy (rr 2) 12 (Mr 2), ai_ cy (rr 3) 12 (Mr 3), ai_ cy (rr 4) 12 (Mr 4), ai_ cy (rr 5) 12 (Mr 5), ai_ cy (rr 6) 12 (Mr 6), ai_ cy (rr 7) 12 (Mr 7), ai_ cy (rr 8) 12 (Mr 8), ai_ cy (rr 9) 12 (Mr 9), ai_ cy (rr 10) 12 (Mr 10), ai_ cy (rr 11) 12 (Mr 11), ai_ cy c4 40 f4, ai_ cy c5 40 f5, ai_ cy c6 40 f6, ai_ cy c7 12 f7, ai_ cy c8 12 f8, aq_ cy 3 xk 5 (kf_ k0 k1 k2 k3 k4), ob6_0_ k0, ob5_0_ k1, ob9_0_ k2, ob2_0_ k3, ob8_0_ k4] sz)) 0 0 (va_A [ob11_0_ xo xk xn xc xh xt xw xm xp pf ph tr fi, ob3_0_ xn vp vn n1 n2 n3 n4 n5, ai_ cy n1 40 fk, ai_ cy n2 40 fs, ai_ cy n3 40 fe, ai_ cy n4 40 fw, ai_ cy n5 40 fp, ob0_0_ xc xn xk clo cro c4 c5 c6 c7 c8, aq_ cy 6 clo 12 (gf_ rl), ai_ cy (rl 0) 12 (Ml 0), ai_ cy (rl 1) 12 (Ml 1), ai_ cy (rl 2) 12 (Ml 2), ai_ cy (rl 3) 12 (Ml 3), ai_ cy (rl 4) 12 (Ml 4), ai_ cy (rl 5) 12 (Ml 5), ai_ cy (rl 6) 12 (Ml 6), ai_ cy (rl 7) 12 (Ml 7), ai_ cy (rl 8) 12 (Ml 8), ai_ cy (rl 9) 12 (Ml 9), ai_ cy (rl 10) 12 (Ml 10), ai_ cy (rl 11) 12 (Ml 11), aq_ cy 6 cro 12 (gf_ rr), ai_ cy (rr 0) 12 (Mr 0), ai_ cy (rr 1) 12 (Mr 1), ai_ cy (rr 2) 12 (Mr 2), ai_ cy (rr 3) 12 (Mr 3), ai_ cy (rr 4) 12 (Mr 4), ai_ cy (rr 5) 12 (Mr 5), ai_ cy (rr 6) 12 (Mr 6), ai_ cy (rr 7) 12 (Mr 7), ai_ cy (rr 8) 12 (Mr 8), ai_ cy (rr 9) 12 (Mr 9), ai_ cy (rr 10) 12 (Mr 10), ai_ cy (rr 11) 12 (Mr 11), ai_ cy c4 40 f4, ai_ cy c5 40 f5, ai_ cy c6 40 f6, ai_ cy c7 12 f7, ai_ cy c8 12 f8, aq_ cy 3 xk 5 (kf_ k0 k1 k2 k3 k4), ob6_0_ k0, ob5_0_ k1, ob9_0_ k2, ob2_0_ k3, ob8_0_ k4] sz) := by
  refine ofQ (cc := cX11_mostNow) (maxL := 3) (ret := (some .int)) (by decide) rfl ?_
  intro p e s m args below meth c s₁ Q hQ B hml hv
  obtain ⟨rfl, hsz, hP, hK, hD0⟩ := hv
  have hG := hK.2
  have hK := hK.1
  have hx := B.exec
  have hb := B.bytes
  have hr := B.returns
  have hts := atoms_spec (ws := wsX11_mostNow) B.pre
  have hown : s.vm.findClass RX11 = some m.cls := by have h_ := findClass_of_methodNamed B.named; exact h_
  have hlocks := B.notSynchronized
  subst hsz
  have hD := hD0.self (sz := s.heap.size)
  generalize hAe : va_A [ob11_0_ xo xk xn xc xh xt xw xm xp pf ph tr fi, ob3_0_ xn vp vn n1 n2 n3 n4 n5, ai_ cy n1 40 fk, ai_ cy n2 40 fs, ai_ cy n3 40 fe, ai_ cy n4 40 fw, ai_ cy n5 40 fp, ob0_0_ xc xn xk clo cro c4 c5 c6 c7 c8, aq_ cy 6 clo 12 (gf_ rl), ai_ cy (rl 0) 12 (Ml 0), ai_ cy (rl 1) 12 (Ml 1), ai_ cy (rl 2) 12 (Ml 2), ai_ cy (rl 3) 12 (Ml 3), ai_ cy (rl 4) 12 (Ml 4), ai_ cy (rl 5) 12 (Ml 5), ai_ cy (rl 6) 12 (Ml 6), ai_ cy (rl 7) 12 (Ml 7), ai_ cy (rl 8) 12 (Ml 8), ai_ cy (rl 9) 12 (Ml 9), ai_ cy (rl 10) 12 (Ml 10), ai_ cy (rl 11) 12 (Ml 11), aq_ cy 6 cro 12 (gf_ rr), ai_ cy (rr 0) 12 (Mr 0), ai_ cy (rr 1) 12 (Mr 1), ai_ cy (rr 2) 12 (Mr 2), ai_ cy (rr 3) 12 (Mr 3), ai_ cy (rr 4) 12 (Mr 4), ai_ cy (rr 5) 12 (Mr 5), ai_ cy (rr 6) 12 (Mr 6), ai_ cy (rr 7) 12 (Mr 7), ai_ cy (rr 8) 12 (Mr 8), ai_ cy (rr 9) 12 (Mr 9), ai_ cy (rr 10) 12 (Mr 10), ai_ cy (rr 11) 12 (Mr 11), ai_ cy c4 40 f4, ai_ cy c5 40 f5, ai_ cy c6 40 f6, ai_ cy c7 12 f7, ai_ cy c8 12 f8, aq_ cy 3 xk 5 (kf_ k0 k1 k2 k3 k4), ob6_0_ k0, ob5_0_ k1, ob9_0_ k2, ob2_0_ k3, ob8_0_ k4] s.heap.size = A at hD hQ
  have hA : ∀ q : Nat, s.heap.size ≤ q → A q := fun q h => by rw [← hAe]; exact Or.inr h
  have hS : va_S A s.heap s.heap [] := va_S.rf
  have hl := lv_entry ([.ref xo, .int a1, .int a2]) (n := 3) (Nat.le_of_ble_eq_true rfl)
  rw [lg_entry_eq]
  generalize (lg_sl ([.ref xo, .int a1, .int a2]) ++ List.replicate (3 - (lg_sl ([.ref xo, .int a1, .int a2])).length) Slot.unset).toArray = ls at hl ⊢
  have hl : lv_has ls 3 [(0, .ref xo), (1, .int a1), (2, .int a2)] := hl
  have zm9 : ((-9) : Int32).toInt = -9 := by decide
  have zm9_ : ((-9) : Int32).toInt = -9 := by decide
  have hse_ := se_C hdc hpr hvn
  refine lv_aload_n hx hb dB_36_3_34.1.1.1 rfl (lv_at hl 0 rfl) ?_
  refine va_get (ci := 11) (v := .ref xc) (C := RX11) (T := TX11) (N := 12) hx hb hts (fun _ h => List.mem_cons_of_mem _ (List.mem_append_left _ (List.mem_append_left _ (List.mem_append_right _ h)))) hown hK.1 hP 0 rfl rfl 2 (by decide) (hts (.fieldLink RX11 40 "CutAtlas" "current" "LCutAtlas$Current;") (List.mem_of_getElem? (i := 1) rfl)) (fun _ h9 => h9) rfl dB_36_3_34.1.1.2 ?_
  refine lv_bipush (v := (-9)) hx hb dB_36_3_34.1.2.1 (by decide) ?_
  refine ct_S hP hD hS hA [ob0_0_ xc xn xk clo cro c4 c5 c6 c7 c8, ob3_0_ xn vp vn n1 n2 n3 n4 n5, ai_ cy n1 40 fk, ai_ cy n2 40 fs, ai_ cy n3 40 fe, ai_ cy n4 40 fw, aq_ cy 6 clo 12 (gf_ rl), ai_ cy (rl 0) 12 (Ml 0), ai_ cy (rl 1) 12 (Ml 1), ai_ cy (rl 2) 12 (Ml 2), ai_ cy (rl 3) 12 (Ml 3), ai_ cy (rl 4) 12 (Ml 4), ai_ cy (rl 5) 12 (Ml 5), ai_ cy (rl 6) 12 (Ml 6), ai_ cy (rl 7) 12 (Ml 7), ai_ cy (rl 8) 12 (Ml 8), ai_ cy (rl 9) 12 (Ml 9), ai_ cy (rl 10) 12 (Ml 10), ai_ cy (rl 11) 12 (Ml 11), ai_ cy c5 40 f5, ai_ cy c6 40 f6, aq_ cy 3 xk 5 (kf_ k0 k1 k2 k3 k4), ob6_0_ k0, ob5_0_ k1, ob9_0_ k2, ob2_0_ k3, ob8_0_ k4] [7, 1, 2, 3, 4, 5, 8, 9, 10, 11, 12, 13, 14, 15, 16, 17, 18, 19, 20, 35, 36, 39, 40, 41, 42, 43, 44] (by decide +kernel) rfl (fun hPc hDw hFc hC_ => ?_)
  refine va_callv (va_runV (As := [.int (-9)]) (rest := []) ⟨hx, hb, hml, hown, hts⟩ (c_X0_load2 l D cy s.heap.size xc xk clo cro c4 c5 c6 c7 c8 xn n1 n2 n3 n4 n5 vp vn fk fs fe fw rl Ml f5 f6 k0 k1 k2 k3 k4 ((-9) : Int32) (by first | with_reducible assumption | omega | assumption) (by first | with_reducible assumption | omega | assumption) (by first | with_reducible assumption | assumption | omega) (by first | with_reducible assumption | assumption | omega) (by first | with_reducible assumption | assumption | omega) (by first | with_reducible assumption | assumption | omega)) (cwV 1 hts gX11_mostNow_X0_load rfl rfl rfl ⟨rfl, hd_X0_load⟩ ⟨Nat.le_of_ble_eq_true rfl, Nat.le_of_ble_eq_true rfl⟩) ⟨bl_g, va_recvX hK.1 hP (ci := 0) (q0 := 7) rfl rfl, fun U hU hW => ⟨rfl, by rw [hU], by rw [hU]; exact hPc, ⟨kk_mv hW hK, arrOfT_moved hW.alike hG⟩, hDw⟩⟩ rfl rfl hl.1 rfl (lv_room (Nat.le_of_ble_eq_true rfl)) dB_36_3_34.1.2.2.1 ⟨Nat.le_of_ble_eq_true rfl, Nat.le_of_ble_eq_true rfl⟩) hS (fun q _ h => hFc q h) hFc (fun u t H locs ht hvm hw hB hz1 hk1 hS => ?_)
  obtain ⟨eMl_2, e5_3, e6_4, g_5, g_6, hP1, hD1⟩ := hB
  rw [ht] at hP1
  obtain ⟨hP, hD⟩ := va_join (wr := [ob11_0_ xo xk xn xc xh xt xw xm xp pf ph tr fi, ai_ cy n5 40 fp, aq_ cy 6 cro 12 (gf_ rr), ai_ cy (rr 0) 12 (Mr 0), ai_ cy (rr 1) 12 (Mr 1), ai_ cy (rr 2) 12 (Mr 2), ai_ cy (rr 3) 12 (Mr 3), ai_ cy (rr 4) 12 (Mr 4), ai_ cy (rr 5) 12 (Mr 5), ai_ cy (rr 6) 12 (Mr 6), ai_ cy (rr 7) 12 (Mr 7), ai_ cy (rr 8) 12 (Mr 8), ai_ cy (rr 9) 12 (Mr 9), ai_ cy (rr 10) 12 (Mr 10), ai_ cy (rr 11) 12 (Mr 11), ai_ cy c4 40 f4, ai_ cy c7 12 f7, ai_ cy c8 12 f8]) (w1 := [ob0_0_ xc xn xk clo cro c4 c5 c6 c7 c8, ob3_0_ xn vp vn n1 n2 n3 n4 n5, ai_ cy n1 40 fk, ai_ cy n2 40 fs, ai_ cy n3 40 fe, ai_ cy n4 40 fw, aq_ cy 6 clo 12 (gf_ rl), ai_ cy (rl 0) 12 (eMl_2 0), ai_ cy (rl 1) 12 (eMl_2 1), ai_ cy (rl 2) 12 (eMl_2 2), ai_ cy (rl 3) 12 (eMl_2 3), ai_ cy (rl 4) 12 (eMl_2 4), ai_ cy (rl 5) 12 (eMl_2 5), ai_ cy (rl 6) 12 (eMl_2 6), ai_ cy (rl 7) 12 (eMl_2 7), ai_ cy (rl 8) 12 (eMl_2 8), ai_ cy (rl 9) 12 (eMl_2 9), ai_ cy (rl 10) 12 (eMl_2 10), ai_ cy (rl 11) 12 (eMl_2 11), ai_ cy c5 40 e5_3, ai_ cy c6 40 e6_4, aq_ cy 3 xk 5 (kf_ k0 k1 k2 k3 k4), ob6_0_ k0, ob5_0_ k1, ob9_0_ k2, ob2_0_ k3, ob8_0_ k4]) hP hD [7, 1, 2, 3, 4, 5, 8, 9, 10, 11, 12, 13, 14, 15, 16, 17, 18, 19, 20, 35, 36, 39, 40, 41, 42, 43, 44] [0, 6, 21, 22, 23, 24, 25, 26, 27, 28, 29, 30, 31, 32, 33, 34, 37, 38] hC_ rfl (by decide +kernel) (by decide +kernel) hk1 hFc hP1 hD1
  refine pd_S hP hD [ob11_0_ xo xk xn xc xh xt xw xm xp pf ph tr fi, ob3_0_ xn vp vn n1 n2 n3 n4 n5, ai_ cy n1 40 fk, ai_ cy n2 40 fs, ai_ cy n3 40 fe, ai_ cy n4 40 fw, ai_ cy n5 40 fp, ob0_0_ xc xn xk clo cro c4 c5 c6 c7 c8, aq_ cy 6 clo 12 (gf_ rl), ai_ cy (rl 0) 12 (eMl_2 0), ai_ cy (rl 1) 12 (eMl_2 1), ai_ cy (rl 2) 12 (eMl_2 2), ai_ cy (rl 3) 12 (eMl_2 3), ai_ cy (rl 4) 12 (eMl_2 4), ai_ cy (rl 5) 12 (eMl_2 5), ai_ cy (rl 6) 12 (eMl_2 6), ai_ cy (rl 7) 12 (eMl_2 7), ai_ cy (rl 8) 12 (eMl_2 8), ai_ cy (rl 9) 12 (eMl_2 9), ai_ cy (rl 10) 12 (eMl_2 10), ai_ cy (rl 11) 12 (eMl_2 11), aq_ cy 6 cro 12 (gf_ rr), ai_ cy (rr 0) 12 (Mr 0), ai_ cy (rr 1) 12 (Mr 1), ai_ cy (rr 2) 12 (Mr 2), ai_ cy (rr 3) 12 (Mr 3), ai_ cy (rr 4) 12 (Mr 4), ai_ cy (rr 5) 12 (Mr 5), ai_ cy (rr 6) 12 (Mr 6), ai_ cy (rr 7) 12 (Mr 7), ai_ cy (rr 8) 12 (Mr 8), ai_ cy (rr 9) 12 (Mr 9), ai_ cy (rr 10) 12 (Mr 10), ai_ cy (rr 11) 12 (Mr 11), ai_ cy c4 40 f4, ai_ cy c5 40 e5_3, ai_ cy c6 40 e6_4, ai_ cy c7 12 f7, ai_ cy c8 12 f8, aq_ cy 3 xk 5 (kf_ k0 k1 k2 k3 k4), ob6_0_ k0, ob5_0_ k1, ob9_0_ k2, ob2_0_ k3, ob8_0_ k4] [0, 19, 20, 21, 22, 23, 1, 18, 24, 25, 26, 27, 28, 29, 30, 31, 32, 33, 34, 35, 36, 2, 3, 4, 5, 6, 7, 8, 9, 10, 11, 12, 13, 14, 15, 37, 38, 16, 17, 39, 40, 41, 42, 43, 44] (by decide +kernel) rfl (fun hP hD => ?_)
  have hmx_ := g_5
  have hM_ : ∀ x y : Nat, x < vp.toNatClampNeg → y < vp.toNatClampNeg → 0 ≤ zM eMl_2 x y ∧ zM eMl_2 x y ≤ 80000000 := fun x y hx hy => mtx_bd hmx_ r_fw (by have c_ := clI (i := vn) (by omega); omega) (by have c_ := clI (i := vp) (by omega); omega) (by have c_ := clI (i := vp) (by omega); omega)
  have hC_ : ∀ S : Nat → Bool, clsd (zM eMl_2) vp.toNatClampNeg 1000000 S → outZ (zM eMl_2) S vp.toNatClampNeg ≤ 100000 := fun S hS => small_cut hmx_ hnc hpr r_fw hvp hvn.2 hS
  have hO_ : ∀ S : Nat → Bool, outZ (zM eMl_2) S vp.toNatClampNeg = cutF fk fs fe fw (-9) vn.toNatClampNeg S := fun S => out_mtx hmx_ hnc hpr hvp hvn.2
  have hlt_ := g_6
  have hre0_ := fun (F : Nat → Int) (hz : ∀ l : Nat, l < vn.toNatClampNeg → F l = 0) => rmE_0 hmx_ hlt_ hse_ hvp hz
  have hfk0_ := fun (F : Nat → Int) (hz : ∀ l : Nat, l < vn.toNatClampNeg → F l = 0) => flK_0 hlt_ r_fw hvn hz
  refine lv_aload_n hx hb dB_36_3_34.1.2.2.2 rfl (lv_at hl 0 rfl) ?_
  refine va_get (ci := 11) (v := .ref xc) (C := RX11) (T := TX11) (N := 12) hx hb hts (fun _ h => List.mem_cons_of_mem _ (List.mem_append_left _ (List.mem_append_left _ (List.mem_append_right _ h)))) hown hK.1 hP 0 rfl rfl 2 (by decide) (hts (.fieldLink RX11 40 "CutAtlas" "current" "LCutAtlas$Current;") (List.mem_of_getElem? (i := 1) rfl)) (fun _ h9 => h9) rfl dB_36_3_34.2.1.1 ?_
  refine lv_iload_n hx hb dB_36_3_34.2.1.2 rfl (lv_at hl 1 rfl) ?_
  refine lv_iload_n hx hb dB_36_3_34.2.2.1 rfl (lv_at hl 2 rfl) ?_
  refine ct_S hP hD hS hA [ob0_0_ xc xn xk clo cro c4 c5 c6 c7 c8, ob3_0_ xn vp vn n1 n2 n3 n4 n5, ai_ cy n2 40 fs, ai_ cy n3 40 fe, aq_ cy 6 clo 12 (gf_ rl), ai_ cy (rl 0) 12 (eMl_2 0), ai_ cy (rl 1) 12 (eMl_2 1), ai_ cy (rl 2) 12 (eMl_2 2), ai_ cy (rl 3) 12 (eMl_2 3), ai_ cy (rl 4) 12 (eMl_2 4), ai_ cy (rl 5) 12 (eMl_2 5), ai_ cy (rl 6) 12 (eMl_2 6), ai_ cy (rl 7) 12 (eMl_2 7), ai_ cy (rl 8) 12 (eMl_2 8), ai_ cy (rl 9) 12 (eMl_2 9), ai_ cy (rl 10) 12 (eMl_2 10), ai_ cy (rl 11) 12 (eMl_2 11), aq_ cy 6 cro 12 (gf_ rr), ai_ cy (rr 0) 12 (Mr 0), ai_ cy (rr 1) 12 (Mr 1), ai_ cy (rr 2) 12 (Mr 2), ai_ cy (rr 3) 12 (Mr 3), ai_ cy (rr 4) 12 (Mr 4), ai_ cy (rr 5) 12 (Mr 5), ai_ cy (rr 6) 12 (Mr 6), ai_ cy (rr 7) 12 (Mr 7), ai_ cy (rr 8) 12 (Mr 8), ai_ cy (rr 9) 12 (Mr 9), ai_ cy (rr 10) 12 (Mr 10), ai_ cy (rr 11) 12 (Mr 11), ai_ cy c4 40 f4, ai_ cy c5 40 e5_3, ai_ cy c6 40 e6_4, ai_ cy c7 12 f7, ai_ cy c8 12 f8] [7, 1, 3, 4, 8, 9, 10, 11, 12, 13, 14, 15, 16, 17, 18, 19, 20, 21, 22, 23, 24, 25, 26, 27, 28, 29, 30, 31, 32, 33, 34, 35, 36, 37, 38] (by decide +kernel) rfl (fun hPc hDw hFc hC_ => ?_)
  refine va_calli (va_runV (As := [.int a1, .int a2]) (rest := []) ⟨hx, hb, hml, hown, hts⟩ (c_X0_fill3 l D cy H.size xc xk clo cro c4 c5 c6 c7 c8 xn n1 n2 n3 n4 n5 vp vn fs fe rl eMl_2 rr Mr f4 e5_3 e6_4 f7 f8 a1 a2 (by first | with_reducible assumption | omega | assumption) (by first | with_reducible assumption | omega | assumption) (by first | with_reducible assumption | omega | assumption) (by first | with_reducible assumption | omega | assumption) (by first | with_reducible assumption | assumption | omega) (by first | with_reducible assumption | assumption | omega) (by first | with_reducible assumption | assumption | omega) (by first | with_reducible assumption | assumption | omega) (by first | with_reducible assumption | assumption | omega) (by first | with_reducible assumption | assumption | omega) (by first | with_reducible assumption | assumption | omega) (by first | with_reducible assumption | assumption | omega) (by first | with_reducible assumption | assumption | omega)) (cwV 2 hts gX11_mostNow_X0_fill rfl rfl rfl ⟨rfl, hd_X0_fill⟩ ⟨Nat.le_of_ble_eq_true rfl, Nat.le_of_ble_eq_true rfl⟩) ⟨bl_g, va_recvX hK.1 hP (ci := 0) (q0 := 7) rfl rfl, fun U hU hW => ⟨rfl, by rw [hU], by rw [hU]; exact hPc, ⟨kk_mv hW hK, arrOfT_moved hW.alike hG⟩, hDw⟩⟩ rfl rfl hl.1 rfl (lv_room (Nat.le_of_ble_eq_true rfl)) dB_36_3_34.2.2.2.1 ⟨Nat.le_of_ble_eq_true rfl, Nat.le_of_ble_eq_true rfl⟩) hS (fun q _ h => hFc q h) hFc (fun r_7 u t H locs ht hvm hw hB hz1 hk1 hS => ?_)
  obtain ⟨eu_, hw⟩ := hw
  have eu_ := eu_.symm
  subst eu_
  obtain ⟨eMr_8, e4_9, e7_10, e8_11, g_12, g_13, g_14, g_15, g_16, hP1, hD1⟩ := hB
  rw [ht] at hP1
  obtain ⟨hP, hD⟩ := va_join (wr := [ob11_0_ xo xk xn xc xh xt xw xm xp pf ph tr fi, ai_ cy n1 40 fk, ai_ cy n4 40 fw, ai_ cy n5 40 fp, aq_ cy 3 xk 5 (kf_ k0 k1 k2 k3 k4), ob6_0_ k0, ob5_0_ k1, ob9_0_ k2, ob2_0_ k3, ob8_0_ k4]) (w1 := [ob0_0_ xc xn xk clo cro c4 c5 c6 c7 c8, ob3_0_ xn vp vn n1 n2 n3 n4 n5, ai_ cy n2 40 fs, ai_ cy n3 40 fe, aq_ cy 6 clo 12 (gf_ rl), ai_ cy (rl 0) 12 (eMl_2 0), ai_ cy (rl 1) 12 (eMl_2 1), ai_ cy (rl 2) 12 (eMl_2 2), ai_ cy (rl 3) 12 (eMl_2 3), ai_ cy (rl 4) 12 (eMl_2 4), ai_ cy (rl 5) 12 (eMl_2 5), ai_ cy (rl 6) 12 (eMl_2 6), ai_ cy (rl 7) 12 (eMl_2 7), ai_ cy (rl 8) 12 (eMl_2 8), ai_ cy (rl 9) 12 (eMl_2 9), ai_ cy (rl 10) 12 (eMl_2 10), ai_ cy (rl 11) 12 (eMl_2 11), aq_ cy 6 cro 12 (gf_ rr), ai_ cy (rr 0) 12 (eMr_8 0), ai_ cy (rr 1) 12 (eMr_8 1), ai_ cy (rr 2) 12 (eMr_8 2), ai_ cy (rr 3) 12 (eMr_8 3), ai_ cy (rr 4) 12 (eMr_8 4), ai_ cy (rr 5) 12 (eMr_8 5), ai_ cy (rr 6) 12 (eMr_8 6), ai_ cy (rr 7) 12 (eMr_8 7), ai_ cy (rr 8) 12 (eMr_8 8), ai_ cy (rr 9) 12 (eMr_8 9), ai_ cy (rr 10) 12 (eMr_8 10), ai_ cy (rr 11) 12 (eMr_8 11), ai_ cy c4 40 e4_9, ai_ cy c5 40 e5_3, ai_ cy c6 40 e6_4, ai_ cy c7 12 e7_10, ai_ cy c8 12 e8_11]) hP hD [7, 1, 3, 4, 8, 9, 10, 11, 12, 13, 14, 15, 16, 17, 18, 19, 20, 21, 22, 23, 24, 25, 26, 27, 28, 29, 30, 31, 32, 33, 34, 35, 36, 37, 38] [0, 2, 5, 6, 39, 40, 41, 42, 43, 44] hC_ rfl (by decide) (by decide) hk1 hFc hP1 hD1
  refine pd_S hP hD [ob11_0_ xo xk xn xc xh xt xw xm xp pf ph tr fi, ob3_0_ xn vp vn n1 n2 n3 n4 n5, ai_ cy n1 40 fk, ai_ cy n2 40 fs, ai_ cy n3 40 fe, ai_ cy n4 40 fw, ai_ cy n5 40 fp, ob0_0_ xc xn xk clo cro c4 c5 c6 c7 c8, aq_ cy 6 clo 12 (gf_ rl), ai_ cy (rl 0) 12 (eMl_2 0), ai_ cy (rl 1) 12 (eMl_2 1), ai_ cy (rl 2) 12 (eMl_2 2), ai_ cy (rl 3) 12 (eMl_2 3), ai_ cy (rl 4) 12 (eMl_2 4), ai_ cy (rl 5) 12 (eMl_2 5), ai_ cy (rl 6) 12 (eMl_2 6), ai_ cy (rl 7) 12 (eMl_2 7), ai_ cy (rl 8) 12 (eMl_2 8), ai_ cy (rl 9) 12 (eMl_2 9), ai_ cy (rl 10) 12 (eMl_2 10), ai_ cy (rl 11) 12 (eMl_2 11), aq_ cy 6 cro 12 (gf_ rr), ai_ cy (rr 0) 12 (eMr_8 0), ai_ cy (rr 1) 12 (eMr_8 1), ai_ cy (rr 2) 12 (eMr_8 2), ai_ cy (rr 3) 12 (eMr_8 3), ai_ cy (rr 4) 12 (eMr_8 4), ai_ cy (rr 5) 12 (eMr_8 5), ai_ cy (rr 6) 12 (eMr_8 6), ai_ cy (rr 7) 12 (eMr_8 7), ai_ cy (rr 8) 12 (eMr_8 8), ai_ cy (rr 9) 12 (eMr_8 9), ai_ cy (rr 10) 12 (eMr_8 10), ai_ cy (rr 11) 12 (eMr_8 11), ai_ cy c4 40 e4_9, ai_ cy c5 40 e5_3, ai_ cy c6 40 e6_4, ai_ cy c7 12 e7_10, ai_ cy c8 12 e8_11, aq_ cy 3 xk 5 (kf_ k0 k1 k2 k3 k4), ob6_0_ k0, ob5_0_ k1, ob9_0_ k2, ob2_0_ k3, ob8_0_ k4] [0, 11, 1, 12, 13, 2, 3, 10, 14, 15, 16, 17, 18, 19, 20, 21, 22, 23, 24, 25, 26, 27, 28, 29, 30, 31, 32, 33, 34, 35, 36, 37, 38, 39, 40, 41, 42, 43, 44, 4, 5, 6, 7, 8, 9] (by decide +kernel) rfl (fun hP hD => ?_)
  have f0_r_7 := hw
  have hfo_ := g_12
  have hen_ := g_13
  have hcn_ := g_14
  rw [hQ]
  exact W.iret (v := r_7) hx hb hr (fun t ht hW => ⟨⟨r_7, r_7, rfl, ⟨rfl, (mostR_cg f0_r_7 hO_)⟩, eMl_2, eMr_8, e4_9, e5_3, e6_4, e7_10, e8_11, (hO_), (hfo_), (fun h_ => enF_cg (lnS_C hlt_) (hen_ h_)), (hcn_), (by have h_ := hmx_; rw [zm9_] at h_; exact h_), (by first | with_reducible assumption | assumption | exact rng_zero (by omega) (by omega) | omega), (by first | with_reducible assumption | assumption | exact rng_zero (by omega) (by omega) | omega), by rw [ht]; exact hP, hD⟩, hS.F ht⟩) hS.2.2 dB_36_3_34.2.2.2.2

set_option maxHeartbeats 4000000 in
set_option maxRecDepth 100000 in
theorem c_X11_flow3 (l : Launch) (D : va_G) (cy : Nat → ClassId) (sz : Nat) (xo : Nat) (xk : Nat) (xn : Nat) (xc : Nat) (xh : Nat) (xt : Nat) (xw : Nat) (xm : Nat) (xp : Nat) (pf : Int32) (ph : Int32) (tr : Int64) (fi : Int32) (n1 : Nat) (n2 : Nat) (n3 : Nat) (n4 : Nat) (n5 : Nat) (vp : Int32) (vn : Int32) (clo : Nat) (cro : Nat) (c4 : Nat) (c5 : Nat) (c6 : Nat) (c7 : Nat) (c8 : Nat) (fk : Nat → Int32) (fs : Nat → Int32) (fe : Nat → Int32) (fw : Nat → Int32) (fp : Nat → Int32) (rl : Nat → Nat) (Ml : Nat → Nat → Int32) (rr : Nat → Nat) (Mr : Nat → Nat → Int32) (f4 : Nat → Int32) (f5 : Nat → Int32) (f6 : Nat → Int32) (f7 : Nat → Int32) (f8 : Nat → Int32) (k0 : Nat) (k1 : Nat) (k2 : Nat) (k3 : Nat) (k4 : Nat) (a1 : Int32) (a2 : Int32) (a3 : Int32) (hvp : 0 ≤ vp.toInt ∧ vp.toInt ≤ 12) (hvn : 0 ≤ vn.toInt ∧ vn.toInt ≤ 40) (hnc : netC vp.toInt vn.toInt fs fe) (hdc : netDC vn.toInt fs fe) (hpr : prng fs fe 40) (r_f7 : rng f7 12 (0) (11)) (r_f8 : rng f8 12 (0) (11)) (r_fk : rng fk 40 (0) (4)) (r_fw : rng fw 40 (0) (2000)) : Met l yX11_flow wsX11_flow ({ frames := 5, cells := 0, slots := 0, locals := 110 }) (va_Pc [.ref xo, .int a1, .int a2, .int a3] (fun U => U.heap.size = sz ∧ va_P D vwCl [ob11_0_ xo xk xn xc xh xt xw xm xp pf ph tr fi, ob3_0_ xn vp vn n1 n2 n3 n4 n5, ai_ cy n1 40 fk, ai_ cy n2 40 fs, ai_ cy n3 40 fe, ai_ cy n4 40 fw, ai_ cy n5 40 fp, ob0_0_ xc xn xk clo cro c4 c5 c6 c7 c8, aq_ cy 6 clo 12 (gf_ rl), ai_ cy (rl 0) 12 (Ml 0), ai_ cy (rl 1) 12 (Ml 1), ai_ cy (rl 2) 12 (Ml 2), ai_ cy (rl 3) 12 (Ml 3), ai_ cy (rl 4) 12 (Ml 4), ai_ cy (rl 5) 12 (Ml 5), ai_ cy (rl 6) 12 (Ml 6), ai_ cy (rl 7) 12 (Ml 7), ai_ cy (rl 8) 12 (Ml 8), ai_ cy (rl 9) 12 (Ml 9), ai_ cy (rl 10) 12 (Ml 10), ai_ cy (rl 11) 12 (Ml 11), aq_ cy 6 cro 12 (gf_ rr), ai_ cy (rr 0) 12 (Mr 0), ai_ cy (rr 1) 12 (Mr 1), ai_ cy (rr 2) 12 (Mr 2), ai_ cy (rr 3) 12 (Mr 3), ai_ cy (rr 4) 12 (Mr 4), ai_ cy (rr 5) 12 (Mr 5), ai_ cy (rr 6) 12 (Mr 6), ai_ cy (rr 7) 12 (Mr 7), ai_ cy (rr 8) 12 (Mr 8), ai_ cy (rr 9) 12 (Mr 9), ai_ cy (rr 10) 12 (Mr 10), ai_ cy (rr 11) 12 (Mr 11), ai_ cy c4 40 f4, ai_ cy c5 40 f5, ai_ cy c6 40 f6, ai_ cy c7 12 f7, ai_ cy c8 12 f8, aq_ cy 3 xk 5 (kf_ k0 k1 k2 k3 k4), ob6_0_ k0, ob5_0_ k1, ob9_0_ k2, ob2_0_ k3, ob8_0_ k4] U.heap ∧ kg_ D cy U ∧ va_D (fun _ => True) [ob11_0_ xo xk xn xc xh xt xw xm xp pf ph tr fi, ob3_0_ xn vp vn n1 n2 n3 n4 n5, ai_ cy n1 40 fk, ai_ cy n2 40 fs, ai_ cy n3 40 fe, ai_ cy n4 40 fw, ai_ cy n5 40 fp, ob0_0_ xc xn xk clo cro c4 c5 c6 c7 c8, aq_ cy 6 clo 12 (gf_ rl), ai_ cy (rl 0) 12 (Ml 0), ai_ cy (rl 1) 12 (Ml 1), ai_ cy (rl 2) 12 (Ml 2), ai_ cy (rl 3) 12 (Ml 3), ai_ cy (rl 4) 12 (Ml 4), ai_ cy (rl 5) 12 (Ml 5), ai_ cy (rl 6) 12 (Ml 6), ai_ cy (rl 7) 12 (Ml 7), ai_ cy (rl 8) 12 (Ml 8), ai_ cy (rl 9) 12 (Ml 9), ai_ cy (rl 10) 12 (Ml 10), ai_ cy (rl 11) 12 (Ml 11), aq_ cy 6 cro 12 (gf_ rr), ai_ cy (rr 0) 12 (Mr 0), ai_ cy (rr 1) 12 (Mr 1), ai_ cy (rr 2) 12 (Mr 2), ai_ cy (rr 3) 12 (Mr 3), ai_ cy (rr 4) 12 (Mr 4), ai_ cy (rr 5) 12 (Mr 5), ai_ cy (rr 6) 12 (Mr 6), ai_ cy (rr 7) 12 (Mr 7), ai_ cy (rr 8) 12 (Mr 8), ai_ cy (rr 9) 12 (Mr 9), ai_ cy (rr 10) 12 (Mr 10), ai_ cy (rr 11) 12 (Mr 11), ai_ cy c4 40 f4, ai_ cy c5 40 f5, ai_ cy c6 40 f6, ai_ cy c7 12 f7, ai_ cy c8 12 f8, aq_ cy 3 xk 5 (kf_ k0 k1 k2 k3 k4), ob6_0_ k0, ob5_0_ k1, ob9_0_ k2, ob2_0_ k3, ob8_0_ k4])) (va_Qi (fun (r : Int32) (_ : Unit) => ((rsI a1.toInt a2.toInt a3.toInt vp.toInt vn.toInt (gI (fs a3.toNatClampNeg).toInt) = 0 → flA (cutF fk fs fe fw (-9) vn.toNatClampNeg) (fun F => enF (fun l => rmW (kF fk l) (wF fw (-9) l) 1) (fun l => rmW (kF fk l) (wF fw (-9) l) 0) (gN vn.toNatClampNeg (gF fs)) (nF fs) (nF fe) vn.toNatClampNeg vp.toNatClampNeg a1.toNatClampNeg a2.toNatClampNeg F) a1.toNatClampNeg a2.toNatClampNeg a3.toNatClampNeg r.toInt) ∧ (rsI a1.toInt a2.toInt a3.toInt vp.toInt vn.toInt (gI (fs a3.toNatClampNeg).toInt) ≠ 0 → r.toInt = -1000000))) (fun (_ : Unit) (t : State) => ∃ (eMl : Nat → Nat → Int32), ∃ (eMr : Nat → Nat → Int32), ∃ (e4 : Nat → Int32), ∃ (e5 : Nat → Int32), ∃ (e6 : Nat → Int32), ∃ (e7 : Nat → Int32), ∃ (e8 : Nat → Int32), (rng e7 12 (0) (11)) ∧ (rng e8 12 (0) (11)) ∧ va_P D vwCl [ob11_0_ xo xk xn xc xh xt xw xm xp pf ph tr fi, ob3_0_ xn vp vn n1 n2 n3 n4 n5, ai_ cy n1 40 fk, ai_ cy n2 40 fs, ai_ cy n3 40 fe, ai_ cy n4 40 fw, ai_ cy n5 40 fp, ob0_0_ xc xn xk clo cro c4 c5 c6 c7 c8, aq_ cy 6 clo 12 (gf_ rl), ai_ cy (rl 0) 12 (eMl 0), ai_ cy (rl 1) 12 (eMl 1), ai_ cy (rl 2) 12 (eMl 2), ai_ cy (rl 3) 12 (eMl 3), ai_ cy (rl 4) 12 (eMl 4), ai_ cy (rl 5) 12 (eMl 5), ai_ cy (rl 6) 12 (eMl 6), ai_ cy (rl 7) 12 (eMl 7), ai_ cy (rl 8) 12 (eMl 8), ai_ cy (rl 9) 12 (eMl 9), ai_ cy (rl 10) 12 (eMl 10), ai_ cy (rl 11) 12 (eMl 11), aq_ cy 6 cro 12 (gf_ rr), ai_ cy (rr 0) 12 (eMr 0), ai_ cy (rr 1) 12 (eMr 1), ai_ cy (rr 2) 12 (eMr 2), ai_ cy (rr 3) 12 (eMr 3), ai_ cy (rr 4) 12 (eMr 4), ai_ cy (rr 5) 12 (eMr 5), ai_ cy (rr 6) 12 (eMr 6), ai_ cy (rr 7) 12 (eMr 7), ai_ cy (rr 8) 12 (eMr 8), ai_ cy (rr 9) 12 (eMr 9), ai_ cy (rr 10) 12 (eMr 10), ai_ cy (rr 11) 12 (eMr 11), ai_ cy c4 40 e4, ai_ cy c5 40 e5, ai_ cy c6 40 e6, ai_ cy c7 12 e7, ai_ cy c8 12 e8, aq_ cy 3 xk 5 (kf_ k0 k1 k2 k3 k4), ob6_0_ k0, ob5_0_ k1, ob9_0_ k2, ob2_0_ k3, ob8_0_ k4] t.heap ∧ va_D (va_A [ob11_0_ xo xk xn xc xh xt xw xm xp pf ph tr fi, ob3_0_ xn vp vn n1 n2 n3 n4 n5, ai_ cy n1 40 fk, ai_ cy n2 40 fs, ai_ cy n3 40 fe, ai_ cy n4 40 fw, ai_ cy n5 40 fp, ob0_0_ xc xn xk clo cro c4 c5 c6 c7 c8, aq_ cy 6 clo 12 (gf_ rl), ai_ cy (rl 0) 12 (Ml 0), ai_ cy (rl 1) 12 (Ml 1), ai_ cy (rl 2) 12 (Ml 2), ai_ cy (rl 3) 12 (Ml 3), ai_ cy (rl 4) 12 (Ml 4), ai_ cy (rl 5) 12 (Ml 5), ai_ cy (rl 6) 12 (Ml 6), ai_ cy (rl 7) 12 (Ml 7), ai_ cy (rl 8) 12 (Ml 8), ai_ cy (rl 9) 12 (Ml 9), ai_ cy (rl 10) 12 (Ml 10), ai_ cy (rl 11) 12 (Ml 11), aq_ cy 6 cro 12 (gf_ rr), ai_ cy (rr 0) 12 (Mr 0), ai_ cy (rr 1) 12 (Mr 1), ai_ cy (rr 2) 12 (Mr 2), ai_ cy (rr 3) 12 (Mr 3), ai_ cy (rr 4) 12 (Mr 4), ai_ cy (rr 5) 12 (Mr 5), ai_ cy (rr 6) 12 (Mr 6), ai_ cy (rr 7) 12 (Mr 7), ai_ cy (rr 8) 12 (Mr 8), ai_ cy (rr 9) 12 (Mr 9), ai_ cy (rr 10) 12 (Mr 10), ai_ cy (rr 11) 12 (Mr 11), ai_ cy c4 40 f4, ai_ cy c5 40 f5, ai_ cy c6 40 f6, ai_ cy c7 12 f7, ai_ cy c8 12 f8, aq_ cy 3 xk 5 (kf_ k0 k1 k2 k3 k4), ob6_0_ k0, ob5_0_ k1, ob9_0_ k2, ob2_0_ k3, ob8_0_ k4] sz) [ob11_0_ xo xk xn xc xh xt xw xm xp pf ph tr fi, ob3_0_ xn vp vn n1 n2 n3 n4 n5, ai_ cy n1 40 fk, ai_ cy n2 40 fs, ai_ cy n3 40 fe, ai_ cy n4 40 fw, ai_ cy n5 40 fp, ob0_0_ xc xn xk clo cro c4 c5 c6 c7 c8, aq_ cy 6 clo 12 (gf_ rl), ai_ cy (rl 0) 12 (eMl 0), ai_ cy (rl 1) 12 (eMl 1), ai_ cy (rl 2) 12 (eMl 2), ai_ cy (rl 3) 12 (eMl 3), ai_ cy (rl 4) 12 (eMl 4), ai_ cy (rl 5) 12 (eMl 5), ai_ cy (rl 6) 12 (eMl 6), ai_ cy (rl 7) 12 (eMl 7), ai_ cy (rl 8) 12 (eMl 8), ai_ cy (rl 9) 12 (eMl 9), ai_ cy (rl 10) 12 (eMl 10), ai_ cy (rl 11) 12 (eMl 11), aq_ cy 6 cro 12 (gf_ rr), ai_ cy (rr 0) 12 (eMr 0), ai_ cy (rr 1) 12 (eMr 1), ai_ cy (rr 2) 12 (eMr 2), ai_ cy (rr 3) 12 (eMr 3), ai_ cy (rr 4) 12 (eMr 4), ai_ cy (rr 5) 12 (eMr 5), ai_ cy (rr 6) 12 (eMr 6), ai_ cy (rr 7) 12 (eMr 7), ai_ cy (rr 8) 12 (eMr 8), ai_ cy (rr 9) 12 (eMr 9), ai_ cy (rr 10) 12 (eMr 10), ai_ cy (rr 11) 12 (eMr 11), ai_ cy c4 40 e4, ai_ cy c5 40 e5, ai_ cy c6 40 e6, ai_ cy c7 12 e7, ai_ cy c8 12 e8, aq_ cy 3 xk 5 (kf_ k0 k1 k2 k3 k4), ob6_0_ k0, ob5_0_ k1, ob9_0_ k2, ob2_0_ k3, ob8_0_ k4]) (va_A [ob11_0_ xo xk xn xc xh xt xw xm xp pf ph tr fi, ob3_0_ xn vp vn n1 n2 n3 n4 n5, ai_ cy n1 40 fk, ai_ cy n2 40 fs, ai_ cy n3 40 fe, ai_ cy n4 40 fw, ai_ cy n5 40 fp, ob0_0_ xc xn xk clo cro c4 c5 c6 c7 c8, aq_ cy 6 clo 12 (gf_ rl), ai_ cy (rl 0) 12 (Ml 0), ai_ cy (rl 1) 12 (Ml 1), ai_ cy (rl 2) 12 (Ml 2), ai_ cy (rl 3) 12 (Ml 3), ai_ cy (rl 4) 12 (Ml 4), ai_ cy (rl 5) 12 (Ml 5), ai_ cy (rl 6) 12 (Ml 6), ai_ cy (rl 7) 12 (Ml 7), ai_ cy (rl 8) 12 (Ml 8), ai_ cy (rl 9) 12 (Ml 9), ai_ cy (rl 10) 12 (Ml 10), ai_ cy (rl 11) 12 (Ml 11), aq_ cy 6 cro 12 (gf_ rr), ai_ cy (rr 0) 12 (Mr 0), ai_ cy (rr 1) 12 (Mr 1), ai_ cy (rr 2) 12 (Mr 2), ai_ cy (rr 3) 12 (Mr 3), ai_ cy (rr 4) 12 (Mr 4), ai_ cy (rr 5) 12 (Mr 5), ai_ cy (rr 6) 12 (Mr 6), ai_ cy (rr 7) 12 (Mr 7), ai_ cy (rr 8) 12 (Mr 8), ai_ cy (rr 9) 12 (Mr 9), ai_ cy (rr 10) 12 (Mr 10), ai_ cy (rr 11) 12 (Mr 11), ai_ cy c4 40 f4, ai_ cy c5 40 f5, ai_ cy c6 40 f6, ai_ cy c7 12 f7, ai_ cy c8 12 f8, aq_ cy 3 xk 5 (kf_ k0 k1 k2 k3 k4), ob6_0_ k0, ob5_0_ k1, ob9_0_ k2, ob2_0_ k3, ob8_0_ k4] sz)) 0 0 (va_A [ob11_0_ xo xk xn xc xh xt xw xm xp pf ph tr fi, ob3_0_ xn vp vn n1 n2 n3 n4 n5, ai_ cy n1 40 fk, ai_ cy n2 40 fs, ai_ cy n3 40 fe, ai_ cy n4 40 fw, ai_ cy n5 40 fp, ob0_0_ xc xn xk clo cro c4 c5 c6 c7 c8, aq_ cy 6 clo 12 (gf_ rl), ai_ cy (rl 0) 12 (Ml 0), ai_ cy (rl 1) 12 (Ml 1), ai_ cy (rl 2) 12 (Ml 2), ai_ cy (rl 3) 12 (Ml 3), ai_ cy (rl 4) 12 (Ml 4), ai_ cy (rl 5) 12 (Ml 5), ai_ cy (rl 6) 12 (Ml 6), ai_ cy (rl 7) 12 (Ml 7), ai_ cy (rl 8) 12 (Ml 8), ai_ cy (rl 9) 12 (Ml 9), ai_ cy (rl 10) 12 (Ml 10), ai_ cy (rl 11) 12 (Ml 11), aq_ cy 6 cro 12 (gf_ rr), ai_ cy (rr 0) 12 (Mr 0), ai_ cy (rr 1) 12 (Mr 1), ai_ cy (rr 2) 12 (Mr 2), ai_ cy (rr 3) 12 (Mr 3), ai_ cy (rr 4) 12 (Mr 4), ai_ cy (rr 5) 12 (Mr 5), ai_ cy (rr 6) 12 (Mr 6), ai_ cy (rr 7) 12 (Mr 7), ai_ cy (rr 8) 12 (Mr 8), ai_ cy (rr 9) 12 (Mr 9), ai_ cy (rr 10) 12 (Mr 10), ai_ cy (rr 11) 12 (Mr 11), ai_ cy c4 40 f4, ai_ cy c5 40 f5, ai_ cy c6 40 f6, ai_ cy c7 12 f7, ai_ cy c8 12 f8, aq_ cy 3 xk 5 (kf_ k0 k1 k2 k3 k4), ob6_0_ k0, ob5_0_ k1, ob9_0_ k2, ob2_0_ k3, ob8_0_ k4] sz) := by
  refine ofQ (cc := cX11_flow) (maxL := 4) (ret := (some .int)) (by decide) rfl ?_
  intro p e s m args below meth c s₁ Q hQ B hml hv
  obtain ⟨rfl, hsz, hP, hK, hD0⟩ := hv
  have hG := hK.2
  have hK := hK.1
  have hx := B.exec
  have hb := B.bytes
  have hr := B.returns
  have hts := atoms_spec (ws := wsX11_flow) B.pre
  have hown : s.vm.findClass RX11 = some m.cls := by have h_ := findClass_of_methodNamed B.named; exact h_
  have hlocks := B.notSynchronized
  subst hsz
  have hD := hD0.self (sz := s.heap.size)
  generalize hAe : va_A [ob11_0_ xo xk xn xc xh xt xw xm xp pf ph tr fi, ob3_0_ xn vp vn n1 n2 n3 n4 n5, ai_ cy n1 40 fk, ai_ cy n2 40 fs, ai_ cy n3 40 fe, ai_ cy n4 40 fw, ai_ cy n5 40 fp, ob0_0_ xc xn xk clo cro c4 c5 c6 c7 c8, aq_ cy 6 clo 12 (gf_ rl), ai_ cy (rl 0) 12 (Ml 0), ai_ cy (rl 1) 12 (Ml 1), ai_ cy (rl 2) 12 (Ml 2), ai_ cy (rl 3) 12 (Ml 3), ai_ cy (rl 4) 12 (Ml 4), ai_ cy (rl 5) 12 (Ml 5), ai_ cy (rl 6) 12 (Ml 6), ai_ cy (rl 7) 12 (Ml 7), ai_ cy (rl 8) 12 (Ml 8), ai_ cy (rl 9) 12 (Ml 9), ai_ cy (rl 10) 12 (Ml 10), ai_ cy (rl 11) 12 (Ml 11), aq_ cy 6 cro 12 (gf_ rr), ai_ cy (rr 0) 12 (Mr 0), ai_ cy (rr 1) 12 (Mr 1), ai_ cy (rr 2) 12 (Mr 2), ai_ cy (rr 3) 12 (Mr 3), ai_ cy (rr 4) 12 (Mr 4), ai_ cy (rr 5) 12 (Mr 5), ai_ cy (rr 6) 12 (Mr 6), ai_ cy (rr 7) 12 (Mr 7), ai_ cy (rr 8) 12 (Mr 8), ai_ cy (rr 9) 12 (Mr 9), ai_ cy (rr 10) 12 (Mr 10), ai_ cy (rr 11) 12 (Mr 11), ai_ cy c4 40 f4, ai_ cy c5 40 f5, ai_ cy c6 40 f6, ai_ cy c7 12 f7, ai_ cy c8 12 f8, aq_ cy 3 xk 5 (kf_ k0 k1 k2 k3 k4), ob6_0_ k0, ob5_0_ k1, ob9_0_ k2, ob2_0_ k3, ob8_0_ k4] s.heap.size = A at hD hQ
  have hA : ∀ q : Nat, s.heap.size ≤ q → A q := fun q h => by rw [← hAe]; exact Or.inr h
  have hS : va_S A s.heap s.heap [] := va_S.rf
  have hl := lv_entry ([.ref xo, .int a1, .int a2, .int a3]) (n := 4) (Nat.le_of_ble_eq_true rfl)
  rw [lg_entry_eq]
  generalize (lg_sl ([.ref xo, .int a1, .int a2, .int a3]) ++ List.replicate (4 - (lg_sl ([.ref xo, .int a1, .int a2, .int a3])).length) Slot.unset).toArray = ls at hl ⊢
  have hl : lv_has ls 4 [(0, .ref xo), (1, .int a1), (2, .int a2), (3, .int a3)] := hl
  have zm1000000 : ((-1000000) : Int32).toInt = -1000000 := by decide
  have zm5 : ((-5) : Int32).toInt = -5 := by decide
  refine lv_aload_n hx hb dB_36_2_34.1.1.1.1 rfl (lv_at hl 0 rfl) ?_
  refine va_get (ci := 11) (v := .ref xn) (C := RX11) (T := TX11) (N := 12) hx hb hts (fun _ h => List.mem_cons_of_mem _ (List.mem_append_left _ (List.mem_append_left _ (List.mem_append_right _ h)))) hown hK.1 hP 0 rfl rfl 1 (by decide) (hts (.fieldLink RX11 31 "CutAtlas" "net" "LCutAtlas$Net;") (List.mem_of_getElem? (i := 1) rfl)) (fun _ h9 => h9) rfl dB_36_2_34.1.1.1.2 ?_
  refine lv_iload_n hx hb dB_36_2_34.1.1.2.1 rfl (lv_at hl 1 rfl) ?_
  refine lv_i2l (v := a1.toInt64) hx hb dB_36_2_34.1.1.2.2 rfl ?_
  have q_5 : (a1.toInt64).toInt = a1.toInt := Int32.toInt_toInt64 a1
  refine lv_iload_n hx hb dB_36_2_34.1.2.1.1 rfl (lv_at hl 2 rfl) ?_
  refine lv_i2l (v := a2.toInt64) hx hb dB_36_2_34.1.2.1.2 rfl ?_
  have q_7 : (a2.toInt64).toInt = a2.toInt := Int32.toInt_toInt64 a2
  refine ct_R hP hD [ob3_0_ xn vp vn n1 n2 n3 n4 n5] [1] (by decide) rfl (fun hPc hDw => ?_)
  have hFc := va_free (wc := []) hD hS hA [] rfl
  refine va_calli (va_runV (As := [.long a1.toInt64, .long a2.toInt64]) (rest := []) ⟨hx, hb, hml, hown, hts⟩ (c_X3_hasPair l D cy s.heap.size xn n1 n2 n3 n4 n5 vp vn a1.toInt64 a2.toInt64) (cwV 2 hts gX11_flow_X3_hasPair rfl rfl rfl ⟨rfl, hd_X3_hasPair⟩ ⟨Nat.le_of_ble_eq_true rfl, Nat.le_of_ble_eq_true rfl⟩) ⟨bl_, va_recvX hK.1 hP (ci := 3) (q0 := 1) rfl rfl, fun U hU hW => ⟨rfl, by rw [hU], by rw [hU]; exact hPc, kk_mv hW hK, hDw⟩⟩ rfl rfl hl.1 rfl (lv_room (Nat.le_of_ble_eq_true rfl)) dB_36_2_34.1.2.2.1 ⟨Nat.le_of_ble_eq_true rfl, Nat.le_of_ble_eq_true rfl⟩) hS (fun q _ h => hFc q h) hFc (fun r_1 u t H locs ht hvm hw hB hz1 hk1 hS => ?_)
  have hP : va_P D vwCl _ H := ro_keep hP hk1
  rcases hw with ⟨w_2, e_⟩ | ⟨w_2, e_⟩
  · have e_ := e_.symm
    subst e_
    refine lv_if_eq (tgt := 36) hx hb dB_36_2_34.1.2.2.2 (by decide) (fun c_3 => ?_) (fun c_3 => ?_)
    · exact absurd c_3 (by decide)
    · have _ := c_3
      refine lv_aload_n hx hb dB_36_2_34.2.1.1.1 rfl (lv_at hl 0 rfl) ?_
      refine va_get (ci := 11) (v := .ref xn) (C := RX11) (T := TX11) (N := 12) hx hb hts (fun _ h => List.mem_cons_of_mem _ (List.mem_append_left _ (List.mem_append_left _ (List.mem_append_right _ h)))) hown hK.1 hP 0 rfl rfl 1 (by decide) (hts (.fieldLink RX11 31 "CutAtlas" "net" "LCutAtlas$Net;") (List.mem_of_getElem? (i := 1) rfl)) (fun _ h9 => h9) rfl dB_36_2_34.2.1.1.2 ?_
      refine lv_iload_n hx hb dB_36_2_34.2.1.2.1 rfl (lv_at hl 3 rfl) ?_
      refine ct_R hP hD [ob3_0_ xn vp vn n1 n2 n3 n4 n5] [1] (by decide) rfl (fun hPc hDw => ?_)
      have hFc := va_free (wc := []) hD hS hA [] rfl
      refine va_calli (va_runV (As := [.int a3]) (rest := []) ⟨hx, hb, hml, hown, hts⟩ (c_X3_hasLine l D cy H.size xn n1 n2 n3 n4 n5 vp vn a3) (cwV 1 hts gX11_flow_X3_hasLine rfl rfl rfl ⟨rfl, hd_X3_hasLine⟩ ⟨Nat.le_of_ble_eq_true rfl, Nat.le_of_ble_eq_true rfl⟩) ⟨bl_, va_recvX hK.1 hP (ci := 3) (q0 := 1) rfl rfl, fun U hU hW => ⟨rfl, by rw [hU], by rw [hU]; exact hPc, kk_mv hW hK, hDw⟩⟩ rfl rfl hl.1 rfl (lv_room (Nat.le_of_ble_eq_true rfl)) dB_36_2_34.2.1.2.2 ⟨Nat.le_of_ble_eq_true rfl, Nat.le_of_ble_eq_true rfl⟩) hS (fun q _ h => hFc q h) hFc (fun r_4 u t H locs ht hvm hw hB hz1 hk1 hS => ?_)
      have hP : va_P D vwCl _ H := ro_keep hP hk1
      rcases hw with ⟨w_5, e_⟩ | ⟨w_5, e_⟩
      · have e_ := e_.symm
        subst e_
        refine lv_if_eq (tgt := 36) hx hb dB_36_2_34.2.2.1.1 (by decide) (fun c_6 => ?_) (fun c_6 => ?_)
        · exact absurd c_6 (by decide)
        · have _ := c_6
          refine lv_aload_n hx hb dB_36_2_34.2.2.1.2 rfl (lv_at hl 0 rfl) ?_
          refine va_get (ci := 11) (v := .ref xn) (C := RX11) (T := TX11) (N := 12) hx hb hts (fun _ h => List.mem_cons_of_mem _ (List.mem_append_left _ (List.mem_append_left _ (List.mem_append_right _ h)))) hown hK.1 hP 0 rfl rfl 1 (by decide) (hts (.fieldLink RX11 31 "CutAtlas" "net" "LCutAtlas$Net;") (List.mem_of_getElem? (i := 1) rfl)) (fun _ h9 => h9) rfl dB_36_2_34.2.2.2.1 ?_
          refine lv_iload_n hx hb dB_36_2_34.2.2.2.2 rfl (lv_at hl 3 rfl) ?_
          refine ct_R hP hD [ob3_0_ xn vp vn n1 n2 n3 n4 n5, ai_ cy n2 40 fs] [1, 3] (by decide) rfl (fun hPc hDw => ?_)
          have hFc := va_free (wc := []) hD hS hA [] rfl
          refine va_calli (va_runV (As := [.int a3]) (rest := []) ⟨hx, hb, hml, hown, hts⟩ (c_X3_isMissing l D cy H.size xn n1 n2 n3 n4 n5 vp vn fs a3 (by first | with_reducible assumption | omega | assumption)) (cwV 1 hts gX11_flow_X3_isMissing rfl rfl rfl ⟨rfl, hd_X3_isMissing⟩ ⟨Nat.le_of_ble_eq_true rfl, Nat.le_of_ble_eq_true rfl⟩) ⟨bl_, va_recvX hK.1 hP (ci := 3) (q0 := 1) rfl rfl, fun U hU hW => ⟨rfl, by rw [hU], by rw [hU]; exact hPc, kk_mv hW hK, hDw⟩⟩ rfl rfl hl.1 rfl (lv_room (Nat.le_of_ble_eq_true rfl)) dB_36_2_35.1.1.1.1 ⟨Nat.le_of_ble_eq_true rfl, Nat.le_of_ble_eq_true rfl⟩) hS (fun q _ h => hFc q h) hFc (fun r_7 u t H locs ht hvm hw hB hz1 hk1 hS => ?_)
          have hP : va_P D vwCl _ H := ro_keep hP hk1
          rcases hw with ⟨w_8, e_⟩ | ⟨w_8, e_⟩
          · have e_ := e_.symm
            subst e_
            refine lv_if_eq (tgt := 39) hx hb dB_36_2_35.1.1.1.2 (by decide) (fun c_9 => ?_) (fun c_9 => ?_)
            · exact absurd c_9 (by decide)
            · have _ := c_9
              refine lv_ldc (v := (-1000000)) hx hb hown (hts (.constant RX11 172 (-1000000)) (List.mem_of_getElem? (i := 2) rfl)) dB_36_2_35.1.1.2.1 ?_
              rw [hQ]
              exact W.iret (v := (-1000000)) hx hb hr (fun t ht hW => ⟨⟨(-1000000), (), rfl, (⟨fun h => absurd h (by first | (rw [gI_0 (by omega)]; unfold rsI; (repeat' (first | with_reducible refine if_n (by omega) ?_ | with_reducible refine if_ns (by omega) ?_ | with_reducible refine if_nz (by omega) ?_ | with_reducible exact if_p (by omega) (by omega) | with_reducible exact if_ps (by omega) (by omega) | with_reducible exact if_pz (by omega) (by omega))) <;> omega) | (rw [gI_1 (by omega)]; unfold rsI; (repeat' (first | with_reducible refine if_n (by omega) ?_ | with_reducible refine if_ns (by omega) ?_ | with_reducible refine if_nz (by omega) ?_ | with_reducible exact if_p (by omega) (by omega) | with_reducible exact if_ps (by omega) (by omega) | with_reducible exact if_pz (by omega) (by omega))) <;> omega) | (unfold rsI; (repeat' (first | with_reducible refine if_n (by omega) ?_ | with_reducible refine if_ns (by omega) ?_ | with_reducible refine if_nz (by omega) ?_ | with_reducible exact if_p (by omega) (by omega) | with_reducible exact if_ps (by omega) (by omega) | with_reducible exact if_pz (by omega) (by omega))) <;> omega)), fun _ => by decide⟩), Ml, Mr, f4, f5, f6, f7, f8, (by first | with_reducible assumption | assumption | exact rng_zero (by omega) (by omega) | omega), (by first | with_reducible assumption | assumption | exact rng_zero (by omega) (by omega) | omega), by rw [ht]; exact hP, hD⟩, hS.F ht⟩) hS.2.2 dB_36_2_35.1.1.2.2
          · have e_ := e_.symm
            subst e_
            refine lv_if_eq (tgt := 39) hx hb dB_36_2_35.1.1.1.2 (by decide) (fun c_10 => ?_) (fun c_10 => ?_)
            · have _ := c_10
              refine lv_aload_n hx hb dB_36_2_35.1.2.1.1 rfl (lv_at hl 0 rfl) ?_
              refine lv_iload_n hx hb dB_36_2_35.1.2.1.2 rfl (lv_at hl 1 rfl) ?_
              refine lv_iload_n hx hb dB_36_2_35.1.2.2.1 rfl (lv_at hl 2 rfl) ?_
              refine ct_S hP hD hS hA [ob11_0_ xo xk xn xc xh xt xw xm xp pf ph tr fi, ob3_0_ xn vp vn n1 n2 n3 n4 n5, ai_ cy n1 40 fk, ai_ cy n2 40 fs, ai_ cy n3 40 fe, ai_ cy n4 40 fw, ai_ cy n5 40 fp, ob0_0_ xc xn xk clo cro c4 c5 c6 c7 c8, aq_ cy 6 clo 12 (gf_ rl), ai_ cy (rl 0) 12 (Ml 0), ai_ cy (rl 1) 12 (Ml 1), ai_ cy (rl 2) 12 (Ml 2), ai_ cy (rl 3) 12 (Ml 3), ai_ cy (rl 4) 12 (Ml 4), ai_ cy (rl 5) 12 (Ml 5), ai_ cy (rl 6) 12 (Ml 6), ai_ cy (rl 7) 12 (Ml 7), ai_ cy (rl 8) 12 (Ml 8), ai_ cy (rl 9) 12 (Ml 9), ai_ cy (rl 10) 12 (Ml 10), ai_ cy (rl 11) 12 (Ml 11), aq_ cy 6 cro 12 (gf_ rr), ai_ cy (rr 0) 12 (Mr 0), ai_ cy (rr 1) 12 (Mr 1), ai_ cy (rr 2) 12 (Mr 2), ai_ cy (rr 3) 12 (Mr 3), ai_ cy (rr 4) 12 (Mr 4), ai_ cy (rr 5) 12 (Mr 5), ai_ cy (rr 6) 12 (Mr 6), ai_ cy (rr 7) 12 (Mr 7), ai_ cy (rr 8) 12 (Mr 8), ai_ cy (rr 9) 12 (Mr 9), ai_ cy (rr 10) 12 (Mr 10), ai_ cy (rr 11) 12 (Mr 11), ai_ cy c4 40 f4, ai_ cy c5 40 f5, ai_ cy c6 40 f6, ai_ cy c7 12 f7, ai_ cy c8 12 f8, aq_ cy 3 xk 5 (kf_ k0 k1 k2 k3 k4), ob6_0_ k0, ob5_0_ k1, ob9_0_ k2, ob2_0_ k3, ob8_0_ k4] [0, 1, 2, 3, 4, 5, 6, 7, 8, 9, 10, 11, 12, 13, 14, 15, 16, 17, 18, 19, 20, 21, 22, 23, 24, 25, 26, 27, 28, 29, 30, 31, 32, 33, 34, 35, 36, 37, 38, 39, 40, 41, 42, 43, 44] (by decide +kernel) rfl (fun hPc hDw hFc hC_ => ?_)
              refine va_calli (va_runV (As := [.int a1, .int a2]) (rest := []) ⟨hx, hb, hml, hown, hts⟩ (c_X11_mostNow4 l D cy H.size xo xk xn xc xh xt xw xm xp pf ph tr fi n1 n2 n3 n4 n5 vp vn clo cro c4 c5 c6 c7 c8 fk fs fe fw fp rl Ml rr Mr f4 f5 f6 f7 f8 k0 k1 k2 k3 k4 a1 a2 (by first | with_reducible assumption | omega | assumption) (by first | with_reducible assumption | omega | assumption) (by first | with_reducible assumption | omega | assumption) (by first | with_reducible assumption | omega | assumption) (by first | with_reducible assumption | assumption | omega) (by first | with_reducible assumption | assumption | omega) (by first | with_reducible assumption | assumption | omega) (by first | with_reducible assumption | assumption | omega) (by first | with_reducible assumption | assumption | omega) (by first | with_reducible assumption | assumption | omega) (by first | with_reducible assumption | assumption | omega) (by first | with_reducible assumption | assumption | omega)) (cwV 2 hts gX11_flow_X11_mostNow rfl rfl rfl ⟨rfl, hd_X11_mostNow⟩ ⟨Nat.le_of_ble_eq_true rfl, Nat.le_of_ble_eq_true rfl⟩) ⟨bl_g, va_recvX hK.1 hP (ci := 11) (q0 := 0) rfl rfl, fun U hU hW => ⟨rfl, by rw [hU], by rw [hU]; exact hPc, ⟨kk_mv hW hK, arrOfT_moved hW.alike hG⟩, hDw⟩⟩ rfl rfl hl.1 rfl (lv_room (Nat.le_of_ble_eq_true rfl)) dB_36_2_35.1.2.2.2 ⟨Nat.le_of_ble_eq_true rfl, Nat.le_of_ble_eq_true rfl⟩) hS (fun q _ h => hFc q h) hFc (fun r_11 u t H locs ht hvm hw hB hz1 hk1 hS => ?_)
              obtain ⟨eu_, hw⟩ := hw
              have eu_ := eu_.symm
              subst eu_
              obtain ⟨eMl_12, eMr_13, e4_14, e5_15, e6_16, e7_17, e8_18, g_19, g_20, g_21, g_22, g_23, g_24, g_25, hP1, hD1⟩ := hB
              rw [ht] at hP1
              obtain ⟨hP, hD⟩ := va_join (wr := []) (w1 := [ob11_0_ xo xk xn xc xh xt xw xm xp pf ph tr fi, ob3_0_ xn vp vn n1 n2 n3 n4 n5, ai_ cy n1 40 fk, ai_ cy n2 40 fs, ai_ cy n3 40 fe, ai_ cy n4 40 fw, ai_ cy n5 40 fp, ob0_0_ xc xn xk clo cro c4 c5 c6 c7 c8, aq_ cy 6 clo 12 (gf_ rl), ai_ cy (rl 0) 12 (eMl_12 0), ai_ cy (rl 1) 12 (eMl_12 1), ai_ cy (rl 2) 12 (eMl_12 2), ai_ cy (rl 3) 12 (eMl_12 3), ai_ cy (rl 4) 12 (eMl_12 4), ai_ cy (rl 5) 12 (eMl_12 5), ai_ cy (rl 6) 12 (eMl_12 6), ai_ cy (rl 7) 12 (eMl_12 7), ai_ cy (rl 8) 12 (eMl_12 8), ai_ cy (rl 9) 12 (eMl_12 9), ai_ cy (rl 10) 12 (eMl_12 10), ai_ cy (rl 11) 12 (eMl_12 11), aq_ cy 6 cro 12 (gf_ rr), ai_ cy (rr 0) 12 (eMr_13 0), ai_ cy (rr 1) 12 (eMr_13 1), ai_ cy (rr 2) 12 (eMr_13 2), ai_ cy (rr 3) 12 (eMr_13 3), ai_ cy (rr 4) 12 (eMr_13 4), ai_ cy (rr 5) 12 (eMr_13 5), ai_ cy (rr 6) 12 (eMr_13 6), ai_ cy (rr 7) 12 (eMr_13 7), ai_ cy (rr 8) 12 (eMr_13 8), ai_ cy (rr 9) 12 (eMr_13 9), ai_ cy (rr 10) 12 (eMr_13 10), ai_ cy (rr 11) 12 (eMr_13 11), ai_ cy c4 40 e4_14, ai_ cy c5 40 e5_15, ai_ cy c6 40 e6_16, ai_ cy c7 12 e7_17, ai_ cy c8 12 e8_18, aq_ cy 3 xk 5 (kf_ k0 k1 k2 k3 k4), ob6_0_ k0, ob5_0_ k1, ob9_0_ k2, ob2_0_ k3, ob8_0_ k4]) hP hD [0, 1, 2, 3, 4, 5, 6, 7, 8, 9, 10, 11, 12, 13, 14, 15, 16, 17, 18, 19, 20, 21, 22, 23, 24, 25, 26, 27, 28, 29, 30, 31, 32, 33, 34, 35, 36, 37, 38, 39, 40, 41, 42, 43, 44] [] hC_ rfl (by decide) (by decide) hk1 hFc hP1 hD1
              refine pd_K [ob11_0_ xo xk xn xc xh xt xw xm xp pf ph tr fi, ob3_0_ xn vp vn n1 n2 n3 n4 n5, ai_ cy n1 40 fk, ai_ cy n2 40 fs, ai_ cy n3 40 fe, ai_ cy n4 40 fw, ai_ cy n5 40 fp, ob0_0_ xc xn xk clo cro c4 c5 c6 c7 c8, aq_ cy 6 clo 12 (gf_ rl), ai_ cy (rl 0) 12 (eMl_12 0), ai_ cy (rl 1) 12 (eMl_12 1), ai_ cy (rl 2) 12 (eMl_12 2), ai_ cy (rl 3) 12 (eMl_12 3), ai_ cy (rl 4) 12 (eMl_12 4), ai_ cy (rl 5) 12 (eMl_12 5), ai_ cy (rl 6) 12 (eMl_12 6), ai_ cy (rl 7) 12 (eMl_12 7), ai_ cy (rl 8) 12 (eMl_12 8), ai_ cy (rl 9) 12 (eMl_12 9), ai_ cy (rl 10) 12 (eMl_12 10), ai_ cy (rl 11) 12 (eMl_12 11), aq_ cy 6 cro 12 (gf_ rr), ai_ cy (rr 0) 12 (eMr_13 0), ai_ cy (rr 1) 12 (eMr_13 1), ai_ cy (rr 2) 12 (eMr_13 2), ai_ cy (rr 3) 12 (eMr_13 3), ai_ cy (rr 4) 12 (eMr_13 4), ai_ cy (rr 5) 12 (eMr_13 5), ai_ cy (rr 6) 12 (eMr_13 6), ai_ cy (rr 7) 12 (eMr_13 7), ai_ cy (rr 8) 12 (eMr_13 8), ai_ cy (rr 9) 12 (eMr_13 9), ai_ cy (rr 10) 12 (eMr_13 10), ai_ cy (rr 11) 12 (eMr_13 11), ai_ cy c4 40 e4_14, ai_ cy c5 40 e5_15, ai_ cy c6 40 e6_16, ai_ cy c7 12 e7_17, ai_ cy c8 12 e8_18, aq_ cy 3 xk 5 (kf_ k0 k1 k2 k3 k4), ob6_0_ k0, ob5_0_ k1, ob9_0_ k2, ob2_0_ k3, ob8_0_ k4] hP hD (fun hP hD => ?_)
              have f0_r_11 := hw
              have hmo_ := f0_r_11
              have hen_ := g_21
              refine lv_bipush (v := (-5)) hx hb dB_36_2_35.2.1.1.1 (by decide) ?_
              refine lv_icmp_ne (tgt := 55) hx hb dB_36_2_35.2.1.1.2 (by decide) (fun c_26 => ?_) (fun c_26 => ?_)
              · have t_26 : ¬ r_11.toInt = ((-5) : Int32).toInt := fun h => c_26 (Int32.toInt_inj.mp h)
                refine lv_aload_n hx hb dB_36_2_35.2.2.1.1 rfl (lv_at hl 0 rfl) ?_
                refine va_get (ci := 11) (v := .ref xc) (C := RX11) (T := TX11) (N := 12) hx hb hts (fun _ h => List.mem_cons_of_mem _ (List.mem_append_left _ (List.mem_append_left _ (List.mem_append_right _ h)))) hown hK.1 hP 0 rfl rfl 2 (by decide) (hts (.fieldLink RX11 40 "CutAtlas" "current" "LCutAtlas$Current;") (List.mem_of_getElem? (i := 3) rfl)) (fun _ h9 => h9) rfl dB_36_2_35.2.2.1.2 ?_
                refine va_get (ci := 0) (v := .ref c4) (C := RX0) (T := TX0) (N := 9) hx hb hts (fun _ h => List.mem_cons_of_mem _ (List.mem_append_left _ (List.mem_append_right _ h))) hown hK.1 hP 7 rfl rfl 4 (by decide) (hts (.fieldLink RX11 173 "CutAtlas$Current" "flowing" "[I") (List.mem_of_getElem? (i := 4) rfl)) (fun _ h9 => h9) rfl dB_36_2_35.2.2.2.1 ?_
                refine lv_iload_n hx hb dB_36_2_35.2.2.2.2 rfl (lv_at hl 3 rfl) ?_
                have h_27 : vp_in a3 40 := in_I (by first | with_reducible assumption | omega) (by omega)
                refine va_iald hx hb hK.1 hP 34 0 rfl rfl (i := a3) h_27 dB_36_2_36.1 ?_
                refine lv_topi (fun y_28 ey_28 => ?_)
                rw [hQ]
                exact W.iret (v := y_28) hx hb hr (fun t ht hW => ⟨⟨y_28, (), rfl, (by first | exact ⟨fun _ => flA_no hmo_ (by omega) (by decide), fun h => absurd (by first | (rw [gI_0 (by omega)]; unfold rsI; (repeat' (first | with_reducible refine if_n (by omega) ?_ | with_reducible refine if_ns (by omega) ?_ | with_reducible refine if_nz (by omega) ?_ | with_reducible exact if_p (by omega) (by omega) | with_reducible exact if_ps (by omega) (by omega) | with_reducible exact if_pz (by omega) (by omega))) <;> omega) | (rw [gI_1 (by omega)]; unfold rsI; (repeat' (first | with_reducible refine if_n (by omega) ?_ | with_reducible refine if_ns (by omega) ?_ | with_reducible refine if_nz (by omega) ?_ | with_reducible exact if_p (by omega) (by omega) | with_reducible exact if_ps (by omega) (by omega) | with_reducible exact if_pz (by omega) (by omega))) <;> omega) | (unfold rsI; (repeat' (first | with_reducible refine if_n (by omega) ?_ | with_reducible refine if_ns (by omega) ?_ | with_reducible refine if_nz (by omega) ?_ | with_reducible exact if_p (by omega) (by omega) | with_reducible exact if_ps (by omega) (by omega) | with_reducible exact if_pz (by omega) (by omega))) <;> omega)) h⟩ | exact ⟨fun _ => flA_yes hmo_ (by omega) (hen_ (by omega)) (by rw [ey_28]; rfl), fun h => absurd (by first | (rw [gI_0 (by omega)]; unfold rsI; (repeat' (first | with_reducible refine if_n (by omega) ?_ | with_reducible refine if_ns (by omega) ?_ | with_reducible refine if_nz (by omega) ?_ | with_reducible exact if_p (by omega) (by omega) | with_reducible exact if_ps (by omega) (by omega) | with_reducible exact if_pz (by omega) (by omega))) <;> omega) | (rw [gI_1 (by omega)]; unfold rsI; (repeat' (first | with_reducible refine if_n (by omega) ?_ | with_reducible refine if_ns (by omega) ?_ | with_reducible refine if_nz (by omega) ?_ | with_reducible exact if_p (by omega) (by omega) | with_reducible exact if_ps (by omega) (by omega) | with_reducible exact if_pz (by omega) (by omega))) <;> omega) | (unfold rsI; (repeat' (first | with_reducible refine if_n (by omega) ?_ | with_reducible refine if_ns (by omega) ?_ | with_reducible refine if_nz (by omega) ?_ | with_reducible exact if_p (by omega) (by omega) | with_reducible exact if_ps (by omega) (by omega) | with_reducible exact if_pz (by omega) (by omega))) <;> omega)) h⟩), eMl_12, eMr_13, e4_14, e5_15, e6_16, e7_17, e8_18, (by first | with_reducible assumption | assumption | exact rng_zero (by omega) (by omega) | omega), (by first | with_reducible assumption | assumption | exact rng_zero (by omega) (by omega) | omega), by rw [ht]; exact hP, hD⟩, hS.F ht⟩) hS.2.2 dB_36_2_36.2
              · have t_26 : r_11.toInt = ((-5) : Int32).toInt := congrArg Int32.toInt c_26
                refine lv_ldc (v := (-1000000)) hx hb hown (hts (.constant RX11 172 (-1000000)) (List.mem_of_getElem? (i := 2) rfl)) dB_36_2_35.2.1.2.1 ?_
                refine lv_goto (tgt := 64) hx hb dB_36_2_35.2.1.2.2 (by decide) ?_
                rw [hQ]
                exact W.iret (v := (-1000000)) hx hb hr (fun t ht hW => ⟨⟨(-1000000), (), rfl, (by first | exact ⟨fun _ => flA_no hmo_ (by omega) (by decide), fun h => absurd (by first | (rw [gI_0 (by omega)]; unfold rsI; (repeat' (first | with_reducible refine if_n (by omega) ?_ | with_reducible refine if_ns (by omega) ?_ | with_reducible refine if_nz (by omega) ?_ | with_reducible exact if_p (by omega) (by omega) | with_reducible exact if_ps (by omega) (by omega) | with_reducible exact if_pz (by omega) (by omega))) <;> omega) | (rw [gI_1 (by omega)]; unfold rsI; (repeat' (first | with_reducible refine if_n (by omega) ?_ | with_reducible refine if_ns (by omega) ?_ | with_reducible refine if_nz (by omega) ?_ | with_reducible exact if_p (by omega) (by omega) | with_reducible exact if_ps (by omega) (by omega) | with_reducible exact if_pz (by omega) (by omega))) <;> omega) | (unfold rsI; (repeat' (first | with_reducible refine if_n (by omega) ?_ | with_reducible refine if_ns (by omega) ?_ | with_reducible refine if_nz (by omega) ?_ | with_reducible exact if_p (by omega) (by omega) | with_reducible exact if_ps (by omega) (by omega) | with_reducible exact if_pz (by omega) (by omega))) <;> omega)) h⟩ | exact ⟨fun _ => flA_yes hmo_ (by omega) (hen_ (by omega)) (by rw [e_lit]; rfl), fun h => absurd (by first | (rw [gI_0 (by omega)]; unfold rsI; (repeat' (first | with_reducible refine if_n (by omega) ?_ | with_reducible refine if_ns (by omega) ?_ | with_reducible refine if_nz (by omega) ?_ | with_reducible exact if_p (by omega) (by omega) | with_reducible exact if_ps (by omega) (by omega) | with_reducible exact if_pz (by omega) (by omega))) <;> omega) | (rw [gI_1 (by omega)]; unfold rsI; (repeat' (first | with_reducible refine if_n (by omega) ?_ | with_reducible refine if_ns (by omega) ?_ | with_reducible refine if_nz (by omega) ?_ | with_reducible exact if_p (by omega) (by omega) | with_reducible exact if_ps (by omega) (by omega) | with_reducible exact if_pz (by omega) (by omega))) <;> omega) | (unfold rsI; (repeat' (first | with_reducible refine if_n (by omega) ?_ | with_reducible refine if_ns (by omega) ?_ | with_reducible refine if_nz (by omega) ?_ | with_reducible exact if_p (by omega) (by omega) | with_reducible exact if_ps (by omega) (by omega) | with_reducible exact if_pz (by omega) (by omega))) <;> omega)) h⟩), eMl_12, eMr_13, e4_14, e5_15, e6_16, e7_17, e8_18, (by first | with_reducible assumption | assumption | exact rng_zero (by omega) (by omega) | omega), (by first | with_reducible assumption | assumption | exact rng_zero (by omega) (by omega) | omega), by rw [ht]; exact hP, hD⟩, hS.F ht⟩) hS.2.2 dB_36_2_36.2
            · exact absurd c_10 (by decide)
      · have e_ := e_.symm
        subst e_
        refine lv_if_eq (tgt := 36) hx hb dB_36_2_34.2.2.1.1 (by decide) (fun c_29 => ?_) (fun c_29 => ?_)
        · have _ := c_29
          refine lv_ldc (v := (-1000000)) hx hb hown (hts (.constant RX11 172 (-1000000)) (List.mem_of_getElem? (i := 2) rfl)) dB_36_2_35.1.1.2.1 ?_
          rw [hQ]
          exact W.iret (v := (-1000000)) hx hb hr (fun t ht hW => ⟨⟨(-1000000), (), rfl, (⟨fun h => absurd h (by first | (rw [gI_0 (by omega)]; unfold rsI; (repeat' (first | with_reducible refine if_n (by omega) ?_ | with_reducible refine if_ns (by omega) ?_ | with_reducible refine if_nz (by omega) ?_ | with_reducible exact if_p (by omega) (by omega) | with_reducible exact if_ps (by omega) (by omega) | with_reducible exact if_pz (by omega) (by omega))) <;> omega) | (rw [gI_1 (by omega)]; unfold rsI; (repeat' (first | with_reducible refine if_n (by omega) ?_ | with_reducible refine if_ns (by omega) ?_ | with_reducible refine if_nz (by omega) ?_ | with_reducible exact if_p (by omega) (by omega) | with_reducible exact if_ps (by omega) (by omega) | with_reducible exact if_pz (by omega) (by omega))) <;> omega) | (unfold rsI; (repeat' (first | with_reducible refine if_n (by omega) ?_ | with_reducible refine if_ns (by omega) ?_ | with_reducible refine if_nz (by omega) ?_ | with_reducible exact if_p (by omega) (by omega) | with_reducible exact if_ps (by omega) (by omega) | with_reducible exact if_pz (by omega) (by omega))) <;> omega)), fun _ => by decide⟩), Ml, Mr, f4, f5, f6, f7, f8, (by first | with_reducible assumption | assumption | exact rng_zero (by omega) (by omega) | omega), (by first | with_reducible assumption | assumption | exact rng_zero (by omega) (by omega) | omega), by rw [ht]; exact hP, hD⟩, hS.F ht⟩) hS.2.2 dB_36_2_35.1.1.2.2
        · exact absurd c_29 (by decide)
  · have e_ := e_.symm
    subst e_
    refine lv_if_eq (tgt := 36) hx hb dB_36_2_34.1.2.2.2 (by decide) (fun c_30 => ?_) (fun c_30 => ?_)
    · have _ := c_30
      refine lv_ldc (v := (-1000000)) hx hb hown (hts (.constant RX11 172 (-1000000)) (List.mem_of_getElem? (i := 2) rfl)) dB_36_2_35.1.1.2.1 ?_
      rw [hQ]
      exact W.iret (v := (-1000000)) hx hb hr (fun t ht hW => ⟨⟨(-1000000), (), rfl, (⟨fun h => absurd h (by first | (rw [gI_0 (by omega)]; unfold rsI; (repeat' (first | with_reducible refine if_n (by omega) ?_ | with_reducible refine if_ns (by omega) ?_ | with_reducible refine if_nz (by omega) ?_ | with_reducible exact if_p (by omega) (by omega) | with_reducible exact if_ps (by omega) (by omega) | with_reducible exact if_pz (by omega) (by omega))) <;> omega) | (rw [gI_1 (by omega)]; unfold rsI; (repeat' (first | with_reducible refine if_n (by omega) ?_ | with_reducible refine if_ns (by omega) ?_ | with_reducible refine if_nz (by omega) ?_ | with_reducible exact if_p (by omega) (by omega) | with_reducible exact if_ps (by omega) (by omega) | with_reducible exact if_pz (by omega) (by omega))) <;> omega) | (unfold rsI; (repeat' (first | with_reducible refine if_n (by omega) ?_ | with_reducible refine if_ns (by omega) ?_ | with_reducible refine if_nz (by omega) ?_ | with_reducible exact if_p (by omega) (by omega) | with_reducible exact if_ps (by omega) (by omega) | with_reducible exact if_pz (by omega) (by omega))) <;> omega)), fun _ => by decide⟩), Ml, Mr, f4, f5, f6, f7, f8, (by first | with_reducible assumption | assumption | exact rng_zero (by omega) (by omega) | omega), (by first | with_reducible assumption | assumption | exact rng_zero (by omega) (by omega) | omega), by rw [ht]; exact hP, hD⟩, hS.F ht⟩) hS.2.2 dB_36_2_35.1.1.2.2
    · exact absurd c_30 (by decide)
end

section
set_option maxHeartbeats 4000000 in
set_option maxRecDepth 100000 in
theorem c_X12_flowOf3 (l : Launch) (D : va_G) (cy : Nat → ClassId) (sz : Nat) (mo : Nat) (g5 : Nat) (g6 : Nat) (g7 : Nat) (g8 : Nat) (g9 : Nat) (g10 : Nat) (g12 : Nat) (g13 : Nat) (g14 : Nat) (g15 : Nat) (g16 : Nat) (g17 : Nat) (g18 : Nat) (g19 : Nat) (g20 : Nat) (g22 : Nat) (g23 : Nat) (g24 : Nat) (g29 : Nat) (g30 : Nat) (g31 : Nat) (g32 : Nat) (g33 : Nat) (s0 : Int32) (s1 : Int32) (s3 : Int32) (s4 : Int32) (s11 : Int32) (s21 : Int32) (s25 : Int32) (s26 : Int32) (s27 : Int32) (s28 : Int32) (t2 : Int64) (f5 : Nat → Int32) (f6 : Nat → Int32) (f7 : Nat → Int32) (f8 : Nat → Int32) (f10 : Nat → Int32) (f22 : Nat → Int32) (f23 : Nat → Int32) (f24 : Nat → Int32) (a1 : Int32) (a2 : Int32) (hN : 0 ≤ s4.toInt ∧ s4.toInt ≤ 40) (hPl : 0 ≤ s3.toInt ∧ s3.toInt ≤ 12) (h21 : s21.toInt = -9) (q1 : 0 ≤ a1.toInt ∧ a1.toInt < s3.toInt) (q2 : 0 ≤ a2.toInt ∧ a2.toInt < s3.toInt) (qd : a1.toInt ≠ a2.toInt) (r_f6 : rng f6 40 (0) (11)) (r_f7 : rng f7 40 (0) (11)) (r_f8 : rng f8 40 (0) (2000)) (r_f23 : rng f23 12 (0) (11)) (r_f24 : rng f24 12 (0) (11)) : Met l yX12_flowOf wsX12_flowOf ({ frames := 5, cells := 0, slots := 0, locals := 118 }) (va_Pc [.ref mo, .int a1, .int a2] (fun U => U.heap.size = sz ∧ va_P D vwCl [ob12_0_ mo s0 s1 t2 s3 s4 g5 g6 g7 g8 g9 g10 s11 g12 g13 g14 g15 g16 g17 g18 g19 g20 s21 g22 g23 g24 s25 s26 s27 s28 g29 g30 g31 g32 g33, ai_ cy g5 40 f5, ai_ cy g6 40 f6, ai_ cy g7 40 f7, ai_ cy g8 40 f8, az_ cy g10 40 f10, ai_ cy g22 40 f22, ai_ cy g23 12 f23, ai_ cy g24 12 f24] U.heap ∧ kk_ D cy U ∧ va_D (fun _ => True) [ob12_0_ mo s0 s1 t2 s3 s4 g5 g6 g7 g8 g9 g10 s11 g12 g13 g14 g15 g16 g17 g18 g19 g20 s21 g22 g23 g24 s25 s26 s27 s28 g29 g30 g31 g32 g33, ai_ cy g5 40 f5, ai_ cy g6 40 f6, ai_ cy g7 40 f7, ai_ cy g8 40 f8, az_ cy g10 40 f10, ai_ cy g22 40 f22, ai_ cy g23 12 f23, ai_ cy g24 12 f24])) (va_Qv (fun (_ : Unit) => True) (fun (_ : Unit) (t : State) => ∃ (e22 : Nat → Int32), ∃ (e23 : Nat → Int32), ∃ (e24 : Nat → Int32), (enF (fun l => rmI (f5 l) (f8 l) 1) (fun l => rmI (f5 l) (f8 l) 0) (gN s4.toNatClampNeg (kF f10)) (nF f6) (nF f7) s4.toNatClampNeg s3.toNatClampNeg a1.toNatClampNeg a2.toNatClampNeg (kF e22)) ∧ (rng e23 12 (0) (11)) ∧ (rng e24 12 (0) (11)) ∧ va_P D vwCl [ob12_0_ mo s0 s1 t2 s3 s4 g5 g6 g7 g8 g9 g10 s11 g12 g13 g14 g15 g16 g17 g18 g19 g20 s21 g22 g23 g24 s25 s26 s27 s28 g29 g30 g31 g32 g33, ai_ cy g5 40 f5, ai_ cy g6 40 f6, ai_ cy g7 40 f7, ai_ cy g8 40 f8, az_ cy g10 40 f10, ai_ cy g22 40 e22, ai_ cy g23 12 e23, ai_ cy g24 12 e24] t.heap ∧ va_D (va_A [ob12_0_ mo s0 s1 t2 s3 s4 g5 g6 g7 g8 g9 g10 s11 g12 g13 g14 g15 g16 g17 g18 g19 g20 s21 g22 g23 g24 s25 s26 s27 s28 g29 g30 g31 g32 g33, ai_ cy g5 40 f5, ai_ cy g6 40 f6, ai_ cy g7 40 f7, ai_ cy g8 40 f8, az_ cy g10 40 f10, ai_ cy g22 40 f22, ai_ cy g23 12 f23, ai_ cy g24 12 f24] sz) [ob12_0_ mo s0 s1 t2 s3 s4 g5 g6 g7 g8 g9 g10 s11 g12 g13 g14 g15 g16 g17 g18 g19 g20 s21 g22 g23 g24 s25 s26 s27 s28 g29 g30 g31 g32 g33, ai_ cy g5 40 f5, ai_ cy g6 40 f6, ai_ cy g7 40 f7, ai_ cy g8 40 f8, az_ cy g10 40 f10, ai_ cy g22 40 e22, ai_ cy g23 12 e23, ai_ cy g24 12 e24]) (va_A [ob12_0_ mo s0 s1 t2 s3 s4 g5 g6 g7 g8 g9 g10 s11 g12 g13 g14 g15 g16 g17 g18 g19 g20 s21 g22 g23 g24 s25 s26 s27 s28 g29 g30 g31 g32 g33, ai_ cy g5 40 f5, ai_ cy g6 40 f6, ai_ cy g7 40 f7, ai_ cy g8 40 f8, az_ cy g10 40 f10, ai_ cy g22 40 f22, ai_ cy g23 12 f23, ai_ cy g24 12 f24] sz)) 0 0 (va_A [ob12_0_ mo s0 s1 t2 s3 s4 g5 g6 g7 g8 g9 g10 s11 g12 g13 g14 g15 g16 g17 g18 g19 g20 s21 g22 g23 g24 s25 s26 s27 s28 g29 g30 g31 g32 g33, ai_ cy g5 40 f5, ai_ cy g6 40 f6, ai_ cy g7 40 f7, ai_ cy g8 40 f8, az_ cy g10 40 f10, ai_ cy g22 40 f22, ai_ cy g23 12 f23, ai_ cy g24 12 f24] sz) := by
  refine ofQ (cc := cX12_flowOf) (maxL := 9) (ret := none) (by decide) rfl ?_
  intro p e s m args below meth c s₁ Q hQ B hml hv
  obtain ⟨rfl, hsz, hP, hK, hD0⟩ := hv
  have hx := B.exec
  have hb := B.bytes
  have hr := B.returns
  have hts := atoms_spec (ws := wsX12_flowOf) B.pre
  have hown : s.vm.findClass RX12 = some m.cls := by have h_ := findClass_of_methodNamed B.named; exact h_
  have hlocks := B.notSynchronized
  subst hsz
  have hD := hD0.self (sz := s.heap.size)
  generalize hAe : va_A [ob12_0_ mo s0 s1 t2 s3 s4 g5 g6 g7 g8 g9 g10 s11 g12 g13 g14 g15 g16 g17 g18 g19 g20 s21 g22 g23 g24 s25 s26 s27 s28 g29 g30 g31 g32 g33, ai_ cy g5 40 f5, ai_ cy g6 40 f6, ai_ cy g7 40 f7, ai_ cy g8 40 f8, az_ cy g10 40 f10, ai_ cy g22 40 f22, ai_ cy g23 12 f23, ai_ cy g24 12 f24] s.heap.size = A at hD hQ
  have hA : ∀ q : Nat, s.heap.size ≤ q → A q := fun q h => by rw [← hAe]; exact Or.inr h
  have hS : va_S A s.heap s.heap [] := va_S.rf
  have hl := lv_entry ([.ref mo, .int a1, .int a2]) (n := 9) (Nat.le_of_ble_eq_true rfl)
  rw [lg_entry_eq]
  generalize (lg_sl ([.ref mo, .int a1, .int a2]) ++ List.replicate (9 - (lg_sl ([.ref mo, .int a1, .int a2])).length) Slot.unset).toArray = ls at hl ⊢
  have hl : lv_has ls 9 [(0, .ref mo), (1, .int a1), (2, .int a2)] := hl
  have z0 : (0 : Int32).toInt = 0 := by decide
  have z1 : (1 : Int32).toInt = 1 := by decide
  have z40 : (40 : Int32).toInt = 40 := by decide
  have z2147483647 : (2147483647 : Int32).toInt = 2147483647 := by decide
  have cN := clI (i := s4) (by omega)
  have hsP_ : a1.toNatClampNeg < s3.toNatClampNeg := nc_lt (by omega) (by omega)
  refine lv_iconst (v := 0) hx hb dB_3_1_22.1.1.1.1 (by decide) ?_
  refine lv_istore_n (lv' := [(3, .int 0), (0, .ref mo), (1, .int a1), (2, .int a2)]) hx hb dB_3_1_22.1.1.1.2 rfl hl (by decide) rfl (fun ls hl => ?_)
  suffices LOOP_1 : ∀ (n_1 : Nat) (x3_1 : Int32) (c_g22_1 : Nat → Int32) (H : Heap) (locs : List Loc) (ls : Array Slot), 40 - x3_1.toInt < (n_1 : Int) → (0 ≤ x3_1.toInt) → (x3_1.toInt ≤ 40) → (∀ j : Nat, (j : Int) < x3_1.toInt → (c_g22_1 j).toInt = 0) → pd_2 D vwCl A [ob12_0_ mo s0 s1 t2 s3 s4 g5 g6 g7 g8 g9 g10 s11 g12 g13 g14 g15 g16 g17 g18 g19 g20 s21 g22 g23 g24 s25 s26 s27 s28 g29 g30 g31 g32 g33, ai_ cy g5 40 f5, ai_ cy g6 40 f6, ai_ cy g7 40 f7, ai_ cy g8 40 f8, az_ cy g10 40 f10, ai_ cy g22 40 c_g22_1, ai_ cy g23 12 f23, ai_ cy g24 12 f24] H → va_S A s.heap H locs → lv_has ls 9 [(3, .int x3_1), (0, .ref mo), (1, .int a1), (2, .int a2)] → W p l e ({ frames := 5, cells := 0, slots := 0, locals := 118 } : Room) s m (([.ref mo, .int a1, .int a2] : List Value).toArray) below meth c H locs 0 0 Q (F0 m 2 ls []) from LOOP_1 ((40 - (0 : Int32).toInt).toNat + 1) (0 : Int32) f22 _ _ _ (by omega) (by first | with_reducible assumption | omega | assumption) (by first | with_reducible assumption | omega | assumption) (by first | exact zero_st (by assumption) (by assumption) (by omega) (by omega) | (intro j hj; omega)) ⟨hP, hD⟩ hS (lv_sub hl [0, 1, 2, 3] rfl)
  intro n_1
  induction n_1 with
  | zero =>
    intro x3_1 c_g22_1 H locs ls hm v0_1 v1_1 v2_1 hPD hS hl; obtain ⟨hP, hD⟩ := hPD
    exact absurd hm (by omega)
  | succ n_1 ih_1 =>
    intro x3_1 c_g22_1 H locs ls hm v0_1 v1_1 v2_1 hPD hS hl; obtain ⟨hP, hD⟩ := hPD
    refine lv_iload_n hx hb dB_3_1_22.1.1.2.1 rfl (lv_at hl 0 rfl) ?_
    refine lv_bipush (v := 40) hx hb dB_3_1_22.1.1.2.2 (by decide) ?_
    refine lv_icmp_ge (tgt := 21) hx hb dB_3_1_22.1.2.1.1 (by decide) (fun c_2 => ?_) (fun c_2 => ?_)
    · have t_2 : (40 : Int32).toInt ≤ x3_1.toInt := Int32.le_iff_toInt_le.mp c_2
      have hz0_ : ∀ l : Nat, l < s4.toNatClampNeg → kF c_g22_1 l = 0 := fun l hl => v2_1 l (by omega)
      have hz_ : flOK f5 f8 c_g22_1 := flOK_zero r_f8 (fun j hj => v2_1 j (by omega))
      suffices LOOP_3 : ∀ (n_3 : Nat) (c_g22_3 : Nat → Int32) (c_g23_3 : Nat → Int32) (c_g24_3 : Nat → Int32) (H : Heap) (locs : List Loc) (ls : Array Slot), phi f5 f6 f7 f8 f10 c_g22_3 a1.toInt s4.toNatClampNeg < (n_3 : Int) → (flOK f5 f8 c_g22_3) → (0 ≤ phi f5 f6 f7 f8 f10 c_g22_3 a1.toInt s4.toNatClampNeg) → (∃ k_ : Nat, chF (fun l => rmI (f5 l) (f8 l) 1) (fun l => rmI (f5 l) (f8 l) 0) (gN s4.toNatClampNeg (kF f10)) (nF f6) (nF f7) s4.toNatClampNeg s3.toNatClampNeg a1.toNatClampNeg a2.toNatClampNeg k_ (kF c_g22_3)) → (rng c_g23_3 12 (0) (11)) → (rng c_g24_3 12 (0) (11)) → pd_2 D vwCl A [ob12_0_ mo s0 s1 t2 s3 s4 g5 g6 g7 g8 g9 g10 s11 g12 g13 g14 g15 g16 g17 g18 g19 g20 s21 g22 g23 g24 s25 s26 s27 s28 g29 g30 g31 g32 g33, ai_ cy g5 40 f5, ai_ cy g6 40 f6, ai_ cy g7 40 f7, ai_ cy g8 40 f8, az_ cy g10 40 f10, ai_ cy g22 40 c_g22_3, ai_ cy g23 12 c_g23_3, ai_ cy g24 12 c_g24_3] H → va_S A s.heap H locs → lv_has ls 9 [(0, .ref mo), (1, .int a1), (2, .int a2)] → W p l e ({ frames := 5, cells := 0, slots := 0, locals := 118 } : Room) s m (([.ref mo, .int a1, .int a2] : List Value).toArray) below meth c H locs 0 0 Q (F0 m 21 ls []) from LOOP_3 ((phi f5 f6 f7 f8 f10 c_g22_1 a1.toInt s4.toNatClampNeg).toNat + 1) c_g22_1 f23 f24 _ _ _ (by omega) (by first | with_reducible assumption | assumption | omega) (phi_nonneg (by assumption) r_f8 (by omega)) (by first | exact ⟨0, chF.zero hz0_⟩ | (obtain ⟨k_, hk_⟩ := v_none; exact ⟨k_ + 1, ch_way (M := (rmF (fun l => rmI (f5 l) (f8 l) 1) (fun l => rmI (f5 l) (f8 l) 0) (gN s4.toNatClampNeg (kF f10)) (nF f6) (nF f7) s4.toNatClampNeg (kF S[c]))) hk_ (fun _ _ _ _ => rfl) hsP_ hfd_ (wyF_mk hle_ hwe_)⟩)) (by first | with_reducible assumption | assumption | exact rng_zero (by omega) (by omega) | exact orng_zero) (by first | with_reducible assumption | assumption | exact rng_zero (by omega) (by omega) | exact orng_zero) ⟨hP, hD⟩ hS (lv_sub hl [1, 2, 3] rfl)
      intro n_3
      induction n_3 with
      | zero =>
        intro c_g22_3 c_g23_3 c_g24_3 H locs ls hm v0_3 v1_3 v2_3 rc_g23_3 rc_g24_3 hPD hS hl; obtain ⟨hP, hD⟩ := hPD
        exact absurd hm (by omega)
      | succ n_3 ih_3 =>
        intro c_g22_3 c_g23_3 c_g24_3 H locs ls hm v0_3 v1_3 v2_3 rc_g23_3 rc_g24_3 hPD hS hl; obtain ⟨hP, hD⟩ := hPD
        refine lv_aload_n hx hb dB_3_1_22.2.2.1.1 rfl (lv_at hl 0 rfl) ?_
        refine lv_iload_n hx hb dB_3_1_22.2.2.1.2 rfl (lv_at hl 1 rfl) ?_
        refine lv_iload_n hx hb dB_3_1_22.2.2.2.1 rfl (lv_at hl 2 rfl) ?_
        refine ct_S hP hD hS hA [ob12_0_ mo s0 s1 t2 s3 s4 g5 g6 g7 g8 g9 g10 s11 g12 g13 g14 g15 g16 g17 g18 g19 g20 s21 g22 g23 g24 s25 s26 s27 s28 g29 g30 g31 g32 g33, ai_ cy g5 40 f5, ai_ cy g6 40 f6, ai_ cy g7 40 f7, ai_ cy g8 40 f8, az_ cy g10 40 f10, ai_ cy g22 40 c_g22_3, ai_ cy g23 12 c_g23_3, ai_ cy g24 12 c_g24_3] [0, 1, 2, 3, 4, 5, 6, 7, 8] (by decide) rfl (fun hPc hDw hFc hC_ => ?_)
        refine va_calli (va_runV (As := [.int a1, .int a2]) (rest := []) ⟨hx, hb, hml, hown, hts⟩ (c_X12_hasWay3 l D cy H.size mo g5 g6 g7 g8 g9 g10 g12 g13 g14 g15 g16 g17 g18 g19 g20 g22 g23 g24 g29 g30 g31 g32 g33 s0 s1 s3 s4 s11 s21 s25 s26 s27 s28 t2 f5 f6 f7 f8 f10 c_g22_3 c_g23_3 c_g24_3 a1 a2 (by first | with_reducible assumption | omega | assumption) (by first | with_reducible assumption | omega | assumption) (by first | with_reducible assumption | omega | assumption) (by first | with_reducible assumption | assumption | omega) (by first | with_reducible assumption | omega | assumption) (by first | with_reducible assumption | omega | assumption) (by first | with_reducible assumption | assumption | omega) (by first | with_reducible assumption | assumption | omega) (by first | with_reducible assumption | assumption | omega)) (cwV 2 hts gX12_flowOf_X12_hasWay rfl rfl rfl ⟨rfl, hd_X12_hasWay⟩ ⟨Nat.le_of_ble_eq_true rfl, Nat.le_of_ble_eq_true rfl⟩) ⟨bl_, va_recvX hK.1 hP (ci := 12) (q0 := 0) rfl rfl, fun U hU hW => ⟨rfl, by rw [hU], by rw [hU]; exact hPc, kk_mv hW hK, hDw⟩⟩ rfl rfl hl.1 rfl (lv_room (Nat.le_of_ble_eq_true rfl)) dB_3_1_22.2.2.2.2 ⟨Nat.le_of_ble_eq_true rfl, Nat.le_of_ble_eq_true rfl⟩) hS (fun q _ h => hFc q h) hFc (fun r_4 u t H locs ht hvm hw hB hz1 hk1 hS => ?_)
        obtain ⟨eu_, hw⟩ := hw
        subst eu_
        obtain ⟨e23_5, e24_6, g_7, g_8, g_9, g_10, g_11, hP1, hD1⟩ := hB
        rw [ht] at hP1
        obtain ⟨hP, hD⟩ := va_join (wr := []) (w1 := [ob12_0_ mo s0 s1 t2 s3 s4 g5 g6 g7 g8 g9 g10 s11 g12 g13 g14 g15 g16 g17 g18 g19 g20 s21 g22 g23 g24 s25 s26 s27 s28 g29 g30 g31 g32 g33, ai_ cy g5 40 f5, ai_ cy g6 40 f6, ai_ cy g7 40 f7, ai_ cy g8 40 f8, az_ cy g10 40 f10, ai_ cy g22 40 c_g22_3, ai_ cy g23 12 e23_5, ai_ cy g24 12 e24_6]) hP hD [0, 1, 2, 3, 4, 5, 6, 7, 8] [] hC_ rfl (by decide) (by decide) hk1 hFc hP1 hD1
        refine pd_K [ob12_0_ mo s0 s1 t2 s3 s4 g5 g6 g7 g8 g9 g10 s11 g12 g13 g14 g15 g16 g17 g18 g19 g20 s21 g22 g23 g24 s25 s26 s27 s28 g29 g30 g31 g32 g33, ai_ cy g5 40 f5, ai_ cy g6 40 f6, ai_ cy g7 40 f7, ai_ cy g8 40 f8, az_ cy g10 40 f10, ai_ cy g22 40 c_g22_3, ai_ cy g23 12 e23_5, ai_ cy g24 12 e24_6] hP hD (fun hP hD => ?_)
        rcases hw with ⟨w_12, e_⟩ | ⟨w_12, e_⟩
        · have e_ := e_.symm
          subst e_
          refine lv_if_eq (tgt := 260) hx hb dB_3_1_23.1.1.1.1 (by decide) (fun c_13 => ?_) (fun c_13 => ?_)
          · have _ := c_13
            rw [hQ]
            exact W.vret hx hb hr (fun t ht hW => ⟨⟨(), rfl, trivial, c_g22_3, e23_5, e24_6, (⟨v2_3, by have h_ := g_9 rfl; rw [rf_eq r_f6 r_f7 hN] at h_; exact h_⟩), (by assumption), (by assumption), by rw [ht]; exact hP, hD⟩, hS.F ht⟩) hS.2.2 dB_3_1_30.2.2.2
          · exact absurd c_13 (by decide)
        · have e_ := e_.symm
          subst e_
          refine lv_if_eq (tgt := 260) hx hb dB_3_1_23.1.1.1.1 (by decide) (fun c_14 => ?_) (fun c_14 => ?_)
          · exact absurd c_14 (by decide)
          · have _ := c_14
            obtain ⟨n_, hb_, ht_⟩ := g_7 rfl
            have hfd_ := g_8 rfl
            rw [rf_eq r_f6 r_f7 hN] at hfd_
            refine lv_ldc (v := 2147483647) hx hb hown (hts (.constant RX12 186 (2147483647)) (List.mem_of_getElem? (i := 2) rfl)) dB_3_1_23.1.1.1.2 ?_
            refine lv_istore_n (lv' := [(3, .int 2147483647), (0, .ref mo), (1, .int a1), (2, .int a2)]) hx hb dB_3_1_23.1.1.2.1 rfl hl (by decide) rfl (fun ls hl => ?_)
            refine lv_iload_n hx hb dB_3_1_23.1.1.2.2 rfl (lv_at hl 3 rfl) ?_
            refine lv_istore (lv' := [(4, .int a2), (3, .int 2147483647), (0, .ref mo), (1, .int a1), (2, .int a2)]) hx hb dB_3_1_23.1.2.1.1 hl (by decide) rfl (fun ls hl => ?_)
            suffices LOOP_15 : ∀ (n_15 : Nat) (x4_15 : Int32) (x3_15 : Int32) (j_15 : Nat) (i_15 : Nat) (H : Heap) (locs : List Loc) (ls : Array Slot), (j_15 : Int) < (n_15 : Int) → (j_15 < n_ + 1) → (x4_15 = e23_5 j_15) → (0 < x3_15.toInt) → (lwI (rmF (fun l => rmI (f5 l) (f8 l) 1) (fun l => rmI (f5 l) (f8 l) 0) (gN s4.toNatClampNeg (kF f10)) (nF f6) (nF f7) s4.toNatClampNeg (kF c_g22_3)) (nF e24_6) a1.toNatClampNeg a2.toNatClampNeg i_15 x4_15.toNatClampNeg x3_15.toInt) → pd_2 D vwCl A [ob12_0_ mo s0 s1 t2 s3 s4 g5 g6 g7 g8 g9 g10 s11 g12 g13 g14 g15 g16 g17 g18 g19 g20 s21 g22 g23 g24 s25 s26 s27 s28 g29 g30 g31 g32 g33, ai_ cy g5 40 f5, ai_ cy g6 40 f6, ai_ cy g7 40 f7, ai_ cy g8 40 f8, az_ cy g10 40 f10, ai_ cy g22 40 c_g22_3, ai_ cy g23 12 e23_5, ai_ cy g24 12 e24_6] H → va_S A s.heap H locs → lv_has ls 9 [(4, .int x4_15), (3, .int x3_15), (0, .ref mo), (1, .int a1), (2, .int a2)] → W p l e ({ frames := 5, cells := 0, slots := 0, locals := 118 } : Room) s m (([.ref mo, .int a1, .int a2] : List Value).toArray) below meth c H locs 0 0 Q (F0 m 36 ls []) from LOOP_15 ((((n_) : Int)).toNat + 1) a2 (2147483647 : Int32) n_ 0 _ _ _ (by omega) (by first | with_reducible assumption | omega | assumption) (by first | with_reducible assumption | assumption | exact ht_.symm) (by first | with_reducible assumption | omega | assumption) (by first | exact lwI_0n (by decide) | (rw [show a2.toNatClampNeg = nF e24_6 S[y].toNatClampNeg by rw [S[ex]]; rfl]; exact lwI_s v_none hyn_ rfl (by omega) (by omega) (by omega) (by omega))) ⟨hP, hD⟩ hS (lv_sub hl [0, 1, 2, 3, 4] rfl)
            intro n_15
            induction n_15 with
            | zero =>
              intro x4_15 x3_15 j_15 i_15 H locs ls hm v0_15 v1_15 v2_15 v3_15 hPD hS hl; obtain ⟨hP, hD⟩ := hPD
              exact absurd hm (by omega)
            | succ n_15 ih_15 =>
              intro x4_15 x3_15 j_15 i_15 H locs ls hm v0_15 v1_15 v2_15 v3_15 hPD hS hl; obtain ⟨hP, hD⟩ := hPD
              refine lv_iload hx hb dB_3_1_23.1.2.1.2 (lv_at hl 0 rfl) ?_
              refine lv_iload_n hx hb dB_3_1_23.1.2.2.1 rfl (lv_at hl 3 rfl) ?_
              refine lv_icmp_eq (tgt := 82) hx hb dB_3_1_23.1.2.2.2 (by decide) (fun c_16 => ?_) (fun c_16 => ?_)
              · have t_16 : x4_15.toInt = a1.toInt := congrArg Int32.toInt c_16
                have hle_ := lwI_end v3_15 (nc_eq (x := x4_15) (y := a1) (by omega)) (nc_ne (x := a2) (y := a1) (by omega) (by omega) (by omega))
                refine lv_iload_n hx hb dB_3_1_24.2.2.1.2 rfl (lv_at hl 4 rfl) ?_
                refine lv_istore (lv' := [(4, .int a2), (3, .int x3_15), (0, .ref mo), (1, .int a1), (2, .int a2)]) hx hb dB_3_1_24.2.2.2.1 hl (by decide) rfl (fun ls hl => ?_)
                suffices LOOP_17 : ∀ (n_17 : Nat) (x4_17 : Int32) (j2_17 : Nat) (k2_17 : Nat) (c_g22_17 : Nat → Int32) (H : Heap) (locs : List Loc) (ls : Array Slot), (j2_17 : Int) < (n_17 : Int) → (j2_17 < n_ + 1) → (x4_17 = e23_5 j2_17) → (flOK f5 f8 c_g22_17) → (phi f5 f6 f7 f8 f10 c_g22_17 a1.toInt s4.toNatClampNeg ≤ phi f5 f6 f7 f8 f10 c_g22_3 a1.toInt s4.toNatClampNeg) → (x4_17.toInt = a1.toInt → phi f5 f6 f7 f8 f10 c_g22_17 a1.toInt s4.toNatClampNeg < phi f5 f6 f7 f8 f10 c_g22_3 a1.toInt s4.toNatClampNeg) → (x4_17.toInt ≠ a1.toInt → ∀ j : Nat, ((f6 j).toInt = a1.toInt ∨ (f7 j).toInt = a1.toInt) → c_g22_17 j = c_g22_3 j) → (swI (fun l => rmI (f5 l) (f8 l) 1) (fun l => rmI (f5 l) (f8 l) 0) (gN s4.toNatClampNeg (kF f10)) (nF f6) (nF f7) s4.toNatClampNeg (nF e24_6) a1.toNatClampNeg a2.toNatClampNeg x3_15.toInt (kF c_g22_3) (kF c_g22_17) k2_17 x4_17.toNatClampNeg) → pd_2 D vwCl A [ob12_0_ mo s0 s1 t2 s3 s4 g5 g6 g7 g8 g9 g10 s11 g12 g13 g14 g15 g16 g17 g18 g19 g20 s21 g22 g23 g24 s25 s26 s27 s28 g29 g30 g31 g32 g33, ai_ cy g5 40 f5, ai_ cy g6 40 f6, ai_ cy g7 40 f7, ai_ cy g8 40 f8, az_ cy g10 40 f10, ai_ cy g22 40 c_g22_17, ai_ cy g23 12 e23_5, ai_ cy g24 12 e24_6] H → va_S A s.heap H locs → lv_has ls 9 [(4, .int x4_17), (3, .int x3_15), (0, .ref mo), (1, .int a1), (2, .int a2)] → W p l e ({ frames := 5, cells := 0, slots := 0, locals := 118 } : Room) s m (([.ref mo, .int a1, .int a2] : List Value).toArray) below meth c H locs 0 0 Q (F0 m 85 ls []) from LOOP_17 ((((n_) : Int)).toNat + 1) a2 n_ 0 c_g22_3 _ _ _ (by omega) (by first | with_reducible assumption | omega | assumption) (by first | with_reducible assumption | assumption | exact ht_.symm) (by first | with_reducible assumption | assumption | omega) (by first | with_reducible assumption | assumption | exact Int.le_refl _) (by first | with_reducible assumption | assumption | (intro h; omega)) (by first | with_reducible assumption | assumption | exact fun _ _ _ => rfl) (by first | exact swI_0n | exact hsw_) ⟨hP, hD⟩ hS (lv_sub hl [0, 1, 2, 3, 4] rfl)
                intro n_17
                induction n_17 with
                | zero =>
                  intro x4_17 j2_17 k2_17 c_g22_17 H locs ls hm v0_17 v1_17 v2_17 v3_17 v4_17 v5_17 v6_17 hPD hS hl; obtain ⟨hP, hD⟩ := hPD
                  exact absurd hm (by omega)
                | succ n_17 ih_17 =>
                  intro x4_17 j2_17 k2_17 c_g22_17 H locs ls hm v0_17 v1_17 v2_17 v3_17 v4_17 v5_17 v6_17 hPD hS hl; obtain ⟨hP, hD⟩ := hPD
                  refine lv_iload hx hb dB_3_1_24.2.2.2.2 (lv_at hl 0 rfl) ?_
                  refine lv_iload_n hx hb dB_3_1_25.1.1.1.1 rfl (lv_at hl 3 rfl) ?_
                  refine lv_icmp_eq (tgt := 257) hx hb dB_3_1_25.1.1.1.2 (by decide) (fun c_18 => ?_) (fun c_18 => ?_)
                  · have t_18 : x4_17.toInt = a1.toInt := congrArg Int32.toInt c_18
                    have hwe_ := swI_end v6_17 (nc_eq (x := x4_17) (y := a1) (by omega))
                    have hdec_ : phi f5 f6 f7 f8 f10 c_g22_17 a1.toInt s4.toNatClampNeg < phi f5 f6 f7 f8 f10 c_g22_3 a1.toInt s4.toNatClampNeg := v4_17 (by omega)
                    refine lv_goto (tgt := 21) hx hb dB_3_1_30.2.2.1 (by decide) ?_
                    exact ih_3 c_g22_17 e23_5 e24_6 _ _ _ (by omega) (by first | with_reducible assumption | assumption | omega) (phi_nonneg (by assumption) r_f8 (by omega)) (by first | exact ⟨0, chF.zero hz0_⟩ | (obtain ⟨k_, hk_⟩ := v2_3; exact ⟨k_ + 1, ch_way (M := (rmF (fun l => rmI (f5 l) (f8 l) 1) (fun l => rmI (f5 l) (f8 l) 0) (gN s4.toNatClampNeg (kF f10)) (nF f6) (nF f7) s4.toNatClampNeg (kF c_g22_3))) hk_ (fun _ _ _ _ => rfl) hsP_ hfd_ (wyF_mk hle_ hwe_)⟩)) (by first | with_reducible assumption | assumption | exact rng_zero (by omega) (by omega) | exact orng_zero) (by first | with_reducible assumption | assumption | exact rng_zero (by omega) (by omega) | exact orng_zero) ⟨hP, hD⟩ hS (lv_sub hl [2, 3, 4] rfl)
                  · have t_18 : ¬ x4_17.toInt = a1.toInt := fun h => c_18 (Int32.toInt_inj.mp h)
                    have hj2_ : 1 ≤ j2_17 := Nat.pos_of_ne_zero (fun e0 => c_18 (by rw [v1_17, e0]; exact hb_.2.2.1))
                    obtain ⟨i2_, hi2_, hc2_, hl2_⟩ := hb_.2.2.2 j2_17 hj2_ v0_17
                    have hy2_ := hb_.1 j2_17 v0_17
                    have ey5_ : x4_17.toInt = (e23_5 j2_17).toInt := by rw [v1_17]
                    have hyn2_ : x4_17.toNatClampNeg ≠ a1.toNatClampNeg := fun q_ => c_18 (Int32.toInt_inj.mp (cl_inj (by omega) (by omega) q_))
                    refine lv_aload_n hx hb dB_3_1_25.1.1.2.1 rfl (lv_at hl 2 rfl) ?_
                    refine va_get (ci := 12) (v := .ref g24) (C := RX12) (T := TX12) (N := 34) hx hb hts (fun _ h => List.mem_cons_of_mem _ (List.mem_append_right _ h)) hown hK.1 hP 0 rfl rfl 24 (by decide) (hts (.fieldLink RX12 67 "CutAtlasModel" "cameFrom" "[I") (List.mem_of_getElem? (i := 3) rfl)) (fun _ h9 => h9) rfl dB_3_1_25.1.1.2.2 ?_
                    refine lv_iload hx hb dB_3_1_25.1.2.1.1 (lv_at hl 0 rfl) ?_
                    have h_19 : vp_in x4_17 12 := in_I (by first | with_reducible assumption | omega) (by omega)
                    refine va_iald hx hb hK.1 hP 8 0 rfl rfl (i := x4_17) h_19 dB_3_1_25.1.2.1.2 ?_
                    refine lv_topi (fun y_20 ey_20 => ?_)
                    have ky_20 : y_20.toInt = (e24_6 x4_17.toNatClampNeg).toInt := by rw [ey_20]
                    have ry_20 : 0 ≤ y_20.toInt ∧ y_20.toInt ≤ 11 := by rw [ey_20]; exact g_11 _ (in_lt h_19)
                    have hv2_ : y_20 = e23_5 i2_ := by rw [ey_20, v1_17]; exact hc2_
                    have hx5_ : y_20.toNatClampNeg = nF e24_6 x4_17.toNatClampNeg := by rw [ey_20]; rfl
                    refine lv_istore (lv' := [(5, .int y_20), (4, .int x4_17), (3, .int x3_15), (0, .ref mo), (1, .int a1), (2, .int a2)]) hx hb dB_3_1_25.1.2.2.1 hl (by decide) rfl (fun ls hl => ?_)
                    refine lv_iload_n hx hb dB_3_1_25.1.2.2.2 rfl (lv_at hl 2 rfl) ?_
                    refine lv_istore (lv' := [(6, .int x3_15), (5, .int y_20), (4, .int x4_17), (3, .int x3_15), (0, .ref mo), (1, .int a1), (2, .int a2)]) hx hb dB_3_1_25.2.1.1.1 hl (by decide) rfl (fun ls hl => ?_)
                    have hs_ : 0 < sumI (lfI f5 f6 f7 f8 f10 c_g22_3 y_20.toInt x4_17.toInt) s4.toNatClampNeg := by rw [hv2_, v1_17]; exact hl2_
                    refine lv_iconst (v := 0) hx hb dB_3_1_25.2.1.1.2 (by decide) ?_
                    refine lv_istore (lv' := [(7, .int 0), (6, .int x3_15), (5, .int y_20), (4, .int x4_17), (3, .int x3_15), (0, .ref mo), (1, .int a1), (2, .int a2)]) hx hb dB_3_1_25.2.1.2.1 hl (by decide) rfl (fun ls hl => ?_)
                    suffices LOOP_21 : ∀ (n_21 : Nat) (x7_21 : Int32) (x6_21 : Int32) (c_g22_21 : Nat → Int32) (H : Heap) (locs : List Loc) (ls : Array Slot), s4.toInt - x7_21.toInt < (n_21 : Int) → (0 ≤ x7_21.toInt) → (x7_21.toInt ≤ s4.toInt) → (flOK f5 f8 c_g22_21) → (0 ≤ x6_21.toInt ∧ x6_21.toInt ≤ x3_15.toInt) → (y_20.toInt = a1.toInt → phi f5 f6 f7 f8 f10 c_g22_21 a1.toInt s4.toNatClampNeg = phi f5 f6 f7 f8 f10 c_g22_17 a1.toInt s4.toNatClampNeg - (x3_15.toInt - x6_21.toInt)) → (y_20.toInt ≠ a1.toInt → ∀ j : Nat, ((f6 j).toInt = a1.toInt ∨ (f7 j).toInt = a1.toInt) → c_g22_21 j = c_g22_17 j) → (x6_21.toInt = x3_15.toInt → (∀ j : Nat, (j : Int) < x7_21.toInt → lfI f5 f6 f7 f8 f10 c_g22_17 y_20.toInt x4_17.toInt j ≤ 0) ∧ ∀ j : Nat, c_g22_21 j = c_g22_17 j) → (snI (fun l => rmI (f5 l) (f8 l) 1) (fun l => rmI (f5 l) (f8 l) 0) (gN s4.toNatClampNeg (kF f10)) (nF f6) (nF f7) c_g22_17 c_g22_21 y_20.toNatClampNeg x4_17.toNatClampNeg x3_15.toInt x6_21.toInt x7_21.toNatClampNeg) → pd_2 D vwCl A [ob12_0_ mo s0 s1 t2 s3 s4 g5 g6 g7 g8 g9 g10 s11 g12 g13 g14 g15 g16 g17 g18 g19 g20 s21 g22 g23 g24 s25 s26 s27 s28 g29 g30 g31 g32 g33, ai_ cy g5 40 f5, ai_ cy g6 40 f6, ai_ cy g7 40 f7, ai_ cy g8 40 f8, az_ cy g10 40 f10, ai_ cy g22 40 c_g22_21, ai_ cy g23 12 e23_5, ai_ cy g24 12 e24_6] H → va_S A s.heap H locs → lv_has ls 9 [(7, .int x7_21), (6, .int x6_21), (5, .int y_20), (4, .int x4_17), (3, .int x3_15), (0, .ref mo), (1, .int a1), (2, .int a2)] → W p l e ({ frames := 5, cells := 0, slots := 0, locals := 118 } : Room) s m (([.ref mo, .int a1, .int a2] : List Value).toArray) below meth c H locs 0 0 Q (F0 m 106 ls []) from LOOP_21 ((s4.toInt - (0 : Int32).toInt).toNat + 1) (0 : Int32) x3_15 c_g22_17 _ _ _ (by omega) (by first | with_reducible assumption | omega | assumption) (by first | with_reducible assumption | omega | assumption) (by first | with_reducible assumption | assumption | omega) (by first | with_reducible assumption | omega | assumption) (by first | with_reducible assumption | assumption | (intro h; omega)) (by first | with_reducible assumption | assumption | exact fun _ _ _ => rfl) (by first | with_reducible assumption | assumption | exact fun _ => ⟨fun j hj => by omega, fun _ => rfl⟩) (by first | exact snI_0 | exact hsn_ _ (by omega)) ⟨hP, hD⟩ hS (lv_sub hl [0, 1, 2, 3, 4, 5, 6, 7] rfl)
                    intro n_21
                    induction n_21 with
                    | zero =>
                      intro x7_21 x6_21 c_g22_21 H locs ls hm v0_21 v1_21 v2_21 v3_21 v4_21 v5_21 v6_21 v7_21 hPD hS hl; obtain ⟨hP, hD⟩ := hPD
                      exact absurd hm (by omega)
                    | succ n_21 ih_21 =>
                      intro x7_21 x6_21 c_g22_21 H locs ls hm v0_21 v1_21 v2_21 v3_21 v4_21 v5_21 v6_21 v7_21 hPD hS hl; obtain ⟨hP, hD⟩ := hPD
                      refine lv_iload hx hb dB_3_1_25.2.1.2.2 (lv_at hl 0 rfl) ?_
                      refine lv_aload_n hx hb dB_3_1_25.2.2.1.1 rfl (lv_at hl 5 rfl) ?_
                      refine va_get (ci := 12) (v := .int s4) (C := RX12) (T := TX12) (N := 34) hx hb hts (fun _ h => List.mem_cons_of_mem _ (List.mem_append_right _ h)) hown hK.1 hP 0 rfl rfl 4 (by decide) (hts (.fieldLink RX12 95 "CutAtlasModel" "lines" "I") (List.mem_of_getElem? (i := 4) rfl)) (fun _ h9 => h9) rfl dB_3_1_25.2.2.1.2 ?_
                      refine lv_icmp_ge (tgt := 245) hx hb dB_3_1_25.2.2.2.1 (by decide) (fun c_22 => ?_) (fun c_22 => ?_)
                      · have t_22 : s4.toInt ≤ x7_21.toInt := Int32.le_iff_toInt_le.mp c_22
                        have hlt_ : y_20.toInt = a1.toInt → x6_21.toInt < x3_15.toInt := fun h => by first | omega | exact endL v6_21 (by omega) (by omega) hs_ (v5_17 (by omega)) h (by omega)
                        have o3_ : phi f5 f6 f7 f8 f10 c_g22_21 a1.toInt s4.toNatClampNeg ≤ phi f5 f6 f7 f8 f10 c_g22_3 a1.toInt s4.toNatClampNeg := (Classical.em (y_20.toInt = a1.toInt)).elim (fun h => by have a := v4_21 h; omega) (fun h => by have a := phi_same (f5 := f5) (f8 := f8) (f10 := f10) (n := s4.toNatClampNeg) (v5_21 h); omega)
                        have o4_ : y_20.toInt = a1.toInt → phi f5 f6 f7 f8 f10 c_g22_21 a1.toInt s4.toNatClampNeg < phi f5 f6 f7 f8 f10 c_g22_3 a1.toInt s4.toNatClampNeg := fun h => by have a := v4_21 h; have b := hlt_ h; omega
                        have o5_ : y_20.toInt ≠ a1.toInt → ∀ j : Nat, ((f6 j).toInt = a1.toInt ∨ (f7 j).toInt = a1.toInt) → c_g22_21 j = c_g22_3 j := fun h j hj => (v5_21 h j hj).trans (v5_17 (by omega) j hj)
                        have hke_ := flK_R (f10 := f10) (N := s4) v2_17 r_f8 hN
                        have hsE_ : ∀ l : Nat, l < s4.toNatClampNeg → kF c_g22_21 l = snF (fun l => rmI (f5 l) (f8 l) 1) (fun l => rmI (f5 l) (f8 l) 0) (gN s4.toNatClampNeg (kF f10)) (nF f6) (nF f7) (kF c_g22_17) y_20.toNatClampNeg x4_17.toNatClampNeg x3_15.toInt l := by first | exact snI_end v7_21 hke_ (Or.inr (by omega)) | exact snI_end v7_21 hke_ (Or.inl (nc_le (by omega) (by omega)))
                        have hsw_ := swI_s v6_17 hyn2_ hx5_ hsE_
                        refine lv_aload_n hx hb dB_3_1_30.1.1.1 rfl (lv_at hl 5 rfl) ?_
                        refine va_get (ci := 12) (v := .ref g24) (C := RX12) (T := TX12) (N := 34) hx hb hts (fun _ h => List.mem_cons_of_mem _ (List.mem_append_right _ h)) hown hK.1 hP 0 rfl rfl 24 (by decide) (hts (.fieldLink RX12 67 "CutAtlasModel" "cameFrom" "[I") (List.mem_of_getElem? (i := 3) rfl)) (fun _ h9 => h9) rfl dB_3_1_30.1.1.2 ?_
                        refine lv_iload hx hb dB_3_1_30.1.2.1 (lv_at hl 3 rfl) ?_
                        refine va_iald hx hb hK.1 hP 8 0 rfl rfl (i := x4_17) h_19 dB_3_1_30.1.2.2 ?_
                        refine lv_topi (fun y_24 ey_24 => ?_)
                        have ky_24 : y_24.toInt = (e24_6 x4_17.toNatClampNeg).toInt := by rw [ey_24]
                        have ry_24 : 0 ≤ y_24.toInt ∧ y_24.toInt ≤ 11 := by rw [ey_24]; exact g_11 _ (in_lt h_19)
                        have ex_ : y_20 = y_24 := by rw [ey_24, ey_20]
                        subst ex_
                        refine lv_istore (lv' := [(4, .int y_20), (7, .int x7_21), (6, .int x6_21), (5, .int y_20), (3, .int x3_15), (0, .ref mo), (1, .int a1), (2, .int a2)]) hx hb dB_3_1_30.2.1.1 hl (by decide) rfl (fun ls hl => ?_)
                        refine lv_goto (tgt := 85) hx hb dB_3_1_30.2.1.2 (by decide) ?_
                        exact ih_17 y_20 i2_ (k2_17 + 1) c_g22_21 _ _ _ (by omega) (by first | with_reducible assumption | omega | assumption) (by first | with_reducible assumption | assumption | exact ht_.symm) (by first | with_reducible assumption | assumption | omega) (by first | with_reducible assumption | assumption | exact Int.le_refl _) (by first | with_reducible assumption | assumption | (intro h; omega)) (by first | with_reducible assumption | assumption | exact fun _ _ _ => rfl) (by first | exact swI_0n | exact hsw_) ⟨hP, hD⟩ hS (lv_sub hl [0, 4, 5, 6, 7] rfl)
                      · have t_22 : ¬ s4.toInt ≤ x7_21.toInt := fun h => c_22 (Int32.le_iff_toInt_le.mpr h)
                        refine lv_iload hx hb dB_3_1_25.2.2.2.2 (lv_at hl 1 rfl) ?_
                        refine lv_if_le (tgt := 245) hx hb dB_3_1_26.1.1.1.1 (by decide) (fun c_25 => ?_) (fun c_25 => ?_)
                        · have t_25 : x6_21.toInt ≤ (0 : Int32).toInt := Int32.le_iff_toInt_le.mp c_25
                          have hlt_ : y_20.toInt = a1.toInt → x6_21.toInt < x3_15.toInt := fun h => by first | omega | exact endL v6_21 (by omega) (by omega) hs_ (v5_17 (by omega)) h (by omega)
                          have o3_ : phi f5 f6 f7 f8 f10 c_g22_21 a1.toInt s4.toNatClampNeg ≤ phi f5 f6 f7 f8 f10 c_g22_3 a1.toInt s4.toNatClampNeg := (Classical.em (y_20.toInt = a1.toInt)).elim (fun h => by have a := v4_21 h; omega) (fun h => by have a := phi_same (f5 := f5) (f8 := f8) (f10 := f10) (n := s4.toNatClampNeg) (v5_21 h); omega)
                          have o4_ : y_20.toInt = a1.toInt → phi f5 f6 f7 f8 f10 c_g22_21 a1.toInt s4.toNatClampNeg < phi f5 f6 f7 f8 f10 c_g22_3 a1.toInt s4.toNatClampNeg := fun h => by have a := v4_21 h; have b := hlt_ h; omega
                          have o5_ : y_20.toInt ≠ a1.toInt → ∀ j : Nat, ((f6 j).toInt = a1.toInt ∨ (f7 j).toInt = a1.toInt) → c_g22_21 j = c_g22_3 j := fun h j hj => (v5_21 h j hj).trans (v5_17 (by omega) j hj)
                          have hke_ := flK_R (f10 := f10) (N := s4) v2_17 r_f8 hN
                          have hsE_ : ∀ l : Nat, l < s4.toNatClampNeg → kF c_g22_21 l = snF (fun l => rmI (f5 l) (f8 l) 1) (fun l => rmI (f5 l) (f8 l) 0) (gN s4.toNatClampNeg (kF f10)) (nF f6) (nF f7) (kF c_g22_17) y_20.toNatClampNeg x4_17.toNatClampNeg x3_15.toInt l := by first | exact snI_end v7_21 hke_ (Or.inr (by omega)) | exact snI_end v7_21 hke_ (Or.inl (nc_le (by omega) (by omega)))
                          have hsw_ := swI_s v6_17 hyn2_ hx5_ hsE_
                          refine lv_aload_n hx hb dB_3_1_30.1.1.1 rfl (lv_at hl 5 rfl) ?_
                          refine va_get (ci := 12) (v := .ref g24) (C := RX12) (T := TX12) (N := 34) hx hb hts (fun _ h => List.mem_cons_of_mem _ (List.mem_append_right _ h)) hown hK.1 hP 0 rfl rfl 24 (by decide) (hts (.fieldLink RX12 67 "CutAtlasModel" "cameFrom" "[I") (List.mem_of_getElem? (i := 3) rfl)) (fun _ h9 => h9) rfl dB_3_1_30.1.1.2 ?_
                          refine lv_iload hx hb dB_3_1_30.1.2.1 (lv_at hl 3 rfl) ?_
                          refine va_iald hx hb hK.1 hP 8 0 rfl rfl (i := x4_17) h_19 dB_3_1_30.1.2.2 ?_
                          refine lv_topi (fun y_27 ey_27 => ?_)
                          have ky_27 : y_27.toInt = (e24_6 x4_17.toNatClampNeg).toInt := by rw [ey_27]
                          have ry_27 : 0 ≤ y_27.toInt ∧ y_27.toInt ≤ 11 := by rw [ey_27]; exact g_11 _ (in_lt h_19)
                          have ex_ : y_20 = y_27 := by rw [ey_27, ey_20]
                          subst ex_
                          refine lv_istore (lv' := [(4, .int y_20), (7, .int x7_21), (6, .int x6_21), (5, .int y_20), (3, .int x3_15), (0, .ref mo), (1, .int a1), (2, .int a2)]) hx hb dB_3_1_30.2.1.1 hl (by decide) rfl (fun ls hl => ?_)
                          refine lv_goto (tgt := 85) hx hb dB_3_1_30.2.1.2 (by decide) ?_
                          exact ih_17 y_20 i2_ (k2_17 + 1) c_g22_21 _ _ _ (by omega) (by first | with_reducible assumption | omega | assumption) (by first | with_reducible assumption | assumption | exact ht_.symm) (by first | with_reducible assumption | assumption | omega) (by first | with_reducible assumption | assumption | exact Int.le_refl _) (by first | with_reducible assumption | assumption | (intro h; omega)) (by first | with_reducible assumption | assumption | exact fun _ _ _ => rfl) (by first | exact swI_0n | exact hsw_) ⟨hP, hD⟩ hS (lv_sub hl [0, 4, 5, 6, 7] rfl)
                        · have t_25 : ¬ x6_21.toInt ≤ (0 : Int32).toInt := fun h => c_25 (Int32.le_iff_toInt_le.mpr h)
                          refine lv_aload_n hx hb dB_3_1_26.1.1.1.2 rfl (lv_at hl 5 rfl) ?_
                          refine lv_iload hx hb dB_3_1_26.1.1.2.1 (lv_at hl 0 rfl) ?_
                          refine lv_iload hx hb dB_3_1_26.1.1.2.2 (lv_at hl 2 rfl) ?_
                          refine lv_iload hx hb dB_3_1_26.1.2.1.1 (lv_at hl 3 rfl) ?_
                          refine ct_R hP hD [ob12_0_ mo s0 s1 t2 s3 s4 g5 g6 g7 g8 g9 g10 s11 g12 g13 g14 g15 g16 g17 g18 g19 g20 s21 g22 g23 g24 s25 s26 s27 s28 g29 g30 g31 g32 g33, ai_ cy g5 40 f5, ai_ cy g6 40 f6, ai_ cy g7 40 f7, ai_ cy g8 40 f8, az_ cy g10 40 f10, ai_ cy g22 40 c_g22_21] [0, 1, 2, 3, 4, 5, 6] (by decide) rfl (fun hPc hDw => ?_)
                          have hFc := va_free (wc := []) hD hS hA [] rfl
                          refine va_calli (va_runV (As := [.int x7_21, .int y_20, .int x4_17]) (rest := []) ⟨hx, hb, hml, hown, hts⟩ (c_X12_left l D cy H.size mo g5 g6 g7 g8 g9 g10 g12 g13 g14 g15 g16 g17 g18 g19 g20 g22 g23 g24 g29 g30 g31 g32 g33 s0 s1 s3 s4 s11 s21 s25 s26 s27 s28 t2 f5 f6 f7 f8 f10 c_g22_21 x7_21 y_20 x4_17 (by first | with_reducible assumption | omega | assumption) (by first | with_reducible assumption | omega | assumption) (by first | with_reducible assumption | assumption | omega) (by first | with_reducible assumption | assumption | omega)) (cwV 3 hts gX12_flowOf_X12_left rfl rfl rfl ⟨rfl, hd_X12_left⟩ ⟨Nat.le_of_ble_eq_true rfl, Nat.le_of_ble_eq_true rfl⟩) ⟨bl_, va_recvX hK.1 hP (ci := 12) (q0 := 0) rfl rfl, fun U hU hW => ⟨rfl, by rw [hU], by rw [hU]; exact hPc, kk_mv hW hK, hDw⟩⟩ rfl rfl hl.1 rfl (lv_room (Nat.le_of_ble_eq_true rfl)) dB_3_1_26.1.2.1.2 ⟨Nat.le_of_ble_eq_true rfl, Nat.le_of_ble_eq_true rfl⟩) hS (fun q _ h => hFc q h) hFc (fun r_28 u t H locs ht hvm hw hB hz1 hk1 hS => ?_)
                          have hP : va_P D vwCl _ H := ro_keep hP hk1
                          have f0_r_28 := hw
                          have hlf_ := f0_r_28
                          have hlr_ := lfI_rng (f6 := f6) (f7 := f7) (f10 := f10) v2_21 r_f8 (j := x7_21.toNatClampNeg) (in_lt (in_I (i := x7_21) (n := 40) (by omega) (by omega))) y_20.toInt x4_17.toInt
                          refine lv_istore (lv' := [(8, .int r_28), (7, .int x7_21), (6, .int x6_21), (5, .int y_20), (4, .int x4_17), (3, .int x3_15), (0, .ref mo), (1, .int a1), (2, .int a2)]) hx hb dB_3_1_26.1.2.2.1 hl (by decide) rfl (fun ls hl => ?_)
                          have JOIN_29 : ∀ (u0_29 : Int32) (H : Heap) (locs : List Loc) (ls : Array Slot), (0 ≤ u0_29.toInt ∧ u0_29.toInt ≤ lfI f5 f6 f7 f8 f10 c_g22_21 y_20.toInt x4_17.toInt x7_21.toNatClampNeg ∧ u0_29.toInt ≤ x6_21.toInt ∧ (u0_29.toInt = lfI f5 f6 f7 f8 f10 c_g22_21 y_20.toInt x4_17.toInt x7_21.toNatClampNeg ∨ u0_29.toInt = x6_21.toInt)) → pd_2 D vwCl A [ob12_0_ mo s0 s1 t2 s3 s4 g5 g6 g7 g8 g9 g10 s11 g12 g13 g14 g15 g16 g17 g18 g19 g20 s21 g22 g23 g24 s25 s26 s27 s28 g29 g30 g31 g32 g33, ai_ cy g5 40 f5, ai_ cy g6 40 f6, ai_ cy g7 40 f7, ai_ cy g8 40 f8, az_ cy g10 40 f10, ai_ cy g22 40 c_g22_21, ai_ cy g23 12 e23_5, ai_ cy g24 12 e24_6] H → va_S A s.heap H locs → lv_has ls 9 [(8, .int r_28), (7, .int x7_21), (6, .int x6_21), (5, .int y_20), (4, .int x4_17), (3, .int x3_15), (0, .ref mo), (1, .int a1), (2, .int a2)] → W p l e ({ frames := 5, cells := 0, slots := 0, locals := 118 } : Room) s m (([.ref mo, .int a1, .int a2] : List Value).toArray) below meth c H locs 0 0 Q (F0 m 146 ls [.int u0_29]) := by
                            intro u0_29 H locs ls v0_29 hPD hS hl; obtain ⟨hP, hD⟩ := hPD
                            refine lv_istore (lv' := [(8, .int u0_29), (7, .int x7_21), (6, .int x6_21), (5, .int y_20), (4, .int x4_17), (3, .int x3_15), (0, .ref mo), (1, .int a1), (2, .int a2)]) hx hb dB_3_1_26.2.2.1.2 hl (by decide) rfl (fun ls hl => ?_)
                            have hb6_ := Int32.toInt_lt x6_21
                            have hfb_ := v2_21 _ (in_lt (in_I (i := x7_21) (n := 40) (by omega) (by omega)))
                            have hw8_ := r_f8 _ (in_lt (in_I (i := x7_21) (n := 40) (by omega) (by omega)))
                            have w1_ := rmI_rng (k := f5 x7_21.toNatClampNeg) (b := 1) hw8_.1 hw8_.2
                            have w0_ := rmI_rng (k := f5 x7_21.toNatClampNeg) (b := 0) hw8_.1 hw8_.2
                            have hmm_ := v0_29.2
                            refine lv_aload_n hx hb dB_3_1_26.2.2.2.1 rfl (lv_at hl 6 rfl) ?_
                            refine va_get (ci := 12) (v := .ref g22) (C := RX12) (T := TX12) (N := 34) hx hb hts (fun _ h => List.mem_cons_of_mem _ (List.mem_append_right _ h)) hown hK.1 hP 0 rfl rfl 22 (by decide) (hts (.fieldLink RX12 61 "CutAtlasModel" "flows" "[I") (List.mem_of_getElem? (i := 1) rfl)) (fun _ h9 => h9) rfl dB_3_1_26.2.2.2.2 ?_
                            refine lv_iload hx hb dB_3_1_27.1.1.1.1 (lv_at hl 1 rfl) ?_
                            refine lv_dup2_11 hx hb dB_3_1_27.1.1.1.2 rfl rfl ?_
                            have h_30 : vp_in x7_21 40 := in_I (by first | with_reducible assumption | omega) (by omega)
                            refine va_iald hx hb hK.1 hP 6 0 rfl rfl (i := x7_21) h_30 dB_3_1_27.1.1.2.1 ?_
                            refine lv_topi (fun y_31 ey_31 => ?_)
                            have ky_31 : y_31.toInt = (c_g22_21 x7_21.toNatClampNeg).toInt := by rw [ey_31]
                            have JOIN_32 : ∀ (u0_32 : Int32) (H : Heap) (locs : List Loc) (ls : Array Slot), (u0_32.toInt = (if (f10 x7_21.toNatClampNeg).toInt ≠ 0 then 0 else if (f6 x7_21.toNatClampNeg).toInt = y_20.toInt ∧ (f7 x7_21.toNatClampNeg).toInt = x4_17.toInt then u0_29.toInt else if (f6 x7_21.toNatClampNeg).toInt = x4_17.toInt ∧ (f7 x7_21.toNatClampNeg).toInt = y_20.toInt then -u0_29.toInt else 0)) → pd_2 D vwCl A [ob12_0_ mo s0 s1 t2 s3 s4 g5 g6 g7 g8 g9 g10 s11 g12 g13 g14 g15 g16 g17 g18 g19 g20 s21 g22 g23 g24 s25 s26 s27 s28 g29 g30 g31 g32 g33, ai_ cy g5 40 f5, ai_ cy g6 40 f6, ai_ cy g7 40 f7, ai_ cy g8 40 f8, az_ cy g10 40 f10, ai_ cy g22 40 c_g22_21, ai_ cy g23 12 e23_5, ai_ cy g24 12 e24_6] H → va_S A s.heap H locs → lv_has ls 9 [(8, .int u0_29), (7, .int x7_21), (6, .int x6_21), (5, .int y_20), (4, .int x4_17), (3, .int x3_15), (0, .ref mo), (1, .int a1), (2, .int a2)] → W p l e ({ frames := 5, cells := 0, slots := 0, locals := 118 } : Room) s m (([.ref mo, .int a1, .int a2] : List Value).toArray) below meth c H locs 0 0 Q (F0 m 230 ls [.int u0_32, .int y_31, .int x7_21, .ref g22]) := by
                              intro u0_32 H locs ls v0_32 hPD hS hl; obtain ⟨hP, hD⟩ := hPD
                              have hu_ : -2000000 ≤ u0_32.toInt ∧ u0_32.toInt ≤ 2000000 := by rw [v0_32]; (repeat' split) <;> omega
                              refine lv_iadd hx hb dB_3_1_29.2.1.1.1 ?_
                              refine lv_topi (fun y_33 ey_33 => ?_)
                              have ty_33 : y_33.toInt = y_31.toInt + u0_32.toInt := by rw [ey_33]; exact addI (by omega) (by omega)
                              have hvv_ : y_33.toInt = (c_g22_21 x7_21.toNatClampNeg).toInt + (if (f10 x7_21.toNatClampNeg).toInt ≠ 0 then 0 else if (f6 x7_21.toNatClampNeg).toInt = y_20.toInt ∧ (f7 x7_21.toNatClampNeg).toInt = x4_17.toInt then u0_29.toInt else if (f6 x7_21.toNatClampNeg).toInt = x4_17.toInt ∧ (f7 x7_21.toNatClampNeg).toInt = y_20.toInt then -u0_29.toInt else 0) := by rw [← v0_32]; omega
                              refine va_iast hx hb hK.1 hP hD hS 6 0 rfl rfl (i := x7_21) h_30 dB_3_1_29.2.1.1.2 (fun H locs hP hD hS => ?_)
                              obtain ⟨f_35, ef_35⟩ : ∃ g : Nat → Int32, g = upd c_g22_21 x7_21.toNatClampNeg y_33 := ⟨_, rfl⟩
                              refine pd_K (D := D) (cl := vwCl) (H := H) (A := A) [ob12_0_ mo s0 s1 t2 s3 s4 g5 g6 g7 g8 g9 g10 s11 g12 g13 g14 g15 g16 g17 g18 g19 g20 s21 g22 g23 g24 s25 s26 s27 s28 g29 g30 g31 g32 g33, ai_ cy g5 40 f5, ai_ cy g6 40 f6, ai_ cy g7 40 f7, ai_ cy g8 40 f8, az_ cy g10 40 f10, ai_ cy g22 40 f_35, ai_ cy g23 12 e23_5, ai_ cy g24 12 e24_6] (by rw [ef_35]; exact hP) (by rw [ef_35]; exact hD) (fun hP hD => ?_)
                              have st_ := stepL (f6 := f6) (f7 := f7) (f10 := f10) (F := c_g22_21) (F2 := f_35) (l := x7_21) (x := y_20.toInt) (y := x4_17.toInt) (s := a1.toInt) (N := s4.toNatClampNeg) (n := u0_29.toInt) (by assumption) (by omega) (by omega) (by omega) v2_21 r_f8 (by omega) (by omega) (by rw [← v0_32]; omega) (by omega)
                              have hsq_ := ef_35
                              refine lv_iload hx hb dB_3_1_29.2.1.2.1 (lv_at hl 2 rfl) ?_
                              refine lv_iload hx hb dB_3_1_29.2.1.2.2 (lv_at hl 0 rfl) ?_
                              refine lv_isub hx hb dB_3_1_29.2.2.1.1 ?_
                              refine lv_topi (fun y_36 ey_36 => ?_)
                              have ty_36 : y_36.toInt = x6_21.toInt - u0_29.toInt := by rw [ey_36]; exact subI (by omega) (by omega)
                              refine lv_istore (lv' := [(6, .int y_36), (8, .int u0_29), (7, .int x7_21), (5, .int y_20), (4, .int x4_17), (3, .int x3_15), (0, .ref mo), (1, .int a1), (2, .int a2)]) hx hb dB_3_1_29.2.2.1.2 hl (by decide) rfl (fun ls hl => ?_)
                              have hsn_ : ∀ i2 : Int32, i2.toInt = x7_21.toInt + 1 → snI (fun l => rmI (f5 l) (f8 l) 1) (fun l => rmI (f5 l) (f8 l) 0) (gN s4.toNatClampNeg (kF f10)) (nF f6) (nF f7) c_g22_17 f_35 y_20.toNatClampNeg x4_17.toNatClampNeg x3_15.toInt y_36.toInt i2.toNatClampNeg := fun i2 ei => snR_st v7_21 r_f6 r_f7 hN (by omega) (by omega) (by omega) (by omega) hmm_ hvv_ hsq_ (by omega) ei
                              obtain ⟨y_37, ey_37⟩ : ∃ y : Int32, y = x7_21 + 1 := ⟨_, rfl⟩
                              have ty_37 : y_37.toInt = x7_21.toInt + (1 : Int32).toInt := by rw [ey_37]; exact addI (by omega) (by omega)
                              refine lv_iinc (v := y_37) (lv' := [(7, .int y_37), (6, .int y_36), (8, .int u0_29), (5, .int y_20), (4, .int x4_17), (3, .int x3_15), (0, .ref mo), (1, .int a1), (2, .int a2)]) hx hb dB_3_1_29.2.2.2.1 hl (k := 2) rfl (by rw [ey_37]; rfl) (by decide) rfl (fun ls hl => ?_)
                              have w2_ : flOK f5 f8 f_35 := st_.1
                              have w4_ : y_20.toInt = a1.toInt → phi f5 f6 f7 f8 f10 f_35 a1.toInt s4.toNatClampNeg = phi f5 f6 f7 f8 f10 c_g22_17 a1.toInt s4.toNatClampNeg - (x3_15.toInt - y_36.toInt) := fun h => by have a := v4_21 h; have b := st_.2.1 h; omega
                              have w5_ : y_20.toInt ≠ a1.toInt → ∀ j : Nat, ((f6 j).toInt = a1.toInt ∨ (f7 j).toInt = a1.toInt) → f_35 j = c_g22_17 j := fun h j hj => (st_.2.2.1 h j hj).trans (v5_21 h j hj)
                              have w6_ : y_36.toInt = x3_15.toInt → (∀ j : Nat, (j : Int) < y_37.toInt → lfI f5 f6 f7 f8 f10 c_g22_17 y_20.toInt x4_17.toInt j ≤ 0) ∧ ∀ j : Nat, f_35 j = c_g22_17 j := fun h => by have q := v6_21 (by omega); have z : u0_29.toInt = 0 := (by omega); exact ⟨sixL q.1 (by omega) (by omega) (by rw [lfI_same (a := c_g22_17) (b := c_g22_21) (fun _ => (q.2 _).symm)]; omega), fun j => (st_.2.2.2 z j).trans (q.2 j)⟩
                              refine lv_goto (tgt := 106) hx hb dB_3_1_29.2.2.2.2 (by decide) ?_
                              exact ih_21 y_37 y_36 f_35 _ _ _ (by omega) (by first | with_reducible assumption | omega | assumption) (by first | with_reducible assumption | omega | assumption) (by first | with_reducible assumption | assumption | omega) (by first | with_reducible assumption | omega | assumption) (by first | with_reducible assumption | assumption | (intro h; omega)) (by first | with_reducible assumption | assumption | exact fun _ _ _ => rfl) (by first | with_reducible assumption | assumption | exact fun _ => ⟨fun j hj => by omega, fun _ => rfl⟩) (by first | exact snI_0 | exact hsn_ _ (by omega)) ⟨hP, hD⟩ hS (lv_sub hl [0, 1, 3, 4, 5, 6, 7, 8] rfl)
                            refine lv_aload_n hx hb dB_3_1_27.1.1.2.2 rfl (lv_at hl 6 rfl) ?_
                            refine va_get (ci := 12) (v := .ref g10) (C := RX12) (T := TX12) (N := 34) hx hb hts (fun _ h => List.mem_cons_of_mem _ (List.mem_append_right _ h)) hown hK.1 hP 0 rfl rfl 10 (by decide) (hts (.fieldLink RX12 25 "CutAtlasModel" "isMissing" "[Z") (List.mem_of_getElem? (i := 5) rfl)) (fun _ h9 => h9) rfl dB_3_1_27.1.2.1.1 ?_
                            refine lv_iload hx hb dB_3_1_27.1.2.1.2 (lv_at hl 1 rfl) ?_
                            refine va_zald hx hb hK.1 hP 5 2 rfl rfl (i := x7_21) h_30 dB_3_1_27.1.2.2.1 ?_
                            refine lv_topi (fun y_39 ey_39 => ?_)
                            have ky_39 : y_39.toInt = (f10 x7_21.toNatClampNeg).toInt := by rw [ey_39]
                            refine lv_if_eq (tgt := 170) hx hb dB_3_1_27.1.2.2.2 (by decide) (fun c_40 => ?_) (fun c_40 => ?_)
                            · have t_40 : y_39.toInt = (0 : Int32).toInt := congrArg Int32.toInt c_40
                              refine lv_aload_n hx hb dB_3_1_27.2.1.2.1 rfl (lv_at hl 6 rfl) ?_
                              refine va_get (ci := 12) (v := .ref g6) (C := RX12) (T := TX12) (N := 34) hx hb hts (fun _ h => List.mem_cons_of_mem _ (List.mem_append_right _ h)) hown hK.1 hP 0 rfl rfl 6 (by decide) (hts (.fieldLink RX12 13 "CutAtlasModel" "from" "[I") (List.mem_of_getElem? (i := 6) rfl)) (fun _ h9 => h9) rfl dB_3_1_27.2.1.2.2 ?_
                              refine lv_iload hx hb dB_3_1_27.2.2.1.1 (lv_at hl 1 rfl) ?_
                              refine va_iald hx hb hK.1 hP 2 0 rfl rfl (i := x7_21) h_30 dB_3_1_27.2.2.1.2 ?_
                              refine lv_topi (fun y_42 ey_42 => ?_)
                              have ky_42 : y_42.toInt = (f6 x7_21.toNatClampNeg).toInt := by rw [ey_42]
                              have ry_42 : 0 ≤ y_42.toInt ∧ y_42.toInt ≤ 11 := by rw [ey_42]; exact r_f6 _ (in_lt h_30)
                              refine lv_iload hx hb dB_3_1_27.2.2.2.1 (lv_at hl 3 rfl) ?_
                              refine lv_icmp_ne (tgt := 199) hx hb dB_3_1_27.2.2.2.2 (by decide) (fun c_43 => ?_) (fun c_43 => ?_)
                              · have t_43 : ¬ y_42.toInt = y_20.toInt := fun h => c_43 (Int32.toInt_inj.mp h)
                                refine lv_aload_n hx hb dB_3_1_28.2.1.1.1 rfl (lv_at hl 6 rfl) ?_
                                refine va_get (ci := 12) (v := .ref g6) (C := RX12) (T := TX12) (N := 34) hx hb hts (fun _ h => List.mem_cons_of_mem _ (List.mem_append_right _ h)) hown hK.1 hP 0 rfl rfl 6 (by decide) (hts (.fieldLink RX12 13 "CutAtlasModel" "from" "[I") (List.mem_of_getElem? (i := 6) rfl)) (fun _ h9 => h9) rfl dB_3_1_28.2.1.1.2 ?_
                                refine lv_iload hx hb dB_3_1_28.2.1.2.1 (lv_at hl 1 rfl) ?_
                                refine va_iald hx hb hK.1 hP 2 0 rfl rfl (i := x7_21) h_30 dB_3_1_28.2.1.2.2 ?_
                                refine lv_topi (fun y_45 ey_45 => ?_)
                                have e_ := (ey_45.trans ey_42.symm).symm
                                subst e_
                                skip
                                refine lv_iload hx hb dB_3_1_28.2.2.1.1 (lv_at hl 4 rfl) ?_
                                refine lv_icmp_ne (tgt := 229) hx hb dB_3_1_28.2.2.1.2 (by decide) (fun c_46 => ?_) (fun c_46 => ?_)
                                · have t_46 : ¬ y_42.toInt = x4_17.toInt := fun h => c_46 (Int32.toInt_inj.mp h)
                                  refine lv_iconst (v := 0) hx hb dB_3_1_29.1.2.2.2 (by decide) ?_
                                  exact JOIN_32 (0 : Int32) _ _ _ (by (repeat' split) <;> omega) ⟨hP, hD⟩ hS (lv_sub hl [0, 1, 2, 3, 4, 5, 6, 7, 8] rfl)
                                · have t_46 : y_42.toInt = x4_17.toInt := congrArg Int32.toInt c_46
                                  refine lv_aload_n hx hb dB_3_1_28.2.2.2.1 rfl (lv_at hl 6 rfl) ?_
                                  refine va_get (ci := 12) (v := .ref g7) (C := RX12) (T := TX12) (N := 34) hx hb hts (fun _ h => List.mem_cons_of_mem _ (List.mem_append_right _ h)) hown hK.1 hP 0 rfl rfl 7 (by decide) (hts (.fieldLink RX12 16 "CutAtlasModel" "to" "[I") (List.mem_of_getElem? (i := 7) rfl)) (fun _ h9 => h9) rfl dB_3_1_28.2.2.2.2 ?_
                                  refine lv_iload hx hb dB_3_1_29.1.1.1.1 (lv_at hl 1 rfl) ?_
                                  refine va_iald hx hb hK.1 hP 3 0 rfl rfl (i := x7_21) h_30 dB_3_1_29.1.1.1.2 ?_
                                  refine lv_topi (fun y_48 ey_48 => ?_)
                                  have ky_48 : y_48.toInt = (f7 x7_21.toNatClampNeg).toInt := by rw [ey_48]
                                  have ry_48 : 0 ≤ y_48.toInt ∧ y_48.toInt ≤ 11 := by rw [ey_48]; exact r_f7 _ (in_lt h_30)
                                  refine lv_iload hx hb dB_3_1_29.1.1.2.1 (lv_at hl 3 rfl) ?_
                                  refine lv_icmp_ne (tgt := 229) hx hb dB_3_1_29.1.1.2.2 (by decide) (fun c_49 => ?_) (fun c_49 => ?_)
                                  · have t_49 : ¬ y_48.toInt = y_20.toInt := fun h => c_49 (Int32.toInt_inj.mp h)
                                    refine lv_iconst (v := 0) hx hb dB_3_1_29.1.2.2.2 (by decide) ?_
                                    exact JOIN_32 (0 : Int32) _ _ _ (by (repeat' split) <;> omega) ⟨hP, hD⟩ hS (lv_sub hl [0, 1, 2, 3, 4, 5, 6, 7, 8] rfl)
                                  · have t_49 : y_48.toInt = y_20.toInt := congrArg Int32.toInt c_49
                                    refine lv_iload hx hb dB_3_1_29.1.2.1.1 (lv_at hl 0 rfl) ?_
                                    refine lv_ineg hx hb dB_3_1_29.1.2.1.2 ?_
                                    refine lv_topi (fun y_50 ey_50 => ?_)
                                    have ty_50 : y_50.toInt = - u0_29.toInt := by rw [ey_50]; exact negI (by omega)
                                    refine lv_goto (tgt := 230) hx hb dB_3_1_29.1.2.2.1 (by decide) ?_
                                    exact JOIN_32 y_50 _ _ _ (by (repeat' split) <;> omega) ⟨hP, hD⟩ hS (lv_sub hl [0, 1, 2, 3, 4, 5, 6, 7, 8] rfl)
                              · have t_43 : y_42.toInt = y_20.toInt := congrArg Int32.toInt c_43
                                refine lv_aload_n hx hb dB_3_1_28.1.1.1.1 rfl (lv_at hl 6 rfl) ?_
                                refine va_get (ci := 12) (v := .ref g7) (C := RX12) (T := TX12) (N := 34) hx hb hts (fun _ h => List.mem_cons_of_mem _ (List.mem_append_right _ h)) hown hK.1 hP 0 rfl rfl 7 (by decide) (hts (.fieldLink RX12 16 "CutAtlasModel" "to" "[I") (List.mem_of_getElem? (i := 7) rfl)) (fun _ h9 => h9) rfl dB_3_1_28.1.1.1.2 ?_
                                refine lv_iload hx hb dB_3_1_28.1.1.2.1 (lv_at hl 1 rfl) ?_
                                refine va_iald hx hb hK.1 hP 3 0 rfl rfl (i := x7_21) h_30 dB_3_1_28.1.1.2.2 ?_
                                refine lv_topi (fun y_52 ey_52 => ?_)
                                have ky_52 : y_52.toInt = (f7 x7_21.toNatClampNeg).toInt := by rw [ey_52]
                                have ry_52 : 0 ≤ y_52.toInt ∧ y_52.toInt ≤ 11 := by rw [ey_52]; exact r_f7 _ (in_lt h_30)
                                refine lv_iload hx hb dB_3_1_28.1.2.1.1 (lv_at hl 4 rfl) ?_
                                refine lv_icmp_ne (tgt := 199) hx hb dB_3_1_28.1.2.1.2 (by decide) (fun c_53 => ?_) (fun c_53 => ?_)
                                · have t_53 : ¬ y_52.toInt = x4_17.toInt := fun h => c_53 (Int32.toInt_inj.mp h)
                                  refine lv_aload_n hx hb dB_3_1_28.2.1.1.1 rfl (lv_at hl 6 rfl) ?_
                                  refine va_get (ci := 12) (v := .ref g6) (C := RX12) (T := TX12) (N := 34) hx hb hts (fun _ h => List.mem_cons_of_mem _ (List.mem_append_right _ h)) hown hK.1 hP 0 rfl rfl 6 (by decide) (hts (.fieldLink RX12 13 "CutAtlasModel" "from" "[I") (List.mem_of_getElem? (i := 6) rfl)) (fun _ h9 => h9) rfl dB_3_1_28.2.1.1.2 ?_
                                  refine lv_iload hx hb dB_3_1_28.2.1.2.1 (lv_at hl 1 rfl) ?_
                                  refine va_iald hx hb hK.1 hP 2 0 rfl rfl (i := x7_21) h_30 dB_3_1_28.2.1.2.2 ?_
                                  refine lv_topi (fun y_55 ey_55 => ?_)
                                  have e_ := (ey_55.trans ey_42.symm).symm
                                  subst e_
                                  skip
                                  refine lv_iload hx hb dB_3_1_28.2.2.1.1 (lv_at hl 4 rfl) ?_
                                  refine lv_icmp_ne (tgt := 229) hx hb dB_3_1_28.2.2.1.2 (by decide) (fun c_56 => ?_) (fun c_56 => ?_)
                                  · have t_56 : ¬ y_42.toInt = x4_17.toInt := fun h => c_56 (Int32.toInt_inj.mp h)
                                    refine lv_iconst (v := 0) hx hb dB_3_1_29.1.2.2.2 (by decide) ?_
                                    exact JOIN_32 (0 : Int32) _ _ _ (by (repeat' split) <;> omega) ⟨hP, hD⟩ hS (lv_sub hl [0, 1, 2, 3, 4, 5, 6, 7, 8] rfl)
                                  · have t_56 : y_42.toInt = x4_17.toInt := congrArg Int32.toInt c_56
                                    refine lv_aload_n hx hb dB_3_1_28.2.2.2.1 rfl (lv_at hl 6 rfl) ?_
                                    refine va_get (ci := 12) (v := .ref g7) (C := RX12) (T := TX12) (N := 34) hx hb hts (fun _ h => List.mem_cons_of_mem _ (List.mem_append_right _ h)) hown hK.1 hP 0 rfl rfl 7 (by decide) (hts (.fieldLink RX12 16 "CutAtlasModel" "to" "[I") (List.mem_of_getElem? (i := 7) rfl)) (fun _ h9 => h9) rfl dB_3_1_28.2.2.2.2 ?_
                                    refine lv_iload hx hb dB_3_1_29.1.1.1.1 (lv_at hl 1 rfl) ?_
                                    refine va_iald hx hb hK.1 hP 3 0 rfl rfl (i := x7_21) h_30 dB_3_1_29.1.1.1.2 ?_
                                    refine lv_topi (fun y_58 ey_58 => ?_)
                                    have e_ := (ey_58.trans ey_52.symm).symm
                                    subst e_
                                    skip
                                    refine lv_iload hx hb dB_3_1_29.1.1.2.1 (lv_at hl 3 rfl) ?_
                                    refine lv_icmp_ne (tgt := 229) hx hb dB_3_1_29.1.1.2.2 (by decide) (fun c_59 => ?_) (fun c_59 => ?_)
                                    · have t_59 : ¬ y_52.toInt = y_20.toInt := fun h => c_59 (Int32.toInt_inj.mp h)
                                      refine lv_iconst (v := 0) hx hb dB_3_1_29.1.2.2.2 (by decide) ?_
                                      exact JOIN_32 (0 : Int32) _ _ _ (by (repeat' split) <;> omega) ⟨hP, hD⟩ hS (lv_sub hl [0, 1, 2, 3, 4, 5, 6, 7, 8] rfl)
                                    · have t_59 : y_52.toInt = y_20.toInt := congrArg Int32.toInt c_59
                                      refine lv_iload hx hb dB_3_1_29.1.2.1.1 (lv_at hl 0 rfl) ?_
                                      refine lv_ineg hx hb dB_3_1_29.1.2.1.2 ?_
                                      refine lv_topi (fun y_60 ey_60 => ?_)
                                      have ty_60 : y_60.toInt = - u0_29.toInt := by rw [ey_60]; exact negI (by omega)
                                      refine lv_goto (tgt := 230) hx hb dB_3_1_29.1.2.2.1 (by decide) ?_
                                      exact JOIN_32 y_60 _ _ _ (by (repeat' split) <;> omega) ⟨hP, hD⟩ hS (lv_sub hl [0, 1, 2, 3, 4, 5, 6, 7, 8] rfl)
                                · have t_53 : y_52.toInt = x4_17.toInt := congrArg Int32.toInt c_53
                                  refine lv_iload hx hb dB_3_1_28.1.2.2.1 (lv_at hl 0 rfl) ?_
                                  refine lv_goto (tgt := 230) hx hb dB_3_1_28.1.2.2.2 (by decide) ?_
                                  exact JOIN_32 u0_29 _ _ _ (by (repeat' split) <;> omega) ⟨hP, hD⟩ hS (lv_sub hl [0, 1, 2, 3, 4, 5, 6, 7, 8] rfl)
                            · have t_40 : ¬ y_39.toInt = (0 : Int32).toInt := fun h => c_40 (Int32.toInt_inj.mp h)
                              refine lv_iconst (v := 0) hx hb dB_3_1_27.2.1.1.1 (by decide) ?_
                              refine lv_goto (tgt := 230) hx hb dB_3_1_27.2.1.1.2 (by decide) ?_
                              exact JOIN_32 (0 : Int32) _ _ _ (by (repeat' split) <;> omega) ⟨hP, hD⟩ hS (lv_sub hl [0, 1, 2, 3, 4, 5, 6, 7, 8] rfl)
                          refine lv_iload hx hb dB_3_1_26.1.2.2.2 (lv_at hl 0 rfl) ?_
                          refine lv_iload hx hb dB_3_1_26.2.1.1.1 (lv_at hl 2 rfl) ?_
                          refine lv_icmp_ge (tgt := 144) hx hb dB_3_1_26.2.1.1.2 (by decide) (fun c_61 => ?_) (fun c_61 => ?_)
                          · have t_61 : x6_21.toInt ≤ r_28.toInt := Int32.le_iff_toInt_le.mp c_61
                            refine lv_iload hx hb dB_3_1_26.2.2.1.1 (lv_at hl 2 rfl) ?_
                            exact JOIN_29 x6_21 _ _ _ (by first | with_reducible assumption | assumption | omega) ⟨hP, hD⟩ hS (lv_sub hl [0, 1, 2, 3, 4, 5, 6, 7, 8] rfl)
                          · have t_61 : ¬ x6_21.toInt ≤ r_28.toInt := fun h => c_61 (Int32.le_iff_toInt_le.mpr h)
                            refine lv_iload hx hb dB_3_1_26.2.1.2.1 (lv_at hl 0 rfl) ?_
                            refine lv_goto (tgt := 146) hx hb dB_3_1_26.2.1.2.2 (by decide) ?_
                            exact JOIN_29 r_28 _ _ _ (by first | with_reducible assumption | assumption | omega) ⟨hP, hD⟩ hS (lv_sub hl [0, 1, 2, 3, 4, 5, 6, 7, 8] rfl)
              · have t_16 : ¬ x4_15.toInt = a1.toInt := fun h => c_16 (Int32.toInt_inj.mp h)
                have hj1_ : 1 ≤ j_15 := Nat.pos_of_ne_zero (fun e0 => c_16 (by rw [v1_15, e0]; exact hb_.2.2.1))
                obtain ⟨i_, hi_, hc_, hl_⟩ := hb_.2.2.2 j_15 hj1_ v0_15
                have hy_ := hb_.1 j_15 v0_15
                have ey4_ : x4_15.toInt = (e23_5 j_15).toInt := by rw [v1_15]
                have hyn_ : x4_15.toNatClampNeg ≠ a1.toNatClampNeg := fun q_ => c_16 (Int32.toInt_inj.mp (cl_inj (by omega) (by omega) q_))
                refine lv_aload_n hx hb dB_3_1_23.2.1.1.1 rfl (lv_at hl 2 rfl) ?_
                refine lv_aload_n hx hb dB_3_1_23.2.1.1.2 rfl (lv_at hl 2 rfl) ?_
                refine va_get (ci := 12) (v := .ref g24) (C := RX12) (T := TX12) (N := 34) hx hb hts (fun _ h => List.mem_cons_of_mem _ (List.mem_append_right _ h)) hown hK.1 hP 0 rfl rfl 24 (by decide) (hts (.fieldLink RX12 67 "CutAtlasModel" "cameFrom" "[I") (List.mem_of_getElem? (i := 3) rfl)) (fun _ h9 => h9) rfl dB_3_1_23.2.1.2.1 ?_
                refine lv_iload hx hb dB_3_1_23.2.1.2.2 (lv_at hl 0 rfl) ?_
                have h_62 : vp_in x4_15 12 := in_I (by first | with_reducible assumption | omega) (by omega)
                refine va_iald hx hb hK.1 hP 8 0 rfl rfl (i := x4_15) h_62 dB_3_1_23.2.2.1.1 ?_
                refine lv_topi (fun y_63 ey_63 => ?_)
                have ky_63 : y_63.toInt = (e24_6 x4_15.toNatClampNeg).toInt := by rw [ey_63]
                have ry_63 : 0 ≤ y_63.toInt ∧ y_63.toInt ≤ 11 := by rw [ey_63]; exact g_11 _ (in_lt h_62)
                have hv_ : y_63 = e23_5 i_ := by rw [ey_63, v1_15]; exact hc_
                have hxn_ : nF e24_6 x4_15.toNatClampNeg = y_63.toNatClampNeg := by rw [ey_63]; rfl
                refine lv_iload hx hb dB_3_1_23.2.2.1.2 (lv_at hl 0 rfl) ?_
                refine ct_R hP hD [ob12_0_ mo s0 s1 t2 s3 s4 g5 g6 g7 g8 g9 g10 s11 g12 g13 g14 g15 g16 g17 g18 g19 g20 s21 g22 g23 g24 s25 s26 s27 s28 g29 g30 g31 g32 g33, ai_ cy g5 40 f5, ai_ cy g6 40 f6, ai_ cy g7 40 f7, ai_ cy g8 40 f8, az_ cy g10 40 f10, ai_ cy g22 40 c_g22_3] [0, 1, 2, 3, 4, 5, 6] (by decide) rfl (fun hPc hDw => ?_)
                have hFc := va_free (wc := []) hD hS hA [] rfl
                refine va_calli (va_runV (As := [.int y_63, .int x4_15]) (rest := []) ⟨hx, hb, hml, hown, hts⟩ (c_X12_leftOf l D cy H.size mo g5 g6 g7 g8 g9 g10 g12 g13 g14 g15 g16 g17 g18 g19 g20 g22 g23 g24 g29 g30 g31 g32 g33 s0 s1 s3 s4 s11 s21 s25 s26 s27 s28 t2 f5 f6 f7 f8 f10 c_g22_3 y_63 x4_15 (by first | with_reducible assumption | omega | assumption) (by first | with_reducible assumption | omega | assumption) (by first | with_reducible assumption | assumption | omega) (by first | with_reducible assumption | assumption | omega)) (cwV 2 hts gX12_flowOf_X12_leftOf rfl rfl rfl ⟨rfl, hd_X12_leftOf⟩ ⟨Nat.le_of_ble_eq_true rfl, Nat.le_of_ble_eq_true rfl⟩) ⟨bl_, va_recvX hK.1 hP (ci := 12) (q0 := 0) rfl rfl, fun U hU hW => ⟨rfl, by rw [hU], by rw [hU]; exact hPc, kk_mv hW hK, hDw⟩⟩ rfl rfl hl.1 rfl (lv_room (Nat.le_of_ble_eq_true rfl)) dB_3_1_23.2.2.2.1 ⟨Nat.le_of_ble_eq_true rfl, Nat.le_of_ble_eq_true rfl⟩) hS (fun q _ h => hFc q h) hFc (fun r_64 u t H locs ht hvm hw hB hz1 hk1 hS => ?_)
                have hP : va_P D vwCl _ H := ro_keep hP hk1
                obtain ⟨f0_r_64, f1_r_64⟩ := hw
                have hp_ : 0 < r_64.toInt := by rw [f0_r_64, hv_, v1_15]; exact hl_
                have hlq_ : r_64.toInt = rmF (fun l => rmI (f5 l) (f8 l) 1) (fun l => rmI (f5 l) (f8 l) 0) (gN s4.toNatClampNeg (kF f10)) (nF f6) (nF f7) s4.toNatClampNeg (kF c_g22_3) (nF e24_6 x4_15.toNatClampNeg) x4_15.toNatClampNeg := by rw [hxn_, rmF_lo r_f6 r_f7 hN (by omega) (by omega)]; exact f0_r_64
                have hlb_ : r_64.toInt ≤ 160000000 := by rw [f0_r_64]; exact lo_bd v0_3 r_f8 hN
                refine lv_istore (lv' := [(5, .int r_64), (4, .int x4_15), (3, .int x3_15), (0, .ref mo), (1, .int a1), (2, .int a2)]) hx hb dB_3_1_23.2.2.2.2 hl (by decide) rfl (fun ls hl => ?_)
                refine lv_iload hx hb dB_3_1_24.1.1.1.1 (lv_at hl 0 rfl) ?_
                refine lv_iload_n hx hb dB_3_1_24.1.1.1.2 rfl (lv_at hl 2 rfl) ?_
                refine lv_icmp_ge (tgt := 68) hx hb dB_3_1_24.1.1.2.1 (by decide) (fun c_65 => ?_) (fun c_65 => ?_)
                · have t_65 : x3_15.toInt ≤ r_64.toInt := Int32.le_iff_toInt_le.mp c_65
                  refine lv_iload_n hx hb dB_3_1_24.1.2.1.2 rfl (lv_at hl 2 rfl) ?_
                  refine lv_istore_n (lv' := [(3, .int x3_15), (5, .int r_64), (4, .int x4_15), (0, .ref mo), (1, .int a1), (2, .int a2)]) hx hb dB_3_1_24.1.2.2.1 rfl hl (by decide) rfl (fun ls hl => ?_)
                  refine lv_aload_n hx hb dB_3_1_24.1.2.2.2 rfl (lv_at hl 3 rfl) ?_
                  refine va_get (ci := 12) (v := .ref g24) (C := RX12) (T := TX12) (N := 34) hx hb hts (fun _ h => List.mem_cons_of_mem _ (List.mem_append_right _ h)) hown hK.1 hP 0 rfl rfl 24 (by decide) (hts (.fieldLink RX12 67 "CutAtlasModel" "cameFrom" "[I") (List.mem_of_getElem? (i := 3) rfl)) (fun _ h9 => h9) rfl dB_3_1_24.2.1.1.1 ?_
                  refine lv_iload hx hb dB_3_1_24.2.1.1.2 (lv_at hl 2 rfl) ?_
                  refine va_iald hx hb hK.1 hP 8 0 rfl rfl (i := x4_15) h_62 dB_3_1_24.2.1.2.1 ?_
                  refine lv_topi (fun y_67 ey_67 => ?_)
                  have e_ := (ey_67.trans ey_63.symm).symm
                  subst e_
                  skip
                  refine lv_istore (lv' := [(4, .int y_63), (3, .int x3_15), (5, .int r_64), (0, .ref mo), (1, .int a1), (2, .int a2)]) hx hb dB_3_1_24.2.1.2.2 hl (by decide) rfl (fun ls hl => ?_)
                  refine lv_goto (tgt := 36) hx hb dB_3_1_24.2.2.1.1 (by decide) ?_
                  exact ih_15 y_63 x3_15 i_ (i_15 + 1) _ _ _ (by omega) (by first | with_reducible assumption | omega | assumption) (by first | with_reducible assumption | assumption | exact ht_.symm) (by first | with_reducible assumption | omega | assumption) (by first | exact lwI_0n (by decide) | (rw [show y_63.toNatClampNeg = nF e24_6 x4_15.toNatClampNeg by rw [ey_63]; rfl]; exact lwI_s v3_15 hyn_ rfl (by omega) (by omega) (by omega) (by omega))) ⟨hP, hD⟩ hS (lv_sub hl [0, 1, 3, 4, 5] rfl)
                · have t_65 : ¬ x3_15.toInt ≤ r_64.toInt := fun h => c_65 (Int32.le_iff_toInt_le.mpr h)
                  refine lv_iload hx hb dB_3_1_24.1.1.2.2 (lv_at hl 0 rfl) ?_
                  refine lv_goto (tgt := 69) hx hb dB_3_1_24.1.2.1.1 (by decide) ?_
                  refine lv_istore_n (lv' := [(3, .int r_64), (5, .int r_64), (4, .int x4_15), (0, .ref mo), (1, .int a1), (2, .int a2)]) hx hb dB_3_1_24.1.2.2.1 rfl hl (by decide) rfl (fun ls hl => ?_)
                  refine lv_aload_n hx hb dB_3_1_24.1.2.2.2 rfl (lv_at hl 3 rfl) ?_
                  refine va_get (ci := 12) (v := .ref g24) (C := RX12) (T := TX12) (N := 34) hx hb hts (fun _ h => List.mem_cons_of_mem _ (List.mem_append_right _ h)) hown hK.1 hP 0 rfl rfl 24 (by decide) (hts (.fieldLink RX12 67 "CutAtlasModel" "cameFrom" "[I") (List.mem_of_getElem? (i := 3) rfl)) (fun _ h9 => h9) rfl dB_3_1_24.2.1.1.1 ?_
                  refine lv_iload hx hb dB_3_1_24.2.1.1.2 (lv_at hl 2 rfl) ?_
                  refine va_iald hx hb hK.1 hP 8 0 rfl rfl (i := x4_15) h_62 dB_3_1_24.2.1.2.1 ?_
                  refine lv_topi (fun y_69 ey_69 => ?_)
                  have e_ := (ey_69.trans ey_63.symm).symm
                  subst e_
                  skip
                  refine lv_istore (lv' := [(4, .int y_63), (3, .int r_64), (5, .int r_64), (0, .ref mo), (1, .int a1), (2, .int a2)]) hx hb dB_3_1_24.2.1.2.2 hl (by decide) rfl (fun ls hl => ?_)
                  refine lv_goto (tgt := 36) hx hb dB_3_1_24.2.2.1.1 (by decide) ?_
                  exact ih_15 y_63 r_64 i_ (i_15 + 1) _ _ _ (by omega) (by first | with_reducible assumption | omega | assumption) (by first | with_reducible assumption | assumption | exact ht_.symm) (by first | with_reducible assumption | omega | assumption) (by first | exact lwI_0n (by decide) | (rw [show y_63.toNatClampNeg = nF e24_6 x4_15.toNatClampNeg by rw [ey_63]; rfl]; exact lwI_s v3_15 hyn_ rfl (by omega) (by omega) (by omega) (by omega))) ⟨hP, hD⟩ hS (lv_sub hl [0, 1, 3, 4, 5] rfl)
    · have t_2 : ¬ (40 : Int32).toInt ≤ x3_1.toInt := fun h => c_2 (Int32.le_iff_toInt_le.mpr h)
      refine lv_aload_n hx hb dB_3_1_22.1.2.1.2 rfl (lv_at hl 1 rfl) ?_
      refine va_get (ci := 12) (v := .ref g22) (C := RX12) (T := TX12) (N := 34) hx hb hts (fun _ h => List.mem_cons_of_mem _ (List.mem_append_right _ h)) hown hK.1 hP 0 rfl rfl 22 (by decide) (hts (.fieldLink RX12 61 "CutAtlasModel" "flows" "[I") (List.mem_of_getElem? (i := 1) rfl)) (fun _ h9 => h9) rfl dB_3_1_22.1.2.2.1 ?_
      refine lv_iload_n hx hb dB_3_1_22.1.2.2.2 rfl (lv_at hl 0 rfl) ?_
      refine lv_iconst (v := 0) hx hb dB_3_1_22.2.1.1.1 (by decide) ?_
      have h_70 : vp_in x3_1 40 := in_I (by first | with_reducible assumption | omega) (by omega)
      refine va_iast hx hb hK.1 hP hD hS 6 0 rfl rfl (i := x3_1) h_70 dB_3_1_22.2.1.1.2 (fun H locs hP hD hS => ?_)
      obtain ⟨f_71, ef_71⟩ : ∃ g : Nat → Int32, g = upd c_g22_1 x3_1.toNatClampNeg (0 : Int32) := ⟨_, rfl⟩
      refine pd_K (D := D) (cl := vwCl) (H := H) (A := A) [ob12_0_ mo s0 s1 t2 s3 s4 g5 g6 g7 g8 g9 g10 s11 g12 g13 g14 g15 g16 g17 g18 g19 g20 s21 g22 g23 g24 s25 s26 s27 s28 g29 g30 g31 g32 g33, ai_ cy g5 40 f5, ai_ cy g6 40 f6, ai_ cy g7 40 f7, ai_ cy g8 40 f8, az_ cy g10 40 f10, ai_ cy g22 40 f_71, ai_ cy g23 12 f23, ai_ cy g24 12 f24] (by rw [ef_71]; exact hP) (by rw [ef_71]; exact hD) (fun hP hD => ?_)
      obtain ⟨y_72, ey_72⟩ : ∃ y : Int32, y = x3_1 + 1 := ⟨_, rfl⟩
      have ty_72 : y_72.toInt = x3_1.toInt + (1 : Int32).toInt := by rw [ey_72]; exact addI (by omega) (by omega)
      refine lv_iinc (v := y_72) (lv' := [(3, .int y_72), (0, .ref mo), (1, .int a1), (2, .int a2)]) hx hb dB_3_1_22.2.1.2.1 hl (k := 0) rfl (by rw [ey_72]; rfl) (by decide) rfl (fun ls hl => ?_)
      refine lv_goto (tgt := 2) hx hb dB_3_1_22.2.1.2.2 (by decide) ?_
      exact ih_1 y_72 f_71 _ _ _ (by omega) (by first | with_reducible assumption | omega | assumption) (by first | with_reducible assumption | omega | assumption) (by first | exact zero_st (by assumption) (by assumption) (by omega) (by omega) | (intro j hj; omega)) ⟨hP, hD⟩ hS (lv_sub hl [0, 1, 2, 3] rfl)
end

section
set_option maxHeartbeats 4000000 in
set_option maxRecDepth 100000 in
theorem c_X12_flow3 (l : Launch) (D : va_G) (cy : Nat → ClassId) (sz : Nat) (mo : Nat) (g5 : Nat) (g6 : Nat) (g7 : Nat) (g8 : Nat) (g9 : Nat) (g10 : Nat) (g12 : Nat) (g13 : Nat) (g14 : Nat) (g15 : Nat) (g16 : Nat) (g17 : Nat) (g18 : Nat) (g19 : Nat) (g20 : Nat) (g22 : Nat) (g23 : Nat) (g24 : Nat) (g29 : Nat) (g30 : Nat) (g31 : Nat) (g32 : Nat) (g33 : Nat) (s0 : Int32) (s1 : Int32) (s3 : Int32) (s4 : Int32) (s11 : Int32) (s21 : Int32) (s25 : Int32) (s26 : Int32) (s27 : Int32) (s28 : Int32) (t2 : Int64) (f5 : Nat → Int32) (f6 : Nat → Int32) (f7 : Nat → Int32) (f8 : Nat → Int32) (f10 : Nat → Int32) (f22 : Nat → Int32) (f23 : Nat → Int32) (f24 : Nat → Int32) (a1 : Int32) (a2 : Int32) (a3 : Int32) (hN : 0 ≤ s4.toInt ∧ s4.toInt ≤ 40) (hPl : 0 ≤ s3.toInt ∧ s3.toInt ≤ 12) (h21 : s21 = (-9)) (hnet : netE s3.toInt s4.toInt f6 f7 f10) (r_f6 : rng f6 40 (0) (11)) (r_f7 : rng f7 40 (0) (11)) (r_f8 : rng f8 40 (0) (2000)) (r_f23 : rng f23 12 (0) (11)) (r_f24 : rng f24 12 (0) (11)) : Met l yX12_flow wsX12_flow ({ frames := 6, cells := 0, slots := 0, locals := 146 }) (va_Pc [.ref mo, .int a1, .int a2, .int a3] (fun U => U.heap.size = sz ∧ va_P D vwCl [ob12_0_ mo s0 s1 t2 s3 s4 g5 g6 g7 g8 g9 g10 s11 g12 g13 g14 g15 g16 g17 g18 g19 g20 s21 g22 g23 g24 s25 s26 s27 s28 g29 g30 g31 g32 g33, ai_ cy g5 40 f5, ai_ cy g6 40 f6, ai_ cy g7 40 f7, ai_ cy g8 40 f8, az_ cy g10 40 f10, ai_ cy g22 40 f22, ai_ cy g23 12 f23, ai_ cy g24 12 f24] U.heap ∧ kk_ D cy U ∧ va_D (fun _ => True) [ob12_0_ mo s0 s1 t2 s3 s4 g5 g6 g7 g8 g9 g10 s11 g12 g13 g14 g15 g16 g17 g18 g19 g20 s21 g22 g23 g24 s25 s26 s27 s28 g29 g30 g31 g32 g33, ai_ cy g5 40 f5, ai_ cy g6 40 f6, ai_ cy g7 40 f7, ai_ cy g8 40 f8, az_ cy g10 40 f10, ai_ cy g22 40 f22, ai_ cy g23 12 f23, ai_ cy g24 12 f24])) (va_Qi (fun (r : Int32) (_ : Unit) => ((rsI a1.toInt a2.toInt a3.toInt s3.toInt s4.toInt (f10 a3.toNatClampNeg).toInt = 0 → flA (cutR f5 f6 f7 f8 f10 (-9) s4.toNatClampNeg) (fun F => enF (fun l => rmI (f5 l) (f8 l) 1) (fun l => rmI (f5 l) (f8 l) 0) (gN s4.toNatClampNeg (kF f10)) (nF f6) (nF f7) s4.toNatClampNeg s3.toNatClampNeg a1.toNatClampNeg a2.toNatClampNeg F) a1.toNatClampNeg a2.toNatClampNeg a3.toNatClampNeg r.toInt) ∧ (rsI a1.toInt a2.toInt a3.toInt s3.toInt s4.toInt (f10 a3.toNatClampNeg).toInt ≠ 0 → r.toInt = -1000000))) (fun (_ : Unit) (t : State) => ∃ (e22 : Nat → Int32), ∃ (e23 : Nat → Int32), ∃ (e24 : Nat → Int32), (rng e23 12 (0) (11)) ∧ (rng e24 12 (0) (11)) ∧ va_P D vwCl [ob12_0_ mo 0 s1 t2 s3 s4 g5 g6 g7 g8 g9 g10 s11 g12 g13 g14 g15 g16 g17 g18 g19 g20 s21 g22 g23 g24 s25 s26 s27 s28 g29 g30 g31 g32 g33, ai_ cy g5 40 f5, ai_ cy g6 40 f6, ai_ cy g7 40 f7, ai_ cy g8 40 f8, az_ cy g10 40 f10, ai_ cy g22 40 e22, ai_ cy g23 12 e23, ai_ cy g24 12 e24] t.heap ∧ va_D (va_A [ob12_0_ mo s0 s1 t2 s3 s4 g5 g6 g7 g8 g9 g10 s11 g12 g13 g14 g15 g16 g17 g18 g19 g20 s21 g22 g23 g24 s25 s26 s27 s28 g29 g30 g31 g32 g33, ai_ cy g5 40 f5, ai_ cy g6 40 f6, ai_ cy g7 40 f7, ai_ cy g8 40 f8, az_ cy g10 40 f10, ai_ cy g22 40 f22, ai_ cy g23 12 f23, ai_ cy g24 12 f24] sz) [ob12_0_ mo 0 s1 t2 s3 s4 g5 g6 g7 g8 g9 g10 s11 g12 g13 g14 g15 g16 g17 g18 g19 g20 s21 g22 g23 g24 s25 s26 s27 s28 g29 g30 g31 g32 g33, ai_ cy g5 40 f5, ai_ cy g6 40 f6, ai_ cy g7 40 f7, ai_ cy g8 40 f8, az_ cy g10 40 f10, ai_ cy g22 40 e22, ai_ cy g23 12 e23, ai_ cy g24 12 e24]) (va_A [ob12_0_ mo s0 s1 t2 s3 s4 g5 g6 g7 g8 g9 g10 s11 g12 g13 g14 g15 g16 g17 g18 g19 g20 s21 g22 g23 g24 s25 s26 s27 s28 g29 g30 g31 g32 g33, ai_ cy g5 40 f5, ai_ cy g6 40 f6, ai_ cy g7 40 f7, ai_ cy g8 40 f8, az_ cy g10 40 f10, ai_ cy g22 40 f22, ai_ cy g23 12 f23, ai_ cy g24 12 f24] sz)) 0 0 (va_A [ob12_0_ mo s0 s1 t2 s3 s4 g5 g6 g7 g8 g9 g10 s11 g12 g13 g14 g15 g16 g17 g18 g19 g20 s21 g22 g23 g24 s25 s26 s27 s28 g29 g30 g31 g32 g33, ai_ cy g5 40 f5, ai_ cy g6 40 f6, ai_ cy g7 40 f7, ai_ cy g8 40 f8, az_ cy g10 40 f10, ai_ cy g22 40 f22, ai_ cy g23 12 f23, ai_ cy g24 12 f24] sz) := by
  refine ofQ (cc := cX12_flow) (maxL := 4) (ret := (some .int)) (by decide) rfl ?_
  intro p e s m args below meth c s₁ Q hQ B hml hv
  obtain ⟨rfl, hsz, hP, hK, hD0⟩ := hv
  have hx := B.exec
  have hb := B.bytes
  have hr := B.returns
  have hts := atoms_spec (ws := wsX12_flow) B.pre
  have hown : s.vm.findClass RX12 = some m.cls := by have h_ := findClass_of_methodNamed B.named; exact h_
  have hlocks := B.notSynchronized
  subst hsz
  have hD := hD0.self (sz := s.heap.size)
  generalize hAe : va_A [ob12_0_ mo s0 s1 t2 s3 s4 g5 g6 g7 g8 g9 g10 s11 g12 g13 g14 g15 g16 g17 g18 g19 g20 s21 g22 g23 g24 s25 s26 s27 s28 g29 g30 g31 g32 g33, ai_ cy g5 40 f5, ai_ cy g6 40 f6, ai_ cy g7 40 f7, ai_ cy g8 40 f8, az_ cy g10 40 f10, ai_ cy g22 40 f22, ai_ cy g23 12 f23, ai_ cy g24 12 f24] s.heap.size = A at hD hQ
  have hA : ∀ q : Nat, s.heap.size ≤ q → A q := fun q h => by rw [← hAe]; exact Or.inr h
  have hS : va_S A s.heap s.heap [] := va_S.rf
  have hl := lv_entry ([.ref mo, .int a1, .int a2, .int a3]) (n := 4) (Nat.le_of_ble_eq_true rfl)
  rw [lg_entry_eq]
  generalize (lg_sl ([.ref mo, .int a1, .int a2, .int a3]) ++ List.replicate (4 - (lg_sl ([.ref mo, .int a1, .int a2, .int a3])).length) Slot.unset).toArray = ls at hl ⊢
  have hl : lv_has ls 4 [(0, .ref mo), (1, .int a1), (2, .int a2), (3, .int a3)] := hl
  have zm1000000 : ((-1000000) : Int32).toInt = -1000000 := by decide
  have z0 : (0 : Int32).toInt = 0 := by decide
  have z1000000 : (1000000 : Int32).toInt = 1000000 := by decide
  have h21i_ : s21.toInt = -9 := by rw [h21]; decide
  refine lv_aload_n hx hb dB_3_1_19.1.1.1.1 rfl (lv_at hl 0 rfl) ?_
  refine lv_iconst (v := 0) hx hb dB_3_1_19.1.1.1.2 (by decide) ?_
  refine va_put (ci := 12) (v := .int 0) (ty := .int) (C := RX12) (T := TX12) (N := 34) hx hb hts (fun _ h => List.mem_cons_of_mem _ (List.mem_append_right _ h)) tyX12 tyX12_ok nmX12 hown hK.1 hP hD hS 0 rfl rfl 0 (by decide) (hts (.fieldLink RX12 85 "CutAtlasModel" "thrown" "I") (List.mem_of_getElem? (i := 1) rfl)) (fun _ h9 => h9) rfl (by decide +kernel) rfl rfl (Nat.le_of_ble_eq_true rfl) dB_3_1_19.1.1.2.1 (fun H locs hP hD hS => ?_)
  refine pd_K [ob12_0_ mo 0 s1 t2 s3 s4 g5 g6 g7 g8 g9 g10 s11 g12 g13 g14 g15 g16 g17 g18 g19 g20 s21 g22 g23 g24 s25 s26 s27 s28 g29 g30 g31 g32 g33, ai_ cy g5 40 f5, ai_ cy g6 40 f6, ai_ cy g7 40 f7, ai_ cy g8 40 f8, az_ cy g10 40 f10, ai_ cy g22 40 f22, ai_ cy g23 12 f23, ai_ cy g24 12 f24] hP hD (fun hP hD => ?_)
  refine lv_aload_n hx hb dB_3_1_19.1.1.2.2 rfl (lv_at hl 0 rfl) ?_
  refine lv_iload_n hx hb dB_3_1_19.1.2.1.1 rfl (lv_at hl 1 rfl) ?_
  refine lv_iload_n hx hb dB_3_1_19.1.2.1.2 rfl (lv_at hl 2 rfl) ?_
  refine ct_R hP hD [ob12_0_ mo 0 s1 t2 s3 s4 g5 g6 g7 g8 g9 g10 s11 g12 g13 g14 g15 g16 g17 g18 g19 g20 s21 g22 g23 g24 s25 s26 s27 s28 g29 g30 g31 g32 g33] [0] (by decide) rfl (fun hPc hDw => ?_)
  have hFc := va_free (wc := []) hD hS hA [] rfl
  refine va_calli (va_runV (As := [.int a1, .int a2]) (rest := []) ⟨hx, hb, hml, hown, hts⟩ (c_X12_arePlaces l D cy H.size mo g5 g6 g7 g8 g9 g10 g12 g13 g14 g15 g16 g17 g18 g19 g20 g22 g23 g24 g29 g30 g31 g32 g33 (0 : Int32) s1 s3 s4 s11 s21 s25 s26 s27 s28 t2 a1 a2 (by first | with_reducible assumption | omega | assumption)) (cwV 2 hts gX12_flow_X12_arePlaces rfl rfl rfl ⟨rfl, hd_X12_arePlaces⟩ ⟨Nat.le_of_ble_eq_true rfl, Nat.le_of_ble_eq_true rfl⟩) ⟨bl_, va_recvX hK.1 hP (ci := 12) (q0 := 0) rfl rfl, fun U hU hW => ⟨rfl, by rw [hU], by rw [hU]; exact hPc, kk_mv hW hK, hDw⟩⟩ rfl rfl hl.1 rfl (lv_room (Nat.le_of_ble_eq_true rfl)) dB_3_1_19.1.2.2.1 ⟨Nat.le_of_ble_eq_true rfl, Nat.le_of_ble_eq_true rfl⟩) hS (fun q _ h => hFc q h) hFc (fun r_1 u t H locs ht hvm hw hB hz1 hk1 hS => ?_)
  have hP : va_P D vwCl _ H := ro_keep hP hk1
  rcases hw with ⟨w_2, e_⟩ | ⟨w_2, e_⟩
  · have e_ := e_.symm
    subst e_
    refine lv_if_eq (tgt := 42) hx hb dB_3_1_19.1.2.2.2 (by decide) (fun c_3 => ?_) (fun c_3 => ?_)
    · exact absurd c_3 (by decide)
    · have _ := c_3
      refine lv_aload_n hx hb dB_3_1_19.2.1.1.1 rfl (lv_at hl 0 rfl) ?_
      refine lv_iload_n hx hb dB_3_1_19.2.1.1.2 rfl (lv_at hl 3 rfl) ?_
      refine ct_R hP hD [ob12_0_ mo 0 s1 t2 s3 s4 g5 g6 g7 g8 g9 g10 s11 g12 g13 g14 g15 g16 g17 g18 g19 g20 s21 g22 g23 g24 s25 s26 s27 s28 g29 g30 g31 g32 g33] [0] (by decide) rfl (fun hPc hDw => ?_)
      have hFc := va_free (wc := []) hD hS hA [] rfl
      refine va_calli (va_runV (As := [.int a3]) (rest := []) ⟨hx, hb, hml, hown, hts⟩ (c_X12_isLine l D cy H.size mo g5 g6 g7 g8 g9 g10 g12 g13 g14 g15 g16 g17 g18 g19 g20 g22 g23 g24 g29 g30 g31 g32 g33 (0 : Int32) s1 s3 s4 s11 s21 s25 s26 s27 s28 t2 a3 (by first | with_reducible assumption | omega | assumption)) (cwV 1 hts gX12_flow_X12_isLine rfl rfl rfl ⟨rfl, hd_X12_isLine⟩ ⟨Nat.le_of_ble_eq_true rfl, Nat.le_of_ble_eq_true rfl⟩) ⟨bl_, va_recvX hK.1 hP (ci := 12) (q0 := 0) rfl rfl, fun U hU hW => ⟨rfl, by rw [hU], by rw [hU]; exact hPc, kk_mv hW hK, hDw⟩⟩ rfl rfl hl.1 rfl (lv_room (Nat.le_of_ble_eq_true rfl)) dB_3_1_19.2.1.2.1 ⟨Nat.le_of_ble_eq_true rfl, Nat.le_of_ble_eq_true rfl⟩) hS (fun q _ h => hFc q h) hFc (fun r_4 u t H locs ht hvm hw hB hz1 hk1 hS => ?_)
      have hP : va_P D vwCl _ H := ro_keep hP hk1
      rcases hw with ⟨w_5, e_⟩ | ⟨w_5, e_⟩
      · have e_ := e_.symm
        subst e_
        refine lv_if_eq (tgt := 42) hx hb dB_3_1_19.2.1.2.2 (by decide) (fun c_6 => ?_) (fun c_6 => ?_)
        · exact absurd c_6 (by decide)
        · have _ := c_6
          refine lv_aload_n hx hb dB_3_1_19.2.2.1.1 rfl (lv_at hl 0 rfl) ?_
          refine va_get (ci := 12) (v := .ref g10) (C := RX12) (T := TX12) (N := 34) hx hb hts (fun _ h => List.mem_cons_of_mem _ (List.mem_append_right _ h)) hown hK.1 hP 0 rfl rfl 10 (by decide) (hts (.fieldLink RX12 25 "CutAtlasModel" "isMissing" "[Z") (List.mem_of_getElem? (i := 2) rfl)) (fun _ h9 => h9) rfl dB_3_1_19.2.2.1.2 ?_
          refine lv_iload_n hx hb dB_3_1_19.2.2.2.1 rfl (lv_at hl 3 rfl) ?_
          have h_7 : vp_in a3 40 := in_I (by first | with_reducible assumption | omega) (by omega)
          refine va_zald hx hb hK.1 hP 5 2 rfl rfl (i := a3) h_7 dB_3_1_19.2.2.2.2 ?_
          refine lv_topi (fun y_8 ey_8 => ?_)
          have ky_8 : y_8.toInt = (f10 a3.toNatClampNeg).toInt := by rw [ey_8]
          refine lv_if_ne (tgt := 42) hx hb dB_3_1_20.1.1.1.1 (by decide) (fun c_9 => ?_) (fun c_9 => ?_)
          · have t_9 : ¬ y_8.toInt = (0 : Int32).toInt := fun h => c_9 (Int32.toInt_inj.mp h)
            refine lv_ldc (v := (-1000000)) hx hb hown (hts (.constant RX12 187 (-1000000)) (List.mem_of_getElem? (i := 4) rfl)) dB_3_1_20.1.2.2.2 ?_
            rw [hQ]
            exact W.iret (v := (-1000000)) hx hb hr (fun t ht hW => ⟨⟨(-1000000), (), rfl, (by first | exact ⟨fun _ => flA_noR hmo_ (fun S => cutR_nn r_f8 hN.2) (by omega) (by decide), fun h => absurd (by unfold rsI; (repeat' (first | with_reducible refine if_n (by omega) ?_ | with_reducible refine if_ns (by omega) ?_ | with_reducible refine if_nz (by omega) ?_ | with_reducible exact if_p (by omega) (by omega) | with_reducible exact if_ps (by omega) (by omega) | with_reducible exact if_pz (by omega) (by omega))) <;> omega) h⟩ | exact ⟨fun h => absurd h (by unfold rsI; (repeat' (first | with_reducible refine if_n (by omega) ?_ | with_reducible refine if_ns (by omega) ?_ | with_reducible refine if_nz (by omega) ?_ | with_reducible exact if_p (by omega) (by omega) | with_reducible exact if_ps (by omega) (by omega) | with_reducible exact if_pz (by omega) (by omega))) <;> omega), fun _ => by decide⟩), f22, f23, f24, (by first | with_reducible assumption | assumption | exact rng_zero (by omega) (by omega) | omega), (by first | with_reducible assumption | assumption | exact rng_zero (by omega) (by omega) | omega), by rw [ht]; exact hP, hD⟩, hS.F ht⟩) hS.2.2 dB_3_1_20.2.1.1.1
          · have t_9 : y_8.toInt = (0 : Int32).toInt := congrArg Int32.toInt c_9
            refine lv_aload_n hx hb dB_3_1_20.1.1.1.2 rfl (lv_at hl 0 rfl) ?_
            refine lv_iload_n hx hb dB_3_1_20.1.1.2.1 rfl (lv_at hl 1 rfl) ?_
            refine lv_iload_n hx hb dB_3_1_20.1.1.2.2 rfl (lv_at hl 2 rfl) ?_
            refine ct_R hP hD [ob12_0_ mo 0 s1 t2 s3 s4 g5 g6 g7 g8 g9 g10 s11 g12 g13 g14 g15 g16 g17 g18 g19 g20 s21 g22 g23 g24 s25 s26 s27 s28 g29 g30 g31 g32 g33, ai_ cy g5 40 f5, ai_ cy g6 40 f6, ai_ cy g7 40 f7, ai_ cy g8 40 f8, az_ cy g10 40 f10] [0, 1, 2, 3, 4, 5] (by decide) rfl (fun hPc hDw => ?_)
            have hFc := va_free (wc := []) hD hS hA [] rfl
            refine va_calli (va_runV (As := [.int a1, .int a2]) (rest := []) ⟨hx, hb, hml, hown, hts⟩ (c_X12_mostOf2 l D cy H.size mo g5 g6 g7 g8 g9 g10 g12 g13 g14 g15 g16 g17 g18 g19 g20 g22 g23 g24 g29 g30 g31 g32 g33 (0 : Int32) s1 s3 s4 s11 s21 s25 s26 s27 s28 t2 f5 f6 f7 f8 f10 a1 a2 (by first | with_reducible assumption | omega | assumption) (by first | with_reducible assumption | omega | assumption) (by first | with_reducible assumption | assumption | omega) (by first | with_reducible assumption | omega | assumption) (by first | with_reducible assumption | omega | assumption) (by first | with_reducible assumption | assumption | omega) (by first | with_reducible assumption | assumption | omega) (by first | with_reducible assumption | assumption | omega)) (cwV 2 hts gX12_flow_X12_mostOf rfl rfl rfl ⟨rfl, hd_X12_mostOf⟩ ⟨Nat.le_of_ble_eq_true rfl, Nat.le_of_ble_eq_true rfl⟩) ⟨bl_, va_recvX hK.1 hP (ci := 12) (q0 := 0) rfl rfl, fun U hU hW => ⟨rfl, by rw [hU], by rw [hU]; exact hPc, kk_mv hW hK, hDw⟩⟩ rfl rfl hl.1 rfl (lv_room (Nat.le_of_ble_eq_true rfl)) dB_3_1_20.1.2.1.1 ⟨Nat.le_of_ble_eq_true rfl, Nat.le_of_ble_eq_true rfl⟩) hS (fun q _ h => hFc q h) hFc (fun r_10 u t H locs ht hvm hw hB hz1 hk1 hS => ?_)
            have hP : va_P D vwCl _ H := ro_keep hP hk1
            have f0_r_10 := hw
            have hmo_ : mstM (cutR f5 f6 f7 f8 f10 (-9) s4.toNatClampNeg) a1.toNatClampNeg a2.toNatClampNeg r_10.toInt := by have h_ := f0_r_10; rw [h21i_] at h_; exact h_
            refine lv_ldc (v := 1000000) hx hb hown (hts (.constant RX12 159 (1000000)) (List.mem_of_getElem? (i := 3) rfl)) dB_3_1_20.1.2.1.2 ?_
            refine lv_icmp_ne (tgt := 45) hx hb dB_3_1_20.1.2.2.1 (by decide) (fun c_11 => ?_) (fun c_11 => ?_)
            · have t_11 : ¬ r_10.toInt = (1000000 : Int32).toInt := fun h => c_11 (Int32.toInt_inj.mp h)
              refine lv_aload_n hx hb dB_3_1_20.2.1.1.2 rfl (lv_at hl 0 rfl) ?_
              refine lv_iload_n hx hb dB_3_1_20.2.1.2.1 rfl (lv_at hl 1 rfl) ?_
              refine lv_iload_n hx hb dB_3_1_20.2.1.2.2 rfl (lv_at hl 2 rfl) ?_
              refine ct_S hP hD hS hA [ob12_0_ mo 0 s1 t2 s3 s4 g5 g6 g7 g8 g9 g10 s11 g12 g13 g14 g15 g16 g17 g18 g19 g20 s21 g22 g23 g24 s25 s26 s27 s28 g29 g30 g31 g32 g33, ai_ cy g5 40 f5, ai_ cy g6 40 f6, ai_ cy g7 40 f7, ai_ cy g8 40 f8, az_ cy g10 40 f10, ai_ cy g22 40 f22, ai_ cy g23 12 f23, ai_ cy g24 12 f24] [0, 1, 2, 3, 4, 5, 6, 7, 8] (by decide) rfl (fun hPc hDw hFc hC_ => ?_)
              refine va_callv (va_runV (As := [.int a1, .int a2]) (rest := []) ⟨hx, hb, hml, hown, hts⟩ (c_X12_flowOf3 l D cy H.size mo g5 g6 g7 g8 g9 g10 g12 g13 g14 g15 g16 g17 g18 g19 g20 g22 g23 g24 g29 g30 g31 g32 g33 (0 : Int32) s1 s3 s4 s11 s21 s25 s26 s27 s28 t2 f5 f6 f7 f8 f10 f22 f23 f24 a1 a2 (by first | with_reducible assumption | omega | assumption) (by first | with_reducible assumption | omega | assumption) (by first | with_reducible assumption | omega | assumption) (by first | with_reducible assumption | omega | assumption) (by first | with_reducible assumption | omega | assumption) (by first | with_reducible assumption | assumption | omega) (by first | with_reducible assumption | assumption | omega) (by first | with_reducible assumption | assumption | omega) (by first | with_reducible assumption | assumption | omega) (by first | with_reducible assumption | assumption | omega) (by first | with_reducible assumption | assumption | omega)) (cwV 2 hts gX12_flow_X12_flowOf rfl rfl rfl ⟨rfl, hd_X12_flowOf⟩ ⟨Nat.le_of_ble_eq_true rfl, Nat.le_of_ble_eq_true rfl⟩) ⟨bl_, va_recvX hK.1 hP (ci := 12) (q0 := 0) rfl rfl, fun U hU hW => ⟨rfl, by rw [hU], by rw [hU]; exact hPc, kk_mv hW hK, hDw⟩⟩ rfl rfl hl.1 rfl (lv_room (Nat.le_of_ble_eq_true rfl)) dB_3_1_20.2.2.1.1 ⟨Nat.le_of_ble_eq_true rfl, Nat.le_of_ble_eq_true rfl⟩) hS (fun q _ h => hFc q h) hFc (fun u t H locs ht hvm hw hB hz1 hk1 hS => ?_)
              obtain ⟨e22_13, e23_14, e24_15, g_16, g_17, g_18, hP1, hD1⟩ := hB
              rw [ht] at hP1
              obtain ⟨hP, hD⟩ := va_join (wr := []) (w1 := [ob12_0_ mo 0 s1 t2 s3 s4 g5 g6 g7 g8 g9 g10 s11 g12 g13 g14 g15 g16 g17 g18 g19 g20 s21 g22 g23 g24 s25 s26 s27 s28 g29 g30 g31 g32 g33, ai_ cy g5 40 f5, ai_ cy g6 40 f6, ai_ cy g7 40 f7, ai_ cy g8 40 f8, az_ cy g10 40 f10, ai_ cy g22 40 e22_13, ai_ cy g23 12 e23_14, ai_ cy g24 12 e24_15]) hP hD [0, 1, 2, 3, 4, 5, 6, 7, 8] [] hC_ rfl (by decide) (by decide) hk1 hFc hP1 hD1
              refine pd_K [ob12_0_ mo 0 s1 t2 s3 s4 g5 g6 g7 g8 g9 g10 s11 g12 g13 g14 g15 g16 g17 g18 g19 g20 s21 g22 g23 g24 s25 s26 s27 s28 g29 g30 g31 g32 g33, ai_ cy g5 40 f5, ai_ cy g6 40 f6, ai_ cy g7 40 f7, ai_ cy g8 40 f8, az_ cy g10 40 f10, ai_ cy g22 40 e22_13, ai_ cy g23 12 e23_14, ai_ cy g24 12 e24_15] hP hD (fun hP hD => ?_)
              have hen_ := g_16
              refine lv_aload_n hx hb dB_3_1_20.2.2.1.2 rfl (lv_at hl 0 rfl) ?_
              refine va_get (ci := 12) (v := .ref g22) (C := RX12) (T := TX12) (N := 34) hx hb hts (fun _ h => List.mem_cons_of_mem _ (List.mem_append_right _ h)) hown hK.1 hP 0 rfl rfl 22 (by decide) (hts (.fieldLink RX12 61 "CutAtlasModel" "flows" "[I") (List.mem_of_getElem? (i := 5) rfl)) (fun _ h9 => h9) rfl dB_3_1_20.2.2.2.1 ?_
              refine lv_iload_n hx hb dB_3_1_20.2.2.2.2 rfl (lv_at hl 3 rfl) ?_
              refine va_iald hx hb hK.1 hP 6 0 rfl rfl (i := a3) h_7 dB_3_1_21.1 ?_
              refine lv_topi (fun y_20 ey_20 => ?_)
              have ky_20 : y_20.toInt = (e22_13 a3.toNatClampNeg).toInt := by rw [ey_20]
              rw [hQ]
              exact W.iret (v := y_20) hx hb hr (fun t ht hW => ⟨⟨y_20, (), rfl, (⟨fun _ => flA_yesR hmo_ (fun S => cutR_nn r_f8 hN.2) (by omega) hen_ (by rw [ey_20]; rfl), fun h => absurd (by unfold rsI; (repeat' (first | with_reducible refine if_n (by omega) ?_ | with_reducible refine if_ns (by omega) ?_ | with_reducible refine if_nz (by omega) ?_ | with_reducible exact if_p (by omega) (by omega) | with_reducible exact if_ps (by omega) (by omega) | with_reducible exact if_pz (by omega) (by omega))) <;> omega) h⟩), e22_13, e23_14, e24_15, (by first | with_reducible assumption | assumption | exact rng_zero (by omega) (by omega) | omega), (by first | with_reducible assumption | assumption | exact rng_zero (by omega) (by omega) | omega), by rw [ht]; exact hP, hD⟩, hS.F ht⟩) hS.2.2 dB_3_1_21.2
            · have t_11 : r_10.toInt = (1000000 : Int32).toInt := congrArg Int32.toInt c_11
              refine lv_ldc (v := (-1000000)) hx hb hown (hts (.constant RX12 187 (-1000000)) (List.mem_of_getElem? (i := 4) rfl)) dB_3_1_20.1.2.2.2 ?_
              rw [hQ]
              exact W.iret (v := (-1000000)) hx hb hr (fun t ht hW => ⟨⟨(-1000000), (), rfl, (by first | exact ⟨fun _ => flA_noR hmo_ (fun S => cutR_nn r_f8 hN.2) (by omega) (by decide), fun h => absurd (by unfold rsI; (repeat' (first | with_reducible refine if_n (by omega) ?_ | with_reducible refine if_ns (by omega) ?_ | with_reducible refine if_nz (by omega) ?_ | with_reducible exact if_p (by omega) (by omega) | with_reducible exact if_ps (by omega) (by omega) | with_reducible exact if_pz (by omega) (by omega))) <;> omega) h⟩ | exact ⟨fun h => absurd h (by unfold rsI; (repeat' (first | with_reducible refine if_n (by omega) ?_ | with_reducible refine if_ns (by omega) ?_ | with_reducible refine if_nz (by omega) ?_ | with_reducible exact if_p (by omega) (by omega) | with_reducible exact if_ps (by omega) (by omega) | with_reducible exact if_pz (by omega) (by omega))) <;> omega), fun _ => by decide⟩), f22, f23, f24, (by first | with_reducible assumption | assumption | exact rng_zero (by omega) (by omega) | omega), (by first | with_reducible assumption | assumption | exact rng_zero (by omega) (by omega) | omega), by rw [ht]; exact hP, hD⟩, hS.F ht⟩) hS.2.2 dB_3_1_20.2.1.1.1
      · have e_ := e_.symm
        subst e_
        refine lv_if_eq (tgt := 42) hx hb dB_3_1_19.2.1.2.2 (by decide) (fun c_21 => ?_) (fun c_21 => ?_)
        · have _ := c_21
          refine lv_ldc (v := (-1000000)) hx hb hown (hts (.constant RX12 187 (-1000000)) (List.mem_of_getElem? (i := 4) rfl)) dB_3_1_20.1.2.2.2 ?_
          rw [hQ]
          exact W.iret (v := (-1000000)) hx hb hr (fun t ht hW => ⟨⟨(-1000000), (), rfl, (by first | exact ⟨fun _ => flA_noR hmo_ (fun S => cutR_nn r_f8 hN.2) (by omega) (by decide), fun h => absurd (by unfold rsI; (repeat' (first | with_reducible refine if_n (by omega) ?_ | with_reducible refine if_ns (by omega) ?_ | with_reducible refine if_nz (by omega) ?_ | with_reducible exact if_p (by omega) (by omega) | with_reducible exact if_ps (by omega) (by omega) | with_reducible exact if_pz (by omega) (by omega))) <;> omega) h⟩ | exact ⟨fun h => absurd h (by unfold rsI; (repeat' (first | with_reducible refine if_n (by omega) ?_ | with_reducible refine if_ns (by omega) ?_ | with_reducible refine if_nz (by omega) ?_ | with_reducible exact if_p (by omega) (by omega) | with_reducible exact if_ps (by omega) (by omega) | with_reducible exact if_pz (by omega) (by omega))) <;> omega), fun _ => by decide⟩), f22, f23, f24, (by first | with_reducible assumption | assumption | exact rng_zero (by omega) (by omega) | omega), (by first | with_reducible assumption | assumption | exact rng_zero (by omega) (by omega) | omega), by rw [ht]; exact hP, hD⟩, hS.F ht⟩) hS.2.2 dB_3_1_20.2.1.1.1
        · exact absurd c_21 (by decide)
  · have e_ := e_.symm
    subst e_
    refine lv_if_eq (tgt := 42) hx hb dB_3_1_19.1.2.2.2 (by decide) (fun c_22 => ?_) (fun c_22 => ?_)
    · have _ := c_22
      refine lv_ldc (v := (-1000000)) hx hb hown (hts (.constant RX12 187 (-1000000)) (List.mem_of_getElem? (i := 4) rfl)) dB_3_1_20.1.2.2.2 ?_
      rw [hQ]
      exact W.iret (v := (-1000000)) hx hb hr (fun t ht hW => ⟨⟨(-1000000), (), rfl, (by first | exact ⟨fun _ => flA_noR hmo_ (fun S => cutR_nn r_f8 hN.2) (by omega) (by decide), fun h => absurd (by unfold rsI; (repeat' (first | with_reducible refine if_n (by omega) ?_ | with_reducible refine if_ns (by omega) ?_ | with_reducible refine if_nz (by omega) ?_ | with_reducible exact if_p (by omega) (by omega) | with_reducible exact if_ps (by omega) (by omega) | with_reducible exact if_pz (by omega) (by omega))) <;> omega) h⟩ | exact ⟨fun h => absurd h (by unfold rsI; (repeat' (first | with_reducible refine if_n (by omega) ?_ | with_reducible refine if_ns (by omega) ?_ | with_reducible refine if_nz (by omega) ?_ | with_reducible exact if_p (by omega) (by omega) | with_reducible exact if_ps (by omega) (by omega) | with_reducible exact if_pz (by omega) (by omega))) <;> omega), fun _ => by decide⟩), f22, f23, f24, (by first | with_reducible assumption | assumption | exact rng_zero (by omega) (by omega) | omega), (by first | with_reducible assumption | assumption | exact rng_zero (by omega) (by omega) | omega), by rw [ht]; exact hP, hD⟩, hS.F ht⟩) hS.2.2 dB_3_1_20.2.1.1.1
    · exact absurd c_22 (by decide)
end

section
/-! ===== the search for a cheapest way, in general ===== -/
section CWG
variable {x y : Nat → Nat} {c : Nat → Int} {ok : Nat → Bool} {E s P : Nat} {pi : Nat → Int} {d d2 : Nat → Int} {p p2 : Nat → Nat} {rnd cu : Nat}
noncomputable def cwG (x y : Nat → Nat) (c : Nat → Int) (ok : Nat → Bool) (E s P : Nat) (d : Nat → Int) (p : Nat → Nat) (rnd cu : Nat) : Prop :=
  (∀ v : Nat, v < P → dst x y c ok E s P v ≤ d v ∧ d v ≤ 1099511627776 ∧ d v ≤ dst x y c ok E s rnd v) ∧
  (∀ e : Nat, e < cu → ok e = true → dst x y c ok E s rnd (x e) < 1099511627776 → d (y e) ≤ dst x y c ok E s rnd (x e) + c e) ∧
  (∀ v : Nat, v < P → v ≠ s → d v < 1099511627776 → ∃ e : Nat, e < E ∧ ok e = true ∧ p v = x e ∧ y e = v ∧ d (x e) < 1099511627776 ∧ d (x e) + c e ≤ d v) ∧
  (∀ v : Nat, v < P → d v < 1099511627776 → ∃ n : Nat, rcs p s n v)
theorem cwG_init (hs : s < P) (h : ∀ v : Nat, v < P → d v = if v = s then 0 else 1099511627776) : cwG x y c ok E s P d p 0 0 := by
  have e0 : ∀ v : Nat, dst x y c ok E s 0 v = if v = s then 0 else 1099511627776 := fun _ => rfl
  refine ⟨fun v hv => ?_, fun e he => absurd he (Nat.not_lt_zero _), fun v hv hn hf => ?_, fun v hv hf => ?_⟩
  · have m := dst_mono (x := x) (y := y) (c := c) (ok := ok) (E := E) (s := s) P 0 v (Nat.zero_le _)
    have i := dst_inf (x := x) (y := y) (c := c) (ok := ok) (E := E) (s := s) 0 v
    rw [h v hv, ← e0 v]
    exact ⟨m, i, Int.le_refl _⟩
  · rw [h v hv, if_neg hn] at hf
    omega
  · by_cases e : v = s
    · exact ⟨0, e⟩
    · rw [h v hv, if_neg e] at hf
      omega
theorem cwG_lo (h : cwG x y c ok E s P d p rnd cu) (hP : P ≤ 12) (hc : ∀ e : Nat, e < E → ok e = true → -101 ≤ c e) {v : Nat} (hv : v < P) : -1212 ≤ d v := by
  have a := h.1 v hv
  have b := dst_lo (x := x) (y := y) (s := s) hc P v
  omega
theorem cwG_skip (h : cwG x y c ok E s P d p rnd cu) (hv : ok cu = true → x cu < P) (hs : ok cu = true → d (x cu) < 1099511627776 → d (y cu) ≤ d (x cu) + c cu) : cwG x y c ok E s P d p rnd (cu + 1) := by
  refine ⟨h.1, fun e he ho hx => ?_, h.2.2⟩
  by_cases q : e = cu
  · subst q
    have a := (h.1 (x e) (hv ho)).2.2
    have b := hs ho (by omega)
    omega
  · exact h.2.1 e (by omega) ho hx
theorem cwG_to (h : cwG x y c ok E s P d p rnd cu) : ∀ n : Nat, (∀ e : Nat, cu ≤ e → e < cu + n → ok e = true → x e < P ∧ (d (x e) < 1099511627776 → d (y e) ≤ d (x e) + c e)) → cwG x y c ok E s P d p rnd (cu + n)
  | 0, _ => h
  | n + 1, hn => by
    have a := cwG_to h n (fun e h1 h2 => hn e h1 (by omega))
    exact cwG_skip a (fun q => (hn (cu + n) (by omega) (by omega) q).1) (fun q => (hn (cu + n) (by omega) (by omega) q).2)
theorem cwG_relax (h : cwG x y c ok E s P d p rnd cu) (hp : ∀ e : Nat, e < E → ok e = true → pi (y e) ≤ pi (x e) + c e) (hv : ∀ e : Nat, e < E → ok e = true → x e < P ∧ y e < P) (hP : 1 ≤ P) (hE : cu < E) (ho : ok cu = true) (hx : d (x cu) < 1099511627776) (hlt : d (x cu) + c cu < d (y cu))
    (n1 : d2 (y cu) = d (x cu) + c cu) (n2 : ∀ u : Nat, u ≠ y cu → d2 u = d u) (bpy : p2 (y cu) = x cu) (bp1 : ∀ u : Nat, u ≠ y cu → p2 u = p u) : cwG x y c ok E s P d2 p2 rnd (cu + 1) := by
  have w := hv cu hE ho
  have pc := hp cu hE ho
  have hxy : x cu ≠ y cu := fun e => by
    rw [e] at hlt pc
    omega
  have le : ∀ u : Nat, d2 u ≤ d u := fun u => by
    by_cases q : u = y cu
    · rw [q, n1]
      omega
    · rw [n2 u q]
      exact Int.le_refl _
  have a1 := h.1 (x cu) w.1
  have dx : dst x y c ok E s P (x cu) < 1099511627776 := by omega
  have dv : dst x y c ok E s P (y cu) ≤ dst x y c ok E s P (x cu) + c cu := by
    have en := dst_end (s := s) hp hv (k := P - 1) (by omega) (x cu)
    rw [show P - 1 + 1 = P by omega] at en
    have dd := dst_e (x := x) (y := y) (c := c) (s := s) (k := P - 1) hE ho (by rw [← en]; exact dx)
    rw [show P - 1 + 1 = P by omega, ← en] at dd
    exact dd
  have a2y := h.1 (y cu) w.2
  have hys : y cu ≠ s := fun e => by
    have ps := dst_pi (s := s) hp P (y cu) (by omega)
    rw [e] at ps
    have m := dst_mono (x := x) (y := y) (c := c) (ok := ok) (E := E) (s := s) rnd 0 s (Nat.zero_le _)
    have e0 : dst x y c ok E s 0 s = 0 := if_pos rfl
    have a2 := (h.1 (y cu) w.2).2.2
    rw [e] at a2 dv hlt
    omega
  refine ⟨fun u hu => ?_, fun e he hoe hxe => ?_, fun u hu hn hf => ?_, fun u hu hf => ?_⟩
  · have b := h.1 u hu
    have l := le u
    refine ⟨?_, by omega, by omega⟩
    by_cases q : u = y cu
    · rw [q, n1]
      omega
    · rw [n2 u q]
      exact b.1
  · by_cases q : e = cu
    · subst q
      rw [n1]
      omega
    · have b := h.2.1 e (by omega) hoe hxe
      have l := le (y e)
      omega
  · by_cases q : u = y cu
    · refine ⟨cu, hE, ho, ?_, q.symm, ?_, ?_⟩
      · rw [q]
        exact bpy
      · rw [n2 _ hxy]
        exact hx
      · rw [n2 _ hxy, q, n1]
        omega
    · rw [n2 u q] at hf ⊢
      obtain ⟨e, q1, q2, q4, q5, q6, q7⟩ := h.2.2.1 u hu hn hf
      have l := le (x e)
      refine ⟨e, q1, q2, ?_, q5, by omega, by omega⟩
      rw [bp1 u q]
      exact q4
  · refine rcs_up (d := d) (pi := pi) (P := P) bp1 bpy hys w.1 hx hlt pc (fun u hu2 hn2 hf2 => ?_) h.2.2.2 u hu ?_
    · obtain ⟨e, q1, q2, q4, q5, q6, q7⟩ := h.2.2.1 u hu2 hn2 hf2
      have g := hp e q1 q2
      have g2 := hv e q1 q2
      rw [q4]
      rw [q5] at g
      exact ⟨g2.1, q6, by omega⟩
    · by_cases q : u = y cu
      · exact Or.inr q
      · rw [n2 u q] at hf
        exact Or.inl hf
theorem cwG_round (h : cwG x y c ok E s P d p rnd E) : cwG x y c ok E s P d p (rnd + 1) 0 := by
  refine ⟨fun v hv => ?_, fun e he => absurd he (Nat.not_lt_zero _), h.2.2⟩
  have a := h.1 v hv
  refine ⟨a.1, a.2.1, ?_⟩
  rcases Int.lt_or_le (dst x y c ok E s (rnd + 1) v) (dst x y c ok E s rnd v) with q | q
  · obtain ⟨e, he, ho, ey, hx, h2⟩ := dst_at q
    have b := h.2.1 e he ho hx
    rw [ey] at b
    omega
  · omega
/-- nothing is to be had cheaper -/
noncomputable def clG (x y : Nat → Nat) (c : Nat → Int) (ok : Nat → Bool) (d : Nat → Int) (E : Nat) : Prop := ∀ e : Nat, e < E → ok e = true → d (x e) < 1099511627776 → d (y e) ≤ d (x e) + c e
theorem cwG_cl (h : cwG x y c ok E s P d p P 0) (hp : ∀ e : Nat, e < E → ok e = true → pi (y e) ≤ pi (x e) + c e) (hv : ∀ e : Nat, e < E → ok e = true → x e < P ∧ y e < P) (hP : 1 ≤ P) : clG x y c ok d E := fun e he ho hx => by
  have w := hv e he ho
  have a := h.1 (x e) w.1
  have b := h.1 (y e) w.2
  have en := dst_end (s := s) hp hv (k := P - 1) (by omega) (x e)
  rw [show P - 1 + 1 = P by omega] at en
  have dd := dst_e (x := x) (y := y) (c := c) (s := s) (k := P - 1) he ho (by rw [← en]; omega)
  rw [show P - 1 + 1 = P by omega, ← en] at dd
  omega
theorem dst_hB (hc : ∀ e : Nat, e < E → ok e = true → c e ≤ 101) : ∀ k v : Nat, dst x y c ok E s k v < 1099511627776 → dst x y c ok E s k v ≤ 101 * (k : Int)
  | 0, v, h => by
    have e0 : dst x y c ok E s 0 v = if v = s then 0 else 1099511627776 := rfl
    rw [e0] at h ⊢
    by_cases e : v = s
    · rw [if_pos e]
      decide
    · rw [if_neg e] at h
      omega
  | k + 1, v, h => by
    rcases Int.lt_or_le (dst x y c ok E s (k + 1) v) (dst x y c ok E s k v) with q | q
    · obtain ⟨e, he, ho, _, hx, h2⟩ := dst_at q
      have a := dst_hB hc k (x e) hx
      have b := hc e he ho
      omega
    · have m := dst_s (x := x) (y := y) (c := c) (ok := ok) (E := E) (s := s) k v
      have a := dst_hB hc k v (by omega)
      omega
/-- behind the search -/
noncomputable def czG (x y : Nat → Nat) (c : Nat → Int) (ok : Nat → Bool) (E s P : Nat) (d : Nat → Int) (p : Nat → Nat) : Prop :=
  clG x y c ok d E ∧
  (∀ v : Nat, v < P → v ≠ s → d v < 1099511627776 → ∃ e : Nat, e < E ∧ ok e = true ∧ p v = x e ∧ y e = v ∧ d (x e) < 1099511627776 ∧ d (x e) + c e ≤ d v) ∧
  (∀ v : Nat, v < P → d v < 1099511627776 → ∃ n : Nat, rcs p s n v) ∧ (∀ v : Nat, v < P → d v < 1099511627776 → d v ≤ 101 * (P : Int)) ∧ (∀ v : Nat, v < P → d v ≤ 1099511627776) ∧ d s = 0
theorem czG_mk (h : cwG x y c ok E s P d p rnd cu) (hcl : clG x y c ok d E) (hp : ∀ e : Nat, e < E → ok e = true → pi (y e) ≤ pi (x e) + c e) (hv : ∀ e : Nat, e < E → ok e = true → x e < P ∧ y e < P) (hc : ∀ e : Nat, e < E → ok e = true → c e ≤ 101) (hs : s < P) : czG x y c ok E s P d p := by
  have ms : d s ≤ 0 := by
    have a := (h.1 s hs).2.2
    have m := dst_mono (x := x) (y := y) (c := c) (ok := ok) (E := E) (s := s) rnd 0 s (Nat.zero_le _)
    have e0 : dst x y c ok E s 0 s = 0 := if_pos rfl
    omega
  have up : ∀ k v : Nat, v < P → dst x y c ok E s k v < 1099511627776 → d v ≤ dst x y c ok E s k v := fun k => by
    induction k with
    | zero =>
      intro v hv hf
      have e0 : dst x y c ok E s 0 v = if v = s then 0 else 1099511627776 := rfl
      rw [e0] at hf ⊢
      by_cases e : v = s
      · rw [if_pos e, e]
        exact ms
      · rw [if_neg e] at hf
        omega
    | succ k ih =>
      intro v hv' hf
      rcases Int.lt_or_le (dst x y c ok E s (k + 1) v) (dst x y c ok E s k v) with q | q
      · obtain ⟨e, he, ho, ey, hx, h2⟩ := dst_at q
        have a := ih (x e) (hv e he ho).1 hx
        have b := hcl e he ho (by omega)
        rw [ey] at b
        omega
      · have m := dst_s (x := x) (y := y) (c := c) (ok := ok) (E := E) (s := s) k v
        have a := ih v hv' (by omega)
        omega
  refine ⟨hcl, h.2.2.1, h.2.2.2, fun v hv' hf => ?_, fun v hv' => (h.1 v hv').2.1, ?_⟩
  · have a := (h.1 v hv').1
    have b := up P v hv' (by omega)
    have b2 := dst_hB (x := x) (y := y) (s := s) hc P v (by omega)
    omega
  · have a := (h.1 s hs).1
    have b := dst_pi (s := s) hp P s (by omega)
    omega
theorem czG_pi (h : czG x y c ok E s P d p) (hp : ∀ e : Nat, e < E → ok e = true → pi (y e) ≤ pi (x e) + c e) (hv : ∀ e : Nat, e < E → ok e = true → x e < P ∧ y e < P) (hc : ∀ e : Nat, e < E → ok e = true → c e ≤ 101) (hP : P ≤ 12) : ∃ p2 : Nat → Int, (∀ e : Nat, e < E → ok e = true → p2 (y e) ≤ p2 (x e) + c e) ∧ (∀ v : Nat, d v < 1099511627776 → p2 v = d v) := by
  obtain ⟨M, hM⟩ := bnd (fun v => d v - pi v) P
  refine ⟨fun v => if d v < 1099511627776 then d v else pi v + M, fun e he ho => ?_, fun v hv => if_pos hv⟩
  have w := hv e he ho
  have pe := hp e he ho
  have m1 : d (y e) - pi (y e) ≤ M := hM (y e) w.2
  show (if d (y e) < 1099511627776 then d (y e) else pi (y e) + M) ≤ (if d (x e) < 1099511627776 then d (x e) else pi (x e) + M) + c e
  by_cases q : d (x e) < 1099511627776
  · rw [if_pos q]
    have dd := h.1 e he ho q
    by_cases q2 : d (y e) < 1099511627776
    · rw [if_pos q2]
      exact dd
    · exfalso
      have u := h.2.2.2.1 (x e) w.1 q
      have ce := hc e he ho
      omega
  · rw [if_neg q]
    by_cases q2 : d (y e) < 1099511627776
    · rw [if_pos q2]
      omega
    · rw [if_neg q2]
      omega
/-- the chain from v back to s: places, steps that are tight -/
theorem czG_fin (hz : czG x y c ok E s P d p) (hv : ∀ e : Nat, e < E → ok e = true → x e < P ∧ y e < P) {t R : Nat} (ht : t < P) (hf : d t < 1099511627776) (hR : rcs p s R t) : ∀ i : Nat, i ≤ R → itr p i t < P ∧ d (itr p i t) < 1099511627776
  | 0, _ => ⟨ht, hf⟩
  | i + 1, hi => by
    have a := czG_fin hz hv ht hf hR i (by omega)
    have r := rcs_itr hR i (by omega)
    rw [show R - i = (R - i - 1) + 1 by omega] at r
    obtain ⟨e, q1, q2, q4, q5, q6, q7⟩ := hz.2.1 _ a.1 r.1 a.2
    have w := hv e q1 q2
    have ee : itr p (i + 1) t = x e := q4
    rw [ee]
    exact ⟨w.1, q6⟩
theorem czG_e (hz : czG x y c ok E s P d p) (hv : ∀ e : Nat, e < E → ok e = true → x e < P ∧ y e < P) {t R : Nat} (ht : t < P) (hf : d t < 1099511627776) (hR : rcs p s R t) {i : Nat} (hi : i < R) : ∃ e : Nat, e < E ∧ ok e = true ∧ itr p (i + 1) t = x e ∧ itr p i t = y e ∧ d (x e) < 1099511627776 ∧ d (y e) = d (x e) + c e := by
  have a := czG_fin hz hv ht hf hR i (by omega)
  have r := rcs_itr hR i (by omega)
  rw [show R - i = (R - i - 1) + 1 by omega] at r
  obtain ⟨e, q1, q2, q4, q5, q6, q7⟩ := hz.2.1 _ a.1 r.1 a.2
  have dd := hz.1 e q1 q2 q6
  rw [q5] at dd
  refine ⟨e, q1, q2, q4, q5.symm, q6, ?_⟩
  rw [q5]
  omega
end CWG
theorem itr_inj {p : Nat → Nat} {s t R : Nat} (hR : rcs p s R t) {i j : Nat} (hi : i ≤ R) (hj : j ≤ R) (h : itr p i t = itr p j t) : i = j := by
  have a := rcs_itr hR i hi
  have b := rcs_itr hR j hj
  rw [h] at a
  have := rcs_un _ _ _ a b
  omega
theorem itr_end {p : Nat → Nat} {s t R : Nat} (hR : rcs p s R t) : itr p R t = s := by
  have a := rcs_itr hR R (Nat.le_refl R)
  rw [Nat.sub_self] at a
  exact a
/-! ===== the class's pairs of places as steps ===== -/
section PRS
variable {M M2 p : Nat → Nat → Int} {P : Nat} {pi : Nat → Int}
noncomputable def sC (M p : Nat → Nat → Int) (x y : Nat) : Int := arS (M x y) (M y x) (p x y)
noncomputable def okM (M p : Nat → Nat → Int) (P : Nat) : Prop := ∀ x y : Nat, x < P → y < P → x ≠ y → arK (M x y) (M y x) (p x y) ∧ p x y ≤ 1000000000 ∧ p x y = p y x ∧ (p x y < 1000000000 → p x y ≤ 101)
noncomputable def potC (M p : Nat → Nat → Int) (P : Nat) (pi : Nat → Int) : Prop := ∀ x y : Nat, x < P → y < P → x ≠ y → sC M p x y < 1000000000 → pi y ≤ pi x + sC M p x y
theorem arK_sw {m m2 q : Int} (h : arK m m2 q) : arK m2 m q := by
  unfold arK at *
  omega
theorem potC_ar {x y : Nat} (hk : okM M p P) (hp : potC M p P pi) (hx : x < P) (hy : y < P) (hn : x ≠ y) : arP (M x y) (M y x) (p x y) (pi y - pi x) := by
  have a := hp x y hx hy hn
  have b := hp y x hy hx (fun q => hn q.symm)
  have e := (hk x y hx hy hn).2.2.1
  unfold sC at a b
  rw [← e] at b
  exact ⟨fun h => by have := a h; omega, fun h => by have := b h; omega⟩
theorem pt_push {x y : Nat} {a : Int} (hk : okM M p P) (hp : potC M p P pi) (hx : x < P) (hy : y < P) (hn : x ≠ y) (hf : sC M p x y < 1000000000) (ht : pi y = pi x + sC M p x y) (h1 : 1 ≤ a) (ha : a ≤ arM (M x y) (M y x)) (he : edg M M2 x y a) : okM M2 p P ∧ potC M2 p P pi := by
  have exy : M2 x y = M x y - a := by
    rw [he x y, if_pos ⟨rfl, rfl⟩, if_neg (fun q => hn q.2)]
    omega
  have eyx : M2 y x = M y x + a := by
    rw [he y x, if_neg (fun q => hn q.1), if_pos ⟨rfl, rfl⟩]
    omega
  have eo : ∀ u v : Nat, ¬ (u = x ∧ v = y) → ¬ (u = y ∧ v = x) → M2 u v = M u v := fun u v q1 q2 => by
    rw [he u v, if_neg (fun q => q1 ⟨q.1.symm, q.2.symm⟩), if_neg (fun q => q2 ⟨q.1.symm, q.2.symm⟩)]
    omega
  have kk := hk x y hx hy hn
  have ky := hk y x hy hx (fun q => hn q.symm)
  obtain ⟨k1, k2⟩ := ar_push (d := pi y - pi x) kk.1 kk.2.1 (by unfold sC at ht; omega) hf h1 ha
  refine ⟨fun u v hu hv huv => ?_, fun u v hu hv huv hs => ?_⟩
  · by_cases q : u = x ∧ v = y
    · rw [q.1, q.2, exy, eyx]
      exact ⟨k1, kk.2⟩
    · by_cases q2 : u = y ∧ v = x
      · rw [q2.1, q2.2, exy, eyx]
        refine ⟨?_, ky.2⟩
        rw [← kk.2.2.1]
        exact arK_sw k1
      · rw [eo u v q q2, eo v u (fun w => q2 ⟨w.2, w.1⟩) (fun w => q ⟨w.2, w.1⟩)]
        exact hk u v hu hv huv
  · unfold sC at hs ⊢
    by_cases q : u = x ∧ v = y
    · rw [q.1, q.2, exy, eyx] at hs ⊢
      have := k2.1 hs
      omega
    · by_cases q2 : u = y ∧ v = x
      · rw [q2.1, q2.2, exy, eyx, ← kk.2.2.1] at hs ⊢
        have := k2.2 hs
        omega
      · have e1 := eo u v q q2
        have e2 := eo v u (fun w => q2 ⟨w.2, w.1⟩) (fun w => q ⟨w.2, w.1⟩)
        rw [e1, e2] at hs ⊢
        exact hp u v hu hv huv hs
/-! along the way -/
noncomputable def mtW (M : Nat → Nat → Int) (a : Int) (q : Nat → Nat) (t : Nat) : Nat → Nat → Nat → Int
  | 0 => M
  | i + 1 => fun u v => mtW M a q t i u v + (if itr q (i + 1) t = u ∧ itr q i t = v then -a else 0) + (if itr q i t = u ∧ itr q (i + 1) t = v then a else 0)
theorem mtW_edg {a : Int} {q : Nat → Nat} {t i : Nat} : edg (mtW M a q t i) (mtW M a q t (i + 1)) (itr q (i + 1) t) (itr q i t) a := fun _ _ => rfl
theorem mtW_un {a : Int} {q : Nat → Nat} {s t R : Nat} (hR : rcs q s R t) : ∀ i k : Nat, i ≤ k → k < R → mtW M a q t i (itr q (k + 1) t) (itr q k t) = M (itr q (k + 1) t) (itr q k t) ∧ mtW M a q t i (itr q k t) (itr q (k + 1) t) = M (itr q k t) (itr q (k + 1) t)
  | 0, k, _, _ => ⟨rfl, rfl⟩
  | i + 1, k, h1, h2 => by
    have b := mtW_un (a := a) hR i k (by omega) h2
    have n1 : ¬ itr q i t = itr q k t := fun w => by
      have := itr_inj hR (by omega) (by omega) w
      omega
    have n2 : ¬ itr q i t = itr q (k + 1) t := fun w => by
      have := itr_inj hR (by omega) (by omega) w
      omega
    constructor
    · show mtW M a q t i (itr q (k + 1) t) (itr q k t) + _ + _ = _
      rw [if_neg (fun w => n1 w.2), if_neg (fun w => n2 w.1), b.1]
      omega
    · show mtW M a q t i (itr q k t) (itr q (k + 1) t) + _ + _ = _
      rw [if_neg (fun w => n2 w.2), if_neg (fun w => n1 w.1), b.2]
      omega
/-- a chain whose steps are tight, with room for a -/
noncomputable def chT (M p : Nat → Nat → Int) (P : Nat) (pi : Nat → Int) (q : Nat → Nat) (t R : Nat) (a : Int) : Prop := ∀ i : Nat, i < R → itr q i t < P ∧ itr q (i + 1) t < P ∧ sC M p (itr q (i + 1) t) (itr q i t) < 1000000000 ∧ pi (itr q i t) = pi (itr q (i + 1) t) + sC M p (itr q (i + 1) t) (itr q i t) ∧ a ≤ arM (M (itr q (i + 1) t) (itr q i t)) (M (itr q i t) (itr q (i + 1) t))
theorem way_push {a : Int} {q : Nat → Nat} {s t R : Nat} (hR : rcs q s R t) (hk : okM M p P) (hp : potC M p P pi) (h1 : 1 ≤ a) (hc : chT M p P pi q t R a) : ∀ i : Nat, i ≤ R → okM (mtW M a q t i) p P ∧ potC (mtW M a q t i) p P pi
  | 0, _ => ⟨hk, hp⟩
  | i + 1, hi => by
    obtain ⟨k1, k2⟩ := way_push hR hk hp h1 hc i (by omega)
    obtain ⟨c1, c2, c3, c4, c5⟩ := hc i (by omega)
    obtain ⟨u1, u2⟩ := mtW_un (M := M) (a := a) hR i i (Nat.le_refl i) (by omega)
    have es : sC (mtW M a q t i) p (itr q (i + 1) t) (itr q i t) = sC M p (itr q (i + 1) t) (itr q i t) := by
      unfold sC
      rw [u1, u2]
    refine pt_push k1 k2 c2 c1 (fun w => ?_) (by rw [es]; exact c3) (by rw [es]; exact c4) h1 (by rw [u1, u2]; exact c5) mtW_edg
    have := itr_inj hR (by omega) (by omega) w
    omega
theorem way_pt {a : Int} {q : Nat → Nat} {t R : Nat} {pi2 : Nat → Int} (hP : ∀ i : Nat, i ≤ R → itr q i t < P) : ∀ i : Nat, i ≤ R → ptZ (mtW M a q t i) pi2 P = ptZ M pi2 P - a * (pi2 t - pi2 (itr q i t))
  | 0, _ => by
    show ptZ M pi2 P = ptZ M pi2 P - a * (pi2 t - pi2 t)
    rw [Int.sub_self, Int.mul_zero, Int.sub_zero]
  | i + 1, hi => by
    have a1 := way_pt (a := a) (pi2 := pi2) hP i (by omega)
    rw [ptZ_edg (mtW_edg (M := M) (a := a) (q := q) (t := t) (i := i)) (hP (i + 1) hi) (hP i (by omega)), a1, Int.sub_sub, ← Int.mul_add, show pi2 t - pi2 (itr q i t) + (pi2 (itr q i t) - pi2 (itr q (i + 1) t)) = pi2 t - pi2 (itr q (i + 1) t) by omega]
/-! what is paid -/
noncomputable def cPZ (M p : Nat → Nat → Int) (P : Nat) : Int := sumI (fun x => sumI (fun y => if x = y then 0 else arC (M x y) (p x y)) P) P
theorem ptZ_weak (hk : okM M p P) (hf : ∀ x y : Nat, x < P → y < P → x ≠ y → p x y < 1000000000 → pi y - pi x ≤ p x y) : -ptZ M pi P ≤ cPZ M p P := by
  have neg : ∀ (f : Nat → Int) (n : Nat), -sumI f n = sumI (fun j => -f j) n := fun f n => by
    induction n with
    | zero => rfl
    | succ n ih =>
      show -(sumI f n + f n) = sumI (fun j => -f j) n + -f n
      rw [← ih]
      omega
  unfold ptZ cPZ
  rw [neg]
  refine sumI_le P (fun x hx => ?_)
  rw [neg]
  refine sumI_le P (fun y hy => ?_)
  by_cases e : x = y
  · rw [if_pos e, e, wP_self, Int.zero_mul]
    exact Int.le_refl _
  · rw [if_neg e]
    refine ar_weak (hk x y hx hy e).1 wP_nn (fun q => ?_)
    have a := hf x y hx hy e q
    have b := (hk x y hx hy e).1.2.1
    unfold wP
    split <;> omega
theorem ptZ_strong (hk : okM M p P) (hp : potC M p P pi) : -ptZ M pi P = cPZ M p P := by
  have neg : ∀ (f : Nat → Int) (n : Nat), -sumI f n = sumI (fun j => -f j) n := fun f n => by
    induction n with
    | zero => rfl
    | succ n ih =>
      show -(sumI f n + f n) = sumI (fun j => -f j) n + -f n
      rw [← ih]
      omega
  unfold ptZ cPZ
  rw [neg]
  refine sumI_congr P (fun x hx => ?_)
  rw [neg]
  refine sumI_congr P (fun y hy => ?_)
  by_cases e : x = y
  · rw [if_pos e, e, wP_self, Int.zero_mul]
    rfl
  · rw [if_neg e, ← ar_strong (hk x y hx hy e).1 (potC_ar hk hp hx hy e)]
    have w : wP pi x y = if 0 < pi y - pi x then pi y - pi x else 0 := by
      unfold wP
      by_cases z : pi x < pi y
      · rw [if_pos z, if_pos (by omega)]
      · rw [if_neg z, if_neg (by omega)]
    rw [w]
theorem cPZ_0 (h : ∀ x y : Nat, x < P → y < P → 0 ≤ M x y) : cPZ M p P = 0 := by
  unfold cPZ
  refine (sumI_congr P (fun x hx => ?_)).trans (sumI_zero P)
  refine (sumI_congr P (fun y hy => ?_)).trans (sumI_zero P)
  have a := h x y hx hy
  unfold arC mx0
  rw [if_neg (show ¬ 0 < -M x y by omega), Int.mul_zero]
  (repeat' split) <;> rfl
theorem potC_0 (hk : okM M p P) (h : ∀ x y : Nat, x < P → y < P → 0 ≤ M x y) : potC M p P (fun _ => 0) := fun x y hx hy hn hs => by
  have a := h y x hy hx
  have b := (hk x y hx hy hn).1.2.1
  show (0 : Int) ≤ 0 + sC M p x y
  unfold sC arS
  rw [if_neg (by omega)]
  split <;> omega
/-! the search over pairs -/
noncomputable def oC (M p : Nat → Nat → Int) (P : Nat) (e : Nat) : Bool := decide (e % 12 < P ∧ e / 12 ≠ e % 12 ∧ sC M p (e / 12) (e % 12) < 1000000000)
theorem oC_iff {e : Nat} : oC M p P e = true ↔ e % 12 < P ∧ e / 12 ≠ e % 12 ∧ sC M p (e / 12) (e % 12) < 1000000000 := decide_eq_true_iff
theorem oC_v : ∀ e : Nat, e < 12 * P → oC M p P e = true → e / 12 < P ∧ e % 12 < P := fun e he ho => by
  have := oC_iff.mp ho
  omega
theorem oC_p (hp : potC M p P pi) : ∀ e : Nat, e < 12 * P → oC M p P e = true → pi (e % 12) ≤ pi (e / 12) + sC M p (e / 12) (e % 12) := fun e he ho => by
  have v := oC_v e he ho
  have o := oC_iff.mp ho
  exact hp _ _ v.1 v.2 o.2.1 o.2.2
theorem sC_rng {x y : Nat} (hk : okM M p P) (hx : x < P) (hy : y < P) (hn : x ≠ y) (hs : sC M p x y < 1000000000) : -101 ≤ sC M p x y ∧ sC M p x y ≤ 101 := by
  have a := hk x y hx hy hn
  unfold sC arS at *
  obtain ⟨⟨a1, a2, a3⟩, b1, b2, b3⟩ := a
  by_cases z : M y x < 0
  · rw [if_pos z]
    have := b3 (by omega)
    omega
  · rw [if_neg z] at hs ⊢
    by_cases w : 0 < M x y
    · rw [if_pos w]
      omega
    · rw [if_neg w] at hs ⊢
      have := b3 hs
      omega
theorem oC_hi (hk : okM M p P) : ∀ e : Nat, e < 12 * P → oC M p P e = true → sC M p (e / 12) (e % 12) ≤ 101 := fun e he ho => by
  have v := oC_v e he ho
  have o := oC_iff.mp ho
  exact (sC_rng hk v.1 v.2 o.2.1 o.2.2).2
theorem oC_lo (hk : okM M p P) : ∀ e : Nat, e < 12 * P → oC M p P e = true → -101 ≤ sC M p (e / 12) (e % 12) := fun e he ho => by
  have v := oC_v e he ho
  have o := oC_iff.mp ho
  exact (sC_rng hk v.1 v.2 o.2.1 o.2.2).1
/-- costs, as the class has them -/
noncomputable def dC (f : Nat → Int32) (v : Nat) : Int := if (f v).toInt = 1000000000 then 1099511627776 else (f v).toInt
noncomputable def cwC (M p : Nat → Nat → Int) (P s : Nat) (f q : Nat → Int32) (rnd cu : Nat) : Prop := cwG (fun e => e / 12) (fun e => e % 12) (fun e => sC M p (e / 12) (e % 12)) (oC M p P) (12 * P) s P (dC f) (nF q) rnd cu
noncomputable def bdC (P : Nat) (f : Nat → Int32) (B : Int) : Prop := ∀ v : Nat, v < P → (f v).toInt ≠ 1000000000 → (f v).toInt ≤ B
noncomputable def rlC (M p : Nat → Nat → Int) (P : Nat) (f : Nat → Int32) (lo hi : Nat) : Prop := ∀ e : Nat, lo ≤ e → e < hi → oC M p P e = true → dC f (e / 12) < 1099511627776 → dC f (e % 12) ≤ dC f (e / 12) + sC M p (e / 12) (e % 12)
noncomputable def czC (M p : Nat → Nat → Int) (P s : Nat) (f q : Nat → Int32) : Prop := czG (fun e => e / 12) (fun e => e % 12) (fun e => sC M p (e / 12) (e % 12)) (oC M p P) (12 * P) s P (dC f) (nF q)
end PRS
/-! ===== the class's search, step by step ===== -/
section LKF
variable {M p : Nat → Nat → Int} {P s : Nat} {pi : Nat → Int} {fc f f2 ff q q2 : Nat → Int32} {X Y Y2 v : Int32}
theorem e_dm {x y : Nat} (h : y < 12) : (12 * x + y) / 12 = x ∧ (12 * x + y) % 12 = y := by omega
theorem i32_hi (a : Int32) : a.toInt < 2147483648 := by
  have := Int32.toInt_lt a
  omega
theorem dC_n {w : Nat} (h : (f w).toInt ≠ 1000000000) : dC f w = (f w).toInt := if_neg h
theorem dC_y {w : Nat} (h : (f w).toInt = 1000000000) : dC f w = 1099511627776 := if_pos h
theorem dC_lt {w : Nat} : dC f w < 1099511627776 ↔ (f w).toInt ≠ 1000000000 := by
  unfold dC
  have := i32_hi (f w)
  split <;> omega
noncomputable def lkI (M p : Nat → Nat → Int) (P X : Nat) (fc ff f q : Nat → Int32) (n : Nat) : Prop := ∀ s rnd : Nat, cwC M p P s fc ff rnd (12 * X) → cwC M p P s f q rnd (12 * X + n)
theorem lkI_0 {X : Nat} : lkI M p P X fc ff fc ff (0 : Int32).toNatClampNeg := fun s rnd h => by
  rw [cl_0]
  exact h
theorem lkI_relax {P : Int32} (h : lkI M p P.toNatClampNeg X.toNatClampNeg fc ff f q Y.toNatClampNeg) (hp : potC M p P.toNatClampNeg pi) (hX : 0 ≤ X.toInt ∧ X.toInt < P.toInt) (hY : 0 ≤ Y.toInt ∧ Y.toInt < P.toInt) (hP : P.toInt ≤ 12) (hn : X.toInt ≠ Y.toInt) (hs : sC M p X.toNatClampNeg Y.toNatClampNeg < 1000000000) (hx : (f X.toNatClampNeg).toInt ≠ 1000000000) (hlt : (f X.toNatClampNeg).toInt + sC M p X.toNatClampNeg Y.toNatClampNeg < (f Y.toNatClampNeg).toInt)
    (e1 : f2 = upd f Y.toNatClampNeg v) (ev : v.toInt = (f X.toNatClampNeg).toInt + sC M p X.toNatClampNeg Y.toNatClampNeg) (hv : v.toInt ≠ 1000000000) (e2 : q2 = upd q Y.toNatClampNeg X) (ei : Y2.toInt = Y.toInt + 1) : lkI M p P.toNatClampNeg X.toNatClampNeg fc ff f2 q2 Y2.toNatClampNeg := fun s rnd h0 => by
  have w := h s rnd h0
  have cX := clI hX.1
  have cY := clI hY.1
  have cP := clI (i := P) (by omega)
  rw [nI2 ei hY.1]
  have em := e_dm (x := X.toNatClampNeg) (y := Y.toNatClampNeg) (by omega)
  have ho : oC M p P.toNatClampNeg (12 * X.toNatClampNeg + Y.toNatClampNeg) = true := oC_iff.mpr (by rw [em.1, em.2]; exact ⟨by omega, by omega, hs⟩)
  have n1 : f2 Y.toNatClampNeg = v := by rw [e1, pk_us]
  have n2 : ∀ u : Nat, u ≠ Y.toNatClampNeg → f2 u = f u := fun u hu => by rw [e1, pk_un hu]
  have hE : 12 * X.toNatClampNeg + Y.toNatClampNeg < 12 * P.toNatClampNeg := by omega
  refine cwG_relax (pi := pi) w (oC_p hp) oC_v (by omega) hE ho ?_ ?_ ?_ (fun u hu => ?_) ?_ (fun u hu => ?_)
  · show dC f ((12 * X.toNatClampNeg + Y.toNatClampNeg) / 12) < _
    rw [em.1]
    exact dC_lt.mpr hx
  · show dC f ((12 * X.toNatClampNeg + Y.toNatClampNeg) / 12) + sC M p ((12 * X.toNatClampNeg + Y.toNatClampNeg) / 12) ((12 * X.toNatClampNeg + Y.toNatClampNeg) % 12) < dC f ((12 * X.toNatClampNeg + Y.toNatClampNeg) % 12)
    rw [em.1, em.2, dC_n hx]
    unfold dC
    have := i32_hi (f Y.toNatClampNeg)
    split <;> omega
  · show dC f2 ((12 * X.toNatClampNeg + Y.toNatClampNeg) % 12) = dC f ((12 * X.toNatClampNeg + Y.toNatClampNeg) / 12) + sC M p ((12 * X.toNatClampNeg + Y.toNatClampNeg) / 12) ((12 * X.toNatClampNeg + Y.toNatClampNeg) % 12)
    rw [em.1, em.2, dC_n hx]
    unfold dC
    rw [n1, if_neg hv]
    exact ev
  · have hu' : u ≠ Y.toNatClampNeg := fun z => hu (by show u = (12 * X.toNatClampNeg + Y.toNatClampNeg) % 12; rw [em.2]; exact z)
    unfold dC
    rw [n2 u hu']
  · show nF q2 ((12 * X.toNatClampNeg + Y.toNatClampNeg) % 12) = (12 * X.toNatClampNeg + Y.toNatClampNeg) / 12
    rw [em.1, em.2]
    unfold nF
    rw [e2, pk_us]
  · have hu' : u ≠ Y.toNatClampNeg := fun z => hu (by show u = (12 * X.toNatClampNeg + Y.toNatClampNeg) % 12; rw [em.2]; exact z)
    unfold nF
    rw [e2, pk_un hu']
/-- why a step is not taken -/
theorem no_st {P : Int32} (hX : 0 ≤ X.toInt ∧ X.toInt < P.toInt) (hY : 0 ≤ Y.toInt ∧ Y.toInt < P.toInt) (hP : P.toInt ≤ 12) (hw : X.toInt = Y.toInt ∨ ¬ sC M p X.toNatClampNeg Y.toNatClampNeg < 1000000000 ∨ ((f X.toNatClampNeg).toInt ≠ 1000000000 ∧ (f Y.toNatClampNeg).toInt ≠ 1000000000 ∧ (f Y.toNatClampNeg).toInt ≤ (f X.toNatClampNeg).toInt + sC M p X.toNatClampNeg Y.toNatClampNeg)) : oC M p P.toNatClampNeg (12 * X.toNatClampNeg + Y.toNatClampNeg) = true → dC f ((12 * X.toNatClampNeg + Y.toNatClampNeg) % 12) ≤ dC f ((12 * X.toNatClampNeg + Y.toNatClampNeg) / 12) + sC M p ((12 * X.toNatClampNeg + Y.toNatClampNeg) / 12) ((12 * X.toNatClampNeg + Y.toNatClampNeg) % 12) := fun ho => by
  have cX := clI hX.1
  have cY := clI hY.1
  have em := e_dm (x := X.toNatClampNeg) (y := Y.toNatClampNeg) (by omega)
  have o := oC_iff.mp ho
  rw [em.1, em.2] at o ⊢
  rcases hw with z | z | z
  · exact absurd (nc_eq z) o.2.1
  · exact absurd o.2.2 z
  · rw [dC_n z.1, dC_n z.2.1]
    exact z.2.2
theorem lkI_skip {P : Int32} (h : lkI M p P.toNatClampNeg X.toNatClampNeg fc ff f q Y.toNatClampNeg) (hX : 0 ≤ X.toInt ∧ X.toInt < P.toInt) (hY : 0 ≤ Y.toInt ∧ Y.toInt < P.toInt) (hP : P.toInt ≤ 12) (hw : oC M p P.toNatClampNeg (12 * X.toNatClampNeg + Y.toNatClampNeg) = true → dC f ((12 * X.toNatClampNeg + Y.toNatClampNeg) % 12) ≤ dC f ((12 * X.toNatClampNeg + Y.toNatClampNeg) / 12) + sC M p ((12 * X.toNatClampNeg + Y.toNatClampNeg) / 12) ((12 * X.toNatClampNeg + Y.toNatClampNeg) % 12)) (ei : Y2.toInt = Y.toInt + 1) : lkI M p P.toNatClampNeg X.toNatClampNeg fc ff f q Y2.toNatClampNeg := fun s rnd h0 => by
  have w := h s rnd h0
  have cX := clI hX.1
  have cY := clI hY.1
  have cP := clI (i := P) (by omega)
  rw [nI2 ei hY.1]
  have hE : 12 * X.toNatClampNeg + Y.toNatClampNeg < 12 * P.toNatClampNeg := by omega
  exact cwG_skip w (fun o => (oC_v _ hE o).1) (fun o _ => hw o)
theorem rlC_st {P : Int32} {lo : Nat} (h : rlC M p P.toNatClampNeg f lo (12 * X.toNatClampNeg + Y.toNatClampNeg)) (hY : 0 ≤ Y.toInt) (hw : oC M p P.toNatClampNeg (12 * X.toNatClampNeg + Y.toNatClampNeg) = true → dC f ((12 * X.toNatClampNeg + Y.toNatClampNeg) % 12) ≤ dC f ((12 * X.toNatClampNeg + Y.toNatClampNeg) / 12) + sC M p ((12 * X.toNatClampNeg + Y.toNatClampNeg) / 12) ((12 * X.toNatClampNeg + Y.toNatClampNeg) % 12)) (ei : Y2.toInt = Y.toInt + 1) : rlC M p P.toNatClampNeg f lo (12 * X.toNatClampNeg + Y2.toNatClampNeg) := fun e h1 h2 ho _ => by
  rw [nI2 ei hY] at h2
  by_cases z : e = 12 * X.toNatClampNeg + Y.toNatClampNeg
  · rw [z] at ho ⊢
    exact hw ho
  · exact h e h1 (by omega) ho (by assumption)
noncomputable def bdI (P : Nat) (fc f : Nat → Int32) (n : Int) : Prop := ∀ B : Int, bdC P fc B → bdC P f (B + 101 * n)
theorem bdI_0 : bdI P fc fc (0 : Int32).toInt := fun B h v hv hf => by
  have := h v hv hf
  have z : (0 : Int32).toInt = 0 := by decide
  omega
theorem bdI_up {n n2 : Int} (h : bdI P fc f n) (h2 : n2 = n + 1) : bdI P fc f n2 := fun B hb v hv hf => by
  have := h B hb v hv hf
  omega
theorem bdI_st {n n2 : Int} {w : Int32} (h : bdI P fc f n) (e1 : f2 = upd f Y.toNatClampNeg v) (hx : (f w.toNatClampNeg).toInt ≠ 1000000000) (hw : w.toNatClampNeg < P) (hv : v.toInt ≤ (f w.toNatClampNeg).toInt + 101) (h2 : n2 = n + 1) : bdI P fc f2 n2 := fun B hb u hu hf => by
  by_cases z : u = Y.toNatClampNeg
  · have a := h B hb _ hw hx
    rw [e1, z, pk_us]
    omega
  · rw [e1, pk_un z] at hf ⊢
    have := h B hb u hu hf
    omega
theorem lkI_lo {P : Nat} {X n : Nat} (h : lkI M p P X fc ff f q n) (hc : ∃ s rnd : Nat, cwC M p P s fc ff rnd (12 * X)) (hk : okM M p P) (hP : P ≤ 12) {w : Nat} (hw : w < P) : -1212 ≤ (f w).toInt := by
  obtain ⟨s, rnd, h0⟩ := hc
  have a := cwG_lo (h s rnd h0) hP (oC_lo hk) hw
  unfold dC at a
  split at a <;> omega
end LKF
/-! ===== prices by pairs ===== -/
/-- prices behind n lines: the least of what lines between two places cost; 1000000000: there is none -/
noncomputable def prM (fk fs fe fp : Nat → Int32) (P n : Nat) (M : Nat → Nat → Int) : Prop :=
  (∀ x y : Nat, x < P → y < P → M x y ≤ 1000000000 ∧ 0 ≤ M x y ∧ M x y = M y x ∧ (M x y < 1000000000 → ∃ l : Nat, l < n ∧ (fs l).toInt ≠ -9 ∧ cst (fk l).toInt (fp l).toInt = M x y ∧ cst (fk l).toInt (fp l).toInt ≠ -9 ∧ ((nF fs l = x ∧ nF fe l = y) ∨ (nF fs l = y ∧ nF fe l = x)))) ∧
  (∀ l : Nat, l < n → (fs l).toInt ≠ -9 → cst (fk l).toInt (fp l).toInt ≠ -9 → M (nF fs l) (nF fe l) ≤ cst (fk l).toInt (fp l).toInt)
section PRI
variable {fk fs fe fp : Nat → Int32} {P n : Nat} {M M2 : Nat → Nat → Int}
theorem prM_0 (h : ∀ x y : Nat, x < P → y < P → M x y = 1000000000) : prM fk fs fe fp P 0 M := by
  refine ⟨fun x y hx hy => ?_, fun l hl => absurd hl (Nat.not_lt_zero _)⟩
  rw [h x y hx hy, h y x hy hx]
  exact ⟨Int.le_refl _, by decide, rfl, fun w => absurd w (Int.lt_irrefl _)⟩
theorem prM_no (h : prM fk fs fe fp P n M) (hn : (fs n).toInt = -9 ∨ cst (fk n).toInt (fp n).toInt = -9) : prM fk fs fe fp P (n + 1) M := by
  refine ⟨fun x y hx hy => ?_, fun l hl h1 h2 => ?_⟩
  · obtain ⟨a, b, c, d⟩ := h.1 x y hx hy
    refine ⟨a, b, c, fun w => ?_⟩
    obtain ⟨l, hl, r⟩ := d w
    exact ⟨l, by omega, r⟩
  · by_cases z : l = n
    · rw [z] at h1 h2
      rcases hn with w | w
      · exact absurd w h1
      · exact absurd w h2
    · exact h.2 l (by omega) h1 h2
theorem prM_st (h : prM fk fs fe fp P n M) (hm : (fs n).toInt ≠ -9) (hc : cst (fk n).toInt (fp n).toInt ≠ -9) (hr : 0 ≤ cst (fk n).toInt (fp n).toInt ∧ cst (fk n).toInt (fp n).toInt ≤ 101) (ha : nF fs n < P) (hb : nF fe n < P)
    (e1 : M2 (nF fs n) (nF fe n) = loI (M (nF fs n) (nF fe n)) (cst (fk n).toInt (fp n).toInt)) (e2 : M2 (nF fe n) (nF fs n) = M2 (nF fs n) (nF fe n)) (eo : ∀ x y : Nat, ¬ (x = nF fs n ∧ y = nF fe n) → ¬ (x = nF fe n ∧ y = nF fs n) → M2 x y = M x y) : prM fk fs fe fp P (n + 1) M2 := by
  have hab := h.1 _ _ ha hb
  have key : ∀ x y : Nat, ((x = nF fs n ∧ y = nF fe n) ∨ (x = nF fe n ∧ y = nF fs n)) → M2 x y = loI (M (nF fs n) (nF fe n)) (cst (fk n).toInt (fp n).toInt) := fun x y q => by
    rcases q with q | q
    · rw [q.1, q.2, e1]
    · rw [q.1, q.2, e2, e1]
  have lo1 : ∀ a b : Int, loI a b ≤ a ∧ loI a b ≤ b ∧ (loI a b = a ∨ loI a b = b) := fun a b => by
    unfold loI
    split <;> omega
  have L := lo1 (M (nF fs n) (nF fe n)) (cst (fk n).toInt (fp n).toInt)
  refine ⟨fun x y hx hy => ?_, fun l hl h1 h2 => ?_⟩
  · by_cases q : (x = nF fs n ∧ y = nF fe n) ∨ (x = nF fe n ∧ y = nF fs n)
    · rw [key x y q, key y x (by omega)]
      refine ⟨by omega, by omega, rfl, fun w => ?_⟩
      rcases L.2.2 with z | z
      · rw [z] at w ⊢
        obtain ⟨l, hl, r1, r2, r3, r4⟩ := hab.2.2.2 w
        exact ⟨l, by omega, r1, r2, r3, by omega⟩
      · rw [z]
        exact ⟨n, by omega, hm, rfl, hc, by omega⟩
    · rw [eo x y (by omega) (by omega), eo y x (by omega) (by omega)]
      obtain ⟨a, b, c, d⟩ := h.1 x y hx hy
      refine ⟨a, b, c, fun w => ?_⟩
      obtain ⟨l, hl, r⟩ := d w
      exact ⟨l, by omega, r⟩
  · by_cases z : l = n
    · rw [z, e1]
      exact L.2.1
    · have b := h.2 l (by omega) h1 h2
      by_cases q : (nF fs l = nF fs n ∧ nF fe l = nF fe n) ∨ (nF fs l = nF fe n ∧ nF fe l = nF fs n)
      · rw [key _ _ q]
        have : M (nF fs n) (nF fe n) ≤ cst (fk l).toInt (fp l).toInt := by
          rcases q with q | q
          · rw [← q.1, ← q.2]
            exact b
          · rw [q.1, q.2] at b
            have := hab.2.2.1
            omega
        omega
      · rw [eo _ _ (by omega) (by omega)]
        exact b
theorem okM_0 {R : Nat → Nat → Int} (h : prM fk fs fe fp P n M) (rp : rng fp 40 0 100) (hn : n ≤ 40) (hR : ∀ x y : Nat, x < P → y < P → 0 ≤ R x y) : okM R M P := fun x y hx hy _ => by
  obtain ⟨a, b, c, d⟩ := h.1 x y hx hy
  have r1 := hR x y hx hy
  have r2 := hR y x hy hx
  refine ⟨⟨by omega, b, fun _ => ⟨r1, r2⟩⟩, a, c, fun w => ?_⟩
  obtain ⟨l, hl, _, e, _, _⟩ := d w
  have k := rp l (by omega)
  have := cst_rng (k := (fk l).toInt) k.1 k.2
  omega
end PRI
/-! ===== the class's widening ===== -/
theorem vr_st {M M2 : Nat → Nat → Int32} {k : Nat} {g : Nat → Int32} {i i2 : Int32} (e : M2 = va_up M k g) (h : ∀ x y : Nat, (x : Int) < i.toInt → y < 12 → (M x y).toInt = 1000000000) (hg : ∀ j : Nat, j < 12 → g j = 1000000000) (hi : i.toInt = k) (ei : i2.toInt = i.toInt + 1) : ∀ x y : Nat, (x : Int) < i2.toInt → y < 12 → (M2 x y).toInt = 1000000000 := fun x y hx hy => by
  rw [e]
  by_cases z : x = k
  · rw [z, va_up_self, hg y hy]
    decide
  · rw [va_up_ne _ _ z]
    exact h x y (by omega) hy
section PRJ
variable {fk fs fe fp : Nat → Int32} {P : Int32} {i i2 : Int32}
theorem prM_00 {M : Nat → Nat → Int32} (h : ∀ x y : Nat, (x : Int) < i.toInt → y < 12 → (M x y).toInt = 1000000000) (hi : P.toInt ≤ i.toInt) (hP : 0 ≤ P.toInt ∧ P.toInt ≤ 12) : prM fk fs fe fp P.toNatClampNeg (0 : Int32).toNatClampNeg (zM M) := by
  have c := clI (i := P) hP.1
  rw [cl_0]
  exact prM_0 (fun x y hx hy => h x y (by omega) (by omega))
theorem prM_nI {n : Nat} {M : Nat → Nat → Int} (h : prM fk fs fe fp n i.toNatClampNeg M) (h0 : 0 ≤ i.toInt) (ei : i2.toInt = i.toInt + 1) (hn : (fs i.toNatClampNeg).toInt = -9 ∨ cst (fk i.toNatClampNeg).toInt (fp i.toNatClampNeg).toInt = -9) : prM fk fs fe fp n i2.toNatClampNeg M := by
  rw [nI2 ei h0]
  exact prM_no h hn
theorem prM_sI {n : Nat} {M M1 M2 : Nat → Nat → Int32} {a b v1 v2 c : Int32} (h : prM fk fs fe fp n i.toNatClampNeg (zM M)) (h0 : 0 ≤ i.toInt) (ei : i2.toInt = i.toInt + 1) (hm : (fs i.toNatClampNeg).toInt ≠ -9) (ea : a = fs i.toNatClampNeg) (eb : b = fe i.toNatClampNeg) (h1 : 0 ≤ a.toInt) (h2 : 0 ≤ b.toInt) (hd : a.toInt ≠ b.toInt) (ha : a.toNatClampNeg < n) (hb : b.toNatClampNeg < n)
    (ec : c.toInt = cst (fk i.toNatClampNeg).toInt (fp i.toNatClampNeg).toInt) (hc : c.toInt ≠ -9) (hr : 0 ≤ c.toInt ∧ c.toInt ≤ 101) (ev1 : v1.toInt = loI (M a.toNatClampNeg b.toNatClampNeg).toInt c.toInt) (e1 : M1 = va_up M a.toNatClampNeg (upd (M a.toNatClampNeg) b.toNatClampNeg v1)) (e2 : M2 = va_up M1 b.toNatClampNeg (upd (M1 b.toNatClampNeg) a.toNatClampNeg v2)) (ev2 : v2 = M1 a.toNatClampNeg b.toNatClampNeg) : prM fk fs fe fp n i2.toNatClampNeg (zM M2) := by
  have hab := nc_ne h1 h2 hd
  have m1 : M1 a.toNatClampNeg b.toNatClampNeg = v1 := by rw [e1, va_up_self, pk_us]
  have z1 : zM M2 a.toNatClampNeg b.toNatClampNeg = v1.toInt := by
    show (M2 a.toNatClampNeg b.toNatClampNeg).toInt = _
    rw [m1_v e2, if_neg (fun w => hab w.1), m1]
  have z2 : zM M2 b.toNatClampNeg a.toNatClampNeg = v1.toInt := by
    show (M2 b.toNatClampNeg a.toNatClampNeg).toInt = _
    rw [m1_v e2, if_pos ⟨rfl, rfl⟩, ev2, m1]
  have na : nF fs i.toNatClampNeg = a.toNatClampNeg := by rw [ea]; rfl
  have nb : nF fe i.toNatClampNeg = b.toNatClampNeg := by rw [eb]; rfl
  rw [nI2 ei h0]
  refine prM_st h hm (by rw [← ec]; exact hc) (by rw [← ec]; exact hr) (by rw [na]; exact ha) (by rw [nb]; exact hb) ?_ ?_ (fun x y q1 q2 => ?_)
  · rw [na, nb, z1, ev1, ← ec]
    rfl
  · rw [na, nb, z1, z2]
  · rw [na, nb] at q1 q2
    show (M2 x y).toInt = (M x y).toInt
    rw [m1_v e2, if_neg q2, m1_v e1, if_neg q1]
end PRJ
/-! chains -/
noncomputable def chQ (q : Nat → Int32) (s t R P : Nat) : Prop := R ≤ 11 ∧ rcs (nF q) s R t ∧ ∀ i : Nat, i ≤ R → itr (nF q) i t < P
section CHN
variable {q : Nat → Int32} {s t R P : Nat} {M p : Nat → Nat → Int} {f : Nat → Int32}
theorem czC_ch (hz : czC M p P s f q) (ht : t < P) (hf : (f t).toInt ≠ 1000000000) (hP : P ≤ 12) : ∃ R : Nat, chQ q s t R P := by
  have hf' : dC f t < 1099511627776 := dC_lt.mpr hf
  obtain ⟨R, hR⟩ := hz.2.2.1 t ht hf'
  have hfin := fun i hi => (czG_fin hz oC_v ht hf' hR i hi).1
  refine ⟨R, ?_, hR, hfin⟩
  have := pigeon P (R + 1) (fun i => (itr (nF q) i t : Int)) (fun i hi => by
    have a := hfin i (by omega)
    exact ⟨by omega, by omega⟩) (fun i j hij hj e => by
    have e2 : itr (nF q) i t = itr (nF q) j t := by
      have e9 : (itr (nF q) i t : Int) = (itr (nF q) j t : Int) := e
      omega
    have := itr_inj hR (by omega) (by omega) e2
    omega)
  omega
theorem chQ_lt {i : Nat} (h : chQ q s t R P) (hi : i ≤ R) (hn : itr (nF q) i t ≠ s) : i < R := ch_lt h.2.1 hi hn
theorem chQ_eq {i : Nat} (h : chQ q s t R P) (hi : i ≤ R) (he : itr (nF q) i t = s) : i = R := ch_eq h.2.1 hi he
theorem chQ_un {R2 : Nat} (h : chQ q s t R P) (h2 : chQ q s t R2 P) : R = R2 := rcs_un _ _ _ h.2.1 h2.2.1
/-- at step n of the chain, at y -/
noncomputable def atC (q : Nat → Int32) (t R : Nat) (n y : Nat) : Prop := n ≤ R ∧ y = itr (nF q) n t
theorem atC_0 : atC q t R (0 : Int32).toNatClampNeg t := by
  rw [cl_0]
  exact ⟨Nat.zero_le _, rfl⟩
theorem atC_st {y x n n2 : Int32} (h : atC q t R n.toNatClampNeg y.toNatClampNeg) (hc : chQ q s t R P) (hn : 0 ≤ n.toInt) (hy : y.toNatClampNeg ≠ s) (ex : x = q y.toNatClampNeg) (e2 : n2.toInt = n.toInt + 1) : atC q t R n2.toNatClampNeg x.toNatClampNeg := by
  rw [nI2 e2 hn]
  have l := chQ_lt hc h.1 (by rw [← h.2]; exact hy)
  refine ⟨l, ?_⟩
  rw [ex]
  show nF q y.toNatClampNeg = nF q (itr (nF q) n.toNatClampNeg t)
  rw [h.2]
theorem atC_P {y n : Nat} (h : atC q t R n y) (hc : chQ q s t R P) (hy : y ≠ s) : n < R ∧ y < P ∧ nF q y < P ∧ nF q y ≠ y ∧ y = itr (nF q) n t ∧ nF q y = itr (nF q) (n + 1) t := by
  have l := chQ_lt hc h.1 (by rw [← h.2]; exact hy)
  have e : nF q y = itr (nF q) (n + 1) t := by
    rw [h.2]
    rfl
  refine ⟨l, by rw [h.2]; exact hc.2.2 n h.1, by rw [e]; exact hc.2.2 (n + 1) l, fun w => ?_, h.2, e⟩
  rw [e] at w
  have := itr_inj hc.2.1 (i := n + 1) (j := n) l h.1 (by rw [w, h.2])
  omega
theorem atC_end {y n : Nat} (h : atC q t R n y) (hc : chQ q s t R P) (hy : y = s) : n = R := chQ_eq hc h.1 (by rw [← h.2]; exact hy)
/-- room for a on the first n steps -/
noncomputable def rwZ (M : Nat → Nat → Int) (q : Nat → Int32) (t n : Nat) (a : Int) : Prop := ∀ i : Nat, i < n → a ≤ arM (M (itr (nF q) (i + 1) t) (itr (nF q) i t)) (M (itr (nF q) i t) (itr (nF q) (i + 1) t))
theorem rwZ_0 {a : Int} : rwZ M q t (0 : Int32).toNatClampNeg a := fun i hi => by
  rw [cl_0] at hi
  exact absurd hi (Nat.not_lt_zero i)
theorem rwZ_st {y x n n2 : Int32} {a a2 : Int} (h : rwZ M q t n.toNatClampNeg a) (hat : atC q t R n.toNatClampNeg y.toNatClampNeg) (hn : 0 ≤ n.toInt) (ex : x = q y.toNatClampNeg) (e2 : n2.toInt = n.toInt + 1) (h1 : a2 ≤ a) (h2 : a2 ≤ arM (M x.toNatClampNeg y.toNatClampNeg) (M y.toNatClampNeg x.toNatClampNeg)) : rwZ M q t n2.toNatClampNeg a2 := fun i hi => by
  rw [nI2 e2 hn] at hi
  by_cases z : i = n.toNatClampNeg
  · have e : itr (nF q) (n.toNatClampNeg + 1) t = x.toNatClampNeg := by
      rw [ex]
      show nF q (itr (nF q) n.toNatClampNeg t) = nF q y.toNatClampNeg
      rw [hat.2]
    rw [z, e, ← hat.2]
    exact h2
  · exact Int.le_trans h1 (h i (by omega))
/-- a sent over the first n steps -/
noncomputable def mwC (M M2 : Nat → Nat → Int) (q : Nat → Int32) (t n : Nat) (a : Int) : Prop := ∀ u v : Nat, M2 u v = mtW M a (nF q) t n u v
theorem mwC_0 {a : Int} : mwC M M q t (0 : Int32).toNatClampNeg a := by
  rw [cl_0]
  exact fun _ _ => rfl
theorem mwC_st {M2 M3 : Nat → Nat → Int} {y x n n2 : Int32} {a : Int} (h : mwC M M2 q t n.toNatClampNeg a) (hat : atC q t R n.toNatClampNeg y.toNatClampNeg) (hn : 0 ≤ n.toInt) (ex : x = q y.toNatClampNeg) (e2 : n2.toInt = n.toInt + 1) (he : edg M2 M3 x.toNatClampNeg y.toNatClampNeg a) : mwC M M3 q t n2.toNatClampNeg a := fun u v => by
  rw [nI2 e2 hn]
  have e : itr (nF q) (n.toNatClampNeg + 1) t = x.toNatClampNeg := by
    rw [ex]
    show nF q (itr (nF q) n.toNatClampNeg t) = nF q y.toNatClampNeg
    rw [hat.2]
  rw [he u v, h u v]
  show _ = mtW M a (nF q) t n.toNatClampNeg u v + _ + _
  rw [e, ← hat.2]
theorem mtW_b {a : Int} {q : Nat → Nat} (h0 : 0 ≤ a) (h1 : a ≤ 500) : ∀ (n u v : Nat), M u v - 500 * (n : Int) ≤ mtW M a q t n u v ∧ mtW M a q t n u v ≤ M u v + 500 * (n : Int)
  | 0, u, v => by
    show M u v - 500 * ((0 : Nat) : Int) ≤ M u v ∧ M u v ≤ M u v + 500 * ((0 : Nat) : Int)
    omega
  | n + 1, u, v => by
    have b := mtW_b (q := q) h0 h1 n u v
    show M u v - 500 * ((n + 1 : Nat) : Int) ≤ mtW M a q t n u v + _ + _ ∧ mtW M a q t n u v + _ + _ ≤ M u v + 500 * ((n + 1 : Nat) : Int)
    (repeat' split) <;> omega
theorem mwC_b {M2 : Nat → Nat → Int} {n : Nat} {a : Int} (h : mwC M M2 q t n a) (h0 : 0 ≤ a) (h1 : a ≤ 500) (hn : n ≤ 12) (u v : Nat) : M u v - 6000 ≤ M2 u v ∧ M2 u v ≤ M u v + 6000 := by
  have b := mtW_b (M := M) (t := t) (q := nF q) h0 h1 n u v
  rw [h u v]
  omega
end CHN
/-! one way more -/
section PAY
variable {q : Nat → Int32} {s t P : Nat} {M M0 M2 p : Nat → Nat → Int} {f : Nat → Int32}
theorem potC_e {pi : Nat → Int} (hP : P ≤ 12) (h : ∀ e : Nat, e < 12 * P → oC M p P e = true → pi (e % 12) ≤ pi (e / 12) + sC M p (e / 12) (e % 12)) : potC M p P pi := fun x y hx hy hn hs => by
  have em := e_dm (x := x) (y := y) (by omega)
  have ho : oC M p P (12 * x + y) = true := oC_iff.mpr (by rw [em.1, em.2]; exact ⟨hy, hn, hs⟩)
  have a := h (12 * x + y) (by omega) ho
  rw [em.1, em.2] at a
  exact a
theorem pay_step {a j : Int} (hk : okM M p P) (hp : ∃ pi : Nat → Int, potC M p P pi) (hc : cnZ M0 M P s t j) (hz : czC M p P s f q) (hs : s < P) (ht : t < P) (hP : P ≤ 12) (hf : (f t).toInt ≠ 1000000000) (h1 : 1 ≤ a) (ha : ∃ R : Nat, chQ q s t R P ∧ rwZ M q t R a) (hm : ∃ R : Nat, chQ q s t R P ∧ mwC M M2 q t R a) :
    okM M2 p P ∧ (∃ pi : Nat → Int, potC M2 p P pi) ∧ cnZ M0 M2 P s t (j + a) ∧ cPZ M2 p P = cPZ M p P + a * (f t).toInt := by
  obtain ⟨pi0, hp0⟩ := hp
  obtain ⟨R, hR, ha⟩ := ha
  obtain ⟨R2, hR2, hm⟩ := hm
  have e := chQ_un hR hR2
  subst e
  obtain ⟨p2, h2, h2e⟩ := czG_pi hz (oC_p hp0) oC_v (oC_hi hk) hP
  have hp2 : potC M p P p2 := potC_e hP h2
  have hft : dC f t < 1099511627776 := dC_lt.mpr hf
  have ch : chT M p P p2 (nF q) t R a := fun i hi => by
    obtain ⟨e, q1, q2, q3, q4, q5, q6⟩ := czG_e hz oC_v ht hft hR.2.1 hi
    have o := oC_iff.mp q2
    have fy := (czG_fin hz oC_v ht hft hR.2.1 i (by omega)).2
    refine ⟨hR.2.2 i (by omega), hR.2.2 (i + 1) (by omega), ?_, ?_, ha i hi⟩
    · rw [q3, q4]
      exact o.2.2
    · rw [h2e _ fy, q3, q4, h2e _ q5]
      exact q6
  obtain ⟨k1, k2⟩ := way_push hR.2.1 hk hp2 h1 ch R (Nat.le_refl R)
  have eM : M2 = mtW M a (nF q) t R := by
    funext u v
    exact hm u v
  rw [← eM] at k1 k2
  have wp := fun pi2 : Nat → Int => way_pt (M := M) (a := a) (q := nF q) (t := t) (R := R) (P := P) (pi2 := pi2) hR.2.2 R (Nat.le_refl R)
  have cn : cnZ M0 M2 P s t (j + a) := fun pi => by
    rw [eM, wp pi, hc pi, itr_end hR.2.1, Int.add_mul]
    omega
  refine ⟨k1, ⟨p2, k2⟩, cn, ?_⟩
  have s1 := ptZ_strong hk hp2
  have s2 := ptZ_strong k1 k2
  have w := wp p2
  rw [← eM, itr_end hR.2.1, h2e t hft, h2e s (by have z := hz.2.2.2.2.2; rw [z]; decide), hz.2.2.2.2.2, dC_n hf, Int.sub_zero] at w
  omega
/-- no way more -/
theorem pay_none (hk : okM M p P) (hz : czC M p P s f q) (hP : P ≤ 12) (ht : t < P) (hf : (f t).toInt = 1000000000) : ∃ S : Nat → Bool, sep s t S ∧ ∀ x y : Nat, x < P → y < P → S x = true → S y = false → p x y = 1000000000 ∧ M x y = 0 := by
  refine ⟨fun v => decide (dC f v < 1099511627776), ⟨decide_eq_true (by have z := hz.2.2.2.2.2; rw [z]; decide), decide_eq_false (by rw [dC_y hf]; omega)⟩, fun x y hx hy sx sy => ?_⟩
  have fx : dC f x < 1099511627776 := of_decide_eq_true sx
  have fy : ¬ dC f y < 1099511627776 := of_decide_eq_false sy
  have hn : x ≠ y := fun w => fy (by rw [← w]; exact fx)
  have em := e_dm (x := x) (y := y) (by omega)
  have ns : ¬ sC M p x y < 1000000000 := fun w => by
    have ho : oC M p P (12 * x + y) = true := oC_iff.mpr (by rw [em.1, em.2]; exact ⟨hy, hn, w⟩)
    have a : dC f ((12 * x + y) % 12) ≤ dC f ((12 * x + y) / 12) + sC M p ((12 * x + y) / 12) ((12 * x + y) % 12) := hz.1 (12 * x + y) (by omega) ho (by show dC f ((12 * x + y) / 12) < _; rw [em.1]; exact fx)
    rw [em.1, em.2] at a
    have b := hz.2.2.2.1 x hx fx
    have c := (sC_rng hk hx hy hn w).2
    omega
  obtain ⟨⟨a1, a2, a3⟩, b1, _, _⟩ := hk x y hx hy hn
  unfold sC arS at ns
  by_cases z : M y x < 0
  · rw [if_pos z] at ns
    omega
  · rw [if_neg z] at ns
    by_cases w : 0 < M x y
    · rw [if_pos w] at ns
      omega
    · rw [if_neg w] at ns
      have := a3 (by omega)
      omega
/-- what pay() answers -/
noncomputable def payR (M0 : Nat → Nat → Int) (pr : (Nat → Nat → Int) → Prop) (P s t : Nat) (more r : Int) : Prop := ∃ p : Nat → Nat → Int, pr p ∧ ((r = -9 ∧ ∃ (M : Nat → Nat → Int) (j : Int) (S : Nat → Bool), j < more ∧ cnZ M0 M P s t j ∧ sep s t S ∧ ∀ x y : Nat, x < P → y < P → S x = true → S y = false → p x y = 1000000000 ∧ M x y = 0) ∨ (∃ M : Nat → Nat → Int, cnZ M0 M P s t more ∧ okM M p P ∧ (∃ pi : Nat → Int, potC M p P pi) ∧ r = cPZ M p P))
end PAY
/-- potentials that tell a set -/
theorem wP_S {S : Nat → Bool} {x y : Nat} : wP (fun v => if S v = true then (0 : Int) else 1) x y = if S x = true ∧ S y = false then 1 else 0 := by
  show (if (if S x = true then (0 : Int) else 1) < (if S y = true then (0 : Int) else 1) then (if S y = true then (0 : Int) else 1) - (if S x = true then (0 : Int) else 1) else 0) = _
  cases q1 : S x <;> cases q2 : S y <;> decide
theorem dT_S {r1 r0 g : Nat → Int} {st en : Nat → Nat} {S : Nat → Bool} {l : Nat} : dT r1 r0 g st en (fun v => if S v = true then 0 else 1) l = cl1 r1 r0 g st en S l := by
  unfold dT cl1
  rw [wP_S, wP_S]
  by_cases z : g l = 0
  · have nz : ¬ g l ≠ 0 := fun q => q z
    rw [if_neg nz, if_neg nz]
    have o : ∀ (c : Prop) [Decidable c] (r : Int), (if c then (1 : Int) else 0) * r = if c then r else 0 := fun c _ r => by
      by_cases h : c
      · rw [if_pos h, if_pos h, Int.one_mul]
      · rw [if_neg h, if_neg h, Int.zero_mul]
    rw [o, o]
  · rw [if_pos z, if_pos z]
/-! and the answer -/
section ANS
variable {fk fs fe fw fp : Nat → Int32} {P N : Int32} {s t : Nat} {L M0 : Nat → Nat → Int} {k m r : Int}
noncomputable def cstF (fk fp : Nat → Int32) (l : Nat) : Int := cst (fk l).toInt (fp l).toInt
/-- what cheapest() answers, when it is not so already -/
noncomputable def chR (r1 r0 g c : Nat → Int) (st en : Nat → Nat) (N s t : Nat) (k r : Int) : Prop := (r = -9 ∧ noR r1 r0 g c st en N s t k) ∨ cstR r1 r0 g c st en N s t k r
theorem pay_ans (hL : ∀ pi : Nat → Int, ptZ L pi P.toNatClampNeg = sumI (dT (fun l => rmW (kF fk l) (wF fw (-9) l) 1) (fun l => rmW (kF fk l) (wF fw (-9) l) 0) (gF fs) (nF fs) (nF fe) pi) N.toNatClampNeg) (hM : cnZ L M0 P.toNatClampNeg s t m) (hnc : netC P.toInt N.toInt fs fe) (hdc : netDC N.toInt fs fe) (hpr : prng fs fe 40) (rp : rng fp 40 0 100) (hN : 0 ≤ N.toInt ∧ N.toInt ≤ 40) (hP : 0 ≤ P.toInt ∧ P.toInt ≤ 12)
    (h : payR M0 (prM fk fs fe fp P.toNatClampNeg N.toNatClampNeg) P.toNatClampNeg s t (k - m) r) : chR (fun l => rmW (kF fk l) (wF fw (-9) l) 1) (fun l => rmW (kF fk l) (wF fw (-9) l) 0) (gF fs) (cstF fk fp) (nF fs) (nF fe) N.toNatClampNeg s t k r := by
  have cP := clI (i := P) hP.1
  have cN := clI (i := N) hN.1
  have ends : ∀ l : Nat, l < N.toNatClampNeg → gF fs l = 0 → (fs l).toInt ≠ -9 ∧ nF fs l < P.toNatClampNeg ∧ nF fe l < P.toNatClampNeg ∧ nF fs l ≠ nF fe l := fun l hl hg => by
    have ms : (fs l).toInt ≠ -9 := fun w => by
      unfold gF gI at hg
      rw [if_pos w] at hg
      omega
    have a := hnc l (by omega) ms
    have b := hpr l (by omega)
    have d := hdc l (by omega) ms
    have k1 := clI (i := fs l) (by omega)
    have k2 := clI (i := fe l) (by omega)
    unfold nF
    exact ⟨ms, by omega, by omega, by omega⟩
  have cr : ∀ l : Nat, l < N.toNatClampNeg → cstF fk fp l ≠ -9 → 0 ≤ cstF fk fp l ∧ cstF fk fp l ≤ 101 := fun l hl hc => by
    have a := rp l (by omega)
    have b := cst_rng (k := (fk l).toInt) a.1 a.2
    unfold cstF at hc ⊢
    omega
  obtain ⟨p, hp, h⟩ := h
  rcases h with ⟨hr, M, j, S, hj, hc, hs, hS⟩ | ⟨M, hc, hk, ⟨pi0, hpot⟩, hr⟩
  · refine Or.inl ⟨hr, S, hs, fun l hl hg hw => ?_, ?_⟩
    · obtain ⟨ms, e1, e2, e3⟩ := ends l hl hg
      have a := hp.2 l hl ms hw
      have b := cr l hl hw
      have sy := (hp.1 _ _ e1 e2).2.2.1
      have a' : p (nF fs l) (nF fe l) ≤ cstF fk fp l := a
      cases q1 : S (nF fs l) <;> cases q2 : S (nF fe l)
      · rfl
      · have z := (hS _ _ e2 e1 q2 q1).1
        omega
      · have z := (hS _ _ e1 e2 q1 q2).1
        omega
      · rfl
    · have z : ptZ M (fun v => if S v = true then 0 else 1) P.toNatClampNeg = 0 := by
        unfold ptZ
        refine (sumI_congr _ (fun x hx => ?_)).trans (sumI_zero _)
        refine (sumI_congr _ (fun y hy => ?_)).trans (sumI_zero _)
        rw [wP_S]
        by_cases w : S x = true ∧ S y = false
        · rw [if_pos w, (hS x y hx hy w.1 w.2).2, Int.mul_zero]
        · rw [if_neg w, Int.zero_mul]
      have a := hc (fun v => if S v = true then 0 else 1)
      have b := hM (fun v => if S v = true then 0 else 1)
      have c := hL (fun v => if S v = true then 0 else 1)
      have et : (if S t = true then (0 : Int) else 1) - (if S s = true then 0 else 1) = 1 := by
        rw [if_neg (by rw [hs.2]; decide), if_pos hs.1]
        rfl
      have a2 : ptZ M (fun v => if S v = true then 0 else 1) P.toNatClampNeg = ptZ M0 (fun v => if S v = true then 0 else 1) P.toNatClampNeg - j * ((if S t = true then (0 : Int) else 1) - (if S s = true then 0 else 1)) := a
      have b2 : ptZ M0 (fun v => if S v = true then 0 else 1) P.toNatClampNeg = ptZ L (fun v => if S v = true then 0 else 1) P.toNatClampNeg - m * ((if S t = true then (0 : Int) else 1) - (if S s = true then 0 else 1)) := b
      rw [et, Int.mul_one] at a2 b2
      have dd : sumI (dT (fun l => rmW (kF fk l) (wF fw (-9) l) 1) (fun l => rmW (kF fk l) (wF fw (-9) l) 0) (gF fs) (nF fs) (nF fe) (fun v => if S v = true then 0 else 1)) N.toNatClampNeg = sumI (cl1 (fun l => rmW (kF fk l) (wF fw (-9) l) 1) (fun l => rmW (kF fk l) (wF fw (-9) l) 0) (gF fs) (nF fs) (nF fe) S) N.toNatClampNeg := sumI_congr _ (fun l _ => dT_S)
      omega
  · refine Or.inr ⟨⟨pi0, fun l hl hg hw => ?_, ?_⟩, fun pi hf => ?_⟩
    · obtain ⟨ms, e1, e2, e3⟩ := ends l hl hg
      have a : p (nF fs l) (nF fe l) ≤ cstF fk fp l := hp.2 l hl ms hw
      have b := cr l hl hw
      have c := ar_feas (hk _ _ e1 e2 e3).1 (potC_ar hk hpot e1 e2 e3) (by omega)
      omega
    · unfold dlK
      have a := ptZ_strong hk hpot
      have b := hc pi0
      have b2 := hM pi0
      have b3 := hL pi0
      have e : k * (pi0 t - pi0 s) = (k - m) * (pi0 t - pi0 s) + m * (pi0 t - pi0 s) := by rw [← Int.add_mul]; congr 1; omega
      omega
    · have a := ptZ_weak (pi := pi) hk (fun x y hx hy hn hlt => by
        obtain ⟨_, _, _, w⟩ := hp.1 x y hx hy
        obtain ⟨l, hl, ms, e1, e2, e3⟩ := w hlt
        have hg : gF fs l = 0 := by
          unfold gF gI
          rw [if_neg ms]
        have z := hf l hl hg e2
        unfold cstF at z
        rw [← e1]
        rcases e3 with e3 | e3
        · rw [e3.1, e3.2] at z
          omega
        · rw [e3.1, e3.2] at z
          omega)
      unfold dlK
      have b := hc pi
      have b2 := hM pi
      have b3 := hL pi
      have e : k * (pi t - pi s) = (k - m) * (pi t - pi s) + m * (pi t - pi s) := by rw [← Int.add_mul]; congr 1; omega
      omega
end ANS
/-! ===== the class's search for costs ===== -/
section FCS
variable {M p : Nat → Nat → Int} {s : Nat} {pi : Nat → Int} {f f2 ff q q2 : Nat → Int32} {P X X2 : Int32} {rnd : Nat}
theorem rlC_0 {P lo : Nat} : rlC M p P f lo (lo + (0 : Int32).toNatClampNeg) := fun e h1 h2 => by
  rw [cl_0] at h2
  omega
theorem rlC_00 {P : Nat} : rlC M p P f 0 (12 * (0 : Int32).toNatClampNeg) := fun e h1 h2 => by
  rw [cl_0] at h2
  omega
theorem fc_in {a : Int32} {P : Nat} (h : ∀ j : Nat, j < 12 → f j = 1000000000) (e : f2 = upd f a.toNatClampNeg 0) (hP : P ≤ 12) (ha : a.toNatClampNeg < P) : cwC M p P a.toNatClampNeg f2 q 0 0 ∧ bdC P f2 0 := by
  have v0 : ∀ v : Nat, v < P → v ≠ a.toNatClampNeg → (f2 v).toInt = 1000000000 := fun v hv hn => by
    rw [e, pk_un hn, h v (by omega)]
    decide
  have vs : (f2 a.toNatClampNeg).toInt = 0 := by
    rw [e, pk_us]
    decide
  refine ⟨cwG_init ha (fun v hv => ?_), fun v hv hf => ?_⟩
  · by_cases z : v = a.toNatClampNeg
    · rw [if_pos z, z, dC_n (by rw [vs]; decide), vs]
    · rw [if_neg z, dC_y (v0 v hv z)]
  · by_cases z : v = a.toNatClampNeg
    · rw [z, vs]
      exact Int.le_refl 0
    · exact absurd (v0 v hv z) hf
theorem cwC_i {P : Nat} {n n2 m m2 : Nat} (h : cwC M p P s f q n m) (e : n2 = n) (e2 : m2 = m) : cwC M p P s f q n2 m2 := by
  rw [e, e2]
  exact h
/-- nobody has come to X -/
theorem cwC_sk {P : Nat} (h : cwC M p P s f q rnd (12 * X.toNatClampNeg)) (hf : (f X.toNatClampNeg).toInt = 1000000000) (h0 : 0 ≤ X.toInt) (hX : X.toNatClampNeg < P) (ei : X2.toInt = X.toInt + 1) : cwC M p P s f q rnd (12 * X2.toNatClampNeg) := by
  rw [nI2 ei h0, show 12 * (X.toNatClampNeg + 1) = 12 * X.toNatClampNeg + 12 by omega]
  refine cwG_to h 12 (fun e h1 h2 _ => ?_)
  have ed : e / 12 = X.toNatClampNeg := by omega
  refine ⟨?_, fun w => ?_⟩
  · show e / 12 < P
    omega
  · have w2 : dC f (e / 12) < 1099511627776 := w
    rw [ed] at w2
    exact absurd hf (dC_lt.mp w2)
theorem rlC_sk {P : Nat} (h : rlC M p P f 0 (12 * X.toNatClampNeg)) (hf : (f X.toNatClampNeg).toInt = 1000000000) (h0 : 0 ≤ X.toInt) (ei : X2.toInt = X.toInt + 1) : rlC M p P f 0 (12 * X2.toNatClampNeg) := fun e h1 h2 ho w => by
  rw [nI2 ei h0] at h2
  by_cases z : e < 12 * X.toNatClampNeg
  · exact h e h1 z ho w
  · have ed : e / 12 = X.toNatClampNeg := by omega
    rw [ed] at w
    exact absurd hf (dC_lt.mp w)
/-- all of X is looked at -/
theorem cwC_lk {P : Nat} (h : cwC M p P s f q rnd (12 * X.toNatClampNeg)) (hl : lkI M p P X.toNatClampNeg f q f2 q2 P) (hP : P ≤ 12) (h0 : 0 ≤ X.toInt) (hX : X.toNatClampNeg < P) (ei : X2.toInt = X.toInt + 1) : cwC M p P s f2 q2 rnd (12 * X2.toNatClampNeg) := by
  have a := hl s rnd h
  rw [nI2 ei h0, show 12 * (X.toNatClampNeg + 1) = 12 * X.toNatClampNeg + P + (12 - P) by omega]
  refine cwG_to a (12 - P) (fun e h1 h2 ho => ?_)
  have o := oC_iff.mp ho
  omega
theorem rlC_lk {P : Nat} (h : rlC M p P f 0 (12 * X.toNatClampNeg)) (hl : rlC M p P f (12 * X.toNatClampNeg) (12 * X.toNatClampNeg + P)) (h0 : 0 ≤ X.toInt) (ei : X2.toInt = X.toInt + 1) : rlC M p P f 0 (12 * X2.toNatClampNeg) := fun e h1 h2 ho w => by
  rw [nI2 ei h0] at h2
  by_cases z : e < 12 * X.toNatClampNeg
  · exact h e h1 z ho w
  · by_cases y : e < 12 * X.toNatClampNeg + P
    · exact hl e (by omega) y ho w
    · have o := oC_iff.mp ho
      omega
theorem bdC_lk {P : Nat} {B B2 n : Int} (h : bdC P f B) (hl : bdI P f f2 n) (e : B + 101 * n ≤ B2) : bdC P f2 B2 := fun v hv hf => by
  have := hl B h v hv hf
  omega
theorem bdC_le {P : Nat} {B B2 : Int} (h : bdC P f B) (e : B ≤ B2) : bdC P f B2 := fun v hv hf => by
  have := h v hv hf
  omega
theorem cwC_rd {P n : Nat} {r r2 : Int32} (h : cwC M p P s f q r.toNatClampNeg (12 * n)) (hn : n = P) (h0 : 0 ≤ r.toInt) (ei : r2.toInt = r.toInt + 1) : cwC M p P s f q r2.toNatClampNeg 0 := by
  rw [nI2 ei h0]
  rw [hn] at h
  exact cwG_round h
theorem cz_1 {P : Nat} (h : cwC M p P s f q rnd 0) (hr : rlC M p P f 0 (12 * P)) (hp : potC M p P pi) (hk : okM M p P) (hs : s < P) : czC M p P s f q := czG_mk h (fun e he ho w => hr e (Nat.zero_le e) he ho w) (oC_p hp) oC_v (oC_hi hk) hs
theorem cz_2 {P : Nat} (h : cwC M p P s f q rnd 0) (er : rnd = P) (hp : potC M p P pi) (hk : okM M p P) (hs : s < P) : czC M p P s f q := by
  rw [er] at h
  exact czG_mk h (cwG_cl h (oC_p hp) oC_v (by omega)) (oC_p hp) oC_v (oC_hi hk) hs
end FCS
theorem cwC_lo {M p : Nat → Nat → Int} {P s rnd cu : Nat} {f q : Nat → Int32} (h : cwC M p P s f q rnd cu) (hP : P ≤ 12) (hk : okM M p P) : ∀ v : Nat, v < P → -1212 ≤ (f v).toInt := fun v hv => by
  have a := cwG_lo h hP (oC_lo hk) hv
  unfold dC at a
  split at a <;> omega
theorem czC_hi {M p : Nat → Nat → Int} {P s : Nat} {f q : Nat → Int32} (h : czC M p P s f q) (hP : P ≤ 12) {v : Nat} (hv : v < P) (hf : (f v).toInt ≠ 1000000000) : (f v).toInt ≤ 1212 := by
  have a := h.2.2.2.1 v hv (dC_lt.mpr hf)
  rw [dC_n hf] at a
  omega
theorem pr_b {a c B : Int} (ha : 0 ≤ a) (h1 : -B ≤ c) (h2 : c ≤ B) : -(B * a) ≤ a * c ∧ a * c ≤ B * a := by
  have x := Int.mul_le_mul_of_nonneg_left h1 ha
  have y := Int.mul_le_mul_of_nonneg_left h2 ha
  rw [Int.mul_neg, Int.mul_comm a B] at x
  rw [Int.mul_comm a B] at y
  exact ⟨x, y⟩
theorem mtx_pt {M : Nat → Nat → Int32} {P N : Int32} {fk fs fe fw : Nat → Int32} {r : Int} (h : mtx M P.toInt fk fs fe fw r N.toNatClampNeg) (hnc : netC P.toInt N.toInt fs fe) (hpr : prng fs fe 40) (hP : 0 ≤ P.toInt ∧ P.toInt ≤ 12) (hN : 0 ≤ N.toInt ∧ N.toInt ≤ 40) : ∀ pi : Nat → Int, ptZ (zM M) pi P.toNatClampNeg = sumI (dT (fun l => rmW (kF fk l) (wF fw r l) 1) (fun l => rmW (kF fk l) (wF fw r l) 0) (gF fs) (nF fs) (nF fe) pi) N.toNatClampNeg := fun pi => by
  have cP := clI (i := P) hP.1
  have cN := clI (i := N) hN.1
  refine Eq.trans (ptZ_cg (N := fun x y => sumI (mlI (kF fk) (wF fw r) (gF fs) (nF fs) (nF fe) x y) N.toNatClampNeg) (fun x y hx hy => h x y (by omega) (by omega))) (ptZ_ml (fun l hl hg => ?_))
  have ms : (fs l).toInt ≠ -9 := fun w => by
    unfold gF gI at hg
    rw [if_pos w] at hg
    omega
  have a := hnc l (by omega) ms
  have b := hpr l (by omega)
  have k1 := clI (i := fs l) (by omega)
  have k2 := clI (i := fe l) (by omega)
  unfold nF
  omega
noncomputable def ckI (a b k P : Int) : Int := if ¬ ((0 ≤ a ∧ a < P) ∧ (0 ≤ b ∧ b < P) ∧ a ≠ b) ∨ ¬ (0 ≤ k ∧ k ≤ 500) then -1 else 0
/-- what cheapest() answers -/
noncomputable def chA (C : (Nat → Bool) → Int) (E : Int → Prop) (s t : Nat) (k r : Int) : Prop := ∃ m : Int, mostR C s t m ∧ ((m = -5 ∨ k ≤ m) → r = 0) ∧ (¬ (m = -5 ∨ k ≤ m) → E r)
theorem chA_0 {C : (Nat → Bool) → Int} {E : Int → Prop} {s t : Nat} {k r m : Int} (h : mostR C s t m) (hm : m = -5 ∨ k ≤ m) (hr : r = 0) : chA C E s t k r := ⟨m, h, fun _ => hr, fun q => absurd hm q⟩
theorem chA_p {C : (Nat → Bool) → Int} {E : Int → Prop} {s t : Nat} {k r m : Int} (h : mostR C s t m) (hm : ¬ (m = -5 ∨ k ≤ m)) (hE : E r) : chA C E s t k r := ⟨m, h, fun q => absurd q hm, fun _ => hE⟩
/-! ===== cheapest, by the reference's lines ===== -/
noncomputable def pC (f5 f9 : Nat → Int32) (l : Nat) : Int := if cst (f5 l).toInt (f9 l).toInt = -9 then 1000000000 else cst (f5 l).toInt (f9 l).toInt
/-- what flows, against potentials -/
noncomputable def coS (f6 f7 f10 F : Nat → Int32) (pi : Nat → Int) (N : Nat) : Int := sumI (fun l => if (f10 l).toInt ≠ 0 then 0 else (F l).toInt * (pi (nF f7 l) - pi (nF f6 l))) N
/-- what is paid -/
noncomputable def clL (f5 f8 f9 f10 F : Nat → Int32) (N : Nat) : Int := sumI (fun l => if (f10 l).toInt ≠ 0 then 0 else arC (rmI (f5 l) (f8 l) 1 - (F l).toInt) (pC f5 f9 l) + arC (rmI (f5 l) (f8 l) 0 + (F l).toInt) (pC f5 f9 l)) N
theorem st_ar {c w0 w1 f q : Int} (hc : c = -9 ∨ (0 ≤ c ∧ c ≤ 101)) (h0 : 0 ≤ w0) (h1 : 0 ≤ w1) (hr : c = -9 → -w0 ≤ f ∧ f ≤ w1) (hq : q = if c = -9 then 1000000000 else c) : (stI c w0 w1 f < 1000000 ↔ arS (w1 - f) (w0 + f) q < 1000000000) ∧ (arS (w1 - f) (w0 + f) q < 1000000000 → stI c w0 w1 f = arS (w1 - f) (w0 + f) q) := by
  have a := stI_cs c w0 w1 f
  unfold arS
  by_cases z : c = -9
  · rw [if_pos z] at hq
    have b := hr z
    rw [if_neg (show ¬ w0 + f < 0 by omega)]
    by_cases y : 0 < w1 - f
    · rw [if_pos y]
      omega
    · rw [if_neg y]
      omega
  · rw [if_neg z] at hq
    by_cases y : w0 + f < 0
    · rw [if_pos y]
      omega
    · rw [if_neg y]
      by_cases x : 0 < w1 - f
      · rw [if_pos x]
        omega
      · rw [if_neg x]
        omega
section RCH
variable {f5 f6 f7 f8 f9 f10 F F2 : Nat → Int32} {N s t : Nat} {pi : Nat → Int}
theorem ln_K {l : Nat} (hk : okF f5 f8 f9 F) (r8 : rng f8 40 0 2000) (r9 : rng f9 40 0 100) (hl : l < 40) : arK (rmI (f5 l) (f8 l) 1 - (F l).toInt) (rmI (f5 l) (f8 l) 0 + (F l).toInt) (pC f5 f9 l) := by
  have b8 := r8 l hl
  have w1 := rmI_rng (k := f5 l) (b := 1) b8.1 b8.2
  have w0 := rmI_rng (k := f5 l) (b := 0) b8.1 b8.2
  have b := r9 l hl
  have c := cst_rng (k := (f5 l).toInt) b.1 b.2
  have k := hk l hl
  unfold arK pC
  by_cases z : cst (f5 l).toInt (f9 l).toInt = -9
  · rw [if_pos z]
    have := k z
    omega
  · rw [if_neg z]
    omega
theorem ln_P {l : Nat} (hp : pot f5 f6 f7 f8 f9 f10 F N pi) (hk : okF f5 f8 f9 F) (r8 : rng f8 40 0 2000) (r9 : rng f9 40 0 100) (hN : N ≤ 40) (hl : l < N) (hg : (f10 l).toInt = 0) : arP (rmI (f5 l) (f8 l) 1 - (F l).toInt) (rmI (f5 l) (f8 l) 0 + (F l).toInt) (pC f5 f9 l) (pi (nF f7 l) - pi (nF f6 l)) := by
  have b8 := r8 l (by omega)
  have w1 := rmI_rng (k := f5 l) (b := 1) b8.1 b8.2
  have w0 := rmI_rng (k := f5 l) (b := 0) b8.1 b8.2
  have b := r9 l (by omega)
  have c := cst_rng (k := (f5 l).toInt) b.1 b.2
  have k := hk l (by omega)
  have A := st_ar (q := pC f5 f9 l) c w0.1 w1.1 k rfl
  have B := st_ar (q := pC f5 f9 l) (f := -(F l).toInt) c w1.1 w0.1 (fun z => by have := k z; omega) rfl
  rw [show rmI (f5 l) (f8 l) 0 - -(F l).toInt = rmI (f5 l) (f8 l) 0 + (F l).toInt by omega, show rmI (f5 l) (f8 l) 1 + -(F l).toInt = rmI (f5 l) (f8 l) 1 - (F l).toInt by omega] at B
  have d0 : (2 * l) / 2 = l := by omega
  have d1 : (2 * l + 1) / 2 = l := by omega
  have m0 : (2 * l) % 2 = 0 := by omega
  have m1 : ¬ (2 * l + 1) % 2 = 0 := by omega
  have g0 : gc f5 f8 f9 F (2 * l) = stI (cst (f5 l).toInt (f9 l).toInt) (rmI (f5 l) (f8 l) 0) (rmI (f5 l) (f8 l) 1) (F l).toInt := by
    unfold gc eS
    rw [if_pos m0, if_pos (by decide), d0]
  have g1 : gc f5 f8 f9 F (2 * l + 1) = stI (cst (f5 l).toInt (f9 l).toInt) (rmI (f5 l) (f8 l) 1) (rmI (f5 l) (f8 l) 0) (-(F l).toInt) := by
    unfold gc eS
    rw [if_neg m1, if_neg (by decide), d1]
  have x0 : gx f6 f7 (2 * l) = nF f6 l ∧ gy f6 f7 (2 * l) = nF f7 l := by
    unfold gx gy
    rw [if_pos m0, if_pos m0, d0]
    exact ⟨rfl, rfl⟩
  have x1 : gx f6 f7 (2 * l + 1) = nF f7 l ∧ gy f6 f7 (2 * l + 1) = nF f6 l := by
    unfold gx gy
    rw [if_neg m1, if_neg m1, d1]
    exact ⟨rfl, rfl⟩
  constructor
  · intro h
    have e := A.2 h
    have o : go f5 f8 f9 f10 F (2 * l) = true := go_iff.mpr ⟨by rw [d0]; exact hg, by rw [g0]; exact A.1.mpr h⟩
    have q := hp (2 * l) (by omega) o
    rw [x0.1, x0.2, g0, e] at q
    omega
  · intro h
    have e := B.2 h
    have o : go f5 f8 f9 f10 F (2 * l + 1) = true := go_iff.mpr ⟨by rw [d1]; exact hg, by rw [g1]; exact B.1.mpr h⟩
    have q := hp (2 * l + 1) (by omega) o
    rw [x1.1, x1.2, g1, e] at q
    omega
theorem ln_id {w1 w2 r1 r0 f : Int} : f * (w1 - w2) - (w1 * r1 + w2 * r0) = -(w1 * (r1 - f)) + -(w2 * (r0 + f)) := by
  rw [Int.mul_sub, Int.mul_sub, Int.mul_add, Int.mul_comm f w1, Int.mul_comm f w2]
  omega
theorem sumI_df {f h : Nat → Int} : ∀ n : Nat, sumI f n - sumI h n = sumI (fun j => f j - h j) n
  | 0 => rfl
  | n + 1 => by
    have := sumI_df (f := f) (h := h) n
    show sumI f n + f n - (sumI h n + h n) = sumI (fun j => f j - h j) n + (f n - h n)
    omega
theorem wP_if {x y : Nat} : wP pi x y = if 0 < pi y - pi x then pi y - pi x else 0 := by
  unfold wP
  by_cases z : pi x < pi y
  · rw [if_pos z, if_pos (by omega)]
  · rw [if_neg z, if_neg (by omega)]
theorem rl_strong (hp : pot f5 f6 f7 f8 f9 f10 F N pi) (hk : okF f5 f8 f9 F) (r8 : rng f8 40 0 2000) (r9 : rng f9 40 0 100) (hN : N ≤ 40) : coS f6 f7 f10 F pi N - sumI (dT (fun l => rmI (f5 l) (f8 l) 1) (fun l => rmI (f5 l) (f8 l) 0) (kF f10) (nF f6) (nF f7) pi) N = clL f5 f8 f9 f10 F N := by
  unfold coS clL
  rw [sumI_df]
  refine sumI_congr N (fun l hl => ?_)
  unfold dT kF
  by_cases z : (f10 l).toInt = 0
  · have nz : ¬ (f10 l).toInt ≠ 0 := fun q => q z
    rw [if_neg nz, if_neg nz, if_neg nz]
    have K := ln_K hk r8 r9 (l := l) (by omega)
    have A := ln_P hp hk r8 r9 hN hl z
    have s1 := ar_strong K A
    have A2 : arP (rmI (f5 l) (f8 l) 0 + (F l).toInt) (rmI (f5 l) (f8 l) 1 - (F l).toInt) (pC f5 f9 l) (pi (nF f6 l) - pi (nF f7 l)) := ⟨fun h => by have := A.2 h; omega, fun h => by have := A.1 h; omega⟩
    have s2 := ar_strong (arK_sw K) A2
    rw [← wP_if] at s1 s2
    rw [← wP_df (pi := pi) (x := nF f6 l) (y := nF f7 l), ln_id, s1, s2]
  · rw [if_pos z, if_pos z, if_pos z]
    rfl
theorem rl_weak (hf : feas (kF f10) (cstF f5 f9) (nF f6) (nF f7) N pi) (hk : okF f5 f8 f9 F) (r8 : rng f8 40 0 2000) (r9 : rng f9 40 0 100) (hN : N ≤ 40) : coS f6 f7 f10 F pi N - sumI (dT (fun l => rmI (f5 l) (f8 l) 1) (fun l => rmI (f5 l) (f8 l) 0) (kF f10) (nF f6) (nF f7) pi) N ≤ clL f5 f8 f9 f10 F N := by
  unfold coS clL
  rw [sumI_df]
  refine sumI_le N (fun l hl => ?_)
  unfold dT
  have gk : kF f10 l = (f10 l).toInt := rfl
  by_cases z : (f10 l).toInt = 0
  · have nz : ¬ (f10 l).toInt ≠ 0 := fun q => q z
    rw [gk, if_neg nz, if_neg nz, if_neg nz]
    have K := ln_K hk r8 r9 (l := l) (by omega)
    have b := r9 l (by omega)
    have c := cst_rng (k := (f5 l).toInt) b.1 b.2
    have w : pC f5 f9 l < 1000000000 → wP pi (nF f6 l) (nF f7 l) ≤ pC f5 f9 l ∧ wP pi (nF f7 l) (nF f6 l) ≤ pC f5 f9 l := fun h => by
      unfold pC at h ⊢
      by_cases y : cst (f5 l).toInt (f9 l).toInt = -9
      · rw [if_pos y] at h
        omega
      · rw [if_neg y]
        have a := hf l hl (by rw [gk]; exact z) y
        unfold cstF at a
        unfold wP
        constructor <;> split <;> omega
    have a1 := ar_weak K (wP_nn (pi := pi) (x := nF f6 l) (y := nF f7 l)) (fun h => (w h).1)
    have a2 := ar_weak (arK_sw K) (wP_nn (pi := pi) (x := nF f7 l) (y := nF f6 l)) (fun h => (w h).2)
    rw [← wP_df (pi := pi) (x := nF f6 l) (y := nF f7 l), ln_id]
    exact Int.add_le_add a1 a2
  · rw [gk, if_pos z, if_pos z, if_pos z]
    exact Int.le_refl _
/-- j flows from s to t -/
noncomputable def coL (f6 f7 f10 F : Nat → Int32) (N s t : Nat) (j : Int) : Prop := ∀ pi : Nat → Int, coS f6 f7 f10 F pi N = j * (pi t - pi s)
noncomputable def coQ (f6 f7 f10 F : Nat → Int32) (N s t : Nat) (j n : Int) (y : Nat) : Prop := ∀ pi : Nat → Int, coS f6 f7 f10 F pi N = j * (pi t - pi s) + n * (pi t - pi y)
theorem coL_0 (h : ∀ l : Nat, l < N → (F l).toInt = 0) : coL f6 f7 f10 F N s t 0 := fun pi => by
  unfold coS
  rw [Int.zero_mul]
  refine (sumI_congr N (fun l hl => ?_)).trans (sumI_zero N)
  rw [h l hl, Int.zero_mul]
  split <;> rfl
theorem coQ_0 {j n : Int} (h : coL f6 f7 f10 F N s t j) : coQ f6 f7 f10 F N s t j n t := fun pi => by
  rw [h pi, Int.sub_self, Int.mul_zero]
  omega
theorem coQ_end {j n k : Int} {y : Nat} (h : coQ f6 f7 f10 F N s t j n y) (hy : y = s) (e : k = j + n) : coL f6 f7 f10 F N s t k := fun pi => by
  rw [h pi, hy, e, Int.add_mul]
theorem co_push {i P R : Nat} {F0 bl bp : Nat → Int32} {pd : Nat → Int64} {l v y1 : Int32} {n : Int} (r6 : rng f6 40 0 11) (r7 : rng f7 40 0 11) (rp : rng bp 12 0 11) (hP12 : P ≤ 12) (hN : N ≤ 40) (hz : cz (gx f6 f7) (gy f6 f7) (gc f5 f8 f9 F0) (go f5 f8 f9 f10 F0) (2 * N) s P pd bl bp) (hv : ∀ e : Nat, e < 2 * N → go f5 f8 f9 f10 F0 e = true → gx f6 f7 e < P ∧ gy f6 f7 e < P)
    (ht : t < P) (hf : (pd t).toInt < 1099511627776) (hR : rcs (pf_ bp) s R t) (hi : i < R) (hy : y1.toNatClampNeg = itr (pf_ bp) i t) (el : l = bl y1.toNatClampNeg) (e2 : F2 = upd F l.toNatClampNeg v)
    (hvv : v.toInt = (F l.toNatClampNeg).toInt + (if (f6 l.toNatClampNeg).toInt = (bp y1.toNatClampNeg).toInt then n else -n)) (pi2 : Nat → Int) : coS f6 f7 f10 F2 pi2 N = coS f6 f7 f10 F pi2 N + n * (pi2 (itr (pf_ bp) i t) - pi2 (itr (pf_ bp) (i + 1) t)) := by
  obtain ⟨e, q1, q2, q3, q4, q5, q6, q7⟩ := ch_e hz hv ht hf hR hi
  have w := hv e q1 q2
  rw [← hy] at q3
  rw [← el] at q3
  have hyP : y1.toNatClampNeg < 12 := by
    rw [hy, q5]
    omega
  have bpr := rp _ hyP
  have cb := clI (i := bp y1.toNatClampNeg) bpr.1
  have b6 := r6 (e / 2) (by omega)
  have c6 := clI (i := f6 (e / 2)) b6.1
  have b7 := r7 (e / 2) (by omega)
  have c7 := clI (i := f7 (e / 2)) b7.1
  have q4c : (bp y1.toNatClampNeg).toNatClampNeg = gx f6 f7 e := by
    have : pf_ bp y1.toNatClampNeg = gx f6 f7 e := by rw [hy]; exact q4
    exact this
  have hne : gx f6 f7 e ≠ gy f6 f7 e := fun h => by
    have := ch_inj hR (i := i + 1) (j := i) (by omega) (by omega) (by rw [q4, h, ← q5])
    omega
  have dir : (f6 (e / 2)).toInt = (bp y1.toNatClampNeg).toInt ↔ e % 2 = 0 := by
    unfold gx at q4c
    unfold gx gy at hne
    by_cases z : e % 2 = 0
    · rw [if_pos z] at q4c
      exact ⟨fun _ => z, fun _ => by omega⟩
    · rw [if_neg z] at q4c
      rw [if_neg z, if_neg z] at hne
      exact ⟨fun h => by omega, fun h => absurd h z⟩
  have g0 := (go_iff.mp q2).1
  have key : sumI (fun l => if (f10 l).toInt ≠ 0 then 0 else (F2 l).toInt * (pi2 (nF f7 l) - pi2 (nF f6 l))) N = sumI (fun l => if (f10 l).toInt ≠ 0 then 0 else (F l).toInt * (pi2 (nF f7 l) - pi2 (nF f6 l))) N - -(n * (pi2 (gy f6 f7 e) - pi2 (gx f6 f7 e))) := by
    refine sumI_one (k := e / 2) (fun j hj => ?_) ?_ N (by omega)
    · rw [e2, q3, pk_un hj]
    · have nz : ¬ (f10 (e / 2)).toInt ≠ 0 := fun q => q g0
      rw [if_neg nz, if_neg nz, e2, q3, pk_us, hvv, q3]
      unfold gx gy nF
      by_cases z : e % 2 = 0
      · rw [if_pos (dir.mpr z), if_pos z, if_pos z, Int.add_mul]
        omega
      · rw [if_neg (fun h => z (dir.mp h)), if_neg z, if_neg z, Int.add_mul, Int.neg_mul, ← Int.mul_neg]
        rw [show -(pi2 (f7 (e / 2)).toNatClampNeg - pi2 (f6 (e / 2)).toNatClampNeg) = pi2 (f6 (e / 2)).toNatClampNeg - pi2 (f7 (e / 2)).toNatClampNeg by omega]
        omega
  unfold coS
  rw [key, q4, q5]
  omega
theorem coQ_st {i P R : Nat} {F0 bl bp : Nat → Int32} {pd : Nat → Int64} {l v y1 : Int32} {n j : Int} (h : coQ f6 f7 f10 F N s t j n (itr (pf_ bp) i t)) (r6 : rng f6 40 0 11) (r7 : rng f7 40 0 11) (rp : rng bp 12 0 11) (hP12 : P ≤ 12) (hN : N ≤ 40) (hz : cz (gx f6 f7) (gy f6 f7) (gc f5 f8 f9 F0) (go f5 f8 f9 f10 F0) (2 * N) s P pd bl bp) (hv : ∀ e : Nat, e < 2 * N → go f5 f8 f9 f10 F0 e = true → gx f6 f7 e < P ∧ gy f6 f7 e < P)
    (ht : t < P) (hf : (pd t).toInt < 1099511627776) (hR : rcs (pf_ bp) s R t) (hi : i < R) (hy : y1.toNatClampNeg = itr (pf_ bp) i t) (el : l = bl y1.toNatClampNeg) (e2 : F2 = upd F l.toNatClampNeg v)
    (hvv : v.toInt = (F l.toNatClampNeg).toInt + (if (f6 l.toNatClampNeg).toInt = (bp y1.toNatClampNeg).toInt then n else -n)) : coQ f6 f7 f10 F2 N s t j n (itr (pf_ bp) (i + 1) t) := fun pi => by
  rw [co_push r6 r7 rp hP12 hN hz hv ht hf hR hi hy el e2 hvv pi, h pi, Int.add_assoc, ← Int.mul_add, show pi t - pi (itr (pf_ bp) i t) + (pi (itr (pf_ bp) i t) - pi (itr (pf_ bp) (i + 1) t)) = pi t - pi (itr (pf_ bp) (i + 1) t) by omega]
/-- one way more -/
theorem rc_step {j n k : Int} {p2 : Nat → Int} (c1 : coL f6 f7 f10 F N s t j) (c2 : coL f6 f7 f10 F2 N s t k) (e : k = j + n) (h1 : pot f5 f6 f7 f8 f9 f10 F N p2) (h2 : pot f5 f6 f7 f8 f9 f10 F2 N p2) (k1 : okF f5 f8 f9 F) (k2 : okF f5 f8 f9 F2) (r8 : rng f8 40 0 2000) (r9 : rng f9 40 0 100) (hN : N ≤ 40) (hs : p2 s = 0) : clL f5 f8 f9 f10 F2 N = clL f5 f8 f9 f10 F N + n * p2 t := by
  have a := rl_strong h1 k1 r8 r9 hN
  have b := rl_strong h2 k2 r8 r9 hN
  rw [c1 p2, hs, Int.sub_zero] at a
  rw [c2 p2, hs, Int.sub_zero, e, Int.add_mul] at b
  omega
theorem rc_end {k r : Int} (c : coL f6 f7 f10 F N s t k) (hp : ∃ pi : Nat → Int, pot f5 f6 f7 f8 f9 f10 F N pi) (hk : okF f5 f8 f9 F) (r8 : rng f8 40 0 2000) (r9 : rng f9 40 0 100) (hN : N ≤ 40) (hr : r = clL f5 f8 f9 f10 F N) : chR (fun l => rmI (f5 l) (f8 l) 1) (fun l => rmI (f5 l) (f8 l) 0) (kF f10) (cstF f5 f9) (nF f6) (nF f7) N s t k r := by
  obtain ⟨pi0, hp⟩ := hp
  refine Or.inr ⟨⟨pi0, fun l hl hg hw => ?_, ?_⟩, fun pi hf => ?_⟩
  · have hg' : (f10 l).toInt = 0 := hg
    have A := ar_feas (ln_K hk r8 r9 (l := l) (by omega)) (ln_P hp hk r8 r9 hN hl hg') ?_
    · unfold cstF at hw ⊢
      unfold pC at A
      rw [if_neg hw] at A
      omega
    · unfold cstF at hw
      unfold pC
      rw [if_neg hw]
      have b := r9 l (by omega)
      have c := cst_rng (k := (f5 l).toInt) b.1 b.2
      omega
  · have a := rl_strong hp hk r8 r9 hN
    rw [c pi0] at a
    unfold dlK
    omega
  · have a := rl_weak hf hk r8 r9 hN
    rw [c pi] at a
    unfold dlK
    omega
/-- no way more -/
theorem rc_none {j k r : Int} (c : coL f6 f7 f10 F N s t j) (hj : j < k) (hk : okF f5 f8 f9 F) (r8 : rng f8 40 0 2000) (r9 : rng f9 40 0 100) (hN : N ≤ 40) (hS : ∃ S : Nat → Bool, sep s t S ∧ ∀ e : Nat, e < 2 * N → go f5 f8 f9 f10 F e = true → S (gx f6 f7 e) = true → S (gy f6 f7 e) = true) (hr : r = -9) : chR (fun l => rmI (f5 l) (f8 l) 1) (fun l => rmI (f5 l) (f8 l) 0) (kF f10) (cstF f5 f9) (nF f6) (nF f7) N s t k r := by
  obtain ⟨S, hs, hS⟩ := hS
  have key : ∀ l : Nat, l < N → (f10 l).toInt = 0 → (stI (cst (f5 l).toInt (f9 l).toInt) (rmI (f5 l) (f8 l) 0) (rmI (f5 l) (f8 l) 1) (F l).toInt < 1000000 → S (nF f6 l) = true → S (nF f7 l) = true) ∧ (stI (cst (f5 l).toInt (f9 l).toInt) (rmI (f5 l) (f8 l) 1) (rmI (f5 l) (f8 l) 0) (-(F l).toInt) < 1000000 → S (nF f7 l) = true → S (nF f6 l) = true) := fun l hl hg => by
    have d0 : (2 * l) / 2 = l := by omega
    have d1 : (2 * l + 1) / 2 = l := by omega
    have m0 : (2 * l) % 2 = 0 := by omega
    have m1 : ¬ (2 * l + 1) % 2 = 0 := by omega
    have g0 : gc f5 f8 f9 F (2 * l) = stI (cst (f5 l).toInt (f9 l).toInt) (rmI (f5 l) (f8 l) 0) (rmI (f5 l) (f8 l) 1) (F l).toInt := by
      unfold gc eS
      rw [if_pos m0, if_pos (by decide), d0]
    have g1 : gc f5 f8 f9 F (2 * l + 1) = stI (cst (f5 l).toInt (f9 l).toInt) (rmI (f5 l) (f8 l) 1) (rmI (f5 l) (f8 l) 0) (-(F l).toInt) := by
      unfold gc eS
      rw [if_neg m1, if_neg (by decide), d1]
    have x0 : gx f6 f7 (2 * l) = nF f6 l ∧ gy f6 f7 (2 * l) = nF f7 l := by
      unfold gx gy
      rw [if_pos m0, if_pos m0, d0]
      exact ⟨rfl, rfl⟩
    have x1 : gx f6 f7 (2 * l + 1) = nF f7 l ∧ gy f6 f7 (2 * l + 1) = nF f6 l := by
      unfold gx gy
      rw [if_neg m1, if_neg m1, d1]
      exact ⟨rfl, rfl⟩
    constructor
    · intro h
      have q := hS (2 * l) (by omega) (go_iff.mpr ⟨by rw [d0]; exact hg, by rw [g0]; exact h⟩)
      rw [x0.1, x0.2] at q
      exact q
    · intro h
      have q := hS (2 * l + 1) (by omega) (go_iff.mpr ⟨by rw [d1]; exact hg, by rw [g1]; exact h⟩)
      rw [x1.1, x1.2] at q
      exact q
  have rg : ∀ l : Nat, l < N → (0 ≤ rmI (f5 l) (f8 l) 1) ∧ (0 ≤ rmI (f5 l) (f8 l) 0) ∧ (cst (f5 l).toInt (f9 l).toInt = -9 ∨ (0 ≤ cst (f5 l).toInt (f9 l).toInt ∧ cst (f5 l).toInt (f9 l).toInt ≤ 101)) := fun l hl => by
    have b8 := r8 l (by omega)
    have w1 := rmI_rng (k := f5 l) (b := 1) b8.1 b8.2
    have w0 := rmI_rng (k := f5 l) (b := 0) b8.1 b8.2
    have b := r9 l (by omega)
    exact ⟨w1.1, w0.1, cst_rng b.1 b.2⟩
  refine Or.inl ⟨hr, S, hs, fun l hl hg hw => ?_, ?_⟩
  · have hg' : (f10 l).toInt = 0 := hg
    obtain ⟨K1, K2⟩ := key l hl hg'
    have R := rg l hl
    have a1 := stI_cs (cst (f5 l).toInt (f9 l).toInt) (rmI (f5 l) (f8 l) 0) (rmI (f5 l) (f8 l) 1) (F l).toInt
    have a2 := stI_cs (cst (f5 l).toInt (f9 l).toInt) (rmI (f5 l) (f8 l) 1) (rmI (f5 l) (f8 l) 0) (-(F l).toInt)
    unfold cstF at hw
    have K1' := K1 (by omega)
    have K2' := K2 (by omega)
    cases q1 : S (nF f6 l) <;> cases q2 : S (nF f7 l)
    · rfl
    · rw [K2' q2] at q1
      cases q1
    · rw [K1' q1] at q2
      cases q2
    · rfl
  · have a := c (fun v => if S v = true then 0 else 1)
    have et : (if S t = true then (0 : Int) else 1) - (if S s = true then 0 else 1) = 1 := by
      rw [if_neg (by rw [hs.2]; decide), if_pos hs.1]
      rfl
    have a2 : coS f6 f7 f10 F (fun v => if S v = true then 0 else 1) N = j * ((if S t = true then (0 : Int) else 1) - (if S s = true then 0 else 1)) := a
    rw [et, Int.mul_one] at a2
    have dd : coS f6 f7 f10 F (fun v => if S v = true then 0 else 1) N = sumI (cl1 (fun l => rmI (f5 l) (f8 l) 1) (fun l => rmI (f5 l) (f8 l) 0) (kF f10) (nF f6) (nF f7) S) N := sumI_congr N (fun l hl => by
      show (if (f10 l).toInt ≠ 0 then 0 else (F l).toInt * ((if S (nF f7 l) = true then (0 : Int) else 1) - (if S (nF f6 l) = true then (0 : Int) else 1))) = (if (f10 l).toInt ≠ 0 then 0 else (if S (nF f6 l) = true ∧ S (nF f7 l) = false then rmI (f5 l) (f8 l) 1 else 0) + (if S (nF f7 l) = true ∧ S (nF f6 l) = false then rmI (f5 l) (f8 l) 0 else 0))
      by_cases z : (f10 l).toInt = 0
      · have nz : ¬ (f10 l).toInt ≠ 0 := fun q => q z
        rw [if_neg nz, if_neg nz]
        obtain ⟨K1, K2⟩ := key l hl z
        have R := rg l hl
        have k := hk l (by omega)
        have a1 := stI_cs (cst (f5 l).toInt (f9 l).toInt) (rmI (f5 l) (f8 l) 0) (rmI (f5 l) (f8 l) 1) (F l).toInt
        have a2 := stI_cs (cst (f5 l).toInt (f9 l).toInt) (rmI (f5 l) (f8 l) 1) (rmI (f5 l) (f8 l) 0) (-(F l).toInt)
        cases q1 : S (nF f6 l) <;> cases q2 : S (nF f7 l)
        · simp
        · have nn : ¬ stI (cst (f5 l).toInt (f9 l).toInt) (rmI (f5 l) (f8 l) 1) (rmI (f5 l) (f8 l) 0) (-(F l).toInt) < 1000000 := fun h => by
            rw [K2 h q2] at q1
            cases q1
          have e9 : (F l).toInt = -(rmI (f5 l) (f8 l) 0) := by
            have : cst (f5 l).toInt (f9 l).toInt = -9 := by omega
            have := k this
            omega
          simp
          omega
        · have nn : ¬ stI (cst (f5 l).toInt (f9 l).toInt) (rmI (f5 l) (f8 l) 0) (rmI (f5 l) (f8 l) 1) (F l).toInt < 1000000 := fun h => by
            rw [K1 h q1] at q2
            cases q2
          have e9 : (F l).toInt = rmI (f5 l) (f8 l) 1 := by
            have : cst (f5 l).toInt (f9 l).toInt = -9 := by omega
            have := k this
            omega
          simp
          omega
        · simp
      · rw [if_pos z, if_pos z])
    omega
end RCH
/-! the reference's search -/
section RSE
variable {x y : Nat → Nat} {c : Nat → Int} {ok : Nat → Bool} {E s t P : Nat} {pi : Nat → Int} {pd : Nat → Int64} {bl bp : Nat → Int32}
theorem cw_b (h : cw x y c ok E s P pd bl bp P 0) (hP : P ≤ 12) (hl : ∀ e : Nat, e < E → ok e = true → -101 ≤ c e) (hc : ∀ e : Nat, e < E → ok e = true → c e ≤ 101) {v : Nat} (hv : v < P) (hf : (pd v).toInt < 1099511627776) : -1212 ≤ (pd v).toInt ∧ (pd v).toInt ≤ 1212 := by
  have a := h.1 v hv
  have b := dst_hB (x := x) (y := y) (s := s) hc P v (by omega)
  have d := dst_lo (x := x) (y := y) (s := s) hl P v
  omega
theorem cw_s (h : cw x y c ok E s P pd bl bp P 0) (hp : ∀ e : Nat, e < E → ok e = true → pi (y e) ≤ pi (x e) + c e) (hs : s < P) : (pd s).toInt = 0 := by
  have a := h.1 s hs
  have m := dst_mono (x := x) (y := y) (c := c) (ok := ok) (E := E) (s := s) P 0 s (Nat.zero_le _)
  have e0 : dst x y c ok E s 0 s = 0 := if_pos rfl
  have b := dst_pi (s := s) hp P s (by omega)
  omega
theorem cz_S (hz : cz x y c ok E s P pd bl bp) (hs0 : (pd s).toInt = 0) (hv : ∀ e : Nat, e < E → ok e = true → x e < P ∧ y e < P) (hc : ∀ e : Nat, e < E → ok e = true → c e < 1000000) (hP : P ≤ 12) (ht : ¬ (pd t).toInt < 1099511627776) : ∃ S : Nat → Bool, sep s t S ∧ ∀ e : Nat, e < E → ok e = true → S (x e) = true → S (y e) = true := by
  refine ⟨fun v => decide ((pd v).toInt < 1099511627776), ⟨decide_eq_true (by rw [hs0]; decide), decide_eq_false ht⟩, fun e he ho hx => ?_⟩
  have hx' : (pd (x e)).toInt < 1099511627776 := of_decide_eq_true hx
  have a := hz.1 e he ho hx'
  have b := hz.2.2.2 (x e) (hv e he ho).1 hx'
  have d := hc e he ho
  exact decide_eq_true (by omega)
end RSE
theorem g_c101 {f5 f8 f9 f10 F : Nat → Int32} {N : Int32} (r9 : rng f9 40 0 100) (hN : 0 ≤ N.toInt ∧ N.toInt ≤ 40) : ∀ e : Nat, e < 2 * N.toNatClampNeg → go f5 f8 f9 f10 F e = true → gc f5 f8 f9 F e ≤ 101 := fun e he ho => by
  have cN := clI (i := N) hN.1
  have b := r9 (e / 2) (by omega)
  have c := cst_rng (k := (f5 (e / 2)).toInt) b.1 b.2
  have lt := (go_iff.mp ho).2
  unfold gc eS at lt ⊢
  by_cases q : e % 2 = 0
  · rw [if_pos q, if_pos (by decide)] at lt ⊢
    have a := stI_cs (cst (f5 (e / 2)).toInt (f9 (e / 2)).toInt) (rmI (f5 (e / 2)) (f8 (e / 2)) 0) (rmI (f5 (e / 2)) (f8 (e / 2)) 1) (F (e / 2)).toInt
    omega
  · rw [if_neg q, if_neg (by decide)] at lt ⊢
    have a := stI_cs (cst (f5 (e / 2)).toInt (f9 (e / 2)).toInt) (rmI (f5 (e / 2)) (f8 (e / 2)) 1) (rmI (f5 (e / 2)) (f8 (e / 2)) 0) (-(F (e / 2)).toInt)
    omega
/-! ===== cheapest: both answers ===== -/
section CCG
variable {r1 r0 g c r1' r0' g' c' : Nat → Int} {st en st' en' : Nat → Nat} {N s t : Nat} {k r : Int}
theorem dT_cg {pi : Nat → Int} {l : Nat} (h : lnS r1 r0 g st en r1' r0' g' st' en' l) : dT r1 r0 g st en pi l = dT r1' r0' g' st' en' pi l := by
  unfold dT
  by_cases z : g l = 0
  · obtain ⟨a1, a2, a3, a4⟩ := h.2 z
    rw [if_neg (show ¬ g l ≠ 0 from fun q => q z), if_neg (show ¬ g' l ≠ 0 from fun q => q (h.1.mp z)), a1, a2, a3, a4]
  · rw [if_pos (show g l ≠ 0 from z), if_pos (show g' l ≠ 0 from fun q => z (h.1.mpr q))]
theorem cl1_cg {S : Nat → Bool} {l : Nat} (h : lnS r1 r0 g st en r1' r0' g' st' en' l) : cl1 r1 r0 g st en S l = cl1 r1' r0' g' st' en' S l := by
  unfold cl1
  by_cases z : g l = 0
  · obtain ⟨a1, a2, a3, a4⟩ := h.2 z
    rw [if_neg (show ¬ g l ≠ 0 from fun q => q z), if_neg (show ¬ g' l ≠ 0 from fun q => q (h.1.mp z)), a1, a2, a3, a4]
  · rw [if_pos (show g l ≠ 0 from z), if_pos (show g' l ≠ 0 from fun q => z (h.1.mpr q))]
theorem feas_cg {pi : Nat → Int} (h : ∀ l : Nat, l < N → lnS r1 r0 g st en r1' r0' g' st' en' l) (hc : ∀ l : Nat, l < N → c l = c' l) : feas g c st en N pi ↔ feas g' c' st' en' N pi := by
  constructor
  · intro f l hl hg hw
    have z := (h l hl).1.mpr hg
    obtain ⟨_, _, a3, a4⟩ := (h l hl).2 z
    rw [← hc l hl] at hw
    have := f l hl z hw
    rw [a3, a4, hc l hl] at this
    exact this
  · intro f l hl hg hw
    obtain ⟨_, _, a3, a4⟩ := (h l hl).2 hg
    rw [hc l hl] at hw
    have := f l hl ((h l hl).1.mp hg) hw
    rw [← a3, ← a4, ← hc l hl] at this
    exact this
theorem dlK_cg {pi : Nat → Int} (h : ∀ l : Nat, l < N → lnS r1 r0 g st en r1' r0' g' st' en' l) : dlK r1 r0 g st en N s t k pi = dlK r1' r0' g' st' en' N s t k pi := by
  unfold dlK
  rw [sumI_congr N (fun l hl => dT_cg (h l hl))]
theorem chR_cg (h : ∀ l : Nat, l < N → lnS r1 r0 g st en r1' r0' g' st' en' l) (hc : ∀ l : Nat, l < N → c l = c' l) (w : chR r1 r0 g c st en N s t k r) : chR r1' r0' g' c' st' en' N s t k r := by
  rcases w with ⟨e, S, hs, h1, h2⟩ | ⟨⟨pi, f, e⟩, u⟩
  · refine Or.inl ⟨e, S, hs, fun l hl hg hw => ?_, ?_⟩
    · have z := (h l hl).1.mpr hg
      obtain ⟨_, _, a3, a4⟩ := (h l hl).2 z
      rw [← hc l hl] at hw
      have := h1 l hl z hw
      rw [a3, a4] at this
      exact this
    · rw [← sumI_congr N (fun l hl => cl1_cg (h l hl))]
      exact h2
  · refine Or.inr ⟨⟨pi, (feas_cg h hc).mp f, ?_⟩, fun p2 f2 => ?_⟩
    · rw [← dlK_cg h]
      exact e
    · rw [← dlK_cg h]
      exact u p2 ((feas_cg h hc).mpr f2)
theorem chR_un {r2 : Int} (hr : ∀ l : Nat, l < N → g l = 0 → 0 ≤ r1 l ∧ 0 ≤ r0 l) (a : chR r1 r0 g c st en N s t k r) (b : chR r1 r0 g c st en N s t k r2) : r = r2 := by
  rcases a with ⟨e, n⟩ | a <;> rcases b with ⟨e2, n2⟩ | b
  · rw [e, e2]
  · exact (no_cst hr n b).elim
  · exact (no_cst hr n2 a).elim
  · exact cst_un a b
end CCG
theorem ans_cheapest {vp vn P N a1 a2 a3 u1 u2 : Int32} {fk fs fe fw fp f5 f6 f7 f8 f9 f10 : Nat → Int32} (h : nrel vp vn fk fs fe fw fp P N f5 f6 f7 f8 f9 f10) (r6 : rng f6 40 0 11) (r8 : rng f8 40 0 2000) (hN : 0 ≤ N.toInt ∧ N.toInt ≤ 40)
    (w1 : (ckI a1.toInt a2.toInt a3.toInt vp.toInt = 0 → chA (cutF fk fs fe fw (-9) vn.toNatClampNeg) (fun r => chR (fun l => rmW (kF fk l) (wF fw (-9) l) 1) (fun l => rmW (kF fk l) (wF fw (-9) l) 0) (gF fs) (cstF fk fp) (nF fs) (nF fe) vn.toNatClampNeg a1.toNatClampNeg a2.toNatClampNeg a3.toInt r) a1.toNatClampNeg a2.toNatClampNeg a3.toInt u1.toInt) ∧ (ckI a1.toInt a2.toInt a3.toInt vp.toInt ≠ 0 → u1.toInt = -1))
    (w2 : (ckI a1.toInt a2.toInt a3.toInt P.toInt = 0 → chA (cutR f5 f6 f7 f8 f10 (-9) N.toNatClampNeg) (fun r => chR (fun l => rmI (f5 l) (f8 l) 1) (fun l => rmI (f5 l) (f8 l) 0) (kF f10) (cstF f5 f9) (nF f6) (nF f7) N.toNatClampNeg a1.toNatClampNeg a2.toNatClampNeg a3.toInt r) a1.toNatClampNeg a2.toNatClampNeg a3.toInt u2.toInt) ∧ (ckI a1.toInt a2.toInt a3.toInt P.toInt ≠ 0 → u2.toInt = -1)) : u1 = u2 := by
  refine Int32.toInt_inj.mp ?_
  have cN := clI (i := N) hN.1
  rw [h.1] at w1
  by_cases e : ckI a1.toInt a2.toInt a3.toInt P.toInt = 0
  · obtain ⟨m1, p1, q1, s1⟩ := w1.1 e
    obtain ⟨m2, p2, q2, s2⟩ := w2.1 e
    rw [cutF_fun h r6 hN] at p1
    have em := mostR_un p1 p2
    subst em
    by_cases z : m1 = -5 ∨ a3.toInt ≤ m1
    · rw [q1 z, q2 z]
    · have k1 := s1 z
      have k2 := s2 z
      rw [h.2.1] at k1
      have hs : ∀ l : Nat, l < N.toNatClampNeg → lnS (fun l => rmW (kF fk l) (wF fw (-9) l) 1) (fun l => rmW (kF fk l) (wF fw (-9) l) 0) (gF fs) (nF fs) (nF fe) (fun l => rmI (f5 l) (f8 l) 1) (fun l => rmI (f5 l) (f8 l) 0) (kF f10) (nF f6) (nF f7) l := fun l hl => by
        obtain ⟨x1, x2, _, x4, x5⟩ := h.2.2 l (by omega)
        have b6 := r6 l (by omega)
        have b8 := r8 l (by omega)
        have eg : gF fs l = 0 ↔ kF f10 l = 0 := by
          unfold gF kF
          by_cases z : (f10 l).toInt = 0
          · rw [gI_0 (by rw [(x5 z).1]; omega)]
            omega
          · rw [gI_1 (x4 z).1]
            omega
        refine ⟨eg, fun z => ?_⟩
        obtain ⟨y1, y2⟩ := x5 (eg.mp z)
        have ew : wF fw (-9) l = (f8 l).toInt := by
          unfold wF
          rw [if_neg (by omega), x2]
          omega
        refine ⟨?_, ?_, ?_, ?_⟩
        · show rmW (kF fk l) (wF fw (-9) l) 1 = rmI (f5 l) (f8 l) 1
          rw [ew, rmI_W b8.1]
          unfold kF
          rw [x1]
          rfl
        · show rmW (kF fk l) (wF fw (-9) l) 0 = rmI (f5 l) (f8 l) 0
          rw [ew, rmI_W b8.1]
          unfold kF
          rw [x1]
          rfl
        · unfold nF
          rw [y1]
        · unfold nF
          rw [y2]
      have hc : ∀ l : Nat, l < N.toNatClampNeg → cstF fk fp l = cstF f5 f9 l := fun l hl => by
        obtain ⟨x1, _, x3, _, _⟩ := h.2.2 l (by omega)
        unfold cstF
        rw [x1, x3]
      exact chR_un (fun l hl _ => by
        have b8 := r8 l (by omega)
        exact ⟨(rmI_rng b8.1 b8.2).1, (rmI_rng b8.1 b8.2).1⟩) (chR_cg hs hc k1) k2
  · rw [w1.2 e, w2.2 e]
theorem chA_0R {C : (Nat → Bool) → Int} {E : Int → Prop} {s t : Nat} {k r : Int} {a : Int32} (h : mstM C s t a.toInt) (h0 : ∀ S : Nat → Bool, 0 ≤ C S) (hk : k ≤ a.toInt) (hr : r = 0) : chA C E s t k r := by
  by_cases z : a.toInt = 1000000
  · exact chA_0 (mst_told (r := (-5)) h h0 (by rw [if_pos z]; decide)) (Or.inl (by decide)) hr
  · exact chA_0 (mst_told (r := a) h h0 (by rw [if_neg z])) (Or.inr hk) hr
theorem chA_pR {C : (Nat → Bool) → Int} {E : Int → Prop} {s t : Nat} {k r : Int} {a : Int32} (h : mstM C s t a.toInt) (h0 : ∀ S : Nat → Bool, 0 ≤ C S) (hk : a.toInt < k) (hk5 : k ≤ 500) (hE : E r) : chA C E s t k r := by
  have z : a.toInt ≠ 1000000 := by omega
  have w := mst_told (r := a) h h0 (by rw [if_neg z])
  refine chA_p w (fun q => ?_) hE
  rcases q with q | q
  · rcases w with w | w
    · obtain ⟨_, b, _⟩ := h
      rcases b with b | ⟨S, _, b⟩
      · exact z b
      · have y := h0 S
        unfold mn6 at b
        split at b <;> omega
    · omega
  · omega
theorem mulL {a : Int64} {b : Int32} {v : Int64} (e : v = a * b.toInt64) (ha : -1212 ≤ a.toInt ∧ a.toInt ≤ 1212) (hb : 0 ≤ b.toInt ∧ b.toInt ≤ 500) : v.toInt = b.toInt * a.toInt ∧ -(1212 * b.toInt) ≤ b.toInt * a.toInt ∧ b.toInt * a.toInt ≤ 1212 * b.toInt := by
  have q := pr_b (a := b.toInt) (c := a.toInt) (B := 1212) hb.1 ha.1 ha.2
  refine ⟨?_, q⟩
  rw [e, Int64.toInt_mul, Int32.toInt_toInt64, Int.mul_comm]
  exact Int.bmod_eq_of_le (by omega) (by omega)
theorem dT_z {r1 r0 g : Nat → Int} {st en : Nat → Nat} {N : Nat} : sumI (dT r1 r0 g st en (fun _ => 0)) N = 0 := by
  refine (sumI_congr N (fun l _ => ?_)).trans (sumI_zero N)
  have w : ∀ x y : Nat, wP (fun _ => (0 : Int)) x y = 0 := fun x y => by
    show (if (0 : Int) < 0 then (0 : Int) - 0 else 0) = 0
    decide
  unfold dT
  rw [w, w, Int.zero_mul, Int.zero_mul]
  split <;> rfl
end

section
set_option maxHeartbeats 4000000 in
set_option maxRecDepth 100000 in
theorem c_X10_stepCosts2 (l : Launch) (D : va_G) (cy : Nat → ClassId) (sz : Nat) (xw : Nat) (wpo : Nat) (wc : Nat) (wf : Nat) (xc : Nat) (xk : Nat) (clo : Nat) (cro : Nat) (c4 : Nat) (c5 : Nat) (c6 : Nat) (c7 : Nat) (c8 : Nat) (xn : Nat) (n1 : Nat) (n2 : Nat) (n3 : Nat) (n4 : Nat) (n5 : Nat) (vp : Int32) (vn : Int32) (rr : Nat → Nat) (Mr : Nat → Nat → Int32) (rp : Nat → Nat) (Mp : Nat → Nat → Int32) (a1 : Int32) (a2 : Int32) (hvp : 0 ≤ vp.toInt ∧ vp.toInt ≤ 12) (q1 : 0 ≤ a1.toInt ∧ a1.toInt < vp.toInt) (q2 : 0 ≤ a2.toInt ∧ a2.toInt < vp.toInt) (hne : a1.toInt ≠ a2.toInt) (hok : okM (zM Mr) (zM Mp) vp.toNatClampNeg) : Met l yX10_stepCosts wsX10_stepCosts ({ frames := 0, cells := 0, slots := 0, locals := 0 }) (va_Pc [.ref xw, .int a1, .int a2] (fun U => U.heap.size = sz ∧ va_P D vwCl [ob10_0_ xw xc xk wpo wc wf, ob0_0_ xc xn xk clo cro c4 c5 c6 c7 c8, ob3_0_ xn vp vn n1 n2 n3 n4 n5, aq_ cy 6 cro 12 (gf_ rr), ai_ cy (rr 0) 12 (Mr 0), ai_ cy (rr 1) 12 (Mr 1), ai_ cy (rr 2) 12 (Mr 2), ai_ cy (rr 3) 12 (Mr 3), ai_ cy (rr 4) 12 (Mr 4), ai_ cy (rr 5) 12 (Mr 5), ai_ cy (rr 6) 12 (Mr 6), ai_ cy (rr 7) 12 (Mr 7), ai_ cy (rr 8) 12 (Mr 8), ai_ cy (rr 9) 12 (Mr 9), ai_ cy (rr 10) 12 (Mr 10), ai_ cy (rr 11) 12 (Mr 11), aq_ cy 6 wpo 12 (gf_ rp), ai_ cy (rp 0) 12 (Mp 0), ai_ cy (rp 1) 12 (Mp 1), ai_ cy (rp 2) 12 (Mp 2), ai_ cy (rp 3) 12 (Mp 3), ai_ cy (rp 4) 12 (Mp 4), ai_ cy (rp 5) 12 (Mp 5), ai_ cy (rp 6) 12 (Mp 6), ai_ cy (rp 7) 12 (Mp 7), ai_ cy (rp 8) 12 (Mp 8), ai_ cy (rp 9) 12 (Mp 9), ai_ cy (rp 10) 12 (Mp 10), ai_ cy (rp 11) 12 (Mp 11)] U.heap ∧ kg_ D cy U ∧ va_D (fun _ => True) [ob10_0_ xw xc xk wpo wc wf, ob0_0_ xc xn xk clo cro c4 c5 c6 c7 c8, ob3_0_ xn vp vn n1 n2 n3 n4 n5, aq_ cy 6 cro 12 (gf_ rr), ai_ cy (rr 0) 12 (Mr 0), ai_ cy (rr 1) 12 (Mr 1), ai_ cy (rr 2) 12 (Mr 2), ai_ cy (rr 3) 12 (Mr 3), ai_ cy (rr 4) 12 (Mr 4), ai_ cy (rr 5) 12 (Mr 5), ai_ cy (rr 6) 12 (Mr 6), ai_ cy (rr 7) 12 (Mr 7), ai_ cy (rr 8) 12 (Mr 8), ai_ cy (rr 9) 12 (Mr 9), ai_ cy (rr 10) 12 (Mr 10), ai_ cy (rr 11) 12 (Mr 11), aq_ cy 6 wpo 12 (gf_ rp), ai_ cy (rp 0) 12 (Mp 0), ai_ cy (rp 1) 12 (Mp 1), ai_ cy (rp 2) 12 (Mp 2), ai_ cy (rp 3) 12 (Mp 3), ai_ cy (rp 4) 12 (Mp 4), ai_ cy (rp 5) 12 (Mp 5), ai_ cy (rp 6) 12 (Mp 6), ai_ cy (rp 7) 12 (Mp 7), ai_ cy (rp 8) 12 (Mp 8), ai_ cy (rp 9) 12 (Mp 9), ai_ cy (rp 10) 12 (Mp 10), ai_ cy (rp 11) 12 (Mp 11)])) (va_Qi (fun (r : Int32) (_ : Unit) => (r.toInt = sC (zM Mr) (zM Mp) a1.toNatClampNeg a2.toNatClampNeg) ∧ (r.toInt ≠ 1000000000 → -101 ≤ r.toInt ∧ r.toInt ≤ 101)) (fun (_ : Unit) (_ : State) => True) (va_A [] sz)) 0 0 (va_A [] sz) := by
  refine ofQ (cc := cX10_stepCosts) (maxL := 3) (ret := (some .int)) (by decide) rfl ?_
  intro p e s m args below meth c s₁ Q hQ B hml hv
  obtain ⟨rfl, hsz, hP, hK, hD0⟩ := hv
  have hG := hK.2
  have hK := hK.1
  have hx := B.exec
  have hb := B.bytes
  have hr := B.returns
  have hts := atoms_spec (ws := wsX10_stepCosts) B.pre
  have hown : s.vm.findClass RX10 = some m.cls := by have h_ := findClass_of_methodNamed B.named; exact h_
  have hlocks := B.notSynchronized
  subst hsz
  have hD : va_D (va_A [] s.heap.size) [] := dd_nil
  generalize hAe : va_A [] s.heap.size = A at hD hQ
  have hA : ∀ q : Nat, s.heap.size ≤ q → A q := fun q h => by rw [← hAe]; exact Or.inr h
  have hS : va_S A s.heap s.heap [] := va_S.rf
  have hl := lv_entry ([.ref xw, .int a1, .int a2]) (n := 3) (Nat.le_of_ble_eq_true rfl)
  rw [lg_entry_eq]
  generalize (lg_sl ([.ref xw, .int a1, .int a2]) ++ List.replicate (3 - (lg_sl ([.ref xw, .int a1, .int a2])).length) Slot.unset).toArray = ls at hl ⊢
  have hl : lv_has ls 3 [(0, .ref xw), (1, .int a1), (2, .int a2)] := hl
  have z0 : (0 : Int32).toInt = 0 := by decide
  have zq0 : (0 : Int32).toInt = 0 := by decide
  have zq1 : (1 : Int32).toInt = 1 := by decide
  have zqv : (1000000000 : Int32).toInt = 1000000000 := by decide
  have c1_ : a1.toNatClampNeg < vp.toNatClampNeg := nc_lt (by omega) (by omega)
  have c2_ : a2.toNatClampNeg < vp.toNatClampNeg := nc_lt (by omega) (by omega)
  have hn_ := nc_ne (x := a1) (y := a2) (by omega) (by omega) hne
  have hkk_ := hok _ _ c1_ c2_ hn_
  have hka_ := hkk_.1
  unfold arK at hka_
  refine lv_aload_n hx hb dB_36_2_23.1.1.1.1 rfl (lv_at hl 0 rfl) ?_
  refine va_get (ci := 10) (v := .ref xc) (C := RX10) (T := TX10) (N := 5) hx hb hts (fun _ h => List.mem_cons_of_mem _ (List.mem_append_left _ (List.mem_append_right _ h))) hown hK.1 hP 0 rfl rfl 0 (by decide) (hts (.fieldLink RX10 23 "CutAtlas$Widening" "current" "LCutAtlas$Current;") (List.mem_of_getElem? (i := 1) rfl)) (fun _ h9 => h9) rfl dB_36_2_23.1.1.1.2 ?_
  refine va_get (ci := 0) (v := .ref cro) (C := RX0) (T := TX0) (N := 9) hx hb hts (fun _ h => List.mem_cons_of_mem _ (List.mem_append_right _ h)) hown hK.1 hP 1 rfl rfl 3 (by decide) (hts (.fieldLink RX10 99 "CutAtlas$Current" "room" "[[I") (List.mem_of_getElem? (i := 2) rfl)) (fun _ h9 => h9) rfl dB_36_2_23.1.1.2.1 ?_
  refine lv_iload_n hx hb dB_36_2_23.1.1.2.2 rfl (lv_at hl 2 rfl) ?_
  have h_1 : vp_in a2 12 := in_I (by first | with_reducible assumption | omega) (by omega)
  refine va_alda hx hb hG hP 3 rfl (i := a2) h_1 dB_36_2_23.1.2.1.1 ?_
  refine lv_topv (v' := .ref (rr a2.toNatClampNeg)) (gf_at h_1) ?_
  refine lv_iload_n hx hb dB_36_2_23.1.2.1.2 rfl (lv_at hl 1 rfl) ?_
  have h_2 : vp_in a1 12 := in_I (by first | with_reducible assumption | omega) (by omega)
  have hPg : va_P D vwCl (([ob10_0_ xw xc xk wpo wc wf, ob0_0_ xc xn xk clo cro c4 c5 c6 c7 c8, ob3_0_ xn vp vn n1 n2 n3 n4 n5, aq_ cy 6 cro 12 (gf_ rr)] : va_W) ++ (gro (cy 0) rr Mr ++ ([aq_ cy 6 wpo 12 (gf_ rp), ai_ cy (rp 0) 12 (Mp 0), ai_ cy (rp 1) 12 (Mp 1), ai_ cy (rp 2) 12 (Mp 2), ai_ cy (rp 3) 12 (Mp 3), ai_ cy (rp 4) 12 (Mp 4), ai_ cy (rp 5) 12 (Mp 5), ai_ cy (rp 6) 12 (Mp 6), ai_ cy (rp 7) 12 (Mp 7), ai_ cy (rp 8) 12 (Mp 8), ai_ cy (rp 9) 12 (Mp 9), ai_ cy (rp 10) 12 (Mp 10), ai_ cy (rp 11) 12 (Mp 11)] : va_W))) s.heap := hP
  refine va_gld (X := [ob10_0_ xw xc xk wpo wc wf, ob0_0_ xc xn xk clo cro c4 c5 c6 c7 c8, ob3_0_ xn vp vn n1 n2 n3 n4 n5, aq_ cy 6 cro 12 (gf_ rr)]) (Y := [aq_ cy 6 wpo 12 (gf_ rp), ai_ cy (rp 0) 12 (Mp 0), ai_ cy (rp 1) 12 (Mp 1), ai_ cy (rp 2) 12 (Mp 2), ai_ cy (rp 3) 12 (Mp 3), ai_ cy (rp 4) 12 (Mp 4), ai_ cy (rp 5) 12 (Mp 5), ai_ cy (rp 6) 12 (Mp 6), ai_ cy (rp 7) 12 (Mp 7), ai_ cy (rp 8) 12 (Mp 8), ai_ cy (rp 9) 12 (Mp 9), ai_ cy (rp 10) 12 (Mp 10), ai_ cy (rp 11) 12 (Mp 11)]) (r := rr) (M := Mr) (k := a2.toNatClampNeg) hx hb hK.1 hPg 0 rfl (in_lt h_1) (i := a1) h_2 dB_36_2_23.1.2.2.1 ?_
  refine lv_topi (fun y_3 ey_3 => ?_)
  have hm2_ : y_3.toInt = zM Mr a2.toNatClampNeg a1.toNatClampNeg := by unfold zM; rw [ey_3]
  refine lv_if_ge (tgt := 24) hx hb dB_36_2_23.1.2.2.2 (by decide) (fun c_4 => ?_) (fun c_4 => ?_)
  · have t_4 : (0 : Int32).toInt ≤ y_3.toInt := Int32.le_iff_toInt_le.mp c_4
    refine lv_aload_n hx hb dB_36_2_24.1.1.1.1 rfl (lv_at hl 0 rfl) ?_
    refine va_get (ci := 10) (v := .ref xc) (C := RX10) (T := TX10) (N := 5) hx hb hts (fun _ h => List.mem_cons_of_mem _ (List.mem_append_left _ (List.mem_append_right _ h))) hown hK.1 hP 0 rfl rfl 0 (by decide) (hts (.fieldLink RX10 23 "CutAtlas$Widening" "current" "LCutAtlas$Current;") (List.mem_of_getElem? (i := 1) rfl)) (fun _ h9 => h9) rfl dB_36_2_24.1.1.1.2 ?_
    refine va_get (ci := 0) (v := .ref cro) (C := RX0) (T := TX0) (N := 9) hx hb hts (fun _ h => List.mem_cons_of_mem _ (List.mem_append_right _ h)) hown hK.1 hP 1 rfl rfl 3 (by decide) (hts (.fieldLink RX10 99 "CutAtlas$Current" "room" "[[I") (List.mem_of_getElem? (i := 2) rfl)) (fun _ h9 => h9) rfl dB_36_2_24.1.1.2.1 ?_
    refine lv_iload_n hx hb dB_36_2_24.1.1.2.2 rfl (lv_at hl 1 rfl) ?_
    refine va_alda hx hb hG hP 3 rfl (i := a1) h_2 dB_36_2_24.1.2.1.1 ?_
    refine lv_topv (v' := .ref (rr a1.toNatClampNeg)) (gf_at h_2) ?_
    refine lv_iload_n hx hb dB_36_2_24.1.2.1.2 rfl (lv_at hl 2 rfl) ?_
    have hPg : va_P D vwCl (([ob10_0_ xw xc xk wpo wc wf, ob0_0_ xc xn xk clo cro c4 c5 c6 c7 c8, ob3_0_ xn vp vn n1 n2 n3 n4 n5, aq_ cy 6 cro 12 (gf_ rr)] : va_W) ++ (gro (cy 0) rr Mr ++ ([aq_ cy 6 wpo 12 (gf_ rp), ai_ cy (rp 0) 12 (Mp 0), ai_ cy (rp 1) 12 (Mp 1), ai_ cy (rp 2) 12 (Mp 2), ai_ cy (rp 3) 12 (Mp 3), ai_ cy (rp 4) 12 (Mp 4), ai_ cy (rp 5) 12 (Mp 5), ai_ cy (rp 6) 12 (Mp 6), ai_ cy (rp 7) 12 (Mp 7), ai_ cy (rp 8) 12 (Mp 8), ai_ cy (rp 9) 12 (Mp 9), ai_ cy (rp 10) 12 (Mp 10), ai_ cy (rp 11) 12 (Mp 11)] : va_W))) s.heap := hP
    refine va_gld (X := [ob10_0_ xw xc xk wpo wc wf, ob0_0_ xc xn xk clo cro c4 c5 c6 c7 c8, ob3_0_ xn vp vn n1 n2 n3 n4 n5, aq_ cy 6 cro 12 (gf_ rr)]) (Y := [aq_ cy 6 wpo 12 (gf_ rp), ai_ cy (rp 0) 12 (Mp 0), ai_ cy (rp 1) 12 (Mp 1), ai_ cy (rp 2) 12 (Mp 2), ai_ cy (rp 3) 12 (Mp 3), ai_ cy (rp 4) 12 (Mp 4), ai_ cy (rp 5) 12 (Mp 5), ai_ cy (rp 6) 12 (Mp 6), ai_ cy (rp 7) 12 (Mp 7), ai_ cy (rp 8) 12 (Mp 8), ai_ cy (rp 9) 12 (Mp 9), ai_ cy (rp 10) 12 (Mp 10), ai_ cy (rp 11) 12 (Mp 11)]) (r := rr) (M := Mr) (k := a1.toNatClampNeg) hx hb hK.1 hPg 0 rfl (in_lt h_2) (i := a2) h_1 dB_36_2_24.1.2.2.1 ?_
    refine lv_topi (fun y_7 ey_7 => ?_)
    have hm1_ : y_7.toInt = zM Mr a1.toNatClampNeg a2.toNatClampNeg := by unfold zM; rw [ey_7]
    refine lv_if_le (tgt := 42) hx hb dB_36_2_24.1.2.2.2 (by decide) (fun c_8 => ?_) (fun c_8 => ?_)
    · have t_8 : y_7.toInt ≤ (0 : Int32).toInt := Int32.le_iff_toInt_le.mp c_8
      refine lv_aload_n hx hb dB_36_2_24.2.1.2.1 rfl (lv_at hl 0 rfl) ?_
      refine va_get (ci := 10) (v := .ref wpo) (C := RX10) (T := TX10) (N := 5) hx hb hts (fun _ h => List.mem_cons_of_mem _ (List.mem_append_left _ (List.mem_append_right _ h))) hown hK.1 hP 0 rfl rfl 2 (by decide) (hts (.fieldLink RX10 11 "CutAtlas$Widening" "prices" "[[I") (List.mem_of_getElem? (i := 3) rfl)) (fun _ h9 => h9) rfl dB_36_2_24.2.1.2.2 ?_
      refine lv_iload_n hx hb dB_36_2_24.2.2.1.1 rfl (lv_at hl 1 rfl) ?_
      refine va_alda hx hb hG hP 16 rfl (i := a1) h_2 dB_36_2_24.2.2.1.2 ?_
      refine lv_topv (v' := .ref (rp a1.toNatClampNeg)) (gf_at h_2) ?_
      refine lv_iload_n hx hb dB_36_2_24.2.2.2.1 rfl (lv_at hl 2 rfl) ?_
      have hPg : va_P D vwCl (([ob10_0_ xw xc xk wpo wc wf, ob0_0_ xc xn xk clo cro c4 c5 c6 c7 c8, ob3_0_ xn vp vn n1 n2 n3 n4 n5, aq_ cy 6 cro 12 (gf_ rr), ai_ cy (rr 0) 12 (Mr 0), ai_ cy (rr 1) 12 (Mr 1), ai_ cy (rr 2) 12 (Mr 2), ai_ cy (rr 3) 12 (Mr 3), ai_ cy (rr 4) 12 (Mr 4), ai_ cy (rr 5) 12 (Mr 5), ai_ cy (rr 6) 12 (Mr 6), ai_ cy (rr 7) 12 (Mr 7), ai_ cy (rr 8) 12 (Mr 8), ai_ cy (rr 9) 12 (Mr 9), ai_ cy (rr 10) 12 (Mr 10), ai_ cy (rr 11) 12 (Mr 11), aq_ cy 6 wpo 12 (gf_ rp)] : va_W) ++ (gro (cy 0) rp Mp ++ ([] : va_W))) s.heap := hP
      refine va_gld (X := [ob10_0_ xw xc xk wpo wc wf, ob0_0_ xc xn xk clo cro c4 c5 c6 c7 c8, ob3_0_ xn vp vn n1 n2 n3 n4 n5, aq_ cy 6 cro 12 (gf_ rr), ai_ cy (rr 0) 12 (Mr 0), ai_ cy (rr 1) 12 (Mr 1), ai_ cy (rr 2) 12 (Mr 2), ai_ cy (rr 3) 12 (Mr 3), ai_ cy (rr 4) 12 (Mr 4), ai_ cy (rr 5) 12 (Mr 5), ai_ cy (rr 6) 12 (Mr 6), ai_ cy (rr 7) 12 (Mr 7), ai_ cy (rr 8) 12 (Mr 8), ai_ cy (rr 9) 12 (Mr 9), ai_ cy (rr 10) 12 (Mr 10), ai_ cy (rr 11) 12 (Mr 11), aq_ cy 6 wpo 12 (gf_ rp)]) (Y := []) (r := rp) (M := Mp) (k := a1.toNatClampNeg) hx hb hK.1 hPg 0 rfl (in_lt h_2) (i := a2) h_1 dB_36_2_24.2.2.2.2 ?_
      refine lv_topi (fun y_11 ey_11 => ?_)
      first | (have hp_ : y_11.toInt = zM Mp a1.toNatClampNeg a2.toNatClampNeg := by unfold zM; rw [ey_11]) | skip
      rw [hQ]
      exact W.iret (v := y_11) hx hb hr (fun t ht hW => ⟨⟨y_11, (), rfl, ⟨by unfold sC arS; first | (rw [if_pos (by omega)]; omega) | (rw [if_neg (by omega), if_pos (by omega)]; omega) | (rw [if_neg (by omega), if_neg (by omega)]; omega), fun _ => by first | omega | (have h_ := hkk_.2.2.2; omega)⟩, trivial⟩, hS.F ht⟩) hS.2.2 dB_36_2_25
    · have t_8 : ¬ y_7.toInt ≤ (0 : Int32).toInt := fun h => c_8 (Int32.le_iff_toInt_le.mpr h)
      refine lv_iconst (v := 0) hx hb dB_36_2_24.2.1.1.1 (by decide) ?_
      refine lv_goto (tgt := 50) hx hb dB_36_2_24.2.1.1.2 (by decide) ?_
      first | (have hp_ : (0 : Int32).toInt = zM Mp a1.toNatClampNeg a2.toNatClampNeg := by unfold zM; rw [e_lit]) | skip
      rw [hQ]
      exact W.iret (v := 0) hx hb hr (fun t ht hW => ⟨⟨0, (), rfl, ⟨by unfold sC arS; first | (rw [if_pos (by omega)]; omega) | (rw [if_neg (by omega), if_pos (by omega)]; omega) | (rw [if_neg (by omega), if_neg (by omega)]; omega), fun _ => by first | omega | (have h_ := hkk_.2.2.2; omega)⟩, trivial⟩, hS.F ht⟩) hS.2.2 dB_36_2_25
  · have t_4 : ¬ (0 : Int32).toInt ≤ y_3.toInt := fun h => c_4 (Int32.le_iff_toInt_le.mpr h)
    refine lv_aload_n hx hb dB_36_2_23.2.1.1.1 rfl (lv_at hl 0 rfl) ?_
    refine va_get (ci := 10) (v := .ref wpo) (C := RX10) (T := TX10) (N := 5) hx hb hts (fun _ h => List.mem_cons_of_mem _ (List.mem_append_left _ (List.mem_append_right _ h))) hown hK.1 hP 0 rfl rfl 2 (by decide) (hts (.fieldLink RX10 11 "CutAtlas$Widening" "prices" "[[I") (List.mem_of_getElem? (i := 3) rfl)) (fun _ h9 => h9) rfl dB_36_2_23.2.1.1.2 ?_
    refine lv_iload_n hx hb dB_36_2_23.2.1.2.1 rfl (lv_at hl 1 rfl) ?_
    refine va_alda hx hb hG hP 16 rfl (i := a1) h_2 dB_36_2_23.2.1.2.2 ?_
    refine lv_topv (v' := .ref (rp a1.toNatClampNeg)) (gf_at h_2) ?_
    refine lv_iload_n hx hb dB_36_2_23.2.2.1.1 rfl (lv_at hl 2 rfl) ?_
    have hPg : va_P D vwCl (([ob10_0_ xw xc xk wpo wc wf, ob0_0_ xc xn xk clo cro c4 c5 c6 c7 c8, ob3_0_ xn vp vn n1 n2 n3 n4 n5, aq_ cy 6 cro 12 (gf_ rr), ai_ cy (rr 0) 12 (Mr 0), ai_ cy (rr 1) 12 (Mr 1), ai_ cy (rr 2) 12 (Mr 2), ai_ cy (rr 3) 12 (Mr 3), ai_ cy (rr 4) 12 (Mr 4), ai_ cy (rr 5) 12 (Mr 5), ai_ cy (rr 6) 12 (Mr 6), ai_ cy (rr 7) 12 (Mr 7), ai_ cy (rr 8) 12 (Mr 8), ai_ cy (rr 9) 12 (Mr 9), ai_ cy (rr 10) 12 (Mr 10), ai_ cy (rr 11) 12 (Mr 11), aq_ cy 6 wpo 12 (gf_ rp)] : va_W) ++ (gro (cy 0) rp Mp ++ ([] : va_W))) s.heap := hP
    refine va_gld (X := [ob10_0_ xw xc xk wpo wc wf, ob0_0_ xc xn xk clo cro c4 c5 c6 c7 c8, ob3_0_ xn vp vn n1 n2 n3 n4 n5, aq_ cy 6 cro 12 (gf_ rr), ai_ cy (rr 0) 12 (Mr 0), ai_ cy (rr 1) 12 (Mr 1), ai_ cy (rr 2) 12 (Mr 2), ai_ cy (rr 3) 12 (Mr 3), ai_ cy (rr 4) 12 (Mr 4), ai_ cy (rr 5) 12 (Mr 5), ai_ cy (rr 6) 12 (Mr 6), ai_ cy (rr 7) 12 (Mr 7), ai_ cy (rr 8) 12 (Mr 8), ai_ cy (rr 9) 12 (Mr 9), ai_ cy (rr 10) 12 (Mr 10), ai_ cy (rr 11) 12 (Mr 11), aq_ cy 6 wpo 12 (gf_ rp)]) (Y := []) (r := rp) (M := Mp) (k := a1.toNatClampNeg) hx hb hK.1 hPg 0 rfl (in_lt h_2) (i := a2) h_1 dB_36_2_23.2.2.1.2 ?_
    refine lv_topi (fun y_14 ey_14 => ?_)
    have hp_ : y_14.toInt = zM Mp a1.toNatClampNeg a2.toNatClampNeg := by unfold zM; rw [ey_14]
    refine lv_ineg hx hb dB_36_2_23.2.2.2.1 ?_
    refine lv_topi (fun y_15 ey_15 => ?_)
    have ty_15 : y_15.toInt = - y_14.toInt := by rw [ey_15]; exact negI (by omega)
    rw [hQ]
    exact W.iret (v := y_15) hx hb hr (fun t ht hW => ⟨⟨y_15, (), rfl, ⟨by unfold sC arS; first | (rw [if_pos (by omega)]; omega) | (rw [if_neg (by omega), if_pos (by omega)]; omega) | (rw [if_neg (by omega), if_neg (by omega)]; omega), fun _ => by first | omega | (have h_ := hkk_.2.2.2; omega)⟩, trivial⟩, hS.F ht⟩) hS.2.2 dB_36_2_23.2.2.2.2

set_option maxHeartbeats 4000000 in
set_option maxRecDepth 100000 in
theorem c_X10_stepRoom2 (l : Launch) (D : va_G) (cy : Nat → ClassId) (sz : Nat) (xw : Nat) (wpo : Nat) (wc : Nat) (wf : Nat) (xc : Nat) (xk : Nat) (clo : Nat) (cro : Nat) (c4 : Nat) (c5 : Nat) (c6 : Nat) (c7 : Nat) (c8 : Nat) (xn : Nat) (n1 : Nat) (n2 : Nat) (n3 : Nat) (n4 : Nat) (n5 : Nat) (vp : Int32) (vn : Int32) (rr : Nat → Nat) (Mr : Nat → Nat → Int32) (a1 : Int32) (a2 : Int32) (hvp : 0 ≤ vp.toInt ∧ vp.toInt ≤ 12) (q1 : 0 ≤ a1.toInt ∧ a1.toInt < vp.toInt) (q2 : 0 ≤ a2.toInt ∧ a2.toInt < vp.toInt) (hmb : ∀ x y : Nat, x < vp.toNatClampNeg → y < vp.toNatClampNeg → -200000000 ≤ zM Mr x y ∧ zM Mr x y ≤ 200000000) : Met l yX10_stepRoom wsX10_stepRoom ({ frames := 0, cells := 0, slots := 0, locals := 0 }) (va_Pc [.ref xw, .int a1, .int a2] (fun U => U.heap.size = sz ∧ va_P D vwCl [ob10_0_ xw xc xk wpo wc wf, ob0_0_ xc xn xk clo cro c4 c5 c6 c7 c8, ob3_0_ xn vp vn n1 n2 n3 n4 n5, aq_ cy 6 cro 12 (gf_ rr), ai_ cy (rr 0) 12 (Mr 0), ai_ cy (rr 1) 12 (Mr 1), ai_ cy (rr 2) 12 (Mr 2), ai_ cy (rr 3) 12 (Mr 3), ai_ cy (rr 4) 12 (Mr 4), ai_ cy (rr 5) 12 (Mr 5), ai_ cy (rr 6) 12 (Mr 6), ai_ cy (rr 7) 12 (Mr 7), ai_ cy (rr 8) 12 (Mr 8), ai_ cy (rr 9) 12 (Mr 9), ai_ cy (rr 10) 12 (Mr 10), ai_ cy (rr 11) 12 (Mr 11)] U.heap ∧ kg_ D cy U ∧ va_D (fun _ => True) [ob10_0_ xw xc xk wpo wc wf, ob0_0_ xc xn xk clo cro c4 c5 c6 c7 c8, ob3_0_ xn vp vn n1 n2 n3 n4 n5, aq_ cy 6 cro 12 (gf_ rr), ai_ cy (rr 0) 12 (Mr 0), ai_ cy (rr 1) 12 (Mr 1), ai_ cy (rr 2) 12 (Mr 2), ai_ cy (rr 3) 12 (Mr 3), ai_ cy (rr 4) 12 (Mr 4), ai_ cy (rr 5) 12 (Mr 5), ai_ cy (rr 6) 12 (Mr 6), ai_ cy (rr 7) 12 (Mr 7), ai_ cy (rr 8) 12 (Mr 8), ai_ cy (rr 9) 12 (Mr 9), ai_ cy (rr 10) 12 (Mr 10), ai_ cy (rr 11) 12 (Mr 11)])) (va_Qi (fun (r : Int32) (_ : Unit) => (r.toInt = arM (zM Mr a1.toNatClampNeg a2.toNatClampNeg) (zM Mr a2.toNatClampNeg a1.toNatClampNeg)) ∧ (1 ≤ r.toInt)) (fun (_ : Unit) (_ : State) => True) (va_A [] sz)) 0 0 (va_A [] sz) := by
  refine ofQ (cc := cX10_stepRoom) (maxL := 3) (ret := (some .int)) (by decide) rfl ?_
  intro p e s m args below meth c s₁ Q hQ B hml hv
  obtain ⟨rfl, hsz, hP, hK, hD0⟩ := hv
  have hG := hK.2
  have hK := hK.1
  have hx := B.exec
  have hb := B.bytes
  have hr := B.returns
  have hts := atoms_spec (ws := wsX10_stepRoom) B.pre
  have hown : s.vm.findClass RX10 = some m.cls := by have h_ := findClass_of_methodNamed B.named; exact h_
  have hlocks := B.notSynchronized
  subst hsz
  have hD : va_D (va_A [] s.heap.size) [] := dd_nil
  generalize hAe : va_A [] s.heap.size = A at hD hQ
  have hA : ∀ q : Nat, s.heap.size ≤ q → A q := fun q h => by rw [← hAe]; exact Or.inr h
  have hS : va_S A s.heap s.heap [] := va_S.rf
  have hl := lv_entry ([.ref xw, .int a1, .int a2]) (n := 3) (Nat.le_of_ble_eq_true rfl)
  rw [lg_entry_eq]
  generalize (lg_sl ([.ref xw, .int a1, .int a2]) ++ List.replicate (3 - (lg_sl ([.ref xw, .int a1, .int a2])).length) Slot.unset).toArray = ls at hl ⊢
  have hl : lv_has ls 3 [(0, .ref xw), (1, .int a1), (2, .int a2)] := hl
  have z0 : (0 : Int32).toInt = 0 := by decide
  have z1000000000 : (1000000000 : Int32).toInt = 1000000000 := by decide
  have zq0 : (0 : Int32).toInt = 0 := by decide
  have zq1 : (1 : Int32).toInt = 1 := by decide
  have zqv : (1000000000 : Int32).toInt = 1000000000 := by decide
  have c1_ : a1.toNatClampNeg < vp.toNatClampNeg := nc_lt (by omega) (by omega)
  have c2_ : a2.toNatClampNeg < vp.toNatClampNeg := nc_lt (by omega) (by omega)
  have hb1_ := hmb _ _ c1_ c2_
  have hb2_ := hmb _ _ c2_ c1_
  refine lv_aload_n hx hb dB_36_2_26.1.1.1.1 rfl (lv_at hl 0 rfl) ?_
  refine va_get (ci := 10) (v := .ref xc) (C := RX10) (T := TX10) (N := 5) hx hb hts (fun _ h => List.mem_cons_of_mem _ (List.mem_append_left _ (List.mem_append_right _ h))) hown hK.1 hP 0 rfl rfl 0 (by decide) (hts (.fieldLink RX10 23 "CutAtlas$Widening" "current" "LCutAtlas$Current;") (List.mem_of_getElem? (i := 1) rfl)) (fun _ h9 => h9) rfl dB_36_2_26.1.1.1.2 ?_
  refine va_get (ci := 0) (v := .ref cro) (C := RX0) (T := TX0) (N := 9) hx hb hts (fun _ h => List.mem_cons_of_mem _ (List.mem_append_right _ h)) hown hK.1 hP 1 rfl rfl 3 (by decide) (hts (.fieldLink RX10 99 "CutAtlas$Current" "room" "[[I") (List.mem_of_getElem? (i := 2) rfl)) (fun _ h9 => h9) rfl dB_36_2_26.1.1.2.1 ?_
  refine lv_iload_n hx hb dB_36_2_26.1.1.2.2 rfl (lv_at hl 2 rfl) ?_
  have h_1 : vp_in a2 12 := in_I (by first | with_reducible assumption | omega) (by omega)
  refine va_alda hx hb hG hP 3 rfl (i := a2) h_1 dB_36_2_26.1.2.1.1 ?_
  refine lv_topv (v' := .ref (rr a2.toNatClampNeg)) (gf_at h_1) ?_
  refine lv_iload_n hx hb dB_36_2_26.1.2.1.2 rfl (lv_at hl 1 rfl) ?_
  have h_2 : vp_in a1 12 := in_I (by first | with_reducible assumption | omega) (by omega)
  have hPg : va_P D vwCl (([ob10_0_ xw xc xk wpo wc wf, ob0_0_ xc xn xk clo cro c4 c5 c6 c7 c8, ob3_0_ xn vp vn n1 n2 n3 n4 n5, aq_ cy 6 cro 12 (gf_ rr)] : va_W) ++ (gro (cy 0) rr Mr ++ ([] : va_W))) s.heap := hP
  refine va_gld (X := [ob10_0_ xw xc xk wpo wc wf, ob0_0_ xc xn xk clo cro c4 c5 c6 c7 c8, ob3_0_ xn vp vn n1 n2 n3 n4 n5, aq_ cy 6 cro 12 (gf_ rr)]) (Y := []) (r := rr) (M := Mr) (k := a2.toNatClampNeg) hx hb hK.1 hPg 0 rfl (in_lt h_1) (i := a1) h_2 dB_36_2_26.1.2.2.1 ?_
  refine lv_topi (fun y_3 ey_3 => ?_)
  have hm2_ : y_3.toInt = zM Mr a2.toNatClampNeg a1.toNatClampNeg := by unfold zM; rw [ey_3]
  refine lv_if_ge (tgt := 27) hx hb dB_36_2_26.1.2.2.2 (by decide) (fun c_4 => ?_) (fun c_4 => ?_)
  · have t_4 : (0 : Int32).toInt ≤ y_3.toInt := Int32.le_iff_toInt_le.mp c_4
    refine lv_aload_n hx hb dB_36_2_27.1.1.1.2 rfl (lv_at hl 0 rfl) ?_
    refine va_get (ci := 10) (v := .ref xc) (C := RX10) (T := TX10) (N := 5) hx hb hts (fun _ h => List.mem_cons_of_mem _ (List.mem_append_left _ (List.mem_append_right _ h))) hown hK.1 hP 0 rfl rfl 0 (by decide) (hts (.fieldLink RX10 23 "CutAtlas$Widening" "current" "LCutAtlas$Current;") (List.mem_of_getElem? (i := 1) rfl)) (fun _ h9 => h9) rfl dB_36_2_27.1.1.2.1 ?_
    refine va_get (ci := 0) (v := .ref cro) (C := RX0) (T := TX0) (N := 9) hx hb hts (fun _ h => List.mem_cons_of_mem _ (List.mem_append_right _ h)) hown hK.1 hP 1 rfl rfl 3 (by decide) (hts (.fieldLink RX10 99 "CutAtlas$Current" "room" "[[I") (List.mem_of_getElem? (i := 2) rfl)) (fun _ h9 => h9) rfl dB_36_2_27.1.1.2.2 ?_
    refine lv_iload_n hx hb dB_36_2_27.1.2.1.1 rfl (lv_at hl 1 rfl) ?_
    refine va_alda hx hb hG hP 3 rfl (i := a1) h_2 dB_36_2_27.1.2.1.2 ?_
    refine lv_topv (v' := .ref (rr a1.toNatClampNeg)) (gf_at h_2) ?_
    refine lv_iload_n hx hb dB_36_2_27.1.2.2.1 rfl (lv_at hl 2 rfl) ?_
    have hPg : va_P D vwCl (([ob10_0_ xw xc xk wpo wc wf, ob0_0_ xc xn xk clo cro c4 c5 c6 c7 c8, ob3_0_ xn vp vn n1 n2 n3 n4 n5, aq_ cy 6 cro 12 (gf_ rr)] : va_W) ++ (gro (cy 0) rr Mr ++ ([] : va_W))) s.heap := hP
    refine va_gld (X := [ob10_0_ xw xc xk wpo wc wf, ob0_0_ xc xn xk clo cro c4 c5 c6 c7 c8, ob3_0_ xn vp vn n1 n2 n3 n4 n5, aq_ cy 6 cro 12 (gf_ rr)]) (Y := []) (r := rr) (M := Mr) (k := a1.toNatClampNeg) hx hb hK.1 hPg 0 rfl (in_lt h_2) (i := a2) h_1 dB_36_2_27.1.2.2.2 ?_
    refine lv_topi (fun y_7 ey_7 => ?_)
    have hm1_ : y_7.toInt = zM Mr a1.toNatClampNeg a2.toNatClampNeg := by unfold zM; rw [ey_7]
    refine lv_if_le (tgt := 55) hx hb dB_36_2_27.2.1.1.1 (by decide) (fun c_8 => ?_) (fun c_8 => ?_)
    · have t_8 : y_7.toInt ≤ (0 : Int32).toInt := Int32.le_iff_toInt_le.mp c_8
      refine lv_ldc (v := 1000000000) hx hb hown (hts (.constant RX10 38 (1000000000)) (List.mem_of_getElem? (i := 3) rfl)) dB_36_2_28.2.1 ?_
      first | (have hm4_ : (1000000000 : Int32).toInt = zM Mr a1.toNatClampNeg a2.toNatClampNeg := by unfold zM; rw [e_lit]) | skip
      rw [hQ]
      exact W.iret (v := 1000000000) hx hb hr (fun t ht hW => ⟨⟨1000000000, (), rfl, ⟨by unfold arM; first | (rw [if_pos (by omega)]; omega) | (rw [if_neg (by omega), if_pos (by omega)]; omega) | (rw [if_neg (by omega), if_neg (by omega)]; omega), by omega⟩, trivial⟩, hS.F ht⟩) hS.2.2 dB_36_2_28.2.2
    · have t_8 : ¬ y_7.toInt ≤ (0 : Int32).toInt := fun h => c_8 (Int32.le_iff_toInt_le.mpr h)
      refine lv_aload_n hx hb dB_36_2_27.2.1.1.2 rfl (lv_at hl 0 rfl) ?_
      refine va_get (ci := 10) (v := .ref xc) (C := RX10) (T := TX10) (N := 5) hx hb hts (fun _ h => List.mem_cons_of_mem _ (List.mem_append_left _ (List.mem_append_right _ h))) hown hK.1 hP 0 rfl rfl 0 (by decide) (hts (.fieldLink RX10 23 "CutAtlas$Widening" "current" "LCutAtlas$Current;") (List.mem_of_getElem? (i := 1) rfl)) (fun _ h9 => h9) rfl dB_36_2_27.2.1.2.1 ?_
      refine va_get (ci := 0) (v := .ref cro) (C := RX0) (T := TX0) (N := 9) hx hb hts (fun _ h => List.mem_cons_of_mem _ (List.mem_append_right _ h)) hown hK.1 hP 1 rfl rfl 3 (by decide) (hts (.fieldLink RX10 99 "CutAtlas$Current" "room" "[[I") (List.mem_of_getElem? (i := 2) rfl)) (fun _ h9 => h9) rfl dB_36_2_27.2.1.2.2 ?_
      refine lv_iload_n hx hb dB_36_2_27.2.2.1.1 rfl (lv_at hl 1 rfl) ?_
      refine va_alda hx hb hG hP 3 rfl (i := a1) h_2 dB_36_2_27.2.2.1.2 ?_
      refine lv_topv (v' := .ref (rr a1.toNatClampNeg)) (gf_at h_2) ?_
      refine lv_iload_n hx hb dB_36_2_27.2.2.2.1 rfl (lv_at hl 2 rfl) ?_
      have hPg : va_P D vwCl (([ob10_0_ xw xc xk wpo wc wf, ob0_0_ xc xn xk clo cro c4 c5 c6 c7 c8, ob3_0_ xn vp vn n1 n2 n3 n4 n5, aq_ cy 6 cro 12 (gf_ rr)] : va_W) ++ (gro (cy 0) rr Mr ++ ([] : va_W))) s.heap := hP
      refine va_gld (X := [ob10_0_ xw xc xk wpo wc wf, ob0_0_ xc xn xk clo cro c4 c5 c6 c7 c8, ob3_0_ xn vp vn n1 n2 n3 n4 n5, aq_ cy 6 cro 12 (gf_ rr)]) (Y := []) (r := rr) (M := Mr) (k := a1.toNatClampNeg) hx hb hK.1 hPg 0 rfl (in_lt h_2) (i := a2) h_1 dB_36_2_27.2.2.2.2 ?_
      refine lv_topi (fun y_11 ey_11 => ?_)
      refine lv_goto (tgt := 57) hx hb dB_36_2_28.1 (by decide) ?_
      first | (have hm4_ : y_11.toInt = zM Mr a1.toNatClampNeg a2.toNatClampNeg := by unfold zM; rw [ey_11]) | skip
      rw [hQ]
      exact W.iret (v := y_11) hx hb hr (fun t ht hW => ⟨⟨y_11, (), rfl, ⟨by unfold arM; first | (rw [if_pos (by omega)]; omega) | (rw [if_neg (by omega), if_pos (by omega)]; omega) | (rw [if_neg (by omega), if_neg (by omega)]; omega), by omega⟩, trivial⟩, hS.F ht⟩) hS.2.2 dB_36_2_28.2.2
  · have t_4 : ¬ (0 : Int32).toInt ≤ y_3.toInt := fun h => c_4 (Int32.le_iff_toInt_le.mpr h)
    refine lv_aload_n hx hb dB_36_2_26.2.1.1.1 rfl (lv_at hl 0 rfl) ?_
    refine va_get (ci := 10) (v := .ref xc) (C := RX10) (T := TX10) (N := 5) hx hb hts (fun _ h => List.mem_cons_of_mem _ (List.mem_append_left _ (List.mem_append_right _ h))) hown hK.1 hP 0 rfl rfl 0 (by decide) (hts (.fieldLink RX10 23 "CutAtlas$Widening" "current" "LCutAtlas$Current;") (List.mem_of_getElem? (i := 1) rfl)) (fun _ h9 => h9) rfl dB_36_2_26.2.1.1.2 ?_
    refine va_get (ci := 0) (v := .ref cro) (C := RX0) (T := TX0) (N := 9) hx hb hts (fun _ h => List.mem_cons_of_mem _ (List.mem_append_right _ h)) hown hK.1 hP 1 rfl rfl 3 (by decide) (hts (.fieldLink RX10 99 "CutAtlas$Current" "room" "[[I") (List.mem_of_getElem? (i := 2) rfl)) (fun _ h9 => h9) rfl dB_36_2_26.2.1.2.1 ?_
    refine lv_iload_n hx hb dB_36_2_26.2.1.2.2 rfl (lv_at hl 2 rfl) ?_
    refine va_alda hx hb hG hP 3 rfl (i := a2) h_1 dB_36_2_26.2.2.1.1 ?_
    refine lv_topv (v' := .ref (rr a2.toNatClampNeg)) (gf_at h_1) ?_
    refine lv_iload_n hx hb dB_36_2_26.2.2.1.2 rfl (lv_at hl 1 rfl) ?_
    have hPg : va_P D vwCl (([ob10_0_ xw xc xk wpo wc wf, ob0_0_ xc xn xk clo cro c4 c5 c6 c7 c8, ob3_0_ xn vp vn n1 n2 n3 n4 n5, aq_ cy 6 cro 12 (gf_ rr)] : va_W) ++ (gro (cy 0) rr Mr ++ ([] : va_W))) s.heap := hP
    refine va_gld (X := [ob10_0_ xw xc xk wpo wc wf, ob0_0_ xc xn xk clo cro c4 c5 c6 c7 c8, ob3_0_ xn vp vn n1 n2 n3 n4 n5, aq_ cy 6 cro 12 (gf_ rr)]) (Y := []) (r := rr) (M := Mr) (k := a2.toNatClampNeg) hx hb hK.1 hPg 0 rfl (in_lt h_1) (i := a1) h_2 dB_36_2_26.2.2.2.1 ?_
    refine lv_topi (fun y_14 ey_14 => ?_)
    have hm3_ : y_14.toInt = zM Mr a2.toNatClampNeg a1.toNatClampNeg := by unfold zM; rw [ey_14]
    refine lv_ineg hx hb dB_36_2_26.2.2.2.2 ?_
    refine lv_topi (fun y_15 ey_15 => ?_)
    have ty_15 : y_15.toInt = - y_14.toInt := by rw [ey_15]; exact negI (by omega)
    rw [hQ]
    exact W.iret (v := y_15) hx hb hr (fun t ht hW => ⟨⟨y_15, (), rfl, ⟨by unfold arM; first | (rw [if_pos (by omega)]; omega) | (rw [if_neg (by omega), if_pos (by omega)]; omega) | (rw [if_neg (by omega), if_neg (by omega)]; omega), by omega⟩, trivial⟩, hS.F ht⟩) hS.2.2 dB_36_2_27.1.1.1.1
end

section
set_option maxHeartbeats 4000000 in
set_option maxRecDepth 100000 in
theorem c_X10_lookFrom2 (l : Launch) (D : va_G) (cy : Nat → ClassId) (sz : Nat) (xw : Nat) (wpo : Nat) (wc : Nat) (wf : Nat) (xc : Nat) (xk : Nat) (clo : Nat) (cro : Nat) (c4 : Nat) (c5 : Nat) (c6 : Nat) (c7 : Nat) (c8 : Nat) (xn : Nat) (n1 : Nat) (n2 : Nat) (n3 : Nat) (n4 : Nat) (n5 : Nat) (vp : Int32) (vn : Int32) (rr : Nat → Nat) (Mr : Nat → Nat → Int32) (rp : Nat → Nat) (Mp : Nat → Nat → Int32) (fc : Nat → Int32) (ff : Nat → Int32) (a1 : Int32) (hvp : 0 ≤ vp.toInt ∧ vp.toInt ≤ 12) (q1 : 0 ≤ a1.toInt ∧ a1.toInt < vp.toInt) (hok : okM (zM Mr) (zM Mp) vp.toNatClampNeg) (hpo : ∃ pi : Nat → Int, potC (zM Mr) (zM Mp) vp.toNatClampNeg pi) (hcw : ∃ s rnd : Nat, cwC (zM Mr) (zM Mp) vp.toNatClampNeg s fc ff rnd (12 * a1.toNatClampNeg)) (hbd : bdC vp.toNatClampNeg fc 900000) (hfx : (fc a1.toNatClampNeg).toInt ≠ 1000000000) (r_ff : rng ff 12 (0) (11)) : Met l yX10_lookFrom wsX10_lookFrom ({ frames := 1, cells := 0, slots := 0, locals := 22 }) (va_Pc [.ref xw, .int a1] (fun U => U.heap.size = sz ∧ va_P D vwCl [ob10_0_ xw xc xk wpo wc wf, ob0_0_ xc xn xk clo cro c4 c5 c6 c7 c8, ob3_0_ xn vp vn n1 n2 n3 n4 n5, aq_ cy 6 cro 12 (gf_ rr), ai_ cy (rr 0) 12 (Mr 0), ai_ cy (rr 1) 12 (Mr 1), ai_ cy (rr 2) 12 (Mr 2), ai_ cy (rr 3) 12 (Mr 3), ai_ cy (rr 4) 12 (Mr 4), ai_ cy (rr 5) 12 (Mr 5), ai_ cy (rr 6) 12 (Mr 6), ai_ cy (rr 7) 12 (Mr 7), ai_ cy (rr 8) 12 (Mr 8), ai_ cy (rr 9) 12 (Mr 9), ai_ cy (rr 10) 12 (Mr 10), ai_ cy (rr 11) 12 (Mr 11), aq_ cy 6 wpo 12 (gf_ rp), ai_ cy (rp 0) 12 (Mp 0), ai_ cy (rp 1) 12 (Mp 1), ai_ cy (rp 2) 12 (Mp 2), ai_ cy (rp 3) 12 (Mp 3), ai_ cy (rp 4) 12 (Mp 4), ai_ cy (rp 5) 12 (Mp 5), ai_ cy (rp 6) 12 (Mp 6), ai_ cy (rp 7) 12 (Mp 7), ai_ cy (rp 8) 12 (Mp 8), ai_ cy (rp 9) 12 (Mp 9), ai_ cy (rp 10) 12 (Mp 10), ai_ cy (rp 11) 12 (Mp 11), ai_ cy wc 12 fc, ai_ cy wf 12 ff] U.heap ∧ kg_ D cy U ∧ va_D (fun _ => True) [ob10_0_ xw xc xk wpo wc wf, ob0_0_ xc xn xk clo cro c4 c5 c6 c7 c8, ob3_0_ xn vp vn n1 n2 n3 n4 n5, aq_ cy 6 cro 12 (gf_ rr), ai_ cy (rr 0) 12 (Mr 0), ai_ cy (rr 1) 12 (Mr 1), ai_ cy (rr 2) 12 (Mr 2), ai_ cy (rr 3) 12 (Mr 3), ai_ cy (rr 4) 12 (Mr 4), ai_ cy (rr 5) 12 (Mr 5), ai_ cy (rr 6) 12 (Mr 6), ai_ cy (rr 7) 12 (Mr 7), ai_ cy (rr 8) 12 (Mr 8), ai_ cy (rr 9) 12 (Mr 9), ai_ cy (rr 10) 12 (Mr 10), ai_ cy (rr 11) 12 (Mr 11), aq_ cy 6 wpo 12 (gf_ rp), ai_ cy (rp 0) 12 (Mp 0), ai_ cy (rp 1) 12 (Mp 1), ai_ cy (rp 2) 12 (Mp 2), ai_ cy (rp 3) 12 (Mp 3), ai_ cy (rp 4) 12 (Mp 4), ai_ cy (rp 5) 12 (Mp 5), ai_ cy (rp 6) 12 (Mp 6), ai_ cy (rp 7) 12 (Mp 7), ai_ cy (rp 8) 12 (Mp 8), ai_ cy (rp 9) 12 (Mp 9), ai_ cy (rp 10) 12 (Mp 10), ai_ cy (rp 11) 12 (Mp 11), ai_ cy wc 12 fc, ai_ cy wf 12 ff])) (va_Qi (fun (r : Int32) (u : Int32) => u = r ∧ ((r.toInt = 0 ∨ r.toInt = 1))) (fun (u : Int32) (t : State) => ∃ (ec : Nat → Int32), ∃ (ef : Nat → Int32), (lkI (zM Mr) (zM Mp) vp.toNatClampNeg a1.toNatClampNeg fc ff ec ef vp.toNatClampNeg) ∧ (bdI vp.toNatClampNeg fc ec vp.toInt) ∧ (u.toInt = 0 → ec = fc ∧ ef = ff ∧ rlC (zM Mr) (zM Mp) vp.toNatClampNeg ec (12 * a1.toNatClampNeg) (12 * a1.toNatClampNeg + vp.toNatClampNeg)) ∧ (rng ef 12 (0) (11)) ∧ va_P D vwCl [ob10_0_ xw xc xk wpo wc wf, ob0_0_ xc xn xk clo cro c4 c5 c6 c7 c8, ob3_0_ xn vp vn n1 n2 n3 n4 n5, aq_ cy 6 cro 12 (gf_ rr), ai_ cy (rr 0) 12 (Mr 0), ai_ cy (rr 1) 12 (Mr 1), ai_ cy (rr 2) 12 (Mr 2), ai_ cy (rr 3) 12 (Mr 3), ai_ cy (rr 4) 12 (Mr 4), ai_ cy (rr 5) 12 (Mr 5), ai_ cy (rr 6) 12 (Mr 6), ai_ cy (rr 7) 12 (Mr 7), ai_ cy (rr 8) 12 (Mr 8), ai_ cy (rr 9) 12 (Mr 9), ai_ cy (rr 10) 12 (Mr 10), ai_ cy (rr 11) 12 (Mr 11), aq_ cy 6 wpo 12 (gf_ rp), ai_ cy (rp 0) 12 (Mp 0), ai_ cy (rp 1) 12 (Mp 1), ai_ cy (rp 2) 12 (Mp 2), ai_ cy (rp 3) 12 (Mp 3), ai_ cy (rp 4) 12 (Mp 4), ai_ cy (rp 5) 12 (Mp 5), ai_ cy (rp 6) 12 (Mp 6), ai_ cy (rp 7) 12 (Mp 7), ai_ cy (rp 8) 12 (Mp 8), ai_ cy (rp 9) 12 (Mp 9), ai_ cy (rp 10) 12 (Mp 10), ai_ cy (rp 11) 12 (Mp 11), ai_ cy wc 12 ec, ai_ cy wf 12 ef] t.heap ∧ va_D (va_A [ob10_0_ xw xc xk wpo wc wf, ob0_0_ xc xn xk clo cro c4 c5 c6 c7 c8, ob3_0_ xn vp vn n1 n2 n3 n4 n5, aq_ cy 6 cro 12 (gf_ rr), ai_ cy (rr 0) 12 (Mr 0), ai_ cy (rr 1) 12 (Mr 1), ai_ cy (rr 2) 12 (Mr 2), ai_ cy (rr 3) 12 (Mr 3), ai_ cy (rr 4) 12 (Mr 4), ai_ cy (rr 5) 12 (Mr 5), ai_ cy (rr 6) 12 (Mr 6), ai_ cy (rr 7) 12 (Mr 7), ai_ cy (rr 8) 12 (Mr 8), ai_ cy (rr 9) 12 (Mr 9), ai_ cy (rr 10) 12 (Mr 10), ai_ cy (rr 11) 12 (Mr 11), aq_ cy 6 wpo 12 (gf_ rp), ai_ cy (rp 0) 12 (Mp 0), ai_ cy (rp 1) 12 (Mp 1), ai_ cy (rp 2) 12 (Mp 2), ai_ cy (rp 3) 12 (Mp 3), ai_ cy (rp 4) 12 (Mp 4), ai_ cy (rp 5) 12 (Mp 5), ai_ cy (rp 6) 12 (Mp 6), ai_ cy (rp 7) 12 (Mp 7), ai_ cy (rp 8) 12 (Mp 8), ai_ cy (rp 9) 12 (Mp 9), ai_ cy (rp 10) 12 (Mp 10), ai_ cy (rp 11) 12 (Mp 11), ai_ cy wc 12 fc, ai_ cy wf 12 ff] sz) [ob10_0_ xw xc xk wpo wc wf, ob0_0_ xc xn xk clo cro c4 c5 c6 c7 c8, ob3_0_ xn vp vn n1 n2 n3 n4 n5, aq_ cy 6 cro 12 (gf_ rr), ai_ cy (rr 0) 12 (Mr 0), ai_ cy (rr 1) 12 (Mr 1), ai_ cy (rr 2) 12 (Mr 2), ai_ cy (rr 3) 12 (Mr 3), ai_ cy (rr 4) 12 (Mr 4), ai_ cy (rr 5) 12 (Mr 5), ai_ cy (rr 6) 12 (Mr 6), ai_ cy (rr 7) 12 (Mr 7), ai_ cy (rr 8) 12 (Mr 8), ai_ cy (rr 9) 12 (Mr 9), ai_ cy (rr 10) 12 (Mr 10), ai_ cy (rr 11) 12 (Mr 11), aq_ cy 6 wpo 12 (gf_ rp), ai_ cy (rp 0) 12 (Mp 0), ai_ cy (rp 1) 12 (Mp 1), ai_ cy (rp 2) 12 (Mp 2), ai_ cy (rp 3) 12 (Mp 3), ai_ cy (rp 4) 12 (Mp 4), ai_ cy (rp 5) 12 (Mp 5), ai_ cy (rp 6) 12 (Mp 6), ai_ cy (rp 7) 12 (Mp 7), ai_ cy (rp 8) 12 (Mp 8), ai_ cy (rp 9) 12 (Mp 9), ai_ cy (rp 10) 12 (Mp 10), ai_ cy (rp 11) 12 (Mp 11), ai_ cy wc 12 ec, ai_ cy wf 12 ef]) (va_A [ob10_0_ xw xc xk wpo wc wf, ob0_0_ xc xn xk clo cro c4 c5 c6 c7 c8, ob3_0_ xn vp vn n1 n2 n3 n4 n5, aq_ cy 6 cro 12 (gf_ rr), ai_ cy (rr 0) 12 (Mr 0), ai_ cy (rr 1) 12 (Mr 1), ai_ cy (rr 2) 12 (Mr 2), ai_ cy (rr 3) 12 (Mr 3), ai_ cy (rr 4) 12 (Mr 4), ai_ cy (rr 5) 12 (Mr 5), ai_ cy (rr 6) 12 (Mr 6), ai_ cy (rr 7) 12 (Mr 7), ai_ cy (rr 8) 12 (Mr 8), ai_ cy (rr 9) 12 (Mr 9), ai_ cy (rr 10) 12 (Mr 10), ai_ cy (rr 11) 12 (Mr 11), aq_ cy 6 wpo 12 (gf_ rp), ai_ cy (rp 0) 12 (Mp 0), ai_ cy (rp 1) 12 (Mp 1), ai_ cy (rp 2) 12 (Mp 2), ai_ cy (rp 3) 12 (Mp 3), ai_ cy (rp 4) 12 (Mp 4), ai_ cy (rp 5) 12 (Mp 5), ai_ cy (rp 6) 12 (Mp 6), ai_ cy (rp 7) 12 (Mp 7), ai_ cy (rp 8) 12 (Mp 8), ai_ cy (rp 9) 12 (Mp 9), ai_ cy (rp 10) 12 (Mp 10), ai_ cy (rp 11) 12 (Mp 11), ai_ cy wc 12 fc, ai_ cy wf 12 ff] sz)) 0 0 (va_A [ob10_0_ xw xc xk wpo wc wf, ob0_0_ xc xn xk clo cro c4 c5 c6 c7 c8, ob3_0_ xn vp vn n1 n2 n3 n4 n5, aq_ cy 6 cro 12 (gf_ rr), ai_ cy (rr 0) 12 (Mr 0), ai_ cy (rr 1) 12 (Mr 1), ai_ cy (rr 2) 12 (Mr 2), ai_ cy (rr 3) 12 (Mr 3), ai_ cy (rr 4) 12 (Mr 4), ai_ cy (rr 5) 12 (Mr 5), ai_ cy (rr 6) 12 (Mr 6), ai_ cy (rr 7) 12 (Mr 7), ai_ cy (rr 8) 12 (Mr 8), ai_ cy (rr 9) 12 (Mr 9), ai_ cy (rr 10) 12 (Mr 10), ai_ cy (rr 11) 12 (Mr 11), aq_ cy 6 wpo 12 (gf_ rp), ai_ cy (rp 0) 12 (Mp 0), ai_ cy (rp 1) 12 (Mp 1), ai_ cy (rp 2) 12 (Mp 2), ai_ cy (rp 3) 12 (Mp 3), ai_ cy (rp 4) 12 (Mp 4), ai_ cy (rp 5) 12 (Mp 5), ai_ cy (rp 6) 12 (Mp 6), ai_ cy (rp 7) 12 (Mp 7), ai_ cy (rp 8) 12 (Mp 8), ai_ cy (rp 9) 12 (Mp 9), ai_ cy (rp 10) 12 (Mp 10), ai_ cy (rp 11) 12 (Mp 11), ai_ cy wc 12 fc, ai_ cy wf 12 ff] sz) := by
  refine ofQ (cc := cX10_lookFrom) (maxL := 5) (ret := (some .boolean)) (by decide) rfl ?_
  intro p e s m args below meth c s₁ Q hQ B hml hv
  obtain ⟨rfl, hsz, hP, hK, hD0⟩ := hv
  have hG := hK.2
  have hK := hK.1
  have hx := B.exec
  have hb := B.bytes
  have hr := B.returns
  have hts := atoms_spec (ws := wsX10_lookFrom) B.pre
  have hown : s.vm.findClass RX10 = some m.cls := by have h_ := findClass_of_methodNamed B.named; exact h_
  have hlocks := B.notSynchronized
  subst hsz
  have hD := hD0.self (sz := s.heap.size)
  generalize hAe : va_A [ob10_0_ xw xc xk wpo wc wf, ob0_0_ xc xn xk clo cro c4 c5 c6 c7 c8, ob3_0_ xn vp vn n1 n2 n3 n4 n5, aq_ cy 6 cro 12 (gf_ rr), ai_ cy (rr 0) 12 (Mr 0), ai_ cy (rr 1) 12 (Mr 1), ai_ cy (rr 2) 12 (Mr 2), ai_ cy (rr 3) 12 (Mr 3), ai_ cy (rr 4) 12 (Mr 4), ai_ cy (rr 5) 12 (Mr 5), ai_ cy (rr 6) 12 (Mr 6), ai_ cy (rr 7) 12 (Mr 7), ai_ cy (rr 8) 12 (Mr 8), ai_ cy (rr 9) 12 (Mr 9), ai_ cy (rr 10) 12 (Mr 10), ai_ cy (rr 11) 12 (Mr 11), aq_ cy 6 wpo 12 (gf_ rp), ai_ cy (rp 0) 12 (Mp 0), ai_ cy (rp 1) 12 (Mp 1), ai_ cy (rp 2) 12 (Mp 2), ai_ cy (rp 3) 12 (Mp 3), ai_ cy (rp 4) 12 (Mp 4), ai_ cy (rp 5) 12 (Mp 5), ai_ cy (rp 6) 12 (Mp 6), ai_ cy (rp 7) 12 (Mp 7), ai_ cy (rp 8) 12 (Mp 8), ai_ cy (rp 9) 12 (Mp 9), ai_ cy (rp 10) 12 (Mp 10), ai_ cy (rp 11) 12 (Mp 11), ai_ cy wc 12 fc, ai_ cy wf 12 ff] s.heap.size = A at hD hQ
  have hA : ∀ q : Nat, s.heap.size ≤ q → A q := fun q h => by rw [← hAe]; exact Or.inr h
  have hS : va_S A s.heap s.heap [] := va_S.rf
  have hl := lv_entry ([.ref xw, .int a1]) (n := 5) (Nat.le_of_ble_eq_true rfl)
  rw [lg_entry_eq]
  generalize (lg_sl ([.ref xw, .int a1]) ++ List.replicate (5 - (lg_sl ([.ref xw, .int a1])).length) Slot.unset).toArray = ls at hl ⊢
  have hl : lv_has ls 5 [(0, .ref xw), (1, .int a1)] := hl
  have z0 : (0 : Int32).toInt = 0 := by decide
  have z1 : (1 : Int32).toInt = 1 := by decide
  have z1000000000 : (1000000000 : Int32).toInt = 1000000000 := by decide
  have zq0 : (0 : Int32).toInt = 0 := by decide
  have zq1 : (1 : Int32).toInt = 1 := by decide
  have zqv : (1000000000 : Int32).toInt = 1000000000 := by decide
  have c1_ : a1.toNatClampNeg < vp.toNatClampNeg := nc_lt (by omega) (by omega)
  have cP_ := clI (i := vp) (by omega)
  obtain ⟨pi_, hpi_⟩ := hpo
  refine lv_iconst (v := 0) hx hb dB_36_2_10.1.1.1.1 (by decide) ?_
  refine lv_istore_n (lv' := [(2, .int 0), (0, .ref xw), (1, .int a1)]) hx hb dB_36_2_10.1.1.1.2 rfl hl (by decide) rfl (fun ls hl => ?_)
  refine lv_iconst (v := 0) hx hb dB_36_2_10.1.1.2.1 (by decide) ?_
  refine lv_istore_n (lv' := [(3, .int 0), (2, .int 0), (0, .ref xw), (1, .int a1)]) hx hb dB_36_2_10.1.1.2.2 rfl hl (by decide) rfl (fun ls hl => ?_)
  suffices LOOP_1 : ∀ (n_1 : Nat) (x3_1 : Int32) (x2_1 : Int32) (c_wc_1 : Nat → Int32) (c_wf_1 : Nat → Int32) (H : Heap) (locs : List Loc) (ls : Array Slot), vp.toInt - x3_1.toInt < (n_1 : Int) → (0 ≤ x3_1.toInt) → (x3_1.toInt ≤ vp.toInt) → (x2_1.toInt = 0 ∨ x2_1.toInt = 1) → (lkI (zM Mr) (zM Mp) vp.toNatClampNeg a1.toNatClampNeg fc ff c_wc_1 c_wf_1 x3_1.toNatClampNeg) → (bdI vp.toNatClampNeg fc c_wc_1 x3_1.toInt) → (c_wc_1 a1.toNatClampNeg = fc a1.toNatClampNeg) → (x2_1.toInt = 0 → c_wc_1 = fc ∧ c_wf_1 = ff) → (x2_1.toInt = 0 → rlC (zM Mr) (zM Mp) vp.toNatClampNeg c_wc_1 (12 * a1.toNatClampNeg) (12 * a1.toNatClampNeg + x3_1.toNatClampNeg)) → (rng c_wf_1 12 (0) (11)) → pd_2 D vwCl A [ob10_0_ xw xc xk wpo wc wf, ob0_0_ xc xn xk clo cro c4 c5 c6 c7 c8, ob3_0_ xn vp vn n1 n2 n3 n4 n5, aq_ cy 6 cro 12 (gf_ rr), ai_ cy (rr 0) 12 (Mr 0), ai_ cy (rr 1) 12 (Mr 1), ai_ cy (rr 2) 12 (Mr 2), ai_ cy (rr 3) 12 (Mr 3), ai_ cy (rr 4) 12 (Mr 4), ai_ cy (rr 5) 12 (Mr 5), ai_ cy (rr 6) 12 (Mr 6), ai_ cy (rr 7) 12 (Mr 7), ai_ cy (rr 8) 12 (Mr 8), ai_ cy (rr 9) 12 (Mr 9), ai_ cy (rr 10) 12 (Mr 10), ai_ cy (rr 11) 12 (Mr 11), aq_ cy 6 wpo 12 (gf_ rp), ai_ cy (rp 0) 12 (Mp 0), ai_ cy (rp 1) 12 (Mp 1), ai_ cy (rp 2) 12 (Mp 2), ai_ cy (rp 3) 12 (Mp 3), ai_ cy (rp 4) 12 (Mp 4), ai_ cy (rp 5) 12 (Mp 5), ai_ cy (rp 6) 12 (Mp 6), ai_ cy (rp 7) 12 (Mp 7), ai_ cy (rp 8) 12 (Mp 8), ai_ cy (rp 9) 12 (Mp 9), ai_ cy (rp 10) 12 (Mp 10), ai_ cy (rp 11) 12 (Mp 11), ai_ cy wc 12 c_wc_1, ai_ cy wf 12 c_wf_1] H → va_S A s.heap H locs → lv_has ls 5 [(3, .int x3_1), (2, .int x2_1), (0, .ref xw), (1, .int a1)] → W p l e ({ frames := 1, cells := 0, slots := 0, locals := 22 } : Room) s m (([.ref xw, .int a1] : List Value).toArray) below meth c H locs 0 0 Q (F0 m 4 ls []) from LOOP_1 ((vp.toInt - (0 : Int32).toInt).toNat + 1) (0 : Int32) (0 : Int32) fc ff _ _ _ (by omega) (by first | with_reducible assumption | omega | assumption) (by first | with_reducible assumption | omega | assumption) (by first | with_reducible assumption | omega | assumption) (by first | exact lkI_0 | exact hlk_ _ (by omega) | exact lkI_skip v_none (by omega) (by omega) (by omega) hno_ (by omega)) (by first | exact bdI_0 | exact hbs_ _ (by omega) | exact bdI_up v_none (by omega)) (by first | rfl | exact h5_ | exact v_none) (by first | exact fun _ => ⟨rfl, rfl⟩ | exact fun h => absurd h (by decide) | exact v_none) (by first | exact fun _ => rlC_0 | exact fun h => absurd h (by decide) | exact fun h => rlC_st (v_none h) (by omega) hno_ (by omega)) (by first | with_reducible assumption | assumption | exact rng_zero (by omega) (by omega) | exact orng_zero) ⟨hP, hD⟩ hS (lv_sub hl [0, 1, 2, 3] rfl)
  intro n_1
  induction n_1 with
  | zero =>
    intro x3_1 x2_1 c_wc_1 c_wf_1 H locs ls hm v0_1 v1_1 v2_1 v3_1 v4_1 v5_1 v6_1 v7_1 rc_wf_1 hPD hS hl; obtain ⟨hP, hD⟩ := hPD
    exact absurd hm (by omega)
  | succ n_1 ih_1 =>
    intro x3_1 x2_1 c_wc_1 c_wf_1 H locs ls hm v0_1 v1_1 v2_1 v3_1 v4_1 v5_1 v6_1 v7_1 rc_wf_1 hPD hS hl; obtain ⟨hP, hD⟩ := hPD
    refine lv_iload_n hx hb dB_36_2_10.1.2.1.1 rfl (lv_at hl 0 rfl) ?_
    refine lv_aload_n hx hb dB_36_2_10.1.2.1.2 rfl (lv_at hl 2 rfl) ?_
    refine va_get (ci := 10) (v := .ref xc) (C := RX10) (T := TX10) (N := 5) hx hb hts (fun _ h => List.mem_cons_of_mem _ (List.mem_append_left _ (List.mem_append_left _ (List.mem_append_right _ h)))) hown hK.1 hP 0 rfl rfl 0 (by decide) (hts (.fieldLink RX10 23 "CutAtlas$Widening" "current" "LCutAtlas$Current;") (List.mem_of_getElem? (i := 1) rfl)) (fun _ h9 => h9) rfl dB_36_2_10.1.2.2.1 ?_
    refine va_get (ci := 0) (v := .ref xn) (C := RX0) (T := TX0) (N := 9) hx hb hts (fun _ h => List.mem_cons_of_mem _ (List.mem_append_left _ (List.mem_append_right _ h))) hown hK.1 hP 1 rfl rfl 0 (by decide) (hts (.fieldLink RX10 47 "CutAtlas$Current" "net" "LCutAtlas$Net;") (List.mem_of_getElem? (i := 2) rfl)) (fun _ h9 => h9) rfl dB_36_2_10.1.2.2.2 ?_
    refine va_get (ci := 3) (v := .int vp) (C := RX3) (T := TX3) (N := 7) hx hb hts (fun _ h => List.mem_cons_of_mem _ (List.mem_append_right _ h)) hown hK.1 hP 2 rfl rfl 0 (by decide) (hts (.fieldLink RX10 53 "CutAtlas$Net" "places" "I") (List.mem_of_getElem? (i := 3) rfl)) (fun _ h9 => h9) rfl dB_36_2_10.2.1.1.1 ?_
    refine lv_icmp_ge (tgt := 91) hx hb dB_36_2_10.2.1.1.2 (by decide) (fun c_2 => ?_) (fun c_2 => ?_)
    · have t_2 : vp.toInt ≤ x3_1.toInt := Int32.le_iff_toInt_le.mp c_2
      have hL_ : vp = x3_1 := Int32.toInt_inj.mp (by omega)
      refine lv_iload_n hx hb dB_36_2_13.2.2.1 rfl (lv_at hl 1 rfl) ?_
      rw [hQ]
      exact W.zret (ty := .boolean) (v := x2_1) hx hb hr (nar_b (by omega)) (fun t ht hW => ⟨⟨x2_1, x2_1, rfl, ⟨rfl, (by omega)⟩, c_wc_1, c_wf_1, (by have h_ := v3_1; rw [← hL_] at h_; exact h_), (by rw [show vp.toInt = x3_1.toInt by omega]; exact v4_1), (fun h => ⟨(v6_1 h).1, (v6_1 h).2, by have h_ := v7_1 h; rw [← hL_] at h_; exact h_⟩), (by first | with_reducible assumption | assumption | exact rng_zero (by omega) (by omega) | omega), by rw [ht]; exact hP, hD⟩, hS.F ht⟩) hS.2.2 dB_36_2_13.2.2.2
    · have t_2 : ¬ vp.toInt ≤ x3_1.toInt := fun h => c_2 (Int32.le_iff_toInt_le.mpr h)
      refine lv_iload_n hx hb dB_36_2_10.2.1.2.1 rfl (lv_at hl 3 rfl) ?_
      refine lv_iload_n hx hb dB_36_2_10.2.1.2.2 rfl (lv_at hl 0 rfl) ?_
      refine lv_icmp_ne (tgt := 28) hx hb dB_36_2_10.2.2.1.1 (by decide) (fun c_3 => ?_) (fun c_3 => ?_)
      · have t_3 : ¬ a1.toInt = x3_1.toInt := fun h => c_3 (Int32.toInt_inj.mp h)
        refine lv_aload_n hx hb dB_36_2_10.2.2.2.2 rfl (lv_at hl 2 rfl) ?_
        refine lv_iload_n hx hb dB_36_2_11.1.1.1.1 rfl (lv_at hl 3 rfl) ?_
        refine lv_iload_n hx hb dB_36_2_11.1.1.1.2 rfl (lv_at hl 0 rfl) ?_
        refine ct_R hP hD [ob10_0_ xw xc xk wpo wc wf, ob0_0_ xc xn xk clo cro c4 c5 c6 c7 c8, ob3_0_ xn vp vn n1 n2 n3 n4 n5, aq_ cy 6 cro 12 (gf_ rr), ai_ cy (rr 0) 12 (Mr 0), ai_ cy (rr 1) 12 (Mr 1), ai_ cy (rr 2) 12 (Mr 2), ai_ cy (rr 3) 12 (Mr 3), ai_ cy (rr 4) 12 (Mr 4), ai_ cy (rr 5) 12 (Mr 5), ai_ cy (rr 6) 12 (Mr 6), ai_ cy (rr 7) 12 (Mr 7), ai_ cy (rr 8) 12 (Mr 8), ai_ cy (rr 9) 12 (Mr 9), ai_ cy (rr 10) 12 (Mr 10), ai_ cy (rr 11) 12 (Mr 11), aq_ cy 6 wpo 12 (gf_ rp), ai_ cy (rp 0) 12 (Mp 0), ai_ cy (rp 1) 12 (Mp 1), ai_ cy (rp 2) 12 (Mp 2), ai_ cy (rp 3) 12 (Mp 3), ai_ cy (rp 4) 12 (Mp 4), ai_ cy (rp 5) 12 (Mp 5), ai_ cy (rp 6) 12 (Mp 6), ai_ cy (rp 7) 12 (Mp 7), ai_ cy (rp 8) 12 (Mp 8), ai_ cy (rp 9) 12 (Mp 9), ai_ cy (rp 10) 12 (Mp 10), ai_ cy (rp 11) 12 (Mp 11)] [0, 1, 2, 3, 4, 5, 6, 7, 8, 9, 10, 11, 12, 13, 14, 15, 16, 17, 18, 19, 20, 21, 22, 23, 24, 25, 26, 27, 28] (by decide +kernel) rfl (fun hPc hDw => ?_)
        have hFc := va_free (wc := []) hD hS hA [] rfl
        refine va_calli (va_runV (As := [.int a1, .int x3_1]) (rest := []) ⟨hx, hb, hml, hown, hts⟩ (c_X10_stepCosts2 l D cy H.size xw wpo wc wf xc xk clo cro c4 c5 c6 c7 c8 xn n1 n2 n3 n4 n5 vp vn rr Mr rp Mp a1 x3_1 (by first | with_reducible assumption | omega | assumption) (by first | with_reducible assumption | omega | assumption) (by first | with_reducible assumption | omega | assumption) (by first | with_reducible assumption | assumption | omega) (by first | with_reducible assumption | assumption | omega)) (cwV 2 hts gX10_lookFrom_X10_stepCosts rfl rfl rfl ⟨rfl, hd_X10_stepCosts⟩ ⟨Nat.le_of_ble_eq_true rfl, Nat.le_of_ble_eq_true rfl⟩) ⟨bl_g, va_recvX hK.1 hP (ci := 10) (q0 := 0) rfl rfl, fun U hU hW => ⟨rfl, by rw [hU], by rw [hU]; exact hPc, ⟨kk_mv hW hK, arrOfT_moved hW.alike hG⟩, hDw⟩⟩ rfl rfl hl.1 rfl (lv_room (Nat.le_of_ble_eq_true rfl)) dB_36_2_11.1.1.2.1 ⟨Nat.le_of_ble_eq_true rfl, Nat.le_of_ble_eq_true rfl⟩) hS (fun q _ h => hFc q h) hFc (fun r_4 u t H locs ht hvm hw hB hz1 hk1 hS => ?_)
        have hP : va_P D vwCl _ H := ro_keep hP hk1
        obtain ⟨f0_r_4, f1_r_4⟩ := hw
        first | (have hst_ : r_4.toInt = sC (zM Mr) (zM Mp) a1.toNatClampNeg x3_1.toNatClampNeg := f0_r_4; have hsr_ := f1_r_4) | skip
        refine lv_istore (lv' := [(4, .int r_4), (3, .int x3_1), (2, .int x2_1), (0, .ref xw), (1, .int a1)]) hx hb dB_36_2_11.1.1.2.2 hl (by decide) rfl (fun ls hl => ?_)
        refine lv_iload hx hb dB_36_2_11.1.2.1.1 (lv_at hl 0 rfl) ?_
        refine lv_ldc (v := 1000000000) hx hb hown (hts (.constant RX10 38 (1000000000)) (List.mem_of_getElem? (i := 4) rfl)) dB_36_2_11.1.2.1.2 ?_
        refine lv_icmp_eq (tgt := 85) hx hb dB_36_2_11.1.2.2.1 (by decide) (fun c_5 => ?_) (fun c_5 => ?_)
        · have t_5 : r_4.toInt = (1000000000 : Int32).toInt := congrArg Int32.toInt c_5
          first | (have hno_ := no_st (M := (zM Mr)) (p := (zM Mp)) (f := c_wc_1) (X := a1) (Y := x3_1) (P := vp) (by omega) (by omega) (by omega) (Or.inl (by omega))) | (have hno_ := no_st (M := (zM Mr)) (p := (zM Mp)) (f := c_wc_1) (X := a1) (Y := x3_1) (P := vp) (by omega) (by omega) (by omega) (Or.inr (Or.inl (by omega)))) | (have hno_ := no_st (M := (zM Mr)) (p := (zM Mp)) (f := c_wc_1) (X := a1) (Y := x3_1) (P := vp) (by omega) (by omega) (by omega) (Or.inr (Or.inr ⟨by omega, by omega, by omega⟩))) | skip
          obtain ⟨y_6, ey_6⟩ : ∃ y : Int32, y = x3_1 + 1 := ⟨_, rfl⟩
          have ty_6 : y_6.toInt = x3_1.toInt + (1 : Int32).toInt := by rw [ey_6]; exact addI (by omega) (by omega)
          refine lv_iinc (v := y_6) (lv' := [(3, .int y_6), (4, .int r_4), (2, .int x2_1), (0, .ref xw), (1, .int a1)]) hx hb dB_36_2_13.2.1.1 hl (k := 1) rfl (by rw [ey_6]; rfl) (by decide) rfl (fun ls hl => ?_)
          refine lv_goto (tgt := 4) hx hb dB_36_2_13.2.1.2 (by decide) ?_
          exact ih_1 y_6 x2_1 c_wc_1 c_wf_1 _ _ _ (by omega) (by first | with_reducible assumption | omega | assumption) (by first | with_reducible assumption | omega | assumption) (by first | with_reducible assumption | omega | assumption) (by first | exact lkI_0 | exact hlk_ _ (by omega) | exact lkI_skip v3_1 (by omega) (by omega) (by omega) hno_ (by omega)) (by first | exact bdI_0 | exact hbs_ _ (by omega) | exact bdI_up v4_1 (by omega)) (by first | rfl | exact h5_ | exact v5_1) (by first | exact fun _ => ⟨rfl, rfl⟩ | exact fun h => absurd h (by decide) | exact v6_1) (by first | exact fun _ => rlC_0 | exact fun h => absurd h (by decide) | exact fun h => rlC_st (v7_1 h) (by omega) hno_ (by omega)) (by first | with_reducible assumption | assumption | exact rng_zero (by omega) (by omega) | exact orng_zero) ⟨hP, hD⟩ hS (lv_sub hl [0, 2, 3, 4] rfl)
        · have t_5 : ¬ r_4.toInt = (1000000000 : Int32).toInt := fun h => c_5 (Int32.toInt_inj.mp h)
          have hxf_ : (c_wc_1 a1.toNatClampNeg).toInt ≠ 1000000000 := by rw [v5_1]; exact hfx
          have hbx_ := v4_1 900000 hbd _ c1_ hxf_
          have hlx_ := lkI_lo v3_1 hcw hok (by omega) c1_
          refine lv_aload_n hx hb dB_36_2_11.1.2.2.2 rfl (lv_at hl 3 rfl) ?_
          refine va_get (ci := 10) (v := .ref wc) (C := RX10) (T := TX10) (N := 5) hx hb hts (fun _ h => List.mem_cons_of_mem _ (List.mem_append_left _ (List.mem_append_left _ (List.mem_append_right _ h)))) hown hK.1 hP 0 rfl rfl 3 (by decide) (hts (.fieldLink RX10 16 "CutAtlas$Widening" "costs" "[I") (List.mem_of_getElem? (i := 5) rfl)) (fun _ h9 => h9) rfl dB_36_2_11.2.1.1.1 ?_
          refine lv_iload_n hx hb dB_36_2_11.2.1.1.2 rfl (lv_at hl 4 rfl) ?_
          have h_7 : vp_in a1 12 := in_I (by first | with_reducible assumption | omega) (by omega)
          refine va_iald hx hb hK.1 hP 29 0 rfl rfl (i := a1) h_7 dB_36_2_11.2.1.2.1 ?_
          refine lv_topi (fun y_8 ey_8 => ?_)
          have hx0_ : y_8.toInt = (c_wc_1 a1.toNatClampNeg).toInt := by rw [ey_8]
          refine lv_iload hx hb dB_36_2_11.2.1.2.2 (lv_at hl 0 rfl) ?_
          refine lv_iadd hx hb dB_36_2_11.2.2.1.1 ?_
          refine lv_topi (fun y_9 ey_9 => ?_)
          have ty_9 : y_9.toInt = y_8.toInt + r_4.toInt := by rw [ey_9]; exact addI (by omega) (by omega)
          refine lv_aload_n hx hb dB_36_2_11.2.2.1.2 rfl (lv_at hl 3 rfl) ?_
          refine va_get (ci := 10) (v := .ref wc) (C := RX10) (T := TX10) (N := 5) hx hb hts (fun _ h => List.mem_cons_of_mem _ (List.mem_append_left _ (List.mem_append_left _ (List.mem_append_right _ h)))) hown hK.1 hP 0 rfl rfl 3 (by decide) (hts (.fieldLink RX10 16 "CutAtlas$Widening" "costs" "[I") (List.mem_of_getElem? (i := 5) rfl)) (fun _ h9 => h9) rfl dB_36_2_11.2.2.2.1 ?_
          refine lv_iload_n hx hb dB_36_2_11.2.2.2.2 rfl (lv_at hl 1 rfl) ?_
          have h_10 : vp_in x3_1 12 := in_I (by first | with_reducible assumption | omega) (by omega)
          refine va_iald hx hb hK.1 hP 29 0 rfl rfl (i := x3_1) h_10 dB_36_2_12.1.1.1.1 ?_
          refine lv_topi (fun y_11 ey_11 => ?_)
          have hy0_ : y_11.toInt = (c_wc_1 x3_1.toNatClampNeg).toInt := by rw [ey_11]
          refine lv_icmp_ge (tgt := 85) hx hb dB_36_2_12.1.1.1.2 (by decide) (fun c_12 => ?_) (fun c_12 => ?_)
          · have t_12 : y_11.toInt ≤ y_9.toInt := Int32.le_iff_toInt_le.mp c_12
            first | (have hno_ := no_st (M := (zM Mr)) (p := (zM Mp)) (f := c_wc_1) (X := a1) (Y := x3_1) (P := vp) (by omega) (by omega) (by omega) (Or.inl (by omega))) | (have hno_ := no_st (M := (zM Mr)) (p := (zM Mp)) (f := c_wc_1) (X := a1) (Y := x3_1) (P := vp) (by omega) (by omega) (by omega) (Or.inr (Or.inl (by omega)))) | (have hno_ := no_st (M := (zM Mr)) (p := (zM Mp)) (f := c_wc_1) (X := a1) (Y := x3_1) (P := vp) (by omega) (by omega) (by omega) (Or.inr (Or.inr ⟨by omega, by omega, by omega⟩))) | skip
            obtain ⟨y_13, ey_13⟩ : ∃ y : Int32, y = x3_1 + 1 := ⟨_, rfl⟩
            have ty_13 : y_13.toInt = x3_1.toInt + (1 : Int32).toInt := by rw [ey_13]; exact addI (by omega) (by omega)
            refine lv_iinc (v := y_13) (lv' := [(3, .int y_13), (4, .int r_4), (2, .int x2_1), (0, .ref xw), (1, .int a1)]) hx hb dB_36_2_13.2.1.1 hl (k := 1) rfl (by rw [ey_13]; rfl) (by decide) rfl (fun ls hl => ?_)
            refine lv_goto (tgt := 4) hx hb dB_36_2_13.2.1.2 (by decide) ?_
            exact ih_1 y_13 x2_1 c_wc_1 c_wf_1 _ _ _ (by omega) (by first | with_reducible assumption | omega | assumption) (by first | with_reducible assumption | omega | assumption) (by first | with_reducible assumption | omega | assumption) (by first | exact lkI_0 | exact hlk_ _ (by omega) | exact lkI_skip v3_1 (by omega) (by omega) (by omega) hno_ (by omega)) (by first | exact bdI_0 | exact hbs_ _ (by omega) | exact bdI_up v4_1 (by omega)) (by first | rfl | exact h5_ | exact v5_1) (by first | exact fun _ => ⟨rfl, rfl⟩ | exact fun h => absurd h (by decide) | exact v6_1) (by first | exact fun _ => rlC_0 | exact fun h => absurd h (by decide) | exact fun h => rlC_st (v7_1 h) (by omega) hno_ (by omega)) (by first | with_reducible assumption | assumption | exact rng_zero (by omega) (by omega) | exact orng_zero) ⟨hP, hD⟩ hS (lv_sub hl [0, 2, 3, 4] rfl)
          · have t_12 : ¬ y_11.toInt ≤ y_9.toInt := fun h => c_12 (Int32.le_iff_toInt_le.mpr h)
            refine lv_aload_n hx hb dB_36_2_12.1.1.2.1 rfl (lv_at hl 3 rfl) ?_
            refine va_get (ci := 10) (v := .ref wc) (C := RX10) (T := TX10) (N := 5) hx hb hts (fun _ h => List.mem_cons_of_mem _ (List.mem_append_left _ (List.mem_append_left _ (List.mem_append_right _ h)))) hown hK.1 hP 0 rfl rfl 3 (by decide) (hts (.fieldLink RX10 16 "CutAtlas$Widening" "costs" "[I") (List.mem_of_getElem? (i := 5) rfl)) (fun _ h9 => h9) rfl dB_36_2_12.1.1.2.2 ?_
            refine lv_iload_n hx hb dB_36_2_12.1.2.1.1 rfl (lv_at hl 1 rfl) ?_
            refine lv_aload_n hx hb dB_36_2_12.1.2.1.2 rfl (lv_at hl 3 rfl) ?_
            refine va_get (ci := 10) (v := .ref wc) (C := RX10) (T := TX10) (N := 5) hx hb hts (fun _ h => List.mem_cons_of_mem _ (List.mem_append_left _ (List.mem_append_left _ (List.mem_append_right _ h)))) hown hK.1 hP 0 rfl rfl 3 (by decide) (hts (.fieldLink RX10 16 "CutAtlas$Widening" "costs" "[I") (List.mem_of_getElem? (i := 5) rfl)) (fun _ h9 => h9) rfl dB_36_2_12.1.2.2.1 ?_
            refine lv_iload_n hx hb dB_36_2_12.1.2.2.2 rfl (lv_at hl 4 rfl) ?_
            refine va_iald hx hb hK.1 hP 29 0 rfl rfl (i := a1) h_7 dB_36_2_12.2.1.1.1 ?_
            refine lv_topi (fun y_15 ey_15 => ?_)
            have e_ := (ey_15.trans ey_8.symm).symm
            subst e_
            skip
            have hx1_ : y_8.toInt = (c_wc_1 a1.toNatClampNeg).toInt := by rw [ey_8]
            refine lv_iload hx hb dB_36_2_12.2.1.1.2 (lv_at hl 0 rfl) ?_
            refine lv_iadd hx hb dB_36_2_12.2.1.2.1 ?_
            refine lv_topi (fun y_16 ey_16 => ?_)
            have e_ := (ey_16.trans ey_9.symm).symm
            subst e_
            have hev_ : y_9.toInt = (c_wc_1 a1.toNatClampNeg).toInt + sC (zM Mr) (zM Mp) a1.toNatClampNeg x3_1.toNatClampNeg := by omega
            refine va_iast hx hb hK.1 hP hD hS 29 0 rfl rfl (i := x3_1) h_10 dB_36_2_12.2.1.2.2 (fun H locs hP hD hS => ?_)
            obtain ⟨f_18, ef_18⟩ : ∃ g : Nat → Int32, g = upd c_wc_1 x3_1.toNatClampNeg y_9 := ⟨_, rfl⟩
            refine pd_K (D := D) (cl := vwCl) (H := H) (A := A) [ob10_0_ xw xc xk wpo wc wf, ob0_0_ xc xn xk clo cro c4 c5 c6 c7 c8, ob3_0_ xn vp vn n1 n2 n3 n4 n5, aq_ cy 6 cro 12 (gf_ rr), ai_ cy (rr 0) 12 (Mr 0), ai_ cy (rr 1) 12 (Mr 1), ai_ cy (rr 2) 12 (Mr 2), ai_ cy (rr 3) 12 (Mr 3), ai_ cy (rr 4) 12 (Mr 4), ai_ cy (rr 5) 12 (Mr 5), ai_ cy (rr 6) 12 (Mr 6), ai_ cy (rr 7) 12 (Mr 7), ai_ cy (rr 8) 12 (Mr 8), ai_ cy (rr 9) 12 (Mr 9), ai_ cy (rr 10) 12 (Mr 10), ai_ cy (rr 11) 12 (Mr 11), aq_ cy 6 wpo 12 (gf_ rp), ai_ cy (rp 0) 12 (Mp 0), ai_ cy (rp 1) 12 (Mp 1), ai_ cy (rp 2) 12 (Mp 2), ai_ cy (rp 3) 12 (Mp 3), ai_ cy (rp 4) 12 (Mp 4), ai_ cy (rp 5) 12 (Mp 5), ai_ cy (rp 6) 12 (Mp 6), ai_ cy (rp 7) 12 (Mp 7), ai_ cy (rp 8) 12 (Mp 8), ai_ cy (rp 9) 12 (Mp 9), ai_ cy (rp 10) 12 (Mp 10), ai_ cy (rp 11) 12 (Mp 11), ai_ cy wc 12 f_18, ai_ cy wf 12 c_wf_1] (by rw [ef_18]; exact hP) (by rw [ef_18]; exact hD) (fun hP hD => ?_)
            refine lv_aload_n hx hb dB_36_2_12.2.2.1.1 rfl (lv_at hl 3 rfl) ?_
            refine va_get (ci := 10) (v := .ref wf) (C := RX10) (T := TX10) (N := 5) hx hb hts (fun _ h => List.mem_cons_of_mem _ (List.mem_append_left _ (List.mem_append_left _ (List.mem_append_right _ h)))) hown hK.1 hP 0 rfl rfl 4 (by decide) (hts (.fieldLink RX10 20 "CutAtlas$Widening" "cameFrom" "[I") (List.mem_of_getElem? (i := 6) rfl)) (fun _ h9 => h9) rfl dB_36_2_12.2.2.1.2 ?_
            refine lv_iload_n hx hb dB_36_2_12.2.2.2.1 rfl (lv_at hl 1 rfl) ?_
            refine lv_iload_n hx hb dB_36_2_12.2.2.2.2 rfl (lv_at hl 4 rfl) ?_
            refine va_iast hx hb hK.1 hP hD hS 30 0 rfl rfl (i := x3_1) h_10 dB_36_2_13.1.1 (fun H locs hP hD hS => ?_)
            obtain ⟨f_20, ef_20⟩ : ∃ g : Nat → Int32, g = upd c_wf_1 x3_1.toNatClampNeg a1 := ⟨_, rfl⟩
            refine pd_K (D := D) (cl := vwCl) (H := H) (A := A) [ob10_0_ xw xc xk wpo wc wf, ob0_0_ xc xn xk clo cro c4 c5 c6 c7 c8, ob3_0_ xn vp vn n1 n2 n3 n4 n5, aq_ cy 6 cro 12 (gf_ rr), ai_ cy (rr 0) 12 (Mr 0), ai_ cy (rr 1) 12 (Mr 1), ai_ cy (rr 2) 12 (Mr 2), ai_ cy (rr 3) 12 (Mr 3), ai_ cy (rr 4) 12 (Mr 4), ai_ cy (rr 5) 12 (Mr 5), ai_ cy (rr 6) 12 (Mr 6), ai_ cy (rr 7) 12 (Mr 7), ai_ cy (rr 8) 12 (Mr 8), ai_ cy (rr 9) 12 (Mr 9), ai_ cy (rr 10) 12 (Mr 10), ai_ cy (rr 11) 12 (Mr 11), aq_ cy 6 wpo 12 (gf_ rp), ai_ cy (rp 0) 12 (Mp 0), ai_ cy (rp 1) 12 (Mp 1), ai_ cy (rp 2) 12 (Mp 2), ai_ cy (rp 3) 12 (Mp 3), ai_ cy (rp 4) 12 (Mp 4), ai_ cy (rp 5) 12 (Mp 5), ai_ cy (rp 6) 12 (Mp 6), ai_ cy (rp 7) 12 (Mp 7), ai_ cy (rp 8) 12 (Mp 8), ai_ cy (rp 9) 12 (Mp 9), ai_ cy (rp 10) 12 (Mp 10), ai_ cy (rp 11) 12 (Mp 11), ai_ cy wc 12 f_18, ai_ cy wf 12 f_20] (by rw [ef_20]; exact hP) (by rw [ef_20]; exact hD) (fun hP hD => ?_)
            have rf_20 : rng f_20 12 (0) (11) := by rw [ef_20]; exact rng_upd rc_wf_1 (by omega) (by omega)
            have hlk_ : ∀ i2 : Int32, i2.toInt = x3_1.toInt + 1 → lkI (zM Mr) (zM Mp) vp.toNatClampNeg a1.toNatClampNeg fc ff f_18 f_20 i2.toNatClampNeg := fun i2 ei => lkI_relax v3_1 hpi_ (by omega) (by omega) (by omega) (by omega) (by omega) hxf_ (by omega) ef_18 hev_ (by omega) ef_20 ei
            have hbs_ : ∀ n2 : Int, n2 = x3_1.toInt + 1 → bdI vp.toNatClampNeg fc f_18 n2 := fun n2 e2 => bdI_st (w := a1) v4_1 ef_18 hxf_ c1_ (by omega) e2
            have h5_ : f_18 a1.toNatClampNeg = fc a1.toNatClampNeg := by rw [ef_18, pk_un (nc_ne (x := a1) (y := x3_1) (by omega) (by omega) (by omega))]; exact v5_1
            refine lv_iconst (v := 1) hx hb dB_36_2_13.1.2.1 (by decide) ?_
            refine lv_istore_n (lv' := [(2, .int 1), (4, .int r_4), (3, .int x3_1), (0, .ref xw), (1, .int a1)]) hx hb dB_36_2_13.1.2.2 rfl hl (by decide) rfl (fun ls hl => ?_)
            first | (have hno_ := no_st (M := (zM Mr)) (p := (zM Mp)) (f := f_18) (X := a1) (Y := x3_1) (P := vp) (by omega) (by omega) (by omega) (Or.inl (by omega))) | (have hno_ := no_st (M := (zM Mr)) (p := (zM Mp)) (f := f_18) (X := a1) (Y := x3_1) (P := vp) (by omega) (by omega) (by omega) (Or.inr (Or.inl (by omega)))) | (have hno_ := no_st (M := (zM Mr)) (p := (zM Mp)) (f := f_18) (X := a1) (Y := x3_1) (P := vp) (by omega) (by omega) (by omega) (Or.inr (Or.inr ⟨by omega, by omega, by omega⟩))) | skip
            obtain ⟨y_21, ey_21⟩ : ∃ y : Int32, y = x3_1 + 1 := ⟨_, rfl⟩
            have ty_21 : y_21.toInt = x3_1.toInt + (1 : Int32).toInt := by rw [ey_21]; exact addI (by omega) (by omega)
            refine lv_iinc (v := y_21) (lv' := [(3, .int y_21), (2, .int 1), (4, .int r_4), (0, .ref xw), (1, .int a1)]) hx hb dB_36_2_13.2.1.1 hl (k := 2) rfl (by rw [ey_21]; rfl) (by decide) rfl (fun ls hl => ?_)
            refine lv_goto (tgt := 4) hx hb dB_36_2_13.2.1.2 (by decide) ?_
            exact ih_1 y_21 (1 : Int32) f_18 f_20 _ _ _ (by omega) (by first | with_reducible assumption | omega | assumption) (by first | with_reducible assumption | omega | assumption) (by first | with_reducible assumption | omega | assumption) (by first | exact lkI_0 | exact hlk_ _ (by omega) | exact lkI_skip v3_1 (by omega) (by omega) (by omega) hno_ (by omega)) (by first | exact bdI_0 | exact hbs_ _ (by omega) | exact bdI_up v4_1 (by omega)) (by first | rfl | exact h5_ | exact v5_1) (by first | exact fun _ => ⟨rfl, rfl⟩ | exact fun h => absurd h (by decide) | exact v6_1) (by first | exact fun _ => rlC_0 | exact fun h => absurd h (by decide) | exact fun h => rlC_st (v7_1 h) (by omega) hno_ (by omega)) (by first | with_reducible assumption | assumption | exact rng_zero (by omega) (by omega) | exact orng_zero) ⟨hP, hD⟩ hS (lv_sub hl [0, 1, 3, 4] rfl)
      · have t_3 : a1.toInt = x3_1.toInt := congrArg Int32.toInt c_3
        refine lv_ldc (v := 1000000000) hx hb hown (hts (.constant RX10 38 (1000000000)) (List.mem_of_getElem? (i := 4) rfl)) dB_36_2_10.2.2.1.2 ?_
        refine lv_goto (tgt := 34) hx hb dB_36_2_10.2.2.2.1 (by decide) ?_
        first | (have hst_ : (1000000000 : Int32).toInt = sC (zM Mr) (zM Mp) a1.toNatClampNeg x3_1.toNatClampNeg := f0__lit; have hsr_ := f1__lit) | skip
        refine lv_istore (lv' := [(4, .int 1000000000), (3, .int x3_1), (2, .int x2_1), (0, .ref xw), (1, .int a1)]) hx hb dB_36_2_11.1.1.2.2 hl (by decide) rfl (fun ls hl => ?_)
        refine lv_iload hx hb dB_36_2_11.1.2.1.1 (lv_at hl 0 rfl) ?_
        refine lv_ldc (v := 1000000000) hx hb hown (hts (.constant RX10 38 (1000000000)) (List.mem_of_getElem? (i := 4) rfl)) dB_36_2_11.1.2.1.2 ?_
        refine lv_icmp_eq (tgt := 85) hx hb dB_36_2_11.1.2.2.1 (by decide) (fun c_22 => ?_) (fun c_22 => ?_)
        · have _ := c_22
          first | (have hno_ := no_st (M := (zM Mr)) (p := (zM Mp)) (f := c_wc_1) (X := a1) (Y := x3_1) (P := vp) (by omega) (by omega) (by omega) (Or.inl (by omega))) | (have hno_ := no_st (M := (zM Mr)) (p := (zM Mp)) (f := c_wc_1) (X := a1) (Y := x3_1) (P := vp) (by omega) (by omega) (by omega) (Or.inr (Or.inl (by omega)))) | (have hno_ := no_st (M := (zM Mr)) (p := (zM Mp)) (f := c_wc_1) (X := a1) (Y := x3_1) (P := vp) (by omega) (by omega) (by omega) (Or.inr (Or.inr ⟨by omega, by omega, by omega⟩))) | skip
          obtain ⟨y_23, ey_23⟩ : ∃ y : Int32, y = x3_1 + 1 := ⟨_, rfl⟩
          have ty_23 : y_23.toInt = x3_1.toInt + (1 : Int32).toInt := by rw [ey_23]; exact addI (by omega) (by omega)
          refine lv_iinc (v := y_23) (lv' := [(3, .int y_23), (4, .int 1000000000), (2, .int x2_1), (0, .ref xw), (1, .int a1)]) hx hb dB_36_2_13.2.1.1 hl (k := 1) rfl (by rw [ey_23]; rfl) (by decide) rfl (fun ls hl => ?_)
          refine lv_goto (tgt := 4) hx hb dB_36_2_13.2.1.2 (by decide) ?_
          exact ih_1 y_23 x2_1 c_wc_1 c_wf_1 _ _ _ (by omega) (by first | with_reducible assumption | omega | assumption) (by first | with_reducible assumption | omega | assumption) (by first | with_reducible assumption | omega | assumption) (by first | exact lkI_0 | exact hlk_ _ (by omega) | exact lkI_skip v3_1 (by omega) (by omega) (by omega) hno_ (by omega)) (by first | exact bdI_0 | exact hbs_ _ (by omega) | exact bdI_up v4_1 (by omega)) (by first | rfl | exact h5_ | exact v5_1) (by first | exact fun _ => ⟨rfl, rfl⟩ | exact fun h => absurd h (by decide) | exact v6_1) (by first | exact fun _ => rlC_0 | exact fun h => absurd h (by decide) | exact fun h => rlC_st (v7_1 h) (by omega) hno_ (by omega)) (by first | with_reducible assumption | assumption | exact rng_zero (by omega) (by omega) | exact orng_zero) ⟨hP, hD⟩ hS (lv_sub hl [0, 2, 3, 4] rfl)
        · exact absurd c_22 (by decide)
end

section
set_option maxHeartbeats 4000000 in
set_option maxRecDepth 100000 in
theorem c_X10_findCosts2 (l : Launch) (D : va_G) (cy : Nat → ClassId) (sz : Nat) (xw : Nat) (wpo : Nat) (wc : Nat) (wf : Nat) (xc : Nat) (xk : Nat) (clo : Nat) (cro : Nat) (c4 : Nat) (c5 : Nat) (c6 : Nat) (c7 : Nat) (c8 : Nat) (xn : Nat) (n1 : Nat) (n2 : Nat) (n3 : Nat) (n4 : Nat) (n5 : Nat) (vp : Int32) (vn : Int32) (rr : Nat → Nat) (Mr : Nat → Nat → Int32) (rp : Nat → Nat) (Mp : Nat → Nat → Int32) (fc : Nat → Int32) (ff : Nat → Int32) (a1 : Int32) (hvp : 0 ≤ vp.toInt ∧ vp.toInt ≤ 12) (q1 : 0 ≤ a1.toInt ∧ a1.toInt < vp.toInt) (hok : okM (zM Mr) (zM Mp) vp.toNatClampNeg) (hpo : ∃ pi : Nat → Int, potC (zM Mr) (zM Mp) vp.toNatClampNeg pi) (r_ff : rng ff 12 (0) (11)) : Met l yX10_findCosts wsX10_findCosts ({ frames := 2, cells := 0, slots := 0, locals := 46 }) (va_Pc [.ref xw, .int a1] (fun U => U.heap.size = sz ∧ va_P D vwCl [ob10_0_ xw xc xk wpo wc wf, ob0_0_ xc xn xk clo cro c4 c5 c6 c7 c8, ob3_0_ xn vp vn n1 n2 n3 n4 n5, aq_ cy 6 cro 12 (gf_ rr), ai_ cy (rr 0) 12 (Mr 0), ai_ cy (rr 1) 12 (Mr 1), ai_ cy (rr 2) 12 (Mr 2), ai_ cy (rr 3) 12 (Mr 3), ai_ cy (rr 4) 12 (Mr 4), ai_ cy (rr 5) 12 (Mr 5), ai_ cy (rr 6) 12 (Mr 6), ai_ cy (rr 7) 12 (Mr 7), ai_ cy (rr 8) 12 (Mr 8), ai_ cy (rr 9) 12 (Mr 9), ai_ cy (rr 10) 12 (Mr 10), ai_ cy (rr 11) 12 (Mr 11), aq_ cy 6 wpo 12 (gf_ rp), ai_ cy (rp 0) 12 (Mp 0), ai_ cy (rp 1) 12 (Mp 1), ai_ cy (rp 2) 12 (Mp 2), ai_ cy (rp 3) 12 (Mp 3), ai_ cy (rp 4) 12 (Mp 4), ai_ cy (rp 5) 12 (Mp 5), ai_ cy (rp 6) 12 (Mp 6), ai_ cy (rp 7) 12 (Mp 7), ai_ cy (rp 8) 12 (Mp 8), ai_ cy (rp 9) 12 (Mp 9), ai_ cy (rp 10) 12 (Mp 10), ai_ cy (rp 11) 12 (Mp 11), ai_ cy wc 12 fc, ai_ cy wf 12 ff] U.heap ∧ kg_ D cy U ∧ va_D (fun _ => True) [ob10_0_ xw xc xk wpo wc wf, ob0_0_ xc xn xk clo cro c4 c5 c6 c7 c8, ob3_0_ xn vp vn n1 n2 n3 n4 n5, aq_ cy 6 cro 12 (gf_ rr), ai_ cy (rr 0) 12 (Mr 0), ai_ cy (rr 1) 12 (Mr 1), ai_ cy (rr 2) 12 (Mr 2), ai_ cy (rr 3) 12 (Mr 3), ai_ cy (rr 4) 12 (Mr 4), ai_ cy (rr 5) 12 (Mr 5), ai_ cy (rr 6) 12 (Mr 6), ai_ cy (rr 7) 12 (Mr 7), ai_ cy (rr 8) 12 (Mr 8), ai_ cy (rr 9) 12 (Mr 9), ai_ cy (rr 10) 12 (Mr 10), ai_ cy (rr 11) 12 (Mr 11), aq_ cy 6 wpo 12 (gf_ rp), ai_ cy (rp 0) 12 (Mp 0), ai_ cy (rp 1) 12 (Mp 1), ai_ cy (rp 2) 12 (Mp 2), ai_ cy (rp 3) 12 (Mp 3), ai_ cy (rp 4) 12 (Mp 4), ai_ cy (rp 5) 12 (Mp 5), ai_ cy (rp 6) 12 (Mp 6), ai_ cy (rp 7) 12 (Mp 7), ai_ cy (rp 8) 12 (Mp 8), ai_ cy (rp 9) 12 (Mp 9), ai_ cy (rp 10) 12 (Mp 10), ai_ cy (rp 11) 12 (Mp 11), ai_ cy wc 12 fc, ai_ cy wf 12 ff])) (va_Qv (fun (_ : Unit) => True) (fun (_ : Unit) (t : State) => ∃ (ec : Nat → Int32), ∃ (ef : Nat → Int32), (czC (zM Mr) (zM Mp) vp.toNatClampNeg a1.toNatClampNeg ec ef) ∧ (∀ v : Nat, v < vp.toNatClampNeg → -1212 ≤ (ec v).toInt) ∧ (rng ef 12 (0) (11)) ∧ va_P D vwCl [ob10_0_ xw xc xk wpo wc wf, ob0_0_ xc xn xk clo cro c4 c5 c6 c7 c8, ob3_0_ xn vp vn n1 n2 n3 n4 n5, aq_ cy 6 cro 12 (gf_ rr), ai_ cy (rr 0) 12 (Mr 0), ai_ cy (rr 1) 12 (Mr 1), ai_ cy (rr 2) 12 (Mr 2), ai_ cy (rr 3) 12 (Mr 3), ai_ cy (rr 4) 12 (Mr 4), ai_ cy (rr 5) 12 (Mr 5), ai_ cy (rr 6) 12 (Mr 6), ai_ cy (rr 7) 12 (Mr 7), ai_ cy (rr 8) 12 (Mr 8), ai_ cy (rr 9) 12 (Mr 9), ai_ cy (rr 10) 12 (Mr 10), ai_ cy (rr 11) 12 (Mr 11), aq_ cy 6 wpo 12 (gf_ rp), ai_ cy (rp 0) 12 (Mp 0), ai_ cy (rp 1) 12 (Mp 1), ai_ cy (rp 2) 12 (Mp 2), ai_ cy (rp 3) 12 (Mp 3), ai_ cy (rp 4) 12 (Mp 4), ai_ cy (rp 5) 12 (Mp 5), ai_ cy (rp 6) 12 (Mp 6), ai_ cy (rp 7) 12 (Mp 7), ai_ cy (rp 8) 12 (Mp 8), ai_ cy (rp 9) 12 (Mp 9), ai_ cy (rp 10) 12 (Mp 10), ai_ cy (rp 11) 12 (Mp 11), ai_ cy wc 12 ec, ai_ cy wf 12 ef] t.heap ∧ va_D (va_A [ob10_0_ xw xc xk wpo wc wf, ob0_0_ xc xn xk clo cro c4 c5 c6 c7 c8, ob3_0_ xn vp vn n1 n2 n3 n4 n5, aq_ cy 6 cro 12 (gf_ rr), ai_ cy (rr 0) 12 (Mr 0), ai_ cy (rr 1) 12 (Mr 1), ai_ cy (rr 2) 12 (Mr 2), ai_ cy (rr 3) 12 (Mr 3), ai_ cy (rr 4) 12 (Mr 4), ai_ cy (rr 5) 12 (Mr 5), ai_ cy (rr 6) 12 (Mr 6), ai_ cy (rr 7) 12 (Mr 7), ai_ cy (rr 8) 12 (Mr 8), ai_ cy (rr 9) 12 (Mr 9), ai_ cy (rr 10) 12 (Mr 10), ai_ cy (rr 11) 12 (Mr 11), aq_ cy 6 wpo 12 (gf_ rp), ai_ cy (rp 0) 12 (Mp 0), ai_ cy (rp 1) 12 (Mp 1), ai_ cy (rp 2) 12 (Mp 2), ai_ cy (rp 3) 12 (Mp 3), ai_ cy (rp 4) 12 (Mp 4), ai_ cy (rp 5) 12 (Mp 5), ai_ cy (rp 6) 12 (Mp 6), ai_ cy (rp 7) 12 (Mp 7), ai_ cy (rp 8) 12 (Mp 8), ai_ cy (rp 9) 12 (Mp 9), ai_ cy (rp 10) 12 (Mp 10), ai_ cy (rp 11) 12 (Mp 11), ai_ cy wc 12 fc, ai_ cy wf 12 ff] sz) [ob10_0_ xw xc xk wpo wc wf, ob0_0_ xc xn xk clo cro c4 c5 c6 c7 c8, ob3_0_ xn vp vn n1 n2 n3 n4 n5, aq_ cy 6 cro 12 (gf_ rr), ai_ cy (rr 0) 12 (Mr 0), ai_ cy (rr 1) 12 (Mr 1), ai_ cy (rr 2) 12 (Mr 2), ai_ cy (rr 3) 12 (Mr 3), ai_ cy (rr 4) 12 (Mr 4), ai_ cy (rr 5) 12 (Mr 5), ai_ cy (rr 6) 12 (Mr 6), ai_ cy (rr 7) 12 (Mr 7), ai_ cy (rr 8) 12 (Mr 8), ai_ cy (rr 9) 12 (Mr 9), ai_ cy (rr 10) 12 (Mr 10), ai_ cy (rr 11) 12 (Mr 11), aq_ cy 6 wpo 12 (gf_ rp), ai_ cy (rp 0) 12 (Mp 0), ai_ cy (rp 1) 12 (Mp 1), ai_ cy (rp 2) 12 (Mp 2), ai_ cy (rp 3) 12 (Mp 3), ai_ cy (rp 4) 12 (Mp 4), ai_ cy (rp 5) 12 (Mp 5), ai_ cy (rp 6) 12 (Mp 6), ai_ cy (rp 7) 12 (Mp 7), ai_ cy (rp 8) 12 (Mp 8), ai_ cy (rp 9) 12 (Mp 9), ai_ cy (rp 10) 12 (Mp 10), ai_ cy (rp 11) 12 (Mp 11), ai_ cy wc 12 ec, ai_ cy wf 12 ef]) (va_A [ob10_0_ xw xc xk wpo wc wf, ob0_0_ xc xn xk clo cro c4 c5 c6 c7 c8, ob3_0_ xn vp vn n1 n2 n3 n4 n5, aq_ cy 6 cro 12 (gf_ rr), ai_ cy (rr 0) 12 (Mr 0), ai_ cy (rr 1) 12 (Mr 1), ai_ cy (rr 2) 12 (Mr 2), ai_ cy (rr 3) 12 (Mr 3), ai_ cy (rr 4) 12 (Mr 4), ai_ cy (rr 5) 12 (Mr 5), ai_ cy (rr 6) 12 (Mr 6), ai_ cy (rr 7) 12 (Mr 7), ai_ cy (rr 8) 12 (Mr 8), ai_ cy (rr 9) 12 (Mr 9), ai_ cy (rr 10) 12 (Mr 10), ai_ cy (rr 11) 12 (Mr 11), aq_ cy 6 wpo 12 (gf_ rp), ai_ cy (rp 0) 12 (Mp 0), ai_ cy (rp 1) 12 (Mp 1), ai_ cy (rp 2) 12 (Mp 2), ai_ cy (rp 3) 12 (Mp 3), ai_ cy (rp 4) 12 (Mp 4), ai_ cy (rp 5) 12 (Mp 5), ai_ cy (rp 6) 12 (Mp 6), ai_ cy (rp 7) 12 (Mp 7), ai_ cy (rp 8) 12 (Mp 8), ai_ cy (rp 9) 12 (Mp 9), ai_ cy (rp 10) 12 (Mp 10), ai_ cy (rp 11) 12 (Mp 11), ai_ cy wc 12 fc, ai_ cy wf 12 ff] sz)) 0 0 (va_A [ob10_0_ xw xc xk wpo wc wf, ob0_0_ xc xn xk clo cro c4 c5 c6 c7 c8, ob3_0_ xn vp vn n1 n2 n3 n4 n5, aq_ cy 6 cro 12 (gf_ rr), ai_ cy (rr 0) 12 (Mr 0), ai_ cy (rr 1) 12 (Mr 1), ai_ cy (rr 2) 12 (Mr 2), ai_ cy (rr 3) 12 (Mr 3), ai_ cy (rr 4) 12 (Mr 4), ai_ cy (rr 5) 12 (Mr 5), ai_ cy (rr 6) 12 (Mr 6), ai_ cy (rr 7) 12 (Mr 7), ai_ cy (rr 8) 12 (Mr 8), ai_ cy (rr 9) 12 (Mr 9), ai_ cy (rr 10) 12 (Mr 10), ai_ cy (rr 11) 12 (Mr 11), aq_ cy 6 wpo 12 (gf_ rp), ai_ cy (rp 0) 12 (Mp 0), ai_ cy (rp 1) 12 (Mp 1), ai_ cy (rp 2) 12 (Mp 2), ai_ cy (rp 3) 12 (Mp 3), ai_ cy (rp 4) 12 (Mp 4), ai_ cy (rp 5) 12 (Mp 5), ai_ cy (rp 6) 12 (Mp 6), ai_ cy (rp 7) 12 (Mp 7), ai_ cy (rp 8) 12 (Mp 8), ai_ cy (rp 9) 12 (Mp 9), ai_ cy (rp 10) 12 (Mp 10), ai_ cy (rp 11) 12 (Mp 11), ai_ cy wc 12 fc, ai_ cy wf 12 ff] sz) := by
  refine ofQ (cc := cX10_findCosts) (maxL := 6) (ret := none) (by decide) rfl ?_
  intro p e s m args below meth c s₁ Q hQ B hml hv
  obtain ⟨rfl, hsz, hP, hK, hD0⟩ := hv
  have hG := hK.2
  have hK := hK.1
  have hx := B.exec
  have hb := B.bytes
  have hr := B.returns
  have hts := atoms_spec (ws := wsX10_findCosts) B.pre
  have hown : s.vm.findClass RX10 = some m.cls := by have h_ := findClass_of_methodNamed B.named; exact h_
  have hlocks := B.notSynchronized
  subst hsz
  have hD := hD0.self (sz := s.heap.size)
  generalize hAe : va_A [ob10_0_ xw xc xk wpo wc wf, ob0_0_ xc xn xk clo cro c4 c5 c6 c7 c8, ob3_0_ xn vp vn n1 n2 n3 n4 n5, aq_ cy 6 cro 12 (gf_ rr), ai_ cy (rr 0) 12 (Mr 0), ai_ cy (rr 1) 12 (Mr 1), ai_ cy (rr 2) 12 (Mr 2), ai_ cy (rr 3) 12 (Mr 3), ai_ cy (rr 4) 12 (Mr 4), ai_ cy (rr 5) 12 (Mr 5), ai_ cy (rr 6) 12 (Mr 6), ai_ cy (rr 7) 12 (Mr 7), ai_ cy (rr 8) 12 (Mr 8), ai_ cy (rr 9) 12 (Mr 9), ai_ cy (rr 10) 12 (Mr 10), ai_ cy (rr 11) 12 (Mr 11), aq_ cy 6 wpo 12 (gf_ rp), ai_ cy (rp 0) 12 (Mp 0), ai_ cy (rp 1) 12 (Mp 1), ai_ cy (rp 2) 12 (Mp 2), ai_ cy (rp 3) 12 (Mp 3), ai_ cy (rp 4) 12 (Mp 4), ai_ cy (rp 5) 12 (Mp 5), ai_ cy (rp 6) 12 (Mp 6), ai_ cy (rp 7) 12 (Mp 7), ai_ cy (rp 8) 12 (Mp 8), ai_ cy (rp 9) 12 (Mp 9), ai_ cy (rp 10) 12 (Mp 10), ai_ cy (rp 11) 12 (Mp 11), ai_ cy wc 12 fc, ai_ cy wf 12 ff] s.heap.size = A at hD hQ
  have hA : ∀ q : Nat, s.heap.size ≤ q → A q := fun q h => by rw [← hAe]; exact Or.inr h
  have hS : va_S A s.heap s.heap [] := va_S.rf
  have hl := lv_entry ([.ref xw, .int a1]) (n := 6) (Nat.le_of_ble_eq_true rfl)
  rw [lg_entry_eq]
  generalize (lg_sl ([.ref xw, .int a1]) ++ List.replicate (6 - (lg_sl ([.ref xw, .int a1])).length) Slot.unset).toArray = ls at hl ⊢
  have hl : lv_has ls 6 [(0, .ref xw), (1, .int a1)] := hl
  have z0 : (0 : Int32).toInt = 0 := by decide
  have z1 : (1 : Int32).toInt = 1 := by decide
  have z1000000000 : (1000000000 : Int32).toInt = 1000000000 := by decide
  have zq0 : (0 : Int32).toInt = 0 := by decide
  have zq1 : (1 : Int32).toInt = 1 := by decide
  have zqv : (1000000000 : Int32).toInt = 1000000000 := by decide
  have c1_ : a1.toNatClampNeg < vp.toNatClampNeg := nc_lt (by omega) (by omega)
  have cP_ := clI (i := vp) (by omega)
  have hpo2_ := hpo
  obtain ⟨pi_, hpi_⟩ := hpo2_
  refine lv_aload_n hx hb dB_36_2_0.1.1.1.1 rfl (lv_at hl 0 rfl) ?_
  refine va_get (ci := 10) (v := .ref xc) (C := RX10) (T := TX10) (N := 5) hx hb hts (fun _ h => List.mem_cons_of_mem _ (List.mem_append_left _ (List.mem_append_left _ (List.mem_append_right _ h)))) hown hK.1 hP 0 rfl rfl 0 (by decide) (hts (.fieldLink RX10 23 "CutAtlas$Widening" "current" "LCutAtlas$Current;") (List.mem_of_getElem? (i := 1) rfl)) (fun _ h9 => h9) rfl dB_36_2_0.1.1.1.2 ?_
  refine va_get (ci := 0) (v := .ref xn) (C := RX0) (T := TX0) (N := 9) hx hb hts (fun _ h => List.mem_cons_of_mem _ (List.mem_append_left _ (List.mem_append_right _ h))) hown hK.1 hP 1 rfl rfl 0 (by decide) (hts (.fieldLink RX10 47 "CutAtlas$Current" "net" "LCutAtlas$Net;") (List.mem_of_getElem? (i := 2) rfl)) (fun _ h9 => h9) rfl dB_36_2_0.1.1.2.1 ?_
  refine va_get (ci := 3) (v := .int vp) (C := RX3) (T := TX3) (N := 7) hx hb hts (fun _ h => List.mem_cons_of_mem _ (List.mem_append_right _ h)) hown hK.1 hP 2 rfl rfl 0 (by decide) (hts (.fieldLink RX10 53 "CutAtlas$Net" "places" "I") (List.mem_of_getElem? (i := 3) rfl)) (fun _ h9 => h9) rfl dB_36_2_0.1.1.2.2 ?_
  refine lv_istore_n (lv' := [(2, .int vp), (0, .ref xw), (1, .int a1)]) hx hb dB_36_2_0.1.2.1.1 rfl hl (by decide) rfl (fun ls hl => ?_)
  refine lv_aload_n hx hb dB_36_2_0.1.2.1.2 rfl (lv_at hl 1 rfl) ?_
  refine va_get (ci := 10) (v := .ref wc) (C := RX10) (T := TX10) (N := 5) hx hb hts (fun _ h => List.mem_cons_of_mem _ (List.mem_append_left _ (List.mem_append_left _ (List.mem_append_right _ h)))) hown hK.1 hP 0 rfl rfl 3 (by decide) (hts (.fieldLink RX10 16 "CutAtlas$Widening" "costs" "[I") (List.mem_of_getElem? (i := 4) rfl)) (fun _ h9 => h9) rfl dB_36_2_0.1.2.2.1 ?_
  refine lv_ldc (v := 1000000000) hx hb hown (hts (.constant RX10 38 (1000000000)) (List.mem_of_getElem? (i := 5) rfl)) dB_36_2_0.1.2.2.2 ?_
  refine ct_S hP hD hS hA [ai_ cy wc 12 fc] [29] (by decide) rfl (fun hPc hDw hFc hC_ => ?_)
  refine va_callv (va_runS (As := [.ref wc, .int 1000000000]) (rest := []) ⟨hx, hb, hml, hown, hts⟩ (c_J7_fill_53178 l D cy s.heap.size wc 12 (1000000000 : Int32) fc (by first | with_reducible assumption | assumption | omega)) (va_cwS 2 hts gX10_findCosts_J7_fill_53178 rfl rfl rfl hd_J7_fill_53178 ⟨Nat.le_of_ble_eq_true rfl, Nat.le_of_ble_eq_true rfl⟩) ⟨bl_, fun U hU hW => ⟨rfl, by rw [hU], by rw [hU]; exact hPc, kk_mv hW hK, hDw⟩⟩ rfl rfl hl.1 rfl (lv_room (Nat.le_of_ble_eq_true rfl)) dB_36_2_0.2.1.1.1 ⟨Nat.le_of_ble_eq_true rfl, Nat.le_of_ble_eq_true rfl⟩) hS (fun q _ h => hFc q h) hFc (fun u t H locs ht hvm hw hB hz1 hk1 hS => ?_)
  obtain ⟨e1_2, g_3, hP1, hD1⟩ := hB
  rw [ht] at hP1
  obtain ⟨hP, hD⟩ := va_join (wr := [ob10_0_ xw xc xk wpo wc wf, ob0_0_ xc xn xk clo cro c4 c5 c6 c7 c8, ob3_0_ xn vp vn n1 n2 n3 n4 n5, aq_ cy 6 cro 12 (gf_ rr), ai_ cy (rr 0) 12 (Mr 0), ai_ cy (rr 1) 12 (Mr 1), ai_ cy (rr 2) 12 (Mr 2), ai_ cy (rr 3) 12 (Mr 3), ai_ cy (rr 4) 12 (Mr 4), ai_ cy (rr 5) 12 (Mr 5), ai_ cy (rr 6) 12 (Mr 6), ai_ cy (rr 7) 12 (Mr 7), ai_ cy (rr 8) 12 (Mr 8), ai_ cy (rr 9) 12 (Mr 9), ai_ cy (rr 10) 12 (Mr 10), ai_ cy (rr 11) 12 (Mr 11), aq_ cy 6 wpo 12 (gf_ rp), ai_ cy (rp 0) 12 (Mp 0), ai_ cy (rp 1) 12 (Mp 1), ai_ cy (rp 2) 12 (Mp 2), ai_ cy (rp 3) 12 (Mp 3), ai_ cy (rp 4) 12 (Mp 4), ai_ cy (rp 5) 12 (Mp 5), ai_ cy (rp 6) 12 (Mp 6), ai_ cy (rp 7) 12 (Mp 7), ai_ cy (rp 8) 12 (Mp 8), ai_ cy (rp 9) 12 (Mp 9), ai_ cy (rp 10) 12 (Mp 10), ai_ cy (rp 11) 12 (Mp 11), ai_ cy wf 12 ff]) (w1 := [ai_ cy wc 12 e1_2]) hP hD [29] [0, 1, 2, 3, 4, 5, 6, 7, 8, 9, 10, 11, 12, 13, 14, 15, 16, 17, 18, 19, 20, 21, 22, 23, 24, 25, 26, 27, 28, 30] hC_ rfl (by decide +kernel) (by decide +kernel) hk1 hFc hP1 hD1
  refine pd_S hP hD [ob10_0_ xw xc xk wpo wc wf, ob0_0_ xc xn xk clo cro c4 c5 c6 c7 c8, ob3_0_ xn vp vn n1 n2 n3 n4 n5, aq_ cy 6 cro 12 (gf_ rr), ai_ cy (rr 0) 12 (Mr 0), ai_ cy (rr 1) 12 (Mr 1), ai_ cy (rr 2) 12 (Mr 2), ai_ cy (rr 3) 12 (Mr 3), ai_ cy (rr 4) 12 (Mr 4), ai_ cy (rr 5) 12 (Mr 5), ai_ cy (rr 6) 12 (Mr 6), ai_ cy (rr 7) 12 (Mr 7), ai_ cy (rr 8) 12 (Mr 8), ai_ cy (rr 9) 12 (Mr 9), ai_ cy (rr 10) 12 (Mr 10), ai_ cy (rr 11) 12 (Mr 11), aq_ cy 6 wpo 12 (gf_ rp), ai_ cy (rp 0) 12 (Mp 0), ai_ cy (rp 1) 12 (Mp 1), ai_ cy (rp 2) 12 (Mp 2), ai_ cy (rp 3) 12 (Mp 3), ai_ cy (rp 4) 12 (Mp 4), ai_ cy (rp 5) 12 (Mp 5), ai_ cy (rp 6) 12 (Mp 6), ai_ cy (rp 7) 12 (Mp 7), ai_ cy (rp 8) 12 (Mp 8), ai_ cy (rp 9) 12 (Mp 9), ai_ cy (rp 10) 12 (Mp 10), ai_ cy (rp 11) 12 (Mp 11), ai_ cy wc 12 e1_2, ai_ cy wf 12 ff] [0, 1, 2, 3, 4, 5, 6, 7, 8, 9, 10, 11, 12, 13, 14, 15, 16, 17, 18, 19, 20, 21, 22, 23, 24, 25, 26, 27, 28, 30, 29] (by decide +kernel) rfl (fun hP hD => ?_)
  have hfl_ := g_3
  refine lv_aload_n hx hb dB_36_2_0.2.1.1.2 rfl (lv_at hl 1 rfl) ?_
  refine va_get (ci := 10) (v := .ref wc) (C := RX10) (T := TX10) (N := 5) hx hb hts (fun _ h => List.mem_cons_of_mem _ (List.mem_append_left _ (List.mem_append_left _ (List.mem_append_right _ h)))) hown hK.1 hP 0 rfl rfl 3 (by decide) (hts (.fieldLink RX10 16 "CutAtlas$Widening" "costs" "[I") (List.mem_of_getElem? (i := 4) rfl)) (fun _ h9 => h9) rfl dB_36_2_0.2.1.2.1 ?_
  refine lv_iload_n hx hb dB_36_2_0.2.1.2.2 rfl (lv_at hl 2 rfl) ?_
  refine lv_iconst (v := 0) hx hb dB_36_2_0.2.2.1.1 (by decide) ?_
  have h_4 : vp_in a1 12 := in_I (by first | with_reducible assumption | omega) (by omega)
  refine va_iast hx hb hK.1 hP hD hS 29 0 rfl rfl (i := a1) h_4 dB_36_2_0.2.2.1.2 (fun H locs hP hD hS => ?_)
  obtain ⟨f_5, ef_5⟩ : ∃ g : Nat → Int32, g = upd e1_2 a1.toNatClampNeg (0 : Int32) := ⟨_, rfl⟩
  refine pd_K (D := D) (cl := vwCl) (H := H) (A := A) [ob10_0_ xw xc xk wpo wc wf, ob0_0_ xc xn xk clo cro c4 c5 c6 c7 c8, ob3_0_ xn vp vn n1 n2 n3 n4 n5, aq_ cy 6 cro 12 (gf_ rr), ai_ cy (rr 0) 12 (Mr 0), ai_ cy (rr 1) 12 (Mr 1), ai_ cy (rr 2) 12 (Mr 2), ai_ cy (rr 3) 12 (Mr 3), ai_ cy (rr 4) 12 (Mr 4), ai_ cy (rr 5) 12 (Mr 5), ai_ cy (rr 6) 12 (Mr 6), ai_ cy (rr 7) 12 (Mr 7), ai_ cy (rr 8) 12 (Mr 8), ai_ cy (rr 9) 12 (Mr 9), ai_ cy (rr 10) 12 (Mr 10), ai_ cy (rr 11) 12 (Mr 11), aq_ cy 6 wpo 12 (gf_ rp), ai_ cy (rp 0) 12 (Mp 0), ai_ cy (rp 1) 12 (Mp 1), ai_ cy (rp 2) 12 (Mp 2), ai_ cy (rp 3) 12 (Mp 3), ai_ cy (rp 4) 12 (Mp 4), ai_ cy (rp 5) 12 (Mp 5), ai_ cy (rp 6) 12 (Mp 6), ai_ cy (rp 7) 12 (Mp 7), ai_ cy (rp 8) 12 (Mp 8), ai_ cy (rp 9) 12 (Mp 9), ai_ cy (rp 10) 12 (Mp 10), ai_ cy (rp 11) 12 (Mp 11), ai_ cy wc 12 f_5, ai_ cy wf 12 ff] (by rw [ef_5]; exact hP) (by rw [ef_5]; exact hD) (fun hP hD => ?_)
  have hin_ := fc_in (M := (zM Mr)) (p := (zM Mp)) (q := ff) hfl_ ef_5 (by omega) c1_
  refine lv_iconst (v := 1) hx hb dB_36_2_0.2.2.2.1 (by decide) ?_
  refine lv_istore_n (lv' := [(3, .int 1), (2, .int vp), (0, .ref xw), (1, .int a1)]) hx hb dB_36_2_0.2.2.2.2 rfl hl (by decide) rfl (fun ls hl => ?_)
  refine lv_iconst (v := 0) hx hb dB_36_2_1.1.1.1.1 (by decide) ?_
  refine lv_istore (lv' := [(4, .int 0), (3, .int 1), (2, .int vp), (0, .ref xw), (1, .int a1)]) hx hb dB_36_2_1.1.1.1.2 hl (by decide) rfl (fun ls hl => ?_)
  suffices LOOP_6 : ∀ (n_6 : Nat) (x4_6 : Int32) (x3_6 : Int32) (c_wc_6 : Nat → Int32) (c_wf_6 : Nat → Int32) (H : Heap) (locs : List Loc) (ls : Array Slot), 12 - x4_6.toInt < (n_6 : Int) → (0 ≤ x4_6.toInt) → (x4_6.toInt ≤ vp.toInt) → (x3_6.toInt = 0 ∨ x3_6.toInt = 1) → (cwC (zM Mr) (zM Mp) vp.toNatClampNeg a1.toNatClampNeg c_wc_6 c_wf_6 x4_6.toNatClampNeg 0) → (bdC vp.toNatClampNeg c_wc_6 (14544 * x4_6.toInt)) → (x3_6.toInt = 0 → rlC (zM Mr) (zM Mp) vp.toNatClampNeg c_wc_6 0 (12 * vp.toNatClampNeg)) → (rng c_wf_6 12 (0) (11)) → pd_2 D vwCl A [ob10_0_ xw xc xk wpo wc wf, ob0_0_ xc xn xk clo cro c4 c5 c6 c7 c8, ob3_0_ xn vp vn n1 n2 n3 n4 n5, aq_ cy 6 cro 12 (gf_ rr), ai_ cy (rr 0) 12 (Mr 0), ai_ cy (rr 1) 12 (Mr 1), ai_ cy (rr 2) 12 (Mr 2), ai_ cy (rr 3) 12 (Mr 3), ai_ cy (rr 4) 12 (Mr 4), ai_ cy (rr 5) 12 (Mr 5), ai_ cy (rr 6) 12 (Mr 6), ai_ cy (rr 7) 12 (Mr 7), ai_ cy (rr 8) 12 (Mr 8), ai_ cy (rr 9) 12 (Mr 9), ai_ cy (rr 10) 12 (Mr 10), ai_ cy (rr 11) 12 (Mr 11), aq_ cy 6 wpo 12 (gf_ rp), ai_ cy (rp 0) 12 (Mp 0), ai_ cy (rp 1) 12 (Mp 1), ai_ cy (rp 2) 12 (Mp 2), ai_ cy (rp 3) 12 (Mp 3), ai_ cy (rp 4) 12 (Mp 4), ai_ cy (rp 5) 12 (Mp 5), ai_ cy (rp 6) 12 (Mp 6), ai_ cy (rp 7) 12 (Mp 7), ai_ cy (rp 8) 12 (Mp 8), ai_ cy (rp 9) 12 (Mp 9), ai_ cy (rp 10) 12 (Mp 10), ai_ cy (rp 11) 12 (Mp 11), ai_ cy wc 12 c_wc_6, ai_ cy wf 12 c_wf_6] H → va_S A s.heap H locs → lv_has ls 6 [(4, .int x4_6), (3, .int x3_6), (2, .int vp), (0, .ref xw), (1, .int a1)] → W p l e ({ frames := 2, cells := 0, slots := 0, locals := 46 } : Room) s m (([.ref xw, .int a1] : List Value).toArray) below meth c H locs 0 0 Q (F0 m 32 ls []) from LOOP_6 ((12 - (0 : Int32).toInt).toNat + 1) (0 : Int32) (1 : Int32) f_5 ff _ _ _ (by omega) (by first | with_reducible assumption | omega | assumption) (by first | with_reducible assumption | omega | assumption) (by first | with_reducible assumption | omega | assumption) (by first | exact cwC_i hin_.1 cl_0 rfl | exact cwC_rd v_none hLP_ (by omega) (by omega)) (by first | exact bdC_le hin_.2 (by omega) | exact bdC_le v_none (by omega)) (by first | exact fun h => absurd h (by decide) | (intro h; have h_ := v_none h; rw [hLP_] at h_; exact h_)) (by first | with_reducible assumption | assumption | exact rng_zero (by omega) (by omega) | exact orng_zero) ⟨hP, hD⟩ hS (lv_sub hl [0, 1, 2, 3, 4] rfl)
  intro n_6
  induction n_6 with
  | zero =>
    intro x4_6 x3_6 c_wc_6 c_wf_6 H locs ls hm v0_6 v1_6 v2_6 v3_6 v4_6 v5_6 rc_wf_6 hPD hS hl; obtain ⟨hP, hD⟩ := hPD
    exact absurd hm (by omega)
  | succ n_6 ih_6 =>
    intro x4_6 x3_6 c_wc_6 c_wf_6 H locs ls hm v0_6 v1_6 v2_6 v3_6 v4_6 v5_6 rc_wf_6 hPD hS hl; obtain ⟨hP, hD⟩ := hPD
    refine lv_iload hx hb dB_36_2_1.1.1.2.1 (lv_at hl 0 rfl) ?_
    refine lv_iload_n hx hb dB_36_2_1.1.1.2.2 rfl (lv_at hl 2 rfl) ?_
    refine lv_icmp_ge (tgt := 88) hx hb dB_36_2_1.1.2.1.1 (by decide) (fun c_7 => ?_) (fun c_7 => ?_)
    · have t_7 : vp.toInt ≤ x4_6.toInt := Int32.le_iff_toInt_le.mp c_7
      rw [hQ]
      exact W.vret hx hb hr (fun t ht hW => ⟨⟨(), rfl, trivial, c_wc_6, c_wf_6, (by first | exact cz_2 v3_6 (congrArg Int32.toNatClampNeg (Int32.toInt_inj.mp (by omega))) hpi_ hok c1_ | exact cz_1 v3_6 (v5_6 (by omega)) hpi_ hok c1_), (cwC_lo v3_6 (by omega) hok), (by first | with_reducible assumption | assumption | exact rng_zero (by omega) (by omega) | omega), by rw [ht]; exact hP, hD⟩, hS.F ht⟩) hS.2.2 dB_36_2_2.2.2.2.2
    · have t_7 : ¬ vp.toInt ≤ x4_6.toInt := fun h => c_7 (Int32.le_iff_toInt_le.mpr h)
      refine lv_iload_n hx hb dB_36_2_1.1.2.1.2 rfl (lv_at hl 1 rfl) ?_
      refine lv_if_eq (tgt := 88) hx hb dB_36_2_1.1.2.2.1 (by decide) (fun c_8 => ?_) (fun c_8 => ?_)
      · have t_8 : x3_6.toInt = (0 : Int32).toInt := congrArg Int32.toInt c_8
        rw [hQ]
        exact W.vret hx hb hr (fun t ht hW => ⟨⟨(), rfl, trivial, c_wc_6, c_wf_6, (by first | exact cz_2 v3_6 (congrArg Int32.toNatClampNeg (Int32.toInt_inj.mp (by omega))) hpi_ hok c1_ | exact cz_1 v3_6 (v5_6 (by omega)) hpi_ hok c1_), (cwC_lo v3_6 (by omega) hok), (by first | with_reducible assumption | assumption | exact rng_zero (by omega) (by omega) | omega), by rw [ht]; exact hP, hD⟩, hS.F ht⟩) hS.2.2 dB_36_2_2.2.2.2.2
      · have t_8 : ¬ x3_6.toInt = (0 : Int32).toInt := fun h => c_8 (Int32.toInt_inj.mp h)
        refine lv_iconst (v := 0) hx hb dB_36_2_1.1.2.2.2 (by decide) ?_
        refine lv_istore_n (lv' := [(3, .int 0), (4, .int x4_6), (2, .int vp), (0, .ref xw), (1, .int a1)]) hx hb dB_36_2_1.2.1.1.1 rfl hl (by decide) rfl (fun ls hl => ?_)
        refine lv_iconst (v := 0) hx hb dB_36_2_1.2.1.1.2 (by decide) ?_
        refine lv_istore (lv' := [(5, .int 0), (3, .int 0), (4, .int x4_6), (2, .int vp), (0, .ref xw), (1, .int a1)]) hx hb dB_36_2_1.2.1.2.1 hl (by decide) rfl (fun ls hl => ?_)
        suffices LOOP_9 : ∀ (n_9 : Nat) (x5_9 : Int32) (x3_9 : Int32) (c_wc_9 : Nat → Int32) (c_wf_9 : Nat → Int32) (H : Heap) (locs : List Loc) (ls : Array Slot), 12 - x5_9.toInt < (n_9 : Int) → (0 ≤ x5_9.toInt) → (x5_9.toInt ≤ vp.toInt) → (x3_9.toInt = 0 ∨ x3_9.toInt = 1) → (cwC (zM Mr) (zM Mp) vp.toNatClampNeg a1.toNatClampNeg c_wc_9 c_wf_9 x4_6.toNatClampNeg (12 * x5_9.toNatClampNeg)) → (bdC vp.toNatClampNeg c_wc_9 (14544 * x4_6.toInt + 1212 * x5_9.toInt)) → (x3_9.toInt = 0 → rlC (zM Mr) (zM Mp) vp.toNatClampNeg c_wc_9 0 (12 * x5_9.toNatClampNeg)) → (rng c_wf_9 12 (0) (11)) → pd_2 D vwCl A [ob10_0_ xw xc xk wpo wc wf, ob0_0_ xc xn xk clo cro c4 c5 c6 c7 c8, ob3_0_ xn vp vn n1 n2 n3 n4 n5, aq_ cy 6 cro 12 (gf_ rr), ai_ cy (rr 0) 12 (Mr 0), ai_ cy (rr 1) 12 (Mr 1), ai_ cy (rr 2) 12 (Mr 2), ai_ cy (rr 3) 12 (Mr 3), ai_ cy (rr 4) 12 (Mr 4), ai_ cy (rr 5) 12 (Mr 5), ai_ cy (rr 6) 12 (Mr 6), ai_ cy (rr 7) 12 (Mr 7), ai_ cy (rr 8) 12 (Mr 8), ai_ cy (rr 9) 12 (Mr 9), ai_ cy (rr 10) 12 (Mr 10), ai_ cy (rr 11) 12 (Mr 11), aq_ cy 6 wpo 12 (gf_ rp), ai_ cy (rp 0) 12 (Mp 0), ai_ cy (rp 1) 12 (Mp 1), ai_ cy (rp 2) 12 (Mp 2), ai_ cy (rp 3) 12 (Mp 3), ai_ cy (rp 4) 12 (Mp 4), ai_ cy (rp 5) 12 (Mp 5), ai_ cy (rp 6) 12 (Mp 6), ai_ cy (rp 7) 12 (Mp 7), ai_ cy (rp 8) 12 (Mp 8), ai_ cy (rp 9) 12 (Mp 9), ai_ cy (rp 10) 12 (Mp 10), ai_ cy (rp 11) 12 (Mp 11), ai_ cy wc 12 c_wc_9, ai_ cy wf 12 c_wf_9] H → va_S A s.heap H locs → lv_has ls 6 [(5, .int x5_9), (3, .int x3_9), (4, .int x4_6), (2, .int vp), (0, .ref xw), (1, .int a1)] → W p l e ({ frames := 2, cells := 0, slots := 0, locals := 46 } : Room) s m (([.ref xw, .int a1] : List Value).toArray) below meth c H locs 0 0 Q (F0 m 47 ls []) from LOOP_9 ((12 - (0 : Int32).toInt).toNat + 1) (0 : Int32) (0 : Int32) c_wc_6 c_wf_6 _ _ _ (by omega) (by first | with_reducible assumption | omega | assumption) (by first | with_reducible assumption | omega | assumption) (by first | with_reducible assumption | omega | assumption) (by first | exact v3_6 | exact hcl_ _ (by omega) | exact cwC_sk v_none (by omega) (by omega) c5_ (by omega)) (by first | exact bdC_le v4_6 (by omega) | exact bdC_lk v_none hbi_ (by omega) | exact bdC_le v_none (by omega)) (by first | exact fun _ => rlC_00 | exact fun h => absurd h (by decide) | exact fun h => hrz_ h _ (by omega) | exact fun h => rlC_sk (v_none h) (by omega) (by omega) (by omega)) (by first | with_reducible assumption | assumption | exact rng_zero (by omega) (by omega) | exact orng_zero) ⟨hP, hD⟩ hS (lv_sub hl [0, 1, 2, 3, 4, 5] rfl)
        intro n_9
        induction n_9 with
        | zero =>
          intro x5_9 x3_9 c_wc_9 c_wf_9 H locs ls hm v0_9 v1_9 v2_9 v3_9 v4_9 v5_9 rc_wf_9 hPD hS hl; obtain ⟨hP, hD⟩ := hPD
          exact absurd hm (by omega)
        | succ n_9 ih_9 =>
          intro x5_9 x3_9 c_wc_9 c_wf_9 H locs ls hm v0_9 v1_9 v2_9 v3_9 v4_9 v5_9 rc_wf_9 hPD hS hl; obtain ⟨hP, hD⟩ := hPD
          refine lv_iload hx hb dB_36_2_1.2.1.2.2 (lv_at hl 0 rfl) ?_
          refine lv_iload_n hx hb dB_36_2_1.2.2.1.1 rfl (lv_at hl 3 rfl) ?_
          refine lv_icmp_ge (tgt := 82) hx hb dB_36_2_1.2.2.1.2 (by decide) (fun c_10 => ?_) (fun c_10 => ?_)
          · have t_10 : vp.toInt ≤ x5_9.toInt := Int32.le_iff_toInt_le.mp c_10
            have hLP_ : x5_9.toNatClampNeg = vp.toNatClampNeg := congrArg Int32.toNatClampNeg (Int32.toInt_inj.mp (by omega))
            obtain ⟨y_11, ey_11⟩ : ∃ y : Int32, y = x4_6 + 1 := ⟨_, rfl⟩
            have ty_11 : y_11.toInt = x4_6.toInt + (1 : Int32).toInt := by rw [ey_11]; exact addI (by omega) (by omega)
            refine lv_iinc (v := y_11) (lv' := [(4, .int y_11), (5, .int x5_9), (3, .int x3_9), (2, .int vp), (0, .ref xw), (1, .int a1)]) hx hb dB_36_2_2.2.2.1.2 hl (k := 2) rfl (by rw [ey_11]; rfl) (by decide) rfl (fun ls hl => ?_)
            refine lv_goto (tgt := 32) hx hb dB_36_2_2.2.2.2.1 (by decide) ?_
            exact ih_6 y_11 x3_9 c_wc_9 c_wf_9 _ _ _ (by omega) (by first | with_reducible assumption | omega | assumption) (by first | with_reducible assumption | omega | assumption) (by first | with_reducible assumption | omega | assumption) (by first | exact cwC_i hin_.1 cl_0 rfl | exact cwC_rd v3_9 hLP_ (by omega) (by omega)) (by first | exact bdC_le hin_.2 (by omega) | exact bdC_le v4_9 (by omega)) (by first | exact fun h => absurd h (by decide) | (intro h; have h_ := v5_9 h; rw [hLP_] at h_; exact h_)) (by first | with_reducible assumption | assumption | exact rng_zero (by omega) (by omega) | exact orng_zero) ⟨hP, hD⟩ hS (lv_sub hl [0, 2, 3, 4, 5] rfl)
          · have t_10 : ¬ vp.toInt ≤ x5_9.toInt := fun h => c_10 (Int32.le_iff_toInt_le.mpr h)
            have c5_ : x5_9.toNatClampNeg < vp.toNatClampNeg := nc_lt (by omega) (by omega)
            refine lv_aload_n hx hb dB_36_2_1.2.2.2.1 rfl (lv_at hl 4 rfl) ?_
            refine va_get (ci := 10) (v := .ref wc) (C := RX10) (T := TX10) (N := 5) hx hb hts (fun _ h => List.mem_cons_of_mem _ (List.mem_append_left _ (List.mem_append_left _ (List.mem_append_right _ h)))) hown hK.1 hP 0 rfl rfl 3 (by decide) (hts (.fieldLink RX10 16 "CutAtlas$Widening" "costs" "[I") (List.mem_of_getElem? (i := 4) rfl)) (fun _ h9 => h9) rfl dB_36_2_1.2.2.2.2 ?_
            refine lv_iload hx hb dB_36_2_2.1.1.1 (lv_at hl 0 rfl) ?_
            have h_12 : vp_in x5_9 12 := in_I (by first | with_reducible assumption | omega) (by omega)
            refine va_iald hx hb hK.1 hP 29 0 rfl rfl (i := x5_9) h_12 dB_36_2_2.1.1.2.1 ?_
            refine lv_topi (fun y_13 ey_13 => ?_)
            have hx0_ : y_13.toInt = (c_wc_9 x5_9.toNatClampNeg).toInt := by rw [ey_13]
            refine lv_ldc (v := 1000000000) hx hb hown (hts (.constant RX10 38 (1000000000)) (List.mem_of_getElem? (i := 5) rfl)) dB_36_2_2.1.1.2.2 ?_
            refine lv_icmp_eq (tgt := 76) hx hb dB_36_2_2.1.2.1.1 (by decide) (fun c_14 => ?_) (fun c_14 => ?_)
            · have t_14 : y_13.toInt = (1000000000 : Int32).toInt := congrArg Int32.toInt c_14
              first | (have hrz_ : x3_9.toInt = 0 → ∀ i2 : Int32, i2.toInt = x5_9.toInt + 1 → rlC (zM Mr) (zM Mp) vp.toNatClampNeg c_wc_9 0 (12 * i2.toNatClampNeg) := fun h i2 ei => by have h9_ := hz0_ (by omega); have g_ := v5_9 h; rw [← h9_.1] at g_; exact rlC_lk g_ h9_.2.2 (by omega) ei) | skip
              obtain ⟨y_15, ey_15⟩ : ∃ y : Int32, y = x5_9 + 1 := ⟨_, rfl⟩
              have ty_15 : y_15.toInt = x5_9.toInt + (1 : Int32).toInt := by rw [ey_15]; exact addI (by omega) (by omega)
              refine lv_iinc (v := y_15) (lv' := [(5, .int y_15), (3, .int x3_9), (4, .int x4_6), (2, .int vp), (0, .ref xw), (1, .int a1)]) hx hb dB_36_2_2.2.1.2.2 hl (k := 0) rfl (by rw [ey_15]; rfl) (by decide) rfl (fun ls hl => ?_)
              refine lv_goto (tgt := 47) hx hb dB_36_2_2.2.2.1.1 (by decide) ?_
              exact ih_9 y_15 x3_9 c_wc_9 c_wf_9 _ _ _ (by omega) (by first | with_reducible assumption | omega | assumption) (by first | with_reducible assumption | omega | assumption) (by first | with_reducible assumption | omega | assumption) (by first | exact v3_6 | exact hcl_ _ (by omega) | exact cwC_sk v3_9 (by omega) (by omega) c5_ (by omega)) (by first | exact bdC_le v4_6 (by omega) | exact bdC_lk v4_9 hbi_ (by omega) | exact bdC_le v4_9 (by omega)) (by first | exact fun _ => rlC_00 | exact fun h => absurd h (by decide) | exact fun h => hrz_ h _ (by omega) | exact fun h => rlC_sk (v5_9 h) (by omega) (by omega) (by omega)) (by first | with_reducible assumption | assumption | exact rng_zero (by omega) (by omega) | exact orng_zero) ⟨hP, hD⟩ hS (lv_sub hl [0, 1, 2, 3, 4, 5] rfl)
            · have t_14 : ¬ y_13.toInt = (1000000000 : Int32).toInt := fun h => c_14 (Int32.toInt_inj.mp h)
              have hcw_ : ∃ s rnd : Nat, cwC (zM Mr) (zM Mp) vp.toNatClampNeg s c_wc_9 c_wf_9 rnd (12 * x5_9.toNatClampNeg) := ⟨_, _, v3_9⟩
              have hbd_ : bdC vp.toNatClampNeg c_wc_9 900000 := bdC_le v4_9 (by omega)
              have hfx_ : (c_wc_9 x5_9.toNatClampNeg).toInt ≠ 1000000000 := by omega
              refine lv_aload_n hx hb dB_36_2_2.1.2.1.2 rfl (lv_at hl 4 rfl) ?_
              refine lv_iload hx hb dB_36_2_2.1.2.2.1 (lv_at hl 0 rfl) ?_
              refine ct_S hP hD hS hA [ob10_0_ xw xc xk wpo wc wf, ob0_0_ xc xn xk clo cro c4 c5 c6 c7 c8, ob3_0_ xn vp vn n1 n2 n3 n4 n5, aq_ cy 6 cro 12 (gf_ rr), ai_ cy (rr 0) 12 (Mr 0), ai_ cy (rr 1) 12 (Mr 1), ai_ cy (rr 2) 12 (Mr 2), ai_ cy (rr 3) 12 (Mr 3), ai_ cy (rr 4) 12 (Mr 4), ai_ cy (rr 5) 12 (Mr 5), ai_ cy (rr 6) 12 (Mr 6), ai_ cy (rr 7) 12 (Mr 7), ai_ cy (rr 8) 12 (Mr 8), ai_ cy (rr 9) 12 (Mr 9), ai_ cy (rr 10) 12 (Mr 10), ai_ cy (rr 11) 12 (Mr 11), aq_ cy 6 wpo 12 (gf_ rp), ai_ cy (rp 0) 12 (Mp 0), ai_ cy (rp 1) 12 (Mp 1), ai_ cy (rp 2) 12 (Mp 2), ai_ cy (rp 3) 12 (Mp 3), ai_ cy (rp 4) 12 (Mp 4), ai_ cy (rp 5) 12 (Mp 5), ai_ cy (rp 6) 12 (Mp 6), ai_ cy (rp 7) 12 (Mp 7), ai_ cy (rp 8) 12 (Mp 8), ai_ cy (rp 9) 12 (Mp 9), ai_ cy (rp 10) 12 (Mp 10), ai_ cy (rp 11) 12 (Mp 11), ai_ cy wc 12 c_wc_9, ai_ cy wf 12 c_wf_9] [0, 1, 2, 3, 4, 5, 6, 7, 8, 9, 10, 11, 12, 13, 14, 15, 16, 17, 18, 19, 20, 21, 22, 23, 24, 25, 26, 27, 28, 29, 30] (by decide +kernel) rfl (fun hPc hDw hFc hC_ => ?_)
              refine va_calli (va_runV (As := [.int x5_9]) (rest := []) ⟨hx, hb, hml, hown, hts⟩ (c_X10_lookFrom2 l D cy H.size xw wpo wc wf xc xk clo cro c4 c5 c6 c7 c8 xn n1 n2 n3 n4 n5 vp vn rr Mr rp Mp c_wc_9 c_wf_9 x5_9 (by first | with_reducible assumption | omega | assumption) (by first | with_reducible assumption | omega | assumption) (by first | with_reducible assumption | assumption | omega) (by first | with_reducible assumption | assumption | omega) (by first | with_reducible assumption | assumption | omega) (by first | with_reducible assumption | assumption | omega) (by first | with_reducible assumption | assumption | omega) (by first | with_reducible assumption | assumption | omega)) (cwV 1 hts gX10_findCosts_X10_lookFrom rfl rfl rfl ⟨rfl, hd_X10_lookFrom⟩ ⟨Nat.le_of_ble_eq_true rfl, Nat.le_of_ble_eq_true rfl⟩) ⟨bl_g, va_recvX hK.1 hP (ci := 10) (q0 := 0) rfl rfl, fun U hU hW => ⟨rfl, by rw [hU], by rw [hU]; exact hPc, ⟨kk_mv hW hK, arrOfT_moved hW.alike hG⟩, hDw⟩⟩ rfl rfl hl.1 rfl (lv_room (Nat.le_of_ble_eq_true rfl)) dB_36_2_2.1.2.2.2 ⟨Nat.le_of_ble_eq_true rfl, Nat.le_of_ble_eq_true rfl⟩) hS (fun q _ h => hFc q h) hFc (fun r_16 u t H locs ht hvm hw hB hz1 hk1 hS => ?_)
              obtain ⟨eu_, hw⟩ := hw
              have eu_ := eu_.symm
              subst eu_
              obtain ⟨ec_17, ef_18, g_19, g_20, g_21, g_22, hP1, hD1⟩ := hB
              rw [ht] at hP1
              obtain ⟨hP, hD⟩ := va_join (wr := []) (w1 := [ob10_0_ xw xc xk wpo wc wf, ob0_0_ xc xn xk clo cro c4 c5 c6 c7 c8, ob3_0_ xn vp vn n1 n2 n3 n4 n5, aq_ cy 6 cro 12 (gf_ rr), ai_ cy (rr 0) 12 (Mr 0), ai_ cy (rr 1) 12 (Mr 1), ai_ cy (rr 2) 12 (Mr 2), ai_ cy (rr 3) 12 (Mr 3), ai_ cy (rr 4) 12 (Mr 4), ai_ cy (rr 5) 12 (Mr 5), ai_ cy (rr 6) 12 (Mr 6), ai_ cy (rr 7) 12 (Mr 7), ai_ cy (rr 8) 12 (Mr 8), ai_ cy (rr 9) 12 (Mr 9), ai_ cy (rr 10) 12 (Mr 10), ai_ cy (rr 11) 12 (Mr 11), aq_ cy 6 wpo 12 (gf_ rp), ai_ cy (rp 0) 12 (Mp 0), ai_ cy (rp 1) 12 (Mp 1), ai_ cy (rp 2) 12 (Mp 2), ai_ cy (rp 3) 12 (Mp 3), ai_ cy (rp 4) 12 (Mp 4), ai_ cy (rp 5) 12 (Mp 5), ai_ cy (rp 6) 12 (Mp 6), ai_ cy (rp 7) 12 (Mp 7), ai_ cy (rp 8) 12 (Mp 8), ai_ cy (rp 9) 12 (Mp 9), ai_ cy (rp 10) 12 (Mp 10), ai_ cy (rp 11) 12 (Mp 11), ai_ cy wc 12 ec_17, ai_ cy wf 12 ef_18]) hP hD [0, 1, 2, 3, 4, 5, 6, 7, 8, 9, 10, 11, 12, 13, 14, 15, 16, 17, 18, 19, 20, 21, 22, 23, 24, 25, 26, 27, 28, 29, 30] [] hC_ rfl (by decide) (by decide) hk1 hFc hP1 hD1
              refine pd_K [ob10_0_ xw xc xk wpo wc wf, ob0_0_ xc xn xk clo cro c4 c5 c6 c7 c8, ob3_0_ xn vp vn n1 n2 n3 n4 n5, aq_ cy 6 cro 12 (gf_ rr), ai_ cy (rr 0) 12 (Mr 0), ai_ cy (rr 1) 12 (Mr 1), ai_ cy (rr 2) 12 (Mr 2), ai_ cy (rr 3) 12 (Mr 3), ai_ cy (rr 4) 12 (Mr 4), ai_ cy (rr 5) 12 (Mr 5), ai_ cy (rr 6) 12 (Mr 6), ai_ cy (rr 7) 12 (Mr 7), ai_ cy (rr 8) 12 (Mr 8), ai_ cy (rr 9) 12 (Mr 9), ai_ cy (rr 10) 12 (Mr 10), ai_ cy (rr 11) 12 (Mr 11), aq_ cy 6 wpo 12 (gf_ rp), ai_ cy (rp 0) 12 (Mp 0), ai_ cy (rp 1) 12 (Mp 1), ai_ cy (rp 2) 12 (Mp 2), ai_ cy (rp 3) 12 (Mp 3), ai_ cy (rp 4) 12 (Mp 4), ai_ cy (rp 5) 12 (Mp 5), ai_ cy (rp 6) 12 (Mp 6), ai_ cy (rp 7) 12 (Mp 7), ai_ cy (rp 8) 12 (Mp 8), ai_ cy (rp 9) 12 (Mp 9), ai_ cy (rp 10) 12 (Mp 10), ai_ cy (rp 11) 12 (Mp 11), ai_ cy wc 12 ec_17, ai_ cy wf 12 ef_18] hP hD (fun hP hD => ?_)
              have f0_r_16 := hw
              have hli_ := g_19
              have hbi_ := g_20
              have hz0_ := g_21
              have hcl_ : ∀ i2 : Int32, i2.toInt = x5_9.toInt + 1 → cwC (zM Mr) (zM Mp) vp.toNatClampNeg a1.toNatClampNeg ec_17 ef_18 x4_6.toNatClampNeg (12 * i2.toNatClampNeg) := fun i2 ei => cwC_lk v3_9 hli_ (by omega) (by omega) c5_ ei
              refine lv_if_eq (tgt := 76) hx hb dB_36_2_2.2.1.1.1 (by decide) (fun c_23 => ?_) (fun c_23 => ?_)
              · have t_23 : r_16.toInt = (0 : Int32).toInt := congrArg Int32.toInt c_23
                first | (have hrz_ : x3_9.toInt = 0 → ∀ i2 : Int32, i2.toInt = x5_9.toInt + 1 → rlC (zM Mr) (zM Mp) vp.toNatClampNeg ec_17 0 (12 * i2.toNatClampNeg) := fun h i2 ei => by have h9_ := hz0_ (by omega); have g_ := v5_9 h; rw [← h9_.1] at g_; exact rlC_lk g_ h9_.2.2 (by omega) ei) | skip
                obtain ⟨y_24, ey_24⟩ : ∃ y : Int32, y = x5_9 + 1 := ⟨_, rfl⟩
                have ty_24 : y_24.toInt = x5_9.toInt + (1 : Int32).toInt := by rw [ey_24]; exact addI (by omega) (by omega)
                refine lv_iinc (v := y_24) (lv' := [(5, .int y_24), (3, .int x3_9), (4, .int x4_6), (2, .int vp), (0, .ref xw), (1, .int a1)]) hx hb dB_36_2_2.2.1.2.2 hl (k := 0) rfl (by rw [ey_24]; rfl) (by decide) rfl (fun ls hl => ?_)
                refine lv_goto (tgt := 47) hx hb dB_36_2_2.2.2.1.1 (by decide) ?_
                exact ih_9 y_24 x3_9 ec_17 ef_18 _ _ _ (by omega) (by first | with_reducible assumption | omega | assumption) (by first | with_reducible assumption | omega | assumption) (by first | with_reducible assumption | omega | assumption) (by first | exact v3_6 | exact hcl_ _ (by omega) | exact cwC_sk v3_9 (by omega) (by omega) c5_ (by omega)) (by first | exact bdC_le v4_6 (by omega) | exact bdC_lk v4_9 hbi_ (by omega) | exact bdC_le v4_9 (by omega)) (by first | exact fun _ => rlC_00 | exact fun h => absurd h (by decide) | exact fun h => hrz_ h _ (by omega) | exact fun h => rlC_sk (v5_9 h) (by omega) (by omega) (by omega)) (by first | with_reducible assumption | assumption | exact rng_zero (by omega) (by omega) | exact orng_zero) ⟨hP, hD⟩ hS (lv_sub hl [0, 1, 2, 3, 4, 5] rfl)
              · have t_23 : ¬ r_16.toInt = (0 : Int32).toInt := fun h => c_23 (Int32.toInt_inj.mp h)
                refine lv_iconst (v := 1) hx hb dB_36_2_2.2.1.1.2 (by decide) ?_
                refine lv_istore_n (lv' := [(3, .int 1), (5, .int x5_9), (4, .int x4_6), (2, .int vp), (0, .ref xw), (1, .int a1)]) hx hb dB_36_2_2.2.1.2.1 rfl hl (by decide) rfl (fun ls hl => ?_)
                first | (have hrz_ : (1 : Int32).toInt = 0 → ∀ i2 : Int32, i2.toInt = x5_9.toInt + 1 → rlC (zM Mr) (zM Mp) vp.toNatClampNeg ec_17 0 (12 * i2.toNatClampNeg) := fun h i2 ei => by have h9_ := hz0_ (by omega); have g_ := v5_9 h; rw [← h9_.1] at g_; exact rlC_lk g_ h9_.2.2 (by omega) ei) | skip
                obtain ⟨y_25, ey_25⟩ : ∃ y : Int32, y = x5_9 + 1 := ⟨_, rfl⟩
                have ty_25 : y_25.toInt = x5_9.toInt + (1 : Int32).toInt := by rw [ey_25]; exact addI (by omega) (by omega)
                refine lv_iinc (v := y_25) (lv' := [(5, .int y_25), (3, .int 1), (4, .int x4_6), (2, .int vp), (0, .ref xw), (1, .int a1)]) hx hb dB_36_2_2.2.1.2.2 hl (k := 1) rfl (by rw [ey_25]; rfl) (by decide) rfl (fun ls hl => ?_)
                refine lv_goto (tgt := 47) hx hb dB_36_2_2.2.2.1.1 (by decide) ?_
                exact ih_9 y_25 (1 : Int32) ec_17 ef_18 _ _ _ (by omega) (by first | with_reducible assumption | omega | assumption) (by first | with_reducible assumption | omega | assumption) (by first | with_reducible assumption | omega | assumption) (by first | exact v3_6 | exact hcl_ _ (by omega) | exact cwC_sk v3_9 (by omega) (by omega) c5_ (by omega)) (by first | exact bdC_le v4_6 (by omega) | exact bdC_lk v4_9 hbi_ (by omega) | exact bdC_le v4_9 (by omega)) (by first | exact fun _ => rlC_00 | exact fun h => absurd h (by decide) | exact fun h => hrz_ h _ (by omega) | exact fun h => rlC_sk (v5_9 h) (by omega) (by omega) (by omega)) (by first | with_reducible assumption | assumption | exact rng_zero (by omega) (by omega) | exact orng_zero) ⟨hP, hD⟩ hS (lv_sub hl [0, 1, 2, 3, 4, 5] rfl)
end
