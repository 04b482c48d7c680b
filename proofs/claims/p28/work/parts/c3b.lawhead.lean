noncomputable def lw_goes (j pc : Nat) : Prop := ∀ {p : Program} {l : Launch} {e : Env} {s : State} {m : MethodId} {args : Array Value} {below : List Frame} {meth : Method} {c : Code} {H : Heap} {locs : List Loc} {cells slots : Nat} {Q : State → Prop} {ls : Array Slot}, p.tables.exec = Jvm.exec → c.code = code → W p l e room_1 s m args below meth c H locs cells slots Q (F0 m pc ls []) → W p l e room_1 s m args below meth c H locs cells slots Q (F0 m 33 ls [.int (nI j)])
theorem lw_c0 : lw_goes 0 180 := fun hx hb k => lv_tableIn (off := 147) (tgt := 180) hx hb dL_law_33 (by decide) (by decide) (by decide) (by decide) k
theorem lw_c1 : lw_goes 1 193 := fun hx hb k => lv_tableIn (off := 160) (tgt := 193) hx hb dL_law_33 (by decide) (by decide) (by decide) (by decide) k
theorem lw_c2 : lw_goes 2 256 := fun hx hb k => lv_tableIn (off := 223) (tgt := 256) hx hb dL_law_33 (by decide) (by decide) (by decide) (by decide) k
theorem lw_c3 : lw_goes 3 289 := fun hx hb k => lv_tableIn (off := 256) (tgt := 289) hx hb dL_law_33 (by decide) (by decide) (by decide) (by decide) k
theorem lw_c4 : lw_goes 4 322 := fun hx hb k => lv_tableIn (off := 289) (tgt := 322) hx hb dL_law_33 (by decide) (by decide) (by decide) (by decide) k
theorem lw_c5 : lw_goes 5 355 := fun hx hb k => lv_tableIn (off := 322) (tgt := 355) hx hb dL_law_33 (by decide) (by decide) (by decide) (by decide) k
theorem lw_c6 : lw_goes 6 368 := fun hx hb k => lv_tableIn (off := 335) (tgt := 368) hx hb dL_law_33 (by decide) (by decide) (by decide) (by decide) k
theorem lw_c7 : lw_goes 7 401 := fun hx hb k => lv_tableIn (off := 368) (tgt := 401) hx hb dL_law_33 (by decide) (by decide) (by decide) (by decide) k
theorem lw_c8 : lw_goes 8 434 := fun hx hb k => lv_tableIn (off := 401) (tgt := 434) hx hb dL_law_33 (by decide) (by decide) (by decide) (by decide) k
theorem lw_c9 : lw_goes 9 467 := fun hx hb k => lv_tableIn (off := 434) (tgt := 467) hx hb dL_law_33 (by decide) (by decide) (by decide) (by decide) k
theorem lw_c10 : lw_goes 10 510 := fun hx hb k => lv_tableIn (off := 477) (tgt := 510) hx hb dL_law_33 (by decide) (by decide) (by decide) (by decide) k
theorem lw_c11 : lw_goes 11 553 := fun hx hb k => lv_tableIn (off := 520) (tgt := 553) hx hb dL_law_33 (by decide) (by decide) (by decide) (by decide) k
theorem lw_c12 : lw_goes 12 586 := fun hx hb k => lv_tableIn (off := 553) (tgt := 586) hx hb dL_law_33 (by decide) (by decide) (by decide) (by decide) k
theorem lw_c13 : lw_goes 13 629 := fun hx hb k => lv_tableIn (off := 596) (tgt := 629) hx hb dL_law_33 (by decide) (by decide) (by decide) (by decide) k
theorem lw_c14 : lw_goes 14 672 := fun hx hb k => lv_tableIn (off := 639) (tgt := 672) hx hb dL_law_33 (by decide) (by decide) (by decide) (by decide) k
theorem lw_c15 : lw_goes 15 715 := fun hx hb k => lv_tableIn (off := 682) (tgt := 715) hx hb dL_law_33 (by decide) (by decide) (by decide) (by decide) k
theorem lw_c16 : lw_goes 16 758 := fun hx hb k => lv_tableIn (off := 725) (tgt := 758) hx hb dL_law_33 (by decide) (by decide) (by decide) (by decide) k
theorem lw_c17 : lw_goes 17 791 := fun hx hb k => lv_tableIn (off := 758) (tgt := 791) hx hb dL_law_33 (by decide) (by decide) (by decide) (by decide) k
theorem lw_c18 : lw_goes 18 824 := fun hx hb k => lv_tableIn (off := 791) (tgt := 824) hx hb dL_law_33 (by decide) (by decide) (by decide) (by decide) k
theorem lw_c19 : lw_goes 19 837 := fun hx hb k => lv_tableIn (off := 804) (tgt := 837) hx hb dL_law_33 (by decide) (by decide) (by decide) (by decide) k
theorem lw_c20 : lw_goes 20 850 := fun hx hb k => lv_tableIn (off := 817) (tgt := 850) hx hb dL_law_33 (by decide) (by decide) (by decide) (by decide) k
theorem lw_c21 : lw_goes 21 873 := fun hx hb k => lv_tableIn (off := 840) (tgt := 873) hx hb dL_law_33 (by decide) (by decide) (by decide) (by decide) k
theorem lw_c22 : lw_goes 22 896 := fun hx hb k => lv_tableIn (off := 863) (tgt := 896) hx hb dL_law_33 (by decide) (by decide) (by decide) (by decide) k
theorem lw_c23 : lw_goes 23 929 := fun hx hb k => lv_tableIn (off := 896) (tgt := 929) hx hb dL_law_33 (by decide) (by decide) (by decide) (by decide) k
theorem lw_c24 : lw_goes 24 952 := fun hx hb k => lv_tableIn (off := 919) (tgt := 952) hx hb dL_law_33 (by decide) (by decide) (by decide) (by decide) k
theorem lw_c25 : lw_goes 25 995 := fun hx hb k => lv_tableIn (off := 962) (tgt := 995) hx hb dL_law_33 (by decide) (by decide) (by decide) (by decide) k
theorem lw_c26 : lw_goes 26 1038 := fun hx hb k => lv_tableIn (off := 1005) (tgt := 1038) hx hb dL_law_33 (by decide) (by decide) (by decide) (by decide) k
theorem lw_c27 : lw_goes 27 1133 := fun hx hb k => lv_tableIn (off := 1100) (tgt := 1133) hx hb dL_law_33 (by decide) (by decide) (by decide) (by decide) k
theorem lw_c28 : lw_goes 28 1208 := fun hx hb k => lv_tableIn (off := 1175) (tgt := 1208) hx hb dL_law_33 (by decide) (by decide) (by decide) (by decide) k
theorem lw_c29 : lw_goes 29 1261 := fun hx hb k => lv_tableIn (off := 1228) (tgt := 1261) hx hb dL_law_33 (by decide) (by decide) (by decide) (by decide) k
theorem lw_c30 : lw_goes 30 1284 := fun hx hb k => lv_tableIn (off := 1251) (tgt := 1284) hx hb dL_law_33 (by decide) (by decide) (by decide) (by decide) k
theorem lw_c31 : lw_goes 31 1307 := fun hx hb k => lv_tableIn (off := 1274) (tgt := 1307) hx hb dL_law_33 (by decide) (by decide) (by decide) (by decide) k
theorem lw_c32 : lw_goes 32 1320 := fun hx hb k => lv_tableIn (off := 1287) (tgt := 1320) hx hb dL_law_33 (by decide) (by decide) (by decide) (by decide) k
theorem lw_cx {j : Nat} (h : 33 ≤ j) (hj : j < 64) : lw_goes j 1333 := fun hx hb k => lv_tableOut (tgt := 1333) hx hb dL_law_33 (Or.inr (by rw [nI_toInt (by omega)]; omega)) (by decide) k
set_option maxHeartbeats 8000000 in
set_option maxRecDepth 100000 in
theorem law_up {p : Program} {l : Launch} {e : Env} {s : State} {m : MethodId} {below : List Frame} {meth : Method} {c : Code} {b : Nat} {D : va_G} {cy : Nat → ClassId} {xo mo : Nat} {i : Int32} {cells slots pc : Nat} (h : lawQ p l e s m below meth c b D cy xo mo i pc (cells + 6) (slots + 207)) : lawQ p l e s m below meth c b D cy xo mo i pc cells slots := by
  intro xk xn xc xh xt xw xm xp n1 n2 n3 n4 n5 k0 k1 k2 k3 k4 clo cro c4 c5 c6 c7 c8 ta tb wpo wc wf m0 l0 u0 m1 l1 u1 m2 l2 u2 m3 l3 u3 g5 g6 g7 g8 g9 g10 g12 g13 g14 g15 g16 g17 g18 g19 g20 g22 g23 g24 g29 g30 g31 g32 g33 rl rr rp Ml Mr Mp pf ph fi vp vn hu1 hu2 hu3 hu4 hu5 hu6 hu7 hu8 mk0 mk1 mk2 mk3 mr0 mr1 mr2 mr3 s0 s1 s3 s4 s11 s21 s25 s26 s27 s28 tr t2 fk fs fe fw fp w4 w5 w6 w7 w8 fx fu fc ff fl0 fl1 fl2 fl3 fn0 fn1 fn2 fn3 f5 f6 f7 f8 f9 f10 f12 f13 f14 f15 f16 f17 f18 f19 f20 f22 f23 f24 f29 f30 f31 f32 f33 pa pv pg pm H locs ls hP hD hnk hpk hrk hpr r_fk r_fw r_fp hmr0 hmr1 hmr2 hmr3 r_fl0 r_fl1 r_fl2 r_fl3 r_w7 r_w8 r_ff hN hPl hU h21 hnet hpast r_f6 r_f7 r_f8 r_f9 r_f12 r_f13 r_f17 r_f18 r_f23 r_f24 r_f30 r_f31 r_f32 r_f14 hlk hmr hS hl
  refine W.widen (k := cells + 6) (n := slots + 207) (by omega) (by omega) ?_
  exact h xk xn xc xh xt xw xm xp n1 n2 n3 n4 n5 k0 k1 k2 k3 k4 clo cro c4 c5 c6 c7 c8 ta tb wpo wc wf m0 l0 u0 m1 l1 u1 m2 l2 u2 m3 l3 u3 g5 g6 g7 g8 g9 g10 g12 g13 g14 g15 g16 g17 g18 g19 g20 g22 g23 g24 g29 g30 g31 g32 g33 rl rr rp Ml Mr Mp pf ph fi vp vn hu1 hu2 hu3 hu4 hu5 hu6 hu7 hu8 mk0 mk1 mk2 mk3 mr0 mr1 mr2 mr3 s0 s1 s3 s4 s11 s21 s25 s26 s27 s28 tr t2 fk fs fe fw fp w4 w5 w6 w7 w8 fx fu fc ff fl0 fl1 fl2 fl3 fn0 fn1 fn2 fn3 f5 f6 f7 f8 f9 f10 f12 f13 f14 f15 f16 f17 f18 f19 f20 f22 f23 f24 f29 f30 f31 f32 f33 pa pv pg pm H locs ls hP hD hnk hpk hrk hpr r_fk r_fw r_fp hmr0 hmr1 hmr2 hmr3 r_fl0 r_fl1 r_fl2 r_fl3 r_w7 r_w8 r_ff hN hPl hU h21 hnet hpast r_f6 r_f7 r_f8 r_f9 r_f12 r_f13 r_f17 r_f18 r_f23 r_f24 r_f30 r_f31 r_f32 r_f14 hlk hmr hS hl
set_option maxHeartbeats 8000000 in
set_option maxRecDepth 100000 in
theorem law_next {p : Program} {l : Launch} {e : Env} {s : State} {m : MethodId} {below : List Frame} {meth : Method} {c : Code} {b L : Nat} {xs : Nat → Int32} (C0 : lw_At p s m meth c b L xs) {D : va_G} {cy : Nat → ClassId} {xo mo : Nat} {i i2 : Int32} {cells slots : Nat} (e2 : i2.toInt = i.toInt + (7 : Int32).toInt) (h : lawQ p l e s m below meth c b D cy xo mo i2 18 cells slots) : lawQ p l e s m below meth c b D cy xo mo i 1333 cells slots := by
  obtain ⟨hx, hb, hr, hml, hown, hts, hX, hbl, hlocks, hgv⟩ := id C0
  have hown : s.vm.findClass RL = some m.cls := hown
  have hA : ∀ q : Nat, s.heap.size ≤ q → (fun q : Nat => s.heap.size ≤ q) q := fun _ h => h
  have hbA : ¬ (fun q : Nat => s.heap.size ≤ q) b := Nat.not_le.mpr hbl
  intro xk xn xc xh xt xw xm xp n1 n2 n3 n4 n5 k0 k1 k2 k3 k4 clo cro c4 c5 c6 c7 c8 ta tb wpo wc wf m0 l0 u0 m1 l1 u1 m2 l2 u2 m3 l3 u3 g5 g6 g7 g8 g9 g10 g12 g13 g14 g15 g16 g17 g18 g19 g20 g22 g23 g24 g29 g30 g31 g32 g33 rl rr rp Ml Mr Mp pf ph fi vp vn hu1 hu2 hu3 hu4 hu5 hu6 hu7 hu8 mk0 mk1 mk2 mk3 mr0 mr1 mr2 mr3 s0 s1 s3 s4 s11 s21 s25 s26 s27 s28 tr t2 fk fs fe fw fp w4 w5 w6 w7 w8 fx fu fc ff fl0 fl1 fl2 fl3 fn0 fn1 fn2 fn3 f5 f6 f7 f8 f9 f10 f12 f13 f14 f15 f16 f17 f18 f19 f20 f22 f23 f24 f29 f30 f31 f32 f33 pa pv pg pm H locs ls hP hD hnk hpk hrk hpr r_fk r_fw r_fp hmr0 hmr1 hmr2 hmr3 r_fl0 r_fl1 r_fl2 r_fl3 r_w7 r_w8 r_ff hN hPl hU h21 hnet hpast r_f6 r_f7 r_f8 r_f9 r_f12 r_f13 r_f17 r_f18 r_f23 r_f24 r_f30 r_f31 r_f32 r_f14 hlk hmr hS hl
  have ei2 : i2 = i + 7 := Int32.toInt_inj.mp (by rw [e2, Int32.toInt_add]; exact (Int.bmod_eq_of_le (by have := Int32.toInt_lt i2; have := Int32.le_toInt i2; omega) (by have := Int32.toInt_lt i2; have := Int32.le_toInt i2; omega)).symm)
  refine lv_iinc (v := i2) (lv' := [(3, .int i2), (2, .ref mo), (1, .ref xo), (0, .ref b)]) hx hb dL_law_1333 hl (k := 0) rfl (by rw [ei2]; rfl) (by decide) rfl (fun ls hl => ?_)
  refine lv_goto (tgt := 18) hx hb dL_law_1336 (by decide) ?_
  exact h xk xn xc xh xt xw xm xp n1 n2 n3 n4 n5 k0 k1 k2 k3 k4 clo cro c4 c5 c6 c7 c8 ta tb wpo wc wf m0 l0 u0 m1 l1 u1 m2 l2 u2 m3 l3 u3 g5 g6 g7 g8 g9 g10 g12 g13 g14 g15 g16 g17 g18 g19 g20 g22 g23 g24 g29 g30 g31 g32 g33 rl rr rp Ml Mr Mp pf ph fi vp vn hu1 hu2 hu3 hu4 hu5 hu6 hu7 hu8 mk0 mk1 mk2 mk3 mr0 mr1 mr2 mr3 s0 s1 s3 s4 s11 s21 s25 s26 s27 s28 tr t2 fk fs fe fw fp w4 w5 w6 w7 w8 fx fu fc ff fl0 fl1 fl2 fl3 fn0 fn1 fn2 fn3 f5 f6 f7 f8 f9 f10 f12 f13 f14 f15 f16 f17 f18 f19 f20 f22 f23 f24 f29 f30 f31 f32 f33 pa pv pg pm H locs ls hP hD hnk hpk hrk hpr r_fk r_fw r_fp hmr0 hmr1 hmr2 hmr3 r_fl0 r_fl1 r_fl2 r_fl3 r_w7 r_w8 r_ff hN hPl hU h21 hnet hpast r_f6 r_f7 r_f8 r_f9 r_f12 r_f13 r_f17 r_f18 r_f23 r_f24 r_f30 r_f31 r_f32 r_f14 hlk hmr hS hl
set_option maxHeartbeats 8000000 in
set_option maxRecDepth 100000 in
theorem law_head {p : Program} {l : Launch} {e : Env} {s : State} {m : MethodId} {below : List Frame} {meth : Method} {c : Code} {b L : Nat} {xs : Nat → Int32} (C0 : lw_At p s m meth c b L xs) (hL : L ≤ 3584) {D : va_G} {cy : Nat → ClassId} {xo mo : Nat} {i : Int32} {cells slots : Nat} (hi0 : 0 ≤ i.toInt) (hiL : i.toInt ≤ L) (hcc : cells ≤ 500000) (hss : slots ≤ 7000000) (h : i.toInt + 7 ≤ L → ∀ j : Nat, j < 64 → ∃ pc : Nat, lw_goes j pc ∧ lawQ p l e s m below meth c b D cy xo mo i pc cells slots) : lawQ p l e s m below meth c b D cy xo mo i 18 cells slots := by
  obtain ⟨hx, hb, hr, hml, hown, hts, hX, hbl, hlocks, hgv⟩ := id C0
  have hown : s.vm.findClass RL = some m.cls := hown
  have hA : ∀ q : Nat, s.heap.size ≤ q → (fun q : Nat => s.heap.size ≤ q) q := fun _ h => h
  have hbA : ¬ (fun q : Nat => s.heap.size ≤ q) b := Nat.not_le.mpr hbl
  intro xk xn xc xh xt xw xm xp n1 n2 n3 n4 n5 k0 k1 k2 k3 k4 clo cro c4 c5 c6 c7 c8 ta tb wpo wc wf m0 l0 u0 m1 l1 u1 m2 l2 u2 m3 l3 u3 g5 g6 g7 g8 g9 g10 g12 g13 g14 g15 g16 g17 g18 g19 g20 g22 g23 g24 g29 g30 g31 g32 g33 rl rr rp Ml Mr Mp pf ph fi vp vn hu1 hu2 hu3 hu4 hu5 hu6 hu7 hu8 mk0 mk1 mk2 mk3 mr0 mr1 mr2 mr3 s0 s1 s3 s4 s11 s21 s25 s26 s27 s28 tr t2 fk fs fe fw fp w4 w5 w6 w7 w8 fx fu fc ff fl0 fl1 fl2 fl3 fn0 fn1 fn2 fn3 f5 f6 f7 f8 f9 f10 f12 f13 f14 f15 f16 f17 f18 f19 f20 f22 f23 f24 f29 f30 f31 f32 f33 pa pv pg pm H locs ls hP hD hnk hpk hrk hpr r_fk r_fw r_fp hmr0 hmr1 hmr2 hmr3 r_fl0 r_fl1 r_fl2 r_fl3 r_w7 r_w8 r_ff hN hPl hU h21 hnet hpast r_f6 r_f7 r_f8 r_f9 r_f12 r_f13 r_f17 r_f18 r_f23 r_f24 r_f30 r_f31 r_f32 r_f14 hlk hmr hS hl
  have hLt : (Int32.ofNat L).toInt = (L : Int) := nI_toInt (n := L) (by omega)
  have z7 : (7 : Int32).toInt = 7 := by decide
  refine lv_iload_n hx hb dL_law_18 rfl (lv_at hl 0 rfl) ?_
  refine lv_aload_n hx hb dL_law_19 rfl (lv_at hl 3 rfl) ?_
  refine va_slen hx hb hX hbl hbA hS dL_law_20 ?_
  refine lv_bipush (v := 7) hx hb dL_law_21 (by decide) ?_
  refine lv_isub hx hb dL_law_23 ?_
  refine lv_topi (fun y ey => ?_)
  have ty : y.toInt = (Int32.ofNat L).toInt - (7 : Int32).toInt := by rw [ey]; exact subI (by omega) (by omega)
  refine lv_icmp_gt (tgt := 1339) hx hb dL_law_24 (by decide) (fun k => ?_) (fun k => ?_)
  · refine lv_iconst (v := 1) hx hb dL_law_1339 (by decide) ?_
    refine va_forget (fun q hq => hS.2.2 q hq) ?_
    refine W.widen (k := 600000) (n := 7302250) (by omega) (by omega) ?_
    exact lw_ret hx hb hr hlocks dL_law_1340
  · have tk : ¬ y.toInt < i.toInt := fun h => k (Int32.lt_iff_toInt_lt.mpr h)
    refine lv_aload_n hx hb dL_law_27 rfl (lv_at hl 3 rfl) ?_
    refine lv_iload_n hx hb dL_law_28 rfl (lv_at hl 0 rfl) ?_
    refine va_sld hx hb hX hbl hbA hS (i := i) (in_I (by omega) (by omega)) dL_law_29 ?_
    refine lv_bipush (v := 63) hx hb dL_law_30 (by decide) ?_
    refine lv_iand hx hb dL_law_32 ?_
    obtain ⟨j, hj, ej⟩ := pk_andE (xs i.toNatClampNeg) (m := 63) 6 rfl
    refine lv_topv (v' := .int (nI j)) (congrArg Value.int ej) ?_
    obtain ⟨pc, g1, g2⟩ := h (by omega) j (by omega)
    exact g1 hx hb (g2 xk xn xc xh xt xw xm xp n1 n2 n3 n4 n5 k0 k1 k2 k3 k4 clo cro c4 c5 c6 c7 c8 ta tb wpo wc wf m0 l0 u0 m1 l1 u1 m2 l2 u2 m3 l3 u3 g5 g6 g7 g8 g9 g10 g12 g13 g14 g15 g16 g17 g18 g19 g20 g22 g23 g24 g29 g30 g31 g32 g33 rl rr rp Ml Mr Mp pf ph fi vp vn hu1 hu2 hu3 hu4 hu5 hu6 hu7 hu8 mk0 mk1 mk2 mk3 mr0 mr1 mr2 mr3 s0 s1 s3 s4 s11 s21 s25 s26 s27 s28 tr t2 fk fs fe fw fp w4 w5 w6 w7 w8 fx fu fc ff fl0 fl1 fl2 fl3 fn0 fn1 fn2 fn3 f5 f6 f7 f8 f9 f10 f12 f13 f14 f15 f16 f17 f18 f19 f20 f22 f23 f24 f29 f30 f31 f32 f33 pa pv pg pm H locs ls hP hD hnk hpk hrk hpr r_fk r_fw r_fp hmr0 hmr1 hmr2 hmr3 r_fl0 r_fl1 r_fl2 r_fl3 r_w7 r_w8 r_ff hN hPl hU h21 hnet hpast r_f6 r_f7 r_f8 r_f9 r_f12 r_f13 r_f17 r_f18 r_f23 r_f24 r_f30 r_f31 r_f32 r_f14 hlk hmr hS hl)
