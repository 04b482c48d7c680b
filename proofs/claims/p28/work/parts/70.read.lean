section DEEP
variable {p : Program} {l : Launch} {e : Env} {R : Room} {s : State} {m : MethodId} {args : Array Value} {below : List Frame} {meth : Method} {c : Code} {H : Heap} {locs : List Loc} {cells slots : Nat}
variable {y : MethodName} {bytes cc : ByteArray} {maxL nL mc ms n index : Nat} {ret : Option FieldType} {ws : List Cond} {rm : Room} {Pc : Array Value → State → Prop} {Qc : Array Value → State → Outcome → State → Prop} {free : Addr → Prop} {Ts : List Cond} {own C : String} {b : Addr} {As rest : List Value} {g : JFrame}
/-- a call with more than eight words below its arguments -/
theorem va_runVW {W : Nat} (S : CallFix p m c cc nL s args Ts own) (hM : Met l y ws rm Pc Qc mc ms free) (cw : CallW R s args own C index y bytes maxL ret ws rm mc ms n) (hdeep : W + (maxL + 11) + rm.locals ≤ R.locals) (hp : PreV s H C b Pc As)
    (hg : g.method = m) (hn : As.length = n) (hsize : g.locals.size = nL) (hstack : g.stack = As.reverse ++ .ref b :: rest) (hW : 2 * g.monitorRoom + (rest.map fun v => v.category).sum ≤ W) (hdg : decode cc g.pc = .ok (.invokevirtual index, 3)) (hf : cells + mc ≤ R.cells ∧ slots + ms ≤ R.slots) :
    va_Run p l e R s m args below meth c H locs cells slots mc ms g rest (Qc (Value.ref b :: As).toArray) (free) := by
  have hK : Back l R p e below s args y 3 W (PreOf R mc ms Pc) (PostOf Qc mc ms free) := by
    obtain ⟨hrc, hrs, hfr, -, hws, hcw, -, hini, -⟩ := cw.1
    exact back_of (bytes := bytes) (maxL := maxL) (ret := ret) hM hp.1 hrc hrs hfr hdeep hws hcw (fun a' U hW => word_at hW (Or.inl (by first | rfl | simp [Cond.onTables, Cond.keeps, Cond.steady])) hini)
  obtain ⟨⟨-, -, -, -, -, -, hcode, -, hy, hlen, hl⟩, hin, hse⟩ := cw
  obtain ⟨hx, hb, hml, ho, -⟩ := S
  obtain ⟨-, ⟨cellB, hcB, hoB, hclB⟩, hPc⟩ := hp
  intro T hT X
  obtain ⟨v, vm₁, ⟨U', l2, c2, s2⟩, hW₁, X', ⟨g', mk, t, L, e1, e2, hq, h1, hL, h2, h3⟩, st⟩ := callV X hx (C := C) (bytes := bytes) (maxL := maxL) (ret := ret) ho hl hin hse hcode hy hK (by rw [hT]; exact hcB) hoB hclB hg (hsize.trans hml.symm) (argsL := As) (rest := rest) (fun sig h => hn.trans (hlen sig h)) hstack hW (by rw [hb]; exact hdg)
    (fun vm₁ hW₁ => ⟨hf.1, hf.2, hPc (T.setVm vm₁) hT hW₁⟩)
  dsimp only [Pt.U, Pt.locs, Pt.cells, Pt.slots] at X' e1 e2 h1 h2 h3 st
  subst h1; subst h2; subst h3
  exact ⟨v, (T.setVm vm₁).calling g' mk (Value.ref b :: As).toArray, t, U', L, hT, X', hL, e1, e2, hq, st⟩
end DEEP

set_option maxHeartbeats 4000000 in
set_option maxRecDepth 100000 in
theorem c_X11_readRefusal (l : Launch) (D : va_G) (cy : Nat → ClassId) (sz : Nat) (xo : Nat) (xk : Nat) (xn : Nat) (xc : Nat) (xh : Nat) (xt : Nat) (xw : Nat) (xm : Nat) (xp : Nat) (pf : Int32) (ph : Int32) (tr : Int64) (fi : Int32) (n1 : Nat) (n2 : Nat) (n3 : Nat) (n4 : Nat) (n5 : Nat) (vp : Int32) (vn : Int32) (mm : Nat) (ml : Nat) (mu : Nat) (mk : Int32) (mr : Int32) (fl : Nat → Int32) (fn : Nat → Int64) (a2 : Int32) (hvn : 0 ≤ vn.toInt ∧ vn.toInt ≤ 40) (hvp : 0 ≤ vp.toInt ∧ vp.toInt ≤ 12) (q2 : 0 ≤ a2.toInt ∧ a2.toInt ≤ 5) (r_fl : rng fl 6 (-9) (5)) : Met l yX11_readRefusal wsX11_readRefusal ({ frames := 3, cells := 0, slots := 0, locals := 76 }) (va_Pc [.ref xo, .ref mm, .int a2] (fun U => U.heap.size = sz ∧ va_P D vwCl [(xo, .inr (11, [.ref xk, .ref xn, .ref xc, .ref xh, .ref xt, .ref xw, .ref xm, .ref xp, .int pf, .int ph, .long tr, .int fi])), (xn, .inr (3, [.int vp, .int vn, .ref n1, .ref n2, .ref n3, .ref n4, .ref n5])), (mm, .inr (4, [.int mk, .int mr, .ref ml, .ref mu])), (ml, .inl (cy 0, 6, .inl fl)), (mu, .inl (cy 1, 30, .inr (.inl fn)))] U.heap ∧ kk_ D cy U ∧ va_D (fun _ => True) [(xo, .inr (11, [.ref xk, .ref xn, .ref xc, .ref xh, .ref xt, .ref xw, .ref xm, .ref xp, .int pf, .int ph, .long tr, .int fi])), (xn, .inr (3, [.int vp, .int vn, .ref n1, .ref n2, .ref n3, .ref n4, .ref n5])), (mm, .inr (4, [.int mk, .int mr, .ref ml, .ref mu])), (ml, .inl (cy 0, 6, .inl fl)), (mu, .inl (cy 1, 30, .inr (.inl fn)))])) (va_Qi (fun (r : Int32) (_ : Unit) => (r.toInt < 0 ∨ (r.toInt = 0 ∧ vn.toInt < 40 ∧ (0 ≤ (fn (5 * a2.toInt + (0 : Int32).toInt).toNat).toInt ∧ (fn (5 * a2.toInt + (0 : Int32).toInt).toNat).toInt ≤ 4) ∧ (0 ≤ (fn (5 * a2.toInt + (1 : Int32).toInt).toNat).toInt ∧ (fn (5 * a2.toInt + (1 : Int32).toInt).toNat).toInt < vp.toInt) ∧ (0 ≤ (fn (5 * a2.toInt + (2 : Int32).toInt).toNat).toInt ∧ (fn (5 * a2.toInt + (2 : Int32).toInt).toNat).toInt < vp.toInt) ∧ (fn (5 * a2.toInt + (1 : Int32).toInt).toNat).toInt ≠ (fn (5 * a2.toInt + (2 : Int32).toInt).toNat).toInt ∧ (0 ≤ (fn (5 * a2.toInt + (3 : Int32).toInt).toNat).toInt ∧ (fn (5 * a2.toInt + (3 : Int32).toInt).toNat).toInt ≤ 1000) ∧ (0 ≤ (fn (5 * a2.toInt + (4 : Int32).toInt).toNat).toInt ∧ (fn (5 * a2.toInt + (4 : Int32).toInt).toNat).toInt ≤ 100)))) (fun (_ : Unit) (_ : State) => True) (va_A [] sz)) 0 0 (va_A [] sz) := by
  refine ofQ (cc := cX11_readRefusal) (maxL := 3) (ret := (some .int)) (by decide) rfl ?_
  intro p e s m args below meth c s₁ Q hQ B hml hv
  obtain ⟨rfl, hsz, hP, hK, hD0⟩ := hv
  have hx := B.exec
  have hb := B.bytes
  have hr := B.returns
  have hts := atoms_spec (ws := wsX11_readRefusal) B.pre
  have hown : s.vm.findClass RX11 = some m.cls := by have h_ := findClass_of_methodNamed B.named; exact h_
  have hlocks := B.notSynchronized
  subst hsz
  have hD : va_D (va_A [] s.heap.size) [] := dd_nil
  generalize hAe : va_A [] s.heap.size = A at hD hQ
  have hA : ∀ q : Nat, s.heap.size ≤ q → A q := fun q h => by rw [← hAe]; exact Or.inr h
  have hS : va_S A s.heap s.heap [] := va_S.rf
  have hl := lv_entry ([.ref xo, .ref mm, .int a2]) (n := 3) (Nat.le_of_ble_eq_true rfl)
  rw [lg_entry_eq]
  generalize (lg_sl ([.ref xo, .ref mm, .int a2]) ++ List.replicate (3 - (lg_sl ([.ref xo, .ref mm, .int a2])).length) Slot.unset).toArray = ls at hl ⊢
  have hl : lv_has ls 3 [(0, .ref xo), (1, .ref mm), (2, .int a2)] := hl
  have zm12 : ((-12) : Int32).toInt = -12 := by decide
  have zm11 : ((-11) : Int32).toInt = -11 := by decide
  have zm3 : ((-3) : Int32).toInt = -3 := by decide
  have zm1 : ((-1) : Int32).toInt = -1 := by decide
  have z0 : (0 : Int32).toInt = 0 := by decide
  have z1 : (1 : Int32).toInt = 1 := by decide
  have z2 : (2 : Int32).toInt = 2 := by decide
  have z3 : (3 : Int32).toInt = 3 := by decide
  have z4 : (4 : Int32).toInt = 4 := by decide
  have z5 : (5 : Int32).toInt = 5 := by decide
  refine lv_aload_n hx hb dX11_readRefusal_0 rfl (lv_at hl 1 rfl) ?_
  refine va_get (ci := 4) (v := .ref ml) (C := RX4) (T := TX4) (N := 4) hx hb hts (fun _ h => List.mem_cons_of_mem _ (List.mem_append_left _ (List.mem_append_left _ (List.mem_append_right _ h)))) hown hK.1 hP 2 rfl rfl 2 (by decide) (hts (.fieldLink RX11 321 "CutAtlas$NumberMap" "lengths" "[I") (by decide +kernel)) (fun _ h9 => h9) rfl dX11_readRefusal_1 ?_
  refine lv_iload_n hx hb dX11_readRefusal_4 rfl (lv_at hl 2 rfl) ?_
  have h_1 : vp_in a2 6 := in_I (by omega) (by omega)
  refine va_iald hx hb hK.1 hP 3 0 rfl rfl (i := a2) h_1 dX11_readRefusal_5 ?_
  refine lv_topi (fun y_2 ey_2 => ?_)
  have ry_2 : -9 ≤ y_2.toInt ∧ y_2.toInt ≤ 5 := by rw [ey_2]; exact r_fl _ (in_lt h_1)
  refine lv_if_ge (tgt := 12) hx hb dX11_readRefusal_6 (by decide) (fun c_3 => ?_) (fun c_3 => ?_)
  · have t_3 : (0 : Int32).toInt ≤ y_2.toInt := Int32.le_iff_toInt_le.mp c_3
    refine lv_aload_n hx hb dX11_readRefusal_12 rfl (lv_at hl 1 rfl) ?_
    refine va_get (ci := 4) (v := .ref ml) (C := RX4) (T := TX4) (N := 4) hx hb hts (fun _ h => List.mem_cons_of_mem _ (List.mem_append_left _ (List.mem_append_left _ (List.mem_append_right _ h)))) hown hK.1 hP 2 rfl rfl 2 (by decide) (hts (.fieldLink RX11 321 "CutAtlas$NumberMap" "lengths" "[I") (by decide +kernel)) (fun _ h9 => h9) rfl dX11_readRefusal_13 ?_
    refine lv_iload_n hx hb dX11_readRefusal_16 rfl (lv_at hl 2 rfl) ?_
    have h_4 : vp_in a2 6 := in_I (by omega) (by omega)
    refine va_iald hx hb hK.1 hP 3 0 rfl rfl (i := a2) h_4 dX11_readRefusal_17 ?_
    refine lv_topi (fun y_5 ey_5 => ?_)
    have e_ := (ey_5.trans ey_2.symm).symm
    subst e_
    skip
    refine lv_iconst (v := 5) hx hb dX11_readRefusal_18 (by decide) ?_
    refine lv_icmp_ge (tgt := 25) hx hb dX11_readRefusal_19 (by decide) (fun c_6 => ?_) (fun c_6 => ?_)
    · have t_6 : (5 : Int32).toInt ≤ y_2.toInt := Int32.le_iff_toInt_le.mp c_6
      refine lv_aload_n hx hb dX11_readRefusal_25 rfl (lv_at hl 0 rfl) ?_
      refine lv_aload_n hx hb dX11_readRefusal_26 rfl (lv_at hl 1 rfl) ?_
      refine lv_iload_n hx hb dX11_readRefusal_27 rfl (lv_at hl 2 rfl) ?_
      refine lv_iconst (v := 0) hx hb dX11_readRefusal_28 (by decide) ?_
      refine ct_R hP hD0 [(mm, .inr (4, [.int mk, .int mr, .ref ml, .ref mu])), (mu, .inl (cy 1, 30, .inr (.inl fn)))] [2, 4] (by decide) rfl (fun hPc hDw => ?_)
      have hFc := va_free (wc := []) hD hS hA [] rfl
      refine va_calll (va_runV (As := [.int a2, .int 0]) (rest := [.ref xo]) ⟨hx, hb, hml, hown, hts⟩ (c_X4_number l D cy s.heap.size mm ml mu mk mr fn a2 (0 : Int32) (by first | with_reducible assumption | assumption | omega) (by first | with_reducible assumption | assumption | omega)) (cwV 2 hts gX11_readRefusal_X4_number rfl rfl rfl (by decide +kernel) ⟨Nat.le_of_ble_eq_true rfl, Nat.le_of_ble_eq_true rfl⟩) ⟨bl_, va_recvX hK.1 hP (ci := 4) (q0 := 2) rfl rfl, fun U hU hW => ⟨rfl, by rw [hU], by rw [hU]; exact hPc, kk_mv hW hK, hDw⟩⟩ rfl rfl hl.1 rfl (lv_room (Nat.le_of_ble_eq_true rfl)) dX11_readRefusal_29 ⟨Nat.le_of_ble_eq_true rfl, Nat.le_of_ble_eq_true rfl⟩) hS (fun q _ h => hFc q h) hFc (fun r_7 u t H locs ht hvm hw hB hz1 hk1 hS => ?_)
      have hP : va_P D vwCl _ H := ro_keep hP hk1
      have f0_r_7 := hw
      have nk0 := congrArg Int64.toInt f0_r_7
      refine lv_aload_n hx hb dX11_readRefusal_32 rfl (lv_at hl 1 rfl) ?_
      refine lv_iload_n hx hb dX11_readRefusal_33 rfl (lv_at hl 2 rfl) ?_
      refine lv_iconst (v := 1) hx hb dX11_readRefusal_34 (by decide) ?_
      refine ct_R hP hD0 [(mm, .inr (4, [.int mk, .int mr, .ref ml, .ref mu])), (mu, .inl (cy 1, 30, .inr (.inl fn)))] [2, 4] (by decide) rfl (fun hPc hDw => ?_)
      have hFc := va_free (wc := []) hD hS hA [] rfl
      refine va_calll (va_runV (As := [.int a2, .int 1]) (rest := [.long r_7, .ref xo]) ⟨hx, hb, hml, hown, hts⟩ (c_X4_number l D cy H.size mm ml mu mk mr fn a2 (1 : Int32) (by first | with_reducible assumption | assumption | omega) (by first | with_reducible assumption | assumption | omega)) (cwV 2 hts gX11_readRefusal_X4_number rfl rfl rfl (by decide +kernel) ⟨Nat.le_of_ble_eq_true rfl, Nat.le_of_ble_eq_true rfl⟩) ⟨bl_, va_recvX hK.1 hP (ci := 4) (q0 := 2) rfl rfl, fun U hU hW => ⟨rfl, by rw [hU], by rw [hU]; exact hPc, kk_mv hW hK, hDw⟩⟩ rfl rfl hl.1 rfl (lv_room (Nat.le_of_ble_eq_true rfl)) dX11_readRefusal_35 ⟨Nat.le_of_ble_eq_true rfl, Nat.le_of_ble_eq_true rfl⟩) hS (fun q _ h => hFc q h) hFc (fun r_8 u t H locs ht hvm hw hB hz1 hk1 hS => ?_)
      have hP : va_P D vwCl _ H := ro_keep hP hk1
      have f0_r_8 := hw
      have nk1 := congrArg Int64.toInt f0_r_8
      refine lv_aload_n hx hb dX11_readRefusal_38 rfl (lv_at hl 1 rfl) ?_
      refine lv_iload_n hx hb dX11_readRefusal_39 rfl (lv_at hl 2 rfl) ?_
      refine lv_iconst (v := 2) hx hb dX11_readRefusal_40 (by decide) ?_
      refine ct_R hP hD0 [(mm, .inr (4, [.int mk, .int mr, .ref ml, .ref mu])), (mu, .inl (cy 1, 30, .inr (.inl fn)))] [2, 4] (by decide) rfl (fun hPc hDw => ?_)
      have hFc := va_free (wc := []) hD hS hA [] rfl
      refine va_calll (va_runV (As := [.int a2, .int 2]) (rest := [.long r_8, .long r_7, .ref xo]) ⟨hx, hb, hml, hown, hts⟩ (c_X4_number l D cy H.size mm ml mu mk mr fn a2 (2 : Int32) (by first | with_reducible assumption | assumption | omega) (by first | with_reducible assumption | assumption | omega)) (cwV 2 hts gX11_readRefusal_X4_number rfl rfl rfl (by decide +kernel) ⟨Nat.le_of_ble_eq_true rfl, Nat.le_of_ble_eq_true rfl⟩) ⟨bl_, va_recvX hK.1 hP (ci := 4) (q0 := 2) rfl rfl, fun U hU hW => ⟨rfl, by rw [hU], by rw [hU]; exact hPc, kk_mv hW hK, hDw⟩⟩ rfl rfl hl.1 rfl (lv_room (Nat.le_of_ble_eq_true rfl)) dX11_readRefusal_41 ⟨Nat.le_of_ble_eq_true rfl, Nat.le_of_ble_eq_true rfl⟩) hS (fun q _ h => hFc q h) hFc (fun r_9 u t H locs ht hvm hw hB hz1 hk1 hS => ?_)
      have hP : va_P D vwCl _ H := ro_keep hP hk1
      have f0_r_9 := hw
      have nk2 := congrArg Int64.toInt f0_r_9
      refine lv_aload_n hx hb dX11_readRefusal_44 rfl (lv_at hl 1 rfl) ?_
      refine lv_iload_n hx hb dX11_readRefusal_45 rfl (lv_at hl 2 rfl) ?_
      refine lv_iconst (v := 3) hx hb dX11_readRefusal_46 (by decide) ?_
      refine ct_R hP hD0 [(mm, .inr (4, [.int mk, .int mr, .ref ml, .ref mu])), (mu, .inl (cy 1, 30, .inr (.inl fn)))] [2, 4] (by decide) rfl (fun hPc hDw => ?_)
      have hFc := va_free (wc := []) hD hS hA [] rfl
      refine va_calll (va_runV (As := [.int a2, .int 3]) (rest := [.long r_9, .long r_8, .long r_7, .ref xo]) ⟨hx, hb, hml, hown, hts⟩ (c_X4_number l D cy H.size mm ml mu mk mr fn a2 (3 : Int32) (by first | with_reducible assumption | assumption | omega) (by first | with_reducible assumption | assumption | omega)) (cwV 2 hts gX11_readRefusal_X4_number rfl rfl rfl (by decide +kernel) ⟨Nat.le_of_ble_eq_true rfl, Nat.le_of_ble_eq_true rfl⟩) ⟨bl_, va_recvX hK.1 hP (ci := 4) (q0 := 2) rfl rfl, fun U hU hW => ⟨rfl, by rw [hU], by rw [hU]; exact hPc, kk_mv hW hK, hDw⟩⟩ rfl rfl hl.1 rfl (lv_room (Nat.le_of_ble_eq_true rfl)) dX11_readRefusal_47 ⟨Nat.le_of_ble_eq_true rfl, Nat.le_of_ble_eq_true rfl⟩) hS (fun q _ h => hFc q h) hFc (fun r_10 u t H locs ht hvm hw hB hz1 hk1 hS => ?_)
      have hP : va_P D vwCl _ H := ro_keep hP hk1
      have f0_r_10 := hw
      have nk3 := congrArg Int64.toInt f0_r_10
      refine lv_aload_n hx hb dX11_readRefusal_50 rfl (lv_at hl 1 rfl) ?_
      refine lv_iload_n hx hb dX11_readRefusal_51 rfl (lv_at hl 2 rfl) ?_
      refine lv_iconst (v := 4) hx hb dX11_readRefusal_52 (by decide) ?_
      refine ct_R hP hD0 [(mm, .inr (4, [.int mk, .int mr, .ref ml, .ref mu])), (mu, .inl (cy 1, 30, .inr (.inl fn)))] [2, 4] (by decide) rfl (fun hPc hDw => ?_)
      have hFc := va_free (wc := []) hD hS hA [] rfl
      refine va_calll (va_runVW (W := 16) (As := [.int a2, .int 4]) (rest := [.long r_10, .long r_9, .long r_8, .long r_7, .ref xo]) ⟨hx, hb, hml, hown, hts⟩ (c_X4_number l D cy H.size mm ml mu mk mr fn a2 (4 : Int32) (by first | with_reducible assumption | assumption | omega) (by first | with_reducible assumption | assumption | omega)) (cwV 2 hts gX11_readRefusal_X4_number rfl rfl rfl (by decide +kernel) ⟨Nat.le_of_ble_eq_true rfl, Nat.le_of_ble_eq_true rfl⟩) (Nat.le_of_ble_eq_true rfl) ⟨bl_, va_recvX hK.1 hP (ci := 4) (q0 := 2) rfl rfl, fun U hU hW => ⟨rfl, by rw [hU], by rw [hU]; exact hPc, kk_mv hW hK, hDw⟩⟩ rfl rfl hl.1 rfl (by show 2 * 0 + _ ≤ 16; exact Nat.le_of_ble_eq_true rfl) dX11_readRefusal_53 ⟨Nat.le_of_ble_eq_true rfl, Nat.le_of_ble_eq_true rfl⟩) hS (fun q _ h => hFc q h) hFc (fun r_11 u t H locs ht hvm hw hB hz1 hk1 hS => ?_)
      have hP : va_P D vwCl _ H := ro_keep hP hk1
      have f0_r_11 := hw
      have nk4 := congrArg Int64.toInt f0_r_11
      refine ct_R hP hD0 [(xo, .inr (11, [.ref xk, .ref xn, .ref xc, .ref xh, .ref xt, .ref xw, .ref xm, .ref xp, .int pf, .int ph, .long tr, .int fi])), (xn, .inr (3, [.int vp, .int vn, .ref n1, .ref n2, .ref n3, .ref n4, .ref n5]))] [0, 1] (by decide) rfl (fun hPc hDw => ?_)
      have hFc := va_free (wc := []) hD hS hA [] rfl
      refine va_calli (va_runV (As := [.long r_7, .long r_8, .long r_9, .long r_10, .long r_11]) (rest := []) ⟨hx, hb, hml, hown, hts⟩ (c_X11_lineRefusal l D cy H.size xo xk xn xc xh xt xw xm xp pf ph tr fi n1 n2 n3 n4 n5 vp vn r_7 r_8 r_9 r_10 r_11 (by first | with_reducible assumption | assumption | omega) (by first | with_reducible assumption | assumption | omega)) (cwV 5 hts gX11_readRefusal_X11_lineRefusal rfl rfl rfl (by decide +kernel) ⟨Nat.le_of_ble_eq_true rfl, Nat.le_of_ble_eq_true rfl⟩) ⟨bl_, va_recvX hK.1 hP (ci := 11) (q0 := 0) rfl rfl, fun U hU hW => ⟨rfl, by rw [hU], by rw [hU]; exact hPc, kk_mv hW hK, hDw⟩⟩ rfl rfl hl.1 rfl (lv_room (Nat.le_of_ble_eq_true rfl)) dX11_readRefusal_56 ⟨Nat.le_of_ble_eq_true rfl, Nat.le_of_ble_eq_true rfl⟩) hS (fun q _ h => hFc q h) hFc (fun r_12 u t H locs ht hvm hw hB hz1 hk1 hS => ?_)
      have hP : va_P D vwCl _ H := ro_keep hP hk1
      rcases hw with ⟨w_13, e_⟩ | ⟨w_13, e_⟩ | ⟨w_13, e_⟩
      · have e_ := e_.symm
        subst e_
        rw [hQ]
        exact W.iret (v := (-1)) hx hb hr (fun t ht hW => ⟨⟨(-1), (), rfl, (by omega), trivial⟩, hS.F ht⟩) hS.2.2 dX11_readRefusal_59
      · have e_ := e_.symm
        subst e_
        rw [hQ]
        exact W.iret (v := (-3)) hx hb hr (fun t ht hW => ⟨⟨(-3), (), rfl, (by omega), trivial⟩, hS.F ht⟩) hS.2.2 dX11_readRefusal_59
      · have e_ := e_.symm
        subst e_
        rw [hQ]
        exact W.iret (v := 0) hx hb hr (fun t ht hW => ⟨⟨0, (), rfl, (by omega), trivial⟩, hS.F ht⟩) hS.2.2 dX11_readRefusal_59
    · have t_6 : ¬ (5 : Int32).toInt ≤ y_2.toInt := fun h => c_6 (Int32.le_iff_toInt_le.mpr h)
      refine lv_bipush (v := (-12)) hx hb dX11_readRefusal_22 (by decide) ?_
      rw [hQ]
      exact W.iret (v := (-12)) hx hb hr (fun t ht hW => ⟨⟨(-12), (), rfl, (by omega), trivial⟩, hS.F ht⟩) hS.2.2 dX11_readRefusal_24
  · have t_3 : ¬ (0 : Int32).toInt ≤ y_2.toInt := fun h => c_3 (Int32.le_iff_toInt_le.mpr h)
    refine lv_bipush (v := (-11)) hx hb dX11_readRefusal_9 (by decide) ?_
    rw [hQ]
    exact W.iret (v := (-11)) hx hb hr (fun t ht hW => ⟨⟨(-11), (), rfl, (by omega), trivial⟩, hS.F ht⟩) hS.2.2 dX11_readRefusal_11
