noncomputable def bt (x : Int32) (i : Nat) : Bool := x.toBitVec.getLsbD i
theorem b_or (x y : Int32) (i : Nat) : bt (x ||| y) i = (bt x i || bt y i) := by unfold bt; rw [Int32.toBitVec_or, BitVec.getLsbD_or]
theorem b_and (x y : Int32) (i : Nat) : bt (x &&& y) i = (bt x i && bt y i) := by unfold bt; rw [Int32.toBitVec_and, BitVec.getLsbD_and]
theorem s_l : ∀ n, n < 32 → ((nI n &&& 31).toBitVec.smod 32).toNat = n := by decide +kernel
theorem b_shl (n : Nat) (hn : n < 32) (x : Int32) {i : Nat} (hi : i < 32) : bt (x <<< (nI n &&& 31)) i = (decide (n ≤ i) && bt x (i - n)) := by
  unfold bt
  rw [Int32.toBitVec_shiftLeft]
  show (x.toBitVec <<< ((nI n &&& 31).toBitVec.smod 32).toNat).getLsbD i = _
  rw [s_l n hn, BitVec.getLsbD_shiftLeft]
  rcases Nat.lt_or_ge i n with h | h
  · simp [h, Nat.not_le.mpr h]
  · simp [hi, h, Nat.not_lt.mpr h]
theorem b_sshr (n : Nat) (hn : n < 32) (x : Int32) {i : Nat} (hi : i < 32) : bt (x >>> (nI n &&& 31)) i = if n + i < 32 then bt x (n + i) else bt x 31 := by
  unfold bt
  rw [Int32.toBitVec_shiftRight]
  show (x.toBitVec.sshiftRight ((nI n &&& 31).toBitVec.smod 32).toNat).getLsbD i = _
  rw [s_l n hn, BitVec.getLsbD_sshiftRight, BitVec.msb_eq_getLsbD_last]
  simp [hi]
theorem nI_cl {y : Int32} (h0 : 0 ≤ y.toInt) : y = nI y.toNatClampNeg := by
  obtain ⟨j, hj, rfl⟩ := nI_of (x := y) (fun h => by
    have := Int32.lt_iff_toInt_lt.mp h
    have z : (0 : Int32).toInt = 0 := by decide
    omega)
  have e := nI_toInt hj
  have c := clI (i := nI j) (by omega)
  have : (nI j).toNatClampNeg = j := by omega
  rw [this]
theorem bt_one {y : Int32} (h0 : 0 ≤ y.toInt) (h1 : y.toInt ≤ 11) : bt ((1 : Int32) <<< (y &&& 31)) y.toNatClampNeg = true := by
  have c := clI (i := y) h0
  have e := nI_cl h0
  have b := b_shl y.toNatClampNeg (by omega) 1 (i := y.toNatClampNeg) (by omega)
  rw [← e] at b
  rw [b, Nat.sub_self]
  simp
  decide
theorem bt_zero {x y z w : Int32} (h0 : 0 ≤ y.toInt) (h1 : y.toInt ≤ 11) (ez : z = x >>> (y &&& 31)) (ew : w = z &&& 1) (hw : w.toInt = 0) : bt x y.toNatClampNeg = false := by
  have c := clI (i := y) h0
  have e := nI_cl h0
  have b := b_sshr y.toNatClampNeg (by omega) x (i := 0) (by omega)
  rw [← e, ← ez, if_pos (by omega), Nat.add_zero] at b
  have w0 : w = 0 := Int32.toInt_inj.mp (by rw [hw]; decide)
  have b2 := b_and z 1 0
  rw [← ew, w0, b] at b2
  have o : bt 1 0 = true := by decide
  have o2 : bt 0 0 = false := by decide
  rw [o, o2, Bool.and_true] at b2
  exact b2.symm
/-- the class's searches: the places in the queue are met, and no two are the same -/
noncomputable def mq (x : Int32) (q : Nat → Int32) (n : Nat) : Prop := ∀ i : Nat, i < n → (0 ≤ (q i).toInt ∧ (q i).toInt ≤ 11) ∧ bt x (q i).toNatClampNeg = true ∧ ∀ j : Nat, j < i → (q j).toInt ≠ (q i).toInt
theorem mq_one {x s : Int32} {q f : Nat → Int32} (e : f = upd q (0 : Int32).toNatClampNeg s) (ex : x = (1 : Int32) <<< (s &&& 31)) (h0 : 0 ≤ s.toInt) (h1 : s.toInt ≤ 11) : mq x f 1 := fun i hi => by
  obtain rfl : i = 0 := by omega
  have e0 : f 0 = s := by
    rw [e]
    exact pk_us
  rw [e0]
  refine ⟨⟨h0, h1⟩, ?_, fun j hj => by omega⟩
  rw [ex]
  exact bt_one h0 h1
theorem mq_new {x y z w : Int32} {q : Nat → Int32} {n : Nat} (h : mq x q n) (h0 : 0 ≤ y.toInt) (h1 : y.toInt ≤ 11) (ez : z = x >>> (y &&& 31)) (ew : w = z &&& 1) (hw : w.toInt = 0) : ∀ i : Nat, i < n → (q i).toInt ≠ y.toInt := fun i hi e => by
  have b := bt_zero h0 h1 ez ew hw
  have a := (h i hi).2.1
  have e2 : q i = y := Int32.toInt_inj.mp e
  rw [e2, b] at a
  cases a
theorem mq_room {x y z w m : Int32} {q : Nat → Int32} (h : mq x q m.toNatClampNeg) (h0 : 0 ≤ y.toInt) (h1 : y.toInt ≤ 11) (ez : z = x >>> (y &&& 31)) (ew : w = z &&& 1) (hw : w.toInt = 0) (hm : 0 ≤ m.toInt) : m.toInt < 12 := by
  have hn := mq_new h h0 h1 ez ew hw
  have c := clI (i := m) hm
  have := pigeon 12 (m.toNatClampNeg + 1) (fun i => if i < m.toNatClampNeg then (q i).toInt else y.toInt) (fun i hi => by
    try dsimp only
    by_cases hk : i < m.toNatClampNeg
    · rw [if_pos hk]
      have := (h i hk).1
      omega
    · rw [if_neg hk]
      omega) (fun i j hij hj => by
    try dsimp only
    by_cases hk : j < m.toNatClampNeg
    · rw [if_pos hk, if_pos (by omega)]
      exact (h j hk).2.2 i hij
    · rw [if_neg hk, if_pos (by omega)]
      exact hn i (by omega))
  omega
theorem mq_push {x x2 y z w m m2 b : Int32} {q q2 : Nat → Int32} (h : mq x q m.toNatClampNeg) (h0 : 0 ≤ y.toInt) (h1 : y.toInt ≤ 11) (ez : z = x >>> (y &&& 31)) (ew : w = z &&& 1) (hw : w.toInt = 0) (hm : 0 ≤ m.toInt) (eb : b = (1 : Int32) <<< (y &&& 31)) (ex : x2 = x ||| b) (eq : q2 = upd q m.toNatClampNeg y) (em : m2.toInt = m.toInt + 1) : mq x2 q2 m2.toNatClampNeg := by
  have hn := mq_new h h0 h1 ez ew hw
  have c := clI (i := m) hm
  have c2 := clI (i := m2) (by omega)
  have en : m2.toNatClampNeg = m.toNatClampNeg + 1 := by omega
  rw [en]
  intro i hi
  by_cases hk : i < m.toNatClampNeg
  · have e : ∀ j : Nat, j < m.toNatClampNeg → q2 j = q j := fun j hj => by
      rw [eq]
      exact pk_un (by omega)
    rw [e i hk]
    obtain ⟨a1, a2, a3⟩ := h i hk
    refine ⟨a1, ?_, fun j hj => ?_⟩
    · rw [ex, b_or, a2]
      rfl
    · rw [e j (by omega)]
      exact a3 j hj
  · obtain rfl : i = m.toNatClampNeg := by omega
    have e1 : q2 m.toNatClampNeg = y := by
      rw [eq]
      exact pk_us
    rw [e1]
    refine ⟨⟨h0, h1⟩, ?_, fun j hj => ?_⟩
    · rw [ex, b_or, eb, bt_one h0 h1, Bool.or_true]
    · rw [eq, pk_un (by omega)]
      exact hn j hj
theorem sp_12 {x : Int32} (h : 0 ≤ x.toInt ∧ x.toInt ≤ 11) : x = 0 ∨ x = 1 ∨ x = 2 ∨ x = 3 ∨ x = 4 ∨ x = 5 ∨ x = 6 ∨ x = 7 ∨ x = 8 ∨ x = 9 ∨ x = 10 ∨ x = 11 := by
  have h1 : x.toInt = 0 ∨ x.toInt = 1 ∨ x.toInt = 2 ∨ x.toInt = 3 ∨ x.toInt = 4 ∨ x.toInt = 5 ∨ x.toInt = 6 ∨ x.toInt = 7 ∨ x.toInt = 8 ∨ x.toInt = 9 ∨ x.toInt = 10 ∨ x.toInt = 11 := by omega
  rcases h1 with h | h | h | h | h | h | h | h | h | h | h | h
  · exact Or.inl (Int32.toInt_inj.mp h)
  · exact Or.inr (Or.inl (Int32.toInt_inj.mp h))
  · exact Or.inr (Or.inr (Or.inl (Int32.toInt_inj.mp h)))
  · exact Or.inr (Or.inr (Or.inr (Or.inl (Int32.toInt_inj.mp h))))
  · exact Or.inr (Or.inr (Or.inr (Or.inr (Or.inl (Int32.toInt_inj.mp h)))))
  · exact Or.inr (Or.inr (Or.inr (Or.inr (Or.inr (Or.inl (Int32.toInt_inj.mp h))))))
  · exact Or.inr (Or.inr (Or.inr (Or.inr (Or.inr (Or.inr (Or.inl (Int32.toInt_inj.mp h)))))))
  · exact Or.inr (Or.inr (Or.inr (Or.inr (Or.inr (Or.inr (Or.inr (Or.inl (Int32.toInt_inj.mp h))))))))
  · exact Or.inr (Or.inr (Or.inr (Or.inr (Or.inr (Or.inr (Or.inr (Or.inr (Or.inl (Int32.toInt_inj.mp h)))))))))
  · exact Or.inr (Or.inr (Or.inr (Or.inr (Or.inr (Or.inr (Or.inr (Or.inr (Or.inr (Or.inl (Int32.toInt_inj.mp h))))))))))
  · exact Or.inr (Or.inr (Or.inr (Or.inr (Or.inr (Or.inr (Or.inr (Or.inr (Or.inr (Or.inr (Or.inl (Int32.toInt_inj.mp h)))))))))))
  · exact Or.inr (Or.inr (Or.inr (Or.inr (Or.inr (Or.inr (Or.inr (Or.inr (Or.inr (Or.inr (Or.inr (Int32.toInt_inj.mp h)))))))))))

set_option maxHeartbeats 4000000 in
set_option maxRecDepth 100000 in
theorem c_X0_findWay (l : Launch) (D : va_G) (cy : Nat → ClassId) (sz : Nat) (xc : Nat) (xk : Nat) (clo : Nat) (cro : Nat) (c4 : Nat) (c5 : Nat) (c6 : Nat) (c7 : Nat) (c8 : Nat) (xn : Nat) (n1 : Nat) (n2 : Nat) (n3 : Nat) (n4 : Nat) (n5 : Nat) (vp : Int32) (vn : Int32) (rr : Nat → Nat) (Mr : Nat → Nat → Int32) (f7 : Nat → Int32) (f8 : Nat → Int32) (a1 : Int32) (a2 : Int32) (hvp : 0 ≤ vp.toInt ∧ vp.toInt ≤ 12) (q1 : 0 ≤ a1.toInt ∧ a1.toInt ≤ 11) (q2 : 0 ≤ a2.toInt ∧ a2.toInt ≤ 11) (r_f7 : rng f7 12 (0) (11)) (r_f8 : rng f8 12 (0) (11)) : Met l yX0_findWay wsX0_findWay ({ frames := 0, cells := 0, slots := 0, locals := 0 }) (va_Pc [.ref xc, .int a1, .int a2] (fun U => U.heap.size = sz ∧ va_P D vwCl [ob0_0_ xc xn xk clo cro c4 c5 c6 c7 c8, ob3_0_ xn vp vn n1 n2 n3 n4 n5, aq_ cy 6 cro 12 (gf_ rr), ai_ cy (rr 0) 12 (Mr 0), ai_ cy (rr 1) 12 (Mr 1), ai_ cy (rr 2) 12 (Mr 2), ai_ cy (rr 3) 12 (Mr 3), ai_ cy (rr 4) 12 (Mr 4), ai_ cy (rr 5) 12 (Mr 5), ai_ cy (rr 6) 12 (Mr 6), ai_ cy (rr 7) 12 (Mr 7), ai_ cy (rr 8) 12 (Mr 8), ai_ cy (rr 9) 12 (Mr 9), ai_ cy (rr 10) 12 (Mr 10), ai_ cy (rr 11) 12 (Mr 11), ai_ cy c7 12 f7, ai_ cy c8 12 f8] U.heap ∧ kg_ D cy U ∧ va_D (fun _ => True) [ob0_0_ xc xn xk clo cro c4 c5 c6 c7 c8, ob3_0_ xn vp vn n1 n2 n3 n4 n5, aq_ cy 6 cro 12 (gf_ rr), ai_ cy (rr 0) 12 (Mr 0), ai_ cy (rr 1) 12 (Mr 1), ai_ cy (rr 2) 12 (Mr 2), ai_ cy (rr 3) 12 (Mr 3), ai_ cy (rr 4) 12 (Mr 4), ai_ cy (rr 5) 12 (Mr 5), ai_ cy (rr 6) 12 (Mr 6), ai_ cy (rr 7) 12 (Mr 7), ai_ cy (rr 8) 12 (Mr 8), ai_ cy (rr 9) 12 (Mr 9), ai_ cy (rr 10) 12 (Mr 10), ai_ cy (rr 11) 12 (Mr 11), ai_ cy c7 12 f7, ai_ cy c8 12 f8])) (va_Qi (fun (r : Int32) (_ : Unit) => (r.toInt = 0 ∨ r.toInt = 1)) (fun (_ : Unit) (t : State) => ∃ (e7 : Nat → Int32), ∃ (e8 : Nat → Int32), (rng e7 12 (0) (11)) ∧ (rng e8 12 (0) (11)) ∧ va_P D vwCl [ob0_0_ xc xn xk clo cro c4 c5 c6 c7 c8, ob3_0_ xn vp vn n1 n2 n3 n4 n5, aq_ cy 6 cro 12 (gf_ rr), ai_ cy (rr 0) 12 (Mr 0), ai_ cy (rr 1) 12 (Mr 1), ai_ cy (rr 2) 12 (Mr 2), ai_ cy (rr 3) 12 (Mr 3), ai_ cy (rr 4) 12 (Mr 4), ai_ cy (rr 5) 12 (Mr 5), ai_ cy (rr 6) 12 (Mr 6), ai_ cy (rr 7) 12 (Mr 7), ai_ cy (rr 8) 12 (Mr 8), ai_ cy (rr 9) 12 (Mr 9), ai_ cy (rr 10) 12 (Mr 10), ai_ cy (rr 11) 12 (Mr 11), ai_ cy c7 12 e7, ai_ cy c8 12 e8] t.heap ∧ va_D (va_A [ob0_0_ xc xn xk clo cro c4 c5 c6 c7 c8, ob3_0_ xn vp vn n1 n2 n3 n4 n5, aq_ cy 6 cro 12 (gf_ rr), ai_ cy (rr 0) 12 (Mr 0), ai_ cy (rr 1) 12 (Mr 1), ai_ cy (rr 2) 12 (Mr 2), ai_ cy (rr 3) 12 (Mr 3), ai_ cy (rr 4) 12 (Mr 4), ai_ cy (rr 5) 12 (Mr 5), ai_ cy (rr 6) 12 (Mr 6), ai_ cy (rr 7) 12 (Mr 7), ai_ cy (rr 8) 12 (Mr 8), ai_ cy (rr 9) 12 (Mr 9), ai_ cy (rr 10) 12 (Mr 10), ai_ cy (rr 11) 12 (Mr 11), ai_ cy c7 12 f7, ai_ cy c8 12 f8] sz) [ob0_0_ xc xn xk clo cro c4 c5 c6 c7 c8, ob3_0_ xn vp vn n1 n2 n3 n4 n5, aq_ cy 6 cro 12 (gf_ rr), ai_ cy (rr 0) 12 (Mr 0), ai_ cy (rr 1) 12 (Mr 1), ai_ cy (rr 2) 12 (Mr 2), ai_ cy (rr 3) 12 (Mr 3), ai_ cy (rr 4) 12 (Mr 4), ai_ cy (rr 5) 12 (Mr 5), ai_ cy (rr 6) 12 (Mr 6), ai_ cy (rr 7) 12 (Mr 7), ai_ cy (rr 8) 12 (Mr 8), ai_ cy (rr 9) 12 (Mr 9), ai_ cy (rr 10) 12 (Mr 10), ai_ cy (rr 11) 12 (Mr 11), ai_ cy c7 12 e7, ai_ cy c8 12 e8]) (va_A [ob0_0_ xc xn xk clo cro c4 c5 c6 c7 c8, ob3_0_ xn vp vn n1 n2 n3 n4 n5, aq_ cy 6 cro 12 (gf_ rr), ai_ cy (rr 0) 12 (Mr 0), ai_ cy (rr 1) 12 (Mr 1), ai_ cy (rr 2) 12 (Mr 2), ai_ cy (rr 3) 12 (Mr 3), ai_ cy (rr 4) 12 (Mr 4), ai_ cy (rr 5) 12 (Mr 5), ai_ cy (rr 6) 12 (Mr 6), ai_ cy (rr 7) 12 (Mr 7), ai_ cy (rr 8) 12 (Mr 8), ai_ cy (rr 9) 12 (Mr 9), ai_ cy (rr 10) 12 (Mr 10), ai_ cy (rr 11) 12 (Mr 11), ai_ cy c7 12 f7, ai_ cy c8 12 f8] sz)) 0 0 (va_A [ob0_0_ xc xn xk clo cro c4 c5 c6 c7 c8, ob3_0_ xn vp vn n1 n2 n3 n4 n5, aq_ cy 6 cro 12 (gf_ rr), ai_ cy (rr 0) 12 (Mr 0), ai_ cy (rr 1) 12 (Mr 1), ai_ cy (rr 2) 12 (Mr 2), ai_ cy (rr 3) 12 (Mr 3), ai_ cy (rr 4) 12 (Mr 4), ai_ cy (rr 5) 12 (Mr 5), ai_ cy (rr 6) 12 (Mr 6), ai_ cy (rr 7) 12 (Mr 7), ai_ cy (rr 8) 12 (Mr 8), ai_ cy (rr 9) 12 (Mr 9), ai_ cy (rr 10) 12 (Mr 10), ai_ cy (rr 11) 12 (Mr 11), ai_ cy c7 12 f7, ai_ cy c8 12 f8] sz) := by
  refine ofQ (cc := cX0_findWay) (maxL := 8) (ret := (some .boolean)) (by decide) rfl ?_
  intro p e s m args below meth c s₁ Q hQ B hml hv
  obtain ⟨rfl, hsz, hP, hK, hD0⟩ := hv
  have hG := hK.2
  have hK := hK.1
  have hx := B.exec
  have hb := B.bytes
  have hr := B.returns
  have hts := atoms_spec (ws := wsX0_findWay) B.pre
  have hown : s.vm.findClass RX0 = some m.cls := by have h_ := findClass_of_methodNamed B.named; exact h_
  have hlocks := B.notSynchronized
  subst hsz
  have hD := hD0.self (sz := s.heap.size)
  generalize hAe : va_A [ob0_0_ xc xn xk clo cro c4 c5 c6 c7 c8, ob3_0_ xn vp vn n1 n2 n3 n4 n5, aq_ cy 6 cro 12 (gf_ rr), ai_ cy (rr 0) 12 (Mr 0), ai_ cy (rr 1) 12 (Mr 1), ai_ cy (rr 2) 12 (Mr 2), ai_ cy (rr 3) 12 (Mr 3), ai_ cy (rr 4) 12 (Mr 4), ai_ cy (rr 5) 12 (Mr 5), ai_ cy (rr 6) 12 (Mr 6), ai_ cy (rr 7) 12 (Mr 7), ai_ cy (rr 8) 12 (Mr 8), ai_ cy (rr 9) 12 (Mr 9), ai_ cy (rr 10) 12 (Mr 10), ai_ cy (rr 11) 12 (Mr 11), ai_ cy c7 12 f7, ai_ cy c8 12 f8] s.heap.size = A at hD hQ
  have hA : ∀ q : Nat, s.heap.size ≤ q → A q := fun q h => by rw [← hAe]; exact Or.inr h
  have hS : va_S A s.heap s.heap [] := va_S.rf
  have hl := lv_entry ([.ref xc, .int a1, .int a2]) (n := 8) (Nat.le_of_ble_eq_true rfl)
  rw [lg_entry_eq]
  generalize (lg_sl ([.ref xc, .int a1, .int a2]) ++ List.replicate (8 - (lg_sl ([.ref xc, .int a1, .int a2])).length) Slot.unset).toArray = ls at hl ⊢
  have hl : lv_has ls 8 [(0, .ref xc), (1, .int a1), (2, .int a2)] := hl
  have z0 : (0 : Int32).toInt = 0 := by decide
  have z1 : (1 : Int32).toInt = 1 := by decide
  have z12 : (12 : Int32).toInt = 12 := by decide
  refine lv_iconst (v := 1) hx hb dB_36_0_8.1.1.1.1 (by decide) ?_
  refine lv_iload_n hx hb dB_36_0_8.1.1.1.2 rfl (lv_at hl 1 rfl) ?_
  refine lv_ishl hx hb dB_36_0_8.1.1.2.1 ?_
  refine lv_topi (fun y_1 ey_1 => ?_)
  refine lv_istore_n (lv' := [(3, .int y_1), (0, .ref xc), (1, .int a1), (2, .int a2)]) hx hb dB_36_0_8.1.1.2.2 rfl hl (by decide) rfl (fun ls hl => ?_)
  refine lv_iconst (v := 1) hx hb dB_36_0_8.1.2.1.1 (by decide) ?_
  refine lv_istore (lv' := [(4, .int 1), (3, .int y_1), (0, .ref xc), (1, .int a1), (2, .int a2)]) hx hb dB_36_0_8.1.2.1.2 hl (by decide) rfl (fun ls hl => ?_)
  refine lv_aload_n hx hb dB_36_0_8.1.2.2.1 rfl (lv_at hl 2 rfl) ?_
  refine va_get (ci := 0) (v := .ref c7) (C := RX0) (T := TX0) (N := 9) hx hb hts (fun _ h => List.mem_cons_of_mem _ (List.mem_append_left _ (List.mem_append_right _ h))) hown hK.1 hP 0 rfl rfl 7 (by decide) (hts (.fieldLink RX0 29 "CutAtlas$Current" "queue" "[I") (List.mem_of_getElem? (i := 1) rfl)) (fun _ h9 => h9) rfl dB_36_0_8.1.2.2.2 ?_
  refine lv_iconst (v := 0) hx hb dB_36_0_8.2.1.1.1 (by decide) ?_
  refine lv_iload_n hx hb dB_36_0_8.2.1.1.2 rfl (lv_at hl 3 rfl) ?_
  have h_2 : vp_in (0 : Int32) 12 := by unfold vp_in; decide
  refine va_iast hx hb hK.1 hP hD hS 15 0 rfl rfl (i := 0) h_2 dB_36_0_8.2.1.2.1 (fun H locs hP hD hS => ?_)
  obtain ⟨f_3, ef_3⟩ : ∃ g : Nat → Int32, g = upd f7 (0 : Int32).toNatClampNeg a1 := ⟨_, rfl⟩
  refine pd_K (D := D) (cl := vwCl) (H := H) (A := A) [ob0_0_ xc xn xk clo cro c4 c5 c6 c7 c8, ob3_0_ xn vp vn n1 n2 n3 n4 n5, aq_ cy 6 cro 12 (gf_ rr), ai_ cy (rr 0) 12 (Mr 0), ai_ cy (rr 1) 12 (Mr 1), ai_ cy (rr 2) 12 (Mr 2), ai_ cy (rr 3) 12 (Mr 3), ai_ cy (rr 4) 12 (Mr 4), ai_ cy (rr 5) 12 (Mr 5), ai_ cy (rr 6) 12 (Mr 6), ai_ cy (rr 7) 12 (Mr 7), ai_ cy (rr 8) 12 (Mr 8), ai_ cy (rr 9) 12 (Mr 9), ai_ cy (rr 10) 12 (Mr 10), ai_ cy (rr 11) 12 (Mr 11), ai_ cy c7 12 f_3, ai_ cy c8 12 f8] (by rw [ef_3]; exact hP) (by rw [ef_3]; exact hD) (fun hP hD => ?_)
  have rf_3 : rng f_3 12 (0) (11) := by rw [ef_3]; exact rng_upd r_f7 (by omega) (by omega)
  have hq_ : mq y_1 f_3 (1 : Int32).toNatClampNeg := mq_one (by assumption) (by assumption) (by omega) (by omega)
  refine lv_iconst (v := 0) hx hb dB_36_0_8.2.1.2.2 (by decide) ?_
  refine lv_istore (lv' := [(5, .int 0), (4, .int 1), (3, .int y_1), (0, .ref xc), (1, .int a1), (2, .int a2)]) hx hb dB_36_0_8.2.2.1.1 hl (by decide) rfl (fun ls hl => ?_)
  suffices LOOP_4 : ∀ (n_4 : Nat) (x5_4 : Int32) (x4_4 : Int32) (x3_4 : Int32) (c_c7_4 : Nat → Int32) (c_c8_4 : Nat → Int32) (H : Heap) (locs : List Loc) (ls : Array Slot), 12 - x5_4.toInt < (n_4 : Int) → (1 ≤ x4_4.toInt) → (x4_4.toInt ≤ 12) → (0 ≤ x5_4.toInt) → (x5_4.toInt ≤ 12) → (mq x3_4 c_c7_4 x4_4.toNatClampNeg) → (rng c_c7_4 12 (0) (11)) → (rng c_c8_4 12 (0) (11)) → pd_2 D vwCl A [ob0_0_ xc xn xk clo cro c4 c5 c6 c7 c8, ob3_0_ xn vp vn n1 n2 n3 n4 n5, aq_ cy 6 cro 12 (gf_ rr), ai_ cy (rr 0) 12 (Mr 0), ai_ cy (rr 1) 12 (Mr 1), ai_ cy (rr 2) 12 (Mr 2), ai_ cy (rr 3) 12 (Mr 3), ai_ cy (rr 4) 12 (Mr 4), ai_ cy (rr 5) 12 (Mr 5), ai_ cy (rr 6) 12 (Mr 6), ai_ cy (rr 7) 12 (Mr 7), ai_ cy (rr 8) 12 (Mr 8), ai_ cy (rr 9) 12 (Mr 9), ai_ cy (rr 10) 12 (Mr 10), ai_ cy (rr 11) 12 (Mr 11), ai_ cy c7 12 c_c7_4, ai_ cy c8 12 c_c8_4] H → va_S A s.heap H locs → lv_has ls 8 [(5, .int x5_4), (4, .int x4_4), (3, .int x3_4), (0, .ref xc), (1, .int a1), (2, .int a2)] → W p l e ({ frames := 0, cells := 0, slots := 0, locals := 0 } : Room) s m (([.ref xc, .int a1, .int a2] : List Value).toArray) below meth c H locs 0 0 Q (F0 m 17 ls []) from LOOP_4 ((12 - (0 : Int32).toInt).toNat + 1) (0 : Int32) (1 : Int32) y_1 f_3 f8 _ _ _ (by omega) (by first | with_reducible assumption | omega | assumption) (by first | with_reducible assumption | omega | assumption) (by first | with_reducible assumption | omega | assumption) (by first | with_reducible assumption | omega | assumption) (by first | with_reducible assumption | assumption | omega) (by first | with_reducible assumption | assumption | exact rng_zero (by omega) (by omega) | exact orng_zero) (by first | with_reducible assumption | assumption | exact rng_zero (by omega) (by omega) | exact orng_zero) ⟨hP, hD⟩ hS (lv_sub hl [0, 1, 2, 3, 4, 5] rfl)
  intro n_4
  induction n_4 with
  | zero =>
    intro x5_4 x4_4 x3_4 c_c7_4 c_c8_4 H locs ls hm v0_4 v1_4 v2_4 v3_4 v4_4 rc_c7_4 rc_c8_4 hPD hS hl; obtain ⟨hP, hD⟩ := hPD
    exact absurd hm (by omega)
  | succ n_4 ih_4 =>
    intro x5_4 x4_4 x3_4 c_c7_4 c_c8_4 H locs ls hm v0_4 v1_4 v2_4 v3_4 v4_4 rc_c7_4 rc_c8_4 hPD hS hl; obtain ⟨hP, hD⟩ := hPD
    refine lv_iload hx hb dB_36_0_8.2.2.1.2 (lv_at hl 0 rfl) ?_
    refine lv_iload hx hb dB_36_0_8.2.2.2.1 (lv_at hl 1 rfl) ?_
    refine lv_icmp_ge (tgt := 125) hx hb dB_36_0_8.2.2.2.2 (by decide) (fun c_5 => ?_) (fun c_5 => ?_)
    · have t_5 : x4_4.toInt ≤ x5_4.toInt := Int32.le_iff_toInt_le.mp c_5
      refine lv_iconst (v := 0) hx hb dB_36_0_12.2.2.1 (by decide) ?_
      rw [hQ]
      exact W.zret (ty := .boolean) (v := 0) hx hb hr (by decide) (fun t ht hW => ⟨⟨0, (), rfl, (by omega), c_c7_4, c_c8_4, (by first | with_reducible assumption | assumption | exact rng_zero (by omega) (by omega) | omega), (by first | with_reducible assumption | assumption | exact rng_zero (by omega) (by omega) | omega), by rw [ht]; exact hP, hD⟩, hS.F ht⟩) hS.2.2 dB_36_0_12.2.2.2
    · have t_5 : ¬ x4_4.toInt ≤ x5_4.toInt := fun h => c_5 (Int32.le_iff_toInt_le.mpr h)
      refine lv_iload hx hb dB_36_0_9.1.1.1.1 (lv_at hl 0 rfl) ?_
      refine lv_bipush (v := 12) hx hb dB_36_0_9.1.1.1.2 (by decide) ?_
      refine lv_icmp_ge (tgt := 125) hx hb dB_36_0_9.1.1.2.1 (by decide) (fun c_6 => ?_) (fun c_6 => ?_)
      · have t_6 : (12 : Int32).toInt ≤ x5_4.toInt := Int32.le_iff_toInt_le.mp c_6
        refine lv_iconst (v := 0) hx hb dB_36_0_12.2.2.1 (by decide) ?_
        rw [hQ]
        exact W.zret (ty := .boolean) (v := 0) hx hb hr (by decide) (fun t ht hW => ⟨⟨0, (), rfl, (by omega), c_c7_4, c_c8_4, (by first | with_reducible assumption | assumption | exact rng_zero (by omega) (by omega) | omega), (by first | with_reducible assumption | assumption | exact rng_zero (by omega) (by omega) | omega), by rw [ht]; exact hP, hD⟩, hS.F ht⟩) hS.2.2 dB_36_0_12.2.2.2
      · have t_6 : ¬ (12 : Int32).toInt ≤ x5_4.toInt := fun h => c_6 (Int32.le_iff_toInt_le.mpr h)
        refine lv_aload_n hx hb dB_36_0_9.1.1.2.2 rfl (lv_at hl 3 rfl) ?_
        refine va_get (ci := 0) (v := .ref c7) (C := RX0) (T := TX0) (N := 9) hx hb hts (fun _ h => List.mem_cons_of_mem _ (List.mem_append_left _ (List.mem_append_right _ h))) hown hK.1 hP 0 rfl rfl 7 (by decide) (hts (.fieldLink RX0 29 "CutAtlas$Current" "queue" "[I") (List.mem_of_getElem? (i := 1) rfl)) (fun _ h9 => h9) rfl dB_36_0_9.1.2.1.1 ?_
        refine lv_iload hx hb dB_36_0_9.1.2.1.2 (lv_at hl 0 rfl) ?_
        have h_7 : vp_in x5_4 12 := in_I (by first | with_reducible assumption | omega) (by omega)
        refine va_iald hx hb hK.1 hP 15 0 rfl rfl (i := x5_4) h_7 dB_36_0_9.1.2.2.1 ?_
        refine lv_topi (fun y_8 ey_8 => ?_)
        have ry_8 : 0 ≤ y_8.toInt ∧ y_8.toInt ≤ 11 := by rw [ey_8]; exact rc_c7_4 _ (in_lt h_7)
        refine lv_istore (lv' := [(6, .int y_8), (5, .int x5_4), (4, .int x4_4), (3, .int x3_4), (0, .ref xc), (1, .int a1), (2, .int a2)]) hx hb dB_36_0_9.1.2.2.2 hl (by decide) rfl (fun ls hl => ?_)
        refine lv_iconst (v := 0) hx hb dB_36_0_9.2.1.1.1 (by decide) ?_
        refine lv_istore (lv' := [(7, .int 0), (6, .int y_8), (5, .int x5_4), (4, .int x4_4), (3, .int x3_4), (0, .ref xc), (1, .int a1), (2, .int a2)]) hx hb dB_36_0_9.2.1.1.2 hl (by decide) rfl (fun ls hl => ?_)
        suffices LOOP_9 : ∀ (n_9 : Nat) (x7_9 : Int32) (x4_9 : Int32) (x3_9 : Int32) (c_c7_9 : Nat → Int32) (c_c8_9 : Nat → Int32) (H : Heap) (locs : List Loc) (ls : Array Slot), vp.toInt - x7_9.toInt < (n_9 : Int) → (1 ≤ x4_9.toInt) → (x4_9.toInt ≤ 12) → (0 ≤ x7_9.toInt) → (x7_9.toInt ≤ vp.toInt) → (mq x3_9 c_c7_9 x4_9.toNatClampNeg) → (rng c_c7_9 12 (0) (11)) → (rng c_c8_9 12 (0) (11)) → pd_2 D vwCl A [ob0_0_ xc xn xk clo cro c4 c5 c6 c7 c8, ob3_0_ xn vp vn n1 n2 n3 n4 n5, aq_ cy 6 cro 12 (gf_ rr), ai_ cy (rr 0) 12 (Mr 0), ai_ cy (rr 1) 12 (Mr 1), ai_ cy (rr 2) 12 (Mr 2), ai_ cy (rr 3) 12 (Mr 3), ai_ cy (rr 4) 12 (Mr 4), ai_ cy (rr 5) 12 (Mr 5), ai_ cy (rr 6) 12 (Mr 6), ai_ cy (rr 7) 12 (Mr 7), ai_ cy (rr 8) 12 (Mr 8), ai_ cy (rr 9) 12 (Mr 9), ai_ cy (rr 10) 12 (Mr 10), ai_ cy (rr 11) 12 (Mr 11), ai_ cy c7 12 c_c7_9, ai_ cy c8 12 c_c8_9] H → va_S A s.heap H locs → lv_has ls 8 [(7, .int x7_9), (6, .int y_8), (5, .int x5_4), (4, .int x4_9), (3, .int x3_9), (0, .ref xc), (1, .int a1), (2, .int a2)] → W p l e ({ frames := 0, cells := 0, slots := 0, locals := 0 } : Room) s m (([.ref xc, .int a1, .int a2] : List Value).toArray) below meth c H locs 0 0 Q (F0 m 43 ls []) from LOOP_9 ((vp.toInt - (0 : Int32).toInt).toNat + 1) (0 : Int32) x4_4 x3_4 c_c7_4 c_c8_4 _ _ _ (by omega) (by first | with_reducible assumption | omega | assumption) (by first | with_reducible assumption | omega | assumption) (by first | with_reducible assumption | omega | assumption) (by first | with_reducible assumption | omega | assumption) (by first | with_reducible assumption | assumption | exact hp_ _ (by omega)) (by first | with_reducible assumption | assumption | exact rng_zero (by omega) (by omega) | exact orng_zero) (by first | with_reducible assumption | assumption | exact rng_zero (by omega) (by omega) | exact orng_zero) ⟨hP, hD⟩ hS (lv_sub hl [0, 1, 2, 3, 4, 5, 6, 7] rfl)
        intro n_9
        induction n_9 with
        | zero =>
          intro x7_9 x4_9 x3_9 c_c7_9 c_c8_9 H locs ls hm v0_9 v1_9 v2_9 v3_9 v4_9 rc_c7_9 rc_c8_9 hPD hS hl; obtain ⟨hP, hD⟩ := hPD
          exact absurd hm (by omega)
        | succ n_9 ih_9 =>
          intro x7_9 x4_9 x3_9 c_c7_9 c_c8_9 H locs ls hm v0_9 v1_9 v2_9 v3_9 v4_9 rc_c7_9 rc_c8_9 hPD hS hl; obtain ⟨hP, hD⟩ := hPD
          refine lv_iload hx hb dB_36_0_9.2.1.2.1 (lv_at hl 0 rfl) ?_
          refine lv_aload_n hx hb dB_36_0_9.2.1.2.2 rfl (lv_at hl 5 rfl) ?_
          refine va_get (ci := 0) (v := .ref xn) (C := RX0) (T := TX0) (N := 9) hx hb hts (fun _ h => List.mem_cons_of_mem _ (List.mem_append_left _ (List.mem_append_right _ h))) hown hK.1 hP 0 rfl rfl 0 (by decide) (hts (.fieldLink RX0 35 "CutAtlas$Current" "net" "LCutAtlas$Net;") (List.mem_of_getElem? (i := 2) rfl)) (fun _ h9 => h9) rfl dB_36_0_9.2.2.1.1 ?_
          refine va_get (ci := 3) (v := .int vp) (C := RX3) (T := TX3) (N := 7) hx hb hts (fun _ h => List.mem_cons_of_mem _ (List.mem_append_right _ h)) hown hK.1 hP 1 rfl rfl 0 (by decide) (hts (.fieldLink RX0 43 "CutAtlas$Net" "places" "I") (List.mem_of_getElem? (i := 3) rfl)) (fun _ h9 => h9) rfl dB_36_0_9.2.2.1.2 ?_
          refine lv_icmp_ge (tgt := 119) hx hb dB_36_0_9.2.2.2.1 (by decide) (fun c_10 => ?_) (fun c_10 => ?_)
          · have t_10 : vp.toInt ≤ x7_9.toInt := Int32.le_iff_toInt_le.mp c_10
            obtain ⟨y_11, ey_11⟩ : ∃ y : Int32, y = x5_4 + 1 := ⟨_, rfl⟩
            have ty_11 : y_11.toInt = x5_4.toInt + (1 : Int32).toInt := by rw [ey_11]; exact addI (by omega) (by omega)
            refine lv_iinc (v := y_11) (lv' := [(5, .int y_11), (7, .int x7_9), (6, .int y_8), (4, .int x4_9), (3, .int x3_9), (0, .ref xc), (1, .int a1), (2, .int a2)]) hx hb dB_36_0_12.2.1.1 hl (k := 2) rfl (by rw [ey_11]; rfl) (by decide) rfl (fun ls hl => ?_)
            refine lv_goto (tgt := 17) hx hb dB_36_0_12.2.1.2 (by decide) ?_
            exact ih_4 y_11 x4_9 x3_9 c_c7_9 c_c8_9 _ _ _ (by omega) (by first | with_reducible assumption | omega | assumption) (by first | with_reducible assumption | omega | assumption) (by first | with_reducible assumption | omega | assumption) (by first | with_reducible assumption | omega | assumption) (by first | with_reducible assumption | assumption | omega) (by first | with_reducible assumption | assumption | exact rng_zero (by omega) (by omega) | exact orng_zero) (by first | with_reducible assumption | assumption | exact rng_zero (by omega) (by omega) | exact orng_zero) ⟨hP, hD⟩ hS (lv_sub hl [0, 3, 4, 5, 6, 7] rfl)
          · have t_10 : ¬ vp.toInt ≤ x7_9.toInt := fun h => c_10 (Int32.le_iff_toInt_le.mpr h)
            refine lv_iload_n hx hb dB_36_0_9.2.2.2.2 rfl (lv_at hl 4 rfl) ?_
            refine lv_iload hx hb dB_36_0_10.1.1.1.1 (lv_at hl 0 rfl) ?_
            refine lv_ishr hx hb dB_36_0_10.1.1.1.2 ?_
            refine lv_topi (fun y_12 ey_12 => ?_)
            refine lv_iconst (v := 1) hx hb dB_36_0_10.1.1.2.1 (by decide) ?_
            refine lv_iand hx hb dB_36_0_10.1.1.2.2 ?_
            refine lv_topi (fun y_13 ey_13 => ?_)
            refine lv_if_ne (tgt := 113) hx hb dB_36_0_10.1.2.1.1 (by decide) (fun c_14 => ?_) (fun c_14 => ?_)
            · have t_14 : ¬ y_13.toInt = (0 : Int32).toInt := fun h => c_14 (Int32.toInt_inj.mp h)
              obtain ⟨y_15, ey_15⟩ : ∃ y : Int32, y = x7_9 + 1 := ⟨_, rfl⟩
              have ty_15 : y_15.toInt = x7_9.toInt + (1 : Int32).toInt := by rw [ey_15]; exact addI (by omega) (by omega)
              refine lv_iinc (v := y_15) (lv' := [(7, .int y_15), (6, .int y_8), (5, .int x5_4), (4, .int x4_9), (3, .int x3_9), (0, .ref xc), (1, .int a1), (2, .int a2)]) hx hb dB_36_0_12.1.2.1 hl (k := 0) rfl (by rw [ey_15]; rfl) (by decide) rfl (fun ls hl => ?_)
              refine lv_goto (tgt := 43) hx hb dB_36_0_12.1.2.2 (by decide) ?_
              exact ih_9 y_15 x4_9 x3_9 c_c7_9 c_c8_9 _ _ _ (by omega) (by first | with_reducible assumption | omega | assumption) (by first | with_reducible assumption | omega | assumption) (by first | with_reducible assumption | omega | assumption) (by first | with_reducible assumption | omega | assumption) (by first | with_reducible assumption | assumption | exact hp_ _ (by omega)) (by first | with_reducible assumption | assumption | exact rng_zero (by omega) (by omega) | exact orng_zero) (by first | with_reducible assumption | assumption | exact rng_zero (by omega) (by omega) | exact orng_zero) ⟨hP, hD⟩ hS (lv_sub hl [0, 1, 2, 3, 4, 5, 6, 7] rfl)
            · have t_14 : y_13.toInt = (0 : Int32).toInt := congrArg Int32.toInt c_14
              refine lv_aload_n hx hb dB_36_0_10.1.2.1.2 rfl (lv_at hl 5 rfl) ?_
              refine va_get (ci := 0) (v := .ref cro) (C := RX0) (T := TX0) (N := 9) hx hb hts (fun _ h => List.mem_cons_of_mem _ (List.mem_append_left _ (List.mem_append_right _ h))) hown hK.1 hP 0 rfl rfl 3 (by decide) (hts (.fieldLink RX0 16 "CutAtlas$Current" "room" "[[I") (List.mem_of_getElem? (i := 4) rfl)) (fun _ h9 => h9) rfl dB_36_0_10.1.2.2.1 ?_
              refine lv_iload hx hb dB_36_0_10.1.2.2.2 (lv_at hl 1 rfl) ?_
              have h_16 : vp_in y_8 12 := in_I (by first | with_reducible assumption | omega) (by omega)
              refine va_alda hx hb hG hP 2 rfl (i := y_8) h_16 dB_36_0_10.2.1.1.1 ?_
              refine lv_topv (v' := .ref (rr y_8.toNatClampNeg)) (gf_at h_16) ?_
              refine lv_iload hx hb dB_36_0_10.2.1.1.2 (lv_at hl 0 rfl) ?_
              have h_17 : vp_in x7_9 12 := in_I (by first | with_reducible assumption | omega) (by omega)
              have hPg : va_P D vwCl (([ob0_0_ xc xn xk clo cro c4 c5 c6 c7 c8, ob3_0_ xn vp vn n1 n2 n3 n4 n5, aq_ cy 6 cro 12 (gf_ rr)] : va_W) ++ (gro (cy 0) rr Mr ++ ([ai_ cy c7 12 c_c7_9, ai_ cy c8 12 c_c8_9] : va_W))) H := hP
              refine va_gld (X := [ob0_0_ xc xn xk clo cro c4 c5 c6 c7 c8, ob3_0_ xn vp vn n1 n2 n3 n4 n5, aq_ cy 6 cro 12 (gf_ rr)]) (Y := [ai_ cy c7 12 c_c7_9, ai_ cy c8 12 c_c8_9]) (r := rr) (M := Mr) (k := y_8.toNatClampNeg) hx hb hK.1 hPg 0 rfl (in_lt h_16) (i := x7_9) h_17 dB_36_0_10.2.1.2.1 ?_
              refine lv_topi (fun y_18 ey_18 => ?_)
              refine lv_if_le (tgt := 113) hx hb dB_36_0_10.2.1.2.2 (by decide) (fun c_19 => ?_) (fun c_19 => ?_)
              · have t_19 : y_18.toInt ≤ (0 : Int32).toInt := Int32.le_iff_toInt_le.mp c_19
                obtain ⟨y_20, ey_20⟩ : ∃ y : Int32, y = x7_9 + 1 := ⟨_, rfl⟩
                have ty_20 : y_20.toInt = x7_9.toInt + (1 : Int32).toInt := by rw [ey_20]; exact addI (by omega) (by omega)
                refine lv_iinc (v := y_20) (lv' := [(7, .int y_20), (6, .int y_8), (5, .int x5_4), (4, .int x4_9), (3, .int x3_9), (0, .ref xc), (1, .int a1), (2, .int a2)]) hx hb dB_36_0_12.1.2.1 hl (k := 0) rfl (by rw [ey_20]; rfl) (by decide) rfl (fun ls hl => ?_)
                refine lv_goto (tgt := 43) hx hb dB_36_0_12.1.2.2 (by decide) ?_
                exact ih_9 y_20 x4_9 x3_9 c_c7_9 c_c8_9 _ _ _ (by omega) (by first | with_reducible assumption | omega | assumption) (by first | with_reducible assumption | omega | assumption) (by first | with_reducible assumption | omega | assumption) (by first | with_reducible assumption | omega | assumption) (by first | with_reducible assumption | assumption | exact hp_ _ (by omega)) (by first | with_reducible assumption | assumption | exact rng_zero (by omega) (by omega) | exact orng_zero) (by first | with_reducible assumption | assumption | exact rng_zero (by omega) (by omega) | exact orng_zero) ⟨hP, hD⟩ hS (lv_sub hl [0, 1, 2, 3, 4, 5, 6, 7] rfl)
              · have t_19 : ¬ y_18.toInt ≤ (0 : Int32).toInt := fun h => c_19 (Int32.le_iff_toInt_le.mpr h)
                refine lv_aload_n hx hb dB_36_0_10.2.2.1.1 rfl (lv_at hl 5 rfl) ?_
                refine va_get (ci := 0) (v := .ref c8) (C := RX0) (T := TX0) (N := 9) hx hb hts (fun _ h => List.mem_cons_of_mem _ (List.mem_append_left _ (List.mem_append_right _ h))) hown hK.1 hP 0 rfl rfl 8 (by decide) (hts (.fieldLink RX0 32 "CutAtlas$Current" "cameFrom" "[I") (List.mem_of_getElem? (i := 5) rfl)) (fun _ h9 => h9) rfl dB_36_0_10.2.2.1.2 ?_
                refine lv_iload hx hb dB_36_0_10.2.2.2.1 (lv_at hl 0 rfl) ?_
                refine lv_iload hx hb dB_36_0_10.2.2.2.2 (lv_at hl 1 rfl) ?_
                refine va_iast hx hb hK.1 hP hD hS 16 0 rfl rfl (i := x7_9) h_17 dB_36_0_11.1.1.1.1 (fun H locs hP hD hS => ?_)
                obtain ⟨f_22, ef_22⟩ : ∃ g : Nat → Int32, g = upd c_c8_9 x7_9.toNatClampNeg y_8 := ⟨_, rfl⟩
                refine pd_K (D := D) (cl := vwCl) (H := H) (A := A) [ob0_0_ xc xn xk clo cro c4 c5 c6 c7 c8, ob3_0_ xn vp vn n1 n2 n3 n4 n5, aq_ cy 6 cro 12 (gf_ rr), ai_ cy (rr 0) 12 (Mr 0), ai_ cy (rr 1) 12 (Mr 1), ai_ cy (rr 2) 12 (Mr 2), ai_ cy (rr 3) 12 (Mr 3), ai_ cy (rr 4) 12 (Mr 4), ai_ cy (rr 5) 12 (Mr 5), ai_ cy (rr 6) 12 (Mr 6), ai_ cy (rr 7) 12 (Mr 7), ai_ cy (rr 8) 12 (Mr 8), ai_ cy (rr 9) 12 (Mr 9), ai_ cy (rr 10) 12 (Mr 10), ai_ cy (rr 11) 12 (Mr 11), ai_ cy c7 12 c_c7_9, ai_ cy c8 12 f_22] (by rw [ef_22]; exact hP) (by rw [ef_22]; exact hD) (fun hP hD => ?_)
                have rf_22 : rng f_22 12 (0) (11) := by rw [ef_22]; exact rng_upd rc_c8_9 (by omega) (by omega)
                refine lv_iload hx hb dB_36_0_11.1.1.1.2 (lv_at hl 0 rfl) ?_
                refine lv_iload_n hx hb dB_36_0_11.1.1.2.1 rfl (lv_at hl 7 rfl) ?_
                refine lv_icmp_ne (tgt := 94) hx hb dB_36_0_11.1.1.2.2 (by decide) (fun c_23 => ?_) (fun c_23 => ?_)
                · have t_23 : ¬ x7_9.toInt = a2.toInt := fun h => c_23 (Int32.toInt_inj.mp h)
                  have hr_ : x4_9.toInt < 12 := mq_room (x := x3_9) (y := x7_9) (z := y_12) (w := y_13) (q := c_c7_9) (by assumption) (by omega) (by omega) (by assumption) (by assumption) (by omega) (by omega)
                  refine lv_iload_n hx hb dB_36_0_11.1.2.2.1 rfl (lv_at hl 4 rfl) ?_
                  refine lv_iconst (v := 1) hx hb dB_36_0_11.1.2.2.2 (by decide) ?_
                  refine lv_iload hx hb dB_36_0_11.2.1.1.1 (lv_at hl 0 rfl) ?_
                  refine lv_ishl hx hb dB_36_0_11.2.1.1.2 ?_
                  refine lv_topi (fun y_24 ey_24 => ?_)
                  refine lv_ior hx hb dB_36_0_11.2.1.2.1 ?_
                  refine lv_topi (fun y_25 ey_25 => ?_)
                  refine lv_istore_n (lv' := [(3, .int y_25), (7, .int x7_9), (6, .int y_8), (5, .int x5_4), (4, .int x4_9), (0, .ref xc), (1, .int a1), (2, .int a2)]) hx hb dB_36_0_11.2.1.2.2 rfl hl (by decide) rfl (fun ls hl => ?_)
                  refine lv_aload_n hx hb dB_36_0_11.2.2.1.1 rfl (lv_at hl 5 rfl) ?_
                  refine va_get (ci := 0) (v := .ref c7) (C := RX0) (T := TX0) (N := 9) hx hb hts (fun _ h => List.mem_cons_of_mem _ (List.mem_append_left _ (List.mem_append_right _ h))) hown hK.1 hP 0 rfl rfl 7 (by decide) (hts (.fieldLink RX0 29 "CutAtlas$Current" "queue" "[I") (List.mem_of_getElem? (i := 1) rfl)) (fun _ h9 => h9) rfl dB_36_0_11.2.2.1.2 ?_
                  refine lv_iload hx hb dB_36_0_11.2.2.2.1 (lv_at hl 4 rfl) ?_
                  refine lv_iload hx hb dB_36_0_11.2.2.2.2 (lv_at hl 1 rfl) ?_
                  have h_26 : vp_in x4_9 12 := in_I (by first | with_reducible assumption | omega) (by omega)
                  refine va_iast hx hb hK.1 hP hD hS 15 0 rfl rfl (i := x4_9) h_26 dB_36_0_12.1.1.1 (fun H locs hP hD hS => ?_)
                  obtain ⟨f_27, ef_27⟩ : ∃ g : Nat → Int32, g = upd c_c7_9 x4_9.toNatClampNeg x7_9 := ⟨_, rfl⟩
                  refine pd_K (D := D) (cl := vwCl) (H := H) (A := A) [ob0_0_ xc xn xk clo cro c4 c5 c6 c7 c8, ob3_0_ xn vp vn n1 n2 n3 n4 n5, aq_ cy 6 cro 12 (gf_ rr), ai_ cy (rr 0) 12 (Mr 0), ai_ cy (rr 1) 12 (Mr 1), ai_ cy (rr 2) 12 (Mr 2), ai_ cy (rr 3) 12 (Mr 3), ai_ cy (rr 4) 12 (Mr 4), ai_ cy (rr 5) 12 (Mr 5), ai_ cy (rr 6) 12 (Mr 6), ai_ cy (rr 7) 12 (Mr 7), ai_ cy (rr 8) 12 (Mr 8), ai_ cy (rr 9) 12 (Mr 9), ai_ cy (rr 10) 12 (Mr 10), ai_ cy (rr 11) 12 (Mr 11), ai_ cy c7 12 f_27, ai_ cy c8 12 f_22] (by rw [ef_27]; exact hP) (by rw [ef_27]; exact hD) (fun hP hD => ?_)
                  have rf_27 : rng f_27 12 (0) (11) := by rw [ef_27]; exact rng_upd rc_c7_9 (by omega) (by omega)
                  have hp_ : ∀ m2 : Int32, m2.toInt = x4_9.toInt + 1 → mq y_25 f_27 m2.toNatClampNeg := fun m2 em => mq_push (x := x3_9) (y := x7_9) (z := y_12) (w := y_13) (m := x4_9) (b := y_24) (q := c_c7_9) (by assumption) (by omega) (by omega) (by assumption) (by assumption) (by omega) (by omega) (by assumption) (by assumption) (by assumption) em
                  obtain ⟨y_28, ey_28⟩ : ∃ y : Int32, y = x4_9 + 1 := ⟨_, rfl⟩
                  have ty_28 : y_28.toInt = x4_9.toInt + (1 : Int32).toInt := by rw [ey_28]; exact addI (by omega) (by omega)
                  refine lv_iinc (v := y_28) (lv' := [(4, .int y_28), (3, .int y_25), (7, .int x7_9), (6, .int y_8), (5, .int x5_4), (0, .ref xc), (1, .int a1), (2, .int a2)]) hx hb dB_36_0_12.1.1.2 hl (k := 4) rfl (by rw [ey_28]; rfl) (by decide) rfl (fun ls hl => ?_)
                  obtain ⟨y_29, ey_29⟩ : ∃ y : Int32, y = x7_9 + 1 := ⟨_, rfl⟩
                  have ty_29 : y_29.toInt = x7_9.toInt + (1 : Int32).toInt := by rw [ey_29]; exact addI (by omega) (by omega)
                  refine lv_iinc (v := y_29) (lv' := [(7, .int y_29), (4, .int y_28), (3, .int y_25), (6, .int y_8), (5, .int x5_4), (0, .ref xc), (1, .int a1), (2, .int a2)]) hx hb dB_36_0_12.1.2.1 hl (k := 2) rfl (by rw [ey_29]; rfl) (by decide) rfl (fun ls hl => ?_)
                  refine lv_goto (tgt := 43) hx hb dB_36_0_12.1.2.2 (by decide) ?_
                  exact ih_9 y_29 y_28 y_25 f_27 f_22 _ _ _ (by omega) (by first | with_reducible assumption | omega | assumption) (by first | with_reducible assumption | omega | assumption) (by first | with_reducible assumption | omega | assumption) (by first | with_reducible assumption | omega | assumption) (by first | with_reducible assumption | assumption | exact hp_ _ (by omega)) (by first | with_reducible assumption | assumption | exact rng_zero (by omega) (by omega) | exact orng_zero) (by first | with_reducible assumption | assumption | exact rng_zero (by omega) (by omega) | exact orng_zero) ⟨hP, hD⟩ hS (lv_sub hl [0, 3, 4, 1, 2, 5, 6, 7] rfl)
                · have t_23 : x7_9.toInt = a2.toInt := congrArg Int32.toInt c_23
                  refine lv_iconst (v := 1) hx hb dB_36_0_11.1.2.1.1 (by decide) ?_
                  rw [hQ]
                  exact W.zret (ty := .boolean) (v := 1) hx hb hr (by decide) (fun t ht hW => ⟨⟨1, (), rfl, (by omega), c_c7_9, f_22, (by first | with_reducible assumption | assumption | exact rng_zero (by omega) (by omega) | omega), (by first | with_reducible assumption | assumption | exact rng_zero (by omega) (by omega) | omega), by rw [ht]; exact hP, hD⟩, hS.F ht⟩) hS.2.2 dB_36_0_11.1.2.1.2

set_option maxHeartbeats 4000000 in
set_option maxRecDepth 100000 in
theorem c_X0_reachedFrom (l : Launch) (D : va_G) (cy : Nat → ClassId) (sz : Nat) (xc : Nat) (xk : Nat) (clo : Nat) (cro : Nat) (c4 : Nat) (c5 : Nat) (c6 : Nat) (c7 : Nat) (c8 : Nat) (xn : Nat) (n1 : Nat) (n2 : Nat) (n3 : Nat) (n4 : Nat) (n5 : Nat) (vp : Int32) (vn : Int32) (rr : Nat → Nat) (Mr : Nat → Nat → Int32) (f7 : Nat → Int32) (a1 : Int32) (a2 : Int32) (hvp : 0 ≤ vp.toInt ∧ vp.toInt ≤ 12) (q1 : 0 ≤ a1.toInt ∧ a1.toInt ≤ 11) (r_f7 : rng f7 12 (0) (11)) : Met l yX0_reachedFrom wsX0_reachedFrom ({ frames := 0, cells := 0, slots := 0, locals := 0 }) (va_Pc [.ref xc, .int a1, .int a2] (fun U => U.heap.size = sz ∧ va_P D vwCl [ob0_0_ xc xn xk clo cro c4 c5 c6 c7 c8, ob3_0_ xn vp vn n1 n2 n3 n4 n5, aq_ cy 6 cro 12 (gf_ rr), ai_ cy (rr 0) 12 (Mr 0), ai_ cy (rr 1) 12 (Mr 1), ai_ cy (rr 2) 12 (Mr 2), ai_ cy (rr 3) 12 (Mr 3), ai_ cy (rr 4) 12 (Mr 4), ai_ cy (rr 5) 12 (Mr 5), ai_ cy (rr 6) 12 (Mr 6), ai_ cy (rr 7) 12 (Mr 7), ai_ cy (rr 8) 12 (Mr 8), ai_ cy (rr 9) 12 (Mr 9), ai_ cy (rr 10) 12 (Mr 10), ai_ cy (rr 11) 12 (Mr 11), ai_ cy c7 12 f7] U.heap ∧ kg_ D cy U ∧ va_D (fun _ => True) [ob0_0_ xc xn xk clo cro c4 c5 c6 c7 c8, ob3_0_ xn vp vn n1 n2 n3 n4 n5, aq_ cy 6 cro 12 (gf_ rr), ai_ cy (rr 0) 12 (Mr 0), ai_ cy (rr 1) 12 (Mr 1), ai_ cy (rr 2) 12 (Mr 2), ai_ cy (rr 3) 12 (Mr 3), ai_ cy (rr 4) 12 (Mr 4), ai_ cy (rr 5) 12 (Mr 5), ai_ cy (rr 6) 12 (Mr 6), ai_ cy (rr 7) 12 (Mr 7), ai_ cy (rr 8) 12 (Mr 8), ai_ cy (rr 9) 12 (Mr 9), ai_ cy (rr 10) 12 (Mr 10), ai_ cy (rr 11) 12 (Mr 11), ai_ cy c7 12 f7])) (va_Qi (fun (r : Int32) (_ : Unit) => True) (fun (_ : Unit) (t : State) => ∃ (e7 : Nat → Int32), (rng e7 12 (0) (11)) ∧ va_P D vwCl [ob0_0_ xc xn xk clo cro c4 c5 c6 c7 c8, ob3_0_ xn vp vn n1 n2 n3 n4 n5, aq_ cy 6 cro 12 (gf_ rr), ai_ cy (rr 0) 12 (Mr 0), ai_ cy (rr 1) 12 (Mr 1), ai_ cy (rr 2) 12 (Mr 2), ai_ cy (rr 3) 12 (Mr 3), ai_ cy (rr 4) 12 (Mr 4), ai_ cy (rr 5) 12 (Mr 5), ai_ cy (rr 6) 12 (Mr 6), ai_ cy (rr 7) 12 (Mr 7), ai_ cy (rr 8) 12 (Mr 8), ai_ cy (rr 9) 12 (Mr 9), ai_ cy (rr 10) 12 (Mr 10), ai_ cy (rr 11) 12 (Mr 11), ai_ cy c7 12 e7] t.heap ∧ va_D (va_A [ob0_0_ xc xn xk clo cro c4 c5 c6 c7 c8, ob3_0_ xn vp vn n1 n2 n3 n4 n5, aq_ cy 6 cro 12 (gf_ rr), ai_ cy (rr 0) 12 (Mr 0), ai_ cy (rr 1) 12 (Mr 1), ai_ cy (rr 2) 12 (Mr 2), ai_ cy (rr 3) 12 (Mr 3), ai_ cy (rr 4) 12 (Mr 4), ai_ cy (rr 5) 12 (Mr 5), ai_ cy (rr 6) 12 (Mr 6), ai_ cy (rr 7) 12 (Mr 7), ai_ cy (rr 8) 12 (Mr 8), ai_ cy (rr 9) 12 (Mr 9), ai_ cy (rr 10) 12 (Mr 10), ai_ cy (rr 11) 12 (Mr 11), ai_ cy c7 12 f7] sz) [ob0_0_ xc xn xk clo cro c4 c5 c6 c7 c8, ob3_0_ xn vp vn n1 n2 n3 n4 n5, aq_ cy 6 cro 12 (gf_ rr), ai_ cy (rr 0) 12 (Mr 0), ai_ cy (rr 1) 12 (Mr 1), ai_ cy (rr 2) 12 (Mr 2), ai_ cy (rr 3) 12 (Mr 3), ai_ cy (rr 4) 12 (Mr 4), ai_ cy (rr 5) 12 (Mr 5), ai_ cy (rr 6) 12 (Mr 6), ai_ cy (rr 7) 12 (Mr 7), ai_ cy (rr 8) 12 (Mr 8), ai_ cy (rr 9) 12 (Mr 9), ai_ cy (rr 10) 12 (Mr 10), ai_ cy (rr 11) 12 (Mr 11), ai_ cy c7 12 e7]) (va_A [ob0_0_ xc xn xk clo cro c4 c5 c6 c7 c8, ob3_0_ xn vp vn n1 n2 n3 n4 n5, aq_ cy 6 cro 12 (gf_ rr), ai_ cy (rr 0) 12 (Mr 0), ai_ cy (rr 1) 12 (Mr 1), ai_ cy (rr 2) 12 (Mr 2), ai_ cy (rr 3) 12 (Mr 3), ai_ cy (rr 4) 12 (Mr 4), ai_ cy (rr 5) 12 (Mr 5), ai_ cy (rr 6) 12 (Mr 6), ai_ cy (rr 7) 12 (Mr 7), ai_ cy (rr 8) 12 (Mr 8), ai_ cy (rr 9) 12 (Mr 9), ai_ cy (rr 10) 12 (Mr 10), ai_ cy (rr 11) 12 (Mr 11), ai_ cy c7 12 f7] sz)) 0 0 (va_A [ob0_0_ xc xn xk clo cro c4 c5 c6 c7 c8, ob3_0_ xn vp vn n1 n2 n3 n4 n5, aq_ cy 6 cro 12 (gf_ rr), ai_ cy (rr 0) 12 (Mr 0), ai_ cy (rr 1) 12 (Mr 1), ai_ cy (rr 2) 12 (Mr 2), ai_ cy (rr 3) 12 (Mr 3), ai_ cy (rr 4) 12 (Mr 4), ai_ cy (rr 5) 12 (Mr 5), ai_ cy (rr 6) 12 (Mr 6), ai_ cy (rr 7) 12 (Mr 7), ai_ cy (rr 8) 12 (Mr 8), ai_ cy (rr 9) 12 (Mr 9), ai_ cy (rr 10) 12 (Mr 10), ai_ cy (rr 11) 12 (Mr 11), ai_ cy c7 12 f7] sz) := by
  refine ofQ (cc := cX0_reachedFrom) (maxL := 7) (ret := (some .int)) (by decide) rfl ?_
  intro p e s m args below meth c s₁ Q hQ B hml hv
  obtain ⟨rfl, hsz, hP, hK, hD0⟩ := hv
  have hG := hK.2
  have hK := hK.1
  have hx := B.exec
  have hb := B.bytes
  have hr := B.returns
  have hts := atoms_spec (ws := wsX0_reachedFrom) B.pre
  have hown : s.vm.findClass RX0 = some m.cls := by have h_ := findClass_of_methodNamed B.named; exact h_
  have hlocks := B.notSynchronized
  subst hsz
  have hD := hD0.self (sz := s.heap.size)
  generalize hAe : va_A [ob0_0_ xc xn xk clo cro c4 c5 c6 c7 c8, ob3_0_ xn vp vn n1 n2 n3 n4 n5, aq_ cy 6 cro 12 (gf_ rr), ai_ cy (rr 0) 12 (Mr 0), ai_ cy (rr 1) 12 (Mr 1), ai_ cy (rr 2) 12 (Mr 2), ai_ cy (rr 3) 12 (Mr 3), ai_ cy (rr 4) 12 (Mr 4), ai_ cy (rr 5) 12 (Mr 5), ai_ cy (rr 6) 12 (Mr 6), ai_ cy (rr 7) 12 (Mr 7), ai_ cy (rr 8) 12 (Mr 8), ai_ cy (rr 9) 12 (Mr 9), ai_ cy (rr 10) 12 (Mr 10), ai_ cy (rr 11) 12 (Mr 11), ai_ cy c7 12 f7] s.heap.size = A at hD hQ
  have hA : ∀ q : Nat, s.heap.size ≤ q → A q := fun q h => by rw [← hAe]; exact Or.inr h
  have hS : va_S A s.heap s.heap [] := va_S.rf
  have hl := lv_entry ([.ref xc, .int a1, .int a2]) (n := 7) (Nat.le_of_ble_eq_true rfl)
  rw [lg_entry_eq]
  generalize (lg_sl ([.ref xc, .int a1, .int a2]) ++ List.replicate (7 - (lg_sl ([.ref xc, .int a1, .int a2])).length) Slot.unset).toArray = ls at hl ⊢
  have hl : lv_has ls 7 [(0, .ref xc), (1, .int a1), (2, .int a2)] := hl
  have z0 : (0 : Int32).toInt = 0 := by decide
  have z1 : (1 : Int32).toInt = 1 := by decide
  have z12 : (12 : Int32).toInt = 12 := by decide
  refine lv_iconst (v := 1) hx hb dB_36_0_27.1.1.1.1 (by decide) ?_
  refine lv_iload_n hx hb dB_36_0_27.1.1.1.2 rfl (lv_at hl 1 rfl) ?_
  refine lv_ishl hx hb dB_36_0_27.1.1.2.1 ?_
  refine lv_topi (fun y_1 ey_1 => ?_)
  refine lv_istore_n (lv' := [(3, .int y_1), (0, .ref xc), (1, .int a1), (2, .int a2)]) hx hb dB_36_0_27.1.1.2.2 rfl hl (by decide) rfl (fun ls hl => ?_)
  refine lv_iconst (v := 1) hx hb dB_36_0_27.1.2.1.1 (by decide) ?_
  refine lv_istore (lv' := [(4, .int 1), (3, .int y_1), (0, .ref xc), (1, .int a1), (2, .int a2)]) hx hb dB_36_0_27.1.2.1.2 hl (by decide) rfl (fun ls hl => ?_)
  refine lv_aload_n hx hb dB_36_0_27.1.2.2.1 rfl (lv_at hl 2 rfl) ?_
  refine va_get (ci := 0) (v := .ref c7) (C := RX0) (T := TX0) (N := 9) hx hb hts (fun _ h => List.mem_cons_of_mem _ (List.mem_append_left _ (List.mem_append_right _ h))) hown hK.1 hP 0 rfl rfl 7 (by decide) (hts (.fieldLink RX0 29 "CutAtlas$Current" "queue" "[I") (List.mem_of_getElem? (i := 1) rfl)) (fun _ h9 => h9) rfl dB_36_0_27.1.2.2.2 ?_
  refine lv_iconst (v := 0) hx hb dB_36_0_27.2.1.1.1 (by decide) ?_
  refine lv_iload_n hx hb dB_36_0_27.2.1.1.2 rfl (lv_at hl 3 rfl) ?_
  have h_2 : vp_in (0 : Int32) 12 := by unfold vp_in; decide
  refine va_iast hx hb hK.1 hP hD hS 15 0 rfl rfl (i := 0) h_2 dB_36_0_27.2.1.2.1 (fun H locs hP hD hS => ?_)
  obtain ⟨f_3, ef_3⟩ : ∃ g : Nat → Int32, g = upd f7 (0 : Int32).toNatClampNeg a1 := ⟨_, rfl⟩
  refine pd_K (D := D) (cl := vwCl) (H := H) (A := A) [ob0_0_ xc xn xk clo cro c4 c5 c6 c7 c8, ob3_0_ xn vp vn n1 n2 n3 n4 n5, aq_ cy 6 cro 12 (gf_ rr), ai_ cy (rr 0) 12 (Mr 0), ai_ cy (rr 1) 12 (Mr 1), ai_ cy (rr 2) 12 (Mr 2), ai_ cy (rr 3) 12 (Mr 3), ai_ cy (rr 4) 12 (Mr 4), ai_ cy (rr 5) 12 (Mr 5), ai_ cy (rr 6) 12 (Mr 6), ai_ cy (rr 7) 12 (Mr 7), ai_ cy (rr 8) 12 (Mr 8), ai_ cy (rr 9) 12 (Mr 9), ai_ cy (rr 10) 12 (Mr 10), ai_ cy (rr 11) 12 (Mr 11), ai_ cy c7 12 f_3] (by rw [ef_3]; exact hP) (by rw [ef_3]; exact hD) (fun hP hD => ?_)
  have rf_3 : rng f_3 12 (0) (11) := by rw [ef_3]; exact rng_upd r_f7 (by omega) (by omega)
  have hq_ : mq y_1 f_3 (1 : Int32).toNatClampNeg := mq_one (by assumption) (by assumption) (by omega) (by omega)
  refine lv_iconst (v := 0) hx hb dB_36_0_27.2.1.2.2 (by decide) ?_
  refine lv_istore (lv' := [(5, .int 0), (4, .int 1), (3, .int y_1), (0, .ref xc), (1, .int a1), (2, .int a2)]) hx hb dB_36_0_27.2.2.1.1 hl (by decide) rfl (fun ls hl => ?_)
  suffices LOOP_4 : ∀ (n_4 : Nat) (x5_4 : Int32) (x4_4 : Int32) (x3_4 : Int32) (c_c7_4 : Nat → Int32) (H : Heap) (locs : List Loc) (ls : Array Slot), 12 - x5_4.toInt < (n_4 : Int) → (1 ≤ x4_4.toInt) → (x4_4.toInt ≤ 12) → (0 ≤ x5_4.toInt) → (x5_4.toInt ≤ 12) → (mq x3_4 c_c7_4 x4_4.toNatClampNeg) → (rng c_c7_4 12 (0) (11)) → pd_2 D vwCl A [ob0_0_ xc xn xk clo cro c4 c5 c6 c7 c8, ob3_0_ xn vp vn n1 n2 n3 n4 n5, aq_ cy 6 cro 12 (gf_ rr), ai_ cy (rr 0) 12 (Mr 0), ai_ cy (rr 1) 12 (Mr 1), ai_ cy (rr 2) 12 (Mr 2), ai_ cy (rr 3) 12 (Mr 3), ai_ cy (rr 4) 12 (Mr 4), ai_ cy (rr 5) 12 (Mr 5), ai_ cy (rr 6) 12 (Mr 6), ai_ cy (rr 7) 12 (Mr 7), ai_ cy (rr 8) 12 (Mr 8), ai_ cy (rr 9) 12 (Mr 9), ai_ cy (rr 10) 12 (Mr 10), ai_ cy (rr 11) 12 (Mr 11), ai_ cy c7 12 c_c7_4] H → va_S A s.heap H locs → lv_has ls 7 [(5, .int x5_4), (4, .int x4_4), (3, .int x3_4), (0, .ref xc), (1, .int a1), (2, .int a2)] → W p l e ({ frames := 0, cells := 0, slots := 0, locals := 0 } : Room) s m (([.ref xc, .int a1, .int a2] : List Value).toArray) below meth c H locs 0 0 Q (F0 m 17 ls []) from LOOP_4 ((12 - (0 : Int32).toInt).toNat + 1) (0 : Int32) (1 : Int32) y_1 f_3 _ _ _ (by omega) (by first | with_reducible assumption | omega | assumption) (by first | with_reducible assumption | omega | assumption) (by first | with_reducible assumption | omega | assumption) (by first | with_reducible assumption | omega | assumption) (by first | with_reducible assumption | assumption | omega) (by first | with_reducible assumption | assumption | exact rng_zero (by omega) (by omega) | exact orng_zero) ⟨hP, hD⟩ hS (lv_sub hl [0, 1, 2, 3, 4, 5] rfl)
  intro n_4
  induction n_4 with
  | zero =>
    intro x5_4 x4_4 x3_4 c_c7_4 H locs ls hm v0_4 v1_4 v2_4 v3_4 v4_4 rc_c7_4 hPD hS hl; obtain ⟨hP, hD⟩ := hPD
    exact absurd hm (by omega)
  | succ n_4 ih_4 =>
    intro x5_4 x4_4 x3_4 c_c7_4 H locs ls hm v0_4 v1_4 v2_4 v3_4 v4_4 rc_c7_4 hPD hS hl; obtain ⟨hP, hD⟩ := hPD
    refine lv_iload hx hb dB_36_0_27.2.2.1.2 (lv_at hl 0 rfl) ?_
    refine lv_iload hx hb dB_36_0_27.2.2.2.1 (lv_at hl 1 rfl) ?_
    refine lv_icmp_ge (tgt := 105) hx hb dB_36_0_27.2.2.2.2 (by decide) (fun c_5 => ?_) (fun c_5 => ?_)
    · have t_5 : x4_4.toInt ≤ x5_4.toInt := Int32.le_iff_toInt_le.mp c_5
      refine lv_iload_n hx hb dB_36_0_30.2.2.2.1 rfl (lv_at hl 2 rfl) ?_
      rw [hQ]
      exact W.iret (v := x3_4) hx hb hr (fun t ht hW => ⟨⟨x3_4, (), rfl, trivial, c_c7_4, (by first | with_reducible assumption | assumption | exact rng_zero (by omega) (by omega) | omega), by rw [ht]; exact hP, hD⟩, hS.F ht⟩) hS.2.2 dB_36_0_30.2.2.2.2
    · have t_5 : ¬ x4_4.toInt ≤ x5_4.toInt := fun h => c_5 (Int32.le_iff_toInt_le.mpr h)
      refine lv_iload hx hb dB_36_0_28.1.1.1.1 (lv_at hl 0 rfl) ?_
      refine lv_bipush (v := 12) hx hb dB_36_0_28.1.1.1.2 (by decide) ?_
      refine lv_icmp_ge (tgt := 105) hx hb dB_36_0_28.1.1.2.1 (by decide) (fun c_6 => ?_) (fun c_6 => ?_)
      · have t_6 : (12 : Int32).toInt ≤ x5_4.toInt := Int32.le_iff_toInt_le.mp c_6
        refine lv_iload_n hx hb dB_36_0_30.2.2.2.1 rfl (lv_at hl 2 rfl) ?_
        rw [hQ]
        exact W.iret (v := x3_4) hx hb hr (fun t ht hW => ⟨⟨x3_4, (), rfl, trivial, c_c7_4, (by first | with_reducible assumption | assumption | exact rng_zero (by omega) (by omega) | omega), by rw [ht]; exact hP, hD⟩, hS.F ht⟩) hS.2.2 dB_36_0_30.2.2.2.2
      · have t_6 : ¬ (12 : Int32).toInt ≤ x5_4.toInt := fun h => c_6 (Int32.le_iff_toInt_le.mpr h)
        refine lv_iconst (v := 0) hx hb dB_36_0_28.1.1.2.2 (by decide) ?_
        refine lv_istore (lv' := [(6, .int 0), (5, .int x5_4), (4, .int x4_4), (3, .int x3_4), (0, .ref xc), (1, .int a1), (2, .int a2)]) hx hb dB_36_0_28.1.2.1.1 hl (by decide) rfl (fun ls hl => ?_)
        suffices LOOP_7 : ∀ (n_7 : Nat) (x6_7 : Int32) (x4_7 : Int32) (x3_7 : Int32) (c_c7_7 : Nat → Int32) (H : Heap) (locs : List Loc) (ls : Array Slot), vp.toInt - x6_7.toInt < (n_7 : Int) → (1 ≤ x4_7.toInt) → (x4_7.toInt ≤ 12) → (0 ≤ x6_7.toInt) → (x6_7.toInt ≤ vp.toInt) → (mq x3_7 c_c7_7 x4_7.toNatClampNeg) → (rng c_c7_7 12 (0) (11)) → pd_2 D vwCl A [ob0_0_ xc xn xk clo cro c4 c5 c6 c7 c8, ob3_0_ xn vp vn n1 n2 n3 n4 n5, aq_ cy 6 cro 12 (gf_ rr), ai_ cy (rr 0) 12 (Mr 0), ai_ cy (rr 1) 12 (Mr 1), ai_ cy (rr 2) 12 (Mr 2), ai_ cy (rr 3) 12 (Mr 3), ai_ cy (rr 4) 12 (Mr 4), ai_ cy (rr 5) 12 (Mr 5), ai_ cy (rr 6) 12 (Mr 6), ai_ cy (rr 7) 12 (Mr 7), ai_ cy (rr 8) 12 (Mr 8), ai_ cy (rr 9) 12 (Mr 9), ai_ cy (rr 10) 12 (Mr 10), ai_ cy (rr 11) 12 (Mr 11), ai_ cy c7 12 c_c7_7] H → va_S A s.heap H locs → lv_has ls 7 [(6, .int x6_7), (5, .int x5_4), (4, .int x4_7), (3, .int x3_7), (0, .ref xc), (1, .int a1), (2, .int a2)] → W p l e ({ frames := 0, cells := 0, slots := 0, locals := 0 } : Room) s m (([.ref xc, .int a1, .int a2] : List Value).toArray) below meth c H locs 0 0 Q (F0 m 34 ls []) from LOOP_7 ((vp.toInt - (0 : Int32).toInt).toNat + 1) (0 : Int32) x4_4 x3_4 c_c7_4 _ _ _ (by omega) (by first | with_reducible assumption | omega | assumption) (by first | with_reducible assumption | omega | assumption) (by first | with_reducible assumption | omega | assumption) (by first | with_reducible assumption | omega | assumption) (by first | with_reducible assumption | assumption | exact hp_ _ (by omega)) (by first | with_reducible assumption | assumption | exact rng_zero (by omega) (by omega) | exact orng_zero) ⟨hP, hD⟩ hS (lv_sub hl [0, 1, 2, 3, 4, 5, 6] rfl)
        intro n_7
        induction n_7 with
        | zero =>
          intro x6_7 x4_7 x3_7 c_c7_7 H locs ls hm v0_7 v1_7 v2_7 v3_7 v4_7 rc_c7_7 hPD hS hl; obtain ⟨hP, hD⟩ := hPD
          exact absurd hm (by omega)
        | succ n_7 ih_7 =>
          intro x6_7 x4_7 x3_7 c_c7_7 H locs ls hm v0_7 v1_7 v2_7 v3_7 v4_7 rc_c7_7 hPD hS hl; obtain ⟨hP, hD⟩ := hPD
          refine lv_iload hx hb dB_36_0_28.1.2.1.2 (lv_at hl 0 rfl) ?_
          refine lv_aload_n hx hb dB_36_0_28.1.2.2.1 rfl (lv_at hl 4 rfl) ?_
          refine va_get (ci := 0) (v := .ref xn) (C := RX0) (T := TX0) (N := 9) hx hb hts (fun _ h => List.mem_cons_of_mem _ (List.mem_append_left _ (List.mem_append_right _ h))) hown hK.1 hP 0 rfl rfl 0 (by decide) (hts (.fieldLink RX0 35 "CutAtlas$Current" "net" "LCutAtlas$Net;") (List.mem_of_getElem? (i := 2) rfl)) (fun _ h9 => h9) rfl dB_36_0_28.1.2.2.2 ?_
          refine va_get (ci := 3) (v := .int vp) (C := RX3) (T := TX3) (N := 7) hx hb hts (fun _ h => List.mem_cons_of_mem _ (List.mem_append_right _ h)) hown hK.1 hP 1 rfl rfl 0 (by decide) (hts (.fieldLink RX0 43 "CutAtlas$Net" "places" "I") (List.mem_of_getElem? (i := 3) rfl)) (fun _ h9 => h9) rfl dB_36_0_28.2.1.1.1 ?_
          refine lv_icmp_ge (tgt := 99) hx hb dB_36_0_28.2.1.1.2 (by decide) (fun c_8 => ?_) (fun c_8 => ?_)
          · have t_8 : vp.toInt ≤ x6_7.toInt := Int32.le_iff_toInt_le.mp c_8
            obtain ⟨y_9, ey_9⟩ : ∃ y : Int32, y = x5_4 + 1 := ⟨_, rfl⟩
            have ty_9 : y_9.toInt = x5_4.toInt + (1 : Int32).toInt := by rw [ey_9]; exact addI (by omega) (by omega)
            refine lv_iinc (v := y_9) (lv' := [(5, .int y_9), (6, .int x6_7), (4, .int x4_7), (3, .int x3_7), (0, .ref xc), (1, .int a1), (2, .int a2)]) hx hb dB_36_0_30.2.2.1.1 hl (k := 1) rfl (by rw [ey_9]; rfl) (by decide) rfl (fun ls hl => ?_)
            refine lv_goto (tgt := 17) hx hb dB_36_0_30.2.2.1.2 (by decide) ?_
            exact ih_4 y_9 x4_7 x3_7 c_c7_7 _ _ _ (by omega) (by first | with_reducible assumption | omega | assumption) (by first | with_reducible assumption | omega | assumption) (by first | with_reducible assumption | omega | assumption) (by first | with_reducible assumption | omega | assumption) (by first | with_reducible assumption | assumption | omega) (by first | with_reducible assumption | assumption | exact rng_zero (by omega) (by omega) | exact orng_zero) ⟨hP, hD⟩ hS (lv_sub hl [0, 2, 3, 4, 5, 6] rfl)
          · have t_8 : ¬ vp.toInt ≤ x6_7.toInt := fun h => c_8 (Int32.le_iff_toInt_le.mpr h)
            refine lv_iload_n hx hb dB_36_0_28.2.1.2.1 rfl (lv_at hl 3 rfl) ?_
            refine lv_iload hx hb dB_36_0_28.2.1.2.2 (lv_at hl 0 rfl) ?_
            refine lv_ishr hx hb dB_36_0_28.2.2.1.1 ?_
            refine lv_topi (fun y_10 ey_10 => ?_)
            refine lv_iconst (v := 1) hx hb dB_36_0_28.2.2.1.2 (by decide) ?_
            refine lv_iand hx hb dB_36_0_28.2.2.2.1 ?_
            refine lv_topi (fun y_11 ey_11 => ?_)
            refine lv_if_ne (tgt := 93) hx hb dB_36_0_28.2.2.2.2 (by decide) (fun c_12 => ?_) (fun c_12 => ?_)
            · have t_12 : ¬ y_11.toInt = (0 : Int32).toInt := fun h => c_12 (Int32.toInt_inj.mp h)
              obtain ⟨y_13, ey_13⟩ : ∃ y : Int32, y = x6_7 + 1 := ⟨_, rfl⟩
              have ty_13 : y_13.toInt = x6_7.toInt + (1 : Int32).toInt := by rw [ey_13]; exact addI (by omega) (by omega)
              refine lv_iinc (v := y_13) (lv' := [(6, .int y_13), (5, .int x5_4), (4, .int x4_7), (3, .int x3_7), (0, .ref xc), (1, .int a1), (2, .int a2)]) hx hb dB_36_0_30.2.1.2.1 hl (k := 0) rfl (by rw [ey_13]; rfl) (by decide) rfl (fun ls hl => ?_)
              refine lv_goto (tgt := 34) hx hb dB_36_0_30.2.1.2.2 (by decide) ?_
              exact ih_7 y_13 x4_7 x3_7 c_c7_7 _ _ _ (by omega) (by first | with_reducible assumption | omega | assumption) (by first | with_reducible assumption | omega | assumption) (by first | with_reducible assumption | omega | assumption) (by first | with_reducible assumption | omega | assumption) (by first | with_reducible assumption | assumption | exact hp_ _ (by omega)) (by first | with_reducible assumption | assumption | exact rng_zero (by omega) (by omega) | exact orng_zero) ⟨hP, hD⟩ hS (lv_sub hl [0, 1, 2, 3, 4, 5, 6] rfl)
            · have t_12 : y_11.toInt = (0 : Int32).toInt := congrArg Int32.toInt c_12
              refine lv_aload_n hx hb dB_36_0_29.1.1.1.1 rfl (lv_at hl 4 rfl) ?_
              refine va_get (ci := 0) (v := .ref cro) (C := RX0) (T := TX0) (N := 9) hx hb hts (fun _ h => List.mem_cons_of_mem _ (List.mem_append_left _ (List.mem_append_right _ h))) hown hK.1 hP 0 rfl rfl 3 (by decide) (hts (.fieldLink RX0 16 "CutAtlas$Current" "room" "[[I") (List.mem_of_getElem? (i := 4) rfl)) (fun _ h9 => h9) rfl dB_36_0_29.1.1.1.2 ?_
              refine lv_aload_n hx hb dB_36_0_29.1.1.2.1 rfl (lv_at hl 4 rfl) ?_
              refine va_get (ci := 0) (v := .ref c7) (C := RX0) (T := TX0) (N := 9) hx hb hts (fun _ h => List.mem_cons_of_mem _ (List.mem_append_left _ (List.mem_append_right _ h))) hown hK.1 hP 0 rfl rfl 7 (by decide) (hts (.fieldLink RX0 29 "CutAtlas$Current" "queue" "[I") (List.mem_of_getElem? (i := 1) rfl)) (fun _ h9 => h9) rfl dB_36_0_29.1.1.2.2 ?_
              refine lv_iload hx hb dB_36_0_29.1.2.1.1 (lv_at hl 1 rfl) ?_
              have h_14 : vp_in x5_4 12 := in_I (by first | with_reducible assumption | omega) (by omega)
              refine va_iald hx hb hK.1 hP 15 0 rfl rfl (i := x5_4) h_14 dB_36_0_29.1.2.1.2 ?_
              refine lv_topi (fun y_15 ey_15 => ?_)
              have ry_15 : 0 ≤ y_15.toInt ∧ y_15.toInt ≤ 11 := by rw [ey_15]; exact rc_c7_7 _ (in_lt h_14)
              have h_16 : vp_in y_15 12 := in_I (by first | with_reducible assumption | omega) (by omega)
              refine va_alda hx hb hG hP 2 rfl (i := y_15) h_16 dB_36_0_29.1.2.2.1 ?_
              refine lv_topv (v' := .ref (rr y_15.toNatClampNeg)) (gf_at h_16) ?_
              refine lv_iload hx hb dB_36_0_29.1.2.2.2 (lv_at hl 0 rfl) ?_
              have h_17 : vp_in x6_7 12 := in_I (by first | with_reducible assumption | omega) (by omega)
              have hPg : va_P D vwCl (([ob0_0_ xc xn xk clo cro c4 c5 c6 c7 c8, ob3_0_ xn vp vn n1 n2 n3 n4 n5, aq_ cy 6 cro 12 (gf_ rr)] : va_W) ++ (gro (cy 0) rr Mr ++ ([ai_ cy c7 12 c_c7_7] : va_W))) H := hP
              refine va_gld (X := [ob0_0_ xc xn xk clo cro c4 c5 c6 c7 c8, ob3_0_ xn vp vn n1 n2 n3 n4 n5, aq_ cy 6 cro 12 (gf_ rr)]) (Y := [ai_ cy c7 12 c_c7_7]) (r := rr) (M := Mr) (k := y_15.toNatClampNeg) hx hb hK.1 hPg 0 rfl (in_lt h_16) (i := x6_7) h_17 dB_36_0_29.2.1.1.1 ?_
              refine lv_topi (fun y_18 ey_18 => ?_)
              refine lv_iload_n hx hb dB_36_0_29.2.1.1.2 rfl (lv_at hl 6 rfl) ?_
              refine lv_icmp_lt (tgt := 93) hx hb dB_36_0_29.2.1.2.1 (by decide) (fun c_19 => ?_) (fun c_19 => ?_)
              · have t_19 : y_18.toInt < a2.toInt := Int32.lt_iff_toInt_lt.mp c_19
                obtain ⟨y_20, ey_20⟩ : ∃ y : Int32, y = x6_7 + 1 := ⟨_, rfl⟩
                have ty_20 : y_20.toInt = x6_7.toInt + (1 : Int32).toInt := by rw [ey_20]; exact addI (by omega) (by omega)
                refine lv_iinc (v := y_20) (lv' := [(6, .int y_20), (5, .int x5_4), (4, .int x4_7), (3, .int x3_7), (0, .ref xc), (1, .int a1), (2, .int a2)]) hx hb dB_36_0_30.2.1.2.1 hl (k := 0) rfl (by rw [ey_20]; rfl) (by decide) rfl (fun ls hl => ?_)
                refine lv_goto (tgt := 34) hx hb dB_36_0_30.2.1.2.2 (by decide) ?_
                exact ih_7 y_20 x4_7 x3_7 c_c7_7 _ _ _ (by omega) (by first | with_reducible assumption | omega | assumption) (by first | with_reducible assumption | omega | assumption) (by first | with_reducible assumption | omega | assumption) (by first | with_reducible assumption | omega | assumption) (by first | with_reducible assumption | assumption | exact hp_ _ (by omega)) (by first | with_reducible assumption | assumption | exact rng_zero (by omega) (by omega) | exact orng_zero) ⟨hP, hD⟩ hS (lv_sub hl [0, 1, 2, 3, 4, 5, 6] rfl)
              · have t_19 : ¬ y_18.toInt < a2.toInt := fun h => c_19 (Int32.lt_iff_toInt_lt.mpr h)
                have hr_ : x4_7.toInt < 12 := mq_room (x := x3_7) (y := x6_7) (z := y_10) (w := y_11) (q := c_c7_7) (by assumption) (by omega) (by omega) (by assumption) (by assumption) (by omega) (by omega)
                refine lv_iload_n hx hb dB_36_0_29.2.1.2.2 rfl (lv_at hl 3 rfl) ?_
                refine lv_iconst (v := 1) hx hb dB_36_0_29.2.2.1.1 (by decide) ?_
                refine lv_iload hx hb dB_36_0_29.2.2.1.2 (lv_at hl 0 rfl) ?_
                refine lv_ishl hx hb dB_36_0_29.2.2.2.1 ?_
                refine lv_topi (fun y_21 ey_21 => ?_)
                refine lv_ior hx hb dB_36_0_29.2.2.2.2 ?_
                refine lv_topi (fun y_22 ey_22 => ?_)
                refine lv_istore_n (lv' := [(3, .int y_22), (6, .int x6_7), (5, .int x5_4), (4, .int x4_7), (0, .ref xc), (1, .int a1), (2, .int a2)]) hx hb dB_36_0_30.1.1.1 rfl hl (by decide) rfl (fun ls hl => ?_)
                refine lv_aload_n hx hb dB_36_0_30.1.1.2.1 rfl (lv_at hl 4 rfl) ?_
                refine va_get (ci := 0) (v := .ref c7) (C := RX0) (T := TX0) (N := 9) hx hb hts (fun _ h => List.mem_cons_of_mem _ (List.mem_append_left _ (List.mem_append_right _ h))) hown hK.1 hP 0 rfl rfl 7 (by decide) (hts (.fieldLink RX0 29 "CutAtlas$Current" "queue" "[I") (List.mem_of_getElem? (i := 1) rfl)) (fun _ h9 => h9) rfl dB_36_0_30.1.1.2.2 ?_
                refine lv_iload hx hb dB_36_0_30.1.2.1 (lv_at hl 3 rfl) ?_
                refine lv_iload hx hb dB_36_0_30.1.2.2.1 (lv_at hl 1 rfl) ?_
                have h_23 : vp_in x4_7 12 := in_I (by first | with_reducible assumption | omega) (by omega)
                refine va_iast hx hb hK.1 hP hD hS 15 0 rfl rfl (i := x4_7) h_23 dB_36_0_30.1.2.2.2 (fun H locs hP hD hS => ?_)
                obtain ⟨f_24, ef_24⟩ : ∃ g : Nat → Int32, g = upd c_c7_7 x4_7.toNatClampNeg x6_7 := ⟨_, rfl⟩
                refine pd_K (D := D) (cl := vwCl) (H := H) (A := A) [ob0_0_ xc xn xk clo cro c4 c5 c6 c7 c8, ob3_0_ xn vp vn n1 n2 n3 n4 n5, aq_ cy 6 cro 12 (gf_ rr), ai_ cy (rr 0) 12 (Mr 0), ai_ cy (rr 1) 12 (Mr 1), ai_ cy (rr 2) 12 (Mr 2), ai_ cy (rr 3) 12 (Mr 3), ai_ cy (rr 4) 12 (Mr 4), ai_ cy (rr 5) 12 (Mr 5), ai_ cy (rr 6) 12 (Mr 6), ai_ cy (rr 7) 12 (Mr 7), ai_ cy (rr 8) 12 (Mr 8), ai_ cy (rr 9) 12 (Mr 9), ai_ cy (rr 10) 12 (Mr 10), ai_ cy (rr 11) 12 (Mr 11), ai_ cy c7 12 f_24] (by rw [ef_24]; exact hP) (by rw [ef_24]; exact hD) (fun hP hD => ?_)
                have rf_24 : rng f_24 12 (0) (11) := by rw [ef_24]; exact rng_upd rc_c7_7 (by omega) (by omega)
                have hp_ : ∀ m2 : Int32, m2.toInt = x4_7.toInt + 1 → mq y_22 f_24 m2.toNatClampNeg := fun m2 em => mq_push (x := x3_7) (y := x6_7) (z := y_10) (w := y_11) (m := x4_7) (b := y_21) (q := c_c7_7) (by assumption) (by omega) (by omega) (by assumption) (by assumption) (by omega) (by omega) (by assumption) (by assumption) (by assumption) em
                obtain ⟨y_25, ey_25⟩ : ∃ y : Int32, y = x4_7 + 1 := ⟨_, rfl⟩
                have ty_25 : y_25.toInt = x4_7.toInt + (1 : Int32).toInt := by rw [ey_25]; exact addI (by omega) (by omega)
                refine lv_iinc (v := y_25) (lv' := [(4, .int y_25), (3, .int y_22), (6, .int x6_7), (5, .int x5_4), (0, .ref xc), (1, .int a1), (2, .int a2)]) hx hb dB_36_0_30.2.1.1 hl (k := 3) rfl (by rw [ey_25]; rfl) (by decide) rfl (fun ls hl => ?_)
                obtain ⟨y_26, ey_26⟩ : ∃ y : Int32, y = x6_7 + 1 := ⟨_, rfl⟩
                have ty_26 : y_26.toInt = x6_7.toInt + (1 : Int32).toInt := by rw [ey_26]; exact addI (by omega) (by omega)
                refine lv_iinc (v := y_26) (lv' := [(6, .int y_26), (4, .int y_25), (3, .int y_22), (5, .int x5_4), (0, .ref xc), (1, .int a1), (2, .int a2)]) hx hb dB_36_0_30.2.1.2.1 hl (k := 2) rfl (by rw [ey_26]; rfl) (by decide) rfl (fun ls hl => ?_)
                refine lv_goto (tgt := 34) hx hb dB_36_0_30.2.1.2.2 (by decide) ?_
                exact ih_7 y_26 y_25 y_22 f_24 _ _ _ (by omega) (by first | with_reducible assumption | omega | assumption) (by first | with_reducible assumption | omega | assumption) (by first | with_reducible assumption | omega | assumption) (by first | with_reducible assumption | omega | assumption) (by first | with_reducible assumption | assumption | exact hp_ _ (by omega)) (by first | with_reducible assumption | assumption | exact rng_zero (by omega) (by omega) | exact orng_zero) ⟨hP, hD⟩ hS (lv_sub hl [0, 3, 1, 2, 4, 5, 6] rfl)

set_option maxHeartbeats 4000000 in
set_option maxRecDepth 100000 in
theorem c_X0_nearCut (l : Launch) (D : va_G) (cy : Nat → ClassId) (sz : Nat) (xc : Nat) (xk : Nat) (clo : Nat) (cro : Nat) (c4 : Nat) (c5 : Nat) (c6 : Nat) (c7 : Nat) (c8 : Nat) (xn : Nat) (n1 : Nat) (n2 : Nat) (n3 : Nat) (n4 : Nat) (n5 : Nat) (vp : Int32) (vn : Int32) (rr : Nat → Nat) (Mr : Nat → Nat → Int32) (f7 : Nat → Int32) (a1 : Int32) (hvp : 0 ≤ vp.toInt ∧ vp.toInt ≤ 12) (q1 : 0 ≤ a1.toInt ∧ a1.toInt ≤ 11) (r_f7 : rng f7 12 (0) (11)) : Met l yX0_nearCut wsX0_nearCut ({ frames := 1, cells := 0, slots := 0, locals := 26 }) (va_Pc [.ref xc, .int a1] (fun U => U.heap.size = sz ∧ va_P D vwCl [ob0_0_ xc xn xk clo cro c4 c5 c6 c7 c8, ob3_0_ xn vp vn n1 n2 n3 n4 n5, aq_ cy 6 cro 12 (gf_ rr), ai_ cy (rr 0) 12 (Mr 0), ai_ cy (rr 1) 12 (Mr 1), ai_ cy (rr 2) 12 (Mr 2), ai_ cy (rr 3) 12 (Mr 3), ai_ cy (rr 4) 12 (Mr 4), ai_ cy (rr 5) 12 (Mr 5), ai_ cy (rr 6) 12 (Mr 6), ai_ cy (rr 7) 12 (Mr 7), ai_ cy (rr 8) 12 (Mr 8), ai_ cy (rr 9) 12 (Mr 9), ai_ cy (rr 10) 12 (Mr 10), ai_ cy (rr 11) 12 (Mr 11), ai_ cy c7 12 f7] U.heap ∧ kg_ D cy U ∧ va_D (fun _ => True) [ob0_0_ xc xn xk clo cro c4 c5 c6 c7 c8, ob3_0_ xn vp vn n1 n2 n3 n4 n5, aq_ cy 6 cro 12 (gf_ rr), ai_ cy (rr 0) 12 (Mr 0), ai_ cy (rr 1) 12 (Mr 1), ai_ cy (rr 2) 12 (Mr 2), ai_ cy (rr 3) 12 (Mr 3), ai_ cy (rr 4) 12 (Mr 4), ai_ cy (rr 5) 12 (Mr 5), ai_ cy (rr 6) 12 (Mr 6), ai_ cy (rr 7) 12 (Mr 7), ai_ cy (rr 8) 12 (Mr 8), ai_ cy (rr 9) 12 (Mr 9), ai_ cy (rr 10) 12 (Mr 10), ai_ cy (rr 11) 12 (Mr 11), ai_ cy c7 12 f7])) (va_Qi (fun (r : Int32) (_ : Unit) => True) (fun (_ : Unit) (t : State) => ∃ (e7 : Nat → Int32), (rng e7 12 (0) (11)) ∧ va_P D vwCl [ob0_0_ xc xn xk clo cro c4 c5 c6 c7 c8, ob3_0_ xn vp vn n1 n2 n3 n4 n5, aq_ cy 6 cro 12 (gf_ rr), ai_ cy (rr 0) 12 (Mr 0), ai_ cy (rr 1) 12 (Mr 1), ai_ cy (rr 2) 12 (Mr 2), ai_ cy (rr 3) 12 (Mr 3), ai_ cy (rr 4) 12 (Mr 4), ai_ cy (rr 5) 12 (Mr 5), ai_ cy (rr 6) 12 (Mr 6), ai_ cy (rr 7) 12 (Mr 7), ai_ cy (rr 8) 12 (Mr 8), ai_ cy (rr 9) 12 (Mr 9), ai_ cy (rr 10) 12 (Mr 10), ai_ cy (rr 11) 12 (Mr 11), ai_ cy c7 12 e7] t.heap ∧ va_D (va_A [ob0_0_ xc xn xk clo cro c4 c5 c6 c7 c8, ob3_0_ xn vp vn n1 n2 n3 n4 n5, aq_ cy 6 cro 12 (gf_ rr), ai_ cy (rr 0) 12 (Mr 0), ai_ cy (rr 1) 12 (Mr 1), ai_ cy (rr 2) 12 (Mr 2), ai_ cy (rr 3) 12 (Mr 3), ai_ cy (rr 4) 12 (Mr 4), ai_ cy (rr 5) 12 (Mr 5), ai_ cy (rr 6) 12 (Mr 6), ai_ cy (rr 7) 12 (Mr 7), ai_ cy (rr 8) 12 (Mr 8), ai_ cy (rr 9) 12 (Mr 9), ai_ cy (rr 10) 12 (Mr 10), ai_ cy (rr 11) 12 (Mr 11), ai_ cy c7 12 f7] sz) [ob0_0_ xc xn xk clo cro c4 c5 c6 c7 c8, ob3_0_ xn vp vn n1 n2 n3 n4 n5, aq_ cy 6 cro 12 (gf_ rr), ai_ cy (rr 0) 12 (Mr 0), ai_ cy (rr 1) 12 (Mr 1), ai_ cy (rr 2) 12 (Mr 2), ai_ cy (rr 3) 12 (Mr 3), ai_ cy (rr 4) 12 (Mr 4), ai_ cy (rr 5) 12 (Mr 5), ai_ cy (rr 6) 12 (Mr 6), ai_ cy (rr 7) 12 (Mr 7), ai_ cy (rr 8) 12 (Mr 8), ai_ cy (rr 9) 12 (Mr 9), ai_ cy (rr 10) 12 (Mr 10), ai_ cy (rr 11) 12 (Mr 11), ai_ cy c7 12 e7]) (va_A [ob0_0_ xc xn xk clo cro c4 c5 c6 c7 c8, ob3_0_ xn vp vn n1 n2 n3 n4 n5, aq_ cy 6 cro 12 (gf_ rr), ai_ cy (rr 0) 12 (Mr 0), ai_ cy (rr 1) 12 (Mr 1), ai_ cy (rr 2) 12 (Mr 2), ai_ cy (rr 3) 12 (Mr 3), ai_ cy (rr 4) 12 (Mr 4), ai_ cy (rr 5) 12 (Mr 5), ai_ cy (rr 6) 12 (Mr 6), ai_ cy (rr 7) 12 (Mr 7), ai_ cy (rr 8) 12 (Mr 8), ai_ cy (rr 9) 12 (Mr 9), ai_ cy (rr 10) 12 (Mr 10), ai_ cy (rr 11) 12 (Mr 11), ai_ cy c7 12 f7] sz)) 0 0 (va_A [ob0_0_ xc xn xk clo cro c4 c5 c6 c7 c8, ob3_0_ xn vp vn n1 n2 n3 n4 n5, aq_ cy 6 cro 12 (gf_ rr), ai_ cy (rr 0) 12 (Mr 0), ai_ cy (rr 1) 12 (Mr 1), ai_ cy (rr 2) 12 (Mr 2), ai_ cy (rr 3) 12 (Mr 3), ai_ cy (rr 4) 12 (Mr 4), ai_ cy (rr 5) 12 (Mr 5), ai_ cy (rr 6) 12 (Mr 6), ai_ cy (rr 7) 12 (Mr 7), ai_ cy (rr 8) 12 (Mr 8), ai_ cy (rr 9) 12 (Mr 9), ai_ cy (rr 10) 12 (Mr 10), ai_ cy (rr 11) 12 (Mr 11), ai_ cy c7 12 f7] sz) := by
  refine ofQ (cc := cX0_nearCut) (maxL := 2) (ret := (some .int)) (by decide) rfl ?_
  intro p e s m args below meth c s₁ Q hQ B hml hv
  obtain ⟨rfl, hsz, hP, hK, hD0⟩ := hv
  have hG := hK.2
  have hK := hK.1
  have hx := B.exec
  have hb := B.bytes
  have hr := B.returns
  have hts := atoms_spec (ws := wsX0_nearCut) B.pre
  have hown : s.vm.findClass RX0 = some m.cls := by have h_ := findClass_of_methodNamed B.named; exact h_
  have hlocks := B.notSynchronized
  subst hsz
  have hD := hD0.self (sz := s.heap.size)
  generalize hAe : va_A [ob0_0_ xc xn xk clo cro c4 c5 c6 c7 c8, ob3_0_ xn vp vn n1 n2 n3 n4 n5, aq_ cy 6 cro 12 (gf_ rr), ai_ cy (rr 0) 12 (Mr 0), ai_ cy (rr 1) 12 (Mr 1), ai_ cy (rr 2) 12 (Mr 2), ai_ cy (rr 3) 12 (Mr 3), ai_ cy (rr 4) 12 (Mr 4), ai_ cy (rr 5) 12 (Mr 5), ai_ cy (rr 6) 12 (Mr 6), ai_ cy (rr 7) 12 (Mr 7), ai_ cy (rr 8) 12 (Mr 8), ai_ cy (rr 9) 12 (Mr 9), ai_ cy (rr 10) 12 (Mr 10), ai_ cy (rr 11) 12 (Mr 11), ai_ cy c7 12 f7] s.heap.size = A at hD hQ
  have hA : ∀ q : Nat, s.heap.size ≤ q → A q := fun q h => by rw [← hAe]; exact Or.inr h
  have hS : va_S A s.heap s.heap [] := va_S.rf
  have hl := lv_entry ([.ref xc, .int a1]) (n := 2) (Nat.le_of_ble_eq_true rfl)
  rw [lg_entry_eq]
  generalize (lg_sl ([.ref xc, .int a1]) ++ List.replicate (2 - (lg_sl ([.ref xc, .int a1])).length) Slot.unset).toArray = ls at hl ⊢
  have hl : lv_has ls 2 [(0, .ref xc), (1, .int a1)] := hl
  have z1 : (1 : Int32).toInt = 1 := by decide
  refine lv_aload_n hx hb dB_36_0_26.1.1 rfl (lv_at hl 0 rfl) ?_
  refine lv_iload_n hx hb dB_36_0_26.1.2 rfl (lv_at hl 1 rfl) ?_
  refine lv_iconst (v := 1) hx hb dB_36_0_26.2.1 (by decide) ?_
  refine ct_S hP hD hS hA [ob0_0_ xc xn xk clo cro c4 c5 c6 c7 c8, ob3_0_ xn vp vn n1 n2 n3 n4 n5, aq_ cy 6 cro 12 (gf_ rr), ai_ cy (rr 0) 12 (Mr 0), ai_ cy (rr 1) 12 (Mr 1), ai_ cy (rr 2) 12 (Mr 2), ai_ cy (rr 3) 12 (Mr 3), ai_ cy (rr 4) 12 (Mr 4), ai_ cy (rr 5) 12 (Mr 5), ai_ cy (rr 6) 12 (Mr 6), ai_ cy (rr 7) 12 (Mr 7), ai_ cy (rr 8) 12 (Mr 8), ai_ cy (rr 9) 12 (Mr 9), ai_ cy (rr 10) 12 (Mr 10), ai_ cy (rr 11) 12 (Mr 11), ai_ cy c7 12 f7] [0, 1, 2, 3, 4, 5, 6, 7, 8, 9, 10, 11, 12, 13, 14, 15] (by decide +kernel) rfl (fun hPc hDw hFc hC_ => ?_)
  refine va_calli (va_runV (As := [.int a1, .int 1]) (rest := []) ⟨hx, hb, hml, hown, hts⟩ (c_X0_reachedFrom l D cy s.heap.size xc xk clo cro c4 c5 c6 c7 c8 xn n1 n2 n3 n4 n5 vp vn rr Mr f7 a1 (1 : Int32) (by first | with_reducible assumption | omega | assumption) (by first | with_reducible assumption | omega | assumption) (by first | with_reducible assumption | assumption | omega)) (cwV 2 hts gX0_nearCut_X0_reachedFrom rfl rfl rfl ⟨rfl, hd_X0_reachedFrom⟩ ⟨Nat.le_of_ble_eq_true rfl, Nat.le_of_ble_eq_true rfl⟩) ⟨bl_g, va_recvX hK.1 hP (ci := 0) (q0 := 0) rfl rfl, fun U hU hW => ⟨rfl, by rw [hU], by rw [hU]; exact hPc, ⟨kk_mv hW hK, arrOfT_moved hW.alike hG⟩, hDw⟩⟩ rfl rfl hl.1 rfl (lv_room (Nat.le_of_ble_eq_true rfl)) dB_36_0_26.2.2.1 ⟨Nat.le_of_ble_eq_true rfl, Nat.le_of_ble_eq_true rfl⟩) hS (fun q _ h => hFc q h) hFc (fun r_1 u t H locs ht hvm hw hB hz1 hk1 hS => ?_)
  obtain ⟨e7_2, g_3, hP1, hD1⟩ := hB
  rw [ht] at hP1
  obtain ⟨hP, hD⟩ := va_join (wr := []) (w1 := [ob0_0_ xc xn xk clo cro c4 c5 c6 c7 c8, ob3_0_ xn vp vn n1 n2 n3 n4 n5, aq_ cy 6 cro 12 (gf_ rr), ai_ cy (rr 0) 12 (Mr 0), ai_ cy (rr 1) 12 (Mr 1), ai_ cy (rr 2) 12 (Mr 2), ai_ cy (rr 3) 12 (Mr 3), ai_ cy (rr 4) 12 (Mr 4), ai_ cy (rr 5) 12 (Mr 5), ai_ cy (rr 6) 12 (Mr 6), ai_ cy (rr 7) 12 (Mr 7), ai_ cy (rr 8) 12 (Mr 8), ai_ cy (rr 9) 12 (Mr 9), ai_ cy (rr 10) 12 (Mr 10), ai_ cy (rr 11) 12 (Mr 11), ai_ cy c7 12 e7_2]) hP hD [0, 1, 2, 3, 4, 5, 6, 7, 8, 9, 10, 11, 12, 13, 14, 15] [] hC_ rfl (by decide) (by decide) hk1 hFc hP1 hD1
  refine pd_K [ob0_0_ xc xn xk clo cro c4 c5 c6 c7 c8, ob3_0_ xn vp vn n1 n2 n3 n4 n5, aq_ cy 6 cro 12 (gf_ rr), ai_ cy (rr 0) 12 (Mr 0), ai_ cy (rr 1) 12 (Mr 1), ai_ cy (rr 2) 12 (Mr 2), ai_ cy (rr 3) 12 (Mr 3), ai_ cy (rr 4) 12 (Mr 4), ai_ cy (rr 5) 12 (Mr 5), ai_ cy (rr 6) 12 (Mr 6), ai_ cy (rr 7) 12 (Mr 7), ai_ cy (rr 8) 12 (Mr 8), ai_ cy (rr 9) 12 (Mr 9), ai_ cy (rr 10) 12 (Mr 10), ai_ cy (rr 11) 12 (Mr 11), ai_ cy c7 12 e7_2] hP hD (fun hP hD => ?_)
  rw [hQ]
  exact W.iret (v := r_1) hx hb hr (fun t ht hW => ⟨⟨r_1, (), rfl, trivial, e7_2, (by first | with_reducible assumption | assumption | exact rng_zero (by omega) (by omega) | omega), by rw [ht]; exact hP, hD⟩, hS.F ht⟩) hS.2.2 dB_36_0_26.2.2.2
