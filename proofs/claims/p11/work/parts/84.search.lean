section
noncomputable def bt (x : Int32) (i : Nat) : Bool := x.toBitVec.getLsbD i
theorem b_or (x y : Int32) (i : Nat) : bt (x ||| y) i = (bt x i || bt y i) := by unfold bt; rw [Int32.toBitVec_or, BitVec.getLsbD_or]
theorem b_and (x y : Int32) (i : Nat) : bt (x &&& y) i = (bt x i && bt y i) := by unfold bt; rw [Int32.toBitVec_and, BitVec.getLsbD_and]
theorem s_l : ∀ n, n < 32 → ((nI n &&& 31).toBitVec.smod 32).toNat = n := by decide +kernel
theorem b_shl (n : Nat) (hn : n < 32) (x : Int32) {i : Nat} (hi : i < 32) : bt (x <<< (nI n &&& 31)) i = (decide (n ≤ i) && bt x (i - n)) := by
  unfold bt
  rw [Int32.toBitVec_shiftLeft]
  show (x.toBitVec <<< ((nI n &&& 31).toBitVec.smod 32).toNat).getLsbD i = _
  rw [s_l n hn, BitVec.getLsbD_shiftLeft]
  rcases Nat.lt_or_ge i n with h | h
  · simp [h, Nat.not_le.mpr h]
  · simp [hi, h, Nat.not_lt.mpr h]
theorem b_sshr (n : Nat) (hn : n < 32) (x : Int32) {i : Nat} (hi : i < 32) : bt (x >>> (nI n &&& 31)) i = if n + i < 32 then bt x (n + i) else bt x 31 := by
  unfold bt
  rw [Int32.toBitVec_shiftRight]
  show (x.toBitVec.sshiftRight ((nI n &&& 31).toBitVec.smod 32).toNat).getLsbD i = _
  rw [s_l n hn, BitVec.getLsbD_sshiftRight, BitVec.msb_eq_getLsbD_last]
  simp [hi]
theorem nI_cl {y : Int32} (h0 : 0 ≤ y.toInt) : y = nI y.toNatClampNeg := by
  obtain ⟨j, hj, rfl⟩ := nI_of (x := y) (fun h => by
    have := Int32.lt_iff_toInt_lt.mp h
    have z : (0 : Int32).toInt = 0 := by decide
    omega)
  have e := nI_toInt hj
  have c := clI (i := nI j) (by omega)
  have : (nI j).toNatClampNeg = j := by omega
  rw [this]
theorem bt_one {y : Int32} (h0 : 0 ≤ y.toInt) (h1 : y.toInt ≤ 11) : bt ((1 : Int32) <<< (y &&& 31)) y.toNatClampNeg = true := by
  have c := clI (i := y) h0
  have e := nI_cl h0
  have b := b_shl y.toNatClampNeg (by omega) 1 (i := y.toNatClampNeg) (by omega)
  rw [← e] at b
  rw [b, Nat.sub_self]
  simp
  decide
theorem bt_zero {x y z w : Int32} (h0 : 0 ≤ y.toInt) (h1 : y.toInt ≤ 11) (ez : z = x >>> (y &&& 31)) (ew : w = z &&& 1) (hw : w.toInt = 0) : bt x y.toNatClampNeg = false := by
  have c := clI (i := y) h0
  have e := nI_cl h0
  have b := b_sshr y.toNatClampNeg (by omega) x (i := 0) (by omega)
  rw [← e, ← ez, if_pos (by omega), Nat.add_zero] at b
  have w0 : w = 0 := Int32.toInt_inj.mp (by rw [hw]; decide)
  have b2 := b_and z 1 0
  rw [← ew, w0, b] at b2
  have o : bt 1 0 = true := by decide
  have o2 : bt 0 0 = false := by decide
  rw [o, o2, Bool.and_true] at b2
  exact b2.symm
/-- the class's searches: the places in the queue are met, and no two are the same -/
noncomputable def mq (x : Int32) (q : Nat → Int32) (n : Nat) : Prop := ∀ i : Nat, i < n → (0 ≤ (q i).toInt ∧ (q i).toInt ≤ 11) ∧ bt x (q i).toNatClampNeg = true ∧ ∀ j : Nat, j < i → (q j).toInt ≠ (q i).toInt
theorem mq_one {x s : Int32} {q f : Nat → Int32} (e : f = upd q (0 : Int32).toNatClampNeg s) (ex : x = (1 : Int32) <<< (s &&& 31)) (h0 : 0 ≤ s.toInt) (h1 : s.toInt ≤ 11) : mq x f 1 := fun i hi => by
  obtain rfl : i = 0 := by omega
  have e0 : f 0 = s := by
    rw [e]
    exact pk_us
  rw [e0]
  refine ⟨⟨h0, h1⟩, ?_, fun j hj => by omega⟩
  rw [ex]
  exact bt_one h0 h1
theorem mq_new {x y z w : Int32} {q : Nat → Int32} {n : Nat} (h : mq x q n) (h0 : 0 ≤ y.toInt) (h1 : y.toInt ≤ 11) (ez : z = x >>> (y &&& 31)) (ew : w = z &&& 1) (hw : w.toInt = 0) : ∀ i : Nat, i < n → (q i).toInt ≠ y.toInt := fun i hi e => by
  have b := bt_zero h0 h1 ez ew hw
  have a := (h i hi).2.1
  have e2 : q i = y := Int32.toInt_inj.mp e
  rw [e2, b] at a
  cases a
theorem mq_room {x y z w m : Int32} {q : Nat → Int32} (h : mq x q m.toNatClampNeg) (h0 : 0 ≤ y.toInt) (h1 : y.toInt ≤ 11) (ez : z = x >>> (y &&& 31)) (ew : w = z &&& 1) (hw : w.toInt = 0) (hm : 0 ≤ m.toInt) : m.toInt < 12 := by
  have hn := mq_new h h0 h1 ez ew hw
  have c := clI (i := m) hm
  have := pigeon 12 (m.toNatClampNeg + 1) (fun i => if i < m.toNatClampNeg then (q i).toInt else y.toInt) (fun i hi => by
    try dsimp only
    by_cases hk : i < m.toNatClampNeg
    · rw [if_pos hk]
      have := (h i hk).1
      omega
    · rw [if_neg hk]
      omega) (fun i j hij hj => by
    try dsimp only
    by_cases hk : j < m.toNatClampNeg
    · rw [if_pos hk, if_pos (by omega)]
      exact (h j hk).2.2 i hij
    · rw [if_neg hk, if_pos (by omega)]
      exact hn i (by omega))
  omega
theorem mq_push {x x2 y z w m m2 b : Int32} {q q2 : Nat → Int32} (h : mq x q m.toNatClampNeg) (h0 : 0 ≤ y.toInt) (h1 : y.toInt ≤ 11) (ez : z = x >>> (y &&& 31)) (ew : w = z &&& 1) (hw : w.toInt = 0) (hm : 0 ≤ m.toInt) (eb : b = (1 : Int32) <<< (y &&& 31)) (ex : x2 = x ||| b) (eq : q2 = upd q m.toNatClampNeg y) (em : m2.toInt = m.toInt + 1) : mq x2 q2 m2.toNatClampNeg := by
  have hn := mq_new h h0 h1 ez ew hw
  have c := clI (i := m) hm
  have c2 := clI (i := m2) (by omega)
  have en : m2.toNatClampNeg = m.toNatClampNeg + 1 := by omega
  rw [en]
  intro i hi
  by_cases hk : i < m.toNatClampNeg
  · have e : ∀ j : Nat, j < m.toNatClampNeg → q2 j = q j := fun j hj => by
      rw [eq]
      exact pk_un (by omega)
    rw [e i hk]
    obtain ⟨a1, a2, a3⟩ := h i hk
    refine ⟨a1, ?_, fun j hj => ?_⟩
    · rw [ex, b_or, a2]
      rfl
    · rw [e j (by omega)]
      exact a3 j hj
  · obtain rfl : i = m.toNatClampNeg := by omega
    have e1 : q2 m.toNatClampNeg = y := by
      rw [eq]
      exact pk_us
    rw [e1]
    refine ⟨⟨h0, h1⟩, ?_, fun j hj => ?_⟩
    · rw [ex, b_or, eb, bt_one h0 h1, Bool.or_true]
    · rw [eq, pk_un (by omega)]
      exact hn j hj
theorem sp_12 {x : Int32} (h : 0 ≤ x.toInt ∧ x.toInt ≤ 11) : x = 0 ∨ x = 1 ∨ x = 2 ∨ x = 3 ∨ x = 4 ∨ x = 5 ∨ x = 6 ∨ x = 7 ∨ x = 8 ∨ x = 9 ∨ x = 10 ∨ x = 11 := by
  have h1 : x.toInt = 0 ∨ x.toInt = 1 ∨ x.toInt = 2 ∨ x.toInt = 3 ∨ x.toInt = 4 ∨ x.toInt = 5 ∨ x.toInt = 6 ∨ x.toInt = 7 ∨ x.toInt = 8 ∨ x.toInt = 9 ∨ x.toInt = 10 ∨ x.toInt = 11 := by omega
  rcases h1 with h | h | h | h | h | h | h | h | h | h | h | h
  · exact Or.inl (Int32.toInt_inj.mp h)
  · exact Or.inr (Or.inl (Int32.toInt_inj.mp h))
  · exact Or.inr (Or.inr (Or.inl (Int32.toInt_inj.mp h)))
  · exact Or.inr (Or.inr (Or.inr (Or.inl (Int32.toInt_inj.mp h))))
  · exact Or.inr (Or.inr (Or.inr (Or.inr (Or.inl (Int32.toInt_inj.mp h)))))
  · exact Or.inr (Or.inr (Or.inr (Or.inr (Or.inr (Or.inl (Int32.toInt_inj.mp h))))))
  · exact Or.inr (Or.inr (Or.inr (Or.inr (Or.inr (Or.inr (Or.inl (Int32.toInt_inj.mp h)))))))
  · exact Or.inr (Or.inr (Or.inr (Or.inr (Or.inr (Or.inr (Or.inr (Or.inl (Int32.toInt_inj.mp h))))))))
  · exact Or.inr (Or.inr (Or.inr (Or.inr (Or.inr (Or.inr (Or.inr (Or.inr (Or.inl (Int32.toInt_inj.mp h)))))))))
  · exact Or.inr (Or.inr (Or.inr (Or.inr (Or.inr (Or.inr (Or.inr (Or.inr (Or.inr (Or.inl (Int32.toInt_inj.mp h))))))))))
  · exact Or.inr (Or.inr (Or.inr (Or.inr (Or.inr (Or.inr (Or.inr (Or.inr (Or.inr (Or.inr (Or.inl (Int32.toInt_inj.mp h)))))))))))
  · exact Or.inr (Or.inr (Or.inr (Or.inr (Or.inr (Or.inr (Or.inr (Or.inr (Or.inr (Or.inr (Or.inr (Int32.toInt_inj.mp h)))))))))))

set_option maxHeartbeats 4000000 in
set_option maxRecDepth 100000 in
theorem c_X0_findWay (l : Launch) (D : va_G) (cy : Nat → ClassId) (sz : Nat) (xc : Nat) (xk : Nat) (clo : Nat) (cro : Nat) (c4 : Nat) (c5 : Nat) (c6 : Nat) (c7 : Nat) (c8 : Nat) (xn : Nat) (n1 : Nat) (n2 : Nat) (n3 : Nat) (n4 : Nat) (n5 : Nat) (vp : Int32) (vn : Int32) (rr : Nat → Nat) (Mr : Nat → Nat → Int32) (f7 : Nat → Int32) (f8 : Nat → Int32) (a1 : Int32) (a2 : Int32) (hvp : 0 ≤ vp.toInt ∧ vp.toInt ≤ 12) (q1 : 0 ≤ a1.toInt ∧ a1.toInt ≤ 11) (q2 : 0 ≤ a2.toInt ∧ a2.toInt ≤ 11) (r_f7 : rng f7 12 (0) (11)) (r_f8 : rng f8 12 (0) (11)) : Met l yX0_findWay wsX0_findWay ({ frames := 0, cells := 0, slots := 0, locals := 0 }) (va_Pc [.ref xc, .int a1, .int a2] (fun U => U.heap.size = sz ∧ va_P D vwCl [ob0_0_ xc xn xk clo cro c4 c5 c6 c7 c8, ob3_0_ xn vp vn n1 n2 n3 n4 n5, aq_ cy 6 cro 12 (gf_ rr), ai_ cy (rr 0) 12 (Mr 0), ai_ cy (rr 1) 12 (Mr 1), ai_ cy (rr 2) 12 (Mr 2), ai_ cy (rr 3) 12 (Mr 3), ai_ cy (rr 4) 12 (Mr 4), ai_ cy (rr 5) 12 (Mr 5), ai_ cy (rr 6) 12 (Mr 6), ai_ cy (rr 7) 12 (Mr 7), ai_ cy (rr 8) 12 (Mr 8), ai_ cy (rr 9) 12 (Mr 9), ai_ cy (rr 10) 12 (Mr 10), ai_ cy (rr 11) 12 (Mr 11), ai_ cy c7 12 f7, ai_ cy c8 12 f8] U.heap ∧ kg_ D cy U ∧ va_D (fun _ => True) [ob0_0_ xc xn xk clo cro c4 c5 c6 c7 c8, ob3_0_ xn vp vn n1 n2 n3 n4 n5, aq_ cy 6 cro 12 (gf_ rr), ai_ cy (rr 0) 12 (Mr 0), ai_ cy (rr 1) 12 (Mr 1), ai_ cy (rr 2) 12 (Mr 2), ai_ cy (rr 3) 12 (Mr 3), ai_ cy (rr 4) 12 (Mr 4), ai_ cy (rr 5) 12 (Mr 5), ai_ cy (rr 6) 12 (Mr 6), ai_ cy (rr 7) 12 (Mr 7), ai_ cy (rr 8) 12 (Mr 8), ai_ cy (rr 9) 12 (Mr 9), ai_ cy (rr 10) 12 (Mr 10), ai_ cy (rr 11) 12 (Mr 11), ai_ cy c7 12 f7, ai_ cy c8 12 f8])) (va_Qi (fun (r : Int32) (_ : Unit) => (r.toInt = 0 ∨ r.toInt = 1)) (fun (_ : Unit) (t : State) => ∃ (e7 : Nat → Int32), ∃ (e8 : Nat → Int32), (rng e7 12 (0) (11)) ∧ (rng e8 12 (0) (11)) ∧ va_P D vwCl [ob0_0_ xc xn xk clo cro c4 c5 c6 c7 c8, ob3_0_ xn vp vn n1 n2 n3 n4 n5, aq_ cy 6 cro 12 (gf_ rr), ai_ cy (rr 0) 12 (Mr 0), ai_ cy (rr 1) 12 (Mr 1), ai_ cy (rr 2) 12 (Mr 2), ai_ cy (rr 3) 12 (Mr 3), ai_ cy (rr 4) 12 (Mr 4), ai_ cy (rr 5) 12 (Mr 5), ai_ cy (rr 6) 12 (Mr 6), ai_ cy (rr 7) 12 (Mr 7), ai_ cy (rr 8) 12 (Mr 8), ai_ cy (rr 9) 12 (Mr 9), ai_ cy (rr 10) 12 (Mr 10), ai_ cy (rr 11) 12 (Mr 11), ai_ cy c7 12 e7, ai_ cy c8 12 e8] t.heap ∧ va_D (va_A [ob0_0_ xc xn xk clo cro c4 c5 c6 c7 c8, ob3_0_ xn vp vn n1 n2 n3 n4 n5, aq_ cy 6 cro 12 (gf_ rr), ai_ cy (rr 0) 12 (Mr 0), ai_ cy (rr 1) 12 (Mr 1), ai_ cy (rr 2) 12 (Mr 2), ai_ cy (rr 3) 12 (Mr 3), ai_ cy (rr 4) 12 (Mr 4), ai_ cy (rr 5) 12 (Mr 5), ai_ cy (rr 6) 12 (Mr 6), ai_ cy (rr 7) 12 (Mr 7), ai_ cy (rr 8) 12 (Mr 8), ai_ cy (rr 9) 12 (Mr 9), ai_ cy (rr 10) 12 (Mr 10), ai_ cy (rr 11) 12 (Mr 11), ai_ cy c7 12 f7, ai_ cy c8 12 f8] sz) [ob0_0_ xc xn xk clo cro c4 c5 c6 c7 c8, ob3_0_ xn vp vn n1 n2 n3 n4 n5, aq_ cy 6 cro 12 (gf_ rr), ai_ cy (rr 0) 12 (Mr 0), ai_ cy (rr 1) 12 (Mr 1), ai_ cy (rr 2) 12 (Mr 2), ai_ cy (rr 3) 12 (Mr 3), ai_ cy (rr 4) 12 (Mr 4), ai_ cy (rr 5) 12 (Mr 5), ai_ cy (rr 6) 12 (Mr 6), ai_ cy (rr 7) 12 (Mr 7), ai_ cy (rr 8) 12 (Mr 8), ai_ cy (rr 9) 12 (Mr 9), ai_ cy (rr 10) 12 (Mr 10), ai_ cy (rr 11) 12 (Mr 11), ai_ cy c7 12 e7, ai_ cy c8 12 e8]) (va_A [ob0_0_ xc xn xk clo cro c4 c5 c6 c7 c8, ob3_0_ xn vp vn n1 n2 n3 n4 n5, aq_ cy 6 cro 12 (gf_ rr), ai_ cy (rr 0) 12 (Mr 0), ai_ cy (rr 1) 12 (Mr 1), ai_ cy (rr 2) 12 (Mr 2), ai_ cy (rr 3) 12 (Mr 3), ai_ cy (rr 4) 12 (Mr 4), ai_ cy (rr 5) 12 (Mr 5), ai_ cy (rr 6) 12 (Mr 6), ai_ cy (rr 7) 12 (Mr 7), ai_ cy (rr 8) 12 (Mr 8), ai_ cy (rr 9) 12 (Mr 9), ai_ cy (rr 10) 12 (Mr 10), ai_ cy (rr 11) 12 (Mr 11), ai_ cy c7 12 f7, ai_ cy c8 12 f8] sz)) 0 0 (va_A [ob0_0_ xc xn xk clo cro c4 c5 c6 c7 c8, ob3_0_ xn vp vn n1 n2 n3 n4 n5, aq_ cy 6 cro 12 (gf_ rr), ai_ cy (rr 0) 12 (Mr 0), ai_ cy (rr 1) 12 (Mr 1), ai_ cy (rr 2) 12 (Mr 2), ai_ cy (rr 3) 12 (Mr 3), ai_ cy (rr 4) 12 (Mr 4), ai_ cy (rr 5) 12 (Mr 5), ai_ cy (rr 6) 12 (Mr 6), ai_ cy (rr 7) 12 (Mr 7), ai_ cy (rr 8) 12 (Mr 8), ai_ cy (rr 9) 12 (Mr 9), ai_ cy (rr 10) 12 (Mr 10), ai_ cy (rr 11) 12 (Mr 11), ai_ cy c7 12 f7, ai_ cy c8 12 f8] sz) := by
  refine ofQ (cc := cX0_findWay) (maxL := 8) (ret := (some .boolean)) (by decide) rfl ?_
  intro p e s m args below meth c s₁ Q hQ B hml hv
  obtain ⟨rfl, hsz, hP, hK, hD0⟩ := hv
  have hG := hK.2
  have hK := hK.1
  have hx := B.exec
  have hb := B.bytes
  have hr := B.returns
  have hts := atoms_spec (ws := wsX0_findWay) B.pre
  have hown : s.vm.findClass RX0 = some m.cls := by have h_ := findClass_of_methodNamed B.named; exact h_
  have hlocks := B.notSynchronized
  subst hsz
  have hD := hD0.self (sz := s.heap.size)
  generalize hAe : va_A [ob0_0_ xc xn xk clo cro c4 c5 c6 c7 c8, ob3_0_ xn vp vn n1 n2 n3 n4 n5, aq_ cy 6 cro 12 (gf_ rr), ai_ cy (rr 0) 12 (Mr 0), ai_ cy (rr 1) 12 (Mr 1), ai_ cy (rr 2) 12 (Mr 2), ai_ cy (rr 3) 12 (Mr 3), ai_ cy (rr 4) 12 (Mr 4), ai_ cy (rr 5) 12 (Mr 5), ai_ cy (rr 6) 12 (Mr 6), ai_ cy (rr 7) 12 (Mr 7), ai_ cy (rr 8) 12 (Mr 8), ai_ cy (rr 9) 12 (Mr 9), ai_ cy (rr 10) 12 (Mr 10), ai_ cy (rr 11) 12 (Mr 11), ai_ cy c7 12 f7, ai_ cy c8 12 f8] s.heap.size = A at hD hQ
  have hA : ∀ q : Nat, s.heap.size ≤ q → A q := fun q h => by rw [← hAe]; exact Or.inr h
  have hS : va_S A s.heap s.heap [] := va_S.rf
  have hl := lv_entry ([.ref xc, .int a1, .int a2]) (n := 8) (Nat.le_of_ble_eq_true rfl)
  rw [lg_entry_eq]
  generalize (lg_sl ([.ref xc, .int a1, .int a2]) ++ List.replicate (8 - (lg_sl ([.ref xc, .int a1, .int a2])).length) Slot.unset).toArray = ls at hl ⊢
  have hl : lv_has ls 8 [(0, .ref xc), (1, .int a1), (2, .int a2)] := hl
  have z0 : (0 : Int32).toInt = 0 := by decide
  have z1 : (1 : Int32).toInt = 1 := by decide
  have z12 : (12 : Int32).toInt = 12 := by decide
  refine lv_iconst (v := 1) hx hb dB_36_0_8.1.1.1.1 (by decide) ?_
  refine lv_iload_n hx hb dB_36_0_8.1.1.1.2 rfl (lv_at hl 1 rfl) ?_
  refine lv_ishl hx hb dB_36_0_8.1.1.2.1 ?_
  refine lv_topi (fun y_1 ey_1 => ?_)
  refine lv_istore_n (lv' := [(3, .int y_1), (0, .ref xc), (1, .int a1), (2, .int a2)]) hx hb dB_36_0_8.1.1.2.2 rfl hl (by decide) rfl (fun ls hl => ?_)
  refine lv_iconst (v := 1) hx hb dB_36_0_8.1.2.1.1 (by decide) ?_
  refine lv_istore (lv' := [(4, .int 1), (3, .int y_1), (0, .ref xc), (1, .int a1), (2, .int a2)]) hx hb dB_36_0_8.1.2.1.2 hl (by decide) rfl (fun ls hl => ?_)
  refine lv_aload_n hx hb dB_36_0_8.1.2.2.1 rfl (lv_at hl 2 rfl) ?_
  refine va_get (ci := 0) (v := .ref c7) (C := RX0) (T := TX0) (N := 9) hx hb hts (fun _ h => List.mem_cons_of_mem _ (List.mem_append_left _ (List.mem_append_right _ h))) hown hK.1 hP 0 rfl rfl 7 (by decide) (hts (.fieldLink RX0 29 "CutAtlas$Current" "queue" "[I") (List.mem_of_getElem? (i := 1) rfl)) (fun _ h9 => h9) rfl dB_36_0_8.1.2.2.2 ?_
  refine lv_iconst (v := 0) hx hb dB_36_0_8.2.1.1.1 (by decide) ?_
  refine lv_iload_n hx hb dB_36_0_8.2.1.1.2 rfl (lv_at hl 3 rfl) ?_
  have h_2 : vp_in (0 : Int32) 12 := by unfold vp_in; decide
  refine va_iast hx hb hK.1 hP hD hS 15 0 rfl rfl (i := 0) h_2 dB_36_0_8.2.1.2.1 (fun H locs hP hD hS => ?_)
  obtain ⟨f_3, ef_3⟩ : ∃ g : Nat → Int32, g = upd f7 (0 : Int32).toNatClampNeg a1 := ⟨_, rfl⟩
  refine pd_K (D := D) (cl := vwCl) (H := H) (A := A) [ob0_0_ xc xn xk clo cro c4 c5 c6 c7 c8, ob3_0_ xn vp vn n1 n2 n3 n4 n5, aq_ cy 6 cro 12 (gf_ rr), ai_ cy (rr 0) 12 (Mr 0), ai_ cy (rr 1) 12 (Mr 1), ai_ cy (rr 2) 12 (Mr 2), ai_ cy (rr 3) 12 (Mr 3), ai_ cy (rr 4) 12 (Mr 4), ai_ cy (rr 5) 12 (Mr 5), ai_ cy (rr 6) 12 (Mr 6), ai_ cy (rr 7) 12 (Mr 7), ai_ cy (rr 8) 12 (Mr 8), ai_ cy (rr 9) 12 (Mr 9), ai_ cy (rr 10) 12 (Mr 10), ai_ cy (rr 11) 12 (Mr 11), ai_ cy c7 12 f_3, ai_ cy c8 12 f8] (by rw [ef_3]; exact hP) (by rw [ef_3]; exact hD) (fun hP hD => ?_)
  have rf_3 : rng f_3 12 (0) (11) := by rw [ef_3]; exact rng_upd r_f7 (by omega) (by omega)
  have hq_ : mq y_1 f_3 (1 : Int32).toNatClampNeg := mq_one (by assumption) (by assumption) (by omega) (by omega)
  refine lv_iconst (v := 0) hx hb dB_36_0_8.2.1.2.2 (by decide) ?_
  refine lv_istore (lv' := [(5, .int 0), (4, .int 1), (3, .int y_1), (0, .ref xc), (1, .int a1), (2, .int a2)]) hx hb dB_36_0_8.2.2.1.1 hl (by decide) rfl (fun ls hl => ?_)
  suffices LOOP_4 : ∀ (n_4 : Nat) (x5_4 : Int32) (x4_4 : Int32) (x3_4 : Int32) (c_c7_4 : Nat → Int32) (c_c8_4 : Nat → Int32) (H : Heap) (locs : List Loc) (ls : Array Slot), 12 - x5_4.toInt < (n_4 : Int) → (1 ≤ x4_4.toInt) → (x4_4.toInt ≤ 12) → (0 ≤ x5_4.toInt) → (x5_4.toInt ≤ 12) → (mq x3_4 c_c7_4 x4_4.toNatClampNeg) → (rng c_c7_4 12 (0) (11)) → (rng c_c8_4 12 (0) (11)) → pd_2 D vwCl A [ob0_0_ xc xn xk clo cro c4 c5 c6 c7 c8, ob3_0_ xn vp vn n1 n2 n3 n4 n5, aq_ cy 6 cro 12 (gf_ rr), ai_ cy (rr 0) 12 (Mr 0), ai_ cy (rr 1) 12 (Mr 1), ai_ cy (rr 2) 12 (Mr 2), ai_ cy (rr 3) 12 (Mr 3), ai_ cy (rr 4) 12 (Mr 4), ai_ cy (rr 5) 12 (Mr 5), ai_ cy (rr 6) 12 (Mr 6), ai_ cy (rr 7) 12 (Mr 7), ai_ cy (rr 8) 12 (Mr 8), ai_ cy (rr 9) 12 (Mr 9), ai_ cy (rr 10) 12 (Mr 10), ai_ cy (rr 11) 12 (Mr 11), ai_ cy c7 12 c_c7_4, ai_ cy c8 12 c_c8_4] H → va_S A s.heap H locs → lv_has ls 8 [(5, .int x5_4), (4, .int x4_4), (3, .int x3_4), (0, .ref xc), (1, .int a1), (2, .int a2)] → W p l e ({ frames := 0, cells := 0, slots := 0, locals := 0 } : Room) s m (([.ref xc, .int a1, .int a2] : List Value).toArray) below meth c H locs 0 0 Q (F0 m 17 ls []) from LOOP_4 ((12 - (0 : Int32).toInt).toNat + 1) (0 : Int32) (1 : Int32) y_1 f_3 f8 _ _ _ (by omega) (by first | with_reducible assumption | omega | assumption) (by first | with_reducible assumption | omega | assumption) (by first | with_reducible assumption | omega | assumption) (by first | with_reducible assumption | omega | assumption) (by first | with_reducible assumption | assumption | omega) (by first | with_reducible assumption | assumption | exact rng_zero (by omega) (by omega) | exact orng_zero) (by first | with_reducible assumption | assumption | exact rng_zero (by omega) (by omega) | exact orng_zero) ⟨hP, hD⟩ hS (lv_sub hl [0, 1, 2, 3, 4, 5] rfl)
  intro n_4
  induction n_4 with
  | zero =>
    intro x5_4 x4_4 x3_4 c_c7_4 c_c8_4 H locs ls hm v0_4 v1_4 v2_4 v3_4 v4_4 rc_c7_4 rc_c8_4 hPD hS hl; obtain ⟨hP, hD⟩ := hPD
    exact absurd hm (by omega)
  | succ n_4 ih_4 =>
    intro x5_4 x4_4 x3_4 c_c7_4 c_c8_4 H locs ls hm v0_4 v1_4 v2_4 v3_4 v4_4 rc_c7_4 rc_c8_4 hPD hS hl; obtain ⟨hP, hD⟩ := hPD
    refine lv_iload hx hb dB_36_0_8.2.2.1.2 (lv_at hl 0 rfl) ?_
    refine lv_iload hx hb dB_36_0_8.2.2.2.1 (lv_at hl 1 rfl) ?_
    refine lv_icmp_ge (tgt := 125) hx hb dB_36_0_8.2.2.2.2 (by decide) (fun c_5 => ?_) (fun c_5 => ?_)
    · have t_5 : x4_4.toInt ≤ x5_4.toInt := Int32.le_iff_toInt_le.mp c_5
      refine lv_iconst (v := 0) hx hb dB_36_0_12.2.2.1 (by decide) ?_
      rw [hQ]
      exact W.zret (ty := .boolean) (v := 0) hx hb hr (by decide) (fun t ht hW => ⟨⟨0, (), rfl, (by omega), c_c7_4, c_c8_4, (by first | with_reducible assumption | assumption | exact rng_zero (by omega) (by omega) | omega), (by first | with_reducible assumption | assumption | exact rng_zero (by omega) (by omega) | omega), by rw [ht]; exact hP, hD⟩, hS.F ht⟩) hS.2.2 dB_36_0_12.2.2.2
    · have t_5 : ¬ x4_4.toInt ≤ x5_4.toInt := fun h => c_5 (Int32.le_iff_toInt_le.mpr h)
      refine lv_iload hx hb dB_36_0_9.1.1.1.1 (lv_at hl 0 rfl) ?_
      refine lv_bipush (v := 12) hx hb dB_36_0_9.1.1.1.2 (by decide) ?_
      refine lv_icmp_ge (tgt := 125) hx hb dB_36_0_9.1.1.2.1 (by decide) (fun c_6 => ?_) (fun c_6 => ?_)
      · have t_6 : (12 : Int32).toInt ≤ x5_4.toInt := Int32.le_iff_toInt_le.mp c_6
        refine lv_iconst (v := 0) hx hb dB_36_0_12.2.2.1 (by decide) ?_
        rw [hQ]
        exact W.zret (ty := .boolean) (v := 0) hx hb hr (by decide) (fun t ht hW => ⟨⟨0, (), rfl, (by omega), c_c7_4, c_c8_4, (by first | with_reducible assumption | assumption | exact rng_zero (by omega) (by omega) | omega), (by first | with_reducible assumption | assumption | exact rng_zero (by omega) (by omega) | omega), by rw [ht]; exact hP, hD⟩, hS.F ht⟩) hS.2.2 dB_36_0_12.2.2.2
      · have t_6 : ¬ (12 : Int32).toInt ≤ x5_4.toInt := fun h => c_6 (Int32.le_iff_toInt_le.mpr h)
        refine lv_aload_n hx hb dB_36_0_9.1.1.2.2 rfl (lv_at hl 3 rfl) ?_
        refine va_get (ci := 0) (v := .ref c7) (C := RX0) (T := TX0) (N := 9) hx hb hts (fun _ h => List.mem_cons_of_mem _ (List.mem_append_left _ (List.mem_append_right _ h))) hown hK.1 hP 0 rfl rfl 7 (by decide) (hts (.fieldLink RX0 29 "CutAtlas$Current" "queue" "[I") (List.mem_of_getElem? (i := 1) rfl)) (fun _ h9 => h9) rfl dB_36_0_9.1.2.1.1 ?_
        refine lv_iload hx hb dB_36_0_9.1.2.1.2 (lv_at hl 0 rfl) ?_
        have h_7 : vp_in x5_4 12 := in_I (by first | with_reducible assumption | omega) (by omega)
        refine va_iald hx hb hK.1 hP 15 0 rfl rfl (i := x5_4) h_7 dB_36_0_9.1.2.2.1 ?_
        refine lv_topi (fun y_8 ey_8 => ?_)
        have ry_8 : 0 ≤ y_8.toInt ∧ y_8.toInt ≤ 11 := by rw [ey_8]; exact rc_c7_4 _ (in_lt h_7)
        refine lv_istore (lv' := [(6, .int y_8), (5, .int x5_4), (4, .int x4_4), (3, .int x3_4), (0, .ref xc), (1, .int a1), (2, .int a2)]) hx hb dB_36_0_9.1.2.2.2 hl (by decide) rfl (fun ls hl => ?_)
        refine lv_iconst (v := 0) hx hb dB_36_0_9.2.1.1.1 (by decide) ?_
        refine lv_istore (lv' := [(7, .int 0), (6, .int y_8), (5, .int x5_4), (4, .int x4_4), (3, .int x3_4), (0, .ref xc), (1, .int a1), (2, .int a2)]) hx hb dB_36_0_9.2.1.1.2 hl (by decide) rfl (fun ls hl => ?_)
        suffices LOOP_9 : ∀ (n_9 : Nat) (x7_9 : Int32) (x4_9 : Int32) (x3_9 : Int32) (c_c7_9 : Nat → Int32) (c_c8_9 : Nat → Int32) (H : Heap) (locs : List Loc) (ls : Array Slot), vp.toInt - x7_9.toInt < (n_9 : Int) → (1 ≤ x4_9.toInt) → (x4_9.toInt ≤ 12) → (0 ≤ x7_9.toInt) → (x7_9.toInt ≤ vp.toInt) → (mq x3_9 c_c7_9 x4_9.toNatClampNeg) → (rng c_c7_9 12 (0) (11)) → (rng c_c8_9 12 (0) (11)) → pd_2 D vwCl A [ob0_0_ xc xn xk clo cro c4 c5 c6 c7 c8, ob3_0_ xn vp vn n1 n2 n3 n4 n5, aq_ cy 6 cro 12 (gf_ rr), ai_ cy (rr 0) 12 (Mr 0), ai_ cy (rr 1) 12 (Mr 1), ai_ cy (rr 2) 12 (Mr 2), ai_ cy (rr 3) 12 (Mr 3), ai_ cy (rr 4) 12 (Mr 4), ai_ cy (rr 5) 12 (Mr 5), ai_ cy (rr 6) 12 (Mr 6), ai_ cy (rr 7) 12 (Mr 7), ai_ cy (rr 8) 12 (Mr 8), ai_ cy (rr 9) 12 (Mr 9), ai_ cy (rr 10) 12 (Mr 10), ai_ cy (rr 11) 12 (Mr 11), ai_ cy c7 12 c_c7_9, ai_ cy c8 12 c_c8_9] H → va_S A s.heap H locs → lv_has ls 8 [(7, .int x7_9), (6, .int y_8), (5, .int x5_4), (4, .int x4_9), (3, .int x3_9), (0, .ref xc), (1, .int a1), (2, .int a2)] → W p l e ({ frames := 0, cells := 0, slots := 0, locals := 0 } : Room) s m (([.ref xc, .int a1, .int a2] : List Value).toArray) below meth c H locs 0 0 Q (F0 m 43 ls []) from LOOP_9 ((vp.toInt - (0 : Int32).toInt).toNat + 1) (0 : Int32) x4_4 x3_4 c_c7_4 c_c8_4 _ _ _ (by omega) (by first | with_reducible assumption | omega | assumption) (by first | with_reducible assumption | omega | assumption) (by first | with_reducible assumption | omega | assumption) (by first | with_reducible assumption | omega | assumption) (by first | with_reducible assumption | assumption | exact hp_ _ (by omega)) (by first | with_reducible assumption | assumption | exact rng_zero (by omega) (by omega) | exact orng_zero) (by first | with_reducible assumption | assumption | exact rng_zero (by omega) (by omega) | exact orng_zero) ⟨hP, hD⟩ hS (lv_sub hl [0, 1, 2, 3, 4, 5, 6, 7] rfl)
        intro n_9
        induction n_9 with
        | zero =>
          intro x7_9 x4_9 x3_9 c_c7_9 c_c8_9 H locs ls hm v0_9 v1_9 v2_9 v3_9 v4_9 rc_c7_9 rc_c8_9 hPD hS hl; obtain ⟨hP, hD⟩ := hPD
          exact absurd hm (by omega)
        | succ n_9 ih_9 =>
          intro x7_9 x4_9 x3_9 c_c7_9 c_c8_9 H locs ls hm v0_9 v1_9 v2_9 v3_9 v4_9 rc_c7_9 rc_c8_9 hPD hS hl; obtain ⟨hP, hD⟩ := hPD
          refine lv_iload hx hb dB_36_0_9.2.1.2.1 (lv_at hl 0 rfl) ?_
          refine lv_aload_n hx hb dB_36_0_9.2.1.2.2 rfl (lv_at hl 5 rfl) ?_
          refine va_get (ci := 0) (v := .ref xn) (C := RX0) (T := TX0) (N := 9) hx hb hts (fun _ h => List.mem_cons_of_mem _ (List.mem_append_left _ (List.mem_append_right _ h))) hown hK.1 hP 0 rfl rfl 0 (by decide) (hts (.fieldLink RX0 35 "CutAtlas$Current" "net" "LCutAtlas$Net;") (List.mem_of_getElem? (i := 2) rfl)) (fun _ h9 => h9) rfl dB_36_0_9.2.2.1.1 ?_
          refine va_get (ci := 3) (v := .int vp) (C := RX3) (T := TX3) (N := 7) hx hb hts (fun _ h => List.mem_cons_of_mem _ (List.mem_append_right _ h)) hown hK.1 hP 1 rfl rfl 0 (by decide) (hts (.fieldLink RX0 43 "CutAtlas$Net" "places" "I") (List.mem_of_getElem? (i := 3) rfl)) (fun _ h9 => h9) rfl dB_36_0_9.2.2.1.2 ?_
          refine lv_icmp_ge (tgt := 119) hx hb dB_36_0_9.2.2.2.1 (by decide) (fun c_10 => ?_) (fun c_10 => ?_)
          · have t_10 : vp.toInt ≤ x7_9.toInt := Int32.le_iff_toInt_le.mp c_10
            obtain ⟨y_11, ey_11⟩ : ∃ y : Int32, y = x5_4 + 1 := ⟨_, rfl⟩
            have ty_11 : y_11.toInt = x5_4.toInt + (1 : Int32).toInt := by rw [ey_11]; exact addI (by omega) (by omega)
            refine lv_iinc (v := y_11) (lv' := [(5, .int y_11), (7, .int x7_9), (6, .int y_8), (4, .int x4_9), (3, .int x3_9), (0, .ref xc), (1, .int a1), (2, .int a2)]) hx hb dB_36_0_12.2.1.1 hl (k := 2) rfl (by rw [ey_11]; rfl) (by decide) rfl (fun ls hl => ?_)
            refine lv_goto (tgt := 17) hx hb dB_36_0_12.2.1.2 (by decide) ?_
            exact ih_4 y_11 x4_9 x3_9 c_c7_9 c_c8_9 _ _ _ (by omega) (by first | with_reducible assumption | omega | assumption) (by first | with_reducible assumption | omega | assumption) (by first | with_reducible assumption | omega | assumption) (by first | with_reducible assumption | omega | assumption) (by first | with_reducible assumption | assumption | omega) (by first | with_reducible assumption | assumption | exact rng_zero (by omega) (by omega) | exact orng_zero) (by first | with_reducible assumption | assumption | exact rng_zero (by omega) (by omega) | exact orng_zero) ⟨hP, hD⟩ hS (lv_sub hl [0, 3, 4, 5, 6, 7] rfl)
          · have t_10 : ¬ vp.toInt ≤ x7_9.toInt := fun h => c_10 (Int32.le_iff_toInt_le.mpr h)
            refine lv_iload_n hx hb dB_36_0_9.2.2.2.2 rfl (lv_at hl 4 rfl) ?_
            refine lv_iload hx hb dB_36_0_10.1.1.1.1 (lv_at hl 0 rfl) ?_
            refine lv_ishr hx hb dB_36_0_10.1.1.1.2 ?_
            refine lv_topi (fun y_12 ey_12 => ?_)
            refine lv_iconst (v := 1) hx hb dB_36_0_10.1.1.2.1 (by decide) ?_
            refine lv_iand hx hb dB_36_0_10.1.1.2.2 ?_
            refine lv_topi (fun y_13 ey_13 => ?_)
            refine lv_if_ne (tgt := 113) hx hb dB_36_0_10.1.2.1.1 (by decide) (fun c_14 => ?_) (fun c_14 => ?_)
            · have t_14 : ¬ y_13.toInt = (0 : Int32).toInt := fun h => c_14 (Int32.toInt_inj.mp h)
              obtain ⟨y_15, ey_15⟩ : ∃ y : Int32, y = x7_9 + 1 := ⟨_, rfl⟩
              have ty_15 : y_15.toInt = x7_9.toInt + (1 : Int32).toInt := by rw [ey_15]; exact addI (by omega) (by omega)
              refine lv_iinc (v := y_15) (lv' := [(7, .int y_15), (6, .int y_8), (5, .int x5_4), (4, .int x4_9), (3, .int x3_9), (0, .ref xc), (1, .int a1), (2, .int a2)]) hx hb dB_36_0_12.1.2.1 hl (k := 0) rfl (by rw [ey_15]; rfl) (by decide) rfl (fun ls hl => ?_)
              refine lv_goto (tgt := 43) hx hb dB_36_0_12.1.2.2 (by decide) ?_
              exact ih_9 y_15 x4_9 x3_9 c_c7_9 c_c8_9 _ _ _ (by omega) (by first | with_reducible assumption | omega | assumption) (by first | with_reducible assumption | omega | assumption) (by first | with_reducible assumption | omega | assumption) (by first | with_reducible assumption | omega | assumption) (by first | with_reducible assumption | assumption | exact hp_ _ (by omega)) (by first | with_reducible assumption | assumption | exact rng_zero (by omega) (by omega) | exact orng_zero) (by first | with_reducible assumption | assumption | exact rng_zero (by omega) (by omega) | exact orng_zero) ⟨hP, hD⟩ hS (lv_sub hl [0, 1, 2, 3, 4, 5, 6, 7] rfl)
            · have t_14 : y_13.toInt = (0 : Int32).toInt := congrArg Int32.toInt c_14
              refine lv_aload_n hx hb dB_36_0_10.1.2.1.2 rfl (lv_at hl 5 rfl) ?_
              refine va_get (ci := 0) (v := .ref cro) (C := RX0) (T := TX0) (N := 9) hx hb hts (fun _ h => List.mem_cons_of_mem _ (List.mem_append_left _ (List.mem_append_right _ h))) hown hK.1 hP 0 rfl rfl 3 (by decide) (hts (.fieldLink RX0 16 "CutAtlas$Current" "room" "[[I") (List.mem_of_getElem? (i := 4) rfl)) (fun _ h9 => h9) rfl dB_36_0_10.1.2.2.1 ?_
              refine lv_iload hx hb dB_36_0_10.1.2.2.2 (lv_at hl 1 rfl) ?_
              have h_16 : vp_in y_8 12 := in_I (by first | with_reducible assumption | omega) (by omega)
              refine va_alda hx hb hG hP 2 rfl (i := y_8) h_16 dB_36_0_10.2.1.1.1 ?_
              refine lv_topv (v' := .ref (rr y_8.toNatClampNeg)) (gf_at h_16) ?_
              refine lv_iload hx hb dB_36_0_10.2.1.1.2 (lv_at hl 0 rfl) ?_
              have h_17 : vp_in x7_9 12 := in_I (by first | with_reducible assumption | omega) (by omega)
              have hPg : va_P D vwCl (([ob0_0_ xc xn xk clo cro c4 c5 c6 c7 c8, ob3_0_ xn vp vn n1 n2 n3 n4 n5, aq_ cy 6 cro 12 (gf_ rr)] : va_W) ++ (gro (cy 0) rr Mr ++ ([ai_ cy c7 12 c_c7_9, ai_ cy c8 12 c_c8_9] : va_W))) H := hP
              refine va_gld (X := [ob0_0_ xc xn xk clo cro c4 c5 c6 c7 c8, ob3_0_ xn vp vn n1 n2 n3 n4 n5, aq_ cy 6 cro 12 (gf_ rr)]) (Y := [ai_ cy c7 12 c_c7_9, ai_ cy c8 12 c_c8_9]) (r := rr) (M := Mr) (k := y_8.toNatClampNeg) hx hb hK.1 hPg 0 rfl (in_lt h_16) (i := x7_9) h_17 dB_36_0_10.2.1.2.1 ?_
              refine lv_topi (fun y_18 ey_18 => ?_)
              refine lv_if_le (tgt := 113) hx hb dB_36_0_10.2.1.2.2 (by decide) (fun c_19 => ?_) (fun c_19 => ?_)
              · have t_19 : y_18.toInt ≤ (0 : Int32).toInt := Int32.le_iff_toInt_le.mp c_19
                obtain ⟨y_20, ey_20⟩ : ∃ y : Int32, y = x7_9 + 1 := ⟨_, rfl⟩
                have ty_20 : y_20.toInt = x7_9.toInt + (1 : Int32).toInt := by rw [ey_20]; exact addI (by omega) (by omega)
                refine lv_iinc (v := y_20) (lv' := [(7, .int y_20), (6, .int y_8), (5, .int x5_4), (4, .int x4_9), (3, .int x3_9), (0, .ref xc), (1, .int a1), (2, .int a2)]) hx hb dB_36_0_12.1.2.1 hl (k := 0) rfl (by rw [ey_20]; rfl) (by decide) rfl (fun ls hl => ?_)
                refine lv_goto (tgt := 43) hx hb dB_36_0_12.1.2.2 (by decide) ?_
                exact ih_9 y_20 x4_9 x3_9 c_c7_9 c_c8_9 _ _ _ (by omega) (by first | with_reducible assumption | omega | assumption) (by first | with_reducible assumption | omega | assumption) (by first | with_reducible assumption | omega | assumption) (by first | with_reducible assumption | omega | assumption) (by first | with_reducible assumption | assumption | exact hp_ _ (by omega)) (by first | with_reducible assumption | assumption | exact rng_zero (by omega) (by omega) | exact orng_zero) (by first | with_reducible assumption | assumption | exact rng_zero (by omega) (by omega) | exact orng_zero) ⟨hP, hD⟩ hS (lv_sub hl [0, 1, 2, 3, 4, 5, 6, 7] rfl)
              · have t_19 : ¬ y_18.toInt ≤ (0 : Int32).toInt := fun h => c_19 (Int32.le_iff_toInt_le.mpr h)
                refine lv_aload_n hx hb dB_36_0_10.2.2.1.1 rfl (lv_at hl 5 rfl) ?_
                refine va_get (ci := 0) (v := .ref c8) (C := RX0) (T := TX0) (N := 9) hx hb hts (fun _ h => List.mem_cons_of_mem _ (List.mem_append_left _ (List.mem_append_right _ h))) hown hK.1 hP 0 rfl rfl 8 (by decide) (hts (.fieldLink RX0 32 "CutAtlas$Current" "cameFrom" "[I") (List.mem_of_getElem? (i := 5) rfl)) (fun _ h9 => h9) rfl dB_36_0_10.2.2.1.2 ?_
                refine lv_iload hx hb dB_36_0_10.2.2.2.1 (lv_at hl 0 rfl) ?_
                refine lv_iload hx hb dB_36_0_10.2.2.2.2 (lv_at hl 1 rfl) ?_
                refine va_iast hx hb hK.1 hP hD hS 16 0 rfl rfl (i := x7_9) h_17 dB_36_0_11.1.1.1.1 (fun H locs hP hD hS => ?_)
                obtain ⟨f_22, ef_22⟩ : ∃ g : Nat → Int32, g = upd c_c8_9 x7_9.toNatClampNeg y_8 := ⟨_, rfl⟩
                refine pd_K (D := D) (cl := vwCl) (H := H) (A := A) [ob0_0_ xc xn xk clo cro c4 c5 c6 c7 c8, ob3_0_ xn vp vn n1 n2 n3 n4 n5, aq_ cy 6 cro 12 (gf_ rr), ai_ cy (rr 0) 12 (Mr 0), ai_ cy (rr 1) 12 (Mr 1), ai_ cy (rr 2) 12 (Mr 2), ai_ cy (rr 3) 12 (Mr 3), ai_ cy (rr 4) 12 (Mr 4), ai_ cy (rr 5) 12 (Mr 5), ai_ cy (rr 6) 12 (Mr 6), ai_ cy (rr 7) 12 (Mr 7), ai_ cy (rr 8) 12 (Mr 8), ai_ cy (rr 9) 12 (Mr 9), ai_ cy (rr 10) 12 (Mr 10), ai_ cy (rr 11) 12 (Mr 11), ai_ cy c7 12 c_c7_9, ai_ cy c8 12 f_22] (by rw [ef_22]; exact hP) (by rw [ef_22]; exact hD) (fun hP hD => ?_)
                have rf_22 : rng f_22 12 (0) (11) := by rw [ef_22]; exact rng_upd rc_c8_9 (by omega) (by omega)
                refine lv_iload hx hb dB_36_0_11.1.1.1.2 (lv_at hl 0 rfl) ?_
                refine lv_iload_n hx hb dB_36_0_11.1.1.2.1 rfl (lv_at hl 7 rfl) ?_
                refine lv_icmp_ne (tgt := 94) hx hb dB_36_0_11.1.1.2.2 (by decide) (fun c_23 => ?_) (fun c_23 => ?_)
                · have t_23 : ¬ x7_9.toInt = a2.toInt := fun h => c_23 (Int32.toInt_inj.mp h)
                  have hr_ : x4_9.toInt < 12 := mq_room (x := x3_9) (y := x7_9) (z := y_12) (w := y_13) (q := c_c7_9) (by assumption) (by omega) (by omega) (by assumption) (by assumption) (by omega) (by omega)
                  refine lv_iload_n hx hb dB_36_0_11.1.2.2.1 rfl (lv_at hl 4 rfl) ?_
                  refine lv_iconst (v := 1) hx hb dB_36_0_11.1.2.2.2 (by decide) ?_
                  refine lv_iload hx hb dB_36_0_11.2.1.1.1 (lv_at hl 0 rfl) ?_
                  refine lv_ishl hx hb dB_36_0_11.2.1.1.2 ?_
                  refine lv_topi (fun y_24 ey_24 => ?_)
                  refine lv_ior hx hb dB_36_0_11.2.1.2.1 ?_
                  refine lv_topi (fun y_25 ey_25 => ?_)
                  refine lv_istore_n (lv' := [(3, .int y_25), (7, .int x7_9), (6, .int y_8), (5, .int x5_4), (4, .int x4_9), (0, .ref xc), (1, .int a1), (2, .int a2)]) hx hb dB_36_0_11.2.1.2.2 rfl hl (by decide) rfl (fun ls hl => ?_)
                  refine lv_aload_n hx hb dB_36_0_11.2.2.1.1 rfl (lv_at hl 5 rfl) ?_
                  refine va_get (ci := 0) (v := .ref c7) (C := RX0) (T := TX0) (N := 9) hx hb hts (fun _ h => List.mem_cons_of_mem _ (List.mem_append_left _ (List.mem_append_right _ h))) hown hK.1 hP 0 rfl rfl 7 (by decide) (hts (.fieldLink RX0 29 "CutAtlas$Current" "queue" "[I") (List.mem_of_getElem? (i := 1) rfl)) (fun _ h9 => h9) rfl dB_36_0_11.2.2.1.2 ?_
                  refine lv_iload hx hb dB_36_0_11.2.2.2.1 (lv_at hl 4 rfl) ?_
                  refine lv_iload hx hb dB_36_0_11.2.2.2.2 (lv_at hl 1 rfl) ?_
                  have h_26 : vp_in x4_9 12 := in_I (by first | with_reducible assumption | omega) (by omega)
                  refine va_iast hx hb hK.1 hP hD hS 15 0 rfl rfl (i := x4_9) h_26 dB_36_0_12.1.1.1 (fun H locs hP hD hS => ?_)
                  obtain ⟨f_27, ef_27⟩ : ∃ g : Nat → Int32, g = upd c_c7_9 x4_9.toNatClampNeg x7_9 := ⟨_, rfl⟩
                  refine pd_K (D := D) (cl := vwCl) (H := H) (A := A) [ob0_0_ xc xn xk clo cro c4 c5 c6 c7 c8, ob3_0_ xn vp vn n1 n2 n3 n4 n5, aq_ cy 6 cro 12 (gf_ rr), ai_ cy (rr 0) 12 (Mr 0), ai_ cy (rr 1) 12 (Mr 1), ai_ cy (rr 2) 12 (Mr 2), ai_ cy (rr 3) 12 (Mr 3), ai_ cy (rr 4) 12 (Mr 4), ai_ cy (rr 5) 12 (Mr 5), ai_ cy (rr 6) 12 (Mr 6), ai_ cy (rr 7) 12 (Mr 7), ai_ cy (rr 8) 12 (Mr 8), ai_ cy (rr 9) 12 (Mr 9), ai_ cy (rr 10) 12 (Mr 10), ai_ cy (rr 11) 12 (Mr 11), ai_ cy c7 12 f_27, ai_ cy c8 12 f_22] (by rw [ef_27]; exact hP) (by rw [ef_27]; exact hD) (fun hP hD => ?_)
                  have rf_27 : rng f_27 12 (0) (11) := by rw [ef_27]; exact rng_upd rc_c7_9 (by omega) (by omega)
                  have hp_ : ∀ m2 : Int32, m2.toInt = x4_9.toInt + 1 → mq y_25 f_27 m2.toNatClampNeg := fun m2 em => mq_push (x := x3_9) (y := x7_9) (z := y_12) (w := y_13) (m := x4_9) (b := y_24) (q := c_c7_9) (by assumption) (by omega) (by omega) (by assumption) (by assumption) (by omega) (by omega) (by assumption) (by assumption) (by assumption) em
                  obtain ⟨y_28, ey_28⟩ : ∃ y : Int32, y = x4_9 + 1 := ⟨_, rfl⟩
                  have ty_28 : y_28.toInt = x4_9.toInt + (1 : Int32).toInt := by rw [ey_28]; exact addI (by omega) (by omega)
                  refine lv_iinc (v := y_28) (lv' := [(4, .int y_28), (3, .int y_25), (7, .int x7_9), (6, .int y_8), (5, .int x5_4), (0, .ref xc), (1, .int a1), (2, .int a2)]) hx hb dB_36_0_12.1.1.2 hl (k := 4) rfl (by rw [ey_28]; rfl) (by decide) rfl (fun ls hl => ?_)
                  obtain ⟨y_29, ey_29⟩ : ∃ y : Int32, y = x7_9 + 1 := ⟨_, rfl⟩
                  have ty_29 : y_29.toInt = x7_9.toInt + (1 : Int32).toInt := by rw [ey_29]; exact addI (by omega) (by omega)
                  refine lv_iinc (v := y_29) (lv' := [(7, .int y_29), (4, .int y_28), (3, .int y_25), (6, .int y_8), (5, .int x5_4), (0, .ref xc), (1, .int a1), (2, .int a2)]) hx hb dB_36_0_12.1.2.1 hl (k := 2) rfl (by rw [ey_29]; rfl) (by decide) rfl (fun ls hl => ?_)
                  refine lv_goto (tgt := 43) hx hb dB_36_0_12.1.2.2 (by decide) ?_
                  exact ih_9 y_29 y_28 y_25 f_27 f_22 _ _ _ (by omega) (by first | with_reducible assumption | omega | assumption) (by first | with_reducible assumption | omega | assumption) (by first | with_reducible assumption | omega | assumption) (by first | with_reducible assumption | omega | assumption) (by first | with_reducible assumption | assumption | exact hp_ _ (by omega)) (by first | with_reducible assumption | assumption | exact rng_zero (by omega) (by omega) | exact orng_zero) (by first | with_reducible assumption | assumption | exact rng_zero (by omega) (by omega) | exact orng_zero) ⟨hP, hD⟩ hS (lv_sub hl [0, 3, 4, 1, 2, 5, 6, 7] rfl)
                · have t_23 : x7_9.toInt = a2.toInt := congrArg Int32.toInt c_23
                  refine lv_iconst (v := 1) hx hb dB_36_0_11.1.2.1.1 (by decide) ?_
                  rw [hQ]
                  exact W.zret (ty := .boolean) (v := 1) hx hb hr (by decide) (fun t ht hW => ⟨⟨1, (), rfl, (by omega), c_c7_9, f_22, (by first | with_reducible assumption | assumption | exact rng_zero (by omega) (by omega) | omega), (by first | with_reducible assumption | assumption | exact rng_zero (by omega) (by omega) | omega), by rw [ht]; exact hP, hD⟩, hS.F ht⟩) hS.2.2 dB_36_0_11.1.2.1.2

set_option maxHeartbeats 4000000 in
set_option maxRecDepth 100000 in
theorem c_X0_reachedFrom (l : Launch) (D : va_G) (cy : Nat → ClassId) (sz : Nat) (xc : Nat) (xk : Nat) (clo : Nat) (cro : Nat) (c4 : Nat) (c5 : Nat) (c6 : Nat) (c7 : Nat) (c8 : Nat) (xn : Nat) (n1 : Nat) (n2 : Nat) (n3 : Nat) (n4 : Nat) (n5 : Nat) (vp : Int32) (vn : Int32) (rr : Nat → Nat) (Mr : Nat → Nat → Int32) (f7 : Nat → Int32) (a1 : Int32) (a2 : Int32) (hvp : 0 ≤ vp.toInt ∧ vp.toInt ≤ 12) (q1 : 0 ≤ a1.toInt ∧ a1.toInt ≤ 11) (r_f7 : rng f7 12 (0) (11)) : Met l yX0_reachedFrom wsX0_reachedFrom ({ frames := 0, cells := 0, slots := 0, locals := 0 }) (va_Pc [.ref xc, .int a1, .int a2] (fun U => U.heap.size = sz ∧ va_P D vwCl [ob0_0_ xc xn xk clo cro c4 c5 c6 c7 c8, ob3_0_ xn vp vn n1 n2 n3 n4 n5, aq_ cy 6 cro 12 (gf_ rr), ai_ cy (rr 0) 12 (Mr 0), ai_ cy (rr 1) 12 (Mr 1), ai_ cy (rr 2) 12 (Mr 2), ai_ cy (rr 3) 12 (Mr 3), ai_ cy (rr 4) 12 (Mr 4), ai_ cy (rr 5) 12 (Mr 5), ai_ cy (rr 6) 12 (Mr 6), ai_ cy (rr 7) 12 (Mr 7), ai_ cy (rr 8) 12 (Mr 8), ai_ cy (rr 9) 12 (Mr 9), ai_ cy (rr 10) 12 (Mr 10), ai_ cy (rr 11) 12 (Mr 11), ai_ cy c7 12 f7] U.heap ∧ kg_ D cy U ∧ va_D (fun _ => True) [ob0_0_ xc xn xk clo cro c4 c5 c6 c7 c8, ob3_0_ xn vp vn n1 n2 n3 n4 n5, aq_ cy 6 cro 12 (gf_ rr), ai_ cy (rr 0) 12 (Mr 0), ai_ cy (rr 1) 12 (Mr 1), ai_ cy (rr 2) 12 (Mr 2), ai_ cy (rr 3) 12 (Mr 3), ai_ cy (rr 4) 12 (Mr 4), ai_ cy (rr 5) 12 (Mr 5), ai_ cy (rr 6) 12 (Mr 6), ai_ cy (rr 7) 12 (Mr 7), ai_ cy (rr 8) 12 (Mr 8), ai_ cy (rr 9) 12 (Mr 9), ai_ cy (rr 10) 12 (Mr 10), ai_ cy (rr 11) 12 (Mr 11), ai_ cy c7 12 f7])) (va_Qi (fun (r : Int32) (_ : Unit) => True) (fun (_ : Unit) (t : State) => ∃ (e7 : Nat → Int32), (rng e7 12 (0) (11)) ∧ va_P D vwCl [ob0_0_ xc xn xk clo cro c4 c5 c6 c7 c8, ob3_0_ xn vp vn n1 n2 n3 n4 n5, aq_ cy 6 cro 12 (gf_ rr), ai_ cy (rr 0) 12 (Mr 0), ai_ cy (rr 1) 12 (Mr 1), ai_ cy (rr 2) 12 (Mr 2), ai_ cy (rr 3) 12 (Mr 3), ai_ cy (rr 4) 12 (Mr 4), ai_ cy (rr 5) 12 (Mr 5), ai_ cy (rr 6) 12 (Mr 6), ai_ cy (rr 7) 12 (Mr 7), ai_ cy (rr 8) 12 (Mr 8), ai_ cy (rr 9) 12 (Mr 9), ai_ cy (rr 10) 12 (Mr 10), ai_ cy (rr 11) 12 (Mr 11), ai_ cy c7 12 e7] t.heap ∧ va_D (va_A [ob0_0_ xc xn xk clo cro c4 c5 c6 c7 c8, ob3_0_ xn vp vn n1 n2 n3 n4 n5, aq_ cy 6 cro 12 (gf_ rr), ai_ cy (rr 0) 12 (Mr 0), ai_ cy (rr 1) 12 (Mr 1), ai_ cy (rr 2) 12 (Mr 2), ai_ cy (rr 3) 12 (Mr 3), ai_ cy (rr 4) 12 (Mr 4), ai_ cy (rr 5) 12 (Mr 5), ai_ cy (rr 6) 12 (Mr 6), ai_ cy (rr 7) 12 (Mr 7), ai_ cy (rr 8) 12 (Mr 8), ai_ cy (rr 9) 12 (Mr 9), ai_ cy (rr 10) 12 (Mr 10), ai_ cy (rr 11) 12 (Mr 11), ai_ cy c7 12 f7] sz) [ob0_0_ xc xn xk clo cro c4 c5 c6 c7 c8, ob3_0_ xn vp vn n1 n2 n3 n4 n5, aq_ cy 6 cro 12 (gf_ rr), ai_ cy (rr 0) 12 (Mr 0), ai_ cy (rr 1) 12 (Mr 1), ai_ cy (rr 2) 12 (Mr 2), ai_ cy (rr 3) 12 (Mr 3), ai_ cy (rr 4) 12 (Mr 4), ai_ cy (rr 5) 12 (Mr 5), ai_ cy (rr 6) 12 (Mr 6), ai_ cy (rr 7) 12 (Mr 7), ai_ cy (rr 8) 12 (Mr 8), ai_ cy (rr 9) 12 (Mr 9), ai_ cy (rr 10) 12 (Mr 10), ai_ cy (rr 11) 12 (Mr 11), ai_ cy c7 12 e7]) (va_A [ob0_0_ xc xn xk clo cro c4 c5 c6 c7 c8, ob3_0_ xn vp vn n1 n2 n3 n4 n5, aq_ cy 6 cro 12 (gf_ rr), ai_ cy (rr 0) 12 (Mr 0), ai_ cy (rr 1) 12 (Mr 1), ai_ cy (rr 2) 12 (Mr 2), ai_ cy (rr 3) 12 (Mr 3), ai_ cy (rr 4) 12 (Mr 4), ai_ cy (rr 5) 12 (Mr 5), ai_ cy (rr 6) 12 (Mr 6), ai_ cy (rr 7) 12 (Mr 7), ai_ cy (rr 8) 12 (Mr 8), ai_ cy (rr 9) 12 (Mr 9), ai_ cy (rr 10) 12 (Mr 10), ai_ cy (rr 11) 12 (Mr 11), ai_ cy c7 12 f7] sz)) 0 0 (va_A [ob0_0_ xc xn xk clo cro c4 c5 c6 c7 c8, ob3_0_ xn vp vn n1 n2 n3 n4 n5, aq_ cy 6 cro 12 (gf_ rr), ai_ cy (rr 0) 12 (Mr 0), ai_ cy (rr 1) 12 (Mr 1), ai_ cy (rr 2) 12 (Mr 2), ai_ cy (rr 3) 12 (Mr 3), ai_ cy (rr 4) 12 (Mr 4), ai_ cy (rr 5) 12 (Mr 5), ai_ cy (rr 6) 12 (Mr 6), ai_ cy (rr 7) 12 (Mr 7), ai_ cy (rr 8) 12 (Mr 8), ai_ cy (rr 9) 12 (Mr 9), ai_ cy (rr 10) 12 (Mr 10), ai_ cy (rr 11) 12 (Mr 11), ai_ cy c7 12 f7] sz) := by
  refine ofQ (cc := cX0_reachedFrom) (maxL := 7) (ret := (some .int)) (by decide) rfl ?_
  intro p e s m args below meth c s₁ Q hQ B hml hv
  obtain ⟨rfl, hsz, hP, hK, hD0⟩ := hv
  have hG := hK.2
  have hK := hK.1
  have hx := B.exec
  have hb := B.bytes
  have hr := B.returns
  have hts := atoms_spec (ws := wsX0_reachedFrom) B.pre
  have hown : s.vm.findClass RX0 = some m.cls := by have h_ := findClass_of_methodNamed B.named; exact h_
  have hlocks := B.notSynchronized
  subst hsz
  have hD := hD0.self (sz := s.heap.size)
  generalize hAe : va_A [ob0_0_ xc xn xk clo cro c4 c5 c6 c7 c8, ob3_0_ xn vp vn n1 n2 n3 n4 n5, aq_ cy 6 cro 12 (gf_ rr), ai_ cy (rr 0) 12 (Mr 0), ai_ cy (rr 1) 12 (Mr 1), ai_ cy (rr 2) 12 (Mr 2), ai_ cy (rr 3) 12 (Mr 3), ai_ cy (rr 4) 12 (Mr 4), ai_ cy (rr 5) 12 (Mr 5), ai_ cy (rr 6) 12 (Mr 6), ai_ cy (rr 7) 12 (Mr 7), ai_ cy (rr 8) 12 (Mr 8), ai_ cy (rr 9) 12 (Mr 9), ai_ cy (rr 10) 12 (Mr 10), ai_ cy (rr 11) 12 (Mr 11), ai_ cy c7 12 f7] s.heap.size = A at hD hQ
  have hA : ∀ q : Nat, s.heap.size ≤ q → A q := fun q h => by rw [← hAe]; exact Or.inr h
  have hS : va_S A s.heap s.heap [] := va_S.rf
  have hl := lv_entry ([.ref xc, .int a1, .int a2]) (n := 7) (Nat.le_of_ble_eq_true rfl)
  rw [lg_entry_eq]
  generalize (lg_sl ([.ref xc, .int a1, .int a2]) ++ List.replicate (7 - (lg_sl ([.ref xc, .int a1, .int a2])).length) Slot.unset).toArray = ls at hl ⊢
  have hl : lv_has ls 7 [(0, .ref xc), (1, .int a1), (2, .int a2)] := hl
  have z0 : (0 : Int32).toInt = 0 := by decide
  have z1 : (1 : Int32).toInt = 1 := by decide
  have z12 : (12 : Int32).toInt = 12 := by decide
  refine lv_iconst (v := 1) hx hb dB_36_0_27.1.1.1.1 (by decide) ?_
  refine lv_iload_n hx hb dB_36_0_27.1.1.1.2 rfl (lv_at hl 1 rfl) ?_
  refine lv_ishl hx hb dB_36_0_27.1.1.2.1 ?_
  refine lv_topi (fun y_1 ey_1 => ?_)
  refine lv_istore_n (lv' := [(3, .int y_1), (0, .ref xc), (1, .int a1), (2, .int a2)]) hx hb dB_36_0_27.1.1.2.2 rfl hl (by decide) rfl (fun ls hl => ?_)
  refine lv_iconst (v := 1) hx hb dB_36_0_27.1.2.1.1 (by decide) ?_
  refine lv_istore (lv' := [(4, .int 1), (3, .int y_1), (0, .ref xc), (1, .int a1), (2, .int a2)]) hx hb dB_36_0_27.1.2.1.2 hl (by decide) rfl (fun ls hl => ?_)
  refine lv_aload_n hx hb dB_36_0_27.1.2.2.1 rfl (lv_at hl 2 rfl) ?_
  refine va_get (ci := 0) (v := .ref c7) (C := RX0) (T := TX0) (N := 9) hx hb hts (fun _ h => List.mem_cons_of_mem _ (List.mem_append_left _ (List.mem_append_right _ h))) hown hK.1 hP 0 rfl rfl 7 (by decide) (hts (.fieldLink RX0 29 "CutAtlas$Current" "queue" "[I") (List.mem_of_getElem? (i := 1) rfl)) (fun _ h9 => h9) rfl dB_36_0_27.1.2.2.2 ?_
  refine lv_iconst (v := 0) hx hb dB_36_0_27.2.1.1.1 (by decide) ?_
  refine lv_iload_n hx hb dB_36_0_27.2.1.1.2 rfl (lv_at hl 3 rfl) ?_
  have h_2 : vp_in (0 : Int32) 12 := by unfold vp_in; decide
  refine va_iast hx hb hK.1 hP hD hS 15 0 rfl rfl (i := 0) h_2 dB_36_0_27.2.1.2.1 (fun H locs hP hD hS => ?_)
  obtain ⟨f_3, ef_3⟩ : ∃ g : Nat → Int32, g = upd f7 (0 : Int32).toNatClampNeg a1 := ⟨_, rfl⟩
  refine pd_K (D := D) (cl := vwCl) (H := H) (A := A) [ob0_0_ xc xn xk clo cro c4 c5 c6 c7 c8, ob3_0_ xn vp vn n1 n2 n3 n4 n5, aq_ cy 6 cro 12 (gf_ rr), ai_ cy (rr 0) 12 (Mr 0), ai_ cy (rr 1) 12 (Mr 1), ai_ cy (rr 2) 12 (Mr 2), ai_ cy (rr 3) 12 (Mr 3), ai_ cy (rr 4) 12 (Mr 4), ai_ cy (rr 5) 12 (Mr 5), ai_ cy (rr 6) 12 (Mr 6), ai_ cy (rr 7) 12 (Mr 7), ai_ cy (rr 8) 12 (Mr 8), ai_ cy (rr 9) 12 (Mr 9), ai_ cy (rr 10) 12 (Mr 10), ai_ cy (rr 11) 12 (Mr 11), ai_ cy c7 12 f_3] (by rw [ef_3]; exact hP) (by rw [ef_3]; exact hD) (fun hP hD => ?_)
  have rf_3 : rng f_3 12 (0) (11) := by rw [ef_3]; exact rng_upd r_f7 (by omega) (by omega)
  have hq_ : mq y_1 f_3 (1 : Int32).toNatClampNeg := mq_one (by assumption) (by assumption) (by omega) (by omega)
  refine lv_iconst (v := 0) hx hb dB_36_0_27.2.1.2.2 (by decide) ?_
  refine lv_istore (lv' := [(5, .int 0), (4, .int 1), (3, .int y_1), (0, .ref xc), (1, .int a1), (2, .int a2)]) hx hb dB_36_0_27.2.2.1.1 hl (by decide) rfl (fun ls hl => ?_)
  suffices LOOP_4 : ∀ (n_4 : Nat) (x5_4 : Int32) (x4_4 : Int32) (x3_4 : Int32) (c_c7_4 : Nat → Int32) (H : Heap) (locs : List Loc) (ls : Array Slot), 12 - x5_4.toInt < (n_4 : Int) → (1 ≤ x4_4.toInt) → (x4_4.toInt ≤ 12) → (0 ≤ x5_4.toInt) → (x5_4.toInt ≤ 12) → (mq x3_4 c_c7_4 x4_4.toNatClampNeg) → (rng c_c7_4 12 (0) (11)) → pd_2 D vwCl A [ob0_0_ xc xn xk clo cro c4 c5 c6 c7 c8, ob3_0_ xn vp vn n1 n2 n3 n4 n5, aq_ cy 6 cro 12 (gf_ rr), ai_ cy (rr 0) 12 (Mr 0), ai_ cy (rr 1) 12 (Mr 1), ai_ cy (rr 2) 12 (Mr 2), ai_ cy (rr 3) 12 (Mr 3), ai_ cy (rr 4) 12 (Mr 4), ai_ cy (rr 5) 12 (Mr 5), ai_ cy (rr 6) 12 (Mr 6), ai_ cy (rr 7) 12 (Mr 7), ai_ cy (rr 8) 12 (Mr 8), ai_ cy (rr 9) 12 (Mr 9), ai_ cy (rr 10) 12 (Mr 10), ai_ cy (rr 11) 12 (Mr 11), ai_ cy c7 12 c_c7_4] H → va_S A s.heap H locs → lv_has ls 7 [(5, .int x5_4), (4, .int x4_4), (3, .int x3_4), (0, .ref xc), (1, .int a1), (2, .int a2)] → W p l e ({ frames := 0, cells := 0, slots := 0, locals := 0 } : Room) s m (([.ref xc, .int a1, .int a2] : List Value).toArray) below meth c H locs 0 0 Q (F0 m 17 ls []) from LOOP_4 ((12 - (0 : Int32).toInt).toNat + 1) (0 : Int32) (1 : Int32) y_1 f_3 _ _ _ (by omega) (by first | with_reducible assumption | omega | assumption) (by first | with_reducible assumption | omega | assumption) (by first | with_reducible assumption | omega | assumption) (by first | with_reducible assumption | omega | assumption) (by first | with_reducible assumption | assumption | omega) (by first | with_reducible assumption | assumption | exact rng_zero (by omega) (by omega) | exact orng_zero) ⟨hP, hD⟩ hS (lv_sub hl [0, 1, 2, 3, 4, 5] rfl)
  intro n_4
  induction n_4 with
  | zero =>
    intro x5_4 x4_4 x3_4 c_c7_4 H locs ls hm v0_4 v1_4 v2_4 v3_4 v4_4 rc_c7_4 hPD hS hl; obtain ⟨hP, hD⟩ := hPD
    exact absurd hm (by omega)
  | succ n_4 ih_4 =>
    intro x5_4 x4_4 x3_4 c_c7_4 H locs ls hm v0_4 v1_4 v2_4 v3_4 v4_4 rc_c7_4 hPD hS hl; obtain ⟨hP, hD⟩ := hPD
    refine lv_iload hx hb dB_36_0_27.2.2.1.2 (lv_at hl 0 rfl) ?_
    refine lv_iload hx hb dB_36_0_27.2.2.2.1 (lv_at hl 1 rfl) ?_
    refine lv_icmp_ge (tgt := 105) hx hb dB_36_0_27.2.2.2.2 (by decide) (fun c_5 => ?_) (fun c_5 => ?_)
    · have t_5 : x4_4.toInt ≤ x5_4.toInt := Int32.le_iff_toInt_le.mp c_5
      refine lv_iload_n hx hb dB_36_0_30.2.2.2.1 rfl (lv_at hl 2 rfl) ?_
      rw [hQ]
      exact W.iret (v := x3_4) hx hb hr (fun t ht hW => ⟨⟨x3_4, (), rfl, trivial, c_c7_4, (by first | with_reducible assumption | assumption | exact rng_zero (by omega) (by omega) | omega), by rw [ht]; exact hP, hD⟩, hS.F ht⟩) hS.2.2 dB_36_0_30.2.2.2.2
    · have t_5 : ¬ x4_4.toInt ≤ x5_4.toInt := fun h => c_5 (Int32.le_iff_toInt_le.mpr h)
      refine lv_iload hx hb dB_36_0_28.1.1.1.1 (lv_at hl 0 rfl) ?_
      refine lv_bipush (v := 12) hx hb dB_36_0_28.1.1.1.2 (by decide) ?_
      refine lv_icmp_ge (tgt := 105) hx hb dB_36_0_28.1.1.2.1 (by decide) (fun c_6 => ?_) (fun c_6 => ?_)
      · have t_6 : (12 : Int32).toInt ≤ x5_4.toInt := Int32.le_iff_toInt_le.mp c_6
        refine lv_iload_n hx hb dB_36_0_30.2.2.2.1 rfl (lv_at hl 2 rfl) ?_
        rw [hQ]
        exact W.iret (v := x3_4) hx hb hr (fun t ht hW => ⟨⟨x3_4, (), rfl, trivial, c_c7_4, (by first | with_reducible assumption | assumption | exact rng_zero (by omega) (by omega) | omega), by rw [ht]; exact hP, hD⟩, hS.F ht⟩) hS.2.2 dB_36_0_30.2.2.2.2
      · have t_6 : ¬ (12 : Int32).toInt ≤ x5_4.toInt := fun h => c_6 (Int32.le_iff_toInt_le.mpr h)
        refine lv_iconst (v := 0) hx hb dB_36_0_28.1.1.2.2 (by decide) ?_
        refine lv_istore (lv' := [(6, .int 0), (5, .int x5_4), (4, .int x4_4), (3, .int x3_4), (0, .ref xc), (1, .int a1), (2, .int a2)]) hx hb dB_36_0_28.1.2.1.1 hl (by decide) rfl (fun ls hl => ?_)
        suffices LOOP_7 : ∀ (n_7 : Nat) (x6_7 : Int32) (x4_7 : Int32) (x3_7 : Int32) (c_c7_7 : Nat → Int32) (H : Heap) (locs : List Loc) (ls : Array Slot), vp.toInt - x6_7.toInt < (n_7 : Int) → (1 ≤ x4_7.toInt) → (x4_7.toInt ≤ 12) → (0 ≤ x6_7.toInt) → (x6_7.toInt ≤ vp.toInt) → (mq x3_7 c_c7_7 x4_7.toNatClampNeg) → (rng c_c7_7 12 (0) (11)) → pd_2 D vwCl A [ob0_0_ xc xn xk clo cro c4 c5 c6 c7 c8, ob3_0_ xn vp vn n1 n2 n3 n4 n5, aq_ cy 6 cro 12 (gf_ rr), ai_ cy (rr 0) 12 (Mr 0), ai_ cy (rr 1) 12 (Mr 1), ai_ cy (rr 2) 12 (Mr 2), ai_ cy (rr 3) 12 (Mr 3), ai_ cy (rr 4) 12 (Mr 4), ai_ cy (rr 5) 12 (Mr 5), ai_ cy (rr 6) 12 (Mr 6), ai_ cy (rr 7) 12 (Mr 7), ai_ cy (rr 8) 12 (Mr 8), ai_ cy (rr 9) 12 (Mr 9), ai_ cy (rr 10) 12 (Mr 10), ai_ cy (rr 11) 12 (Mr 11), ai_ cy c7 12 c_c7_7] H → va_S A s.heap H locs → lv_has ls 7 [(6, .int x6_7), (5, .int x5_4), (4, .int x4_7), (3, .int x3_7), (0, .ref xc), (1, .int a1), (2, .int a2)] → W p l e ({ frames := 0, cells := 0, slots := 0, locals := 0 } : Room) s m (([.ref xc, .int a1, .int a2] : List Value).toArray) below meth c H locs 0 0 Q (F0 m 34 ls []) from LOOP_7 ((vp.toInt - (0 : Int32).toInt).toNat + 1) (0 : Int32) x4_4 x3_4 c_c7_4 _ _ _ (by omega) (by first | with_reducible assumption | omega | assumption) (by first | with_reducible assumption | omega | assumption) (by first | with_reducible assumption | omega | assumption) (by first | with_reducible assumption | omega | assumption) (by first | with_reducible assumption | assumption | exact hp_ _ (by omega)) (by first | with_reducible assumption | assumption | exact rng_zero (by omega) (by omega) | exact orng_zero) ⟨hP, hD⟩ hS (lv_sub hl [0, 1, 2, 3, 4, 5, 6] rfl)
        intro n_7
        induction n_7 with
        | zero =>
          intro x6_7 x4_7 x3_7 c_c7_7 H locs ls hm v0_7 v1_7 v2_7 v3_7 v4_7 rc_c7_7 hPD hS hl; obtain ⟨hP, hD⟩ := hPD
          exact absurd hm (by omega)
        | succ n_7 ih_7 =>
          intro x6_7 x4_7 x3_7 c_c7_7 H locs ls hm v0_7 v1_7 v2_7 v3_7 v4_7 rc_c7_7 hPD hS hl; obtain ⟨hP, hD⟩ := hPD
          refine lv_iload hx hb dB_36_0_28.1.2.1.2 (lv_at hl 0 rfl) ?_
          refine lv_aload_n hx hb dB_36_0_28.1.2.2.1 rfl (lv_at hl 4 rfl) ?_
          refine va_get (ci := 0) (v := .ref xn) (C := RX0) (T := TX0) (N := 9) hx hb hts (fun _ h => List.mem_cons_of_mem _ (List.mem_append_left _ (List.mem_append_right _ h))) hown hK.1 hP 0 rfl rfl 0 (by decide) (hts (.fieldLink RX0 35 "CutAtlas$Current" "net" "LCutAtlas$Net;") (List.mem_of_getElem? (i := 2) rfl)) (fun _ h9 => h9) rfl dB_36_0_28.1.2.2.2 ?_
          refine va_get (ci := 3) (v := .int vp) (C := RX3) (T := TX3) (N := 7) hx hb hts (fun _ h => List.mem_cons_of_mem _ (List.mem_append_right _ h)) hown hK.1 hP 1 rfl rfl 0 (by decide) (hts (.fieldLink RX0 43 "CutAtlas$Net" "places" "I") (List.mem_of_getElem? (i := 3) rfl)) (fun _ h9 => h9) rfl dB_36_0_28.2.1.1.1 ?_
          refine lv_icmp_ge (tgt := 99) hx hb dB_36_0_28.2.1.1.2 (by decide) (fun c_8 => ?_) (fun c_8 => ?_)
          · have t_8 : vp.toInt ≤ x6_7.toInt := Int32.le_iff_toInt_le.mp c_8
            obtain ⟨y_9, ey_9⟩ : ∃ y : Int32, y = x5_4 + 1 := ⟨_, rfl⟩
            have ty_9 : y_9.toInt = x5_4.toInt + (1 : Int32).toInt := by rw [ey_9]; exact addI (by omega) (by omega)
            refine lv_iinc (v := y_9) (lv' := [(5, .int y_9), (6, .int x6_7), (4, .int x4_7), (3, .int x3_7), (0, .ref xc), (1, .int a1), (2, .int a2)]) hx hb dB_36_0_30.2.2.1.1 hl (k := 1) rfl (by rw [ey_9]; rfl) (by decide) rfl (fun ls hl => ?_)
            refine lv_goto (tgt := 17) hx hb dB_36_0_30.2.2.1.2 (by decide) ?_
            exact ih_4 y_9 x4_7 x3_7 c_c7_7 _ _ _ (by omega) (by first | with_reducible assumption | omega | assumption) (by first | with_reducible assumption | omega | assumption) (by first | with_reducible assumption | omega | assumption) (by first | with_reducible assumption | omega | assumption) (by first | with_reducible assumption | assumption | omega) (by first | with_reducible assumption | assumption | exact rng_zero (by omega) (by omega) | exact orng_zero) ⟨hP, hD⟩ hS (lv_sub hl [0, 2, 3, 4, 5, 6] rfl)
          · have t_8 : ¬ vp.toInt ≤ x6_7.toInt := fun h => c_8 (Int32.le_iff_toInt_le.mpr h)
            refine lv_iload_n hx hb dB_36_0_28.2.1.2.1 rfl (lv_at hl 3 rfl) ?_
            refine lv_iload hx hb dB_36_0_28.2.1.2.2 (lv_at hl 0 rfl) ?_
            refine lv_ishr hx hb dB_36_0_28.2.2.1.1 ?_
            refine lv_topi (fun y_10 ey_10 => ?_)
            refine lv_iconst (v := 1) hx hb dB_36_0_28.2.2.1.2 (by decide) ?_
            refine lv_iand hx hb dB_36_0_28.2.2.2.1 ?_
            refine lv_topi (fun y_11 ey_11 => ?_)
            refine lv_if_ne (tgt := 93) hx hb dB_36_0_28.2.2.2.2 (by decide) (fun c_12 => ?_) (fun c_12 => ?_)
            · have t_12 : ¬ y_11.toInt = (0 : Int32).toInt := fun h => c_12 (Int32.toInt_inj.mp h)
              obtain ⟨y_13, ey_13⟩ : ∃ y : Int32, y = x6_7 + 1 := ⟨_, rfl⟩
              have ty_13 : y_13.toInt = x6_7.toInt + (1 : Int32).toInt := by rw [ey_13]; exact addI (by omega) (by omega)
              refine lv_iinc (v := y_13) (lv' := [(6, .int y_13), (5, .int x5_4), (4, .int x4_7), (3, .int x3_7), (0, .ref xc), (1, .int a1), (2, .int a2)]) hx hb dB_36_0_30.2.1.2.1 hl (k := 0) rfl (by rw [ey_13]; rfl) (by decide) rfl (fun ls hl => ?_)
              refine lv_goto (tgt := 34) hx hb dB_36_0_30.2.1.2.2 (by decide) ?_
              exact ih_7 y_13 x4_7 x3_7 c_c7_7 _ _ _ (by omega) (by first | with_reducible assumption | omega | assumption) (by first | with_reducible assumption | omega | assumption) (by first | with_reducible assumption | omega | assumption) (by first | with_reducible assumption | omega | assumption) (by first | with_reducible assumption | assumption | exact hp_ _ (by omega)) (by first | with_reducible assumption | assumption | exact rng_zero (by omega) (by omega) | exact orng_zero) ⟨hP, hD⟩ hS (lv_sub hl [0, 1, 2, 3, 4, 5, 6] rfl)
            · have t_12 : y_11.toInt = (0 : Int32).toInt := congrArg Int32.toInt c_12
              refine lv_aload_n hx hb dB_36_0_29.1.1.1.1 rfl (lv_at hl 4 rfl) ?_
              refine va_get (ci := 0) (v := .ref cro) (C := RX0) (T := TX0) (N := 9) hx hb hts (fun _ h => List.mem_cons_of_mem _ (List.mem_append_left _ (List.mem_append_right _ h))) hown hK.1 hP 0 rfl rfl 3 (by decide) (hts (.fieldLink RX0 16 "CutAtlas$Current" "room" "[[I") (List.mem_of_getElem? (i := 4) rfl)) (fun _ h9 => h9) rfl dB_36_0_29.1.1.1.2 ?_
              refine lv_aload_n hx hb dB_36_0_29.1.1.2.1 rfl (lv_at hl 4 rfl) ?_
              refine va_get (ci := 0) (v := .ref c7) (C := RX0) (T := TX0) (N := 9) hx hb hts (fun _ h => List.mem_cons_of_mem _ (List.mem_append_left _ (List.mem_append_right _ h))) hown hK.1 hP 0 rfl rfl 7 (by decide) (hts (.fieldLink RX0 29 "CutAtlas$Current" "queue" "[I") (List.mem_of_getElem? (i := 1) rfl)) (fun _ h9 => h9) rfl dB_36_0_29.1.1.2.2 ?_
              refine lv_iload hx hb dB_36_0_29.1.2.1.1 (lv_at hl 1 rfl) ?_
              have h_14 : vp_in x5_4 12 := in_I (by first | with_reducible assumption | omega) (by omega)
              refine va_iald hx hb hK.1 hP 15 0 rfl rfl (i := x5_4) h_14 dB_36_0_29.1.2.1.2 ?_
              refine lv_topi (fun y_15 ey_15 => ?_)
              have ry_15 : 0 ≤ y_15.toInt ∧ y_15.toInt ≤ 11 := by rw [ey_15]; exact rc_c7_7 _ (in_lt h_14)
              have h_16 : vp_in y_15 12 := in_I (by first | with_reducible assumption | omega) (by omega)
              refine va_alda hx hb hG hP 2 rfl (i := y_15) h_16 dB_36_0_29.1.2.2.1 ?_
              refine lv_topv (v' := .ref (rr y_15.toNatClampNeg)) (gf_at h_16) ?_
              refine lv_iload hx hb dB_36_0_29.1.2.2.2 (lv_at hl 0 rfl) ?_
              have h_17 : vp_in x6_7 12 := in_I (by first | with_reducible assumption | omega) (by omega)
              have hPg : va_P D vwCl (([ob0_0_ xc xn xk clo cro c4 c5 c6 c7 c8, ob3_0_ xn vp vn n1 n2 n3 n4 n5, aq_ cy 6 cro 12 (gf_ rr)] : va_W) ++ (gro (cy 0) rr Mr ++ ([ai_ cy c7 12 c_c7_7] : va_W))) H := hP
              refine va_gld (X := [ob0_0_ xc xn xk clo cro c4 c5 c6 c7 c8, ob3_0_ xn vp vn n1 n2 n3 n4 n5, aq_ cy 6 cro 12 (gf_ rr)]) (Y := [ai_ cy c7 12 c_c7_7]) (r := rr) (M := Mr) (k := y_15.toNatClampNeg) hx hb hK.1 hPg 0 rfl (in_lt h_16) (i := x6_7) h_17 dB_36_0_29.2.1.1.1 ?_
              refine lv_topi (fun y_18 ey_18 => ?_)
              refine lv_iload_n hx hb dB_36_0_29.2.1.1.2 rfl (lv_at hl 6 rfl) ?_
              refine lv_icmp_lt (tgt := 93) hx hb dB_36_0_29.2.1.2.1 (by decide) (fun c_19 => ?_) (fun c_19 => ?_)
              · have t_19 : y_18.toInt < a2.toInt := Int32.lt_iff_toInt_lt.mp c_19
                obtain ⟨y_20, ey_20⟩ : ∃ y : Int32, y = x6_7 + 1 := ⟨_, rfl⟩
                have ty_20 : y_20.toInt = x6_7.toInt + (1 : Int32).toInt := by rw [ey_20]; exact addI (by omega) (by omega)
                refine lv_iinc (v := y_20) (lv' := [(6, .int y_20), (5, .int x5_4), (4, .int x4_7), (3, .int x3_7), (0, .ref xc), (1, .int a1), (2, .int a2)]) hx hb dB_36_0_30.2.1.2.1 hl (k := 0) rfl (by rw [ey_20]; rfl) (by decide) rfl (fun ls hl => ?_)
                refine lv_goto (tgt := 34) hx hb dB_36_0_30.2.1.2.2 (by decide) ?_
                exact ih_7 y_20 x4_7 x3_7 c_c7_7 _ _ _ (by omega) (by first | with_reducible assumption | omega | assumption) (by first | with_reducible assumption | omega | assumption) (by first | with_reducible assumption | omega | assumption) (by first | with_reducible assumption | omega | assumption) (by first | with_reducible assumption | assumption | exact hp_ _ (by omega)) (by first | with_reducible assumption | assumption | exact rng_zero (by omega) (by omega) | exact orng_zero) ⟨hP, hD⟩ hS (lv_sub hl [0, 1, 2, 3, 4, 5, 6] rfl)
              · have t_19 : ¬ y_18.toInt < a2.toInt := fun h => c_19 (Int32.lt_iff_toInt_lt.mpr h)
                have hr_ : x4_7.toInt < 12 := mq_room (x := x3_7) (y := x6_7) (z := y_10) (w := y_11) (q := c_c7_7) (by assumption) (by omega) (by omega) (by assumption) (by assumption) (by omega) (by omega)
                refine lv_iload_n hx hb dB_36_0_29.2.1.2.2 rfl (lv_at hl 3 rfl) ?_
                refine lv_iconst (v := 1) hx hb dB_36_0_29.2.2.1.1 (by decide) ?_
                refine lv_iload hx hb dB_36_0_29.2.2.1.2 (lv_at hl 0 rfl) ?_
                refine lv_ishl hx hb dB_36_0_29.2.2.2.1 ?_
                refine lv_topi (fun y_21 ey_21 => ?_)
                refine lv_ior hx hb dB_36_0_29.2.2.2.2 ?_
                refine lv_topi (fun y_22 ey_22 => ?_)
                refine lv_istore_n (lv' := [(3, .int y_22), (6, .int x6_7), (5, .int x5_4), (4, .int x4_7), (0, .ref xc), (1, .int a1), (2, .int a2)]) hx hb dB_36_0_30.1.1.1 rfl hl (by decide) rfl (fun ls hl => ?_)
                refine lv_aload_n hx hb dB_36_0_30.1.1.2.1 rfl (lv_at hl 4 rfl) ?_
                refine va_get (ci := 0) (v := .ref c7) (C := RX0) (T := TX0) (N := 9) hx hb hts (fun _ h => List.mem_cons_of_mem _ (List.mem_append_left _ (List.mem_append_right _ h))) hown hK.1 hP 0 rfl rfl 7 (by decide) (hts (.fieldLink RX0 29 "CutAtlas$Current" "queue" "[I") (List.mem_of_getElem? (i := 1) rfl)) (fun _ h9 => h9) rfl dB_36_0_30.1.1.2.2 ?_
                refine lv_iload hx hb dB_36_0_30.1.2.1 (lv_at hl 3 rfl) ?_
                refine lv_iload hx hb dB_36_0_30.1.2.2.1 (lv_at hl 1 rfl) ?_
                have h_23 : vp_in x4_7 12 := in_I (by first | with_reducible assumption | omega) (by omega)
                refine va_iast hx hb hK.1 hP hD hS 15 0 rfl rfl (i := x4_7) h_23 dB_36_0_30.1.2.2.2 (fun H locs hP hD hS => ?_)
                obtain ⟨f_24, ef_24⟩ : ∃ g : Nat → Int32, g = upd c_c7_7 x4_7.toNatClampNeg x6_7 := ⟨_, rfl⟩
                refine pd_K (D := D) (cl := vwCl) (H := H) (A := A) [ob0_0_ xc xn xk clo cro c4 c5 c6 c7 c8, ob3_0_ xn vp vn n1 n2 n3 n4 n5, aq_ cy 6 cro 12 (gf_ rr), ai_ cy (rr 0) 12 (Mr 0), ai_ cy (rr 1) 12 (Mr 1), ai_ cy (rr 2) 12 (Mr 2), ai_ cy (rr 3) 12 (Mr 3), ai_ cy (rr 4) 12 (Mr 4), ai_ cy (rr 5) 12 (Mr 5), ai_ cy (rr 6) 12 (Mr 6), ai_ cy (rr 7) 12 (Mr 7), ai_ cy (rr 8) 12 (Mr 8), ai_ cy (rr 9) 12 (Mr 9), ai_ cy (rr 10) 12 (Mr 10), ai_ cy (rr 11) 12 (Mr 11), ai_ cy c7 12 f_24] (by rw [ef_24]; exact hP) (by rw [ef_24]; exact hD) (fun hP hD => ?_)
                have rf_24 : rng f_24 12 (0) (11) := by rw [ef_24]; exact rng_upd rc_c7_7 (by omega) (by omega)
                have hp_ : ∀ m2 : Int32, m2.toInt = x4_7.toInt + 1 → mq y_22 f_24 m2.toNatClampNeg := fun m2 em => mq_push (x := x3_7) (y := x6_7) (z := y_10) (w := y_11) (m := x4_7) (b := y_21) (q := c_c7_7) (by assumption) (by omega) (by omega) (by assumption) (by assumption) (by omega) (by omega) (by assumption) (by assumption) (by assumption) em
                obtain ⟨y_25, ey_25⟩ : ∃ y : Int32, y = x4_7 + 1 := ⟨_, rfl⟩
                have ty_25 : y_25.toInt = x4_7.toInt + (1 : Int32).toInt := by rw [ey_25]; exact addI (by omega) (by omega)
                refine lv_iinc (v := y_25) (lv' := [(4, .int y_25), (3, .int y_22), (6, .int x6_7), (5, .int x5_4), (0, .ref xc), (1, .int a1), (2, .int a2)]) hx hb dB_36_0_30.2.1.1 hl (k := 3) rfl (by rw [ey_25]; rfl) (by decide) rfl (fun ls hl => ?_)
                obtain ⟨y_26, ey_26⟩ : ∃ y : Int32, y = x6_7 + 1 := ⟨_, rfl⟩
                have ty_26 : y_26.toInt = x6_7.toInt + (1 : Int32).toInt := by rw [ey_26]; exact addI (by omega) (by omega)
                refine lv_iinc (v := y_26) (lv' := [(6, .int y_26), (4, .int y_25), (3, .int y_22), (5, .int x5_4), (0, .ref xc), (1, .int a1), (2, .int a2)]) hx hb dB_36_0_30.2.1.2.1 hl (k := 2) rfl (by rw [ey_26]; rfl) (by decide) rfl (fun ls hl => ?_)
                refine lv_goto (tgt := 34) hx hb dB_36_0_30.2.1.2.2 (by decide) ?_
                exact ih_7 y_26 y_25 y_22 f_24 _ _ _ (by omega) (by first | with_reducible assumption | omega | assumption) (by first | with_reducible assumption | omega | assumption) (by first | with_reducible assumption | omega | assumption) (by first | with_reducible assumption | omega | assumption) (by first | with_reducible assumption | assumption | exact hp_ _ (by omega)) (by first | with_reducible assumption | assumption | exact rng_zero (by omega) (by omega) | exact orng_zero) ⟨hP, hD⟩ hS (lv_sub hl [0, 3, 1, 2, 4, 5, 6] rfl)

set_option maxHeartbeats 4000000 in
set_option maxRecDepth 100000 in
theorem c_X0_reaching (l : Launch) (D : va_G) (cy : Nat → ClassId) (sz : Nat) (xc : Nat) (xk : Nat) (clo : Nat) (cro : Nat) (c4 : Nat) (c5 : Nat) (c6 : Nat) (c7 : Nat) (c8 : Nat) (xn : Nat) (n1 : Nat) (n2 : Nat) (n3 : Nat) (n4 : Nat) (n5 : Nat) (vp : Int32) (vn : Int32) (rr : Nat → Nat) (Mr : Nat → Nat → Int32) (f7 : Nat → Int32) (a1 : Int32) (hvp : 0 ≤ vp.toInt ∧ vp.toInt ≤ 12) (q1 : 0 ≤ a1.toInt ∧ a1.toInt ≤ 11) (r_f7 : rng f7 12 (0) (11)) : Met l yX0_reaching wsX0_reaching ({ frames := 0, cells := 0, slots := 0, locals := 0 }) (va_Pc [.ref xc, .int a1] (fun U => U.heap.size = sz ∧ va_P D vwCl [ob0_0_ xc xn xk clo cro c4 c5 c6 c7 c8, ob3_0_ xn vp vn n1 n2 n3 n4 n5, aq_ cy 6 cro 12 (gf_ rr), ai_ cy (rr 0) 12 (Mr 0), ai_ cy (rr 1) 12 (Mr 1), ai_ cy (rr 2) 12 (Mr 2), ai_ cy (rr 3) 12 (Mr 3), ai_ cy (rr 4) 12 (Mr 4), ai_ cy (rr 5) 12 (Mr 5), ai_ cy (rr 6) 12 (Mr 6), ai_ cy (rr 7) 12 (Mr 7), ai_ cy (rr 8) 12 (Mr 8), ai_ cy (rr 9) 12 (Mr 9), ai_ cy (rr 10) 12 (Mr 10), ai_ cy (rr 11) 12 (Mr 11), ai_ cy c7 12 f7] U.heap ∧ kg_ D cy U ∧ va_D (fun _ => True) [ob0_0_ xc xn xk clo cro c4 c5 c6 c7 c8, ob3_0_ xn vp vn n1 n2 n3 n4 n5, aq_ cy 6 cro 12 (gf_ rr), ai_ cy (rr 0) 12 (Mr 0), ai_ cy (rr 1) 12 (Mr 1), ai_ cy (rr 2) 12 (Mr 2), ai_ cy (rr 3) 12 (Mr 3), ai_ cy (rr 4) 12 (Mr 4), ai_ cy (rr 5) 12 (Mr 5), ai_ cy (rr 6) 12 (Mr 6), ai_ cy (rr 7) 12 (Mr 7), ai_ cy (rr 8) 12 (Mr 8), ai_ cy (rr 9) 12 (Mr 9), ai_ cy (rr 10) 12 (Mr 10), ai_ cy (rr 11) 12 (Mr 11), ai_ cy c7 12 f7])) (va_Qi (fun (r : Int32) (_ : Unit) => True) (fun (_ : Unit) (t : State) => ∃ (e7 : Nat → Int32), (rng e7 12 (0) (11)) ∧ va_P D vwCl [ob0_0_ xc xn xk clo cro c4 c5 c6 c7 c8, ob3_0_ xn vp vn n1 n2 n3 n4 n5, aq_ cy 6 cro 12 (gf_ rr), ai_ cy (rr 0) 12 (Mr 0), ai_ cy (rr 1) 12 (Mr 1), ai_ cy (rr 2) 12 (Mr 2), ai_ cy (rr 3) 12 (Mr 3), ai_ cy (rr 4) 12 (Mr 4), ai_ cy (rr 5) 12 (Mr 5), ai_ cy (rr 6) 12 (Mr 6), ai_ cy (rr 7) 12 (Mr 7), ai_ cy (rr 8) 12 (Mr 8), ai_ cy (rr 9) 12 (Mr 9), ai_ cy (rr 10) 12 (Mr 10), ai_ cy (rr 11) 12 (Mr 11), ai_ cy c7 12 e7] t.heap ∧ va_D (va_A [ob0_0_ xc xn xk clo cro c4 c5 c6 c7 c8, ob3_0_ xn vp vn n1 n2 n3 n4 n5, aq_ cy 6 cro 12 (gf_ rr), ai_ cy (rr 0) 12 (Mr 0), ai_ cy (rr 1) 12 (Mr 1), ai_ cy (rr 2) 12 (Mr 2), ai_ cy (rr 3) 12 (Mr 3), ai_ cy (rr 4) 12 (Mr 4), ai_ cy (rr 5) 12 (Mr 5), ai_ cy (rr 6) 12 (Mr 6), ai_ cy (rr 7) 12 (Mr 7), ai_ cy (rr 8) 12 (Mr 8), ai_ cy (rr 9) 12 (Mr 9), ai_ cy (rr 10) 12 (Mr 10), ai_ cy (rr 11) 12 (Mr 11), ai_ cy c7 12 f7] sz) [ob0_0_ xc xn xk clo cro c4 c5 c6 c7 c8, ob3_0_ xn vp vn n1 n2 n3 n4 n5, aq_ cy 6 cro 12 (gf_ rr), ai_ cy (rr 0) 12 (Mr 0), ai_ cy (rr 1) 12 (Mr 1), ai_ cy (rr 2) 12 (Mr 2), ai_ cy (rr 3) 12 (Mr 3), ai_ cy (rr 4) 12 (Mr 4), ai_ cy (rr 5) 12 (Mr 5), ai_ cy (rr 6) 12 (Mr 6), ai_ cy (rr 7) 12 (Mr 7), ai_ cy (rr 8) 12 (Mr 8), ai_ cy (rr 9) 12 (Mr 9), ai_ cy (rr 10) 12 (Mr 10), ai_ cy (rr 11) 12 (Mr 11), ai_ cy c7 12 e7]) (va_A [ob0_0_ xc xn xk clo cro c4 c5 c6 c7 c8, ob3_0_ xn vp vn n1 n2 n3 n4 n5, aq_ cy 6 cro 12 (gf_ rr), ai_ cy (rr 0) 12 (Mr 0), ai_ cy (rr 1) 12 (Mr 1), ai_ cy (rr 2) 12 (Mr 2), ai_ cy (rr 3) 12 (Mr 3), ai_ cy (rr 4) 12 (Mr 4), ai_ cy (rr 5) 12 (Mr 5), ai_ cy (rr 6) 12 (Mr 6), ai_ cy (rr 7) 12 (Mr 7), ai_ cy (rr 8) 12 (Mr 8), ai_ cy (rr 9) 12 (Mr 9), ai_ cy (rr 10) 12 (Mr 10), ai_ cy (rr 11) 12 (Mr 11), ai_ cy c7 12 f7] sz)) 0 0 (va_A [ob0_0_ xc xn xk clo cro c4 c5 c6 c7 c8, ob3_0_ xn vp vn n1 n2 n3 n4 n5, aq_ cy 6 cro 12 (gf_ rr), ai_ cy (rr 0) 12 (Mr 0), ai_ cy (rr 1) 12 (Mr 1), ai_ cy (rr 2) 12 (Mr 2), ai_ cy (rr 3) 12 (Mr 3), ai_ cy (rr 4) 12 (Mr 4), ai_ cy (rr 5) 12 (Mr 5), ai_ cy (rr 6) 12 (Mr 6), ai_ cy (rr 7) 12 (Mr 7), ai_ cy (rr 8) 12 (Mr 8), ai_ cy (rr 9) 12 (Mr 9), ai_ cy (rr 10) 12 (Mr 10), ai_ cy (rr 11) 12 (Mr 11), ai_ cy c7 12 f7] sz) := by
  refine ofQ (cc := cX0_reaching) (maxL := 6) (ret := (some .int)) (by decide) rfl ?_
  intro p e s m args below meth c s₁ Q hQ B hml hv
  obtain ⟨rfl, hsz, hP, hK, hD0⟩ := hv
  have hG := hK.2
  have hK := hK.1
  have hx := B.exec
  have hb := B.bytes
  have hr := B.returns
  have hts := atoms_spec (ws := wsX0_reaching) B.pre
  have hown : s.vm.findClass RX0 = some m.cls := by have h_ := findClass_of_methodNamed B.named; exact h_
  have hlocks := B.notSynchronized
  subst hsz
  have hD := hD0.self (sz := s.heap.size)
  generalize hAe : va_A [ob0_0_ xc xn xk clo cro c4 c5 c6 c7 c8, ob3_0_ xn vp vn n1 n2 n3 n4 n5, aq_ cy 6 cro 12 (gf_ rr), ai_ cy (rr 0) 12 (Mr 0), ai_ cy (rr 1) 12 (Mr 1), ai_ cy (rr 2) 12 (Mr 2), ai_ cy (rr 3) 12 (Mr 3), ai_ cy (rr 4) 12 (Mr 4), ai_ cy (rr 5) 12 (Mr 5), ai_ cy (rr 6) 12 (Mr 6), ai_ cy (rr 7) 12 (Mr 7), ai_ cy (rr 8) 12 (Mr 8), ai_ cy (rr 9) 12 (Mr 9), ai_ cy (rr 10) 12 (Mr 10), ai_ cy (rr 11) 12 (Mr 11), ai_ cy c7 12 f7] s.heap.size = A at hD hQ
  have hA : ∀ q : Nat, s.heap.size ≤ q → A q := fun q h => by rw [← hAe]; exact Or.inr h
  have hS : va_S A s.heap s.heap [] := va_S.rf
  have hl := lv_entry ([.ref xc, .int a1]) (n := 6) (Nat.le_of_ble_eq_true rfl)
  rw [lg_entry_eq]
  generalize (lg_sl ([.ref xc, .int a1]) ++ List.replicate (6 - (lg_sl ([.ref xc, .int a1])).length) Slot.unset).toArray = ls at hl ⊢
  have hl : lv_has ls 6 [(0, .ref xc), (1, .int a1)] := hl
  have z0 : (0 : Int32).toInt = 0 := by decide
  have z1 : (1 : Int32).toInt = 1 := by decide
  have z12 : (12 : Int32).toInt = 12 := by decide
  refine lv_iconst (v := 1) hx hb dB_36_0_31.1.1.1.1 (by decide) ?_
  refine lv_iload_n hx hb dB_36_0_31.1.1.1.2 rfl (lv_at hl 1 rfl) ?_
  refine lv_ishl hx hb dB_36_0_31.1.1.2.1 ?_
  refine lv_topi (fun y_1 ey_1 => ?_)
  refine lv_istore_n (lv' := [(2, .int y_1), (0, .ref xc), (1, .int a1)]) hx hb dB_36_0_31.1.1.2.2 rfl hl (by decide) rfl (fun ls hl => ?_)
  refine lv_iconst (v := 1) hx hb dB_36_0_31.1.2.1.1 (by decide) ?_
  refine lv_istore_n (lv' := [(3, .int 1), (2, .int y_1), (0, .ref xc), (1, .int a1)]) hx hb dB_36_0_31.1.2.1.2 rfl hl (by decide) rfl (fun ls hl => ?_)
  refine lv_aload_n hx hb dB_36_0_31.1.2.2.1 rfl (lv_at hl 2 rfl) ?_
  refine va_get (ci := 0) (v := .ref c7) (C := RX0) (T := TX0) (N := 9) hx hb hts (fun _ h => List.mem_cons_of_mem _ (List.mem_append_left _ (List.mem_append_right _ h))) hown hK.1 hP 0 rfl rfl 7 (by decide) (hts (.fieldLink RX0 29 "CutAtlas$Current" "queue" "[I") (List.mem_of_getElem? (i := 1) rfl)) (fun _ h9 => h9) rfl dB_36_0_31.1.2.2.2 ?_
  refine lv_iconst (v := 0) hx hb dB_36_0_31.2.1.1.1 (by decide) ?_
  refine lv_iload_n hx hb dB_36_0_31.2.1.1.2 rfl (lv_at hl 3 rfl) ?_
  have h_2 : vp_in (0 : Int32) 12 := by unfold vp_in; decide
  refine va_iast hx hb hK.1 hP hD hS 15 0 rfl rfl (i := 0) h_2 dB_36_0_31.2.1.2.1 (fun H locs hP hD hS => ?_)
  obtain ⟨f_3, ef_3⟩ : ∃ g : Nat → Int32, g = upd f7 (0 : Int32).toNatClampNeg a1 := ⟨_, rfl⟩
  refine pd_K (D := D) (cl := vwCl) (H := H) (A := A) [ob0_0_ xc xn xk clo cro c4 c5 c6 c7 c8, ob3_0_ xn vp vn n1 n2 n3 n4 n5, aq_ cy 6 cro 12 (gf_ rr), ai_ cy (rr 0) 12 (Mr 0), ai_ cy (rr 1) 12 (Mr 1), ai_ cy (rr 2) 12 (Mr 2), ai_ cy (rr 3) 12 (Mr 3), ai_ cy (rr 4) 12 (Mr 4), ai_ cy (rr 5) 12 (Mr 5), ai_ cy (rr 6) 12 (Mr 6), ai_ cy (rr 7) 12 (Mr 7), ai_ cy (rr 8) 12 (Mr 8), ai_ cy (rr 9) 12 (Mr 9), ai_ cy (rr 10) 12 (Mr 10), ai_ cy (rr 11) 12 (Mr 11), ai_ cy c7 12 f_3] (by rw [ef_3]; exact hP) (by rw [ef_3]; exact hD) (fun hP hD => ?_)
  have rf_3 : rng f_3 12 (0) (11) := by rw [ef_3]; exact rng_upd r_f7 (by omega) (by omega)
  have hq_ : mq y_1 f_3 (1 : Int32).toNatClampNeg := mq_one (by assumption) (by assumption) (by omega) (by omega)
  refine lv_iconst (v := 0) hx hb dB_36_0_31.2.1.2.2 (by decide) ?_
  refine lv_istore (lv' := [(4, .int 0), (3, .int 1), (2, .int y_1), (0, .ref xc), (1, .int a1)]) hx hb dB_36_0_31.2.2.1.1 hl (by decide) rfl (fun ls hl => ?_)
  suffices LOOP_4 : ∀ (n_4 : Nat) (x4_4 : Int32) (x3_4 : Int32) (x2_4 : Int32) (c_c7_4 : Nat → Int32) (H : Heap) (locs : List Loc) (ls : Array Slot), 12 - x4_4.toInt < (n_4 : Int) → (1 ≤ x3_4.toInt) → (x3_4.toInt ≤ 12) → (0 ≤ x4_4.toInt) → (x4_4.toInt ≤ 12) → (mq x2_4 c_c7_4 x3_4.toNatClampNeg) → (rng c_c7_4 12 (0) (11)) → pd_2 D vwCl A [ob0_0_ xc xn xk clo cro c4 c5 c6 c7 c8, ob3_0_ xn vp vn n1 n2 n3 n4 n5, aq_ cy 6 cro 12 (gf_ rr), ai_ cy (rr 0) 12 (Mr 0), ai_ cy (rr 1) 12 (Mr 1), ai_ cy (rr 2) 12 (Mr 2), ai_ cy (rr 3) 12 (Mr 3), ai_ cy (rr 4) 12 (Mr 4), ai_ cy (rr 5) 12 (Mr 5), ai_ cy (rr 6) 12 (Mr 6), ai_ cy (rr 7) 12 (Mr 7), ai_ cy (rr 8) 12 (Mr 8), ai_ cy (rr 9) 12 (Mr 9), ai_ cy (rr 10) 12 (Mr 10), ai_ cy (rr 11) 12 (Mr 11), ai_ cy c7 12 c_c7_4] H → va_S A s.heap H locs → lv_has ls 6 [(4, .int x4_4), (3, .int x3_4), (2, .int x2_4), (0, .ref xc), (1, .int a1)] → W p l e ({ frames := 0, cells := 0, slots := 0, locals := 0 } : Room) s m (([.ref xc, .int a1] : List Value).toArray) below meth c H locs 0 0 Q (F0 m 16 ls []) from LOOP_4 ((12 - (0 : Int32).toInt).toNat + 1) (0 : Int32) (1 : Int32) y_1 f_3 _ _ _ (by omega) (by first | with_reducible assumption | omega | assumption) (by first | with_reducible assumption | omega | assumption) (by first | with_reducible assumption | omega | assumption) (by first | with_reducible assumption | omega | assumption) (by first | with_reducible assumption | assumption | omega) (by first | with_reducible assumption | assumption | exact rng_zero (by omega) (by omega) | exact orng_zero) ⟨hP, hD⟩ hS (lv_sub hl [0, 1, 2, 3, 4] rfl)
  intro n_4
  induction n_4 with
  | zero =>
    intro x4_4 x3_4 x2_4 c_c7_4 H locs ls hm v0_4 v1_4 v2_4 v3_4 v4_4 rc_c7_4 hPD hS hl; obtain ⟨hP, hD⟩ := hPD
    exact absurd hm (by omega)
  | succ n_4 ih_4 =>
    intro x4_4 x3_4 x2_4 c_c7_4 H locs ls hm v0_4 v1_4 v2_4 v3_4 v4_4 rc_c7_4 hPD hS hl; obtain ⟨hP, hD⟩ := hPD
    refine lv_iload hx hb dB_36_0_31.2.2.1.2 (lv_at hl 0 rfl) ?_
    refine lv_iload_n hx hb dB_36_0_31.2.2.2.1 rfl (lv_at hl 1 rfl) ?_
    refine lv_icmp_ge (tgt := 101) hx hb dB_36_0_31.2.2.2.2 (by decide) (fun c_5 => ?_) (fun c_5 => ?_)
    · have t_5 : x3_4.toInt ≤ x4_4.toInt := Int32.le_iff_toInt_le.mp c_5
      refine lv_iload_n hx hb dB_36_0_34.2.2.2.1 rfl (lv_at hl 2 rfl) ?_
      rw [hQ]
      exact W.iret (v := x2_4) hx hb hr (fun t ht hW => ⟨⟨x2_4, (), rfl, trivial, c_c7_4, (by first | with_reducible assumption | assumption | exact rng_zero (by omega) (by omega) | omega), by rw [ht]; exact hP, hD⟩, hS.F ht⟩) hS.2.2 dB_36_0_34.2.2.2.2
    · have t_5 : ¬ x3_4.toInt ≤ x4_4.toInt := fun h => c_5 (Int32.le_iff_toInt_le.mpr h)
      refine lv_iload hx hb dB_36_0_32.1.1.1.1 (lv_at hl 0 rfl) ?_
      refine lv_bipush (v := 12) hx hb dB_36_0_32.1.1.1.2 (by decide) ?_
      refine lv_icmp_ge (tgt := 101) hx hb dB_36_0_32.1.1.2.1 (by decide) (fun c_6 => ?_) (fun c_6 => ?_)
      · have t_6 : (12 : Int32).toInt ≤ x4_4.toInt := Int32.le_iff_toInt_le.mp c_6
        refine lv_iload_n hx hb dB_36_0_34.2.2.2.1 rfl (lv_at hl 2 rfl) ?_
        rw [hQ]
        exact W.iret (v := x2_4) hx hb hr (fun t ht hW => ⟨⟨x2_4, (), rfl, trivial, c_c7_4, (by first | with_reducible assumption | assumption | exact rng_zero (by omega) (by omega) | omega), by rw [ht]; exact hP, hD⟩, hS.F ht⟩) hS.2.2 dB_36_0_34.2.2.2.2
      · have t_6 : ¬ (12 : Int32).toInt ≤ x4_4.toInt := fun h => c_6 (Int32.le_iff_toInt_le.mpr h)
        refine lv_iconst (v := 0) hx hb dB_36_0_32.1.1.2.2 (by decide) ?_
        refine lv_istore (lv' := [(5, .int 0), (4, .int x4_4), (3, .int x3_4), (2, .int x2_4), (0, .ref xc), (1, .int a1)]) hx hb dB_36_0_32.1.2.1.1 hl (by decide) rfl (fun ls hl => ?_)
        suffices LOOP_7 : ∀ (n_7 : Nat) (x5_7 : Int32) (x3_7 : Int32) (x2_7 : Int32) (c_c7_7 : Nat → Int32) (H : Heap) (locs : List Loc) (ls : Array Slot), vp.toInt - x5_7.toInt < (n_7 : Int) → (1 ≤ x3_7.toInt) → (x3_7.toInt ≤ 12) → (0 ≤ x5_7.toInt) → (x5_7.toInt ≤ vp.toInt) → (mq x2_7 c_c7_7 x3_7.toNatClampNeg) → (rng c_c7_7 12 (0) (11)) → pd_2 D vwCl A [ob0_0_ xc xn xk clo cro c4 c5 c6 c7 c8, ob3_0_ xn vp vn n1 n2 n3 n4 n5, aq_ cy 6 cro 12 (gf_ rr), ai_ cy (rr 0) 12 (Mr 0), ai_ cy (rr 1) 12 (Mr 1), ai_ cy (rr 2) 12 (Mr 2), ai_ cy (rr 3) 12 (Mr 3), ai_ cy (rr 4) 12 (Mr 4), ai_ cy (rr 5) 12 (Mr 5), ai_ cy (rr 6) 12 (Mr 6), ai_ cy (rr 7) 12 (Mr 7), ai_ cy (rr 8) 12 (Mr 8), ai_ cy (rr 9) 12 (Mr 9), ai_ cy (rr 10) 12 (Mr 10), ai_ cy (rr 11) 12 (Mr 11), ai_ cy c7 12 c_c7_7] H → va_S A s.heap H locs → lv_has ls 6 [(5, .int x5_7), (4, .int x4_4), (3, .int x3_7), (2, .int x2_7), (0, .ref xc), (1, .int a1)] → W p l e ({ frames := 0, cells := 0, slots := 0, locals := 0 } : Room) s m (([.ref xc, .int a1] : List Value).toArray) below meth c H locs 0 0 Q (F0 m 32 ls []) from LOOP_7 ((vp.toInt - (0 : Int32).toInt).toNat + 1) (0 : Int32) x3_4 x2_4 c_c7_4 _ _ _ (by omega) (by first | with_reducible assumption | omega | assumption) (by first | with_reducible assumption | omega | assumption) (by first | with_reducible assumption | omega | assumption) (by first | with_reducible assumption | omega | assumption) (by first | with_reducible assumption | assumption | exact hp_ _ (by omega)) (by first | with_reducible assumption | assumption | exact rng_zero (by omega) (by omega) | exact orng_zero) ⟨hP, hD⟩ hS (lv_sub hl [0, 1, 2, 3, 4, 5] rfl)
        intro n_7
        induction n_7 with
        | zero =>
          intro x5_7 x3_7 x2_7 c_c7_7 H locs ls hm v0_7 v1_7 v2_7 v3_7 v4_7 rc_c7_7 hPD hS hl; obtain ⟨hP, hD⟩ := hPD
          exact absurd hm (by omega)
        | succ n_7 ih_7 =>
          intro x5_7 x3_7 x2_7 c_c7_7 H locs ls hm v0_7 v1_7 v2_7 v3_7 v4_7 rc_c7_7 hPD hS hl; obtain ⟨hP, hD⟩ := hPD
          refine lv_iload hx hb dB_36_0_32.1.2.1.2 (lv_at hl 0 rfl) ?_
          refine lv_aload_n hx hb dB_36_0_32.1.2.2.1 rfl (lv_at hl 4 rfl) ?_
          refine va_get (ci := 0) (v := .ref xn) (C := RX0) (T := TX0) (N := 9) hx hb hts (fun _ h => List.mem_cons_of_mem _ (List.mem_append_left _ (List.mem_append_right _ h))) hown hK.1 hP 0 rfl rfl 0 (by decide) (hts (.fieldLink RX0 35 "CutAtlas$Current" "net" "LCutAtlas$Net;") (List.mem_of_getElem? (i := 2) rfl)) (fun _ h9 => h9) rfl dB_36_0_32.1.2.2.2 ?_
          refine va_get (ci := 3) (v := .int vp) (C := RX3) (T := TX3) (N := 7) hx hb hts (fun _ h => List.mem_cons_of_mem _ (List.mem_append_right _ h)) hown hK.1 hP 1 rfl rfl 0 (by decide) (hts (.fieldLink RX0 43 "CutAtlas$Net" "places" "I") (List.mem_of_getElem? (i := 3) rfl)) (fun _ h9 => h9) rfl dB_36_0_32.2.1.1.1 ?_
          refine lv_icmp_ge (tgt := 95) hx hb dB_36_0_32.2.1.1.2 (by decide) (fun c_8 => ?_) (fun c_8 => ?_)
          · have t_8 : vp.toInt ≤ x5_7.toInt := Int32.le_iff_toInt_le.mp c_8
            obtain ⟨y_9, ey_9⟩ : ∃ y : Int32, y = x4_4 + 1 := ⟨_, rfl⟩
            have ty_9 : y_9.toInt = x4_4.toInt + (1 : Int32).toInt := by rw [ey_9]; exact addI (by omega) (by omega)
            refine lv_iinc (v := y_9) (lv' := [(4, .int y_9), (5, .int x5_7), (3, .int x3_7), (2, .int x2_7), (0, .ref xc), (1, .int a1)]) hx hb dB_36_0_34.2.1.2.2 hl (k := 1) rfl (by rw [ey_9]; rfl) (by decide) rfl (fun ls hl => ?_)
            refine lv_goto (tgt := 16) hx hb dB_36_0_34.2.2.1 (by decide) ?_
            exact ih_4 y_9 x3_7 x2_7 c_c7_7 _ _ _ (by omega) (by first | with_reducible assumption | omega | assumption) (by first | with_reducible assumption | omega | assumption) (by first | with_reducible assumption | omega | assumption) (by first | with_reducible assumption | omega | assumption) (by first | with_reducible assumption | assumption | omega) (by first | with_reducible assumption | assumption | exact rng_zero (by omega) (by omega) | exact orng_zero) ⟨hP, hD⟩ hS (lv_sub hl [0, 2, 3, 4, 5] rfl)
          · have t_8 : ¬ vp.toInt ≤ x5_7.toInt := fun h => c_8 (Int32.le_iff_toInt_le.mpr h)
            refine lv_iload_n hx hb dB_36_0_32.2.1.2.1 rfl (lv_at hl 3 rfl) ?_
            refine lv_iload hx hb dB_36_0_32.2.1.2.2 (lv_at hl 0 rfl) ?_
            refine lv_ishr hx hb dB_36_0_32.2.2.1.1 ?_
            refine lv_topi (fun y_10 ey_10 => ?_)
            refine lv_iconst (v := 1) hx hb dB_36_0_32.2.2.1.2 (by decide) ?_
            refine lv_iand hx hb dB_36_0_32.2.2.2.1 ?_
            refine lv_topi (fun y_11 ey_11 => ?_)
            refine lv_if_ne (tgt := 89) hx hb dB_36_0_32.2.2.2.2 (by decide) (fun c_12 => ?_) (fun c_12 => ?_)
            · have t_12 : ¬ y_11.toInt = (0 : Int32).toInt := fun h => c_12 (Int32.toInt_inj.mp h)
              obtain ⟨y_13, ey_13⟩ : ∃ y : Int32, y = x5_7 + 1 := ⟨_, rfl⟩
              have ty_13 : y_13.toInt = x5_7.toInt + (1 : Int32).toInt := by rw [ey_13]; exact addI (by omega) (by omega)
              refine lv_iinc (v := y_13) (lv' := [(5, .int y_13), (4, .int x4_4), (3, .int x3_7), (2, .int x2_7), (0, .ref xc), (1, .int a1)]) hx hb dB_36_0_34.2.1.1 hl (k := 0) rfl (by rw [ey_13]; rfl) (by decide) rfl (fun ls hl => ?_)
              refine lv_goto (tgt := 32) hx hb dB_36_0_34.2.1.2.1 (by decide) ?_
              exact ih_7 y_13 x3_7 x2_7 c_c7_7 _ _ _ (by omega) (by first | with_reducible assumption | omega | assumption) (by first | with_reducible assumption | omega | assumption) (by first | with_reducible assumption | omega | assumption) (by first | with_reducible assumption | omega | assumption) (by first | with_reducible assumption | assumption | exact hp_ _ (by omega)) (by first | with_reducible assumption | assumption | exact rng_zero (by omega) (by omega) | exact orng_zero) ⟨hP, hD⟩ hS (lv_sub hl [0, 1, 2, 3, 4, 5] rfl)
            · have t_12 : y_11.toInt = (0 : Int32).toInt := congrArg Int32.toInt c_12
              refine lv_aload_n hx hb dB_36_0_33.1.1.1.1 rfl (lv_at hl 4 rfl) ?_
              refine va_get (ci := 0) (v := .ref cro) (C := RX0) (T := TX0) (N := 9) hx hb hts (fun _ h => List.mem_cons_of_mem _ (List.mem_append_left _ (List.mem_append_right _ h))) hown hK.1 hP 0 rfl rfl 3 (by decide) (hts (.fieldLink RX0 16 "CutAtlas$Current" "room" "[[I") (List.mem_of_getElem? (i := 4) rfl)) (fun _ h9 => h9) rfl dB_36_0_33.1.1.1.2 ?_
              refine lv_iload hx hb dB_36_0_33.1.1.2.1 (lv_at hl 0 rfl) ?_
              have h_14 : vp_in x5_7 12 := in_I (by first | with_reducible assumption | omega) (by omega)
              refine va_alda hx hb hG hP 2 rfl (i := x5_7) h_14 dB_36_0_33.1.1.2.2 ?_
              refine lv_topv (v' := .ref (rr x5_7.toNatClampNeg)) (gf_at h_14) ?_
              refine lv_aload_n hx hb dB_36_0_33.1.2.1.1 rfl (lv_at hl 4 rfl) ?_
              refine va_get (ci := 0) (v := .ref c7) (C := RX0) (T := TX0) (N := 9) hx hb hts (fun _ h => List.mem_cons_of_mem _ (List.mem_append_left _ (List.mem_append_right _ h))) hown hK.1 hP 0 rfl rfl 7 (by decide) (hts (.fieldLink RX0 29 "CutAtlas$Current" "queue" "[I") (List.mem_of_getElem? (i := 1) rfl)) (fun _ h9 => h9) rfl dB_36_0_33.1.2.1.2 ?_
              refine lv_iload hx hb dB_36_0_33.1.2.2.1 (lv_at hl 1 rfl) ?_
              have h_15 : vp_in x4_4 12 := in_I (by first | with_reducible assumption | omega) (by omega)
              refine va_iald hx hb hK.1 hP 15 0 rfl rfl (i := x4_4) h_15 dB_36_0_33.1.2.2.2 ?_
              refine lv_topi (fun y_16 ey_16 => ?_)
              have ry_16 : 0 ≤ y_16.toInt ∧ y_16.toInt ≤ 11 := by rw [ey_16]; exact rc_c7_7 _ (in_lt h_15)
              have h_17 : vp_in y_16 12 := in_I (by first | with_reducible assumption | omega) (by omega)
              have hPg : va_P D vwCl (([ob0_0_ xc xn xk clo cro c4 c5 c6 c7 c8, ob3_0_ xn vp vn n1 n2 n3 n4 n5, aq_ cy 6 cro 12 (gf_ rr)] : va_W) ++ (gro (cy 0) rr Mr ++ ([ai_ cy c7 12 c_c7_7] : va_W))) H := hP
              refine va_gld (X := [ob0_0_ xc xn xk clo cro c4 c5 c6 c7 c8, ob3_0_ xn vp vn n1 n2 n3 n4 n5, aq_ cy 6 cro 12 (gf_ rr)]) (Y := [ai_ cy c7 12 c_c7_7]) (r := rr) (M := Mr) (k := x5_7.toNatClampNeg) hx hb hK.1 hPg 0 rfl (in_lt h_14) (i := y_16) h_17 dB_36_0_33.2.1.1.1 ?_
              refine lv_topi (fun y_18 ey_18 => ?_)
              refine lv_if_le (tgt := 89) hx hb dB_36_0_33.2.1.1.2 (by decide) (fun c_19 => ?_) (fun c_19 => ?_)
              · have t_19 : y_18.toInt ≤ (0 : Int32).toInt := Int32.le_iff_toInt_le.mp c_19
                obtain ⟨y_20, ey_20⟩ : ∃ y : Int32, y = x5_7 + 1 := ⟨_, rfl⟩
                have ty_20 : y_20.toInt = x5_7.toInt + (1 : Int32).toInt := by rw [ey_20]; exact addI (by omega) (by omega)
                refine lv_iinc (v := y_20) (lv' := [(5, .int y_20), (4, .int x4_4), (3, .int x3_7), (2, .int x2_7), (0, .ref xc), (1, .int a1)]) hx hb dB_36_0_34.2.1.1 hl (k := 0) rfl (by rw [ey_20]; rfl) (by decide) rfl (fun ls hl => ?_)
                refine lv_goto (tgt := 32) hx hb dB_36_0_34.2.1.2.1 (by decide) ?_
                exact ih_7 y_20 x3_7 x2_7 c_c7_7 _ _ _ (by omega) (by first | with_reducible assumption | omega | assumption) (by first | with_reducible assumption | omega | assumption) (by first | with_reducible assumption | omega | assumption) (by first | with_reducible assumption | omega | assumption) (by first | with_reducible assumption | assumption | exact hp_ _ (by omega)) (by first | with_reducible assumption | assumption | exact rng_zero (by omega) (by omega) | exact orng_zero) ⟨hP, hD⟩ hS (lv_sub hl [0, 1, 2, 3, 4, 5] rfl)
              · have t_19 : ¬ y_18.toInt ≤ (0 : Int32).toInt := fun h => c_19 (Int32.le_iff_toInt_le.mpr h)
                have hr_ : x3_7.toInt < 12 := mq_room (x := x2_7) (y := x5_7) (z := y_10) (w := y_11) (q := c_c7_7) (by assumption) (by omega) (by omega) (by assumption) (by assumption) (by omega) (by omega)
                refine lv_iload_n hx hb dB_36_0_33.2.1.2.1 rfl (lv_at hl 3 rfl) ?_
                refine lv_iconst (v := 1) hx hb dB_36_0_33.2.1.2.2 (by decide) ?_
                refine lv_iload hx hb dB_36_0_33.2.2.1.1 (lv_at hl 0 rfl) ?_
                refine lv_ishl hx hb dB_36_0_33.2.2.1.2 ?_
                refine lv_topi (fun y_21 ey_21 => ?_)
                refine lv_ior hx hb dB_36_0_33.2.2.2.1 ?_
                refine lv_topi (fun y_22 ey_22 => ?_)
                refine lv_istore_n (lv' := [(2, .int y_22), (5, .int x5_7), (4, .int x4_4), (3, .int x3_7), (0, .ref xc), (1, .int a1)]) hx hb dB_36_0_33.2.2.2.2 rfl hl (by decide) rfl (fun ls hl => ?_)
                refine lv_aload_n hx hb dB_36_0_34.1.1.1 rfl (lv_at hl 4 rfl) ?_
                refine va_get (ci := 0) (v := .ref c7) (C := RX0) (T := TX0) (N := 9) hx hb hts (fun _ h => List.mem_cons_of_mem _ (List.mem_append_left _ (List.mem_append_right _ h))) hown hK.1 hP 0 rfl rfl 7 (by decide) (hts (.fieldLink RX0 29 "CutAtlas$Current" "queue" "[I") (List.mem_of_getElem? (i := 1) rfl)) (fun _ h9 => h9) rfl dB_36_0_34.1.1.2.1 ?_
                refine lv_iload_n hx hb dB_36_0_34.1.1.2.2 rfl (lv_at hl 3 rfl) ?_
                refine lv_iload hx hb dB_36_0_34.1.2.1 (lv_at hl 1 rfl) ?_
                have h_23 : vp_in x3_7 12 := in_I (by first | with_reducible assumption | omega) (by omega)
                refine va_iast hx hb hK.1 hP hD hS 15 0 rfl rfl (i := x3_7) h_23 dB_36_0_34.1.2.2.1 (fun H locs hP hD hS => ?_)
                obtain ⟨f_24, ef_24⟩ : ∃ g : Nat → Int32, g = upd c_c7_7 x3_7.toNatClampNeg x5_7 := ⟨_, rfl⟩
                refine pd_K (D := D) (cl := vwCl) (H := H) (A := A) [ob0_0_ xc xn xk clo cro c4 c5 c6 c7 c8, ob3_0_ xn vp vn n1 n2 n3 n4 n5, aq_ cy 6 cro 12 (gf_ rr), ai_ cy (rr 0) 12 (Mr 0), ai_ cy (rr 1) 12 (Mr 1), ai_ cy (rr 2) 12 (Mr 2), ai_ cy (rr 3) 12 (Mr 3), ai_ cy (rr 4) 12 (Mr 4), ai_ cy (rr 5) 12 (Mr 5), ai_ cy (rr 6) 12 (Mr 6), ai_ cy (rr 7) 12 (Mr 7), ai_ cy (rr 8) 12 (Mr 8), ai_ cy (rr 9) 12 (Mr 9), ai_ cy (rr 10) 12 (Mr 10), ai_ cy (rr 11) 12 (Mr 11), ai_ cy c7 12 f_24] (by rw [ef_24]; exact hP) (by rw [ef_24]; exact hD) (fun hP hD => ?_)
                have rf_24 : rng f_24 12 (0) (11) := by rw [ef_24]; exact rng_upd rc_c7_7 (by omega) (by omega)
                have hp_ : ∀ m2 : Int32, m2.toInt = x3_7.toInt + 1 → mq y_22 f_24 m2.toNatClampNeg := fun m2 em => mq_push (x := x2_7) (y := x5_7) (z := y_10) (w := y_11) (m := x3_7) (b := y_21) (q := c_c7_7) (by assumption) (by omega) (by omega) (by assumption) (by assumption) (by omega) (by omega) (by assumption) (by assumption) (by assumption) em
                obtain ⟨y_25, ey_25⟩ : ∃ y : Int32, y = x3_7 + 1 := ⟨_, rfl⟩
                have ty_25 : y_25.toInt = x3_7.toInt + (1 : Int32).toInt := by rw [ey_25]; exact addI (by omega) (by omega)
                refine lv_iinc (v := y_25) (lv' := [(3, .int y_25), (2, .int y_22), (5, .int x5_7), (4, .int x4_4), (0, .ref xc), (1, .int a1)]) hx hb dB_36_0_34.1.2.2.2 hl (k := 3) rfl (by rw [ey_25]; rfl) (by decide) rfl (fun ls hl => ?_)
                obtain ⟨y_26, ey_26⟩ : ∃ y : Int32, y = x5_7 + 1 := ⟨_, rfl⟩
                have ty_26 : y_26.toInt = x5_7.toInt + (1 : Int32).toInt := by rw [ey_26]; exact addI (by omega) (by omega)
                refine lv_iinc (v := y_26) (lv' := [(5, .int y_26), (3, .int y_25), (2, .int y_22), (4, .int x4_4), (0, .ref xc), (1, .int a1)]) hx hb dB_36_0_34.2.1.1 hl (k := 2) rfl (by rw [ey_26]; rfl) (by decide) rfl (fun ls hl => ?_)
                refine lv_goto (tgt := 32) hx hb dB_36_0_34.2.1.2.1 (by decide) ?_
                exact ih_7 y_26 y_25 y_22 f_24 _ _ _ (by omega) (by first | with_reducible assumption | omega | assumption) (by first | with_reducible assumption | omega | assumption) (by first | with_reducible assumption | omega | assumption) (by first | with_reducible assumption | omega | assumption) (by first | with_reducible assumption | assumption | exact hp_ _ (by omega)) (by first | with_reducible assumption | assumption | exact rng_zero (by omega) (by omega) | exact orng_zero) ⟨hP, hD⟩ hS (lv_sub hl [0, 3, 1, 2, 4, 5] rfl)

set_option maxHeartbeats 4000000 in
set_option maxRecDepth 100000 in
theorem c_X0_nearCut (l : Launch) (D : va_G) (cy : Nat → ClassId) (sz : Nat) (xc : Nat) (xk : Nat) (clo : Nat) (cro : Nat) (c4 : Nat) (c5 : Nat) (c6 : Nat) (c7 : Nat) (c8 : Nat) (xn : Nat) (n1 : Nat) (n2 : Nat) (n3 : Nat) (n4 : Nat) (n5 : Nat) (vp : Int32) (vn : Int32) (rr : Nat → Nat) (Mr : Nat → Nat → Int32) (f7 : Nat → Int32) (a1 : Int32) (hvp : 0 ≤ vp.toInt ∧ vp.toInt ≤ 12) (q1 : 0 ≤ a1.toInt ∧ a1.toInt ≤ 11) (r_f7 : rng f7 12 (0) (11)) : Met l yX0_nearCut wsX0_nearCut ({ frames := 1, cells := 0, slots := 0, locals := 26 }) (va_Pc [.ref xc, .int a1] (fun U => U.heap.size = sz ∧ va_P D vwCl [ob0_0_ xc xn xk clo cro c4 c5 c6 c7 c8, ob3_0_ xn vp vn n1 n2 n3 n4 n5, aq_ cy 6 cro 12 (gf_ rr), ai_ cy (rr 0) 12 (Mr 0), ai_ cy (rr 1) 12 (Mr 1), ai_ cy (rr 2) 12 (Mr 2), ai_ cy (rr 3) 12 (Mr 3), ai_ cy (rr 4) 12 (Mr 4), ai_ cy (rr 5) 12 (Mr 5), ai_ cy (rr 6) 12 (Mr 6), ai_ cy (rr 7) 12 (Mr 7), ai_ cy (rr 8) 12 (Mr 8), ai_ cy (rr 9) 12 (Mr 9), ai_ cy (rr 10) 12 (Mr 10), ai_ cy (rr 11) 12 (Mr 11), ai_ cy c7 12 f7] U.heap ∧ kg_ D cy U ∧ va_D (fun _ => True) [ob0_0_ xc xn xk clo cro c4 c5 c6 c7 c8, ob3_0_ xn vp vn n1 n2 n3 n4 n5, aq_ cy 6 cro 12 (gf_ rr), ai_ cy (rr 0) 12 (Mr 0), ai_ cy (rr 1) 12 (Mr 1), ai_ cy (rr 2) 12 (Mr 2), ai_ cy (rr 3) 12 (Mr 3), ai_ cy (rr 4) 12 (Mr 4), ai_ cy (rr 5) 12 (Mr 5), ai_ cy (rr 6) 12 (Mr 6), ai_ cy (rr 7) 12 (Mr 7), ai_ cy (rr 8) 12 (Mr 8), ai_ cy (rr 9) 12 (Mr 9), ai_ cy (rr 10) 12 (Mr 10), ai_ cy (rr 11) 12 (Mr 11), ai_ cy c7 12 f7])) (va_Qi (fun (r : Int32) (_ : Unit) => True) (fun (_ : Unit) (t : State) => ∃ (e7 : Nat → Int32), (rng e7 12 (0) (11)) ∧ va_P D vwCl [ob0_0_ xc xn xk clo cro c4 c5 c6 c7 c8, ob3_0_ xn vp vn n1 n2 n3 n4 n5, aq_ cy 6 cro 12 (gf_ rr), ai_ cy (rr 0) 12 (Mr 0), ai_ cy (rr 1) 12 (Mr 1), ai_ cy (rr 2) 12 (Mr 2), ai_ cy (rr 3) 12 (Mr 3), ai_ cy (rr 4) 12 (Mr 4), ai_ cy (rr 5) 12 (Mr 5), ai_ cy (rr 6) 12 (Mr 6), ai_ cy (rr 7) 12 (Mr 7), ai_ cy (rr 8) 12 (Mr 8), ai_ cy (rr 9) 12 (Mr 9), ai_ cy (rr 10) 12 (Mr 10), ai_ cy (rr 11) 12 (Mr 11), ai_ cy c7 12 e7] t.heap ∧ va_D (va_A [ob0_0_ xc xn xk clo cro c4 c5 c6 c7 c8, ob3_0_ xn vp vn n1 n2 n3 n4 n5, aq_ cy 6 cro 12 (gf_ rr), ai_ cy (rr 0) 12 (Mr 0), ai_ cy (rr 1) 12 (Mr 1), ai_ cy (rr 2) 12 (Mr 2), ai_ cy (rr 3) 12 (Mr 3), ai_ cy (rr 4) 12 (Mr 4), ai_ cy (rr 5) 12 (Mr 5), ai_ cy (rr 6) 12 (Mr 6), ai_ cy (rr 7) 12 (Mr 7), ai_ cy (rr 8) 12 (Mr 8), ai_ cy (rr 9) 12 (Mr 9), ai_ cy (rr 10) 12 (Mr 10), ai_ cy (rr 11) 12 (Mr 11), ai_ cy c7 12 f7] sz) [ob0_0_ xc xn xk clo cro c4 c5 c6 c7 c8, ob3_0_ xn vp vn n1 n2 n3 n4 n5, aq_ cy 6 cro 12 (gf_ rr), ai_ cy (rr 0) 12 (Mr 0), ai_ cy (rr 1) 12 (Mr 1), ai_ cy (rr 2) 12 (Mr 2), ai_ cy (rr 3) 12 (Mr 3), ai_ cy (rr 4) 12 (Mr 4), ai_ cy (rr 5) 12 (Mr 5), ai_ cy (rr 6) 12 (Mr 6), ai_ cy (rr 7) 12 (Mr 7), ai_ cy (rr 8) 12 (Mr 8), ai_ cy (rr 9) 12 (Mr 9), ai_ cy (rr 10) 12 (Mr 10), ai_ cy (rr 11) 12 (Mr 11), ai_ cy c7 12 e7]) (va_A [ob0_0_ xc xn xk clo cro c4 c5 c6 c7 c8, ob3_0_ xn vp vn n1 n2 n3 n4 n5, aq_ cy 6 cro 12 (gf_ rr), ai_ cy (rr 0) 12 (Mr 0), ai_ cy (rr 1) 12 (Mr 1), ai_ cy (rr 2) 12 (Mr 2), ai_ cy (rr 3) 12 (Mr 3), ai_ cy (rr 4) 12 (Mr 4), ai_ cy (rr 5) 12 (Mr 5), ai_ cy (rr 6) 12 (Mr 6), ai_ cy (rr 7) 12 (Mr 7), ai_ cy (rr 8) 12 (Mr 8), ai_ cy (rr 9) 12 (Mr 9), ai_ cy (rr 10) 12 (Mr 10), ai_ cy (rr 11) 12 (Mr 11), ai_ cy c7 12 f7] sz)) 0 0 (va_A [ob0_0_ xc xn xk clo cro c4 c5 c6 c7 c8, ob3_0_ xn vp vn n1 n2 n3 n4 n5, aq_ cy 6 cro 12 (gf_ rr), ai_ cy (rr 0) 12 (Mr 0), ai_ cy (rr 1) 12 (Mr 1), ai_ cy (rr 2) 12 (Mr 2), ai_ cy (rr 3) 12 (Mr 3), ai_ cy (rr 4) 12 (Mr 4), ai_ cy (rr 5) 12 (Mr 5), ai_ cy (rr 6) 12 (Mr 6), ai_ cy (rr 7) 12 (Mr 7), ai_ cy (rr 8) 12 (Mr 8), ai_ cy (rr 9) 12 (Mr 9), ai_ cy (rr 10) 12 (Mr 10), ai_ cy (rr 11) 12 (Mr 11), ai_ cy c7 12 f7] sz) := by
  refine ofQ (cc := cX0_nearCut) (maxL := 2) (ret := (some .int)) (by decide) rfl ?_
  intro p e s m args below meth c s₁ Q hQ B hml hv
  obtain ⟨rfl, hsz, hP, hK, hD0⟩ := hv
  have hG := hK.2
  have hK := hK.1
  have hx := B.exec
  have hb := B.bytes
  have hr := B.returns
  have hts := atoms_spec (ws := wsX0_nearCut) B.pre
  have hown : s.vm.findClass RX0 = some m.cls := by have h_ := findClass_of_methodNamed B.named; exact h_
  have hlocks := B.notSynchronized
  subst hsz
  have hD := hD0.self (sz := s.heap.size)
  generalize hAe : va_A [ob0_0_ xc xn xk clo cro c4 c5 c6 c7 c8, ob3_0_ xn vp vn n1 n2 n3 n4 n5, aq_ cy 6 cro 12 (gf_ rr), ai_ cy (rr 0) 12 (Mr 0), ai_ cy (rr 1) 12 (Mr 1), ai_ cy (rr 2) 12 (Mr 2), ai_ cy (rr 3) 12 (Mr 3), ai_ cy (rr 4) 12 (Mr 4), ai_ cy (rr 5) 12 (Mr 5), ai_ cy (rr 6) 12 (Mr 6), ai_ cy (rr 7) 12 (Mr 7), ai_ cy (rr 8) 12 (Mr 8), ai_ cy (rr 9) 12 (Mr 9), ai_ cy (rr 10) 12 (Mr 10), ai_ cy (rr 11) 12 (Mr 11), ai_ cy c7 12 f7] s.heap.size = A at hD hQ
  have hA : ∀ q : Nat, s.heap.size ≤ q → A q := fun q h => by rw [← hAe]; exact Or.inr h
  have hS : va_S A s.heap s.heap [] := va_S.rf
  have hl := lv_entry ([.ref xc, .int a1]) (n := 2) (Nat.le_of_ble_eq_true rfl)
  rw [lg_entry_eq]
  generalize (lg_sl ([.ref xc, .int a1]) ++ List.replicate (2 - (lg_sl ([.ref xc, .int a1])).length) Slot.unset).toArray = ls at hl ⊢
  have hl : lv_has ls 2 [(0, .ref xc), (1, .int a1)] := hl
  have z1 : (1 : Int32).toInt = 1 := by decide
  refine lv_aload_n hx hb dB_36_0_26.1.1 rfl (lv_at hl 0 rfl) ?_
  refine lv_iload_n hx hb dB_36_0_26.1.2 rfl (lv_at hl 1 rfl) ?_
  refine lv_iconst (v := 1) hx hb dB_36_0_26.2.1 (by decide) ?_
  refine ct_S hP hD hS hA [ob0_0_ xc xn xk clo cro c4 c5 c6 c7 c8, ob3_0_ xn vp vn n1 n2 n3 n4 n5, aq_ cy 6 cro 12 (gf_ rr), ai_ cy (rr 0) 12 (Mr 0), ai_ cy (rr 1) 12 (Mr 1), ai_ cy (rr 2) 12 (Mr 2), ai_ cy (rr 3) 12 (Mr 3), ai_ cy (rr 4) 12 (Mr 4), ai_ cy (rr 5) 12 (Mr 5), ai_ cy (rr 6) 12 (Mr 6), ai_ cy (rr 7) 12 (Mr 7), ai_ cy (rr 8) 12 (Mr 8), ai_ cy (rr 9) 12 (Mr 9), ai_ cy (rr 10) 12 (Mr 10), ai_ cy (rr 11) 12 (Mr 11), ai_ cy c7 12 f7] [0, 1, 2, 3, 4, 5, 6, 7, 8, 9, 10, 11, 12, 13, 14, 15] (by decide +kernel) rfl (fun hPc hDw hFc hC_ => ?_)
  refine va_calli (va_runV (As := [.int a1, .int 1]) (rest := []) ⟨hx, hb, hml, hown, hts⟩ (c_X0_reachedFrom l D cy s.heap.size xc xk clo cro c4 c5 c6 c7 c8 xn n1 n2 n3 n4 n5 vp vn rr Mr f7 a1 (1 : Int32) (by first | with_reducible assumption | omega | assumption) (by first | with_reducible assumption | omega | assumption) (by first | with_reducible assumption | assumption | omega)) (cwV 2 hts gX0_nearCut_X0_reachedFrom rfl rfl rfl ⟨rfl, hd_X0_reachedFrom⟩ ⟨Nat.le_of_ble_eq_true rfl, Nat.le_of_ble_eq_true rfl⟩) ⟨bl_g, va_recvX hK.1 hP (ci := 0) (q0 := 0) rfl rfl, fun U hU hW => ⟨rfl, by rw [hU], by rw [hU]; exact hPc, ⟨kk_mv hW hK, arrOfT_moved hW.alike hG⟩, hDw⟩⟩ rfl rfl hl.1 rfl (lv_room (Nat.le_of_ble_eq_true rfl)) dB_36_0_26.2.2.1 ⟨Nat.le_of_ble_eq_true rfl, Nat.le_of_ble_eq_true rfl⟩) hS (fun q _ h => hFc q h) hFc (fun r_1 u t H locs ht hvm hw hB hz1 hk1 hS => ?_)
  obtain ⟨e7_2, g_3, hP1, hD1⟩ := hB
  rw [ht] at hP1
  obtain ⟨hP, hD⟩ := va_join (wr := []) (w1 := [ob0_0_ xc xn xk clo cro c4 c5 c6 c7 c8, ob3_0_ xn vp vn n1 n2 n3 n4 n5, aq_ cy 6 cro 12 (gf_ rr), ai_ cy (rr 0) 12 (Mr 0), ai_ cy (rr 1) 12 (Mr 1), ai_ cy (rr 2) 12 (Mr 2), ai_ cy (rr 3) 12 (Mr 3), ai_ cy (rr 4) 12 (Mr 4), ai_ cy (rr 5) 12 (Mr 5), ai_ cy (rr 6) 12 (Mr 6), ai_ cy (rr 7) 12 (Mr 7), ai_ cy (rr 8) 12 (Mr 8), ai_ cy (rr 9) 12 (Mr 9), ai_ cy (rr 10) 12 (Mr 10), ai_ cy (rr 11) 12 (Mr 11), ai_ cy c7 12 e7_2]) hP hD [0, 1, 2, 3, 4, 5, 6, 7, 8, 9, 10, 11, 12, 13, 14, 15] [] hC_ rfl (by decide) (by decide) hk1 hFc hP1 hD1
  refine pd_K [ob0_0_ xc xn xk clo cro c4 c5 c6 c7 c8, ob3_0_ xn vp vn n1 n2 n3 n4 n5, aq_ cy 6 cro 12 (gf_ rr), ai_ cy (rr 0) 12 (Mr 0), ai_ cy (rr 1) 12 (Mr 1), ai_ cy (rr 2) 12 (Mr 2), ai_ cy (rr 3) 12 (Mr 3), ai_ cy (rr 4) 12 (Mr 4), ai_ cy (rr 5) 12 (Mr 5), ai_ cy (rr 6) 12 (Mr 6), ai_ cy (rr 7) 12 (Mr 7), ai_ cy (rr 8) 12 (Mr 8), ai_ cy (rr 9) 12 (Mr 9), ai_ cy (rr 10) 12 (Mr 10), ai_ cy (rr 11) 12 (Mr 11), ai_ cy c7 12 e7_2] hP hD (fun hP hD => ?_)
  rw [hQ]
  exact W.iret (v := r_1) hx hb hr (fun t ht hW => ⟨⟨r_1, (), rfl, trivial, e7_2, (by first | with_reducible assumption | assumption | exact rng_zero (by omega) (by omega) | omega), by rw [ht]; exact hP, hD⟩, hS.F ht⟩) hS.2.2 dB_36_0_26.2.2.2

set_option maxHeartbeats 4000000 in
set_option maxRecDepth 100000 in
theorem c_X0_farCut (l : Launch) (D : va_G) (cy : Nat → ClassId) (sz : Nat) (xc : Nat) (xk : Nat) (clo : Nat) (cro : Nat) (c4 : Nat) (c5 : Nat) (c6 : Nat) (c7 : Nat) (c8 : Nat) (xn : Nat) (n1 : Nat) (n2 : Nat) (n3 : Nat) (n4 : Nat) (n5 : Nat) (vp : Int32) (vn : Int32) (rr : Nat → Nat) (Mr : Nat → Nat → Int32) (f7 : Nat → Int32) (a1 : Int32) (hvp : 0 ≤ vp.toInt ∧ vp.toInt ≤ 12) (q1 : 0 ≤ a1.toInt ∧ a1.toInt ≤ 11) (r_f7 : rng f7 12 (0) (11)) : Met l yX0_farCut wsX0_farCut ({ frames := 1, cells := 0, slots := 0, locals := 25 }) (va_Pc [.ref xc, .int a1] (fun U => U.heap.size = sz ∧ va_P D vwCl [ob0_0_ xc xn xk clo cro c4 c5 c6 c7 c8, ob3_0_ xn vp vn n1 n2 n3 n4 n5, aq_ cy 6 cro 12 (gf_ rr), ai_ cy (rr 0) 12 (Mr 0), ai_ cy (rr 1) 12 (Mr 1), ai_ cy (rr 2) 12 (Mr 2), ai_ cy (rr 3) 12 (Mr 3), ai_ cy (rr 4) 12 (Mr 4), ai_ cy (rr 5) 12 (Mr 5), ai_ cy (rr 6) 12 (Mr 6), ai_ cy (rr 7) 12 (Mr 7), ai_ cy (rr 8) 12 (Mr 8), ai_ cy (rr 9) 12 (Mr 9), ai_ cy (rr 10) 12 (Mr 10), ai_ cy (rr 11) 12 (Mr 11), ai_ cy c7 12 f7] U.heap ∧ kg_ D cy U ∧ va_D (fun _ => True) [ob0_0_ xc xn xk clo cro c4 c5 c6 c7 c8, ob3_0_ xn vp vn n1 n2 n3 n4 n5, aq_ cy 6 cro 12 (gf_ rr), ai_ cy (rr 0) 12 (Mr 0), ai_ cy (rr 1) 12 (Mr 1), ai_ cy (rr 2) 12 (Mr 2), ai_ cy (rr 3) 12 (Mr 3), ai_ cy (rr 4) 12 (Mr 4), ai_ cy (rr 5) 12 (Mr 5), ai_ cy (rr 6) 12 (Mr 6), ai_ cy (rr 7) 12 (Mr 7), ai_ cy (rr 8) 12 (Mr 8), ai_ cy (rr 9) 12 (Mr 9), ai_ cy (rr 10) 12 (Mr 10), ai_ cy (rr 11) 12 (Mr 11), ai_ cy c7 12 f7])) (va_Qi (fun (r : Int32) (_ : Unit) => True) (fun (_ : Unit) (t : State) => ∃ (e7 : Nat → Int32), (rng e7 12 (0) (11)) ∧ va_P D vwCl [ob0_0_ xc xn xk clo cro c4 c5 c6 c7 c8, ob3_0_ xn vp vn n1 n2 n3 n4 n5, aq_ cy 6 cro 12 (gf_ rr), ai_ cy (rr 0) 12 (Mr 0), ai_ cy (rr 1) 12 (Mr 1), ai_ cy (rr 2) 12 (Mr 2), ai_ cy (rr 3) 12 (Mr 3), ai_ cy (rr 4) 12 (Mr 4), ai_ cy (rr 5) 12 (Mr 5), ai_ cy (rr 6) 12 (Mr 6), ai_ cy (rr 7) 12 (Mr 7), ai_ cy (rr 8) 12 (Mr 8), ai_ cy (rr 9) 12 (Mr 9), ai_ cy (rr 10) 12 (Mr 10), ai_ cy (rr 11) 12 (Mr 11), ai_ cy c7 12 e7] t.heap ∧ va_D (va_A [ob0_0_ xc xn xk clo cro c4 c5 c6 c7 c8, ob3_0_ xn vp vn n1 n2 n3 n4 n5, aq_ cy 6 cro 12 (gf_ rr), ai_ cy (rr 0) 12 (Mr 0), ai_ cy (rr 1) 12 (Mr 1), ai_ cy (rr 2) 12 (Mr 2), ai_ cy (rr 3) 12 (Mr 3), ai_ cy (rr 4) 12 (Mr 4), ai_ cy (rr 5) 12 (Mr 5), ai_ cy (rr 6) 12 (Mr 6), ai_ cy (rr 7) 12 (Mr 7), ai_ cy (rr 8) 12 (Mr 8), ai_ cy (rr 9) 12 (Mr 9), ai_ cy (rr 10) 12 (Mr 10), ai_ cy (rr 11) 12 (Mr 11), ai_ cy c7 12 f7] sz) [ob0_0_ xc xn xk clo cro c4 c5 c6 c7 c8, ob3_0_ xn vp vn n1 n2 n3 n4 n5, aq_ cy 6 cro 12 (gf_ rr), ai_ cy (rr 0) 12 (Mr 0), ai_ cy (rr 1) 12 (Mr 1), ai_ cy (rr 2) 12 (Mr 2), ai_ cy (rr 3) 12 (Mr 3), ai_ cy (rr 4) 12 (Mr 4), ai_ cy (rr 5) 12 (Mr 5), ai_ cy (rr 6) 12 (Mr 6), ai_ cy (rr 7) 12 (Mr 7), ai_ cy (rr 8) 12 (Mr 8), ai_ cy (rr 9) 12 (Mr 9), ai_ cy (rr 10) 12 (Mr 10), ai_ cy (rr 11) 12 (Mr 11), ai_ cy c7 12 e7]) (va_A [ob0_0_ xc xn xk clo cro c4 c5 c6 c7 c8, ob3_0_ xn vp vn n1 n2 n3 n4 n5, aq_ cy 6 cro 12 (gf_ rr), ai_ cy (rr 0) 12 (Mr 0), ai_ cy (rr 1) 12 (Mr 1), ai_ cy (rr 2) 12 (Mr 2), ai_ cy (rr 3) 12 (Mr 3), ai_ cy (rr 4) 12 (Mr 4), ai_ cy (rr 5) 12 (Mr 5), ai_ cy (rr 6) 12 (Mr 6), ai_ cy (rr 7) 12 (Mr 7), ai_ cy (rr 8) 12 (Mr 8), ai_ cy (rr 9) 12 (Mr 9), ai_ cy (rr 10) 12 (Mr 10), ai_ cy (rr 11) 12 (Mr 11), ai_ cy c7 12 f7] sz)) 0 0 (va_A [ob0_0_ xc xn xk clo cro c4 c5 c6 c7 c8, ob3_0_ xn vp vn n1 n2 n3 n4 n5, aq_ cy 6 cro 12 (gf_ rr), ai_ cy (rr 0) 12 (Mr 0), ai_ cy (rr 1) 12 (Mr 1), ai_ cy (rr 2) 12 (Mr 2), ai_ cy (rr 3) 12 (Mr 3), ai_ cy (rr 4) 12 (Mr 4), ai_ cy (rr 5) 12 (Mr 5), ai_ cy (rr 6) 12 (Mr 6), ai_ cy (rr 7) 12 (Mr 7), ai_ cy (rr 8) 12 (Mr 8), ai_ cy (rr 9) 12 (Mr 9), ai_ cy (rr 10) 12 (Mr 10), ai_ cy (rr 11) 12 (Mr 11), ai_ cy c7 12 f7] sz) := by
  refine ofQ (cc := cX0_farCut) (maxL := 2) (ret := (some .int)) (by decide) rfl ?_
  intro p e s m args below meth c s₁ Q hQ B hml hv
  obtain ⟨rfl, hsz, hP, hK, hD0⟩ := hv
  have hG := hK.2
  have hK := hK.1
  have hx := B.exec
  have hb := B.bytes
  have hr := B.returns
  have hts := atoms_spec (ws := wsX0_farCut) B.pre
  have hown : s.vm.findClass RX0 = some m.cls := by have h_ := findClass_of_methodNamed B.named; exact h_
  have hlocks := B.notSynchronized
  subst hsz
  have hD := hD0.self (sz := s.heap.size)
  generalize hAe : va_A [ob0_0_ xc xn xk clo cro c4 c5 c6 c7 c8, ob3_0_ xn vp vn n1 n2 n3 n4 n5, aq_ cy 6 cro 12 (gf_ rr), ai_ cy (rr 0) 12 (Mr 0), ai_ cy (rr 1) 12 (Mr 1), ai_ cy (rr 2) 12 (Mr 2), ai_ cy (rr 3) 12 (Mr 3), ai_ cy (rr 4) 12 (Mr 4), ai_ cy (rr 5) 12 (Mr 5), ai_ cy (rr 6) 12 (Mr 6), ai_ cy (rr 7) 12 (Mr 7), ai_ cy (rr 8) 12 (Mr 8), ai_ cy (rr 9) 12 (Mr 9), ai_ cy (rr 10) 12 (Mr 10), ai_ cy (rr 11) 12 (Mr 11), ai_ cy c7 12 f7] s.heap.size = A at hD hQ
  have hA : ∀ q : Nat, s.heap.size ≤ q → A q := fun q h => by rw [← hAe]; exact Or.inr h
  have hS : va_S A s.heap s.heap [] := va_S.rf
  have hl := lv_entry ([.ref xc, .int a1]) (n := 2) (Nat.le_of_ble_eq_true rfl)
  rw [lg_entry_eq]
  generalize (lg_sl ([.ref xc, .int a1]) ++ List.replicate (2 - (lg_sl ([.ref xc, .int a1])).length) Slot.unset).toArray = ls at hl ⊢
  have hl : lv_has ls 2 [(0, .ref xc), (1, .int a1)] := hl
  have z1 : (1 : Int32).toInt = 1 := by decide
  refine lv_iconst (v := 1) hx hb dB_36_0_3.1.1.1 (by decide) ?_
  refine lv_aload_n hx hb dB_36_0_3.1.1.2.1 rfl (lv_at hl 0 rfl) ?_
  refine va_get (ci := 0) (v := .ref xn) (C := RX0) (T := TX0) (N := 9) hx hb hts (fun _ h => List.mem_cons_of_mem _ (List.mem_append_left _ (List.mem_append_right _ h))) hown hK.1 hP 0 rfl rfl 0 (by decide) (hts (.fieldLink RX0 35 "CutAtlas$Current" "net" "LCutAtlas$Net;") (List.mem_of_getElem? (i := 1) rfl)) (fun _ h9 => h9) rfl dB_36_0_3.1.1.2.2 ?_
  refine va_get (ci := 3) (v := .int vp) (C := RX3) (T := TX3) (N := 7) hx hb hts (fun _ h => List.mem_cons_of_mem _ (List.mem_append_right _ h)) hown hK.1 hP 1 rfl rfl 0 (by decide) (hts (.fieldLink RX0 43 "CutAtlas$Net" "places" "I") (List.mem_of_getElem? (i := 2) rfl)) (fun _ h9 => h9) rfl dB_36_0_3.1.2.1.1 ?_
  refine lv_ishl hx hb dB_36_0_3.1.2.1.2 ?_
  refine lv_topi (fun y_1 ey_1 => ?_)
  refine lv_iconst (v := 1) hx hb dB_36_0_3.1.2.2.1 (by decide) ?_
  refine lv_isub hx hb dB_36_0_3.1.2.2.2 ?_
  refine lv_topi (fun y_2 ey_2 => ?_)
  refine lv_aload_n hx hb dB_36_0_3.2.1.1 rfl (lv_at hl 0 rfl) ?_
  refine lv_iload_n hx hb dB_36_0_3.2.1.2.1 rfl (lv_at hl 1 rfl) ?_
  refine ct_S hP hD hS hA [ob0_0_ xc xn xk clo cro c4 c5 c6 c7 c8, ob3_0_ xn vp vn n1 n2 n3 n4 n5, aq_ cy 6 cro 12 (gf_ rr), ai_ cy (rr 0) 12 (Mr 0), ai_ cy (rr 1) 12 (Mr 1), ai_ cy (rr 2) 12 (Mr 2), ai_ cy (rr 3) 12 (Mr 3), ai_ cy (rr 4) 12 (Mr 4), ai_ cy (rr 5) 12 (Mr 5), ai_ cy (rr 6) 12 (Mr 6), ai_ cy (rr 7) 12 (Mr 7), ai_ cy (rr 8) 12 (Mr 8), ai_ cy (rr 9) 12 (Mr 9), ai_ cy (rr 10) 12 (Mr 10), ai_ cy (rr 11) 12 (Mr 11), ai_ cy c7 12 f7] [0, 1, 2, 3, 4, 5, 6, 7, 8, 9, 10, 11, 12, 13, 14, 15] (by decide +kernel) rfl (fun hPc hDw hFc hC_ => ?_)
  refine va_calli (va_runV (As := [.int a1]) (rest := [.int y_2]) ⟨hx, hb, hml, hown, hts⟩ (c_X0_reaching l D cy s.heap.size xc xk clo cro c4 c5 c6 c7 c8 xn n1 n2 n3 n4 n5 vp vn rr Mr f7 a1 (by first | with_reducible assumption | omega | assumption) (by first | with_reducible assumption | omega | assumption) (by first | with_reducible assumption | assumption | omega)) (cwV 1 hts gX0_farCut_X0_reaching rfl rfl rfl ⟨rfl, hd_X0_reaching⟩ ⟨Nat.le_of_ble_eq_true rfl, Nat.le_of_ble_eq_true rfl⟩) ⟨bl_g, va_recvX hK.1 hP (ci := 0) (q0 := 0) rfl rfl, fun U hU hW => ⟨rfl, by rw [hU], by rw [hU]; exact hPc, ⟨kk_mv hW hK, arrOfT_moved hW.alike hG⟩, hDw⟩⟩ rfl rfl hl.1 rfl (lv_room (Nat.le_of_ble_eq_true rfl)) dB_36_0_3.2.1.2.2 ⟨Nat.le_of_ble_eq_true rfl, Nat.le_of_ble_eq_true rfl⟩) hS (fun q _ h => hFc q h) hFc (fun r_3 u t H locs ht hvm hw hB hz1 hk1 hS => ?_)
  obtain ⟨e7_4, g_5, hP1, hD1⟩ := hB
  rw [ht] at hP1
  obtain ⟨hP, hD⟩ := va_join (wr := []) (w1 := [ob0_0_ xc xn xk clo cro c4 c5 c6 c7 c8, ob3_0_ xn vp vn n1 n2 n3 n4 n5, aq_ cy 6 cro 12 (gf_ rr), ai_ cy (rr 0) 12 (Mr 0), ai_ cy (rr 1) 12 (Mr 1), ai_ cy (rr 2) 12 (Mr 2), ai_ cy (rr 3) 12 (Mr 3), ai_ cy (rr 4) 12 (Mr 4), ai_ cy (rr 5) 12 (Mr 5), ai_ cy (rr 6) 12 (Mr 6), ai_ cy (rr 7) 12 (Mr 7), ai_ cy (rr 8) 12 (Mr 8), ai_ cy (rr 9) 12 (Mr 9), ai_ cy (rr 10) 12 (Mr 10), ai_ cy (rr 11) 12 (Mr 11), ai_ cy c7 12 e7_4]) hP hD [0, 1, 2, 3, 4, 5, 6, 7, 8, 9, 10, 11, 12, 13, 14, 15] [] hC_ rfl (by decide) (by decide) hk1 hFc hP1 hD1
  refine pd_K [ob0_0_ xc xn xk clo cro c4 c5 c6 c7 c8, ob3_0_ xn vp vn n1 n2 n3 n4 n5, aq_ cy 6 cro 12 (gf_ rr), ai_ cy (rr 0) 12 (Mr 0), ai_ cy (rr 1) 12 (Mr 1), ai_ cy (rr 2) 12 (Mr 2), ai_ cy (rr 3) 12 (Mr 3), ai_ cy (rr 4) 12 (Mr 4), ai_ cy (rr 5) 12 (Mr 5), ai_ cy (rr 6) 12 (Mr 6), ai_ cy (rr 7) 12 (Mr 7), ai_ cy (rr 8) 12 (Mr 8), ai_ cy (rr 9) 12 (Mr 9), ai_ cy (rr 10) 12 (Mr 10), ai_ cy (rr 11) 12 (Mr 11), ai_ cy c7 12 e7_4] hP hD (fun hP hD => ?_)
  refine lv_iconst (v := (-1)) hx hb dB_36_0_3.2.2.1.1 (by decide) ?_
  refine lv_ixor hx hb dB_36_0_3.2.2.1.2 ?_
  refine lv_topi (fun y_6 ey_6 => ?_)
  refine lv_iand hx hb dB_36_0_3.2.2.2.1 ?_
  refine lv_topi (fun y_7 ey_7 => ?_)
  rw [hQ]
  exact W.iret (v := y_7) hx hb hr (fun t ht hW => ⟨⟨y_7, (), rfl, trivial, e7_4, (by first | with_reducible assumption | assumption | exact rng_zero (by omega) (by omega) | omega), by rw [ht]; exact hP, hD⟩, hS.F ht⟩) hS.2.2 dB_36_0_3.2.2.2.2
end

section
set_option maxHeartbeats 4000000 in
set_option maxRecDepth 100000 in
theorem c_X0_load (l : Launch) (D : va_G) (cy : Nat → ClassId) (sz : Nat) (xc : Nat) (xk : Nat) (clo : Nat) (cro : Nat) (c4 : Nat) (c5 : Nat) (c6 : Nat) (c7 : Nat) (c8 : Nat) (xn : Nat) (n1 : Nat) (n2 : Nat) (n3 : Nat) (n4 : Nat) (n5 : Nat) (vp : Int32) (vn : Int32) (fk : Nat → Int32) (fs : Nat → Int32) (fe : Nat → Int32) (fw : Nat → Int32) (rl : Nat → Nat) (Ml : Nat → Nat → Int32) (f5 : Nat → Int32) (f6 : Nat → Int32) (k0 : Nat) (k1 : Nat) (k2 : Nat) (k3 : Nat) (k4 : Nat) (a1 : Int32) (hvp : 0 ≤ vp.toInt ∧ vp.toInt ≤ 12) (hvn : 0 ≤ vn.toInt ∧ vn.toInt ≤ 40) (hpr : prng fs fe 40) (r_fk : rng fk 40 (0) (4)) : Met l yX0_load wsX0_load ({ frames := 2, cells := 0, slots := 0, locals := 44 }) (va_Pc [.ref xc, .int a1] (fun U => U.heap.size = sz ∧ va_P D vwCl [ob0_0_ xc xn xk clo cro c4 c5 c6 c7 c8, ob3_0_ xn vp vn n1 n2 n3 n4 n5, ai_ cy n1 40 fk, ai_ cy n2 40 fs, ai_ cy n3 40 fe, ai_ cy n4 40 fw, aq_ cy 6 clo 12 (gf_ rl), ai_ cy (rl 0) 12 (Ml 0), ai_ cy (rl 1) 12 (Ml 1), ai_ cy (rl 2) 12 (Ml 2), ai_ cy (rl 3) 12 (Ml 3), ai_ cy (rl 4) 12 (Ml 4), ai_ cy (rl 5) 12 (Ml 5), ai_ cy (rl 6) 12 (Ml 6), ai_ cy (rl 7) 12 (Ml 7), ai_ cy (rl 8) 12 (Ml 8), ai_ cy (rl 9) 12 (Ml 9), ai_ cy (rl 10) 12 (Ml 10), ai_ cy (rl 11) 12 (Ml 11), ai_ cy c5 40 f5, ai_ cy c6 40 f6, aq_ cy 3 xk 5 (kf_ k0 k1 k2 k3 k4), ob6_0_ k0, ob5_0_ k1, ob9_0_ k2, ob2_0_ k3, ob8_0_ k4] U.heap ∧ kg_ D cy U ∧ va_D (fun _ => True) [ob0_0_ xc xn xk clo cro c4 c5 c6 c7 c8, ob3_0_ xn vp vn n1 n2 n3 n4 n5, ai_ cy n1 40 fk, ai_ cy n2 40 fs, ai_ cy n3 40 fe, ai_ cy n4 40 fw, aq_ cy 6 clo 12 (gf_ rl), ai_ cy (rl 0) 12 (Ml 0), ai_ cy (rl 1) 12 (Ml 1), ai_ cy (rl 2) 12 (Ml 2), ai_ cy (rl 3) 12 (Ml 3), ai_ cy (rl 4) 12 (Ml 4), ai_ cy (rl 5) 12 (Ml 5), ai_ cy (rl 6) 12 (Ml 6), ai_ cy (rl 7) 12 (Ml 7), ai_ cy (rl 8) 12 (Ml 8), ai_ cy (rl 9) 12 (Ml 9), ai_ cy (rl 10) 12 (Ml 10), ai_ cy (rl 11) 12 (Ml 11), ai_ cy c5 40 f5, ai_ cy c6 40 f6, aq_ cy 3 xk 5 (kf_ k0 k1 k2 k3 k4), ob6_0_ k0, ob5_0_ k1, ob9_0_ k2, ob2_0_ k3, ob8_0_ k4])) (va_Qv (fun (_ : Unit) => True) (fun (_ : Unit) (t : State) => ∃ (eMl : Nat → Nat → Int32), ∃ (e5 : Nat → Int32), ∃ (e6 : Nat → Int32), va_P D vwCl [ob0_0_ xc xn xk clo cro c4 c5 c6 c7 c8, ob3_0_ xn vp vn n1 n2 n3 n4 n5, ai_ cy n1 40 fk, ai_ cy n2 40 fs, ai_ cy n3 40 fe, ai_ cy n4 40 fw, aq_ cy 6 clo 12 (gf_ rl), ai_ cy (rl 0) 12 (eMl 0), ai_ cy (rl 1) 12 (eMl 1), ai_ cy (rl 2) 12 (eMl 2), ai_ cy (rl 3) 12 (eMl 3), ai_ cy (rl 4) 12 (eMl 4), ai_ cy (rl 5) 12 (eMl 5), ai_ cy (rl 6) 12 (eMl 6), ai_ cy (rl 7) 12 (eMl 7), ai_ cy (rl 8) 12 (eMl 8), ai_ cy (rl 9) 12 (eMl 9), ai_ cy (rl 10) 12 (eMl 10), ai_ cy (rl 11) 12 (eMl 11), ai_ cy c5 40 e5, ai_ cy c6 40 e6, aq_ cy 3 xk 5 (kf_ k0 k1 k2 k3 k4), ob6_0_ k0, ob5_0_ k1, ob9_0_ k2, ob2_0_ k3, ob8_0_ k4] t.heap ∧ va_D (va_A [ob0_0_ xc xn xk clo cro c4 c5 c6 c7 c8, ob3_0_ xn vp vn n1 n2 n3 n4 n5, ai_ cy n1 40 fk, ai_ cy n2 40 fs, ai_ cy n3 40 fe, ai_ cy n4 40 fw, aq_ cy 6 clo 12 (gf_ rl), ai_ cy (rl 0) 12 (Ml 0), ai_ cy (rl 1) 12 (Ml 1), ai_ cy (rl 2) 12 (Ml 2), ai_ cy (rl 3) 12 (Ml 3), ai_ cy (rl 4) 12 (Ml 4), ai_ cy (rl 5) 12 (Ml 5), ai_ cy (rl 6) 12 (Ml 6), ai_ cy (rl 7) 12 (Ml 7), ai_ cy (rl 8) 12 (Ml 8), ai_ cy (rl 9) 12 (Ml 9), ai_ cy (rl 10) 12 (Ml 10), ai_ cy (rl 11) 12 (Ml 11), ai_ cy c5 40 f5, ai_ cy c6 40 f6, aq_ cy 3 xk 5 (kf_ k0 k1 k2 k3 k4), ob6_0_ k0, ob5_0_ k1, ob9_0_ k2, ob2_0_ k3, ob8_0_ k4] sz) [ob0_0_ xc xn xk clo cro c4 c5 c6 c7 c8, ob3_0_ xn vp vn n1 n2 n3 n4 n5, ai_ cy n1 40 fk, ai_ cy n2 40 fs, ai_ cy n3 40 fe, ai_ cy n4 40 fw, aq_ cy 6 clo 12 (gf_ rl), ai_ cy (rl 0) 12 (eMl 0), ai_ cy (rl 1) 12 (eMl 1), ai_ cy (rl 2) 12 (eMl 2), ai_ cy (rl 3) 12 (eMl 3), ai_ cy (rl 4) 12 (eMl 4), ai_ cy (rl 5) 12 (eMl 5), ai_ cy (rl 6) 12 (eMl 6), ai_ cy (rl 7) 12 (eMl 7), ai_ cy (rl 8) 12 (eMl 8), ai_ cy (rl 9) 12 (eMl 9), ai_ cy (rl 10) 12 (eMl 10), ai_ cy (rl 11) 12 (eMl 11), ai_ cy c5 40 e5, ai_ cy c6 40 e6, aq_ cy 3 xk 5 (kf_ k0 k1 k2 k3 k4), ob6_0_ k0, ob5_0_ k1, ob9_0_ k2, ob2_0_ k3, ob8_0_ k4]) (va_A [ob0_0_ xc xn xk clo cro c4 c5 c6 c7 c8, ob3_0_ xn vp vn n1 n2 n3 n4 n5, ai_ cy n1 40 fk, ai_ cy n2 40 fs, ai_ cy n3 40 fe, ai_ cy n4 40 fw, aq_ cy 6 clo 12 (gf_ rl), ai_ cy (rl 0) 12 (Ml 0), ai_ cy (rl 1) 12 (Ml 1), ai_ cy (rl 2) 12 (Ml 2), ai_ cy (rl 3) 12 (Ml 3), ai_ cy (rl 4) 12 (Ml 4), ai_ cy (rl 5) 12 (Ml 5), ai_ cy (rl 6) 12 (Ml 6), ai_ cy (rl 7) 12 (Ml 7), ai_ cy (rl 8) 12 (Ml 8), ai_ cy (rl 9) 12 (Ml 9), ai_ cy (rl 10) 12 (Ml 10), ai_ cy (rl 11) 12 (Ml 11), ai_ cy c5 40 f5, ai_ cy c6 40 f6, aq_ cy 3 xk 5 (kf_ k0 k1 k2 k3 k4), ob6_0_ k0, ob5_0_ k1, ob9_0_ k2, ob2_0_ k3, ob8_0_ k4] sz)) 0 0 (va_A [ob0_0_ xc xn xk clo cro c4 c5 c6 c7 c8, ob3_0_ xn vp vn n1 n2 n3 n4 n5, ai_ cy n1 40 fk, ai_ cy n2 40 fs, ai_ cy n3 40 fe, ai_ cy n4 40 fw, aq_ cy 6 clo 12 (gf_ rl), ai_ cy (rl 0) 12 (Ml 0), ai_ cy (rl 1) 12 (Ml 1), ai_ cy (rl 2) 12 (Ml 2), ai_ cy (rl 3) 12 (Ml 3), ai_ cy (rl 4) 12 (Ml 4), ai_ cy (rl 5) 12 (Ml 5), ai_ cy (rl 6) 12 (Ml 6), ai_ cy (rl 7) 12 (Ml 7), ai_ cy (rl 8) 12 (Ml 8), ai_ cy (rl 9) 12 (Ml 9), ai_ cy (rl 10) 12 (Ml 10), ai_ cy (rl 11) 12 (Ml 11), ai_ cy c5 40 f5, ai_ cy c6 40 f6, aq_ cy 3 xk 5 (kf_ k0 k1 k2 k3 k4), ob6_0_ k0, ob5_0_ k1, ob9_0_ k2, ob2_0_ k3, ob8_0_ k4] sz) := by
  refine ofQ (cc := cX0_load) (maxL := 5) (ret := none) (by decide) rfl ?_
  intro p e s m args below meth c s₁ Q hQ B hml hv
  obtain ⟨rfl, hsz, hP, hK, hD0⟩ := hv
  have hG := hK.2
  have hK := hK.1
  have hx := B.exec
  have hb := B.bytes
  have hr := B.returns
  have hts := atoms_spec (ws := wsX0_load) B.pre
  have hown : s.vm.findClass RX0 = some m.cls := by have h_ := findClass_of_methodNamed B.named; exact h_
  have hlocks := B.notSynchronized
  subst hsz
  have hD := hD0.self (sz := s.heap.size)
  generalize hAe : va_A [ob0_0_ xc xn xk clo cro c4 c5 c6 c7 c8, ob3_0_ xn vp vn n1 n2 n3 n4 n5, ai_ cy n1 40 fk, ai_ cy n2 40 fs, ai_ cy n3 40 fe, ai_ cy n4 40 fw, aq_ cy 6 clo 12 (gf_ rl), ai_ cy (rl 0) 12 (Ml 0), ai_ cy (rl 1) 12 (Ml 1), ai_ cy (rl 2) 12 (Ml 2), ai_ cy (rl 3) 12 (Ml 3), ai_ cy (rl 4) 12 (Ml 4), ai_ cy (rl 5) 12 (Ml 5), ai_ cy (rl 6) 12 (Ml 6), ai_ cy (rl 7) 12 (Ml 7), ai_ cy (rl 8) 12 (Ml 8), ai_ cy (rl 9) 12 (Ml 9), ai_ cy (rl 10) 12 (Ml 10), ai_ cy (rl 11) 12 (Ml 11), ai_ cy c5 40 f5, ai_ cy c6 40 f6, aq_ cy 3 xk 5 (kf_ k0 k1 k2 k3 k4), ob6_0_ k0, ob5_0_ k1, ob9_0_ k2, ob2_0_ k3, ob8_0_ k4] s.heap.size = A at hD hQ
  have hA : ∀ q : Nat, s.heap.size ≤ q → A q := fun q h => by rw [← hAe]; exact Or.inr h
  have hS : va_S A s.heap s.heap [] := va_S.rf
  have hl := lv_entry ([.ref xc, .int a1]) (n := 5) (Nat.le_of_ble_eq_true rfl)
  rw [lg_entry_eq]
  generalize (lg_sl ([.ref xc, .int a1]) ++ List.replicate (5 - (lg_sl ([.ref xc, .int a1])).length) Slot.unset).toArray = ls at hl ⊢
  have hl : lv_has ls 5 [(0, .ref xc), (1, .int a1)] := hl
  have z0 : (0 : Int32).toInt = 0 := by decide
  have z1 : (1 : Int32).toInt = 1 := by decide
  have z2 : (2 : Int32).toInt = 2 := by decide
  have z3 : (3 : Int32).toInt = 3 := by decide
  have z4 : (4 : Int32).toInt = 4 := by decide
  have z5 : (5 : Int32).toInt = 5 := by decide
  have z6 : (6 : Int32).toInt = 6 := by decide
  have z7 : (7 : Int32).toInt = 7 := by decide
  have z8 : (8 : Int32).toInt = 8 := by decide
  have z9 : (9 : Int32).toInt = 9 := by decide
  have z10 : (10 : Int32).toInt = 10 := by decide
  have z11 : (11 : Int32).toInt = 11 := by decide
  refine lv_iconst (v := 0) hx hb dB_36_0_18.1.1.1.1 (by decide) ?_
  refine lv_istore_n (lv' := [(2, .int 0), (0, .ref xc), (1, .int a1)]) hx hb dB_36_0_18.1.1.1.2 rfl hl (by decide) rfl (fun ls hl => ?_)
  suffices LOOP_1 : ∀ (n_1 : Nat) (x2_1 : Int32) (m_rl_1 : Nat → Nat → Int32) (H : Heap) (locs : List Loc) (ls : Array Slot), vp.toInt - x2_1.toInt < (n_1 : Int) → (0 ≤ x2_1.toInt) → (x2_1.toInt ≤ vp.toInt) → pd_2 D vwCl A [ob0_0_ xc xn xk clo cro c4 c5 c6 c7 c8, ob3_0_ xn vp vn n1 n2 n3 n4 n5, ai_ cy n1 40 fk, ai_ cy n2 40 fs, ai_ cy n3 40 fe, ai_ cy n4 40 fw, aq_ cy 6 clo 12 (gf_ rl), ai_ cy (rl 0) 12 (m_rl_1 0), ai_ cy (rl 1) 12 (m_rl_1 1), ai_ cy (rl 2) 12 (m_rl_1 2), ai_ cy (rl 3) 12 (m_rl_1 3), ai_ cy (rl 4) 12 (m_rl_1 4), ai_ cy (rl 5) 12 (m_rl_1 5), ai_ cy (rl 6) 12 (m_rl_1 6), ai_ cy (rl 7) 12 (m_rl_1 7), ai_ cy (rl 8) 12 (m_rl_1 8), ai_ cy (rl 9) 12 (m_rl_1 9), ai_ cy (rl 10) 12 (m_rl_1 10), ai_ cy (rl 11) 12 (m_rl_1 11), ai_ cy c5 40 f5, ai_ cy c6 40 f6, aq_ cy 3 xk 5 (kf_ k0 k1 k2 k3 k4), ob6_0_ k0, ob5_0_ k1, ob9_0_ k2, ob2_0_ k3, ob8_0_ k4] H → va_S A s.heap H locs → lv_has ls 5 [(2, .int x2_1), (0, .ref xc), (1, .int a1)] → W p l e ({ frames := 2, cells := 0, slots := 0, locals := 44 } : Room) s m (([.ref xc, .int a1] : List Value).toArray) below meth c H locs 0 0 Q (F0 m 2 ls []) from LOOP_1 ((vp.toInt - (0 : Int32).toInt).toNat + 1) (0 : Int32) Ml _ _ _ (by omega) (by first | with_reducible assumption | omega | assumption) (by first | with_reducible assumption | omega | assumption) ⟨hP, hD⟩ hS (lv_sub hl [0, 1, 2] rfl)
  intro n_1
  induction n_1 with
  | zero =>
    intro x2_1 m_rl_1 H locs ls hm v0_1 v1_1 hPD hS hl; obtain ⟨hP, hD⟩ := hPD
    exact absurd hm (by omega)
  | succ n_1 ih_1 =>
    intro x2_1 m_rl_1 H locs ls hm v0_1 v1_1 hPD hS hl; obtain ⟨hP, hD⟩ := hPD
    refine lv_iload_n hx hb dB_36_0_18.1.1.2.1 rfl (lv_at hl 0 rfl) ?_
    refine lv_aload_n hx hb dB_36_0_18.1.1.2.2 rfl (lv_at hl 1 rfl) ?_
    refine va_get (ci := 0) (v := .ref xn) (C := RX0) (T := TX0) (N := 9) hx hb hts (fun _ h => List.mem_cons_of_mem _ (List.mem_append_left _ (List.mem_append_right _ h))) hown hK.1 hP 0 rfl rfl 0 (by decide) (hts (.fieldLink RX0 35 "CutAtlas$Current" "net" "LCutAtlas$Net;") (List.mem_of_getElem? (i := 1) rfl)) (fun _ h9 => h9) rfl dB_36_0_18.1.2.1.1 ?_
    refine va_get (ci := 3) (v := .int vp) (C := RX3) (T := TX3) (N := 7) hx hb hts (fun _ h => List.mem_cons_of_mem _ (List.mem_append_right _ h)) hown hK.1 hP 1 rfl rfl 0 (by decide) (hts (.fieldLink RX0 43 "CutAtlas$Net" "places" "I") (List.mem_of_getElem? (i := 2) rfl)) (fun _ h9 => h9) rfl dB_36_0_18.1.2.1.2 ?_
    refine lv_icmp_ge (tgt := 29) hx hb dB_36_0_18.1.2.2.1 (by decide) (fun c_2 => ?_) (fun c_2 => ?_)
    · have t_2 : vp.toInt ≤ x2_1.toInt := Int32.le_iff_toInt_le.mp c_2
      refine lv_iconst (v := 0) hx hb dB_36_0_18.2.2.2.2 (by decide) ?_
      refine lv_istore_n (lv' := [(2, .int 0), (0, .ref xc), (1, .int a1)]) hx hb dB_36_0_19.1.1.1.1 rfl hl (by decide) rfl (fun ls hl => ?_)
      suffices LOOP_3 : ∀ (n_3 : Nat) (x2_3 : Int32) (m_rl_3 : Nat → Nat → Int32) (c_c5_3 : Nat → Int32) (c_c6_3 : Nat → Int32) (H : Heap) (locs : List Loc) (ls : Array Slot), vn.toInt - x2_3.toInt < (n_3 : Int) → (0 ≤ x2_3.toInt) → (x2_3.toInt ≤ vn.toInt) → pd_2 D vwCl A [ob0_0_ xc xn xk clo cro c4 c5 c6 c7 c8, ob3_0_ xn vp vn n1 n2 n3 n4 n5, ai_ cy n1 40 fk, ai_ cy n2 40 fs, ai_ cy n3 40 fe, ai_ cy n4 40 fw, aq_ cy 6 clo 12 (gf_ rl), ai_ cy (rl 0) 12 (m_rl_3 0), ai_ cy (rl 1) 12 (m_rl_3 1), ai_ cy (rl 2) 12 (m_rl_3 2), ai_ cy (rl 3) 12 (m_rl_3 3), ai_ cy (rl 4) 12 (m_rl_3 4), ai_ cy (rl 5) 12 (m_rl_3 5), ai_ cy (rl 6) 12 (m_rl_3 6), ai_ cy (rl 7) 12 (m_rl_3 7), ai_ cy (rl 8) 12 (m_rl_3 8), ai_ cy (rl 9) 12 (m_rl_3 9), ai_ cy (rl 10) 12 (m_rl_3 10), ai_ cy (rl 11) 12 (m_rl_3 11), ai_ cy c5 40 c_c5_3, ai_ cy c6 40 c_c6_3, aq_ cy 3 xk 5 (kf_ k0 k1 k2 k3 k4), ob6_0_ k0, ob5_0_ k1, ob9_0_ k2, ob2_0_ k3, ob8_0_ k4] H → va_S A s.heap H locs → lv_has ls 5 [(2, .int x2_3), (0, .ref xc), (1, .int a1)] → W p l e ({ frames := 2, cells := 0, slots := 0, locals := 44 } : Room) s m (([.ref xc, .int a1] : List Value).toArray) below meth c H locs 0 0 Q (F0 m 31 ls []) from LOOP_3 ((vn.toInt - (0 : Int32).toInt).toNat + 1) (0 : Int32) m_rl_1 f5 f6 _ _ _ (by omega) (by first | with_reducible assumption | omega | assumption) (by first | with_reducible assumption | omega | assumption) ⟨hP, hD⟩ hS (lv_sub hl [0, 1, 2] rfl)
      intro n_3
      induction n_3 with
      | zero =>
        intro x2_3 m_rl_3 c_c5_3 c_c6_3 H locs ls hm v0_3 v1_3 hPD hS hl; obtain ⟨hP, hD⟩ := hPD
        exact absurd hm (by omega)
      | succ n_3 ih_3 =>
        intro x2_3 m_rl_3 c_c5_3 c_c6_3 H locs ls hm v0_3 v1_3 hPD hS hl; obtain ⟨hP, hD⟩ := hPD
        refine lv_iload_n hx hb dB_36_0_19.1.1.1.2 rfl (lv_at hl 0 rfl) ?_
        refine lv_aload_n hx hb dB_36_0_19.1.1.2.1 rfl (lv_at hl 1 rfl) ?_
        refine va_get (ci := 0) (v := .ref xn) (C := RX0) (T := TX0) (N := 9) hx hb hts (fun _ h => List.mem_cons_of_mem _ (List.mem_append_left _ (List.mem_append_right _ h))) hown hK.1 hP 0 rfl rfl 0 (by decide) (hts (.fieldLink RX0 35 "CutAtlas$Current" "net" "LCutAtlas$Net;") (List.mem_of_getElem? (i := 1) rfl)) (fun _ h9 => h9) rfl dB_36_0_19.1.1.2.2 ?_
        refine va_get (ci := 3) (v := .int vn) (C := RX3) (T := TX3) (N := 7) hx hb hts (fun _ h => List.mem_cons_of_mem _ (List.mem_append_right _ h)) hown hK.1 hP 1 rfl rfl 1 (by decide) (hts (.fieldLink RX0 55 "CutAtlas$Net" "lines" "I") (List.mem_of_getElem? (i := 4) rfl)) (fun _ h9 => h9) rfl dB_36_0_19.1.2.1.1 ?_
        refine lv_icmp_ge (tgt := 202) hx hb dB_36_0_19.1.2.1.2 (by decide) (fun c_4 => ?_) (fun c_4 => ?_)
        · have t_4 : vn.toInt ≤ x2_3.toInt := Int32.le_iff_toInt_le.mp c_4
          rw [hQ]
          exact W.vret hx hb hr (fun t ht hW => ⟨⟨(), rfl, trivial, m_rl_3, c_c5_3, c_c6_3, by rw [ht]; exact hP, hD⟩, hS.F ht⟩) hS.2.2 dB_36_0_25.2.2
        · have t_4 : ¬ vn.toInt ≤ x2_3.toInt := fun h => c_4 (Int32.le_iff_toInt_le.mpr h)
          refine lv_aload_n hx hb dB_36_0_19.1.2.2.1 rfl (lv_at hl 1 rfl) ?_
          refine va_get (ci := 0) (v := .ref xn) (C := RX0) (T := TX0) (N := 9) hx hb hts (fun _ h => List.mem_cons_of_mem _ (List.mem_append_left _ (List.mem_append_right _ h))) hown hK.1 hP 0 rfl rfl 0 (by decide) (hts (.fieldLink RX0 35 "CutAtlas$Current" "net" "LCutAtlas$Net;") (List.mem_of_getElem? (i := 1) rfl)) (fun _ h9 => h9) rfl dB_36_0_19.1.2.2.2 ?_
          refine lv_iload_n hx hb dB_36_0_19.2.1.1.1 rfl (lv_at hl 0 rfl) ?_
          refine ct_R hP hD [ob3_0_ xn vp vn n1 n2 n3 n4 n5, ai_ cy n2 40 fs] [1, 3] (by decide) rfl (fun hPc hDw => ?_)
          have hFc := va_free (wc := []) hD hS hA [] rfl
          refine va_calli (va_runV (As := [.int x2_3]) (rest := []) ⟨hx, hb, hml, hown, hts⟩ (c_X3_isMissing l D cy H.size xn n1 n2 n3 n4 n5 vp vn fs x2_3 (by first | with_reducible assumption | omega | assumption)) (cwV 1 hts gX0_load_X3_isMissing rfl rfl rfl ⟨rfl, hd_X3_isMissing⟩ ⟨Nat.le_of_ble_eq_true rfl, Nat.le_of_ble_eq_true rfl⟩) ⟨bl_, va_recvX hK.1 hP (ci := 3) (q0 := 1) rfl rfl, fun U hU hW => ⟨rfl, by rw [hU], by rw [hU]; exact hPc, kk_mv hW hK, hDw⟩⟩ rfl rfl hl.1 rfl (lv_room (Nat.le_of_ble_eq_true rfl)) dB_36_0_19.2.1.1.2 ⟨Nat.le_of_ble_eq_true rfl, Nat.le_of_ble_eq_true rfl⟩) hS (fun q _ h => hFc q h) hFc (fun r_5 u t H locs ht hvm hw hB hz1 hk1 hS => ?_)
          have hP : va_P D vwCl _ H := ro_keep hP hk1
          rcases hw with ⟨w_6, e_⟩ | ⟨w_6, e_⟩
          · have e_ := e_.symm
            subst e_
            refine lv_if_ne (tgt := 196) hx hb dB_36_0_19.2.1.2.1 (by decide) (fun c_7 => ?_) (fun c_7 => ?_)
            · have _ := c_7
              obtain ⟨y_8, ey_8⟩ : ∃ y : Int32, y = x2_3 + 1 := ⟨_, rfl⟩
              have ty_8 : y_8.toInt = x2_3.toInt + (1 : Int32).toInt := by rw [ey_8]; exact addI (by omega) (by omega)
              refine lv_iinc (v := y_8) (lv' := [(2, .int y_8), (0, .ref xc), (1, .int a1)]) hx hb dB_36_0_25.1.2 hl (k := 0) rfl (by rw [ey_8]; rfl) (by decide) rfl (fun ls hl => ?_)
              refine lv_goto (tgt := 31) hx hb dB_36_0_25.2.1 (by decide) ?_
              exact ih_3 y_8 m_rl_3 c_c5_3 c_c6_3 _ _ _ (by omega) (by first | with_reducible assumption | omega | assumption) (by first | with_reducible assumption | omega | assumption) ⟨hP, hD⟩ hS (lv_sub hl [0, 1, 2] rfl)
            · exact absurd c_7 (by decide)
          · have e_ := e_.symm
            subst e_
            refine lv_if_ne (tgt := 196) hx hb dB_36_0_19.2.1.2.1 (by decide) (fun c_9 => ?_) (fun c_9 => ?_)
            · exact absurd c_9 (by decide)
            · have _ := c_9
              have JOIN_10 : ∀ (u0_10 : Int32) (H : Heap) (locs : List Loc) (ls : Array Slot), pd_2 D vwCl A [ob0_0_ xc xn xk clo cro c4 c5 c6 c7 c8, ob3_0_ xn vp vn n1 n2 n3 n4 n5, ai_ cy n1 40 fk, ai_ cy n2 40 fs, ai_ cy n3 40 fe, ai_ cy n4 40 fw, aq_ cy 6 clo 12 (gf_ rl), ai_ cy (rl 0) 12 (m_rl_3 0), ai_ cy (rl 1) 12 (m_rl_3 1), ai_ cy (rl 2) 12 (m_rl_3 2), ai_ cy (rl 3) 12 (m_rl_3 3), ai_ cy (rl 4) 12 (m_rl_3 4), ai_ cy (rl 5) 12 (m_rl_3 5), ai_ cy (rl 6) 12 (m_rl_3 6), ai_ cy (rl 7) 12 (m_rl_3 7), ai_ cy (rl 8) 12 (m_rl_3 8), ai_ cy (rl 9) 12 (m_rl_3 9), ai_ cy (rl 10) 12 (m_rl_3 10), ai_ cy (rl 11) 12 (m_rl_3 11), ai_ cy c5 40 c_c5_3, ai_ cy c6 40 c_c6_3, aq_ cy 3 xk 5 (kf_ k0 k1 k2 k3 k4), ob6_0_ k0, ob5_0_ k1, ob9_0_ k2, ob2_0_ k3, ob8_0_ k4] H → va_S A s.heap H locs → lv_has ls 5 [(2, .int x2_3), (0, .ref xc), (1, .int a1)] → W p l e ({ frames := 2, cells := 0, slots := 0, locals := 44 } : Room) s m (([.ref xc, .int a1] : List Value).toArray) below meth c H locs 0 0 Q (F0 m 81 ls [.int u0_10]) := by
                intro u0_10 H locs ls hPD hS hl; obtain ⟨hP, hD⟩ := hPD
                refine lv_istore_n (lv' := [(3, .int u0_10), (2, .int x2_3), (0, .ref xc), (1, .int a1)]) hx hb dB_36_0_20.2.1.2.2 rfl hl (by decide) rfl (fun ls hl => ?_)
                have JOIN_11 : ∀ (c_c5_11 : Nat → Int32) (c_c6_11 : Nat → Int32) (H : Heap) (locs : List Loc) (ls : Array Slot), pd_2 D vwCl A [ob0_0_ xc xn xk clo cro c4 c5 c6 c7 c8, ob3_0_ xn vp vn n1 n2 n3 n4 n5, ai_ cy n1 40 fk, ai_ cy n2 40 fs, ai_ cy n3 40 fe, ai_ cy n4 40 fw, aq_ cy 6 clo 12 (gf_ rl), ai_ cy (rl 0) 12 (m_rl_3 0), ai_ cy (rl 1) 12 (m_rl_3 1), ai_ cy (rl 2) 12 (m_rl_3 2), ai_ cy (rl 3) 12 (m_rl_3 3), ai_ cy (rl 4) 12 (m_rl_3 4), ai_ cy (rl 5) 12 (m_rl_3 5), ai_ cy (rl 6) 12 (m_rl_3 6), ai_ cy (rl 7) 12 (m_rl_3 7), ai_ cy (rl 8) 12 (m_rl_3 8), ai_ cy (rl 9) 12 (m_rl_3 9), ai_ cy (rl 10) 12 (m_rl_3 10), ai_ cy (rl 11) 12 (m_rl_3 11), ai_ cy c5 40 c_c5_11, ai_ cy c6 40 c_c6_11, aq_ cy 3 xk 5 (kf_ k0 k1 k2 k3 k4), ob6_0_ k0, ob5_0_ k1, ob9_0_ k2, ob2_0_ k3, ob8_0_ k4] H → va_S A s.heap H locs → lv_has ls 5 [(2, .int x2_3), (0, .ref xc), (1, .int a1)] → W p l e ({ frames := 2, cells := 0, slots := 0, locals := 44 } : Room) s m (([.ref xc, .int a1] : List Value).toArray) below meth c H locs 0 0 Q (F0 m 130 ls []) := by
                  intro c_c5_11 c_c6_11 H locs ls hPD hS hl; obtain ⟨hP, hD⟩ := hPD
                  refine lv_aload_n hx hb dB_36_0_22.1.2.2.2 rfl (lv_at hl 1 rfl) ?_
                  refine va_get (ci := 0) (v := .ref clo) (C := RX0) (T := TX0) (N := 9) hx hb hts (fun _ h => List.mem_cons_of_mem _ (List.mem_append_left _ (List.mem_append_right _ h))) hown hK.1 hP 0 rfl rfl 2 (by decide) (hts (.fieldLink RX0 11 "CutAtlas$Current" "lets" "[[I") (List.mem_of_getElem? (i := 3) rfl)) (fun _ h9 => h9) rfl dB_36_0_22.2.1.1.1 ?_
                  refine lv_aload_n hx hb dB_36_0_22.2.1.1.2 rfl (lv_at hl 1 rfl) ?_
                  refine va_get (ci := 0) (v := .ref xn) (C := RX0) (T := TX0) (N := 9) hx hb hts (fun _ h => List.mem_cons_of_mem _ (List.mem_append_left _ (List.mem_append_right _ h))) hown hK.1 hP 0 rfl rfl 0 (by decide) (hts (.fieldLink RX0 35 "CutAtlas$Current" "net" "LCutAtlas$Net;") (List.mem_of_getElem? (i := 1) rfl)) (fun _ h9 => h9) rfl dB_36_0_22.2.1.2.1 ?_
                  refine va_get (ci := 3) (v := .ref n2) (C := RX3) (T := TX3) (N := 7) hx hb hts (fun _ h => List.mem_cons_of_mem _ (List.mem_append_right _ h)) hown hK.1 hP 1 rfl rfl 3 (by decide) (hts (.fieldLink RX0 76 "CutAtlas$Net" "starts" "[I") (List.mem_of_getElem? (i := 10) rfl)) (fun _ h9 => h9) rfl dB_36_0_22.2.1.2.2 ?_
                  refine lv_iload_n hx hb dB_36_0_22.2.2.1.1 rfl (lv_at hl 0 rfl) ?_
                  have h_12 : vp_in x2_3 40 := in_I (by first | with_reducible assumption | omega) (by omega)
                  refine va_iald hx hb hK.1 hP 3 0 rfl rfl (i := x2_3) h_12 dB_36_0_22.2.2.1.2 ?_
                  refine lv_topi (fun y_13 ey_13 => ?_)
                  have ry_13 := hpr _ (in_lt h_12)
                  have jy_13 : y_13.toInt = (fs x2_3.toNatClampNeg).toInt := by rw [ey_13]
                  have h_14 : vp_in y_13 12 := in_I (by first | with_reducible assumption | omega) (by omega)
                  refine va_alda hx hb hG hP 6 rfl (i := y_13) h_14 dB_36_0_22.2.2.2.1 ?_
                  refine lv_topv (v' := .ref (rl y_13.toNatClampNeg)) (gf_at h_14) ?_
                  refine lv_aload_n hx hb dB_36_0_22.2.2.2.2 rfl (lv_at hl 1 rfl) ?_
                  refine va_get (ci := 0) (v := .ref xn) (C := RX0) (T := TX0) (N := 9) hx hb hts (fun _ h => List.mem_cons_of_mem _ (List.mem_append_left _ (List.mem_append_right _ h))) hown hK.1 hP 0 rfl rfl 0 (by decide) (hts (.fieldLink RX0 35 "CutAtlas$Current" "net" "LCutAtlas$Net;") (List.mem_of_getElem? (i := 1) rfl)) (fun _ h9 => h9) rfl dB_36_0_23.1.1.1.1 ?_
                  refine va_get (ci := 3) (v := .ref n3) (C := RX3) (T := TX3) (N := 7) hx hb hts (fun _ h => List.mem_cons_of_mem _ (List.mem_append_right _ h)) hown hK.1 hP 1 rfl rfl 4 (by decide) (hts (.fieldLink RX0 79 "CutAtlas$Net" "ends" "[I") (List.mem_of_getElem? (i := 11) rfl)) (fun _ h9 => h9) rfl dB_36_0_23.1.1.1.2 ?_
                  refine lv_iload_n hx hb dB_36_0_23.1.1.2.1 rfl (lv_at hl 0 rfl) ?_
                  refine va_iald hx hb hK.1 hP 4 0 rfl rfl (i := x2_3) h_12 dB_36_0_23.1.1.2.2 ?_
                  refine lv_topi (fun y_16 ey_16 => ?_)
                  have ry_16 := hpr _ (in_lt h_12)
                  have jy_16 : y_16.toInt = (fe x2_3.toNatClampNeg).toInt := by rw [ey_16]
                  refine lv_dup2_11 hx hb dB_36_0_23.1.2.1.1 rfl rfl ?_
                  have h_17 : vp_in y_16 12 := in_I (by first | with_reducible assumption | omega) (by omega)
                  have hPg : va_P D vwCl (([ob0_0_ xc xn xk clo cro c4 c5 c6 c7 c8, ob3_0_ xn vp vn n1 n2 n3 n4 n5, ai_ cy n1 40 fk, ai_ cy n2 40 fs, ai_ cy n3 40 fe, ai_ cy n4 40 fw, aq_ cy 6 clo 12 (gf_ rl)] : va_W) ++ (gro (cy 0) rl m_rl_3 ++ ([ai_ cy c5 40 c_c5_11, ai_ cy c6 40 c_c6_11, aq_ cy 3 xk 5 (kf_ k0 k1 k2 k3 k4), ob6_0_ k0, ob5_0_ k1, ob9_0_ k2, ob2_0_ k3, ob8_0_ k4] : va_W))) H := hP
                  refine va_gld (X := [ob0_0_ xc xn xk clo cro c4 c5 c6 c7 c8, ob3_0_ xn vp vn n1 n2 n3 n4 n5, ai_ cy n1 40 fk, ai_ cy n2 40 fs, ai_ cy n3 40 fe, ai_ cy n4 40 fw, aq_ cy 6 clo 12 (gf_ rl)]) (Y := [ai_ cy c5 40 c_c5_11, ai_ cy c6 40 c_c6_11, aq_ cy 3 xk 5 (kf_ k0 k1 k2 k3 k4), ob6_0_ k0, ob5_0_ k1, ob9_0_ k2, ob2_0_ k3, ob8_0_ k4]) (r := rl) (M := m_rl_3) (k := y_13.toNatClampNeg) hx hb hK.1 hPg 0 rfl (in_lt h_14) (i := y_16) h_17 dB_36_0_23.1.2.1.2 ?_
                  refine lv_topi (fun y_18 ey_18 => ?_)
                  refine lv_aload_n hx hb dB_36_0_23.1.2.2.1 rfl (lv_at hl 1 rfl) ?_
                  refine va_get (ci := 0) (v := .ref c5) (C := RX0) (T := TX0) (N := 9) hx hb hts (fun _ h => List.mem_cons_of_mem _ (List.mem_append_left _ (List.mem_append_right _ h))) hown hK.1 hP 0 rfl rfl 5 (by decide) (hts (.fieldLink RX0 23 "CutAtlas$Current" "letsForth" "[I") (List.mem_of_getElem? (i := 8) rfl)) (fun _ h9 => h9) rfl dB_36_0_23.1.2.2.2 ?_
                  refine lv_iload_n hx hb dB_36_0_23.2.1.1.1 rfl (lv_at hl 0 rfl) ?_
                  refine va_iald hx hb hK.1 hP 19 0 rfl rfl (i := x2_3) h_12 dB_36_0_23.2.1.1.2 ?_
                  refine lv_topi (fun y_20 ey_20 => ?_)
                  refine lv_iadd hx hb dB_36_0_23.2.1.2.1 ?_
                  refine lv_topi (fun y_21 ey_21 => ?_)
                  have hPg : va_P D vwCl (([ob0_0_ xc xn xk clo cro c4 c5 c6 c7 c8, ob3_0_ xn vp vn n1 n2 n3 n4 n5, ai_ cy n1 40 fk, ai_ cy n2 40 fs, ai_ cy n3 40 fe, ai_ cy n4 40 fw, aq_ cy 6 clo 12 (gf_ rl)] : va_W) ++ (gro (cy 0) rl m_rl_3 ++ ([ai_ cy c5 40 c_c5_11, ai_ cy c6 40 c_c6_11, aq_ cy 3 xk 5 (kf_ k0 k1 k2 k3 k4), ob6_0_ k0, ob5_0_ k1, ob9_0_ k2, ob2_0_ k3, ob8_0_ k4] : va_W))) H := hP
                  have hDg : va_D A (([ob0_0_ xc xn xk clo cro c4 c5 c6 c7 c8, ob3_0_ xn vp vn n1 n2 n3 n4 n5, ai_ cy n1 40 fk, ai_ cy n2 40 fs, ai_ cy n3 40 fe, ai_ cy n4 40 fw, aq_ cy 6 clo 12 (gf_ rl)] : va_W) ++ (gro (cy 0) rl m_rl_3 ++ ([ai_ cy c5 40 c_c5_11, ai_ cy c6 40 c_c6_11, aq_ cy 3 xk 5 (kf_ k0 k1 k2 k3 k4), ob6_0_ k0, ob5_0_ k1, ob9_0_ k2, ob2_0_ k3, ob8_0_ k4] : va_W))) := hD
                  refine va_gst (X := [ob0_0_ xc xn xk clo cro c4 c5 c6 c7 c8, ob3_0_ xn vp vn n1 n2 n3 n4 n5, ai_ cy n1 40 fk, ai_ cy n2 40 fs, ai_ cy n3 40 fe, ai_ cy n4 40 fw, aq_ cy 6 clo 12 (gf_ rl)]) (Y := [ai_ cy c5 40 c_c5_11, ai_ cy c6 40 c_c6_11, aq_ cy 3 xk 5 (kf_ k0 k1 k2 k3 k4), ob6_0_ k0, ob5_0_ k1, ob9_0_ k2, ob2_0_ k3, ob8_0_ k4]) (r := rl) (M := m_rl_3) (k := y_13.toNatClampNeg) hx hb hK.1 hPg hDg hS 0 rfl (in_lt h_14) (i := y_16) h_17 dB_36_0_23.2.1.2.2 (fun H locs hP hD hS => ?_)
                  obtain ⟨M_23, eM_23⟩ : ∃ g : Nat → Nat → Int32, g = va_up m_rl_3 y_13.toNatClampNeg (upd (m_rl_3 y_13.toNatClampNeg) y_16.toNatClampNeg y_21) := ⟨_, rfl⟩
                  refine pd_K (D := D) (cl := vwCl) (H := H) (A := A) [ob0_0_ xc xn xk clo cro c4 c5 c6 c7 c8, ob3_0_ xn vp vn n1 n2 n3 n4 n5, ai_ cy n1 40 fk, ai_ cy n2 40 fs, ai_ cy n3 40 fe, ai_ cy n4 40 fw, aq_ cy 6 clo 12 (gf_ rl), ai_ cy (rl 0) 12 (M_23 0), ai_ cy (rl 1) 12 (M_23 1), ai_ cy (rl 2) 12 (M_23 2), ai_ cy (rl 3) 12 (M_23 3), ai_ cy (rl 4) 12 (M_23 4), ai_ cy (rl 5) 12 (M_23 5), ai_ cy (rl 6) 12 (M_23 6), ai_ cy (rl 7) 12 (M_23 7), ai_ cy (rl 8) 12 (M_23 8), ai_ cy (rl 9) 12 (M_23 9), ai_ cy (rl 10) 12 (M_23 10), ai_ cy (rl 11) 12 (M_23 11), ai_ cy c5 40 c_c5_11, ai_ cy c6 40 c_c6_11, aq_ cy 3 xk 5 (kf_ k0 k1 k2 k3 k4), ob6_0_ k0, ob5_0_ k1, ob9_0_ k2, ob2_0_ k3, ob8_0_ k4] (by rw [eM_23]; exact hP) (by rw [eM_23]; exact hD) (fun hP hD => ?_)
                  refine lv_aload_n hx hb dB_36_0_23.2.2.1.1 rfl (lv_at hl 1 rfl) ?_
                  refine va_get (ci := 0) (v := .ref clo) (C := RX0) (T := TX0) (N := 9) hx hb hts (fun _ h => List.mem_cons_of_mem _ (List.mem_append_left _ (List.mem_append_right _ h))) hown hK.1 hP 0 rfl rfl 2 (by decide) (hts (.fieldLink RX0 11 "CutAtlas$Current" "lets" "[[I") (List.mem_of_getElem? (i := 3) rfl)) (fun _ h9 => h9) rfl dB_36_0_23.2.2.1.2 ?_
                  refine lv_aload_n hx hb dB_36_0_23.2.2.2.1 rfl (lv_at hl 1 rfl) ?_
                  refine va_get (ci := 0) (v := .ref xn) (C := RX0) (T := TX0) (N := 9) hx hb hts (fun _ h => List.mem_cons_of_mem _ (List.mem_append_left _ (List.mem_append_right _ h))) hown hK.1 hP 0 rfl rfl 0 (by decide) (hts (.fieldLink RX0 35 "CutAtlas$Current" "net" "LCutAtlas$Net;") (List.mem_of_getElem? (i := 1) rfl)) (fun _ h9 => h9) rfl dB_36_0_23.2.2.2.2 ?_
                  refine va_get (ci := 3) (v := .ref n3) (C := RX3) (T := TX3) (N := 7) hx hb hts (fun _ h => List.mem_cons_of_mem _ (List.mem_append_right _ h)) hown hK.1 hP 1 rfl rfl 4 (by decide) (hts (.fieldLink RX0 79 "CutAtlas$Net" "ends" "[I") (List.mem_of_getElem? (i := 11) rfl)) (fun _ h9 => h9) rfl dB_36_0_24.1.1.1.1 ?_
                  refine lv_iload_n hx hb dB_36_0_24.1.1.1.2 rfl (lv_at hl 0 rfl) ?_
                  refine va_iald hx hb hK.1 hP 4 0 rfl rfl (i := x2_3) h_12 dB_36_0_24.1.1.2.1 ?_
                  refine lv_topi (fun y_25 ey_25 => ?_)
                  have e_ := (ey_25.trans ey_16.symm).symm
                  subst e_
                  skip
                  refine va_alda hx hb hG hP 6 rfl (i := y_16) h_17 dB_36_0_24.1.1.2.2 ?_
                  refine lv_topv (v' := .ref (rl y_16.toNatClampNeg)) (gf_at h_17) ?_
                  refine lv_aload_n hx hb dB_36_0_24.1.2.1.1 rfl (lv_at hl 1 rfl) ?_
                  refine va_get (ci := 0) (v := .ref xn) (C := RX0) (T := TX0) (N := 9) hx hb hts (fun _ h => List.mem_cons_of_mem _ (List.mem_append_left _ (List.mem_append_right _ h))) hown hK.1 hP 0 rfl rfl 0 (by decide) (hts (.fieldLink RX0 35 "CutAtlas$Current" "net" "LCutAtlas$Net;") (List.mem_of_getElem? (i := 1) rfl)) (fun _ h9 => h9) rfl dB_36_0_24.1.2.1.2 ?_
                  refine va_get (ci := 3) (v := .ref n2) (C := RX3) (T := TX3) (N := 7) hx hb hts (fun _ h => List.mem_cons_of_mem _ (List.mem_append_right _ h)) hown hK.1 hP 1 rfl rfl 3 (by decide) (hts (.fieldLink RX0 76 "CutAtlas$Net" "starts" "[I") (List.mem_of_getElem? (i := 10) rfl)) (fun _ h9 => h9) rfl dB_36_0_24.1.2.2.1 ?_
                  refine lv_iload_n hx hb dB_36_0_24.1.2.2.2 rfl (lv_at hl 0 rfl) ?_
                  refine va_iald hx hb hK.1 hP 3 0 rfl rfl (i := x2_3) h_12 dB_36_0_24.2.1.1.1 ?_
                  refine lv_topi (fun y_28 ey_28 => ?_)
                  have e_ := (ey_28.trans ey_13.symm).symm
                  subst e_
                  skip
                  refine lv_dup2_11 hx hb dB_36_0_24.2.1.1.2 rfl rfl ?_
                  have hPg : va_P D vwCl (([ob0_0_ xc xn xk clo cro c4 c5 c6 c7 c8, ob3_0_ xn vp vn n1 n2 n3 n4 n5, ai_ cy n1 40 fk, ai_ cy n2 40 fs, ai_ cy n3 40 fe, ai_ cy n4 40 fw, aq_ cy 6 clo 12 (gf_ rl)] : va_W) ++ (gro (cy 0) rl M_23 ++ ([ai_ cy c5 40 c_c5_11, ai_ cy c6 40 c_c6_11, aq_ cy 3 xk 5 (kf_ k0 k1 k2 k3 k4), ob6_0_ k0, ob5_0_ k1, ob9_0_ k2, ob2_0_ k3, ob8_0_ k4] : va_W))) H := hP
                  refine va_gld (X := [ob0_0_ xc xn xk clo cro c4 c5 c6 c7 c8, ob3_0_ xn vp vn n1 n2 n3 n4 n5, ai_ cy n1 40 fk, ai_ cy n2 40 fs, ai_ cy n3 40 fe, ai_ cy n4 40 fw, aq_ cy 6 clo 12 (gf_ rl)]) (Y := [ai_ cy c5 40 c_c5_11, ai_ cy c6 40 c_c6_11, aq_ cy 3 xk 5 (kf_ k0 k1 k2 k3 k4), ob6_0_ k0, ob5_0_ k1, ob9_0_ k2, ob2_0_ k3, ob8_0_ k4]) (r := rl) (M := M_23) (k := y_16.toNatClampNeg) hx hb hK.1 hPg 0 rfl (in_lt h_17) (i := y_13) h_14 dB_36_0_24.2.1.2.1 ?_
                  refine lv_topi (fun y_30 ey_30 => ?_)
                  refine lv_aload_n hx hb dB_36_0_24.2.1.2.2 rfl (lv_at hl 1 rfl) ?_
                  refine va_get (ci := 0) (v := .ref c6) (C := RX0) (T := TX0) (N := 9) hx hb hts (fun _ h => List.mem_cons_of_mem _ (List.mem_append_left _ (List.mem_append_right _ h))) hown hK.1 hP 0 rfl rfl 6 (by decide) (hts (.fieldLink RX0 26 "CutAtlas$Current" "letsBack" "[I") (List.mem_of_getElem? (i := 9) rfl)) (fun _ h9 => h9) rfl dB_36_0_24.2.2.1.1 ?_
                  refine lv_iload_n hx hb dB_36_0_24.2.2.1.2 rfl (lv_at hl 0 rfl) ?_
                  refine va_iald hx hb hK.1 hP 20 0 rfl rfl (i := x2_3) h_12 dB_36_0_24.2.2.2.1 ?_
                  refine lv_topi (fun y_32 ey_32 => ?_)
                  refine lv_iadd hx hb dB_36_0_24.2.2.2.2 ?_
                  refine lv_topi (fun y_33 ey_33 => ?_)
                  have hPg : va_P D vwCl (([ob0_0_ xc xn xk clo cro c4 c5 c6 c7 c8, ob3_0_ xn vp vn n1 n2 n3 n4 n5, ai_ cy n1 40 fk, ai_ cy n2 40 fs, ai_ cy n3 40 fe, ai_ cy n4 40 fw, aq_ cy 6 clo 12 (gf_ rl)] : va_W) ++ (gro (cy 0) rl M_23 ++ ([ai_ cy c5 40 c_c5_11, ai_ cy c6 40 c_c6_11, aq_ cy 3 xk 5 (kf_ k0 k1 k2 k3 k4), ob6_0_ k0, ob5_0_ k1, ob9_0_ k2, ob2_0_ k3, ob8_0_ k4] : va_W))) H := hP
                  have hDg : va_D A (([ob0_0_ xc xn xk clo cro c4 c5 c6 c7 c8, ob3_0_ xn vp vn n1 n2 n3 n4 n5, ai_ cy n1 40 fk, ai_ cy n2 40 fs, ai_ cy n3 40 fe, ai_ cy n4 40 fw, aq_ cy 6 clo 12 (gf_ rl)] : va_W) ++ (gro (cy 0) rl M_23 ++ ([ai_ cy c5 40 c_c5_11, ai_ cy c6 40 c_c6_11, aq_ cy 3 xk 5 (kf_ k0 k1 k2 k3 k4), ob6_0_ k0, ob5_0_ k1, ob9_0_ k2, ob2_0_ k3, ob8_0_ k4] : va_W))) := hD
                  refine va_gst (X := [ob0_0_ xc xn xk clo cro c4 c5 c6 c7 c8, ob3_0_ xn vp vn n1 n2 n3 n4 n5, ai_ cy n1 40 fk, ai_ cy n2 40 fs, ai_ cy n3 40 fe, ai_ cy n4 40 fw, aq_ cy 6 clo 12 (gf_ rl)]) (Y := [ai_ cy c5 40 c_c5_11, ai_ cy c6 40 c_c6_11, aq_ cy 3 xk 5 (kf_ k0 k1 k2 k3 k4), ob6_0_ k0, ob5_0_ k1, ob9_0_ k2, ob2_0_ k3, ob8_0_ k4]) (r := rl) (M := M_23) (k := y_16.toNatClampNeg) hx hb hK.1 hPg hDg hS 0 rfl (in_lt h_17) (i := y_13) h_14 dB_36_0_25.1.1 (fun H locs hP hD hS => ?_)
                  obtain ⟨M_35, eM_35⟩ : ∃ g : Nat → Nat → Int32, g = va_up M_23 y_16.toNatClampNeg (upd (M_23 y_16.toNatClampNeg) y_13.toNatClampNeg y_33) := ⟨_, rfl⟩
                  refine pd_K (D := D) (cl := vwCl) (H := H) (A := A) [ob0_0_ xc xn xk clo cro c4 c5 c6 c7 c8, ob3_0_ xn vp vn n1 n2 n3 n4 n5, ai_ cy n1 40 fk, ai_ cy n2 40 fs, ai_ cy n3 40 fe, ai_ cy n4 40 fw, aq_ cy 6 clo 12 (gf_ rl), ai_ cy (rl 0) 12 (M_35 0), ai_ cy (rl 1) 12 (M_35 1), ai_ cy (rl 2) 12 (M_35 2), ai_ cy (rl 3) 12 (M_35 3), ai_ cy (rl 4) 12 (M_35 4), ai_ cy (rl 5) 12 (M_35 5), ai_ cy (rl 6) 12 (M_35 6), ai_ cy (rl 7) 12 (M_35 7), ai_ cy (rl 8) 12 (M_35 8), ai_ cy (rl 9) 12 (M_35 9), ai_ cy (rl 10) 12 (M_35 10), ai_ cy (rl 11) 12 (M_35 11), ai_ cy c5 40 c_c5_11, ai_ cy c6 40 c_c6_11, aq_ cy 3 xk 5 (kf_ k0 k1 k2 k3 k4), ob6_0_ k0, ob5_0_ k1, ob9_0_ k2, ob2_0_ k3, ob8_0_ k4] (by rw [eM_35]; exact hP) (by rw [eM_35]; exact hD) (fun hP hD => ?_)
                  obtain ⟨y_36, ey_36⟩ : ∃ y : Int32, y = x2_3 + 1 := ⟨_, rfl⟩
                  have ty_36 : y_36.toInt = x2_3.toInt + (1 : Int32).toInt := by rw [ey_36]; exact addI (by omega) (by omega)
                  refine lv_iinc (v := y_36) (lv' := [(2, .int y_36), (0, .ref xc), (1, .int a1)]) hx hb dB_36_0_25.1.2 hl (k := 0) rfl (by rw [ey_36]; rfl) (by decide) rfl (fun ls hl => ?_)
                  refine lv_goto (tgt := 31) hx hb dB_36_0_25.2.1 (by decide) ?_
                  exact ih_3 y_36 M_35 c_c5_11 c_c6_11 _ _ _ (by omega) (by first | with_reducible assumption | omega | assumption) (by first | with_reducible assumption | omega | assumption) ⟨hP, hD⟩ hS (lv_sub hl [0, 1, 2] rfl)
                refine lv_aload_n hx hb dB_36_0_20.2.2.1.1 rfl (lv_at hl 2 rfl) ?_
                refine va_get (ci := 0) (v := .ref xk) (C := RX0) (T := TX0) (N := 9) hx hb hts (fun _ h => List.mem_cons_of_mem _ (List.mem_append_left _ (List.mem_append_right _ h))) hown hK.1 hP 0 rfl rfl 1 (by decide) (hts (.fieldLink RX0 39 "CutAtlas$Current" "kinds" "[LCutAtlas$PlainKind;") (List.mem_of_getElem? (i := 6) rfl)) (fun _ h9 => h9) rfl dB_36_0_20.2.2.1.2 ?_
                refine lv_aload_n hx hb dB_36_0_20.2.2.2.1 rfl (lv_at hl 2 rfl) ?_
                refine va_get (ci := 0) (v := .ref xn) (C := RX0) (T := TX0) (N := 9) hx hb hts (fun _ h => List.mem_cons_of_mem _ (List.mem_append_left _ (List.mem_append_right _ h))) hown hK.1 hP 0 rfl rfl 0 (by decide) (hts (.fieldLink RX0 35 "CutAtlas$Current" "net" "LCutAtlas$Net;") (List.mem_of_getElem? (i := 1) rfl)) (fun _ h9 => h9) rfl dB_36_0_20.2.2.2.2 ?_
                refine va_get (ci := 3) (v := .ref n1) (C := RX3) (T := TX3) (N := 7) hx hb hts (fun _ h => List.mem_cons_of_mem _ (List.mem_append_right _ h)) hown hK.1 hP 1 rfl rfl 2 (by decide) (hts (.fieldLink RX0 65 "CutAtlas$Net" "kinds" "[I") (List.mem_of_getElem? (i := 7) rfl)) (fun _ h9 => h9) rfl dB_36_0_21.1.1.1.1 ?_
                refine lv_iload_n hx hb dB_36_0_21.1.1.1.2 rfl (lv_at hl 1 rfl) ?_
                have h_37 : vp_in x2_3 40 := in_I (by first | with_reducible assumption | omega) (by omega)
                refine va_iald hx hb hK.1 hP 2 0 rfl rfl (i := x2_3) h_37 dB_36_0_21.1.1.2.1 ?_
                refine lv_topi (fun y_38 ey_38 => ?_)
                have ry_38 : 0 ≤ y_38.toInt ∧ y_38.toInt ≤ 4 := by rw [ey_38]; exact r_fk _ (in_lt h_37)
                rcases sp_5 (x := y_38) (by omega) with rfl | rfl | rfl | rfl | rfl
                · refine va_aldq hx hb hK.1 hP 21 3 rfl rfl (i := 0) (by unfold vp_in; decide) dB_36_0_21.1.1.2.2 ?_
                  refine lv_topv (v' := .ref k0) (by simp [va_up, va_rf, mf_, cl_0, cl_1, cl_2, cl_3, cl_4, kf_]) ?_
                  refine lv_astore (lv' := [(4, .ref k0), (3, .int u0_10), (2, .int x2_3), (0, .ref xc), (1, .int a1)]) hx hb dB_36_0_21.1.2.1.1 hl (by decide) rfl (fun ls hl => ?_)
                  refine lv_aload_n hx hb dB_36_0_21.1.2.1.2 rfl (lv_at hl 3 rfl) ?_
                  refine va_get (ci := 0) (v := .ref c5) (C := RX0) (T := TX0) (N := 9) hx hb hts (fun _ h => List.mem_cons_of_mem _ (List.mem_append_left _ (List.mem_append_right _ h))) hown hK.1 hP 0 rfl rfl 5 (by decide) (hts (.fieldLink RX0 23 "CutAtlas$Current" "letsForth" "[I") (List.mem_of_getElem? (i := 8) rfl)) (fun _ h9 => h9) rfl dB_36_0_21.1.2.2.1 ?_
                  refine lv_iload_n hx hb dB_36_0_21.1.2.2.2 rfl (lv_at hl 2 rfl) ?_
                  refine lv_aload hx hb dB_36_0_21.2.1.1.1 (lv_at hl 0 rfl) ?_
                  refine lv_iload_n hx hb dB_36_0_21.2.1.1.2 rfl (lv_at hl 1 rfl) ?_
                  refine lv_iconst (v := 1) hx hb dB_36_0_21.2.1.2.1 (by decide) ?_
                  refine ct_R hP hD [] [] (by decide) rfl (fun hPc hDw => ?_)
                  have hFc := va_free (wc := []) hD hS hA [] rfl
                  refine va_calli (va_runV (As := [.int u0_10, .int 1]) (rest := [.int x2_3, .ref c5]) ⟨hx, hb, hml, hown, hts⟩ (c_X6_lets l D cy H.size k0 u0_10 (1 : Int32)) (cwV 2 hts gX0_load_X6_lets rfl rfl rfl ⟨rfl, hd_X6_lets⟩ ⟨Nat.le_of_ble_eq_true rfl, Nat.le_of_ble_eq_true rfl⟩) ⟨bl_, va_recvX hK.1 hP (ci := 6) (q0 := 22) rfl rfl, fun U hU hW => ⟨rfl, by rw [hU], by rw [hU]; exact hPc, kk_mv hW hK, hDw⟩⟩ rfl rfl hl.1 rfl (lv_room (Nat.le_of_ble_eq_true rfl)) dB_36_0_21.2.1.2.2 ⟨Nat.le_of_ble_eq_true rfl, Nat.le_of_ble_eq_true rfl⟩) hS (fun q _ h => hFc q h) hFc (fun r_39 u t H locs ht hvm hw hB hz1 hk1 hS => ?_)
                  have hP : va_P D vwCl _ H := ro_keep hP hk1
                  have f0_r_39 := hw
                  refine ct_R hP hD [] [] (by decide) rfl (fun hPc hDw => ?_)
                  have hFc := va_free (wc := []) hD hS hA [] rfl
                  refine va_calli (va_runS (As := [.int r_39]) (rest := [.int x2_3, .ref c5]) ⟨hx, hb, hml, hown, hts⟩ (c_X0_asRoom l D cy H.size r_39) (va_cwS 1 hts gX0_load_X0_asRoom rfl rfl rfl hd_X0_asRoom ⟨Nat.le_of_ble_eq_true rfl, Nat.le_of_ble_eq_true rfl⟩) ⟨bl_, fun U hU hW => ⟨rfl, by rw [hU], by rw [hU]; exact hPc, kk_mv hW hK, hDw⟩⟩ rfl rfl hl.1 rfl (lv_room (Nat.le_of_ble_eq_true rfl)) dB_36_0_21.2.2.1.1 ⟨Nat.le_of_ble_eq_true rfl, Nat.le_of_ble_eq_true rfl⟩) hS (fun q _ h => hFc q h) hFc (fun r_40 u t H locs ht hvm hw hB hz1 hk1 hS => ?_)
                  have hP : va_P D vwCl _ H := ro_keep hP hk1
                  refine va_iast hx hb hK.1 hP hD hS 19 0 rfl rfl (i := x2_3) h_37 dB_36_0_21.2.2.1.2 (fun H locs hP hD hS => ?_)
                  obtain ⟨f_42, ef_42⟩ : ∃ g : Nat → Int32, g = upd c_c5_3 x2_3.toNatClampNeg r_40 := ⟨_, rfl⟩
                  refine pd_K (D := D) (cl := vwCl) (H := H) (A := A) [ob0_0_ xc xn xk clo cro c4 c5 c6 c7 c8, ob3_0_ xn vp vn n1 n2 n3 n4 n5, ai_ cy n1 40 fk, ai_ cy n2 40 fs, ai_ cy n3 40 fe, ai_ cy n4 40 fw, aq_ cy 6 clo 12 (gf_ rl), ai_ cy (rl 0) 12 (m_rl_3 0), ai_ cy (rl 1) 12 (m_rl_3 1), ai_ cy (rl 2) 12 (m_rl_3 2), ai_ cy (rl 3) 12 (m_rl_3 3), ai_ cy (rl 4) 12 (m_rl_3 4), ai_ cy (rl 5) 12 (m_rl_3 5), ai_ cy (rl 6) 12 (m_rl_3 6), ai_ cy (rl 7) 12 (m_rl_3 7), ai_ cy (rl 8) 12 (m_rl_3 8), ai_ cy (rl 9) 12 (m_rl_3 9), ai_ cy (rl 10) 12 (m_rl_3 10), ai_ cy (rl 11) 12 (m_rl_3 11), ai_ cy c5 40 f_42, ai_ cy c6 40 c_c6_3, aq_ cy 3 xk 5 (kf_ k0 k1 k2 k3 k4), ob6_0_ k0, ob5_0_ k1, ob9_0_ k2, ob2_0_ k3, ob8_0_ k4] (by rw [ef_42]; exact hP) (by rw [ef_42]; exact hD) (fun hP hD => ?_)
                  refine lv_aload_n hx hb dB_36_0_21.2.2.2.1 rfl (lv_at hl 3 rfl) ?_
                  refine va_get (ci := 0) (v := .ref c6) (C := RX0) (T := TX0) (N := 9) hx hb hts (fun _ h => List.mem_cons_of_mem _ (List.mem_append_left _ (List.mem_append_right _ h))) hown hK.1 hP 0 rfl rfl 6 (by decide) (hts (.fieldLink RX0 26 "CutAtlas$Current" "letsBack" "[I") (List.mem_of_getElem? (i := 9) rfl)) (fun _ h9 => h9) rfl dB_36_0_21.2.2.2.2 ?_
                  refine lv_iload_n hx hb dB_36_0_22.1.1.1.1 rfl (lv_at hl 2 rfl) ?_
                  refine lv_aload hx hb dB_36_0_22.1.1.1.2 (lv_at hl 0 rfl) ?_
                  refine lv_iload_n hx hb dB_36_0_22.1.1.2.1 rfl (lv_at hl 1 rfl) ?_
                  refine lv_iconst (v := 0) hx hb dB_36_0_22.1.1.2.2 (by decide) ?_
                  refine ct_R hP hD [] [] (by decide) rfl (fun hPc hDw => ?_)
                  have hFc := va_free (wc := []) hD hS hA [] rfl
                  refine va_calli (va_runV (As := [.int u0_10, .int 0]) (rest := [.int x2_3, .ref c6]) ⟨hx, hb, hml, hown, hts⟩ (c_X6_lets l D cy H.size k0 u0_10 (0 : Int32)) (cwV 2 hts gX0_load_X6_lets rfl rfl rfl ⟨rfl, hd_X6_lets⟩ ⟨Nat.le_of_ble_eq_true rfl, Nat.le_of_ble_eq_true rfl⟩) ⟨bl_, va_recvX hK.1 hP (ci := 6) (q0 := 22) rfl rfl, fun U hU hW => ⟨rfl, by rw [hU], by rw [hU]; exact hPc, kk_mv hW hK, hDw⟩⟩ rfl rfl hl.1 rfl (lv_room (Nat.le_of_ble_eq_true rfl)) dB_36_0_22.1.2.1.1 ⟨Nat.le_of_ble_eq_true rfl, Nat.le_of_ble_eq_true rfl⟩) hS (fun q _ h => hFc q h) hFc (fun r_43 u t H locs ht hvm hw hB hz1 hk1 hS => ?_)
                  have hP : va_P D vwCl _ H := ro_keep hP hk1
                  have f0_r_43 := hw
                  refine ct_R hP hD [] [] (by decide) rfl (fun hPc hDw => ?_)
                  have hFc := va_free (wc := []) hD hS hA [] rfl
                  refine va_calli (va_runS (As := [.int r_43]) (rest := [.int x2_3, .ref c6]) ⟨hx, hb, hml, hown, hts⟩ (c_X0_asRoom l D cy H.size r_43) (va_cwS 1 hts gX0_load_X0_asRoom rfl rfl rfl hd_X0_asRoom ⟨Nat.le_of_ble_eq_true rfl, Nat.le_of_ble_eq_true rfl⟩) ⟨bl_, fun U hU hW => ⟨rfl, by rw [hU], by rw [hU]; exact hPc, kk_mv hW hK, hDw⟩⟩ rfl rfl hl.1 rfl (lv_room (Nat.le_of_ble_eq_true rfl)) dB_36_0_22.1.2.1.2 ⟨Nat.le_of_ble_eq_true rfl, Nat.le_of_ble_eq_true rfl⟩) hS (fun q _ h => hFc q h) hFc (fun r_44 u t H locs ht hvm hw hB hz1 hk1 hS => ?_)
                  have hP : va_P D vwCl _ H := ro_keep hP hk1
                  refine va_iast hx hb hK.1 hP hD hS 20 0 rfl rfl (i := x2_3) h_37 dB_36_0_22.1.2.2.1 (fun H locs hP hD hS => ?_)
                  obtain ⟨f_46, ef_46⟩ : ∃ g : Nat → Int32, g = upd c_c6_3 x2_3.toNatClampNeg r_44 := ⟨_, rfl⟩
                  refine pd_K (D := D) (cl := vwCl) (H := H) (A := A) [ob0_0_ xc xn xk clo cro c4 c5 c6 c7 c8, ob3_0_ xn vp vn n1 n2 n3 n4 n5, ai_ cy n1 40 fk, ai_ cy n2 40 fs, ai_ cy n3 40 fe, ai_ cy n4 40 fw, aq_ cy 6 clo 12 (gf_ rl), ai_ cy (rl 0) 12 (m_rl_3 0), ai_ cy (rl 1) 12 (m_rl_3 1), ai_ cy (rl 2) 12 (m_rl_3 2), ai_ cy (rl 3) 12 (m_rl_3 3), ai_ cy (rl 4) 12 (m_rl_3 4), ai_ cy (rl 5) 12 (m_rl_3 5), ai_ cy (rl 6) 12 (m_rl_3 6), ai_ cy (rl 7) 12 (m_rl_3 7), ai_ cy (rl 8) 12 (m_rl_3 8), ai_ cy (rl 9) 12 (m_rl_3 9), ai_ cy (rl 10) 12 (m_rl_3 10), ai_ cy (rl 11) 12 (m_rl_3 11), ai_ cy c5 40 f_42, ai_ cy c6 40 f_46, aq_ cy 3 xk 5 (kf_ k0 k1 k2 k3 k4), ob6_0_ k0, ob5_0_ k1, ob9_0_ k2, ob2_0_ k3, ob8_0_ k4] (by rw [ef_46]; exact hP) (by rw [ef_46]; exact hD) (fun hP hD => ?_)
                  exact JOIN_11 f_42 f_46 _ _ _ ⟨hP, hD⟩ hS (lv_sub hl [2, 3, 4] rfl)
                · refine va_aldq hx hb hK.1 hP 21 3 rfl rfl (i := 1) (by unfold vp_in; decide) dB_36_0_21.1.1.2.2 ?_
                  refine lv_topv (v' := .ref k1) (by simp [va_up, va_rf, mf_, cl_0, cl_1, cl_2, cl_3, cl_4, kf_]) ?_
                  refine lv_astore (lv' := [(4, .ref k1), (3, .int u0_10), (2, .int x2_3), (0, .ref xc), (1, .int a1)]) hx hb dB_36_0_21.1.2.1.1 hl (by decide) rfl (fun ls hl => ?_)
                  refine lv_aload_n hx hb dB_36_0_21.1.2.1.2 rfl (lv_at hl 3 rfl) ?_
                  refine va_get (ci := 0) (v := .ref c5) (C := RX0) (T := TX0) (N := 9) hx hb hts (fun _ h => List.mem_cons_of_mem _ (List.mem_append_left _ (List.mem_append_right _ h))) hown hK.1 hP 0 rfl rfl 5 (by decide) (hts (.fieldLink RX0 23 "CutAtlas$Current" "letsForth" "[I") (List.mem_of_getElem? (i := 8) rfl)) (fun _ h9 => h9) rfl dB_36_0_21.1.2.2.1 ?_
                  refine lv_iload_n hx hb dB_36_0_21.1.2.2.2 rfl (lv_at hl 2 rfl) ?_
                  refine lv_aload hx hb dB_36_0_21.2.1.1.1 (lv_at hl 0 rfl) ?_
                  refine lv_iload_n hx hb dB_36_0_21.2.1.1.2 rfl (lv_at hl 1 rfl) ?_
                  refine lv_iconst (v := 1) hx hb dB_36_0_21.2.1.2.1 (by decide) ?_
                  refine ct_R hP hD [ob5_0_ k1] [23] (by decide) rfl (fun hPc hDw => ?_)
                  have hFc := va_free (wc := []) hD hS hA [] rfl
                  refine va_calli (va_runU (As := [.int u0_10, .int 1]) (rest := [.int x2_3, .ref c5]) ⟨hx, hb, hml, hown, hts⟩ (c_X5_lets l D cy H.size k1 u0_10 (1 : Int32)) (va_cwO 2 hts gX0_load_X5_lets_u67X5 rfl rfl rfl (b0 := cX6_lets) (m0 := 3) (r0 := (some .int)) (by decide +kernel) (by decide +kernel) ⟨Nat.le_of_ble_eq_true rfl, Nat.le_of_ble_eq_true rfl⟩) ⟨bl_, va_recvX hK.1 hP (ci := 5) (q0 := 23) rfl rfl, fun U hU hW => ⟨rfl, by rw [hU], by rw [hU]; exact hPc, kk_mv hW hK, hDw⟩⟩ rfl rfl hl.1 rfl (lv_room (Nat.le_of_ble_eq_true rfl)) dB_36_0_21.2.1.2.2 ⟨Nat.le_of_ble_eq_true rfl, Nat.le_of_ble_eq_true rfl⟩) hS (fun q _ h => hFc q h) hFc (fun r_47 u t H locs ht hvm hw hB hz1 hk1 hS => ?_)
                  have hP : va_P D vwCl _ H := ro_keep hP hk1
                  refine ct_R hP hD [] [] (by decide) rfl (fun hPc hDw => ?_)
                  have hFc := va_free (wc := []) hD hS hA [] rfl
                  refine va_calli (va_runS (As := [.int r_47]) (rest := [.int x2_3, .ref c5]) ⟨hx, hb, hml, hown, hts⟩ (c_X0_asRoom l D cy H.size r_47) (va_cwS 1 hts gX0_load_X0_asRoom rfl rfl rfl hd_X0_asRoom ⟨Nat.le_of_ble_eq_true rfl, Nat.le_of_ble_eq_true rfl⟩) ⟨bl_, fun U hU hW => ⟨rfl, by rw [hU], by rw [hU]; exact hPc, kk_mv hW hK, hDw⟩⟩ rfl rfl hl.1 rfl (lv_room (Nat.le_of_ble_eq_true rfl)) dB_36_0_21.2.2.1.1 ⟨Nat.le_of_ble_eq_true rfl, Nat.le_of_ble_eq_true rfl⟩) hS (fun q _ h => hFc q h) hFc (fun r_48 u t H locs ht hvm hw hB hz1 hk1 hS => ?_)
                  have hP : va_P D vwCl _ H := ro_keep hP hk1
                  refine va_iast hx hb hK.1 hP hD hS 19 0 rfl rfl (i := x2_3) h_37 dB_36_0_21.2.2.1.2 (fun H locs hP hD hS => ?_)
                  obtain ⟨f_50, ef_50⟩ : ∃ g : Nat → Int32, g = upd c_c5_3 x2_3.toNatClampNeg r_48 := ⟨_, rfl⟩
                  refine pd_K (D := D) (cl := vwCl) (H := H) (A := A) [ob0_0_ xc xn xk clo cro c4 c5 c6 c7 c8, ob3_0_ xn vp vn n1 n2 n3 n4 n5, ai_ cy n1 40 fk, ai_ cy n2 40 fs, ai_ cy n3 40 fe, ai_ cy n4 40 fw, aq_ cy 6 clo 12 (gf_ rl), ai_ cy (rl 0) 12 (m_rl_3 0), ai_ cy (rl 1) 12 (m_rl_3 1), ai_ cy (rl 2) 12 (m_rl_3 2), ai_ cy (rl 3) 12 (m_rl_3 3), ai_ cy (rl 4) 12 (m_rl_3 4), ai_ cy (rl 5) 12 (m_rl_3 5), ai_ cy (rl 6) 12 (m_rl_3 6), ai_ cy (rl 7) 12 (m_rl_3 7), ai_ cy (rl 8) 12 (m_rl_3 8), ai_ cy (rl 9) 12 (m_rl_3 9), ai_ cy (rl 10) 12 (m_rl_3 10), ai_ cy (rl 11) 12 (m_rl_3 11), ai_ cy c5 40 f_50, ai_ cy c6 40 c_c6_3, aq_ cy 3 xk 5 (kf_ k0 k1 k2 k3 k4), ob6_0_ k0, ob5_0_ k1, ob9_0_ k2, ob2_0_ k3, ob8_0_ k4] (by rw [ef_50]; exact hP) (by rw [ef_50]; exact hD) (fun hP hD => ?_)
                  refine lv_aload_n hx hb dB_36_0_21.2.2.2.1 rfl (lv_at hl 3 rfl) ?_
                  refine va_get (ci := 0) (v := .ref c6) (C := RX0) (T := TX0) (N := 9) hx hb hts (fun _ h => List.mem_cons_of_mem _ (List.mem_append_left _ (List.mem_append_right _ h))) hown hK.1 hP 0 rfl rfl 6 (by decide) (hts (.fieldLink RX0 26 "CutAtlas$Current" "letsBack" "[I") (List.mem_of_getElem? (i := 9) rfl)) (fun _ h9 => h9) rfl dB_36_0_21.2.2.2.2 ?_
                  refine lv_iload_n hx hb dB_36_0_22.1.1.1.1 rfl (lv_at hl 2 rfl) ?_
                  refine lv_aload hx hb dB_36_0_22.1.1.1.2 (lv_at hl 0 rfl) ?_
                  refine lv_iload_n hx hb dB_36_0_22.1.1.2.1 rfl (lv_at hl 1 rfl) ?_
                  refine lv_iconst (v := 0) hx hb dB_36_0_22.1.1.2.2 (by decide) ?_
                  refine ct_R hP hD [ob5_0_ k1] [23] (by decide) rfl (fun hPc hDw => ?_)
                  have hFc := va_free (wc := []) hD hS hA [] rfl
                  refine va_calli (va_runU (As := [.int u0_10, .int 0]) (rest := [.int x2_3, .ref c6]) ⟨hx, hb, hml, hown, hts⟩ (c_X5_lets l D cy H.size k1 u0_10 (0 : Int32)) (va_cwO 2 hts gX0_load_X5_lets_u67X5 rfl rfl rfl (b0 := cX6_lets) (m0 := 3) (r0 := (some .int)) (by decide +kernel) (by decide +kernel) ⟨Nat.le_of_ble_eq_true rfl, Nat.le_of_ble_eq_true rfl⟩) ⟨bl_, va_recvX hK.1 hP (ci := 5) (q0 := 23) rfl rfl, fun U hU hW => ⟨rfl, by rw [hU], by rw [hU]; exact hPc, kk_mv hW hK, hDw⟩⟩ rfl rfl hl.1 rfl (lv_room (Nat.le_of_ble_eq_true rfl)) dB_36_0_22.1.2.1.1 ⟨Nat.le_of_ble_eq_true rfl, Nat.le_of_ble_eq_true rfl⟩) hS (fun q _ h => hFc q h) hFc (fun r_51 u t H locs ht hvm hw hB hz1 hk1 hS => ?_)
                  have hP : va_P D vwCl _ H := ro_keep hP hk1
                  refine ct_R hP hD [] [] (by decide) rfl (fun hPc hDw => ?_)
                  have hFc := va_free (wc := []) hD hS hA [] rfl
                  refine va_calli (va_runS (As := [.int r_51]) (rest := [.int x2_3, .ref c6]) ⟨hx, hb, hml, hown, hts⟩ (c_X0_asRoom l D cy H.size r_51) (va_cwS 1 hts gX0_load_X0_asRoom rfl rfl rfl hd_X0_asRoom ⟨Nat.le_of_ble_eq_true rfl, Nat.le_of_ble_eq_true rfl⟩) ⟨bl_, fun U hU hW => ⟨rfl, by rw [hU], by rw [hU]; exact hPc, kk_mv hW hK, hDw⟩⟩ rfl rfl hl.1 rfl (lv_room (Nat.le_of_ble_eq_true rfl)) dB_36_0_22.1.2.1.2 ⟨Nat.le_of_ble_eq_true rfl, Nat.le_of_ble_eq_true rfl⟩) hS (fun q _ h => hFc q h) hFc (fun r_52 u t H locs ht hvm hw hB hz1 hk1 hS => ?_)
                  have hP : va_P D vwCl _ H := ro_keep hP hk1
                  refine va_iast hx hb hK.1 hP hD hS 20 0 rfl rfl (i := x2_3) h_37 dB_36_0_22.1.2.2.1 (fun H locs hP hD hS => ?_)
                  obtain ⟨f_54, ef_54⟩ : ∃ g : Nat → Int32, g = upd c_c6_3 x2_3.toNatClampNeg r_52 := ⟨_, rfl⟩
                  refine pd_K (D := D) (cl := vwCl) (H := H) (A := A) [ob0_0_ xc xn xk clo cro c4 c5 c6 c7 c8, ob3_0_ xn vp vn n1 n2 n3 n4 n5, ai_ cy n1 40 fk, ai_ cy n2 40 fs, ai_ cy n3 40 fe, ai_ cy n4 40 fw, aq_ cy 6 clo 12 (gf_ rl), ai_ cy (rl 0) 12 (m_rl_3 0), ai_ cy (rl 1) 12 (m_rl_3 1), ai_ cy (rl 2) 12 (m_rl_3 2), ai_ cy (rl 3) 12 (m_rl_3 3), ai_ cy (rl 4) 12 (m_rl_3 4), ai_ cy (rl 5) 12 (m_rl_3 5), ai_ cy (rl 6) 12 (m_rl_3 6), ai_ cy (rl 7) 12 (m_rl_3 7), ai_ cy (rl 8) 12 (m_rl_3 8), ai_ cy (rl 9) 12 (m_rl_3 9), ai_ cy (rl 10) 12 (m_rl_3 10), ai_ cy (rl 11) 12 (m_rl_3 11), ai_ cy c5 40 f_50, ai_ cy c6 40 f_54, aq_ cy 3 xk 5 (kf_ k0 k1 k2 k3 k4), ob6_0_ k0, ob5_0_ k1, ob9_0_ k2, ob2_0_ k3, ob8_0_ k4] (by rw [ef_54]; exact hP) (by rw [ef_54]; exact hD) (fun hP hD => ?_)
                  exact JOIN_11 f_50 f_54 _ _ _ ⟨hP, hD⟩ hS (lv_sub hl [2, 3, 4] rfl)
                · refine va_aldq hx hb hK.1 hP 21 3 rfl rfl (i := 2) (by unfold vp_in; decide) dB_36_0_21.1.1.2.2 ?_
                  refine lv_topv (v' := .ref k2) (by simp [va_up, va_rf, mf_, cl_0, cl_1, cl_2, cl_3, cl_4, kf_]) ?_
                  refine lv_astore (lv' := [(4, .ref k2), (3, .int u0_10), (2, .int x2_3), (0, .ref xc), (1, .int a1)]) hx hb dB_36_0_21.1.2.1.1 hl (by decide) rfl (fun ls hl => ?_)
                  refine lv_aload_n hx hb dB_36_0_21.1.2.1.2 rfl (lv_at hl 3 rfl) ?_
                  refine va_get (ci := 0) (v := .ref c5) (C := RX0) (T := TX0) (N := 9) hx hb hts (fun _ h => List.mem_cons_of_mem _ (List.mem_append_left _ (List.mem_append_right _ h))) hown hK.1 hP 0 rfl rfl 5 (by decide) (hts (.fieldLink RX0 23 "CutAtlas$Current" "letsForth" "[I") (List.mem_of_getElem? (i := 8) rfl)) (fun _ h9 => h9) rfl dB_36_0_21.1.2.2.1 ?_
                  refine lv_iload_n hx hb dB_36_0_21.1.2.2.2 rfl (lv_at hl 2 rfl) ?_
                  refine lv_aload hx hb dB_36_0_21.2.1.1.1 (lv_at hl 0 rfl) ?_
                  refine lv_iload_n hx hb dB_36_0_21.2.1.1.2 rfl (lv_at hl 1 rfl) ?_
                  refine lv_iconst (v := 1) hx hb dB_36_0_21.2.1.2.1 (by decide) ?_
                  refine ct_R hP hD [] [] (by decide) rfl (fun hPc hDw => ?_)
                  have hFc := va_free (wc := []) hD hS hA [] rfl
                  refine va_calli (va_runU (As := [.int u0_10, .int 1]) (rest := [.int x2_3, .ref c5]) ⟨hx, hb, hml, hown, hts⟩ (c_X9_lets l D cy H.size k2 u0_10 (1 : Int32)) (va_cwO 2 hts gX0_load_X9_lets_u67X9 rfl rfl rfl (b0 := cX6_lets) (m0 := 3) (r0 := (some .int)) (by decide +kernel) (by decide +kernel) ⟨Nat.le_of_ble_eq_true rfl, Nat.le_of_ble_eq_true rfl⟩) ⟨bl_, va_recvX hK.1 hP (ci := 9) (q0 := 24) rfl rfl, fun U hU hW => ⟨rfl, by rw [hU], by rw [hU]; exact hPc, kk_mv hW hK, hDw⟩⟩ rfl rfl hl.1 rfl (lv_room (Nat.le_of_ble_eq_true rfl)) dB_36_0_21.2.1.2.2 ⟨Nat.le_of_ble_eq_true rfl, Nat.le_of_ble_eq_true rfl⟩) hS (fun q _ h => hFc q h) hFc (fun r_55 u t H locs ht hvm hw hB hz1 hk1 hS => ?_)
                  have hP : va_P D vwCl _ H := ro_keep hP hk1
                  refine ct_R hP hD [] [] (by decide) rfl (fun hPc hDw => ?_)
                  have hFc := va_free (wc := []) hD hS hA [] rfl
                  refine va_calli (va_runS (As := [.int r_55]) (rest := [.int x2_3, .ref c5]) ⟨hx, hb, hml, hown, hts⟩ (c_X0_asRoom l D cy H.size r_55) (va_cwS 1 hts gX0_load_X0_asRoom rfl rfl rfl hd_X0_asRoom ⟨Nat.le_of_ble_eq_true rfl, Nat.le_of_ble_eq_true rfl⟩) ⟨bl_, fun U hU hW => ⟨rfl, by rw [hU], by rw [hU]; exact hPc, kk_mv hW hK, hDw⟩⟩ rfl rfl hl.1 rfl (lv_room (Nat.le_of_ble_eq_true rfl)) dB_36_0_21.2.2.1.1 ⟨Nat.le_of_ble_eq_true rfl, Nat.le_of_ble_eq_true rfl⟩) hS (fun q _ h => hFc q h) hFc (fun r_56 u t H locs ht hvm hw hB hz1 hk1 hS => ?_)
                  have hP : va_P D vwCl _ H := ro_keep hP hk1
                  refine va_iast hx hb hK.1 hP hD hS 19 0 rfl rfl (i := x2_3) h_37 dB_36_0_21.2.2.1.2 (fun H locs hP hD hS => ?_)
                  obtain ⟨f_58, ef_58⟩ : ∃ g : Nat → Int32, g = upd c_c5_3 x2_3.toNatClampNeg r_56 := ⟨_, rfl⟩
                  refine pd_K (D := D) (cl := vwCl) (H := H) (A := A) [ob0_0_ xc xn xk clo cro c4 c5 c6 c7 c8, ob3_0_ xn vp vn n1 n2 n3 n4 n5, ai_ cy n1 40 fk, ai_ cy n2 40 fs, ai_ cy n3 40 fe, ai_ cy n4 40 fw, aq_ cy 6 clo 12 (gf_ rl), ai_ cy (rl 0) 12 (m_rl_3 0), ai_ cy (rl 1) 12 (m_rl_3 1), ai_ cy (rl 2) 12 (m_rl_3 2), ai_ cy (rl 3) 12 (m_rl_3 3), ai_ cy (rl 4) 12 (m_rl_3 4), ai_ cy (rl 5) 12 (m_rl_3 5), ai_ cy (rl 6) 12 (m_rl_3 6), ai_ cy (rl 7) 12 (m_rl_3 7), ai_ cy (rl 8) 12 (m_rl_3 8), ai_ cy (rl 9) 12 (m_rl_3 9), ai_ cy (rl 10) 12 (m_rl_3 10), ai_ cy (rl 11) 12 (m_rl_3 11), ai_ cy c5 40 f_58, ai_ cy c6 40 c_c6_3, aq_ cy 3 xk 5 (kf_ k0 k1 k2 k3 k4), ob6_0_ k0, ob5_0_ k1, ob9_0_ k2, ob2_0_ k3, ob8_0_ k4] (by rw [ef_58]; exact hP) (by rw [ef_58]; exact hD) (fun hP hD => ?_)
                  refine lv_aload_n hx hb dB_36_0_21.2.2.2.1 rfl (lv_at hl 3 rfl) ?_
                  refine va_get (ci := 0) (v := .ref c6) (C := RX0) (T := TX0) (N := 9) hx hb hts (fun _ h => List.mem_cons_of_mem _ (List.mem_append_left _ (List.mem_append_right _ h))) hown hK.1 hP 0 rfl rfl 6 (by decide) (hts (.fieldLink RX0 26 "CutAtlas$Current" "letsBack" "[I") (List.mem_of_getElem? (i := 9) rfl)) (fun _ h9 => h9) rfl dB_36_0_21.2.2.2.2 ?_
                  refine lv_iload_n hx hb dB_36_0_22.1.1.1.1 rfl (lv_at hl 2 rfl) ?_
                  refine lv_aload hx hb dB_36_0_22.1.1.1.2 (lv_at hl 0 rfl) ?_
                  refine lv_iload_n hx hb dB_36_0_22.1.1.2.1 rfl (lv_at hl 1 rfl) ?_
                  refine lv_iconst (v := 0) hx hb dB_36_0_22.1.1.2.2 (by decide) ?_
                  refine ct_R hP hD [] [] (by decide) rfl (fun hPc hDw => ?_)
                  have hFc := va_free (wc := []) hD hS hA [] rfl
                  refine va_calli (va_runU (As := [.int u0_10, .int 0]) (rest := [.int x2_3, .ref c6]) ⟨hx, hb, hml, hown, hts⟩ (c_X9_lets l D cy H.size k2 u0_10 (0 : Int32)) (va_cwO 2 hts gX0_load_X9_lets_u67X9 rfl rfl rfl (b0 := cX6_lets) (m0 := 3) (r0 := (some .int)) (by decide +kernel) (by decide +kernel) ⟨Nat.le_of_ble_eq_true rfl, Nat.le_of_ble_eq_true rfl⟩) ⟨bl_, va_recvX hK.1 hP (ci := 9) (q0 := 24) rfl rfl, fun U hU hW => ⟨rfl, by rw [hU], by rw [hU]; exact hPc, kk_mv hW hK, hDw⟩⟩ rfl rfl hl.1 rfl (lv_room (Nat.le_of_ble_eq_true rfl)) dB_36_0_22.1.2.1.1 ⟨Nat.le_of_ble_eq_true rfl, Nat.le_of_ble_eq_true rfl⟩) hS (fun q _ h => hFc q h) hFc (fun r_59 u t H locs ht hvm hw hB hz1 hk1 hS => ?_)
                  have hP : va_P D vwCl _ H := ro_keep hP hk1
                  refine ct_R hP hD [] [] (by decide) rfl (fun hPc hDw => ?_)
                  have hFc := va_free (wc := []) hD hS hA [] rfl
                  refine va_calli (va_runS (As := [.int r_59]) (rest := [.int x2_3, .ref c6]) ⟨hx, hb, hml, hown, hts⟩ (c_X0_asRoom l D cy H.size r_59) (va_cwS 1 hts gX0_load_X0_asRoom rfl rfl rfl hd_X0_asRoom ⟨Nat.le_of_ble_eq_true rfl, Nat.le_of_ble_eq_true rfl⟩) ⟨bl_, fun U hU hW => ⟨rfl, by rw [hU], by rw [hU]; exact hPc, kk_mv hW hK, hDw⟩⟩ rfl rfl hl.1 rfl (lv_room (Nat.le_of_ble_eq_true rfl)) dB_36_0_22.1.2.1.2 ⟨Nat.le_of_ble_eq_true rfl, Nat.le_of_ble_eq_true rfl⟩) hS (fun q _ h => hFc q h) hFc (fun r_60 u t H locs ht hvm hw hB hz1 hk1 hS => ?_)
                  have hP : va_P D vwCl _ H := ro_keep hP hk1
                  refine va_iast hx hb hK.1 hP hD hS 20 0 rfl rfl (i := x2_3) h_37 dB_36_0_22.1.2.2.1 (fun H locs hP hD hS => ?_)
                  obtain ⟨f_62, ef_62⟩ : ∃ g : Nat → Int32, g = upd c_c6_3 x2_3.toNatClampNeg r_60 := ⟨_, rfl⟩
                  refine pd_K (D := D) (cl := vwCl) (H := H) (A := A) [ob0_0_ xc xn xk clo cro c4 c5 c6 c7 c8, ob3_0_ xn vp vn n1 n2 n3 n4 n5, ai_ cy n1 40 fk, ai_ cy n2 40 fs, ai_ cy n3 40 fe, ai_ cy n4 40 fw, aq_ cy 6 clo 12 (gf_ rl), ai_ cy (rl 0) 12 (m_rl_3 0), ai_ cy (rl 1) 12 (m_rl_3 1), ai_ cy (rl 2) 12 (m_rl_3 2), ai_ cy (rl 3) 12 (m_rl_3 3), ai_ cy (rl 4) 12 (m_rl_3 4), ai_ cy (rl 5) 12 (m_rl_3 5), ai_ cy (rl 6) 12 (m_rl_3 6), ai_ cy (rl 7) 12 (m_rl_3 7), ai_ cy (rl 8) 12 (m_rl_3 8), ai_ cy (rl 9) 12 (m_rl_3 9), ai_ cy (rl 10) 12 (m_rl_3 10), ai_ cy (rl 11) 12 (m_rl_3 11), ai_ cy c5 40 f_58, ai_ cy c6 40 f_62, aq_ cy 3 xk 5 (kf_ k0 k1 k2 k3 k4), ob6_0_ k0, ob5_0_ k1, ob9_0_ k2, ob2_0_ k3, ob8_0_ k4] (by rw [ef_62]; exact hP) (by rw [ef_62]; exact hD) (fun hP hD => ?_)
                  exact JOIN_11 f_58 f_62 _ _ _ ⟨hP, hD⟩ hS (lv_sub hl [2, 3, 4] rfl)
                · refine va_aldq hx hb hK.1 hP 21 3 rfl rfl (i := 3) (by unfold vp_in; decide) dB_36_0_21.1.1.2.2 ?_
                  refine lv_topv (v' := .ref k3) (by simp [va_up, va_rf, mf_, cl_0, cl_1, cl_2, cl_3, cl_4, kf_]) ?_
                  refine lv_astore (lv' := [(4, .ref k3), (3, .int u0_10), (2, .int x2_3), (0, .ref xc), (1, .int a1)]) hx hb dB_36_0_21.1.2.1.1 hl (by decide) rfl (fun ls hl => ?_)
                  refine lv_aload_n hx hb dB_36_0_21.1.2.1.2 rfl (lv_at hl 3 rfl) ?_
                  refine va_get (ci := 0) (v := .ref c5) (C := RX0) (T := TX0) (N := 9) hx hb hts (fun _ h => List.mem_cons_of_mem _ (List.mem_append_left _ (List.mem_append_right _ h))) hown hK.1 hP 0 rfl rfl 5 (by decide) (hts (.fieldLink RX0 23 "CutAtlas$Current" "letsForth" "[I") (List.mem_of_getElem? (i := 8) rfl)) (fun _ h9 => h9) rfl dB_36_0_21.1.2.2.1 ?_
                  refine lv_iload_n hx hb dB_36_0_21.1.2.2.2 rfl (lv_at hl 2 rfl) ?_
                  refine lv_aload hx hb dB_36_0_21.2.1.1.1 (lv_at hl 0 rfl) ?_
                  refine lv_iload_n hx hb dB_36_0_21.2.1.1.2 rfl (lv_at hl 1 rfl) ?_
                  refine lv_iconst (v := 1) hx hb dB_36_0_21.2.1.2.1 (by decide) ?_
                  refine ct_R hP hD [] [] (by decide) rfl (fun hPc hDw => ?_)
                  have hFc := va_free (wc := []) hD hS hA [] rfl
                  refine va_calli (va_runU (As := [.int u0_10, .int 1]) (rest := [.int x2_3, .ref c5]) ⟨hx, hb, hml, hown, hts⟩ (c_X6_lets l D cy H.size k3 u0_10 (1 : Int32)) (va_cwU 2 hts gX0_load_X6_lets_u67X2 rfl rfl rfl rfl (by decide +kernel) ⟨Nat.le_of_ble_eq_true rfl, Nat.le_of_ble_eq_true rfl⟩) ⟨bl_, va_recvX hK.1 hP (ci := 2) (q0 := 25) rfl rfl, fun U hU hW => ⟨rfl, by rw [hU], by rw [hU]; exact hPc, kk_mv hW hK, hDw⟩⟩ rfl rfl hl.1 rfl (lv_room (Nat.le_of_ble_eq_true rfl)) dB_36_0_21.2.1.2.2 ⟨Nat.le_of_ble_eq_true rfl, Nat.le_of_ble_eq_true rfl⟩) hS (fun q _ h => hFc q h) hFc (fun r_63 u t H locs ht hvm hw hB hz1 hk1 hS => ?_)
                  have hP : va_P D vwCl _ H := ro_keep hP hk1
                  have f0_r_63 := hw
                  refine ct_R hP hD [] [] (by decide) rfl (fun hPc hDw => ?_)
                  have hFc := va_free (wc := []) hD hS hA [] rfl
                  refine va_calli (va_runS (As := [.int r_63]) (rest := [.int x2_3, .ref c5]) ⟨hx, hb, hml, hown, hts⟩ (c_X0_asRoom l D cy H.size r_63) (va_cwS 1 hts gX0_load_X0_asRoom rfl rfl rfl hd_X0_asRoom ⟨Nat.le_of_ble_eq_true rfl, Nat.le_of_ble_eq_true rfl⟩) ⟨bl_, fun U hU hW => ⟨rfl, by rw [hU], by rw [hU]; exact hPc, kk_mv hW hK, hDw⟩⟩ rfl rfl hl.1 rfl (lv_room (Nat.le_of_ble_eq_true rfl)) dB_36_0_21.2.2.1.1 ⟨Nat.le_of_ble_eq_true rfl, Nat.le_of_ble_eq_true rfl⟩) hS (fun q _ h => hFc q h) hFc (fun r_64 u t H locs ht hvm hw hB hz1 hk1 hS => ?_)
                  have hP : va_P D vwCl _ H := ro_keep hP hk1
                  refine va_iast hx hb hK.1 hP hD hS 19 0 rfl rfl (i := x2_3) h_37 dB_36_0_21.2.2.1.2 (fun H locs hP hD hS => ?_)
                  obtain ⟨f_66, ef_66⟩ : ∃ g : Nat → Int32, g = upd c_c5_3 x2_3.toNatClampNeg r_64 := ⟨_, rfl⟩
                  refine pd_K (D := D) (cl := vwCl) (H := H) (A := A) [ob0_0_ xc xn xk clo cro c4 c5 c6 c7 c8, ob3_0_ xn vp vn n1 n2 n3 n4 n5, ai_ cy n1 40 fk, ai_ cy n2 40 fs, ai_ cy n3 40 fe, ai_ cy n4 40 fw, aq_ cy 6 clo 12 (gf_ rl), ai_ cy (rl 0) 12 (m_rl_3 0), ai_ cy (rl 1) 12 (m_rl_3 1), ai_ cy (rl 2) 12 (m_rl_3 2), ai_ cy (rl 3) 12 (m_rl_3 3), ai_ cy (rl 4) 12 (m_rl_3 4), ai_ cy (rl 5) 12 (m_rl_3 5), ai_ cy (rl 6) 12 (m_rl_3 6), ai_ cy (rl 7) 12 (m_rl_3 7), ai_ cy (rl 8) 12 (m_rl_3 8), ai_ cy (rl 9) 12 (m_rl_3 9), ai_ cy (rl 10) 12 (m_rl_3 10), ai_ cy (rl 11) 12 (m_rl_3 11), ai_ cy c5 40 f_66, ai_ cy c6 40 c_c6_3, aq_ cy 3 xk 5 (kf_ k0 k1 k2 k3 k4), ob6_0_ k0, ob5_0_ k1, ob9_0_ k2, ob2_0_ k3, ob8_0_ k4] (by rw [ef_66]; exact hP) (by rw [ef_66]; exact hD) (fun hP hD => ?_)
                  refine lv_aload_n hx hb dB_36_0_21.2.2.2.1 rfl (lv_at hl 3 rfl) ?_
                  refine va_get (ci := 0) (v := .ref c6) (C := RX0) (T := TX0) (N := 9) hx hb hts (fun _ h => List.mem_cons_of_mem _ (List.mem_append_left _ (List.mem_append_right _ h))) hown hK.1 hP 0 rfl rfl 6 (by decide) (hts (.fieldLink RX0 26 "CutAtlas$Current" "letsBack" "[I") (List.mem_of_getElem? (i := 9) rfl)) (fun _ h9 => h9) rfl dB_36_0_21.2.2.2.2 ?_
                  refine lv_iload_n hx hb dB_36_0_22.1.1.1.1 rfl (lv_at hl 2 rfl) ?_
                  refine lv_aload hx hb dB_36_0_22.1.1.1.2 (lv_at hl 0 rfl) ?_
                  refine lv_iload_n hx hb dB_36_0_22.1.1.2.1 rfl (lv_at hl 1 rfl) ?_
                  refine lv_iconst (v := 0) hx hb dB_36_0_22.1.1.2.2 (by decide) ?_
                  refine ct_R hP hD [] [] (by decide) rfl (fun hPc hDw => ?_)
                  have hFc := va_free (wc := []) hD hS hA [] rfl
                  refine va_calli (va_runU (As := [.int u0_10, .int 0]) (rest := [.int x2_3, .ref c6]) ⟨hx, hb, hml, hown, hts⟩ (c_X6_lets l D cy H.size k3 u0_10 (0 : Int32)) (va_cwU 2 hts gX0_load_X6_lets_u67X2 rfl rfl rfl rfl (by decide +kernel) ⟨Nat.le_of_ble_eq_true rfl, Nat.le_of_ble_eq_true rfl⟩) ⟨bl_, va_recvX hK.1 hP (ci := 2) (q0 := 25) rfl rfl, fun U hU hW => ⟨rfl, by rw [hU], by rw [hU]; exact hPc, kk_mv hW hK, hDw⟩⟩ rfl rfl hl.1 rfl (lv_room (Nat.le_of_ble_eq_true rfl)) dB_36_0_22.1.2.1.1 ⟨Nat.le_of_ble_eq_true rfl, Nat.le_of_ble_eq_true rfl⟩) hS (fun q _ h => hFc q h) hFc (fun r_67 u t H locs ht hvm hw hB hz1 hk1 hS => ?_)
                  have hP : va_P D vwCl _ H := ro_keep hP hk1
                  have f0_r_67 := hw
                  refine ct_R hP hD [] [] (by decide) rfl (fun hPc hDw => ?_)
                  have hFc := va_free (wc := []) hD hS hA [] rfl
                  refine va_calli (va_runS (As := [.int r_67]) (rest := [.int x2_3, .ref c6]) ⟨hx, hb, hml, hown, hts⟩ (c_X0_asRoom l D cy H.size r_67) (va_cwS 1 hts gX0_load_X0_asRoom rfl rfl rfl hd_X0_asRoom ⟨Nat.le_of_ble_eq_true rfl, Nat.le_of_ble_eq_true rfl⟩) ⟨bl_, fun U hU hW => ⟨rfl, by rw [hU], by rw [hU]; exact hPc, kk_mv hW hK, hDw⟩⟩ rfl rfl hl.1 rfl (lv_room (Nat.le_of_ble_eq_true rfl)) dB_36_0_22.1.2.1.2 ⟨Nat.le_of_ble_eq_true rfl, Nat.le_of_ble_eq_true rfl⟩) hS (fun q _ h => hFc q h) hFc (fun r_68 u t H locs ht hvm hw hB hz1 hk1 hS => ?_)
                  have hP : va_P D vwCl _ H := ro_keep hP hk1
                  refine va_iast hx hb hK.1 hP hD hS 20 0 rfl rfl (i := x2_3) h_37 dB_36_0_22.1.2.2.1 (fun H locs hP hD hS => ?_)
                  obtain ⟨f_70, ef_70⟩ : ∃ g : Nat → Int32, g = upd c_c6_3 x2_3.toNatClampNeg r_68 := ⟨_, rfl⟩
                  refine pd_K (D := D) (cl := vwCl) (H := H) (A := A) [ob0_0_ xc xn xk clo cro c4 c5 c6 c7 c8, ob3_0_ xn vp vn n1 n2 n3 n4 n5, ai_ cy n1 40 fk, ai_ cy n2 40 fs, ai_ cy n3 40 fe, ai_ cy n4 40 fw, aq_ cy 6 clo 12 (gf_ rl), ai_ cy (rl 0) 12 (m_rl_3 0), ai_ cy (rl 1) 12 (m_rl_3 1), ai_ cy (rl 2) 12 (m_rl_3 2), ai_ cy (rl 3) 12 (m_rl_3 3), ai_ cy (rl 4) 12 (m_rl_3 4), ai_ cy (rl 5) 12 (m_rl_3 5), ai_ cy (rl 6) 12 (m_rl_3 6), ai_ cy (rl 7) 12 (m_rl_3 7), ai_ cy (rl 8) 12 (m_rl_3 8), ai_ cy (rl 9) 12 (m_rl_3 9), ai_ cy (rl 10) 12 (m_rl_3 10), ai_ cy (rl 11) 12 (m_rl_3 11), ai_ cy c5 40 f_66, ai_ cy c6 40 f_70, aq_ cy 3 xk 5 (kf_ k0 k1 k2 k3 k4), ob6_0_ k0, ob5_0_ k1, ob9_0_ k2, ob2_0_ k3, ob8_0_ k4] (by rw [ef_70]; exact hP) (by rw [ef_70]; exact hD) (fun hP hD => ?_)
                  exact JOIN_11 f_66 f_70 _ _ _ ⟨hP, hD⟩ hS (lv_sub hl [2, 3, 4] rfl)
                · refine va_aldq hx hb hK.1 hP 21 3 rfl rfl (i := 4) (by unfold vp_in; decide) dB_36_0_21.1.1.2.2 ?_
                  refine lv_topv (v' := .ref k4) (by simp [va_up, va_rf, mf_, cl_0, cl_1, cl_2, cl_3, cl_4, kf_]) ?_
                  refine lv_astore (lv' := [(4, .ref k4), (3, .int u0_10), (2, .int x2_3), (0, .ref xc), (1, .int a1)]) hx hb dB_36_0_21.1.2.1.1 hl (by decide) rfl (fun ls hl => ?_)
                  refine lv_aload_n hx hb dB_36_0_21.1.2.1.2 rfl (lv_at hl 3 rfl) ?_
                  refine va_get (ci := 0) (v := .ref c5) (C := RX0) (T := TX0) (N := 9) hx hb hts (fun _ h => List.mem_cons_of_mem _ (List.mem_append_left _ (List.mem_append_right _ h))) hown hK.1 hP 0 rfl rfl 5 (by decide) (hts (.fieldLink RX0 23 "CutAtlas$Current" "letsForth" "[I") (List.mem_of_getElem? (i := 8) rfl)) (fun _ h9 => h9) rfl dB_36_0_21.1.2.2.1 ?_
                  refine lv_iload_n hx hb dB_36_0_21.1.2.2.2 rfl (lv_at hl 2 rfl) ?_
                  refine lv_aload hx hb dB_36_0_21.2.1.1.1 (lv_at hl 0 rfl) ?_
                  refine lv_iload_n hx hb dB_36_0_21.2.1.1.2 rfl (lv_at hl 1 rfl) ?_
                  refine lv_iconst (v := 1) hx hb dB_36_0_21.2.1.2.1 (by decide) ?_
                  refine ct_R hP hD [] [] (by decide) rfl (fun hPc hDw => ?_)
                  have hFc := va_free (wc := []) hD hS hA [] rfl
                  refine va_calli (va_runU (As := [.int u0_10, .int 1]) (rest := [.int x2_3, .ref c5]) ⟨hx, hb, hml, hown, hts⟩ (c_X6_lets l D cy H.size k4 u0_10 (1 : Int32)) (va_cwU 2 hts gX0_load_X6_lets_u67X8 rfl rfl rfl rfl (by decide +kernel) ⟨Nat.le_of_ble_eq_true rfl, Nat.le_of_ble_eq_true rfl⟩) ⟨bl_, va_recvX hK.1 hP (ci := 8) (q0 := 26) rfl rfl, fun U hU hW => ⟨rfl, by rw [hU], by rw [hU]; exact hPc, kk_mv hW hK, hDw⟩⟩ rfl rfl hl.1 rfl (lv_room (Nat.le_of_ble_eq_true rfl)) dB_36_0_21.2.1.2.2 ⟨Nat.le_of_ble_eq_true rfl, Nat.le_of_ble_eq_true rfl⟩) hS (fun q _ h => hFc q h) hFc (fun r_71 u t H locs ht hvm hw hB hz1 hk1 hS => ?_)
                  have hP : va_P D vwCl _ H := ro_keep hP hk1
                  have f0_r_71 := hw
                  refine ct_R hP hD [] [] (by decide) rfl (fun hPc hDw => ?_)
                  have hFc := va_free (wc := []) hD hS hA [] rfl
                  refine va_calli (va_runS (As := [.int r_71]) (rest := [.int x2_3, .ref c5]) ⟨hx, hb, hml, hown, hts⟩ (c_X0_asRoom l D cy H.size r_71) (va_cwS 1 hts gX0_load_X0_asRoom rfl rfl rfl hd_X0_asRoom ⟨Nat.le_of_ble_eq_true rfl, Nat.le_of_ble_eq_true rfl⟩) ⟨bl_, fun U hU hW => ⟨rfl, by rw [hU], by rw [hU]; exact hPc, kk_mv hW hK, hDw⟩⟩ rfl rfl hl.1 rfl (lv_room (Nat.le_of_ble_eq_true rfl)) dB_36_0_21.2.2.1.1 ⟨Nat.le_of_ble_eq_true rfl, Nat.le_of_ble_eq_true rfl⟩) hS (fun q _ h => hFc q h) hFc (fun r_72 u t H locs ht hvm hw hB hz1 hk1 hS => ?_)
                  have hP : va_P D vwCl _ H := ro_keep hP hk1
                  refine va_iast hx hb hK.1 hP hD hS 19 0 rfl rfl (i := x2_3) h_37 dB_36_0_21.2.2.1.2 (fun H locs hP hD hS => ?_)
                  obtain ⟨f_74, ef_74⟩ : ∃ g : Nat → Int32, g = upd c_c5_3 x2_3.toNatClampNeg r_72 := ⟨_, rfl⟩
                  refine pd_K (D := D) (cl := vwCl) (H := H) (A := A) [ob0_0_ xc xn xk clo cro c4 c5 c6 c7 c8, ob3_0_ xn vp vn n1 n2 n3 n4 n5, ai_ cy n1 40 fk, ai_ cy n2 40 fs, ai_ cy n3 40 fe, ai_ cy n4 40 fw, aq_ cy 6 clo 12 (gf_ rl), ai_ cy (rl 0) 12 (m_rl_3 0), ai_ cy (rl 1) 12 (m_rl_3 1), ai_ cy (rl 2) 12 (m_rl_3 2), ai_ cy (rl 3) 12 (m_rl_3 3), ai_ cy (rl 4) 12 (m_rl_3 4), ai_ cy (rl 5) 12 (m_rl_3 5), ai_ cy (rl 6) 12 (m_rl_3 6), ai_ cy (rl 7) 12 (m_rl_3 7), ai_ cy (rl 8) 12 (m_rl_3 8), ai_ cy (rl 9) 12 (m_rl_3 9), ai_ cy (rl 10) 12 (m_rl_3 10), ai_ cy (rl 11) 12 (m_rl_3 11), ai_ cy c5 40 f_74, ai_ cy c6 40 c_c6_3, aq_ cy 3 xk 5 (kf_ k0 k1 k2 k3 k4), ob6_0_ k0, ob5_0_ k1, ob9_0_ k2, ob2_0_ k3, ob8_0_ k4] (by rw [ef_74]; exact hP) (by rw [ef_74]; exact hD) (fun hP hD => ?_)
                  refine lv_aload_n hx hb dB_36_0_21.2.2.2.1 rfl (lv_at hl 3 rfl) ?_
                  refine va_get (ci := 0) (v := .ref c6) (C := RX0) (T := TX0) (N := 9) hx hb hts (fun _ h => List.mem_cons_of_mem _ (List.mem_append_left _ (List.mem_append_right _ h))) hown hK.1 hP 0 rfl rfl 6 (by decide) (hts (.fieldLink RX0 26 "CutAtlas$Current" "letsBack" "[I") (List.mem_of_getElem? (i := 9) rfl)) (fun _ h9 => h9) rfl dB_36_0_21.2.2.2.2 ?_
                  refine lv_iload_n hx hb dB_36_0_22.1.1.1.1 rfl (lv_at hl 2 rfl) ?_
                  refine lv_aload hx hb dB_36_0_22.1.1.1.2 (lv_at hl 0 rfl) ?_
                  refine lv_iload_n hx hb dB_36_0_22.1.1.2.1 rfl (lv_at hl 1 rfl) ?_
                  refine lv_iconst (v := 0) hx hb dB_36_0_22.1.1.2.2 (by decide) ?_
                  refine ct_R hP hD [] [] (by decide) rfl (fun hPc hDw => ?_)
                  have hFc := va_free (wc := []) hD hS hA [] rfl
                  refine va_calli (va_runU (As := [.int u0_10, .int 0]) (rest := [.int x2_3, .ref c6]) ⟨hx, hb, hml, hown, hts⟩ (c_X6_lets l D cy H.size k4 u0_10 (0 : Int32)) (va_cwU 2 hts gX0_load_X6_lets_u67X8 rfl rfl rfl rfl (by decide +kernel) ⟨Nat.le_of_ble_eq_true rfl, Nat.le_of_ble_eq_true rfl⟩) ⟨bl_, va_recvX hK.1 hP (ci := 8) (q0 := 26) rfl rfl, fun U hU hW => ⟨rfl, by rw [hU], by rw [hU]; exact hPc, kk_mv hW hK, hDw⟩⟩ rfl rfl hl.1 rfl (lv_room (Nat.le_of_ble_eq_true rfl)) dB_36_0_22.1.2.1.1 ⟨Nat.le_of_ble_eq_true rfl, Nat.le_of_ble_eq_true rfl⟩) hS (fun q _ h => hFc q h) hFc (fun r_75 u t H locs ht hvm hw hB hz1 hk1 hS => ?_)
                  have hP : va_P D vwCl _ H := ro_keep hP hk1
                  have f0_r_75 := hw
                  refine ct_R hP hD [] [] (by decide) rfl (fun hPc hDw => ?_)
                  have hFc := va_free (wc := []) hD hS hA [] rfl
                  refine va_calli (va_runS (As := [.int r_75]) (rest := [.int x2_3, .ref c6]) ⟨hx, hb, hml, hown, hts⟩ (c_X0_asRoom l D cy H.size r_75) (va_cwS 1 hts gX0_load_X0_asRoom rfl rfl rfl hd_X0_asRoom ⟨Nat.le_of_ble_eq_true rfl, Nat.le_of_ble_eq_true rfl⟩) ⟨bl_, fun U hU hW => ⟨rfl, by rw [hU], by rw [hU]; exact hPc, kk_mv hW hK, hDw⟩⟩ rfl rfl hl.1 rfl (lv_room (Nat.le_of_ble_eq_true rfl)) dB_36_0_22.1.2.1.2 ⟨Nat.le_of_ble_eq_true rfl, Nat.le_of_ble_eq_true rfl⟩) hS (fun q _ h => hFc q h) hFc (fun r_76 u t H locs ht hvm hw hB hz1 hk1 hS => ?_)
                  have hP : va_P D vwCl _ H := ro_keep hP hk1
                  refine va_iast hx hb hK.1 hP hD hS 20 0 rfl rfl (i := x2_3) h_37 dB_36_0_22.1.2.2.1 (fun H locs hP hD hS => ?_)
                  obtain ⟨f_78, ef_78⟩ : ∃ g : Nat → Int32, g = upd c_c6_3 x2_3.toNatClampNeg r_76 := ⟨_, rfl⟩
                  refine pd_K (D := D) (cl := vwCl) (H := H) (A := A) [ob0_0_ xc xn xk clo cro c4 c5 c6 c7 c8, ob3_0_ xn vp vn n1 n2 n3 n4 n5, ai_ cy n1 40 fk, ai_ cy n2 40 fs, ai_ cy n3 40 fe, ai_ cy n4 40 fw, aq_ cy 6 clo 12 (gf_ rl), ai_ cy (rl 0) 12 (m_rl_3 0), ai_ cy (rl 1) 12 (m_rl_3 1), ai_ cy (rl 2) 12 (m_rl_3 2), ai_ cy (rl 3) 12 (m_rl_3 3), ai_ cy (rl 4) 12 (m_rl_3 4), ai_ cy (rl 5) 12 (m_rl_3 5), ai_ cy (rl 6) 12 (m_rl_3 6), ai_ cy (rl 7) 12 (m_rl_3 7), ai_ cy (rl 8) 12 (m_rl_3 8), ai_ cy (rl 9) 12 (m_rl_3 9), ai_ cy (rl 10) 12 (m_rl_3 10), ai_ cy (rl 11) 12 (m_rl_3 11), ai_ cy c5 40 f_74, ai_ cy c6 40 f_78, aq_ cy 3 xk 5 (kf_ k0 k1 k2 k3 k4), ob6_0_ k0, ob5_0_ k1, ob9_0_ k2, ob2_0_ k3, ob8_0_ k4] (by rw [ef_78]; exact hP) (by rw [ef_78]; exact hD) (fun hP hD => ?_)
                  exact JOIN_11 f_74 f_78 _ _ _ ⟨hP, hD⟩ hS (lv_sub hl [2, 3, 4] rfl)
              refine lv_iload_n hx hb dB_36_0_19.2.1.2.2 rfl (lv_at hl 0 rfl) ?_
              refine lv_iload_n hx hb dB_36_0_19.2.2.1.1 rfl (lv_at hl 2 rfl) ?_
              refine lv_icmp_ne (tgt := 72) hx hb dB_36_0_19.2.2.1.2 (by decide) (fun c_79 => ?_) (fun c_79 => ?_)
              · have t_79 : ¬ x2_3.toInt = a1.toInt := fun h => c_79 (Int32.toInt_inj.mp h)
                refine lv_aload_n hx hb dB_36_0_20.1.2.2.1 rfl (lv_at hl 1 rfl) ?_
                refine va_get (ci := 0) (v := .ref xn) (C := RX0) (T := TX0) (N := 9) hx hb hts (fun _ h => List.mem_cons_of_mem _ (List.mem_append_left _ (List.mem_append_right _ h))) hown hK.1 hP 0 rfl rfl 0 (by decide) (hts (.fieldLink RX0 35 "CutAtlas$Current" "net" "LCutAtlas$Net;") (List.mem_of_getElem? (i := 1) rfl)) (fun _ h9 => h9) rfl dB_36_0_20.1.2.2.2 ?_
                refine va_get (ci := 3) (v := .ref n4) (C := RX3) (T := TX3) (N := 7) hx hb hts (fun _ h => List.mem_cons_of_mem _ (List.mem_append_right _ h)) hown hK.1 hP 1 rfl rfl 5 (by decide) (hts (.fieldLink RX0 62 "CutAtlas$Net" "widths" "[I") (List.mem_of_getElem? (i := 5) rfl)) (fun _ h9 => h9) rfl dB_36_0_20.2.1.1.1 ?_
                refine lv_iload_n hx hb dB_36_0_20.2.1.1.2 rfl (lv_at hl 0 rfl) ?_
                have h_80 : vp_in x2_3 40 := in_I (by first | with_reducible assumption | omega) (by omega)
                refine va_iald hx hb hK.1 hP 5 0 rfl rfl (i := x2_3) h_80 dB_36_0_20.2.1.2.1 ?_
                refine lv_topi (fun y_81 ey_81 => ?_)
                exact JOIN_10 y_81 _ _ _ ⟨hP, hD⟩ hS (lv_sub hl [0, 1, 2] rfl)
              · have t_79 : x2_3.toInt = a1.toInt := congrArg Int32.toInt c_79
                refine lv_aload_n hx hb dB_36_0_19.2.2.2.1 rfl (lv_at hl 1 rfl) ?_
                refine va_get (ci := 0) (v := .ref xn) (C := RX0) (T := TX0) (N := 9) hx hb hts (fun _ h => List.mem_cons_of_mem _ (List.mem_append_left _ (List.mem_append_right _ h))) hown hK.1 hP 0 rfl rfl 0 (by decide) (hts (.fieldLink RX0 35 "CutAtlas$Current" "net" "LCutAtlas$Net;") (List.mem_of_getElem? (i := 1) rfl)) (fun _ h9 => h9) rfl dB_36_0_19.2.2.2.2 ?_
                refine va_get (ci := 3) (v := .ref n4) (C := RX3) (T := TX3) (N := 7) hx hb hts (fun _ h => List.mem_cons_of_mem _ (List.mem_append_right _ h)) hown hK.1 hP 1 rfl rfl 5 (by decide) (hts (.fieldLink RX0 62 "CutAtlas$Net" "widths" "[I") (List.mem_of_getElem? (i := 5) rfl)) (fun _ h9 => h9) rfl dB_36_0_20.1.1.1.1 ?_
                refine lv_iload_n hx hb dB_36_0_20.1.1.1.2 rfl (lv_at hl 0 rfl) ?_
                have h_82 : vp_in x2_3 40 := in_I (by first | with_reducible assumption | omega) (by omega)
                refine va_iald hx hb hK.1 hP 5 0 rfl rfl (i := x2_3) h_82 dB_36_0_20.1.1.2.1 ?_
                refine lv_topi (fun y_83 ey_83 => ?_)
                refine lv_iconst (v := 1) hx hb dB_36_0_20.1.1.2.2 (by decide) ?_
                refine lv_iadd hx hb dB_36_0_20.1.2.1.1 ?_
                refine lv_topi (fun y_84 ey_84 => ?_)
                refine lv_goto (tgt := 81) hx hb dB_36_0_20.1.2.1.2 (by decide) ?_
                exact JOIN_10 y_84 _ _ _ ⟨hP, hD⟩ hS (lv_sub hl [0, 1, 2] rfl)
    · have t_2 : ¬ vp.toInt ≤ x2_1.toInt := fun h => c_2 (Int32.le_iff_toInt_le.mpr h)
      rcases sp_12 (x := x2_1) (by omega) with rfl | rfl | rfl | rfl | rfl | rfl | rfl | rfl | rfl | rfl | rfl | rfl
      · refine lv_aload_n hx hb dB_36_0_18.1.2.2.2 rfl (lv_at hl 1 rfl) ?_
        refine va_get (ci := 0) (v := .ref clo) (C := RX0) (T := TX0) (N := 9) hx hb hts (fun _ h => List.mem_cons_of_mem _ (List.mem_append_left _ (List.mem_append_right _ h))) hown hK.1 hP 0 rfl rfl 2 (by decide) (hts (.fieldLink RX0 11 "CutAtlas$Current" "lets" "[[I") (List.mem_of_getElem? (i := 3) rfl)) (fun _ h9 => h9) rfl dB_36_0_18.2.1.1.1 ?_
        refine lv_iload_n hx hb dB_36_0_18.2.1.1.2 rfl (lv_at hl 0 rfl) ?_
        have h_85 : vp_in (0 : Int32) 12 := by unfold vp_in; decide
        refine va_alda hx hb hG hP 6 rfl (i := 0) h_85 dB_36_0_18.2.1.2.1 ?_
        refine lv_topv (v' := .ref (rl 0)) (gf_at h_85) ?_
        refine lv_iconst (v := 0) hx hb dB_36_0_18.2.1.2.2 (by decide) ?_
        refine ct_S hP hD hS hA [ai_ cy (rl 0) 12 (m_rl_1 0)] [7] (by decide) rfl (fun hPc hDw hFc hC_ => ?_)
        refine va_callv (va_runS (As := [.ref (rl 0), .int 0]) (rest := []) ⟨hx, hb, hml, hown, hts⟩ (c_J7_fill_53178 l D cy H.size (rl 0) 12 (0 : Int32) (m_rl_1 0) (by first | with_reducible assumption | assumption | omega)) (va_cwS 2 hts gX0_load_J7_fill_53178 rfl rfl rfl hd_J7_fill_53178 ⟨Nat.le_of_ble_eq_true rfl, Nat.le_of_ble_eq_true rfl⟩) ⟨bl_, fun U hU hW => ⟨rfl, by rw [hU], by rw [hU]; exact hPc, kk_mv hW hK, hDw⟩⟩ rfl rfl hl.1 rfl (lv_room (Nat.le_of_ble_eq_true rfl)) dB_36_0_18.2.2.1.1 ⟨Nat.le_of_ble_eq_true rfl, Nat.le_of_ble_eq_true rfl⟩) hS (fun q _ h => hFc q h) hFc (fun u t H locs ht hvm hw hB hz1 hk1 hS => ?_)
        obtain ⟨e1_87, g_88, hP1, hD1⟩ := hB
        rw [ht] at hP1
        obtain ⟨hP, hD⟩ := va_join (wr := [ob0_0_ xc xn xk clo cro c4 c5 c6 c7 c8, ob3_0_ xn vp vn n1 n2 n3 n4 n5, ai_ cy n1 40 fk, ai_ cy n2 40 fs, ai_ cy n3 40 fe, ai_ cy n4 40 fw, aq_ cy 6 clo 12 (gf_ rl), ai_ cy (rl 1) 12 (m_rl_1 1), ai_ cy (rl 2) 12 (m_rl_1 2), ai_ cy (rl 3) 12 (m_rl_1 3), ai_ cy (rl 4) 12 (m_rl_1 4), ai_ cy (rl 5) 12 (m_rl_1 5), ai_ cy (rl 6) 12 (m_rl_1 6), ai_ cy (rl 7) 12 (m_rl_1 7), ai_ cy (rl 8) 12 (m_rl_1 8), ai_ cy (rl 9) 12 (m_rl_1 9), ai_ cy (rl 10) 12 (m_rl_1 10), ai_ cy (rl 11) 12 (m_rl_1 11), ai_ cy c5 40 f5, ai_ cy c6 40 f6, aq_ cy 3 xk 5 (kf_ k0 k1 k2 k3 k4), ob6_0_ k0, ob5_0_ k1, ob9_0_ k2, ob2_0_ k3, ob8_0_ k4]) (w1 := [ai_ cy (rl 0) 12 e1_87]) hP hD [7] [0, 1, 2, 3, 4, 5, 6, 8, 9, 10, 11, 12, 13, 14, 15, 16, 17, 18, 19, 20, 21, 22, 23, 24, 25, 26] hC_ rfl (by decide +kernel) (by decide +kernel) hk1 hFc hP1 hD1
        refine pd_S hP hD [ob0_0_ xc xn xk clo cro c4 c5 c6 c7 c8, ob3_0_ xn vp vn n1 n2 n3 n4 n5, ai_ cy n1 40 fk, ai_ cy n2 40 fs, ai_ cy n3 40 fe, ai_ cy n4 40 fw, aq_ cy 6 clo 12 (gf_ rl), ai_ cy (rl 0) 12 e1_87, ai_ cy (rl 1) 12 (m_rl_1 1), ai_ cy (rl 2) 12 (m_rl_1 2), ai_ cy (rl 3) 12 (m_rl_1 3), ai_ cy (rl 4) 12 (m_rl_1 4), ai_ cy (rl 5) 12 (m_rl_1 5), ai_ cy (rl 6) 12 (m_rl_1 6), ai_ cy (rl 7) 12 (m_rl_1 7), ai_ cy (rl 8) 12 (m_rl_1 8), ai_ cy (rl 9) 12 (m_rl_1 9), ai_ cy (rl 10) 12 (m_rl_1 10), ai_ cy (rl 11) 12 (m_rl_1 11), ai_ cy c5 40 f5, ai_ cy c6 40 f6, aq_ cy 3 xk 5 (kf_ k0 k1 k2 k3 k4), ob6_0_ k0, ob5_0_ k1, ob9_0_ k2, ob2_0_ k3, ob8_0_ k4] [0, 1, 2, 3, 4, 5, 6, 26, 7, 8, 9, 10, 11, 12, 13, 14, 15, 16, 17, 18, 19, 20, 21, 22, 23, 24, 25] (by decide +kernel) rfl (fun hP hD => ?_)
        obtain ⟨M_89, eM_89⟩ : ∃ g : Nat → Nat → Int32, g = va_up m_rl_1 0 e1_87 := ⟨_, rfl⟩
        refine pd_K (D := D) (cl := vwCl) (H := H) (A := A) [ob0_0_ xc xn xk clo cro c4 c5 c6 c7 c8, ob3_0_ xn vp vn n1 n2 n3 n4 n5, ai_ cy n1 40 fk, ai_ cy n2 40 fs, ai_ cy n3 40 fe, ai_ cy n4 40 fw, aq_ cy 6 clo 12 (gf_ rl), ai_ cy (rl 0) 12 (M_89 0), ai_ cy (rl 1) 12 (M_89 1), ai_ cy (rl 2) 12 (M_89 2), ai_ cy (rl 3) 12 (M_89 3), ai_ cy (rl 4) 12 (M_89 4), ai_ cy (rl 5) 12 (M_89 5), ai_ cy (rl 6) 12 (M_89 6), ai_ cy (rl 7) 12 (M_89 7), ai_ cy (rl 8) 12 (M_89 8), ai_ cy (rl 9) 12 (M_89 9), ai_ cy (rl 10) 12 (M_89 10), ai_ cy (rl 11) 12 (M_89 11), ai_ cy c5 40 f5, ai_ cy c6 40 f6, aq_ cy 3 xk 5 (kf_ k0 k1 k2 k3 k4), ob6_0_ k0, ob5_0_ k1, ob9_0_ k2, ob2_0_ k3, ob8_0_ k4] (by rw [eM_89]; exact hP) (by rw [eM_89]; exact hD) (fun hP hD => ?_)
        obtain ⟨y_90, ey_90⟩ : ∃ y : Int32, y = (0 : Int32) + 1 := ⟨_, rfl⟩
        have ty_90 : y_90.toInt = (0 : Int32).toInt + (1 : Int32).toInt := by rw [ey_90]; exact addI (by omega) (by omega)
        refine lv_iinc (v := y_90) (lv' := [(2, .int y_90), (0, .ref xc), (1, .int a1)]) hx hb dB_36_0_18.2.2.1.2 hl (k := 0) rfl (by rw [ey_90]; rfl) (by decide) rfl (fun ls hl => ?_)
        refine lv_goto (tgt := 2) hx hb dB_36_0_18.2.2.2.1 (by decide) ?_
        exact ih_1 y_90 M_89 _ _ _ (by omega) (by first | with_reducible assumption | omega | assumption) (by first | with_reducible assumption | omega | assumption) ⟨hP, hD⟩ hS (lv_sub hl [0, 1, 2] rfl)
      · refine lv_aload_n hx hb dB_36_0_18.1.2.2.2 rfl (lv_at hl 1 rfl) ?_
        refine va_get (ci := 0) (v := .ref clo) (C := RX0) (T := TX0) (N := 9) hx hb hts (fun _ h => List.mem_cons_of_mem _ (List.mem_append_left _ (List.mem_append_right _ h))) hown hK.1 hP 0 rfl rfl 2 (by decide) (hts (.fieldLink RX0 11 "CutAtlas$Current" "lets" "[[I") (List.mem_of_getElem? (i := 3) rfl)) (fun _ h9 => h9) rfl dB_36_0_18.2.1.1.1 ?_
        refine lv_iload_n hx hb dB_36_0_18.2.1.1.2 rfl (lv_at hl 0 rfl) ?_
        have h_91 : vp_in (1 : Int32) 12 := by unfold vp_in; decide
        refine va_alda hx hb hG hP 6 rfl (i := 1) h_91 dB_36_0_18.2.1.2.1 ?_
        refine lv_topv (v' := .ref (rl 1)) (gf_at h_91) ?_
        refine lv_iconst (v := 0) hx hb dB_36_0_18.2.1.2.2 (by decide) ?_
        refine ct_S hP hD hS hA [ai_ cy (rl 1) 12 (m_rl_1 1)] [8] (by decide) rfl (fun hPc hDw hFc hC_ => ?_)
        refine va_callv (va_runS (As := [.ref (rl 1), .int 0]) (rest := []) ⟨hx, hb, hml, hown, hts⟩ (c_J7_fill_53178 l D cy H.size (rl 1) 12 (0 : Int32) (m_rl_1 1) (by first | with_reducible assumption | assumption | omega)) (va_cwS 2 hts gX0_load_J7_fill_53178 rfl rfl rfl hd_J7_fill_53178 ⟨Nat.le_of_ble_eq_true rfl, Nat.le_of_ble_eq_true rfl⟩) ⟨bl_, fun U hU hW => ⟨rfl, by rw [hU], by rw [hU]; exact hPc, kk_mv hW hK, hDw⟩⟩ rfl rfl hl.1 rfl (lv_room (Nat.le_of_ble_eq_true rfl)) dB_36_0_18.2.2.1.1 ⟨Nat.le_of_ble_eq_true rfl, Nat.le_of_ble_eq_true rfl⟩) hS (fun q _ h => hFc q h) hFc (fun u t H locs ht hvm hw hB hz1 hk1 hS => ?_)
        obtain ⟨e1_93, g_94, hP1, hD1⟩ := hB
        rw [ht] at hP1
        obtain ⟨hP, hD⟩ := va_join (wr := [ob0_0_ xc xn xk clo cro c4 c5 c6 c7 c8, ob3_0_ xn vp vn n1 n2 n3 n4 n5, ai_ cy n1 40 fk, ai_ cy n2 40 fs, ai_ cy n3 40 fe, ai_ cy n4 40 fw, aq_ cy 6 clo 12 (gf_ rl), ai_ cy (rl 0) 12 (m_rl_1 0), ai_ cy (rl 2) 12 (m_rl_1 2), ai_ cy (rl 3) 12 (m_rl_1 3), ai_ cy (rl 4) 12 (m_rl_1 4), ai_ cy (rl 5) 12 (m_rl_1 5), ai_ cy (rl 6) 12 (m_rl_1 6), ai_ cy (rl 7) 12 (m_rl_1 7), ai_ cy (rl 8) 12 (m_rl_1 8), ai_ cy (rl 9) 12 (m_rl_1 9), ai_ cy (rl 10) 12 (m_rl_1 10), ai_ cy (rl 11) 12 (m_rl_1 11), ai_ cy c5 40 f5, ai_ cy c6 40 f6, aq_ cy 3 xk 5 (kf_ k0 k1 k2 k3 k4), ob6_0_ k0, ob5_0_ k1, ob9_0_ k2, ob2_0_ k3, ob8_0_ k4]) (w1 := [ai_ cy (rl 1) 12 e1_93]) hP hD [8] [0, 1, 2, 3, 4, 5, 6, 7, 9, 10, 11, 12, 13, 14, 15, 16, 17, 18, 19, 20, 21, 22, 23, 24, 25, 26] hC_ rfl (by decide +kernel) (by decide +kernel) hk1 hFc hP1 hD1
        refine pd_S hP hD [ob0_0_ xc xn xk clo cro c4 c5 c6 c7 c8, ob3_0_ xn vp vn n1 n2 n3 n4 n5, ai_ cy n1 40 fk, ai_ cy n2 40 fs, ai_ cy n3 40 fe, ai_ cy n4 40 fw, aq_ cy 6 clo 12 (gf_ rl), ai_ cy (rl 0) 12 (m_rl_1 0), ai_ cy (rl 1) 12 e1_93, ai_ cy (rl 2) 12 (m_rl_1 2), ai_ cy (rl 3) 12 (m_rl_1 3), ai_ cy (rl 4) 12 (m_rl_1 4), ai_ cy (rl 5) 12 (m_rl_1 5), ai_ cy (rl 6) 12 (m_rl_1 6), ai_ cy (rl 7) 12 (m_rl_1 7), ai_ cy (rl 8) 12 (m_rl_1 8), ai_ cy (rl 9) 12 (m_rl_1 9), ai_ cy (rl 10) 12 (m_rl_1 10), ai_ cy (rl 11) 12 (m_rl_1 11), ai_ cy c5 40 f5, ai_ cy c6 40 f6, aq_ cy 3 xk 5 (kf_ k0 k1 k2 k3 k4), ob6_0_ k0, ob5_0_ k1, ob9_0_ k2, ob2_0_ k3, ob8_0_ k4] [0, 1, 2, 3, 4, 5, 6, 7, 26, 8, 9, 10, 11, 12, 13, 14, 15, 16, 17, 18, 19, 20, 21, 22, 23, 24, 25] (by decide +kernel) rfl (fun hP hD => ?_)
        obtain ⟨M_95, eM_95⟩ : ∃ g : Nat → Nat → Int32, g = va_up m_rl_1 1 e1_93 := ⟨_, rfl⟩
        refine pd_K (D := D) (cl := vwCl) (H := H) (A := A) [ob0_0_ xc xn xk clo cro c4 c5 c6 c7 c8, ob3_0_ xn vp vn n1 n2 n3 n4 n5, ai_ cy n1 40 fk, ai_ cy n2 40 fs, ai_ cy n3 40 fe, ai_ cy n4 40 fw, aq_ cy 6 clo 12 (gf_ rl), ai_ cy (rl 0) 12 (M_95 0), ai_ cy (rl 1) 12 (M_95 1), ai_ cy (rl 2) 12 (M_95 2), ai_ cy (rl 3) 12 (M_95 3), ai_ cy (rl 4) 12 (M_95 4), ai_ cy (rl 5) 12 (M_95 5), ai_ cy (rl 6) 12 (M_95 6), ai_ cy (rl 7) 12 (M_95 7), ai_ cy (rl 8) 12 (M_95 8), ai_ cy (rl 9) 12 (M_95 9), ai_ cy (rl 10) 12 (M_95 10), ai_ cy (rl 11) 12 (M_95 11), ai_ cy c5 40 f5, ai_ cy c6 40 f6, aq_ cy 3 xk 5 (kf_ k0 k1 k2 k3 k4), ob6_0_ k0, ob5_0_ k1, ob9_0_ k2, ob2_0_ k3, ob8_0_ k4] (by rw [eM_95]; exact hP) (by rw [eM_95]; exact hD) (fun hP hD => ?_)
        obtain ⟨y_96, ey_96⟩ : ∃ y : Int32, y = (1 : Int32) + 1 := ⟨_, rfl⟩
        have ty_96 : y_96.toInt = (1 : Int32).toInt + (1 : Int32).toInt := by rw [ey_96]; exact addI (by omega) (by omega)
        refine lv_iinc (v := y_96) (lv' := [(2, .int y_96), (0, .ref xc), (1, .int a1)]) hx hb dB_36_0_18.2.2.1.2 hl (k := 0) rfl (by rw [ey_96]; rfl) (by decide) rfl (fun ls hl => ?_)
        refine lv_goto (tgt := 2) hx hb dB_36_0_18.2.2.2.1 (by decide) ?_
        exact ih_1 y_96 M_95 _ _ _ (by omega) (by first | with_reducible assumption | omega | assumption) (by first | with_reducible assumption | omega | assumption) ⟨hP, hD⟩ hS (lv_sub hl [0, 1, 2] rfl)
      · refine lv_aload_n hx hb dB_36_0_18.1.2.2.2 rfl (lv_at hl 1 rfl) ?_
        refine va_get (ci := 0) (v := .ref clo) (C := RX0) (T := TX0) (N := 9) hx hb hts (fun _ h => List.mem_cons_of_mem _ (List.mem_append_left _ (List.mem_append_right _ h))) hown hK.1 hP 0 rfl rfl 2 (by decide) (hts (.fieldLink RX0 11 "CutAtlas$Current" "lets" "[[I") (List.mem_of_getElem? (i := 3) rfl)) (fun _ h9 => h9) rfl dB_36_0_18.2.1.1.1 ?_
        refine lv_iload_n hx hb dB_36_0_18.2.1.1.2 rfl (lv_at hl 0 rfl) ?_
        have h_97 : vp_in (2 : Int32) 12 := by unfold vp_in; decide
        refine va_alda hx hb hG hP 6 rfl (i := 2) h_97 dB_36_0_18.2.1.2.1 ?_
        refine lv_topv (v' := .ref (rl 2)) (gf_at h_97) ?_
        refine lv_iconst (v := 0) hx hb dB_36_0_18.2.1.2.2 (by decide) ?_
        refine ct_S hP hD hS hA [ai_ cy (rl 2) 12 (m_rl_1 2)] [9] (by decide) rfl (fun hPc hDw hFc hC_ => ?_)
        refine va_callv (va_runS (As := [.ref (rl 2), .int 0]) (rest := []) ⟨hx, hb, hml, hown, hts⟩ (c_J7_fill_53178 l D cy H.size (rl 2) 12 (0 : Int32) (m_rl_1 2) (by first | with_reducible assumption | assumption | omega)) (va_cwS 2 hts gX0_load_J7_fill_53178 rfl rfl rfl hd_J7_fill_53178 ⟨Nat.le_of_ble_eq_true rfl, Nat.le_of_ble_eq_true rfl⟩) ⟨bl_, fun U hU hW => ⟨rfl, by rw [hU], by rw [hU]; exact hPc, kk_mv hW hK, hDw⟩⟩ rfl rfl hl.1 rfl (lv_room (Nat.le_of_ble_eq_true rfl)) dB_36_0_18.2.2.1.1 ⟨Nat.le_of_ble_eq_true rfl, Nat.le_of_ble_eq_true rfl⟩) hS (fun q _ h => hFc q h) hFc (fun u t H locs ht hvm hw hB hz1 hk1 hS => ?_)
        obtain ⟨e1_99, g_100, hP1, hD1⟩ := hB
        rw [ht] at hP1
        obtain ⟨hP, hD⟩ := va_join (wr := [ob0_0_ xc xn xk clo cro c4 c5 c6 c7 c8, ob3_0_ xn vp vn n1 n2 n3 n4 n5, ai_ cy n1 40 fk, ai_ cy n2 40 fs, ai_ cy n3 40 fe, ai_ cy n4 40 fw, aq_ cy 6 clo 12 (gf_ rl), ai_ cy (rl 0) 12 (m_rl_1 0), ai_ cy (rl 1) 12 (m_rl_1 1), ai_ cy (rl 3) 12 (m_rl_1 3), ai_ cy (rl 4) 12 (m_rl_1 4), ai_ cy (rl 5) 12 (m_rl_1 5), ai_ cy (rl 6) 12 (m_rl_1 6), ai_ cy (rl 7) 12 (m_rl_1 7), ai_ cy (rl 8) 12 (m_rl_1 8), ai_ cy (rl 9) 12 (m_rl_1 9), ai_ cy (rl 10) 12 (m_rl_1 10), ai_ cy (rl 11) 12 (m_rl_1 11), ai_ cy c5 40 f5, ai_ cy c6 40 f6, aq_ cy 3 xk 5 (kf_ k0 k1 k2 k3 k4), ob6_0_ k0, ob5_0_ k1, ob9_0_ k2, ob2_0_ k3, ob8_0_ k4]) (w1 := [ai_ cy (rl 2) 12 e1_99]) hP hD [9] [0, 1, 2, 3, 4, 5, 6, 7, 8, 10, 11, 12, 13, 14, 15, 16, 17, 18, 19, 20, 21, 22, 23, 24, 25, 26] hC_ rfl (by decide +kernel) (by decide +kernel) hk1 hFc hP1 hD1
        refine pd_S hP hD [ob0_0_ xc xn xk clo cro c4 c5 c6 c7 c8, ob3_0_ xn vp vn n1 n2 n3 n4 n5, ai_ cy n1 40 fk, ai_ cy n2 40 fs, ai_ cy n3 40 fe, ai_ cy n4 40 fw, aq_ cy 6 clo 12 (gf_ rl), ai_ cy (rl 0) 12 (m_rl_1 0), ai_ cy (rl 1) 12 (m_rl_1 1), ai_ cy (rl 2) 12 e1_99, ai_ cy (rl 3) 12 (m_rl_1 3), ai_ cy (rl 4) 12 (m_rl_1 4), ai_ cy (rl 5) 12 (m_rl_1 5), ai_ cy (rl 6) 12 (m_rl_1 6), ai_ cy (rl 7) 12 (m_rl_1 7), ai_ cy (rl 8) 12 (m_rl_1 8), ai_ cy (rl 9) 12 (m_rl_1 9), ai_ cy (rl 10) 12 (m_rl_1 10), ai_ cy (rl 11) 12 (m_rl_1 11), ai_ cy c5 40 f5, ai_ cy c6 40 f6, aq_ cy 3 xk 5 (kf_ k0 k1 k2 k3 k4), ob6_0_ k0, ob5_0_ k1, ob9_0_ k2, ob2_0_ k3, ob8_0_ k4] [0, 1, 2, 3, 4, 5, 6, 7, 8, 26, 9, 10, 11, 12, 13, 14, 15, 16, 17, 18, 19, 20, 21, 22, 23, 24, 25] (by decide +kernel) rfl (fun hP hD => ?_)
        obtain ⟨M_101, eM_101⟩ : ∃ g : Nat → Nat → Int32, g = va_up m_rl_1 2 e1_99 := ⟨_, rfl⟩
        refine pd_K (D := D) (cl := vwCl) (H := H) (A := A) [ob0_0_ xc xn xk clo cro c4 c5 c6 c7 c8, ob3_0_ xn vp vn n1 n2 n3 n4 n5, ai_ cy n1 40 fk, ai_ cy n2 40 fs, ai_ cy n3 40 fe, ai_ cy n4 40 fw, aq_ cy 6 clo 12 (gf_ rl), ai_ cy (rl 0) 12 (M_101 0), ai_ cy (rl 1) 12 (M_101 1), ai_ cy (rl 2) 12 (M_101 2), ai_ cy (rl 3) 12 (M_101 3), ai_ cy (rl 4) 12 (M_101 4), ai_ cy (rl 5) 12 (M_101 5), ai_ cy (rl 6) 12 (M_101 6), ai_ cy (rl 7) 12 (M_101 7), ai_ cy (rl 8) 12 (M_101 8), ai_ cy (rl 9) 12 (M_101 9), ai_ cy (rl 10) 12 (M_101 10), ai_ cy (rl 11) 12 (M_101 11), ai_ cy c5 40 f5, ai_ cy c6 40 f6, aq_ cy 3 xk 5 (kf_ k0 k1 k2 k3 k4), ob6_0_ k0, ob5_0_ k1, ob9_0_ k2, ob2_0_ k3, ob8_0_ k4] (by rw [eM_101]; exact hP) (by rw [eM_101]; exact hD) (fun hP hD => ?_)
        obtain ⟨y_102, ey_102⟩ : ∃ y : Int32, y = (2 : Int32) + 1 := ⟨_, rfl⟩
        have ty_102 : y_102.toInt = (2 : Int32).toInt + (1 : Int32).toInt := by rw [ey_102]; exact addI (by omega) (by omega)
        refine lv_iinc (v := y_102) (lv' := [(2, .int y_102), (0, .ref xc), (1, .int a1)]) hx hb dB_36_0_18.2.2.1.2 hl (k := 0) rfl (by rw [ey_102]; rfl) (by decide) rfl (fun ls hl => ?_)
        refine lv_goto (tgt := 2) hx hb dB_36_0_18.2.2.2.1 (by decide) ?_
        exact ih_1 y_102 M_101 _ _ _ (by omega) (by first | with_reducible assumption | omega | assumption) (by first | with_reducible assumption | omega | assumption) ⟨hP, hD⟩ hS (lv_sub hl [0, 1, 2] rfl)
      · refine lv_aload_n hx hb dB_36_0_18.1.2.2.2 rfl (lv_at hl 1 rfl) ?_
        refine va_get (ci := 0) (v := .ref clo) (C := RX0) (T := TX0) (N := 9) hx hb hts (fun _ h => List.mem_cons_of_mem _ (List.mem_append_left _ (List.mem_append_right _ h))) hown hK.1 hP 0 rfl rfl 2 (by decide) (hts (.fieldLink RX0 11 "CutAtlas$Current" "lets" "[[I") (List.mem_of_getElem? (i := 3) rfl)) (fun _ h9 => h9) rfl dB_36_0_18.2.1.1.1 ?_
        refine lv_iload_n hx hb dB_36_0_18.2.1.1.2 rfl (lv_at hl 0 rfl) ?_
        have h_103 : vp_in (3 : Int32) 12 := by unfold vp_in; decide
        refine va_alda hx hb hG hP 6 rfl (i := 3) h_103 dB_36_0_18.2.1.2.1 ?_
        refine lv_topv (v' := .ref (rl 3)) (gf_at h_103) ?_
        refine lv_iconst (v := 0) hx hb dB_36_0_18.2.1.2.2 (by decide) ?_
        refine ct_S hP hD hS hA [ai_ cy (rl 3) 12 (m_rl_1 3)] [10] (by decide) rfl (fun hPc hDw hFc hC_ => ?_)
        refine va_callv (va_runS (As := [.ref (rl 3), .int 0]) (rest := []) ⟨hx, hb, hml, hown, hts⟩ (c_J7_fill_53178 l D cy H.size (rl 3) 12 (0 : Int32) (m_rl_1 3) (by first | with_reducible assumption | assumption | omega)) (va_cwS 2 hts gX0_load_J7_fill_53178 rfl rfl rfl hd_J7_fill_53178 ⟨Nat.le_of_ble_eq_true rfl, Nat.le_of_ble_eq_true rfl⟩) ⟨bl_, fun U hU hW => ⟨rfl, by rw [hU], by rw [hU]; exact hPc, kk_mv hW hK, hDw⟩⟩ rfl rfl hl.1 rfl (lv_room (Nat.le_of_ble_eq_true rfl)) dB_36_0_18.2.2.1.1 ⟨Nat.le_of_ble_eq_true rfl, Nat.le_of_ble_eq_true rfl⟩) hS (fun q _ h => hFc q h) hFc (fun u t H locs ht hvm hw hB hz1 hk1 hS => ?_)
        obtain ⟨e1_105, g_106, hP1, hD1⟩ := hB
        rw [ht] at hP1
        obtain ⟨hP, hD⟩ := va_join (wr := [ob0_0_ xc xn xk clo cro c4 c5 c6 c7 c8, ob3_0_ xn vp vn n1 n2 n3 n4 n5, ai_ cy n1 40 fk, ai_ cy n2 40 fs, ai_ cy n3 40 fe, ai_ cy n4 40 fw, aq_ cy 6 clo 12 (gf_ rl), ai_ cy (rl 0) 12 (m_rl_1 0), ai_ cy (rl 1) 12 (m_rl_1 1), ai_ cy (rl 2) 12 (m_rl_1 2), ai_ cy (rl 4) 12 (m_rl_1 4), ai_ cy (rl 5) 12 (m_rl_1 5), ai_ cy (rl 6) 12 (m_rl_1 6), ai_ cy (rl 7) 12 (m_rl_1 7), ai_ cy (rl 8) 12 (m_rl_1 8), ai_ cy (rl 9) 12 (m_rl_1 9), ai_ cy (rl 10) 12 (m_rl_1 10), ai_ cy (rl 11) 12 (m_rl_1 11), ai_ cy c5 40 f5, ai_ cy c6 40 f6, aq_ cy 3 xk 5 (kf_ k0 k1 k2 k3 k4), ob6_0_ k0, ob5_0_ k1, ob9_0_ k2, ob2_0_ k3, ob8_0_ k4]) (w1 := [ai_ cy (rl 3) 12 e1_105]) hP hD [10] [0, 1, 2, 3, 4, 5, 6, 7, 8, 9, 11, 12, 13, 14, 15, 16, 17, 18, 19, 20, 21, 22, 23, 24, 25, 26] hC_ rfl (by decide +kernel) (by decide +kernel) hk1 hFc hP1 hD1
        refine pd_S hP hD [ob0_0_ xc xn xk clo cro c4 c5 c6 c7 c8, ob3_0_ xn vp vn n1 n2 n3 n4 n5, ai_ cy n1 40 fk, ai_ cy n2 40 fs, ai_ cy n3 40 fe, ai_ cy n4 40 fw, aq_ cy 6 clo 12 (gf_ rl), ai_ cy (rl 0) 12 (m_rl_1 0), ai_ cy (rl 1) 12 (m_rl_1 1), ai_ cy (rl 2) 12 (m_rl_1 2), ai_ cy (rl 3) 12 e1_105, ai_ cy (rl 4) 12 (m_rl_1 4), ai_ cy (rl 5) 12 (m_rl_1 5), ai_ cy (rl 6) 12 (m_rl_1 6), ai_ cy (rl 7) 12 (m_rl_1 7), ai_ cy (rl 8) 12 (m_rl_1 8), ai_ cy (rl 9) 12 (m_rl_1 9), ai_ cy (rl 10) 12 (m_rl_1 10), ai_ cy (rl 11) 12 (m_rl_1 11), ai_ cy c5 40 f5, ai_ cy c6 40 f6, aq_ cy 3 xk 5 (kf_ k0 k1 k2 k3 k4), ob6_0_ k0, ob5_0_ k1, ob9_0_ k2, ob2_0_ k3, ob8_0_ k4] [0, 1, 2, 3, 4, 5, 6, 7, 8, 9, 26, 10, 11, 12, 13, 14, 15, 16, 17, 18, 19, 20, 21, 22, 23, 24, 25] (by decide +kernel) rfl (fun hP hD => ?_)
        obtain ⟨M_107, eM_107⟩ : ∃ g : Nat → Nat → Int32, g = va_up m_rl_1 3 e1_105 := ⟨_, rfl⟩
        refine pd_K (D := D) (cl := vwCl) (H := H) (A := A) [ob0_0_ xc xn xk clo cro c4 c5 c6 c7 c8, ob3_0_ xn vp vn n1 n2 n3 n4 n5, ai_ cy n1 40 fk, ai_ cy n2 40 fs, ai_ cy n3 40 fe, ai_ cy n4 40 fw, aq_ cy 6 clo 12 (gf_ rl), ai_ cy (rl 0) 12 (M_107 0), ai_ cy (rl 1) 12 (M_107 1), ai_ cy (rl 2) 12 (M_107 2), ai_ cy (rl 3) 12 (M_107 3), ai_ cy (rl 4) 12 (M_107 4), ai_ cy (rl 5) 12 (M_107 5), ai_ cy (rl 6) 12 (M_107 6), ai_ cy (rl 7) 12 (M_107 7), ai_ cy (rl 8) 12 (M_107 8), ai_ cy (rl 9) 12 (M_107 9), ai_ cy (rl 10) 12 (M_107 10), ai_ cy (rl 11) 12 (M_107 11), ai_ cy c5 40 f5, ai_ cy c6 40 f6, aq_ cy 3 xk 5 (kf_ k0 k1 k2 k3 k4), ob6_0_ k0, ob5_0_ k1, ob9_0_ k2, ob2_0_ k3, ob8_0_ k4] (by rw [eM_107]; exact hP) (by rw [eM_107]; exact hD) (fun hP hD => ?_)
        obtain ⟨y_108, ey_108⟩ : ∃ y : Int32, y = (3 : Int32) + 1 := ⟨_, rfl⟩
        have ty_108 : y_108.toInt = (3 : Int32).toInt + (1 : Int32).toInt := by rw [ey_108]; exact addI (by omega) (by omega)
        refine lv_iinc (v := y_108) (lv' := [(2, .int y_108), (0, .ref xc), (1, .int a1)]) hx hb dB_36_0_18.2.2.1.2 hl (k := 0) rfl (by rw [ey_108]; rfl) (by decide) rfl (fun ls hl => ?_)
        refine lv_goto (tgt := 2) hx hb dB_36_0_18.2.2.2.1 (by decide) ?_
        exact ih_1 y_108 M_107 _ _ _ (by omega) (by first | with_reducible assumption | omega | assumption) (by first | with_reducible assumption | omega | assumption) ⟨hP, hD⟩ hS (lv_sub hl [0, 1, 2] rfl)
      · refine lv_aload_n hx hb dB_36_0_18.1.2.2.2 rfl (lv_at hl 1 rfl) ?_
        refine va_get (ci := 0) (v := .ref clo) (C := RX0) (T := TX0) (N := 9) hx hb hts (fun _ h => List.mem_cons_of_mem _ (List.mem_append_left _ (List.mem_append_right _ h))) hown hK.1 hP 0 rfl rfl 2 (by decide) (hts (.fieldLink RX0 11 "CutAtlas$Current" "lets" "[[I") (List.mem_of_getElem? (i := 3) rfl)) (fun _ h9 => h9) rfl dB_36_0_18.2.1.1.1 ?_
        refine lv_iload_n hx hb dB_36_0_18.2.1.1.2 rfl (lv_at hl 0 rfl) ?_
        have h_109 : vp_in (4 : Int32) 12 := by unfold vp_in; decide
        refine va_alda hx hb hG hP 6 rfl (i := 4) h_109 dB_36_0_18.2.1.2.1 ?_
        refine lv_topv (v' := .ref (rl 4)) (gf_at h_109) ?_
        refine lv_iconst (v := 0) hx hb dB_36_0_18.2.1.2.2 (by decide) ?_
        refine ct_S hP hD hS hA [ai_ cy (rl 4) 12 (m_rl_1 4)] [11] (by decide) rfl (fun hPc hDw hFc hC_ => ?_)
        refine va_callv (va_runS (As := [.ref (rl 4), .int 0]) (rest := []) ⟨hx, hb, hml, hown, hts⟩ (c_J7_fill_53178 l D cy H.size (rl 4) 12 (0 : Int32) (m_rl_1 4) (by first | with_reducible assumption | assumption | omega)) (va_cwS 2 hts gX0_load_J7_fill_53178 rfl rfl rfl hd_J7_fill_53178 ⟨Nat.le_of_ble_eq_true rfl, Nat.le_of_ble_eq_true rfl⟩) ⟨bl_, fun U hU hW => ⟨rfl, by rw [hU], by rw [hU]; exact hPc, kk_mv hW hK, hDw⟩⟩ rfl rfl hl.1 rfl (lv_room (Nat.le_of_ble_eq_true rfl)) dB_36_0_18.2.2.1.1 ⟨Nat.le_of_ble_eq_true rfl, Nat.le_of_ble_eq_true rfl⟩) hS (fun q _ h => hFc q h) hFc (fun u t H locs ht hvm hw hB hz1 hk1 hS => ?_)
        obtain ⟨e1_111, g_112, hP1, hD1⟩ := hB
        rw [ht] at hP1
        obtain ⟨hP, hD⟩ := va_join (wr := [ob0_0_ xc xn xk clo cro c4 c5 c6 c7 c8, ob3_0_ xn vp vn n1 n2 n3 n4 n5, ai_ cy n1 40 fk, ai_ cy n2 40 fs, ai_ cy n3 40 fe, ai_ cy n4 40 fw, aq_ cy 6 clo 12 (gf_ rl), ai_ cy (rl 0) 12 (m_rl_1 0), ai_ cy (rl 1) 12 (m_rl_1 1), ai_ cy (rl 2) 12 (m_rl_1 2), ai_ cy (rl 3) 12 (m_rl_1 3), ai_ cy (rl 5) 12 (m_rl_1 5), ai_ cy (rl 6) 12 (m_rl_1 6), ai_ cy (rl 7) 12 (m_rl_1 7), ai_ cy (rl 8) 12 (m_rl_1 8), ai_ cy (rl 9) 12 (m_rl_1 9), ai_ cy (rl 10) 12 (m_rl_1 10), ai_ cy (rl 11) 12 (m_rl_1 11), ai_ cy c5 40 f5, ai_ cy c6 40 f6, aq_ cy 3 xk 5 (kf_ k0 k1 k2 k3 k4), ob6_0_ k0, ob5_0_ k1, ob9_0_ k2, ob2_0_ k3, ob8_0_ k4]) (w1 := [ai_ cy (rl 4) 12 e1_111]) hP hD [11] [0, 1, 2, 3, 4, 5, 6, 7, 8, 9, 10, 12, 13, 14, 15, 16, 17, 18, 19, 20, 21, 22, 23, 24, 25, 26] hC_ rfl (by decide +kernel) (by decide +kernel) hk1 hFc hP1 hD1
        refine pd_S hP hD [ob0_0_ xc xn xk clo cro c4 c5 c6 c7 c8, ob3_0_ xn vp vn n1 n2 n3 n4 n5, ai_ cy n1 40 fk, ai_ cy n2 40 fs, ai_ cy n3 40 fe, ai_ cy n4 40 fw, aq_ cy 6 clo 12 (gf_ rl), ai_ cy (rl 0) 12 (m_rl_1 0), ai_ cy (rl 1) 12 (m_rl_1 1), ai_ cy (rl 2) 12 (m_rl_1 2), ai_ cy (rl 3) 12 (m_rl_1 3), ai_ cy (rl 4) 12 e1_111, ai_ cy (rl 5) 12 (m_rl_1 5), ai_ cy (rl 6) 12 (m_rl_1 6), ai_ cy (rl 7) 12 (m_rl_1 7), ai_ cy (rl 8) 12 (m_rl_1 8), ai_ cy (rl 9) 12 (m_rl_1 9), ai_ cy (rl 10) 12 (m_rl_1 10), ai_ cy (rl 11) 12 (m_rl_1 11), ai_ cy c5 40 f5, ai_ cy c6 40 f6, aq_ cy 3 xk 5 (kf_ k0 k1 k2 k3 k4), ob6_0_ k0, ob5_0_ k1, ob9_0_ k2, ob2_0_ k3, ob8_0_ k4] [0, 1, 2, 3, 4, 5, 6, 7, 8, 9, 10, 26, 11, 12, 13, 14, 15, 16, 17, 18, 19, 20, 21, 22, 23, 24, 25] (by decide +kernel) rfl (fun hP hD => ?_)
        obtain ⟨M_113, eM_113⟩ : ∃ g : Nat → Nat → Int32, g = va_up m_rl_1 4 e1_111 := ⟨_, rfl⟩
        refine pd_K (D := D) (cl := vwCl) (H := H) (A := A) [ob0_0_ xc xn xk clo cro c4 c5 c6 c7 c8, ob3_0_ xn vp vn n1 n2 n3 n4 n5, ai_ cy n1 40 fk, ai_ cy n2 40 fs, ai_ cy n3 40 fe, ai_ cy n4 40 fw, aq_ cy 6 clo 12 (gf_ rl), ai_ cy (rl 0) 12 (M_113 0), ai_ cy (rl 1) 12 (M_113 1), ai_ cy (rl 2) 12 (M_113 2), ai_ cy (rl 3) 12 (M_113 3), ai_ cy (rl 4) 12 (M_113 4), ai_ cy (rl 5) 12 (M_113 5), ai_ cy (rl 6) 12 (M_113 6), ai_ cy (rl 7) 12 (M_113 7), ai_ cy (rl 8) 12 (M_113 8), ai_ cy (rl 9) 12 (M_113 9), ai_ cy (rl 10) 12 (M_113 10), ai_ cy (rl 11) 12 (M_113 11), ai_ cy c5 40 f5, ai_ cy c6 40 f6, aq_ cy 3 xk 5 (kf_ k0 k1 k2 k3 k4), ob6_0_ k0, ob5_0_ k1, ob9_0_ k2, ob2_0_ k3, ob8_0_ k4] (by rw [eM_113]; exact hP) (by rw [eM_113]; exact hD) (fun hP hD => ?_)
        obtain ⟨y_114, ey_114⟩ : ∃ y : Int32, y = (4 : Int32) + 1 := ⟨_, rfl⟩
        have ty_114 : y_114.toInt = (4 : Int32).toInt + (1 : Int32).toInt := by rw [ey_114]; exact addI (by omega) (by omega)
        refine lv_iinc (v := y_114) (lv' := [(2, .int y_114), (0, .ref xc), (1, .int a1)]) hx hb dB_36_0_18.2.2.1.2 hl (k := 0) rfl (by rw [ey_114]; rfl) (by decide) rfl (fun ls hl => ?_)
        refine lv_goto (tgt := 2) hx hb dB_36_0_18.2.2.2.1 (by decide) ?_
        exact ih_1 y_114 M_113 _ _ _ (by omega) (by first | with_reducible assumption | omega | assumption) (by first | with_reducible assumption | omega | assumption) ⟨hP, hD⟩ hS (lv_sub hl [0, 1, 2] rfl)
      · refine lv_aload_n hx hb dB_36_0_18.1.2.2.2 rfl (lv_at hl 1 rfl) ?_
        refine va_get (ci := 0) (v := .ref clo) (C := RX0) (T := TX0) (N := 9) hx hb hts (fun _ h => List.mem_cons_of_mem _ (List.mem_append_left _ (List.mem_append_right _ h))) hown hK.1 hP 0 rfl rfl 2 (by decide) (hts (.fieldLink RX0 11 "CutAtlas$Current" "lets" "[[I") (List.mem_of_getElem? (i := 3) rfl)) (fun _ h9 => h9) rfl dB_36_0_18.2.1.1.1 ?_
        refine lv_iload_n hx hb dB_36_0_18.2.1.1.2 rfl (lv_at hl 0 rfl) ?_
        have h_115 : vp_in (5 : Int32) 12 := by unfold vp_in; decide
        refine va_alda hx hb hG hP 6 rfl (i := 5) h_115 dB_36_0_18.2.1.2.1 ?_
        refine lv_topv (v' := .ref (rl 5)) (gf_at h_115) ?_
        refine lv_iconst (v := 0) hx hb dB_36_0_18.2.1.2.2 (by decide) ?_
        refine ct_S hP hD hS hA [ai_ cy (rl 5) 12 (m_rl_1 5)] [12] (by decide) rfl (fun hPc hDw hFc hC_ => ?_)
        refine va_callv (va_runS (As := [.ref (rl 5), .int 0]) (rest := []) ⟨hx, hb, hml, hown, hts⟩ (c_J7_fill_53178 l D cy H.size (rl 5) 12 (0 : Int32) (m_rl_1 5) (by first | with_reducible assumption | assumption | omega)) (va_cwS 2 hts gX0_load_J7_fill_53178 rfl rfl rfl hd_J7_fill_53178 ⟨Nat.le_of_ble_eq_true rfl, Nat.le_of_ble_eq_true rfl⟩) ⟨bl_, fun U hU hW => ⟨rfl, by rw [hU], by rw [hU]; exact hPc, kk_mv hW hK, hDw⟩⟩ rfl rfl hl.1 rfl (lv_room (Nat.le_of_ble_eq_true rfl)) dB_36_0_18.2.2.1.1 ⟨Nat.le_of_ble_eq_true rfl, Nat.le_of_ble_eq_true rfl⟩) hS (fun q _ h => hFc q h) hFc (fun u t H locs ht hvm hw hB hz1 hk1 hS => ?_)
        obtain ⟨e1_117, g_118, hP1, hD1⟩ := hB
        rw [ht] at hP1
        obtain ⟨hP, hD⟩ := va_join (wr := [ob0_0_ xc xn xk clo cro c4 c5 c6 c7 c8, ob3_0_ xn vp vn n1 n2 n3 n4 n5, ai_ cy n1 40 fk, ai_ cy n2 40 fs, ai_ cy n3 40 fe, ai_ cy n4 40 fw, aq_ cy 6 clo 12 (gf_ rl), ai_ cy (rl 0) 12 (m_rl_1 0), ai_ cy (rl 1) 12 (m_rl_1 1), ai_ cy (rl 2) 12 (m_rl_1 2), ai_ cy (rl 3) 12 (m_rl_1 3), ai_ cy (rl 4) 12 (m_rl_1 4), ai_ cy (rl 6) 12 (m_rl_1 6), ai_ cy (rl 7) 12 (m_rl_1 7), ai_ cy (rl 8) 12 (m_rl_1 8), ai_ cy (rl 9) 12 (m_rl_1 9), ai_ cy (rl 10) 12 (m_rl_1 10), ai_ cy (rl 11) 12 (m_rl_1 11), ai_ cy c5 40 f5, ai_ cy c6 40 f6, aq_ cy 3 xk 5 (kf_ k0 k1 k2 k3 k4), ob6_0_ k0, ob5_0_ k1, ob9_0_ k2, ob2_0_ k3, ob8_0_ k4]) (w1 := [ai_ cy (rl 5) 12 e1_117]) hP hD [12] [0, 1, 2, 3, 4, 5, 6, 7, 8, 9, 10, 11, 13, 14, 15, 16, 17, 18, 19, 20, 21, 22, 23, 24, 25, 26] hC_ rfl (by decide +kernel) (by decide +kernel) hk1 hFc hP1 hD1
        refine pd_S hP hD [ob0_0_ xc xn xk clo cro c4 c5 c6 c7 c8, ob3_0_ xn vp vn n1 n2 n3 n4 n5, ai_ cy n1 40 fk, ai_ cy n2 40 fs, ai_ cy n3 40 fe, ai_ cy n4 40 fw, aq_ cy 6 clo 12 (gf_ rl), ai_ cy (rl 0) 12 (m_rl_1 0), ai_ cy (rl 1) 12 (m_rl_1 1), ai_ cy (rl 2) 12 (m_rl_1 2), ai_ cy (rl 3) 12 (m_rl_1 3), ai_ cy (rl 4) 12 (m_rl_1 4), ai_ cy (rl 5) 12 e1_117, ai_ cy (rl 6) 12 (m_rl_1 6), ai_ cy (rl 7) 12 (m_rl_1 7), ai_ cy (rl 8) 12 (m_rl_1 8), ai_ cy (rl 9) 12 (m_rl_1 9), ai_ cy (rl 10) 12 (m_rl_1 10), ai_ cy (rl 11) 12 (m_rl_1 11), ai_ cy c5 40 f5, ai_ cy c6 40 f6, aq_ cy 3 xk 5 (kf_ k0 k1 k2 k3 k4), ob6_0_ k0, ob5_0_ k1, ob9_0_ k2, ob2_0_ k3, ob8_0_ k4] [0, 1, 2, 3, 4, 5, 6, 7, 8, 9, 10, 11, 26, 12, 13, 14, 15, 16, 17, 18, 19, 20, 21, 22, 23, 24, 25] (by decide +kernel) rfl (fun hP hD => ?_)
        obtain ⟨M_119, eM_119⟩ : ∃ g : Nat → Nat → Int32, g = va_up m_rl_1 5 e1_117 := ⟨_, rfl⟩
        refine pd_K (D := D) (cl := vwCl) (H := H) (A := A) [ob0_0_ xc xn xk clo cro c4 c5 c6 c7 c8, ob3_0_ xn vp vn n1 n2 n3 n4 n5, ai_ cy n1 40 fk, ai_ cy n2 40 fs, ai_ cy n3 40 fe, ai_ cy n4 40 fw, aq_ cy 6 clo 12 (gf_ rl), ai_ cy (rl 0) 12 (M_119 0), ai_ cy (rl 1) 12 (M_119 1), ai_ cy (rl 2) 12 (M_119 2), ai_ cy (rl 3) 12 (M_119 3), ai_ cy (rl 4) 12 (M_119 4), ai_ cy (rl 5) 12 (M_119 5), ai_ cy (rl 6) 12 (M_119 6), ai_ cy (rl 7) 12 (M_119 7), ai_ cy (rl 8) 12 (M_119 8), ai_ cy (rl 9) 12 (M_119 9), ai_ cy (rl 10) 12 (M_119 10), ai_ cy (rl 11) 12 (M_119 11), ai_ cy c5 40 f5, ai_ cy c6 40 f6, aq_ cy 3 xk 5 (kf_ k0 k1 k2 k3 k4), ob6_0_ k0, ob5_0_ k1, ob9_0_ k2, ob2_0_ k3, ob8_0_ k4] (by rw [eM_119]; exact hP) (by rw [eM_119]; exact hD) (fun hP hD => ?_)
        obtain ⟨y_120, ey_120⟩ : ∃ y : Int32, y = (5 : Int32) + 1 := ⟨_, rfl⟩
        have ty_120 : y_120.toInt = (5 : Int32).toInt + (1 : Int32).toInt := by rw [ey_120]; exact addI (by omega) (by omega)
        refine lv_iinc (v := y_120) (lv' := [(2, .int y_120), (0, .ref xc), (1, .int a1)]) hx hb dB_36_0_18.2.2.1.2 hl (k := 0) rfl (by rw [ey_120]; rfl) (by decide) rfl (fun ls hl => ?_)
        refine lv_goto (tgt := 2) hx hb dB_36_0_18.2.2.2.1 (by decide) ?_
        exact ih_1 y_120 M_119 _ _ _ (by omega) (by first | with_reducible assumption | omega | assumption) (by first | with_reducible assumption | omega | assumption) ⟨hP, hD⟩ hS (lv_sub hl [0, 1, 2] rfl)
      · refine lv_aload_n hx hb dB_36_0_18.1.2.2.2 rfl (lv_at hl 1 rfl) ?_
        refine va_get (ci := 0) (v := .ref clo) (C := RX0) (T := TX0) (N := 9) hx hb hts (fun _ h => List.mem_cons_of_mem _ (List.mem_append_left _ (List.mem_append_right _ h))) hown hK.1 hP 0 rfl rfl 2 (by decide) (hts (.fieldLink RX0 11 "CutAtlas$Current" "lets" "[[I") (List.mem_of_getElem? (i := 3) rfl)) (fun _ h9 => h9) rfl dB_36_0_18.2.1.1.1 ?_
        refine lv_iload_n hx hb dB_36_0_18.2.1.1.2 rfl (lv_at hl 0 rfl) ?_
        have h_121 : vp_in (6 : Int32) 12 := by unfold vp_in; decide
        refine va_alda hx hb hG hP 6 rfl (i := 6) h_121 dB_36_0_18.2.1.2.1 ?_
        refine lv_topv (v' := .ref (rl 6)) (gf_at h_121) ?_
        refine lv_iconst (v := 0) hx hb dB_36_0_18.2.1.2.2 (by decide) ?_
        refine ct_S hP hD hS hA [ai_ cy (rl 6) 12 (m_rl_1 6)] [13] (by decide) rfl (fun hPc hDw hFc hC_ => ?_)
        refine va_callv (va_runS (As := [.ref (rl 6), .int 0]) (rest := []) ⟨hx, hb, hml, hown, hts⟩ (c_J7_fill_53178 l D cy H.size (rl 6) 12 (0 : Int32) (m_rl_1 6) (by first | with_reducible assumption | assumption | omega)) (va_cwS 2 hts gX0_load_J7_fill_53178 rfl rfl rfl hd_J7_fill_53178 ⟨Nat.le_of_ble_eq_true rfl, Nat.le_of_ble_eq_true rfl⟩) ⟨bl_, fun U hU hW => ⟨rfl, by rw [hU], by rw [hU]; exact hPc, kk_mv hW hK, hDw⟩⟩ rfl rfl hl.1 rfl (lv_room (Nat.le_of_ble_eq_true rfl)) dB_36_0_18.2.2.1.1 ⟨Nat.le_of_ble_eq_true rfl, Nat.le_of_ble_eq_true rfl⟩) hS (fun q _ h => hFc q h) hFc (fun u t H locs ht hvm hw hB hz1 hk1 hS => ?_)
        obtain ⟨e1_123, g_124, hP1, hD1⟩ := hB
        rw [ht] at hP1
        obtain ⟨hP, hD⟩ := va_join (wr := [ob0_0_ xc xn xk clo cro c4 c5 c6 c7 c8, ob3_0_ xn vp vn n1 n2 n3 n4 n5, ai_ cy n1 40 fk, ai_ cy n2 40 fs, ai_ cy n3 40 fe, ai_ cy n4 40 fw, aq_ cy 6 clo 12 (gf_ rl), ai_ cy (rl 0) 12 (m_rl_1 0), ai_ cy (rl 1) 12 (m_rl_1 1), ai_ cy (rl 2) 12 (m_rl_1 2), ai_ cy (rl 3) 12 (m_rl_1 3), ai_ cy (rl 4) 12 (m_rl_1 4), ai_ cy (rl 5) 12 (m_rl_1 5), ai_ cy (rl 7) 12 (m_rl_1 7), ai_ cy (rl 8) 12 (m_rl_1 8), ai_ cy (rl 9) 12 (m_rl_1 9), ai_ cy (rl 10) 12 (m_rl_1 10), ai_ cy (rl 11) 12 (m_rl_1 11), ai_ cy c5 40 f5, ai_ cy c6 40 f6, aq_ cy 3 xk 5 (kf_ k0 k1 k2 k3 k4), ob6_0_ k0, ob5_0_ k1, ob9_0_ k2, ob2_0_ k3, ob8_0_ k4]) (w1 := [ai_ cy (rl 6) 12 e1_123]) hP hD [13] [0, 1, 2, 3, 4, 5, 6, 7, 8, 9, 10, 11, 12, 14, 15, 16, 17, 18, 19, 20, 21, 22, 23, 24, 25, 26] hC_ rfl (by decide +kernel) (by decide +kernel) hk1 hFc hP1 hD1
        refine pd_S hP hD [ob0_0_ xc xn xk clo cro c4 c5 c6 c7 c8, ob3_0_ xn vp vn n1 n2 n3 n4 n5, ai_ cy n1 40 fk, ai_ cy n2 40 fs, ai_ cy n3 40 fe, ai_ cy n4 40 fw, aq_ cy 6 clo 12 (gf_ rl), ai_ cy (rl 0) 12 (m_rl_1 0), ai_ cy (rl 1) 12 (m_rl_1 1), ai_ cy (rl 2) 12 (m_rl_1 2), ai_ cy (rl 3) 12 (m_rl_1 3), ai_ cy (rl 4) 12 (m_rl_1 4), ai_ cy (rl 5) 12 (m_rl_1 5), ai_ cy (rl 6) 12 e1_123, ai_ cy (rl 7) 12 (m_rl_1 7), ai_ cy (rl 8) 12 (m_rl_1 8), ai_ cy (rl 9) 12 (m_rl_1 9), ai_ cy (rl 10) 12 (m_rl_1 10), ai_ cy (rl 11) 12 (m_rl_1 11), ai_ cy c5 40 f5, ai_ cy c6 40 f6, aq_ cy 3 xk 5 (kf_ k0 k1 k2 k3 k4), ob6_0_ k0, ob5_0_ k1, ob9_0_ k2, ob2_0_ k3, ob8_0_ k4] [0, 1, 2, 3, 4, 5, 6, 7, 8, 9, 10, 11, 12, 26, 13, 14, 15, 16, 17, 18, 19, 20, 21, 22, 23, 24, 25] (by decide +kernel) rfl (fun hP hD => ?_)
        obtain ⟨M_125, eM_125⟩ : ∃ g : Nat → Nat → Int32, g = va_up m_rl_1 6 e1_123 := ⟨_, rfl⟩
        refine pd_K (D := D) (cl := vwCl) (H := H) (A := A) [ob0_0_ xc xn xk clo cro c4 c5 c6 c7 c8, ob3_0_ xn vp vn n1 n2 n3 n4 n5, ai_ cy n1 40 fk, ai_ cy n2 40 fs, ai_ cy n3 40 fe, ai_ cy n4 40 fw, aq_ cy 6 clo 12 (gf_ rl), ai_ cy (rl 0) 12 (M_125 0), ai_ cy (rl 1) 12 (M_125 1), ai_ cy (rl 2) 12 (M_125 2), ai_ cy (rl 3) 12 (M_125 3), ai_ cy (rl 4) 12 (M_125 4), ai_ cy (rl 5) 12 (M_125 5), ai_ cy (rl 6) 12 (M_125 6), ai_ cy (rl 7) 12 (M_125 7), ai_ cy (rl 8) 12 (M_125 8), ai_ cy (rl 9) 12 (M_125 9), ai_ cy (rl 10) 12 (M_125 10), ai_ cy (rl 11) 12 (M_125 11), ai_ cy c5 40 f5, ai_ cy c6 40 f6, aq_ cy 3 xk 5 (kf_ k0 k1 k2 k3 k4), ob6_0_ k0, ob5_0_ k1, ob9_0_ k2, ob2_0_ k3, ob8_0_ k4] (by rw [eM_125]; exact hP) (by rw [eM_125]; exact hD) (fun hP hD => ?_)
        obtain ⟨y_126, ey_126⟩ : ∃ y : Int32, y = (6 : Int32) + 1 := ⟨_, rfl⟩
        have ty_126 : y_126.toInt = (6 : Int32).toInt + (1 : Int32).toInt := by rw [ey_126]; exact addI (by omega) (by omega)
        refine lv_iinc (v := y_126) (lv' := [(2, .int y_126), (0, .ref xc), (1, .int a1)]) hx hb dB_36_0_18.2.2.1.2 hl (k := 0) rfl (by rw [ey_126]; rfl) (by decide) rfl (fun ls hl => ?_)
        refine lv_goto (tgt := 2) hx hb dB_36_0_18.2.2.2.1 (by decide) ?_
        exact ih_1 y_126 M_125 _ _ _ (by omega) (by first | with_reducible assumption | omega | assumption) (by first | with_reducible assumption | omega | assumption) ⟨hP, hD⟩ hS (lv_sub hl [0, 1, 2] rfl)
      · refine lv_aload_n hx hb dB_36_0_18.1.2.2.2 rfl (lv_at hl 1 rfl) ?_
        refine va_get (ci := 0) (v := .ref clo) (C := RX0) (T := TX0) (N := 9) hx hb hts (fun _ h => List.mem_cons_of_mem _ (List.mem_append_left _ (List.mem_append_right _ h))) hown hK.1 hP 0 rfl rfl 2 (by decide) (hts (.fieldLink RX0 11 "CutAtlas$Current" "lets" "[[I") (List.mem_of_getElem? (i := 3) rfl)) (fun _ h9 => h9) rfl dB_36_0_18.2.1.1.1 ?_
        refine lv_iload_n hx hb dB_36_0_18.2.1.1.2 rfl (lv_at hl 0 rfl) ?_
        have h_127 : vp_in (7 : Int32) 12 := by unfold vp_in; decide
        refine va_alda hx hb hG hP 6 rfl (i := 7) h_127 dB_36_0_18.2.1.2.1 ?_
        refine lv_topv (v' := .ref (rl 7)) (gf_at h_127) ?_
        refine lv_iconst (v := 0) hx hb dB_36_0_18.2.1.2.2 (by decide) ?_
        refine ct_S hP hD hS hA [ai_ cy (rl 7) 12 (m_rl_1 7)] [14] (by decide) rfl (fun hPc hDw hFc hC_ => ?_)
        refine va_callv (va_runS (As := [.ref (rl 7), .int 0]) (rest := []) ⟨hx, hb, hml, hown, hts⟩ (c_J7_fill_53178 l D cy H.size (rl 7) 12 (0 : Int32) (m_rl_1 7) (by first | with_reducible assumption | assumption | omega)) (va_cwS 2 hts gX0_load_J7_fill_53178 rfl rfl rfl hd_J7_fill_53178 ⟨Nat.le_of_ble_eq_true rfl, Nat.le_of_ble_eq_true rfl⟩) ⟨bl_, fun U hU hW => ⟨rfl, by rw [hU], by rw [hU]; exact hPc, kk_mv hW hK, hDw⟩⟩ rfl rfl hl.1 rfl (lv_room (Nat.le_of_ble_eq_true rfl)) dB_36_0_18.2.2.1.1 ⟨Nat.le_of_ble_eq_true rfl, Nat.le_of_ble_eq_true rfl⟩) hS (fun q _ h => hFc q h) hFc (fun u t H locs ht hvm hw hB hz1 hk1 hS => ?_)
        obtain ⟨e1_129, g_130, hP1, hD1⟩ := hB
        rw [ht] at hP1
        obtain ⟨hP, hD⟩ := va_join (wr := [ob0_0_ xc xn xk clo cro c4 c5 c6 c7 c8, ob3_0_ xn vp vn n1 n2 n3 n4 n5, ai_ cy n1 40 fk, ai_ cy n2 40 fs, ai_ cy n3 40 fe, ai_ cy n4 40 fw, aq_ cy 6 clo 12 (gf_ rl), ai_ cy (rl 0) 12 (m_rl_1 0), ai_ cy (rl 1) 12 (m_rl_1 1), ai_ cy (rl 2) 12 (m_rl_1 2), ai_ cy (rl 3) 12 (m_rl_1 3), ai_ cy (rl 4) 12 (m_rl_1 4), ai_ cy (rl 5) 12 (m_rl_1 5), ai_ cy (rl 6) 12 (m_rl_1 6), ai_ cy (rl 8) 12 (m_rl_1 8), ai_ cy (rl 9) 12 (m_rl_1 9), ai_ cy (rl 10) 12 (m_rl_1 10), ai_ cy (rl 11) 12 (m_rl_1 11), ai_ cy c5 40 f5, ai_ cy c6 40 f6, aq_ cy 3 xk 5 (kf_ k0 k1 k2 k3 k4), ob6_0_ k0, ob5_0_ k1, ob9_0_ k2, ob2_0_ k3, ob8_0_ k4]) (w1 := [ai_ cy (rl 7) 12 e1_129]) hP hD [14] [0, 1, 2, 3, 4, 5, 6, 7, 8, 9, 10, 11, 12, 13, 15, 16, 17, 18, 19, 20, 21, 22, 23, 24, 25, 26] hC_ rfl (by decide +kernel) (by decide +kernel) hk1 hFc hP1 hD1
        refine pd_S hP hD [ob0_0_ xc xn xk clo cro c4 c5 c6 c7 c8, ob3_0_ xn vp vn n1 n2 n3 n4 n5, ai_ cy n1 40 fk, ai_ cy n2 40 fs, ai_ cy n3 40 fe, ai_ cy n4 40 fw, aq_ cy 6 clo 12 (gf_ rl), ai_ cy (rl 0) 12 (m_rl_1 0), ai_ cy (rl 1) 12 (m_rl_1 1), ai_ cy (rl 2) 12 (m_rl_1 2), ai_ cy (rl 3) 12 (m_rl_1 3), ai_ cy (rl 4) 12 (m_rl_1 4), ai_ cy (rl 5) 12 (m_rl_1 5), ai_ cy (rl 6) 12 (m_rl_1 6), ai_ cy (rl 7) 12 e1_129, ai_ cy (rl 8) 12 (m_rl_1 8), ai_ cy (rl 9) 12 (m_rl_1 9), ai_ cy (rl 10) 12 (m_rl_1 10), ai_ cy (rl 11) 12 (m_rl_1 11), ai_ cy c5 40 f5, ai_ cy c6 40 f6, aq_ cy 3 xk 5 (kf_ k0 k1 k2 k3 k4), ob6_0_ k0, ob5_0_ k1, ob9_0_ k2, ob2_0_ k3, ob8_0_ k4] [0, 1, 2, 3, 4, 5, 6, 7, 8, 9, 10, 11, 12, 13, 26, 14, 15, 16, 17, 18, 19, 20, 21, 22, 23, 24, 25] (by decide +kernel) rfl (fun hP hD => ?_)
        obtain ⟨M_131, eM_131⟩ : ∃ g : Nat → Nat → Int32, g = va_up m_rl_1 7 e1_129 := ⟨_, rfl⟩
        refine pd_K (D := D) (cl := vwCl) (H := H) (A := A) [ob0_0_ xc xn xk clo cro c4 c5 c6 c7 c8, ob3_0_ xn vp vn n1 n2 n3 n4 n5, ai_ cy n1 40 fk, ai_ cy n2 40 fs, ai_ cy n3 40 fe, ai_ cy n4 40 fw, aq_ cy 6 clo 12 (gf_ rl), ai_ cy (rl 0) 12 (M_131 0), ai_ cy (rl 1) 12 (M_131 1), ai_ cy (rl 2) 12 (M_131 2), ai_ cy (rl 3) 12 (M_131 3), ai_ cy (rl 4) 12 (M_131 4), ai_ cy (rl 5) 12 (M_131 5), ai_ cy (rl 6) 12 (M_131 6), ai_ cy (rl 7) 12 (M_131 7), ai_ cy (rl 8) 12 (M_131 8), ai_ cy (rl 9) 12 (M_131 9), ai_ cy (rl 10) 12 (M_131 10), ai_ cy (rl 11) 12 (M_131 11), ai_ cy c5 40 f5, ai_ cy c6 40 f6, aq_ cy 3 xk 5 (kf_ k0 k1 k2 k3 k4), ob6_0_ k0, ob5_0_ k1, ob9_0_ k2, ob2_0_ k3, ob8_0_ k4] (by rw [eM_131]; exact hP) (by rw [eM_131]; exact hD) (fun hP hD => ?_)
        obtain ⟨y_132, ey_132⟩ : ∃ y : Int32, y = (7 : Int32) + 1 := ⟨_, rfl⟩
        have ty_132 : y_132.toInt = (7 : Int32).toInt + (1 : Int32).toInt := by rw [ey_132]; exact addI (by omega) (by omega)
        refine lv_iinc (v := y_132) (lv' := [(2, .int y_132), (0, .ref xc), (1, .int a1)]) hx hb dB_36_0_18.2.2.1.2 hl (k := 0) rfl (by rw [ey_132]; rfl) (by decide) rfl (fun ls hl => ?_)
        refine lv_goto (tgt := 2) hx hb dB_36_0_18.2.2.2.1 (by decide) ?_
        exact ih_1 y_132 M_131 _ _ _ (by omega) (by first | with_reducible assumption | omega | assumption) (by first | with_reducible assumption | omega | assumption) ⟨hP, hD⟩ hS (lv_sub hl [0, 1, 2] rfl)
      · refine lv_aload_n hx hb dB_36_0_18.1.2.2.2 rfl (lv_at hl 1 rfl) ?_
        refine va_get (ci := 0) (v := .ref clo) (C := RX0) (T := TX0) (N := 9) hx hb hts (fun _ h => List.mem_cons_of_mem _ (List.mem_append_left _ (List.mem_append_right _ h))) hown hK.1 hP 0 rfl rfl 2 (by decide) (hts (.fieldLink RX0 11 "CutAtlas$Current" "lets" "[[I") (List.mem_of_getElem? (i := 3) rfl)) (fun _ h9 => h9) rfl dB_36_0_18.2.1.1.1 ?_
        refine lv_iload_n hx hb dB_36_0_18.2.1.1.2 rfl (lv_at hl 0 rfl) ?_
        have h_133 : vp_in (8 : Int32) 12 := by unfold vp_in; decide
        refine va_alda hx hb hG hP 6 rfl (i := 8) h_133 dB_36_0_18.2.1.2.1 ?_
        refine lv_topv (v' := .ref (rl 8)) (gf_at h_133) ?_
        refine lv_iconst (v := 0) hx hb dB_36_0_18.2.1.2.2 (by decide) ?_
        refine ct_S hP hD hS hA [ai_ cy (rl 8) 12 (m_rl_1 8)] [15] (by decide) rfl (fun hPc hDw hFc hC_ => ?_)
        refine va_callv (va_runS (As := [.ref (rl 8), .int 0]) (rest := []) ⟨hx, hb, hml, hown, hts⟩ (c_J7_fill_53178 l D cy H.size (rl 8) 12 (0 : Int32) (m_rl_1 8) (by first | with_reducible assumption | assumption | omega)) (va_cwS 2 hts gX0_load_J7_fill_53178 rfl rfl rfl hd_J7_fill_53178 ⟨Nat.le_of_ble_eq_true rfl, Nat.le_of_ble_eq_true rfl⟩) ⟨bl_, fun U hU hW => ⟨rfl, by rw [hU], by rw [hU]; exact hPc, kk_mv hW hK, hDw⟩⟩ rfl rfl hl.1 rfl (lv_room (Nat.le_of_ble_eq_true rfl)) dB_36_0_18.2.2.1.1 ⟨Nat.le_of_ble_eq_true rfl, Nat.le_of_ble_eq_true rfl⟩) hS (fun q _ h => hFc q h) hFc (fun u t H locs ht hvm hw hB hz1 hk1 hS => ?_)
        obtain ⟨e1_135, g_136, hP1, hD1⟩ := hB
        rw [ht] at hP1
        obtain ⟨hP, hD⟩ := va_join (wr := [ob0_0_ xc xn xk clo cro c4 c5 c6 c7 c8, ob3_0_ xn vp vn n1 n2 n3 n4 n5, ai_ cy n1 40 fk, ai_ cy n2 40 fs, ai_ cy n3 40 fe, ai_ cy n4 40 fw, aq_ cy 6 clo 12 (gf_ rl), ai_ cy (rl 0) 12 (m_rl_1 0), ai_ cy (rl 1) 12 (m_rl_1 1), ai_ cy (rl 2) 12 (m_rl_1 2), ai_ cy (rl 3) 12 (m_rl_1 3), ai_ cy (rl 4) 12 (m_rl_1 4), ai_ cy (rl 5) 12 (m_rl_1 5), ai_ cy (rl 6) 12 (m_rl_1 6), ai_ cy (rl 7) 12 (m_rl_1 7), ai_ cy (rl 9) 12 (m_rl_1 9), ai_ cy (rl 10) 12 (m_rl_1 10), ai_ cy (rl 11) 12 (m_rl_1 11), ai_ cy c5 40 f5, ai_ cy c6 40 f6, aq_ cy 3 xk 5 (kf_ k0 k1 k2 k3 k4), ob6_0_ k0, ob5_0_ k1, ob9_0_ k2, ob2_0_ k3, ob8_0_ k4]) (w1 := [ai_ cy (rl 8) 12 e1_135]) hP hD [15] [0, 1, 2, 3, 4, 5, 6, 7, 8, 9, 10, 11, 12, 13, 14, 16, 17, 18, 19, 20, 21, 22, 23, 24, 25, 26] hC_ rfl (by decide +kernel) (by decide +kernel) hk1 hFc hP1 hD1
        refine pd_S hP hD [ob0_0_ xc xn xk clo cro c4 c5 c6 c7 c8, ob3_0_ xn vp vn n1 n2 n3 n4 n5, ai_ cy n1 40 fk, ai_ cy n2 40 fs, ai_ cy n3 40 fe, ai_ cy n4 40 fw, aq_ cy 6 clo 12 (gf_ rl), ai_ cy (rl 0) 12 (m_rl_1 0), ai_ cy (rl 1) 12 (m_rl_1 1), ai_ cy (rl 2) 12 (m_rl_1 2), ai_ cy (rl 3) 12 (m_rl_1 3), ai_ cy (rl 4) 12 (m_rl_1 4), ai_ cy (rl 5) 12 (m_rl_1 5), ai_ cy (rl 6) 12 (m_rl_1 6), ai_ cy (rl 7) 12 (m_rl_1 7), ai_ cy (rl 8) 12 e1_135, ai_ cy (rl 9) 12 (m_rl_1 9), ai_ cy (rl 10) 12 (m_rl_1 10), ai_ cy (rl 11) 12 (m_rl_1 11), ai_ cy c5 40 f5, ai_ cy c6 40 f6, aq_ cy 3 xk 5 (kf_ k0 k1 k2 k3 k4), ob6_0_ k0, ob5_0_ k1, ob9_0_ k2, ob2_0_ k3, ob8_0_ k4] [0, 1, 2, 3, 4, 5, 6, 7, 8, 9, 10, 11, 12, 13, 14, 26, 15, 16, 17, 18, 19, 20, 21, 22, 23, 24, 25] (by decide +kernel) rfl (fun hP hD => ?_)
        obtain ⟨M_137, eM_137⟩ : ∃ g : Nat → Nat → Int32, g = va_up m_rl_1 8 e1_135 := ⟨_, rfl⟩
        refine pd_K (D := D) (cl := vwCl) (H := H) (A := A) [ob0_0_ xc xn xk clo cro c4 c5 c6 c7 c8, ob3_0_ xn vp vn n1 n2 n3 n4 n5, ai_ cy n1 40 fk, ai_ cy n2 40 fs, ai_ cy n3 40 fe, ai_ cy n4 40 fw, aq_ cy 6 clo 12 (gf_ rl), ai_ cy (rl 0) 12 (M_137 0), ai_ cy (rl 1) 12 (M_137 1), ai_ cy (rl 2) 12 (M_137 2), ai_ cy (rl 3) 12 (M_137 3), ai_ cy (rl 4) 12 (M_137 4), ai_ cy (rl 5) 12 (M_137 5), ai_ cy (rl 6) 12 (M_137 6), ai_ cy (rl 7) 12 (M_137 7), ai_ cy (rl 8) 12 (M_137 8), ai_ cy (rl 9) 12 (M_137 9), ai_ cy (rl 10) 12 (M_137 10), ai_ cy (rl 11) 12 (M_137 11), ai_ cy c5 40 f5, ai_ cy c6 40 f6, aq_ cy 3 xk 5 (kf_ k0 k1 k2 k3 k4), ob6_0_ k0, ob5_0_ k1, ob9_0_ k2, ob2_0_ k3, ob8_0_ k4] (by rw [eM_137]; exact hP) (by rw [eM_137]; exact hD) (fun hP hD => ?_)
        obtain ⟨y_138, ey_138⟩ : ∃ y : Int32, y = (8 : Int32) + 1 := ⟨_, rfl⟩
        have ty_138 : y_138.toInt = (8 : Int32).toInt + (1 : Int32).toInt := by rw [ey_138]; exact addI (by omega) (by omega)
        refine lv_iinc (v := y_138) (lv' := [(2, .int y_138), (0, .ref xc), (1, .int a1)]) hx hb dB_36_0_18.2.2.1.2 hl (k := 0) rfl (by rw [ey_138]; rfl) (by decide) rfl (fun ls hl => ?_)
        refine lv_goto (tgt := 2) hx hb dB_36_0_18.2.2.2.1 (by decide) ?_
        exact ih_1 y_138 M_137 _ _ _ (by omega) (by first | with_reducible assumption | omega | assumption) (by first | with_reducible assumption | omega | assumption) ⟨hP, hD⟩ hS (lv_sub hl [0, 1, 2] rfl)
      · refine lv_aload_n hx hb dB_36_0_18.1.2.2.2 rfl (lv_at hl 1 rfl) ?_
        refine va_get (ci := 0) (v := .ref clo) (C := RX0) (T := TX0) (N := 9) hx hb hts (fun _ h => List.mem_cons_of_mem _ (List.mem_append_left _ (List.mem_append_right _ h))) hown hK.1 hP 0 rfl rfl 2 (by decide) (hts (.fieldLink RX0 11 "CutAtlas$Current" "lets" "[[I") (List.mem_of_getElem? (i := 3) rfl)) (fun _ h9 => h9) rfl dB_36_0_18.2.1.1.1 ?_
        refine lv_iload_n hx hb dB_36_0_18.2.1.1.2 rfl (lv_at hl 0 rfl) ?_
        have h_139 : vp_in (9 : Int32) 12 := by unfold vp_in; decide
        refine va_alda hx hb hG hP 6 rfl (i := 9) h_139 dB_36_0_18.2.1.2.1 ?_
        refine lv_topv (v' := .ref (rl 9)) (gf_at h_139) ?_
        refine lv_iconst (v := 0) hx hb dB_36_0_18.2.1.2.2 (by decide) ?_
        refine ct_S hP hD hS hA [ai_ cy (rl 9) 12 (m_rl_1 9)] [16] (by decide) rfl (fun hPc hDw hFc hC_ => ?_)
        refine va_callv (va_runS (As := [.ref (rl 9), .int 0]) (rest := []) ⟨hx, hb, hml, hown, hts⟩ (c_J7_fill_53178 l D cy H.size (rl 9) 12 (0 : Int32) (m_rl_1 9) (by first | with_reducible assumption | assumption | omega)) (va_cwS 2 hts gX0_load_J7_fill_53178 rfl rfl rfl hd_J7_fill_53178 ⟨Nat.le_of_ble_eq_true rfl, Nat.le_of_ble_eq_true rfl⟩) ⟨bl_, fun U hU hW => ⟨rfl, by rw [hU], by rw [hU]; exact hPc, kk_mv hW hK, hDw⟩⟩ rfl rfl hl.1 rfl (lv_room (Nat.le_of_ble_eq_true rfl)) dB_36_0_18.2.2.1.1 ⟨Nat.le_of_ble_eq_true rfl, Nat.le_of_ble_eq_true rfl⟩) hS (fun q _ h => hFc q h) hFc (fun u t H locs ht hvm hw hB hz1 hk1 hS => ?_)
        obtain ⟨e1_141, g_142, hP1, hD1⟩ := hB
        rw [ht] at hP1
        obtain ⟨hP, hD⟩ := va_join (wr := [ob0_0_ xc xn xk clo cro c4 c5 c6 c7 c8, ob3_0_ xn vp vn n1 n2 n3 n4 n5, ai_ cy n1 40 fk, ai_ cy n2 40 fs, ai_ cy n3 40 fe, ai_ cy n4 40 fw, aq_ cy 6 clo 12 (gf_ rl), ai_ cy (rl 0) 12 (m_rl_1 0), ai_ cy (rl 1) 12 (m_rl_1 1), ai_ cy (rl 2) 12 (m_rl_1 2), ai_ cy (rl 3) 12 (m_rl_1 3), ai_ cy (rl 4) 12 (m_rl_1 4), ai_ cy (rl 5) 12 (m_rl_1 5), ai_ cy (rl 6) 12 (m_rl_1 6), ai_ cy (rl 7) 12 (m_rl_1 7), ai_ cy (rl 8) 12 (m_rl_1 8), ai_ cy (rl 10) 12 (m_rl_1 10), ai_ cy (rl 11) 12 (m_rl_1 11), ai_ cy c5 40 f5, ai_ cy c6 40 f6, aq_ cy 3 xk 5 (kf_ k0 k1 k2 k3 k4), ob6_0_ k0, ob5_0_ k1, ob9_0_ k2, ob2_0_ k3, ob8_0_ k4]) (w1 := [ai_ cy (rl 9) 12 e1_141]) hP hD [16] [0, 1, 2, 3, 4, 5, 6, 7, 8, 9, 10, 11, 12, 13, 14, 15, 17, 18, 19, 20, 21, 22, 23, 24, 25, 26] hC_ rfl (by decide +kernel) (by decide +kernel) hk1 hFc hP1 hD1
        refine pd_S hP hD [ob0_0_ xc xn xk clo cro c4 c5 c6 c7 c8, ob3_0_ xn vp vn n1 n2 n3 n4 n5, ai_ cy n1 40 fk, ai_ cy n2 40 fs, ai_ cy n3 40 fe, ai_ cy n4 40 fw, aq_ cy 6 clo 12 (gf_ rl), ai_ cy (rl 0) 12 (m_rl_1 0), ai_ cy (rl 1) 12 (m_rl_1 1), ai_ cy (rl 2) 12 (m_rl_1 2), ai_ cy (rl 3) 12 (m_rl_1 3), ai_ cy (rl 4) 12 (m_rl_1 4), ai_ cy (rl 5) 12 (m_rl_1 5), ai_ cy (rl 6) 12 (m_rl_1 6), ai_ cy (rl 7) 12 (m_rl_1 7), ai_ cy (rl 8) 12 (m_rl_1 8), ai_ cy (rl 9) 12 e1_141, ai_ cy (rl 10) 12 (m_rl_1 10), ai_ cy (rl 11) 12 (m_rl_1 11), ai_ cy c5 40 f5, ai_ cy c6 40 f6, aq_ cy 3 xk 5 (kf_ k0 k1 k2 k3 k4), ob6_0_ k0, ob5_0_ k1, ob9_0_ k2, ob2_0_ k3, ob8_0_ k4] [0, 1, 2, 3, 4, 5, 6, 7, 8, 9, 10, 11, 12, 13, 14, 15, 26, 16, 17, 18, 19, 20, 21, 22, 23, 24, 25] (by decide +kernel) rfl (fun hP hD => ?_)
        obtain ⟨M_143, eM_143⟩ : ∃ g : Nat → Nat → Int32, g = va_up m_rl_1 9 e1_141 := ⟨_, rfl⟩
        refine pd_K (D := D) (cl := vwCl) (H := H) (A := A) [ob0_0_ xc xn xk clo cro c4 c5 c6 c7 c8, ob3_0_ xn vp vn n1 n2 n3 n4 n5, ai_ cy n1 40 fk, ai_ cy n2 40 fs, ai_ cy n3 40 fe, ai_ cy n4 40 fw, aq_ cy 6 clo 12 (gf_ rl), ai_ cy (rl 0) 12 (M_143 0), ai_ cy (rl 1) 12 (M_143 1), ai_ cy (rl 2) 12 (M_143 2), ai_ cy (rl 3) 12 (M_143 3), ai_ cy (rl 4) 12 (M_143 4), ai_ cy (rl 5) 12 (M_143 5), ai_ cy (rl 6) 12 (M_143 6), ai_ cy (rl 7) 12 (M_143 7), ai_ cy (rl 8) 12 (M_143 8), ai_ cy (rl 9) 12 (M_143 9), ai_ cy (rl 10) 12 (M_143 10), ai_ cy (rl 11) 12 (M_143 11), ai_ cy c5 40 f5, ai_ cy c6 40 f6, aq_ cy 3 xk 5 (kf_ k0 k1 k2 k3 k4), ob6_0_ k0, ob5_0_ k1, ob9_0_ k2, ob2_0_ k3, ob8_0_ k4] (by rw [eM_143]; exact hP) (by rw [eM_143]; exact hD) (fun hP hD => ?_)
        obtain ⟨y_144, ey_144⟩ : ∃ y : Int32, y = (9 : Int32) + 1 := ⟨_, rfl⟩
        have ty_144 : y_144.toInt = (9 : Int32).toInt + (1 : Int32).toInt := by rw [ey_144]; exact addI (by omega) (by omega)
        refine lv_iinc (v := y_144) (lv' := [(2, .int y_144), (0, .ref xc), (1, .int a1)]) hx hb dB_36_0_18.2.2.1.2 hl (k := 0) rfl (by rw [ey_144]; rfl) (by decide) rfl (fun ls hl => ?_)
        refine lv_goto (tgt := 2) hx hb dB_36_0_18.2.2.2.1 (by decide) ?_
        exact ih_1 y_144 M_143 _ _ _ (by omega) (by first | with_reducible assumption | omega | assumption) (by first | with_reducible assumption | omega | assumption) ⟨hP, hD⟩ hS (lv_sub hl [0, 1, 2] rfl)
      · refine lv_aload_n hx hb dB_36_0_18.1.2.2.2 rfl (lv_at hl 1 rfl) ?_
        refine va_get (ci := 0) (v := .ref clo) (C := RX0) (T := TX0) (N := 9) hx hb hts (fun _ h => List.mem_cons_of_mem _ (List.mem_append_left _ (List.mem_append_right _ h))) hown hK.1 hP 0 rfl rfl 2 (by decide) (hts (.fieldLink RX0 11 "CutAtlas$Current" "lets" "[[I") (List.mem_of_getElem? (i := 3) rfl)) (fun _ h9 => h9) rfl dB_36_0_18.2.1.1.1 ?_
        refine lv_iload_n hx hb dB_36_0_18.2.1.1.2 rfl (lv_at hl 0 rfl) ?_
        have h_145 : vp_in (10 : Int32) 12 := by unfold vp_in; decide
        refine va_alda hx hb hG hP 6 rfl (i := 10) h_145 dB_36_0_18.2.1.2.1 ?_
        refine lv_topv (v' := .ref (rl 10)) (gf_at h_145) ?_
        refine lv_iconst (v := 0) hx hb dB_36_0_18.2.1.2.2 (by decide) ?_
        refine ct_S hP hD hS hA [ai_ cy (rl 10) 12 (m_rl_1 10)] [17] (by decide) rfl (fun hPc hDw hFc hC_ => ?_)
        refine va_callv (va_runS (As := [.ref (rl 10), .int 0]) (rest := []) ⟨hx, hb, hml, hown, hts⟩ (c_J7_fill_53178 l D cy H.size (rl 10) 12 (0 : Int32) (m_rl_1 10) (by first | with_reducible assumption | assumption | omega)) (va_cwS 2 hts gX0_load_J7_fill_53178 rfl rfl rfl hd_J7_fill_53178 ⟨Nat.le_of_ble_eq_true rfl, Nat.le_of_ble_eq_true rfl⟩) ⟨bl_, fun U hU hW => ⟨rfl, by rw [hU], by rw [hU]; exact hPc, kk_mv hW hK, hDw⟩⟩ rfl rfl hl.1 rfl (lv_room (Nat.le_of_ble_eq_true rfl)) dB_36_0_18.2.2.1.1 ⟨Nat.le_of_ble_eq_true rfl, Nat.le_of_ble_eq_true rfl⟩) hS (fun q _ h => hFc q h) hFc (fun u t H locs ht hvm hw hB hz1 hk1 hS => ?_)
        obtain ⟨e1_147, g_148, hP1, hD1⟩ := hB
        rw [ht] at hP1
        obtain ⟨hP, hD⟩ := va_join (wr := [ob0_0_ xc xn xk clo cro c4 c5 c6 c7 c8, ob3_0_ xn vp vn n1 n2 n3 n4 n5, ai_ cy n1 40 fk, ai_ cy n2 40 fs, ai_ cy n3 40 fe, ai_ cy n4 40 fw, aq_ cy 6 clo 12 (gf_ rl), ai_ cy (rl 0) 12 (m_rl_1 0), ai_ cy (rl 1) 12 (m_rl_1 1), ai_ cy (rl 2) 12 (m_rl_1 2), ai_ cy (rl 3) 12 (m_rl_1 3), ai_ cy (rl 4) 12 (m_rl_1 4), ai_ cy (rl 5) 12 (m_rl_1 5), ai_ cy (rl 6) 12 (m_rl_1 6), ai_ cy (rl 7) 12 (m_rl_1 7), ai_ cy (rl 8) 12 (m_rl_1 8), ai_ cy (rl 9) 12 (m_rl_1 9), ai_ cy (rl 11) 12 (m_rl_1 11), ai_ cy c5 40 f5, ai_ cy c6 40 f6, aq_ cy 3 xk 5 (kf_ k0 k1 k2 k3 k4), ob6_0_ k0, ob5_0_ k1, ob9_0_ k2, ob2_0_ k3, ob8_0_ k4]) (w1 := [ai_ cy (rl 10) 12 e1_147]) hP hD [17] [0, 1, 2, 3, 4, 5, 6, 7, 8, 9, 10, 11, 12, 13, 14, 15, 16, 18, 19, 20, 21, 22, 23, 24, 25, 26] hC_ rfl (by decide +kernel) (by decide +kernel) hk1 hFc hP1 hD1
        refine pd_S hP hD [ob0_0_ xc xn xk clo cro c4 c5 c6 c7 c8, ob3_0_ xn vp vn n1 n2 n3 n4 n5, ai_ cy n1 40 fk, ai_ cy n2 40 fs, ai_ cy n3 40 fe, ai_ cy n4 40 fw, aq_ cy 6 clo 12 (gf_ rl), ai_ cy (rl 0) 12 (m_rl_1 0), ai_ cy (rl 1) 12 (m_rl_1 1), ai_ cy (rl 2) 12 (m_rl_1 2), ai_ cy (rl 3) 12 (m_rl_1 3), ai_ cy (rl 4) 12 (m_rl_1 4), ai_ cy (rl 5) 12 (m_rl_1 5), ai_ cy (rl 6) 12 (m_rl_1 6), ai_ cy (rl 7) 12 (m_rl_1 7), ai_ cy (rl 8) 12 (m_rl_1 8), ai_ cy (rl 9) 12 (m_rl_1 9), ai_ cy (rl 10) 12 e1_147, ai_ cy (rl 11) 12 (m_rl_1 11), ai_ cy c5 40 f5, ai_ cy c6 40 f6, aq_ cy 3 xk 5 (kf_ k0 k1 k2 k3 k4), ob6_0_ k0, ob5_0_ k1, ob9_0_ k2, ob2_0_ k3, ob8_0_ k4] [0, 1, 2, 3, 4, 5, 6, 7, 8, 9, 10, 11, 12, 13, 14, 15, 16, 26, 17, 18, 19, 20, 21, 22, 23, 24, 25] (by decide +kernel) rfl (fun hP hD => ?_)
        obtain ⟨M_149, eM_149⟩ : ∃ g : Nat → Nat → Int32, g = va_up m_rl_1 10 e1_147 := ⟨_, rfl⟩
        refine pd_K (D := D) (cl := vwCl) (H := H) (A := A) [ob0_0_ xc xn xk clo cro c4 c5 c6 c7 c8, ob3_0_ xn vp vn n1 n2 n3 n4 n5, ai_ cy n1 40 fk, ai_ cy n2 40 fs, ai_ cy n3 40 fe, ai_ cy n4 40 fw, aq_ cy 6 clo 12 (gf_ rl), ai_ cy (rl 0) 12 (M_149 0), ai_ cy (rl 1) 12 (M_149 1), ai_ cy (rl 2) 12 (M_149 2), ai_ cy (rl 3) 12 (M_149 3), ai_ cy (rl 4) 12 (M_149 4), ai_ cy (rl 5) 12 (M_149 5), ai_ cy (rl 6) 12 (M_149 6), ai_ cy (rl 7) 12 (M_149 7), ai_ cy (rl 8) 12 (M_149 8), ai_ cy (rl 9) 12 (M_149 9), ai_ cy (rl 10) 12 (M_149 10), ai_ cy (rl 11) 12 (M_149 11), ai_ cy c5 40 f5, ai_ cy c6 40 f6, aq_ cy 3 xk 5 (kf_ k0 k1 k2 k3 k4), ob6_0_ k0, ob5_0_ k1, ob9_0_ k2, ob2_0_ k3, ob8_0_ k4] (by rw [eM_149]; exact hP) (by rw [eM_149]; exact hD) (fun hP hD => ?_)
        obtain ⟨y_150, ey_150⟩ : ∃ y : Int32, y = (10 : Int32) + 1 := ⟨_, rfl⟩
        have ty_150 : y_150.toInt = (10 : Int32).toInt + (1 : Int32).toInt := by rw [ey_150]; exact addI (by omega) (by omega)
        refine lv_iinc (v := y_150) (lv' := [(2, .int y_150), (0, .ref xc), (1, .int a1)]) hx hb dB_36_0_18.2.2.1.2 hl (k := 0) rfl (by rw [ey_150]; rfl) (by decide) rfl (fun ls hl => ?_)
        refine lv_goto (tgt := 2) hx hb dB_36_0_18.2.2.2.1 (by decide) ?_
        exact ih_1 y_150 M_149 _ _ _ (by omega) (by first | with_reducible assumption | omega | assumption) (by first | with_reducible assumption | omega | assumption) ⟨hP, hD⟩ hS (lv_sub hl [0, 1, 2] rfl)
      · refine lv_aload_n hx hb dB_36_0_18.1.2.2.2 rfl (lv_at hl 1 rfl) ?_
        refine va_get (ci := 0) (v := .ref clo) (C := RX0) (T := TX0) (N := 9) hx hb hts (fun _ h => List.mem_cons_of_mem _ (List.mem_append_left _ (List.mem_append_right _ h))) hown hK.1 hP 0 rfl rfl 2 (by decide) (hts (.fieldLink RX0 11 "CutAtlas$Current" "lets" "[[I") (List.mem_of_getElem? (i := 3) rfl)) (fun _ h9 => h9) rfl dB_36_0_18.2.1.1.1 ?_
        refine lv_iload_n hx hb dB_36_0_18.2.1.1.2 rfl (lv_at hl 0 rfl) ?_
        have h_151 : vp_in (11 : Int32) 12 := by unfold vp_in; decide
        refine va_alda hx hb hG hP 6 rfl (i := 11) h_151 dB_36_0_18.2.1.2.1 ?_
        refine lv_topv (v' := .ref (rl 11)) (gf_at h_151) ?_
        refine lv_iconst (v := 0) hx hb dB_36_0_18.2.1.2.2 (by decide) ?_
        refine ct_S hP hD hS hA [ai_ cy (rl 11) 12 (m_rl_1 11)] [18] (by decide) rfl (fun hPc hDw hFc hC_ => ?_)
        refine va_callv (va_runS (As := [.ref (rl 11), .int 0]) (rest := []) ⟨hx, hb, hml, hown, hts⟩ (c_J7_fill_53178 l D cy H.size (rl 11) 12 (0 : Int32) (m_rl_1 11) (by first | with_reducible assumption | assumption | omega)) (va_cwS 2 hts gX0_load_J7_fill_53178 rfl rfl rfl hd_J7_fill_53178 ⟨Nat.le_of_ble_eq_true rfl, Nat.le_of_ble_eq_true rfl⟩) ⟨bl_, fun U hU hW => ⟨rfl, by rw [hU], by rw [hU]; exact hPc, kk_mv hW hK, hDw⟩⟩ rfl rfl hl.1 rfl (lv_room (Nat.le_of_ble_eq_true rfl)) dB_36_0_18.2.2.1.1 ⟨Nat.le_of_ble_eq_true rfl, Nat.le_of_ble_eq_true rfl⟩) hS (fun q _ h => hFc q h) hFc (fun u t H locs ht hvm hw hB hz1 hk1 hS => ?_)
        obtain ⟨e1_153, g_154, hP1, hD1⟩ := hB
        rw [ht] at hP1
        obtain ⟨hP, hD⟩ := va_join (wr := [ob0_0_ xc xn xk clo cro c4 c5 c6 c7 c8, ob3_0_ xn vp vn n1 n2 n3 n4 n5, ai_ cy n1 40 fk, ai_ cy n2 40 fs, ai_ cy n3 40 fe, ai_ cy n4 40 fw, aq_ cy 6 clo 12 (gf_ rl), ai_ cy (rl 0) 12 (m_rl_1 0), ai_ cy (rl 1) 12 (m_rl_1 1), ai_ cy (rl 2) 12 (m_rl_1 2), ai_ cy (rl 3) 12 (m_rl_1 3), ai_ cy (rl 4) 12 (m_rl_1 4), ai_ cy (rl 5) 12 (m_rl_1 5), ai_ cy (rl 6) 12 (m_rl_1 6), ai_ cy (rl 7) 12 (m_rl_1 7), ai_ cy (rl 8) 12 (m_rl_1 8), ai_ cy (rl 9) 12 (m_rl_1 9), ai_ cy (rl 10) 12 (m_rl_1 10), ai_ cy c5 40 f5, ai_ cy c6 40 f6, aq_ cy 3 xk 5 (kf_ k0 k1 k2 k3 k4), ob6_0_ k0, ob5_0_ k1, ob9_0_ k2, ob2_0_ k3, ob8_0_ k4]) (w1 := [ai_ cy (rl 11) 12 e1_153]) hP hD [18] [0, 1, 2, 3, 4, 5, 6, 7, 8, 9, 10, 11, 12, 13, 14, 15, 16, 17, 19, 20, 21, 22, 23, 24, 25, 26] hC_ rfl (by decide +kernel) (by decide +kernel) hk1 hFc hP1 hD1
        refine pd_S hP hD [ob0_0_ xc xn xk clo cro c4 c5 c6 c7 c8, ob3_0_ xn vp vn n1 n2 n3 n4 n5, ai_ cy n1 40 fk, ai_ cy n2 40 fs, ai_ cy n3 40 fe, ai_ cy n4 40 fw, aq_ cy 6 clo 12 (gf_ rl), ai_ cy (rl 0) 12 (m_rl_1 0), ai_ cy (rl 1) 12 (m_rl_1 1), ai_ cy (rl 2) 12 (m_rl_1 2), ai_ cy (rl 3) 12 (m_rl_1 3), ai_ cy (rl 4) 12 (m_rl_1 4), ai_ cy (rl 5) 12 (m_rl_1 5), ai_ cy (rl 6) 12 (m_rl_1 6), ai_ cy (rl 7) 12 (m_rl_1 7), ai_ cy (rl 8) 12 (m_rl_1 8), ai_ cy (rl 9) 12 (m_rl_1 9), ai_ cy (rl 10) 12 (m_rl_1 10), ai_ cy (rl 11) 12 e1_153, ai_ cy c5 40 f5, ai_ cy c6 40 f6, aq_ cy 3 xk 5 (kf_ k0 k1 k2 k3 k4), ob6_0_ k0, ob5_0_ k1, ob9_0_ k2, ob2_0_ k3, ob8_0_ k4] [0, 1, 2, 3, 4, 5, 6, 7, 8, 9, 10, 11, 12, 13, 14, 15, 16, 17, 26, 18, 19, 20, 21, 22, 23, 24, 25] (by decide +kernel) rfl (fun hP hD => ?_)
        obtain ⟨M_155, eM_155⟩ : ∃ g : Nat → Nat → Int32, g = va_up m_rl_1 11 e1_153 := ⟨_, rfl⟩
        refine pd_K (D := D) (cl := vwCl) (H := H) (A := A) [ob0_0_ xc xn xk clo cro c4 c5 c6 c7 c8, ob3_0_ xn vp vn n1 n2 n3 n4 n5, ai_ cy n1 40 fk, ai_ cy n2 40 fs, ai_ cy n3 40 fe, ai_ cy n4 40 fw, aq_ cy 6 clo 12 (gf_ rl), ai_ cy (rl 0) 12 (M_155 0), ai_ cy (rl 1) 12 (M_155 1), ai_ cy (rl 2) 12 (M_155 2), ai_ cy (rl 3) 12 (M_155 3), ai_ cy (rl 4) 12 (M_155 4), ai_ cy (rl 5) 12 (M_155 5), ai_ cy (rl 6) 12 (M_155 6), ai_ cy (rl 7) 12 (M_155 7), ai_ cy (rl 8) 12 (M_155 8), ai_ cy (rl 9) 12 (M_155 9), ai_ cy (rl 10) 12 (M_155 10), ai_ cy (rl 11) 12 (M_155 11), ai_ cy c5 40 f5, ai_ cy c6 40 f6, aq_ cy 3 xk 5 (kf_ k0 k1 k2 k3 k4), ob6_0_ k0, ob5_0_ k1, ob9_0_ k2, ob2_0_ k3, ob8_0_ k4] (by rw [eM_155]; exact hP) (by rw [eM_155]; exact hD) (fun hP hD => ?_)
        obtain ⟨y_156, ey_156⟩ : ∃ y : Int32, y = (11 : Int32) + 1 := ⟨_, rfl⟩
        have ty_156 : y_156.toInt = (11 : Int32).toInt + (1 : Int32).toInt := by rw [ey_156]; exact addI (by omega) (by omega)
        refine lv_iinc (v := y_156) (lv' := [(2, .int y_156), (0, .ref xc), (1, .int a1)]) hx hb dB_36_0_18.2.2.1.2 hl (k := 0) rfl (by rw [ey_156]; rfl) (by decide) rfl (fun ls hl => ?_)
        refine lv_goto (tgt := 2) hx hb dB_36_0_18.2.2.2.1 (by decide) ?_
        exact ih_1 y_156 M_155 _ _ _ (by omega) (by first | with_reducible assumption | omega | assumption) (by first | with_reducible assumption | omega | assumption) ⟨hP, hD⟩ hS (lv_sub hl [0, 1, 2] rfl)
end

section
set_option maxHeartbeats 4000000 in
set_option maxRecDepth 100000 in
theorem c_X0_fill (l : Launch) (D : va_G) (cy : Nat → ClassId) (sz : Nat) (xc : Nat) (xk : Nat) (clo : Nat) (cro : Nat) (c4 : Nat) (c5 : Nat) (c6 : Nat) (c7 : Nat) (c8 : Nat) (xn : Nat) (n1 : Nat) (n2 : Nat) (n3 : Nat) (n4 : Nat) (n5 : Nat) (vp : Int32) (vn : Int32) (fs : Nat → Int32) (fe : Nat → Int32) (rl : Nat → Nat) (Ml : Nat → Nat → Int32) (rr : Nat → Nat) (Mr : Nat → Nat → Int32) (f4 : Nat → Int32) (f5 : Nat → Int32) (f6 : Nat → Int32) (f7 : Nat → Int32) (f8 : Nat → Int32) (a1 : Int32) (a2 : Int32) (hvp : 0 ≤ vp.toInt ∧ vp.toInt ≤ 12) (hvn : 0 ≤ vn.toInt ∧ vn.toInt ≤ 40) (q1 : 0 ≤ a1.toInt ∧ a1.toInt ≤ 11) (q2 : 0 ≤ a2.toInt ∧ a2.toInt ≤ 11) (r_f7 : rng f7 12 (0) (11)) (r_f8 : rng f8 12 (0) (11)) : Met l yX0_fill wsX0_fill ({ frames := 3, cells := 0, slots := 0, locals := 64 }) (va_Pc [.ref xc, .int a1, .int a2] (fun U => U.heap.size = sz ∧ va_P D vwCl [ob0_0_ xc xn xk clo cro c4 c5 c6 c7 c8, ob3_0_ xn vp vn n1 n2 n3 n4 n5, ai_ cy n2 40 fs, ai_ cy n3 40 fe, aq_ cy 6 clo 12 (gf_ rl), ai_ cy (rl 0) 12 (Ml 0), ai_ cy (rl 1) 12 (Ml 1), ai_ cy (rl 2) 12 (Ml 2), ai_ cy (rl 3) 12 (Ml 3), ai_ cy (rl 4) 12 (Ml 4), ai_ cy (rl 5) 12 (Ml 5), ai_ cy (rl 6) 12 (Ml 6), ai_ cy (rl 7) 12 (Ml 7), ai_ cy (rl 8) 12 (Ml 8), ai_ cy (rl 9) 12 (Ml 9), ai_ cy (rl 10) 12 (Ml 10), ai_ cy (rl 11) 12 (Ml 11), aq_ cy 6 cro 12 (gf_ rr), ai_ cy (rr 0) 12 (Mr 0), ai_ cy (rr 1) 12 (Mr 1), ai_ cy (rr 2) 12 (Mr 2), ai_ cy (rr 3) 12 (Mr 3), ai_ cy (rr 4) 12 (Mr 4), ai_ cy (rr 5) 12 (Mr 5), ai_ cy (rr 6) 12 (Mr 6), ai_ cy (rr 7) 12 (Mr 7), ai_ cy (rr 8) 12 (Mr 8), ai_ cy (rr 9) 12 (Mr 9), ai_ cy (rr 10) 12 (Mr 10), ai_ cy (rr 11) 12 (Mr 11), ai_ cy c4 40 f4, ai_ cy c5 40 f5, ai_ cy c6 40 f6, ai_ cy c7 12 f7, ai_ cy c8 12 f8] U.heap ∧ kg_ D cy U ∧ va_D (fun _ => True) [ob0_0_ xc xn xk clo cro c4 c5 c6 c7 c8, ob3_0_ xn vp vn n1 n2 n3 n4 n5, ai_ cy n2 40 fs, ai_ cy n3 40 fe, aq_ cy 6 clo 12 (gf_ rl), ai_ cy (rl 0) 12 (Ml 0), ai_ cy (rl 1) 12 (Ml 1), ai_ cy (rl 2) 12 (Ml 2), ai_ cy (rl 3) 12 (Ml 3), ai_ cy (rl 4) 12 (Ml 4), ai_ cy (rl 5) 12 (Ml 5), ai_ cy (rl 6) 12 (Ml 6), ai_ cy (rl 7) 12 (Ml 7), ai_ cy (rl 8) 12 (Ml 8), ai_ cy (rl 9) 12 (Ml 9), ai_ cy (rl 10) 12 (Ml 10), ai_ cy (rl 11) 12 (Ml 11), aq_ cy 6 cro 12 (gf_ rr), ai_ cy (rr 0) 12 (Mr 0), ai_ cy (rr 1) 12 (Mr 1), ai_ cy (rr 2) 12 (Mr 2), ai_ cy (rr 3) 12 (Mr 3), ai_ cy (rr 4) 12 (Mr 4), ai_ cy (rr 5) 12 (Mr 5), ai_ cy (rr 6) 12 (Mr 6), ai_ cy (rr 7) 12 (Mr 7), ai_ cy (rr 8) 12 (Mr 8), ai_ cy (rr 9) 12 (Mr 9), ai_ cy (rr 10) 12 (Mr 10), ai_ cy (rr 11) 12 (Mr 11), ai_ cy c4 40 f4, ai_ cy c5 40 f5, ai_ cy c6 40 f6, ai_ cy c7 12 f7, ai_ cy c8 12 f8])) (va_Qi (fun (r : Int32) (_ : Unit) => True) (fun (_ : Unit) (t : State) => ∃ (eMr : Nat → Nat → Int32), ∃ (e4 : Nat → Int32), ∃ (e7 : Nat → Int32), ∃ (e8 : Nat → Int32), (rng e7 12 (0) (11)) ∧ (rng e8 12 (0) (11)) ∧ va_P D vwCl [ob0_0_ xc xn xk clo cro c4 c5 c6 c7 c8, ob3_0_ xn vp vn n1 n2 n3 n4 n5, ai_ cy n2 40 fs, ai_ cy n3 40 fe, aq_ cy 6 clo 12 (gf_ rl), ai_ cy (rl 0) 12 (Ml 0), ai_ cy (rl 1) 12 (Ml 1), ai_ cy (rl 2) 12 (Ml 2), ai_ cy (rl 3) 12 (Ml 3), ai_ cy (rl 4) 12 (Ml 4), ai_ cy (rl 5) 12 (Ml 5), ai_ cy (rl 6) 12 (Ml 6), ai_ cy (rl 7) 12 (Ml 7), ai_ cy (rl 8) 12 (Ml 8), ai_ cy (rl 9) 12 (Ml 9), ai_ cy (rl 10) 12 (Ml 10), ai_ cy (rl 11) 12 (Ml 11), aq_ cy 6 cro 12 (gf_ rr), ai_ cy (rr 0) 12 (eMr 0), ai_ cy (rr 1) 12 (eMr 1), ai_ cy (rr 2) 12 (eMr 2), ai_ cy (rr 3) 12 (eMr 3), ai_ cy (rr 4) 12 (eMr 4), ai_ cy (rr 5) 12 (eMr 5), ai_ cy (rr 6) 12 (eMr 6), ai_ cy (rr 7) 12 (eMr 7), ai_ cy (rr 8) 12 (eMr 8), ai_ cy (rr 9) 12 (eMr 9), ai_ cy (rr 10) 12 (eMr 10), ai_ cy (rr 11) 12 (eMr 11), ai_ cy c4 40 e4, ai_ cy c5 40 f5, ai_ cy c6 40 f6, ai_ cy c7 12 e7, ai_ cy c8 12 e8] t.heap ∧ va_D (va_A [ob0_0_ xc xn xk clo cro c4 c5 c6 c7 c8, ob3_0_ xn vp vn n1 n2 n3 n4 n5, ai_ cy n2 40 fs, ai_ cy n3 40 fe, aq_ cy 6 clo 12 (gf_ rl), ai_ cy (rl 0) 12 (Ml 0), ai_ cy (rl 1) 12 (Ml 1), ai_ cy (rl 2) 12 (Ml 2), ai_ cy (rl 3) 12 (Ml 3), ai_ cy (rl 4) 12 (Ml 4), ai_ cy (rl 5) 12 (Ml 5), ai_ cy (rl 6) 12 (Ml 6), ai_ cy (rl 7) 12 (Ml 7), ai_ cy (rl 8) 12 (Ml 8), ai_ cy (rl 9) 12 (Ml 9), ai_ cy (rl 10) 12 (Ml 10), ai_ cy (rl 11) 12 (Ml 11), aq_ cy 6 cro 12 (gf_ rr), ai_ cy (rr 0) 12 (Mr 0), ai_ cy (rr 1) 12 (Mr 1), ai_ cy (rr 2) 12 (Mr 2), ai_ cy (rr 3) 12 (Mr 3), ai_ cy (rr 4) 12 (Mr 4), ai_ cy (rr 5) 12 (Mr 5), ai_ cy (rr 6) 12 (Mr 6), ai_ cy (rr 7) 12 (Mr 7), ai_ cy (rr 8) 12 (Mr 8), ai_ cy (rr 9) 12 (Mr 9), ai_ cy (rr 10) 12 (Mr 10), ai_ cy (rr 11) 12 (Mr 11), ai_ cy c4 40 f4, ai_ cy c5 40 f5, ai_ cy c6 40 f6, ai_ cy c7 12 f7, ai_ cy c8 12 f8] sz) [ob0_0_ xc xn xk clo cro c4 c5 c6 c7 c8, ob3_0_ xn vp vn n1 n2 n3 n4 n5, ai_ cy n2 40 fs, ai_ cy n3 40 fe, aq_ cy 6 clo 12 (gf_ rl), ai_ cy (rl 0) 12 (Ml 0), ai_ cy (rl 1) 12 (Ml 1), ai_ cy (rl 2) 12 (Ml 2), ai_ cy (rl 3) 12 (Ml 3), ai_ cy (rl 4) 12 (Ml 4), ai_ cy (rl 5) 12 (Ml 5), ai_ cy (rl 6) 12 (Ml 6), ai_ cy (rl 7) 12 (Ml 7), ai_ cy (rl 8) 12 (Ml 8), ai_ cy (rl 9) 12 (Ml 9), ai_ cy (rl 10) 12 (Ml 10), ai_ cy (rl 11) 12 (Ml 11), aq_ cy 6 cro 12 (gf_ rr), ai_ cy (rr 0) 12 (eMr 0), ai_ cy (rr 1) 12 (eMr 1), ai_ cy (rr 2) 12 (eMr 2), ai_ cy (rr 3) 12 (eMr 3), ai_ cy (rr 4) 12 (eMr 4), ai_ cy (rr 5) 12 (eMr 5), ai_ cy (rr 6) 12 (eMr 6), ai_ cy (rr 7) 12 (eMr 7), ai_ cy (rr 8) 12 (eMr 8), ai_ cy (rr 9) 12 (eMr 9), ai_ cy (rr 10) 12 (eMr 10), ai_ cy (rr 11) 12 (eMr 11), ai_ cy c4 40 e4, ai_ cy c5 40 f5, ai_ cy c6 40 f6, ai_ cy c7 12 e7, ai_ cy c8 12 e8]) (va_A [ob0_0_ xc xn xk clo cro c4 c5 c6 c7 c8, ob3_0_ xn vp vn n1 n2 n3 n4 n5, ai_ cy n2 40 fs, ai_ cy n3 40 fe, aq_ cy 6 clo 12 (gf_ rl), ai_ cy (rl 0) 12 (Ml 0), ai_ cy (rl 1) 12 (Ml 1), ai_ cy (rl 2) 12 (Ml 2), ai_ cy (rl 3) 12 (Ml 3), ai_ cy (rl 4) 12 (Ml 4), ai_ cy (rl 5) 12 (Ml 5), ai_ cy (rl 6) 12 (Ml 6), ai_ cy (rl 7) 12 (Ml 7), ai_ cy (rl 8) 12 (Ml 8), ai_ cy (rl 9) 12 (Ml 9), ai_ cy (rl 10) 12 (Ml 10), ai_ cy (rl 11) 12 (Ml 11), aq_ cy 6 cro 12 (gf_ rr), ai_ cy (rr 0) 12 (Mr 0), ai_ cy (rr 1) 12 (Mr 1), ai_ cy (rr 2) 12 (Mr 2), ai_ cy (rr 3) 12 (Mr 3), ai_ cy (rr 4) 12 (Mr 4), ai_ cy (rr 5) 12 (Mr 5), ai_ cy (rr 6) 12 (Mr 6), ai_ cy (rr 7) 12 (Mr 7), ai_ cy (rr 8) 12 (Mr 8), ai_ cy (rr 9) 12 (Mr 9), ai_ cy (rr 10) 12 (Mr 10), ai_ cy (rr 11) 12 (Mr 11), ai_ cy c4 40 f4, ai_ cy c5 40 f5, ai_ cy c6 40 f6, ai_ cy c7 12 f7, ai_ cy c8 12 f8] sz)) 0 0 (va_A [ob0_0_ xc xn xk clo cro c4 c5 c6 c7 c8, ob3_0_ xn vp vn n1 n2 n3 n4 n5, ai_ cy n2 40 fs, ai_ cy n3 40 fe, aq_ cy 6 clo 12 (gf_ rl), ai_ cy (rl 0) 12 (Ml 0), ai_ cy (rl 1) 12 (Ml 1), ai_ cy (rl 2) 12 (Ml 2), ai_ cy (rl 3) 12 (Ml 3), ai_ cy (rl 4) 12 (Ml 4), ai_ cy (rl 5) 12 (Ml 5), ai_ cy (rl 6) 12 (Ml 6), ai_ cy (rl 7) 12 (Ml 7), ai_ cy (rl 8) 12 (Ml 8), ai_ cy (rl 9) 12 (Ml 9), ai_ cy (rl 10) 12 (Ml 10), ai_ cy (rl 11) 12 (Ml 11), aq_ cy 6 cro 12 (gf_ rr), ai_ cy (rr 0) 12 (Mr 0), ai_ cy (rr 1) 12 (Mr 1), ai_ cy (rr 2) 12 (Mr 2), ai_ cy (rr 3) 12 (Mr 3), ai_ cy (rr 4) 12 (Mr 4), ai_ cy (rr 5) 12 (Mr 5), ai_ cy (rr 6) 12 (Mr 6), ai_ cy (rr 7) 12 (Mr 7), ai_ cy (rr 8) 12 (Mr 8), ai_ cy (rr 9) 12 (Mr 9), ai_ cy (rr 10) 12 (Mr 10), ai_ cy (rr 11) 12 (Mr 11), ai_ cy c4 40 f4, ai_ cy c5 40 f5, ai_ cy c6 40 f6, ai_ cy c7 12 f7, ai_ cy c8 12 f8] sz) := by
  refine ofQ (cc := cX0_fill) (maxL := 5) (ret := (some .int)) (by decide) rfl ?_
  intro p e s m args below meth c s₁ Q hQ B hml hv
  obtain ⟨rfl, hsz, hP, hK, hD0⟩ := hv
  have hG := hK.2
  have hK := hK.1
  have hx := B.exec
  have hb := B.bytes
  have hr := B.returns
  have hts := atoms_spec (ws := wsX0_fill) B.pre
  have hown : s.vm.findClass RX0 = some m.cls := by have h_ := findClass_of_methodNamed B.named; exact h_
  have hlocks := B.notSynchronized
  subst hsz
  have hD := hD0.self (sz := s.heap.size)
  generalize hAe : va_A [ob0_0_ xc xn xk clo cro c4 c5 c6 c7 c8, ob3_0_ xn vp vn n1 n2 n3 n4 n5, ai_ cy n2 40 fs, ai_ cy n3 40 fe, aq_ cy 6 clo 12 (gf_ rl), ai_ cy (rl 0) 12 (Ml 0), ai_ cy (rl 1) 12 (Ml 1), ai_ cy (rl 2) 12 (Ml 2), ai_ cy (rl 3) 12 (Ml 3), ai_ cy (rl 4) 12 (Ml 4), ai_ cy (rl 5) 12 (Ml 5), ai_ cy (rl 6) 12 (Ml 6), ai_ cy (rl 7) 12 (Ml 7), ai_ cy (rl 8) 12 (Ml 8), ai_ cy (rl 9) 12 (Ml 9), ai_ cy (rl 10) 12 (Ml 10), ai_ cy (rl 11) 12 (Ml 11), aq_ cy 6 cro 12 (gf_ rr), ai_ cy (rr 0) 12 (Mr 0), ai_ cy (rr 1) 12 (Mr 1), ai_ cy (rr 2) 12 (Mr 2), ai_ cy (rr 3) 12 (Mr 3), ai_ cy (rr 4) 12 (Mr 4), ai_ cy (rr 5) 12 (Mr 5), ai_ cy (rr 6) 12 (Mr 6), ai_ cy (rr 7) 12 (Mr 7), ai_ cy (rr 8) 12 (Mr 8), ai_ cy (rr 9) 12 (Mr 9), ai_ cy (rr 10) 12 (Mr 10), ai_ cy (rr 11) 12 (Mr 11), ai_ cy c4 40 f4, ai_ cy c5 40 f5, ai_ cy c6 40 f6, ai_ cy c7 12 f7, ai_ cy c8 12 f8] s.heap.size = A at hD hQ
  have hA : ∀ q : Nat, s.heap.size ≤ q → A q := fun q h => by rw [← hAe]; exact Or.inr h
  have hS : va_S A s.heap s.heap [] := va_S.rf
  have hl := lv_entry ([.ref xc, .int a1, .int a2]) (n := 5) (Nat.le_of_ble_eq_true rfl)
  rw [lg_entry_eq]
  generalize (lg_sl ([.ref xc, .int a1, .int a2]) ++ List.replicate (5 - (lg_sl ([.ref xc, .int a1, .int a2])).length) Slot.unset).toArray = ls at hl ⊢
  have hl : lv_has ls 5 [(0, .ref xc), (1, .int a1), (2, .int a2)] := hl
  have zm5 : ((-5) : Int32).toInt = -5 := by decide
  have z0 : (0 : Int32).toInt = 0 := by decide
  have z1 : (1 : Int32).toInt = 1 := by decide
  have z2 : (2 : Int32).toInt = 2 := by decide
  have z3 : (3 : Int32).toInt = 3 := by decide
  have z4 : (4 : Int32).toInt = 4 := by decide
  have z5 : (5 : Int32).toInt = 5 := by decide
  have z6 : (6 : Int32).toInt = 6 := by decide
  have z7 : (7 : Int32).toInt = 7 := by decide
  have z8 : (8 : Int32).toInt = 8 := by decide
  have z9 : (9 : Int32).toInt = 9 := by decide
  have z10 : (10 : Int32).toInt = 10 := by decide
  have z11 : (11 : Int32).toInt = 11 := by decide
  have z1000000 : (1000000 : Int32).toInt = 1000000 := by decide
  refine lv_aload_n hx hb dB_36_0_4.1.1.1.1 rfl (lv_at hl 0 rfl) ?_
  refine va_get (ci := 0) (v := .ref c4) (C := RX0) (T := TX0) (N := 9) hx hb hts (fun _ h => List.mem_cons_of_mem _ (List.mem_append_left _ (List.mem_append_right _ h))) hown hK.1 hP 0 rfl rfl 4 (by decide) (hts (.fieldLink RX0 19 "CutAtlas$Current" "flowing" "[I") (List.mem_of_getElem? (i := 1) rfl)) (fun _ h9 => h9) rfl dB_36_0_4.1.1.1.2 ?_
  refine lv_iconst (v := 0) hx hb dB_36_0_4.1.1.2.1 (by decide) ?_
  refine ct_S hP hD hS hA [ai_ cy c4 40 f4] [30] (by decide) rfl (fun hPc hDw hFc hC_ => ?_)
  refine va_callv (va_runS (As := [.ref c4, .int 0]) (rest := []) ⟨hx, hb, hml, hown, hts⟩ (c_J7_fill_53178 l D cy s.heap.size c4 40 (0 : Int32) f4 (by first | with_reducible assumption | assumption | omega)) (va_cwS 2 hts gX0_fill_J7_fill_53178 rfl rfl rfl hd_J7_fill_53178 ⟨Nat.le_of_ble_eq_true rfl, Nat.le_of_ble_eq_true rfl⟩) ⟨bl_, fun U hU hW => ⟨rfl, by rw [hU], by rw [hU]; exact hPc, kk_mv hW hK, hDw⟩⟩ rfl rfl hl.1 rfl (lv_room (Nat.le_of_ble_eq_true rfl)) dB_36_0_4.1.1.2.2 ⟨Nat.le_of_ble_eq_true rfl, Nat.le_of_ble_eq_true rfl⟩) hS (fun q _ h => hFc q h) hFc (fun u t H locs ht hvm hw hB hz1 hk1 hS => ?_)
  obtain ⟨e1_2, g_3, hP1, hD1⟩ := hB
  rw [ht] at hP1
  obtain ⟨hP, hD⟩ := va_join (wr := [ob0_0_ xc xn xk clo cro c4 c5 c6 c7 c8, ob3_0_ xn vp vn n1 n2 n3 n4 n5, ai_ cy n2 40 fs, ai_ cy n3 40 fe, aq_ cy 6 clo 12 (gf_ rl), ai_ cy (rl 0) 12 (Ml 0), ai_ cy (rl 1) 12 (Ml 1), ai_ cy (rl 2) 12 (Ml 2), ai_ cy (rl 3) 12 (Ml 3), ai_ cy (rl 4) 12 (Ml 4), ai_ cy (rl 5) 12 (Ml 5), ai_ cy (rl 6) 12 (Ml 6), ai_ cy (rl 7) 12 (Ml 7), ai_ cy (rl 8) 12 (Ml 8), ai_ cy (rl 9) 12 (Ml 9), ai_ cy (rl 10) 12 (Ml 10), ai_ cy (rl 11) 12 (Ml 11), aq_ cy 6 cro 12 (gf_ rr), ai_ cy (rr 0) 12 (Mr 0), ai_ cy (rr 1) 12 (Mr 1), ai_ cy (rr 2) 12 (Mr 2), ai_ cy (rr 3) 12 (Mr 3), ai_ cy (rr 4) 12 (Mr 4), ai_ cy (rr 5) 12 (Mr 5), ai_ cy (rr 6) 12 (Mr 6), ai_ cy (rr 7) 12 (Mr 7), ai_ cy (rr 8) 12 (Mr 8), ai_ cy (rr 9) 12 (Mr 9), ai_ cy (rr 10) 12 (Mr 10), ai_ cy (rr 11) 12 (Mr 11), ai_ cy c5 40 f5, ai_ cy c6 40 f6, ai_ cy c7 12 f7, ai_ cy c8 12 f8]) (w1 := [ai_ cy c4 40 e1_2]) hP hD [30] [0, 1, 2, 3, 4, 5, 6, 7, 8, 9, 10, 11, 12, 13, 14, 15, 16, 17, 18, 19, 20, 21, 22, 23, 24, 25, 26, 27, 28, 29, 31, 32, 33, 34] hC_ rfl (by decide +kernel) (by decide +kernel) hk1 hFc hP1 hD1
  refine pd_S hP hD [ob0_0_ xc xn xk clo cro c4 c5 c6 c7 c8, ob3_0_ xn vp vn n1 n2 n3 n4 n5, ai_ cy n2 40 fs, ai_ cy n3 40 fe, aq_ cy 6 clo 12 (gf_ rl), ai_ cy (rl 0) 12 (Ml 0), ai_ cy (rl 1) 12 (Ml 1), ai_ cy (rl 2) 12 (Ml 2), ai_ cy (rl 3) 12 (Ml 3), ai_ cy (rl 4) 12 (Ml 4), ai_ cy (rl 5) 12 (Ml 5), ai_ cy (rl 6) 12 (Ml 6), ai_ cy (rl 7) 12 (Ml 7), ai_ cy (rl 8) 12 (Ml 8), ai_ cy (rl 9) 12 (Ml 9), ai_ cy (rl 10) 12 (Ml 10), ai_ cy (rl 11) 12 (Ml 11), aq_ cy 6 cro 12 (gf_ rr), ai_ cy (rr 0) 12 (Mr 0), ai_ cy (rr 1) 12 (Mr 1), ai_ cy (rr 2) 12 (Mr 2), ai_ cy (rr 3) 12 (Mr 3), ai_ cy (rr 4) 12 (Mr 4), ai_ cy (rr 5) 12 (Mr 5), ai_ cy (rr 6) 12 (Mr 6), ai_ cy (rr 7) 12 (Mr 7), ai_ cy (rr 8) 12 (Mr 8), ai_ cy (rr 9) 12 (Mr 9), ai_ cy (rr 10) 12 (Mr 10), ai_ cy (rr 11) 12 (Mr 11), ai_ cy c4 40 e1_2, ai_ cy c5 40 f5, ai_ cy c6 40 f6, ai_ cy c7 12 f7, ai_ cy c8 12 f8] [0, 1, 2, 3, 4, 5, 6, 7, 8, 9, 10, 11, 12, 13, 14, 15, 16, 17, 18, 19, 20, 21, 22, 23, 24, 25, 26, 27, 28, 29, 34, 30, 31, 32, 33] (by decide +kernel) rfl (fun hP hD => ?_)
  refine lv_iconst (v := 0) hx hb dB_36_0_4.1.2.1.1 (by decide) ?_
  refine lv_istore_n (lv' := [(3, .int 0), (0, .ref xc), (1, .int a1), (2, .int a2)]) hx hb dB_36_0_4.1.2.1.2 rfl hl (by decide) rfl (fun ls hl => ?_)
  suffices LOOP_4 : ∀ (n_4 : Nat) (x3_4 : Int32) (m_rr_4 : Nat → Nat → Int32) (H : Heap) (locs : List Loc) (ls : Array Slot), vp.toInt - x3_4.toInt < (n_4 : Int) → (0 ≤ x3_4.toInt) → (x3_4.toInt ≤ vp.toInt) → pd_2 D vwCl A [ob0_0_ xc xn xk clo cro c4 c5 c6 c7 c8, ob3_0_ xn vp vn n1 n2 n3 n4 n5, ai_ cy n2 40 fs, ai_ cy n3 40 fe, aq_ cy 6 clo 12 (gf_ rl), ai_ cy (rl 0) 12 (Ml 0), ai_ cy (rl 1) 12 (Ml 1), ai_ cy (rl 2) 12 (Ml 2), ai_ cy (rl 3) 12 (Ml 3), ai_ cy (rl 4) 12 (Ml 4), ai_ cy (rl 5) 12 (Ml 5), ai_ cy (rl 6) 12 (Ml 6), ai_ cy (rl 7) 12 (Ml 7), ai_ cy (rl 8) 12 (Ml 8), ai_ cy (rl 9) 12 (Ml 9), ai_ cy (rl 10) 12 (Ml 10), ai_ cy (rl 11) 12 (Ml 11), aq_ cy 6 cro 12 (gf_ rr), ai_ cy (rr 0) 12 (m_rr_4 0), ai_ cy (rr 1) 12 (m_rr_4 1), ai_ cy (rr 2) 12 (m_rr_4 2), ai_ cy (rr 3) 12 (m_rr_4 3), ai_ cy (rr 4) 12 (m_rr_4 4), ai_ cy (rr 5) 12 (m_rr_4 5), ai_ cy (rr 6) 12 (m_rr_4 6), ai_ cy (rr 7) 12 (m_rr_4 7), ai_ cy (rr 8) 12 (m_rr_4 8), ai_ cy (rr 9) 12 (m_rr_4 9), ai_ cy (rr 10) 12 (m_rr_4 10), ai_ cy (rr 11) 12 (m_rr_4 11), ai_ cy c4 40 e1_2, ai_ cy c5 40 f5, ai_ cy c6 40 f6, ai_ cy c7 12 f7, ai_ cy c8 12 f8] H → va_S A s.heap H locs → lv_has ls 5 [(3, .int x3_4), (0, .ref xc), (1, .int a1), (2, .int a2)] → W p l e ({ frames := 3, cells := 0, slots := 0, locals := 64 } : Room) s m (([.ref xc, .int a1, .int a2] : List Value).toArray) below meth c H locs 0 0 Q (F0 m 10 ls []) from LOOP_4 ((vp.toInt - (0 : Int32).toInt).toNat + 1) (0 : Int32) Mr _ _ _ (by omega) (by first | with_reducible assumption | omega | assumption) (by first | with_reducible assumption | omega | assumption) ⟨hP, hD⟩ hS (lv_sub hl [0, 1, 2, 3] rfl)
  intro n_4
  induction n_4 with
  | zero =>
    intro x3_4 m_rr_4 H locs ls hm v0_4 v1_4 hPD hS hl; obtain ⟨hP, hD⟩ := hPD
    exact absurd hm (by omega)
  | succ n_4 ih_4 =>
    intro x3_4 m_rr_4 H locs ls hm v0_4 v1_4 hPD hS hl; obtain ⟨hP, hD⟩ := hPD
    refine lv_iload_n hx hb dB_36_0_4.1.2.2.1 rfl (lv_at hl 0 rfl) ?_
    refine lv_aload_n hx hb dB_36_0_4.1.2.2.2 rfl (lv_at hl 1 rfl) ?_
    refine va_get (ci := 0) (v := .ref xn) (C := RX0) (T := TX0) (N := 9) hx hb hts (fun _ h => List.mem_cons_of_mem _ (List.mem_append_left _ (List.mem_append_right _ h))) hown hK.1 hP 0 rfl rfl 0 (by decide) (hts (.fieldLink RX0 35 "CutAtlas$Current" "net" "LCutAtlas$Net;") (List.mem_of_getElem? (i := 2) rfl)) (fun _ h9 => h9) rfl dB_36_0_4.2.1.1.1 ?_
    refine va_get (ci := 3) (v := .int vp) (C := RX3) (T := TX3) (N := 7) hx hb hts (fun _ h => List.mem_cons_of_mem _ (List.mem_append_right _ h)) hown hK.1 hP 1 rfl rfl 0 (by decide) (hts (.fieldLink RX0 43 "CutAtlas$Net" "places" "I") (List.mem_of_getElem? (i := 3) rfl)) (fun _ h9 => h9) rfl dB_36_0_4.2.1.1.2 ?_
    refine lv_icmp_ge (tgt := 51) hx hb dB_36_0_4.2.1.2.1 (by decide) (fun c_5 => ?_) (fun c_5 => ?_)
    · have t_5 : vp.toInt ≤ x3_4.toInt := Int32.le_iff_toInt_le.mp c_5
      refine lv_aload_n hx hb dB_36_0_5.2.1.2.2 rfl (lv_at hl 1 rfl) ?_
      refine lv_iload_n hx hb dB_36_0_5.2.2.1.1 rfl (lv_at hl 2 rfl) ?_
      refine lv_ldc (v := 1000000) hx hb hown (hts (.constant RX0 82 (1000000)) (List.mem_of_getElem? (i := 10) rfl)) dB_36_0_5.2.2.1.2 ?_
      refine ct_S hP hD hS hA [ob0_0_ xc xn xk clo cro c4 c5 c6 c7 c8, ob3_0_ xn vp vn n1 n2 n3 n4 n5, aq_ cy 6 cro 12 (gf_ rr), ai_ cy (rr 0) 12 (m_rr_4 0), ai_ cy (rr 1) 12 (m_rr_4 1), ai_ cy (rr 2) 12 (m_rr_4 2), ai_ cy (rr 3) 12 (m_rr_4 3), ai_ cy (rr 4) 12 (m_rr_4 4), ai_ cy (rr 5) 12 (m_rr_4 5), ai_ cy (rr 6) 12 (m_rr_4 6), ai_ cy (rr 7) 12 (m_rr_4 7), ai_ cy (rr 8) 12 (m_rr_4 8), ai_ cy (rr 9) 12 (m_rr_4 9), ai_ cy (rr 10) 12 (m_rr_4 10), ai_ cy (rr 11) 12 (m_rr_4 11), ai_ cy c7 12 f7] [0, 1, 17, 18, 19, 20, 21, 22, 23, 24, 25, 26, 27, 28, 29, 33] (by decide +kernel) rfl (fun hPc hDw hFc hC_ => ?_)
      refine va_calli (va_runV (As := [.int a1, .int 1000000]) (rest := []) ⟨hx, hb, hml, hown, hts⟩ (c_X0_reachedFrom l D cy H.size xc xk clo cro c4 c5 c6 c7 c8 xn n1 n2 n3 n4 n5 vp vn rr m_rr_4 f7 a1 (1000000 : Int32) (by first | with_reducible assumption | omega | assumption) (by first | with_reducible assumption | omega | assumption) (by first | with_reducible assumption | assumption | omega)) (cwV 2 hts gX0_fill_X0_reachedFrom rfl rfl rfl ⟨rfl, hd_X0_reachedFrom⟩ ⟨Nat.le_of_ble_eq_true rfl, Nat.le_of_ble_eq_true rfl⟩) ⟨bl_g, va_recvX hK.1 hP (ci := 0) (q0 := 0) rfl rfl, fun U hU hW => ⟨rfl, by rw [hU], by rw [hU]; exact hPc, ⟨kk_mv hW hK, arrOfT_moved hW.alike hG⟩, hDw⟩⟩ rfl rfl hl.1 rfl (lv_room (Nat.le_of_ble_eq_true rfl)) dB_36_0_5.2.2.2.1 ⟨Nat.le_of_ble_eq_true rfl, Nat.le_of_ble_eq_true rfl⟩) hS (fun q _ h => hFc q h) hFc (fun r_6 u t H locs ht hvm hw hB hz1 hk1 hS => ?_)
      obtain ⟨e7_7, g_8, hP1, hD1⟩ := hB
      rw [ht] at hP1
      obtain ⟨hP, hD⟩ := va_join (wr := [ai_ cy n2 40 fs, ai_ cy n3 40 fe, aq_ cy 6 clo 12 (gf_ rl), ai_ cy (rl 0) 12 (Ml 0), ai_ cy (rl 1) 12 (Ml 1), ai_ cy (rl 2) 12 (Ml 2), ai_ cy (rl 3) 12 (Ml 3), ai_ cy (rl 4) 12 (Ml 4), ai_ cy (rl 5) 12 (Ml 5), ai_ cy (rl 6) 12 (Ml 6), ai_ cy (rl 7) 12 (Ml 7), ai_ cy (rl 8) 12 (Ml 8), ai_ cy (rl 9) 12 (Ml 9), ai_ cy (rl 10) 12 (Ml 10), ai_ cy (rl 11) 12 (Ml 11), ai_ cy c4 40 e1_2, ai_ cy c5 40 f5, ai_ cy c6 40 f6, ai_ cy c8 12 f8]) (w1 := [ob0_0_ xc xn xk clo cro c4 c5 c6 c7 c8, ob3_0_ xn vp vn n1 n2 n3 n4 n5, aq_ cy 6 cro 12 (gf_ rr), ai_ cy (rr 0) 12 (m_rr_4 0), ai_ cy (rr 1) 12 (m_rr_4 1), ai_ cy (rr 2) 12 (m_rr_4 2), ai_ cy (rr 3) 12 (m_rr_4 3), ai_ cy (rr 4) 12 (m_rr_4 4), ai_ cy (rr 5) 12 (m_rr_4 5), ai_ cy (rr 6) 12 (m_rr_4 6), ai_ cy (rr 7) 12 (m_rr_4 7), ai_ cy (rr 8) 12 (m_rr_4 8), ai_ cy (rr 9) 12 (m_rr_4 9), ai_ cy (rr 10) 12 (m_rr_4 10), ai_ cy (rr 11) 12 (m_rr_4 11), ai_ cy c7 12 e7_7]) hP hD [0, 1, 17, 18, 19, 20, 21, 22, 23, 24, 25, 26, 27, 28, 29, 33] [2, 3, 4, 5, 6, 7, 8, 9, 10, 11, 12, 13, 14, 15, 16, 30, 31, 32, 34] hC_ rfl (by decide +kernel) (by decide +kernel) hk1 hFc hP1 hD1
      refine pd_S hP hD [ob0_0_ xc xn xk clo cro c4 c5 c6 c7 c8, ob3_0_ xn vp vn n1 n2 n3 n4 n5, ai_ cy n2 40 fs, ai_ cy n3 40 fe, aq_ cy 6 clo 12 (gf_ rl), ai_ cy (rl 0) 12 (Ml 0), ai_ cy (rl 1) 12 (Ml 1), ai_ cy (rl 2) 12 (Ml 2), ai_ cy (rl 3) 12 (Ml 3), ai_ cy (rl 4) 12 (Ml 4), ai_ cy (rl 5) 12 (Ml 5), ai_ cy (rl 6) 12 (Ml 6), ai_ cy (rl 7) 12 (Ml 7), ai_ cy (rl 8) 12 (Ml 8), ai_ cy (rl 9) 12 (Ml 9), ai_ cy (rl 10) 12 (Ml 10), ai_ cy (rl 11) 12 (Ml 11), aq_ cy 6 cro 12 (gf_ rr), ai_ cy (rr 0) 12 (m_rr_4 0), ai_ cy (rr 1) 12 (m_rr_4 1), ai_ cy (rr 2) 12 (m_rr_4 2), ai_ cy (rr 3) 12 (m_rr_4 3), ai_ cy (rr 4) 12 (m_rr_4 4), ai_ cy (rr 5) 12 (m_rr_4 5), ai_ cy (rr 6) 12 (m_rr_4 6), ai_ cy (rr 7) 12 (m_rr_4 7), ai_ cy (rr 8) 12 (m_rr_4 8), ai_ cy (rr 9) 12 (m_rr_4 9), ai_ cy (rr 10) 12 (m_rr_4 10), ai_ cy (rr 11) 12 (m_rr_4 11), ai_ cy c4 40 e1_2, ai_ cy c5 40 f5, ai_ cy c6 40 f6, ai_ cy c7 12 e7_7, ai_ cy c8 12 f8] [19, 20, 0, 1, 2, 3, 4, 5, 6, 7, 8, 9, 10, 11, 12, 13, 14, 21, 22, 23, 24, 25, 26, 27, 28, 29, 30, 31, 32, 33, 15, 16, 17, 34, 18] (by decide +kernel) rfl (fun hP hD => ?_)
      refine lv_iload_n hx hb dB_36_0_5.2.2.2.2 rfl (lv_at hl 3 rfl) ?_
      refine lv_ishr hx hb dB_36_0_6.1.1.1.1 ?_
      refine lv_topi (fun y_9 ey_9 => ?_)
      refine lv_iconst (v := 1) hx hb dB_36_0_6.1.1.1.2 (by decide) ?_
      refine lv_iand hx hb dB_36_0_6.1.1.2.1 ?_
      refine lv_topi (fun y_10 ey_10 => ?_)
      refine lv_iconst (v := 1) hx hb dB_36_0_6.1.1.2.2 (by decide) ?_
      refine lv_icmp_ne (tgt := 69) hx hb dB_36_0_6.1.2.1.1 (by decide) (fun c_11 => ?_) (fun c_11 => ?_)
      · have t_11 : ¬ y_10.toInt = (1 : Int32).toInt := fun h => c_11 (Int32.toInt_inj.mp h)
        refine lv_iconst (v := 0) hx hb dB_36_0_6.1.2.2.2 (by decide) ?_
        refine lv_istore_n (lv' := [(3, .int 0), (0, .ref xc), (1, .int a1), (2, .int a2)]) hx hb dB_36_0_6.2.1.1.1 rfl hl (by decide) rfl (fun ls hl => ?_)
        refine lv_iconst (v := 0) hx hb dB_36_0_6.2.1.1.2 (by decide) ?_
        refine lv_istore (lv' := [(4, .int 0), (3, .int 0), (0, .ref xc), (1, .int a1), (2, .int a2)]) hx hb dB_36_0_6.2.1.2.1 hl (by decide) rfl (fun ls hl => ?_)
        suffices LOOP_12 : ∀ (n_12 : Nat) (x4_12 : Int32) (x3_12 : Int32) (m_rr_12 : Nat → Nat → Int32) (c_c4_12 : Nat → Int32) (c_c7_12 : Nat → Int32) (c_c8_12 : Nat → Int32) (H : Heap) (locs : List Loc) (ls : Array Slot), 1000000 - x4_12.toInt < (n_12 : Int) → (0 ≤ x4_12.toInt) → (x4_12.toInt ≤ 1000000) → (rng c_c7_12 12 (0) (11)) → (rng c_c8_12 12 (0) (11)) → pd_2 D vwCl A [ob0_0_ xc xn xk clo cro c4 c5 c6 c7 c8, ob3_0_ xn vp vn n1 n2 n3 n4 n5, ai_ cy n2 40 fs, ai_ cy n3 40 fe, aq_ cy 6 clo 12 (gf_ rl), ai_ cy (rl 0) 12 (Ml 0), ai_ cy (rl 1) 12 (Ml 1), ai_ cy (rl 2) 12 (Ml 2), ai_ cy (rl 3) 12 (Ml 3), ai_ cy (rl 4) 12 (Ml 4), ai_ cy (rl 5) 12 (Ml 5), ai_ cy (rl 6) 12 (Ml 6), ai_ cy (rl 7) 12 (Ml 7), ai_ cy (rl 8) 12 (Ml 8), ai_ cy (rl 9) 12 (Ml 9), ai_ cy (rl 10) 12 (Ml 10), ai_ cy (rl 11) 12 (Ml 11), aq_ cy 6 cro 12 (gf_ rr), ai_ cy (rr 0) 12 (m_rr_12 0), ai_ cy (rr 1) 12 (m_rr_12 1), ai_ cy (rr 2) 12 (m_rr_12 2), ai_ cy (rr 3) 12 (m_rr_12 3), ai_ cy (rr 4) 12 (m_rr_12 4), ai_ cy (rr 5) 12 (m_rr_12 5), ai_ cy (rr 6) 12 (m_rr_12 6), ai_ cy (rr 7) 12 (m_rr_12 7), ai_ cy (rr 8) 12 (m_rr_12 8), ai_ cy (rr 9) 12 (m_rr_12 9), ai_ cy (rr 10) 12 (m_rr_12 10), ai_ cy (rr 11) 12 (m_rr_12 11), ai_ cy c4 40 c_c4_12, ai_ cy c5 40 f5, ai_ cy c6 40 f6, ai_ cy c7 12 c_c7_12, ai_ cy c8 12 c_c8_12] H → va_S A s.heap H locs → lv_has ls 5 [(4, .int x4_12), (3, .int x3_12), (0, .ref xc), (1, .int a1), (2, .int a2)] → W p l e ({ frames := 3, cells := 0, slots := 0, locals := 64 } : Room) s m (([.ref xc, .int a1, .int a2] : List Value).toArray) below meth c H locs 0 0 Q (F0 m 74 ls []) from LOOP_12 ((1000000 - (0 : Int32).toInt).toNat + 1) (0 : Int32) (0 : Int32) m_rr_4 e1_2 e7_7 f8 _ _ _ (by omega) (by first | with_reducible assumption | omega | assumption) (by first | with_reducible assumption | omega | assumption) (by first | with_reducible assumption | assumption | exact rng_zero (by omega) (by omega) | exact orng_zero) (by first | with_reducible assumption | assumption | exact rng_zero (by omega) (by omega) | exact orng_zero) ⟨hP, hD⟩ hS (lv_sub hl [0, 1, 2, 3, 4] rfl)
        intro n_12
        induction n_12 with
        | zero =>
          intro x4_12 x3_12 m_rr_12 c_c4_12 c_c7_12 c_c8_12 H locs ls hm v0_12 v1_12 rc_c7_12 rc_c8_12 hPD hS hl; obtain ⟨hP, hD⟩ := hPD
          exact absurd hm (by omega)
        | succ n_12 ih_12 =>
          intro x4_12 x3_12 m_rr_12 c_c4_12 c_c7_12 c_c8_12 H locs ls hm v0_12 v1_12 rc_c7_12 rc_c8_12 hPD hS hl; obtain ⟨hP, hD⟩ := hPD
          refine lv_iload hx hb dB_36_0_6.2.1.2.2 (lv_at hl 0 rfl) ?_
          refine lv_ldc (v := 1000000) hx hb hown (hts (.constant RX0 82 (1000000)) (List.mem_of_getElem? (i := 10) rfl)) dB_36_0_6.2.2.1.1 ?_
          refine lv_icmp_ge (tgt := 105) hx hb dB_36_0_6.2.2.1.2 (by decide) (fun c_13 => ?_) (fun c_13 => ?_)
          · have t_13 : (1000000 : Int32).toInt ≤ x4_12.toInt := Int32.le_iff_toInt_le.mp c_13
            refine lv_iload_n hx hb dB_36_0_7.2.2.2.1 rfl (lv_at hl 1 rfl) ?_
            rw [hQ]
            exact W.iret (v := x3_12) hx hb hr (fun t ht hW => ⟨⟨x3_12, (), rfl, trivial, m_rr_12, c_c4_12, c_c7_12, c_c8_12, (by first | with_reducible assumption | assumption | exact rng_zero (by omega) (by omega) | omega), (by first | with_reducible assumption | assumption | exact rng_zero (by omega) (by omega) | omega), by rw [ht]; exact hP, hD⟩, hS.F ht⟩) hS.2.2 dB_36_0_7.2.2.2.2
          · have t_13 : ¬ (1000000 : Int32).toInt ≤ x4_12.toInt := fun h => c_13 (Int32.le_iff_toInt_le.mpr h)
            refine lv_aload_n hx hb dB_36_0_6.2.2.2.1 rfl (lv_at hl 2 rfl) ?_
            refine lv_iload_n hx hb dB_36_0_6.2.2.2.2 rfl (lv_at hl 3 rfl) ?_
            refine lv_iload_n hx hb dB_36_0_7.1.1.1 rfl (lv_at hl 4 rfl) ?_
            refine ct_S hP hD hS hA [ob0_0_ xc xn xk clo cro c4 c5 c6 c7 c8, ob3_0_ xn vp vn n1 n2 n3 n4 n5, aq_ cy 6 cro 12 (gf_ rr), ai_ cy (rr 0) 12 (m_rr_12 0), ai_ cy (rr 1) 12 (m_rr_12 1), ai_ cy (rr 2) 12 (m_rr_12 2), ai_ cy (rr 3) 12 (m_rr_12 3), ai_ cy (rr 4) 12 (m_rr_12 4), ai_ cy (rr 5) 12 (m_rr_12 5), ai_ cy (rr 6) 12 (m_rr_12 6), ai_ cy (rr 7) 12 (m_rr_12 7), ai_ cy (rr 8) 12 (m_rr_12 8), ai_ cy (rr 9) 12 (m_rr_12 9), ai_ cy (rr 10) 12 (m_rr_12 10), ai_ cy (rr 11) 12 (m_rr_12 11), ai_ cy c7 12 c_c7_12, ai_ cy c8 12 c_c8_12] [0, 1, 17, 18, 19, 20, 21, 22, 23, 24, 25, 26, 27, 28, 29, 33, 34] (by decide +kernel) rfl (fun hPc hDw hFc hC_ => ?_)
            refine va_calli (va_runV (As := [.int a1, .int a2]) (rest := []) ⟨hx, hb, hml, hown, hts⟩ (c_X0_findWay l D cy H.size xc xk clo cro c4 c5 c6 c7 c8 xn n1 n2 n3 n4 n5 vp vn rr m_rr_12 c_c7_12 c_c8_12 a1 a2 (by first | with_reducible assumption | omega | assumption) (by first | with_reducible assumption | omega | assumption) (by first | with_reducible assumption | omega | assumption) (by first | with_reducible assumption | assumption | omega) (by first | with_reducible assumption | assumption | omega)) (cwV 2 hts gX0_fill_X0_findWay rfl rfl rfl ⟨rfl, hd_X0_findWay⟩ ⟨Nat.le_of_ble_eq_true rfl, Nat.le_of_ble_eq_true rfl⟩) ⟨bl_g, va_recvX hK.1 hP (ci := 0) (q0 := 0) rfl rfl, fun U hU hW => ⟨rfl, by rw [hU], by rw [hU]; exact hPc, ⟨kk_mv hW hK, arrOfT_moved hW.alike hG⟩, hDw⟩⟩ rfl rfl hl.1 rfl (lv_room (Nat.le_of_ble_eq_true rfl)) dB_36_0_7.1.1.2.1 ⟨Nat.le_of_ble_eq_true rfl, Nat.le_of_ble_eq_true rfl⟩) hS (fun q _ h => hFc q h) hFc (fun r_14 u t H locs ht hvm hw hB hz1 hk1 hS => ?_)
            obtain ⟨e7_15, e8_16, g_17, g_18, hP1, hD1⟩ := hB
            rw [ht] at hP1
            obtain ⟨hP, hD⟩ := va_join (wr := [ai_ cy n2 40 fs, ai_ cy n3 40 fe, aq_ cy 6 clo 12 (gf_ rl), ai_ cy (rl 0) 12 (Ml 0), ai_ cy (rl 1) 12 (Ml 1), ai_ cy (rl 2) 12 (Ml 2), ai_ cy (rl 3) 12 (Ml 3), ai_ cy (rl 4) 12 (Ml 4), ai_ cy (rl 5) 12 (Ml 5), ai_ cy (rl 6) 12 (Ml 6), ai_ cy (rl 7) 12 (Ml 7), ai_ cy (rl 8) 12 (Ml 8), ai_ cy (rl 9) 12 (Ml 9), ai_ cy (rl 10) 12 (Ml 10), ai_ cy (rl 11) 12 (Ml 11), ai_ cy c4 40 c_c4_12, ai_ cy c5 40 f5, ai_ cy c6 40 f6]) (w1 := [ob0_0_ xc xn xk clo cro c4 c5 c6 c7 c8, ob3_0_ xn vp vn n1 n2 n3 n4 n5, aq_ cy 6 cro 12 (gf_ rr), ai_ cy (rr 0) 12 (m_rr_12 0), ai_ cy (rr 1) 12 (m_rr_12 1), ai_ cy (rr 2) 12 (m_rr_12 2), ai_ cy (rr 3) 12 (m_rr_12 3), ai_ cy (rr 4) 12 (m_rr_12 4), ai_ cy (rr 5) 12 (m_rr_12 5), ai_ cy (rr 6) 12 (m_rr_12 6), ai_ cy (rr 7) 12 (m_rr_12 7), ai_ cy (rr 8) 12 (m_rr_12 8), ai_ cy (rr 9) 12 (m_rr_12 9), ai_ cy (rr 10) 12 (m_rr_12 10), ai_ cy (rr 11) 12 (m_rr_12 11), ai_ cy c7 12 e7_15, ai_ cy c8 12 e8_16]) hP hD [0, 1, 17, 18, 19, 20, 21, 22, 23, 24, 25, 26, 27, 28, 29, 33, 34] [2, 3, 4, 5, 6, 7, 8, 9, 10, 11, 12, 13, 14, 15, 16, 30, 31, 32] hC_ rfl (by decide +kernel) (by decide +kernel) hk1 hFc hP1 hD1
            refine pd_S hP hD [ob0_0_ xc xn xk clo cro c4 c5 c6 c7 c8, ob3_0_ xn vp vn n1 n2 n3 n4 n5, ai_ cy n2 40 fs, ai_ cy n3 40 fe, aq_ cy 6 clo 12 (gf_ rl), ai_ cy (rl 0) 12 (Ml 0), ai_ cy (rl 1) 12 (Ml 1), ai_ cy (rl 2) 12 (Ml 2), ai_ cy (rl 3) 12 (Ml 3), ai_ cy (rl 4) 12 (Ml 4), ai_ cy (rl 5) 12 (Ml 5), ai_ cy (rl 6) 12 (Ml 6), ai_ cy (rl 7) 12 (Ml 7), ai_ cy (rl 8) 12 (Ml 8), ai_ cy (rl 9) 12 (Ml 9), ai_ cy (rl 10) 12 (Ml 10), ai_ cy (rl 11) 12 (Ml 11), aq_ cy 6 cro 12 (gf_ rr), ai_ cy (rr 0) 12 (m_rr_12 0), ai_ cy (rr 1) 12 (m_rr_12 1), ai_ cy (rr 2) 12 (m_rr_12 2), ai_ cy (rr 3) 12 (m_rr_12 3), ai_ cy (rr 4) 12 (m_rr_12 4), ai_ cy (rr 5) 12 (m_rr_12 5), ai_ cy (rr 6) 12 (m_rr_12 6), ai_ cy (rr 7) 12 (m_rr_12 7), ai_ cy (rr 8) 12 (m_rr_12 8), ai_ cy (rr 9) 12 (m_rr_12 9), ai_ cy (rr 10) 12 (m_rr_12 10), ai_ cy (rr 11) 12 (m_rr_12 11), ai_ cy c4 40 c_c4_12, ai_ cy c5 40 f5, ai_ cy c6 40 f6, ai_ cy c7 12 e7_15, ai_ cy c8 12 e8_16] [18, 19, 0, 1, 2, 3, 4, 5, 6, 7, 8, 9, 10, 11, 12, 13, 14, 20, 21, 22, 23, 24, 25, 26, 27, 28, 29, 30, 31, 32, 15, 16, 17, 33, 34] (by decide +kernel) rfl (fun hP hD => ?_)
            have f0_r_14 := hw
            refine lv_if_eq (tgt := 105) hx hb dB_36_0_7.1.1.2.2 (by decide) (fun c_19 => ?_) (fun c_19 => ?_)
            · have t_19 : r_14.toInt = (0 : Int32).toInt := congrArg Int32.toInt c_19
              refine lv_iload_n hx hb dB_36_0_7.2.2.2.1 rfl (lv_at hl 1 rfl) ?_
              rw [hQ]
              exact W.iret (v := x3_12) hx hb hr (fun t ht hW => ⟨⟨x3_12, (), rfl, trivial, m_rr_12, c_c4_12, e7_15, e8_16, (by first | with_reducible assumption | assumption | exact rng_zero (by omega) (by omega) | omega), (by first | with_reducible assumption | assumption | exact rng_zero (by omega) (by omega) | omega), by rw [ht]; exact hP, hD⟩, hS.F ht⟩) hS.2.2 dB_36_0_7.2.2.2.2
            · have t_19 : ¬ r_14.toInt = (0 : Int32).toInt := fun h => c_19 (Int32.toInt_inj.mp h)
              refine lv_iload_n hx hb dB_36_0_7.1.2.1.1 rfl (lv_at hl 1 rfl) ?_
              refine lv_aload_n hx hb dB_36_0_7.1.2.1.2 rfl (lv_at hl 2 rfl) ?_
              refine lv_iload_n hx hb dB_36_0_7.1.2.2.1 rfl (lv_at hl 3 rfl) ?_
              refine lv_iload_n hx hb dB_36_0_7.1.2.2.2 rfl (lv_at hl 4 rfl) ?_
              refine ct_S hP hD hS hA [ob0_0_ xc xn xk clo cro c4 c5 c6 c7 c8, ob3_0_ xn vp vn n1 n2 n3 n4 n5, ai_ cy n2 40 fs, ai_ cy n3 40 fe, aq_ cy 6 cro 12 (gf_ rr), ai_ cy (rr 0) 12 (m_rr_12 0), ai_ cy (rr 1) 12 (m_rr_12 1), ai_ cy (rr 2) 12 (m_rr_12 2), ai_ cy (rr 3) 12 (m_rr_12 3), ai_ cy (rr 4) 12 (m_rr_12 4), ai_ cy (rr 5) 12 (m_rr_12 5), ai_ cy (rr 6) 12 (m_rr_12 6), ai_ cy (rr 7) 12 (m_rr_12 7), ai_ cy (rr 8) 12 (m_rr_12 8), ai_ cy (rr 9) 12 (m_rr_12 9), ai_ cy (rr 10) 12 (m_rr_12 10), ai_ cy (rr 11) 12 (m_rr_12 11), ai_ cy c4 40 c_c4_12, ai_ cy c5 40 f5, ai_ cy c6 40 f6, ai_ cy c8 12 e8_16] [0, 1, 2, 3, 17, 18, 19, 20, 21, 22, 23, 24, 25, 26, 27, 28, 29, 30, 31, 32, 34] (by decide +kernel) rfl (fun hPc hDw hFc hC_ => ?_)
              refine va_calli (va_runV (As := [.int a1, .int a2]) (rest := [.int x3_12]) ⟨hx, hb, hml, hown, hts⟩ (c_X0_sendAlongWay l D cy H.size xc xk clo cro c4 c5 c6 c7 c8 xn n1 n2 n3 n4 n5 vp vn fs fe rr m_rr_12 c_c4_12 f5 f6 e8_16 a1 a2 (by first | with_reducible assumption | omega | assumption) (by first | with_reducible assumption | omega | assumption) (by first | with_reducible assumption | assumption | omega)) (cwV 2 hts gX0_fill_X0_sendAlongWay rfl rfl rfl ⟨rfl, hd_X0_sendAlongWay⟩ ⟨Nat.le_of_ble_eq_true rfl, Nat.le_of_ble_eq_true rfl⟩) ⟨bl_g, va_recvX hK.1 hP (ci := 0) (q0 := 0) rfl rfl, fun U hU hW => ⟨rfl, by rw [hU], by rw [hU]; exact hPc, ⟨kk_mv hW hK, arrOfT_moved hW.alike hG⟩, hDw⟩⟩ rfl rfl hl.1 rfl (lv_room (Nat.le_of_ble_eq_true rfl)) dB_36_0_7.2.1.1 ⟨Nat.le_of_ble_eq_true rfl, Nat.le_of_ble_eq_true rfl⟩) hS (fun q _ h => hFc q h) hFc (fun r_20 u t H locs ht hvm hw hB hz1 hk1 hS => ?_)
              obtain ⟨eMr_21, e4_22, hP1, hD1⟩ := hB
              rw [ht] at hP1
              obtain ⟨hP, hD⟩ := va_join (wr := [aq_ cy 6 clo 12 (gf_ rl), ai_ cy (rl 0) 12 (Ml 0), ai_ cy (rl 1) 12 (Ml 1), ai_ cy (rl 2) 12 (Ml 2), ai_ cy (rl 3) 12 (Ml 3), ai_ cy (rl 4) 12 (Ml 4), ai_ cy (rl 5) 12 (Ml 5), ai_ cy (rl 6) 12 (Ml 6), ai_ cy (rl 7) 12 (Ml 7), ai_ cy (rl 8) 12 (Ml 8), ai_ cy (rl 9) 12 (Ml 9), ai_ cy (rl 10) 12 (Ml 10), ai_ cy (rl 11) 12 (Ml 11), ai_ cy c7 12 e7_15]) (w1 := [ob0_0_ xc xn xk clo cro c4 c5 c6 c7 c8, ob3_0_ xn vp vn n1 n2 n3 n4 n5, ai_ cy n2 40 fs, ai_ cy n3 40 fe, aq_ cy 6 cro 12 (gf_ rr), ai_ cy (rr 0) 12 (eMr_21 0), ai_ cy (rr 1) 12 (eMr_21 1), ai_ cy (rr 2) 12 (eMr_21 2), ai_ cy (rr 3) 12 (eMr_21 3), ai_ cy (rr 4) 12 (eMr_21 4), ai_ cy (rr 5) 12 (eMr_21 5), ai_ cy (rr 6) 12 (eMr_21 6), ai_ cy (rr 7) 12 (eMr_21 7), ai_ cy (rr 8) 12 (eMr_21 8), ai_ cy (rr 9) 12 (eMr_21 9), ai_ cy (rr 10) 12 (eMr_21 10), ai_ cy (rr 11) 12 (eMr_21 11), ai_ cy c4 40 e4_22, ai_ cy c5 40 f5, ai_ cy c6 40 f6, ai_ cy c8 12 e8_16]) hP hD [0, 1, 2, 3, 17, 18, 19, 20, 21, 22, 23, 24, 25, 26, 27, 28, 29, 30, 31, 32, 34] [4, 5, 6, 7, 8, 9, 10, 11, 12, 13, 14, 15, 16, 33] hC_ rfl (by decide +kernel) (by decide +kernel) hk1 hFc hP1 hD1
              refine pd_S hP hD [ob0_0_ xc xn xk clo cro c4 c5 c6 c7 c8, ob3_0_ xn vp vn n1 n2 n3 n4 n5, ai_ cy n2 40 fs, ai_ cy n3 40 fe, aq_ cy 6 clo 12 (gf_ rl), ai_ cy (rl 0) 12 (Ml 0), ai_ cy (rl 1) 12 (Ml 1), ai_ cy (rl 2) 12 (Ml 2), ai_ cy (rl 3) 12 (Ml 3), ai_ cy (rl 4) 12 (Ml 4), ai_ cy (rl 5) 12 (Ml 5), ai_ cy (rl 6) 12 (Ml 6), ai_ cy (rl 7) 12 (Ml 7), ai_ cy (rl 8) 12 (Ml 8), ai_ cy (rl 9) 12 (Ml 9), ai_ cy (rl 10) 12 (Ml 10), ai_ cy (rl 11) 12 (Ml 11), aq_ cy 6 cro 12 (gf_ rr), ai_ cy (rr 0) 12 (eMr_21 0), ai_ cy (rr 1) 12 (eMr_21 1), ai_ cy (rr 2) 12 (eMr_21 2), ai_ cy (rr 3) 12 (eMr_21 3), ai_ cy (rr 4) 12 (eMr_21 4), ai_ cy (rr 5) 12 (eMr_21 5), ai_ cy (rr 6) 12 (eMr_21 6), ai_ cy (rr 7) 12 (eMr_21 7), ai_ cy (rr 8) 12 (eMr_21 8), ai_ cy (rr 9) 12 (eMr_21 9), ai_ cy (rr 10) 12 (eMr_21 10), ai_ cy (rr 11) 12 (eMr_21 11), ai_ cy c4 40 e4_22, ai_ cy c5 40 f5, ai_ cy c6 40 f6, ai_ cy c7 12 e7_15, ai_ cy c8 12 e8_16] [14, 15, 16, 17, 0, 1, 2, 3, 4, 5, 6, 7, 8, 9, 10, 11, 12, 18, 19, 20, 21, 22, 23, 24, 25, 26, 27, 28, 29, 30, 31, 32, 33, 13, 34] (by decide +kernel) rfl (fun hP hD => ?_)
              refine lv_iadd hx hb dB_36_0_7.2.1.2.1 ?_
              refine lv_topi (fun y_23 ey_23 => ?_)
              refine lv_istore_n (lv' := [(3, .int y_23), (4, .int x4_12), (0, .ref xc), (1, .int a1), (2, .int a2)]) hx hb dB_36_0_7.2.1.2.2 rfl hl (by decide) rfl (fun ls hl => ?_)
              obtain ⟨y_24, ey_24⟩ : ∃ y : Int32, y = x4_12 + 1 := ⟨_, rfl⟩
              have ty_24 : y_24.toInt = x4_12.toInt + (1 : Int32).toInt := by rw [ey_24]; exact addI (by omega) (by omega)
              refine lv_iinc (v := y_24) (lv' := [(4, .int y_24), (3, .int y_23), (0, .ref xc), (1, .int a1), (2, .int a2)]) hx hb dB_36_0_7.2.2.1.1 hl (k := 1) rfl (by rw [ey_24]; rfl) (by decide) rfl (fun ls hl => ?_)
              refine lv_goto (tgt := 74) hx hb dB_36_0_7.2.2.1.2 (by decide) ?_
              exact ih_12 y_24 y_23 eMr_21 e4_22 e7_15 e8_16 _ _ _ (by omega) (by first | with_reducible assumption | omega | assumption) (by first | with_reducible assumption | omega | assumption) (by first | with_reducible assumption | assumption | exact rng_zero (by omega) (by omega) | exact orng_zero) (by first | with_reducible assumption | assumption | exact rng_zero (by omega) (by omega) | exact orng_zero) ⟨hP, hD⟩ hS (lv_sub hl [0, 1, 2, 3, 4] rfl)
      · have t_11 : y_10.toInt = (1 : Int32).toInt := congrArg Int32.toInt c_11
        refine lv_bipush (v := (-5)) hx hb dB_36_0_6.1.2.1.2 (by decide) ?_
        rw [hQ]
        exact W.iret (v := (-5)) hx hb hr (fun t ht hW => ⟨⟨(-5), (), rfl, trivial, m_rr_4, e1_2, e7_7, f8, (by first | with_reducible assumption | assumption | exact rng_zero (by omega) (by omega) | omega), (by first | with_reducible assumption | assumption | exact rng_zero (by omega) (by omega) | omega), by rw [ht]; exact hP, hD⟩, hS.F ht⟩) hS.2.2 dB_36_0_6.1.2.2.1
    · have t_5 : ¬ vp.toInt ≤ x3_4.toInt := fun h => c_5 (Int32.le_iff_toInt_le.mpr h)
      rcases sp_12 (x := x3_4) (by omega) with rfl | rfl | rfl | rfl | rfl | rfl | rfl | rfl | rfl | rfl | rfl | rfl
      · refine lv_aload_n hx hb dB_36_0_4.2.1.2.2 rfl (lv_at hl 1 rfl) ?_
        refine va_get (ci := 0) (v := .ref clo) (C := RX0) (T := TX0) (N := 9) hx hb hts (fun _ h => List.mem_cons_of_mem _ (List.mem_append_left _ (List.mem_append_right _ h))) hown hK.1 hP 0 rfl rfl 2 (by decide) (hts (.fieldLink RX0 11 "CutAtlas$Current" "lets" "[[I") (List.mem_of_getElem? (i := 4) rfl)) (fun _ h9 => h9) rfl dB_36_0_4.2.2.1.1 ?_
        refine lv_iload_n hx hb dB_36_0_4.2.2.1.2 rfl (lv_at hl 0 rfl) ?_
        have h_25 : vp_in (0 : Int32) 12 := by unfold vp_in; decide
        refine va_alda hx hb hG hP 4 rfl (i := 0) h_25 dB_36_0_4.2.2.2.1 ?_
        refine lv_topv (v' := .ref (rl 0)) (gf_at h_25) ?_
        refine lv_iconst (v := 0) hx hb dB_36_0_4.2.2.2.2 (by decide) ?_
        refine lv_aload_n hx hb dB_36_0_5.1.1.1.1 rfl (lv_at hl 1 rfl) ?_
        refine va_get (ci := 0) (v := .ref cro) (C := RX0) (T := TX0) (N := 9) hx hb hts (fun _ h => List.mem_cons_of_mem _ (List.mem_append_left _ (List.mem_append_right _ h))) hown hK.1 hP 0 rfl rfl 3 (by decide) (hts (.fieldLink RX0 16 "CutAtlas$Current" "room" "[[I") (List.mem_of_getElem? (i := 5) rfl)) (fun _ h9 => h9) rfl dB_36_0_5.1.1.1.2 ?_
        refine lv_iload_n hx hb dB_36_0_5.1.1.2.1 rfl (lv_at hl 0 rfl) ?_
        refine va_alda hx hb hG hP 17 rfl (i := 0) h_25 dB_36_0_5.1.1.2.2 ?_
        refine lv_topv (v' := .ref (rr 0)) (gf_at h_25) ?_
        refine lv_iconst (v := 0) hx hb dB_36_0_5.1.2.1.1 (by decide) ?_
        refine lv_aload_n hx hb dB_36_0_5.1.2.1.2 rfl (lv_at hl 1 rfl) ?_
        refine va_get (ci := 0) (v := .ref xn) (C := RX0) (T := TX0) (N := 9) hx hb hts (fun _ h => List.mem_cons_of_mem _ (List.mem_append_left _ (List.mem_append_right _ h))) hown hK.1 hP 0 rfl rfl 0 (by decide) (hts (.fieldLink RX0 35 "CutAtlas$Current" "net" "LCutAtlas$Net;") (List.mem_of_getElem? (i := 2) rfl)) (fun _ h9 => h9) rfl dB_36_0_5.1.2.2.1 ?_
        refine va_get (ci := 3) (v := .int vp) (C := RX3) (T := TX3) (N := 7) hx hb hts (fun _ h => List.mem_cons_of_mem _ (List.mem_append_right _ h)) hown hK.1 hP 1 rfl rfl 0 (by decide) (hts (.fieldLink RX0 43 "CutAtlas$Net" "places" "I") (List.mem_of_getElem? (i := 3) rfl)) (fun _ h9 => h9) rfl dB_36_0_5.1.2.2.2 ?_
        have cl_27 := clI (i := vp) (by omega)
        have cl_28 := clI (i := (0 : Int32)) (by omega)
        refine va_copyi hx hb (by rw [hml]; exact hl.1.symm) hown (hts (.methodLink RX0 83 arraycopyName) (List.mem_of_getElem? (i := 6) rfl)) (hts (.native arraycopyName) (List.mem_of_getElem? (i := 7) rfl)) (hts (.static arraycopyName) (List.mem_of_getElem? (i := 8) rfl)) (hts (.initialized "java/lang/System") (List.mem_of_getElem? (i := 9) rfl)) hK.1 hP hD hS 5 18 0 0 rfl rfl rfl rfl rfl (sp := (0 : Int32)) (dp := (0 : Int32)) (n := vp) (nneg (by omega)) (nneg (by omega)) (nneg (by omega)) (by omega) (by omega) (fun i h => rfl) (Nat.le_of_ble_eq_true rfl) (Nat.le_of_ble_eq_true rfl) dB_36_0_5.2.1.1.1 (fun H locs hP hD hS => ?_)
        obtain ⟨f_29, ef_29⟩ : ∃ g : Nat → Int32, g = va_cpy (Ml 0) (m_rr_4 0) (0 : Int32).toNatClampNeg (0 : Int32).toNatClampNeg vp.toNatClampNeg := ⟨_, rfl⟩
        refine pd_K (D := D) (cl := vwCl) (H := H) (A := A) [ob0_0_ xc xn xk clo cro c4 c5 c6 c7 c8, ob3_0_ xn vp vn n1 n2 n3 n4 n5, ai_ cy n2 40 fs, ai_ cy n3 40 fe, aq_ cy 6 clo 12 (gf_ rl), ai_ cy (rl 0) 12 (Ml 0), ai_ cy (rl 1) 12 (Ml 1), ai_ cy (rl 2) 12 (Ml 2), ai_ cy (rl 3) 12 (Ml 3), ai_ cy (rl 4) 12 (Ml 4), ai_ cy (rl 5) 12 (Ml 5), ai_ cy (rl 6) 12 (Ml 6), ai_ cy (rl 7) 12 (Ml 7), ai_ cy (rl 8) 12 (Ml 8), ai_ cy (rl 9) 12 (Ml 9), ai_ cy (rl 10) 12 (Ml 10), ai_ cy (rl 11) 12 (Ml 11), aq_ cy 6 cro 12 (gf_ rr), ai_ cy (rr 0) 12 f_29, ai_ cy (rr 1) 12 (m_rr_4 1), ai_ cy (rr 2) 12 (m_rr_4 2), ai_ cy (rr 3) 12 (m_rr_4 3), ai_ cy (rr 4) 12 (m_rr_4 4), ai_ cy (rr 5) 12 (m_rr_4 5), ai_ cy (rr 6) 12 (m_rr_4 6), ai_ cy (rr 7) 12 (m_rr_4 7), ai_ cy (rr 8) 12 (m_rr_4 8), ai_ cy (rr 9) 12 (m_rr_4 9), ai_ cy (rr 10) 12 (m_rr_4 10), ai_ cy (rr 11) 12 (m_rr_4 11), ai_ cy c4 40 e1_2, ai_ cy c5 40 f5, ai_ cy c6 40 f6, ai_ cy c7 12 f7, ai_ cy c8 12 f8] (by rw [ef_29]; exact hP) (by rw [ef_29]; exact hD) (fun hP hD => ?_)
        obtain ⟨M_30, eM_30⟩ : ∃ g : Nat → Nat → Int32, g = va_up m_rr_4 0 f_29 := ⟨_, rfl⟩
        refine pd_K (D := D) (cl := vwCl) (H := H) (A := A) [ob0_0_ xc xn xk clo cro c4 c5 c6 c7 c8, ob3_0_ xn vp vn n1 n2 n3 n4 n5, ai_ cy n2 40 fs, ai_ cy n3 40 fe, aq_ cy 6 clo 12 (gf_ rl), ai_ cy (rl 0) 12 (Ml 0), ai_ cy (rl 1) 12 (Ml 1), ai_ cy (rl 2) 12 (Ml 2), ai_ cy (rl 3) 12 (Ml 3), ai_ cy (rl 4) 12 (Ml 4), ai_ cy (rl 5) 12 (Ml 5), ai_ cy (rl 6) 12 (Ml 6), ai_ cy (rl 7) 12 (Ml 7), ai_ cy (rl 8) 12 (Ml 8), ai_ cy (rl 9) 12 (Ml 9), ai_ cy (rl 10) 12 (Ml 10), ai_ cy (rl 11) 12 (Ml 11), aq_ cy 6 cro 12 (gf_ rr), ai_ cy (rr 0) 12 (M_30 0), ai_ cy (rr 1) 12 (M_30 1), ai_ cy (rr 2) 12 (M_30 2), ai_ cy (rr 3) 12 (M_30 3), ai_ cy (rr 4) 12 (M_30 4), ai_ cy (rr 5) 12 (M_30 5), ai_ cy (rr 6) 12 (M_30 6), ai_ cy (rr 7) 12 (M_30 7), ai_ cy (rr 8) 12 (M_30 8), ai_ cy (rr 9) 12 (M_30 9), ai_ cy (rr 10) 12 (M_30 10), ai_ cy (rr 11) 12 (M_30 11), ai_ cy c4 40 e1_2, ai_ cy c5 40 f5, ai_ cy c6 40 f6, ai_ cy c7 12 f7, ai_ cy c8 12 f8] (by rw [eM_30]; exact hP) (by rw [eM_30]; exact hD) (fun hP hD => ?_)
        obtain ⟨y_31, ey_31⟩ : ∃ y : Int32, y = (0 : Int32) + 1 := ⟨_, rfl⟩
        have ty_31 : y_31.toInt = (0 : Int32).toInt + (1 : Int32).toInt := by rw [ey_31]; exact addI (by omega) (by omega)
        refine lv_iinc (v := y_31) (lv' := [(3, .int y_31), (0, .ref xc), (1, .int a1), (2, .int a2)]) hx hb dB_36_0_5.2.1.1.2 hl (k := 0) rfl (by rw [ey_31]; rfl) (by decide) rfl (fun ls hl => ?_)
        refine lv_goto (tgt := 10) hx hb dB_36_0_5.2.1.2.1 (by decide) ?_
        exact ih_4 y_31 M_30 _ _ _ (by omega) (by first | with_reducible assumption | omega | assumption) (by first | with_reducible assumption | omega | assumption) ⟨hP, hD⟩ hS (lv_sub hl [0, 1, 2, 3] rfl)
      · refine lv_aload_n hx hb dB_36_0_4.2.1.2.2 rfl (lv_at hl 1 rfl) ?_
        refine va_get (ci := 0) (v := .ref clo) (C := RX0) (T := TX0) (N := 9) hx hb hts (fun _ h => List.mem_cons_of_mem _ (List.mem_append_left _ (List.mem_append_right _ h))) hown hK.1 hP 0 rfl rfl 2 (by decide) (hts (.fieldLink RX0 11 "CutAtlas$Current" "lets" "[[I") (List.mem_of_getElem? (i := 4) rfl)) (fun _ h9 => h9) rfl dB_36_0_4.2.2.1.1 ?_
        refine lv_iload_n hx hb dB_36_0_4.2.2.1.2 rfl (lv_at hl 0 rfl) ?_
        have h_32 : vp_in (1 : Int32) 12 := by unfold vp_in; decide
        refine va_alda hx hb hG hP 4 rfl (i := 1) h_32 dB_36_0_4.2.2.2.1 ?_
        refine lv_topv (v' := .ref (rl 1)) (gf_at h_32) ?_
        refine lv_iconst (v := 0) hx hb dB_36_0_4.2.2.2.2 (by decide) ?_
        refine lv_aload_n hx hb dB_36_0_5.1.1.1.1 rfl (lv_at hl 1 rfl) ?_
        refine va_get (ci := 0) (v := .ref cro) (C := RX0) (T := TX0) (N := 9) hx hb hts (fun _ h => List.mem_cons_of_mem _ (List.mem_append_left _ (List.mem_append_right _ h))) hown hK.1 hP 0 rfl rfl 3 (by decide) (hts (.fieldLink RX0 16 "CutAtlas$Current" "room" "[[I") (List.mem_of_getElem? (i := 5) rfl)) (fun _ h9 => h9) rfl dB_36_0_5.1.1.1.2 ?_
        refine lv_iload_n hx hb dB_36_0_5.1.1.2.1 rfl (lv_at hl 0 rfl) ?_
        refine va_alda hx hb hG hP 17 rfl (i := 1) h_32 dB_36_0_5.1.1.2.2 ?_
        refine lv_topv (v' := .ref (rr 1)) (gf_at h_32) ?_
        refine lv_iconst (v := 0) hx hb dB_36_0_5.1.2.1.1 (by decide) ?_
        refine lv_aload_n hx hb dB_36_0_5.1.2.1.2 rfl (lv_at hl 1 rfl) ?_
        refine va_get (ci := 0) (v := .ref xn) (C := RX0) (T := TX0) (N := 9) hx hb hts (fun _ h => List.mem_cons_of_mem _ (List.mem_append_left _ (List.mem_append_right _ h))) hown hK.1 hP 0 rfl rfl 0 (by decide) (hts (.fieldLink RX0 35 "CutAtlas$Current" "net" "LCutAtlas$Net;") (List.mem_of_getElem? (i := 2) rfl)) (fun _ h9 => h9) rfl dB_36_0_5.1.2.2.1 ?_
        refine va_get (ci := 3) (v := .int vp) (C := RX3) (T := TX3) (N := 7) hx hb hts (fun _ h => List.mem_cons_of_mem _ (List.mem_append_right _ h)) hown hK.1 hP 1 rfl rfl 0 (by decide) (hts (.fieldLink RX0 43 "CutAtlas$Net" "places" "I") (List.mem_of_getElem? (i := 3) rfl)) (fun _ h9 => h9) rfl dB_36_0_5.1.2.2.2 ?_
        have cl_34 := clI (i := vp) (by omega)
        have cl_35 := clI (i := (0 : Int32)) (by omega)
        refine va_copyi hx hb (by rw [hml]; exact hl.1.symm) hown (hts (.methodLink RX0 83 arraycopyName) (List.mem_of_getElem? (i := 6) rfl)) (hts (.native arraycopyName) (List.mem_of_getElem? (i := 7) rfl)) (hts (.static arraycopyName) (List.mem_of_getElem? (i := 8) rfl)) (hts (.initialized "java/lang/System") (List.mem_of_getElem? (i := 9) rfl)) hK.1 hP hD hS 6 19 0 0 rfl rfl rfl rfl rfl (sp := (0 : Int32)) (dp := (0 : Int32)) (n := vp) (nneg (by omega)) (nneg (by omega)) (nneg (by omega)) (by omega) (by omega) (fun i h => rfl) (Nat.le_of_ble_eq_true rfl) (Nat.le_of_ble_eq_true rfl) dB_36_0_5.2.1.1.1 (fun H locs hP hD hS => ?_)
        obtain ⟨f_36, ef_36⟩ : ∃ g : Nat → Int32, g = va_cpy (Ml 1) (m_rr_4 1) (0 : Int32).toNatClampNeg (0 : Int32).toNatClampNeg vp.toNatClampNeg := ⟨_, rfl⟩
        refine pd_K (D := D) (cl := vwCl) (H := H) (A := A) [ob0_0_ xc xn xk clo cro c4 c5 c6 c7 c8, ob3_0_ xn vp vn n1 n2 n3 n4 n5, ai_ cy n2 40 fs, ai_ cy n3 40 fe, aq_ cy 6 clo 12 (gf_ rl), ai_ cy (rl 0) 12 (Ml 0), ai_ cy (rl 1) 12 (Ml 1), ai_ cy (rl 2) 12 (Ml 2), ai_ cy (rl 3) 12 (Ml 3), ai_ cy (rl 4) 12 (Ml 4), ai_ cy (rl 5) 12 (Ml 5), ai_ cy (rl 6) 12 (Ml 6), ai_ cy (rl 7) 12 (Ml 7), ai_ cy (rl 8) 12 (Ml 8), ai_ cy (rl 9) 12 (Ml 9), ai_ cy (rl 10) 12 (Ml 10), ai_ cy (rl 11) 12 (Ml 11), aq_ cy 6 cro 12 (gf_ rr), ai_ cy (rr 0) 12 (m_rr_4 0), ai_ cy (rr 1) 12 f_36, ai_ cy (rr 2) 12 (m_rr_4 2), ai_ cy (rr 3) 12 (m_rr_4 3), ai_ cy (rr 4) 12 (m_rr_4 4), ai_ cy (rr 5) 12 (m_rr_4 5), ai_ cy (rr 6) 12 (m_rr_4 6), ai_ cy (rr 7) 12 (m_rr_4 7), ai_ cy (rr 8) 12 (m_rr_4 8), ai_ cy (rr 9) 12 (m_rr_4 9), ai_ cy (rr 10) 12 (m_rr_4 10), ai_ cy (rr 11) 12 (m_rr_4 11), ai_ cy c4 40 e1_2, ai_ cy c5 40 f5, ai_ cy c6 40 f6, ai_ cy c7 12 f7, ai_ cy c8 12 f8] (by rw [ef_36]; exact hP) (by rw [ef_36]; exact hD) (fun hP hD => ?_)
        obtain ⟨M_37, eM_37⟩ : ∃ g : Nat → Nat → Int32, g = va_up m_rr_4 1 f_36 := ⟨_, rfl⟩
        refine pd_K (D := D) (cl := vwCl) (H := H) (A := A) [ob0_0_ xc xn xk clo cro c4 c5 c6 c7 c8, ob3_0_ xn vp vn n1 n2 n3 n4 n5, ai_ cy n2 40 fs, ai_ cy n3 40 fe, aq_ cy 6 clo 12 (gf_ rl), ai_ cy (rl 0) 12 (Ml 0), ai_ cy (rl 1) 12 (Ml 1), ai_ cy (rl 2) 12 (Ml 2), ai_ cy (rl 3) 12 (Ml 3), ai_ cy (rl 4) 12 (Ml 4), ai_ cy (rl 5) 12 (Ml 5), ai_ cy (rl 6) 12 (Ml 6), ai_ cy (rl 7) 12 (Ml 7), ai_ cy (rl 8) 12 (Ml 8), ai_ cy (rl 9) 12 (Ml 9), ai_ cy (rl 10) 12 (Ml 10), ai_ cy (rl 11) 12 (Ml 11), aq_ cy 6 cro 12 (gf_ rr), ai_ cy (rr 0) 12 (M_37 0), ai_ cy (rr 1) 12 (M_37 1), ai_ cy (rr 2) 12 (M_37 2), ai_ cy (rr 3) 12 (M_37 3), ai_ cy (rr 4) 12 (M_37 4), ai_ cy (rr 5) 12 (M_37 5), ai_ cy (rr 6) 12 (M_37 6), ai_ cy (rr 7) 12 (M_37 7), ai_ cy (rr 8) 12 (M_37 8), ai_ cy (rr 9) 12 (M_37 9), ai_ cy (rr 10) 12 (M_37 10), ai_ cy (rr 11) 12 (M_37 11), ai_ cy c4 40 e1_2, ai_ cy c5 40 f5, ai_ cy c6 40 f6, ai_ cy c7 12 f7, ai_ cy c8 12 f8] (by rw [eM_37]; exact hP) (by rw [eM_37]; exact hD) (fun hP hD => ?_)
        obtain ⟨y_38, ey_38⟩ : ∃ y : Int32, y = (1 : Int32) + 1 := ⟨_, rfl⟩
        have ty_38 : y_38.toInt = (1 : Int32).toInt + (1 : Int32).toInt := by rw [ey_38]; exact addI (by omega) (by omega)
        refine lv_iinc (v := y_38) (lv' := [(3, .int y_38), (0, .ref xc), (1, .int a1), (2, .int a2)]) hx hb dB_36_0_5.2.1.1.2 hl (k := 0) rfl (by rw [ey_38]; rfl) (by decide) rfl (fun ls hl => ?_)
        refine lv_goto (tgt := 10) hx hb dB_36_0_5.2.1.2.1 (by decide) ?_
        exact ih_4 y_38 M_37 _ _ _ (by omega) (by first | with_reducible assumption | omega | assumption) (by first | with_reducible assumption | omega | assumption) ⟨hP, hD⟩ hS (lv_sub hl [0, 1, 2, 3] rfl)
      · refine lv_aload_n hx hb dB_36_0_4.2.1.2.2 rfl (lv_at hl 1 rfl) ?_
        refine va_get (ci := 0) (v := .ref clo) (C := RX0) (T := TX0) (N := 9) hx hb hts (fun _ h => List.mem_cons_of_mem _ (List.mem_append_left _ (List.mem_append_right _ h))) hown hK.1 hP 0 rfl rfl 2 (by decide) (hts (.fieldLink RX0 11 "CutAtlas$Current" "lets" "[[I") (List.mem_of_getElem? (i := 4) rfl)) (fun _ h9 => h9) rfl dB_36_0_4.2.2.1.1 ?_
        refine lv_iload_n hx hb dB_36_0_4.2.2.1.2 rfl (lv_at hl 0 rfl) ?_
        have h_39 : vp_in (2 : Int32) 12 := by unfold vp_in; decide
        refine va_alda hx hb hG hP 4 rfl (i := 2) h_39 dB_36_0_4.2.2.2.1 ?_
        refine lv_topv (v' := .ref (rl 2)) (gf_at h_39) ?_
        refine lv_iconst (v := 0) hx hb dB_36_0_4.2.2.2.2 (by decide) ?_
        refine lv_aload_n hx hb dB_36_0_5.1.1.1.1 rfl (lv_at hl 1 rfl) ?_
        refine va_get (ci := 0) (v := .ref cro) (C := RX0) (T := TX0) (N := 9) hx hb hts (fun _ h => List.mem_cons_of_mem _ (List.mem_append_left _ (List.mem_append_right _ h))) hown hK.1 hP 0 rfl rfl 3 (by decide) (hts (.fieldLink RX0 16 "CutAtlas$Current" "room" "[[I") (List.mem_of_getElem? (i := 5) rfl)) (fun _ h9 => h9) rfl dB_36_0_5.1.1.1.2 ?_
        refine lv_iload_n hx hb dB_36_0_5.1.1.2.1 rfl (lv_at hl 0 rfl) ?_
        refine va_alda hx hb hG hP 17 rfl (i := 2) h_39 dB_36_0_5.1.1.2.2 ?_
        refine lv_topv (v' := .ref (rr 2)) (gf_at h_39) ?_
        refine lv_iconst (v := 0) hx hb dB_36_0_5.1.2.1.1 (by decide) ?_
        refine lv_aload_n hx hb dB_36_0_5.1.2.1.2 rfl (lv_at hl 1 rfl) ?_
        refine va_get (ci := 0) (v := .ref xn) (C := RX0) (T := TX0) (N := 9) hx hb hts (fun _ h => List.mem_cons_of_mem _ (List.mem_append_left _ (List.mem_append_right _ h))) hown hK.1 hP 0 rfl rfl 0 (by decide) (hts (.fieldLink RX0 35 "CutAtlas$Current" "net" "LCutAtlas$Net;") (List.mem_of_getElem? (i := 2) rfl)) (fun _ h9 => h9) rfl dB_36_0_5.1.2.2.1 ?_
        refine va_get (ci := 3) (v := .int vp) (C := RX3) (T := TX3) (N := 7) hx hb hts (fun _ h => List.mem_cons_of_mem _ (List.mem_append_right _ h)) hown hK.1 hP 1 rfl rfl 0 (by decide) (hts (.fieldLink RX0 43 "CutAtlas$Net" "places" "I") (List.mem_of_getElem? (i := 3) rfl)) (fun _ h9 => h9) rfl dB_36_0_5.1.2.2.2 ?_
        have cl_41 := clI (i := vp) (by omega)
        have cl_42 := clI (i := (0 : Int32)) (by omega)
        refine va_copyi hx hb (by rw [hml]; exact hl.1.symm) hown (hts (.methodLink RX0 83 arraycopyName) (List.mem_of_getElem? (i := 6) rfl)) (hts (.native arraycopyName) (List.mem_of_getElem? (i := 7) rfl)) (hts (.static arraycopyName) (List.mem_of_getElem? (i := 8) rfl)) (hts (.initialized "java/lang/System") (List.mem_of_getElem? (i := 9) rfl)) hK.1 hP hD hS 7 20 0 0 rfl rfl rfl rfl rfl (sp := (0 : Int32)) (dp := (0 : Int32)) (n := vp) (nneg (by omega)) (nneg (by omega)) (nneg (by omega)) (by omega) (by omega) (fun i h => rfl) (Nat.le_of_ble_eq_true rfl) (Nat.le_of_ble_eq_true rfl) dB_36_0_5.2.1.1.1 (fun H locs hP hD hS => ?_)
        obtain ⟨f_43, ef_43⟩ : ∃ g : Nat → Int32, g = va_cpy (Ml 2) (m_rr_4 2) (0 : Int32).toNatClampNeg (0 : Int32).toNatClampNeg vp.toNatClampNeg := ⟨_, rfl⟩
        refine pd_K (D := D) (cl := vwCl) (H := H) (A := A) [ob0_0_ xc xn xk clo cro c4 c5 c6 c7 c8, ob3_0_ xn vp vn n1 n2 n3 n4 n5, ai_ cy n2 40 fs, ai_ cy n3 40 fe, aq_ cy 6 clo 12 (gf_ rl), ai_ cy (rl 0) 12 (Ml 0), ai_ cy (rl 1) 12 (Ml 1), ai_ cy (rl 2) 12 (Ml 2), ai_ cy (rl 3) 12 (Ml 3), ai_ cy (rl 4) 12 (Ml 4), ai_ cy (rl 5) 12 (Ml 5), ai_ cy (rl 6) 12 (Ml 6), ai_ cy (rl 7) 12 (Ml 7), ai_ cy (rl 8) 12 (Ml 8), ai_ cy (rl 9) 12 (Ml 9), ai_ cy (rl 10) 12 (Ml 10), ai_ cy (rl 11) 12 (Ml 11), aq_ cy 6 cro 12 (gf_ rr), ai_ cy (rr 0) 12 (m_rr_4 0), ai_ cy (rr 1) 12 (m_rr_4 1), ai_ cy (rr 2) 12 f_43, ai_ cy (rr 3) 12 (m_rr_4 3), ai_ cy (rr 4) 12 (m_rr_4 4), ai_ cy (rr 5) 12 (m_rr_4 5), ai_ cy (rr 6) 12 (m_rr_4 6), ai_ cy (rr 7) 12 (m_rr_4 7), ai_ cy (rr 8) 12 (m_rr_4 8), ai_ cy (rr 9) 12 (m_rr_4 9), ai_ cy (rr 10) 12 (m_rr_4 10), ai_ cy (rr 11) 12 (m_rr_4 11), ai_ cy c4 40 e1_2, ai_ cy c5 40 f5, ai_ cy c6 40 f6, ai_ cy c7 12 f7, ai_ cy c8 12 f8] (by rw [ef_43]; exact hP) (by rw [ef_43]; exact hD) (fun hP hD => ?_)
        obtain ⟨M_44, eM_44⟩ : ∃ g : Nat → Nat → Int32, g = va_up m_rr_4 2 f_43 := ⟨_, rfl⟩
        refine pd_K (D := D) (cl := vwCl) (H := H) (A := A) [ob0_0_ xc xn xk clo cro c4 c5 c6 c7 c8, ob3_0_ xn vp vn n1 n2 n3 n4 n5, ai_ cy n2 40 fs, ai_ cy n3 40 fe, aq_ cy 6 clo 12 (gf_ rl), ai_ cy (rl 0) 12 (Ml 0), ai_ cy (rl 1) 12 (Ml 1), ai_ cy (rl 2) 12 (Ml 2), ai_ cy (rl 3) 12 (Ml 3), ai_ cy (rl 4) 12 (Ml 4), ai_ cy (rl 5) 12 (Ml 5), ai_ cy (rl 6) 12 (Ml 6), ai_ cy (rl 7) 12 (Ml 7), ai_ cy (rl 8) 12 (Ml 8), ai_ cy (rl 9) 12 (Ml 9), ai_ cy (rl 10) 12 (Ml 10), ai_ cy (rl 11) 12 (Ml 11), aq_ cy 6 cro 12 (gf_ rr), ai_ cy (rr 0) 12 (M_44 0), ai_ cy (rr 1) 12 (M_44 1), ai_ cy (rr 2) 12 (M_44 2), ai_ cy (rr 3) 12 (M_44 3), ai_ cy (rr 4) 12 (M_44 4), ai_ cy (rr 5) 12 (M_44 5), ai_ cy (rr 6) 12 (M_44 6), ai_ cy (rr 7) 12 (M_44 7), ai_ cy (rr 8) 12 (M_44 8), ai_ cy (rr 9) 12 (M_44 9), ai_ cy (rr 10) 12 (M_44 10), ai_ cy (rr 11) 12 (M_44 11), ai_ cy c4 40 e1_2, ai_ cy c5 40 f5, ai_ cy c6 40 f6, ai_ cy c7 12 f7, ai_ cy c8 12 f8] (by rw [eM_44]; exact hP) (by rw [eM_44]; exact hD) (fun hP hD => ?_)
        obtain ⟨y_45, ey_45⟩ : ∃ y : Int32, y = (2 : Int32) + 1 := ⟨_, rfl⟩
        have ty_45 : y_45.toInt = (2 : Int32).toInt + (1 : Int32).toInt := by rw [ey_45]; exact addI (by omega) (by omega)
        refine lv_iinc (v := y_45) (lv' := [(3, .int y_45), (0, .ref xc), (1, .int a1), (2, .int a2)]) hx hb dB_36_0_5.2.1.1.2 hl (k := 0) rfl (by rw [ey_45]; rfl) (by decide) rfl (fun ls hl => ?_)
        refine lv_goto (tgt := 10) hx hb dB_36_0_5.2.1.2.1 (by decide) ?_
        exact ih_4 y_45 M_44 _ _ _ (by omega) (by first | with_reducible assumption | omega | assumption) (by first | with_reducible assumption | omega | assumption) ⟨hP, hD⟩ hS (lv_sub hl [0, 1, 2, 3] rfl)
      · refine lv_aload_n hx hb dB_36_0_4.2.1.2.2 rfl (lv_at hl 1 rfl) ?_
        refine va_get (ci := 0) (v := .ref clo) (C := RX0) (T := TX0) (N := 9) hx hb hts (fun _ h => List.mem_cons_of_mem _ (List.mem_append_left _ (List.mem_append_right _ h))) hown hK.1 hP 0 rfl rfl 2 (by decide) (hts (.fieldLink RX0 11 "CutAtlas$Current" "lets" "[[I") (List.mem_of_getElem? (i := 4) rfl)) (fun _ h9 => h9) rfl dB_36_0_4.2.2.1.1 ?_
        refine lv_iload_n hx hb dB_36_0_4.2.2.1.2 rfl (lv_at hl 0 rfl) ?_
        have h_46 : vp_in (3 : Int32) 12 := by unfold vp_in; decide
        refine va_alda hx hb hG hP 4 rfl (i := 3) h_46 dB_36_0_4.2.2.2.1 ?_
        refine lv_topv (v' := .ref (rl 3)) (gf_at h_46) ?_
        refine lv_iconst (v := 0) hx hb dB_36_0_4.2.2.2.2 (by decide) ?_
        refine lv_aload_n hx hb dB_36_0_5.1.1.1.1 rfl (lv_at hl 1 rfl) ?_
        refine va_get (ci := 0) (v := .ref cro) (C := RX0) (T := TX0) (N := 9) hx hb hts (fun _ h => List.mem_cons_of_mem _ (List.mem_append_left _ (List.mem_append_right _ h))) hown hK.1 hP 0 rfl rfl 3 (by decide) (hts (.fieldLink RX0 16 "CutAtlas$Current" "room" "[[I") (List.mem_of_getElem? (i := 5) rfl)) (fun _ h9 => h9) rfl dB_36_0_5.1.1.1.2 ?_
        refine lv_iload_n hx hb dB_36_0_5.1.1.2.1 rfl (lv_at hl 0 rfl) ?_
        refine va_alda hx hb hG hP 17 rfl (i := 3) h_46 dB_36_0_5.1.1.2.2 ?_
        refine lv_topv (v' := .ref (rr 3)) (gf_at h_46) ?_
        refine lv_iconst (v := 0) hx hb dB_36_0_5.1.2.1.1 (by decide) ?_
        refine lv_aload_n hx hb dB_36_0_5.1.2.1.2 rfl (lv_at hl 1 rfl) ?_
        refine va_get (ci := 0) (v := .ref xn) (C := RX0) (T := TX0) (N := 9) hx hb hts (fun _ h => List.mem_cons_of_mem _ (List.mem_append_left _ (List.mem_append_right _ h))) hown hK.1 hP 0 rfl rfl 0 (by decide) (hts (.fieldLink RX0 35 "CutAtlas$Current" "net" "LCutAtlas$Net;") (List.mem_of_getElem? (i := 2) rfl)) (fun _ h9 => h9) rfl dB_36_0_5.1.2.2.1 ?_
        refine va_get (ci := 3) (v := .int vp) (C := RX3) (T := TX3) (N := 7) hx hb hts (fun _ h => List.mem_cons_of_mem _ (List.mem_append_right _ h)) hown hK.1 hP 1 rfl rfl 0 (by decide) (hts (.fieldLink RX0 43 "CutAtlas$Net" "places" "I") (List.mem_of_getElem? (i := 3) rfl)) (fun _ h9 => h9) rfl dB_36_0_5.1.2.2.2 ?_
        have cl_48 := clI (i := vp) (by omega)
        have cl_49 := clI (i := (0 : Int32)) (by omega)
        refine va_copyi hx hb (by rw [hml]; exact hl.1.symm) hown (hts (.methodLink RX0 83 arraycopyName) (List.mem_of_getElem? (i := 6) rfl)) (hts (.native arraycopyName) (List.mem_of_getElem? (i := 7) rfl)) (hts (.static arraycopyName) (List.mem_of_getElem? (i := 8) rfl)) (hts (.initialized "java/lang/System") (List.mem_of_getElem? (i := 9) rfl)) hK.1 hP hD hS 8 21 0 0 rfl rfl rfl rfl rfl (sp := (0 : Int32)) (dp := (0 : Int32)) (n := vp) (nneg (by omega)) (nneg (by omega)) (nneg (by omega)) (by omega) (by omega) (fun i h => rfl) (Nat.le_of_ble_eq_true rfl) (Nat.le_of_ble_eq_true rfl) dB_36_0_5.2.1.1.1 (fun H locs hP hD hS => ?_)
        obtain ⟨f_50, ef_50⟩ : ∃ g : Nat → Int32, g = va_cpy (Ml 3) (m_rr_4 3) (0 : Int32).toNatClampNeg (0 : Int32).toNatClampNeg vp.toNatClampNeg := ⟨_, rfl⟩
        refine pd_K (D := D) (cl := vwCl) (H := H) (A := A) [ob0_0_ xc xn xk clo cro c4 c5 c6 c7 c8, ob3_0_ xn vp vn n1 n2 n3 n4 n5, ai_ cy n2 40 fs, ai_ cy n3 40 fe, aq_ cy 6 clo 12 (gf_ rl), ai_ cy (rl 0) 12 (Ml 0), ai_ cy (rl 1) 12 (Ml 1), ai_ cy (rl 2) 12 (Ml 2), ai_ cy (rl 3) 12 (Ml 3), ai_ cy (rl 4) 12 (Ml 4), ai_ cy (rl 5) 12 (Ml 5), ai_ cy (rl 6) 12 (Ml 6), ai_ cy (rl 7) 12 (Ml 7), ai_ cy (rl 8) 12 (Ml 8), ai_ cy (rl 9) 12 (Ml 9), ai_ cy (rl 10) 12 (Ml 10), ai_ cy (rl 11) 12 (Ml 11), aq_ cy 6 cro 12 (gf_ rr), ai_ cy (rr 0) 12 (m_rr_4 0), ai_ cy (rr 1) 12 (m_rr_4 1), ai_ cy (rr 2) 12 (m_rr_4 2), ai_ cy (rr 3) 12 f_50, ai_ cy (rr 4) 12 (m_rr_4 4), ai_ cy (rr 5) 12 (m_rr_4 5), ai_ cy (rr 6) 12 (m_rr_4 6), ai_ cy (rr 7) 12 (m_rr_4 7), ai_ cy (rr 8) 12 (m_rr_4 8), ai_ cy (rr 9) 12 (m_rr_4 9), ai_ cy (rr 10) 12 (m_rr_4 10), ai_ cy (rr 11) 12 (m_rr_4 11), ai_ cy c4 40 e1_2, ai_ cy c5 40 f5, ai_ cy c6 40 f6, ai_ cy c7 12 f7, ai_ cy c8 12 f8] (by rw [ef_50]; exact hP) (by rw [ef_50]; exact hD) (fun hP hD => ?_)
        obtain ⟨M_51, eM_51⟩ : ∃ g : Nat → Nat → Int32, g = va_up m_rr_4 3 f_50 := ⟨_, rfl⟩
        refine pd_K (D := D) (cl := vwCl) (H := H) (A := A) [ob0_0_ xc xn xk clo cro c4 c5 c6 c7 c8, ob3_0_ xn vp vn n1 n2 n3 n4 n5, ai_ cy n2 40 fs, ai_ cy n3 40 fe, aq_ cy 6 clo 12 (gf_ rl), ai_ cy (rl 0) 12 (Ml 0), ai_ cy (rl 1) 12 (Ml 1), ai_ cy (rl 2) 12 (Ml 2), ai_ cy (rl 3) 12 (Ml 3), ai_ cy (rl 4) 12 (Ml 4), ai_ cy (rl 5) 12 (Ml 5), ai_ cy (rl 6) 12 (Ml 6), ai_ cy (rl 7) 12 (Ml 7), ai_ cy (rl 8) 12 (Ml 8), ai_ cy (rl 9) 12 (Ml 9), ai_ cy (rl 10) 12 (Ml 10), ai_ cy (rl 11) 12 (Ml 11), aq_ cy 6 cro 12 (gf_ rr), ai_ cy (rr 0) 12 (M_51 0), ai_ cy (rr 1) 12 (M_51 1), ai_ cy (rr 2) 12 (M_51 2), ai_ cy (rr 3) 12 (M_51 3), ai_ cy (rr 4) 12 (M_51 4), ai_ cy (rr 5) 12 (M_51 5), ai_ cy (rr 6) 12 (M_51 6), ai_ cy (rr 7) 12 (M_51 7), ai_ cy (rr 8) 12 (M_51 8), ai_ cy (rr 9) 12 (M_51 9), ai_ cy (rr 10) 12 (M_51 10), ai_ cy (rr 11) 12 (M_51 11), ai_ cy c4 40 e1_2, ai_ cy c5 40 f5, ai_ cy c6 40 f6, ai_ cy c7 12 f7, ai_ cy c8 12 f8] (by rw [eM_51]; exact hP) (by rw [eM_51]; exact hD) (fun hP hD => ?_)
        obtain ⟨y_52, ey_52⟩ : ∃ y : Int32, y = (3 : Int32) + 1 := ⟨_, rfl⟩
        have ty_52 : y_52.toInt = (3 : Int32).toInt + (1 : Int32).toInt := by rw [ey_52]; exact addI (by omega) (by omega)
        refine lv_iinc (v := y_52) (lv' := [(3, .int y_52), (0, .ref xc), (1, .int a1), (2, .int a2)]) hx hb dB_36_0_5.2.1.1.2 hl (k := 0) rfl (by rw [ey_52]; rfl) (by decide) rfl (fun ls hl => ?_)
        refine lv_goto (tgt := 10) hx hb dB_36_0_5.2.1.2.1 (by decide) ?_
        exact ih_4 y_52 M_51 _ _ _ (by omega) (by first | with_reducible assumption | omega | assumption) (by first | with_reducible assumption | omega | assumption) ⟨hP, hD⟩ hS (lv_sub hl [0, 1, 2, 3] rfl)
      · refine lv_aload_n hx hb dB_36_0_4.2.1.2.2 rfl (lv_at hl 1 rfl) ?_
        refine va_get (ci := 0) (v := .ref clo) (C := RX0) (T := TX0) (N := 9) hx hb hts (fun _ h => List.mem_cons_of_mem _ (List.mem_append_left _ (List.mem_append_right _ h))) hown hK.1 hP 0 rfl rfl 2 (by decide) (hts (.fieldLink RX0 11 "CutAtlas$Current" "lets" "[[I") (List.mem_of_getElem? (i := 4) rfl)) (fun _ h9 => h9) rfl dB_36_0_4.2.2.1.1 ?_
        refine lv_iload_n hx hb dB_36_0_4.2.2.1.2 rfl (lv_at hl 0 rfl) ?_
        have h_53 : vp_in (4 : Int32) 12 := by unfold vp_in; decide
        refine va_alda hx hb hG hP 4 rfl (i := 4) h_53 dB_36_0_4.2.2.2.1 ?_
        refine lv_topv (v' := .ref (rl 4)) (gf_at h_53) ?_
        refine lv_iconst (v := 0) hx hb dB_36_0_4.2.2.2.2 (by decide) ?_
        refine lv_aload_n hx hb dB_36_0_5.1.1.1.1 rfl (lv_at hl 1 rfl) ?_
        refine va_get (ci := 0) (v := .ref cro) (C := RX0) (T := TX0) (N := 9) hx hb hts (fun _ h => List.mem_cons_of_mem _ (List.mem_append_left _ (List.mem_append_right _ h))) hown hK.1 hP 0 rfl rfl 3 (by decide) (hts (.fieldLink RX0 16 "CutAtlas$Current" "room" "[[I") (List.mem_of_getElem? (i := 5) rfl)) (fun _ h9 => h9) rfl dB_36_0_5.1.1.1.2 ?_
        refine lv_iload_n hx hb dB_36_0_5.1.1.2.1 rfl (lv_at hl 0 rfl) ?_
        refine va_alda hx hb hG hP 17 rfl (i := 4) h_53 dB_36_0_5.1.1.2.2 ?_
        refine lv_topv (v' := .ref (rr 4)) (gf_at h_53) ?_
        refine lv_iconst (v := 0) hx hb dB_36_0_5.1.2.1.1 (by decide) ?_
        refine lv_aload_n hx hb dB_36_0_5.1.2.1.2 rfl (lv_at hl 1 rfl) ?_
        refine va_get (ci := 0) (v := .ref xn) (C := RX0) (T := TX0) (N := 9) hx hb hts (fun _ h => List.mem_cons_of_mem _ (List.mem_append_left _ (List.mem_append_right _ h))) hown hK.1 hP 0 rfl rfl 0 (by decide) (hts (.fieldLink RX0 35 "CutAtlas$Current" "net" "LCutAtlas$Net;") (List.mem_of_getElem? (i := 2) rfl)) (fun _ h9 => h9) rfl dB_36_0_5.1.2.2.1 ?_
        refine va_get (ci := 3) (v := .int vp) (C := RX3) (T := TX3) (N := 7) hx hb hts (fun _ h => List.mem_cons_of_mem _ (List.mem_append_right _ h)) hown hK.1 hP 1 rfl rfl 0 (by decide) (hts (.fieldLink RX0 43 "CutAtlas$Net" "places" "I") (List.mem_of_getElem? (i := 3) rfl)) (fun _ h9 => h9) rfl dB_36_0_5.1.2.2.2 ?_
        have cl_55 := clI (i := vp) (by omega)
        have cl_56 := clI (i := (0 : Int32)) (by omega)
        refine va_copyi hx hb (by rw [hml]; exact hl.1.symm) hown (hts (.methodLink RX0 83 arraycopyName) (List.mem_of_getElem? (i := 6) rfl)) (hts (.native arraycopyName) (List.mem_of_getElem? (i := 7) rfl)) (hts (.static arraycopyName) (List.mem_of_getElem? (i := 8) rfl)) (hts (.initialized "java/lang/System") (List.mem_of_getElem? (i := 9) rfl)) hK.1 hP hD hS 9 22 0 0 rfl rfl rfl rfl rfl (sp := (0 : Int32)) (dp := (0 : Int32)) (n := vp) (nneg (by omega)) (nneg (by omega)) (nneg (by omega)) (by omega) (by omega) (fun i h => rfl) (Nat.le_of_ble_eq_true rfl) (Nat.le_of_ble_eq_true rfl) dB_36_0_5.2.1.1.1 (fun H locs hP hD hS => ?_)
        obtain ⟨f_57, ef_57⟩ : ∃ g : Nat → Int32, g = va_cpy (Ml 4) (m_rr_4 4) (0 : Int32).toNatClampNeg (0 : Int32).toNatClampNeg vp.toNatClampNeg := ⟨_, rfl⟩
        refine pd_K (D := D) (cl := vwCl) (H := H) (A := A) [ob0_0_ xc xn xk clo cro c4 c5 c6 c7 c8, ob3_0_ xn vp vn n1 n2 n3 n4 n5, ai_ cy n2 40 fs, ai_ cy n3 40 fe, aq_ cy 6 clo 12 (gf_ rl), ai_ cy (rl 0) 12 (Ml 0), ai_ cy (rl 1) 12 (Ml 1), ai_ cy (rl 2) 12 (Ml 2), ai_ cy (rl 3) 12 (Ml 3), ai_ cy (rl 4) 12 (Ml 4), ai_ cy (rl 5) 12 (Ml 5), ai_ cy (rl 6) 12 (Ml 6), ai_ cy (rl 7) 12 (Ml 7), ai_ cy (rl 8) 12 (Ml 8), ai_ cy (rl 9) 12 (Ml 9), ai_ cy (rl 10) 12 (Ml 10), ai_ cy (rl 11) 12 (Ml 11), aq_ cy 6 cro 12 (gf_ rr), ai_ cy (rr 0) 12 (m_rr_4 0), ai_ cy (rr 1) 12 (m_rr_4 1), ai_ cy (rr 2) 12 (m_rr_4 2), ai_ cy (rr 3) 12 (m_rr_4 3), ai_ cy (rr 4) 12 f_57, ai_ cy (rr 5) 12 (m_rr_4 5), ai_ cy (rr 6) 12 (m_rr_4 6), ai_ cy (rr 7) 12 (m_rr_4 7), ai_ cy (rr 8) 12 (m_rr_4 8), ai_ cy (rr 9) 12 (m_rr_4 9), ai_ cy (rr 10) 12 (m_rr_4 10), ai_ cy (rr 11) 12 (m_rr_4 11), ai_ cy c4 40 e1_2, ai_ cy c5 40 f5, ai_ cy c6 40 f6, ai_ cy c7 12 f7, ai_ cy c8 12 f8] (by rw [ef_57]; exact hP) (by rw [ef_57]; exact hD) (fun hP hD => ?_)
        obtain ⟨M_58, eM_58⟩ : ∃ g : Nat → Nat → Int32, g = va_up m_rr_4 4 f_57 := ⟨_, rfl⟩
        refine pd_K (D := D) (cl := vwCl) (H := H) (A := A) [ob0_0_ xc xn xk clo cro c4 c5 c6 c7 c8, ob3_0_ xn vp vn n1 n2 n3 n4 n5, ai_ cy n2 40 fs, ai_ cy n3 40 fe, aq_ cy 6 clo 12 (gf_ rl), ai_ cy (rl 0) 12 (Ml 0), ai_ cy (rl 1) 12 (Ml 1), ai_ cy (rl 2) 12 (Ml 2), ai_ cy (rl 3) 12 (Ml 3), ai_ cy (rl 4) 12 (Ml 4), ai_ cy (rl 5) 12 (Ml 5), ai_ cy (rl 6) 12 (Ml 6), ai_ cy (rl 7) 12 (Ml 7), ai_ cy (rl 8) 12 (Ml 8), ai_ cy (rl 9) 12 (Ml 9), ai_ cy (rl 10) 12 (Ml 10), ai_ cy (rl 11) 12 (Ml 11), aq_ cy 6 cro 12 (gf_ rr), ai_ cy (rr 0) 12 (M_58 0), ai_ cy (rr 1) 12 (M_58 1), ai_ cy (rr 2) 12 (M_58 2), ai_ cy (rr 3) 12 (M_58 3), ai_ cy (rr 4) 12 (M_58 4), ai_ cy (rr 5) 12 (M_58 5), ai_ cy (rr 6) 12 (M_58 6), ai_ cy (rr 7) 12 (M_58 7), ai_ cy (rr 8) 12 (M_58 8), ai_ cy (rr 9) 12 (M_58 9), ai_ cy (rr 10) 12 (M_58 10), ai_ cy (rr 11) 12 (M_58 11), ai_ cy c4 40 e1_2, ai_ cy c5 40 f5, ai_ cy c6 40 f6, ai_ cy c7 12 f7, ai_ cy c8 12 f8] (by rw [eM_58]; exact hP) (by rw [eM_58]; exact hD) (fun hP hD => ?_)
        obtain ⟨y_59, ey_59⟩ : ∃ y : Int32, y = (4 : Int32) + 1 := ⟨_, rfl⟩
        have ty_59 : y_59.toInt = (4 : Int32).toInt + (1 : Int32).toInt := by rw [ey_59]; exact addI (by omega) (by omega)
        refine lv_iinc (v := y_59) (lv' := [(3, .int y_59), (0, .ref xc), (1, .int a1), (2, .int a2)]) hx hb dB_36_0_5.2.1.1.2 hl (k := 0) rfl (by rw [ey_59]; rfl) (by decide) rfl (fun ls hl => ?_)
        refine lv_goto (tgt := 10) hx hb dB_36_0_5.2.1.2.1 (by decide) ?_
        exact ih_4 y_59 M_58 _ _ _ (by omega) (by first | with_reducible assumption | omega | assumption) (by first | with_reducible assumption | omega | assumption) ⟨hP, hD⟩ hS (lv_sub hl [0, 1, 2, 3] rfl)
      · refine lv_aload_n hx hb dB_36_0_4.2.1.2.2 rfl (lv_at hl 1 rfl) ?_
        refine va_get (ci := 0) (v := .ref clo) (C := RX0) (T := TX0) (N := 9) hx hb hts (fun _ h => List.mem_cons_of_mem _ (List.mem_append_left _ (List.mem_append_right _ h))) hown hK.1 hP 0 rfl rfl 2 (by decide) (hts (.fieldLink RX0 11 "CutAtlas$Current" "lets" "[[I") (List.mem_of_getElem? (i := 4) rfl)) (fun _ h9 => h9) rfl dB_36_0_4.2.2.1.1 ?_
        refine lv_iload_n hx hb dB_36_0_4.2.2.1.2 rfl (lv_at hl 0 rfl) ?_
        have h_60 : vp_in (5 : Int32) 12 := by unfold vp_in; decide
        refine va_alda hx hb hG hP 4 rfl (i := 5) h_60 dB_36_0_4.2.2.2.1 ?_
        refine lv_topv (v' := .ref (rl 5)) (gf_at h_60) ?_
        refine lv_iconst (v := 0) hx hb dB_36_0_4.2.2.2.2 (by decide) ?_
        refine lv_aload_n hx hb dB_36_0_5.1.1.1.1 rfl (lv_at hl 1 rfl) ?_
        refine va_get (ci := 0) (v := .ref cro) (C := RX0) (T := TX0) (N := 9) hx hb hts (fun _ h => List.mem_cons_of_mem _ (List.mem_append_left _ (List.mem_append_right _ h))) hown hK.1 hP 0 rfl rfl 3 (by decide) (hts (.fieldLink RX0 16 "CutAtlas$Current" "room" "[[I") (List.mem_of_getElem? (i := 5) rfl)) (fun _ h9 => h9) rfl dB_36_0_5.1.1.1.2 ?_
        refine lv_iload_n hx hb dB_36_0_5.1.1.2.1 rfl (lv_at hl 0 rfl) ?_
        refine va_alda hx hb hG hP 17 rfl (i := 5) h_60 dB_36_0_5.1.1.2.2 ?_
        refine lv_topv (v' := .ref (rr 5)) (gf_at h_60) ?_
        refine lv_iconst (v := 0) hx hb dB_36_0_5.1.2.1.1 (by decide) ?_
        refine lv_aload_n hx hb dB_36_0_5.1.2.1.2 rfl (lv_at hl 1 rfl) ?_
        refine va_get (ci := 0) (v := .ref xn) (C := RX0) (T := TX0) (N := 9) hx hb hts (fun _ h => List.mem_cons_of_mem _ (List.mem_append_left _ (List.mem_append_right _ h))) hown hK.1 hP 0 rfl rfl 0 (by decide) (hts (.fieldLink RX0 35 "CutAtlas$Current" "net" "LCutAtlas$Net;") (List.mem_of_getElem? (i := 2) rfl)) (fun _ h9 => h9) rfl dB_36_0_5.1.2.2.1 ?_
        refine va_get (ci := 3) (v := .int vp) (C := RX3) (T := TX3) (N := 7) hx hb hts (fun _ h => List.mem_cons_of_mem _ (List.mem_append_right _ h)) hown hK.1 hP 1 rfl rfl 0 (by decide) (hts (.fieldLink RX0 43 "CutAtlas$Net" "places" "I") (List.mem_of_getElem? (i := 3) rfl)) (fun _ h9 => h9) rfl dB_36_0_5.1.2.2.2 ?_
        have cl_62 := clI (i := vp) (by omega)
        have cl_63 := clI (i := (0 : Int32)) (by omega)
        refine va_copyi hx hb (by rw [hml]; exact hl.1.symm) hown (hts (.methodLink RX0 83 arraycopyName) (List.mem_of_getElem? (i := 6) rfl)) (hts (.native arraycopyName) (List.mem_of_getElem? (i := 7) rfl)) (hts (.static arraycopyName) (List.mem_of_getElem? (i := 8) rfl)) (hts (.initialized "java/lang/System") (List.mem_of_getElem? (i := 9) rfl)) hK.1 hP hD hS 10 23 0 0 rfl rfl rfl rfl rfl (sp := (0 : Int32)) (dp := (0 : Int32)) (n := vp) (nneg (by omega)) (nneg (by omega)) (nneg (by omega)) (by omega) (by omega) (fun i h => rfl) (Nat.le_of_ble_eq_true rfl) (Nat.le_of_ble_eq_true rfl) dB_36_0_5.2.1.1.1 (fun H locs hP hD hS => ?_)
        obtain ⟨f_64, ef_64⟩ : ∃ g : Nat → Int32, g = va_cpy (Ml 5) (m_rr_4 5) (0 : Int32).toNatClampNeg (0 : Int32).toNatClampNeg vp.toNatClampNeg := ⟨_, rfl⟩
        refine pd_K (D := D) (cl := vwCl) (H := H) (A := A) [ob0_0_ xc xn xk clo cro c4 c5 c6 c7 c8, ob3_0_ xn vp vn n1 n2 n3 n4 n5, ai_ cy n2 40 fs, ai_ cy n3 40 fe, aq_ cy 6 clo 12 (gf_ rl), ai_ cy (rl 0) 12 (Ml 0), ai_ cy (rl 1) 12 (Ml 1), ai_ cy (rl 2) 12 (Ml 2), ai_ cy (rl 3) 12 (Ml 3), ai_ cy (rl 4) 12 (Ml 4), ai_ cy (rl 5) 12 (Ml 5), ai_ cy (rl 6) 12 (Ml 6), ai_ cy (rl 7) 12 (Ml 7), ai_ cy (rl 8) 12 (Ml 8), ai_ cy (rl 9) 12 (Ml 9), ai_ cy (rl 10) 12 (Ml 10), ai_ cy (rl 11) 12 (Ml 11), aq_ cy 6 cro 12 (gf_ rr), ai_ cy (rr 0) 12 (m_rr_4 0), ai_ cy (rr 1) 12 (m_rr_4 1), ai_ cy (rr 2) 12 (m_rr_4 2), ai_ cy (rr 3) 12 (m_rr_4 3), ai_ cy (rr 4) 12 (m_rr_4 4), ai_ cy (rr 5) 12 f_64, ai_ cy (rr 6) 12 (m_rr_4 6), ai_ cy (rr 7) 12 (m_rr_4 7), ai_ cy (rr 8) 12 (m_rr_4 8), ai_ cy (rr 9) 12 (m_rr_4 9), ai_ cy (rr 10) 12 (m_rr_4 10), ai_ cy (rr 11) 12 (m_rr_4 11), ai_ cy c4 40 e1_2, ai_ cy c5 40 f5, ai_ cy c6 40 f6, ai_ cy c7 12 f7, ai_ cy c8 12 f8] (by rw [ef_64]; exact hP) (by rw [ef_64]; exact hD) (fun hP hD => ?_)
        obtain ⟨M_65, eM_65⟩ : ∃ g : Nat → Nat → Int32, g = va_up m_rr_4 5 f_64 := ⟨_, rfl⟩
        refine pd_K (D := D) (cl := vwCl) (H := H) (A := A) [ob0_0_ xc xn xk clo cro c4 c5 c6 c7 c8, ob3_0_ xn vp vn n1 n2 n3 n4 n5, ai_ cy n2 40 fs, ai_ cy n3 40 fe, aq_ cy 6 clo 12 (gf_ rl), ai_ cy (rl 0) 12 (Ml 0), ai_ cy (rl 1) 12 (Ml 1), ai_ cy (rl 2) 12 (Ml 2), ai_ cy (rl 3) 12 (Ml 3), ai_ cy (rl 4) 12 (Ml 4), ai_ cy (rl 5) 12 (Ml 5), ai_ cy (rl 6) 12 (Ml 6), ai_ cy (rl 7) 12 (Ml 7), ai_ cy (rl 8) 12 (Ml 8), ai_ cy (rl 9) 12 (Ml 9), ai_ cy (rl 10) 12 (Ml 10), ai_ cy (rl 11) 12 (Ml 11), aq_ cy 6 cro 12 (gf_ rr), ai_ cy (rr 0) 12 (M_65 0), ai_ cy (rr 1) 12 (M_65 1), ai_ cy (rr 2) 12 (M_65 2), ai_ cy (rr 3) 12 (M_65 3), ai_ cy (rr 4) 12 (M_65 4), ai_ cy (rr 5) 12 (M_65 5), ai_ cy (rr 6) 12 (M_65 6), ai_ cy (rr 7) 12 (M_65 7), ai_ cy (rr 8) 12 (M_65 8), ai_ cy (rr 9) 12 (M_65 9), ai_ cy (rr 10) 12 (M_65 10), ai_ cy (rr 11) 12 (M_65 11), ai_ cy c4 40 e1_2, ai_ cy c5 40 f5, ai_ cy c6 40 f6, ai_ cy c7 12 f7, ai_ cy c8 12 f8] (by rw [eM_65]; exact hP) (by rw [eM_65]; exact hD) (fun hP hD => ?_)
        obtain ⟨y_66, ey_66⟩ : ∃ y : Int32, y = (5 : Int32) + 1 := ⟨_, rfl⟩
        have ty_66 : y_66.toInt = (5 : Int32).toInt + (1 : Int32).toInt := by rw [ey_66]; exact addI (by omega) (by omega)
        refine lv_iinc (v := y_66) (lv' := [(3, .int y_66), (0, .ref xc), (1, .int a1), (2, .int a2)]) hx hb dB_36_0_5.2.1.1.2 hl (k := 0) rfl (by rw [ey_66]; rfl) (by decide) rfl (fun ls hl => ?_)
        refine lv_goto (tgt := 10) hx hb dB_36_0_5.2.1.2.1 (by decide) ?_
        exact ih_4 y_66 M_65 _ _ _ (by omega) (by first | with_reducible assumption | omega | assumption) (by first | with_reducible assumption | omega | assumption) ⟨hP, hD⟩ hS (lv_sub hl [0, 1, 2, 3] rfl)
      · refine lv_aload_n hx hb dB_36_0_4.2.1.2.2 rfl (lv_at hl 1 rfl) ?_
        refine va_get (ci := 0) (v := .ref clo) (C := RX0) (T := TX0) (N := 9) hx hb hts (fun _ h => List.mem_cons_of_mem _ (List.mem_append_left _ (List.mem_append_right _ h))) hown hK.1 hP 0 rfl rfl 2 (by decide) (hts (.fieldLink RX0 11 "CutAtlas$Current" "lets" "[[I") (List.mem_of_getElem? (i := 4) rfl)) (fun _ h9 => h9) rfl dB_36_0_4.2.2.1.1 ?_
        refine lv_iload_n hx hb dB_36_0_4.2.2.1.2 rfl (lv_at hl 0 rfl) ?_
        have h_67 : vp_in (6 : Int32) 12 := by unfold vp_in; decide
        refine va_alda hx hb hG hP 4 rfl (i := 6) h_67 dB_36_0_4.2.2.2.1 ?_
        refine lv_topv (v' := .ref (rl 6)) (gf_at h_67) ?_
        refine lv_iconst (v := 0) hx hb dB_36_0_4.2.2.2.2 (by decide) ?_
        refine lv_aload_n hx hb dB_36_0_5.1.1.1.1 rfl (lv_at hl 1 rfl) ?_
        refine va_get (ci := 0) (v := .ref cro) (C := RX0) (T := TX0) (N := 9) hx hb hts (fun _ h => List.mem_cons_of_mem _ (List.mem_append_left _ (List.mem_append_right _ h))) hown hK.1 hP 0 rfl rfl 3 (by decide) (hts (.fieldLink RX0 16 "CutAtlas$Current" "room" "[[I") (List.mem_of_getElem? (i := 5) rfl)) (fun _ h9 => h9) rfl dB_36_0_5.1.1.1.2 ?_
        refine lv_iload_n hx hb dB_36_0_5.1.1.2.1 rfl (lv_at hl 0 rfl) ?_
        refine va_alda hx hb hG hP 17 rfl (i := 6) h_67 dB_36_0_5.1.1.2.2 ?_
        refine lv_topv (v' := .ref (rr 6)) (gf_at h_67) ?_
        refine lv_iconst (v := 0) hx hb dB_36_0_5.1.2.1.1 (by decide) ?_
        refine lv_aload_n hx hb dB_36_0_5.1.2.1.2 rfl (lv_at hl 1 rfl) ?_
        refine va_get (ci := 0) (v := .ref xn) (C := RX0) (T := TX0) (N := 9) hx hb hts (fun _ h => List.mem_cons_of_mem _ (List.mem_append_left _ (List.mem_append_right _ h))) hown hK.1 hP 0 rfl rfl 0 (by decide) (hts (.fieldLink RX0 35 "CutAtlas$Current" "net" "LCutAtlas$Net;") (List.mem_of_getElem? (i := 2) rfl)) (fun _ h9 => h9) rfl dB_36_0_5.1.2.2.1 ?_
        refine va_get (ci := 3) (v := .int vp) (C := RX3) (T := TX3) (N := 7) hx hb hts (fun _ h => List.mem_cons_of_mem _ (List.mem_append_right _ h)) hown hK.1 hP 1 rfl rfl 0 (by decide) (hts (.fieldLink RX0 43 "CutAtlas$Net" "places" "I") (List.mem_of_getElem? (i := 3) rfl)) (fun _ h9 => h9) rfl dB_36_0_5.1.2.2.2 ?_
        have cl_69 := clI (i := vp) (by omega)
        have cl_70 := clI (i := (0 : Int32)) (by omega)
        refine va_copyi hx hb (by rw [hml]; exact hl.1.symm) hown (hts (.methodLink RX0 83 arraycopyName) (List.mem_of_getElem? (i := 6) rfl)) (hts (.native arraycopyName) (List.mem_of_getElem? (i := 7) rfl)) (hts (.static arraycopyName) (List.mem_of_getElem? (i := 8) rfl)) (hts (.initialized "java/lang/System") (List.mem_of_getElem? (i := 9) rfl)) hK.1 hP hD hS 11 24 0 0 rfl rfl rfl rfl rfl (sp := (0 : Int32)) (dp := (0 : Int32)) (n := vp) (nneg (by omega)) (nneg (by omega)) (nneg (by omega)) (by omega) (by omega) (fun i h => rfl) (Nat.le_of_ble_eq_true rfl) (Nat.le_of_ble_eq_true rfl) dB_36_0_5.2.1.1.1 (fun H locs hP hD hS => ?_)
        obtain ⟨f_71, ef_71⟩ : ∃ g : Nat → Int32, g = va_cpy (Ml 6) (m_rr_4 6) (0 : Int32).toNatClampNeg (0 : Int32).toNatClampNeg vp.toNatClampNeg := ⟨_, rfl⟩
        refine pd_K (D := D) (cl := vwCl) (H := H) (A := A) [ob0_0_ xc xn xk clo cro c4 c5 c6 c7 c8, ob3_0_ xn vp vn n1 n2 n3 n4 n5, ai_ cy n2 40 fs, ai_ cy n3 40 fe, aq_ cy 6 clo 12 (gf_ rl), ai_ cy (rl 0) 12 (Ml 0), ai_ cy (rl 1) 12 (Ml 1), ai_ cy (rl 2) 12 (Ml 2), ai_ cy (rl 3) 12 (Ml 3), ai_ cy (rl 4) 12 (Ml 4), ai_ cy (rl 5) 12 (Ml 5), ai_ cy (rl 6) 12 (Ml 6), ai_ cy (rl 7) 12 (Ml 7), ai_ cy (rl 8) 12 (Ml 8), ai_ cy (rl 9) 12 (Ml 9), ai_ cy (rl 10) 12 (Ml 10), ai_ cy (rl 11) 12 (Ml 11), aq_ cy 6 cro 12 (gf_ rr), ai_ cy (rr 0) 12 (m_rr_4 0), ai_ cy (rr 1) 12 (m_rr_4 1), ai_ cy (rr 2) 12 (m_rr_4 2), ai_ cy (rr 3) 12 (m_rr_4 3), ai_ cy (rr 4) 12 (m_rr_4 4), ai_ cy (rr 5) 12 (m_rr_4 5), ai_ cy (rr 6) 12 f_71, ai_ cy (rr 7) 12 (m_rr_4 7), ai_ cy (rr 8) 12 (m_rr_4 8), ai_ cy (rr 9) 12 (m_rr_4 9), ai_ cy (rr 10) 12 (m_rr_4 10), ai_ cy (rr 11) 12 (m_rr_4 11), ai_ cy c4 40 e1_2, ai_ cy c5 40 f5, ai_ cy c6 40 f6, ai_ cy c7 12 f7, ai_ cy c8 12 f8] (by rw [ef_71]; exact hP) (by rw [ef_71]; exact hD) (fun hP hD => ?_)
        obtain ⟨M_72, eM_72⟩ : ∃ g : Nat → Nat → Int32, g = va_up m_rr_4 6 f_71 := ⟨_, rfl⟩
        refine pd_K (D := D) (cl := vwCl) (H := H) (A := A) [ob0_0_ xc xn xk clo cro c4 c5 c6 c7 c8, ob3_0_ xn vp vn n1 n2 n3 n4 n5, ai_ cy n2 40 fs, ai_ cy n3 40 fe, aq_ cy 6 clo 12 (gf_ rl), ai_ cy (rl 0) 12 (Ml 0), ai_ cy (rl 1) 12 (Ml 1), ai_ cy (rl 2) 12 (Ml 2), ai_ cy (rl 3) 12 (Ml 3), ai_ cy (rl 4) 12 (Ml 4), ai_ cy (rl 5) 12 (Ml 5), ai_ cy (rl 6) 12 (Ml 6), ai_ cy (rl 7) 12 (Ml 7), ai_ cy (rl 8) 12 (Ml 8), ai_ cy (rl 9) 12 (Ml 9), ai_ cy (rl 10) 12 (Ml 10), ai_ cy (rl 11) 12 (Ml 11), aq_ cy 6 cro 12 (gf_ rr), ai_ cy (rr 0) 12 (M_72 0), ai_ cy (rr 1) 12 (M_72 1), ai_ cy (rr 2) 12 (M_72 2), ai_ cy (rr 3) 12 (M_72 3), ai_ cy (rr 4) 12 (M_72 4), ai_ cy (rr 5) 12 (M_72 5), ai_ cy (rr 6) 12 (M_72 6), ai_ cy (rr 7) 12 (M_72 7), ai_ cy (rr 8) 12 (M_72 8), ai_ cy (rr 9) 12 (M_72 9), ai_ cy (rr 10) 12 (M_72 10), ai_ cy (rr 11) 12 (M_72 11), ai_ cy c4 40 e1_2, ai_ cy c5 40 f5, ai_ cy c6 40 f6, ai_ cy c7 12 f7, ai_ cy c8 12 f8] (by rw [eM_72]; exact hP) (by rw [eM_72]; exact hD) (fun hP hD => ?_)
        obtain ⟨y_73, ey_73⟩ : ∃ y : Int32, y = (6 : Int32) + 1 := ⟨_, rfl⟩
        have ty_73 : y_73.toInt = (6 : Int32).toInt + (1 : Int32).toInt := by rw [ey_73]; exact addI (by omega) (by omega)
        refine lv_iinc (v := y_73) (lv' := [(3, .int y_73), (0, .ref xc), (1, .int a1), (2, .int a2)]) hx hb dB_36_0_5.2.1.1.2 hl (k := 0) rfl (by rw [ey_73]; rfl) (by decide) rfl (fun ls hl => ?_)
        refine lv_goto (tgt := 10) hx hb dB_36_0_5.2.1.2.1 (by decide) ?_
        exact ih_4 y_73 M_72 _ _ _ (by omega) (by first | with_reducible assumption | omega | assumption) (by first | with_reducible assumption | omega | assumption) ⟨hP, hD⟩ hS (lv_sub hl [0, 1, 2, 3] rfl)
      · refine lv_aload_n hx hb dB_36_0_4.2.1.2.2 rfl (lv_at hl 1 rfl) ?_
        refine va_get (ci := 0) (v := .ref clo) (C := RX0) (T := TX0) (N := 9) hx hb hts (fun _ h => List.mem_cons_of_mem _ (List.mem_append_left _ (List.mem_append_right _ h))) hown hK.1 hP 0 rfl rfl 2 (by decide) (hts (.fieldLink RX0 11 "CutAtlas$Current" "lets" "[[I") (List.mem_of_getElem? (i := 4) rfl)) (fun _ h9 => h9) rfl dB_36_0_4.2.2.1.1 ?_
        refine lv_iload_n hx hb dB_36_0_4.2.2.1.2 rfl (lv_at hl 0 rfl) ?_
        have h_74 : vp_in (7 : Int32) 12 := by unfold vp_in; decide
        refine va_alda hx hb hG hP 4 rfl (i := 7) h_74 dB_36_0_4.2.2.2.1 ?_
        refine lv_topv (v' := .ref (rl 7)) (gf_at h_74) ?_
        refine lv_iconst (v := 0) hx hb dB_36_0_4.2.2.2.2 (by decide) ?_
        refine lv_aload_n hx hb dB_36_0_5.1.1.1.1 rfl (lv_at hl 1 rfl) ?_
        refine va_get (ci := 0) (v := .ref cro) (C := RX0) (T := TX0) (N := 9) hx hb hts (fun _ h => List.mem_cons_of_mem _ (List.mem_append_left _ (List.mem_append_right _ h))) hown hK.1 hP 0 rfl rfl 3 (by decide) (hts (.fieldLink RX0 16 "CutAtlas$Current" "room" "[[I") (List.mem_of_getElem? (i := 5) rfl)) (fun _ h9 => h9) rfl dB_36_0_5.1.1.1.2 ?_
        refine lv_iload_n hx hb dB_36_0_5.1.1.2.1 rfl (lv_at hl 0 rfl) ?_
        refine va_alda hx hb hG hP 17 rfl (i := 7) h_74 dB_36_0_5.1.1.2.2 ?_
        refine lv_topv (v' := .ref (rr 7)) (gf_at h_74) ?_
        refine lv_iconst (v := 0) hx hb dB_36_0_5.1.2.1.1 (by decide) ?_
        refine lv_aload_n hx hb dB_36_0_5.1.2.1.2 rfl (lv_at hl 1 rfl) ?_
        refine va_get (ci := 0) (v := .ref xn) (C := RX0) (T := TX0) (N := 9) hx hb hts (fun _ h => List.mem_cons_of_mem _ (List.mem_append_left _ (List.mem_append_right _ h))) hown hK.1 hP 0 rfl rfl 0 (by decide) (hts (.fieldLink RX0 35 "CutAtlas$Current" "net" "LCutAtlas$Net;") (List.mem_of_getElem? (i := 2) rfl)) (fun _ h9 => h9) rfl dB_36_0_5.1.2.2.1 ?_
        refine va_get (ci := 3) (v := .int vp) (C := RX3) (T := TX3) (N := 7) hx hb hts (fun _ h => List.mem_cons_of_mem _ (List.mem_append_right _ h)) hown hK.1 hP 1 rfl rfl 0 (by decide) (hts (.fieldLink RX0 43 "CutAtlas$Net" "places" "I") (List.mem_of_getElem? (i := 3) rfl)) (fun _ h9 => h9) rfl dB_36_0_5.1.2.2.2 ?_
        have cl_76 := clI (i := vp) (by omega)
        have cl_77 := clI (i := (0 : Int32)) (by omega)
        refine va_copyi hx hb (by rw [hml]; exact hl.1.symm) hown (hts (.methodLink RX0 83 arraycopyName) (List.mem_of_getElem? (i := 6) rfl)) (hts (.native arraycopyName) (List.mem_of_getElem? (i := 7) rfl)) (hts (.static arraycopyName) (List.mem_of_getElem? (i := 8) rfl)) (hts (.initialized "java/lang/System") (List.mem_of_getElem? (i := 9) rfl)) hK.1 hP hD hS 12 25 0 0 rfl rfl rfl rfl rfl (sp := (0 : Int32)) (dp := (0 : Int32)) (n := vp) (nneg (by omega)) (nneg (by omega)) (nneg (by omega)) (by omega) (by omega) (fun i h => rfl) (Nat.le_of_ble_eq_true rfl) (Nat.le_of_ble_eq_true rfl) dB_36_0_5.2.1.1.1 (fun H locs hP hD hS => ?_)
        obtain ⟨f_78, ef_78⟩ : ∃ g : Nat → Int32, g = va_cpy (Ml 7) (m_rr_4 7) (0 : Int32).toNatClampNeg (0 : Int32).toNatClampNeg vp.toNatClampNeg := ⟨_, rfl⟩
        refine pd_K (D := D) (cl := vwCl) (H := H) (A := A) [ob0_0_ xc xn xk clo cro c4 c5 c6 c7 c8, ob3_0_ xn vp vn n1 n2 n3 n4 n5, ai_ cy n2 40 fs, ai_ cy n3 40 fe, aq_ cy 6 clo 12 (gf_ rl), ai_ cy (rl 0) 12 (Ml 0), ai_ cy (rl 1) 12 (Ml 1), ai_ cy (rl 2) 12 (Ml 2), ai_ cy (rl 3) 12 (Ml 3), ai_ cy (rl 4) 12 (Ml 4), ai_ cy (rl 5) 12 (Ml 5), ai_ cy (rl 6) 12 (Ml 6), ai_ cy (rl 7) 12 (Ml 7), ai_ cy (rl 8) 12 (Ml 8), ai_ cy (rl 9) 12 (Ml 9), ai_ cy (rl 10) 12 (Ml 10), ai_ cy (rl 11) 12 (Ml 11), aq_ cy 6 cro 12 (gf_ rr), ai_ cy (rr 0) 12 (m_rr_4 0), ai_ cy (rr 1) 12 (m_rr_4 1), ai_ cy (rr 2) 12 (m_rr_4 2), ai_ cy (rr 3) 12 (m_rr_4 3), ai_ cy (rr 4) 12 (m_rr_4 4), ai_ cy (rr 5) 12 (m_rr_4 5), ai_ cy (rr 6) 12 (m_rr_4 6), ai_ cy (rr 7) 12 f_78, ai_ cy (rr 8) 12 (m_rr_4 8), ai_ cy (rr 9) 12 (m_rr_4 9), ai_ cy (rr 10) 12 (m_rr_4 10), ai_ cy (rr 11) 12 (m_rr_4 11), ai_ cy c4 40 e1_2, ai_ cy c5 40 f5, ai_ cy c6 40 f6, ai_ cy c7 12 f7, ai_ cy c8 12 f8] (by rw [ef_78]; exact hP) (by rw [ef_78]; exact hD) (fun hP hD => ?_)
        obtain ⟨M_79, eM_79⟩ : ∃ g : Nat → Nat → Int32, g = va_up m_rr_4 7 f_78 := ⟨_, rfl⟩
        refine pd_K (D := D) (cl := vwCl) (H := H) (A := A) [ob0_0_ xc xn xk clo cro c4 c5 c6 c7 c8, ob3_0_ xn vp vn n1 n2 n3 n4 n5, ai_ cy n2 40 fs, ai_ cy n3 40 fe, aq_ cy 6 clo 12 (gf_ rl), ai_ cy (rl 0) 12 (Ml 0), ai_ cy (rl 1) 12 (Ml 1), ai_ cy (rl 2) 12 (Ml 2), ai_ cy (rl 3) 12 (Ml 3), ai_ cy (rl 4) 12 (Ml 4), ai_ cy (rl 5) 12 (Ml 5), ai_ cy (rl 6) 12 (Ml 6), ai_ cy (rl 7) 12 (Ml 7), ai_ cy (rl 8) 12 (Ml 8), ai_ cy (rl 9) 12 (Ml 9), ai_ cy (rl 10) 12 (Ml 10), ai_ cy (rl 11) 12 (Ml 11), aq_ cy 6 cro 12 (gf_ rr), ai_ cy (rr 0) 12 (M_79 0), ai_ cy (rr 1) 12 (M_79 1), ai_ cy (rr 2) 12 (M_79 2), ai_ cy (rr 3) 12 (M_79 3), ai_ cy (rr 4) 12 (M_79 4), ai_ cy (rr 5) 12 (M_79 5), ai_ cy (rr 6) 12 (M_79 6), ai_ cy (rr 7) 12 (M_79 7), ai_ cy (rr 8) 12 (M_79 8), ai_ cy (rr 9) 12 (M_79 9), ai_ cy (rr 10) 12 (M_79 10), ai_ cy (rr 11) 12 (M_79 11), ai_ cy c4 40 e1_2, ai_ cy c5 40 f5, ai_ cy c6 40 f6, ai_ cy c7 12 f7, ai_ cy c8 12 f8] (by rw [eM_79]; exact hP) (by rw [eM_79]; exact hD) (fun hP hD => ?_)
        obtain ⟨y_80, ey_80⟩ : ∃ y : Int32, y = (7 : Int32) + 1 := ⟨_, rfl⟩
        have ty_80 : y_80.toInt = (7 : Int32).toInt + (1 : Int32).toInt := by rw [ey_80]; exact addI (by omega) (by omega)
        refine lv_iinc (v := y_80) (lv' := [(3, .int y_80), (0, .ref xc), (1, .int a1), (2, .int a2)]) hx hb dB_36_0_5.2.1.1.2 hl (k := 0) rfl (by rw [ey_80]; rfl) (by decide) rfl (fun ls hl => ?_)
        refine lv_goto (tgt := 10) hx hb dB_36_0_5.2.1.2.1 (by decide) ?_
        exact ih_4 y_80 M_79 _ _ _ (by omega) (by first | with_reducible assumption | omega | assumption) (by first | with_reducible assumption | omega | assumption) ⟨hP, hD⟩ hS (lv_sub hl [0, 1, 2, 3] rfl)
      · refine lv_aload_n hx hb dB_36_0_4.2.1.2.2 rfl (lv_at hl 1 rfl) ?_
        refine va_get (ci := 0) (v := .ref clo) (C := RX0) (T := TX0) (N := 9) hx hb hts (fun _ h => List.mem_cons_of_mem _ (List.mem_append_left _ (List.mem_append_right _ h))) hown hK.1 hP 0 rfl rfl 2 (by decide) (hts (.fieldLink RX0 11 "CutAtlas$Current" "lets" "[[I") (List.mem_of_getElem? (i := 4) rfl)) (fun _ h9 => h9) rfl dB_36_0_4.2.2.1.1 ?_
        refine lv_iload_n hx hb dB_36_0_4.2.2.1.2 rfl (lv_at hl 0 rfl) ?_
        have h_81 : vp_in (8 : Int32) 12 := by unfold vp_in; decide
        refine va_alda hx hb hG hP 4 rfl (i := 8) h_81 dB_36_0_4.2.2.2.1 ?_
        refine lv_topv (v' := .ref (rl 8)) (gf_at h_81) ?_
        refine lv_iconst (v := 0) hx hb dB_36_0_4.2.2.2.2 (by decide) ?_
        refine lv_aload_n hx hb dB_36_0_5.1.1.1.1 rfl (lv_at hl 1 rfl) ?_
        refine va_get (ci := 0) (v := .ref cro) (C := RX0) (T := TX0) (N := 9) hx hb hts (fun _ h => List.mem_cons_of_mem _ (List.mem_append_left _ (List.mem_append_right _ h))) hown hK.1 hP 0 rfl rfl 3 (by decide) (hts (.fieldLink RX0 16 "CutAtlas$Current" "room" "[[I") (List.mem_of_getElem? (i := 5) rfl)) (fun _ h9 => h9) rfl dB_36_0_5.1.1.1.2 ?_
        refine lv_iload_n hx hb dB_36_0_5.1.1.2.1 rfl (lv_at hl 0 rfl) ?_
        refine va_alda hx hb hG hP 17 rfl (i := 8) h_81 dB_36_0_5.1.1.2.2 ?_
        refine lv_topv (v' := .ref (rr 8)) (gf_at h_81) ?_
        refine lv_iconst (v := 0) hx hb dB_36_0_5.1.2.1.1 (by decide) ?_
        refine lv_aload_n hx hb dB_36_0_5.1.2.1.2 rfl (lv_at hl 1 rfl) ?_
        refine va_get (ci := 0) (v := .ref xn) (C := RX0) (T := TX0) (N := 9) hx hb hts (fun _ h => List.mem_cons_of_mem _ (List.mem_append_left _ (List.mem_append_right _ h))) hown hK.1 hP 0 rfl rfl 0 (by decide) (hts (.fieldLink RX0 35 "CutAtlas$Current" "net" "LCutAtlas$Net;") (List.mem_of_getElem? (i := 2) rfl)) (fun _ h9 => h9) rfl dB_36_0_5.1.2.2.1 ?_
        refine va_get (ci := 3) (v := .int vp) (C := RX3) (T := TX3) (N := 7) hx hb hts (fun _ h => List.mem_cons_of_mem _ (List.mem_append_right _ h)) hown hK.1 hP 1 rfl rfl 0 (by decide) (hts (.fieldLink RX0 43 "CutAtlas$Net" "places" "I") (List.mem_of_getElem? (i := 3) rfl)) (fun _ h9 => h9) rfl dB_36_0_5.1.2.2.2 ?_
        have cl_83 := clI (i := vp) (by omega)
        have cl_84 := clI (i := (0 : Int32)) (by omega)
        refine va_copyi hx hb (by rw [hml]; exact hl.1.symm) hown (hts (.methodLink RX0 83 arraycopyName) (List.mem_of_getElem? (i := 6) rfl)) (hts (.native arraycopyName) (List.mem_of_getElem? (i := 7) rfl)) (hts (.static arraycopyName) (List.mem_of_getElem? (i := 8) rfl)) (hts (.initialized "java/lang/System") (List.mem_of_getElem? (i := 9) rfl)) hK.1 hP hD hS 13 26 0 0 rfl rfl rfl rfl rfl (sp := (0 : Int32)) (dp := (0 : Int32)) (n := vp) (nneg (by omega)) (nneg (by omega)) (nneg (by omega)) (by omega) (by omega) (fun i h => rfl) (Nat.le_of_ble_eq_true rfl) (Nat.le_of_ble_eq_true rfl) dB_36_0_5.2.1.1.1 (fun H locs hP hD hS => ?_)
        obtain ⟨f_85, ef_85⟩ : ∃ g : Nat → Int32, g = va_cpy (Ml 8) (m_rr_4 8) (0 : Int32).toNatClampNeg (0 : Int32).toNatClampNeg vp.toNatClampNeg := ⟨_, rfl⟩
        refine pd_K (D := D) (cl := vwCl) (H := H) (A := A) [ob0_0_ xc xn xk clo cro c4 c5 c6 c7 c8, ob3_0_ xn vp vn n1 n2 n3 n4 n5, ai_ cy n2 40 fs, ai_ cy n3 40 fe, aq_ cy 6 clo 12 (gf_ rl), ai_ cy (rl 0) 12 (Ml 0), ai_ cy (rl 1) 12 (Ml 1), ai_ cy (rl 2) 12 (Ml 2), ai_ cy (rl 3) 12 (Ml 3), ai_ cy (rl 4) 12 (Ml 4), ai_ cy (rl 5) 12 (Ml 5), ai_ cy (rl 6) 12 (Ml 6), ai_ cy (rl 7) 12 (Ml 7), ai_ cy (rl 8) 12 (Ml 8), ai_ cy (rl 9) 12 (Ml 9), ai_ cy (rl 10) 12 (Ml 10), ai_ cy (rl 11) 12 (Ml 11), aq_ cy 6 cro 12 (gf_ rr), ai_ cy (rr 0) 12 (m_rr_4 0), ai_ cy (rr 1) 12 (m_rr_4 1), ai_ cy (rr 2) 12 (m_rr_4 2), ai_ cy (rr 3) 12 (m_rr_4 3), ai_ cy (rr 4) 12 (m_rr_4 4), ai_ cy (rr 5) 12 (m_rr_4 5), ai_ cy (rr 6) 12 (m_rr_4 6), ai_ cy (rr 7) 12 (m_rr_4 7), ai_ cy (rr 8) 12 f_85, ai_ cy (rr 9) 12 (m_rr_4 9), ai_ cy (rr 10) 12 (m_rr_4 10), ai_ cy (rr 11) 12 (m_rr_4 11), ai_ cy c4 40 e1_2, ai_ cy c5 40 f5, ai_ cy c6 40 f6, ai_ cy c7 12 f7, ai_ cy c8 12 f8] (by rw [ef_85]; exact hP) (by rw [ef_85]; exact hD) (fun hP hD => ?_)
        obtain ⟨M_86, eM_86⟩ : ∃ g : Nat → Nat → Int32, g = va_up m_rr_4 8 f_85 := ⟨_, rfl⟩
        refine pd_K (D := D) (cl := vwCl) (H := H) (A := A) [ob0_0_ xc xn xk clo cro c4 c5 c6 c7 c8, ob3_0_ xn vp vn n1 n2 n3 n4 n5, ai_ cy n2 40 fs, ai_ cy n3 40 fe, aq_ cy 6 clo 12 (gf_ rl), ai_ cy (rl 0) 12 (Ml 0), ai_ cy (rl 1) 12 (Ml 1), ai_ cy (rl 2) 12 (Ml 2), ai_ cy (rl 3) 12 (Ml 3), ai_ cy (rl 4) 12 (Ml 4), ai_ cy (rl 5) 12 (Ml 5), ai_ cy (rl 6) 12 (Ml 6), ai_ cy (rl 7) 12 (Ml 7), ai_ cy (rl 8) 12 (Ml 8), ai_ cy (rl 9) 12 (Ml 9), ai_ cy (rl 10) 12 (Ml 10), ai_ cy (rl 11) 12 (Ml 11), aq_ cy 6 cro 12 (gf_ rr), ai_ cy (rr 0) 12 (M_86 0), ai_ cy (rr 1) 12 (M_86 1), ai_ cy (rr 2) 12 (M_86 2), ai_ cy (rr 3) 12 (M_86 3), ai_ cy (rr 4) 12 (M_86 4), ai_ cy (rr 5) 12 (M_86 5), ai_ cy (rr 6) 12 (M_86 6), ai_ cy (rr 7) 12 (M_86 7), ai_ cy (rr 8) 12 (M_86 8), ai_ cy (rr 9) 12 (M_86 9), ai_ cy (rr 10) 12 (M_86 10), ai_ cy (rr 11) 12 (M_86 11), ai_ cy c4 40 e1_2, ai_ cy c5 40 f5, ai_ cy c6 40 f6, ai_ cy c7 12 f7, ai_ cy c8 12 f8] (by rw [eM_86]; exact hP) (by rw [eM_86]; exact hD) (fun hP hD => ?_)
        obtain ⟨y_87, ey_87⟩ : ∃ y : Int32, y = (8 : Int32) + 1 := ⟨_, rfl⟩
        have ty_87 : y_87.toInt = (8 : Int32).toInt + (1 : Int32).toInt := by rw [ey_87]; exact addI (by omega) (by omega)
        refine lv_iinc (v := y_87) (lv' := [(3, .int y_87), (0, .ref xc), (1, .int a1), (2, .int a2)]) hx hb dB_36_0_5.2.1.1.2 hl (k := 0) rfl (by rw [ey_87]; rfl) (by decide) rfl (fun ls hl => ?_)
        refine lv_goto (tgt := 10) hx hb dB_36_0_5.2.1.2.1 (by decide) ?_
        exact ih_4 y_87 M_86 _ _ _ (by omega) (by first | with_reducible assumption | omega | assumption) (by first | with_reducible assumption | omega | assumption) ⟨hP, hD⟩ hS (lv_sub hl [0, 1, 2, 3] rfl)
      · refine lv_aload_n hx hb dB_36_0_4.2.1.2.2 rfl (lv_at hl 1 rfl) ?_
        refine va_get (ci := 0) (v := .ref clo) (C := RX0) (T := TX0) (N := 9) hx hb hts (fun _ h => List.mem_cons_of_mem _ (List.mem_append_left _ (List.mem_append_right _ h))) hown hK.1 hP 0 rfl rfl 2 (by decide) (hts (.fieldLink RX0 11 "CutAtlas$Current" "lets" "[[I") (List.mem_of_getElem? (i := 4) rfl)) (fun _ h9 => h9) rfl dB_36_0_4.2.2.1.1 ?_
        refine lv_iload_n hx hb dB_36_0_4.2.2.1.2 rfl (lv_at hl 0 rfl) ?_
        have h_88 : vp_in (9 : Int32) 12 := by unfold vp_in; decide
        refine va_alda hx hb hG hP 4 rfl (i := 9) h_88 dB_36_0_4.2.2.2.1 ?_
        refine lv_topv (v' := .ref (rl 9)) (gf_at h_88) ?_
        refine lv_iconst (v := 0) hx hb dB_36_0_4.2.2.2.2 (by decide) ?_
        refine lv_aload_n hx hb dB_36_0_5.1.1.1.1 rfl (lv_at hl 1 rfl) ?_
        refine va_get (ci := 0) (v := .ref cro) (C := RX0) (T := TX0) (N := 9) hx hb hts (fun _ h => List.mem_cons_of_mem _ (List.mem_append_left _ (List.mem_append_right _ h))) hown hK.1 hP 0 rfl rfl 3 (by decide) (hts (.fieldLink RX0 16 "CutAtlas$Current" "room" "[[I") (List.mem_of_getElem? (i := 5) rfl)) (fun _ h9 => h9) rfl dB_36_0_5.1.1.1.2 ?_
        refine lv_iload_n hx hb dB_36_0_5.1.1.2.1 rfl (lv_at hl 0 rfl) ?_
        refine va_alda hx hb hG hP 17 rfl (i := 9) h_88 dB_36_0_5.1.1.2.2 ?_
        refine lv_topv (v' := .ref (rr 9)) (gf_at h_88) ?_
        refine lv_iconst (v := 0) hx hb dB_36_0_5.1.2.1.1 (by decide) ?_
        refine lv_aload_n hx hb dB_36_0_5.1.2.1.2 rfl (lv_at hl 1 rfl) ?_
        refine va_get (ci := 0) (v := .ref xn) (C := RX0) (T := TX0) (N := 9) hx hb hts (fun _ h => List.mem_cons_of_mem _ (List.mem_append_left _ (List.mem_append_right _ h))) hown hK.1 hP 0 rfl rfl 0 (by decide) (hts (.fieldLink RX0 35 "CutAtlas$Current" "net" "LCutAtlas$Net;") (List.mem_of_getElem? (i := 2) rfl)) (fun _ h9 => h9) rfl dB_36_0_5.1.2.2.1 ?_
        refine va_get (ci := 3) (v := .int vp) (C := RX3) (T := TX3) (N := 7) hx hb hts (fun _ h => List.mem_cons_of_mem _ (List.mem_append_right _ h)) hown hK.1 hP 1 rfl rfl 0 (by decide) (hts (.fieldLink RX0 43 "CutAtlas$Net" "places" "I") (List.mem_of_getElem? (i := 3) rfl)) (fun _ h9 => h9) rfl dB_36_0_5.1.2.2.2 ?_
        have cl_90 := clI (i := vp) (by omega)
        have cl_91 := clI (i := (0 : Int32)) (by omega)
        refine va_copyi hx hb (by rw [hml]; exact hl.1.symm) hown (hts (.methodLink RX0 83 arraycopyName) (List.mem_of_getElem? (i := 6) rfl)) (hts (.native arraycopyName) (List.mem_of_getElem? (i := 7) rfl)) (hts (.static arraycopyName) (List.mem_of_getElem? (i := 8) rfl)) (hts (.initialized "java/lang/System") (List.mem_of_getElem? (i := 9) rfl)) hK.1 hP hD hS 14 27 0 0 rfl rfl rfl rfl rfl (sp := (0 : Int32)) (dp := (0 : Int32)) (n := vp) (nneg (by omega)) (nneg (by omega)) (nneg (by omega)) (by omega) (by omega) (fun i h => rfl) (Nat.le_of_ble_eq_true rfl) (Nat.le_of_ble_eq_true rfl) dB_36_0_5.2.1.1.1 (fun H locs hP hD hS => ?_)
        obtain ⟨f_92, ef_92⟩ : ∃ g : Nat → Int32, g = va_cpy (Ml 9) (m_rr_4 9) (0 : Int32).toNatClampNeg (0 : Int32).toNatClampNeg vp.toNatClampNeg := ⟨_, rfl⟩
        refine pd_K (D := D) (cl := vwCl) (H := H) (A := A) [ob0_0_ xc xn xk clo cro c4 c5 c6 c7 c8, ob3_0_ xn vp vn n1 n2 n3 n4 n5, ai_ cy n2 40 fs, ai_ cy n3 40 fe, aq_ cy 6 clo 12 (gf_ rl), ai_ cy (rl 0) 12 (Ml 0), ai_ cy (rl 1) 12 (Ml 1), ai_ cy (rl 2) 12 (Ml 2), ai_ cy (rl 3) 12 (Ml 3), ai_ cy (rl 4) 12 (Ml 4), ai_ cy (rl 5) 12 (Ml 5), ai_ cy (rl 6) 12 (Ml 6), ai_ cy (rl 7) 12 (Ml 7), ai_ cy (rl 8) 12 (Ml 8), ai_ cy (rl 9) 12 (Ml 9), ai_ cy (rl 10) 12 (Ml 10), ai_ cy (rl 11) 12 (Ml 11), aq_ cy 6 cro 12 (gf_ rr), ai_ cy (rr 0) 12 (m_rr_4 0), ai_ cy (rr 1) 12 (m_rr_4 1), ai_ cy (rr 2) 12 (m_rr_4 2), ai_ cy (rr 3) 12 (m_rr_4 3), ai_ cy (rr 4) 12 (m_rr_4 4), ai_ cy (rr 5) 12 (m_rr_4 5), ai_ cy (rr 6) 12 (m_rr_4 6), ai_ cy (rr 7) 12 (m_rr_4 7), ai_ cy (rr 8) 12 (m_rr_4 8), ai_ cy (rr 9) 12 f_92, ai_ cy (rr 10) 12 (m_rr_4 10), ai_ cy (rr 11) 12 (m_rr_4 11), ai_ cy c4 40 e1_2, ai_ cy c5 40 f5, ai_ cy c6 40 f6, ai_ cy c7 12 f7, ai_ cy c8 12 f8] (by rw [ef_92]; exact hP) (by rw [ef_92]; exact hD) (fun hP hD => ?_)
        obtain ⟨M_93, eM_93⟩ : ∃ g : Nat → Nat → Int32, g = va_up m_rr_4 9 f_92 := ⟨_, rfl⟩
        refine pd_K (D := D) (cl := vwCl) (H := H) (A := A) [ob0_0_ xc xn xk clo cro c4 c5 c6 c7 c8, ob3_0_ xn vp vn n1 n2 n3 n4 n5, ai_ cy n2 40 fs, ai_ cy n3 40 fe, aq_ cy 6 clo 12 (gf_ rl), ai_ cy (rl 0) 12 (Ml 0), ai_ cy (rl 1) 12 (Ml 1), ai_ cy (rl 2) 12 (Ml 2), ai_ cy (rl 3) 12 (Ml 3), ai_ cy (rl 4) 12 (Ml 4), ai_ cy (rl 5) 12 (Ml 5), ai_ cy (rl 6) 12 (Ml 6), ai_ cy (rl 7) 12 (Ml 7), ai_ cy (rl 8) 12 (Ml 8), ai_ cy (rl 9) 12 (Ml 9), ai_ cy (rl 10) 12 (Ml 10), ai_ cy (rl 11) 12 (Ml 11), aq_ cy 6 cro 12 (gf_ rr), ai_ cy (rr 0) 12 (M_93 0), ai_ cy (rr 1) 12 (M_93 1), ai_ cy (rr 2) 12 (M_93 2), ai_ cy (rr 3) 12 (M_93 3), ai_ cy (rr 4) 12 (M_93 4), ai_ cy (rr 5) 12 (M_93 5), ai_ cy (rr 6) 12 (M_93 6), ai_ cy (rr 7) 12 (M_93 7), ai_ cy (rr 8) 12 (M_93 8), ai_ cy (rr 9) 12 (M_93 9), ai_ cy (rr 10) 12 (M_93 10), ai_ cy (rr 11) 12 (M_93 11), ai_ cy c4 40 e1_2, ai_ cy c5 40 f5, ai_ cy c6 40 f6, ai_ cy c7 12 f7, ai_ cy c8 12 f8] (by rw [eM_93]; exact hP) (by rw [eM_93]; exact hD) (fun hP hD => ?_)
        obtain ⟨y_94, ey_94⟩ : ∃ y : Int32, y = (9 : Int32) + 1 := ⟨_, rfl⟩
        have ty_94 : y_94.toInt = (9 : Int32).toInt + (1 : Int32).toInt := by rw [ey_94]; exact addI (by omega) (by omega)
        refine lv_iinc (v := y_94) (lv' := [(3, .int y_94), (0, .ref xc), (1, .int a1), (2, .int a2)]) hx hb dB_36_0_5.2.1.1.2 hl (k := 0) rfl (by rw [ey_94]; rfl) (by decide) rfl (fun ls hl => ?_)
        refine lv_goto (tgt := 10) hx hb dB_36_0_5.2.1.2.1 (by decide) ?_
        exact ih_4 y_94 M_93 _ _ _ (by omega) (by first | with_reducible assumption | omega | assumption) (by first | with_reducible assumption | omega | assumption) ⟨hP, hD⟩ hS (lv_sub hl [0, 1, 2, 3] rfl)
      · refine lv_aload_n hx hb dB_36_0_4.2.1.2.2 rfl (lv_at hl 1 rfl) ?_
        refine va_get (ci := 0) (v := .ref clo) (C := RX0) (T := TX0) (N := 9) hx hb hts (fun _ h => List.mem_cons_of_mem _ (List.mem_append_left _ (List.mem_append_right _ h))) hown hK.1 hP 0 rfl rfl 2 (by decide) (hts (.fieldLink RX0 11 "CutAtlas$Current" "lets" "[[I") (List.mem_of_getElem? (i := 4) rfl)) (fun _ h9 => h9) rfl dB_36_0_4.2.2.1.1 ?_
        refine lv_iload_n hx hb dB_36_0_4.2.2.1.2 rfl (lv_at hl 0 rfl) ?_
        have h_95 : vp_in (10 : Int32) 12 := by unfold vp_in; decide
        refine va_alda hx hb hG hP 4 rfl (i := 10) h_95 dB_36_0_4.2.2.2.1 ?_
        refine lv_topv (v' := .ref (rl 10)) (gf_at h_95) ?_
        refine lv_iconst (v := 0) hx hb dB_36_0_4.2.2.2.2 (by decide) ?_
        refine lv_aload_n hx hb dB_36_0_5.1.1.1.1 rfl (lv_at hl 1 rfl) ?_
        refine va_get (ci := 0) (v := .ref cro) (C := RX0) (T := TX0) (N := 9) hx hb hts (fun _ h => List.mem_cons_of_mem _ (List.mem_append_left _ (List.mem_append_right _ h))) hown hK.1 hP 0 rfl rfl 3 (by decide) (hts (.fieldLink RX0 16 "CutAtlas$Current" "room" "[[I") (List.mem_of_getElem? (i := 5) rfl)) (fun _ h9 => h9) rfl dB_36_0_5.1.1.1.2 ?_
        refine lv_iload_n hx hb dB_36_0_5.1.1.2.1 rfl (lv_at hl 0 rfl) ?_
        refine va_alda hx hb hG hP 17 rfl (i := 10) h_95 dB_36_0_5.1.1.2.2 ?_
        refine lv_topv (v' := .ref (rr 10)) (gf_at h_95) ?_
        refine lv_iconst (v := 0) hx hb dB_36_0_5.1.2.1.1 (by decide) ?_
        refine lv_aload_n hx hb dB_36_0_5.1.2.1.2 rfl (lv_at hl 1 rfl) ?_
        refine va_get (ci := 0) (v := .ref xn) (C := RX0) (T := TX0) (N := 9) hx hb hts (fun _ h => List.mem_cons_of_mem _ (List.mem_append_left _ (List.mem_append_right _ h))) hown hK.1 hP 0 rfl rfl 0 (by decide) (hts (.fieldLink RX0 35 "CutAtlas$Current" "net" "LCutAtlas$Net;") (List.mem_of_getElem? (i := 2) rfl)) (fun _ h9 => h9) rfl dB_36_0_5.1.2.2.1 ?_
        refine va_get (ci := 3) (v := .int vp) (C := RX3) (T := TX3) (N := 7) hx hb hts (fun _ h => List.mem_cons_of_mem _ (List.mem_append_right _ h)) hown hK.1 hP 1 rfl rfl 0 (by decide) (hts (.fieldLink RX0 43 "CutAtlas$Net" "places" "I") (List.mem_of_getElem? (i := 3) rfl)) (fun _ h9 => h9) rfl dB_36_0_5.1.2.2.2 ?_
        have cl_97 := clI (i := vp) (by omega)
        have cl_98 := clI (i := (0 : Int32)) (by omega)
        refine va_copyi hx hb (by rw [hml]; exact hl.1.symm) hown (hts (.methodLink RX0 83 arraycopyName) (List.mem_of_getElem? (i := 6) rfl)) (hts (.native arraycopyName) (List.mem_of_getElem? (i := 7) rfl)) (hts (.static arraycopyName) (List.mem_of_getElem? (i := 8) rfl)) (hts (.initialized "java/lang/System") (List.mem_of_getElem? (i := 9) rfl)) hK.1 hP hD hS 15 28 0 0 rfl rfl rfl rfl rfl (sp := (0 : Int32)) (dp := (0 : Int32)) (n := vp) (nneg (by omega)) (nneg (by omega)) (nneg (by omega)) (by omega) (by omega) (fun i h => rfl) (Nat.le_of_ble_eq_true rfl) (Nat.le_of_ble_eq_true rfl) dB_36_0_5.2.1.1.1 (fun H locs hP hD hS => ?_)
        obtain ⟨f_99, ef_99⟩ : ∃ g : Nat → Int32, g = va_cpy (Ml 10) (m_rr_4 10) (0 : Int32).toNatClampNeg (0 : Int32).toNatClampNeg vp.toNatClampNeg := ⟨_, rfl⟩
        refine pd_K (D := D) (cl := vwCl) (H := H) (A := A) [ob0_0_ xc xn xk clo cro c4 c5 c6 c7 c8, ob3_0_ xn vp vn n1 n2 n3 n4 n5, ai_ cy n2 40 fs, ai_ cy n3 40 fe, aq_ cy 6 clo 12 (gf_ rl), ai_ cy (rl 0) 12 (Ml 0), ai_ cy (rl 1) 12 (Ml 1), ai_ cy (rl 2) 12 (Ml 2), ai_ cy (rl 3) 12 (Ml 3), ai_ cy (rl 4) 12 (Ml 4), ai_ cy (rl 5) 12 (Ml 5), ai_ cy (rl 6) 12 (Ml 6), ai_ cy (rl 7) 12 (Ml 7), ai_ cy (rl 8) 12 (Ml 8), ai_ cy (rl 9) 12 (Ml 9), ai_ cy (rl 10) 12 (Ml 10), ai_ cy (rl 11) 12 (Ml 11), aq_ cy 6 cro 12 (gf_ rr), ai_ cy (rr 0) 12 (m_rr_4 0), ai_ cy (rr 1) 12 (m_rr_4 1), ai_ cy (rr 2) 12 (m_rr_4 2), ai_ cy (rr 3) 12 (m_rr_4 3), ai_ cy (rr 4) 12 (m_rr_4 4), ai_ cy (rr 5) 12 (m_rr_4 5), ai_ cy (rr 6) 12 (m_rr_4 6), ai_ cy (rr 7) 12 (m_rr_4 7), ai_ cy (rr 8) 12 (m_rr_4 8), ai_ cy (rr 9) 12 (m_rr_4 9), ai_ cy (rr 10) 12 f_99, ai_ cy (rr 11) 12 (m_rr_4 11), ai_ cy c4 40 e1_2, ai_ cy c5 40 f5, ai_ cy c6 40 f6, ai_ cy c7 12 f7, ai_ cy c8 12 f8] (by rw [ef_99]; exact hP) (by rw [ef_99]; exact hD) (fun hP hD => ?_)
        obtain ⟨M_100, eM_100⟩ : ∃ g : Nat → Nat → Int32, g = va_up m_rr_4 10 f_99 := ⟨_, rfl⟩
        refine pd_K (D := D) (cl := vwCl) (H := H) (A := A) [ob0_0_ xc xn xk clo cro c4 c5 c6 c7 c8, ob3_0_ xn vp vn n1 n2 n3 n4 n5, ai_ cy n2 40 fs, ai_ cy n3 40 fe, aq_ cy 6 clo 12 (gf_ rl), ai_ cy (rl 0) 12 (Ml 0), ai_ cy (rl 1) 12 (Ml 1), ai_ cy (rl 2) 12 (Ml 2), ai_ cy (rl 3) 12 (Ml 3), ai_ cy (rl 4) 12 (Ml 4), ai_ cy (rl 5) 12 (Ml 5), ai_ cy (rl 6) 12 (Ml 6), ai_ cy (rl 7) 12 (Ml 7), ai_ cy (rl 8) 12 (Ml 8), ai_ cy (rl 9) 12 (Ml 9), ai_ cy (rl 10) 12 (Ml 10), ai_ cy (rl 11) 12 (Ml 11), aq_ cy 6 cro 12 (gf_ rr), ai_ cy (rr 0) 12 (M_100 0), ai_ cy (rr 1) 12 (M_100 1), ai_ cy (rr 2) 12 (M_100 2), ai_ cy (rr 3) 12 (M_100 3), ai_ cy (rr 4) 12 (M_100 4), ai_ cy (rr 5) 12 (M_100 5), ai_ cy (rr 6) 12 (M_100 6), ai_ cy (rr 7) 12 (M_100 7), ai_ cy (rr 8) 12 (M_100 8), ai_ cy (rr 9) 12 (M_100 9), ai_ cy (rr 10) 12 (M_100 10), ai_ cy (rr 11) 12 (M_100 11), ai_ cy c4 40 e1_2, ai_ cy c5 40 f5, ai_ cy c6 40 f6, ai_ cy c7 12 f7, ai_ cy c8 12 f8] (by rw [eM_100]; exact hP) (by rw [eM_100]; exact hD) (fun hP hD => ?_)
        obtain ⟨y_101, ey_101⟩ : ∃ y : Int32, y = (10 : Int32) + 1 := ⟨_, rfl⟩
        have ty_101 : y_101.toInt = (10 : Int32).toInt + (1 : Int32).toInt := by rw [ey_101]; exact addI (by omega) (by omega)
        refine lv_iinc (v := y_101) (lv' := [(3, .int y_101), (0, .ref xc), (1, .int a1), (2, .int a2)]) hx hb dB_36_0_5.2.1.1.2 hl (k := 0) rfl (by rw [ey_101]; rfl) (by decide) rfl (fun ls hl => ?_)
        refine lv_goto (tgt := 10) hx hb dB_36_0_5.2.1.2.1 (by decide) ?_
        exact ih_4 y_101 M_100 _ _ _ (by omega) (by first | with_reducible assumption | omega | assumption) (by first | with_reducible assumption | omega | assumption) ⟨hP, hD⟩ hS (lv_sub hl [0, 1, 2, 3] rfl)
      · refine lv_aload_n hx hb dB_36_0_4.2.1.2.2 rfl (lv_at hl 1 rfl) ?_
        refine va_get (ci := 0) (v := .ref clo) (C := RX0) (T := TX0) (N := 9) hx hb hts (fun _ h => List.mem_cons_of_mem _ (List.mem_append_left _ (List.mem_append_right _ h))) hown hK.1 hP 0 rfl rfl 2 (by decide) (hts (.fieldLink RX0 11 "CutAtlas$Current" "lets" "[[I") (List.mem_of_getElem? (i := 4) rfl)) (fun _ h9 => h9) rfl dB_36_0_4.2.2.1.1 ?_
        refine lv_iload_n hx hb dB_36_0_4.2.2.1.2 rfl (lv_at hl 0 rfl) ?_
        have h_102 : vp_in (11 : Int32) 12 := by unfold vp_in; decide
        refine va_alda hx hb hG hP 4 rfl (i := 11) h_102 dB_36_0_4.2.2.2.1 ?_
        refine lv_topv (v' := .ref (rl 11)) (gf_at h_102) ?_
        refine lv_iconst (v := 0) hx hb dB_36_0_4.2.2.2.2 (by decide) ?_
        refine lv_aload_n hx hb dB_36_0_5.1.1.1.1 rfl (lv_at hl 1 rfl) ?_
        refine va_get (ci := 0) (v := .ref cro) (C := RX0) (T := TX0) (N := 9) hx hb hts (fun _ h => List.mem_cons_of_mem _ (List.mem_append_left _ (List.mem_append_right _ h))) hown hK.1 hP 0 rfl rfl 3 (by decide) (hts (.fieldLink RX0 16 "CutAtlas$Current" "room" "[[I") (List.mem_of_getElem? (i := 5) rfl)) (fun _ h9 => h9) rfl dB_36_0_5.1.1.1.2 ?_
        refine lv_iload_n hx hb dB_36_0_5.1.1.2.1 rfl (lv_at hl 0 rfl) ?_
        refine va_alda hx hb hG hP 17 rfl (i := 11) h_102 dB_36_0_5.1.1.2.2 ?_
        refine lv_topv (v' := .ref (rr 11)) (gf_at h_102) ?_
        refine lv_iconst (v := 0) hx hb dB_36_0_5.1.2.1.1 (by decide) ?_
        refine lv_aload_n hx hb dB_36_0_5.1.2.1.2 rfl (lv_at hl 1 rfl) ?_
        refine va_get (ci := 0) (v := .ref xn) (C := RX0) (T := TX0) (N := 9) hx hb hts (fun _ h => List.mem_cons_of_mem _ (List.mem_append_left _ (List.mem_append_right _ h))) hown hK.1 hP 0 rfl rfl 0 (by decide) (hts (.fieldLink RX0 35 "CutAtlas$Current" "net" "LCutAtlas$Net;") (List.mem_of_getElem? (i := 2) rfl)) (fun _ h9 => h9) rfl dB_36_0_5.1.2.2.1 ?_
        refine va_get (ci := 3) (v := .int vp) (C := RX3) (T := TX3) (N := 7) hx hb hts (fun _ h => List.mem_cons_of_mem _ (List.mem_append_right _ h)) hown hK.1 hP 1 rfl rfl 0 (by decide) (hts (.fieldLink RX0 43 "CutAtlas$Net" "places" "I") (List.mem_of_getElem? (i := 3) rfl)) (fun _ h9 => h9) rfl dB_36_0_5.1.2.2.2 ?_
        have cl_104 := clI (i := vp) (by omega)
        have cl_105 := clI (i := (0 : Int32)) (by omega)
        refine va_copyi hx hb (by rw [hml]; exact hl.1.symm) hown (hts (.methodLink RX0 83 arraycopyName) (List.mem_of_getElem? (i := 6) rfl)) (hts (.native arraycopyName) (List.mem_of_getElem? (i := 7) rfl)) (hts (.static arraycopyName) (List.mem_of_getElem? (i := 8) rfl)) (hts (.initialized "java/lang/System") (List.mem_of_getElem? (i := 9) rfl)) hK.1 hP hD hS 16 29 0 0 rfl rfl rfl rfl rfl (sp := (0 : Int32)) (dp := (0 : Int32)) (n := vp) (nneg (by omega)) (nneg (by omega)) (nneg (by omega)) (by omega) (by omega) (fun i h => rfl) (Nat.le_of_ble_eq_true rfl) (Nat.le_of_ble_eq_true rfl) dB_36_0_5.2.1.1.1 (fun H locs hP hD hS => ?_)
        obtain ⟨f_106, ef_106⟩ : ∃ g : Nat → Int32, g = va_cpy (Ml 11) (m_rr_4 11) (0 : Int32).toNatClampNeg (0 : Int32).toNatClampNeg vp.toNatClampNeg := ⟨_, rfl⟩
        refine pd_K (D := D) (cl := vwCl) (H := H) (A := A) [ob0_0_ xc xn xk clo cro c4 c5 c6 c7 c8, ob3_0_ xn vp vn n1 n2 n3 n4 n5, ai_ cy n2 40 fs, ai_ cy n3 40 fe, aq_ cy 6 clo 12 (gf_ rl), ai_ cy (rl 0) 12 (Ml 0), ai_ cy (rl 1) 12 (Ml 1), ai_ cy (rl 2) 12 (Ml 2), ai_ cy (rl 3) 12 (Ml 3), ai_ cy (rl 4) 12 (Ml 4), ai_ cy (rl 5) 12 (Ml 5), ai_ cy (rl 6) 12 (Ml 6), ai_ cy (rl 7) 12 (Ml 7), ai_ cy (rl 8) 12 (Ml 8), ai_ cy (rl 9) 12 (Ml 9), ai_ cy (rl 10) 12 (Ml 10), ai_ cy (rl 11) 12 (Ml 11), aq_ cy 6 cro 12 (gf_ rr), ai_ cy (rr 0) 12 (m_rr_4 0), ai_ cy (rr 1) 12 (m_rr_4 1), ai_ cy (rr 2) 12 (m_rr_4 2), ai_ cy (rr 3) 12 (m_rr_4 3), ai_ cy (rr 4) 12 (m_rr_4 4), ai_ cy (rr 5) 12 (m_rr_4 5), ai_ cy (rr 6) 12 (m_rr_4 6), ai_ cy (rr 7) 12 (m_rr_4 7), ai_ cy (rr 8) 12 (m_rr_4 8), ai_ cy (rr 9) 12 (m_rr_4 9), ai_ cy (rr 10) 12 (m_rr_4 10), ai_ cy (rr 11) 12 f_106, ai_ cy c4 40 e1_2, ai_ cy c5 40 f5, ai_ cy c6 40 f6, ai_ cy c7 12 f7, ai_ cy c8 12 f8] (by rw [ef_106]; exact hP) (by rw [ef_106]; exact hD) (fun hP hD => ?_)
        obtain ⟨M_107, eM_107⟩ : ∃ g : Nat → Nat → Int32, g = va_up m_rr_4 11 f_106 := ⟨_, rfl⟩
        refine pd_K (D := D) (cl := vwCl) (H := H) (A := A) [ob0_0_ xc xn xk clo cro c4 c5 c6 c7 c8, ob3_0_ xn vp vn n1 n2 n3 n4 n5, ai_ cy n2 40 fs, ai_ cy n3 40 fe, aq_ cy 6 clo 12 (gf_ rl), ai_ cy (rl 0) 12 (Ml 0), ai_ cy (rl 1) 12 (Ml 1), ai_ cy (rl 2) 12 (Ml 2), ai_ cy (rl 3) 12 (Ml 3), ai_ cy (rl 4) 12 (Ml 4), ai_ cy (rl 5) 12 (Ml 5), ai_ cy (rl 6) 12 (Ml 6), ai_ cy (rl 7) 12 (Ml 7), ai_ cy (rl 8) 12 (Ml 8), ai_ cy (rl 9) 12 (Ml 9), ai_ cy (rl 10) 12 (Ml 10), ai_ cy (rl 11) 12 (Ml 11), aq_ cy 6 cro 12 (gf_ rr), ai_ cy (rr 0) 12 (M_107 0), ai_ cy (rr 1) 12 (M_107 1), ai_ cy (rr 2) 12 (M_107 2), ai_ cy (rr 3) 12 (M_107 3), ai_ cy (rr 4) 12 (M_107 4), ai_ cy (rr 5) 12 (M_107 5), ai_ cy (rr 6) 12 (M_107 6), ai_ cy (rr 7) 12 (M_107 7), ai_ cy (rr 8) 12 (M_107 8), ai_ cy (rr 9) 12 (M_107 9), ai_ cy (rr 10) 12 (M_107 10), ai_ cy (rr 11) 12 (M_107 11), ai_ cy c4 40 e1_2, ai_ cy c5 40 f5, ai_ cy c6 40 f6, ai_ cy c7 12 f7, ai_ cy c8 12 f8] (by rw [eM_107]; exact hP) (by rw [eM_107]; exact hD) (fun hP hD => ?_)
        obtain ⟨y_108, ey_108⟩ : ∃ y : Int32, y = (11 : Int32) + 1 := ⟨_, rfl⟩
        have ty_108 : y_108.toInt = (11 : Int32).toInt + (1 : Int32).toInt := by rw [ey_108]; exact addI (by omega) (by omega)
        refine lv_iinc (v := y_108) (lv' := [(3, .int y_108), (0, .ref xc), (1, .int a1), (2, .int a2)]) hx hb dB_36_0_5.2.1.1.2 hl (k := 0) rfl (by rw [ey_108]; rfl) (by decide) rfl (fun ls hl => ?_)
        refine lv_goto (tgt := 10) hx hb dB_36_0_5.2.1.2.1 (by decide) ?_
        exact ih_4 y_108 M_107 _ _ _ (by omega) (by first | with_reducible assumption | omega | assumption) (by first | with_reducible assumption | omega | assumption) ⟨hP, hD⟩ hS (lv_sub hl [0, 1, 2, 3] rfl)
end
