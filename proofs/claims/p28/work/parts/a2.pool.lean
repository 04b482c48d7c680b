/-! ===== the nets that are remembered: made one by one, used again ===== -/
/-- the six cells of the k-th -/
noncomputable def pnet (cy : Nat → ClassId) (pa : Nat → Nat → Nat) (pv : Nat → Nat → Int32) (pg : Nat → Nat → Nat → Int32) (k : Nat) : va_W := [(pa k 0, .inr (3, [.int (pv k 0), .int (pv k 1), .ref (pa k 1), .ref (pa k 2), .ref (pa k 3), .ref (pa k 4), .ref (pa k 5)])), (pa k 1, .inl (cy 0, 40, .inl (pg k 1))), (pa k 2, .inl (cy 0, 40, .inl (pg k 2))), (pa k 3, .inl (cy 0, 40, .inl (pg k 3))), (pa k 4, .inl (cy 0, 40, .inl (pg k 4))), (pa k 5, .inl (cy 0, 40, .inl (pg k 5)))]
/-- those from k on, n of them -/
noncomputable def pls (cy : Nat → ClassId) (pa : Nat → Nat → Nat) (pv : Nat → Nat → Int32) (pg : Nat → Nat → Nat → Int32) : Nat → Nat → va_W
  | _, 0 => []
  | k, n + 1 => pnet cy pa pv pg k ++ pls cy pa pv pg (k + 1) n
noncomputable def pool (cy : Nat → ClassId) (pa : Nat → Nat → Nat) (pv : Nat → Nat → Int32) (pg : Nat → Nat → Nat → Int32) (m : Nat) : va_W := pls cy pa pv pg 0 m
/-- all but the k-th -/
noncomputable def prest (cy : Nat → ClassId) (pa : Nat → Nat → Nat) (pv : Nat → Nat → Int32) (pg : Nat → Nat → Nat → Int32) (m k : Nat) : va_W := pls cy pa pv pg (k + 1) (m - k - 1) ++ pls cy pa pv pg 0 k
section POOL
variable {cy : Nat → ClassId} {pa pa2 : Nat → Nat → Nat} {pv pv2 : Nat → Nat → Int32} {pg pg2 : Nat → Nat → Nat → Int32} {X : va_W} {D : va_G} {cl : List vw_C} {H : Heap} {A : Nat → Prop}
theorem pls_app : ∀ (a b k : Nat), pls cy pa pv pg k (a + b) = pls cy pa pv pg k a ++ pls cy pa pv pg (k + a) b
  | 0, b, k => by
    rw [Nat.zero_add]
    rfl
  | a + 1, b, k => by
    rw [show a + 1 + b = (a + b) + 1 by omega]
    show pnet cy pa pv pg k ++ pls cy pa pv pg (k + 1) (a + b) = (pnet cy pa pv pg k ++ pls cy pa pv pg (k + 1) a) ++ pls cy pa pv pg (k + (a + 1)) b
    rw [pls_app a b (k + 1), List.append_assoc, show k + 1 + a = k + (a + 1) by omega]
theorem pls_cg : ∀ (n k : Nat), (∀ i : Nat, k ≤ i → i < k + n → pa2 i = pa i ∧ pv2 i = pv i ∧ pg2 i = pg i) → pls cy pa2 pv2 pg2 k n = pls cy pa pv pg k n
  | 0, _, _ => rfl
  | n + 1, k, h => by
    show pnet cy pa2 pv2 pg2 k ++ pls cy pa2 pv2 pg2 (k + 1) n = pnet cy pa pv pg k ++ pls cy pa pv pg (k + 1) n
    rw [pls_cg n (k + 1) (fun i h1 h2 => h i (by omega) (by omega))]
    have a := h k (by omega) (by omega)
    unfold pnet
    rw [a.1, a.2.1, a.2.2]
theorem pool_split {m k : Nat} (hk : k < m) : pool cy pa pv pg m = pls cy pa pv pg 0 k ++ (pnet cy pa pv pg k ++ pls cy pa pv pg (k + 1) (m - k - 1)) := by
  have e : m = k + (m - k) := by omega
  unfold pool
  rw [e, pls_app k (m - k) 0, Nat.zero_add, ← e]
  have e2 : m - k = (m - k - 1) + 1 := by omega
  rw [e2]
  rfl
theorem foc_P {m k : Nat} (hk : k < m) (h : va_P D cl (X ++ pool cy pa pv pg m) H) : va_P D cl ((X ++ pnet cy pa pv pg k) ++ prest cy pa pv pg m k) H := by
  rw [pool_split hk, ← List.append_assoc] at h
  have h2 := h.swap
  unfold prest
  rw [List.append_assoc, ← List.append_assoc (pnet cy pa pv pg k), ← List.append_assoc]
  exact h2
theorem foc_D {m k : Nat} (hk : k < m) (h : va_D A (X ++ pool cy pa pv pg m)) : va_D A ((X ++ pnet cy pa pv pg k) ++ prest cy pa pv pg m k) := by
  rw [pool_split hk, ← List.append_assoc] at h
  have h2 := h.swap
  unfold prest
  rw [List.append_assoc, ← List.append_assoc (pnet cy pa pv pg k), ← List.append_assoc]
  exact h2
theorem unf_P {m k : Nat} (hk : k < m) (hc : ∀ i : Nat, i ≠ k → pv2 i = pv i ∧ pg2 i = pg i) (h : va_P D cl ((X ++ pnet cy pa pv2 pg2 k) ++ prest cy pa pv pg m k) H) : va_P D cl (X ++ pool cy pa pv2 pg2 m) H := by
  have e : prest cy pa pv pg m k = prest cy pa pv2 pg2 m k := by
    unfold prest
    rw [pls_cg (m - k - 1) (k + 1) (pa2 := pa) (pv2 := pv2) (pg2 := pg2) (fun i h1 h2 => ⟨rfl, hc i (by omega)⟩), pls_cg k 0 (pa2 := pa) (pv2 := pv2) (pg2 := pg2) (fun i h1 h2 => ⟨rfl, hc i (by omega)⟩)]
  rw [e] at h
  unfold prest at h
  rw [List.append_assoc, ← List.append_assoc (pnet cy pa pv2 pg2 k), ← List.append_assoc] at h
  have h2 := h.swap
  rw [pool_split hk, ← List.append_assoc]
  exact h2
theorem unf_D {m k : Nat} (hk : k < m) (hc : ∀ i : Nat, i ≠ k → pv2 i = pv i ∧ pg2 i = pg i) (h : va_D A ((X ++ pnet cy pa pv2 pg2 k) ++ prest cy pa pv pg m k)) : va_D A (X ++ pool cy pa pv2 pg2 m) := by
  have e : prest cy pa pv pg m k = prest cy pa pv2 pg2 m k := by
    unfold prest
    rw [pls_cg (m - k - 1) (k + 1) (pa2 := pa) (pv2 := pv2) (pg2 := pg2) (fun i h1 h2 => ⟨rfl, hc i (by omega)⟩), pls_cg k 0 (pa2 := pa) (pv2 := pv2) (pg2 := pg2) (fun i h1 h2 => ⟨rfl, hc i (by omega)⟩)]
  rw [e] at h
  unfold prest at h
  rw [List.append_assoc, ← List.append_assoc (pnet cy pa pv2 pg2 k), ← List.append_assoc] at h
  have h2 := h.swap
  rw [pool_split hk, ← List.append_assoc]
  exact h2
theorem pool_more {m : Nat} (hc : ∀ i : Nat, i < m → pa2 i = pa i ∧ pv2 i = pv i ∧ pg2 i = pg i) : pool cy pa2 pv2 pg2 (m + 1) = pool cy pa pv pg m ++ pnet cy pa2 pv2 pg2 m := by
  unfold pool
  rw [pls_app m 1 0, pls_cg m 0 (fun i h1 h2 => hc i (by omega)), Nat.zero_add]
  show _ ++ (pnet cy pa2 pv2 pg2 m ++ []) = _
  rw [List.append_nil]
theorem more_P {m : Nat} (hc : ∀ i : Nat, i < m → pa2 i = pa i ∧ pv2 i = pv i ∧ pg2 i = pg i) (h : va_P D cl ((X ++ pnet cy pa2 pv2 pg2 m) ++ pool cy pa pv pg m) H) : va_P D cl (X ++ pool cy pa2 pv2 pg2 (m + 1)) H := by
  rw [pool_more hc, ← List.append_assoc]
  exact h.swap
theorem more_D {m : Nat} (hc : ∀ i : Nat, i < m → pa2 i = pa i ∧ pv2 i = pv i ∧ pg2 i = pg i) (h : va_D A ((X ++ pnet cy pa2 pv2 pg2 m) ++ pool cy pa pv pg m)) : va_D A (X ++ pool cy pa2 pv2 pg2 (m + 1)) := by
  rw [pool_more hc, ← List.append_assoc]
  exact h.swap
end POOL
/-- the row of the nets that are remembered -/
noncomputable def pst (pa : Nat → Nat → Nat) (m : Nat) : Nat → Option Nat := fun k => if k < m then some (pa k 0) else none
theorem pst_some {pa : Nat → Nat → Nat} {m k : Nat} (h : k < m) : va_rf (pst pa m k) = .ref (pa k 0) := by
  unfold pst
  rw [if_pos h]
  rfl
theorem pst_none {pa : Nat → Nat → Nat} {m k : Nat} (h : ¬ k < m) : va_rf (pst pa m k) = .null := by
  unfold pst
  rw [if_neg h]
  rfl
theorem pst_more {pa pa2 : Nat → Nat → Nat} {m k q : Nat} (ek : k = m) (hq : pa2 m 0 = q) (hc : ∀ i : Nat, i < m → pa2 i = pa i) : va_up (pst pa m) k (some q) = pst pa2 (m + 1) := by
  subst ek
  funext i
  unfold pst
  by_cases e : i = k
  · subst e
    rw [va_up_self, if_pos (by omega), hq]
  · rw [va_up_ne _ _ e]
    show (if i < k then some (pa i 0) else none) = if i < k + 1 then some (pa2 i 0) else none
    by_cases h : i < k
    · rw [if_pos h, if_pos (by omega), hc i h]
    · rw [if_neg h, if_neg (by omega)]
/-- a net's numbers are as they may be -/
noncomputable def nok (vp vn : Int32) (fk fs fe fw fp : Nat → Int32) : Prop := (0 ≤ vp.toInt ∧ vp.toInt ≤ 12) ∧ (0 ≤ vn.toInt ∧ vn.toInt ≤ 40) ∧ rng fk 40 0 4 ∧ prng fs fe 40 ∧ rng fw 40 0 2000 ∧ rng fp 40 0 100
noncomputable def pok (pv : Nat → Nat → Int32) (pg : Nat → Nat → Nat → Int32) (m : Nat) : Prop := ∀ k : Nat, k < m → nok (pv k 0) (pv k 1) (pg k 1) (pg k 2) (pg k 3) (pg k 4) (pg k 5)
/-- first and held of the ring, and how many are made -/
noncomputable def rok (pf ph : Int32) (m : Nat) : Prop := (0 ≤ pf.toInt ∧ pf.toInt ≤ 29) ∧ (0 ≤ ph.toInt ∧ ph.toInt ≤ 30) ∧ m ≤ 30 ∧ ph.toInt ≤ m ∧ (pf.toInt = 0 ∨ m = 30)
noncomputable def qn2 (a b : Int32) : Nat → Int32 := fun i => if i = 0 then a else b
noncomputable def qn5 (f1 f2 f3 f4 f5 : Nat → Int32) : Nat → Nat → Int32 := fun i => if i = 1 then f1 else if i = 2 then f2 else if i = 3 then f3 else if i = 4 then f4 else f5
noncomputable def qn6 (a b c d e f : Nat) : Nat → Nat := fun i => if i = 0 then a else if i = 1 then b else if i = 2 then c else if i = 3 then d else if i = 4 then e else f
theorem pok_st {pv : Nat → Nat → Int32} {pg : Nat → Nat → Nat → Int32} {m m2 k : Nat} {vp vn : Int32} {f1 f2 f3 f4 f5 : Nat → Int32} (h : pok pv pg m) (hm : m2 ≤ m ∨ (m2 = m + 1 ∧ k = m)) (hn : nok vp vn f1 f2 f3 f4 f5) : pok (va_up pv k (qn2 vp vn)) (va_up pg k (qn5 f1 f2 f3 f4 f5)) m2 := fun j hj => by
  by_cases e : j = k
  · subst e
    rw [va_up_self, va_up_self]
    exact hn
  · rw [va_up_ne _ _ e, va_up_ne _ _ e]
    exact h j (by omega)
theorem prng_zero {n : Nat} : prng (fun _ => 0) (fun _ => 0) n := fun j _ => by
  have z : (0 : Int32).toInt = 0 := by decide
  show (0 : Int32).toInt = -9 ∨ (0 ≤ (0 : Int32).toInt ∧ (0 : Int32).toInt ≤ 11 ∧ 0 ≤ (0 : Int32).toInt ∧ (0 : Int32).toInt ≤ 11)
  omega
theorem rem30 {x : Int32} (h : 0 ≤ x.toInt) : (x - x / 30 * 30).toInt = x.toInt % 30 := by
  obtain ⟨j, hj, rfl⟩ := nI_of (x := x) (fun h9 => by
    have := Int32.lt_iff_toInt_lt.mp h9
    have z : (0 : Int32).toInt = 0 := by decide
    omega)
  have e : (30 : Int32) = nI 30 := rfl
  rw [e, pk_rem hj (by decide) (by decide), nI_toInt (by omega), nI_toInt hj]
  omega

set_option maxHeartbeats 4000000 in
set_option maxRecDepth 100000 in
theorem c_X3_init (l : Launch) (D : va_G) (cy : Nat → ClassId) (sz : Nat) (h0 : Nat) : Met l yX3_init wsX3_init ({ frames := 1, cells := 5, slots := 200, locals := 12 }) (va_Pc [.ref h0] (fun U => U.heap.size = sz ∧ va_P D vwCl [(h0, .inr (3, [.int 0, .int 0, .null, .null, .null, .null, .null]))] U.heap ∧ kk_ D cy U ∧ va_D (fun _ => True) [(h0, .inr (3, [.int 0, .int 0, .null, .null, .null, .null, .null]))])) (va_Qv (fun (_ : Unit) => True) (fun (_ : Unit) (t : State) => ∃ (n1 : Nat), ∃ (n2 : Nat), ∃ (n3 : Nat), ∃ (n4 : Nat), ∃ (n5 : Nat), va_P D vwCl [(h0, .inr (3, [.int 0, .int 0, .ref n1, .ref n2, .ref n3, .ref n4, .ref n5])), (n1, .inl (cy 0, 40, .inl (fun _ => 0))), (n2, .inl (cy 0, 40, .inl (fun _ => 0))), (n3, .inl (cy 0, 40, .inl (fun _ => 0))), (n4, .inl (cy 0, 40, .inl (fun _ => 0))), (n5, .inl (cy 0, 40, .inl (fun _ => 0)))] t.heap ∧ va_D (va_A [(h0, .inr (3, [.int 0, .int 0, .null, .null, .null, .null, .null]))] sz) [(h0, .inr (3, [.int 0, .int 0, .ref n1, .ref n2, .ref n3, .ref n4, .ref n5])), (n1, .inl (cy 0, 40, .inl (fun _ => 0))), (n2, .inl (cy 0, 40, .inl (fun _ => 0))), (n3, .inl (cy 0, 40, .inl (fun _ => 0))), (n4, .inl (cy 0, 40, .inl (fun _ => 0))), (n5, .inl (cy 0, 40, .inl (fun _ => 0)))]) (va_A [(h0, .inr (3, [.int 0, .int 0, .null, .null, .null, .null, .null]))] sz)) 5 200 (va_A [(h0, .inr (3, [.int 0, .int 0, .null, .null, .null, .null, .null]))] sz) := by
  refine ofQ (cc := cX3_init) (maxL := 1) (ret := none) (by decide) rfl ?_
  intro p e s m args below meth c s₁ Q hQ B hml hv
  obtain ⟨rfl, hsz, hP, hK, hD0⟩ := hv
  have hx := B.exec
  have hb := B.bytes
  have hr := B.returns
  have hts := atoms_spec (ws := wsX3_init) B.pre
  have hown : s.vm.findClass RX3 = some m.cls := by have h_ := findClass_of_methodNamed B.named; exact h_
  have hlocks := B.notSynchronized
  have hin : meth.name = "<init>" := (name_of_methodNamed B.named B.method).1
  subst hsz
  have hD := hD0.self (sz := s.heap.size)
  generalize hAe : va_A [(h0, .inr (3, [.int 0, .int 0, .null, .null, .null, .null, .null]))] s.heap.size = A at hD hQ
  have hA : ∀ q : Nat, s.heap.size ≤ q → A q := fun q h => by rw [← hAe]; exact Or.inr h
  have hS : va_S A s.heap s.heap [] := va_S.rf
  have hl := lv_entry ([.ref h0]) (n := 1) (Nat.le_of_ble_eq_true rfl)
  rw [lg_entry_eq]
  generalize (lg_sl ([.ref h0]) ++ List.replicate (1 - (lg_sl ([.ref h0])).length) Slot.unset).toArray = ls at hl ⊢
  have hl : lv_has ls 1 [(0, .ref h0)] := hl
  refine lv_aload_n hx hb dX3_init_0 rfl (lv_at hl 0 rfl) ?_
  refine W.objInit hx hb hown (hts (.methodLink RX3 3 objectInit) (by decide +kernel)) (hts (.instanceMethod objectInit) (by decide +kernel)) (hts (.code objectInit ⟨#[0xb1]⟩ 1 none) (by decide +kernel)) rfl (by rw [hml]; exact hl.1) rfl dX3_init_1 (Nat.le_of_ble_eq_true rfl) (Nat.le_of_ble_eq_true rfl) ?_
  refine W.eq (g2 := F0 m 4 ls []) rfl ?_
  refine lv_aload_n hx hb dX3_init_4 rfl (lv_at hl 0 rfl) ?_
  refine lv_iconst (v := 0) hx hb dX3_init_5 (by decide) ?_
  refine va_put (ci := 3) (v := .int 0) (ty := .int) (C := RX3) (T := TX3) (N := 7) hx hb hts (fun _ h => List.mem_cons_of_mem _ (List.mem_append_right _ h)) tyX3 tyX3_ok nmX3 hown hK.1 hP hD hS 0 rfl rfl 0 (by decide) (hts (.fieldLink RX3 9 "CutAtlas$Net" "places" "I") (by decide +kernel)) (fun _ h9 => h9) rfl (by decide +kernel) rfl rfl (Nat.le_of_ble_eq_true rfl) dX3_init_6 (fun H locs hP hD hS => ?_)
  refine pd_K [(h0, .inr (3, [.int 0, .int 0, .null, .null, .null, .null, .null]))] hP hD (fun hP hD => ?_)
  refine lv_aload_n hx hb dX3_init_9 rfl (lv_at hl 0 rfl) ?_
  refine lv_iconst (v := 0) hx hb dX3_init_10 (by decide) ?_
  refine va_put (ci := 3) (v := .int 0) (ty := .int) (C := RX3) (T := TX3) (N := 7) hx hb hts (fun _ h => List.mem_cons_of_mem _ (List.mem_append_right _ h)) tyX3 tyX3_ok nmX3 hown hK.1 hP hD hS 0 rfl rfl 1 (by decide) (hts (.fieldLink RX3 15 "CutAtlas$Net" "lines" "I") (by decide +kernel)) (fun _ h9 => h9) rfl (by decide +kernel) rfl rfl (Nat.le_of_ble_eq_true rfl) dX3_init_11 (fun H locs hP hD hS => ?_)
  refine pd_K [(h0, .inr (3, [.int 0, .int 0, .null, .null, .null, .null, .null]))] hP hD (fun hP hD => ?_)
  refine lv_aload_n hx hb dX3_init_14 rfl (lv_at hl 0 rfl) ?_
  refine lv_bipush (v := 40) hx hb dX3_init_15 (by decide) ?_
  refine nw_a (a0 := (40, .inl (fun _ => 0))) (ty := .int) hx hb (hts (.arrayClass .int) (by decide +kernel)) rfl hK.1 0 rfl (fun _ h => by cases h) hP hD hS hA (fun _ => rfl) (by decide) (by decide) (by decide) (Nat.le_of_ble_eq_true rfl) (Nat.le_of_ble_eq_true rfl) dX3_init_17 (fun q_1 H hP hD hS => ?_)
  refine pd_K [(h0, .inr (3, [.int 0, .int 0, .null, .null, .null, .null, .null])), (q_1, .inl (cy 0, 40, .inl (fun _ => 0)))] hP hD (fun hP hD => ?_)
  refine va_putF (ci := 3) (v := .ref q_1) (ty := (tyX3 2)) (C := RX3) (T := TX3) (N := 7) hx hb hts (fun _ h => List.mem_cons_of_mem _ (List.mem_append_right _ h)) tyX3 tyX3_ok nmX3 hown hK.1 hP hD hS 0 rfl rfl 2 (by decide) (hts (.fieldLink RX3 18 "CutAtlas$Net" "kinds" "[I") (by decide +kernel)) (fun _ h9 => h9) rfl hin rfl (by decide +kernel) rfl rfl (Nat.le_of_ble_eq_true rfl) dX3_init_19 (fun H locs hP hD hS => ?_)
  refine pd_K [(h0, .inr (3, [.int 0, .int 0, .ref q_1, .null, .null, .null, .null])), (q_1, .inl (cy 0, 40, .inl (fun _ => 0)))] hP hD (fun hP hD => ?_)
  refine lv_aload_n hx hb dX3_init_22 rfl (lv_at hl 0 rfl) ?_
  refine lv_bipush (v := 40) hx hb dX3_init_23 (by decide) ?_
  refine nw_a (a0 := (40, .inl (fun _ => 0))) (ty := .int) hx hb (hts (.arrayClass .int) (by decide +kernel)) rfl hK.1 0 rfl (fun _ h => by cases h) hP hD hS hA (fun _ => rfl) (by decide) (by decide) (by decide) (Nat.le_of_ble_eq_true rfl) (Nat.le_of_ble_eq_true rfl) dX3_init_25 (fun q_2 H hP hD hS => ?_)
  refine pd_K [(h0, .inr (3, [.int 0, .int 0, .ref q_1, .null, .null, .null, .null])), (q_1, .inl (cy 0, 40, .inl (fun _ => 0))), (q_2, .inl (cy 0, 40, .inl (fun _ => 0)))] hP hD (fun hP hD => ?_)
  refine va_putF (ci := 3) (v := .ref q_2) (ty := (tyX3 3)) (C := RX3) (T := TX3) (N := 7) hx hb hts (fun _ h => List.mem_cons_of_mem _ (List.mem_append_right _ h)) tyX3 tyX3_ok nmX3 hown hK.1 hP hD hS 0 rfl rfl 3 (by decide) (hts (.fieldLink RX3 22 "CutAtlas$Net" "starts" "[I") (by decide +kernel)) (fun _ h9 => h9) rfl hin rfl (by decide +kernel) rfl rfl (Nat.le_of_ble_eq_true rfl) dX3_init_27 (fun H locs hP hD hS => ?_)
  refine pd_K [(h0, .inr (3, [.int 0, .int 0, .ref q_1, .ref q_2, .null, .null, .null])), (q_1, .inl (cy 0, 40, .inl (fun _ => 0))), (q_2, .inl (cy 0, 40, .inl (fun _ => 0)))] hP hD (fun hP hD => ?_)
  refine lv_aload_n hx hb dX3_init_30 rfl (lv_at hl 0 rfl) ?_
  refine lv_bipush (v := 40) hx hb dX3_init_31 (by decide) ?_
  refine nw_a (a0 := (40, .inl (fun _ => 0))) (ty := .int) hx hb (hts (.arrayClass .int) (by decide +kernel)) rfl hK.1 0 rfl (fun _ h => by cases h) hP hD hS hA (fun _ => rfl) (by decide) (by decide) (by decide) (Nat.le_of_ble_eq_true rfl) (Nat.le_of_ble_eq_true rfl) dX3_init_33 (fun q_3 H hP hD hS => ?_)
  refine pd_K [(h0, .inr (3, [.int 0, .int 0, .ref q_1, .ref q_2, .null, .null, .null])), (q_1, .inl (cy 0, 40, .inl (fun _ => 0))), (q_2, .inl (cy 0, 40, .inl (fun _ => 0))), (q_3, .inl (cy 0, 40, .inl (fun _ => 0)))] hP hD (fun hP hD => ?_)
  refine va_putF (ci := 3) (v := .ref q_3) (ty := (tyX3 4)) (C := RX3) (T := TX3) (N := 7) hx hb hts (fun _ h => List.mem_cons_of_mem _ (List.mem_append_right _ h)) tyX3 tyX3_ok nmX3 hown hK.1 hP hD hS 0 rfl rfl 4 (by decide) (hts (.fieldLink RX3 25 "CutAtlas$Net" "ends" "[I") (by decide +kernel)) (fun _ h9 => h9) rfl hin rfl (by decide +kernel) rfl rfl (Nat.le_of_ble_eq_true rfl) dX3_init_35 (fun H locs hP hD hS => ?_)
  refine pd_K [(h0, .inr (3, [.int 0, .int 0, .ref q_1, .ref q_2, .ref q_3, .null, .null])), (q_1, .inl (cy 0, 40, .inl (fun _ => 0))), (q_2, .inl (cy 0, 40, .inl (fun _ => 0))), (q_3, .inl (cy 0, 40, .inl (fun _ => 0)))] hP hD (fun hP hD => ?_)
  refine lv_aload_n hx hb dX3_init_38 rfl (lv_at hl 0 rfl) ?_
  refine lv_bipush (v := 40) hx hb dX3_init_39 (by decide) ?_
  refine nw_a (a0 := (40, .inl (fun _ => 0))) (ty := .int) hx hb (hts (.arrayClass .int) (by decide +kernel)) rfl hK.1 0 rfl (fun _ h => by cases h) hP hD hS hA (fun _ => rfl) (by decide) (by decide) (by decide) (Nat.le_of_ble_eq_true rfl) (Nat.le_of_ble_eq_true rfl) dX3_init_41 (fun q_4 H hP hD hS => ?_)
  refine pd_K [(h0, .inr (3, [.int 0, .int 0, .ref q_1, .ref q_2, .ref q_3, .null, .null])), (q_1, .inl (cy 0, 40, .inl (fun _ => 0))), (q_2, .inl (cy 0, 40, .inl (fun _ => 0))), (q_3, .inl (cy 0, 40, .inl (fun _ => 0))), (q_4, .inl (cy 0, 40, .inl (fun _ => 0)))] hP hD (fun hP hD => ?_)
  refine va_putF (ci := 3) (v := .ref q_4) (ty := (tyX3 5)) (C := RX3) (T := TX3) (N := 7) hx hb hts (fun _ h => List.mem_cons_of_mem _ (List.mem_append_right _ h)) tyX3 tyX3_ok nmX3 hown hK.1 hP hD hS 0 rfl rfl 5 (by decide) (hts (.fieldLink RX3 28 "CutAtlas$Net" "widths" "[I") (by decide +kernel)) (fun _ h9 => h9) rfl hin rfl (by decide +kernel) rfl rfl (Nat.le_of_ble_eq_true rfl) dX3_init_43 (fun H locs hP hD hS => ?_)
  refine pd_K [(h0, .inr (3, [.int 0, .int 0, .ref q_1, .ref q_2, .ref q_3, .ref q_4, .null])), (q_1, .inl (cy 0, 40, .inl (fun _ => 0))), (q_2, .inl (cy 0, 40, .inl (fun _ => 0))), (q_3, .inl (cy 0, 40, .inl (fun _ => 0))), (q_4, .inl (cy 0, 40, .inl (fun _ => 0)))] hP hD (fun hP hD => ?_)
  refine lv_aload_n hx hb dX3_init_46 rfl (lv_at hl 0 rfl) ?_
  refine lv_bipush (v := 40) hx hb dX3_init_47 (by decide) ?_
  refine nw_a (a0 := (40, .inl (fun _ => 0))) (ty := .int) hx hb (hts (.arrayClass .int) (by decide +kernel)) rfl hK.1 0 rfl (fun _ h => by cases h) hP hD hS hA (fun _ => rfl) (by decide) (by decide) (by decide) (Nat.le_of_ble_eq_true rfl) (Nat.le_of_ble_eq_true rfl) dX3_init_49 (fun q_5 H hP hD hS => ?_)
  refine pd_K [(h0, .inr (3, [.int 0, .int 0, .ref q_1, .ref q_2, .ref q_3, .ref q_4, .null])), (q_1, .inl (cy 0, 40, .inl (fun _ => 0))), (q_2, .inl (cy 0, 40, .inl (fun _ => 0))), (q_3, .inl (cy 0, 40, .inl (fun _ => 0))), (q_4, .inl (cy 0, 40, .inl (fun _ => 0))), (q_5, .inl (cy 0, 40, .inl (fun _ => 0)))] hP hD (fun hP hD => ?_)
  refine va_putF (ci := 3) (v := .ref q_5) (ty := (tyX3 6)) (C := RX3) (T := TX3) (N := 7) hx hb hts (fun _ h => List.mem_cons_of_mem _ (List.mem_append_right _ h)) tyX3 tyX3_ok nmX3 hown hK.1 hP hD hS 0 rfl rfl 6 (by decide) (hts (.fieldLink RX3 31 "CutAtlas$Net" "prices" "[I") (by decide +kernel)) (fun _ h9 => h9) rfl hin rfl (by decide +kernel) rfl rfl (Nat.le_of_ble_eq_true rfl) dX3_init_51 (fun H locs hP hD hS => ?_)
  refine pd_K [(h0, .inr (3, [.int 0, .int 0, .ref q_1, .ref q_2, .ref q_3, .ref q_4, .ref q_5])), (q_1, .inl (cy 0, 40, .inl (fun _ => 0))), (q_2, .inl (cy 0, 40, .inl (fun _ => 0))), (q_3, .inl (cy 0, 40, .inl (fun _ => 0))), (q_4, .inl (cy 0, 40, .inl (fun _ => 0))), (q_5, .inl (cy 0, 40, .inl (fun _ => 0)))] hP hD (fun hP hD => ?_)
  have hP9 := hP.sub (ws' := [(h0, .inr (3, [.int 0, .int 0, .ref q_1, .ref q_2, .ref q_3, .ref q_4, .ref q_5])), (q_1, .inl (cy 0, 40, .inl (fun _ => 0))), (q_2, .inl (cy 0, 40, .inl (fun _ => 0))), (q_3, .inl (cy 0, 40, .inl (fun _ => 0))), (q_4, .inl (cy 0, 40, .inl (fun _ => 0))), (q_5, .inl (cy 0, 40, .inl (fun _ => 0)))]) [0, 1, 2, 3, 4, 5] rfl
  have hD9 := hD.sub (ws' := [(h0, .inr (3, [.int 0, .int 0, .ref q_1, .ref q_2, .ref q_3, .ref q_4, .ref q_5])), (q_1, .inl (cy 0, 40, .inl (fun _ => 0))), (q_2, .inl (cy 0, 40, .inl (fun _ => 0))), (q_3, .inl (cy 0, 40, .inl (fun _ => 0))), (q_4, .inl (cy 0, 40, .inl (fun _ => 0))), (q_5, .inl (cy 0, 40, .inl (fun _ => 0)))]) [0, 1, 2, 3, 4, 5] (by decide) rfl
  rw [hQ]
  exact W.vret hx hb hr (fun t ht hW => ⟨⟨(), rfl, trivial, q_1, q_2, q_3, q_4, q_5, by rw [ht]; exact hP9, hD9⟩, hS.F ht⟩) hS.2.2 dX3_init_54
