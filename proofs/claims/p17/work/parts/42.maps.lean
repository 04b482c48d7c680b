section
theorem num_eq {f : Nat → Int64} {i : Int32} {n : Int} {y : Int64} (e : y = f i.toNatClampNeg) (h : i.toInt = n) : y = f n.toNat := by
  rw [e, ← h]
  rfl

set_option maxHeartbeats 4000000 in
set_option maxRecDepth 100000 in
theorem c_X4_isThere (l : Launch) (D : va_G) (cy : Nat → ClassId) (sz : Nat) (mm : Nat) (ml : Nat) (mu : Nat) (mk : Int32) (mr : Int32) : Met l yX4_isThere wsX4_isThere ({ frames := 0, cells := 0, slots := 0, locals := 0 }) (va_Pc [.ref mm] (fun U => U.heap.size = sz ∧ va_P D vwCl [ob4_0_ mm mk mr ml mu] U.heap ∧ kk_ D cy U ∧ va_D (fun _ => True) [ob4_0_ mm mk mr ml mu])) (va_Qi (fun (r : Int32) (_ : Unit) => ((mr.toInt ≠ -9) ∧ r = 1) ∨ ((mr.toInt = -9) ∧ r = 0)) (fun (_ : Unit) (_ : State) => True) (va_A [] sz)) 0 0 (va_A [] sz) := by
  refine ofQ (cc := cX4_isThere) (maxL := 1) (ret := (some .boolean)) (by decide) rfl ?_
  intro p e s m args below meth c s₁ Q hQ B hml hv
  obtain ⟨rfl, hsz, hP, hK, hD0⟩ := hv
  have hx := B.exec
  have hb := B.bytes
  have hr := B.returns
  have hts := atoms_spec (ws := wsX4_isThere) B.pre
  have hown : s.vm.findClass RX4 = some m.cls := by have h_ := findClass_of_methodNamed B.named; exact h_
  have hlocks := B.notSynchronized
  subst hsz
  have hD : va_D (va_A [] s.heap.size) [] := dd_nil
  generalize hAe : va_A [] s.heap.size = A at hD hQ
  have hA : ∀ q : Nat, s.heap.size ≤ q → A q := fun q h => by rw [← hAe]; exact Or.inr h
  have hS : va_S A s.heap s.heap [] := va_S.rf
  have hl := lv_entry ([.ref mm]) (n := 1) (Nat.le_of_ble_eq_true rfl)
  rw [lg_entry_eq]
  generalize (lg_sl ([.ref mm]) ++ List.replicate (1 - (lg_sl ([.ref mm])).length) Slot.unset).toArray = ls at hl ⊢
  have hl : lv_has ls 1 [(0, .ref mm)] := hl
  have zm9 : ((-9) : Int32).toInt = -9 := by decide
  have z0 : (0 : Int32).toInt = 0 := by decide
  have z1 : (1 : Int32).toInt = 1 := by decide
  refine lv_aload_n hx hb dB_36_1_38.1.1.1 rfl (lv_at hl 0 rfl) ?_
  refine va_get (ci := 4) (v := .int mr) (C := RX4) (T := TX4) (N := 4) hx hb hts (fun _ h => List.mem_cons_of_mem _ (List.mem_append_right _ h)) hown hK.1 hP 0 rfl rfl 1 (by decide) (hts (.fieldLink RX4 15 "CutAtlas$NumberMap" "rows" "I") (List.mem_of_getElem? (i := 1) rfl)) (fun _ h9 => h9) rfl dB_36_1_38.1.1.2 ?_
  refine lv_bipush (v := (-9)) hx hb dB_36_1_38.1.2.1 (by decide) ?_
  refine lv_icmp_eq (tgt := 13) hx hb dB_36_1_38.1.2.2 (by decide) (fun c_1 => ?_) (fun c_1 => ?_)
  · have t_1 : mr.toInt = ((-9) : Int32).toInt := congrArg Int32.toInt c_1
    refine lv_iconst (v := 0) hx hb dB_36_1_38.2.2.1 (by decide) ?_
    rw [hQ]
    exact W.zret (ty := .boolean) (v := 0) hx hb hr (by decide) (fun t ht hW => ⟨⟨0, (), rfl, Or.inr (⟨by omega, rfl⟩), trivial⟩, hS.F ht⟩) hS.2.2 dB_36_1_38.2.2.2
  · have t_1 : ¬ mr.toInt = ((-9) : Int32).toInt := fun h => c_1 (Int32.toInt_inj.mp h)
    refine lv_iconst (v := 1) hx hb dB_36_1_38.2.1.1 (by decide) ?_
    refine lv_goto (tgt := 14) hx hb dB_36_1_38.2.1.2 (by decide) ?_
    rw [hQ]
    exact W.zret (ty := .boolean) (v := 1) hx hb hr (by decide) (fun t ht hW => ⟨⟨1, (), rfl, Or.inl (⟨by omega, rfl⟩), trivial⟩, hS.F ht⟩) hS.2.2 dB_36_1_38.2.2.2

set_option maxHeartbeats 4000000 in
set_option maxRecDepth 100000 in
theorem c_X4_hasRow (l : Launch) (D : va_G) (cy : Nat → ClassId) (sz : Nat) (mm : Nat) (ml : Nat) (mu : Nat) (mk : Int32) (mr : Int32) (a1 : Int32) : Met l yX4_hasRow wsX4_hasRow ({ frames := 0, cells := 0, slots := 0, locals := 0 }) (va_Pc [.ref mm, .int a1] (fun U => U.heap.size = sz ∧ va_P D vwCl [ob4_0_ mm mk mr ml mu] U.heap ∧ kk_ D cy U ∧ va_D (fun _ => True) [ob4_0_ mm mk mr ml mu])) (va_Qi (fun (r : Int32) (_ : Unit) => ((0 ≤ a1.toInt ∧ a1.toInt < mr.toInt) ∧ r = 1) ∨ ((¬ (0 ≤ a1.toInt ∧ a1.toInt < mr.toInt)) ∧ r = 0)) (fun (_ : Unit) (_ : State) => True) (va_A [] sz)) 0 0 (va_A [] sz) := by
  refine ofQ (cc := cX4_hasRow) (maxL := 2) (ret := (some .boolean)) (by decide) rfl ?_
  intro p e s m args below meth c s₁ Q hQ B hml hv
  obtain ⟨rfl, hsz, hP, hK, hD0⟩ := hv
  have hx := B.exec
  have hb := B.bytes
  have hr := B.returns
  have hts := atoms_spec (ws := wsX4_hasRow) B.pre
  have hown : s.vm.findClass RX4 = some m.cls := by have h_ := findClass_of_methodNamed B.named; exact h_
  have hlocks := B.notSynchronized
  subst hsz
  have hD : va_D (va_A [] s.heap.size) [] := dd_nil
  generalize hAe : va_A [] s.heap.size = A at hD hQ
  have hA : ∀ q : Nat, s.heap.size ≤ q → A q := fun q h => by rw [← hAe]; exact Or.inr h
  have hS : va_S A s.heap s.heap [] := va_S.rf
  have hl := lv_entry ([.ref mm, .int a1]) (n := 2) (Nat.le_of_ble_eq_true rfl)
  rw [lg_entry_eq]
  generalize (lg_sl ([.ref mm, .int a1]) ++ List.replicate (2 - (lg_sl ([.ref mm, .int a1])).length) Slot.unset).toArray = ls at hl ⊢
  have hl : lv_has ls 2 [(0, .ref mm), (1, .int a1)] := hl
  have z0 : (0 : Int32).toInt = 0 := by decide
  have z1 : (1 : Int32).toInt = 1 := by decide
  refine lv_iload_n hx hb dB_36_1_35.1.1.1 rfl (lv_at hl 1 rfl) ?_
  refine lv_if_lt (tgt := 16) hx hb dB_36_1_35.1.1.2 (by decide) (fun c_1 => ?_) (fun c_1 => ?_)
  · have t_1 : a1.toInt < (0 : Int32).toInt := Int32.lt_iff_toInt_lt.mp c_1
    refine lv_iconst (v := 0) hx hb dB_36_1_35.2.2.2.1 (by decide) ?_
    rw [hQ]
    exact W.zret (ty := .boolean) (v := 0) hx hb hr (by decide) (fun t ht hW => ⟨⟨0, (), rfl, Or.inr (⟨by omega, rfl⟩), trivial⟩, hS.F ht⟩) hS.2.2 dB_36_1_35.2.2.2.2
  · have t_1 : ¬ a1.toInt < (0 : Int32).toInt := fun h => c_1 (Int32.lt_iff_toInt_lt.mpr h)
    refine lv_iload_n hx hb dB_36_1_35.1.2.1 rfl (lv_at hl 1 rfl) ?_
    refine lv_aload_n hx hb dB_36_1_35.1.2.2.1 rfl (lv_at hl 0 rfl) ?_
    refine va_get (ci := 4) (v := .int mr) (C := RX4) (T := TX4) (N := 4) hx hb hts (fun _ h => List.mem_cons_of_mem _ (List.mem_append_right _ h)) hown hK.1 hP 0 rfl rfl 1 (by decide) (hts (.fieldLink RX4 15 "CutAtlas$NumberMap" "rows" "I") (List.mem_of_getElem? (i := 1) rfl)) (fun _ h9 => h9) rfl dB_36_1_35.1.2.2.2 ?_
    refine lv_icmp_ge (tgt := 16) hx hb dB_36_1_35.2.1.1 (by decide) (fun c_2 => ?_) (fun c_2 => ?_)
    · have t_2 : mr.toInt ≤ a1.toInt := Int32.le_iff_toInt_le.mp c_2
      refine lv_iconst (v := 0) hx hb dB_36_1_35.2.2.2.1 (by decide) ?_
      rw [hQ]
      exact W.zret (ty := .boolean) (v := 0) hx hb hr (by decide) (fun t ht hW => ⟨⟨0, (), rfl, Or.inr (⟨by omega, rfl⟩), trivial⟩, hS.F ht⟩) hS.2.2 dB_36_1_35.2.2.2.2
    · have t_2 : ¬ mr.toInt ≤ a1.toInt := fun h => c_2 (Int32.le_iff_toInt_le.mpr h)
      refine lv_iconst (v := 1) hx hb dB_36_1_35.2.1.2 (by decide) ?_
      refine lv_goto (tgt := 17) hx hb dB_36_1_35.2.2.1 (by decide) ?_
      rw [hQ]
      exact W.zret (ty := .boolean) (v := 1) hx hb hr (by decide) (fun t ht hW => ⟨⟨1, (), rfl, Or.inl (⟨by omega, rfl⟩), trivial⟩, hS.F ht⟩) hS.2.2 dB_36_1_35.2.2.2.2

set_option maxHeartbeats 4000000 in
set_option maxRecDepth 100000 in
theorem c_X4_number (l : Launch) (D : va_G) (cy : Nat → ClassId) (sz : Nat) (mm : Nat) (ml : Nat) (mu : Nat) (mk : Int32) (mr : Int32) (fn : Nat → Int64) (a1 : Int32) (a2 : Int32) (q1 : 0 ≤ a1.toInt ∧ a1.toInt ≤ 5) (q2 : 0 ≤ a2.toInt ∧ a2.toInt ≤ 4) : Met l yX4_number wsX4_number ({ frames := 0, cells := 0, slots := 0, locals := 0 }) (va_Pc [.ref mm, .int a1, .int a2] (fun U => U.heap.size = sz ∧ va_P D vwCl [ob4_0_ mm mk mr ml mu, aj_ cy mu 30 fn] U.heap ∧ kk_ D cy U ∧ va_D (fun _ => True) [ob4_0_ mm mk mr ml mu, aj_ cy mu 30 fn])) (va_Ql (fun (r : Int64) (_ : Unit) => (r = fn (5 * a1.toInt + a2.toInt).toNat)) (fun (_ : Unit) (_ : State) => True) (va_A [] sz)) 0 0 (va_A [] sz) := by
  refine ofQ (cc := cX4_number) (maxL := 3) (ret := (some .long)) (by decide) rfl ?_
  intro p e s m args below meth c s₁ Q hQ B hml hv
  obtain ⟨rfl, hsz, hP, hK, hD0⟩ := hv
  have hx := B.exec
  have hb := B.bytes
  have hr := B.returns
  have hts := atoms_spec (ws := wsX4_number) B.pre
  have hown : s.vm.findClass RX4 = some m.cls := by have h_ := findClass_of_methodNamed B.named; exact h_
  have hlocks := B.notSynchronized
  subst hsz
  have hD : va_D (va_A [] s.heap.size) [] := dd_nil
  generalize hAe : va_A [] s.heap.size = A at hD hQ
  have hA : ∀ q : Nat, s.heap.size ≤ q → A q := fun q h => by rw [← hAe]; exact Or.inr h
  have hS : va_S A s.heap s.heap [] := va_S.rf
  have hl := lv_entry ([.ref mm, .int a1, .int a2]) (n := 3) (Nat.le_of_ble_eq_true rfl)
  rw [lg_entry_eq]
  generalize (lg_sl ([.ref mm, .int a1, .int a2]) ++ List.replicate (3 - (lg_sl ([.ref mm, .int a1, .int a2])).length) Slot.unset).toArray = ls at hl ⊢
  have hl : lv_has ls 3 [(0, .ref mm), (1, .int a1), (2, .int a2)] := hl
  have z5 : (5 : Int32).toInt = 5 := by decide
  refine lv_aload_n hx hb dB_36_1_44.1.1.1 rfl (lv_at hl 0 rfl) ?_
  refine va_get (ci := 4) (v := .ref mu) (C := RX4) (T := TX4) (N := 4) hx hb hts (fun _ h => List.mem_cons_of_mem _ (List.mem_append_right _ h)) hown hK.1 hP 0 rfl rfl 3 (by decide) (hts (.fieldLink RX4 22 "CutAtlas$NumberMap" "numbers" "[J") (List.mem_of_getElem? (i := 1) rfl)) (fun _ h9 => h9) rfl dB_36_1_44.1.1.2 ?_
  refine lv_iload_n hx hb dB_36_1_44.1.2.1 rfl (lv_at hl 1 rfl) ?_
  refine lv_iconst (v := 5) hx hb dB_36_1_44.1.2.2 (by decide) ?_
  refine lv_imul hx hb dB_36_1_44.2.1.1 ?_
  refine lv_topi (fun y_1 ey_1 => ?_)
  have ty_1 : y_1.toInt = 5 * a1.toInt := by rw [ey_1]; exact mulD (by decide) (by omega) (by omega)
  refine lv_iload_n hx hb dB_36_1_44.2.1.2 rfl (lv_at hl 2 rfl) ?_
  refine lv_iadd hx hb dB_36_1_44.2.2.1 ?_
  refine lv_topi (fun y_2 ey_2 => ?_)
  have ty_2 : y_2.toInt = y_1.toInt + a2.toInt := by rw [ey_2]; exact addI (by omega) (by omega)
  have h_3 : vp_in y_2 30 := in_I (by first | with_reducible assumption | omega) (by omega)
  refine va_lald hx hb hK.1 hP 1 1 rfl rfl (i := y_2) h_3 dB_36_1_44.2.2.2.1 ?_
  refine lv_topl (fun y_4 ey_4 => ?_)
  rw [hQ]
  exact W.lret (v := y_4) hx hb hr (fun t ht hW => ⟨⟨y_4, (), rfl, (num_eq (by assumption) (by omega)), trivial⟩, hS.F ht⟩) hS.2.2 dB_36_1_44.2.2.2.2
end

section
/-- what line j lets more out of s -/
noncomputable def outI (f5 f6 f7 f8 f10 f22 : Nat → Int32) (s : Int) (j : Nat) : Int := if (f10 j).toInt ≠ 0 then 0 else if (f6 j).toInt = s then rmI (f5 j) (f8 j) 1 - (f22 j).toInt else if (f7 j).toInt = s then rmI (f5 j) (f8 j) 0 + (f22 j).toInt else 0
noncomputable def phi (f5 f6 f7 f8 f10 f22 : Nat → Int32) (s : Int) (n : Nat) : Int := sumI (outI f5 f6 f7 f8 f10 f22 s) n
theorem sumI_nonneg {g : Nat → Int} : ∀ n : Nat, (∀ j : Nat, j < n → 0 ≤ g j) → 0 ≤ sumI g n
  | 0, _ => Int.le_refl 0
  | n + 1, h => by
    have a := sumI_nonneg n (fun j hj => h j (by omega))
    have b := h n (by omega)
    show 0 ≤ sumI g n + g n
    omega
theorem sumI_congr {g h : Nat → Int} : ∀ n : Nat, (∀ j : Nat, j < n → g j = h j) → sumI g n = sumI h n
  | 0, _ => rfl
  | n + 1, e => by
    show sumI g n + g n = sumI h n + h n
    rw [sumI_congr n (fun j hj => e j (by omega)), e n (by omega)]
theorem sumI_one {g h : Nat → Int} {k : Nat} {d : Int} (ho : ∀ j : Nat, j ≠ k → h j = g j) (hk : h k = g k - d) : ∀ n : Nat, k < n → sumI h n = sumI g n - d
  | 0, hn => absurd hn (Nat.not_lt_zero _)
  | n + 1, hn => by
    show sumI h n + h n = sumI g n + g n - d
    by_cases e : k = n
    · subst e
      rw [sumI_congr k (fun j hj => ho j (by omega)), hk]
      omega
    · rw [sumI_one ho hk n (by omega), ho n (fun e9 => e e9.symm)]
      omega
theorem sumI_le0 {g : Nat → Int} : ∀ n : Nat, (∀ j : Nat, j < n → g j ≤ 0) → sumI g n ≤ 0
  | 0, _ => Int.le_refl 0
  | n + 1, h => by
    have a := sumI_le0 n (fun j hj => h j (by omega))
    have b := h n (by omega)
    show sumI g n + g n ≤ 0
    omega
theorem flOK_zero {f5 f8 f22 : Nat → Int32} (hr : rng f8 40 0 2000) (h : ∀ j : Nat, (j : Int) < 40 → (f22 j).toInt = 0) : flOK f5 f8 f22 := fun j hj => by
  have b := hr j hj
  have c1 := rmI_rng (k := f5 j) (b := 1) b.1 b.2
  have c0 := rmI_rng (k := f5 j) (b := 0) b.1 b.2
  have e := h j (by omega)
  omega
theorem zero_st {f f2 : Nat → Int32} {i i2 : Int32} (e : f2 = upd f i.toNatClampNeg 0) (h : ∀ j : Nat, (j : Int) < i.toInt → (f j).toInt = 0) (hi : 0 ≤ i.toInt) (ei : i2.toInt = i.toInt + 1) : ∀ j : Nat, (j : Int) < i2.toInt → (f2 j).toInt = 0 := fun j hj => by
  have c := clI (i := i) hi
  rw [e]
  by_cases ej : j = i.toNatClampNeg
  · rw [ej, pk_us]
    decide
  · rw [pk_un ej]
    exact h j (by omega)
theorem phi_nonneg {f5 f6 f7 f8 f10 f22 : Nat → Int32} {s : Int} {n : Nat} (h : flOK f5 f8 f22) (hr : rng f8 40 0 2000) (hn : n ≤ 40) : 0 ≤ phi f5 f6 f7 f8 f10 f22 s n := sumI_nonneg n (fun j hj => by
  have a := h j (by omega)
  have b := hr j (by omega)
  have c1 := rmI_rng (k := f5 j) (b := 1) b.1 b.2
  have c0 := rmI_rng (k := f5 j) (b := 0) b.1 b.2
  unfold outI
  (repeat' split) <;> omega)
theorem phi_same {f5 f6 f7 f8 f10 a b : Nat → Int32} {s : Int} {n : Nat} (h : ∀ j : Nat, ((f6 j).toInt = s ∨ (f7 j).toInt = s) → a j = b j) : phi f5 f6 f7 f8 f10 a s n = phi f5 f6 f7 f8 f10 b s n := sumI_congr n (fun j _ => by
  unfold outI
  by_cases h1 : (f6 j).toInt = s
  · rw [h j (Or.inl h1)]
  · by_cases h2 : (f7 j).toInt = s
    · rw [h j (Or.inr h2)]
    · simp only [h1, h2, if_false])
/-- one line carries n more from x to y -/
theorem stepL {f5 f6 f7 f8 f10 F F2 : Nat → Int32} {l v : Int32} {n x y s : Int} {N : Nat} (e : F2 = upd F l.toNatClampNeg v) (hl0 : 0 ≤ l.toInt) (hl : l.toInt < N) (hN : N ≤ 40) (hok : flOK f5 f8 F) (hr : rng f8 40 0 2000) (hn0 : 0 ≤ n) (hn : n ≤ lfI f5 f6 f7 f8 f10 F x y l.toNatClampNeg)
    (hv : v.toInt = (F l.toNatClampNeg).toInt + (if (f10 l.toNatClampNeg).toInt ≠ 0 then 0 else if (f6 l.toNatClampNeg).toInt = x ∧ (f7 l.toNatClampNeg).toInt = y then n else if (f6 l.toNatClampNeg).toInt = y ∧ (f7 l.toNatClampNeg).toInt = x then -n else 0)) (hy : y ≠ s) :
    flOK f5 f8 F2 ∧ (x = s → phi f5 f6 f7 f8 f10 F2 s N = phi f5 f6 f7 f8 f10 F s N - n) ∧ (x ≠ s → ∀ j : Nat, ((f6 j).toInt = s ∨ (f7 j).toInt = s) → F2 j = F j) ∧ (n = 0 → ∀ j : Nat, F2 j = F j) := by
  have c := clI (i := l) hl0
  have hk : l.toNatClampNeg < 40 := by omega
  have a := hok _ hk
  have b := hr _ hk
  have c1 := rmI_rng (k := f5 l.toNatClampNeg) (b := 1) b.1 b.2
  have c0 := rmI_rng (k := f5 l.toNatClampNeg) (b := 0) b.1 b.2
  have ek : F2 l.toNatClampNeg = v := by rw [e]; exact pk_us
  have eo : ∀ j : Nat, j ≠ l.toNatClampNeg → F2 j = F j := fun j hj => by rw [e]; exact pk_un hj
  unfold lfI at hn
  refine ⟨fun j hj => ?_, fun hx => ?_, fun hx j hj => ?_, fun h0 j => ?_⟩
  · by_cases ej : j = l.toNatClampNeg
    · rw [ej, ek]
      split at hn
      · rw [if_pos (by assumption)] at hv
        omega
      · rw [if_neg (by assumption)] at hv
        split at hn
        · rw [if_pos (by assumption)] at hv
          omega
        · rw [if_neg (by assumption)] at hv
          split at hn
          · rw [if_pos (by assumption)] at hv
            omega
          · rw [if_neg (by assumption)] at hv
            omega
    · rw [eo j ej]
      exact hok j hj
  · refine sumI_one (k := l.toNatClampNeg) (fun j hj => ?_) ?_ N (by omega)
    · unfold outI
      rw [eo j hj]
    · unfold outI
      rw [ek]
      subst hx
      split at hn
      · rename_i q0
        rw [if_pos q0] at hv
        rw [if_pos q0, if_pos q0]
        omega
      · rename_i q0
        rw [if_neg q0] at hv
        rw [if_neg q0, if_neg q0]
        split at hn
        · rename_i q2
          rw [if_pos q2] at hv
          rw [if_pos q2.1, if_pos q2.1]
          omega
        · rename_i q2
          rw [if_neg q2] at hv
          split at hn
          · rename_i q3
            rw [if_pos q3] at hv
            have n6 : ¬ (f6 l.toNatClampNeg).toInt = x := fun h => by
              have := q3.1
              omega
            rw [if_neg n6, if_neg n6, if_pos q3.2, if_pos q3.2]
            omega
          · rename_i q3
            rw [if_neg q3] at hv
            rw [show v.toInt = (F l.toNatClampNeg).toInt by omega]
            omega
  · by_cases ej : j = l.toNatClampNeg
    · subst ej
      rw [ek]
      refine Int32.toInt_inj.mp ?_
      rw [hv]
      split at hn
      · rw [if_pos (by assumption)]
        omega
      · rw [if_neg (by assumption)]
        split at hn
        · omega
        · rw [if_neg (by assumption)]
          split at hn
          · omega
          · rw [if_neg (by assumption)]
            omega
    · exact eo j ej
  · by_cases ej : j = l.toNatClampNeg
    · subst ej
      rw [ek]
      refine Int32.toInt_inj.mp ?_
      rw [hv, h0]
      (repeat' split) <;> omega
    · exact eo j ej
theorem lfI_same {f5 f6 f7 f8 f10 a b : Nat → Int32} {x y : Int} {j : Nat} (h : (f6 j).toInt = x ∨ (f7 j).toInt = x → a j = b j) : lfI f5 f6 f7 f8 f10 a x y j = lfI f5 f6 f7 f8 f10 b x y j := by
  unfold lfI
  by_cases h1 : (f6 j).toInt = x
  · rw [h (Or.inl h1)]
  · by_cases h2 : (f7 j).toInt = x
    · rw [h (Or.inr h2)]
    · simp only [h1, h2, false_and, and_false, if_false]
end

section
theorem sixL {g : Nat → Int} {l l2 : Int32} (h : ∀ j : Nat, (j : Int) < l.toInt → g j ≤ 0) (h0 : 0 ≤ l.toInt) (e : l2.toInt = l.toInt + 1) (hg : g l.toNatClampNeg ≤ 0) : ∀ j : Nat, (j : Int) < l2.toInt → g j ≤ 0 := fun j hj => by
  have c := clI (i := l) h0
  by_cases q : (j : Int) < l.toInt
  · exact h j q
  · obtain rfl : j = l.toNatClampNeg := by omega
    exact hg
theorem endL {f5 f6 f7 f8 f10 F c0 c : Nat → Int32} {l n : Int32} {x y s r m : Int} (h6 : r = m → (∀ j : Nat, (j : Int) < l.toInt → lfI f5 f6 f7 f8 f10 c0 x y j ≤ 0) ∧ ∀ j : Nat, F j = c0 j) (hl : n.toInt ≤ l.toInt) (hn : 0 ≤ n.toInt) (hs : 0 < sumI (lfI f5 f6 f7 f8 f10 c x y) n.toNatClampNeg) (hc : ∀ j : Nat, ((f6 j).toInt = s ∨ (f7 j).toInt = s) → c0 j = c j) (hx : x = s) (hle : r ≤ m) : r < m := by
  rcases Int.lt_or_le r m with q | q
  · exact q
  · have a := h6 (by omega)
    have e := clI (i := n) hn
    have b := sumI_le0 (g := lfI f5 f6 f7 f8 f10 c x y) n.toNatClampNeg (fun j hj => by
      have d := a.1 j (by omega)
      rw [lfI_same (a := c0) (b := c) (fun h => hc j (by rw [← hx]; exact h))] at d
      exact d)
    omega
end

section
theorem nneg {x : Int32} (h : 0 ≤ x.toInt) : ¬ x < 0 := fun q => by
  have a := Int32.lt_iff_toInt_lt.mp q
  have z : (0 : Int32).toInt = 0 := by decide
  omega
theorem rng_cpy {f g : Nat → Int32} {n sp dp k : Nat} {lo hi : Int} (hf : rng f n lo hi) (hg : rng g n lo hi) (h : sp + k ≤ n) : rng (va_cpy f g sp dp k) n lo hi := fun j hj => by
  by_cases e : dp ≤ j ∧ j < dp + k
  · rw [pk_cpy_in e.1 e.2]
    exact hf _ (by omega)
  · rw [pk_cpy_out (by omega)]
    exact hg j hj
theorem prng_cpy {f1 f2 g1 g2 a b : Nat → Int32} {n k : Nat} (ea : a = va_cpy f1 f2 (0 : Int32).toNatClampNeg (0 : Int32).toNatClampNeg k) (eb : b = va_cpy g1 g2 (0 : Int32).toNatClampNeg (0 : Int32).toNatClampNeg k) (h1 : prng f1 g1 n) (h2 : prng f2 g2 n) (hk : k ≤ n) : prng a b n := fun j hj => by
  rw [ea, eb]
  have z : (0 : Int32).toNatClampNeg = 0 := by decide
  rw [z]
  by_cases e : j < k
  · rw [pk_cpy_in (Nat.zero_le _) (by omega), pk_cpy_in (Nat.zero_le _) (by omega)]
    exact h1 _ (by omega)
  · rw [pk_cpy_out (by omega), pk_cpy_out (by omega)]
    exact h2 j hj

set_option maxHeartbeats 4000000 in
set_option maxRecDepth 100000 in
theorem c_X4_whole (l : Launch) (D : va_G) (cy : Nat → ClassId) (sz : Nat) (mm : Nat) (ml : Nat) (mu : Nat) (mk : Int32) (mr : Int32) (fn : Nat → Int64) (a1 : Int32) (a2 : Int32) (q1 : 0 ≤ a1.toInt ∧ a1.toInt ≤ 5) (q2 : 0 ≤ a2.toInt ∧ a2.toInt ≤ 4) : Met l yX4_whole wsX4_whole ({ frames := 1, cells := 0, slots := 0, locals := 22 }) (va_Pc [.ref mm, .int a1, .int a2] (fun U => U.heap.size = sz ∧ va_P D vwCl [ob4_0_ mm mk mr ml mu, aj_ cy mu 30 fn] U.heap ∧ kk_ D cy U ∧ va_D (fun _ => True) [ob4_0_ mm mk mr ml mu, aj_ cy mu 30 fn])) (va_Qi (fun (r : Int32) (_ : Unit) => (r = (fn (5 * a1.toInt + a2.toInt).toNat).toInt32)) (fun (_ : Unit) (_ : State) => True) (va_A [] sz)) 0 0 (va_A [] sz) := by
  refine ofQ (cc := cX4_whole) (maxL := 3) (ret := (some .int)) (by decide) rfl ?_
  intro p e s m args below meth c s₁ Q hQ B hml hv
  obtain ⟨rfl, hsz, hP, hK, hD0⟩ := hv
  have hx := B.exec
  have hb := B.bytes
  have hr := B.returns
  have hts := atoms_spec (ws := wsX4_whole) B.pre
  have hown : s.vm.findClass RX4 = some m.cls := by have h_ := findClass_of_methodNamed B.named; exact h_
  have hlocks := B.notSynchronized
  subst hsz
  have hD : va_D (va_A [] s.heap.size) [] := dd_nil
  generalize hAe : va_A [] s.heap.size = A at hD hQ
  have hA : ∀ q : Nat, s.heap.size ≤ q → A q := fun q h => by rw [← hAe]; exact Or.inr h
  have hS : va_S A s.heap s.heap [] := va_S.rf
  have hl := lv_entry ([.ref mm, .int a1, .int a2]) (n := 3) (Nat.le_of_ble_eq_true rfl)
  rw [lg_entry_eq]
  generalize (lg_sl ([.ref mm, .int a1, .int a2]) ++ List.replicate (3 - (lg_sl ([.ref mm, .int a1, .int a2])).length) Slot.unset).toArray = ls at hl ⊢
  have hl : lv_has ls 3 [(0, .ref mm), (1, .int a1), (2, .int a2)] := hl
  refine lv_aload_n hx hb dB_36_1_47.1.1 rfl (lv_at hl 0 rfl) ?_
  refine lv_iload_n hx hb dB_36_1_47.1.2.1 rfl (lv_at hl 1 rfl) ?_
  refine lv_iload_n hx hb dB_36_1_47.1.2.2 rfl (lv_at hl 2 rfl) ?_
  refine ct_R hP hD0 [ob4_0_ mm mk mr ml mu, aj_ cy mu 30 fn] [0, 1] (by decide) rfl (fun hPc hDw => ?_)
  have hFc := va_free (wc := []) hD hS hA [] rfl
  refine va_calll (va_runV (As := [.int a1, .int a2]) (rest := []) ⟨hx, hb, hml, hown, hts⟩ (c_X4_number l D cy s.heap.size mm ml mu mk mr fn a1 a2 (by first | with_reducible assumption | omega | assumption) (by first | with_reducible assumption | omega | assumption)) (cwV 2 hts gX4_whole_X4_number rfl rfl rfl ⟨rfl, hd_X4_number⟩ ⟨Nat.le_of_ble_eq_true rfl, Nat.le_of_ble_eq_true rfl⟩) ⟨bl_, va_recvX hK.1 hP (ci := 4) (q0 := 0) rfl rfl, fun U hU hW => ⟨rfl, by rw [hU], by rw [hU]; exact hPc, kk_mv hW hK, hDw⟩⟩ rfl rfl hl.1 rfl (lv_room (Nat.le_of_ble_eq_true rfl)) dB_36_1_47.2.1 ⟨Nat.le_of_ble_eq_true rfl, Nat.le_of_ble_eq_true rfl⟩) hS (fun q _ h => hFc q h) hFc (fun r_1 u t H locs ht hvm hw hB hz1 hk1 hS => ?_)
  have hP : va_P D vwCl _ H := ro_keep hP hk1
  have f0_r_1 := hw
  refine lv_l2i (v := r_1.toInt32) hx hb dB_36_1_47.2.2.1 rfl ?_
  rw [hQ]
  exact W.iret (v := (r_1.toInt32)) hx hb hr (fun t ht hW => ⟨⟨(r_1.toInt32), (), rfl, (congrArg Int64.toInt32 (by assumption)), trivial⟩, hS.F ht⟩) hS.2.2 dB_36_1_47.2.2.2

set_option maxHeartbeats 4000000 in
set_option maxRecDepth 100000 in
theorem c_X4_hasNumbers (l : Launch) (D : va_G) (cy : Nat → ClassId) (sz : Nat) (mm : Nat) (ml : Nat) (mu : Nat) (mk : Int32) (mr : Int32) (fl : Nat → Int32) (a1 : Int32) (a2 : Int32) (a3 : Int32) (q1 : 0 ≤ a1.toInt ∧ a1.toInt ≤ 5) (r_fl : rng fl 6 (-9) (5)) : Met l yX4_hasNumbers wsX4_hasNumbers ({ frames := 0, cells := 0, slots := 0, locals := 0 }) (va_Pc [.ref mm, .int a1, .int a2, .int a3] (fun U => U.heap.size = sz ∧ va_P D vwCl [ob4_0_ mm mk mr ml mu, ai_ cy ml 6 fl] U.heap ∧ kk_ D cy U ∧ va_D (fun _ => True) [ob4_0_ mm mk mr ml mu, ai_ cy ml 6 fl])) (va_Qi (fun (r : Int32) (_ : Unit) => ((0 ≤ a2.toInt ∧ 0 ≤ a3.toInt ∧ a2.toInt + a3.toInt ≤ (fl a1.toNatClampNeg).toInt) ∧ r = 1) ∨ ((¬ (0 ≤ a2.toInt ∧ 0 ≤ a3.toInt ∧ a2.toInt + a3.toInt ≤ (fl a1.toNatClampNeg).toInt)) ∧ r = 0)) (fun (_ : Unit) (_ : State) => True) (va_A [] sz)) 0 0 (va_A [] sz) := by
  refine ofQ (cc := cX4_hasNumbers) (maxL := 4) (ret := (some .boolean)) (by decide) rfl ?_
  intro p e s m args below meth c s₁ Q hQ B hml hv
  obtain ⟨rfl, hsz, hP, hK, hD0⟩ := hv
  have hx := B.exec
  have hb := B.bytes
  have hr := B.returns
  have hts := atoms_spec (ws := wsX4_hasNumbers) B.pre
  have hown : s.vm.findClass RX4 = some m.cls := by have h_ := findClass_of_methodNamed B.named; exact h_
  have hlocks := B.notSynchronized
  subst hsz
  have hD : va_D (va_A [] s.heap.size) [] := dd_nil
  generalize hAe : va_A [] s.heap.size = A at hD hQ
  have hA : ∀ q : Nat, s.heap.size ≤ q → A q := fun q h => by rw [← hAe]; exact Or.inr h
  have hS : va_S A s.heap s.heap [] := va_S.rf
  have hl := lv_entry ([.ref mm, .int a1, .int a2, .int a3]) (n := 4) (Nat.le_of_ble_eq_true rfl)
  rw [lg_entry_eq]
  generalize (lg_sl ([.ref mm, .int a1, .int a2, .int a3]) ++ List.replicate (4 - (lg_sl ([.ref mm, .int a1, .int a2, .int a3])).length) Slot.unset).toArray = ls at hl ⊢
  have hl : lv_has ls 4 [(0, .ref mm), (1, .int a1), (2, .int a2), (3, .int a3)] := hl
  have z0 : (0 : Int32).toInt = 0 := by decide
  have z1 : (1 : Int32).toInt = 1 := by decide
  refine lv_iload_n hx hb dB_36_1_33.1.1.1.1 rfl (lv_at hl 2 rfl) ?_
  refine lv_if_lt (tgt := 34) hx hb dB_36_1_33.1.1.1.2 (by decide) (fun c_1 => ?_) (fun c_1 => ?_)
  · have t_1 : a2.toInt < (0 : Int32).toInt := Int32.lt_iff_toInt_lt.mp c_1
    refine lv_iconst (v := 0) hx hb dB_36_1_34.2.2.1 (by decide) ?_
    rw [hQ]
    exact W.zret (ty := .boolean) (v := 0) hx hb hr (by decide) (fun t ht hW => ⟨⟨0, (), rfl, Or.inr (⟨by omega, rfl⟩), trivial⟩, hS.F ht⟩) hS.2.2 dB_36_1_34.2.2.2
  · have t_1 : ¬ a2.toInt < (0 : Int32).toInt := fun h => c_1 (Int32.lt_iff_toInt_lt.mpr h)
    refine lv_iload_n hx hb dB_36_1_33.1.1.2.1 rfl (lv_at hl 3 rfl) ?_
    refine lv_if_lt (tgt := 34) hx hb dB_36_1_33.1.1.2.2 (by decide) (fun c_2 => ?_) (fun c_2 => ?_)
    · have t_2 : a3.toInt < (0 : Int32).toInt := Int32.lt_iff_toInt_lt.mp c_2
      refine lv_iconst (v := 0) hx hb dB_36_1_34.2.2.1 (by decide) ?_
      rw [hQ]
      exact W.zret (ty := .boolean) (v := 0) hx hb hr (by decide) (fun t ht hW => ⟨⟨0, (), rfl, Or.inr (⟨by omega, rfl⟩), trivial⟩, hS.F ht⟩) hS.2.2 dB_36_1_34.2.2.2
    · have t_2 : ¬ a3.toInt < (0 : Int32).toInt := fun h => c_2 (Int32.lt_iff_toInt_lt.mpr h)
      refine lv_iload_n hx hb dB_36_1_33.1.2.1.1 rfl (lv_at hl 3 rfl) ?_
      refine lv_aload_n hx hb dB_36_1_33.1.2.1.2 rfl (lv_at hl 0 rfl) ?_
      refine va_get (ci := 4) (v := .ref ml) (C := RX4) (T := TX4) (N := 4) hx hb hts (fun _ h => List.mem_cons_of_mem _ (List.mem_append_right _ h)) hown hK.1 hP 0 rfl rfl 2 (by decide) (hts (.fieldLink RX4 18 "CutAtlas$NumberMap" "lengths" "[I") (List.mem_of_getElem? (i := 1) rfl)) (fun _ h9 => h9) rfl dB_36_1_33.1.2.2.1 ?_
      refine lv_iload_n hx hb dB_36_1_33.1.2.2.2 rfl (lv_at hl 1 rfl) ?_
      have h_3 : vp_in a1 6 := in_I (by first | with_reducible assumption | omega) (by omega)
      refine va_iald hx hb hK.1 hP 1 0 rfl rfl (i := a1) h_3 dB_36_1_33.2.1.1.1 ?_
      refine lv_topi (fun y_4 ey_4 => ?_)
      have ky_4 : y_4.toInt = (fl a1.toNatClampNeg).toInt := by rw [ey_4]
      have ry_4 : -9 ≤ y_4.toInt ∧ y_4.toInt ≤ 5 := by rw [ey_4]; exact r_fl _ (in_lt h_3)
      refine lv_icmp_gt (tgt := 34) hx hb dB_36_1_33.2.1.1.2 (by decide) (fun c_5 => ?_) (fun c_5 => ?_)
      · have t_5 : y_4.toInt < a3.toInt := Int32.lt_iff_toInt_lt.mp c_5
        refine lv_iconst (v := 0) hx hb dB_36_1_34.2.2.1 (by decide) ?_
        rw [hQ]
        exact W.zret (ty := .boolean) (v := 0) hx hb hr (by decide) (fun t ht hW => ⟨⟨0, (), rfl, Or.inr (⟨by omega, rfl⟩), trivial⟩, hS.F ht⟩) hS.2.2 dB_36_1_34.2.2.2
      · have t_5 : ¬ y_4.toInt < a3.toInt := fun h => c_5 (Int32.lt_iff_toInt_lt.mpr h)
        refine lv_iload_n hx hb dB_36_1_33.2.1.2.1 rfl (lv_at hl 2 rfl) ?_
        refine lv_aload_n hx hb dB_36_1_33.2.1.2.2 rfl (lv_at hl 0 rfl) ?_
        refine va_get (ci := 4) (v := .ref ml) (C := RX4) (T := TX4) (N := 4) hx hb hts (fun _ h => List.mem_cons_of_mem _ (List.mem_append_right _ h)) hown hK.1 hP 0 rfl rfl 2 (by decide) (hts (.fieldLink RX4 18 "CutAtlas$NumberMap" "lengths" "[I") (List.mem_of_getElem? (i := 1) rfl)) (fun _ h9 => h9) rfl dB_36_1_33.2.2.1.1 ?_
        refine lv_iload_n hx hb dB_36_1_33.2.2.1.2 rfl (lv_at hl 1 rfl) ?_
        refine va_iald hx hb hK.1 hP 1 0 rfl rfl (i := a1) h_3 dB_36_1_33.2.2.2.1 ?_
        refine lv_topi (fun y_7 ey_7 => ?_)
        have e_ := (ey_7.trans ey_4.symm).symm
        subst e_
        skip
        refine lv_iload_n hx hb dB_36_1_33.2.2.2.2 rfl (lv_at hl 3 rfl) ?_
        refine lv_isub hx hb dB_36_1_34.1.1 ?_
        refine lv_topi (fun y_8 ey_8 => ?_)
        have ty_8 : y_8.toInt = y_4.toInt - a3.toInt := by rw [ey_8]; exact subI (by omega) (by omega)
        refine lv_icmp_gt (tgt := 34) hx hb dB_36_1_34.1.2.1 (by decide) (fun c_9 => ?_) (fun c_9 => ?_)
        · have t_9 : y_8.toInt < a2.toInt := Int32.lt_iff_toInt_lt.mp c_9
          refine lv_iconst (v := 0) hx hb dB_36_1_34.2.2.1 (by decide) ?_
          rw [hQ]
          exact W.zret (ty := .boolean) (v := 0) hx hb hr (by decide) (fun t ht hW => ⟨⟨0, (), rfl, Or.inr (⟨by omega, rfl⟩), trivial⟩, hS.F ht⟩) hS.2.2 dB_36_1_34.2.2.2
        · have t_9 : ¬ y_8.toInt < a2.toInt := fun h => c_9 (Int32.lt_iff_toInt_lt.mpr h)
          refine lv_iconst (v := 1) hx hb dB_36_1_34.1.2.2 (by decide) ?_
          refine lv_goto (tgt := 35) hx hb dB_36_1_34.2.1 (by decide) ?_
          rw [hQ]
          exact W.zret (ty := .boolean) (v := 1) hx hb hr (by decide) (fun t ht hW => ⟨⟨1, (), rfl, Or.inl (⟨by omega, rfl⟩), trivial⟩, hS.F ht⟩) hS.2.2 dB_36_1_34.2.2.2
end

section
/-- nexts is a tree with root 0; d: how many steps away from it -/
noncomputable def trd (f : Nat → Int32) (d : Nat → Nat) : Prop := d 0 = 0 ∧ ∀ i : Nat, 1 ≤ i → i < 12 → 0 ≤ (f i).toInt ∧ (f i).toInt ≤ 11 ∧ d i = d (f i).toNatClampNeg + 1 ∧ d i ≤ 11
theorem trd_z {f : Nat → Int32} {d : Nat → Nat} {x : Int32} (h : trd f d) (h0 : 0 ≤ x.toInt) (h1 : x.toInt ≤ 11) : (d x.toNatClampNeg = 0 ↔ x.toInt = 0) ∧ d x.toNatClampNeg ≤ 11 := by
  have c := clI (i := x) h0
  by_cases e : x.toInt = 0
  · rw [show x.toNatClampNeg = 0 by omega, h.1]
    omega
  · have a := h.2 x.toNatClampNeg (by omega) (by omega)
    omega

set_option maxHeartbeats 4000000 in
set_option maxRecDepth 100000 in
theorem c_X1_stepsToRoot (l : Launch) (D : va_G) (cy : Nat → ClassId) (sz : Nat) (xt : Nat) (xc : Nat) (ta : Nat) (tb : Nat) (fx : Nat → Int32) (d : Nat → Nat) (a1 : Int32) (htr : trd fx d) (q1 : 0 ≤ a1.toInt ∧ a1.toInt ≤ 11) : Met l yX1_stepsToRoot wsX1_stepsToRoot ({ frames := 0, cells := 0, slots := 0, locals := 0 }) (va_Pc [.ref xt, .int a1] (fun U => U.heap.size = sz ∧ va_P D vwCl [ob1_0_ xt xc ta tb, ai_ cy ta 12 fx] U.heap ∧ kk_ D cy U ∧ va_D (fun _ => True) [ob1_0_ xt xc ta tb, ai_ cy ta 12 fx])) (va_Qi (fun (r : Int32) (_ : Unit) => (r.toInt = (d a1.toNatClampNeg : Int))) (fun (_ : Unit) (_ : State) => True) (va_A [] sz)) 0 0 (va_A [] sz) := by
  refine ofQ (cc := cX1_stepsToRoot) (maxL := 4) (ret := (some .int)) (by decide) rfl ?_
  intro p e s m args below meth c s₁ Q hQ B hml hv
  obtain ⟨rfl, hsz, hP, hK, hD0⟩ := hv
  have hx := B.exec
  have hb := B.bytes
  have hr := B.returns
  have hts := atoms_spec (ws := wsX1_stepsToRoot) B.pre
  have hown : s.vm.findClass RX1 = some m.cls := by have h_ := findClass_of_methodNamed B.named; exact h_
  have hlocks := B.notSynchronized
  subst hsz
  have hD : va_D (va_A [] s.heap.size) [] := dd_nil
  generalize hAe : va_A [] s.heap.size = A at hD hQ
  have hA : ∀ q : Nat, s.heap.size ≤ q → A q := fun q h => by rw [← hAe]; exact Or.inr h
  have hS : va_S A s.heap s.heap [] := va_S.rf
  have hl := lv_entry ([.ref xt, .int a1]) (n := 4) (Nat.le_of_ble_eq_true rfl)
  rw [lg_entry_eq]
  generalize (lg_sl ([.ref xt, .int a1]) ++ List.replicate (4 - (lg_sl ([.ref xt, .int a1])).length) Slot.unset).toArray = ls at hl ⊢
  have hl : lv_has ls 4 [(0, .ref xt), (1, .int a1)] := hl
  have z0 : (0 : Int32).toInt = 0 := by decide
  have z1 : (1 : Int32).toInt = 1 := by decide
  have z12 : (12 : Int32).toInt = 12 := by decide
  have za := trd_z htr (x := a1) (by omega) (by omega)
  refine lv_iconst (v := 0) hx hb dB_36_0_62.1.1.1.1 (by decide) ?_
  refine lv_istore_n (lv' := [(2, .int 0), (0, .ref xt), (1, .int a1)]) hx hb dB_36_0_62.1.1.1.2 rfl hl (by decide) rfl (fun ls hl => ?_)
  refine lv_iload_n hx hb dB_36_0_62.1.1.2.1 rfl (lv_at hl 2 rfl) ?_
  refine lv_istore_n (lv' := [(3, .int a1), (2, .int 0), (0, .ref xt), (1, .int a1)]) hx hb dB_36_0_62.1.1.2.2 rfl hl (by decide) rfl (fun ls hl => ?_)
  suffices LOOP_1 : ∀ (n_1 : Nat) (x3_1 : Int32) (x2_1 : Int32) (H : Heap) (locs : List Loc) (ls : Array Slot), (d x3_1.toNatClampNeg : Int) < (n_1 : Int) → (0 ≤ x3_1.toInt ∧ x3_1.toInt ≤ 11) → (x2_1.toInt + (d x3_1.toNatClampNeg : Int) = (d a1.toNatClampNeg : Int)) → (0 ≤ x2_1.toInt) → va_P D vwCl [ob1_0_ xt xc ta tb, ai_ cy ta 12 fx] H → va_S A s.heap H locs → lv_has ls 4 [(3, .int x3_1), (2, .int x2_1), (0, .ref xt), (1, .int a1)] → W p l e ({ frames := 0, cells := 0, slots := 0, locals := 0 } : Room) s m (([.ref xt, .int a1] : List Value).toArray) below meth c H locs 0 0 Q (F0 m 4 ls []) from LOOP_1 (((d a1.toNatClampNeg : Int)).toNat + 1) a1 (0 : Int32) _ _ _ (by omega) (by first | with_reducible assumption | omega | assumption) (by first | with_reducible assumption | omega | assumption) (by first | with_reducible assumption | omega | assumption) hP hS (lv_sub hl [0, 1, 2, 3] rfl)
  intro n_1
  induction n_1 with
  | zero =>
    intro x3_1 x2_1 H locs ls hm v0_1 v1_1 v2_1 hP hS hl
    exact absurd hm (by omega)
  | succ n_1 ih_1 =>
    intro x3_1 x2_1 H locs ls hm v0_1 v1_1 v2_1 hP hS hl
    refine lv_iload_n hx hb dB_36_0_62.1.2.1.1 rfl (lv_at hl 0 rfl) ?_
    refine lv_if_eq (tgt := 27) hx hb dB_36_0_62.1.2.1.2 (by decide) (fun c_2 => ?_) (fun c_2 => ?_)
    · have t_2 : x3_1.toInt = (0 : Int32).toInt := congrArg Int32.toInt c_2
      have h0_ := trd_z htr (x := x3_1) (by omega) (by omega)
      refine lv_iload_n hx hb dB_36_0_63.1 rfl (lv_at hl 1 rfl) ?_
      rw [hQ]
      exact W.iret (v := x2_1) hx hb hr (fun t ht hW => ⟨⟨x2_1, (), rfl, (by omega), trivial⟩, hS.F ht⟩) hS.2.2 dB_36_0_63.2
    · have t_2 : ¬ x3_1.toInt = (0 : Int32).toInt := fun h => c_2 (Int32.toInt_inj.mp h)
      refine lv_iload_n hx hb dB_36_0_62.1.2.2.1 rfl (lv_at hl 1 rfl) ?_
      refine lv_bipush (v := 12) hx hb dB_36_0_62.1.2.2.2 (by decide) ?_
      refine lv_icmp_ge (tgt := 27) hx hb dB_36_0_62.2.1.1.1 (by decide) (fun c_3 => ?_) (fun c_3 => ?_)
      · have t_3 : (12 : Int32).toInt ≤ x2_1.toInt := Int32.le_iff_toInt_le.mp c_3
        have h0_ := trd_z htr (x := x3_1) (by omega) (by omega)
        refine lv_iload_n hx hb dB_36_0_63.1 rfl (lv_at hl 1 rfl) ?_
        rw [hQ]
        exact W.iret (v := x2_1) hx hb hr (fun t ht hW => ⟨⟨x2_1, (), rfl, (by omega), trivial⟩, hS.F ht⟩) hS.2.2 dB_36_0_63.2
      · have t_3 : ¬ (12 : Int32).toInt ≤ x2_1.toInt := fun h => c_3 (Int32.le_iff_toInt_le.mpr h)
        have cx_ := clI (i := x3_1) (by omega)
        have hx_ := htr.2 x3_1.toNatClampNeg (by omega) (by omega)
        obtain ⟨y_4, ey_4⟩ : ∃ y : Int32, y = x2_1 + 1 := ⟨_, rfl⟩
        have ty_4 : y_4.toInt = x2_1.toInt + (1 : Int32).toInt := by rw [ey_4]; exact addI (by omega) (by omega)
        refine lv_iinc (v := y_4) (lv' := [(2, .int y_4), (3, .int x3_1), (0, .ref xt), (1, .int a1)]) hx hb dB_36_0_62.2.1.1.2 hl (k := 1) rfl (by rw [ey_4]; rfl) (by decide) rfl (fun ls hl => ?_)
        refine lv_aload_n hx hb dB_36_0_62.2.1.2.1 rfl (lv_at hl 2 rfl) ?_
        refine va_get (ci := 1) (v := .ref ta) (C := RX1) (T := TX1) (N := 3) hx hb hts (fun _ h => List.mem_cons_of_mem _ (List.mem_append_right _ h)) hown hK.1 hP 0 rfl rfl 1 (by decide) (hts (.fieldLink RX1 9 "CutAtlas$CutTree" "nexts" "[I") (List.mem_of_getElem? (i := 1) rfl)) (fun _ h9 => h9) rfl dB_36_0_62.2.1.2.2 ?_
        refine lv_iload_n hx hb dB_36_0_62.2.2.1.1 rfl (lv_at hl 1 rfl) ?_
        have h_5 : vp_in x3_1 12 := in_I (by first | with_reducible assumption | omega) (by omega)
        refine va_iald hx hb hK.1 hP 1 0 rfl rfl (i := x3_1) h_5 dB_36_0_62.2.2.1.2 ?_
        refine lv_topi (fun y_6 ey_6 => ?_)
        have ky_6 : y_6.toInt = (fx x3_1.toNatClampNeg).toInt := by rw [ey_6]
        have hd_ : d x3_1.toNatClampNeg = d y_6.toNatClampNeg + 1 := by rw [ey_6]; exact hx_.2.2.1
        refine lv_istore_n (lv' := [(3, .int y_6), (2, .int y_4), (0, .ref xt), (1, .int a1)]) hx hb dB_36_0_62.2.2.2.1 rfl hl (by decide) rfl (fun ls hl => ?_)
        refine lv_goto (tgt := 4) hx hb dB_36_0_62.2.2.2.2 (by decide) ?_
        exact ih_1 y_6 y_4 _ _ _ (by omega) (by first | with_reducible assumption | omega | assumption) (by first | with_reducible assumption | omega | assumption) (by first | with_reducible assumption | omega | assumption) hP hS (lv_sub hl [0, 1, 2, 3] rfl)
end

section
theorem fill_st {f g : Nat → Int32} {i i2 v : Int32} (e : g = upd f i.toNatClampNeg v) (h : ∀ j : Nat, (j : Int) < i.toInt → f j = v) (hi : 0 ≤ i.toInt) (ei : i2.toInt = i.toInt + 1) : ∀ j : Nat, (j : Int) < i2.toInt → g j = v := fun j hj => by
  have c := clI (i := i) hi
  rw [e]
  by_cases ej : j = i.toNatClampNeg
  · rw [ej]
    exact pk_us
  · rw [pk_un ej]
    exact h j (by omega)
theorem rng_c {f : Nat → Int32} {n : Nat} {v : Int32} {lo hi : Int} (h : ∀ j : Nat, j < n → f j = v) (h1 : lo ≤ v.toInt) (h2 : v.toInt ≤ hi) : rng f n lo hi := fun j hj => by
  rw [h j hj]
  exact ⟨h1, h2⟩

set_option maxHeartbeats 4000000 in
set_option maxRecDepth 100000 in
theorem c_J7_fill_53178 (l : Launch) (D : va_G) (cy : Nat → ClassId) (sz : Nat) (l0 : Nat) (nn : Nat) (a1 : Int32) (fl : Nat → Int32) (hnn : nn ≤ 100) : Met l yJ7_fill_53178 wsJ7_fill_53178 ({ frames := 0, cells := 0, slots := 0, locals := 0 }) (va_Pc [.ref l0, .int a1] (fun U => U.heap.size = sz ∧ va_P D vwCl [ai_ cy l0 nn fl] U.heap ∧ kk_ D cy U ∧ va_D (fun _ => True) [ai_ cy l0 nn fl])) (va_Qv (fun (_ : Unit) => True) (fun (_ : Unit) (t : State) => ∃ (e1 : Nat → Int32), (∀ j : Nat, j < nn → e1 j = a1) ∧ va_P D vwCl [ai_ cy l0 nn e1] t.heap ∧ va_D (va_A [ai_ cy l0 nn fl] sz) [ai_ cy l0 nn e1]) (va_A [ai_ cy l0 nn fl] sz)) 0 0 (va_A [ai_ cy l0 nn fl] sz) := by
  refine ofQ (cc := cJ7_fill_53178) (maxL := 4) (ret := none) (by decide) rfl ?_
  intro p e s m args below meth c s₁ Q hQ B hml hv
  obtain ⟨rfl, hsz, hP, hK, hD0⟩ := hv
  have hx := B.exec
  have hb := B.bytes
  have hr := B.returns
  have hts := atoms_spec (ws := wsJ7_fill_53178) B.pre
  have hown : s.vm.findClass RJ7 = some m.cls := by have h_ := findClass_of_methodNamed B.named; exact h_
  have hlocks := B.notSynchronized
  subst hsz
  have hD := hD0.self (sz := s.heap.size)
  generalize hAe : va_A [ai_ cy l0 nn fl] s.heap.size = A at hD hQ
  have hA : ∀ q : Nat, s.heap.size ≤ q → A q := fun q h => by rw [← hAe]; exact Or.inr h
  have hS : va_S A s.heap s.heap [] := va_S.rf
  have hl := lv_entry ([.ref l0, .int a1]) (n := 4) (Nat.le_of_ble_eq_true rfl)
  rw [lg_entry_eq]
  generalize (lg_sl ([.ref l0, .int a1]) ++ List.replicate (4 - (lg_sl ([.ref l0, .int a1])).length) Slot.unset).toArray = ls at hl ⊢
  have hl : lv_has ls 4 [(0, .ref l0), (1, .int a1)] := hl
  have z0 : (0 : Int32).toInt = 0 := by decide
  have z1 : (1 : Int32).toInt = 1 := by decide
  have tn := nI_toInt (n := nn) (by omega)
  refine lv_iconst (v := 0) hx hb dB_36_4_3.1.1.1 (by decide) ?_
  refine lv_istore_n (lv' := [(2, .int 0), (0, .ref l0), (1, .int a1)]) hx hb dB_36_4_3.1.1.2.1 rfl hl (by decide) rfl (fun ls hl => ?_)
  refine lv_aload_n hx hb dB_36_4_3.1.1.2.2 rfl (lv_at hl 1 rfl) ?_
  refine va_alen hx hb hK.1 hP 0 0 rfl rfl (v := nI nn) rfl dB_36_4_3.1.2.1.1 ?_
  refine lv_istore_n (lv' := [(3, .int (nI nn)), (2, .int 0), (0, .ref l0), (1, .int a1)]) hx hb dB_36_4_3.1.2.1.2 rfl hl (by decide) rfl (fun ls hl => ?_)
  suffices LOOP_1 : ∀ (n_1 : Nat) (x2_1 : Int32) (c_l0_1 : Nat → Int32) (H : Heap) (locs : List Loc) (ls : Array Slot), (nn : Int) - x2_1.toInt < (n_1 : Int) → (0 ≤ x2_1.toInt) → (x2_1.toInt ≤ nn) → (∀ j : Nat, (j : Int) < x2_1.toInt → c_l0_1 j = a1) → pd_2 D vwCl A [ai_ cy l0 nn c_l0_1] H → va_S A s.heap H locs → lv_has ls 4 [(3, .int (nI nn)), (2, .int x2_1), (0, .ref l0), (1, .int a1)] → W p l e ({ frames := 0, cells := 0, slots := 0, locals := 0 } : Room) s m (([.ref l0, .int a1] : List Value).toArray) below meth c H locs 0 0 Q (F0 m 5 ls []) from LOOP_1 (((nn : Int) - (0 : Int32).toInt).toNat + 1) (0 : Int32) fl _ _ _ (by omega) (by first | with_reducible assumption | omega | assumption) (by first | with_reducible assumption | omega | assumption) (by first | exact fill_st (by assumption) (by assumption) (by omega) (by omega) | (intro j hj; omega)) ⟨hP, hD⟩ hS (lv_sub hl [0, 1, 2, 3] rfl)
  intro n_1
  induction n_1 with
  | zero =>
    intro x2_1 c_l0_1 H locs ls hm v0_1 v1_1 v2_1 hPD hS hl; obtain ⟨hP, hD⟩ := hPD
    exact absurd hm (by omega)
  | succ n_1 ih_1 =>
    intro x2_1 c_l0_1 H locs ls hm v0_1 v1_1 v2_1 hPD hS hl; obtain ⟨hP, hD⟩ := hPD
    refine lv_iload_n hx hb dB_36_4_3.1.2.2.1 rfl (lv_at hl 1 rfl) ?_
    refine lv_iload_n hx hb dB_36_4_3.1.2.2.2 rfl (lv_at hl 0 rfl) ?_
    refine lv_icmp_ge (tgt := 20) hx hb dB_36_4_3.2.1.1.1 (by decide) (fun c_2 => ?_) (fun c_2 => ?_)
    · have t_2 : ((nI nn)).toInt ≤ x2_1.toInt := Int32.le_iff_toInt_le.mp c_2
      rw [hQ]
      exact W.vret hx hb hr (fun t ht hW => ⟨⟨(), rfl, trivial, c_l0_1, (fun j hj => by first | exact v2_1 j (by omega)), by rw [ht]; exact hP, hD⟩, hS.F ht⟩) hS.2.2 dB_36_4_3.2.2.2.2
    · have t_2 : ¬ ((nI nn)).toInt ≤ x2_1.toInt := fun h => c_2 (Int32.le_iff_toInt_le.mpr h)
      refine lv_aload_n hx hb dB_36_4_3.2.1.1.2 rfl (lv_at hl 2 rfl) ?_
      refine lv_iload_n hx hb dB_36_4_3.2.1.2.1 rfl (lv_at hl 1 rfl) ?_
      refine lv_iload_n hx hb dB_36_4_3.2.1.2.2 rfl (lv_at hl 3 rfl) ?_
      have h_3 : vp_in x2_1 nn := in_I (by first | with_reducible assumption | omega) (by omega)
      refine va_iast hx hb hK.1 hP hD hS 0 0 rfl rfl (i := x2_1) h_3 dB_36_4_3.2.2.1.1 (fun H locs hP hD hS => ?_)
      obtain ⟨f_4, ef_4⟩ : ∃ g : Nat → Int32, g = upd c_l0_1 x2_1.toNatClampNeg a1 := ⟨_, rfl⟩
      refine pd_K (D := D) (cl := vwCl) (H := H) (A := A) [ai_ cy l0 nn f_4] (by rw [ef_4]; exact hP) (by rw [ef_4]; exact hD) (fun hP hD => ?_)
      obtain ⟨y_5, ey_5⟩ : ∃ y : Int32, y = x2_1 + 1 := ⟨_, rfl⟩
      have ty_5 : y_5.toInt = x2_1.toInt + (1 : Int32).toInt := by rw [ey_5]; exact addI (by omega) (by omega)
      refine lv_iinc (v := y_5) (lv' := [(2, .int y_5), (3, .int (nI nn)), (0, .ref l0), (1, .int a1)]) hx hb dB_36_4_3.2.2.1.2 hl (k := 1) rfl (by rw [ey_5]; rfl) (by decide) rfl (fun ls hl => ?_)
      refine lv_goto (tgt := 5) hx hb dB_36_4_3.2.2.2.1 (by decide) ?_
      exact ih_1 y_5 f_4 _ _ _ (by omega) (by first | with_reducible assumption | omega | assumption) (by first | with_reducible assumption | omega | assumption) (by first | exact fill_st (by assumption) (by assumption) (by omega) (by omega) | (intro j hj; omega)) ⟨hP, hD⟩ hS (lv_sub hl [1, 0, 2, 3] rfl)

set_option maxHeartbeats 4000000 in
set_option maxRecDepth 100000 in
theorem c_X11_isMapNumber (l : Launch) (D : va_G) (cy : Nat → ClassId) (sz : Nat) (a1 : Int32) : Met l yX11_isMapNumber wsX11_isMapNumber ({ frames := 0, cells := 0, slots := 0, locals := 0 }) (va_Pc [.int a1] (fun U => U.heap.size = sz ∧ va_P D vwCl [] U.heap ∧ kk_ D cy U ∧ va_D (fun _ => True) [])) (va_Qi (fun (r : Int32) (_ : Unit) => ((0 ≤ a1.toInt ∧ a1.toInt < 4) ∧ r = 1) ∨ ((¬ (0 ≤ a1.toInt ∧ a1.toInt < 4)) ∧ r = 0)) (fun (_ : Unit) (_ : State) => True) (va_A [] sz)) 0 0 (va_A [] sz) := by
  refine ofQ (cc := cX11_isMapNumber) (maxL := 1) (ret := (some .boolean)) (by decide) rfl ?_
  intro p e s m args below meth c s₁ Q hQ B hml hv
  obtain ⟨rfl, hsz, hP, hK, hD0⟩ := hv
  have hx := B.exec
  have hb := B.bytes
  have hr := B.returns
  have hts := atoms_spec (ws := wsX11_isMapNumber) B.pre
  have hown : s.vm.findClass RX11 = some m.cls := by have h_ := findClass_of_methodNamed B.named; exact h_
  have hlocks := B.notSynchronized
  subst hsz
  have hD : va_D (va_A [] s.heap.size) [] := dd_nil
  generalize hAe : va_A [] s.heap.size = A at hD hQ
  have hA : ∀ q : Nat, s.heap.size ≤ q → A q := fun q h => by rw [← hAe]; exact Or.inr h
  have hS : va_S A s.heap s.heap [] := va_S.rf
  have hl := lv_entry ([.int a1]) (n := 1) (Nat.le_of_ble_eq_true rfl)
  rw [lg_entry_eq]
  generalize (lg_sl ([.int a1]) ++ List.replicate (1 - (lg_sl ([.int a1])).length) Slot.unset).toArray = ls at hl ⊢
  have hl : lv_has ls 1 [(0, .int a1)] := hl
  have z0 : (0 : Int32).toInt = 0 := by decide
  have z1 : (1 : Int32).toInt = 1 := by decide
  have z4 : (4 : Int32).toInt = 4 := by decide
  refine lv_iload_n hx hb dB_36_3_23.1.1.1 rfl (lv_at hl 0 rfl) ?_
  refine lv_if_lt (tgt := 13) hx hb dB_36_3_23.1.1.2 (by decide) (fun c_1 => ?_) (fun c_1 => ?_)
  · have t_1 : a1.toInt < (0 : Int32).toInt := Int32.lt_iff_toInt_lt.mp c_1
    refine lv_iconst (v := 0) hx hb dB_36_3_23.2.2.2.1 (by decide) ?_
    rw [hQ]
    exact W.zret (ty := .boolean) (v := 0) hx hb hr (by decide) (fun t ht hW => ⟨⟨0, (), rfl, Or.inr (⟨by omega, rfl⟩), trivial⟩, hS.F ht⟩) hS.2.2 dB_36_3_23.2.2.2.2
  · have t_1 : ¬ a1.toInt < (0 : Int32).toInt := fun h => c_1 (Int32.lt_iff_toInt_lt.mpr h)
    refine lv_iload_n hx hb dB_36_3_23.1.2.1 rfl (lv_at hl 0 rfl) ?_
    refine lv_iconst (v := 4) hx hb dB_36_3_23.1.2.2 (by decide) ?_
    refine lv_icmp_ge (tgt := 13) hx hb dB_36_3_23.2.1.1 (by decide) (fun c_2 => ?_) (fun c_2 => ?_)
    · have t_2 : (4 : Int32).toInt ≤ a1.toInt := Int32.le_iff_toInt_le.mp c_2
      refine lv_iconst (v := 0) hx hb dB_36_3_23.2.2.2.1 (by decide) ?_
      rw [hQ]
      exact W.zret (ty := .boolean) (v := 0) hx hb hr (by decide) (fun t ht hW => ⟨⟨0, (), rfl, Or.inr (⟨by omega, rfl⟩), trivial⟩, hS.F ht⟩) hS.2.2 dB_36_3_23.2.2.2.2
    · have t_2 : ¬ (4 : Int32).toInt ≤ a1.toInt := fun h => c_2 (Int32.le_iff_toInt_le.mpr h)
      refine lv_iconst (v := 1) hx hb dB_36_3_23.2.1.2 (by decide) ?_
      refine lv_goto (tgt := 14) hx hb dB_36_3_23.2.2.1 (by decide) ?_
      rw [hQ]
      exact W.zret (ty := .boolean) (v := 1) hx hb hr (by decide) (fun t ht hW => ⟨⟨1, (), rfl, Or.inl (⟨by omega, rfl⟩), trivial⟩, hS.F ht⟩) hS.2.2 dB_36_3_23.2.2.2.2

set_option maxHeartbeats 4000000 in
set_option maxRecDepth 100000 in
theorem c_X11_isMapKind (l : Launch) (D : va_G) (cy : Nat → ClassId) (sz : Nat) (a1 : Int32) : Met l yX11_isMapKind wsX11_isMapKind ({ frames := 0, cells := 0, slots := 0, locals := 0 }) (va_Pc [.int a1] (fun U => U.heap.size = sz ∧ va_P D vwCl [] U.heap ∧ kk_ D cy U ∧ va_D (fun _ => True) [])) (va_Qi (fun (r : Int32) (_ : Unit) => ((0 ≤ a1.toInt ∧ a1.toInt < 3) ∧ r = 1) ∨ ((¬ (0 ≤ a1.toInt ∧ a1.toInt < 3)) ∧ r = 0)) (fun (_ : Unit) (_ : State) => True) (va_A [] sz)) 0 0 (va_A [] sz) := by
  refine ofQ (cc := cX11_isMapKind) (maxL := 1) (ret := (some .boolean)) (by decide) rfl ?_
  intro p e s m args below meth c s₁ Q hQ B hml hv
  obtain ⟨rfl, hsz, hP, hK, hD0⟩ := hv
  have hx := B.exec
  have hb := B.bytes
  have hr := B.returns
  have hts := atoms_spec (ws := wsX11_isMapKind) B.pre
  have hown : s.vm.findClass RX11 = some m.cls := by have h_ := findClass_of_methodNamed B.named; exact h_
  have hlocks := B.notSynchronized
  subst hsz
  have hD : va_D (va_A [] s.heap.size) [] := dd_nil
  generalize hAe : va_A [] s.heap.size = A at hD hQ
  have hA : ∀ q : Nat, s.heap.size ≤ q → A q := fun q h => by rw [← hAe]; exact Or.inr h
  have hS : va_S A s.heap s.heap [] := va_S.rf
  have hl := lv_entry ([.int a1]) (n := 1) (Nat.le_of_ble_eq_true rfl)
  rw [lg_entry_eq]
  generalize (lg_sl ([.int a1]) ++ List.replicate (1 - (lg_sl ([.int a1])).length) Slot.unset).toArray = ls at hl ⊢
  have hl : lv_has ls 1 [(0, .int a1)] := hl
  have z0 : (0 : Int32).toInt = 0 := by decide
  have z1 : (1 : Int32).toInt = 1 := by decide
  have z3 : (3 : Int32).toInt = 3 := by decide
  refine lv_iload_n hx hb dB_36_3_22.1.1.1 rfl (lv_at hl 0 rfl) ?_
  refine lv_if_lt (tgt := 13) hx hb dB_36_3_22.1.1.2 (by decide) (fun c_1 => ?_) (fun c_1 => ?_)
  · have t_1 : a1.toInt < (0 : Int32).toInt := Int32.lt_iff_toInt_lt.mp c_1
    refine lv_iconst (v := 0) hx hb dB_36_3_22.2.2.2.1 (by decide) ?_
    rw [hQ]
    exact W.zret (ty := .boolean) (v := 0) hx hb hr (by decide) (fun t ht hW => ⟨⟨0, (), rfl, Or.inr (⟨by omega, rfl⟩), trivial⟩, hS.F ht⟩) hS.2.2 dB_36_3_22.2.2.2.2
  · have t_1 : ¬ a1.toInt < (0 : Int32).toInt := fun h => c_1 (Int32.lt_iff_toInt_lt.mpr h)
    refine lv_iload_n hx hb dB_36_3_22.1.2.1 rfl (lv_at hl 0 rfl) ?_
    refine lv_iconst (v := 3) hx hb dB_36_3_22.1.2.2 (by decide) ?_
    refine lv_icmp_ge (tgt := 13) hx hb dB_36_3_22.2.1.1 (by decide) (fun c_2 => ?_) (fun c_2 => ?_)
    · have t_2 : (3 : Int32).toInt ≤ a1.toInt := Int32.le_iff_toInt_le.mp c_2
      refine lv_iconst (v := 0) hx hb dB_36_3_22.2.2.2.1 (by decide) ?_
      rw [hQ]
      exact W.zret (ty := .boolean) (v := 0) hx hb hr (by decide) (fun t ht hW => ⟨⟨0, (), rfl, Or.inr (⟨by omega, rfl⟩), trivial⟩, hS.F ht⟩) hS.2.2 dB_36_3_22.2.2.2.2
    · have t_2 : ¬ (3 : Int32).toInt ≤ a1.toInt := fun h => c_2 (Int32.le_iff_toInt_le.mpr h)
      refine lv_iconst (v := 1) hx hb dB_36_3_22.2.1.2 (by decide) ?_
      refine lv_goto (tgt := 14) hx hb dB_36_3_22.2.2.1 (by decide) ?_
      rw [hQ]
      exact W.zret (ty := .boolean) (v := 1) hx hb hr (by decide) (fun t ht hW => ⟨⟨1, (), rfl, Or.inl (⟨by omega, rfl⟩), trivial⟩, hS.F ht⟩) hS.2.2 dB_36_3_22.2.2.2.2

set_option maxHeartbeats 4000000 in
set_option maxRecDepth 100000 in
theorem c_X11_mapRefusal (l : Launch) (D : va_G) (cy : Nat → ClassId) (sz : Nat) (a1 : Int32) (a2 : Int32) (a3 : Int32) : Met l yX11_mapRefusal wsX11_mapRefusal ({ frames := 1, cells := 0, slots := 0, locals := 20 }) (va_Pc [.int a1, .int a2, .int a3] (fun U => U.heap.size = sz ∧ va_P D vwCl [] U.heap ∧ kk_ D cy U ∧ va_D (fun _ => True) [])) (va_Qi (fun (r : Int32) (_ : Unit) => ((¬ ((0 ≤ a1.toInt ∧ a1.toInt < 4) ∧ (0 ≤ a2.toInt ∧ a2.toInt < 3) ∧ a3.toInt ≤ 6)) ∧ r = (-1)) ∨ ((((0 ≤ a1.toInt ∧ a1.toInt < 4) ∧ (0 ≤ a2.toInt ∧ a2.toInt < 3) ∧ a3.toInt ≤ 6) ∧ a3.toInt < 0) ∧ r = (-15)) ∨ ((((0 ≤ a1.toInt ∧ a1.toInt < 4) ∧ (0 ≤ a2.toInt ∧ a2.toInt < 3) ∧ a3.toInt ≤ 6) ∧ 0 ≤ a3.toInt) ∧ r = 0)) (fun (_ : Unit) (_ : State) => True) (va_A [] sz)) 0 0 (va_A [] sz) := by
  refine ofQ (cc := cX11_mapRefusal) (maxL := 3) (ret := (some .int)) (by decide) rfl ?_
  intro p e s m args below meth c s₁ Q hQ B hml hv
  obtain ⟨rfl, hsz, hP, hK, hD0⟩ := hv
  have hx := B.exec
  have hb := B.bytes
  have hr := B.returns
  have hts := atoms_spec (ws := wsX11_mapRefusal) B.pre
  have hown : s.vm.findClass RX11 = some m.cls := by have h_ := findClass_of_methodNamed B.named; exact h_
  have hlocks := B.notSynchronized
  subst hsz
  have hD : va_D (va_A [] s.heap.size) [] := dd_nil
  generalize hAe : va_A [] s.heap.size = A at hD hQ
  have hA : ∀ q : Nat, s.heap.size ≤ q → A q := fun q h => by rw [← hAe]; exact Or.inr h
  have hS : va_S A s.heap s.heap [] := va_S.rf
  have hl := lv_entry ([.int a1, .int a2, .int a3]) (n := 3) (Nat.le_of_ble_eq_true rfl)
  rw [lg_entry_eq]
  generalize (lg_sl ([.int a1, .int a2, .int a3]) ++ List.replicate (3 - (lg_sl ([.int a1, .int a2, .int a3])).length) Slot.unset).toArray = ls at hl ⊢
  have hl : lv_has ls 3 [(0, .int a1), (1, .int a2), (2, .int a3)] := hl
  have zm15 : ((-15) : Int32).toInt = -15 := by decide
  have zm1 : ((-1) : Int32).toInt = -1 := by decide
  have z0 : (0 : Int32).toInt = 0 := by decide
  have z6 : (6 : Int32).toInt = 6 := by decide
  refine lv_iload_n hx hb dB_36_3_32.1.1.1.1 rfl (lv_at hl 0 rfl) ?_
  refine ct_R hP hD0 [] [] (by decide) rfl (fun hPc hDw => ?_)
  have hFc := va_free (wc := []) hD hS hA [] rfl
  refine va_calli (va_runS (As := [.int a1]) (rest := []) ⟨hx, hb, hml, hown, hts⟩ (c_X11_isMapNumber l D cy s.heap.size a1) (va_cwS 1 hts gX11_mapRefusal_X11_isMapNumber rfl rfl rfl hd_X11_isMapNumber ⟨Nat.le_of_ble_eq_true rfl, Nat.le_of_ble_eq_true rfl⟩) ⟨bl_, fun U hU hW => ⟨rfl, by rw [hU], by rw [hU]; exact hPc, kk_mv hW hK, hDw⟩⟩ rfl rfl hl.1 rfl (lv_room (Nat.le_of_ble_eq_true rfl)) dB_36_3_32.1.1.1.2 ⟨Nat.le_of_ble_eq_true rfl, Nat.le_of_ble_eq_true rfl⟩) hS (fun q _ h => hFc q h) hFc (fun r_1 u t H locs ht hvm hw hB hz1 hk1 hS => ?_)
  have hP : va_P D vwCl _ H := ro_keep hP hk1
  rcases hw with ⟨w_2, e_⟩ | ⟨w_2, e_⟩
  · have e_ := e_.symm
    subst e_
    refine lv_if_eq (tgt := 20) hx hb dB_36_3_32.1.1.2.1 (by decide) (fun c_3 => ?_) (fun c_3 => ?_)
    · exact absurd c_3 (by decide)
    · have _ := c_3
      refine lv_iload_n hx hb dB_36_3_32.1.1.2.2 rfl (lv_at hl 1 rfl) ?_
      refine ct_R hP hD0 [] [] (by decide) rfl (fun hPc hDw => ?_)
      have hFc := va_free (wc := []) hD hS hA [] rfl
      refine va_calli (va_runS (As := [.int a2]) (rest := []) ⟨hx, hb, hml, hown, hts⟩ (c_X11_isMapKind l D cy H.size a2) (va_cwS 1 hts gX11_mapRefusal_X11_isMapKind rfl rfl rfl hd_X11_isMapKind ⟨Nat.le_of_ble_eq_true rfl, Nat.le_of_ble_eq_true rfl⟩) ⟨bl_, fun U hU hW => ⟨rfl, by rw [hU], by rw [hU]; exact hPc, kk_mv hW hK, hDw⟩⟩ rfl rfl hl.1 rfl (lv_room (Nat.le_of_ble_eq_true rfl)) dB_36_3_32.1.2.1.1 ⟨Nat.le_of_ble_eq_true rfl, Nat.le_of_ble_eq_true rfl⟩) hS (fun q _ h => hFc q h) hFc (fun r_4 u t H locs ht hvm hw hB hz1 hk1 hS => ?_)
      have hP : va_P D vwCl _ H := ro_keep hP hk1
      rcases hw with ⟨w_5, e_⟩ | ⟨w_5, e_⟩
      · have e_ := e_.symm
        subst e_
        refine lv_if_eq (tgt := 20) hx hb dB_36_3_32.1.2.1.2 (by decide) (fun c_6 => ?_) (fun c_6 => ?_)
        · exact absurd c_6 (by decide)
        · have _ := c_6
          refine lv_iload_n hx hb dB_36_3_32.1.2.2.1 rfl (lv_at hl 2 rfl) ?_
          refine lv_bipush (v := 6) hx hb dB_36_3_32.1.2.2.2 (by decide) ?_
          refine lv_icmp_le (tgt := 22) hx hb dB_36_3_32.2.1.1.1 (by decide) (fun c_7 => ?_) (fun c_7 => ?_)
          · have t_7 : a3.toInt ≤ (6 : Int32).toInt := Int32.le_iff_toInt_le.mp c_7
            refine lv_iload_n hx hb dB_36_3_32.2.1.2.2 rfl (lv_at hl 2 rfl) ?_
            refine lv_if_ge (tgt := 31) hx hb dB_36_3_32.2.2.1.1 (by decide) (fun c_8 => ?_) (fun c_8 => ?_)
            · have t_8 : (0 : Int32).toInt ≤ a3.toInt := Int32.le_iff_toInt_le.mp c_8
              refine lv_iconst (v := 0) hx hb dB_36_3_32.2.2.2.2 (by decide) ?_
              rw [hQ]
              exact W.iret (v := 0) hx hb hr (fun t ht hW => ⟨⟨0, (), rfl, Or.inr (Or.inr (⟨by omega, rfl⟩)), trivial⟩, hS.F ht⟩) hS.2.2 dB_36_3_33
            · have t_8 : ¬ (0 : Int32).toInt ≤ a3.toInt := fun h => c_8 (Int32.le_iff_toInt_le.mpr h)
              refine lv_bipush (v := (-15)) hx hb dB_36_3_32.2.2.1.2 (by decide) ?_
              refine lv_goto (tgt := 32) hx hb dB_36_3_32.2.2.2.1 (by decide) ?_
              rw [hQ]
              exact W.iret (v := (-15)) hx hb hr (fun t ht hW => ⟨⟨(-15), (), rfl, Or.inr (Or.inl (⟨by omega, rfl⟩)), trivial⟩, hS.F ht⟩) hS.2.2 dB_36_3_33
          · have t_7 : ¬ a3.toInt ≤ (6 : Int32).toInt := fun h => c_7 (Int32.le_iff_toInt_le.mpr h)
            refine lv_iconst (v := (-1)) hx hb dB_36_3_32.2.1.1.2 (by decide) ?_
            rw [hQ]
            exact W.iret (v := (-1)) hx hb hr (fun t ht hW => ⟨⟨(-1), (), rfl, Or.inl (⟨by omega, rfl⟩), trivial⟩, hS.F ht⟩) hS.2.2 dB_36_3_32.2.1.2.1
      · have e_ := e_.symm
        subst e_
        refine lv_if_eq (tgt := 20) hx hb dB_36_3_32.1.2.1.2 (by decide) (fun c_9 => ?_) (fun c_9 => ?_)
        · have _ := c_9
          refine lv_iconst (v := (-1)) hx hb dB_36_3_32.2.1.1.2 (by decide) ?_
          rw [hQ]
          exact W.iret (v := (-1)) hx hb hr (fun t ht hW => ⟨⟨(-1), (), rfl, Or.inl (⟨by omega, rfl⟩), trivial⟩, hS.F ht⟩) hS.2.2 dB_36_3_32.2.1.2.1
        · exact absurd c_9 (by decide)
  · have e_ := e_.symm
    subst e_
    refine lv_if_eq (tgt := 20) hx hb dB_36_3_32.1.1.2.1 (by decide) (fun c_10 => ?_) (fun c_10 => ?_)
    · have _ := c_10
      refine lv_iconst (v := (-1)) hx hb dB_36_3_32.2.1.1.2 (by decide) ?_
      rw [hQ]
      exact W.iret (v := (-1)) hx hb hr (fun t ht hW => ⟨⟨(-1), (), rfl, Or.inl (⟨by omega, rfl⟩), trivial⟩, hS.F ht⟩) hS.2.2 dB_36_3_32.2.1.2.1
    · exact absurd c_10 (by decide)
end

section
/-- the row of the five kinds -/
noncomputable def kf_ (a b c d e : Nat) : Nat → Option Nat := fun i => if i = 0 then some a else if i = 1 then some b else if i = 2 then some c else if i = 3 then some d else if i = 4 then some e else none
theorem sp_5 {x : Int32} (h : 0 ≤ x.toInt ∧ x.toInt ≤ 4) : x = 0 ∨ x = 1 ∨ x = 2 ∨ x = 3 ∨ x = 4 := by
  have h1 : x.toInt = 0 ∨ x.toInt = 1 ∨ x.toInt = 2 ∨ x.toInt = 3 ∨ x.toInt = 4 := by omega
  rcases h1 with h | h | h | h | h
  · exact Or.inl (Int32.toInt_inj.mp h)
  · exact Or.inr (Or.inl (Int32.toInt_inj.mp h))
  · exact Or.inr (Or.inr (Or.inl (Int32.toInt_inj.mp h)))
  · exact Or.inr (Or.inr (Or.inr (Or.inl (Int32.toInt_inj.mp h))))
  · exact Or.inr (Or.inr (Or.inr (Or.inr (Int32.toInt_inj.mp h))))
theorem sw_6 (x : Int32) : (x.toInt < 0 ∨ 5 < x.toInt) ∨ x.toInt = 0 ∨ x.toInt = 1 ∨ x.toInt = 2 ∨ x.toInt = 3 ∨ x.toInt = 4 ∨ x.toInt = 5 := by omega

set_option maxHeartbeats 4000000 in
set_option maxRecDepth 100000 in
theorem c_X11_lineRefusal (l : Launch) (D : va_G) (cy : Nat → ClassId) (sz : Nat) (xo : Nat) (xk : Nat) (xn : Nat) (xc : Nat) (xh : Nat) (xt : Nat) (xw : Nat) (xm : Nat) (xp : Nat) (pf : Int32) (ph : Int32) (tr : Int64) (fi : Int32) (n1 : Nat) (n2 : Nat) (n3 : Nat) (n4 : Nat) (n5 : Nat) (vp : Int32) (vn : Int32) (a1 : Int64) (a2 : Int64) (a3 : Int64) (a4 : Int64) (a5 : Int64) (hvn : 0 ≤ vn.toInt ∧ vn.toInt ≤ 40) (hvp : 0 ≤ vp.toInt ∧ vp.toInt ≤ 12) : Met l yX11_lineRefusal wsX11_lineRefusal ({ frames := 2, cells := 0, slots := 0, locals := 46 }) (va_Pc [.ref xo, .long a1, .long a2, .long a3, .long a4, .long a5] (fun U => U.heap.size = sz ∧ va_P D vwCl [ob11_0_ xo xk xn xc xh xt xw xm xp pf ph tr fi, ob3_0_ xn vp vn n1 n2 n3 n4 n5] U.heap ∧ kk_ D cy U ∧ va_D (fun _ => True) [ob11_0_ xo xk xn xc xh xt xw xm xp pf ph tr fi, ob3_0_ xn vp vn n1 n2 n3 n4 n5])) (va_Qi (fun (r : Int32) (_ : Unit) => ((¬ ((0 ≤ a1.toInt ∧ a1.toInt ≤ 4) ∧ (0 ≤ a2.toInt ∧ a2.toInt < vp.toInt) ∧ (0 ≤ a3.toInt ∧ a3.toInt < vp.toInt) ∧ a2.toInt ≠ a3.toInt ∧ (0 ≤ a4.toInt ∧ a4.toInt ≤ 1000) ∧ (0 ≤ a5.toInt ∧ a5.toInt ≤ 100))) ∧ r = (-1)) ∨ ((((0 ≤ a1.toInt ∧ a1.toInt ≤ 4) ∧ (0 ≤ a2.toInt ∧ a2.toInt < vp.toInt) ∧ (0 ≤ a3.toInt ∧ a3.toInt < vp.toInt) ∧ a2.toInt ≠ a3.toInt ∧ (0 ≤ a4.toInt ∧ a4.toInt ≤ 1000) ∧ (0 ≤ a5.toInt ∧ a5.toInt ≤ 100)) ∧ vn.toInt = 40) ∧ r = (-3)) ∨ ((((0 ≤ a1.toInt ∧ a1.toInt ≤ 4) ∧ (0 ≤ a2.toInt ∧ a2.toInt < vp.toInt) ∧ (0 ≤ a3.toInt ∧ a3.toInt < vp.toInt) ∧ a2.toInt ≠ a3.toInt ∧ (0 ≤ a4.toInt ∧ a4.toInt ≤ 1000) ∧ (0 ≤ a5.toInt ∧ a5.toInt ≤ 100)) ∧ vn.toInt < 40) ∧ r = 0)) (fun (_ : Unit) (_ : State) => True) (va_A [] sz)) 0 0 (va_A [] sz) := by
  refine ofQ (cc := cX11_lineRefusal) (maxL := 11) (ret := (some .int)) (by decide) rfl ?_
  intro p e s m args below meth c s₁ Q hQ B hml hv
  obtain ⟨rfl, hsz, hP, hK, hD0⟩ := hv
  have hx := B.exec
  have hb := B.bytes
  have hr := B.returns
  have hts := atoms_spec (ws := wsX11_lineRefusal) B.pre
  have hown : s.vm.findClass RX11 = some m.cls := by have h_ := findClass_of_methodNamed B.named; exact h_
  have hlocks := B.notSynchronized
  subst hsz
  have hD : va_D (va_A [] s.heap.size) [] := dd_nil
  generalize hAe : va_A [] s.heap.size = A at hD hQ
  have hA : ∀ q : Nat, s.heap.size ≤ q → A q := fun q h => by rw [← hAe]; exact Or.inr h
  have hS : va_S A s.heap s.heap [] := va_S.rf
  have hl := lv_entry ([.ref xo, .long a1, .long a2, .long a3, .long a4, .long a5]) (n := 11) (Nat.le_of_ble_eq_true rfl)
  rw [lg_entry_eq]
  generalize (lg_sl ([.ref xo, .long a1, .long a2, .long a3, .long a4, .long a5]) ++ List.replicate (11 - (lg_sl ([.ref xo, .long a1, .long a2, .long a3, .long a4, .long a5])).length) Slot.unset).toArray = ls at hl ⊢
  have hl : lv_has ls 11 [(0, .ref xo), (1, .long a1), (3, .long a2), (5, .long a3), (7, .long a4), (9, .long a5)] := hl
  have zm3 : ((-3) : Int32).toInt = -3 := by decide
  have zm1 : ((-1) : Int32).toInt = -1 := by decide
  have z0 : (0 : Int32).toInt = 0 := by decide
  have zl0 : (0 : Int64).toInt = 0 := by decide
  have zl5 : (5 : Int64).toInt = 5 := by decide
  have z40 : (40 : Int32).toInt = 40 := by decide
  have zl100 : (100 : Int64).toInt = 100 := by decide
  have zl1000 : (1000 : Int64).toInt = 1000 := by decide
  refine lv_lload_n hx hb dB_36_3_27.1.1.1.1 rfl (lv_at hl 1 rfl) ?_
  refine lv_lconst (v := 0) hx hb dB_36_3_27.1.1.1.2 (by decide) ?_
  refine W.lcmp hx hb dB_36_3_27.1.1.2.1 ?_
  refine lv_if_lt (tgt := 27) hx hb dB_36_3_27.1.1.2.2 (by decide) (fun c_1 => ?_) (fun c_1 => ?_)
  · have t_1 : a1.toInt < (0 : Int64).toInt := Int64.lt_iff_toInt_lt.mp ((lg_cmp_lt a1 0).mp c_1)
    refine lv_iconst (v := (-1)) hx hb dB_36_3_27.2.2.2.1 (by decide) ?_
    rw [hQ]
    exact W.iret (v := (-1)) hx hb hr (fun t ht hW => ⟨⟨(-1), (), rfl, Or.inl (⟨by omega, rfl⟩), trivial⟩, hS.F ht⟩) hS.2.2 dB_36_3_27.2.2.2.2
  · have t_1 : ¬ a1.toInt < (0 : Int64).toInt := fun h => c_1 ((lg_cmp_lt a1 0).mpr (Int64.lt_iff_toInt_lt.mpr h))
    refine lv_lload_n hx hb dB_36_3_27.1.2.1.1 rfl (lv_at hl 1 rfl) ?_
    refine lv_ldc2 (v := 5) hx hb hown (hts (.constantLong RX11 300 (5)) (List.mem_of_getElem? (i := 1) rfl)) dB_36_3_27.1.2.1.2 ?_
    refine W.lcmp hx hb dB_36_3_27.1.2.2.1 ?_
    refine lv_if_ge (tgt := 27) hx hb dB_36_3_27.1.2.2.2 (by decide) (fun c_2 => ?_) (fun c_2 => ?_)
    · have t_2 : (5 : Int64).toInt ≤ a1.toInt := Int64.le_iff_toInt_le.mp ((lg_cmp_ge a1 5).mp c_2)
      refine lv_iconst (v := (-1)) hx hb dB_36_3_27.2.2.2.1 (by decide) ?_
      rw [hQ]
      exact W.iret (v := (-1)) hx hb hr (fun t ht hW => ⟨⟨(-1), (), rfl, Or.inl (⟨by omega, rfl⟩), trivial⟩, hS.F ht⟩) hS.2.2 dB_36_3_27.2.2.2.2
    · have t_2 : ¬ (5 : Int64).toInt ≤ a1.toInt := fun h => c_2 ((lg_cmp_ge a1 5).mpr (Int64.le_iff_toInt_le.mpr h))
      refine lv_aload_n hx hb dB_36_3_27.2.1.1.1 rfl (lv_at hl 0 rfl) ?_
      refine va_get (ci := 11) (v := .ref xn) (C := RX11) (T := TX11) (N := 12) hx hb hts (fun _ h => List.mem_cons_of_mem _ (List.mem_append_left _ (List.mem_append_right _ h))) hown hK.1 hP 0 rfl rfl 1 (by decide) (hts (.fieldLink RX11 31 "CutAtlas" "net" "LCutAtlas$Net;") (List.mem_of_getElem? (i := 2) rfl)) (fun _ h9 => h9) rfl dB_36_3_27.2.1.1.2 ?_
      refine lv_lload_n hx hb dB_36_3_27.2.1.2.1 rfl (lv_at hl 2 rfl) ?_
      refine lv_lload hx hb dB_36_3_27.2.1.2.2 (lv_at hl 3 rfl) ?_
      refine ct_R hP hD0 [ob3_0_ xn vp vn n1 n2 n3 n4 n5] [1] (by decide) rfl (fun hPc hDw => ?_)
      have hFc := va_free (wc := []) hD hS hA [] rfl
      refine va_calli (va_runV (As := [.long a2, .long a3]) (rest := []) ⟨hx, hb, hml, hown, hts⟩ (c_X3_hasPair l D cy s.heap.size xn n1 n2 n3 n4 n5 vp vn a2 a3) (cwV 2 hts gX11_lineRefusal_X3_hasPair rfl rfl rfl ⟨rfl, hd_X3_hasPair⟩ ⟨Nat.le_of_ble_eq_true rfl, Nat.le_of_ble_eq_true rfl⟩) ⟨bl_, va_recvX hK.1 hP (ci := 3) (q0 := 1) rfl rfl, fun U hU hW => ⟨rfl, by rw [hU], by rw [hU]; exact hPc, kk_mv hW hK, hDw⟩⟩ rfl rfl hl.1 rfl (lv_room (Nat.le_of_ble_eq_true rfl)) dB_36_3_27.2.2.1.1 ⟨Nat.le_of_ble_eq_true rfl, Nat.le_of_ble_eq_true rfl⟩) hS (fun q _ h => hFc q h) hFc (fun r_3 u t H locs ht hvm hw hB hz1 hk1 hS => ?_)
      have hP : va_P D vwCl _ H := ro_keep hP hk1
      rcases hw with ⟨w_4, e_⟩ | ⟨w_4, e_⟩
      · have e_ := e_.symm
        subst e_
        refine lv_if_ne (tgt := 29) hx hb dB_36_3_27.2.2.1.2 (by decide) (fun c_5 => ?_) (fun c_5 => ?_)
        · have _ := c_5
          refine lv_lload hx hb dB_36_3_28.1.1.1.1 (lv_at hl 4 rfl) ?_
          refine lv_lconst (v := 0) hx hb dB_36_3_28.1.1.1.2 (by decide) ?_
          refine W.lcmp hx hb dB_36_3_28.1.1.2.1 ?_
          refine lv_if_lt (tgt := 61) hx hb dB_36_3_28.1.1.2.2 (by decide) (fun c_6 => ?_) (fun c_6 => ?_)
          · have t_6 : a4.toInt < (0 : Int64).toInt := Int64.lt_iff_toInt_lt.mp ((lg_cmp_lt a4 0).mp c_6)
            refine lv_iconst (v := (-1)) hx hb dB_36_3_29.1.1.1 (by decide) ?_
            rw [hQ]
            exact W.iret (v := (-1)) hx hb hr (fun t ht hW => ⟨⟨(-1), (), rfl, Or.inl (⟨by omega, rfl⟩), trivial⟩, hS.F ht⟩) hS.2.2 dB_36_3_29.1.1.2
          · have t_6 : ¬ a4.toInt < (0 : Int64).toInt := fun h => c_6 ((lg_cmp_lt a4 0).mpr (Int64.lt_iff_toInt_lt.mpr h))
            refine lv_lload hx hb dB_36_3_28.1.2.1.1 (lv_at hl 4 rfl) ?_
            refine lv_ldc2 (v := 1000) hx hb hown (hts (.constantLong RX11 302 (1000)) (List.mem_of_getElem? (i := 3) rfl)) dB_36_3_28.1.2.1.2 ?_
            refine W.lcmp hx hb dB_36_3_28.1.2.2.1 ?_
            refine lv_if_gt (tgt := 61) hx hb dB_36_3_28.1.2.2.2 (by decide) (fun c_7 => ?_) (fun c_7 => ?_)
            · have t_7 : (1000 : Int64).toInt < a4.toInt := Int64.lt_iff_toInt_lt.mp ((lg_cmp_gt a4 1000).mp c_7)
              refine lv_iconst (v := (-1)) hx hb dB_36_3_29.1.1.1 (by decide) ?_
              rw [hQ]
              exact W.iret (v := (-1)) hx hb hr (fun t ht hW => ⟨⟨(-1), (), rfl, Or.inl (⟨by omega, rfl⟩), trivial⟩, hS.F ht⟩) hS.2.2 dB_36_3_29.1.1.2
            · have t_7 : ¬ (1000 : Int64).toInt < a4.toInt := fun h => c_7 ((lg_cmp_gt a4 1000).mpr (Int64.lt_iff_toInt_lt.mpr h))
              refine lv_lload hx hb dB_36_3_28.2.1.1.1 (lv_at hl 5 rfl) ?_
              refine lv_lconst (v := 0) hx hb dB_36_3_28.2.1.1.2 (by decide) ?_
              refine W.lcmp hx hb dB_36_3_28.2.1.2.1 ?_
              refine lv_if_lt (tgt := 61) hx hb dB_36_3_28.2.1.2.2 (by decide) (fun c_8 => ?_) (fun c_8 => ?_)
              · have t_8 : a5.toInt < (0 : Int64).toInt := Int64.lt_iff_toInt_lt.mp ((lg_cmp_lt a5 0).mp c_8)
                refine lv_iconst (v := (-1)) hx hb dB_36_3_29.1.1.1 (by decide) ?_
                rw [hQ]
                exact W.iret (v := (-1)) hx hb hr (fun t ht hW => ⟨⟨(-1), (), rfl, Or.inl (⟨by omega, rfl⟩), trivial⟩, hS.F ht⟩) hS.2.2 dB_36_3_29.1.1.2
              · have t_8 : ¬ a5.toInt < (0 : Int64).toInt := fun h => c_8 ((lg_cmp_lt a5 0).mpr (Int64.lt_iff_toInt_lt.mpr h))
                refine lv_lload hx hb dB_36_3_28.2.2.1.1 (lv_at hl 5 rfl) ?_
                refine lv_ldc2 (v := 100) hx hb hown (hts (.constantLong RX11 304 (100)) (List.mem_of_getElem? (i := 4) rfl)) dB_36_3_28.2.2.1.2 ?_
                refine W.lcmp hx hb dB_36_3_28.2.2.2.1 ?_
                refine lv_if_le (tgt := 63) hx hb dB_36_3_28.2.2.2.2 (by decide) (fun c_9 => ?_) (fun c_9 => ?_)
                · have t_9 : a5.toInt ≤ (100 : Int64).toInt := Int64.le_iff_toInt_le.mp ((lg_cmp_le a5 100).mp c_9)
                  refine lv_aload_n hx hb dB_36_3_29.1.2.1 rfl (lv_at hl 0 rfl) ?_
                  refine va_get (ci := 11) (v := .ref xn) (C := RX11) (T := TX11) (N := 12) hx hb hts (fun _ h => List.mem_cons_of_mem _ (List.mem_append_left _ (List.mem_append_right _ h))) hown hK.1 hP 0 rfl rfl 1 (by decide) (hts (.fieldLink RX11 31 "CutAtlas" "net" "LCutAtlas$Net;") (List.mem_of_getElem? (i := 2) rfl)) (fun _ h9 => h9) rfl dB_36_3_29.1.2.2.1 ?_
                  refine va_get (ci := 3) (v := .int vn) (C := RX3) (T := TX3) (N := 7) hx hb hts (fun _ h => List.mem_cons_of_mem _ (List.mem_append_right _ h)) hown hK.1 hP 1 rfl rfl 1 (by decide) (hts (.fieldLink RX11 294 "CutAtlas$Net" "lines" "I") (List.mem_of_getElem? (i := 5) rfl)) (fun _ h9 => h9) rfl dB_36_3_29.1.2.2.2 ?_
                  refine lv_bipush (v := 40) hx hb dB_36_3_29.2.1.1 (by decide) ?_
                  refine lv_icmp_lt (tgt := 80) hx hb dB_36_3_29.2.1.2.1 (by decide) (fun c_10 => ?_) (fun c_10 => ?_)
                  · have t_10 : vn.toInt < (40 : Int32).toInt := Int32.lt_iff_toInt_lt.mp c_10
                    refine lv_iconst (v := 0) hx hb dB_36_3_29.2.2.2.1 (by decide) ?_
                    rw [hQ]
                    exact W.iret (v := 0) hx hb hr (fun t ht hW => ⟨⟨0, (), rfl, Or.inr (Or.inr (⟨by omega, rfl⟩)), trivial⟩, hS.F ht⟩) hS.2.2 dB_36_3_29.2.2.2.2
                  · have t_10 : ¬ vn.toInt < (40 : Int32).toInt := fun h => c_10 (Int32.lt_iff_toInt_lt.mpr h)
                    refine lv_bipush (v := (-3)) hx hb dB_36_3_29.2.1.2.2 (by decide) ?_
                    refine lv_goto (tgt := 81) hx hb dB_36_3_29.2.2.1 (by decide) ?_
                    rw [hQ]
                    exact W.iret (v := (-3)) hx hb hr (fun t ht hW => ⟨⟨(-3), (), rfl, Or.inr (Or.inl (⟨by omega, rfl⟩)), trivial⟩, hS.F ht⟩) hS.2.2 dB_36_3_29.2.2.2.2
                · have t_9 : ¬ a5.toInt ≤ (100 : Int64).toInt := fun h => c_9 ((lg_cmp_le a5 100).mpr (Int64.le_iff_toInt_le.mpr h))
                  refine lv_iconst (v := (-1)) hx hb dB_36_3_29.1.1.1 (by decide) ?_
                  rw [hQ]
                  exact W.iret (v := (-1)) hx hb hr (fun t ht hW => ⟨⟨(-1), (), rfl, Or.inl (⟨by omega, rfl⟩), trivial⟩, hS.F ht⟩) hS.2.2 dB_36_3_29.1.1.2
        · exact absurd c_5 (by decide)
      · have e_ := e_.symm
        subst e_
        refine lv_if_ne (tgt := 29) hx hb dB_36_3_27.2.2.1.2 (by decide) (fun c_11 => ?_) (fun c_11 => ?_)
        · exact absurd c_11 (by decide)
        · have _ := c_11
          refine lv_iconst (v := (-1)) hx hb dB_36_3_27.2.2.2.1 (by decide) ?_
          rw [hQ]
          exact W.iret (v := (-1)) hx hb hr (fun t ht hW => ⟨⟨(-1), (), rfl, Or.inl (⟨by omega, rfl⟩), trivial⟩, hS.F ht⟩) hS.2.2 dB_36_3_27.2.2.2.2

set_option maxHeartbeats 4000000 in
set_option maxRecDepth 100000 in
theorem c_X11_trace (l : Launch) (D : va_G) (cy : Nat → ClassId) (sz : Nat) (xo : Nat) (xk : Nat) (xn : Nat) (xc : Nat) (xh : Nat) (xt : Nat) (xw : Nat) (xm : Nat) (xp : Nat) (pf : Int32) (ph : Int32) (tr : Int64) (fi : Int32) (n1 : Nat) (n2 : Nat) (n3 : Nat) (n4 : Nat) (n5 : Nat) (vp : Int32) (vn : Int32) : Met l yX11_trace wsX11_trace ({ frames := 0, cells := 0, slots := 0, locals := 0 }) (va_Pc [.ref xo] (fun U => U.heap.size = sz ∧ va_P D vwCl [ob11_0_ xo xk xn xc xh xt xw xm xp pf ph tr fi, ob3_0_ xn vp vn n1 n2 n3 n4 n5] U.heap ∧ kk_ D cy U ∧ va_D (fun _ => True) [ob11_0_ xo xk xn xc xh xt xw xm xp pf ph tr fi, ob3_0_ xn vp vn n1 n2 n3 n4 n5])) (va_Ql (fun (r : Int64) (_ : Unit) => True) (fun (_ : Unit) (_ : State) => True) (va_A [] sz)) 0 0 (va_A [] sz) := by
  refine ofQ (cc := cX11_trace) (maxL := 1) (ret := (some .long)) (by decide) rfl ?_
  intro p e s m args below meth c s₁ Q hQ B hml hv
  obtain ⟨rfl, hsz, hP, hK, hD0⟩ := hv
  have hx := B.exec
  have hb := B.bytes
  have hr := B.returns
  have hts := atoms_spec (ws := wsX11_trace) B.pre
  have hown : s.vm.findClass RX11 = some m.cls := by have h_ := findClass_of_methodNamed B.named; exact h_
  have hlocks := B.notSynchronized
  subst hsz
  have hD : va_D (va_A [] s.heap.size) [] := dd_nil
  generalize hAe : va_A [] s.heap.size = A at hD hQ
  have hA : ∀ q : Nat, s.heap.size ≤ q → A q := fun q h => by rw [← hAe]; exact Or.inr h
  have hS : va_S A s.heap s.heap [] := va_S.rf
  have hl := lv_entry ([.ref xo]) (n := 1) (Nat.le_of_ble_eq_true rfl)
  rw [lg_entry_eq]
  generalize (lg_sl ([.ref xo]) ++ List.replicate (1 - (lg_sl ([.ref xo])).length) Slot.unset).toArray = ls at hl ⊢
  have hl : lv_has ls 1 [(0, .ref xo)] := hl
  refine lv_aload_n hx hb dB_36_3_65.1 rfl (lv_at hl 0 rfl) ?_
  refine va_get (ci := 11) (v := .long tr) (C := RX11) (T := TX11) (N := 12) hx hb hts (fun _ h => List.mem_cons_of_mem _ (List.mem_append_right _ h)) hown hK.1 hP 0 rfl rfl 10 (by decide) (hts (.fieldLink RX11 87 "CutAtlas" "traced" "J") (List.mem_of_getElem? (i := 1) rfl)) (fun _ h9 => h9) rfl dB_36_3_65.2.1 ?_
  rw [hQ]
  exact W.lret (v := tr) hx hb hr (fun t ht hW => ⟨⟨tr, (), rfl, trivial, trivial⟩, hS.F ht⟩) hS.2.2 dB_36_3_65.2.2
end

section
section DEEP
variable {p : Program} {l : Launch} {e : Env} {R : Room} {s : State} {m : MethodId} {args : Array Value} {below : List Frame} {meth : Method} {c : Code} {H : Heap} {locs : List Loc} {cells slots : Nat}
variable {y : MethodName} {bytes cc : ByteArray} {maxL nL mc ms n index : Nat} {ret : Option FieldType} {ws : List Cond} {rm : Room} {Pc : Array Value → State → Prop} {Qc : Array Value → State → Outcome → State → Prop} {free : Addr → Prop} {Ts : List Cond} {own C : String} {b : Addr} {As rest : List Value} {g : JFrame}
/-- a call with more than eight words below its arguments -/
theorem va_runVW {W : Nat} (S : CallFix p m c cc nL s args Ts own) (hM : Met l y ws rm Pc Qc mc ms free) (cw : CallW R s args own C index y bytes maxL ret ws rm mc ms n) (hdeep : W + (maxL + 11) + rm.locals ≤ R.locals) (hp : PreV s H C b Pc As)
    (hg : g.method = m) (hn : As.length = n) (hsize : g.locals.size = nL) (hstack : g.stack = As.reverse ++ .ref b :: rest) (hW : 2 * g.monitorRoom + (rest.map fun v => v.category).sum ≤ W) (hdg : decode cc g.pc = .ok (.invokevirtual index, 3)) (hf : cells + mc ≤ R.cells ∧ slots + ms ≤ R.slots) :
    va_Run p l e R s m args below meth c H locs cells slots mc ms g rest (Qc (Value.ref b :: As).toArray) (free) := by
  have hK : Back l R p e below s args y 3 W (PreOf R mc ms Pc) (PostOf Qc mc ms free) := by
    obtain ⟨hrc, hrs, hfr, -, hws, hcw, -, hini, -⟩ := cw.1
    exact back_of (bytes := bytes) (maxL := maxL) (ret := ret) hM hp.1 hrc hrs hfr hdeep hws hcw (fun a' U hW => word_at hW (Or.inl (by first | rfl | simp [Cond.onTables, Cond.keeps, Cond.steady])) hini)
  obtain ⟨⟨-, -, -, -, -, -, hcode, -, hy, hlen, hl⟩, hin, hse⟩ := cw
  obtain ⟨hx, hb, hml, ho, -⟩ := S
  obtain ⟨-, ⟨cellB, hcB, hoB, hclB⟩, hPc⟩ := hp
  intro T hT X
  obtain ⟨v, vm₁, ⟨U', l2, c2, s2⟩, hW₁, X', ⟨g', mk, t, L, e1, e2, hq, h1, hL, h2, h3⟩, st⟩ := callV X hx (C := C) (bytes := bytes) (maxL := maxL) (ret := ret) ho hl hin hse hcode hy hK (by rw [hT]; exact hcB) hoB hclB hg (hsize.trans hml.symm) (argsL := As) (rest := rest) (fun sig h => hn.trans (hlen sig h)) hstack hW (by rw [hb]; exact hdg)
    (fun vm₁ hW₁ => ⟨hf.1, hf.2, hPc (T.setVm vm₁) hT hW₁⟩)
  dsimp only [Pt.U, Pt.locs, Pt.cells, Pt.slots] at X' e1 e2 h1 h2 h3 st
  subst h1; subst h2; subst h3
  exact ⟨v, (T.setVm vm₁).calling g' mk (Value.ref b :: As).toArray, t, U', L, hT, X', hL, e1, e2, hq, st⟩
end DEEP
end

section
/-- twelve rows of twelve numbers -/
noncomputable def gro (c : ClassId) (r : Nat → Nat) (M : Nat → Nat → Int32) : va_W := (List.range 12).map (fun k => (r k, .inl (c, 12, .inl (M k))))
/-- the outer row -/
noncomputable def gf_ (r : Nat → Nat) : Nat → Option Nat := fun i => if i < 12 then some (r i) else none
theorem gro_len {c : ClassId} {r : Nat → Nat} {M : Nat → Nat → Int32} : (gro c r M).length = 12 := by
  unfold gro
  rw [List.length_map, List.length_range]
theorem gro_get {c : ClassId} {r : Nat → Nat} {M : Nat → Nat → Int32} {k : Nat} (hk : k < 12) : (gro c r M)[k]? = some (r k, .inl (c, 12, .inl (M k))) := by
  unfold gro
  rw [List.getElem?_map, List.getElem?_range hk]
  rfl
theorem gro_at {X Y : va_W} {c : ClassId} {r : Nat → Nat} {M : Nat → Nat → Int32} {k : Nat} (hk : k < 12) : (X ++ (gro c r M ++ Y))[X.length + k]? = some (r k, .inl (c, 12, .inl (M k))) := by
  rw [List.getElem?_append_right (by omega), show X.length + k - X.length = k by omega, List.getElem?_append_left (by rw [gro_len]; exact hk)]
  exact gro_get hk
theorem gro_set {X Y : va_W} {c : ClassId} {r : Nat → Nat} {M : Nat → Nat → Int32} {k : Nat} {g : Nat → Int32} (hk : k < 12) : (X ++ (gro c r M ++ Y)).set (X.length + k) (r k, .inl (c, 12, .inl g)) = X ++ (gro c r (va_up M k g) ++ Y) := by
  rw [List.set_append_right _ _ (by omega), show X.length + k - X.length = k by omega, List.set_append_left _ _ (by rw [gro_len]; exact hk)]
  congr 2
  apply List.ext_getElem?
  intro i
  by_cases hi : i < 12
  · rw [gro_get hi]
    by_cases e : i = k
    · subst e
      rw [List.getElem?_set_self (by rw [gro_len]; exact hi), va_up_self]
    · rw [List.getElem?_set_ne (fun h => e h.symm), gro_get hi, va_up_ne _ _ e]
  · rw [List.getElem?_eq_none (by rw [List.length_set, gro_len]; omega), List.getElem?_eq_none (by rw [gro_len]; omega)]
theorem gf_at {r : Nat → Nat} {i : Int32} (h : vp_in i 12) : va_rf (gf_ r i.toNatClampNeg) = .ref (r i.toNatClampNeg) := by
  unfold gf_
  rw [if_pos (in_lt h)]
  rfl
section GRW
variable {p : Program} {l : Launch} {e : Env} {R : Room} {s : State} {m : MethodId} {args : Array Value} {below : List Frame} {meth : Method} {c : Code} {H : Heap} {locs : List Loc} {cells slots : Nat} {Q : State → Prop}
variable {cc : ByteArray} {pc : Nat} {ls : Array Slot} {rest : List Value} {D : va_G} {cl : List vw_C} {A : Nat → Prop} {a : Nat} {tys : List (ClassId × FieldType)} {ws : va_W} {H0 : Heap}
theorem va_alda (hexec : p.tables.exec = Jvm.exec) (hb : c.code = cc) {cA : ClassId} (hG : ArrOfT s cA (.array .int)) (hP : va_P D cl ws H) (q0 : Nat) {n : Nat} {f : Nat → Option Nat} (ha : ws[q0]? = some (a, .inl (cA, n, .inr (.inr (.inr (.inr f)))))) {i : Int32} (hin : vp_in i n) (hdg : decode cc pc = .ok (.aaload, 1))
    (kk : W p l e R s m args below meth c H locs cells slots Q (F0 m (pc + 1) ls (va_rf (f i.toNatClampNeg) :: rest))) : W p l e R s m args below meth c H locs cells slots Q (F0 m pc ls (.int i :: .ref a :: rest)) := by
  have hlt : i.toNatClampNeg < n := in_lt hin
  exact W.aald (v := va_rf (f i.toNatClampNeg)) (ty := .array .int) hexec hb (hP q0 _ ha) (hG n (fun j => va_rf (f j))) rfl (fun q => by cases q) (by show ¬ (i < 0 ∨ (arrV _ _ _).slots.size ≤ _); rw [arrV_size]; exact hin) (by show (arrV _ _ _).slots[_]? = _; rw [arrV_read _ _ hlt]) rfl rfl hdg kk
theorem va_gld {X Y : va_W} {cA : ClassId} {r : Nat → Nat} {M : Nat → Nat → Int32} {k : Nat} (hexec : p.tables.exec = Jvm.exec) (hb : c.code = cc) (hK : va_K D cl tys s) (hP : va_P D cl (X ++ (gro cA r M ++ Y)) H) (t0 : Nat) (ht : tys[t0]? = some (cA, .int)) (hk : k < 12) {i : Int32} (hin : vp_in i 12) (hdg : decode cc pc = .ok (.iaload, 1))
    (kk : W p l e R s m args below meth c H locs cells slots Q (F0 m (pc + 1) ls (.int (M k i.toNatClampNeg) :: rest))) : W p l e R s m args below meth c H locs cells slots Q (F0 m pc ls (.int i :: .ref (r k) :: rest)) :=
  va_iald hexec hb hK hP (X.length + k) t0 (gro_at hk) ht hin hdg kk
theorem va_gst {X Y : va_W} {cA : ClassId} {r : Nat → Nat} {M : Nat → Nat → Int32} {k : Nat} (hexec : p.tables.exec = Jvm.exec) (hb : c.code = cc) (hK : va_K D cl tys s) (hP : va_P D cl (X ++ (gro cA r M ++ Y)) H) (hD : va_D A (X ++ (gro cA r M ++ Y))) (hS : va_S A H0 H locs) (t0 : Nat) (ht : tys[t0]? = some (cA, .int)) (hk : k < 12) {i x : Int32} (hin : vp_in i 12) (hdg : decode cc pc = .ok (.iastore, 1))
    (kk : ∀ (H1 : Heap) (locs1 : List Loc), va_P D cl (X ++ (gro cA r (va_up M k (upd (M k) i.toNatClampNeg x)) ++ Y)) H1 → va_D A (X ++ (gro cA r (va_up M k (upd (M k) i.toNatClampNeg x)) ++ Y)) → va_S A H0 H1 locs1 → W p l e R s m args below meth c H1 locs1 cells slots Q (F0 m (pc + 1) ls rest)) : W p l e R s m args below meth c H locs cells slots Q (F0 m pc ls (.int x :: .int i :: .ref (r k) :: rest)) := by
  refine va_iast hexec hb hK hP hD hS (X.length + k) t0 (gro_at hk) ht hin hdg (fun H1 locs1 hP1 hD1 hS1 => ?_)
  rw [gro_set hk] at hP1 hD1
  exact kk H1 locs1 hP1 hD1 hS1
end GRW
end

section
noncomputable def kg_ (D : va_G) (cy : Nat → ClassId) (U : State) : Prop := kk_ D cy U ∧ ArrOfT U (cy 6) (.array .int)
theorem bl_g {av : List Value} {sz : Nat} {D : va_G} {cy : Nat → ClassId} {ws : va_W} {A : Nat → Prop} : FrameBlind (va_Pc av (fun U => U.heap.size = sz ∧ va_P D vwCl ws U.heap ∧ kg_ D cy U ∧ va_D A ws)) := fun a U g mk q => by
  obtain ⟨q0, q1, qP, qK, qD⟩ := q
  exact ⟨q0, q1, qP, ⟨kk_cl (s := U) (U := U.calling g mk a) rfl qK.1, arrOfT_moved (u := U) (E := U.calling g mk a) (Vm.Alike.refl U.vm) qK.2⟩, qD⟩
end

section
noncomputable def bt (x : Int32) (i : Nat) : Bool := x.toBitVec.getLsbD i
theorem b_or (x y : Int32) (i : Nat) : bt (x ||| y) i = (bt x i || bt y i) := by unfold bt; rw [Int32.toBitVec_or, BitVec.getLsbD_or]
theorem b_and (x y : Int32) (i : Nat) : bt (x &&& y) i = (bt x i && bt y i) := by unfold bt; rw [Int32.toBitVec_and, BitVec.getLsbD_and]
theorem s_l : ∀ n, n < 32 → ((nI n &&& 31).toBitVec.smod 32).toNat = n := by decide +kernel
theorem b_shl (n : Nat) (hn : n < 32) (x : Int32) {i : Nat} (hi : i < 32) : bt (x <<< (nI n &&& 31)) i = (decide (n ≤ i) && bt x (i - n)) := by
  unfold bt
  rw [Int32.toBitVec_shiftLeft]
  show (x.toBitVec <<< ((nI n &&& 31).toBitVec.smod 32).toNat).getLsbD i = _
  rw [s_l n hn, BitVec.getLsbD_shiftLeft]
  rcases Nat.lt_or_ge i n with h | h
  · simp [h, Nat.not_le.mpr h]
  · simp [hi, h, Nat.not_lt.mpr h]
theorem b_sshr (n : Nat) (hn : n < 32) (x : Int32) {i : Nat} (hi : i < 32) : bt (x >>> (nI n &&& 31)) i = if n + i < 32 then bt x (n + i) else bt x 31 := by
  unfold bt
  rw [Int32.toBitVec_shiftRight]
  show (x.toBitVec.sshiftRight ((nI n &&& 31).toBitVec.smod 32).toNat).getLsbD i = _
  rw [s_l n hn, BitVec.getLsbD_sshiftRight, BitVec.msb_eq_getLsbD_last]
  simp [hi]
theorem nI_cl {y : Int32} (h0 : 0 ≤ y.toInt) : y = nI y.toNatClampNeg := by
  obtain ⟨j, hj, rfl⟩ := nI_of (x := y) (fun h => by
    have := Int32.lt_iff_toInt_lt.mp h
    have z : (0 : Int32).toInt = 0 := by decide
    omega)
  have e := nI_toInt hj
  have c := clI (i := nI j) (by omega)
  have : (nI j).toNatClampNeg = j := by omega
  rw [this]
theorem bt_one {y : Int32} (h0 : 0 ≤ y.toInt) (h1 : y.toInt ≤ 11) : bt ((1 : Int32) <<< (y &&& 31)) y.toNatClampNeg = true := by
  have c := clI (i := y) h0
  have e := nI_cl h0
  have b := b_shl y.toNatClampNeg (by omega) 1 (i := y.toNatClampNeg) (by omega)
  rw [← e] at b
  rw [b, Nat.sub_self]
  simp
  decide
theorem bt_zero {x y z w : Int32} (h0 : 0 ≤ y.toInt) (h1 : y.toInt ≤ 11) (ez : z = x >>> (y &&& 31)) (ew : w = z &&& 1) (hw : w.toInt = 0) : bt x y.toNatClampNeg = false := by
  have c := clI (i := y) h0
  have e := nI_cl h0
  have b := b_sshr y.toNatClampNeg (by omega) x (i := 0) (by omega)
  rw [← e, ← ez, if_pos (by omega), Nat.add_zero] at b
  have w0 : w = 0 := Int32.toInt_inj.mp (by rw [hw]; decide)
  have b2 := b_and z 1 0
  rw [← ew, w0, b] at b2
  have o : bt 1 0 = true := by decide
  have o2 : bt 0 0 = false := by decide
  rw [o, o2, Bool.and_true] at b2
  exact b2.symm
/-- the class's searches: the places in the queue are met, and no two are the same -/
noncomputable def mq (x : Int32) (q : Nat → Int32) (n : Nat) : Prop := ∀ i : Nat, i < n → (0 ≤ (q i).toInt ∧ (q i).toInt ≤ 11) ∧ bt x (q i).toNatClampNeg = true ∧ ∀ j : Nat, j < i → (q j).toInt ≠ (q i).toInt
theorem mq_one {x s : Int32} {q f : Nat → Int32} (e : f = upd q (0 : Int32).toNatClampNeg s) (ex : x = (1 : Int32) <<< (s &&& 31)) (h0 : 0 ≤ s.toInt) (h1 : s.toInt ≤ 11) : mq x f 1 := fun i hi => by
  obtain rfl : i = 0 := by omega
  have e0 : f 0 = s := by
    rw [e]
    exact pk_us
  rw [e0]
  refine ⟨⟨h0, h1⟩, ?_, fun j hj => by omega⟩
  rw [ex]
  exact bt_one h0 h1
theorem mq_new {x y z w : Int32} {q : Nat → Int32} {n : Nat} (h : mq x q n) (h0 : 0 ≤ y.toInt) (h1 : y.toInt ≤ 11) (ez : z = x >>> (y &&& 31)) (ew : w = z &&& 1) (hw : w.toInt = 0) : ∀ i : Nat, i < n → (q i).toInt ≠ y.toInt := fun i hi e => by
  have b := bt_zero h0 h1 ez ew hw
  have a := (h i hi).2.1
  have e2 : q i = y := Int32.toInt_inj.mp e
  rw [e2, b] at a
  cases a
theorem mq_room {x y z w m : Int32} {q : Nat → Int32} (h : mq x q m.toNatClampNeg) (h0 : 0 ≤ y.toInt) (h1 : y.toInt ≤ 11) (ez : z = x >>> (y &&& 31)) (ew : w = z &&& 1) (hw : w.toInt = 0) (hm : 0 ≤ m.toInt) : m.toInt < 12 := by
  have hn := mq_new h h0 h1 ez ew hw
  have c := clI (i := m) hm
  have := pigeon 12 (m.toNatClampNeg + 1) (fun i => if i < m.toNatClampNeg then (q i).toInt else y.toInt) (fun i hi => by
    try dsimp only
    by_cases hk : i < m.toNatClampNeg
    · rw [if_pos hk]
      have := (h i hk).1
      omega
    · rw [if_neg hk]
      omega) (fun i j hij hj => by
    try dsimp only
    by_cases hk : j < m.toNatClampNeg
    · rw [if_pos hk, if_pos (by omega)]
      exact (h j hk).2.2 i hij
    · rw [if_neg hk, if_pos (by omega)]
      exact hn i (by omega))
  omega
theorem mq_push {x x2 y z w m m2 b : Int32} {q q2 : Nat → Int32} (h : mq x q m.toNatClampNeg) (h0 : 0 ≤ y.toInt) (h1 : y.toInt ≤ 11) (ez : z = x >>> (y &&& 31)) (ew : w = z &&& 1) (hw : w.toInt = 0) (hm : 0 ≤ m.toInt) (eb : b = (1 : Int32) <<< (y &&& 31)) (ex : x2 = x ||| b) (eq : q2 = upd q m.toNatClampNeg y) (em : m2.toInt = m.toInt + 1) : mq x2 q2 m2.toNatClampNeg := by
  have hn := mq_new h h0 h1 ez ew hw
  have c := clI (i := m) hm
  have c2 := clI (i := m2) (by omega)
  have en : m2.toNatClampNeg = m.toNatClampNeg + 1 := by omega
  rw [en]
  intro i hi
  by_cases hk : i < m.toNatClampNeg
  · have e : ∀ j : Nat, j < m.toNatClampNeg → q2 j = q j := fun j hj => by
      rw [eq]
      exact pk_un (by omega)
    rw [e i hk]
    obtain ⟨a1, a2, a3⟩ := h i hk
    refine ⟨a1, ?_, fun j hj => ?_⟩
    · rw [ex, b_or, a2]
      rfl
    · rw [e j (by omega)]
      exact a3 j hj
  · obtain rfl : i = m.toNatClampNeg := by omega
    have e1 : q2 m.toNatClampNeg = y := by
      rw [eq]
      exact pk_us
    rw [e1]
    refine ⟨⟨h0, h1⟩, ?_, fun j hj => ?_⟩
    · rw [ex, b_or, eb, bt_one h0 h1, Bool.or_true]
    · rw [eq, pk_un (by omega)]
      exact hn j hj
theorem sp_12 {x : Int32} (h : 0 ≤ x.toInt ∧ x.toInt ≤ 11) : x = 0 ∨ x = 1 ∨ x = 2 ∨ x = 3 ∨ x = 4 ∨ x = 5 ∨ x = 6 ∨ x = 7 ∨ x = 8 ∨ x = 9 ∨ x = 10 ∨ x = 11 := by
  have h1 : x.toInt = 0 ∨ x.toInt = 1 ∨ x.toInt = 2 ∨ x.toInt = 3 ∨ x.toInt = 4 ∨ x.toInt = 5 ∨ x.toInt = 6 ∨ x.toInt = 7 ∨ x.toInt = 8 ∨ x.toInt = 9 ∨ x.toInt = 10 ∨ x.toInt = 11 := by omega
  rcases h1 with h | h | h | h | h | h | h | h | h | h | h | h
  · exact Or.inl (Int32.toInt_inj.mp h)
  · exact Or.inr (Or.inl (Int32.toInt_inj.mp h))
  · exact Or.inr (Or.inr (Or.inl (Int32.toInt_inj.mp h)))
  · exact Or.inr (Or.inr (Or.inr (Or.inl (Int32.toInt_inj.mp h))))
  · exact Or.inr (Or.inr (Or.inr (Or.inr (Or.inl (Int32.toInt_inj.mp h)))))
  · exact Or.inr (Or.inr (Or.inr (Or.inr (Or.inr (Or.inl (Int32.toInt_inj.mp h))))))
  · exact Or.inr (Or.inr (Or.inr (Or.inr (Or.inr (Or.inr (Or.inl (Int32.toInt_inj.mp h)))))))
  · exact Or.inr (Or.inr (Or.inr (Or.inr (Or.inr (Or.inr (Or.inr (Or.inl (Int32.toInt_inj.mp h))))))))
  · exact Or.inr (Or.inr (Or.inr (Or.inr (Or.inr (Or.inr (Or.inr (Or.inr (Or.inl (Int32.toInt_inj.mp h)))))))))
  · exact Or.inr (Or.inr (Or.inr (Or.inr (Or.inr (Or.inr (Or.inr (Or.inr (Or.inr (Or.inl (Int32.toInt_inj.mp h))))))))))
  · exact Or.inr (Or.inr (Or.inr (Or.inr (Or.inr (Or.inr (Or.inr (Or.inr (Or.inr (Or.inr (Or.inl (Int32.toInt_inj.mp h)))))))))))
  · exact Or.inr (Or.inr (Or.inr (Or.inr (Or.inr (Or.inr (Or.inr (Or.inr (Or.inr (Or.inr (Or.inr (Int32.toInt_inj.mp h)))))))))))
end

section
/-- n steps of p from v to 0 -/
noncomputable def rch (p : Nat → Nat) : Nat → Nat → Prop
  | 0, v => v = 0
  | n + 1, v => v ≠ 0 ∧ rch p n (p v)
noncomputable def pf_ (f : Nat → Int32) (v : Nat) : Nat := (f v).toNatClampNeg
theorem rch_un {p : Nat → Nat} : ∀ (n m v : Nat), rch p n v → rch p m v → n = m
  | 0, 0, _, _, _ => rfl
  | 0, _ + 1, _, h, h2 => absurd h h2.1
  | _ + 1, 0, _, h, h2 => absurd h2 h.1
  | n + 1, m + 1, v, h, h2 => by rw [rch_un n m (p v) h.2 h2.2]
theorem rch_cg {p q : Nat → Nat} {i : Nat} (he : ∀ v : Nat, v < i → v ≠ 0 → q v = p v) (hc : ∀ v : Nat, v < i → v ≠ 0 → p v < i) : ∀ (n v : Nat), v < i → rch p n v → rch q n v
  | 0, _, _, h => h
  | n + 1, v, hv, h => ⟨h.1, by rw [he v hv h.1]; exact rch_cg he hc n _ (hc v hv h.1) h.2⟩
theorem rch_lo {p q : Nat → Nat} {i t M : Nat} (he : ∀ v : Nat, v < i → v ≠ 0 → v ≠ t → q v = p v) (hc : ∀ v : Nat, v < i → v ≠ 0 → p v < i) (ht : rch p M t) : ∀ (n v : Nat), v < i → n < M → rch p n v → rch q n v
  | 0, _, _, _, h => h
  | n + 1, v, hv, hn, h => by
    have hne : v ≠ t := fun e => by
      subst e
      have := rch_un _ _ _ h ht
      omega
    exact ⟨h.1, by rw [he v hv h.1 hne]; exact rch_lo he hc ht n _ (hc v hv h.1) (by omega) h.2⟩
theorem rch_sw {p q : Nat → Nat} {i t M : Nat} (he : ∀ v : Nat, v < i → v ≠ 0 → v ≠ t → q v = p v) (hc : ∀ v : Nat, v < i → v ≠ 0 → p v < i) (ht : rch p M t) (hti : t < i) (h0 : t ≠ 0) (et : q t = i) (ei : q i = p t) : ∀ (n v : Nat), v < i → rch p n v → rch q n v ∨ rch q (n + 1) v
  | 0, _, _, h => Or.inl h
  | n + 1, v, hv, h => by
    by_cases hne : v = t
    · subst hne
      have e := rch_un _ _ _ h ht
      subst e
      refine Or.inr ⟨h0, ?_⟩
      rw [et]
      refine ⟨by omega, ?_⟩
      rw [ei]
      exact rch_lo he hc ht n _ (hc _ hv h0) (by omega) h.2
    · have a := rch_sw he hc ht hti h0 et ei n _ (hc v hv h.1) h.2
      rcases a with a | a
      · exact Or.inl ⟨h.1, by rw [he v hv h.1 hne]; exact a⟩
      · exact Or.inr ⟨h.1, by rw [he v hv h.1 hne]; exact a⟩
/-- the tree of the places below i; the others hang at these -/
noncomputable def trs (f : Nat → Int32) (i : Nat) : Prop := (∀ j : Nat, 1 ≤ j → j < 12 → 0 ≤ (f j).toInt ∧ (f j).toInt < i) ∧ (∀ j : Nat, j < i → ∃ n : Nat, n + 1 ≤ i ∧ rch (pf_ f) n j)
theorem trs_one {e f : Nat → Int32} {x : Int32} (h : ∀ j : Nat, j < 12 → e j = 0) (ef : f = upd e (0 : Int32).toNatClampNeg x) : trs f 1 := by
  refine ⟨fun j h1 h2 => ?_, fun j hj => ⟨0, by omega, ?_⟩⟩
  · rw [ef, pk_un (by rw [cl_0]; omega), h j h2]
    decide
  · show j = 0
    omega
noncomputable def hng (f0 f : Nat → Int32) (i : Int32) : Prop := ∀ j : Nat, f j = f0 j ∨ (i.toInt < (j : Int) ∧ f j = i)
theorem hng_rf {f : Nat → Int32} {i : Int32} : hng f f i := fun _ => Or.inl rfl
theorem hng_st {f0 f g : Nat → Int32} {i k : Int32} (h : hng f0 f i) (e : g = upd f k.toNatClampNeg i) (h0 : 0 ≤ k.toInt) (hk : i.toInt < k.toInt) : hng f0 g i := fun j => by
  have c := clI (i := k) h0
  rw [e]
  by_cases ej : j = k.toNatClampNeg
  · rw [ej, pk_us]
    exact Or.inr ⟨by omega, rfl⟩
  · rw [pk_un ej]
    exact h j
theorem pf_lt {f : Nat → Int32} {v i : Nat} (h : 0 ≤ (f v).toInt ∧ (f v).toInt < i) : pf_ f v < i := by
  have c := clI (i := f v) h.1
  show (f v).toNatClampNeg < i
  omega
theorem hng_lo {f0 f : Nat → Int32} {i : Int32} (h : hng f0 f i) (hi : 0 ≤ i.toInt) {v : Nat} (hv : v ≤ i.toNatClampNeg) : f v = f0 v := by
  have c := clI (i := i) hi
  rcases h v with a | a
  · exact a
  · omega
theorem hng_rg {f0 f : Nat → Int32} {i : Int32} (h : hng f0 f i) (hi : 0 ≤ i.toInt) (hs : trs f0 i.toNatClampNeg) : ∀ j : Nat, 1 ≤ j → j < 12 → 0 ≤ (f j).toInt ∧ (f j).toInt < ((i.toNatClampNeg + 1 : Nat) : Int) := fun j h1 h2 => by
  have c := clI (i := i) hi
  have a := hs.1 j h1 h2
  rcases h j with e | e
  · rw [e]
    omega
  · rw [e.2]
    omega
theorem trs_no {f0 f : Nat → Int32} {i : Int32} (hs : trs f0 i.toNatClampNeg) (h : hng f0 f i) (h1 : 1 ≤ i.toInt) (h2 : i.toInt ≤ 11) : trs f (i.toNatClampNeg + 1) := by
  have c := clI (i := i) (by omega)
  refine ⟨hng_rg h (by omega) hs, fun j hj => ?_⟩
  have he : ∀ v : Nat, v < i.toNatClampNeg → v ≠ 0 → pf_ f v = pf_ f0 v := fun v hv _ => by
    unfold pf_
    rw [hng_lo h (by omega) (by omega)]
  have hc : ∀ v : Nat, v < i.toNatClampNeg → v ≠ 0 → pf_ f0 v < i.toNatClampNeg := fun v hv h0 => pf_lt (hs.1 v (by omega) (by omega))
  by_cases ej : j = i.toNatClampNeg
  · subst ej
    have a := hs.1 i.toNatClampNeg (by omega) (by omega)
    have b := pf_lt a
    obtain ⟨n, hn, hr⟩ := hs.2 _ b
    refine ⟨n + 1, by omega, by omega, ?_⟩
    have e : pf_ f i.toNatClampNeg = pf_ f0 i.toNatClampNeg := by
      unfold pf_
      rw [hng_lo h (by omega) (Nat.le_refl _)]
    rw [e]
    exact rch_cg he hc n _ b hr
  · obtain ⟨n, hn, hr⟩ := hs.2 j (by omega)
    exact ⟨n, by omega, rch_cg he hc n _ (by omega) hr⟩
theorem trs_swap {f0 f g1 g : Nat → Int32} {i t v : Int32} (hs : trs f0 i.toNatClampNeg) (h : hng f0 f i) (h1 : 1 ≤ i.toInt) (h2 : i.toInt ≤ 11) (et : t.toInt = (f0 i.toNatClampNeg).toInt) (ht : t.toInt ≠ 0) (ev : v = f t.toNatClampNeg) (e1 : g1 = upd f i.toNatClampNeg v) (e2 : g = upd g1 t.toNatClampNeg i) : trs g (i.toNatClampNeg + 1) := by
  have c := clI (i := i) (by omega)
  have a := hs.1 i.toNatClampNeg (by omega) (by omega)
  have ct := clI (i := t) (by omega)
  have hti : t.toNatClampNeg < i.toNatClampNeg := by omega
  have gt_ : g t.toNatClampNeg = i := by rw [e2]; exact pk_us
  have gi_ : g i.toNatClampNeg = f0 t.toNatClampNeg := by
    rw [e2, pk_un (by omega), e1, pk_us, ev]
    exact hng_lo h (by omega) (by omega)
  have go_ : ∀ w : Nat, w ≠ t.toNatClampNeg → w ≠ i.toNatClampNeg → g w = f w := fun w q1 q2 => by
    rw [e2, pk_un q1, e1, pk_un q2]
  have he : ∀ w : Nat, w < i.toNatClampNeg → w ≠ 0 → w ≠ t.toNatClampNeg → pf_ g w = pf_ f0 w := fun w hw _ hwt => by
    unfold pf_
    rw [go_ w hwt (by omega), hng_lo h (by omega) (by omega)]
  have hc : ∀ w : Nat, w < i.toNatClampNeg → w ≠ 0 → pf_ f0 w < i.toNatClampNeg := fun w hw h0 => pf_lt (hs.1 w (by omega) (by omega))
  obtain ⟨M, hM, hr⟩ := hs.2 t.toNatClampNeg hti
  have et2 : pf_ g t.toNatClampNeg = i.toNatClampNeg := by unfold pf_; rw [gt_]
  have ei2 : pf_ g i.toNatClampNeg = pf_ f0 t.toNatClampNeg := by unfold pf_; rw [gi_]
  have ht0 : t.toNatClampNeg ≠ 0 := by omega
  refine ⟨fun j q1 q2 => ?_, fun j hj => ?_⟩
  · by_cases j1 : j = t.toNatClampNeg
    · rw [j1, gt_]
      omega
    · by_cases j2 : j = i.toNatClampNeg
      · rw [j2, gi_]
        have := hs.1 t.toNatClampNeg (by omega) (by omega)
        omega
      · rw [go_ j j1 j2]
        exact hng_rg h (by omega) hs j q1 q2
  · by_cases j2 : j = i.toNatClampNeg
    · cases M with
      | zero => exact absurd hr ht0
      | succ M =>
        refine ⟨M + 1, by omega, by omega, ?_⟩
        rw [j2, ei2]
        exact rch_lo (t := t.toNatClampNeg) he hc hr M _ (hc _ hti ht0) (by omega) hr.2
    · obtain ⟨n, hn, hq⟩ := hs.2 j (by omega)
      rcases rch_sw he hc hr hti ht0 et2 ei2 n j (by omega) hq with z | z
      · exact ⟨n, by omega, z⟩
      · exact ⟨n + 1, by omega, z⟩
theorem trs_nx {f : Nat → Int32} {i i2 : Int32} (h : trs f (i.toNatClampNeg + 1)) (h0 : 0 ≤ i.toInt) (e : i2.toInt = i.toInt + 1) : trs f i2.toNatClampNeg := by
  have c := clI (i := i) h0
  have c2 := clI (i := i2) (by omega)
  rw [show i2.toNatClampNeg = i.toNatClampNeg + 1 by omega]
  exact h
noncomputable def dpt (p : Nat → Nat) : Nat → Nat → Nat
  | 0, _ => 0
  | k + 1, v => if v = 0 then 0 else dpt p k (p v) + 1
theorem dpt_eq {p : Nat → Nat} : ∀ (k n v : Nat), n ≤ k → rch p n v → dpt p k v = n
  | 0, n, v, hn, _ => by
    obtain rfl : n = 0 := by omega
    rfl
  | k + 1, 0, v, _, h => by
    show (if v = 0 then 0 else dpt p k (p v) + 1) = 0
    rw [if_pos (show v = 0 from h)]
  | k + 1, n + 1, v, hn, h => by
    show (if v = 0 then 0 else dpt p k (p v) + 1) = n + 1
    rw [if_neg h.1, dpt_eq k n (p v) (by omega) h.2]
theorem trs_trd {f : Nat → Int32} {i : Nat} (h : trs f i) (hi : i ≤ 12) : ∃ d : Nat → Nat, trd f d := by
  refine ⟨dpt (pf_ f) 13, rfl, fun j h1 h2 => ?_⟩
  have a := h.1 j h1 h2
  have b := pf_lt a
  obtain ⟨n, hn, hr⟩ := h.2 _ b
  have hj : ∃ m : Nat, m ≤ 11 ∧ rch (pf_ f) m j := by
    by_cases q : j < i
    · obtain ⟨m, hm, hq⟩ := h.2 j q
      exact ⟨m, by omega, hq⟩
    · exact ⟨n + 1, by omega, by omega, hr⟩
  obtain ⟨m, hm, hq⟩ := hj
  have e1 := dpt_eq 13 m j (by omega) hq
  have e2 : dpt (pf_ f) 13 (f j).toNatClampNeg = n := dpt_eq 13 n _ (by omega) hr
  have e3 : m = n + 1 := rch_un _ _ _ hq (show rch (pf_ f) (n + 1) j from ⟨by omega, hr⟩)
  refine ⟨a.1, by omega, ?_, ?_⟩
  · rw [e1, e2, e3]
  · rw [e1]
    exact hm
end

section
/-! ===== the reference's cheapest: costs of a step, and that its search ends ===== -/
/-- what a line costs to be wider by one; -9: it can't be -/
noncomputable def cst (k p : Int) : Int := if k = 3 then p else if k = 4 then p + 1 else -9
theorem cst_rng {k p : Int} (h0 : 0 ≤ p) (h1 : p ≤ 100) : cst k p = -9 ∨ (0 ≤ cst k p ∧ cst k p ≤ 101) := by
  unfold cst
  (repeat' split) <;> omega
noncomputable def stI (c w0 w1 f : Int) : Int := if f < 0 ∧ w0 < -f then -c else if f < w1 then 0 else if c = -9 then 1000000 else c
noncomputable def amI (w0 w1 f : Int) : Int := if f < 0 ∧ w0 < -f then -f - w0 else if f < w1 then w1 - f else 1000000
theorem stI_cs (c w0 w1 f : Int) : ((f < 0 ∧ w0 < -f) ∧ stI c w0 w1 f = -c) ∨ (¬ (f < 0 ∧ w0 < -f) ∧ f < w1 ∧ stI c w0 w1 f = 0) ∨ (¬ (f < 0 ∧ w0 < -f) ∧ w1 ≤ f ∧ c = -9 ∧ stI c w0 w1 f = 1000000) ∨ (¬ (f < 0 ∧ w0 < -f) ∧ w1 ≤ f ∧ c ≠ -9 ∧ stI c w0 w1 f = c) := by
  unfold stI
  (repeat' split) <;> omega
theorem amI_cs (w0 w1 f : Int) : ((f < 0 ∧ w0 < -f) ∧ amI w0 w1 f = -f - w0) ∨ (¬ (f < 0 ∧ w0 < -f) ∧ f < w1 ∧ amI w0 w1 f = w1 - f) ∨ (¬ (f < 0 ∧ w0 < -f) ∧ w1 ≤ f ∧ amI w0 w1 f = 1000000) := by
  unfold amI
  (repeat' split) <;> omega
/-- n more over a line, whose step is just what the places differ by -/
theorem st_push {c w0 w1 f n d : Int} (hc : c = -9 ∨ (0 ≤ c ∧ c ≤ 101)) (h0 : 0 ≤ w0) (h1 : 0 ≤ w1) (hd : d = stI c w0 w1 f) (hlt : stI c w0 w1 f < 1000000) (hn : 1 ≤ n) (hna : n ≤ amI w0 w1 f) (hr : c = -9 → -w0 ≤ f ∧ f ≤ w1) :
    (stI c w0 w1 (f + n) < 1000000 → d ≤ stI c w0 w1 (f + n)) ∧ (stI c w1 w0 (-(f + n)) < 1000000 → -d ≤ stI c w1 w0 (-(f + n))) ∧ (c = -9 → -w0 ≤ f + n ∧ f + n ≤ w1) := by
  have a1 := stI_cs c w0 w1 f
  have a2 := stI_cs c w0 w1 (f + n)
  have a3 := stI_cs c w1 w0 (-(f + n))
  have a4 := amI_cs w0 w1 f
  refine ⟨fun h => ?_, fun h => ?_, fun h => ?_⟩
  · rcases a1 with a1 | a1 | a1 | a1 <;> rcases a4 with a4 | a4 | a4 <;> first | (exfalso; omega) | (rcases a2 with a2 | a2 | a2 | a2 <;> omega)
  · rcases a1 with a1 | a1 | a1 | a1 <;> rcases a4 with a4 | a4 | a4 <;> first | (exfalso; omega) | (rcases a3 with a3 | a3 | a3 | a3 <;> omega)
  · rcases a1 with a1 | a1 | a1 | a1 <;> rcases a4 with a4 | a4 | a4 <;> omega
noncomputable def eS (f5 f8 f9 F : Nat → Int32) (j : Nat) (b : Int) : Int := if b ≠ 0 then stI (cst (f5 j).toInt (f9 j).toInt) (rmI (f5 j) (f8 j) 0) (rmI (f5 j) (f8 j) 1) (F j).toInt else stI (cst (f5 j).toInt (f9 j).toInt) (rmI (f5 j) (f8 j) 1) (rmI (f5 j) (f8 j) 0) (-(F j).toInt)
noncomputable def eA (f5 f8 F : Nat → Int32) (j : Nat) (b : Int) : Int := if b ≠ 0 then amI (rmI (f5 j) (f8 j) 0) (rmI (f5 j) (f8 j) 1) (F j).toInt else amI (rmI (f5 j) (f8 j) 1) (rmI (f5 j) (f8 j) 0) (-(F j).toInt)
/-! ===== ways by their costs, in general: edges e < E from x e to y e for c e, those that are ok ===== -/
noncomputable def mnE (g : Nat → Int) : Nat → Int → Int
  | 0, a => a
  | n + 1, a => if g n < mnE g n a then g n else mnE g n a
theorem mnE_le {g : Nat → Int} {a : Int} : ∀ n : Nat, mnE g n a ≤ a
  | 0 => Int.le_refl _
  | n + 1 => by
    have h := mnE_le (g := g) (a := a) n
    show (if g n < mnE g n a then g n else mnE g n a) ≤ a
    split <;> omega
theorem mnE_leg {g : Nat → Int} {a : Int} : ∀ (n i : Nat), i < n → mnE g n a ≤ g i
  | 0, i, h => absurd h (Nat.not_lt_zero _)
  | n + 1, i, h => by
    show (if g n < mnE g n a then g n else mnE g n a) ≤ g i
    by_cases e : i = n
    · subst e
      split <;> omega
    · have q := mnE_leg (g := g) (a := a) n i (by omega)
      split <;> omega
theorem mnE_at {g : Nat → Int} {a : Int} : ∀ n : Nat, mnE g n a = a ∨ ∃ i : Nat, i < n ∧ mnE g n a = g i
  | 0 => Or.inl rfl
  | n + 1 => by
    have h := mnE_at (g := g) (a := a) n
    show (if g n < mnE g n a then g n else mnE g n a) = a ∨ ∃ i : Nat, i < n + 1 ∧ (if g n < mnE g n a then g n else mnE g n a) = g i
    by_cases q : g n < mnE g n a
    · rw [if_pos q]
      exact Or.inr ⟨n, by omega, rfl⟩
    · rw [if_neg q]
      rcases h with h | ⟨i, hi, h⟩
      · exact Or.inl h
      · exact Or.inr ⟨i, by omega, h⟩
section WAYS
variable {x y : Nat → Nat} {c : Nat → Int} {ok : Nat → Bool} {E s P : Nat} {pi : Nat → Int}
noncomputable def dst (x y : Nat → Nat) (c : Nat → Int) (ok : Nat → Bool) (E s : Nat) : Nat → Nat → Int
  | 0, v => if v = s then 0 else 1099511627776
  | k + 1, v => mnE (fun e => if ok e = true ∧ y e = v ∧ dst x y c ok E s k (x e) < 1099511627776 then dst x y c ok E s k (x e) + c e else 1099511627776) E (dst x y c ok E s k v)
theorem dst_s (k v : Nat) : dst x y c ok E s (k + 1) v ≤ dst x y c ok E s k v := mnE_le E
theorem dst_mono : ∀ (k j v : Nat), j ≤ k → dst x y c ok E s k v ≤ dst x y c ok E s j v
  | 0, j, v, h => by
    obtain rfl : j = 0 := by omega
    exact Int.le_refl _
  | k + 1, j, v, h => by
    by_cases e : j = k + 1
    · subst e
      exact Int.le_refl _
    · exact Int.le_trans (dst_s k v) (dst_mono k j v (by omega))
theorem dst_inf (k v : Nat) : dst x y c ok E s k v ≤ 1099511627776 := by
  refine Int.le_trans (dst_mono k 0 v (Nat.zero_le _)) ?_
  show (if v = s then 0 else 1099511627776) ≤ 1099511627776
  split <;> decide
theorem dst_e {k e : Nat} (he : e < E) (ho : ok e = true) (hx : dst x y c ok E s k (x e) < 1099511627776) : dst x y c ok E s (k + 1) (y e) ≤ dst x y c ok E s k (x e) + c e := by
  have h := mnE_leg (g := fun e9 => if ok e9 = true ∧ y e9 = y e ∧ dst x y c ok E s k (x e9) < 1099511627776 then dst x y c ok E s k (x e9) + c e9 else 1099511627776) (a := dst x y c ok E s k (y e)) E e he
  have h2 : dst x y c ok E s (k + 1) (y e) ≤ (if ok e = true ∧ y e = y e ∧ dst x y c ok E s k (x e) < 1099511627776 then dst x y c ok E s k (x e) + c e else 1099511627776) := h
  rw [if_pos ⟨ho, rfl, hx⟩] at h2
  exact h2
theorem dst_at {k v : Nat} (h : dst x y c ok E s (k + 1) v < dst x y c ok E s k v) : ∃ e : Nat, e < E ∧ ok e = true ∧ y e = v ∧ dst x y c ok E s k (x e) < 1099511627776 ∧ dst x y c ok E s (k + 1) v = dst x y c ok E s k (x e) + c e := by
  have a := mnE_at (g := fun e => if ok e = true ∧ y e = v ∧ dst x y c ok E s k (x e) < 1099511627776 then dst x y c ok E s k (x e) + c e else 1099511627776) (a := dst x y c ok E s k v) E
  have i := dst_inf (x := x) (y := y) (c := c) (ok := ok) (E := E) (s := s) k v
  rcases a with a | ⟨e, he, a⟩
  · have a2 : dst x y c ok E s (k + 1) v = dst x y c ok E s k v := a
    omega
  · have a2 : dst x y c ok E s (k + 1) v = (if ok e = true ∧ y e = v ∧ dst x y c ok E s k (x e) < 1099511627776 then dst x y c ok E s k (x e) + c e else 1099511627776) := a
    by_cases q : ok e = true ∧ y e = v ∧ dst x y c ok E s k (x e) < 1099511627776
    · rw [if_pos q] at a2
      exact ⟨e, he, q.1, q.2.1, q.2.2, a2⟩
    · rw [if_neg q] at a2
      omega
theorem dst_lo (hc : ∀ e : Nat, e < E → ok e = true → -101 ≤ c e) : ∀ k v : Nat, -(101 * (k : Int)) ≤ dst x y c ok E s k v
  | 0, v => by
    show -(101 * ((0 : Nat) : Int)) ≤ (if v = s then 0 else 1099511627776)
    split <;> decide
  | k + 1, v => by
    have i := dst_lo hc k
    rcases Int.lt_or_le (dst x y c ok E s (k + 1) v) (dst x y c ok E s k v) with h | h
    · obtain ⟨e, he, ho, _, _, h2⟩ := dst_at h
      have a := i (x e)
      have b := hc e he ho
      omega
    · have a := i v
      omega
theorem dst_hi (hc : ∀ e : Nat, e < E → ok e = true → c e < 1000000) : ∀ k v : Nat, dst x y c ok E s k v < 1099511627776 → dst x y c ok E s k v ≤ 1000000 * (k : Int)
  | 0, v, h => by
    have e0 : dst x y c ok E s 0 v = if v = s then 0 else 1099511627776 := rfl
    rw [e0] at h ⊢
    by_cases e : v = s
    · rw [if_pos e]
      decide
    · rw [if_neg e] at h
      omega
  | k + 1, v, h => by
    rcases Int.lt_or_le (dst x y c ok E s (k + 1) v) (dst x y c ok E s k v) with q | q
    · obtain ⟨e, he, ho, _, hx, h2⟩ := dst_at q
      have a := dst_hi hc k (x e) hx
      have b := hc e he ho
      omega
    · have m := dst_s (x := x) (y := y) (c := c) (ok := ok) (E := E) (s := s) k v
      have a := dst_hi hc k v (by omega)
      omega
theorem dst_pi (hp : ∀ e : Nat, e < E → ok e = true → pi (y e) ≤ pi (x e) + c e) : ∀ k v : Nat, dst x y c ok E s k v < 1099511627776 → pi v - pi s ≤ dst x y c ok E s k v
  | 0, v, h => by
    have e0 : dst x y c ok E s 0 v = if v = s then 0 else 1099511627776 := rfl
    rw [e0] at h ⊢
    by_cases e : v = s
    · rw [if_pos e, e]
      omega
    · rw [if_neg e] at h
      omega
  | k + 1, v, h => by
    rcases Int.lt_or_le (dst x y c ok E s (k + 1) v) (dst x y c ok E s k v) with q | q
    · obtain ⟨e, he, ho, ey, hx, h2⟩ := dst_at q
      have a := dst_pi hp k (x e) hx
      have b := hp e he ho
      rw [ey] at b
      omega
    · have m := dst_s (x := x) (y := y) (c := c) (ok := ok) (E := E) (s := s) k v
      have a := dst_pi hp k v (by omega)
      omega
/-- a way that is better still at the k-th time has k + 1 steps -/
theorem dst_ch (hp : ∀ e : Nat, e < E → ok e = true → pi (y e) ≤ pi (x e) + c e) (hv : ∀ e : Nat, e < E → ok e = true → x e < P ∧ y e < P) : ∀ k v : Nat, dst x y c ok E s (k + 1) v < dst x y c ok E s k v →
    ∃ u : Nat → Nat, u (k + 1) = v ∧ (∀ i : Nat, i ≤ k + 1 → u i < P) ∧ (∀ i : Nat, i ≤ k → dst x y c ok E s (i + 1) (u (i + 1)) < dst x y c ok E s i (u (i + 1))) ∧ (∀ i : Nat, i ≤ k → dst x y c ok E s i (u i) - pi (u i) ≤ dst x y c ok E s (i + 1) (u (i + 1)) - pi (u (i + 1)))
  | 0, v, h => by
    obtain ⟨e, he, ho, ey, hx, h2⟩ := dst_at h
    have b := hp e he ho
    have w := hv e he ho
    refine ⟨fun i => if i = 0 then x e else v, rfl, fun i hi => ?_, fun i hi => ?_, fun i hi => ?_⟩
    · show (if i = 0 then x e else v) < P
      split
      · exact w.1
      · rw [← ey]; exact w.2
    · obtain rfl : i = 0 := by omega
      exact h
    · obtain rfl : i = 0 := by omega
      show dst x y c ok E s 0 (x e) - pi (x e) ≤ dst x y c ok E s (0 + 1) v - pi v
      rw [ey] at b
      omega
  | k + 1, v, h => by
    obtain ⟨e, he, ho, ey, hx, h2⟩ := dst_at h
    have b := hp e he ho
    have w := hv e he ho
    have hlt : dst x y c ok E s (k + 1) (x e) < dst x y c ok E s k (x e) := by
      rcases Int.lt_or_le (dst x y c ok E s (k + 1) (x e)) (dst x y c ok E s k (x e)) with q | q
      · exact q
      · have m := dst_s (x := x) (y := y) (c := c) (ok := ok) (E := E) (s := s) k (x e)
        have d := dst_e (x := x) (y := y) (c := c) (s := s) (k := k) he ho (by omega)
        rw [ey] at d
        omega
    obtain ⟨u, u1, u2, u3, u4⟩ := dst_ch hp hv k (x e) hlt
    have n1 : ∀ i : Nat, i ≤ k + 1 → (fun i => if i ≤ k + 1 then u i else v) i = u i := fun i hi => if_pos hi
    have n2 : (fun i => if i ≤ k + 1 then u i else v) (k + 1 + 1) = v := if_neg (by omega)
    refine ⟨fun i => if i ≤ k + 1 then u i else v, n2, fun i hi => ?_, fun i hi => ?_, fun i hi => ?_⟩
    · by_cases q : i ≤ k + 1
      · rw [n1 i q]
        exact u2 i q
      · rw [show i = k + 1 + 1 by omega, n2, ← ey]
        exact w.2
    · by_cases q : i ≤ k
      · rw [n1 (i + 1) (by omega)]
        exact u3 i q
      · rw [show i = k + 1 by omega, n2]
        exact h
    · by_cases q : i ≤ k
      · rw [n1 (i + 1) (by omega), n1 i (by omega)]
        exact u4 i q
      · rw [show i = k + 1 by omega, n2, n1 (k + 1) (Nat.le_refl _), u1]
        rw [ey] at b
        omega
theorem dst_end (hp : ∀ e : Nat, e < E → ok e = true → pi (y e) ≤ pi (x e) + c e) (hv : ∀ e : Nat, e < E → ok e = true → x e < P ∧ y e < P) {k : Nat} (hk : P ≤ k + 1) (v : Nat) : dst x y c ok E s (k + 1) v = dst x y c ok E s k v := by
  have m := dst_s (x := x) (y := y) (c := c) (ok := ok) (E := E) (s := s) k v
  rcases Int.lt_or_le (dst x y c ok E s (k + 1) v) (dst x y c ok E s k v) with q | q
  · exfalso
    obtain ⟨u, u1, u2, u3, u4⟩ := dst_ch hp hv k v q
    have tel : ∀ d i : Nat, i + d ≤ k + 1 → dst x y c ok E s i (u i) - pi (u i) ≤ dst x y c ok E s (i + d) (u (i + d)) - pi (u (i + d)) := fun d => by
      induction d with
      | zero => exact fun i _ => Int.le_refl _
      | succ d ih =>
        intro i hi
        have a := ih i (by omega)
        have b := u4 (i + d) (by omega)
        exact Int.le_trans a b
    have := pigeon P (k + 2) (fun i => (u i : Int)) (fun i hi => by
      have a := u2 i (by omega)
      exact ⟨by omega, by omega⟩) (fun i j hij hj e => by
      have e2 : u i = u j := by
        have e9 : (u i : Int) = (u j : Int) := e
        omega
      have t := tel (j - i) i (by omega)
      rw [show i + (j - i) = j by omega, e2] at t
      have l := u3 (j - 1) (by omega)
      rw [show j - 1 + 1 = j by omega] at l
      have mo := dst_mono (x := x) (y := y) (c := c) (ok := ok) (E := E) (s := s) (j - 1) i (u j) (by omega)
      omega)
    omega
  · omega
/-! the chain of a search: n steps of p from v to s -/
noncomputable def rcs (p : Nat → Nat) (s : Nat) : Nat → Nat → Prop
  | 0, v => v = s
  | n + 1, v => v ≠ s ∧ rcs p s n (p v)
theorem rcs_un {p : Nat → Nat} {s : Nat} : ∀ (n m v : Nat), rcs p s n v → rcs p s m v → n = m
  | 0, 0, _, _, _ => rfl
  | 0, _ + 1, _, h, h2 => absurd h h2.1
  | _ + 1, 0, _, h, h2 => absurd h2 h.1
  | n + 1, m + 1, v, h, h2 => by rw [rcs_un n m (p v) h.2 h2.2]
noncomputable def itr (p : Nat → Nat) : Nat → Nat → Nat
  | 0, v => v
  | i + 1, v => p (itr p i v)
theorem rcs_itr {p : Nat → Nat} {s n v : Nat} (h : rcs p s n v) : ∀ i : Nat, i ≤ n → rcs p s (n - i) (itr p i v)
  | 0, _ => h
  | i + 1, hi => by
    have a := rcs_itr h i (by omega)
    rw [show n - i = (n - (i + 1)) + 1 by omega] at a
    exact a.2
/-- y hangs at x anew: chains still end at s -/
theorem rcs_up {p q : Nat → Nat} {s P : Nat} {d pi : Nat → Int} {x1 y1 : Nat} {c1 : Int} (hq : ∀ v : Nat, v ≠ y1 → q v = p v) (hqy : q y1 = x1) (hys : y1 ≠ s) (hx1 : x1 < P) (hfx : d x1 < 1099511627776)
    (hc : d x1 + c1 < d y1) (hpi : pi y1 ≤ pi x1 + c1) (ht : ∀ v : Nat, v < P → v ≠ s → d v < 1099511627776 → p v < P ∧ d (p v) < 1099511627776 ∧ d (p v) - pi (p v) ≤ d v - pi v) (hr : ∀ v : Nat, v < P → d v < 1099511627776 → ∃ n : Nat, rcs p s n v) :
    ∀ v : Nat, v < P → (d v < 1099511627776 ∨ v = y1) → ∃ n : Nat, rcs q s n v := by
  have A : ∀ (n v : Nat), v < P → d v < 1099511627776 → rcs p s n v → rcs q s n v ∨ d y1 - pi y1 ≤ d v - pi v := fun n => by
    induction n with
    | zero => exact fun v _ _ h => Or.inl h
    | succ n ih =>
      intro v hv hf h
      by_cases e : v = y1
      · rw [e]
        exact Or.inr (Int.le_refl _)
      · have t := ht v hv h.1 hf
        rcases ih (p v) t.1 t.2.1 h.2 with a | a
        · exact Or.inl ⟨h.1, by rw [hq v e]; exact a⟩
        · exact Or.inr (by omega)
  obtain ⟨m, hm⟩ := hr x1 hx1 hfx
  have hx : rcs q s m x1 := by
    rcases A m x1 hx1 hfx hm with a | a
    · exact a
    · omega
  have B : ∀ (n v : Nat), v < P → d v < 1099511627776 → rcs p s n v → ∃ n2 : Nat, rcs q s n2 v := fun n => by
    induction n with
    | zero => exact fun v _ _ h => ⟨0, h⟩
    | succ n ih =>
      intro v hv hf h
      by_cases e : v = y1
      · exact ⟨m + 1, h.1, by rw [e, hqy]; exact hx⟩
      · have t := ht v hv h.1 hf
        obtain ⟨n2, h2⟩ := ih (p v) t.1 t.2.1 h.2
        exact ⟨n2 + 1, h.1, by rw [hq v e]; exact h2⟩
  intro v hv hf
  by_cases e : v = y1
  · exact ⟨m + 1, by rw [e]; exact hys, by rw [e, hqy]; exact hx⟩
  · rcases hf with hf | hf
    · obtain ⟨n, hn⟩ := hr v hv hf
      exact B n v hv hf hn
    · exact absurd hf e
end WAYS
set_option maxHeartbeats 4000000 in
set_option maxRecDepth 100000 in
theorem c_X12_costs2 (l : Launch) (D : va_G) (cy : Nat → ClassId) (sz : Nat) (mo : Nat) (g5 : Nat) (g6 : Nat) (g7 : Nat) (g8 : Nat) (g9 : Nat) (g10 : Nat) (g12 : Nat) (g13 : Nat) (g14 : Nat) (g15 : Nat) (g16 : Nat) (g17 : Nat) (g18 : Nat) (g19 : Nat) (g20 : Nat) (g22 : Nat) (g23 : Nat) (g24 : Nat) (g29 : Nat) (g30 : Nat) (g31 : Nat) (g32 : Nat) (g33 : Nat) (s0 : Int32) (s1 : Int32) (s3 : Int32) (s4 : Int32) (s11 : Int32) (s21 : Int32) (s25 : Int32) (s26 : Int32) (s27 : Int32) (s28 : Int32) (t2 : Int64) (f5 : Nat → Int32) (f9 : Nat → Int32) (a1 : Int32) (q1 : 0 ≤ a1.toInt ∧ a1.toInt < 40) (r_f9 : rng f9 40 (0) (100)) : Met l yX12_costs wsX12_costs ({ frames := 0, cells := 0, slots := 0, locals := 0 }) (va_Pc [.ref mo, .int a1] (fun U => U.heap.size = sz ∧ va_P D vwCl [ob12_0_ mo s0 s1 t2 s3 s4 g5 g6 g7 g8 g9 g10 s11 g12 g13 g14 g15 g16 g17 g18 g19 g20 s21 g22 g23 g24 s25 s26 s27 s28 g29 g30 g31 g32 g33, ai_ cy g5 40 f5, ai_ cy g9 40 f9] U.heap ∧ kk_ D cy U ∧ va_D (fun _ => True) [ob12_0_ mo s0 s1 t2 s3 s4 g5 g6 g7 g8 g9 g10 s11 g12 g13 g14 g15 g16 g17 g18 g19 g20 s21 g22 g23 g24 s25 s26 s27 s28 g29 g30 g31 g32 g33, ai_ cy g5 40 f5, ai_ cy g9 40 f9])) (va_Qi (fun (r : Int32) (_ : Unit) => (r.toInt = cst (f5 a1.toNatClampNeg).toInt (f9 a1.toNatClampNeg).toInt)) (fun (_ : Unit) (_ : State) => True) (va_A [] sz)) 0 0 (va_A [] sz) := by
  refine ofQ (cc := cX12_costs) (maxL := 2) (ret := (some .int)) (by decide) rfl ?_
  intro p e s m args below meth c s₁ Q hQ B hml hv
  obtain ⟨rfl, hsz, hP, hK, hD0⟩ := hv
  have hx := B.exec
  have hb := B.bytes
  have hr := B.returns
  have hts := atoms_spec (ws := wsX12_costs) B.pre
  have hown : s.vm.findClass RX12 = some m.cls := by have h_ := findClass_of_methodNamed B.named; exact h_
  have hlocks := B.notSynchronized
  subst hsz
  have hD : va_D (va_A [] s.heap.size) [] := dd_nil
  generalize hAe : va_A [] s.heap.size = A at hD hQ
  have hA : ∀ q : Nat, s.heap.size ≤ q → A q := fun q h => by rw [← hAe]; exact Or.inr h
  have hS : va_S A s.heap s.heap [] := va_S.rf
  have hl := lv_entry ([.ref mo, .int a1]) (n := 2) (Nat.le_of_ble_eq_true rfl)
  rw [lg_entry_eq]
  generalize (lg_sl ([.ref mo, .int a1]) ++ List.replicate (2 - (lg_sl ([.ref mo, .int a1])).length) Slot.unset).toArray = ls at hl ⊢
  have hl : lv_has ls 2 [(0, .ref mo), (1, .int a1)] := hl
  have zm9 : ((-9) : Int32).toInt = -9 := by decide
  have z1 : (1 : Int32).toInt = 1 := by decide
  have z3 : (3 : Int32).toInt = 3 := by decide
  have z4 : (4 : Int32).toInt = 4 := by decide
  refine lv_aload_n hx hb dB_3_0_5.1.1.1.1 rfl (lv_at hl 0 rfl) ?_
  refine va_get (ci := 12) (v := .ref g5) (C := RX12) (T := TX12) (N := 34) hx hb hts (fun _ h => List.mem_cons_of_mem _ (List.mem_append_right _ h)) hown hK.1 hP 0 rfl rfl 5 (by decide) (hts (.fieldLink RX12 7 "CutAtlasModel" "kind" "[I") (List.mem_of_getElem? (i := 1) rfl)) (fun _ h9 => h9) rfl dB_3_0_5.1.1.1.2 ?_
  refine lv_iload_n hx hb dB_3_0_5.1.1.2.1 rfl (lv_at hl 1 rfl) ?_
  have h_1 : vp_in a1 40 := in_I (by first | with_reducible assumption | omega) (by omega)
  refine va_iald hx hb hK.1 hP 1 0 rfl rfl (i := a1) h_1 dB_3_0_5.1.1.2.2 ?_
  refine lv_topi (fun y_2 ey_2 => ?_)
  have ky_2 : y_2.toInt = (f5 a1.toNatClampNeg).toInt := by rw [ey_2]
  refine lv_iconst (v := 3) hx hb dB_3_0_5.1.2.1.1 (by decide) ?_
  refine lv_icmp_ne (tgt := 19) hx hb dB_3_0_5.1.2.1.2 (by decide) (fun c_3 => ?_) (fun c_3 => ?_)
  · have t_3 : ¬ y_2.toInt = (3 : Int32).toInt := fun h => c_3 (Int32.toInt_inj.mp h)
    refine lv_aload_n hx hb dB_3_0_5.2.1.2.2 rfl (lv_at hl 0 rfl) ?_
    refine va_get (ci := 12) (v := .ref g5) (C := RX12) (T := TX12) (N := 34) hx hb hts (fun _ h => List.mem_cons_of_mem _ (List.mem_append_right _ h)) hown hK.1 hP 0 rfl rfl 5 (by decide) (hts (.fieldLink RX12 7 "CutAtlasModel" "kind" "[I") (List.mem_of_getElem? (i := 1) rfl)) (fun _ h9 => h9) rfl dB_3_0_5.2.2.1.1 ?_
    refine lv_iload_n hx hb dB_3_0_5.2.2.1.2 rfl (lv_at hl 1 rfl) ?_
    refine va_iald hx hb hK.1 hP 1 0 rfl rfl (i := a1) h_1 dB_3_0_5.2.2.2.1 ?_
    refine lv_topi (fun y_5 ey_5 => ?_)
    have e_ := (ey_5.trans ey_2.symm).symm
    subst e_
    skip
    refine lv_iconst (v := 4) hx hb dB_3_0_5.2.2.2.2 (by decide) ?_
    refine lv_icmp_ne (tgt := 40) hx hb dB_3_0_6.1.1.1 (by decide) (fun c_6 => ?_) (fun c_6 => ?_)
    · have t_6 : ¬ y_2.toInt = (4 : Int32).toInt := fun h => c_6 (Int32.toInt_inj.mp h)
      refine lv_bipush (v := (-9)) hx hb dB_3_0_6.2.2.2.1 (by decide) ?_
      rw [hQ]
      exact W.iret (v := (-9)) hx hb hr (fun t ht hW => ⟨⟨(-9), (), rfl, (by unfold cst; (repeat' split) <;> omega), trivial⟩, hS.F ht⟩) hS.2.2 dB_3_0_6.2.2.2.2
    · have t_6 : y_2.toInt = (4 : Int32).toInt := congrArg Int32.toInt c_6
      refine lv_aload_n hx hb dB_3_0_6.1.1.2 rfl (lv_at hl 0 rfl) ?_
      refine va_get (ci := 12) (v := .ref g9) (C := RX12) (T := TX12) (N := 34) hx hb hts (fun _ h => List.mem_cons_of_mem _ (List.mem_append_right _ h)) hown hK.1 hP 0 rfl rfl 9 (by decide) (hts (.fieldLink RX12 22 "CutAtlasModel" "price" "[I") (List.mem_of_getElem? (i := 2) rfl)) (fun _ h9 => h9) rfl dB_3_0_6.1.2.1 ?_
      refine lv_iload_n hx hb dB_3_0_6.1.2.2.1 rfl (lv_at hl 1 rfl) ?_
      refine va_iald hx hb hK.1 hP 2 0 rfl rfl (i := a1) h_1 dB_3_0_6.1.2.2.2 ?_
      refine lv_topi (fun y_8 ey_8 => ?_)
      have ky_8 : y_8.toInt = (f9 a1.toNatClampNeg).toInt := by rw [ey_8]
      have ry_8 : 0 ≤ y_8.toInt ∧ y_8.toInt ≤ 100 := by rw [ey_8]; exact r_f9 _ (in_lt h_1)
      refine lv_iconst (v := 1) hx hb dB_3_0_6.2.1.1 (by decide) ?_
      refine lv_iadd hx hb dB_3_0_6.2.1.2 ?_
      refine lv_topi (fun y_9 ey_9 => ?_)
      have ty_9 : y_9.toInt = y_8.toInt + (1 : Int32).toInt := by rw [ey_9]; exact addI (by omega) (by omega)
      refine lv_goto (tgt := 42) hx hb dB_3_0_6.2.2.1 (by decide) ?_
      rw [hQ]
      exact W.iret (v := y_9) hx hb hr (fun t ht hW => ⟨⟨y_9, (), rfl, (by unfold cst; (repeat' split) <;> omega), trivial⟩, hS.F ht⟩) hS.2.2 dB_3_0_6.2.2.2.2
  · have t_3 : y_2.toInt = (3 : Int32).toInt := congrArg Int32.toInt c_3
    refine lv_aload_n hx hb dB_3_0_5.1.2.2.1 rfl (lv_at hl 0 rfl) ?_
    refine va_get (ci := 12) (v := .ref g9) (C := RX12) (T := TX12) (N := 34) hx hb hts (fun _ h => List.mem_cons_of_mem _ (List.mem_append_right _ h)) hown hK.1 hP 0 rfl rfl 9 (by decide) (hts (.fieldLink RX12 22 "CutAtlasModel" "price" "[I") (List.mem_of_getElem? (i := 2) rfl)) (fun _ h9 => h9) rfl dB_3_0_5.1.2.2.2 ?_
    refine lv_iload_n hx hb dB_3_0_5.2.1.1.1 rfl (lv_at hl 1 rfl) ?_
    refine va_iald hx hb hK.1 hP 2 0 rfl rfl (i := a1) h_1 dB_3_0_5.2.1.1.2 ?_
    refine lv_topi (fun y_11 ey_11 => ?_)
    have ky_11 : y_11.toInt = (f9 a1.toNatClampNeg).toInt := by rw [ey_11]
    have ry_11 : 0 ≤ y_11.toInt ∧ y_11.toInt ≤ 100 := by rw [ey_11]; exact r_f9 _ (in_lt h_1)
    refine lv_goto (tgt := 42) hx hb dB_3_0_5.2.1.2.1 (by decide) ?_
    rw [hQ]
    exact W.iret (v := y_11) hx hb hr (fun t ht hW => ⟨⟨y_11, (), rfl, (by unfold cst; (repeat' split) <;> omega), trivial⟩, hS.F ht⟩) hS.2.2 dB_3_0_6.2.2.2.2

set_option maxHeartbeats 4000000 in
set_option maxRecDepth 100000 in
theorem c_X12_step2 (l : Launch) (D : va_G) (cy : Nat → ClassId) (sz : Nat) (mo : Nat) (g5 : Nat) (g6 : Nat) (g7 : Nat) (g8 : Nat) (g9 : Nat) (g10 : Nat) (g12 : Nat) (g13 : Nat) (g14 : Nat) (g15 : Nat) (g16 : Nat) (g17 : Nat) (g18 : Nat) (g19 : Nat) (g20 : Nat) (g22 : Nat) (g23 : Nat) (g24 : Nat) (g29 : Nat) (g30 : Nat) (g31 : Nat) (g32 : Nat) (g33 : Nat) (s0 : Int32) (s1 : Int32) (s3 : Int32) (s4 : Int32) (s11 : Int32) (s21 : Int32) (s25 : Int32) (s26 : Int32) (s27 : Int32) (s28 : Int32) (t2 : Int64) (f5 : Nat → Int32) (f8 : Nat → Int32) (f9 : Nat → Int32) (f22 : Nat → Int32) (a1 : Int32) (a2 : Int32) (q1 : 0 ≤ a1.toInt ∧ a1.toInt < 40) (h21 : s21.toInt = -9) (q2 : a2.toInt = 0 ∨ a2.toInt = 1) (hf : -1000 ≤ (f22 a1.toNatClampNeg).toInt ∧ (f22 a1.toNatClampNeg).toInt ≤ 1000) (r_f8 : rng f8 40 (0) (2000)) (r_f9 : rng f9 40 (0) (100)) : Met l yX12_step wsX12_step ({ frames := 2, cells := 0, slots := 0, locals := 46 }) (va_Pc [.ref mo, .int a1, .int a2] (fun U => U.heap.size = sz ∧ va_P D vwCl [ob12_0_ mo s0 s1 t2 s3 s4 g5 g6 g7 g8 g9 g10 s11 g12 g13 g14 g15 g16 g17 g18 g19 g20 s21 g22 g23 g24 s25 s26 s27 s28 g29 g30 g31 g32 g33, ai_ cy g5 40 f5, ai_ cy g8 40 f8, ai_ cy g9 40 f9, ai_ cy g22 40 f22] U.heap ∧ kk_ D cy U ∧ va_D (fun _ => True) [ob12_0_ mo s0 s1 t2 s3 s4 g5 g6 g7 g8 g9 g10 s11 g12 g13 g14 g15 g16 g17 g18 g19 g20 s21 g22 g23 g24 s25 s26 s27 s28 g29 g30 g31 g32 g33, ai_ cy g5 40 f5, ai_ cy g8 40 f8, ai_ cy g9 40 f9, ai_ cy g22 40 f22])) (va_Ql (fun (r : Int64) (_ : Unit) => (r.toInt = eS f5 f8 f9 f22 a1.toNatClampNeg a2.toInt)) (fun (_ : Unit) (_ : State) => True) (va_A [] sz)) 0 0 (va_A [] sz) := by
  refine ofQ (cc := cX12_step) (maxL := 7) (ret := (some .long)) (by decide) rfl ?_
  intro p e s m args below meth c s₁ Q hQ B hml hv
  obtain ⟨rfl, hsz, hP, hK, hD0⟩ := hv
  have hx := B.exec
  have hb := B.bytes
  have hr := B.returns
  have hts := atoms_spec (ws := wsX12_step) B.pre
  have hown : s.vm.findClass RX12 = some m.cls := by have h_ := findClass_of_methodNamed B.named; exact h_
  have hlocks := B.notSynchronized
  subst hsz
  have hD : va_D (va_A [] s.heap.size) [] := dd_nil
  generalize hAe : va_A [] s.heap.size = A at hD hQ
  have hA : ∀ q : Nat, s.heap.size ≤ q → A q := fun q h => by rw [← hAe]; exact Or.inr h
  have hS : va_S A s.heap s.heap [] := va_S.rf
  have hl := lv_entry ([.ref mo, .int a1, .int a2]) (n := 7) (Nat.le_of_ble_eq_true rfl)
  rw [lg_entry_eq]
  generalize (lg_sl ([.ref mo, .int a1, .int a2]) ++ List.replicate (7 - (lg_sl ([.ref mo, .int a1, .int a2])).length) Slot.unset).toArray = ls at hl ⊢
  have hl : lv_has ls 7 [(0, .ref mo), (1, .int a1), (2, .int a2)] := hl
  have zm9 : ((-9) : Int32).toInt = -9 := by decide
  have z0 : (0 : Int32).toInt = 0 := by decide
  have zl0 : (0 : Int64).toInt = 0 := by decide
  have z1 : (1 : Int32).toInt = 1 := by decide
  have zl1000000 : (1000000 : Int64).toInt = 1000000 := by decide
  have hv : vp_in a1 40 := in_I (by omega) (by omega)
  have fw := r_f8 _ (in_lt hv)
  have w1 := rmI_rng (k := f5 a1.toNatClampNeg) (b := 1) fw.1 fw.2
  have w0 := rmI_rng (k := f5 a1.toNatClampNeg) (b := 0) fw.1 fw.2
  have f9_ := r_f9 _ (in_lt hv)
  have cr_ := cst_rng (k := (f5 a1.toNatClampNeg).toInt) f9_.1 f9_.2
  rcases b01 q2 with rfl | rfl
  · refine lv_iload_n hx hb dB_3_1_65.1.1.1.1 rfl (lv_at hl 2 rfl) ?_
    refine lv_if_eq (tgt := 13) hx hb dB_3_1_65.1.1.1.2 (by decide) (fun c_1 => ?_) (fun c_1 => ?_)
    · have _ := c_1
      refine lv_aload_n hx hb dB_3_1_65.1.2.2.2 rfl (lv_at hl 0 rfl) ?_
      refine va_get (ci := 12) (v := .ref g22) (C := RX12) (T := TX12) (N := 34) hx hb hts (fun _ h => List.mem_cons_of_mem _ (List.mem_append_right _ h)) hown hK.1 hP 0 rfl rfl 22 (by decide) (hts (.fieldLink RX12 61 "CutAtlasModel" "flows" "[I") (List.mem_of_getElem? (i := 1) rfl)) (fun _ h9 => h9) rfl dB_3_1_65.2.1.1.1 ?_
      refine lv_iload_n hx hb dB_3_1_65.2.1.1.2 rfl (lv_at hl 1 rfl) ?_
      have h_2 : vp_in a1 40 := in_I (by first | with_reducible assumption | omega) (by omega)
      refine va_iald hx hb hK.1 hP 4 0 rfl rfl (i := a1) h_2 dB_3_1_65.2.1.2.1 ?_
      refine lv_topi (fun y_3 ey_3 => ?_)
      have ky_3 : y_3.toInt = (f22 a1.toNatClampNeg).toInt := by rw [ey_3]
      refine lv_ineg hx hb dB_3_1_65.2.1.2.2 ?_
      refine lv_topi (fun y_4 ey_4 => ?_)
      have ty_4 : y_4.toInt = - y_3.toInt := by rw [ey_4]; exact negI (by omega)
      refine lv_istore_n (lv' := [(3, .int y_4), (0, .ref mo), (1, .int a1), (2, .int 0)]) hx hb dB_3_1_65.2.2.1.1 rfl hl (by decide) rfl (fun ls hl => ?_)
      refine lv_aload_n hx hb dB_3_1_65.2.2.1.2 rfl (lv_at hl 1 rfl) ?_
      refine lv_iload_n hx hb dB_3_1_65.2.2.2.1 rfl (lv_at hl 2 rfl) ?_
      refine lv_iload_n hx hb dB_3_1_65.2.2.2.2 rfl (lv_at hl 3 rfl) ?_
      refine ct_R hP hD0 [ob12_0_ mo s0 s1 t2 s3 s4 g5 g6 g7 g8 g9 g10 s11 g12 g13 g14 g15 g16 g17 g18 g19 g20 s21 g22 g23 g24 s25 s26 s27 s28 g29 g30 g31 g32 g33, ai_ cy g5 40 f5, ai_ cy g8 40 f8] [0, 1, 2] (by decide) rfl (fun hPc hDw => ?_)
      have hFc := va_free (wc := []) hD hS hA [] rfl
      refine va_calli (va_runV (As := [.int a1, .int 0]) (rest := []) ⟨hx, hb, hml, hown, hts⟩ (c_X12_room l D cy s.heap.size mo g5 g6 g7 g8 g9 g10 g12 g13 g14 g15 g16 g17 g18 g19 g20 g22 g23 g24 g29 g30 g31 g32 g33 s0 s1 s3 s4 s11 s21 s25 s26 s27 s28 t2 f5 f8 a1 (0 : Int32) (by first | with_reducible assumption | omega | assumption)) (cwV 2 hts gX12_step_X12_room rfl rfl rfl ⟨rfl, hd_X12_room⟩ ⟨Nat.le_of_ble_eq_true rfl, Nat.le_of_ble_eq_true rfl⟩) ⟨bl_, va_recvX hK.1 hP (ci := 12) (q0 := 0) rfl rfl, fun U hU hW => ⟨rfl, by rw [hU], by rw [hU]; exact hPc, kk_mv hW hK, hDw⟩⟩ rfl rfl hl.1 rfl (lv_room (Nat.le_of_ble_eq_true rfl)) dB_3_1_66.1.1 ⟨Nat.le_of_ble_eq_true rfl, Nat.le_of_ble_eq_true rfl⟩) hS (fun q _ h => hFc q h) hFc (fun r_5 u t H locs ht hvm hw hB hz1 hk1 hS => ?_)
      have hP : va_P D vwCl _ H := ro_keep hP hk1
      have f0_r_5 := hw
      have rI_1 := room_I (r := r_5) (by assumption) (by omega) (by omega) (r_f8 _ (in_lt (in_I (by omega) (by omega))))
      refine lv_istore (lv' := [(4, .int r_5), (3, .int y_4), (0, .ref mo), (1, .int a1), (2, .int 0)]) hx hb dB_3_1_66.1.2.1 hl (by decide) rfl (fun ls hl => ?_)
      refine lv_aload_n hx hb dB_3_1_66.1.2.2 rfl (lv_at hl 2 rfl) ?_
      refine lv_iload_n hx hb dB_3_1_66.2.1 rfl (lv_at hl 3 rfl) ?_
      refine lv_iload_n hx hb dB_3_1_66.2.2.1 rfl (lv_at hl 4 rfl) ?_
      refine lv_if_ne (tgt := 39) hx hb dB_3_1_66.2.2.2 (by decide) (fun c_6 => ?_) (fun c_6 => ?_)
      · exact absurd c_6 (by decide)
      · have _ := c_6
        refine lv_iconst (v := 1) hx hb dB_3_2_51.1.1.1.1 (by decide) ?_
        refine lv_goto (tgt := 40) hx hb dB_3_2_51.1.1.1.2 (by decide) ?_
        refine ct_R hP hD0 [ob12_0_ mo s0 s1 t2 s3 s4 g5 g6 g7 g8 g9 g10 s11 g12 g13 g14 g15 g16 g17 g18 g19 g20 s21 g22 g23 g24 s25 s26 s27 s28 g29 g30 g31 g32 g33, ai_ cy g5 40 f5, ai_ cy g8 40 f8] [0, 1, 2] (by decide) rfl (fun hPc hDw => ?_)
        have hFc := va_free (wc := []) hD hS hA [] rfl
        refine va_calli (va_runV (As := [.int a1, .int 1]) (rest := []) ⟨hx, hb, hml, hown, hts⟩ (c_X12_room l D cy H.size mo g5 g6 g7 g8 g9 g10 g12 g13 g14 g15 g16 g17 g18 g19 g20 g22 g23 g24 g29 g30 g31 g32 g33 s0 s1 s3 s4 s11 s21 s25 s26 s27 s28 t2 f5 f8 a1 (1 : Int32) (by first | with_reducible assumption | omega | assumption)) (cwV 2 hts gX12_step_X12_room rfl rfl rfl ⟨rfl, hd_X12_room⟩ ⟨Nat.le_of_ble_eq_true rfl, Nat.le_of_ble_eq_true rfl⟩) ⟨bl_, va_recvX hK.1 hP (ci := 12) (q0 := 0) rfl rfl, fun U hU hW => ⟨rfl, by rw [hU], by rw [hU]; exact hPc, kk_mv hW hK, hDw⟩⟩ rfl rfl hl.1 rfl (lv_room (Nat.le_of_ble_eq_true rfl)) dB_3_2_51.1.1.2.2 ⟨Nat.le_of_ble_eq_true rfl, Nat.le_of_ble_eq_true rfl⟩) hS (fun q _ h => hFc q h) hFc (fun r_7 u t H locs ht hvm hw hB hz1 hk1 hS => ?_)
        have hP : va_P D vwCl _ H := ro_keep hP hk1
        have f0_r_7 := hw
        have rI_2 := room_I (r := r_7) (by assumption) (by omega) (by omega) (r_f8 _ (in_lt (in_I (by omega) (by omega))))
        refine lv_istore (lv' := [(5, .int r_7), (4, .int r_5), (3, .int y_4), (0, .ref mo), (1, .int a1), (2, .int 0)]) hx hb dB_3_2_51.1.2.1.1 hl (by decide) rfl (fun ls hl => ?_)
        refine lv_aload_n hx hb dB_3_2_51.1.2.1.2 rfl (lv_at hl 3 rfl) ?_
        refine lv_iload_n hx hb dB_3_2_51.1.2.2.1 rfl (lv_at hl 4 rfl) ?_
        refine ct_R hP hD0 [ob12_0_ mo s0 s1 t2 s3 s4 g5 g6 g7 g8 g9 g10 s11 g12 g13 g14 g15 g16 g17 g18 g19 g20 s21 g22 g23 g24 s25 s26 s27 s28 g29 g30 g31 g32 g33, ai_ cy g5 40 f5, ai_ cy g9 40 f9] [0, 1, 3] (by decide) rfl (fun hPc hDw => ?_)
        have hFc := va_free (wc := []) hD hS hA [] rfl
        refine va_calli (va_runV (As := [.int a1]) (rest := []) ⟨hx, hb, hml, hown, hts⟩ (c_X12_costs2 l D cy H.size mo g5 g6 g7 g8 g9 g10 g12 g13 g14 g15 g16 g17 g18 g19 g20 g22 g23 g24 g29 g30 g31 g32 g33 s0 s1 s3 s4 s11 s21 s25 s26 s27 s28 t2 f5 f9 a1 (by first | with_reducible assumption | omega | assumption) (by first | with_reducible assumption | assumption | omega)) (cwV 1 hts gX12_step_X12_costs rfl rfl rfl ⟨rfl, hd_X12_costs⟩ ⟨Nat.le_of_ble_eq_true rfl, Nat.le_of_ble_eq_true rfl⟩) ⟨bl_, va_recvX hK.1 hP (ci := 12) (q0 := 0) rfl rfl, fun U hU hW => ⟨rfl, by rw [hU], by rw [hU]; exact hPc, kk_mv hW hK, hDw⟩⟩ rfl rfl hl.1 rfl (lv_room (Nat.le_of_ble_eq_true rfl)) dB_3_2_51.1.2.2.2 ⟨Nat.le_of_ble_eq_true rfl, Nat.le_of_ble_eq_true rfl⟩) hS (fun q _ h => hFc q h) hFc (fun r_8 u t H locs ht hvm hw hB hz1 hk1 hS => ?_)
        have hP : va_P D vwCl _ H := ro_keep hP hk1
        have f0_r_8 := hw
        refine lv_istore (lv' := [(6, .int r_8), (5, .int r_7), (4, .int r_5), (3, .int y_4), (0, .ref mo), (1, .int a1), (2, .int 0)]) hx hb dB_3_2_51.2.1.1.1 hl (by decide) rfl (fun ls hl => ?_)
        refine lv_iload_n hx hb dB_3_2_51.2.1.1.2 rfl (lv_at hl 3 rfl) ?_
        refine lv_if_ge (tgt := 68) hx hb dB_3_2_51.2.1.2.1 (by decide) (fun c_9 => ?_) (fun c_9 => ?_)
        · have t_9 : (0 : Int32).toInt ≤ y_4.toInt := Int32.le_iff_toInt_le.mp c_9
          refine lv_iload_n hx hb dB_3_2_52.1.1.2.2 rfl (lv_at hl 3 rfl) ?_
          refine lv_iload hx hb dB_3_2_52.1.2.1.1 (lv_at hl 2 rfl) ?_
          refine lv_icmp_ge (tgt := 78) hx hb dB_3_2_52.1.2.1.2 (by decide) (fun c_10 => ?_) (fun c_10 => ?_)
          · have t_10 : r_5.toInt ≤ y_4.toInt := Int32.le_iff_toInt_le.mp c_10
            refine lv_iload hx hb dB_3_2_52.2.1.1.1 (lv_at hl 0 rfl) ?_
            refine lv_bipush (v := (-9)) hx hb dB_3_2_52.2.1.1.2 (by decide) ?_
            refine lv_icmp_ne (tgt := 91) hx hb dB_3_2_52.2.1.2.1 (by decide) (fun c_11 => ?_) (fun c_11 => ?_)
            · have t_11 : ¬ r_8.toInt = ((-9) : Int32).toInt := fun h => c_11 (Int32.toInt_inj.mp h)
              refine lv_iload hx hb dB_3_2_52.2.2.1.2 (lv_at hl 0 rfl) ?_
              refine lv_i2l (v := r_8.toInt64) hx hb dB_3_2_52.2.2.2.1 rfl ?_
              have q_93 : (r_8.toInt64).toInt = r_8.toInt := Int32.toInt_toInt64 r_8
              rw [hQ]
              exact W.lret (v := r_8.toInt64) hx hb hr (fun t ht hW => ⟨⟨r_8.toInt64, (), rfl, (by unfold eS stI; (repeat' split) <;> omega), trivial⟩, hS.F ht⟩) hS.2.2 dB_3_2_52.2.2.2.2
            · have t_11 : r_8.toInt = ((-9) : Int32).toInt := congrArg Int32.toInt c_11
              refine lv_ldc2 (v := 1000000) hx hb hown (hts (.constantLong RX12 118 (1000000)) (List.mem_of_getElem? (i := 2) rfl)) dB_3_2_52.2.1.2.2 ?_
              refine lv_goto (tgt := 94) hx hb dB_3_2_52.2.2.1.1 (by decide) ?_
              rw [hQ]
              exact W.lret (v := 1000000) hx hb hr (fun t ht hW => ⟨⟨1000000, (), rfl, (by unfold eS stI; (repeat' split) <;> omega), trivial⟩, hS.F ht⟩) hS.2.2 dB_3_2_52.2.2.2.2
          · have t_10 : ¬ r_5.toInt ≤ y_4.toInt := fun h => c_10 (Int32.le_iff_toInt_le.mpr h)
            refine lv_lconst (v := 0) hx hb dB_3_2_52.1.2.2.1 (by decide) ?_
            refine lv_goto (tgt := 94) hx hb dB_3_2_52.1.2.2.2 (by decide) ?_
            rw [hQ]
            exact W.lret (v := 0) hx hb hr (fun t ht hW => ⟨⟨0, (), rfl, (by unfold eS stI; (repeat' split) <;> omega), trivial⟩, hS.F ht⟩) hS.2.2 dB_3_2_52.2.2.2.2
        · have t_9 : ¬ (0 : Int32).toInt ≤ y_4.toInt := fun h => c_9 (Int32.le_iff_toInt_le.mpr h)
          refine lv_iload_n hx hb dB_3_2_51.2.1.2.2 rfl (lv_at hl 3 rfl) ?_
          refine lv_ineg hx hb dB_3_2_51.2.2.1.1 ?_
          refine lv_topi (fun y_12 ey_12 => ?_)
          have ty_12 : y_12.toInt = - y_4.toInt := by rw [ey_12]; exact negI (by omega)
          refine lv_iload hx hb dB_3_2_51.2.2.1.2 (lv_at hl 1 rfl) ?_
          refine lv_icmp_le (tgt := 68) hx hb dB_3_2_51.2.2.2.1 (by decide) (fun c_13 => ?_) (fun c_13 => ?_)
          · have t_13 : y_12.toInt ≤ r_7.toInt := Int32.le_iff_toInt_le.mp c_13
            refine lv_iload_n hx hb dB_3_2_52.1.1.2.2 rfl (lv_at hl 3 rfl) ?_
            refine lv_iload hx hb dB_3_2_52.1.2.1.1 (lv_at hl 2 rfl) ?_
            refine lv_icmp_ge (tgt := 78) hx hb dB_3_2_52.1.2.1.2 (by decide) (fun c_14 => ?_) (fun c_14 => ?_)
            · have t_14 : r_5.toInt ≤ y_4.toInt := Int32.le_iff_toInt_le.mp c_14
              refine lv_iload hx hb dB_3_2_52.2.1.1.1 (lv_at hl 0 rfl) ?_
              refine lv_bipush (v := (-9)) hx hb dB_3_2_52.2.1.1.2 (by decide) ?_
              refine lv_icmp_ne (tgt := 91) hx hb dB_3_2_52.2.1.2.1 (by decide) (fun c_15 => ?_) (fun c_15 => ?_)
              · have t_15 : ¬ r_8.toInt = ((-9) : Int32).toInt := fun h => c_15 (Int32.toInt_inj.mp h)
                refine lv_iload hx hb dB_3_2_52.2.2.1.2 (lv_at hl 0 rfl) ?_
                refine lv_i2l (v := r_8.toInt64) hx hb dB_3_2_52.2.2.2.1 rfl ?_
                have q_93 : (r_8.toInt64).toInt = r_8.toInt := Int32.toInt_toInt64 r_8
                rw [hQ]
                exact W.lret (v := r_8.toInt64) hx hb hr (fun t ht hW => ⟨⟨r_8.toInt64, (), rfl, (by unfold eS stI; (repeat' split) <;> omega), trivial⟩, hS.F ht⟩) hS.2.2 dB_3_2_52.2.2.2.2
              · have t_15 : r_8.toInt = ((-9) : Int32).toInt := congrArg Int32.toInt c_15
                refine lv_ldc2 (v := 1000000) hx hb hown (hts (.constantLong RX12 118 (1000000)) (List.mem_of_getElem? (i := 2) rfl)) dB_3_2_52.2.1.2.2 ?_
                refine lv_goto (tgt := 94) hx hb dB_3_2_52.2.2.1.1 (by decide) ?_
                rw [hQ]
                exact W.lret (v := 1000000) hx hb hr (fun t ht hW => ⟨⟨1000000, (), rfl, (by unfold eS stI; (repeat' split) <;> omega), trivial⟩, hS.F ht⟩) hS.2.2 dB_3_2_52.2.2.2.2
            · have t_14 : ¬ r_5.toInt ≤ y_4.toInt := fun h => c_14 (Int32.le_iff_toInt_le.mpr h)
              refine lv_lconst (v := 0) hx hb dB_3_2_52.1.2.2.1 (by decide) ?_
              refine lv_goto (tgt := 94) hx hb dB_3_2_52.1.2.2.2 (by decide) ?_
              rw [hQ]
              exact W.lret (v := 0) hx hb hr (fun t ht hW => ⟨⟨0, (), rfl, (by unfold eS stI; (repeat' split) <;> omega), trivial⟩, hS.F ht⟩) hS.2.2 dB_3_2_52.2.2.2.2
          · have t_13 : ¬ y_12.toInt ≤ r_7.toInt := fun h => c_13 (Int32.le_iff_toInt_le.mpr h)
            refine lv_iload hx hb dB_3_2_51.2.2.2.2 (lv_at hl 0 rfl) ?_
            refine lv_ineg hx hb dB_3_2_52.1.1.1.1 ?_
            refine lv_topi (fun y_16 ey_16 => ?_)
            have ty_16 : y_16.toInt = - r_8.toInt := by rw [ey_16]; exact negI (by omega)
            refine lv_i2l (v := y_16.toInt64) hx hb dB_3_2_52.1.1.1.2 rfl ?_
            have q_66 : (y_16.toInt64).toInt = y_16.toInt := Int32.toInt_toInt64 y_16
            rw [hQ]
            exact W.lret (v := y_16.toInt64) hx hb hr (fun t ht hW => ⟨⟨y_16.toInt64, (), rfl, (by unfold eS stI; (repeat' split) <;> omega), trivial⟩, hS.F ht⟩) hS.2.2 dB_3_2_52.1.1.2.1
    · exact absurd c_1 (by decide)
  · refine lv_iload_n hx hb dB_3_1_65.1.1.1.1 rfl (lv_at hl 2 rfl) ?_
    refine lv_if_eq (tgt := 13) hx hb dB_3_1_65.1.1.1.2 (by decide) (fun c_17 => ?_) (fun c_17 => ?_)
    · exact absurd c_17 (by decide)
    · have _ := c_17
      refine lv_aload_n hx hb dB_3_1_65.1.1.2.1 rfl (lv_at hl 0 rfl) ?_
      refine va_get (ci := 12) (v := .ref g22) (C := RX12) (T := TX12) (N := 34) hx hb hts (fun _ h => List.mem_cons_of_mem _ (List.mem_append_right _ h)) hown hK.1 hP 0 rfl rfl 22 (by decide) (hts (.fieldLink RX12 61 "CutAtlasModel" "flows" "[I") (List.mem_of_getElem? (i := 1) rfl)) (fun _ h9 => h9) rfl dB_3_1_65.1.1.2.2 ?_
      refine lv_iload_n hx hb dB_3_1_65.1.2.1.1 rfl (lv_at hl 1 rfl) ?_
      have h_18 : vp_in a1 40 := in_I (by first | with_reducible assumption | omega) (by omega)
      refine va_iald hx hb hK.1 hP 4 0 rfl rfl (i := a1) h_18 dB_3_1_65.1.2.1.2 ?_
      refine lv_topi (fun y_19 ey_19 => ?_)
      have ky_19 : y_19.toInt = (f22 a1.toNatClampNeg).toInt := by rw [ey_19]
      refine lv_goto (tgt := 20) hx hb dB_3_1_65.1.2.2.1 (by decide) ?_
      refine lv_istore_n (lv' := [(3, .int y_19), (0, .ref mo), (1, .int a1), (2, .int 1)]) hx hb dB_3_1_65.2.2.1.1 rfl hl (by decide) rfl (fun ls hl => ?_)
      refine lv_aload_n hx hb dB_3_1_65.2.2.1.2 rfl (lv_at hl 1 rfl) ?_
      refine lv_iload_n hx hb dB_3_1_65.2.2.2.1 rfl (lv_at hl 2 rfl) ?_
      refine lv_iload_n hx hb dB_3_1_65.2.2.2.2 rfl (lv_at hl 3 rfl) ?_
      refine ct_R hP hD0 [ob12_0_ mo s0 s1 t2 s3 s4 g5 g6 g7 g8 g9 g10 s11 g12 g13 g14 g15 g16 g17 g18 g19 g20 s21 g22 g23 g24 s25 s26 s27 s28 g29 g30 g31 g32 g33, ai_ cy g5 40 f5, ai_ cy g8 40 f8] [0, 1, 2] (by decide) rfl (fun hPc hDw => ?_)
      have hFc := va_free (wc := []) hD hS hA [] rfl
      refine va_calli (va_runV (As := [.int a1, .int 1]) (rest := []) ⟨hx, hb, hml, hown, hts⟩ (c_X12_room l D cy s.heap.size mo g5 g6 g7 g8 g9 g10 g12 g13 g14 g15 g16 g17 g18 g19 g20 g22 g23 g24 g29 g30 g31 g32 g33 s0 s1 s3 s4 s11 s21 s25 s26 s27 s28 t2 f5 f8 a1 (1 : Int32) (by first | with_reducible assumption | omega | assumption)) (cwV 2 hts gX12_step_X12_room rfl rfl rfl ⟨rfl, hd_X12_room⟩ ⟨Nat.le_of_ble_eq_true rfl, Nat.le_of_ble_eq_true rfl⟩) ⟨bl_, va_recvX hK.1 hP (ci := 12) (q0 := 0) rfl rfl, fun U hU hW => ⟨rfl, by rw [hU], by rw [hU]; exact hPc, kk_mv hW hK, hDw⟩⟩ rfl rfl hl.1 rfl (lv_room (Nat.le_of_ble_eq_true rfl)) dB_3_1_66.1.1 ⟨Nat.le_of_ble_eq_true rfl, Nat.le_of_ble_eq_true rfl⟩) hS (fun q _ h => hFc q h) hFc (fun r_20 u t H locs ht hvm hw hB hz1 hk1 hS => ?_)
      have hP : va_P D vwCl _ H := ro_keep hP hk1
      have f0_r_20 := hw
      have rI_1 := room_I (r := r_20) (by assumption) (by omega) (by omega) (r_f8 _ (in_lt (in_I (by omega) (by omega))))
      refine lv_istore (lv' := [(4, .int r_20), (3, .int y_19), (0, .ref mo), (1, .int a1), (2, .int 1)]) hx hb dB_3_1_66.1.2.1 hl (by decide) rfl (fun ls hl => ?_)
      refine lv_aload_n hx hb dB_3_1_66.1.2.2 rfl (lv_at hl 2 rfl) ?_
      refine lv_iload_n hx hb dB_3_1_66.2.1 rfl (lv_at hl 3 rfl) ?_
      refine lv_iload_n hx hb dB_3_1_66.2.2.1 rfl (lv_at hl 4 rfl) ?_
      refine lv_if_ne (tgt := 39) hx hb dB_3_1_66.2.2.2 (by decide) (fun c_21 => ?_) (fun c_21 => ?_)
      · have _ := c_21
        refine lv_iconst (v := 0) hx hb dB_3_2_51.1.1.2.1 (by decide) ?_
        refine ct_R hP hD0 [ob12_0_ mo s0 s1 t2 s3 s4 g5 g6 g7 g8 g9 g10 s11 g12 g13 g14 g15 g16 g17 g18 g19 g20 s21 g22 g23 g24 s25 s26 s27 s28 g29 g30 g31 g32 g33, ai_ cy g5 40 f5, ai_ cy g8 40 f8] [0, 1, 2] (by decide) rfl (fun hPc hDw => ?_)
        have hFc := va_free (wc := []) hD hS hA [] rfl
        refine va_calli (va_runV (As := [.int a1, .int 0]) (rest := []) ⟨hx, hb, hml, hown, hts⟩ (c_X12_room l D cy H.size mo g5 g6 g7 g8 g9 g10 g12 g13 g14 g15 g16 g17 g18 g19 g20 g22 g23 g24 g29 g30 g31 g32 g33 s0 s1 s3 s4 s11 s21 s25 s26 s27 s28 t2 f5 f8 a1 (0 : Int32) (by first | with_reducible assumption | omega | assumption)) (cwV 2 hts gX12_step_X12_room rfl rfl rfl ⟨rfl, hd_X12_room⟩ ⟨Nat.le_of_ble_eq_true rfl, Nat.le_of_ble_eq_true rfl⟩) ⟨bl_, va_recvX hK.1 hP (ci := 12) (q0 := 0) rfl rfl, fun U hU hW => ⟨rfl, by rw [hU], by rw [hU]; exact hPc, kk_mv hW hK, hDw⟩⟩ rfl rfl hl.1 rfl (lv_room (Nat.le_of_ble_eq_true rfl)) dB_3_2_51.1.1.2.2 ⟨Nat.le_of_ble_eq_true rfl, Nat.le_of_ble_eq_true rfl⟩) hS (fun q _ h => hFc q h) hFc (fun r_22 u t H locs ht hvm hw hB hz1 hk1 hS => ?_)
        have hP : va_P D vwCl _ H := ro_keep hP hk1
        have f0_r_22 := hw
        have rI_2 := room_I (r := r_22) (by assumption) (by omega) (by omega) (r_f8 _ (in_lt (in_I (by omega) (by omega))))
        refine lv_istore (lv' := [(5, .int r_22), (4, .int r_20), (3, .int y_19), (0, .ref mo), (1, .int a1), (2, .int 1)]) hx hb dB_3_2_51.1.2.1.1 hl (by decide) rfl (fun ls hl => ?_)
        refine lv_aload_n hx hb dB_3_2_51.1.2.1.2 rfl (lv_at hl 3 rfl) ?_
        refine lv_iload_n hx hb dB_3_2_51.1.2.2.1 rfl (lv_at hl 4 rfl) ?_
        refine ct_R hP hD0 [ob12_0_ mo s0 s1 t2 s3 s4 g5 g6 g7 g8 g9 g10 s11 g12 g13 g14 g15 g16 g17 g18 g19 g20 s21 g22 g23 g24 s25 s26 s27 s28 g29 g30 g31 g32 g33, ai_ cy g5 40 f5, ai_ cy g9 40 f9] [0, 1, 3] (by decide) rfl (fun hPc hDw => ?_)
        have hFc := va_free (wc := []) hD hS hA [] rfl
        refine va_calli (va_runV (As := [.int a1]) (rest := []) ⟨hx, hb, hml, hown, hts⟩ (c_X12_costs2 l D cy H.size mo g5 g6 g7 g8 g9 g10 g12 g13 g14 g15 g16 g17 g18 g19 g20 g22 g23 g24 g29 g30 g31 g32 g33 s0 s1 s3 s4 s11 s21 s25 s26 s27 s28 t2 f5 f9 a1 (by first | with_reducible assumption | omega | assumption) (by first | with_reducible assumption | assumption | omega)) (cwV 1 hts gX12_step_X12_costs rfl rfl rfl ⟨rfl, hd_X12_costs⟩ ⟨Nat.le_of_ble_eq_true rfl, Nat.le_of_ble_eq_true rfl⟩) ⟨bl_, va_recvX hK.1 hP (ci := 12) (q0 := 0) rfl rfl, fun U hU hW => ⟨rfl, by rw [hU], by rw [hU]; exact hPc, kk_mv hW hK, hDw⟩⟩ rfl rfl hl.1 rfl (lv_room (Nat.le_of_ble_eq_true rfl)) dB_3_2_51.1.2.2.2 ⟨Nat.le_of_ble_eq_true rfl, Nat.le_of_ble_eq_true rfl⟩) hS (fun q _ h => hFc q h) hFc (fun r_23 u t H locs ht hvm hw hB hz1 hk1 hS => ?_)
        have hP : va_P D vwCl _ H := ro_keep hP hk1
        have f0_r_23 := hw
        refine lv_istore (lv' := [(6, .int r_23), (5, .int r_22), (4, .int r_20), (3, .int y_19), (0, .ref mo), (1, .int a1), (2, .int 1)]) hx hb dB_3_2_51.2.1.1.1 hl (by decide) rfl (fun ls hl => ?_)
        refine lv_iload_n hx hb dB_3_2_51.2.1.1.2 rfl (lv_at hl 3 rfl) ?_
        refine lv_if_ge (tgt := 68) hx hb dB_3_2_51.2.1.2.1 (by decide) (fun c_24 => ?_) (fun c_24 => ?_)
        · have t_24 : (0 : Int32).toInt ≤ y_19.toInt := Int32.le_iff_toInt_le.mp c_24
          refine lv_iload_n hx hb dB_3_2_52.1.1.2.2 rfl (lv_at hl 3 rfl) ?_
          refine lv_iload hx hb dB_3_2_52.1.2.1.1 (lv_at hl 2 rfl) ?_
          refine lv_icmp_ge (tgt := 78) hx hb dB_3_2_52.1.2.1.2 (by decide) (fun c_25 => ?_) (fun c_25 => ?_)
          · have t_25 : r_20.toInt ≤ y_19.toInt := Int32.le_iff_toInt_le.mp c_25
            refine lv_iload hx hb dB_3_2_52.2.1.1.1 (lv_at hl 0 rfl) ?_
            refine lv_bipush (v := (-9)) hx hb dB_3_2_52.2.1.1.2 (by decide) ?_
            refine lv_icmp_ne (tgt := 91) hx hb dB_3_2_52.2.1.2.1 (by decide) (fun c_26 => ?_) (fun c_26 => ?_)
            · have t_26 : ¬ r_23.toInt = ((-9) : Int32).toInt := fun h => c_26 (Int32.toInt_inj.mp h)
              refine lv_iload hx hb dB_3_2_52.2.2.1.2 (lv_at hl 0 rfl) ?_
              refine lv_i2l (v := r_23.toInt64) hx hb dB_3_2_52.2.2.2.1 rfl ?_
              have q_93 : (r_23.toInt64).toInt = r_23.toInt := Int32.toInt_toInt64 r_23
              rw [hQ]
              exact W.lret (v := r_23.toInt64) hx hb hr (fun t ht hW => ⟨⟨r_23.toInt64, (), rfl, (by unfold eS stI; (repeat' split) <;> omega), trivial⟩, hS.F ht⟩) hS.2.2 dB_3_2_52.2.2.2.2
            · have t_26 : r_23.toInt = ((-9) : Int32).toInt := congrArg Int32.toInt c_26
              refine lv_ldc2 (v := 1000000) hx hb hown (hts (.constantLong RX12 118 (1000000)) (List.mem_of_getElem? (i := 2) rfl)) dB_3_2_52.2.1.2.2 ?_
              refine lv_goto (tgt := 94) hx hb dB_3_2_52.2.2.1.1 (by decide) ?_
              rw [hQ]
              exact W.lret (v := 1000000) hx hb hr (fun t ht hW => ⟨⟨1000000, (), rfl, (by unfold eS stI; (repeat' split) <;> omega), trivial⟩, hS.F ht⟩) hS.2.2 dB_3_2_52.2.2.2.2
          · have t_25 : ¬ r_20.toInt ≤ y_19.toInt := fun h => c_25 (Int32.le_iff_toInt_le.mpr h)
            refine lv_lconst (v := 0) hx hb dB_3_2_52.1.2.2.1 (by decide) ?_
            refine lv_goto (tgt := 94) hx hb dB_3_2_52.1.2.2.2 (by decide) ?_
            rw [hQ]
            exact W.lret (v := 0) hx hb hr (fun t ht hW => ⟨⟨0, (), rfl, (by unfold eS stI; (repeat' split) <;> omega), trivial⟩, hS.F ht⟩) hS.2.2 dB_3_2_52.2.2.2.2
        · have t_24 : ¬ (0 : Int32).toInt ≤ y_19.toInt := fun h => c_24 (Int32.le_iff_toInt_le.mpr h)
          refine lv_iload_n hx hb dB_3_2_51.2.1.2.2 rfl (lv_at hl 3 rfl) ?_
          refine lv_ineg hx hb dB_3_2_51.2.2.1.1 ?_
          refine lv_topi (fun y_27 ey_27 => ?_)
          have ty_27 : y_27.toInt = - y_19.toInt := by rw [ey_27]; exact negI (by omega)
          refine lv_iload hx hb dB_3_2_51.2.2.1.2 (lv_at hl 1 rfl) ?_
          refine lv_icmp_le (tgt := 68) hx hb dB_3_2_51.2.2.2.1 (by decide) (fun c_28 => ?_) (fun c_28 => ?_)
          · have t_28 : y_27.toInt ≤ r_22.toInt := Int32.le_iff_toInt_le.mp c_28
            refine lv_iload_n hx hb dB_3_2_52.1.1.2.2 rfl (lv_at hl 3 rfl) ?_
            refine lv_iload hx hb dB_3_2_52.1.2.1.1 (lv_at hl 2 rfl) ?_
            refine lv_icmp_ge (tgt := 78) hx hb dB_3_2_52.1.2.1.2 (by decide) (fun c_29 => ?_) (fun c_29 => ?_)
            · have t_29 : r_20.toInt ≤ y_19.toInt := Int32.le_iff_toInt_le.mp c_29
              refine lv_iload hx hb dB_3_2_52.2.1.1.1 (lv_at hl 0 rfl) ?_
              refine lv_bipush (v := (-9)) hx hb dB_3_2_52.2.1.1.2 (by decide) ?_
              refine lv_icmp_ne (tgt := 91) hx hb dB_3_2_52.2.1.2.1 (by decide) (fun c_30 => ?_) (fun c_30 => ?_)
              · have t_30 : ¬ r_23.toInt = ((-9) : Int32).toInt := fun h => c_30 (Int32.toInt_inj.mp h)
                refine lv_iload hx hb dB_3_2_52.2.2.1.2 (lv_at hl 0 rfl) ?_
                refine lv_i2l (v := r_23.toInt64) hx hb dB_3_2_52.2.2.2.1 rfl ?_
                have q_93 : (r_23.toInt64).toInt = r_23.toInt := Int32.toInt_toInt64 r_23
                rw [hQ]
                exact W.lret (v := r_23.toInt64) hx hb hr (fun t ht hW => ⟨⟨r_23.toInt64, (), rfl, (by unfold eS stI; (repeat' split) <;> omega), trivial⟩, hS.F ht⟩) hS.2.2 dB_3_2_52.2.2.2.2
              · have t_30 : r_23.toInt = ((-9) : Int32).toInt := congrArg Int32.toInt c_30
                refine lv_ldc2 (v := 1000000) hx hb hown (hts (.constantLong RX12 118 (1000000)) (List.mem_of_getElem? (i := 2) rfl)) dB_3_2_52.2.1.2.2 ?_
                refine lv_goto (tgt := 94) hx hb dB_3_2_52.2.2.1.1 (by decide) ?_
                rw [hQ]
                exact W.lret (v := 1000000) hx hb hr (fun t ht hW => ⟨⟨1000000, (), rfl, (by unfold eS stI; (repeat' split) <;> omega), trivial⟩, hS.F ht⟩) hS.2.2 dB_3_2_52.2.2.2.2
            · have t_29 : ¬ r_20.toInt ≤ y_19.toInt := fun h => c_29 (Int32.le_iff_toInt_le.mpr h)
              refine lv_lconst (v := 0) hx hb dB_3_2_52.1.2.2.1 (by decide) ?_
              refine lv_goto (tgt := 94) hx hb dB_3_2_52.1.2.2.2 (by decide) ?_
              rw [hQ]
              exact W.lret (v := 0) hx hb hr (fun t ht hW => ⟨⟨0, (), rfl, (by unfold eS stI; (repeat' split) <;> omega), trivial⟩, hS.F ht⟩) hS.2.2 dB_3_2_52.2.2.2.2
          · have t_28 : ¬ y_27.toInt ≤ r_22.toInt := fun h => c_28 (Int32.le_iff_toInt_le.mpr h)
            refine lv_iload hx hb dB_3_2_51.2.2.2.2 (lv_at hl 0 rfl) ?_
            refine lv_ineg hx hb dB_3_2_52.1.1.1.1 ?_
            refine lv_topi (fun y_31 ey_31 => ?_)
            have ty_31 : y_31.toInt = - r_23.toInt := by rw [ey_31]; exact negI (by omega)
            refine lv_i2l (v := y_31.toInt64) hx hb dB_3_2_52.1.1.1.2 rfl ?_
            have q_66 : (y_31.toInt64).toInt = y_31.toInt := Int32.toInt_toInt64 y_31
            rw [hQ]
            exact W.lret (v := y_31.toInt64) hx hb hr (fun t ht hW => ⟨⟨y_31.toInt64, (), rfl, (by unfold eS stI; (repeat' split) <;> omega), trivial⟩, hS.F ht⟩) hS.2.2 dB_3_2_52.1.1.2.1
      · exact absurd c_21 (by decide)

set_option maxHeartbeats 4000000 in
set_option maxRecDepth 100000 in
theorem c_X12_amount2 (l : Launch) (D : va_G) (cy : Nat → ClassId) (sz : Nat) (mo : Nat) (g5 : Nat) (g6 : Nat) (g7 : Nat) (g8 : Nat) (g9 : Nat) (g10 : Nat) (g12 : Nat) (g13 : Nat) (g14 : Nat) (g15 : Nat) (g16 : Nat) (g17 : Nat) (g18 : Nat) (g19 : Nat) (g20 : Nat) (g22 : Nat) (g23 : Nat) (g24 : Nat) (g29 : Nat) (g30 : Nat) (g31 : Nat) (g32 : Nat) (g33 : Nat) (s0 : Int32) (s1 : Int32) (s3 : Int32) (s4 : Int32) (s11 : Int32) (s21 : Int32) (s25 : Int32) (s26 : Int32) (s27 : Int32) (s28 : Int32) (t2 : Int64) (f5 : Nat → Int32) (f8 : Nat → Int32) (f22 : Nat → Int32) (a1 : Int32) (a2 : Int32) (q1 : 0 ≤ a1.toInt ∧ a1.toInt < 40) (h21 : s21.toInt = -9) (q2 : a2.toInt = 0 ∨ a2.toInt = 1) (hf : -1000 ≤ (f22 a1.toNatClampNeg).toInt ∧ (f22 a1.toNatClampNeg).toInt ≤ 1000) (r_f8 : rng f8 40 (0) (2000)) : Met l yX12_amount wsX12_amount ({ frames := 2, cells := 0, slots := 0, locals := 46 }) (va_Pc [.ref mo, .int a1, .int a2] (fun U => U.heap.size = sz ∧ va_P D vwCl [ob12_0_ mo s0 s1 t2 s3 s4 g5 g6 g7 g8 g9 g10 s11 g12 g13 g14 g15 g16 g17 g18 g19 g20 s21 g22 g23 g24 s25 s26 s27 s28 g29 g30 g31 g32 g33, ai_ cy g5 40 f5, ai_ cy g8 40 f8, ai_ cy g22 40 f22] U.heap ∧ kk_ D cy U ∧ va_D (fun _ => True) [ob12_0_ mo s0 s1 t2 s3 s4 g5 g6 g7 g8 g9 g10 s11 g12 g13 g14 g15 g16 g17 g18 g19 g20 s21 g22 g23 g24 s25 s26 s27 s28 g29 g30 g31 g32 g33, ai_ cy g5 40 f5, ai_ cy g8 40 f8, ai_ cy g22 40 f22])) (va_Qi (fun (r : Int32) (_ : Unit) => (r.toInt = eA f5 f8 f22 a1.toNatClampNeg a2.toInt) ∧ (1 ≤ r.toInt)) (fun (_ : Unit) (_ : State) => True) (va_A [] sz)) 0 0 (va_A [] sz) := by
  refine ofQ (cc := cX12_amount) (maxL := 6) (ret := (some .int)) (by decide) rfl ?_
  intro p e s m args below meth c s₁ Q hQ B hml hv
  obtain ⟨rfl, hsz, hP, hK, hD0⟩ := hv
  have hx := B.exec
  have hb := B.bytes
  have hr := B.returns
  have hts := atoms_spec (ws := wsX12_amount) B.pre
  have hown : s.vm.findClass RX12 = some m.cls := by have h_ := findClass_of_methodNamed B.named; exact h_
  have hlocks := B.notSynchronized
  subst hsz
  have hD : va_D (va_A [] s.heap.size) [] := dd_nil
  generalize hAe : va_A [] s.heap.size = A at hD hQ
  have hA : ∀ q : Nat, s.heap.size ≤ q → A q := fun q h => by rw [← hAe]; exact Or.inr h
  have hS : va_S A s.heap s.heap [] := va_S.rf
  have hl := lv_entry ([.ref mo, .int a1, .int a2]) (n := 6) (Nat.le_of_ble_eq_true rfl)
  rw [lg_entry_eq]
  generalize (lg_sl ([.ref mo, .int a1, .int a2]) ++ List.replicate (6 - (lg_sl ([.ref mo, .int a1, .int a2])).length) Slot.unset).toArray = ls at hl ⊢
  have hl : lv_has ls 6 [(0, .ref mo), (1, .int a1), (2, .int a2)] := hl
  have z0 : (0 : Int32).toInt = 0 := by decide
  have z1 : (1 : Int32).toInt = 1 := by decide
  have z1000000 : (1000000 : Int32).toInt = 1000000 := by decide
  have hv : vp_in a1 40 := in_I (by omega) (by omega)
  have fw := r_f8 _ (in_lt hv)
  have w1 := rmI_rng (k := f5 a1.toNatClampNeg) (b := 1) fw.1 fw.2
  have w0 := rmI_rng (k := f5 a1.toNatClampNeg) (b := 0) fw.1 fw.2
  rcases b01 q2 with rfl | rfl
  · refine lv_iload_n hx hb dB_3_2_0.1.1.1.1 rfl (lv_at hl 2 rfl) ?_
    refine lv_if_eq (tgt := 13) hx hb dB_3_2_0.1.1.1.2 (by decide) (fun c_1 => ?_) (fun c_1 => ?_)
    · have _ := c_1
      refine lv_aload_n hx hb dB_3_2_0.1.2.2.2 rfl (lv_at hl 0 rfl) ?_
      refine va_get (ci := 12) (v := .ref g22) (C := RX12) (T := TX12) (N := 34) hx hb hts (fun _ h => List.mem_cons_of_mem _ (List.mem_append_right _ h)) hown hK.1 hP 0 rfl rfl 22 (by decide) (hts (.fieldLink RX12 61 "CutAtlasModel" "flows" "[I") (List.mem_of_getElem? (i := 1) rfl)) (fun _ h9 => h9) rfl dB_3_2_0.2.1.1.1 ?_
      refine lv_iload_n hx hb dB_3_2_0.2.1.1.2 rfl (lv_at hl 1 rfl) ?_
      have h_2 : vp_in a1 40 := in_I (by first | with_reducible assumption | omega) (by omega)
      refine va_iald hx hb hK.1 hP 3 0 rfl rfl (i := a1) h_2 dB_3_2_0.2.1.2.1 ?_
      refine lv_topi (fun y_3 ey_3 => ?_)
      have ky_3 : y_3.toInt = (f22 a1.toNatClampNeg).toInt := by rw [ey_3]
      refine lv_ineg hx hb dB_3_2_0.2.1.2.2 ?_
      refine lv_topi (fun y_4 ey_4 => ?_)
      have ty_4 : y_4.toInt = - y_3.toInt := by rw [ey_4]; exact negI (by omega)
      refine lv_istore_n (lv' := [(3, .int y_4), (0, .ref mo), (1, .int a1), (2, .int 0)]) hx hb dB_3_2_0.2.2.1.1 rfl hl (by decide) rfl (fun ls hl => ?_)
      refine lv_aload_n hx hb dB_3_2_0.2.2.1.2 rfl (lv_at hl 1 rfl) ?_
      refine lv_iload_n hx hb dB_3_2_0.2.2.2.1 rfl (lv_at hl 2 rfl) ?_
      refine lv_iload_n hx hb dB_3_2_0.2.2.2.2 rfl (lv_at hl 3 rfl) ?_
      refine ct_R hP hD0 [ob12_0_ mo s0 s1 t2 s3 s4 g5 g6 g7 g8 g9 g10 s11 g12 g13 g14 g15 g16 g17 g18 g19 g20 s21 g22 g23 g24 s25 s26 s27 s28 g29 g30 g31 g32 g33, ai_ cy g5 40 f5, ai_ cy g8 40 f8] [0, 1, 2] (by decide) rfl (fun hPc hDw => ?_)
      have hFc := va_free (wc := []) hD hS hA [] rfl
      refine va_calli (va_runV (As := [.int a1, .int 0]) (rest := []) ⟨hx, hb, hml, hown, hts⟩ (c_X12_room l D cy s.heap.size mo g5 g6 g7 g8 g9 g10 g12 g13 g14 g15 g16 g17 g18 g19 g20 g22 g23 g24 g29 g30 g31 g32 g33 s0 s1 s3 s4 s11 s21 s25 s26 s27 s28 t2 f5 f8 a1 (0 : Int32) (by first | with_reducible assumption | omega | assumption)) (cwV 2 hts gX12_amount_X12_room rfl rfl rfl ⟨rfl, hd_X12_room⟩ ⟨Nat.le_of_ble_eq_true rfl, Nat.le_of_ble_eq_true rfl⟩) ⟨bl_, va_recvX hK.1 hP (ci := 12) (q0 := 0) rfl rfl, fun U hU hW => ⟨rfl, by rw [hU], by rw [hU]; exact hPc, kk_mv hW hK, hDw⟩⟩ rfl rfl hl.1 rfl (lv_room (Nat.le_of_ble_eq_true rfl)) dB_3_2_1.1.1.1.1 ⟨Nat.le_of_ble_eq_true rfl, Nat.le_of_ble_eq_true rfl⟩) hS (fun q _ h => hFc q h) hFc (fun r_5 u t H locs ht hvm hw hB hz1 hk1 hS => ?_)
      have hP : va_P D vwCl _ H := ro_keep hP hk1
      have f0_r_5 := hw
      have rI_1 := room_I (r := r_5) (by assumption) (by omega) (by omega) (r_f8 _ (in_lt (in_I (by omega) (by omega))))
      refine lv_istore (lv' := [(4, .int r_5), (3, .int y_4), (0, .ref mo), (1, .int a1), (2, .int 0)]) hx hb dB_3_2_1.1.1.1.2 hl (by decide) rfl (fun ls hl => ?_)
      refine lv_aload_n hx hb dB_3_2_1.1.1.2.1 rfl (lv_at hl 2 rfl) ?_
      refine lv_iload_n hx hb dB_3_2_1.1.1.2.2 rfl (lv_at hl 3 rfl) ?_
      refine lv_iload_n hx hb dB_3_2_1.1.2.1.1 rfl (lv_at hl 4 rfl) ?_
      refine lv_if_ne (tgt := 39) hx hb dB_3_2_1.1.2.1.2 (by decide) (fun c_6 => ?_) (fun c_6 => ?_)
      · exact absurd c_6 (by decide)
      · have _ := c_6
        refine lv_iconst (v := 1) hx hb dB_3_2_1.1.2.2.1 (by decide) ?_
        refine lv_goto (tgt := 40) hx hb dB_3_2_1.1.2.2.2 (by decide) ?_
        refine ct_R hP hD0 [ob12_0_ mo s0 s1 t2 s3 s4 g5 g6 g7 g8 g9 g10 s11 g12 g13 g14 g15 g16 g17 g18 g19 g20 s21 g22 g23 g24 s25 s26 s27 s28 g29 g30 g31 g32 g33, ai_ cy g5 40 f5, ai_ cy g8 40 f8] [0, 1, 2] (by decide) rfl (fun hPc hDw => ?_)
        have hFc := va_free (wc := []) hD hS hA [] rfl
        refine va_calli (va_runV (As := [.int a1, .int 1]) (rest := []) ⟨hx, hb, hml, hown, hts⟩ (c_X12_room l D cy H.size mo g5 g6 g7 g8 g9 g10 g12 g13 g14 g15 g16 g17 g18 g19 g20 g22 g23 g24 g29 g30 g31 g32 g33 s0 s1 s3 s4 s11 s21 s25 s26 s27 s28 t2 f5 f8 a1 (1 : Int32) (by first | with_reducible assumption | omega | assumption)) (cwV 2 hts gX12_amount_X12_room rfl rfl rfl ⟨rfl, hd_X12_room⟩ ⟨Nat.le_of_ble_eq_true rfl, Nat.le_of_ble_eq_true rfl⟩) ⟨bl_, va_recvX hK.1 hP (ci := 12) (q0 := 0) rfl rfl, fun U hU hW => ⟨rfl, by rw [hU], by rw [hU]; exact hPc, kk_mv hW hK, hDw⟩⟩ rfl rfl hl.1 rfl (lv_room (Nat.le_of_ble_eq_true rfl)) dB_3_2_1.2.1.1.2 ⟨Nat.le_of_ble_eq_true rfl, Nat.le_of_ble_eq_true rfl⟩) hS (fun q _ h => hFc q h) hFc (fun r_7 u t H locs ht hvm hw hB hz1 hk1 hS => ?_)
        have hP : va_P D vwCl _ H := ro_keep hP hk1
        have f0_r_7 := hw
        have rI_2 := room_I (r := r_7) (by assumption) (by omega) (by omega) (r_f8 _ (in_lt (in_I (by omega) (by omega))))
        refine lv_istore (lv' := [(5, .int r_7), (4, .int r_5), (3, .int y_4), (0, .ref mo), (1, .int a1), (2, .int 0)]) hx hb dB_3_2_1.2.1.2.1 hl (by decide) rfl (fun ls hl => ?_)
        refine lv_iload_n hx hb dB_3_2_1.2.1.2.2 rfl (lv_at hl 2 rfl) ?_
        refine lv_if_ge (tgt := 64) hx hb dB_3_2_1.2.2.1.1 (by decide) (fun c_8 => ?_) (fun c_8 => ?_)
        · have t_8 : (0 : Int32).toInt ≤ y_4.toInt := Int32.le_iff_toInt_le.mp c_8
          refine lv_iload_n hx hb dB_3_2_2.1.2.2.2 rfl (lv_at hl 2 rfl) ?_
          refine lv_iload hx hb dB_3_2_2.2.1.1.1 (lv_at hl 1 rfl) ?_
          refine lv_icmp_ge (tgt := 77) hx hb dB_3_2_2.2.1.1.2 (by decide) (fun c_9 => ?_) (fun c_9 => ?_)
          · have t_9 : r_5.toInt ≤ y_4.toInt := Int32.le_iff_toInt_le.mp c_9
            refine lv_ldc (v := 1000000) hx hb hown (hts (.constant RX12 159 (1000000)) (List.mem_of_getElem? (i := 2) rfl)) dB_3_2_2.2.2.2.1 ?_
            rw [hQ]
            exact W.iret (v := 1000000) hx hb hr (fun t ht hW => ⟨⟨1000000, (), rfl, ⟨by unfold eA amI; (repeat' split) <;> omega, by omega⟩, trivial⟩, hS.F ht⟩) hS.2.2 dB_3_2_2.2.2.2.2
          · have t_9 : ¬ r_5.toInt ≤ y_4.toInt := fun h => c_9 (Int32.le_iff_toInt_le.mpr h)
            refine lv_iload hx hb dB_3_2_2.2.1.2.1 (lv_at hl 1 rfl) ?_
            refine lv_iload_n hx hb dB_3_2_2.2.1.2.2 rfl (lv_at hl 2 rfl) ?_
            refine lv_isub hx hb dB_3_2_2.2.2.1.1 ?_
            refine lv_topi (fun y_10 ey_10 => ?_)
            have ty_10 : y_10.toInt = r_5.toInt - y_4.toInt := by rw [ey_10]; exact subI (by omega) (by omega)
            refine lv_goto (tgt := 79) hx hb dB_3_2_2.2.2.1.2 (by decide) ?_
            rw [hQ]
            exact W.iret (v := y_10) hx hb hr (fun t ht hW => ⟨⟨y_10, (), rfl, ⟨by unfold eA amI; (repeat' split) <;> omega, by omega⟩, trivial⟩, hS.F ht⟩) hS.2.2 dB_3_2_2.2.2.2.2
        · have t_8 : ¬ (0 : Int32).toInt ≤ y_4.toInt := fun h => c_8 (Int32.le_iff_toInt_le.mpr h)
          refine lv_iload_n hx hb dB_3_2_1.2.2.1.2 rfl (lv_at hl 2 rfl) ?_
          refine lv_ineg hx hb dB_3_2_1.2.2.2.1 ?_
          refine lv_topi (fun y_11 ey_11 => ?_)
          have ty_11 : y_11.toInt = - y_4.toInt := by rw [ey_11]; exact negI (by omega)
          refine lv_iload hx hb dB_3_2_1.2.2.2.2 (lv_at hl 0 rfl) ?_
          refine lv_icmp_le (tgt := 64) hx hb dB_3_2_2.1.1.1 (by decide) (fun c_12 => ?_) (fun c_12 => ?_)
          · have t_12 : y_11.toInt ≤ r_7.toInt := Int32.le_iff_toInt_le.mp c_12
            refine lv_iload_n hx hb dB_3_2_2.1.2.2.2 rfl (lv_at hl 2 rfl) ?_
            refine lv_iload hx hb dB_3_2_2.2.1.1.1 (lv_at hl 1 rfl) ?_
            refine lv_icmp_ge (tgt := 77) hx hb dB_3_2_2.2.1.1.2 (by decide) (fun c_13 => ?_) (fun c_13 => ?_)
            · have t_13 : r_5.toInt ≤ y_4.toInt := Int32.le_iff_toInt_le.mp c_13
              refine lv_ldc (v := 1000000) hx hb hown (hts (.constant RX12 159 (1000000)) (List.mem_of_getElem? (i := 2) rfl)) dB_3_2_2.2.2.2.1 ?_
              rw [hQ]
              exact W.iret (v := 1000000) hx hb hr (fun t ht hW => ⟨⟨1000000, (), rfl, ⟨by unfold eA amI; (repeat' split) <;> omega, by omega⟩, trivial⟩, hS.F ht⟩) hS.2.2 dB_3_2_2.2.2.2.2
            · have t_13 : ¬ r_5.toInt ≤ y_4.toInt := fun h => c_13 (Int32.le_iff_toInt_le.mpr h)
              refine lv_iload hx hb dB_3_2_2.2.1.2.1 (lv_at hl 1 rfl) ?_
              refine lv_iload_n hx hb dB_3_2_2.2.1.2.2 rfl (lv_at hl 2 rfl) ?_
              refine lv_isub hx hb dB_3_2_2.2.2.1.1 ?_
              refine lv_topi (fun y_14 ey_14 => ?_)
              have ty_14 : y_14.toInt = r_5.toInt - y_4.toInt := by rw [ey_14]; exact subI (by omega) (by omega)
              refine lv_goto (tgt := 79) hx hb dB_3_2_2.2.2.1.2 (by decide) ?_
              rw [hQ]
              exact W.iret (v := y_14) hx hb hr (fun t ht hW => ⟨⟨y_14, (), rfl, ⟨by unfold eA amI; (repeat' split) <;> omega, by omega⟩, trivial⟩, hS.F ht⟩) hS.2.2 dB_3_2_2.2.2.2.2
          · have t_12 : ¬ y_11.toInt ≤ r_7.toInt := fun h => c_12 (Int32.le_iff_toInt_le.mpr h)
            refine lv_iload_n hx hb dB_3_2_2.1.1.2.1 rfl (lv_at hl 2 rfl) ?_
            refine lv_ineg hx hb dB_3_2_2.1.1.2.2 ?_
            refine lv_topi (fun y_15 ey_15 => ?_)
            have ty_15 : y_15.toInt = - y_4.toInt := by rw [ey_15]; exact negI (by omega)
            refine lv_iload hx hb dB_3_2_2.1.2.1.1 (lv_at hl 0 rfl) ?_
            refine lv_isub hx hb dB_3_2_2.1.2.1.2 ?_
            refine lv_topi (fun y_16 ey_16 => ?_)
            have ty_16 : y_16.toInt = y_15.toInt - r_7.toInt := by rw [ey_16]; exact subI (by omega) (by omega)
            refine lv_goto (tgt := 79) hx hb dB_3_2_2.1.2.2.1 (by decide) ?_
            rw [hQ]
            exact W.iret (v := y_16) hx hb hr (fun t ht hW => ⟨⟨y_16, (), rfl, ⟨by unfold eA amI; (repeat' split) <;> omega, by omega⟩, trivial⟩, hS.F ht⟩) hS.2.2 dB_3_2_2.2.2.2.2
    · exact absurd c_1 (by decide)
  · refine lv_iload_n hx hb dB_3_2_0.1.1.1.1 rfl (lv_at hl 2 rfl) ?_
    refine lv_if_eq (tgt := 13) hx hb dB_3_2_0.1.1.1.2 (by decide) (fun c_17 => ?_) (fun c_17 => ?_)
    · exact absurd c_17 (by decide)
    · have _ := c_17
      refine lv_aload_n hx hb dB_3_2_0.1.1.2.1 rfl (lv_at hl 0 rfl) ?_
      refine va_get (ci := 12) (v := .ref g22) (C := RX12) (T := TX12) (N := 34) hx hb hts (fun _ h => List.mem_cons_of_mem _ (List.mem_append_right _ h)) hown hK.1 hP 0 rfl rfl 22 (by decide) (hts (.fieldLink RX12 61 "CutAtlasModel" "flows" "[I") (List.mem_of_getElem? (i := 1) rfl)) (fun _ h9 => h9) rfl dB_3_2_0.1.1.2.2 ?_
      refine lv_iload_n hx hb dB_3_2_0.1.2.1.1 rfl (lv_at hl 1 rfl) ?_
      have h_18 : vp_in a1 40 := in_I (by first | with_reducible assumption | omega) (by omega)
      refine va_iald hx hb hK.1 hP 3 0 rfl rfl (i := a1) h_18 dB_3_2_0.1.2.1.2 ?_
      refine lv_topi (fun y_19 ey_19 => ?_)
      have ky_19 : y_19.toInt = (f22 a1.toNatClampNeg).toInt := by rw [ey_19]
      refine lv_goto (tgt := 20) hx hb dB_3_2_0.1.2.2.1 (by decide) ?_
      refine lv_istore_n (lv' := [(3, .int y_19), (0, .ref mo), (1, .int a1), (2, .int 1)]) hx hb dB_3_2_0.2.2.1.1 rfl hl (by decide) rfl (fun ls hl => ?_)
      refine lv_aload_n hx hb dB_3_2_0.2.2.1.2 rfl (lv_at hl 1 rfl) ?_
      refine lv_iload_n hx hb dB_3_2_0.2.2.2.1 rfl (lv_at hl 2 rfl) ?_
      refine lv_iload_n hx hb dB_3_2_0.2.2.2.2 rfl (lv_at hl 3 rfl) ?_
      refine ct_R hP hD0 [ob12_0_ mo s0 s1 t2 s3 s4 g5 g6 g7 g8 g9 g10 s11 g12 g13 g14 g15 g16 g17 g18 g19 g20 s21 g22 g23 g24 s25 s26 s27 s28 g29 g30 g31 g32 g33, ai_ cy g5 40 f5, ai_ cy g8 40 f8] [0, 1, 2] (by decide) rfl (fun hPc hDw => ?_)
      have hFc := va_free (wc := []) hD hS hA [] rfl
      refine va_calli (va_runV (As := [.int a1, .int 1]) (rest := []) ⟨hx, hb, hml, hown, hts⟩ (c_X12_room l D cy s.heap.size mo g5 g6 g7 g8 g9 g10 g12 g13 g14 g15 g16 g17 g18 g19 g20 g22 g23 g24 g29 g30 g31 g32 g33 s0 s1 s3 s4 s11 s21 s25 s26 s27 s28 t2 f5 f8 a1 (1 : Int32) (by first | with_reducible assumption | omega | assumption)) (cwV 2 hts gX12_amount_X12_room rfl rfl rfl ⟨rfl, hd_X12_room⟩ ⟨Nat.le_of_ble_eq_true rfl, Nat.le_of_ble_eq_true rfl⟩) ⟨bl_, va_recvX hK.1 hP (ci := 12) (q0 := 0) rfl rfl, fun U hU hW => ⟨rfl, by rw [hU], by rw [hU]; exact hPc, kk_mv hW hK, hDw⟩⟩ rfl rfl hl.1 rfl (lv_room (Nat.le_of_ble_eq_true rfl)) dB_3_2_1.1.1.1.1 ⟨Nat.le_of_ble_eq_true rfl, Nat.le_of_ble_eq_true rfl⟩) hS (fun q _ h => hFc q h) hFc (fun r_20 u t H locs ht hvm hw hB hz1 hk1 hS => ?_)
      have hP : va_P D vwCl _ H := ro_keep hP hk1
      have f0_r_20 := hw
      have rI_1 := room_I (r := r_20) (by assumption) (by omega) (by omega) (r_f8 _ (in_lt (in_I (by omega) (by omega))))
      refine lv_istore (lv' := [(4, .int r_20), (3, .int y_19), (0, .ref mo), (1, .int a1), (2, .int 1)]) hx hb dB_3_2_1.1.1.1.2 hl (by decide) rfl (fun ls hl => ?_)
      refine lv_aload_n hx hb dB_3_2_1.1.1.2.1 rfl (lv_at hl 2 rfl) ?_
      refine lv_iload_n hx hb dB_3_2_1.1.1.2.2 rfl (lv_at hl 3 rfl) ?_
      refine lv_iload_n hx hb dB_3_2_1.1.2.1.1 rfl (lv_at hl 4 rfl) ?_
      refine lv_if_ne (tgt := 39) hx hb dB_3_2_1.1.2.1.2 (by decide) (fun c_21 => ?_) (fun c_21 => ?_)
      · have _ := c_21
        refine lv_iconst (v := 0) hx hb dB_3_2_1.2.1.1.1 (by decide) ?_
        refine ct_R hP hD0 [ob12_0_ mo s0 s1 t2 s3 s4 g5 g6 g7 g8 g9 g10 s11 g12 g13 g14 g15 g16 g17 g18 g19 g20 s21 g22 g23 g24 s25 s26 s27 s28 g29 g30 g31 g32 g33, ai_ cy g5 40 f5, ai_ cy g8 40 f8] [0, 1, 2] (by decide) rfl (fun hPc hDw => ?_)
        have hFc := va_free (wc := []) hD hS hA [] rfl
        refine va_calli (va_runV (As := [.int a1, .int 0]) (rest := []) ⟨hx, hb, hml, hown, hts⟩ (c_X12_room l D cy H.size mo g5 g6 g7 g8 g9 g10 g12 g13 g14 g15 g16 g17 g18 g19 g20 g22 g23 g24 g29 g30 g31 g32 g33 s0 s1 s3 s4 s11 s21 s25 s26 s27 s28 t2 f5 f8 a1 (0 : Int32) (by first | with_reducible assumption | omega | assumption)) (cwV 2 hts gX12_amount_X12_room rfl rfl rfl ⟨rfl, hd_X12_room⟩ ⟨Nat.le_of_ble_eq_true rfl, Nat.le_of_ble_eq_true rfl⟩) ⟨bl_, va_recvX hK.1 hP (ci := 12) (q0 := 0) rfl rfl, fun U hU hW => ⟨rfl, by rw [hU], by rw [hU]; exact hPc, kk_mv hW hK, hDw⟩⟩ rfl rfl hl.1 rfl (lv_room (Nat.le_of_ble_eq_true rfl)) dB_3_2_1.2.1.1.2 ⟨Nat.le_of_ble_eq_true rfl, Nat.le_of_ble_eq_true rfl⟩) hS (fun q _ h => hFc q h) hFc (fun r_22 u t H locs ht hvm hw hB hz1 hk1 hS => ?_)
        have hP : va_P D vwCl _ H := ro_keep hP hk1
        have f0_r_22 := hw
        have rI_2 := room_I (r := r_22) (by assumption) (by omega) (by omega) (r_f8 _ (in_lt (in_I (by omega) (by omega))))
        refine lv_istore (lv' := [(5, .int r_22), (4, .int r_20), (3, .int y_19), (0, .ref mo), (1, .int a1), (2, .int 1)]) hx hb dB_3_2_1.2.1.2.1 hl (by decide) rfl (fun ls hl => ?_)
        refine lv_iload_n hx hb dB_3_2_1.2.1.2.2 rfl (lv_at hl 2 rfl) ?_
        refine lv_if_ge (tgt := 64) hx hb dB_3_2_1.2.2.1.1 (by decide) (fun c_23 => ?_) (fun c_23 => ?_)
        · have t_23 : (0 : Int32).toInt ≤ y_19.toInt := Int32.le_iff_toInt_le.mp c_23
          refine lv_iload_n hx hb dB_3_2_2.1.2.2.2 rfl (lv_at hl 2 rfl) ?_
          refine lv_iload hx hb dB_3_2_2.2.1.1.1 (lv_at hl 1 rfl) ?_
          refine lv_icmp_ge (tgt := 77) hx hb dB_3_2_2.2.1.1.2 (by decide) (fun c_24 => ?_) (fun c_24 => ?_)
          · have t_24 : r_20.toInt ≤ y_19.toInt := Int32.le_iff_toInt_le.mp c_24
            refine lv_ldc (v := 1000000) hx hb hown (hts (.constant RX12 159 (1000000)) (List.mem_of_getElem? (i := 2) rfl)) dB_3_2_2.2.2.2.1 ?_
            rw [hQ]
            exact W.iret (v := 1000000) hx hb hr (fun t ht hW => ⟨⟨1000000, (), rfl, ⟨by unfold eA amI; (repeat' split) <;> omega, by omega⟩, trivial⟩, hS.F ht⟩) hS.2.2 dB_3_2_2.2.2.2.2
          · have t_24 : ¬ r_20.toInt ≤ y_19.toInt := fun h => c_24 (Int32.le_iff_toInt_le.mpr h)
            refine lv_iload hx hb dB_3_2_2.2.1.2.1 (lv_at hl 1 rfl) ?_
            refine lv_iload_n hx hb dB_3_2_2.2.1.2.2 rfl (lv_at hl 2 rfl) ?_
            refine lv_isub hx hb dB_3_2_2.2.2.1.1 ?_
            refine lv_topi (fun y_25 ey_25 => ?_)
            have ty_25 : y_25.toInt = r_20.toInt - y_19.toInt := by rw [ey_25]; exact subI (by omega) (by omega)
            refine lv_goto (tgt := 79) hx hb dB_3_2_2.2.2.1.2 (by decide) ?_
            rw [hQ]
            exact W.iret (v := y_25) hx hb hr (fun t ht hW => ⟨⟨y_25, (), rfl, ⟨by unfold eA amI; (repeat' split) <;> omega, by omega⟩, trivial⟩, hS.F ht⟩) hS.2.2 dB_3_2_2.2.2.2.2
        · have t_23 : ¬ (0 : Int32).toInt ≤ y_19.toInt := fun h => c_23 (Int32.le_iff_toInt_le.mpr h)
          refine lv_iload_n hx hb dB_3_2_1.2.2.1.2 rfl (lv_at hl 2 rfl) ?_
          refine lv_ineg hx hb dB_3_2_1.2.2.2.1 ?_
          refine lv_topi (fun y_26 ey_26 => ?_)
          have ty_26 : y_26.toInt = - y_19.toInt := by rw [ey_26]; exact negI (by omega)
          refine lv_iload hx hb dB_3_2_1.2.2.2.2 (lv_at hl 0 rfl) ?_
          refine lv_icmp_le (tgt := 64) hx hb dB_3_2_2.1.1.1 (by decide) (fun c_27 => ?_) (fun c_27 => ?_)
          · have t_27 : y_26.toInt ≤ r_22.toInt := Int32.le_iff_toInt_le.mp c_27
            refine lv_iload_n hx hb dB_3_2_2.1.2.2.2 rfl (lv_at hl 2 rfl) ?_
            refine lv_iload hx hb dB_3_2_2.2.1.1.1 (lv_at hl 1 rfl) ?_
            refine lv_icmp_ge (tgt := 77) hx hb dB_3_2_2.2.1.1.2 (by decide) (fun c_28 => ?_) (fun c_28 => ?_)
            · have t_28 : r_20.toInt ≤ y_19.toInt := Int32.le_iff_toInt_le.mp c_28
              refine lv_ldc (v := 1000000) hx hb hown (hts (.constant RX12 159 (1000000)) (List.mem_of_getElem? (i := 2) rfl)) dB_3_2_2.2.2.2.1 ?_
              rw [hQ]
              exact W.iret (v := 1000000) hx hb hr (fun t ht hW => ⟨⟨1000000, (), rfl, ⟨by unfold eA amI; (repeat' split) <;> omega, by omega⟩, trivial⟩, hS.F ht⟩) hS.2.2 dB_3_2_2.2.2.2.2
            · have t_28 : ¬ r_20.toInt ≤ y_19.toInt := fun h => c_28 (Int32.le_iff_toInt_le.mpr h)
              refine lv_iload hx hb dB_3_2_2.2.1.2.1 (lv_at hl 1 rfl) ?_
              refine lv_iload_n hx hb dB_3_2_2.2.1.2.2 rfl (lv_at hl 2 rfl) ?_
              refine lv_isub hx hb dB_3_2_2.2.2.1.1 ?_
              refine lv_topi (fun y_29 ey_29 => ?_)
              have ty_29 : y_29.toInt = r_20.toInt - y_19.toInt := by rw [ey_29]; exact subI (by omega) (by omega)
              refine lv_goto (tgt := 79) hx hb dB_3_2_2.2.2.1.2 (by decide) ?_
              rw [hQ]
              exact W.iret (v := y_29) hx hb hr (fun t ht hW => ⟨⟨y_29, (), rfl, ⟨by unfold eA amI; (repeat' split) <;> omega, by omega⟩, trivial⟩, hS.F ht⟩) hS.2.2 dB_3_2_2.2.2.2.2
          · have t_27 : ¬ y_26.toInt ≤ r_22.toInt := fun h => c_27 (Int32.le_iff_toInt_le.mpr h)
            refine lv_iload_n hx hb dB_3_2_2.1.1.2.1 rfl (lv_at hl 2 rfl) ?_
            refine lv_ineg hx hb dB_3_2_2.1.1.2.2 ?_
            refine lv_topi (fun y_30 ey_30 => ?_)
            have ty_30 : y_30.toInt = - y_19.toInt := by rw [ey_30]; exact negI (by omega)
            refine lv_iload hx hb dB_3_2_2.1.2.1.1 (lv_at hl 0 rfl) ?_
            refine lv_isub hx hb dB_3_2_2.1.2.1.2 ?_
            refine lv_topi (fun y_31 ey_31 => ?_)
            have ty_31 : y_31.toInt = y_30.toInt - r_22.toInt := by rw [ey_31]; exact subI (by omega) (by omega)
            refine lv_goto (tgt := 79) hx hb dB_3_2_2.1.2.2.1 (by decide) ?_
            rw [hQ]
            exact W.iret (v := y_31) hx hb hr (fun t ht hW => ⟨⟨y_31, (), rfl, ⟨by unfold eA amI; (repeat' split) <;> omega, by omega⟩, trivial⟩, hS.F ht⟩) hS.2.2 dB_3_2_2.2.2.2.2
      · exact absurd c_21 (by decide)
end

section
section CW
variable {x y : Nat → Nat} {c : Nat → Int} {ok : Nat → Bool} {E s P : Nat} {pi : Nat → Int} {pd pd2 : Nat → Int64} {bl bp bl2 bp2 : Nat → Int32} {rnd cu : Nat}
/-- the state of the search: what was paid lies between the least there is and the least of so many steps; chains end at s -/
noncomputable def cw (x y : Nat → Nat) (c : Nat → Int) (ok : Nat → Bool) (E s P : Nat) (pd : Nat → Int64) (bl bp : Nat → Int32) (rnd cu : Nat) : Prop :=
  (∀ v : Nat, v < P → dst x y c ok E s P v ≤ (pd v).toInt ∧ (pd v).toInt ≤ 1099511627776 ∧ (pd v).toInt ≤ dst x y c ok E s rnd v) ∧
  (∀ e : Nat, e < cu → ok e = true → dst x y c ok E s rnd (x e) < 1099511627776 → (pd (y e)).toInt ≤ dst x y c ok E s rnd (x e) + c e) ∧
  (∀ v : Nat, v < P → v ≠ s → (pd v).toInt < 1099511627776 → ∃ e : Nat, e < E ∧ ok e = true ∧ (bl v).toNatClampNeg = e / 2 ∧ (bp v).toNatClampNeg = x e ∧ y e = v ∧ (pd (x e)).toInt < 1099511627776 ∧ (pd (x e)).toInt + c e ≤ (pd v).toInt) ∧
  (∀ v : Nat, v < P → (pd v).toInt < 1099511627776 → ∃ n : Nat, rcs (pf_ bp) s n v)
theorem cw_init (hs : s < P) (h : ∀ v : Nat, v < P → (pd v).toInt = if v = s then 0 else 1099511627776) : cw x y c ok E s P pd bl bp 0 0 := by
  have e0 : ∀ v : Nat, dst x y c ok E s 0 v = if v = s then 0 else 1099511627776 := fun _ => rfl
  refine ⟨fun v hv => ?_, fun e he => absurd he (Nat.not_lt_zero _), fun v hv hn hf => ?_, fun v hv hf => ?_⟩
  · have m := dst_mono (x := x) (y := y) (c := c) (ok := ok) (E := E) (s := s) P 0 v (Nat.zero_le _)
    have i := dst_inf (x := x) (y := y) (c := c) (ok := ok) (E := E) (s := s) 0 v
    rw [h v hv, ← e0 v]
    exact ⟨m, i, Int.le_refl _⟩
  · rw [h v hv, if_neg hn] at hf
    omega
  · by_cases e : v = s
    · exact ⟨0, e⟩
    · rw [h v hv, if_neg e] at hf
      omega
theorem cw_rng (h : cw x y c ok E s P pd bl bp rnd cu) (hP : P ≤ 12) (hc : ∀ e : Nat, e < E → ok e = true → -101 ≤ c e) {v : Nat} (hv : v < P) : -1212 ≤ (pd v).toInt ∧ (pd v).toInt ≤ 1099511627776 := by
  have a := h.1 v hv
  have b := dst_lo (x := x) (y := y) (s := s) hc P v
  omega
theorem cw_skip (h : cw x y c ok E s P pd bl bp rnd cu) (hv : ok cu = true → x cu < P) (hs : ok cu = true → (pd (x cu)).toInt < 1099511627776 → (pd (y cu)).toInt ≤ (pd (x cu)).toInt + c cu) : cw x y c ok E s P pd bl bp rnd (cu + 1) := by
  refine ⟨h.1, fun e he ho hx => ?_, h.2.2⟩
  by_cases q : e = cu
  · subst q
    have a := (h.1 (x e) (hv ho)).2.2
    have b := hs ho (by omega)
    omega
  · exact h.2.1 e (by omega) ho hx
theorem cw_to (h : cw x y c ok E s P pd bl bp rnd cu) : ∀ n : Nat, (∀ e : Nat, cu ≤ e → e < cu + n → ok e = false) → cw x y c ok E s P pd bl bp rnd (cu + n)
  | 0, _ => h
  | n + 1, hn => by
    have a := cw_to h n (fun e h1 h2 => hn e h1 (by omega))
    have b := hn (cu + n) (by omega) (by omega)
    exact cw_skip a (fun q => by have z := b.symm.trans q; cases z) (fun q => by have z := b.symm.trans q; cases z)
theorem cw_relax {v : Int64} {l x1 : Int32} (h : cw x y c ok E s P pd bl bp rnd cu) (hp : ∀ e : Nat, e < E → ok e = true → pi (y e) ≤ pi (x e) + c e) (hv : ∀ e : Nat, e < E → ok e = true → x e < P ∧ y e < P) (hP : 1 ≤ P) (hE : cu < E) (ho : ok cu = true) (hx : (pd (x cu)).toInt < 1099511627776) (hlt : (pd (x cu)).toInt + c cu < (pd (y cu)).toInt)
    (e1 : pd2 = vp_updL pd (y cu) v) (ev : v.toInt = (pd (x cu)).toInt + c cu) (e2 : bl2 = upd bl (y cu) l) (el : l.toNatClampNeg = cu / 2) (e3 : bp2 = upd bp (y cu) x1) (ex : x1.toNatClampNeg = x cu) : cw x y c ok E s P pd2 bl2 bp2 rnd (cu + 1) := by
  have w := hv cu hE ho
  have pc := hp cu hE ho
  have hxy : x cu ≠ y cu := fun e => by
    rw [e] at hlt pc
    omega
  have n1 : pd2 (y cu) = v := by rw [e1]; exact pk_uLs
  have n2 : ∀ u : Nat, u ≠ y cu → pd2 u = pd u := fun u hu => by rw [e1]; exact pk_uLn hu
  have le : ∀ u : Nat, (pd2 u).toInt ≤ (pd u).toInt := fun u => by
    by_cases q : u = y cu
    · rw [q, n1]
      omega
    · rw [n2 u q]
      exact Int.le_refl _
  have a1 := h.1 (x cu) w.1
  have dx : dst x y c ok E s P (x cu) < 1099511627776 := by omega
  have dv : dst x y c ok E s P (y cu) ≤ dst x y c ok E s P (x cu) + c cu := by
    have en := dst_end (s := s) hp hv (k := P - 1) (by omega) (x cu)
    rw [show P - 1 + 1 = P by omega] at en
    have d := dst_e (x := x) (y := y) (c := c) (s := s) (k := P - 1) hE ho (by rw [← en]; exact dx)
    rw [show P - 1 + 1 = P by omega, ← en] at d
    exact d
  have a2y := h.1 (y cu) w.2
  have hys : y cu ≠ s := fun e => by
    have ps := dst_pi (s := s) hp P (y cu) (by omega)
    rw [e] at ps
    have m := dst_mono (x := x) (y := y) (c := c) (ok := ok) (E := E) (s := s) rnd 0 s (Nat.zero_le _)
    have e0 : dst x y c ok E s 0 s = 0 := if_pos rfl
    have a2 := (h.1 (y cu) w.2).2.2
    rw [e] at a2 dv hlt
    omega
  have bp1 : ∀ u : Nat, u ≠ y cu → pf_ bp2 u = pf_ bp u := fun u hu => by unfold pf_; rw [e3, pk_un hu]
  have bpy : pf_ bp2 (y cu) = x cu := by unfold pf_; rw [e3, pk_us]; exact ex
  refine ⟨fun u hu => ?_, fun e he hoe hxe => ?_, fun u hu hn hf => ?_, fun u hu hf => ?_⟩
  · have b := h.1 u hu
    have l := le u
    refine ⟨?_, by omega, by omega⟩
    by_cases q : u = y cu
    · rw [q, n1]
      omega
    · rw [n2 u q]
      exact b.1
  · by_cases q : e = cu
    · subst q
      rw [n1]
      omega
    · have b := h.2.1 e (by omega) hoe hxe
      have l := le (y e)
      omega
  · by_cases q : u = y cu
    · refine ⟨cu, hE, ho, ?_, ?_, q.symm, ?_, ?_⟩
      · rw [q, e2, pk_us]
        exact el
      · rw [q, e3, pk_us]
        exact ex
      · rw [n2 _ hxy]
        exact hx
      · rw [n2 _ hxy, q, n1]
        omega
    · rw [n2 u q] at hf ⊢
      obtain ⟨e, q1, q2, q3, q4, q5, q6, q7⟩ := h.2.2.1 u hu hn hf
      have l := le (x e)
      refine ⟨e, q1, q2, ?_, ?_, q5, by omega, by omega⟩
      · rw [e2, pk_un q]
        exact q3
      · rw [e3, pk_un q]
        exact q4
  · refine rcs_up (d := fun u => (pd u).toInt) (pi := pi) (P := P) bp1 bpy hys w.1 hx hlt pc (fun u hu2 hn2 hf2 => ?_) h.2.2.2 u hu ?_
    · obtain ⟨e, q1, q2, q3, q4, q5, q6, q7⟩ := h.2.2.1 u hu2 hn2 hf2
      have g := hp e q1 q2
      have g2 := hv e q1 q2
      have ee : pf_ bp u = x e := q4
      rw [ee]
      rw [q5] at g
      exact ⟨g2.1, q6, by omega⟩
    · by_cases q : u = y cu
      · exact Or.inr q
      · rw [n2 u q] at hf
        exact Or.inl hf
theorem cw_round (h : cw x y c ok E s P pd bl bp rnd E) : cw x y c ok E s P pd bl bp (rnd + 1) 0 := by
  refine ⟨fun v hv => ?_, fun e he => absurd he (Nat.not_lt_zero _), h.2.2⟩
  have a := h.1 v hv
  refine ⟨a.1, a.2.1, ?_⟩
  rcases Int.lt_or_le (dst x y c ok E s (rnd + 1) v) (dst x y c ok E s rnd v) with q | q
  · obtain ⟨e, he, ho, ey, hx, h2⟩ := dst_at q
    have b := h.2.1 e he ho hx
    rw [ey] at b
    omega
  · omega
/-- behind the last round -/
noncomputable def cz (x y : Nat → Nat) (c : Nat → Int) (ok : Nat → Bool) (E s P : Nat) (pd : Nat → Int64) (bl bp : Nat → Int32) : Prop :=
  (∀ e : Nat, e < E → ok e = true → (pd (x e)).toInt < 1099511627776 → (pd (y e)).toInt ≤ (pd (x e)).toInt + c e) ∧
  (∀ v : Nat, v < P → v ≠ s → (pd v).toInt < 1099511627776 → ∃ e : Nat, e < E ∧ ok e = true ∧ (bl v).toNatClampNeg = e / 2 ∧ (bp v).toNatClampNeg = x e ∧ y e = v ∧ (pd (x e)).toInt < 1099511627776 ∧ (pd (x e)).toInt + c e ≤ (pd v).toInt) ∧
  (∀ v : Nat, v < P → (pd v).toInt < 1099511627776 → ∃ n : Nat, rcs (pf_ bp) s n v) ∧ (∀ v : Nat, v < P → (pd v).toInt < 1099511627776 → (pd v).toInt ≤ 1000000 * (P : Int))
theorem cw_end (h : cw x y c ok E s P pd bl bp P 0) (hp : ∀ e : Nat, e < E → ok e = true → pi (y e) ≤ pi (x e) + c e) (hv : ∀ e : Nat, e < E → ok e = true → x e < P ∧ y e < P) (hP : 1 ≤ P) (hc : ∀ e : Nat, e < E → ok e = true → c e < 1000000) : cz x y c ok E s P pd bl bp := by
  refine ⟨fun e he ho hx => ?_, h.2.2.1, h.2.2.2, fun v hv hf => ?_⟩
  rotate_left
  · have a := h.1 v hv
    have b := dst_hi (x := x) (y := y) (s := s) hc P v (by omega)
    omega
  have w := hv e he ho
  have a := h.1 (x e) w.1
  have b := h.1 (y e) w.2
  have en := dst_end (s := s) hp hv (k := P - 1) (by omega) (x e)
  rw [show P - 1 + 1 = P by omega] at en
  have d := dst_e (x := x) (y := y) (c := c) (s := s) (k := P - 1) he ho (by rw [← en]; omega)
  rw [show P - 1 + 1 = P by omega, ← en] at d
  omega
theorem bnd (g : Nat → Int) : ∀ n : Nat, ∃ M : Int, ∀ i : Nat, i < n → g i ≤ M
  | 0 => ⟨0, fun i h => absurd h (Nat.not_lt_zero _)⟩
  | n + 1 => by
    obtain ⟨M, hM⟩ := bnd g n
    rcases Int.lt_or_le M (g n) with q | q
    · refine ⟨g n, fun i hi => ?_⟩
      by_cases e : i = n
      · subst e; exact Int.le_refl _
      · have := hM i (by omega)
        omega
    · refine ⟨M, fun i hi => ?_⟩
      by_cases e : i = n
      · subst e; exact q
      · exact hM i (by omega)
/-- what was paid, as the potential of the places -/
theorem cz_pi (h : cz x y c ok E s P pd bl bp) (hp : ∀ e : Nat, e < E → ok e = true → pi (y e) ≤ pi (x e) + c e) (hv : ∀ e : Nat, e < E → ok e = true → x e < P ∧ y e < P) (hc : ∀ e : Nat, e < E → ok e = true → c e < 1000000) (hP : P ≤ 12) : ∃ p2 : Nat → Int, (∀ e : Nat, e < E → ok e = true → p2 (y e) ≤ p2 (x e) + c e) ∧ (∀ v : Nat, (pd v).toInt < 1099511627776 → p2 v = (pd v).toInt) := by
  obtain ⟨M, hM⟩ := bnd (fun v => (pd v).toInt - pi v) P
  refine ⟨fun v => if (pd v).toInt < 1099511627776 then (pd v).toInt else pi v + M, fun e he ho => ?_, fun v hv => if_pos hv⟩
  have w := hv e he ho
  have pe := hp e he ho
  have m1 : (pd (y e)).toInt - pi (y e) ≤ M := hM (y e) w.2
  show (if (pd (y e)).toInt < 1099511627776 then (pd (y e)).toInt else pi (y e) + M) ≤ (if (pd (x e)).toInt < 1099511627776 then (pd (x e)).toInt else pi (x e) + M) + c e
  by_cases q : (pd (x e)).toInt < 1099511627776
  · rw [if_pos q]
    have d := h.1 e he ho q
    by_cases q2 : (pd (y e)).toInt < 1099511627776
    · rw [if_pos q2]
      exact d
    · exfalso
      have u := h.2.2.2 (x e) w.1 q
      have ce := hc e he ho
      omega
  · rw [if_neg q]
    by_cases q2 : (pd (y e)).toInt < 1099511627776
    · rw [if_pos q2]
      omega
    · rw [if_neg q2]
      omega
end CW
section GRAPH
variable {f5 f6 f7 f8 f9 f10 F F0 F2 : Nat → Int32} {pi : Nat → Int}
noncomputable def gx (f6 f7 : Nat → Int32) (e : Nat) : Nat := if e % 2 = 0 then (f6 (e / 2)).toNatClampNeg else (f7 (e / 2)).toNatClampNeg
noncomputable def gy (f6 f7 : Nat → Int32) (e : Nat) : Nat := if e % 2 = 0 then (f7 (e / 2)).toNatClampNeg else (f6 (e / 2)).toNatClampNeg
noncomputable def gc (f5 f8 f9 F : Nat → Int32) (e : Nat) : Int := eS f5 f8 f9 F (e / 2) (if e % 2 = 0 then 1 else 0)
noncomputable def go (f5 f8 f9 f10 F : Nat → Int32) (e : Nat) : Bool := decide ((f10 (e / 2)).toInt = 0) && decide (gc f5 f8 f9 F e < 1000000)
theorem go_iff {e : Nat} : go f5 f8 f9 f10 F e = true ↔ (f10 (e / 2)).toInt = 0 ∧ gc f5 f8 f9 F e < 1000000 := by
  unfold go
  rw [Bool.and_eq_true, decide_eq_true_iff, decide_eq_true_iff]
/-- lines that aren't missing are between two places -/
noncomputable def netE (P N : Int) (f6 f7 f10 : Nat → Int32) : Prop := ∀ j : Nat, (j : Int) < N → (f10 j).toInt = 0 → (f6 j).toInt < P ∧ (f7 j).toInt < P
theorem g_v {P N : Int32} (h : netE P.toInt N.toInt f6 f7 f10) (r6 : rng f6 40 0 11) (r7 : rng f7 40 0 11) (hN : 0 ≤ N.toInt ∧ N.toInt ≤ 40) (hP : 0 ≤ P.toInt) : ∀ e : Nat, e < 2 * N.toNatClampNeg → go f5 f8 f9 f10 F e = true → gx f6 f7 e < P.toNatClampNeg ∧ gy f6 f7 e < P.toNatClampNeg := fun e he ho => by
  have cN := clI (i := N) hN.1
  have cP := clI (i := P) hP
  have a := h (e / 2) (by omega) (go_iff.mp ho).1
  have b6 := r6 (e / 2) (by omega)
  have b7 := r7 (e / 2) (by omega)
  have c6 := clI (i := f6 (e / 2)) b6.1
  have c7 := clI (i := f7 (e / 2)) b7.1
  unfold gx gy
  by_cases q : e % 2 = 0
  · rw [if_pos q, if_pos q]
    omega
  · rw [if_neg q, if_neg q]
    omega
theorem g_c1 {N : Nat} : ∀ e : Nat, e < 2 * N → go f5 f8 f9 f10 F e = true → gc f5 f8 f9 F e < 1000000 := fun _ _ ho => (go_iff.mp ho).2
theorem gc_lo (r9 : rng f9 40 0 100) {e : Nat} (he : e / 2 < 40) : -101 ≤ gc f5 f8 f9 F e := by
  have b := r9 _ he
  have c := cst_rng (k := (f5 (e / 2)).toInt) b.1 b.2
  unfold gc eS
  by_cases q : (if e % 2 = 0 then (1 : Int) else 0) ≠ 0
  · rw [if_pos q]
    have a := stI_cs (cst (f5 (e / 2)).toInt (f9 (e / 2)).toInt) (rmI (f5 (e / 2)) (f8 (e / 2)) 0) (rmI (f5 (e / 2)) (f8 (e / 2)) 1) (F (e / 2)).toInt
    omega
  · rw [if_neg q]
    have a := stI_cs (cst (f5 (e / 2)).toInt (f9 (e / 2)).toInt) (rmI (f5 (e / 2)) (f8 (e / 2)) 1) (rmI (f5 (e / 2)) (f8 (e / 2)) 0) (-(F (e / 2)).toInt)
    omega
theorem g_c0 {N : Int32} (r9 : rng f9 40 0 100) (hN : 0 ≤ N.toInt ∧ N.toInt ≤ 40) : ∀ e : Nat, e < 2 * N.toNatClampNeg → go f5 f8 f9 f10 F e = true → -101 ≤ gc f5 f8 f9 F e := fun e he _ => by
  have cN := clI (i := N) hN.1
  exact gc_lo r9 (by omega)
/-- no place is reached for less than the places differ by -/
noncomputable def pot (f5 f6 f7 f8 f9 f10 F : Nat → Int32) (N : Nat) (pi : Nat → Int) : Prop := ∀ e : Nat, e < 2 * N → go f5 f8 f9 f10 F e = true → pi (gy f6 f7 e) ≤ pi (gx f6 f7 e) + gc f5 f8 f9 F e
noncomputable def okF (f5 f8 f9 F : Nat → Int32) : Prop := ∀ j : Nat, j < 40 → cst (f5 j).toInt (f9 j).toInt = -9 → -(rmI (f5 j) (f8 j) 0) ≤ (F j).toInt ∧ (F j).toInt ≤ rmI (f5 j) (f8 j) 1
theorem pot_zero {N : Nat} (r8 : rng f8 40 0 2000) (r9 : rng f9 40 0 100) (hN : N ≤ 40) (h : ∀ j : Nat, j < 40 → (F j).toInt = 0) : pot f5 f6 f7 f8 f9 f10 F N (fun _ => 0) ∧ okF f5 f8 f9 F := by
  refine ⟨fun e he _ => ?_, fun j hj _ => ?_⟩
  · have z := h (e / 2) (by omega)
    have b := r9 (e / 2) (by omega)
    have c := cst_rng (k := (f5 (e / 2)).toInt) b.1 b.2
    have b8 := r8 (e / 2) (by omega)
    have w1 := rmI_rng (k := f5 (e / 2)) (b := 1) b8.1 b8.2
    have w0 := rmI_rng (k := f5 (e / 2)) (b := 0) b8.1 b8.2
    show (0 : Int) ≤ 0 + gc f5 f8 f9 F e
    unfold gc eS
    rw [z]
    by_cases q : (if e % 2 = 0 then (1 : Int) else 0) ≠ 0
    · rw [if_pos q]
      have a := stI_cs (cst (f5 (e / 2)).toInt (f9 (e / 2)).toInt) (rmI (f5 (e / 2)) (f8 (e / 2)) 0) (rmI (f5 (e / 2)) (f8 (e / 2)) 1) 0
      omega
    · rw [if_neg q]
      have a := stI_cs (cst (f5 (e / 2)).toInt (f9 (e / 2)).toInt) (rmI (f5 (e / 2)) (f8 (e / 2)) 1) (rmI (f5 (e / 2)) (f8 (e / 2)) 0) (-0)
      omega
  · have z := h j hj
    have b8 := r8 j hj
    have w1 := rmI_rng (k := f5 j) (b := 1) b8.1 b8.2
    have w0 := rmI_rng (k := f5 j) (b := 0) b8.1 b8.2
    omega
theorem gc_cg {e : Nat} (h : F2 (e / 2) = F (e / 2)) : gc f5 f8 f9 F2 e = gc f5 f8 f9 F e := by
  unfold gc eS
  rw [h]
theorem gpush {N e : Nat} {l v : Int32} {n : Int} (r8 : rng f8 40 0 2000) (r9 : rng f9 40 0 100) (hN : N ≤ 40) (e2 : F2 = upd F l.toNatClampNeg v) (he : e < 2 * N) (el : l.toNatClampNeg = e / 2) (ho : go f5 f8 f9 f10 F e = true) (hn : 1 ≤ n)
    (hna : n ≤ eA f5 f8 F (e / 2) (if e % 2 = 0 then 1 else 0)) (hv : v.toInt = (F (e / 2)).toInt + (if e % 2 = 0 then n else -n)) (ht : pi (gy f6 f7 e) = pi (gx f6 f7 e) + gc f5 f8 f9 F e) (hp : pot f5 f6 f7 f8 f9 f10 F N pi) (hk : okF f5 f8 f9 F) : pot f5 f6 f7 f8 f9 f10 F2 N pi ∧ okF f5 f8 f9 F2 := by
  have n1 : F2 (e / 2) = v := by rw [e2, el]; exact pk_us
  have n2 : ∀ j : Nat, j ≠ e / 2 → F2 j = F j := fun j hj => by rw [e2, el]; exact pk_un hj
  have b := r9 (e / 2) (by omega)
  have c := cst_rng (k := (f5 (e / 2)).toInt) b.1 b.2
  have b8 := r8 (e / 2) (by omega)
  have w1 := rmI_rng (k := f5 (e / 2)) (b := 1) b8.1 b8.2
  have w0 := rmI_rng (k := f5 (e / 2)) (b := 0) b8.1 b8.2
  have ok1 := hk (e / 2) (by omega)
  have lt := (go_iff.mp ho).2
  by_cases q : e % 2 = 0
  · have gcf : ∀ G : Nat → Int32, gc f5 f8 f9 G e = stI (cst (f5 (e / 2)).toInt (f9 (e / 2)).toInt) (rmI (f5 (e / 2)) (f8 (e / 2)) 0) (rmI (f5 (e / 2)) (f8 (e / 2)) 1) (G (e / 2)).toInt := fun G => by
      unfold gc eS
      rw [if_pos q, if_pos (by decide)]
    have am : eA f5 f8 F (e / 2) (if e % 2 = 0 then 1 else 0) = amI (rmI (f5 (e / 2)) (f8 (e / 2)) 0) (rmI (f5 (e / 2)) (f8 (e / 2)) 1) (F (e / 2)).toInt := by
      unfold eA
      rw [if_pos q, if_pos (by decide)]
    rw [am] at hna
    rw [if_pos q] at hv
    rw [gcf F] at lt
    have sp := st_push (d := gc f5 f8 f9 F e) c w0.1 w1.1 (gcf F) lt hn hna ok1
    rw [← hv, ← n1] at sp
    refine ⟨fun e9 h9 o9 => ?_, fun j hj hc => ?_⟩
    · by_cases s9 : e9 / 2 = e / 2
      · by_cases q9 : e9 % 2 = 0
        · obtain rfl : e9 = e := by omega
          have := sp.1 (by rw [← gcf F2]; exact (go_iff.mp o9).2)
          rw [gcf F2]
          omega
        · have ex : gx f6 f7 e9 = gy f6 f7 e := by unfold gx gy; rw [if_neg q9, if_pos q, s9]
          have ey : gy f6 f7 e9 = gx f6 f7 e := by unfold gx gy; rw [if_neg q9, if_pos q, s9]
          have g9 : gc f5 f8 f9 F2 e9 = stI (cst (f5 (e / 2)).toInt (f9 (e / 2)).toInt) (rmI (f5 (e / 2)) (f8 (e / 2)) 1) (rmI (f5 (e / 2)) (f8 (e / 2)) 0) (-(F2 (e / 2)).toInt) := by
            unfold gc eS
            rw [if_neg q9, if_neg (by decide), s9]
          have o2 := (go_iff.mp o9).2
          rw [g9] at o2 ⊢
          have := sp.2.1 o2
          rw [ex, ey]
          omega
      · have cg := gc_cg (f5 := f5) (f8 := f8) (f9 := f9) (n2 (e9 / 2) s9)
        rw [cg]
        exact hp e9 h9 (by
          have o2 := go_iff.mp o9
          rw [cg] at o2
          exact go_iff.mpr o2)
    · by_cases s9 : j = e / 2
      · subst s9
        exact sp.2.2 hc
      · rw [n2 j s9]
        exact hk j hj hc
  · have gcf : ∀ G : Nat → Int32, gc f5 f8 f9 G e = stI (cst (f5 (e / 2)).toInt (f9 (e / 2)).toInt) (rmI (f5 (e / 2)) (f8 (e / 2)) 1) (rmI (f5 (e / 2)) (f8 (e / 2)) 0) (-(G (e / 2)).toInt) := fun G => by
      unfold gc eS
      rw [if_neg q, if_neg (by decide)]
    have am : eA f5 f8 F (e / 2) (if e % 2 = 0 then 1 else 0) = amI (rmI (f5 (e / 2)) (f8 (e / 2)) 1) (rmI (f5 (e / 2)) (f8 (e / 2)) 0) (-(F (e / 2)).toInt) := by
      unfold eA
      rw [if_neg q, if_neg (by decide)]
    rw [am] at hna
    rw [if_neg q] at hv
    rw [gcf F] at lt
    have sp := st_push (d := gc f5 f8 f9 F e) c w1.1 w0.1 (gcf F) lt hn hna (fun h => by have := ok1 h; omega)
    rw [show -(F (e / 2)).toInt + n = -(F2 (e / 2)).toInt by rw [n1]; omega, show - -(F2 (e / 2)).toInt = (F2 (e / 2)).toInt by omega] at sp
    refine ⟨fun e9 h9 o9 => ?_, fun j hj hc => ?_⟩
    · by_cases s9 : e9 / 2 = e / 2
      · by_cases q9 : e9 % 2 = 0
        · have ex : gx f6 f7 e9 = gy f6 f7 e := by unfold gx gy; rw [if_pos q9, if_neg q, s9]
          have ey : gy f6 f7 e9 = gx f6 f7 e := by unfold gx gy; rw [if_pos q9, if_neg q, s9]
          have g9 : gc f5 f8 f9 F2 e9 = stI (cst (f5 (e / 2)).toInt (f9 (e / 2)).toInt) (rmI (f5 (e / 2)) (f8 (e / 2)) 0) (rmI (f5 (e / 2)) (f8 (e / 2)) 1) (F2 (e / 2)).toInt := by
            unfold gc eS
            rw [if_pos q9, if_pos (by decide), s9]
          have o2 := (go_iff.mp o9).2
          rw [g9] at o2 ⊢
          have := sp.2.1 o2
          rw [ex, ey]
          omega
        · obtain rfl : e9 = e := by omega
          have := sp.1 (by rw [← gcf F2]; exact (go_iff.mp o9).2)
          rw [gcf F2]
          omega
      · have cg := gc_cg (f5 := f5) (f8 := f8) (f9 := f9) (n2 (e9 / 2) s9)
        rw [cg]
        exact hp e9 h9 (by
          have o2 := go_iff.mp o9
          rw [cg] at o2
          exact go_iff.mpr o2)
    · by_cases s9 : j = e / 2
      · subst s9
        have := sp.2.2 hc
        omega
      · rw [n2 j s9]
        exact hk j hj hc
noncomputable def dirI (a b : Int) : Int := if a = b then 1 else 0
noncomputable def amtI (f5 f6 f8 F bl bp : Nat → Int32) (v : Nat) : Int := eA f5 f8 F (bl v).toNatClampNeg (dirI (f6 (bl v).toNatClampNeg).toInt (bp v).toInt)
variable {bl bp : Nat → Int32} {pd : Nat → Int64} {s t P N R : Nat}
theorem ch_fin {x y : Nat → Nat} {c : Nat → Int} {ok : Nat → Bool} {E : Nat} (hz : cz x y c ok E s P pd bl bp) (hv : ∀ e : Nat, e < E → ok e = true → x e < P ∧ y e < P) (ht : t < P) (hf : (pd t).toInt < 1099511627776) (hR : rcs (pf_ bp) s R t) : ∀ i : Nat, i ≤ R → itr (pf_ bp) i t < P ∧ (pd (itr (pf_ bp) i t)).toInt < 1099511627776
  | 0, _ => ⟨ht, hf⟩
  | i + 1, hi => by
    have a := ch_fin hz hv ht hf hR i (by omega)
    have r := rcs_itr hR i (by omega)
    rw [show R - i = (R - i - 1) + 1 by omega] at r
    obtain ⟨e, q1, q2, q3, q4, q5, q6, q7⟩ := hz.2.1 _ a.1 r.1 a.2
    have w := hv e q1 q2
    have ee : itr (pf_ bp) (i + 1) t = x e := q4
    rw [ee]
    exact ⟨w.1, q6⟩
theorem ch_e {x y : Nat → Nat} {c : Nat → Int} {ok : Nat → Bool} {E : Nat} (hz : cz x y c ok E s P pd bl bp) (hv : ∀ e : Nat, e < E → ok e = true → x e < P ∧ y e < P) (ht : t < P) (hf : (pd t).toInt < 1099511627776) (hR : rcs (pf_ bp) s R t) {i : Nat} (hi : i < R) : ∃ e : Nat, e < E ∧ ok e = true ∧ (bl (itr (pf_ bp) i t)).toNatClampNeg = e / 2 ∧ itr (pf_ bp) (i + 1) t = x e ∧ itr (pf_ bp) i t = y e ∧ (pd (x e)).toInt < 1099511627776 ∧ (pd (y e)).toInt = (pd (x e)).toInt + c e := by
  have a := ch_fin hz hv ht hf hR i (by omega)
  have r := rcs_itr hR i (by omega)
  rw [show R - i = (R - i - 1) + 1 by omega] at r
  obtain ⟨e, q1, q2, q3, q4, q5, q6, q7⟩ := hz.2.1 _ a.1 r.1 a.2
  have d := hz.1 e q1 q2 q6
  rw [q5] at d
  refine ⟨e, q1, q2, q3, q4, q5.symm, q6, ?_⟩
  rw [q5]
  omega
theorem ch_inj (hR : rcs (pf_ bp) s R t) {i j : Nat} (hi : i ≤ R) (hj : j ≤ R) (h : itr (pf_ bp) i t = itr (pf_ bp) j t) : i = j := by
  have a := rcs_itr hR i hi
  have b := rcs_itr hR j hj
  rw [h] at a
  have := rcs_un _ _ _ a b
  omega
theorem ch_line {c : Nat → Int} {ok : Nat → Bool} {E : Nat} (hz : cz (gx f6 f7) (gy f6 f7) c ok E s P pd bl bp) (hv : ∀ e : Nat, e < E → ok e = true → gx f6 f7 e < P ∧ gy f6 f7 e < P) (ht : t < P) (hf : (pd t).toInt < 1099511627776) (hR : rcs (pf_ bp) s R t) {i j : Nat} (hij : i < j) (hj : j < R) : (bl (itr (pf_ bp) i t)).toNatClampNeg ≠ (bl (itr (pf_ bp) j t)).toNatClampNeg := fun h => by
  obtain ⟨e, _, _, a3, a4, a5, _, _⟩ := ch_e hz hv ht hf hR (i := i) (by omega)
  obtain ⟨g, _, _, b3, b4, b5, _, _⟩ := ch_e hz hv ht hf hR hj
  rw [a3, b3] at h
  by_cases q : e % 2 = g % 2
  · obtain rfl : e = g := by omega
    have := ch_inj hR (by omega) (by omega) (a5.trans b5.symm)
    omega
  · have e1 : gx f6 f7 e = gy f6 f7 g := by
      unfold gx gy
      by_cases z : e % 2 = 0
      · rw [if_pos z, if_neg (by omega), h]
      · rw [if_neg z, if_pos (by omega), h]
    have e2 : gy f6 f7 e = gx f6 f7 g := by
      unfold gx gy
      by_cases z : e % 2 = 0
      · rw [if_pos z, if_neg (by omega), h]
      · rw [if_neg z, if_pos (by omega), h]
    have i1 := ch_inj hR (i := i + 1) (j := j) (by omega) (by omega) ((a4.trans e1).trans b5.symm)
    have i2 := ch_inj hR (i := i) (j := j + 1) (by omega) (by omega) ((a5.trans e2).trans b4.symm)
    omega
theorem ch_push {i : Nat} {l v y1 : Int32} {n B : Int} (r6 : rng f6 40 0 11) (r7 : rng f7 40 0 11) (r8 : rng f8 40 0 2000) (r9 : rng f9 40 0 100) (rp : rng bp 12 0 11) (hP12 : P ≤ 12) (hN : N ≤ 40) (hz : cz (gx f6 f7) (gy f6 f7) (gc f5 f8 f9 F0) (go f5 f8 f9 f10 F0) (2 * N) s P pd bl bp) (hv : ∀ e : Nat, e < 2 * N → go f5 f8 f9 f10 F0 e = true → gx f6 f7 e < P ∧ gy f6 f7 e < P)
    (ht : t < P) (hf : (pd t).toInt < 1099511627776) (hR : rcs (pf_ bp) s R t) (hpi : ∀ v : Nat, (pd v).toInt < 1099511627776 → pi v = (pd v).toInt) (hi : i < R) (hy : y1.toNatClampNeg = itr (pf_ bp) i t) (el : l = bl y1.toNatClampNeg) (e2 : F2 = upd F l.toNatClampNeg v)
    (hvv : v.toInt = (F l.toNatClampNeg).toInt + (if (f6 l.toNatClampNeg).toInt = (bp y1.toNatClampNeg).toInt then n else -n)) (hn : 1 ≤ n) (hna : ∀ k : Nat, k < R → n ≤ amtI f5 f6 f8 F0 bl bp (itr (pf_ bp) k t))
    (hun : ∀ k : Nat, i ≤ k → k < R → F (bl (itr (pf_ bp) k t)).toNatClampNeg = F0 (bl (itr (pf_ bp) k t)).toNatClampNeg) (hp : pot f5 f6 f7 f8 f9 f10 F N pi) (hk : okF f5 f8 f9 F) (hb : ∀ j : Nat, j < 40 → -(B + n) ≤ (F j).toInt ∧ (F j).toInt ≤ B + n) (hb0 : ∀ j : Nat, j < 40 → -B ≤ (F0 j).toInt ∧ (F0 j).toInt ≤ B) :
    pot f5 f6 f7 f8 f9 f10 F2 N pi ∧ okF f5 f8 f9 F2 ∧ (∀ j : Nat, j < 40 → -(B + n) ≤ (F2 j).toInt ∧ (F2 j).toInt ≤ B + n) ∧ (∀ k : Nat, i + 1 ≤ k → k < R → F2 (bl (itr (pf_ bp) k t)).toNatClampNeg = F0 (bl (itr (pf_ bp) k t)).toNatClampNeg) := by
  obtain ⟨e, q1, q2, q3, q4, q5, q6, q7⟩ := ch_e hz hv ht hf hR hi
  have un := hun i (Nat.le_refl _) hi
  have am := hna i hi
  have w := hv e q1 q2
  rw [← hy] at un am q3 q5
  rw [← el] at un q3
  have q4b : pf_ bp y1.toNatClampNeg = gx f6 f7 e := by rw [hy]; exact q4
  have hyP : y1.toNatClampNeg < 12 := by omega
  have bpr := rp _ hyP
  have cb := clI (i := bp y1.toNatClampNeg) bpr.1
  have b6 := r6 (e / 2) (by omega)
  have c6 := clI (i := f6 (e / 2)) b6.1
  have b7 := r7 (e / 2) (by omega)
  have c7 := clI (i := f7 (e / 2)) b7.1
  have q4c : (bp y1.toNatClampNeg).toNatClampNeg = gx f6 f7 e := q4b
  have hne : gx f6 f7 e ≠ gy f6 f7 e := fun h => by
    have := ch_inj hR (i := i + 1) (j := i) (by omega) (by omega) (by rw [q4, h, ← q5, hy])
    omega
  have dir : (f6 (e / 2)).toInt = (bp y1.toNatClampNeg).toInt ↔ e % 2 = 0 := by
    unfold gx at q4c
    unfold gx gy at hne
    by_cases z : e % 2 = 0
    · rw [if_pos z] at q4c
      exact ⟨fun _ => z, fun _ => by omega⟩
    · rw [if_neg z] at q4c
      rw [if_neg z, if_neg z] at hne
      exact ⟨fun h => by omega, fun h => absurd h z⟩
  have amv : amtI f5 f6 f8 F0 bl bp y1.toNatClampNeg = eA f5 f8 F (e / 2) (if e % 2 = 0 then 1 else 0) := by
    unfold amtI
    rw [← el, q3]
    have d2 : dirI (f6 (e / 2)).toInt (bp y1.toNatClampNeg).toInt = if e % 2 = 0 then 1 else 0 := by
      unfold dirI
      by_cases z : e % 2 = 0
      · rw [if_pos z, if_pos (dir.mpr z)]
      · rw [if_neg z, if_neg (fun h => z (dir.mp h))]
    rw [d2]
    unfold eA
    rw [← q3, un]
  rw [amv] at am
  have un2 : F (e / 2) = F0 (e / 2) := by rw [← q3]; exact un
  have cg := gc_cg (f5 := f5) (f8 := f8) (f9 := f9) un2
  have ho : go f5 f8 f9 f10 F e = true := by
    have o2 := go_iff.mp q2
    rw [← cg] at o2
    exact go_iff.mpr o2
  have hv2 : v.toInt = (F (e / 2)).toInt + (if e % 2 = 0 then n else -n) := by
    rw [q3] at hvv
    rw [hvv]
    by_cases z : e % 2 = 0
    · rw [if_pos z, if_pos (dir.mpr z)]
    · rw [if_neg z, if_neg (fun h => z (dir.mp h))]
  have fy : (pd (gy f6 f7 e)).toInt < 1099511627776 := by
    have := (ch_fin hz hv ht hf hR i (by omega)).2
    rw [← hy, q5] at this
    exact this
  have tight : pi (gy f6 f7 e) = pi (gx f6 f7 e) + gc f5 f8 f9 F e := by
    rw [hpi _ fy, hpi _ q6, cg]
    exact q7
  have g := gpush r8 r9 hN e2 q1 q3 ho hn am hv2 tight hp hk
  refine ⟨g.1, g.2, fun j hj => ?_, fun k k1 k2 => ?_⟩
  · by_cases z : j = l.toNatClampNeg
    · rw [e2, z, pk_us, hv2, un2]
      have h0 := hb0 (e / 2) (by omega)
      split <;> omega
    · rw [e2, pk_un z]
      exact hb j hj
  · have ne := ch_line hz hv ht hf hR (i := i) (j := k) (by omega) k2
    rw [← hy, ← el] at ne
    rw [e2, pk_un (fun h => ne h.symm)]
    exact hun k (by omega) k2
end GRAPH
theorem gc_0 {f5 f8 f9 F : Nat → Int32} {j : Nat} : gc f5 f8 f9 F (2 * j + (0 : Int32).toNatClampNeg) = eS f5 f8 f9 F j (1 : Int32).toInt := by
  unfold gc
  rw [cl_0, Nat.add_zero, Nat.mul_div_cancel_left j (by decide), if_pos (Nat.mul_mod_right 2 j)]
  rfl
theorem gc_1 {f5 f8 f9 F : Nat → Int32} {j : Nat} : gc f5 f8 f9 F (2 * j + (1 : Int32).toNatClampNeg) = eS f5 f8 f9 F j (0 : Int32).toInt := by
  unfold gc
  rw [cl_1, show (2 * j + 1) / 2 = j by omega, if_neg (by omega)]
  rfl
theorem gx_0 {f6 f7 : Nat → Int32} {j : Nat} : gx f6 f7 (2 * j + (0 : Int32).toNatClampNeg) = (f6 j).toNatClampNeg ∧ gy f6 f7 (2 * j + (0 : Int32).toNatClampNeg) = (f7 j).toNatClampNeg := by
  unfold gx gy
  rw [cl_0, Nat.add_zero, Nat.mul_div_cancel_left j (by decide), if_pos (Nat.mul_mod_right 2 j), if_pos (Nat.mul_mod_right 2 j)]
  exact ⟨rfl, rfl⟩
theorem gx_1 {f6 f7 : Nat → Int32} {j : Nat} : gx f6 f7 (2 * j + (1 : Int32).toNatClampNeg) = (f7 j).toNatClampNeg ∧ gy f6 f7 (2 * j + (1 : Int32).toNatClampNeg) = (f6 j).toNatClampNeg := by
  unfold gx gy
  rw [cl_1, show (2 * j + 1) / 2 = j by omega, if_neg (by omega), if_neg (by omega)]
  exact ⟨rfl, rfl⟩
theorem go_at {f5 f8 f9 f10 F : Nat → Int32} {j : Nat} {b : Int32} {r : Int} (hb : b.toInt = 0 ∨ b.toInt = 1) (h0 : (f10 j).toInt = 0) (hr : r = gc f5 f8 f9 F (2 * j + b.toNatClampNeg)) (hlt : r < 1000000) : go f5 f8 f9 f10 F (2 * j + b.toNatClampNeg) = true := by
  have c := clI (i := b) (by omega)
  refine go_iff.mpr ⟨?_, by omega⟩
  rw [show (2 * j + b.toNatClampNeg) / 2 = j by omega]
  exact h0
theorem go_miss {f5 f8 f9 f10 F : Nat → Int32} {j e : Nat} (h0 : (f10 j).toInt ≠ 0) (he : e / 2 = j) : go f5 f8 f9 f10 F e = false := by
  cases h : go f5 f8 f9 f10 F e with
  | false => rfl
  | true =>
    have a := (go_iff.mp h).1
    rw [he] at a
    exact absurd a h0
theorem pd_st {s : Nat} {pd pd2 : Nat → Int64} {i i2 : Int32} {v : Int64} (e : pd2 = vp_updL pd i.toNatClampNeg v) (hv : v.toInt = if i.toNatClampNeg = s then 0 else 1099511627776) (h : ∀ w : Nat, (w : Int) < i.toInt → (pd w).toInt = if w = s then 0 else 1099511627776) (h0 : 0 ≤ i.toInt) (ei : i2.toInt = i.toInt + 1) : ∀ w : Nat, (w : Int) < i2.toInt → (pd2 w).toInt = if w = s then 0 else 1099511627776 := fun w hw => by
  have c := clI (i := i) h0
  rw [e]
  by_cases q : w = i.toNatClampNeg
  · rw [q, pk_uLs]
    exact hv
  · rw [pk_uLn q]
    exact h w (by omega)
theorem cw_nx {x y : Nat → Nat} {c : Nat → Int} {ok : Nat → Bool} {E s P : Nat} {pd : Nat → Int64} {bl bp : Nat → Int32} {rnd k k2 : Nat} (h : cw x y c ok E s P pd bl bp rnd k) (e : k2 = k) : cw x y c ok E s P pd bl bp rnd k2 := by
  rw [e]
  exact h
theorem cw_rd {x y : Nat → Nat} {c : Nat → Int} {ok : Nat → Bool} {E s P : Nat} {pd : Nat → Int64} {bl bp : Nat → Int32} {rnd r2 k : Nat} (h : cw x y c ok E s P pd bl bp rnd k) (ek : k = E) (e : r2 = rnd + 1) : cw x y c ok E s P pd bl bp r2 0 := by
  rw [e]
  rw [ek] at h
  exact cw_round h
theorem cw_r2 {x y : Nat → Nat} {c : Nat → Int} {ok : Nat → Bool} {E s P : Nat} {pd : Nat → Int64} {bl bp : Nat → Int32} {rnd r2 k : Nat} (h : cw x y c ok E s P pd bl bp rnd k) (e : r2 = rnd) : cw x y c ok E s P pd bl bp r2 k := by
  rw [e]
  exact h
theorem nI2 {a b : Int32} (h : b.toInt = a.toInt + 1) (h0 : 0 ≤ a.toInt) : b.toNatClampNeg = a.toNatClampNeg + 1 := by
  have c := clI (i := a) h0
  have d := clI (i := b) (by omega)
  omega
end

section
theorem ch_lt {p : Nat → Nat} {s t R i : Nat} (hR : rcs p s R t) (hi : i ≤ R) (hne : itr p i t ≠ s) : i < R := by
  rcases Nat.lt_or_ge i R with h | h
  · exact h
  · have a := rcs_itr hR i hi
    rw [show R - i = 0 by omega] at a
    exact absurd a hne
theorem ch_eq {p : Nat → Nat} {s t R i : Nat} (hR : rcs p s R t) (hi : i ≤ R) (he : itr p i t = s) : i = R := by
  have a := rcs_itr hR i hi
  rw [he] at a
  have b : rcs p s 0 s := rfl
  have := rcs_un _ _ _ a b
  omega
end

section
/-! ===== the reference's kept nets ===== -/
noncomputable def pastE (U : Int) (f12 f13 f14 : Nat → Int32) : Prop := ∀ k : Nat, (k : Int) < U → ∀ j : Nat, (j : Int) < (f13 k).toInt → (f14 (200 * k + 5 * j + 4)).toInt < 1000 → (f14 (200 * k + 5 * j + 1)).toInt < (f12 k).toInt ∧ (f14 (200 * k + 5 * j + 2)).toInt < (f12 k).toInt
/-- line l of a net, as it is kept from place b on -/
noncomputable def entry (g : Nat → Int32) (b : Nat) (f5 f6 f7 f8 f9 f10 : Nat → Int32) (l : Nat) : Prop := g (b + 5 * l) = f5 l ∧ g (b + 5 * l + 1) = f6 l ∧ g (b + 5 * l + 2) = f7 l ∧ g (b + 5 * l + 3) = f8 l ∧ (g (b + 5 * l + 4)).toInt = (f9 l).toInt + (if (f10 l).toInt ≠ 0 then 1000 else 0)
/-- one more net is kept, of 31 the first one goes -/
noncomputable def kept (P N : Int32) (f5 f6 f7 f8 f9 f10 : Nat → Int32) (U : Int) (f12 f13 f14 : Nat → Int32) (U2 : Int) (e12 e13 e14 : Nat → Int32) : Prop :=
  ∃ m d : Nat, U2 = m + 1 ∧ (U = 30 ∧ d = 1 ∧ m = 29 ∨ U < 30 ∧ d = 0 ∧ U = m) ∧ (∀ k : Nat, k < m → e12 k = f12 (k + d) ∧ e13 k = f13 (k + d) ∧ ∀ i : Nat, i < 200 → e14 (200 * k + i) = f14 (200 * (k + d) + i)) ∧ e12 m = P ∧ e13 m = N ∧ ∀ l : Nat, l < 40 → entry e14 (200 * m) f5 f6 f7 f8 f9 f10 l
theorem kept_past {P N : Int32} {f5 f6 f7 f8 f9 f10 : Nat → Int32} {U : Int} {f12 f13 f14 : Nat → Int32} {U2 : Int} {e12 e13 e14 : Nat → Int32} (h : kept P N f5 f6 f7 f8 f9 f10 U f12 f13 f14 U2 e12 e13 e14) (hn : netE P.toInt N.toInt f6 f7 f10) (hp : pastE U f12 f13 f14) (hN : N.toInt ≤ 40) (r9 : rng f9 40 0 100) (r13 : rng f13 30 0 40) (hU : 0 ≤ U) : pastE U2 e12 e13 e14 := by
  obtain ⟨m, d, h2, hd, hk, hP, hN2, he⟩ := h
  intro k hk2 j hj h4
  by_cases q : k = m
  · subst q
    rw [hN2] at hj
    obtain ⟨a0, a1, a2, a3, a4⟩ := he j (by omega)
    rw [a4] at h4
    rw [a1, a2, hP]
    refine hn j hj ?_
    have b := r9 j (by omega)
    by_cases z : (f10 j).toInt ≠ 0
    · rw [if_pos z] at h4
      omega
    · omega
  · obtain ⟨a1, a2, a3⟩ := hk k (by omega)
    rw [a2] at hj
    have b := r13 (k + d) (by omega)
    have c1 := a3 (5 * j + 1) (by omega)
    have c2 := a3 (5 * j + 2) (by omega)
    have c4 := a3 (5 * j + 4) (by omega)
    rw [show 200 * k + 5 * j + 4 = 200 * k + (5 * j + 4) by omega, c4] at h4
    rw [show 200 * k + 5 * j + 1 = 200 * k + (5 * j + 1) by omega, c1, show 200 * k + 5 * j + 2 = 200 * k + (5 * j + 2) by omega, c2, a1]
    exact hp (k + d) (by omega) j hj h4
noncomputable def shf (f g : Nat → Int32) (d : Nat) (n : Int) : Prop := (∀ q : Nat, (q : Int) < n → g q = f (q + d)) ∧ (∀ q : Nat, n ≤ (q : Int) → g q = f q)
theorem shf_0 {f : Nat → Int32} {d : Nat} : shf f f d (0 : Int32).toInt := by
  have z : (0 : Int32).toInt = 0 := by decide
  exact ⟨fun q h => by omega, fun _ _ => rfl⟩
theorem shf_st {f g g2 : Nat → Int32} {d : Nat} {i i2 j v : Int32} (h : shf f g d i.toInt) (e : g2 = upd g i.toNatClampNeg v) (ev : v = g j.toNatClampNeg) (ej : j.toInt = i.toInt + d) (h0 : 0 ≤ i.toInt) (ei : i2.toInt = i.toInt + 1) : shf f g2 d i2.toInt := by
  have c := clI (i := i) h0
  have cj := clI (i := j) (by omega)
  refine ⟨fun q hq => ?_, fun q hq => ?_⟩
  · by_cases z : q = i.toNatClampNeg
    · rw [e, z, pk_us, ev, h.2 _ (by omega), show j.toNatClampNeg = i.toNatClampNeg + d by omega]
    · rw [e, pk_un z]
      exact h.1 q (by omega)
  · rw [e, pk_un (by omega)]
    exact h.2 q (by omega)
noncomputable def moved (s11 : Int) (f12 f13 f14 : Nat → Int32) (U : Int) (e12 e13 e14 : Nat → Int32) : Prop := ∃ d : Nat, (s11 = 30 ∧ d = 1 ∧ U = 29 ∨ s11 < 30 ∧ d = 0 ∧ U = s11) ∧ ∀ k : Nat, (k : Int) < U → e12 k = f12 (k + d) ∧ e13 k = f13 (k + d) ∧ ∀ i : Nat, i < 200 → e14 (200 * k + i) = f14 (200 * (k + d) + i)
theorem moved_1 {s11 U n1 n2 : Int} {f12 f13 f14 e12 e13 e14 : Nat → Int32} (hs : s11 = 30) (hU : U = 29) (h12 : shf f12 e12 1 n1) (h13 : shf f13 e13 1 n1) (h14 : shf f14 e14 200 n2) (hn1 : n1 = 29) (hn2 : n2 = 5800) : moved s11 f12 f13 f14 U e12 e13 e14 := ⟨1, Or.inl ⟨hs, rfl, hU⟩, fun k hk => ⟨h12.1 k (by omega), h13.1 k (by omega), fun i hi => by
  rw [h14.1 _ (by omega), show 200 * k + i + 200 = 200 * (k + 1) + i by omega]⟩⟩
theorem moved_0 {s11 : Int} {f12 f13 f14 : Nat → Int32} (hs : s11 < 30) : moved s11 f12 f13 f14 s11 f12 f13 f14 := ⟨0, Or.inr ⟨hs, rfl, rfl⟩, fun k hk => ⟨rfl, rfl, fun i hi => rfl⟩⟩
theorem ent_st {f5 f6 f7 f8 f9 f10 g g1 g2 g3 g4 g5 b : Nat → Int32} {u l l2 p0 p1 p2 p3 p4 v0 v1 v2 v3 v4 : Int32} (hu : 0 ≤ u.toInt) (hl : 0 ≤ l.toInt) (e0 : g1 = upd g p0.toNatClampNeg v0) (e1 : g2 = upd g1 p1.toNatClampNeg v1) (e2 : g3 = upd g2 p2.toNatClampNeg v2) (e3 : g4 = upd g3 p3.toNatClampNeg v3) (e4 : g5 = upd g4 p4.toNatClampNeg v4)
    (q0 : p0.toInt = 200 * u.toInt + 5 * l.toInt) (q1 : p1.toInt = p0.toInt + 1) (q2 : p2.toInt = p0.toInt + 2) (q3 : p3.toInt = p0.toInt + 3) (q4 : p4.toInt = p0.toInt + 4)
    (w0 : v0 = f5 l.toNatClampNeg) (w1 : v1 = f6 l.toNatClampNeg) (w2 : v2 = f7 l.toNatClampNeg) (w3 : v3 = f8 l.toNatClampNeg) (w4 : v4.toInt = (f9 l.toNatClampNeg).toInt + (if (f10 l.toNatClampNeg).toInt ≠ 0 then 1000 else 0))
    (hk : ∀ q : Nat, q < 200 * u.toNatClampNeg → g q = b q) (hE : ∀ j : Nat, (j : Int) < l.toInt → entry g (200 * u.toNatClampNeg) f5 f6 f7 f8 f9 f10 j) (el : l2.toInt = l.toInt + 1) :
    (∀ q : Nat, q < 200 * u.toNatClampNeg → g5 q = b q) ∧ ∀ j : Nat, (j : Int) < l2.toInt → entry g5 (200 * u.toNatClampNeg) f5 f6 f7 f8 f9 f10 j := by
  have cu := clI (i := u) hu
  have cl := clI (i := l) hl
  have c0 := clI (i := p0) (by omega)
  have c1 := clI (i := p1) (by omega)
  have c2 := clI (i := p2) (by omega)
  have c3 := clI (i := p3) (by omega)
  have c4 := clI (i := p4) (by omega)
  have lo : ∀ q : Nat, q < p0.toNatClampNeg → g5 q = g q := fun q hq => by
    rw [e4, pk_un (by omega), e3, pk_un (by omega), e2, pk_un (by omega), e1, pk_un (by omega), e0, pk_un (by omega)]
  refine ⟨fun q hq => (lo q (by omega)).trans (hk q hq), fun j hj => ?_⟩
  by_cases z : j = l.toNatClampNeg
  · subst z
    unfold entry
    rw [show 200 * u.toNatClampNeg + 5 * l.toNatClampNeg = p0.toNatClampNeg by omega]
    refine ⟨?_, ?_, ?_, ?_, ?_⟩
    · rw [e4, pk_un (by omega), e3, pk_un (by omega), e2, pk_un (by omega), e1, pk_un (by omega), e0, pk_us, w0]
    · rw [e4, pk_un (by omega), e3, pk_un (by omega), e2, pk_un (by omega), e1, show p0.toNatClampNeg + 1 = p1.toNatClampNeg by omega, pk_us, w1]
    · rw [e4, pk_un (by omega), e3, pk_un (by omega), e2, show p0.toNatClampNeg + 2 = p2.toNatClampNeg by omega, pk_us, w2]
    · rw [e4, pk_un (by omega), e3, show p0.toNatClampNeg + 3 = p3.toNatClampNeg by omega, pk_us, w3]
    · rw [e4, show p0.toNatClampNeg + 4 = p4.toNatClampNeg by omega, pk_us, w4]
  · have h := hE j (by omega)
    unfold entry at h ⊢
    rw [lo _ (by omega), lo _ (by omega), lo _ (by omega), lo _ (by omega), lo _ (by omega)]
    exact h
theorem kept_mk {P N u n11 L : Int32} {f5 f6 f7 f8 f9 f10 f12 f13 f14 F12 F13 F14 e12 e13 e14 : Nat → Int32} {s11 : Int} (hm : moved s11 f12 f13 f14 u.toInt F12 F13 F14) (h0 : 0 ≤ u.toInt) (a12 : e12 = upd F12 u.toNatClampNeg P) (a13 : e13 = upd F13 u.toNatClampNeg N) (hk : ∀ q : Nat, q < 200 * u.toNatClampNeg → e14 q = F14 q) (hE : ∀ j : Nat, (j : Int) < L.toInt → entry e14 (200 * u.toNatClampNeg) f5 f6 f7 f8 f9 f10 j) (hL : 40 ≤ L.toInt) (hn : n11.toInt = u.toInt + 1) : kept P N f5 f6 f7 f8 f9 f10 s11 f12 f13 f14 n11.toInt e12 e13 e14 := by
  have cu := clI (i := u) h0
  obtain ⟨d, hd, hq⟩ := hm
  refine ⟨u.toNatClampNeg, d, by omega, by omega, fun k hk2 => ?_, ?_, ?_, fun l hl => hE l (by omega)⟩
  · obtain ⟨b1, b2, b3⟩ := hq k (by omega)
    refine ⟨?_, ?_, fun i hi => ?_⟩
    · rw [a12, pk_un (by omega)]
      exact b1
    · rw [a13, pk_un (by omega)]
      exact b2
    · rw [hk _ (by omega)]
      exact b3 i hi
  · rw [a12, pk_us]
  · rw [a13, pk_us]
theorem netE_up {P Q N : Int} {f6 f7 f10 : Nat → Int32} (h : netE P N f6 f7 f10) (hq : P ≤ Q) : netE Q N f6 f7 f10 := fun j hj h0 => by
  have a := h j hj h0
  omega
theorem netE_add {P : Int} {N M a b z : Int32} {f6 f7 f10 e6 e7 e10 : Nat → Int32} (h : netE P N.toInt f6 f7 f10) (h6 : e6 = upd f6 N.toNatClampNeg a) (h7 : e7 = upd f7 N.toNatClampNeg b) (h10 : e10 = upd f10 N.toNatClampNeg z) (hN : 0 ≤ N.toInt) (hM : M.toInt = N.toInt + 1) (ha : a.toInt < P) (hb : b.toInt < P) : netE P M.toInt e6 e7 e10 := fun j hj h0 => by
  have c := clI (i := N) hN
  by_cases q : j = N.toNatClampNeg
  · rw [h6, h7, q, pk_us, pk_us]
    exact ⟨ha, hb⟩
  · rw [h10, pk_un q] at h0
    rw [h6, h7, pk_un q, pk_un q]
    exact h j (by omega) h0
theorem past_dn {U V : Int} {f12 f13 f14 : Nat → Int32} (h : pastE U f12 f13 f14) (hV : V ≤ U) : pastE V f12 f13 f14 := fun k hk => h k (by omega)
/-- a place's number behind a merge -/
noncomputable def renI (x low high : Int) : Int := if x = high then low else if high < x then x - 1 else x
theorem renI_lt {x low high P : Int} (h1 : low < high) (h2 : high < P) (hx : x < P) : renI x low high < P - 1 := by
  unfold renI
  (repeat' split) <;> omega
/-- the lines behind a merge, the first n of them done -/
noncomputable def mrgd (low high : Int) (f6 f7 f10 g6 g7 g10 : Nat → Int32) (n : Int) : Prop :=
  (∀ j : Nat, (j : Int) < n → ((f10 j).toInt ≠ 0 → g6 j = f6 j ∧ g7 j = f7 j ∧ g10 j = f10 j) ∧ ((f10 j).toInt = 0 → (g6 j).toInt = renI (f6 j).toInt low high ∧ (g7 j).toInt = renI (f7 j).toInt low high ∧ (g10 j).toInt = if renI (f6 j).toInt low high = renI (f7 j).toInt low high then 1 else 0)) ∧
  (∀ j : Nat, n ≤ (j : Int) → g6 j = f6 j ∧ g7 j = f7 j ∧ g10 j = f10 j)
theorem mrgd_0 {low high : Int} {f6 f7 f10 : Nat → Int32} : mrgd low high f6 f7 f10 f6 f7 f10 (0 : Int32).toInt := by
  have z : (0 : Int32).toInt = 0 := by decide
  exact ⟨fun j hj => by omega, fun _ _ => ⟨rfl, rfl, rfl⟩⟩
theorem mrgd_skip {low high : Int} {f6 f7 f10 g6 g7 g10 : Nat → Int32} {n n2 : Int32} (h : mrgd low high f6 f7 f10 g6 g7 g10 n.toInt) (h0 : 0 ≤ n.toInt) (e : n2.toInt = n.toInt + 1) (hm : (g10 n.toNatClampNeg).toInt ≠ 0) : mrgd low high f6 f7 f10 g6 g7 g10 n2.toInt := by
  have c := clI (i := n) h0
  refine ⟨fun j hj => ?_, fun j hj => h.2 j (by omega)⟩
  by_cases q : j = n.toNatClampNeg
  · have a := h.2 j (by omega)
    rw [← q, a.2.2] at hm
    exact ⟨fun _ => a, fun z => absurd z hm⟩
  · exact h.1 j (by omega)
theorem mrgd_st {low high : Int} {f6 f7 f10 g6 g7 g10 k6 k7 k10 : Nat → Int32} {n n2 x y z : Int32} (h : mrgd low high f6 f7 f10 g6 g7 g10 n.toInt) (h0 : 0 ≤ n.toInt) (e : n2.toInt = n.toInt + 1) (hm : (g10 n.toNatClampNeg).toInt = 0) (e6 : k6 = upd g6 n.toNatClampNeg x) (e7 : k7 = upd g7 n.toNatClampNeg y) (e10 : k10 = upd g10 n.toNatClampNeg z)
    (hx : x.toInt = renI (g6 n.toNatClampNeg).toInt low high) (hy : y.toInt = renI (g7 n.toNatClampNeg).toInt low high) (hz : z.toInt = if x.toInt = y.toInt then 1 else 0) : mrgd low high f6 f7 f10 k6 k7 k10 n2.toInt := by
  have c := clI (i := n) h0
  have a := h.2 n.toNatClampNeg (by omega)
  rw [a.1] at hx
  rw [a.2.1] at hy
  rw [a.2.2] at hm
  refine ⟨fun j hj => ?_, fun j hj => ?_⟩
  · by_cases q : j = n.toNatClampNeg
    · rw [e6, e7, e10, q, pk_us, pk_us, pk_us]
      exact ⟨fun w => absurd hm w, fun _ => ⟨hx, hy, by rw [hz, hx, hy]⟩⟩
    · rw [e6, e7, e10, pk_un q, pk_un q, pk_un q]
      exact h.1 j (by omega)
  · rw [e6, e7, e10, pk_un (by omega), pk_un (by omega), pk_un (by omega)]
    exact h.2 j (by omega)
theorem mrgd_net {low high P N n Q : Int} {f6 f7 f10 g6 g7 g10 : Nat → Int32} (h : mrgd low high f6 f7 f10 g6 g7 g10 n) (hN : N ≤ n) (hn : netE P N f6 f7 f10) (h1 : low < high) (h2 : high < P) (hQ : Q = P - 1) : netE Q N g6 g7 g10 := fun j hj h0 => by
  have a := h.1 j (by omega)
  by_cases q : (f10 j).toInt = 0
  · have b := a.2 q
    have w := hn j hj q
    rw [b.1, b.2.1, hQ]
    exact ⟨renI_lt h1 h2 w.1, renI_lt h1 h2 w.2⟩
  · have b := a.1 q
    rw [b.2.2] at h0
    exact absurd h0 q
/-- a net as it comes back -/
noncomputable def back (g : Nat → Int32) (b : Nat) (f5 f6 f7 f8 f9 f10 : Nat → Int32) (l : Nat) : Prop := f5 l = g (b + 5 * l) ∧ f6 l = g (b + 5 * l + 1) ∧ f7 l = g (b + 5 * l + 2) ∧ f8 l = g (b + 5 * l + 3) ∧ (f9 l).toInt = (g (b + 5 * l + 4)).toInt % 1000 ∧ (f10 l).toInt = if 999 < (g (b + 5 * l + 4)).toInt then 1 else 0
theorem rem1000e {x : Int32} (h : (0 ≤ x.toInt ∧ x.toInt ≤ 100) ∨ (1000 ≤ x.toInt ∧ x.toInt ≤ 1100)) : (x - x / 1000 * 1000).toInt = x.toInt % 1000 := by
  obtain ⟨j, hj, rfl⟩ := nI_of (x := x) (fun h9 => by
    have := Int32.lt_iff_toInt_lt.mp h9
    have z : (0 : Int32).toInt = 0 := by decide
    omega)
  have e : (1000 : Int32) = nI 1000 := rfl
  rw [nI_toInt hj] at h
  rw [e, pk_rem hj (by decide) (by decide), nI_toInt (by omega), nI_toInt hj]
  omega
theorem back_st {g f5 f6 f7 f8 f9 f10 k5 k6 k7 k8 k9 k10 : Nat → Int32} {u l l2 p v0 v1 v2 v3 v4 v5 w1 w2 w3 w4 x4 : Int32} (hu : 0 ≤ u.toInt) (hl : 0 ≤ l.toInt) (hp : p.toInt = 200 * u.toInt + 5 * l.toInt) (e5 : k5 = upd f5 l.toNatClampNeg v0) (e6 : k6 = upd f6 l.toNatClampNeg v1) (e7 : k7 = upd f7 l.toNatClampNeg v2) (e8 : k8 = upd f8 l.toNatClampNeg v3) (e9 : k9 = upd f9 l.toNatClampNeg v4) (e10 : k10 = upd f10 l.toNatClampNeg v5)
    (a0 : v0 = g p.toNatClampNeg) (a1 : v1 = g w1.toNatClampNeg) (q1 : w1.toInt = p.toInt + 1) (a2 : v2 = g w2.toNatClampNeg) (q2 : w2.toInt = p.toInt + 2) (a3 : v3 = g w3.toNatClampNeg) (q3 : w3.toInt = p.toInt + 3) (a4 : x4 = g w4.toNatClampNeg) (q4 : w4.toInt = p.toInt + 4) (b4 : v4.toInt = x4.toInt % 1000) (b5 : v5.toInt = if 999 < x4.toInt then 1 else 0)
    (h : ∀ j : Nat, (j : Int) < l.toInt → back g (200 * u.toNatClampNeg) f5 f6 f7 f8 f9 f10 j) (el : l2.toInt = l.toInt + 1) : ∀ j : Nat, (j : Int) < l2.toInt → back g (200 * u.toNatClampNeg) k5 k6 k7 k8 k9 k10 j := fun j hj => by
  have cu := clI (i := u) hu
  have cl := clI (i := l) hl
  have c0 := clI (i := p) (by omega)
  have c1 := clI (i := w1) (by omega)
  have c2 := clI (i := w2) (by omega)
  have c3 := clI (i := w3) (by omega)
  have c4 := clI (i := w4) (by omega)
  unfold back
  by_cases z : j = l.toNatClampNeg
  · subst z
    rw [show 200 * u.toNatClampNeg + 5 * l.toNatClampNeg = p.toNatClampNeg by omega, show p.toNatClampNeg + 1 = w1.toNatClampNeg by omega, show p.toNatClampNeg + 2 = w2.toNatClampNeg by omega, show p.toNatClampNeg + 3 = w3.toNatClampNeg by omega, show p.toNatClampNeg + 4 = w4.toNatClampNeg by omega, ← a0, ← a1, ← a2, ← a3, ← a4, e5, e6, e7, e8, e9, e10, pk_us, pk_us, pk_us, pk_us, pk_us, pk_us]
    exact ⟨rfl, rfl, rfl, rfl, b4, b5⟩
  · rw [e5, e6, e7, e8, e9, e10, pk_un z, pk_un z, pk_un z, pk_un z, pk_un z, pk_un z]
    exact h j (by omega)
theorem back_net {g12 g13 g14 f5 f6 f7 f8 f9 f10 : Nat → Int32} {u L P N : Int32} {U : Int} (hp : pastE U g12 g13 g14) (h0 : 0 ≤ u.toInt) (hu : u.toInt < U) (hP : P = g12 u.toNatClampNeg) (hN : N = g13 u.toNatClampNeg) (h40 : N.toInt ≤ 40) (h : ∀ j : Nat, (j : Int) < L.toInt → back g14 (200 * u.toNatClampNeg) f5 f6 f7 f8 f9 f10 j) (hL : 40 ≤ L.toInt) : netE P.toInt N.toInt f6 f7 f10 := fun j hj h9 => by
  have cu := clI (i := u) h0
  obtain ⟨b5, b6, b7, b8, b9, b10⟩ := h j (by omega)
  rw [b6, b7, hP]
  refine hp _ (by omega) j (by rw [← hN]; exact hj) ?_
  rw [b10] at h9
  split at h9
  · omega
  · omega
theorem nar_if {z : Int32} {a b : Int} (h : z.toInt = if a = b then 1 else 0) : (vp_nar .boolean z).toInt = if a = b then 1 else 0 := by
  have e : z = 0 ∨ z = 1 := b01 (by split at h <;> omega)
  rw [← h]
  rcases e with e | e <;> rw [e] <;> decide
theorem nar_gt {z : Int32} {a b : Int} (h : z.toInt = if a < b then 1 else 0) : (vp_nar .boolean z).toInt = if a < b then 1 else 0 := by
  have e : z = 0 ∨ z = 1 := b01 (by split at h <;> omega)
  rw [← h]
  rcases e with e | e <;> rw [e] <;> decide

set_option maxHeartbeats 4000000 in
set_option maxRecDepth 100000 in
theorem c_X12_keeps2 (l : Launch) (D : va_G) (cy : Nat → ClassId) (sz : Nat) (mo : Nat) (g5 : Nat) (g6 : Nat) (g7 : Nat) (g8 : Nat) (g9 : Nat) (g10 : Nat) (g12 : Nat) (g13 : Nat) (g14 : Nat) (g15 : Nat) (g16 : Nat) (g17 : Nat) (g18 : Nat) (g19 : Nat) (g20 : Nat) (g22 : Nat) (g23 : Nat) (g24 : Nat) (g29 : Nat) (g30 : Nat) (g31 : Nat) (g32 : Nat) (g33 : Nat) (s0 : Int32) (s1 : Int32) (s3 : Int32) (s4 : Int32) (s11 : Int32) (s21 : Int32) (s25 : Int32) (s26 : Int32) (s27 : Int32) (s28 : Int32) (t2 : Int64) (f5 : Nat → Int32) (f6 : Nat → Int32) (f7 : Nat → Int32) (f8 : Nat → Int32) (f9 : Nat → Int32) (f10 : Nat → Int32) (f12 : Nat → Int32) (f13 : Nat → Int32) (f14 : Nat → Int32) (hN : 0 ≤ s4.toInt ∧ s4.toInt ≤ 40) (hPl : 0 ≤ s3.toInt ∧ s3.toInt ≤ 12) (hU : 0 ≤ s11.toInt ∧ s11.toInt ≤ 30) (r_f6 : rng f6 40 (0) (11)) (r_f7 : rng f7 40 (0) (11)) (r_f8 : rng f8 40 (0) (2000)) (r_f9 : rng f9 40 (0) (100)) (r_f12 : rng f12 30 (0) (12)) (r_f13 : rng f13 30 (0) (40)) (r_f14 : orng f14 6000) : Met l yX12_keeps wsX12_keeps ({ frames := 0, cells := 0, slots := 0, locals := 0 }) (va_Pc [.ref mo] (fun U => U.heap.size = sz ∧ va_P D vwCl [ob12_0_ mo s0 s1 t2 s3 s4 g5 g6 g7 g8 g9 g10 s11 g12 g13 g14 g15 g16 g17 g18 g19 g20 s21 g22 g23 g24 s25 s26 s27 s28 g29 g30 g31 g32 g33, ai_ cy g5 40 f5, ai_ cy g6 40 f6, ai_ cy g7 40 f7, ai_ cy g8 40 f8, ai_ cy g9 40 f9, az_ cy g10 40 f10, ai_ cy g12 30 f12, ai_ cy g13 30 f13, ai_ cy g14 6000 f14] U.heap ∧ kk_ D cy U ∧ va_D (fun _ => True) [ob12_0_ mo s0 s1 t2 s3 s4 g5 g6 g7 g8 g9 g10 s11 g12 g13 g14 g15 g16 g17 g18 g19 g20 s21 g22 g23 g24 s25 s26 s27 s28 g29 g30 g31 g32 g33, ai_ cy g5 40 f5, ai_ cy g6 40 f6, ai_ cy g7 40 f7, ai_ cy g8 40 f8, ai_ cy g9 40 f9, az_ cy g10 40 f10, ai_ cy g12 30 f12, ai_ cy g13 30 f13, ai_ cy g14 6000 f14])) (va_Qv (fun (_ : Unit) => True) (fun (_ : Unit) (t : State) => ∃ (n11 : Int32), ∃ (e12 : Nat → Int32), ∃ (e13 : Nat → Int32), ∃ (e14 : Nat → Int32), (1 ≤ n11.toInt ∧ n11.toInt ≤ 30) ∧ (kept s3 s4 f5 f6 f7 f8 f9 f10 s11.toInt f12 f13 f14 n11.toInt e12 e13 e14) ∧ (rng e12 30 (0) (12)) ∧ (rng e13 30 (0) (40)) ∧ (orng e14 6000) ∧ va_P D vwCl [ob12_0_ mo s0 s1 t2 s3 s4 g5 g6 g7 g8 g9 g10 n11 g12 g13 g14 g15 g16 g17 g18 g19 g20 s21 g22 g23 g24 s25 s26 s27 s28 g29 g30 g31 g32 g33, ai_ cy g5 40 f5, ai_ cy g6 40 f6, ai_ cy g7 40 f7, ai_ cy g8 40 f8, ai_ cy g9 40 f9, az_ cy g10 40 f10, ai_ cy g12 30 e12, ai_ cy g13 30 e13, ai_ cy g14 6000 e14] t.heap ∧ va_D (va_A [ob12_0_ mo s0 s1 t2 s3 s4 g5 g6 g7 g8 g9 g10 s11 g12 g13 g14 g15 g16 g17 g18 g19 g20 s21 g22 g23 g24 s25 s26 s27 s28 g29 g30 g31 g32 g33, ai_ cy g5 40 f5, ai_ cy g6 40 f6, ai_ cy g7 40 f7, ai_ cy g8 40 f8, ai_ cy g9 40 f9, az_ cy g10 40 f10, ai_ cy g12 30 f12, ai_ cy g13 30 f13, ai_ cy g14 6000 f14] sz) [ob12_0_ mo s0 s1 t2 s3 s4 g5 g6 g7 g8 g9 g10 n11 g12 g13 g14 g15 g16 g17 g18 g19 g20 s21 g22 g23 g24 s25 s26 s27 s28 g29 g30 g31 g32 g33, ai_ cy g5 40 f5, ai_ cy g6 40 f6, ai_ cy g7 40 f7, ai_ cy g8 40 f8, ai_ cy g9 40 f9, az_ cy g10 40 f10, ai_ cy g12 30 e12, ai_ cy g13 30 e13, ai_ cy g14 6000 e14]) (va_A [ob12_0_ mo s0 s1 t2 s3 s4 g5 g6 g7 g8 g9 g10 s11 g12 g13 g14 g15 g16 g17 g18 g19 g20 s21 g22 g23 g24 s25 s26 s27 s28 g29 g30 g31 g32 g33, ai_ cy g5 40 f5, ai_ cy g6 40 f6, ai_ cy g7 40 f7, ai_ cy g8 40 f8, ai_ cy g9 40 f9, az_ cy g10 40 f10, ai_ cy g12 30 f12, ai_ cy g13 30 f13, ai_ cy g14 6000 f14] sz)) 0 0 (va_A [ob12_0_ mo s0 s1 t2 s3 s4 g5 g6 g7 g8 g9 g10 s11 g12 g13 g14 g15 g16 g17 g18 g19 g20 s21 g22 g23 g24 s25 s26 s27 s28 g29 g30 g31 g32 g33, ai_ cy g5 40 f5, ai_ cy g6 40 f6, ai_ cy g7 40 f7, ai_ cy g8 40 f8, ai_ cy g9 40 f9, az_ cy g10 40 f10, ai_ cy g12 30 f12, ai_ cy g13 30 f13, ai_ cy g14 6000 f14] sz) := by
  refine ofQ (cc := cX12_keeps) (maxL := 3) (ret := none) (by decide) rfl ?_
  intro p e s m args below meth c s₁ Q hQ B hml hv
  obtain ⟨rfl, hsz, hP, hK, hD0⟩ := hv
  have hx := B.exec
  have hb := B.bytes
  have hr := B.returns
  have hts := atoms_spec (ws := wsX12_keeps) B.pre
  have hown : s.vm.findClass RX12 = some m.cls := by have h_ := findClass_of_methodNamed B.named; exact h_
  have hlocks := B.notSynchronized
  subst hsz
  have hD := hD0.self (sz := s.heap.size)
  generalize hAe : va_A [ob12_0_ mo s0 s1 t2 s3 s4 g5 g6 g7 g8 g9 g10 s11 g12 g13 g14 g15 g16 g17 g18 g19 g20 s21 g22 g23 g24 s25 s26 s27 s28 g29 g30 g31 g32 g33, ai_ cy g5 40 f5, ai_ cy g6 40 f6, ai_ cy g7 40 f7, ai_ cy g8 40 f8, ai_ cy g9 40 f9, az_ cy g10 40 f10, ai_ cy g12 30 f12, ai_ cy g13 30 f13, ai_ cy g14 6000 f14] s.heap.size = A at hD hQ
  have hA : ∀ q : Nat, s.heap.size ≤ q → A q := fun q h => by rw [← hAe]; exact Or.inr h
  have hS : va_S A s.heap s.heap [] := va_S.rf
  have hl := lv_entry ([.ref mo]) (n := 3) (Nat.le_of_ble_eq_true rfl)
  rw [lg_entry_eq]
  generalize (lg_sl ([.ref mo]) ++ List.replicate (3 - (lg_sl ([.ref mo])).length) Slot.unset).toArray = ls at hl ⊢
  have hl : lv_has ls 3 [(0, .ref mo)] := hl
  have z0 : (0 : Int32).toInt = 0 := by decide
  have z1 : (1 : Int32).toInt = 1 := by decide
  have z2 : (2 : Int32).toInt = 2 := by decide
  have z3 : (3 : Int32).toInt = 3 := by decide
  have z4 : (4 : Int32).toInt = 4 := by decide
  have z5 : (5 : Int32).toInt = 5 := by decide
  have z29 : (29 : Int32).toInt = 29 := by decide
  have z30 : (30 : Int32).toInt = 30 := by decide
  have z40 : (40 : Int32).toInt = 40 := by decide
  have z200 : (200 : Int32).toInt = 200 := by decide
  have z1000 : (1000 : Int32).toInt = 1000 := by decide
  have z5800 : (5800 : Int32).toInt = 5800 := by decide
  refine lv_aload_n hx hb dB_3_0_19.1.1.1.1 rfl (lv_at hl 0 rfl) ?_
  refine va_get (ci := 12) (v := .int s11) (C := RX12) (T := TX12) (N := 34) hx hb hts (fun _ h => List.mem_cons_of_mem _ (List.mem_append_right _ h)) hown hK.1 hP 0 rfl rfl 11 (by decide) (hts (.fieldLink RX12 102 "CutAtlasModel" "undone" "I") (List.mem_of_getElem? (i := 1) rfl)) (fun _ h9 => h9) rfl dB_3_0_19.1.1.1.2 ?_
  refine lv_bipush (v := 30) hx hb dB_3_0_19.1.1.2.1 (by decide) ?_
  refine lv_icmp_ne (tgt := 92) hx hb dB_3_0_19.1.1.2.2 (by decide) (fun c_1 => ?_) (fun c_1 => ?_)
  · have t_1 : ¬ s11.toInt = (30 : Int32).toInt := fun h => c_1 (Int32.toInt_inj.mp h)
    have hm_ : moved s11.toInt f12 f13 f14 s11.toInt f12 f13 f14 := by first | exact moved_1 (by omega) (by omega) v_none v_none v_none (by omega) (by omega) | exact moved_0 (by omega)
    refine lv_aload_n hx hb dB_3_0_22.1.2.2.1 rfl (lv_at hl 0 rfl) ?_
    refine va_get (ci := 12) (v := .ref g12) (C := RX12) (T := TX12) (N := 34) hx hb hts (fun _ h => List.mem_cons_of_mem _ (List.mem_append_right _ h)) hown hK.1 hP 0 rfl rfl 12 (by decide) (hts (.fieldLink RX12 29 "CutAtlasModel" "oldPlaces" "[I") (List.mem_of_getElem? (i := 2) rfl)) (fun _ h9 => h9) rfl dB_3_0_22.1.2.2.2 ?_
    refine lv_aload_n hx hb dB_3_0_22.2.1.1.1 rfl (lv_at hl 0 rfl) ?_
    refine va_get (ci := 12) (v := .int s11) (C := RX12) (T := TX12) (N := 34) hx hb hts (fun _ h => List.mem_cons_of_mem _ (List.mem_append_right _ h)) hown hK.1 hP 0 rfl rfl 11 (by decide) (hts (.fieldLink RX12 102 "CutAtlasModel" "undone" "I") (List.mem_of_getElem? (i := 1) rfl)) (fun _ h9 => h9) rfl dB_3_0_22.2.1.1.2 ?_
    refine lv_aload_n hx hb dB_3_0_22.2.1.2.1 rfl (lv_at hl 0 rfl) ?_
    refine va_get (ci := 12) (v := .int s3) (C := RX12) (T := TX12) (N := 34) hx hb hts (fun _ h => List.mem_cons_of_mem _ (List.mem_append_right _ h)) hown hK.1 hP 0 rfl rfl 3 (by decide) (hts (.fieldLink RX12 88 "CutAtlasModel" "places" "I") (List.mem_of_getElem? (i := 5) rfl)) (fun _ h9 => h9) rfl dB_3_0_22.2.1.2.2 ?_
    have h_2 : vp_in s11 30 := in_I (by first | with_reducible assumption | omega) (by omega)
    refine va_iast hx hb hK.1 hP hD hS 7 0 rfl rfl (i := s11) h_2 dB_3_0_22.2.2.1.1 (fun H locs hP hD hS => ?_)
    obtain ⟨f_3, ef_3⟩ : ∃ g : Nat → Int32, g = upd f12 s11.toNatClampNeg s3 := ⟨_, rfl⟩
    refine pd_K (D := D) (cl := vwCl) (H := H) (A := A) [ob12_0_ mo s0 s1 t2 s3 s4 g5 g6 g7 g8 g9 g10 s11 g12 g13 g14 g15 g16 g17 g18 g19 g20 s21 g22 g23 g24 s25 s26 s27 s28 g29 g30 g31 g32 g33, ai_ cy g5 40 f5, ai_ cy g6 40 f6, ai_ cy g7 40 f7, ai_ cy g8 40 f8, ai_ cy g9 40 f9, az_ cy g10 40 f10, ai_ cy g12 30 f_3, ai_ cy g13 30 f13, ai_ cy g14 6000 f14] (by rw [ef_3]; exact hP) (by rw [ef_3]; exact hD) (fun hP hD => ?_)
    have rf_3 : rng f_3 30 (0) (12) := by rw [ef_3]; exact rng_upd r_f12 (by omega) (by omega)
    refine lv_aload_n hx hb dB_3_0_22.2.2.1.2 rfl (lv_at hl 0 rfl) ?_
    refine va_get (ci := 12) (v := .ref g13) (C := RX12) (T := TX12) (N := 34) hx hb hts (fun _ h => List.mem_cons_of_mem _ (List.mem_append_right _ h)) hown hK.1 hP 0 rfl rfl 13 (by decide) (hts (.fieldLink RX12 32 "CutAtlasModel" "oldLines" "[I") (List.mem_of_getElem? (i := 3) rfl)) (fun _ h9 => h9) rfl dB_3_0_22.2.2.2.1 ?_
    refine lv_aload_n hx hb dB_3_0_22.2.2.2.2 rfl (lv_at hl 0 rfl) ?_
    refine va_get (ci := 12) (v := .int s11) (C := RX12) (T := TX12) (N := 34) hx hb hts (fun _ h => List.mem_cons_of_mem _ (List.mem_append_right _ h)) hown hK.1 hP 0 rfl rfl 11 (by decide) (hts (.fieldLink RX12 102 "CutAtlasModel" "undone" "I") (List.mem_of_getElem? (i := 1) rfl)) (fun _ h9 => h9) rfl dB_3_0_23.1.1.1.1 ?_
    refine lv_aload_n hx hb dB_3_0_23.1.1.1.2 rfl (lv_at hl 0 rfl) ?_
    refine va_get (ci := 12) (v := .int s4) (C := RX12) (T := TX12) (N := 34) hx hb hts (fun _ h => List.mem_cons_of_mem _ (List.mem_append_right _ h)) hown hK.1 hP 0 rfl rfl 4 (by decide) (hts (.fieldLink RX12 95 "CutAtlasModel" "lines" "I") (List.mem_of_getElem? (i := 6) rfl)) (fun _ h9 => h9) rfl dB_3_0_23.1.1.2.1 ?_
    refine va_iast hx hb hK.1 hP hD hS 8 0 rfl rfl (i := s11) h_2 dB_3_0_23.1.1.2.2 (fun H locs hP hD hS => ?_)
    obtain ⟨f_5, ef_5⟩ : ∃ g : Nat → Int32, g = upd f13 s11.toNatClampNeg s4 := ⟨_, rfl⟩
    refine pd_K (D := D) (cl := vwCl) (H := H) (A := A) [ob12_0_ mo s0 s1 t2 s3 s4 g5 g6 g7 g8 g9 g10 s11 g12 g13 g14 g15 g16 g17 g18 g19 g20 s21 g22 g23 g24 s25 s26 s27 s28 g29 g30 g31 g32 g33, ai_ cy g5 40 f5, ai_ cy g6 40 f6, ai_ cy g7 40 f7, ai_ cy g8 40 f8, ai_ cy g9 40 f9, az_ cy g10 40 f10, ai_ cy g12 30 f_3, ai_ cy g13 30 f_5, ai_ cy g14 6000 f14] (by rw [ef_5]; exact hP) (by rw [ef_5]; exact hD) (fun hP hD => ?_)
    have rf_5 : rng f_5 30 (0) (40) := by rw [ef_5]; exact rng_upd r_f13 (by omega) (by omega)
    refine lv_iconst (v := 0) hx hb dB_3_0_23.1.2.1.1 (by decide) ?_
    refine lv_istore_n (lv' := [(1, .int 0), (0, .ref mo)]) hx hb dB_3_0_23.1.2.1.2 rfl hl (by decide) rfl (fun ls hl => ?_)
    suffices LOOP_6 : ∀ (n_6 : Nat) (x1_6 : Int32) (c_g14_6 : Nat → Int32) (H : Heap) (locs : List Loc) (ls : Array Slot), 40 - x1_6.toInt < (n_6 : Int) → (0 ≤ x1_6.toInt) → (x1_6.toInt ≤ 40) → (∀ q : Nat, q < 200 * s11.toNatClampNeg → c_g14_6 q = f14 q) → (∀ j : Nat, (j : Int) < x1_6.toInt → entry c_g14_6 (200 * s11.toNatClampNeg) f5 f6 f7 f8 f9 f10 j) → (orng c_g14_6 6000) → pd_2 D vwCl A [ob12_0_ mo s0 s1 t2 s3 s4 g5 g6 g7 g8 g9 g10 s11 g12 g13 g14 g15 g16 g17 g18 g19 g20 s21 g22 g23 g24 s25 s26 s27 s28 g29 g30 g31 g32 g33, ai_ cy g5 40 f5, ai_ cy g6 40 f6, ai_ cy g7 40 f7, ai_ cy g8 40 f8, ai_ cy g9 40 f9, az_ cy g10 40 f10, ai_ cy g12 30 f_3, ai_ cy g13 30 f_5, ai_ cy g14 6000 c_g14_6] H → va_S A s.heap H locs → lv_has ls 3 [(1, .int x1_6), (0, .ref mo)] → W p l e ({ frames := 0, cells := 0, slots := 0, locals := 0 } : Room) s m (([.ref mo] : List Value).toArray) below meth c H locs 0 0 Q (F0 m 120 ls []) from LOOP_6 ((40 - (0 : Int32).toInt).toNat + 1) (0 : Int32) f14 _ _ _ (by omega) (by first | with_reducible assumption | omega | assumption) (by first | with_reducible assumption | omega | assumption) (by first | exact fun _ _ => rfl | exact hE_.1) (by first | exact hE_.2 | (intro j hj; omega)) (by first | with_reducible assumption | assumption | exact rng_zero (by omega) (by omega) | exact orng_zero) ⟨hP, hD⟩ hS (lv_sub hl [0, 1] rfl)
    intro n_6
    induction n_6 with
    | zero =>
      intro x1_6 c_g14_6 H locs ls hm v0_6 v1_6 v2_6 v3_6 rc_g14_6 hPD hS hl; obtain ⟨hP, hD⟩ := hPD
      exact absurd hm (by omega)
    | succ n_6 ih_6 =>
      intro x1_6 c_g14_6 H locs ls hm v0_6 v1_6 v2_6 v3_6 rc_g14_6 hPD hS hl; obtain ⟨hP, hD⟩ := hPD
      refine lv_iload_n hx hb dB_3_0_23.1.2.2.1 rfl (lv_at hl 0 rfl) ?_
      refine lv_bipush (v := 40) hx hb dB_3_0_23.1.2.2.2 (by decide) ?_
      refine lv_icmp_ge (tgt := 230) hx hb dB_3_0_23.2.1.1.1 (by decide) (fun c_7 => ?_) (fun c_7 => ?_)
      · have t_7 : (40 : Int32).toInt ≤ x1_6.toInt := Int32.le_iff_toInt_le.mp c_7
        refine lv_aload_n hx hb dB_3_0_27.2.2.1.2 rfl (lv_at hl 1 rfl) ?_
        refine lv_dup hx hb dB_3_0_27.2.2.2.1 rfl ?_
        refine va_get (ci := 12) (v := .int s11) (C := RX12) (T := TX12) (N := 34) hx hb hts (fun _ h => List.mem_cons_of_mem _ (List.mem_append_right _ h)) hown hK.1 hP 0 rfl rfl 11 (by decide) (hts (.fieldLink RX12 102 "CutAtlasModel" "undone" "I") (List.mem_of_getElem? (i := 1) rfl)) (fun _ h9 => h9) rfl dB_3_0_27.2.2.2.2 ?_
        refine lv_iconst (v := 1) hx hb dB_3_0_28.1.1 (by decide) ?_
        refine lv_iadd hx hb dB_3_0_28.1.2 ?_
        refine lv_topi (fun y_8 ey_8 => ?_)
        have ty_8 : y_8.toInt = s11.toInt + (1 : Int32).toInt := by rw [ey_8]; exact addI (by omega) (by omega)
        refine va_put (ci := 12) (v := .int y_8) (ty := .int) (C := RX12) (T := TX12) (N := 34) hx hb hts (fun _ h => List.mem_cons_of_mem _ (List.mem_append_right _ h)) tyX12 tyX12_ok nmX12 hown hK.1 hP hD hS 0 rfl rfl 11 (by decide) (hts (.fieldLink RX12 102 "CutAtlasModel" "undone" "I") (List.mem_of_getElem? (i := 1) rfl)) (fun _ h9 => h9) rfl (by decide +kernel) rfl rfl (Nat.le_of_ble_eq_true rfl) dB_3_0_28.2.1 (fun H locs hP hD hS => ?_)
        refine pd_K [ob12_0_ mo s0 s1 t2 s3 s4 g5 g6 g7 g8 g9 g10 y_8 g12 g13 g14 g15 g16 g17 g18 g19 g20 s21 g22 g23 g24 s25 s26 s27 s28 g29 g30 g31 g32 g33, ai_ cy g5 40 f5, ai_ cy g6 40 f6, ai_ cy g7 40 f7, ai_ cy g8 40 f8, ai_ cy g9 40 f9, az_ cy g10 40 f10, ai_ cy g12 30 f_3, ai_ cy g13 30 f_5, ai_ cy g14 6000 c_g14_6] hP hD (fun hP hD => ?_)
        rw [hQ]
        exact W.vret hx hb hr (fun t ht hW => ⟨⟨(), rfl, trivial, y_8, f_3, f_5, c_g14_6, (by first | with_reducible assumption | omega | assumption), (kept_mk (u := s11) (L := x1_6) hm_ (by omega) ef_3 ef_5 v2_6 v3_6 (by omega) (by omega)), (by first | with_reducible assumption | assumption | exact rng_zero (by omega) (by omega) | omega), (by first | with_reducible assumption | assumption | exact rng_zero (by omega) (by omega) | omega), (by first | with_reducible assumption | assumption | exact rng_zero (by omega) (by omega) | omega), by rw [ht]; exact hP, hD⟩, hS.F ht⟩) hS.2.2 dB_3_0_28.2.2
      · have t_7 : ¬ (40 : Int32).toInt ≤ x1_6.toInt := fun h => c_7 (Int32.le_iff_toInt_le.mpr h)
        refine lv_sipush (v := 200) hx hb dB_3_0_23.2.1.1.2 (by decide) ?_
        refine lv_aload_n hx hb dB_3_0_23.2.1.2.1 rfl (lv_at hl 1 rfl) ?_
        refine va_get (ci := 12) (v := .int s11) (C := RX12) (T := TX12) (N := 34) hx hb hts (fun _ h => List.mem_cons_of_mem _ (List.mem_append_right _ h)) hown hK.1 hP 0 rfl rfl 11 (by decide) (hts (.fieldLink RX12 102 "CutAtlasModel" "undone" "I") (List.mem_of_getElem? (i := 1) rfl)) (fun _ h9 => h9) rfl dB_3_0_23.2.1.2.2 ?_
        refine lv_imul hx hb dB_3_0_23.2.2.1.1 ?_
        refine lv_topi (fun y_9 ey_9 => ?_)
        have ty_9 : y_9.toInt = 200 * s11.toInt := by rw [ey_9]; exact mulC (by decide) (by omega) (by omega)
        refine lv_iconst (v := 5) hx hb dB_3_0_23.2.2.1.2 (by decide) ?_
        refine lv_iload_n hx hb dB_3_0_23.2.2.2.1 rfl (lv_at hl 0 rfl) ?_
        refine lv_imul hx hb dB_3_0_23.2.2.2.2 ?_
        refine lv_topi (fun y_10 ey_10 => ?_)
        have ty_10 : y_10.toInt = 5 * x1_6.toInt := by rw [ey_10]; exact mulC (by decide) (by omega) (by omega)
        refine lv_iadd hx hb dB_3_0_24.1.1.1.1 ?_
        refine lv_topi (fun y_11 ey_11 => ?_)
        have ty_11 : y_11.toInt = y_9.toInt + y_10.toInt := by rw [ey_11]; exact addI (by omega) (by omega)
        refine lv_istore_n (lv' := [(2, .int y_11), (1, .int x1_6), (0, .ref mo)]) hx hb dB_3_0_24.1.1.1.2 rfl hl (by decide) rfl (fun ls hl => ?_)
        refine lv_aload_n hx hb dB_3_0_24.1.1.2.1 rfl (lv_at hl 2 rfl) ?_
        refine va_get (ci := 12) (v := .ref g14) (C := RX12) (T := TX12) (N := 34) hx hb hts (fun _ h => List.mem_cons_of_mem _ (List.mem_append_right _ h)) hown hK.1 hP 0 rfl rfl 14 (by decide) (hts (.fieldLink RX12 35 "CutAtlasModel" "old" "[I") (List.mem_of_getElem? (i := 4) rfl)) (fun _ h9 => h9) rfl dB_3_0_24.1.1.2.2 ?_
        refine lv_iload_n hx hb dB_3_0_24.1.2.1.1 rfl (lv_at hl 0 rfl) ?_
        refine lv_aload_n hx hb dB_3_0_24.1.2.1.2 rfl (lv_at hl 2 rfl) ?_
        refine va_get (ci := 12) (v := .ref g5) (C := RX12) (T := TX12) (N := 34) hx hb hts (fun _ h => List.mem_cons_of_mem _ (List.mem_append_right _ h)) hown hK.1 hP 0 rfl rfl 5 (by decide) (hts (.fieldLink RX12 7 "CutAtlasModel" "kind" "[I") (List.mem_of_getElem? (i := 7) rfl)) (fun _ h9 => h9) rfl dB_3_0_24.1.2.2.1 ?_
        refine lv_iload_n hx hb dB_3_0_24.1.2.2.2 rfl (lv_at hl 1 rfl) ?_
        have h_12 : vp_in x1_6 40 := in_I (by first | with_reducible assumption | omega) (by omega)
        refine va_iald hx hb hK.1 hP 1 0 rfl rfl (i := x1_6) h_12 dB_3_0_24.2.1.1.1 ?_
        refine lv_topi (fun y_13 ey_13 => ?_)
        have ky_13 : y_13.toInt = (f5 x1_6.toNatClampNeg).toInt := by rw [ey_13]
        have h_14 : vp_in y_11 6000 := in_I (by first | with_reducible assumption | omega) (by omega)
        refine va_iast hx hb hK.1 hP hD hS 9 0 rfl rfl (i := y_11) h_14 dB_3_0_24.2.1.1.2 (fun H locs hP hD hS => ?_)
        obtain ⟨f_15, ef_15⟩ : ∃ g : Nat → Int32, g = upd c_g14_6 y_11.toNatClampNeg y_13 := ⟨_, rfl⟩
        refine pd_K (D := D) (cl := vwCl) (H := H) (A := A) [ob12_0_ mo s0 s1 t2 s3 s4 g5 g6 g7 g8 g9 g10 s11 g12 g13 g14 g15 g16 g17 g18 g19 g20 s21 g22 g23 g24 s25 s26 s27 s28 g29 g30 g31 g32 g33, ai_ cy g5 40 f5, ai_ cy g6 40 f6, ai_ cy g7 40 f7, ai_ cy g8 40 f8, ai_ cy g9 40 f9, az_ cy g10 40 f10, ai_ cy g12 30 f_3, ai_ cy g13 30 f_5, ai_ cy g14 6000 f_15] (by rw [ef_15]; exact hP) (by rw [ef_15]; exact hD) (fun hP hD => ?_)
        have kf_15 := clI (i := y_11) (by omega)
        have rf_15 : orng f_15 6000 := by rw [ef_15]; exact orng_upd rc_g14_6 (by unfold oc; omega)
        refine lv_aload_n hx hb dB_3_0_24.2.1.2.1 rfl (lv_at hl 2 rfl) ?_
        refine va_get (ci := 12) (v := .ref g14) (C := RX12) (T := TX12) (N := 34) hx hb hts (fun _ h => List.mem_cons_of_mem _ (List.mem_append_right _ h)) hown hK.1 hP 0 rfl rfl 14 (by decide) (hts (.fieldLink RX12 35 "CutAtlasModel" "old" "[I") (List.mem_of_getElem? (i := 4) rfl)) (fun _ h9 => h9) rfl dB_3_0_24.2.1.2.2 ?_
        refine lv_iload_n hx hb dB_3_0_24.2.2.1.1 rfl (lv_at hl 0 rfl) ?_
        refine lv_iconst (v := 1) hx hb dB_3_0_24.2.2.1.2 (by decide) ?_
        refine lv_iadd hx hb dB_3_0_24.2.2.2.1 ?_
        refine lv_topi (fun y_16 ey_16 => ?_)
        have ty_16 : y_16.toInt = y_11.toInt + (1 : Int32).toInt := by rw [ey_16]; exact addI (by omega) (by omega)
        refine lv_aload_n hx hb dB_3_0_24.2.2.2.2 rfl (lv_at hl 2 rfl) ?_
        refine va_get (ci := 12) (v := .ref g6) (C := RX12) (T := TX12) (N := 34) hx hb hts (fun _ h => List.mem_cons_of_mem _ (List.mem_append_right _ h)) hown hK.1 hP 0 rfl rfl 6 (by decide) (hts (.fieldLink RX12 13 "CutAtlasModel" "from" "[I") (List.mem_of_getElem? (i := 8) rfl)) (fun _ h9 => h9) rfl dB_3_0_25.1.1.1.1 ?_
        refine lv_iload_n hx hb dB_3_0_25.1.1.1.2 rfl (lv_at hl 1 rfl) ?_
        refine va_iald hx hb hK.1 hP 2 0 rfl rfl (i := x1_6) h_12 dB_3_0_25.1.1.2.1 ?_
        refine lv_topi (fun y_18 ey_18 => ?_)
        have ky_18 : y_18.toInt = (f6 x1_6.toNatClampNeg).toInt := by rw [ey_18]
        have ry_18 : 0 ≤ y_18.toInt ∧ y_18.toInt ≤ 11 := by rw [ey_18]; exact r_f6 _ (in_lt h_12)
        have h_19 : vp_in y_16 6000 := in_I (by first | with_reducible assumption | omega) (by omega)
        refine va_iast hx hb hK.1 hP hD hS 9 0 rfl rfl (i := y_16) h_19 dB_3_0_25.1.1.2.2 (fun H locs hP hD hS => ?_)
        obtain ⟨f_20, ef_20⟩ : ∃ g : Nat → Int32, g = upd f_15 y_16.toNatClampNeg y_18 := ⟨_, rfl⟩
        refine pd_K (D := D) (cl := vwCl) (H := H) (A := A) [ob12_0_ mo s0 s1 t2 s3 s4 g5 g6 g7 g8 g9 g10 s11 g12 g13 g14 g15 g16 g17 g18 g19 g20 s21 g22 g23 g24 s25 s26 s27 s28 g29 g30 g31 g32 g33, ai_ cy g5 40 f5, ai_ cy g6 40 f6, ai_ cy g7 40 f7, ai_ cy g8 40 f8, ai_ cy g9 40 f9, az_ cy g10 40 f10, ai_ cy g12 30 f_3, ai_ cy g13 30 f_5, ai_ cy g14 6000 f_20] (by rw [ef_20]; exact hP) (by rw [ef_20]; exact hD) (fun hP hD => ?_)
        have kf_20 := clI (i := y_16) (by omega)
        have rf_20 : orng f_20 6000 := by rw [ef_20]; exact orng_upd rf_15 (by unfold oc; omega)
        refine lv_aload_n hx hb dB_3_0_25.1.2.1.1 rfl (lv_at hl 2 rfl) ?_
        refine va_get (ci := 12) (v := .ref g14) (C := RX12) (T := TX12) (N := 34) hx hb hts (fun _ h => List.mem_cons_of_mem _ (List.mem_append_right _ h)) hown hK.1 hP 0 rfl rfl 14 (by decide) (hts (.fieldLink RX12 35 "CutAtlasModel" "old" "[I") (List.mem_of_getElem? (i := 4) rfl)) (fun _ h9 => h9) rfl dB_3_0_25.1.2.1.2 ?_
        refine lv_iload_n hx hb dB_3_0_25.1.2.2.1 rfl (lv_at hl 0 rfl) ?_
        refine lv_iconst (v := 2) hx hb dB_3_0_25.1.2.2.2 (by decide) ?_
        refine lv_iadd hx hb dB_3_0_25.2.1.1.1 ?_
        refine lv_topi (fun y_21 ey_21 => ?_)
        have ty_21 : y_21.toInt = y_11.toInt + (2 : Int32).toInt := by rw [ey_21]; exact addI (by omega) (by omega)
        refine lv_aload_n hx hb dB_3_0_25.2.1.1.2 rfl (lv_at hl 2 rfl) ?_
        refine va_get (ci := 12) (v := .ref g7) (C := RX12) (T := TX12) (N := 34) hx hb hts (fun _ h => List.mem_cons_of_mem _ (List.mem_append_right _ h)) hown hK.1 hP 0 rfl rfl 7 (by decide) (hts (.fieldLink RX12 16 "CutAtlasModel" "to" "[I") (List.mem_of_getElem? (i := 9) rfl)) (fun _ h9 => h9) rfl dB_3_0_25.2.1.2.1 ?_
        refine lv_iload_n hx hb dB_3_0_25.2.1.2.2 rfl (lv_at hl 1 rfl) ?_
        refine va_iald hx hb hK.1 hP 3 0 rfl rfl (i := x1_6) h_12 dB_3_0_25.2.2.1.1 ?_
        refine lv_topi (fun y_23 ey_23 => ?_)
        have ky_23 : y_23.toInt = (f7 x1_6.toNatClampNeg).toInt := by rw [ey_23]
        have ry_23 : 0 ≤ y_23.toInt ∧ y_23.toInt ≤ 11 := by rw [ey_23]; exact r_f7 _ (in_lt h_12)
        have h_24 : vp_in y_21 6000 := in_I (by first | with_reducible assumption | omega) (by omega)
        refine va_iast hx hb hK.1 hP hD hS 9 0 rfl rfl (i := y_21) h_24 dB_3_0_25.2.2.1.2 (fun H locs hP hD hS => ?_)
        obtain ⟨f_25, ef_25⟩ : ∃ g : Nat → Int32, g = upd f_20 y_21.toNatClampNeg y_23 := ⟨_, rfl⟩
        refine pd_K (D := D) (cl := vwCl) (H := H) (A := A) [ob12_0_ mo s0 s1 t2 s3 s4 g5 g6 g7 g8 g9 g10 s11 g12 g13 g14 g15 g16 g17 g18 g19 g20 s21 g22 g23 g24 s25 s26 s27 s28 g29 g30 g31 g32 g33, ai_ cy g5 40 f5, ai_ cy g6 40 f6, ai_ cy g7 40 f7, ai_ cy g8 40 f8, ai_ cy g9 40 f9, az_ cy g10 40 f10, ai_ cy g12 30 f_3, ai_ cy g13 30 f_5, ai_ cy g14 6000 f_25] (by rw [ef_25]; exact hP) (by rw [ef_25]; exact hD) (fun hP hD => ?_)
        have kf_25 := clI (i := y_21) (by omega)
        have rf_25 : orng f_25 6000 := by rw [ef_25]; exact orng_upd rf_20 (by unfold oc; omega)
        refine lv_aload_n hx hb dB_3_0_25.2.2.2.1 rfl (lv_at hl 2 rfl) ?_
        refine va_get (ci := 12) (v := .ref g14) (C := RX12) (T := TX12) (N := 34) hx hb hts (fun _ h => List.mem_cons_of_mem _ (List.mem_append_right _ h)) hown hK.1 hP 0 rfl rfl 14 (by decide) (hts (.fieldLink RX12 35 "CutAtlasModel" "old" "[I") (List.mem_of_getElem? (i := 4) rfl)) (fun _ h9 => h9) rfl dB_3_0_25.2.2.2.2 ?_
        refine lv_iload_n hx hb dB_3_0_26.1.1.1.1 rfl (lv_at hl 0 rfl) ?_
        refine lv_iconst (v := 3) hx hb dB_3_0_26.1.1.1.2 (by decide) ?_
        refine lv_iadd hx hb dB_3_0_26.1.1.2.1 ?_
        refine lv_topi (fun y_26 ey_26 => ?_)
        have ty_26 : y_26.toInt = y_11.toInt + (3 : Int32).toInt := by rw [ey_26]; exact addI (by omega) (by omega)
        refine lv_aload_n hx hb dB_3_0_26.1.1.2.2 rfl (lv_at hl 2 rfl) ?_
        refine va_get (ci := 12) (v := .ref g8) (C := RX12) (T := TX12) (N := 34) hx hb hts (fun _ h => List.mem_cons_of_mem _ (List.mem_append_right _ h)) hown hK.1 hP 0 rfl rfl 8 (by decide) (hts (.fieldLink RX12 19 "CutAtlasModel" "width" "[I") (List.mem_of_getElem? (i := 10) rfl)) (fun _ h9 => h9) rfl dB_3_0_26.1.2.1.1 ?_
        refine lv_iload_n hx hb dB_3_0_26.1.2.1.2 rfl (lv_at hl 1 rfl) ?_
        refine va_iald hx hb hK.1 hP 4 0 rfl rfl (i := x1_6) h_12 dB_3_0_26.1.2.2.1 ?_
        refine lv_topi (fun y_28 ey_28 => ?_)
        have ky_28 : y_28.toInt = (f8 x1_6.toNatClampNeg).toInt := by rw [ey_28]
        have ry_28 : 0 ≤ y_28.toInt ∧ y_28.toInt ≤ 2000 := by rw [ey_28]; exact r_f8 _ (in_lt h_12)
        have h_29 : vp_in y_26 6000 := in_I (by first | with_reducible assumption | omega) (by omega)
        refine va_iast hx hb hK.1 hP hD hS 9 0 rfl rfl (i := y_26) h_29 dB_3_0_26.1.2.2.2 (fun H locs hP hD hS => ?_)
        obtain ⟨f_30, ef_30⟩ : ∃ g : Nat → Int32, g = upd f_25 y_26.toNatClampNeg y_28 := ⟨_, rfl⟩
        refine pd_K (D := D) (cl := vwCl) (H := H) (A := A) [ob12_0_ mo s0 s1 t2 s3 s4 g5 g6 g7 g8 g9 g10 s11 g12 g13 g14 g15 g16 g17 g18 g19 g20 s21 g22 g23 g24 s25 s26 s27 s28 g29 g30 g31 g32 g33, ai_ cy g5 40 f5, ai_ cy g6 40 f6, ai_ cy g7 40 f7, ai_ cy g8 40 f8, ai_ cy g9 40 f9, az_ cy g10 40 f10, ai_ cy g12 30 f_3, ai_ cy g13 30 f_5, ai_ cy g14 6000 f_30] (by rw [ef_30]; exact hP) (by rw [ef_30]; exact hD) (fun hP hD => ?_)
        have kf_30 := clI (i := y_26) (by omega)
        have rf_30 : orng f_30 6000 := by rw [ef_30]; exact orng_upd rf_25 (by unfold oc; omega)
        refine lv_aload_n hx hb dB_3_0_26.2.1.1.1 rfl (lv_at hl 2 rfl) ?_
        refine va_get (ci := 12) (v := .ref g14) (C := RX12) (T := TX12) (N := 34) hx hb hts (fun _ h => List.mem_cons_of_mem _ (List.mem_append_right _ h)) hown hK.1 hP 0 rfl rfl 14 (by decide) (hts (.fieldLink RX12 35 "CutAtlasModel" "old" "[I") (List.mem_of_getElem? (i := 4) rfl)) (fun _ h9 => h9) rfl dB_3_0_26.2.1.1.2 ?_
        refine lv_iload_n hx hb dB_3_0_26.2.1.2.1 rfl (lv_at hl 0 rfl) ?_
        refine lv_iconst (v := 4) hx hb dB_3_0_26.2.1.2.2 (by decide) ?_
        refine lv_iadd hx hb dB_3_0_26.2.2.1.1 ?_
        refine lv_topi (fun y_31 ey_31 => ?_)
        have ty_31 : y_31.toInt = y_11.toInt + (4 : Int32).toInt := by rw [ey_31]; exact addI (by omega) (by omega)
        refine lv_aload_n hx hb dB_3_0_26.2.2.1.2 rfl (lv_at hl 2 rfl) ?_
        refine va_get (ci := 12) (v := .ref g9) (C := RX12) (T := TX12) (N := 34) hx hb hts (fun _ h => List.mem_cons_of_mem _ (List.mem_append_right _ h)) hown hK.1 hP 0 rfl rfl 9 (by decide) (hts (.fieldLink RX12 22 "CutAtlasModel" "price" "[I") (List.mem_of_getElem? (i := 11) rfl)) (fun _ h9 => h9) rfl dB_3_0_26.2.2.2.1 ?_
        refine lv_iload_n hx hb dB_3_0_26.2.2.2.2 rfl (lv_at hl 1 rfl) ?_
        refine va_iald hx hb hK.1 hP 5 0 rfl rfl (i := x1_6) h_12 dB_3_0_27.1.1.1.1 ?_
        refine lv_topi (fun y_33 ey_33 => ?_)
        have ky_33 : y_33.toInt = (f9 x1_6.toNatClampNeg).toInt := by rw [ey_33]
        have ry_33 : 0 ≤ y_33.toInt ∧ y_33.toInt ≤ 100 := by rw [ey_33]; exact r_f9 _ (in_lt h_12)
        refine lv_aload_n hx hb dB_3_0_27.1.1.1.2 rfl (lv_at hl 2 rfl) ?_
        refine va_get (ci := 12) (v := .ref g10) (C := RX12) (T := TX12) (N := 34) hx hb hts (fun _ h => List.mem_cons_of_mem _ (List.mem_append_right _ h)) hown hK.1 hP 0 rfl rfl 10 (by decide) (hts (.fieldLink RX12 25 "CutAtlasModel" "isMissing" "[Z") (List.mem_of_getElem? (i := 12) rfl)) (fun _ h9 => h9) rfl dB_3_0_27.1.1.2.1 ?_
        refine lv_iload_n hx hb dB_3_0_27.1.1.2.2 rfl (lv_at hl 1 rfl) ?_
        refine va_zald hx hb hK.1 hP 6 2 rfl rfl (i := x1_6) h_12 dB_3_0_27.1.2.1.1 ?_
        refine lv_topi (fun y_35 ey_35 => ?_)
        have ky_35 : y_35.toInt = (f10 x1_6.toNatClampNeg).toInt := by rw [ey_35]
        refine lv_if_eq (tgt := 221) hx hb dB_3_0_27.1.2.1.2 (by decide) (fun c_36 => ?_) (fun c_36 => ?_)
        · have t_36 : y_35.toInt = (0 : Int32).toInt := congrArg Int32.toInt c_36
          refine lv_iconst (v := 0) hx hb dB_3_0_27.2.1.1.1 (by decide) ?_
          refine lv_iadd hx hb dB_3_0_27.2.1.1.2 ?_
          refine lv_topi (fun y_37 ey_37 => ?_)
          have ty_37 : y_37.toInt = y_33.toInt + (0 : Int32).toInt := by rw [ey_37]; exact addI (by omega) (by omega)
          have h_38 : vp_in y_31 6000 := in_I (by first | with_reducible assumption | omega) (by omega)
          refine va_iast hx hb hK.1 hP hD hS 9 0 rfl rfl (i := y_31) h_38 dB_3_0_27.2.1.2.1 (fun H locs hP hD hS => ?_)
          obtain ⟨f_39, ef_39⟩ : ∃ g : Nat → Int32, g = upd f_30 y_31.toNatClampNeg y_37 := ⟨_, rfl⟩
          refine pd_K (D := D) (cl := vwCl) (H := H) (A := A) [ob12_0_ mo s0 s1 t2 s3 s4 g5 g6 g7 g8 g9 g10 s11 g12 g13 g14 g15 g16 g17 g18 g19 g20 s21 g22 g23 g24 s25 s26 s27 s28 g29 g30 g31 g32 g33, ai_ cy g5 40 f5, ai_ cy g6 40 f6, ai_ cy g7 40 f7, ai_ cy g8 40 f8, ai_ cy g9 40 f9, az_ cy g10 40 f10, ai_ cy g12 30 f_3, ai_ cy g13 30 f_5, ai_ cy g14 6000 f_39] (by rw [ef_39]; exact hP) (by rw [ef_39]; exact hD) (fun hP hD => ?_)
          have kf_39 := clI (i := y_31) (by omega)
          have rf_39 : orng f_39 6000 := by rw [ef_39]; exact orng_upd rf_30 (by unfold oc; omega)
          obtain ⟨y_40, ey_40⟩ : ∃ y : Int32, y = x1_6 + 1 := ⟨_, rfl⟩
          have ty_40 : y_40.toInt = x1_6.toInt + (1 : Int32).toInt := by rw [ey_40]; exact addI (by omega) (by omega)
          refine lv_iinc (v := y_40) (lv' := [(1, .int y_40), (2, .int y_11), (0, .ref mo)]) hx hb dB_3_0_27.2.1.2.2 hl (k := 1) rfl (by rw [ey_40]; rfl) (by decide) rfl (fun ls hl => ?_)
          have hE_ := ent_st (u := s11) (l := x1_6) (l2 := y_40) (f9 := f9) (f10 := f10) (b := f14) (by omega) (by omega) ef_15 ef_20 ef_25 ef_30 ef_39 (by omega) (by omega) (by omega) (by omega) (by omega) ey_13 ey_18 ey_23 ey_28 (by first | (rw [if_pos (by omega)]; omega) | (rw [if_neg (by omega)]; omega)) v2_6 v3_6 (by omega)
          refine lv_goto (tgt := 120) hx hb dB_3_0_27.2.2.1.1 (by decide) ?_
          exact ih_6 y_40 f_39 _ _ _ (by omega) (by first | with_reducible assumption | omega | assumption) (by first | with_reducible assumption | omega | assumption) (by first | exact fun _ _ => rfl | exact hE_.1) (by first | exact hE_.2 | (intro j hj; omega)) (by first | with_reducible assumption | assumption | exact rng_zero (by omega) (by omega) | exact orng_zero) ⟨hP, hD⟩ hS (lv_sub hl [0, 2] rfl)
        · have t_36 : ¬ y_35.toInt = (0 : Int32).toInt := fun h => c_36 (Int32.toInt_inj.mp h)
          refine lv_sipush (v := 1000) hx hb dB_3_0_27.1.2.2.1 (by decide) ?_
          refine lv_goto (tgt := 222) hx hb dB_3_0_27.1.2.2.2 (by decide) ?_
          refine lv_iadd hx hb dB_3_0_27.2.1.1.2 ?_
          refine lv_topi (fun y_41 ey_41 => ?_)
          have ty_41 : y_41.toInt = y_33.toInt + (1000 : Int32).toInt := by rw [ey_41]; exact addI (by omega) (by omega)
          have h_42 : vp_in y_31 6000 := in_I (by first | with_reducible assumption | omega) (by omega)
          refine va_iast hx hb hK.1 hP hD hS 9 0 rfl rfl (i := y_31) h_42 dB_3_0_27.2.1.2.1 (fun H locs hP hD hS => ?_)
          obtain ⟨f_43, ef_43⟩ : ∃ g : Nat → Int32, g = upd f_30 y_31.toNatClampNeg y_41 := ⟨_, rfl⟩
          refine pd_K (D := D) (cl := vwCl) (H := H) (A := A) [ob12_0_ mo s0 s1 t2 s3 s4 g5 g6 g7 g8 g9 g10 s11 g12 g13 g14 g15 g16 g17 g18 g19 g20 s21 g22 g23 g24 s25 s26 s27 s28 g29 g30 g31 g32 g33, ai_ cy g5 40 f5, ai_ cy g6 40 f6, ai_ cy g7 40 f7, ai_ cy g8 40 f8, ai_ cy g9 40 f9, az_ cy g10 40 f10, ai_ cy g12 30 f_3, ai_ cy g13 30 f_5, ai_ cy g14 6000 f_43] (by rw [ef_43]; exact hP) (by rw [ef_43]; exact hD) (fun hP hD => ?_)
          have kf_43 := clI (i := y_31) (by omega)
          have rf_43 : orng f_43 6000 := by rw [ef_43]; exact orng_upd rf_30 (by unfold oc; omega)
          obtain ⟨y_44, ey_44⟩ : ∃ y : Int32, y = x1_6 + 1 := ⟨_, rfl⟩
          have ty_44 : y_44.toInt = x1_6.toInt + (1 : Int32).toInt := by rw [ey_44]; exact addI (by omega) (by omega)
          refine lv_iinc (v := y_44) (lv' := [(1, .int y_44), (2, .int y_11), (0, .ref mo)]) hx hb dB_3_0_27.2.1.2.2 hl (k := 1) rfl (by rw [ey_44]; rfl) (by decide) rfl (fun ls hl => ?_)
          have hE_ := ent_st (u := s11) (l := x1_6) (l2 := y_44) (f9 := f9) (f10 := f10) (b := f14) (by omega) (by omega) ef_15 ef_20 ef_25 ef_30 ef_43 (by omega) (by omega) (by omega) (by omega) (by omega) ey_13 ey_18 ey_23 ey_28 (by first | (rw [if_pos (by omega)]; omega) | (rw [if_neg (by omega)]; omega)) v2_6 v3_6 (by omega)
          refine lv_goto (tgt := 120) hx hb dB_3_0_27.2.2.1.1 (by decide) ?_
          exact ih_6 y_44 f_43 _ _ _ (by omega) (by first | with_reducible assumption | omega | assumption) (by first | with_reducible assumption | omega | assumption) (by first | exact fun _ _ => rfl | exact hE_.1) (by first | exact hE_.2 | (intro j hj; omega)) (by first | with_reducible assumption | assumption | exact rng_zero (by omega) (by omega) | exact orng_zero) ⟨hP, hD⟩ hS (lv_sub hl [0, 2] rfl)
  · have t_1 : s11.toInt = (30 : Int32).toInt := congrArg Int32.toInt c_1
    refine lv_iconst (v := 0) hx hb dB_3_0_19.1.2.1.1 (by decide) ?_
    refine lv_istore_n (lv' := [(1, .int 0), (0, .ref mo)]) hx hb dB_3_0_19.1.2.1.2 rfl hl (by decide) rfl (fun ls hl => ?_)
    suffices LOOP_45 : ∀ (n_45 : Nat) (x1_45 : Int32) (c_g12_45 : Nat → Int32) (c_g13_45 : Nat → Int32) (H : Heap) (locs : List Loc) (ls : Array Slot), 29 - x1_45.toInt < (n_45 : Int) → (0 ≤ x1_45.toInt) → (x1_45.toInt ≤ 29) → (shf f12 c_g12_45 1 x1_45.toInt) → (shf f13 c_g13_45 1 x1_45.toInt) → (rng c_g12_45 30 (0) (12)) → (rng c_g13_45 30 (0) (40)) → pd_2 D vwCl A [ob12_0_ mo s0 s1 t2 s3 s4 g5 g6 g7 g8 g9 g10 s11 g12 g13 g14 g15 g16 g17 g18 g19 g20 s21 g22 g23 g24 s25 s26 s27 s28 g29 g30 g31 g32 g33, ai_ cy g5 40 f5, ai_ cy g6 40 f6, ai_ cy g7 40 f7, ai_ cy g8 40 f8, ai_ cy g9 40 f9, az_ cy g10 40 f10, ai_ cy g12 30 c_g12_45, ai_ cy g13 30 c_g13_45, ai_ cy g14 6000 f14] H → va_S A s.heap H locs → lv_has ls 3 [(1, .int x1_45), (0, .ref mo)] → W p l e ({ frames := 0, cells := 0, slots := 0, locals := 0 } : Room) s m (([.ref mo] : List Value).toArray) below meth c H locs 0 0 Q (F0 m 11 ls []) from LOOP_45 ((29 - (0 : Int32).toInt).toNat + 1) (0 : Int32) f12 f13 _ _ _ (by omega) (by first | with_reducible assumption | omega | assumption) (by first | with_reducible assumption | omega | assumption) (by first | exact shf_0 | exact shf_st v_none S[q12] S[v12] (by omega) (by omega) (by omega)) (by first | exact shf_0 | exact shf_st v_none S[q13] S[v13] (by omega) (by omega) (by omega)) (by first | with_reducible assumption | assumption | exact rng_zero (by omega) (by omega) | exact orng_zero) (by first | with_reducible assumption | assumption | exact rng_zero (by omega) (by omega) | exact orng_zero) ⟨hP, hD⟩ hS (lv_sub hl [0, 1] rfl)
    intro n_45
    induction n_45 with
    | zero =>
      intro x1_45 c_g12_45 c_g13_45 H locs ls hm v0_45 v1_45 v2_45 v3_45 rc_g12_45 rc_g13_45 hPD hS hl; obtain ⟨hP, hD⟩ := hPD
      exact absurd hm (by omega)
    | succ n_45 ih_45 =>
      intro x1_45 c_g12_45 c_g13_45 H locs ls hm v0_45 v1_45 v2_45 v3_45 rc_g12_45 rc_g13_45 hPD hS hl; obtain ⟨hP, hD⟩ := hPD
      refine lv_iload_n hx hb dB_3_0_19.1.2.2.1 rfl (lv_at hl 0 rfl) ?_
      refine lv_bipush (v := 29) hx hb dB_3_0_19.1.2.2.2 (by decide) ?_
      refine lv_icmp_ge (tgt := 51) hx hb dB_3_0_19.2.1.1.1 (by decide) (fun c_46 => ?_) (fun c_46 => ?_)
      · have t_46 : (29 : Int32).toInt ≤ x1_45.toInt := Int32.le_iff_toInt_le.mp c_46
        refine lv_iconst (v := 0) hx hb dB_3_0_20.2.2.2.2 (by decide) ?_
        refine lv_istore_n (lv' := [(1, .int 0), (0, .ref mo)]) hx hb dB_3_0_21.1.1.1.1 rfl hl (by decide) rfl (fun ls hl => ?_)
        suffices LOOP_47 : ∀ (n_47 : Nat) (x1_47 : Int32) (c_g14_47 : Nat → Int32) (H : Heap) (locs : List Loc) (ls : Array Slot), 5800 - x1_47.toInt < (n_47 : Int) → (0 ≤ x1_47.toInt) → (x1_47.toInt ≤ 5800) → (shf f14 c_g14_47 200 x1_47.toInt) → (orng c_g14_47 6000) → pd_2 D vwCl A [ob12_0_ mo s0 s1 t2 s3 s4 g5 g6 g7 g8 g9 g10 s11 g12 g13 g14 g15 g16 g17 g18 g19 g20 s21 g22 g23 g24 s25 s26 s27 s28 g29 g30 g31 g32 g33, ai_ cy g5 40 f5, ai_ cy g6 40 f6, ai_ cy g7 40 f7, ai_ cy g8 40 f8, ai_ cy g9 40 f9, az_ cy g10 40 f10, ai_ cy g12 30 c_g12_45, ai_ cy g13 30 c_g13_45, ai_ cy g14 6000 c_g14_47] H → va_S A s.heap H locs → lv_has ls 3 [(1, .int x1_47), (0, .ref mo)] → W p l e ({ frames := 0, cells := 0, slots := 0, locals := 0 } : Room) s m (([.ref mo] : List Value).toArray) below meth c H locs 0 0 Q (F0 m 53 ls []) from LOOP_47 ((5800 - (0 : Int32).toInt).toNat + 1) (0 : Int32) f14 _ _ _ (by omega) (by first | with_reducible assumption | omega | assumption) (by first | with_reducible assumption | omega | assumption) (by first | exact shf_0 | exact shf_st v_none S[q14] S[v14] (by omega) (by omega) (by omega)) (by first | with_reducible assumption | assumption | exact rng_zero (by omega) (by omega) | exact orng_zero) ⟨hP, hD⟩ hS (lv_sub hl [0, 1] rfl)
        intro n_47
        induction n_47 with
        | zero =>
          intro x1_47 c_g14_47 H locs ls hm v0_47 v1_47 v2_47 rc_g14_47 hPD hS hl; obtain ⟨hP, hD⟩ := hPD
          exact absurd hm (by omega)
        | succ n_47 ih_47 =>
          intro x1_47 c_g14_47 H locs ls hm v0_47 v1_47 v2_47 rc_g14_47 hPD hS hl; obtain ⟨hP, hD⟩ := hPD
          refine lv_iload_n hx hb dB_3_0_21.1.1.1.2 rfl (lv_at hl 0 rfl) ?_
          refine lv_sipush (v := 5800) hx hb dB_3_0_21.1.1.2.1 (by decide) ?_
          refine lv_icmp_ge (tgt := 82) hx hb dB_3_0_21.1.1.2.2 (by decide) (fun c_48 => ?_) (fun c_48 => ?_)
          · have t_48 : (5800 : Int32).toInt ≤ x1_47.toInt := Int32.le_iff_toInt_le.mp c_48
            refine lv_aload_n hx hb dB_3_0_22.1.1.1.1 rfl (lv_at hl 1 rfl) ?_
            refine lv_dup hx hb dB_3_0_22.1.1.1.2 rfl ?_
            refine va_get (ci := 12) (v := .int s11) (C := RX12) (T := TX12) (N := 34) hx hb hts (fun _ h => List.mem_cons_of_mem _ (List.mem_append_right _ h)) hown hK.1 hP 0 rfl rfl 11 (by decide) (hts (.fieldLink RX12 102 "CutAtlasModel" "undone" "I") (List.mem_of_getElem? (i := 1) rfl)) (fun _ h9 => h9) rfl dB_3_0_22.1.1.2.1 ?_
            refine lv_iconst (v := 1) hx hb dB_3_0_22.1.1.2.2 (by decide) ?_
            refine lv_isub hx hb dB_3_0_22.1.2.1.1 ?_
            refine lv_topi (fun y_49 ey_49 => ?_)
            have ty_49 : y_49.toInt = s11.toInt - (1 : Int32).toInt := by rw [ey_49]; exact subI (by omega) (by omega)
            refine va_put (ci := 12) (v := .int y_49) (ty := .int) (C := RX12) (T := TX12) (N := 34) hx hb hts (fun _ h => List.mem_cons_of_mem _ (List.mem_append_right _ h)) tyX12 tyX12_ok nmX12 hown hK.1 hP hD hS 0 rfl rfl 11 (by decide) (hts (.fieldLink RX12 102 "CutAtlasModel" "undone" "I") (List.mem_of_getElem? (i := 1) rfl)) (fun _ h9 => h9) rfl (by decide +kernel) rfl rfl (Nat.le_of_ble_eq_true rfl) dB_3_0_22.1.2.1.2 (fun H locs hP hD hS => ?_)
            refine pd_K [ob12_0_ mo s0 s1 t2 s3 s4 g5 g6 g7 g8 g9 g10 y_49 g12 g13 g14 g15 g16 g17 g18 g19 g20 s21 g22 g23 g24 s25 s26 s27 s28 g29 g30 g31 g32 g33, ai_ cy g5 40 f5, ai_ cy g6 40 f6, ai_ cy g7 40 f7, ai_ cy g8 40 f8, ai_ cy g9 40 f9, az_ cy g10 40 f10, ai_ cy g12 30 c_g12_45, ai_ cy g13 30 c_g13_45, ai_ cy g14 6000 c_g14_47] hP hD (fun hP hD => ?_)
            have hm_ : moved s11.toInt f12 f13 f14 y_49.toInt c_g12_45 c_g13_45 c_g14_47 := by first | exact moved_1 (by omega) (by omega) v2_45 v3_45 v2_47 (by omega) (by omega) | exact moved_0 (by omega)
            refine lv_aload_n hx hb dB_3_0_22.1.2.2.1 rfl (lv_at hl 1 rfl) ?_
            refine va_get (ci := 12) (v := .ref g12) (C := RX12) (T := TX12) (N := 34) hx hb hts (fun _ h => List.mem_cons_of_mem _ (List.mem_append_right _ h)) hown hK.1 hP 0 rfl rfl 12 (by decide) (hts (.fieldLink RX12 29 "CutAtlasModel" "oldPlaces" "[I") (List.mem_of_getElem? (i := 2) rfl)) (fun _ h9 => h9) rfl dB_3_0_22.1.2.2.2 ?_
            refine lv_aload_n hx hb dB_3_0_22.2.1.1.1 rfl (lv_at hl 1 rfl) ?_
            refine va_get (ci := 12) (v := .int y_49) (C := RX12) (T := TX12) (N := 34) hx hb hts (fun _ h => List.mem_cons_of_mem _ (List.mem_append_right _ h)) hown hK.1 hP 0 rfl rfl 11 (by decide) (hts (.fieldLink RX12 102 "CutAtlasModel" "undone" "I") (List.mem_of_getElem? (i := 1) rfl)) (fun _ h9 => h9) rfl dB_3_0_22.2.1.1.2 ?_
            refine lv_aload_n hx hb dB_3_0_22.2.1.2.1 rfl (lv_at hl 1 rfl) ?_
            refine va_get (ci := 12) (v := .int s3) (C := RX12) (T := TX12) (N := 34) hx hb hts (fun _ h => List.mem_cons_of_mem _ (List.mem_append_right _ h)) hown hK.1 hP 0 rfl rfl 3 (by decide) (hts (.fieldLink RX12 88 "CutAtlasModel" "places" "I") (List.mem_of_getElem? (i := 5) rfl)) (fun _ h9 => h9) rfl dB_3_0_22.2.1.2.2 ?_
            have h_50 : vp_in y_49 30 := in_I (by first | with_reducible assumption | omega) (by omega)
            refine va_iast hx hb hK.1 hP hD hS 7 0 rfl rfl (i := y_49) h_50 dB_3_0_22.2.2.1.1 (fun H locs hP hD hS => ?_)
            obtain ⟨f_51, ef_51⟩ : ∃ g : Nat → Int32, g = upd c_g12_45 y_49.toNatClampNeg s3 := ⟨_, rfl⟩
            refine pd_K (D := D) (cl := vwCl) (H := H) (A := A) [ob12_0_ mo s0 s1 t2 s3 s4 g5 g6 g7 g8 g9 g10 y_49 g12 g13 g14 g15 g16 g17 g18 g19 g20 s21 g22 g23 g24 s25 s26 s27 s28 g29 g30 g31 g32 g33, ai_ cy g5 40 f5, ai_ cy g6 40 f6, ai_ cy g7 40 f7, ai_ cy g8 40 f8, ai_ cy g9 40 f9, az_ cy g10 40 f10, ai_ cy g12 30 f_51, ai_ cy g13 30 c_g13_45, ai_ cy g14 6000 c_g14_47] (by rw [ef_51]; exact hP) (by rw [ef_51]; exact hD) (fun hP hD => ?_)
            have rf_51 : rng f_51 30 (0) (12) := by rw [ef_51]; exact rng_upd rc_g12_45 (by omega) (by omega)
            refine lv_aload_n hx hb dB_3_0_22.2.2.1.2 rfl (lv_at hl 1 rfl) ?_
            refine va_get (ci := 12) (v := .ref g13) (C := RX12) (T := TX12) (N := 34) hx hb hts (fun _ h => List.mem_cons_of_mem _ (List.mem_append_right _ h)) hown hK.1 hP 0 rfl rfl 13 (by decide) (hts (.fieldLink RX12 32 "CutAtlasModel" "oldLines" "[I") (List.mem_of_getElem? (i := 3) rfl)) (fun _ h9 => h9) rfl dB_3_0_22.2.2.2.1 ?_
            refine lv_aload_n hx hb dB_3_0_22.2.2.2.2 rfl (lv_at hl 1 rfl) ?_
            refine va_get (ci := 12) (v := .int y_49) (C := RX12) (T := TX12) (N := 34) hx hb hts (fun _ h => List.mem_cons_of_mem _ (List.mem_append_right _ h)) hown hK.1 hP 0 rfl rfl 11 (by decide) (hts (.fieldLink RX12 102 "CutAtlasModel" "undone" "I") (List.mem_of_getElem? (i := 1) rfl)) (fun _ h9 => h9) rfl dB_3_0_23.1.1.1.1 ?_
            refine lv_aload_n hx hb dB_3_0_23.1.1.1.2 rfl (lv_at hl 1 rfl) ?_
            refine va_get (ci := 12) (v := .int s4) (C := RX12) (T := TX12) (N := 34) hx hb hts (fun _ h => List.mem_cons_of_mem _ (List.mem_append_right _ h)) hown hK.1 hP 0 rfl rfl 4 (by decide) (hts (.fieldLink RX12 95 "CutAtlasModel" "lines" "I") (List.mem_of_getElem? (i := 6) rfl)) (fun _ h9 => h9) rfl dB_3_0_23.1.1.2.1 ?_
            refine va_iast hx hb hK.1 hP hD hS 8 0 rfl rfl (i := y_49) h_50 dB_3_0_23.1.1.2.2 (fun H locs hP hD hS => ?_)
            obtain ⟨f_53, ef_53⟩ : ∃ g : Nat → Int32, g = upd c_g13_45 y_49.toNatClampNeg s4 := ⟨_, rfl⟩
            refine pd_K (D := D) (cl := vwCl) (H := H) (A := A) [ob12_0_ mo s0 s1 t2 s3 s4 g5 g6 g7 g8 g9 g10 y_49 g12 g13 g14 g15 g16 g17 g18 g19 g20 s21 g22 g23 g24 s25 s26 s27 s28 g29 g30 g31 g32 g33, ai_ cy g5 40 f5, ai_ cy g6 40 f6, ai_ cy g7 40 f7, ai_ cy g8 40 f8, ai_ cy g9 40 f9, az_ cy g10 40 f10, ai_ cy g12 30 f_51, ai_ cy g13 30 f_53, ai_ cy g14 6000 c_g14_47] (by rw [ef_53]; exact hP) (by rw [ef_53]; exact hD) (fun hP hD => ?_)
            have rf_53 : rng f_53 30 (0) (40) := by rw [ef_53]; exact rng_upd rc_g13_45 (by omega) (by omega)
            refine lv_iconst (v := 0) hx hb dB_3_0_23.1.2.1.1 (by decide) ?_
            refine lv_istore_n (lv' := [(1, .int 0), (0, .ref mo)]) hx hb dB_3_0_23.1.2.1.2 rfl hl (by decide) rfl (fun ls hl => ?_)
            suffices LOOP_54 : ∀ (n_54 : Nat) (x1_54 : Int32) (c_g14_54 : Nat → Int32) (H : Heap) (locs : List Loc) (ls : Array Slot), 40 - x1_54.toInt < (n_54 : Int) → (0 ≤ x1_54.toInt) → (x1_54.toInt ≤ 40) → (∀ q : Nat, q < 200 * y_49.toNatClampNeg → c_g14_54 q = c_g14_47 q) → (∀ j : Nat, (j : Int) < x1_54.toInt → entry c_g14_54 (200 * y_49.toNatClampNeg) f5 f6 f7 f8 f9 f10 j) → (orng c_g14_54 6000) → pd_2 D vwCl A [ob12_0_ mo s0 s1 t2 s3 s4 g5 g6 g7 g8 g9 g10 y_49 g12 g13 g14 g15 g16 g17 g18 g19 g20 s21 g22 g23 g24 s25 s26 s27 s28 g29 g30 g31 g32 g33, ai_ cy g5 40 f5, ai_ cy g6 40 f6, ai_ cy g7 40 f7, ai_ cy g8 40 f8, ai_ cy g9 40 f9, az_ cy g10 40 f10, ai_ cy g12 30 f_51, ai_ cy g13 30 f_53, ai_ cy g14 6000 c_g14_54] H → va_S A s.heap H locs → lv_has ls 3 [(1, .int x1_54), (0, .ref mo)] → W p l e ({ frames := 0, cells := 0, slots := 0, locals := 0 } : Room) s m (([.ref mo] : List Value).toArray) below meth c H locs 0 0 Q (F0 m 120 ls []) from LOOP_54 ((40 - (0 : Int32).toInt).toNat + 1) (0 : Int32) c_g14_47 _ _ _ (by omega) (by first | with_reducible assumption | omega | assumption) (by first | with_reducible assumption | omega | assumption) (by first | exact fun _ _ => rfl | exact hE_.1) (by first | exact hE_.2 | (intro j hj; omega)) (by first | with_reducible assumption | assumption | exact rng_zero (by omega) (by omega) | exact orng_zero) ⟨hP, hD⟩ hS (lv_sub hl [0, 1] rfl)
            intro n_54
            induction n_54 with
            | zero =>
              intro x1_54 c_g14_54 H locs ls hm v0_54 v1_54 v2_54 v3_54 rc_g14_54 hPD hS hl; obtain ⟨hP, hD⟩ := hPD
              exact absurd hm (by omega)
            | succ n_54 ih_54 =>
              intro x1_54 c_g14_54 H locs ls hm v0_54 v1_54 v2_54 v3_54 rc_g14_54 hPD hS hl; obtain ⟨hP, hD⟩ := hPD
              refine lv_iload_n hx hb dB_3_0_23.1.2.2.1 rfl (lv_at hl 0 rfl) ?_
              refine lv_bipush (v := 40) hx hb dB_3_0_23.1.2.2.2 (by decide) ?_
              refine lv_icmp_ge (tgt := 230) hx hb dB_3_0_23.2.1.1.1 (by decide) (fun c_55 => ?_) (fun c_55 => ?_)
              · have t_55 : (40 : Int32).toInt ≤ x1_54.toInt := Int32.le_iff_toInt_le.mp c_55
                refine lv_aload_n hx hb dB_3_0_27.2.2.1.2 rfl (lv_at hl 1 rfl) ?_
                refine lv_dup hx hb dB_3_0_27.2.2.2.1 rfl ?_
                refine va_get (ci := 12) (v := .int y_49) (C := RX12) (T := TX12) (N := 34) hx hb hts (fun _ h => List.mem_cons_of_mem _ (List.mem_append_right _ h)) hown hK.1 hP 0 rfl rfl 11 (by decide) (hts (.fieldLink RX12 102 "CutAtlasModel" "undone" "I") (List.mem_of_getElem? (i := 1) rfl)) (fun _ h9 => h9) rfl dB_3_0_27.2.2.2.2 ?_
                refine lv_iconst (v := 1) hx hb dB_3_0_28.1.1 (by decide) ?_
                refine lv_iadd hx hb dB_3_0_28.1.2 ?_
                refine lv_topi (fun y_56 ey_56 => ?_)
                have ty_56 : y_56.toInt = y_49.toInt + (1 : Int32).toInt := by rw [ey_56]; exact addI (by omega) (by omega)
                refine va_put (ci := 12) (v := .int y_56) (ty := .int) (C := RX12) (T := TX12) (N := 34) hx hb hts (fun _ h => List.mem_cons_of_mem _ (List.mem_append_right _ h)) tyX12 tyX12_ok nmX12 hown hK.1 hP hD hS 0 rfl rfl 11 (by decide) (hts (.fieldLink RX12 102 "CutAtlasModel" "undone" "I") (List.mem_of_getElem? (i := 1) rfl)) (fun _ h9 => h9) rfl (by decide +kernel) rfl rfl (Nat.le_of_ble_eq_true rfl) dB_3_0_28.2.1 (fun H locs hP hD hS => ?_)
                refine pd_K [ob12_0_ mo s0 s1 t2 s3 s4 g5 g6 g7 g8 g9 g10 y_56 g12 g13 g14 g15 g16 g17 g18 g19 g20 s21 g22 g23 g24 s25 s26 s27 s28 g29 g30 g31 g32 g33, ai_ cy g5 40 f5, ai_ cy g6 40 f6, ai_ cy g7 40 f7, ai_ cy g8 40 f8, ai_ cy g9 40 f9, az_ cy g10 40 f10, ai_ cy g12 30 f_51, ai_ cy g13 30 f_53, ai_ cy g14 6000 c_g14_54] hP hD (fun hP hD => ?_)
                rw [hQ]
                exact W.vret hx hb hr (fun t ht hW => ⟨⟨(), rfl, trivial, y_56, f_51, f_53, c_g14_54, (by first | with_reducible assumption | omega | assumption), (kept_mk (u := y_49) (L := x1_54) hm_ (by omega) ef_51 ef_53 v2_54 v3_54 (by omega) (by omega)), (by first | with_reducible assumption | assumption | exact rng_zero (by omega) (by omega) | omega), (by first | with_reducible assumption | assumption | exact rng_zero (by omega) (by omega) | omega), (by first | with_reducible assumption | assumption | exact rng_zero (by omega) (by omega) | omega), by rw [ht]; exact hP, hD⟩, hS.F ht⟩) hS.2.2 dB_3_0_28.2.2
              · have t_55 : ¬ (40 : Int32).toInt ≤ x1_54.toInt := fun h => c_55 (Int32.le_iff_toInt_le.mpr h)
                refine lv_sipush (v := 200) hx hb dB_3_0_23.2.1.1.2 (by decide) ?_
                refine lv_aload_n hx hb dB_3_0_23.2.1.2.1 rfl (lv_at hl 1 rfl) ?_
                refine va_get (ci := 12) (v := .int y_49) (C := RX12) (T := TX12) (N := 34) hx hb hts (fun _ h => List.mem_cons_of_mem _ (List.mem_append_right _ h)) hown hK.1 hP 0 rfl rfl 11 (by decide) (hts (.fieldLink RX12 102 "CutAtlasModel" "undone" "I") (List.mem_of_getElem? (i := 1) rfl)) (fun _ h9 => h9) rfl dB_3_0_23.2.1.2.2 ?_
                refine lv_imul hx hb dB_3_0_23.2.2.1.1 ?_
                refine lv_topi (fun y_57 ey_57 => ?_)
                have ty_57 : y_57.toInt = 200 * y_49.toInt := by rw [ey_57]; exact mulC (by decide) (by omega) (by omega)
                refine lv_iconst (v := 5) hx hb dB_3_0_23.2.2.1.2 (by decide) ?_
                refine lv_iload_n hx hb dB_3_0_23.2.2.2.1 rfl (lv_at hl 0 rfl) ?_
                refine lv_imul hx hb dB_3_0_23.2.2.2.2 ?_
                refine lv_topi (fun y_58 ey_58 => ?_)
                have ty_58 : y_58.toInt = 5 * x1_54.toInt := by rw [ey_58]; exact mulC (by decide) (by omega) (by omega)
                refine lv_iadd hx hb dB_3_0_24.1.1.1.1 ?_
                refine lv_topi (fun y_59 ey_59 => ?_)
                have ty_59 : y_59.toInt = y_57.toInt + y_58.toInt := by rw [ey_59]; exact addI (by omega) (by omega)
                refine lv_istore_n (lv' := [(2, .int y_59), (1, .int x1_54), (0, .ref mo)]) hx hb dB_3_0_24.1.1.1.2 rfl hl (by decide) rfl (fun ls hl => ?_)
                refine lv_aload_n hx hb dB_3_0_24.1.1.2.1 rfl (lv_at hl 2 rfl) ?_
                refine va_get (ci := 12) (v := .ref g14) (C := RX12) (T := TX12) (N := 34) hx hb hts (fun _ h => List.mem_cons_of_mem _ (List.mem_append_right _ h)) hown hK.1 hP 0 rfl rfl 14 (by decide) (hts (.fieldLink RX12 35 "CutAtlasModel" "old" "[I") (List.mem_of_getElem? (i := 4) rfl)) (fun _ h9 => h9) rfl dB_3_0_24.1.1.2.2 ?_
                refine lv_iload_n hx hb dB_3_0_24.1.2.1.1 rfl (lv_at hl 0 rfl) ?_
                refine lv_aload_n hx hb dB_3_0_24.1.2.1.2 rfl (lv_at hl 2 rfl) ?_
                refine va_get (ci := 12) (v := .ref g5) (C := RX12) (T := TX12) (N := 34) hx hb hts (fun _ h => List.mem_cons_of_mem _ (List.mem_append_right _ h)) hown hK.1 hP 0 rfl rfl 5 (by decide) (hts (.fieldLink RX12 7 "CutAtlasModel" "kind" "[I") (List.mem_of_getElem? (i := 7) rfl)) (fun _ h9 => h9) rfl dB_3_0_24.1.2.2.1 ?_
                refine lv_iload_n hx hb dB_3_0_24.1.2.2.2 rfl (lv_at hl 1 rfl) ?_
                have h_60 : vp_in x1_54 40 := in_I (by first | with_reducible assumption | omega) (by omega)
                refine va_iald hx hb hK.1 hP 1 0 rfl rfl (i := x1_54) h_60 dB_3_0_24.2.1.1.1 ?_
                refine lv_topi (fun y_61 ey_61 => ?_)
                have ky_61 : y_61.toInt = (f5 x1_54.toNatClampNeg).toInt := by rw [ey_61]
                have h_62 : vp_in y_59 6000 := in_I (by first | with_reducible assumption | omega) (by omega)
                refine va_iast hx hb hK.1 hP hD hS 9 0 rfl rfl (i := y_59) h_62 dB_3_0_24.2.1.1.2 (fun H locs hP hD hS => ?_)
                obtain ⟨f_63, ef_63⟩ : ∃ g : Nat → Int32, g = upd c_g14_54 y_59.toNatClampNeg y_61 := ⟨_, rfl⟩
                refine pd_K (D := D) (cl := vwCl) (H := H) (A := A) [ob12_0_ mo s0 s1 t2 s3 s4 g5 g6 g7 g8 g9 g10 y_49 g12 g13 g14 g15 g16 g17 g18 g19 g20 s21 g22 g23 g24 s25 s26 s27 s28 g29 g30 g31 g32 g33, ai_ cy g5 40 f5, ai_ cy g6 40 f6, ai_ cy g7 40 f7, ai_ cy g8 40 f8, ai_ cy g9 40 f9, az_ cy g10 40 f10, ai_ cy g12 30 f_51, ai_ cy g13 30 f_53, ai_ cy g14 6000 f_63] (by rw [ef_63]; exact hP) (by rw [ef_63]; exact hD) (fun hP hD => ?_)
                have kf_63 := clI (i := y_59) (by omega)
                have rf_63 : orng f_63 6000 := by rw [ef_63]; exact orng_upd rc_g14_54 (by unfold oc; omega)
                refine lv_aload_n hx hb dB_3_0_24.2.1.2.1 rfl (lv_at hl 2 rfl) ?_
                refine va_get (ci := 12) (v := .ref g14) (C := RX12) (T := TX12) (N := 34) hx hb hts (fun _ h => List.mem_cons_of_mem _ (List.mem_append_right _ h)) hown hK.1 hP 0 rfl rfl 14 (by decide) (hts (.fieldLink RX12 35 "CutAtlasModel" "old" "[I") (List.mem_of_getElem? (i := 4) rfl)) (fun _ h9 => h9) rfl dB_3_0_24.2.1.2.2 ?_
                refine lv_iload_n hx hb dB_3_0_24.2.2.1.1 rfl (lv_at hl 0 rfl) ?_
                refine lv_iconst (v := 1) hx hb dB_3_0_24.2.2.1.2 (by decide) ?_
                refine lv_iadd hx hb dB_3_0_24.2.2.2.1 ?_
                refine lv_topi (fun y_64 ey_64 => ?_)
                have ty_64 : y_64.toInt = y_59.toInt + (1 : Int32).toInt := by rw [ey_64]; exact addI (by omega) (by omega)
                refine lv_aload_n hx hb dB_3_0_24.2.2.2.2 rfl (lv_at hl 2 rfl) ?_
                refine va_get (ci := 12) (v := .ref g6) (C := RX12) (T := TX12) (N := 34) hx hb hts (fun _ h => List.mem_cons_of_mem _ (List.mem_append_right _ h)) hown hK.1 hP 0 rfl rfl 6 (by decide) (hts (.fieldLink RX12 13 "CutAtlasModel" "from" "[I") (List.mem_of_getElem? (i := 8) rfl)) (fun _ h9 => h9) rfl dB_3_0_25.1.1.1.1 ?_
                refine lv_iload_n hx hb dB_3_0_25.1.1.1.2 rfl (lv_at hl 1 rfl) ?_
                refine va_iald hx hb hK.1 hP 2 0 rfl rfl (i := x1_54) h_60 dB_3_0_25.1.1.2.1 ?_
                refine lv_topi (fun y_66 ey_66 => ?_)
                have ky_66 : y_66.toInt = (f6 x1_54.toNatClampNeg).toInt := by rw [ey_66]
                have ry_66 : 0 ≤ y_66.toInt ∧ y_66.toInt ≤ 11 := by rw [ey_66]; exact r_f6 _ (in_lt h_60)
                have h_67 : vp_in y_64 6000 := in_I (by first | with_reducible assumption | omega) (by omega)
                refine va_iast hx hb hK.1 hP hD hS 9 0 rfl rfl (i := y_64) h_67 dB_3_0_25.1.1.2.2 (fun H locs hP hD hS => ?_)
                obtain ⟨f_68, ef_68⟩ : ∃ g : Nat → Int32, g = upd f_63 y_64.toNatClampNeg y_66 := ⟨_, rfl⟩
                refine pd_K (D := D) (cl := vwCl) (H := H) (A := A) [ob12_0_ mo s0 s1 t2 s3 s4 g5 g6 g7 g8 g9 g10 y_49 g12 g13 g14 g15 g16 g17 g18 g19 g20 s21 g22 g23 g24 s25 s26 s27 s28 g29 g30 g31 g32 g33, ai_ cy g5 40 f5, ai_ cy g6 40 f6, ai_ cy g7 40 f7, ai_ cy g8 40 f8, ai_ cy g9 40 f9, az_ cy g10 40 f10, ai_ cy g12 30 f_51, ai_ cy g13 30 f_53, ai_ cy g14 6000 f_68] (by rw [ef_68]; exact hP) (by rw [ef_68]; exact hD) (fun hP hD => ?_)
                have kf_68 := clI (i := y_64) (by omega)
                have rf_68 : orng f_68 6000 := by rw [ef_68]; exact orng_upd rf_63 (by unfold oc; omega)
                refine lv_aload_n hx hb dB_3_0_25.1.2.1.1 rfl (lv_at hl 2 rfl) ?_
                refine va_get (ci := 12) (v := .ref g14) (C := RX12) (T := TX12) (N := 34) hx hb hts (fun _ h => List.mem_cons_of_mem _ (List.mem_append_right _ h)) hown hK.1 hP 0 rfl rfl 14 (by decide) (hts (.fieldLink RX12 35 "CutAtlasModel" "old" "[I") (List.mem_of_getElem? (i := 4) rfl)) (fun _ h9 => h9) rfl dB_3_0_25.1.2.1.2 ?_
                refine lv_iload_n hx hb dB_3_0_25.1.2.2.1 rfl (lv_at hl 0 rfl) ?_
                refine lv_iconst (v := 2) hx hb dB_3_0_25.1.2.2.2 (by decide) ?_
                refine lv_iadd hx hb dB_3_0_25.2.1.1.1 ?_
                refine lv_topi (fun y_69 ey_69 => ?_)
                have ty_69 : y_69.toInt = y_59.toInt + (2 : Int32).toInt := by rw [ey_69]; exact addI (by omega) (by omega)
                refine lv_aload_n hx hb dB_3_0_25.2.1.1.2 rfl (lv_at hl 2 rfl) ?_
                refine va_get (ci := 12) (v := .ref g7) (C := RX12) (T := TX12) (N := 34) hx hb hts (fun _ h => List.mem_cons_of_mem _ (List.mem_append_right _ h)) hown hK.1 hP 0 rfl rfl 7 (by decide) (hts (.fieldLink RX12 16 "CutAtlasModel" "to" "[I") (List.mem_of_getElem? (i := 9) rfl)) (fun _ h9 => h9) rfl dB_3_0_25.2.1.2.1 ?_
                refine lv_iload_n hx hb dB_3_0_25.2.1.2.2 rfl (lv_at hl 1 rfl) ?_
                refine va_iald hx hb hK.1 hP 3 0 rfl rfl (i := x1_54) h_60 dB_3_0_25.2.2.1.1 ?_
                refine lv_topi (fun y_71 ey_71 => ?_)
                have ky_71 : y_71.toInt = (f7 x1_54.toNatClampNeg).toInt := by rw [ey_71]
                have ry_71 : 0 ≤ y_71.toInt ∧ y_71.toInt ≤ 11 := by rw [ey_71]; exact r_f7 _ (in_lt h_60)
                have h_72 : vp_in y_69 6000 := in_I (by first | with_reducible assumption | omega) (by omega)
                refine va_iast hx hb hK.1 hP hD hS 9 0 rfl rfl (i := y_69) h_72 dB_3_0_25.2.2.1.2 (fun H locs hP hD hS => ?_)
                obtain ⟨f_73, ef_73⟩ : ∃ g : Nat → Int32, g = upd f_68 y_69.toNatClampNeg y_71 := ⟨_, rfl⟩
                refine pd_K (D := D) (cl := vwCl) (H := H) (A := A) [ob12_0_ mo s0 s1 t2 s3 s4 g5 g6 g7 g8 g9 g10 y_49 g12 g13 g14 g15 g16 g17 g18 g19 g20 s21 g22 g23 g24 s25 s26 s27 s28 g29 g30 g31 g32 g33, ai_ cy g5 40 f5, ai_ cy g6 40 f6, ai_ cy g7 40 f7, ai_ cy g8 40 f8, ai_ cy g9 40 f9, az_ cy g10 40 f10, ai_ cy g12 30 f_51, ai_ cy g13 30 f_53, ai_ cy g14 6000 f_73] (by rw [ef_73]; exact hP) (by rw [ef_73]; exact hD) (fun hP hD => ?_)
                have kf_73 := clI (i := y_69) (by omega)
                have rf_73 : orng f_73 6000 := by rw [ef_73]; exact orng_upd rf_68 (by unfold oc; omega)
                refine lv_aload_n hx hb dB_3_0_25.2.2.2.1 rfl (lv_at hl 2 rfl) ?_
                refine va_get (ci := 12) (v := .ref g14) (C := RX12) (T := TX12) (N := 34) hx hb hts (fun _ h => List.mem_cons_of_mem _ (List.mem_append_right _ h)) hown hK.1 hP 0 rfl rfl 14 (by decide) (hts (.fieldLink RX12 35 "CutAtlasModel" "old" "[I") (List.mem_of_getElem? (i := 4) rfl)) (fun _ h9 => h9) rfl dB_3_0_25.2.2.2.2 ?_
                refine lv_iload_n hx hb dB_3_0_26.1.1.1.1 rfl (lv_at hl 0 rfl) ?_
                refine lv_iconst (v := 3) hx hb dB_3_0_26.1.1.1.2 (by decide) ?_
                refine lv_iadd hx hb dB_3_0_26.1.1.2.1 ?_
                refine lv_topi (fun y_74 ey_74 => ?_)
                have ty_74 : y_74.toInt = y_59.toInt + (3 : Int32).toInt := by rw [ey_74]; exact addI (by omega) (by omega)
                refine lv_aload_n hx hb dB_3_0_26.1.1.2.2 rfl (lv_at hl 2 rfl) ?_
                refine va_get (ci := 12) (v := .ref g8) (C := RX12) (T := TX12) (N := 34) hx hb hts (fun _ h => List.mem_cons_of_mem _ (List.mem_append_right _ h)) hown hK.1 hP 0 rfl rfl 8 (by decide) (hts (.fieldLink RX12 19 "CutAtlasModel" "width" "[I") (List.mem_of_getElem? (i := 10) rfl)) (fun _ h9 => h9) rfl dB_3_0_26.1.2.1.1 ?_
                refine lv_iload_n hx hb dB_3_0_26.1.2.1.2 rfl (lv_at hl 1 rfl) ?_
                refine va_iald hx hb hK.1 hP 4 0 rfl rfl (i := x1_54) h_60 dB_3_0_26.1.2.2.1 ?_
                refine lv_topi (fun y_76 ey_76 => ?_)
                have ky_76 : y_76.toInt = (f8 x1_54.toNatClampNeg).toInt := by rw [ey_76]
                have ry_76 : 0 ≤ y_76.toInt ∧ y_76.toInt ≤ 2000 := by rw [ey_76]; exact r_f8 _ (in_lt h_60)
                have h_77 : vp_in y_74 6000 := in_I (by first | with_reducible assumption | omega) (by omega)
                refine va_iast hx hb hK.1 hP hD hS 9 0 rfl rfl (i := y_74) h_77 dB_3_0_26.1.2.2.2 (fun H locs hP hD hS => ?_)
                obtain ⟨f_78, ef_78⟩ : ∃ g : Nat → Int32, g = upd f_73 y_74.toNatClampNeg y_76 := ⟨_, rfl⟩
                refine pd_K (D := D) (cl := vwCl) (H := H) (A := A) [ob12_0_ mo s0 s1 t2 s3 s4 g5 g6 g7 g8 g9 g10 y_49 g12 g13 g14 g15 g16 g17 g18 g19 g20 s21 g22 g23 g24 s25 s26 s27 s28 g29 g30 g31 g32 g33, ai_ cy g5 40 f5, ai_ cy g6 40 f6, ai_ cy g7 40 f7, ai_ cy g8 40 f8, ai_ cy g9 40 f9, az_ cy g10 40 f10, ai_ cy g12 30 f_51, ai_ cy g13 30 f_53, ai_ cy g14 6000 f_78] (by rw [ef_78]; exact hP) (by rw [ef_78]; exact hD) (fun hP hD => ?_)
                have kf_78 := clI (i := y_74) (by omega)
                have rf_78 : orng f_78 6000 := by rw [ef_78]; exact orng_upd rf_73 (by unfold oc; omega)
                refine lv_aload_n hx hb dB_3_0_26.2.1.1.1 rfl (lv_at hl 2 rfl) ?_
                refine va_get (ci := 12) (v := .ref g14) (C := RX12) (T := TX12) (N := 34) hx hb hts (fun _ h => List.mem_cons_of_mem _ (List.mem_append_right _ h)) hown hK.1 hP 0 rfl rfl 14 (by decide) (hts (.fieldLink RX12 35 "CutAtlasModel" "old" "[I") (List.mem_of_getElem? (i := 4) rfl)) (fun _ h9 => h9) rfl dB_3_0_26.2.1.1.2 ?_
                refine lv_iload_n hx hb dB_3_0_26.2.1.2.1 rfl (lv_at hl 0 rfl) ?_
                refine lv_iconst (v := 4) hx hb dB_3_0_26.2.1.2.2 (by decide) ?_
                refine lv_iadd hx hb dB_3_0_26.2.2.1.1 ?_
                refine lv_topi (fun y_79 ey_79 => ?_)
                have ty_79 : y_79.toInt = y_59.toInt + (4 : Int32).toInt := by rw [ey_79]; exact addI (by omega) (by omega)
                refine lv_aload_n hx hb dB_3_0_26.2.2.1.2 rfl (lv_at hl 2 rfl) ?_
                refine va_get (ci := 12) (v := .ref g9) (C := RX12) (T := TX12) (N := 34) hx hb hts (fun _ h => List.mem_cons_of_mem _ (List.mem_append_right _ h)) hown hK.1 hP 0 rfl rfl 9 (by decide) (hts (.fieldLink RX12 22 "CutAtlasModel" "price" "[I") (List.mem_of_getElem? (i := 11) rfl)) (fun _ h9 => h9) rfl dB_3_0_26.2.2.2.1 ?_
                refine lv_iload_n hx hb dB_3_0_26.2.2.2.2 rfl (lv_at hl 1 rfl) ?_
                refine va_iald hx hb hK.1 hP 5 0 rfl rfl (i := x1_54) h_60 dB_3_0_27.1.1.1.1 ?_
                refine lv_topi (fun y_81 ey_81 => ?_)
                have ky_81 : y_81.toInt = (f9 x1_54.toNatClampNeg).toInt := by rw [ey_81]
                have ry_81 : 0 ≤ y_81.toInt ∧ y_81.toInt ≤ 100 := by rw [ey_81]; exact r_f9 _ (in_lt h_60)
                refine lv_aload_n hx hb dB_3_0_27.1.1.1.2 rfl (lv_at hl 2 rfl) ?_
                refine va_get (ci := 12) (v := .ref g10) (C := RX12) (T := TX12) (N := 34) hx hb hts (fun _ h => List.mem_cons_of_mem _ (List.mem_append_right _ h)) hown hK.1 hP 0 rfl rfl 10 (by decide) (hts (.fieldLink RX12 25 "CutAtlasModel" "isMissing" "[Z") (List.mem_of_getElem? (i := 12) rfl)) (fun _ h9 => h9) rfl dB_3_0_27.1.1.2.1 ?_
                refine lv_iload_n hx hb dB_3_0_27.1.1.2.2 rfl (lv_at hl 1 rfl) ?_
                refine va_zald hx hb hK.1 hP 6 2 rfl rfl (i := x1_54) h_60 dB_3_0_27.1.2.1.1 ?_
                refine lv_topi (fun y_83 ey_83 => ?_)
                have ky_83 : y_83.toInt = (f10 x1_54.toNatClampNeg).toInt := by rw [ey_83]
                refine lv_if_eq (tgt := 221) hx hb dB_3_0_27.1.2.1.2 (by decide) (fun c_84 => ?_) (fun c_84 => ?_)
                · have t_84 : y_83.toInt = (0 : Int32).toInt := congrArg Int32.toInt c_84
                  refine lv_iconst (v := 0) hx hb dB_3_0_27.2.1.1.1 (by decide) ?_
                  refine lv_iadd hx hb dB_3_0_27.2.1.1.2 ?_
                  refine lv_topi (fun y_85 ey_85 => ?_)
                  have ty_85 : y_85.toInt = y_81.toInt + (0 : Int32).toInt := by rw [ey_85]; exact addI (by omega) (by omega)
                  have h_86 : vp_in y_79 6000 := in_I (by first | with_reducible assumption | omega) (by omega)
                  refine va_iast hx hb hK.1 hP hD hS 9 0 rfl rfl (i := y_79) h_86 dB_3_0_27.2.1.2.1 (fun H locs hP hD hS => ?_)
                  obtain ⟨f_87, ef_87⟩ : ∃ g : Nat → Int32, g = upd f_78 y_79.toNatClampNeg y_85 := ⟨_, rfl⟩
                  refine pd_K (D := D) (cl := vwCl) (H := H) (A := A) [ob12_0_ mo s0 s1 t2 s3 s4 g5 g6 g7 g8 g9 g10 y_49 g12 g13 g14 g15 g16 g17 g18 g19 g20 s21 g22 g23 g24 s25 s26 s27 s28 g29 g30 g31 g32 g33, ai_ cy g5 40 f5, ai_ cy g6 40 f6, ai_ cy g7 40 f7, ai_ cy g8 40 f8, ai_ cy g9 40 f9, az_ cy g10 40 f10, ai_ cy g12 30 f_51, ai_ cy g13 30 f_53, ai_ cy g14 6000 f_87] (by rw [ef_87]; exact hP) (by rw [ef_87]; exact hD) (fun hP hD => ?_)
                  have kf_87 := clI (i := y_79) (by omega)
                  have rf_87 : orng f_87 6000 := by rw [ef_87]; exact orng_upd rf_78 (by unfold oc; omega)
                  obtain ⟨y_88, ey_88⟩ : ∃ y : Int32, y = x1_54 + 1 := ⟨_, rfl⟩
                  have ty_88 : y_88.toInt = x1_54.toInt + (1 : Int32).toInt := by rw [ey_88]; exact addI (by omega) (by omega)
                  refine lv_iinc (v := y_88) (lv' := [(1, .int y_88), (2, .int y_59), (0, .ref mo)]) hx hb dB_3_0_27.2.1.2.2 hl (k := 1) rfl (by rw [ey_88]; rfl) (by decide) rfl (fun ls hl => ?_)
                  have hE_ := ent_st (u := y_49) (l := x1_54) (l2 := y_88) (f9 := f9) (f10 := f10) (b := c_g14_47) (by omega) (by omega) ef_63 ef_68 ef_73 ef_78 ef_87 (by omega) (by omega) (by omega) (by omega) (by omega) ey_61 ey_66 ey_71 ey_76 (by first | (rw [if_pos (by omega)]; omega) | (rw [if_neg (by omega)]; omega)) v2_54 v3_54 (by omega)
                  refine lv_goto (tgt := 120) hx hb dB_3_0_27.2.2.1.1 (by decide) ?_
                  exact ih_54 y_88 f_87 _ _ _ (by omega) (by first | with_reducible assumption | omega | assumption) (by first | with_reducible assumption | omega | assumption) (by first | exact fun _ _ => rfl | exact hE_.1) (by first | exact hE_.2 | (intro j hj; omega)) (by first | with_reducible assumption | assumption | exact rng_zero (by omega) (by omega) | exact orng_zero) ⟨hP, hD⟩ hS (lv_sub hl [0, 2] rfl)
                · have t_84 : ¬ y_83.toInt = (0 : Int32).toInt := fun h => c_84 (Int32.toInt_inj.mp h)
                  refine lv_sipush (v := 1000) hx hb dB_3_0_27.1.2.2.1 (by decide) ?_
                  refine lv_goto (tgt := 222) hx hb dB_3_0_27.1.2.2.2 (by decide) ?_
                  refine lv_iadd hx hb dB_3_0_27.2.1.1.2 ?_
                  refine lv_topi (fun y_89 ey_89 => ?_)
                  have ty_89 : y_89.toInt = y_81.toInt + (1000 : Int32).toInt := by rw [ey_89]; exact addI (by omega) (by omega)
                  have h_90 : vp_in y_79 6000 := in_I (by first | with_reducible assumption | omega) (by omega)
                  refine va_iast hx hb hK.1 hP hD hS 9 0 rfl rfl (i := y_79) h_90 dB_3_0_27.2.1.2.1 (fun H locs hP hD hS => ?_)
                  obtain ⟨f_91, ef_91⟩ : ∃ g : Nat → Int32, g = upd f_78 y_79.toNatClampNeg y_89 := ⟨_, rfl⟩
                  refine pd_K (D := D) (cl := vwCl) (H := H) (A := A) [ob12_0_ mo s0 s1 t2 s3 s4 g5 g6 g7 g8 g9 g10 y_49 g12 g13 g14 g15 g16 g17 g18 g19 g20 s21 g22 g23 g24 s25 s26 s27 s28 g29 g30 g31 g32 g33, ai_ cy g5 40 f5, ai_ cy g6 40 f6, ai_ cy g7 40 f7, ai_ cy g8 40 f8, ai_ cy g9 40 f9, az_ cy g10 40 f10, ai_ cy g12 30 f_51, ai_ cy g13 30 f_53, ai_ cy g14 6000 f_91] (by rw [ef_91]; exact hP) (by rw [ef_91]; exact hD) (fun hP hD => ?_)
                  have kf_91 := clI (i := y_79) (by omega)
                  have rf_91 : orng f_91 6000 := by rw [ef_91]; exact orng_upd rf_78 (by unfold oc; omega)
                  obtain ⟨y_92, ey_92⟩ : ∃ y : Int32, y = x1_54 + 1 := ⟨_, rfl⟩
                  have ty_92 : y_92.toInt = x1_54.toInt + (1 : Int32).toInt := by rw [ey_92]; exact addI (by omega) (by omega)
                  refine lv_iinc (v := y_92) (lv' := [(1, .int y_92), (2, .int y_59), (0, .ref mo)]) hx hb dB_3_0_27.2.1.2.2 hl (k := 1) rfl (by rw [ey_92]; rfl) (by decide) rfl (fun ls hl => ?_)
                  have hE_ := ent_st (u := y_49) (l := x1_54) (l2 := y_92) (f9 := f9) (f10 := f10) (b := c_g14_47) (by omega) (by omega) ef_63 ef_68 ef_73 ef_78 ef_91 (by omega) (by omega) (by omega) (by omega) (by omega) ey_61 ey_66 ey_71 ey_76 (by first | (rw [if_pos (by omega)]; omega) | (rw [if_neg (by omega)]; omega)) v2_54 v3_54 (by omega)
                  refine lv_goto (tgt := 120) hx hb dB_3_0_27.2.2.1.1 (by decide) ?_
                  exact ih_54 y_92 f_91 _ _ _ (by omega) (by first | with_reducible assumption | omega | assumption) (by first | with_reducible assumption | omega | assumption) (by first | exact fun _ _ => rfl | exact hE_.1) (by first | exact hE_.2 | (intro j hj; omega)) (by first | with_reducible assumption | assumption | exact rng_zero (by omega) (by omega) | exact orng_zero) ⟨hP, hD⟩ hS (lv_sub hl [0, 2] rfl)
          · have t_48 : ¬ (5800 : Int32).toInt ≤ x1_47.toInt := fun h => c_48 (Int32.le_iff_toInt_le.mpr h)
            refine lv_aload_n hx hb dB_3_0_21.1.2.1.1 rfl (lv_at hl 1 rfl) ?_
            refine va_get (ci := 12) (v := .ref g14) (C := RX12) (T := TX12) (N := 34) hx hb hts (fun _ h => List.mem_cons_of_mem _ (List.mem_append_right _ h)) hown hK.1 hP 0 rfl rfl 14 (by decide) (hts (.fieldLink RX12 35 "CutAtlasModel" "old" "[I") (List.mem_of_getElem? (i := 4) rfl)) (fun _ h9 => h9) rfl dB_3_0_21.1.2.1.2 ?_
            refine lv_iload_n hx hb dB_3_0_21.1.2.2.1 rfl (lv_at hl 0 rfl) ?_
            refine lv_aload_n hx hb dB_3_0_21.1.2.2.2 rfl (lv_at hl 1 rfl) ?_
            refine va_get (ci := 12) (v := .ref g14) (C := RX12) (T := TX12) (N := 34) hx hb hts (fun _ h => List.mem_cons_of_mem _ (List.mem_append_right _ h)) hown hK.1 hP 0 rfl rfl 14 (by decide) (hts (.fieldLink RX12 35 "CutAtlasModel" "old" "[I") (List.mem_of_getElem? (i := 4) rfl)) (fun _ h9 => h9) rfl dB_3_0_21.2.1.1.1 ?_
            refine lv_iload_n hx hb dB_3_0_21.2.1.1.2 rfl (lv_at hl 0 rfl) ?_
            refine lv_sipush (v := 200) hx hb dB_3_0_21.2.1.2.1 (by decide) ?_
            refine lv_iadd hx hb dB_3_0_21.2.1.2.2 ?_
            refine lv_topi (fun y_93 ey_93 => ?_)
            have ty_93 : y_93.toInt = x1_47.toInt + (200 : Int32).toInt := by rw [ey_93]; exact addI (by omega) (by omega)
            have h_94 : vp_in y_93 6000 := in_I (by first | with_reducible assumption | omega) (by omega)
            refine va_iald hx hb hK.1 hP 9 0 rfl rfl (i := y_93) h_94 dB_3_0_21.2.2.1.1 ?_
            refine lv_topi (fun y_95 ey_95 => ?_)
            have ky_95 : y_95.toInt = (c_g14_47 y_93.toNatClampNeg).toInt := by rw [ey_95]
            have ry_95 : oc y_93.toNatClampNeg y_95.toInt := by rw [ey_95]; exact rc_g14_47 _ (in_lt h_94)
            unfold oc at ry_95
            have ky_95 := clI (i := y_93) (by omega)
            have h_96 : vp_in x1_47 6000 := in_I (by first | with_reducible assumption | omega) (by omega)
            refine va_iast hx hb hK.1 hP hD hS 9 0 rfl rfl (i := x1_47) h_96 dB_3_0_21.2.2.1.2 (fun H locs hP hD hS => ?_)
            obtain ⟨f_97, ef_97⟩ : ∃ g : Nat → Int32, g = upd c_g14_47 x1_47.toNatClampNeg y_95 := ⟨_, rfl⟩
            refine pd_K (D := D) (cl := vwCl) (H := H) (A := A) [ob12_0_ mo s0 s1 t2 s3 s4 g5 g6 g7 g8 g9 g10 s11 g12 g13 g14 g15 g16 g17 g18 g19 g20 s21 g22 g23 g24 s25 s26 s27 s28 g29 g30 g31 g32 g33, ai_ cy g5 40 f5, ai_ cy g6 40 f6, ai_ cy g7 40 f7, ai_ cy g8 40 f8, ai_ cy g9 40 f9, az_ cy g10 40 f10, ai_ cy g12 30 c_g12_45, ai_ cy g13 30 c_g13_45, ai_ cy g14 6000 f_97] (by rw [ef_97]; exact hP) (by rw [ef_97]; exact hD) (fun hP hD => ?_)
            have kf_97 := clI (i := x1_47) (by omega)
            have rf_97 : orng f_97 6000 := by rw [ef_97]; exact orng_upd rc_g14_47 (by unfold oc; omega)
            obtain ⟨y_98, ey_98⟩ : ∃ y : Int32, y = x1_47 + 1 := ⟨_, rfl⟩
            have ty_98 : y_98.toInt = x1_47.toInt + (1 : Int32).toInt := by rw [ey_98]; exact addI (by omega) (by omega)
            refine lv_iinc (v := y_98) (lv' := [(1, .int y_98), (0, .ref mo)]) hx hb dB_3_0_21.2.2.2.1 hl (k := 0) rfl (by rw [ey_98]; rfl) (by decide) rfl (fun ls hl => ?_)
            refine lv_goto (tgt := 53) hx hb dB_3_0_21.2.2.2.2 (by decide) ?_
            exact ih_47 y_98 f_97 _ _ _ (by omega) (by first | with_reducible assumption | omega | assumption) (by first | with_reducible assumption | omega | assumption) (by first | exact shf_0 | exact shf_st v2_47 ef_97 ey_95 (by omega) (by omega) (by omega)) (by first | with_reducible assumption | assumption | exact rng_zero (by omega) (by omega) | exact orng_zero) ⟨hP, hD⟩ hS (lv_sub hl [0, 1] rfl)
      · have t_46 : ¬ (29 : Int32).toInt ≤ x1_45.toInt := fun h => c_46 (Int32.le_iff_toInt_le.mpr h)
        refine lv_aload_n hx hb dB_3_0_19.2.1.1.2 rfl (lv_at hl 1 rfl) ?_
        refine va_get (ci := 12) (v := .ref g12) (C := RX12) (T := TX12) (N := 34) hx hb hts (fun _ h => List.mem_cons_of_mem _ (List.mem_append_right _ h)) hown hK.1 hP 0 rfl rfl 12 (by decide) (hts (.fieldLink RX12 29 "CutAtlasModel" "oldPlaces" "[I") (List.mem_of_getElem? (i := 2) rfl)) (fun _ h9 => h9) rfl dB_3_0_19.2.1.2.1 ?_
        refine lv_iload_n hx hb dB_3_0_19.2.1.2.2 rfl (lv_at hl 0 rfl) ?_
        refine lv_aload_n hx hb dB_3_0_19.2.2.1.1 rfl (lv_at hl 1 rfl) ?_
        refine va_get (ci := 12) (v := .ref g12) (C := RX12) (T := TX12) (N := 34) hx hb hts (fun _ h => List.mem_cons_of_mem _ (List.mem_append_right _ h)) hown hK.1 hP 0 rfl rfl 12 (by decide) (hts (.fieldLink RX12 29 "CutAtlasModel" "oldPlaces" "[I") (List.mem_of_getElem? (i := 2) rfl)) (fun _ h9 => h9) rfl dB_3_0_19.2.2.1.2 ?_
        refine lv_iload_n hx hb dB_3_0_19.2.2.2.1 rfl (lv_at hl 0 rfl) ?_
        refine lv_iconst (v := 1) hx hb dB_3_0_19.2.2.2.2 (by decide) ?_
        refine lv_iadd hx hb dB_3_0_20.1.1.1.1 ?_
        refine lv_topi (fun y_99 ey_99 => ?_)
        have ty_99 : y_99.toInt = x1_45.toInt + (1 : Int32).toInt := by rw [ey_99]; exact addI (by omega) (by omega)
        have h_100 : vp_in y_99 30 := in_I (by first | with_reducible assumption | omega) (by omega)
        refine va_iald hx hb hK.1 hP 7 0 rfl rfl (i := y_99) h_100 dB_3_0_20.1.1.1.2 ?_
        refine lv_topi (fun y_101 ey_101 => ?_)
        have ky_101 : y_101.toInt = (c_g12_45 y_99.toNatClampNeg).toInt := by rw [ey_101]
        have ry_101 : 0 ≤ y_101.toInt ∧ y_101.toInt ≤ 12 := by rw [ey_101]; exact rc_g12_45 _ (in_lt h_100)
        have h_102 : vp_in x1_45 30 := in_I (by first | with_reducible assumption | omega) (by omega)
        refine va_iast hx hb hK.1 hP hD hS 7 0 rfl rfl (i := x1_45) h_102 dB_3_0_20.1.1.2.1 (fun H locs hP hD hS => ?_)
        obtain ⟨f_103, ef_103⟩ : ∃ g : Nat → Int32, g = upd c_g12_45 x1_45.toNatClampNeg y_101 := ⟨_, rfl⟩
        refine pd_K (D := D) (cl := vwCl) (H := H) (A := A) [ob12_0_ mo s0 s1 t2 s3 s4 g5 g6 g7 g8 g9 g10 s11 g12 g13 g14 g15 g16 g17 g18 g19 g20 s21 g22 g23 g24 s25 s26 s27 s28 g29 g30 g31 g32 g33, ai_ cy g5 40 f5, ai_ cy g6 40 f6, ai_ cy g7 40 f7, ai_ cy g8 40 f8, ai_ cy g9 40 f9, az_ cy g10 40 f10, ai_ cy g12 30 f_103, ai_ cy g13 30 c_g13_45, ai_ cy g14 6000 f14] (by rw [ef_103]; exact hP) (by rw [ef_103]; exact hD) (fun hP hD => ?_)
        have rf_103 : rng f_103 30 (0) (12) := by rw [ef_103]; exact rng_upd rc_g12_45 (by omega) (by omega)
        refine lv_aload_n hx hb dB_3_0_20.1.1.2.2 rfl (lv_at hl 1 rfl) ?_
        refine va_get (ci := 12) (v := .ref g13) (C := RX12) (T := TX12) (N := 34) hx hb hts (fun _ h => List.mem_cons_of_mem _ (List.mem_append_right _ h)) hown hK.1 hP 0 rfl rfl 13 (by decide) (hts (.fieldLink RX12 32 "CutAtlasModel" "oldLines" "[I") (List.mem_of_getElem? (i := 3) rfl)) (fun _ h9 => h9) rfl dB_3_0_20.1.2.1.1 ?_
        refine lv_iload_n hx hb dB_3_0_20.1.2.1.2 rfl (lv_at hl 0 rfl) ?_
        refine lv_aload_n hx hb dB_3_0_20.1.2.2.1 rfl (lv_at hl 1 rfl) ?_
        refine va_get (ci := 12) (v := .ref g13) (C := RX12) (T := TX12) (N := 34) hx hb hts (fun _ h => List.mem_cons_of_mem _ (List.mem_append_right _ h)) hown hK.1 hP 0 rfl rfl 13 (by decide) (hts (.fieldLink RX12 32 "CutAtlasModel" "oldLines" "[I") (List.mem_of_getElem? (i := 3) rfl)) (fun _ h9 => h9) rfl dB_3_0_20.1.2.2.2 ?_
        refine lv_iload_n hx hb dB_3_0_20.2.1.1.1 rfl (lv_at hl 0 rfl) ?_
        refine lv_iconst (v := 1) hx hb dB_3_0_20.2.1.1.2 (by decide) ?_
        refine lv_iadd hx hb dB_3_0_20.2.1.2.1 ?_
        refine lv_topi (fun y_104 ey_104 => ?_)
        have e_ := (ey_104.trans ey_99.symm).symm
        subst e_
        refine va_iald hx hb hK.1 hP 8 0 rfl rfl (i := y_99) h_100 dB_3_0_20.2.1.2.2 ?_
        refine lv_topi (fun y_106 ey_106 => ?_)
        have ky_106 : y_106.toInt = (c_g13_45 y_99.toNatClampNeg).toInt := by rw [ey_106]
        have ry_106 : 0 ≤ y_106.toInt ∧ y_106.toInt ≤ 40 := by rw [ey_106]; exact rc_g13_45 _ (in_lt h_100)
        refine va_iast hx hb hK.1 hP hD hS 8 0 rfl rfl (i := x1_45) h_102 dB_3_0_20.2.2.1.1 (fun H locs hP hD hS => ?_)
        obtain ⟨f_108, ef_108⟩ : ∃ g : Nat → Int32, g = upd c_g13_45 x1_45.toNatClampNeg y_106 := ⟨_, rfl⟩
        refine pd_K (D := D) (cl := vwCl) (H := H) (A := A) [ob12_0_ mo s0 s1 t2 s3 s4 g5 g6 g7 g8 g9 g10 s11 g12 g13 g14 g15 g16 g17 g18 g19 g20 s21 g22 g23 g24 s25 s26 s27 s28 g29 g30 g31 g32 g33, ai_ cy g5 40 f5, ai_ cy g6 40 f6, ai_ cy g7 40 f7, ai_ cy g8 40 f8, ai_ cy g9 40 f9, az_ cy g10 40 f10, ai_ cy g12 30 f_103, ai_ cy g13 30 f_108, ai_ cy g14 6000 f14] (by rw [ef_108]; exact hP) (by rw [ef_108]; exact hD) (fun hP hD => ?_)
        have rf_108 : rng f_108 30 (0) (40) := by rw [ef_108]; exact rng_upd rc_g13_45 (by omega) (by omega)
        obtain ⟨y_109, ey_109⟩ : ∃ y : Int32, y = x1_45 + 1 := ⟨_, rfl⟩
        have ty_109 : y_109.toInt = x1_45.toInt + (1 : Int32).toInt := by rw [ey_109]; exact addI (by omega) (by omega)
        refine lv_iinc (v := y_109) (lv' := [(1, .int y_109), (0, .ref mo)]) hx hb dB_3_0_20.2.2.1.2 hl (k := 0) rfl (by rw [ey_109]; rfl) (by decide) rfl (fun ls hl => ?_)
        refine lv_goto (tgt := 11) hx hb dB_3_0_20.2.2.2.1 (by decide) ?_
        exact ih_45 y_109 f_103 f_108 _ _ _ (by omega) (by first | with_reducible assumption | omega | assumption) (by first | with_reducible assumption | omega | assumption) (by first | exact shf_0 | exact shf_st v2_45 ef_103 ey_101 (by omega) (by omega) (by omega)) (by first | exact shf_0 | exact shf_st v3_45 ef_108 ey_106 (by omega) (by omega) (by omega)) (by first | with_reducible assumption | assumption | exact rng_zero (by omega) (by omega) | exact orng_zero) (by first | with_reducible assumption | assumption | exact rng_zero (by omega) (by omega) | exact orng_zero) ⟨hP, hD⟩ hS (lv_sub hl [0, 1] rfl)
end
