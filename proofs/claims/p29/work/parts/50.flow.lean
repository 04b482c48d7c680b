section
/-- what line j lets more out of s -/
noncomputable def outI (f5 f6 f7 f8 f10 f22 : Nat → Int32) (s : Int) (j : Nat) : Int := if (f10 j).toInt ≠ 0 then 0 else if (f6 j).toInt = s then rmI (f5 j) (f8 j) 1 - (f22 j).toInt else if (f7 j).toInt = s then rmI (f5 j) (f8 j) 0 + (f22 j).toInt else 0
noncomputable def phi (f5 f6 f7 f8 f10 f22 : Nat → Int32) (s : Int) (n : Nat) : Int := sumI (outI f5 f6 f7 f8 f10 f22 s) n
theorem sumI_nonneg {g : Nat → Int} : ∀ n : Nat, (∀ j : Nat, j < n → 0 ≤ g j) → 0 ≤ sumI g n
  | 0, _ => Int.le_refl 0
  | n + 1, h => by
    have a := sumI_nonneg n (fun j hj => h j (by omega))
    have b := h n (by omega)
    show 0 ≤ sumI g n + g n
    omega
theorem sumI_congr {g h : Nat → Int} : ∀ n : Nat, (∀ j : Nat, j < n → g j = h j) → sumI g n = sumI h n
  | 0, _ => rfl
  | n + 1, e => by
    show sumI g n + g n = sumI h n + h n
    rw [sumI_congr n (fun j hj => e j (by omega)), e n (by omega)]
theorem sumI_one {g h : Nat → Int} {k : Nat} {d : Int} (ho : ∀ j : Nat, j ≠ k → h j = g j) (hk : h k = g k - d) : ∀ n : Nat, k < n → sumI h n = sumI g n - d
  | 0, hn => absurd hn (Nat.not_lt_zero _)
  | n + 1, hn => by
    show sumI h n + h n = sumI g n + g n - d
    by_cases e : k = n
    · subst e
      rw [sumI_congr k (fun j hj => ho j (by omega)), hk]
      omega
    · rw [sumI_one ho hk n (by omega), ho n (fun e9 => e e9.symm)]
      omega
theorem sumI_le0 {g : Nat → Int} : ∀ n : Nat, (∀ j : Nat, j < n → g j ≤ 0) → sumI g n ≤ 0
  | 0, _ => Int.le_refl 0
  | n + 1, h => by
    have a := sumI_le0 n (fun j hj => h j (by omega))
    have b := h n (by omega)
    show sumI g n + g n ≤ 0
    omega
theorem flOK_zero {f5 f8 f22 : Nat → Int32} (hr : rng f8 40 0 2000) (h : ∀ j : Nat, (j : Int) < 40 → (f22 j).toInt = 0) : flOK f5 f8 f22 := fun j hj => by
  have b := hr j hj
  have c1 := rmI_rng (k := f5 j) (b := 1) b.1 b.2
  have c0 := rmI_rng (k := f5 j) (b := 0) b.1 b.2
  have e := h j (by omega)
  omega
theorem zero_st {f f2 : Nat → Int32} {i i2 : Int32} (e : f2 = upd f i.toNatClampNeg 0) (h : ∀ j : Nat, (j : Int) < i.toInt → (f j).toInt = 0) (hi : 0 ≤ i.toInt) (ei : i2.toInt = i.toInt + 1) : ∀ j : Nat, (j : Int) < i2.toInt → (f2 j).toInt = 0 := fun j hj => by
  have c := clI (i := i) hi
  rw [e]
  by_cases ej : j = i.toNatClampNeg
  · rw [ej, pk_us]
    decide
  · rw [pk_un ej]
    exact h j (by omega)
theorem phi_nonneg {f5 f6 f7 f8 f10 f22 : Nat → Int32} {s : Int} {n : Nat} (h : flOK f5 f8 f22) (hr : rng f8 40 0 2000) (hn : n ≤ 40) : 0 ≤ phi f5 f6 f7 f8 f10 f22 s n := sumI_nonneg n (fun j hj => by
  have a := h j (by omega)
  have b := hr j (by omega)
  have c1 := rmI_rng (k := f5 j) (b := 1) b.1 b.2
  have c0 := rmI_rng (k := f5 j) (b := 0) b.1 b.2
  unfold outI
  (repeat' split) <;> omega)
theorem phi_same {f5 f6 f7 f8 f10 a b : Nat → Int32} {s : Int} {n : Nat} (h : ∀ j : Nat, ((f6 j).toInt = s ∨ (f7 j).toInt = s) → a j = b j) : phi f5 f6 f7 f8 f10 a s n = phi f5 f6 f7 f8 f10 b s n := sumI_congr n (fun j _ => by
  unfold outI
  by_cases h1 : (f6 j).toInt = s
  · rw [h j (Or.inl h1)]
  · by_cases h2 : (f7 j).toInt = s
    · rw [h j (Or.inr h2)]
    · simp only [h1, h2, if_false])
/-- one line carries n more from x to y -/
theorem stepL {f5 f6 f7 f8 f10 F F2 : Nat → Int32} {l v : Int32} {n x y s : Int} {N : Nat} (e : F2 = upd F l.toNatClampNeg v) (hl0 : 0 ≤ l.toInt) (hl : l.toInt < N) (hN : N ≤ 40) (hok : flOK f5 f8 F) (hr : rng f8 40 0 2000) (hn0 : 0 ≤ n) (hn : n ≤ lfI f5 f6 f7 f8 f10 F x y l.toNatClampNeg)
    (hv : v.toInt = (F l.toNatClampNeg).toInt + (if (f10 l.toNatClampNeg).toInt ≠ 0 then 0 else if (f6 l.toNatClampNeg).toInt = x ∧ (f7 l.toNatClampNeg).toInt = y then n else if (f6 l.toNatClampNeg).toInt = y ∧ (f7 l.toNatClampNeg).toInt = x then -n else 0)) (hy : y ≠ s) :
    flOK f5 f8 F2 ∧ (x = s → phi f5 f6 f7 f8 f10 F2 s N = phi f5 f6 f7 f8 f10 F s N - n) ∧ (x ≠ s → ∀ j : Nat, ((f6 j).toInt = s ∨ (f7 j).toInt = s) → F2 j = F j) ∧ (n = 0 → ∀ j : Nat, F2 j = F j) := by
  have c := clI (i := l) hl0
  have hk : l.toNatClampNeg < 40 := by omega
  have a := hok _ hk
  have b := hr _ hk
  have c1 := rmI_rng (k := f5 l.toNatClampNeg) (b := 1) b.1 b.2
  have c0 := rmI_rng (k := f5 l.toNatClampNeg) (b := 0) b.1 b.2
  have ek : F2 l.toNatClampNeg = v := by rw [e]; exact pk_us
  have eo : ∀ j : Nat, j ≠ l.toNatClampNeg → F2 j = F j := fun j hj => by rw [e]; exact pk_un hj
  unfold lfI at hn
  refine ⟨fun j hj => ?_, fun hx => ?_, fun hx j hj => ?_, fun h0 j => ?_⟩
  · by_cases ej : j = l.toNatClampNeg
    · rw [ej, ek]
      split at hn
      · rw [if_pos (by assumption)] at hv
        omega
      · rw [if_neg (by assumption)] at hv
        split at hn
        · rw [if_pos (by assumption)] at hv
          omega
        · rw [if_neg (by assumption)] at hv
          split at hn
          · rw [if_pos (by assumption)] at hv
            omega
          · rw [if_neg (by assumption)] at hv
            omega
    · rw [eo j ej]
      exact hok j hj
  · refine sumI_one (k := l.toNatClampNeg) (fun j hj => ?_) ?_ N (by omega)
    · unfold outI
      rw [eo j hj]
    · unfold outI
      rw [ek]
      subst hx
      split at hn
      · rename_i q0
        rw [if_pos q0] at hv
        rw [if_pos q0, if_pos q0]
        omega
      · rename_i q0
        rw [if_neg q0] at hv
        rw [if_neg q0, if_neg q0]
        split at hn
        · rename_i q2
          rw [if_pos q2] at hv
          rw [if_pos q2.1, if_pos q2.1]
          omega
        · rename_i q2
          rw [if_neg q2] at hv
          split at hn
          · rename_i q3
            rw [if_pos q3] at hv
            have n6 : ¬ (f6 l.toNatClampNeg).toInt = x := fun h => by
              have := q3.1
              omega
            rw [if_neg n6, if_neg n6, if_pos q3.2, if_pos q3.2]
            omega
          · rename_i q3
            rw [if_neg q3] at hv
            rw [show v.toInt = (F l.toNatClampNeg).toInt by omega]
            omega
  · by_cases ej : j = l.toNatClampNeg
    · subst ej
      rw [ek]
      refine Int32.toInt_inj.mp ?_
      rw [hv]
      split at hn
      · rw [if_pos (by assumption)]
        omega
      · rw [if_neg (by assumption)]
        split at hn
        · omega
        · rw [if_neg (by assumption)]
          split at hn
          · omega
          · rw [if_neg (by assumption)]
            omega
    · exact eo j ej
  · by_cases ej : j = l.toNatClampNeg
    · subst ej
      rw [ek]
      refine Int32.toInt_inj.mp ?_
      rw [hv, h0]
      (repeat' split) <;> omega
    · exact eo j ej
theorem lfI_same {f5 f6 f7 f8 f10 a b : Nat → Int32} {x y : Int} {j : Nat} (h : (f6 j).toInt = x ∨ (f7 j).toInt = x → a j = b j) : lfI f5 f6 f7 f8 f10 a x y j = lfI f5 f6 f7 f8 f10 b x y j := by
  unfold lfI
  by_cases h1 : (f6 j).toInt = x
  · rw [h (Or.inl h1)]
  · by_cases h2 : (f7 j).toInt = x
    · rw [h (Or.inr h2)]
    · simp only [h1, h2, false_and, and_false, if_false]
end

section
theorem sixL {g : Nat → Int} {l l2 : Int32} (h : ∀ j : Nat, (j : Int) < l.toInt → g j ≤ 0) (h0 : 0 ≤ l.toInt) (e : l2.toInt = l.toInt + 1) (hg : g l.toNatClampNeg ≤ 0) : ∀ j : Nat, (j : Int) < l2.toInt → g j ≤ 0 := fun j hj => by
  have c := clI (i := l) h0
  by_cases q : (j : Int) < l.toInt
  · exact h j q
  · obtain rfl : j = l.toNatClampNeg := by omega
    exact hg
theorem endL {f5 f6 f7 f8 f10 F c0 c : Nat → Int32} {l n : Int32} {x y s r m : Int} (h6 : r = m → (∀ j : Nat, (j : Int) < l.toInt → lfI f5 f6 f7 f8 f10 c0 x y j ≤ 0) ∧ ∀ j : Nat, F j = c0 j) (hl : n.toInt ≤ l.toInt) (hn : 0 ≤ n.toInt) (hs : 0 < sumI (lfI f5 f6 f7 f8 f10 c x y) n.toNatClampNeg) (hc : ∀ j : Nat, ((f6 j).toInt = s ∨ (f7 j).toInt = s) → c0 j = c j) (hx : x = s) (hle : r ≤ m) : r < m := by
  rcases Int.lt_or_le r m with q | q
  · exact q
  · have a := h6 (by omega)
    have e := clI (i := n) hn
    have b := sumI_le0 (g := lfI f5 f6 f7 f8 f10 c x y) n.toNatClampNeg (fun j hj => by
      have d := a.1 j (by omega)
      rw [lfI_same (a := c0) (b := c) (fun h => hc j (by rw [← hx]; exact h))] at d
      exact d)
    omega

set_option maxHeartbeats 4000000 in
set_option maxRecDepth 100000 in
theorem c_X12_flowOf (l : Launch) (D : va_G) (cy : Nat → ClassId) (sz : Nat) (mo : Nat) (g5 : Nat) (g6 : Nat) (g7 : Nat) (g8 : Nat) (g9 : Nat) (g10 : Nat) (g12 : Nat) (g13 : Nat) (g14 : Nat) (g15 : Nat) (g16 : Nat) (g17 : Nat) (g18 : Nat) (g19 : Nat) (g20 : Nat) (g22 : Nat) (g23 : Nat) (g24 : Nat) (g29 : Nat) (g30 : Nat) (g31 : Nat) (g32 : Nat) (g33 : Nat) (s0 : Int32) (s1 : Int32) (s3 : Int32) (s4 : Int32) (s11 : Int32) (s21 : Int32) (s25 : Int32) (s26 : Int32) (s27 : Int32) (s28 : Int32) (t2 : Int64) (f5 : Nat → Int32) (f6 : Nat → Int32) (f7 : Nat → Int32) (f8 : Nat → Int32) (f10 : Nat → Int32) (f22 : Nat → Int32) (f23 : Nat → Int32) (f24 : Nat → Int32) (a1 : Int32) (a2 : Int32) (hN : 0 ≤ s4.toInt ∧ s4.toInt ≤ 40) (hPl : 0 ≤ s3.toInt ∧ s3.toInt ≤ 12) (h21 : s21.toInt = -9) (q1 : 0 ≤ a1.toInt ∧ a1.toInt < s3.toInt) (q2 : 0 ≤ a2.toInt ∧ a2.toInt < s3.toInt) (qd : a1.toInt ≠ a2.toInt) (r_f8 : rng f8 40 (0) (2000)) (r_f23 : rng f23 12 (0) (11)) (r_f24 : rng f24 12 (0) (11)) : Met l yX12_flowOf wsX12_flowOf ({ frames := 5, cells := 0, slots := 0, locals := 118 }) (va_Pc [.ref mo, .int a1, .int a2] (fun U => U.heap.size = sz ∧ va_P D vwCl [(mo, .inr (12, [.int s0, .int s1, .long t2, .int s3, .int s4, .ref g5, .ref g6, .ref g7, .ref g8, .ref g9, .ref g10, .int s11, .ref g12, .ref g13, .ref g14, .ref g15, .ref g16, .ref g17, .ref g18, .ref g19, .ref g20, .int s21, .ref g22, .ref g23, .ref g24, .int s25, .int s26, .int s27, .int s28, .ref g29, .ref g30, .ref g31, .ref g32, .ref g33])), (g5, .inl (cy 0, 40, .inl f5)), (g6, .inl (cy 0, 40, .inl f6)), (g7, .inl (cy 0, 40, .inl f7)), (g8, .inl (cy 0, 40, .inl f8)), (g10, .inl (cy 2, 40, .inl f10)), (g22, .inl (cy 0, 40, .inl f22)), (g23, .inl (cy 0, 12, .inl f23)), (g24, .inl (cy 0, 12, .inl f24))] U.heap ∧ kk_ D cy U ∧ va_D (fun _ => True) [(mo, .inr (12, [.int s0, .int s1, .long t2, .int s3, .int s4, .ref g5, .ref g6, .ref g7, .ref g8, .ref g9, .ref g10, .int s11, .ref g12, .ref g13, .ref g14, .ref g15, .ref g16, .ref g17, .ref g18, .ref g19, .ref g20, .int s21, .ref g22, .ref g23, .ref g24, .int s25, .int s26, .int s27, .int s28, .ref g29, .ref g30, .ref g31, .ref g32, .ref g33])), (g5, .inl (cy 0, 40, .inl f5)), (g6, .inl (cy 0, 40, .inl f6)), (g7, .inl (cy 0, 40, .inl f7)), (g8, .inl (cy 0, 40, .inl f8)), (g10, .inl (cy 2, 40, .inl f10)), (g22, .inl (cy 0, 40, .inl f22)), (g23, .inl (cy 0, 12, .inl f23)), (g24, .inl (cy 0, 12, .inl f24))])) (va_Qv (fun (_ : Unit) => True) (fun (_ : Unit) (t : State) => ∃ (e22 : Nat → Int32), ∃ (e23 : Nat → Int32), ∃ (e24 : Nat → Int32), (rng e23 12 (0) (11)) ∧ (rng e24 12 (0) (11)) ∧ va_P D vwCl [(mo, .inr (12, [.int s0, .int s1, .long t2, .int s3, .int s4, .ref g5, .ref g6, .ref g7, .ref g8, .ref g9, .ref g10, .int s11, .ref g12, .ref g13, .ref g14, .ref g15, .ref g16, .ref g17, .ref g18, .ref g19, .ref g20, .int s21, .ref g22, .ref g23, .ref g24, .int s25, .int s26, .int s27, .int s28, .ref g29, .ref g30, .ref g31, .ref g32, .ref g33])), (g5, .inl (cy 0, 40, .inl f5)), (g6, .inl (cy 0, 40, .inl f6)), (g7, .inl (cy 0, 40, .inl f7)), (g8, .inl (cy 0, 40, .inl f8)), (g10, .inl (cy 2, 40, .inl f10)), (g22, .inl (cy 0, 40, .inl e22)), (g23, .inl (cy 0, 12, .inl e23)), (g24, .inl (cy 0, 12, .inl e24))] t.heap ∧ va_D (va_A [(mo, .inr (12, [.int s0, .int s1, .long t2, .int s3, .int s4, .ref g5, .ref g6, .ref g7, .ref g8, .ref g9, .ref g10, .int s11, .ref g12, .ref g13, .ref g14, .ref g15, .ref g16, .ref g17, .ref g18, .ref g19, .ref g20, .int s21, .ref g22, .ref g23, .ref g24, .int s25, .int s26, .int s27, .int s28, .ref g29, .ref g30, .ref g31, .ref g32, .ref g33])), (g5, .inl (cy 0, 40, .inl f5)), (g6, .inl (cy 0, 40, .inl f6)), (g7, .inl (cy 0, 40, .inl f7)), (g8, .inl (cy 0, 40, .inl f8)), (g10, .inl (cy 2, 40, .inl f10)), (g22, .inl (cy 0, 40, .inl f22)), (g23, .inl (cy 0, 12, .inl f23)), (g24, .inl (cy 0, 12, .inl f24))] sz) [(mo, .inr (12, [.int s0, .int s1, .long t2, .int s3, .int s4, .ref g5, .ref g6, .ref g7, .ref g8, .ref g9, .ref g10, .int s11, .ref g12, .ref g13, .ref g14, .ref g15, .ref g16, .ref g17, .ref g18, .ref g19, .ref g20, .int s21, .ref g22, .ref g23, .ref g24, .int s25, .int s26, .int s27, .int s28, .ref g29, .ref g30, .ref g31, .ref g32, .ref g33])), (g5, .inl (cy 0, 40, .inl f5)), (g6, .inl (cy 0, 40, .inl f6)), (g7, .inl (cy 0, 40, .inl f7)), (g8, .inl (cy 0, 40, .inl f8)), (g10, .inl (cy 2, 40, .inl f10)), (g22, .inl (cy 0, 40, .inl e22)), (g23, .inl (cy 0, 12, .inl e23)), (g24, .inl (cy 0, 12, .inl e24))]) (va_A [(mo, .inr (12, [.int s0, .int s1, .long t2, .int s3, .int s4, .ref g5, .ref g6, .ref g7, .ref g8, .ref g9, .ref g10, .int s11, .ref g12, .ref g13, .ref g14, .ref g15, .ref g16, .ref g17, .ref g18, .ref g19, .ref g20, .int s21, .ref g22, .ref g23, .ref g24, .int s25, .int s26, .int s27, .int s28, .ref g29, .ref g30, .ref g31, .ref g32, .ref g33])), (g5, .inl (cy 0, 40, .inl f5)), (g6, .inl (cy 0, 40, .inl f6)), (g7, .inl (cy 0, 40, .inl f7)), (g8, .inl (cy 0, 40, .inl f8)), (g10, .inl (cy 2, 40, .inl f10)), (g22, .inl (cy 0, 40, .inl f22)), (g23, .inl (cy 0, 12, .inl f23)), (g24, .inl (cy 0, 12, .inl f24))] sz)) 0 0 (va_A [(mo, .inr (12, [.int s0, .int s1, .long t2, .int s3, .int s4, .ref g5, .ref g6, .ref g7, .ref g8, .ref g9, .ref g10, .int s11, .ref g12, .ref g13, .ref g14, .ref g15, .ref g16, .ref g17, .ref g18, .ref g19, .ref g20, .int s21, .ref g22, .ref g23, .ref g24, .int s25, .int s26, .int s27, .int s28, .ref g29, .ref g30, .ref g31, .ref g32, .ref g33])), (g5, .inl (cy 0, 40, .inl f5)), (g6, .inl (cy 0, 40, .inl f6)), (g7, .inl (cy 0, 40, .inl f7)), (g8, .inl (cy 0, 40, .inl f8)), (g10, .inl (cy 2, 40, .inl f10)), (g22, .inl (cy 0, 40, .inl f22)), (g23, .inl (cy 0, 12, .inl f23)), (g24, .inl (cy 0, 12, .inl f24))] sz) := by
  refine ofQ (cc := cX12_flowOf) (maxL := 9) (ret := none) (by decide) rfl ?_
  intro p e s m args below meth c s₁ Q hQ B hml hv
  obtain ⟨rfl, hsz, hP, hK, hD0⟩ := hv
  have hx := B.exec
  have hb := B.bytes
  have hr := B.returns
  have hts := atoms_spec (ws := wsX12_flowOf) B.pre
  have hown : s.vm.findClass RX12 = some m.cls := by have h_ := findClass_of_methodNamed B.named; exact h_
  have hlocks := B.notSynchronized
  subst hsz
  have hD := hD0.self (sz := s.heap.size)
  generalize hAe : va_A [(mo, .inr (12, [.int s0, .int s1, .long t2, .int s3, .int s4, .ref g5, .ref g6, .ref g7, .ref g8, .ref g9, .ref g10, .int s11, .ref g12, .ref g13, .ref g14, .ref g15, .ref g16, .ref g17, .ref g18, .ref g19, .ref g20, .int s21, .ref g22, .ref g23, .ref g24, .int s25, .int s26, .int s27, .int s28, .ref g29, .ref g30, .ref g31, .ref g32, .ref g33])), (g5, .inl (cy 0, 40, .inl f5)), (g6, .inl (cy 0, 40, .inl f6)), (g7, .inl (cy 0, 40, .inl f7)), (g8, .inl (cy 0, 40, .inl f8)), (g10, .inl (cy 2, 40, .inl f10)), (g22, .inl (cy 0, 40, .inl f22)), (g23, .inl (cy 0, 12, .inl f23)), (g24, .inl (cy 0, 12, .inl f24))] s.heap.size = A at hD hQ
  have hA : ∀ q : Nat, s.heap.size ≤ q → A q := fun q h => by rw [← hAe]; exact Or.inr h
  have hS : va_S A s.heap s.heap [] := va_S.rf
  have hl := lv_entry ([.ref mo, .int a1, .int a2]) (n := 9) (Nat.le_of_ble_eq_true rfl)
  rw [lg_entry_eq]
  generalize (lg_sl ([.ref mo, .int a1, .int a2]) ++ List.replicate (9 - (lg_sl ([.ref mo, .int a1, .int a2])).length) Slot.unset).toArray = ls at hl ⊢
  have hl : lv_has ls 9 [(0, .ref mo), (1, .int a1), (2, .int a2)] := hl
  have z0 : (0 : Int32).toInt = 0 := by decide
  have z1 : (1 : Int32).toInt = 1 := by decide
  have z40 : (40 : Int32).toInt = 40 := by decide
  have z2147483647 : (2147483647 : Int32).toInt = 2147483647 := by decide
  have cN := clI (i := s4) (by omega)
  refine lv_iconst (v := 0) hx hb dX12_flowOf_0 (by decide) ?_
  refine lv_istore_n (lv' := [(3, .int 0), (0, .ref mo), (1, .int a1), (2, .int a2)]) hx hb dX12_flowOf_1 rfl hl (by decide) rfl (fun ls hl => ?_)
  suffices LOOP_1 : ∀ (n_1 : Nat) (x3_1 : Int32) (c_g22_1 : Nat → Int32) (H : Heap) (locs : List Loc) (ls : Array Slot), 40 - x3_1.toInt < (n_1 : Int) → (0 ≤ x3_1.toInt) → (x3_1.toInt ≤ 40) → (∀ j : Nat, (j : Int) < x3_1.toInt → (c_g22_1 j).toInt = 0) → va_P D vwCl [(mo, .inr (12, [.int s0, .int s1, .long t2, .int s3, .int s4, .ref g5, .ref g6, .ref g7, .ref g8, .ref g9, .ref g10, .int s11, .ref g12, .ref g13, .ref g14, .ref g15, .ref g16, .ref g17, .ref g18, .ref g19, .ref g20, .int s21, .ref g22, .ref g23, .ref g24, .int s25, .int s26, .int s27, .int s28, .ref g29, .ref g30, .ref g31, .ref g32, .ref g33])), (g5, .inl (cy 0, 40, .inl f5)), (g6, .inl (cy 0, 40, .inl f6)), (g7, .inl (cy 0, 40, .inl f7)), (g8, .inl (cy 0, 40, .inl f8)), (g10, .inl (cy 2, 40, .inl f10)), (g22, .inl (cy 0, 40, .inl c_g22_1)), (g23, .inl (cy 0, 12, .inl f23)), (g24, .inl (cy 0, 12, .inl f24))] H → va_D A [(mo, .inr (12, [.int s0, .int s1, .long t2, .int s3, .int s4, .ref g5, .ref g6, .ref g7, .ref g8, .ref g9, .ref g10, .int s11, .ref g12, .ref g13, .ref g14, .ref g15, .ref g16, .ref g17, .ref g18, .ref g19, .ref g20, .int s21, .ref g22, .ref g23, .ref g24, .int s25, .int s26, .int s27, .int s28, .ref g29, .ref g30, .ref g31, .ref g32, .ref g33])), (g5, .inl (cy 0, 40, .inl f5)), (g6, .inl (cy 0, 40, .inl f6)), (g7, .inl (cy 0, 40, .inl f7)), (g8, .inl (cy 0, 40, .inl f8)), (g10, .inl (cy 2, 40, .inl f10)), (g22, .inl (cy 0, 40, .inl c_g22_1)), (g23, .inl (cy 0, 12, .inl f23)), (g24, .inl (cy 0, 12, .inl f24))] → va_S A s.heap H locs → lv_has ls 9 [(3, .int x3_1), (0, .ref mo), (1, .int a1), (2, .int a2)] → W p l e ({ frames := 5, cells := 0, slots := 0, locals := 118 } : Room) s m (([.ref mo, .int a1, .int a2] : List Value).toArray) below meth c H locs 0 0 Q (F0 m 2 ls []) from LOOP_1 ((40 - (0 : Int32).toInt).toNat + 1) (0 : Int32) f22 _ _ _ (by omega) (by first | with_reducible assumption | omega | assumption) (by first | with_reducible assumption | omega | assumption) (by first | exact zero_st (by assumption) (by assumption) (by omega) (by omega) | (intro j hj; omega)) hP hD hS (lv_sub hl [0, 1, 2, 3] rfl)
  intro n_1
  induction n_1 with
  | zero =>
    intro x3_1 c_g22_1 H locs ls hm v0_1 v1_1 v2_1 hP hD hS hl
    exact absurd hm (by omega)
  | succ n_1 ih_1 =>
    intro x3_1 c_g22_1 H locs ls hm v0_1 v1_1 v2_1 hP hD hS hl
    refine lv_iload_n hx hb dX12_flowOf_2 rfl (lv_at hl 0 rfl) ?_
    refine lv_bipush (v := 40) hx hb dX12_flowOf_3 (by decide) ?_
    refine lv_icmp_ge (tgt := 21) hx hb dX12_flowOf_5 (by decide) (fun c_2 => ?_) (fun c_2 => ?_)
    · have t_2 : (40 : Int32).toInt ≤ x3_1.toInt := Int32.le_iff_toInt_le.mp c_2
      have hz_ : flOK f5 f8 c_g22_1 := flOK_zero r_f8 (fun j hj => v2_1 j (by omega))
      suffices LOOP_3 : ∀ (n_3 : Nat) (c_g22_3 : Nat → Int32) (c_g23_3 : Nat → Int32) (c_g24_3 : Nat → Int32) (H : Heap) (locs : List Loc) (ls : Array Slot), phi f5 f6 f7 f8 f10 c_g22_3 a1.toInt s4.toNatClampNeg < (n_3 : Int) → (flOK f5 f8 c_g22_3) → (0 ≤ phi f5 f6 f7 f8 f10 c_g22_3 a1.toInt s4.toNatClampNeg) → (rng c_g23_3 12 (0) (11)) → (rng c_g24_3 12 (0) (11)) → va_P D vwCl [(mo, .inr (12, [.int s0, .int s1, .long t2, .int s3, .int s4, .ref g5, .ref g6, .ref g7, .ref g8, .ref g9, .ref g10, .int s11, .ref g12, .ref g13, .ref g14, .ref g15, .ref g16, .ref g17, .ref g18, .ref g19, .ref g20, .int s21, .ref g22, .ref g23, .ref g24, .int s25, .int s26, .int s27, .int s28, .ref g29, .ref g30, .ref g31, .ref g32, .ref g33])), (g5, .inl (cy 0, 40, .inl f5)), (g6, .inl (cy 0, 40, .inl f6)), (g7, .inl (cy 0, 40, .inl f7)), (g8, .inl (cy 0, 40, .inl f8)), (g10, .inl (cy 2, 40, .inl f10)), (g22, .inl (cy 0, 40, .inl c_g22_3)), (g23, .inl (cy 0, 12, .inl c_g23_3)), (g24, .inl (cy 0, 12, .inl c_g24_3))] H → va_D A [(mo, .inr (12, [.int s0, .int s1, .long t2, .int s3, .int s4, .ref g5, .ref g6, .ref g7, .ref g8, .ref g9, .ref g10, .int s11, .ref g12, .ref g13, .ref g14, .ref g15, .ref g16, .ref g17, .ref g18, .ref g19, .ref g20, .int s21, .ref g22, .ref g23, .ref g24, .int s25, .int s26, .int s27, .int s28, .ref g29, .ref g30, .ref g31, .ref g32, .ref g33])), (g5, .inl (cy 0, 40, .inl f5)), (g6, .inl (cy 0, 40, .inl f6)), (g7, .inl (cy 0, 40, .inl f7)), (g8, .inl (cy 0, 40, .inl f8)), (g10, .inl (cy 2, 40, .inl f10)), (g22, .inl (cy 0, 40, .inl c_g22_3)), (g23, .inl (cy 0, 12, .inl c_g23_3)), (g24, .inl (cy 0, 12, .inl c_g24_3))] → va_S A s.heap H locs → lv_has ls 9 [(0, .ref mo), (1, .int a1), (2, .int a2)] → W p l e ({ frames := 5, cells := 0, slots := 0, locals := 118 } : Room) s m (([.ref mo, .int a1, .int a2] : List Value).toArray) below meth c H locs 0 0 Q (F0 m 21 ls []) from LOOP_3 ((phi f5 f6 f7 f8 f10 c_g22_1 a1.toInt s4.toNatClampNeg).toNat + 1) c_g22_1 f23 f24 _ _ _ (by omega) (by first | with_reducible assumption | assumption | omega) (phi_nonneg (by assumption) r_f8 (by omega)) (by first | with_reducible assumption | assumption | exact rng_zero (by omega) (by omega) | exact orng_zero) (by first | with_reducible assumption | assumption | exact rng_zero (by omega) (by omega) | exact orng_zero) hP hD hS (lv_sub hl [1, 2, 3] rfl)
      intro n_3
      induction n_3 with
      | zero =>
        intro c_g22_3 c_g23_3 c_g24_3 H locs ls hm v0_3 v1_3 rc_g23_3 rc_g24_3 hP hD hS hl
        exact absurd hm (by omega)
      | succ n_3 ih_3 =>
        intro c_g22_3 c_g23_3 c_g24_3 H locs ls hm v0_3 v1_3 rc_g23_3 rc_g24_3 hP hD hS hl
        refine lv_aload_n hx hb dX12_flowOf_21 rfl (lv_at hl 0 rfl) ?_
        refine lv_iload_n hx hb dX12_flowOf_22 rfl (lv_at hl 1 rfl) ?_
        refine lv_iload_n hx hb dX12_flowOf_23 rfl (lv_at hl 2 rfl) ?_
        refine ct_S hP hD hS hA [(mo, .inr (12, [.int s0, .int s1, .long t2, .int s3, .int s4, .ref g5, .ref g6, .ref g7, .ref g8, .ref g9, .ref g10, .int s11, .ref g12, .ref g13, .ref g14, .ref g15, .ref g16, .ref g17, .ref g18, .ref g19, .ref g20, .int s21, .ref g22, .ref g23, .ref g24, .int s25, .int s26, .int s27, .int s28, .ref g29, .ref g30, .ref g31, .ref g32, .ref g33])), (g5, .inl (cy 0, 40, .inl f5)), (g6, .inl (cy 0, 40, .inl f6)), (g7, .inl (cy 0, 40, .inl f7)), (g8, .inl (cy 0, 40, .inl f8)), (g10, .inl (cy 2, 40, .inl f10)), (g22, .inl (cy 0, 40, .inl c_g22_3)), (g23, .inl (cy 0, 12, .inl c_g23_3)), (g24, .inl (cy 0, 12, .inl c_g24_3))] [0, 1, 2, 3, 4, 5, 6, 7, 8] (by decide) rfl (fun hPc hDw hFc hC_ => ?_)
        refine va_calli (va_runV (As := [.int a1, .int a2]) (rest := []) ⟨hx, hb, hml, hown, hts⟩ (c_X12_hasWay l D cy H.size mo g5 g6 g7 g8 g9 g10 g12 g13 g14 g15 g16 g17 g18 g19 g20 g22 g23 g24 g29 g30 g31 g32 g33 s0 s1 s3 s4 s11 s21 s25 s26 s27 s28 t2 f5 f6 f7 f8 f10 c_g22_3 c_g23_3 c_g24_3 a1 a2 (by first | with_reducible assumption | omega | assumption) (by first | with_reducible assumption | omega | assumption) (by first | with_reducible assumption | omega | assumption) (by first | with_reducible assumption | assumption | omega) (by first | with_reducible assumption | omega | assumption) (by first | with_reducible assumption | omega | assumption) (by first | with_reducible assumption | assumption | omega) (by first | with_reducible assumption | assumption | omega) (by first | with_reducible assumption | assumption | omega)) (cwV 2 hts gX12_flowOf_X12_hasWay rfl rfl rfl (by decide +kernel) ⟨Nat.le_of_ble_eq_true rfl, Nat.le_of_ble_eq_true rfl⟩) ⟨bl_, va_recvX hK.1 hP (ci := 12) (q0 := 0) rfl rfl, fun U hU hW => ⟨rfl, by rw [hU], by rw [hU]; exact hPc, kk_mv hW hK, hDw⟩⟩ rfl rfl hl.1 rfl (lv_room (Nat.le_of_ble_eq_true rfl)) dX12_flowOf_24 ⟨Nat.le_of_ble_eq_true rfl, Nat.le_of_ble_eq_true rfl⟩) hS (fun q _ h => hFc q h) hFc (fun r_4 u t H locs ht hvm hw hB hz1 hk1 hS => ?_)
        obtain ⟨eu_, hw⟩ := hw
        subst eu_
        obtain ⟨e23_5, e24_6, g_7, g_8, g_9, hP1, hD1⟩ := hB
        rw [ht] at hP1
        obtain ⟨hP, hD⟩ := va_join (wr := []) (w1 := [(mo, .inr (12, [.int s0, .int s1, .long t2, .int s3, .int s4, .ref g5, .ref g6, .ref g7, .ref g8, .ref g9, .ref g10, .int s11, .ref g12, .ref g13, .ref g14, .ref g15, .ref g16, .ref g17, .ref g18, .ref g19, .ref g20, .int s21, .ref g22, .ref g23, .ref g24, .int s25, .int s26, .int s27, .int s28, .ref g29, .ref g30, .ref g31, .ref g32, .ref g33])), (g5, .inl (cy 0, 40, .inl f5)), (g6, .inl (cy 0, 40, .inl f6)), (g7, .inl (cy 0, 40, .inl f7)), (g8, .inl (cy 0, 40, .inl f8)), (g10, .inl (cy 2, 40, .inl f10)), (g22, .inl (cy 0, 40, .inl c_g22_3)), (g23, .inl (cy 0, 12, .inl e23_5)), (g24, .inl (cy 0, 12, .inl e24_6))]) hP hD [0, 1, 2, 3, 4, 5, 6, 7, 8] [] hC_ rfl (by decide) (by decide) hk1 hFc hP1 hD1
        refine pd_K [(mo, .inr (12, [.int s0, .int s1, .long t2, .int s3, .int s4, .ref g5, .ref g6, .ref g7, .ref g8, .ref g9, .ref g10, .int s11, .ref g12, .ref g13, .ref g14, .ref g15, .ref g16, .ref g17, .ref g18, .ref g19, .ref g20, .int s21, .ref g22, .ref g23, .ref g24, .int s25, .int s26, .int s27, .int s28, .ref g29, .ref g30, .ref g31, .ref g32, .ref g33])), (g5, .inl (cy 0, 40, .inl f5)), (g6, .inl (cy 0, 40, .inl f6)), (g7, .inl (cy 0, 40, .inl f7)), (g8, .inl (cy 0, 40, .inl f8)), (g10, .inl (cy 2, 40, .inl f10)), (g22, .inl (cy 0, 40, .inl c_g22_3)), (g23, .inl (cy 0, 12, .inl e23_5)), (g24, .inl (cy 0, 12, .inl e24_6))] hP hD (fun hP hD => ?_)
        rcases hw with ⟨w_10, e_⟩ | ⟨w_10, e_⟩
        · have e_ := e_.symm
          subst e_
          refine lv_if_eq (tgt := 260) hx hb dX12_flowOf_27 (by decide) (fun c_11 => ?_) (fun c_11 => ?_)
          · have _ := c_11
            rw [hQ]
            exact W.vret hx hb hr (fun t ht hW => ⟨⟨(), rfl, trivial, c_g22_3, e23_5, e24_6, (by first | with_reducible assumption | assumption | exact rng_zero (by omega) (by omega) | omega), (by first | with_reducible assumption | assumption | exact rng_zero (by omega) (by omega) | omega), by rw [ht]; exact hP, hD⟩, hS.F ht⟩) hS.2.2 dX12_flowOf_260
          · exact absurd c_11 (by decide)
        · have e_ := e_.symm
          subst e_
          refine lv_if_eq (tgt := 260) hx hb dX12_flowOf_27 (by decide) (fun c_12 => ?_) (fun c_12 => ?_)
          · exact absurd c_12 (by decide)
          · have _ := c_12
            obtain ⟨n_, hb_, ht_⟩ := g_7 rfl
            refine lv_ldc (v := 2147483647) hx hb hown (hts (.constant RX12 186 (2147483647)) (by decide +kernel)) dX12_flowOf_30 ?_
            refine lv_istore_n (lv' := [(3, .int 2147483647), (0, .ref mo), (1, .int a1), (2, .int a2)]) hx hb dX12_flowOf_32 rfl hl (by decide) rfl (fun ls hl => ?_)
            refine lv_iload_n hx hb dX12_flowOf_33 rfl (lv_at hl 3 rfl) ?_
            refine lv_istore (lv' := [(4, .int a2), (3, .int 2147483647), (0, .ref mo), (1, .int a1), (2, .int a2)]) hx hb dX12_flowOf_34 hl (by decide) rfl (fun ls hl => ?_)
            suffices LOOP_13 : ∀ (n_13 : Nat) (x4_13 : Int32) (x3_13 : Int32) (j_13 : Nat) (H : Heap) (locs : List Loc) (ls : Array Slot), (j_13 : Int) < (n_13 : Int) → (j_13 < n_ + 1) → (x4_13 = e23_5 j_13) → (0 < x3_13.toInt) → va_P D vwCl [(mo, .inr (12, [.int s0, .int s1, .long t2, .int s3, .int s4, .ref g5, .ref g6, .ref g7, .ref g8, .ref g9, .ref g10, .int s11, .ref g12, .ref g13, .ref g14, .ref g15, .ref g16, .ref g17, .ref g18, .ref g19, .ref g20, .int s21, .ref g22, .ref g23, .ref g24, .int s25, .int s26, .int s27, .int s28, .ref g29, .ref g30, .ref g31, .ref g32, .ref g33])), (g5, .inl (cy 0, 40, .inl f5)), (g6, .inl (cy 0, 40, .inl f6)), (g7, .inl (cy 0, 40, .inl f7)), (g8, .inl (cy 0, 40, .inl f8)), (g10, .inl (cy 2, 40, .inl f10)), (g22, .inl (cy 0, 40, .inl c_g22_3)), (g23, .inl (cy 0, 12, .inl e23_5)), (g24, .inl (cy 0, 12, .inl e24_6))] H → va_D A [(mo, .inr (12, [.int s0, .int s1, .long t2, .int s3, .int s4, .ref g5, .ref g6, .ref g7, .ref g8, .ref g9, .ref g10, .int s11, .ref g12, .ref g13, .ref g14, .ref g15, .ref g16, .ref g17, .ref g18, .ref g19, .ref g20, .int s21, .ref g22, .ref g23, .ref g24, .int s25, .int s26, .int s27, .int s28, .ref g29, .ref g30, .ref g31, .ref g32, .ref g33])), (g5, .inl (cy 0, 40, .inl f5)), (g6, .inl (cy 0, 40, .inl f6)), (g7, .inl (cy 0, 40, .inl f7)), (g8, .inl (cy 0, 40, .inl f8)), (g10, .inl (cy 2, 40, .inl f10)), (g22, .inl (cy 0, 40, .inl c_g22_3)), (g23, .inl (cy 0, 12, .inl e23_5)), (g24, .inl (cy 0, 12, .inl e24_6))] → va_S A s.heap H locs → lv_has ls 9 [(4, .int x4_13), (3, .int x3_13), (0, .ref mo), (1, .int a1), (2, .int a2)] → W p l e ({ frames := 5, cells := 0, slots := 0, locals := 118 } : Room) s m (([.ref mo, .int a1, .int a2] : List Value).toArray) below meth c H locs 0 0 Q (F0 m 36 ls []) from LOOP_13 ((((n_) : Int)).toNat + 1) a2 (2147483647 : Int32) n_ _ _ _ (by omega) (by first | with_reducible assumption | omega | assumption) (by first | with_reducible assumption | assumption | exact ht_.symm) (by first | with_reducible assumption | omega | assumption) hP hD hS (lv_sub hl [0, 1, 2, 3, 4] rfl)
            intro n_13
            induction n_13 with
            | zero =>
              intro x4_13 x3_13 j_13 H locs ls hm v0_13 v1_13 v2_13 hP hD hS hl
              exact absurd hm (by omega)
            | succ n_13 ih_13 =>
              intro x4_13 x3_13 j_13 H locs ls hm v0_13 v1_13 v2_13 hP hD hS hl
              refine lv_iload hx hb dX12_flowOf_36 (lv_at hl 0 rfl) ?_
              refine lv_iload_n hx hb dX12_flowOf_38 rfl (lv_at hl 3 rfl) ?_
              refine lv_icmp_eq (tgt := 82) hx hb dX12_flowOf_39 (by decide) (fun c_14 => ?_) (fun c_14 => ?_)
              · have t_14 : x4_13.toInt = a1.toInt := congrArg Int32.toInt c_14
                refine lv_iload_n hx hb dX12_flowOf_82 rfl (lv_at hl 4 rfl) ?_
                refine lv_istore (lv' := [(4, .int a2), (3, .int x3_13), (0, .ref mo), (1, .int a1), (2, .int a2)]) hx hb dX12_flowOf_83 hl (by decide) rfl (fun ls hl => ?_)
                suffices LOOP_15 : ∀ (n_15 : Nat) (x4_15 : Int32) (j2_15 : Nat) (c_g22_15 : Nat → Int32) (H : Heap) (locs : List Loc) (ls : Array Slot), (j2_15 : Int) < (n_15 : Int) → (j2_15 < n_ + 1) → (x4_15 = e23_5 j2_15) → (flOK f5 f8 c_g22_15) → (phi f5 f6 f7 f8 f10 c_g22_15 a1.toInt s4.toNatClampNeg ≤ phi f5 f6 f7 f8 f10 c_g22_3 a1.toInt s4.toNatClampNeg) → (x4_15.toInt = a1.toInt → phi f5 f6 f7 f8 f10 c_g22_15 a1.toInt s4.toNatClampNeg < phi f5 f6 f7 f8 f10 c_g22_3 a1.toInt s4.toNatClampNeg) → (x4_15.toInt ≠ a1.toInt → ∀ j : Nat, ((f6 j).toInt = a1.toInt ∨ (f7 j).toInt = a1.toInt) → c_g22_15 j = c_g22_3 j) → va_P D vwCl [(mo, .inr (12, [.int s0, .int s1, .long t2, .int s3, .int s4, .ref g5, .ref g6, .ref g7, .ref g8, .ref g9, .ref g10, .int s11, .ref g12, .ref g13, .ref g14, .ref g15, .ref g16, .ref g17, .ref g18, .ref g19, .ref g20, .int s21, .ref g22, .ref g23, .ref g24, .int s25, .int s26, .int s27, .int s28, .ref g29, .ref g30, .ref g31, .ref g32, .ref g33])), (g5, .inl (cy 0, 40, .inl f5)), (g6, .inl (cy 0, 40, .inl f6)), (g7, .inl (cy 0, 40, .inl f7)), (g8, .inl (cy 0, 40, .inl f8)), (g10, .inl (cy 2, 40, .inl f10)), (g22, .inl (cy 0, 40, .inl c_g22_15)), (g23, .inl (cy 0, 12, .inl e23_5)), (g24, .inl (cy 0, 12, .inl e24_6))] H → va_D A [(mo, .inr (12, [.int s0, .int s1, .long t2, .int s3, .int s4, .ref g5, .ref g6, .ref g7, .ref g8, .ref g9, .ref g10, .int s11, .ref g12, .ref g13, .ref g14, .ref g15, .ref g16, .ref g17, .ref g18, .ref g19, .ref g20, .int s21, .ref g22, .ref g23, .ref g24, .int s25, .int s26, .int s27, .int s28, .ref g29, .ref g30, .ref g31, .ref g32, .ref g33])), (g5, .inl (cy 0, 40, .inl f5)), (g6, .inl (cy 0, 40, .inl f6)), (g7, .inl (cy 0, 40, .inl f7)), (g8, .inl (cy 0, 40, .inl f8)), (g10, .inl (cy 2, 40, .inl f10)), (g22, .inl (cy 0, 40, .inl c_g22_15)), (g23, .inl (cy 0, 12, .inl e23_5)), (g24, .inl (cy 0, 12, .inl e24_6))] → va_S A s.heap H locs → lv_has ls 9 [(4, .int x4_15), (3, .int x3_13), (0, .ref mo), (1, .int a1), (2, .int a2)] → W p l e ({ frames := 5, cells := 0, slots := 0, locals := 118 } : Room) s m (([.ref mo, .int a1, .int a2] : List Value).toArray) below meth c H locs 0 0 Q (F0 m 85 ls []) from LOOP_15 ((((n_) : Int)).toNat + 1) a2 n_ c_g22_3 _ _ _ (by omega) (by first | with_reducible assumption | omega | assumption) (by first | with_reducible assumption | assumption | exact ht_.symm) (by first | with_reducible assumption | assumption | omega) (by first | with_reducible assumption | assumption | exact Int.le_refl _) (by first | with_reducible assumption | assumption | (intro h; omega)) (by first | with_reducible assumption | assumption | exact fun _ _ _ => rfl) hP hD hS (lv_sub hl [0, 1, 2, 3, 4] rfl)
                intro n_15
                induction n_15 with
                | zero =>
                  intro x4_15 j2_15 c_g22_15 H locs ls hm v0_15 v1_15 v2_15 v3_15 v4_15 v5_15 hP hD hS hl
                  exact absurd hm (by omega)
                | succ n_15 ih_15 =>
                  intro x4_15 j2_15 c_g22_15 H locs ls hm v0_15 v1_15 v2_15 v3_15 v4_15 v5_15 hP hD hS hl
                  refine lv_iload hx hb dX12_flowOf_85 (lv_at hl 0 rfl) ?_
                  refine lv_iload_n hx hb dX12_flowOf_87 rfl (lv_at hl 3 rfl) ?_
                  refine lv_icmp_eq (tgt := 257) hx hb dX12_flowOf_88 (by decide) (fun c_16 => ?_) (fun c_16 => ?_)
                  · have t_16 : x4_15.toInt = a1.toInt := congrArg Int32.toInt c_16
                    have hdec_ : phi f5 f6 f7 f8 f10 c_g22_15 a1.toInt s4.toNatClampNeg < phi f5 f6 f7 f8 f10 c_g22_3 a1.toInt s4.toNatClampNeg := v4_15 (by omega)
                    refine lv_goto (tgt := 21) hx hb dX12_flowOf_257 (by decide) ?_
                    exact ih_3 c_g22_15 e23_5 e24_6 _ _ _ (by omega) (by first | with_reducible assumption | assumption | omega) (phi_nonneg (by assumption) r_f8 (by omega)) (by first | with_reducible assumption | assumption | exact rng_zero (by omega) (by omega) | exact orng_zero) (by first | with_reducible assumption | assumption | exact rng_zero (by omega) (by omega) | exact orng_zero) hP hD hS (lv_sub hl [2, 3, 4] rfl)
                  · have t_16 : ¬ x4_15.toInt = a1.toInt := fun h => c_16 (Int32.toInt_inj.mp h)
                    have hj2_ : 1 ≤ j2_15 := Nat.pos_of_ne_zero (fun e0 => c_16 (by rw [v1_15, e0]; exact hb_.2.2.1))
                    obtain ⟨i2_, hi2_, hc2_, hl2_⟩ := hb_.2.2.2 j2_15 hj2_ v0_15
                    have hy2_ := hb_.1 j2_15 v0_15
                    have ey5_ : x4_15.toInt = (e23_5 j2_15).toInt := by rw [v1_15]
                    refine lv_aload_n hx hb dX12_flowOf_91 rfl (lv_at hl 2 rfl) ?_
                    refine va_get (ci := 12) (v := .ref g24) (C := RX12) (T := TX12) (N := 34) hx hb hts (fun _ h => List.mem_cons_of_mem _ (List.mem_append_right _ h)) hown hK.1 hP 0 rfl rfl 24 (by decide) (hts (.fieldLink RX12 67 "CutAtlasModel" "cameFrom" "[I") (by decide +kernel)) (fun _ h9 => h9) rfl dX12_flowOf_92 ?_
                    refine lv_iload hx hb dX12_flowOf_95 (lv_at hl 0 rfl) ?_
                    have h_17 : vp_in x4_15 12 := in_I (by omega) (by omega)
                    refine va_iald hx hb hK.1 hP 8 0 rfl rfl (i := x4_15) h_17 dX12_flowOf_97 ?_
                    refine lv_topi (fun y_18 ey_18 => ?_)
                    have ky_18 : y_18.toInt = (e24_6 x4_15.toNatClampNeg).toInt := by rw [ey_18]
                    have ry_18 : 0 ≤ y_18.toInt ∧ y_18.toInt ≤ 11 := by rw [ey_18]; exact g_9 _ (in_lt h_17)
                    have hv2_ : y_18 = e23_5 i2_ := by rw [ey_18, v1_15]; exact hc2_
                    refine lv_istore (lv' := [(5, .int y_18), (4, .int x4_15), (3, .int x3_13), (0, .ref mo), (1, .int a1), (2, .int a2)]) hx hb dX12_flowOf_98 hl (by decide) rfl (fun ls hl => ?_)
                    refine lv_iload_n hx hb dX12_flowOf_100 rfl (lv_at hl 2 rfl) ?_
                    refine lv_istore (lv' := [(6, .int x3_13), (5, .int y_18), (4, .int x4_15), (3, .int x3_13), (0, .ref mo), (1, .int a1), (2, .int a2)]) hx hb dX12_flowOf_101 hl (by decide) rfl (fun ls hl => ?_)
                    have hs_ : 0 < sumI (lfI f5 f6 f7 f8 f10 c_g22_3 y_18.toInt x4_15.toInt) s4.toNatClampNeg := by rw [hv2_, v1_15]; exact hl2_
                    refine lv_iconst (v := 0) hx hb dX12_flowOf_103 (by decide) ?_
                    refine lv_istore (lv' := [(7, .int 0), (6, .int x3_13), (5, .int y_18), (4, .int x4_15), (3, .int x3_13), (0, .ref mo), (1, .int a1), (2, .int a2)]) hx hb dX12_flowOf_104 hl (by decide) rfl (fun ls hl => ?_)
                    suffices LOOP_19 : ∀ (n_19 : Nat) (x7_19 : Int32) (x6_19 : Int32) (c_g22_19 : Nat → Int32) (H : Heap) (locs : List Loc) (ls : Array Slot), s4.toInt - x7_19.toInt < (n_19 : Int) → (0 ≤ x7_19.toInt) → (x7_19.toInt ≤ s4.toInt) → (flOK f5 f8 c_g22_19) → (0 ≤ x6_19.toInt ∧ x6_19.toInt ≤ x3_13.toInt) → (y_18.toInt = a1.toInt → phi f5 f6 f7 f8 f10 c_g22_19 a1.toInt s4.toNatClampNeg = phi f5 f6 f7 f8 f10 c_g22_15 a1.toInt s4.toNatClampNeg - (x3_13.toInt - x6_19.toInt)) → (y_18.toInt ≠ a1.toInt → ∀ j : Nat, ((f6 j).toInt = a1.toInt ∨ (f7 j).toInt = a1.toInt) → c_g22_19 j = c_g22_15 j) → (x6_19.toInt = x3_13.toInt → (∀ j : Nat, (j : Int) < x7_19.toInt → lfI f5 f6 f7 f8 f10 c_g22_15 y_18.toInt x4_15.toInt j ≤ 0) ∧ ∀ j : Nat, c_g22_19 j = c_g22_15 j) → va_P D vwCl [(mo, .inr (12, [.int s0, .int s1, .long t2, .int s3, .int s4, .ref g5, .ref g6, .ref g7, .ref g8, .ref g9, .ref g10, .int s11, .ref g12, .ref g13, .ref g14, .ref g15, .ref g16, .ref g17, .ref g18, .ref g19, .ref g20, .int s21, .ref g22, .ref g23, .ref g24, .int s25, .int s26, .int s27, .int s28, .ref g29, .ref g30, .ref g31, .ref g32, .ref g33])), (g5, .inl (cy 0, 40, .inl f5)), (g6, .inl (cy 0, 40, .inl f6)), (g7, .inl (cy 0, 40, .inl f7)), (g8, .inl (cy 0, 40, .inl f8)), (g10, .inl (cy 2, 40, .inl f10)), (g22, .inl (cy 0, 40, .inl c_g22_19)), (g23, .inl (cy 0, 12, .inl e23_5)), (g24, .inl (cy 0, 12, .inl e24_6))] H → va_D A [(mo, .inr (12, [.int s0, .int s1, .long t2, .int s3, .int s4, .ref g5, .ref g6, .ref g7, .ref g8, .ref g9, .ref g10, .int s11, .ref g12, .ref g13, .ref g14, .ref g15, .ref g16, .ref g17, .ref g18, .ref g19, .ref g20, .int s21, .ref g22, .ref g23, .ref g24, .int s25, .int s26, .int s27, .int s28, .ref g29, .ref g30, .ref g31, .ref g32, .ref g33])), (g5, .inl (cy 0, 40, .inl f5)), (g6, .inl (cy 0, 40, .inl f6)), (g7, .inl (cy 0, 40, .inl f7)), (g8, .inl (cy 0, 40, .inl f8)), (g10, .inl (cy 2, 40, .inl f10)), (g22, .inl (cy 0, 40, .inl c_g22_19)), (g23, .inl (cy 0, 12, .inl e23_5)), (g24, .inl (cy 0, 12, .inl e24_6))] → va_S A s.heap H locs → lv_has ls 9 [(7, .int x7_19), (6, .int x6_19), (5, .int y_18), (4, .int x4_15), (3, .int x3_13), (0, .ref mo), (1, .int a1), (2, .int a2)] → W p l e ({ frames := 5, cells := 0, slots := 0, locals := 118 } : Room) s m (([.ref mo, .int a1, .int a2] : List Value).toArray) below meth c H locs 0 0 Q (F0 m 106 ls []) from LOOP_19 ((s4.toInt - (0 : Int32).toInt).toNat + 1) (0 : Int32) x3_13 c_g22_15 _ _ _ (by omega) (by first | with_reducible assumption | omega | assumption) (by first | with_reducible assumption | omega | assumption) (by first | with_reducible assumption | assumption | omega) (by first | with_reducible assumption | omega | assumption) (by first | with_reducible assumption | assumption | (intro h; omega)) (by first | with_reducible assumption | assumption | exact fun _ _ _ => rfl) (by first | with_reducible assumption | assumption | exact fun _ => ⟨fun j hj => by omega, fun _ => rfl⟩) hP hD hS (lv_sub hl [0, 1, 2, 3, 4, 5, 6, 7] rfl)
                    intro n_19
                    induction n_19 with
                    | zero =>
                      intro x7_19 x6_19 c_g22_19 H locs ls hm v0_19 v1_19 v2_19 v3_19 v4_19 v5_19 v6_19 hP hD hS hl
                      exact absurd hm (by omega)
                    | succ n_19 ih_19 =>
                      intro x7_19 x6_19 c_g22_19 H locs ls hm v0_19 v1_19 v2_19 v3_19 v4_19 v5_19 v6_19 hP hD hS hl
                      refine lv_iload hx hb dX12_flowOf_106 (lv_at hl 0 rfl) ?_
                      refine lv_aload_n hx hb dX12_flowOf_108 rfl (lv_at hl 5 rfl) ?_
                      refine va_get (ci := 12) (v := .int s4) (C := RX12) (T := TX12) (N := 34) hx hb hts (fun _ h => List.mem_cons_of_mem _ (List.mem_append_right _ h)) hown hK.1 hP 0 rfl rfl 4 (by decide) (hts (.fieldLink RX12 95 "CutAtlasModel" "lines" "I") (by decide +kernel)) (fun _ h9 => h9) rfl dX12_flowOf_109 ?_
                      refine lv_icmp_ge (tgt := 245) hx hb dX12_flowOf_112 (by decide) (fun c_20 => ?_) (fun c_20 => ?_)
                      · have t_20 : s4.toInt ≤ x7_19.toInt := Int32.le_iff_toInt_le.mp c_20
                        have hlt_ : y_18.toInt = a1.toInt → x6_19.toInt < x3_13.toInt := fun h => by first | omega | exact endL v6_19 (by omega) (by omega) hs_ (v5_15 (by omega)) h (by omega)
                        have o3_ : phi f5 f6 f7 f8 f10 c_g22_19 a1.toInt s4.toNatClampNeg ≤ phi f5 f6 f7 f8 f10 c_g22_3 a1.toInt s4.toNatClampNeg := (Classical.em (y_18.toInt = a1.toInt)).elim (fun h => by have a := v4_19 h; omega) (fun h => by have a := phi_same (f5 := f5) (f8 := f8) (f10 := f10) (n := s4.toNatClampNeg) (v5_19 h); omega)
                        have o4_ : y_18.toInt = a1.toInt → phi f5 f6 f7 f8 f10 c_g22_19 a1.toInt s4.toNatClampNeg < phi f5 f6 f7 f8 f10 c_g22_3 a1.toInt s4.toNatClampNeg := fun h => by have a := v4_19 h; have b := hlt_ h; omega
                        have o5_ : y_18.toInt ≠ a1.toInt → ∀ j : Nat, ((f6 j).toInt = a1.toInt ∨ (f7 j).toInt = a1.toInt) → c_g22_19 j = c_g22_3 j := fun h j hj => (v5_19 h j hj).trans (v5_15 (by omega) j hj)
                        refine lv_aload_n hx hb dX12_flowOf_245 rfl (lv_at hl 5 rfl) ?_
                        refine va_get (ci := 12) (v := .ref g24) (C := RX12) (T := TX12) (N := 34) hx hb hts (fun _ h => List.mem_cons_of_mem _ (List.mem_append_right _ h)) hown hK.1 hP 0 rfl rfl 24 (by decide) (hts (.fieldLink RX12 67 "CutAtlasModel" "cameFrom" "[I") (by decide +kernel)) (fun _ h9 => h9) rfl dX12_flowOf_246 ?_
                        refine lv_iload hx hb dX12_flowOf_249 (lv_at hl 3 rfl) ?_
                        have h_21 : vp_in x4_15 12 := in_I (by omega) (by omega)
                        refine va_iald hx hb hK.1 hP 8 0 rfl rfl (i := x4_15) h_21 dX12_flowOf_251 ?_
                        refine lv_topi (fun y_22 ey_22 => ?_)
                        have ky_22 : y_22.toInt = (e24_6 x4_15.toNatClampNeg).toInt := by rw [ey_22]
                        have ry_22 : 0 ≤ y_22.toInt ∧ y_22.toInt ≤ 11 := by rw [ey_22]; exact g_9 _ (in_lt h_21)
                        have ex_ : y_18 = y_22 := by rw [ey_22, ey_18]
                        subst ex_
                        refine lv_istore (lv' := [(4, .int y_18), (7, .int x7_19), (6, .int x6_19), (5, .int y_18), (3, .int x3_13), (0, .ref mo), (1, .int a1), (2, .int a2)]) hx hb dX12_flowOf_252 hl (by decide) rfl (fun ls hl => ?_)
                        refine lv_goto (tgt := 85) hx hb dX12_flowOf_254 (by decide) ?_
                        exact ih_15 y_18 i2_ c_g22_19 _ _ _ (by omega) (by first | with_reducible assumption | omega | assumption) (by first | with_reducible assumption | assumption | exact ht_.symm) (by first | with_reducible assumption | assumption | omega) (by first | with_reducible assumption | assumption | exact Int.le_refl _) (by first | with_reducible assumption | assumption | (intro h; omega)) (by first | with_reducible assumption | assumption | exact fun _ _ _ => rfl) hP hD hS (lv_sub hl [0, 4, 5, 6, 7] rfl)
                      · have t_20 : ¬ s4.toInt ≤ x7_19.toInt := fun h => c_20 (Int32.le_iff_toInt_le.mpr h)
                        refine lv_iload hx hb dX12_flowOf_115 (lv_at hl 1 rfl) ?_
                        refine lv_if_le (tgt := 245) hx hb dX12_flowOf_117 (by decide) (fun c_23 => ?_) (fun c_23 => ?_)
                        · have t_23 : x6_19.toInt ≤ (0 : Int32).toInt := Int32.le_iff_toInt_le.mp c_23
                          have hlt_ : y_18.toInt = a1.toInt → x6_19.toInt < x3_13.toInt := fun h => by first | omega | exact endL v6_19 (by omega) (by omega) hs_ (v5_15 (by omega)) h (by omega)
                          have o3_ : phi f5 f6 f7 f8 f10 c_g22_19 a1.toInt s4.toNatClampNeg ≤ phi f5 f6 f7 f8 f10 c_g22_3 a1.toInt s4.toNatClampNeg := (Classical.em (y_18.toInt = a1.toInt)).elim (fun h => by have a := v4_19 h; omega) (fun h => by have a := phi_same (f5 := f5) (f8 := f8) (f10 := f10) (n := s4.toNatClampNeg) (v5_19 h); omega)
                          have o4_ : y_18.toInt = a1.toInt → phi f5 f6 f7 f8 f10 c_g22_19 a1.toInt s4.toNatClampNeg < phi f5 f6 f7 f8 f10 c_g22_3 a1.toInt s4.toNatClampNeg := fun h => by have a := v4_19 h; have b := hlt_ h; omega
                          have o5_ : y_18.toInt ≠ a1.toInt → ∀ j : Nat, ((f6 j).toInt = a1.toInt ∨ (f7 j).toInt = a1.toInt) → c_g22_19 j = c_g22_3 j := fun h j hj => (v5_19 h j hj).trans (v5_15 (by omega) j hj)
                          refine lv_aload_n hx hb dX12_flowOf_245 rfl (lv_at hl 5 rfl) ?_
                          refine va_get (ci := 12) (v := .ref g24) (C := RX12) (T := TX12) (N := 34) hx hb hts (fun _ h => List.mem_cons_of_mem _ (List.mem_append_right _ h)) hown hK.1 hP 0 rfl rfl 24 (by decide) (hts (.fieldLink RX12 67 "CutAtlasModel" "cameFrom" "[I") (by decide +kernel)) (fun _ h9 => h9) rfl dX12_flowOf_246 ?_
                          refine lv_iload hx hb dX12_flowOf_249 (lv_at hl 3 rfl) ?_
                          have h_24 : vp_in x4_15 12 := in_I (by omega) (by omega)
                          refine va_iald hx hb hK.1 hP 8 0 rfl rfl (i := x4_15) h_24 dX12_flowOf_251 ?_
                          refine lv_topi (fun y_25 ey_25 => ?_)
                          have ky_25 : y_25.toInt = (e24_6 x4_15.toNatClampNeg).toInt := by rw [ey_25]
                          have ry_25 : 0 ≤ y_25.toInt ∧ y_25.toInt ≤ 11 := by rw [ey_25]; exact g_9 _ (in_lt h_24)
                          have ex_ : y_18 = y_25 := by rw [ey_25, ey_18]
                          subst ex_
                          refine lv_istore (lv' := [(4, .int y_18), (7, .int x7_19), (6, .int x6_19), (5, .int y_18), (3, .int x3_13), (0, .ref mo), (1, .int a1), (2, .int a2)]) hx hb dX12_flowOf_252 hl (by decide) rfl (fun ls hl => ?_)
                          refine lv_goto (tgt := 85) hx hb dX12_flowOf_254 (by decide) ?_
                          exact ih_15 y_18 i2_ c_g22_19 _ _ _ (by omega) (by first | with_reducible assumption | omega | assumption) (by first | with_reducible assumption | assumption | exact ht_.symm) (by first | with_reducible assumption | assumption | omega) (by first | with_reducible assumption | assumption | exact Int.le_refl _) (by first | with_reducible assumption | assumption | (intro h; omega)) (by first | with_reducible assumption | assumption | exact fun _ _ _ => rfl) hP hD hS (lv_sub hl [0, 4, 5, 6, 7] rfl)
                        · have t_23 : ¬ x6_19.toInt ≤ (0 : Int32).toInt := fun h => c_23 (Int32.le_iff_toInt_le.mpr h)
                          refine lv_aload_n hx hb dX12_flowOf_120 rfl (lv_at hl 5 rfl) ?_
                          refine lv_iload hx hb dX12_flowOf_121 (lv_at hl 0 rfl) ?_
                          refine lv_iload hx hb dX12_flowOf_123 (lv_at hl 2 rfl) ?_
                          refine lv_iload hx hb dX12_flowOf_125 (lv_at hl 3 rfl) ?_
                          refine ct_R hP hD [(mo, .inr (12, [.int s0, .int s1, .long t2, .int s3, .int s4, .ref g5, .ref g6, .ref g7, .ref g8, .ref g9, .ref g10, .int s11, .ref g12, .ref g13, .ref g14, .ref g15, .ref g16, .ref g17, .ref g18, .ref g19, .ref g20, .int s21, .ref g22, .ref g23, .ref g24, .int s25, .int s26, .int s27, .int s28, .ref g29, .ref g30, .ref g31, .ref g32, .ref g33])), (g5, .inl (cy 0, 40, .inl f5)), (g6, .inl (cy 0, 40, .inl f6)), (g7, .inl (cy 0, 40, .inl f7)), (g8, .inl (cy 0, 40, .inl f8)), (g10, .inl (cy 2, 40, .inl f10)), (g22, .inl (cy 0, 40, .inl c_g22_19))] [0, 1, 2, 3, 4, 5, 6] (by decide) rfl (fun hPc hDw => ?_)
                          have hFc := va_free (wc := []) hD hS hA [] rfl
                          refine va_calli (va_runV (As := [.int x7_19, .int y_18, .int x4_15]) (rest := []) ⟨hx, hb, hml, hown, hts⟩ (c_X12_left l D cy H.size mo g5 g6 g7 g8 g9 g10 g12 g13 g14 g15 g16 g17 g18 g19 g20 g22 g23 g24 g29 g30 g31 g32 g33 s0 s1 s3 s4 s11 s21 s25 s26 s27 s28 t2 f5 f6 f7 f8 f10 c_g22_19 x7_19 y_18 x4_15 (by first | with_reducible assumption | omega | assumption) (by first | with_reducible assumption | omega | assumption) (by first | with_reducible assumption | assumption | omega) (by first | with_reducible assumption | assumption | omega)) (cwV 3 hts gX12_flowOf_X12_left rfl rfl rfl (by decide +kernel) ⟨Nat.le_of_ble_eq_true rfl, Nat.le_of_ble_eq_true rfl⟩) ⟨bl_, va_recvX hK.1 hP (ci := 12) (q0 := 0) rfl rfl, fun U hU hW => ⟨rfl, by rw [hU], by rw [hU]; exact hPc, kk_mv hW hK, hDw⟩⟩ rfl rfl hl.1 rfl (lv_room (Nat.le_of_ble_eq_true rfl)) dX12_flowOf_127 ⟨Nat.le_of_ble_eq_true rfl, Nat.le_of_ble_eq_true rfl⟩) hS (fun q _ h => hFc q h) hFc (fun r_26 u t H locs ht hvm hw hB hz1 hk1 hS => ?_)
                          have hP : va_P D vwCl _ H := ro_keep hP hk1
                          have f0_r_26 := hw
                          have hlf_ := f0_r_26
                          have hlr_ := lfI_rng (f6 := f6) (f7 := f7) (f10 := f10) v2_19 r_f8 (j := x7_19.toNatClampNeg) (in_lt (in_I (i := x7_19) (n := 40) (by omega) (by omega))) y_18.toInt x4_15.toInt
                          refine lv_istore (lv' := [(8, .int r_26), (7, .int x7_19), (6, .int x6_19), (5, .int y_18), (4, .int x4_15), (3, .int x3_13), (0, .ref mo), (1, .int a1), (2, .int a2)]) hx hb dX12_flowOf_130 hl (by decide) rfl (fun ls hl => ?_)
                          have JOIN_27 : ∀ (u0_27 : Int32) (H : Heap) (locs : List Loc) (ls : Array Slot), (0 ≤ u0_27.toInt ∧ u0_27.toInt ≤ lfI f5 f6 f7 f8 f10 c_g22_19 y_18.toInt x4_15.toInt x7_19.toNatClampNeg ∧ u0_27.toInt ≤ x6_19.toInt ∧ (u0_27.toInt = lfI f5 f6 f7 f8 f10 c_g22_19 y_18.toInt x4_15.toInt x7_19.toNatClampNeg ∨ u0_27.toInt = x6_19.toInt)) → va_P D vwCl [(mo, .inr (12, [.int s0, .int s1, .long t2, .int s3, .int s4, .ref g5, .ref g6, .ref g7, .ref g8, .ref g9, .ref g10, .int s11, .ref g12, .ref g13, .ref g14, .ref g15, .ref g16, .ref g17, .ref g18, .ref g19, .ref g20, .int s21, .ref g22, .ref g23, .ref g24, .int s25, .int s26, .int s27, .int s28, .ref g29, .ref g30, .ref g31, .ref g32, .ref g33])), (g5, .inl (cy 0, 40, .inl f5)), (g6, .inl (cy 0, 40, .inl f6)), (g7, .inl (cy 0, 40, .inl f7)), (g8, .inl (cy 0, 40, .inl f8)), (g10, .inl (cy 2, 40, .inl f10)), (g22, .inl (cy 0, 40, .inl c_g22_19)), (g23, .inl (cy 0, 12, .inl e23_5)), (g24, .inl (cy 0, 12, .inl e24_6))] H → va_D A [(mo, .inr (12, [.int s0, .int s1, .long t2, .int s3, .int s4, .ref g5, .ref g6, .ref g7, .ref g8, .ref g9, .ref g10, .int s11, .ref g12, .ref g13, .ref g14, .ref g15, .ref g16, .ref g17, .ref g18, .ref g19, .ref g20, .int s21, .ref g22, .ref g23, .ref g24, .int s25, .int s26, .int s27, .int s28, .ref g29, .ref g30, .ref g31, .ref g32, .ref g33])), (g5, .inl (cy 0, 40, .inl f5)), (g6, .inl (cy 0, 40, .inl f6)), (g7, .inl (cy 0, 40, .inl f7)), (g8, .inl (cy 0, 40, .inl f8)), (g10, .inl (cy 2, 40, .inl f10)), (g22, .inl (cy 0, 40, .inl c_g22_19)), (g23, .inl (cy 0, 12, .inl e23_5)), (g24, .inl (cy 0, 12, .inl e24_6))] → va_S A s.heap H locs → lv_has ls 9 [(8, .int r_26), (7, .int x7_19), (6, .int x6_19), (5, .int y_18), (4, .int x4_15), (3, .int x3_13), (0, .ref mo), (1, .int a1), (2, .int a2)] → W p l e ({ frames := 5, cells := 0, slots := 0, locals := 118 } : Room) s m (([.ref mo, .int a1, .int a2] : List Value).toArray) below meth c H locs 0 0 Q (F0 m 146 ls [.int u0_27]) := by
                            intro u0_27 H locs ls v0_27 hP hD hS hl
                            refine lv_istore (lv' := [(8, .int u0_27), (7, .int x7_19), (6, .int x6_19), (5, .int y_18), (4, .int x4_15), (3, .int x3_13), (0, .ref mo), (1, .int a1), (2, .int a2)]) hx hb dX12_flowOf_146 hl (by decide) rfl (fun ls hl => ?_)
                            have hb6_ := Int32.toInt_lt x6_19
                            have hfb_ := v2_19 _ (in_lt (in_I (i := x7_19) (n := 40) (by omega) (by omega)))
                            have hw8_ := r_f8 _ (in_lt (in_I (i := x7_19) (n := 40) (by omega) (by omega)))
                            have w1_ := rmI_rng (k := f5 x7_19.toNatClampNeg) (b := 1) hw8_.1 hw8_.2
                            have w0_ := rmI_rng (k := f5 x7_19.toNatClampNeg) (b := 0) hw8_.1 hw8_.2
                            refine lv_aload_n hx hb dX12_flowOf_148 rfl (lv_at hl 6 rfl) ?_
                            refine va_get (ci := 12) (v := .ref g22) (C := RX12) (T := TX12) (N := 34) hx hb hts (fun _ h => List.mem_cons_of_mem _ (List.mem_append_right _ h)) hown hK.1 hP 0 rfl rfl 22 (by decide) (hts (.fieldLink RX12 61 "CutAtlasModel" "flows" "[I") (by decide +kernel)) (fun _ h9 => h9) rfl dX12_flowOf_149 ?_
                            refine lv_iload hx hb dX12_flowOf_152 (lv_at hl 1 rfl) ?_
                            refine lv_dup2_11 hx hb dX12_flowOf_154 rfl rfl ?_
                            have h_28 : vp_in x7_19 40 := in_I (by omega) (by omega)
                            refine va_iald hx hb hK.1 hP 6 0 rfl rfl (i := x7_19) h_28 dX12_flowOf_155 ?_
                            refine lv_topi (fun y_29 ey_29 => ?_)
                            have ky_29 : y_29.toInt = (c_g22_19 x7_19.toNatClampNeg).toInt := by rw [ey_29]
                            have JOIN_30 : ∀ (u0_30 : Int32) (H : Heap) (locs : List Loc) (ls : Array Slot), (u0_30.toInt = (if (f10 x7_19.toNatClampNeg).toInt ≠ 0 then 0 else if (f6 x7_19.toNatClampNeg).toInt = y_18.toInt ∧ (f7 x7_19.toNatClampNeg).toInt = x4_15.toInt then u0_27.toInt else if (f6 x7_19.toNatClampNeg).toInt = x4_15.toInt ∧ (f7 x7_19.toNatClampNeg).toInt = y_18.toInt then -u0_27.toInt else 0)) → va_P D vwCl [(mo, .inr (12, [.int s0, .int s1, .long t2, .int s3, .int s4, .ref g5, .ref g6, .ref g7, .ref g8, .ref g9, .ref g10, .int s11, .ref g12, .ref g13, .ref g14, .ref g15, .ref g16, .ref g17, .ref g18, .ref g19, .ref g20, .int s21, .ref g22, .ref g23, .ref g24, .int s25, .int s26, .int s27, .int s28, .ref g29, .ref g30, .ref g31, .ref g32, .ref g33])), (g5, .inl (cy 0, 40, .inl f5)), (g6, .inl (cy 0, 40, .inl f6)), (g7, .inl (cy 0, 40, .inl f7)), (g8, .inl (cy 0, 40, .inl f8)), (g10, .inl (cy 2, 40, .inl f10)), (g22, .inl (cy 0, 40, .inl c_g22_19)), (g23, .inl (cy 0, 12, .inl e23_5)), (g24, .inl (cy 0, 12, .inl e24_6))] H → va_D A [(mo, .inr (12, [.int s0, .int s1, .long t2, .int s3, .int s4, .ref g5, .ref g6, .ref g7, .ref g8, .ref g9, .ref g10, .int s11, .ref g12, .ref g13, .ref g14, .ref g15, .ref g16, .ref g17, .ref g18, .ref g19, .ref g20, .int s21, .ref g22, .ref g23, .ref g24, .int s25, .int s26, .int s27, .int s28, .ref g29, .ref g30, .ref g31, .ref g32, .ref g33])), (g5, .inl (cy 0, 40, .inl f5)), (g6, .inl (cy 0, 40, .inl f6)), (g7, .inl (cy 0, 40, .inl f7)), (g8, .inl (cy 0, 40, .inl f8)), (g10, .inl (cy 2, 40, .inl f10)), (g22, .inl (cy 0, 40, .inl c_g22_19)), (g23, .inl (cy 0, 12, .inl e23_5)), (g24, .inl (cy 0, 12, .inl e24_6))] → va_S A s.heap H locs → lv_has ls 9 [(8, .int u0_27), (7, .int x7_19), (6, .int x6_19), (5, .int y_18), (4, .int x4_15), (3, .int x3_13), (0, .ref mo), (1, .int a1), (2, .int a2)] → W p l e ({ frames := 5, cells := 0, slots := 0, locals := 118 } : Room) s m (([.ref mo, .int a1, .int a2] : List Value).toArray) below meth c H locs 0 0 Q (F0 m 230 ls [.int u0_30, .int y_29, .int x7_19, .ref g22]) := by
                              intro u0_30 H locs ls v0_30 hP hD hS hl
                              have hu_ : -2000000 ≤ u0_30.toInt ∧ u0_30.toInt ≤ 2000000 := by rw [v0_30]; (repeat' split) <;> omega
                              refine lv_iadd hx hb dX12_flowOf_230 ?_
                              refine lv_topi (fun y_31 ey_31 => ?_)
                              have ty_31 : y_31.toInt = y_29.toInt + u0_30.toInt := by rw [ey_31]; exact addI (by omega) (by omega)
                              have h_32 : vp_in x7_19 40 := in_I (by omega) (by omega)
                              refine va_iast hx hb hK.1 hP hD hS 6 0 rfl rfl (i := x7_19) h_32 dX12_flowOf_231 (fun H locs hP hD hS => ?_)
                              obtain ⟨f_33, ef_33⟩ : ∃ g : Nat → Int32, g = upd c_g22_19 x7_19.toNatClampNeg y_31 := ⟨_, rfl⟩
                              refine pd_K (D := D) (cl := vwCl) (H := H) (A := A) [(mo, .inr (12, [.int s0, .int s1, .long t2, .int s3, .int s4, .ref g5, .ref g6, .ref g7, .ref g8, .ref g9, .ref g10, .int s11, .ref g12, .ref g13, .ref g14, .ref g15, .ref g16, .ref g17, .ref g18, .ref g19, .ref g20, .int s21, .ref g22, .ref g23, .ref g24, .int s25, .int s26, .int s27, .int s28, .ref g29, .ref g30, .ref g31, .ref g32, .ref g33])), (g5, .inl (cy 0, 40, .inl f5)), (g6, .inl (cy 0, 40, .inl f6)), (g7, .inl (cy 0, 40, .inl f7)), (g8, .inl (cy 0, 40, .inl f8)), (g10, .inl (cy 2, 40, .inl f10)), (g22, .inl (cy 0, 40, .inl f_33)), (g23, .inl (cy 0, 12, .inl e23_5)), (g24, .inl (cy 0, 12, .inl e24_6))] (by rw [ef_33]; exact hP) (by rw [ef_33]; exact hD) (fun hP hD => ?_)
                              have st_ := stepL (f6 := f6) (f7 := f7) (f10 := f10) (F := c_g22_19) (F2 := f_33) (l := x7_19) (x := y_18.toInt) (y := x4_15.toInt) (s := a1.toInt) (N := s4.toNatClampNeg) (n := u0_27.toInt) (by assumption) (by omega) (by omega) (by omega) v2_19 r_f8 (by omega) (by omega) (by rw [← v0_30]; omega) (by omega)
                              refine lv_iload hx hb dX12_flowOf_232 (lv_at hl 2 rfl) ?_
                              refine lv_iload hx hb dX12_flowOf_234 (lv_at hl 0 rfl) ?_
                              refine lv_isub hx hb dX12_flowOf_236 ?_
                              refine lv_topi (fun y_34 ey_34 => ?_)
                              have ty_34 : y_34.toInt = x6_19.toInt - u0_27.toInt := by rw [ey_34]; exact subI (by omega) (by omega)
                              refine lv_istore (lv' := [(6, .int y_34), (8, .int u0_27), (7, .int x7_19), (5, .int y_18), (4, .int x4_15), (3, .int x3_13), (0, .ref mo), (1, .int a1), (2, .int a2)]) hx hb dX12_flowOf_237 hl (by decide) rfl (fun ls hl => ?_)
                              obtain ⟨y_35, ey_35⟩ : ∃ y : Int32, y = x7_19 + 1 := ⟨_, rfl⟩
                              have ty_35 : y_35.toInt = x7_19.toInt + (1 : Int32).toInt := by rw [ey_35]; exact addI (by omega) (by omega)
                              refine lv_iinc (v := y_35) (lv' := [(7, .int y_35), (6, .int y_34), (8, .int u0_27), (5, .int y_18), (4, .int x4_15), (3, .int x3_13), (0, .ref mo), (1, .int a1), (2, .int a2)]) hx hb dX12_flowOf_239 hl (k := 2) rfl (by rw [ey_35]; rfl) (by decide) rfl (fun ls hl => ?_)
                              have w2_ : flOK f5 f8 f_33 := st_.1
                              have w4_ : y_18.toInt = a1.toInt → phi f5 f6 f7 f8 f10 f_33 a1.toInt s4.toNatClampNeg = phi f5 f6 f7 f8 f10 c_g22_15 a1.toInt s4.toNatClampNeg - (x3_13.toInt - y_34.toInt) := fun h => by have a := v4_19 h; have b := st_.2.1 h; omega
                              have w5_ : y_18.toInt ≠ a1.toInt → ∀ j : Nat, ((f6 j).toInt = a1.toInt ∨ (f7 j).toInt = a1.toInt) → f_33 j = c_g22_15 j := fun h j hj => (st_.2.2.1 h j hj).trans (v5_19 h j hj)
                              have w6_ : y_34.toInt = x3_13.toInt → (∀ j : Nat, (j : Int) < y_35.toInt → lfI f5 f6 f7 f8 f10 c_g22_15 y_18.toInt x4_15.toInt j ≤ 0) ∧ ∀ j : Nat, f_33 j = c_g22_15 j := fun h => by have q := v6_19 (by omega); have z : u0_27.toInt = 0 := (by omega); exact ⟨sixL q.1 (by omega) (by omega) (by rw [lfI_same (a := c_g22_15) (b := c_g22_19) (fun _ => (q.2 _).symm)]; omega), fun j => (st_.2.2.2 z j).trans (q.2 j)⟩
                              refine lv_goto (tgt := 106) hx hb dX12_flowOf_242 (by decide) ?_
                              exact ih_19 y_35 y_34 f_33 _ _ _ (by omega) (by first | with_reducible assumption | omega | assumption) (by first | with_reducible assumption | omega | assumption) (by first | with_reducible assumption | assumption | omega) (by first | with_reducible assumption | omega | assumption) (by first | with_reducible assumption | assumption | (intro h; omega)) (by first | with_reducible assumption | assumption | exact fun _ _ _ => rfl) (by first | with_reducible assumption | assumption | exact fun _ => ⟨fun j hj => by omega, fun _ => rfl⟩) hP hD hS (lv_sub hl [0, 1, 3, 4, 5, 6, 7, 8] rfl)
                            refine lv_aload_n hx hb dX12_flowOf_156 rfl (lv_at hl 6 rfl) ?_
                            refine va_get (ci := 12) (v := .ref g10) (C := RX12) (T := TX12) (N := 34) hx hb hts (fun _ h => List.mem_cons_of_mem _ (List.mem_append_right _ h)) hown hK.1 hP 0 rfl rfl 10 (by decide) (hts (.fieldLink RX12 25 "CutAtlasModel" "isMissing" "[Z") (by decide +kernel)) (fun _ h9 => h9) rfl dX12_flowOf_157 ?_
                            refine lv_iload hx hb dX12_flowOf_160 (lv_at hl 1 rfl) ?_
                            have h_36 : vp_in x7_19 40 := in_I (by omega) (by omega)
                            refine va_zald hx hb hK.1 hP 5 2 rfl rfl (i := x7_19) h_36 dX12_flowOf_162 ?_
                            refine lv_topi (fun y_37 ey_37 => ?_)
                            have ky_37 : y_37.toInt = (f10 x7_19.toNatClampNeg).toInt := by rw [ey_37]
                            refine lv_if_eq (tgt := 170) hx hb dX12_flowOf_163 (by decide) (fun c_38 => ?_) (fun c_38 => ?_)
                            · have t_38 : y_37.toInt = (0 : Int32).toInt := congrArg Int32.toInt c_38
                              refine lv_aload_n hx hb dX12_flowOf_170 rfl (lv_at hl 6 rfl) ?_
                              refine va_get (ci := 12) (v := .ref g6) (C := RX12) (T := TX12) (N := 34) hx hb hts (fun _ h => List.mem_cons_of_mem _ (List.mem_append_right _ h)) hown hK.1 hP 0 rfl rfl 6 (by decide) (hts (.fieldLink RX12 13 "CutAtlasModel" "from" "[I") (by decide +kernel)) (fun _ h9 => h9) rfl dX12_flowOf_171 ?_
                              refine lv_iload hx hb dX12_flowOf_174 (lv_at hl 1 rfl) ?_
                              have h_39 : vp_in x7_19 40 := in_I (by omega) (by omega)
                              refine va_iald hx hb hK.1 hP 2 0 rfl rfl (i := x7_19) h_39 dX12_flowOf_176 ?_
                              refine lv_topi (fun y_40 ey_40 => ?_)
                              have ky_40 : y_40.toInt = (f6 x7_19.toNatClampNeg).toInt := by rw [ey_40]
                              refine lv_iload hx hb dX12_flowOf_177 (lv_at hl 3 rfl) ?_
                              refine lv_icmp_ne (tgt := 199) hx hb dX12_flowOf_179 (by decide) (fun c_41 => ?_) (fun c_41 => ?_)
                              · have t_41 : ¬ y_40.toInt = y_18.toInt := fun h => c_41 (Int32.toInt_inj.mp h)
                                refine lv_aload_n hx hb dX12_flowOf_199 rfl (lv_at hl 6 rfl) ?_
                                refine va_get (ci := 12) (v := .ref g6) (C := RX12) (T := TX12) (N := 34) hx hb hts (fun _ h => List.mem_cons_of_mem _ (List.mem_append_right _ h)) hown hK.1 hP 0 rfl rfl 6 (by decide) (hts (.fieldLink RX12 13 "CutAtlasModel" "from" "[I") (by decide +kernel)) (fun _ h9 => h9) rfl dX12_flowOf_200 ?_
                                refine lv_iload hx hb dX12_flowOf_203 (lv_at hl 1 rfl) ?_
                                have h_42 : vp_in x7_19 40 := in_I (by omega) (by omega)
                                refine va_iald hx hb hK.1 hP 2 0 rfl rfl (i := x7_19) h_42 dX12_flowOf_205 ?_
                                refine lv_topi (fun y_43 ey_43 => ?_)
                                have e_ := (ey_43.trans ey_40.symm).symm
                                subst e_
                                skip
                                refine lv_iload hx hb dX12_flowOf_206 (lv_at hl 4 rfl) ?_
                                refine lv_icmp_ne (tgt := 229) hx hb dX12_flowOf_208 (by decide) (fun c_44 => ?_) (fun c_44 => ?_)
                                · have t_44 : ¬ y_40.toInt = x4_15.toInt := fun h => c_44 (Int32.toInt_inj.mp h)
                                  refine lv_iconst (v := 0) hx hb dX12_flowOf_229 (by decide) ?_
                                  exact JOIN_30 (0 : Int32) _ _ _ (by (repeat' split) <;> omega) hP hD hS (lv_sub hl [0, 1, 2, 3, 4, 5, 6, 7, 8] rfl)
                                · have t_44 : y_40.toInt = x4_15.toInt := congrArg Int32.toInt c_44
                                  refine lv_aload_n hx hb dX12_flowOf_211 rfl (lv_at hl 6 rfl) ?_
                                  refine va_get (ci := 12) (v := .ref g7) (C := RX12) (T := TX12) (N := 34) hx hb hts (fun _ h => List.mem_cons_of_mem _ (List.mem_append_right _ h)) hown hK.1 hP 0 rfl rfl 7 (by decide) (hts (.fieldLink RX12 16 "CutAtlasModel" "to" "[I") (by decide +kernel)) (fun _ h9 => h9) rfl dX12_flowOf_212 ?_
                                  refine lv_iload hx hb dX12_flowOf_215 (lv_at hl 1 rfl) ?_
                                  have h_45 : vp_in x7_19 40 := in_I (by omega) (by omega)
                                  refine va_iald hx hb hK.1 hP 3 0 rfl rfl (i := x7_19) h_45 dX12_flowOf_217 ?_
                                  refine lv_topi (fun y_46 ey_46 => ?_)
                                  have ky_46 : y_46.toInt = (f7 x7_19.toNatClampNeg).toInt := by rw [ey_46]
                                  refine lv_iload hx hb dX12_flowOf_218 (lv_at hl 3 rfl) ?_
                                  refine lv_icmp_ne (tgt := 229) hx hb dX12_flowOf_220 (by decide) (fun c_47 => ?_) (fun c_47 => ?_)
                                  · have t_47 : ¬ y_46.toInt = y_18.toInt := fun h => c_47 (Int32.toInt_inj.mp h)
                                    refine lv_iconst (v := 0) hx hb dX12_flowOf_229 (by decide) ?_
                                    exact JOIN_30 (0 : Int32) _ _ _ (by (repeat' split) <;> omega) hP hD hS (lv_sub hl [0, 1, 2, 3, 4, 5, 6, 7, 8] rfl)
                                  · have t_47 : y_46.toInt = y_18.toInt := congrArg Int32.toInt c_47
                                    refine lv_iload hx hb dX12_flowOf_223 (lv_at hl 0 rfl) ?_
                                    refine lv_ineg hx hb dX12_flowOf_225 ?_
                                    refine lv_topi (fun y_48 ey_48 => ?_)
                                    have ty_48 : y_48.toInt = - u0_27.toInt := by rw [ey_48]; exact negI (by omega)
                                    refine lv_goto (tgt := 230) hx hb dX12_flowOf_226 (by decide) ?_
                                    exact JOIN_30 y_48 _ _ _ (by (repeat' split) <;> omega) hP hD hS (lv_sub hl [0, 1, 2, 3, 4, 5, 6, 7, 8] rfl)
                              · have t_41 : y_40.toInt = y_18.toInt := congrArg Int32.toInt c_41
                                refine lv_aload_n hx hb dX12_flowOf_182 rfl (lv_at hl 6 rfl) ?_
                                refine va_get (ci := 12) (v := .ref g7) (C := RX12) (T := TX12) (N := 34) hx hb hts (fun _ h => List.mem_cons_of_mem _ (List.mem_append_right _ h)) hown hK.1 hP 0 rfl rfl 7 (by decide) (hts (.fieldLink RX12 16 "CutAtlasModel" "to" "[I") (by decide +kernel)) (fun _ h9 => h9) rfl dX12_flowOf_183 ?_
                                refine lv_iload hx hb dX12_flowOf_186 (lv_at hl 1 rfl) ?_
                                have h_49 : vp_in x7_19 40 := in_I (by omega) (by omega)
                                refine va_iald hx hb hK.1 hP 3 0 rfl rfl (i := x7_19) h_49 dX12_flowOf_188 ?_
                                refine lv_topi (fun y_50 ey_50 => ?_)
                                have ky_50 : y_50.toInt = (f7 x7_19.toNatClampNeg).toInt := by rw [ey_50]
                                refine lv_iload hx hb dX12_flowOf_189 (lv_at hl 4 rfl) ?_
                                refine lv_icmp_ne (tgt := 199) hx hb dX12_flowOf_191 (by decide) (fun c_51 => ?_) (fun c_51 => ?_)
                                · have t_51 : ¬ y_50.toInt = x4_15.toInt := fun h => c_51 (Int32.toInt_inj.mp h)
                                  refine lv_aload_n hx hb dX12_flowOf_199 rfl (lv_at hl 6 rfl) ?_
                                  refine va_get (ci := 12) (v := .ref g6) (C := RX12) (T := TX12) (N := 34) hx hb hts (fun _ h => List.mem_cons_of_mem _ (List.mem_append_right _ h)) hown hK.1 hP 0 rfl rfl 6 (by decide) (hts (.fieldLink RX12 13 "CutAtlasModel" "from" "[I") (by decide +kernel)) (fun _ h9 => h9) rfl dX12_flowOf_200 ?_
                                  refine lv_iload hx hb dX12_flowOf_203 (lv_at hl 1 rfl) ?_
                                  have h_52 : vp_in x7_19 40 := in_I (by omega) (by omega)
                                  refine va_iald hx hb hK.1 hP 2 0 rfl rfl (i := x7_19) h_52 dX12_flowOf_205 ?_
                                  refine lv_topi (fun y_53 ey_53 => ?_)
                                  have e_ := (ey_53.trans ey_40.symm).symm
                                  subst e_
                                  skip
                                  refine lv_iload hx hb dX12_flowOf_206 (lv_at hl 4 rfl) ?_
                                  refine lv_icmp_ne (tgt := 229) hx hb dX12_flowOf_208 (by decide) (fun c_54 => ?_) (fun c_54 => ?_)
                                  · have t_54 : ¬ y_40.toInt = x4_15.toInt := fun h => c_54 (Int32.toInt_inj.mp h)
                                    refine lv_iconst (v := 0) hx hb dX12_flowOf_229 (by decide) ?_
                                    exact JOIN_30 (0 : Int32) _ _ _ (by (repeat' split) <;> omega) hP hD hS (lv_sub hl [0, 1, 2, 3, 4, 5, 6, 7, 8] rfl)
                                  · have t_54 : y_40.toInt = x4_15.toInt := congrArg Int32.toInt c_54
                                    refine lv_aload_n hx hb dX12_flowOf_211 rfl (lv_at hl 6 rfl) ?_
                                    refine va_get (ci := 12) (v := .ref g7) (C := RX12) (T := TX12) (N := 34) hx hb hts (fun _ h => List.mem_cons_of_mem _ (List.mem_append_right _ h)) hown hK.1 hP 0 rfl rfl 7 (by decide) (hts (.fieldLink RX12 16 "CutAtlasModel" "to" "[I") (by decide +kernel)) (fun _ h9 => h9) rfl dX12_flowOf_212 ?_
                                    refine lv_iload hx hb dX12_flowOf_215 (lv_at hl 1 rfl) ?_
                                    have h_55 : vp_in x7_19 40 := in_I (by omega) (by omega)
                                    refine va_iald hx hb hK.1 hP 3 0 rfl rfl (i := x7_19) h_55 dX12_flowOf_217 ?_
                                    refine lv_topi (fun y_56 ey_56 => ?_)
                                    have e_ := (ey_56.trans ey_50.symm).symm
                                    subst e_
                                    skip
                                    refine lv_iload hx hb dX12_flowOf_218 (lv_at hl 3 rfl) ?_
                                    refine lv_icmp_ne (tgt := 229) hx hb dX12_flowOf_220 (by decide) (fun c_57 => ?_) (fun c_57 => ?_)
                                    · have t_57 : ¬ y_50.toInt = y_18.toInt := fun h => c_57 (Int32.toInt_inj.mp h)
                                      refine lv_iconst (v := 0) hx hb dX12_flowOf_229 (by decide) ?_
                                      exact JOIN_30 (0 : Int32) _ _ _ (by (repeat' split) <;> omega) hP hD hS (lv_sub hl [0, 1, 2, 3, 4, 5, 6, 7, 8] rfl)
                                    · have t_57 : y_50.toInt = y_18.toInt := congrArg Int32.toInt c_57
                                      refine lv_iload hx hb dX12_flowOf_223 (lv_at hl 0 rfl) ?_
                                      refine lv_ineg hx hb dX12_flowOf_225 ?_
                                      refine lv_topi (fun y_58 ey_58 => ?_)
                                      have ty_58 : y_58.toInt = - u0_27.toInt := by rw [ey_58]; exact negI (by omega)
                                      refine lv_goto (tgt := 230) hx hb dX12_flowOf_226 (by decide) ?_
                                      exact JOIN_30 y_58 _ _ _ (by (repeat' split) <;> omega) hP hD hS (lv_sub hl [0, 1, 2, 3, 4, 5, 6, 7, 8] rfl)
                                · have t_51 : y_50.toInt = x4_15.toInt := congrArg Int32.toInt c_51
                                  refine lv_iload hx hb dX12_flowOf_194 (lv_at hl 0 rfl) ?_
                                  refine lv_goto (tgt := 230) hx hb dX12_flowOf_196 (by decide) ?_
                                  exact JOIN_30 u0_27 _ _ _ (by (repeat' split) <;> omega) hP hD hS (lv_sub hl [0, 1, 2, 3, 4, 5, 6, 7, 8] rfl)
                            · have t_38 : ¬ y_37.toInt = (0 : Int32).toInt := fun h => c_38 (Int32.toInt_inj.mp h)
                              refine lv_iconst (v := 0) hx hb dX12_flowOf_166 (by decide) ?_
                              refine lv_goto (tgt := 230) hx hb dX12_flowOf_167 (by decide) ?_
                              exact JOIN_30 (0 : Int32) _ _ _ (by (repeat' split) <;> omega) hP hD hS (lv_sub hl [0, 1, 2, 3, 4, 5, 6, 7, 8] rfl)
                          refine lv_iload hx hb dX12_flowOf_132 (lv_at hl 0 rfl) ?_
                          refine lv_iload hx hb dX12_flowOf_134 (lv_at hl 2 rfl) ?_
                          refine lv_icmp_ge (tgt := 144) hx hb dX12_flowOf_136 (by decide) (fun c_59 => ?_) (fun c_59 => ?_)
                          · have t_59 : x6_19.toInt ≤ r_26.toInt := Int32.le_iff_toInt_le.mp c_59
                            refine lv_iload hx hb dX12_flowOf_144 (lv_at hl 2 rfl) ?_
                            exact JOIN_27 x6_19 _ _ _ (by first | with_reducible assumption | assumption | omega) hP hD hS (lv_sub hl [0, 1, 2, 3, 4, 5, 6, 7, 8] rfl)
                          · have t_59 : ¬ x6_19.toInt ≤ r_26.toInt := fun h => c_59 (Int32.le_iff_toInt_le.mpr h)
                            refine lv_iload hx hb dX12_flowOf_139 (lv_at hl 0 rfl) ?_
                            refine lv_goto (tgt := 146) hx hb dX12_flowOf_141 (by decide) ?_
                            exact JOIN_27 r_26 _ _ _ (by first | with_reducible assumption | assumption | omega) hP hD hS (lv_sub hl [0, 1, 2, 3, 4, 5, 6, 7, 8] rfl)
              · have t_14 : ¬ x4_13.toInt = a1.toInt := fun h => c_14 (Int32.toInt_inj.mp h)
                have hj1_ : 1 ≤ j_13 := Nat.pos_of_ne_zero (fun e0 => c_14 (by rw [v1_13, e0]; exact hb_.2.2.1))
                obtain ⟨i_, hi_, hc_, hl_⟩ := hb_.2.2.2 j_13 hj1_ v0_13
                have hy_ := hb_.1 j_13 v0_13
                have ey4_ : x4_13.toInt = (e23_5 j_13).toInt := by rw [v1_13]
                refine lv_aload_n hx hb dX12_flowOf_42 rfl (lv_at hl 2 rfl) ?_
                refine lv_aload_n hx hb dX12_flowOf_43 rfl (lv_at hl 2 rfl) ?_
                refine va_get (ci := 12) (v := .ref g24) (C := RX12) (T := TX12) (N := 34) hx hb hts (fun _ h => List.mem_cons_of_mem _ (List.mem_append_right _ h)) hown hK.1 hP 0 rfl rfl 24 (by decide) (hts (.fieldLink RX12 67 "CutAtlasModel" "cameFrom" "[I") (by decide +kernel)) (fun _ h9 => h9) rfl dX12_flowOf_44 ?_
                refine lv_iload hx hb dX12_flowOf_47 (lv_at hl 0 rfl) ?_
                have h_60 : vp_in x4_13 12 := in_I (by omega) (by omega)
                refine va_iald hx hb hK.1 hP 8 0 rfl rfl (i := x4_13) h_60 dX12_flowOf_49 ?_
                refine lv_topi (fun y_61 ey_61 => ?_)
                have ky_61 : y_61.toInt = (e24_6 x4_13.toNatClampNeg).toInt := by rw [ey_61]
                have ry_61 : 0 ≤ y_61.toInt ∧ y_61.toInt ≤ 11 := by rw [ey_61]; exact g_9 _ (in_lt h_60)
                have hv_ : y_61 = e23_5 i_ := by rw [ey_61, v1_13]; exact hc_
                refine lv_iload hx hb dX12_flowOf_50 (lv_at hl 0 rfl) ?_
                refine ct_R hP hD [(mo, .inr (12, [.int s0, .int s1, .long t2, .int s3, .int s4, .ref g5, .ref g6, .ref g7, .ref g8, .ref g9, .ref g10, .int s11, .ref g12, .ref g13, .ref g14, .ref g15, .ref g16, .ref g17, .ref g18, .ref g19, .ref g20, .int s21, .ref g22, .ref g23, .ref g24, .int s25, .int s26, .int s27, .int s28, .ref g29, .ref g30, .ref g31, .ref g32, .ref g33])), (g5, .inl (cy 0, 40, .inl f5)), (g6, .inl (cy 0, 40, .inl f6)), (g7, .inl (cy 0, 40, .inl f7)), (g8, .inl (cy 0, 40, .inl f8)), (g10, .inl (cy 2, 40, .inl f10)), (g22, .inl (cy 0, 40, .inl c_g22_3))] [0, 1, 2, 3, 4, 5, 6] (by decide) rfl (fun hPc hDw => ?_)
                have hFc := va_free (wc := []) hD hS hA [] rfl
                refine va_calli (va_runV (As := [.int y_61, .int x4_13]) (rest := []) ⟨hx, hb, hml, hown, hts⟩ (c_X12_leftOf l D cy H.size mo g5 g6 g7 g8 g9 g10 g12 g13 g14 g15 g16 g17 g18 g19 g20 g22 g23 g24 g29 g30 g31 g32 g33 s0 s1 s3 s4 s11 s21 s25 s26 s27 s28 t2 f5 f6 f7 f8 f10 c_g22_3 y_61 x4_13 (by first | with_reducible assumption | omega | assumption) (by first | with_reducible assumption | omega | assumption) (by first | with_reducible assumption | assumption | omega) (by first | with_reducible assumption | assumption | omega)) (cwV 2 hts gX12_flowOf_X12_leftOf rfl rfl rfl (by decide +kernel) ⟨Nat.le_of_ble_eq_true rfl, Nat.le_of_ble_eq_true rfl⟩) ⟨bl_, va_recvX hK.1 hP (ci := 12) (q0 := 0) rfl rfl, fun U hU hW => ⟨rfl, by rw [hU], by rw [hU]; exact hPc, kk_mv hW hK, hDw⟩⟩ rfl rfl hl.1 rfl (lv_room (Nat.le_of_ble_eq_true rfl)) dX12_flowOf_52 ⟨Nat.le_of_ble_eq_true rfl, Nat.le_of_ble_eq_true rfl⟩) hS (fun q _ h => hFc q h) hFc (fun r_62 u t H locs ht hvm hw hB hz1 hk1 hS => ?_)
                have hP : va_P D vwCl _ H := ro_keep hP hk1
                obtain ⟨f0_r_62, f1_r_62⟩ := hw
                have hp_ : 0 < r_62.toInt := by rw [f0_r_62, hv_, v1_13]; exact hl_
                refine lv_istore (lv' := [(5, .int r_62), (4, .int x4_13), (3, .int x3_13), (0, .ref mo), (1, .int a1), (2, .int a2)]) hx hb dX12_flowOf_55 hl (by decide) rfl (fun ls hl => ?_)
                refine lv_iload hx hb dX12_flowOf_57 (lv_at hl 0 rfl) ?_
                refine lv_iload_n hx hb dX12_flowOf_59 rfl (lv_at hl 2 rfl) ?_
                refine lv_icmp_ge (tgt := 68) hx hb dX12_flowOf_60 (by decide) (fun c_63 => ?_) (fun c_63 => ?_)
                · have t_63 : x3_13.toInt ≤ r_62.toInt := Int32.le_iff_toInt_le.mp c_63
                  refine lv_iload_n hx hb dX12_flowOf_68 rfl (lv_at hl 2 rfl) ?_
                  refine lv_istore_n (lv' := [(3, .int x3_13), (5, .int r_62), (4, .int x4_13), (0, .ref mo), (1, .int a1), (2, .int a2)]) hx hb dX12_flowOf_69 rfl hl (by decide) rfl (fun ls hl => ?_)
                  refine lv_aload_n hx hb dX12_flowOf_70 rfl (lv_at hl 3 rfl) ?_
                  refine va_get (ci := 12) (v := .ref g24) (C := RX12) (T := TX12) (N := 34) hx hb hts (fun _ h => List.mem_cons_of_mem _ (List.mem_append_right _ h)) hown hK.1 hP 0 rfl rfl 24 (by decide) (hts (.fieldLink RX12 67 "CutAtlasModel" "cameFrom" "[I") (by decide +kernel)) (fun _ h9 => h9) rfl dX12_flowOf_71 ?_
                  refine lv_iload hx hb dX12_flowOf_74 (lv_at hl 2 rfl) ?_
                  have h_64 : vp_in x4_13 12 := in_I (by omega) (by omega)
                  refine va_iald hx hb hK.1 hP 8 0 rfl rfl (i := x4_13) h_64 dX12_flowOf_76 ?_
                  refine lv_topi (fun y_65 ey_65 => ?_)
                  have e_ := (ey_65.trans ey_61.symm).symm
                  subst e_
                  skip
                  refine lv_istore (lv' := [(4, .int y_61), (3, .int x3_13), (5, .int r_62), (0, .ref mo), (1, .int a1), (2, .int a2)]) hx hb dX12_flowOf_77 hl (by decide) rfl (fun ls hl => ?_)
                  refine lv_goto (tgt := 36) hx hb dX12_flowOf_79 (by decide) ?_
                  exact ih_13 y_61 x3_13 i_ _ _ _ (by omega) (by first | with_reducible assumption | omega | assumption) (by first | with_reducible assumption | assumption | exact ht_.symm) (by first | with_reducible assumption | omega | assumption) hP hD hS (lv_sub hl [0, 1, 3, 4, 5] rfl)
                · have t_63 : ¬ x3_13.toInt ≤ r_62.toInt := fun h => c_63 (Int32.le_iff_toInt_le.mpr h)
                  refine lv_iload hx hb dX12_flowOf_63 (lv_at hl 0 rfl) ?_
                  refine lv_goto (tgt := 69) hx hb dX12_flowOf_65 (by decide) ?_
                  refine lv_istore_n (lv' := [(3, .int r_62), (5, .int r_62), (4, .int x4_13), (0, .ref mo), (1, .int a1), (2, .int a2)]) hx hb dX12_flowOf_69 rfl hl (by decide) rfl (fun ls hl => ?_)
                  refine lv_aload_n hx hb dX12_flowOf_70 rfl (lv_at hl 3 rfl) ?_
                  refine va_get (ci := 12) (v := .ref g24) (C := RX12) (T := TX12) (N := 34) hx hb hts (fun _ h => List.mem_cons_of_mem _ (List.mem_append_right _ h)) hown hK.1 hP 0 rfl rfl 24 (by decide) (hts (.fieldLink RX12 67 "CutAtlasModel" "cameFrom" "[I") (by decide +kernel)) (fun _ h9 => h9) rfl dX12_flowOf_71 ?_
                  refine lv_iload hx hb dX12_flowOf_74 (lv_at hl 2 rfl) ?_
                  have h_66 : vp_in x4_13 12 := in_I (by omega) (by omega)
                  refine va_iald hx hb hK.1 hP 8 0 rfl rfl (i := x4_13) h_66 dX12_flowOf_76 ?_
                  refine lv_topi (fun y_67 ey_67 => ?_)
                  have e_ := (ey_67.trans ey_61.symm).symm
                  subst e_
                  skip
                  refine lv_istore (lv' := [(4, .int y_61), (3, .int r_62), (5, .int r_62), (0, .ref mo), (1, .int a1), (2, .int a2)]) hx hb dX12_flowOf_77 hl (by decide) rfl (fun ls hl => ?_)
                  refine lv_goto (tgt := 36) hx hb dX12_flowOf_79 (by decide) ?_
                  exact ih_13 y_61 r_62 i_ _ _ _ (by omega) (by first | with_reducible assumption | omega | assumption) (by first | with_reducible assumption | assumption | exact ht_.symm) (by first | with_reducible assumption | omega | assumption) hP hD hS (lv_sub hl [0, 1, 3, 4, 5] rfl)
    · have t_2 : ¬ (40 : Int32).toInt ≤ x3_1.toInt := fun h => c_2 (Int32.le_iff_toInt_le.mpr h)
      refine lv_aload_n hx hb dX12_flowOf_8 rfl (lv_at hl 1 rfl) ?_
      refine va_get (ci := 12) (v := .ref g22) (C := RX12) (T := TX12) (N := 34) hx hb hts (fun _ h => List.mem_cons_of_mem _ (List.mem_append_right _ h)) hown hK.1 hP 0 rfl rfl 22 (by decide) (hts (.fieldLink RX12 61 "CutAtlasModel" "flows" "[I") (by decide +kernel)) (fun _ h9 => h9) rfl dX12_flowOf_9 ?_
      refine lv_iload_n hx hb dX12_flowOf_12 rfl (lv_at hl 0 rfl) ?_
      refine lv_iconst (v := 0) hx hb dX12_flowOf_13 (by decide) ?_
      have h_68 : vp_in x3_1 40 := in_I (by omega) (by omega)
      refine va_iast hx hb hK.1 hP hD hS 6 0 rfl rfl (i := x3_1) h_68 dX12_flowOf_14 (fun H locs hP hD hS => ?_)
      obtain ⟨f_69, ef_69⟩ : ∃ g : Nat → Int32, g = upd c_g22_1 x3_1.toNatClampNeg (0 : Int32) := ⟨_, rfl⟩
      refine pd_K (D := D) (cl := vwCl) (H := H) (A := A) [(mo, .inr (12, [.int s0, .int s1, .long t2, .int s3, .int s4, .ref g5, .ref g6, .ref g7, .ref g8, .ref g9, .ref g10, .int s11, .ref g12, .ref g13, .ref g14, .ref g15, .ref g16, .ref g17, .ref g18, .ref g19, .ref g20, .int s21, .ref g22, .ref g23, .ref g24, .int s25, .int s26, .int s27, .int s28, .ref g29, .ref g30, .ref g31, .ref g32, .ref g33])), (g5, .inl (cy 0, 40, .inl f5)), (g6, .inl (cy 0, 40, .inl f6)), (g7, .inl (cy 0, 40, .inl f7)), (g8, .inl (cy 0, 40, .inl f8)), (g10, .inl (cy 2, 40, .inl f10)), (g22, .inl (cy 0, 40, .inl f_69)), (g23, .inl (cy 0, 12, .inl f23)), (g24, .inl (cy 0, 12, .inl f24))] (by rw [ef_69]; exact hP) (by rw [ef_69]; exact hD) (fun hP hD => ?_)
      obtain ⟨y_70, ey_70⟩ : ∃ y : Int32, y = x3_1 + 1 := ⟨_, rfl⟩
      have ty_70 : y_70.toInt = x3_1.toInt + (1 : Int32).toInt := by rw [ey_70]; exact addI (by omega) (by omega)
      refine lv_iinc (v := y_70) (lv' := [(3, .int y_70), (0, .ref mo), (1, .int a1), (2, .int a2)]) hx hb dX12_flowOf_15 hl (k := 0) rfl (by rw [ey_70]; rfl) (by decide) rfl (fun ls hl => ?_)
      refine lv_goto (tgt := 2) hx hb dX12_flowOf_18 (by decide) ?_
      exact ih_1 y_70 f_69 _ _ _ (by omega) (by first | with_reducible assumption | omega | assumption) (by first | with_reducible assumption | omega | assumption) (by first | exact zero_st (by assumption) (by assumption) (by omega) (by omega) | (intro j hj; omega)) hP hD hS (lv_sub hl [0, 1, 2, 3] rfl)
end

section
set_option maxHeartbeats 4000000 in
set_option maxRecDepth 100000 in
theorem c_X12_flow (l : Launch) (D : va_G) (cy : Nat → ClassId) (sz : Nat) (mo : Nat) (g5 : Nat) (g6 : Nat) (g7 : Nat) (g8 : Nat) (g9 : Nat) (g10 : Nat) (g12 : Nat) (g13 : Nat) (g14 : Nat) (g15 : Nat) (g16 : Nat) (g17 : Nat) (g18 : Nat) (g19 : Nat) (g20 : Nat) (g22 : Nat) (g23 : Nat) (g24 : Nat) (g29 : Nat) (g30 : Nat) (g31 : Nat) (g32 : Nat) (g33 : Nat) (s0 : Int32) (s1 : Int32) (s3 : Int32) (s4 : Int32) (s11 : Int32) (s21 : Int32) (s25 : Int32) (s26 : Int32) (s27 : Int32) (s28 : Int32) (t2 : Int64) (f5 : Nat → Int32) (f6 : Nat → Int32) (f7 : Nat → Int32) (f8 : Nat → Int32) (f10 : Nat → Int32) (f22 : Nat → Int32) (f23 : Nat → Int32) (f24 : Nat → Int32) (a1 : Int32) (a2 : Int32) (a3 : Int32) (hN : 0 ≤ s4.toInt ∧ s4.toInt ≤ 40) (hPl : 0 ≤ s3.toInt ∧ s3.toInt ≤ 12) (h21 : s21.toInt = -9) (r_f8 : rng f8 40 (0) (2000)) (r_f23 : rng f23 12 (0) (11)) (r_f24 : rng f24 12 (0) (11)) : Met l yX12_flow wsX12_flow ({ frames := 6, cells := 0, slots := 0, locals := 146 }) (va_Pc [.ref mo, .int a1, .int a2, .int a3] (fun U => U.heap.size = sz ∧ va_P D vwCl [(mo, .inr (12, [.int s0, .int s1, .long t2, .int s3, .int s4, .ref g5, .ref g6, .ref g7, .ref g8, .ref g9, .ref g10, .int s11, .ref g12, .ref g13, .ref g14, .ref g15, .ref g16, .ref g17, .ref g18, .ref g19, .ref g20, .int s21, .ref g22, .ref g23, .ref g24, .int s25, .int s26, .int s27, .int s28, .ref g29, .ref g30, .ref g31, .ref g32, .ref g33])), (g5, .inl (cy 0, 40, .inl f5)), (g6, .inl (cy 0, 40, .inl f6)), (g7, .inl (cy 0, 40, .inl f7)), (g8, .inl (cy 0, 40, .inl f8)), (g10, .inl (cy 2, 40, .inl f10)), (g22, .inl (cy 0, 40, .inl f22)), (g23, .inl (cy 0, 12, .inl f23)), (g24, .inl (cy 0, 12, .inl f24))] U.heap ∧ kk_ D cy U ∧ va_D (fun _ => True) [(mo, .inr (12, [.int s0, .int s1, .long t2, .int s3, .int s4, .ref g5, .ref g6, .ref g7, .ref g8, .ref g9, .ref g10, .int s11, .ref g12, .ref g13, .ref g14, .ref g15, .ref g16, .ref g17, .ref g18, .ref g19, .ref g20, .int s21, .ref g22, .ref g23, .ref g24, .int s25, .int s26, .int s27, .int s28, .ref g29, .ref g30, .ref g31, .ref g32, .ref g33])), (g5, .inl (cy 0, 40, .inl f5)), (g6, .inl (cy 0, 40, .inl f6)), (g7, .inl (cy 0, 40, .inl f7)), (g8, .inl (cy 0, 40, .inl f8)), (g10, .inl (cy 2, 40, .inl f10)), (g22, .inl (cy 0, 40, .inl f22)), (g23, .inl (cy 0, 12, .inl f23)), (g24, .inl (cy 0, 12, .inl f24))])) (va_Qi (fun (r : Int32) (_ : Unit) => True) (fun (_ : Unit) (t : State) => ∃ (e22 : Nat → Int32), ∃ (e23 : Nat → Int32), ∃ (e24 : Nat → Int32), (rng e23 12 (0) (11)) ∧ (rng e24 12 (0) (11)) ∧ va_P D vwCl [(mo, .inr (12, [.int 0, .int s1, .long t2, .int s3, .int s4, .ref g5, .ref g6, .ref g7, .ref g8, .ref g9, .ref g10, .int s11, .ref g12, .ref g13, .ref g14, .ref g15, .ref g16, .ref g17, .ref g18, .ref g19, .ref g20, .int s21, .ref g22, .ref g23, .ref g24, .int s25, .int s26, .int s27, .int s28, .ref g29, .ref g30, .ref g31, .ref g32, .ref g33])), (g5, .inl (cy 0, 40, .inl f5)), (g6, .inl (cy 0, 40, .inl f6)), (g7, .inl (cy 0, 40, .inl f7)), (g8, .inl (cy 0, 40, .inl f8)), (g10, .inl (cy 2, 40, .inl f10)), (g22, .inl (cy 0, 40, .inl e22)), (g23, .inl (cy 0, 12, .inl e23)), (g24, .inl (cy 0, 12, .inl e24))] t.heap ∧ va_D (va_A [(mo, .inr (12, [.int s0, .int s1, .long t2, .int s3, .int s4, .ref g5, .ref g6, .ref g7, .ref g8, .ref g9, .ref g10, .int s11, .ref g12, .ref g13, .ref g14, .ref g15, .ref g16, .ref g17, .ref g18, .ref g19, .ref g20, .int s21, .ref g22, .ref g23, .ref g24, .int s25, .int s26, .int s27, .int s28, .ref g29, .ref g30, .ref g31, .ref g32, .ref g33])), (g5, .inl (cy 0, 40, .inl f5)), (g6, .inl (cy 0, 40, .inl f6)), (g7, .inl (cy 0, 40, .inl f7)), (g8, .inl (cy 0, 40, .inl f8)), (g10, .inl (cy 2, 40, .inl f10)), (g22, .inl (cy 0, 40, .inl f22)), (g23, .inl (cy 0, 12, .inl f23)), (g24, .inl (cy 0, 12, .inl f24))] sz) [(mo, .inr (12, [.int 0, .int s1, .long t2, .int s3, .int s4, .ref g5, .ref g6, .ref g7, .ref g8, .ref g9, .ref g10, .int s11, .ref g12, .ref g13, .ref g14, .ref g15, .ref g16, .ref g17, .ref g18, .ref g19, .ref g20, .int s21, .ref g22, .ref g23, .ref g24, .int s25, .int s26, .int s27, .int s28, .ref g29, .ref g30, .ref g31, .ref g32, .ref g33])), (g5, .inl (cy 0, 40, .inl f5)), (g6, .inl (cy 0, 40, .inl f6)), (g7, .inl (cy 0, 40, .inl f7)), (g8, .inl (cy 0, 40, .inl f8)), (g10, .inl (cy 2, 40, .inl f10)), (g22, .inl (cy 0, 40, .inl e22)), (g23, .inl (cy 0, 12, .inl e23)), (g24, .inl (cy 0, 12, .inl e24))]) (va_A [(mo, .inr (12, [.int s0, .int s1, .long t2, .int s3, .int s4, .ref g5, .ref g6, .ref g7, .ref g8, .ref g9, .ref g10, .int s11, .ref g12, .ref g13, .ref g14, .ref g15, .ref g16, .ref g17, .ref g18, .ref g19, .ref g20, .int s21, .ref g22, .ref g23, .ref g24, .int s25, .int s26, .int s27, .int s28, .ref g29, .ref g30, .ref g31, .ref g32, .ref g33])), (g5, .inl (cy 0, 40, .inl f5)), (g6, .inl (cy 0, 40, .inl f6)), (g7, .inl (cy 0, 40, .inl f7)), (g8, .inl (cy 0, 40, .inl f8)), (g10, .inl (cy 2, 40, .inl f10)), (g22, .inl (cy 0, 40, .inl f22)), (g23, .inl (cy 0, 12, .inl f23)), (g24, .inl (cy 0, 12, .inl f24))] sz)) 0 0 (va_A [(mo, .inr (12, [.int s0, .int s1, .long t2, .int s3, .int s4, .ref g5, .ref g6, .ref g7, .ref g8, .ref g9, .ref g10, .int s11, .ref g12, .ref g13, .ref g14, .ref g15, .ref g16, .ref g17, .ref g18, .ref g19, .ref g20, .int s21, .ref g22, .ref g23, .ref g24, .int s25, .int s26, .int s27, .int s28, .ref g29, .ref g30, .ref g31, .ref g32, .ref g33])), (g5, .inl (cy 0, 40, .inl f5)), (g6, .inl (cy 0, 40, .inl f6)), (g7, .inl (cy 0, 40, .inl f7)), (g8, .inl (cy 0, 40, .inl f8)), (g10, .inl (cy 2, 40, .inl f10)), (g22, .inl (cy 0, 40, .inl f22)), (g23, .inl (cy 0, 12, .inl f23)), (g24, .inl (cy 0, 12, .inl f24))] sz) := by
  refine ofQ (cc := cX12_flow) (maxL := 4) (ret := (some .int)) (by decide) rfl ?_
  intro p e s m args below meth c s₁ Q hQ B hml hv
  obtain ⟨rfl, hsz, hP, hK, hD0⟩ := hv
  have hx := B.exec
  have hb := B.bytes
  have hr := B.returns
  have hts := atoms_spec (ws := wsX12_flow) B.pre
  have hown : s.vm.findClass RX12 = some m.cls := by have h_ := findClass_of_methodNamed B.named; exact h_
  have hlocks := B.notSynchronized
  subst hsz
  have hD := hD0.self (sz := s.heap.size)
  generalize hAe : va_A [(mo, .inr (12, [.int s0, .int s1, .long t2, .int s3, .int s4, .ref g5, .ref g6, .ref g7, .ref g8, .ref g9, .ref g10, .int s11, .ref g12, .ref g13, .ref g14, .ref g15, .ref g16, .ref g17, .ref g18, .ref g19, .ref g20, .int s21, .ref g22, .ref g23, .ref g24, .int s25, .int s26, .int s27, .int s28, .ref g29, .ref g30, .ref g31, .ref g32, .ref g33])), (g5, .inl (cy 0, 40, .inl f5)), (g6, .inl (cy 0, 40, .inl f6)), (g7, .inl (cy 0, 40, .inl f7)), (g8, .inl (cy 0, 40, .inl f8)), (g10, .inl (cy 2, 40, .inl f10)), (g22, .inl (cy 0, 40, .inl f22)), (g23, .inl (cy 0, 12, .inl f23)), (g24, .inl (cy 0, 12, .inl f24))] s.heap.size = A at hD hQ
  have hA : ∀ q : Nat, s.heap.size ≤ q → A q := fun q h => by rw [← hAe]; exact Or.inr h
  have hS : va_S A s.heap s.heap [] := va_S.rf
  have hl := lv_entry ([.ref mo, .int a1, .int a2, .int a3]) (n := 4) (Nat.le_of_ble_eq_true rfl)
  rw [lg_entry_eq]
  generalize (lg_sl ([.ref mo, .int a1, .int a2, .int a3]) ++ List.replicate (4 - (lg_sl ([.ref mo, .int a1, .int a2, .int a3])).length) Slot.unset).toArray = ls at hl ⊢
  have hl : lv_has ls 4 [(0, .ref mo), (1, .int a1), (2, .int a2), (3, .int a3)] := hl
  have zm1000000 : ((-1000000) : Int32).toInt = -1000000 := by decide
  have z0 : (0 : Int32).toInt = 0 := by decide
  have z1000000 : (1000000 : Int32).toInt = 1000000 := by decide
  refine lv_aload_n hx hb dX12_flow_0 rfl (lv_at hl 0 rfl) ?_
  refine lv_iconst (v := 0) hx hb dX12_flow_1 (by decide) ?_
  refine va_put (ci := 12) (v := .int 0) (ty := .int) (C := RX12) (T := TX12) (N := 34) hx hb hts (fun _ h => List.mem_cons_of_mem _ (List.mem_append_right _ h)) tyX12 tyX12_ok nmX12 hown hK.1 hP hD hS 0 rfl rfl 0 (by decide) (hts (.fieldLink RX12 85 "CutAtlasModel" "thrown" "I") (by decide +kernel)) (fun _ h9 => h9) rfl (by decide +kernel) rfl rfl (Nat.le_of_ble_eq_true rfl) dX12_flow_2 (fun H locs hP hD hS => ?_)
  refine pd_K [(mo, .inr (12, [.int 0, .int s1, .long t2, .int s3, .int s4, .ref g5, .ref g6, .ref g7, .ref g8, .ref g9, .ref g10, .int s11, .ref g12, .ref g13, .ref g14, .ref g15, .ref g16, .ref g17, .ref g18, .ref g19, .ref g20, .int s21, .ref g22, .ref g23, .ref g24, .int s25, .int s26, .int s27, .int s28, .ref g29, .ref g30, .ref g31, .ref g32, .ref g33])), (g5, .inl (cy 0, 40, .inl f5)), (g6, .inl (cy 0, 40, .inl f6)), (g7, .inl (cy 0, 40, .inl f7)), (g8, .inl (cy 0, 40, .inl f8)), (g10, .inl (cy 2, 40, .inl f10)), (g22, .inl (cy 0, 40, .inl f22)), (g23, .inl (cy 0, 12, .inl f23)), (g24, .inl (cy 0, 12, .inl f24))] hP hD (fun hP hD => ?_)
  refine lv_aload_n hx hb dX12_flow_5 rfl (lv_at hl 0 rfl) ?_
  refine lv_iload_n hx hb dX12_flow_6 rfl (lv_at hl 1 rfl) ?_
  refine lv_iload_n hx hb dX12_flow_7 rfl (lv_at hl 2 rfl) ?_
  refine ct_R hP hD [(mo, .inr (12, [.int 0, .int s1, .long t2, .int s3, .int s4, .ref g5, .ref g6, .ref g7, .ref g8, .ref g9, .ref g10, .int s11, .ref g12, .ref g13, .ref g14, .ref g15, .ref g16, .ref g17, .ref g18, .ref g19, .ref g20, .int s21, .ref g22, .ref g23, .ref g24, .int s25, .int s26, .int s27, .int s28, .ref g29, .ref g30, .ref g31, .ref g32, .ref g33]))] [0] (by decide) rfl (fun hPc hDw => ?_)
  have hFc := va_free (wc := []) hD hS hA [] rfl
  refine va_calli (va_runV (As := [.int a1, .int a2]) (rest := []) ⟨hx, hb, hml, hown, hts⟩ (c_X12_arePlaces l D cy H.size mo g5 g6 g7 g8 g9 g10 g12 g13 g14 g15 g16 g17 g18 g19 g20 g22 g23 g24 g29 g30 g31 g32 g33 (0 : Int32) s1 s3 s4 s11 s21 s25 s26 s27 s28 t2 a1 a2 (by first | with_reducible assumption | omega | assumption)) (cwV 2 hts gX12_flow_X12_arePlaces rfl rfl rfl (by decide +kernel) ⟨Nat.le_of_ble_eq_true rfl, Nat.le_of_ble_eq_true rfl⟩) ⟨bl_, va_recvX hK.1 hP (ci := 12) (q0 := 0) rfl rfl, fun U hU hW => ⟨rfl, by rw [hU], by rw [hU]; exact hPc, kk_mv hW hK, hDw⟩⟩ rfl rfl hl.1 rfl (lv_room (Nat.le_of_ble_eq_true rfl)) dX12_flow_8 ⟨Nat.le_of_ble_eq_true rfl, Nat.le_of_ble_eq_true rfl⟩) hS (fun q _ h => hFc q h) hFc (fun r_1 u t H locs ht hvm hw hB hz1 hk1 hS => ?_)
  have hP : va_P D vwCl _ H := ro_keep hP hk1
  rcases hw with ⟨w_2, e_⟩ | ⟨w_2, e_⟩
  · have e_ := e_.symm
    subst e_
    refine lv_if_eq (tgt := 42) hx hb dX12_flow_11 (by decide) (fun c_3 => ?_) (fun c_3 => ?_)
    · exact absurd c_3 (by decide)
    · have _ := c_3
      refine lv_aload_n hx hb dX12_flow_14 rfl (lv_at hl 0 rfl) ?_
      refine lv_iload_n hx hb dX12_flow_15 rfl (lv_at hl 3 rfl) ?_
      refine ct_R hP hD [(mo, .inr (12, [.int 0, .int s1, .long t2, .int s3, .int s4, .ref g5, .ref g6, .ref g7, .ref g8, .ref g9, .ref g10, .int s11, .ref g12, .ref g13, .ref g14, .ref g15, .ref g16, .ref g17, .ref g18, .ref g19, .ref g20, .int s21, .ref g22, .ref g23, .ref g24, .int s25, .int s26, .int s27, .int s28, .ref g29, .ref g30, .ref g31, .ref g32, .ref g33]))] [0] (by decide) rfl (fun hPc hDw => ?_)
      have hFc := va_free (wc := []) hD hS hA [] rfl
      refine va_calli (va_runV (As := [.int a3]) (rest := []) ⟨hx, hb, hml, hown, hts⟩ (c_X12_isLine l D cy H.size mo g5 g6 g7 g8 g9 g10 g12 g13 g14 g15 g16 g17 g18 g19 g20 g22 g23 g24 g29 g30 g31 g32 g33 (0 : Int32) s1 s3 s4 s11 s21 s25 s26 s27 s28 t2 a3 (by first | with_reducible assumption | omega | assumption)) (cwV 1 hts gX12_flow_X12_isLine rfl rfl rfl (by decide +kernel) ⟨Nat.le_of_ble_eq_true rfl, Nat.le_of_ble_eq_true rfl⟩) ⟨bl_, va_recvX hK.1 hP (ci := 12) (q0 := 0) rfl rfl, fun U hU hW => ⟨rfl, by rw [hU], by rw [hU]; exact hPc, kk_mv hW hK, hDw⟩⟩ rfl rfl hl.1 rfl (lv_room (Nat.le_of_ble_eq_true rfl)) dX12_flow_16 ⟨Nat.le_of_ble_eq_true rfl, Nat.le_of_ble_eq_true rfl⟩) hS (fun q _ h => hFc q h) hFc (fun r_4 u t H locs ht hvm hw hB hz1 hk1 hS => ?_)
      have hP : va_P D vwCl _ H := ro_keep hP hk1
      rcases hw with ⟨w_5, e_⟩ | ⟨w_5, e_⟩
      · have e_ := e_.symm
        subst e_
        refine lv_if_eq (tgt := 42) hx hb dX12_flow_19 (by decide) (fun c_6 => ?_) (fun c_6 => ?_)
        · exact absurd c_6 (by decide)
        · have _ := c_6
          refine lv_aload_n hx hb dX12_flow_22 rfl (lv_at hl 0 rfl) ?_
          refine va_get (ci := 12) (v := .ref g10) (C := RX12) (T := TX12) (N := 34) hx hb hts (fun _ h => List.mem_cons_of_mem _ (List.mem_append_right _ h)) hown hK.1 hP 0 rfl rfl 10 (by decide) (hts (.fieldLink RX12 25 "CutAtlasModel" "isMissing" "[Z") (by decide +kernel)) (fun _ h9 => h9) rfl dX12_flow_23 ?_
          refine lv_iload_n hx hb dX12_flow_26 rfl (lv_at hl 3 rfl) ?_
          have h_7 : vp_in a3 40 := in_I (by omega) (by omega)
          refine va_zald hx hb hK.1 hP 5 2 rfl rfl (i := a3) h_7 dX12_flow_27 ?_
          refine lv_topi (fun y_8 ey_8 => ?_)
          refine lv_if_ne (tgt := 42) hx hb dX12_flow_28 (by decide) (fun c_9 => ?_) (fun c_9 => ?_)
          · have t_9 : ¬ y_8.toInt = (0 : Int32).toInt := fun h => c_9 (Int32.toInt_inj.mp h)
            refine lv_ldc (v := (-1000000)) hx hb hown (hts (.constant RX12 187 (-1000000)) (by decide +kernel)) dX12_flow_42 ?_
            rw [hQ]
            exact W.iret (v := (-1000000)) hx hb hr (fun t ht hW => ⟨⟨(-1000000), (), rfl, trivial, f22, f23, f24, (by first | with_reducible assumption | assumption | exact rng_zero (by omega) (by omega) | omega), (by first | with_reducible assumption | assumption | exact rng_zero (by omega) (by omega) | omega), by rw [ht]; exact hP, hD⟩, hS.F ht⟩) hS.2.2 dX12_flow_44
          · have t_9 : y_8.toInt = (0 : Int32).toInt := congrArg Int32.toInt c_9
            refine lv_aload_n hx hb dX12_flow_31 rfl (lv_at hl 0 rfl) ?_
            refine lv_iload_n hx hb dX12_flow_32 rfl (lv_at hl 1 rfl) ?_
            refine lv_iload_n hx hb dX12_flow_33 rfl (lv_at hl 2 rfl) ?_
            refine ct_R hP hD [(mo, .inr (12, [.int 0, .int s1, .long t2, .int s3, .int s4, .ref g5, .ref g6, .ref g7, .ref g8, .ref g9, .ref g10, .int s11, .ref g12, .ref g13, .ref g14, .ref g15, .ref g16, .ref g17, .ref g18, .ref g19, .ref g20, .int s21, .ref g22, .ref g23, .ref g24, .int s25, .int s26, .int s27, .int s28, .ref g29, .ref g30, .ref g31, .ref g32, .ref g33])), (g5, .inl (cy 0, 40, .inl f5)), (g6, .inl (cy 0, 40, .inl f6)), (g7, .inl (cy 0, 40, .inl f7)), (g8, .inl (cy 0, 40, .inl f8)), (g10, .inl (cy 2, 40, .inl f10))] [0, 1, 2, 3, 4, 5] (by decide) rfl (fun hPc hDw => ?_)
            have hFc := va_free (wc := []) hD hS hA [] rfl
            refine va_calli (va_runV (As := [.int a1, .int a2]) (rest := []) ⟨hx, hb, hml, hown, hts⟩ (c_X12_mostOf l D cy H.size mo g5 g6 g7 g8 g9 g10 g12 g13 g14 g15 g16 g17 g18 g19 g20 g22 g23 g24 g29 g30 g31 g32 g33 (0 : Int32) s1 s3 s4 s11 s21 s25 s26 s27 s28 t2 f5 f6 f7 f8 f10 a1 a2 (by first | with_reducible assumption | omega | assumption) (by first | with_reducible assumption | omega | assumption)) (cwV 2 hts gX12_flow_X12_mostOf rfl rfl rfl (by decide +kernel) ⟨Nat.le_of_ble_eq_true rfl, Nat.le_of_ble_eq_true rfl⟩) ⟨bl_, va_recvX hK.1 hP (ci := 12) (q0 := 0) rfl rfl, fun U hU hW => ⟨rfl, by rw [hU], by rw [hU]; exact hPc, kk_mv hW hK, hDw⟩⟩ rfl rfl hl.1 rfl (lv_room (Nat.le_of_ble_eq_true rfl)) dX12_flow_34 ⟨Nat.le_of_ble_eq_true rfl, Nat.le_of_ble_eq_true rfl⟩) hS (fun q _ h => hFc q h) hFc (fun r_10 u t H locs ht hvm hw hB hz1 hk1 hS => ?_)
            have hP : va_P D vwCl _ H := ro_keep hP hk1
            refine lv_ldc (v := 1000000) hx hb hown (hts (.constant RX12 159 (1000000)) (by decide +kernel)) dX12_flow_37 ?_
            refine lv_icmp_ne (tgt := 45) hx hb dX12_flow_39 (by decide) (fun c_11 => ?_) (fun c_11 => ?_)
            · have t_11 : ¬ r_10.toInt = (1000000 : Int32).toInt := fun h => c_11 (Int32.toInt_inj.mp h)
              refine lv_aload_n hx hb dX12_flow_45 rfl (lv_at hl 0 rfl) ?_
              refine lv_iload_n hx hb dX12_flow_46 rfl (lv_at hl 1 rfl) ?_
              refine lv_iload_n hx hb dX12_flow_47 rfl (lv_at hl 2 rfl) ?_
              refine ct_S hP hD hS hA [(mo, .inr (12, [.int 0, .int s1, .long t2, .int s3, .int s4, .ref g5, .ref g6, .ref g7, .ref g8, .ref g9, .ref g10, .int s11, .ref g12, .ref g13, .ref g14, .ref g15, .ref g16, .ref g17, .ref g18, .ref g19, .ref g20, .int s21, .ref g22, .ref g23, .ref g24, .int s25, .int s26, .int s27, .int s28, .ref g29, .ref g30, .ref g31, .ref g32, .ref g33])), (g5, .inl (cy 0, 40, .inl f5)), (g6, .inl (cy 0, 40, .inl f6)), (g7, .inl (cy 0, 40, .inl f7)), (g8, .inl (cy 0, 40, .inl f8)), (g10, .inl (cy 2, 40, .inl f10)), (g22, .inl (cy 0, 40, .inl f22)), (g23, .inl (cy 0, 12, .inl f23)), (g24, .inl (cy 0, 12, .inl f24))] [0, 1, 2, 3, 4, 5, 6, 7, 8] (by decide) rfl (fun hPc hDw hFc hC_ => ?_)
              refine va_callv (va_runV (As := [.int a1, .int a2]) (rest := []) ⟨hx, hb, hml, hown, hts⟩ (c_X12_flowOf l D cy H.size mo g5 g6 g7 g8 g9 g10 g12 g13 g14 g15 g16 g17 g18 g19 g20 g22 g23 g24 g29 g30 g31 g32 g33 (0 : Int32) s1 s3 s4 s11 s21 s25 s26 s27 s28 t2 f5 f6 f7 f8 f10 f22 f23 f24 a1 a2 (by first | with_reducible assumption | omega | assumption) (by first | with_reducible assumption | omega | assumption) (by first | with_reducible assumption | omega | assumption) (by first | with_reducible assumption | omega | assumption) (by first | with_reducible assumption | omega | assumption) (by first | with_reducible assumption | assumption | omega) (by first | with_reducible assumption | assumption | omega) (by first | with_reducible assumption | assumption | omega) (by first | with_reducible assumption | assumption | omega)) (cwV 2 hts gX12_flow_X12_flowOf rfl rfl rfl (by decide +kernel) ⟨Nat.le_of_ble_eq_true rfl, Nat.le_of_ble_eq_true rfl⟩) ⟨bl_, va_recvX hK.1 hP (ci := 12) (q0 := 0) rfl rfl, fun U hU hW => ⟨rfl, by rw [hU], by rw [hU]; exact hPc, kk_mv hW hK, hDw⟩⟩ rfl rfl hl.1 rfl (lv_room (Nat.le_of_ble_eq_true rfl)) dX12_flow_48 ⟨Nat.le_of_ble_eq_true rfl, Nat.le_of_ble_eq_true rfl⟩) hS (fun q _ h => hFc q h) hFc (fun u t H locs ht hvm hw hB hz1 hk1 hS => ?_)
              obtain ⟨e22_13, e23_14, e24_15, g_16, g_17, hP1, hD1⟩ := hB
              rw [ht] at hP1
              obtain ⟨hP, hD⟩ := va_join (wr := []) (w1 := [(mo, .inr (12, [.int 0, .int s1, .long t2, .int s3, .int s4, .ref g5, .ref g6, .ref g7, .ref g8, .ref g9, .ref g10, .int s11, .ref g12, .ref g13, .ref g14, .ref g15, .ref g16, .ref g17, .ref g18, .ref g19, .ref g20, .int s21, .ref g22, .ref g23, .ref g24, .int s25, .int s26, .int s27, .int s28, .ref g29, .ref g30, .ref g31, .ref g32, .ref g33])), (g5, .inl (cy 0, 40, .inl f5)), (g6, .inl (cy 0, 40, .inl f6)), (g7, .inl (cy 0, 40, .inl f7)), (g8, .inl (cy 0, 40, .inl f8)), (g10, .inl (cy 2, 40, .inl f10)), (g22, .inl (cy 0, 40, .inl e22_13)), (g23, .inl (cy 0, 12, .inl e23_14)), (g24, .inl (cy 0, 12, .inl e24_15))]) hP hD [0, 1, 2, 3, 4, 5, 6, 7, 8] [] hC_ rfl (by decide) (by decide) hk1 hFc hP1 hD1
              refine pd_K [(mo, .inr (12, [.int 0, .int s1, .long t2, .int s3, .int s4, .ref g5, .ref g6, .ref g7, .ref g8, .ref g9, .ref g10, .int s11, .ref g12, .ref g13, .ref g14, .ref g15, .ref g16, .ref g17, .ref g18, .ref g19, .ref g20, .int s21, .ref g22, .ref g23, .ref g24, .int s25, .int s26, .int s27, .int s28, .ref g29, .ref g30, .ref g31, .ref g32, .ref g33])), (g5, .inl (cy 0, 40, .inl f5)), (g6, .inl (cy 0, 40, .inl f6)), (g7, .inl (cy 0, 40, .inl f7)), (g8, .inl (cy 0, 40, .inl f8)), (g10, .inl (cy 2, 40, .inl f10)), (g22, .inl (cy 0, 40, .inl e22_13)), (g23, .inl (cy 0, 12, .inl e23_14)), (g24, .inl (cy 0, 12, .inl e24_15))] hP hD (fun hP hD => ?_)
              refine lv_aload_n hx hb dX12_flow_51 rfl (lv_at hl 0 rfl) ?_
              refine va_get (ci := 12) (v := .ref g22) (C := RX12) (T := TX12) (N := 34) hx hb hts (fun _ h => List.mem_cons_of_mem _ (List.mem_append_right _ h)) hown hK.1 hP 0 rfl rfl 22 (by decide) (hts (.fieldLink RX12 61 "CutAtlasModel" "flows" "[I") (by decide +kernel)) (fun _ h9 => h9) rfl dX12_flow_52 ?_
              refine lv_iload_n hx hb dX12_flow_55 rfl (lv_at hl 3 rfl) ?_
              have h_18 : vp_in a3 40 := in_I (by omega) (by omega)
              refine va_iald hx hb hK.1 hP 6 0 rfl rfl (i := a3) h_18 dX12_flow_56 ?_
              refine lv_topi (fun y_19 ey_19 => ?_)
              rw [hQ]
              exact W.iret (v := y_19) hx hb hr (fun t ht hW => ⟨⟨y_19, (), rfl, trivial, e22_13, e23_14, e24_15, (by first | with_reducible assumption | assumption | exact rng_zero (by omega) (by omega) | omega), (by first | with_reducible assumption | assumption | exact rng_zero (by omega) (by omega) | omega), by rw [ht]; exact hP, hD⟩, hS.F ht⟩) hS.2.2 dX12_flow_57
            · have t_11 : r_10.toInt = (1000000 : Int32).toInt := congrArg Int32.toInt c_11
              refine lv_ldc (v := (-1000000)) hx hb hown (hts (.constant RX12 187 (-1000000)) (by decide +kernel)) dX12_flow_42 ?_
              rw [hQ]
              exact W.iret (v := (-1000000)) hx hb hr (fun t ht hW => ⟨⟨(-1000000), (), rfl, trivial, f22, f23, f24, (by first | with_reducible assumption | assumption | exact rng_zero (by omega) (by omega) | omega), (by first | with_reducible assumption | assumption | exact rng_zero (by omega) (by omega) | omega), by rw [ht]; exact hP, hD⟩, hS.F ht⟩) hS.2.2 dX12_flow_44
      · have e_ := e_.symm
        subst e_
        refine lv_if_eq (tgt := 42) hx hb dX12_flow_19 (by decide) (fun c_20 => ?_) (fun c_20 => ?_)
        · have _ := c_20
          refine lv_ldc (v := (-1000000)) hx hb hown (hts (.constant RX12 187 (-1000000)) (by decide +kernel)) dX12_flow_42 ?_
          rw [hQ]
          exact W.iret (v := (-1000000)) hx hb hr (fun t ht hW => ⟨⟨(-1000000), (), rfl, trivial, f22, f23, f24, (by first | with_reducible assumption | assumption | exact rng_zero (by omega) (by omega) | omega), (by first | with_reducible assumption | assumption | exact rng_zero (by omega) (by omega) | omega), by rw [ht]; exact hP, hD⟩, hS.F ht⟩) hS.2.2 dX12_flow_44
        · exact absurd c_20 (by decide)
  · have e_ := e_.symm
    subst e_
    refine lv_if_eq (tgt := 42) hx hb dX12_flow_11 (by decide) (fun c_21 => ?_) (fun c_21 => ?_)
    · have _ := c_21
      refine lv_ldc (v := (-1000000)) hx hb hown (hts (.constant RX12 187 (-1000000)) (by decide +kernel)) dX12_flow_42 ?_
      rw [hQ]
      exact W.iret (v := (-1000000)) hx hb hr (fun t ht hW => ⟨⟨(-1000000), (), rfl, trivial, f22, f23, f24, (by first | with_reducible assumption | assumption | exact rng_zero (by omega) (by omega) | omega), (by first | with_reducible assumption | assumption | exact rng_zero (by omega) (by omega) | omega), by rw [ht]; exact hP, hD⟩, hS.F ht⟩) hS.2.2 dX12_flow_44
    · exact absurd c_21 (by decide)
end

section
theorem nneg {x : Int32} (h : 0 ≤ x.toInt) : ¬ x < 0 := fun q => by
  have a := Int32.lt_iff_toInt_lt.mp q
  have z : (0 : Int32).toInt = 0 := by decide
  omega
theorem rng_cpy {f g : Nat → Int32} {n sp dp k : Nat} {lo hi : Int} (hf : rng f n lo hi) (hg : rng g n lo hi) (h : sp + k ≤ n) : rng (va_cpy f g sp dp k) n lo hi := fun j hj => by
  by_cases e : dp ≤ j ∧ j < dp + k
  · rw [pk_cpy_in e.1 e.2]
    exact hf _ (by omega)
  · rw [pk_cpy_out (by omega)]
    exact hg j hj
theorem prng_cpy {f1 f2 g1 g2 a b : Nat → Int32} {n k : Nat} (ea : a = va_cpy f1 f2 (0 : Int32).toNatClampNeg (0 : Int32).toNatClampNeg k) (eb : b = va_cpy g1 g2 (0 : Int32).toNatClampNeg (0 : Int32).toNatClampNeg k) (h1 : prng f1 g1 n) (h2 : prng f2 g2 n) (hk : k ≤ n) : prng a b n := fun j hj => by
  rw [ea, eb]
  have z : (0 : Int32).toNatClampNeg = 0 := by decide
  rw [z]
  by_cases e : j < k
  · rw [pk_cpy_in (Nat.zero_le _) (by omega), pk_cpy_in (Nat.zero_le _) (by omega)]
    exact h1 _ (by omega)
  · rw [pk_cpy_out (by omega), pk_cpy_out (by omega)]
    exact h2 j hj

set_option maxHeartbeats 4000000 in
set_option maxRecDepth 100000 in
theorem c_X4_whole (l : Launch) (D : va_G) (cy : Nat → ClassId) (sz : Nat) (mm : Nat) (ml : Nat) (mu : Nat) (mk : Int32) (mr : Int32) (fn : Nat → Int64) (a1 : Int32) (a2 : Int32) (q1 : 0 ≤ a1.toInt ∧ a1.toInt ≤ 5) (q2 : 0 ≤ a2.toInt ∧ a2.toInt ≤ 4) : Met l yX4_whole wsX4_whole ({ frames := 1, cells := 0, slots := 0, locals := 22 }) (va_Pc [.ref mm, .int a1, .int a2] (fun U => U.heap.size = sz ∧ va_P D vwCl [(mm, .inr (4, [.int mk, .int mr, .ref ml, .ref mu])), (mu, .inl (cy 1, 30, .inr (.inl fn)))] U.heap ∧ kk_ D cy U ∧ va_D (fun _ => True) [(mm, .inr (4, [.int mk, .int mr, .ref ml, .ref mu])), (mu, .inl (cy 1, 30, .inr (.inl fn)))])) (va_Qi (fun (r : Int32) (_ : Unit) => (r = (fn (5 * a1.toInt + a2.toInt).toNat).toInt32)) (fun (_ : Unit) (_ : State) => True) (va_A [] sz)) 0 0 (va_A [] sz) := by
  refine ofQ (cc := cX4_whole) (maxL := 3) (ret := (some .int)) (by decide) rfl ?_
  intro p e s m args below meth c s₁ Q hQ B hml hv
  obtain ⟨rfl, hsz, hP, hK, hD0⟩ := hv
  have hx := B.exec
  have hb := B.bytes
  have hr := B.returns
  have hts := atoms_spec (ws := wsX4_whole) B.pre
  have hown : s.vm.findClass RX4 = some m.cls := by have h_ := findClass_of_methodNamed B.named; exact h_
  have hlocks := B.notSynchronized
  subst hsz
  have hD : va_D (va_A [] s.heap.size) [] := dd_nil
  generalize hAe : va_A [] s.heap.size = A at hD hQ
  have hA : ∀ q : Nat, s.heap.size ≤ q → A q := fun q h => by rw [← hAe]; exact Or.inr h
  have hS : va_S A s.heap s.heap [] := va_S.rf
  have hl := lv_entry ([.ref mm, .int a1, .int a2]) (n := 3) (Nat.le_of_ble_eq_true rfl)
  rw [lg_entry_eq]
  generalize (lg_sl ([.ref mm, .int a1, .int a2]) ++ List.replicate (3 - (lg_sl ([.ref mm, .int a1, .int a2])).length) Slot.unset).toArray = ls at hl ⊢
  have hl : lv_has ls 3 [(0, .ref mm), (1, .int a1), (2, .int a2)] := hl
  refine lv_aload_n hx hb dX4_whole_0 rfl (lv_at hl 0 rfl) ?_
  refine lv_iload_n hx hb dX4_whole_1 rfl (lv_at hl 1 rfl) ?_
  refine lv_iload_n hx hb dX4_whole_2 rfl (lv_at hl 2 rfl) ?_
  refine ct_R hP hD0 [(mm, .inr (4, [.int mk, .int mr, .ref ml, .ref mu])), (mu, .inl (cy 1, 30, .inr (.inl fn)))] [0, 1] (by decide) rfl (fun hPc hDw => ?_)
  have hFc := va_free (wc := []) hD hS hA [] rfl
  refine va_calll (va_runV (As := [.int a1, .int a2]) (rest := []) ⟨hx, hb, hml, hown, hts⟩ (c_X4_number l D cy s.heap.size mm ml mu mk mr fn a1 a2 (by first | with_reducible assumption | omega | assumption) (by first | with_reducible assumption | omega | assumption)) (cwV 2 hts gX4_whole_X4_number rfl rfl rfl (by decide +kernel) ⟨Nat.le_of_ble_eq_true rfl, Nat.le_of_ble_eq_true rfl⟩) ⟨bl_, va_recvX hK.1 hP (ci := 4) (q0 := 0) rfl rfl, fun U hU hW => ⟨rfl, by rw [hU], by rw [hU]; exact hPc, kk_mv hW hK, hDw⟩⟩ rfl rfl hl.1 rfl (lv_room (Nat.le_of_ble_eq_true rfl)) dX4_whole_3 ⟨Nat.le_of_ble_eq_true rfl, Nat.le_of_ble_eq_true rfl⟩) hS (fun q _ h => hFc q h) hFc (fun r_1 u t H locs ht hvm hw hB hz1 hk1 hS => ?_)
  have hP : va_P D vwCl _ H := ro_keep hP hk1
  have f0_r_1 := hw
  refine lv_l2i (v := r_1.toInt32) hx hb dX4_whole_6 rfl ?_
  rw [hQ]
  exact W.iret (v := (r_1.toInt32)) hx hb hr (fun t ht hW => ⟨⟨(r_1.toInt32), (), rfl, (congrArg Int64.toInt32 (by assumption)), trivial⟩, hS.F ht⟩) hS.2.2 dX4_whole_7

set_option maxHeartbeats 4000000 in
set_option maxRecDepth 100000 in
theorem c_X4_hasNumbers (l : Launch) (D : va_G) (cy : Nat → ClassId) (sz : Nat) (mm : Nat) (ml : Nat) (mu : Nat) (mk : Int32) (mr : Int32) (fl : Nat → Int32) (a1 : Int32) (a2 : Int32) (a3 : Int32) (q1 : 0 ≤ a1.toInt ∧ a1.toInt ≤ 5) (r_fl : rng fl 6 (-9) (5)) : Met l yX4_hasNumbers wsX4_hasNumbers ({ frames := 0, cells := 0, slots := 0, locals := 0 }) (va_Pc [.ref mm, .int a1, .int a2, .int a3] (fun U => U.heap.size = sz ∧ va_P D vwCl [(mm, .inr (4, [.int mk, .int mr, .ref ml, .ref mu])), (ml, .inl (cy 0, 6, .inl fl))] U.heap ∧ kk_ D cy U ∧ va_D (fun _ => True) [(mm, .inr (4, [.int mk, .int mr, .ref ml, .ref mu])), (ml, .inl (cy 0, 6, .inl fl))])) (va_Qi (fun (r : Int32) (_ : Unit) => ((0 ≤ a2.toInt ∧ 0 ≤ a3.toInt ∧ a2.toInt + a3.toInt ≤ (fl a1.toNatClampNeg).toInt) ∧ r = 1) ∨ ((¬ (0 ≤ a2.toInt ∧ 0 ≤ a3.toInt ∧ a2.toInt + a3.toInt ≤ (fl a1.toNatClampNeg).toInt)) ∧ r = 0)) (fun (_ : Unit) (_ : State) => True) (va_A [] sz)) 0 0 (va_A [] sz) := by
  refine ofQ (cc := cX4_hasNumbers) (maxL := 4) (ret := (some .boolean)) (by decide) rfl ?_
  intro p e s m args below meth c s₁ Q hQ B hml hv
  obtain ⟨rfl, hsz, hP, hK, hD0⟩ := hv
  have hx := B.exec
  have hb := B.bytes
  have hr := B.returns
  have hts := atoms_spec (ws := wsX4_hasNumbers) B.pre
  have hown : s.vm.findClass RX4 = some m.cls := by have h_ := findClass_of_methodNamed B.named; exact h_
  have hlocks := B.notSynchronized
  subst hsz
  have hD : va_D (va_A [] s.heap.size) [] := dd_nil
  generalize hAe : va_A [] s.heap.size = A at hD hQ
  have hA : ∀ q : Nat, s.heap.size ≤ q → A q := fun q h => by rw [← hAe]; exact Or.inr h
  have hS : va_S A s.heap s.heap [] := va_S.rf
  have hl := lv_entry ([.ref mm, .int a1, .int a2, .int a3]) (n := 4) (Nat.le_of_ble_eq_true rfl)
  rw [lg_entry_eq]
  generalize (lg_sl ([.ref mm, .int a1, .int a2, .int a3]) ++ List.replicate (4 - (lg_sl ([.ref mm, .int a1, .int a2, .int a3])).length) Slot.unset).toArray = ls at hl ⊢
  have hl : lv_has ls 4 [(0, .ref mm), (1, .int a1), (2, .int a2), (3, .int a3)] := hl
  have z0 : (0 : Int32).toInt = 0 := by decide
  have z1 : (1 : Int32).toInt = 1 := by decide
  refine lv_iload_n hx hb dX4_hasNumbers_0 rfl (lv_at hl 2 rfl) ?_
  refine lv_if_lt (tgt := 34) hx hb dX4_hasNumbers_1 (by decide) (fun c_1 => ?_) (fun c_1 => ?_)
  · have t_1 : a2.toInt < (0 : Int32).toInt := Int32.lt_iff_toInt_lt.mp c_1
    refine lv_iconst (v := 0) hx hb dX4_hasNumbers_34 (by decide) ?_
    rw [hQ]
    exact W.zret (ty := .boolean) (v := 0) hx hb hr (by decide) (fun t ht hW => ⟨⟨0, (), rfl, Or.inr (⟨by omega, rfl⟩), trivial⟩, hS.F ht⟩) hS.2.2 dX4_hasNumbers_35
  · have t_1 : ¬ a2.toInt < (0 : Int32).toInt := fun h => c_1 (Int32.lt_iff_toInt_lt.mpr h)
    refine lv_iload_n hx hb dX4_hasNumbers_4 rfl (lv_at hl 3 rfl) ?_
    refine lv_if_lt (tgt := 34) hx hb dX4_hasNumbers_5 (by decide) (fun c_2 => ?_) (fun c_2 => ?_)
    · have t_2 : a3.toInt < (0 : Int32).toInt := Int32.lt_iff_toInt_lt.mp c_2
      refine lv_iconst (v := 0) hx hb dX4_hasNumbers_34 (by decide) ?_
      rw [hQ]
      exact W.zret (ty := .boolean) (v := 0) hx hb hr (by decide) (fun t ht hW => ⟨⟨0, (), rfl, Or.inr (⟨by omega, rfl⟩), trivial⟩, hS.F ht⟩) hS.2.2 dX4_hasNumbers_35
    · have t_2 : ¬ a3.toInt < (0 : Int32).toInt := fun h => c_2 (Int32.lt_iff_toInt_lt.mpr h)
      refine lv_iload_n hx hb dX4_hasNumbers_8 rfl (lv_at hl 3 rfl) ?_
      refine lv_aload_n hx hb dX4_hasNumbers_9 rfl (lv_at hl 0 rfl) ?_
      refine va_get (ci := 4) (v := .ref ml) (C := RX4) (T := TX4) (N := 4) hx hb hts (fun _ h => List.mem_cons_of_mem _ (List.mem_append_right _ h)) hown hK.1 hP 0 rfl rfl 2 (by decide) (hts (.fieldLink RX4 18 "CutAtlas$NumberMap" "lengths" "[I") (by decide +kernel)) (fun _ h9 => h9) rfl dX4_hasNumbers_10 ?_
      refine lv_iload_n hx hb dX4_hasNumbers_13 rfl (lv_at hl 1 rfl) ?_
      have h_3 : vp_in a1 6 := in_I (by omega) (by omega)
      refine va_iald hx hb hK.1 hP 1 0 rfl rfl (i := a1) h_3 dX4_hasNumbers_14 ?_
      refine lv_topi (fun y_4 ey_4 => ?_)
      have ky_4 : y_4.toInt = (fl a1.toNatClampNeg).toInt := by rw [ey_4]
      have ry_4 : -9 ≤ y_4.toInt ∧ y_4.toInt ≤ 5 := by rw [ey_4]; exact r_fl _ (in_lt h_3)
      refine lv_icmp_gt (tgt := 34) hx hb dX4_hasNumbers_15 (by decide) (fun c_5 => ?_) (fun c_5 => ?_)
      · have t_5 : y_4.toInt < a3.toInt := Int32.lt_iff_toInt_lt.mp c_5
        refine lv_iconst (v := 0) hx hb dX4_hasNumbers_34 (by decide) ?_
        rw [hQ]
        exact W.zret (ty := .boolean) (v := 0) hx hb hr (by decide) (fun t ht hW => ⟨⟨0, (), rfl, Or.inr (⟨by omega, rfl⟩), trivial⟩, hS.F ht⟩) hS.2.2 dX4_hasNumbers_35
      · have t_5 : ¬ y_4.toInt < a3.toInt := fun h => c_5 (Int32.lt_iff_toInt_lt.mpr h)
        refine lv_iload_n hx hb dX4_hasNumbers_18 rfl (lv_at hl 2 rfl) ?_
        refine lv_aload_n hx hb dX4_hasNumbers_19 rfl (lv_at hl 0 rfl) ?_
        refine va_get (ci := 4) (v := .ref ml) (C := RX4) (T := TX4) (N := 4) hx hb hts (fun _ h => List.mem_cons_of_mem _ (List.mem_append_right _ h)) hown hK.1 hP 0 rfl rfl 2 (by decide) (hts (.fieldLink RX4 18 "CutAtlas$NumberMap" "lengths" "[I") (by decide +kernel)) (fun _ h9 => h9) rfl dX4_hasNumbers_20 ?_
        refine lv_iload_n hx hb dX4_hasNumbers_23 rfl (lv_at hl 1 rfl) ?_
        have h_6 : vp_in a1 6 := in_I (by omega) (by omega)
        refine va_iald hx hb hK.1 hP 1 0 rfl rfl (i := a1) h_6 dX4_hasNumbers_24 ?_
        refine lv_topi (fun y_7 ey_7 => ?_)
        have e_ := (ey_7.trans ey_4.symm).symm
        subst e_
        skip
        refine lv_iload_n hx hb dX4_hasNumbers_25 rfl (lv_at hl 3 rfl) ?_
        refine lv_isub hx hb dX4_hasNumbers_26 ?_
        refine lv_topi (fun y_8 ey_8 => ?_)
        have ty_8 : y_8.toInt = y_4.toInt - a3.toInt := by rw [ey_8]; exact subI (by omega) (by omega)
        refine lv_icmp_gt (tgt := 34) hx hb dX4_hasNumbers_27 (by decide) (fun c_9 => ?_) (fun c_9 => ?_)
        · have t_9 : y_8.toInt < a2.toInt := Int32.lt_iff_toInt_lt.mp c_9
          refine lv_iconst (v := 0) hx hb dX4_hasNumbers_34 (by decide) ?_
          rw [hQ]
          exact W.zret (ty := .boolean) (v := 0) hx hb hr (by decide) (fun t ht hW => ⟨⟨0, (), rfl, Or.inr (⟨by omega, rfl⟩), trivial⟩, hS.F ht⟩) hS.2.2 dX4_hasNumbers_35
        · have t_9 : ¬ y_8.toInt < a2.toInt := fun h => c_9 (Int32.lt_iff_toInt_lt.mpr h)
          refine lv_iconst (v := 1) hx hb dX4_hasNumbers_30 (by decide) ?_
          refine lv_goto (tgt := 35) hx hb dX4_hasNumbers_31 (by decide) ?_
          rw [hQ]
          exact W.zret (ty := .boolean) (v := 1) hx hb hr (by decide) (fun t ht hW => ⟨⟨1, (), rfl, Or.inl (⟨by omega, rfl⟩), trivial⟩, hS.F ht⟩) hS.2.2 dX4_hasNumbers_35
end

section
set_option maxHeartbeats 4000000 in
set_option maxRecDepth 100000 in
theorem c_X3_become (l : Launch) (D : va_G) (cy : Nat → ClassId) (sz : Nat) (h0 : Nat) (k1 : Nat) (k2 : Nat) (k3 : Nat) (k4 : Nat) (k5 : Nat) (vp0 : Int32) (vn0 : Int32) (xn : Nat) (n1 : Nat) (n2 : Nat) (n3 : Nat) (n4 : Nat) (n5 : Nat) (vp : Int32) (vn : Int32) (fk0 : Nat → Int32) (fs0 : Nat → Int32) (fe0 : Nat → Int32) (fw0 : Nat → Int32) (fp0 : Nat → Int32) (fk : Nat → Int32) (fs : Nat → Int32) (fe : Nat → Int32) (fw : Nat → Int32) (fp : Nat → Int32) (hvn : 0 ≤ vn.toInt ∧ vn.toInt ≤ 40) (hvp : 0 ≤ vp.toInt ∧ vp.toInt ≤ 12) (p1 : prng fs0 fe0 40) (p2 : prng fs fe 40) (r_fk0 : rng fk0 40 (0) (4)) (r_fw0 : rng fw0 40 (0) (2000)) (r_fp0 : rng fp0 40 (0) (100)) (r_fk : rng fk 40 (0) (4)) (r_fw : rng fw 40 (0) (2000)) (r_fp : rng fp 40 (0) (100)) : Met l yX3_become wsX3_become ({ frames := 1, cells := 0, slots := 0, locals := 40 }) (va_Pc [.ref h0, .ref xn] (fun U => U.heap.size = sz ∧ va_P D vwCl [(h0, .inr (3, [.int vp0, .int vn0, .ref k1, .ref k2, .ref k3, .ref k4, .ref k5])), (k1, .inl (cy 0, 40, .inl fk0)), (k2, .inl (cy 0, 40, .inl fs0)), (k3, .inl (cy 0, 40, .inl fe0)), (k4, .inl (cy 0, 40, .inl fw0)), (k5, .inl (cy 0, 40, .inl fp0)), (xn, .inr (3, [.int vp, .int vn, .ref n1, .ref n2, .ref n3, .ref n4, .ref n5])), (n1, .inl (cy 0, 40, .inl fk)), (n2, .inl (cy 0, 40, .inl fs)), (n3, .inl (cy 0, 40, .inl fe)), (n4, .inl (cy 0, 40, .inl fw)), (n5, .inl (cy 0, 40, .inl fp))] U.heap ∧ kk_ D cy U ∧ va_D (fun _ => True) [(h0, .inr (3, [.int vp0, .int vn0, .ref k1, .ref k2, .ref k3, .ref k4, .ref k5])), (k1, .inl (cy 0, 40, .inl fk0)), (k2, .inl (cy 0, 40, .inl fs0)), (k3, .inl (cy 0, 40, .inl fe0)), (k4, .inl (cy 0, 40, .inl fw0)), (k5, .inl (cy 0, 40, .inl fp0)), (xn, .inr (3, [.int vp, .int vn, .ref n1, .ref n2, .ref n3, .ref n4, .ref n5])), (n1, .inl (cy 0, 40, .inl fk)), (n2, .inl (cy 0, 40, .inl fs)), (n3, .inl (cy 0, 40, .inl fe)), (n4, .inl (cy 0, 40, .inl fw)), (n5, .inl (cy 0, 40, .inl fp))])) (va_Qv (fun (_ : Unit) => True) (fun (_ : Unit) (t : State) => ∃ (fk9 : Nat → Int32), ∃ (fs9 : Nat → Int32), ∃ (fe9 : Nat → Int32), ∃ (fw9 : Nat → Int32), ∃ (fp9 : Nat → Int32), (prng fs9 fe9 40) ∧ (rng fk9 40 (0) (4)) ∧ (rng fw9 40 (0) (2000)) ∧ (rng fp9 40 (0) (100)) ∧ va_P D vwCl [(h0, .inr (3, [.int vp, .int vn, .ref k1, .ref k2, .ref k3, .ref k4, .ref k5])), (k1, .inl (cy 0, 40, .inl fk9)), (k2, .inl (cy 0, 40, .inl fs9)), (k3, .inl (cy 0, 40, .inl fe9)), (k4, .inl (cy 0, 40, .inl fw9)), (k5, .inl (cy 0, 40, .inl fp9)), (xn, .inr (3, [.int vp, .int vn, .ref n1, .ref n2, .ref n3, .ref n4, .ref n5])), (n1, .inl (cy 0, 40, .inl fk)), (n2, .inl (cy 0, 40, .inl fs)), (n3, .inl (cy 0, 40, .inl fe)), (n4, .inl (cy 0, 40, .inl fw)), (n5, .inl (cy 0, 40, .inl fp))] t.heap ∧ va_D (va_A [(h0, .inr (3, [.int vp0, .int vn0, .ref k1, .ref k2, .ref k3, .ref k4, .ref k5])), (k1, .inl (cy 0, 40, .inl fk0)), (k2, .inl (cy 0, 40, .inl fs0)), (k3, .inl (cy 0, 40, .inl fe0)), (k4, .inl (cy 0, 40, .inl fw0)), (k5, .inl (cy 0, 40, .inl fp0)), (xn, .inr (3, [.int vp, .int vn, .ref n1, .ref n2, .ref n3, .ref n4, .ref n5])), (n1, .inl (cy 0, 40, .inl fk)), (n2, .inl (cy 0, 40, .inl fs)), (n3, .inl (cy 0, 40, .inl fe)), (n4, .inl (cy 0, 40, .inl fw)), (n5, .inl (cy 0, 40, .inl fp))] sz) [(h0, .inr (3, [.int vp, .int vn, .ref k1, .ref k2, .ref k3, .ref k4, .ref k5])), (k1, .inl (cy 0, 40, .inl fk9)), (k2, .inl (cy 0, 40, .inl fs9)), (k3, .inl (cy 0, 40, .inl fe9)), (k4, .inl (cy 0, 40, .inl fw9)), (k5, .inl (cy 0, 40, .inl fp9)), (xn, .inr (3, [.int vp, .int vn, .ref n1, .ref n2, .ref n3, .ref n4, .ref n5])), (n1, .inl (cy 0, 40, .inl fk)), (n2, .inl (cy 0, 40, .inl fs)), (n3, .inl (cy 0, 40, .inl fe)), (n4, .inl (cy 0, 40, .inl fw)), (n5, .inl (cy 0, 40, .inl fp))]) (va_A [(h0, .inr (3, [.int vp0, .int vn0, .ref k1, .ref k2, .ref k3, .ref k4, .ref k5])), (k1, .inl (cy 0, 40, .inl fk0)), (k2, .inl (cy 0, 40, .inl fs0)), (k3, .inl (cy 0, 40, .inl fe0)), (k4, .inl (cy 0, 40, .inl fw0)), (k5, .inl (cy 0, 40, .inl fp0)), (xn, .inr (3, [.int vp, .int vn, .ref n1, .ref n2, .ref n3, .ref n4, .ref n5])), (n1, .inl (cy 0, 40, .inl fk)), (n2, .inl (cy 0, 40, .inl fs)), (n3, .inl (cy 0, 40, .inl fe)), (n4, .inl (cy 0, 40, .inl fw)), (n5, .inl (cy 0, 40, .inl fp))] sz)) 0 0 (va_A [(h0, .inr (3, [.int vp0, .int vn0, .ref k1, .ref k2, .ref k3, .ref k4, .ref k5])), (k1, .inl (cy 0, 40, .inl fk0)), (k2, .inl (cy 0, 40, .inl fs0)), (k3, .inl (cy 0, 40, .inl fe0)), (k4, .inl (cy 0, 40, .inl fw0)), (k5, .inl (cy 0, 40, .inl fp0)), (xn, .inr (3, [.int vp, .int vn, .ref n1, .ref n2, .ref n3, .ref n4, .ref n5])), (n1, .inl (cy 0, 40, .inl fk)), (n2, .inl (cy 0, 40, .inl fs)), (n3, .inl (cy 0, 40, .inl fe)), (n4, .inl (cy 0, 40, .inl fw)), (n5, .inl (cy 0, 40, .inl fp))] sz) := by
  refine ofQ (cc := cX3_become) (maxL := 2) (ret := none) (by decide) rfl ?_
  intro p e s m args below meth c s₁ Q hQ B hml hv
  obtain ⟨rfl, hsz, hP, hK, hD0⟩ := hv
  have hx := B.exec
  have hb := B.bytes
  have hr := B.returns
  have hts := atoms_spec (ws := wsX3_become) B.pre
  have hown : s.vm.findClass RX3 = some m.cls := by have h_ := findClass_of_methodNamed B.named; exact h_
  have hlocks := B.notSynchronized
  subst hsz
  have hD := hD0.self (sz := s.heap.size)
  generalize hAe : va_A [(h0, .inr (3, [.int vp0, .int vn0, .ref k1, .ref k2, .ref k3, .ref k4, .ref k5])), (k1, .inl (cy 0, 40, .inl fk0)), (k2, .inl (cy 0, 40, .inl fs0)), (k3, .inl (cy 0, 40, .inl fe0)), (k4, .inl (cy 0, 40, .inl fw0)), (k5, .inl (cy 0, 40, .inl fp0)), (xn, .inr (3, [.int vp, .int vn, .ref n1, .ref n2, .ref n3, .ref n4, .ref n5])), (n1, .inl (cy 0, 40, .inl fk)), (n2, .inl (cy 0, 40, .inl fs)), (n3, .inl (cy 0, 40, .inl fe)), (n4, .inl (cy 0, 40, .inl fw)), (n5, .inl (cy 0, 40, .inl fp))] s.heap.size = A at hD hQ
  have hA : ∀ q : Nat, s.heap.size ≤ q → A q := fun q h => by rw [← hAe]; exact Or.inr h
  have hS : va_S A s.heap s.heap [] := va_S.rf
  have hl := lv_entry ([.ref h0, .ref xn]) (n := 2) (Nat.le_of_ble_eq_true rfl)
  rw [lg_entry_eq]
  generalize (lg_sl ([.ref h0, .ref xn]) ++ List.replicate (2 - (lg_sl ([.ref h0, .ref xn])).length) Slot.unset).toArray = ls at hl ⊢
  have hl : lv_has ls 2 [(0, .ref h0), (1, .ref xn)] := hl
  have z0 : (0 : Int32).toInt = 0 := by decide
  refine lv_aload_n hx hb dX3_become_0 rfl (lv_at hl 0 rfl) ?_
  refine lv_aload_n hx hb dX3_become_1 rfl (lv_at hl 1 rfl) ?_
  refine va_get (ci := 3) (v := .int vp) (C := RX3) (T := TX3) (N := 7) hx hb hts (fun _ h => List.mem_cons_of_mem _ (List.mem_append_right _ h)) hown hK.1 hP 6 rfl rfl 0 (by decide) (hts (.fieldLink RX3 9 "CutAtlas$Net" "places" "I") (by decide +kernel)) (fun _ h9 => h9) rfl dX3_become_2 ?_
  refine va_put (ci := 3) (v := .int vp) (ty := .int) (C := RX3) (T := TX3) (N := 7) hx hb hts (fun _ h => List.mem_cons_of_mem _ (List.mem_append_right _ h)) tyX3 tyX3_ok nmX3 hown hK.1 hP hD hS 0 rfl rfl 0 (by decide) (hts (.fieldLink RX3 9 "CutAtlas$Net" "places" "I") (by decide +kernel)) (fun _ h9 => h9) rfl (by decide +kernel) rfl rfl (Nat.le_of_ble_eq_true rfl) dX3_become_5 (fun H locs hP hD hS => ?_)
  refine pd_K [(h0, .inr (3, [.int vp, .int vn0, .ref k1, .ref k2, .ref k3, .ref k4, .ref k5])), (k1, .inl (cy 0, 40, .inl fk0)), (k2, .inl (cy 0, 40, .inl fs0)), (k3, .inl (cy 0, 40, .inl fe0)), (k4, .inl (cy 0, 40, .inl fw0)), (k5, .inl (cy 0, 40, .inl fp0)), (xn, .inr (3, [.int vp, .int vn, .ref n1, .ref n2, .ref n3, .ref n4, .ref n5])), (n1, .inl (cy 0, 40, .inl fk)), (n2, .inl (cy 0, 40, .inl fs)), (n3, .inl (cy 0, 40, .inl fe)), (n4, .inl (cy 0, 40, .inl fw)), (n5, .inl (cy 0, 40, .inl fp))] hP hD (fun hP hD => ?_)
  refine lv_aload_n hx hb dX3_become_8 rfl (lv_at hl 0 rfl) ?_
  refine lv_aload_n hx hb dX3_become_9 rfl (lv_at hl 1 rfl) ?_
  refine va_get (ci := 3) (v := .int vn) (C := RX3) (T := TX3) (N := 7) hx hb hts (fun _ h => List.mem_cons_of_mem _ (List.mem_append_right _ h)) hown hK.1 hP 6 rfl rfl 1 (by decide) (hts (.fieldLink RX3 15 "CutAtlas$Net" "lines" "I") (by decide +kernel)) (fun _ h9 => h9) rfl dX3_become_10 ?_
  refine va_put (ci := 3) (v := .int vn) (ty := .int) (C := RX3) (T := TX3) (N := 7) hx hb hts (fun _ h => List.mem_cons_of_mem _ (List.mem_append_right _ h)) tyX3 tyX3_ok nmX3 hown hK.1 hP hD hS 0 rfl rfl 1 (by decide) (hts (.fieldLink RX3 15 "CutAtlas$Net" "lines" "I") (by decide +kernel)) (fun _ h9 => h9) rfl (by decide +kernel) rfl rfl (Nat.le_of_ble_eq_true rfl) dX3_become_13 (fun H locs hP hD hS => ?_)
  refine pd_K [(h0, .inr (3, [.int vp, .int vn, .ref k1, .ref k2, .ref k3, .ref k4, .ref k5])), (k1, .inl (cy 0, 40, .inl fk0)), (k2, .inl (cy 0, 40, .inl fs0)), (k3, .inl (cy 0, 40, .inl fe0)), (k4, .inl (cy 0, 40, .inl fw0)), (k5, .inl (cy 0, 40, .inl fp0)), (xn, .inr (3, [.int vp, .int vn, .ref n1, .ref n2, .ref n3, .ref n4, .ref n5])), (n1, .inl (cy 0, 40, .inl fk)), (n2, .inl (cy 0, 40, .inl fs)), (n3, .inl (cy 0, 40, .inl fe)), (n4, .inl (cy 0, 40, .inl fw)), (n5, .inl (cy 0, 40, .inl fp))] hP hD (fun hP hD => ?_)
  refine lv_aload_n hx hb dX3_become_16 rfl (lv_at hl 1 rfl) ?_
  refine va_get (ci := 3) (v := .ref n1) (C := RX3) (T := TX3) (N := 7) hx hb hts (fun _ h => List.mem_cons_of_mem _ (List.mem_append_right _ h)) hown hK.1 hP 6 rfl rfl 2 (by decide) (hts (.fieldLink RX3 18 "CutAtlas$Net" "kinds" "[I") (by decide +kernel)) (fun _ h9 => h9) rfl dX3_become_17 ?_
  refine lv_iconst (v := 0) hx hb dX3_become_20 (by decide) ?_
  refine lv_aload_n hx hb dX3_become_21 rfl (lv_at hl 0 rfl) ?_
  refine va_get (ci := 3) (v := .ref k1) (C := RX3) (T := TX3) (N := 7) hx hb hts (fun _ h => List.mem_cons_of_mem _ (List.mem_append_right _ h)) hown hK.1 hP 0 rfl rfl 2 (by decide) (hts (.fieldLink RX3 18 "CutAtlas$Net" "kinds" "[I") (by decide +kernel)) (fun _ h9 => h9) rfl dX3_become_22 ?_
  refine lv_iconst (v := 0) hx hb dX3_become_25 (by decide) ?_
  refine lv_aload_n hx hb dX3_become_26 rfl (lv_at hl 0 rfl) ?_
  refine va_get (ci := 3) (v := .int vn) (C := RX3) (T := TX3) (N := 7) hx hb hts (fun _ h => List.mem_cons_of_mem _ (List.mem_append_right _ h)) hown hK.1 hP 0 rfl rfl 1 (by decide) (hts (.fieldLink RX3 15 "CutAtlas$Net" "lines" "I") (by decide +kernel)) (fun _ h9 => h9) rfl dX3_become_27 ?_
  have cl_1 := clI (i := (0 : Int32)) (by omega)
  have cl_2 := clI (i := vn) (by omega)
  refine va_copyi hx hb (by rw [hml]; exact hl.1.symm) hown (hts (.methodLink RX3 46 arraycopyName) (by decide +kernel)) (hts (.native arraycopyName) (by decide +kernel)) (hts (.static arraycopyName) (by decide +kernel)) (hts (.initialized "java/lang/System") (by decide +kernel)) hK.1 hP hD hS 7 1 0 0 rfl rfl rfl rfl rfl (sp := (0 : Int32)) (dp := (0 : Int32)) (n := vn) (nneg (by omega)) (nneg (by omega)) (nneg (by omega)) (by omega) (by omega) (fun i h => rfl) (Nat.le_of_ble_eq_true rfl) (Nat.le_of_ble_eq_true rfl) dX3_become_30 (fun H locs hP hD hS => ?_)
  obtain ⟨f_3, ef_3⟩ : ∃ g : Nat → Int32, g = va_cpy fk fk0 (0 : Int32).toNatClampNeg (0 : Int32).toNatClampNeg vn.toNatClampNeg := ⟨_, rfl⟩
  refine pd_K (D := D) (cl := vwCl) (H := H) (A := A) [(h0, .inr (3, [.int vp, .int vn, .ref k1, .ref k2, .ref k3, .ref k4, .ref k5])), (k1, .inl (cy 0, 40, .inl f_3)), (k2, .inl (cy 0, 40, .inl fs0)), (k3, .inl (cy 0, 40, .inl fe0)), (k4, .inl (cy 0, 40, .inl fw0)), (k5, .inl (cy 0, 40, .inl fp0)), (xn, .inr (3, [.int vp, .int vn, .ref n1, .ref n2, .ref n3, .ref n4, .ref n5])), (n1, .inl (cy 0, 40, .inl fk)), (n2, .inl (cy 0, 40, .inl fs)), (n3, .inl (cy 0, 40, .inl fe)), (n4, .inl (cy 0, 40, .inl fw)), (n5, .inl (cy 0, 40, .inl fp))] (by rw [ef_3]; exact hP) (by rw [ef_3]; exact hD) (fun hP hD => ?_)
  have rf_3 : rng f_3 40 (0) (4) := by rw [ef_3]; exact rng_cpy r_fk r_fk0 (by omega)
  refine lv_aload_n hx hb dX3_become_33 rfl (lv_at hl 1 rfl) ?_
  refine va_get (ci := 3) (v := .ref n2) (C := RX3) (T := TX3) (N := 7) hx hb hts (fun _ h => List.mem_cons_of_mem _ (List.mem_append_right _ h)) hown hK.1 hP 6 rfl rfl 3 (by decide) (hts (.fieldLink RX3 22 "CutAtlas$Net" "starts" "[I") (by decide +kernel)) (fun _ h9 => h9) rfl dX3_become_34 ?_
  refine lv_iconst (v := 0) hx hb dX3_become_37 (by decide) ?_
  refine lv_aload_n hx hb dX3_become_38 rfl (lv_at hl 0 rfl) ?_
  refine va_get (ci := 3) (v := .ref k2) (C := RX3) (T := TX3) (N := 7) hx hb hts (fun _ h => List.mem_cons_of_mem _ (List.mem_append_right _ h)) hown hK.1 hP 0 rfl rfl 3 (by decide) (hts (.fieldLink RX3 22 "CutAtlas$Net" "starts" "[I") (by decide +kernel)) (fun _ h9 => h9) rfl dX3_become_39 ?_
  refine lv_iconst (v := 0) hx hb dX3_become_42 (by decide) ?_
  refine lv_aload_n hx hb dX3_become_43 rfl (lv_at hl 0 rfl) ?_
  refine va_get (ci := 3) (v := .int vn) (C := RX3) (T := TX3) (N := 7) hx hb hts (fun _ h => List.mem_cons_of_mem _ (List.mem_append_right _ h)) hown hK.1 hP 0 rfl rfl 1 (by decide) (hts (.fieldLink RX3 15 "CutAtlas$Net" "lines" "I") (by decide +kernel)) (fun _ h9 => h9) rfl dX3_become_44 ?_
  have cl_4 := clI (i := (0 : Int32)) (by omega)
  have cl_5 := clI (i := vn) (by omega)
  refine va_copyi hx hb (by rw [hml]; exact hl.1.symm) hown (hts (.methodLink RX3 46 arraycopyName) (by decide +kernel)) (hts (.native arraycopyName) (by decide +kernel)) (hts (.static arraycopyName) (by decide +kernel)) (hts (.initialized "java/lang/System") (by decide +kernel)) hK.1 hP hD hS 8 2 0 0 rfl rfl rfl rfl rfl (sp := (0 : Int32)) (dp := (0 : Int32)) (n := vn) (nneg (by omega)) (nneg (by omega)) (nneg (by omega)) (by omega) (by omega) (fun i h => rfl) (Nat.le_of_ble_eq_true rfl) (Nat.le_of_ble_eq_true rfl) dX3_become_47 (fun H locs hP hD hS => ?_)
  obtain ⟨f_6, ef_6⟩ : ∃ g : Nat → Int32, g = va_cpy fs fs0 (0 : Int32).toNatClampNeg (0 : Int32).toNatClampNeg vn.toNatClampNeg := ⟨_, rfl⟩
  refine pd_K (D := D) (cl := vwCl) (H := H) (A := A) [(h0, .inr (3, [.int vp, .int vn, .ref k1, .ref k2, .ref k3, .ref k4, .ref k5])), (k1, .inl (cy 0, 40, .inl f_3)), (k2, .inl (cy 0, 40, .inl f_6)), (k3, .inl (cy 0, 40, .inl fe0)), (k4, .inl (cy 0, 40, .inl fw0)), (k5, .inl (cy 0, 40, .inl fp0)), (xn, .inr (3, [.int vp, .int vn, .ref n1, .ref n2, .ref n3, .ref n4, .ref n5])), (n1, .inl (cy 0, 40, .inl fk)), (n2, .inl (cy 0, 40, .inl fs)), (n3, .inl (cy 0, 40, .inl fe)), (n4, .inl (cy 0, 40, .inl fw)), (n5, .inl (cy 0, 40, .inl fp))] (by rw [ef_6]; exact hP) (by rw [ef_6]; exact hD) (fun hP hD => ?_)
  refine lv_aload_n hx hb dX3_become_50 rfl (lv_at hl 1 rfl) ?_
  refine va_get (ci := 3) (v := .ref n3) (C := RX3) (T := TX3) (N := 7) hx hb hts (fun _ h => List.mem_cons_of_mem _ (List.mem_append_right _ h)) hown hK.1 hP 6 rfl rfl 4 (by decide) (hts (.fieldLink RX3 25 "CutAtlas$Net" "ends" "[I") (by decide +kernel)) (fun _ h9 => h9) rfl dX3_become_51 ?_
  refine lv_iconst (v := 0) hx hb dX3_become_54 (by decide) ?_
  refine lv_aload_n hx hb dX3_become_55 rfl (lv_at hl 0 rfl) ?_
  refine va_get (ci := 3) (v := .ref k3) (C := RX3) (T := TX3) (N := 7) hx hb hts (fun _ h => List.mem_cons_of_mem _ (List.mem_append_right _ h)) hown hK.1 hP 0 rfl rfl 4 (by decide) (hts (.fieldLink RX3 25 "CutAtlas$Net" "ends" "[I") (by decide +kernel)) (fun _ h9 => h9) rfl dX3_become_56 ?_
  refine lv_iconst (v := 0) hx hb dX3_become_59 (by decide) ?_
  refine lv_aload_n hx hb dX3_become_60 rfl (lv_at hl 0 rfl) ?_
  refine va_get (ci := 3) (v := .int vn) (C := RX3) (T := TX3) (N := 7) hx hb hts (fun _ h => List.mem_cons_of_mem _ (List.mem_append_right _ h)) hown hK.1 hP 0 rfl rfl 1 (by decide) (hts (.fieldLink RX3 15 "CutAtlas$Net" "lines" "I") (by decide +kernel)) (fun _ h9 => h9) rfl dX3_become_61 ?_
  have cl_7 := clI (i := (0 : Int32)) (by omega)
  have cl_8 := clI (i := vn) (by omega)
  refine va_copyi hx hb (by rw [hml]; exact hl.1.symm) hown (hts (.methodLink RX3 46 arraycopyName) (by decide +kernel)) (hts (.native arraycopyName) (by decide +kernel)) (hts (.static arraycopyName) (by decide +kernel)) (hts (.initialized "java/lang/System") (by decide +kernel)) hK.1 hP hD hS 9 3 0 0 rfl rfl rfl rfl rfl (sp := (0 : Int32)) (dp := (0 : Int32)) (n := vn) (nneg (by omega)) (nneg (by omega)) (nneg (by omega)) (by omega) (by omega) (fun i h => rfl) (Nat.le_of_ble_eq_true rfl) (Nat.le_of_ble_eq_true rfl) dX3_become_64 (fun H locs hP hD hS => ?_)
  obtain ⟨f_9, ef_9⟩ : ∃ g : Nat → Int32, g = va_cpy fe fe0 (0 : Int32).toNatClampNeg (0 : Int32).toNatClampNeg vn.toNatClampNeg := ⟨_, rfl⟩
  refine pd_K (D := D) (cl := vwCl) (H := H) (A := A) [(h0, .inr (3, [.int vp, .int vn, .ref k1, .ref k2, .ref k3, .ref k4, .ref k5])), (k1, .inl (cy 0, 40, .inl f_3)), (k2, .inl (cy 0, 40, .inl f_6)), (k3, .inl (cy 0, 40, .inl f_9)), (k4, .inl (cy 0, 40, .inl fw0)), (k5, .inl (cy 0, 40, .inl fp0)), (xn, .inr (3, [.int vp, .int vn, .ref n1, .ref n2, .ref n3, .ref n4, .ref n5])), (n1, .inl (cy 0, 40, .inl fk)), (n2, .inl (cy 0, 40, .inl fs)), (n3, .inl (cy 0, 40, .inl fe)), (n4, .inl (cy 0, 40, .inl fw)), (n5, .inl (cy 0, 40, .inl fp))] (by rw [ef_9]; exact hP) (by rw [ef_9]; exact hD) (fun hP hD => ?_)
  refine lv_aload_n hx hb dX3_become_67 rfl (lv_at hl 1 rfl) ?_
  refine va_get (ci := 3) (v := .ref n4) (C := RX3) (T := TX3) (N := 7) hx hb hts (fun _ h => List.mem_cons_of_mem _ (List.mem_append_right _ h)) hown hK.1 hP 6 rfl rfl 5 (by decide) (hts (.fieldLink RX3 28 "CutAtlas$Net" "widths" "[I") (by decide +kernel)) (fun _ h9 => h9) rfl dX3_become_68 ?_
  refine lv_iconst (v := 0) hx hb dX3_become_71 (by decide) ?_
  refine lv_aload_n hx hb dX3_become_72 rfl (lv_at hl 0 rfl) ?_
  refine va_get (ci := 3) (v := .ref k4) (C := RX3) (T := TX3) (N := 7) hx hb hts (fun _ h => List.mem_cons_of_mem _ (List.mem_append_right _ h)) hown hK.1 hP 0 rfl rfl 5 (by decide) (hts (.fieldLink RX3 28 "CutAtlas$Net" "widths" "[I") (by decide +kernel)) (fun _ h9 => h9) rfl dX3_become_73 ?_
  refine lv_iconst (v := 0) hx hb dX3_become_76 (by decide) ?_
  refine lv_aload_n hx hb dX3_become_77 rfl (lv_at hl 0 rfl) ?_
  refine va_get (ci := 3) (v := .int vn) (C := RX3) (T := TX3) (N := 7) hx hb hts (fun _ h => List.mem_cons_of_mem _ (List.mem_append_right _ h)) hown hK.1 hP 0 rfl rfl 1 (by decide) (hts (.fieldLink RX3 15 "CutAtlas$Net" "lines" "I") (by decide +kernel)) (fun _ h9 => h9) rfl dX3_become_78 ?_
  have cl_10 := clI (i := (0 : Int32)) (by omega)
  have cl_11 := clI (i := vn) (by omega)
  refine va_copyi hx hb (by rw [hml]; exact hl.1.symm) hown (hts (.methodLink RX3 46 arraycopyName) (by decide +kernel)) (hts (.native arraycopyName) (by decide +kernel)) (hts (.static arraycopyName) (by decide +kernel)) (hts (.initialized "java/lang/System") (by decide +kernel)) hK.1 hP hD hS 10 4 0 0 rfl rfl rfl rfl rfl (sp := (0 : Int32)) (dp := (0 : Int32)) (n := vn) (nneg (by omega)) (nneg (by omega)) (nneg (by omega)) (by omega) (by omega) (fun i h => rfl) (Nat.le_of_ble_eq_true rfl) (Nat.le_of_ble_eq_true rfl) dX3_become_81 (fun H locs hP hD hS => ?_)
  obtain ⟨f_12, ef_12⟩ : ∃ g : Nat → Int32, g = va_cpy fw fw0 (0 : Int32).toNatClampNeg (0 : Int32).toNatClampNeg vn.toNatClampNeg := ⟨_, rfl⟩
  refine pd_K (D := D) (cl := vwCl) (H := H) (A := A) [(h0, .inr (3, [.int vp, .int vn, .ref k1, .ref k2, .ref k3, .ref k4, .ref k5])), (k1, .inl (cy 0, 40, .inl f_3)), (k2, .inl (cy 0, 40, .inl f_6)), (k3, .inl (cy 0, 40, .inl f_9)), (k4, .inl (cy 0, 40, .inl f_12)), (k5, .inl (cy 0, 40, .inl fp0)), (xn, .inr (3, [.int vp, .int vn, .ref n1, .ref n2, .ref n3, .ref n4, .ref n5])), (n1, .inl (cy 0, 40, .inl fk)), (n2, .inl (cy 0, 40, .inl fs)), (n3, .inl (cy 0, 40, .inl fe)), (n4, .inl (cy 0, 40, .inl fw)), (n5, .inl (cy 0, 40, .inl fp))] (by rw [ef_12]; exact hP) (by rw [ef_12]; exact hD) (fun hP hD => ?_)
  have rf_12 : rng f_12 40 (0) (2000) := by rw [ef_12]; exact rng_cpy r_fw r_fw0 (by omega)
  refine lv_aload_n hx hb dX3_become_84 rfl (lv_at hl 1 rfl) ?_
  refine va_get (ci := 3) (v := .ref n5) (C := RX3) (T := TX3) (N := 7) hx hb hts (fun _ h => List.mem_cons_of_mem _ (List.mem_append_right _ h)) hown hK.1 hP 6 rfl rfl 6 (by decide) (hts (.fieldLink RX3 31 "CutAtlas$Net" "prices" "[I") (by decide +kernel)) (fun _ h9 => h9) rfl dX3_become_85 ?_
  refine lv_iconst (v := 0) hx hb dX3_become_88 (by decide) ?_
  refine lv_aload_n hx hb dX3_become_89 rfl (lv_at hl 0 rfl) ?_
  refine va_get (ci := 3) (v := .ref k5) (C := RX3) (T := TX3) (N := 7) hx hb hts (fun _ h => List.mem_cons_of_mem _ (List.mem_append_right _ h)) hown hK.1 hP 0 rfl rfl 6 (by decide) (hts (.fieldLink RX3 31 "CutAtlas$Net" "prices" "[I") (by decide +kernel)) (fun _ h9 => h9) rfl dX3_become_90 ?_
  refine lv_iconst (v := 0) hx hb dX3_become_93 (by decide) ?_
  refine lv_aload_n hx hb dX3_become_94 rfl (lv_at hl 0 rfl) ?_
  refine va_get (ci := 3) (v := .int vn) (C := RX3) (T := TX3) (N := 7) hx hb hts (fun _ h => List.mem_cons_of_mem _ (List.mem_append_right _ h)) hown hK.1 hP 0 rfl rfl 1 (by decide) (hts (.fieldLink RX3 15 "CutAtlas$Net" "lines" "I") (by decide +kernel)) (fun _ h9 => h9) rfl dX3_become_95 ?_
  have cl_13 := clI (i := (0 : Int32)) (by omega)
  have cl_14 := clI (i := vn) (by omega)
  refine va_copyi hx hb (by rw [hml]; exact hl.1.symm) hown (hts (.methodLink RX3 46 arraycopyName) (by decide +kernel)) (hts (.native arraycopyName) (by decide +kernel)) (hts (.static arraycopyName) (by decide +kernel)) (hts (.initialized "java/lang/System") (by decide +kernel)) hK.1 hP hD hS 11 5 0 0 rfl rfl rfl rfl rfl (sp := (0 : Int32)) (dp := (0 : Int32)) (n := vn) (nneg (by omega)) (nneg (by omega)) (nneg (by omega)) (by omega) (by omega) (fun i h => rfl) (Nat.le_of_ble_eq_true rfl) (Nat.le_of_ble_eq_true rfl) dX3_become_98 (fun H locs hP hD hS => ?_)
  obtain ⟨f_15, ef_15⟩ : ∃ g : Nat → Int32, g = va_cpy fp fp0 (0 : Int32).toNatClampNeg (0 : Int32).toNatClampNeg vn.toNatClampNeg := ⟨_, rfl⟩
  refine pd_K (D := D) (cl := vwCl) (H := H) (A := A) [(h0, .inr (3, [.int vp, .int vn, .ref k1, .ref k2, .ref k3, .ref k4, .ref k5])), (k1, .inl (cy 0, 40, .inl f_3)), (k2, .inl (cy 0, 40, .inl f_6)), (k3, .inl (cy 0, 40, .inl f_9)), (k4, .inl (cy 0, 40, .inl f_12)), (k5, .inl (cy 0, 40, .inl f_15)), (xn, .inr (3, [.int vp, .int vn, .ref n1, .ref n2, .ref n3, .ref n4, .ref n5])), (n1, .inl (cy 0, 40, .inl fk)), (n2, .inl (cy 0, 40, .inl fs)), (n3, .inl (cy 0, 40, .inl fe)), (n4, .inl (cy 0, 40, .inl fw)), (n5, .inl (cy 0, 40, .inl fp))] (by rw [ef_15]; exact hP) (by rw [ef_15]; exact hD) (fun hP hD => ?_)
  have rf_15 : rng f_15 40 (0) (100) := by rw [ef_15]; exact rng_cpy r_fp r_fp0 (by omega)
  rw [hQ]
  exact W.vret hx hb hr (fun t ht hW => ⟨⟨(), rfl, trivial, f_3, f_6, f_9, f_12, f_15, (prng_cpy (by assumption) (by assumption) p2 p1 (by omega)), (by first | with_reducible assumption | assumption | exact rng_zero (by omega) (by omega) | omega), (by first | with_reducible assumption | assumption | exact rng_zero (by omega) (by omega) | omega), (by first | with_reducible assumption | assumption | exact rng_zero (by omega) (by omega) | omega), by rw [ht]; exact hP, hD⟩, hS.F ht⟩) hS.2.2 dX3_become_101
end
