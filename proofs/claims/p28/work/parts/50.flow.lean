/-- what line j lets more out of s -/
noncomputable def outI (f5 f6 f7 f8 f10 f22 : Nat → Int32) (s : Int) (j : Nat) : Int := if (f10 j).toInt ≠ 0 then 0 else if (f6 j).toInt = s then rmI (f5 j) (f8 j) 1 - (f22 j).toInt else if (f7 j).toInt = s then rmI (f5 j) (f8 j) 0 + (f22 j).toInt else 0
noncomputable def phi (f5 f6 f7 f8 f10 f22 : Nat → Int32) (s : Int) (n : Nat) : Int := sumI (outI f5 f6 f7 f8 f10 f22 s) n
theorem sumI_nonneg {g : Nat → Int} : ∀ n : Nat, (∀ j : Nat, j < n → 0 ≤ g j) → 0 ≤ sumI g n
  | 0, _ => Int.le_refl 0
  | n + 1, h => by
    have a := sumI_nonneg n (fun j hj => h j (by omega))
    have b := h n (by omega)
    show 0 ≤ sumI g n + g n
    omega
theorem sumI_congr {g h : Nat → Int} : ∀ n : Nat, (∀ j : Nat, j < n → g j = h j) → sumI g n = sumI h n
  | 0, _ => rfl
  | n + 1, e => by
    show sumI g n + g n = sumI h n + h n
    rw [sumI_congr n (fun j hj => e j (by omega)), e n (by omega)]
theorem sumI_one {g h : Nat → Int} {k : Nat} {d : Int} (ho : ∀ j : Nat, j ≠ k → h j = g j) (hk : h k = g k - d) : ∀ n : Nat, k < n → sumI h n = sumI g n - d
  | 0, hn => absurd hn (Nat.not_lt_zero _)
  | n + 1, hn => by
    show sumI h n + h n = sumI g n + g n - d
    by_cases e : k = n
    · subst e
      rw [sumI_congr k (fun j hj => ho j (by omega)), hk]
      omega
    · rw [sumI_one ho hk n (by omega), ho n (fun e9 => e e9.symm)]
      omega
theorem sumI_le0 {g : Nat → Int} : ∀ n : Nat, (∀ j : Nat, j < n → g j ≤ 0) → sumI g n ≤ 0
  | 0, _ => Int.le_refl 0
  | n + 1, h => by
    have a := sumI_le0 n (fun j hj => h j (by omega))
    have b := h n (by omega)
    show sumI g n + g n ≤ 0
    omega
theorem flOK_zero {f5 f8 f22 : Nat → Int32} (hr : rng f8 40 0 2000) (h : ∀ j : Nat, (j : Int) < 40 → (f22 j).toInt = 0) : flOK f5 f8 f22 := fun j hj => by
  have b := hr j hj
  have c1 := rmI_rng (k := f5 j) (b := 1) b.1 b.2
  have c0 := rmI_rng (k := f5 j) (b := 0) b.1 b.2
  have e := h j (by omega)
  omega
theorem zero_st {f f2 : Nat → Int32} {i i2 : Int32} (e : f2 = upd f i.toNatClampNeg 0) (h : ∀ j : Nat, (j : Int) < i.toInt → (f j).toInt = 0) (hi : 0 ≤ i.toInt) (ei : i2.toInt = i.toInt + 1) : ∀ j : Nat, (j : Int) < i2.toInt → (f2 j).toInt = 0 := fun j hj => by
  have c := clI (i := i) hi
  rw [e]
  by_cases ej : j = i.toNatClampNeg
  · rw [ej, pk_us]
    decide
  · rw [pk_un ej]
    exact h j (by omega)
theorem phi_nonneg {f5 f6 f7 f8 f10 f22 : Nat → Int32} {s : Int} {n : Nat} (h : flOK f5 f8 f22) (hr : rng f8 40 0 2000) (hn : n ≤ 40) : 0 ≤ phi f5 f6 f7 f8 f10 f22 s n := sumI_nonneg n (fun j hj => by
  have a := h j (by omega)
  have b := hr j (by omega)
  have c1 := rmI_rng (k := f5 j) (b := 1) b.1 b.2
  have c0 := rmI_rng (k := f5 j) (b := 0) b.1 b.2
  unfold outI
  (repeat' split) <;> omega)
theorem phi_same {f5 f6 f7 f8 f10 a b : Nat → Int32} {s : Int} {n : Nat} (h : ∀ j : Nat, ((f6 j).toInt = s ∨ (f7 j).toInt = s) → a j = b j) : phi f5 f6 f7 f8 f10 a s n = phi f5 f6 f7 f8 f10 b s n := sumI_congr n (fun j _ => by
  unfold outI
  by_cases h1 : (f6 j).toInt = s
  · rw [h j (Or.inl h1)]
  · by_cases h2 : (f7 j).toInt = s
    · rw [h j (Or.inr h2)]
    · simp only [h1, h2, if_false])
/-- one line carries n more from x to y -/
theorem stepL {f5 f6 f7 f8 f10 F F2 : Nat → Int32} {l v : Int32} {n x y s : Int} {N : Nat} (e : F2 = upd F l.toNatClampNeg v) (hl0 : 0 ≤ l.toInt) (hl : l.toInt < N) (hN : N ≤ 40) (hok : flOK f5 f8 F) (hr : rng f8 40 0 2000) (hn0 : 0 ≤ n) (hn : n ≤ lfI f5 f6 f7 f8 f10 F x y l.toNatClampNeg)
    (hv : v.toInt = (F l.toNatClampNeg).toInt + (if (f10 l.toNatClampNeg).toInt ≠ 0 then 0 else if (f6 l.toNatClampNeg).toInt = x ∧ (f7 l.toNatClampNeg).toInt = y then n else if (f6 l.toNatClampNeg).toInt = y ∧ (f7 l.toNatClampNeg).toInt = x then -n else 0)) (hy : y ≠ s) :
    flOK f5 f8 F2 ∧ (x = s → phi f5 f6 f7 f8 f10 F2 s N = phi f5 f6 f7 f8 f10 F s N - n) ∧ (x ≠ s → ∀ j : Nat, ((f6 j).toInt = s ∨ (f7 j).toInt = s) → F2 j = F j) ∧ (n = 0 → ∀ j : Nat, F2 j = F j) := by
  have c := clI (i := l) hl0
  have hk : l.toNatClampNeg < 40 := by omega
  have a := hok _ hk
  have b := hr _ hk
  have c1 := rmI_rng (k := f5 l.toNatClampNeg) (b := 1) b.1 b.2
  have c0 := rmI_rng (k := f5 l.toNatClampNeg) (b := 0) b.1 b.2
  have ek : F2 l.toNatClampNeg = v := by rw [e]; exact pk_us
  have eo : ∀ j : Nat, j ≠ l.toNatClampNeg → F2 j = F j := fun j hj => by rw [e]; exact pk_un hj
  unfold lfI at hn
  refine ⟨fun j hj => ?_, fun hx => ?_, fun hx j hj => ?_, fun h0 j => ?_⟩
  · by_cases ej : j = l.toNatClampNeg
    · rw [ej, ek]
      split at hn
      · rw [if_pos (by assumption)] at hv
        omega
      · rw [if_neg (by assumption)] at hv
        split at hn
        · rw [if_pos (by assumption)] at hv
          omega
        · rw [if_neg (by assumption)] at hv
          split at hn
          · rw [if_pos (by assumption)] at hv
            omega
          · rw [if_neg (by assumption)] at hv
            omega
    · rw [eo j ej]
      exact hok j hj
  · refine sumI_one (k := l.toNatClampNeg) (fun j hj => ?_) ?_ N (by omega)
    · unfold outI
      rw [eo j hj]
    · unfold outI
      rw [ek]
      subst hx
      split at hn
      · rename_i q0
        rw [if_pos q0] at hv
        rw [if_pos q0, if_pos q0]
        omega
      · rename_i q0
        rw [if_neg q0] at hv
        rw [if_neg q0, if_neg q0]
        split at hn
        · rename_i q2
          rw [if_pos q2] at hv
          rw [if_pos q2.1, if_pos q2.1]
          omega
        · rename_i q2
          rw [if_neg q2] at hv
          split at hn
          · rename_i q3
            rw [if_pos q3] at hv
            have n6 : ¬ (f6 l.toNatClampNeg).toInt = x := fun h => by
              have := q3.1
              omega
            rw [if_neg n6, if_neg n6, if_pos q3.2, if_pos q3.2]
            omega
          · rename_i q3
            rw [if_neg q3] at hv
            rw [show v.toInt = (F l.toNatClampNeg).toInt by omega]
            omega
  · by_cases ej : j = l.toNatClampNeg
    · subst ej
      rw [ek]
      refine Int32.toInt_inj.mp ?_
      rw [hv]
      split at hn
      · rw [if_pos (by assumption)]
        omega
      · rw [if_neg (by assumption)]
        split at hn
        · omega
        · rw [if_neg (by assumption)]
          split at hn
          · omega
          · rw [if_neg (by assumption)]
            omega
    · exact eo j ej
  · by_cases ej : j = l.toNatClampNeg
    · subst ej
      rw [ek]
      refine Int32.toInt_inj.mp ?_
      rw [hv, h0]
      (repeat' split) <;> omega
    · exact eo j ej
theorem lfI_same {f5 f6 f7 f8 f10 a b : Nat → Int32} {x y : Int} {j : Nat} (h : (f6 j).toInt = x ∨ (f7 j).toInt = x → a j = b j) : lfI f5 f6 f7 f8 f10 a x y j = lfI f5 f6 f7 f8 f10 b x y j := by
  unfold lfI
  by_cases h1 : (f6 j).toInt = x
  · rw [h (Or.inl h1)]
  · by_cases h2 : (f7 j).toInt = x
    · rw [h (Or.inr h2)]
    · simp only [h1, h2, false_and, and_false, if_false]
