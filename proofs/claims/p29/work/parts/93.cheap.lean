section
/-! ===== the reference's cheapest: costs of a step, and that its search ends ===== -/
/-- what a line costs to be wider by one; -9: it can't be -/
noncomputable def cst (k p : Int) : Int := if k = 3 then p else if k = 4 then p + 1 else -9
theorem cst_rng {k p : Int} (h0 : 0 ≤ p) (h1 : p ≤ 100) : cst k p = -9 ∨ (0 ≤ cst k p ∧ cst k p ≤ 101) := by
  unfold cst
  (repeat' split) <;> omega
noncomputable def stI (c w0 w1 f : Int) : Int := if f < 0 ∧ w0 < -f then -c else if f < w1 then 0 else if c = -9 then 1000000 else c
noncomputable def amI (w0 w1 f : Int) : Int := if f < 0 ∧ w0 < -f then -f - w0 else if f < w1 then w1 - f else 1000000
theorem stI_cs (c w0 w1 f : Int) : ((f < 0 ∧ w0 < -f) ∧ stI c w0 w1 f = -c) ∨ (¬ (f < 0 ∧ w0 < -f) ∧ f < w1 ∧ stI c w0 w1 f = 0) ∨ (¬ (f < 0 ∧ w0 < -f) ∧ w1 ≤ f ∧ c = -9 ∧ stI c w0 w1 f = 1000000) ∨ (¬ (f < 0 ∧ w0 < -f) ∧ w1 ≤ f ∧ c ≠ -9 ∧ stI c w0 w1 f = c) := by
  unfold stI
  (repeat' split) <;> omega
theorem amI_cs (w0 w1 f : Int) : ((f < 0 ∧ w0 < -f) ∧ amI w0 w1 f = -f - w0) ∨ (¬ (f < 0 ∧ w0 < -f) ∧ f < w1 ∧ amI w0 w1 f = w1 - f) ∨ (¬ (f < 0 ∧ w0 < -f) ∧ w1 ≤ f ∧ amI w0 w1 f = 1000000) := by
  unfold amI
  (repeat' split) <;> omega
/-- n more over a line, whose step is just what the places differ by -/
theorem st_push {c w0 w1 f n d : Int} (hc : c = -9 ∨ (0 ≤ c ∧ c ≤ 101)) (h0 : 0 ≤ w0) (h1 : 0 ≤ w1) (hd : d = stI c w0 w1 f) (hlt : stI c w0 w1 f < 1000000) (hn : 1 ≤ n) (hna : n ≤ amI w0 w1 f) (hr : c = -9 → -w0 ≤ f ∧ f ≤ w1) :
    (stI c w0 w1 (f + n) < 1000000 → d ≤ stI c w0 w1 (f + n)) ∧ (stI c w1 w0 (-(f + n)) < 1000000 → -d ≤ stI c w1 w0 (-(f + n))) ∧ (c = -9 → -w0 ≤ f + n ∧ f + n ≤ w1) := by
  have a1 := stI_cs c w0 w1 f
  have a2 := stI_cs c w0 w1 (f + n)
  have a3 := stI_cs c w1 w0 (-(f + n))
  have a4 := amI_cs w0 w1 f
  refine ⟨fun h => ?_, fun h => ?_, fun h => ?_⟩
  · rcases a1 with a1 | a1 | a1 | a1 <;> rcases a4 with a4 | a4 | a4 <;> first | (exfalso; omega) | (rcases a2 with a2 | a2 | a2 | a2 <;> omega)
  · rcases a1 with a1 | a1 | a1 | a1 <;> rcases a4 with a4 | a4 | a4 <;> first | (exfalso; omega) | (rcases a3 with a3 | a3 | a3 | a3 <;> omega)
  · rcases a1 with a1 | a1 | a1 | a1 <;> rcases a4 with a4 | a4 | a4 <;> omega
noncomputable def eS (f5 f8 f9 F : Nat → Int32) (j : Nat) (b : Int) : Int := if b ≠ 0 then stI (cst (f5 j).toInt (f9 j).toInt) (rmI (f5 j) (f8 j) 0) (rmI (f5 j) (f8 j) 1) (F j).toInt else stI (cst (f5 j).toInt (f9 j).toInt) (rmI (f5 j) (f8 j) 1) (rmI (f5 j) (f8 j) 0) (-(F j).toInt)
noncomputable def eA (f5 f8 F : Nat → Int32) (j : Nat) (b : Int) : Int := if b ≠ 0 then amI (rmI (f5 j) (f8 j) 0) (rmI (f5 j) (f8 j) 1) (F j).toInt else amI (rmI (f5 j) (f8 j) 1) (rmI (f5 j) (f8 j) 0) (-(F j).toInt)
/-! ===== ways by their costs, in general: edges e < E from x e to y e for c e, those that are ok ===== -/
noncomputable def mnE (g : Nat → Int) : Nat → Int → Int
  | 0, a => a
  | n + 1, a => if g n < mnE g n a then g n else mnE g n a
theorem mnE_le {g : Nat → Int} {a : Int} : ∀ n : Nat, mnE g n a ≤ a
  | 0 => Int.le_refl _
  | n + 1 => by
    have h := mnE_le (g := g) (a := a) n
    show (if g n < mnE g n a then g n else mnE g n a) ≤ a
    split <;> omega
theorem mnE_leg {g : Nat → Int} {a : Int} : ∀ (n i : Nat), i < n → mnE g n a ≤ g i
  | 0, i, h => absurd h (Nat.not_lt_zero _)
  | n + 1, i, h => by
    show (if g n < mnE g n a then g n else mnE g n a) ≤ g i
    by_cases e : i = n
    · subst e
      split <;> omega
    · have q := mnE_leg (g := g) (a := a) n i (by omega)
      split <;> omega
theorem mnE_at {g : Nat → Int} {a : Int} : ∀ n : Nat, mnE g n a = a ∨ ∃ i : Nat, i < n ∧ mnE g n a = g i
  | 0 => Or.inl rfl
  | n + 1 => by
    have h := mnE_at (g := g) (a := a) n
    show (if g n < mnE g n a then g n else mnE g n a) = a ∨ ∃ i : Nat, i < n + 1 ∧ (if g n < mnE g n a then g n else mnE g n a) = g i
    by_cases q : g n < mnE g n a
    · rw [if_pos q]
      exact Or.inr ⟨n, by omega, rfl⟩
    · rw [if_neg q]
      rcases h with h | ⟨i, hi, h⟩
      · exact Or.inl h
      · exact Or.inr ⟨i, by omega, h⟩
section WAYS
variable {x y : Nat → Nat} {c : Nat → Int} {ok : Nat → Bool} {E s P : Nat} {pi : Nat → Int}
noncomputable def dst (x y : Nat → Nat) (c : Nat → Int) (ok : Nat → Bool) (E s : Nat) : Nat → Nat → Int
  | 0, v => if v = s then 0 else 1099511627776
  | k + 1, v => mnE (fun e => if ok e = true ∧ y e = v ∧ dst x y c ok E s k (x e) < 1099511627776 then dst x y c ok E s k (x e) + c e else 1099511627776) E (dst x y c ok E s k v)
theorem dst_s (k v : Nat) : dst x y c ok E s (k + 1) v ≤ dst x y c ok E s k v := mnE_le E
theorem dst_mono : ∀ (k j v : Nat), j ≤ k → dst x y c ok E s k v ≤ dst x y c ok E s j v
  | 0, j, v, h => by
    obtain rfl : j = 0 := by omega
    exact Int.le_refl _
  | k + 1, j, v, h => by
    by_cases e : j = k + 1
    · subst e
      exact Int.le_refl _
    · exact Int.le_trans (dst_s k v) (dst_mono k j v (by omega))
theorem dst_inf (k v : Nat) : dst x y c ok E s k v ≤ 1099511627776 := by
  refine Int.le_trans (dst_mono k 0 v (Nat.zero_le _)) ?_
  show (if v = s then 0 else 1099511627776) ≤ 1099511627776
  split <;> decide
theorem dst_e {k e : Nat} (he : e < E) (ho : ok e = true) (hx : dst x y c ok E s k (x e) < 1099511627776) : dst x y c ok E s (k + 1) (y e) ≤ dst x y c ok E s k (x e) + c e := by
  have h := mnE_leg (g := fun e9 => if ok e9 = true ∧ y e9 = y e ∧ dst x y c ok E s k (x e9) < 1099511627776 then dst x y c ok E s k (x e9) + c e9 else 1099511627776) (a := dst x y c ok E s k (y e)) E e he
  have h2 : dst x y c ok E s (k + 1) (y e) ≤ (if ok e = true ∧ y e = y e ∧ dst x y c ok E s k (x e) < 1099511627776 then dst x y c ok E s k (x e) + c e else 1099511627776) := h
  rw [if_pos ⟨ho, rfl, hx⟩] at h2
  exact h2
theorem dst_at {k v : Nat} (h : dst x y c ok E s (k + 1) v < dst x y c ok E s k v) : ∃ e : Nat, e < E ∧ ok e = true ∧ y e = v ∧ dst x y c ok E s k (x e) < 1099511627776 ∧ dst x y c ok E s (k + 1) v = dst x y c ok E s k (x e) + c e := by
  have a := mnE_at (g := fun e => if ok e = true ∧ y e = v ∧ dst x y c ok E s k (x e) < 1099511627776 then dst x y c ok E s k (x e) + c e else 1099511627776) (a := dst x y c ok E s k v) E
  have i := dst_inf (x := x) (y := y) (c := c) (ok := ok) (E := E) (s := s) k v
  rcases a with a | ⟨e, he, a⟩
  · have a2 : dst x y c ok E s (k + 1) v = dst x y c ok E s k v := a
    omega
  · have a2 : dst x y c ok E s (k + 1) v = (if ok e = true ∧ y e = v ∧ dst x y c ok E s k (x e) < 1099511627776 then dst x y c ok E s k (x e) + c e else 1099511627776) := a
    by_cases q : ok e = true ∧ y e = v ∧ dst x y c ok E s k (x e) < 1099511627776
    · rw [if_pos q] at a2
      exact ⟨e, he, q.1, q.2.1, q.2.2, a2⟩
    · rw [if_neg q] at a2
      omega
theorem dst_lo (hc : ∀ e : Nat, e < E → ok e = true → -101 ≤ c e) : ∀ k v : Nat, -(101 * (k : Int)) ≤ dst x y c ok E s k v
  | 0, v => by
    show -(101 * ((0 : Nat) : Int)) ≤ (if v = s then 0 else 1099511627776)
    split <;> decide
  | k + 1, v => by
    have i := dst_lo hc k
    rcases Int.lt_or_le (dst x y c ok E s (k + 1) v) (dst x y c ok E s k v) with h | h
    · obtain ⟨e, he, ho, _, _, h2⟩ := dst_at h
      have a := i (x e)
      have b := hc e he ho
      omega
    · have a := i v
      omega
theorem dst_hi (hc : ∀ e : Nat, e < E → ok e = true → c e < 1000000) : ∀ k v : Nat, dst x y c ok E s k v < 1099511627776 → dst x y c ok E s k v ≤ 1000000 * (k : Int)
  | 0, v, h => by
    have e0 : dst x y c ok E s 0 v = if v = s then 0 else 1099511627776 := rfl
    rw [e0] at h ⊢
    by_cases e : v = s
    · rw [if_pos e]
      decide
    · rw [if_neg e] at h
      omega
  | k + 1, v, h => by
    rcases Int.lt_or_le (dst x y c ok E s (k + 1) v) (dst x y c ok E s k v) with q | q
    · obtain ⟨e, he, ho, _, hx, h2⟩ := dst_at q
      have a := dst_hi hc k (x e) hx
      have b := hc e he ho
      omega
    · have m := dst_s (x := x) (y := y) (c := c) (ok := ok) (E := E) (s := s) k v
      have a := dst_hi hc k v (by omega)
      omega
theorem dst_pi (hp : ∀ e : Nat, e < E → ok e = true → pi (y e) ≤ pi (x e) + c e) : ∀ k v : Nat, dst x y c ok E s k v < 1099511627776 → pi v - pi s ≤ dst x y c ok E s k v
  | 0, v, h => by
    have e0 : dst x y c ok E s 0 v = if v = s then 0 else 1099511627776 := rfl
    rw [e0] at h ⊢
    by_cases e : v = s
    · rw [if_pos e, e]
      omega
    · rw [if_neg e] at h
      omega
  | k + 1, v, h => by
    rcases Int.lt_or_le (dst x y c ok E s (k + 1) v) (dst x y c ok E s k v) with q | q
    · obtain ⟨e, he, ho, ey, hx, h2⟩ := dst_at q
      have a := dst_pi hp k (x e) hx
      have b := hp e he ho
      rw [ey] at b
      omega
    · have m := dst_s (x := x) (y := y) (c := c) (ok := ok) (E := E) (s := s) k v
      have a := dst_pi hp k v (by omega)
      omega
/-- a way that is better still at the k-th time has k + 1 steps -/
theorem dst_ch (hp : ∀ e : Nat, e < E → ok e = true → pi (y e) ≤ pi (x e) + c e) (hv : ∀ e : Nat, e < E → ok e = true → x e < P ∧ y e < P) : ∀ k v : Nat, dst x y c ok E s (k + 1) v < dst x y c ok E s k v →
    ∃ u : Nat → Nat, u (k + 1) = v ∧ (∀ i : Nat, i ≤ k + 1 → u i < P) ∧ (∀ i : Nat, i ≤ k → dst x y c ok E s (i + 1) (u (i + 1)) < dst x y c ok E s i (u (i + 1))) ∧ (∀ i : Nat, i ≤ k → dst x y c ok E s i (u i) - pi (u i) ≤ dst x y c ok E s (i + 1) (u (i + 1)) - pi (u (i + 1)))
  | 0, v, h => by
    obtain ⟨e, he, ho, ey, hx, h2⟩ := dst_at h
    have b := hp e he ho
    have w := hv e he ho
    refine ⟨fun i => if i = 0 then x e else v, rfl, fun i hi => ?_, fun i hi => ?_, fun i hi => ?_⟩
    · show (if i = 0 then x e else v) < P
      split
      · exact w.1
      · rw [← ey]; exact w.2
    · obtain rfl : i = 0 := by omega
      exact h
    · obtain rfl : i = 0 := by omega
      show dst x y c ok E s 0 (x e) - pi (x e) ≤ dst x y c ok E s (0 + 1) v - pi v
      rw [ey] at b
      omega
  | k + 1, v, h => by
    obtain ⟨e, he, ho, ey, hx, h2⟩ := dst_at h
    have b := hp e he ho
    have w := hv e he ho
    have hlt : dst x y c ok E s (k + 1) (x e) < dst x y c ok E s k (x e) := by
      rcases Int.lt_or_le (dst x y c ok E s (k + 1) (x e)) (dst x y c ok E s k (x e)) with q | q
      · exact q
      · have m := dst_s (x := x) (y := y) (c := c) (ok := ok) (E := E) (s := s) k (x e)
        have d := dst_e (x := x) (y := y) (c := c) (s := s) (k := k) he ho (by omega)
        rw [ey] at d
        omega
    obtain ⟨u, u1, u2, u3, u4⟩ := dst_ch hp hv k (x e) hlt
    have n1 : ∀ i : Nat, i ≤ k + 1 → (fun i => if i ≤ k + 1 then u i else v) i = u i := fun i hi => if_pos hi
    have n2 : (fun i => if i ≤ k + 1 then u i else v) (k + 1 + 1) = v := if_neg (by omega)
    refine ⟨fun i => if i ≤ k + 1 then u i else v, n2, fun i hi => ?_, fun i hi => ?_, fun i hi => ?_⟩
    · by_cases q : i ≤ k + 1
      · rw [n1 i q]
        exact u2 i q
      · rw [show i = k + 1 + 1 by omega, n2, ← ey]
        exact w.2
    · by_cases q : i ≤ k
      · rw [n1 (i + 1) (by omega)]
        exact u3 i q
      · rw [show i = k + 1 by omega, n2]
        exact h
    · by_cases q : i ≤ k
      · rw [n1 (i + 1) (by omega), n1 i (by omega)]
        exact u4 i q
      · rw [show i = k + 1 by omega, n2, n1 (k + 1) (Nat.le_refl _), u1]
        rw [ey] at b
        omega
theorem dst_end (hp : ∀ e : Nat, e < E → ok e = true → pi (y e) ≤ pi (x e) + c e) (hv : ∀ e : Nat, e < E → ok e = true → x e < P ∧ y e < P) {k : Nat} (hk : P ≤ k + 1) (v : Nat) : dst x y c ok E s (k + 1) v = dst x y c ok E s k v := by
  have m := dst_s (x := x) (y := y) (c := c) (ok := ok) (E := E) (s := s) k v
  rcases Int.lt_or_le (dst x y c ok E s (k + 1) v) (dst x y c ok E s k v) with q | q
  · exfalso
    obtain ⟨u, u1, u2, u3, u4⟩ := dst_ch hp hv k v q
    have tel : ∀ d i : Nat, i + d ≤ k + 1 → dst x y c ok E s i (u i) - pi (u i) ≤ dst x y c ok E s (i + d) (u (i + d)) - pi (u (i + d)) := fun d => by
      induction d with
      | zero => exact fun i _ => Int.le_refl _
      | succ d ih =>
        intro i hi
        have a := ih i (by omega)
        have b := u4 (i + d) (by omega)
        exact Int.le_trans a b
    have := pigeon P (k + 2) (fun i => (u i : Int)) (fun i hi => by
      have a := u2 i (by omega)
      exact ⟨by omega, by omega⟩) (fun i j hij hj e => by
      have e2 : u i = u j := by
        have e9 : (u i : Int) = (u j : Int) := e
        omega
      have t := tel (j - i) i (by omega)
      rw [show i + (j - i) = j by omega, e2] at t
      have l := u3 (j - 1) (by omega)
      rw [show j - 1 + 1 = j by omega] at l
      have mo := dst_mono (x := x) (y := y) (c := c) (ok := ok) (E := E) (s := s) (j - 1) i (u j) (by omega)
      omega)
    omega
  · omega
/-! the chain of a search: n steps of p from v to s -/
noncomputable def rcs (p : Nat → Nat) (s : Nat) : Nat → Nat → Prop
  | 0, v => v = s
  | n + 1, v => v ≠ s ∧ rcs p s n (p v)
theorem rcs_un {p : Nat → Nat} {s : Nat} : ∀ (n m v : Nat), rcs p s n v → rcs p s m v → n = m
  | 0, 0, _, _, _ => rfl
  | 0, _ + 1, _, h, h2 => absurd h h2.1
  | _ + 1, 0, _, h, h2 => absurd h2 h.1
  | n + 1, m + 1, v, h, h2 => by rw [rcs_un n m (p v) h.2 h2.2]
noncomputable def itr (p : Nat → Nat) : Nat → Nat → Nat
  | 0, v => v
  | i + 1, v => p (itr p i v)
theorem rcs_itr {p : Nat → Nat} {s n v : Nat} (h : rcs p s n v) : ∀ i : Nat, i ≤ n → rcs p s (n - i) (itr p i v)
  | 0, _ => h
  | i + 1, hi => by
    have a := rcs_itr h i (by omega)
    rw [show n - i = (n - (i + 1)) + 1 by omega] at a
    exact a.2
/-- y hangs at x anew: chains still end at s -/
theorem rcs_up {p q : Nat → Nat} {s P : Nat} {d pi : Nat → Int} {x1 y1 : Nat} {c1 : Int} (hq : ∀ v : Nat, v ≠ y1 → q v = p v) (hqy : q y1 = x1) (hys : y1 ≠ s) (hx1 : x1 < P) (hfx : d x1 < 1099511627776)
    (hc : d x1 + c1 < d y1) (hpi : pi y1 ≤ pi x1 + c1) (ht : ∀ v : Nat, v < P → v ≠ s → d v < 1099511627776 → p v < P ∧ d (p v) < 1099511627776 ∧ d (p v) - pi (p v) ≤ d v - pi v) (hr : ∀ v : Nat, v < P → d v < 1099511627776 → ∃ n : Nat, rcs p s n v) :
    ∀ v : Nat, v < P → (d v < 1099511627776 ∨ v = y1) → ∃ n : Nat, rcs q s n v := by
  have A : ∀ (n v : Nat), v < P → d v < 1099511627776 → rcs p s n v → rcs q s n v ∨ d y1 - pi y1 ≤ d v - pi v := fun n => by
    induction n with
    | zero => exact fun v _ _ h => Or.inl h
    | succ n ih =>
      intro v hv hf h
      by_cases e : v = y1
      · rw [e]
        exact Or.inr (Int.le_refl _)
      · have t := ht v hv h.1 hf
        rcases ih (p v) t.1 t.2.1 h.2 with a | a
        · exact Or.inl ⟨h.1, by rw [hq v e]; exact a⟩
        · exact Or.inr (by omega)
  obtain ⟨m, hm⟩ := hr x1 hx1 hfx
  have hx : rcs q s m x1 := by
    rcases A m x1 hx1 hfx hm with a | a
    · exact a
    · omega
  have B : ∀ (n v : Nat), v < P → d v < 1099511627776 → rcs p s n v → ∃ n2 : Nat, rcs q s n2 v := fun n => by
    induction n with
    | zero => exact fun v _ _ h => ⟨0, h⟩
    | succ n ih =>
      intro v hv hf h
      by_cases e : v = y1
      · exact ⟨m + 1, h.1, by rw [e, hqy]; exact hx⟩
      · have t := ht v hv h.1 hf
        obtain ⟨n2, h2⟩ := ih (p v) t.1 t.2.1 h.2
        exact ⟨n2 + 1, h.1, by rw [hq v e]; exact h2⟩
  intro v hv hf
  by_cases e : v = y1
  · exact ⟨m + 1, by rw [e]; exact hys, by rw [e, hqy]; exact hx⟩
  · rcases hf with hf | hf
    · obtain ⟨n, hn⟩ := hr v hv hf
      exact B n v hv hf hn
    · exact absurd hf e
end WAYS

set_option maxHeartbeats 4000000 in
set_option maxRecDepth 100000 in
theorem c_X12_costs2 (l : Launch) (D : va_G) (cy : Nat → ClassId) (sz : Nat) (mo : Nat) (g5 : Nat) (g6 : Nat) (g7 : Nat) (g8 : Nat) (g9 : Nat) (g10 : Nat) (g12 : Nat) (g13 : Nat) (g14 : Nat) (g15 : Nat) (g16 : Nat) (g17 : Nat) (g18 : Nat) (g19 : Nat) (g20 : Nat) (g22 : Nat) (g23 : Nat) (g24 : Nat) (g29 : Nat) (g30 : Nat) (g31 : Nat) (g32 : Nat) (g33 : Nat) (s0 : Int32) (s1 : Int32) (s3 : Int32) (s4 : Int32) (s11 : Int32) (s21 : Int32) (s25 : Int32) (s26 : Int32) (s27 : Int32) (s28 : Int32) (t2 : Int64) (f5 : Nat → Int32) (f9 : Nat → Int32) (a1 : Int32) (q1 : 0 ≤ a1.toInt ∧ a1.toInt < 40) (r_f9 : rng f9 40 (0) (100)) : Met l yX12_costs wsX12_costs ({ frames := 0, cells := 0, slots := 0, locals := 0 }) (va_Pc [.ref mo, .int a1] (fun U => U.heap.size = sz ∧ va_P D vwCl [(mo, .inr (12, [.int s0, .int s1, .long t2, .int s3, .int s4, .ref g5, .ref g6, .ref g7, .ref g8, .ref g9, .ref g10, .int s11, .ref g12, .ref g13, .ref g14, .ref g15, .ref g16, .ref g17, .ref g18, .ref g19, .ref g20, .int s21, .ref g22, .ref g23, .ref g24, .int s25, .int s26, .int s27, .int s28, .ref g29, .ref g30, .ref g31, .ref g32, .ref g33])), (g5, .inl (cy 0, 40, .inl f5)), (g9, .inl (cy 0, 40, .inl f9))] U.heap ∧ kk_ D cy U ∧ va_D (fun _ => True) [(mo, .inr (12, [.int s0, .int s1, .long t2, .int s3, .int s4, .ref g5, .ref g6, .ref g7, .ref g8, .ref g9, .ref g10, .int s11, .ref g12, .ref g13, .ref g14, .ref g15, .ref g16, .ref g17, .ref g18, .ref g19, .ref g20, .int s21, .ref g22, .ref g23, .ref g24, .int s25, .int s26, .int s27, .int s28, .ref g29, .ref g30, .ref g31, .ref g32, .ref g33])), (g5, .inl (cy 0, 40, .inl f5)), (g9, .inl (cy 0, 40, .inl f9))])) (va_Qi (fun (r : Int32) (_ : Unit) => (r.toInt = cst (f5 a1.toNatClampNeg).toInt (f9 a1.toNatClampNeg).toInt)) (fun (_ : Unit) (_ : State) => True) (va_A [] sz)) 0 0 (va_A [] sz) := by
  refine ofQ (cc := cX12_costs) (maxL := 2) (ret := (some .int)) (by decide) rfl ?_
  intro p e s m args below meth c s₁ Q hQ B hml hv
  obtain ⟨rfl, hsz, hP, hK, hD0⟩ := hv
  have hx := B.exec
  have hb := B.bytes
  have hr := B.returns
  have hts := atoms_spec (ws := wsX12_costs) B.pre
  have hown : s.vm.findClass RX12 = some m.cls := by have h_ := findClass_of_methodNamed B.named; exact h_
  have hlocks := B.notSynchronized
  subst hsz
  have hD : va_D (va_A [] s.heap.size) [] := dd_nil
  generalize hAe : va_A [] s.heap.size = A at hD hQ
  have hA : ∀ q : Nat, s.heap.size ≤ q → A q := fun q h => by rw [← hAe]; exact Or.inr h
  have hS : va_S A s.heap s.heap [] := va_S.rf
  have hl := lv_entry ([.ref mo, .int a1]) (n := 2) (Nat.le_of_ble_eq_true rfl)
  rw [lg_entry_eq]
  generalize (lg_sl ([.ref mo, .int a1]) ++ List.replicate (2 - (lg_sl ([.ref mo, .int a1])).length) Slot.unset).toArray = ls at hl ⊢
  have hl : lv_has ls 2 [(0, .ref mo), (1, .int a1)] := hl
  have zm9 : ((-9) : Int32).toInt = -9 := by decide
  have z1 : (1 : Int32).toInt = 1 := by decide
  have z3 : (3 : Int32).toInt = 3 := by decide
  have z4 : (4 : Int32).toInt = 4 := by decide
  refine lv_aload_n hx hb dX12_costs_0 rfl (lv_at hl 0 rfl) ?_
  refine va_get (ci := 12) (v := .ref g5) (C := RX12) (T := TX12) (N := 34) hx hb hts (fun _ h => List.mem_cons_of_mem _ (List.mem_append_right _ h)) hown hK.1 hP 0 rfl rfl 5 (by decide) (hts (.fieldLink RX12 7 "CutAtlasModel" "kind" "[I") (by decide +kernel)) (fun _ h9 => h9) rfl dX12_costs_1 ?_
  refine lv_iload_n hx hb dX12_costs_4 rfl (lv_at hl 1 rfl) ?_
  have h_1 : vp_in a1 40 := in_I (by omega) (by omega)
  refine va_iald hx hb hK.1 hP 1 0 rfl rfl (i := a1) h_1 dX12_costs_5 ?_
  refine lv_topi (fun y_2 ey_2 => ?_)
  have ky_2 : y_2.toInt = (f5 a1.toNatClampNeg).toInt := by rw [ey_2]
  refine lv_iconst (v := 3) hx hb dX12_costs_6 (by decide) ?_
  refine lv_icmp_ne (tgt := 19) hx hb dX12_costs_7 (by decide) (fun c_3 => ?_) (fun c_3 => ?_)
  · have t_3 : ¬ y_2.toInt = (3 : Int32).toInt := fun h => c_3 (Int32.toInt_inj.mp h)
    refine lv_aload_n hx hb dX12_costs_19 rfl (lv_at hl 0 rfl) ?_
    refine va_get (ci := 12) (v := .ref g5) (C := RX12) (T := TX12) (N := 34) hx hb hts (fun _ h => List.mem_cons_of_mem _ (List.mem_append_right _ h)) hown hK.1 hP 0 rfl rfl 5 (by decide) (hts (.fieldLink RX12 7 "CutAtlasModel" "kind" "[I") (by decide +kernel)) (fun _ h9 => h9) rfl dX12_costs_20 ?_
    refine lv_iload_n hx hb dX12_costs_23 rfl (lv_at hl 1 rfl) ?_
    have h_4 : vp_in a1 40 := in_I (by omega) (by omega)
    refine va_iald hx hb hK.1 hP 1 0 rfl rfl (i := a1) h_4 dX12_costs_24 ?_
    refine lv_topi (fun y_5 ey_5 => ?_)
    have e_ := (ey_5.trans ey_2.symm).symm
    subst e_
    skip
    refine lv_iconst (v := 4) hx hb dX12_costs_25 (by decide) ?_
    refine lv_icmp_ne (tgt := 40) hx hb dX12_costs_26 (by decide) (fun c_6 => ?_) (fun c_6 => ?_)
    · have t_6 : ¬ y_2.toInt = (4 : Int32).toInt := fun h => c_6 (Int32.toInt_inj.mp h)
      refine lv_bipush (v := (-9)) hx hb dX12_costs_40 (by decide) ?_
      rw [hQ]
      exact W.iret (v := (-9)) hx hb hr (fun t ht hW => ⟨⟨(-9), (), rfl, (by unfold cst; (repeat' split) <;> omega), trivial⟩, hS.F ht⟩) hS.2.2 dX12_costs_42
    · have t_6 : y_2.toInt = (4 : Int32).toInt := congrArg Int32.toInt c_6
      refine lv_aload_n hx hb dX12_costs_29 rfl (lv_at hl 0 rfl) ?_
      refine va_get (ci := 12) (v := .ref g9) (C := RX12) (T := TX12) (N := 34) hx hb hts (fun _ h => List.mem_cons_of_mem _ (List.mem_append_right _ h)) hown hK.1 hP 0 rfl rfl 9 (by decide) (hts (.fieldLink RX12 22 "CutAtlasModel" "price" "[I") (by decide +kernel)) (fun _ h9 => h9) rfl dX12_costs_30 ?_
      refine lv_iload_n hx hb dX12_costs_33 rfl (lv_at hl 1 rfl) ?_
      have h_7 : vp_in a1 40 := in_I (by omega) (by omega)
      refine va_iald hx hb hK.1 hP 2 0 rfl rfl (i := a1) h_7 dX12_costs_34 ?_
      refine lv_topi (fun y_8 ey_8 => ?_)
      have ky_8 : y_8.toInt = (f9 a1.toNatClampNeg).toInt := by rw [ey_8]
      have ry_8 : 0 ≤ y_8.toInt ∧ y_8.toInt ≤ 100 := by rw [ey_8]; exact r_f9 _ (in_lt h_7)
      refine lv_iconst (v := 1) hx hb dX12_costs_35 (by decide) ?_
      refine lv_iadd hx hb dX12_costs_36 ?_
      refine lv_topi (fun y_9 ey_9 => ?_)
      have ty_9 : y_9.toInt = y_8.toInt + (1 : Int32).toInt := by rw [ey_9]; exact addI (by omega) (by omega)
      refine lv_goto (tgt := 42) hx hb dX12_costs_37 (by decide) ?_
      rw [hQ]
      exact W.iret (v := y_9) hx hb hr (fun t ht hW => ⟨⟨y_9, (), rfl, (by unfold cst; (repeat' split) <;> omega), trivial⟩, hS.F ht⟩) hS.2.2 dX12_costs_42
  · have t_3 : y_2.toInt = (3 : Int32).toInt := congrArg Int32.toInt c_3
    refine lv_aload_n hx hb dX12_costs_10 rfl (lv_at hl 0 rfl) ?_
    refine va_get (ci := 12) (v := .ref g9) (C := RX12) (T := TX12) (N := 34) hx hb hts (fun _ h => List.mem_cons_of_mem _ (List.mem_append_right _ h)) hown hK.1 hP 0 rfl rfl 9 (by decide) (hts (.fieldLink RX12 22 "CutAtlasModel" "price" "[I") (by decide +kernel)) (fun _ h9 => h9) rfl dX12_costs_11 ?_
    refine lv_iload_n hx hb dX12_costs_14 rfl (lv_at hl 1 rfl) ?_
    have h_10 : vp_in a1 40 := in_I (by omega) (by omega)
    refine va_iald hx hb hK.1 hP 2 0 rfl rfl (i := a1) h_10 dX12_costs_15 ?_
    refine lv_topi (fun y_11 ey_11 => ?_)
    have ky_11 : y_11.toInt = (f9 a1.toNatClampNeg).toInt := by rw [ey_11]
    have ry_11 : 0 ≤ y_11.toInt ∧ y_11.toInt ≤ 100 := by rw [ey_11]; exact r_f9 _ (in_lt h_10)
    refine lv_goto (tgt := 42) hx hb dX12_costs_16 (by decide) ?_
    rw [hQ]
    exact W.iret (v := y_11) hx hb hr (fun t ht hW => ⟨⟨y_11, (), rfl, (by unfold cst; (repeat' split) <;> omega), trivial⟩, hS.F ht⟩) hS.2.2 dX12_costs_42

set_option maxHeartbeats 4000000 in
set_option maxRecDepth 100000 in
theorem c_X12_step2 (l : Launch) (D : va_G) (cy : Nat → ClassId) (sz : Nat) (mo : Nat) (g5 : Nat) (g6 : Nat) (g7 : Nat) (g8 : Nat) (g9 : Nat) (g10 : Nat) (g12 : Nat) (g13 : Nat) (g14 : Nat) (g15 : Nat) (g16 : Nat) (g17 : Nat) (g18 : Nat) (g19 : Nat) (g20 : Nat) (g22 : Nat) (g23 : Nat) (g24 : Nat) (g29 : Nat) (g30 : Nat) (g31 : Nat) (g32 : Nat) (g33 : Nat) (s0 : Int32) (s1 : Int32) (s3 : Int32) (s4 : Int32) (s11 : Int32) (s21 : Int32) (s25 : Int32) (s26 : Int32) (s27 : Int32) (s28 : Int32) (t2 : Int64) (f5 : Nat → Int32) (f8 : Nat → Int32) (f9 : Nat → Int32) (f22 : Nat → Int32) (a1 : Int32) (a2 : Int32) (q1 : 0 ≤ a1.toInt ∧ a1.toInt < 40) (h21 : s21.toInt = -9) (q2 : a2.toInt = 0 ∨ a2.toInt = 1) (hf : -1000 ≤ (f22 a1.toNatClampNeg).toInt ∧ (f22 a1.toNatClampNeg).toInt ≤ 1000) (r_f8 : rng f8 40 (0) (2000)) (r_f9 : rng f9 40 (0) (100)) : Met l yX12_step wsX12_step ({ frames := 2, cells := 0, slots := 0, locals := 46 }) (va_Pc [.ref mo, .int a1, .int a2] (fun U => U.heap.size = sz ∧ va_P D vwCl [(mo, .inr (12, [.int s0, .int s1, .long t2, .int s3, .int s4, .ref g5, .ref g6, .ref g7, .ref g8, .ref g9, .ref g10, .int s11, .ref g12, .ref g13, .ref g14, .ref g15, .ref g16, .ref g17, .ref g18, .ref g19, .ref g20, .int s21, .ref g22, .ref g23, .ref g24, .int s25, .int s26, .int s27, .int s28, .ref g29, .ref g30, .ref g31, .ref g32, .ref g33])), (g5, .inl (cy 0, 40, .inl f5)), (g8, .inl (cy 0, 40, .inl f8)), (g9, .inl (cy 0, 40, .inl f9)), (g22, .inl (cy 0, 40, .inl f22))] U.heap ∧ kk_ D cy U ∧ va_D (fun _ => True) [(mo, .inr (12, [.int s0, .int s1, .long t2, .int s3, .int s4, .ref g5, .ref g6, .ref g7, .ref g8, .ref g9, .ref g10, .int s11, .ref g12, .ref g13, .ref g14, .ref g15, .ref g16, .ref g17, .ref g18, .ref g19, .ref g20, .int s21, .ref g22, .ref g23, .ref g24, .int s25, .int s26, .int s27, .int s28, .ref g29, .ref g30, .ref g31, .ref g32, .ref g33])), (g5, .inl (cy 0, 40, .inl f5)), (g8, .inl (cy 0, 40, .inl f8)), (g9, .inl (cy 0, 40, .inl f9)), (g22, .inl (cy 0, 40, .inl f22))])) (va_Ql (fun (r : Int64) (_ : Unit) => (r.toInt = eS f5 f8 f9 f22 a1.toNatClampNeg a2.toInt)) (fun (_ : Unit) (_ : State) => True) (va_A [] sz)) 0 0 (va_A [] sz) := by
  refine ofQ (cc := cX12_step) (maxL := 7) (ret := (some .long)) (by decide) rfl ?_
  intro p e s m args below meth c s₁ Q hQ B hml hv
  obtain ⟨rfl, hsz, hP, hK, hD0⟩ := hv
  have hx := B.exec
  have hb := B.bytes
  have hr := B.returns
  have hts := atoms_spec (ws := wsX12_step) B.pre
  have hown : s.vm.findClass RX12 = some m.cls := by have h_ := findClass_of_methodNamed B.named; exact h_
  have hlocks := B.notSynchronized
  subst hsz
  have hD : va_D (va_A [] s.heap.size) [] := dd_nil
  generalize hAe : va_A [] s.heap.size = A at hD hQ
  have hA : ∀ q : Nat, s.heap.size ≤ q → A q := fun q h => by rw [← hAe]; exact Or.inr h
  have hS : va_S A s.heap s.heap [] := va_S.rf
  have hl := lv_entry ([.ref mo, .int a1, .int a2]) (n := 7) (Nat.le_of_ble_eq_true rfl)
  rw [lg_entry_eq]
  generalize (lg_sl ([.ref mo, .int a1, .int a2]) ++ List.replicate (7 - (lg_sl ([.ref mo, .int a1, .int a2])).length) Slot.unset).toArray = ls at hl ⊢
  have hl : lv_has ls 7 [(0, .ref mo), (1, .int a1), (2, .int a2)] := hl
  have zm9 : ((-9) : Int32).toInt = -9 := by decide
  have z0 : (0 : Int32).toInt = 0 := by decide
  have zl0 : (0 : Int64).toInt = 0 := by decide
  have z1 : (1 : Int32).toInt = 1 := by decide
  have zl1000000 : (1000000 : Int64).toInt = 1000000 := by decide
  have hv : vp_in a1 40 := in_I (by omega) (by omega)
  have fw := r_f8 _ (in_lt hv)
  have w1 := rmI_rng (k := f5 a1.toNatClampNeg) (b := 1) fw.1 fw.2
  have w0 := rmI_rng (k := f5 a1.toNatClampNeg) (b := 0) fw.1 fw.2
  have f9_ := r_f9 _ (in_lt hv)
  have cr_ := cst_rng (k := (f5 a1.toNatClampNeg).toInt) f9_.1 f9_.2
  rcases b01 q2 with rfl | rfl
  · refine lv_iload_n hx hb dX12_step_0 rfl (lv_at hl 2 rfl) ?_
    refine lv_if_eq (tgt := 13) hx hb dX12_step_1 (by decide) (fun c_1 => ?_) (fun c_1 => ?_)
    · have _ := c_1
      refine lv_aload_n hx hb dX12_step_13 rfl (lv_at hl 0 rfl) ?_
      refine va_get (ci := 12) (v := .ref g22) (C := RX12) (T := TX12) (N := 34) hx hb hts (fun _ h => List.mem_cons_of_mem _ (List.mem_append_right _ h)) hown hK.1 hP 0 rfl rfl 22 (by decide) (hts (.fieldLink RX12 61 "CutAtlasModel" "flows" "[I") (by decide +kernel)) (fun _ h9 => h9) rfl dX12_step_14 ?_
      refine lv_iload_n hx hb dX12_step_17 rfl (lv_at hl 1 rfl) ?_
      have h_2 : vp_in a1 40 := in_I (by omega) (by omega)
      refine va_iald hx hb hK.1 hP 4 0 rfl rfl (i := a1) h_2 dX12_step_18 ?_
      refine lv_topi (fun y_3 ey_3 => ?_)
      have ky_3 : y_3.toInt = (f22 a1.toNatClampNeg).toInt := by rw [ey_3]
      refine lv_ineg hx hb dX12_step_19 ?_
      refine lv_topi (fun y_4 ey_4 => ?_)
      have ty_4 : y_4.toInt = - y_3.toInt := by rw [ey_4]; exact negI (by omega)
      refine lv_istore_n (lv' := [(3, .int y_4), (0, .ref mo), (1, .int a1), (2, .int 0)]) hx hb dX12_step_20 rfl hl (by decide) rfl (fun ls hl => ?_)
      refine lv_aload_n hx hb dX12_step_21 rfl (lv_at hl 1 rfl) ?_
      refine lv_iload_n hx hb dX12_step_22 rfl (lv_at hl 2 rfl) ?_
      refine lv_iload_n hx hb dX12_step_23 rfl (lv_at hl 3 rfl) ?_
      refine ct_R hP hD0 [(mo, .inr (12, [.int s0, .int s1, .long t2, .int s3, .int s4, .ref g5, .ref g6, .ref g7, .ref g8, .ref g9, .ref g10, .int s11, .ref g12, .ref g13, .ref g14, .ref g15, .ref g16, .ref g17, .ref g18, .ref g19, .ref g20, .int s21, .ref g22, .ref g23, .ref g24, .int s25, .int s26, .int s27, .int s28, .ref g29, .ref g30, .ref g31, .ref g32, .ref g33])), (g5, .inl (cy 0, 40, .inl f5)), (g8, .inl (cy 0, 40, .inl f8))] [0, 1, 2] (by decide) rfl (fun hPc hDw => ?_)
      have hFc := va_free (wc := []) hD hS hA [] rfl
      refine va_calli (va_runV (As := [.int a1, .int 0]) (rest := []) ⟨hx, hb, hml, hown, hts⟩ (c_X12_room l D cy s.heap.size mo g5 g6 g7 g8 g9 g10 g12 g13 g14 g15 g16 g17 g18 g19 g20 g22 g23 g24 g29 g30 g31 g32 g33 s0 s1 s3 s4 s11 s21 s25 s26 s27 s28 t2 f5 f8 a1 (0 : Int32) (by first | with_reducible assumption | omega | assumption)) (cwV 2 hts gX12_step_X12_room rfl rfl rfl (by decide +kernel) ⟨Nat.le_of_ble_eq_true rfl, Nat.le_of_ble_eq_true rfl⟩) ⟨bl_, va_recvX hK.1 hP (ci := 12) (q0 := 0) rfl rfl, fun U hU hW => ⟨rfl, by rw [hU], by rw [hU]; exact hPc, kk_mv hW hK, hDw⟩⟩ rfl rfl hl.1 rfl (lv_room (Nat.le_of_ble_eq_true rfl)) dX12_step_24 ⟨Nat.le_of_ble_eq_true rfl, Nat.le_of_ble_eq_true rfl⟩) hS (fun q _ h => hFc q h) hFc (fun r_5 u t H locs ht hvm hw hB hz1 hk1 hS => ?_)
      have hP : va_P D vwCl _ H := ro_keep hP hk1
      have f0_r_5 := hw
      have rI_1 := room_I (r := r_5) (by assumption) (by omega) (by omega) (r_f8 _ (in_lt (in_I (by omega) (by omega))))
      refine lv_istore (lv' := [(4, .int r_5), (3, .int y_4), (0, .ref mo), (1, .int a1), (2, .int 0)]) hx hb dX12_step_27 hl (by decide) rfl (fun ls hl => ?_)
      refine lv_aload_n hx hb dX12_step_29 rfl (lv_at hl 2 rfl) ?_
      refine lv_iload_n hx hb dX12_step_30 rfl (lv_at hl 3 rfl) ?_
      refine lv_iload_n hx hb dX12_step_31 rfl (lv_at hl 4 rfl) ?_
      refine lv_if_ne (tgt := 39) hx hb dX12_step_32 (by decide) (fun c_6 => ?_) (fun c_6 => ?_)
      · exact absurd c_6 (by decide)
      · have _ := c_6
        refine lv_iconst (v := 1) hx hb dX12_step_35 (by decide) ?_
        refine lv_goto (tgt := 40) hx hb dX12_step_36 (by decide) ?_
        refine ct_R hP hD0 [(mo, .inr (12, [.int s0, .int s1, .long t2, .int s3, .int s4, .ref g5, .ref g6, .ref g7, .ref g8, .ref g9, .ref g10, .int s11, .ref g12, .ref g13, .ref g14, .ref g15, .ref g16, .ref g17, .ref g18, .ref g19, .ref g20, .int s21, .ref g22, .ref g23, .ref g24, .int s25, .int s26, .int s27, .int s28, .ref g29, .ref g30, .ref g31, .ref g32, .ref g33])), (g5, .inl (cy 0, 40, .inl f5)), (g8, .inl (cy 0, 40, .inl f8))] [0, 1, 2] (by decide) rfl (fun hPc hDw => ?_)
        have hFc := va_free (wc := []) hD hS hA [] rfl
        refine va_calli (va_runV (As := [.int a1, .int 1]) (rest := []) ⟨hx, hb, hml, hown, hts⟩ (c_X12_room l D cy H.size mo g5 g6 g7 g8 g9 g10 g12 g13 g14 g15 g16 g17 g18 g19 g20 g22 g23 g24 g29 g30 g31 g32 g33 s0 s1 s3 s4 s11 s21 s25 s26 s27 s28 t2 f5 f8 a1 (1 : Int32) (by first | with_reducible assumption | omega | assumption)) (cwV 2 hts gX12_step_X12_room rfl rfl rfl (by decide +kernel) ⟨Nat.le_of_ble_eq_true rfl, Nat.le_of_ble_eq_true rfl⟩) ⟨bl_, va_recvX hK.1 hP (ci := 12) (q0 := 0) rfl rfl, fun U hU hW => ⟨rfl, by rw [hU], by rw [hU]; exact hPc, kk_mv hW hK, hDw⟩⟩ rfl rfl hl.1 rfl (lv_room (Nat.le_of_ble_eq_true rfl)) dX12_step_40 ⟨Nat.le_of_ble_eq_true rfl, Nat.le_of_ble_eq_true rfl⟩) hS (fun q _ h => hFc q h) hFc (fun r_7 u t H locs ht hvm hw hB hz1 hk1 hS => ?_)
        have hP : va_P D vwCl _ H := ro_keep hP hk1
        have f0_r_7 := hw
        have rI_2 := room_I (r := r_7) (by assumption) (by omega) (by omega) (r_f8 _ (in_lt (in_I (by omega) (by omega))))
        refine lv_istore (lv' := [(5, .int r_7), (4, .int r_5), (3, .int y_4), (0, .ref mo), (1, .int a1), (2, .int 0)]) hx hb dX12_step_43 hl (by decide) rfl (fun ls hl => ?_)
        refine lv_aload_n hx hb dX12_step_45 rfl (lv_at hl 3 rfl) ?_
        refine lv_iload_n hx hb dX12_step_46 rfl (lv_at hl 4 rfl) ?_
        refine ct_R hP hD0 [(mo, .inr (12, [.int s0, .int s1, .long t2, .int s3, .int s4, .ref g5, .ref g6, .ref g7, .ref g8, .ref g9, .ref g10, .int s11, .ref g12, .ref g13, .ref g14, .ref g15, .ref g16, .ref g17, .ref g18, .ref g19, .ref g20, .int s21, .ref g22, .ref g23, .ref g24, .int s25, .int s26, .int s27, .int s28, .ref g29, .ref g30, .ref g31, .ref g32, .ref g33])), (g5, .inl (cy 0, 40, .inl f5)), (g9, .inl (cy 0, 40, .inl f9))] [0, 1, 3] (by decide) rfl (fun hPc hDw => ?_)
        have hFc := va_free (wc := []) hD hS hA [] rfl
        refine va_calli (va_runV (As := [.int a1]) (rest := []) ⟨hx, hb, hml, hown, hts⟩ (c_X12_costs2 l D cy H.size mo g5 g6 g7 g8 g9 g10 g12 g13 g14 g15 g16 g17 g18 g19 g20 g22 g23 g24 g29 g30 g31 g32 g33 s0 s1 s3 s4 s11 s21 s25 s26 s27 s28 t2 f5 f9 a1 (by first | with_reducible assumption | omega | assumption) (by first | with_reducible assumption | assumption | omega)) (cwV 1 hts gX12_step_X12_costs rfl rfl rfl (by decide +kernel) ⟨Nat.le_of_ble_eq_true rfl, Nat.le_of_ble_eq_true rfl⟩) ⟨bl_, va_recvX hK.1 hP (ci := 12) (q0 := 0) rfl rfl, fun U hU hW => ⟨rfl, by rw [hU], by rw [hU]; exact hPc, kk_mv hW hK, hDw⟩⟩ rfl rfl hl.1 rfl (lv_room (Nat.le_of_ble_eq_true rfl)) dX12_step_47 ⟨Nat.le_of_ble_eq_true rfl, Nat.le_of_ble_eq_true rfl⟩) hS (fun q _ h => hFc q h) hFc (fun r_8 u t H locs ht hvm hw hB hz1 hk1 hS => ?_)
        have hP : va_P D vwCl _ H := ro_keep hP hk1
        have f0_r_8 := hw
        refine lv_istore (lv' := [(6, .int r_8), (5, .int r_7), (4, .int r_5), (3, .int y_4), (0, .ref mo), (1, .int a1), (2, .int 0)]) hx hb dX12_step_50 hl (by decide) rfl (fun ls hl => ?_)
        refine lv_iload_n hx hb dX12_step_52 rfl (lv_at hl 3 rfl) ?_
        refine lv_if_ge (tgt := 68) hx hb dX12_step_53 (by decide) (fun c_9 => ?_) (fun c_9 => ?_)
        · have t_9 : (0 : Int32).toInt ≤ y_4.toInt := Int32.le_iff_toInt_le.mp c_9
          refine lv_iload_n hx hb dX12_step_68 rfl (lv_at hl 3 rfl) ?_
          refine lv_iload hx hb dX12_step_69 (lv_at hl 2 rfl) ?_
          refine lv_icmp_ge (tgt := 78) hx hb dX12_step_71 (by decide) (fun c_10 => ?_) (fun c_10 => ?_)
          · have t_10 : r_5.toInt ≤ y_4.toInt := Int32.le_iff_toInt_le.mp c_10
            refine lv_iload hx hb dX12_step_78 (lv_at hl 0 rfl) ?_
            refine lv_bipush (v := (-9)) hx hb dX12_step_80 (by decide) ?_
            refine lv_icmp_ne (tgt := 91) hx hb dX12_step_82 (by decide) (fun c_11 => ?_) (fun c_11 => ?_)
            · have t_11 : ¬ r_8.toInt = ((-9) : Int32).toInt := fun h => c_11 (Int32.toInt_inj.mp h)
              refine lv_iload hx hb dX12_step_91 (lv_at hl 0 rfl) ?_
              refine lv_i2l (v := r_8.toInt64) hx hb dX12_step_93 rfl ?_
              have q_93 : (r_8.toInt64).toInt = r_8.toInt := Int32.toInt_toInt64 r_8
              rw [hQ]
              exact W.lret (v := r_8.toInt64) hx hb hr (fun t ht hW => ⟨⟨r_8.toInt64, (), rfl, (by unfold eS stI; (repeat' split) <;> omega), trivial⟩, hS.F ht⟩) hS.2.2 dX12_step_94
            · have t_11 : r_8.toInt = ((-9) : Int32).toInt := congrArg Int32.toInt c_11
              refine lv_ldc2 (v := 1000000) hx hb hown (hts (.constantLong RX12 118 (1000000)) (by decide +kernel)) dX12_step_85 ?_
              refine lv_goto (tgt := 94) hx hb dX12_step_88 (by decide) ?_
              rw [hQ]
              exact W.lret (v := 1000000) hx hb hr (fun t ht hW => ⟨⟨1000000, (), rfl, (by unfold eS stI; (repeat' split) <;> omega), trivial⟩, hS.F ht⟩) hS.2.2 dX12_step_94
          · have t_10 : ¬ r_5.toInt ≤ y_4.toInt := fun h => c_10 (Int32.le_iff_toInt_le.mpr h)
            refine lv_lconst (v := 0) hx hb dX12_step_74 (by decide) ?_
            refine lv_goto (tgt := 94) hx hb dX12_step_75 (by decide) ?_
            rw [hQ]
            exact W.lret (v := 0) hx hb hr (fun t ht hW => ⟨⟨0, (), rfl, (by unfold eS stI; (repeat' split) <;> omega), trivial⟩, hS.F ht⟩) hS.2.2 dX12_step_94
        · have t_9 : ¬ (0 : Int32).toInt ≤ y_4.toInt := fun h => c_9 (Int32.le_iff_toInt_le.mpr h)
          refine lv_iload_n hx hb dX12_step_56 rfl (lv_at hl 3 rfl) ?_
          refine lv_ineg hx hb dX12_step_57 ?_
          refine lv_topi (fun y_12 ey_12 => ?_)
          have ty_12 : y_12.toInt = - y_4.toInt := by rw [ey_12]; exact negI (by omega)
          refine lv_iload hx hb dX12_step_58 (lv_at hl 1 rfl) ?_
          refine lv_icmp_le (tgt := 68) hx hb dX12_step_60 (by decide) (fun c_13 => ?_) (fun c_13 => ?_)
          · have t_13 : y_12.toInt ≤ r_7.toInt := Int32.le_iff_toInt_le.mp c_13
            refine lv_iload_n hx hb dX12_step_68 rfl (lv_at hl 3 rfl) ?_
            refine lv_iload hx hb dX12_step_69 (lv_at hl 2 rfl) ?_
            refine lv_icmp_ge (tgt := 78) hx hb dX12_step_71 (by decide) (fun c_14 => ?_) (fun c_14 => ?_)
            · have t_14 : r_5.toInt ≤ y_4.toInt := Int32.le_iff_toInt_le.mp c_14
              refine lv_iload hx hb dX12_step_78 (lv_at hl 0 rfl) ?_
              refine lv_bipush (v := (-9)) hx hb dX12_step_80 (by decide) ?_
              refine lv_icmp_ne (tgt := 91) hx hb dX12_step_82 (by decide) (fun c_15 => ?_) (fun c_15 => ?_)
              · have t_15 : ¬ r_8.toInt = ((-9) : Int32).toInt := fun h => c_15 (Int32.toInt_inj.mp h)
                refine lv_iload hx hb dX12_step_91 (lv_at hl 0 rfl) ?_
                refine lv_i2l (v := r_8.toInt64) hx hb dX12_step_93 rfl ?_
                have q_93 : (r_8.toInt64).toInt = r_8.toInt := Int32.toInt_toInt64 r_8
                rw [hQ]
                exact W.lret (v := r_8.toInt64) hx hb hr (fun t ht hW => ⟨⟨r_8.toInt64, (), rfl, (by unfold eS stI; (repeat' split) <;> omega), trivial⟩, hS.F ht⟩) hS.2.2 dX12_step_94
              · have t_15 : r_8.toInt = ((-9) : Int32).toInt := congrArg Int32.toInt c_15
                refine lv_ldc2 (v := 1000000) hx hb hown (hts (.constantLong RX12 118 (1000000)) (by decide +kernel)) dX12_step_85 ?_
                refine lv_goto (tgt := 94) hx hb dX12_step_88 (by decide) ?_
                rw [hQ]
                exact W.lret (v := 1000000) hx hb hr (fun t ht hW => ⟨⟨1000000, (), rfl, (by unfold eS stI; (repeat' split) <;> omega), trivial⟩, hS.F ht⟩) hS.2.2 dX12_step_94
            · have t_14 : ¬ r_5.toInt ≤ y_4.toInt := fun h => c_14 (Int32.le_iff_toInt_le.mpr h)
              refine lv_lconst (v := 0) hx hb dX12_step_74 (by decide) ?_
              refine lv_goto (tgt := 94) hx hb dX12_step_75 (by decide) ?_
              rw [hQ]
              exact W.lret (v := 0) hx hb hr (fun t ht hW => ⟨⟨0, (), rfl, (by unfold eS stI; (repeat' split) <;> omega), trivial⟩, hS.F ht⟩) hS.2.2 dX12_step_94
          · have t_13 : ¬ y_12.toInt ≤ r_7.toInt := fun h => c_13 (Int32.le_iff_toInt_le.mpr h)
            refine lv_iload hx hb dX12_step_63 (lv_at hl 0 rfl) ?_
            refine lv_ineg hx hb dX12_step_65 ?_
            refine lv_topi (fun y_16 ey_16 => ?_)
            have ty_16 : y_16.toInt = - r_8.toInt := by rw [ey_16]; exact negI (by omega)
            refine lv_i2l (v := y_16.toInt64) hx hb dX12_step_66 rfl ?_
            have q_66 : (y_16.toInt64).toInt = y_16.toInt := Int32.toInt_toInt64 y_16
            rw [hQ]
            exact W.lret (v := y_16.toInt64) hx hb hr (fun t ht hW => ⟨⟨y_16.toInt64, (), rfl, (by unfold eS stI; (repeat' split) <;> omega), trivial⟩, hS.F ht⟩) hS.2.2 dX12_step_67
    · exact absurd c_1 (by decide)
  · refine lv_iload_n hx hb dX12_step_0 rfl (lv_at hl 2 rfl) ?_
    refine lv_if_eq (tgt := 13) hx hb dX12_step_1 (by decide) (fun c_17 => ?_) (fun c_17 => ?_)
    · exact absurd c_17 (by decide)
    · have _ := c_17
      refine lv_aload_n hx hb dX12_step_4 rfl (lv_at hl 0 rfl) ?_
      refine va_get (ci := 12) (v := .ref g22) (C := RX12) (T := TX12) (N := 34) hx hb hts (fun _ h => List.mem_cons_of_mem _ (List.mem_append_right _ h)) hown hK.1 hP 0 rfl rfl 22 (by decide) (hts (.fieldLink RX12 61 "CutAtlasModel" "flows" "[I") (by decide +kernel)) (fun _ h9 => h9) rfl dX12_step_5 ?_
      refine lv_iload_n hx hb dX12_step_8 rfl (lv_at hl 1 rfl) ?_
      have h_18 : vp_in a1 40 := in_I (by omega) (by omega)
      refine va_iald hx hb hK.1 hP 4 0 rfl rfl (i := a1) h_18 dX12_step_9 ?_
      refine lv_topi (fun y_19 ey_19 => ?_)
      have ky_19 : y_19.toInt = (f22 a1.toNatClampNeg).toInt := by rw [ey_19]
      refine lv_goto (tgt := 20) hx hb dX12_step_10 (by decide) ?_
      refine lv_istore_n (lv' := [(3, .int y_19), (0, .ref mo), (1, .int a1), (2, .int 1)]) hx hb dX12_step_20 rfl hl (by decide) rfl (fun ls hl => ?_)
      refine lv_aload_n hx hb dX12_step_21 rfl (lv_at hl 1 rfl) ?_
      refine lv_iload_n hx hb dX12_step_22 rfl (lv_at hl 2 rfl) ?_
      refine lv_iload_n hx hb dX12_step_23 rfl (lv_at hl 3 rfl) ?_
      refine ct_R hP hD0 [(mo, .inr (12, [.int s0, .int s1, .long t2, .int s3, .int s4, .ref g5, .ref g6, .ref g7, .ref g8, .ref g9, .ref g10, .int s11, .ref g12, .ref g13, .ref g14, .ref g15, .ref g16, .ref g17, .ref g18, .ref g19, .ref g20, .int s21, .ref g22, .ref g23, .ref g24, .int s25, .int s26, .int s27, .int s28, .ref g29, .ref g30, .ref g31, .ref g32, .ref g33])), (g5, .inl (cy 0, 40, .inl f5)), (g8, .inl (cy 0, 40, .inl f8))] [0, 1, 2] (by decide) rfl (fun hPc hDw => ?_)
      have hFc := va_free (wc := []) hD hS hA [] rfl
      refine va_calli (va_runV (As := [.int a1, .int 1]) (rest := []) ⟨hx, hb, hml, hown, hts⟩ (c_X12_room l D cy s.heap.size mo g5 g6 g7 g8 g9 g10 g12 g13 g14 g15 g16 g17 g18 g19 g20 g22 g23 g24 g29 g30 g31 g32 g33 s0 s1 s3 s4 s11 s21 s25 s26 s27 s28 t2 f5 f8 a1 (1 : Int32) (by first | with_reducible assumption | omega | assumption)) (cwV 2 hts gX12_step_X12_room rfl rfl rfl (by decide +kernel) ⟨Nat.le_of_ble_eq_true rfl, Nat.le_of_ble_eq_true rfl⟩) ⟨bl_, va_recvX hK.1 hP (ci := 12) (q0 := 0) rfl rfl, fun U hU hW => ⟨rfl, by rw [hU], by rw [hU]; exact hPc, kk_mv hW hK, hDw⟩⟩ rfl rfl hl.1 rfl (lv_room (Nat.le_of_ble_eq_true rfl)) dX12_step_24 ⟨Nat.le_of_ble_eq_true rfl, Nat.le_of_ble_eq_true rfl⟩) hS (fun q _ h => hFc q h) hFc (fun r_20 u t H locs ht hvm hw hB hz1 hk1 hS => ?_)
      have hP : va_P D vwCl _ H := ro_keep hP hk1
      have f0_r_20 := hw
      have rI_1 := room_I (r := r_20) (by assumption) (by omega) (by omega) (r_f8 _ (in_lt (in_I (by omega) (by omega))))
      refine lv_istore (lv' := [(4, .int r_20), (3, .int y_19), (0, .ref mo), (1, .int a1), (2, .int 1)]) hx hb dX12_step_27 hl (by decide) rfl (fun ls hl => ?_)
      refine lv_aload_n hx hb dX12_step_29 rfl (lv_at hl 2 rfl) ?_
      refine lv_iload_n hx hb dX12_step_30 rfl (lv_at hl 3 rfl) ?_
      refine lv_iload_n hx hb dX12_step_31 rfl (lv_at hl 4 rfl) ?_
      refine lv_if_ne (tgt := 39) hx hb dX12_step_32 (by decide) (fun c_21 => ?_) (fun c_21 => ?_)
      · have _ := c_21
        refine lv_iconst (v := 0) hx hb dX12_step_39 (by decide) ?_
        refine ct_R hP hD0 [(mo, .inr (12, [.int s0, .int s1, .long t2, .int s3, .int s4, .ref g5, .ref g6, .ref g7, .ref g8, .ref g9, .ref g10, .int s11, .ref g12, .ref g13, .ref g14, .ref g15, .ref g16, .ref g17, .ref g18, .ref g19, .ref g20, .int s21, .ref g22, .ref g23, .ref g24, .int s25, .int s26, .int s27, .int s28, .ref g29, .ref g30, .ref g31, .ref g32, .ref g33])), (g5, .inl (cy 0, 40, .inl f5)), (g8, .inl (cy 0, 40, .inl f8))] [0, 1, 2] (by decide) rfl (fun hPc hDw => ?_)
        have hFc := va_free (wc := []) hD hS hA [] rfl
        refine va_calli (va_runV (As := [.int a1, .int 0]) (rest := []) ⟨hx, hb, hml, hown, hts⟩ (c_X12_room l D cy H.size mo g5 g6 g7 g8 g9 g10 g12 g13 g14 g15 g16 g17 g18 g19 g20 g22 g23 g24 g29 g30 g31 g32 g33 s0 s1 s3 s4 s11 s21 s25 s26 s27 s28 t2 f5 f8 a1 (0 : Int32) (by first | with_reducible assumption | omega | assumption)) (cwV 2 hts gX12_step_X12_room rfl rfl rfl (by decide +kernel) ⟨Nat.le_of_ble_eq_true rfl, Nat.le_of_ble_eq_true rfl⟩) ⟨bl_, va_recvX hK.1 hP (ci := 12) (q0 := 0) rfl rfl, fun U hU hW => ⟨rfl, by rw [hU], by rw [hU]; exact hPc, kk_mv hW hK, hDw⟩⟩ rfl rfl hl.1 rfl (lv_room (Nat.le_of_ble_eq_true rfl)) dX12_step_40 ⟨Nat.le_of_ble_eq_true rfl, Nat.le_of_ble_eq_true rfl⟩) hS (fun q _ h => hFc q h) hFc (fun r_22 u t H locs ht hvm hw hB hz1 hk1 hS => ?_)
        have hP : va_P D vwCl _ H := ro_keep hP hk1
        have f0_r_22 := hw
        have rI_2 := room_I (r := r_22) (by assumption) (by omega) (by omega) (r_f8 _ (in_lt (in_I (by omega) (by omega))))
        refine lv_istore (lv' := [(5, .int r_22), (4, .int r_20), (3, .int y_19), (0, .ref mo), (1, .int a1), (2, .int 1)]) hx hb dX12_step_43 hl (by decide) rfl (fun ls hl => ?_)
        refine lv_aload_n hx hb dX12_step_45 rfl (lv_at hl 3 rfl) ?_
        refine lv_iload_n hx hb dX12_step_46 rfl (lv_at hl 4 rfl) ?_
        refine ct_R hP hD0 [(mo, .inr (12, [.int s0, .int s1, .long t2, .int s3, .int s4, .ref g5, .ref g6, .ref g7, .ref g8, .ref g9, .ref g10, .int s11, .ref g12, .ref g13, .ref g14, .ref g15, .ref g16, .ref g17, .ref g18, .ref g19, .ref g20, .int s21, .ref g22, .ref g23, .ref g24, .int s25, .int s26, .int s27, .int s28, .ref g29, .ref g30, .ref g31, .ref g32, .ref g33])), (g5, .inl (cy 0, 40, .inl f5)), (g9, .inl (cy 0, 40, .inl f9))] [0, 1, 3] (by decide) rfl (fun hPc hDw => ?_)
        have hFc := va_free (wc := []) hD hS hA [] rfl
        refine va_calli (va_runV (As := [.int a1]) (rest := []) ⟨hx, hb, hml, hown, hts⟩ (c_X12_costs2 l D cy H.size mo g5 g6 g7 g8 g9 g10 g12 g13 g14 g15 g16 g17 g18 g19 g20 g22 g23 g24 g29 g30 g31 g32 g33 s0 s1 s3 s4 s11 s21 s25 s26 s27 s28 t2 f5 f9 a1 (by first | with_reducible assumption | omega | assumption) (by first | with_reducible assumption | assumption | omega)) (cwV 1 hts gX12_step_X12_costs rfl rfl rfl (by decide +kernel) ⟨Nat.le_of_ble_eq_true rfl, Nat.le_of_ble_eq_true rfl⟩) ⟨bl_, va_recvX hK.1 hP (ci := 12) (q0 := 0) rfl rfl, fun U hU hW => ⟨rfl, by rw [hU], by rw [hU]; exact hPc, kk_mv hW hK, hDw⟩⟩ rfl rfl hl.1 rfl (lv_room (Nat.le_of_ble_eq_true rfl)) dX12_step_47 ⟨Nat.le_of_ble_eq_true rfl, Nat.le_of_ble_eq_true rfl⟩) hS (fun q _ h => hFc q h) hFc (fun r_23 u t H locs ht hvm hw hB hz1 hk1 hS => ?_)
        have hP : va_P D vwCl _ H := ro_keep hP hk1
        have f0_r_23 := hw
        refine lv_istore (lv' := [(6, .int r_23), (5, .int r_22), (4, .int r_20), (3, .int y_19), (0, .ref mo), (1, .int a1), (2, .int 1)]) hx hb dX12_step_50 hl (by decide) rfl (fun ls hl => ?_)
        refine lv_iload_n hx hb dX12_step_52 rfl (lv_at hl 3 rfl) ?_
        refine lv_if_ge (tgt := 68) hx hb dX12_step_53 (by decide) (fun c_24 => ?_) (fun c_24 => ?_)
        · have t_24 : (0 : Int32).toInt ≤ y_19.toInt := Int32.le_iff_toInt_le.mp c_24
          refine lv_iload_n hx hb dX12_step_68 rfl (lv_at hl 3 rfl) ?_
          refine lv_iload hx hb dX12_step_69 (lv_at hl 2 rfl) ?_
          refine lv_icmp_ge (tgt := 78) hx hb dX12_step_71 (by decide) (fun c_25 => ?_) (fun c_25 => ?_)
          · have t_25 : r_20.toInt ≤ y_19.toInt := Int32.le_iff_toInt_le.mp c_25
            refine lv_iload hx hb dX12_step_78 (lv_at hl 0 rfl) ?_
            refine lv_bipush (v := (-9)) hx hb dX12_step_80 (by decide) ?_
            refine lv_icmp_ne (tgt := 91) hx hb dX12_step_82 (by decide) (fun c_26 => ?_) (fun c_26 => ?_)
            · have t_26 : ¬ r_23.toInt = ((-9) : Int32).toInt := fun h => c_26 (Int32.toInt_inj.mp h)
              refine lv_iload hx hb dX12_step_91 (lv_at hl 0 rfl) ?_
              refine lv_i2l (v := r_23.toInt64) hx hb dX12_step_93 rfl ?_
              have q_93 : (r_23.toInt64).toInt = r_23.toInt := Int32.toInt_toInt64 r_23
              rw [hQ]
              exact W.lret (v := r_23.toInt64) hx hb hr (fun t ht hW => ⟨⟨r_23.toInt64, (), rfl, (by unfold eS stI; (repeat' split) <;> omega), trivial⟩, hS.F ht⟩) hS.2.2 dX12_step_94
            · have t_26 : r_23.toInt = ((-9) : Int32).toInt := congrArg Int32.toInt c_26
              refine lv_ldc2 (v := 1000000) hx hb hown (hts (.constantLong RX12 118 (1000000)) (by decide +kernel)) dX12_step_85 ?_
              refine lv_goto (tgt := 94) hx hb dX12_step_88 (by decide) ?_
              rw [hQ]
              exact W.lret (v := 1000000) hx hb hr (fun t ht hW => ⟨⟨1000000, (), rfl, (by unfold eS stI; (repeat' split) <;> omega), trivial⟩, hS.F ht⟩) hS.2.2 dX12_step_94
          · have t_25 : ¬ r_20.toInt ≤ y_19.toInt := fun h => c_25 (Int32.le_iff_toInt_le.mpr h)
            refine lv_lconst (v := 0) hx hb dX12_step_74 (by decide) ?_
            refine lv_goto (tgt := 94) hx hb dX12_step_75 (by decide) ?_
            rw [hQ]
            exact W.lret (v := 0) hx hb hr (fun t ht hW => ⟨⟨0, (), rfl, (by unfold eS stI; (repeat' split) <;> omega), trivial⟩, hS.F ht⟩) hS.2.2 dX12_step_94
        · have t_24 : ¬ (0 : Int32).toInt ≤ y_19.toInt := fun h => c_24 (Int32.le_iff_toInt_le.mpr h)
          refine lv_iload_n hx hb dX12_step_56 rfl (lv_at hl 3 rfl) ?_
          refine lv_ineg hx hb dX12_step_57 ?_
          refine lv_topi (fun y_27 ey_27 => ?_)
          have ty_27 : y_27.toInt = - y_19.toInt := by rw [ey_27]; exact negI (by omega)
          refine lv_iload hx hb dX12_step_58 (lv_at hl 1 rfl) ?_
          refine lv_icmp_le (tgt := 68) hx hb dX12_step_60 (by decide) (fun c_28 => ?_) (fun c_28 => ?_)
          · have t_28 : y_27.toInt ≤ r_22.toInt := Int32.le_iff_toInt_le.mp c_28
            refine lv_iload_n hx hb dX12_step_68 rfl (lv_at hl 3 rfl) ?_
            refine lv_iload hx hb dX12_step_69 (lv_at hl 2 rfl) ?_
            refine lv_icmp_ge (tgt := 78) hx hb dX12_step_71 (by decide) (fun c_29 => ?_) (fun c_29 => ?_)
            · have t_29 : r_20.toInt ≤ y_19.toInt := Int32.le_iff_toInt_le.mp c_29
              refine lv_iload hx hb dX12_step_78 (lv_at hl 0 rfl) ?_
              refine lv_bipush (v := (-9)) hx hb dX12_step_80 (by decide) ?_
              refine lv_icmp_ne (tgt := 91) hx hb dX12_step_82 (by decide) (fun c_30 => ?_) (fun c_30 => ?_)
              · have t_30 : ¬ r_23.toInt = ((-9) : Int32).toInt := fun h => c_30 (Int32.toInt_inj.mp h)
                refine lv_iload hx hb dX12_step_91 (lv_at hl 0 rfl) ?_
                refine lv_i2l (v := r_23.toInt64) hx hb dX12_step_93 rfl ?_
                have q_93 : (r_23.toInt64).toInt = r_23.toInt := Int32.toInt_toInt64 r_23
                rw [hQ]
                exact W.lret (v := r_23.toInt64) hx hb hr (fun t ht hW => ⟨⟨r_23.toInt64, (), rfl, (by unfold eS stI; (repeat' split) <;> omega), trivial⟩, hS.F ht⟩) hS.2.2 dX12_step_94
              · have t_30 : r_23.toInt = ((-9) : Int32).toInt := congrArg Int32.toInt c_30
                refine lv_ldc2 (v := 1000000) hx hb hown (hts (.constantLong RX12 118 (1000000)) (by decide +kernel)) dX12_step_85 ?_
                refine lv_goto (tgt := 94) hx hb dX12_step_88 (by decide) ?_
                rw [hQ]
                exact W.lret (v := 1000000) hx hb hr (fun t ht hW => ⟨⟨1000000, (), rfl, (by unfold eS stI; (repeat' split) <;> omega), trivial⟩, hS.F ht⟩) hS.2.2 dX12_step_94
            · have t_29 : ¬ r_20.toInt ≤ y_19.toInt := fun h => c_29 (Int32.le_iff_toInt_le.mpr h)
              refine lv_lconst (v := 0) hx hb dX12_step_74 (by decide) ?_
              refine lv_goto (tgt := 94) hx hb dX12_step_75 (by decide) ?_
              rw [hQ]
              exact W.lret (v := 0) hx hb hr (fun t ht hW => ⟨⟨0, (), rfl, (by unfold eS stI; (repeat' split) <;> omega), trivial⟩, hS.F ht⟩) hS.2.2 dX12_step_94
          · have t_28 : ¬ y_27.toInt ≤ r_22.toInt := fun h => c_28 (Int32.le_iff_toInt_le.mpr h)
            refine lv_iload hx hb dX12_step_63 (lv_at hl 0 rfl) ?_
            refine lv_ineg hx hb dX12_step_65 ?_
            refine lv_topi (fun y_31 ey_31 => ?_)
            have ty_31 : y_31.toInt = - r_23.toInt := by rw [ey_31]; exact negI (by omega)
            refine lv_i2l (v := y_31.toInt64) hx hb dX12_step_66 rfl ?_
            have q_66 : (y_31.toInt64).toInt = y_31.toInt := Int32.toInt_toInt64 y_31
            rw [hQ]
            exact W.lret (v := y_31.toInt64) hx hb hr (fun t ht hW => ⟨⟨y_31.toInt64, (), rfl, (by unfold eS stI; (repeat' split) <;> omega), trivial⟩, hS.F ht⟩) hS.2.2 dX12_step_67
      · exact absurd c_21 (by decide)

set_option maxHeartbeats 4000000 in
set_option maxRecDepth 100000 in
theorem c_X12_amount2 (l : Launch) (D : va_G) (cy : Nat → ClassId) (sz : Nat) (mo : Nat) (g5 : Nat) (g6 : Nat) (g7 : Nat) (g8 : Nat) (g9 : Nat) (g10 : Nat) (g12 : Nat) (g13 : Nat) (g14 : Nat) (g15 : Nat) (g16 : Nat) (g17 : Nat) (g18 : Nat) (g19 : Nat) (g20 : Nat) (g22 : Nat) (g23 : Nat) (g24 : Nat) (g29 : Nat) (g30 : Nat) (g31 : Nat) (g32 : Nat) (g33 : Nat) (s0 : Int32) (s1 : Int32) (s3 : Int32) (s4 : Int32) (s11 : Int32) (s21 : Int32) (s25 : Int32) (s26 : Int32) (s27 : Int32) (s28 : Int32) (t2 : Int64) (f5 : Nat → Int32) (f8 : Nat → Int32) (f22 : Nat → Int32) (a1 : Int32) (a2 : Int32) (q1 : 0 ≤ a1.toInt ∧ a1.toInt < 40) (h21 : s21.toInt = -9) (q2 : a2.toInt = 0 ∨ a2.toInt = 1) (hf : -1000 ≤ (f22 a1.toNatClampNeg).toInt ∧ (f22 a1.toNatClampNeg).toInt ≤ 1000) (r_f8 : rng f8 40 (0) (2000)) : Met l yX12_amount wsX12_amount ({ frames := 2, cells := 0, slots := 0, locals := 46 }) (va_Pc [.ref mo, .int a1, .int a2] (fun U => U.heap.size = sz ∧ va_P D vwCl [(mo, .inr (12, [.int s0, .int s1, .long t2, .int s3, .int s4, .ref g5, .ref g6, .ref g7, .ref g8, .ref g9, .ref g10, .int s11, .ref g12, .ref g13, .ref g14, .ref g15, .ref g16, .ref g17, .ref g18, .ref g19, .ref g20, .int s21, .ref g22, .ref g23, .ref g24, .int s25, .int s26, .int s27, .int s28, .ref g29, .ref g30, .ref g31, .ref g32, .ref g33])), (g5, .inl (cy 0, 40, .inl f5)), (g8, .inl (cy 0, 40, .inl f8)), (g22, .inl (cy 0, 40, .inl f22))] U.heap ∧ kk_ D cy U ∧ va_D (fun _ => True) [(mo, .inr (12, [.int s0, .int s1, .long t2, .int s3, .int s4, .ref g5, .ref g6, .ref g7, .ref g8, .ref g9, .ref g10, .int s11, .ref g12, .ref g13, .ref g14, .ref g15, .ref g16, .ref g17, .ref g18, .ref g19, .ref g20, .int s21, .ref g22, .ref g23, .ref g24, .int s25, .int s26, .int s27, .int s28, .ref g29, .ref g30, .ref g31, .ref g32, .ref g33])), (g5, .inl (cy 0, 40, .inl f5)), (g8, .inl (cy 0, 40, .inl f8)), (g22, .inl (cy 0, 40, .inl f22))])) (va_Qi (fun (r : Int32) (_ : Unit) => (r.toInt = eA f5 f8 f22 a1.toNatClampNeg a2.toInt) ∧ (1 ≤ r.toInt)) (fun (_ : Unit) (_ : State) => True) (va_A [] sz)) 0 0 (va_A [] sz) := by
  refine ofQ (cc := cX12_amount) (maxL := 6) (ret := (some .int)) (by decide) rfl ?_
  intro p e s m args below meth c s₁ Q hQ B hml hv
  obtain ⟨rfl, hsz, hP, hK, hD0⟩ := hv
  have hx := B.exec
  have hb := B.bytes
  have hr := B.returns
  have hts := atoms_spec (ws := wsX12_amount) B.pre
  have hown : s.vm.findClass RX12 = some m.cls := by have h_ := findClass_of_methodNamed B.named; exact h_
  have hlocks := B.notSynchronized
  subst hsz
  have hD : va_D (va_A [] s.heap.size) [] := dd_nil
  generalize hAe : va_A [] s.heap.size = A at hD hQ
  have hA : ∀ q : Nat, s.heap.size ≤ q → A q := fun q h => by rw [← hAe]; exact Or.inr h
  have hS : va_S A s.heap s.heap [] := va_S.rf
  have hl := lv_entry ([.ref mo, .int a1, .int a2]) (n := 6) (Nat.le_of_ble_eq_true rfl)
  rw [lg_entry_eq]
  generalize (lg_sl ([.ref mo, .int a1, .int a2]) ++ List.replicate (6 - (lg_sl ([.ref mo, .int a1, .int a2])).length) Slot.unset).toArray = ls at hl ⊢
  have hl : lv_has ls 6 [(0, .ref mo), (1, .int a1), (2, .int a2)] := hl
  have z0 : (0 : Int32).toInt = 0 := by decide
  have z1 : (1 : Int32).toInt = 1 := by decide
  have z1000000 : (1000000 : Int32).toInt = 1000000 := by decide
  have hv : vp_in a1 40 := in_I (by omega) (by omega)
  have fw := r_f8 _ (in_lt hv)
  have w1 := rmI_rng (k := f5 a1.toNatClampNeg) (b := 1) fw.1 fw.2
  have w0 := rmI_rng (k := f5 a1.toNatClampNeg) (b := 0) fw.1 fw.2
  rcases b01 q2 with rfl | rfl
  · refine lv_iload_n hx hb dX12_amount_0 rfl (lv_at hl 2 rfl) ?_
    refine lv_if_eq (tgt := 13) hx hb dX12_amount_1 (by decide) (fun c_1 => ?_) (fun c_1 => ?_)
    · have _ := c_1
      refine lv_aload_n hx hb dX12_amount_13 rfl (lv_at hl 0 rfl) ?_
      refine va_get (ci := 12) (v := .ref g22) (C := RX12) (T := TX12) (N := 34) hx hb hts (fun _ h => List.mem_cons_of_mem _ (List.mem_append_right _ h)) hown hK.1 hP 0 rfl rfl 22 (by decide) (hts (.fieldLink RX12 61 "CutAtlasModel" "flows" "[I") (by decide +kernel)) (fun _ h9 => h9) rfl dX12_amount_14 ?_
      refine lv_iload_n hx hb dX12_amount_17 rfl (lv_at hl 1 rfl) ?_
      have h_2 : vp_in a1 40 := in_I (by omega) (by omega)
      refine va_iald hx hb hK.1 hP 3 0 rfl rfl (i := a1) h_2 dX12_amount_18 ?_
      refine lv_topi (fun y_3 ey_3 => ?_)
      have ky_3 : y_3.toInt = (f22 a1.toNatClampNeg).toInt := by rw [ey_3]
      refine lv_ineg hx hb dX12_amount_19 ?_
      refine lv_topi (fun y_4 ey_4 => ?_)
      have ty_4 : y_4.toInt = - y_3.toInt := by rw [ey_4]; exact negI (by omega)
      refine lv_istore_n (lv' := [(3, .int y_4), (0, .ref mo), (1, .int a1), (2, .int 0)]) hx hb dX12_amount_20 rfl hl (by decide) rfl (fun ls hl => ?_)
      refine lv_aload_n hx hb dX12_amount_21 rfl (lv_at hl 1 rfl) ?_
      refine lv_iload_n hx hb dX12_amount_22 rfl (lv_at hl 2 rfl) ?_
      refine lv_iload_n hx hb dX12_amount_23 rfl (lv_at hl 3 rfl) ?_
      refine ct_R hP hD0 [(mo, .inr (12, [.int s0, .int s1, .long t2, .int s3, .int s4, .ref g5, .ref g6, .ref g7, .ref g8, .ref g9, .ref g10, .int s11, .ref g12, .ref g13, .ref g14, .ref g15, .ref g16, .ref g17, .ref g18, .ref g19, .ref g20, .int s21, .ref g22, .ref g23, .ref g24, .int s25, .int s26, .int s27, .int s28, .ref g29, .ref g30, .ref g31, .ref g32, .ref g33])), (g5, .inl (cy 0, 40, .inl f5)), (g8, .inl (cy 0, 40, .inl f8))] [0, 1, 2] (by decide) rfl (fun hPc hDw => ?_)
      have hFc := va_free (wc := []) hD hS hA [] rfl
      refine va_calli (va_runV (As := [.int a1, .int 0]) (rest := []) ⟨hx, hb, hml, hown, hts⟩ (c_X12_room l D cy s.heap.size mo g5 g6 g7 g8 g9 g10 g12 g13 g14 g15 g16 g17 g18 g19 g20 g22 g23 g24 g29 g30 g31 g32 g33 s0 s1 s3 s4 s11 s21 s25 s26 s27 s28 t2 f5 f8 a1 (0 : Int32) (by first | with_reducible assumption | omega | assumption)) (cwV 2 hts gX12_amount_X12_room rfl rfl rfl (by decide +kernel) ⟨Nat.le_of_ble_eq_true rfl, Nat.le_of_ble_eq_true rfl⟩) ⟨bl_, va_recvX hK.1 hP (ci := 12) (q0 := 0) rfl rfl, fun U hU hW => ⟨rfl, by rw [hU], by rw [hU]; exact hPc, kk_mv hW hK, hDw⟩⟩ rfl rfl hl.1 rfl (lv_room (Nat.le_of_ble_eq_true rfl)) dX12_amount_24 ⟨Nat.le_of_ble_eq_true rfl, Nat.le_of_ble_eq_true rfl⟩) hS (fun q _ h => hFc q h) hFc (fun r_5 u t H locs ht hvm hw hB hz1 hk1 hS => ?_)
      have hP : va_P D vwCl _ H := ro_keep hP hk1
      have f0_r_5 := hw
      have rI_1 := room_I (r := r_5) (by assumption) (by omega) (by omega) (r_f8 _ (in_lt (in_I (by omega) (by omega))))
      refine lv_istore (lv' := [(4, .int r_5), (3, .int y_4), (0, .ref mo), (1, .int a1), (2, .int 0)]) hx hb dX12_amount_27 hl (by decide) rfl (fun ls hl => ?_)
      refine lv_aload_n hx hb dX12_amount_29 rfl (lv_at hl 2 rfl) ?_
      refine lv_iload_n hx hb dX12_amount_30 rfl (lv_at hl 3 rfl) ?_
      refine lv_iload_n hx hb dX12_amount_31 rfl (lv_at hl 4 rfl) ?_
      refine lv_if_ne (tgt := 39) hx hb dX12_amount_32 (by decide) (fun c_6 => ?_) (fun c_6 => ?_)
      · exact absurd c_6 (by decide)
      · have _ := c_6
        refine lv_iconst (v := 1) hx hb dX12_amount_35 (by decide) ?_
        refine lv_goto (tgt := 40) hx hb dX12_amount_36 (by decide) ?_
        refine ct_R hP hD0 [(mo, .inr (12, [.int s0, .int s1, .long t2, .int s3, .int s4, .ref g5, .ref g6, .ref g7, .ref g8, .ref g9, .ref g10, .int s11, .ref g12, .ref g13, .ref g14, .ref g15, .ref g16, .ref g17, .ref g18, .ref g19, .ref g20, .int s21, .ref g22, .ref g23, .ref g24, .int s25, .int s26, .int s27, .int s28, .ref g29, .ref g30, .ref g31, .ref g32, .ref g33])), (g5, .inl (cy 0, 40, .inl f5)), (g8, .inl (cy 0, 40, .inl f8))] [0, 1, 2] (by decide) rfl (fun hPc hDw => ?_)
        have hFc := va_free (wc := []) hD hS hA [] rfl
        refine va_calli (va_runV (As := [.int a1, .int 1]) (rest := []) ⟨hx, hb, hml, hown, hts⟩ (c_X12_room l D cy H.size mo g5 g6 g7 g8 g9 g10 g12 g13 g14 g15 g16 g17 g18 g19 g20 g22 g23 g24 g29 g30 g31 g32 g33 s0 s1 s3 s4 s11 s21 s25 s26 s27 s28 t2 f5 f8 a1 (1 : Int32) (by first | with_reducible assumption | omega | assumption)) (cwV 2 hts gX12_amount_X12_room rfl rfl rfl (by decide +kernel) ⟨Nat.le_of_ble_eq_true rfl, Nat.le_of_ble_eq_true rfl⟩) ⟨bl_, va_recvX hK.1 hP (ci := 12) (q0 := 0) rfl rfl, fun U hU hW => ⟨rfl, by rw [hU], by rw [hU]; exact hPc, kk_mv hW hK, hDw⟩⟩ rfl rfl hl.1 rfl (lv_room (Nat.le_of_ble_eq_true rfl)) dX12_amount_40 ⟨Nat.le_of_ble_eq_true rfl, Nat.le_of_ble_eq_true rfl⟩) hS (fun q _ h => hFc q h) hFc (fun r_7 u t H locs ht hvm hw hB hz1 hk1 hS => ?_)
        have hP : va_P D vwCl _ H := ro_keep hP hk1
        have f0_r_7 := hw
        have rI_2 := room_I (r := r_7) (by assumption) (by omega) (by omega) (r_f8 _ (in_lt (in_I (by omega) (by omega))))
        refine lv_istore (lv' := [(5, .int r_7), (4, .int r_5), (3, .int y_4), (0, .ref mo), (1, .int a1), (2, .int 0)]) hx hb dX12_amount_43 hl (by decide) rfl (fun ls hl => ?_)
        refine lv_iload_n hx hb dX12_amount_45 rfl (lv_at hl 2 rfl) ?_
        refine lv_if_ge (tgt := 64) hx hb dX12_amount_46 (by decide) (fun c_8 => ?_) (fun c_8 => ?_)
        · have t_8 : (0 : Int32).toInt ≤ y_4.toInt := Int32.le_iff_toInt_le.mp c_8
          refine lv_iload_n hx hb dX12_amount_64 rfl (lv_at hl 2 rfl) ?_
          refine lv_iload hx hb dX12_amount_65 (lv_at hl 1 rfl) ?_
          refine lv_icmp_ge (tgt := 77) hx hb dX12_amount_67 (by decide) (fun c_9 => ?_) (fun c_9 => ?_)
          · have t_9 : r_5.toInt ≤ y_4.toInt := Int32.le_iff_toInt_le.mp c_9
            refine lv_ldc (v := 1000000) hx hb hown (hts (.constant RX12 159 (1000000)) (by decide +kernel)) dX12_amount_77 ?_
            rw [hQ]
            exact W.iret (v := 1000000) hx hb hr (fun t ht hW => ⟨⟨1000000, (), rfl, ⟨by unfold eA amI; (repeat' split) <;> omega, by omega⟩, trivial⟩, hS.F ht⟩) hS.2.2 dX12_amount_79
          · have t_9 : ¬ r_5.toInt ≤ y_4.toInt := fun h => c_9 (Int32.le_iff_toInt_le.mpr h)
            refine lv_iload hx hb dX12_amount_70 (lv_at hl 1 rfl) ?_
            refine lv_iload_n hx hb dX12_amount_72 rfl (lv_at hl 2 rfl) ?_
            refine lv_isub hx hb dX12_amount_73 ?_
            refine lv_topi (fun y_10 ey_10 => ?_)
            have ty_10 : y_10.toInt = r_5.toInt - y_4.toInt := by rw [ey_10]; exact subI (by omega) (by omega)
            refine lv_goto (tgt := 79) hx hb dX12_amount_74 (by decide) ?_
            rw [hQ]
            exact W.iret (v := y_10) hx hb hr (fun t ht hW => ⟨⟨y_10, (), rfl, ⟨by unfold eA amI; (repeat' split) <;> omega, by omega⟩, trivial⟩, hS.F ht⟩) hS.2.2 dX12_amount_79
        · have t_8 : ¬ (0 : Int32).toInt ≤ y_4.toInt := fun h => c_8 (Int32.le_iff_toInt_le.mpr h)
          refine lv_iload_n hx hb dX12_amount_49 rfl (lv_at hl 2 rfl) ?_
          refine lv_ineg hx hb dX12_amount_50 ?_
          refine lv_topi (fun y_11 ey_11 => ?_)
          have ty_11 : y_11.toInt = - y_4.toInt := by rw [ey_11]; exact negI (by omega)
          refine lv_iload hx hb dX12_amount_51 (lv_at hl 0 rfl) ?_
          refine lv_icmp_le (tgt := 64) hx hb dX12_amount_53 (by decide) (fun c_12 => ?_) (fun c_12 => ?_)
          · have t_12 : y_11.toInt ≤ r_7.toInt := Int32.le_iff_toInt_le.mp c_12
            refine lv_iload_n hx hb dX12_amount_64 rfl (lv_at hl 2 rfl) ?_
            refine lv_iload hx hb dX12_amount_65 (lv_at hl 1 rfl) ?_
            refine lv_icmp_ge (tgt := 77) hx hb dX12_amount_67 (by decide) (fun c_13 => ?_) (fun c_13 => ?_)
            · have t_13 : r_5.toInt ≤ y_4.toInt := Int32.le_iff_toInt_le.mp c_13
              refine lv_ldc (v := 1000000) hx hb hown (hts (.constant RX12 159 (1000000)) (by decide +kernel)) dX12_amount_77 ?_
              rw [hQ]
              exact W.iret (v := 1000000) hx hb hr (fun t ht hW => ⟨⟨1000000, (), rfl, ⟨by unfold eA amI; (repeat' split) <;> omega, by omega⟩, trivial⟩, hS.F ht⟩) hS.2.2 dX12_amount_79
            · have t_13 : ¬ r_5.toInt ≤ y_4.toInt := fun h => c_13 (Int32.le_iff_toInt_le.mpr h)
              refine lv_iload hx hb dX12_amount_70 (lv_at hl 1 rfl) ?_
              refine lv_iload_n hx hb dX12_amount_72 rfl (lv_at hl 2 rfl) ?_
              refine lv_isub hx hb dX12_amount_73 ?_
              refine lv_topi (fun y_14 ey_14 => ?_)
              have ty_14 : y_14.toInt = r_5.toInt - y_4.toInt := by rw [ey_14]; exact subI (by omega) (by omega)
              refine lv_goto (tgt := 79) hx hb dX12_amount_74 (by decide) ?_
              rw [hQ]
              exact W.iret (v := y_14) hx hb hr (fun t ht hW => ⟨⟨y_14, (), rfl, ⟨by unfold eA amI; (repeat' split) <;> omega, by omega⟩, trivial⟩, hS.F ht⟩) hS.2.2 dX12_amount_79
          · have t_12 : ¬ y_11.toInt ≤ r_7.toInt := fun h => c_12 (Int32.le_iff_toInt_le.mpr h)
            refine lv_iload_n hx hb dX12_amount_56 rfl (lv_at hl 2 rfl) ?_
            refine lv_ineg hx hb dX12_amount_57 ?_
            refine lv_topi (fun y_15 ey_15 => ?_)
            have ty_15 : y_15.toInt = - y_4.toInt := by rw [ey_15]; exact negI (by omega)
            refine lv_iload hx hb dX12_amount_58 (lv_at hl 0 rfl) ?_
            refine lv_isub hx hb dX12_amount_60 ?_
            refine lv_topi (fun y_16 ey_16 => ?_)
            have ty_16 : y_16.toInt = y_15.toInt - r_7.toInt := by rw [ey_16]; exact subI (by omega) (by omega)
            refine lv_goto (tgt := 79) hx hb dX12_amount_61 (by decide) ?_
            rw [hQ]
            exact W.iret (v := y_16) hx hb hr (fun t ht hW => ⟨⟨y_16, (), rfl, ⟨by unfold eA amI; (repeat' split) <;> omega, by omega⟩, trivial⟩, hS.F ht⟩) hS.2.2 dX12_amount_79
    · exact absurd c_1 (by decide)
  · refine lv_iload_n hx hb dX12_amount_0 rfl (lv_at hl 2 rfl) ?_
    refine lv_if_eq (tgt := 13) hx hb dX12_amount_1 (by decide) (fun c_17 => ?_) (fun c_17 => ?_)
    · exact absurd c_17 (by decide)
    · have _ := c_17
      refine lv_aload_n hx hb dX12_amount_4 rfl (lv_at hl 0 rfl) ?_
      refine va_get (ci := 12) (v := .ref g22) (C := RX12) (T := TX12) (N := 34) hx hb hts (fun _ h => List.mem_cons_of_mem _ (List.mem_append_right _ h)) hown hK.1 hP 0 rfl rfl 22 (by decide) (hts (.fieldLink RX12 61 "CutAtlasModel" "flows" "[I") (by decide +kernel)) (fun _ h9 => h9) rfl dX12_amount_5 ?_
      refine lv_iload_n hx hb dX12_amount_8 rfl (lv_at hl 1 rfl) ?_
      have h_18 : vp_in a1 40 := in_I (by omega) (by omega)
      refine va_iald hx hb hK.1 hP 3 0 rfl rfl (i := a1) h_18 dX12_amount_9 ?_
      refine lv_topi (fun y_19 ey_19 => ?_)
      have ky_19 : y_19.toInt = (f22 a1.toNatClampNeg).toInt := by rw [ey_19]
      refine lv_goto (tgt := 20) hx hb dX12_amount_10 (by decide) ?_
      refine lv_istore_n (lv' := [(3, .int y_19), (0, .ref mo), (1, .int a1), (2, .int 1)]) hx hb dX12_amount_20 rfl hl (by decide) rfl (fun ls hl => ?_)
      refine lv_aload_n hx hb dX12_amount_21 rfl (lv_at hl 1 rfl) ?_
      refine lv_iload_n hx hb dX12_amount_22 rfl (lv_at hl 2 rfl) ?_
      refine lv_iload_n hx hb dX12_amount_23 rfl (lv_at hl 3 rfl) ?_
      refine ct_R hP hD0 [(mo, .inr (12, [.int s0, .int s1, .long t2, .int s3, .int s4, .ref g5, .ref g6, .ref g7, .ref g8, .ref g9, .ref g10, .int s11, .ref g12, .ref g13, .ref g14, .ref g15, .ref g16, .ref g17, .ref g18, .ref g19, .ref g20, .int s21, .ref g22, .ref g23, .ref g24, .int s25, .int s26, .int s27, .int s28, .ref g29, .ref g30, .ref g31, .ref g32, .ref g33])), (g5, .inl (cy 0, 40, .inl f5)), (g8, .inl (cy 0, 40, .inl f8))] [0, 1, 2] (by decide) rfl (fun hPc hDw => ?_)
      have hFc := va_free (wc := []) hD hS hA [] rfl
      refine va_calli (va_runV (As := [.int a1, .int 1]) (rest := []) ⟨hx, hb, hml, hown, hts⟩ (c_X12_room l D cy s.heap.size mo g5 g6 g7 g8 g9 g10 g12 g13 g14 g15 g16 g17 g18 g19 g20 g22 g23 g24 g29 g30 g31 g32 g33 s0 s1 s3 s4 s11 s21 s25 s26 s27 s28 t2 f5 f8 a1 (1 : Int32) (by first | with_reducible assumption | omega | assumption)) (cwV 2 hts gX12_amount_X12_room rfl rfl rfl (by decide +kernel) ⟨Nat.le_of_ble_eq_true rfl, Nat.le_of_ble_eq_true rfl⟩) ⟨bl_, va_recvX hK.1 hP (ci := 12) (q0 := 0) rfl rfl, fun U hU hW => ⟨rfl, by rw [hU], by rw [hU]; exact hPc, kk_mv hW hK, hDw⟩⟩ rfl rfl hl.1 rfl (lv_room (Nat.le_of_ble_eq_true rfl)) dX12_amount_24 ⟨Nat.le_of_ble_eq_true rfl, Nat.le_of_ble_eq_true rfl⟩) hS (fun q _ h => hFc q h) hFc (fun r_20 u t H locs ht hvm hw hB hz1 hk1 hS => ?_)
      have hP : va_P D vwCl _ H := ro_keep hP hk1
      have f0_r_20 := hw
      have rI_1 := room_I (r := r_20) (by assumption) (by omega) (by omega) (r_f8 _ (in_lt (in_I (by omega) (by omega))))
      refine lv_istore (lv' := [(4, .int r_20), (3, .int y_19), (0, .ref mo), (1, .int a1), (2, .int 1)]) hx hb dX12_amount_27 hl (by decide) rfl (fun ls hl => ?_)
      refine lv_aload_n hx hb dX12_amount_29 rfl (lv_at hl 2 rfl) ?_
      refine lv_iload_n hx hb dX12_amount_30 rfl (lv_at hl 3 rfl) ?_
      refine lv_iload_n hx hb dX12_amount_31 rfl (lv_at hl 4 rfl) ?_
      refine lv_if_ne (tgt := 39) hx hb dX12_amount_32 (by decide) (fun c_21 => ?_) (fun c_21 => ?_)
      · have _ := c_21
        refine lv_iconst (v := 0) hx hb dX12_amount_39 (by decide) ?_
        refine ct_R hP hD0 [(mo, .inr (12, [.int s0, .int s1, .long t2, .int s3, .int s4, .ref g5, .ref g6, .ref g7, .ref g8, .ref g9, .ref g10, .int s11, .ref g12, .ref g13, .ref g14, .ref g15, .ref g16, .ref g17, .ref g18, .ref g19, .ref g20, .int s21, .ref g22, .ref g23, .ref g24, .int s25, .int s26, .int s27, .int s28, .ref g29, .ref g30, .ref g31, .ref g32, .ref g33])), (g5, .inl (cy 0, 40, .inl f5)), (g8, .inl (cy 0, 40, .inl f8))] [0, 1, 2] (by decide) rfl (fun hPc hDw => ?_)
        have hFc := va_free (wc := []) hD hS hA [] rfl
        refine va_calli (va_runV (As := [.int a1, .int 0]) (rest := []) ⟨hx, hb, hml, hown, hts⟩ (c_X12_room l D cy H.size mo g5 g6 g7 g8 g9 g10 g12 g13 g14 g15 g16 g17 g18 g19 g20 g22 g23 g24 g29 g30 g31 g32 g33 s0 s1 s3 s4 s11 s21 s25 s26 s27 s28 t2 f5 f8 a1 (0 : Int32) (by first | with_reducible assumption | omega | assumption)) (cwV 2 hts gX12_amount_X12_room rfl rfl rfl (by decide +kernel) ⟨Nat.le_of_ble_eq_true rfl, Nat.le_of_ble_eq_true rfl⟩) ⟨bl_, va_recvX hK.1 hP (ci := 12) (q0 := 0) rfl rfl, fun U hU hW => ⟨rfl, by rw [hU], by rw [hU]; exact hPc, kk_mv hW hK, hDw⟩⟩ rfl rfl hl.1 rfl (lv_room (Nat.le_of_ble_eq_true rfl)) dX12_amount_40 ⟨Nat.le_of_ble_eq_true rfl, Nat.le_of_ble_eq_true rfl⟩) hS (fun q _ h => hFc q h) hFc (fun r_22 u t H locs ht hvm hw hB hz1 hk1 hS => ?_)
        have hP : va_P D vwCl _ H := ro_keep hP hk1
        have f0_r_22 := hw
        have rI_2 := room_I (r := r_22) (by assumption) (by omega) (by omega) (r_f8 _ (in_lt (in_I (by omega) (by omega))))
        refine lv_istore (lv' := [(5, .int r_22), (4, .int r_20), (3, .int y_19), (0, .ref mo), (1, .int a1), (2, .int 1)]) hx hb dX12_amount_43 hl (by decide) rfl (fun ls hl => ?_)
        refine lv_iload_n hx hb dX12_amount_45 rfl (lv_at hl 2 rfl) ?_
        refine lv_if_ge (tgt := 64) hx hb dX12_amount_46 (by decide) (fun c_23 => ?_) (fun c_23 => ?_)
        · have t_23 : (0 : Int32).toInt ≤ y_19.toInt := Int32.le_iff_toInt_le.mp c_23
          refine lv_iload_n hx hb dX12_amount_64 rfl (lv_at hl 2 rfl) ?_
          refine lv_iload hx hb dX12_amount_65 (lv_at hl 1 rfl) ?_
          refine lv_icmp_ge (tgt := 77) hx hb dX12_amount_67 (by decide) (fun c_24 => ?_) (fun c_24 => ?_)
          · have t_24 : r_20.toInt ≤ y_19.toInt := Int32.le_iff_toInt_le.mp c_24
            refine lv_ldc (v := 1000000) hx hb hown (hts (.constant RX12 159 (1000000)) (by decide +kernel)) dX12_amount_77 ?_
            rw [hQ]
            exact W.iret (v := 1000000) hx hb hr (fun t ht hW => ⟨⟨1000000, (), rfl, ⟨by unfold eA amI; (repeat' split) <;> omega, by omega⟩, trivial⟩, hS.F ht⟩) hS.2.2 dX12_amount_79
          · have t_24 : ¬ r_20.toInt ≤ y_19.toInt := fun h => c_24 (Int32.le_iff_toInt_le.mpr h)
            refine lv_iload hx hb dX12_amount_70 (lv_at hl 1 rfl) ?_
            refine lv_iload_n hx hb dX12_amount_72 rfl (lv_at hl 2 rfl) ?_
            refine lv_isub hx hb dX12_amount_73 ?_
            refine lv_topi (fun y_25 ey_25 => ?_)
            have ty_25 : y_25.toInt = r_20.toInt - y_19.toInt := by rw [ey_25]; exact subI (by omega) (by omega)
            refine lv_goto (tgt := 79) hx hb dX12_amount_74 (by decide) ?_
            rw [hQ]
            exact W.iret (v := y_25) hx hb hr (fun t ht hW => ⟨⟨y_25, (), rfl, ⟨by unfold eA amI; (repeat' split) <;> omega, by omega⟩, trivial⟩, hS.F ht⟩) hS.2.2 dX12_amount_79
        · have t_23 : ¬ (0 : Int32).toInt ≤ y_19.toInt := fun h => c_23 (Int32.le_iff_toInt_le.mpr h)
          refine lv_iload_n hx hb dX12_amount_49 rfl (lv_at hl 2 rfl) ?_
          refine lv_ineg hx hb dX12_amount_50 ?_
          refine lv_topi (fun y_26 ey_26 => ?_)
          have ty_26 : y_26.toInt = - y_19.toInt := by rw [ey_26]; exact negI (by omega)
          refine lv_iload hx hb dX12_amount_51 (lv_at hl 0 rfl) ?_
          refine lv_icmp_le (tgt := 64) hx hb dX12_amount_53 (by decide) (fun c_27 => ?_) (fun c_27 => ?_)
          · have t_27 : y_26.toInt ≤ r_22.toInt := Int32.le_iff_toInt_le.mp c_27
            refine lv_iload_n hx hb dX12_amount_64 rfl (lv_at hl 2 rfl) ?_
            refine lv_iload hx hb dX12_amount_65 (lv_at hl 1 rfl) ?_
            refine lv_icmp_ge (tgt := 77) hx hb dX12_amount_67 (by decide) (fun c_28 => ?_) (fun c_28 => ?_)
            · have t_28 : r_20.toInt ≤ y_19.toInt := Int32.le_iff_toInt_le.mp c_28
              refine lv_ldc (v := 1000000) hx hb hown (hts (.constant RX12 159 (1000000)) (by decide +kernel)) dX12_amount_77 ?_
              rw [hQ]
              exact W.iret (v := 1000000) hx hb hr (fun t ht hW => ⟨⟨1000000, (), rfl, ⟨by unfold eA amI; (repeat' split) <;> omega, by omega⟩, trivial⟩, hS.F ht⟩) hS.2.2 dX12_amount_79
            · have t_28 : ¬ r_20.toInt ≤ y_19.toInt := fun h => c_28 (Int32.le_iff_toInt_le.mpr h)
              refine lv_iload hx hb dX12_amount_70 (lv_at hl 1 rfl) ?_
              refine lv_iload_n hx hb dX12_amount_72 rfl (lv_at hl 2 rfl) ?_
              refine lv_isub hx hb dX12_amount_73 ?_
              refine lv_topi (fun y_29 ey_29 => ?_)
              have ty_29 : y_29.toInt = r_20.toInt - y_19.toInt := by rw [ey_29]; exact subI (by omega) (by omega)
              refine lv_goto (tgt := 79) hx hb dX12_amount_74 (by decide) ?_
              rw [hQ]
              exact W.iret (v := y_29) hx hb hr (fun t ht hW => ⟨⟨y_29, (), rfl, ⟨by unfold eA amI; (repeat' split) <;> omega, by omega⟩, trivial⟩, hS.F ht⟩) hS.2.2 dX12_amount_79
          · have t_27 : ¬ y_26.toInt ≤ r_22.toInt := fun h => c_27 (Int32.le_iff_toInt_le.mpr h)
            refine lv_iload_n hx hb dX12_amount_56 rfl (lv_at hl 2 rfl) ?_
            refine lv_ineg hx hb dX12_amount_57 ?_
            refine lv_topi (fun y_30 ey_30 => ?_)
            have ty_30 : y_30.toInt = - y_19.toInt := by rw [ey_30]; exact negI (by omega)
            refine lv_iload hx hb dX12_amount_58 (lv_at hl 0 rfl) ?_
            refine lv_isub hx hb dX12_amount_60 ?_
            refine lv_topi (fun y_31 ey_31 => ?_)
            have ty_31 : y_31.toInt = y_30.toInt - r_22.toInt := by rw [ey_31]; exact subI (by omega) (by omega)
            refine lv_goto (tgt := 79) hx hb dX12_amount_61 (by decide) ?_
            rw [hQ]
            exact W.iret (v := y_31) hx hb hr (fun t ht hW => ⟨⟨y_31, (), rfl, ⟨by unfold eA amI; (repeat' split) <;> omega, by omega⟩, trivial⟩, hS.F ht⟩) hS.2.2 dX12_amount_79
      · exact absurd c_21 (by decide)
end

section
section CW
variable {x y : Nat → Nat} {c : Nat → Int} {ok : Nat → Bool} {E s P : Nat} {pi : Nat → Int} {pd pd2 : Nat → Int64} {bl bp bl2 bp2 : Nat → Int32} {rnd cu : Nat}
/-- the state of the search: what was paid lies between the least there is and the least of so many steps; chains end at s -/
noncomputable def cw (x y : Nat → Nat) (c : Nat → Int) (ok : Nat → Bool) (E s P : Nat) (pd : Nat → Int64) (bl bp : Nat → Int32) (rnd cu : Nat) : Prop :=
  (∀ v : Nat, v < P → dst x y c ok E s P v ≤ (pd v).toInt ∧ (pd v).toInt ≤ 1099511627776 ∧ (pd v).toInt ≤ dst x y c ok E s rnd v) ∧
  (∀ e : Nat, e < cu → ok e = true → dst x y c ok E s rnd (x e) < 1099511627776 → (pd (y e)).toInt ≤ dst x y c ok E s rnd (x e) + c e) ∧
  (∀ v : Nat, v < P → v ≠ s → (pd v).toInt < 1099511627776 → ∃ e : Nat, e < E ∧ ok e = true ∧ (bl v).toNatClampNeg = e / 2 ∧ (bp v).toNatClampNeg = x e ∧ y e = v ∧ (pd (x e)).toInt < 1099511627776 ∧ (pd (x e)).toInt + c e ≤ (pd v).toInt) ∧
  (∀ v : Nat, v < P → (pd v).toInt < 1099511627776 → ∃ n : Nat, rcs (pf_ bp) s n v)
theorem cw_init (hs : s < P) (h : ∀ v : Nat, v < P → (pd v).toInt = if v = s then 0 else 1099511627776) : cw x y c ok E s P pd bl bp 0 0 := by
  have e0 : ∀ v : Nat, dst x y c ok E s 0 v = if v = s then 0 else 1099511627776 := fun _ => rfl
  refine ⟨fun v hv => ?_, fun e he => absurd he (Nat.not_lt_zero _), fun v hv hn hf => ?_, fun v hv hf => ?_⟩
  · have m := dst_mono (x := x) (y := y) (c := c) (ok := ok) (E := E) (s := s) P 0 v (Nat.zero_le _)
    have i := dst_inf (x := x) (y := y) (c := c) (ok := ok) (E := E) (s := s) 0 v
    rw [h v hv, ← e0 v]
    exact ⟨m, i, Int.le_refl _⟩
  · rw [h v hv, if_neg hn] at hf
    omega
  · by_cases e : v = s
    · exact ⟨0, e⟩
    · rw [h v hv, if_neg e] at hf
      omega
theorem cw_rng (h : cw x y c ok E s P pd bl bp rnd cu) (hP : P ≤ 12) (hc : ∀ e : Nat, e < E → ok e = true → -101 ≤ c e) {v : Nat} (hv : v < P) : -1212 ≤ (pd v).toInt ∧ (pd v).toInt ≤ 1099511627776 := by
  have a := h.1 v hv
  have b := dst_lo (x := x) (y := y) (s := s) hc P v
  omega
theorem cw_skip (h : cw x y c ok E s P pd bl bp rnd cu) (hv : ok cu = true → x cu < P) (hs : ok cu = true → (pd (x cu)).toInt < 1099511627776 → (pd (y cu)).toInt ≤ (pd (x cu)).toInt + c cu) : cw x y c ok E s P pd bl bp rnd (cu + 1) := by
  refine ⟨h.1, fun e he ho hx => ?_, h.2.2⟩
  by_cases q : e = cu
  · subst q
    have a := (h.1 (x e) (hv ho)).2.2
    have b := hs ho (by omega)
    omega
  · exact h.2.1 e (by omega) ho hx
theorem cw_to (h : cw x y c ok E s P pd bl bp rnd cu) : ∀ n : Nat, (∀ e : Nat, cu ≤ e → e < cu + n → ok e = false) → cw x y c ok E s P pd bl bp rnd (cu + n)
  | 0, _ => h
  | n + 1, hn => by
    have a := cw_to h n (fun e h1 h2 => hn e h1 (by omega))
    have b := hn (cu + n) (by omega) (by omega)
    exact cw_skip a (fun q => by have z := b.symm.trans q; cases z) (fun q => by have z := b.symm.trans q; cases z)
theorem cw_relax {v : Int64} {l x1 : Int32} (h : cw x y c ok E s P pd bl bp rnd cu) (hp : ∀ e : Nat, e < E → ok e = true → pi (y e) ≤ pi (x e) + c e) (hv : ∀ e : Nat, e < E → ok e = true → x e < P ∧ y e < P) (hP : 1 ≤ P) (hE : cu < E) (ho : ok cu = true) (hx : (pd (x cu)).toInt < 1099511627776) (hlt : (pd (x cu)).toInt + c cu < (pd (y cu)).toInt)
    (e1 : pd2 = vp_updL pd (y cu) v) (ev : v.toInt = (pd (x cu)).toInt + c cu) (e2 : bl2 = upd bl (y cu) l) (el : l.toNatClampNeg = cu / 2) (e3 : bp2 = upd bp (y cu) x1) (ex : x1.toNatClampNeg = x cu) : cw x y c ok E s P pd2 bl2 bp2 rnd (cu + 1) := by
  have w := hv cu hE ho
  have pc := hp cu hE ho
  have hxy : x cu ≠ y cu := fun e => by
    rw [e] at hlt pc
    omega
  have n1 : pd2 (y cu) = v := by rw [e1]; exact pk_uLs
  have n2 : ∀ u : Nat, u ≠ y cu → pd2 u = pd u := fun u hu => by rw [e1]; exact pk_uLn hu
  have le : ∀ u : Nat, (pd2 u).toInt ≤ (pd u).toInt := fun u => by
    by_cases q : u = y cu
    · rw [q, n1]
      omega
    · rw [n2 u q]
      exact Int.le_refl _
  have a1 := h.1 (x cu) w.1
  have dx : dst x y c ok E s P (x cu) < 1099511627776 := by omega
  have dv : dst x y c ok E s P (y cu) ≤ dst x y c ok E s P (x cu) + c cu := by
    have en := dst_end (s := s) hp hv (k := P - 1) (by omega) (x cu)
    rw [show P - 1 + 1 = P by omega] at en
    have d := dst_e (x := x) (y := y) (c := c) (s := s) (k := P - 1) hE ho (by rw [← en]; exact dx)
    rw [show P - 1 + 1 = P by omega, ← en] at d
    exact d
  have a2y := h.1 (y cu) w.2
  have hys : y cu ≠ s := fun e => by
    have ps := dst_pi (s := s) hp P (y cu) (by omega)
    rw [e] at ps
    have m := dst_mono (x := x) (y := y) (c := c) (ok := ok) (E := E) (s := s) rnd 0 s (Nat.zero_le _)
    have e0 : dst x y c ok E s 0 s = 0 := if_pos rfl
    have a2 := (h.1 (y cu) w.2).2.2
    rw [e] at a2 dv hlt
    omega
  have bp1 : ∀ u : Nat, u ≠ y cu → pf_ bp2 u = pf_ bp u := fun u hu => by unfold pf_; rw [e3, pk_un hu]
  have bpy : pf_ bp2 (y cu) = x cu := by unfold pf_; rw [e3, pk_us]; exact ex
  refine ⟨fun u hu => ?_, fun e he hoe hxe => ?_, fun u hu hn hf => ?_, fun u hu hf => ?_⟩
  · have b := h.1 u hu
    have l := le u
    refine ⟨?_, by omega, by omega⟩
    by_cases q : u = y cu
    · rw [q, n1]
      omega
    · rw [n2 u q]
      exact b.1
  · by_cases q : e = cu
    · subst q
      rw [n1]
      omega
    · have b := h.2.1 e (by omega) hoe hxe
      have l := le (y e)
      omega
  · by_cases q : u = y cu
    · refine ⟨cu, hE, ho, ?_, ?_, q.symm, ?_, ?_⟩
      · rw [q, e2, pk_us]
        exact el
      · rw [q, e3, pk_us]
        exact ex
      · rw [n2 _ hxy]
        exact hx
      · rw [n2 _ hxy, q, n1]
        omega
    · rw [n2 u q] at hf ⊢
      obtain ⟨e, q1, q2, q3, q4, q5, q6, q7⟩ := h.2.2.1 u hu hn hf
      have l := le (x e)
      refine ⟨e, q1, q2, ?_, ?_, q5, by omega, by omega⟩
      · rw [e2, pk_un q]
        exact q3
      · rw [e3, pk_un q]
        exact q4
  · refine rcs_up (d := fun u => (pd u).toInt) (pi := pi) (P := P) bp1 bpy hys w.1 hx hlt pc (fun u hu2 hn2 hf2 => ?_) h.2.2.2 u hu ?_
    · obtain ⟨e, q1, q2, q3, q4, q5, q6, q7⟩ := h.2.2.1 u hu2 hn2 hf2
      have g := hp e q1 q2
      have g2 := hv e q1 q2
      have ee : pf_ bp u = x e := q4
      rw [ee]
      rw [q5] at g
      exact ⟨g2.1, q6, by omega⟩
    · by_cases q : u = y cu
      · exact Or.inr q
      · rw [n2 u q] at hf
        exact Or.inl hf
theorem cw_round (h : cw x y c ok E s P pd bl bp rnd E) : cw x y c ok E s P pd bl bp (rnd + 1) 0 := by
  refine ⟨fun v hv => ?_, fun e he => absurd he (Nat.not_lt_zero _), h.2.2⟩
  have a := h.1 v hv
  refine ⟨a.1, a.2.1, ?_⟩
  rcases Int.lt_or_le (dst x y c ok E s (rnd + 1) v) (dst x y c ok E s rnd v) with q | q
  · obtain ⟨e, he, ho, ey, hx, h2⟩ := dst_at q
    have b := h.2.1 e he ho hx
    rw [ey] at b
    omega
  · omega
/-- behind the last round -/
noncomputable def cz (x y : Nat → Nat) (c : Nat → Int) (ok : Nat → Bool) (E s P : Nat) (pd : Nat → Int64) (bl bp : Nat → Int32) : Prop :=
  (∀ e : Nat, e < E → ok e = true → (pd (x e)).toInt < 1099511627776 → (pd (y e)).toInt ≤ (pd (x e)).toInt + c e) ∧
  (∀ v : Nat, v < P → v ≠ s → (pd v).toInt < 1099511627776 → ∃ e : Nat, e < E ∧ ok e = true ∧ (bl v).toNatClampNeg = e / 2 ∧ (bp v).toNatClampNeg = x e ∧ y e = v ∧ (pd (x e)).toInt < 1099511627776 ∧ (pd (x e)).toInt + c e ≤ (pd v).toInt) ∧
  (∀ v : Nat, v < P → (pd v).toInt < 1099511627776 → ∃ n : Nat, rcs (pf_ bp) s n v) ∧ (∀ v : Nat, v < P → (pd v).toInt < 1099511627776 → (pd v).toInt ≤ 1000000 * (P : Int))
theorem cw_end (h : cw x y c ok E s P pd bl bp P 0) (hp : ∀ e : Nat, e < E → ok e = true → pi (y e) ≤ pi (x e) + c e) (hv : ∀ e : Nat, e < E → ok e = true → x e < P ∧ y e < P) (hP : 1 ≤ P) (hc : ∀ e : Nat, e < E → ok e = true → c e < 1000000) : cz x y c ok E s P pd bl bp := by
  refine ⟨fun e he ho hx => ?_, h.2.2.1, h.2.2.2, fun v hv hf => ?_⟩
  rotate_left
  · have a := h.1 v hv
    have b := dst_hi (x := x) (y := y) (s := s) hc P v (by omega)
    omega
  have w := hv e he ho
  have a := h.1 (x e) w.1
  have b := h.1 (y e) w.2
  have en := dst_end (s := s) hp hv (k := P - 1) (by omega) (x e)
  rw [show P - 1 + 1 = P by omega] at en
  have d := dst_e (x := x) (y := y) (c := c) (s := s) (k := P - 1) he ho (by rw [← en]; omega)
  rw [show P - 1 + 1 = P by omega, ← en] at d
  omega
theorem bnd (g : Nat → Int) : ∀ n : Nat, ∃ M : Int, ∀ i : Nat, i < n → g i ≤ M
  | 0 => ⟨0, fun i h => absurd h (Nat.not_lt_zero _)⟩
  | n + 1 => by
    obtain ⟨M, hM⟩ := bnd g n
    rcases Int.lt_or_le M (g n) with q | q
    · refine ⟨g n, fun i hi => ?_⟩
      by_cases e : i = n
      · subst e; exact Int.le_refl _
      · have := hM i (by omega)
        omega
    · refine ⟨M, fun i hi => ?_⟩
      by_cases e : i = n
      · subst e; exact q
      · exact hM i (by omega)
/-- what was paid, as the potential of the places -/
theorem cz_pi (h : cz x y c ok E s P pd bl bp) (hp : ∀ e : Nat, e < E → ok e = true → pi (y e) ≤ pi (x e) + c e) (hv : ∀ e : Nat, e < E → ok e = true → x e < P ∧ y e < P) (hc : ∀ e : Nat, e < E → ok e = true → c e < 1000000) (hP : P ≤ 12) : ∃ p2 : Nat → Int, (∀ e : Nat, e < E → ok e = true → p2 (y e) ≤ p2 (x e) + c e) ∧ (∀ v : Nat, (pd v).toInt < 1099511627776 → p2 v = (pd v).toInt) := by
  obtain ⟨M, hM⟩ := bnd (fun v => (pd v).toInt - pi v) P
  refine ⟨fun v => if (pd v).toInt < 1099511627776 then (pd v).toInt else pi v + M, fun e he ho => ?_, fun v hv => if_pos hv⟩
  have w := hv e he ho
  have pe := hp e he ho
  have m1 : (pd (y e)).toInt - pi (y e) ≤ M := hM (y e) w.2
  show (if (pd (y e)).toInt < 1099511627776 then (pd (y e)).toInt else pi (y e) + M) ≤ (if (pd (x e)).toInt < 1099511627776 then (pd (x e)).toInt else pi (x e) + M) + c e
  by_cases q : (pd (x e)).toInt < 1099511627776
  · rw [if_pos q]
    have d := h.1 e he ho q
    by_cases q2 : (pd (y e)).toInt < 1099511627776
    · rw [if_pos q2]
      exact d
    · exfalso
      have u := h.2.2.2 (x e) w.1 q
      have ce := hc e he ho
      omega
  · rw [if_neg q]
    by_cases q2 : (pd (y e)).toInt < 1099511627776
    · rw [if_pos q2]
      omega
    · rw [if_neg q2]
      omega
end CW
section GRAPH
variable {f5 f6 f7 f8 f9 f10 F F0 F2 : Nat → Int32} {pi : Nat → Int}
noncomputable def gx (f6 f7 : Nat → Int32) (e : Nat) : Nat := if e % 2 = 0 then (f6 (e / 2)).toNatClampNeg else (f7 (e / 2)).toNatClampNeg
noncomputable def gy (f6 f7 : Nat → Int32) (e : Nat) : Nat := if e % 2 = 0 then (f7 (e / 2)).toNatClampNeg else (f6 (e / 2)).toNatClampNeg
noncomputable def gc (f5 f8 f9 F : Nat → Int32) (e : Nat) : Int := eS f5 f8 f9 F (e / 2) (if e % 2 = 0 then 1 else 0)
noncomputable def go (f5 f8 f9 f10 F : Nat → Int32) (e : Nat) : Bool := decide ((f10 (e / 2)).toInt = 0) && decide (gc f5 f8 f9 F e < 1000000)
theorem go_iff {e : Nat} : go f5 f8 f9 f10 F e = true ↔ (f10 (e / 2)).toInt = 0 ∧ gc f5 f8 f9 F e < 1000000 := by
  unfold go
  rw [Bool.and_eq_true, decide_eq_true_iff, decide_eq_true_iff]
/-- lines that aren't missing are between two places -/
noncomputable def netE (P N : Int) (f6 f7 f10 : Nat → Int32) : Prop := ∀ j : Nat, (j : Int) < N → (f10 j).toInt = 0 → (f6 j).toInt < P ∧ (f7 j).toInt < P
theorem g_v {P N : Int32} (h : netE P.toInt N.toInt f6 f7 f10) (r6 : rng f6 40 0 11) (r7 : rng f7 40 0 11) (hN : 0 ≤ N.toInt ∧ N.toInt ≤ 40) (hP : 0 ≤ P.toInt) : ∀ e : Nat, e < 2 * N.toNatClampNeg → go f5 f8 f9 f10 F e = true → gx f6 f7 e < P.toNatClampNeg ∧ gy f6 f7 e < P.toNatClampNeg := fun e he ho => by
  have cN := clI (i := N) hN.1
  have cP := clI (i := P) hP
  have a := h (e / 2) (by omega) (go_iff.mp ho).1
  have b6 := r6 (e / 2) (by omega)
  have b7 := r7 (e / 2) (by omega)
  have c6 := clI (i := f6 (e / 2)) b6.1
  have c7 := clI (i := f7 (e / 2)) b7.1
  unfold gx gy
  by_cases q : e % 2 = 0
  · rw [if_pos q, if_pos q]
    omega
  · rw [if_neg q, if_neg q]
    omega
theorem g_c1 {N : Nat} : ∀ e : Nat, e < 2 * N → go f5 f8 f9 f10 F e = true → gc f5 f8 f9 F e < 1000000 := fun _ _ ho => (go_iff.mp ho).2
theorem gc_lo (r9 : rng f9 40 0 100) {e : Nat} (he : e / 2 < 40) : -101 ≤ gc f5 f8 f9 F e := by
  have b := r9 _ he
  have c := cst_rng (k := (f5 (e / 2)).toInt) b.1 b.2
  unfold gc eS
  by_cases q : (if e % 2 = 0 then (1 : Int) else 0) ≠ 0
  · rw [if_pos q]
    have a := stI_cs (cst (f5 (e / 2)).toInt (f9 (e / 2)).toInt) (rmI (f5 (e / 2)) (f8 (e / 2)) 0) (rmI (f5 (e / 2)) (f8 (e / 2)) 1) (F (e / 2)).toInt
    omega
  · rw [if_neg q]
    have a := stI_cs (cst (f5 (e / 2)).toInt (f9 (e / 2)).toInt) (rmI (f5 (e / 2)) (f8 (e / 2)) 1) (rmI (f5 (e / 2)) (f8 (e / 2)) 0) (-(F (e / 2)).toInt)
    omega
theorem g_c0 {N : Int32} (r9 : rng f9 40 0 100) (hN : 0 ≤ N.toInt ∧ N.toInt ≤ 40) : ∀ e : Nat, e < 2 * N.toNatClampNeg → go f5 f8 f9 f10 F e = true → -101 ≤ gc f5 f8 f9 F e := fun e he _ => by
  have cN := clI (i := N) hN.1
  exact gc_lo r9 (by omega)
/-- no place is reached for less than the places differ by -/
noncomputable def pot (f5 f6 f7 f8 f9 f10 F : Nat → Int32) (N : Nat) (pi : Nat → Int) : Prop := ∀ e : Nat, e < 2 * N → go f5 f8 f9 f10 F e = true → pi (gy f6 f7 e) ≤ pi (gx f6 f7 e) + gc f5 f8 f9 F e
noncomputable def okF (f5 f8 f9 F : Nat → Int32) : Prop := ∀ j : Nat, j < 40 → cst (f5 j).toInt (f9 j).toInt = -9 → -(rmI (f5 j) (f8 j) 0) ≤ (F j).toInt ∧ (F j).toInt ≤ rmI (f5 j) (f8 j) 1
theorem pot_zero {N : Nat} (r8 : rng f8 40 0 2000) (r9 : rng f9 40 0 100) (hN : N ≤ 40) (h : ∀ j : Nat, j < 40 → (F j).toInt = 0) : pot f5 f6 f7 f8 f9 f10 F N (fun _ => 0) ∧ okF f5 f8 f9 F := by
  refine ⟨fun e he _ => ?_, fun j hj _ => ?_⟩
  · have z := h (e / 2) (by omega)
    have b := r9 (e / 2) (by omega)
    have c := cst_rng (k := (f5 (e / 2)).toInt) b.1 b.2
    have b8 := r8 (e / 2) (by omega)
    have w1 := rmI_rng (k := f5 (e / 2)) (b := 1) b8.1 b8.2
    have w0 := rmI_rng (k := f5 (e / 2)) (b := 0) b8.1 b8.2
    show (0 : Int) ≤ 0 + gc f5 f8 f9 F e
    unfold gc eS
    rw [z]
    by_cases q : (if e % 2 = 0 then (1 : Int) else 0) ≠ 0
    · rw [if_pos q]
      have a := stI_cs (cst (f5 (e / 2)).toInt (f9 (e / 2)).toInt) (rmI (f5 (e / 2)) (f8 (e / 2)) 0) (rmI (f5 (e / 2)) (f8 (e / 2)) 1) 0
      omega
    · rw [if_neg q]
      have a := stI_cs (cst (f5 (e / 2)).toInt (f9 (e / 2)).toInt) (rmI (f5 (e / 2)) (f8 (e / 2)) 1) (rmI (f5 (e / 2)) (f8 (e / 2)) 0) (-0)
      omega
  · have z := h j hj
    have b8 := r8 j hj
    have w1 := rmI_rng (k := f5 j) (b := 1) b8.1 b8.2
    have w0 := rmI_rng (k := f5 j) (b := 0) b8.1 b8.2
    omega
theorem gc_cg {e : Nat} (h : F2 (e / 2) = F (e / 2)) : gc f5 f8 f9 F2 e = gc f5 f8 f9 F e := by
  unfold gc eS
  rw [h]
theorem gpush {N e : Nat} {l v : Int32} {n : Int} (r8 : rng f8 40 0 2000) (r9 : rng f9 40 0 100) (hN : N ≤ 40) (e2 : F2 = upd F l.toNatClampNeg v) (he : e < 2 * N) (el : l.toNatClampNeg = e / 2) (ho : go f5 f8 f9 f10 F e = true) (hn : 1 ≤ n)
    (hna : n ≤ eA f5 f8 F (e / 2) (if e % 2 = 0 then 1 else 0)) (hv : v.toInt = (F (e / 2)).toInt + (if e % 2 = 0 then n else -n)) (ht : pi (gy f6 f7 e) = pi (gx f6 f7 e) + gc f5 f8 f9 F e) (hp : pot f5 f6 f7 f8 f9 f10 F N pi) (hk : okF f5 f8 f9 F) : pot f5 f6 f7 f8 f9 f10 F2 N pi ∧ okF f5 f8 f9 F2 := by
  have n1 : F2 (e / 2) = v := by rw [e2, el]; exact pk_us
  have n2 : ∀ j : Nat, j ≠ e / 2 → F2 j = F j := fun j hj => by rw [e2, el]; exact pk_un hj
  have b := r9 (e / 2) (by omega)
  have c := cst_rng (k := (f5 (e / 2)).toInt) b.1 b.2
  have b8 := r8 (e / 2) (by omega)
  have w1 := rmI_rng (k := f5 (e / 2)) (b := 1) b8.1 b8.2
  have w0 := rmI_rng (k := f5 (e / 2)) (b := 0) b8.1 b8.2
  have ok1 := hk (e / 2) (by omega)
  have lt := (go_iff.mp ho).2
  by_cases q : e % 2 = 0
  · have gcf : ∀ G : Nat → Int32, gc f5 f8 f9 G e = stI (cst (f5 (e / 2)).toInt (f9 (e / 2)).toInt) (rmI (f5 (e / 2)) (f8 (e / 2)) 0) (rmI (f5 (e / 2)) (f8 (e / 2)) 1) (G (e / 2)).toInt := fun G => by
      unfold gc eS
      rw [if_pos q, if_pos (by decide)]
    have am : eA f5 f8 F (e / 2) (if e % 2 = 0 then 1 else 0) = amI (rmI (f5 (e / 2)) (f8 (e / 2)) 0) (rmI (f5 (e / 2)) (f8 (e / 2)) 1) (F (e / 2)).toInt := by
      unfold eA
      rw [if_pos q, if_pos (by decide)]
    rw [am] at hna
    rw [if_pos q] at hv
    rw [gcf F] at lt
    have sp := st_push (d := gc f5 f8 f9 F e) c w0.1 w1.1 (gcf F) lt hn hna ok1
    rw [← hv, ← n1] at sp
    refine ⟨fun e9 h9 o9 => ?_, fun j hj hc => ?_⟩
    · by_cases s9 : e9 / 2 = e / 2
      · by_cases q9 : e9 % 2 = 0
        · obtain rfl : e9 = e := by omega
          have := sp.1 (by rw [← gcf F2]; exact (go_iff.mp o9).2)
          rw [gcf F2]
          omega
        · have ex : gx f6 f7 e9 = gy f6 f7 e := by unfold gx gy; rw [if_neg q9, if_pos q, s9]
          have ey : gy f6 f7 e9 = gx f6 f7 e := by unfold gx gy; rw [if_neg q9, if_pos q, s9]
          have g9 : gc f5 f8 f9 F2 e9 = stI (cst (f5 (e / 2)).toInt (f9 (e / 2)).toInt) (rmI (f5 (e / 2)) (f8 (e / 2)) 1) (rmI (f5 (e / 2)) (f8 (e / 2)) 0) (-(F2 (e / 2)).toInt) := by
            unfold gc eS
            rw [if_neg q9, if_neg (by decide), s9]
          have o2 := (go_iff.mp o9).2
          rw [g9] at o2 ⊢
          have := sp.2.1 o2
          rw [ex, ey]
          omega
      · have cg := gc_cg (f5 := f5) (f8 := f8) (f9 := f9) (n2 (e9 / 2) s9)
        rw [cg]
        exact hp e9 h9 (by
          have o2 := go_iff.mp o9
          rw [cg] at o2
          exact go_iff.mpr o2)
    · by_cases s9 : j = e / 2
      · subst s9
        exact sp.2.2 hc
      · rw [n2 j s9]
        exact hk j hj hc
  · have gcf : ∀ G : Nat → Int32, gc f5 f8 f9 G e = stI (cst (f5 (e / 2)).toInt (f9 (e / 2)).toInt) (rmI (f5 (e / 2)) (f8 (e / 2)) 1) (rmI (f5 (e / 2)) (f8 (e / 2)) 0) (-(G (e / 2)).toInt) := fun G => by
      unfold gc eS
      rw [if_neg q, if_neg (by decide)]
    have am : eA f5 f8 F (e / 2) (if e % 2 = 0 then 1 else 0) = amI (rmI (f5 (e / 2)) (f8 (e / 2)) 1) (rmI (f5 (e / 2)) (f8 (e / 2)) 0) (-(F (e / 2)).toInt) := by
      unfold eA
      rw [if_neg q, if_neg (by decide)]
    rw [am] at hna
    rw [if_neg q] at hv
    rw [gcf F] at lt
    have sp := st_push (d := gc f5 f8 f9 F e) c w1.1 w0.1 (gcf F) lt hn hna (fun h => by have := ok1 h; omega)
    rw [show -(F (e / 2)).toInt + n = -(F2 (e / 2)).toInt by rw [n1]; omega, show - -(F2 (e / 2)).toInt = (F2 (e / 2)).toInt by omega] at sp
    refine ⟨fun e9 h9 o9 => ?_, fun j hj hc => ?_⟩
    · by_cases s9 : e9 / 2 = e / 2
      · by_cases q9 : e9 % 2 = 0
        · have ex : gx f6 f7 e9 = gy f6 f7 e := by unfold gx gy; rw [if_pos q9, if_neg q, s9]
          have ey : gy f6 f7 e9 = gx f6 f7 e := by unfold gx gy; rw [if_pos q9, if_neg q, s9]
          have g9 : gc f5 f8 f9 F2 e9 = stI (cst (f5 (e / 2)).toInt (f9 (e / 2)).toInt) (rmI (f5 (e / 2)) (f8 (e / 2)) 0) (rmI (f5 (e / 2)) (f8 (e / 2)) 1) (F2 (e / 2)).toInt := by
            unfold gc eS
            rw [if_pos q9, if_pos (by decide), s9]
          have o2 := (go_iff.mp o9).2
          rw [g9] at o2 ⊢
          have := sp.2.1 o2
          rw [ex, ey]
          omega
        · obtain rfl : e9 = e := by omega
          have := sp.1 (by rw [← gcf F2]; exact (go_iff.mp o9).2)
          rw [gcf F2]
          omega
      · have cg := gc_cg (f5 := f5) (f8 := f8) (f9 := f9) (n2 (e9 / 2) s9)
        rw [cg]
        exact hp e9 h9 (by
          have o2 := go_iff.mp o9
          rw [cg] at o2
          exact go_iff.mpr o2)
    · by_cases s9 : j = e / 2
      · subst s9
        have := sp.2.2 hc
        omega
      · rw [n2 j s9]
        exact hk j hj hc
noncomputable def dirI (a b : Int) : Int := if a = b then 1 else 0
noncomputable def amtI (f5 f6 f8 F bl bp : Nat → Int32) (v : Nat) : Int := eA f5 f8 F (bl v).toNatClampNeg (dirI (f6 (bl v).toNatClampNeg).toInt (bp v).toInt)
variable {bl bp : Nat → Int32} {pd : Nat → Int64} {s t P N R : Nat}
theorem ch_fin {x y : Nat → Nat} {c : Nat → Int} {ok : Nat → Bool} {E : Nat} (hz : cz x y c ok E s P pd bl bp) (hv : ∀ e : Nat, e < E → ok e = true → x e < P ∧ y e < P) (ht : t < P) (hf : (pd t).toInt < 1099511627776) (hR : rcs (pf_ bp) s R t) : ∀ i : Nat, i ≤ R → itr (pf_ bp) i t < P ∧ (pd (itr (pf_ bp) i t)).toInt < 1099511627776
  | 0, _ => ⟨ht, hf⟩
  | i + 1, hi => by
    have a := ch_fin hz hv ht hf hR i (by omega)
    have r := rcs_itr hR i (by omega)
    rw [show R - i = (R - i - 1) + 1 by omega] at r
    obtain ⟨e, q1, q2, q3, q4, q5, q6, q7⟩ := hz.2.1 _ a.1 r.1 a.2
    have w := hv e q1 q2
    have ee : itr (pf_ bp) (i + 1) t = x e := q4
    rw [ee]
    exact ⟨w.1, q6⟩
theorem ch_e {x y : Nat → Nat} {c : Nat → Int} {ok : Nat → Bool} {E : Nat} (hz : cz x y c ok E s P pd bl bp) (hv : ∀ e : Nat, e < E → ok e = true → x e < P ∧ y e < P) (ht : t < P) (hf : (pd t).toInt < 1099511627776) (hR : rcs (pf_ bp) s R t) {i : Nat} (hi : i < R) : ∃ e : Nat, e < E ∧ ok e = true ∧ (bl (itr (pf_ bp) i t)).toNatClampNeg = e / 2 ∧ itr (pf_ bp) (i + 1) t = x e ∧ itr (pf_ bp) i t = y e ∧ (pd (x e)).toInt < 1099511627776 ∧ (pd (y e)).toInt = (pd (x e)).toInt + c e := by
  have a := ch_fin hz hv ht hf hR i (by omega)
  have r := rcs_itr hR i (by omega)
  rw [show R - i = (R - i - 1) + 1 by omega] at r
  obtain ⟨e, q1, q2, q3, q4, q5, q6, q7⟩ := hz.2.1 _ a.1 r.1 a.2
  have d := hz.1 e q1 q2 q6
  rw [q5] at d
  refine ⟨e, q1, q2, q3, q4, q5.symm, q6, ?_⟩
  rw [q5]
  omega
theorem ch_inj (hR : rcs (pf_ bp) s R t) {i j : Nat} (hi : i ≤ R) (hj : j ≤ R) (h : itr (pf_ bp) i t = itr (pf_ bp) j t) : i = j := by
  have a := rcs_itr hR i hi
  have b := rcs_itr hR j hj
  rw [h] at a
  have := rcs_un _ _ _ a b
  omega
theorem ch_line {c : Nat → Int} {ok : Nat → Bool} {E : Nat} (hz : cz (gx f6 f7) (gy f6 f7) c ok E s P pd bl bp) (hv : ∀ e : Nat, e < E → ok e = true → gx f6 f7 e < P ∧ gy f6 f7 e < P) (ht : t < P) (hf : (pd t).toInt < 1099511627776) (hR : rcs (pf_ bp) s R t) {i j : Nat} (hij : i < j) (hj : j < R) : (bl (itr (pf_ bp) i t)).toNatClampNeg ≠ (bl (itr (pf_ bp) j t)).toNatClampNeg := fun h => by
  obtain ⟨e, _, _, a3, a4, a5, _, _⟩ := ch_e hz hv ht hf hR (i := i) (by omega)
  obtain ⟨g, _, _, b3, b4, b5, _, _⟩ := ch_e hz hv ht hf hR hj
  rw [a3, b3] at h
  by_cases q : e % 2 = g % 2
  · obtain rfl : e = g := by omega
    have := ch_inj hR (by omega) (by omega) (a5.trans b5.symm)
    omega
  · have e1 : gx f6 f7 e = gy f6 f7 g := by
      unfold gx gy
      by_cases z : e % 2 = 0
      · rw [if_pos z, if_neg (by omega), h]
      · rw [if_neg z, if_pos (by omega), h]
    have e2 : gy f6 f7 e = gx f6 f7 g := by
      unfold gx gy
      by_cases z : e % 2 = 0
      · rw [if_pos z, if_neg (by omega), h]
      · rw [if_neg z, if_pos (by omega), h]
    have i1 := ch_inj hR (i := i + 1) (j := j) (by omega) (by omega) ((a4.trans e1).trans b5.symm)
    have i2 := ch_inj hR (i := i) (j := j + 1) (by omega) (by omega) ((a5.trans e2).trans b4.symm)
    omega
theorem ch_push {i : Nat} {l v y1 : Int32} {n B : Int} (r6 : rng f6 40 0 11) (r7 : rng f7 40 0 11) (r8 : rng f8 40 0 2000) (r9 : rng f9 40 0 100) (rp : rng bp 12 0 11) (hP12 : P ≤ 12) (hN : N ≤ 40) (hz : cz (gx f6 f7) (gy f6 f7) (gc f5 f8 f9 F0) (go f5 f8 f9 f10 F0) (2 * N) s P pd bl bp) (hv : ∀ e : Nat, e < 2 * N → go f5 f8 f9 f10 F0 e = true → gx f6 f7 e < P ∧ gy f6 f7 e < P)
    (ht : t < P) (hf : (pd t).toInt < 1099511627776) (hR : rcs (pf_ bp) s R t) (hpi : ∀ v : Nat, (pd v).toInt < 1099511627776 → pi v = (pd v).toInt) (hi : i < R) (hy : y1.toNatClampNeg = itr (pf_ bp) i t) (el : l = bl y1.toNatClampNeg) (e2 : F2 = upd F l.toNatClampNeg v)
    (hvv : v.toInt = (F l.toNatClampNeg).toInt + (if (f6 l.toNatClampNeg).toInt = (bp y1.toNatClampNeg).toInt then n else -n)) (hn : 1 ≤ n) (hna : ∀ k : Nat, k < R → n ≤ amtI f5 f6 f8 F0 bl bp (itr (pf_ bp) k t))
    (hun : ∀ k : Nat, i ≤ k → k < R → F (bl (itr (pf_ bp) k t)).toNatClampNeg = F0 (bl (itr (pf_ bp) k t)).toNatClampNeg) (hp : pot f5 f6 f7 f8 f9 f10 F N pi) (hk : okF f5 f8 f9 F) (hb : ∀ j : Nat, j < 40 → -(B + n) ≤ (F j).toInt ∧ (F j).toInt ≤ B + n) (hb0 : ∀ j : Nat, j < 40 → -B ≤ (F0 j).toInt ∧ (F0 j).toInt ≤ B) :
    pot f5 f6 f7 f8 f9 f10 F2 N pi ∧ okF f5 f8 f9 F2 ∧ (∀ j : Nat, j < 40 → -(B + n) ≤ (F2 j).toInt ∧ (F2 j).toInt ≤ B + n) ∧ (∀ k : Nat, i + 1 ≤ k → k < R → F2 (bl (itr (pf_ bp) k t)).toNatClampNeg = F0 (bl (itr (pf_ bp) k t)).toNatClampNeg) := by
  obtain ⟨e, q1, q2, q3, q4, q5, q6, q7⟩ := ch_e hz hv ht hf hR hi
  have un := hun i (Nat.le_refl _) hi
  have am := hna i hi
  have w := hv e q1 q2
  rw [← hy] at un am q3 q5
  rw [← el] at un q3
  have q4b : pf_ bp y1.toNatClampNeg = gx f6 f7 e := by rw [hy]; exact q4
  have hyP : y1.toNatClampNeg < 12 := by omega
  have bpr := rp _ hyP
  have cb := clI (i := bp y1.toNatClampNeg) bpr.1
  have b6 := r6 (e / 2) (by omega)
  have c6 := clI (i := f6 (e / 2)) b6.1
  have b7 := r7 (e / 2) (by omega)
  have c7 := clI (i := f7 (e / 2)) b7.1
  have q4c : (bp y1.toNatClampNeg).toNatClampNeg = gx f6 f7 e := q4b
  have hne : gx f6 f7 e ≠ gy f6 f7 e := fun h => by
    have := ch_inj hR (i := i + 1) (j := i) (by omega) (by omega) (by rw [q4, h, ← q5, hy])
    omega
  have dir : (f6 (e / 2)).toInt = (bp y1.toNatClampNeg).toInt ↔ e % 2 = 0 := by
    unfold gx at q4c
    unfold gx gy at hne
    by_cases z : e % 2 = 0
    · rw [if_pos z] at q4c
      exact ⟨fun _ => z, fun _ => by omega⟩
    · rw [if_neg z] at q4c
      rw [if_neg z, if_neg z] at hne
      exact ⟨fun h => by omega, fun h => absurd h z⟩
  have amv : amtI f5 f6 f8 F0 bl bp y1.toNatClampNeg = eA f5 f8 F (e / 2) (if e % 2 = 0 then 1 else 0) := by
    unfold amtI
    rw [← el, q3]
    have d2 : dirI (f6 (e / 2)).toInt (bp y1.toNatClampNeg).toInt = if e % 2 = 0 then 1 else 0 := by
      unfold dirI
      by_cases z : e % 2 = 0
      · rw [if_pos z, if_pos (dir.mpr z)]
      · rw [if_neg z, if_neg (fun h => z (dir.mp h))]
    rw [d2]
    unfold eA
    rw [← q3, un]
  rw [amv] at am
  have un2 : F (e / 2) = F0 (e / 2) := by rw [← q3]; exact un
  have cg := gc_cg (f5 := f5) (f8 := f8) (f9 := f9) un2
  have ho : go f5 f8 f9 f10 F e = true := by
    have o2 := go_iff.mp q2
    rw [← cg] at o2
    exact go_iff.mpr o2
  have hv2 : v.toInt = (F (e / 2)).toInt + (if e % 2 = 0 then n else -n) := by
    rw [q3] at hvv
    rw [hvv]
    by_cases z : e % 2 = 0
    · rw [if_pos z, if_pos (dir.mpr z)]
    · rw [if_neg z, if_neg (fun h => z (dir.mp h))]
  have fy : (pd (gy f6 f7 e)).toInt < 1099511627776 := by
    have := (ch_fin hz hv ht hf hR i (by omega)).2
    rw [← hy, q5] at this
    exact this
  have tight : pi (gy f6 f7 e) = pi (gx f6 f7 e) + gc f5 f8 f9 F e := by
    rw [hpi _ fy, hpi _ q6, cg]
    exact q7
  have g := gpush r8 r9 hN e2 q1 q3 ho hn am hv2 tight hp hk
  refine ⟨g.1, g.2, fun j hj => ?_, fun k k1 k2 => ?_⟩
  · by_cases z : j = l.toNatClampNeg
    · rw [e2, z, pk_us, hv2, un2]
      have h0 := hb0 (e / 2) (by omega)
      split <;> omega
    · rw [e2, pk_un z]
      exact hb j hj
  · have ne := ch_line hz hv ht hf hR (i := i) (j := k) (by omega) k2
    rw [← hy, ← el] at ne
    rw [e2, pk_un (fun h => ne h.symm)]
    exact hun k (by omega) k2
end GRAPH
theorem gc_0 {f5 f8 f9 F : Nat → Int32} {j : Nat} : gc f5 f8 f9 F (2 * j + (0 : Int32).toNatClampNeg) = eS f5 f8 f9 F j (1 : Int32).toInt := by
  unfold gc
  rw [cl_0, Nat.add_zero, Nat.mul_div_cancel_left j (by decide), if_pos (Nat.mul_mod_right 2 j)]
  rfl
theorem gc_1 {f5 f8 f9 F : Nat → Int32} {j : Nat} : gc f5 f8 f9 F (2 * j + (1 : Int32).toNatClampNeg) = eS f5 f8 f9 F j (0 : Int32).toInt := by
  unfold gc
  rw [cl_1, show (2 * j + 1) / 2 = j by omega, if_neg (by omega)]
  rfl
theorem gx_0 {f6 f7 : Nat → Int32} {j : Nat} : gx f6 f7 (2 * j + (0 : Int32).toNatClampNeg) = (f6 j).toNatClampNeg ∧ gy f6 f7 (2 * j + (0 : Int32).toNatClampNeg) = (f7 j).toNatClampNeg := by
  unfold gx gy
  rw [cl_0, Nat.add_zero, Nat.mul_div_cancel_left j (by decide), if_pos (Nat.mul_mod_right 2 j), if_pos (Nat.mul_mod_right 2 j)]
  exact ⟨rfl, rfl⟩
theorem gx_1 {f6 f7 : Nat → Int32} {j : Nat} : gx f6 f7 (2 * j + (1 : Int32).toNatClampNeg) = (f7 j).toNatClampNeg ∧ gy f6 f7 (2 * j + (1 : Int32).toNatClampNeg) = (f6 j).toNatClampNeg := by
  unfold gx gy
  rw [cl_1, show (2 * j + 1) / 2 = j by omega, if_neg (by omega), if_neg (by omega)]
  exact ⟨rfl, rfl⟩
theorem go_at {f5 f8 f9 f10 F : Nat → Int32} {j : Nat} {b : Int32} {r : Int} (hb : b.toInt = 0 ∨ b.toInt = 1) (h0 : (f10 j).toInt = 0) (hr : r = gc f5 f8 f9 F (2 * j + b.toNatClampNeg)) (hlt : r < 1000000) : go f5 f8 f9 f10 F (2 * j + b.toNatClampNeg) = true := by
  have c := clI (i := b) (by omega)
  refine go_iff.mpr ⟨?_, by omega⟩
  rw [show (2 * j + b.toNatClampNeg) / 2 = j by omega]
  exact h0
theorem go_miss {f5 f8 f9 f10 F : Nat → Int32} {j e : Nat} (h0 : (f10 j).toInt ≠ 0) (he : e / 2 = j) : go f5 f8 f9 f10 F e = false := by
  cases h : go f5 f8 f9 f10 F e with
  | false => rfl
  | true =>
    have a := (go_iff.mp h).1
    rw [he] at a
    exact absurd a h0
theorem pd_st {s : Nat} {pd pd2 : Nat → Int64} {i i2 : Int32} {v : Int64} (e : pd2 = vp_updL pd i.toNatClampNeg v) (hv : v.toInt = if i.toNatClampNeg = s then 0 else 1099511627776) (h : ∀ w : Nat, (w : Int) < i.toInt → (pd w).toInt = if w = s then 0 else 1099511627776) (h0 : 0 ≤ i.toInt) (ei : i2.toInt = i.toInt + 1) : ∀ w : Nat, (w : Int) < i2.toInt → (pd2 w).toInt = if w = s then 0 else 1099511627776 := fun w hw => by
  have c := clI (i := i) h0
  rw [e]
  by_cases q : w = i.toNatClampNeg
  · rw [q, pk_uLs]
    exact hv
  · rw [pk_uLn q]
    exact h w (by omega)
theorem cw_nx {x y : Nat → Nat} {c : Nat → Int} {ok : Nat → Bool} {E s P : Nat} {pd : Nat → Int64} {bl bp : Nat → Int32} {rnd k k2 : Nat} (h : cw x y c ok E s P pd bl bp rnd k) (e : k2 = k) : cw x y c ok E s P pd bl bp rnd k2 := by
  rw [e]
  exact h
theorem cw_rd {x y : Nat → Nat} {c : Nat → Int} {ok : Nat → Bool} {E s P : Nat} {pd : Nat → Int64} {bl bp : Nat → Int32} {rnd r2 k : Nat} (h : cw x y c ok E s P pd bl bp rnd k) (ek : k = E) (e : r2 = rnd + 1) : cw x y c ok E s P pd bl bp r2 0 := by
  rw [e]
  rw [ek] at h
  exact cw_round h
theorem cw_r2 {x y : Nat → Nat} {c : Nat → Int} {ok : Nat → Bool} {E s P : Nat} {pd : Nat → Int64} {bl bp : Nat → Int32} {rnd r2 k : Nat} (h : cw x y c ok E s P pd bl bp rnd k) (e : r2 = rnd) : cw x y c ok E s P pd bl bp r2 k := by
  rw [e]
  exact h
theorem nI2 {a b : Int32} (h : b.toInt = a.toInt + 1) (h0 : 0 ≤ a.toInt) : b.toNatClampNeg = a.toNatClampNeg + 1 := by
  have c := clI (i := a) h0
  have d := clI (i := b) (by omega)
  omega
end
