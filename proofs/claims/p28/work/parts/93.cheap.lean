/-! ===== the reference's cheapest: costs of a step, and that its search ends ===== -/
/-- what a line costs to be wider by one; -9: it can't be -/
noncomputable def cst (k p : Int) : Int := if k = 3 then p else if k = 4 then p + 1 else -9
theorem cst_rng {k p : Int} (h0 : 0 ≤ p) (h1 : p ≤ 100) : cst k p = -9 ∨ (0 ≤ cst k p ∧ cst k p ≤ 101) := by
  unfold cst
  (repeat' split) <;> omega
noncomputable def stI (c w0 w1 f : Int) : Int := if f < 0 ∧ w0 < -f then -c else if f < w1 then 0 else if c = -9 then 1000000 else c
noncomputable def amI (w0 w1 f : Int) : Int := if f < 0 ∧ w0 < -f then -f - w0 else if f < w1 then w1 - f else 1000000
theorem stI_cs (c w0 w1 f : Int) : ((f < 0 ∧ w0 < -f) ∧ stI c w0 w1 f = -c) ∨ (¬ (f < 0 ∧ w0 < -f) ∧ f < w1 ∧ stI c w0 w1 f = 0) ∨ (¬ (f < 0 ∧ w0 < -f) ∧ w1 ≤ f ∧ c = -9 ∧ stI c w0 w1 f = 1000000) ∨ (¬ (f < 0 ∧ w0 < -f) ∧ w1 ≤ f ∧ c ≠ -9 ∧ stI c w0 w1 f = c) := by
  unfold stI
  (repeat' split) <;> omega
theorem amI_cs (w0 w1 f : Int) : ((f < 0 ∧ w0 < -f) ∧ amI w0 w1 f = -f - w0) ∨ (¬ (f < 0 ∧ w0 < -f) ∧ f < w1 ∧ amI w0 w1 f = w1 - f) ∨ (¬ (f < 0 ∧ w0 < -f) ∧ w1 ≤ f ∧ amI w0 w1 f = 1000000) := by
  unfold amI
  (repeat' split) <;> omega
/-- n more over a line, whose step is just what the places differ by -/
theorem st_push {c w0 w1 f n d : Int} (hc : c = -9 ∨ (0 ≤ c ∧ c ≤ 101)) (h0 : 0 ≤ w0) (h1 : 0 ≤ w1) (hd : d = stI c w0 w1 f) (hlt : stI c w0 w1 f < 1000000) (hn : 1 ≤ n) (hna : n ≤ amI w0 w1 f) (hr : c = -9 → -w0 ≤ f ∧ f ≤ w1) :
    (stI c w0 w1 (f + n) < 1000000 → d ≤ stI c w0 w1 (f + n)) ∧ (stI c w1 w0 (-(f + n)) < 1000000 → -d ≤ stI c w1 w0 (-(f + n))) ∧ (c = -9 → -w0 ≤ f + n ∧ f + n ≤ w1) := by
  have a1 := stI_cs c w0 w1 f
  have a2 := stI_cs c w0 w1 (f + n)
  have a3 := stI_cs c w1 w0 (-(f + n))
  have a4 := amI_cs w0 w1 f
  refine ⟨fun h => ?_, fun h => ?_, fun h => ?_⟩
  · rcases a1 with a1 | a1 | a1 | a1 <;> rcases a4 with a4 | a4 | a4 <;> first | (exfalso; omega) | (rcases a2 with a2 | a2 | a2 | a2 <;> omega)
  · rcases a1 with a1 | a1 | a1 | a1 <;> rcases a4 with a4 | a4 | a4 <;> first | (exfalso; omega) | (rcases a3 with a3 | a3 | a3 | a3 <;> omega)
  · rcases a1 with a1 | a1 | a1 | a1 <;> rcases a4 with a4 | a4 | a4 <;> omega
noncomputable def eS (f5 f8 f9 F : Nat → Int32) (j : Nat) (b : Int) : Int := if b ≠ 0 then stI (cst (f5 j).toInt (f9 j).toInt) (rmI (f5 j) (f8 j) 0) (rmI (f5 j) (f8 j) 1) (F j).toInt else stI (cst (f5 j).toInt (f9 j).toInt) (rmI (f5 j) (f8 j) 1) (rmI (f5 j) (f8 j) 0) (-(F j).toInt)
noncomputable def eA (f5 f8 F : Nat → Int32) (j : Nat) (b : Int) : Int := if b ≠ 0 then amI (rmI (f5 j) (f8 j) 0) (rmI (f5 j) (f8 j) 1) (F j).toInt else amI (rmI (f5 j) (f8 j) 1) (rmI (f5 j) (f8 j) 0) (-(F j).toInt)
/-! ===== ways by their costs, in general: edges e < E from x e to y e for c e, those that are ok ===== -/
noncomputable def mnE (g : Nat → Int) : Nat → Int → Int
  | 0, a => a
  | n + 1, a => if g n < mnE g n a then g n else mnE g n a
theorem mnE_le {g : Nat → Int} {a : Int} : ∀ n : Nat, mnE g n a ≤ a
  | 0 => Int.le_refl _
  | n + 1 => by
    have h := mnE_le (g := g) (a := a) n
    show (if g n < mnE g n a then g n else mnE g n a) ≤ a
    split <;> omega
theorem mnE_leg {g : Nat → Int} {a : Int} : ∀ (n i : Nat), i < n → mnE g n a ≤ g i
  | 0, i, h => absurd h (Nat.not_lt_zero _)
  | n + 1, i, h => by
    show (if g n < mnE g n a then g n else mnE g n a) ≤ g i
    by_cases e : i = n
    · subst e
      split <;> omega
    · have q := mnE_leg (g := g) (a := a) n i (by omega)
      split <;> omega
theorem mnE_at {g : Nat → Int} {a : Int} : ∀ n : Nat, mnE g n a = a ∨ ∃ i : Nat, i < n ∧ mnE g n a = g i
  | 0 => Or.inl rfl
  | n + 1 => by
    have h := mnE_at (g := g) (a := a) n
    show (if g n < mnE g n a then g n else mnE g n a) = a ∨ ∃ i : Nat, i < n + 1 ∧ (if g n < mnE g n a then g n else mnE g n a) = g i
    by_cases q : g n < mnE g n a
    · rw [if_pos q]
      exact Or.inr ⟨n, by omega, rfl⟩
    · rw [if_neg q]
      rcases h with h | ⟨i, hi, h⟩
      · exact Or.inl h
      · exact Or.inr ⟨i, by omega, h⟩
section WAYS
variable {x y : Nat → Nat} {c : Nat → Int} {ok : Nat → Bool} {E s P : Nat} {pi : Nat → Int}
noncomputable def dst (x y : Nat → Nat) (c : Nat → Int) (ok : Nat → Bool) (E s : Nat) : Nat → Nat → Int
  | 0, v => if v = s then 0 else 1099511627776
  | k + 1, v => mnE (fun e => if ok e = true ∧ y e = v ∧ dst x y c ok E s k (x e) < 1099511627776 then dst x y c ok E s k (x e) + c e else 1099511627776) E (dst x y c ok E s k v)
theorem dst_s (k v : Nat) : dst x y c ok E s (k + 1) v ≤ dst x y c ok E s k v := mnE_le E
theorem dst_mono : ∀ (k j v : Nat), j ≤ k → dst x y c ok E s k v ≤ dst x y c ok E s j v
  | 0, j, v, h => by
    obtain rfl : j = 0 := by omega
    exact Int.le_refl _
  | k + 1, j, v, h => by
    by_cases e : j = k + 1
    · subst e
      exact Int.le_refl _
    · exact Int.le_trans (dst_s k v) (dst_mono k j v (by omega))
theorem dst_inf (k v : Nat) : dst x y c ok E s k v ≤ 1099511627776 := by
  refine Int.le_trans (dst_mono k 0 v (Nat.zero_le _)) ?_
  show (if v = s then 0 else 1099511627776) ≤ 1099511627776
  split <;> decide
theorem dst_e {k e : Nat} (he : e < E) (ho : ok e = true) (hx : dst x y c ok E s k (x e) < 1099511627776) : dst x y c ok E s (k + 1) (y e) ≤ dst x y c ok E s k (x e) + c e := by
  have h := mnE_leg (g := fun e9 => if ok e9 = true ∧ y e9 = y e ∧ dst x y c ok E s k (x e9) < 1099511627776 then dst x y c ok E s k (x e9) + c e9 else 1099511627776) (a := dst x y c ok E s k (y e)) E e he
  have h2 : dst x y c ok E s (k + 1) (y e) ≤ (if ok e = true ∧ y e = y e ∧ dst x y c ok E s k (x e) < 1099511627776 then dst x y c ok E s k (x e) + c e else 1099511627776) := h
  rw [if_pos ⟨ho, rfl, hx⟩] at h2
  exact h2
theorem dst_at {k v : Nat} (h : dst x y c ok E s (k + 1) v < dst x y c ok E s k v) : ∃ e : Nat, e < E ∧ ok e = true ∧ y e = v ∧ dst x y c ok E s k (x e) < 1099511627776 ∧ dst x y c ok E s (k + 1) v = dst x y c ok E s k (x e) + c e := by
  have a := mnE_at (g := fun e => if ok e = true ∧ y e = v ∧ dst x y c ok E s k (x e) < 1099511627776 then dst x y c ok E s k (x e) + c e else 1099511627776) (a := dst x y c ok E s k v) E
  have i := dst_inf (x := x) (y := y) (c := c) (ok := ok) (E := E) (s := s) k v
  rcases a with a | ⟨e, he, a⟩
  · have a2 : dst x y c ok E s (k + 1) v = dst x y c ok E s k v := a
    omega
  · have a2 : dst x y c ok E s (k + 1) v = (if ok e = true ∧ y e = v ∧ dst x y c ok E s k (x e) < 1099511627776 then dst x y c ok E s k (x e) + c e else 1099511627776) := a
    by_cases q : ok e = true ∧ y e = v ∧ dst x y c ok E s k (x e) < 1099511627776
    · rw [if_pos q] at a2
      exact ⟨e, he, q.1, q.2.1, q.2.2, a2⟩
    · rw [if_neg q] at a2
      omega
theorem dst_lo (hc : ∀ e : Nat, e < E → ok e = true → -101 ≤ c e) : ∀ k v : Nat, -(101 * (k : Int)) ≤ dst x y c ok E s k v
  | 0, v => by
    show -(101 * ((0 : Nat) : Int)) ≤ (if v = s then 0 else 1099511627776)
    split <;> decide
  | k + 1, v => by
    have i := dst_lo hc k
    rcases Int.lt_or_le (dst x y c ok E s (k + 1) v) (dst x y c ok E s k v) with h | h
    · obtain ⟨e, he, ho, _, _, h2⟩ := dst_at h
      have a := i (x e)
      have b := hc e he ho
      omega
    · have a := i v
      omega
theorem dst_hi (hc : ∀ e : Nat, e < E → ok e = true → c e < 1000000) : ∀ k v : Nat, dst x y c ok E s k v < 1099511627776 → dst x y c ok E s k v ≤ 1000000 * (k : Int)
  | 0, v, h => by
    have e0 : dst x y c ok E s 0 v = if v = s then 0 else 1099511627776 := rfl
    rw [e0] at h ⊢
    by_cases e : v = s
    · rw [if_pos e]
      decide
    · rw [if_neg e] at h
      omega
  | k + 1, v, h => by
    rcases Int.lt_or_le (dst x y c ok E s (k + 1) v) (dst x y c ok E s k v) with q | q
    · obtain ⟨e, he, ho, _, hx, h2⟩ := dst_at q
      have a := dst_hi hc k (x e) hx
      have b := hc e he ho
      omega
    · have m := dst_s (x := x) (y := y) (c := c) (ok := ok) (E := E) (s := s) k v
      have a := dst_hi hc k v (by omega)
      omega
theorem dst_pi (hp : ∀ e : Nat, e < E → ok e = true → pi (y e) ≤ pi (x e) + c e) : ∀ k v : Nat, dst x y c ok E s k v < 1099511627776 → pi v - pi s ≤ dst x y c ok E s k v
  | 0, v, h => by
    have e0 : dst x y c ok E s 0 v = if v = s then 0 else 1099511627776 := rfl
    rw [e0] at h ⊢
    by_cases e : v = s
    · rw [if_pos e, e]
      omega
    · rw [if_neg e] at h
      omega
  | k + 1, v, h => by
    rcases Int.lt_or_le (dst x y c ok E s (k + 1) v) (dst x y c ok E s k v) with q | q
    · obtain ⟨e, he, ho, ey, hx, h2⟩ := dst_at q
      have a := dst_pi hp k (x e) hx
      have b := hp e he ho
      rw [ey] at b
      omega
    · have m := dst_s (x := x) (y := y) (c := c) (ok := ok) (E := E) (s := s) k v
      have a := dst_pi hp k v (by omega)
      omega
/-- a way that is better still at the k-th time has k + 1 steps -/
theorem dst_ch (hp : ∀ e : Nat, e < E → ok e = true → pi (y e) ≤ pi (x e) + c e) (hv : ∀ e : Nat, e < E → ok e = true → x e < P ∧ y e < P) : ∀ k v : Nat, dst x y c ok E s (k + 1) v < dst x y c ok E s k v →
    ∃ u : Nat → Nat, u (k + 1) = v ∧ (∀ i : Nat, i ≤ k + 1 → u i < P) ∧ (∀ i : Nat, i ≤ k → dst x y c ok E s (i + 1) (u (i + 1)) < dst x y c ok E s i (u (i + 1))) ∧ (∀ i : Nat, i ≤ k → dst x y c ok E s i (u i) - pi (u i) ≤ dst x y c ok E s (i + 1) (u (i + 1)) - pi (u (i + 1)))
  | 0, v, h => by
    obtain ⟨e, he, ho, ey, hx, h2⟩ := dst_at h
    have b := hp e he ho
    have w := hv e he ho
    refine ⟨fun i => if i = 0 then x e else v, rfl, fun i hi => ?_, fun i hi => ?_, fun i hi => ?_⟩
    · show (if i = 0 then x e else v) < P
      split
      · exact w.1
      · rw [← ey]; exact w.2
    · obtain rfl : i = 0 := by omega
      exact h
    · obtain rfl : i = 0 := by omega
      show dst x y c ok E s 0 (x e) - pi (x e) ≤ dst x y c ok E s (0 + 1) v - pi v
      rw [ey] at b
      omega
  | k + 1, v, h => by
    obtain ⟨e, he, ho, ey, hx, h2⟩ := dst_at h
    have b := hp e he ho
    have w := hv e he ho
    have hlt : dst x y c ok E s (k + 1) (x e) < dst x y c ok E s k (x e) := by
      rcases Int.lt_or_le (dst x y c ok E s (k + 1) (x e)) (dst x y c ok E s k (x e)) with q | q
      · exact q
      · have m := dst_s (x := x) (y := y) (c := c) (ok := ok) (E := E) (s := s) k (x e)
        have d := dst_e (x := x) (y := y) (c := c) (s := s) (k := k) he ho (by omega)
        rw [ey] at d
        omega
    obtain ⟨u, u1, u2, u3, u4⟩ := dst_ch hp hv k (x e) hlt
    have n1 : ∀ i : Nat, i ≤ k + 1 → (fun i => if i ≤ k + 1 then u i else v) i = u i := fun i hi => if_pos hi
    have n2 : (fun i => if i ≤ k + 1 then u i else v) (k + 1 + 1) = v := if_neg (by omega)
    refine ⟨fun i => if i ≤ k + 1 then u i else v, n2, fun i hi => ?_, fun i hi => ?_, fun i hi => ?_⟩
    · by_cases q : i ≤ k + 1
      · rw [n1 i q]
        exact u2 i q
      · rw [show i = k + 1 + 1 by omega, n2, ← ey]
        exact w.2
    · by_cases q : i ≤ k
      · rw [n1 (i + 1) (by omega)]
        exact u3 i q
      · rw [show i = k + 1 by omega, n2]
        exact h
    · by_cases q : i ≤ k
      · rw [n1 (i + 1) (by omega), n1 i (by omega)]
        exact u4 i q
      · rw [show i = k + 1 by omega, n2, n1 (k + 1) (Nat.le_refl _), u1]
        rw [ey] at b
        omega
theorem dst_end (hp : ∀ e : Nat, e < E → ok e = true → pi (y e) ≤ pi (x e) + c e) (hv : ∀ e : Nat, e < E → ok e = true → x e < P ∧ y e < P) {k : Nat} (hk : P ≤ k + 1) (v : Nat) : dst x y c ok E s (k + 1) v = dst x y c ok E s k v := by
  have m := dst_s (x := x) (y := y) (c := c) (ok := ok) (E := E) (s := s) k v
  rcases Int.lt_or_le (dst x y c ok E s (k + 1) v) (dst x y c ok E s k v) with q | q
  · exfalso
    obtain ⟨u, u1, u2, u3, u4⟩ := dst_ch hp hv k v q
    have tel : ∀ d i : Nat, i + d ≤ k + 1 → dst x y c ok E s i (u i) - pi (u i) ≤ dst x y c ok E s (i + d) (u (i + d)) - pi (u (i + d)) := fun d => by
      induction d with
      | zero => exact fun i _ => Int.le_refl _
      | succ d ih =>
        intro i hi
        have a := ih i (by omega)
        have b := u4 (i + d) (by omega)
        exact Int.le_trans a b
    have := pigeon P (k + 2) (fun i => (u i : Int)) (fun i hi => by
      have a := u2 i (by omega)
      exact ⟨by omega, by omega⟩) (fun i j hij hj e => by
      have e2 : u i = u j := by
        have e9 : (u i : Int) = (u j : Int) := e
        omega
      have t := tel (j - i) i (by omega)
      rw [show i + (j - i) = j by omega, e2] at t
      have l := u3 (j - 1) (by omega)
      rw [show j - 1 + 1 = j by omega] at l
      have mo := dst_mono (x := x) (y := y) (c := c) (ok := ok) (E := E) (s := s) (j - 1) i (u j) (by omega)
      omega)
    omega
  · omega
/-! the chain of a search: n steps of p from v to s -/
noncomputable def rcs (p : Nat → Nat) (s : Nat) : Nat → Nat → Prop
  | 0, v => v = s
  | n + 1, v => v ≠ s ∧ rcs p s n (p v)
theorem rcs_un {p : Nat → Nat} {s : Nat} : ∀ (n m v : Nat), rcs p s n v → rcs p s m v → n = m
  | 0, 0, _, _, _ => rfl
  | 0, _ + 1, _, h, h2 => absurd h h2.1
  | _ + 1, 0, _, h, h2 => absurd h2 h.1
  | n + 1, m + 1, v, h, h2 => by rw [rcs_un n m (p v) h.2 h2.2]
noncomputable def itr (p : Nat → Nat) : Nat → Nat → Nat
  | 0, v => v
  | i + 1, v => p (itr p i v)
theorem rcs_itr {p : Nat → Nat} {s n v : Nat} (h : rcs p s n v) : ∀ i : Nat, i ≤ n → rcs p s (n - i) (itr p i v)
  | 0, _ => h
  | i + 1, hi => by
    have a := rcs_itr h i (by omega)
    rw [show n - i = (n - (i + 1)) + 1 by omega] at a
    exact a.2
/-- y hangs at x anew: chains still end at s -/
theorem rcs_up {p q : Nat → Nat} {s P : Nat} {d pi : Nat → Int} {x1 y1 : Nat} {c1 : Int} (hq : ∀ v : Nat, v ≠ y1 → q v = p v) (hqy : q y1 = x1) (hys : y1 ≠ s) (hx1 : x1 < P) (hfx : d x1 < 1099511627776)
    (hc : d x1 + c1 < d y1) (hpi : pi y1 ≤ pi x1 + c1) (ht : ∀ v : Nat, v < P → v ≠ s → d v < 1099511627776 → p v < P ∧ d (p v) < 1099511627776 ∧ d (p v) - pi (p v) ≤ d v - pi v) (hr : ∀ v : Nat, v < P → d v < 1099511627776 → ∃ n : Nat, rcs p s n v) :
    ∀ v : Nat, v < P → (d v < 1099511627776 ∨ v = y1) → ∃ n : Nat, rcs q s n v := by
  have A : ∀ (n v : Nat), v < P → d v < 1099511627776 → rcs p s n v → rcs q s n v ∨ d y1 - pi y1 ≤ d v - pi v := fun n => by
    induction n with
    | zero => exact fun v _ _ h => Or.inl h
    | succ n ih =>
      intro v hv hf h
      by_cases e : v = y1
      · rw [e]
        exact Or.inr (Int.le_refl _)
      · have t := ht v hv h.1 hf
        rcases ih (p v) t.1 t.2.1 h.2 with a | a
        · exact Or.inl ⟨h.1, by rw [hq v e]; exact a⟩
        · exact Or.inr (by omega)
  obtain ⟨m, hm⟩ := hr x1 hx1 hfx
  have hx : rcs q s m x1 := by
    rcases A m x1 hx1 hfx hm with a | a
    · exact a
    · omega
  have B : ∀ (n v : Nat), v < P → d v < 1099511627776 → rcs p s n v → ∃ n2 : Nat, rcs q s n2 v := fun n => by
    induction n with
    | zero => exact fun v _ _ h => ⟨0, h⟩
    | succ n ih =>
      intro v hv hf h
      by_cases e : v = y1
      · exact ⟨m + 1, h.1, by rw [e, hqy]; exact hx⟩
      · have t := ht v hv h.1 hf
        obtain ⟨n2, h2⟩ := ih (p v) t.1 t.2.1 h.2
        exact ⟨n2 + 1, h.1, by rw [hq v e]; exact h2⟩
  intro v hv hf
  by_cases e : v = y1
  · exact ⟨m + 1, by rw [e]; exact hys, by rw [e, hqy]; exact hx⟩
  · rcases hf with hf | hf
    · obtain ⟨n, hn⟩ := hr v hv hf
      exact B n v hv hf hn
    · exact absurd hf e
end WAYS

set_option maxHeartbeats 4000000 in
set_option maxRecDepth 100000 in
theorem c_X12_costs2 (l : Launch) (D : va_G) (cy : Nat → ClassId) (sz : Nat) (mo : Nat) (g5 : Nat) (g6 : Nat) (g7 : Nat) (g8 : Nat) (g9 : Nat) (g10 : Nat) (g12 : Nat) (g13 : Nat) (g14 : Nat) (g15 : Nat) (g16 : Nat) (g17 : Nat) (g18 : Nat) (g19 : Nat) (g20 : Nat) (g22 : Nat) (g23 : Nat) (g24 : Nat) (g29 : Nat) (g30 : Nat) (g31 : Nat) (g32 : Nat) (g33 : Nat) (s0 : Int32) (s1 : Int32) (s3 : Int32) (s4 : Int32) (s11 : Int32) (s21 : Int32) (s25 : Int32) (s26 : Int32) (s27 : Int32) (s28 : Int32) (t2 : Int64) (f5 : Nat → Int32) (f9 : Nat → Int32) (a1 : Int32) (q1 : 0 ≤ a1.toInt ∧ a1.toInt < 40) (r_f9 : rng f9 40 (0) (100)) : Met l yX12_costs wsX12_costs ({ frames := 0, cells := 0, slots := 0, locals := 0 }) (va_Pc [.ref mo, .int a1] (fun U => U.heap.size = sz ∧ va_P D vwCl [(mo, .inr (12, [.int s0, .int s1, .long t2, .int s3, .int s4, .ref g5, .ref g6, .ref g7, .ref g8, .ref g9, .ref g10, .int s11, .ref g12, .ref g13, .ref g14, .ref g15, .ref g16, .ref g17, .ref g18, .ref g19, .ref g20, .int s21, .ref g22, .ref g23, .ref g24, .int s25, .int s26, .int s27, .int s28, .ref g29, .ref g30, .ref g31, .ref g32, .ref g33])), (g5, .inl (cy 0, 40, .inl f5)), (g9, .inl (cy 0, 40, .inl f9))] U.heap ∧ kk_ D cy U ∧ va_D (fun _ => True) [(mo, .inr (12, [.int s0, .int s1, .long t2, .int s3, .int s4, .ref g5, .ref g6, .ref g7, .ref g8, .ref g9, .ref g10, .int s11, .ref g12, .ref g13, .ref g14, .ref g15, .ref g16, .ref g17, .ref g18, .ref g19, .ref g20, .int s21, .ref g22, .ref g23, .ref g24, .int s25, .int s26, .int s27, .int s28, .ref g29, .ref g30, .ref g31, .ref g32, .ref g33])), (g5, .inl (cy 0, 40, .inl f5)), (g9, .inl (cy 0, 40, .inl f9))])) (va_Qi (fun (r : Int32) (_ : Unit) => (r.toInt = cst (f5 a1.toNatClampNeg).toInt (f9 a1.toNatClampNeg).toInt)) (fun (_ : Unit) (_ : State) => True) (va_A [] sz)) 0 0 (va_A [] sz) := by
  refine ofQ (cc := cX12_costs) (maxL := 2) (ret := (some .int)) (by decide) rfl ?_
  intro p e s m args below meth c s₁ Q hQ B hml hv
  obtain ⟨rfl, hsz, hP, hK, hD0⟩ := hv
  have hx := B.exec
  have hb := B.bytes
  have hr := B.returns
  have hts := atoms_spec (ws := wsX12_costs) B.pre
  have hown : s.vm.findClass RX12 = some m.cls := by have h_ := findClass_of_methodNamed B.named; exact h_
  have hlocks := B.notSynchronized
  subst hsz
  have hD : va_D (va_A [] s.heap.size) [] := dd_nil
  generalize hAe : va_A [] s.heap.size = A at hD hQ
  have hA : ∀ q : Nat, s.heap.size ≤ q → A q := fun q h => by rw [← hAe]; exact Or.inr h
  have hS : va_S A s.heap s.heap [] := va_S.rf
  have hl := lv_entry ([.ref mo, .int a1]) (n := 2) (Nat.le_of_ble_eq_true rfl)
  rw [lg_entry_eq]
  generalize (lg_sl ([.ref mo, .int a1]) ++ List.replicate (2 - (lg_sl ([.ref mo, .int a1])).length) Slot.unset).toArray = ls at hl ⊢
  have hl : lv_has ls 2 [(0, .ref mo), (1, .int a1)] := hl
  have zm9 : ((-9) : Int32).toInt = -9 := by decide
  have z1 : (1 : Int32).toInt = 1 := by decide
  have z3 : (3 : Int32).toInt = 3 := by decide
  have z4 : (4 : Int32).toInt = 4 := by decide
  refine lv_aload_n hx hb dX12_costs_0 rfl (lv_at hl 0 rfl) ?_
  refine va_get (ci := 12) (v := .ref g5) (C := RX12) (T := TX12) (N := 34) hx hb hts (fun _ h => List.mem_cons_of_mem _ (List.mem_append_right _ h)) hown hK.1 hP 0 rfl rfl 5 (by decide) (hts (.fieldLink RX12 7 "CutAtlasModel" "kind" "[I") (by decide +kernel)) (fun _ h9 => h9) rfl dX12_costs_1 ?_
  refine lv_iload_n hx hb dX12_costs_4 rfl (lv_at hl 1 rfl) ?_
  have h_1 : vp_in a1 40 := in_I (by omega) (by omega)
  refine va_iald hx hb hK.1 hP 1 0 rfl rfl (i := a1) h_1 dX12_costs_5 ?_
  refine lv_topi (fun y_2 ey_2 => ?_)
  have ky_2 : y_2.toInt = (f5 a1.toNatClampNeg).toInt := by rw [ey_2]
  refine lv_iconst (v := 3) hx hb dX12_costs_6 (by decide) ?_
  refine lv_icmp_ne (tgt := 19) hx hb dX12_costs_7 (by decide) (fun c_3 => ?_) (fun c_3 => ?_)
  · have t_3 : ¬ y_2.toInt = (3 : Int32).toInt := fun h => c_3 (Int32.toInt_inj.mp h)
    refine lv_aload_n hx hb dX12_costs_19 rfl (lv_at hl 0 rfl) ?_
    refine va_get (ci := 12) (v := .ref g5) (C := RX12) (T := TX12) (N := 34) hx hb hts (fun _ h => List.mem_cons_of_mem _ (List.mem_append_right _ h)) hown hK.1 hP 0 rfl rfl 5 (by decide) (hts (.fieldLink RX12 7 "CutAtlasModel" "kind" "[I") (by decide +kernel)) (fun _ h9 => h9) rfl dX12_costs_20 ?_
    refine lv_iload_n hx hb dX12_costs_23 rfl (lv_at hl 1 rfl) ?_
    have h_4 : vp_in a1 40 := in_I (by omega) (by omega)
    refine va_iald hx hb hK.1 hP 1 0 rfl rfl (i := a1) h_4 dX12_costs_24 ?_
    refine lv_topi (fun y_5 ey_5 => ?_)
    have e_ := (ey_5.trans ey_2.symm).symm
    subst e_
    skip
    refine lv_iconst (v := 4) hx hb dX12_costs_25 (by decide) ?_
    refine lv_icmp_ne (tgt := 40) hx hb dX12_costs_26 (by decide) (fun c_6 => ?_) (fun c_6 => ?_)
    · have t_6 : ¬ y_2.toInt = (4 : Int32).toInt := fun h => c_6 (Int32.toInt_inj.mp h)
      refine lv_bipush (v := (-9)) hx hb dX12_costs_40 (by decide) ?_
      rw [hQ]
      exact W.iret (v := (-9)) hx hb hr (fun t ht hW => ⟨⟨(-9), (), rfl, (by unfold cst; (repeat' split) <;> omega), trivial⟩, hS.F ht⟩) hS.2.2 dX12_costs_42
    · have t_6 : y_2.toInt = (4 : Int32).toInt := congrArg Int32.toInt c_6
      refine lv_aload_n hx hb dX12_costs_29 rfl (lv_at hl 0 rfl) ?_
      refine va_get (ci := 12) (v := .ref g9) (C := RX12) (T := TX12) (N := 34) hx hb hts (fun _ h => List.mem_cons_of_mem _ (List.mem_append_right _ h)) hown hK.1 hP 0 rfl rfl 9 (by decide) (hts (.fieldLink RX12 22 "CutAtlasModel" "price" "[I") (by decide +kernel)) (fun _ h9 => h9) rfl dX12_costs_30 ?_
      refine lv_iload_n hx hb dX12_costs_33 rfl (lv_at hl 1 rfl) ?_
      have h_7 : vp_in a1 40 := in_I (by omega) (by omega)
      refine va_iald hx hb hK.1 hP 2 0 rfl rfl (i := a1) h_7 dX12_costs_34 ?_
      refine lv_topi (fun y_8 ey_8 => ?_)
      have ky_8 : y_8.toInt = (f9 a1.toNatClampNeg).toInt := by rw [ey_8]
      have ry_8 : 0 ≤ y_8.toInt ∧ y_8.toInt ≤ 100 := by rw [ey_8]; exact r_f9 _ (in_lt h_7)
      refine lv_iconst (v := 1) hx hb dX12_costs_35 (by decide) ?_
      refine lv_iadd hx hb dX12_costs_36 ?_
      refine lv_topi (fun y_9 ey_9 => ?_)
      have ty_9 : y_9.toInt = y_8.toInt + (1 : Int32).toInt := by rw [ey_9]; exact addI (by omega) (by omega)
      refine lv_goto (tgt := 42) hx hb dX12_costs_37 (by decide) ?_
      rw [hQ]
      exact W.iret (v := y_9) hx hb hr (fun t ht hW => ⟨⟨y_9, (), rfl, (by unfold cst; (repeat' split) <;> omega), trivial⟩, hS.F ht⟩) hS.2.2 dX12_costs_42
  · have t_3 : y_2.toInt = (3 : Int32).toInt := congrArg Int32.toInt c_3
    refine lv_aload_n hx hb dX12_costs_10 rfl (lv_at hl 0 rfl) ?_
    refine va_get (ci := 12) (v := .ref g9) (C := RX12) (T := TX12) (N := 34) hx hb hts (fun _ h => List.mem_cons_of_mem _ (List.mem_append_right _ h)) hown hK.1 hP 0 rfl rfl 9 (by decide) (hts (.fieldLink RX12 22 "CutAtlasModel" "price" "[I") (by decide +kernel)) (fun _ h9 => h9) rfl dX12_costs_11 ?_
    refine lv_iload_n hx hb dX12_costs_14 rfl (lv_at hl 1 rfl) ?_
    have h_10 : vp_in a1 40 := in_I (by omega) (by omega)
    refine va_iald hx hb hK.1 hP 2 0 rfl rfl (i := a1) h_10 dX12_costs_15 ?_
    refine lv_topi (fun y_11 ey_11 => ?_)
    have ky_11 : y_11.toInt = (f9 a1.toNatClampNeg).toInt := by rw [ey_11]
    have ry_11 : 0 ≤ y_11.toInt ∧ y_11.toInt ≤ 100 := by rw [ey_11]; exact r_f9 _ (in_lt h_10)
    refine lv_goto (tgt := 42) hx hb dX12_costs_16 (by decide) ?_
    rw [hQ]
    exact W.iret (v := y_11) hx hb hr (fun t ht hW => ⟨⟨y_11, (), rfl, (by unfold cst; (repeat' split) <;> omega), trivial⟩, hS.F ht⟩) hS.2.2 dX12_costs_42

set_option maxHeartbeats 4000000 in
set_option maxRecDepth 100000 in
theorem c_X12_step2 (l : Launch) (D : va_G) (cy : Nat → ClassId) (sz : Nat) (mo : Nat) (g5 : Nat) (g6 : Nat) (g7 : Nat) (g8 : Nat) (g9 : Nat) (g10 : Nat) (g12 : Nat) (g13 : Nat) (g14 : Nat) (g15 : Nat) (g16 : Nat) (g17 : Nat) (g18 : Nat) (g19 : Nat) (g20 : Nat) (g22 : Nat) (g23 : Nat) (g24 : Nat) (g29 : Nat) (g30 : Nat) (g31 : Nat) (g32 : Nat) (g33 : Nat) (s0 : Int32) (s1 : Int32) (s3 : Int32) (s4 : Int32) (s11 : Int32) (s21 : Int32) (s25 : Int32) (s26 : Int32) (s27 : Int32) (s28 : Int32) (t2 : Int64) (f5 : Nat → Int32) (f8 : Nat → Int32) (f9 : Nat → Int32) (f22 : Nat → Int32) (a1 : Int32) (a2 : Int32) (q1 : 0 ≤ a1.toInt ∧ a1.toInt < 40) (h21 : s21.toInt = -9) (q2 : a2.toInt = 0 ∨ a2.toInt = 1) (hf : -1000 ≤ (f22 a1.toNatClampNeg).toInt ∧ (f22 a1.toNatClampNeg).toInt ≤ 1000) (r_f8 : rng f8 40 (0) (2000)) (r_f9 : rng f9 40 (0) (100)) : Met l yX12_step wsX12_step ({ frames := 2, cells := 0, slots := 0, locals := 46 }) (va_Pc [.ref mo, .int a1, .int a2] (fun U => U.heap.size = sz ∧ va_P D vwCl [(mo, .inr (12, [.int s0, .int s1, .long t2, .int s3, .int s4, .ref g5, .ref g6, .ref g7, .ref g8, .ref g9, .ref g10, .int s11, .ref g12, .ref g13, .ref g14, .ref g15, .ref g16, .ref g17, .ref g18, .ref g19, .ref g20, .int s21, .ref g22, .ref g23, .ref g24, .int s25, .int s26, .int s27, .int s28, .ref g29, .ref g30, .ref g31, .ref g32, .ref g33])), (g5, .inl (cy 0, 40, .inl f5)), (g8, .inl (cy 0, 40, .inl f8)), (g9, .inl (cy 0, 40, .inl f9)), (g22, .inl (cy 0, 40, .inl f22))] U.heap ∧ kk_ D cy U ∧ va_D (fun _ => True) [(mo, .inr (12, [.int s0, .int s1, .long t2, .int s3, .int s4, .ref g5, .ref g6, .ref g7, .ref g8, .ref g9, .ref g10, .int s11, .ref g12, .ref g13, .ref g14, .ref g15, .ref g16, .ref g17, .ref g18, .ref g19, .ref g20, .int s21, .ref g22, .ref g23, .ref g24, .int s25, .int s26, .int s27, .int s28, .ref g29, .ref g30, .ref g31, .ref g32, .ref g33])), (g5, .inl (cy 0, 40, .inl f5)), (g8, .inl (cy 0, 40, .inl f8)), (g9, .inl (cy 0, 40, .inl f9)), (g22, .inl (cy 0, 40, .inl f22))])) (va_Ql (fun (r : Int64) (_ : Unit) => (r.toInt = eS f5 f8 f9 f22 a1.toNatClampNeg a2.toInt)) (fun (_ : Unit) (_ : State) => True) (va_A [] sz)) 0 0 (va_A [] sz) := by
  refine ofQ (cc := cX12_step) (maxL := 7) (ret := (some .long)) (by decide) rfl ?_
  intro p e s m args below meth c s₁ Q hQ B hml hv
  obtain ⟨rfl, hsz, hP, hK, hD0⟩ := hv
  have hx := B.exec
  have hb := B.bytes
  have hr := B.returns
  have hts := atoms_spec (ws := wsX12_step) B.pre
  have hown : s.vm.findClass RX12 = some m.cls := by have h_ := findClass_of_methodNamed B.named; exact h_
  have hlocks := B.notSynchronized
  subst hsz
  have hD : va_D (va_A [] s.heap.size) [] := dd_nil
  generalize hAe : va_A [] s.heap.size = A at hD hQ
  have hA : ∀ q : Nat, s.heap.size ≤ q → A q := fun q h => by rw [← hAe]; exact Or.inr h
  have hS : va_S A s.heap s.heap [] := va_S.rf
  have hl := lv_entry ([.ref mo, .int a1, .int a2]) (n := 7) (Nat.le_of_ble_eq_true rfl)
  rw [lg_entry_eq]
  generalize (lg_sl ([.ref mo, .int a1, .int a2]) ++ List.replicate (7 - (lg_sl ([.ref mo, .int a1, .int a2])).length) Slot.unset).toArray = ls at hl ⊢
  have hl : lv_has ls 7 [(0, .ref mo), (1, .int a1), (2, .int a2)] := hl
  have zm9 : ((-9) : Int32).toInt = -9 := by decide
  have z0 : (0 : Int32).toInt = 0 := by decide
  have zl0 : (0 : Int64).toInt = 0 := by decide
  have z1 : (1 : Int32).toInt = 1 := by decide
  have zl1000000 : (1000000 : Int64).toInt = 1000000 := by decide
  have hv : vp_in a1 40 := in_I (by omega) (by omega)
  have fw := r_f8 _ (in_lt hv)
  have w1 := rmI_rng (k := f5 a1.toNatClampNeg) (b := 1) fw.1 fw.2
  have w0 := rmI_rng (k := f5 a1.toNatClampNeg) (b := 0) fw.1 fw.2
  have f9_ := r_f9 _ (in_lt hv)
  have cr_ := cst_rng (k := (f5 a1.toNatClampNeg).toInt) f9_.1 f9_.2
  rcases b01 q2 with rfl | rfl
  · refine lv_iload_n hx hb dX12_step_0 rfl (lv_at hl 2 rfl) ?_
    refine lv_if_eq (tgt := 13) hx hb dX12_step_1 (by decide) (fun c_1 => ?_) (fun c_1 => ?_)
    · have _ := c_1
      refine lv_aload_n hx hb dX12_step_13 rfl (lv_at hl 0 rfl) ?_
      refine va_get (ci := 12) (v := .ref g22) (C := RX12) (T := TX12) (N := 34) hx hb hts (fun _ h => List.mem_cons_of_mem _ (List.mem_append_right _ h)) hown hK.1 hP 0 rfl rfl 22 (by decide) (hts (.fieldLink RX12 61 "CutAtlasModel" "flows" "[I") (by decide +kernel)) (fun _ h9 => h9) rfl dX12_step_14 ?_
      refine lv_iload_n hx hb dX12_step_17 rfl (lv_at hl 1 rfl) ?_
      have h_2 : vp_in a1 40 := in_I (by omega) (by omega)
      refine va_iald hx hb hK.1 hP 4 0 rfl rfl (i := a1) h_2 dX12_step_18 ?_
      refine lv_topi (fun y_3 ey_3 => ?_)
      have ky_3 : y_3.toInt = (f22 a1.toNatClampNeg).toInt := by rw [ey_3]
      refine lv_ineg hx hb dX12_step_19 ?_
      refine lv_topi (fun y_4 ey_4 => ?_)
      have ty_4 : y_4.toInt = - y_3.toInt := by rw [ey_4]; exact negI (by omega)
      refine lv_istore_n (lv' := [(3, .int y_4), (0, .ref mo), (1, .int a1), (2, .int 0)]) hx hb dX12_step_20 rfl hl (by decide) rfl (fun ls hl => ?_)
      refine lv_aload_n hx hb dX12_step_21 rfl (lv_at hl 1 rfl) ?_
      refine lv_iload_n hx hb dX12_step_22 rfl (lv_at hl 2 rfl) ?_
      refine lv_iload_n hx hb dX12_step_23 rfl (lv_at hl 3 rfl) ?_
      refine ct_R hP hD0 [(mo, .inr (12, [.int s0, .int s1, .long t2, .int s3, .int s4, .ref g5, .ref g6, .ref g7, .ref g8, .ref g9, .ref g10, .int s11, .ref g12, .ref g13, .ref g14, .ref g15, .ref g16, .ref g17, .ref g18, .ref g19, .ref g20, .int s21, .ref g22, .ref g23, .ref g24, .int s25, .int s26, .int s27, .int s28, .ref g29, .ref g30, .ref g31, .ref g32, .ref g33])), (g5, .inl (cy 0, 40, .inl f5)), (g8, .inl (cy 0, 40, .inl f8))] [0, 1, 2] (by decide) rfl (fun hPc hDw => ?_)
      have hFc := va_free (wc := []) hD hS hA [] rfl
      refine va_calli (va_runV (As := [.int a1, .int 0]) (rest := []) ⟨hx, hb, hml, hown, hts⟩ (c_X12_room l D cy s.heap.size mo g5 g6 g7 g8 g9 g10 g12 g13 g14 g15 g16 g17 g18 g19 g20 g22 g23 g24 g29 g30 g31 g32 g33 s0 s1 s3 s4 s11 s21 s25 s26 s27 s28 t2 f5 f8 a1 (0 : Int32) (by first | with_reducible assumption | assumption | omega)) (cwV 2 hts gX12_step_X12_room rfl rfl rfl (by decide +kernel) ⟨Nat.le_of_ble_eq_true rfl, Nat.le_of_ble_eq_true rfl⟩) ⟨bl_, va_recvX hK.1 hP (ci := 12) (q0 := 0) rfl rfl, fun U hU hW => ⟨rfl, by rw [hU], by rw [hU]; exact hPc, kk_mv hW hK, hDw⟩⟩ rfl rfl hl.1 rfl (lv_room (Nat.le_of_ble_eq_true rfl)) dX12_step_24 ⟨Nat.le_of_ble_eq_true rfl, Nat.le_of_ble_eq_true rfl⟩) hS (fun q _ h => hFc q h) hFc (fun r_5 u t H locs ht hvm hw hB hz1 hk1 hS => ?_)
      have hP : va_P D vwCl _ H := ro_keep hP hk1
      have f0_r_5 := hw
      have rI_1 := room_I (r := r_5) (by assumption) (by omega) (by omega) (r_f8 _ (in_lt (in_I (by omega) (by omega))))
      refine lv_istore (lv' := [(4, .int r_5), (3, .int y_4), (0, .ref mo), (1, .int a1), (2, .int 0)]) hx hb dX12_step_27 hl (by decide) rfl (fun ls hl => ?_)
      refine lv_aload_n hx hb dX12_step_29 rfl (lv_at hl 2 rfl) ?_
      refine lv_iload_n hx hb dX12_step_30 rfl (lv_at hl 3 rfl) ?_
      refine lv_iload_n hx hb dX12_step_31 rfl (lv_at hl 4 rfl) ?_
      refine lv_if_ne (tgt := 39) hx hb dX12_step_32 (by decide) (fun c_6 => ?_) (fun c_6 => ?_)
      · exact absurd c_6 (by decide)
      · have _ := c_6
        refine lv_iconst (v := 1) hx hb dX12_step_35 (by decide) ?_
        refine lv_goto (tgt := 40) hx hb dX12_step_36 (by decide) ?_
        refine ct_R hP hD0 [(mo, .inr (12, [.int s0, .int s1, .long t2, .int s3, .int s4, .ref g5, .ref g6, .ref g7, .ref g8, .ref g9, .ref g10, .int s11, .ref g12, .ref g13, .ref g14, .ref g15, .ref g16, .ref g17, .ref g18, .ref g19, .ref g20, .int s21, .ref g22, .ref g23, .ref g24, .int s25, .int s26, .int s27, .int s28, .ref g29, .ref g30, .ref g31, .ref g32, .ref g33])), (g5, .inl (cy 0, 40, .inl f5)), (g8, .inl (cy 0, 40, .inl f8))] [0, 1, 2] (by decide) rfl (fun hPc hDw => ?_)
        have hFc := va_free (wc := []) hD hS hA [] rfl
        refine va_calli (va_runV (As := [.int a1, .int 1]) (rest := []) ⟨hx, hb, hml, hown, hts⟩ (c_X12_room l D cy H.size mo g5 g6 g7 g8 g9 g10 g12 g13 g14 g15 g16 g17 g18 g19 g20 g22 g23 g24 g29 g30 g31 g32 g33 s0 s1 s3 s4 s11 s21 s25 s26 s27 s28 t2 f5 f8 a1 (1 : Int32) (by first | with_reducible assumption | assumption | omega)) (cwV 2 hts gX12_step_X12_room rfl rfl rfl (by decide +kernel) ⟨Nat.le_of_ble_eq_true rfl, Nat.le_of_ble_eq_true rfl⟩) ⟨bl_, va_recvX hK.1 hP (ci := 12) (q0 := 0) rfl rfl, fun U hU hW => ⟨rfl, by rw [hU], by rw [hU]; exact hPc, kk_mv hW hK, hDw⟩⟩ rfl rfl hl.1 rfl (lv_room (Nat.le_of_ble_eq_true rfl)) dX12_step_40 ⟨Nat.le_of_ble_eq_true rfl, Nat.le_of_ble_eq_true rfl⟩) hS (fun q _ h => hFc q h) hFc (fun r_7 u t H locs ht hvm hw hB hz1 hk1 hS => ?_)
        have hP : va_P D vwCl _ H := ro_keep hP hk1
        have f0_r_7 := hw
        have rI_2 := room_I (r := r_7) (by assumption) (by omega) (by omega) (r_f8 _ (in_lt (in_I (by omega) (by omega))))
        refine lv_istore (lv' := [(5, .int r_7), (4, .int r_5), (3, .int y_4), (0, .ref mo), (1, .int a1), (2, .int 0)]) hx hb dX12_step_43 hl (by decide) rfl (fun ls hl => ?_)
        refine lv_aload_n hx hb dX12_step_45 rfl (lv_at hl 3 rfl) ?_
        refine lv_iload_n hx hb dX12_step_46 rfl (lv_at hl 4 rfl) ?_
        refine ct_R hP hD0 [(mo, .inr (12, [.int s0, .int s1, .long t2, .int s3, .int s4, .ref g5, .ref g6, .ref g7, .ref g8, .ref g9, .ref g10, .int s11, .ref g12, .ref g13, .ref g14, .ref g15, .ref g16, .ref g17, .ref g18, .ref g19, .ref g20, .int s21, .ref g22, .ref g23, .ref g24, .int s25, .int s26, .int s27, .int s28, .ref g29, .ref g30, .ref g31, .ref g32, .ref g33])), (g5, .inl (cy 0, 40, .inl f5)), (g9, .inl (cy 0, 40, .inl f9))] [0, 1, 3] (by decide) rfl (fun hPc hDw => ?_)
        have hFc := va_free (wc := []) hD hS hA [] rfl
        refine va_calli (va_runV (As := [.int a1]) (rest := []) ⟨hx, hb, hml, hown, hts⟩ (c_X12_costs2 l D cy H.size mo g5 g6 g7 g8 g9 g10 g12 g13 g14 g15 g16 g17 g18 g19 g20 g22 g23 g24 g29 g30 g31 g32 g33 s0 s1 s3 s4 s11 s21 s25 s26 s27 s28 t2 f5 f9 a1 (by first | with_reducible assumption | assumption | omega) (by first | with_reducible assumption | assumption | omega)) (cwV 1 hts gX12_step_X12_costs rfl rfl rfl (by decide +kernel) ⟨Nat.le_of_ble_eq_true rfl, Nat.le_of_ble_eq_true rfl⟩) ⟨bl_, va_recvX hK.1 hP (ci := 12) (q0 := 0) rfl rfl, fun U hU hW => ⟨rfl, by rw [hU], by rw [hU]; exact hPc, kk_mv hW hK, hDw⟩⟩ rfl rfl hl.1 rfl (lv_room (Nat.le_of_ble_eq_true rfl)) dX12_step_47 ⟨Nat.le_of_ble_eq_true rfl, Nat.le_of_ble_eq_true rfl⟩) hS (fun q _ h => hFc q h) hFc (fun r_8 u t H locs ht hvm hw hB hz1 hk1 hS => ?_)
        have hP : va_P D vwCl _ H := ro_keep hP hk1
        have f0_r_8 := hw
        refine lv_istore (lv' := [(6, .int r_8), (5, .int r_7), (4, .int r_5), (3, .int y_4), (0, .ref mo), (1, .int a1), (2, .int 0)]) hx hb dX12_step_50 hl (by decide) rfl (fun ls hl => ?_)
        refine lv_iload_n hx hb dX12_step_52 rfl (lv_at hl 3 rfl) ?_
        refine lv_if_ge (tgt := 68) hx hb dX12_step_53 (by decide) (fun c_9 => ?_) (fun c_9 => ?_)
        · have t_9 : (0 : Int32).toInt ≤ y_4.toInt := Int32.le_iff_toInt_le.mp c_9
          refine lv_iload_n hx hb dX12_step_68 rfl (lv_at hl 3 rfl) ?_
          refine lv_iload hx hb dX12_step_69 (lv_at hl 2 rfl) ?_
          refine lv_icmp_ge (tgt := 78) hx hb dX12_step_71 (by decide) (fun c_10 => ?_) (fun c_10 => ?_)
          · have t_10 : r_5.toInt ≤ y_4.toInt := Int32.le_iff_toInt_le.mp c_10
            refine lv_iload hx hb dX12_step_78 (lv_at hl 0 rfl) ?_
            refine lv_bipush (v := (-9)) hx hb dX12_step_80 (by decide) ?_
            refine lv_icmp_ne (tgt := 91) hx hb dX12_step_82 (by decide) (fun c_11 => ?_) (fun c_11 => ?_)
            · have t_11 : ¬ r_8.toInt = ((-9) : Int32).toInt := fun h => c_11 (Int32.toInt_inj.mp h)
              refine lv_iload hx hb dX12_step_91 (lv_at hl 0 rfl) ?_
              refine lv_i2l (v := r_8.toInt64) hx hb dX12_step_93 rfl ?_
              have q_93 : (r_8.toInt64).toInt = r_8.toInt := Int32.toInt_toInt64 r_8
              rw [hQ]
              exact W.lret (v := r_8.toInt64) hx hb hr (fun t ht hW => ⟨⟨r_8.toInt64, (), rfl, (by unfold eS stI; (repeat' split) <;> omega), trivial⟩, hS.F ht⟩) hS.2.2 dX12_step_94
            · have t_11 : r_8.toInt = ((-9) : Int32).toInt := congrArg Int32.toInt c_11
              refine lv_ldc2 (v := 1000000) hx hb hown (hts (.constantLong RX12 118 (1000000)) (by decide +kernel)) dX12_step_85 ?_
              refine lv_goto (tgt := 94) hx hb dX12_step_88 (by decide) ?_
              rw [hQ]
              exact W.lret (v := 1000000) hx hb hr (fun t ht hW => ⟨⟨1000000, (), rfl, (by unfold eS stI; (repeat' split) <;> omega), trivial⟩, hS.F ht⟩) hS.2.2 dX12_step_94
          · have t_10 : ¬ r_5.toInt ≤ y_4.toInt := fun h => c_10 (Int32.le_iff_toInt_le.mpr h)
            refine lv_lconst (v := 0) hx hb dX12_step_74 (by decide) ?_
            refine lv_goto (tgt := 94) hx hb dX12_step_75 (by decide) ?_
            rw [hQ]
            exact W.lret (v := 0) hx hb hr (fun t ht hW => ⟨⟨0, (), rfl, (by unfold eS stI; (repeat' split) <;> omega), trivial⟩, hS.F ht⟩) hS.2.2 dX12_step_94
        · have t_9 : ¬ (0 : Int32).toInt ≤ y_4.toInt := fun h => c_9 (Int32.le_iff_toInt_le.mpr h)
          refine lv_iload_n hx hb dX12_step_56 rfl (lv_at hl 3 rfl) ?_
          refine lv_ineg hx hb dX12_step_57 ?_
          refine lv_topi (fun y_12 ey_12 => ?_)
          have ty_12 : y_12.toInt = - y_4.toInt := by rw [ey_12]; exact negI (by omega)
          refine lv_iload hx hb dX12_step_58 (lv_at hl 1 rfl) ?_
          refine lv_icmp_le (tgt := 68) hx hb dX12_step_60 (by decide) (fun c_13 => ?_) (fun c_13 => ?_)
          · have t_13 : y_12.toInt ≤ r_7.toInt := Int32.le_iff_toInt_le.mp c_13
            refine lv_iload_n hx hb dX12_step_68 rfl (lv_at hl 3 rfl) ?_
            refine lv_iload hx hb dX12_step_69 (lv_at hl 2 rfl) ?_
            refine lv_icmp_ge (tgt := 78) hx hb dX12_step_71 (by decide) (fun c_14 => ?_) (fun c_14 => ?_)
            · have t_14 : r_5.toInt ≤ y_4.toInt := Int32.le_iff_toInt_le.mp c_14
              refine lv_iload hx hb dX12_step_78 (lv_at hl 0 rfl) ?_
              refine lv_bipush (v := (-9)) hx hb dX12_step_80 (by decide) ?_
              refine lv_icmp_ne (tgt := 91) hx hb dX12_step_82 (by decide) (fun c_15 => ?_) (fun c_15 => ?_)
              · have t_15 : ¬ r_8.toInt = ((-9) : Int32).toInt := fun h => c_15 (Int32.toInt_inj.mp h)
                refine lv_iload hx hb dX12_step_91 (lv_at hl 0 rfl) ?_
                refine lv_i2l (v := r_8.toInt64) hx hb dX12_step_93 rfl ?_
                have q_93 : (r_8.toInt64).toInt = r_8.toInt := Int32.toInt_toInt64 r_8
                rw [hQ]
                exact W.lret (v := r_8.toInt64) hx hb hr (fun t ht hW => ⟨⟨r_8.toInt64, (), rfl, (by unfold eS stI; (repeat' split) <;> omega), trivial⟩, hS.F ht⟩) hS.2.2 dX12_step_94
              · have t_15 : r_8.toInt = ((-9) : Int32).toInt := congrArg Int32.toInt c_15
                refine lv_ldc2 (v := 1000000) hx hb hown (hts (.constantLong RX12 118 (1000000)) (by decide +kernel)) dX12_step_85 ?_
                refine lv_goto (tgt := 94) hx hb dX12_step_88 (by decide) ?_
                rw [hQ]
                exact W.lret (v := 1000000) hx hb hr (fun t ht hW => ⟨⟨1000000, (), rfl, (by unfold eS stI; (repeat' split) <;> omega), trivial⟩, hS.F ht⟩) hS.2.2 dX12_step_94
            · have t_14 : ¬ r_5.toInt ≤ y_4.toInt := fun h => c_14 (Int32.le_iff_toInt_le.mpr h)
              refine lv_lconst (v := 0) hx hb dX12_step_74 (by decide) ?_
              refine lv_goto (tgt := 94) hx hb dX12_step_75 (by decide) ?_
              rw [hQ]
              exact W.lret (v := 0) hx hb hr (fun t ht hW => ⟨⟨0, (), rfl, (by unfold eS stI; (repeat' split) <;> omega), trivial⟩, hS.F ht⟩) hS.2.2 dX12_step_94
          · have t_13 : ¬ y_12.toInt ≤ r_7.toInt := fun h => c_13 (Int32.le_iff_toInt_le.mpr h)
            refine lv_iload hx hb dX12_step_63 (lv_at hl 0 rfl) ?_
            refine lv_ineg hx hb dX12_step_65 ?_
            refine lv_topi (fun y_16 ey_16 => ?_)
            have ty_16 : y_16.toInt = - r_8.toInt := by rw [ey_16]; exact negI (by omega)
            refine lv_i2l (v := y_16.toInt64) hx hb dX12_step_66 rfl ?_
            have q_66 : (y_16.toInt64).toInt = y_16.toInt := Int32.toInt_toInt64 y_16
            rw [hQ]
            exact W.lret (v := y_16.toInt64) hx hb hr (fun t ht hW => ⟨⟨y_16.toInt64, (), rfl, (by unfold eS stI; (repeat' split) <;> omega), trivial⟩, hS.F ht⟩) hS.2.2 dX12_step_67
    · exact absurd c_1 (by decide)
  · refine lv_iload_n hx hb dX12_step_0 rfl (lv_at hl 2 rfl) ?_
    refine lv_if_eq (tgt := 13) hx hb dX12_step_1 (by decide) (fun c_17 => ?_) (fun c_17 => ?_)
    · exact absurd c_17 (by decide)
    · have _ := c_17
      refine lv_aload_n hx hb dX12_step_4 rfl (lv_at hl 0 rfl) ?_
      refine va_get (ci := 12) (v := .ref g22) (C := RX12) (T := TX12) (N := 34) hx hb hts (fun _ h => List.mem_cons_of_mem _ (List.mem_append_right _ h)) hown hK.1 hP 0 rfl rfl 22 (by decide) (hts (.fieldLink RX12 61 "CutAtlasModel" "flows" "[I") (by decide +kernel)) (fun _ h9 => h9) rfl dX12_step_5 ?_
      refine lv_iload_n hx hb dX12_step_8 rfl (lv_at hl 1 rfl) ?_
      have h_18 : vp_in a1 40 := in_I (by omega) (by omega)
      refine va_iald hx hb hK.1 hP 4 0 rfl rfl (i := a1) h_18 dX12_step_9 ?_
      refine lv_topi (fun y_19 ey_19 => ?_)
      have ky_19 : y_19.toInt = (f22 a1.toNatClampNeg).toInt := by rw [ey_19]
      refine lv_goto (tgt := 20) hx hb dX12_step_10 (by decide) ?_
      refine lv_istore_n (lv' := [(3, .int y_19), (0, .ref mo), (1, .int a1), (2, .int 1)]) hx hb dX12_step_20 rfl hl (by decide) rfl (fun ls hl => ?_)
      refine lv_aload_n hx hb dX12_step_21 rfl (lv_at hl 1 rfl) ?_
      refine lv_iload_n hx hb dX12_step_22 rfl (lv_at hl 2 rfl) ?_
      refine lv_iload_n hx hb dX12_step_23 rfl (lv_at hl 3 rfl) ?_
      refine ct_R hP hD0 [(mo, .inr (12, [.int s0, .int s1, .long t2, .int s3, .int s4, .ref g5, .ref g6, .ref g7, .ref g8, .ref g9, .ref g10, .int s11, .ref g12, .ref g13, .ref g14, .ref g15, .ref g16, .ref g17, .ref g18, .ref g19, .ref g20, .int s21, .ref g22, .ref g23, .ref g24, .int s25, .int s26, .int s27, .int s28, .ref g29, .ref g30, .ref g31, .ref g32, .ref g33])), (g5, .inl (cy 0, 40, .inl f5)), (g8, .inl (cy 0, 40, .inl f8))] [0, 1, 2] (by decide) rfl (fun hPc hDw => ?_)
      have hFc := va_free (wc := []) hD hS hA [] rfl
      refine va_calli (va_runV (As := [.int a1, .int 1]) (rest := []) ⟨hx, hb, hml, hown, hts⟩ (c_X12_room l D cy s.heap.size mo g5 g6 g7 g8 g9 g10 g12 g13 g14 g15 g16 g17 g18 g19 g20 g22 g23 g24 g29 g30 g31 g32 g33 s0 s1 s3 s4 s11 s21 s25 s26 s27 s28 t2 f5 f8 a1 (1 : Int32) (by first | with_reducible assumption | assumption | omega)) (cwV 2 hts gX12_step_X12_room rfl rfl rfl (by decide +kernel) ⟨Nat.le_of_ble_eq_true rfl, Nat.le_of_ble_eq_true rfl⟩) ⟨bl_, va_recvX hK.1 hP (ci := 12) (q0 := 0) rfl rfl, fun U hU hW => ⟨rfl, by rw [hU], by rw [hU]; exact hPc, kk_mv hW hK, hDw⟩⟩ rfl rfl hl.1 rfl (lv_room (Nat.le_of_ble_eq_true rfl)) dX12_step_24 ⟨Nat.le_of_ble_eq_true rfl, Nat.le_of_ble_eq_true rfl⟩) hS (fun q _ h => hFc q h) hFc (fun r_20 u t H locs ht hvm hw hB hz1 hk1 hS => ?_)
      have hP : va_P D vwCl _ H := ro_keep hP hk1
      have f0_r_20 := hw
      have rI_1 := room_I (r := r_20) (by assumption) (by omega) (by omega) (r_f8 _ (in_lt (in_I (by omega) (by omega))))
      refine lv_istore (lv' := [(4, .int r_20), (3, .int y_19), (0, .ref mo), (1, .int a1), (2, .int 1)]) hx hb dX12_step_27 hl (by decide) rfl (fun ls hl => ?_)
      refine lv_aload_n hx hb dX12_step_29 rfl (lv_at hl 2 rfl) ?_
      refine lv_iload_n hx hb dX12_step_30 rfl (lv_at hl 3 rfl) ?_
      refine lv_iload_n hx hb dX12_step_31 rfl (lv_at hl 4 rfl) ?_
      refine lv_if_ne (tgt := 39) hx hb dX12_step_32 (by decide) (fun c_21 => ?_) (fun c_21 => ?_)
      · have _ := c_21
        refine lv_iconst (v := 0) hx hb dX12_step_39 (by decide) ?_
        refine ct_R hP hD0 [(mo, .inr (12, [.int s0, .int s1, .long t2, .int s3, .int s4, .ref g5, .ref g6, .ref g7, .ref g8, .ref g9, .ref g10, .int s11, .ref g12, .ref g13, .ref g14, .ref g15, .ref g16, .ref g17, .ref g18, .ref g19, .ref g20, .int s21, .ref g22, .ref g23, .ref g24, .int s25, .int s26, .int s27, .int s28, .ref g29, .ref g30, .ref g31, .ref g32, .ref g33])), (g5, .inl (cy 0, 40, .inl f5)), (g8, .inl (cy 0, 40, .inl f8))] [0, 1, 2] (by decide) rfl (fun hPc hDw => ?_)
        have hFc := va_free (wc := []) hD hS hA [] rfl
        refine va_calli (va_runV (As := [.int a1, .int 0]) (rest := []) ⟨hx, hb, hml, hown, hts⟩ (c_X12_room l D cy H.size mo g5 g6 g7 g8 g9 g10 g12 g13 g14 g15 g16 g17 g18 g19 g20 g22 g23 g24 g29 g30 g31 g32 g33 s0 s1 s3 s4 s11 s21 s25 s26 s27 s28 t2 f5 f8 a1 (0 : Int32) (by first | with_reducible assumption | assumption | omega)) (cwV 2 hts gX12_step_X12_room rfl rfl rfl (by decide +kernel) ⟨Nat.le_of_ble_eq_true rfl, Nat.le_of_ble_eq_true rfl⟩) ⟨bl_, va_recvX hK.1 hP (ci := 12) (q0 := 0) rfl rfl, fun U hU hW => ⟨rfl, by rw [hU], by rw [hU]; exact hPc, kk_mv hW hK, hDw⟩⟩ rfl rfl hl.1 rfl (lv_room (Nat.le_of_ble_eq_true rfl)) dX12_step_40 ⟨Nat.le_of_ble_eq_true rfl, Nat.le_of_ble_eq_true rfl⟩) hS (fun q _ h => hFc q h) hFc (fun r_22 u t H locs ht hvm hw hB hz1 hk1 hS => ?_)
        have hP : va_P D vwCl _ H := ro_keep hP hk1
        have f0_r_22 := hw
        have rI_2 := room_I (r := r_22) (by assumption) (by omega) (by omega) (r_f8 _ (in_lt (in_I (by omega) (by omega))))
        refine lv_istore (lv' := [(5, .int r_22), (4, .int r_20), (3, .int y_19), (0, .ref mo), (1, .int a1), (2, .int 1)]) hx hb dX12_step_43 hl (by decide) rfl (fun ls hl => ?_)
        refine lv_aload_n hx hb dX12_step_45 rfl (lv_at hl 3 rfl) ?_
        refine lv_iload_n hx hb dX12_step_46 rfl (lv_at hl 4 rfl) ?_
        refine ct_R hP hD0 [(mo, .inr (12, [.int s0, .int s1, .long t2, .int s3, .int s4, .ref g5, .ref g6, .ref g7, .ref g8, .ref g9, .ref g10, .int s11, .ref g12, .ref g13, .ref g14, .ref g15, .ref g16, .ref g17, .ref g18, .ref g19, .ref g20, .int s21, .ref g22, .ref g23, .ref g24, .int s25, .int s26, .int s27, .int s28, .ref g29, .ref g30, .ref g31, .ref g32, .ref g33])), (g5, .inl (cy 0, 40, .inl f5)), (g9, .inl (cy 0, 40, .inl f9))] [0, 1, 3] (by decide) rfl (fun hPc hDw => ?_)
        have hFc := va_free (wc := []) hD hS hA [] rfl
        refine va_calli (va_runV (As := [.int a1]) (rest := []) ⟨hx, hb, hml, hown, hts⟩ (c_X12_costs2 l D cy H.size mo g5 g6 g7 g8 g9 g10 g12 g13 g14 g15 g16 g17 g18 g19 g20 g22 g23 g24 g29 g30 g31 g32 g33 s0 s1 s3 s4 s11 s21 s25 s26 s27 s28 t2 f5 f9 a1 (by first | with_reducible assumption | assumption | omega) (by first | with_reducible assumption | assumption | omega)) (cwV 1 hts gX12_step_X12_costs rfl rfl rfl (by decide +kernel) ⟨Nat.le_of_ble_eq_true rfl, Nat.le_of_ble_eq_true rfl⟩) ⟨bl_, va_recvX hK.1 hP (ci := 12) (q0 := 0) rfl rfl, fun U hU hW => ⟨rfl, by rw [hU], by rw [hU]; exact hPc, kk_mv hW hK, hDw⟩⟩ rfl rfl hl.1 rfl (lv_room (Nat.le_of_ble_eq_true rfl)) dX12_step_47 ⟨Nat.le_of_ble_eq_true rfl, Nat.le_of_ble_eq_true rfl⟩) hS (fun q _ h => hFc q h) hFc (fun r_23 u t H locs ht hvm hw hB hz1 hk1 hS => ?_)
        have hP : va_P D vwCl _ H := ro_keep hP hk1
        have f0_r_23 := hw
        refine lv_istore (lv' := [(6, .int r_23), (5, .int r_22), (4, .int r_20), (3, .int y_19), (0, .ref mo), (1, .int a1), (2, .int 1)]) hx hb dX12_step_50 hl (by decide) rfl (fun ls hl => ?_)
        refine lv_iload_n hx hb dX12_step_52 rfl (lv_at hl 3 rfl) ?_
        refine lv_if_ge (tgt := 68) hx hb dX12_step_53 (by decide) (fun c_24 => ?_) (fun c_24 => ?_)
        · have t_24 : (0 : Int32).toInt ≤ y_19.toInt := Int32.le_iff_toInt_le.mp c_24
          refine lv_iload_n hx hb dX12_step_68 rfl (lv_at hl 3 rfl) ?_
          refine lv_iload hx hb dX12_step_69 (lv_at hl 2 rfl) ?_
          refine lv_icmp_ge (tgt := 78) hx hb dX12_step_71 (by decide) (fun c_25 => ?_) (fun c_25 => ?_)
          · have t_25 : r_20.toInt ≤ y_19.toInt := Int32.le_iff_toInt_le.mp c_25
            refine lv_iload hx hb dX12_step_78 (lv_at hl 0 rfl) ?_
            refine lv_bipush (v := (-9)) hx hb dX12_step_80 (by decide) ?_
            refine lv_icmp_ne (tgt := 91) hx hb dX12_step_82 (by decide) (fun c_26 => ?_) (fun c_26 => ?_)
            · have t_26 : ¬ r_23.toInt = ((-9) : Int32).toInt := fun h => c_26 (Int32.toInt_inj.mp h)
              refine lv_iload hx hb dX12_step_91 (lv_at hl 0 rfl) ?_
              refine lv_i2l (v := r_23.toInt64) hx hb dX12_step_93 rfl ?_
              have q_93 : (r_23.toInt64).toInt = r_23.toInt := Int32.toInt_toInt64 r_23
              rw [hQ]
              exact W.lret (v := r_23.toInt64) hx hb hr (fun t ht hW => ⟨⟨r_23.toInt64, (), rfl, (by unfold eS stI; (repeat' split) <;> omega), trivial⟩, hS.F ht⟩) hS.2.2 dX12_step_94
            · have t_26 : r_23.toInt = ((-9) : Int32).toInt := congrArg Int32.toInt c_26
              refine lv_ldc2 (v := 1000000) hx hb hown (hts (.constantLong RX12 118 (1000000)) (by decide +kernel)) dX12_step_85 ?_
              refine lv_goto (tgt := 94) hx hb dX12_step_88 (by decide) ?_
              rw [hQ]
              exact W.lret (v := 1000000) hx hb hr (fun t ht hW => ⟨⟨1000000, (), rfl, (by unfold eS stI; (repeat' split) <;> omega), trivial⟩, hS.F ht⟩) hS.2.2 dX12_step_94
          · have t_25 : ¬ r_20.toInt ≤ y_19.toInt := fun h => c_25 (Int32.le_iff_toInt_le.mpr h)
            refine lv_lconst (v := 0) hx hb dX12_step_74 (by decide) ?_
            refine lv_goto (tgt := 94) hx hb dX12_step_75 (by decide) ?_
            rw [hQ]
            exact W.lret (v := 0) hx hb hr (fun t ht hW => ⟨⟨0, (), rfl, (by unfold eS stI; (repeat' split) <;> omega), trivial⟩, hS.F ht⟩) hS.2.2 dX12_step_94
        · have t_24 : ¬ (0 : Int32).toInt ≤ y_19.toInt := fun h => c_24 (Int32.le_iff_toInt_le.mpr h)
          refine lv_iload_n hx hb dX12_step_56 rfl (lv_at hl 3 rfl) ?_
          refine lv_ineg hx hb dX12_step_57 ?_
          refine lv_topi (fun y_27 ey_27 => ?_)
          have ty_27 : y_27.toInt = - y_19.toInt := by rw [ey_27]; exact negI (by omega)
          refine lv_iload hx hb dX12_step_58 (lv_at hl 1 rfl) ?_
          refine lv_icmp_le (tgt := 68) hx hb dX12_step_60 (by decide) (fun c_28 => ?_) (fun c_28 => ?_)
          · have t_28 : y_27.toInt ≤ r_22.toInt := Int32.le_iff_toInt_le.mp c_28
            refine lv_iload_n hx hb dX12_step_68 rfl (lv_at hl 3 rfl) ?_
            refine lv_iload hx hb dX12_step_69 (lv_at hl 2 rfl) ?_
            refine lv_icmp_ge (tgt := 78) hx hb dX12_step_71 (by decide) (fun c_29 => ?_) (fun c_29 => ?_)
            · have t_29 : r_20.toInt ≤ y_19.toInt := Int32.le_iff_toInt_le.mp c_29
              refine lv_iload hx hb dX12_step_78 (lv_at hl 0 rfl) ?_
              refine lv_bipush (v := (-9)) hx hb dX12_step_80 (by decide) ?_
              refine lv_icmp_ne (tgt := 91) hx hb dX12_step_82 (by decide) (fun c_30 => ?_) (fun c_30 => ?_)
              · have t_30 : ¬ r_23.toInt = ((-9) : Int32).toInt := fun h => c_30 (Int32.toInt_inj.mp h)
                refine lv_iload hx hb dX12_step_91 (lv_at hl 0 rfl) ?_
                refine lv_i2l (v := r_23.toInt64) hx hb dX12_step_93 rfl ?_
                have q_93 : (r_23.toInt64).toInt = r_23.toInt := Int32.toInt_toInt64 r_23
                rw [hQ]
                exact W.lret (v := r_23.toInt64) hx hb hr (fun t ht hW => ⟨⟨r_23.toInt64, (), rfl, (by unfold eS stI; (repeat' split) <;> omega), trivial⟩, hS.F ht⟩) hS.2.2 dX12_step_94
              · have t_30 : r_23.toInt = ((-9) : Int32).toInt := congrArg Int32.toInt c_30
                refine lv_ldc2 (v := 1000000) hx hb hown (hts (.constantLong RX12 118 (1000000)) (by decide +kernel)) dX12_step_85 ?_
                refine lv_goto (tgt := 94) hx hb dX12_step_88 (by decide) ?_
                rw [hQ]
                exact W.lret (v := 1000000) hx hb hr (fun t ht hW => ⟨⟨1000000, (), rfl, (by unfold eS stI; (repeat' split) <;> omega), trivial⟩, hS.F ht⟩) hS.2.2 dX12_step_94
            · have t_29 : ¬ r_20.toInt ≤ y_19.toInt := fun h => c_29 (Int32.le_iff_toInt_le.mpr h)
              refine lv_lconst (v := 0) hx hb dX12_step_74 (by decide) ?_
              refine lv_goto (tgt := 94) hx hb dX12_step_75 (by decide) ?_
              rw [hQ]
              exact W.lret (v := 0) hx hb hr (fun t ht hW => ⟨⟨0, (), rfl, (by unfold eS stI; (repeat' split) <;> omega), trivial⟩, hS.F ht⟩) hS.2.2 dX12_step_94
          · have t_28 : ¬ y_27.toInt ≤ r_22.toInt := fun h => c_28 (Int32.le_iff_toInt_le.mpr h)
            refine lv_iload hx hb dX12_step_63 (lv_at hl 0 rfl) ?_
            refine lv_ineg hx hb dX12_step_65 ?_
            refine lv_topi (fun y_31 ey_31 => ?_)
            have ty_31 : y_31.toInt = - r_23.toInt := by rw [ey_31]; exact negI (by omega)
            refine lv_i2l (v := y_31.toInt64) hx hb dX12_step_66 rfl ?_
            have q_66 : (y_31.toInt64).toInt = y_31.toInt := Int32.toInt_toInt64 y_31
            rw [hQ]
            exact W.lret (v := y_31.toInt64) hx hb hr (fun t ht hW => ⟨⟨y_31.toInt64, (), rfl, (by unfold eS stI; (repeat' split) <;> omega), trivial⟩, hS.F ht⟩) hS.2.2 dX12_step_67
      · exact absurd c_21 (by decide)

set_option maxHeartbeats 4000000 in
set_option maxRecDepth 100000 in
theorem c_X12_amount2 (l : Launch) (D : va_G) (cy : Nat → ClassId) (sz : Nat) (mo : Nat) (g5 : Nat) (g6 : Nat) (g7 : Nat) (g8 : Nat) (g9 : Nat) (g10 : Nat) (g12 : Nat) (g13 : Nat) (g14 : Nat) (g15 : Nat) (g16 : Nat) (g17 : Nat) (g18 : Nat) (g19 : Nat) (g20 : Nat) (g22 : Nat) (g23 : Nat) (g24 : Nat) (g29 : Nat) (g30 : Nat) (g31 : Nat) (g32 : Nat) (g33 : Nat) (s0 : Int32) (s1 : Int32) (s3 : Int32) (s4 : Int32) (s11 : Int32) (s21 : Int32) (s25 : Int32) (s26 : Int32) (s27 : Int32) (s28 : Int32) (t2 : Int64) (f5 : Nat → Int32) (f8 : Nat → Int32) (f22 : Nat → Int32) (a1 : Int32) (a2 : Int32) (q1 : 0 ≤ a1.toInt ∧ a1.toInt < 40) (h21 : s21.toInt = -9) (q2 : a2.toInt = 0 ∨ a2.toInt = 1) (hf : -1000 ≤ (f22 a1.toNatClampNeg).toInt ∧ (f22 a1.toNatClampNeg).toInt ≤ 1000) (r_f8 : rng f8 40 (0) (2000)) : Met l yX12_amount wsX12_amount ({ frames := 2, cells := 0, slots := 0, locals := 46 }) (va_Pc [.ref mo, .int a1, .int a2] (fun U => U.heap.size = sz ∧ va_P D vwCl [(mo, .inr (12, [.int s0, .int s1, .long t2, .int s3, .int s4, .ref g5, .ref g6, .ref g7, .ref g8, .ref g9, .ref g10, .int s11, .ref g12, .ref g13, .ref g14, .ref g15, .ref g16, .ref g17, .ref g18, .ref g19, .ref g20, .int s21, .ref g22, .ref g23, .ref g24, .int s25, .int s26, .int s27, .int s28, .ref g29, .ref g30, .ref g31, .ref g32, .ref g33])), (g5, .inl (cy 0, 40, .inl f5)), (g8, .inl (cy 0, 40, .inl f8)), (g22, .inl (cy 0, 40, .inl f22))] U.heap ∧ kk_ D cy U ∧ va_D (fun _ => True) [(mo, .inr (12, [.int s0, .int s1, .long t2, .int s3, .int s4, .ref g5, .ref g6, .ref g7, .ref g8, .ref g9, .ref g10, .int s11, .ref g12, .ref g13, .ref g14, .ref g15, .ref g16, .ref g17, .ref g18, .ref g19, .ref g20, .int s21, .ref g22, .ref g23, .ref g24, .int s25, .int s26, .int s27, .int s28, .ref g29, .ref g30, .ref g31, .ref g32, .ref g33])), (g5, .inl (cy 0, 40, .inl f5)), (g8, .inl (cy 0, 40, .inl f8)), (g22, .inl (cy 0, 40, .inl f22))])) (va_Qi (fun (r : Int32) (_ : Unit) => (r.toInt = eA f5 f8 f22 a1.toNatClampNeg a2.toInt) ∧ (1 ≤ r.toInt)) (fun (_ : Unit) (_ : State) => True) (va_A [] sz)) 0 0 (va_A [] sz) := by
  refine ofQ (cc := cX12_amount) (maxL := 6) (ret := (some .int)) (by decide) rfl ?_
  intro p e s m args below meth c s₁ Q hQ B hml hv
  obtain ⟨rfl, hsz, hP, hK, hD0⟩ := hv
  have hx := B.exec
  have hb := B.bytes
  have hr := B.returns
  have hts := atoms_spec (ws := wsX12_amount) B.pre
  have hown : s.vm.findClass RX12 = some m.cls := by have h_ := findClass_of_methodNamed B.named; exact h_
  have hlocks := B.notSynchronized
  subst hsz
  have hD : va_D (va_A [] s.heap.size) [] := dd_nil
  generalize hAe : va_A [] s.heap.size = A at hD hQ
  have hA : ∀ q : Nat, s.heap.size ≤ q → A q := fun q h => by rw [← hAe]; exact Or.inr h
  have hS : va_S A s.heap s.heap [] := va_S.rf
  have hl := lv_entry ([.ref mo, .int a1, .int a2]) (n := 6) (Nat.le_of_ble_eq_true rfl)
  rw [lg_entry_eq]
  generalize (lg_sl ([.ref mo, .int a1, .int a2]) ++ List.replicate (6 - (lg_sl ([.ref mo, .int a1, .int a2])).length) Slot.unset).toArray = ls at hl ⊢
  have hl : lv_has ls 6 [(0, .ref mo), (1, .int a1), (2, .int a2)] := hl
  have z0 : (0 : Int32).toInt = 0 := by decide
  have z1 : (1 : Int32).toInt = 1 := by decide
  have z1000000 : (1000000 : Int32).toInt = 1000000 := by decide
  have hv : vp_in a1 40 := in_I (by omega) (by omega)
  have fw := r_f8 _ (in_lt hv)
  have w1 := rmI_rng (k := f5 a1.toNatClampNeg) (b := 1) fw.1 fw.2
  have w0 := rmI_rng (k := f5 a1.toNatClampNeg) (b := 0) fw.1 fw.2
  rcases b01 q2 with rfl | rfl
  · refine lv_iload_n hx hb dX12_amount_0 rfl (lv_at hl 2 rfl) ?_
    refine lv_if_eq (tgt := 13) hx hb dX12_amount_1 (by decide) (fun c_1 => ?_) (fun c_1 => ?_)
    · have _ := c_1
      refine lv_aload_n hx hb dX12_amount_13 rfl (lv_at hl 0 rfl) ?_
      refine va_get (ci := 12) (v := .ref g22) (C := RX12) (T := TX12) (N := 34) hx hb hts (fun _ h => List.mem_cons_of_mem _ (List.mem_append_right _ h)) hown hK.1 hP 0 rfl rfl 22 (by decide) (hts (.fieldLink RX12 61 "CutAtlasModel" "flows" "[I") (by decide +kernel)) (fun _ h9 => h9) rfl dX12_amount_14 ?_
      refine lv_iload_n hx hb dX12_amount_17 rfl (lv_at hl 1 rfl) ?_
      have h_2 : vp_in a1 40 := in_I (by omega) (by omega)
      refine va_iald hx hb hK.1 hP 3 0 rfl rfl (i := a1) h_2 dX12_amount_18 ?_
      refine lv_topi (fun y_3 ey_3 => ?_)
      have ky_3 : y_3.toInt = (f22 a1.toNatClampNeg).toInt := by rw [ey_3]
      refine lv_ineg hx hb dX12_amount_19 ?_
      refine lv_topi (fun y_4 ey_4 => ?_)
      have ty_4 : y_4.toInt = - y_3.toInt := by rw [ey_4]; exact negI (by omega)
      refine lv_istore_n (lv' := [(3, .int y_4), (0, .ref mo), (1, .int a1), (2, .int 0)]) hx hb dX12_amount_20 rfl hl (by decide) rfl (fun ls hl => ?_)
      refine lv_aload_n hx hb dX12_amount_21 rfl (lv_at hl 1 rfl) ?_
      refine lv_iload_n hx hb dX12_amount_22 rfl (lv_at hl 2 rfl) ?_
      refine lv_iload_n hx hb dX12_amount_23 rfl (lv_at hl 3 rfl) ?_
      refine ct_R hP hD0 [(mo, .inr (12, [.int s0, .int s1, .long t2, .int s3, .int s4, .ref g5, .ref g6, .ref g7, .ref g8, .ref g9, .ref g10, .int s11, .ref g12, .ref g13, .ref g14, .ref g15, .ref g16, .ref g17, .ref g18, .ref g19, .ref g20, .int s21, .ref g22, .ref g23, .ref g24, .int s25, .int s26, .int s27, .int s28, .ref g29, .ref g30, .ref g31, .ref g32, .ref g33])), (g5, .inl (cy 0, 40, .inl f5)), (g8, .inl (cy 0, 40, .inl f8))] [0, 1, 2] (by decide) rfl (fun hPc hDw => ?_)
      have hFc := va_free (wc := []) hD hS hA [] rfl
      refine va_calli (va_runV (As := [.int a1, .int 0]) (rest := []) ⟨hx, hb, hml, hown, hts⟩ (c_X12_room l D cy s.heap.size mo g5 g6 g7 g8 g9 g10 g12 g13 g14 g15 g16 g17 g18 g19 g20 g22 g23 g24 g29 g30 g31 g32 g33 s0 s1 s3 s4 s11 s21 s25 s26 s27 s28 t2 f5 f8 a1 (0 : Int32) (by first | with_reducible assumption | assumption | omega)) (cwV 2 hts gX12_amount_X12_room rfl rfl rfl (by decide +kernel) ⟨Nat.le_of_ble_eq_true rfl, Nat.le_of_ble_eq_true rfl⟩) ⟨bl_, va_recvX hK.1 hP (ci := 12) (q0 := 0) rfl rfl, fun U hU hW => ⟨rfl, by rw [hU], by rw [hU]; exact hPc, kk_mv hW hK, hDw⟩⟩ rfl rfl hl.1 rfl (lv_room (Nat.le_of_ble_eq_true rfl)) dX12_amount_24 ⟨Nat.le_of_ble_eq_true rfl, Nat.le_of_ble_eq_true rfl⟩) hS (fun q _ h => hFc q h) hFc (fun r_5 u t H locs ht hvm hw hB hz1 hk1 hS => ?_)
      have hP : va_P D vwCl _ H := ro_keep hP hk1
      have f0_r_5 := hw
      have rI_1 := room_I (r := r_5) (by assumption) (by omega) (by omega) (r_f8 _ (in_lt (in_I (by omega) (by omega))))
      refine lv_istore (lv' := [(4, .int r_5), (3, .int y_4), (0, .ref mo), (1, .int a1), (2, .int 0)]) hx hb dX12_amount_27 hl (by decide) rfl (fun ls hl => ?_)
      refine lv_aload_n hx hb dX12_amount_29 rfl (lv_at hl 2 rfl) ?_
      refine lv_iload_n hx hb dX12_amount_30 rfl (lv_at hl 3 rfl) ?_
      refine lv_iload_n hx hb dX12_amount_31 rfl (lv_at hl 4 rfl) ?_
      refine lv_if_ne (tgt := 39) hx hb dX12_amount_32 (by decide) (fun c_6 => ?_) (fun c_6 => ?_)
      · exact absurd c_6 (by decide)
      · have _ := c_6
        refine lv_iconst (v := 1) hx hb dX12_amount_35 (by decide) ?_
        refine lv_goto (tgt := 40) hx hb dX12_amount_36 (by decide) ?_
        refine ct_R hP hD0 [(mo, .inr (12, [.int s0, .int s1, .long t2, .int s3, .int s4, .ref g5, .ref g6, .ref g7, .ref g8, .ref g9, .ref g10, .int s11, .ref g12, .ref g13, .ref g14, .ref g15, .ref g16, .ref g17, .ref g18, .ref g19, .ref g20, .int s21, .ref g22, .ref g23, .ref g24, .int s25, .int s26, .int s27, .int s28, .ref g29, .ref g30, .ref g31, .ref g32, .ref g33])), (g5, .inl (cy 0, 40, .inl f5)), (g8, .inl (cy 0, 40, .inl f8))] [0, 1, 2] (by decide) rfl (fun hPc hDw => ?_)
        have hFc := va_free (wc := []) hD hS hA [] rfl
        refine va_calli (va_runV (As := [.int a1, .int 1]) (rest := []) ⟨hx, hb, hml, hown, hts⟩ (c_X12_room l D cy H.size mo g5 g6 g7 g8 g9 g10 g12 g13 g14 g15 g16 g17 g18 g19 g20 g22 g23 g24 g29 g30 g31 g32 g33 s0 s1 s3 s4 s11 s21 s25 s26 s27 s28 t2 f5 f8 a1 (1 : Int32) (by first | with_reducible assumption | assumption | omega)) (cwV 2 hts gX12_amount_X12_room rfl rfl rfl (by decide +kernel) ⟨Nat.le_of_ble_eq_true rfl, Nat.le_of_ble_eq_true rfl⟩) ⟨bl_, va_recvX hK.1 hP (ci := 12) (q0 := 0) rfl rfl, fun U hU hW => ⟨rfl, by rw [hU], by rw [hU]; exact hPc, kk_mv hW hK, hDw⟩⟩ rfl rfl hl.1 rfl (lv_room (Nat.le_of_ble_eq_true rfl)) dX12_amount_40 ⟨Nat.le_of_ble_eq_true rfl, Nat.le_of_ble_eq_true rfl⟩) hS (fun q _ h => hFc q h) hFc (fun r_7 u t H locs ht hvm hw hB hz1 hk1 hS => ?_)
        have hP : va_P D vwCl _ H := ro_keep hP hk1
        have f0_r_7 := hw
        have rI_2 := room_I (r := r_7) (by assumption) (by omega) (by omega) (r_f8 _ (in_lt (in_I (by omega) (by omega))))
        refine lv_istore (lv' := [(5, .int r_7), (4, .int r_5), (3, .int y_4), (0, .ref mo), (1, .int a1), (2, .int 0)]) hx hb dX12_amount_43 hl (by decide) rfl (fun ls hl => ?_)
        refine lv_iload_n hx hb dX12_amount_45 rfl (lv_at hl 2 rfl) ?_
        refine lv_if_ge (tgt := 64) hx hb dX12_amount_46 (by decide) (fun c_8 => ?_) (fun c_8 => ?_)
        · have t_8 : (0 : Int32).toInt ≤ y_4.toInt := Int32.le_iff_toInt_le.mp c_8
          refine lv_iload_n hx hb dX12_amount_64 rfl (lv_at hl 2 rfl) ?_
          refine lv_iload hx hb dX12_amount_65 (lv_at hl 1 rfl) ?_
          refine lv_icmp_ge (tgt := 77) hx hb dX12_amount_67 (by decide) (fun c_9 => ?_) (fun c_9 => ?_)
          · have t_9 : r_5.toInt ≤ y_4.toInt := Int32.le_iff_toInt_le.mp c_9
            refine lv_ldc (v := 1000000) hx hb hown (hts (.constant RX12 159 (1000000)) (by decide +kernel)) dX12_amount_77 ?_
            rw [hQ]
            exact W.iret (v := 1000000) hx hb hr (fun t ht hW => ⟨⟨1000000, (), rfl, ⟨by unfold eA amI; (repeat' split) <;> omega, by omega⟩, trivial⟩, hS.F ht⟩) hS.2.2 dX12_amount_79
          · have t_9 : ¬ r_5.toInt ≤ y_4.toInt := fun h => c_9 (Int32.le_iff_toInt_le.mpr h)
            refine lv_iload hx hb dX12_amount_70 (lv_at hl 1 rfl) ?_
            refine lv_iload_n hx hb dX12_amount_72 rfl (lv_at hl 2 rfl) ?_
            refine lv_isub hx hb dX12_amount_73 ?_
            refine lv_topi (fun y_10 ey_10 => ?_)
            have ty_10 : y_10.toInt = r_5.toInt - y_4.toInt := by rw [ey_10]; exact subI (by omega) (by omega)
            refine lv_goto (tgt := 79) hx hb dX12_amount_74 (by decide) ?_
            rw [hQ]
            exact W.iret (v := y_10) hx hb hr (fun t ht hW => ⟨⟨y_10, (), rfl, ⟨by unfold eA amI; (repeat' split) <;> omega, by omega⟩, trivial⟩, hS.F ht⟩) hS.2.2 dX12_amount_79
        · have t_8 : ¬ (0 : Int32).toInt ≤ y_4.toInt := fun h => c_8 (Int32.le_iff_toInt_le.mpr h)
          refine lv_iload_n hx hb dX12_amount_49 rfl (lv_at hl 2 rfl) ?_
          refine lv_ineg hx hb dX12_amount_50 ?_
          refine lv_topi (fun y_11 ey_11 => ?_)
          have ty_11 : y_11.toInt = - y_4.toInt := by rw [ey_11]; exact negI (by omega)
          refine lv_iload hx hb dX12_amount_51 (lv_at hl 0 rfl) ?_
          refine lv_icmp_le (tgt := 64) hx hb dX12_amount_53 (by decide) (fun c_12 => ?_) (fun c_12 => ?_)
          · have t_12 : y_11.toInt ≤ r_7.toInt := Int32.le_iff_toInt_le.mp c_12
            refine lv_iload_n hx hb dX12_amount_64 rfl (lv_at hl 2 rfl) ?_
            refine lv_iload hx hb dX12_amount_65 (lv_at hl 1 rfl) ?_
            refine lv_icmp_ge (tgt := 77) hx hb dX12_amount_67 (by decide) (fun c_13 => ?_) (fun c_13 => ?_)
            · have t_13 : r_5.toInt ≤ y_4.toInt := Int32.le_iff_toInt_le.mp c_13
              refine lv_ldc (v := 1000000) hx hb hown (hts (.constant RX12 159 (1000000)) (by decide +kernel)) dX12_amount_77 ?_
              rw [hQ]
              exact W.iret (v := 1000000) hx hb hr (fun t ht hW => ⟨⟨1000000, (), rfl, ⟨by unfold eA amI; (repeat' split) <;> omega, by omega⟩, trivial⟩, hS.F ht⟩) hS.2.2 dX12_amount_79
            · have t_13 : ¬ r_5.toInt ≤ y_4.toInt := fun h => c_13 (Int32.le_iff_toInt_le.mpr h)
              refine lv_iload hx hb dX12_amount_70 (lv_at hl 1 rfl) ?_
              refine lv_iload_n hx hb dX12_amount_72 rfl (lv_at hl 2 rfl) ?_
              refine lv_isub hx hb dX12_amount_73 ?_
              refine lv_topi (fun y_14 ey_14 => ?_)
              have ty_14 : y_14.toInt = r_5.toInt - y_4.toInt := by rw [ey_14]; exact subI (by omega) (by omega)
              refine lv_goto (tgt := 79) hx hb dX12_amount_74 (by decide) ?_
              rw [hQ]
              exact W.iret (v := y_14) hx hb hr (fun t ht hW => ⟨⟨y_14, (), rfl, ⟨by unfold eA amI; (repeat' split) <;> omega, by omega⟩, trivial⟩, hS.F ht⟩) hS.2.2 dX12_amount_79
          · have t_12 : ¬ y_11.toInt ≤ r_7.toInt := fun h => c_12 (Int32.le_iff_toInt_le.mpr h)
            refine lv_iload_n hx hb dX12_amount_56 rfl (lv_at hl 2 rfl) ?_
            refine lv_ineg hx hb dX12_amount_57 ?_
            refine lv_topi (fun y_15 ey_15 => ?_)
            have ty_15 : y_15.toInt = - y_4.toInt := by rw [ey_15]; exact negI (by omega)
            refine lv_iload hx hb dX12_amount_58 (lv_at hl 0 rfl) ?_
            refine lv_isub hx hb dX12_amount_60 ?_
            refine lv_topi (fun y_16 ey_16 => ?_)
            have ty_16 : y_16.toInt = y_15.toInt - r_7.toInt := by rw [ey_16]; exact subI (by omega) (by omega)
            refine lv_goto (tgt := 79) hx hb dX12_amount_61 (by decide) ?_
            rw [hQ]
            exact W.iret (v := y_16) hx hb hr (fun t ht hW => ⟨⟨y_16, (), rfl, ⟨by unfold eA amI; (repeat' split) <;> omega, by omega⟩, trivial⟩, hS.F ht⟩) hS.2.2 dX12_amount_79
    · exact absurd c_1 (by decide)
  · refine lv_iload_n hx hb dX12_amount_0 rfl (lv_at hl 2 rfl) ?_
    refine lv_if_eq (tgt := 13) hx hb dX12_amount_1 (by decide) (fun c_17 => ?_) (fun c_17 => ?_)
    · exact absurd c_17 (by decide)
    · have _ := c_17
      refine lv_aload_n hx hb dX12_amount_4 rfl (lv_at hl 0 rfl) ?_
      refine va_get (ci := 12) (v := .ref g22) (C := RX12) (T := TX12) (N := 34) hx hb hts (fun _ h => List.mem_cons_of_mem _ (List.mem_append_right _ h)) hown hK.1 hP 0 rfl rfl 22 (by decide) (hts (.fieldLink RX12 61 "CutAtlasModel" "flows" "[I") (by decide +kernel)) (fun _ h9 => h9) rfl dX12_amount_5 ?_
      refine lv_iload_n hx hb dX12_amount_8 rfl (lv_at hl 1 rfl) ?_
      have h_18 : vp_in a1 40 := in_I (by omega) (by omega)
      refine va_iald hx hb hK.1 hP 3 0 rfl rfl (i := a1) h_18 dX12_amount_9 ?_
      refine lv_topi (fun y_19 ey_19 => ?_)
      have ky_19 : y_19.toInt = (f22 a1.toNatClampNeg).toInt := by rw [ey_19]
      refine lv_goto (tgt := 20) hx hb dX12_amount_10 (by decide) ?_
      refine lv_istore_n (lv' := [(3, .int y_19), (0, .ref mo), (1, .int a1), (2, .int 1)]) hx hb dX12_amount_20 rfl hl (by decide) rfl (fun ls hl => ?_)
      refine lv_aload_n hx hb dX12_amount_21 rfl (lv_at hl 1 rfl) ?_
      refine lv_iload_n hx hb dX12_amount_22 rfl (lv_at hl 2 rfl) ?_
      refine lv_iload_n hx hb dX12_amount_23 rfl (lv_at hl 3 rfl) ?_
      refine ct_R hP hD0 [(mo, .inr (12, [.int s0, .int s1, .long t2, .int s3, .int s4, .ref g5, .ref g6, .ref g7, .ref g8, .ref g9, .ref g10, .int s11, .ref g12, .ref g13, .ref g14, .ref g15, .ref g16, .ref g17, .ref g18, .ref g19, .ref g20, .int s21, .ref g22, .ref g23, .ref g24, .int s25, .int s26, .int s27, .int s28, .ref g29, .ref g30, .ref g31, .ref g32, .ref g33])), (g5, .inl (cy 0, 40, .inl f5)), (g8, .inl (cy 0, 40, .inl f8))] [0, 1, 2] (by decide) rfl (fun hPc hDw => ?_)
      have hFc := va_free (wc := []) hD hS hA [] rfl
      refine va_calli (va_runV (As := [.int a1, .int 1]) (rest := []) ⟨hx, hb, hml, hown, hts⟩ (c_X12_room l D cy s.heap.size mo g5 g6 g7 g8 g9 g10 g12 g13 g14 g15 g16 g17 g18 g19 g20 g22 g23 g24 g29 g30 g31 g32 g33 s0 s1 s3 s4 s11 s21 s25 s26 s27 s28 t2 f5 f8 a1 (1 : Int32) (by first | with_reducible assumption | assumption | omega)) (cwV 2 hts gX12_amount_X12_room rfl rfl rfl (by decide +kernel) ⟨Nat.le_of_ble_eq_true rfl, Nat.le_of_ble_eq_true rfl⟩) ⟨bl_, va_recvX hK.1 hP (ci := 12) (q0 := 0) rfl rfl, fun U hU hW => ⟨rfl, by rw [hU], by rw [hU]; exact hPc, kk_mv hW hK, hDw⟩⟩ rfl rfl hl.1 rfl (lv_room (Nat.le_of_ble_eq_true rfl)) dX12_amount_24 ⟨Nat.le_of_ble_eq_true rfl, Nat.le_of_ble_eq_true rfl⟩) hS (fun q _ h => hFc q h) hFc (fun r_20 u t H locs ht hvm hw hB hz1 hk1 hS => ?_)
      have hP : va_P D vwCl _ H := ro_keep hP hk1
      have f0_r_20 := hw
      have rI_1 := room_I (r := r_20) (by assumption) (by omega) (by omega) (r_f8 _ (in_lt (in_I (by omega) (by omega))))
      refine lv_istore (lv' := [(4, .int r_20), (3, .int y_19), (0, .ref mo), (1, .int a1), (2, .int 1)]) hx hb dX12_amount_27 hl (by decide) rfl (fun ls hl => ?_)
      refine lv_aload_n hx hb dX12_amount_29 rfl (lv_at hl 2 rfl) ?_
      refine lv_iload_n hx hb dX12_amount_30 rfl (lv_at hl 3 rfl) ?_
      refine lv_iload_n hx hb dX12_amount_31 rfl (lv_at hl 4 rfl) ?_
      refine lv_if_ne (tgt := 39) hx hb dX12_amount_32 (by decide) (fun c_21 => ?_) (fun c_21 => ?_)
      · have _ := c_21
        refine lv_iconst (v := 0) hx hb dX12_amount_39 (by decide) ?_
        refine ct_R hP hD0 [(mo, .inr (12, [.int s0, .int s1, .long t2, .int s3, .int s4, .ref g5, .ref g6, .ref g7, .ref g8, .ref g9, .ref g10, .int s11, .ref g12, .ref g13, .ref g14, .ref g15, .ref g16, .ref g17, .ref g18, .ref g19, .ref g20, .int s21, .ref g22, .ref g23, .ref g24, .int s25, .int s26, .int s27, .int s28, .ref g29, .ref g30, .ref g31, .ref g32, .ref g33])), (g5, .inl (cy 0, 40, .inl f5)), (g8, .inl (cy 0, 40, .inl f8))] [0, 1, 2] (by decide) rfl (fun hPc hDw => ?_)
        have hFc := va_free (wc := []) hD hS hA [] rfl
        refine va_calli (va_runV (As := [.int a1, .int 0]) (rest := []) ⟨hx, hb, hml, hown, hts⟩ (c_X12_room l D cy H.size mo g5 g6 g7 g8 g9 g10 g12 g13 g14 g15 g16 g17 g18 g19 g20 g22 g23 g24 g29 g30 g31 g32 g33 s0 s1 s3 s4 s11 s21 s25 s26 s27 s28 t2 f5 f8 a1 (0 : Int32) (by first | with_reducible assumption | assumption | omega)) (cwV 2 hts gX12_amount_X12_room rfl rfl rfl (by decide +kernel) ⟨Nat.le_of_ble_eq_true rfl, Nat.le_of_ble_eq_true rfl⟩) ⟨bl_, va_recvX hK.1 hP (ci := 12) (q0 := 0) rfl rfl, fun U hU hW => ⟨rfl, by rw [hU], by rw [hU]; exact hPc, kk_mv hW hK, hDw⟩⟩ rfl rfl hl.1 rfl (lv_room (Nat.le_of_ble_eq_true rfl)) dX12_amount_40 ⟨Nat.le_of_ble_eq_true rfl, Nat.le_of_ble_eq_true rfl⟩) hS (fun q _ h => hFc q h) hFc (fun r_22 u t H locs ht hvm hw hB hz1 hk1 hS => ?_)
        have hP : va_P D vwCl _ H := ro_keep hP hk1
        have f0_r_22 := hw
        have rI_2 := room_I (r := r_22) (by assumption) (by omega) (by omega) (r_f8 _ (in_lt (in_I (by omega) (by omega))))
        refine lv_istore (lv' := [(5, .int r_22), (4, .int r_20), (3, .int y_19), (0, .ref mo), (1, .int a1), (2, .int 1)]) hx hb dX12_amount_43 hl (by decide) rfl (fun ls hl => ?_)
        refine lv_iload_n hx hb dX12_amount_45 rfl (lv_at hl 2 rfl) ?_
        refine lv_if_ge (tgt := 64) hx hb dX12_amount_46 (by decide) (fun c_23 => ?_) (fun c_23 => ?_)
        · have t_23 : (0 : Int32).toInt ≤ y_19.toInt := Int32.le_iff_toInt_le.mp c_23
          refine lv_iload_n hx hb dX12_amount_64 rfl (lv_at hl 2 rfl) ?_
          refine lv_iload hx hb dX12_amount_65 (lv_at hl 1 rfl) ?_
          refine lv_icmp_ge (tgt := 77) hx hb dX12_amount_67 (by decide) (fun c_24 => ?_) (fun c_24 => ?_)
          · have t_24 : r_20.toInt ≤ y_19.toInt := Int32.le_iff_toInt_le.mp c_24
            refine lv_ldc (v := 1000000) hx hb hown (hts (.constant RX12 159 (1000000)) (by decide +kernel)) dX12_amount_77 ?_
            rw [hQ]
            exact W.iret (v := 1000000) hx hb hr (fun t ht hW => ⟨⟨1000000, (), rfl, ⟨by unfold eA amI; (repeat' split) <;> omega, by omega⟩, trivial⟩, hS.F ht⟩) hS.2.2 dX12_amount_79
          · have t_24 : ¬ r_20.toInt ≤ y_19.toInt := fun h => c_24 (Int32.le_iff_toInt_le.mpr h)
            refine lv_iload hx hb dX12_amount_70 (lv_at hl 1 rfl) ?_
            refine lv_iload_n hx hb dX12_amount_72 rfl (lv_at hl 2 rfl) ?_
            refine lv_isub hx hb dX12_amount_73 ?_
            refine lv_topi (fun y_25 ey_25 => ?_)
            have ty_25 : y_25.toInt = r_20.toInt - y_19.toInt := by rw [ey_25]; exact subI (by omega) (by omega)
            refine lv_goto (tgt := 79) hx hb dX12_amount_74 (by decide) ?_
            rw [hQ]
            exact W.iret (v := y_25) hx hb hr (fun t ht hW => ⟨⟨y_25, (), rfl, ⟨by unfold eA amI; (repeat' split) <;> omega, by omega⟩, trivial⟩, hS.F ht⟩) hS.2.2 dX12_amount_79
        · have t_23 : ¬ (0 : Int32).toInt ≤ y_19.toInt := fun h => c_23 (Int32.le_iff_toInt_le.mpr h)
          refine lv_iload_n hx hb dX12_amount_49 rfl (lv_at hl 2 rfl) ?_
          refine lv_ineg hx hb dX12_amount_50 ?_
          refine lv_topi (fun y_26 ey_26 => ?_)
          have ty_26 : y_26.toInt = - y_19.toInt := by rw [ey_26]; exact negI (by omega)
          refine lv_iload hx hb dX12_amount_51 (lv_at hl 0 rfl) ?_
          refine lv_icmp_le (tgt := 64) hx hb dX12_amount_53 (by decide) (fun c_27 => ?_) (fun c_27 => ?_)
          · have t_27 : y_26.toInt ≤ r_22.toInt := Int32.le_iff_toInt_le.mp c_27
            refine lv_iload_n hx hb dX12_amount_64 rfl (lv_at hl 2 rfl) ?_
            refine lv_iload hx hb dX12_amount_65 (lv_at hl 1 rfl) ?_
            refine lv_icmp_ge (tgt := 77) hx hb dX12_amount_67 (by decide) (fun c_28 => ?_) (fun c_28 => ?_)
            · have t_28 : r_20.toInt ≤ y_19.toInt := Int32.le_iff_toInt_le.mp c_28
              refine lv_ldc (v := 1000000) hx hb hown (hts (.constant RX12 159 (1000000)) (by decide +kernel)) dX12_amount_77 ?_
              rw [hQ]
              exact W.iret (v := 1000000) hx hb hr (fun t ht hW => ⟨⟨1000000, (), rfl, ⟨by unfold eA amI; (repeat' split) <;> omega, by omega⟩, trivial⟩, hS.F ht⟩) hS.2.2 dX12_amount_79
            · have t_28 : ¬ r_20.toInt ≤ y_19.toInt := fun h => c_28 (Int32.le_iff_toInt_le.mpr h)
              refine lv_iload hx hb dX12_amount_70 (lv_at hl 1 rfl) ?_
              refine lv_iload_n hx hb dX12_amount_72 rfl (lv_at hl 2 rfl) ?_
              refine lv_isub hx hb dX12_amount_73 ?_
              refine lv_topi (fun y_29 ey_29 => ?_)
              have ty_29 : y_29.toInt = r_20.toInt - y_19.toInt := by rw [ey_29]; exact subI (by omega) (by omega)
              refine lv_goto (tgt := 79) hx hb dX12_amount_74 (by decide) ?_
              rw [hQ]
              exact W.iret (v := y_29) hx hb hr (fun t ht hW => ⟨⟨y_29, (), rfl, ⟨by unfold eA amI; (repeat' split) <;> omega, by omega⟩, trivial⟩, hS.F ht⟩) hS.2.2 dX12_amount_79
          · have t_27 : ¬ y_26.toInt ≤ r_22.toInt := fun h => c_27 (Int32.le_iff_toInt_le.mpr h)
            refine lv_iload_n hx hb dX12_amount_56 rfl (lv_at hl 2 rfl) ?_
            refine lv_ineg hx hb dX12_amount_57 ?_
            refine lv_topi (fun y_30 ey_30 => ?_)
            have ty_30 : y_30.toInt = - y_19.toInt := by rw [ey_30]; exact negI (by omega)
            refine lv_iload hx hb dX12_amount_58 (lv_at hl 0 rfl) ?_
            refine lv_isub hx hb dX12_amount_60 ?_
            refine lv_topi (fun y_31 ey_31 => ?_)
            have ty_31 : y_31.toInt = y_30.toInt - r_22.toInt := by rw [ey_31]; exact subI (by omega) (by omega)
            refine lv_goto (tgt := 79) hx hb dX12_amount_61 (by decide) ?_
            rw [hQ]
            exact W.iret (v := y_31) hx hb hr (fun t ht hW => ⟨⟨y_31, (), rfl, ⟨by unfold eA amI; (repeat' split) <;> omega, by omega⟩, trivial⟩, hS.F ht⟩) hS.2.2 dX12_amount_79
      · exact absurd c_21 (by decide)
