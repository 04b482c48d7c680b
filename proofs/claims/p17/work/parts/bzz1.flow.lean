section
/-! ===== the search, as both sides do it ===== -/
noncomputable def mmq (q : Nat → Nat) (n y : Nat) : Prop := ∃ i : Nat, i < n ∧ q i = y
/-- place q h looks at k; n places are met, t is not -/
noncomputable def stK (R : Nat → Nat → Prop) (t P h k : Nat) (X : (Nat → Nat) → Nat → (Nat → Nat) → Prop) (q : Nat → Nat) (n : Nat) (c : Nat → Nat) : Prop := (X q n c ∧ k < P ∧ h < n ∧ (mmq q n k ∨ ¬ R (q h) k)) ∨ ∃ (q0 : Nat → Nat) (n0 : Nat) (c0 : Nat → Nat), X q0 n0 c0 ∧ k < P ∧ h < n0 ∧ ¬ mmq q0 n0 k ∧ R (q0 h) k ∧ k ≠ t ∧ n = n0 + 1 ∧ (∀ i : Nat, i < n0 → q i = q0 i) ∧ q n0 = k ∧ (∀ y : Nat, y ≠ k → c y = c0 y) ∧ c k = q0 h
noncomputable def rwK (R : Nat → Nat → Prop) (t P h : Nat) (X : (Nat → Nat) → Nat → (Nat → Nat) → Prop) : Nat → (Nat → Nat) → Nat → (Nat → Nat) → Prop
  | 0 => X
  | k + 1 => stK R t P h k (rwK R t P h X k)
noncomputable def hdK (R : Nat → Nat → Prop) (t P s : Nat) : Nat → (Nat → Nat) → Nat → (Nat → Nat) → Prop
  | 0 => fun q n _ => n = 1 ∧ q 0 = s
  | h + 1 => rwK R t P h (hdK R t P s h) P
/-- place q h looks at places below k; n places are met, t is not -/
noncomputable def bsr (R : Nat → Nat → Prop) (P s t h k : Nat) (q : Nat → Nat) (n : Nat) (c : Nat → Nat) : Prop := rwK R t P h (hdK R t P s h) k q n c
section BSR
variable {R : Nat → Nat → Prop} {P s t : Nat}
theorem bsr.one {q c : Nat → Nat} (e : q 0 = s) : bsr R P s t 0 0 q 1 c := ⟨rfl, e⟩
theorem bsr.old {h k n : Nat} {q c : Nat → Nat} (b : bsr R P s t h k q n c) (hk : k < P) (hh : h < n) (ho : mmq q n k ∨ ¬ R (q h) k) : bsr R P s t h (k + 1) q n c := Or.inl ⟨b, hk, hh, ho⟩
theorem bsr.new {h k n : Nat} {q c q2 c2 : Nat → Nat} (b : bsr R P s t h k q n c) (hk : k < P) (hh : h < n) (hm : ¬ mmq q n k) (hr : R (q h) k) (ht : k ≠ t) (e1 : ∀ i : Nat, i < n → q2 i = q i) (e2 : q2 n = k) (e3 : ∀ y : Nat, y ≠ k → c2 y = c y) (e4 : c2 k = q h) : bsr R P s t h (k + 1) q2 (n + 1) c2 := Or.inr ⟨q, n, c, b, hk, hh, hm, hr, ht, rfl, e1, e2, e3, e4⟩
theorem bsr.nxt {h n : Nat} {q c : Nat → Nat} (b : bsr R P s t h P q n c) : bsr R P s t (h + 1) 0 q n c := b
theorem bsr_S {h k n : Nat} {q c : Nat → Nat} (b : bsr R P s t h (k + 1) q n c) : (bsr R P s t h k q n c ∧ k < P ∧ h < n ∧ (mmq q n k ∨ ¬ R (q h) k)) ∨ ∃ (q0 : Nat → Nat) (n0 : Nat) (c0 : Nat → Nat), bsr R P s t h k q0 n0 c0 ∧ k < P ∧ h < n0 ∧ ¬ mmq q0 n0 k ∧ R (q0 h) k ∧ k ≠ t ∧ n = n0 + 1 ∧ (∀ i : Nat, i < n0 → q i = q0 i) ∧ q n0 = k ∧ (∀ y : Nat, y ≠ k → c y = c0 y) ∧ c k = q0 h := b
theorem bsr_ind (X : Nat → Nat → (Nat → Nat) → Nat → (Nat → Nat) → Prop) (one : ∀ q c : Nat → Nat, q 0 = s → X 0 0 q 1 c)
    (old : ∀ (h k n : Nat) (q c : Nat → Nat), bsr R P s t h k q n c → k < P → h < n → (mmq q n k ∨ ¬ R (q h) k) → X h k q n c → X h (k + 1) q n c)
    (new : ∀ (h k n : Nat) (q c q2 c2 : Nat → Nat), bsr R P s t h k q n c → k < P → h < n → ¬ mmq q n k → R (q h) k → k ≠ t → (∀ i : Nat, i < n → q2 i = q i) → q2 n = k → (∀ y : Nat, y ≠ k → c2 y = c y) → c2 k = q h → X h k q n c → X h (k + 1) q2 (n + 1) c2)
    (nxt : ∀ (h n : Nat) (q c : Nat → Nat), bsr R P s t h P q n c → X h P q n c → X (h + 1) 0 q n c) : ∀ (h k n : Nat) (q c : Nat → Nat), bsr R P s t h k q n c → X h k q n c := by
  have row : ∀ h : Nat, (∀ (n : Nat) (q c : Nat → Nat), bsr R P s t h 0 q n c → X h 0 q n c) → ∀ (k n : Nat) (q c : Nat → Nat), bsr R P s t h k q n c → X h k q n c := fun h h0 k => by
    induction k with
    | zero => exact h0
    | succ k ih =>
      intro n q c b
      rcases bsr_S b with ⟨b, hk, hh, ho⟩ | ⟨q0, n0, c0, b, hk, hh, hm, hr, ht, en, e1, e2, e3, e4⟩
      · exact old h k n q c b hk hh ho (ih n q c b)
      · rw [en]
        exact new h k n0 q0 c0 q c b hk hh hm hr ht e1 e2 e3 e4 (ih n0 q0 c0 b)
  intro h
  induction h with
  | zero =>
    refine row 0 (fun n q c b => ?_)
    have b' : n = 1 ∧ q 0 = s := b
    rw [b'.1]
    exact one q c b'.2
  | succ h ih => exact row (h + 1) (fun n q c b => nxt h n q c b (ih P n q c b))
/-- t is found, c9 tells the way -/
noncomputable def fndR (R : Nat → Nat → Prop) (P s t : Nat) (c9 : Nat → Nat) : Prop := ∃ (h n : Nat) (q c : Nat → Nat), bsr R P s t h t q n c ∧ h < n ∧ t < P ∧ ¬ mmq q n t ∧ R (q h) t ∧ (∀ y : Nat, y ≠ t → c9 y = c y) ∧ c9 t = q h
/-- all is looked at, and t is not met -/
noncomputable def ndR (R : Nat → Nat → Prop) (P s t : Nat) : Prop := ∃ (h n : Nat) (q c : Nat → Nat), bsr R P s t h 0 q n c ∧ n ≤ h
end BSR
/-! ===== sending over lines, as both sides do it ===== -/
/-- what line l lets more from x to y, F flowing -/
noncomputable def lfZ (r1 r0 g : Nat → Int) (s e : Nat → Nat) (F : Nat → Int) (x y l : Nat) : Int := if g l ≠ 0 then 0 else if s l = x ∧ e l = y then r1 l - F l else if s l = y ∧ e l = x then r0 l + F l else 0
noncomputable def mnZ (a b : Int) : Int := if a < b then a else b
/-- the line's flow behind it, with tk sent -/
noncomputable def fwZ (g : Nat → Int) (s e : Nat → Nat) (x y l : Nat) (v tk : Int) : Int := if g l ≠ 0 then v else if s l = x ∧ e l = y then v + tk else if s l = y ∧ e l = x then v - tk else v
/-- a is to be sent: what is left of it, and the flows, behind n lines -/
noncomputable def snA (r1 r0 g : Nat → Int) (s e : Nat → Nat) (F : Nat → Int) (x y : Nat) (a : Int) : Nat → Int
  | 0 => a
  | n + 1 => snA r1 r0 g s e F x y a n - mnZ (snA r1 r0 g s e F x y a n) (lfZ r1 r0 g s e F x y n)
noncomputable def snF (r1 r0 g : Nat → Int) (s e : Nat → Nat) (F : Nat → Int) (x y : Nat) (a : Int) (l : Nat) : Int := fwZ g s e x y l (F l) (mnZ (snA r1 r0 g s e F x y a l) (lfZ r1 r0 g s e F x y l))
section SN
variable {r1 r0 g : Nat → Int} {s e : Nat → Nat} {F : Nat → Int} {x y : Nat} {a : Int}
theorem snA_nn (ha : 0 ≤ a) : ∀ n : Nat, 0 ≤ snA r1 r0 g s e F x y a n
  | 0 => ha
  | n + 1 => by
    have h := snA_nn ha n
    show 0 ≤ snA r1 r0 g s e F x y a n - mnZ (snA r1 r0 g s e F x y a n) (lfZ r1 r0 g s e F x y n)
    unfold mnZ
    split <;> omega
theorem snA_0 (hl : ∀ l : Nat, 0 ≤ lfZ r1 r0 g s e F x y l) {n : Nat} (h : snA r1 r0 g s e F x y a n = 0) : ∀ d : Nat, snA r1 r0 g s e F x y a (n + d) = 0
  | 0 => h
  | d + 1 => by
    have i := snA_0 hl h d
    have b := hl (n + d)
    show snA r1 r0 g s e F x y a (n + d) - mnZ (snA r1 r0 g s e F x y a (n + d)) (lfZ r1 r0 g s e F x y (n + d)) = 0
    rw [i]
    unfold mnZ
    split <;> omega
/-- once nothing is left the flows stay -/
theorem snF_0 (hl : ∀ l : Nat, 0 ≤ lfZ r1 r0 g s e F x y l) {n l : Nat} (h : snA r1 r0 g s e F x y a n = 0) (hn : n ≤ l) : snF r1 r0 g s e F x y a l = F l := by
  have i := snA_0 hl h (l - n)
  rw [show n + (l - n) = l by omega] at i
  have b := hl l
  unfold snF
  rw [i]
  have z : mnZ 0 (lfZ r1 r0 g s e F x y l) = 0 := by
    unfold mnZ
    split <;> omega
  rw [z]
  unfold fwZ
  (repeat' split) <;> omega
/-- what was to be sent is sent -/
theorem snA_sum (hl : ∀ l : Nat, 0 ≤ lfZ r1 r0 g s e F x y l) (ha : 0 ≤ a) : ∀ n : Nat, snA r1 r0 g s e F x y a n = (if a < sumI (lfZ r1 r0 g s e F x y) n then 0 else a - sumI (lfZ r1 r0 g s e F x y) n)
  | 0 => by
    show a = if a < 0 then 0 else a - 0
    rw [if_neg (by omega)]
    omega
  | n + 1 => by
    have i := snA_sum hl ha n
    have b := hl n
    have q : sumI (lfZ r1 r0 g s e F x y) (n + 1) = sumI (lfZ r1 r0 g s e F x y) n + lfZ r1 r0 g s e F x y n := rfl
    show snA r1 r0 g s e F x y a n - mnZ (snA r1 r0 g s e F x y a n) (lfZ r1 r0 g s e F x y n) = _
    rw [q, i]
    unfold mnZ
    (repeat' split) <;> omega
/-- rooms behind it -/
theorem sn_lf (hxy : x ≠ y) {l u v : Nat} {tk : Int} {G : Nat → Int} (hG : G l = fwZ g s e x y l (F l) tk) (hse : g l = 0 → s l ≠ e l) : lfZ r1 r0 g s e G u v l = lfZ r1 r0 g s e F u v l + (if u = x ∧ v = y then -tk else if u = y ∧ v = x then tk else 0) * (if g l = 0 ∧ ((s l = x ∧ e l = y) ∨ (s l = y ∧ e l = x)) then 1 else 0) := by
  unfold lfZ
  rw [hG]
  unfold fwZ
  by_cases z : g l = 0
  · have hs := hse z
    have nz : ¬ g l ≠ 0 := fun w => w z
    by_cases p : s l = x ∧ e l = y
    · rw [if_neg nz, if_neg nz, if_neg nz, if_pos p, if_pos (show g l = 0 ∧ ((s l = x ∧ e l = y) ∨ (s l = y ∧ e l = x)) from ⟨z, Or.inl p⟩), p.1, p.2]
      by_cases q : x = u ∧ y = v
      · rw [if_pos q, if_pos q, if_pos ⟨q.1.symm, q.2.symm⟩]
        omega
      · rw [if_neg q, if_neg q, if_neg (show ¬ (u = x ∧ v = y) from fun w => q ⟨w.1.symm, w.2.symm⟩)]
        by_cases r : x = v ∧ y = u
        · rw [if_pos r, if_pos r, if_pos ⟨r.2.symm, r.1.symm⟩]
          omega
        · rw [if_neg r, if_neg r, if_neg (show ¬ (u = y ∧ v = x) from fun w => r ⟨w.2.symm, w.1.symm⟩)]
          omega
    · by_cases p2 : s l = y ∧ e l = x
      · rw [if_neg nz, if_neg nz, if_neg nz, if_neg p, if_pos p2, if_pos (show g l = 0 ∧ ((s l = x ∧ e l = y) ∨ (s l = y ∧ e l = x)) from ⟨z, Or.inr p2⟩), p2.1, p2.2]
        by_cases q : x = u ∧ y = v
        · rw [if_neg (fun w => hxy (by omega)), if_pos ⟨q.2, q.1⟩, if_neg (fun w => hxy (by omega)), if_pos ⟨q.2, q.1⟩, if_pos ⟨q.1.symm, q.2.symm⟩]
          omega
        · by_cases r : x = v ∧ y = u
          · rw [if_pos ⟨r.2, r.1⟩, if_pos ⟨r.2, r.1⟩, if_neg (fun w => q ⟨w.1.symm, w.2.symm⟩), if_pos ⟨r.2.symm, r.1.symm⟩]
            omega
          · rw [if_neg (fun w => r ⟨w.2, w.1⟩), if_neg (fun w => q ⟨w.2, w.1⟩), if_neg (fun w => r ⟨w.2, w.1⟩), if_neg (fun w => q ⟨w.2, w.1⟩), if_neg (fun w => q ⟨w.1.symm, w.2.symm⟩), if_neg (fun w => r ⟨w.2.symm, w.1.symm⟩)]
            omega
      · rw [if_neg nz, if_neg nz, if_neg nz, if_neg p, if_neg p2, if_neg (show ¬ (g l = 0 ∧ ((s l = x ∧ e l = y) ∨ (s l = y ∧ e l = x))) from fun w => by
          rcases w.2 with w | w
          · exact p w
          · exact p2 w)]
        omega
  · rw [if_pos z, if_pos z, if_neg (show ¬ (g l = 0 ∧ ((s l = x ∧ e l = y) ∨ (s l = y ∧ e l = x))) from fun w => z w.1)]
    omega
end SN
/-! ===== the class's search, step by step ===== -/
section STP
variable {R : Nat → Nat → Prop} {P s t : Nat} {h m m2 k k2 x : Int32} {q q2 c c2 : Nat → Int32}
theorem bsr_one {a : Int32} {c : Nat → Nat} {f : Nat → Int32} (e : f = upd q (0 : Int32).toNatClampNeg a) : bsr R P a.toNatClampNeg t (0 : Int32).toNatClampNeg 0 (nF f) (1 : Int32).toNatClampNeg c := by
  rw [cl_0, cl_1]
  refine bsr.one ?_
  unfold nF
  rw [e, ← cl_0, pk_us]
theorem bsr_nxt {P : Int32} {c : Nat → Nat} {n : Nat} {q : Nat → Nat} {h2 : Int32} (b : bsr R P.toNatClampNeg s t h.toNatClampNeg k.toNatClampNeg q n c) (hk : k.toInt = P.toInt) (h0 : 0 ≤ h.toInt) (e : h2.toInt = h.toInt + 1) : bsr R P.toNatClampNeg s t h2.toNatClampNeg 0 q n c := by
  have c1 := clI (i := h) h0
  have c2 := clI (i := h2) (by omega)
  rw [show k = P from Int32.toInt_inj.mp hk] at b
  rw [show h2.toNatClampNeg = h.toNatClampNeg + 1 by omega]
  exact bsr.nxt b
theorem bsr_old {P : Int32} {c : Nat → Nat} {n : Nat} {q : Nat → Nat} {hh : Nat} (b : bsr R P.toNatClampNeg s t hh k.toNatClampNeg q n c) (h0 : 0 ≤ k.toInt) (hk : k.toInt < P.toInt) (e : k2.toInt = k.toInt + 1) (lh : hh < n) (ho : mmq q n k.toNatClampNeg ∨ ¬ R (q hh) k.toNatClampNeg) : bsr R P.toNatClampNeg s t hh k2.toNatClampNeg q n c := by
  have c1 := clI (i := k) h0
  have c2 := clI (i := k2) (by omega)
  have cP := clI (i := P) (by omega)
  rw [show k2.toNatClampNeg = k.toNatClampNeg + 1 by omega]
  exact bsr.old b (by omega) lh ho
theorem bsr_new {P : Int32} {hh : Nat} (b : bsr R P.toNatClampNeg s t hh k.toNatClampNeg (nF q) m.toNatClampNeg (nF c)) (h0 : 0 ≤ k.toInt) (hk : k.toInt < P.toInt) (hm0 : 0 ≤ m.toInt) (lh : hh < m.toNatClampNeg) (hm : ¬ mmq (nF q) m.toNatClampNeg k.toNatClampNeg) (hr : R (nF q hh) k.toNatClampNeg) (ht : k.toNatClampNeg ≠ t) (eq : q2 = upd q m.toNatClampNeg k) (ec : c2 = upd c k.toNatClampNeg x) (ex : x = q hh) (em : m2.toInt = m.toInt + 1) (e : k2.toInt = k.toInt + 1) (_ : 0 ≤ k.toInt) : bsr R P.toNatClampNeg s t hh k2.toNatClampNeg (nF q2) m2.toNatClampNeg (nF c2) := by
  have c1 := clI (i := k) h0
  have c2' := clI (i := k2) (by omega)
  have cP := clI (i := P) (by omega)
  have cm := clI (i := m) hm0
  have cm2 := clI (i := m2) (by omega)
  rw [show k2.toNatClampNeg = k.toNatClampNeg + 1 by omega, show m2.toNatClampNeg = m.toNatClampNeg + 1 by omega]
  refine bsr.new b (by omega) lh hm hr ht (fun i hi => ?_) ?_ (fun y hy => ?_) ?_
  · unfold nF
    rw [eq, pk_un (by omega)]
  · unfold nF
    rw [eq, pk_us]
  · unfold nF
    rw [ec, pk_un hy]
  · unfold nF
    rw [ec, pk_us, ex]
theorem bfq_nm {R2 : Nat → Nat → Prop} {n y : Nat} {met : Int32} (H : bfq R2 P s met q n) (hun : bt met y = false) : ¬ mmq (nF q) n y := by
  rintro ⟨i, hi, e⟩
  have := (H.2.2.1 i hi).2
  rw [e, hun] at this
  cases this
theorem fnd_mk {P : Int32} {hh n : Nat} {tt : Int32} (b : bsr R P.toNatClampNeg s tt.toNatClampNeg hh k.toNatClampNeg (nF q) n (nF c)) (et : tt = k) (lh : hh < n) (hk : k.toNatClampNeg < P.toNatClampNeg) (hm : ¬ mmq (nF q) n k.toNatClampNeg) (hr : R (nF q hh) k.toNatClampNeg) (ec : c2 = upd c k.toNatClampNeg x) (ex : x = q hh) : fndR R P.toNatClampNeg s tt.toNatClampNeg (nF c2) := by
  rw [et] at b ⊢
  refine ⟨hh, n, nF q, nF c, b, lh, hk, hm, hr, fun y hy => ?_, ?_⟩
  · unfold nF
    rw [ec, pk_un hy]
  · unfold nF
    rw [ec, pk_us, ex]
end STP
theorem or_if {a b : Int32} (ha : a.toInt = 0 ∨ a.toInt = 1) (hb : b.toInt = 0 ∨ b.toInt = 1) : (a ||| b).toInt = if a.toInt = 1 ∨ b.toInt = 1 then 1 else 0 := by
  rcases ha with ha | ha <;> rcases hb with hb | hb
  · rw [show a = 0 from Int32.toInt_inj.mp ha, show b = 0 from Int32.toInt_inj.mp hb]
    decide
  · rw [show a = 0 from Int32.toInt_inj.mp ha, show b = 1 from Int32.toInt_inj.mp hb]
    decide
  · rw [show a = 1 from Int32.toInt_inj.mp ha, show b = 0 from Int32.toInt_inj.mp hb]
    decide
  · rw [show a = 1 from Int32.toInt_inj.mp ha, show b = 1 from Int32.toInt_inj.mp hb]
    decide
theorem met_s3 {q : Nat → Int32} {a v v2 b i i2 : Int32} (h : v.toInt ≠ 0 → ∃ j : Nat, (j : Int) < i.toInt ∧ (q j).toInt = a.toInt) (h0 : 0 ≤ i.toInt) (e : i2.toInt = i.toInt + 1) (hv : v.toInt = 0 ∨ v.toInt = 1) (hb : b.toInt = 0 ∨ b.toInt = 1) (ev : v2 = v ||| b) (hq : b.toInt = 1 → (q i.toNatClampNeg).toInt = a.toInt) : v2.toInt ≠ 0 → ∃ j : Nat, (j : Int) < i2.toInt ∧ (q j).toInt = a.toInt := fun w => by
  have c := clI (i := i) h0
  rw [ev, or_if hv hb] at w
  by_cases z : b.toInt = 1
  · exact ⟨i.toNatClampNeg, by omega, hq z⟩
  · obtain ⟨j, hj, g⟩ := h (fun y => w (if_neg (by omega)))
    exact ⟨j, by omega, g⟩
theorem nmt_s {q : Nat → Int32} {a v v2 b i i2 : Int32} (h : v.toInt = 0 → ∀ j : Nat, (j : Int) < i.toInt → (q j).toInt ≠ a.toInt) (h0 : 0 ≤ i.toInt) (e : i2.toInt = i.toInt + 1) (hv : v.toInt = 0 ∨ v.toInt = 1) (hb : b.toInt = 0 ∨ b.toInt = 1) (ev : v2 = v ||| b) (hq : b.toInt = 1 ∨ (q i.toNatClampNeg).toInt ≠ a.toInt) : v2.toInt = 0 → ∀ j : Nat, (j : Int) < i2.toInt → (q j).toInt ≠ a.toInt := fun w j hj => by
  have c := clI (i := i) h0
  rw [ev, or_if hv hb] at w
  by_cases z : v.toInt = 1 ∨ b.toInt = 1
  · rw [if_pos z] at w
    omega
  · by_cases y : j = i.toNatClampNeg
    · rw [y]
      omega
    · exact h (by omega) j (by omega)
theorem mmq_of {q : Nat → Int32} {m y : Int32} (h : ∃ j : Nat, (j : Int) < m.toInt ∧ (q j).toInt = y.toInt) : mmq (nF q) m.toNatClampNeg y.toNatClampNeg := by
  obtain ⟨j, hj, e⟩ := h
  have c : ((m.toNatClampNeg : Nat) : Int) = ((m.toInt.toNat : Nat) : Int) := rfl
  exact ⟨j, by omega, congrArg Int32.toNatClampNeg (Int32.toInt_inj.mp e)⟩
theorem mmq_no {q : Nat → Int32} {m y : Int32} (h : ∀ j : Nat, (j : Int) < m.toInt → (q j).toInt ≠ y.toInt) (h0 : 0 ≤ y.toInt) (hr : rng q 12 0 11) (hm : 0 ≤ m.toInt ∧ m.toInt ≤ 12) : ¬ mmq (nF q) m.toNatClampNeg y.toNatClampNeg := by
  rintro ⟨j, hj, e⟩
  have c := clI (i := m) hm.1
  have r := hr j (by omega)
  have c1 := clI (i := q j) r.1
  have c2 := clI (i := y) h0
  refine h j (by omega) ?_
  unfold nF at e
  omega
/-! ===== flows step by step ===== -/
/-- only lines below N are there -/
noncomputable def gN (N : Nat) (g : Nat → Int) (l : Nat) : Int := if l < N then g l else 1
/-- what lines let more from x to y, F flowing -/
noncomputable def rmF (r1 r0 g : Nat → Int) (st en : Nat → Nat) (N : Nat) (F : Nat → Int) (x y : Nat) : Int := sumI (lfZ r1 r0 g st en F x y) N
/-- the way's places, from its end -/
noncomputable def psW (c : Nat → Nat) (t : Nat) : Nat → Nat
  | 0 => t
  | n + 1 => c (psW c t n)
/-- a sent over the last n pairs of the way -/
noncomputable def flW (r1 r0 g : Nat → Int) (st en : Nat → Nat) (c : Nat → Nat) (t : Nat) (a : Int) (F : Nat → Int) : Nat → Nat → Int
  | 0 => F
  | n + 1 => snF r1 r0 g st en (flW r1 r0 g st en c t a F n) (psW c t (n + 1)) (psW c t n) a
noncomputable def wyN (c : Nat → Nat) (s t n : Nat) : Prop := psW c t n = s ∧ ∀ i : Nat, i < n → psW c t i ≠ s
/-- a is the least room on the way -/
noncomputable def lrW (M : Nat → Nat → Int) (c : Nat → Nat) (t n : Nat) (a : Int) : Prop := (∀ i : Nat, i < n → a ≤ M (psW c t (i + 1)) (psW c t i)) ∧ ∃ i : Nat, i < n ∧ a = M (psW c t (i + 1)) (psW c t i)
/-- one way more -/
noncomputable def stF (r1 r0 g : Nat → Int) (st en : Nat → Nat) (N P s t : Nat) (F F2 : Nat → Int) : Prop := ∃ (c : Nat → Nat) (n : Nat) (a : Int), fndR (rB (rmF r1 r0 g st en N F) 1) P s t c ∧ wyN c s t n ∧ lrW (rmF r1 r0 g st en N F) c t n a ∧ ∀ l : Nat, l < N → F2 l = flW r1 r0 g st en c t a F n l
/-- F is what flows after k ways -/
noncomputable def chF (r1 r0 g : Nat → Int) (st en : Nat → Nat) (N P s t : Nat) : Nat → (Nat → Int) → Prop
  | 0, F => ∀ l : Nat, l < N → F l = 0
  | k + 1, F2 => ∃ F : Nat → Int, chF r1 r0 g st en N P s t k F ∧ stF r1 r0 g st en N P s t F F2
theorem chF.zero {r1 r0 g : Nat → Int} {st en : Nat → Nat} {N P s t : Nat} {F : Nat → Int} (h : ∀ l : Nat, l < N → F l = 0) : chF r1 r0 g st en N P s t 0 F := h
theorem chF.step {r1 r0 g : Nat → Int} {st en : Nat → Nat} {N P s t k : Nat} {F F2 : Nat → Int} (h : chF r1 r0 g st en N P s t k F) (hs : stF r1 r0 g st en N P s t F F2) : chF r1 r0 g st en N P s t (k + 1) F2 := ⟨F, h, hs⟩
/-- and no way is left -/
noncomputable def enF (r1 r0 g : Nat → Int) (st en : Nat → Nat) (N P s t : Nat) (F : Nat → Int) : Prop := (∃ k : Nat, chF r1 r0 g st en N P s t k F) ∧ ndR (rB (rmF r1 r0 g st en N F) 1) P s t
section CH
variable {r1 r0 g r1' r0' g' : Nat → Int} {st en st' en' : Nat → Nat} {N P s t : Nat}
/-- two tellings of the same lines -/
noncomputable def lnS (r1 r0 g : Nat → Int) (st en : Nat → Nat) (r1' r0' g' : Nat → Int) (st' en' : Nat → Nat) (l : Nat) : Prop := (g l = 0 ↔ g' l = 0) ∧ (g l = 0 → r1 l = r1' l ∧ r0 l = r0' l ∧ st l = st' l ∧ en l = en' l)
theorem lfZ_cg {F G : Nat → Int} {x y l : Nat} (h : lnS r1 r0 g st en r1' r0' g' st' en' l) (e : F l = G l) : lfZ r1 r0 g st en F x y l = lfZ r1' r0' g' st' en' G x y l := by
  unfold lfZ
  by_cases z : g l = 0
  · obtain ⟨a1, a2, a3, a4⟩ := h.2 z
    have z' := h.1.mp z
    rw [if_neg (show ¬ g l ≠ 0 from fun q => q z), if_neg (show ¬ g' l ≠ 0 from fun q => q z'), a1, a2, a3, a4, e]
  · rw [if_pos (show g l ≠ 0 from z), if_pos (show g' l ≠ 0 from fun q => z (h.1.mpr q))]
theorem fwZ_cg {x y l : Nat} {v tk : Int} (h : lnS r1 r0 g st en r1' r0' g' st' en' l) : fwZ g st en x y l v tk = fwZ g' st' en' x y l v tk := by
  unfold fwZ
  by_cases z : g l = 0
  · obtain ⟨a1, a2, a3, a4⟩ := h.2 z
    have z' := h.1.mp z
    rw [if_neg (show ¬ g l ≠ 0 from fun q => q z), if_neg (show ¬ g' l ≠ 0 from fun q => q z'), a3, a4]
  · rw [if_pos (show g l ≠ 0 from z), if_pos (show g' l ≠ 0 from fun q => z (h.1.mpr q))]
theorem snA_cg {F G : Nat → Int} {x y : Nat} {a : Int} : ∀ n : Nat, (∀ l : Nat, l < n → lnS r1 r0 g st en r1' r0' g' st' en' l ∧ F l = G l) → snA r1 r0 g st en F x y a n = snA r1' r0' g' st' en' G x y a n
  | 0, _ => rfl
  | n + 1, h => by
    show snA r1 r0 g st en F x y a n - mnZ (snA r1 r0 g st en F x y a n) (lfZ r1 r0 g st en F x y n) = snA r1' r0' g' st' en' G x y a n - mnZ (snA r1' r0' g' st' en' G x y a n) (lfZ r1' r0' g' st' en' G x y n)
    rw [snA_cg n (fun l hl => h l (by omega)), lfZ_cg (h n (by omega)).1 (h n (by omega)).2]
theorem snF_cg {F G : Nat → Int} {x y l : Nat} {a : Int} (h : ∀ j : Nat, j ≤ l → lnS r1 r0 g st en r1' r0' g' st' en' j ∧ F j = G j) : snF r1 r0 g st en F x y a l = snF r1' r0' g' st' en' G x y a l := by
  unfold snF
  rw [snA_cg l (fun j hj => h j (by omega)), lfZ_cg (h l (Nat.le_refl l)).1 (h l (Nat.le_refl l)).2, fwZ_cg (h l (Nat.le_refl l)).1, (h l (Nat.le_refl l)).2]
theorem rmF_cg {F G : Nat → Int} (h : ∀ l : Nat, l < N → lnS r1 r0 g st en r1' r0' g' st' en' l ∧ F l = G l) : rmF r1 r0 g st en N F = rmF r1' r0' g' st' en' N G := by
  funext x y
  exact sumI_congr N (fun l hl => lfZ_cg (h l hl).1 (h l hl).2)
theorem flW_cg {F G : Nat → Int} {c : Nat → Nat} {a : Int} (h : ∀ l : Nat, l < N → lnS r1 r0 g st en r1' r0' g' st' en' l ∧ F l = G l) : ∀ (n l : Nat), l < N → flW r1 r0 g st en c t a F n l = flW r1' r0' g' st' en' c t a G n l
  | 0, l, hl => (h l hl).2
  | n + 1, l, hl => snF_cg (fun j hj => ⟨(h j (by omega)).1, flW_cg h n j (by omega)⟩)
theorem stF_cg {F G F2 G2 : Nat → Int} (hl : ∀ l : Nat, l < N → lnS r1 r0 g st en r1' r0' g' st' en' l) (h1 : ∀ l : Nat, l < N → F l = G l) (h2 : ∀ l : Nat, l < N → F2 l = G2 l) (h : stF r1 r0 g st en N P s t F F2) : stF r1' r0' g' st' en' N P s t G G2 := by
  obtain ⟨c, n, a, f1, f2, f3, f4⟩ := h
  have e := rmF_cg (st := st) (en := en) (st' := st') (en' := en') (F := F) (G := G) (fun l hl' => ⟨hl l hl', h1 l hl'⟩)
  rw [e] at f1 f3
  exact ⟨c, n, a, f1, f2, f3, fun l hl' => by rw [← h2 l hl', f4 l hl']; exact flW_cg (fun j hj => ⟨hl j hj, h1 j hj⟩) n l hl'⟩
theorem chF_cg {F : Nat → Int} (hl : ∀ l : Nat, l < N → lnS r1 r0 g st en r1' r0' g' st' en' l) {k : Nat} (h : chF r1 r0 g st en N P s t k F) : chF r1' r0' g' st' en' N P s t k F := by
  induction k generalizing F with
  | zero => exact h
  | succ k ih =>
    obtain ⟨F0, h0, hs⟩ := h
    exact ⟨F0, ih h0, stF_cg hl (fun _ _ => rfl) (fun _ _ => rfl) hs⟩
theorem enF_cg {F : Nat → Int} (hl : ∀ l : Nat, l < N → lnS r1 r0 g st en r1' r0' g' st' en' l) (h : enF r1 r0 g st en N P s t F) : enF r1' r0' g' st' en' N P s t F := by
  obtain ⟨⟨k, h⟩, hn⟩ := h
  refine ⟨⟨k, chF_cg hl h⟩, ?_⟩
  rw [← rmF_cg (F := F) (G := F) (fun l hl' => ⟨hl l hl', rfl⟩)]
  exact hn
theorem lnS_rfl {l : Nat} : lnS r1 r0 g st en r1 r0 g st en l := ⟨Iff.rfl, fun _ => ⟨rfl, rfl, rfl, rfl⟩⟩
end CH
/-! rooms that differ where nobody looks -/
section BCG
variable {R R2 : Nat → Nat → Prop} {P s t : Nat}
theorem bsr_P (hs : s < P) {h k n : Nat} {q c : Nat → Nat} (b : bsr R P s t h k q n c) : ∀ i : Nat, i < n → q i < P := by
  refine bsr_ind (fun _ _ q n _ => ∀ i : Nat, i < n → q i < P) ?_ ?_ ?_ ?_ h k n q c b
  · exact fun q c e i hi => by rw [show i = 0 by omega, e]; exact hs
  · exact fun _ _ _ _ _ _ _ _ _ ih => ih
  · intro h0 k0 n0 q0 c0 q9 c9 b hk hh hm hr ht e1 e2 e3 e4 ih i hi
    by_cases z : i = n0
    · rw [z, e2]
      exact hk
    · rw [e1 i (by omega)]
      exact ih i (by omega)
  · exact fun _ _ _ _ _ ih => ih
theorem bsr_cg (hs : s < P) (hR : ∀ x y : Nat, x < P → y < P → (R x y ↔ R2 x y)) {h k n : Nat} {q c : Nat → Nat} (b : bsr R P s t h k q n c) : bsr R2 P s t h k q n c := by
  refine bsr_ind (fun h k q n c => bsr R2 P s t h k q n c) ?_ ?_ ?_ ?_ h k n q c b
  · exact fun q c e => bsr.one e
  · exact fun h k n q c b hk hh ho ih => bsr.old ih hk hh (ho.elim Or.inl (fun w => Or.inr (fun r => w ((hR _ _ (bsr_P hs b _ hh) hk).mpr r))))
  · exact fun h k n q c q2 c2 b hk hh hm hr ht e1 e2 e3 e4 ih => bsr.new ih hk hh hm ((hR _ _ (bsr_P hs b _ hh) hk).mp hr) ht e1 e2 e3 e4
  · exact fun h n q c b ih => bsr.nxt ih
theorem fnd_cg (hs : s < P) (hR : ∀ x y : Nat, x < P → y < P → (R x y ↔ R2 x y)) {c9 : Nat → Nat} (h : fndR R P s t c9) : fndR R2 P s t c9 := by
  obtain ⟨h, n, q, c, b, hh, tP, hm, hr, e1, e2⟩ := h
  exact ⟨h, n, q, c, bsr_cg hs hR b, hh, tP, hm, (hR _ _ (bsr_P hs b _ hh) tP).mp hr, e1, e2⟩
theorem nd_cg (hs : s < P) (hR : ∀ x y : Nat, x < P → y < P → (R x y ↔ R2 x y)) (h : ndR R P s t) : ndR R2 P s t := by
  obtain ⟨h, n, q, c, b, hn⟩ := h
  exact ⟨h, n, q, c, bsr_cg hs hR b, hn⟩
end BCG
/-! ===== one pair of the way, over the lines ===== -/
/-- every line that is there carries no more than it lets -/
noncomputable def flK (r1 r0 g : Nat → Int) (F : Nat → Int) : Prop := ∀ l : Nat, g l = 0 → (0 ≤ r1 l ∧ r1 l ≤ 1000000) ∧ (0 ≤ r0 l ∧ r0 l ≤ 1000000) ∧ -(r0 l) ≤ F l ∧ F l ≤ r1 l
section SNI
variable {r1 r0 g : Nat → Int} {st en : Nat → Nat} {F G : Nat → Int} {x y N P : Nat} {a : Int}
theorem flK_lf (h : flK r1 r0 g F) (x y l : Nat) : 0 ≤ lfZ r1 r0 g st en F x y l := by
  unfold lfZ
  by_cases z : g l = 0
  · have b := h l z
    rw [if_neg (fun q => q z)]
    (repeat' split) <;> omega
  · rw [if_pos z]
    exact Int.le_refl 0
theorem mn_rng {p q : Int} (hp : 0 ≤ p) (hq : 0 ≤ q) : 0 ≤ mnZ p q ∧ mnZ p q ≤ q ∧ mnZ p q ≤ p := by
  unfold mnZ
  split <;> omega
theorem flK_sn (h : flK r1 r0 g F) (ha : 0 ≤ a) (hG : ∀ l : Nat, g l = 0 → G l = snF r1 r0 g st en F x y a l) : flK r1 r0 g G := fun l z => by
  have b := h l z
  refine ⟨b.1, b.2.1, ?_⟩
  rw [hG l z]
  have m := mn_rng (snA_nn (r1 := r1) (r0 := r0) (g := g) (s := st) (e := en) (F := F) (x := x) (y := y) ha l) (flK_lf (st := st) (en := en) h x y l)
  unfold snF
  generalize mnZ (snA r1 r0 g st en F x y a l) (lfZ r1 r0 g st en F x y l) = tk at m
  unfold fwZ
  unfold lfZ at m
  rw [if_neg (fun q => q z)]
  rw [if_neg (fun q => q z)] at m
  by_cases p : st l = x ∧ en l = y
  · rw [if_pos p] at m ⊢
    omega
  · rw [if_neg p] at m ⊢
    by_cases p2 : st l = y ∧ en l = x
    · rw [if_pos p2] at m ⊢
      omega
    · rw [if_neg p2] at m ⊢
      omega
/-- rooms behind it -/
theorem sn_rm0 (hk : flK r1 r0 g F) (hxy : x ≠ y) (ha : 0 ≤ a) (hse : ∀ l : Nat, g l = 0 → st l ≠ en l) {u v : Nat} : ∀ n : Nat, (∀ l : Nat, l < n → G l = snF r1 r0 g st en F x y a l) → sumI (lfZ r1 r0 g st en G u v) n = sumI (lfZ r1 r0 g st en F u v) n + (if u = x ∧ v = y then -(a - snA r1 r0 g st en F x y a n) else if u = y ∧ v = x then a - snA r1 r0 g st en F x y a n else 0)
  | 0, _ => by
    have e : snA r1 r0 g st en F x y a 0 = a := rfl
    rw [e]
    show (0 : Int) = 0 + _
    (repeat' split) <;> omega
  | n + 1, h => by
    have i := sn_rm0 hk hxy ha hse (u := u) (v := v) n (fun l hl => h l (by omega))
    have s := sn_lf (r1 := r1) (r0 := r0) hxy (u := u) (v := v) (h n (by omega)) (hse n)
    have nn := snA_nn (r1 := r1) (r0 := r0) (g := g) (s := st) (e := en) (F := F) (x := x) (y := y) ha n
    have e1 : snA r1 r0 g st en F x y a (n + 1) = snA r1 r0 g st en F x y a n - mnZ (snA r1 r0 g st en F x y a n) (lfZ r1 r0 g st en F x y n) := rfl
    have e2 : sumI (lfZ r1 r0 g st en G u v) (n + 1) = sumI (lfZ r1 r0 g st en G u v) n + lfZ r1 r0 g st en G u v n := rfl
    have e3 : sumI (lfZ r1 r0 g st en F u v) (n + 1) = sumI (lfZ r1 r0 g st en F u v) n + lfZ r1 r0 g st en F u v n := rfl
    rw [e1, e2, e3, i, s]
    by_cases m : g n = 0 ∧ ((st n = x ∧ en n = y) ∨ (st n = y ∧ en n = x))
    · rw [if_pos m]
      (repeat' split) <;> omega
    · have z : lfZ r1 r0 g st en F x y n = 0 := by
        unfold lfZ
        by_cases z : g n = 0
        · rw [if_neg (fun q => q z), if_neg (fun q => m ⟨z, Or.inl q⟩), if_neg (fun q => m ⟨z, Or.inr q⟩)]
        · rw [if_pos z]
      have z2 : mnZ (snA r1 r0 g st en F x y a n) 0 = 0 := by
        unfold mnZ
        split <;> omega
      rw [if_neg m, z, z2]
      (repeat' split) <;> omega
theorem sn_rm (hk : flK r1 r0 g F) (hxy : x ≠ y) (ha : 0 ≤ a) (hle : a ≤ rmF r1 r0 g st en N F x y) (hse : ∀ l : Nat, g l = 0 → st l ≠ en l) (hG : ∀ l : Nat, l < N → G l = snF r1 r0 g st en F x y a l) (u v : Nat) : rmF r1 r0 g st en N G u v = rmF r1 r0 g st en N F u v + (if x = u ∧ y = v then -a else 0) + (if y = u ∧ x = v then a else 0) := by
  have i := sn_rm0 hk hxy ha hse (u := u) (v := v) N hG
  have z := snA_sum (r1 := r1) (r0 := r0) (g := g) (s := st) (e := en) (F := F) (x := x) (y := y) (fun l => flK_lf hk x y l) ha N
  unfold rmF at hle ⊢
  have z0 : snA r1 r0 g st en F x y a N = 0 := by
    rw [z]
    split <;> omega
  rw [z0] at i
  rw [i]
  by_cases p : u = x ∧ v = y
  · rw [if_pos p, if_pos (show x = u ∧ y = v from ⟨p.1.symm, p.2.symm⟩), if_neg (show ¬ (y = u ∧ x = v) from fun q => hxy (by rw [← p.1]; exact q.1.symm))]
    omega
  · rw [if_neg p, if_neg (show ¬ (x = u ∧ y = v) from fun q => p ⟨q.1.symm, q.2.symm⟩)]
    by_cases p2 : u = y ∧ v = x
    · rw [if_pos p2, if_pos (show y = u ∧ x = v from ⟨p2.1.symm, p2.2.symm⟩)]
      omega
    · rw [if_neg p2, if_neg (show ¬ (y = u ∧ x = v) from fun q => p2 ⟨q.1.symm, q.2.symm⟩)]
      omega
theorem rmF_diag (hse : ∀ l : Nat, g l = 0 → st l ≠ en l) : rmF r1 r0 g st en N F x x = 0 := by
  unfold rmF
  refine (sumI_congr N (fun l _ => ?_)).trans (sumI_zero N)
  unfold lfZ
  by_cases z : g l = 0
  · have b := hse l z
    rw [if_neg (fun q => q z), if_neg (fun q => b (q.1.trans q.2.symm)), if_neg (fun q => b (q.1.trans q.2.symm))]
  · rw [if_pos z]
/-- the loop over lines: left of a, f behind n lines -/
noncomputable def snI (r1 r0 g : Nat → Int) (st en : Nat → Nat) (f4 f : Nat → Int32) (x y : Nat) (a left : Int) (n : Nat) : Prop := left = snA r1 r0 g st en (kF f4) x y a n ∧ (∀ l : Nat, l < n → kF f l = snF r1 r0 g st en (kF f4) x y a l) ∧ ∀ l : Nat, n ≤ l → f l = f4 l
theorem snI_0 {f4 : Nat → Int32} : snI r1 r0 g st en f4 f4 x y a a (0 : Int32).toNatClampNeg := by
  rw [cl_0]
  exact ⟨rfl, fun l hl => absurd hl (Nat.not_lt_zero l), fun _ _ => rfl⟩
theorem snI_st {f4 f f2 : Nat → Int32} {i i2 v : Int32} {left left2 : Int} (h : snI r1 r0 g st en f4 f x y a left i.toNatClampNeg) (h0 : 0 ≤ i.toInt) (ei : i2.toInt = i.toInt + 1) (e : f2 = upd f i.toNatClampNeg v) (hv : v.toInt = fwZ g st en x y i.toNatClampNeg (kF f4 i.toNatClampNeg) (mnZ left (lfZ r1 r0 g st en (kF f4) x y i.toNatClampNeg))) (el : left2 = left - mnZ left (lfZ r1 r0 g st en (kF f4) x y i.toNatClampNeg)) : snI r1 r0 g st en f4 f2 x y a left2 i2.toNatClampNeg := by
  have c1 := clI (i := i) h0
  have c2 := clI (i := i2) (by omega)
  obtain ⟨b1, b2, b3⟩ := h
  rw [show i2.toNatClampNeg = i.toNatClampNeg + 1 by omega]
  refine ⟨?_, fun l hl => ?_, fun l hl => ?_⟩
  · rw [el, b1]
    rfl
  · by_cases q : l = i.toNatClampNeg
    · rw [q]
      show (f2 i.toNatClampNeg).toInt = _
      rw [e, pk_us, hv, b1]
      rfl
    · have w := b2 l (by omega)
      rw [← w]
      show (f2 l).toInt = (f l).toInt
      rw [e, pk_un q]
  · rw [e, pk_un (by omega)]
    exact b3 l (by omega)
theorem snI_no {f4 f : Nat → Int32} {i i2 : Int32} {left : Int} (h : snI r1 r0 g st en f4 f x y a left i.toNatClampNeg) (h0 : 0 ≤ i.toInt) (ei : i2.toInt = i.toInt + 1) (hl : 0 ≤ left) (no : g i.toNatClampNeg ≠ 0 ∨ (¬ (st i.toNatClampNeg = x ∧ en i.toNatClampNeg = y) ∧ ¬ (st i.toNatClampNeg = y ∧ en i.toNatClampNeg = x))) : snI r1 r0 g st en f4 f x y a left i2.toNatClampNeg := by
  have c1 := clI (i := i) h0
  have c2 := clI (i := i2) (by omega)
  obtain ⟨b1, b2, b3⟩ := h
  have z : lfZ r1 r0 g st en (kF f4) x y i.toNatClampNeg = 0 := by
    unfold lfZ
    rcases no with q | q
    · rw [if_pos q]
    · rw [if_neg q.1, if_neg q.2]
      split <;> rfl
  have z2 : mnZ left 0 = 0 := by
    unfold mnZ
    split <;> omega
  rw [show i2.toNatClampNeg = i.toNatClampNeg + 1 by omega]
  refine ⟨?_, fun l hl => ?_, fun l hl => b3 l (by omega)⟩
  · show left = snA r1 r0 g st en (kF f4) x y a i.toNatClampNeg - mnZ (snA r1 r0 g st en (kF f4) x y a i.toNatClampNeg) (lfZ r1 r0 g st en (kF f4) x y i.toNatClampNeg)
    rw [← b1, z, z2]
    omega
  · by_cases q : l = i.toNatClampNeg
    · rw [q]
      unfold snF
      rw [← b1, z, z2]
      show (f i.toNatClampNeg).toInt = _
      rw [b3 _ (Nat.le_refl _)]
      unfold fwZ
      show kF f4 i.toNatClampNeg = _
      (repeat' split) <;> omega
    · exact b2 l (by omega)
theorem snI_end {f4 f : Nat → Int32} {n : Nat} {left : Int} (h : snI r1 r0 g st en f4 f x y a left n) (hk : flK r1 r0 g (kF f4)) (hn : N ≤ n ∨ left = 0) : ∀ l : Nat, l < N → kF f l = snF r1 r0 g st en (kF f4) x y a l := fun l hl => by
  obtain ⟨b1, b2, b3⟩ := h
  by_cases q : l < n
  · exact b2 l q
  · rcases hn with w | w
    · omega
    · show (f l).toInt = _
      rw [b3 l (by omega)]
      rw [w] at b1
      exact (snF_0 (fun j => flK_lf hk x y j) b1.symm (by omega)).symm
end SNI
section CSN
variable {fs fe f4 f f2 f5 f6 : Nat → Int32} {i i2 v X Y N tk lf lf2 : Int32} {a : Int}
theorem gN_0 (h0 : 0 ≤ i.toInt) (hi : i.toInt < N.toInt) (hs : 0 ≤ (fs i.toNatClampNeg).toInt) : gN N.toNatClampNeg (gF fs) i.toNatClampNeg = 0 := by
  have c1 := clI (i := i) h0
  have c2 := clI (i := N) (by omega)
  unfold gN gF gI
  rw [if_pos (by omega), if_neg (by omega)]
theorem flK_at (h : flK (kF f5) (kF f6) (gN N.toNatClampNeg (gF fs)) (kF f4)) (h0 : 0 ≤ i.toInt) (hi : i.toInt < N.toInt) (hs : 0 ≤ (fs i.toNatClampNeg).toInt) : (0 ≤ (f5 i.toNatClampNeg).toInt ∧ (f5 i.toNatClampNeg).toInt ≤ 1000000) ∧ (0 ≤ (f6 i.toNatClampNeg).toInt ∧ (f6 i.toNatClampNeg).toInt ≤ 1000000) ∧ -(f6 i.toNatClampNeg).toInt ≤ (f4 i.toNatClampNeg).toInt ∧ (f4 i.toNatClampNeg).toInt ≤ (f5 i.toNatClampNeg).toInt := h _ (gN_0 h0 hi hs)
theorem nc_eq {x y : Int32} (e : x.toInt = y.toInt) : x.toNatClampNeg = y.toNatClampNeg := by rw [Int32.toInt_inj.mp e]
theorem mn_lo {p q : Int} : loI p q = mnZ p q := rfl
theorem sni_f (h : snI (kF f5) (kF f6) (gN N.toNatClampNeg (gF fs)) (nF fs) (nF fe) f4 f X.toNatClampNeg Y.toNatClampNeg a lf.toInt i.toNatClampNeg) : f i.toNatClampNeg = f4 i.toNatClampNeg := h.2.2 _ (Nat.le_refl _)
theorem snC_fo (h : snI (kF f5) (kF f6) (gN N.toNatClampNeg (gF fs)) (nF fs) (nF fe) f4 f X.toNatClampNeg Y.toNatClampNeg a lf.toInt i.toNatClampNeg) (h0 : 0 ≤ i.toInt) (hi : i.toInt < N.toInt) (hX : 0 ≤ X.toInt) (es : (fs i.toNatClampNeg).toInt = X.toInt) (ee : (fe i.toNatClampNeg).toInt = Y.toInt) (et : tk.toInt = mnZ lf.toInt ((f5 i.toNatClampNeg).toInt - (f4 i.toNatClampNeg).toInt)) (ev : v.toInt = (f4 i.toNatClampNeg).toInt + tk.toInt) (e : f2 = upd f i.toNatClampNeg v) (el : lf2.toInt = lf.toInt - tk.toInt) (ei : i2.toInt = i.toInt + 1) : snI (kF f5) (kF f6) (gN N.toNatClampNeg (gF fs)) (nF fs) (nF fe) f4 f2 X.toNatClampNeg Y.toNatClampNeg a lf2.toInt i2.toNatClampNeg := by
  have g0 := gN_0 (fs := fs) h0 hi (by omega)
  have m : nF fs i.toNatClampNeg = X.toNatClampNeg ∧ nF fe i.toNatClampNeg = Y.toNatClampNeg := ⟨nc_eq es, nc_eq ee⟩
  have l1 : lfZ (kF f5) (kF f6) (gN N.toNatClampNeg (gF fs)) (nF fs) (nF fe) (kF f4) X.toNatClampNeg Y.toNatClampNeg i.toNatClampNeg = (f5 i.toNatClampNeg).toInt - (f4 i.toNatClampNeg).toInt := by
    unfold lfZ
    rw [if_neg (fun q => q g0), if_pos m]
    rfl
  refine snI_st h h0 ei e ?_ ?_
  · rw [l1, ← et]
    unfold fwZ
    rw [if_neg (fun q => q g0), if_pos m]
    exact ev
  · rw [l1, ← et]
    exact el
theorem snC_bk (h : snI (kF f5) (kF f6) (gN N.toNatClampNeg (gF fs)) (nF fs) (nF fe) f4 f X.toNatClampNeg Y.toNatClampNeg a lf.toInt i.toNatClampNeg) (h0 : 0 ≤ i.toInt) (hi : i.toInt < N.toInt) (hX : 0 ≤ X.toInt) (hY : 0 ≤ Y.toInt) (hn : X.toInt ≠ Y.toInt) (es : (fs i.toNatClampNeg).toInt = Y.toInt) (ee : (fe i.toNatClampNeg).toInt = X.toInt) (et : tk.toInt = mnZ lf.toInt ((f6 i.toNatClampNeg).toInt + (f4 i.toNatClampNeg).toInt)) (ev : v.toInt = (f4 i.toNatClampNeg).toInt - tk.toInt) (e : f2 = upd f i.toNatClampNeg v) (el : lf2.toInt = lf.toInt - tk.toInt) (ei : i2.toInt = i.toInt + 1) : snI (kF f5) (kF f6) (gN N.toNatClampNeg (gF fs)) (nF fs) (nF fe) f4 f2 X.toNatClampNeg Y.toNatClampNeg a lf2.toInt i2.toNatClampNeg := by
  have g0 := gN_0 (fs := fs) h0 hi (by omega)
  have m : nF fs i.toNatClampNeg = Y.toNatClampNeg ∧ nF fe i.toNatClampNeg = X.toNatClampNeg := ⟨nc_eq es, nc_eq ee⟩
  have m0 : ¬ (nF fs i.toNatClampNeg = X.toNatClampNeg ∧ nF fe i.toNatClampNeg = Y.toNatClampNeg) := fun q => nc_ne hX hY hn (q.1.symm.trans m.1)
  have l1 : lfZ (kF f5) (kF f6) (gN N.toNatClampNeg (gF fs)) (nF fs) (nF fe) (kF f4) X.toNatClampNeg Y.toNatClampNeg i.toNatClampNeg = (f6 i.toNatClampNeg).toInt + (f4 i.toNatClampNeg).toInt := by
    unfold lfZ
    rw [if_neg (fun q => q g0), if_neg m0, if_pos m]
    rfl
  refine snI_st h h0 ei e ?_ ?_
  · rw [l1, ← et]
    unfold fwZ
    rw [if_neg (fun q => q g0), if_neg m0, if_pos m]
    exact ev
  · rw [l1, ← et]
    exact el
theorem snC_no (h : snI (kF f5) (kF f6) (gN N.toNatClampNeg (gF fs)) (nF fs) (nF fe) f4 f X.toNatClampNeg Y.toNatClampNeg a lf.toInt i.toNatClampNeg) (hp : prng fs fe 40) (h0 : 0 ≤ i.toInt) (hi : i.toInt < N.toInt) (hN : N.toInt ≤ 40) (hX : 0 ≤ X.toInt) (hY : 0 ≤ Y.toInt) (hl : 0 ≤ lf.toInt) (n1 : (fs i.toNatClampNeg).toInt ≠ X.toInt ∨ (fe i.toNatClampNeg).toInt ≠ Y.toInt) (n2 : (fs i.toNatClampNeg).toInt ≠ Y.toInt ∨ (fe i.toNatClampNeg).toInt ≠ X.toInt) (ei : i2.toInt = i.toInt + 1) : snI (kF f5) (kF f6) (gN N.toNatClampNeg (gF fs)) (nF fs) (nF fe) f4 f X.toNatClampNeg Y.toNatClampNeg a lf.toInt i2.toNatClampNeg := by
  have c1 := clI (i := i) h0
  refine snI_no h h0 ei hl ?_
  by_cases g0 : gN N.toNatClampNeg (gF fs) i.toNatClampNeg = 0
  · refine Or.inr ?_
    have ms : (fs i.toNatClampNeg).toInt ≠ -9 := fun q => by
      have c2 := clI (i := N) (by omega)
      unfold gN gF gI at g0
      rw [if_pos (by omega), if_pos q] at g0
      omega
    have b := hp i.toNatClampNeg (by omega)
    have k1 := clI (i := fs i.toNatClampNeg) (by omega)
    have k2 := clI (i := fe i.toNatClampNeg) (by omega)
    have k3 := clI (i := X) hX
    have k4 := clI (i := Y) hY
    unfold nF
    exact ⟨fun q => by omega, fun q => by omega⟩
  · exact Or.inl g0
end CSN
/-! ===== along the way: the least room, and sending it ===== -/
section WAYS
variable {r1 r0 g : Nat → Int} {st en : Nat → Nat} {N P s t : Nat} {M M2 : Nat → Nat → Int} {c : Nat → Nat}
noncomputable def lwI (M : Nat → Nat → Int) (c : Nat → Nat) (s t n y : Nat) (a : Int) : Prop := y = psW c t n ∧ (∀ i : Nat, i < n → psW c t i ≠ s) ∧ (∀ i : Nat, i < n → a ≤ M (psW c t (i + 1)) (psW c t i)) ∧ ((n = 0 ∧ 160000000 ≤ a) ∨ ∃ i : Nat, i < n ∧ a = M (psW c t (i + 1)) (psW c t i))
theorem lwI_0 {a : Int} (h : 160000000 ≤ a) : lwI M c s t (0 : Int32).toNatClampNeg t a := by
  rw [cl_0]
  exact ⟨rfl, fun i hi => absurd hi (Nat.not_lt_zero i), fun i hi => absurd hi (Nat.not_lt_zero i), Or.inl ⟨rfl, h⟩⟩
theorem lwI_0n {a : Int} (h : 160000000 ≤ a) : lwI M c s t 0 t a := ⟨rfl, fun i hi => absurd hi (Nat.not_lt_zero i), fun i hi => absurd hi (Nat.not_lt_zero i), Or.inl ⟨rfl, h⟩⟩
theorem lwI_s {n y x : Nat} {a a2 : Int} (h : lwI M c s t n y a) (hy : y ≠ s) (ex : x = c y) (hb : M x y ≤ 160000000) (h1 : a2 ≤ a) (h2 : a2 ≤ M x y) (h3 : a2 = a ∨ a2 = M x y) : lwI M c s t (n + 1) x a2 := by
  obtain ⟨b1, b2, b3, b4⟩ := h
  have ex' : x = psW c t (n + 1) := by
    rw [ex, b1]
    rfl
  refine ⟨ex', fun i hi => ?_, fun i hi => ?_, Or.inr ?_⟩
  · by_cases q : i = n
    · rw [q, ← b1]
      exact hy
    · exact b2 i (by omega)
  · by_cases q : i = n
    · rw [q, ← b1, ← ex']
      exact h2
    · exact Int.le_trans h1 (b3 i (by omega))
  · by_cases w : a2 = M x y
    · exact ⟨n, by omega, by rw [← b1, ← ex']; exact w⟩
    · have w2 : a2 = a := by omega
      rcases b4 with q | ⟨i, hi, q⟩
      · omega
      · exact ⟨i, by omega, by rw [w2]; exact q⟩
theorem lwI_st {y x n n2 : Int32} {f8 : Nat → Int32} {a a2 : Int} (h : lwI M (nF f8) s t n.toNatClampNeg y.toNatClampNeg a) (hn : 0 ≤ n.toInt) (hy : y.toNatClampNeg ≠ s) (ex : x = f8 y.toNatClampNeg) (e2 : n2.toInt = n.toInt + 1) (hb : M x.toNatClampNeg y.toNatClampNeg ≤ 160000000) (h1 : a2 ≤ a) (h2 : a2 ≤ M x.toNatClampNeg y.toNatClampNeg) (h3 : a2 = a ∨ a2 = M x.toNatClampNeg y.toNatClampNeg) : lwI M (nF f8) s t n2.toNatClampNeg x.toNatClampNeg a2 := by
  have c1 := clI (i := n) hn
  have c2 := clI (i := n2) (by omega)
  rw [show n2.toNatClampNeg = n.toNatClampNeg + 1 by omega]
  exact lwI_s h hy (by rw [ex]; rfl) hb h1 h2 h3
theorem lwI_end {n y : Nat} {a : Int} (h : lwI M c s t n y a) (hy : y = s) (ht : t ≠ s) : wyN c s t n ∧ lrW M c t n a := by
  obtain ⟨b1, b2, b3, b4⟩ := h
  refine ⟨⟨b1.symm.trans hy, b2⟩, b3, ?_⟩
  rcases b4 with q | q
  · exfalso
    rw [q.1] at b1
    exact ht (by rw [← hy, b1]; rfl)
  · exact q
theorem wyN_un {n m : Nat} (h1 : wyN c s t n) (h2 : wyN c s t m) : n = m := by
  rcases Nat.lt_trichotomy n m with w | w | w
  · exact absurd h1.1 (h2.2 n w)
  · exact w
  · exact absurd h2.1 (h1.2 m w)
/-- rooms tell what lines let more -/
noncomputable def rmE (r1 r0 g : Nat → Int) (st en : Nat → Nat) (N P : Nat) (M : Nat → Nat → Int) (F : Nat → Int) : Prop := ∀ u v : Nat, u < P → v < P → M u v = rmF r1 r0 g st en N F u v
noncomputable def swI (r1 r0 g : Nat → Int) (st en : Nat → Nat) (N : Nat) (c : Nat → Nat) (s t : Nat) (a : Int) (F0 F : Nat → Int) (n y : Nat) : Prop := y = psW c t n ∧ (∀ i : Nat, i < n → psW c t i ≠ s) ∧ ∀ l : Nat, l < N → F l = flW r1 r0 g st en c t a F0 n l
theorem swI_0 {a : Int} {F : Nat → Int} : swI r1 r0 g st en N c s t a F F (0 : Int32).toNatClampNeg t := by
  rw [cl_0]
  exact ⟨rfl, fun i hi => absurd hi (Nat.not_lt_zero i), fun _ _ => rfl⟩
theorem swI_0n {a : Int} {F : Nat → Int} : swI r1 r0 g st en N c s t a F F 0 t := ⟨rfl, fun i hi => absurd hi (Nat.not_lt_zero i), fun _ _ => rfl⟩
theorem swI_s {n y x : Nat} {a : Int} {F0 F F2 : Nat → Int} (h : swI r1 r0 g st en N c s t a F0 F n y) (hy : y ≠ s) (ex : x = c y) (hF : ∀ l : Nat, l < N → F2 l = snF r1 r0 g st en F x y a l) : swI r1 r0 g st en N c s t a F0 F2 (n + 1) x := by
  obtain ⟨b1, b2, b3⟩ := h
  have ex' : x = psW c t (n + 1) := by
    rw [ex, b1]
    rfl
  refine ⟨ex', fun i hi => ?_, fun l hl => ?_⟩
  · by_cases q : i = n
    · rw [q, ← b1]
      exact hy
    · exact b2 i (by omega)
  · rw [hF l hl]
    show _ = snF r1 r0 g st en (flW r1 r0 g st en c t a F0 n) (psW c t (n + 1)) (psW c t n) a l
    rw [← ex', ← b1]
    exact snF_cg (fun j hj => ⟨lnS_rfl, b3 j (by omega)⟩)
theorem swI_st {y x n n2 : Int32} {f8 : Nat → Int32} {a : Int} {F0 F F2 : Nat → Int} (h : swI r1 r0 g st en N (nF f8) s t a F0 F n.toNatClampNeg y.toNatClampNeg) (hn : 0 ≤ n.toInt) (hy : y.toNatClampNeg ≠ s) (ex : x = f8 y.toNatClampNeg) (e2 : n2.toInt = n.toInt + 1) (hF : ∀ l : Nat, l < N → F2 l = snF r1 r0 g st en F x.toNatClampNeg y.toNatClampNeg a l) : swI r1 r0 g st en N (nF f8) s t a F0 F2 n2.toNatClampNeg x.toNatClampNeg := by
  have c1 := clI (i := n) hn
  have c2 := clI (i := n2) (by omega)
  rw [show n2.toNatClampNeg = n.toNatClampNeg + 1 by omega]
  exact swI_s h hy (by rw [ex]; rfl) hF
theorem swI_end {n y : Nat} {a : Int} {F0 F : Nat → Int} (h : swI r1 r0 g st en N c s t a F0 F n y) (hy : y = s) : wyN c s t n ∧ ∀ l : Nat, l < N → F l = flW r1 r0 g st en c t a F0 n l := ⟨⟨h.1.symm.trans hy, h.2.1⟩, h.2.2⟩
/-- what one way has sent -/
noncomputable def wyF (r1 r0 g : Nat → Int) (st en : Nat → Nat) (N : Nat) (c : Nat → Nat) (s t : Nat) (a : Int) (F F2 : Nat → Int) : Prop := ∃ n : Nat, wyN c s t n ∧ lrW (rmF r1 r0 g st en N F) c t n a ∧ ∀ l : Nat, l < N → F2 l = flW r1 r0 g st en c t a F n l
theorem wyF_mk {n1 n2 : Nat} {a : Int} {F F2 : Nat → Int} (h1 : wyN c s t n1 ∧ lrW (rmF r1 r0 g st en N F) c t n1 a) (h2 : wyN c s t n2 ∧ ∀ l : Nat, l < N → F2 l = flW r1 r0 g st en c t a F n2 l) : wyF r1 r0 g st en N c s t a F F2 := by
  have e := wyN_un h1.1 h2.1
  subst e
  exact ⟨n1, h1.1, h1.2, h2.2⟩
theorem ch_way {k : Nat} {a : Int} {F F2 : Nat → Int} (h : chF r1 r0 g st en N P s t k F) (hM : rmE r1 r0 g st en N P M F) (hs : s < P) (hf : fndR (rB M 1) P s t c) (hw : wyF r1 r0 g st en N c s t a F F2) : chF r1 r0 g st en N P s t (k + 1) F2 := by
  obtain ⟨n, w1, w2, w3⟩ := hw
  refine chF.step h ⟨c, n, a, fnd_cg hs (fun x y hx hy => ?_) hf, w1, w2, w3⟩
  unfold rB
  rw [hM x y hx hy]
theorem ch_end {k : Nat} {F : Nat → Int} (h : chF r1 r0 g st en N P s t k F) (hM : rmE r1 r0 g st en N P M F) (hs : s < P) (hn : ndR (rB M 1) P s t) : enF r1 r0 g st en N P s t F := by
  refine ⟨⟨k, h⟩, nd_cg hs (fun x y hx hy => ?_) hn⟩
  unfold rB
  rw [hM x y hx hy]
/-- rooms behind one pair -/
theorem rmE_st {x y : Nat} {a : Int} {F F2 : Nat → Int} (h : rmE r1 r0 g st en N P M F) (hk : flK r1 r0 g F) (hse : ∀ l : Nat, g l = 0 → st l ≠ en l) (hx : x < P) (hy : y < P) (ha : 1 ≤ a) (hle : a ≤ M x y) (he : edg M M2 x y a) (hF : ∀ l : Nat, l < N → F2 l = snF r1 r0 g st en F x y a l) : rmE r1 r0 g st en N P M2 F2 := fun u v hu hv => by
  have hxy : x ≠ y := fun q => by
    rw [h x y hx hy, q, rmF_diag hse] at hle
    omega
  rw [he u v, h u v hu hv]
  rw [h x y hx hy] at hle
  exact (sn_rm hk hxy (by omega) hle hse hF u v).symm
theorem rmE_ne {x y : Nat} {F : Nat → Int} (h : rmE r1 r0 g st en N P M F) (hse : ∀ l : Nat, g l = 0 → st l ≠ en l) (hx : x < P) (hy : y < P) (h1 : 1 ≤ M x y) : x ≠ y := fun q => by
  rw [h x y hx hy, q, rmF_diag hse] at h1
  omega
end WAYS
theorem gN_hN {N : Nat} {g : Nat → Int} {l : Nat} (h : gN N g l = 0) : l < N ∧ g l = 0 := by
  unfold gN at h
  by_cases q : l < N
  · rw [if_pos q] at h
    exact ⟨q, h⟩
  · rw [if_neg q] at h
    omega
theorem se_C {N : Int32} {fs fe : Nat → Int32} (h : netDC N.toInt fs fe) (hp : prng fs fe 40) (hN : 0 ≤ N.toInt ∧ N.toInt ≤ 40) : ∀ l : Nat, gN N.toNatClampNeg (gF fs) l = 0 → nF fs l ≠ nF fe l := fun l hl => by
  have q := gN_hN hl
  have c := clI (i := N) hN.1
  have ms : (fs l).toInt ≠ -9 := fun w => by
    have := q.2
    unfold gF gI at this
    rw [if_pos w] at this
    omega
  have a := h l (by omega) ms
  have b := hp l (by omega)
  have k1 := clI (i := fs l) (by omega)
  have k2 := clI (i := fe l) (by omega)
  unfold nF
  omega
/-- behind load(): nothing flows -/
theorem rmE_0 {M : Nat → Nat → Int32} {P N : Int32} {fk fs fe fw f5 f6 : Nat → Int32} {F : Nat → Int} {r : Int} (h : mtx M P.toInt fk fs fe fw r N.toNatClampNeg) (hl : ltF f5 f6 fk fs fw r N.toNatClampNeg) (hse : ∀ l : Nat, gN N.toNatClampNeg (gF fs) l = 0 → nF fs l ≠ nF fe l) (hP : 0 ≤ P.toInt ∧ P.toInt ≤ 12) (hz : ∀ l : Nat, l < N.toNatClampNeg → F l = 0) : rmE (kF f5) (kF f6) (gN N.toNatClampNeg (gF fs)) (nF fs) (nF fe) N.toNatClampNeg P.toNatClampNeg (zM M) F := fun x y hx hy => by
  have c := clI (i := P) hP.1
  show (M x y).toInt = _
  rw [h x y (by omega) (by omega)]
  refine sumI_congr _ (fun l hl' => ?_)
  have gg : gN N.toNatClampNeg (gF fs) l = gF fs l := if_pos hl'
  unfold mlI lfZ
  rw [gg, hz l hl']
  by_cases z : gF fs l = 0
  · have ms : (fs l).toInt ≠ -9 := fun w => by
      unfold gF gI at z
      rw [if_pos w] at z
      omega
    have b := hl l hl' ms
    have d := hse l (by rw [gg]; exact z)
    have nz : ¬ gF fs l ≠ 0 := fun q => q z
    rw [if_neg nz, if_neg nz]
    unfold kF at b ⊢
    by_cases p : nF fs l = x ∧ nF fe l = y
    · rw [if_pos p, if_pos p, if_neg (fun q => d (by omega)), b.1]
      omega
    · rw [if_neg p, if_neg p]
      by_cases p2 : nF fs l = y ∧ nF fe l = x
      · rw [if_pos ⟨p2.2, p2.1⟩, if_pos p2, b.2]
        omega
      · rw [if_neg (fun q => p2 ⟨q.2, q.1⟩), if_neg p2]
        rfl
  · rw [if_pos z, if_pos z]
theorem flK_0 {N : Int32} {fk fs fw f5 f6 : Nat → Int32} {F : Nat → Int} {r : Int} (hl : ltF f5 f6 fk fs fw r N.toNatClampNeg) (hw : rng fw 40 0 2000) (hN : 0 ≤ N.toInt ∧ N.toInt ≤ 40) (hz : ∀ l : Nat, l < N.toNatClampNeg → F l = 0) : flK (kF f5) (kF f6) (gN N.toNatClampNeg (gF fs)) F := fun l z => by
  have q := gN_hN z
  have c := clI (i := N) hN.1
  have ms : (fs l).toInt ≠ -9 := fun w => by
    have := q.2
    unfold gF gI at this
    rw [if_pos w] at this
    omega
  have b := hl l q.1 ms
  have w := wF_rng (r := r) hw (j := l) (by omega)
  have k1 := rmW_rng (k := kF fk l) (b := 1) w.1 w.2
  have k0 := rmW_rng (k := kF fk l) (b := 0) w.1 w.2
  have e := hz l q.1
  unfold kF at *
  omega
/-- lines as the class has them loaded, and as they are -/
theorem lnS_C {N : Int32} {fk fs fe fw f5 f6 : Nat → Int32} {r : Int} (hl : ltF f5 f6 fk fs fw r N.toNatClampNeg) : ∀ l : Nat, l < N.toNatClampNeg → lnS (kF f5) (kF f6) (gN N.toNatClampNeg (gF fs)) (nF fs) (nF fe) (fun l => rmW (kF fk l) (wF fw r l) 1) (fun l => rmW (kF fk l) (wF fw r l) 0) (gN N.toNatClampNeg (gF fs)) (nF fs) (nF fe) l := fun l hl' => by
  refine ⟨Iff.rfl, fun z => ?_⟩
  have q := gN_hN z
  have ms : (fs l).toInt ≠ -9 := fun w => by
    have := q.2
    unfold gF gI at this
    rw [if_pos w] at this
    omega
  have b := hl l hl' ms
  exact ⟨b.1, b.2, rfl, rfl⟩
/-- what flow() answers -/
noncomputable def flA (C : (Nat → Bool) → Int) (E : (Nat → Int) → Prop) (s t l : Nat) (r : Int) : Prop := ∃ m : Int, mostR C s t m ∧ (m = -5 → r = -1000000) ∧ (m ≠ -5 → ∃ F : Nat → Int, E F ∧ r = F l)
theorem flA_no {C : (Nat → Bool) → Int} {E : (Nat → Int) → Prop} {s t l : Nat} {r m : Int} (h : mostR C s t m) (hm : m = -5) (hr : r = -1000000) : flA C E s t l r := ⟨m, h, fun _ => hr, fun q => absurd hm q⟩
theorem flA_yes {C : (Nat → Bool) → Int} {E : (Nat → Int) → Prop} {s t l : Nat} {r m : Int} {F : Nat → Int} (h : mostR C s t m) (hm : m ≠ -5) (hE : E F) (hr : r = F l) : flA C E s t l r := ⟨m, h, fun q => absurd q hm, fun _ => ⟨F, hE, hr⟩⟩
/-! ===== the reference's lines ===== -/
section REFL
variable {f5 f6 f7 f8 f10 F f f2 c0 : Nat → Int32} {N : Int32}
theorem lfI_Z {n l x y : Nat} (hl : l < n) (h6 : 0 ≤ (f6 l).toInt) (h7 : 0 ≤ (f7 l).toInt) : lfI f5 f6 f7 f8 f10 F (x : Int) (y : Int) l = lfZ (fun l => rmI (f5 l) (f8 l) 1) (fun l => rmI (f5 l) (f8 l) 0) (gN n (kF f10)) (nF f6) (nF f7) (kF F) x y l := by
  have c6 := clI h6
  have c7 := clI h7
  have e1 : ((f6 l).toInt = (x : Int) ∧ (f7 l).toInt = (y : Int)) ↔ (nF f6 l = x ∧ nF f7 l = y) := by
    unfold nF
    omega
  have e2 : ((f6 l).toInt = (y : Int) ∧ (f7 l).toInt = (x : Int)) ↔ (nF f6 l = y ∧ nF f7 l = x) := by
    unfold nF
    omega
  unfold lfI lfZ gN kF
  rw [if_pos hl]
  simp only [e1, e2]
theorem lfI_ZI {n l : Nat} {X Y : Int32} (hl : l < n) (h6 : 0 ≤ (f6 l).toInt) (h7 : 0 ≤ (f7 l).toInt) (hX : 0 ≤ X.toInt) (hY : 0 ≤ Y.toInt) : lfI f5 f6 f7 f8 f10 F X.toInt Y.toInt l = lfZ (fun l => rmI (f5 l) (f8 l) 1) (fun l => rmI (f5 l) (f8 l) 0) (gN n (kF f10)) (nF f6) (nF f7) (kF F) X.toNatClampNeg Y.toNatClampNeg l := by
  have h := lfI_Z (f5 := f5) (f8 := f8) (f10 := f10) (F := F) (x := X.toNatClampNeg) (y := Y.toNatClampNeg) hl h6 h7
  rw [clI hX, clI hY] at h
  exact h
theorem rmF_lo {X Y : Int32} (r6 : rng f6 40 0 11) (r7 : rng f7 40 0 11) (hN : 0 ≤ N.toInt ∧ N.toInt ≤ 40) (hX : 0 ≤ X.toInt) (hY : 0 ≤ Y.toInt) : rmF (fun l => rmI (f5 l) (f8 l) 1) (fun l => rmI (f5 l) (f8 l) 0) (gN N.toNatClampNeg (kF f10)) (nF f6) (nF f7) N.toNatClampNeg (kF F) X.toNatClampNeg Y.toNatClampNeg = sumI (lfI f5 f6 f7 f8 f10 F X.toInt Y.toInt) N.toNatClampNeg := by
  have c := clI (i := N) hN.1
  exact (sumI_congr _ (fun l hl => lfI_ZI hl (r6 l (by omega)).1 (r7 l (by omega)).1 hX hY)).symm
theorem rf_eq (r6 : rng f6 40 0 11) (r7 : rng f7 40 0 11) (hN : 0 ≤ N.toInt ∧ N.toInt ≤ 40) : (fun x y : Nat => 1 ≤ sumI (lfI f5 f6 f7 f8 f10 F (x : Int) (y : Int)) N.toNatClampNeg) = rB (rmF (fun l => rmI (f5 l) (f8 l) 1) (fun l => rmI (f5 l) (f8 l) 0) (gN N.toNatClampNeg (kF f10)) (nF f6) (nF f7) N.toNatClampNeg (kF F)) 1 := by
  have c := clI (i := N) hN.1
  funext x y
  unfold rB rmF
  rw [sumI_congr (g := lfI f5 f6 f7 f8 f10 F (x : Int) (y : Int)) N.toNatClampNeg (fun l hl => lfI_Z hl (r6 l (by omega)).1 (r7 l (by omega)).1)]
theorem lo_bd {x y : Int} (h : flOK f5 f8 F) (hr : rng f8 40 0 2000) (hN : 0 ≤ N.toInt ∧ N.toInt ≤ 40) : sumI (lfI f5 f6 f7 f8 f10 F x y) N.toNatClampNeg ≤ 160000000 := by
  have c := clI (i := N) hN.1
  have b := sumI_rng (g := lfI f5 f6 f7 f8 f10 F x y) (B := 2000000) N.toNatClampNeg (fun j hj => lfI_rng h hr (by omega) x y)
  omega
theorem flK_R (h : flOK f5 f8 F) (hr : rng f8 40 0 2000) (hN : 0 ≤ N.toInt ∧ N.toInt ≤ 40) : flK (fun l => rmI (f5 l) (f8 l) 1) (fun l => rmI (f5 l) (f8 l) 0) (gN N.toNatClampNeg (kF f10)) (kF F) := fun l z => by
  have c := clI (i := N) hN.1
  have q := gN_hN z
  have b := hr l (by omega)
  exact ⟨rmI_rng b.1 b.2, rmI_rng b.1 b.2, h l (by omega)⟩
theorem snR_st {i i2 v X Y : Int32} {a left left2 t : Int} (h : snI (fun l => rmI (f5 l) (f8 l) 1) (fun l => rmI (f5 l) (f8 l) 0) (gN N.toNatClampNeg (kF f10)) (nF f6) (nF f7) c0 f X.toNatClampNeg Y.toNatClampNeg a left i.toNatClampNeg) (r6 : rng f6 40 0 11) (r7 : rng f7 40 0 11) (hN : 0 ≤ N.toInt ∧ N.toInt ≤ 40) (h0 : 0 ≤ i.toInt) (hi : i.toInt < N.toInt) (hX : 0 ≤ X.toInt) (hY : 0 ≤ Y.toInt)
    (hm : t ≤ lfI f5 f6 f7 f8 f10 f X.toInt Y.toInt i.toNatClampNeg ∧ t ≤ left ∧ (t = lfI f5 f6 f7 f8 f10 f X.toInt Y.toInt i.toNatClampNeg ∨ t = left))
    (hv : v.toInt = (f i.toNatClampNeg).toInt + (if (f10 i.toNatClampNeg).toInt ≠ 0 then 0 else if (f6 i.toNatClampNeg).toInt = X.toInt ∧ (f7 i.toNatClampNeg).toInt = Y.toInt then t else if (f6 i.toNatClampNeg).toInt = Y.toInt ∧ (f7 i.toNatClampNeg).toInt = X.toInt then -t else 0)) (e : f2 = upd f i.toNatClampNeg v) (el : left2 = left - t) (ei : i2.toInt = i.toInt + 1) : snI (fun l => rmI (f5 l) (f8 l) 1) (fun l => rmI (f5 l) (f8 l) 0) (gN N.toNatClampNeg (kF f10)) (nF f6) (nF f7) c0 f2 X.toNatClampNeg Y.toNatClampNeg a left2 i2.toNatClampNeg := by
  have cN := clI (i := N) hN.1
  have ci := clI (i := i) h0
  have b6 := r6 i.toNatClampNeg (by omega)
  have b7 := r7 i.toNatClampNeg (by omega)
  have ef : f i.toNatClampNeg = c0 i.toNatClampNeg := h.2.2 _ (Nat.le_refl _)
  have el2 : lfI f5 f6 f7 f8 f10 f X.toInt Y.toInt i.toNatClampNeg = lfI f5 f6 f7 f8 f10 c0 X.toInt Y.toInt i.toNatClampNeg := lfI_same (fun _ => ef)
  have eZ := lfI_ZI (f5 := f5) (f8 := f8) (f10 := f10) (F := c0) (n := N.toNatClampNeg) (l := i.toNatClampNeg) (by omega) b6.1 b7.1 hX hY
  rw [el2, eZ] at hm
  have et : t = mnZ left (lfZ (fun l => rmI (f5 l) (f8 l) 1) (fun l => rmI (f5 l) (f8 l) 0) (gN N.toNatClampNeg (kF f10)) (nF f6) (nF f7) (kF c0) X.toNatClampNeg Y.toNatClampNeg i.toNatClampNeg) := by
    unfold mnZ
    split <;> omega
  refine snI_st h h0 ei e ?_ (by rw [← et]; exact el)
  rw [← et, hv, ef]
  have cX := clI hX
  have cY := clI hY
  have c6 := clI b6.1
  have c7 := clI b7.1
  have gg : gN N.toNatClampNeg (kF f10) i.toNatClampNeg = (f10 i.toNatClampNeg).toInt := if_pos (by omega)
  have e1 : ((f6 i.toNatClampNeg).toInt = X.toInt ∧ (f7 i.toNatClampNeg).toInt = Y.toInt) ↔ (nF f6 i.toNatClampNeg = X.toNatClampNeg ∧ nF f7 i.toNatClampNeg = Y.toNatClampNeg) := by
    unfold nF
    omega
  have e2 : ((f6 i.toNatClampNeg).toInt = Y.toInt ∧ (f7 i.toNatClampNeg).toInt = X.toInt) ↔ (nF f6 i.toNatClampNeg = Y.toNatClampNeg ∧ nF f7 i.toNatClampNeg = X.toNatClampNeg) := by
    unfold nF
    omega
  unfold fwZ
  rw [gg]
  simp only [e1, e2]
  show (c0 i.toNatClampNeg).toInt + _ = _
  unfold kF
  (repeat' split) <;> omega
theorem flA_noR {C : (Nat → Bool) → Int} {E : (Nat → Int) → Prop} {s t l : Nat} {r : Int} {a : Int32} (h : mstM C s t a.toInt) (h0 : ∀ S : Nat → Bool, 0 ≤ C S) (hm : a.toInt = 1000000) (hr : r = -1000000) : flA C E s t l r := flA_no (mst_told (r := (-5)) h h0 (by rw [if_pos hm]; decide)) (by decide) hr
theorem flA_yesR {C : (Nat → Bool) → Int} {E : (Nat → Int) → Prop} {s t l : Nat} {r : Int} {a : Int32} {F : Nat → Int} (h : mstM C s t a.toInt) (h0 : ∀ S : Nat → Bool, 0 ≤ C S) (hm : a.toInt ≠ 1000000) (hE : E F) (hr : r = F l) : flA C E s t l r := by
  have w := mst_told (r := a) h h0 (by rw [if_neg hm])
  refine flA_yes w (fun q => ?_) hE hr
  rcases w with w | w
  · obtain ⟨_, b, _⟩ := h
    rcases b with b | ⟨S, _, b⟩
    · exact hm b
    · have z := h0 S
      unfold mn6 at b
      split at b <;> omega
  · omega
end REFL
theorem rmI_W {k w b : Int32} (h0 : 0 ≤ w.toInt) : rmI k w b = rmW k.toInt w.toInt b.toInt := by
  have i1 : ∀ x y : Int32, x = y ↔ x.toInt = y.toInt := fun x y => Int32.toInt_inj.symm
  have z2 : (2 : Int32).toInt = 2 := by decide
  have z1 : (1 : Int32).toInt = 1 := by decide
  have z0 : (0 : Int32).toInt = 0 := by decide
  have z5 : ((-5) : Int32).toInt = -5 := by decide
  unfold rmI ml_lets rmW
  by_cases h : k = 2
  · rw [if_pos h, if_pos rfl, if_pos (by rw [h, z2])]
  · have h' : ¬ k.toInt = 2 := fun q => h ((i1 _ _).mpr (q.trans z2.symm))
    rw [if_neg h, if_neg h']
    by_cases p : k = 1 ∧ b = 0
    · have p' : k.toInt = 1 ∧ b.toInt = 0 := ⟨by rw [p.1, z1], by rw [p.2, z0]⟩
      rw [if_pos p, if_pos p', if_neg (by decide), z0]
    · have p' : ¬ (k.toInt = 1 ∧ b.toInt = 0) := fun q => p ⟨(i1 _ _).mpr (q.1.trans z1.symm), (i1 _ _).mpr (q.2.trans z0.symm)⟩
      rw [if_neg p, if_neg p', if_neg (fun q => by rw [q, z5] at h0; omega)]
/-! ===== cheapest: what potentials tell ===== -/
noncomputable def wP (pi : Nat → Int) (x y : Nat) : Int := if pi x < pi y then pi y - pi x else 0
noncomputable def mx0 (a : Int) : Int := if 0 < a then a else 0
theorem wP_nn {pi : Nat → Int} {x y : Nat} : 0 ≤ wP pi x y := by
  unfold wP
  split <;> omega
theorem wP_df {pi : Nat → Int} {x y : Nat} : wP pi x y - wP pi y x = pi y - pi x := by
  unfold wP
  (repeat' split) <;> omega
theorem wP_self {pi : Nat → Int} {x : Nat} : wP pi x x = 0 := by
  unfold wP
  rw [if_neg (by omega)]
/-- a step's costs: m rooms, m2 rooms back, p the price -/
noncomputable def arS (m m2 p : Int) : Int := if m2 < 0 then -p else if 0 < m then 0 else p
noncomputable def arM (m m2 : Int) : Int := if m2 < 0 then -m2 else if 0 < m then m else 1000000000
/-- rooms and a price (1000000000: none) that go together -/
noncomputable def arK (m m2 p : Int) : Prop := 0 ≤ m + m2 ∧ 0 ≤ p ∧ (1000000000 ≤ p → 0 ≤ m ∧ 0 ≤ m2)
/-- the places' difference d is as the steps cost, both ways -/
noncomputable def arP (m m2 p d : Int) : Prop := (arS m m2 p < 1000000000 → d ≤ arS m m2 p) ∧ (arS m2 m p < 1000000000 → -d ≤ arS m2 m p)
theorem ar_push {m m2 p d a : Int} (hk : arK m m2 p) (hp : p ≤ 1000000000) (ht : d = arS m m2 p) (hf : arS m m2 p < 1000000000) (h1 : 1 ≤ a) (ha : a ≤ arM m m2) : arK (m - a) (m2 + a) p ∧ arP (m - a) (m2 + a) p d := by
  unfold arK at hk
  unfold arS at ht hf
  unfold arM at ha
  unfold arK arP arS
  by_cases z : m2 < 0
  · rw [if_pos z] at ht hf ha
    refine ⟨⟨by omega, by omega, fun h => by omega⟩, fun h => ?_, fun h => ?_⟩
    · (repeat' split) <;> omega
    · (repeat' split) <;> omega
  · rw [if_neg z] at ht hf ha
    by_cases y : 0 < m
    · rw [if_pos y] at ht hf ha
      refine ⟨⟨by omega, by omega, fun h => by omega⟩, fun h => ?_, fun h => ?_⟩
      · (repeat' split) <;> omega
      · (repeat' split) <;> omega
    · rw [if_neg y] at ht hf ha
      refine ⟨⟨by omega, by omega, fun h => by omega⟩, fun h => ?_, fun h => ?_⟩
      · (repeat' split) <;> omega
      · (repeat' split) <;> omega
/-- what is paid for one direction -/
noncomputable def arC (m p : Int) : Int := if p < 1000000000 then p * mx0 (-m) else 0
theorem ar_weak {m m2 p w : Int} (hk : arK m m2 p) (h0 : 0 ≤ w) (hw : p < 1000000000 → w ≤ p) : -(w * m) ≤ arC m p := by
  unfold arK at hk
  unfold arC mx0
  by_cases z : p < 1000000000
  · rw [if_pos z]
    by_cases q : 0 < -m
    · rw [if_pos q]
      have h := Int.mul_le_mul_of_nonneg_right (hw z) (show 0 ≤ -m by omega)
      rw [Int.mul_neg] at h
      exact h
    · rw [if_neg q]
      have h := Int.mul_nonneg h0 (show 0 ≤ m by omega)
      omega
  · rw [if_neg z]
    have h := Int.mul_nonneg h0 (show 0 ≤ m by omega)
    omega
theorem ar_strong {m m2 p d : Int} (hk : arK m m2 p) (hp : arP m m2 p d) : -((if 0 < d then d else 0) * m) = arC m p := by
  unfold arK at hk
  unfold arP arS at hp
  unfold arC mx0
  rcases Int.lt_trichotomy m 0 with q | q | q
  · have hf : p < 1000000000 := by omega
    have n2 : ¬ m2 < 0 := by omega
    have nm : ¬ 0 < m := by omega
    rw [if_neg n2, if_neg nm, if_pos q] at hp
    have e : d = p := by
      have a := hp.1 hf
      have b := hp.2 (by omega)
      omega
    rw [if_pos hf, if_pos (show 0 < -m by omega), e]
    by_cases z : 0 < p
    · rw [if_pos z, Int.mul_neg]
    · rw [if_neg z, show p = 0 by omega, Int.zero_mul, Int.zero_mul]
      rfl
  · rw [q, Int.mul_zero, if_neg (show ¬ (0 : Int) < -0 by omega), Int.mul_zero]
    split <;> rfl
  · have nd : ¬ 0 < d := by
      by_cases z : m2 < 0
      · rw [if_pos z] at hp
        have a := hp.1 (by omega)
        omega
      · rw [if_neg z, if_pos q] at hp
        have a := hp.1 (by omega)
        omega
    rw [if_neg nd, Int.zero_mul, if_neg (show ¬ (0 : Int) < -m by omega), Int.mul_zero]
    split <;> rfl
theorem ar_feas {m m2 p d : Int} (hk : arK m m2 p) (hp : arP m m2 p d) (hf : p < 1000000000) : d ≤ p ∧ -d ≤ p := by
  unfold arK at hk
  unfold arP arS at hp
  constructor
  · by_cases z : m2 < 0
    · rw [if_pos z] at hp
      have := hp.1 (by omega)
      omega
    · rw [if_neg z] at hp
      by_cases y : 0 < m
      · rw [if_pos y] at hp
        have := hp.1 (by omega)
        omega
      · rw [if_neg y] at hp
        exact hp.1 hf
  · by_cases z : m < 0
    · have := hp.2
      rw [if_pos z] at this
      have := this (by omega)
      omega
    · have := hp.2
      rw [if_neg z] at this
      by_cases y : 0 < m2
      · rw [if_pos y] at this
        have := this (by omega)
        omega
      · rw [if_neg y] at this
        exact this hf
/-! lines -/
section LINES
variable {r1 r0 g c : Nat → Int} {st en : Nat → Nat} {N s t : Nat} {k A : Int} {pi : Nat → Int}
noncomputable def dT (r1 r0 g : Nat → Int) (st en : Nat → Nat) (pi : Nat → Int) (l : Nat) : Int := if g l ≠ 0 then 0 else wP pi (st l) (en l) * r1 l + wP pi (en l) (st l) * r0 l
noncomputable def feas (g c : Nat → Int) (st en : Nat → Nat) (N : Nat) (pi : Nat → Int) : Prop := ∀ l : Nat, l < N → g l = 0 → c l ≠ -9 → pi (en l) - pi (st l) ≤ c l ∧ pi (st l) - pi (en l) ≤ c l
noncomputable def dlK (r1 r0 g : Nat → Int) (st en : Nat → Nat) (N s t : Nat) (k : Int) (pi : Nat → Int) : Int := k * (pi t - pi s) - sumI (dT r1 r0 g st en pi) N
/-- A is the greatest that potentials tell: the least that is to be paid -/
noncomputable def cstR (r1 r0 g c : Nat → Int) (st en : Nat → Nat) (N s t : Nat) (k A : Int) : Prop := (∃ pi : Nat → Int, feas g c st en N pi ∧ dlK r1 r0 g st en N s t k pi = A) ∧ ∀ pi : Nat → Int, feas g c st en N pi → dlK r1 r0 g st en N s t k pi ≤ A
noncomputable def cl1 (r1 r0 g : Nat → Int) (st en : Nat → Nat) (S : Nat → Bool) (l : Nat) : Int := if g l ≠ 0 then 0 else (if S (st l) = true ∧ S (en l) = false then r1 l else 0) + (if S (en l) = true ∧ S (st l) = false then r0 l else 0)
/-- no widening does: a set that no line crosses that can be wider -/
noncomputable def noR (r1 r0 g c : Nat → Int) (st en : Nat → Nat) (N s t : Nat) (k : Int) : Prop := ∃ S : Nat → Bool, sep s t S ∧ (∀ l : Nat, l < N → g l = 0 → c l ≠ -9 → S (st l) = S (en l)) ∧ sumI (cl1 r1 r0 g st en S) N < k
theorem cst_un {B : Int} (h1 : cstR r1 r0 g c st en N s t k A) (h2 : cstR r1 r0 g c st en N s t k B) : A = B := by
  obtain ⟨⟨p, f, e⟩, u⟩ := h1
  obtain ⟨⟨p2, f2, e2⟩, u2⟩ := h2
  have a := u p2 f2
  have b := u2 p f
  omega
theorem sumI_le {f h : Nat → Int} : ∀ n : Nat, (∀ j : Nat, j < n → f j ≤ h j) → sumI f n ≤ sumI h n
  | 0, _ => Int.le_refl 0
  | n + 1, e => by
    have a := sumI_le n (fun j hj => e j (by omega))
    have b := e n (by omega)
    show sumI f n + f n ≤ sumI h n + h n
    omega
theorem dT_up {S : Nat → Bool} {l : Nat} {q2 : Nat → Int} (hq : ∀ v : Nat, q2 v = if S v = true then pi v else pi v + 1) (h1 : g l = 0 → 0 ≤ r1 l ∧ 0 ≤ r0 l) : dT r1 r0 g st en q2 l ≤ dT r1 r0 g st en pi l + cl1 r1 r0 g st en S l := by
  unfold dT cl1
  by_cases z : g l = 0
  · have hr := h1 z
    rw [if_neg (fun q => q z), if_neg (fun q => q z), if_neg (fun q => q z)]
    have key : ∀ w w2 r : Int, 0 ≤ r → w2 ≤ w → w2 * r ≤ w * r := fun w w2 r h h' => Int.mul_le_mul_of_nonneg_right h' h
    have key1 : ∀ w w2 r : Int, 0 ≤ r → w2 ≤ w + 1 → w2 * r ≤ w * r + r := fun w w2 r h h' => by
      have q := Int.mul_le_mul_of_nonneg_right h' h
      rw [Int.add_mul, Int.one_mul] at q
      exact q
    by_cases p : S (st l) = true
    · by_cases q : S (en l) = true
      · have n1 : ¬ (S (st l) = true ∧ S (en l) = false) := fun w => by rw [q] at w; cases w.2
        have n2 : ¬ (S (en l) = true ∧ S (st l) = false) := fun w => by rw [p] at w; cases w.2
        rw [if_neg n1, if_neg n2]
        have a := key (wP pi (st l) (en l)) (wP q2 (st l) (en l)) (r1 l) hr.1 (by unfold wP; rw [hq (st l), hq (en l), if_pos p, if_pos q]; exact Int.le_refl _)
        have b := key (wP pi (en l) (st l)) (wP q2 (en l) (st l)) (r0 l) hr.2 (by unfold wP; rw [hq (st l), hq (en l), if_pos p, if_pos q]; exact Int.le_refl _)
        omega
      · have qf : S (en l) = false := by cases e : S (en l) with | true => exact absurd e q | false => rfl
        have n2 : ¬ (S (en l) = true ∧ S (st l) = false) := fun w => q w.1
        rw [if_pos ⟨p, qf⟩, if_neg n2]
        have a := key1 (wP pi (st l) (en l)) (wP q2 (st l) (en l)) (r1 l) hr.1 (by unfold wP; rw [hq (st l), hq (en l), if_pos p, if_neg q]; (repeat' split) <;> omega)
        have b := key (wP pi (en l) (st l)) (wP q2 (en l) (st l)) (r0 l) hr.2 (by unfold wP; rw [hq (st l), hq (en l), if_pos p, if_neg q]; (repeat' split) <;> omega)
        omega
    · have pf : S (st l) = false := by cases e : S (st l) with | true => exact absurd e p | false => rfl
      by_cases q : S (en l) = true
      · have n1 : ¬ (S (st l) = true ∧ S (en l) = false) := fun w => p w.1
        rw [if_neg n1, if_pos ⟨q, pf⟩]
        have a := key (wP pi (st l) (en l)) (wP q2 (st l) (en l)) (r1 l) hr.1 (by unfold wP; rw [hq (st l), hq (en l), if_neg p, if_pos q]; (repeat' split) <;> omega)
        have b := key1 (wP pi (en l) (st l)) (wP q2 (en l) (st l)) (r0 l) hr.2 (by unfold wP; rw [hq (st l), hq (en l), if_neg p, if_pos q]; (repeat' split) <;> omega)
        omega
      · have n1 : ¬ (S (st l) = true ∧ S (en l) = false) := fun w => p w.1
        have n2 : ¬ (S (en l) = true ∧ S (st l) = false) := fun w => q w.1
        rw [if_neg n1, if_neg n2]
        have a := key (wP pi (st l) (en l)) (wP q2 (st l) (en l)) (r1 l) hr.1 (by unfold wP; rw [hq (st l), hq (en l), if_neg p, if_neg q]; (repeat' split) <;> omega)
        have b := key (wP pi (en l) (st l)) (wP q2 (en l) (st l)) (r0 l) hr.2 (by unfold wP; rw [hq (st l), hq (en l), if_neg p, if_neg q]; (repeat' split) <;> omega)
        omega
  · rw [if_pos z, if_pos z, if_pos z]
    omega
theorem no_cst (hr : ∀ l : Nat, l < N → g l = 0 → 0 ≤ r1 l ∧ 0 ≤ r0 l) (hn : noR r1 r0 g c st en N s t k) (hc : cstR r1 r0 g c st en N s t k A) : False := by
  obtain ⟨S, hs, hx, hk⟩ := hn
  obtain ⟨⟨pi, hf, e⟩, u⟩ := hc
  have f2 : feas g c st en N (fun v => if S v = true then pi v else pi v + 1) := fun l hl hg hw => by
    have a := hf l hl hg hw
    have b := hx l hl hg hw
    dsimp only
    by_cases q : S (st l) = true
    · rw [if_pos q, if_pos (by rw [← b]; exact q)]
      exact a
    · rw [if_neg q, if_neg (by rw [← b]; exact q)]
      omega
  have w := u _ f2
  have d := sumI_le (f := dT r1 r0 g st en (fun v => if S v = true then pi v else pi v + 1)) (h := fun l => dT r1 r0 g st en pi l + cl1 r1 r0 g st en S l) N (fun l hl => dT_up (fun _ => rfl) (fun z => hr l hl z))
  rw [sumI_add] at d
  unfold dlK at w e
  dsimp only at w
  have e1 : (if S t = true then pi t else pi t + 1) = pi t + 1 := if_neg (by rw [hs.2]; decide)
  have e2 : (if S s = true then pi s else pi s + 1) = pi s := if_pos hs.1
  rw [e1, e2, show pi t + 1 - pi s = (pi t - pi s) + 1 by omega, Int.mul_add, Int.mul_one] at w
  omega
end LINES
/-! pairs of places -/
noncomputable def ptZ (M : Nat → Nat → Int) (pi : Nat → Int) (P : Nat) : Int := sumI (fun x => sumI (fun y => wP pi x y * M x y) P) P
theorem ptZ_add {M N : Nat → Nat → Int} {pi : Nat → Int} {P : Nat} : ptZ (fun x y => M x y + N x y) pi P = ptZ M pi P + ptZ N pi P := by
  unfold ptZ
  rw [← sumI_add]
  refine sumI_congr P (fun x _ => ?_)
  rw [← sumI_add]
  refine sumI_congr P (fun y _ => ?_)
  rw [Int.mul_add]
theorem ptZ_0 {pi : Nat → Int} {P : Nat} : ptZ (fun _ _ => 0) pi P = 0 := by
  unfold ptZ
  refine (sumI_congr P (fun x _ => ?_)).trans (sumI_zero P)
  refine (sumI_congr P (fun y _ => ?_)).trans (sumI_zero P)
  rw [Int.mul_zero]
theorem ptZ_one {pi : Nat → Int} {P a b : Nat} {v : Int} (ha : a < P) (hb : b < P) : ptZ (fun x y => if a = x ∧ b = y then v else 0) pi P = wP pi a b * v := by
  have row : ∀ x : Nat, sumI (fun y => wP pi x y * (if a = x ∧ b = y then v else 0)) P = if x = a then wP pi a b * v else 0 := fun x => by
    by_cases e : x = a
    · rw [if_pos e, e]
      refine Eq.trans (sumI_congr P (fun y _ => ?_)) ((sumI_delta (f := fun y => wP pi a y * v) (a := b) P).trans (if_pos hb))
      by_cases q : y = b
      · rw [if_pos q, if_pos (show a = a ∧ b = y from ⟨rfl, q.symm⟩)]
      · rw [if_neg q, if_neg (show ¬ (a = a ∧ b = y) from fun w => q w.2.symm), Int.mul_zero]
    · rw [if_neg e]
      refine (sumI_congr P (fun y _ => ?_)).trans (sumI_zero P)
      rw [if_neg (show ¬ (a = x ∧ b = y) from fun w => e w.1.symm), Int.mul_zero]
  unfold ptZ
  refine Eq.trans (sumI_congr P (fun x _ => row x)) ((sumI_delta (f := fun _ => wP pi a b * v) (a := a) P).trans (if_pos ha))
theorem ptZ_cg {M N : Nat → Nat → Int} {pi : Nat → Int} {P : Nat} (h : ∀ x y : Nat, x < P → y < P → M x y = N x y) : ptZ M pi P = ptZ N pi P := by
  unfold ptZ
  exact sumI_congr P (fun x hx => sumI_congr P (fun y hy => by rw [h x y hx hy]))
theorem ptZ_edg {M M2 : Nat → Nat → Int} {pi : Nat → Int} {P x y : Nat} {a : Int} (h : edg M M2 x y a) (hx : x < P) (hy : y < P) : ptZ M2 pi P = ptZ M pi P - a * (pi y - pi x) := by
  have e : ptZ M2 pi P = ptZ (fun u v => (M u v + (if x = u ∧ y = v then -a else 0)) + (if y = u ∧ x = v then a else 0)) pi P := ptZ_cg (fun u v _ _ => h u v)
  rw [e, ptZ_add (M := fun u v => M u v + (if x = u ∧ y = v then -a else 0)) (N := fun u v => if y = u ∧ x = v then a else 0), ptZ_add (M := M) (N := fun u v => if x = u ∧ y = v then -a else 0), ptZ_one hx hy, ptZ_one hy hx]
  have d := wP_df (pi := pi) (x := x) (y := y)
  rw [← d, Int.mul_sub, Int.mul_neg, Int.mul_comm a, Int.mul_comm a]
  omega
theorem ptZ_sum {A : Nat → Nat → Nat → Int} {pi : Nat → Int} {P : Nat} : ∀ n : Nat, ptZ (fun x y => sumI (fun l => A l x y) n) pi P = sumI (fun l => ptZ (A l) pi P) n
  | 0 => ptZ_0
  | n + 1 => by
    have e : ptZ (fun x y => sumI (fun l => A l x y) (n + 1)) pi P = ptZ (fun x y => sumI (fun l => A l x y) n + A n x y) pi P := rfl
    rw [e, ptZ_add (M := fun x y => sumI (fun l => A l x y) n) (N := A n), ptZ_sum n]
    rfl
/-- by pairs, and by lines -/
theorem ptZ_ml {k w g : Nat → Int} {st en : Nat → Nat} {pi : Nat → Int} {P N : Nat} (hP : ∀ l : Nat, l < N → g l = 0 → st l < P ∧ en l < P) : ptZ (fun x y => sumI (mlI k w g st en x y) N) pi P = sumI (dT (fun l => rmW (k l) (w l) 1) (fun l => rmW (k l) (w l) 0) g st en pi) N := by
  refine (ptZ_sum (A := fun l x y => mlI k w g st en x y l) N).trans (sumI_congr N (fun l hl => ?_))
  unfold dT
  by_cases z : g l = 0
  · rw [if_neg (fun q => q z)]
    have b := hP l hl z
    have e : ptZ (fun x y => mlI k w g st en x y l) pi P = ptZ (fun x y => (if st l = x ∧ en l = y then rmW (k l) (w l) 1 else 0) + (if en l = x ∧ st l = y then rmW (k l) (w l) 0 else 0)) pi P := ptZ_cg (fun x y _ _ => by unfold mlI; rw [if_neg (fun q => q z)])
    rw [e, ptZ_add (M := fun x y => if st l = x ∧ en l = y then rmW (k l) (w l) 1 else 0) (N := fun x y => if en l = x ∧ st l = y then rmW (k l) (w l) 0 else 0), ptZ_one b.1 b.2, ptZ_one b.2 b.1]
  · rw [if_pos z]
    exact (ptZ_cg (N := fun _ _ => 0) (fun x y _ _ => by unfold mlI; rw [if_pos z])).trans ptZ_0
/-- j more flows than in M0, from s to t -/
noncomputable def cnZ (M0 M : Nat → Nat → Int) (P s t : Nat) (j : Int) : Prop := ∀ pi : Nat → Int, ptZ M pi P = ptZ M0 pi P - j * (pi t - pi s)
section CNZ
variable {M0 M M2 : Nat → Nat → Int} {P s t x y : Nat} {a j r : Int}
theorem cnZ_0 : cnZ M0 M0 P s t 0 := fun pi => by
  rw [Int.zero_mul]
  omega
theorem cnZ_c0 (h : ∀ x y : Nat, x < P → y < P → M x y = M0 x y) : cnZ M0 M P s t 0 := fun pi => by
  rw [ptZ_cg h, Int.zero_mul]
  omega
theorem cnZ_t : cnZ M0 M0 P t t a := fun pi => by
  rw [Int.sub_self, Int.mul_zero]
  omega
theorem cnZ_e (h : cnZ M0 M P y t a) (he : edg M M2 x y a) (hx : x < P) (hy : y < P) : cnZ M0 M2 P x t a := fun pi => by
  rw [ptZ_edg he hx hy, h pi, Int.sub_sub, ← Int.mul_add, show pi t - pi y + (pi y - pi x) = pi t - pi x by omega]
theorem cnZ_at (h : cnZ M0 M P y t a) (e : y = s) : cnZ M0 M P s t a := by
  rw [← e]
  exact h
theorem cnZ_tr (h : cnZ M0 M P s t j) (h2 : cnZ M M2 P s t a) (e : r = j + a) : cnZ M0 M2 P s t r := fun pi => by
  rw [h2 pi, h pi, e, Int.add_mul]
  omega
end CNZ
end

section
set_option maxHeartbeats 4000000 in
set_option maxRecDepth 100000 in
theorem c_X0_findWay3 (l : Launch) (D : va_G) (cy : Nat → ClassId) (sz : Nat) (xc : Nat) (xk : Nat) (clo : Nat) (cro : Nat) (c4 : Nat) (c5 : Nat) (c6 : Nat) (c7 : Nat) (c8 : Nat) (xn : Nat) (n1 : Nat) (n2 : Nat) (n3 : Nat) (n4 : Nat) (n5 : Nat) (vp : Int32) (vn : Int32) (rr : Nat → Nat) (Mr : Nat → Nat → Int32) (f7 : Nat → Int32) (f8 : Nat → Int32) (a1 : Int32) (a2 : Int32) (hvp : 0 ≤ vp.toInt ∧ vp.toInt ≤ 12) (q1 : 0 ≤ a1.toInt ∧ a1.toInt < vp.toInt) (q2 : 0 ≤ a2.toInt ∧ a2.toInt < vp.toInt) (hne : a1.toInt ≠ a2.toInt) (r_f7 : rng f7 12 (0) (11)) (r_f8 : rng f8 12 (0) (11)) : Met l yX0_findWay wsX0_findWay ({ frames := 0, cells := 0, slots := 0, locals := 0 }) (va_Pc [.ref xc, .int a1, .int a2] (fun U => U.heap.size = sz ∧ va_P D vwCl [ob0_0_ xc xn xk clo cro c4 c5 c6 c7 c8, ob3_0_ xn vp vn n1 n2 n3 n4 n5, aq_ cy 6 cro 12 (gf_ rr), ai_ cy (rr 0) 12 (Mr 0), ai_ cy (rr 1) 12 (Mr 1), ai_ cy (rr 2) 12 (Mr 2), ai_ cy (rr 3) 12 (Mr 3), ai_ cy (rr 4) 12 (Mr 4), ai_ cy (rr 5) 12 (Mr 5), ai_ cy (rr 6) 12 (Mr 6), ai_ cy (rr 7) 12 (Mr 7), ai_ cy (rr 8) 12 (Mr 8), ai_ cy (rr 9) 12 (Mr 9), ai_ cy (rr 10) 12 (Mr 10), ai_ cy (rr 11) 12 (Mr 11), ai_ cy c7 12 f7, ai_ cy c8 12 f8] U.heap ∧ kg_ D cy U ∧ va_D (fun _ => True) [ob0_0_ xc xn xk clo cro c4 c5 c6 c7 c8, ob3_0_ xn vp vn n1 n2 n3 n4 n5, aq_ cy 6 cro 12 (gf_ rr), ai_ cy (rr 0) 12 (Mr 0), ai_ cy (rr 1) 12 (Mr 1), ai_ cy (rr 2) 12 (Mr 2), ai_ cy (rr 3) 12 (Mr 3), ai_ cy (rr 4) 12 (Mr 4), ai_ cy (rr 5) 12 (Mr 5), ai_ cy (rr 6) 12 (Mr 6), ai_ cy (rr 7) 12 (Mr 7), ai_ cy (rr 8) 12 (Mr 8), ai_ cy (rr 9) 12 (Mr 9), ai_ cy (rr 10) 12 (Mr 10), ai_ cy (rr 11) 12 (Mr 11), ai_ cy c7 12 f7, ai_ cy c8 12 f8])) (va_Qi (fun (r : Int32) (u : Int32) => u = r ∧ ((r.toInt = 0 ∨ r.toInt = 1))) (fun (u : Int32) (t : State) => ∃ (e7 : Nat → Int32), ∃ (e8 : Nat → Int32), (u.toInt ≠ 0 → ∃ n : Nat, n ≤ 11 ∧ wayA (zM Mr) (nF e8) vp.toNatClampNeg a1.toNatClampNeg 1 n a2.toNatClampNeg) ∧ (u.toInt = 0 → ∃ S : Nat → Bool, sep a1.toNatClampNeg a2.toNatClampNeg S ∧ clsd (zM Mr) vp.toNatClampNeg 1 S) ∧ (u.toInt ≠ 0 → fndR (rB (zM Mr) 1) vp.toNatClampNeg a1.toNatClampNeg a2.toNatClampNeg (nF e8)) ∧ (u.toInt = 0 → ndR (rB (zM Mr) 1) vp.toNatClampNeg a1.toNatClampNeg a2.toNatClampNeg) ∧ (rng e7 12 (0) (11)) ∧ (rng e8 12 (0) (11)) ∧ va_P D vwCl [ob0_0_ xc xn xk clo cro c4 c5 c6 c7 c8, ob3_0_ xn vp vn n1 n2 n3 n4 n5, aq_ cy 6 cro 12 (gf_ rr), ai_ cy (rr 0) 12 (Mr 0), ai_ cy (rr 1) 12 (Mr 1), ai_ cy (rr 2) 12 (Mr 2), ai_ cy (rr 3) 12 (Mr 3), ai_ cy (rr 4) 12 (Mr 4), ai_ cy (rr 5) 12 (Mr 5), ai_ cy (rr 6) 12 (Mr 6), ai_ cy (rr 7) 12 (Mr 7), ai_ cy (rr 8) 12 (Mr 8), ai_ cy (rr 9) 12 (Mr 9), ai_ cy (rr 10) 12 (Mr 10), ai_ cy (rr 11) 12 (Mr 11), ai_ cy c7 12 e7, ai_ cy c8 12 e8] t.heap ∧ va_D (va_A [ob0_0_ xc xn xk clo cro c4 c5 c6 c7 c8, ob3_0_ xn vp vn n1 n2 n3 n4 n5, aq_ cy 6 cro 12 (gf_ rr), ai_ cy (rr 0) 12 (Mr 0), ai_ cy (rr 1) 12 (Mr 1), ai_ cy (rr 2) 12 (Mr 2), ai_ cy (rr 3) 12 (Mr 3), ai_ cy (rr 4) 12 (Mr 4), ai_ cy (rr 5) 12 (Mr 5), ai_ cy (rr 6) 12 (Mr 6), ai_ cy (rr 7) 12 (Mr 7), ai_ cy (rr 8) 12 (Mr 8), ai_ cy (rr 9) 12 (Mr 9), ai_ cy (rr 10) 12 (Mr 10), ai_ cy (rr 11) 12 (Mr 11), ai_ cy c7 12 f7, ai_ cy c8 12 f8] sz) [ob0_0_ xc xn xk clo cro c4 c5 c6 c7 c8, ob3_0_ xn vp vn n1 n2 n3 n4 n5, aq_ cy 6 cro 12 (gf_ rr), ai_ cy (rr 0) 12 (Mr 0), ai_ cy (rr 1) 12 (Mr 1), ai_ cy (rr 2) 12 (Mr 2), ai_ cy (rr 3) 12 (Mr 3), ai_ cy (rr 4) 12 (Mr 4), ai_ cy (rr 5) 12 (Mr 5), ai_ cy (rr 6) 12 (Mr 6), ai_ cy (rr 7) 12 (Mr 7), ai_ cy (rr 8) 12 (Mr 8), ai_ cy (rr 9) 12 (Mr 9), ai_ cy (rr 10) 12 (Mr 10), ai_ cy (rr 11) 12 (Mr 11), ai_ cy c7 12 e7, ai_ cy c8 12 e8]) (va_A [ob0_0_ xc xn xk clo cro c4 c5 c6 c7 c8, ob3_0_ xn vp vn n1 n2 n3 n4 n5, aq_ cy 6 cro 12 (gf_ rr), ai_ cy (rr 0) 12 (Mr 0), ai_ cy (rr 1) 12 (Mr 1), ai_ cy (rr 2) 12 (Mr 2), ai_ cy (rr 3) 12 (Mr 3), ai_ cy (rr 4) 12 (Mr 4), ai_ cy (rr 5) 12 (Mr 5), ai_ cy (rr 6) 12 (Mr 6), ai_ cy (rr 7) 12 (Mr 7), ai_ cy (rr 8) 12 (Mr 8), ai_ cy (rr 9) 12 (Mr 9), ai_ cy (rr 10) 12 (Mr 10), ai_ cy (rr 11) 12 (Mr 11), ai_ cy c7 12 f7, ai_ cy c8 12 f8] sz)) 0 0 (va_A [ob0_0_ xc xn xk clo cro c4 c5 c6 c7 c8, ob3_0_ xn vp vn n1 n2 n3 n4 n5, aq_ cy 6 cro 12 (gf_ rr), ai_ cy (rr 0) 12 (Mr 0), ai_ cy (rr 1) 12 (Mr 1), ai_ cy (rr 2) 12 (Mr 2), ai_ cy (rr 3) 12 (Mr 3), ai_ cy (rr 4) 12 (Mr 4), ai_ cy (rr 5) 12 (Mr 5), ai_ cy (rr 6) 12 (Mr 6), ai_ cy (rr 7) 12 (Mr 7), ai_ cy (rr 8) 12 (Mr 8), ai_ cy (rr 9) 12 (Mr 9), ai_ cy (rr 10) 12 (Mr 10), ai_ cy (rr 11) 12 (Mr 11), ai_ cy c7 12 f7, ai_ cy c8 12 f8] sz) := by
  refine ofQ (cc := cX0_findWay) (maxL := 8) (ret := (some .boolean)) (by decide) rfl ?_
  intro p e s m args below meth c s₁ Q hQ B hml hv
  obtain ⟨rfl, hsz, hP, hK, hD0⟩ := hv
  have hG := hK.2
  have hK := hK.1
  have hx := B.exec
  have hb := B.bytes
  have hr := B.returns
  have hts := atoms_spec (ws := wsX0_findWay) B.pre
  have hown : s.vm.findClass RX0 = some m.cls := by have h_ := findClass_of_methodNamed B.named; exact h_
  have hlocks := B.notSynchronized
  subst hsz
  have hD := hD0.self (sz := s.heap.size)
  generalize hAe : va_A [ob0_0_ xc xn xk clo cro c4 c5 c6 c7 c8, ob3_0_ xn vp vn n1 n2 n3 n4 n5, aq_ cy 6 cro 12 (gf_ rr), ai_ cy (rr 0) 12 (Mr 0), ai_ cy (rr 1) 12 (Mr 1), ai_ cy (rr 2) 12 (Mr 2), ai_ cy (rr 3) 12 (Mr 3), ai_ cy (rr 4) 12 (Mr 4), ai_ cy (rr 5) 12 (Mr 5), ai_ cy (rr 6) 12 (Mr 6), ai_ cy (rr 7) 12 (Mr 7), ai_ cy (rr 8) 12 (Mr 8), ai_ cy (rr 9) 12 (Mr 9), ai_ cy (rr 10) 12 (Mr 10), ai_ cy (rr 11) 12 (Mr 11), ai_ cy c7 12 f7, ai_ cy c8 12 f8] s.heap.size = A at hD hQ
  have hA : ∀ q : Nat, s.heap.size ≤ q → A q := fun q h => by rw [← hAe]; exact Or.inr h
  have hS : va_S A s.heap s.heap [] := va_S.rf
  have hl := lv_entry ([.ref xc, .int a1, .int a2]) (n := 8) (Nat.le_of_ble_eq_true rfl)
  rw [lg_entry_eq]
  generalize (lg_sl ([.ref xc, .int a1, .int a2]) ++ List.replicate (8 - (lg_sl ([.ref xc, .int a1, .int a2])).length) Slot.unset).toArray = ls at hl ⊢
  have hl : lv_has ls 8 [(0, .ref xc), (1, .int a1), (2, .int a2)] := hl
  have z0 : (0 : Int32).toInt = 0 := by decide
  have z1 : (1 : Int32).toInt = 1 := by decide
  have z12 : (12 : Int32).toInt = 12 := by decide
  refine lv_iconst (v := 1) hx hb dB_36_0_8.1.1.1.1 (by decide) ?_
  refine lv_iload_n hx hb dB_36_0_8.1.1.1.2 rfl (lv_at hl 1 rfl) ?_
  refine lv_ishl hx hb dB_36_0_8.1.1.2.1 ?_
  refine lv_topi (fun y_1 ey_1 => ?_)
  refine lv_istore_n (lv' := [(3, .int y_1), (0, .ref xc), (1, .int a1), (2, .int a2)]) hx hb dB_36_0_8.1.1.2.2 rfl hl (by decide) rfl (fun ls hl => ?_)
  refine lv_iconst (v := 1) hx hb dB_36_0_8.1.2.1.1 (by decide) ?_
  refine lv_istore (lv' := [(4, .int 1), (3, .int y_1), (0, .ref xc), (1, .int a1), (2, .int a2)]) hx hb dB_36_0_8.1.2.1.2 hl (by decide) rfl (fun ls hl => ?_)
  refine lv_aload_n hx hb dB_36_0_8.1.2.2.1 rfl (lv_at hl 2 rfl) ?_
  refine va_get (ci := 0) (v := .ref c7) (C := RX0) (T := TX0) (N := 9) hx hb hts (fun _ h => List.mem_cons_of_mem _ (List.mem_append_left _ (List.mem_append_right _ h))) hown hK.1 hP 0 rfl rfl 7 (by decide) (hts (.fieldLink RX0 29 "CutAtlas$Current" "queue" "[I") (List.mem_of_getElem? (i := 1) rfl)) (fun _ h9 => h9) rfl dB_36_0_8.1.2.2.2 ?_
  refine lv_iconst (v := 0) hx hb dB_36_0_8.2.1.1.1 (by decide) ?_
  refine lv_iload_n hx hb dB_36_0_8.2.1.1.2 rfl (lv_at hl 3 rfl) ?_
  have h_2 : vp_in (0 : Int32) 12 := by unfold vp_in; decide
  refine va_iast hx hb hK.1 hP hD hS 15 0 rfl rfl (i := 0) h_2 dB_36_0_8.2.1.2.1 (fun H locs hP hD hS => ?_)
  obtain ⟨f_3, ef_3⟩ : ∃ g : Nat → Int32, g = upd f7 (0 : Int32).toNatClampNeg a1 := ⟨_, rfl⟩
  refine pd_K (D := D) (cl := vwCl) (H := H) (A := A) [ob0_0_ xc xn xk clo cro c4 c5 c6 c7 c8, ob3_0_ xn vp vn n1 n2 n3 n4 n5, aq_ cy 6 cro 12 (gf_ rr), ai_ cy (rr 0) 12 (Mr 0), ai_ cy (rr 1) 12 (Mr 1), ai_ cy (rr 2) 12 (Mr 2), ai_ cy (rr 3) 12 (Mr 3), ai_ cy (rr 4) 12 (Mr 4), ai_ cy (rr 5) 12 (Mr 5), ai_ cy (rr 6) 12 (Mr 6), ai_ cy (rr 7) 12 (Mr 7), ai_ cy (rr 8) 12 (Mr 8), ai_ cy (rr 9) 12 (Mr 9), ai_ cy (rr 10) 12 (Mr 10), ai_ cy (rr 11) 12 (Mr 11), ai_ cy c7 12 f_3, ai_ cy c8 12 f8] (by rw [ef_3]; exact hP) (by rw [ef_3]; exact hD) (fun hP hD => ?_)
  have rf_3 : rng f_3 12 (0) (11) := by rw [ef_3]; exact rng_upd r_f7 (by omega) (by omega)
  have hq_ : mq y_1 f_3 (1 : Int32).toNatClampNeg := mq_one (by assumption) (by assumption) (by omega) (by omega)
  have hbf_ : bfq (rC (zM Mr) f8) vp.toNatClampNeg a1.toNatClampNeg y_1 f_3 (1 : Int32).toNatClampNeg := bfq_one (by assumption) (by assumption) (by omega) (by omega) (nc_lt (by omega) (by omega))
  have hnt_ : bt y_1 a2.toNatClampNeg = false := nt_one (by assumption) (by omega) (by omega) (by omega)
  have hbs0_ : bsr (rB (zM Mr) 1) vp.toNatClampNeg a1.toNatClampNeg a2.toNatClampNeg (0 : Int32).toNatClampNeg 0 (nF f_3) (1 : Int32).toNatClampNeg (nF f8) := bsr_one ef_3
  refine lv_iconst (v := 0) hx hb dB_36_0_8.2.1.2.2 (by decide) ?_
  refine lv_istore (lv' := [(5, .int 0), (4, .int 1), (3, .int y_1), (0, .ref xc), (1, .int a1), (2, .int a2)]) hx hb dB_36_0_8.2.2.1.1 hl (by decide) rfl (fun ls hl => ?_)
  suffices LOOP_4 : ∀ (n_4 : Nat) (x5_4 : Int32) (x4_4 : Int32) (x3_4 : Int32) (c_c7_4 : Nat → Int32) (c_c8_4 : Nat → Int32) (H : Heap) (locs : List Loc) (ls : Array Slot), 12 - x5_4.toInt < (n_4 : Int) → (1 ≤ x4_4.toInt) → (x4_4.toInt ≤ 12) → (0 ≤ x5_4.toInt) → (x5_4.toInt ≤ 12) → (mq x3_4 c_c7_4 x4_4.toNatClampNeg) → (bfq (rC (zM Mr) c_c8_4) vp.toNatClampNeg a1.toNatClampNeg x3_4 c_c7_4 x4_4.toNatClampNeg) → (don (zM Mr) vp.toNatClampNeg 1 x3_4 c_c7_4 x5_4.toNatClampNeg) → (bt x3_4 a2.toNatClampNeg = false) → (bsr (rB (zM Mr) 1) vp.toNatClampNeg a1.toNatClampNeg a2.toNatClampNeg x5_4.toNatClampNeg 0 (nF c_c7_4) x4_4.toNatClampNeg (nF c_c8_4)) → (rng c_c7_4 12 (0) (11)) → (rng c_c8_4 12 (0) (11)) → pd_2 D vwCl A [ob0_0_ xc xn xk clo cro c4 c5 c6 c7 c8, ob3_0_ xn vp vn n1 n2 n3 n4 n5, aq_ cy 6 cro 12 (gf_ rr), ai_ cy (rr 0) 12 (Mr 0), ai_ cy (rr 1) 12 (Mr 1), ai_ cy (rr 2) 12 (Mr 2), ai_ cy (rr 3) 12 (Mr 3), ai_ cy (rr 4) 12 (Mr 4), ai_ cy (rr 5) 12 (Mr 5), ai_ cy (rr 6) 12 (Mr 6), ai_ cy (rr 7) 12 (Mr 7), ai_ cy (rr 8) 12 (Mr 8), ai_ cy (rr 9) 12 (Mr 9), ai_ cy (rr 10) 12 (Mr 10), ai_ cy (rr 11) 12 (Mr 11), ai_ cy c7 12 c_c7_4, ai_ cy c8 12 c_c8_4] H → va_S A s.heap H locs → lv_has ls 8 [(5, .int x5_4), (4, .int x4_4), (3, .int x3_4), (0, .ref xc), (1, .int a1), (2, .int a2)] → W p l e ({ frames := 0, cells := 0, slots := 0, locals := 0 } : Room) s m (([.ref xc, .int a1, .int a2] : List Value).toArray) below meth c H locs 0 0 Q (F0 m 17 ls []) from LOOP_4 ((12 - (0 : Int32).toInt).toNat + 1) (0 : Int32) (1 : Int32) y_1 f_3 f8 _ _ _ (by omega) (by first | with_reducible assumption | omega | assumption) (by first | with_reducible assumption | omega | assumption) (by first | with_reducible assumption | omega | assumption) (by first | with_reducible assumption | omega | assumption) (by first | with_reducible assumption | assumption | omega) (by first | exact hbf_ | assumption) (by first | exact don_0 | exact don_nx v_none v_none (by omega) (by omega) (by omega)) (by first | with_reducible assumption | omega | assumption) (by first | exact hbs0_ | exact bsr_nxt v_none (by omega) (by omega) (by omega)) (by first | with_reducible assumption | assumption | exact rng_zero (by omega) (by omega) | exact orng_zero) (by first | with_reducible assumption | assumption | exact rng_zero (by omega) (by omega) | exact orng_zero) ⟨hP, hD⟩ hS (lv_sub hl [0, 1, 2, 3, 4, 5] rfl)
  intro n_4
  induction n_4 with
  | zero =>
    intro x5_4 x4_4 x3_4 c_c7_4 c_c8_4 H locs ls hm v0_4 v1_4 v2_4 v3_4 v4_4 v5_4 v6_4 v7_4 v8_4 rc_c7_4 rc_c8_4 hPD hS hl; obtain ⟨hP, hD⟩ := hPD
    exact absurd hm (by omega)
  | succ n_4 ih_4 =>
    intro x5_4 x4_4 x3_4 c_c7_4 c_c8_4 H locs ls hm v0_4 v1_4 v2_4 v3_4 v4_4 v5_4 v6_4 v7_4 v8_4 rc_c7_4 rc_c8_4 hPD hS hl; obtain ⟨hP, hD⟩ := hPD
    refine lv_iload hx hb dB_36_0_8.2.2.1.2 (lv_at hl 0 rfl) ?_
    refine lv_iload hx hb dB_36_0_8.2.2.2.1 (lv_at hl 1 rfl) ?_
    refine lv_icmp_ge (tgt := 125) hx hb dB_36_0_8.2.2.2.2 (by decide) (fun c_5 => ?_) (fun c_5 => ?_)
    · have t_5 : x4_4.toInt ≤ x5_4.toInt := Int32.le_iff_toInt_le.mp c_5
      refine lv_iconst (v := 0) hx hb dB_36_0_12.2.2.1 (by decide) ?_
      rw [hQ]
      exact W.zret (ty := .boolean) (v := 0) hx hb hr (by decide) (fun t ht hW => ⟨⟨0, 0, rfl, ⟨rfl, (by omega)⟩, c_c7_4, c_c8_4, (fun h => absurd rfl h), (fun _ => ⟨bt x3_4, ⟨bfq_s v5_4, v7_4⟩, bfq_clsd v5_4 v6_4 (nc_le (by omega) (by omega))⟩), (fun h => absurd rfl h), (fun _ => ⟨_, _, _, _, v8_4, nc_le (by omega) (by omega)⟩), (by first | with_reducible assumption | assumption | exact rng_zero (by omega) (by omega) | omega), (by first | with_reducible assumption | assumption | exact rng_zero (by omega) (by omega) | omega), by rw [ht]; exact hP, hD⟩, hS.F ht⟩) hS.2.2 dB_36_0_12.2.2.2
    · have t_5 : ¬ x4_4.toInt ≤ x5_4.toInt := fun h => c_5 (Int32.le_iff_toInt_le.mpr h)
      refine lv_iload hx hb dB_36_0_9.1.1.1.1 (lv_at hl 0 rfl) ?_
      refine lv_bipush (v := 12) hx hb dB_36_0_9.1.1.1.2 (by decide) ?_
      refine lv_icmp_ge (tgt := 125) hx hb dB_36_0_9.1.1.2.1 (by decide) (fun c_6 => ?_) (fun c_6 => ?_)
      · have t_6 : (12 : Int32).toInt ≤ x5_4.toInt := Int32.le_iff_toInt_le.mp c_6
        refine lv_iconst (v := 0) hx hb dB_36_0_12.2.2.1 (by decide) ?_
        rw [hQ]
        exact W.zret (ty := .boolean) (v := 0) hx hb hr (by decide) (fun t ht hW => ⟨⟨0, 0, rfl, ⟨rfl, (by omega)⟩, c_c7_4, c_c8_4, (fun h => absurd rfl h), (fun _ => ⟨bt x3_4, ⟨bfq_s v5_4, v7_4⟩, bfq_clsd v5_4 v6_4 (nc_le (by omega) (by omega))⟩), (fun h => absurd rfl h), (fun _ => ⟨_, _, _, _, v8_4, nc_le (by omega) (by omega)⟩), (by first | with_reducible assumption | assumption | exact rng_zero (by omega) (by omega) | omega), (by first | with_reducible assumption | assumption | exact rng_zero (by omega) (by omega) | omega), by rw [ht]; exact hP, hD⟩, hS.F ht⟩) hS.2.2 dB_36_0_12.2.2.2
      · have t_6 : ¬ (12 : Int32).toInt ≤ x5_4.toInt := fun h => c_6 (Int32.le_iff_toInt_le.mpr h)
        refine lv_aload_n hx hb dB_36_0_9.1.1.2.2 rfl (lv_at hl 3 rfl) ?_
        refine va_get (ci := 0) (v := .ref c7) (C := RX0) (T := TX0) (N := 9) hx hb hts (fun _ h => List.mem_cons_of_mem _ (List.mem_append_left _ (List.mem_append_right _ h))) hown hK.1 hP 0 rfl rfl 7 (by decide) (hts (.fieldLink RX0 29 "CutAtlas$Current" "queue" "[I") (List.mem_of_getElem? (i := 1) rfl)) (fun _ h9 => h9) rfl dB_36_0_9.1.2.1.1 ?_
        refine lv_iload hx hb dB_36_0_9.1.2.1.2 (lv_at hl 0 rfl) ?_
        have h_7 : vp_in x5_4 12 := in_I (by first | with_reducible assumption | omega) (by omega)
        refine va_iald hx hb hK.1 hP 15 0 rfl rfl (i := x5_4) h_7 dB_36_0_9.1.2.2.1 ?_
        refine lv_topi (fun y_8 ey_8 => ?_)
        have ry_8 : 0 ≤ y_8.toInt ∧ y_8.toInt ≤ 11 := by rw [ey_8]; exact rc_c7_4 _ (in_lt h_7)
        refine lv_istore (lv' := [(6, .int y_8), (5, .int x5_4), (4, .int x4_4), (3, .int x3_4), (0, .ref xc), (1, .int a1), (2, .int a2)]) hx hb dB_36_0_9.1.2.2.2 hl (by decide) rfl (fun ls hl => ?_)
        refine lv_iconst (v := 0) hx hb dB_36_0_9.2.1.1.1 (by decide) ?_
        refine lv_istore (lv' := [(7, .int 0), (6, .int y_8), (5, .int x5_4), (4, .int x4_4), (3, .int x3_4), (0, .ref xc), (1, .int a1), (2, .int a2)]) hx hb dB_36_0_9.2.1.1.2 hl (by decide) rfl (fun ls hl => ?_)
        suffices LOOP_9 : ∀ (n_9 : Nat) (x7_9 : Int32) (x4_9 : Int32) (x3_9 : Int32) (c_c7_9 : Nat → Int32) (c_c8_9 : Nat → Int32) (H : Heap) (locs : List Loc) (ls : Array Slot), vp.toInt - x7_9.toInt < (n_9 : Int) → (1 ≤ x4_9.toInt) → (x4_9.toInt ≤ 12) → (0 ≤ x7_9.toInt) → (x7_9.toInt ≤ vp.toInt) → (mq x3_9 c_c7_9 x4_9.toNatClampNeg) → (bfq (rC (zM Mr) c_c8_9) vp.toNatClampNeg a1.toNatClampNeg x3_9 c_c7_9 x4_9.toNatClampNeg) → (don (zM Mr) vp.toNatClampNeg 1 x3_9 c_c7_9 x5_4.toNatClampNeg) → (x5_4.toInt < x4_9.toInt) → (donY (zM Mr) 1 x3_9 (nF c_c7_9 x5_4.toNatClampNeg) x7_9.toNatClampNeg) → (bt x3_9 a2.toNatClampNeg = false) → (y_8 = c_c7_9 x5_4.toNatClampNeg) → (bsr (rB (zM Mr) 1) vp.toNatClampNeg a1.toNatClampNeg a2.toNatClampNeg x5_4.toNatClampNeg x7_9.toNatClampNeg (nF c_c7_9) x4_9.toNatClampNeg (nF c_c8_9)) → (rng c_c7_9 12 (0) (11)) → (rng c_c8_9 12 (0) (11)) → pd_2 D vwCl A [ob0_0_ xc xn xk clo cro c4 c5 c6 c7 c8, ob3_0_ xn vp vn n1 n2 n3 n4 n5, aq_ cy 6 cro 12 (gf_ rr), ai_ cy (rr 0) 12 (Mr 0), ai_ cy (rr 1) 12 (Mr 1), ai_ cy (rr 2) 12 (Mr 2), ai_ cy (rr 3) 12 (Mr 3), ai_ cy (rr 4) 12 (Mr 4), ai_ cy (rr 5) 12 (Mr 5), ai_ cy (rr 6) 12 (Mr 6), ai_ cy (rr 7) 12 (Mr 7), ai_ cy (rr 8) 12 (Mr 8), ai_ cy (rr 9) 12 (Mr 9), ai_ cy (rr 10) 12 (Mr 10), ai_ cy (rr 11) 12 (Mr 11), ai_ cy c7 12 c_c7_9, ai_ cy c8 12 c_c8_9] H → va_S A s.heap H locs → lv_has ls 8 [(7, .int x7_9), (6, .int y_8), (5, .int x5_4), (4, .int x4_9), (3, .int x3_9), (0, .ref xc), (1, .int a1), (2, .int a2)] → W p l e ({ frames := 0, cells := 0, slots := 0, locals := 0 } : Room) s m (([.ref xc, .int a1, .int a2] : List Value).toArray) below meth c H locs 0 0 Q (F0 m 43 ls []) from LOOP_9 ((vp.toInt - (0 : Int32).toInt).toNat + 1) (0 : Int32) x4_4 x3_4 c_c7_4 c_c8_4 _ _ _ (by omega) (by first | with_reducible assumption | omega | assumption) (by first | with_reducible assumption | omega | assumption) (by first | with_reducible assumption | omega | assumption) (by first | with_reducible assumption | omega | assumption) (by first | with_reducible assumption | assumption | exact hp_ _ (by omega)) (by first | with_reducible assumption | assumption | exact hb2_ _ (by omega)) (by first | with_reducible assumption | assumption | exact hd2_) (by first | with_reducible assumption | omega | assumption) (by first | exact donY_0 | exact hy2_ _ (by omega) | exact donY_met v_none (by omega) (by omega) (Or.inl (bt_nz hbw_ (by omega))) | exact donY_met v_none (by omega) (by omega) (Or.inr (by omega))) (by first | with_reducible assumption | assumption | exact hn2_) (by first | with_reducible assumption | assumption | exact hx2_) (by first | exact v8_4 | exact hbs2_ _ _ (by omega) (by omega) | exact bsr_old v_none (by omega) (by omega) (by omega) (nc_lt (x := x5_4) (P := x4_4) (by omega) (by omega)) (Or.inl (v_none.2.2.2.1 _ (bt_nz hbw_ (by omega)))) | exact bsr_old v_none (by omega) (by omega) (by omega) (nc_lt (x := x5_4) (P := x4_4) (by omega) (by omega)) (Or.inr (fun h_ => absurd (show (1 : Int) ≤ _ from h_) (by omega)))) (by first | with_reducible assumption | assumption | exact rng_zero (by omega) (by omega) | exact orng_zero) (by first | with_reducible assumption | assumption | exact rng_zero (by omega) (by omega) | exact orng_zero) ⟨hP, hD⟩ hS (lv_sub hl [0, 1, 2, 3, 4, 5, 6, 7] rfl)
        intro n_9
        induction n_9 with
        | zero =>
          intro x7_9 x4_9 x3_9 c_c7_9 c_c8_9 H locs ls hm v0_9 v1_9 v2_9 v3_9 v4_9 v5_9 v6_9 v7_9 v8_9 v9_9 v10_9 v11_9 rc_c7_9 rc_c8_9 hPD hS hl; obtain ⟨hP, hD⟩ := hPD
          exact absurd hm (by omega)
        | succ n_9 ih_9 =>
          intro x7_9 x4_9 x3_9 c_c7_9 c_c8_9 H locs ls hm v0_9 v1_9 v2_9 v3_9 v4_9 v5_9 v6_9 v7_9 v8_9 v9_9 v10_9 v11_9 rc_c7_9 rc_c8_9 hPD hS hl; obtain ⟨hP, hD⟩ := hPD
          refine lv_iload hx hb dB_36_0_9.2.1.2.1 (lv_at hl 0 rfl) ?_
          refine lv_aload_n hx hb dB_36_0_9.2.1.2.2 rfl (lv_at hl 5 rfl) ?_
          refine va_get (ci := 0) (v := .ref xn) (C := RX0) (T := TX0) (N := 9) hx hb hts (fun _ h => List.mem_cons_of_mem _ (List.mem_append_left _ (List.mem_append_right _ h))) hown hK.1 hP 0 rfl rfl 0 (by decide) (hts (.fieldLink RX0 35 "CutAtlas$Current" "net" "LCutAtlas$Net;") (List.mem_of_getElem? (i := 2) rfl)) (fun _ h9 => h9) rfl dB_36_0_9.2.2.1.1 ?_
          refine va_get (ci := 3) (v := .int vp) (C := RX3) (T := TX3) (N := 7) hx hb hts (fun _ h => List.mem_cons_of_mem _ (List.mem_append_right _ h)) hown hK.1 hP 1 rfl rfl 0 (by decide) (hts (.fieldLink RX0 43 "CutAtlas$Net" "places" "I") (List.mem_of_getElem? (i := 3) rfl)) (fun _ h9 => h9) rfl dB_36_0_9.2.2.1.2 ?_
          refine lv_icmp_ge (tgt := 119) hx hb dB_36_0_9.2.2.2.1 (by decide) (fun c_10 => ?_) (fun c_10 => ?_)
          · have t_10 : vp.toInt ≤ x7_9.toInt := Int32.le_iff_toInt_le.mp c_10
            obtain ⟨y_11, ey_11⟩ : ∃ y : Int32, y = x5_4 + 1 := ⟨_, rfl⟩
            have ty_11 : y_11.toInt = x5_4.toInt + (1 : Int32).toInt := by rw [ey_11]; exact addI (by omega) (by omega)
            refine lv_iinc (v := y_11) (lv' := [(5, .int y_11), (7, .int x7_9), (6, .int y_8), (4, .int x4_9), (3, .int x3_9), (0, .ref xc), (1, .int a1), (2, .int a2)]) hx hb dB_36_0_12.2.1.1 hl (k := 2) rfl (by rw [ey_11]; rfl) (by decide) rfl (fun ls hl => ?_)
            refine lv_goto (tgt := 17) hx hb dB_36_0_12.2.1.2 (by decide) ?_
            exact ih_4 y_11 x4_9 x3_9 c_c7_9 c_c8_9 _ _ _ (by omega) (by first | with_reducible assumption | omega | assumption) (by first | with_reducible assumption | omega | assumption) (by first | with_reducible assumption | omega | assumption) (by first | with_reducible assumption | omega | assumption) (by first | with_reducible assumption | assumption | omega) (by first | exact hbf_ | assumption) (by first | exact don_0 | exact don_nx v6_9 v8_9 (by omega) (by omega) (by omega)) (by first | with_reducible assumption | omega | assumption) (by first | exact hbs0_ | exact bsr_nxt v11_9 (by omega) (by omega) (by omega)) (by first | with_reducible assumption | assumption | exact rng_zero (by omega) (by omega) | exact orng_zero) (by first | with_reducible assumption | assumption | exact rng_zero (by omega) (by omega) | exact orng_zero) ⟨hP, hD⟩ hS (lv_sub hl [0, 3, 4, 5, 6, 7] rfl)
          · have t_10 : ¬ vp.toInt ≤ x7_9.toInt := fun h => c_10 (Int32.le_iff_toInt_le.mpr h)
            refine lv_iload_n hx hb dB_36_0_9.2.2.2.2 rfl (lv_at hl 4 rfl) ?_
            refine lv_iload hx hb dB_36_0_10.1.1.1.1 (lv_at hl 0 rfl) ?_
            refine lv_ishr hx hb dB_36_0_10.1.1.1.2 ?_
            refine lv_topi (fun y_12 ey_12 => ?_)
            refine lv_iconst (v := 1) hx hb dB_36_0_10.1.1.2.1 (by decide) ?_
            refine lv_iand hx hb dB_36_0_10.1.1.2.2 ?_
            refine lv_topi (fun y_13 ey_13 => ?_)
            have hbw_ := bI_w (x := x3_9) (y := x7_9) (by omega) (by omega) ey_12 ey_13
            refine lv_if_ne (tgt := 113) hx hb dB_36_0_10.1.2.1.1 (by decide) (fun c_14 => ?_) (fun c_14 => ?_)
            · have t_14 : ¬ y_13.toInt = (0 : Int32).toInt := fun h => c_14 (Int32.toInt_inj.mp h)
              obtain ⟨y_15, ey_15⟩ : ∃ y : Int32, y = x7_9 + 1 := ⟨_, rfl⟩
              have ty_15 : y_15.toInt = x7_9.toInt + (1 : Int32).toInt := by rw [ey_15]; exact addI (by omega) (by omega)
              refine lv_iinc (v := y_15) (lv' := [(7, .int y_15), (6, .int y_8), (5, .int x5_4), (4, .int x4_9), (3, .int x3_9), (0, .ref xc), (1, .int a1), (2, .int a2)]) hx hb dB_36_0_12.1.2.1 hl (k := 0) rfl (by rw [ey_15]; rfl) (by decide) rfl (fun ls hl => ?_)
              refine lv_goto (tgt := 43) hx hb dB_36_0_12.1.2.2 (by decide) ?_
              exact ih_9 y_15 x4_9 x3_9 c_c7_9 c_c8_9 _ _ _ (by omega) (by first | with_reducible assumption | omega | assumption) (by first | with_reducible assumption | omega | assumption) (by first | with_reducible assumption | omega | assumption) (by first | with_reducible assumption | omega | assumption) (by first | with_reducible assumption | assumption | exact hp_ _ (by omega)) (by first | with_reducible assumption | assumption | exact hb2_ _ (by omega)) (by first | with_reducible assumption | assumption | exact hd2_) (by first | with_reducible assumption | omega | assumption) (by first | exact donY_0 | exact hy2_ _ (by omega) | exact donY_met v8_9 (by omega) (by omega) (Or.inl (bt_nz hbw_ (by omega))) | exact donY_met v8_9 (by omega) (by omega) (Or.inr (by omega))) (by first | with_reducible assumption | assumption | exact hn2_) (by first | with_reducible assumption | assumption | exact hx2_) (by first | exact v8_4 | exact hbs2_ _ _ (by omega) (by omega) | exact bsr_old v11_9 (by omega) (by omega) (by omega) (nc_lt (x := x5_4) (P := x4_9) (by omega) (by omega)) (Or.inl (v5_9.2.2.2.1 _ (bt_nz hbw_ (by omega)))) | exact bsr_old v11_9 (by omega) (by omega) (by omega) (nc_lt (x := x5_4) (P := x4_9) (by omega) (by omega)) (Or.inr (fun h_ => absurd (show (1 : Int) ≤ _ from h_) (by omega)))) (by first | with_reducible assumption | assumption | exact rng_zero (by omega) (by omega) | exact orng_zero) (by first | with_reducible assumption | assumption | exact rng_zero (by omega) (by omega) | exact orng_zero) ⟨hP, hD⟩ hS (lv_sub hl [0, 1, 2, 3, 4, 5, 6, 7] rfl)
            · have t_14 : y_13.toInt = (0 : Int32).toInt := congrArg Int32.toInt c_14
              have hun_ : bt x3_9 x7_9.toNatClampNeg = false := bt_zero (by omega) (by omega) ey_12 ey_13 (by omega)
              refine lv_aload_n hx hb dB_36_0_10.1.2.1.2 rfl (lv_at hl 5 rfl) ?_
              refine va_get (ci := 0) (v := .ref cro) (C := RX0) (T := TX0) (N := 9) hx hb hts (fun _ h => List.mem_cons_of_mem _ (List.mem_append_left _ (List.mem_append_right _ h))) hown hK.1 hP 0 rfl rfl 3 (by decide) (hts (.fieldLink RX0 16 "CutAtlas$Current" "room" "[[I") (List.mem_of_getElem? (i := 4) rfl)) (fun _ h9 => h9) rfl dB_36_0_10.1.2.2.1 ?_
              refine lv_iload hx hb dB_36_0_10.1.2.2.2 (lv_at hl 1 rfl) ?_
              have h_16 : vp_in y_8 12 := in_I (by first | with_reducible assumption | omega) (by omega)
              refine va_alda hx hb hG hP 2 rfl (i := y_8) h_16 dB_36_0_10.2.1.1.1 ?_
              refine lv_topv (v' := .ref (rr y_8.toNatClampNeg)) (gf_at h_16) ?_
              refine lv_iload hx hb dB_36_0_10.2.1.1.2 (lv_at hl 0 rfl) ?_
              have h_17 : vp_in x7_9 12 := in_I (by first | with_reducible assumption | omega) (by omega)
              have hPg : va_P D vwCl (([ob0_0_ xc xn xk clo cro c4 c5 c6 c7 c8, ob3_0_ xn vp vn n1 n2 n3 n4 n5, aq_ cy 6 cro 12 (gf_ rr)] : va_W) ++ (gro (cy 0) rr Mr ++ ([ai_ cy c7 12 c_c7_9, ai_ cy c8 12 c_c8_9] : va_W))) H := hP
              refine va_gld (X := [ob0_0_ xc xn xk clo cro c4 c5 c6 c7 c8, ob3_0_ xn vp vn n1 n2 n3 n4 n5, aq_ cy 6 cro 12 (gf_ rr)]) (Y := [ai_ cy c7 12 c_c7_9, ai_ cy c8 12 c_c8_9]) (r := rr) (M := Mr) (k := y_8.toNatClampNeg) hx hb hK.1 hPg 0 rfl (in_lt h_16) (i := x7_9) h_17 dB_36_0_10.2.1.2.1 ?_
              refine lv_topi (fun y_18 ey_18 => ?_)
              have hmw_ : y_18.toInt = zM Mr y_8.toNatClampNeg x7_9.toNatClampNeg := by unfold zM; rw [ey_18]
              have hmv_ : y_18.toInt = zM Mr (nF c_c7_9 x5_4.toNatClampNeg) x7_9.toNatClampNeg := by rw [hmw_, v10_9]; rfl
              refine lv_if_le (tgt := 113) hx hb dB_36_0_10.2.1.2.2 (by decide) (fun c_19 => ?_) (fun c_19 => ?_)
              · have t_19 : y_18.toInt ≤ (0 : Int32).toInt := Int32.le_iff_toInt_le.mp c_19
                obtain ⟨y_20, ey_20⟩ : ∃ y : Int32, y = x7_9 + 1 := ⟨_, rfl⟩
                have ty_20 : y_20.toInt = x7_9.toInt + (1 : Int32).toInt := by rw [ey_20]; exact addI (by omega) (by omega)
                refine lv_iinc (v := y_20) (lv' := [(7, .int y_20), (6, .int y_8), (5, .int x5_4), (4, .int x4_9), (3, .int x3_9), (0, .ref xc), (1, .int a1), (2, .int a2)]) hx hb dB_36_0_12.1.2.1 hl (k := 0) rfl (by rw [ey_20]; rfl) (by decide) rfl (fun ls hl => ?_)
                refine lv_goto (tgt := 43) hx hb dB_36_0_12.1.2.2 (by decide) ?_
                exact ih_9 y_20 x4_9 x3_9 c_c7_9 c_c8_9 _ _ _ (by omega) (by first | with_reducible assumption | omega | assumption) (by first | with_reducible assumption | omega | assumption) (by first | with_reducible assumption | omega | assumption) (by first | with_reducible assumption | omega | assumption) (by first | with_reducible assumption | assumption | exact hp_ _ (by omega)) (by first | with_reducible assumption | assumption | exact hb2_ _ (by omega)) (by first | with_reducible assumption | assumption | exact hd2_) (by first | with_reducible assumption | omega | assumption) (by first | exact donY_0 | exact hy2_ _ (by omega) | exact donY_met v8_9 (by omega) (by omega) (Or.inl (bt_nz hbw_ (by omega))) | exact donY_met v8_9 (by omega) (by omega) (Or.inr (by omega))) (by first | with_reducible assumption | assumption | exact hn2_) (by first | with_reducible assumption | assumption | exact hx2_) (by first | exact v8_4 | exact hbs2_ _ _ (by omega) (by omega) | exact bsr_old v11_9 (by omega) (by omega) (by omega) (nc_lt (x := x5_4) (P := x4_9) (by omega) (by omega)) (Or.inl (v5_9.2.2.2.1 _ (bt_nz hbw_ (by omega)))) | exact bsr_old v11_9 (by omega) (by omega) (by omega) (nc_lt (x := x5_4) (P := x4_9) (by omega) (by omega)) (Or.inr (fun h_ => absurd (show (1 : Int) ≤ _ from h_) (by omega)))) (by first | with_reducible assumption | assumption | exact rng_zero (by omega) (by omega) | exact orng_zero) (by first | with_reducible assumption | assumption | exact rng_zero (by omega) (by omega) | exact orng_zero) ⟨hP, hD⟩ hS (lv_sub hl [0, 1, 2, 3, 4, 5, 6, 7] rfl)
              · have t_19 : ¬ y_18.toInt ≤ (0 : Int32).toInt := fun h => c_19 (Int32.le_iff_toInt_le.mpr h)
                have hr_ : x4_9.toInt < 12 := mq_room (x := x3_9) (y := x7_9) (z := y_12) (w := y_13) (q := c_c7_9) (by assumption) (by omega) (by omega) (by assumption) (by assumption) (by omega) (by omega)
                have hnm_ : ¬ mmq (nF c_c7_9) x4_9.toNatClampNeg x7_9.toNatClampNeg := bfq_nm v5_9 hun_
                have hrr_ : rB (zM Mr) 1 (nF c_c7_9 x5_4.toNatClampNeg) x7_9.toNatClampNeg := show (1 : Int) ≤ _ from (by omega)
                refine lv_aload_n hx hb dB_36_0_10.2.2.1.1 rfl (lv_at hl 5 rfl) ?_
                refine va_get (ci := 0) (v := .ref c8) (C := RX0) (T := TX0) (N := 9) hx hb hts (fun _ h => List.mem_cons_of_mem _ (List.mem_append_left _ (List.mem_append_right _ h))) hown hK.1 hP 0 rfl rfl 8 (by decide) (hts (.fieldLink RX0 32 "CutAtlas$Current" "cameFrom" "[I") (List.mem_of_getElem? (i := 5) rfl)) (fun _ h9 => h9) rfl dB_36_0_10.2.2.1.2 ?_
                refine lv_iload hx hb dB_36_0_10.2.2.2.1 (lv_at hl 0 rfl) ?_
                refine lv_iload hx hb dB_36_0_10.2.2.2.2 (lv_at hl 1 rfl) ?_
                refine va_iast hx hb hK.1 hP hD hS 16 0 rfl rfl (i := x7_9) h_17 dB_36_0_11.1.1.1.1 (fun H locs hP hD hS => ?_)
                obtain ⟨f_22, ef_22⟩ : ∃ g : Nat → Int32, g = upd c_c8_9 x7_9.toNatClampNeg y_8 := ⟨_, rfl⟩
                refine pd_K (D := D) (cl := vwCl) (H := H) (A := A) [ob0_0_ xc xn xk clo cro c4 c5 c6 c7 c8, ob3_0_ xn vp vn n1 n2 n3 n4 n5, aq_ cy 6 cro 12 (gf_ rr), ai_ cy (rr 0) 12 (Mr 0), ai_ cy (rr 1) 12 (Mr 1), ai_ cy (rr 2) 12 (Mr 2), ai_ cy (rr 3) 12 (Mr 3), ai_ cy (rr 4) 12 (Mr 4), ai_ cy (rr 5) 12 (Mr 5), ai_ cy (rr 6) 12 (Mr 6), ai_ cy (rr 7) 12 (Mr 7), ai_ cy (rr 8) 12 (Mr 8), ai_ cy (rr 9) 12 (Mr 9), ai_ cy (rr 10) 12 (Mr 10), ai_ cy (rr 11) 12 (Mr 11), ai_ cy c7 12 c_c7_9, ai_ cy c8 12 f_22] (by rw [ef_22]; exact hP) (by rw [ef_22]; exact hD) (fun hP hD => ?_)
                have rf_22 : rng f_22 12 (0) (11) := by rw [ef_22]; exact rng_upd rc_c8_9 (by omega) (by omega)
                refine lv_iload hx hb dB_36_0_11.1.1.1.2 (lv_at hl 0 rfl) ?_
                refine lv_iload_n hx hb dB_36_0_11.1.1.2.1 rfl (lv_at hl 7 rfl) ?_
                refine lv_icmp_ne (tgt := 94) hx hb dB_36_0_11.1.1.2.2 (by decide) (fun c_23 => ?_) (fun c_23 => ?_)
                · have t_23 : ¬ x7_9.toInt = a2.toInt := fun h => c_23 (Int32.toInt_inj.mp h)
                  refine lv_iload_n hx hb dB_36_0_11.1.2.2.1 rfl (lv_at hl 4 rfl) ?_
                  refine lv_iconst (v := 1) hx hb dB_36_0_11.1.2.2.2 (by decide) ?_
                  refine lv_iload hx hb dB_36_0_11.2.1.1.1 (lv_at hl 0 rfl) ?_
                  refine lv_ishl hx hb dB_36_0_11.2.1.1.2 ?_
                  refine lv_topi (fun y_24 ey_24 => ?_)
                  refine lv_ior hx hb dB_36_0_11.2.1.2.1 ?_
                  refine lv_topi (fun y_25 ey_25 => ?_)
                  refine lv_istore_n (lv' := [(3, .int y_25), (7, .int x7_9), (6, .int y_8), (5, .int x5_4), (4, .int x4_9), (0, .ref xc), (1, .int a1), (2, .int a2)]) hx hb dB_36_0_11.2.1.2.2 rfl hl (by decide) rfl (fun ls hl => ?_)
                  refine lv_aload_n hx hb dB_36_0_11.2.2.1.1 rfl (lv_at hl 5 rfl) ?_
                  refine va_get (ci := 0) (v := .ref c7) (C := RX0) (T := TX0) (N := 9) hx hb hts (fun _ h => List.mem_cons_of_mem _ (List.mem_append_left _ (List.mem_append_right _ h))) hown hK.1 hP 0 rfl rfl 7 (by decide) (hts (.fieldLink RX0 29 "CutAtlas$Current" "queue" "[I") (List.mem_of_getElem? (i := 1) rfl)) (fun _ h9 => h9) rfl dB_36_0_11.2.2.1.2 ?_
                  refine lv_iload hx hb dB_36_0_11.2.2.2.1 (lv_at hl 4 rfl) ?_
                  refine lv_iload hx hb dB_36_0_11.2.2.2.2 (lv_at hl 1 rfl) ?_
                  have h_26 : vp_in x4_9 12 := in_I (by first | with_reducible assumption | omega) (by omega)
                  refine va_iast hx hb hK.1 hP hD hS 15 0 rfl rfl (i := x4_9) h_26 dB_36_0_12.1.1.1 (fun H locs hP hD hS => ?_)
                  obtain ⟨f_27, ef_27⟩ : ∃ g : Nat → Int32, g = upd c_c7_9 x4_9.toNatClampNeg x7_9 := ⟨_, rfl⟩
                  refine pd_K (D := D) (cl := vwCl) (H := H) (A := A) [ob0_0_ xc xn xk clo cro c4 c5 c6 c7 c8, ob3_0_ xn vp vn n1 n2 n3 n4 n5, aq_ cy 6 cro 12 (gf_ rr), ai_ cy (rr 0) 12 (Mr 0), ai_ cy (rr 1) 12 (Mr 1), ai_ cy (rr 2) 12 (Mr 2), ai_ cy (rr 3) 12 (Mr 3), ai_ cy (rr 4) 12 (Mr 4), ai_ cy (rr 5) 12 (Mr 5), ai_ cy (rr 6) 12 (Mr 6), ai_ cy (rr 7) 12 (Mr 7), ai_ cy (rr 8) 12 (Mr 8), ai_ cy (rr 9) 12 (Mr 9), ai_ cy (rr 10) 12 (Mr 10), ai_ cy (rr 11) 12 (Mr 11), ai_ cy c7 12 f_27, ai_ cy c8 12 f_22] (by rw [ef_27]; exact hP) (by rw [ef_27]; exact hD) (fun hP hD => ?_)
                  have rf_27 : rng f_27 12 (0) (11) := by rw [ef_27]; exact rng_upd rc_c7_9 (by omega) (by omega)
                  have hp_ : ∀ m2 : Int32, m2.toInt = x4_9.toInt + 1 → mq y_25 f_27 m2.toNatClampNeg := fun m2 em => mq_push (x := x3_9) (y := x7_9) (z := y_12) (w := y_13) (m := x4_9) (b := y_24) (q := c_c7_9) (by assumption) (by omega) (by omega) (by assumption) (by assumption) (by omega) (by omega) (by assumption) (by assumption) (by assumption) em
                  have hb2_ : ∀ m2 : Int32, m2.toInt = x4_9.toInt + 1 → bfq (rC (zM Mr) f_22) vp.toNatClampNeg a1.toNatClampNeg y_25 f_27 m2.toNatClampNeg := fun m2 em => bfq_push (h := x5_4.toNatClampNeg) v5_9 (by omega) (by omega) (nc_lt (by omega) (by omega)) (by omega) ey_24 ey_25 ef_27 em (nc_lt (x := x5_4) (P := x4_9) (by omega) (by omega)) (rC_up ef_22) hun_ (by have h_ := rC_new (M := zM Mr) (x := y_8) ef_22 (by omega); rw [show nF c_c7_9 x5_4.toNatClampNeg = y_8.toNatClampNeg by rw [v10_9]; rfl]; exact h_)
                  have hd2_ : don (zM Mr) vp.toNatClampNeg 1 y_25 f_27 x5_4.toNatClampNeg := don_push v6_9 ey_25 ef_27 (Nat.le_of_lt (nc_lt (x := x5_4) (P := x4_9) (by omega) (by omega)))
                  have hq9_ : f_27 x5_4.toNatClampNeg = c_c7_9 x5_4.toNatClampNeg := by rw [ef_27, pk_un (Nat.ne_of_lt (nc_lt (x := x5_4) (P := x4_9) (by omega) (by omega)))]
                  have hnq_ : nF f_27 x5_4.toNatClampNeg = nF c_c7_9 x5_4.toNatClampNeg := by unfold nF; rw [hq9_]
                  have hy2_ : ∀ y2 : Int32, y2.toInt = x7_9.toInt + 1 → donY (zM Mr) 1 y_25 (nF f_27 x5_4.toNatClampNeg) y2.toNatClampNeg := fun y2 ey => by rw [hnq_]; exact donY_push v8_9 (by omega) (by omega) ey_24 ey_25 ey
                  have hn2_ : bt y_25 a2.toNatClampNeg = false := nt_push v9_9 ey_24 ey_25 (by omega) (by omega) (by omega)
                  have hx2_ : y_8 = f_27 x5_4.toNatClampNeg := v10_9.trans hq9_.symm
                  have hbs2_ : ∀ m2 y2 : Int32, m2.toInt = x4_9.toInt + 1 → y2.toInt = x7_9.toInt + 1 → bsr (rB (zM Mr) 1) vp.toNatClampNeg a1.toNatClampNeg a2.toNatClampNeg x5_4.toNatClampNeg y2.toNatClampNeg (nF f_27) m2.toNatClampNeg (nF f_22) := fun m2 y2 em ey => bsr_new v11_9 (by omega) (by omega) (by omega) (nc_lt (x := x5_4) (P := x4_9) (by omega) (by omega)) hnm_ hrr_ (nc_ne (by omega) (by omega) (by omega)) ef_27 ef_22 v10_9 em ey (by omega)
                  obtain ⟨y_28, ey_28⟩ : ∃ y : Int32, y = x4_9 + 1 := ⟨_, rfl⟩
                  have ty_28 : y_28.toInt = x4_9.toInt + (1 : Int32).toInt := by rw [ey_28]; exact addI (by omega) (by omega)
                  refine lv_iinc (v := y_28) (lv' := [(4, .int y_28), (3, .int y_25), (7, .int x7_9), (6, .int y_8), (5, .int x5_4), (0, .ref xc), (1, .int a1), (2, .int a2)]) hx hb dB_36_0_12.1.1.2 hl (k := 4) rfl (by rw [ey_28]; rfl) (by decide) rfl (fun ls hl => ?_)
                  obtain ⟨y_29, ey_29⟩ : ∃ y : Int32, y = x7_9 + 1 := ⟨_, rfl⟩
                  have ty_29 : y_29.toInt = x7_9.toInt + (1 : Int32).toInt := by rw [ey_29]; exact addI (by omega) (by omega)
                  refine lv_iinc (v := y_29) (lv' := [(7, .int y_29), (4, .int y_28), (3, .int y_25), (6, .int y_8), (5, .int x5_4), (0, .ref xc), (1, .int a1), (2, .int a2)]) hx hb dB_36_0_12.1.2.1 hl (k := 2) rfl (by rw [ey_29]; rfl) (by decide) rfl (fun ls hl => ?_)
                  refine lv_goto (tgt := 43) hx hb dB_36_0_12.1.2.2 (by decide) ?_
                  exact ih_9 y_29 y_28 y_25 f_27 f_22 _ _ _ (by omega) (by first | with_reducible assumption | omega | assumption) (by first | with_reducible assumption | omega | assumption) (by first | with_reducible assumption | omega | assumption) (by first | with_reducible assumption | omega | assumption) (by first | with_reducible assumption | assumption | exact hp_ _ (by omega)) (by first | with_reducible assumption | assumption | exact hb2_ _ (by omega)) (by first | with_reducible assumption | assumption | exact hd2_) (by first | with_reducible assumption | omega | assumption) (by first | exact donY_0 | exact hy2_ _ (by omega) | exact donY_met v8_9 (by omega) (by omega) (Or.inl (bt_nz hbw_ (by omega))) | exact donY_met v8_9 (by omega) (by omega) (Or.inr (by omega))) (by first | with_reducible assumption | assumption | exact hn2_) (by first | with_reducible assumption | assumption | exact hx2_) (by first | exact v8_4 | exact hbs2_ _ _ (by omega) (by omega) | exact bsr_old v11_9 (by omega) (by omega) (by omega) (nc_lt (x := x5_4) (P := y_28) (by omega) (by omega)) (Or.inl (v5_9.2.2.2.1 _ (bt_nz hbw_ (by omega)))) | exact bsr_old v11_9 (by omega) (by omega) (by omega) (nc_lt (x := x5_4) (P := y_28) (by omega) (by omega)) (Or.inr (fun h_ => absurd (show (1 : Int) ≤ _ from h_) (by omega)))) (by first | with_reducible assumption | assumption | exact rng_zero (by omega) (by omega) | exact orng_zero) (by first | with_reducible assumption | assumption | exact rng_zero (by omega) (by omega) | exact orng_zero) ⟨hP, hD⟩ hS (lv_sub hl [0, 3, 4, 1, 2, 5, 6, 7] rfl)
                · have t_23 : x7_9.toInt = a2.toInt := congrArg Int32.toInt c_23
                  refine lv_iconst (v := 1) hx hb dB_36_0_11.1.2.1.1 (by decide) ?_
                  rw [hQ]
                  exact W.zret (ty := .boolean) (v := 1) hx hb hr (by decide) (fun t ht hW => ⟨⟨1, 1, rfl, ⟨rfl, (by omega)⟩, c_c7_9, f_22, (fun _ => by rw [show a2 = x7_9 from Int32.toInt_inj.mp (by omega)]; exact way_yes (x := y_8) v5_9 v4_9 ef_22 hun_ v10_9 (nc_lt (x := x5_4) (P := x4_9) (by omega) (by omega)) (by have c_ := clI (i := x4_9) (by omega); omega) (nc_lt (by omega) (by omega)) (by omega)), (fun h => absurd h (by decide)), (fun _ => fnd_mk v11_9 (show a2 = x7_9 from Int32.toInt_inj.mp (by omega)) (nc_lt (x := x5_4) (P := x4_9) (by omega) (by omega)) (nc_lt (by omega) (by omega)) hnm_ hrr_ ef_22 v10_9), (fun h => absurd h (by decide)), (by first | with_reducible assumption | assumption | exact rng_zero (by omega) (by omega) | omega), (by first | with_reducible assumption | assumption | exact rng_zero (by omega) (by omega) | omega), by rw [ht]; exact hP, hD⟩, hS.F ht⟩) hS.2.2 dB_36_0_11.1.2.1.2
end

section
set_option maxHeartbeats 4000000 in
set_option maxRecDepth 100000 in
theorem c_X12_isMet3 (l : Launch) (D : va_G) (cy : Nat → ClassId) (sz : Nat) (mo : Nat) (g5 : Nat) (g6 : Nat) (g7 : Nat) (g8 : Nat) (g9 : Nat) (g10 : Nat) (g12 : Nat) (g13 : Nat) (g14 : Nat) (g15 : Nat) (g16 : Nat) (g17 : Nat) (g18 : Nat) (g19 : Nat) (g20 : Nat) (g22 : Nat) (g23 : Nat) (g24 : Nat) (g29 : Nat) (g30 : Nat) (g31 : Nat) (g32 : Nat) (g33 : Nat) (s0 : Int32) (s1 : Int32) (s3 : Int32) (s4 : Int32) (s11 : Int32) (s21 : Int32) (s25 : Int32) (s26 : Int32) (s27 : Int32) (s28 : Int32) (t2 : Int64) (f23 : Nat → Int32) (a1 : Int32) (a2 : Int32) (q2 : 0 ≤ a2.toInt ∧ a2.toInt ≤ 12) : Met l yX12_isMet wsX12_isMet ({ frames := 0, cells := 0, slots := 0, locals := 0 }) (va_Pc [.ref mo, .int a1, .int a2] (fun U => U.heap.size = sz ∧ va_P D vwCl [ob12_0_ mo s0 s1 t2 s3 s4 g5 g6 g7 g8 g9 g10 s11 g12 g13 g14 g15 g16 g17 g18 g19 g20 s21 g22 g23 g24 s25 s26 s27 s28 g29 g30 g31 g32 g33, ai_ cy g23 12 f23] U.heap ∧ kk_ D cy U ∧ va_D (fun _ => True) [ob12_0_ mo s0 s1 t2 s3 s4 g5 g6 g7 g8 g9 g10 s11 g12 g13 g14 g15 g16 g17 g18 g19 g20 s21 g22 g23 g24 s25 s26 s27 s28 g29 g30 g31 g32 g33, ai_ cy g23 12 f23])) (va_Qi (fun (r : Int32) (_ : Unit) => (r.toInt = 0 ∨ r.toInt = 1) ∧ (r.toInt = 0 → ∀ j : Nat, (j : Int) < a2.toInt → (f23 j).toInt ≠ a1.toInt) ∧ (r.toInt ≠ 0 → ∃ j : Nat, (j : Int) < a2.toInt ∧ (f23 j).toInt = a1.toInt)) (fun (_ : Unit) (_ : State) => True) (va_A [] sz)) 0 0 (va_A [] sz) := by
  refine ofQ (cc := cX12_isMet) (maxL := 5) (ret := (some .boolean)) (by decide) rfl ?_
  intro p e s m args below meth c s₁ Q hQ B hml hv
  obtain ⟨rfl, hsz, hP, hK, hD0⟩ := hv
  have hx := B.exec
  have hb := B.bytes
  have hr := B.returns
  have hts := atoms_spec (ws := wsX12_isMet) B.pre
  have hown : s.vm.findClass RX12 = some m.cls := by have h_ := findClass_of_methodNamed B.named; exact h_
  have hlocks := B.notSynchronized
  subst hsz
  have hD : va_D (va_A [] s.heap.size) [] := dd_nil
  generalize hAe : va_A [] s.heap.size = A at hD hQ
  have hA : ∀ q : Nat, s.heap.size ≤ q → A q := fun q h => by rw [← hAe]; exact Or.inr h
  have hS : va_S A s.heap s.heap [] := va_S.rf
  have hl := lv_entry ([.ref mo, .int a1, .int a2]) (n := 5) (Nat.le_of_ble_eq_true rfl)
  rw [lg_entry_eq]
  generalize (lg_sl ([.ref mo, .int a1, .int a2]) ++ List.replicate (5 - (lg_sl ([.ref mo, .int a1, .int a2])).length) Slot.unset).toArray = ls at hl ⊢
  have hl : lv_has ls 5 [(0, .ref mo), (1, .int a1), (2, .int a2)] := hl
  have z0 : (0 : Int32).toInt = 0 := by decide
  have z1 : (1 : Int32).toInt = 1 := by decide
  have zq0 : (0 : Int32).toInt = 0 := by decide
  have zq1 : (1 : Int32).toInt = 1 := by decide
  refine lv_iconst (v := 0) hx hb dB_3_1_35.1.1.1.1 (by decide) ?_
  refine lv_istore_n (lv' := [(3, .int 0), (0, .ref mo), (1, .int a1), (2, .int a2)]) hx hb dB_3_1_35.1.1.1.2 rfl hl (by decide) rfl (fun ls hl => ?_)
  refine lv_iconst (v := 0) hx hb dB_3_1_35.1.1.2.1 (by decide) ?_
  refine lv_istore (lv' := [(4, .int 0), (3, .int 0), (0, .ref mo), (1, .int a1), (2, .int a2)]) hx hb dB_3_1_35.1.1.2.2 hl (by decide) rfl (fun ls hl => ?_)
  suffices LOOP_1 : ∀ (n_1 : Nat) (x4_1 : Int32) (x3_1 : Int32) (H : Heap) (locs : List Loc) (ls : Array Slot), a2.toInt - x4_1.toInt < (n_1 : Int) → (0 ≤ x4_1.toInt) → (x4_1.toInt ≤ a2.toInt) → (x3_1.toInt = 0 ∨ x3_1.toInt = 1) → (x3_1.toInt = 0 → ∀ j : Nat, (j : Int) < x4_1.toInt → (f23 j).toInt ≠ a1.toInt) → (x3_1.toInt ≠ 0 → ∃ j : Nat, (j : Int) < x4_1.toInt ∧ (f23 j).toInt = a1.toInt) → va_P D vwCl [ob12_0_ mo s0 s1 t2 s3 s4 g5 g6 g7 g8 g9 g10 s11 g12 g13 g14 g15 g16 g17 g18 g19 g20 s21 g22 g23 g24 s25 s26 s27 s28 g29 g30 g31 g32 g33, ai_ cy g23 12 f23] H → va_S A s.heap H locs → lv_has ls 5 [(4, .int x4_1), (3, .int x3_1), (0, .ref mo), (1, .int a1), (2, .int a2)] → W p l e ({ frames := 0, cells := 0, slots := 0, locals := 0 } : Room) s m (([.ref mo, .int a1, .int a2] : List Value).toArray) below meth c H locs 0 0 Q (F0 m 5 ls []) from LOOP_1 ((a2.toInt - (0 : Int32).toInt).toNat + 1) (0 : Int32) (0 : Int32) _ _ _ (by omega) (by first | with_reducible assumption | omega | assumption) (by first | with_reducible assumption | omega | assumption) (by first | with_reducible assumption | omega | assumption) (by first | (intro _ j hj; omega) | exact nmt_s v_none (by omega) (by omega) (by omega) (by omega) S[o] (by omega)) (by first | exact fun h => absurd zq0 h | exact met_s3 v_none (by omega) (by omega) (by omega) (by omega) S[o] (by first | exact fun _ => (by omega) | exact fun h => absurd h (by decide))) hP hS (lv_sub hl [0, 1, 2, 3, 4] rfl)
  intro n_1
  induction n_1 with
  | zero =>
    intro x4_1 x3_1 H locs ls hm v0_1 v1_1 v2_1 v3_1 v4_1 hP hS hl
    exact absurd hm (by omega)
  | succ n_1 ih_1 =>
    intro x4_1 x3_1 H locs ls hm v0_1 v1_1 v2_1 v3_1 v4_1 hP hS hl
    refine lv_iload hx hb dB_3_1_35.1.2.1.1 (lv_at hl 0 rfl) ?_
    refine lv_iload_n hx hb dB_3_1_35.1.2.1.2 rfl (lv_at hl 4 rfl) ?_
    refine lv_icmp_ge (tgt := 36) hx hb dB_3_1_35.1.2.2.1 (by decide) (fun c_2 => ?_) (fun c_2 => ?_)
    · have t_2 : a2.toInt ≤ x4_1.toInt := Int32.le_iff_toInt_le.mp c_2
      refine lv_iload_n hx hb dB_3_1_36.2.2.1 rfl (lv_at hl 1 rfl) ?_
      rw [hQ]
      exact W.zret (ty := .boolean) (v := x3_1) hx hb hr (nar_b (by omega)) (fun t ht hW => ⟨⟨x3_1, (), rfl, ⟨by omega, by rw [show a2 = x4_1 from Int32.toInt_inj.mp (by omega)]; exact v3_1, by rw [show a2 = x4_1 from Int32.toInt_inj.mp (by omega)]; exact v4_1⟩, trivial⟩, hS.F ht⟩) hS.2.2 dB_3_1_36.2.2.2
    · have t_2 : ¬ a2.toInt ≤ x4_1.toInt := fun h => c_2 (Int32.le_iff_toInt_le.mpr h)
      refine lv_iload_n hx hb dB_3_1_35.1.2.2.2 rfl (lv_at hl 1 rfl) ?_
      refine lv_aload_n hx hb dB_3_1_35.2.1.1.1 rfl (lv_at hl 2 rfl) ?_
      refine va_get (ci := 12) (v := .ref g23) (C := RX12) (T := TX12) (N := 34) hx hb hts (fun _ h => List.mem_cons_of_mem _ (List.mem_append_right _ h)) hown hK.1 hP 0 rfl rfl 23 (by decide) (hts (.fieldLink RX12 64 "CutAtlasModel" "queue" "[I") (List.mem_of_getElem? (i := 1) rfl)) (fun _ h9 => h9) rfl dB_3_1_35.2.1.1.2 ?_
      refine lv_iload hx hb dB_3_1_35.2.1.2.1 (lv_at hl 0 rfl) ?_
      have h_3 : vp_in x4_1 12 := in_I (by first | with_reducible assumption | omega) (by omega)
      refine va_iald hx hb hK.1 hP 1 0 rfl rfl (i := x4_1) h_3 dB_3_1_35.2.1.2.2 ?_
      refine lv_topi (fun y_4 ey_4 => ?_)
      have ky_4 : y_4.toInt = (f23 x4_1.toNatClampNeg).toInt := by rw [ey_4]
      refine lv_iload_n hx hb dB_3_1_35.2.2.1.1 rfl (lv_at hl 3 rfl) ?_
      refine lv_icmp_ne (tgt := 27) hx hb dB_3_1_35.2.2.1.2 (by decide) (fun c_5 => ?_) (fun c_5 => ?_)
      · have t_5 : ¬ y_4.toInt = a1.toInt := fun h => c_5 (Int32.toInt_inj.mp h)
        refine lv_iconst (v := 0) hx hb dB_3_1_36.1.1 (by decide) ?_
        refine lv_ior hx hb dB_3_1_36.1.2.1 ?_
        refine lv_topi (fun y_6 ey_6 => ?_)
        have ty_6 : y_6.toInt = 0 ∨ y_6.toInt = 1 := by rw [ey_6]; exact or01 (by omega) (by omega)
        refine lv_istore_n (lv' := [(3, .int y_6), (4, .int x4_1), (0, .ref mo), (1, .int a1), (2, .int a2)]) hx hb dB_3_1_36.1.2.2 rfl hl (by decide) rfl (fun ls hl => ?_)
        obtain ⟨y_7, ey_7⟩ : ∃ y : Int32, y = x4_1 + 1 := ⟨_, rfl⟩
        have ty_7 : y_7.toInt = x4_1.toInt + (1 : Int32).toInt := by rw [ey_7]; exact addI (by omega) (by omega)
        refine lv_iinc (v := y_7) (lv' := [(4, .int y_7), (3, .int y_6), (0, .ref mo), (1, .int a1), (2, .int a2)]) hx hb dB_3_1_36.2.1.1 hl (k := 1) rfl (by rw [ey_7]; rfl) (by decide) rfl (fun ls hl => ?_)
        refine lv_goto (tgt := 5) hx hb dB_3_1_36.2.1.2 (by decide) ?_
        exact ih_1 y_7 y_6 _ _ _ (by omega) (by first | with_reducible assumption | omega | assumption) (by first | with_reducible assumption | omega | assumption) (by first | with_reducible assumption | omega | assumption) (by first | (intro _ j hj; omega) | exact nmt_s v3_1 (by omega) (by omega) (by omega) (by omega) ey_6 (by omega)) (by first | exact fun h => absurd zq0 h | exact met_s3 v4_1 (by omega) (by omega) (by omega) (by omega) ey_6 (by first | exact fun _ => (by omega) | exact fun h => absurd h (by decide))) hP hS (lv_sub hl [0, 1, 2, 3, 4] rfl)
      · have t_5 : y_4.toInt = a1.toInt := congrArg Int32.toInt c_5
        refine lv_iconst (v := 1) hx hb dB_3_1_35.2.2.2.1 (by decide) ?_
        refine lv_goto (tgt := 28) hx hb dB_3_1_35.2.2.2.2 (by decide) ?_
        refine lv_ior hx hb dB_3_1_36.1.2.1 ?_
        refine lv_topi (fun y_8 ey_8 => ?_)
        have ty_8 : y_8.toInt = 0 ∨ y_8.toInt = 1 := by rw [ey_8]; exact or01 (by omega) (by omega)
        refine lv_istore_n (lv' := [(3, .int y_8), (4, .int x4_1), (0, .ref mo), (1, .int a1), (2, .int a2)]) hx hb dB_3_1_36.1.2.2 rfl hl (by decide) rfl (fun ls hl => ?_)
        obtain ⟨y_9, ey_9⟩ : ∃ y : Int32, y = x4_1 + 1 := ⟨_, rfl⟩
        have ty_9 : y_9.toInt = x4_1.toInt + (1 : Int32).toInt := by rw [ey_9]; exact addI (by omega) (by omega)
        refine lv_iinc (v := y_9) (lv' := [(4, .int y_9), (3, .int y_8), (0, .ref mo), (1, .int a1), (2, .int a2)]) hx hb dB_3_1_36.2.1.1 hl (k := 1) rfl (by rw [ey_9]; rfl) (by decide) rfl (fun ls hl => ?_)
        refine lv_goto (tgt := 5) hx hb dB_3_1_36.2.1.2 (by decide) ?_
        exact ih_1 y_9 y_8 _ _ _ (by omega) (by first | with_reducible assumption | omega | assumption) (by first | with_reducible assumption | omega | assumption) (by first | with_reducible assumption | omega | assumption) (by first | (intro _ j hj; omega) | exact nmt_s v3_1 (by omega) (by omega) (by omega) (by omega) ey_8 (by omega)) (by first | exact fun h => absurd zq0 h | exact met_s3 v4_1 (by omega) (by omega) (by omega) (by omega) ey_8 (by first | exact fun _ => (by omega) | exact fun h => absurd h (by decide))) hP hS (lv_sub hl [0, 1, 2, 3, 4] rfl)

set_option maxHeartbeats 4000000 in
set_option maxRecDepth 100000 in
theorem c_X12_hasWay3 (l : Launch) (D : va_G) (cy : Nat → ClassId) (sz : Nat) (mo : Nat) (g5 : Nat) (g6 : Nat) (g7 : Nat) (g8 : Nat) (g9 : Nat) (g10 : Nat) (g12 : Nat) (g13 : Nat) (g14 : Nat) (g15 : Nat) (g16 : Nat) (g17 : Nat) (g18 : Nat) (g19 : Nat) (g20 : Nat) (g22 : Nat) (g23 : Nat) (g24 : Nat) (g29 : Nat) (g30 : Nat) (g31 : Nat) (g32 : Nat) (g33 : Nat) (s0 : Int32) (s1 : Int32) (s3 : Int32) (s4 : Int32) (s11 : Int32) (s21 : Int32) (s25 : Int32) (s26 : Int32) (s27 : Int32) (s28 : Int32) (t2 : Int64) (f5 : Nat → Int32) (f6 : Nat → Int32) (f7 : Nat → Int32) (f8 : Nat → Int32) (f10 : Nat → Int32) (f22 : Nat → Int32) (f23 : Nat → Int32) (f24 : Nat → Int32) (a1 : Int32) (a2 : Int32) (hN : 0 ≤ s4.toInt ∧ s4.toInt ≤ 40) (hPl : 0 ≤ s3.toInt ∧ s3.toInt ≤ 12) (h21 : s21.toInt = -9) (hfl : flOK f5 f8 f22) (q1 : 0 ≤ a1.toInt ∧ a1.toInt < s3.toInt) (q2 : 0 ≤ a2.toInt ∧ a2.toInt < s3.toInt) (r_f8 : rng f8 40 (0) (2000)) (r_f23 : rng f23 12 (0) (11)) (r_f24 : rng f24 12 (0) (11)) : Met l yX12_hasWay wsX12_hasWay ({ frames := 4, cells := 0, slots := 0, locals := 93 }) (va_Pc [.ref mo, .int a1, .int a2] (fun U => U.heap.size = sz ∧ va_P D vwCl [ob12_0_ mo s0 s1 t2 s3 s4 g5 g6 g7 g8 g9 g10 s11 g12 g13 g14 g15 g16 g17 g18 g19 g20 s21 g22 g23 g24 s25 s26 s27 s28 g29 g30 g31 g32 g33, ai_ cy g5 40 f5, ai_ cy g6 40 f6, ai_ cy g7 40 f7, ai_ cy g8 40 f8, az_ cy g10 40 f10, ai_ cy g22 40 f22, ai_ cy g23 12 f23, ai_ cy g24 12 f24] U.heap ∧ kk_ D cy U ∧ va_D (fun _ => True) [ob12_0_ mo s0 s1 t2 s3 s4 g5 g6 g7 g8 g9 g10 s11 g12 g13 g14 g15 g16 g17 g18 g19 g20 s21 g22 g23 g24 s25 s26 s27 s28 g29 g30 g31 g32 g33, ai_ cy g5 40 f5, ai_ cy g6 40 f6, ai_ cy g7 40 f7, ai_ cy g8 40 f8, az_ cy g10 40 f10, ai_ cy g22 40 f22, ai_ cy g23 12 f23, ai_ cy g24 12 f24])) (va_Qi (fun (r : Int32) (u : Int32) => u = r ∧ ((((0 : Int) ≤ 0) ∧ r = 0) ∨ (((0 : Int) ≤ 0) ∧ r = 1))) (fun (u : Int32) (t : State) => ∃ (e23 : Nat → Int32), ∃ (e24 : Nat → Int32), (u = 1 → ∃ n : Nat, bfs (fun x y => sumI (lfI f5 f6 f7 f8 f10 f22 x y) s4.toNatClampNeg) e23 e24 a1 s3.toInt (n + 1) ∧ e23 n = a2) ∧ (u = 1 → fndR (fun x y : Nat => 1 ≤ sumI (lfI f5 f6 f7 f8 f10 f22 (x : Int) (y : Int)) s4.toNatClampNeg) s3.toNatClampNeg a1.toNatClampNeg a2.toNatClampNeg (nF e24)) ∧ (u = 0 → ndR (fun x y : Nat => 1 ≤ sumI (lfI f5 f6 f7 f8 f10 f22 (x : Int) (y : Int)) s4.toNatClampNeg) s3.toNatClampNeg a1.toNatClampNeg a2.toNatClampNeg) ∧ (rng e23 12 (0) (11)) ∧ (rng e24 12 (0) (11)) ∧ va_P D vwCl [ob12_0_ mo s0 s1 t2 s3 s4 g5 g6 g7 g8 g9 g10 s11 g12 g13 g14 g15 g16 g17 g18 g19 g20 s21 g22 g23 g24 s25 s26 s27 s28 g29 g30 g31 g32 g33, ai_ cy g5 40 f5, ai_ cy g6 40 f6, ai_ cy g7 40 f7, ai_ cy g8 40 f8, az_ cy g10 40 f10, ai_ cy g22 40 f22, ai_ cy g23 12 e23, ai_ cy g24 12 e24] t.heap ∧ va_D (va_A [ob12_0_ mo s0 s1 t2 s3 s4 g5 g6 g7 g8 g9 g10 s11 g12 g13 g14 g15 g16 g17 g18 g19 g20 s21 g22 g23 g24 s25 s26 s27 s28 g29 g30 g31 g32 g33, ai_ cy g5 40 f5, ai_ cy g6 40 f6, ai_ cy g7 40 f7, ai_ cy g8 40 f8, az_ cy g10 40 f10, ai_ cy g22 40 f22, ai_ cy g23 12 f23, ai_ cy g24 12 f24] sz) [ob12_0_ mo s0 s1 t2 s3 s4 g5 g6 g7 g8 g9 g10 s11 g12 g13 g14 g15 g16 g17 g18 g19 g20 s21 g22 g23 g24 s25 s26 s27 s28 g29 g30 g31 g32 g33, ai_ cy g5 40 f5, ai_ cy g6 40 f6, ai_ cy g7 40 f7, ai_ cy g8 40 f8, az_ cy g10 40 f10, ai_ cy g22 40 f22, ai_ cy g23 12 e23, ai_ cy g24 12 e24]) (va_A [ob12_0_ mo s0 s1 t2 s3 s4 g5 g6 g7 g8 g9 g10 s11 g12 g13 g14 g15 g16 g17 g18 g19 g20 s21 g22 g23 g24 s25 s26 s27 s28 g29 g30 g31 g32 g33, ai_ cy g5 40 f5, ai_ cy g6 40 f6, ai_ cy g7 40 f7, ai_ cy g8 40 f8, az_ cy g10 40 f10, ai_ cy g22 40 f22, ai_ cy g23 12 f23, ai_ cy g24 12 f24] sz)) 0 0 (va_A [ob12_0_ mo s0 s1 t2 s3 s4 g5 g6 g7 g8 g9 g10 s11 g12 g13 g14 g15 g16 g17 g18 g19 g20 s21 g22 g23 g24 s25 s26 s27 s28 g29 g30 g31 g32 g33, ai_ cy g5 40 f5, ai_ cy g6 40 f6, ai_ cy g7 40 f7, ai_ cy g8 40 f8, az_ cy g10 40 f10, ai_ cy g22 40 f22, ai_ cy g23 12 f23, ai_ cy g24 12 f24] sz) := by
  refine ofQ (cc := cX12_hasWay) (maxL := 6) (ret := (some .boolean)) (by decide) rfl ?_
  intro p e s m args below meth c s₁ Q hQ B hml hv
  obtain ⟨rfl, hsz, hP, hK, hD0⟩ := hv
  have hx := B.exec
  have hb := B.bytes
  have hr := B.returns
  have hts := atoms_spec (ws := wsX12_hasWay) B.pre
  have hown : s.vm.findClass RX12 = some m.cls := by have h_ := findClass_of_methodNamed B.named; exact h_
  have hlocks := B.notSynchronized
  subst hsz
  have hD := hD0.self (sz := s.heap.size)
  generalize hAe : va_A [ob12_0_ mo s0 s1 t2 s3 s4 g5 g6 g7 g8 g9 g10 s11 g12 g13 g14 g15 g16 g17 g18 g19 g20 s21 g22 g23 g24 s25 s26 s27 s28 g29 g30 g31 g32 g33, ai_ cy g5 40 f5, ai_ cy g6 40 f6, ai_ cy g7 40 f7, ai_ cy g8 40 f8, az_ cy g10 40 f10, ai_ cy g22 40 f22, ai_ cy g23 12 f23, ai_ cy g24 12 f24] s.heap.size = A at hD hQ
  have hA : ∀ q : Nat, s.heap.size ≤ q → A q := fun q h => by rw [← hAe]; exact Or.inr h
  have hS : va_S A s.heap s.heap [] := va_S.rf
  have hl := lv_entry ([.ref mo, .int a1, .int a2]) (n := 6) (Nat.le_of_ble_eq_true rfl)
  rw [lg_entry_eq]
  generalize (lg_sl ([.ref mo, .int a1, .int a2]) ++ List.replicate (6 - (lg_sl ([.ref mo, .int a1, .int a2])).length) Slot.unset).toArray = ls at hl ⊢
  have hl : lv_has ls 6 [(0, .ref mo), (1, .int a1), (2, .int a2)] := hl
  have z0 : (0 : Int32).toInt = 0 := by decide
  have z1 : (1 : Int32).toInt = 1 := by decide
  refine lv_aload_n hx hb dB_3_1_31.1.1.1.1 rfl (lv_at hl 0 rfl) ?_
  refine va_get (ci := 12) (v := .ref g23) (C := RX12) (T := TX12) (N := 34) hx hb hts (fun _ h => List.mem_cons_of_mem _ (List.mem_append_right _ h)) hown hK.1 hP 0 rfl rfl 23 (by decide) (hts (.fieldLink RX12 64 "CutAtlasModel" "queue" "[I") (List.mem_of_getElem? (i := 1) rfl)) (fun _ h9 => h9) rfl dB_3_1_31.1.1.1.2 ?_
  refine lv_iconst (v := 0) hx hb dB_3_1_31.1.1.2.1 (by decide) ?_
  refine lv_iload_n hx hb dB_3_1_31.1.1.2.2 rfl (lv_at hl 1 rfl) ?_
  have h_1 : vp_in (0 : Int32) 12 := by unfold vp_in; decide
  refine va_iast hx hb hK.1 hP hD hS 7 0 rfl rfl (i := 0) h_1 dB_3_1_31.1.2.1.1 (fun H locs hP hD hS => ?_)
  obtain ⟨f_2, ef_2⟩ : ∃ g : Nat → Int32, g = upd f23 (0 : Int32).toNatClampNeg a1 := ⟨_, rfl⟩
  refine pd_K (D := D) (cl := vwCl) (H := H) (A := A) [ob12_0_ mo s0 s1 t2 s3 s4 g5 g6 g7 g8 g9 g10 s11 g12 g13 g14 g15 g16 g17 g18 g19 g20 s21 g22 g23 g24 s25 s26 s27 s28 g29 g30 g31 g32 g33, ai_ cy g5 40 f5, ai_ cy g6 40 f6, ai_ cy g7 40 f7, ai_ cy g8 40 f8, az_ cy g10 40 f10, ai_ cy g22 40 f22, ai_ cy g23 12 f_2, ai_ cy g24 12 f24] (by rw [ef_2]; exact hP) (by rw [ef_2]; exact hD) (fun hP hD => ?_)
  have rf_2 : rng f_2 12 (0) (11) := by rw [ef_2]; exact rng_upd r_f23 (by omega) (by omega)
  refine lv_iconst (v := 1) hx hb dB_3_1_31.1.2.1.2 (by decide) ?_
  refine lv_istore_n (lv' := [(3, .int 1), (0, .ref mo), (1, .int a1), (2, .int a2)]) hx hb dB_3_1_31.1.2.2.1 rfl hl (by decide) rfl (fun ls hl => ?_)
  have hb1 : bfs (fun x y => sumI (lfI f5 f6 f7 f8 f10 f22 x y) s4.toNatClampNeg) f_2 f24 a1 s3.toInt 1 := bfs_one (by assumption) (by omega) (by omega)
  have hbs0_ : bsr (fun x y : Nat => 1 ≤ sumI (lfI f5 f6 f7 f8 f10 f22 (x : Int) (y : Int)) s4.toNatClampNeg) s3.toNatClampNeg a1.toNatClampNeg a2.toNatClampNeg (0 : Int32).toNatClampNeg 0 (nF f_2) (1 : Int32).toNatClampNeg (nF f24) := bsr_one ef_2
  refine lv_iconst (v := 0) hx hb dB_3_1_31.1.2.2.2 (by decide) ?_
  refine lv_istore (lv' := [(4, .int 0), (3, .int 1), (0, .ref mo), (1, .int a1), (2, .int a2)]) hx hb dB_3_1_31.2.1.1.1 hl (by decide) rfl (fun ls hl => ?_)
  suffices LOOP_3 : ∀ (n_3 : Nat) (x4_3 : Int32) (x3_3 : Int32) (c_g23_3 : Nat → Int32) (c_g24_3 : Nat → Int32) (H : Heap) (locs : List Loc) (ls : Array Slot), 12 - x4_3.toInt < (n_3 : Int) → (1 ≤ x3_3.toInt) → (x3_3.toInt ≤ s3.toInt) → (0 ≤ x4_3.toInt) → (x4_3.toInt ≤ x3_3.toInt) → (bfs (fun x y => sumI (lfI f5 f6 f7 f8 f10 f22 x y) s4.toNatClampNeg) c_g23_3 c_g24_3 a1 s3.toInt x3_3.toNatClampNeg) → (bsr (fun x y : Nat => 1 ≤ sumI (lfI f5 f6 f7 f8 f10 f22 (x : Int) (y : Int)) s4.toNatClampNeg) s3.toNatClampNeg a1.toNatClampNeg a2.toNatClampNeg x4_3.toNatClampNeg 0 (nF c_g23_3) x3_3.toNatClampNeg (nF c_g24_3)) → (rng c_g23_3 12 (0) (11)) → (rng c_g24_3 12 (0) (11)) → pd_2 D vwCl A [ob12_0_ mo s0 s1 t2 s3 s4 g5 g6 g7 g8 g9 g10 s11 g12 g13 g14 g15 g16 g17 g18 g19 g20 s21 g22 g23 g24 s25 s26 s27 s28 g29 g30 g31 g32 g33, ai_ cy g5 40 f5, ai_ cy g6 40 f6, ai_ cy g7 40 f7, ai_ cy g8 40 f8, az_ cy g10 40 f10, ai_ cy g22 40 f22, ai_ cy g23 12 c_g23_3, ai_ cy g24 12 c_g24_3] H → va_S A s.heap H locs → lv_has ls 6 [(4, .int x4_3), (3, .int x3_3), (0, .ref mo), (1, .int a1), (2, .int a2)] → W p l e ({ frames := 4, cells := 0, slots := 0, locals := 93 } : Room) s m (([.ref mo, .int a1, .int a2] : List Value).toArray) below meth c H locs 0 0 Q (F0 m 12 ls []) from LOOP_3 ((12 - (0 : Int32).toInt).toNat + 1) (0 : Int32) (1 : Int32) f_2 f24 _ _ _ (by omega) (by first | with_reducible assumption | omega | assumption) (by first | with_reducible assumption | omega | assumption) (by first | with_reducible assumption | omega | assumption) (by first | with_reducible assumption | omega | assumption) (by first | with_reducible assumption | assumption | exact hb1) (by first | exact hbs0_ | exact bsr_nxt v_none (by omega) (by omega) (by omega)) (by first | with_reducible assumption | assumption | exact rng_zero (by omega) (by omega) | exact orng_zero) (by first | with_reducible assumption | assumption | exact rng_zero (by omega) (by omega) | exact orng_zero) ⟨hP, hD⟩ hS (lv_sub hl [0, 1, 2, 3, 4] rfl)
  intro n_3
  induction n_3 with
  | zero =>
    intro x4_3 x3_3 c_g23_3 c_g24_3 H locs ls hm v0_3 v1_3 v2_3 v3_3 v4_3 v5_3 rc_g23_3 rc_g24_3 hPD hS hl; obtain ⟨hP, hD⟩ := hPD
    exact absurd hm (by omega)
  | succ n_3 ih_3 =>
    intro x4_3 x3_3 c_g23_3 c_g24_3 H locs ls hm v0_3 v1_3 v2_3 v3_3 v4_3 v5_3 rc_g23_3 rc_g24_3 hPD hS hl; obtain ⟨hP, hD⟩ := hPD
    refine lv_iload hx hb dB_3_1_31.2.1.1.2 (lv_at hl 0 rfl) ?_
    refine lv_iload_n hx hb dB_3_1_31.2.1.2.1 rfl (lv_at hl 1 rfl) ?_
    refine lv_icmp_ge (tgt := 101) hx hb dB_3_1_31.2.1.2.2 (by decide) (fun c_4 => ?_) (fun c_4 => ?_)
    · have t_4 : x3_3.toInt ≤ x4_3.toInt := Int32.le_iff_toInt_le.mp c_4
      refine lv_iconst (v := 0) hx hb dB_3_1_34.2.2.1 (by decide) ?_
      rw [hQ]
      exact W.zret (ty := .boolean) (v := 0) hx hb hr (by decide) (fun t ht hW => ⟨⟨0, 0, rfl, ⟨rfl, Or.inl (⟨by omega, rfl⟩)⟩, c_g23_3, c_g24_3, (fun h => absurd h (by decide)), (fun h => absurd h (by decide)), (fun _ => ⟨_, _, _, _, v5_3, nc_le (by omega) (by omega)⟩), (by assumption), (by assumption), by rw [ht]; exact hP, hD⟩, hS.F ht⟩) hS.2.2 dB_3_1_34.2.2.2
    · have t_4 : ¬ x3_3.toInt ≤ x4_3.toInt := fun h => c_4 (Int32.le_iff_toInt_le.mpr h)
      refine lv_iconst (v := 0) hx hb dB_3_1_31.2.2.1.1 (by decide) ?_
      refine lv_istore (lv' := [(5, .int 0), (4, .int x4_3), (3, .int x3_3), (0, .ref mo), (1, .int a1), (2, .int a2)]) hx hb dB_3_1_31.2.2.1.2 hl (by decide) rfl (fun ls hl => ?_)
      suffices LOOP_5 : ∀ (n_5 : Nat) (x5_5 : Int32) (x3_5 : Int32) (c_g23_5 : Nat → Int32) (c_g24_5 : Nat → Int32) (H : Heap) (locs : List Loc) (ls : Array Slot), s3.toInt - x5_5.toInt < (n_5 : Int) → (1 ≤ x3_5.toInt) → (x3_5.toInt ≤ s3.toInt) → (x4_3.toInt < x3_5.toInt) → (0 ≤ x5_5.toInt) → (x5_5.toInt ≤ s3.toInt) → (bfs (fun x y => sumI (lfI f5 f6 f7 f8 f10 f22 x y) s4.toNatClampNeg) c_g23_5 c_g24_5 a1 s3.toInt x3_5.toNatClampNeg) → (bsr (fun x y : Nat => 1 ≤ sumI (lfI f5 f6 f7 f8 f10 f22 (x : Int) (y : Int)) s4.toNatClampNeg) s3.toNatClampNeg a1.toNatClampNeg a2.toNatClampNeg x4_3.toNatClampNeg x5_5.toNatClampNeg (nF c_g23_5) x3_5.toNatClampNeg (nF c_g24_5)) → (rng c_g23_5 12 (0) (11)) → (rng c_g24_5 12 (0) (11)) → pd_2 D vwCl A [ob12_0_ mo s0 s1 t2 s3 s4 g5 g6 g7 g8 g9 g10 s11 g12 g13 g14 g15 g16 g17 g18 g19 g20 s21 g22 g23 g24 s25 s26 s27 s28 g29 g30 g31 g32 g33, ai_ cy g5 40 f5, ai_ cy g6 40 f6, ai_ cy g7 40 f7, ai_ cy g8 40 f8, az_ cy g10 40 f10, ai_ cy g22 40 f22, ai_ cy g23 12 c_g23_5, ai_ cy g24 12 c_g24_5] H → va_S A s.heap H locs → lv_has ls 6 [(5, .int x5_5), (4, .int x4_3), (3, .int x3_5), (0, .ref mo), (1, .int a1), (2, .int a2)] → W p l e ({ frames := 4, cells := 0, slots := 0, locals := 93 } : Room) s m (([.ref mo, .int a1, .int a2] : List Value).toArray) below meth c H locs 0 0 Q (F0 m 21 ls []) from LOOP_5 ((s3.toInt - (0 : Int32).toInt).toNat + 1) (0 : Int32) x3_3 c_g23_3 c_g24_3 _ _ _ (by omega) (by first | with_reducible assumption | omega | assumption) (by first | with_reducible assumption | omega | assumption) (by first | with_reducible assumption | omega | assumption) (by first | with_reducible assumption | omega | assumption) (by first | with_reducible assumption | omega | assumption) (by first | with_reducible assumption | assumption | exact bfs_eq hb2 (by omega) (by omega)) (by first | exact v5_3 | exact hbs2_ _ _ (by omega) (by omega) | exact bsr_old v_none (by omega) (by omega) (by omega) (nc_lt (x := x4_3) (P := x3_3) (by omega) (by omega)) (Or.inl (mmq_of (hme_ (by omega)))) | exact bsr_old v_none (by omega) (by omega) (by omega) (nc_lt (x := x4_3) (P := x3_3) (by omega) (by omega)) (Or.inr (fun h_ => absurd (hrf_.mp h_) (by omega)))) (by first | with_reducible assumption | assumption | exact rng_zero (by omega) (by omega) | exact orng_zero) (by first | with_reducible assumption | assumption | exact rng_zero (by omega) (by omega) | exact orng_zero) ⟨hP, hD⟩ hS (lv_sub hl [0, 1, 2, 3, 4, 5] rfl)
      intro n_5
      induction n_5 with
      | zero =>
        intro x5_5 x3_5 c_g23_5 c_g24_5 H locs ls hm v0_5 v1_5 v2_5 v3_5 v4_5 v5_5 v6_5 rc_g23_5 rc_g24_5 hPD hS hl; obtain ⟨hP, hD⟩ := hPD
        exact absurd hm (by omega)
      | succ n_5 ih_5 =>
        intro x5_5 x3_5 c_g23_5 c_g24_5 H locs ls hm v0_5 v1_5 v2_5 v3_5 v4_5 v5_5 v6_5 rc_g23_5 rc_g24_5 hPD hS hl; obtain ⟨hP, hD⟩ := hPD
        refine lv_iload hx hb dB_3_1_31.2.2.2.1 (lv_at hl 0 rfl) ?_
        refine lv_aload_n hx hb dB_3_1_31.2.2.2.2 rfl (lv_at hl 3 rfl) ?_
        refine va_get (ci := 12) (v := .int s3) (C := RX12) (T := TX12) (N := 34) hx hb hts (fun _ h => List.mem_cons_of_mem _ (List.mem_append_right _ h)) hown hK.1 hP 0 rfl rfl 3 (by decide) (hts (.fieldLink RX12 88 "CutAtlasModel" "places" "I") (List.mem_of_getElem? (i := 2) rfl)) (fun _ h9 => h9) rfl dB_3_1_32.1.1.1.1 ?_
        refine lv_icmp_ge (tgt := 95) hx hb dB_3_1_32.1.1.1.2 (by decide) (fun c_6 => ?_) (fun c_6 => ?_)
        · have t_6 : s3.toInt ≤ x5_5.toInt := Int32.le_iff_toInt_le.mp c_6
          obtain ⟨y_7, ey_7⟩ : ∃ y : Int32, y = x4_3 + 1 := ⟨_, rfl⟩
          have ty_7 : y_7.toInt = x4_3.toInt + (1 : Int32).toInt := by rw [ey_7]; exact addI (by omega) (by omega)
          refine lv_iinc (v := y_7) (lv' := [(4, .int y_7), (5, .int x5_5), (3, .int x3_5), (0, .ref mo), (1, .int a1), (2, .int a2)]) hx hb dB_3_1_34.2.1.1 hl (k := 1) rfl (by rw [ey_7]; rfl) (by decide) rfl (fun ls hl => ?_)
          refine lv_goto (tgt := 12) hx hb dB_3_1_34.2.1.2 (by decide) ?_
          exact ih_3 y_7 x3_5 c_g23_5 c_g24_5 _ _ _ (by omega) (by first | with_reducible assumption | omega | assumption) (by first | with_reducible assumption | omega | assumption) (by first | with_reducible assumption | omega | assumption) (by first | with_reducible assumption | omega | assumption) (by first | with_reducible assumption | assumption | exact hb1) (by first | exact hbs0_ | exact bsr_nxt v6_5 (by omega) (by omega) (by omega)) (by first | with_reducible assumption | assumption | exact rng_zero (by omega) (by omega) | exact orng_zero) (by first | with_reducible assumption | assumption | exact rng_zero (by omega) (by omega) | exact orng_zero) ⟨hP, hD⟩ hS (lv_sub hl [0, 2, 3, 4, 5] rfl)
        · have t_6 : ¬ s3.toInt ≤ x5_5.toInt := fun h => c_6 (Int32.le_iff_toInt_le.mpr h)
          refine lv_aload_n hx hb dB_3_1_32.1.1.2.1 rfl (lv_at hl 3 rfl) ?_
          refine lv_iload hx hb dB_3_1_32.1.1.2.2 (lv_at hl 0 rfl) ?_
          refine lv_iload_n hx hb dB_3_1_32.1.2.1.1 rfl (lv_at hl 2 rfl) ?_
          refine ct_R hP hD [ob12_0_ mo s0 s1 t2 s3 s4 g5 g6 g7 g8 g9 g10 s11 g12 g13 g14 g15 g16 g17 g18 g19 g20 s21 g22 g23 g24 s25 s26 s27 s28 g29 g30 g31 g32 g33, ai_ cy g23 12 c_g23_5] [0, 7] (by decide) rfl (fun hPc hDw => ?_)
          have hFc := va_free (wc := []) hD hS hA [] rfl
          refine va_calli (va_runV (As := [.int x5_5, .int x3_5]) (rest := []) ⟨hx, hb, hml, hown, hts⟩ (c_X12_isMet3 l D cy H.size mo g5 g6 g7 g8 g9 g10 g12 g13 g14 g15 g16 g17 g18 g19 g20 g22 g23 g24 g29 g30 g31 g32 g33 s0 s1 s3 s4 s11 s21 s25 s26 s27 s28 t2 c_g23_5 x5_5 x3_5 (by first | with_reducible assumption | omega | assumption)) (cwV 2 hts gX12_hasWay_X12_isMet rfl rfl rfl ⟨rfl, hd_X12_isMet⟩ ⟨Nat.le_of_ble_eq_true rfl, Nat.le_of_ble_eq_true rfl⟩) ⟨bl_, va_recvX hK.1 hP (ci := 12) (q0 := 0) rfl rfl, fun U hU hW => ⟨rfl, by rw [hU], by rw [hU]; exact hPc, kk_mv hW hK, hDw⟩⟩ rfl rfl hl.1 rfl (lv_room (Nat.le_of_ble_eq_true rfl)) dB_3_1_32.1.2.1.2 ⟨Nat.le_of_ble_eq_true rfl, Nat.le_of_ble_eq_true rfl⟩) hS (fun q _ h => hFc q h) hFc (fun r_8 u t H locs ht hvm hw hB hz1 hk1 hS => ?_)
          have hP : va_P D vwCl _ H := ro_keep hP hk1
          obtain ⟨f0_r_8, f1_r_8, f2_r_8⟩ := hw
          have hm_ := f1_r_8
          have hme_ := f2_r_8
          refine lv_if_ne (tgt := 89) hx hb dB_3_1_32.1.2.2.1 (by decide) (fun c_9 => ?_) (fun c_9 => ?_)
          · have t_9 : ¬ r_8.toInt = (0 : Int32).toInt := fun h => c_9 (Int32.toInt_inj.mp h)
            first | (have hbs2_ : ∀ m2 y2 : Int32, m2.toInt = S[m].toInt + 1 → y2.toInt = x5_5.toInt + 1 → bsr (fun x y : Nat => 1 ≤ sumI (lfI f5 f6 f7 f8 f10 f22 (x : Int) (y : Int)) s4.toNatClampNeg) s3.toNatClampNeg a1.toNatClampNeg a2.toNatClampNeg x4_3.toNatClampNeg y2.toNatClampNeg (nF c_g23_5) m2.toNatClampNeg (nF c_g24_5) := fun m2 y2 em ey => bsr_new v6_5 (by omega) (by omega) (by omega) S[lh] hnm_ hrr_ (nc_ne (by omega) (by omega) (by omega)) S[eq] S[ec] hvx_ em ey (by omega)) | skip
            obtain ⟨y_10, ey_10⟩ : ∃ y : Int32, y = x5_5 + 1 := ⟨_, rfl⟩
            have ty_10 : y_10.toInt = x5_5.toInt + (1 : Int32).toInt := by rw [ey_10]; exact addI (by omega) (by omega)
            refine lv_iinc (v := y_10) (lv' := [(5, .int y_10), (4, .int x4_3), (3, .int x3_5), (0, .ref mo), (1, .int a1), (2, .int a2)]) hx hb dB_3_1_34.1.2.1 hl (k := 0) rfl (by rw [ey_10]; rfl) (by decide) rfl (fun ls hl => ?_)
            refine lv_goto (tgt := 21) hx hb dB_3_1_34.1.2.2 (by decide) ?_
            exact ih_5 y_10 x3_5 c_g23_5 c_g24_5 _ _ _ (by omega) (by first | with_reducible assumption | omega | assumption) (by first | with_reducible assumption | omega | assumption) (by first | with_reducible assumption | omega | assumption) (by first | with_reducible assumption | omega | assumption) (by first | with_reducible assumption | omega | assumption) (by first | with_reducible assumption | assumption | exact bfs_eq hb2 (by omega) (by omega)) (by first | exact v5_3 | exact hbs2_ _ _ (by omega) (by omega) | exact bsr_old v6_5 (by omega) (by omega) (by omega) (nc_lt (x := x4_3) (P := x3_5) (by omega) (by omega)) (Or.inl (mmq_of (hme_ (by omega)))) | exact bsr_old v6_5 (by omega) (by omega) (by omega) (nc_lt (x := x4_3) (P := x3_5) (by omega) (by omega)) (Or.inr (fun h_ => absurd (hrf_.mp h_) (by omega)))) (by first | with_reducible assumption | assumption | exact rng_zero (by omega) (by omega) | exact orng_zero) (by first | with_reducible assumption | assumption | exact rng_zero (by omega) (by omega) | exact orng_zero) ⟨hP, hD⟩ hS (lv_sub hl [0, 1, 2, 3, 4, 5] rfl)
          · have t_9 : r_8.toInt = (0 : Int32).toInt := congrArg Int32.toInt c_9
            have hf_ := hm_ (by omega)
            refine lv_aload_n hx hb dB_3_1_32.1.2.2.2 rfl (lv_at hl 3 rfl) ?_
            refine lv_aload_n hx hb dB_3_1_32.2.1.1.1 rfl (lv_at hl 3 rfl) ?_
            refine va_get (ci := 12) (v := .ref g23) (C := RX12) (T := TX12) (N := 34) hx hb hts (fun _ h => List.mem_cons_of_mem _ (List.mem_append_right _ h)) hown hK.1 hP 0 rfl rfl 23 (by decide) (hts (.fieldLink RX12 64 "CutAtlasModel" "queue" "[I") (List.mem_of_getElem? (i := 1) rfl)) (fun _ h9 => h9) rfl dB_3_1_32.2.1.1.2 ?_
            refine lv_iload hx hb dB_3_1_32.2.1.2.1 (lv_at hl 1 rfl) ?_
            have h_11 : vp_in x4_3 12 := in_I (by first | with_reducible assumption | omega) (by omega)
            refine va_iald hx hb hK.1 hP 7 0 rfl rfl (i := x4_3) h_11 dB_3_1_32.2.1.2.2 ?_
            refine lv_topi (fun y_12 ey_12 => ?_)
            have ry_12 : 0 ≤ y_12.toInt ∧ y_12.toInt ≤ 11 := by rw [ey_12]; exact rc_g23_5 _ (in_lt h_11)
            refine lv_iload hx hb dB_3_1_32.2.2.1.1 (lv_at hl 0 rfl) ?_
            refine ct_R hP hD [ob12_0_ mo s0 s1 t2 s3 s4 g5 g6 g7 g8 g9 g10 s11 g12 g13 g14 g15 g16 g17 g18 g19 g20 s21 g22 g23 g24 s25 s26 s27 s28 g29 g30 g31 g32 g33, ai_ cy g5 40 f5, ai_ cy g6 40 f6, ai_ cy g7 40 f7, ai_ cy g8 40 f8, az_ cy g10 40 f10, ai_ cy g22 40 f22] [0, 1, 2, 3, 4, 5, 6] (by decide) rfl (fun hPc hDw => ?_)
            have hFc := va_free (wc := []) hD hS hA [] rfl
            refine va_calli (va_runV (As := [.int y_12, .int x5_5]) (rest := []) ⟨hx, hb, hml, hown, hts⟩ (c_X12_leftOf l D cy H.size mo g5 g6 g7 g8 g9 g10 g12 g13 g14 g15 g16 g17 g18 g19 g20 g22 g23 g24 g29 g30 g31 g32 g33 s0 s1 s3 s4 s11 s21 s25 s26 s27 s28 t2 f5 f6 f7 f8 f10 f22 y_12 x5_5 (by first | with_reducible assumption | omega | assumption) (by first | with_reducible assumption | omega | assumption) (by first | with_reducible assumption | assumption | omega) (by first | with_reducible assumption | assumption | omega)) (cwV 2 hts gX12_hasWay_X12_leftOf rfl rfl rfl ⟨rfl, hd_X12_leftOf⟩ ⟨Nat.le_of_ble_eq_true rfl, Nat.le_of_ble_eq_true rfl⟩) ⟨bl_, va_recvX hK.1 hP (ci := 12) (q0 := 0) rfl rfl, fun U hU hW => ⟨rfl, by rw [hU], by rw [hU]; exact hPc, kk_mv hW hK, hDw⟩⟩ rfl rfl hl.1 rfl (lv_room (Nat.le_of_ble_eq_true rfl)) dB_3_1_32.2.2.1.2 ⟨Nat.le_of_ble_eq_true rfl, Nat.le_of_ble_eq_true rfl⟩) hS (fun q _ h => hFc q h) hFc (fun r_13 u t H locs ht hvm hw hB hz1 hk1 hS => ?_)
            have hP : va_P D vwCl _ H := ro_keep hP hk1
            obtain ⟨f0_r_13, f1_r_13⟩ := hw
            have hlo_ := f0_r_13
            have hxk_ : ((nF c_g23_5 x4_3.toNatClampNeg : Nat) : Int) = y_12.toInt := by rw [ey_12]; exact clI (by rw [← ey_12]; omega)
            have hc5_ := clI (i := x5_5) (by omega)
            have hrf_ : ((1 : Int) ≤ sumI (lfI f5 f6 f7 f8 f10 f22 ((nF c_g23_5 x4_3.toNatClampNeg : Nat) : Int) ((x5_5.toNatClampNeg : Nat) : Int)) s4.toNatClampNeg) ↔ (1 : Int) ≤ r_13.toInt := by rw [hxk_, hc5_, hlo_]
            refine lv_if_le (tgt := 89) hx hb dB_3_1_32.2.2.2.1 (by decide) (fun c_14 => ?_) (fun c_14 => ?_)
            · have t_14 : r_13.toInt ≤ (0 : Int32).toInt := Int32.le_iff_toInt_le.mp c_14
              first | (have hbs2_ : ∀ m2 y2 : Int32, m2.toInt = S[m].toInt + 1 → y2.toInt = x5_5.toInt + 1 → bsr (fun x y : Nat => 1 ≤ sumI (lfI f5 f6 f7 f8 f10 f22 (x : Int) (y : Int)) s4.toNatClampNeg) s3.toNatClampNeg a1.toNatClampNeg a2.toNatClampNeg x4_3.toNatClampNeg y2.toNatClampNeg (nF c_g23_5) m2.toNatClampNeg (nF c_g24_5) := fun m2 y2 em ey => bsr_new v6_5 (by omega) (by omega) (by omega) S[lh] hnm_ hrr_ (nc_ne (by omega) (by omega) (by omega)) S[eq] S[ec] hvx_ em ey (by omega)) | skip
              obtain ⟨y_15, ey_15⟩ : ∃ y : Int32, y = x5_5 + 1 := ⟨_, rfl⟩
              have ty_15 : y_15.toInt = x5_5.toInt + (1 : Int32).toInt := by rw [ey_15]; exact addI (by omega) (by omega)
              refine lv_iinc (v := y_15) (lv' := [(5, .int y_15), (4, .int x4_3), (3, .int x3_5), (0, .ref mo), (1, .int a1), (2, .int a2)]) hx hb dB_3_1_34.1.2.1 hl (k := 0) rfl (by rw [ey_15]; rfl) (by decide) rfl (fun ls hl => ?_)
              refine lv_goto (tgt := 21) hx hb dB_3_1_34.1.2.2 (by decide) ?_
              exact ih_5 y_15 x3_5 c_g23_5 c_g24_5 _ _ _ (by omega) (by first | with_reducible assumption | omega | assumption) (by first | with_reducible assumption | omega | assumption) (by first | with_reducible assumption | omega | assumption) (by first | with_reducible assumption | omega | assumption) (by first | with_reducible assumption | omega | assumption) (by first | with_reducible assumption | assumption | exact bfs_eq hb2 (by omega) (by omega)) (by first | exact v5_3 | exact hbs2_ _ _ (by omega) (by omega) | exact bsr_old v6_5 (by omega) (by omega) (by omega) (nc_lt (x := x4_3) (P := x3_5) (by omega) (by omega)) (Or.inl (mmq_of (hme_ (by omega)))) | exact bsr_old v6_5 (by omega) (by omega) (by omega) (nc_lt (x := x4_3) (P := x3_5) (by omega) (by omega)) (Or.inr (fun h_ => absurd (hrf_.mp h_) (by omega)))) (by first | with_reducible assumption | assumption | exact rng_zero (by omega) (by omega) | exact orng_zero) (by first | with_reducible assumption | assumption | exact rng_zero (by omega) (by omega) | exact orng_zero) ⟨hP, hD⟩ hS (lv_sub hl [0, 1, 2, 3, 4, 5] rfl)
            · have t_14 : ¬ r_13.toInt ≤ (0 : Int32).toInt := fun h => c_14 (Int32.le_iff_toInt_le.mpr h)
              have hroom : x3_5.toInt < s3.toInt := bfs_room (q := c_g23_5) (cf := c_g24_5) (by assumption) (by omega) (by omega) (by omega) hf_
              have hnm_ : ¬ mmq (nF c_g23_5) x3_5.toNatClampNeg x5_5.toNatClampNeg := mmq_no hf_ (by omega) (by assumption) (by omega)
              have hrr_ := hrf_.mpr (by omega)
              refine lv_aload_n hx hb dB_3_1_32.2.2.2.2 rfl (lv_at hl 3 rfl) ?_
              refine va_get (ci := 12) (v := .ref g23) (C := RX12) (T := TX12) (N := 34) hx hb hts (fun _ h => List.mem_cons_of_mem _ (List.mem_append_right _ h)) hown hK.1 hP 0 rfl rfl 23 (by decide) (hts (.fieldLink RX12 64 "CutAtlasModel" "queue" "[I") (List.mem_of_getElem? (i := 1) rfl)) (fun _ h9 => h9) rfl dB_3_1_33.1.1.1.1 ?_
              refine lv_iload_n hx hb dB_3_1_33.1.1.1.2 rfl (lv_at hl 2 rfl) ?_
              refine lv_iload hx hb dB_3_1_33.1.1.2.1 (lv_at hl 0 rfl) ?_
              have h_16 : vp_in x3_5 12 := in_I (by first | with_reducible assumption | omega) (by omega)
              refine va_iast hx hb hK.1 hP hD hS 7 0 rfl rfl (i := x3_5) h_16 dB_3_1_33.1.1.2.2 (fun H locs hP hD hS => ?_)
              obtain ⟨f_17, ef_17⟩ : ∃ g : Nat → Int32, g = upd c_g23_5 x3_5.toNatClampNeg x5_5 := ⟨_, rfl⟩
              refine pd_K (D := D) (cl := vwCl) (H := H) (A := A) [ob12_0_ mo s0 s1 t2 s3 s4 g5 g6 g7 g8 g9 g10 s11 g12 g13 g14 g15 g16 g17 g18 g19 g20 s21 g22 g23 g24 s25 s26 s27 s28 g29 g30 g31 g32 g33, ai_ cy g5 40 f5, ai_ cy g6 40 f6, ai_ cy g7 40 f7, ai_ cy g8 40 f8, az_ cy g10 40 f10, ai_ cy g22 40 f22, ai_ cy g23 12 f_17, ai_ cy g24 12 c_g24_5] (by rw [ef_17]; exact hP) (by rw [ef_17]; exact hD) (fun hP hD => ?_)
              have rf_17 : rng f_17 12 (0) (11) := by rw [ef_17]; exact rng_upd rc_g23_5 (by omega) (by omega)
              obtain ⟨y_18, ey_18⟩ : ∃ y : Int32, y = x3_5 + 1 := ⟨_, rfl⟩
              have ty_18 : y_18.toInt = x3_5.toInt + (1 : Int32).toInt := by rw [ey_18]; exact addI (by omega) (by omega)
              refine lv_iinc (v := y_18) (lv' := [(3, .int y_18), (5, .int x5_5), (4, .int x4_3), (0, .ref mo), (1, .int a1), (2, .int a2)]) hx hb dB_3_1_33.1.2.1.1 hl (k := 2) rfl (by rw [ey_18]; rfl) (by decide) rfl (fun ls hl => ?_)
              refine lv_aload_n hx hb dB_3_1_33.1.2.1.2 rfl (lv_at hl 3 rfl) ?_
              refine va_get (ci := 12) (v := .ref g24) (C := RX12) (T := TX12) (N := 34) hx hb hts (fun _ h => List.mem_cons_of_mem _ (List.mem_append_right _ h)) hown hK.1 hP 0 rfl rfl 24 (by decide) (hts (.fieldLink RX12 67 "CutAtlasModel" "cameFrom" "[I") (List.mem_of_getElem? (i := 3) rfl)) (fun _ h9 => h9) rfl dB_3_1_33.1.2.2.1 ?_
              refine lv_iload hx hb dB_3_1_33.1.2.2.2 (lv_at hl 1 rfl) ?_
              refine lv_aload_n hx hb dB_3_1_33.2.1.1.1 rfl (lv_at hl 3 rfl) ?_
              refine va_get (ci := 12) (v := .ref g23) (C := RX12) (T := TX12) (N := 34) hx hb hts (fun _ h => List.mem_cons_of_mem _ (List.mem_append_right _ h)) hown hK.1 hP 0 rfl rfl 23 (by decide) (hts (.fieldLink RX12 64 "CutAtlasModel" "queue" "[I") (List.mem_of_getElem? (i := 1) rfl)) (fun _ h9 => h9) rfl dB_3_1_33.2.1.1.2 ?_
              refine lv_iload hx hb dB_3_1_33.2.1.2.1 (lv_at hl 2 rfl) ?_
              refine va_iald hx hb hK.1 hP 7 0 rfl rfl (i := x4_3) h_11 dB_3_1_33.2.1.2.2 ?_
              refine lv_topi (fun y_20 ey_20 => ?_)
              have ry_20 : 0 ≤ y_20.toInt ∧ y_20.toInt ≤ 11 := by rw [ey_20]; exact rf_17 _ (in_lt h_11)
              have hvx_ : y_20 = c_g23_5 x4_3.toNatClampNeg := ey_20.trans (by rw [ef_17, pk_un (Nat.ne_of_lt (nc_lt (x := x4_3) (P := x3_5) (by omega) (by omega)))])
              have h_21 : vp_in x5_5 12 := in_I (by first | with_reducible assumption | omega) (by omega)
              refine va_iast hx hb hK.1 hP hD hS 8 0 rfl rfl (i := x5_5) h_21 dB_3_1_33.2.2.1.1 (fun H locs hP hD hS => ?_)
              obtain ⟨f_22, ef_22⟩ : ∃ g : Nat → Int32, g = upd c_g24_5 x5_5.toNatClampNeg y_20 := ⟨_, rfl⟩
              refine pd_K (D := D) (cl := vwCl) (H := H) (A := A) [ob12_0_ mo s0 s1 t2 s3 s4 g5 g6 g7 g8 g9 g10 s11 g12 g13 g14 g15 g16 g17 g18 g19 g20 s21 g22 g23 g24 s25 s26 s27 s28 g29 g30 g31 g32 g33, ai_ cy g5 40 f5, ai_ cy g6 40 f6, ai_ cy g7 40 f7, ai_ cy g8 40 f8, az_ cy g10 40 f10, ai_ cy g22 40 f22, ai_ cy g23 12 f_17, ai_ cy g24 12 f_22] (by rw [ef_22]; exact hP) (by rw [ef_22]; exact hD) (fun hP hD => ?_)
              have rf_22 : rng f_22 12 (0) (11) := by rw [ef_22]; exact rng_upd rc_g24_5 (by omega) (by omega)
              have hb2 : bfs (fun x y => sumI (lfI f5 f6 f7 f8 f10 f22 x y) s4.toNatClampNeg) f_17 f_22 a1 s3.toInt (x3_5.toNatClampNeg + 1) := bfs_push2 (m := x3_5) (k := x4_3) (y := x5_5) (by assumption) (by assumption) (by assumption) (by assumption) (by assumption) (by omega) (by omega) (by omega) (by omega) (by omega) hf_ (pos_of hlo_ (by omega))
              refine lv_iload hx hb dB_3_1_33.2.2.1.2 (lv_at hl 1 rfl) ?_
              refine lv_iload_n hx hb dB_3_1_33.2.2.2.1 rfl (lv_at hl 5 rfl) ?_
              refine lv_icmp_ne (tgt := 89) hx hb dB_3_1_33.2.2.2.2 (by decide) (fun c_23 => ?_) (fun c_23 => ?_)
              · have t_23 : ¬ x5_5.toInt = a2.toInt := fun h => c_23 (Int32.toInt_inj.mp h)
                first | (have hbs2_ : ∀ m2 y2 : Int32, m2.toInt = x3_5.toInt + 1 → y2.toInt = x5_5.toInt + 1 → bsr (fun x y : Nat => 1 ≤ sumI (lfI f5 f6 f7 f8 f10 f22 (x : Int) (y : Int)) s4.toNatClampNeg) s3.toNatClampNeg a1.toNatClampNeg a2.toNatClampNeg x4_3.toNatClampNeg y2.toNatClampNeg (nF f_17) m2.toNatClampNeg (nF f_22) := fun m2 y2 em ey => bsr_new v6_5 (by omega) (by omega) (by omega) (nc_lt (x := x4_3) (P := x3_5) (by omega) (by omega)) hnm_ hrr_ (nc_ne (by omega) (by omega) (by omega)) ef_17 ef_22 hvx_ em ey (by omega)) | skip
                obtain ⟨y_24, ey_24⟩ : ∃ y : Int32, y = x5_5 + 1 := ⟨_, rfl⟩
                have ty_24 : y_24.toInt = x5_5.toInt + (1 : Int32).toInt := by rw [ey_24]; exact addI (by omega) (by omega)
                refine lv_iinc (v := y_24) (lv' := [(5, .int y_24), (3, .int y_18), (4, .int x4_3), (0, .ref mo), (1, .int a1), (2, .int a2)]) hx hb dB_3_1_34.1.2.1 hl (k := 1) rfl (by rw [ey_24]; rfl) (by decide) rfl (fun ls hl => ?_)
                refine lv_goto (tgt := 21) hx hb dB_3_1_34.1.2.2 (by decide) ?_
                exact ih_5 y_24 y_18 f_17 f_22 _ _ _ (by omega) (by first | with_reducible assumption | omega | assumption) (by first | with_reducible assumption | omega | assumption) (by first | with_reducible assumption | omega | assumption) (by first | with_reducible assumption | omega | assumption) (by first | with_reducible assumption | omega | assumption) (by first | with_reducible assumption | assumption | exact bfs_eq hb2 (by omega) (by omega)) (by first | exact v5_3 | exact hbs2_ _ _ (by omega) (by omega) | exact bsr_old v6_5 (by omega) (by omega) (by omega) (nc_lt (x := x4_3) (P := y_18) (by omega) (by omega)) (Or.inl (mmq_of (hme_ (by omega)))) | exact bsr_old v6_5 (by omega) (by omega) (by omega) (nc_lt (x := x4_3) (P := y_18) (by omega) (by omega)) (Or.inr (fun h_ => absurd (hrf_.mp h_) (by omega)))) (by first | with_reducible assumption | assumption | exact rng_zero (by omega) (by omega) | exact orng_zero) (by first | with_reducible assumption | assumption | exact rng_zero (by omega) (by omega) | exact orng_zero) ⟨hP, hD⟩ hS (lv_sub hl [0, 2, 1, 3, 4, 5] rfl)
              · have t_23 : x5_5.toInt = a2.toInt := congrArg Int32.toInt c_23
                refine lv_iconst (v := 1) hx hb dB_3_1_34.1.1.1 (by decide) ?_
                rw [hQ]
                exact W.zret (ty := .boolean) (v := 1) hx hb hr (by decide) (fun t ht hW => ⟨⟨1, 1, rfl, ⟨rfl, Or.inr (⟨by omega, rfl⟩)⟩, f_17, f_22, (fun _ => ⟨x3_5.toNatClampNeg, hb2, at_last (by assumption) (by assumption)⟩), (fun _ => fnd_mk v6_5 (show a2 = x5_5 from Int32.toInt_inj.mp (by omega)) (nc_lt (x := x4_3) (P := x3_5) (by omega) (by omega)) (nc_lt (by omega) (by omega)) hnm_ hrr_ ef_22 hvx_), (fun h => absurd h (by decide)), (by assumption), (by assumption), by rw [ht]; exact hP, hD⟩, hS.F ht⟩) hS.2.2 dB_3_1_34.1.1.2
end

section
set_option maxHeartbeats 4000000 in
set_option maxRecDepth 100000 in
theorem c_X0_sendOver3 (l : Launch) (D : va_G) (cy : Nat → ClassId) (sz : Nat) (xc : Nat) (xk : Nat) (clo : Nat) (cro : Nat) (c4 : Nat) (c5 : Nat) (c6 : Nat) (c7 : Nat) (c8 : Nat) (xn : Nat) (n1 : Nat) (n2 : Nat) (n3 : Nat) (n4 : Nat) (n5 : Nat) (vp : Int32) (vn : Int32) (fs : Nat → Int32) (fe : Nat → Int32) (rr : Nat → Nat) (Mr : Nat → Nat → Int32) (f4 : Nat → Int32) (f5 : Nat → Int32) (f6 : Nat → Int32) (a1 : Int32) (a2 : Int32) (a3 : Int32) (hvp : 0 ≤ vp.toInt ∧ vp.toInt ≤ 12) (hvn : 0 ≤ vn.toInt ∧ vn.toInt ≤ 40) (q1 : 0 ≤ a1.toInt ∧ a1.toInt < vp.toInt) (q2 : 0 ≤ a2.toInt ∧ a2.toInt < vp.toInt) (hrm : rmk (zM Mr) vp.toNatClampNeg) (ha : 0 ≤ a3.toInt ∧ a3.toInt ≤ zM Mr a1.toNatClampNeg a2.toNatClampNeg) (hne : a1.toInt ≠ a2.toInt) (hk : flK (kF f5) (kF f6) (gN vn.toNatClampNeg (gF fs)) (kF f4)) (hpr : prng fs fe 40) : Met l yX0_sendOver wsX0_sendOver ({ frames := 1, cells := 0, slots := 0, locals := 13 }) (va_Pc [.ref xc, .int a1, .int a2, .int a3] (fun U => U.heap.size = sz ∧ va_P D vwCl [ob0_0_ xc xn xk clo cro c4 c5 c6 c7 c8, ob3_0_ xn vp vn n1 n2 n3 n4 n5, ai_ cy n2 40 fs, ai_ cy n3 40 fe, aq_ cy 6 cro 12 (gf_ rr), ai_ cy (rr 0) 12 (Mr 0), ai_ cy (rr 1) 12 (Mr 1), ai_ cy (rr 2) 12 (Mr 2), ai_ cy (rr 3) 12 (Mr 3), ai_ cy (rr 4) 12 (Mr 4), ai_ cy (rr 5) 12 (Mr 5), ai_ cy (rr 6) 12 (Mr 6), ai_ cy (rr 7) 12 (Mr 7), ai_ cy (rr 8) 12 (Mr 8), ai_ cy (rr 9) 12 (Mr 9), ai_ cy (rr 10) 12 (Mr 10), ai_ cy (rr 11) 12 (Mr 11), ai_ cy c4 40 f4, ai_ cy c5 40 f5, ai_ cy c6 40 f6] U.heap ∧ kg_ D cy U ∧ va_D (fun _ => True) [ob0_0_ xc xn xk clo cro c4 c5 c6 c7 c8, ob3_0_ xn vp vn n1 n2 n3 n4 n5, ai_ cy n2 40 fs, ai_ cy n3 40 fe, aq_ cy 6 cro 12 (gf_ rr), ai_ cy (rr 0) 12 (Mr 0), ai_ cy (rr 1) 12 (Mr 1), ai_ cy (rr 2) 12 (Mr 2), ai_ cy (rr 3) 12 (Mr 3), ai_ cy (rr 4) 12 (Mr 4), ai_ cy (rr 5) 12 (Mr 5), ai_ cy (rr 6) 12 (Mr 6), ai_ cy (rr 7) 12 (Mr 7), ai_ cy (rr 8) 12 (Mr 8), ai_ cy (rr 9) 12 (Mr 9), ai_ cy (rr 10) 12 (Mr 10), ai_ cy (rr 11) 12 (Mr 11), ai_ cy c4 40 f4, ai_ cy c5 40 f5, ai_ cy c6 40 f6])) (va_Qv (fun (_ : Unit) => True) (fun (_ : Unit) (t : State) => ∃ (eMr : Nat → Nat → Int32), ∃ (e4 : Nat → Int32), (edg (zM Mr) (zM eMr) a1.toNatClampNeg a2.toNatClampNeg a3.toInt) ∧ (∀ l : Nat, l < vn.toNatClampNeg → kF e4 l = snF (kF f5) (kF f6) (gN vn.toNatClampNeg (gF fs)) (nF fs) (nF fe) (kF f4) a1.toNatClampNeg a2.toNatClampNeg a3.toInt l) ∧ va_P D vwCl [ob0_0_ xc xn xk clo cro c4 c5 c6 c7 c8, ob3_0_ xn vp vn n1 n2 n3 n4 n5, ai_ cy n2 40 fs, ai_ cy n3 40 fe, aq_ cy 6 cro 12 (gf_ rr), ai_ cy (rr 0) 12 (eMr 0), ai_ cy (rr 1) 12 (eMr 1), ai_ cy (rr 2) 12 (eMr 2), ai_ cy (rr 3) 12 (eMr 3), ai_ cy (rr 4) 12 (eMr 4), ai_ cy (rr 5) 12 (eMr 5), ai_ cy (rr 6) 12 (eMr 6), ai_ cy (rr 7) 12 (eMr 7), ai_ cy (rr 8) 12 (eMr 8), ai_ cy (rr 9) 12 (eMr 9), ai_ cy (rr 10) 12 (eMr 10), ai_ cy (rr 11) 12 (eMr 11), ai_ cy c4 40 e4, ai_ cy c5 40 f5, ai_ cy c6 40 f6] t.heap ∧ va_D (va_A [ob0_0_ xc xn xk clo cro c4 c5 c6 c7 c8, ob3_0_ xn vp vn n1 n2 n3 n4 n5, ai_ cy n2 40 fs, ai_ cy n3 40 fe, aq_ cy 6 cro 12 (gf_ rr), ai_ cy (rr 0) 12 (Mr 0), ai_ cy (rr 1) 12 (Mr 1), ai_ cy (rr 2) 12 (Mr 2), ai_ cy (rr 3) 12 (Mr 3), ai_ cy (rr 4) 12 (Mr 4), ai_ cy (rr 5) 12 (Mr 5), ai_ cy (rr 6) 12 (Mr 6), ai_ cy (rr 7) 12 (Mr 7), ai_ cy (rr 8) 12 (Mr 8), ai_ cy (rr 9) 12 (Mr 9), ai_ cy (rr 10) 12 (Mr 10), ai_ cy (rr 11) 12 (Mr 11), ai_ cy c4 40 f4, ai_ cy c5 40 f5, ai_ cy c6 40 f6] sz) [ob0_0_ xc xn xk clo cro c4 c5 c6 c7 c8, ob3_0_ xn vp vn n1 n2 n3 n4 n5, ai_ cy n2 40 fs, ai_ cy n3 40 fe, aq_ cy 6 cro 12 (gf_ rr), ai_ cy (rr 0) 12 (eMr 0), ai_ cy (rr 1) 12 (eMr 1), ai_ cy (rr 2) 12 (eMr 2), ai_ cy (rr 3) 12 (eMr 3), ai_ cy (rr 4) 12 (eMr 4), ai_ cy (rr 5) 12 (eMr 5), ai_ cy (rr 6) 12 (eMr 6), ai_ cy (rr 7) 12 (eMr 7), ai_ cy (rr 8) 12 (eMr 8), ai_ cy (rr 9) 12 (eMr 9), ai_ cy (rr 10) 12 (eMr 10), ai_ cy (rr 11) 12 (eMr 11), ai_ cy c4 40 e4, ai_ cy c5 40 f5, ai_ cy c6 40 f6]) (va_A [ob0_0_ xc xn xk clo cro c4 c5 c6 c7 c8, ob3_0_ xn vp vn n1 n2 n3 n4 n5, ai_ cy n2 40 fs, ai_ cy n3 40 fe, aq_ cy 6 cro 12 (gf_ rr), ai_ cy (rr 0) 12 (Mr 0), ai_ cy (rr 1) 12 (Mr 1), ai_ cy (rr 2) 12 (Mr 2), ai_ cy (rr 3) 12 (Mr 3), ai_ cy (rr 4) 12 (Mr 4), ai_ cy (rr 5) 12 (Mr 5), ai_ cy (rr 6) 12 (Mr 6), ai_ cy (rr 7) 12 (Mr 7), ai_ cy (rr 8) 12 (Mr 8), ai_ cy (rr 9) 12 (Mr 9), ai_ cy (rr 10) 12 (Mr 10), ai_ cy (rr 11) 12 (Mr 11), ai_ cy c4 40 f4, ai_ cy c5 40 f5, ai_ cy c6 40 f6] sz)) 0 0 (va_A [ob0_0_ xc xn xk clo cro c4 c5 c6 c7 c8, ob3_0_ xn vp vn n1 n2 n3 n4 n5, ai_ cy n2 40 fs, ai_ cy n3 40 fe, aq_ cy 6 cro 12 (gf_ rr), ai_ cy (rr 0) 12 (Mr 0), ai_ cy (rr 1) 12 (Mr 1), ai_ cy (rr 2) 12 (Mr 2), ai_ cy (rr 3) 12 (Mr 3), ai_ cy (rr 4) 12 (Mr 4), ai_ cy (rr 5) 12 (Mr 5), ai_ cy (rr 6) 12 (Mr 6), ai_ cy (rr 7) 12 (Mr 7), ai_ cy (rr 8) 12 (Mr 8), ai_ cy (rr 9) 12 (Mr 9), ai_ cy (rr 10) 12 (Mr 10), ai_ cy (rr 11) 12 (Mr 11), ai_ cy c4 40 f4, ai_ cy c5 40 f5, ai_ cy c6 40 f6] sz) := by
  refine ofQ (cc := cX0_sendOver) (maxL := 7) (ret := none) (by decide) rfl ?_
  intro p e s m args below meth c s₁ Q hQ B hml hv
  obtain ⟨rfl, hsz, hP, hK, hD0⟩ := hv
  have hG := hK.2
  have hK := hK.1
  have hx := B.exec
  have hb := B.bytes
  have hr := B.returns
  have hts := atoms_spec (ws := wsX0_sendOver) B.pre
  have hown : s.vm.findClass RX0 = some m.cls := by have h_ := findClass_of_methodNamed B.named; exact h_
  have hlocks := B.notSynchronized
  subst hsz
  have hD := hD0.self (sz := s.heap.size)
  generalize hAe : va_A [ob0_0_ xc xn xk clo cro c4 c5 c6 c7 c8, ob3_0_ xn vp vn n1 n2 n3 n4 n5, ai_ cy n2 40 fs, ai_ cy n3 40 fe, aq_ cy 6 cro 12 (gf_ rr), ai_ cy (rr 0) 12 (Mr 0), ai_ cy (rr 1) 12 (Mr 1), ai_ cy (rr 2) 12 (Mr 2), ai_ cy (rr 3) 12 (Mr 3), ai_ cy (rr 4) 12 (Mr 4), ai_ cy (rr 5) 12 (Mr 5), ai_ cy (rr 6) 12 (Mr 6), ai_ cy (rr 7) 12 (Mr 7), ai_ cy (rr 8) 12 (Mr 8), ai_ cy (rr 9) 12 (Mr 9), ai_ cy (rr 10) 12 (Mr 10), ai_ cy (rr 11) 12 (Mr 11), ai_ cy c4 40 f4, ai_ cy c5 40 f5, ai_ cy c6 40 f6] s.heap.size = A at hD hQ
  have hA : ∀ q : Nat, s.heap.size ≤ q → A q := fun q h => by rw [← hAe]; exact Or.inr h
  have hS : va_S A s.heap s.heap [] := va_S.rf
  have hl := lv_entry ([.ref xc, .int a1, .int a2, .int a3]) (n := 7) (Nat.le_of_ble_eq_true rfl)
  rw [lg_entry_eq]
  generalize (lg_sl ([.ref xc, .int a1, .int a2, .int a3]) ++ List.replicate (7 - (lg_sl ([.ref xc, .int a1, .int a2, .int a3])).length) Slot.unset).toArray = ls at hl ⊢
  have hl : lv_has ls 7 [(0, .ref xc), (1, .int a1), (2, .int a2), (3, .int a3)] := hl
  have z0 : (0 : Int32).toInt = 0 := by decide
  have z1 : (1 : Int32).toInt = 1 := by decide
  have h12_ := hrm _ _ (nc_lt (x := a1) (P := vp) (by omega) (by omega)) (nc_lt (x := a2) (P := vp) (by omega) (by omega))
  have h21_ := hrm _ _ (nc_lt (x := a2) (P := vp) (by omega) (by omega)) (nc_lt (x := a1) (P := vp) (by omega) (by omega))
  refine lv_aload_n hx hb dB_36_0_39.1.1.1.1 rfl (lv_at hl 0 rfl) ?_
  refine va_get (ci := 0) (v := .ref cro) (C := RX0) (T := TX0) (N := 9) hx hb hts (fun _ h => List.mem_cons_of_mem _ (List.mem_append_left _ (List.mem_append_right _ h))) hown hK.1 hP 0 rfl rfl 3 (by decide) (hts (.fieldLink RX0 16 "CutAtlas$Current" "room" "[[I") (List.mem_of_getElem? (i := 1) rfl)) (fun _ h9 => h9) rfl dB_36_0_39.1.1.1.2 ?_
  refine lv_iload_n hx hb dB_36_0_39.1.1.2.1 rfl (lv_at hl 1 rfl) ?_
  have h_1 : vp_in a1 12 := in_I (by first | with_reducible assumption | omega) (by omega)
  refine va_alda hx hb hG hP 4 rfl (i := a1) h_1 dB_36_0_39.1.1.2.2 ?_
  refine lv_topv (v' := .ref (rr a1.toNatClampNeg)) (gf_at h_1) ?_
  refine lv_iload_n hx hb dB_36_0_39.1.2.1.1 rfl (lv_at hl 2 rfl) ?_
  refine lv_dup2_11 hx hb dB_36_0_39.1.2.1.2 rfl rfl ?_
  have h_2 : vp_in a2 12 := in_I (by first | with_reducible assumption | omega) (by omega)
  have hPg : va_P D vwCl (([ob0_0_ xc xn xk clo cro c4 c5 c6 c7 c8, ob3_0_ xn vp vn n1 n2 n3 n4 n5, ai_ cy n2 40 fs, ai_ cy n3 40 fe, aq_ cy 6 cro 12 (gf_ rr)] : va_W) ++ (gro (cy 0) rr Mr ++ ([ai_ cy c4 40 f4, ai_ cy c5 40 f5, ai_ cy c6 40 f6] : va_W))) s.heap := hP
  refine va_gld (X := [ob0_0_ xc xn xk clo cro c4 c5 c6 c7 c8, ob3_0_ xn vp vn n1 n2 n3 n4 n5, ai_ cy n2 40 fs, ai_ cy n3 40 fe, aq_ cy 6 cro 12 (gf_ rr)]) (Y := [ai_ cy c4 40 f4, ai_ cy c5 40 f5, ai_ cy c6 40 f6]) (r := rr) (M := Mr) (k := a1.toNatClampNeg) hx hb hK.1 hPg 0 rfl (in_lt h_1) (i := a2) h_2 dB_36_0_39.1.2.2.1 ?_
  refine lv_topi (fun y_3 ey_3 => ?_)
  have km1_ : y_3.toInt = zM Mr a1.toNatClampNeg a2.toNatClampNeg := by unfold zM; rw [ey_3]
  refine lv_iload_n hx hb dB_36_0_39.1.2.2.2 rfl (lv_at hl 3 rfl) ?_
  refine lv_isub hx hb dB_36_0_39.2.1.1.1 ?_
  refine lv_topi (fun y_4 ey_4 => ?_)
  have ty_4 : y_4.toInt = y_3.toInt - a3.toInt := by rw [ey_4]; exact subI (by omega) (by omega)
  have h1_ : y_4.toInt = (Mr a1.toNatClampNeg a2.toNatClampNeg).toInt - a3.toInt := by rw [show (Mr a1.toNatClampNeg a2.toNatClampNeg).toInt = zM Mr a1.toNatClampNeg a2.toNatClampNeg from rfl]; omega
  have hPg : va_P D vwCl (([ob0_0_ xc xn xk clo cro c4 c5 c6 c7 c8, ob3_0_ xn vp vn n1 n2 n3 n4 n5, ai_ cy n2 40 fs, ai_ cy n3 40 fe, aq_ cy 6 cro 12 (gf_ rr)] : va_W) ++ (gro (cy 0) rr Mr ++ ([ai_ cy c4 40 f4, ai_ cy c5 40 f5, ai_ cy c6 40 f6] : va_W))) s.heap := hP
  have hDg : va_D A (([ob0_0_ xc xn xk clo cro c4 c5 c6 c7 c8, ob3_0_ xn vp vn n1 n2 n3 n4 n5, ai_ cy n2 40 fs, ai_ cy n3 40 fe, aq_ cy 6 cro 12 (gf_ rr)] : va_W) ++ (gro (cy 0) rr Mr ++ ([ai_ cy c4 40 f4, ai_ cy c5 40 f5, ai_ cy c6 40 f6] : va_W))) := hD
  refine va_gst (X := [ob0_0_ xc xn xk clo cro c4 c5 c6 c7 c8, ob3_0_ xn vp vn n1 n2 n3 n4 n5, ai_ cy n2 40 fs, ai_ cy n3 40 fe, aq_ cy 6 cro 12 (gf_ rr)]) (Y := [ai_ cy c4 40 f4, ai_ cy c5 40 f5, ai_ cy c6 40 f6]) (r := rr) (M := Mr) (k := a1.toNatClampNeg) hx hb hK.1 hPg hDg hS 0 rfl (in_lt h_1) (i := a2) h_2 dB_36_0_39.2.1.1.2 (fun H locs hP hD hS => ?_)
  obtain ⟨M_6, eM_6⟩ : ∃ g : Nat → Nat → Int32, g = va_up Mr a1.toNatClampNeg (upd (Mr a1.toNatClampNeg) a2.toNatClampNeg y_4) := ⟨_, rfl⟩
  refine pd_K (D := D) (cl := vwCl) (H := H) (A := A) [ob0_0_ xc xn xk clo cro c4 c5 c6 c7 c8, ob3_0_ xn vp vn n1 n2 n3 n4 n5, ai_ cy n2 40 fs, ai_ cy n3 40 fe, aq_ cy 6 cro 12 (gf_ rr), ai_ cy (rr 0) 12 (M_6 0), ai_ cy (rr 1) 12 (M_6 1), ai_ cy (rr 2) 12 (M_6 2), ai_ cy (rr 3) 12 (M_6 3), ai_ cy (rr 4) 12 (M_6 4), ai_ cy (rr 5) 12 (M_6 5), ai_ cy (rr 6) 12 (M_6 6), ai_ cy (rr 7) 12 (M_6 7), ai_ cy (rr 8) 12 (M_6 8), ai_ cy (rr 9) 12 (M_6 9), ai_ cy (rr 10) 12 (M_6 10), ai_ cy (rr 11) 12 (M_6 11), ai_ cy c4 40 f4, ai_ cy c5 40 f5, ai_ cy c6 40 f6] (by rw [eM_6]; exact hP) (by rw [eM_6]; exact hD) (fun hP hD => ?_)
  refine lv_aload_n hx hb dB_36_0_39.2.1.2.1 rfl (lv_at hl 0 rfl) ?_
  refine va_get (ci := 0) (v := .ref cro) (C := RX0) (T := TX0) (N := 9) hx hb hts (fun _ h => List.mem_cons_of_mem _ (List.mem_append_left _ (List.mem_append_right _ h))) hown hK.1 hP 0 rfl rfl 3 (by decide) (hts (.fieldLink RX0 16 "CutAtlas$Current" "room" "[[I") (List.mem_of_getElem? (i := 1) rfl)) (fun _ h9 => h9) rfl dB_36_0_39.2.1.2.2 ?_
  refine lv_iload_n hx hb dB_36_0_39.2.2.1.1 rfl (lv_at hl 2 rfl) ?_
  refine va_alda hx hb hG hP 4 rfl (i := a2) h_2 dB_36_0_39.2.2.1.2 ?_
  refine lv_topv (v' := .ref (rr a2.toNatClampNeg)) (gf_at h_2) ?_
  refine lv_iload_n hx hb dB_36_0_39.2.2.2.1 rfl (lv_at hl 1 rfl) ?_
  refine lv_dup2_11 hx hb dB_36_0_39.2.2.2.2 rfl rfl ?_
  have hPg : va_P D vwCl (([ob0_0_ xc xn xk clo cro c4 c5 c6 c7 c8, ob3_0_ xn vp vn n1 n2 n3 n4 n5, ai_ cy n2 40 fs, ai_ cy n3 40 fe, aq_ cy 6 cro 12 (gf_ rr)] : va_W) ++ (gro (cy 0) rr M_6 ++ ([ai_ cy c4 40 f4, ai_ cy c5 40 f5, ai_ cy c6 40 f6] : va_W))) H := hP
  refine va_gld (X := [ob0_0_ xc xn xk clo cro c4 c5 c6 c7 c8, ob3_0_ xn vp vn n1 n2 n3 n4 n5, ai_ cy n2 40 fs, ai_ cy n3 40 fe, aq_ cy 6 cro 12 (gf_ rr)]) (Y := [ai_ cy c4 40 f4, ai_ cy c5 40 f5, ai_ cy c6 40 f6]) (r := rr) (M := M_6) (k := a2.toNatClampNeg) hx hb hK.1 hPg 0 rfl (in_lt h_2) (i := a1) h_1 dB_36_0_40.1.1.1.1 ?_
  refine lv_topi (fun y_9 ey_9 => ?_)
  have km2_ : y_9.toInt = (M_6 a2.toNatClampNeg a1.toNatClampNeg).toInt := by rw [ey_9]
  have hv2_ : (M_6 a2.toNatClampNeg a1.toNatClampNeg).toInt = if a2.toNatClampNeg = a1.toNatClampNeg ∧ a1.toNatClampNeg = a2.toNatClampNeg then _ else (Mr a2.toNatClampNeg a1.toNatClampNeg).toInt := m1_v eM_6
  have hz2_ : (Mr a2.toNatClampNeg a1.toNatClampNeg).toInt = zM Mr a2.toNatClampNeg a1.toNatClampNeg := rfl
  have hz1_ : (Mr a1.toNatClampNeg a2.toNatClampNeg).toInt = zM Mr a1.toNatClampNeg a2.toNatClampNeg := rfl
  have hb2_ : -160000000 ≤ y_9.toInt ∧ y_9.toInt ≤ 160000000 := by rw [km2_, hv2_]; split <;> omega
  refine lv_iload_n hx hb dB_36_0_40.1.1.1.2 rfl (lv_at hl 3 rfl) ?_
  refine lv_iadd hx hb dB_36_0_40.1.1.2.1 ?_
  refine lv_topi (fun y_10 ey_10 => ?_)
  have ty_10 : y_10.toInt = y_9.toInt + a3.toInt := by rw [ey_10]; exact addI (by omega) (by omega)
  have h2_ : y_10.toInt = (M_6 a2.toNatClampNeg a1.toNatClampNeg).toInt + a3.toInt := by omega
  have hPg : va_P D vwCl (([ob0_0_ xc xn xk clo cro c4 c5 c6 c7 c8, ob3_0_ xn vp vn n1 n2 n3 n4 n5, ai_ cy n2 40 fs, ai_ cy n3 40 fe, aq_ cy 6 cro 12 (gf_ rr)] : va_W) ++ (gro (cy 0) rr M_6 ++ ([ai_ cy c4 40 f4, ai_ cy c5 40 f5, ai_ cy c6 40 f6] : va_W))) H := hP
  have hDg : va_D A (([ob0_0_ xc xn xk clo cro c4 c5 c6 c7 c8, ob3_0_ xn vp vn n1 n2 n3 n4 n5, ai_ cy n2 40 fs, ai_ cy n3 40 fe, aq_ cy 6 cro 12 (gf_ rr)] : va_W) ++ (gro (cy 0) rr M_6 ++ ([ai_ cy c4 40 f4, ai_ cy c5 40 f5, ai_ cy c6 40 f6] : va_W))) := hD
  refine va_gst (X := [ob0_0_ xc xn xk clo cro c4 c5 c6 c7 c8, ob3_0_ xn vp vn n1 n2 n3 n4 n5, ai_ cy n2 40 fs, ai_ cy n3 40 fe, aq_ cy 6 cro 12 (gf_ rr)]) (Y := [ai_ cy c4 40 f4, ai_ cy c5 40 f5, ai_ cy c6 40 f6]) (r := rr) (M := M_6) (k := a2.toNatClampNeg) hx hb hK.1 hPg hDg hS 0 rfl (in_lt h_2) (i := a1) h_1 dB_36_0_40.1.1.2.2 (fun H locs hP hD hS => ?_)
  obtain ⟨M_12, eM_12⟩ : ∃ g : Nat → Nat → Int32, g = va_up M_6 a2.toNatClampNeg (upd (M_6 a2.toNatClampNeg) a1.toNatClampNeg y_10) := ⟨_, rfl⟩
  refine pd_K (D := D) (cl := vwCl) (H := H) (A := A) [ob0_0_ xc xn xk clo cro c4 c5 c6 c7 c8, ob3_0_ xn vp vn n1 n2 n3 n4 n5, ai_ cy n2 40 fs, ai_ cy n3 40 fe, aq_ cy 6 cro 12 (gf_ rr), ai_ cy (rr 0) 12 (M_12 0), ai_ cy (rr 1) 12 (M_12 1), ai_ cy (rr 2) 12 (M_12 2), ai_ cy (rr 3) 12 (M_12 3), ai_ cy (rr 4) 12 (M_12 4), ai_ cy (rr 5) 12 (M_12 5), ai_ cy (rr 6) 12 (M_12 6), ai_ cy (rr 7) 12 (M_12 7), ai_ cy (rr 8) 12 (M_12 8), ai_ cy (rr 9) 12 (M_12 9), ai_ cy (rr 10) 12 (M_12 10), ai_ cy (rr 11) 12 (M_12 11), ai_ cy c4 40 f4, ai_ cy c5 40 f5, ai_ cy c6 40 f6] (by rw [eM_12]; exact hP) (by rw [eM_12]; exact hD) (fun hP hD => ?_)
  have hed_ : edg (zM Mr) (zM M_12) a1.toNatClampNeg a2.toNatClampNeg a3.toInt := edg_mk eM_6 eM_12 h1_ h2_
  refine lv_iload_n hx hb dB_36_0_40.1.2.1.1 rfl (lv_at hl 3 rfl) ?_
  refine lv_istore (lv' := [(4, .int a3), (0, .ref xc), (1, .int a1), (2, .int a2), (3, .int a3)]) hx hb dB_36_0_40.1.2.1.2 hl (by decide) rfl (fun ls hl => ?_)
  refine lv_iconst (v := 0) hx hb dB_36_0_40.1.2.2.1 (by decide) ?_
  refine lv_istore (lv' := [(5, .int 0), (4, .int a3), (0, .ref xc), (1, .int a1), (2, .int a2), (3, .int a3)]) hx hb dB_36_0_40.1.2.2.2 hl (by decide) rfl (fun ls hl => ?_)
  suffices LOOP_13 : ∀ (n_13 : Nat) (x5_13 : Int32) (x4_13 : Int32) (c_c4_13 : Nat → Int32) (H : Heap) (locs : List Loc) (ls : Array Slot), vn.toInt - x5_13.toInt < (n_13 : Int) → (0 ≤ x5_13.toInt) → (x5_13.toInt ≤ vn.toInt) → (0 ≤ x4_13.toInt) → (snI (kF f5) (kF f6) (gN vn.toNatClampNeg (gF fs)) (nF fs) (nF fe) f4 c_c4_13 a1.toNatClampNeg a2.toNatClampNeg a3.toInt x4_13.toInt x5_13.toNatClampNeg) → pd_2 D vwCl A [ob0_0_ xc xn xk clo cro c4 c5 c6 c7 c8, ob3_0_ xn vp vn n1 n2 n3 n4 n5, ai_ cy n2 40 fs, ai_ cy n3 40 fe, aq_ cy 6 cro 12 (gf_ rr), ai_ cy (rr 0) 12 (M_12 0), ai_ cy (rr 1) 12 (M_12 1), ai_ cy (rr 2) 12 (M_12 2), ai_ cy (rr 3) 12 (M_12 3), ai_ cy (rr 4) 12 (M_12 4), ai_ cy (rr 5) 12 (M_12 5), ai_ cy (rr 6) 12 (M_12 6), ai_ cy (rr 7) 12 (M_12 7), ai_ cy (rr 8) 12 (M_12 8), ai_ cy (rr 9) 12 (M_12 9), ai_ cy (rr 10) 12 (M_12 10), ai_ cy (rr 11) 12 (M_12 11), ai_ cy c4 40 c_c4_13, ai_ cy c5 40 f5, ai_ cy c6 40 f6] H → va_S A s.heap H locs → lv_has ls 7 [(5, .int x5_13), (4, .int x4_13), (0, .ref xc), (1, .int a1), (2, .int a2), (3, .int a3)] → W p l e ({ frames := 1, cells := 0, slots := 0, locals := 13 } : Room) s m (([.ref xc, .int a1, .int a2, .int a3] : List Value).toArray) below meth c H locs 0 0 Q (F0 m 30 ls []) from LOOP_13 ((vn.toInt - (0 : Int32).toInt).toNat + 1) (0 : Int32) a3 f4 _ _ _ (by omega) (by first | with_reducible assumption | omega | assumption) (by first | with_reducible assumption | omega | assumption) (by first | with_reducible assumption | omega | assumption) (by first | exact snI_0 | exact hsn_ _ (by omega) | exact snC_no v_none hpr (by omega) (by omega) (by omega) (by omega) (by omega) (by omega) (by omega) (by omega) (by omega)) ⟨hP, hD⟩ hS (lv_sub hl [0, 1, 2, 3, 4, 5] rfl)
  intro n_13
  induction n_13 with
  | zero =>
    intro x5_13 x4_13 c_c4_13 H locs ls hm v0_13 v1_13 v2_13 v3_13 hPD hS hl; obtain ⟨hP, hD⟩ := hPD
    exact absurd hm (by omega)
  | succ n_13 ih_13 =>
    intro x5_13 x4_13 c_c4_13 H locs ls hm v0_13 v1_13 v2_13 v3_13 hPD hS hl; obtain ⟨hP, hD⟩ := hPD
    refine lv_iload hx hb dB_36_0_40.2.1.1.1 (lv_at hl 0 rfl) ?_
    refine lv_aload_n hx hb dB_36_0_40.2.1.1.2 rfl (lv_at hl 2 rfl) ?_
    refine va_get (ci := 0) (v := .ref xn) (C := RX0) (T := TX0) (N := 9) hx hb hts (fun _ h => List.mem_cons_of_mem _ (List.mem_append_left _ (List.mem_append_right _ h))) hown hK.1 hP 0 rfl rfl 0 (by decide) (hts (.fieldLink RX0 35 "CutAtlas$Current" "net" "LCutAtlas$Net;") (List.mem_of_getElem? (i := 2) rfl)) (fun _ h9 => h9) rfl dB_36_0_40.2.1.2.1 ?_
    refine va_get (ci := 3) (v := .int vn) (C := RX3) (T := TX3) (N := 7) hx hb hts (fun _ h => List.mem_cons_of_mem _ (List.mem_append_right _ h)) hown hK.1 hP 1 rfl rfl 1 (by decide) (hts (.fieldLink RX0 55 "CutAtlas$Net" "lines" "I") (List.mem_of_getElem? (i := 3) rfl)) (fun _ h9 => h9) rfl dB_36_0_40.2.1.2.2 ?_
    refine lv_icmp_ge (tgt := 194) hx hb dB_36_0_40.2.2.1.1 (by decide) (fun c_14 => ?_) (fun c_14 => ?_)
    · have t_14 : vn.toInt ≤ x5_13.toInt := Int32.le_iff_toInt_le.mp c_14
      rw [hQ]
      exact W.vret hx hb hr (fun t ht hW => ⟨⟨(), rfl, trivial, M_12, c_c4_13, (hed_), (by first | exact snI_end v3_13 hk (Or.inr (by omega)) | exact snI_end v3_13 hk (Or.inl (nc_le (by omega) (by omega)))), by rw [ht]; exact hP, hD⟩, hS.F ht⟩) hS.2.2 dB_36_0_45.2.2.2.2
    · have t_14 : ¬ vn.toInt ≤ x5_13.toInt := fun h => c_14 (Int32.le_iff_toInt_le.mpr h)
      refine lv_iload hx hb dB_36_0_40.2.2.1.2 (lv_at hl 1 rfl) ?_
      refine lv_if_le (tgt := 194) hx hb dB_36_0_40.2.2.2.1 (by decide) (fun c_15 => ?_) (fun c_15 => ?_)
      · have t_15 : x4_13.toInt ≤ (0 : Int32).toInt := Int32.le_iff_toInt_le.mp c_15
        rw [hQ]
        exact W.vret hx hb hr (fun t ht hW => ⟨⟨(), rfl, trivial, M_12, c_c4_13, (hed_), (by first | exact snI_end v3_13 hk (Or.inr (by omega)) | exact snI_end v3_13 hk (Or.inl (nc_le (by omega) (by omega)))), by rw [ht]; exact hP, hD⟩, hS.F ht⟩) hS.2.2 dB_36_0_45.2.2.2.2
      · have t_15 : ¬ x4_13.toInt ≤ (0 : Int32).toInt := fun h => c_15 (Int32.le_iff_toInt_le.mpr h)
        refine lv_aload_n hx hb dB_36_0_40.2.2.2.2 rfl (lv_at hl 2 rfl) ?_
        refine va_get (ci := 0) (v := .ref xn) (C := RX0) (T := TX0) (N := 9) hx hb hts (fun _ h => List.mem_cons_of_mem _ (List.mem_append_left _ (List.mem_append_right _ h))) hown hK.1 hP 0 rfl rfl 0 (by decide) (hts (.fieldLink RX0 35 "CutAtlas$Current" "net" "LCutAtlas$Net;") (List.mem_of_getElem? (i := 2) rfl)) (fun _ h9 => h9) rfl dB_36_0_41.1.1.1.1 ?_
        refine va_get (ci := 3) (v := .ref n2) (C := RX3) (T := TX3) (N := 7) hx hb hts (fun _ h => List.mem_cons_of_mem _ (List.mem_append_right _ h)) hown hK.1 hP 1 rfl rfl 3 (by decide) (hts (.fieldLink RX0 76 "CutAtlas$Net" "starts" "[I") (List.mem_of_getElem? (i := 4) rfl)) (fun _ h9 => h9) rfl dB_36_0_41.1.1.1.2 ?_
        refine lv_iload hx hb dB_36_0_41.1.1.2.1 (lv_at hl 0 rfl) ?_
        have h_16 : vp_in x5_13 40 := in_I (by first | with_reducible assumption | omega) (by omega)
        refine va_iald hx hb hK.1 hP 2 0 rfl rfl (i := x5_13) h_16 dB_36_0_41.1.1.2.2 ?_
        refine lv_topi (fun y_17 ey_17 => ?_)
        have ry_17 := hpr _ (in_lt h_16)
        have jy_17 : y_17.toInt = (fs x5_13.toNatClampNeg).toInt := by rw [ey_17]
        have hes_ : (fs x5_13.toNatClampNeg).toInt = y_17.toInt := by rw [ey_17]
        refine lv_iload_n hx hb dB_36_0_41.1.2.1.1 rfl (lv_at hl 3 rfl) ?_
        refine lv_icmp_ne (tgt := 119) hx hb dB_36_0_41.1.2.1.2 (by decide) (fun c_18 => ?_) (fun c_18 => ?_)
        · have t_18 : ¬ y_17.toInt = a1.toInt := fun h => c_18 (Int32.toInt_inj.mp h)
          refine lv_aload_n hx hb dB_36_0_43.1.2.2.1 rfl (lv_at hl 2 rfl) ?_
          refine va_get (ci := 0) (v := .ref xn) (C := RX0) (T := TX0) (N := 9) hx hb hts (fun _ h => List.mem_cons_of_mem _ (List.mem_append_left _ (List.mem_append_right _ h))) hown hK.1 hP 0 rfl rfl 0 (by decide) (hts (.fieldLink RX0 35 "CutAtlas$Current" "net" "LCutAtlas$Net;") (List.mem_of_getElem? (i := 2) rfl)) (fun _ h9 => h9) rfl dB_36_0_43.1.2.2.2 ?_
          refine va_get (ci := 3) (v := .ref n2) (C := RX3) (T := TX3) (N := 7) hx hb hts (fun _ h => List.mem_cons_of_mem _ (List.mem_append_right _ h)) hown hK.1 hP 1 rfl rfl 3 (by decide) (hts (.fieldLink RX0 76 "CutAtlas$Net" "starts" "[I") (List.mem_of_getElem? (i := 4) rfl)) (fun _ h9 => h9) rfl dB_36_0_43.2.1.1.1 ?_
          refine lv_iload hx hb dB_36_0_43.2.1.1.2 (lv_at hl 0 rfl) ?_
          refine va_iald hx hb hK.1 hP 2 0 rfl rfl (i := x5_13) h_16 dB_36_0_43.2.1.2.1 ?_
          refine lv_topi (fun y_20 ey_20 => ?_)
          have e_ := (ey_20.trans ey_17.symm).symm
          subst e_
          skip
          have hes2_ : (fs x5_13.toNatClampNeg).toInt = y_17.toInt := by rw [ey_17]
          refine lv_iload_n hx hb dB_36_0_43.2.1.2.2 rfl (lv_at hl 4 rfl) ?_
          refine lv_icmp_ne (tgt := 188) hx hb dB_36_0_43.2.2.1.1 (by decide) (fun c_21 => ?_) (fun c_21 => ?_)
          · have t_21 : ¬ y_17.toInt = a2.toInt := fun h => c_21 (Int32.toInt_inj.mp h)
            obtain ⟨y_22, ey_22⟩ : ∃ y : Int32, y = x5_13 + 1 := ⟨_, rfl⟩
            have ty_22 : y_22.toInt = x5_13.toInt + (1 : Int32).toInt := by rw [ey_22]; exact addI (by omega) (by omega)
            refine lv_iinc (v := y_22) (lv' := [(5, .int y_22), (4, .int x4_13), (0, .ref xc), (1, .int a1), (2, .int a2), (3, .int a3)]) hx hb dB_36_0_45.2.2.1.2 hl (k := 0) rfl (by rw [ey_22]; rfl) (by decide) rfl (fun ls hl => ?_)
            refine lv_goto (tgt := 30) hx hb dB_36_0_45.2.2.2.1 (by decide) ?_
            exact ih_13 y_22 x4_13 c_c4_13 _ _ _ (by omega) (by first | with_reducible assumption | omega | assumption) (by first | with_reducible assumption | omega | assumption) (by first | with_reducible assumption | omega | assumption) (by first | exact snI_0 | exact hsn_ _ (by omega) | exact snC_no v3_13 hpr (by omega) (by omega) (by omega) (by omega) (by omega) (by omega) (by omega) (by omega) (by omega)) ⟨hP, hD⟩ hS (lv_sub hl [0, 1, 2, 3, 4, 5] rfl)
          · have t_21 : y_17.toInt = a2.toInt := congrArg Int32.toInt c_21
            refine lv_aload_n hx hb dB_36_0_43.2.2.1.2 rfl (lv_at hl 2 rfl) ?_
            refine va_get (ci := 0) (v := .ref xn) (C := RX0) (T := TX0) (N := 9) hx hb hts (fun _ h => List.mem_cons_of_mem _ (List.mem_append_left _ (List.mem_append_right _ h))) hown hK.1 hP 0 rfl rfl 0 (by decide) (hts (.fieldLink RX0 35 "CutAtlas$Current" "net" "LCutAtlas$Net;") (List.mem_of_getElem? (i := 2) rfl)) (fun _ h9 => h9) rfl dB_36_0_43.2.2.2.1 ?_
            refine va_get (ci := 3) (v := .ref n3) (C := RX3) (T := TX3) (N := 7) hx hb hts (fun _ h => List.mem_cons_of_mem _ (List.mem_append_right _ h)) hown hK.1 hP 1 rfl rfl 4 (by decide) (hts (.fieldLink RX0 79 "CutAtlas$Net" "ends" "[I") (List.mem_of_getElem? (i := 5) rfl)) (fun _ h9 => h9) rfl dB_36_0_43.2.2.2.2 ?_
            refine lv_iload hx hb dB_36_0_44.1.1.1.1 (lv_at hl 0 rfl) ?_
            refine va_iald hx hb hK.1 hP 3 0 rfl rfl (i := x5_13) h_16 dB_36_0_44.1.1.1.2 ?_
            refine lv_topi (fun y_24 ey_24 => ?_)
            have ry_24 := hpr _ (in_lt h_16)
            have jy_24 : y_24.toInt = (fe x5_13.toNatClampNeg).toInt := by rw [ey_24]
            have hee2_ : (fe x5_13.toNatClampNeg).toInt = y_24.toInt := by rw [ey_24]
            refine lv_iload_n hx hb dB_36_0_44.1.1.2.1 rfl (lv_at hl 3 rfl) ?_
            refine lv_icmp_ne (tgt := 188) hx hb dB_36_0_44.1.1.2.2 (by decide) (fun c_25 => ?_) (fun c_25 => ?_)
            · have t_25 : ¬ y_24.toInt = a1.toInt := fun h => c_25 (Int32.toInt_inj.mp h)
              obtain ⟨y_26, ey_26⟩ : ∃ y : Int32, y = x5_13 + 1 := ⟨_, rfl⟩
              have ty_26 : y_26.toInt = x5_13.toInt + (1 : Int32).toInt := by rw [ey_26]; exact addI (by omega) (by omega)
              refine lv_iinc (v := y_26) (lv' := [(5, .int y_26), (4, .int x4_13), (0, .ref xc), (1, .int a1), (2, .int a2), (3, .int a3)]) hx hb dB_36_0_45.2.2.1.2 hl (k := 0) rfl (by rw [ey_26]; rfl) (by decide) rfl (fun ls hl => ?_)
              refine lv_goto (tgt := 30) hx hb dB_36_0_45.2.2.2.1 (by decide) ?_
              exact ih_13 y_26 x4_13 c_c4_13 _ _ _ (by omega) (by first | with_reducible assumption | omega | assumption) (by first | with_reducible assumption | omega | assumption) (by first | with_reducible assumption | omega | assumption) (by first | exact snI_0 | exact hsn_ _ (by omega) | exact snC_no v3_13 hpr (by omega) (by omega) (by omega) (by omega) (by omega) (by omega) (by omega) (by omega) (by omega)) ⟨hP, hD⟩ hS (lv_sub hl [0, 1, 2, 3, 4, 5] rfl)
            · have t_25 : y_24.toInt = a1.toInt := congrArg Int32.toInt c_25
              have hfk_ := flK_at hk (i := x5_13) (by omega) (by omega) (by omega)
              have hbl_ := Int32.toInt_lt x4_13
              refine lv_iload hx hb dB_36_0_44.1.2.1.1 (lv_at hl 1 rfl) ?_
              refine lv_aload_n hx hb dB_36_0_44.1.2.1.2 rfl (lv_at hl 2 rfl) ?_
              refine va_get (ci := 0) (v := .ref c6) (C := RX0) (T := TX0) (N := 9) hx hb hts (fun _ h => List.mem_cons_of_mem _ (List.mem_append_left _ (List.mem_append_right _ h))) hown hK.1 hP 0 rfl rfl 6 (by decide) (hts (.fieldLink RX0 26 "CutAtlas$Current" "letsBack" "[I") (List.mem_of_getElem? (i := 12) rfl)) (fun _ h9 => h9) rfl dB_36_0_44.1.2.2.1 ?_
              refine lv_iload hx hb dB_36_0_44.1.2.2.2 (lv_at hl 0 rfl) ?_
              refine va_iald hx hb hK.1 hP 19 0 rfl rfl (i := x5_13) h_16 dB_36_0_44.2.1.1.1 ?_
              refine lv_topi (fun y_28 ey_28 => ?_)
              have hb6_ : y_28.toInt = (f6 x5_13.toNatClampNeg).toInt := by rw [ey_28]
              refine lv_aload_n hx hb dB_36_0_44.2.1.1.2 rfl (lv_at hl 2 rfl) ?_
              refine va_get (ci := 0) (v := .ref c4) (C := RX0) (T := TX0) (N := 9) hx hb hts (fun _ h => List.mem_cons_of_mem _ (List.mem_append_left _ (List.mem_append_right _ h))) hown hK.1 hP 0 rfl rfl 4 (by decide) (hts (.fieldLink RX0 19 "CutAtlas$Current" "flowing" "[I") (List.mem_of_getElem? (i := 7) rfl)) (fun _ h9 => h9) rfl dB_36_0_44.2.1.2.1 ?_
              refine lv_iload hx hb dB_36_0_44.2.1.2.2 (lv_at hl 0 rfl) ?_
              refine va_iald hx hb hK.1 hP 17 0 rfl rfl (i := x5_13) h_16 dB_36_0_44.2.2.1.1 ?_
              refine lv_topi (fun y_30 ey_30 => ?_)
              have hb4_ : y_30.toInt = (f4 x5_13.toNatClampNeg).toInt := by rw [ey_30, sni_f v3_13]
              refine lv_iadd hx hb dB_36_0_44.2.2.1.2 ?_
              refine lv_topi (fun y_31 ey_31 => ?_)
              have ty_31 : y_31.toInt = y_28.toInt + y_30.toInt := by rw [ey_31]; exact addI (by omega) (by omega)
              refine va_mmin hx hb (by rw [hml]; exact hl.1.symm) hown (hts (.methodLink RX0 101 Lib.Math.min.name) (List.mem_of_getElem? (i := 8) rfl)) (hts (.static Lib.Math.min.name) (List.mem_of_getElem? (i := 9) rfl)) (hts (.initialized "java/lang/Math") (List.mem_of_getElem? (i := 10) rfl)) (hts (.code Lib.Math.min.name Lib.Math.min.code 2 (some .int)) (List.mem_of_getElem? (i := 11) rfl)) (Nat.le_of_ble_eq_true rfl) (Nat.le_of_ble_eq_true rfl) (Nat.le_of_ble_eq_true rfl) (Nat.le_of_ble_eq_true rfl) dB_36_0_44.2.2.2.1 ?_
              refine lv_topi (fun y_32 ey_32 => ?_)
              have ty_32 : y_32 = x4_13 ∨ y_32 = y_31 := by rw [ey_32]; split <;> simp
              have iy_32 : y_32.toInt = x4_13.toInt ∨ y_32.toInt = y_31.toInt := by rcases ty_32 with h | h <;> rw [h] <;> simp
              have htk_ : y_32.toInt = mnZ x4_13.toInt ((f6 x5_13.toNatClampNeg).toInt + (f4 x5_13.toNatClampNeg).toInt) := by have h_ := mnI ey_32; rw [mn_lo, show y_31.toInt = (f6 x5_13.toNatClampNeg).toInt + (f4 x5_13.toNatClampNeg).toInt by omega] at h_; exact h_
              have hbt_ := mn_rng (p := x4_13.toInt) (q := (f6 x5_13.toNatClampNeg).toInt + (f4 x5_13.toNatClampNeg).toInt) (by omega) (by omega)
              refine lv_istore (lv' := [(6, .int y_32), (5, .int x5_13), (4, .int x4_13), (0, .ref xc), (1, .int a1), (2, .int a2), (3, .int a3)]) hx hb dB_36_0_44.2.2.2.2 hl (by decide) rfl (fun ls hl => ?_)
              refine lv_aload_n hx hb dB_36_0_45.1.1.1 rfl (lv_at hl 3 rfl) ?_
              refine va_get (ci := 0) (v := .ref c4) (C := RX0) (T := TX0) (N := 9) hx hb hts (fun _ h => List.mem_cons_of_mem _ (List.mem_append_left _ (List.mem_append_right _ h))) hown hK.1 hP 0 rfl rfl 4 (by decide) (hts (.fieldLink RX0 19 "CutAtlas$Current" "flowing" "[I") (List.mem_of_getElem? (i := 7) rfl)) (fun _ h9 => h9) rfl dB_36_0_45.1.1.2.1 ?_
              refine lv_iload hx hb dB_36_0_45.1.1.2.2 (lv_at hl 1 rfl) ?_
              refine lv_dup2_11 hx hb dB_36_0_45.1.2.1.1 rfl rfl ?_
              refine va_iald hx hb hK.1 hP 17 0 rfl rfl (i := x5_13) h_16 dB_36_0_45.1.2.1.2 ?_
              refine lv_topi (fun y_34 ey_34 => ?_)
              have e_ := (ey_34.trans ey_30.symm).symm
              subst e_
              skip
              have hb4b_ : y_30.toInt = (f4 x5_13.toNatClampNeg).toInt := by rw [ey_30, sni_f v3_13]
              refine lv_iload hx hb dB_36_0_45.1.2.2.1 (lv_at hl 0 rfl) ?_
              refine lv_isub hx hb dB_36_0_45.1.2.2.2 ?_
              refine lv_topi (fun y_35 ey_35 => ?_)
              have ty_35 : y_35.toInt = y_30.toInt - y_32.toInt := by rw [ey_35]; exact subI (by omega) (by omega)
              refine va_iast hx hb hK.1 hP hD hS 17 0 rfl rfl (i := x5_13) h_16 dB_36_0_45.2.1.1.1 (fun H locs hP hD hS => ?_)
              obtain ⟨f_37, ef_37⟩ : ∃ g : Nat → Int32, g = upd c_c4_13 x5_13.toNatClampNeg y_35 := ⟨_, rfl⟩
              refine pd_K (D := D) (cl := vwCl) (H := H) (A := A) [ob0_0_ xc xn xk clo cro c4 c5 c6 c7 c8, ob3_0_ xn vp vn n1 n2 n3 n4 n5, ai_ cy n2 40 fs, ai_ cy n3 40 fe, aq_ cy 6 cro 12 (gf_ rr), ai_ cy (rr 0) 12 (M_12 0), ai_ cy (rr 1) 12 (M_12 1), ai_ cy (rr 2) 12 (M_12 2), ai_ cy (rr 3) 12 (M_12 3), ai_ cy (rr 4) 12 (M_12 4), ai_ cy (rr 5) 12 (M_12 5), ai_ cy (rr 6) 12 (M_12 6), ai_ cy (rr 7) 12 (M_12 7), ai_ cy (rr 8) 12 (M_12 8), ai_ cy (rr 9) 12 (M_12 9), ai_ cy (rr 10) 12 (M_12 10), ai_ cy (rr 11) 12 (M_12 11), ai_ cy c4 40 f_37, ai_ cy c5 40 f5, ai_ cy c6 40 f6] (by rw [ef_37]; exact hP) (by rw [ef_37]; exact hD) (fun hP hD => ?_)
              refine lv_iload hx hb dB_36_0_45.2.1.1.2 (lv_at hl 2 rfl) ?_
              refine lv_iload hx hb dB_36_0_45.2.1.2.1 (lv_at hl 0 rfl) ?_
              refine lv_isub hx hb dB_36_0_45.2.1.2.2 ?_
              refine lv_topi (fun y_38 ey_38 => ?_)
              have ty_38 : y_38.toInt = x4_13.toInt - y_32.toInt := by rw [ey_38]; exact subI (by omega) (by omega)
              have hsn_ : ∀ i2 : Int32, i2.toInt = x5_13.toInt + 1 → snI (kF f5) (kF f6) (gN vn.toNatClampNeg (gF fs)) (nF fs) (nF fe) f4 f_37 a1.toNatClampNeg a2.toNatClampNeg a3.toInt y_38.toInt i2.toNatClampNeg := fun i2 ei => snC_bk v3_13 (by omega) (by omega) (by omega) (by omega) hne (by omega) (by omega) htk_ (by omega) ef_37 (by omega) ei
              refine lv_istore (lv' := [(4, .int y_38), (6, .int y_32), (5, .int x5_13), (0, .ref xc), (1, .int a1), (2, .int a2), (3, .int a3)]) hx hb dB_36_0_45.2.2.1.1 hl (by decide) rfl (fun ls hl => ?_)
              obtain ⟨y_39, ey_39⟩ : ∃ y : Int32, y = x5_13 + 1 := ⟨_, rfl⟩
              have ty_39 : y_39.toInt = x5_13.toInt + (1 : Int32).toInt := by rw [ey_39]; exact addI (by omega) (by omega)
              refine lv_iinc (v := y_39) (lv' := [(5, .int y_39), (4, .int y_38), (6, .int y_32), (0, .ref xc), (1, .int a1), (2, .int a2), (3, .int a3)]) hx hb dB_36_0_45.2.2.1.2 hl (k := 2) rfl (by rw [ey_39]; rfl) (by decide) rfl (fun ls hl => ?_)
              refine lv_goto (tgt := 30) hx hb dB_36_0_45.2.2.2.1 (by decide) ?_
              exact ih_13 y_39 y_38 f_37 _ _ _ (by omega) (by first | with_reducible assumption | omega | assumption) (by first | with_reducible assumption | omega | assumption) (by first | with_reducible assumption | omega | assumption) (by first | exact snI_0 | exact hsn_ _ (by omega) | exact snC_no v3_13 hpr (by omega) (by omega) (by omega) (by omega) (by omega) (by omega) (by omega) (by omega) (by omega)) ⟨hP, hD⟩ hS (lv_sub hl [0, 1, 3, 4, 5, 6] rfl)
        · have t_18 : y_17.toInt = a1.toInt := congrArg Int32.toInt c_18
          refine lv_aload_n hx hb dB_36_0_41.1.2.2.1 rfl (lv_at hl 2 rfl) ?_
          refine va_get (ci := 0) (v := .ref xn) (C := RX0) (T := TX0) (N := 9) hx hb hts (fun _ h => List.mem_cons_of_mem _ (List.mem_append_left _ (List.mem_append_right _ h))) hown hK.1 hP 0 rfl rfl 0 (by decide) (hts (.fieldLink RX0 35 "CutAtlas$Current" "net" "LCutAtlas$Net;") (List.mem_of_getElem? (i := 2) rfl)) (fun _ h9 => h9) rfl dB_36_0_41.1.2.2.2 ?_
          refine va_get (ci := 3) (v := .ref n3) (C := RX3) (T := TX3) (N := 7) hx hb hts (fun _ h => List.mem_cons_of_mem _ (List.mem_append_right _ h)) hown hK.1 hP 1 rfl rfl 4 (by decide) (hts (.fieldLink RX0 79 "CutAtlas$Net" "ends" "[I") (List.mem_of_getElem? (i := 5) rfl)) (fun _ h9 => h9) rfl dB_36_0_41.2.1.1.1 ?_
          refine lv_iload hx hb dB_36_0_41.2.1.1.2 (lv_at hl 0 rfl) ?_
          refine va_iald hx hb hK.1 hP 3 0 rfl rfl (i := x5_13) h_16 dB_36_0_41.2.1.2.1 ?_
          refine lv_topi (fun y_41 ey_41 => ?_)
          have ry_41 := hpr _ (in_lt h_16)
          have jy_41 : y_41.toInt = (fe x5_13.toNatClampNeg).toInt := by rw [ey_41]
          have hee_ : (fe x5_13.toNatClampNeg).toInt = y_41.toInt := by rw [ey_41]
          refine lv_iload_n hx hb dB_36_0_41.2.1.2.2 rfl (lv_at hl 4 rfl) ?_
          refine lv_icmp_ne (tgt := 119) hx hb dB_36_0_41.2.2.1.1 (by decide) (fun c_42 => ?_) (fun c_42 => ?_)
          · have t_42 : ¬ y_41.toInt = a2.toInt := fun h => c_42 (Int32.toInt_inj.mp h)
            refine lv_aload_n hx hb dB_36_0_43.1.2.2.1 rfl (lv_at hl 2 rfl) ?_
            refine va_get (ci := 0) (v := .ref xn) (C := RX0) (T := TX0) (N := 9) hx hb hts (fun _ h => List.mem_cons_of_mem _ (List.mem_append_left _ (List.mem_append_right _ h))) hown hK.1 hP 0 rfl rfl 0 (by decide) (hts (.fieldLink RX0 35 "CutAtlas$Current" "net" "LCutAtlas$Net;") (List.mem_of_getElem? (i := 2) rfl)) (fun _ h9 => h9) rfl dB_36_0_43.1.2.2.2 ?_
            refine va_get (ci := 3) (v := .ref n2) (C := RX3) (T := TX3) (N := 7) hx hb hts (fun _ h => List.mem_cons_of_mem _ (List.mem_append_right _ h)) hown hK.1 hP 1 rfl rfl 3 (by decide) (hts (.fieldLink RX0 76 "CutAtlas$Net" "starts" "[I") (List.mem_of_getElem? (i := 4) rfl)) (fun _ h9 => h9) rfl dB_36_0_43.2.1.1.1 ?_
            refine lv_iload hx hb dB_36_0_43.2.1.1.2 (lv_at hl 0 rfl) ?_
            refine va_iald hx hb hK.1 hP 2 0 rfl rfl (i := x5_13) h_16 dB_36_0_43.2.1.2.1 ?_
            refine lv_topi (fun y_44 ey_44 => ?_)
            have e_ := (ey_44.trans ey_17.symm).symm
            subst e_
            skip
            have hes2_ : (fs x5_13.toNatClampNeg).toInt = y_17.toInt := by rw [ey_17]
            refine lv_iload_n hx hb dB_36_0_43.2.1.2.2 rfl (lv_at hl 4 rfl) ?_
            refine lv_icmp_ne (tgt := 188) hx hb dB_36_0_43.2.2.1.1 (by decide) (fun c_45 => ?_) (fun c_45 => ?_)
            · have t_45 : ¬ y_17.toInt = a2.toInt := fun h => c_45 (Int32.toInt_inj.mp h)
              obtain ⟨y_46, ey_46⟩ : ∃ y : Int32, y = x5_13 + 1 := ⟨_, rfl⟩
              have ty_46 : y_46.toInt = x5_13.toInt + (1 : Int32).toInt := by rw [ey_46]; exact addI (by omega) (by omega)
              refine lv_iinc (v := y_46) (lv' := [(5, .int y_46), (4, .int x4_13), (0, .ref xc), (1, .int a1), (2, .int a2), (3, .int a3)]) hx hb dB_36_0_45.2.2.1.2 hl (k := 0) rfl (by rw [ey_46]; rfl) (by decide) rfl (fun ls hl => ?_)
              refine lv_goto (tgt := 30) hx hb dB_36_0_45.2.2.2.1 (by decide) ?_
              exact ih_13 y_46 x4_13 c_c4_13 _ _ _ (by omega) (by first | with_reducible assumption | omega | assumption) (by first | with_reducible assumption | omega | assumption) (by first | with_reducible assumption | omega | assumption) (by first | exact snI_0 | exact hsn_ _ (by omega) | exact snC_no v3_13 hpr (by omega) (by omega) (by omega) (by omega) (by omega) (by omega) (by omega) (by omega) (by omega)) ⟨hP, hD⟩ hS (lv_sub hl [0, 1, 2, 3, 4, 5] rfl)
            · have t_45 : y_17.toInt = a2.toInt := congrArg Int32.toInt c_45
              refine lv_aload_n hx hb dB_36_0_43.2.2.1.2 rfl (lv_at hl 2 rfl) ?_
              refine va_get (ci := 0) (v := .ref xn) (C := RX0) (T := TX0) (N := 9) hx hb hts (fun _ h => List.mem_cons_of_mem _ (List.mem_append_left _ (List.mem_append_right _ h))) hown hK.1 hP 0 rfl rfl 0 (by decide) (hts (.fieldLink RX0 35 "CutAtlas$Current" "net" "LCutAtlas$Net;") (List.mem_of_getElem? (i := 2) rfl)) (fun _ h9 => h9) rfl dB_36_0_43.2.2.2.1 ?_
              refine va_get (ci := 3) (v := .ref n3) (C := RX3) (T := TX3) (N := 7) hx hb hts (fun _ h => List.mem_cons_of_mem _ (List.mem_append_right _ h)) hown hK.1 hP 1 rfl rfl 4 (by decide) (hts (.fieldLink RX0 79 "CutAtlas$Net" "ends" "[I") (List.mem_of_getElem? (i := 5) rfl)) (fun _ h9 => h9) rfl dB_36_0_43.2.2.2.2 ?_
              refine lv_iload hx hb dB_36_0_44.1.1.1.1 (lv_at hl 0 rfl) ?_
              refine va_iald hx hb hK.1 hP 3 0 rfl rfl (i := x5_13) h_16 dB_36_0_44.1.1.1.2 ?_
              refine lv_topi (fun y_48 ey_48 => ?_)
              have e_ := (ey_48.trans ey_41.symm).symm
              subst e_
              skip
              have hee2_ : (fe x5_13.toNatClampNeg).toInt = y_41.toInt := by rw [ey_41]
              refine lv_iload_n hx hb dB_36_0_44.1.1.2.1 rfl (lv_at hl 3 rfl) ?_
              refine lv_icmp_ne (tgt := 188) hx hb dB_36_0_44.1.1.2.2 (by decide) (fun c_49 => ?_) (fun c_49 => ?_)
              · have t_49 : ¬ y_41.toInt = a1.toInt := fun h => c_49 (Int32.toInt_inj.mp h)
                obtain ⟨y_50, ey_50⟩ : ∃ y : Int32, y = x5_13 + 1 := ⟨_, rfl⟩
                have ty_50 : y_50.toInt = x5_13.toInt + (1 : Int32).toInt := by rw [ey_50]; exact addI (by omega) (by omega)
                refine lv_iinc (v := y_50) (lv' := [(5, .int y_50), (4, .int x4_13), (0, .ref xc), (1, .int a1), (2, .int a2), (3, .int a3)]) hx hb dB_36_0_45.2.2.1.2 hl (k := 0) rfl (by rw [ey_50]; rfl) (by decide) rfl (fun ls hl => ?_)
                refine lv_goto (tgt := 30) hx hb dB_36_0_45.2.2.2.1 (by decide) ?_
                exact ih_13 y_50 x4_13 c_c4_13 _ _ _ (by omega) (by first | with_reducible assumption | omega | assumption) (by first | with_reducible assumption | omega | assumption) (by first | with_reducible assumption | omega | assumption) (by first | exact snI_0 | exact hsn_ _ (by omega) | exact snC_no v3_13 hpr (by omega) (by omega) (by omega) (by omega) (by omega) (by omega) (by omega) (by omega) (by omega)) ⟨hP, hD⟩ hS (lv_sub hl [0, 1, 2, 3, 4, 5] rfl)
              · have t_49 : y_41.toInt = a1.toInt := congrArg Int32.toInt c_49
                have hfk_ := flK_at hk (i := x5_13) (by omega) (by omega) (by omega)
                have hbl_ := Int32.toInt_lt x4_13
                refine lv_iload hx hb dB_36_0_44.1.2.1.1 (lv_at hl 1 rfl) ?_
                refine lv_aload_n hx hb dB_36_0_44.1.2.1.2 rfl (lv_at hl 2 rfl) ?_
                refine va_get (ci := 0) (v := .ref c6) (C := RX0) (T := TX0) (N := 9) hx hb hts (fun _ h => List.mem_cons_of_mem _ (List.mem_append_left _ (List.mem_append_right _ h))) hown hK.1 hP 0 rfl rfl 6 (by decide) (hts (.fieldLink RX0 26 "CutAtlas$Current" "letsBack" "[I") (List.mem_of_getElem? (i := 12) rfl)) (fun _ h9 => h9) rfl dB_36_0_44.1.2.2.1 ?_
                refine lv_iload hx hb dB_36_0_44.1.2.2.2 (lv_at hl 0 rfl) ?_
                refine va_iald hx hb hK.1 hP 19 0 rfl rfl (i := x5_13) h_16 dB_36_0_44.2.1.1.1 ?_
                refine lv_topi (fun y_52 ey_52 => ?_)
                have hb6_ : y_52.toInt = (f6 x5_13.toNatClampNeg).toInt := by rw [ey_52]
                refine lv_aload_n hx hb dB_36_0_44.2.1.1.2 rfl (lv_at hl 2 rfl) ?_
                refine va_get (ci := 0) (v := .ref c4) (C := RX0) (T := TX0) (N := 9) hx hb hts (fun _ h => List.mem_cons_of_mem _ (List.mem_append_left _ (List.mem_append_right _ h))) hown hK.1 hP 0 rfl rfl 4 (by decide) (hts (.fieldLink RX0 19 "CutAtlas$Current" "flowing" "[I") (List.mem_of_getElem? (i := 7) rfl)) (fun _ h9 => h9) rfl dB_36_0_44.2.1.2.1 ?_
                refine lv_iload hx hb dB_36_0_44.2.1.2.2 (lv_at hl 0 rfl) ?_
                refine va_iald hx hb hK.1 hP 17 0 rfl rfl (i := x5_13) h_16 dB_36_0_44.2.2.1.1 ?_
                refine lv_topi (fun y_54 ey_54 => ?_)
                have hb4_ : y_54.toInt = (f4 x5_13.toNatClampNeg).toInt := by rw [ey_54, sni_f v3_13]
                refine lv_iadd hx hb dB_36_0_44.2.2.1.2 ?_
                refine lv_topi (fun y_55 ey_55 => ?_)
                have ty_55 : y_55.toInt = y_52.toInt + y_54.toInt := by rw [ey_55]; exact addI (by omega) (by omega)
                refine va_mmin hx hb (by rw [hml]; exact hl.1.symm) hown (hts (.methodLink RX0 101 Lib.Math.min.name) (List.mem_of_getElem? (i := 8) rfl)) (hts (.static Lib.Math.min.name) (List.mem_of_getElem? (i := 9) rfl)) (hts (.initialized "java/lang/Math") (List.mem_of_getElem? (i := 10) rfl)) (hts (.code Lib.Math.min.name Lib.Math.min.code 2 (some .int)) (List.mem_of_getElem? (i := 11) rfl)) (Nat.le_of_ble_eq_true rfl) (Nat.le_of_ble_eq_true rfl) (Nat.le_of_ble_eq_true rfl) (Nat.le_of_ble_eq_true rfl) dB_36_0_44.2.2.2.1 ?_
                refine lv_topi (fun y_56 ey_56 => ?_)
                have ty_56 : y_56 = x4_13 ∨ y_56 = y_55 := by rw [ey_56]; split <;> simp
                have iy_56 : y_56.toInt = x4_13.toInt ∨ y_56.toInt = y_55.toInt := by rcases ty_56 with h | h <;> rw [h] <;> simp
                have htk_ : y_56.toInt = mnZ x4_13.toInt ((f6 x5_13.toNatClampNeg).toInt + (f4 x5_13.toNatClampNeg).toInt) := by have h_ := mnI ey_56; rw [mn_lo, show y_55.toInt = (f6 x5_13.toNatClampNeg).toInt + (f4 x5_13.toNatClampNeg).toInt by omega] at h_; exact h_
                have hbt_ := mn_rng (p := x4_13.toInt) (q := (f6 x5_13.toNatClampNeg).toInt + (f4 x5_13.toNatClampNeg).toInt) (by omega) (by omega)
                refine lv_istore (lv' := [(6, .int y_56), (5, .int x5_13), (4, .int x4_13), (0, .ref xc), (1, .int a1), (2, .int a2), (3, .int a3)]) hx hb dB_36_0_44.2.2.2.2 hl (by decide) rfl (fun ls hl => ?_)
                refine lv_aload_n hx hb dB_36_0_45.1.1.1 rfl (lv_at hl 3 rfl) ?_
                refine va_get (ci := 0) (v := .ref c4) (C := RX0) (T := TX0) (N := 9) hx hb hts (fun _ h => List.mem_cons_of_mem _ (List.mem_append_left _ (List.mem_append_right _ h))) hown hK.1 hP 0 rfl rfl 4 (by decide) (hts (.fieldLink RX0 19 "CutAtlas$Current" "flowing" "[I") (List.mem_of_getElem? (i := 7) rfl)) (fun _ h9 => h9) rfl dB_36_0_45.1.1.2.1 ?_
                refine lv_iload hx hb dB_36_0_45.1.1.2.2 (lv_at hl 1 rfl) ?_
                refine lv_dup2_11 hx hb dB_36_0_45.1.2.1.1 rfl rfl ?_
                refine va_iald hx hb hK.1 hP 17 0 rfl rfl (i := x5_13) h_16 dB_36_0_45.1.2.1.2 ?_
                refine lv_topi (fun y_58 ey_58 => ?_)
                have e_ := (ey_58.trans ey_54.symm).symm
                subst e_
                skip
                have hb4b_ : y_54.toInt = (f4 x5_13.toNatClampNeg).toInt := by rw [ey_54, sni_f v3_13]
                refine lv_iload hx hb dB_36_0_45.1.2.2.1 (lv_at hl 0 rfl) ?_
                refine lv_isub hx hb dB_36_0_45.1.2.2.2 ?_
                refine lv_topi (fun y_59 ey_59 => ?_)
                have ty_59 : y_59.toInt = y_54.toInt - y_56.toInt := by rw [ey_59]; exact subI (by omega) (by omega)
                refine va_iast hx hb hK.1 hP hD hS 17 0 rfl rfl (i := x5_13) h_16 dB_36_0_45.2.1.1.1 (fun H locs hP hD hS => ?_)
                obtain ⟨f_61, ef_61⟩ : ∃ g : Nat → Int32, g = upd c_c4_13 x5_13.toNatClampNeg y_59 := ⟨_, rfl⟩
                refine pd_K (D := D) (cl := vwCl) (H := H) (A := A) [ob0_0_ xc xn xk clo cro c4 c5 c6 c7 c8, ob3_0_ xn vp vn n1 n2 n3 n4 n5, ai_ cy n2 40 fs, ai_ cy n3 40 fe, aq_ cy 6 cro 12 (gf_ rr), ai_ cy (rr 0) 12 (M_12 0), ai_ cy (rr 1) 12 (M_12 1), ai_ cy (rr 2) 12 (M_12 2), ai_ cy (rr 3) 12 (M_12 3), ai_ cy (rr 4) 12 (M_12 4), ai_ cy (rr 5) 12 (M_12 5), ai_ cy (rr 6) 12 (M_12 6), ai_ cy (rr 7) 12 (M_12 7), ai_ cy (rr 8) 12 (M_12 8), ai_ cy (rr 9) 12 (M_12 9), ai_ cy (rr 10) 12 (M_12 10), ai_ cy (rr 11) 12 (M_12 11), ai_ cy c4 40 f_61, ai_ cy c5 40 f5, ai_ cy c6 40 f6] (by rw [ef_61]; exact hP) (by rw [ef_61]; exact hD) (fun hP hD => ?_)
                refine lv_iload hx hb dB_36_0_45.2.1.1.2 (lv_at hl 2 rfl) ?_
                refine lv_iload hx hb dB_36_0_45.2.1.2.1 (lv_at hl 0 rfl) ?_
                refine lv_isub hx hb dB_36_0_45.2.1.2.2 ?_
                refine lv_topi (fun y_62 ey_62 => ?_)
                have ty_62 : y_62.toInt = x4_13.toInt - y_56.toInt := by rw [ey_62]; exact subI (by omega) (by omega)
                have hsn_ : ∀ i2 : Int32, i2.toInt = x5_13.toInt + 1 → snI (kF f5) (kF f6) (gN vn.toNatClampNeg (gF fs)) (nF fs) (nF fe) f4 f_61 a1.toNatClampNeg a2.toNatClampNeg a3.toInt y_62.toInt i2.toNatClampNeg := fun i2 ei => snC_bk v3_13 (by omega) (by omega) (by omega) (by omega) hne (by omega) (by omega) htk_ (by omega) ef_61 (by omega) ei
                refine lv_istore (lv' := [(4, .int y_62), (6, .int y_56), (5, .int x5_13), (0, .ref xc), (1, .int a1), (2, .int a2), (3, .int a3)]) hx hb dB_36_0_45.2.2.1.1 hl (by decide) rfl (fun ls hl => ?_)
                obtain ⟨y_63, ey_63⟩ : ∃ y : Int32, y = x5_13 + 1 := ⟨_, rfl⟩
                have ty_63 : y_63.toInt = x5_13.toInt + (1 : Int32).toInt := by rw [ey_63]; exact addI (by omega) (by omega)
                refine lv_iinc (v := y_63) (lv' := [(5, .int y_63), (4, .int y_62), (6, .int y_56), (0, .ref xc), (1, .int a1), (2, .int a2), (3, .int a3)]) hx hb dB_36_0_45.2.2.1.2 hl (k := 2) rfl (by rw [ey_63]; rfl) (by decide) rfl (fun ls hl => ?_)
                refine lv_goto (tgt := 30) hx hb dB_36_0_45.2.2.2.1 (by decide) ?_
                exact ih_13 y_63 y_62 f_61 _ _ _ (by omega) (by first | with_reducible assumption | omega | assumption) (by first | with_reducible assumption | omega | assumption) (by first | with_reducible assumption | omega | assumption) (by first | exact snI_0 | exact hsn_ _ (by omega) | exact snC_no v3_13 hpr (by omega) (by omega) (by omega) (by omega) (by omega) (by omega) (by omega) (by omega) (by omega)) ⟨hP, hD⟩ hS (lv_sub hl [0, 1, 3, 4, 5, 6] rfl)
          · have t_42 : y_41.toInt = a2.toInt := congrArg Int32.toInt c_42
            have hfk_ := flK_at hk (i := x5_13) (by omega) (by omega) (by omega)
            have hbl_ := Int32.toInt_lt x4_13
            refine lv_iload hx hb dB_36_0_41.2.2.1.2 (lv_at hl 1 rfl) ?_
            refine lv_aload_n hx hb dB_36_0_41.2.2.2.1 rfl (lv_at hl 2 rfl) ?_
            refine va_get (ci := 0) (v := .ref c5) (C := RX0) (T := TX0) (N := 9) hx hb hts (fun _ h => List.mem_cons_of_mem _ (List.mem_append_left _ (List.mem_append_right _ h))) hown hK.1 hP 0 rfl rfl 5 (by decide) (hts (.fieldLink RX0 23 "CutAtlas$Current" "letsForth" "[I") (List.mem_of_getElem? (i := 6) rfl)) (fun _ h9 => h9) rfl dB_36_0_41.2.2.2.2 ?_
            refine lv_iload hx hb dB_36_0_42.1.1.1.1 (lv_at hl 0 rfl) ?_
            refine va_iald hx hb hK.1 hP 18 0 rfl rfl (i := x5_13) h_16 dB_36_0_42.1.1.1.2 ?_
            refine lv_topi (fun y_65 ey_65 => ?_)
            have hb5_ : y_65.toInt = (f5 x5_13.toNatClampNeg).toInt := by rw [ey_65]
            refine lv_aload_n hx hb dB_36_0_42.1.1.2.1 rfl (lv_at hl 2 rfl) ?_
            refine va_get (ci := 0) (v := .ref c4) (C := RX0) (T := TX0) (N := 9) hx hb hts (fun _ h => List.mem_cons_of_mem _ (List.mem_append_left _ (List.mem_append_right _ h))) hown hK.1 hP 0 rfl rfl 4 (by decide) (hts (.fieldLink RX0 19 "CutAtlas$Current" "flowing" "[I") (List.mem_of_getElem? (i := 7) rfl)) (fun _ h9 => h9) rfl dB_36_0_42.1.1.2.2 ?_
            refine lv_iload hx hb dB_36_0_42.1.2.1.1 (lv_at hl 0 rfl) ?_
            refine va_iald hx hb hK.1 hP 17 0 rfl rfl (i := x5_13) h_16 dB_36_0_42.1.2.1.2 ?_
            refine lv_topi (fun y_67 ey_67 => ?_)
            have hb4_ : y_67.toInt = (f4 x5_13.toNatClampNeg).toInt := by rw [ey_67, sni_f v3_13]
            refine lv_isub hx hb dB_36_0_42.1.2.2.1 ?_
            refine lv_topi (fun y_68 ey_68 => ?_)
            have ty_68 : y_68.toInt = y_65.toInt - y_67.toInt := by rw [ey_68]; exact subI (by omega) (by omega)
            refine va_mmin hx hb (by rw [hml]; exact hl.1.symm) hown (hts (.methodLink RX0 101 Lib.Math.min.name) (List.mem_of_getElem? (i := 8) rfl)) (hts (.static Lib.Math.min.name) (List.mem_of_getElem? (i := 9) rfl)) (hts (.initialized "java/lang/Math") (List.mem_of_getElem? (i := 10) rfl)) (hts (.code Lib.Math.min.name Lib.Math.min.code 2 (some .int)) (List.mem_of_getElem? (i := 11) rfl)) (Nat.le_of_ble_eq_true rfl) (Nat.le_of_ble_eq_true rfl) (Nat.le_of_ble_eq_true rfl) (Nat.le_of_ble_eq_true rfl) dB_36_0_42.1.2.2.2 ?_
            refine lv_topi (fun y_69 ey_69 => ?_)
            have ty_69 : y_69 = x4_13 ∨ y_69 = y_68 := by rw [ey_69]; split <;> simp
            have iy_69 : y_69.toInt = x4_13.toInt ∨ y_69.toInt = y_68.toInt := by rcases ty_69 with h | h <;> rw [h] <;> simp
            have htk_ : y_69.toInt = mnZ x4_13.toInt ((f5 x5_13.toNatClampNeg).toInt - (f4 x5_13.toNatClampNeg).toInt) := by have h_ := mnI ey_69; rw [mn_lo, show y_68.toInt = (f5 x5_13.toNatClampNeg).toInt - (f4 x5_13.toNatClampNeg).toInt by omega] at h_; exact h_
            have hbt_ := mn_rng (p := x4_13.toInt) (q := (f5 x5_13.toNatClampNeg).toInt - (f4 x5_13.toNatClampNeg).toInt) (by omega) (by omega)
            refine lv_istore (lv' := [(6, .int y_69), (5, .int x5_13), (4, .int x4_13), (0, .ref xc), (1, .int a1), (2, .int a2), (3, .int a3)]) hx hb dB_36_0_42.2.1.1.1 hl (by decide) rfl (fun ls hl => ?_)
            refine lv_aload_n hx hb dB_36_0_42.2.1.1.2 rfl (lv_at hl 3 rfl) ?_
            refine va_get (ci := 0) (v := .ref c4) (C := RX0) (T := TX0) (N := 9) hx hb hts (fun _ h => List.mem_cons_of_mem _ (List.mem_append_left _ (List.mem_append_right _ h))) hown hK.1 hP 0 rfl rfl 4 (by decide) (hts (.fieldLink RX0 19 "CutAtlas$Current" "flowing" "[I") (List.mem_of_getElem? (i := 7) rfl)) (fun _ h9 => h9) rfl dB_36_0_42.2.1.2.1 ?_
            refine lv_iload hx hb dB_36_0_42.2.1.2.2 (lv_at hl 1 rfl) ?_
            refine lv_dup2_11 hx hb dB_36_0_42.2.2.1.1 rfl rfl ?_
            refine va_iald hx hb hK.1 hP 17 0 rfl rfl (i := x5_13) h_16 dB_36_0_42.2.2.1.2 ?_
            refine lv_topi (fun y_71 ey_71 => ?_)
            have e_ := (ey_71.trans ey_67.symm).symm
            subst e_
            skip
            have hb4b_ : y_67.toInt = (f4 x5_13.toNatClampNeg).toInt := by rw [ey_67, sni_f v3_13]
            refine lv_iload hx hb dB_36_0_42.2.2.2.1 (lv_at hl 0 rfl) ?_
            refine lv_iadd hx hb dB_36_0_42.2.2.2.2 ?_
            refine lv_topi (fun y_72 ey_72 => ?_)
            have ty_72 : y_72.toInt = y_67.toInt + y_69.toInt := by rw [ey_72]; exact addI (by omega) (by omega)
            refine va_iast hx hb hK.1 hP hD hS 17 0 rfl rfl (i := x5_13) h_16 dB_36_0_43.1.1.1.1 (fun H locs hP hD hS => ?_)
            obtain ⟨f_74, ef_74⟩ : ∃ g : Nat → Int32, g = upd c_c4_13 x5_13.toNatClampNeg y_72 := ⟨_, rfl⟩
            refine pd_K (D := D) (cl := vwCl) (H := H) (A := A) [ob0_0_ xc xn xk clo cro c4 c5 c6 c7 c8, ob3_0_ xn vp vn n1 n2 n3 n4 n5, ai_ cy n2 40 fs, ai_ cy n3 40 fe, aq_ cy 6 cro 12 (gf_ rr), ai_ cy (rr 0) 12 (M_12 0), ai_ cy (rr 1) 12 (M_12 1), ai_ cy (rr 2) 12 (M_12 2), ai_ cy (rr 3) 12 (M_12 3), ai_ cy (rr 4) 12 (M_12 4), ai_ cy (rr 5) 12 (M_12 5), ai_ cy (rr 6) 12 (M_12 6), ai_ cy (rr 7) 12 (M_12 7), ai_ cy (rr 8) 12 (M_12 8), ai_ cy (rr 9) 12 (M_12 9), ai_ cy (rr 10) 12 (M_12 10), ai_ cy (rr 11) 12 (M_12 11), ai_ cy c4 40 f_74, ai_ cy c5 40 f5, ai_ cy c6 40 f6] (by rw [ef_74]; exact hP) (by rw [ef_74]; exact hD) (fun hP hD => ?_)
            refine lv_iload hx hb dB_36_0_43.1.1.1.2 (lv_at hl 2 rfl) ?_
            refine lv_iload hx hb dB_36_0_43.1.1.2.1 (lv_at hl 0 rfl) ?_
            refine lv_isub hx hb dB_36_0_43.1.1.2.2 ?_
            refine lv_topi (fun y_75 ey_75 => ?_)
            have ty_75 : y_75.toInt = x4_13.toInt - y_69.toInt := by rw [ey_75]; exact subI (by omega) (by omega)
            have hsn_ : ∀ i2 : Int32, i2.toInt = x5_13.toInt + 1 → snI (kF f5) (kF f6) (gN vn.toNatClampNeg (gF fs)) (nF fs) (nF fe) f4 f_74 a1.toNatClampNeg a2.toNatClampNeg a3.toInt y_75.toInt i2.toNatClampNeg := fun i2 ei => snC_fo v3_13 (by omega) (by omega) (by omega) (by omega) (by omega) htk_ (by omega) ef_74 (by omega) ei
            refine lv_istore (lv' := [(4, .int y_75), (6, .int y_69), (5, .int x5_13), (0, .ref xc), (1, .int a1), (2, .int a2), (3, .int a3)]) hx hb dB_36_0_43.1.2.1.1 hl (by decide) rfl (fun ls hl => ?_)
            refine lv_goto (tgt := 188) hx hb dB_36_0_43.1.2.1.2 (by decide) ?_
            obtain ⟨y_76, ey_76⟩ : ∃ y : Int32, y = x5_13 + 1 := ⟨_, rfl⟩
            have ty_76 : y_76.toInt = x5_13.toInt + (1 : Int32).toInt := by rw [ey_76]; exact addI (by omega) (by omega)
            refine lv_iinc (v := y_76) (lv' := [(5, .int y_76), (4, .int y_75), (6, .int y_69), (0, .ref xc), (1, .int a1), (2, .int a2), (3, .int a3)]) hx hb dB_36_0_45.2.2.1.2 hl (k := 2) rfl (by rw [ey_76]; rfl) (by decide) rfl (fun ls hl => ?_)
            refine lv_goto (tgt := 30) hx hb dB_36_0_45.2.2.2.1 (by decide) ?_
            exact ih_13 y_76 y_75 f_74 _ _ _ (by omega) (by first | with_reducible assumption | omega | assumption) (by first | with_reducible assumption | omega | assumption) (by first | with_reducible assumption | omega | assumption) (by first | exact snI_0 | exact hsn_ _ (by omega) | exact snC_no v3_13 hpr (by omega) (by omega) (by omega) (by omega) (by omega) (by omega) (by omega) (by omega) (by omega)) ⟨hP, hD⟩ hS (lv_sub hl [0, 1, 3, 4, 5, 6] rfl)
end

section
set_option maxHeartbeats 4000000 in
set_option maxRecDepth 100000 in
theorem c_X0_sendAlongWay3 (l : Launch) (D : va_G) (cy : Nat → ClassId) (sz : Nat) (xc : Nat) (xk : Nat) (clo : Nat) (cro : Nat) (c4 : Nat) (c5 : Nat) (c6 : Nat) (c7 : Nat) (c8 : Nat) (xn : Nat) (n1 : Nat) (n2 : Nat) (n3 : Nat) (n4 : Nat) (n5 : Nat) (vp : Int32) (vn : Int32) (fs : Nat → Int32) (fe : Nat → Int32) (rr : Nat → Nat) (Mr : Nat → Nat → Int32) (f4 : Nat → Int32) (f5 : Nat → Int32) (f6 : Nat → Int32) (f8 : Nat → Int32) (a1 : Int32) (a2 : Int32) (hvp : 0 ≤ vp.toInt ∧ vp.toInt ≤ 12) (hvn : 0 ≤ vn.toInt ∧ vn.toInt ≤ 40) (q1 : 0 ≤ a1.toInt ∧ a1.toInt < vp.toInt) (q2 : 0 ≤ a2.toInt ∧ a2.toInt < vp.toInt) (hne : a1.toInt ≠ a2.toInt) (hrm : rmk (zM Mr) vp.toNatClampNeg) (hw : ∃ n : Nat, n ≤ 11 ∧ wayA (zM Mr) (nF f8) vp.toNatClampNeg a1.toNatClampNeg 1 n a2.toNatClampNeg) (hk : flK (kF f5) (kF f6) (gN vn.toNatClampNeg (gF fs)) (kF f4)) (hse : ∀ l : Nat, (gN vn.toNatClampNeg (gF fs)) l = 0 → nF fs l ≠ nF fe l) (hre : rmE (kF f5) (kF f6) (gN vn.toNatClampNeg (gF fs)) (nF fs) (nF fe) vn.toNatClampNeg vp.toNatClampNeg (zM Mr) (kF f4)) (hpr : prng fs fe 40) (r_f8 : rng f8 12 (0) (11)) : Met l yX0_sendAlongWay wsX0_sendAlongWay ({ frames := 2, cells := 0, slots := 0, locals := 39 }) (va_Pc [.ref xc, .int a1, .int a2] (fun U => U.heap.size = sz ∧ va_P D vwCl [ob0_0_ xc xn xk clo cro c4 c5 c6 c7 c8, ob3_0_ xn vp vn n1 n2 n3 n4 n5, ai_ cy n2 40 fs, ai_ cy n3 40 fe, aq_ cy 6 cro 12 (gf_ rr), ai_ cy (rr 0) 12 (Mr 0), ai_ cy (rr 1) 12 (Mr 1), ai_ cy (rr 2) 12 (Mr 2), ai_ cy (rr 3) 12 (Mr 3), ai_ cy (rr 4) 12 (Mr 4), ai_ cy (rr 5) 12 (Mr 5), ai_ cy (rr 6) 12 (Mr 6), ai_ cy (rr 7) 12 (Mr 7), ai_ cy (rr 8) 12 (Mr 8), ai_ cy (rr 9) 12 (Mr 9), ai_ cy (rr 10) 12 (Mr 10), ai_ cy (rr 11) 12 (Mr 11), ai_ cy c4 40 f4, ai_ cy c5 40 f5, ai_ cy c6 40 f6, ai_ cy c8 12 f8] U.heap ∧ kg_ D cy U ∧ va_D (fun _ => True) [ob0_0_ xc xn xk clo cro c4 c5 c6 c7 c8, ob3_0_ xn vp vn n1 n2 n3 n4 n5, ai_ cy n2 40 fs, ai_ cy n3 40 fe, aq_ cy 6 cro 12 (gf_ rr), ai_ cy (rr 0) 12 (Mr 0), ai_ cy (rr 1) 12 (Mr 1), ai_ cy (rr 2) 12 (Mr 2), ai_ cy (rr 3) 12 (Mr 3), ai_ cy (rr 4) 12 (Mr 4), ai_ cy (rr 5) 12 (Mr 5), ai_ cy (rr 6) 12 (Mr 6), ai_ cy (rr 7) 12 (Mr 7), ai_ cy (rr 8) 12 (Mr 8), ai_ cy (rr 9) 12 (Mr 9), ai_ cy (rr 10) 12 (Mr 10), ai_ cy (rr 11) 12 (Mr 11), ai_ cy c4 40 f4, ai_ cy c5 40 f5, ai_ cy c6 40 f6, ai_ cy c8 12 f8])) (va_Qi (fun (r : Int32) (u : Int32) => u = r ∧ ((1 ≤ r.toInt ∧ r.toInt ≤ 160000000))) (fun (u : Int32) (t : State) => ∃ (eMr : Nat → Nat → Int32), ∃ (e4 : Nat → Int32), (rmk (zM eMr) vp.toNatClampNeg) ∧ (∀ S : Nat → Bool, sep a1.toNatClampNeg a2.toNatClampNeg S → outZ (zM eMr) S vp.toNatClampNeg = outZ (zM Mr) S vp.toNatClampNeg - u.toInt) ∧ (wyF (kF f5) (kF f6) (gN vn.toNatClampNeg (gF fs)) (nF fs) (nF fe) vn.toNatClampNeg (nF f8) a1.toNatClampNeg a2.toNatClampNeg u.toInt (kF f4) (kF e4)) ∧ (flK (kF f5) (kF f6) (gN vn.toNatClampNeg (gF fs)) (kF e4)) ∧ (rmE (kF f5) (kF f6) (gN vn.toNatClampNeg (gF fs)) (nF fs) (nF fe) vn.toNatClampNeg vp.toNatClampNeg (zM eMr) (kF e4)) ∧ (cnZ (zM Mr) (zM eMr) vp.toNatClampNeg a1.toNatClampNeg a2.toNatClampNeg u.toInt) ∧ va_P D vwCl [ob0_0_ xc xn xk clo cro c4 c5 c6 c7 c8, ob3_0_ xn vp vn n1 n2 n3 n4 n5, ai_ cy n2 40 fs, ai_ cy n3 40 fe, aq_ cy 6 cro 12 (gf_ rr), ai_ cy (rr 0) 12 (eMr 0), ai_ cy (rr 1) 12 (eMr 1), ai_ cy (rr 2) 12 (eMr 2), ai_ cy (rr 3) 12 (eMr 3), ai_ cy (rr 4) 12 (eMr 4), ai_ cy (rr 5) 12 (eMr 5), ai_ cy (rr 6) 12 (eMr 6), ai_ cy (rr 7) 12 (eMr 7), ai_ cy (rr 8) 12 (eMr 8), ai_ cy (rr 9) 12 (eMr 9), ai_ cy (rr 10) 12 (eMr 10), ai_ cy (rr 11) 12 (eMr 11), ai_ cy c4 40 e4, ai_ cy c5 40 f5, ai_ cy c6 40 f6, ai_ cy c8 12 f8] t.heap ∧ va_D (va_A [ob0_0_ xc xn xk clo cro c4 c5 c6 c7 c8, ob3_0_ xn vp vn n1 n2 n3 n4 n5, ai_ cy n2 40 fs, ai_ cy n3 40 fe, aq_ cy 6 cro 12 (gf_ rr), ai_ cy (rr 0) 12 (Mr 0), ai_ cy (rr 1) 12 (Mr 1), ai_ cy (rr 2) 12 (Mr 2), ai_ cy (rr 3) 12 (Mr 3), ai_ cy (rr 4) 12 (Mr 4), ai_ cy (rr 5) 12 (Mr 5), ai_ cy (rr 6) 12 (Mr 6), ai_ cy (rr 7) 12 (Mr 7), ai_ cy (rr 8) 12 (Mr 8), ai_ cy (rr 9) 12 (Mr 9), ai_ cy (rr 10) 12 (Mr 10), ai_ cy (rr 11) 12 (Mr 11), ai_ cy c4 40 f4, ai_ cy c5 40 f5, ai_ cy c6 40 f6, ai_ cy c8 12 f8] sz) [ob0_0_ xc xn xk clo cro c4 c5 c6 c7 c8, ob3_0_ xn vp vn n1 n2 n3 n4 n5, ai_ cy n2 40 fs, ai_ cy n3 40 fe, aq_ cy 6 cro 12 (gf_ rr), ai_ cy (rr 0) 12 (eMr 0), ai_ cy (rr 1) 12 (eMr 1), ai_ cy (rr 2) 12 (eMr 2), ai_ cy (rr 3) 12 (eMr 3), ai_ cy (rr 4) 12 (eMr 4), ai_ cy (rr 5) 12 (eMr 5), ai_ cy (rr 6) 12 (eMr 6), ai_ cy (rr 7) 12 (eMr 7), ai_ cy (rr 8) 12 (eMr 8), ai_ cy (rr 9) 12 (eMr 9), ai_ cy (rr 10) 12 (eMr 10), ai_ cy (rr 11) 12 (eMr 11), ai_ cy c4 40 e4, ai_ cy c5 40 f5, ai_ cy c6 40 f6, ai_ cy c8 12 f8]) (va_A [ob0_0_ xc xn xk clo cro c4 c5 c6 c7 c8, ob3_0_ xn vp vn n1 n2 n3 n4 n5, ai_ cy n2 40 fs, ai_ cy n3 40 fe, aq_ cy 6 cro 12 (gf_ rr), ai_ cy (rr 0) 12 (Mr 0), ai_ cy (rr 1) 12 (Mr 1), ai_ cy (rr 2) 12 (Mr 2), ai_ cy (rr 3) 12 (Mr 3), ai_ cy (rr 4) 12 (Mr 4), ai_ cy (rr 5) 12 (Mr 5), ai_ cy (rr 6) 12 (Mr 6), ai_ cy (rr 7) 12 (Mr 7), ai_ cy (rr 8) 12 (Mr 8), ai_ cy (rr 9) 12 (Mr 9), ai_ cy (rr 10) 12 (Mr 10), ai_ cy (rr 11) 12 (Mr 11), ai_ cy c4 40 f4, ai_ cy c5 40 f5, ai_ cy c6 40 f6, ai_ cy c8 12 f8] sz)) 0 0 (va_A [ob0_0_ xc xn xk clo cro c4 c5 c6 c7 c8, ob3_0_ xn vp vn n1 n2 n3 n4 n5, ai_ cy n2 40 fs, ai_ cy n3 40 fe, aq_ cy 6 cro 12 (gf_ rr), ai_ cy (rr 0) 12 (Mr 0), ai_ cy (rr 1) 12 (Mr 1), ai_ cy (rr 2) 12 (Mr 2), ai_ cy (rr 3) 12 (Mr 3), ai_ cy (rr 4) 12 (Mr 4), ai_ cy (rr 5) 12 (Mr 5), ai_ cy (rr 6) 12 (Mr 6), ai_ cy (rr 7) 12 (Mr 7), ai_ cy (rr 8) 12 (Mr 8), ai_ cy (rr 9) 12 (Mr 9), ai_ cy (rr 10) 12 (Mr 10), ai_ cy (rr 11) 12 (Mr 11), ai_ cy c4 40 f4, ai_ cy c5 40 f5, ai_ cy c6 40 f6, ai_ cy c8 12 f8] sz) := by
  refine ofQ (cc := cX0_sendAlongWay) (maxL := 6) (ret := (some .int)) (by decide) rfl ?_
  intro p e s m args below meth c s₁ Q hQ B hml hv
  obtain ⟨rfl, hsz, hP, hK, hD0⟩ := hv
  have hG := hK.2
  have hK := hK.1
  have hx := B.exec
  have hb := B.bytes
  have hr := B.returns
  have hts := atoms_spec (ws := wsX0_sendAlongWay) B.pre
  have hown : s.vm.findClass RX0 = some m.cls := by have h_ := findClass_of_methodNamed B.named; exact h_
  have hlocks := B.notSynchronized
  subst hsz
  have hD := hD0.self (sz := s.heap.size)
  generalize hAe : va_A [ob0_0_ xc xn xk clo cro c4 c5 c6 c7 c8, ob3_0_ xn vp vn n1 n2 n3 n4 n5, ai_ cy n2 40 fs, ai_ cy n3 40 fe, aq_ cy 6 cro 12 (gf_ rr), ai_ cy (rr 0) 12 (Mr 0), ai_ cy (rr 1) 12 (Mr 1), ai_ cy (rr 2) 12 (Mr 2), ai_ cy (rr 3) 12 (Mr 3), ai_ cy (rr 4) 12 (Mr 4), ai_ cy (rr 5) 12 (Mr 5), ai_ cy (rr 6) 12 (Mr 6), ai_ cy (rr 7) 12 (Mr 7), ai_ cy (rr 8) 12 (Mr 8), ai_ cy (rr 9) 12 (Mr 9), ai_ cy (rr 10) 12 (Mr 10), ai_ cy (rr 11) 12 (Mr 11), ai_ cy c4 40 f4, ai_ cy c5 40 f5, ai_ cy c6 40 f6, ai_ cy c8 12 f8] s.heap.size = A at hD hQ
  have hA : ∀ q : Nat, s.heap.size ≤ q → A q := fun q h => by rw [← hAe]; exact Or.inr h
  have hS : va_S A s.heap s.heap [] := va_S.rf
  have hl := lv_entry ([.ref xc, .int a1, .int a2]) (n := 6) (Nat.le_of_ble_eq_true rfl)
  rw [lg_entry_eq]
  generalize (lg_sl ([.ref xc, .int a1, .int a2]) ++ List.replicate (6 - (lg_sl ([.ref xc, .int a1, .int a2])).length) Slot.unset).toArray = ls at hl ⊢
  have hl : lv_has ls 6 [(0, .ref xc), (1, .int a1), (2, .int a2)] := hl
  have z0 : (0 : Int32).toInt = 0 := by decide
  have z1 : (1 : Int32).toInt = 1 := by decide
  have z12 : (12 : Int32).toInt = 12 := by decide
  have z1000000000 : (1000000000 : Int32).toInt = 1000000000 := by decide
  obtain ⟨n_, hn_, hw_⟩ := hw
  refine lv_ldc (v := 1000000000) hx hb hown (hts (.constant RX0 100 (1000000000)) (List.mem_of_getElem? (i := 1) rfl)) dB_36_0_35.1.1.1.1 ?_
  refine lv_istore_n (lv' := [(3, .int 1000000000), (0, .ref xc), (1, .int a1), (2, .int a2)]) hx hb dB_36_0_35.1.1.1.2 rfl hl (by decide) rfl (fun ls hl => ?_)
  refine lv_iload_n hx hb dB_36_0_35.1.1.2.1 rfl (lv_at hl 3 rfl) ?_
  refine lv_istore (lv' := [(4, .int a2), (3, .int 1000000000), (0, .ref xc), (1, .int a1), (2, .int a2)]) hx hb dB_36_0_35.1.1.2.2 hl (by decide) rfl (fun ls hl => ?_)
  refine lv_iconst (v := 0) hx hb dB_36_0_35.1.2.1.1 (by decide) ?_
  refine lv_istore (lv' := [(5, .int 0), (4, .int a2), (3, .int 1000000000), (0, .ref xc), (1, .int a1), (2, .int a2)]) hx hb dB_36_0_35.1.2.1.2 hl (by decide) rfl (fun ls hl => ?_)
  suffices LOOP_1 : ∀ (n_1 : Nat) (x5_1 : Int32) (x4_1 : Int32) (x3_1 : Int32) (H : Heap) (locs : List Loc) (ls : Array Slot), 12 - x5_1.toInt < (n_1 : Int) → (0 ≤ x4_1.toInt ∧ x4_1.toInt < vp.toInt) → (0 ≤ x5_1.toInt) → (x5_1.toInt ≤ 12) → (1 ≤ x3_1.toInt) → (0 < x5_1.toInt → x3_1.toInt ≤ 160000000) → (wlp (zM Mr) f8 vp.toNatClampNeg a1.toNatClampNeg a2.toNatClampNeg n_ x3_1.toInt x5_1.toInt x4_1.toNatClampNeg) → (lwI (rmF (kF f5) (kF f6) (gN vn.toNatClampNeg (gF fs)) (nF fs) (nF fe) vn.toNatClampNeg (kF f4)) (nF f8) a1.toNatClampNeg a2.toNatClampNeg x5_1.toNatClampNeg x4_1.toNatClampNeg x3_1.toInt) → pd_2 D vwCl A [ob0_0_ xc xn xk clo cro c4 c5 c6 c7 c8, ob3_0_ xn vp vn n1 n2 n3 n4 n5, ai_ cy n2 40 fs, ai_ cy n3 40 fe, aq_ cy 6 cro 12 (gf_ rr), ai_ cy (rr 0) 12 (Mr 0), ai_ cy (rr 1) 12 (Mr 1), ai_ cy (rr 2) 12 (Mr 2), ai_ cy (rr 3) 12 (Mr 3), ai_ cy (rr 4) 12 (Mr 4), ai_ cy (rr 5) 12 (Mr 5), ai_ cy (rr 6) 12 (Mr 6), ai_ cy (rr 7) 12 (Mr 7), ai_ cy (rr 8) 12 (Mr 8), ai_ cy (rr 9) 12 (Mr 9), ai_ cy (rr 10) 12 (Mr 10), ai_ cy (rr 11) 12 (Mr 11), ai_ cy c4 40 f4, ai_ cy c5 40 f5, ai_ cy c6 40 f6, ai_ cy c8 12 f8] H → va_S A s.heap H locs → lv_has ls 6 [(5, .int x5_1), (4, .int x4_1), (3, .int x3_1), (0, .ref xc), (1, .int a1), (2, .int a2)] → W p l e ({ frames := 2, cells := 0, slots := 0, locals := 39 } : Room) s m (([.ref xc, .int a1, .int a2] : List Value).toArray) below meth c H locs 0 0 Q (F0 m 9 ls []) from LOOP_1 ((12 - (0 : Int32).toInt).toNat + 1) (0 : Int32) a2 (1000000000 : Int32) _ _ _ (by omega) (by first | with_reducible assumption | omega | assumption) (by first | with_reducible assumption | omega | assumption) (by first | with_reducible assumption | omega | assumption) (by first | with_reducible assumption | omega | assumption) (by first | with_reducible assumption | assumption | omega) (by first | exact wlp_0 hw_ | exact wlp_st v_none (by omega) hy_ S[ex] (by omega) (by omega) (by omega)) (by first | exact lwI_0 (by decide) | exact lwI_st v_none (by omega) hy_ S[ex] (by omega) (by omega) (by omega) (by omega) (by omega)) ⟨hP, hD⟩ hS (lv_sub hl [0, 1, 2, 3, 4, 5] rfl)
  intro n_1
  induction n_1 with
  | zero =>
    intro x5_1 x4_1 x3_1 H locs ls hm v0_1 v1_1 v2_1 v3_1 v4_1 v5_1 v6_1 hPD hS hl; obtain ⟨hP, hD⟩ := hPD
    exact absurd hm (by omega)
  | succ n_1 ih_1 =>
    intro x5_1 x4_1 x3_1 H locs ls hm v0_1 v1_1 v2_1 v3_1 v4_1 v5_1 v6_1 hPD hS hl; obtain ⟨hP, hD⟩ := hPD
    refine lv_iload hx hb dB_36_0_35.1.2.2.1 (lv_at hl 0 rfl) ?_
    refine lv_bipush (v := 12) hx hb dB_36_0_35.1.2.2.2 (by decide) ?_
    refine lv_icmp_ge (tgt := 57) hx hb dB_36_0_35.2.1.1.1 (by decide) (fun c_2 => ?_) (fun c_2 => ?_)
    · have t_2 : (12 : Int32).toInt ≤ x5_1.toInt := Int32.le_iff_toInt_le.mp c_2
      have hys_ : x4_1.toInt = a1.toInt := by have h_ := v5_1.1; omega
      have hwe_ := wlp_end v5_1 (congrArg Int32.toNatClampNeg (Int32.toInt_inj.mp hys_))
      have hL5_ : 0 < x5_1.toInt := by rcases Int.lt_or_le 0 x5_1.toInt with h_ | h_; exact h_; exfalso; have h0_ := hwe_.2; have hz_ : n_ = 0 := (by omega); rw [hz_] at hw_; exact nc_ne (x := a2) (y := a1) (by omega) (by omega) (by omega) hw_
      have hle_ := lwI_end v6_1 (nc_eq hys_) (nc_ne (x := a2) (y := a1) (by omega) (by omega) (by omega))
      refine lv_iload_n hx hb dB_36_0_36.2.2.2.2 rfl (lv_at hl 5 rfl) ?_
      refine lv_istore (lv' := [(4, .int a2), (5, .int x5_1), (3, .int x3_1), (0, .ref xc), (1, .int a1), (2, .int a2)]) hx hb dB_36_0_37.1.1.1.1 hl (by decide) rfl (fun ls hl => ?_)
      refine lv_iconst (v := 0) hx hb dB_36_0_37.1.1.1.2 (by decide) ?_
      refine lv_istore (lv' := [(5, .int 0), (4, .int a2), (3, .int x3_1), (0, .ref xc), (1, .int a1), (2, .int a2)]) hx hb dB_36_0_37.1.1.2.1 hl (by decide) rfl (fun ls hl => ?_)
      suffices LOOP_3 : ∀ (n_3 : Nat) (x5_3 : Int32) (x4_3 : Int32) (m_rr_3 : Nat → Nat → Int32) (c_c4_3 : Nat → Int32) (H : Heap) (locs : List Loc) (ls : Array Slot), 12 - x5_3.toInt < (n_3 : Int) → (0 ≤ x4_3.toInt ∧ x4_3.toInt < vp.toInt) → (0 ≤ x5_3.toInt) → (x5_3.toInt ≤ 12) → (wsn (zM Mr) (zM m_rr_3) f8 vp.toNatClampNeg a1.toNatClampNeg a2.toNatClampNeg n_ x3_1.toInt x5_3.toInt x4_3.toNatClampNeg) → (swI (kF f5) (kF f6) (gN vn.toNatClampNeg (gF fs)) (nF fs) (nF fe) vn.toNatClampNeg (nF f8) a1.toNatClampNeg a2.toNatClampNeg x3_1.toInt (kF f4) (kF c_c4_3) x5_3.toNatClampNeg x4_3.toNatClampNeg) → (flK (kF f5) (kF f6) (gN vn.toNatClampNeg (gF fs)) (kF c_c4_3)) → (rmE (kF f5) (kF f6) (gN vn.toNatClampNeg (gF fs)) (nF fs) (nF fe) vn.toNatClampNeg vp.toNatClampNeg (zM m_rr_3) (kF c_c4_3)) → (cnZ (zM Mr) (zM m_rr_3) vp.toNatClampNeg x4_3.toNatClampNeg a2.toNatClampNeg x3_1.toInt) → pd_2 D vwCl A [ob0_0_ xc xn xk clo cro c4 c5 c6 c7 c8, ob3_0_ xn vp vn n1 n2 n3 n4 n5, ai_ cy n2 40 fs, ai_ cy n3 40 fe, aq_ cy 6 cro 12 (gf_ rr), ai_ cy (rr 0) 12 (m_rr_3 0), ai_ cy (rr 1) 12 (m_rr_3 1), ai_ cy (rr 2) 12 (m_rr_3 2), ai_ cy (rr 3) 12 (m_rr_3 3), ai_ cy (rr 4) 12 (m_rr_3 4), ai_ cy (rr 5) 12 (m_rr_3 5), ai_ cy (rr 6) 12 (m_rr_3 6), ai_ cy (rr 7) 12 (m_rr_3 7), ai_ cy (rr 8) 12 (m_rr_3 8), ai_ cy (rr 9) 12 (m_rr_3 9), ai_ cy (rr 10) 12 (m_rr_3 10), ai_ cy (rr 11) 12 (m_rr_3 11), ai_ cy c4 40 c_c4_3, ai_ cy c5 40 f5, ai_ cy c6 40 f6, ai_ cy c8 12 f8] H → va_S A s.heap H locs → lv_has ls 6 [(5, .int x5_3), (4, .int x4_3), (3, .int x3_1), (0, .ref xc), (1, .int a1), (2, .int a2)] → W p l e ({ frames := 2, cells := 0, slots := 0, locals := 39 } : Room) s m (([.ref xc, .int a1, .int a2] : List Value).toArray) below meth c H locs 0 0 Q (F0 m 63 ls []) from LOOP_3 ((12 - (0 : Int32).toInt).toNat + 1) (0 : Int32) a2 Mr f4 _ _ _ (by omega) (by first | with_reducible assumption | omega | assumption) (by first | with_reducible assumption | omega | assumption) (by first | with_reducible assumption | omega | assumption) (by first | exact wsn_0 hwe_.1 hrm | exact wsn_st v_none (by omega) (by omega) hy_ S[ex] (by omega) S[ed]) (by first | exact swI_0 | exact swI_st v_none (by omega) hy_ S[ex] (by omega) S[sn]) (by first | exact hk | exact flK_sn v_none (by omega) (fun l hl => S[sn] l (gN_hN hl).1)) (by first | exact hre | exact rmE_st v_none v_none hse hwm_.2.1 hwm_.1 (by omega) hwm_.2.2.1 S[ed] S[sn]) (by first | exact cnZ_t | exact cnZ_e v_none S[ed] hwm_.2.1 hwm_.1) ⟨hP, hD⟩ hS (lv_sub hl [0, 1, 2, 3, 4, 5] rfl)
      intro n_3
      induction n_3 with
      | zero =>
        intro x5_3 x4_3 m_rr_3 c_c4_3 H locs ls hm v0_3 v1_3 v2_3 v3_3 v4_3 v5_3 v6_3 v7_3 hPD hS hl; obtain ⟨hP, hD⟩ := hPD
        exact absurd hm (by omega)
      | succ n_3 ih_3 =>
        intro x5_3 x4_3 m_rr_3 c_c4_3 H locs ls hm v0_3 v1_3 v2_3 v3_3 v4_3 v5_3 v6_3 v7_3 hPD hS hl; obtain ⟨hP, hD⟩ := hPD
        refine lv_iload hx hb dB_36_0_37.1.1.2.2 (lv_at hl 0 rfl) ?_
        refine lv_bipush (v := 12) hx hb dB_36_0_37.1.2.1.1 (by decide) ?_
        refine lv_icmp_ge (tgt := 105) hx hb dB_36_0_37.1.2.1.2 (by decide) (fun c_4 => ?_) (fun c_4 => ?_)
        · have t_4 : (12 : Int32).toInt ≤ x5_3.toInt := Int32.le_iff_toInt_le.mp c_4
          have hys2_ : x4_3.toInt = a1.toInt := by have h_ := v3_3.1; omega
          have hse_ := wsn_end v3_3 (congrArg Int32.toNatClampNeg (Int32.toInt_inj.mp hys2_))
          refine lv_iload_n hx hb dB_36_0_38.2.2.2.1 rfl (lv_at hl 2 rfl) ?_
          rw [hQ]
          exact W.iret (v := x3_1) hx hb hr (fun t ht hW => ⟨⟨x3_1, x3_1, rfl, ⟨rfl, (by omega)⟩, m_rr_3, c_c4_3, (hse_.1), (hse_.2), (wyF_mk hle_ (swI_end v4_3 (nc_eq hys2_))), (v5_3), (v6_3), (cnZ_at v7_3 (nc_eq hys2_)), by rw [ht]; exact hP, hD⟩, hS.F ht⟩) hS.2.2 dB_36_0_38.2.2.2.2
        · have t_4 : ¬ (12 : Int32).toInt ≤ x5_3.toInt := fun h => c_4 (Int32.le_iff_toInt_le.mpr h)
          refine lv_iload hx hb dB_36_0_37.1.2.2.1 (lv_at hl 1 rfl) ?_
          refine lv_iload_n hx hb dB_36_0_37.1.2.2.2 rfl (lv_at hl 4 rfl) ?_
          refine lv_icmp_eq (tgt := 105) hx hb dB_36_0_37.2.1.1.1 (by decide) (fun c_5 => ?_) (fun c_5 => ?_)
          · have t_5 : x4_3.toInt = a1.toInt := congrArg Int32.toInt c_5
            have hys2_ : x4_3.toInt = a1.toInt := by have h_ := v3_3.1; omega
            have hse_ := wsn_end v3_3 (congrArg Int32.toNatClampNeg (Int32.toInt_inj.mp hys2_))
            refine lv_iload_n hx hb dB_36_0_38.2.2.2.1 rfl (lv_at hl 2 rfl) ?_
            rw [hQ]
            exact W.iret (v := x3_1) hx hb hr (fun t ht hW => ⟨⟨x3_1, x3_1, rfl, ⟨rfl, (by omega)⟩, m_rr_3, c_c4_3, (hse_.1), (hse_.2), (wyF_mk hle_ (swI_end v4_3 (nc_eq hys2_))), (v5_3), (v6_3), (cnZ_at v7_3 (nc_eq hys2_)), by rw [ht]; exact hP, hD⟩, hS.F ht⟩) hS.2.2 dB_36_0_38.2.2.2.2
          · have t_5 : ¬ x4_3.toInt = a1.toInt := fun h => c_5 (Int32.toInt_inj.mp h)
            have hy_ := nc_ne (x := x4_3) (y := a1) (by omega) (by omega) (by omega)
            have hwm_ := wsn_m v3_3 hy_
            have hrk_ := v3_3.2.2.1
            refine lv_aload_n hx hb dB_36_0_37.2.1.1.2 rfl (lv_at hl 3 rfl) ?_
            refine lv_aload_n hx hb dB_36_0_37.2.1.2.1 rfl (lv_at hl 3 rfl) ?_
            refine va_get (ci := 0) (v := .ref c8) (C := RX0) (T := TX0) (N := 9) hx hb hts (fun _ h => List.mem_cons_of_mem _ (List.mem_append_left _ (List.mem_append_right _ h))) hown hK.1 hP 0 rfl rfl 8 (by decide) (hts (.fieldLink RX0 32 "CutAtlas$Current" "cameFrom" "[I") (List.mem_of_getElem? (i := 3) rfl)) (fun _ h9 => h9) rfl dB_36_0_37.2.1.2.2 ?_
            refine lv_iload hx hb dB_36_0_37.2.2.1.1 (lv_at hl 1 rfl) ?_
            have h_6 : vp_in x4_3 12 := in_I (by first | with_reducible assumption | omega) (by omega)
            refine va_iald hx hb hK.1 hP 20 0 rfl rfl (i := x4_3) h_6 dB_36_0_37.2.2.1.2 ?_
            refine lv_topi (fun y_7 ey_7 => ?_)
            have ry_7 : 0 ≤ y_7.toInt ∧ y_7.toInt ≤ 11 := by rw [ey_7]; exact r_f8 _ (in_lt h_6)
            have hxc_ : nF f8 x4_3.toNatClampNeg = y_7.toNatClampNeg := by rw [ey_7]; rfl
            rw [hxc_] at hwm_
            have hcx_ := clI (i := y_7) (by omega)
            have hcv_ := clI (i := vp) (by omega)
            have hxy_ : y_7.toInt ≠ x4_3.toInt := fun q_ => rmE_ne v6_3 hse hwm_.2.1 hwm_.1 (by omega) (nc_eq q_)
            refine lv_iload hx hb dB_36_0_37.2.2.2.1 (lv_at hl 1 rfl) ?_
            refine lv_iload_n hx hb dB_36_0_37.2.2.2.2 rfl (lv_at hl 2 rfl) ?_
            refine ct_S hP hD hS hA [ob0_0_ xc xn xk clo cro c4 c5 c6 c7 c8, ob3_0_ xn vp vn n1 n2 n3 n4 n5, ai_ cy n2 40 fs, ai_ cy n3 40 fe, aq_ cy 6 cro 12 (gf_ rr), ai_ cy (rr 0) 12 (m_rr_3 0), ai_ cy (rr 1) 12 (m_rr_3 1), ai_ cy (rr 2) 12 (m_rr_3 2), ai_ cy (rr 3) 12 (m_rr_3 3), ai_ cy (rr 4) 12 (m_rr_3 4), ai_ cy (rr 5) 12 (m_rr_3 5), ai_ cy (rr 6) 12 (m_rr_3 6), ai_ cy (rr 7) 12 (m_rr_3 7), ai_ cy (rr 8) 12 (m_rr_3 8), ai_ cy (rr 9) 12 (m_rr_3 9), ai_ cy (rr 10) 12 (m_rr_3 10), ai_ cy (rr 11) 12 (m_rr_3 11), ai_ cy c4 40 c_c4_3, ai_ cy c5 40 f5, ai_ cy c6 40 f6] [0, 1, 2, 3, 4, 5, 6, 7, 8, 9, 10, 11, 12, 13, 14, 15, 16, 17, 18, 19] (by decide +kernel) rfl (fun hPc hDw hFc hC_ => ?_)
            refine va_callv (va_runV (As := [.int y_7, .int x4_3, .int x3_1]) (rest := []) ⟨hx, hb, hml, hown, hts⟩ (c_X0_sendOver3 l D cy H.size xc xk clo cro c4 c5 c6 c7 c8 xn n1 n2 n3 n4 n5 vp vn fs fe rr m_rr_3 c_c4_3 f5 f6 y_7 x4_3 x3_1 (by first | with_reducible assumption | omega | assumption) (by first | with_reducible assumption | omega | assumption) (by first | with_reducible assumption | omega | assumption) (by first | with_reducible assumption | omega | assumption) (by first | with_reducible assumption | assumption | omega) (by first | with_reducible assumption | omega | assumption) (by first | with_reducible assumption | assumption | omega) (by first | with_reducible assumption | assumption | omega) (by first | with_reducible assumption | assumption | omega)) (cwV 3 hts gX0_sendAlongWay_X0_sendOver rfl rfl rfl ⟨rfl, hd_X0_sendOver⟩ ⟨Nat.le_of_ble_eq_true rfl, Nat.le_of_ble_eq_true rfl⟩) ⟨bl_g, va_recvX hK.1 hP (ci := 0) (q0 := 0) rfl rfl, fun U hU hW => ⟨rfl, by rw [hU], by rw [hU]; exact hPc, ⟨kk_mv hW hK, arrOfT_moved hW.alike hG⟩, hDw⟩⟩ rfl rfl hl.1 rfl (lv_room (Nat.le_of_ble_eq_true rfl)) dB_36_0_38.1.1.1 ⟨Nat.le_of_ble_eq_true rfl, Nat.le_of_ble_eq_true rfl⟩) hS (fun q _ h => hFc q h) hFc (fun u t H locs ht hvm hw hB hz1 hk1 hS => ?_)
            obtain ⟨eMr_9, e4_10, g_11, g_12, hP1, hD1⟩ := hB
            rw [ht] at hP1
            obtain ⟨hP, hD⟩ := va_join (wr := [ai_ cy c8 12 f8]) (w1 := [ob0_0_ xc xn xk clo cro c4 c5 c6 c7 c8, ob3_0_ xn vp vn n1 n2 n3 n4 n5, ai_ cy n2 40 fs, ai_ cy n3 40 fe, aq_ cy 6 cro 12 (gf_ rr), ai_ cy (rr 0) 12 (eMr_9 0), ai_ cy (rr 1) 12 (eMr_9 1), ai_ cy (rr 2) 12 (eMr_9 2), ai_ cy (rr 3) 12 (eMr_9 3), ai_ cy (rr 4) 12 (eMr_9 4), ai_ cy (rr 5) 12 (eMr_9 5), ai_ cy (rr 6) 12 (eMr_9 6), ai_ cy (rr 7) 12 (eMr_9 7), ai_ cy (rr 8) 12 (eMr_9 8), ai_ cy (rr 9) 12 (eMr_9 9), ai_ cy (rr 10) 12 (eMr_9 10), ai_ cy (rr 11) 12 (eMr_9 11), ai_ cy c4 40 e4_10, ai_ cy c5 40 f5, ai_ cy c6 40 f6]) hP hD [0, 1, 2, 3, 4, 5, 6, 7, 8, 9, 10, 11, 12, 13, 14, 15, 16, 17, 18, 19] [20] hC_ rfl (by decide) (by decide) hk1 hFc hP1 hD1
            refine pd_S hP hD [ob0_0_ xc xn xk clo cro c4 c5 c6 c7 c8, ob3_0_ xn vp vn n1 n2 n3 n4 n5, ai_ cy n2 40 fs, ai_ cy n3 40 fe, aq_ cy 6 cro 12 (gf_ rr), ai_ cy (rr 0) 12 (eMr_9 0), ai_ cy (rr 1) 12 (eMr_9 1), ai_ cy (rr 2) 12 (eMr_9 2), ai_ cy (rr 3) 12 (eMr_9 3), ai_ cy (rr 4) 12 (eMr_9 4), ai_ cy (rr 5) 12 (eMr_9 5), ai_ cy (rr 6) 12 (eMr_9 6), ai_ cy (rr 7) 12 (eMr_9 7), ai_ cy (rr 8) 12 (eMr_9 8), ai_ cy (rr 9) 12 (eMr_9 9), ai_ cy (rr 10) 12 (eMr_9 10), ai_ cy (rr 11) 12 (eMr_9 11), ai_ cy c4 40 e4_10, ai_ cy c5 40 f5, ai_ cy c6 40 f6, ai_ cy c8 12 f8] [1, 2, 3, 4, 5, 6, 7, 8, 9, 10, 11, 12, 13, 14, 15, 16, 17, 18, 19, 20, 0] (by decide +kernel) rfl (fun hP hD => ?_)
            refine lv_aload_n hx hb dB_36_0_38.1.1.2 rfl (lv_at hl 3 rfl) ?_
            refine va_get (ci := 0) (v := .ref c8) (C := RX0) (T := TX0) (N := 9) hx hb hts (fun _ h => List.mem_cons_of_mem _ (List.mem_append_left _ (List.mem_append_right _ h))) hown hK.1 hP 0 rfl rfl 8 (by decide) (hts (.fieldLink RX0 32 "CutAtlas$Current" "cameFrom" "[I") (List.mem_of_getElem? (i := 3) rfl)) (fun _ h9 => h9) rfl dB_36_0_38.1.2.1 ?_
            refine lv_iload hx hb dB_36_0_38.1.2.2.1 (lv_at hl 1 rfl) ?_
            refine va_iald hx hb hK.1 hP 20 0 rfl rfl (i := x4_3) h_6 dB_36_0_38.1.2.2.2 ?_
            refine lv_topi (fun y_14 ey_14 => ?_)
            have e_ := (ey_14.trans ey_7.symm).symm
            subst e_
            skip
            refine lv_istore (lv' := [(4, .int y_7), (5, .int x5_3), (3, .int x3_1), (0, .ref xc), (1, .int a1), (2, .int a2)]) hx hb dB_36_0_38.2.1.1 hl (by decide) rfl (fun ls hl => ?_)
            obtain ⟨y_15, ey_15⟩ : ∃ y : Int32, y = x5_3 + 1 := ⟨_, rfl⟩
            have ty_15 : y_15.toInt = x5_3.toInt + (1 : Int32).toInt := by rw [ey_15]; exact addI (by omega) (by omega)
            refine lv_iinc (v := y_15) (lv' := [(5, .int y_15), (4, .int y_7), (3, .int x3_1), (0, .ref xc), (1, .int a1), (2, .int a2)]) hx hb dB_36_0_38.2.1.2 hl (k := 1) rfl (by rw [ey_15]; rfl) (by decide) rfl (fun ls hl => ?_)
            refine lv_goto (tgt := 63) hx hb dB_36_0_38.2.2.1 (by decide) ?_
            exact ih_3 y_15 y_7 eMr_9 e4_10 _ _ _ (by omega) (by first | with_reducible assumption | omega | assumption) (by first | with_reducible assumption | omega | assumption) (by first | with_reducible assumption | omega | assumption) (by first | exact wsn_0 hwe_.1 hrm | exact wsn_st v3_3 (by omega) (by omega) hy_ ey_7 (by omega) g_11) (by first | exact swI_0 | exact swI_st v4_3 (by omega) hy_ ey_7 (by omega) g_12) (by first | exact hk | exact flK_sn v5_3 (by omega) (fun l hl => g_12 l (gN_hN hl).1)) (by first | exact hre | exact rmE_st v6_3 v5_3 hse hwm_.2.1 hwm_.1 (by omega) hwm_.2.2.1 g_11 g_12) (by first | exact cnZ_t | exact cnZ_e v7_3 g_11 hwm_.2.1 hwm_.1) ⟨hP, hD⟩ hS (lv_sub hl [0, 1, 2, 3, 4, 5] rfl)
    · have t_2 : ¬ (12 : Int32).toInt ≤ x5_1.toInt := fun h => c_2 (Int32.le_iff_toInt_le.mpr h)
      refine lv_iload hx hb dB_36_0_35.2.1.1.2 (lv_at hl 1 rfl) ?_
      refine lv_iload_n hx hb dB_36_0_35.2.1.2.1 rfl (lv_at hl 4 rfl) ?_
      refine lv_icmp_eq (tgt := 57) hx hb dB_36_0_35.2.1.2.2 (by decide) (fun c_16 => ?_) (fun c_16 => ?_)
      · have t_16 : x4_1.toInt = a1.toInt := congrArg Int32.toInt c_16
        have hys_ : x4_1.toInt = a1.toInt := by have h_ := v5_1.1; omega
        have hwe_ := wlp_end v5_1 (congrArg Int32.toNatClampNeg (Int32.toInt_inj.mp hys_))
        have hL5_ : 0 < x5_1.toInt := by rcases Int.lt_or_le 0 x5_1.toInt with h_ | h_; exact h_; exfalso; have h0_ := hwe_.2; have hz_ : n_ = 0 := (by omega); rw [hz_] at hw_; exact nc_ne (x := a2) (y := a1) (by omega) (by omega) (by omega) hw_
        have hle_ := lwI_end v6_1 (nc_eq hys_) (nc_ne (x := a2) (y := a1) (by omega) (by omega) (by omega))
        refine lv_iload_n hx hb dB_36_0_36.2.2.2.2 rfl (lv_at hl 5 rfl) ?_
        refine lv_istore (lv' := [(4, .int a2), (5, .int x5_1), (3, .int x3_1), (0, .ref xc), (1, .int a1), (2, .int a2)]) hx hb dB_36_0_37.1.1.1.1 hl (by decide) rfl (fun ls hl => ?_)
        refine lv_iconst (v := 0) hx hb dB_36_0_37.1.1.1.2 (by decide) ?_
        refine lv_istore (lv' := [(5, .int 0), (4, .int a2), (3, .int x3_1), (0, .ref xc), (1, .int a1), (2, .int a2)]) hx hb dB_36_0_37.1.1.2.1 hl (by decide) rfl (fun ls hl => ?_)
        suffices LOOP_17 : ∀ (n_17 : Nat) (x5_17 : Int32) (x4_17 : Int32) (m_rr_17 : Nat → Nat → Int32) (c_c4_17 : Nat → Int32) (H : Heap) (locs : List Loc) (ls : Array Slot), 12 - x5_17.toInt < (n_17 : Int) → (0 ≤ x4_17.toInt ∧ x4_17.toInt < vp.toInt) → (0 ≤ x5_17.toInt) → (x5_17.toInt ≤ 12) → (wsn (zM Mr) (zM m_rr_17) f8 vp.toNatClampNeg a1.toNatClampNeg a2.toNatClampNeg n_ x3_1.toInt x5_17.toInt x4_17.toNatClampNeg) → (swI (kF f5) (kF f6) (gN vn.toNatClampNeg (gF fs)) (nF fs) (nF fe) vn.toNatClampNeg (nF f8) a1.toNatClampNeg a2.toNatClampNeg x3_1.toInt (kF f4) (kF c_c4_17) x5_17.toNatClampNeg x4_17.toNatClampNeg) → (flK (kF f5) (kF f6) (gN vn.toNatClampNeg (gF fs)) (kF c_c4_17)) → (rmE (kF f5) (kF f6) (gN vn.toNatClampNeg (gF fs)) (nF fs) (nF fe) vn.toNatClampNeg vp.toNatClampNeg (zM m_rr_17) (kF c_c4_17)) → (cnZ (zM Mr) (zM m_rr_17) vp.toNatClampNeg x4_17.toNatClampNeg a2.toNatClampNeg x3_1.toInt) → pd_2 D vwCl A [ob0_0_ xc xn xk clo cro c4 c5 c6 c7 c8, ob3_0_ xn vp vn n1 n2 n3 n4 n5, ai_ cy n2 40 fs, ai_ cy n3 40 fe, aq_ cy 6 cro 12 (gf_ rr), ai_ cy (rr 0) 12 (m_rr_17 0), ai_ cy (rr 1) 12 (m_rr_17 1), ai_ cy (rr 2) 12 (m_rr_17 2), ai_ cy (rr 3) 12 (m_rr_17 3), ai_ cy (rr 4) 12 (m_rr_17 4), ai_ cy (rr 5) 12 (m_rr_17 5), ai_ cy (rr 6) 12 (m_rr_17 6), ai_ cy (rr 7) 12 (m_rr_17 7), ai_ cy (rr 8) 12 (m_rr_17 8), ai_ cy (rr 9) 12 (m_rr_17 9), ai_ cy (rr 10) 12 (m_rr_17 10), ai_ cy (rr 11) 12 (m_rr_17 11), ai_ cy c4 40 c_c4_17, ai_ cy c5 40 f5, ai_ cy c6 40 f6, ai_ cy c8 12 f8] H → va_S A s.heap H locs → lv_has ls 6 [(5, .int x5_17), (4, .int x4_17), (3, .int x3_1), (0, .ref xc), (1, .int a1), (2, .int a2)] → W p l e ({ frames := 2, cells := 0, slots := 0, locals := 39 } : Room) s m (([.ref xc, .int a1, .int a2] : List Value).toArray) below meth c H locs 0 0 Q (F0 m 63 ls []) from LOOP_17 ((12 - (0 : Int32).toInt).toNat + 1) (0 : Int32) a2 Mr f4 _ _ _ (by omega) (by first | with_reducible assumption | omega | assumption) (by first | with_reducible assumption | omega | assumption) (by first | with_reducible assumption | omega | assumption) (by first | exact wsn_0 hwe_.1 hrm | exact wsn_st v_none (by omega) (by omega) hy_ S[ex] (by omega) S[ed]) (by first | exact swI_0 | exact swI_st v_none (by omega) hy_ S[ex] (by omega) S[sn]) (by first | exact hk | exact flK_sn v_none (by omega) (fun l hl => S[sn] l (gN_hN hl).1)) (by first | exact hre | exact rmE_st v_none v_none hse hwm_.2.1 hwm_.1 (by omega) hwm_.2.2.1 S[ed] S[sn]) (by first | exact cnZ_t | exact cnZ_e v_none S[ed] hwm_.2.1 hwm_.1) ⟨hP, hD⟩ hS (lv_sub hl [0, 1, 2, 3, 4, 5] rfl)
        intro n_17
        induction n_17 with
        | zero =>
          intro x5_17 x4_17 m_rr_17 c_c4_17 H locs ls hm v0_17 v1_17 v2_17 v3_17 v4_17 v5_17 v6_17 v7_17 hPD hS hl; obtain ⟨hP, hD⟩ := hPD
          exact absurd hm (by omega)
        | succ n_17 ih_17 =>
          intro x5_17 x4_17 m_rr_17 c_c4_17 H locs ls hm v0_17 v1_17 v2_17 v3_17 v4_17 v5_17 v6_17 v7_17 hPD hS hl; obtain ⟨hP, hD⟩ := hPD
          refine lv_iload hx hb dB_36_0_37.1.1.2.2 (lv_at hl 0 rfl) ?_
          refine lv_bipush (v := 12) hx hb dB_36_0_37.1.2.1.1 (by decide) ?_
          refine lv_icmp_ge (tgt := 105) hx hb dB_36_0_37.1.2.1.2 (by decide) (fun c_18 => ?_) (fun c_18 => ?_)
          · have t_18 : (12 : Int32).toInt ≤ x5_17.toInt := Int32.le_iff_toInt_le.mp c_18
            have hys2_ : x4_17.toInt = a1.toInt := by have h_ := v3_17.1; omega
            have hse_ := wsn_end v3_17 (congrArg Int32.toNatClampNeg (Int32.toInt_inj.mp hys2_))
            refine lv_iload_n hx hb dB_36_0_38.2.2.2.1 rfl (lv_at hl 2 rfl) ?_
            rw [hQ]
            exact W.iret (v := x3_1) hx hb hr (fun t ht hW => ⟨⟨x3_1, x3_1, rfl, ⟨rfl, (by omega)⟩, m_rr_17, c_c4_17, (hse_.1), (hse_.2), (wyF_mk hle_ (swI_end v4_17 (nc_eq hys2_))), (v5_17), (v6_17), (cnZ_at v7_17 (nc_eq hys2_)), by rw [ht]; exact hP, hD⟩, hS.F ht⟩) hS.2.2 dB_36_0_38.2.2.2.2
          · have t_18 : ¬ (12 : Int32).toInt ≤ x5_17.toInt := fun h => c_18 (Int32.le_iff_toInt_le.mpr h)
            refine lv_iload hx hb dB_36_0_37.1.2.2.1 (lv_at hl 1 rfl) ?_
            refine lv_iload_n hx hb dB_36_0_37.1.2.2.2 rfl (lv_at hl 4 rfl) ?_
            refine lv_icmp_eq (tgt := 105) hx hb dB_36_0_37.2.1.1.1 (by decide) (fun c_19 => ?_) (fun c_19 => ?_)
            · have t_19 : x4_17.toInt = a1.toInt := congrArg Int32.toInt c_19
              have hys2_ : x4_17.toInt = a1.toInt := by have h_ := v3_17.1; omega
              have hse_ := wsn_end v3_17 (congrArg Int32.toNatClampNeg (Int32.toInt_inj.mp hys2_))
              refine lv_iload_n hx hb dB_36_0_38.2.2.2.1 rfl (lv_at hl 2 rfl) ?_
              rw [hQ]
              exact W.iret (v := x3_1) hx hb hr (fun t ht hW => ⟨⟨x3_1, x3_1, rfl, ⟨rfl, (by omega)⟩, m_rr_17, c_c4_17, (hse_.1), (hse_.2), (wyF_mk hle_ (swI_end v4_17 (nc_eq hys2_))), (v5_17), (v6_17), (cnZ_at v7_17 (nc_eq hys2_)), by rw [ht]; exact hP, hD⟩, hS.F ht⟩) hS.2.2 dB_36_0_38.2.2.2.2
            · have t_19 : ¬ x4_17.toInt = a1.toInt := fun h => c_19 (Int32.toInt_inj.mp h)
              have hy_ := nc_ne (x := x4_17) (y := a1) (by omega) (by omega) (by omega)
              have hwm_ := wsn_m v3_17 hy_
              have hrk_ := v3_17.2.2.1
              refine lv_aload_n hx hb dB_36_0_37.2.1.1.2 rfl (lv_at hl 3 rfl) ?_
              refine lv_aload_n hx hb dB_36_0_37.2.1.2.1 rfl (lv_at hl 3 rfl) ?_
              refine va_get (ci := 0) (v := .ref c8) (C := RX0) (T := TX0) (N := 9) hx hb hts (fun _ h => List.mem_cons_of_mem _ (List.mem_append_left _ (List.mem_append_right _ h))) hown hK.1 hP 0 rfl rfl 8 (by decide) (hts (.fieldLink RX0 32 "CutAtlas$Current" "cameFrom" "[I") (List.mem_of_getElem? (i := 3) rfl)) (fun _ h9 => h9) rfl dB_36_0_37.2.1.2.2 ?_
              refine lv_iload hx hb dB_36_0_37.2.2.1.1 (lv_at hl 1 rfl) ?_
              have h_20 : vp_in x4_17 12 := in_I (by first | with_reducible assumption | omega) (by omega)
              refine va_iald hx hb hK.1 hP 20 0 rfl rfl (i := x4_17) h_20 dB_36_0_37.2.2.1.2 ?_
              refine lv_topi (fun y_21 ey_21 => ?_)
              have ry_21 : 0 ≤ y_21.toInt ∧ y_21.toInt ≤ 11 := by rw [ey_21]; exact r_f8 _ (in_lt h_20)
              have hxc_ : nF f8 x4_17.toNatClampNeg = y_21.toNatClampNeg := by rw [ey_21]; rfl
              rw [hxc_] at hwm_
              have hcx_ := clI (i := y_21) (by omega)
              have hcv_ := clI (i := vp) (by omega)
              have hxy_ : y_21.toInt ≠ x4_17.toInt := fun q_ => rmE_ne v6_17 hse hwm_.2.1 hwm_.1 (by omega) (nc_eq q_)
              refine lv_iload hx hb dB_36_0_37.2.2.2.1 (lv_at hl 1 rfl) ?_
              refine lv_iload_n hx hb dB_36_0_37.2.2.2.2 rfl (lv_at hl 2 rfl) ?_
              refine ct_S hP hD hS hA [ob0_0_ xc xn xk clo cro c4 c5 c6 c7 c8, ob3_0_ xn vp vn n1 n2 n3 n4 n5, ai_ cy n2 40 fs, ai_ cy n3 40 fe, aq_ cy 6 cro 12 (gf_ rr), ai_ cy (rr 0) 12 (m_rr_17 0), ai_ cy (rr 1) 12 (m_rr_17 1), ai_ cy (rr 2) 12 (m_rr_17 2), ai_ cy (rr 3) 12 (m_rr_17 3), ai_ cy (rr 4) 12 (m_rr_17 4), ai_ cy (rr 5) 12 (m_rr_17 5), ai_ cy (rr 6) 12 (m_rr_17 6), ai_ cy (rr 7) 12 (m_rr_17 7), ai_ cy (rr 8) 12 (m_rr_17 8), ai_ cy (rr 9) 12 (m_rr_17 9), ai_ cy (rr 10) 12 (m_rr_17 10), ai_ cy (rr 11) 12 (m_rr_17 11), ai_ cy c4 40 c_c4_17, ai_ cy c5 40 f5, ai_ cy c6 40 f6] [0, 1, 2, 3, 4, 5, 6, 7, 8, 9, 10, 11, 12, 13, 14, 15, 16, 17, 18, 19] (by decide +kernel) rfl (fun hPc hDw hFc hC_ => ?_)
              refine va_callv (va_runV (As := [.int y_21, .int x4_17, .int x3_1]) (rest := []) ⟨hx, hb, hml, hown, hts⟩ (c_X0_sendOver3 l D cy H.size xc xk clo cro c4 c5 c6 c7 c8 xn n1 n2 n3 n4 n5 vp vn fs fe rr m_rr_17 c_c4_17 f5 f6 y_21 x4_17 x3_1 (by first | with_reducible assumption | omega | assumption) (by first | with_reducible assumption | omega | assumption) (by first | with_reducible assumption | omega | assumption) (by first | with_reducible assumption | omega | assumption) (by first | with_reducible assumption | assumption | omega) (by first | with_reducible assumption | omega | assumption) (by first | with_reducible assumption | assumption | omega) (by first | with_reducible assumption | assumption | omega) (by first | with_reducible assumption | assumption | omega)) (cwV 3 hts gX0_sendAlongWay_X0_sendOver rfl rfl rfl ⟨rfl, hd_X0_sendOver⟩ ⟨Nat.le_of_ble_eq_true rfl, Nat.le_of_ble_eq_true rfl⟩) ⟨bl_g, va_recvX hK.1 hP (ci := 0) (q0 := 0) rfl rfl, fun U hU hW => ⟨rfl, by rw [hU], by rw [hU]; exact hPc, ⟨kk_mv hW hK, arrOfT_moved hW.alike hG⟩, hDw⟩⟩ rfl rfl hl.1 rfl (lv_room (Nat.le_of_ble_eq_true rfl)) dB_36_0_38.1.1.1 ⟨Nat.le_of_ble_eq_true rfl, Nat.le_of_ble_eq_true rfl⟩) hS (fun q _ h => hFc q h) hFc (fun u t H locs ht hvm hw hB hz1 hk1 hS => ?_)
              obtain ⟨eMr_23, e4_24, g_25, g_26, hP1, hD1⟩ := hB
              rw [ht] at hP1
              obtain ⟨hP, hD⟩ := va_join (wr := [ai_ cy c8 12 f8]) (w1 := [ob0_0_ xc xn xk clo cro c4 c5 c6 c7 c8, ob3_0_ xn vp vn n1 n2 n3 n4 n5, ai_ cy n2 40 fs, ai_ cy n3 40 fe, aq_ cy 6 cro 12 (gf_ rr), ai_ cy (rr 0) 12 (eMr_23 0), ai_ cy (rr 1) 12 (eMr_23 1), ai_ cy (rr 2) 12 (eMr_23 2), ai_ cy (rr 3) 12 (eMr_23 3), ai_ cy (rr 4) 12 (eMr_23 4), ai_ cy (rr 5) 12 (eMr_23 5), ai_ cy (rr 6) 12 (eMr_23 6), ai_ cy (rr 7) 12 (eMr_23 7), ai_ cy (rr 8) 12 (eMr_23 8), ai_ cy (rr 9) 12 (eMr_23 9), ai_ cy (rr 10) 12 (eMr_23 10), ai_ cy (rr 11) 12 (eMr_23 11), ai_ cy c4 40 e4_24, ai_ cy c5 40 f5, ai_ cy c6 40 f6]) hP hD [0, 1, 2, 3, 4, 5, 6, 7, 8, 9, 10, 11, 12, 13, 14, 15, 16, 17, 18, 19] [20] hC_ rfl (by decide) (by decide) hk1 hFc hP1 hD1
              refine pd_S hP hD [ob0_0_ xc xn xk clo cro c4 c5 c6 c7 c8, ob3_0_ xn vp vn n1 n2 n3 n4 n5, ai_ cy n2 40 fs, ai_ cy n3 40 fe, aq_ cy 6 cro 12 (gf_ rr), ai_ cy (rr 0) 12 (eMr_23 0), ai_ cy (rr 1) 12 (eMr_23 1), ai_ cy (rr 2) 12 (eMr_23 2), ai_ cy (rr 3) 12 (eMr_23 3), ai_ cy (rr 4) 12 (eMr_23 4), ai_ cy (rr 5) 12 (eMr_23 5), ai_ cy (rr 6) 12 (eMr_23 6), ai_ cy (rr 7) 12 (eMr_23 7), ai_ cy (rr 8) 12 (eMr_23 8), ai_ cy (rr 9) 12 (eMr_23 9), ai_ cy (rr 10) 12 (eMr_23 10), ai_ cy (rr 11) 12 (eMr_23 11), ai_ cy c4 40 e4_24, ai_ cy c5 40 f5, ai_ cy c6 40 f6, ai_ cy c8 12 f8] [1, 2, 3, 4, 5, 6, 7, 8, 9, 10, 11, 12, 13, 14, 15, 16, 17, 18, 19, 20, 0] (by decide +kernel) rfl (fun hP hD => ?_)
              refine lv_aload_n hx hb dB_36_0_38.1.1.2 rfl (lv_at hl 3 rfl) ?_
              refine va_get (ci := 0) (v := .ref c8) (C := RX0) (T := TX0) (N := 9) hx hb hts (fun _ h => List.mem_cons_of_mem _ (List.mem_append_left _ (List.mem_append_right _ h))) hown hK.1 hP 0 rfl rfl 8 (by decide) (hts (.fieldLink RX0 32 "CutAtlas$Current" "cameFrom" "[I") (List.mem_of_getElem? (i := 3) rfl)) (fun _ h9 => h9) rfl dB_36_0_38.1.2.1 ?_
              refine lv_iload hx hb dB_36_0_38.1.2.2.1 (lv_at hl 1 rfl) ?_
              refine va_iald hx hb hK.1 hP 20 0 rfl rfl (i := x4_17) h_20 dB_36_0_38.1.2.2.2 ?_
              refine lv_topi (fun y_28 ey_28 => ?_)
              have e_ := (ey_28.trans ey_21.symm).symm
              subst e_
              skip
              refine lv_istore (lv' := [(4, .int y_21), (5, .int x5_17), (3, .int x3_1), (0, .ref xc), (1, .int a1), (2, .int a2)]) hx hb dB_36_0_38.2.1.1 hl (by decide) rfl (fun ls hl => ?_)
              obtain ⟨y_29, ey_29⟩ : ∃ y : Int32, y = x5_17 + 1 := ⟨_, rfl⟩
              have ty_29 : y_29.toInt = x5_17.toInt + (1 : Int32).toInt := by rw [ey_29]; exact addI (by omega) (by omega)
              refine lv_iinc (v := y_29) (lv' := [(5, .int y_29), (4, .int y_21), (3, .int x3_1), (0, .ref xc), (1, .int a1), (2, .int a2)]) hx hb dB_36_0_38.2.1.2 hl (k := 1) rfl (by rw [ey_29]; rfl) (by decide) rfl (fun ls hl => ?_)
              refine lv_goto (tgt := 63) hx hb dB_36_0_38.2.2.1 (by decide) ?_
              exact ih_17 y_29 y_21 eMr_23 e4_24 _ _ _ (by omega) (by first | with_reducible assumption | omega | assumption) (by first | with_reducible assumption | omega | assumption) (by first | with_reducible assumption | omega | assumption) (by first | exact wsn_0 hwe_.1 hrm | exact wsn_st v3_17 (by omega) (by omega) hy_ ey_21 (by omega) g_25) (by first | exact swI_0 | exact swI_st v4_17 (by omega) hy_ ey_21 (by omega) g_26) (by first | exact hk | exact flK_sn v5_17 (by omega) (fun l hl => g_26 l (gN_hN hl).1)) (by first | exact hre | exact rmE_st v6_17 v5_17 hse hwm_.2.1 hwm_.1 (by omega) hwm_.2.2.1 g_25 g_26) (by first | exact cnZ_t | exact cnZ_e v7_17 g_25 hwm_.2.1 hwm_.1) ⟨hP, hD⟩ hS (lv_sub hl [0, 1, 2, 3, 4, 5] rfl)
      · have t_16 : ¬ x4_1.toInt = a1.toInt := fun h => c_16 (Int32.toInt_inj.mp h)
        have hy_ := nc_ne (x := x4_1) (y := a1) (by omega) (by omega) (by omega)
        have hwm_ := wlp_m v5_1 hy_
        have hrx_ := hrm _ _ hwm_.2.1 hwm_.1
        have hry_ := hrm _ _ hwm_.1 hwm_.2.1
        have hrq_ := hre _ _ hwm_.2.1 hwm_.1
        refine lv_iload_n hx hb dB_36_0_35.2.2.1.1 rfl (lv_at hl 2 rfl) ?_
        refine lv_aload_n hx hb dB_36_0_35.2.2.1.2 rfl (lv_at hl 3 rfl) ?_
        refine va_get (ci := 0) (v := .ref cro) (C := RX0) (T := TX0) (N := 9) hx hb hts (fun _ h => List.mem_cons_of_mem _ (List.mem_append_left _ (List.mem_append_right _ h))) hown hK.1 hP 0 rfl rfl 3 (by decide) (hts (.fieldLink RX0 16 "CutAtlas$Current" "room" "[[I") (List.mem_of_getElem? (i := 2) rfl)) (fun _ h9 => h9) rfl dB_36_0_35.2.2.2.1 ?_
        refine lv_aload_n hx hb dB_36_0_35.2.2.2.2 rfl (lv_at hl 3 rfl) ?_
        refine va_get (ci := 0) (v := .ref c8) (C := RX0) (T := TX0) (N := 9) hx hb hts (fun _ h => List.mem_cons_of_mem _ (List.mem_append_left _ (List.mem_append_right _ h))) hown hK.1 hP 0 rfl rfl 8 (by decide) (hts (.fieldLink RX0 32 "CutAtlas$Current" "cameFrom" "[I") (List.mem_of_getElem? (i := 3) rfl)) (fun _ h9 => h9) rfl dB_36_0_36.1.1.1.1 ?_
        refine lv_iload hx hb dB_36_0_36.1.1.1.2 (lv_at hl 1 rfl) ?_
        have h_30 : vp_in x4_1 12 := in_I (by first | with_reducible assumption | omega) (by omega)
        refine va_iald hx hb hK.1 hP 20 0 rfl rfl (i := x4_1) h_30 dB_36_0_36.1.1.2.1 ?_
        refine lv_topi (fun y_31 ey_31 => ?_)
        have ry_31 : 0 ≤ y_31.toInt ∧ y_31.toInt ≤ 11 := by rw [ey_31]; exact r_f8 _ (in_lt h_30)
        have hxc_ : nF f8 x4_1.toNatClampNeg = y_31.toNatClampNeg := by rw [ey_31]; rfl
        rw [hxc_] at hwm_ hrx_ hry_ hrq_
        have hcx_ := clI (i := y_31) (by omega)
        have hcv_ := clI (i := vp) (by omega)
        have h_32 : vp_in y_31 12 := in_I (by first | with_reducible assumption | omega) (by omega)
        refine va_alda hx hb hG hP 4 rfl (i := y_31) h_32 dB_36_0_36.1.1.2.2 ?_
        refine lv_topv (v' := .ref (rr y_31.toNatClampNeg)) (gf_at h_32) ?_
        refine lv_iload hx hb dB_36_0_36.1.2.1.1 (lv_at hl 1 rfl) ?_
        have hPg : va_P D vwCl (([ob0_0_ xc xn xk clo cro c4 c5 c6 c7 c8, ob3_0_ xn vp vn n1 n2 n3 n4 n5, ai_ cy n2 40 fs, ai_ cy n3 40 fe, aq_ cy 6 cro 12 (gf_ rr)] : va_W) ++ (gro (cy 0) rr Mr ++ ([ai_ cy c4 40 f4, ai_ cy c5 40 f5, ai_ cy c6 40 f6, ai_ cy c8 12 f8] : va_W))) H := hP
        refine va_gld (X := [ob0_0_ xc xn xk clo cro c4 c5 c6 c7 c8, ob3_0_ xn vp vn n1 n2 n3 n4 n5, ai_ cy n2 40 fs, ai_ cy n3 40 fe, aq_ cy 6 cro 12 (gf_ rr)]) (Y := [ai_ cy c4 40 f4, ai_ cy c5 40 f5, ai_ cy c6 40 f6, ai_ cy c8 12 f8]) (r := rr) (M := Mr) (k := y_31.toNatClampNeg) hx hb hK.1 hPg 0 rfl (in_lt h_32) (i := x4_1) h_30 dB_36_0_36.1.2.1.2 ?_
        refine lv_topi (fun y_34 ey_34 => ?_)
        have hmv_ : y_34.toInt = zM Mr y_31.toNatClampNeg x4_1.toNatClampNeg := by unfold zM; rw [ey_34]
        refine va_mmin hx hb (by rw [hml]; exact hl.1.symm) hown (hts (.methodLink RX0 101 Lib.Math.min.name) (List.mem_of_getElem? (i := 4) rfl)) (hts (.static Lib.Math.min.name) (List.mem_of_getElem? (i := 5) rfl)) (hts (.initialized "java/lang/Math") (List.mem_of_getElem? (i := 6) rfl)) (hts (.code Lib.Math.min.name Lib.Math.min.code 2 (some .int)) (List.mem_of_getElem? (i := 7) rfl)) (Nat.le_of_ble_eq_true rfl) (Nat.le_of_ble_eq_true rfl) (Nat.le_of_ble_eq_true rfl) (Nat.le_of_ble_eq_true rfl) dB_36_0_36.1.2.2.1 ?_
        refine lv_topi (fun y_35 ey_35 => ?_)
        have ty_35 : y_35 = x3_1 ∨ y_35 = y_34 := by rw [ey_35]; split <;> simp
        have iy_35 : y_35.toInt = x3_1.toInt ∨ y_35.toInt = y_34.toInt := by rcases ty_35 with h | h <;> rw [h] <;> simp
        have hmn_ : y_35.toInt ≤ x3_1.toInt ∧ y_35.toInt ≤ zM Mr y_31.toNatClampNeg x4_1.toNatClampNeg ∧ (y_35.toInt = x3_1.toInt ∨ y_35.toInt = zM Mr y_31.toNatClampNeg x4_1.toNatClampNeg) := by have h_ := mnI ey_35; unfold loI at h_; split at h_ <;> omega
        refine lv_istore_n (lv' := [(3, .int y_35), (5, .int x5_1), (4, .int x4_1), (0, .ref xc), (1, .int a1), (2, .int a2)]) hx hb dB_36_0_36.1.2.2.2 rfl hl (by decide) rfl (fun ls hl => ?_)
        refine lv_aload_n hx hb dB_36_0_36.2.1.1.1 rfl (lv_at hl 3 rfl) ?_
        refine va_get (ci := 0) (v := .ref c8) (C := RX0) (T := TX0) (N := 9) hx hb hts (fun _ h => List.mem_cons_of_mem _ (List.mem_append_left _ (List.mem_append_right _ h))) hown hK.1 hP 0 rfl rfl 8 (by decide) (hts (.fieldLink RX0 32 "CutAtlas$Current" "cameFrom" "[I") (List.mem_of_getElem? (i := 3) rfl)) (fun _ h9 => h9) rfl dB_36_0_36.2.1.1.2 ?_
        refine lv_iload hx hb dB_36_0_36.2.1.2.1 (lv_at hl 2 rfl) ?_
        refine va_iald hx hb hK.1 hP 20 0 rfl rfl (i := x4_1) h_30 dB_36_0_36.2.1.2.2 ?_
        refine lv_topi (fun y_37 ey_37 => ?_)
        have e_ := (ey_37.trans ey_31.symm).symm
        subst e_
        skip
        refine lv_istore (lv' := [(4, .int y_31), (3, .int y_35), (5, .int x5_1), (0, .ref xc), (1, .int a1), (2, .int a2)]) hx hb dB_36_0_36.2.2.1.1 hl (by decide) rfl (fun ls hl => ?_)
        obtain ⟨y_38, ey_38⟩ : ∃ y : Int32, y = x5_1 + 1 := ⟨_, rfl⟩
        have ty_38 : y_38.toInt = x5_1.toInt + (1 : Int32).toInt := by rw [ey_38]; exact addI (by omega) (by omega)
        refine lv_iinc (v := y_38) (lv' := [(5, .int y_38), (4, .int y_31), (3, .int y_35), (0, .ref xc), (1, .int a1), (2, .int a2)]) hx hb dB_36_0_36.2.2.1.2 hl (k := 2) rfl (by rw [ey_38]; rfl) (by decide) rfl (fun ls hl => ?_)
        refine lv_goto (tgt := 9) hx hb dB_36_0_36.2.2.2.1 (by decide) ?_
        exact ih_1 y_38 y_31 y_35 _ _ _ (by omega) (by first | with_reducible assumption | omega | assumption) (by first | with_reducible assumption | omega | assumption) (by first | with_reducible assumption | omega | assumption) (by first | with_reducible assumption | omega | assumption) (by first | with_reducible assumption | assumption | omega) (by first | exact wlp_0 hw_ | exact wlp_st v5_1 (by omega) hy_ ey_31 (by omega) (by omega) (by omega)) (by first | exact lwI_0 (by decide) | exact lwI_st v6_1 (by omega) hy_ ey_31 (by omega) (by omega) (by omega) (by omega) (by omega)) ⟨hP, hD⟩ hS (lv_sub hl [0, 1, 2, 3, 4, 5] rfl)
end

section
set_option maxHeartbeats 4000000 in
set_option maxRecDepth 100000 in
theorem c_X0_fill3 (l : Launch) (D : va_G) (cy : Nat → ClassId) (sz : Nat) (xc : Nat) (xk : Nat) (clo : Nat) (cro : Nat) (c4 : Nat) (c5 : Nat) (c6 : Nat) (c7 : Nat) (c8 : Nat) (xn : Nat) (n1 : Nat) (n2 : Nat) (n3 : Nat) (n4 : Nat) (n5 : Nat) (vp : Int32) (vn : Int32) (fs : Nat → Int32) (fe : Nat → Int32) (rl : Nat → Nat) (Ml : Nat → Nat → Int32) (rr : Nat → Nat) (Mr : Nat → Nat → Int32) (f4 : Nat → Int32) (f5 : Nat → Int32) (f6 : Nat → Int32) (f7 : Nat → Int32) (f8 : Nat → Int32) (a1 : Int32) (a2 : Int32) (hvp : 0 ≤ vp.toInt ∧ vp.toInt ≤ 12) (hvn : 0 ≤ vn.toInt ∧ vn.toInt ≤ 40) (q1 : 0 ≤ a1.toInt ∧ a1.toInt < vp.toInt) (q2 : 0 ≤ a2.toInt ∧ a2.toInt < vp.toInt) (hne : a1.toInt ≠ a2.toInt) (hM : ∀ x y : Nat, x < vp.toNatClampNeg → y < vp.toNatClampNeg → 0 ≤ zM Ml x y ∧ zM Ml x y ≤ 80000000) (hC : ∀ S : Nat → Bool, clsd (zM Ml) vp.toNatClampNeg 1000000 S → outZ (zM Ml) S vp.toNatClampNeg ≤ 100000) (hse : ∀ l : Nat, (gN vn.toNatClampNeg (gF fs)) l = 0 → nF fs l ≠ nF fe l) (hre0 : ∀ F : Nat → Int, (∀ l : Nat, l < vn.toNatClampNeg → F l = 0) → rmE (kF f5) (kF f6) (gN vn.toNatClampNeg (gF fs)) (nF fs) (nF fe) vn.toNatClampNeg vp.toNatClampNeg (zM Ml) F) (hfk0 : ∀ F : Nat → Int, (∀ l : Nat, l < vn.toNatClampNeg → F l = 0) → flK (kF f5) (kF f6) (gN vn.toNatClampNeg (gF fs)) F) (hpr : prng fs fe 40) (r_f7 : rng f7 12 (0) (11)) (r_f8 : rng f8 12 (0) (11)) : Met l yX0_fill wsX0_fill ({ frames := 3, cells := 0, slots := 0, locals := 64 }) (va_Pc [.ref xc, .int a1, .int a2] (fun U => U.heap.size = sz ∧ va_P D vwCl [ob0_0_ xc xn xk clo cro c4 c5 c6 c7 c8, ob3_0_ xn vp vn n1 n2 n3 n4 n5, ai_ cy n2 40 fs, ai_ cy n3 40 fe, aq_ cy 6 clo 12 (gf_ rl), ai_ cy (rl 0) 12 (Ml 0), ai_ cy (rl 1) 12 (Ml 1), ai_ cy (rl 2) 12 (Ml 2), ai_ cy (rl 3) 12 (Ml 3), ai_ cy (rl 4) 12 (Ml 4), ai_ cy (rl 5) 12 (Ml 5), ai_ cy (rl 6) 12 (Ml 6), ai_ cy (rl 7) 12 (Ml 7), ai_ cy (rl 8) 12 (Ml 8), ai_ cy (rl 9) 12 (Ml 9), ai_ cy (rl 10) 12 (Ml 10), ai_ cy (rl 11) 12 (Ml 11), aq_ cy 6 cro 12 (gf_ rr), ai_ cy (rr 0) 12 (Mr 0), ai_ cy (rr 1) 12 (Mr 1), ai_ cy (rr 2) 12 (Mr 2), ai_ cy (rr 3) 12 (Mr 3), ai_ cy (rr 4) 12 (Mr 4), ai_ cy (rr 5) 12 (Mr 5), ai_ cy (rr 6) 12 (Mr 6), ai_ cy (rr 7) 12 (Mr 7), ai_ cy (rr 8) 12 (Mr 8), ai_ cy (rr 9) 12 (Mr 9), ai_ cy (rr 10) 12 (Mr 10), ai_ cy (rr 11) 12 (Mr 11), ai_ cy c4 40 f4, ai_ cy c5 40 f5, ai_ cy c6 40 f6, ai_ cy c7 12 f7, ai_ cy c8 12 f8] U.heap ∧ kg_ D cy U ∧ va_D (fun _ => True) [ob0_0_ xc xn xk clo cro c4 c5 c6 c7 c8, ob3_0_ xn vp vn n1 n2 n3 n4 n5, ai_ cy n2 40 fs, ai_ cy n3 40 fe, aq_ cy 6 clo 12 (gf_ rl), ai_ cy (rl 0) 12 (Ml 0), ai_ cy (rl 1) 12 (Ml 1), ai_ cy (rl 2) 12 (Ml 2), ai_ cy (rl 3) 12 (Ml 3), ai_ cy (rl 4) 12 (Ml 4), ai_ cy (rl 5) 12 (Ml 5), ai_ cy (rl 6) 12 (Ml 6), ai_ cy (rl 7) 12 (Ml 7), ai_ cy (rl 8) 12 (Ml 8), ai_ cy (rl 9) 12 (Ml 9), ai_ cy (rl 10) 12 (Ml 10), ai_ cy (rl 11) 12 (Ml 11), aq_ cy 6 cro 12 (gf_ rr), ai_ cy (rr 0) 12 (Mr 0), ai_ cy (rr 1) 12 (Mr 1), ai_ cy (rr 2) 12 (Mr 2), ai_ cy (rr 3) 12 (Mr 3), ai_ cy (rr 4) 12 (Mr 4), ai_ cy (rr 5) 12 (Mr 5), ai_ cy (rr 6) 12 (Mr 6), ai_ cy (rr 7) 12 (Mr 7), ai_ cy (rr 8) 12 (Mr 8), ai_ cy (rr 9) 12 (Mr 9), ai_ cy (rr 10) 12 (Mr 10), ai_ cy (rr 11) 12 (Mr 11), ai_ cy c4 40 f4, ai_ cy c5 40 f5, ai_ cy c6 40 f6, ai_ cy c7 12 f7, ai_ cy c8 12 f8])) (va_Qi (fun (r : Int32) (u : Int32) => u = r ∧ ((mostR (fun S => outZ (zM Ml) S vp.toNatClampNeg) a1.toNatClampNeg a2.toNatClampNeg r.toInt))) (fun (u : Int32) (t : State) => ∃ (eMr : Nat → Nat → Int32), ∃ (e4 : Nat → Int32), ∃ (e7 : Nat → Int32), ∃ (e8 : Nat → Int32), (u.toInt ≠ -5 → flw (zM Ml) (zM eMr) vp.toNatClampNeg a1.toNatClampNeg a2.toNatClampNeg u.toInt) ∧ (u.toInt ≠ -5 → enF (kF f5) (kF f6) (gN vn.toNatClampNeg (gF fs)) (nF fs) (nF fe) vn.toNatClampNeg vp.toNatClampNeg a1.toNatClampNeg a2.toNatClampNeg (kF e4)) ∧ (u.toInt ≠ -5 → cnZ (zM Ml) (zM eMr) vp.toNatClampNeg a1.toNatClampNeg a2.toNatClampNeg u.toInt) ∧ (rng e7 12 (0) (11)) ∧ (rng e8 12 (0) (11)) ∧ va_P D vwCl [ob0_0_ xc xn xk clo cro c4 c5 c6 c7 c8, ob3_0_ xn vp vn n1 n2 n3 n4 n5, ai_ cy n2 40 fs, ai_ cy n3 40 fe, aq_ cy 6 clo 12 (gf_ rl), ai_ cy (rl 0) 12 (Ml 0), ai_ cy (rl 1) 12 (Ml 1), ai_ cy (rl 2) 12 (Ml 2), ai_ cy (rl 3) 12 (Ml 3), ai_ cy (rl 4) 12 (Ml 4), ai_ cy (rl 5) 12 (Ml 5), ai_ cy (rl 6) 12 (Ml 6), ai_ cy (rl 7) 12 (Ml 7), ai_ cy (rl 8) 12 (Ml 8), ai_ cy (rl 9) 12 (Ml 9), ai_ cy (rl 10) 12 (Ml 10), ai_ cy (rl 11) 12 (Ml 11), aq_ cy 6 cro 12 (gf_ rr), ai_ cy (rr 0) 12 (eMr 0), ai_ cy (rr 1) 12 (eMr 1), ai_ cy (rr 2) 12 (eMr 2), ai_ cy (rr 3) 12 (eMr 3), ai_ cy (rr 4) 12 (eMr 4), ai_ cy (rr 5) 12 (eMr 5), ai_ cy (rr 6) 12 (eMr 6), ai_ cy (rr 7) 12 (eMr 7), ai_ cy (rr 8) 12 (eMr 8), ai_ cy (rr 9) 12 (eMr 9), ai_ cy (rr 10) 12 (eMr 10), ai_ cy (rr 11) 12 (eMr 11), ai_ cy c4 40 e4, ai_ cy c5 40 f5, ai_ cy c6 40 f6, ai_ cy c7 12 e7, ai_ cy c8 12 e8] t.heap ∧ va_D (va_A [ob0_0_ xc xn xk clo cro c4 c5 c6 c7 c8, ob3_0_ xn vp vn n1 n2 n3 n4 n5, ai_ cy n2 40 fs, ai_ cy n3 40 fe, aq_ cy 6 clo 12 (gf_ rl), ai_ cy (rl 0) 12 (Ml 0), ai_ cy (rl 1) 12 (Ml 1), ai_ cy (rl 2) 12 (Ml 2), ai_ cy (rl 3) 12 (Ml 3), ai_ cy (rl 4) 12 (Ml 4), ai_ cy (rl 5) 12 (Ml 5), ai_ cy (rl 6) 12 (Ml 6), ai_ cy (rl 7) 12 (Ml 7), ai_ cy (rl 8) 12 (Ml 8), ai_ cy (rl 9) 12 (Ml 9), ai_ cy (rl 10) 12 (Ml 10), ai_ cy (rl 11) 12 (Ml 11), aq_ cy 6 cro 12 (gf_ rr), ai_ cy (rr 0) 12 (Mr 0), ai_ cy (rr 1) 12 (Mr 1), ai_ cy (rr 2) 12 (Mr 2), ai_ cy (rr 3) 12 (Mr 3), ai_ cy (rr 4) 12 (Mr 4), ai_ cy (rr 5) 12 (Mr 5), ai_ cy (rr 6) 12 (Mr 6), ai_ cy (rr 7) 12 (Mr 7), ai_ cy (rr 8) 12 (Mr 8), ai_ cy (rr 9) 12 (Mr 9), ai_ cy (rr 10) 12 (Mr 10), ai_ cy (rr 11) 12 (Mr 11), ai_ cy c4 40 f4, ai_ cy c5 40 f5, ai_ cy c6 40 f6, ai_ cy c7 12 f7, ai_ cy c8 12 f8] sz) [ob0_0_ xc xn xk clo cro c4 c5 c6 c7 c8, ob3_0_ xn vp vn n1 n2 n3 n4 n5, ai_ cy n2 40 fs, ai_ cy n3 40 fe, aq_ cy 6 clo 12 (gf_ rl), ai_ cy (rl 0) 12 (Ml 0), ai_ cy (rl 1) 12 (Ml 1), ai_ cy (rl 2) 12 (Ml 2), ai_ cy (rl 3) 12 (Ml 3), ai_ cy (rl 4) 12 (Ml 4), ai_ cy (rl 5) 12 (Ml 5), ai_ cy (rl 6) 12 (Ml 6), ai_ cy (rl 7) 12 (Ml 7), ai_ cy (rl 8) 12 (Ml 8), ai_ cy (rl 9) 12 (Ml 9), ai_ cy (rl 10) 12 (Ml 10), ai_ cy (rl 11) 12 (Ml 11), aq_ cy 6 cro 12 (gf_ rr), ai_ cy (rr 0) 12 (eMr 0), ai_ cy (rr 1) 12 (eMr 1), ai_ cy (rr 2) 12 (eMr 2), ai_ cy (rr 3) 12 (eMr 3), ai_ cy (rr 4) 12 (eMr 4), ai_ cy (rr 5) 12 (eMr 5), ai_ cy (rr 6) 12 (eMr 6), ai_ cy (rr 7) 12 (eMr 7), ai_ cy (rr 8) 12 (eMr 8), ai_ cy (rr 9) 12 (eMr 9), ai_ cy (rr 10) 12 (eMr 10), ai_ cy (rr 11) 12 (eMr 11), ai_ cy c4 40 e4, ai_ cy c5 40 f5, ai_ cy c6 40 f6, ai_ cy c7 12 e7, ai_ cy c8 12 e8]) (va_A [ob0_0_ xc xn xk clo cro c4 c5 c6 c7 c8, ob3_0_ xn vp vn n1 n2 n3 n4 n5, ai_ cy n2 40 fs, ai_ cy n3 40 fe, aq_ cy 6 clo 12 (gf_ rl), ai_ cy (rl 0) 12 (Ml 0), ai_ cy (rl 1) 12 (Ml 1), ai_ cy (rl 2) 12 (Ml 2), ai_ cy (rl 3) 12 (Ml 3), ai_ cy (rl 4) 12 (Ml 4), ai_ cy (rl 5) 12 (Ml 5), ai_ cy (rl 6) 12 (Ml 6), ai_ cy (rl 7) 12 (Ml 7), ai_ cy (rl 8) 12 (Ml 8), ai_ cy (rl 9) 12 (Ml 9), ai_ cy (rl 10) 12 (Ml 10), ai_ cy (rl 11) 12 (Ml 11), aq_ cy 6 cro 12 (gf_ rr), ai_ cy (rr 0) 12 (Mr 0), ai_ cy (rr 1) 12 (Mr 1), ai_ cy (rr 2) 12 (Mr 2), ai_ cy (rr 3) 12 (Mr 3), ai_ cy (rr 4) 12 (Mr 4), ai_ cy (rr 5) 12 (Mr 5), ai_ cy (rr 6) 12 (Mr 6), ai_ cy (rr 7) 12 (Mr 7), ai_ cy (rr 8) 12 (Mr 8), ai_ cy (rr 9) 12 (Mr 9), ai_ cy (rr 10) 12 (Mr 10), ai_ cy (rr 11) 12 (Mr 11), ai_ cy c4 40 f4, ai_ cy c5 40 f5, ai_ cy c6 40 f6, ai_ cy c7 12 f7, ai_ cy c8 12 f8] sz)) 0 0 (va_A [ob0_0_ xc xn xk clo cro c4 c5 c6 c7 c8, ob3_0_ xn vp vn n1 n2 n3 n4 n5, ai_ cy n2 40 fs, ai_ cy n3 40 fe, aq_ cy 6 clo 12 (gf_ rl), ai_ cy (rl 0) 12 (Ml 0), ai_ cy (rl 1) 12 (Ml 1), ai_ cy (rl 2) 12 (Ml 2), ai_ cy (rl 3) 12 (Ml 3), ai_ cy (rl 4) 12 (Ml 4), ai_ cy (rl 5) 12 (Ml 5), ai_ cy (rl 6) 12 (Ml 6), ai_ cy (rl 7) 12 (Ml 7), ai_ cy (rl 8) 12 (Ml 8), ai_ cy (rl 9) 12 (Ml 9), ai_ cy (rl 10) 12 (Ml 10), ai_ cy (rl 11) 12 (Ml 11), aq_ cy 6 cro 12 (gf_ rr), ai_ cy (rr 0) 12 (Mr 0), ai_ cy (rr 1) 12 (Mr 1), ai_ cy (rr 2) 12 (Mr 2), ai_ cy (rr 3) 12 (Mr 3), ai_ cy (rr 4) 12 (Mr 4), ai_ cy (rr 5) 12 (Mr 5), ai_ cy (rr 6) 12 (Mr 6), ai_ cy (rr 7) 12 (Mr 7), ai_ cy (rr 8) 12 (Mr 8), ai_ cy (rr 9) 12 (Mr 9), ai_ cy (rr 10) 12 (Mr 10), ai_ cy (rr 11) 12 (Mr 11), ai_ cy c4 40 f4, ai_ cy c5 40 f5, ai_ cy c6 40 f6, ai_ cy c7 12 f7, ai_ cy c8 12 f8] sz) := by
  refine ofQ (cc := cX0_fill) (maxL := 5) (ret := (some .int)) (by decide) rfl ?_
  intro p e s m args below meth c s₁ Q hQ B hml hv
  obtain ⟨rfl, hsz, hP, hK, hD0⟩ := hv
  have hG := hK.2
  have hK := hK.1
  have hx := B.exec
  have hb := B.bytes
  have hr := B.returns
  have hts := atoms_spec (ws := wsX0_fill) B.pre
  have hown : s.vm.findClass RX0 = some m.cls := by have h_ := findClass_of_methodNamed B.named; exact h_
  have hlocks := B.notSynchronized
  subst hsz
  have hD := hD0.self (sz := s.heap.size)
  generalize hAe : va_A [ob0_0_ xc xn xk clo cro c4 c5 c6 c7 c8, ob3_0_ xn vp vn n1 n2 n3 n4 n5, ai_ cy n2 40 fs, ai_ cy n3 40 fe, aq_ cy 6 clo 12 (gf_ rl), ai_ cy (rl 0) 12 (Ml 0), ai_ cy (rl 1) 12 (Ml 1), ai_ cy (rl 2) 12 (Ml 2), ai_ cy (rl 3) 12 (Ml 3), ai_ cy (rl 4) 12 (Ml 4), ai_ cy (rl 5) 12 (Ml 5), ai_ cy (rl 6) 12 (Ml 6), ai_ cy (rl 7) 12 (Ml 7), ai_ cy (rl 8) 12 (Ml 8), ai_ cy (rl 9) 12 (Ml 9), ai_ cy (rl 10) 12 (Ml 10), ai_ cy (rl 11) 12 (Ml 11), aq_ cy 6 cro 12 (gf_ rr), ai_ cy (rr 0) 12 (Mr 0), ai_ cy (rr 1) 12 (Mr 1), ai_ cy (rr 2) 12 (Mr 2), ai_ cy (rr 3) 12 (Mr 3), ai_ cy (rr 4) 12 (Mr 4), ai_ cy (rr 5) 12 (Mr 5), ai_ cy (rr 6) 12 (Mr 6), ai_ cy (rr 7) 12 (Mr 7), ai_ cy (rr 8) 12 (Mr 8), ai_ cy (rr 9) 12 (Mr 9), ai_ cy (rr 10) 12 (Mr 10), ai_ cy (rr 11) 12 (Mr 11), ai_ cy c4 40 f4, ai_ cy c5 40 f5, ai_ cy c6 40 f6, ai_ cy c7 12 f7, ai_ cy c8 12 f8] s.heap.size = A at hD hQ
  have hA : ∀ q : Nat, s.heap.size ≤ q → A q := fun q h => by rw [← hAe]; exact Or.inr h
  have hS : va_S A s.heap s.heap [] := va_S.rf
  have hl := lv_entry ([.ref xc, .int a1, .int a2]) (n := 5) (Nat.le_of_ble_eq_true rfl)
  rw [lg_entry_eq]
  generalize (lg_sl ([.ref xc, .int a1, .int a2]) ++ List.replicate (5 - (lg_sl ([.ref xc, .int a1, .int a2])).length) Slot.unset).toArray = ls at hl ⊢
  have hl : lv_has ls 5 [(0, .ref xc), (1, .int a1), (2, .int a2)] := hl
  have zm5 : ((-5) : Int32).toInt = -5 := by decide
  have z0 : (0 : Int32).toInt = 0 := by decide
  have z1 : (1 : Int32).toInt = 1 := by decide
  have z2 : (2 : Int32).toInt = 2 := by decide
  have z3 : (3 : Int32).toInt = 3 := by decide
  have z4 : (4 : Int32).toInt = 4 := by decide
  have z5 : (5 : Int32).toInt = 5 := by decide
  have z6 : (6 : Int32).toInt = 6 := by decide
  have z7 : (7 : Int32).toInt = 7 := by decide
  have z8 : (8 : Int32).toInt = 8 := by decide
  have z9 : (9 : Int32).toInt = 9 := by decide
  have z10 : (10 : Int32).toInt = 10 := by decide
  have z11 : (11 : Int32).toInt = 11 := by decide
  have z1000000 : (1000000 : Int32).toInt = 1000000 := by decide
  refine lv_aload_n hx hb dB_36_0_4.1.1.1.1 rfl (lv_at hl 0 rfl) ?_
  refine va_get (ci := 0) (v := .ref c4) (C := RX0) (T := TX0) (N := 9) hx hb hts (fun _ h => List.mem_cons_of_mem _ (List.mem_append_left _ (List.mem_append_right _ h))) hown hK.1 hP 0 rfl rfl 4 (by decide) (hts (.fieldLink RX0 19 "CutAtlas$Current" "flowing" "[I") (List.mem_of_getElem? (i := 1) rfl)) (fun _ h9 => h9) rfl dB_36_0_4.1.1.1.2 ?_
  refine lv_iconst (v := 0) hx hb dB_36_0_4.1.1.2.1 (by decide) ?_
  refine ct_S hP hD hS hA [ai_ cy c4 40 f4] [30] (by decide) rfl (fun hPc hDw hFc hC_ => ?_)
  refine va_callv (va_runS (As := [.ref c4, .int 0]) (rest := []) ⟨hx, hb, hml, hown, hts⟩ (c_J7_fill_53178 l D cy s.heap.size c4 40 (0 : Int32) f4 (by first | with_reducible assumption | assumption | omega)) (va_cwS 2 hts gX0_fill_J7_fill_53178 rfl rfl rfl hd_J7_fill_53178 ⟨Nat.le_of_ble_eq_true rfl, Nat.le_of_ble_eq_true rfl⟩) ⟨bl_, fun U hU hW => ⟨rfl, by rw [hU], by rw [hU]; exact hPc, kk_mv hW hK, hDw⟩⟩ rfl rfl hl.1 rfl (lv_room (Nat.le_of_ble_eq_true rfl)) dB_36_0_4.1.1.2.2 ⟨Nat.le_of_ble_eq_true rfl, Nat.le_of_ble_eq_true rfl⟩) hS (fun q _ h => hFc q h) hFc (fun u t H locs ht hvm hw hB hz1 hk1 hS => ?_)
  obtain ⟨e1_2, g_3, hP1, hD1⟩ := hB
  rw [ht] at hP1
  obtain ⟨hP, hD⟩ := va_join (wr := [ob0_0_ xc xn xk clo cro c4 c5 c6 c7 c8, ob3_0_ xn vp vn n1 n2 n3 n4 n5, ai_ cy n2 40 fs, ai_ cy n3 40 fe, aq_ cy 6 clo 12 (gf_ rl), ai_ cy (rl 0) 12 (Ml 0), ai_ cy (rl 1) 12 (Ml 1), ai_ cy (rl 2) 12 (Ml 2), ai_ cy (rl 3) 12 (Ml 3), ai_ cy (rl 4) 12 (Ml 4), ai_ cy (rl 5) 12 (Ml 5), ai_ cy (rl 6) 12 (Ml 6), ai_ cy (rl 7) 12 (Ml 7), ai_ cy (rl 8) 12 (Ml 8), ai_ cy (rl 9) 12 (Ml 9), ai_ cy (rl 10) 12 (Ml 10), ai_ cy (rl 11) 12 (Ml 11), aq_ cy 6 cro 12 (gf_ rr), ai_ cy (rr 0) 12 (Mr 0), ai_ cy (rr 1) 12 (Mr 1), ai_ cy (rr 2) 12 (Mr 2), ai_ cy (rr 3) 12 (Mr 3), ai_ cy (rr 4) 12 (Mr 4), ai_ cy (rr 5) 12 (Mr 5), ai_ cy (rr 6) 12 (Mr 6), ai_ cy (rr 7) 12 (Mr 7), ai_ cy (rr 8) 12 (Mr 8), ai_ cy (rr 9) 12 (Mr 9), ai_ cy (rr 10) 12 (Mr 10), ai_ cy (rr 11) 12 (Mr 11), ai_ cy c5 40 f5, ai_ cy c6 40 f6, ai_ cy c7 12 f7, ai_ cy c8 12 f8]) (w1 := [ai_ cy c4 40 e1_2]) hP hD [30] [0, 1, 2, 3, 4, 5, 6, 7, 8, 9, 10, 11, 12, 13, 14, 15, 16, 17, 18, 19, 20, 21, 22, 23, 24, 25, 26, 27, 28, 29, 31, 32, 33, 34] hC_ rfl (by decide +kernel) (by decide +kernel) hk1 hFc hP1 hD1
  refine pd_S hP hD [ob0_0_ xc xn xk clo cro c4 c5 c6 c7 c8, ob3_0_ xn vp vn n1 n2 n3 n4 n5, ai_ cy n2 40 fs, ai_ cy n3 40 fe, aq_ cy 6 clo 12 (gf_ rl), ai_ cy (rl 0) 12 (Ml 0), ai_ cy (rl 1) 12 (Ml 1), ai_ cy (rl 2) 12 (Ml 2), ai_ cy (rl 3) 12 (Ml 3), ai_ cy (rl 4) 12 (Ml 4), ai_ cy (rl 5) 12 (Ml 5), ai_ cy (rl 6) 12 (Ml 6), ai_ cy (rl 7) 12 (Ml 7), ai_ cy (rl 8) 12 (Ml 8), ai_ cy (rl 9) 12 (Ml 9), ai_ cy (rl 10) 12 (Ml 10), ai_ cy (rl 11) 12 (Ml 11), aq_ cy 6 cro 12 (gf_ rr), ai_ cy (rr 0) 12 (Mr 0), ai_ cy (rr 1) 12 (Mr 1), ai_ cy (rr 2) 12 (Mr 2), ai_ cy (rr 3) 12 (Mr 3), ai_ cy (rr 4) 12 (Mr 4), ai_ cy (rr 5) 12 (Mr 5), ai_ cy (rr 6) 12 (Mr 6), ai_ cy (rr 7) 12 (Mr 7), ai_ cy (rr 8) 12 (Mr 8), ai_ cy (rr 9) 12 (Mr 9), ai_ cy (rr 10) 12 (Mr 10), ai_ cy (rr 11) 12 (Mr 11), ai_ cy c4 40 e1_2, ai_ cy c5 40 f5, ai_ cy c6 40 f6, ai_ cy c7 12 f7, ai_ cy c8 12 f8] [0, 1, 2, 3, 4, 5, 6, 7, 8, 9, 10, 11, 12, 13, 14, 15, 16, 17, 18, 19, 20, 21, 22, 23, 24, 25, 26, 27, 28, 29, 34, 30, 31, 32, 33] (by decide +kernel) rfl (fun hP hD => ?_)
  have hz_ : ∀ l : Nat, l < vn.toNatClampNeg → kF e1_2 l = 0 := fun l hl => by have c_ := clI (i := vn) (by omega); show (e1_2 l).toInt = 0; rw [g_3 l (by omega)]; decide
  refine lv_iconst (v := 0) hx hb dB_36_0_4.1.2.1.1 (by decide) ?_
  refine lv_istore_n (lv' := [(3, .int 0), (0, .ref xc), (1, .int a1), (2, .int a2)]) hx hb dB_36_0_4.1.2.1.2 rfl hl (by decide) rfl (fun ls hl => ?_)
  suffices LOOP_4 : ∀ (n_4 : Nat) (x3_4 : Int32) (m_rr_4 : Nat → Nat → Int32) (H : Heap) (locs : List Loc) (ls : Array Slot), vp.toInt - x3_4.toInt < (n_4 : Int) → (0 ≤ x3_4.toInt) → (x3_4.toInt ≤ vp.toInt) → (∀ x y : Nat, (x : Int) < x3_4.toInt → y < vp.toNatClampNeg → m_rr_4 x y = Ml x y) → pd_2 D vwCl A [ob0_0_ xc xn xk clo cro c4 c5 c6 c7 c8, ob3_0_ xn vp vn n1 n2 n3 n4 n5, ai_ cy n2 40 fs, ai_ cy n3 40 fe, aq_ cy 6 clo 12 (gf_ rl), ai_ cy (rl 0) 12 (Ml 0), ai_ cy (rl 1) 12 (Ml 1), ai_ cy (rl 2) 12 (Ml 2), ai_ cy (rl 3) 12 (Ml 3), ai_ cy (rl 4) 12 (Ml 4), ai_ cy (rl 5) 12 (Ml 5), ai_ cy (rl 6) 12 (Ml 6), ai_ cy (rl 7) 12 (Ml 7), ai_ cy (rl 8) 12 (Ml 8), ai_ cy (rl 9) 12 (Ml 9), ai_ cy (rl 10) 12 (Ml 10), ai_ cy (rl 11) 12 (Ml 11), aq_ cy 6 cro 12 (gf_ rr), ai_ cy (rr 0) 12 (m_rr_4 0), ai_ cy (rr 1) 12 (m_rr_4 1), ai_ cy (rr 2) 12 (m_rr_4 2), ai_ cy (rr 3) 12 (m_rr_4 3), ai_ cy (rr 4) 12 (m_rr_4 4), ai_ cy (rr 5) 12 (m_rr_4 5), ai_ cy (rr 6) 12 (m_rr_4 6), ai_ cy (rr 7) 12 (m_rr_4 7), ai_ cy (rr 8) 12 (m_rr_4 8), ai_ cy (rr 9) 12 (m_rr_4 9), ai_ cy (rr 10) 12 (m_rr_4 10), ai_ cy (rr 11) 12 (m_rr_4 11), ai_ cy c4 40 e1_2, ai_ cy c5 40 f5, ai_ cy c6 40 f6, ai_ cy c7 12 f7, ai_ cy c8 12 f8] H → va_S A s.heap H locs → lv_has ls 5 [(3, .int x3_4), (0, .ref xc), (1, .int a1), (2, .int a2)] → W p l e ({ frames := 3, cells := 0, slots := 0, locals := 64 } : Room) s m (([.ref xc, .int a1, .int a2] : List Value).toArray) below meth c H locs 0 0 Q (F0 m 10 ls []) from LOOP_4 ((vp.toInt - (0 : Int32).toInt).toNat + 1) (0 : Int32) Mr _ _ _ (by omega) (by first | with_reducible assumption | omega | assumption) (by first | with_reducible assumption | omega | assumption) (by first | exact cp_st eMr v_none (by assumption) (by decide) (by omega) | (intro x y hx; omega)) ⟨hP, hD⟩ hS (lv_sub hl [0, 1, 2, 3] rfl)
  intro n_4
  induction n_4 with
  | zero =>
    intro x3_4 m_rr_4 H locs ls hm v0_4 v1_4 v2_4 hPD hS hl; obtain ⟨hP, hD⟩ := hPD
    exact absurd hm (by omega)
  | succ n_4 ih_4 =>
    intro x3_4 m_rr_4 H locs ls hm v0_4 v1_4 v2_4 hPD hS hl; obtain ⟨hP, hD⟩ := hPD
    refine lv_iload_n hx hb dB_36_0_4.1.2.2.1 rfl (lv_at hl 0 rfl) ?_
    refine lv_aload_n hx hb dB_36_0_4.1.2.2.2 rfl (lv_at hl 1 rfl) ?_
    refine va_get (ci := 0) (v := .ref xn) (C := RX0) (T := TX0) (N := 9) hx hb hts (fun _ h => List.mem_cons_of_mem _ (List.mem_append_left _ (List.mem_append_right _ h))) hown hK.1 hP 0 rfl rfl 0 (by decide) (hts (.fieldLink RX0 35 "CutAtlas$Current" "net" "LCutAtlas$Net;") (List.mem_of_getElem? (i := 2) rfl)) (fun _ h9 => h9) rfl dB_36_0_4.2.1.1.1 ?_
    refine va_get (ci := 3) (v := .int vp) (C := RX3) (T := TX3) (N := 7) hx hb hts (fun _ h => List.mem_cons_of_mem _ (List.mem_append_right _ h)) hown hK.1 hP 1 rfl rfl 0 (by decide) (hts (.fieldLink RX0 43 "CutAtlas$Net" "places" "I") (List.mem_of_getElem? (i := 3) rfl)) (fun _ h9 => h9) rfl dB_36_0_4.2.1.1.2 ?_
    refine lv_icmp_ge (tgt := 51) hx hb dB_36_0_4.2.1.2.1 (by decide) (fun c_5 => ?_) (fun c_5 => ?_)
    · have t_5 : vp.toInt ≤ x3_4.toInt := Int32.le_iff_toInt_le.mp c_5
      have hce_ := cp_end v2_4 (by omega) (by omega)
      refine lv_aload_n hx hb dB_36_0_5.2.1.2.2 rfl (lv_at hl 1 rfl) ?_
      refine lv_iload_n hx hb dB_36_0_5.2.2.1.1 rfl (lv_at hl 2 rfl) ?_
      refine lv_ldc (v := 1000000) hx hb hown (hts (.constant RX0 82 (1000000)) (List.mem_of_getElem? (i := 10) rfl)) dB_36_0_5.2.2.1.2 ?_
      refine ct_S hP hD hS hA [ob0_0_ xc xn xk clo cro c4 c5 c6 c7 c8, ob3_0_ xn vp vn n1 n2 n3 n4 n5, aq_ cy 6 cro 12 (gf_ rr), ai_ cy (rr 0) 12 (m_rr_4 0), ai_ cy (rr 1) 12 (m_rr_4 1), ai_ cy (rr 2) 12 (m_rr_4 2), ai_ cy (rr 3) 12 (m_rr_4 3), ai_ cy (rr 4) 12 (m_rr_4 4), ai_ cy (rr 5) 12 (m_rr_4 5), ai_ cy (rr 6) 12 (m_rr_4 6), ai_ cy (rr 7) 12 (m_rr_4 7), ai_ cy (rr 8) 12 (m_rr_4 8), ai_ cy (rr 9) 12 (m_rr_4 9), ai_ cy (rr 10) 12 (m_rr_4 10), ai_ cy (rr 11) 12 (m_rr_4 11), ai_ cy c7 12 f7] [0, 1, 17, 18, 19, 20, 21, 22, 23, 24, 25, 26, 27, 28, 29, 33] (by decide +kernel) rfl (fun hPc hDw hFc hC_ => ?_)
      refine va_calli (va_runV (As := [.int a1, .int 1000000]) (rest := []) ⟨hx, hb, hml, hown, hts⟩ (c_X0_reachedFrom2 l D cy H.size xc xk clo cro c4 c5 c6 c7 c8 xn n1 n2 n3 n4 n5 vp vn rr m_rr_4 f7 a1 (1000000 : Int32) (by first | with_reducible assumption | omega | assumption) (by first | with_reducible assumption | omega | assumption) (by first | with_reducible assumption | assumption | omega)) (cwV 2 hts gX0_fill_X0_reachedFrom rfl rfl rfl ⟨rfl, hd_X0_reachedFrom⟩ ⟨Nat.le_of_ble_eq_true rfl, Nat.le_of_ble_eq_true rfl⟩) ⟨bl_g, va_recvX hK.1 hP (ci := 0) (q0 := 0) rfl rfl, fun U hU hW => ⟨rfl, by rw [hU], by rw [hU]; exact hPc, ⟨kk_mv hW hK, arrOfT_moved hW.alike hG⟩, hDw⟩⟩ rfl rfl hl.1 rfl (lv_room (Nat.le_of_ble_eq_true rfl)) dB_36_0_5.2.2.2.1 ⟨Nat.le_of_ble_eq_true rfl, Nat.le_of_ble_eq_true rfl⟩) hS (fun q _ h => hFc q h) hFc (fun r_6 u t H locs ht hvm hw hB hz1 hk1 hS => ?_)
      obtain ⟨e7_7, g_8, hP1, hD1⟩ := hB
      rw [ht] at hP1
      obtain ⟨hP, hD⟩ := va_join (wr := [ai_ cy n2 40 fs, ai_ cy n3 40 fe, aq_ cy 6 clo 12 (gf_ rl), ai_ cy (rl 0) 12 (Ml 0), ai_ cy (rl 1) 12 (Ml 1), ai_ cy (rl 2) 12 (Ml 2), ai_ cy (rl 3) 12 (Ml 3), ai_ cy (rl 4) 12 (Ml 4), ai_ cy (rl 5) 12 (Ml 5), ai_ cy (rl 6) 12 (Ml 6), ai_ cy (rl 7) 12 (Ml 7), ai_ cy (rl 8) 12 (Ml 8), ai_ cy (rl 9) 12 (Ml 9), ai_ cy (rl 10) 12 (Ml 10), ai_ cy (rl 11) 12 (Ml 11), ai_ cy c4 40 e1_2, ai_ cy c5 40 f5, ai_ cy c6 40 f6, ai_ cy c8 12 f8]) (w1 := [ob0_0_ xc xn xk clo cro c4 c5 c6 c7 c8, ob3_0_ xn vp vn n1 n2 n3 n4 n5, aq_ cy 6 cro 12 (gf_ rr), ai_ cy (rr 0) 12 (m_rr_4 0), ai_ cy (rr 1) 12 (m_rr_4 1), ai_ cy (rr 2) 12 (m_rr_4 2), ai_ cy (rr 3) 12 (m_rr_4 3), ai_ cy (rr 4) 12 (m_rr_4 4), ai_ cy (rr 5) 12 (m_rr_4 5), ai_ cy (rr 6) 12 (m_rr_4 6), ai_ cy (rr 7) 12 (m_rr_4 7), ai_ cy (rr 8) 12 (m_rr_4 8), ai_ cy (rr 9) 12 (m_rr_4 9), ai_ cy (rr 10) 12 (m_rr_4 10), ai_ cy (rr 11) 12 (m_rr_4 11), ai_ cy c7 12 e7_7]) hP hD [0, 1, 17, 18, 19, 20, 21, 22, 23, 24, 25, 26, 27, 28, 29, 33] [2, 3, 4, 5, 6, 7, 8, 9, 10, 11, 12, 13, 14, 15, 16, 30, 31, 32, 34] hC_ rfl (by decide +kernel) (by decide +kernel) hk1 hFc hP1 hD1
      refine pd_S hP hD [ob0_0_ xc xn xk clo cro c4 c5 c6 c7 c8, ob3_0_ xn vp vn n1 n2 n3 n4 n5, ai_ cy n2 40 fs, ai_ cy n3 40 fe, aq_ cy 6 clo 12 (gf_ rl), ai_ cy (rl 0) 12 (Ml 0), ai_ cy (rl 1) 12 (Ml 1), ai_ cy (rl 2) 12 (Ml 2), ai_ cy (rl 3) 12 (Ml 3), ai_ cy (rl 4) 12 (Ml 4), ai_ cy (rl 5) 12 (Ml 5), ai_ cy (rl 6) 12 (Ml 6), ai_ cy (rl 7) 12 (Ml 7), ai_ cy (rl 8) 12 (Ml 8), ai_ cy (rl 9) 12 (Ml 9), ai_ cy (rl 10) 12 (Ml 10), ai_ cy (rl 11) 12 (Ml 11), aq_ cy 6 cro 12 (gf_ rr), ai_ cy (rr 0) 12 (m_rr_4 0), ai_ cy (rr 1) 12 (m_rr_4 1), ai_ cy (rr 2) 12 (m_rr_4 2), ai_ cy (rr 3) 12 (m_rr_4 3), ai_ cy (rr 4) 12 (m_rr_4 4), ai_ cy (rr 5) 12 (m_rr_4 5), ai_ cy (rr 6) 12 (m_rr_4 6), ai_ cy (rr 7) 12 (m_rr_4 7), ai_ cy (rr 8) 12 (m_rr_4 8), ai_ cy (rr 9) 12 (m_rr_4 9), ai_ cy (rr 10) 12 (m_rr_4 10), ai_ cy (rr 11) 12 (m_rr_4 11), ai_ cy c4 40 e1_2, ai_ cy c5 40 f5, ai_ cy c6 40 f6, ai_ cy c7 12 e7_7, ai_ cy c8 12 f8] [19, 20, 0, 1, 2, 3, 4, 5, 6, 7, 8, 9, 10, 11, 12, 13, 14, 21, 22, 23, 24, 25, 26, 27, 28, 29, 30, 31, 32, 33, 15, 16, 17, 34, 18] (by decide +kernel) rfl (fun hP hD => ?_)
      have f0_r_6 := hw
      have hrc_ := rchd_cg f0_r_6 hce_
      refine lv_iload_n hx hb dB_36_0_5.2.2.2.2 rfl (lv_at hl 3 rfl) ?_
      refine lv_ishr hx hb dB_36_0_6.1.1.1.1 ?_
      refine lv_topi (fun y_9 ey_9 => ?_)
      refine lv_iconst (v := 1) hx hb dB_36_0_6.1.1.1.2 (by decide) ?_
      refine lv_iand hx hb dB_36_0_6.1.1.2.1 ?_
      refine lv_topi (fun y_10 ey_10 => ?_)
      have hbw_ := bI_w (y := a2) (by omega) (by omega) ey_9 ey_10
      refine lv_iconst (v := 1) hx hb dB_36_0_6.1.1.2.2 (by decide) ?_
      refine lv_icmp_ne (tgt := 69) hx hb dB_36_0_6.1.2.1.1 (by decide) (fun c_11 => ?_) (fun c_11 => ?_)
      · have t_11 : ¬ y_10.toInt = (1 : Int32).toInt := fun h => c_11 (Int32.toInt_inj.mp h)
        have hsp_ : sep a1.toNatClampNeg a2.toNatClampNeg _ := ⟨hrc_.1, bt_fl hbw_ (by omega)⟩
        have hsm_ := hC _ hrc_.2.1
        have hf0_ : flw (zM Ml) (zM m_rr_4) vp.toNatClampNeg a1.toNatClampNeg a2.toNatClampNeg 0 := flw_0 hM hce_
        have hr0_ : rmE (kF f5) (kF f6) (gN vn.toNatClampNeg (gF fs)) (nF fs) (nF fe) vn.toNatClampNeg vp.toNatClampNeg (zM m_rr_4) (kF e1_2) := fun u v hu hv => (hce_ u v hu hv).trans (hre0 _ hz_ u v hu hv)
        have hsP_ : a1.toNatClampNeg < vp.toNatClampNeg := nc_lt (by omega) (by omega)
        refine lv_iconst (v := 0) hx hb dB_36_0_6.1.2.2.2 (by decide) ?_
        refine lv_istore_n (lv' := [(3, .int 0), (0, .ref xc), (1, .int a1), (2, .int a2)]) hx hb dB_36_0_6.2.1.1.1 rfl hl (by decide) rfl (fun ls hl => ?_)
        refine lv_iconst (v := 0) hx hb dB_36_0_6.2.1.1.2 (by decide) ?_
        refine lv_istore (lv' := [(4, .int 0), (3, .int 0), (0, .ref xc), (1, .int a1), (2, .int a2)]) hx hb dB_36_0_6.2.1.2.1 hl (by decide) rfl (fun ls hl => ?_)
        suffices LOOP_12 : ∀ (n_12 : Nat) (x4_12 : Int32) (x3_12 : Int32) (m_rr_12 : Nat → Nat → Int32) (c_c4_12 : Nat → Int32) (c_c7_12 : Nat → Int32) (c_c8_12 : Nat → Int32) (H : Heap) (locs : List Loc) (ls : Array Slot), 1000000 - x4_12.toInt < (n_12 : Int) → (0 ≤ x4_12.toInt) → (x4_12.toInt ≤ 1000000) → (flw (zM Ml) (zM m_rr_12) vp.toNatClampNeg a1.toNatClampNeg a2.toNatClampNeg x3_12.toInt) → (x4_12.toInt ≤ x3_12.toInt ∧ x3_12.toInt ≤ 100000) → (∃ k_ : Nat, chF (kF f5) (kF f6) (gN vn.toNatClampNeg (gF fs)) (nF fs) (nF fe) vn.toNatClampNeg vp.toNatClampNeg a1.toNatClampNeg a2.toNatClampNeg k_ (kF c_c4_12)) → (flK (kF f5) (kF f6) (gN vn.toNatClampNeg (gF fs)) (kF c_c4_12)) → (rmE (kF f5) (kF f6) (gN vn.toNatClampNeg (gF fs)) (nF fs) (nF fe) vn.toNatClampNeg vp.toNatClampNeg (zM m_rr_12) (kF c_c4_12)) → (cnZ (zM Ml) (zM m_rr_12) vp.toNatClampNeg a1.toNatClampNeg a2.toNatClampNeg x3_12.toInt) → (rng c_c7_12 12 (0) (11)) → (rng c_c8_12 12 (0) (11)) → pd_2 D vwCl A [ob0_0_ xc xn xk clo cro c4 c5 c6 c7 c8, ob3_0_ xn vp vn n1 n2 n3 n4 n5, ai_ cy n2 40 fs, ai_ cy n3 40 fe, aq_ cy 6 clo 12 (gf_ rl), ai_ cy (rl 0) 12 (Ml 0), ai_ cy (rl 1) 12 (Ml 1), ai_ cy (rl 2) 12 (Ml 2), ai_ cy (rl 3) 12 (Ml 3), ai_ cy (rl 4) 12 (Ml 4), ai_ cy (rl 5) 12 (Ml 5), ai_ cy (rl 6) 12 (Ml 6), ai_ cy (rl 7) 12 (Ml 7), ai_ cy (rl 8) 12 (Ml 8), ai_ cy (rl 9) 12 (Ml 9), ai_ cy (rl 10) 12 (Ml 10), ai_ cy (rl 11) 12 (Ml 11), aq_ cy 6 cro 12 (gf_ rr), ai_ cy (rr 0) 12 (m_rr_12 0), ai_ cy (rr 1) 12 (m_rr_12 1), ai_ cy (rr 2) 12 (m_rr_12 2), ai_ cy (rr 3) 12 (m_rr_12 3), ai_ cy (rr 4) 12 (m_rr_12 4), ai_ cy (rr 5) 12 (m_rr_12 5), ai_ cy (rr 6) 12 (m_rr_12 6), ai_ cy (rr 7) 12 (m_rr_12 7), ai_ cy (rr 8) 12 (m_rr_12 8), ai_ cy (rr 9) 12 (m_rr_12 9), ai_ cy (rr 10) 12 (m_rr_12 10), ai_ cy (rr 11) 12 (m_rr_12 11), ai_ cy c4 40 c_c4_12, ai_ cy c5 40 f5, ai_ cy c6 40 f6, ai_ cy c7 12 c_c7_12, ai_ cy c8 12 c_c8_12] H → va_S A s.heap H locs → lv_has ls 5 [(4, .int x4_12), (3, .int x3_12), (0, .ref xc), (1, .int a1), (2, .int a2)] → W p l e ({ frames := 3, cells := 0, slots := 0, locals := 64 } : Room) s m (([.ref xc, .int a1, .int a2] : List Value).toArray) below meth c H locs 0 0 Q (F0 m 74 ls []) from LOOP_12 ((1000000 - (0 : Int32).toInt).toNat + 1) (0 : Int32) (0 : Int32) m_rr_4 e1_2 e7_7 f8 _ _ _ (by omega) (by first | with_reducible assumption | omega | assumption) (by first | with_reducible assumption | omega | assumption) (by first | exact hf0_ | exact hf2_) (by first | with_reducible assumption | omega | assumption) (by first | exact ⟨0, chF.zero hz_⟩ | (obtain ⟨k_, hk_⟩ := v_none; exact ⟨k_ + 1, ch_way hk_ v_none hsP_ hf3_ S[o2]⟩)) (by first | exact hfk0 _ hz_ | exact S[o3]) (by first | exact hr0_ | exact S[o4]) (by first | exact cnZ_c0 hce_ | exact hcn2_) (by first | with_reducible assumption | assumption | exact rng_zero (by omega) (by omega) | exact orng_zero) (by first | with_reducible assumption | assumption | exact rng_zero (by omega) (by omega) | exact orng_zero) ⟨hP, hD⟩ hS (lv_sub hl [0, 1, 2, 3, 4] rfl)
        intro n_12
        induction n_12 with
        | zero =>
          intro x4_12 x3_12 m_rr_12 c_c4_12 c_c7_12 c_c8_12 H locs ls hm v0_12 v1_12 v2_12 v3_12 v4_12 v5_12 v6_12 v7_12 rc_c7_12 rc_c8_12 hPD hS hl; obtain ⟨hP, hD⟩ := hPD
          exact absurd hm (by omega)
        | succ n_12 ih_12 =>
          intro x4_12 x3_12 m_rr_12 c_c4_12 c_c7_12 c_c8_12 H locs ls hm v0_12 v1_12 v2_12 v3_12 v4_12 v5_12 v6_12 v7_12 rc_c7_12 rc_c8_12 hPD hS hl; obtain ⟨hP, hD⟩ := hPD
          refine lv_iload hx hb dB_36_0_6.2.1.2.2 (lv_at hl 0 rfl) ?_
          refine lv_ldc (v := 1000000) hx hb hown (hts (.constant RX0 82 (1000000)) (List.mem_of_getElem? (i := 10) rfl)) dB_36_0_6.2.2.1.1 ?_
          refine lv_icmp_ge (tgt := 105) hx hb dB_36_0_6.2.2.1.2 (by decide) (fun c_13 => ?_) (fun c_13 => ?_)
          · have t_13 : (1000000 : Int32).toInt ≤ x4_12.toInt := Int32.le_iff_toInt_le.mp c_13
            refine lv_iload_n hx hb dB_36_0_7.2.2.2.1 rfl (lv_at hl 1 rfl) ?_
            rw [hQ]
            exact W.iret (v := x3_12) hx hb hr (fun t ht hW => ⟨⟨x3_12, x3_12, rfl, ⟨rfl, (by first | (exfalso; omega) | (obtain ⟨S_, hs_, hc_⟩ := hfn_ (by omega); exact Or.inr ⟨by omega, by omega, ⟨S_, hs_, flw_end v2_12 hs_ hc_⟩, fun S hs => flw_min v2_12 hs⟩))⟩, m_rr_12, c_c4_12, c_c7_12, c_c8_12, (fun _ => v2_12), (fun _ => by first | (exfalso; omega) | (obtain ⟨k_, hk_⟩ := v4_12; exact ch_end hk_ v6_12 hsP_ (hf3n_ (by omega)))), (fun _ => v7_12), (by first | with_reducible assumption | assumption | exact rng_zero (by omega) (by omega) | omega), (by first | with_reducible assumption | assumption | exact rng_zero (by omega) (by omega) | omega), by rw [ht]; exact hP, hD⟩, hS.F ht⟩) hS.2.2 dB_36_0_7.2.2.2.2
          · have t_13 : ¬ (1000000 : Int32).toInt ≤ x4_12.toInt := fun h => c_13 (Int32.le_iff_toInt_le.mpr h)
            have hrk_ := v2_12.1
            refine lv_aload_n hx hb dB_36_0_6.2.2.2.1 rfl (lv_at hl 2 rfl) ?_
            refine lv_iload_n hx hb dB_36_0_6.2.2.2.2 rfl (lv_at hl 3 rfl) ?_
            refine lv_iload_n hx hb dB_36_0_7.1.1.1 rfl (lv_at hl 4 rfl) ?_
            refine ct_S hP hD hS hA [ob0_0_ xc xn xk clo cro c4 c5 c6 c7 c8, ob3_0_ xn vp vn n1 n2 n3 n4 n5, aq_ cy 6 cro 12 (gf_ rr), ai_ cy (rr 0) 12 (m_rr_12 0), ai_ cy (rr 1) 12 (m_rr_12 1), ai_ cy (rr 2) 12 (m_rr_12 2), ai_ cy (rr 3) 12 (m_rr_12 3), ai_ cy (rr 4) 12 (m_rr_12 4), ai_ cy (rr 5) 12 (m_rr_12 5), ai_ cy (rr 6) 12 (m_rr_12 6), ai_ cy (rr 7) 12 (m_rr_12 7), ai_ cy (rr 8) 12 (m_rr_12 8), ai_ cy (rr 9) 12 (m_rr_12 9), ai_ cy (rr 10) 12 (m_rr_12 10), ai_ cy (rr 11) 12 (m_rr_12 11), ai_ cy c7 12 c_c7_12, ai_ cy c8 12 c_c8_12] [0, 1, 17, 18, 19, 20, 21, 22, 23, 24, 25, 26, 27, 28, 29, 33, 34] (by decide +kernel) rfl (fun hPc hDw hFc hC_ => ?_)
            refine va_calli (va_runV (As := [.int a1, .int a2]) (rest := []) ⟨hx, hb, hml, hown, hts⟩ (c_X0_findWay3 l D cy H.size xc xk clo cro c4 c5 c6 c7 c8 xn n1 n2 n3 n4 n5 vp vn rr m_rr_12 c_c7_12 c_c8_12 a1 a2 (by first | with_reducible assumption | omega | assumption) (by first | with_reducible assumption | omega | assumption) (by first | with_reducible assumption | omega | assumption) (by first | with_reducible assumption | assumption | omega) (by first | with_reducible assumption | assumption | omega) (by first | with_reducible assumption | assumption | omega)) (cwV 2 hts gX0_fill_X0_findWay rfl rfl rfl ⟨rfl, hd_X0_findWay⟩ ⟨Nat.le_of_ble_eq_true rfl, Nat.le_of_ble_eq_true rfl⟩) ⟨bl_g, va_recvX hK.1 hP (ci := 0) (q0 := 0) rfl rfl, fun U hU hW => ⟨rfl, by rw [hU], by rw [hU]; exact hPc, ⟨kk_mv hW hK, arrOfT_moved hW.alike hG⟩, hDw⟩⟩ rfl rfl hl.1 rfl (lv_room (Nat.le_of_ble_eq_true rfl)) dB_36_0_7.1.1.2.1 ⟨Nat.le_of_ble_eq_true rfl, Nat.le_of_ble_eq_true rfl⟩) hS (fun q _ h => hFc q h) hFc (fun r_14 u t H locs ht hvm hw hB hz1 hk1 hS => ?_)
            obtain ⟨eu_, hw⟩ := hw
            have eu_ := eu_.symm
            subst eu_
            obtain ⟨e7_15, e8_16, g_17, g_18, g_19, g_20, g_21, g_22, hP1, hD1⟩ := hB
            rw [ht] at hP1
            obtain ⟨hP, hD⟩ := va_join (wr := [ai_ cy n2 40 fs, ai_ cy n3 40 fe, aq_ cy 6 clo 12 (gf_ rl), ai_ cy (rl 0) 12 (Ml 0), ai_ cy (rl 1) 12 (Ml 1), ai_ cy (rl 2) 12 (Ml 2), ai_ cy (rl 3) 12 (Ml 3), ai_ cy (rl 4) 12 (Ml 4), ai_ cy (rl 5) 12 (Ml 5), ai_ cy (rl 6) 12 (Ml 6), ai_ cy (rl 7) 12 (Ml 7), ai_ cy (rl 8) 12 (Ml 8), ai_ cy (rl 9) 12 (Ml 9), ai_ cy (rl 10) 12 (Ml 10), ai_ cy (rl 11) 12 (Ml 11), ai_ cy c4 40 c_c4_12, ai_ cy c5 40 f5, ai_ cy c6 40 f6]) (w1 := [ob0_0_ xc xn xk clo cro c4 c5 c6 c7 c8, ob3_0_ xn vp vn n1 n2 n3 n4 n5, aq_ cy 6 cro 12 (gf_ rr), ai_ cy (rr 0) 12 (m_rr_12 0), ai_ cy (rr 1) 12 (m_rr_12 1), ai_ cy (rr 2) 12 (m_rr_12 2), ai_ cy (rr 3) 12 (m_rr_12 3), ai_ cy (rr 4) 12 (m_rr_12 4), ai_ cy (rr 5) 12 (m_rr_12 5), ai_ cy (rr 6) 12 (m_rr_12 6), ai_ cy (rr 7) 12 (m_rr_12 7), ai_ cy (rr 8) 12 (m_rr_12 8), ai_ cy (rr 9) 12 (m_rr_12 9), ai_ cy (rr 10) 12 (m_rr_12 10), ai_ cy (rr 11) 12 (m_rr_12 11), ai_ cy c7 12 e7_15, ai_ cy c8 12 e8_16]) hP hD [0, 1, 17, 18, 19, 20, 21, 22, 23, 24, 25, 26, 27, 28, 29, 33, 34] [2, 3, 4, 5, 6, 7, 8, 9, 10, 11, 12, 13, 14, 15, 16, 30, 31, 32] hC_ rfl (by decide +kernel) (by decide +kernel) hk1 hFc hP1 hD1
            refine pd_S hP hD [ob0_0_ xc xn xk clo cro c4 c5 c6 c7 c8, ob3_0_ xn vp vn n1 n2 n3 n4 n5, ai_ cy n2 40 fs, ai_ cy n3 40 fe, aq_ cy 6 clo 12 (gf_ rl), ai_ cy (rl 0) 12 (Ml 0), ai_ cy (rl 1) 12 (Ml 1), ai_ cy (rl 2) 12 (Ml 2), ai_ cy (rl 3) 12 (Ml 3), ai_ cy (rl 4) 12 (Ml 4), ai_ cy (rl 5) 12 (Ml 5), ai_ cy (rl 6) 12 (Ml 6), ai_ cy (rl 7) 12 (Ml 7), ai_ cy (rl 8) 12 (Ml 8), ai_ cy (rl 9) 12 (Ml 9), ai_ cy (rl 10) 12 (Ml 10), ai_ cy (rl 11) 12 (Ml 11), aq_ cy 6 cro 12 (gf_ rr), ai_ cy (rr 0) 12 (m_rr_12 0), ai_ cy (rr 1) 12 (m_rr_12 1), ai_ cy (rr 2) 12 (m_rr_12 2), ai_ cy (rr 3) 12 (m_rr_12 3), ai_ cy (rr 4) 12 (m_rr_12 4), ai_ cy (rr 5) 12 (m_rr_12 5), ai_ cy (rr 6) 12 (m_rr_12 6), ai_ cy (rr 7) 12 (m_rr_12 7), ai_ cy (rr 8) 12 (m_rr_12 8), ai_ cy (rr 9) 12 (m_rr_12 9), ai_ cy (rr 10) 12 (m_rr_12 10), ai_ cy (rr 11) 12 (m_rr_12 11), ai_ cy c4 40 c_c4_12, ai_ cy c5 40 f5, ai_ cy c6 40 f6, ai_ cy c7 12 e7_15, ai_ cy c8 12 e8_16] [18, 19, 0, 1, 2, 3, 4, 5, 6, 7, 8, 9, 10, 11, 12, 13, 14, 20, 21, 22, 23, 24, 25, 26, 27, 28, 29, 30, 31, 32, 15, 16, 17, 33, 34] (by decide +kernel) rfl (fun hP hD => ?_)
            have f0_r_14 := hw
            have hfy_ := g_17
            have hfn_ := g_18
            have hf3y_ := g_19
            have hf3n_ := g_20
            refine lv_if_eq (tgt := 105) hx hb dB_36_0_7.1.1.2.2 (by decide) (fun c_23 => ?_) (fun c_23 => ?_)
            · have t_23 : r_14.toInt = (0 : Int32).toInt := congrArg Int32.toInt c_23
              refine lv_iload_n hx hb dB_36_0_7.2.2.2.1 rfl (lv_at hl 1 rfl) ?_
              rw [hQ]
              exact W.iret (v := x3_12) hx hb hr (fun t ht hW => ⟨⟨x3_12, x3_12, rfl, ⟨rfl, (by first | (exfalso; omega) | (obtain ⟨S_, hs_, hc_⟩ := hfn_ (by omega); exact Or.inr ⟨by omega, by omega, ⟨S_, hs_, flw_end v2_12 hs_ hc_⟩, fun S hs => flw_min v2_12 hs⟩))⟩, m_rr_12, c_c4_12, e7_15, e8_16, (fun _ => v2_12), (fun _ => by first | (exfalso; omega) | (obtain ⟨k_, hk_⟩ := v4_12; exact ch_end hk_ v6_12 hsP_ (hf3n_ (by omega)))), (fun _ => v7_12), (by first | with_reducible assumption | assumption | exact rng_zero (by omega) (by omega) | omega), (by first | with_reducible assumption | assumption | exact rng_zero (by omega) (by omega) | omega), by rw [ht]; exact hP, hD⟩, hS.F ht⟩) hS.2.2 dB_36_0_7.2.2.2.2
            · have t_23 : ¬ r_14.toInt = (0 : Int32).toInt := fun h => c_23 (Int32.toInt_inj.mp h)
              have hwy_ := hfy_ (by omega)
              have hf3_ := hf3y_ (by omega)
              refine lv_iload_n hx hb dB_36_0_7.1.2.1.1 rfl (lv_at hl 1 rfl) ?_
              refine lv_aload_n hx hb dB_36_0_7.1.2.1.2 rfl (lv_at hl 2 rfl) ?_
              refine lv_iload_n hx hb dB_36_0_7.1.2.2.1 rfl (lv_at hl 3 rfl) ?_
              refine lv_iload_n hx hb dB_36_0_7.1.2.2.2 rfl (lv_at hl 4 rfl) ?_
              refine ct_S hP hD hS hA [ob0_0_ xc xn xk clo cro c4 c5 c6 c7 c8, ob3_0_ xn vp vn n1 n2 n3 n4 n5, ai_ cy n2 40 fs, ai_ cy n3 40 fe, aq_ cy 6 cro 12 (gf_ rr), ai_ cy (rr 0) 12 (m_rr_12 0), ai_ cy (rr 1) 12 (m_rr_12 1), ai_ cy (rr 2) 12 (m_rr_12 2), ai_ cy (rr 3) 12 (m_rr_12 3), ai_ cy (rr 4) 12 (m_rr_12 4), ai_ cy (rr 5) 12 (m_rr_12 5), ai_ cy (rr 6) 12 (m_rr_12 6), ai_ cy (rr 7) 12 (m_rr_12 7), ai_ cy (rr 8) 12 (m_rr_12 8), ai_ cy (rr 9) 12 (m_rr_12 9), ai_ cy (rr 10) 12 (m_rr_12 10), ai_ cy (rr 11) 12 (m_rr_12 11), ai_ cy c4 40 c_c4_12, ai_ cy c5 40 f5, ai_ cy c6 40 f6, ai_ cy c8 12 e8_16] [0, 1, 2, 3, 17, 18, 19, 20, 21, 22, 23, 24, 25, 26, 27, 28, 29, 30, 31, 32, 34] (by decide +kernel) rfl (fun hPc hDw hFc hC_ => ?_)
              refine va_calli (va_runV (As := [.int a1, .int a2]) (rest := [.int x3_12]) ⟨hx, hb, hml, hown, hts⟩ (c_X0_sendAlongWay3 l D cy H.size xc xk clo cro c4 c5 c6 c7 c8 xn n1 n2 n3 n4 n5 vp vn fs fe rr m_rr_12 c_c4_12 f5 f6 e8_16 a1 a2 (by first | with_reducible assumption | omega | assumption) (by first | with_reducible assumption | omega | assumption) (by first | with_reducible assumption | omega | assumption) (by first | with_reducible assumption | omega | assumption) (by first | with_reducible assumption | assumption | omega) (by first | with_reducible assumption | assumption | omega) (by first | with_reducible assumption | assumption | omega) (by first | with_reducible assumption | assumption | omega) (by first | with_reducible assumption | assumption | omega) (by first | with_reducible assumption | assumption | omega) (by first | with_reducible assumption | assumption | omega) (by first | with_reducible assumption | assumption | omega)) (cwV 2 hts gX0_fill_X0_sendAlongWay rfl rfl rfl ⟨rfl, hd_X0_sendAlongWay⟩ ⟨Nat.le_of_ble_eq_true rfl, Nat.le_of_ble_eq_true rfl⟩) ⟨bl_g, va_recvX hK.1 hP (ci := 0) (q0 := 0) rfl rfl, fun U hU hW => ⟨rfl, by rw [hU], by rw [hU]; exact hPc, ⟨kk_mv hW hK, arrOfT_moved hW.alike hG⟩, hDw⟩⟩ rfl rfl hl.1 rfl (lv_room (Nat.le_of_ble_eq_true rfl)) dB_36_0_7.2.1.1 ⟨Nat.le_of_ble_eq_true rfl, Nat.le_of_ble_eq_true rfl⟩) hS (fun q _ h => hFc q h) hFc (fun r_24 u t H locs ht hvm hw hB hz1 hk1 hS => ?_)
              obtain ⟨eu_, hw⟩ := hw
              have eu_ := eu_.symm
              subst eu_
              obtain ⟨eMr_25, e4_26, g_27, g_28, g_29, g_30, g_31, g_32, hP1, hD1⟩ := hB
              rw [ht] at hP1
              obtain ⟨hP, hD⟩ := va_join (wr := [aq_ cy 6 clo 12 (gf_ rl), ai_ cy (rl 0) 12 (Ml 0), ai_ cy (rl 1) 12 (Ml 1), ai_ cy (rl 2) 12 (Ml 2), ai_ cy (rl 3) 12 (Ml 3), ai_ cy (rl 4) 12 (Ml 4), ai_ cy (rl 5) 12 (Ml 5), ai_ cy (rl 6) 12 (Ml 6), ai_ cy (rl 7) 12 (Ml 7), ai_ cy (rl 8) 12 (Ml 8), ai_ cy (rl 9) 12 (Ml 9), ai_ cy (rl 10) 12 (Ml 10), ai_ cy (rl 11) 12 (Ml 11), ai_ cy c7 12 e7_15]) (w1 := [ob0_0_ xc xn xk clo cro c4 c5 c6 c7 c8, ob3_0_ xn vp vn n1 n2 n3 n4 n5, ai_ cy n2 40 fs, ai_ cy n3 40 fe, aq_ cy 6 cro 12 (gf_ rr), ai_ cy (rr 0) 12 (eMr_25 0), ai_ cy (rr 1) 12 (eMr_25 1), ai_ cy (rr 2) 12 (eMr_25 2), ai_ cy (rr 3) 12 (eMr_25 3), ai_ cy (rr 4) 12 (eMr_25 4), ai_ cy (rr 5) 12 (eMr_25 5), ai_ cy (rr 6) 12 (eMr_25 6), ai_ cy (rr 7) 12 (eMr_25 7), ai_ cy (rr 8) 12 (eMr_25 8), ai_ cy (rr 9) 12 (eMr_25 9), ai_ cy (rr 10) 12 (eMr_25 10), ai_ cy (rr 11) 12 (eMr_25 11), ai_ cy c4 40 e4_26, ai_ cy c5 40 f5, ai_ cy c6 40 f6, ai_ cy c8 12 e8_16]) hP hD [0, 1, 2, 3, 17, 18, 19, 20, 21, 22, 23, 24, 25, 26, 27, 28, 29, 30, 31, 32, 34] [4, 5, 6, 7, 8, 9, 10, 11, 12, 13, 14, 15, 16, 33] hC_ rfl (by decide +kernel) (by decide +kernel) hk1 hFc hP1 hD1
              refine pd_S hP hD [ob0_0_ xc xn xk clo cro c4 c5 c6 c7 c8, ob3_0_ xn vp vn n1 n2 n3 n4 n5, ai_ cy n2 40 fs, ai_ cy n3 40 fe, aq_ cy 6 clo 12 (gf_ rl), ai_ cy (rl 0) 12 (Ml 0), ai_ cy (rl 1) 12 (Ml 1), ai_ cy (rl 2) 12 (Ml 2), ai_ cy (rl 3) 12 (Ml 3), ai_ cy (rl 4) 12 (Ml 4), ai_ cy (rl 5) 12 (Ml 5), ai_ cy (rl 6) 12 (Ml 6), ai_ cy (rl 7) 12 (Ml 7), ai_ cy (rl 8) 12 (Ml 8), ai_ cy (rl 9) 12 (Ml 9), ai_ cy (rl 10) 12 (Ml 10), ai_ cy (rl 11) 12 (Ml 11), aq_ cy 6 cro 12 (gf_ rr), ai_ cy (rr 0) 12 (eMr_25 0), ai_ cy (rr 1) 12 (eMr_25 1), ai_ cy (rr 2) 12 (eMr_25 2), ai_ cy (rr 3) 12 (eMr_25 3), ai_ cy (rr 4) 12 (eMr_25 4), ai_ cy (rr 5) 12 (eMr_25 5), ai_ cy (rr 6) 12 (eMr_25 6), ai_ cy (rr 7) 12 (eMr_25 7), ai_ cy (rr 8) 12 (eMr_25 8), ai_ cy (rr 9) 12 (eMr_25 9), ai_ cy (rr 10) 12 (eMr_25 10), ai_ cy (rr 11) 12 (eMr_25 11), ai_ cy c4 40 e4_26, ai_ cy c5 40 f5, ai_ cy c6 40 f6, ai_ cy c7 12 e7_15, ai_ cy c8 12 e8_16] [14, 15, 16, 17, 0, 1, 2, 3, 4, 5, 6, 7, 8, 9, 10, 11, 12, 18, 19, 20, 21, 22, 23, 24, 25, 26, 27, 28, 29, 30, 31, 32, 33, 13, 34] (by decide +kernel) rfl (fun hP hD => ?_)
              have f0_r_24 := hw
              refine lv_iadd hx hb dB_36_0_7.2.1.2.1 ?_
              refine lv_topi (fun y_33 ey_33 => ?_)
              have ty_33 : y_33.toInt = x3_12.toInt + r_24.toInt := by rw [ey_33]; exact addI (by omega) (by omega)
              have hcn2_ : cnZ (zM Ml) (zM eMr_25) vp.toNatClampNeg a1.toNatClampNeg a2.toNatClampNeg y_33.toInt := cnZ_tr v7_12 g_32 ty_33
              have hf2_ : flw (zM Ml) (zM eMr_25) vp.toNatClampNeg a1.toNatClampNeg a2.toNatClampNeg y_33.toInt := flw_st v2_12 g_27 g_28 ty_33
              have hbd_ := flw_bd hf2_ hsp_ hsm_
              refine lv_istore_n (lv' := [(3, .int y_33), (4, .int x4_12), (0, .ref xc), (1, .int a1), (2, .int a2)]) hx hb dB_36_0_7.2.1.2.2 rfl hl (by decide) rfl (fun ls hl => ?_)
              obtain ⟨y_34, ey_34⟩ : ∃ y : Int32, y = x4_12 + 1 := ⟨_, rfl⟩
              have ty_34 : y_34.toInt = x4_12.toInt + (1 : Int32).toInt := by rw [ey_34]; exact addI (by omega) (by omega)
              refine lv_iinc (v := y_34) (lv' := [(4, .int y_34), (3, .int y_33), (0, .ref xc), (1, .int a1), (2, .int a2)]) hx hb dB_36_0_7.2.2.1.1 hl (k := 1) rfl (by rw [ey_34]; rfl) (by decide) rfl (fun ls hl => ?_)
              refine lv_goto (tgt := 74) hx hb dB_36_0_7.2.2.1.2 (by decide) ?_
              exact ih_12 y_34 y_33 eMr_25 e4_26 e7_15 e8_16 _ _ _ (by omega) (by first | with_reducible assumption | omega | assumption) (by first | with_reducible assumption | omega | assumption) (by first | exact hf0_ | exact hf2_) (by first | with_reducible assumption | omega | assumption) (by first | exact ⟨0, chF.zero hz_⟩ | (obtain ⟨k_, hk_⟩ := v4_12; exact ⟨k_ + 1, ch_way hk_ v6_12 hsP_ hf3_ g_29⟩)) (by first | exact hfk0 _ hz_ | exact g_30) (by first | exact hr0_ | exact g_31) (by first | exact cnZ_c0 hce_ | exact hcn2_) (by first | with_reducible assumption | assumption | exact rng_zero (by omega) (by omega) | exact orng_zero) (by first | with_reducible assumption | assumption | exact rng_zero (by omega) (by omega) | exact orng_zero) ⟨hP, hD⟩ hS (lv_sub hl [0, 1, 2, 3, 4] rfl)
      · have t_11 : y_10.toInt = (1 : Int32).toInt := congrArg Int32.toInt c_11
        refine lv_bipush (v := (-5)) hx hb dB_36_0_6.1.2.1.2 (by decide) ?_
        rw [hQ]
        exact W.iret (v := (-5)) hx hb hr (fun t ht hW => ⟨⟨(-5), (-5), rfl, ⟨rfl, (Or.inl ⟨by decide, fun S hs => endless (fun x y hx hy => (hM x y hx hy).1) hrc_ (b_tr hbw_ (by omega)) hs⟩)⟩, m_rr_4, e1_2, e7_7, f8, (fun h => absurd rfl h), (fun h => absurd rfl h), (fun h => absurd rfl h), (by first | with_reducible assumption | assumption | exact rng_zero (by omega) (by omega) | omega), (by first | with_reducible assumption | assumption | exact rng_zero (by omega) (by omega) | omega), by rw [ht]; exact hP, hD⟩, hS.F ht⟩) hS.2.2 dB_36_0_6.1.2.2.1
    · have t_5 : ¬ vp.toInt ≤ x3_4.toInt := fun h => c_5 (Int32.le_iff_toInt_le.mpr h)
      rcases sp_12 (x := x3_4) (by omega) with rfl | rfl | rfl | rfl | rfl | rfl | rfl | rfl | rfl | rfl | rfl | rfl
      · refine lv_aload_n hx hb dB_36_0_4.2.1.2.2 rfl (lv_at hl 1 rfl) ?_
        refine va_get (ci := 0) (v := .ref clo) (C := RX0) (T := TX0) (N := 9) hx hb hts (fun _ h => List.mem_cons_of_mem _ (List.mem_append_left _ (List.mem_append_right _ h))) hown hK.1 hP 0 rfl rfl 2 (by decide) (hts (.fieldLink RX0 11 "CutAtlas$Current" "lets" "[[I") (List.mem_of_getElem? (i := 4) rfl)) (fun _ h9 => h9) rfl dB_36_0_4.2.2.1.1 ?_
        refine lv_iload_n hx hb dB_36_0_4.2.2.1.2 rfl (lv_at hl 0 rfl) ?_
        have h_35 : vp_in (0 : Int32) 12 := by unfold vp_in; decide
        refine va_alda hx hb hG hP 4 rfl (i := 0) h_35 dB_36_0_4.2.2.2.1 ?_
        refine lv_topv (v' := .ref (rl 0)) (gf_at h_35) ?_
        refine lv_iconst (v := 0) hx hb dB_36_0_4.2.2.2.2 (by decide) ?_
        refine lv_aload_n hx hb dB_36_0_5.1.1.1.1 rfl (lv_at hl 1 rfl) ?_
        refine va_get (ci := 0) (v := .ref cro) (C := RX0) (T := TX0) (N := 9) hx hb hts (fun _ h => List.mem_cons_of_mem _ (List.mem_append_left _ (List.mem_append_right _ h))) hown hK.1 hP 0 rfl rfl 3 (by decide) (hts (.fieldLink RX0 16 "CutAtlas$Current" "room" "[[I") (List.mem_of_getElem? (i := 5) rfl)) (fun _ h9 => h9) rfl dB_36_0_5.1.1.1.2 ?_
        refine lv_iload_n hx hb dB_36_0_5.1.1.2.1 rfl (lv_at hl 0 rfl) ?_
        refine va_alda hx hb hG hP 17 rfl (i := 0) h_35 dB_36_0_5.1.1.2.2 ?_
        refine lv_topv (v' := .ref (rr 0)) (gf_at h_35) ?_
        refine lv_iconst (v := 0) hx hb dB_36_0_5.1.2.1.1 (by decide) ?_
        refine lv_aload_n hx hb dB_36_0_5.1.2.1.2 rfl (lv_at hl 1 rfl) ?_
        refine va_get (ci := 0) (v := .ref xn) (C := RX0) (T := TX0) (N := 9) hx hb hts (fun _ h => List.mem_cons_of_mem _ (List.mem_append_left _ (List.mem_append_right _ h))) hown hK.1 hP 0 rfl rfl 0 (by decide) (hts (.fieldLink RX0 35 "CutAtlas$Current" "net" "LCutAtlas$Net;") (List.mem_of_getElem? (i := 2) rfl)) (fun _ h9 => h9) rfl dB_36_0_5.1.2.2.1 ?_
        refine va_get (ci := 3) (v := .int vp) (C := RX3) (T := TX3) (N := 7) hx hb hts (fun _ h => List.mem_cons_of_mem _ (List.mem_append_right _ h)) hown hK.1 hP 1 rfl rfl 0 (by decide) (hts (.fieldLink RX0 43 "CutAtlas$Net" "places" "I") (List.mem_of_getElem? (i := 3) rfl)) (fun _ h9 => h9) rfl dB_36_0_5.1.2.2.2 ?_
        have cl_37 := clI (i := vp) (by omega)
        have cl_38 := clI (i := (0 : Int32)) (by omega)
        refine va_copyi hx hb (by rw [hml]; exact hl.1.symm) hown (hts (.methodLink RX0 83 arraycopyName) (List.mem_of_getElem? (i := 6) rfl)) (hts (.native arraycopyName) (List.mem_of_getElem? (i := 7) rfl)) (hts (.static arraycopyName) (List.mem_of_getElem? (i := 8) rfl)) (hts (.initialized "java/lang/System") (List.mem_of_getElem? (i := 9) rfl)) hK.1 hP hD hS 5 18 0 0 rfl rfl rfl rfl rfl (sp := (0 : Int32)) (dp := (0 : Int32)) (n := vp) (nneg (by omega)) (nneg (by omega)) (nneg (by omega)) (by omega) (by omega) (fun i h => rfl) (Nat.le_of_ble_eq_true rfl) (Nat.le_of_ble_eq_true rfl) dB_36_0_5.2.1.1.1 (fun H locs hP hD hS => ?_)
        obtain ⟨f_39, ef_39⟩ : ∃ g : Nat → Int32, g = va_cpy (Ml 0) (m_rr_4 0) (0 : Int32).toNatClampNeg (0 : Int32).toNatClampNeg vp.toNatClampNeg := ⟨_, rfl⟩
        refine pd_K (D := D) (cl := vwCl) (H := H) (A := A) [ob0_0_ xc xn xk clo cro c4 c5 c6 c7 c8, ob3_0_ xn vp vn n1 n2 n3 n4 n5, ai_ cy n2 40 fs, ai_ cy n3 40 fe, aq_ cy 6 clo 12 (gf_ rl), ai_ cy (rl 0) 12 (Ml 0), ai_ cy (rl 1) 12 (Ml 1), ai_ cy (rl 2) 12 (Ml 2), ai_ cy (rl 3) 12 (Ml 3), ai_ cy (rl 4) 12 (Ml 4), ai_ cy (rl 5) 12 (Ml 5), ai_ cy (rl 6) 12 (Ml 6), ai_ cy (rl 7) 12 (Ml 7), ai_ cy (rl 8) 12 (Ml 8), ai_ cy (rl 9) 12 (Ml 9), ai_ cy (rl 10) 12 (Ml 10), ai_ cy (rl 11) 12 (Ml 11), aq_ cy 6 cro 12 (gf_ rr), ai_ cy (rr 0) 12 f_39, ai_ cy (rr 1) 12 (m_rr_4 1), ai_ cy (rr 2) 12 (m_rr_4 2), ai_ cy (rr 3) 12 (m_rr_4 3), ai_ cy (rr 4) 12 (m_rr_4 4), ai_ cy (rr 5) 12 (m_rr_4 5), ai_ cy (rr 6) 12 (m_rr_4 6), ai_ cy (rr 7) 12 (m_rr_4 7), ai_ cy (rr 8) 12 (m_rr_4 8), ai_ cy (rr 9) 12 (m_rr_4 9), ai_ cy (rr 10) 12 (m_rr_4 10), ai_ cy (rr 11) 12 (m_rr_4 11), ai_ cy c4 40 e1_2, ai_ cy c5 40 f5, ai_ cy c6 40 f6, ai_ cy c7 12 f7, ai_ cy c8 12 f8] (by rw [ef_39]; exact hP) (by rw [ef_39]; exact hD) (fun hP hD => ?_)
        obtain ⟨M_40, eM_40⟩ : ∃ g : Nat → Nat → Int32, g = va_up m_rr_4 0 f_39 := ⟨_, rfl⟩
        refine pd_K (D := D) (cl := vwCl) (H := H) (A := A) [ob0_0_ xc xn xk clo cro c4 c5 c6 c7 c8, ob3_0_ xn vp vn n1 n2 n3 n4 n5, ai_ cy n2 40 fs, ai_ cy n3 40 fe, aq_ cy 6 clo 12 (gf_ rl), ai_ cy (rl 0) 12 (Ml 0), ai_ cy (rl 1) 12 (Ml 1), ai_ cy (rl 2) 12 (Ml 2), ai_ cy (rl 3) 12 (Ml 3), ai_ cy (rl 4) 12 (Ml 4), ai_ cy (rl 5) 12 (Ml 5), ai_ cy (rl 6) 12 (Ml 6), ai_ cy (rl 7) 12 (Ml 7), ai_ cy (rl 8) 12 (Ml 8), ai_ cy (rl 9) 12 (Ml 9), ai_ cy (rl 10) 12 (Ml 10), ai_ cy (rl 11) 12 (Ml 11), aq_ cy 6 cro 12 (gf_ rr), ai_ cy (rr 0) 12 (M_40 0), ai_ cy (rr 1) 12 (M_40 1), ai_ cy (rr 2) 12 (M_40 2), ai_ cy (rr 3) 12 (M_40 3), ai_ cy (rr 4) 12 (M_40 4), ai_ cy (rr 5) 12 (M_40 5), ai_ cy (rr 6) 12 (M_40 6), ai_ cy (rr 7) 12 (M_40 7), ai_ cy (rr 8) 12 (M_40 8), ai_ cy (rr 9) 12 (M_40 9), ai_ cy (rr 10) 12 (M_40 10), ai_ cy (rr 11) 12 (M_40 11), ai_ cy c4 40 e1_2, ai_ cy c5 40 f5, ai_ cy c6 40 f6, ai_ cy c7 12 f7, ai_ cy c8 12 f8] (by rw [eM_40]; exact hP) (by rw [eM_40]; exact hD) (fun hP hD => ?_)
        obtain ⟨y_41, ey_41⟩ : ∃ y : Int32, y = (0 : Int32) + 1 := ⟨_, rfl⟩
        have ty_41 : y_41.toInt = (0 : Int32).toInt + (1 : Int32).toInt := by rw [ey_41]; exact addI (by omega) (by omega)
        refine lv_iinc (v := y_41) (lv' := [(3, .int y_41), (0, .ref xc), (1, .int a1), (2, .int a2)]) hx hb dB_36_0_5.2.1.1.2 hl (k := 0) rfl (by rw [ey_41]; rfl) (by decide) rfl (fun ls hl => ?_)
        refine lv_goto (tgt := 10) hx hb dB_36_0_5.2.1.2.1 (by decide) ?_
        exact ih_4 y_41 M_40 _ _ _ (by omega) (by first | with_reducible assumption | omega | assumption) (by first | with_reducible assumption | omega | assumption) (by first | exact cp_st eM_40 v2_4 (by assumption) (by decide) (by omega) | (intro x y hx; omega)) ⟨hP, hD⟩ hS (lv_sub hl [0, 1, 2, 3] rfl)
      · refine lv_aload_n hx hb dB_36_0_4.2.1.2.2 rfl (lv_at hl 1 rfl) ?_
        refine va_get (ci := 0) (v := .ref clo) (C := RX0) (T := TX0) (N := 9) hx hb hts (fun _ h => List.mem_cons_of_mem _ (List.mem_append_left _ (List.mem_append_right _ h))) hown hK.1 hP 0 rfl rfl 2 (by decide) (hts (.fieldLink RX0 11 "CutAtlas$Current" "lets" "[[I") (List.mem_of_getElem? (i := 4) rfl)) (fun _ h9 => h9) rfl dB_36_0_4.2.2.1.1 ?_
        refine lv_iload_n hx hb dB_36_0_4.2.2.1.2 rfl (lv_at hl 0 rfl) ?_
        have h_42 : vp_in (1 : Int32) 12 := by unfold vp_in; decide
        refine va_alda hx hb hG hP 4 rfl (i := 1) h_42 dB_36_0_4.2.2.2.1 ?_
        refine lv_topv (v' := .ref (rl 1)) (gf_at h_42) ?_
        refine lv_iconst (v := 0) hx hb dB_36_0_4.2.2.2.2 (by decide) ?_
        refine lv_aload_n hx hb dB_36_0_5.1.1.1.1 rfl (lv_at hl 1 rfl) ?_
        refine va_get (ci := 0) (v := .ref cro) (C := RX0) (T := TX0) (N := 9) hx hb hts (fun _ h => List.mem_cons_of_mem _ (List.mem_append_left _ (List.mem_append_right _ h))) hown hK.1 hP 0 rfl rfl 3 (by decide) (hts (.fieldLink RX0 16 "CutAtlas$Current" "room" "[[I") (List.mem_of_getElem? (i := 5) rfl)) (fun _ h9 => h9) rfl dB_36_0_5.1.1.1.2 ?_
        refine lv_iload_n hx hb dB_36_0_5.1.1.2.1 rfl (lv_at hl 0 rfl) ?_
        refine va_alda hx hb hG hP 17 rfl (i := 1) h_42 dB_36_0_5.1.1.2.2 ?_
        refine lv_topv (v' := .ref (rr 1)) (gf_at h_42) ?_
        refine lv_iconst (v := 0) hx hb dB_36_0_5.1.2.1.1 (by decide) ?_
        refine lv_aload_n hx hb dB_36_0_5.1.2.1.2 rfl (lv_at hl 1 rfl) ?_
        refine va_get (ci := 0) (v := .ref xn) (C := RX0) (T := TX0) (N := 9) hx hb hts (fun _ h => List.mem_cons_of_mem _ (List.mem_append_left _ (List.mem_append_right _ h))) hown hK.1 hP 0 rfl rfl 0 (by decide) (hts (.fieldLink RX0 35 "CutAtlas$Current" "net" "LCutAtlas$Net;") (List.mem_of_getElem? (i := 2) rfl)) (fun _ h9 => h9) rfl dB_36_0_5.1.2.2.1 ?_
        refine va_get (ci := 3) (v := .int vp) (C := RX3) (T := TX3) (N := 7) hx hb hts (fun _ h => List.mem_cons_of_mem _ (List.mem_append_right _ h)) hown hK.1 hP 1 rfl rfl 0 (by decide) (hts (.fieldLink RX0 43 "CutAtlas$Net" "places" "I") (List.mem_of_getElem? (i := 3) rfl)) (fun _ h9 => h9) rfl dB_36_0_5.1.2.2.2 ?_
        have cl_44 := clI (i := vp) (by omega)
        have cl_45 := clI (i := (0 : Int32)) (by omega)
        refine va_copyi hx hb (by rw [hml]; exact hl.1.symm) hown (hts (.methodLink RX0 83 arraycopyName) (List.mem_of_getElem? (i := 6) rfl)) (hts (.native arraycopyName) (List.mem_of_getElem? (i := 7) rfl)) (hts (.static arraycopyName) (List.mem_of_getElem? (i := 8) rfl)) (hts (.initialized "java/lang/System") (List.mem_of_getElem? (i := 9) rfl)) hK.1 hP hD hS 6 19 0 0 rfl rfl rfl rfl rfl (sp := (0 : Int32)) (dp := (0 : Int32)) (n := vp) (nneg (by omega)) (nneg (by omega)) (nneg (by omega)) (by omega) (by omega) (fun i h => rfl) (Nat.le_of_ble_eq_true rfl) (Nat.le_of_ble_eq_true rfl) dB_36_0_5.2.1.1.1 (fun H locs hP hD hS => ?_)
        obtain ⟨f_46, ef_46⟩ : ∃ g : Nat → Int32, g = va_cpy (Ml 1) (m_rr_4 1) (0 : Int32).toNatClampNeg (0 : Int32).toNatClampNeg vp.toNatClampNeg := ⟨_, rfl⟩
        refine pd_K (D := D) (cl := vwCl) (H := H) (A := A) [ob0_0_ xc xn xk clo cro c4 c5 c6 c7 c8, ob3_0_ xn vp vn n1 n2 n3 n4 n5, ai_ cy n2 40 fs, ai_ cy n3 40 fe, aq_ cy 6 clo 12 (gf_ rl), ai_ cy (rl 0) 12 (Ml 0), ai_ cy (rl 1) 12 (Ml 1), ai_ cy (rl 2) 12 (Ml 2), ai_ cy (rl 3) 12 (Ml 3), ai_ cy (rl 4) 12 (Ml 4), ai_ cy (rl 5) 12 (Ml 5), ai_ cy (rl 6) 12 (Ml 6), ai_ cy (rl 7) 12 (Ml 7), ai_ cy (rl 8) 12 (Ml 8), ai_ cy (rl 9) 12 (Ml 9), ai_ cy (rl 10) 12 (Ml 10), ai_ cy (rl 11) 12 (Ml 11), aq_ cy 6 cro 12 (gf_ rr), ai_ cy (rr 0) 12 (m_rr_4 0), ai_ cy (rr 1) 12 f_46, ai_ cy (rr 2) 12 (m_rr_4 2), ai_ cy (rr 3) 12 (m_rr_4 3), ai_ cy (rr 4) 12 (m_rr_4 4), ai_ cy (rr 5) 12 (m_rr_4 5), ai_ cy (rr 6) 12 (m_rr_4 6), ai_ cy (rr 7) 12 (m_rr_4 7), ai_ cy (rr 8) 12 (m_rr_4 8), ai_ cy (rr 9) 12 (m_rr_4 9), ai_ cy (rr 10) 12 (m_rr_4 10), ai_ cy (rr 11) 12 (m_rr_4 11), ai_ cy c4 40 e1_2, ai_ cy c5 40 f5, ai_ cy c6 40 f6, ai_ cy c7 12 f7, ai_ cy c8 12 f8] (by rw [ef_46]; exact hP) (by rw [ef_46]; exact hD) (fun hP hD => ?_)
        obtain ⟨M_47, eM_47⟩ : ∃ g : Nat → Nat → Int32, g = va_up m_rr_4 1 f_46 := ⟨_, rfl⟩
        refine pd_K (D := D) (cl := vwCl) (H := H) (A := A) [ob0_0_ xc xn xk clo cro c4 c5 c6 c7 c8, ob3_0_ xn vp vn n1 n2 n3 n4 n5, ai_ cy n2 40 fs, ai_ cy n3 40 fe, aq_ cy 6 clo 12 (gf_ rl), ai_ cy (rl 0) 12 (Ml 0), ai_ cy (rl 1) 12 (Ml 1), ai_ cy (rl 2) 12 (Ml 2), ai_ cy (rl 3) 12 (Ml 3), ai_ cy (rl 4) 12 (Ml 4), ai_ cy (rl 5) 12 (Ml 5), ai_ cy (rl 6) 12 (Ml 6), ai_ cy (rl 7) 12 (Ml 7), ai_ cy (rl 8) 12 (Ml 8), ai_ cy (rl 9) 12 (Ml 9), ai_ cy (rl 10) 12 (Ml 10), ai_ cy (rl 11) 12 (Ml 11), aq_ cy 6 cro 12 (gf_ rr), ai_ cy (rr 0) 12 (M_47 0), ai_ cy (rr 1) 12 (M_47 1), ai_ cy (rr 2) 12 (M_47 2), ai_ cy (rr 3) 12 (M_47 3), ai_ cy (rr 4) 12 (M_47 4), ai_ cy (rr 5) 12 (M_47 5), ai_ cy (rr 6) 12 (M_47 6), ai_ cy (rr 7) 12 (M_47 7), ai_ cy (rr 8) 12 (M_47 8), ai_ cy (rr 9) 12 (M_47 9), ai_ cy (rr 10) 12 (M_47 10), ai_ cy (rr 11) 12 (M_47 11), ai_ cy c4 40 e1_2, ai_ cy c5 40 f5, ai_ cy c6 40 f6, ai_ cy c7 12 f7, ai_ cy c8 12 f8] (by rw [eM_47]; exact hP) (by rw [eM_47]; exact hD) (fun hP hD => ?_)
        obtain ⟨y_48, ey_48⟩ : ∃ y : Int32, y = (1 : Int32) + 1 := ⟨_, rfl⟩
        have ty_48 : y_48.toInt = (1 : Int32).toInt + (1 : Int32).toInt := by rw [ey_48]; exact addI (by omega) (by omega)
        refine lv_iinc (v := y_48) (lv' := [(3, .int y_48), (0, .ref xc), (1, .int a1), (2, .int a2)]) hx hb dB_36_0_5.2.1.1.2 hl (k := 0) rfl (by rw [ey_48]; rfl) (by decide) rfl (fun ls hl => ?_)
        refine lv_goto (tgt := 10) hx hb dB_36_0_5.2.1.2.1 (by decide) ?_
        exact ih_4 y_48 M_47 _ _ _ (by omega) (by first | with_reducible assumption | omega | assumption) (by first | with_reducible assumption | omega | assumption) (by first | exact cp_st eM_47 v2_4 (by assumption) (by decide) (by omega) | (intro x y hx; omega)) ⟨hP, hD⟩ hS (lv_sub hl [0, 1, 2, 3] rfl)
      · refine lv_aload_n hx hb dB_36_0_4.2.1.2.2 rfl (lv_at hl 1 rfl) ?_
        refine va_get (ci := 0) (v := .ref clo) (C := RX0) (T := TX0) (N := 9) hx hb hts (fun _ h => List.mem_cons_of_mem _ (List.mem_append_left _ (List.mem_append_right _ h))) hown hK.1 hP 0 rfl rfl 2 (by decide) (hts (.fieldLink RX0 11 "CutAtlas$Current" "lets" "[[I") (List.mem_of_getElem? (i := 4) rfl)) (fun _ h9 => h9) rfl dB_36_0_4.2.2.1.1 ?_
        refine lv_iload_n hx hb dB_36_0_4.2.2.1.2 rfl (lv_at hl 0 rfl) ?_
        have h_49 : vp_in (2 : Int32) 12 := by unfold vp_in; decide
        refine va_alda hx hb hG hP 4 rfl (i := 2) h_49 dB_36_0_4.2.2.2.1 ?_
        refine lv_topv (v' := .ref (rl 2)) (gf_at h_49) ?_
        refine lv_iconst (v := 0) hx hb dB_36_0_4.2.2.2.2 (by decide) ?_
        refine lv_aload_n hx hb dB_36_0_5.1.1.1.1 rfl (lv_at hl 1 rfl) ?_
        refine va_get (ci := 0) (v := .ref cro) (C := RX0) (T := TX0) (N := 9) hx hb hts (fun _ h => List.mem_cons_of_mem _ (List.mem_append_left _ (List.mem_append_right _ h))) hown hK.1 hP 0 rfl rfl 3 (by decide) (hts (.fieldLink RX0 16 "CutAtlas$Current" "room" "[[I") (List.mem_of_getElem? (i := 5) rfl)) (fun _ h9 => h9) rfl dB_36_0_5.1.1.1.2 ?_
        refine lv_iload_n hx hb dB_36_0_5.1.1.2.1 rfl (lv_at hl 0 rfl) ?_
        refine va_alda hx hb hG hP 17 rfl (i := 2) h_49 dB_36_0_5.1.1.2.2 ?_
        refine lv_topv (v' := .ref (rr 2)) (gf_at h_49) ?_
        refine lv_iconst (v := 0) hx hb dB_36_0_5.1.2.1.1 (by decide) ?_
        refine lv_aload_n hx hb dB_36_0_5.1.2.1.2 rfl (lv_at hl 1 rfl) ?_
        refine va_get (ci := 0) (v := .ref xn) (C := RX0) (T := TX0) (N := 9) hx hb hts (fun _ h => List.mem_cons_of_mem _ (List.mem_append_left _ (List.mem_append_right _ h))) hown hK.1 hP 0 rfl rfl 0 (by decide) (hts (.fieldLink RX0 35 "CutAtlas$Current" "net" "LCutAtlas$Net;") (List.mem_of_getElem? (i := 2) rfl)) (fun _ h9 => h9) rfl dB_36_0_5.1.2.2.1 ?_
        refine va_get (ci := 3) (v := .int vp) (C := RX3) (T := TX3) (N := 7) hx hb hts (fun _ h => List.mem_cons_of_mem _ (List.mem_append_right _ h)) hown hK.1 hP 1 rfl rfl 0 (by decide) (hts (.fieldLink RX0 43 "CutAtlas$Net" "places" "I") (List.mem_of_getElem? (i := 3) rfl)) (fun _ h9 => h9) rfl dB_36_0_5.1.2.2.2 ?_
        have cl_51 := clI (i := vp) (by omega)
        have cl_52 := clI (i := (0 : Int32)) (by omega)
        refine va_copyi hx hb (by rw [hml]; exact hl.1.symm) hown (hts (.methodLink RX0 83 arraycopyName) (List.mem_of_getElem? (i := 6) rfl)) (hts (.native arraycopyName) (List.mem_of_getElem? (i := 7) rfl)) (hts (.static arraycopyName) (List.mem_of_getElem? (i := 8) rfl)) (hts (.initialized "java/lang/System") (List.mem_of_getElem? (i := 9) rfl)) hK.1 hP hD hS 7 20 0 0 rfl rfl rfl rfl rfl (sp := (0 : Int32)) (dp := (0 : Int32)) (n := vp) (nneg (by omega)) (nneg (by omega)) (nneg (by omega)) (by omega) (by omega) (fun i h => rfl) (Nat.le_of_ble_eq_true rfl) (Nat.le_of_ble_eq_true rfl) dB_36_0_5.2.1.1.1 (fun H locs hP hD hS => ?_)
        obtain ⟨f_53, ef_53⟩ : ∃ g : Nat → Int32, g = va_cpy (Ml 2) (m_rr_4 2) (0 : Int32).toNatClampNeg (0 : Int32).toNatClampNeg vp.toNatClampNeg := ⟨_, rfl⟩
        refine pd_K (D := D) (cl := vwCl) (H := H) (A := A) [ob0_0_ xc xn xk clo cro c4 c5 c6 c7 c8, ob3_0_ xn vp vn n1 n2 n3 n4 n5, ai_ cy n2 40 fs, ai_ cy n3 40 fe, aq_ cy 6 clo 12 (gf_ rl), ai_ cy (rl 0) 12 (Ml 0), ai_ cy (rl 1) 12 (Ml 1), ai_ cy (rl 2) 12 (Ml 2), ai_ cy (rl 3) 12 (Ml 3), ai_ cy (rl 4) 12 (Ml 4), ai_ cy (rl 5) 12 (Ml 5), ai_ cy (rl 6) 12 (Ml 6), ai_ cy (rl 7) 12 (Ml 7), ai_ cy (rl 8) 12 (Ml 8), ai_ cy (rl 9) 12 (Ml 9), ai_ cy (rl 10) 12 (Ml 10), ai_ cy (rl 11) 12 (Ml 11), aq_ cy 6 cro 12 (gf_ rr), ai_ cy (rr 0) 12 (m_rr_4 0), ai_ cy (rr 1) 12 (m_rr_4 1), ai_ cy (rr 2) 12 f_53, ai_ cy (rr 3) 12 (m_rr_4 3), ai_ cy (rr 4) 12 (m_rr_4 4), ai_ cy (rr 5) 12 (m_rr_4 5), ai_ cy (rr 6) 12 (m_rr_4 6), ai_ cy (rr 7) 12 (m_rr_4 7), ai_ cy (rr 8) 12 (m_rr_4 8), ai_ cy (rr 9) 12 (m_rr_4 9), ai_ cy (rr 10) 12 (m_rr_4 10), ai_ cy (rr 11) 12 (m_rr_4 11), ai_ cy c4 40 e1_2, ai_ cy c5 40 f5, ai_ cy c6 40 f6, ai_ cy c7 12 f7, ai_ cy c8 12 f8] (by rw [ef_53]; exact hP) (by rw [ef_53]; exact hD) (fun hP hD => ?_)
        obtain ⟨M_54, eM_54⟩ : ∃ g : Nat → Nat → Int32, g = va_up m_rr_4 2 f_53 := ⟨_, rfl⟩
        refine pd_K (D := D) (cl := vwCl) (H := H) (A := A) [ob0_0_ xc xn xk clo cro c4 c5 c6 c7 c8, ob3_0_ xn vp vn n1 n2 n3 n4 n5, ai_ cy n2 40 fs, ai_ cy n3 40 fe, aq_ cy 6 clo 12 (gf_ rl), ai_ cy (rl 0) 12 (Ml 0), ai_ cy (rl 1) 12 (Ml 1), ai_ cy (rl 2) 12 (Ml 2), ai_ cy (rl 3) 12 (Ml 3), ai_ cy (rl 4) 12 (Ml 4), ai_ cy (rl 5) 12 (Ml 5), ai_ cy (rl 6) 12 (Ml 6), ai_ cy (rl 7) 12 (Ml 7), ai_ cy (rl 8) 12 (Ml 8), ai_ cy (rl 9) 12 (Ml 9), ai_ cy (rl 10) 12 (Ml 10), ai_ cy (rl 11) 12 (Ml 11), aq_ cy 6 cro 12 (gf_ rr), ai_ cy (rr 0) 12 (M_54 0), ai_ cy (rr 1) 12 (M_54 1), ai_ cy (rr 2) 12 (M_54 2), ai_ cy (rr 3) 12 (M_54 3), ai_ cy (rr 4) 12 (M_54 4), ai_ cy (rr 5) 12 (M_54 5), ai_ cy (rr 6) 12 (M_54 6), ai_ cy (rr 7) 12 (M_54 7), ai_ cy (rr 8) 12 (M_54 8), ai_ cy (rr 9) 12 (M_54 9), ai_ cy (rr 10) 12 (M_54 10), ai_ cy (rr 11) 12 (M_54 11), ai_ cy c4 40 e1_2, ai_ cy c5 40 f5, ai_ cy c6 40 f6, ai_ cy c7 12 f7, ai_ cy c8 12 f8] (by rw [eM_54]; exact hP) (by rw [eM_54]; exact hD) (fun hP hD => ?_)
        obtain ⟨y_55, ey_55⟩ : ∃ y : Int32, y = (2 : Int32) + 1 := ⟨_, rfl⟩
        have ty_55 : y_55.toInt = (2 : Int32).toInt + (1 : Int32).toInt := by rw [ey_55]; exact addI (by omega) (by omega)
        refine lv_iinc (v := y_55) (lv' := [(3, .int y_55), (0, .ref xc), (1, .int a1), (2, .int a2)]) hx hb dB_36_0_5.2.1.1.2 hl (k := 0) rfl (by rw [ey_55]; rfl) (by decide) rfl (fun ls hl => ?_)
        refine lv_goto (tgt := 10) hx hb dB_36_0_5.2.1.2.1 (by decide) ?_
        exact ih_4 y_55 M_54 _ _ _ (by omega) (by first | with_reducible assumption | omega | assumption) (by first | with_reducible assumption | omega | assumption) (by first | exact cp_st eM_54 v2_4 (by assumption) (by decide) (by omega) | (intro x y hx; omega)) ⟨hP, hD⟩ hS (lv_sub hl [0, 1, 2, 3] rfl)
      · refine lv_aload_n hx hb dB_36_0_4.2.1.2.2 rfl (lv_at hl 1 rfl) ?_
        refine va_get (ci := 0) (v := .ref clo) (C := RX0) (T := TX0) (N := 9) hx hb hts (fun _ h => List.mem_cons_of_mem _ (List.mem_append_left _ (List.mem_append_right _ h))) hown hK.1 hP 0 rfl rfl 2 (by decide) (hts (.fieldLink RX0 11 "CutAtlas$Current" "lets" "[[I") (List.mem_of_getElem? (i := 4) rfl)) (fun _ h9 => h9) rfl dB_36_0_4.2.2.1.1 ?_
        refine lv_iload_n hx hb dB_36_0_4.2.2.1.2 rfl (lv_at hl 0 rfl) ?_
        have h_56 : vp_in (3 : Int32) 12 := by unfold vp_in; decide
        refine va_alda hx hb hG hP 4 rfl (i := 3) h_56 dB_36_0_4.2.2.2.1 ?_
        refine lv_topv (v' := .ref (rl 3)) (gf_at h_56) ?_
        refine lv_iconst (v := 0) hx hb dB_36_0_4.2.2.2.2 (by decide) ?_
        refine lv_aload_n hx hb dB_36_0_5.1.1.1.1 rfl (lv_at hl 1 rfl) ?_
        refine va_get (ci := 0) (v := .ref cro) (C := RX0) (T := TX0) (N := 9) hx hb hts (fun _ h => List.mem_cons_of_mem _ (List.mem_append_left _ (List.mem_append_right _ h))) hown hK.1 hP 0 rfl rfl 3 (by decide) (hts (.fieldLink RX0 16 "CutAtlas$Current" "room" "[[I") (List.mem_of_getElem? (i := 5) rfl)) (fun _ h9 => h9) rfl dB_36_0_5.1.1.1.2 ?_
        refine lv_iload_n hx hb dB_36_0_5.1.1.2.1 rfl (lv_at hl 0 rfl) ?_
        refine va_alda hx hb hG hP 17 rfl (i := 3) h_56 dB_36_0_5.1.1.2.2 ?_
        refine lv_topv (v' := .ref (rr 3)) (gf_at h_56) ?_
        refine lv_iconst (v := 0) hx hb dB_36_0_5.1.2.1.1 (by decide) ?_
        refine lv_aload_n hx hb dB_36_0_5.1.2.1.2 rfl (lv_at hl 1 rfl) ?_
        refine va_get (ci := 0) (v := .ref xn) (C := RX0) (T := TX0) (N := 9) hx hb hts (fun _ h => List.mem_cons_of_mem _ (List.mem_append_left _ (List.mem_append_right _ h))) hown hK.1 hP 0 rfl rfl 0 (by decide) (hts (.fieldLink RX0 35 "CutAtlas$Current" "net" "LCutAtlas$Net;") (List.mem_of_getElem? (i := 2) rfl)) (fun _ h9 => h9) rfl dB_36_0_5.1.2.2.1 ?_
        refine va_get (ci := 3) (v := .int vp) (C := RX3) (T := TX3) (N := 7) hx hb hts (fun _ h => List.mem_cons_of_mem _ (List.mem_append_right _ h)) hown hK.1 hP 1 rfl rfl 0 (by decide) (hts (.fieldLink RX0 43 "CutAtlas$Net" "places" "I") (List.mem_of_getElem? (i := 3) rfl)) (fun _ h9 => h9) rfl dB_36_0_5.1.2.2.2 ?_
        have cl_58 := clI (i := vp) (by omega)
        have cl_59 := clI (i := (0 : Int32)) (by omega)
        refine va_copyi hx hb (by rw [hml]; exact hl.1.symm) hown (hts (.methodLink RX0 83 arraycopyName) (List.mem_of_getElem? (i := 6) rfl)) (hts (.native arraycopyName) (List.mem_of_getElem? (i := 7) rfl)) (hts (.static arraycopyName) (List.mem_of_getElem? (i := 8) rfl)) (hts (.initialized "java/lang/System") (List.mem_of_getElem? (i := 9) rfl)) hK.1 hP hD hS 8 21 0 0 rfl rfl rfl rfl rfl (sp := (0 : Int32)) (dp := (0 : Int32)) (n := vp) (nneg (by omega)) (nneg (by omega)) (nneg (by omega)) (by omega) (by omega) (fun i h => rfl) (Nat.le_of_ble_eq_true rfl) (Nat.le_of_ble_eq_true rfl) dB_36_0_5.2.1.1.1 (fun H locs hP hD hS => ?_)
        obtain ⟨f_60, ef_60⟩ : ∃ g : Nat → Int32, g = va_cpy (Ml 3) (m_rr_4 3) (0 : Int32).toNatClampNeg (0 : Int32).toNatClampNeg vp.toNatClampNeg := ⟨_, rfl⟩
        refine pd_K (D := D) (cl := vwCl) (H := H) (A := A) [ob0_0_ xc xn xk clo cro c4 c5 c6 c7 c8, ob3_0_ xn vp vn n1 n2 n3 n4 n5, ai_ cy n2 40 fs, ai_ cy n3 40 fe, aq_ cy 6 clo 12 (gf_ rl), ai_ cy (rl 0) 12 (Ml 0), ai_ cy (rl 1) 12 (Ml 1), ai_ cy (rl 2) 12 (Ml 2), ai_ cy (rl 3) 12 (Ml 3), ai_ cy (rl 4) 12 (Ml 4), ai_ cy (rl 5) 12 (Ml 5), ai_ cy (rl 6) 12 (Ml 6), ai_ cy (rl 7) 12 (Ml 7), ai_ cy (rl 8) 12 (Ml 8), ai_ cy (rl 9) 12 (Ml 9), ai_ cy (rl 10) 12 (Ml 10), ai_ cy (rl 11) 12 (Ml 11), aq_ cy 6 cro 12 (gf_ rr), ai_ cy (rr 0) 12 (m_rr_4 0), ai_ cy (rr 1) 12 (m_rr_4 1), ai_ cy (rr 2) 12 (m_rr_4 2), ai_ cy (rr 3) 12 f_60, ai_ cy (rr 4) 12 (m_rr_4 4), ai_ cy (rr 5) 12 (m_rr_4 5), ai_ cy (rr 6) 12 (m_rr_4 6), ai_ cy (rr 7) 12 (m_rr_4 7), ai_ cy (rr 8) 12 (m_rr_4 8), ai_ cy (rr 9) 12 (m_rr_4 9), ai_ cy (rr 10) 12 (m_rr_4 10), ai_ cy (rr 11) 12 (m_rr_4 11), ai_ cy c4 40 e1_2, ai_ cy c5 40 f5, ai_ cy c6 40 f6, ai_ cy c7 12 f7, ai_ cy c8 12 f8] (by rw [ef_60]; exact hP) (by rw [ef_60]; exact hD) (fun hP hD => ?_)
        obtain ⟨M_61, eM_61⟩ : ∃ g : Nat → Nat → Int32, g = va_up m_rr_4 3 f_60 := ⟨_, rfl⟩
        refine pd_K (D := D) (cl := vwCl) (H := H) (A := A) [ob0_0_ xc xn xk clo cro c4 c5 c6 c7 c8, ob3_0_ xn vp vn n1 n2 n3 n4 n5, ai_ cy n2 40 fs, ai_ cy n3 40 fe, aq_ cy 6 clo 12 (gf_ rl), ai_ cy (rl 0) 12 (Ml 0), ai_ cy (rl 1) 12 (Ml 1), ai_ cy (rl 2) 12 (Ml 2), ai_ cy (rl 3) 12 (Ml 3), ai_ cy (rl 4) 12 (Ml 4), ai_ cy (rl 5) 12 (Ml 5), ai_ cy (rl 6) 12 (Ml 6), ai_ cy (rl 7) 12 (Ml 7), ai_ cy (rl 8) 12 (Ml 8), ai_ cy (rl 9) 12 (Ml 9), ai_ cy (rl 10) 12 (Ml 10), ai_ cy (rl 11) 12 (Ml 11), aq_ cy 6 cro 12 (gf_ rr), ai_ cy (rr 0) 12 (M_61 0), ai_ cy (rr 1) 12 (M_61 1), ai_ cy (rr 2) 12 (M_61 2), ai_ cy (rr 3) 12 (M_61 3), ai_ cy (rr 4) 12 (M_61 4), ai_ cy (rr 5) 12 (M_61 5), ai_ cy (rr 6) 12 (M_61 6), ai_ cy (rr 7) 12 (M_61 7), ai_ cy (rr 8) 12 (M_61 8), ai_ cy (rr 9) 12 (M_61 9), ai_ cy (rr 10) 12 (M_61 10), ai_ cy (rr 11) 12 (M_61 11), ai_ cy c4 40 e1_2, ai_ cy c5 40 f5, ai_ cy c6 40 f6, ai_ cy c7 12 f7, ai_ cy c8 12 f8] (by rw [eM_61]; exact hP) (by rw [eM_61]; exact hD) (fun hP hD => ?_)
        obtain ⟨y_62, ey_62⟩ : ∃ y : Int32, y = (3 : Int32) + 1 := ⟨_, rfl⟩
        have ty_62 : y_62.toInt = (3 : Int32).toInt + (1 : Int32).toInt := by rw [ey_62]; exact addI (by omega) (by omega)
        refine lv_iinc (v := y_62) (lv' := [(3, .int y_62), (0, .ref xc), (1, .int a1), (2, .int a2)]) hx hb dB_36_0_5.2.1.1.2 hl (k := 0) rfl (by rw [ey_62]; rfl) (by decide) rfl (fun ls hl => ?_)
        refine lv_goto (tgt := 10) hx hb dB_36_0_5.2.1.2.1 (by decide) ?_
        exact ih_4 y_62 M_61 _ _ _ (by omega) (by first | with_reducible assumption | omega | assumption) (by first | with_reducible assumption | omega | assumption) (by first | exact cp_st eM_61 v2_4 (by assumption) (by decide) (by omega) | (intro x y hx; omega)) ⟨hP, hD⟩ hS (lv_sub hl [0, 1, 2, 3] rfl)
      · refine lv_aload_n hx hb dB_36_0_4.2.1.2.2 rfl (lv_at hl 1 rfl) ?_
        refine va_get (ci := 0) (v := .ref clo) (C := RX0) (T := TX0) (N := 9) hx hb hts (fun _ h => List.mem_cons_of_mem _ (List.mem_append_left _ (List.mem_append_right _ h))) hown hK.1 hP 0 rfl rfl 2 (by decide) (hts (.fieldLink RX0 11 "CutAtlas$Current" "lets" "[[I") (List.mem_of_getElem? (i := 4) rfl)) (fun _ h9 => h9) rfl dB_36_0_4.2.2.1.1 ?_
        refine lv_iload_n hx hb dB_36_0_4.2.2.1.2 rfl (lv_at hl 0 rfl) ?_
        have h_63 : vp_in (4 : Int32) 12 := by unfold vp_in; decide
        refine va_alda hx hb hG hP 4 rfl (i := 4) h_63 dB_36_0_4.2.2.2.1 ?_
        refine lv_topv (v' := .ref (rl 4)) (gf_at h_63) ?_
        refine lv_iconst (v := 0) hx hb dB_36_0_4.2.2.2.2 (by decide) ?_
        refine lv_aload_n hx hb dB_36_0_5.1.1.1.1 rfl (lv_at hl 1 rfl) ?_
        refine va_get (ci := 0) (v := .ref cro) (C := RX0) (T := TX0) (N := 9) hx hb hts (fun _ h => List.mem_cons_of_mem _ (List.mem_append_left _ (List.mem_append_right _ h))) hown hK.1 hP 0 rfl rfl 3 (by decide) (hts (.fieldLink RX0 16 "CutAtlas$Current" "room" "[[I") (List.mem_of_getElem? (i := 5) rfl)) (fun _ h9 => h9) rfl dB_36_0_5.1.1.1.2 ?_
        refine lv_iload_n hx hb dB_36_0_5.1.1.2.1 rfl (lv_at hl 0 rfl) ?_
        refine va_alda hx hb hG hP 17 rfl (i := 4) h_63 dB_36_0_5.1.1.2.2 ?_
        refine lv_topv (v' := .ref (rr 4)) (gf_at h_63) ?_
        refine lv_iconst (v := 0) hx hb dB_36_0_5.1.2.1.1 (by decide) ?_
        refine lv_aload_n hx hb dB_36_0_5.1.2.1.2 rfl (lv_at hl 1 rfl) ?_
        refine va_get (ci := 0) (v := .ref xn) (C := RX0) (T := TX0) (N := 9) hx hb hts (fun _ h => List.mem_cons_of_mem _ (List.mem_append_left _ (List.mem_append_right _ h))) hown hK.1 hP 0 rfl rfl 0 (by decide) (hts (.fieldLink RX0 35 "CutAtlas$Current" "net" "LCutAtlas$Net;") (List.mem_of_getElem? (i := 2) rfl)) (fun _ h9 => h9) rfl dB_36_0_5.1.2.2.1 ?_
        refine va_get (ci := 3) (v := .int vp) (C := RX3) (T := TX3) (N := 7) hx hb hts (fun _ h => List.mem_cons_of_mem _ (List.mem_append_right _ h)) hown hK.1 hP 1 rfl rfl 0 (by decide) (hts (.fieldLink RX0 43 "CutAtlas$Net" "places" "I") (List.mem_of_getElem? (i := 3) rfl)) (fun _ h9 => h9) rfl dB_36_0_5.1.2.2.2 ?_
        have cl_65 := clI (i := vp) (by omega)
        have cl_66 := clI (i := (0 : Int32)) (by omega)
        refine va_copyi hx hb (by rw [hml]; exact hl.1.symm) hown (hts (.methodLink RX0 83 arraycopyName) (List.mem_of_getElem? (i := 6) rfl)) (hts (.native arraycopyName) (List.mem_of_getElem? (i := 7) rfl)) (hts (.static arraycopyName) (List.mem_of_getElem? (i := 8) rfl)) (hts (.initialized "java/lang/System") (List.mem_of_getElem? (i := 9) rfl)) hK.1 hP hD hS 9 22 0 0 rfl rfl rfl rfl rfl (sp := (0 : Int32)) (dp := (0 : Int32)) (n := vp) (nneg (by omega)) (nneg (by omega)) (nneg (by omega)) (by omega) (by omega) (fun i h => rfl) (Nat.le_of_ble_eq_true rfl) (Nat.le_of_ble_eq_true rfl) dB_36_0_5.2.1.1.1 (fun H locs hP hD hS => ?_)
        obtain ⟨f_67, ef_67⟩ : ∃ g : Nat → Int32, g = va_cpy (Ml 4) (m_rr_4 4) (0 : Int32).toNatClampNeg (0 : Int32).toNatClampNeg vp.toNatClampNeg := ⟨_, rfl⟩
        refine pd_K (D := D) (cl := vwCl) (H := H) (A := A) [ob0_0_ xc xn xk clo cro c4 c5 c6 c7 c8, ob3_0_ xn vp vn n1 n2 n3 n4 n5, ai_ cy n2 40 fs, ai_ cy n3 40 fe, aq_ cy 6 clo 12 (gf_ rl), ai_ cy (rl 0) 12 (Ml 0), ai_ cy (rl 1) 12 (Ml 1), ai_ cy (rl 2) 12 (Ml 2), ai_ cy (rl 3) 12 (Ml 3), ai_ cy (rl 4) 12 (Ml 4), ai_ cy (rl 5) 12 (Ml 5), ai_ cy (rl 6) 12 (Ml 6), ai_ cy (rl 7) 12 (Ml 7), ai_ cy (rl 8) 12 (Ml 8), ai_ cy (rl 9) 12 (Ml 9), ai_ cy (rl 10) 12 (Ml 10), ai_ cy (rl 11) 12 (Ml 11), aq_ cy 6 cro 12 (gf_ rr), ai_ cy (rr 0) 12 (m_rr_4 0), ai_ cy (rr 1) 12 (m_rr_4 1), ai_ cy (rr 2) 12 (m_rr_4 2), ai_ cy (rr 3) 12 (m_rr_4 3), ai_ cy (rr 4) 12 f_67, ai_ cy (rr 5) 12 (m_rr_4 5), ai_ cy (rr 6) 12 (m_rr_4 6), ai_ cy (rr 7) 12 (m_rr_4 7), ai_ cy (rr 8) 12 (m_rr_4 8), ai_ cy (rr 9) 12 (m_rr_4 9), ai_ cy (rr 10) 12 (m_rr_4 10), ai_ cy (rr 11) 12 (m_rr_4 11), ai_ cy c4 40 e1_2, ai_ cy c5 40 f5, ai_ cy c6 40 f6, ai_ cy c7 12 f7, ai_ cy c8 12 f8] (by rw [ef_67]; exact hP) (by rw [ef_67]; exact hD) (fun hP hD => ?_)
        obtain ⟨M_68, eM_68⟩ : ∃ g : Nat → Nat → Int32, g = va_up m_rr_4 4 f_67 := ⟨_, rfl⟩
        refine pd_K (D := D) (cl := vwCl) (H := H) (A := A) [ob0_0_ xc xn xk clo cro c4 c5 c6 c7 c8, ob3_0_ xn vp vn n1 n2 n3 n4 n5, ai_ cy n2 40 fs, ai_ cy n3 40 fe, aq_ cy 6 clo 12 (gf_ rl), ai_ cy (rl 0) 12 (Ml 0), ai_ cy (rl 1) 12 (Ml 1), ai_ cy (rl 2) 12 (Ml 2), ai_ cy (rl 3) 12 (Ml 3), ai_ cy (rl 4) 12 (Ml 4), ai_ cy (rl 5) 12 (Ml 5), ai_ cy (rl 6) 12 (Ml 6), ai_ cy (rl 7) 12 (Ml 7), ai_ cy (rl 8) 12 (Ml 8), ai_ cy (rl 9) 12 (Ml 9), ai_ cy (rl 10) 12 (Ml 10), ai_ cy (rl 11) 12 (Ml 11), aq_ cy 6 cro 12 (gf_ rr), ai_ cy (rr 0) 12 (M_68 0), ai_ cy (rr 1) 12 (M_68 1), ai_ cy (rr 2) 12 (M_68 2), ai_ cy (rr 3) 12 (M_68 3), ai_ cy (rr 4) 12 (M_68 4), ai_ cy (rr 5) 12 (M_68 5), ai_ cy (rr 6) 12 (M_68 6), ai_ cy (rr 7) 12 (M_68 7), ai_ cy (rr 8) 12 (M_68 8), ai_ cy (rr 9) 12 (M_68 9), ai_ cy (rr 10) 12 (M_68 10), ai_ cy (rr 11) 12 (M_68 11), ai_ cy c4 40 e1_2, ai_ cy c5 40 f5, ai_ cy c6 40 f6, ai_ cy c7 12 f7, ai_ cy c8 12 f8] (by rw [eM_68]; exact hP) (by rw [eM_68]; exact hD) (fun hP hD => ?_)
        obtain ⟨y_69, ey_69⟩ : ∃ y : Int32, y = (4 : Int32) + 1 := ⟨_, rfl⟩
        have ty_69 : y_69.toInt = (4 : Int32).toInt + (1 : Int32).toInt := by rw [ey_69]; exact addI (by omega) (by omega)
        refine lv_iinc (v := y_69) (lv' := [(3, .int y_69), (0, .ref xc), (1, .int a1), (2, .int a2)]) hx hb dB_36_0_5.2.1.1.2 hl (k := 0) rfl (by rw [ey_69]; rfl) (by decide) rfl (fun ls hl => ?_)
        refine lv_goto (tgt := 10) hx hb dB_36_0_5.2.1.2.1 (by decide) ?_
        exact ih_4 y_69 M_68 _ _ _ (by omega) (by first | with_reducible assumption | omega | assumption) (by first | with_reducible assumption | omega | assumption) (by first | exact cp_st eM_68 v2_4 (by assumption) (by decide) (by omega) | (intro x y hx; omega)) ⟨hP, hD⟩ hS (lv_sub hl [0, 1, 2, 3] rfl)
      · refine lv_aload_n hx hb dB_36_0_4.2.1.2.2 rfl (lv_at hl 1 rfl) ?_
        refine va_get (ci := 0) (v := .ref clo) (C := RX0) (T := TX0) (N := 9) hx hb hts (fun _ h => List.mem_cons_of_mem _ (List.mem_append_left _ (List.mem_append_right _ h))) hown hK.1 hP 0 rfl rfl 2 (by decide) (hts (.fieldLink RX0 11 "CutAtlas$Current" "lets" "[[I") (List.mem_of_getElem? (i := 4) rfl)) (fun _ h9 => h9) rfl dB_36_0_4.2.2.1.1 ?_
        refine lv_iload_n hx hb dB_36_0_4.2.2.1.2 rfl (lv_at hl 0 rfl) ?_
        have h_70 : vp_in (5 : Int32) 12 := by unfold vp_in; decide
        refine va_alda hx hb hG hP 4 rfl (i := 5) h_70 dB_36_0_4.2.2.2.1 ?_
        refine lv_topv (v' := .ref (rl 5)) (gf_at h_70) ?_
        refine lv_iconst (v := 0) hx hb dB_36_0_4.2.2.2.2 (by decide) ?_
        refine lv_aload_n hx hb dB_36_0_5.1.1.1.1 rfl (lv_at hl 1 rfl) ?_
        refine va_get (ci := 0) (v := .ref cro) (C := RX0) (T := TX0) (N := 9) hx hb hts (fun _ h => List.mem_cons_of_mem _ (List.mem_append_left _ (List.mem_append_right _ h))) hown hK.1 hP 0 rfl rfl 3 (by decide) (hts (.fieldLink RX0 16 "CutAtlas$Current" "room" "[[I") (List.mem_of_getElem? (i := 5) rfl)) (fun _ h9 => h9) rfl dB_36_0_5.1.1.1.2 ?_
        refine lv_iload_n hx hb dB_36_0_5.1.1.2.1 rfl (lv_at hl 0 rfl) ?_
        refine va_alda hx hb hG hP 17 rfl (i := 5) h_70 dB_36_0_5.1.1.2.2 ?_
        refine lv_topv (v' := .ref (rr 5)) (gf_at h_70) ?_
        refine lv_iconst (v := 0) hx hb dB_36_0_5.1.2.1.1 (by decide) ?_
        refine lv_aload_n hx hb dB_36_0_5.1.2.1.2 rfl (lv_at hl 1 rfl) ?_
        refine va_get (ci := 0) (v := .ref xn) (C := RX0) (T := TX0) (N := 9) hx hb hts (fun _ h => List.mem_cons_of_mem _ (List.mem_append_left _ (List.mem_append_right _ h))) hown hK.1 hP 0 rfl rfl 0 (by decide) (hts (.fieldLink RX0 35 "CutAtlas$Current" "net" "LCutAtlas$Net;") (List.mem_of_getElem? (i := 2) rfl)) (fun _ h9 => h9) rfl dB_36_0_5.1.2.2.1 ?_
        refine va_get (ci := 3) (v := .int vp) (C := RX3) (T := TX3) (N := 7) hx hb hts (fun _ h => List.mem_cons_of_mem _ (List.mem_append_right _ h)) hown hK.1 hP 1 rfl rfl 0 (by decide) (hts (.fieldLink RX0 43 "CutAtlas$Net" "places" "I") (List.mem_of_getElem? (i := 3) rfl)) (fun _ h9 => h9) rfl dB_36_0_5.1.2.2.2 ?_
        have cl_72 := clI (i := vp) (by omega)
        have cl_73 := clI (i := (0 : Int32)) (by omega)
        refine va_copyi hx hb (by rw [hml]; exact hl.1.symm) hown (hts (.methodLink RX0 83 arraycopyName) (List.mem_of_getElem? (i := 6) rfl)) (hts (.native arraycopyName) (List.mem_of_getElem? (i := 7) rfl)) (hts (.static arraycopyName) (List.mem_of_getElem? (i := 8) rfl)) (hts (.initialized "java/lang/System") (List.mem_of_getElem? (i := 9) rfl)) hK.1 hP hD hS 10 23 0 0 rfl rfl rfl rfl rfl (sp := (0 : Int32)) (dp := (0 : Int32)) (n := vp) (nneg (by omega)) (nneg (by omega)) (nneg (by omega)) (by omega) (by omega) (fun i h => rfl) (Nat.le_of_ble_eq_true rfl) (Nat.le_of_ble_eq_true rfl) dB_36_0_5.2.1.1.1 (fun H locs hP hD hS => ?_)
        obtain ⟨f_74, ef_74⟩ : ∃ g : Nat → Int32, g = va_cpy (Ml 5) (m_rr_4 5) (0 : Int32).toNatClampNeg (0 : Int32).toNatClampNeg vp.toNatClampNeg := ⟨_, rfl⟩
        refine pd_K (D := D) (cl := vwCl) (H := H) (A := A) [ob0_0_ xc xn xk clo cro c4 c5 c6 c7 c8, ob3_0_ xn vp vn n1 n2 n3 n4 n5, ai_ cy n2 40 fs, ai_ cy n3 40 fe, aq_ cy 6 clo 12 (gf_ rl), ai_ cy (rl 0) 12 (Ml 0), ai_ cy (rl 1) 12 (Ml 1), ai_ cy (rl 2) 12 (Ml 2), ai_ cy (rl 3) 12 (Ml 3), ai_ cy (rl 4) 12 (Ml 4), ai_ cy (rl 5) 12 (Ml 5), ai_ cy (rl 6) 12 (Ml 6), ai_ cy (rl 7) 12 (Ml 7), ai_ cy (rl 8) 12 (Ml 8), ai_ cy (rl 9) 12 (Ml 9), ai_ cy (rl 10) 12 (Ml 10), ai_ cy (rl 11) 12 (Ml 11), aq_ cy 6 cro 12 (gf_ rr), ai_ cy (rr 0) 12 (m_rr_4 0), ai_ cy (rr 1) 12 (m_rr_4 1), ai_ cy (rr 2) 12 (m_rr_4 2), ai_ cy (rr 3) 12 (m_rr_4 3), ai_ cy (rr 4) 12 (m_rr_4 4), ai_ cy (rr 5) 12 f_74, ai_ cy (rr 6) 12 (m_rr_4 6), ai_ cy (rr 7) 12 (m_rr_4 7), ai_ cy (rr 8) 12 (m_rr_4 8), ai_ cy (rr 9) 12 (m_rr_4 9), ai_ cy (rr 10) 12 (m_rr_4 10), ai_ cy (rr 11) 12 (m_rr_4 11), ai_ cy c4 40 e1_2, ai_ cy c5 40 f5, ai_ cy c6 40 f6, ai_ cy c7 12 f7, ai_ cy c8 12 f8] (by rw [ef_74]; exact hP) (by rw [ef_74]; exact hD) (fun hP hD => ?_)
        obtain ⟨M_75, eM_75⟩ : ∃ g : Nat → Nat → Int32, g = va_up m_rr_4 5 f_74 := ⟨_, rfl⟩
        refine pd_K (D := D) (cl := vwCl) (H := H) (A := A) [ob0_0_ xc xn xk clo cro c4 c5 c6 c7 c8, ob3_0_ xn vp vn n1 n2 n3 n4 n5, ai_ cy n2 40 fs, ai_ cy n3 40 fe, aq_ cy 6 clo 12 (gf_ rl), ai_ cy (rl 0) 12 (Ml 0), ai_ cy (rl 1) 12 (Ml 1), ai_ cy (rl 2) 12 (Ml 2), ai_ cy (rl 3) 12 (Ml 3), ai_ cy (rl 4) 12 (Ml 4), ai_ cy (rl 5) 12 (Ml 5), ai_ cy (rl 6) 12 (Ml 6), ai_ cy (rl 7) 12 (Ml 7), ai_ cy (rl 8) 12 (Ml 8), ai_ cy (rl 9) 12 (Ml 9), ai_ cy (rl 10) 12 (Ml 10), ai_ cy (rl 11) 12 (Ml 11), aq_ cy 6 cro 12 (gf_ rr), ai_ cy (rr 0) 12 (M_75 0), ai_ cy (rr 1) 12 (M_75 1), ai_ cy (rr 2) 12 (M_75 2), ai_ cy (rr 3) 12 (M_75 3), ai_ cy (rr 4) 12 (M_75 4), ai_ cy (rr 5) 12 (M_75 5), ai_ cy (rr 6) 12 (M_75 6), ai_ cy (rr 7) 12 (M_75 7), ai_ cy (rr 8) 12 (M_75 8), ai_ cy (rr 9) 12 (M_75 9), ai_ cy (rr 10) 12 (M_75 10), ai_ cy (rr 11) 12 (M_75 11), ai_ cy c4 40 e1_2, ai_ cy c5 40 f5, ai_ cy c6 40 f6, ai_ cy c7 12 f7, ai_ cy c8 12 f8] (by rw [eM_75]; exact hP) (by rw [eM_75]; exact hD) (fun hP hD => ?_)
        obtain ⟨y_76, ey_76⟩ : ∃ y : Int32, y = (5 : Int32) + 1 := ⟨_, rfl⟩
        have ty_76 : y_76.toInt = (5 : Int32).toInt + (1 : Int32).toInt := by rw [ey_76]; exact addI (by omega) (by omega)
        refine lv_iinc (v := y_76) (lv' := [(3, .int y_76), (0, .ref xc), (1, .int a1), (2, .int a2)]) hx hb dB_36_0_5.2.1.1.2 hl (k := 0) rfl (by rw [ey_76]; rfl) (by decide) rfl (fun ls hl => ?_)
        refine lv_goto (tgt := 10) hx hb dB_36_0_5.2.1.2.1 (by decide) ?_
        exact ih_4 y_76 M_75 _ _ _ (by omega) (by first | with_reducible assumption | omega | assumption) (by first | with_reducible assumption | omega | assumption) (by first | exact cp_st eM_75 v2_4 (by assumption) (by decide) (by omega) | (intro x y hx; omega)) ⟨hP, hD⟩ hS (lv_sub hl [0, 1, 2, 3] rfl)
      · refine lv_aload_n hx hb dB_36_0_4.2.1.2.2 rfl (lv_at hl 1 rfl) ?_
        refine va_get (ci := 0) (v := .ref clo) (C := RX0) (T := TX0) (N := 9) hx hb hts (fun _ h => List.mem_cons_of_mem _ (List.mem_append_left _ (List.mem_append_right _ h))) hown hK.1 hP 0 rfl rfl 2 (by decide) (hts (.fieldLink RX0 11 "CutAtlas$Current" "lets" "[[I") (List.mem_of_getElem? (i := 4) rfl)) (fun _ h9 => h9) rfl dB_36_0_4.2.2.1.1 ?_
        refine lv_iload_n hx hb dB_36_0_4.2.2.1.2 rfl (lv_at hl 0 rfl) ?_
        have h_77 : vp_in (6 : Int32) 12 := by unfold vp_in; decide
        refine va_alda hx hb hG hP 4 rfl (i := 6) h_77 dB_36_0_4.2.2.2.1 ?_
        refine lv_topv (v' := .ref (rl 6)) (gf_at h_77) ?_
        refine lv_iconst (v := 0) hx hb dB_36_0_4.2.2.2.2 (by decide) ?_
        refine lv_aload_n hx hb dB_36_0_5.1.1.1.1 rfl (lv_at hl 1 rfl) ?_
        refine va_get (ci := 0) (v := .ref cro) (C := RX0) (T := TX0) (N := 9) hx hb hts (fun _ h => List.mem_cons_of_mem _ (List.mem_append_left _ (List.mem_append_right _ h))) hown hK.1 hP 0 rfl rfl 3 (by decide) (hts (.fieldLink RX0 16 "CutAtlas$Current" "room" "[[I") (List.mem_of_getElem? (i := 5) rfl)) (fun _ h9 => h9) rfl dB_36_0_5.1.1.1.2 ?_
        refine lv_iload_n hx hb dB_36_0_5.1.1.2.1 rfl (lv_at hl 0 rfl) ?_
        refine va_alda hx hb hG hP 17 rfl (i := 6) h_77 dB_36_0_5.1.1.2.2 ?_
        refine lv_topv (v' := .ref (rr 6)) (gf_at h_77) ?_
        refine lv_iconst (v := 0) hx hb dB_36_0_5.1.2.1.1 (by decide) ?_
        refine lv_aload_n hx hb dB_36_0_5.1.2.1.2 rfl (lv_at hl 1 rfl) ?_
        refine va_get (ci := 0) (v := .ref xn) (C := RX0) (T := TX0) (N := 9) hx hb hts (fun _ h => List.mem_cons_of_mem _ (List.mem_append_left _ (List.mem_append_right _ h))) hown hK.1 hP 0 rfl rfl 0 (by decide) (hts (.fieldLink RX0 35 "CutAtlas$Current" "net" "LCutAtlas$Net;") (List.mem_of_getElem? (i := 2) rfl)) (fun _ h9 => h9) rfl dB_36_0_5.1.2.2.1 ?_
        refine va_get (ci := 3) (v := .int vp) (C := RX3) (T := TX3) (N := 7) hx hb hts (fun _ h => List.mem_cons_of_mem _ (List.mem_append_right _ h)) hown hK.1 hP 1 rfl rfl 0 (by decide) (hts (.fieldLink RX0 43 "CutAtlas$Net" "places" "I") (List.mem_of_getElem? (i := 3) rfl)) (fun _ h9 => h9) rfl dB_36_0_5.1.2.2.2 ?_
        have cl_79 := clI (i := vp) (by omega)
        have cl_80 := clI (i := (0 : Int32)) (by omega)
        refine va_copyi hx hb (by rw [hml]; exact hl.1.symm) hown (hts (.methodLink RX0 83 arraycopyName) (List.mem_of_getElem? (i := 6) rfl)) (hts (.native arraycopyName) (List.mem_of_getElem? (i := 7) rfl)) (hts (.static arraycopyName) (List.mem_of_getElem? (i := 8) rfl)) (hts (.initialized "java/lang/System") (List.mem_of_getElem? (i := 9) rfl)) hK.1 hP hD hS 11 24 0 0 rfl rfl rfl rfl rfl (sp := (0 : Int32)) (dp := (0 : Int32)) (n := vp) (nneg (by omega)) (nneg (by omega)) (nneg (by omega)) (by omega) (by omega) (fun i h => rfl) (Nat.le_of_ble_eq_true rfl) (Nat.le_of_ble_eq_true rfl) dB_36_0_5.2.1.1.1 (fun H locs hP hD hS => ?_)
        obtain ⟨f_81, ef_81⟩ : ∃ g : Nat → Int32, g = va_cpy (Ml 6) (m_rr_4 6) (0 : Int32).toNatClampNeg (0 : Int32).toNatClampNeg vp.toNatClampNeg := ⟨_, rfl⟩
        refine pd_K (D := D) (cl := vwCl) (H := H) (A := A) [ob0_0_ xc xn xk clo cro c4 c5 c6 c7 c8, ob3_0_ xn vp vn n1 n2 n3 n4 n5, ai_ cy n2 40 fs, ai_ cy n3 40 fe, aq_ cy 6 clo 12 (gf_ rl), ai_ cy (rl 0) 12 (Ml 0), ai_ cy (rl 1) 12 (Ml 1), ai_ cy (rl 2) 12 (Ml 2), ai_ cy (rl 3) 12 (Ml 3), ai_ cy (rl 4) 12 (Ml 4), ai_ cy (rl 5) 12 (Ml 5), ai_ cy (rl 6) 12 (Ml 6), ai_ cy (rl 7) 12 (Ml 7), ai_ cy (rl 8) 12 (Ml 8), ai_ cy (rl 9) 12 (Ml 9), ai_ cy (rl 10) 12 (Ml 10), ai_ cy (rl 11) 12 (Ml 11), aq_ cy 6 cro 12 (gf_ rr), ai_ cy (rr 0) 12 (m_rr_4 0), ai_ cy (rr 1) 12 (m_rr_4 1), ai_ cy (rr 2) 12 (m_rr_4 2), ai_ cy (rr 3) 12 (m_rr_4 3), ai_ cy (rr 4) 12 (m_rr_4 4), ai_ cy (rr 5) 12 (m_rr_4 5), ai_ cy (rr 6) 12 f_81, ai_ cy (rr 7) 12 (m_rr_4 7), ai_ cy (rr 8) 12 (m_rr_4 8), ai_ cy (rr 9) 12 (m_rr_4 9), ai_ cy (rr 10) 12 (m_rr_4 10), ai_ cy (rr 11) 12 (m_rr_4 11), ai_ cy c4 40 e1_2, ai_ cy c5 40 f5, ai_ cy c6 40 f6, ai_ cy c7 12 f7, ai_ cy c8 12 f8] (by rw [ef_81]; exact hP) (by rw [ef_81]; exact hD) (fun hP hD => ?_)
        obtain ⟨M_82, eM_82⟩ : ∃ g : Nat → Nat → Int32, g = va_up m_rr_4 6 f_81 := ⟨_, rfl⟩
        refine pd_K (D := D) (cl := vwCl) (H := H) (A := A) [ob0_0_ xc xn xk clo cro c4 c5 c6 c7 c8, ob3_0_ xn vp vn n1 n2 n3 n4 n5, ai_ cy n2 40 fs, ai_ cy n3 40 fe, aq_ cy 6 clo 12 (gf_ rl), ai_ cy (rl 0) 12 (Ml 0), ai_ cy (rl 1) 12 (Ml 1), ai_ cy (rl 2) 12 (Ml 2), ai_ cy (rl 3) 12 (Ml 3), ai_ cy (rl 4) 12 (Ml 4), ai_ cy (rl 5) 12 (Ml 5), ai_ cy (rl 6) 12 (Ml 6), ai_ cy (rl 7) 12 (Ml 7), ai_ cy (rl 8) 12 (Ml 8), ai_ cy (rl 9) 12 (Ml 9), ai_ cy (rl 10) 12 (Ml 10), ai_ cy (rl 11) 12 (Ml 11), aq_ cy 6 cro 12 (gf_ rr), ai_ cy (rr 0) 12 (M_82 0), ai_ cy (rr 1) 12 (M_82 1), ai_ cy (rr 2) 12 (M_82 2), ai_ cy (rr 3) 12 (M_82 3), ai_ cy (rr 4) 12 (M_82 4), ai_ cy (rr 5) 12 (M_82 5), ai_ cy (rr 6) 12 (M_82 6), ai_ cy (rr 7) 12 (M_82 7), ai_ cy (rr 8) 12 (M_82 8), ai_ cy (rr 9) 12 (M_82 9), ai_ cy (rr 10) 12 (M_82 10), ai_ cy (rr 11) 12 (M_82 11), ai_ cy c4 40 e1_2, ai_ cy c5 40 f5, ai_ cy c6 40 f6, ai_ cy c7 12 f7, ai_ cy c8 12 f8] (by rw [eM_82]; exact hP) (by rw [eM_82]; exact hD) (fun hP hD => ?_)
        obtain ⟨y_83, ey_83⟩ : ∃ y : Int32, y = (6 : Int32) + 1 := ⟨_, rfl⟩
        have ty_83 : y_83.toInt = (6 : Int32).toInt + (1 : Int32).toInt := by rw [ey_83]; exact addI (by omega) (by omega)
        refine lv_iinc (v := y_83) (lv' := [(3, .int y_83), (0, .ref xc), (1, .int a1), (2, .int a2)]) hx hb dB_36_0_5.2.1.1.2 hl (k := 0) rfl (by rw [ey_83]; rfl) (by decide) rfl (fun ls hl => ?_)
        refine lv_goto (tgt := 10) hx hb dB_36_0_5.2.1.2.1 (by decide) ?_
        exact ih_4 y_83 M_82 _ _ _ (by omega) (by first | with_reducible assumption | omega | assumption) (by first | with_reducible assumption | omega | assumption) (by first | exact cp_st eM_82 v2_4 (by assumption) (by decide) (by omega) | (intro x y hx; omega)) ⟨hP, hD⟩ hS (lv_sub hl [0, 1, 2, 3] rfl)
      · refine lv_aload_n hx hb dB_36_0_4.2.1.2.2 rfl (lv_at hl 1 rfl) ?_
        refine va_get (ci := 0) (v := .ref clo) (C := RX0) (T := TX0) (N := 9) hx hb hts (fun _ h => List.mem_cons_of_mem _ (List.mem_append_left _ (List.mem_append_right _ h))) hown hK.1 hP 0 rfl rfl 2 (by decide) (hts (.fieldLink RX0 11 "CutAtlas$Current" "lets" "[[I") (List.mem_of_getElem? (i := 4) rfl)) (fun _ h9 => h9) rfl dB_36_0_4.2.2.1.1 ?_
        refine lv_iload_n hx hb dB_36_0_4.2.2.1.2 rfl (lv_at hl 0 rfl) ?_
        have h_84 : vp_in (7 : Int32) 12 := by unfold vp_in; decide
        refine va_alda hx hb hG hP 4 rfl (i := 7) h_84 dB_36_0_4.2.2.2.1 ?_
        refine lv_topv (v' := .ref (rl 7)) (gf_at h_84) ?_
        refine lv_iconst (v := 0) hx hb dB_36_0_4.2.2.2.2 (by decide) ?_
        refine lv_aload_n hx hb dB_36_0_5.1.1.1.1 rfl (lv_at hl 1 rfl) ?_
        refine va_get (ci := 0) (v := .ref cro) (C := RX0) (T := TX0) (N := 9) hx hb hts (fun _ h => List.mem_cons_of_mem _ (List.mem_append_left _ (List.mem_append_right _ h))) hown hK.1 hP 0 rfl rfl 3 (by decide) (hts (.fieldLink RX0 16 "CutAtlas$Current" "room" "[[I") (List.mem_of_getElem? (i := 5) rfl)) (fun _ h9 => h9) rfl dB_36_0_5.1.1.1.2 ?_
        refine lv_iload_n hx hb dB_36_0_5.1.1.2.1 rfl (lv_at hl 0 rfl) ?_
        refine va_alda hx hb hG hP 17 rfl (i := 7) h_84 dB_36_0_5.1.1.2.2 ?_
        refine lv_topv (v' := .ref (rr 7)) (gf_at h_84) ?_
        refine lv_iconst (v := 0) hx hb dB_36_0_5.1.2.1.1 (by decide) ?_
        refine lv_aload_n hx hb dB_36_0_5.1.2.1.2 rfl (lv_at hl 1 rfl) ?_
        refine va_get (ci := 0) (v := .ref xn) (C := RX0) (T := TX0) (N := 9) hx hb hts (fun _ h => List.mem_cons_of_mem _ (List.mem_append_left _ (List.mem_append_right _ h))) hown hK.1 hP 0 rfl rfl 0 (by decide) (hts (.fieldLink RX0 35 "CutAtlas$Current" "net" "LCutAtlas$Net;") (List.mem_of_getElem? (i := 2) rfl)) (fun _ h9 => h9) rfl dB_36_0_5.1.2.2.1 ?_
        refine va_get (ci := 3) (v := .int vp) (C := RX3) (T := TX3) (N := 7) hx hb hts (fun _ h => List.mem_cons_of_mem _ (List.mem_append_right _ h)) hown hK.1 hP 1 rfl rfl 0 (by decide) (hts (.fieldLink RX0 43 "CutAtlas$Net" "places" "I") (List.mem_of_getElem? (i := 3) rfl)) (fun _ h9 => h9) rfl dB_36_0_5.1.2.2.2 ?_
        have cl_86 := clI (i := vp) (by omega)
        have cl_87 := clI (i := (0 : Int32)) (by omega)
        refine va_copyi hx hb (by rw [hml]; exact hl.1.symm) hown (hts (.methodLink RX0 83 arraycopyName) (List.mem_of_getElem? (i := 6) rfl)) (hts (.native arraycopyName) (List.mem_of_getElem? (i := 7) rfl)) (hts (.static arraycopyName) (List.mem_of_getElem? (i := 8) rfl)) (hts (.initialized "java/lang/System") (List.mem_of_getElem? (i := 9) rfl)) hK.1 hP hD hS 12 25 0 0 rfl rfl rfl rfl rfl (sp := (0 : Int32)) (dp := (0 : Int32)) (n := vp) (nneg (by omega)) (nneg (by omega)) (nneg (by omega)) (by omega) (by omega) (fun i h => rfl) (Nat.le_of_ble_eq_true rfl) (Nat.le_of_ble_eq_true rfl) dB_36_0_5.2.1.1.1 (fun H locs hP hD hS => ?_)
        obtain ⟨f_88, ef_88⟩ : ∃ g : Nat → Int32, g = va_cpy (Ml 7) (m_rr_4 7) (0 : Int32).toNatClampNeg (0 : Int32).toNatClampNeg vp.toNatClampNeg := ⟨_, rfl⟩
        refine pd_K (D := D) (cl := vwCl) (H := H) (A := A) [ob0_0_ xc xn xk clo cro c4 c5 c6 c7 c8, ob3_0_ xn vp vn n1 n2 n3 n4 n5, ai_ cy n2 40 fs, ai_ cy n3 40 fe, aq_ cy 6 clo 12 (gf_ rl), ai_ cy (rl 0) 12 (Ml 0), ai_ cy (rl 1) 12 (Ml 1), ai_ cy (rl 2) 12 (Ml 2), ai_ cy (rl 3) 12 (Ml 3), ai_ cy (rl 4) 12 (Ml 4), ai_ cy (rl 5) 12 (Ml 5), ai_ cy (rl 6) 12 (Ml 6), ai_ cy (rl 7) 12 (Ml 7), ai_ cy (rl 8) 12 (Ml 8), ai_ cy (rl 9) 12 (Ml 9), ai_ cy (rl 10) 12 (Ml 10), ai_ cy (rl 11) 12 (Ml 11), aq_ cy 6 cro 12 (gf_ rr), ai_ cy (rr 0) 12 (m_rr_4 0), ai_ cy (rr 1) 12 (m_rr_4 1), ai_ cy (rr 2) 12 (m_rr_4 2), ai_ cy (rr 3) 12 (m_rr_4 3), ai_ cy (rr 4) 12 (m_rr_4 4), ai_ cy (rr 5) 12 (m_rr_4 5), ai_ cy (rr 6) 12 (m_rr_4 6), ai_ cy (rr 7) 12 f_88, ai_ cy (rr 8) 12 (m_rr_4 8), ai_ cy (rr 9) 12 (m_rr_4 9), ai_ cy (rr 10) 12 (m_rr_4 10), ai_ cy (rr 11) 12 (m_rr_4 11), ai_ cy c4 40 e1_2, ai_ cy c5 40 f5, ai_ cy c6 40 f6, ai_ cy c7 12 f7, ai_ cy c8 12 f8] (by rw [ef_88]; exact hP) (by rw [ef_88]; exact hD) (fun hP hD => ?_)
        obtain ⟨M_89, eM_89⟩ : ∃ g : Nat → Nat → Int32, g = va_up m_rr_4 7 f_88 := ⟨_, rfl⟩
        refine pd_K (D := D) (cl := vwCl) (H := H) (A := A) [ob0_0_ xc xn xk clo cro c4 c5 c6 c7 c8, ob3_0_ xn vp vn n1 n2 n3 n4 n5, ai_ cy n2 40 fs, ai_ cy n3 40 fe, aq_ cy 6 clo 12 (gf_ rl), ai_ cy (rl 0) 12 (Ml 0), ai_ cy (rl 1) 12 (Ml 1), ai_ cy (rl 2) 12 (Ml 2), ai_ cy (rl 3) 12 (Ml 3), ai_ cy (rl 4) 12 (Ml 4), ai_ cy (rl 5) 12 (Ml 5), ai_ cy (rl 6) 12 (Ml 6), ai_ cy (rl 7) 12 (Ml 7), ai_ cy (rl 8) 12 (Ml 8), ai_ cy (rl 9) 12 (Ml 9), ai_ cy (rl 10) 12 (Ml 10), ai_ cy (rl 11) 12 (Ml 11), aq_ cy 6 cro 12 (gf_ rr), ai_ cy (rr 0) 12 (M_89 0), ai_ cy (rr 1) 12 (M_89 1), ai_ cy (rr 2) 12 (M_89 2), ai_ cy (rr 3) 12 (M_89 3), ai_ cy (rr 4) 12 (M_89 4), ai_ cy (rr 5) 12 (M_89 5), ai_ cy (rr 6) 12 (M_89 6), ai_ cy (rr 7) 12 (M_89 7), ai_ cy (rr 8) 12 (M_89 8), ai_ cy (rr 9) 12 (M_89 9), ai_ cy (rr 10) 12 (M_89 10), ai_ cy (rr 11) 12 (M_89 11), ai_ cy c4 40 e1_2, ai_ cy c5 40 f5, ai_ cy c6 40 f6, ai_ cy c7 12 f7, ai_ cy c8 12 f8] (by rw [eM_89]; exact hP) (by rw [eM_89]; exact hD) (fun hP hD => ?_)
        obtain ⟨y_90, ey_90⟩ : ∃ y : Int32, y = (7 : Int32) + 1 := ⟨_, rfl⟩
        have ty_90 : y_90.toInt = (7 : Int32).toInt + (1 : Int32).toInt := by rw [ey_90]; exact addI (by omega) (by omega)
        refine lv_iinc (v := y_90) (lv' := [(3, .int y_90), (0, .ref xc), (1, .int a1), (2, .int a2)]) hx hb dB_36_0_5.2.1.1.2 hl (k := 0) rfl (by rw [ey_90]; rfl) (by decide) rfl (fun ls hl => ?_)
        refine lv_goto (tgt := 10) hx hb dB_36_0_5.2.1.2.1 (by decide) ?_
        exact ih_4 y_90 M_89 _ _ _ (by omega) (by first | with_reducible assumption | omega | assumption) (by first | with_reducible assumption | omega | assumption) (by first | exact cp_st eM_89 v2_4 (by assumption) (by decide) (by omega) | (intro x y hx; omega)) ⟨hP, hD⟩ hS (lv_sub hl [0, 1, 2, 3] rfl)
      · refine lv_aload_n hx hb dB_36_0_4.2.1.2.2 rfl (lv_at hl 1 rfl) ?_
        refine va_get (ci := 0) (v := .ref clo) (C := RX0) (T := TX0) (N := 9) hx hb hts (fun _ h => List.mem_cons_of_mem _ (List.mem_append_left _ (List.mem_append_right _ h))) hown hK.1 hP 0 rfl rfl 2 (by decide) (hts (.fieldLink RX0 11 "CutAtlas$Current" "lets" "[[I") (List.mem_of_getElem? (i := 4) rfl)) (fun _ h9 => h9) rfl dB_36_0_4.2.2.1.1 ?_
        refine lv_iload_n hx hb dB_36_0_4.2.2.1.2 rfl (lv_at hl 0 rfl) ?_
        have h_91 : vp_in (8 : Int32) 12 := by unfold vp_in; decide
        refine va_alda hx hb hG hP 4 rfl (i := 8) h_91 dB_36_0_4.2.2.2.1 ?_
        refine lv_topv (v' := .ref (rl 8)) (gf_at h_91) ?_
        refine lv_iconst (v := 0) hx hb dB_36_0_4.2.2.2.2 (by decide) ?_
        refine lv_aload_n hx hb dB_36_0_5.1.1.1.1 rfl (lv_at hl 1 rfl) ?_
        refine va_get (ci := 0) (v := .ref cro) (C := RX0) (T := TX0) (N := 9) hx hb hts (fun _ h => List.mem_cons_of_mem _ (List.mem_append_left _ (List.mem_append_right _ h))) hown hK.1 hP 0 rfl rfl 3 (by decide) (hts (.fieldLink RX0 16 "CutAtlas$Current" "room" "[[I") (List.mem_of_getElem? (i := 5) rfl)) (fun _ h9 => h9) rfl dB_36_0_5.1.1.1.2 ?_
        refine lv_iload_n hx hb dB_36_0_5.1.1.2.1 rfl (lv_at hl 0 rfl) ?_
        refine va_alda hx hb hG hP 17 rfl (i := 8) h_91 dB_36_0_5.1.1.2.2 ?_
        refine lv_topv (v' := .ref (rr 8)) (gf_at h_91) ?_
        refine lv_iconst (v := 0) hx hb dB_36_0_5.1.2.1.1 (by decide) ?_
        refine lv_aload_n hx hb dB_36_0_5.1.2.1.2 rfl (lv_at hl 1 rfl) ?_
        refine va_get (ci := 0) (v := .ref xn) (C := RX0) (T := TX0) (N := 9) hx hb hts (fun _ h => List.mem_cons_of_mem _ (List.mem_append_left _ (List.mem_append_right _ h))) hown hK.1 hP 0 rfl rfl 0 (by decide) (hts (.fieldLink RX0 35 "CutAtlas$Current" "net" "LCutAtlas$Net;") (List.mem_of_getElem? (i := 2) rfl)) (fun _ h9 => h9) rfl dB_36_0_5.1.2.2.1 ?_
        refine va_get (ci := 3) (v := .int vp) (C := RX3) (T := TX3) (N := 7) hx hb hts (fun _ h => List.mem_cons_of_mem _ (List.mem_append_right _ h)) hown hK.1 hP 1 rfl rfl 0 (by decide) (hts (.fieldLink RX0 43 "CutAtlas$Net" "places" "I") (List.mem_of_getElem? (i := 3) rfl)) (fun _ h9 => h9) rfl dB_36_0_5.1.2.2.2 ?_
        have cl_93 := clI (i := vp) (by omega)
        have cl_94 := clI (i := (0 : Int32)) (by omega)
        refine va_copyi hx hb (by rw [hml]; exact hl.1.symm) hown (hts (.methodLink RX0 83 arraycopyName) (List.mem_of_getElem? (i := 6) rfl)) (hts (.native arraycopyName) (List.mem_of_getElem? (i := 7) rfl)) (hts (.static arraycopyName) (List.mem_of_getElem? (i := 8) rfl)) (hts (.initialized "java/lang/System") (List.mem_of_getElem? (i := 9) rfl)) hK.1 hP hD hS 13 26 0 0 rfl rfl rfl rfl rfl (sp := (0 : Int32)) (dp := (0 : Int32)) (n := vp) (nneg (by omega)) (nneg (by omega)) (nneg (by omega)) (by omega) (by omega) (fun i h => rfl) (Nat.le_of_ble_eq_true rfl) (Nat.le_of_ble_eq_true rfl) dB_36_0_5.2.1.1.1 (fun H locs hP hD hS => ?_)
        obtain ⟨f_95, ef_95⟩ : ∃ g : Nat → Int32, g = va_cpy (Ml 8) (m_rr_4 8) (0 : Int32).toNatClampNeg (0 : Int32).toNatClampNeg vp.toNatClampNeg := ⟨_, rfl⟩
        refine pd_K (D := D) (cl := vwCl) (H := H) (A := A) [ob0_0_ xc xn xk clo cro c4 c5 c6 c7 c8, ob3_0_ xn vp vn n1 n2 n3 n4 n5, ai_ cy n2 40 fs, ai_ cy n3 40 fe, aq_ cy 6 clo 12 (gf_ rl), ai_ cy (rl 0) 12 (Ml 0), ai_ cy (rl 1) 12 (Ml 1), ai_ cy (rl 2) 12 (Ml 2), ai_ cy (rl 3) 12 (Ml 3), ai_ cy (rl 4) 12 (Ml 4), ai_ cy (rl 5) 12 (Ml 5), ai_ cy (rl 6) 12 (Ml 6), ai_ cy (rl 7) 12 (Ml 7), ai_ cy (rl 8) 12 (Ml 8), ai_ cy (rl 9) 12 (Ml 9), ai_ cy (rl 10) 12 (Ml 10), ai_ cy (rl 11) 12 (Ml 11), aq_ cy 6 cro 12 (gf_ rr), ai_ cy (rr 0) 12 (m_rr_4 0), ai_ cy (rr 1) 12 (m_rr_4 1), ai_ cy (rr 2) 12 (m_rr_4 2), ai_ cy (rr 3) 12 (m_rr_4 3), ai_ cy (rr 4) 12 (m_rr_4 4), ai_ cy (rr 5) 12 (m_rr_4 5), ai_ cy (rr 6) 12 (m_rr_4 6), ai_ cy (rr 7) 12 (m_rr_4 7), ai_ cy (rr 8) 12 f_95, ai_ cy (rr 9) 12 (m_rr_4 9), ai_ cy (rr 10) 12 (m_rr_4 10), ai_ cy (rr 11) 12 (m_rr_4 11), ai_ cy c4 40 e1_2, ai_ cy c5 40 f5, ai_ cy c6 40 f6, ai_ cy c7 12 f7, ai_ cy c8 12 f8] (by rw [ef_95]; exact hP) (by rw [ef_95]; exact hD) (fun hP hD => ?_)
        obtain ⟨M_96, eM_96⟩ : ∃ g : Nat → Nat → Int32, g = va_up m_rr_4 8 f_95 := ⟨_, rfl⟩
        refine pd_K (D := D) (cl := vwCl) (H := H) (A := A) [ob0_0_ xc xn xk clo cro c4 c5 c6 c7 c8, ob3_0_ xn vp vn n1 n2 n3 n4 n5, ai_ cy n2 40 fs, ai_ cy n3 40 fe, aq_ cy 6 clo 12 (gf_ rl), ai_ cy (rl 0) 12 (Ml 0), ai_ cy (rl 1) 12 (Ml 1), ai_ cy (rl 2) 12 (Ml 2), ai_ cy (rl 3) 12 (Ml 3), ai_ cy (rl 4) 12 (Ml 4), ai_ cy (rl 5) 12 (Ml 5), ai_ cy (rl 6) 12 (Ml 6), ai_ cy (rl 7) 12 (Ml 7), ai_ cy (rl 8) 12 (Ml 8), ai_ cy (rl 9) 12 (Ml 9), ai_ cy (rl 10) 12 (Ml 10), ai_ cy (rl 11) 12 (Ml 11), aq_ cy 6 cro 12 (gf_ rr), ai_ cy (rr 0) 12 (M_96 0), ai_ cy (rr 1) 12 (M_96 1), ai_ cy (rr 2) 12 (M_96 2), ai_ cy (rr 3) 12 (M_96 3), ai_ cy (rr 4) 12 (M_96 4), ai_ cy (rr 5) 12 (M_96 5), ai_ cy (rr 6) 12 (M_96 6), ai_ cy (rr 7) 12 (M_96 7), ai_ cy (rr 8) 12 (M_96 8), ai_ cy (rr 9) 12 (M_96 9), ai_ cy (rr 10) 12 (M_96 10), ai_ cy (rr 11) 12 (M_96 11), ai_ cy c4 40 e1_2, ai_ cy c5 40 f5, ai_ cy c6 40 f6, ai_ cy c7 12 f7, ai_ cy c8 12 f8] (by rw [eM_96]; exact hP) (by rw [eM_96]; exact hD) (fun hP hD => ?_)
        obtain ⟨y_97, ey_97⟩ : ∃ y : Int32, y = (8 : Int32) + 1 := ⟨_, rfl⟩
        have ty_97 : y_97.toInt = (8 : Int32).toInt + (1 : Int32).toInt := by rw [ey_97]; exact addI (by omega) (by omega)
        refine lv_iinc (v := y_97) (lv' := [(3, .int y_97), (0, .ref xc), (1, .int a1), (2, .int a2)]) hx hb dB_36_0_5.2.1.1.2 hl (k := 0) rfl (by rw [ey_97]; rfl) (by decide) rfl (fun ls hl => ?_)
        refine lv_goto (tgt := 10) hx hb dB_36_0_5.2.1.2.1 (by decide) ?_
        exact ih_4 y_97 M_96 _ _ _ (by omega) (by first | with_reducible assumption | omega | assumption) (by first | with_reducible assumption | omega | assumption) (by first | exact cp_st eM_96 v2_4 (by assumption) (by decide) (by omega) | (intro x y hx; omega)) ⟨hP, hD⟩ hS (lv_sub hl [0, 1, 2, 3] rfl)
      · refine lv_aload_n hx hb dB_36_0_4.2.1.2.2 rfl (lv_at hl 1 rfl) ?_
        refine va_get (ci := 0) (v := .ref clo) (C := RX0) (T := TX0) (N := 9) hx hb hts (fun _ h => List.mem_cons_of_mem _ (List.mem_append_left _ (List.mem_append_right _ h))) hown hK.1 hP 0 rfl rfl 2 (by decide) (hts (.fieldLink RX0 11 "CutAtlas$Current" "lets" "[[I") (List.mem_of_getElem? (i := 4) rfl)) (fun _ h9 => h9) rfl dB_36_0_4.2.2.1.1 ?_
        refine lv_iload_n hx hb dB_36_0_4.2.2.1.2 rfl (lv_at hl 0 rfl) ?_
        have h_98 : vp_in (9 : Int32) 12 := by unfold vp_in; decide
        refine va_alda hx hb hG hP 4 rfl (i := 9) h_98 dB_36_0_4.2.2.2.1 ?_
        refine lv_topv (v' := .ref (rl 9)) (gf_at h_98) ?_
        refine lv_iconst (v := 0) hx hb dB_36_0_4.2.2.2.2 (by decide) ?_
        refine lv_aload_n hx hb dB_36_0_5.1.1.1.1 rfl (lv_at hl 1 rfl) ?_
        refine va_get (ci := 0) (v := .ref cro) (C := RX0) (T := TX0) (N := 9) hx hb hts (fun _ h => List.mem_cons_of_mem _ (List.mem_append_left _ (List.mem_append_right _ h))) hown hK.1 hP 0 rfl rfl 3 (by decide) (hts (.fieldLink RX0 16 "CutAtlas$Current" "room" "[[I") (List.mem_of_getElem? (i := 5) rfl)) (fun _ h9 => h9) rfl dB_36_0_5.1.1.1.2 ?_
        refine lv_iload_n hx hb dB_36_0_5.1.1.2.1 rfl (lv_at hl 0 rfl) ?_
        refine va_alda hx hb hG hP 17 rfl (i := 9) h_98 dB_36_0_5.1.1.2.2 ?_
        refine lv_topv (v' := .ref (rr 9)) (gf_at h_98) ?_
        refine lv_iconst (v := 0) hx hb dB_36_0_5.1.2.1.1 (by decide) ?_
        refine lv_aload_n hx hb dB_36_0_5.1.2.1.2 rfl (lv_at hl 1 rfl) ?_
        refine va_get (ci := 0) (v := .ref xn) (C := RX0) (T := TX0) (N := 9) hx hb hts (fun _ h => List.mem_cons_of_mem _ (List.mem_append_left _ (List.mem_append_right _ h))) hown hK.1 hP 0 rfl rfl 0 (by decide) (hts (.fieldLink RX0 35 "CutAtlas$Current" "net" "LCutAtlas$Net;") (List.mem_of_getElem? (i := 2) rfl)) (fun _ h9 => h9) rfl dB_36_0_5.1.2.2.1 ?_
        refine va_get (ci := 3) (v := .int vp) (C := RX3) (T := TX3) (N := 7) hx hb hts (fun _ h => List.mem_cons_of_mem _ (List.mem_append_right _ h)) hown hK.1 hP 1 rfl rfl 0 (by decide) (hts (.fieldLink RX0 43 "CutAtlas$Net" "places" "I") (List.mem_of_getElem? (i := 3) rfl)) (fun _ h9 => h9) rfl dB_36_0_5.1.2.2.2 ?_
        have cl_100 := clI (i := vp) (by omega)
        have cl_101 := clI (i := (0 : Int32)) (by omega)
        refine va_copyi hx hb (by rw [hml]; exact hl.1.symm) hown (hts (.methodLink RX0 83 arraycopyName) (List.mem_of_getElem? (i := 6) rfl)) (hts (.native arraycopyName) (List.mem_of_getElem? (i := 7) rfl)) (hts (.static arraycopyName) (List.mem_of_getElem? (i := 8) rfl)) (hts (.initialized "java/lang/System") (List.mem_of_getElem? (i := 9) rfl)) hK.1 hP hD hS 14 27 0 0 rfl rfl rfl rfl rfl (sp := (0 : Int32)) (dp := (0 : Int32)) (n := vp) (nneg (by omega)) (nneg (by omega)) (nneg (by omega)) (by omega) (by omega) (fun i h => rfl) (Nat.le_of_ble_eq_true rfl) (Nat.le_of_ble_eq_true rfl) dB_36_0_5.2.1.1.1 (fun H locs hP hD hS => ?_)
        obtain ⟨f_102, ef_102⟩ : ∃ g : Nat → Int32, g = va_cpy (Ml 9) (m_rr_4 9) (0 : Int32).toNatClampNeg (0 : Int32).toNatClampNeg vp.toNatClampNeg := ⟨_, rfl⟩
        refine pd_K (D := D) (cl := vwCl) (H := H) (A := A) [ob0_0_ xc xn xk clo cro c4 c5 c6 c7 c8, ob3_0_ xn vp vn n1 n2 n3 n4 n5, ai_ cy n2 40 fs, ai_ cy n3 40 fe, aq_ cy 6 clo 12 (gf_ rl), ai_ cy (rl 0) 12 (Ml 0), ai_ cy (rl 1) 12 (Ml 1), ai_ cy (rl 2) 12 (Ml 2), ai_ cy (rl 3) 12 (Ml 3), ai_ cy (rl 4) 12 (Ml 4), ai_ cy (rl 5) 12 (Ml 5), ai_ cy (rl 6) 12 (Ml 6), ai_ cy (rl 7) 12 (Ml 7), ai_ cy (rl 8) 12 (Ml 8), ai_ cy (rl 9) 12 (Ml 9), ai_ cy (rl 10) 12 (Ml 10), ai_ cy (rl 11) 12 (Ml 11), aq_ cy 6 cro 12 (gf_ rr), ai_ cy (rr 0) 12 (m_rr_4 0), ai_ cy (rr 1) 12 (m_rr_4 1), ai_ cy (rr 2) 12 (m_rr_4 2), ai_ cy (rr 3) 12 (m_rr_4 3), ai_ cy (rr 4) 12 (m_rr_4 4), ai_ cy (rr 5) 12 (m_rr_4 5), ai_ cy (rr 6) 12 (m_rr_4 6), ai_ cy (rr 7) 12 (m_rr_4 7), ai_ cy (rr 8) 12 (m_rr_4 8), ai_ cy (rr 9) 12 f_102, ai_ cy (rr 10) 12 (m_rr_4 10), ai_ cy (rr 11) 12 (m_rr_4 11), ai_ cy c4 40 e1_2, ai_ cy c5 40 f5, ai_ cy c6 40 f6, ai_ cy c7 12 f7, ai_ cy c8 12 f8] (by rw [ef_102]; exact hP) (by rw [ef_102]; exact hD) (fun hP hD => ?_)
        obtain ⟨M_103, eM_103⟩ : ∃ g : Nat → Nat → Int32, g = va_up m_rr_4 9 f_102 := ⟨_, rfl⟩
        refine pd_K (D := D) (cl := vwCl) (H := H) (A := A) [ob0_0_ xc xn xk clo cro c4 c5 c6 c7 c8, ob3_0_ xn vp vn n1 n2 n3 n4 n5, ai_ cy n2 40 fs, ai_ cy n3 40 fe, aq_ cy 6 clo 12 (gf_ rl), ai_ cy (rl 0) 12 (Ml 0), ai_ cy (rl 1) 12 (Ml 1), ai_ cy (rl 2) 12 (Ml 2), ai_ cy (rl 3) 12 (Ml 3), ai_ cy (rl 4) 12 (Ml 4), ai_ cy (rl 5) 12 (Ml 5), ai_ cy (rl 6) 12 (Ml 6), ai_ cy (rl 7) 12 (Ml 7), ai_ cy (rl 8) 12 (Ml 8), ai_ cy (rl 9) 12 (Ml 9), ai_ cy (rl 10) 12 (Ml 10), ai_ cy (rl 11) 12 (Ml 11), aq_ cy 6 cro 12 (gf_ rr), ai_ cy (rr 0) 12 (M_103 0), ai_ cy (rr 1) 12 (M_103 1), ai_ cy (rr 2) 12 (M_103 2), ai_ cy (rr 3) 12 (M_103 3), ai_ cy (rr 4) 12 (M_103 4), ai_ cy (rr 5) 12 (M_103 5), ai_ cy (rr 6) 12 (M_103 6), ai_ cy (rr 7) 12 (M_103 7), ai_ cy (rr 8) 12 (M_103 8), ai_ cy (rr 9) 12 (M_103 9), ai_ cy (rr 10) 12 (M_103 10), ai_ cy (rr 11) 12 (M_103 11), ai_ cy c4 40 e1_2, ai_ cy c5 40 f5, ai_ cy c6 40 f6, ai_ cy c7 12 f7, ai_ cy c8 12 f8] (by rw [eM_103]; exact hP) (by rw [eM_103]; exact hD) (fun hP hD => ?_)
        obtain ⟨y_104, ey_104⟩ : ∃ y : Int32, y = (9 : Int32) + 1 := ⟨_, rfl⟩
        have ty_104 : y_104.toInt = (9 : Int32).toInt + (1 : Int32).toInt := by rw [ey_104]; exact addI (by omega) (by omega)
        refine lv_iinc (v := y_104) (lv' := [(3, .int y_104), (0, .ref xc), (1, .int a1), (2, .int a2)]) hx hb dB_36_0_5.2.1.1.2 hl (k := 0) rfl (by rw [ey_104]; rfl) (by decide) rfl (fun ls hl => ?_)
        refine lv_goto (tgt := 10) hx hb dB_36_0_5.2.1.2.1 (by decide) ?_
        exact ih_4 y_104 M_103 _ _ _ (by omega) (by first | with_reducible assumption | omega | assumption) (by first | with_reducible assumption | omega | assumption) (by first | exact cp_st eM_103 v2_4 (by assumption) (by decide) (by omega) | (intro x y hx; omega)) ⟨hP, hD⟩ hS (lv_sub hl [0, 1, 2, 3] rfl)
      · refine lv_aload_n hx hb dB_36_0_4.2.1.2.2 rfl (lv_at hl 1 rfl) ?_
        refine va_get (ci := 0) (v := .ref clo) (C := RX0) (T := TX0) (N := 9) hx hb hts (fun _ h => List.mem_cons_of_mem _ (List.mem_append_left _ (List.mem_append_right _ h))) hown hK.1 hP 0 rfl rfl 2 (by decide) (hts (.fieldLink RX0 11 "CutAtlas$Current" "lets" "[[I") (List.mem_of_getElem? (i := 4) rfl)) (fun _ h9 => h9) rfl dB_36_0_4.2.2.1.1 ?_
        refine lv_iload_n hx hb dB_36_0_4.2.2.1.2 rfl (lv_at hl 0 rfl) ?_
        have h_105 : vp_in (10 : Int32) 12 := by unfold vp_in; decide
        refine va_alda hx hb hG hP 4 rfl (i := 10) h_105 dB_36_0_4.2.2.2.1 ?_
        refine lv_topv (v' := .ref (rl 10)) (gf_at h_105) ?_
        refine lv_iconst (v := 0) hx hb dB_36_0_4.2.2.2.2 (by decide) ?_
        refine lv_aload_n hx hb dB_36_0_5.1.1.1.1 rfl (lv_at hl 1 rfl) ?_
        refine va_get (ci := 0) (v := .ref cro) (C := RX0) (T := TX0) (N := 9) hx hb hts (fun _ h => List.mem_cons_of_mem _ (List.mem_append_left _ (List.mem_append_right _ h))) hown hK.1 hP 0 rfl rfl 3 (by decide) (hts (.fieldLink RX0 16 "CutAtlas$Current" "room" "[[I") (List.mem_of_getElem? (i := 5) rfl)) (fun _ h9 => h9) rfl dB_36_0_5.1.1.1.2 ?_
        refine lv_iload_n hx hb dB_36_0_5.1.1.2.1 rfl (lv_at hl 0 rfl) ?_
        refine va_alda hx hb hG hP 17 rfl (i := 10) h_105 dB_36_0_5.1.1.2.2 ?_
        refine lv_topv (v' := .ref (rr 10)) (gf_at h_105) ?_
        refine lv_iconst (v := 0) hx hb dB_36_0_5.1.2.1.1 (by decide) ?_
        refine lv_aload_n hx hb dB_36_0_5.1.2.1.2 rfl (lv_at hl 1 rfl) ?_
        refine va_get (ci := 0) (v := .ref xn) (C := RX0) (T := TX0) (N := 9) hx hb hts (fun _ h => List.mem_cons_of_mem _ (List.mem_append_left _ (List.mem_append_right _ h))) hown hK.1 hP 0 rfl rfl 0 (by decide) (hts (.fieldLink RX0 35 "CutAtlas$Current" "net" "LCutAtlas$Net;") (List.mem_of_getElem? (i := 2) rfl)) (fun _ h9 => h9) rfl dB_36_0_5.1.2.2.1 ?_
        refine va_get (ci := 3) (v := .int vp) (C := RX3) (T := TX3) (N := 7) hx hb hts (fun _ h => List.mem_cons_of_mem _ (List.mem_append_right _ h)) hown hK.1 hP 1 rfl rfl 0 (by decide) (hts (.fieldLink RX0 43 "CutAtlas$Net" "places" "I") (List.mem_of_getElem? (i := 3) rfl)) (fun _ h9 => h9) rfl dB_36_0_5.1.2.2.2 ?_
        have cl_107 := clI (i := vp) (by omega)
        have cl_108 := clI (i := (0 : Int32)) (by omega)
        refine va_copyi hx hb (by rw [hml]; exact hl.1.symm) hown (hts (.methodLink RX0 83 arraycopyName) (List.mem_of_getElem? (i := 6) rfl)) (hts (.native arraycopyName) (List.mem_of_getElem? (i := 7) rfl)) (hts (.static arraycopyName) (List.mem_of_getElem? (i := 8) rfl)) (hts (.initialized "java/lang/System") (List.mem_of_getElem? (i := 9) rfl)) hK.1 hP hD hS 15 28 0 0 rfl rfl rfl rfl rfl (sp := (0 : Int32)) (dp := (0 : Int32)) (n := vp) (nneg (by omega)) (nneg (by omega)) (nneg (by omega)) (by omega) (by omega) (fun i h => rfl) (Nat.le_of_ble_eq_true rfl) (Nat.le_of_ble_eq_true rfl) dB_36_0_5.2.1.1.1 (fun H locs hP hD hS => ?_)
        obtain ⟨f_109, ef_109⟩ : ∃ g : Nat → Int32, g = va_cpy (Ml 10) (m_rr_4 10) (0 : Int32).toNatClampNeg (0 : Int32).toNatClampNeg vp.toNatClampNeg := ⟨_, rfl⟩
        refine pd_K (D := D) (cl := vwCl) (H := H) (A := A) [ob0_0_ xc xn xk clo cro c4 c5 c6 c7 c8, ob3_0_ xn vp vn n1 n2 n3 n4 n5, ai_ cy n2 40 fs, ai_ cy n3 40 fe, aq_ cy 6 clo 12 (gf_ rl), ai_ cy (rl 0) 12 (Ml 0), ai_ cy (rl 1) 12 (Ml 1), ai_ cy (rl 2) 12 (Ml 2), ai_ cy (rl 3) 12 (Ml 3), ai_ cy (rl 4) 12 (Ml 4), ai_ cy (rl 5) 12 (Ml 5), ai_ cy (rl 6) 12 (Ml 6), ai_ cy (rl 7) 12 (Ml 7), ai_ cy (rl 8) 12 (Ml 8), ai_ cy (rl 9) 12 (Ml 9), ai_ cy (rl 10) 12 (Ml 10), ai_ cy (rl 11) 12 (Ml 11), aq_ cy 6 cro 12 (gf_ rr), ai_ cy (rr 0) 12 (m_rr_4 0), ai_ cy (rr 1) 12 (m_rr_4 1), ai_ cy (rr 2) 12 (m_rr_4 2), ai_ cy (rr 3) 12 (m_rr_4 3), ai_ cy (rr 4) 12 (m_rr_4 4), ai_ cy (rr 5) 12 (m_rr_4 5), ai_ cy (rr 6) 12 (m_rr_4 6), ai_ cy (rr 7) 12 (m_rr_4 7), ai_ cy (rr 8) 12 (m_rr_4 8), ai_ cy (rr 9) 12 (m_rr_4 9), ai_ cy (rr 10) 12 f_109, ai_ cy (rr 11) 12 (m_rr_4 11), ai_ cy c4 40 e1_2, ai_ cy c5 40 f5, ai_ cy c6 40 f6, ai_ cy c7 12 f7, ai_ cy c8 12 f8] (by rw [ef_109]; exact hP) (by rw [ef_109]; exact hD) (fun hP hD => ?_)
        obtain ⟨M_110, eM_110⟩ : ∃ g : Nat → Nat → Int32, g = va_up m_rr_4 10 f_109 := ⟨_, rfl⟩
        refine pd_K (D := D) (cl := vwCl) (H := H) (A := A) [ob0_0_ xc xn xk clo cro c4 c5 c6 c7 c8, ob3_0_ xn vp vn n1 n2 n3 n4 n5, ai_ cy n2 40 fs, ai_ cy n3 40 fe, aq_ cy 6 clo 12 (gf_ rl), ai_ cy (rl 0) 12 (Ml 0), ai_ cy (rl 1) 12 (Ml 1), ai_ cy (rl 2) 12 (Ml 2), ai_ cy (rl 3) 12 (Ml 3), ai_ cy (rl 4) 12 (Ml 4), ai_ cy (rl 5) 12 (Ml 5), ai_ cy (rl 6) 12 (Ml 6), ai_ cy (rl 7) 12 (Ml 7), ai_ cy (rl 8) 12 (Ml 8), ai_ cy (rl 9) 12 (Ml 9), ai_ cy (rl 10) 12 (Ml 10), ai_ cy (rl 11) 12 (Ml 11), aq_ cy 6 cro 12 (gf_ rr), ai_ cy (rr 0) 12 (M_110 0), ai_ cy (rr 1) 12 (M_110 1), ai_ cy (rr 2) 12 (M_110 2), ai_ cy (rr 3) 12 (M_110 3), ai_ cy (rr 4) 12 (M_110 4), ai_ cy (rr 5) 12 (M_110 5), ai_ cy (rr 6) 12 (M_110 6), ai_ cy (rr 7) 12 (M_110 7), ai_ cy (rr 8) 12 (M_110 8), ai_ cy (rr 9) 12 (M_110 9), ai_ cy (rr 10) 12 (M_110 10), ai_ cy (rr 11) 12 (M_110 11), ai_ cy c4 40 e1_2, ai_ cy c5 40 f5, ai_ cy c6 40 f6, ai_ cy c7 12 f7, ai_ cy c8 12 f8] (by rw [eM_110]; exact hP) (by rw [eM_110]; exact hD) (fun hP hD => ?_)
        obtain ⟨y_111, ey_111⟩ : ∃ y : Int32, y = (10 : Int32) + 1 := ⟨_, rfl⟩
        have ty_111 : y_111.toInt = (10 : Int32).toInt + (1 : Int32).toInt := by rw [ey_111]; exact addI (by omega) (by omega)
        refine lv_iinc (v := y_111) (lv' := [(3, .int y_111), (0, .ref xc), (1, .int a1), (2, .int a2)]) hx hb dB_36_0_5.2.1.1.2 hl (k := 0) rfl (by rw [ey_111]; rfl) (by decide) rfl (fun ls hl => ?_)
        refine lv_goto (tgt := 10) hx hb dB_36_0_5.2.1.2.1 (by decide) ?_
        exact ih_4 y_111 M_110 _ _ _ (by omega) (by first | with_reducible assumption | omega | assumption) (by first | with_reducible assumption | omega | assumption) (by first | exact cp_st eM_110 v2_4 (by assumption) (by decide) (by omega) | (intro x y hx; omega)) ⟨hP, hD⟩ hS (lv_sub hl [0, 1, 2, 3] rfl)
      · refine lv_aload_n hx hb dB_36_0_4.2.1.2.2 rfl (lv_at hl 1 rfl) ?_
        refine va_get (ci := 0) (v := .ref clo) (C := RX0) (T := TX0) (N := 9) hx hb hts (fun _ h => List.mem_cons_of_mem _ (List.mem_append_left _ (List.mem_append_right _ h))) hown hK.1 hP 0 rfl rfl 2 (by decide) (hts (.fieldLink RX0 11 "CutAtlas$Current" "lets" "[[I") (List.mem_of_getElem? (i := 4) rfl)) (fun _ h9 => h9) rfl dB_36_0_4.2.2.1.1 ?_
        refine lv_iload_n hx hb dB_36_0_4.2.2.1.2 rfl (lv_at hl 0 rfl) ?_
        have h_112 : vp_in (11 : Int32) 12 := by unfold vp_in; decide
        refine va_alda hx hb hG hP 4 rfl (i := 11) h_112 dB_36_0_4.2.2.2.1 ?_
        refine lv_topv (v' := .ref (rl 11)) (gf_at h_112) ?_
        refine lv_iconst (v := 0) hx hb dB_36_0_4.2.2.2.2 (by decide) ?_
        refine lv_aload_n hx hb dB_36_0_5.1.1.1.1 rfl (lv_at hl 1 rfl) ?_
        refine va_get (ci := 0) (v := .ref cro) (C := RX0) (T := TX0) (N := 9) hx hb hts (fun _ h => List.mem_cons_of_mem _ (List.mem_append_left _ (List.mem_append_right _ h))) hown hK.1 hP 0 rfl rfl 3 (by decide) (hts (.fieldLink RX0 16 "CutAtlas$Current" "room" "[[I") (List.mem_of_getElem? (i := 5) rfl)) (fun _ h9 => h9) rfl dB_36_0_5.1.1.1.2 ?_
        refine lv_iload_n hx hb dB_36_0_5.1.1.2.1 rfl (lv_at hl 0 rfl) ?_
        refine va_alda hx hb hG hP 17 rfl (i := 11) h_112 dB_36_0_5.1.1.2.2 ?_
        refine lv_topv (v' := .ref (rr 11)) (gf_at h_112) ?_
        refine lv_iconst (v := 0) hx hb dB_36_0_5.1.2.1.1 (by decide) ?_
        refine lv_aload_n hx hb dB_36_0_5.1.2.1.2 rfl (lv_at hl 1 rfl) ?_
        refine va_get (ci := 0) (v := .ref xn) (C := RX0) (T := TX0) (N := 9) hx hb hts (fun _ h => List.mem_cons_of_mem _ (List.mem_append_left _ (List.mem_append_right _ h))) hown hK.1 hP 0 rfl rfl 0 (by decide) (hts (.fieldLink RX0 35 "CutAtlas$Current" "net" "LCutAtlas$Net;") (List.mem_of_getElem? (i := 2) rfl)) (fun _ h9 => h9) rfl dB_36_0_5.1.2.2.1 ?_
        refine va_get (ci := 3) (v := .int vp) (C := RX3) (T := TX3) (N := 7) hx hb hts (fun _ h => List.mem_cons_of_mem _ (List.mem_append_right _ h)) hown hK.1 hP 1 rfl rfl 0 (by decide) (hts (.fieldLink RX0 43 "CutAtlas$Net" "places" "I") (List.mem_of_getElem? (i := 3) rfl)) (fun _ h9 => h9) rfl dB_36_0_5.1.2.2.2 ?_
        have cl_114 := clI (i := vp) (by omega)
        have cl_115 := clI (i := (0 : Int32)) (by omega)
        refine va_copyi hx hb (by rw [hml]; exact hl.1.symm) hown (hts (.methodLink RX0 83 arraycopyName) (List.mem_of_getElem? (i := 6) rfl)) (hts (.native arraycopyName) (List.mem_of_getElem? (i := 7) rfl)) (hts (.static arraycopyName) (List.mem_of_getElem? (i := 8) rfl)) (hts (.initialized "java/lang/System") (List.mem_of_getElem? (i := 9) rfl)) hK.1 hP hD hS 16 29 0 0 rfl rfl rfl rfl rfl (sp := (0 : Int32)) (dp := (0 : Int32)) (n := vp) (nneg (by omega)) (nneg (by omega)) (nneg (by omega)) (by omega) (by omega) (fun i h => rfl) (Nat.le_of_ble_eq_true rfl) (Nat.le_of_ble_eq_true rfl) dB_36_0_5.2.1.1.1 (fun H locs hP hD hS => ?_)
        obtain ⟨f_116, ef_116⟩ : ∃ g : Nat → Int32, g = va_cpy (Ml 11) (m_rr_4 11) (0 : Int32).toNatClampNeg (0 : Int32).toNatClampNeg vp.toNatClampNeg := ⟨_, rfl⟩
        refine pd_K (D := D) (cl := vwCl) (H := H) (A := A) [ob0_0_ xc xn xk clo cro c4 c5 c6 c7 c8, ob3_0_ xn vp vn n1 n2 n3 n4 n5, ai_ cy n2 40 fs, ai_ cy n3 40 fe, aq_ cy 6 clo 12 (gf_ rl), ai_ cy (rl 0) 12 (Ml 0), ai_ cy (rl 1) 12 (Ml 1), ai_ cy (rl 2) 12 (Ml 2), ai_ cy (rl 3) 12 (Ml 3), ai_ cy (rl 4) 12 (Ml 4), ai_ cy (rl 5) 12 (Ml 5), ai_ cy (rl 6) 12 (Ml 6), ai_ cy (rl 7) 12 (Ml 7), ai_ cy (rl 8) 12 (Ml 8), ai_ cy (rl 9) 12 (Ml 9), ai_ cy (rl 10) 12 (Ml 10), ai_ cy (rl 11) 12 (Ml 11), aq_ cy 6 cro 12 (gf_ rr), ai_ cy (rr 0) 12 (m_rr_4 0), ai_ cy (rr 1) 12 (m_rr_4 1), ai_ cy (rr 2) 12 (m_rr_4 2), ai_ cy (rr 3) 12 (m_rr_4 3), ai_ cy (rr 4) 12 (m_rr_4 4), ai_ cy (rr 5) 12 (m_rr_4 5), ai_ cy (rr 6) 12 (m_rr_4 6), ai_ cy (rr 7) 12 (m_rr_4 7), ai_ cy (rr 8) 12 (m_rr_4 8), ai_ cy (rr 9) 12 (m_rr_4 9), ai_ cy (rr 10) 12 (m_rr_4 10), ai_ cy (rr 11) 12 f_116, ai_ cy c4 40 e1_2, ai_ cy c5 40 f5, ai_ cy c6 40 f6, ai_ cy c7 12 f7, ai_ cy c8 12 f8] (by rw [ef_116]; exact hP) (by rw [ef_116]; exact hD) (fun hP hD => ?_)
        obtain ⟨M_117, eM_117⟩ : ∃ g : Nat → Nat → Int32, g = va_up m_rr_4 11 f_116 := ⟨_, rfl⟩
        refine pd_K (D := D) (cl := vwCl) (H := H) (A := A) [ob0_0_ xc xn xk clo cro c4 c5 c6 c7 c8, ob3_0_ xn vp vn n1 n2 n3 n4 n5, ai_ cy n2 40 fs, ai_ cy n3 40 fe, aq_ cy 6 clo 12 (gf_ rl), ai_ cy (rl 0) 12 (Ml 0), ai_ cy (rl 1) 12 (Ml 1), ai_ cy (rl 2) 12 (Ml 2), ai_ cy (rl 3) 12 (Ml 3), ai_ cy (rl 4) 12 (Ml 4), ai_ cy (rl 5) 12 (Ml 5), ai_ cy (rl 6) 12 (Ml 6), ai_ cy (rl 7) 12 (Ml 7), ai_ cy (rl 8) 12 (Ml 8), ai_ cy (rl 9) 12 (Ml 9), ai_ cy (rl 10) 12 (Ml 10), ai_ cy (rl 11) 12 (Ml 11), aq_ cy 6 cro 12 (gf_ rr), ai_ cy (rr 0) 12 (M_117 0), ai_ cy (rr 1) 12 (M_117 1), ai_ cy (rr 2) 12 (M_117 2), ai_ cy (rr 3) 12 (M_117 3), ai_ cy (rr 4) 12 (M_117 4), ai_ cy (rr 5) 12 (M_117 5), ai_ cy (rr 6) 12 (M_117 6), ai_ cy (rr 7) 12 (M_117 7), ai_ cy (rr 8) 12 (M_117 8), ai_ cy (rr 9) 12 (M_117 9), ai_ cy (rr 10) 12 (M_117 10), ai_ cy (rr 11) 12 (M_117 11), ai_ cy c4 40 e1_2, ai_ cy c5 40 f5, ai_ cy c6 40 f6, ai_ cy c7 12 f7, ai_ cy c8 12 f8] (by rw [eM_117]; exact hP) (by rw [eM_117]; exact hD) (fun hP hD => ?_)
        obtain ⟨y_118, ey_118⟩ : ∃ y : Int32, y = (11 : Int32) + 1 := ⟨_, rfl⟩
        have ty_118 : y_118.toInt = (11 : Int32).toInt + (1 : Int32).toInt := by rw [ey_118]; exact addI (by omega) (by omega)
        refine lv_iinc (v := y_118) (lv' := [(3, .int y_118), (0, .ref xc), (1, .int a1), (2, .int a2)]) hx hb dB_36_0_5.2.1.1.2 hl (k := 0) rfl (by rw [ey_118]; rfl) (by decide) rfl (fun ls hl => ?_)
        refine lv_goto (tgt := 10) hx hb dB_36_0_5.2.1.2.1 (by decide) ?_
        exact ih_4 y_118 M_117 _ _ _ (by omega) (by first | with_reducible assumption | omega | assumption) (by first | with_reducible assumption | omega | assumption) (by first | exact cp_st eM_117 v2_4 (by assumption) (by decide) (by omega) | (intro x y hx; omega)) ⟨hP, hD⟩ hS (lv_sub hl [0, 1, 2, 3] rfl)
end
