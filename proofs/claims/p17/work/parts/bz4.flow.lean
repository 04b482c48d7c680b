section
/-! ===== searches and flows ===== -/
noncomputable def zM (M : Nat → Nat → Int32) (x y : Nat) : Int := (M x y).toInt
noncomputable def sep (s t : Nat) (S : Nat → Bool) : Prop := S s = true ∧ S t = false
/-- no room of B or more out of S -/
noncomputable def clsd (M : Nat → Nat → Int) (P : Nat) (B : Int) (S : Nat → Bool) : Prop := ∀ x y : Nat, x < P → y < P → S x = true → S y = false → M x y < B
/-- what is met from s by rooms of B or more -/
noncomputable def rchd (M : Nat → Nat → Int) (P : Nat) (B : Int) (s : Nat) (S : Nat → Bool) : Prop := S s = true ∧ clsd M P B S ∧ (∀ T : Nat → Bool, T s = true → clsd M P B T → ∀ y : Nat, S y = true → T y = true) ∧ ∀ y : Nat, S y = true → y < P
noncomputable def bfq (R : Nat → Nat → Prop) (P s : Nat) (met : Int32) (q : Nat → Int32) (n : Nat) : Prop := 0 < n ∧ nF q 0 = s ∧ (∀ i : Nat, i < n → nF q i < P ∧ bt met (nF q i) = true) ∧ (∀ y : Nat, bt met y = true → ∃ i : Nat, i < n ∧ nF q i = y) ∧ ∀ i : Nat, 0 < i → i < n → ∃ j : Nat, j < i ∧ R (nF q j) (nF q i)
/-- the places ahead of h in the queue are done -/
noncomputable def don (M : Nat → Nat → Int) (P : Nat) (B : Int) (met : Int32) (q : Nat → Int32) (h : Nat) : Prop := ∀ i : Nat, i < h → ∀ y : Nat, y < P → bt met y = false → M (nF q i) y < B
/-- the place x is done up to k -/
noncomputable def donY (M : Nat → Nat → Int) (B : Int) (met : Int32) (x k : Nat) : Prop := ∀ y : Nat, y < k → bt met y = false → M x y < B
noncomputable def rB (M : Nat → Nat → Int) (B : Int) (x y : Nat) : Prop := B ≤ M x y
noncomputable def rC (M : Nat → Nat → Int) (c : Nat → Int32) (x y : Nat) : Prop := nF c y = x ∧ 1 ≤ M x y
section BFS
variable {R R2 : Nat → Nat → Prop} {M : Nat → Nat → Int} {P s : Nat} {B : Int} {met met2 b y m m2 x : Int32} {q q2 f : Nat → Int32} {n h k : Nat}
theorem bt_hi {x : Int32} {i : Nat} (h : bt x i = true) : i < 32 := by
  rcases Nat.lt_or_ge i 32 with a | a
  · exact a
  · unfold bt at h
    rw [BitVec.getLsbD_of_ge _ _ a] at h
    cases h
theorem bfq_one {s0 : Int32} (e : f = upd q (0 : Int32).toNatClampNeg s0) (ex : met = (1 : Int32) <<< (s0 &&& 31)) (h0 : 0 ≤ s0.toInt) (h1 : s0.toInt ≤ 11) (hP : s0.toNatClampNeg < P) : bfq R P s0.toNatClampNeg met f (1 : Int32).toNatClampNeg := by
  have e0 : nF f 0 = s0.toNatClampNeg := by
    unfold nF
    rw [e, ← cl_0, pk_us]
  rw [cl_1]
  refine ⟨by omega, e0, fun i hi => ?_, fun y hy => ⟨0, by omega, ?_⟩, fun i h0 hi => by omega⟩
  · obtain rfl : i = 0 := by omega
    rw [e0, ex]
    exact ⟨hP, bt_one h0 h1⟩
  · rw [e0]
    rw [ex, bt_sh h0 (by omega) (bt_hi hy)] at hy
    exact (of_decide_eq_true hy).symm
theorem bfq_push (H : bfq R P s met q m.toNatClampNeg) (h0 : 0 ≤ y.toInt) (h1 : y.toInt ≤ 11) (hP : y.toNatClampNeg < P) (hm : 0 ≤ m.toInt) (eb : b = (1 : Int32) <<< (y &&& 31)) (ex : met2 = met ||| b) (eq : q2 = upd q m.toNatClampNeg y) (em : m2.toInt = m.toInt + 1) (hh : h < m.toNatClampNeg) (hR : ∀ u v : Nat, v ≠ y.toNatClampNeg → R u v → R2 u v) (hn : bt met y.toNatClampNeg = false) (hnew : R2 (nF q h) y.toNatClampNeg) : bfq R2 P s met2 q2 m2.toNatClampNeg := by
  have c := clI (i := m) hm
  have c2 := clI (i := m2) (by omega)
  rw [show m2.toNatClampNeg = m.toNatClampNeg + 1 by omega]
  have old : ∀ i : Nat, i < m.toNatClampNeg → nF q2 i = nF q i := fun i hi => by
    unfold nF
    rw [eq, pk_un (by omega)]
  have new : nF q2 m.toNatClampNeg = y.toNatClampNeg := by
    unfold nF
    rw [eq, pk_us]
  obtain ⟨a1, a2, a3, a4, a5⟩ := H
  refine ⟨by omega, by rw [old 0 a1]; exact a2, fun i hi => ?_, fun z hz => ?_, fun i g0 hi => ?_⟩
  · by_cases w : i < m.toNatClampNeg
    · rw [old i w, ex, b_or, (a3 i w).2]
      exact ⟨(a3 i w).1, rfl⟩
    · obtain rfl : i = m.toNatClampNeg := by omega
      rw [new, ex, b_or, eb, bt_one h0 h1, Bool.or_true]
      exact ⟨hP, rfl⟩
  · rw [ex, b_or, Bool.or_eq_true] at hz
    rcases hz with hz | hz
    · obtain ⟨i, hi, e⟩ := a4 z hz
      exact ⟨i, by omega, by rw [old i hi]; exact e⟩
    · rw [eb, bt_sh h0 (by omega) (bt_hi hz)] at hz
      exact ⟨m.toNatClampNeg, by omega, by rw [new]; exact (of_decide_eq_true hz).symm⟩
  · by_cases w : i < m.toNatClampNeg
    · obtain ⟨j, hj, r⟩ := a5 i g0 w
      refine ⟨j, hj, ?_⟩
      rw [old i w, old j (by omega)]
      refine hR _ _ (fun e => ?_) r
      rw [← e, (a3 i w).2] at hn
      cases hn
    · obtain rfl : i = m.toNatClampNeg := by omega
      refine ⟨h, hh, ?_⟩
      rw [new, old h hh]
      exact hnew
theorem don_push (H : don M P B met q h) (ex : met2 = met ||| b) (eq : q2 = upd q m.toNatClampNeg y) (hh : h ≤ m.toNatClampNeg) : don M P B met2 q2 h := fun i hi z hz hb => by
  have e : nF q2 i = nF q i := by
    unfold nF
    rw [eq, pk_un (by omega)]
  rw [e]
  refine H i hi z hz ?_
  rw [ex, b_or, Bool.or_eq_false_iff] at hb
  exact hb.1
theorem donY_push {xq : Nat} (H : donY M B met xq y.toNatClampNeg) (h0 : 0 ≤ y.toInt) (h1 : y.toInt ≤ 11) (eb : b = (1 : Int32) <<< (y &&& 31)) (ex : met2 = met ||| b) {y2 : Int32} (ey : y2.toInt = y.toInt + 1) : donY M B met2 xq y2.toNatClampNeg := fun z hz hb => by
  have c := clI (i := y) h0
  have c2 := clI (i := y2) (by omega)
  rw [ex, b_or, Bool.or_eq_false_iff] at hb
  by_cases e : z = y.toNatClampNeg
  · rw [e, eb, bt_one h0 h1] at hb
    cases hb.2
  · exact H z (by omega) hb.1
theorem donY_met {xq : Nat} (H : donY M B met xq y.toNatClampNeg) (h0 : 0 ≤ y.toInt) {y2 : Int32} (ey : y2.toInt = y.toInt + 1) (hb : bt met y.toNatClampNeg = true ∨ M xq y.toNatClampNeg < B) : donY M B met xq y2.toNatClampNeg := fun z hz hf => by
  have c := clI (i := y) h0
  have c2 := clI (i := y2) (by omega)
  by_cases e : z = y.toNatClampNeg
  · rw [e] at hf ⊢
    rcases hb with w | w
    · rw [w] at hf
      cases hf
    · exact w
  · exact H z (by omega) hf
theorem don_nx {i i2 L : Int32} {Pn : Int32} (H : don M Pn.toNatClampNeg B met q i.toNatClampNeg) (hy : donY M B met (nF q i.toNatClampNeg) L.toNatClampNeg) (hL : L.toInt = Pn.toInt) (hi : 0 ≤ i.toInt) (ei : i2.toInt = i.toInt + 1) : don M Pn.toNatClampNeg B met q i2.toNatClampNeg := fun j hj z hz hb => by
  have c := clI (i := i) hi
  have c2 := clI (i := i2) (by omega)
  have e : L = Pn := Int32.toInt_inj.mp hL
  by_cases w : j = i.toNatClampNeg
  · rw [w]
    exact hy z (by rw [e]; exact hz) hb
  · exact H j (by omega) z hz hb
theorem don_0 : don M P B met q (0 : Int32).toNatClampNeg := fun i hi => absurd hi (by rw [cl_0]; omega)
theorem donY_0 {xq : Nat} : donY M B met xq (0 : Int32).toNatClampNeg := fun i hi => absurd hi (by rw [cl_0]; omega)
theorem bfq_clsd (H : bfq R P s met q n) (hd : don M P B met q h) (hn : n ≤ h) : clsd M P B (bt met) := fun x y hx hy sx sy => by
  obtain ⟨i, hi, e⟩ := H.2.2.2.1 x sx
  rw [← e]
  exact hd i (by omega) y hy sy
theorem bfq_min (H : bfq (rB M B) P s met q n) {T : Nat → Bool} (h0 : T s = true) (hc : clsd M P B T) : ∀ y : Nat, bt met y = true → T y = true := fun y hy => by
  obtain ⟨a1, a2, a3, a4, a5⟩ := H
  have all : ∀ k i : Nat, i ≤ k → i < n → T (nF q i) = true := fun k => by
    induction k with
    | zero =>
      intro i hi _
      obtain rfl : i = 0 := by omega
      rw [a2]
      exact h0
    | succ k ih =>
      intro i hi hn
      rcases Nat.lt_or_ge i (k + 1) with w | w
      · exact ih i (by omega) hn
      · obtain ⟨j, hj, r⟩ := a5 i (by omega) hn
        have tj := ih j (by omega) (by omega)
        cases z : T (nF q i)
        · have g := hc _ _ (a3 j (by omega)).1 (a3 i hn).1 tj z
          have r2 : B ≤ M (nF q j) (nF q i) := r
          omega
        · rfl
  obtain ⟨i, hi, e⟩ := a4 y hy
  rw [← e]
  exact all i i (Nat.le_refl _) hi
theorem bfq_rchd (H : bfq (rB M B) P s met q n) (hd : don M P B met q h) (hn : n ≤ h) : rchd M P B s (bt met) := by
  refine ⟨?_, bfq_clsd H hd hn, fun T h0 hc => bfq_min H h0 hc, fun y hy => ?_⟩
  · have a := (H.2.2.1 0 H.1).2
    rw [H.2.1] at a
    exact a
  · obtain ⟨i, hi, e⟩ := H.2.2.2.1 y hy
    rw [← e]
    exact (H.2.2.1 i hi).1
end BFS
/-! ways back from t to s -/
noncomputable def wayA (M : Nat → Nat → Int) (c : Nat → Nat) (P s : Nat) (b : Int) : Nat → Nat → Prop
  | 0, y => y = s
  | n + 1, y => y ≠ s ∧ y < P ∧ c y < P ∧ b ≤ M (c y) y ∧ wayA M c P s b n (c y)
section WAY
variable {M M2 : Nat → Nat → Int} {c : Nat → Nat} {P s : Nat} {b b2 : Int}
theorem wayA_un : ∀ (n m y : Nat), wayA M c P s b n y → wayA M2 c P s b2 m y → n = m
  | 0, 0, _, _, _ => rfl
  | 0, _ + 1, _, h, h2 => absurd h h2.1
  | _ + 1, 0, _, h, h2 => absurd h2 h.1
  | n + 1, m + 1, y, h, h2 => by rw [wayA_un n m (c y) h.2.2.2.2 h2.2.2.2.2]
/-- the rest of the way does not meet y again -/
theorem wayA_keep {y : Nat} {N : Nat} (hy : wayA M c P s b N y) (hM : ∀ u v : Nat, v ≠ y → M u v ≤ M2 u v) : ∀ (n z : Nat), n < N → wayA M c P s b n z → wayA M2 c P s b n z
  | 0, _, _, h => h
  | n + 1, z, hn, h => by
    obtain ⟨a1, a2, a3, a4, a5⟩ := h
    have ne : z ≠ y := fun e => by
      rw [← e] at hy
      have := wayA_un (n + 1) N z ⟨a1, a2, a3, a4, a5⟩ hy
      omega
    exact ⟨a1, a2, a3, Int.le_trans a4 (hM _ _ ne), wayA_keep hy hM n _ (by omega) a5⟩
end WAY
/-- what findWay finds -/
theorem bfq_way {M : Nat → Nat → Int} {P s n : Nat} {met : Int32} {q c : Nat → Int32} (H : bfq (rC M c) P s met q n) (hq : mq met q n) : ∀ k i : Nat, i ≤ k → i < n → ∃ d : Nat, d ≤ i ∧ wayA M (nF c) P s 1 d (nF q i) := fun k => by
  obtain ⟨a1, a2, a3, a4, a5⟩ := H
  have ne : ∀ i : Nat, 0 < i → i < n → nF q i ≠ s := fun i h0 hn e => by
    have w := (hq i hn).2.2 0 h0
    have r0 := (hq 0 a1).1
    have ri := (hq i hn).1
    have c0 := clI (i := q 0) r0.1
    have ci := clI (i := q i) ri.1
    have e0 : nF q 0 = nF q i := a2.trans e.symm
    unfold nF at e0
    omega
  induction k with
  | zero =>
    intro i hi _
    obtain rfl : i = 0 := by omega
    exact ⟨0, Nat.le_refl _, a2⟩
  | succ k ih =>
    intro i hi hn
    rcases Nat.lt_or_ge i (k + 1) with w | w
    · exact ih i (by omega) hn
    · obtain ⟨j, hj, r1, r2⟩ := a5 i (by omega) hn
      obtain ⟨d, hd, w⟩ := ih j (by omega) (by omega)
      refine ⟨d + 1, by omega, ne i (by omega) hn, (a3 i hn).1, ?_, ?_, ?_⟩
      · rw [r1]
        exact (a3 j (by omega)).1
      · rw [r1]
        exact r2
      · rw [r1]
        exact w
/-! rooms -/
noncomputable def rmk (M : Nat → Nat → Int) (P : Nat) : Prop := ∀ x y : Nat, x < P → y < P → 0 ≤ M x y ∧ M x y + M y x ≤ 160000000
/-- a over x, y -/
noncomputable def edg (M M2 : Nat → Nat → Int) (x y : Nat) (a : Int) : Prop := ∀ u v : Nat, M2 u v = M u v + (if x = u ∧ y = v then -a else 0) + (if y = u ∧ x = v then a else 0)
noncomputable def dS (S : Nat → Bool) (a : Int) (z : Nat) : Int := if S z = true then a else 0
theorem outZ_cg {M M2 : Nat → Nat → Int} {S : Nat → Bool} {P : Nat} (h : ∀ x y : Nat, x < P → y < P → M x y = M2 x y) : outZ M S P = outZ M2 S P := by
  unfold outZ
  refine sumI_congr _ (fun x hx => ?_)
  have e : rowZ M S P x = rowZ M2 S P x := by
    unfold rowZ
    refine sumI_congr _ (fun y hy => ?_)
    try dsimp only
    rw [h x y hx hy]
  rw [e]
theorem edg_out {M M2 : Nat → Nat → Int} {S : Nat → Bool} {P x y : Nat} {a : Int} (h : edg M M2 x y a) (hx : x < P) (hy : y < P) : outZ M2 S P = outZ M S P + dS S a y - dS S a x := by
  rw [outZ_cg (fun u v _ _ => h u v), outZ_add (M := fun u v => M u v + (if x = u ∧ y = v then -a else 0)), outZ_add, outZ_one hx hy, outZ_one hy hx]
  unfold dS
  cases S x <;> cases S y <;> simp <;> omega
theorem edg_rmk {M M2 : Nat → Nat → Int} {P x y : Nat} {a : Int} (h : edg M M2 x y a) (hk : rmk M P) (h0 : 0 ≤ a) (ha : a ≤ M x y) : rmk M2 P := fun u v hu hv => by
  have k1 := hk u v hu hv
  have k2 := hk v u hv hu
  rw [h u v, h v u]
  have c1 : (y = v ∧ x = u) ↔ (x = u ∧ y = v) := And.comm
  have c2 : (x = v ∧ y = u) ↔ (y = u ∧ x = v) := And.comm
  by_cases p : x = u ∧ y = v
  · by_cases q : y = u ∧ x = v
    · rw [if_pos p, if_pos q, if_pos ⟨q.2, q.1⟩, if_pos ⟨p.2, p.1⟩]
      rw [p.1, p.2] at ha
      omega
    · rw [if_pos p, if_neg q, if_neg (fun w => q ⟨w.2, w.1⟩), if_pos ⟨p.2, p.1⟩]
      rw [p.1, p.2] at ha
      omega
  · by_cases q : y = u ∧ x = v
    · rw [if_neg p, if_pos q, if_pos ⟨q.2, q.1⟩, if_neg (fun w => p ⟨w.2, w.1⟩)]
      omega
    · rw [if_neg p, if_neg q, if_neg (fun w => q ⟨w.2, w.1⟩), if_neg (fun w => p ⟨w.2, w.1⟩)]
      omega
theorem edg_up {M M2 : Nat → Nat → Int} {x y : Nat} {a : Int} (h : edg M M2 x y a) (h0 : 0 ≤ a) : ∀ u v : Nat, v ≠ y → M u v ≤ M2 u v := fun u v hv => by
  rw [h u v, if_neg (fun w => hv w.2.symm)]
  split <;> omega
theorem outZ_nn {M : Nat → Nat → Int} {S : Nat → Bool} {P : Nat} (h : ∀ x y : Nat, x < P → y < P → 0 ≤ M x y) : 0 ≤ outZ M S P := by
  unfold outZ
  refine sumI_nn (fun x hx => ?_)
  try dsimp only
  split
  · exact rowZ_nn (fun y hy => h x y hx hy)
  · omega
theorem sumI_le1 {f : Nat → Int} {n k : Nat} (h : ∀ j : Nat, j < n → 0 ≤ f j) (hk : k < n) : f k ≤ sumI f n := by
  have a := sumI_mono (f := f) (n - (k + 1)) (k + 1) (fun j hj => h j (by omega))
  rw [show k + 1 + (n - (k + 1)) = n by omega] at a
  have b := sumI_nn (f := f) (n := k) (fun j hj => h j (by omega))
  have c : sumI f (k + 1) = sumI f k + f k := rfl
  omega
/-- one pair out of S -/
theorem outZ_pair {M : Nat → Nat → Int} {S : Nat → Bool} {P x y : Nat} (h : ∀ x y : Nat, x < P → y < P → 0 ≤ M x y) (hx : x < P) (hy : y < P) (sx : S x = true) (sy : S y = false) : M x y ≤ outZ M S P := by
  have nn : ∀ j : Nat, j < P → 0 ≤ (fun x => if S x = true then rowZ M S P x else 0) j := fun j hj => by
    try dsimp only
    split
    · exact rowZ_nn (fun y hy => h j y hj hy)
    · omega
  have a := sumI_le1 nn hx
  have a2 : rowZ M S P x ≤ outZ M S P := by
    rw [if_pos sx] at a
    exact a
  have nr : ∀ j : Nat, j < P → 0 ≤ (fun y => if S y = true then 0 else M x y) j := fun j hj => by
    try dsimp only
    split
    · omega
    · exact h x j hx hj
  have b := sumI_le1 nr hy
  rw [if_neg (show ¬ S y = true by rw [sy]; decide)] at b
  have b2 : M x y ≤ rowZ M S P x := b
  omega
theorem outZ_clsd {M : Nat → Nat → Int} {S : Nat → Bool} {P : Nat} (h : ∀ x y : Nat, x < P → y < P → 0 ≤ M x y) (hc : clsd M P 1 S) : outZ M S P = 0 := by
  unfold outZ
  refine (sumI_congr P (fun x hx => ?_)).trans (sumI_zero P)
  by_cases sx : S x = true
  · rw [if_pos sx]
    unfold rowZ
    refine (sumI_congr P (fun y hy => ?_)).trans (sumI_zero P)
    try dsimp only
    by_cases sy : S y = true
    · rw [if_pos sy]
    · rw [if_neg sy]
      have a := h x y hx hy
      have b := hc x y hx hy sx (by cases z : S y <;> simp_all)
      omega
  · rw [if_neg sx]
/-- what most answers: C the size of a cut -/
noncomputable def mostR (C : (Nat → Bool) → Int) (s t : Nat) (r : Int) : Prop := (r = -5 ∧ ∀ S : Nat → Bool, sep s t S → 1000000 ≤ C S) ∨ (0 ≤ r ∧ r < 1000000 ∧ (∃ S : Nat → Bool, sep s t S ∧ C S = r) ∧ ∀ S : Nat → Bool, sep s t S → r ≤ C S)
/-- room and total, underway -/
noncomputable def flw (L M : Nat → Nat → Int) (P s t : Nat) (r : Int) : Prop := rmk M P ∧ ∀ S : Nat → Bool, sep s t S → outZ M S P = outZ L S P - r
theorem flw_0 {L M : Nat → Nat → Int} {P s t : Nat} (h : ∀ x y : Nat, x < P → y < P → 0 ≤ L x y ∧ L x y ≤ 80000000) (e : ∀ x y : Nat, x < P → y < P → M x y = L x y) : flw L M P s t 0 := by
  refine ⟨fun x y hx hy => ?_, fun S _ => ?_⟩
  · have a := h x y hx hy
    have b := h y x hy hx
    rw [e x y hx hy, e y x hy hx]
    omega
  · rw [outZ_cg e]
    omega
theorem flw_bd {L M : Nat → Nat → Int} {P s t : Nat} {r B : Int} (h : flw L M P s t r) {S : Nat → Bool} (hs : sep s t S) (hB : outZ L S P ≤ B) : r ≤ B := by
  have a := h.2 S hs
  have b := outZ_nn (M := M) (S := S) (P := P) (fun x y hx hy => (h.1 x y hx hy).1)
  omega
theorem flw_end {L M : Nat → Nat → Int} {P s t : Nat} {r : Int} (h : flw L M P s t r) {S : Nat → Bool} (hs : sep s t S) (hc : clsd M P 1 S) : outZ L S P = r := by
  have a := h.2 S hs
  rw [outZ_clsd (fun x y hx hy => (h.1 x y hx hy).1) hc] at a
  omega
theorem flw_min {L M : Nat → Nat → Int} {P s t : Nat} {r : Int} (h : flw L M P s t r) {S : Nat → Bool} (hs : sep s t S) : r ≤ outZ L S P := by
  have a := h.2 S hs
  have b := outZ_nn (M := M) (S := S) (P := P) (fun x y hx hy => (h.1 x y hx hy).1)
  omega
theorem endless {L : Nat → Nat → Int} {P s t : Nat} {S0 S : Nat → Bool} (h0 : ∀ x y : Nat, x < P → y < P → 0 ≤ L x y) (hr : rchd L P 1000000 s S0) (ht : S0 t = true) (hs : sep s t S) : 1000000 ≤ outZ L S P := by
  rcases Classical.em (clsd L P 1000000 S) with hc | hc
  · have a := hr.2.2.1 S hs.1 hc t ht
    rw [hs.2] at a
    cases a
  · have : ∃ x y : Nat, x < P ∧ y < P ∧ S x = true ∧ S y = false ∧ 1000000 ≤ L x y := by
      refine Classical.byContradiction (fun hn => hc (fun x y hx hy sx sy => ?_))
      rcases Int.lt_or_le (L x y) 1000000 with w | w
      · exact w
      · exact absurd ⟨x, y, hx, hy, sx, sy, w⟩ hn
    obtain ⟨x, y, hx, hy, sx, sy, w⟩ := this
    have b := outZ_pair (M := L) (S := S) h0 hx hy sx sy
    omega
theorem mostR_un {C : (Nat → Bool) → Int} {s t : Nat} {r1 r2 : Int} (h1 : mostR C s t r1) (h2 : mostR C s t r2) : r1 = r2 := by
  rcases h1 with ⟨a, b⟩ | ⟨a0, a1, ⟨S, hs, e⟩, m⟩ <;> rcases h2 with ⟨c, d⟩ | ⟨c0, c1, ⟨T, ht, g⟩, n⟩
  · omega
  · have := b T ht
    omega
  · have := d S hs
    omega
  · have := m T ht
    have := n S hs
    omega
theorem mostR_cg {C D : (Nat → Bool) → Int} {s t : Nat} {r : Int} (h : mostR C s t r) (e : ∀ S : Nat → Bool, C S = D S) : mostR D s t r := by
  have : C = D := funext e
  rw [← this]
  exact h
/-- cuts without an endless line are small -/
theorem small_cut {M : Nat → Nat → Int32} {P N : Int32} {fk fs fe fw : Nat → Int32} {r : Int} {S : Nat → Bool} (h : mtx M P.toInt fk fs fe fw r N.toNatClampNeg) (hc : netC P.toInt N.toInt fs fe) (hp : prng fs fe 40) (hw : rng fw 40 0 2000) (hP : 0 ≤ P.toInt ∧ P.toInt ≤ 12) (hN : N.toInt ≤ 40) (hS : clsd (zM M) P.toNatClampNeg 1000000 S) : outZ (zM M) S P.toNatClampNeg ≤ 100000 := by
  have cP := clI (i := P) hP.1
  have cN : ((N.toNatClampNeg : Nat) : Int) = ((N.toInt.toNat : Nat) : Int) := rfl
  have e : outZ (zM M) S P.toNatClampNeg = cutF fk fs fe fw r N.toNatClampNeg S := out_mtx h hc hp hP hN
  rw [e]
  have lt : ∀ x y l : Nat, l < N.toNatClampNeg → x < P.toNatClampNeg → y < P.toNatClampNeg → mlI (kF fk) (wF fw r) (gF fs) (nF fs) (nF fe) x y l ≤ (M x y).toInt := fun x y l hl hx hy => by
    rw [h x y (by omega) (by omega)]
    exact sumI_le1 (f := mlI (kF fk) (wF fw r) (gF fs) (nF fs) (nF fe) x y) (fun j hj => (mlI_rng hw (by omega)).1) hl
  have one : ∀ l : Nat, l < N.toNatClampNeg → 0 ≤ clI_ (kF fk) (wF fw r) (gF fs) (nF fs) (nF fe) S l ∧ clI_ (kF fk) (wF fw r) (gF fs) (nF fs) (nF fe) S l ≤ 2500 := fun l hl => by
    have wr := wF_rng (r := r) hw (show l < 40 by omega)
    refine ⟨(clI_rng wr).1, ?_⟩
    unfold clI_
    by_cases z : gF fs l ≠ 0
    · rw [if_pos z]
      omega
    · have g0 : gF fs l = 0 := Decidable.of_not_not z
      obtain ⟨ls, le⟩ := netC_at hc hp hN hl g0
      rw [if_neg z]
      have b1 := rmW_rng (k := kF fk l) (b := 1) wr.1 wr.2
      have b0 := rmW_rng (k := kF fk l) (b := 0) wr.1 wr.2
      have sm : ∀ b : Int, rmW (kF fk l) (wF fw r l) b < 1000000 → rmW (kF fk l) (wF fw r l) b ≤ 2001 := fun b hb => by
        unfold rmW at hb ⊢
        by_cases k2 : kF fk l = 2
        · rw [if_pos k2] at hb
          omega
        · rw [if_neg k2]
          split <;> omega
      by_cases p : S (nF fs l) = true ∧ S (nF fe l) = false
      · rw [if_pos p, if_neg (fun q => by rw [p.2] at q; exact absurd q.1 (by decide))]
        have a := lt _ _ l hl ls le
        unfold mlI at a
        rw [if_neg z, if_pos ⟨rfl, rfl⟩] at a
        have c : (M (nF fs l) (nF fe l)).toInt < 1000000 := hS _ _ ls le p.1 p.2
        have d : 0 ≤ (if nF fe l = nF fs l ∧ nF fs l = nF fe l then rmW (kF fk l) (wF fw r l) 0 else 0) := by split <;> omega
        have := sm 1 (by omega)
        omega
      · rw [if_neg p]
        by_cases q : S (nF fe l) = true ∧ S (nF fs l) = false
        · rw [if_pos q]
          have a := lt _ _ l hl le ls
          unfold mlI at a
          rw [if_neg z, if_pos (show nF fe l = nF fe l ∧ nF fs l = nF fs l from ⟨rfl, rfl⟩)] at a
          have c : (M (nF fe l) (nF fs l)).toInt < 1000000 := hS _ _ le ls q.1 q.2
          have d : 0 ≤ (if nF fs l = nF fe l ∧ nF fe l = nF fs l then rmW (kF fk l) (wF fw r l) 1 else 0) := by split <;> omega
          have := sm 0 (by omega)
          omega
        · rw [if_neg q]
          omega
  have a := sumI_rng (g := clI_ (kF fk) (wF fw r) (gF fs) (nF fs) (nF fe) S) (B := 2500) N.toNatClampNeg one
  unfold cutF cutC
  omega
/-! ===== steps of the searches, of the flow, of the reference's sets ===== -/
theorem bt_nz {b : Bool} {w : Int32} (h : w.toInt = if b = true then 1 else 0) (hw : w.toInt ≠ 0) : b = true := by
  cases b
  · rw [if_neg (by decide)] at h
    exact absurd h hw
  · rfl
theorem bt_fl {b : Bool} {w : Int32} (h : w.toInt = if b = true then 1 else 0) (hw : w.toInt ≠ 1) : b = false := by
  cases b
  · rfl
  · rw [if_pos rfl] at h
    exact absurd h hw
theorem nc_lt {x P : Int32} (h0 : 0 ≤ x.toInt) (h : x.toInt < P.toInt) : x.toNatClampNeg < P.toNatClampNeg := by
  have c := clI (i := x) h0
  have c2 := clI (i := P) (by omega)
  omega
theorem nc_le {x P : Int32} (h0 : 0 ≤ x.toInt) (h : x.toInt ≤ P.toInt) : x.toNatClampNeg ≤ P.toNatClampNeg := by
  have c := clI (i := x) h0
  have c2 := clI (i := P) (by omega)
  omega
theorem nc_ne {x y : Int32} (h0 : 0 ≤ x.toInt) (h1 : 0 ≤ y.toInt) (h : x.toInt ≠ y.toInt) : x.toNatClampNeg ≠ y.toNatClampNeg := by
  have c := clI (i := x) h0
  have c2 := clI (i := y) h1
  omega
theorem nt_one {s t met : Int32} (ex : met = (1 : Int32) <<< (s &&& 31)) (h0 : 0 ≤ s.toInt ∧ s.toInt ≤ 11) (h1 : 0 ≤ t.toInt ∧ t.toInt ≤ 11) (hne : s.toInt ≠ t.toInt) : bt met t.toNatClampNeg = false := by
  have c := clI (i := t) h1.1
  rw [ex, bt_sh h0.1 (by omega) (by omega)]
  exact decide_eq_false (fun e => nc_ne h0.1 h1.1 hne e.symm)
theorem nt_push {y t met met2 b : Int32} (h : bt met t.toNatClampNeg = false) (eb : b = (1 : Int32) <<< (y &&& 31)) (ex : met2 = met ||| b) (h0 : 0 ≤ y.toInt ∧ y.toInt ≤ 11) (h1 : 0 ≤ t.toInt ∧ t.toInt ≤ 11) (hne : y.toInt ≠ t.toInt) : bt met2 t.toNatClampNeg = false := by
  rw [ex, b_or, h, nt_one eb h0 h1 hne]
  rfl
theorem rC_up {M : Nat → Nat → Int} {c c2 : Nat → Int32} {y : Nat} {x : Int32} (e : c2 = upd c y x) : ∀ u v : Nat, v ≠ y → rC M c u v → rC M c2 u v := fun u v hv h => by
  refine ⟨?_, h.2⟩
  rw [← h.1]
  unfold nF
  rw [e, pk_un hv]
theorem rC_new {M : Nat → Nat → Int} {c c2 : Nat → Int32} {y : Nat} {x : Int32} (e : c2 = upd c y x) (h : 1 ≤ M x.toNatClampNeg y) : rC M c2 x.toNatClampNeg y := by
  refine ⟨?_, h⟩
  unfold nF
  rw [e, pk_us]
theorem bfq_R {R R2 : Nat → Nat → Prop} {P s n y : Nat} {met : Int32} {q : Nat → Int32} (H : bfq R P s met q n) (hR : ∀ u v : Nat, v ≠ y → R u v → R2 u v) (hn : bt met y = false) : bfq R2 P s met q n := by
  obtain ⟨a1, a2, a3, a4, a5⟩ := H
  refine ⟨a1, a2, a3, a4, fun i h0 hi => ?_⟩
  obtain ⟨j, hj, r⟩ := a5 i h0 hi
  refine ⟨j, hj, hR _ _ (fun e => ?_) r⟩
  rw [← e, (a3 i hi).2] at hn
  cases hn
theorem bfq_s {R : Nat → Nat → Prop} {P s n : Nat} {met : Int32} {q : Nat → Int32} (H : bfq R P s met q n) : bt met s = true := by
  have a := (H.2.2.1 0 H.1).2
  rw [H.2.1] at a
  exact a
theorem way_yes {M : Nat → Nat → Int} {P s h n : Nat} {met x y : Int32} {q c c2 : Nat → Int32} (H : bfq (rC M c) P s met q n) (hq : mq met q n) (e : c2 = upd c y.toNatClampNeg x) (hun : bt met y.toNatClampNeg = false) (hx : x = q h) (hh : h < n) (hn : n ≤ 11) (hy : y.toNatClampNeg < P) (hM : 1 ≤ M x.toNatClampNeg y.toNatClampNeg) : ∃ d : Nat, d ≤ 11 ∧ wayA M (nF c2) P s 1 d y.toNatClampNeg := by
  have H2 := bfq_R H (rC_up (M := M) e) hun
  obtain ⟨d, hd, w⟩ := bfq_way H2 hq h h (Nat.le_refl _) hh
  have ec : nF c2 y.toNatClampNeg = nF q h := by
    unfold nF
    rw [e, pk_us, hx]
  refine ⟨d + 1, by omega, fun z => ?_, hy, ?_, ?_, ?_⟩
  · rw [z, bfq_s H] at hun
    cases hun
  · rw [ec]
    exact (H.2.2.1 h hh).1
  · rw [ec]
    rw [hx] at hM
    exact hM
  · rw [ec]
    exact w
/-! one step of a way -/
theorem m1_v {M M1 : Nat → Nat → Int32} {a b u w : Nat} {v : Int32} (e : M1 = va_up M a (upd (M a) b v)) : (M1 u w).toInt = if u = a ∧ w = b then v.toInt else (M u w).toInt := by
  rw [e]
  by_cases p : u = a
  · rw [p, va_up_self]
    by_cases q : w = b
    · rw [q, pk_us, if_pos ⟨rfl, rfl⟩]
    · rw [pk_un q, if_neg (fun z => q z.2)]
  · rw [va_up_ne _ _ p, if_neg (fun z => p z.1)]
theorem edg_mk {M M1 M2 : Nat → Nat → Int32} {a b : Nat} {v1 v2 : Int32} {x : Int} (e1 : M1 = va_up M a (upd (M a) b v1)) (e2 : M2 = va_up M1 b (upd (M1 b) a v2)) (h1 : v1.toInt = (M a b).toInt - x) (h2 : v2.toInt = (M1 b a).toInt + x) : edg (zM M) (zM M2) a b x := fun u v => by
  show (M2 u v).toInt = (M u v).toInt + _ + _
  rw [m1_v e2, h2, m1_v e1, m1_v e1, h1]
  by_cases p : a = u ∧ b = v
  · obtain ⟨rfl, rfl⟩ := p
    by_cases q : b = a
    · subst q
      simp
      omega
    · simp [q, fun z : a = b => q z.symm]
      omega
  · by_cases q : b = u ∧ a = v
    · obtain ⟨rfl, rfl⟩ := q
      have w : ¬ b = a := fun z => p ⟨z.symm, z⟩
      simp [w, fun z : a = b => w z.symm]
    · rw [if_neg p, if_neg q, if_neg (fun z => q ⟨z.1.symm, z.2.symm⟩), if_neg (fun z => p ⟨z.1.symm, z.2.symm⟩)]
      omega
theorem way_hd {M : Nat → Nat → Int} {c : Nat → Nat} {P s k y : Nat} {b : Int} (h : wayA M c P s b k y) (hy : y ≠ s) : 0 < k ∧ y < P ∧ c y < P ∧ b ≤ M (c y) y ∧ wayA M c P s b (k - 1) (c y) := by
  cases k with
  | zero => exact absurd h hy
  | succ k => exact ⟨by omega, h.2.1, h.2.2.1, h.2.2.2.1, h.2.2.2.2⟩
theorem way_s {M : Nat → Nat → Int} {c : Nat → Nat} {P s k y : Nat} {b : Int} (h : wayA M c P s b k y) (hy : y = s) : k = 0 := by
  cases k with
  | zero => rfl
  | succ k => exact absurd hy h.1
theorem way_cs {M : Nat → Nat → Int} {c : Nat → Nat} {P s k y : Nat} {b : Int} (h0 : 0 < k) (h1 : y ≠ s) (h2 : y < P) (h3 : c y < P) (h4 : b ≤ M (c y) y) (h : wayA M c P s b (k - 1) (c y)) : wayA M c P s b k y := by
  cases k with
  | zero => omega
  | succ k => exact ⟨h1, h2, h3, h4, h⟩
/-- the way's least room, underway: y is reached after i steps of n -/
noncomputable def wlp (M : Nat → Nat → Int) (c : Nat → Int32) (P s t n : Nat) (a : Int) (i : Int) (y : Nat) : Prop := i ≤ n ∧ wayA M (nF c) P s 1 (n - i.toNat) y ∧ ∀ b : Int, b ≤ a → wayA M (nF c) P s b (n - i.toNat) y → wayA M (nF c) P s b n t
theorem wlp_0 {M : Nat → Nat → Int} {c : Nat → Int32} {P s t n : Nat} {a : Int} (h : wayA M (nF c) P s 1 n t) : wlp M c P s t n a (0 : Int32).toInt t := by
  have z : (0 : Int32).toInt = 0 := by decide
  exact ⟨by omega, h, fun _ _ h => h⟩
theorem wlp_st {M : Nat → Nat → Int} {c : Nat → Int32} {P s t n y : Nat} {a a2 i i2 : Int} {x : Int32} (h : wlp M c P s t n a i y) (hi : 0 ≤ i) (hy : y ≠ s) (ex : x = c y) (e2 : i2 = i + 1) (h1 : a2 ≤ a) (h2 : a2 ≤ M x.toNatClampNeg y) : wlp M c P s t n a2 i2 x.toNatClampNeg := by
  obtain ⟨g1, g2, g3⟩ := h
  obtain ⟨k0, k1, k2, k3, k4⟩ := way_hd g2 hy
  have ec : x.toNatClampNeg = nF c y := by rw [ex]; rfl
  rw [ec] at h2 ⊢
  refine ⟨by omega, ?_, fun b hb w => g3 b (by omega) (way_cs k0 hy k1 k2 (by omega) ?_)⟩
  · rw [show n - i2.toNat = n - i.toNat - 1 by omega]
    exact k4
  · rw [show n - i.toNat - 1 = n - i2.toNat by omega]
    exact w
theorem wlp_end {M : Nat → Nat → Int} {c : Nat → Int32} {P s t n y : Nat} {a i : Int} (h : wlp M c P s t n a i y) (hy : y = s) : wayA M (nF c) P s a n t ∧ i.toNat = n := by
  have e := way_s h.2.1 hy
  have g := h.1
  refine ⟨h.2.2 a (Int.le_refl _) ?_, by omega⟩
  rw [e]
  exact hy
theorem wlp_m {M : Nat → Nat → Int} {c : Nat → Int32} {P s t n y : Nat} {a i : Int} (h : wlp M c P s t n a i y) (hy : y ≠ s) : y < P ∧ nF c y < P ∧ 1 ≤ M (nF c y) y ∧ i < n := by
  obtain ⟨k0, k1, k2, k3, k4⟩ := way_hd h.2.1 hy
  exact ⟨k1, k2, k3, by omega⟩
/-- a is sent, underway -/
noncomputable def wsn (M0 M : Nat → Nat → Int) (c : Nat → Int32) (P s t n : Nat) (a i : Int) (y : Nat) : Prop := i ≤ n ∧ wayA M (nF c) P s a (n - i.toNat) y ∧ rmk M P ∧ ∀ S : Nat → Bool, outZ M S P = outZ M0 S P + dS S a t - dS S a y
theorem wsn_0 {M : Nat → Nat → Int} {c : Nat → Int32} {P s t n : Nat} {a : Int} (h : wayA M (nF c) P s a n t) (hk : rmk M P) : wsn M M c P s t n a (0 : Int32).toInt t := by
  have z : (0 : Int32).toInt = 0 := by decide
  exact ⟨by omega, h, hk, fun S => by omega⟩
theorem wsn_m {M0 M : Nat → Nat → Int} {c : Nat → Int32} {P s t n y : Nat} {a i : Int} (h : wsn M0 M c P s t n a i y) (hy : y ≠ s) : y < P ∧ nF c y < P ∧ a ≤ M (nF c y) y ∧ i < n := by
  obtain ⟨k0, k1, k2, k3, k4⟩ := way_hd h.2.1 hy
  exact ⟨k1, k2, k3, by omega⟩
theorem wsn_st {M0 M M2 : Nat → Nat → Int} {c : Nat → Int32} {P s t n y : Nat} {a i i2 : Int} {x : Int32} (h : wsn M0 M c P s t n a i y) (h0 : 0 ≤ a) (hi : 0 ≤ i) (hy : y ≠ s) (ex : x = c y) (e2 : i2 = i + 1) (he : edg M M2 x.toNatClampNeg y a) : wsn M0 M2 c P s t n a i2 x.toNatClampNeg := by
  obtain ⟨g1, g2, g3, g4⟩ := h
  obtain ⟨k0, k1, k2, k3, k4⟩ := way_hd g2 hy
  have ec : x.toNatClampNeg = nF c y := by rw [ex]; rfl
  rw [ec] at he ⊢
  refine ⟨by omega, ?_, edg_rmk he g3 h0 k3, fun S => ?_⟩
  · rw [show n - i2.toNat = n - i.toNat - 1 by omega]
    exact wayA_keep g2 (edg_up he h0) _ _ (by omega) k4
  · rw [edg_out he k2 k1, g4 S]
    omega
theorem wsn_end {M0 M : Nat → Nat → Int} {c : Nat → Int32} {P s t n y : Nat} {a i : Int} (h : wsn M0 M c P s t n a i y) (hy : y = s) : rmk M P ∧ ∀ S : Nat → Bool, sep s t S → outZ M S P = outZ M0 S P - a := by
  refine ⟨h.2.2.1, fun S hs => ?_⟩
  rw [h.2.2.2 S, hy]
  unfold dS
  rw [if_pos hs.1, if_neg (by rw [hs.2]; decide)]
  omega
theorem flw_st {L M M2 : Nat → Nat → Int} {P s t : Nat} {r r2 a : Int} (h : flw L M P s t r) (hk : rmk M2 P) (ho : ∀ S : Nat → Bool, sep s t S → outZ M2 S P = outZ M S P - a) (e : r2 = r + a) : flw L M2 P s t r2 := ⟨hk, fun S hs => by
  rw [ho S hs, h.2 S hs]
  omega⟩
theorem cp_st {M M2 L : Nat → Nat → Int32} {k : Nat} {g : Nat → Int32} {i i2 P : Int32} (e : M2 = va_up M k g) (h : ∀ x y : Nat, (x : Int) < i.toInt → y < P.toNatClampNeg → M x y = L x y) (eg : g = va_cpy (L k) (M k) (0 : Int32).toNatClampNeg (0 : Int32).toNatClampNeg P.toNatClampNeg) (hi : i.toInt = k) (ei : i2.toInt = i.toInt + 1) : ∀ x y : Nat, (x : Int) < i2.toInt → y < P.toNatClampNeg → M2 x y = L x y := fun x y hx hy => by
  rw [e]
  by_cases z : x = k
  · rw [z, va_up_self]
    exact cpy0 eg hy
  · rw [va_up_ne _ _ z]
    exact h x y (by omega) hy
theorem cp_end {M L : Nat → Nat → Int32} {i P : Int32} (h : ∀ x y : Nat, (x : Int) < i.toInt → y < P.toNatClampNeg → M x y = L x y) (hi : P.toInt ≤ i.toInt) (hP : 0 ≤ P.toInt) : ∀ x y : Nat, x < P.toNatClampNeg → y < P.toNatClampNeg → zM M x y = zM L x y := fun x y hx hy => by
  have c := clI (i := P) hP
  unfold zM
  rw [h x y (by omega) hy]
theorem rchd_cg {M L : Nat → Nat → Int} {P s : Nat} {B : Int} {S : Nat → Bool} (h : rchd M P B s S) (e : ∀ x y : Nat, x < P → y < P → M x y = L x y) : rchd L P B s S := by
  have cl : ∀ T : Nat → Bool, clsd M P B T ↔ clsd L P B T := fun T => by
    constructor
    · intro h x y hx hy sx sy
      rw [← e x y hx hy]
      exact h x y hx hy sx sy
    · intro h x y hx hy sx sy
      rw [e x y hx hy]
      exact h x y hx hy sx sy
  exact ⟨h.1, (cl S).mp h.2.1, fun T h0 hc => h.2.2.1 T h0 ((cl T).mpr hc), h.2.2.2⟩
/-! the reference: all sets, by their numbers -/
theorem shlE : ∀ n : Nat, n < 13 → ((1 : Int32) <<< (nI n &&& 31)).toInt = ((2 ^ n : Nat) : Int) := by decide +kernel
theorem shl_E {P v : Int32} (h : 0 ≤ P.toInt ∧ P.toInt ≤ 12) (e : v = (1 : Int32) <<< (P &&& 31)) : v.toInt = ((2 ^ P.toNatClampNeg : Nat) : Int) := by
  have c := clI (i := P) h.1
  have q := shlE P.toNatClampNeg (by omega)
  rw [← nI_cl h.1] at q
  rw [e, q]
theorem bt_mask : ∀ n : Nat, n < 13 → ∀ i : Nat, i < 32 → bt ((1 : Int32) <<< (nI n &&& 31) - 1) i = decide (i < n) := by decide +kernel
theorem bt_nI {k x : Nat} (hx : x < 32) : bt (nI k) x = k.testBit x := by
  show (BitVec.ofNat 32 k).getLsbD x = _
  rw [BitVec.getLsbD_ofNat]
  simp [hx]
theorem mask_ex (S : Nat → Bool) : ∀ P : Nat, P ≤ 12 → ∃ k : Nat, k < 2 ^ P ∧ ∀ x : Nat, x < P → bt (nI k) x = S x
  | 0, _ => ⟨0, by decide, fun x hx => by omega⟩
  | P + 1, hP => by
    obtain ⟨k, hk, h⟩ := mask_ex S P (by omega)
    have t0 : k.testBit P = false := Nat.testBit_lt_two_pow hk
    have p2 : 2 ^ (P + 1) = 2 ^ P + 2 ^ P := by rw [Nat.pow_succ]; omega
    cases s : S P
    · refine ⟨k, by omega, fun x hx => ?_⟩
      by_cases e : x = P
      · rw [e, bt_nI (by omega), t0, s]
      · exact h x (by omega)
    · refine ⟨2 ^ P + k, by omega, fun x hx => ?_⟩
      by_cases e : x = P
      · rw [e, bt_nI (by omega), Nat.testBit_two_pow_add_eq, t0, s]
        rfl
      · rw [bt_nI (by omega), Nat.testBit_two_pow_add_gt (by omega), ← bt_nI (by omega)]
        exact h x (by omega)
noncomputable def mstM (C : (Nat → Bool) → Int) (s t : Nat) (r : Int) : Prop := r ≤ 1000000 ∧ (r = 1000000 ∨ ∃ S : Nat → Bool, sep s t S ∧ r = mn6 (C S)) ∧ ∀ S : Nat → Bool, sep s t S → r ≤ mn6 (C S)
/-- underway: the sets below k -/
noncomputable def mstW (C : (Nat → Bool) → Int) (s t : Nat) (r k : Int) : Prop := r ≤ 1000000 ∧ (r = 1000000 ∨ ∃ S : Nat → Bool, sep s t S ∧ r = mn6 (C S)) ∧ ∀ j : Nat, (j : Int) < k → sep s t (bt (nI j)) → r ≤ mn6 (C (bt (nI j)))
theorem mstW_0 {C : (Nat → Bool) → Int} {s t : Nat} : mstW C s t (1000000 : Int32).toInt (0 : Int32).toInt := by
  have z : (0 : Int32).toInt = 0 := by decide
  have z6 : (1000000 : Int32).toInt = 1000000 := by decide
  exact ⟨by omega, Or.inl z6, fun j hj => by omega⟩
theorem mstW_no {C : (Nat → Bool) → Int} {s t : Nat} {r : Int} {k k2 : Int32} (h : mstW C s t r k.toInt) (h0 : 0 ≤ k.toInt) (e : k2.toInt = k.toInt + 1) (hn : ¬ sep s t (bt k)) : mstW C s t r k2.toInt := by
  have c := clI (i := k) h0
  refine ⟨h.1, h.2.1, fun j hj hs => ?_⟩
  by_cases z : j = k.toNatClampNeg
  · rw [z, ← nI_cl h0] at hs
    exact absurd hs hn
  · exact h.2.2 j (by omega) hs
theorem mstW_st {C : (Nat → Bool) → Int} {s t : Nat} {r r2 n : Int} {k k2 : Int32} (h : mstW C s t r k.toInt) (h0 : 0 ≤ k.toInt) (e : k2.toInt = k.toInt + 1) (hs : sep s t (bt k)) (hn : n = mn6 (C (bt k))) (hr : (n < r ∧ r2 = n) ∨ (r ≤ n ∧ r2 = r)) : mstW C s t r2 k2.toInt := by
  have c := clI (i := k) h0
  obtain ⟨h1, h2, h3⟩ := h
  refine ⟨by omega, ?_, fun j hj hj2 => ?_⟩
  · rcases hr with ⟨a, b⟩ | ⟨a, b⟩
    · exact Or.inr ⟨bt k, hs, b.trans hn⟩
    · rw [b]
      exact h2
  · by_cases z : j = k.toNatClampNeg
    · rw [z, ← nI_cl h0, ← hn]
      omega
    · have := h3 j (by omega) hj2
      omega
theorem mstW_end {C : (Nat → Bool) → Int} {s t : Nat} {r k : Int} {P : Int32} (h : mstW C s t r k) (hP : 0 ≤ P.toInt ∧ P.toInt ≤ 12) (hk : ((2 ^ P.toNatClampNeg : Nat) : Int) ≤ k) (hs : s < P.toNatClampNeg) (ht : t < P.toNatClampNeg) (hC : ∀ S T : Nat → Bool, (∀ x : Nat, x < P.toNatClampNeg → S x = T x) → C S = C T) : mstM C s t r := by
  refine ⟨h.1, h.2.1, fun S hS => ?_⟩
  have c := clI (i := P) hP.1
  obtain ⟨j, hj, e⟩ := mask_ex S P.toNatClampNeg (by omega)
  have a := h.2.2 j (by omega) ⟨(e s hs).trans hS.1, (e t ht).trans hS.2⟩
  rw [hC _ S e] at a
  exact a
theorem cutR_nn {f5 f6 f7 f8 f10 : Nat → Int32} {r : Int} {N : Int32} {S : Nat → Bool} (h8 : rng f8 40 0 2000) (hN : N.toInt ≤ 40) : 0 ≤ cutR f5 f6 f7 f8 f10 r N.toNatClampNeg S := by
  have c : ((N.toNatClampNeg : Nat) : Int) = ((N.toInt.toNat : Nat) : Int) := rfl
  unfold cutR cutC
  exact sumI_nn (fun j hj => (clI_rng (wF_rng h8 (by omega))).1)
theorem mst_told {C : (Nat → Bool) → Int} {s t : Nat} {r a : Int32} (h : mstM C s t a.toInt) (h0 : ∀ S : Nat → Bool, 0 ≤ C S) (hr : r.toInt = if a.toInt = 1000000 then -5 else a.toInt) : mostR C s t r.toInt := by
  obtain ⟨h1, h2, h3⟩ := h
  by_cases e : a.toInt = 1000000
  · rw [if_pos e] at hr
    refine Or.inl ⟨hr, fun S hs => ?_⟩
    have b := h3 S hs
    unfold mn6 at b
    split at b <;> omega
  · rw [if_neg e] at hr
    rcases h2 with h2 | ⟨S, hs, g⟩
    · exact absurd h2 e
    · have b0 := h0 S
      have sm : C S < 1000000 := by
        unfold mn6 at g
        split at g
        · assumption
        · omega
      have ge : mn6 (C S) = C S := if_pos sm
      rw [ge] at g
      refine Or.inr ⟨by omega, by omega, ⟨S, hs, by omega⟩, fun T ht => ?_⟩
      have b := h3 T ht
      unfold mn6 at b
      split at b <;> omega
/-- why raise answers at once -/
noncomputable def rsI (a b l P N g : Int) : Int := if ¬ ((0 ≤ a ∧ a < P) ∧ (0 ≤ b ∧ b < P) ∧ a ≠ b) ∨ ¬ (0 ≤ l ∧ l < N) then -1 else if g ≠ 0 then -2 else 0
end

section
set_option maxHeartbeats 4000000 in
set_option maxRecDepth 100000 in
theorem c_X0_reachedFrom2 (l : Launch) (D : va_G) (cy : Nat → ClassId) (sz : Nat) (xc : Nat) (xk : Nat) (clo : Nat) (cro : Nat) (c4 : Nat) (c5 : Nat) (c6 : Nat) (c7 : Nat) (c8 : Nat) (xn : Nat) (n1 : Nat) (n2 : Nat) (n3 : Nat) (n4 : Nat) (n5 : Nat) (vp : Int32) (vn : Int32) (rr : Nat → Nat) (Mr : Nat → Nat → Int32) (f7 : Nat → Int32) (a1 : Int32) (a2 : Int32) (hvp : 0 ≤ vp.toInt ∧ vp.toInt ≤ 12) (q1 : 0 ≤ a1.toInt ∧ a1.toInt < vp.toInt) (r_f7 : rng f7 12 (0) (11)) : Met l yX0_reachedFrom wsX0_reachedFrom ({ frames := 0, cells := 0, slots := 0, locals := 0 }) (va_Pc [.ref xc, .int a1, .int a2] (fun U => U.heap.size = sz ∧ va_P D vwCl [ob0_0_ xc xn xk clo cro c4 c5 c6 c7 c8, ob3_0_ xn vp vn n1 n2 n3 n4 n5, aq_ cy 6 cro 12 (gf_ rr), ai_ cy (rr 0) 12 (Mr 0), ai_ cy (rr 1) 12 (Mr 1), ai_ cy (rr 2) 12 (Mr 2), ai_ cy (rr 3) 12 (Mr 3), ai_ cy (rr 4) 12 (Mr 4), ai_ cy (rr 5) 12 (Mr 5), ai_ cy (rr 6) 12 (Mr 6), ai_ cy (rr 7) 12 (Mr 7), ai_ cy (rr 8) 12 (Mr 8), ai_ cy (rr 9) 12 (Mr 9), ai_ cy (rr 10) 12 (Mr 10), ai_ cy (rr 11) 12 (Mr 11), ai_ cy c7 12 f7] U.heap ∧ kg_ D cy U ∧ va_D (fun _ => True) [ob0_0_ xc xn xk clo cro c4 c5 c6 c7 c8, ob3_0_ xn vp vn n1 n2 n3 n4 n5, aq_ cy 6 cro 12 (gf_ rr), ai_ cy (rr 0) 12 (Mr 0), ai_ cy (rr 1) 12 (Mr 1), ai_ cy (rr 2) 12 (Mr 2), ai_ cy (rr 3) 12 (Mr 3), ai_ cy (rr 4) 12 (Mr 4), ai_ cy (rr 5) 12 (Mr 5), ai_ cy (rr 6) 12 (Mr 6), ai_ cy (rr 7) 12 (Mr 7), ai_ cy (rr 8) 12 (Mr 8), ai_ cy (rr 9) 12 (Mr 9), ai_ cy (rr 10) 12 (Mr 10), ai_ cy (rr 11) 12 (Mr 11), ai_ cy c7 12 f7])) (va_Qi (fun (r : Int32) (_ : Unit) => (rchd (zM Mr) vp.toNatClampNeg a2.toInt a1.toNatClampNeg (bt r))) (fun (_ : Unit) (t : State) => ∃ (e7 : Nat → Int32), (rng e7 12 (0) (11)) ∧ va_P D vwCl [ob0_0_ xc xn xk clo cro c4 c5 c6 c7 c8, ob3_0_ xn vp vn n1 n2 n3 n4 n5, aq_ cy 6 cro 12 (gf_ rr), ai_ cy (rr 0) 12 (Mr 0), ai_ cy (rr 1) 12 (Mr 1), ai_ cy (rr 2) 12 (Mr 2), ai_ cy (rr 3) 12 (Mr 3), ai_ cy (rr 4) 12 (Mr 4), ai_ cy (rr 5) 12 (Mr 5), ai_ cy (rr 6) 12 (Mr 6), ai_ cy (rr 7) 12 (Mr 7), ai_ cy (rr 8) 12 (Mr 8), ai_ cy (rr 9) 12 (Mr 9), ai_ cy (rr 10) 12 (Mr 10), ai_ cy (rr 11) 12 (Mr 11), ai_ cy c7 12 e7] t.heap ∧ va_D (va_A [ob0_0_ xc xn xk clo cro c4 c5 c6 c7 c8, ob3_0_ xn vp vn n1 n2 n3 n4 n5, aq_ cy 6 cro 12 (gf_ rr), ai_ cy (rr 0) 12 (Mr 0), ai_ cy (rr 1) 12 (Mr 1), ai_ cy (rr 2) 12 (Mr 2), ai_ cy (rr 3) 12 (Mr 3), ai_ cy (rr 4) 12 (Mr 4), ai_ cy (rr 5) 12 (Mr 5), ai_ cy (rr 6) 12 (Mr 6), ai_ cy (rr 7) 12 (Mr 7), ai_ cy (rr 8) 12 (Mr 8), ai_ cy (rr 9) 12 (Mr 9), ai_ cy (rr 10) 12 (Mr 10), ai_ cy (rr 11) 12 (Mr 11), ai_ cy c7 12 f7] sz) [ob0_0_ xc xn xk clo cro c4 c5 c6 c7 c8, ob3_0_ xn vp vn n1 n2 n3 n4 n5, aq_ cy 6 cro 12 (gf_ rr), ai_ cy (rr 0) 12 (Mr 0), ai_ cy (rr 1) 12 (Mr 1), ai_ cy (rr 2) 12 (Mr 2), ai_ cy (rr 3) 12 (Mr 3), ai_ cy (rr 4) 12 (Mr 4), ai_ cy (rr 5) 12 (Mr 5), ai_ cy (rr 6) 12 (Mr 6), ai_ cy (rr 7) 12 (Mr 7), ai_ cy (rr 8) 12 (Mr 8), ai_ cy (rr 9) 12 (Mr 9), ai_ cy (rr 10) 12 (Mr 10), ai_ cy (rr 11) 12 (Mr 11), ai_ cy c7 12 e7]) (va_A [ob0_0_ xc xn xk clo cro c4 c5 c6 c7 c8, ob3_0_ xn vp vn n1 n2 n3 n4 n5, aq_ cy 6 cro 12 (gf_ rr), ai_ cy (rr 0) 12 (Mr 0), ai_ cy (rr 1) 12 (Mr 1), ai_ cy (rr 2) 12 (Mr 2), ai_ cy (rr 3) 12 (Mr 3), ai_ cy (rr 4) 12 (Mr 4), ai_ cy (rr 5) 12 (Mr 5), ai_ cy (rr 6) 12 (Mr 6), ai_ cy (rr 7) 12 (Mr 7), ai_ cy (rr 8) 12 (Mr 8), ai_ cy (rr 9) 12 (Mr 9), ai_ cy (rr 10) 12 (Mr 10), ai_ cy (rr 11) 12 (Mr 11), ai_ cy c7 12 f7] sz)) 0 0 (va_A [ob0_0_ xc xn xk clo cro c4 c5 c6 c7 c8, ob3_0_ xn vp vn n1 n2 n3 n4 n5, aq_ cy 6 cro 12 (gf_ rr), ai_ cy (rr 0) 12 (Mr 0), ai_ cy (rr 1) 12 (Mr 1), ai_ cy (rr 2) 12 (Mr 2), ai_ cy (rr 3) 12 (Mr 3), ai_ cy (rr 4) 12 (Mr 4), ai_ cy (rr 5) 12 (Mr 5), ai_ cy (rr 6) 12 (Mr 6), ai_ cy (rr 7) 12 (Mr 7), ai_ cy (rr 8) 12 (Mr 8), ai_ cy (rr 9) 12 (Mr 9), ai_ cy (rr 10) 12 (Mr 10), ai_ cy (rr 11) 12 (Mr 11), ai_ cy c7 12 f7] sz) := by
  refine ofQ (cc := cX0_reachedFrom) (maxL := 7) (ret := (some .int)) (by decide) rfl ?_
  intro p e s m args below meth c s₁ Q hQ B hml hv
  obtain ⟨rfl, hsz, hP, hK, hD0⟩ := hv
  have hG := hK.2
  have hK := hK.1
  have hx := B.exec
  have hb := B.bytes
  have hr := B.returns
  have hts := atoms_spec (ws := wsX0_reachedFrom) B.pre
  have hown : s.vm.findClass RX0 = some m.cls := by have h_ := findClass_of_methodNamed B.named; exact h_
  have hlocks := B.notSynchronized
  subst hsz
  have hD := hD0.self (sz := s.heap.size)
  generalize hAe : va_A [ob0_0_ xc xn xk clo cro c4 c5 c6 c7 c8, ob3_0_ xn vp vn n1 n2 n3 n4 n5, aq_ cy 6 cro 12 (gf_ rr), ai_ cy (rr 0) 12 (Mr 0), ai_ cy (rr 1) 12 (Mr 1), ai_ cy (rr 2) 12 (Mr 2), ai_ cy (rr 3) 12 (Mr 3), ai_ cy (rr 4) 12 (Mr 4), ai_ cy (rr 5) 12 (Mr 5), ai_ cy (rr 6) 12 (Mr 6), ai_ cy (rr 7) 12 (Mr 7), ai_ cy (rr 8) 12 (Mr 8), ai_ cy (rr 9) 12 (Mr 9), ai_ cy (rr 10) 12 (Mr 10), ai_ cy (rr 11) 12 (Mr 11), ai_ cy c7 12 f7] s.heap.size = A at hD hQ
  have hA : ∀ q : Nat, s.heap.size ≤ q → A q := fun q h => by rw [← hAe]; exact Or.inr h
  have hS : va_S A s.heap s.heap [] := va_S.rf
  have hl := lv_entry ([.ref xc, .int a1, .int a2]) (n := 7) (Nat.le_of_ble_eq_true rfl)
  rw [lg_entry_eq]
  generalize (lg_sl ([.ref xc, .int a1, .int a2]) ++ List.replicate (7 - (lg_sl ([.ref xc, .int a1, .int a2])).length) Slot.unset).toArray = ls at hl ⊢
  have hl : lv_has ls 7 [(0, .ref xc), (1, .int a1), (2, .int a2)] := hl
  have z0 : (0 : Int32).toInt = 0 := by decide
  have z1 : (1 : Int32).toInt = 1 := by decide
  have z12 : (12 : Int32).toInt = 12 := by decide
  refine lv_iconst (v := 1) hx hb dB_36_0_27.1.1.1.1 (by decide) ?_
  refine lv_iload_n hx hb dB_36_0_27.1.1.1.2 rfl (lv_at hl 1 rfl) ?_
  refine lv_ishl hx hb dB_36_0_27.1.1.2.1 ?_
  refine lv_topi (fun y_1 ey_1 => ?_)
  refine lv_istore_n (lv' := [(3, .int y_1), (0, .ref xc), (1, .int a1), (2, .int a2)]) hx hb dB_36_0_27.1.1.2.2 rfl hl (by decide) rfl (fun ls hl => ?_)
  refine lv_iconst (v := 1) hx hb dB_36_0_27.1.2.1.1 (by decide) ?_
  refine lv_istore (lv' := [(4, .int 1), (3, .int y_1), (0, .ref xc), (1, .int a1), (2, .int a2)]) hx hb dB_36_0_27.1.2.1.2 hl (by decide) rfl (fun ls hl => ?_)
  refine lv_aload_n hx hb dB_36_0_27.1.2.2.1 rfl (lv_at hl 2 rfl) ?_
  refine va_get (ci := 0) (v := .ref c7) (C := RX0) (T := TX0) (N := 9) hx hb hts (fun _ h => List.mem_cons_of_mem _ (List.mem_append_left _ (List.mem_append_right _ h))) hown hK.1 hP 0 rfl rfl 7 (by decide) (hts (.fieldLink RX0 29 "CutAtlas$Current" "queue" "[I") (List.mem_of_getElem? (i := 1) rfl)) (fun _ h9 => h9) rfl dB_36_0_27.1.2.2.2 ?_
  refine lv_iconst (v := 0) hx hb dB_36_0_27.2.1.1.1 (by decide) ?_
  refine lv_iload_n hx hb dB_36_0_27.2.1.1.2 rfl (lv_at hl 3 rfl) ?_
  have h_2 : vp_in (0 : Int32) 12 := by unfold vp_in; decide
  refine va_iast hx hb hK.1 hP hD hS 15 0 rfl rfl (i := 0) h_2 dB_36_0_27.2.1.2.1 (fun H locs hP hD hS => ?_)
  obtain ⟨f_3, ef_3⟩ : ∃ g : Nat → Int32, g = upd f7 (0 : Int32).toNatClampNeg a1 := ⟨_, rfl⟩
  refine pd_K (D := D) (cl := vwCl) (H := H) (A := A) [ob0_0_ xc xn xk clo cro c4 c5 c6 c7 c8, ob3_0_ xn vp vn n1 n2 n3 n4 n5, aq_ cy 6 cro 12 (gf_ rr), ai_ cy (rr 0) 12 (Mr 0), ai_ cy (rr 1) 12 (Mr 1), ai_ cy (rr 2) 12 (Mr 2), ai_ cy (rr 3) 12 (Mr 3), ai_ cy (rr 4) 12 (Mr 4), ai_ cy (rr 5) 12 (Mr 5), ai_ cy (rr 6) 12 (Mr 6), ai_ cy (rr 7) 12 (Mr 7), ai_ cy (rr 8) 12 (Mr 8), ai_ cy (rr 9) 12 (Mr 9), ai_ cy (rr 10) 12 (Mr 10), ai_ cy (rr 11) 12 (Mr 11), ai_ cy c7 12 f_3] (by rw [ef_3]; exact hP) (by rw [ef_3]; exact hD) (fun hP hD => ?_)
  have rf_3 : rng f_3 12 (0) (11) := by rw [ef_3]; exact rng_upd r_f7 (by omega) (by omega)
  have hq_ : mq y_1 f_3 (1 : Int32).toNatClampNeg := mq_one (by assumption) (by assumption) (by omega) (by omega)
  have hbf_ : bfq (rB (zM Mr) a2.toInt) vp.toNatClampNeg a1.toNatClampNeg y_1 f_3 (1 : Int32).toNatClampNeg := bfq_one (by assumption) (by assumption) (by omega) (by omega) (nc_lt (by omega) (by omega))
  refine lv_iconst (v := 0) hx hb dB_36_0_27.2.1.2.2 (by decide) ?_
  refine lv_istore (lv' := [(5, .int 0), (4, .int 1), (3, .int y_1), (0, .ref xc), (1, .int a1), (2, .int a2)]) hx hb dB_36_0_27.2.2.1.1 hl (by decide) rfl (fun ls hl => ?_)
  suffices LOOP_4 : ∀ (n_4 : Nat) (x5_4 : Int32) (x4_4 : Int32) (x3_4 : Int32) (c_c7_4 : Nat → Int32) (H : Heap) (locs : List Loc) (ls : Array Slot), 12 - x5_4.toInt < (n_4 : Int) → (1 ≤ x4_4.toInt) → (x4_4.toInt ≤ 12) → (0 ≤ x5_4.toInt) → (x5_4.toInt ≤ 12) → (mq x3_4 c_c7_4 x4_4.toNatClampNeg) → (bfq (rB (zM Mr) a2.toInt) vp.toNatClampNeg a1.toNatClampNeg x3_4 c_c7_4 x4_4.toNatClampNeg) → (don (zM Mr) vp.toNatClampNeg a2.toInt x3_4 c_c7_4 x5_4.toNatClampNeg) → (rng c_c7_4 12 (0) (11)) → pd_2 D vwCl A [ob0_0_ xc xn xk clo cro c4 c5 c6 c7 c8, ob3_0_ xn vp vn n1 n2 n3 n4 n5, aq_ cy 6 cro 12 (gf_ rr), ai_ cy (rr 0) 12 (Mr 0), ai_ cy (rr 1) 12 (Mr 1), ai_ cy (rr 2) 12 (Mr 2), ai_ cy (rr 3) 12 (Mr 3), ai_ cy (rr 4) 12 (Mr 4), ai_ cy (rr 5) 12 (Mr 5), ai_ cy (rr 6) 12 (Mr 6), ai_ cy (rr 7) 12 (Mr 7), ai_ cy (rr 8) 12 (Mr 8), ai_ cy (rr 9) 12 (Mr 9), ai_ cy (rr 10) 12 (Mr 10), ai_ cy (rr 11) 12 (Mr 11), ai_ cy c7 12 c_c7_4] H → va_S A s.heap H locs → lv_has ls 7 [(5, .int x5_4), (4, .int x4_4), (3, .int x3_4), (0, .ref xc), (1, .int a1), (2, .int a2)] → W p l e ({ frames := 0, cells := 0, slots := 0, locals := 0 } : Room) s m (([.ref xc, .int a1, .int a2] : List Value).toArray) below meth c H locs 0 0 Q (F0 m 17 ls []) from LOOP_4 ((12 - (0 : Int32).toInt).toNat + 1) (0 : Int32) (1 : Int32) y_1 f_3 _ _ _ (by omega) (by first | with_reducible assumption | omega | assumption) (by first | with_reducible assumption | omega | assumption) (by first | with_reducible assumption | omega | assumption) (by first | with_reducible assumption | omega | assumption) (by first | with_reducible assumption | assumption | omega) (by first | exact hbf_ | assumption) (by first | exact don_0 | exact don_nx v_none v_none (by omega) (by omega) (by omega)) (by first | with_reducible assumption | assumption | exact rng_zero (by omega) (by omega) | exact orng_zero) ⟨hP, hD⟩ hS (lv_sub hl [0, 1, 2, 3, 4, 5] rfl)
  intro n_4
  induction n_4 with
  | zero =>
    intro x5_4 x4_4 x3_4 c_c7_4 H locs ls hm v0_4 v1_4 v2_4 v3_4 v4_4 v5_4 v6_4 rc_c7_4 hPD hS hl; obtain ⟨hP, hD⟩ := hPD
    exact absurd hm (by omega)
  | succ n_4 ih_4 =>
    intro x5_4 x4_4 x3_4 c_c7_4 H locs ls hm v0_4 v1_4 v2_4 v3_4 v4_4 v5_4 v6_4 rc_c7_4 hPD hS hl; obtain ⟨hP, hD⟩ := hPD
    refine lv_iload hx hb dB_36_0_27.2.2.1.2 (lv_at hl 0 rfl) ?_
    refine lv_iload hx hb dB_36_0_27.2.2.2.1 (lv_at hl 1 rfl) ?_
    refine lv_icmp_ge (tgt := 105) hx hb dB_36_0_27.2.2.2.2 (by decide) (fun c_5 => ?_) (fun c_5 => ?_)
    · have t_5 : x4_4.toInt ≤ x5_4.toInt := Int32.le_iff_toInt_le.mp c_5
      refine lv_iload_n hx hb dB_36_0_30.2.2.2.1 rfl (lv_at hl 2 rfl) ?_
      rw [hQ]
      exact W.iret (v := x3_4) hx hb hr (fun t ht hW => ⟨⟨x3_4, (), rfl, (bfq_rchd v5_4 v6_4 (nc_le (by omega) (by omega))), c_c7_4, (by first | with_reducible assumption | assumption | exact rng_zero (by omega) (by omega) | omega), by rw [ht]; exact hP, hD⟩, hS.F ht⟩) hS.2.2 dB_36_0_30.2.2.2.2
    · have t_5 : ¬ x4_4.toInt ≤ x5_4.toInt := fun h => c_5 (Int32.le_iff_toInt_le.mpr h)
      refine lv_iload hx hb dB_36_0_28.1.1.1.1 (lv_at hl 0 rfl) ?_
      refine lv_bipush (v := 12) hx hb dB_36_0_28.1.1.1.2 (by decide) ?_
      refine lv_icmp_ge (tgt := 105) hx hb dB_36_0_28.1.1.2.1 (by decide) (fun c_6 => ?_) (fun c_6 => ?_)
      · have t_6 : (12 : Int32).toInt ≤ x5_4.toInt := Int32.le_iff_toInt_le.mp c_6
        refine lv_iload_n hx hb dB_36_0_30.2.2.2.1 rfl (lv_at hl 2 rfl) ?_
        rw [hQ]
        exact W.iret (v := x3_4) hx hb hr (fun t ht hW => ⟨⟨x3_4, (), rfl, (bfq_rchd v5_4 v6_4 (nc_le (by omega) (by omega))), c_c7_4, (by first | with_reducible assumption | assumption | exact rng_zero (by omega) (by omega) | omega), by rw [ht]; exact hP, hD⟩, hS.F ht⟩) hS.2.2 dB_36_0_30.2.2.2.2
      · have t_6 : ¬ (12 : Int32).toInt ≤ x5_4.toInt := fun h => c_6 (Int32.le_iff_toInt_le.mpr h)
        refine lv_iconst (v := 0) hx hb dB_36_0_28.1.1.2.2 (by decide) ?_
        refine lv_istore (lv' := [(6, .int 0), (5, .int x5_4), (4, .int x4_4), (3, .int x3_4), (0, .ref xc), (1, .int a1), (2, .int a2)]) hx hb dB_36_0_28.1.2.1.1 hl (by decide) rfl (fun ls hl => ?_)
        suffices LOOP_7 : ∀ (n_7 : Nat) (x6_7 : Int32) (x4_7 : Int32) (x3_7 : Int32) (c_c7_7 : Nat → Int32) (H : Heap) (locs : List Loc) (ls : Array Slot), vp.toInt - x6_7.toInt < (n_7 : Int) → (1 ≤ x4_7.toInt) → (x4_7.toInt ≤ 12) → (0 ≤ x6_7.toInt) → (x6_7.toInt ≤ vp.toInt) → (mq x3_7 c_c7_7 x4_7.toNatClampNeg) → (bfq (rB (zM Mr) a2.toInt) vp.toNatClampNeg a1.toNatClampNeg x3_7 c_c7_7 x4_7.toNatClampNeg) → (don (zM Mr) vp.toNatClampNeg a2.toInt x3_7 c_c7_7 x5_4.toNatClampNeg) → (x5_4.toInt < x4_7.toInt) → (donY (zM Mr) a2.toInt x3_7 (nF c_c7_7 x5_4.toNatClampNeg) x6_7.toNatClampNeg) → (rng c_c7_7 12 (0) (11)) → pd_2 D vwCl A [ob0_0_ xc xn xk clo cro c4 c5 c6 c7 c8, ob3_0_ xn vp vn n1 n2 n3 n4 n5, aq_ cy 6 cro 12 (gf_ rr), ai_ cy (rr 0) 12 (Mr 0), ai_ cy (rr 1) 12 (Mr 1), ai_ cy (rr 2) 12 (Mr 2), ai_ cy (rr 3) 12 (Mr 3), ai_ cy (rr 4) 12 (Mr 4), ai_ cy (rr 5) 12 (Mr 5), ai_ cy (rr 6) 12 (Mr 6), ai_ cy (rr 7) 12 (Mr 7), ai_ cy (rr 8) 12 (Mr 8), ai_ cy (rr 9) 12 (Mr 9), ai_ cy (rr 10) 12 (Mr 10), ai_ cy (rr 11) 12 (Mr 11), ai_ cy c7 12 c_c7_7] H → va_S A s.heap H locs → lv_has ls 7 [(6, .int x6_7), (5, .int x5_4), (4, .int x4_7), (3, .int x3_7), (0, .ref xc), (1, .int a1), (2, .int a2)] → W p l e ({ frames := 0, cells := 0, slots := 0, locals := 0 } : Room) s m (([.ref xc, .int a1, .int a2] : List Value).toArray) below meth c H locs 0 0 Q (F0 m 34 ls []) from LOOP_7 ((vp.toInt - (0 : Int32).toInt).toNat + 1) (0 : Int32) x4_4 x3_4 c_c7_4 _ _ _ (by omega) (by first | with_reducible assumption | omega | assumption) (by first | with_reducible assumption | omega | assumption) (by first | with_reducible assumption | omega | assumption) (by first | with_reducible assumption | omega | assumption) (by first | with_reducible assumption | assumption | exact hp_ _ (by omega)) (by first | with_reducible assumption | assumption | exact hb2_ _ (by omega)) (by first | with_reducible assumption | assumption | exact hd2_) (by first | with_reducible assumption | omega | assumption) (by first | exact donY_0 | exact hy2_ _ (by omega) | exact donY_met v_none (by omega) (by omega) (Or.inl (bt_nz hbw_ (by omega))) | exact donY_met v_none (by omega) (by omega) (Or.inr (by omega))) (by first | with_reducible assumption | assumption | exact rng_zero (by omega) (by omega) | exact orng_zero) ⟨hP, hD⟩ hS (lv_sub hl [0, 1, 2, 3, 4, 5, 6] rfl)
        intro n_7
        induction n_7 with
        | zero =>
          intro x6_7 x4_7 x3_7 c_c7_7 H locs ls hm v0_7 v1_7 v2_7 v3_7 v4_7 v5_7 v6_7 v7_7 v8_7 rc_c7_7 hPD hS hl; obtain ⟨hP, hD⟩ := hPD
          exact absurd hm (by omega)
        | succ n_7 ih_7 =>
          intro x6_7 x4_7 x3_7 c_c7_7 H locs ls hm v0_7 v1_7 v2_7 v3_7 v4_7 v5_7 v6_7 v7_7 v8_7 rc_c7_7 hPD hS hl; obtain ⟨hP, hD⟩ := hPD
          refine lv_iload hx hb dB_36_0_28.1.2.1.2 (lv_at hl 0 rfl) ?_
          refine lv_aload_n hx hb dB_36_0_28.1.2.2.1 rfl (lv_at hl 4 rfl) ?_
          refine va_get (ci := 0) (v := .ref xn) (C := RX0) (T := TX0) (N := 9) hx hb hts (fun _ h => List.mem_cons_of_mem _ (List.mem_append_left _ (List.mem_append_right _ h))) hown hK.1 hP 0 rfl rfl 0 (by decide) (hts (.fieldLink RX0 35 "CutAtlas$Current" "net" "LCutAtlas$Net;") (List.mem_of_getElem? (i := 2) rfl)) (fun _ h9 => h9) rfl dB_36_0_28.1.2.2.2 ?_
          refine va_get (ci := 3) (v := .int vp) (C := RX3) (T := TX3) (N := 7) hx hb hts (fun _ h => List.mem_cons_of_mem _ (List.mem_append_right _ h)) hown hK.1 hP 1 rfl rfl 0 (by decide) (hts (.fieldLink RX0 43 "CutAtlas$Net" "places" "I") (List.mem_of_getElem? (i := 3) rfl)) (fun _ h9 => h9) rfl dB_36_0_28.2.1.1.1 ?_
          refine lv_icmp_ge (tgt := 99) hx hb dB_36_0_28.2.1.1.2 (by decide) (fun c_8 => ?_) (fun c_8 => ?_)
          · have t_8 : vp.toInt ≤ x6_7.toInt := Int32.le_iff_toInt_le.mp c_8
            obtain ⟨y_9, ey_9⟩ : ∃ y : Int32, y = x5_4 + 1 := ⟨_, rfl⟩
            have ty_9 : y_9.toInt = x5_4.toInt + (1 : Int32).toInt := by rw [ey_9]; exact addI (by omega) (by omega)
            refine lv_iinc (v := y_9) (lv' := [(5, .int y_9), (6, .int x6_7), (4, .int x4_7), (3, .int x3_7), (0, .ref xc), (1, .int a1), (2, .int a2)]) hx hb dB_36_0_30.2.2.1.1 hl (k := 1) rfl (by rw [ey_9]; rfl) (by decide) rfl (fun ls hl => ?_)
            refine lv_goto (tgt := 17) hx hb dB_36_0_30.2.2.1.2 (by decide) ?_
            exact ih_4 y_9 x4_7 x3_7 c_c7_7 _ _ _ (by omega) (by first | with_reducible assumption | omega | assumption) (by first | with_reducible assumption | omega | assumption) (by first | with_reducible assumption | omega | assumption) (by first | with_reducible assumption | omega | assumption) (by first | with_reducible assumption | assumption | omega) (by first | exact hbf_ | assumption) (by first | exact don_0 | exact don_nx v6_7 v8_7 (by omega) (by omega) (by omega)) (by first | with_reducible assumption | assumption | exact rng_zero (by omega) (by omega) | exact orng_zero) ⟨hP, hD⟩ hS (lv_sub hl [0, 2, 3, 4, 5, 6] rfl)
          · have t_8 : ¬ vp.toInt ≤ x6_7.toInt := fun h => c_8 (Int32.le_iff_toInt_le.mpr h)
            refine lv_iload_n hx hb dB_36_0_28.2.1.2.1 rfl (lv_at hl 3 rfl) ?_
            refine lv_iload hx hb dB_36_0_28.2.1.2.2 (lv_at hl 0 rfl) ?_
            refine lv_ishr hx hb dB_36_0_28.2.2.1.1 ?_
            refine lv_topi (fun y_10 ey_10 => ?_)
            refine lv_iconst (v := 1) hx hb dB_36_0_28.2.2.1.2 (by decide) ?_
            refine lv_iand hx hb dB_36_0_28.2.2.2.1 ?_
            refine lv_topi (fun y_11 ey_11 => ?_)
            have hbw_ := bI_w (x := x3_7) (y := x6_7) (by omega) (by omega) ey_10 ey_11
            refine lv_if_ne (tgt := 93) hx hb dB_36_0_28.2.2.2.2 (by decide) (fun c_12 => ?_) (fun c_12 => ?_)
            · have t_12 : ¬ y_11.toInt = (0 : Int32).toInt := fun h => c_12 (Int32.toInt_inj.mp h)
              obtain ⟨y_13, ey_13⟩ : ∃ y : Int32, y = x6_7 + 1 := ⟨_, rfl⟩
              have ty_13 : y_13.toInt = x6_7.toInt + (1 : Int32).toInt := by rw [ey_13]; exact addI (by omega) (by omega)
              refine lv_iinc (v := y_13) (lv' := [(6, .int y_13), (5, .int x5_4), (4, .int x4_7), (3, .int x3_7), (0, .ref xc), (1, .int a1), (2, .int a2)]) hx hb dB_36_0_30.2.1.2.1 hl (k := 0) rfl (by rw [ey_13]; rfl) (by decide) rfl (fun ls hl => ?_)
              refine lv_goto (tgt := 34) hx hb dB_36_0_30.2.1.2.2 (by decide) ?_
              exact ih_7 y_13 x4_7 x3_7 c_c7_7 _ _ _ (by omega) (by first | with_reducible assumption | omega | assumption) (by first | with_reducible assumption | omega | assumption) (by first | with_reducible assumption | omega | assumption) (by first | with_reducible assumption | omega | assumption) (by first | with_reducible assumption | assumption | exact hp_ _ (by omega)) (by first | with_reducible assumption | assumption | exact hb2_ _ (by omega)) (by first | with_reducible assumption | assumption | exact hd2_) (by first | with_reducible assumption | omega | assumption) (by first | exact donY_0 | exact hy2_ _ (by omega) | exact donY_met v8_7 (by omega) (by omega) (Or.inl (bt_nz hbw_ (by omega))) | exact donY_met v8_7 (by omega) (by omega) (Or.inr (by omega))) (by first | with_reducible assumption | assumption | exact rng_zero (by omega) (by omega) | exact orng_zero) ⟨hP, hD⟩ hS (lv_sub hl [0, 1, 2, 3, 4, 5, 6] rfl)
            · have t_12 : y_11.toInt = (0 : Int32).toInt := congrArg Int32.toInt c_12
              have hun_ : bt x3_7 x6_7.toNatClampNeg = false := bt_zero (by omega) (by omega) ey_10 ey_11 (by omega)
              refine lv_aload_n hx hb dB_36_0_29.1.1.1.1 rfl (lv_at hl 4 rfl) ?_
              refine va_get (ci := 0) (v := .ref cro) (C := RX0) (T := TX0) (N := 9) hx hb hts (fun _ h => List.mem_cons_of_mem _ (List.mem_append_left _ (List.mem_append_right _ h))) hown hK.1 hP 0 rfl rfl 3 (by decide) (hts (.fieldLink RX0 16 "CutAtlas$Current" "room" "[[I") (List.mem_of_getElem? (i := 4) rfl)) (fun _ h9 => h9) rfl dB_36_0_29.1.1.1.2 ?_
              refine lv_aload_n hx hb dB_36_0_29.1.1.2.1 rfl (lv_at hl 4 rfl) ?_
              refine va_get (ci := 0) (v := .ref c7) (C := RX0) (T := TX0) (N := 9) hx hb hts (fun _ h => List.mem_cons_of_mem _ (List.mem_append_left _ (List.mem_append_right _ h))) hown hK.1 hP 0 rfl rfl 7 (by decide) (hts (.fieldLink RX0 29 "CutAtlas$Current" "queue" "[I") (List.mem_of_getElem? (i := 1) rfl)) (fun _ h9 => h9) rfl dB_36_0_29.1.1.2.2 ?_
              refine lv_iload hx hb dB_36_0_29.1.2.1.1 (lv_at hl 1 rfl) ?_
              have h_14 : vp_in x5_4 12 := in_I (by first | with_reducible assumption | omega) (by omega)
              refine va_iald hx hb hK.1 hP 15 0 rfl rfl (i := x5_4) h_14 dB_36_0_29.1.2.1.2 ?_
              refine lv_topi (fun y_15 ey_15 => ?_)
              have ry_15 : 0 ≤ y_15.toInt ∧ y_15.toInt ≤ 11 := by rw [ey_15]; exact rc_c7_7 _ (in_lt h_14)
              have h_16 : vp_in y_15 12 := in_I (by first | with_reducible assumption | omega) (by omega)
              refine va_alda hx hb hG hP 2 rfl (i := y_15) h_16 dB_36_0_29.1.2.2.1 ?_
              refine lv_topv (v' := .ref (rr y_15.toNatClampNeg)) (gf_at h_16) ?_
              refine lv_iload hx hb dB_36_0_29.1.2.2.2 (lv_at hl 0 rfl) ?_
              have h_17 : vp_in x6_7 12 := in_I (by first | with_reducible assumption | omega) (by omega)
              have hPg : va_P D vwCl (([ob0_0_ xc xn xk clo cro c4 c5 c6 c7 c8, ob3_0_ xn vp vn n1 n2 n3 n4 n5, aq_ cy 6 cro 12 (gf_ rr)] : va_W) ++ (gro (cy 0) rr Mr ++ ([ai_ cy c7 12 c_c7_7] : va_W))) H := hP
              refine va_gld (X := [ob0_0_ xc xn xk clo cro c4 c5 c6 c7 c8, ob3_0_ xn vp vn n1 n2 n3 n4 n5, aq_ cy 6 cro 12 (gf_ rr)]) (Y := [ai_ cy c7 12 c_c7_7]) (r := rr) (M := Mr) (k := y_15.toNatClampNeg) hx hb hK.1 hPg 0 rfl (in_lt h_16) (i := x6_7) h_17 dB_36_0_29.2.1.1.1 ?_
              refine lv_topi (fun y_18 ey_18 => ?_)
              have hmv_ : y_18.toInt = zM Mr (nF c_c7_7 x5_4.toNatClampNeg) x6_7.toNatClampNeg := by unfold zM nF; rw [ey_18, ey_15]
              refine lv_iload_n hx hb dB_36_0_29.2.1.1.2 rfl (lv_at hl 6 rfl) ?_
              refine lv_icmp_lt (tgt := 93) hx hb dB_36_0_29.2.1.2.1 (by decide) (fun c_19 => ?_) (fun c_19 => ?_)
              · have t_19 : y_18.toInt < a2.toInt := Int32.lt_iff_toInt_lt.mp c_19
                obtain ⟨y_20, ey_20⟩ : ∃ y : Int32, y = x6_7 + 1 := ⟨_, rfl⟩
                have ty_20 : y_20.toInt = x6_7.toInt + (1 : Int32).toInt := by rw [ey_20]; exact addI (by omega) (by omega)
                refine lv_iinc (v := y_20) (lv' := [(6, .int y_20), (5, .int x5_4), (4, .int x4_7), (3, .int x3_7), (0, .ref xc), (1, .int a1), (2, .int a2)]) hx hb dB_36_0_30.2.1.2.1 hl (k := 0) rfl (by rw [ey_20]; rfl) (by decide) rfl (fun ls hl => ?_)
                refine lv_goto (tgt := 34) hx hb dB_36_0_30.2.1.2.2 (by decide) ?_
                exact ih_7 y_20 x4_7 x3_7 c_c7_7 _ _ _ (by omega) (by first | with_reducible assumption | omega | assumption) (by first | with_reducible assumption | omega | assumption) (by first | with_reducible assumption | omega | assumption) (by first | with_reducible assumption | omega | assumption) (by first | with_reducible assumption | assumption | exact hp_ _ (by omega)) (by first | with_reducible assumption | assumption | exact hb2_ _ (by omega)) (by first | with_reducible assumption | assumption | exact hd2_) (by first | with_reducible assumption | omega | assumption) (by first | exact donY_0 | exact hy2_ _ (by omega) | exact donY_met v8_7 (by omega) (by omega) (Or.inl (bt_nz hbw_ (by omega))) | exact donY_met v8_7 (by omega) (by omega) (Or.inr (by omega))) (by first | with_reducible assumption | assumption | exact rng_zero (by omega) (by omega) | exact orng_zero) ⟨hP, hD⟩ hS (lv_sub hl [0, 1, 2, 3, 4, 5, 6] rfl)
              · have t_19 : ¬ y_18.toInt < a2.toInt := fun h => c_19 (Int32.lt_iff_toInt_lt.mpr h)
                have hr_ : x4_7.toInt < 12 := mq_room (x := x3_7) (y := x6_7) (z := y_10) (w := y_11) (q := c_c7_7) (by assumption) (by omega) (by omega) (by assumption) (by assumption) (by omega) (by omega)
                refine lv_iload_n hx hb dB_36_0_29.2.1.2.2 rfl (lv_at hl 3 rfl) ?_
                refine lv_iconst (v := 1) hx hb dB_36_0_29.2.2.1.1 (by decide) ?_
                refine lv_iload hx hb dB_36_0_29.2.2.1.2 (lv_at hl 0 rfl) ?_
                refine lv_ishl hx hb dB_36_0_29.2.2.2.1 ?_
                refine lv_topi (fun y_21 ey_21 => ?_)
                refine lv_ior hx hb dB_36_0_29.2.2.2.2 ?_
                refine lv_topi (fun y_22 ey_22 => ?_)
                refine lv_istore_n (lv' := [(3, .int y_22), (6, .int x6_7), (5, .int x5_4), (4, .int x4_7), (0, .ref xc), (1, .int a1), (2, .int a2)]) hx hb dB_36_0_30.1.1.1 rfl hl (by decide) rfl (fun ls hl => ?_)
                refine lv_aload_n hx hb dB_36_0_30.1.1.2.1 rfl (lv_at hl 4 rfl) ?_
                refine va_get (ci := 0) (v := .ref c7) (C := RX0) (T := TX0) (N := 9) hx hb hts (fun _ h => List.mem_cons_of_mem _ (List.mem_append_left _ (List.mem_append_right _ h))) hown hK.1 hP 0 rfl rfl 7 (by decide) (hts (.fieldLink RX0 29 "CutAtlas$Current" "queue" "[I") (List.mem_of_getElem? (i := 1) rfl)) (fun _ h9 => h9) rfl dB_36_0_30.1.1.2.2 ?_
                refine lv_iload hx hb dB_36_0_30.1.2.1 (lv_at hl 3 rfl) ?_
                refine lv_iload hx hb dB_36_0_30.1.2.2.1 (lv_at hl 1 rfl) ?_
                have h_23 : vp_in x4_7 12 := in_I (by first | with_reducible assumption | omega) (by omega)
                refine va_iast hx hb hK.1 hP hD hS 15 0 rfl rfl (i := x4_7) h_23 dB_36_0_30.1.2.2.2 (fun H locs hP hD hS => ?_)
                obtain ⟨f_24, ef_24⟩ : ∃ g : Nat → Int32, g = upd c_c7_7 x4_7.toNatClampNeg x6_7 := ⟨_, rfl⟩
                refine pd_K (D := D) (cl := vwCl) (H := H) (A := A) [ob0_0_ xc xn xk clo cro c4 c5 c6 c7 c8, ob3_0_ xn vp vn n1 n2 n3 n4 n5, aq_ cy 6 cro 12 (gf_ rr), ai_ cy (rr 0) 12 (Mr 0), ai_ cy (rr 1) 12 (Mr 1), ai_ cy (rr 2) 12 (Mr 2), ai_ cy (rr 3) 12 (Mr 3), ai_ cy (rr 4) 12 (Mr 4), ai_ cy (rr 5) 12 (Mr 5), ai_ cy (rr 6) 12 (Mr 6), ai_ cy (rr 7) 12 (Mr 7), ai_ cy (rr 8) 12 (Mr 8), ai_ cy (rr 9) 12 (Mr 9), ai_ cy (rr 10) 12 (Mr 10), ai_ cy (rr 11) 12 (Mr 11), ai_ cy c7 12 f_24] (by rw [ef_24]; exact hP) (by rw [ef_24]; exact hD) (fun hP hD => ?_)
                have rf_24 : rng f_24 12 (0) (11) := by rw [ef_24]; exact rng_upd rc_c7_7 (by omega) (by omega)
                have hp_ : ∀ m2 : Int32, m2.toInt = x4_7.toInt + 1 → mq y_22 f_24 m2.toNatClampNeg := fun m2 em => mq_push (x := x3_7) (y := x6_7) (z := y_10) (w := y_11) (m := x4_7) (b := y_21) (q := c_c7_7) (by assumption) (by omega) (by omega) (by assumption) (by assumption) (by omega) (by omega) (by assumption) (by assumption) (by assumption) em
                have hb2_ : ∀ m2 : Int32, m2.toInt = x4_7.toInt + 1 → bfq (rB (zM Mr) a2.toInt) vp.toNatClampNeg a1.toNatClampNeg y_22 f_24 m2.toNatClampNeg := fun m2 em => bfq_push (h := x5_4.toNatClampNeg) v5_7 (by omega) (by omega) (nc_lt (by omega) (by omega)) (by omega) ey_21 ey_22 ef_24 em (nc_lt (x := x5_4) (P := x4_7) (by omega) (by omega)) (fun u v _ r => r) hun_ (by unfold rB; omega)
                have hd2_ : don (zM Mr) vp.toNatClampNeg a2.toInt y_22 f_24 x5_4.toNatClampNeg := don_push v6_7 ey_22 ef_24 (Nat.le_of_lt (nc_lt (x := x5_4) (P := x4_7) (by omega) (by omega)))
                have hnq_ : nF f_24 x5_4.toNatClampNeg = nF c_c7_7 x5_4.toNatClampNeg := by unfold nF; rw [ef_24, pk_un (Nat.ne_of_lt (nc_lt (x := x5_4) (P := x4_7) (by omega) (by omega)))]
                have hy2_ : ∀ y2 : Int32, y2.toInt = x6_7.toInt + 1 → donY (zM Mr) a2.toInt y_22 (nF f_24 x5_4.toNatClampNeg) y2.toNatClampNeg := fun y2 ey => by rw [hnq_]; exact donY_push v8_7 (by omega) (by omega) ey_21 ey_22 ey
                obtain ⟨y_25, ey_25⟩ : ∃ y : Int32, y = x4_7 + 1 := ⟨_, rfl⟩
                have ty_25 : y_25.toInt = x4_7.toInt + (1 : Int32).toInt := by rw [ey_25]; exact addI (by omega) (by omega)
                refine lv_iinc (v := y_25) (lv' := [(4, .int y_25), (3, .int y_22), (6, .int x6_7), (5, .int x5_4), (0, .ref xc), (1, .int a1), (2, .int a2)]) hx hb dB_36_0_30.2.1.1 hl (k := 3) rfl (by rw [ey_25]; rfl) (by decide) rfl (fun ls hl => ?_)
                obtain ⟨y_26, ey_26⟩ : ∃ y : Int32, y = x6_7 + 1 := ⟨_, rfl⟩
                have ty_26 : y_26.toInt = x6_7.toInt + (1 : Int32).toInt := by rw [ey_26]; exact addI (by omega) (by omega)
                refine lv_iinc (v := y_26) (lv' := [(6, .int y_26), (4, .int y_25), (3, .int y_22), (5, .int x5_4), (0, .ref xc), (1, .int a1), (2, .int a2)]) hx hb dB_36_0_30.2.1.2.1 hl (k := 2) rfl (by rw [ey_26]; rfl) (by decide) rfl (fun ls hl => ?_)
                refine lv_goto (tgt := 34) hx hb dB_36_0_30.2.1.2.2 (by decide) ?_
                exact ih_7 y_26 y_25 y_22 f_24 _ _ _ (by omega) (by first | with_reducible assumption | omega | assumption) (by first | with_reducible assumption | omega | assumption) (by first | with_reducible assumption | omega | assumption) (by first | with_reducible assumption | omega | assumption) (by first | with_reducible assumption | assumption | exact hp_ _ (by omega)) (by first | with_reducible assumption | assumption | exact hb2_ _ (by omega)) (by first | with_reducible assumption | assumption | exact hd2_) (by first | with_reducible assumption | omega | assumption) (by first | exact donY_0 | exact hy2_ _ (by omega) | exact donY_met v8_7 (by omega) (by omega) (Or.inl (bt_nz hbw_ (by omega))) | exact donY_met v8_7 (by omega) (by omega) (Or.inr (by omega))) (by first | with_reducible assumption | assumption | exact rng_zero (by omega) (by omega) | exact orng_zero) ⟨hP, hD⟩ hS (lv_sub hl [0, 3, 1, 2, 4, 5, 6] rfl)

set_option maxHeartbeats 4000000 in
set_option maxRecDepth 100000 in
theorem c_X0_findWay2 (l : Launch) (D : va_G) (cy : Nat → ClassId) (sz : Nat) (xc : Nat) (xk : Nat) (clo : Nat) (cro : Nat) (c4 : Nat) (c5 : Nat) (c6 : Nat) (c7 : Nat) (c8 : Nat) (xn : Nat) (n1 : Nat) (n2 : Nat) (n3 : Nat) (n4 : Nat) (n5 : Nat) (vp : Int32) (vn : Int32) (rr : Nat → Nat) (Mr : Nat → Nat → Int32) (f7 : Nat → Int32) (f8 : Nat → Int32) (a1 : Int32) (a2 : Int32) (hvp : 0 ≤ vp.toInt ∧ vp.toInt ≤ 12) (q1 : 0 ≤ a1.toInt ∧ a1.toInt < vp.toInt) (q2 : 0 ≤ a2.toInt ∧ a2.toInt < vp.toInt) (hne : a1.toInt ≠ a2.toInt) (r_f7 : rng f7 12 (0) (11)) (r_f8 : rng f8 12 (0) (11)) : Met l yX0_findWay wsX0_findWay ({ frames := 0, cells := 0, slots := 0, locals := 0 }) (va_Pc [.ref xc, .int a1, .int a2] (fun U => U.heap.size = sz ∧ va_P D vwCl [ob0_0_ xc xn xk clo cro c4 c5 c6 c7 c8, ob3_0_ xn vp vn n1 n2 n3 n4 n5, aq_ cy 6 cro 12 (gf_ rr), ai_ cy (rr 0) 12 (Mr 0), ai_ cy (rr 1) 12 (Mr 1), ai_ cy (rr 2) 12 (Mr 2), ai_ cy (rr 3) 12 (Mr 3), ai_ cy (rr 4) 12 (Mr 4), ai_ cy (rr 5) 12 (Mr 5), ai_ cy (rr 6) 12 (Mr 6), ai_ cy (rr 7) 12 (Mr 7), ai_ cy (rr 8) 12 (Mr 8), ai_ cy (rr 9) 12 (Mr 9), ai_ cy (rr 10) 12 (Mr 10), ai_ cy (rr 11) 12 (Mr 11), ai_ cy c7 12 f7, ai_ cy c8 12 f8] U.heap ∧ kg_ D cy U ∧ va_D (fun _ => True) [ob0_0_ xc xn xk clo cro c4 c5 c6 c7 c8, ob3_0_ xn vp vn n1 n2 n3 n4 n5, aq_ cy 6 cro 12 (gf_ rr), ai_ cy (rr 0) 12 (Mr 0), ai_ cy (rr 1) 12 (Mr 1), ai_ cy (rr 2) 12 (Mr 2), ai_ cy (rr 3) 12 (Mr 3), ai_ cy (rr 4) 12 (Mr 4), ai_ cy (rr 5) 12 (Mr 5), ai_ cy (rr 6) 12 (Mr 6), ai_ cy (rr 7) 12 (Mr 7), ai_ cy (rr 8) 12 (Mr 8), ai_ cy (rr 9) 12 (Mr 9), ai_ cy (rr 10) 12 (Mr 10), ai_ cy (rr 11) 12 (Mr 11), ai_ cy c7 12 f7, ai_ cy c8 12 f8])) (va_Qi (fun (r : Int32) (u : Int32) => u = r ∧ ((r.toInt = 0 ∨ r.toInt = 1))) (fun (u : Int32) (t : State) => ∃ (e7 : Nat → Int32), ∃ (e8 : Nat → Int32), (u.toInt ≠ 0 → ∃ n : Nat, n ≤ 11 ∧ wayA (zM Mr) (nF e8) vp.toNatClampNeg a1.toNatClampNeg 1 n a2.toNatClampNeg) ∧ (u.toInt = 0 → ∃ S : Nat → Bool, sep a1.toNatClampNeg a2.toNatClampNeg S ∧ clsd (zM Mr) vp.toNatClampNeg 1 S) ∧ (rng e7 12 (0) (11)) ∧ (rng e8 12 (0) (11)) ∧ va_P D vwCl [ob0_0_ xc xn xk clo cro c4 c5 c6 c7 c8, ob3_0_ xn vp vn n1 n2 n3 n4 n5, aq_ cy 6 cro 12 (gf_ rr), ai_ cy (rr 0) 12 (Mr 0), ai_ cy (rr 1) 12 (Mr 1), ai_ cy (rr 2) 12 (Mr 2), ai_ cy (rr 3) 12 (Mr 3), ai_ cy (rr 4) 12 (Mr 4), ai_ cy (rr 5) 12 (Mr 5), ai_ cy (rr 6) 12 (Mr 6), ai_ cy (rr 7) 12 (Mr 7), ai_ cy (rr 8) 12 (Mr 8), ai_ cy (rr 9) 12 (Mr 9), ai_ cy (rr 10) 12 (Mr 10), ai_ cy (rr 11) 12 (Mr 11), ai_ cy c7 12 e7, ai_ cy c8 12 e8] t.heap ∧ va_D (va_A [ob0_0_ xc xn xk clo cro c4 c5 c6 c7 c8, ob3_0_ xn vp vn n1 n2 n3 n4 n5, aq_ cy 6 cro 12 (gf_ rr), ai_ cy (rr 0) 12 (Mr 0), ai_ cy (rr 1) 12 (Mr 1), ai_ cy (rr 2) 12 (Mr 2), ai_ cy (rr 3) 12 (Mr 3), ai_ cy (rr 4) 12 (Mr 4), ai_ cy (rr 5) 12 (Mr 5), ai_ cy (rr 6) 12 (Mr 6), ai_ cy (rr 7) 12 (Mr 7), ai_ cy (rr 8) 12 (Mr 8), ai_ cy (rr 9) 12 (Mr 9), ai_ cy (rr 10) 12 (Mr 10), ai_ cy (rr 11) 12 (Mr 11), ai_ cy c7 12 f7, ai_ cy c8 12 f8] sz) [ob0_0_ xc xn xk clo cro c4 c5 c6 c7 c8, ob3_0_ xn vp vn n1 n2 n3 n4 n5, aq_ cy 6 cro 12 (gf_ rr), ai_ cy (rr 0) 12 (Mr 0), ai_ cy (rr 1) 12 (Mr 1), ai_ cy (rr 2) 12 (Mr 2), ai_ cy (rr 3) 12 (Mr 3), ai_ cy (rr 4) 12 (Mr 4), ai_ cy (rr 5) 12 (Mr 5), ai_ cy (rr 6) 12 (Mr 6), ai_ cy (rr 7) 12 (Mr 7), ai_ cy (rr 8) 12 (Mr 8), ai_ cy (rr 9) 12 (Mr 9), ai_ cy (rr 10) 12 (Mr 10), ai_ cy (rr 11) 12 (Mr 11), ai_ cy c7 12 e7, ai_ cy c8 12 e8]) (va_A [ob0_0_ xc xn xk clo cro c4 c5 c6 c7 c8, ob3_0_ xn vp vn n1 n2 n3 n4 n5, aq_ cy 6 cro 12 (gf_ rr), ai_ cy (rr 0) 12 (Mr 0), ai_ cy (rr 1) 12 (Mr 1), ai_ cy (rr 2) 12 (Mr 2), ai_ cy (rr 3) 12 (Mr 3), ai_ cy (rr 4) 12 (Mr 4), ai_ cy (rr 5) 12 (Mr 5), ai_ cy (rr 6) 12 (Mr 6), ai_ cy (rr 7) 12 (Mr 7), ai_ cy (rr 8) 12 (Mr 8), ai_ cy (rr 9) 12 (Mr 9), ai_ cy (rr 10) 12 (Mr 10), ai_ cy (rr 11) 12 (Mr 11), ai_ cy c7 12 f7, ai_ cy c8 12 f8] sz)) 0 0 (va_A [ob0_0_ xc xn xk clo cro c4 c5 c6 c7 c8, ob3_0_ xn vp vn n1 n2 n3 n4 n5, aq_ cy 6 cro 12 (gf_ rr), ai_ cy (rr 0) 12 (Mr 0), ai_ cy (rr 1) 12 (Mr 1), ai_ cy (rr 2) 12 (Mr 2), ai_ cy (rr 3) 12 (Mr 3), ai_ cy (rr 4) 12 (Mr 4), ai_ cy (rr 5) 12 (Mr 5), ai_ cy (rr 6) 12 (Mr 6), ai_ cy (rr 7) 12 (Mr 7), ai_ cy (rr 8) 12 (Mr 8), ai_ cy (rr 9) 12 (Mr 9), ai_ cy (rr 10) 12 (Mr 10), ai_ cy (rr 11) 12 (Mr 11), ai_ cy c7 12 f7, ai_ cy c8 12 f8] sz) := by
  refine ofQ (cc := cX0_findWay) (maxL := 8) (ret := (some .boolean)) (by decide) rfl ?_
  intro p e s m args below meth c s₁ Q hQ B hml hv
  obtain ⟨rfl, hsz, hP, hK, hD0⟩ := hv
  have hG := hK.2
  have hK := hK.1
  have hx := B.exec
  have hb := B.bytes
  have hr := B.returns
  have hts := atoms_spec (ws := wsX0_findWay) B.pre
  have hown : s.vm.findClass RX0 = some m.cls := by have h_ := findClass_of_methodNamed B.named; exact h_
  have hlocks := B.notSynchronized
  subst hsz
  have hD := hD0.self (sz := s.heap.size)
  generalize hAe : va_A [ob0_0_ xc xn xk clo cro c4 c5 c6 c7 c8, ob3_0_ xn vp vn n1 n2 n3 n4 n5, aq_ cy 6 cro 12 (gf_ rr), ai_ cy (rr 0) 12 (Mr 0), ai_ cy (rr 1) 12 (Mr 1), ai_ cy (rr 2) 12 (Mr 2), ai_ cy (rr 3) 12 (Mr 3), ai_ cy (rr 4) 12 (Mr 4), ai_ cy (rr 5) 12 (Mr 5), ai_ cy (rr 6) 12 (Mr 6), ai_ cy (rr 7) 12 (Mr 7), ai_ cy (rr 8) 12 (Mr 8), ai_ cy (rr 9) 12 (Mr 9), ai_ cy (rr 10) 12 (Mr 10), ai_ cy (rr 11) 12 (Mr 11), ai_ cy c7 12 f7, ai_ cy c8 12 f8] s.heap.size = A at hD hQ
  have hA : ∀ q : Nat, s.heap.size ≤ q → A q := fun q h => by rw [← hAe]; exact Or.inr h
  have hS : va_S A s.heap s.heap [] := va_S.rf
  have hl := lv_entry ([.ref xc, .int a1, .int a2]) (n := 8) (Nat.le_of_ble_eq_true rfl)
  rw [lg_entry_eq]
  generalize (lg_sl ([.ref xc, .int a1, .int a2]) ++ List.replicate (8 - (lg_sl ([.ref xc, .int a1, .int a2])).length) Slot.unset).toArray = ls at hl ⊢
  have hl : lv_has ls 8 [(0, .ref xc), (1, .int a1), (2, .int a2)] := hl
  have z0 : (0 : Int32).toInt = 0 := by decide
  have z1 : (1 : Int32).toInt = 1 := by decide
  have z12 : (12 : Int32).toInt = 12 := by decide
  refine lv_iconst (v := 1) hx hb dB_36_0_8.1.1.1.1 (by decide) ?_
  refine lv_iload_n hx hb dB_36_0_8.1.1.1.2 rfl (lv_at hl 1 rfl) ?_
  refine lv_ishl hx hb dB_36_0_8.1.1.2.1 ?_
  refine lv_topi (fun y_1 ey_1 => ?_)
  refine lv_istore_n (lv' := [(3, .int y_1), (0, .ref xc), (1, .int a1), (2, .int a2)]) hx hb dB_36_0_8.1.1.2.2 rfl hl (by decide) rfl (fun ls hl => ?_)
  refine lv_iconst (v := 1) hx hb dB_36_0_8.1.2.1.1 (by decide) ?_
  refine lv_istore (lv' := [(4, .int 1), (3, .int y_1), (0, .ref xc), (1, .int a1), (2, .int a2)]) hx hb dB_36_0_8.1.2.1.2 hl (by decide) rfl (fun ls hl => ?_)
  refine lv_aload_n hx hb dB_36_0_8.1.2.2.1 rfl (lv_at hl 2 rfl) ?_
  refine va_get (ci := 0) (v := .ref c7) (C := RX0) (T := TX0) (N := 9) hx hb hts (fun _ h => List.mem_cons_of_mem _ (List.mem_append_left _ (List.mem_append_right _ h))) hown hK.1 hP 0 rfl rfl 7 (by decide) (hts (.fieldLink RX0 29 "CutAtlas$Current" "queue" "[I") (List.mem_of_getElem? (i := 1) rfl)) (fun _ h9 => h9) rfl dB_36_0_8.1.2.2.2 ?_
  refine lv_iconst (v := 0) hx hb dB_36_0_8.2.1.1.1 (by decide) ?_
  refine lv_iload_n hx hb dB_36_0_8.2.1.1.2 rfl (lv_at hl 3 rfl) ?_
  have h_2 : vp_in (0 : Int32) 12 := by unfold vp_in; decide
  refine va_iast hx hb hK.1 hP hD hS 15 0 rfl rfl (i := 0) h_2 dB_36_0_8.2.1.2.1 (fun H locs hP hD hS => ?_)
  obtain ⟨f_3, ef_3⟩ : ∃ g : Nat → Int32, g = upd f7 (0 : Int32).toNatClampNeg a1 := ⟨_, rfl⟩
  refine pd_K (D := D) (cl := vwCl) (H := H) (A := A) [ob0_0_ xc xn xk clo cro c4 c5 c6 c7 c8, ob3_0_ xn vp vn n1 n2 n3 n4 n5, aq_ cy 6 cro 12 (gf_ rr), ai_ cy (rr 0) 12 (Mr 0), ai_ cy (rr 1) 12 (Mr 1), ai_ cy (rr 2) 12 (Mr 2), ai_ cy (rr 3) 12 (Mr 3), ai_ cy (rr 4) 12 (Mr 4), ai_ cy (rr 5) 12 (Mr 5), ai_ cy (rr 6) 12 (Mr 6), ai_ cy (rr 7) 12 (Mr 7), ai_ cy (rr 8) 12 (Mr 8), ai_ cy (rr 9) 12 (Mr 9), ai_ cy (rr 10) 12 (Mr 10), ai_ cy (rr 11) 12 (Mr 11), ai_ cy c7 12 f_3, ai_ cy c8 12 f8] (by rw [ef_3]; exact hP) (by rw [ef_3]; exact hD) (fun hP hD => ?_)
  have rf_3 : rng f_3 12 (0) (11) := by rw [ef_3]; exact rng_upd r_f7 (by omega) (by omega)
  have hq_ : mq y_1 f_3 (1 : Int32).toNatClampNeg := mq_one (by assumption) (by assumption) (by omega) (by omega)
  have hbf_ : bfq (rC (zM Mr) f8) vp.toNatClampNeg a1.toNatClampNeg y_1 f_3 (1 : Int32).toNatClampNeg := bfq_one (by assumption) (by assumption) (by omega) (by omega) (nc_lt (by omega) (by omega))
  have hnt_ : bt y_1 a2.toNatClampNeg = false := nt_one (by assumption) (by omega) (by omega) (by omega)
  refine lv_iconst (v := 0) hx hb dB_36_0_8.2.1.2.2 (by decide) ?_
  refine lv_istore (lv' := [(5, .int 0), (4, .int 1), (3, .int y_1), (0, .ref xc), (1, .int a1), (2, .int a2)]) hx hb dB_36_0_8.2.2.1.1 hl (by decide) rfl (fun ls hl => ?_)
  suffices LOOP_4 : ∀ (n_4 : Nat) (x5_4 : Int32) (x4_4 : Int32) (x3_4 : Int32) (c_c7_4 : Nat → Int32) (c_c8_4 : Nat → Int32) (H : Heap) (locs : List Loc) (ls : Array Slot), 12 - x5_4.toInt < (n_4 : Int) → (1 ≤ x4_4.toInt) → (x4_4.toInt ≤ 12) → (0 ≤ x5_4.toInt) → (x5_4.toInt ≤ 12) → (mq x3_4 c_c7_4 x4_4.toNatClampNeg) → (bfq (rC (zM Mr) c_c8_4) vp.toNatClampNeg a1.toNatClampNeg x3_4 c_c7_4 x4_4.toNatClampNeg) → (don (zM Mr) vp.toNatClampNeg 1 x3_4 c_c7_4 x5_4.toNatClampNeg) → (bt x3_4 a2.toNatClampNeg = false) → (rng c_c7_4 12 (0) (11)) → (rng c_c8_4 12 (0) (11)) → pd_2 D vwCl A [ob0_0_ xc xn xk clo cro c4 c5 c6 c7 c8, ob3_0_ xn vp vn n1 n2 n3 n4 n5, aq_ cy 6 cro 12 (gf_ rr), ai_ cy (rr 0) 12 (Mr 0), ai_ cy (rr 1) 12 (Mr 1), ai_ cy (rr 2) 12 (Mr 2), ai_ cy (rr 3) 12 (Mr 3), ai_ cy (rr 4) 12 (Mr 4), ai_ cy (rr 5) 12 (Mr 5), ai_ cy (rr 6) 12 (Mr 6), ai_ cy (rr 7) 12 (Mr 7), ai_ cy (rr 8) 12 (Mr 8), ai_ cy (rr 9) 12 (Mr 9), ai_ cy (rr 10) 12 (Mr 10), ai_ cy (rr 11) 12 (Mr 11), ai_ cy c7 12 c_c7_4, ai_ cy c8 12 c_c8_4] H → va_S A s.heap H locs → lv_has ls 8 [(5, .int x5_4), (4, .int x4_4), (3, .int x3_4), (0, .ref xc), (1, .int a1), (2, .int a2)] → W p l e ({ frames := 0, cells := 0, slots := 0, locals := 0 } : Room) s m (([.ref xc, .int a1, .int a2] : List Value).toArray) below meth c H locs 0 0 Q (F0 m 17 ls []) from LOOP_4 ((12 - (0 : Int32).toInt).toNat + 1) (0 : Int32) (1 : Int32) y_1 f_3 f8 _ _ _ (by omega) (by first | with_reducible assumption | omega | assumption) (by first | with_reducible assumption | omega | assumption) (by first | with_reducible assumption | omega | assumption) (by first | with_reducible assumption | omega | assumption) (by first | with_reducible assumption | assumption | omega) (by first | exact hbf_ | assumption) (by first | exact don_0 | exact don_nx v_none v_none (by omega) (by omega) (by omega)) (by first | with_reducible assumption | omega | assumption) (by first | with_reducible assumption | assumption | exact rng_zero (by omega) (by omega) | exact orng_zero) (by first | with_reducible assumption | assumption | exact rng_zero (by omega) (by omega) | exact orng_zero) ⟨hP, hD⟩ hS (lv_sub hl [0, 1, 2, 3, 4, 5] rfl)
  intro n_4
  induction n_4 with
  | zero =>
    intro x5_4 x4_4 x3_4 c_c7_4 c_c8_4 H locs ls hm v0_4 v1_4 v2_4 v3_4 v4_4 v5_4 v6_4 v7_4 rc_c7_4 rc_c8_4 hPD hS hl; obtain ⟨hP, hD⟩ := hPD
    exact absurd hm (by omega)
  | succ n_4 ih_4 =>
    intro x5_4 x4_4 x3_4 c_c7_4 c_c8_4 H locs ls hm v0_4 v1_4 v2_4 v3_4 v4_4 v5_4 v6_4 v7_4 rc_c7_4 rc_c8_4 hPD hS hl; obtain ⟨hP, hD⟩ := hPD
    refine lv_iload hx hb dB_36_0_8.2.2.1.2 (lv_at hl 0 rfl) ?_
    refine lv_iload hx hb dB_36_0_8.2.2.2.1 (lv_at hl 1 rfl) ?_
    refine lv_icmp_ge (tgt := 125) hx hb dB_36_0_8.2.2.2.2 (by decide) (fun c_5 => ?_) (fun c_5 => ?_)
    · have t_5 : x4_4.toInt ≤ x5_4.toInt := Int32.le_iff_toInt_le.mp c_5
      refine lv_iconst (v := 0) hx hb dB_36_0_12.2.2.1 (by decide) ?_
      rw [hQ]
      exact W.zret (ty := .boolean) (v := 0) hx hb hr (by decide) (fun t ht hW => ⟨⟨0, 0, rfl, ⟨rfl, (by omega)⟩, c_c7_4, c_c8_4, (fun h => absurd rfl h), (fun _ => ⟨bt x3_4, ⟨bfq_s v5_4, v7_4⟩, bfq_clsd v5_4 v6_4 (nc_le (by omega) (by omega))⟩), (by first | with_reducible assumption | assumption | exact rng_zero (by omega) (by omega) | omega), (by first | with_reducible assumption | assumption | exact rng_zero (by omega) (by omega) | omega), by rw [ht]; exact hP, hD⟩, hS.F ht⟩) hS.2.2 dB_36_0_12.2.2.2
    · have t_5 : ¬ x4_4.toInt ≤ x5_4.toInt := fun h => c_5 (Int32.le_iff_toInt_le.mpr h)
      refine lv_iload hx hb dB_36_0_9.1.1.1.1 (lv_at hl 0 rfl) ?_
      refine lv_bipush (v := 12) hx hb dB_36_0_9.1.1.1.2 (by decide) ?_
      refine lv_icmp_ge (tgt := 125) hx hb dB_36_0_9.1.1.2.1 (by decide) (fun c_6 => ?_) (fun c_6 => ?_)
      · have t_6 : (12 : Int32).toInt ≤ x5_4.toInt := Int32.le_iff_toInt_le.mp c_6
        refine lv_iconst (v := 0) hx hb dB_36_0_12.2.2.1 (by decide) ?_
        rw [hQ]
        exact W.zret (ty := .boolean) (v := 0) hx hb hr (by decide) (fun t ht hW => ⟨⟨0, 0, rfl, ⟨rfl, (by omega)⟩, c_c7_4, c_c8_4, (fun h => absurd rfl h), (fun _ => ⟨bt x3_4, ⟨bfq_s v5_4, v7_4⟩, bfq_clsd v5_4 v6_4 (nc_le (by omega) (by omega))⟩), (by first | with_reducible assumption | assumption | exact rng_zero (by omega) (by omega) | omega), (by first | with_reducible assumption | assumption | exact rng_zero (by omega) (by omega) | omega), by rw [ht]; exact hP, hD⟩, hS.F ht⟩) hS.2.2 dB_36_0_12.2.2.2
      · have t_6 : ¬ (12 : Int32).toInt ≤ x5_4.toInt := fun h => c_6 (Int32.le_iff_toInt_le.mpr h)
        refine lv_aload_n hx hb dB_36_0_9.1.1.2.2 rfl (lv_at hl 3 rfl) ?_
        refine va_get (ci := 0) (v := .ref c7) (C := RX0) (T := TX0) (N := 9) hx hb hts (fun _ h => List.mem_cons_of_mem _ (List.mem_append_left _ (List.mem_append_right _ h))) hown hK.1 hP 0 rfl rfl 7 (by decide) (hts (.fieldLink RX0 29 "CutAtlas$Current" "queue" "[I") (List.mem_of_getElem? (i := 1) rfl)) (fun _ h9 => h9) rfl dB_36_0_9.1.2.1.1 ?_
        refine lv_iload hx hb dB_36_0_9.1.2.1.2 (lv_at hl 0 rfl) ?_
        have h_7 : vp_in x5_4 12 := in_I (by first | with_reducible assumption | omega) (by omega)
        refine va_iald hx hb hK.1 hP 15 0 rfl rfl (i := x5_4) h_7 dB_36_0_9.1.2.2.1 ?_
        refine lv_topi (fun y_8 ey_8 => ?_)
        have ry_8 : 0 ≤ y_8.toInt ∧ y_8.toInt ≤ 11 := by rw [ey_8]; exact rc_c7_4 _ (in_lt h_7)
        refine lv_istore (lv' := [(6, .int y_8), (5, .int x5_4), (4, .int x4_4), (3, .int x3_4), (0, .ref xc), (1, .int a1), (2, .int a2)]) hx hb dB_36_0_9.1.2.2.2 hl (by decide) rfl (fun ls hl => ?_)
        refine lv_iconst (v := 0) hx hb dB_36_0_9.2.1.1.1 (by decide) ?_
        refine lv_istore (lv' := [(7, .int 0), (6, .int y_8), (5, .int x5_4), (4, .int x4_4), (3, .int x3_4), (0, .ref xc), (1, .int a1), (2, .int a2)]) hx hb dB_36_0_9.2.1.1.2 hl (by decide) rfl (fun ls hl => ?_)
        suffices LOOP_9 : ∀ (n_9 : Nat) (x7_9 : Int32) (x4_9 : Int32) (x3_9 : Int32) (c_c7_9 : Nat → Int32) (c_c8_9 : Nat → Int32) (H : Heap) (locs : List Loc) (ls : Array Slot), vp.toInt - x7_9.toInt < (n_9 : Int) → (1 ≤ x4_9.toInt) → (x4_9.toInt ≤ 12) → (0 ≤ x7_9.toInt) → (x7_9.toInt ≤ vp.toInt) → (mq x3_9 c_c7_9 x4_9.toNatClampNeg) → (bfq (rC (zM Mr) c_c8_9) vp.toNatClampNeg a1.toNatClampNeg x3_9 c_c7_9 x4_9.toNatClampNeg) → (don (zM Mr) vp.toNatClampNeg 1 x3_9 c_c7_9 x5_4.toNatClampNeg) → (x5_4.toInt < x4_9.toInt) → (donY (zM Mr) 1 x3_9 (nF c_c7_9 x5_4.toNatClampNeg) x7_9.toNatClampNeg) → (bt x3_9 a2.toNatClampNeg = false) → (y_8 = c_c7_9 x5_4.toNatClampNeg) → (rng c_c7_9 12 (0) (11)) → (rng c_c8_9 12 (0) (11)) → pd_2 D vwCl A [ob0_0_ xc xn xk clo cro c4 c5 c6 c7 c8, ob3_0_ xn vp vn n1 n2 n3 n4 n5, aq_ cy 6 cro 12 (gf_ rr), ai_ cy (rr 0) 12 (Mr 0), ai_ cy (rr 1) 12 (Mr 1), ai_ cy (rr 2) 12 (Mr 2), ai_ cy (rr 3) 12 (Mr 3), ai_ cy (rr 4) 12 (Mr 4), ai_ cy (rr 5) 12 (Mr 5), ai_ cy (rr 6) 12 (Mr 6), ai_ cy (rr 7) 12 (Mr 7), ai_ cy (rr 8) 12 (Mr 8), ai_ cy (rr 9) 12 (Mr 9), ai_ cy (rr 10) 12 (Mr 10), ai_ cy (rr 11) 12 (Mr 11), ai_ cy c7 12 c_c7_9, ai_ cy c8 12 c_c8_9] H → va_S A s.heap H locs → lv_has ls 8 [(7, .int x7_9), (6, .int y_8), (5, .int x5_4), (4, .int x4_9), (3, .int x3_9), (0, .ref xc), (1, .int a1), (2, .int a2)] → W p l e ({ frames := 0, cells := 0, slots := 0, locals := 0 } : Room) s m (([.ref xc, .int a1, .int a2] : List Value).toArray) below meth c H locs 0 0 Q (F0 m 43 ls []) from LOOP_9 ((vp.toInt - (0 : Int32).toInt).toNat + 1) (0 : Int32) x4_4 x3_4 c_c7_4 c_c8_4 _ _ _ (by omega) (by first | with_reducible assumption | omega | assumption) (by first | with_reducible assumption | omega | assumption) (by first | with_reducible assumption | omega | assumption) (by first | with_reducible assumption | omega | assumption) (by first | with_reducible assumption | assumption | exact hp_ _ (by omega)) (by first | with_reducible assumption | assumption | exact hb2_ _ (by omega)) (by first | with_reducible assumption | assumption | exact hd2_) (by first | with_reducible assumption | omega | assumption) (by first | exact donY_0 | exact hy2_ _ (by omega) | exact donY_met v_none (by omega) (by omega) (Or.inl (bt_nz hbw_ (by omega))) | exact donY_met v_none (by omega) (by omega) (Or.inr (by omega))) (by first | with_reducible assumption | assumption | exact hn2_) (by first | with_reducible assumption | assumption | exact hx2_) (by first | with_reducible assumption | assumption | exact rng_zero (by omega) (by omega) | exact orng_zero) (by first | with_reducible assumption | assumption | exact rng_zero (by omega) (by omega) | exact orng_zero) ⟨hP, hD⟩ hS (lv_sub hl [0, 1, 2, 3, 4, 5, 6, 7] rfl)
        intro n_9
        induction n_9 with
        | zero =>
          intro x7_9 x4_9 x3_9 c_c7_9 c_c8_9 H locs ls hm v0_9 v1_9 v2_9 v3_9 v4_9 v5_9 v6_9 v7_9 v8_9 v9_9 v10_9 rc_c7_9 rc_c8_9 hPD hS hl; obtain ⟨hP, hD⟩ := hPD
          exact absurd hm (by omega)
        | succ n_9 ih_9 =>
          intro x7_9 x4_9 x3_9 c_c7_9 c_c8_9 H locs ls hm v0_9 v1_9 v2_9 v3_9 v4_9 v5_9 v6_9 v7_9 v8_9 v9_9 v10_9 rc_c7_9 rc_c8_9 hPD hS hl; obtain ⟨hP, hD⟩ := hPD
          refine lv_iload hx hb dB_36_0_9.2.1.2.1 (lv_at hl 0 rfl) ?_
          refine lv_aload_n hx hb dB_36_0_9.2.1.2.2 rfl (lv_at hl 5 rfl) ?_
          refine va_get (ci := 0) (v := .ref xn) (C := RX0) (T := TX0) (N := 9) hx hb hts (fun _ h => List.mem_cons_of_mem _ (List.mem_append_left _ (List.mem_append_right _ h))) hown hK.1 hP 0 rfl rfl 0 (by decide) (hts (.fieldLink RX0 35 "CutAtlas$Current" "net" "LCutAtlas$Net;") (List.mem_of_getElem? (i := 2) rfl)) (fun _ h9 => h9) rfl dB_36_0_9.2.2.1.1 ?_
          refine va_get (ci := 3) (v := .int vp) (C := RX3) (T := TX3) (N := 7) hx hb hts (fun _ h => List.mem_cons_of_mem _ (List.mem_append_right _ h)) hown hK.1 hP 1 rfl rfl 0 (by decide) (hts (.fieldLink RX0 43 "CutAtlas$Net" "places" "I") (List.mem_of_getElem? (i := 3) rfl)) (fun _ h9 => h9) rfl dB_36_0_9.2.2.1.2 ?_
          refine lv_icmp_ge (tgt := 119) hx hb dB_36_0_9.2.2.2.1 (by decide) (fun c_10 => ?_) (fun c_10 => ?_)
          · have t_10 : vp.toInt ≤ x7_9.toInt := Int32.le_iff_toInt_le.mp c_10
            obtain ⟨y_11, ey_11⟩ : ∃ y : Int32, y = x5_4 + 1 := ⟨_, rfl⟩
            have ty_11 : y_11.toInt = x5_4.toInt + (1 : Int32).toInt := by rw [ey_11]; exact addI (by omega) (by omega)
            refine lv_iinc (v := y_11) (lv' := [(5, .int y_11), (7, .int x7_9), (6, .int y_8), (4, .int x4_9), (3, .int x3_9), (0, .ref xc), (1, .int a1), (2, .int a2)]) hx hb dB_36_0_12.2.1.1 hl (k := 2) rfl (by rw [ey_11]; rfl) (by decide) rfl (fun ls hl => ?_)
            refine lv_goto (tgt := 17) hx hb dB_36_0_12.2.1.2 (by decide) ?_
            exact ih_4 y_11 x4_9 x3_9 c_c7_9 c_c8_9 _ _ _ (by omega) (by first | with_reducible assumption | omega | assumption) (by first | with_reducible assumption | omega | assumption) (by first | with_reducible assumption | omega | assumption) (by first | with_reducible assumption | omega | assumption) (by first | with_reducible assumption | assumption | omega) (by first | exact hbf_ | assumption) (by first | exact don_0 | exact don_nx v6_9 v8_9 (by omega) (by omega) (by omega)) (by first | with_reducible assumption | omega | assumption) (by first | with_reducible assumption | assumption | exact rng_zero (by omega) (by omega) | exact orng_zero) (by first | with_reducible assumption | assumption | exact rng_zero (by omega) (by omega) | exact orng_zero) ⟨hP, hD⟩ hS (lv_sub hl [0, 3, 4, 5, 6, 7] rfl)
          · have t_10 : ¬ vp.toInt ≤ x7_9.toInt := fun h => c_10 (Int32.le_iff_toInt_le.mpr h)
            refine lv_iload_n hx hb dB_36_0_9.2.2.2.2 rfl (lv_at hl 4 rfl) ?_
            refine lv_iload hx hb dB_36_0_10.1.1.1.1 (lv_at hl 0 rfl) ?_
            refine lv_ishr hx hb dB_36_0_10.1.1.1.2 ?_
            refine lv_topi (fun y_12 ey_12 => ?_)
            refine lv_iconst (v := 1) hx hb dB_36_0_10.1.1.2.1 (by decide) ?_
            refine lv_iand hx hb dB_36_0_10.1.1.2.2 ?_
            refine lv_topi (fun y_13 ey_13 => ?_)
            have hbw_ := bI_w (x := x3_9) (y := x7_9) (by omega) (by omega) ey_12 ey_13
            refine lv_if_ne (tgt := 113) hx hb dB_36_0_10.1.2.1.1 (by decide) (fun c_14 => ?_) (fun c_14 => ?_)
            · have t_14 : ¬ y_13.toInt = (0 : Int32).toInt := fun h => c_14 (Int32.toInt_inj.mp h)
              obtain ⟨y_15, ey_15⟩ : ∃ y : Int32, y = x7_9 + 1 := ⟨_, rfl⟩
              have ty_15 : y_15.toInt = x7_9.toInt + (1 : Int32).toInt := by rw [ey_15]; exact addI (by omega) (by omega)
              refine lv_iinc (v := y_15) (lv' := [(7, .int y_15), (6, .int y_8), (5, .int x5_4), (4, .int x4_9), (3, .int x3_9), (0, .ref xc), (1, .int a1), (2, .int a2)]) hx hb dB_36_0_12.1.2.1 hl (k := 0) rfl (by rw [ey_15]; rfl) (by decide) rfl (fun ls hl => ?_)
              refine lv_goto (tgt := 43) hx hb dB_36_0_12.1.2.2 (by decide) ?_
              exact ih_9 y_15 x4_9 x3_9 c_c7_9 c_c8_9 _ _ _ (by omega) (by first | with_reducible assumption | omega | assumption) (by first | with_reducible assumption | omega | assumption) (by first | with_reducible assumption | omega | assumption) (by first | with_reducible assumption | omega | assumption) (by first | with_reducible assumption | assumption | exact hp_ _ (by omega)) (by first | with_reducible assumption | assumption | exact hb2_ _ (by omega)) (by first | with_reducible assumption | assumption | exact hd2_) (by first | with_reducible assumption | omega | assumption) (by first | exact donY_0 | exact hy2_ _ (by omega) | exact donY_met v8_9 (by omega) (by omega) (Or.inl (bt_nz hbw_ (by omega))) | exact donY_met v8_9 (by omega) (by omega) (Or.inr (by omega))) (by first | with_reducible assumption | assumption | exact hn2_) (by first | with_reducible assumption | assumption | exact hx2_) (by first | with_reducible assumption | assumption | exact rng_zero (by omega) (by omega) | exact orng_zero) (by first | with_reducible assumption | assumption | exact rng_zero (by omega) (by omega) | exact orng_zero) ⟨hP, hD⟩ hS (lv_sub hl [0, 1, 2, 3, 4, 5, 6, 7] rfl)
            · have t_14 : y_13.toInt = (0 : Int32).toInt := congrArg Int32.toInt c_14
              have hun_ : bt x3_9 x7_9.toNatClampNeg = false := bt_zero (by omega) (by omega) ey_12 ey_13 (by omega)
              refine lv_aload_n hx hb dB_36_0_10.1.2.1.2 rfl (lv_at hl 5 rfl) ?_
              refine va_get (ci := 0) (v := .ref cro) (C := RX0) (T := TX0) (N := 9) hx hb hts (fun _ h => List.mem_cons_of_mem _ (List.mem_append_left _ (List.mem_append_right _ h))) hown hK.1 hP 0 rfl rfl 3 (by decide) (hts (.fieldLink RX0 16 "CutAtlas$Current" "room" "[[I") (List.mem_of_getElem? (i := 4) rfl)) (fun _ h9 => h9) rfl dB_36_0_10.1.2.2.1 ?_
              refine lv_iload hx hb dB_36_0_10.1.2.2.2 (lv_at hl 1 rfl) ?_
              have h_16 : vp_in y_8 12 := in_I (by first | with_reducible assumption | omega) (by omega)
              refine va_alda hx hb hG hP 2 rfl (i := y_8) h_16 dB_36_0_10.2.1.1.1 ?_
              refine lv_topv (v' := .ref (rr y_8.toNatClampNeg)) (gf_at h_16) ?_
              refine lv_iload hx hb dB_36_0_10.2.1.1.2 (lv_at hl 0 rfl) ?_
              have h_17 : vp_in x7_9 12 := in_I (by first | with_reducible assumption | omega) (by omega)
              have hPg : va_P D vwCl (([ob0_0_ xc xn xk clo cro c4 c5 c6 c7 c8, ob3_0_ xn vp vn n1 n2 n3 n4 n5, aq_ cy 6 cro 12 (gf_ rr)] : va_W) ++ (gro (cy 0) rr Mr ++ ([ai_ cy c7 12 c_c7_9, ai_ cy c8 12 c_c8_9] : va_W))) H := hP
              refine va_gld (X := [ob0_0_ xc xn xk clo cro c4 c5 c6 c7 c8, ob3_0_ xn vp vn n1 n2 n3 n4 n5, aq_ cy 6 cro 12 (gf_ rr)]) (Y := [ai_ cy c7 12 c_c7_9, ai_ cy c8 12 c_c8_9]) (r := rr) (M := Mr) (k := y_8.toNatClampNeg) hx hb hK.1 hPg 0 rfl (in_lt h_16) (i := x7_9) h_17 dB_36_0_10.2.1.2.1 ?_
              refine lv_topi (fun y_18 ey_18 => ?_)
              have hmw_ : y_18.toInt = zM Mr y_8.toNatClampNeg x7_9.toNatClampNeg := by unfold zM; rw [ey_18]
              have hmv_ : y_18.toInt = zM Mr (nF c_c7_9 x5_4.toNatClampNeg) x7_9.toNatClampNeg := by rw [hmw_, v10_9]; rfl
              refine lv_if_le (tgt := 113) hx hb dB_36_0_10.2.1.2.2 (by decide) (fun c_19 => ?_) (fun c_19 => ?_)
              · have t_19 : y_18.toInt ≤ (0 : Int32).toInt := Int32.le_iff_toInt_le.mp c_19
                obtain ⟨y_20, ey_20⟩ : ∃ y : Int32, y = x7_9 + 1 := ⟨_, rfl⟩
                have ty_20 : y_20.toInt = x7_9.toInt + (1 : Int32).toInt := by rw [ey_20]; exact addI (by omega) (by omega)
                refine lv_iinc (v := y_20) (lv' := [(7, .int y_20), (6, .int y_8), (5, .int x5_4), (4, .int x4_9), (3, .int x3_9), (0, .ref xc), (1, .int a1), (2, .int a2)]) hx hb dB_36_0_12.1.2.1 hl (k := 0) rfl (by rw [ey_20]; rfl) (by decide) rfl (fun ls hl => ?_)
                refine lv_goto (tgt := 43) hx hb dB_36_0_12.1.2.2 (by decide) ?_
                exact ih_9 y_20 x4_9 x3_9 c_c7_9 c_c8_9 _ _ _ (by omega) (by first | with_reducible assumption | omega | assumption) (by first | with_reducible assumption | omega | assumption) (by first | with_reducible assumption | omega | assumption) (by first | with_reducible assumption | omega | assumption) (by first | with_reducible assumption | assumption | exact hp_ _ (by omega)) (by first | with_reducible assumption | assumption | exact hb2_ _ (by omega)) (by first | with_reducible assumption | assumption | exact hd2_) (by first | with_reducible assumption | omega | assumption) (by first | exact donY_0 | exact hy2_ _ (by omega) | exact donY_met v8_9 (by omega) (by omega) (Or.inl (bt_nz hbw_ (by omega))) | exact donY_met v8_9 (by omega) (by omega) (Or.inr (by omega))) (by first | with_reducible assumption | assumption | exact hn2_) (by first | with_reducible assumption | assumption | exact hx2_) (by first | with_reducible assumption | assumption | exact rng_zero (by omega) (by omega) | exact orng_zero) (by first | with_reducible assumption | assumption | exact rng_zero (by omega) (by omega) | exact orng_zero) ⟨hP, hD⟩ hS (lv_sub hl [0, 1, 2, 3, 4, 5, 6, 7] rfl)
              · have t_19 : ¬ y_18.toInt ≤ (0 : Int32).toInt := fun h => c_19 (Int32.le_iff_toInt_le.mpr h)
                have hr_ : x4_9.toInt < 12 := mq_room (x := x3_9) (y := x7_9) (z := y_12) (w := y_13) (q := c_c7_9) (by assumption) (by omega) (by omega) (by assumption) (by assumption) (by omega) (by omega)
                refine lv_aload_n hx hb dB_36_0_10.2.2.1.1 rfl (lv_at hl 5 rfl) ?_
                refine va_get (ci := 0) (v := .ref c8) (C := RX0) (T := TX0) (N := 9) hx hb hts (fun _ h => List.mem_cons_of_mem _ (List.mem_append_left _ (List.mem_append_right _ h))) hown hK.1 hP 0 rfl rfl 8 (by decide) (hts (.fieldLink RX0 32 "CutAtlas$Current" "cameFrom" "[I") (List.mem_of_getElem? (i := 5) rfl)) (fun _ h9 => h9) rfl dB_36_0_10.2.2.1.2 ?_
                refine lv_iload hx hb dB_36_0_10.2.2.2.1 (lv_at hl 0 rfl) ?_
                refine lv_iload hx hb dB_36_0_10.2.2.2.2 (lv_at hl 1 rfl) ?_
                refine va_iast hx hb hK.1 hP hD hS 16 0 rfl rfl (i := x7_9) h_17 dB_36_0_11.1.1.1.1 (fun H locs hP hD hS => ?_)
                obtain ⟨f_22, ef_22⟩ : ∃ g : Nat → Int32, g = upd c_c8_9 x7_9.toNatClampNeg y_8 := ⟨_, rfl⟩
                refine pd_K (D := D) (cl := vwCl) (H := H) (A := A) [ob0_0_ xc xn xk clo cro c4 c5 c6 c7 c8, ob3_0_ xn vp vn n1 n2 n3 n4 n5, aq_ cy 6 cro 12 (gf_ rr), ai_ cy (rr 0) 12 (Mr 0), ai_ cy (rr 1) 12 (Mr 1), ai_ cy (rr 2) 12 (Mr 2), ai_ cy (rr 3) 12 (Mr 3), ai_ cy (rr 4) 12 (Mr 4), ai_ cy (rr 5) 12 (Mr 5), ai_ cy (rr 6) 12 (Mr 6), ai_ cy (rr 7) 12 (Mr 7), ai_ cy (rr 8) 12 (Mr 8), ai_ cy (rr 9) 12 (Mr 9), ai_ cy (rr 10) 12 (Mr 10), ai_ cy (rr 11) 12 (Mr 11), ai_ cy c7 12 c_c7_9, ai_ cy c8 12 f_22] (by rw [ef_22]; exact hP) (by rw [ef_22]; exact hD) (fun hP hD => ?_)
                have rf_22 : rng f_22 12 (0) (11) := by rw [ef_22]; exact rng_upd rc_c8_9 (by omega) (by omega)
                refine lv_iload hx hb dB_36_0_11.1.1.1.2 (lv_at hl 0 rfl) ?_
                refine lv_iload_n hx hb dB_36_0_11.1.1.2.1 rfl (lv_at hl 7 rfl) ?_
                refine lv_icmp_ne (tgt := 94) hx hb dB_36_0_11.1.1.2.2 (by decide) (fun c_23 => ?_) (fun c_23 => ?_)
                · have t_23 : ¬ x7_9.toInt = a2.toInt := fun h => c_23 (Int32.toInt_inj.mp h)
                  refine lv_iload_n hx hb dB_36_0_11.1.2.2.1 rfl (lv_at hl 4 rfl) ?_
                  refine lv_iconst (v := 1) hx hb dB_36_0_11.1.2.2.2 (by decide) ?_
                  refine lv_iload hx hb dB_36_0_11.2.1.1.1 (lv_at hl 0 rfl) ?_
                  refine lv_ishl hx hb dB_36_0_11.2.1.1.2 ?_
                  refine lv_topi (fun y_24 ey_24 => ?_)
                  refine lv_ior hx hb dB_36_0_11.2.1.2.1 ?_
                  refine lv_topi (fun y_25 ey_25 => ?_)
                  refine lv_istore_n (lv' := [(3, .int y_25), (7, .int x7_9), (6, .int y_8), (5, .int x5_4), (4, .int x4_9), (0, .ref xc), (1, .int a1), (2, .int a2)]) hx hb dB_36_0_11.2.1.2.2 rfl hl (by decide) rfl (fun ls hl => ?_)
                  refine lv_aload_n hx hb dB_36_0_11.2.2.1.1 rfl (lv_at hl 5 rfl) ?_
                  refine va_get (ci := 0) (v := .ref c7) (C := RX0) (T := TX0) (N := 9) hx hb hts (fun _ h => List.mem_cons_of_mem _ (List.mem_append_left _ (List.mem_append_right _ h))) hown hK.1 hP 0 rfl rfl 7 (by decide) (hts (.fieldLink RX0 29 "CutAtlas$Current" "queue" "[I") (List.mem_of_getElem? (i := 1) rfl)) (fun _ h9 => h9) rfl dB_36_0_11.2.2.1.2 ?_
                  refine lv_iload hx hb dB_36_0_11.2.2.2.1 (lv_at hl 4 rfl) ?_
                  refine lv_iload hx hb dB_36_0_11.2.2.2.2 (lv_at hl 1 rfl) ?_
                  have h_26 : vp_in x4_9 12 := in_I (by first | with_reducible assumption | omega) (by omega)
                  refine va_iast hx hb hK.1 hP hD hS 15 0 rfl rfl (i := x4_9) h_26 dB_36_0_12.1.1.1 (fun H locs hP hD hS => ?_)
                  obtain ⟨f_27, ef_27⟩ : ∃ g : Nat → Int32, g = upd c_c7_9 x4_9.toNatClampNeg x7_9 := ⟨_, rfl⟩
                  refine pd_K (D := D) (cl := vwCl) (H := H) (A := A) [ob0_0_ xc xn xk clo cro c4 c5 c6 c7 c8, ob3_0_ xn vp vn n1 n2 n3 n4 n5, aq_ cy 6 cro 12 (gf_ rr), ai_ cy (rr 0) 12 (Mr 0), ai_ cy (rr 1) 12 (Mr 1), ai_ cy (rr 2) 12 (Mr 2), ai_ cy (rr 3) 12 (Mr 3), ai_ cy (rr 4) 12 (Mr 4), ai_ cy (rr 5) 12 (Mr 5), ai_ cy (rr 6) 12 (Mr 6), ai_ cy (rr 7) 12 (Mr 7), ai_ cy (rr 8) 12 (Mr 8), ai_ cy (rr 9) 12 (Mr 9), ai_ cy (rr 10) 12 (Mr 10), ai_ cy (rr 11) 12 (Mr 11), ai_ cy c7 12 f_27, ai_ cy c8 12 f_22] (by rw [ef_27]; exact hP) (by rw [ef_27]; exact hD) (fun hP hD => ?_)
                  have rf_27 : rng f_27 12 (0) (11) := by rw [ef_27]; exact rng_upd rc_c7_9 (by omega) (by omega)
                  have hp_ : ∀ m2 : Int32, m2.toInt = x4_9.toInt + 1 → mq y_25 f_27 m2.toNatClampNeg := fun m2 em => mq_push (x := x3_9) (y := x7_9) (z := y_12) (w := y_13) (m := x4_9) (b := y_24) (q := c_c7_9) (by assumption) (by omega) (by omega) (by assumption) (by assumption) (by omega) (by omega) (by assumption) (by assumption) (by assumption) em
                  have hb2_ : ∀ m2 : Int32, m2.toInt = x4_9.toInt + 1 → bfq (rC (zM Mr) f_22) vp.toNatClampNeg a1.toNatClampNeg y_25 f_27 m2.toNatClampNeg := fun m2 em => bfq_push (h := x5_4.toNatClampNeg) v5_9 (by omega) (by omega) (nc_lt (by omega) (by omega)) (by omega) ey_24 ey_25 ef_27 em (nc_lt (x := x5_4) (P := x4_9) (by omega) (by omega)) (rC_up ef_22) hun_ (by have h_ := rC_new (M := zM Mr) (x := y_8) ef_22 (by omega); rw [show nF c_c7_9 x5_4.toNatClampNeg = y_8.toNatClampNeg by rw [v10_9]; rfl]; exact h_)
                  have hd2_ : don (zM Mr) vp.toNatClampNeg 1 y_25 f_27 x5_4.toNatClampNeg := don_push v6_9 ey_25 ef_27 (Nat.le_of_lt (nc_lt (x := x5_4) (P := x4_9) (by omega) (by omega)))
                  have hq9_ : f_27 x5_4.toNatClampNeg = c_c7_9 x5_4.toNatClampNeg := by rw [ef_27, pk_un (Nat.ne_of_lt (nc_lt (x := x5_4) (P := x4_9) (by omega) (by omega)))]
                  have hnq_ : nF f_27 x5_4.toNatClampNeg = nF c_c7_9 x5_4.toNatClampNeg := by unfold nF; rw [hq9_]
                  have hy2_ : ∀ y2 : Int32, y2.toInt = x7_9.toInt + 1 → donY (zM Mr) 1 y_25 (nF f_27 x5_4.toNatClampNeg) y2.toNatClampNeg := fun y2 ey => by rw [hnq_]; exact donY_push v8_9 (by omega) (by omega) ey_24 ey_25 ey
                  have hn2_ : bt y_25 a2.toNatClampNeg = false := nt_push v9_9 ey_24 ey_25 (by omega) (by omega) (by omega)
                  have hx2_ : y_8 = f_27 x5_4.toNatClampNeg := v10_9.trans hq9_.symm
                  obtain ⟨y_28, ey_28⟩ : ∃ y : Int32, y = x4_9 + 1 := ⟨_, rfl⟩
                  have ty_28 : y_28.toInt = x4_9.toInt + (1 : Int32).toInt := by rw [ey_28]; exact addI (by omega) (by omega)
                  refine lv_iinc (v := y_28) (lv' := [(4, .int y_28), (3, .int y_25), (7, .int x7_9), (6, .int y_8), (5, .int x5_4), (0, .ref xc), (1, .int a1), (2, .int a2)]) hx hb dB_36_0_12.1.1.2 hl (k := 4) rfl (by rw [ey_28]; rfl) (by decide) rfl (fun ls hl => ?_)
                  obtain ⟨y_29, ey_29⟩ : ∃ y : Int32, y = x7_9 + 1 := ⟨_, rfl⟩
                  have ty_29 : y_29.toInt = x7_9.toInt + (1 : Int32).toInt := by rw [ey_29]; exact addI (by omega) (by omega)
                  refine lv_iinc (v := y_29) (lv' := [(7, .int y_29), (4, .int y_28), (3, .int y_25), (6, .int y_8), (5, .int x5_4), (0, .ref xc), (1, .int a1), (2, .int a2)]) hx hb dB_36_0_12.1.2.1 hl (k := 2) rfl (by rw [ey_29]; rfl) (by decide) rfl (fun ls hl => ?_)
                  refine lv_goto (tgt := 43) hx hb dB_36_0_12.1.2.2 (by decide) ?_
                  exact ih_9 y_29 y_28 y_25 f_27 f_22 _ _ _ (by omega) (by first | with_reducible assumption | omega | assumption) (by first | with_reducible assumption | omega | assumption) (by first | with_reducible assumption | omega | assumption) (by first | with_reducible assumption | omega | assumption) (by first | with_reducible assumption | assumption | exact hp_ _ (by omega)) (by first | with_reducible assumption | assumption | exact hb2_ _ (by omega)) (by first | with_reducible assumption | assumption | exact hd2_) (by first | with_reducible assumption | omega | assumption) (by first | exact donY_0 | exact hy2_ _ (by omega) | exact donY_met v8_9 (by omega) (by omega) (Or.inl (bt_nz hbw_ (by omega))) | exact donY_met v8_9 (by omega) (by omega) (Or.inr (by omega))) (by first | with_reducible assumption | assumption | exact hn2_) (by first | with_reducible assumption | assumption | exact hx2_) (by first | with_reducible assumption | assumption | exact rng_zero (by omega) (by omega) | exact orng_zero) (by first | with_reducible assumption | assumption | exact rng_zero (by omega) (by omega) | exact orng_zero) ⟨hP, hD⟩ hS (lv_sub hl [0, 3, 4, 1, 2, 5, 6, 7] rfl)
                · have t_23 : x7_9.toInt = a2.toInt := congrArg Int32.toInt c_23
                  refine lv_iconst (v := 1) hx hb dB_36_0_11.1.2.1.1 (by decide) ?_
                  rw [hQ]
                  exact W.zret (ty := .boolean) (v := 1) hx hb hr (by decide) (fun t ht hW => ⟨⟨1, 1, rfl, ⟨rfl, (by omega)⟩, c_c7_9, f_22, (fun _ => by rw [show a2 = x7_9 from Int32.toInt_inj.mp (by omega)]; exact way_yes (x := y_8) v5_9 v4_9 ef_22 hun_ v10_9 (nc_lt (x := x5_4) (P := x4_9) (by omega) (by omega)) (by have c_ := clI (i := x4_9) (by omega); omega) (nc_lt (by omega) (by omega)) (by omega)), (fun h => absurd h (by decide)), (by first | with_reducible assumption | assumption | exact rng_zero (by omega) (by omega) | omega), (by first | with_reducible assumption | assumption | exact rng_zero (by omega) (by omega) | omega), by rw [ht]; exact hP, hD⟩, hS.F ht⟩) hS.2.2 dB_36_0_11.1.2.1.2
end

section
set_option maxHeartbeats 4000000 in
set_option maxRecDepth 100000 in
theorem c_X0_sendOver2 (l : Launch) (D : va_G) (cy : Nat → ClassId) (sz : Nat) (xc : Nat) (xk : Nat) (clo : Nat) (cro : Nat) (c4 : Nat) (c5 : Nat) (c6 : Nat) (c7 : Nat) (c8 : Nat) (xn : Nat) (n1 : Nat) (n2 : Nat) (n3 : Nat) (n4 : Nat) (n5 : Nat) (vp : Int32) (vn : Int32) (fs : Nat → Int32) (fe : Nat → Int32) (rr : Nat → Nat) (Mr : Nat → Nat → Int32) (f4 : Nat → Int32) (f5 : Nat → Int32) (f6 : Nat → Int32) (a1 : Int32) (a2 : Int32) (a3 : Int32) (hvp : 0 ≤ vp.toInt ∧ vp.toInt ≤ 12) (hvn : 0 ≤ vn.toInt ∧ vn.toInt ≤ 40) (q1 : 0 ≤ a1.toInt ∧ a1.toInt < vp.toInt) (q2 : 0 ≤ a2.toInt ∧ a2.toInt < vp.toInt) (hrm : rmk (zM Mr) vp.toNatClampNeg) (ha : 0 ≤ a3.toInt ∧ a3.toInt ≤ zM Mr a1.toNatClampNeg a2.toNatClampNeg) : Met l yX0_sendOver wsX0_sendOver ({ frames := 1, cells := 0, slots := 0, locals := 13 }) (va_Pc [.ref xc, .int a1, .int a2, .int a3] (fun U => U.heap.size = sz ∧ va_P D vwCl [ob0_0_ xc xn xk clo cro c4 c5 c6 c7 c8, ob3_0_ xn vp vn n1 n2 n3 n4 n5, ai_ cy n2 40 fs, ai_ cy n3 40 fe, aq_ cy 6 cro 12 (gf_ rr), ai_ cy (rr 0) 12 (Mr 0), ai_ cy (rr 1) 12 (Mr 1), ai_ cy (rr 2) 12 (Mr 2), ai_ cy (rr 3) 12 (Mr 3), ai_ cy (rr 4) 12 (Mr 4), ai_ cy (rr 5) 12 (Mr 5), ai_ cy (rr 6) 12 (Mr 6), ai_ cy (rr 7) 12 (Mr 7), ai_ cy (rr 8) 12 (Mr 8), ai_ cy (rr 9) 12 (Mr 9), ai_ cy (rr 10) 12 (Mr 10), ai_ cy (rr 11) 12 (Mr 11), ai_ cy c4 40 f4, ai_ cy c5 40 f5, ai_ cy c6 40 f6] U.heap ∧ kg_ D cy U ∧ va_D (fun _ => True) [ob0_0_ xc xn xk clo cro c4 c5 c6 c7 c8, ob3_0_ xn vp vn n1 n2 n3 n4 n5, ai_ cy n2 40 fs, ai_ cy n3 40 fe, aq_ cy 6 cro 12 (gf_ rr), ai_ cy (rr 0) 12 (Mr 0), ai_ cy (rr 1) 12 (Mr 1), ai_ cy (rr 2) 12 (Mr 2), ai_ cy (rr 3) 12 (Mr 3), ai_ cy (rr 4) 12 (Mr 4), ai_ cy (rr 5) 12 (Mr 5), ai_ cy (rr 6) 12 (Mr 6), ai_ cy (rr 7) 12 (Mr 7), ai_ cy (rr 8) 12 (Mr 8), ai_ cy (rr 9) 12 (Mr 9), ai_ cy (rr 10) 12 (Mr 10), ai_ cy (rr 11) 12 (Mr 11), ai_ cy c4 40 f4, ai_ cy c5 40 f5, ai_ cy c6 40 f6])) (va_Qv (fun (_ : Unit) => True) (fun (_ : Unit) (t : State) => ∃ (eMr : Nat → Nat → Int32), ∃ (e4 : Nat → Int32), (edg (zM Mr) (zM eMr) a1.toNatClampNeg a2.toNatClampNeg a3.toInt) ∧ va_P D vwCl [ob0_0_ xc xn xk clo cro c4 c5 c6 c7 c8, ob3_0_ xn vp vn n1 n2 n3 n4 n5, ai_ cy n2 40 fs, ai_ cy n3 40 fe, aq_ cy 6 cro 12 (gf_ rr), ai_ cy (rr 0) 12 (eMr 0), ai_ cy (rr 1) 12 (eMr 1), ai_ cy (rr 2) 12 (eMr 2), ai_ cy (rr 3) 12 (eMr 3), ai_ cy (rr 4) 12 (eMr 4), ai_ cy (rr 5) 12 (eMr 5), ai_ cy (rr 6) 12 (eMr 6), ai_ cy (rr 7) 12 (eMr 7), ai_ cy (rr 8) 12 (eMr 8), ai_ cy (rr 9) 12 (eMr 9), ai_ cy (rr 10) 12 (eMr 10), ai_ cy (rr 11) 12 (eMr 11), ai_ cy c4 40 e4, ai_ cy c5 40 f5, ai_ cy c6 40 f6] t.heap ∧ va_D (va_A [ob0_0_ xc xn xk clo cro c4 c5 c6 c7 c8, ob3_0_ xn vp vn n1 n2 n3 n4 n5, ai_ cy n2 40 fs, ai_ cy n3 40 fe, aq_ cy 6 cro 12 (gf_ rr), ai_ cy (rr 0) 12 (Mr 0), ai_ cy (rr 1) 12 (Mr 1), ai_ cy (rr 2) 12 (Mr 2), ai_ cy (rr 3) 12 (Mr 3), ai_ cy (rr 4) 12 (Mr 4), ai_ cy (rr 5) 12 (Mr 5), ai_ cy (rr 6) 12 (Mr 6), ai_ cy (rr 7) 12 (Mr 7), ai_ cy (rr 8) 12 (Mr 8), ai_ cy (rr 9) 12 (Mr 9), ai_ cy (rr 10) 12 (Mr 10), ai_ cy (rr 11) 12 (Mr 11), ai_ cy c4 40 f4, ai_ cy c5 40 f5, ai_ cy c6 40 f6] sz) [ob0_0_ xc xn xk clo cro c4 c5 c6 c7 c8, ob3_0_ xn vp vn n1 n2 n3 n4 n5, ai_ cy n2 40 fs, ai_ cy n3 40 fe, aq_ cy 6 cro 12 (gf_ rr), ai_ cy (rr 0) 12 (eMr 0), ai_ cy (rr 1) 12 (eMr 1), ai_ cy (rr 2) 12 (eMr 2), ai_ cy (rr 3) 12 (eMr 3), ai_ cy (rr 4) 12 (eMr 4), ai_ cy (rr 5) 12 (eMr 5), ai_ cy (rr 6) 12 (eMr 6), ai_ cy (rr 7) 12 (eMr 7), ai_ cy (rr 8) 12 (eMr 8), ai_ cy (rr 9) 12 (eMr 9), ai_ cy (rr 10) 12 (eMr 10), ai_ cy (rr 11) 12 (eMr 11), ai_ cy c4 40 e4, ai_ cy c5 40 f5, ai_ cy c6 40 f6]) (va_A [ob0_0_ xc xn xk clo cro c4 c5 c6 c7 c8, ob3_0_ xn vp vn n1 n2 n3 n4 n5, ai_ cy n2 40 fs, ai_ cy n3 40 fe, aq_ cy 6 cro 12 (gf_ rr), ai_ cy (rr 0) 12 (Mr 0), ai_ cy (rr 1) 12 (Mr 1), ai_ cy (rr 2) 12 (Mr 2), ai_ cy (rr 3) 12 (Mr 3), ai_ cy (rr 4) 12 (Mr 4), ai_ cy (rr 5) 12 (Mr 5), ai_ cy (rr 6) 12 (Mr 6), ai_ cy (rr 7) 12 (Mr 7), ai_ cy (rr 8) 12 (Mr 8), ai_ cy (rr 9) 12 (Mr 9), ai_ cy (rr 10) 12 (Mr 10), ai_ cy (rr 11) 12 (Mr 11), ai_ cy c4 40 f4, ai_ cy c5 40 f5, ai_ cy c6 40 f6] sz)) 0 0 (va_A [ob0_0_ xc xn xk clo cro c4 c5 c6 c7 c8, ob3_0_ xn vp vn n1 n2 n3 n4 n5, ai_ cy n2 40 fs, ai_ cy n3 40 fe, aq_ cy 6 cro 12 (gf_ rr), ai_ cy (rr 0) 12 (Mr 0), ai_ cy (rr 1) 12 (Mr 1), ai_ cy (rr 2) 12 (Mr 2), ai_ cy (rr 3) 12 (Mr 3), ai_ cy (rr 4) 12 (Mr 4), ai_ cy (rr 5) 12 (Mr 5), ai_ cy (rr 6) 12 (Mr 6), ai_ cy (rr 7) 12 (Mr 7), ai_ cy (rr 8) 12 (Mr 8), ai_ cy (rr 9) 12 (Mr 9), ai_ cy (rr 10) 12 (Mr 10), ai_ cy (rr 11) 12 (Mr 11), ai_ cy c4 40 f4, ai_ cy c5 40 f5, ai_ cy c6 40 f6] sz) := by
  refine ofQ (cc := cX0_sendOver) (maxL := 7) (ret := none) (by decide) rfl ?_
  intro p e s m args below meth c s₁ Q hQ B hml hv
  obtain ⟨rfl, hsz, hP, hK, hD0⟩ := hv
  have hG := hK.2
  have hK := hK.1
  have hx := B.exec
  have hb := B.bytes
  have hr := B.returns
  have hts := atoms_spec (ws := wsX0_sendOver) B.pre
  have hown : s.vm.findClass RX0 = some m.cls := by have h_ := findClass_of_methodNamed B.named; exact h_
  have hlocks := B.notSynchronized
  subst hsz
  have hD := hD0.self (sz := s.heap.size)
  generalize hAe : va_A [ob0_0_ xc xn xk clo cro c4 c5 c6 c7 c8, ob3_0_ xn vp vn n1 n2 n3 n4 n5, ai_ cy n2 40 fs, ai_ cy n3 40 fe, aq_ cy 6 cro 12 (gf_ rr), ai_ cy (rr 0) 12 (Mr 0), ai_ cy (rr 1) 12 (Mr 1), ai_ cy (rr 2) 12 (Mr 2), ai_ cy (rr 3) 12 (Mr 3), ai_ cy (rr 4) 12 (Mr 4), ai_ cy (rr 5) 12 (Mr 5), ai_ cy (rr 6) 12 (Mr 6), ai_ cy (rr 7) 12 (Mr 7), ai_ cy (rr 8) 12 (Mr 8), ai_ cy (rr 9) 12 (Mr 9), ai_ cy (rr 10) 12 (Mr 10), ai_ cy (rr 11) 12 (Mr 11), ai_ cy c4 40 f4, ai_ cy c5 40 f5, ai_ cy c6 40 f6] s.heap.size = A at hD hQ
  have hA : ∀ q : Nat, s.heap.size ≤ q → A q := fun q h => by rw [← hAe]; exact Or.inr h
  have hS : va_S A s.heap s.heap [] := va_S.rf
  have hl := lv_entry ([.ref xc, .int a1, .int a2, .int a3]) (n := 7) (Nat.le_of_ble_eq_true rfl)
  rw [lg_entry_eq]
  generalize (lg_sl ([.ref xc, .int a1, .int a2, .int a3]) ++ List.replicate (7 - (lg_sl ([.ref xc, .int a1, .int a2, .int a3])).length) Slot.unset).toArray = ls at hl ⊢
  have hl : lv_has ls 7 [(0, .ref xc), (1, .int a1), (2, .int a2), (3, .int a3)] := hl
  have z0 : (0 : Int32).toInt = 0 := by decide
  have z1 : (1 : Int32).toInt = 1 := by decide
  have h12_ := hrm _ _ (nc_lt (x := a1) (P := vp) (by omega) (by omega)) (nc_lt (x := a2) (P := vp) (by omega) (by omega))
  have h21_ := hrm _ _ (nc_lt (x := a2) (P := vp) (by omega) (by omega)) (nc_lt (x := a1) (P := vp) (by omega) (by omega))
  refine lv_aload_n hx hb dB_36_0_39.1.1.1.1 rfl (lv_at hl 0 rfl) ?_
  refine va_get (ci := 0) (v := .ref cro) (C := RX0) (T := TX0) (N := 9) hx hb hts (fun _ h => List.mem_cons_of_mem _ (List.mem_append_left _ (List.mem_append_right _ h))) hown hK.1 hP 0 rfl rfl 3 (by decide) (hts (.fieldLink RX0 16 "CutAtlas$Current" "room" "[[I") (List.mem_of_getElem? (i := 1) rfl)) (fun _ h9 => h9) rfl dB_36_0_39.1.1.1.2 ?_
  refine lv_iload_n hx hb dB_36_0_39.1.1.2.1 rfl (lv_at hl 1 rfl) ?_
  have h_1 : vp_in a1 12 := in_I (by first | with_reducible assumption | omega) (by omega)
  refine va_alda hx hb hG hP 4 rfl (i := a1) h_1 dB_36_0_39.1.1.2.2 ?_
  refine lv_topv (v' := .ref (rr a1.toNatClampNeg)) (gf_at h_1) ?_
  refine lv_iload_n hx hb dB_36_0_39.1.2.1.1 rfl (lv_at hl 2 rfl) ?_
  refine lv_dup2_11 hx hb dB_36_0_39.1.2.1.2 rfl rfl ?_
  have h_2 : vp_in a2 12 := in_I (by first | with_reducible assumption | omega) (by omega)
  have hPg : va_P D vwCl (([ob0_0_ xc xn xk clo cro c4 c5 c6 c7 c8, ob3_0_ xn vp vn n1 n2 n3 n4 n5, ai_ cy n2 40 fs, ai_ cy n3 40 fe, aq_ cy 6 cro 12 (gf_ rr)] : va_W) ++ (gro (cy 0) rr Mr ++ ([ai_ cy c4 40 f4, ai_ cy c5 40 f5, ai_ cy c6 40 f6] : va_W))) s.heap := hP
  refine va_gld (X := [ob0_0_ xc xn xk clo cro c4 c5 c6 c7 c8, ob3_0_ xn vp vn n1 n2 n3 n4 n5, ai_ cy n2 40 fs, ai_ cy n3 40 fe, aq_ cy 6 cro 12 (gf_ rr)]) (Y := [ai_ cy c4 40 f4, ai_ cy c5 40 f5, ai_ cy c6 40 f6]) (r := rr) (M := Mr) (k := a1.toNatClampNeg) hx hb hK.1 hPg 0 rfl (in_lt h_1) (i := a2) h_2 dB_36_0_39.1.2.2.1 ?_
  refine lv_topi (fun y_3 ey_3 => ?_)
  have km1_ : y_3.toInt = zM Mr a1.toNatClampNeg a2.toNatClampNeg := by unfold zM; rw [ey_3]
  refine lv_iload_n hx hb dB_36_0_39.1.2.2.2 rfl (lv_at hl 3 rfl) ?_
  refine lv_isub hx hb dB_36_0_39.2.1.1.1 ?_
  refine lv_topi (fun y_4 ey_4 => ?_)
  have ty_4 : y_4.toInt = y_3.toInt - a3.toInt := by rw [ey_4]; exact subI (by omega) (by omega)
  have h1_ : y_4.toInt = (Mr a1.toNatClampNeg a2.toNatClampNeg).toInt - a3.toInt := by rw [show (Mr a1.toNatClampNeg a2.toNatClampNeg).toInt = zM Mr a1.toNatClampNeg a2.toNatClampNeg from rfl]; omega
  have hPg : va_P D vwCl (([ob0_0_ xc xn xk clo cro c4 c5 c6 c7 c8, ob3_0_ xn vp vn n1 n2 n3 n4 n5, ai_ cy n2 40 fs, ai_ cy n3 40 fe, aq_ cy 6 cro 12 (gf_ rr)] : va_W) ++ (gro (cy 0) rr Mr ++ ([ai_ cy c4 40 f4, ai_ cy c5 40 f5, ai_ cy c6 40 f6] : va_W))) s.heap := hP
  have hDg : va_D A (([ob0_0_ xc xn xk clo cro c4 c5 c6 c7 c8, ob3_0_ xn vp vn n1 n2 n3 n4 n5, ai_ cy n2 40 fs, ai_ cy n3 40 fe, aq_ cy 6 cro 12 (gf_ rr)] : va_W) ++ (gro (cy 0) rr Mr ++ ([ai_ cy c4 40 f4, ai_ cy c5 40 f5, ai_ cy c6 40 f6] : va_W))) := hD
  refine va_gst (X := [ob0_0_ xc xn xk clo cro c4 c5 c6 c7 c8, ob3_0_ xn vp vn n1 n2 n3 n4 n5, ai_ cy n2 40 fs, ai_ cy n3 40 fe, aq_ cy 6 cro 12 (gf_ rr)]) (Y := [ai_ cy c4 40 f4, ai_ cy c5 40 f5, ai_ cy c6 40 f6]) (r := rr) (M := Mr) (k := a1.toNatClampNeg) hx hb hK.1 hPg hDg hS 0 rfl (in_lt h_1) (i := a2) h_2 dB_36_0_39.2.1.1.2 (fun H locs hP hD hS => ?_)
  obtain ⟨M_6, eM_6⟩ : ∃ g : Nat → Nat → Int32, g = va_up Mr a1.toNatClampNeg (upd (Mr a1.toNatClampNeg) a2.toNatClampNeg y_4) := ⟨_, rfl⟩
  refine pd_K (D := D) (cl := vwCl) (H := H) (A := A) [ob0_0_ xc xn xk clo cro c4 c5 c6 c7 c8, ob3_0_ xn vp vn n1 n2 n3 n4 n5, ai_ cy n2 40 fs, ai_ cy n3 40 fe, aq_ cy 6 cro 12 (gf_ rr), ai_ cy (rr 0) 12 (M_6 0), ai_ cy (rr 1) 12 (M_6 1), ai_ cy (rr 2) 12 (M_6 2), ai_ cy (rr 3) 12 (M_6 3), ai_ cy (rr 4) 12 (M_6 4), ai_ cy (rr 5) 12 (M_6 5), ai_ cy (rr 6) 12 (M_6 6), ai_ cy (rr 7) 12 (M_6 7), ai_ cy (rr 8) 12 (M_6 8), ai_ cy (rr 9) 12 (M_6 9), ai_ cy (rr 10) 12 (M_6 10), ai_ cy (rr 11) 12 (M_6 11), ai_ cy c4 40 f4, ai_ cy c5 40 f5, ai_ cy c6 40 f6] (by rw [eM_6]; exact hP) (by rw [eM_6]; exact hD) (fun hP hD => ?_)
  refine lv_aload_n hx hb dB_36_0_39.2.1.2.1 rfl (lv_at hl 0 rfl) ?_
  refine va_get (ci := 0) (v := .ref cro) (C := RX0) (T := TX0) (N := 9) hx hb hts (fun _ h => List.mem_cons_of_mem _ (List.mem_append_left _ (List.mem_append_right _ h))) hown hK.1 hP 0 rfl rfl 3 (by decide) (hts (.fieldLink RX0 16 "CutAtlas$Current" "room" "[[I") (List.mem_of_getElem? (i := 1) rfl)) (fun _ h9 => h9) rfl dB_36_0_39.2.1.2.2 ?_
  refine lv_iload_n hx hb dB_36_0_39.2.2.1.1 rfl (lv_at hl 2 rfl) ?_
  refine va_alda hx hb hG hP 4 rfl (i := a2) h_2 dB_36_0_39.2.2.1.2 ?_
  refine lv_topv (v' := .ref (rr a2.toNatClampNeg)) (gf_at h_2) ?_
  refine lv_iload_n hx hb dB_36_0_39.2.2.2.1 rfl (lv_at hl 1 rfl) ?_
  refine lv_dup2_11 hx hb dB_36_0_39.2.2.2.2 rfl rfl ?_
  have hPg : va_P D vwCl (([ob0_0_ xc xn xk clo cro c4 c5 c6 c7 c8, ob3_0_ xn vp vn n1 n2 n3 n4 n5, ai_ cy n2 40 fs, ai_ cy n3 40 fe, aq_ cy 6 cro 12 (gf_ rr)] : va_W) ++ (gro (cy 0) rr M_6 ++ ([ai_ cy c4 40 f4, ai_ cy c5 40 f5, ai_ cy c6 40 f6] : va_W))) H := hP
  refine va_gld (X := [ob0_0_ xc xn xk clo cro c4 c5 c6 c7 c8, ob3_0_ xn vp vn n1 n2 n3 n4 n5, ai_ cy n2 40 fs, ai_ cy n3 40 fe, aq_ cy 6 cro 12 (gf_ rr)]) (Y := [ai_ cy c4 40 f4, ai_ cy c5 40 f5, ai_ cy c6 40 f6]) (r := rr) (M := M_6) (k := a2.toNatClampNeg) hx hb hK.1 hPg 0 rfl (in_lt h_2) (i := a1) h_1 dB_36_0_40.1.1.1.1 ?_
  refine lv_topi (fun y_9 ey_9 => ?_)
  have km2_ : y_9.toInt = (M_6 a2.toNatClampNeg a1.toNatClampNeg).toInt := by rw [ey_9]
  have hv2_ : (M_6 a2.toNatClampNeg a1.toNatClampNeg).toInt = if a2.toNatClampNeg = a1.toNatClampNeg ∧ a1.toNatClampNeg = a2.toNatClampNeg then _ else (Mr a2.toNatClampNeg a1.toNatClampNeg).toInt := m1_v eM_6
  have hz2_ : (Mr a2.toNatClampNeg a1.toNatClampNeg).toInt = zM Mr a2.toNatClampNeg a1.toNatClampNeg := rfl
  have hz1_ : (Mr a1.toNatClampNeg a2.toNatClampNeg).toInt = zM Mr a1.toNatClampNeg a2.toNatClampNeg := rfl
  have hb2_ : -160000000 ≤ y_9.toInt ∧ y_9.toInt ≤ 160000000 := by rw [km2_, hv2_]; split <;> omega
  refine lv_iload_n hx hb dB_36_0_40.1.1.1.2 rfl (lv_at hl 3 rfl) ?_
  refine lv_iadd hx hb dB_36_0_40.1.1.2.1 ?_
  refine lv_topi (fun y_10 ey_10 => ?_)
  have ty_10 : y_10.toInt = y_9.toInt + a3.toInt := by rw [ey_10]; exact addI (by omega) (by omega)
  have h2_ : y_10.toInt = (M_6 a2.toNatClampNeg a1.toNatClampNeg).toInt + a3.toInt := by omega
  have hPg : va_P D vwCl (([ob0_0_ xc xn xk clo cro c4 c5 c6 c7 c8, ob3_0_ xn vp vn n1 n2 n3 n4 n5, ai_ cy n2 40 fs, ai_ cy n3 40 fe, aq_ cy 6 cro 12 (gf_ rr)] : va_W) ++ (gro (cy 0) rr M_6 ++ ([ai_ cy c4 40 f4, ai_ cy c5 40 f5, ai_ cy c6 40 f6] : va_W))) H := hP
  have hDg : va_D A (([ob0_0_ xc xn xk clo cro c4 c5 c6 c7 c8, ob3_0_ xn vp vn n1 n2 n3 n4 n5, ai_ cy n2 40 fs, ai_ cy n3 40 fe, aq_ cy 6 cro 12 (gf_ rr)] : va_W) ++ (gro (cy 0) rr M_6 ++ ([ai_ cy c4 40 f4, ai_ cy c5 40 f5, ai_ cy c6 40 f6] : va_W))) := hD
  refine va_gst (X := [ob0_0_ xc xn xk clo cro c4 c5 c6 c7 c8, ob3_0_ xn vp vn n1 n2 n3 n4 n5, ai_ cy n2 40 fs, ai_ cy n3 40 fe, aq_ cy 6 cro 12 (gf_ rr)]) (Y := [ai_ cy c4 40 f4, ai_ cy c5 40 f5, ai_ cy c6 40 f6]) (r := rr) (M := M_6) (k := a2.toNatClampNeg) hx hb hK.1 hPg hDg hS 0 rfl (in_lt h_2) (i := a1) h_1 dB_36_0_40.1.1.2.2 (fun H locs hP hD hS => ?_)
  obtain ⟨M_12, eM_12⟩ : ∃ g : Nat → Nat → Int32, g = va_up M_6 a2.toNatClampNeg (upd (M_6 a2.toNatClampNeg) a1.toNatClampNeg y_10) := ⟨_, rfl⟩
  refine pd_K (D := D) (cl := vwCl) (H := H) (A := A) [ob0_0_ xc xn xk clo cro c4 c5 c6 c7 c8, ob3_0_ xn vp vn n1 n2 n3 n4 n5, ai_ cy n2 40 fs, ai_ cy n3 40 fe, aq_ cy 6 cro 12 (gf_ rr), ai_ cy (rr 0) 12 (M_12 0), ai_ cy (rr 1) 12 (M_12 1), ai_ cy (rr 2) 12 (M_12 2), ai_ cy (rr 3) 12 (M_12 3), ai_ cy (rr 4) 12 (M_12 4), ai_ cy (rr 5) 12 (M_12 5), ai_ cy (rr 6) 12 (M_12 6), ai_ cy (rr 7) 12 (M_12 7), ai_ cy (rr 8) 12 (M_12 8), ai_ cy (rr 9) 12 (M_12 9), ai_ cy (rr 10) 12 (M_12 10), ai_ cy (rr 11) 12 (M_12 11), ai_ cy c4 40 f4, ai_ cy c5 40 f5, ai_ cy c6 40 f6] (by rw [eM_12]; exact hP) (by rw [eM_12]; exact hD) (fun hP hD => ?_)
  have hed_ : edg (zM Mr) (zM M_12) a1.toNatClampNeg a2.toNatClampNeg a3.toInt := edg_mk eM_6 eM_12 h1_ h2_
  refine lv_iload_n hx hb dB_36_0_40.1.2.1.1 rfl (lv_at hl 3 rfl) ?_
  refine lv_istore (lv' := [(4, .int a3), (0, .ref xc), (1, .int a1), (2, .int a2), (3, .int a3)]) hx hb dB_36_0_40.1.2.1.2 hl (by decide) rfl (fun ls hl => ?_)
  refine lv_iconst (v := 0) hx hb dB_36_0_40.1.2.2.1 (by decide) ?_
  refine lv_istore (lv' := [(5, .int 0), (4, .int a3), (0, .ref xc), (1, .int a1), (2, .int a2), (3, .int a3)]) hx hb dB_36_0_40.1.2.2.2 hl (by decide) rfl (fun ls hl => ?_)
  suffices LOOP_13 : ∀ (n_13 : Nat) (x5_13 : Int32) (x4_13 : Int32) (c_c4_13 : Nat → Int32) (H : Heap) (locs : List Loc) (ls : Array Slot), vn.toInt - x5_13.toInt < (n_13 : Int) → (0 ≤ x5_13.toInt) → (x5_13.toInt ≤ vn.toInt) → pd_2 D vwCl A [ob0_0_ xc xn xk clo cro c4 c5 c6 c7 c8, ob3_0_ xn vp vn n1 n2 n3 n4 n5, ai_ cy n2 40 fs, ai_ cy n3 40 fe, aq_ cy 6 cro 12 (gf_ rr), ai_ cy (rr 0) 12 (M_12 0), ai_ cy (rr 1) 12 (M_12 1), ai_ cy (rr 2) 12 (M_12 2), ai_ cy (rr 3) 12 (M_12 3), ai_ cy (rr 4) 12 (M_12 4), ai_ cy (rr 5) 12 (M_12 5), ai_ cy (rr 6) 12 (M_12 6), ai_ cy (rr 7) 12 (M_12 7), ai_ cy (rr 8) 12 (M_12 8), ai_ cy (rr 9) 12 (M_12 9), ai_ cy (rr 10) 12 (M_12 10), ai_ cy (rr 11) 12 (M_12 11), ai_ cy c4 40 c_c4_13, ai_ cy c5 40 f5, ai_ cy c6 40 f6] H → va_S A s.heap H locs → lv_has ls 7 [(5, .int x5_13), (4, .int x4_13), (0, .ref xc), (1, .int a1), (2, .int a2), (3, .int a3)] → W p l e ({ frames := 1, cells := 0, slots := 0, locals := 13 } : Room) s m (([.ref xc, .int a1, .int a2, .int a3] : List Value).toArray) below meth c H locs 0 0 Q (F0 m 30 ls []) from LOOP_13 ((vn.toInt - (0 : Int32).toInt).toNat + 1) (0 : Int32) a3 f4 _ _ _ (by omega) (by first | with_reducible assumption | omega | assumption) (by first | with_reducible assumption | omega | assumption) ⟨hP, hD⟩ hS (lv_sub hl [0, 1, 2, 3, 4, 5] rfl)
  intro n_13
  induction n_13 with
  | zero =>
    intro x5_13 x4_13 c_c4_13 H locs ls hm v0_13 v1_13 hPD hS hl; obtain ⟨hP, hD⟩ := hPD
    exact absurd hm (by omega)
  | succ n_13 ih_13 =>
    intro x5_13 x4_13 c_c4_13 H locs ls hm v0_13 v1_13 hPD hS hl; obtain ⟨hP, hD⟩ := hPD
    refine lv_iload hx hb dB_36_0_40.2.1.1.1 (lv_at hl 0 rfl) ?_
    refine lv_aload_n hx hb dB_36_0_40.2.1.1.2 rfl (lv_at hl 2 rfl) ?_
    refine va_get (ci := 0) (v := .ref xn) (C := RX0) (T := TX0) (N := 9) hx hb hts (fun _ h => List.mem_cons_of_mem _ (List.mem_append_left _ (List.mem_append_right _ h))) hown hK.1 hP 0 rfl rfl 0 (by decide) (hts (.fieldLink RX0 35 "CutAtlas$Current" "net" "LCutAtlas$Net;") (List.mem_of_getElem? (i := 2) rfl)) (fun _ h9 => h9) rfl dB_36_0_40.2.1.2.1 ?_
    refine va_get (ci := 3) (v := .int vn) (C := RX3) (T := TX3) (N := 7) hx hb hts (fun _ h => List.mem_cons_of_mem _ (List.mem_append_right _ h)) hown hK.1 hP 1 rfl rfl 1 (by decide) (hts (.fieldLink RX0 55 "CutAtlas$Net" "lines" "I") (List.mem_of_getElem? (i := 3) rfl)) (fun _ h9 => h9) rfl dB_36_0_40.2.1.2.2 ?_
    refine lv_icmp_ge (tgt := 194) hx hb dB_36_0_40.2.2.1.1 (by decide) (fun c_14 => ?_) (fun c_14 => ?_)
    · have t_14 : vn.toInt ≤ x5_13.toInt := Int32.le_iff_toInt_le.mp c_14
      rw [hQ]
      exact W.vret hx hb hr (fun t ht hW => ⟨⟨(), rfl, trivial, M_12, c_c4_13, (hed_), by rw [ht]; exact hP, hD⟩, hS.F ht⟩) hS.2.2 dB_36_0_45.2.2.2.2
    · have t_14 : ¬ vn.toInt ≤ x5_13.toInt := fun h => c_14 (Int32.le_iff_toInt_le.mpr h)
      refine lv_iload hx hb dB_36_0_40.2.2.1.2 (lv_at hl 1 rfl) ?_
      refine lv_if_le (tgt := 194) hx hb dB_36_0_40.2.2.2.1 (by decide) (fun c_15 => ?_) (fun c_15 => ?_)
      · have t_15 : x4_13.toInt ≤ (0 : Int32).toInt := Int32.le_iff_toInt_le.mp c_15
        rw [hQ]
        exact W.vret hx hb hr (fun t ht hW => ⟨⟨(), rfl, trivial, M_12, c_c4_13, (hed_), by rw [ht]; exact hP, hD⟩, hS.F ht⟩) hS.2.2 dB_36_0_45.2.2.2.2
      · have t_15 : ¬ x4_13.toInt ≤ (0 : Int32).toInt := fun h => c_15 (Int32.le_iff_toInt_le.mpr h)
        refine lv_aload_n hx hb dB_36_0_40.2.2.2.2 rfl (lv_at hl 2 rfl) ?_
        refine va_get (ci := 0) (v := .ref xn) (C := RX0) (T := TX0) (N := 9) hx hb hts (fun _ h => List.mem_cons_of_mem _ (List.mem_append_left _ (List.mem_append_right _ h))) hown hK.1 hP 0 rfl rfl 0 (by decide) (hts (.fieldLink RX0 35 "CutAtlas$Current" "net" "LCutAtlas$Net;") (List.mem_of_getElem? (i := 2) rfl)) (fun _ h9 => h9) rfl dB_36_0_41.1.1.1.1 ?_
        refine va_get (ci := 3) (v := .ref n2) (C := RX3) (T := TX3) (N := 7) hx hb hts (fun _ h => List.mem_cons_of_mem _ (List.mem_append_right _ h)) hown hK.1 hP 1 rfl rfl 3 (by decide) (hts (.fieldLink RX0 76 "CutAtlas$Net" "starts" "[I") (List.mem_of_getElem? (i := 4) rfl)) (fun _ h9 => h9) rfl dB_36_0_41.1.1.1.2 ?_
        refine lv_iload hx hb dB_36_0_41.1.1.2.1 (lv_at hl 0 rfl) ?_
        have h_16 : vp_in x5_13 40 := in_I (by first | with_reducible assumption | omega) (by omega)
        refine va_iald hx hb hK.1 hP 2 0 rfl rfl (i := x5_13) h_16 dB_36_0_41.1.1.2.2 ?_
        refine lv_topi (fun y_17 ey_17 => ?_)
        refine lv_iload_n hx hb dB_36_0_41.1.2.1.1 rfl (lv_at hl 3 rfl) ?_
        refine lv_icmp_ne (tgt := 119) hx hb dB_36_0_41.1.2.1.2 (by decide) (fun c_18 => ?_) (fun c_18 => ?_)
        · have t_18 : ¬ y_17.toInt = a1.toInt := fun h => c_18 (Int32.toInt_inj.mp h)
          refine lv_aload_n hx hb dB_36_0_43.1.2.2.1 rfl (lv_at hl 2 rfl) ?_
          refine va_get (ci := 0) (v := .ref xn) (C := RX0) (T := TX0) (N := 9) hx hb hts (fun _ h => List.mem_cons_of_mem _ (List.mem_append_left _ (List.mem_append_right _ h))) hown hK.1 hP 0 rfl rfl 0 (by decide) (hts (.fieldLink RX0 35 "CutAtlas$Current" "net" "LCutAtlas$Net;") (List.mem_of_getElem? (i := 2) rfl)) (fun _ h9 => h9) rfl dB_36_0_43.1.2.2.2 ?_
          refine va_get (ci := 3) (v := .ref n2) (C := RX3) (T := TX3) (N := 7) hx hb hts (fun _ h => List.mem_cons_of_mem _ (List.mem_append_right _ h)) hown hK.1 hP 1 rfl rfl 3 (by decide) (hts (.fieldLink RX0 76 "CutAtlas$Net" "starts" "[I") (List.mem_of_getElem? (i := 4) rfl)) (fun _ h9 => h9) rfl dB_36_0_43.2.1.1.1 ?_
          refine lv_iload hx hb dB_36_0_43.2.1.1.2 (lv_at hl 0 rfl) ?_
          refine va_iald hx hb hK.1 hP 2 0 rfl rfl (i := x5_13) h_16 dB_36_0_43.2.1.2.1 ?_
          refine lv_topi (fun y_20 ey_20 => ?_)
          have e_ := (ey_20.trans ey_17.symm).symm
          subst e_
          skip
          refine lv_iload_n hx hb dB_36_0_43.2.1.2.2 rfl (lv_at hl 4 rfl) ?_
          refine lv_icmp_ne (tgt := 188) hx hb dB_36_0_43.2.2.1.1 (by decide) (fun c_21 => ?_) (fun c_21 => ?_)
          · have t_21 : ¬ y_17.toInt = a2.toInt := fun h => c_21 (Int32.toInt_inj.mp h)
            obtain ⟨y_22, ey_22⟩ : ∃ y : Int32, y = x5_13 + 1 := ⟨_, rfl⟩
            have ty_22 : y_22.toInt = x5_13.toInt + (1 : Int32).toInt := by rw [ey_22]; exact addI (by omega) (by omega)
            refine lv_iinc (v := y_22) (lv' := [(5, .int y_22), (4, .int x4_13), (0, .ref xc), (1, .int a1), (2, .int a2), (3, .int a3)]) hx hb dB_36_0_45.2.2.1.2 hl (k := 0) rfl (by rw [ey_22]; rfl) (by decide) rfl (fun ls hl => ?_)
            refine lv_goto (tgt := 30) hx hb dB_36_0_45.2.2.2.1 (by decide) ?_
            exact ih_13 y_22 x4_13 c_c4_13 _ _ _ (by omega) (by first | with_reducible assumption | omega | assumption) (by first | with_reducible assumption | omega | assumption) ⟨hP, hD⟩ hS (lv_sub hl [0, 1, 2, 3, 4, 5] rfl)
          · have t_21 : y_17.toInt = a2.toInt := congrArg Int32.toInt c_21
            refine lv_aload_n hx hb dB_36_0_43.2.2.1.2 rfl (lv_at hl 2 rfl) ?_
            refine va_get (ci := 0) (v := .ref xn) (C := RX0) (T := TX0) (N := 9) hx hb hts (fun _ h => List.mem_cons_of_mem _ (List.mem_append_left _ (List.mem_append_right _ h))) hown hK.1 hP 0 rfl rfl 0 (by decide) (hts (.fieldLink RX0 35 "CutAtlas$Current" "net" "LCutAtlas$Net;") (List.mem_of_getElem? (i := 2) rfl)) (fun _ h9 => h9) rfl dB_36_0_43.2.2.2.1 ?_
            refine va_get (ci := 3) (v := .ref n3) (C := RX3) (T := TX3) (N := 7) hx hb hts (fun _ h => List.mem_cons_of_mem _ (List.mem_append_right _ h)) hown hK.1 hP 1 rfl rfl 4 (by decide) (hts (.fieldLink RX0 79 "CutAtlas$Net" "ends" "[I") (List.mem_of_getElem? (i := 5) rfl)) (fun _ h9 => h9) rfl dB_36_0_43.2.2.2.2 ?_
            refine lv_iload hx hb dB_36_0_44.1.1.1.1 (lv_at hl 0 rfl) ?_
            refine va_iald hx hb hK.1 hP 3 0 rfl rfl (i := x5_13) h_16 dB_36_0_44.1.1.1.2 ?_
            refine lv_topi (fun y_24 ey_24 => ?_)
            refine lv_iload_n hx hb dB_36_0_44.1.1.2.1 rfl (lv_at hl 3 rfl) ?_
            refine lv_icmp_ne (tgt := 188) hx hb dB_36_0_44.1.1.2.2 (by decide) (fun c_25 => ?_) (fun c_25 => ?_)
            · have t_25 : ¬ y_24.toInt = a1.toInt := fun h => c_25 (Int32.toInt_inj.mp h)
              obtain ⟨y_26, ey_26⟩ : ∃ y : Int32, y = x5_13 + 1 := ⟨_, rfl⟩
              have ty_26 : y_26.toInt = x5_13.toInt + (1 : Int32).toInt := by rw [ey_26]; exact addI (by omega) (by omega)
              refine lv_iinc (v := y_26) (lv' := [(5, .int y_26), (4, .int x4_13), (0, .ref xc), (1, .int a1), (2, .int a2), (3, .int a3)]) hx hb dB_36_0_45.2.2.1.2 hl (k := 0) rfl (by rw [ey_26]; rfl) (by decide) rfl (fun ls hl => ?_)
              refine lv_goto (tgt := 30) hx hb dB_36_0_45.2.2.2.1 (by decide) ?_
              exact ih_13 y_26 x4_13 c_c4_13 _ _ _ (by omega) (by first | with_reducible assumption | omega | assumption) (by first | with_reducible assumption | omega | assumption) ⟨hP, hD⟩ hS (lv_sub hl [0, 1, 2, 3, 4, 5] rfl)
            · have t_25 : y_24.toInt = a1.toInt := congrArg Int32.toInt c_25
              refine lv_iload hx hb dB_36_0_44.1.2.1.1 (lv_at hl 1 rfl) ?_
              refine lv_aload_n hx hb dB_36_0_44.1.2.1.2 rfl (lv_at hl 2 rfl) ?_
              refine va_get (ci := 0) (v := .ref c6) (C := RX0) (T := TX0) (N := 9) hx hb hts (fun _ h => List.mem_cons_of_mem _ (List.mem_append_left _ (List.mem_append_right _ h))) hown hK.1 hP 0 rfl rfl 6 (by decide) (hts (.fieldLink RX0 26 "CutAtlas$Current" "letsBack" "[I") (List.mem_of_getElem? (i := 12) rfl)) (fun _ h9 => h9) rfl dB_36_0_44.1.2.2.1 ?_
              refine lv_iload hx hb dB_36_0_44.1.2.2.2 (lv_at hl 0 rfl) ?_
              refine va_iald hx hb hK.1 hP 19 0 rfl rfl (i := x5_13) h_16 dB_36_0_44.2.1.1.1 ?_
              refine lv_topi (fun y_28 ey_28 => ?_)
              refine lv_aload_n hx hb dB_36_0_44.2.1.1.2 rfl (lv_at hl 2 rfl) ?_
              refine va_get (ci := 0) (v := .ref c4) (C := RX0) (T := TX0) (N := 9) hx hb hts (fun _ h => List.mem_cons_of_mem _ (List.mem_append_left _ (List.mem_append_right _ h))) hown hK.1 hP 0 rfl rfl 4 (by decide) (hts (.fieldLink RX0 19 "CutAtlas$Current" "flowing" "[I") (List.mem_of_getElem? (i := 7) rfl)) (fun _ h9 => h9) rfl dB_36_0_44.2.1.2.1 ?_
              refine lv_iload hx hb dB_36_0_44.2.1.2.2 (lv_at hl 0 rfl) ?_
              refine va_iald hx hb hK.1 hP 17 0 rfl rfl (i := x5_13) h_16 dB_36_0_44.2.2.1.1 ?_
              refine lv_topi (fun y_30 ey_30 => ?_)
              refine lv_iadd hx hb dB_36_0_44.2.2.1.2 ?_
              refine lv_topi (fun y_31 ey_31 => ?_)
              refine va_mmin hx hb (by rw [hml]; exact hl.1.symm) hown (hts (.methodLink RX0 101 Lib.Math.min.name) (List.mem_of_getElem? (i := 8) rfl)) (hts (.static Lib.Math.min.name) (List.mem_of_getElem? (i := 9) rfl)) (hts (.initialized "java/lang/Math") (List.mem_of_getElem? (i := 10) rfl)) (hts (.code Lib.Math.min.name Lib.Math.min.code 2 (some .int)) (List.mem_of_getElem? (i := 11) rfl)) (Nat.le_of_ble_eq_true rfl) (Nat.le_of_ble_eq_true rfl) (Nat.le_of_ble_eq_true rfl) (Nat.le_of_ble_eq_true rfl) dB_36_0_44.2.2.2.1 ?_
              refine lv_topi (fun y_32 ey_32 => ?_)
              have ty_32 : y_32 = x4_13 ∨ y_32 = y_31 := by rw [ey_32]; split <;> simp
              have iy_32 : y_32.toInt = x4_13.toInt ∨ y_32.toInt = y_31.toInt := by rcases ty_32 with h | h <;> rw [h] <;> simp
              refine lv_istore (lv' := [(6, .int y_32), (5, .int x5_13), (4, .int x4_13), (0, .ref xc), (1, .int a1), (2, .int a2), (3, .int a3)]) hx hb dB_36_0_44.2.2.2.2 hl (by decide) rfl (fun ls hl => ?_)
              refine lv_aload_n hx hb dB_36_0_45.1.1.1 rfl (lv_at hl 3 rfl) ?_
              refine va_get (ci := 0) (v := .ref c4) (C := RX0) (T := TX0) (N := 9) hx hb hts (fun _ h => List.mem_cons_of_mem _ (List.mem_append_left _ (List.mem_append_right _ h))) hown hK.1 hP 0 rfl rfl 4 (by decide) (hts (.fieldLink RX0 19 "CutAtlas$Current" "flowing" "[I") (List.mem_of_getElem? (i := 7) rfl)) (fun _ h9 => h9) rfl dB_36_0_45.1.1.2.1 ?_
              refine lv_iload hx hb dB_36_0_45.1.1.2.2 (lv_at hl 1 rfl) ?_
              refine lv_dup2_11 hx hb dB_36_0_45.1.2.1.1 rfl rfl ?_
              refine va_iald hx hb hK.1 hP 17 0 rfl rfl (i := x5_13) h_16 dB_36_0_45.1.2.1.2 ?_
              refine lv_topi (fun y_34 ey_34 => ?_)
              have e_ := (ey_34.trans ey_30.symm).symm
              subst e_
              skip
              refine lv_iload hx hb dB_36_0_45.1.2.2.1 (lv_at hl 0 rfl) ?_
              refine lv_isub hx hb dB_36_0_45.1.2.2.2 ?_
              refine lv_topi (fun y_35 ey_35 => ?_)
              refine va_iast hx hb hK.1 hP hD hS 17 0 rfl rfl (i := x5_13) h_16 dB_36_0_45.2.1.1.1 (fun H locs hP hD hS => ?_)
              obtain ⟨f_37, ef_37⟩ : ∃ g : Nat → Int32, g = upd c_c4_13 x5_13.toNatClampNeg y_35 := ⟨_, rfl⟩
              refine pd_K (D := D) (cl := vwCl) (H := H) (A := A) [ob0_0_ xc xn xk clo cro c4 c5 c6 c7 c8, ob3_0_ xn vp vn n1 n2 n3 n4 n5, ai_ cy n2 40 fs, ai_ cy n3 40 fe, aq_ cy 6 cro 12 (gf_ rr), ai_ cy (rr 0) 12 (M_12 0), ai_ cy (rr 1) 12 (M_12 1), ai_ cy (rr 2) 12 (M_12 2), ai_ cy (rr 3) 12 (M_12 3), ai_ cy (rr 4) 12 (M_12 4), ai_ cy (rr 5) 12 (M_12 5), ai_ cy (rr 6) 12 (M_12 6), ai_ cy (rr 7) 12 (M_12 7), ai_ cy (rr 8) 12 (M_12 8), ai_ cy (rr 9) 12 (M_12 9), ai_ cy (rr 10) 12 (M_12 10), ai_ cy (rr 11) 12 (M_12 11), ai_ cy c4 40 f_37, ai_ cy c5 40 f5, ai_ cy c6 40 f6] (by rw [ef_37]; exact hP) (by rw [ef_37]; exact hD) (fun hP hD => ?_)
              refine lv_iload hx hb dB_36_0_45.2.1.1.2 (lv_at hl 2 rfl) ?_
              refine lv_iload hx hb dB_36_0_45.2.1.2.1 (lv_at hl 0 rfl) ?_
              refine lv_isub hx hb dB_36_0_45.2.1.2.2 ?_
              refine lv_topi (fun y_38 ey_38 => ?_)
              refine lv_istore (lv' := [(4, .int y_38), (6, .int y_32), (5, .int x5_13), (0, .ref xc), (1, .int a1), (2, .int a2), (3, .int a3)]) hx hb dB_36_0_45.2.2.1.1 hl (by decide) rfl (fun ls hl => ?_)
              obtain ⟨y_39, ey_39⟩ : ∃ y : Int32, y = x5_13 + 1 := ⟨_, rfl⟩
              have ty_39 : y_39.toInt = x5_13.toInt + (1 : Int32).toInt := by rw [ey_39]; exact addI (by omega) (by omega)
              refine lv_iinc (v := y_39) (lv' := [(5, .int y_39), (4, .int y_38), (6, .int y_32), (0, .ref xc), (1, .int a1), (2, .int a2), (3, .int a3)]) hx hb dB_36_0_45.2.2.1.2 hl (k := 2) rfl (by rw [ey_39]; rfl) (by decide) rfl (fun ls hl => ?_)
              refine lv_goto (tgt := 30) hx hb dB_36_0_45.2.2.2.1 (by decide) ?_
              exact ih_13 y_39 y_38 f_37 _ _ _ (by omega) (by first | with_reducible assumption | omega | assumption) (by first | with_reducible assumption | omega | assumption) ⟨hP, hD⟩ hS (lv_sub hl [0, 1, 3, 4, 5, 6] rfl)
        · have t_18 : y_17.toInt = a1.toInt := congrArg Int32.toInt c_18
          refine lv_aload_n hx hb dB_36_0_41.1.2.2.1 rfl (lv_at hl 2 rfl) ?_
          refine va_get (ci := 0) (v := .ref xn) (C := RX0) (T := TX0) (N := 9) hx hb hts (fun _ h => List.mem_cons_of_mem _ (List.mem_append_left _ (List.mem_append_right _ h))) hown hK.1 hP 0 rfl rfl 0 (by decide) (hts (.fieldLink RX0 35 "CutAtlas$Current" "net" "LCutAtlas$Net;") (List.mem_of_getElem? (i := 2) rfl)) (fun _ h9 => h9) rfl dB_36_0_41.1.2.2.2 ?_
          refine va_get (ci := 3) (v := .ref n3) (C := RX3) (T := TX3) (N := 7) hx hb hts (fun _ h => List.mem_cons_of_mem _ (List.mem_append_right _ h)) hown hK.1 hP 1 rfl rfl 4 (by decide) (hts (.fieldLink RX0 79 "CutAtlas$Net" "ends" "[I") (List.mem_of_getElem? (i := 5) rfl)) (fun _ h9 => h9) rfl dB_36_0_41.2.1.1.1 ?_
          refine lv_iload hx hb dB_36_0_41.2.1.1.2 (lv_at hl 0 rfl) ?_
          refine va_iald hx hb hK.1 hP 3 0 rfl rfl (i := x5_13) h_16 dB_36_0_41.2.1.2.1 ?_
          refine lv_topi (fun y_41 ey_41 => ?_)
          refine lv_iload_n hx hb dB_36_0_41.2.1.2.2 rfl (lv_at hl 4 rfl) ?_
          refine lv_icmp_ne (tgt := 119) hx hb dB_36_0_41.2.2.1.1 (by decide) (fun c_42 => ?_) (fun c_42 => ?_)
          · have t_42 : ¬ y_41.toInt = a2.toInt := fun h => c_42 (Int32.toInt_inj.mp h)
            refine lv_aload_n hx hb dB_36_0_43.1.2.2.1 rfl (lv_at hl 2 rfl) ?_
            refine va_get (ci := 0) (v := .ref xn) (C := RX0) (T := TX0) (N := 9) hx hb hts (fun _ h => List.mem_cons_of_mem _ (List.mem_append_left _ (List.mem_append_right _ h))) hown hK.1 hP 0 rfl rfl 0 (by decide) (hts (.fieldLink RX0 35 "CutAtlas$Current" "net" "LCutAtlas$Net;") (List.mem_of_getElem? (i := 2) rfl)) (fun _ h9 => h9) rfl dB_36_0_43.1.2.2.2 ?_
            refine va_get (ci := 3) (v := .ref n2) (C := RX3) (T := TX3) (N := 7) hx hb hts (fun _ h => List.mem_cons_of_mem _ (List.mem_append_right _ h)) hown hK.1 hP 1 rfl rfl 3 (by decide) (hts (.fieldLink RX0 76 "CutAtlas$Net" "starts" "[I") (List.mem_of_getElem? (i := 4) rfl)) (fun _ h9 => h9) rfl dB_36_0_43.2.1.1.1 ?_
            refine lv_iload hx hb dB_36_0_43.2.1.1.2 (lv_at hl 0 rfl) ?_
            refine va_iald hx hb hK.1 hP 2 0 rfl rfl (i := x5_13) h_16 dB_36_0_43.2.1.2.1 ?_
            refine lv_topi (fun y_44 ey_44 => ?_)
            have e_ := (ey_44.trans ey_17.symm).symm
            subst e_
            skip
            refine lv_iload_n hx hb dB_36_0_43.2.1.2.2 rfl (lv_at hl 4 rfl) ?_
            refine lv_icmp_ne (tgt := 188) hx hb dB_36_0_43.2.2.1.1 (by decide) (fun c_45 => ?_) (fun c_45 => ?_)
            · have t_45 : ¬ y_17.toInt = a2.toInt := fun h => c_45 (Int32.toInt_inj.mp h)
              obtain ⟨y_46, ey_46⟩ : ∃ y : Int32, y = x5_13 + 1 := ⟨_, rfl⟩
              have ty_46 : y_46.toInt = x5_13.toInt + (1 : Int32).toInt := by rw [ey_46]; exact addI (by omega) (by omega)
              refine lv_iinc (v := y_46) (lv' := [(5, .int y_46), (4, .int x4_13), (0, .ref xc), (1, .int a1), (2, .int a2), (3, .int a3)]) hx hb dB_36_0_45.2.2.1.2 hl (k := 0) rfl (by rw [ey_46]; rfl) (by decide) rfl (fun ls hl => ?_)
              refine lv_goto (tgt := 30) hx hb dB_36_0_45.2.2.2.1 (by decide) ?_
              exact ih_13 y_46 x4_13 c_c4_13 _ _ _ (by omega) (by first | with_reducible assumption | omega | assumption) (by first | with_reducible assumption | omega | assumption) ⟨hP, hD⟩ hS (lv_sub hl [0, 1, 2, 3, 4, 5] rfl)
            · have t_45 : y_17.toInt = a2.toInt := congrArg Int32.toInt c_45
              refine lv_aload_n hx hb dB_36_0_43.2.2.1.2 rfl (lv_at hl 2 rfl) ?_
              refine va_get (ci := 0) (v := .ref xn) (C := RX0) (T := TX0) (N := 9) hx hb hts (fun _ h => List.mem_cons_of_mem _ (List.mem_append_left _ (List.mem_append_right _ h))) hown hK.1 hP 0 rfl rfl 0 (by decide) (hts (.fieldLink RX0 35 "CutAtlas$Current" "net" "LCutAtlas$Net;") (List.mem_of_getElem? (i := 2) rfl)) (fun _ h9 => h9) rfl dB_36_0_43.2.2.2.1 ?_
              refine va_get (ci := 3) (v := .ref n3) (C := RX3) (T := TX3) (N := 7) hx hb hts (fun _ h => List.mem_cons_of_mem _ (List.mem_append_right _ h)) hown hK.1 hP 1 rfl rfl 4 (by decide) (hts (.fieldLink RX0 79 "CutAtlas$Net" "ends" "[I") (List.mem_of_getElem? (i := 5) rfl)) (fun _ h9 => h9) rfl dB_36_0_43.2.2.2.2 ?_
              refine lv_iload hx hb dB_36_0_44.1.1.1.1 (lv_at hl 0 rfl) ?_
              refine va_iald hx hb hK.1 hP 3 0 rfl rfl (i := x5_13) h_16 dB_36_0_44.1.1.1.2 ?_
              refine lv_topi (fun y_48 ey_48 => ?_)
              have e_ := (ey_48.trans ey_41.symm).symm
              subst e_
              skip
              refine lv_iload_n hx hb dB_36_0_44.1.1.2.1 rfl (lv_at hl 3 rfl) ?_
              refine lv_icmp_ne (tgt := 188) hx hb dB_36_0_44.1.1.2.2 (by decide) (fun c_49 => ?_) (fun c_49 => ?_)
              · have t_49 : ¬ y_41.toInt = a1.toInt := fun h => c_49 (Int32.toInt_inj.mp h)
                obtain ⟨y_50, ey_50⟩ : ∃ y : Int32, y = x5_13 + 1 := ⟨_, rfl⟩
                have ty_50 : y_50.toInt = x5_13.toInt + (1 : Int32).toInt := by rw [ey_50]; exact addI (by omega) (by omega)
                refine lv_iinc (v := y_50) (lv' := [(5, .int y_50), (4, .int x4_13), (0, .ref xc), (1, .int a1), (2, .int a2), (3, .int a3)]) hx hb dB_36_0_45.2.2.1.2 hl (k := 0) rfl (by rw [ey_50]; rfl) (by decide) rfl (fun ls hl => ?_)
                refine lv_goto (tgt := 30) hx hb dB_36_0_45.2.2.2.1 (by decide) ?_
                exact ih_13 y_50 x4_13 c_c4_13 _ _ _ (by omega) (by first | with_reducible assumption | omega | assumption) (by first | with_reducible assumption | omega | assumption) ⟨hP, hD⟩ hS (lv_sub hl [0, 1, 2, 3, 4, 5] rfl)
              · have t_49 : y_41.toInt = a1.toInt := congrArg Int32.toInt c_49
                refine lv_iload hx hb dB_36_0_44.1.2.1.1 (lv_at hl 1 rfl) ?_
                refine lv_aload_n hx hb dB_36_0_44.1.2.1.2 rfl (lv_at hl 2 rfl) ?_
                refine va_get (ci := 0) (v := .ref c6) (C := RX0) (T := TX0) (N := 9) hx hb hts (fun _ h => List.mem_cons_of_mem _ (List.mem_append_left _ (List.mem_append_right _ h))) hown hK.1 hP 0 rfl rfl 6 (by decide) (hts (.fieldLink RX0 26 "CutAtlas$Current" "letsBack" "[I") (List.mem_of_getElem? (i := 12) rfl)) (fun _ h9 => h9) rfl dB_36_0_44.1.2.2.1 ?_
                refine lv_iload hx hb dB_36_0_44.1.2.2.2 (lv_at hl 0 rfl) ?_
                refine va_iald hx hb hK.1 hP 19 0 rfl rfl (i := x5_13) h_16 dB_36_0_44.2.1.1.1 ?_
                refine lv_topi (fun y_52 ey_52 => ?_)
                refine lv_aload_n hx hb dB_36_0_44.2.1.1.2 rfl (lv_at hl 2 rfl) ?_
                refine va_get (ci := 0) (v := .ref c4) (C := RX0) (T := TX0) (N := 9) hx hb hts (fun _ h => List.mem_cons_of_mem _ (List.mem_append_left _ (List.mem_append_right _ h))) hown hK.1 hP 0 rfl rfl 4 (by decide) (hts (.fieldLink RX0 19 "CutAtlas$Current" "flowing" "[I") (List.mem_of_getElem? (i := 7) rfl)) (fun _ h9 => h9) rfl dB_36_0_44.2.1.2.1 ?_
                refine lv_iload hx hb dB_36_0_44.2.1.2.2 (lv_at hl 0 rfl) ?_
                refine va_iald hx hb hK.1 hP 17 0 rfl rfl (i := x5_13) h_16 dB_36_0_44.2.2.1.1 ?_
                refine lv_topi (fun y_54 ey_54 => ?_)
                refine lv_iadd hx hb dB_36_0_44.2.2.1.2 ?_
                refine lv_topi (fun y_55 ey_55 => ?_)
                refine va_mmin hx hb (by rw [hml]; exact hl.1.symm) hown (hts (.methodLink RX0 101 Lib.Math.min.name) (List.mem_of_getElem? (i := 8) rfl)) (hts (.static Lib.Math.min.name) (List.mem_of_getElem? (i := 9) rfl)) (hts (.initialized "java/lang/Math") (List.mem_of_getElem? (i := 10) rfl)) (hts (.code Lib.Math.min.name Lib.Math.min.code 2 (some .int)) (List.mem_of_getElem? (i := 11) rfl)) (Nat.le_of_ble_eq_true rfl) (Nat.le_of_ble_eq_true rfl) (Nat.le_of_ble_eq_true rfl) (Nat.le_of_ble_eq_true rfl) dB_36_0_44.2.2.2.1 ?_
                refine lv_topi (fun y_56 ey_56 => ?_)
                have ty_56 : y_56 = x4_13 ∨ y_56 = y_55 := by rw [ey_56]; split <;> simp
                have iy_56 : y_56.toInt = x4_13.toInt ∨ y_56.toInt = y_55.toInt := by rcases ty_56 with h | h <;> rw [h] <;> simp
                refine lv_istore (lv' := [(6, .int y_56), (5, .int x5_13), (4, .int x4_13), (0, .ref xc), (1, .int a1), (2, .int a2), (3, .int a3)]) hx hb dB_36_0_44.2.2.2.2 hl (by decide) rfl (fun ls hl => ?_)
                refine lv_aload_n hx hb dB_36_0_45.1.1.1 rfl (lv_at hl 3 rfl) ?_
                refine va_get (ci := 0) (v := .ref c4) (C := RX0) (T := TX0) (N := 9) hx hb hts (fun _ h => List.mem_cons_of_mem _ (List.mem_append_left _ (List.mem_append_right _ h))) hown hK.1 hP 0 rfl rfl 4 (by decide) (hts (.fieldLink RX0 19 "CutAtlas$Current" "flowing" "[I") (List.mem_of_getElem? (i := 7) rfl)) (fun _ h9 => h9) rfl dB_36_0_45.1.1.2.1 ?_
                refine lv_iload hx hb dB_36_0_45.1.1.2.2 (lv_at hl 1 rfl) ?_
                refine lv_dup2_11 hx hb dB_36_0_45.1.2.1.1 rfl rfl ?_
                refine va_iald hx hb hK.1 hP 17 0 rfl rfl (i := x5_13) h_16 dB_36_0_45.1.2.1.2 ?_
                refine lv_topi (fun y_58 ey_58 => ?_)
                have e_ := (ey_58.trans ey_54.symm).symm
                subst e_
                skip
                refine lv_iload hx hb dB_36_0_45.1.2.2.1 (lv_at hl 0 rfl) ?_
                refine lv_isub hx hb dB_36_0_45.1.2.2.2 ?_
                refine lv_topi (fun y_59 ey_59 => ?_)
                refine va_iast hx hb hK.1 hP hD hS 17 0 rfl rfl (i := x5_13) h_16 dB_36_0_45.2.1.1.1 (fun H locs hP hD hS => ?_)
                obtain ⟨f_61, ef_61⟩ : ∃ g : Nat → Int32, g = upd c_c4_13 x5_13.toNatClampNeg y_59 := ⟨_, rfl⟩
                refine pd_K (D := D) (cl := vwCl) (H := H) (A := A) [ob0_0_ xc xn xk clo cro c4 c5 c6 c7 c8, ob3_0_ xn vp vn n1 n2 n3 n4 n5, ai_ cy n2 40 fs, ai_ cy n3 40 fe, aq_ cy 6 cro 12 (gf_ rr), ai_ cy (rr 0) 12 (M_12 0), ai_ cy (rr 1) 12 (M_12 1), ai_ cy (rr 2) 12 (M_12 2), ai_ cy (rr 3) 12 (M_12 3), ai_ cy (rr 4) 12 (M_12 4), ai_ cy (rr 5) 12 (M_12 5), ai_ cy (rr 6) 12 (M_12 6), ai_ cy (rr 7) 12 (M_12 7), ai_ cy (rr 8) 12 (M_12 8), ai_ cy (rr 9) 12 (M_12 9), ai_ cy (rr 10) 12 (M_12 10), ai_ cy (rr 11) 12 (M_12 11), ai_ cy c4 40 f_61, ai_ cy c5 40 f5, ai_ cy c6 40 f6] (by rw [ef_61]; exact hP) (by rw [ef_61]; exact hD) (fun hP hD => ?_)
                refine lv_iload hx hb dB_36_0_45.2.1.1.2 (lv_at hl 2 rfl) ?_
                refine lv_iload hx hb dB_36_0_45.2.1.2.1 (lv_at hl 0 rfl) ?_
                refine lv_isub hx hb dB_36_0_45.2.1.2.2 ?_
                refine lv_topi (fun y_62 ey_62 => ?_)
                refine lv_istore (lv' := [(4, .int y_62), (6, .int y_56), (5, .int x5_13), (0, .ref xc), (1, .int a1), (2, .int a2), (3, .int a3)]) hx hb dB_36_0_45.2.2.1.1 hl (by decide) rfl (fun ls hl => ?_)
                obtain ⟨y_63, ey_63⟩ : ∃ y : Int32, y = x5_13 + 1 := ⟨_, rfl⟩
                have ty_63 : y_63.toInt = x5_13.toInt + (1 : Int32).toInt := by rw [ey_63]; exact addI (by omega) (by omega)
                refine lv_iinc (v := y_63) (lv' := [(5, .int y_63), (4, .int y_62), (6, .int y_56), (0, .ref xc), (1, .int a1), (2, .int a2), (3, .int a3)]) hx hb dB_36_0_45.2.2.1.2 hl (k := 2) rfl (by rw [ey_63]; rfl) (by decide) rfl (fun ls hl => ?_)
                refine lv_goto (tgt := 30) hx hb dB_36_0_45.2.2.2.1 (by decide) ?_
                exact ih_13 y_63 y_62 f_61 _ _ _ (by omega) (by first | with_reducible assumption | omega | assumption) (by first | with_reducible assumption | omega | assumption) ⟨hP, hD⟩ hS (lv_sub hl [0, 1, 3, 4, 5, 6] rfl)
          · have t_42 : y_41.toInt = a2.toInt := congrArg Int32.toInt c_42
            refine lv_iload hx hb dB_36_0_41.2.2.1.2 (lv_at hl 1 rfl) ?_
            refine lv_aload_n hx hb dB_36_0_41.2.2.2.1 rfl (lv_at hl 2 rfl) ?_
            refine va_get (ci := 0) (v := .ref c5) (C := RX0) (T := TX0) (N := 9) hx hb hts (fun _ h => List.mem_cons_of_mem _ (List.mem_append_left _ (List.mem_append_right _ h))) hown hK.1 hP 0 rfl rfl 5 (by decide) (hts (.fieldLink RX0 23 "CutAtlas$Current" "letsForth" "[I") (List.mem_of_getElem? (i := 6) rfl)) (fun _ h9 => h9) rfl dB_36_0_41.2.2.2.2 ?_
            refine lv_iload hx hb dB_36_0_42.1.1.1.1 (lv_at hl 0 rfl) ?_
            refine va_iald hx hb hK.1 hP 18 0 rfl rfl (i := x5_13) h_16 dB_36_0_42.1.1.1.2 ?_
            refine lv_topi (fun y_65 ey_65 => ?_)
            refine lv_aload_n hx hb dB_36_0_42.1.1.2.1 rfl (lv_at hl 2 rfl) ?_
            refine va_get (ci := 0) (v := .ref c4) (C := RX0) (T := TX0) (N := 9) hx hb hts (fun _ h => List.mem_cons_of_mem _ (List.mem_append_left _ (List.mem_append_right _ h))) hown hK.1 hP 0 rfl rfl 4 (by decide) (hts (.fieldLink RX0 19 "CutAtlas$Current" "flowing" "[I") (List.mem_of_getElem? (i := 7) rfl)) (fun _ h9 => h9) rfl dB_36_0_42.1.1.2.2 ?_
            refine lv_iload hx hb dB_36_0_42.1.2.1.1 (lv_at hl 0 rfl) ?_
            refine va_iald hx hb hK.1 hP 17 0 rfl rfl (i := x5_13) h_16 dB_36_0_42.1.2.1.2 ?_
            refine lv_topi (fun y_67 ey_67 => ?_)
            refine lv_isub hx hb dB_36_0_42.1.2.2.1 ?_
            refine lv_topi (fun y_68 ey_68 => ?_)
            refine va_mmin hx hb (by rw [hml]; exact hl.1.symm) hown (hts (.methodLink RX0 101 Lib.Math.min.name) (List.mem_of_getElem? (i := 8) rfl)) (hts (.static Lib.Math.min.name) (List.mem_of_getElem? (i := 9) rfl)) (hts (.initialized "java/lang/Math") (List.mem_of_getElem? (i := 10) rfl)) (hts (.code Lib.Math.min.name Lib.Math.min.code 2 (some .int)) (List.mem_of_getElem? (i := 11) rfl)) (Nat.le_of_ble_eq_true rfl) (Nat.le_of_ble_eq_true rfl) (Nat.le_of_ble_eq_true rfl) (Nat.le_of_ble_eq_true rfl) dB_36_0_42.1.2.2.2 ?_
            refine lv_topi (fun y_69 ey_69 => ?_)
            have ty_69 : y_69 = x4_13 ∨ y_69 = y_68 := by rw [ey_69]; split <;> simp
            have iy_69 : y_69.toInt = x4_13.toInt ∨ y_69.toInt = y_68.toInt := by rcases ty_69 with h | h <;> rw [h] <;> simp
            refine lv_istore (lv' := [(6, .int y_69), (5, .int x5_13), (4, .int x4_13), (0, .ref xc), (1, .int a1), (2, .int a2), (3, .int a3)]) hx hb dB_36_0_42.2.1.1.1 hl (by decide) rfl (fun ls hl => ?_)
            refine lv_aload_n hx hb dB_36_0_42.2.1.1.2 rfl (lv_at hl 3 rfl) ?_
            refine va_get (ci := 0) (v := .ref c4) (C := RX0) (T := TX0) (N := 9) hx hb hts (fun _ h => List.mem_cons_of_mem _ (List.mem_append_left _ (List.mem_append_right _ h))) hown hK.1 hP 0 rfl rfl 4 (by decide) (hts (.fieldLink RX0 19 "CutAtlas$Current" "flowing" "[I") (List.mem_of_getElem? (i := 7) rfl)) (fun _ h9 => h9) rfl dB_36_0_42.2.1.2.1 ?_
            refine lv_iload hx hb dB_36_0_42.2.1.2.2 (lv_at hl 1 rfl) ?_
            refine lv_dup2_11 hx hb dB_36_0_42.2.2.1.1 rfl rfl ?_
            refine va_iald hx hb hK.1 hP 17 0 rfl rfl (i := x5_13) h_16 dB_36_0_42.2.2.1.2 ?_
            refine lv_topi (fun y_71 ey_71 => ?_)
            have e_ := (ey_71.trans ey_67.symm).symm
            subst e_
            skip
            refine lv_iload hx hb dB_36_0_42.2.2.2.1 (lv_at hl 0 rfl) ?_
            refine lv_iadd hx hb dB_36_0_42.2.2.2.2 ?_
            refine lv_topi (fun y_72 ey_72 => ?_)
            refine va_iast hx hb hK.1 hP hD hS 17 0 rfl rfl (i := x5_13) h_16 dB_36_0_43.1.1.1.1 (fun H locs hP hD hS => ?_)
            obtain ⟨f_74, ef_74⟩ : ∃ g : Nat → Int32, g = upd c_c4_13 x5_13.toNatClampNeg y_72 := ⟨_, rfl⟩
            refine pd_K (D := D) (cl := vwCl) (H := H) (A := A) [ob0_0_ xc xn xk clo cro c4 c5 c6 c7 c8, ob3_0_ xn vp vn n1 n2 n3 n4 n5, ai_ cy n2 40 fs, ai_ cy n3 40 fe, aq_ cy 6 cro 12 (gf_ rr), ai_ cy (rr 0) 12 (M_12 0), ai_ cy (rr 1) 12 (M_12 1), ai_ cy (rr 2) 12 (M_12 2), ai_ cy (rr 3) 12 (M_12 3), ai_ cy (rr 4) 12 (M_12 4), ai_ cy (rr 5) 12 (M_12 5), ai_ cy (rr 6) 12 (M_12 6), ai_ cy (rr 7) 12 (M_12 7), ai_ cy (rr 8) 12 (M_12 8), ai_ cy (rr 9) 12 (M_12 9), ai_ cy (rr 10) 12 (M_12 10), ai_ cy (rr 11) 12 (M_12 11), ai_ cy c4 40 f_74, ai_ cy c5 40 f5, ai_ cy c6 40 f6] (by rw [ef_74]; exact hP) (by rw [ef_74]; exact hD) (fun hP hD => ?_)
            refine lv_iload hx hb dB_36_0_43.1.1.1.2 (lv_at hl 2 rfl) ?_
            refine lv_iload hx hb dB_36_0_43.1.1.2.1 (lv_at hl 0 rfl) ?_
            refine lv_isub hx hb dB_36_0_43.1.1.2.2 ?_
            refine lv_topi (fun y_75 ey_75 => ?_)
            refine lv_istore (lv' := [(4, .int y_75), (6, .int y_69), (5, .int x5_13), (0, .ref xc), (1, .int a1), (2, .int a2), (3, .int a3)]) hx hb dB_36_0_43.1.2.1.1 hl (by decide) rfl (fun ls hl => ?_)
            refine lv_goto (tgt := 188) hx hb dB_36_0_43.1.2.1.2 (by decide) ?_
            obtain ⟨y_76, ey_76⟩ : ∃ y : Int32, y = x5_13 + 1 := ⟨_, rfl⟩
            have ty_76 : y_76.toInt = x5_13.toInt + (1 : Int32).toInt := by rw [ey_76]; exact addI (by omega) (by omega)
            refine lv_iinc (v := y_76) (lv' := [(5, .int y_76), (4, .int y_75), (6, .int y_69), (0, .ref xc), (1, .int a1), (2, .int a2), (3, .int a3)]) hx hb dB_36_0_45.2.2.1.2 hl (k := 2) rfl (by rw [ey_76]; rfl) (by decide) rfl (fun ls hl => ?_)
            refine lv_goto (tgt := 30) hx hb dB_36_0_45.2.2.2.1 (by decide) ?_
            exact ih_13 y_76 y_75 f_74 _ _ _ (by omega) (by first | with_reducible assumption | omega | assumption) (by first | with_reducible assumption | omega | assumption) ⟨hP, hD⟩ hS (lv_sub hl [0, 1, 3, 4, 5, 6] rfl)
end

section
set_option maxHeartbeats 4000000 in
set_option maxRecDepth 100000 in
theorem c_X0_sendAlongWay2 (l : Launch) (D : va_G) (cy : Nat → ClassId) (sz : Nat) (xc : Nat) (xk : Nat) (clo : Nat) (cro : Nat) (c4 : Nat) (c5 : Nat) (c6 : Nat) (c7 : Nat) (c8 : Nat) (xn : Nat) (n1 : Nat) (n2 : Nat) (n3 : Nat) (n4 : Nat) (n5 : Nat) (vp : Int32) (vn : Int32) (fs : Nat → Int32) (fe : Nat → Int32) (rr : Nat → Nat) (Mr : Nat → Nat → Int32) (f4 : Nat → Int32) (f5 : Nat → Int32) (f6 : Nat → Int32) (f8 : Nat → Int32) (a1 : Int32) (a2 : Int32) (hvp : 0 ≤ vp.toInt ∧ vp.toInt ≤ 12) (hvn : 0 ≤ vn.toInt ∧ vn.toInt ≤ 40) (q1 : 0 ≤ a1.toInt ∧ a1.toInt < vp.toInt) (q2 : 0 ≤ a2.toInt ∧ a2.toInt < vp.toInt) (hne : a1.toInt ≠ a2.toInt) (hrm : rmk (zM Mr) vp.toNatClampNeg) (hw : ∃ n : Nat, n ≤ 11 ∧ wayA (zM Mr) (nF f8) vp.toNatClampNeg a1.toNatClampNeg 1 n a2.toNatClampNeg) (r_f8 : rng f8 12 (0) (11)) : Met l yX0_sendAlongWay wsX0_sendAlongWay ({ frames := 2, cells := 0, slots := 0, locals := 39 }) (va_Pc [.ref xc, .int a1, .int a2] (fun U => U.heap.size = sz ∧ va_P D vwCl [ob0_0_ xc xn xk clo cro c4 c5 c6 c7 c8, ob3_0_ xn vp vn n1 n2 n3 n4 n5, ai_ cy n2 40 fs, ai_ cy n3 40 fe, aq_ cy 6 cro 12 (gf_ rr), ai_ cy (rr 0) 12 (Mr 0), ai_ cy (rr 1) 12 (Mr 1), ai_ cy (rr 2) 12 (Mr 2), ai_ cy (rr 3) 12 (Mr 3), ai_ cy (rr 4) 12 (Mr 4), ai_ cy (rr 5) 12 (Mr 5), ai_ cy (rr 6) 12 (Mr 6), ai_ cy (rr 7) 12 (Mr 7), ai_ cy (rr 8) 12 (Mr 8), ai_ cy (rr 9) 12 (Mr 9), ai_ cy (rr 10) 12 (Mr 10), ai_ cy (rr 11) 12 (Mr 11), ai_ cy c4 40 f4, ai_ cy c5 40 f5, ai_ cy c6 40 f6, ai_ cy c8 12 f8] U.heap ∧ kg_ D cy U ∧ va_D (fun _ => True) [ob0_0_ xc xn xk clo cro c4 c5 c6 c7 c8, ob3_0_ xn vp vn n1 n2 n3 n4 n5, ai_ cy n2 40 fs, ai_ cy n3 40 fe, aq_ cy 6 cro 12 (gf_ rr), ai_ cy (rr 0) 12 (Mr 0), ai_ cy (rr 1) 12 (Mr 1), ai_ cy (rr 2) 12 (Mr 2), ai_ cy (rr 3) 12 (Mr 3), ai_ cy (rr 4) 12 (Mr 4), ai_ cy (rr 5) 12 (Mr 5), ai_ cy (rr 6) 12 (Mr 6), ai_ cy (rr 7) 12 (Mr 7), ai_ cy (rr 8) 12 (Mr 8), ai_ cy (rr 9) 12 (Mr 9), ai_ cy (rr 10) 12 (Mr 10), ai_ cy (rr 11) 12 (Mr 11), ai_ cy c4 40 f4, ai_ cy c5 40 f5, ai_ cy c6 40 f6, ai_ cy c8 12 f8])) (va_Qi (fun (r : Int32) (u : Int32) => u = r ∧ ((1 ≤ r.toInt ∧ r.toInt ≤ 160000000))) (fun (u : Int32) (t : State) => ∃ (eMr : Nat → Nat → Int32), ∃ (e4 : Nat → Int32), (rmk (zM eMr) vp.toNatClampNeg) ∧ (∀ S : Nat → Bool, sep a1.toNatClampNeg a2.toNatClampNeg S → outZ (zM eMr) S vp.toNatClampNeg = outZ (zM Mr) S vp.toNatClampNeg - u.toInt) ∧ va_P D vwCl [ob0_0_ xc xn xk clo cro c4 c5 c6 c7 c8, ob3_0_ xn vp vn n1 n2 n3 n4 n5, ai_ cy n2 40 fs, ai_ cy n3 40 fe, aq_ cy 6 cro 12 (gf_ rr), ai_ cy (rr 0) 12 (eMr 0), ai_ cy (rr 1) 12 (eMr 1), ai_ cy (rr 2) 12 (eMr 2), ai_ cy (rr 3) 12 (eMr 3), ai_ cy (rr 4) 12 (eMr 4), ai_ cy (rr 5) 12 (eMr 5), ai_ cy (rr 6) 12 (eMr 6), ai_ cy (rr 7) 12 (eMr 7), ai_ cy (rr 8) 12 (eMr 8), ai_ cy (rr 9) 12 (eMr 9), ai_ cy (rr 10) 12 (eMr 10), ai_ cy (rr 11) 12 (eMr 11), ai_ cy c4 40 e4, ai_ cy c5 40 f5, ai_ cy c6 40 f6, ai_ cy c8 12 f8] t.heap ∧ va_D (va_A [ob0_0_ xc xn xk clo cro c4 c5 c6 c7 c8, ob3_0_ xn vp vn n1 n2 n3 n4 n5, ai_ cy n2 40 fs, ai_ cy n3 40 fe, aq_ cy 6 cro 12 (gf_ rr), ai_ cy (rr 0) 12 (Mr 0), ai_ cy (rr 1) 12 (Mr 1), ai_ cy (rr 2) 12 (Mr 2), ai_ cy (rr 3) 12 (Mr 3), ai_ cy (rr 4) 12 (Mr 4), ai_ cy (rr 5) 12 (Mr 5), ai_ cy (rr 6) 12 (Mr 6), ai_ cy (rr 7) 12 (Mr 7), ai_ cy (rr 8) 12 (Mr 8), ai_ cy (rr 9) 12 (Mr 9), ai_ cy (rr 10) 12 (Mr 10), ai_ cy (rr 11) 12 (Mr 11), ai_ cy c4 40 f4, ai_ cy c5 40 f5, ai_ cy c6 40 f6, ai_ cy c8 12 f8] sz) [ob0_0_ xc xn xk clo cro c4 c5 c6 c7 c8, ob3_0_ xn vp vn n1 n2 n3 n4 n5, ai_ cy n2 40 fs, ai_ cy n3 40 fe, aq_ cy 6 cro 12 (gf_ rr), ai_ cy (rr 0) 12 (eMr 0), ai_ cy (rr 1) 12 (eMr 1), ai_ cy (rr 2) 12 (eMr 2), ai_ cy (rr 3) 12 (eMr 3), ai_ cy (rr 4) 12 (eMr 4), ai_ cy (rr 5) 12 (eMr 5), ai_ cy (rr 6) 12 (eMr 6), ai_ cy (rr 7) 12 (eMr 7), ai_ cy (rr 8) 12 (eMr 8), ai_ cy (rr 9) 12 (eMr 9), ai_ cy (rr 10) 12 (eMr 10), ai_ cy (rr 11) 12 (eMr 11), ai_ cy c4 40 e4, ai_ cy c5 40 f5, ai_ cy c6 40 f6, ai_ cy c8 12 f8]) (va_A [ob0_0_ xc xn xk clo cro c4 c5 c6 c7 c8, ob3_0_ xn vp vn n1 n2 n3 n4 n5, ai_ cy n2 40 fs, ai_ cy n3 40 fe, aq_ cy 6 cro 12 (gf_ rr), ai_ cy (rr 0) 12 (Mr 0), ai_ cy (rr 1) 12 (Mr 1), ai_ cy (rr 2) 12 (Mr 2), ai_ cy (rr 3) 12 (Mr 3), ai_ cy (rr 4) 12 (Mr 4), ai_ cy (rr 5) 12 (Mr 5), ai_ cy (rr 6) 12 (Mr 6), ai_ cy (rr 7) 12 (Mr 7), ai_ cy (rr 8) 12 (Mr 8), ai_ cy (rr 9) 12 (Mr 9), ai_ cy (rr 10) 12 (Mr 10), ai_ cy (rr 11) 12 (Mr 11), ai_ cy c4 40 f4, ai_ cy c5 40 f5, ai_ cy c6 40 f6, ai_ cy c8 12 f8] sz)) 0 0 (va_A [ob0_0_ xc xn xk clo cro c4 c5 c6 c7 c8, ob3_0_ xn vp vn n1 n2 n3 n4 n5, ai_ cy n2 40 fs, ai_ cy n3 40 fe, aq_ cy 6 cro 12 (gf_ rr), ai_ cy (rr 0) 12 (Mr 0), ai_ cy (rr 1) 12 (Mr 1), ai_ cy (rr 2) 12 (Mr 2), ai_ cy (rr 3) 12 (Mr 3), ai_ cy (rr 4) 12 (Mr 4), ai_ cy (rr 5) 12 (Mr 5), ai_ cy (rr 6) 12 (Mr 6), ai_ cy (rr 7) 12 (Mr 7), ai_ cy (rr 8) 12 (Mr 8), ai_ cy (rr 9) 12 (Mr 9), ai_ cy (rr 10) 12 (Mr 10), ai_ cy (rr 11) 12 (Mr 11), ai_ cy c4 40 f4, ai_ cy c5 40 f5, ai_ cy c6 40 f6, ai_ cy c8 12 f8] sz) := by
  refine ofQ (cc := cX0_sendAlongWay) (maxL := 6) (ret := (some .int)) (by decide) rfl ?_
  intro p e s m args below meth c s₁ Q hQ B hml hv
  obtain ⟨rfl, hsz, hP, hK, hD0⟩ := hv
  have hG := hK.2
  have hK := hK.1
  have hx := B.exec
  have hb := B.bytes
  have hr := B.returns
  have hts := atoms_spec (ws := wsX0_sendAlongWay) B.pre
  have hown : s.vm.findClass RX0 = some m.cls := by have h_ := findClass_of_methodNamed B.named; exact h_
  have hlocks := B.notSynchronized
  subst hsz
  have hD := hD0.self (sz := s.heap.size)
  generalize hAe : va_A [ob0_0_ xc xn xk clo cro c4 c5 c6 c7 c8, ob3_0_ xn vp vn n1 n2 n3 n4 n5, ai_ cy n2 40 fs, ai_ cy n3 40 fe, aq_ cy 6 cro 12 (gf_ rr), ai_ cy (rr 0) 12 (Mr 0), ai_ cy (rr 1) 12 (Mr 1), ai_ cy (rr 2) 12 (Mr 2), ai_ cy (rr 3) 12 (Mr 3), ai_ cy (rr 4) 12 (Mr 4), ai_ cy (rr 5) 12 (Mr 5), ai_ cy (rr 6) 12 (Mr 6), ai_ cy (rr 7) 12 (Mr 7), ai_ cy (rr 8) 12 (Mr 8), ai_ cy (rr 9) 12 (Mr 9), ai_ cy (rr 10) 12 (Mr 10), ai_ cy (rr 11) 12 (Mr 11), ai_ cy c4 40 f4, ai_ cy c5 40 f5, ai_ cy c6 40 f6, ai_ cy c8 12 f8] s.heap.size = A at hD hQ
  have hA : ∀ q : Nat, s.heap.size ≤ q → A q := fun q h => by rw [← hAe]; exact Or.inr h
  have hS : va_S A s.heap s.heap [] := va_S.rf
  have hl := lv_entry ([.ref xc, .int a1, .int a2]) (n := 6) (Nat.le_of_ble_eq_true rfl)
  rw [lg_entry_eq]
  generalize (lg_sl ([.ref xc, .int a1, .int a2]) ++ List.replicate (6 - (lg_sl ([.ref xc, .int a1, .int a2])).length) Slot.unset).toArray = ls at hl ⊢
  have hl : lv_has ls 6 [(0, .ref xc), (1, .int a1), (2, .int a2)] := hl
  have z0 : (0 : Int32).toInt = 0 := by decide
  have z1 : (1 : Int32).toInt = 1 := by decide
  have z12 : (12 : Int32).toInt = 12 := by decide
  have z1000000000 : (1000000000 : Int32).toInt = 1000000000 := by decide
  obtain ⟨n_, hn_, hw_⟩ := hw
  refine lv_ldc (v := 1000000000) hx hb hown (hts (.constant RX0 100 (1000000000)) (List.mem_of_getElem? (i := 1) rfl)) dB_36_0_35.1.1.1.1 ?_
  refine lv_istore_n (lv' := [(3, .int 1000000000), (0, .ref xc), (1, .int a1), (2, .int a2)]) hx hb dB_36_0_35.1.1.1.2 rfl hl (by decide) rfl (fun ls hl => ?_)
  refine lv_iload_n hx hb dB_36_0_35.1.1.2.1 rfl (lv_at hl 3 rfl) ?_
  refine lv_istore (lv' := [(4, .int a2), (3, .int 1000000000), (0, .ref xc), (1, .int a1), (2, .int a2)]) hx hb dB_36_0_35.1.1.2.2 hl (by decide) rfl (fun ls hl => ?_)
  refine lv_iconst (v := 0) hx hb dB_36_0_35.1.2.1.1 (by decide) ?_
  refine lv_istore (lv' := [(5, .int 0), (4, .int a2), (3, .int 1000000000), (0, .ref xc), (1, .int a1), (2, .int a2)]) hx hb dB_36_0_35.1.2.1.2 hl (by decide) rfl (fun ls hl => ?_)
  suffices LOOP_1 : ∀ (n_1 : Nat) (x5_1 : Int32) (x4_1 : Int32) (x3_1 : Int32) (H : Heap) (locs : List Loc) (ls : Array Slot), 12 - x5_1.toInt < (n_1 : Int) → (0 ≤ x4_1.toInt ∧ x4_1.toInt < vp.toInt) → (0 ≤ x5_1.toInt) → (x5_1.toInt ≤ 12) → (1 ≤ x3_1.toInt) → (0 < x5_1.toInt → x3_1.toInt ≤ 160000000) → (wlp (zM Mr) f8 vp.toNatClampNeg a1.toNatClampNeg a2.toNatClampNeg n_ x3_1.toInt x5_1.toInt x4_1.toNatClampNeg) → pd_2 D vwCl A [ob0_0_ xc xn xk clo cro c4 c5 c6 c7 c8, ob3_0_ xn vp vn n1 n2 n3 n4 n5, ai_ cy n2 40 fs, ai_ cy n3 40 fe, aq_ cy 6 cro 12 (gf_ rr), ai_ cy (rr 0) 12 (Mr 0), ai_ cy (rr 1) 12 (Mr 1), ai_ cy (rr 2) 12 (Mr 2), ai_ cy (rr 3) 12 (Mr 3), ai_ cy (rr 4) 12 (Mr 4), ai_ cy (rr 5) 12 (Mr 5), ai_ cy (rr 6) 12 (Mr 6), ai_ cy (rr 7) 12 (Mr 7), ai_ cy (rr 8) 12 (Mr 8), ai_ cy (rr 9) 12 (Mr 9), ai_ cy (rr 10) 12 (Mr 10), ai_ cy (rr 11) 12 (Mr 11), ai_ cy c4 40 f4, ai_ cy c5 40 f5, ai_ cy c6 40 f6, ai_ cy c8 12 f8] H → va_S A s.heap H locs → lv_has ls 6 [(5, .int x5_1), (4, .int x4_1), (3, .int x3_1), (0, .ref xc), (1, .int a1), (2, .int a2)] → W p l e ({ frames := 2, cells := 0, slots := 0, locals := 39 } : Room) s m (([.ref xc, .int a1, .int a2] : List Value).toArray) below meth c H locs 0 0 Q (F0 m 9 ls []) from LOOP_1 ((12 - (0 : Int32).toInt).toNat + 1) (0 : Int32) a2 (1000000000 : Int32) _ _ _ (by omega) (by first | with_reducible assumption | omega | assumption) (by first | with_reducible assumption | omega | assumption) (by first | with_reducible assumption | omega | assumption) (by first | with_reducible assumption | omega | assumption) (by first | with_reducible assumption | assumption | omega) (by first | exact wlp_0 hw_ | exact wlp_st v_none (by omega) hy_ S[ex] (by omega) (by omega) (by omega)) ⟨hP, hD⟩ hS (lv_sub hl [0, 1, 2, 3, 4, 5] rfl)
  intro n_1
  induction n_1 with
  | zero =>
    intro x5_1 x4_1 x3_1 H locs ls hm v0_1 v1_1 v2_1 v3_1 v4_1 v5_1 hPD hS hl; obtain ⟨hP, hD⟩ := hPD
    exact absurd hm (by omega)
  | succ n_1 ih_1 =>
    intro x5_1 x4_1 x3_1 H locs ls hm v0_1 v1_1 v2_1 v3_1 v4_1 v5_1 hPD hS hl; obtain ⟨hP, hD⟩ := hPD
    refine lv_iload hx hb dB_36_0_35.1.2.2.1 (lv_at hl 0 rfl) ?_
    refine lv_bipush (v := 12) hx hb dB_36_0_35.1.2.2.2 (by decide) ?_
    refine lv_icmp_ge (tgt := 57) hx hb dB_36_0_35.2.1.1.1 (by decide) (fun c_2 => ?_) (fun c_2 => ?_)
    · have t_2 : (12 : Int32).toInt ≤ x5_1.toInt := Int32.le_iff_toInt_le.mp c_2
      have hys_ : x4_1.toInt = a1.toInt := by have h_ := v5_1.1; omega
      have hwe_ := wlp_end v5_1 (congrArg Int32.toNatClampNeg (Int32.toInt_inj.mp hys_))
      have hL5_ : 0 < x5_1.toInt := by rcases Int.lt_or_le 0 x5_1.toInt with h_ | h_; exact h_; exfalso; have h0_ := hwe_.2; have hz_ : n_ = 0 := (by omega); rw [hz_] at hw_; exact nc_ne (x := a2) (y := a1) (by omega) (by omega) (by omega) hw_
      refine lv_iload_n hx hb dB_36_0_36.2.2.2.2 rfl (lv_at hl 5 rfl) ?_
      refine lv_istore (lv' := [(4, .int a2), (5, .int x5_1), (3, .int x3_1), (0, .ref xc), (1, .int a1), (2, .int a2)]) hx hb dB_36_0_37.1.1.1.1 hl (by decide) rfl (fun ls hl => ?_)
      refine lv_iconst (v := 0) hx hb dB_36_0_37.1.1.1.2 (by decide) ?_
      refine lv_istore (lv' := [(5, .int 0), (4, .int a2), (3, .int x3_1), (0, .ref xc), (1, .int a1), (2, .int a2)]) hx hb dB_36_0_37.1.1.2.1 hl (by decide) rfl (fun ls hl => ?_)
      suffices LOOP_3 : ∀ (n_3 : Nat) (x5_3 : Int32) (x4_3 : Int32) (m_rr_3 : Nat → Nat → Int32) (c_c4_3 : Nat → Int32) (H : Heap) (locs : List Loc) (ls : Array Slot), 12 - x5_3.toInt < (n_3 : Int) → (0 ≤ x4_3.toInt ∧ x4_3.toInt < vp.toInt) → (0 ≤ x5_3.toInt) → (x5_3.toInt ≤ 12) → (wsn (zM Mr) (zM m_rr_3) f8 vp.toNatClampNeg a1.toNatClampNeg a2.toNatClampNeg n_ x3_1.toInt x5_3.toInt x4_3.toNatClampNeg) → pd_2 D vwCl A [ob0_0_ xc xn xk clo cro c4 c5 c6 c7 c8, ob3_0_ xn vp vn n1 n2 n3 n4 n5, ai_ cy n2 40 fs, ai_ cy n3 40 fe, aq_ cy 6 cro 12 (gf_ rr), ai_ cy (rr 0) 12 (m_rr_3 0), ai_ cy (rr 1) 12 (m_rr_3 1), ai_ cy (rr 2) 12 (m_rr_3 2), ai_ cy (rr 3) 12 (m_rr_3 3), ai_ cy (rr 4) 12 (m_rr_3 4), ai_ cy (rr 5) 12 (m_rr_3 5), ai_ cy (rr 6) 12 (m_rr_3 6), ai_ cy (rr 7) 12 (m_rr_3 7), ai_ cy (rr 8) 12 (m_rr_3 8), ai_ cy (rr 9) 12 (m_rr_3 9), ai_ cy (rr 10) 12 (m_rr_3 10), ai_ cy (rr 11) 12 (m_rr_3 11), ai_ cy c4 40 c_c4_3, ai_ cy c5 40 f5, ai_ cy c6 40 f6, ai_ cy c8 12 f8] H → va_S A s.heap H locs → lv_has ls 6 [(5, .int x5_3), (4, .int x4_3), (3, .int x3_1), (0, .ref xc), (1, .int a1), (2, .int a2)] → W p l e ({ frames := 2, cells := 0, slots := 0, locals := 39 } : Room) s m (([.ref xc, .int a1, .int a2] : List Value).toArray) below meth c H locs 0 0 Q (F0 m 63 ls []) from LOOP_3 ((12 - (0 : Int32).toInt).toNat + 1) (0 : Int32) a2 Mr f4 _ _ _ (by omega) (by first | with_reducible assumption | omega | assumption) (by first | with_reducible assumption | omega | assumption) (by first | with_reducible assumption | omega | assumption) (by first | exact wsn_0 hwe_.1 hrm | exact wsn_st v_none (by omega) (by omega) hy_ S[ex] (by omega) S[ed]) ⟨hP, hD⟩ hS (lv_sub hl [0, 1, 2, 3, 4, 5] rfl)
      intro n_3
      induction n_3 with
      | zero =>
        intro x5_3 x4_3 m_rr_3 c_c4_3 H locs ls hm v0_3 v1_3 v2_3 v3_3 hPD hS hl; obtain ⟨hP, hD⟩ := hPD
        exact absurd hm (by omega)
      | succ n_3 ih_3 =>
        intro x5_3 x4_3 m_rr_3 c_c4_3 H locs ls hm v0_3 v1_3 v2_3 v3_3 hPD hS hl; obtain ⟨hP, hD⟩ := hPD
        refine lv_iload hx hb dB_36_0_37.1.1.2.2 (lv_at hl 0 rfl) ?_
        refine lv_bipush (v := 12) hx hb dB_36_0_37.1.2.1.1 (by decide) ?_
        refine lv_icmp_ge (tgt := 105) hx hb dB_36_0_37.1.2.1.2 (by decide) (fun c_4 => ?_) (fun c_4 => ?_)
        · have t_4 : (12 : Int32).toInt ≤ x5_3.toInt := Int32.le_iff_toInt_le.mp c_4
          have hys2_ : x4_3.toInt = a1.toInt := by have h_ := v3_3.1; omega
          have hse_ := wsn_end v3_3 (congrArg Int32.toNatClampNeg (Int32.toInt_inj.mp hys2_))
          refine lv_iload_n hx hb dB_36_0_38.2.2.2.1 rfl (lv_at hl 2 rfl) ?_
          rw [hQ]
          exact W.iret (v := x3_1) hx hb hr (fun t ht hW => ⟨⟨x3_1, x3_1, rfl, ⟨rfl, (by omega)⟩, m_rr_3, c_c4_3, (hse_.1), (hse_.2), by rw [ht]; exact hP, hD⟩, hS.F ht⟩) hS.2.2 dB_36_0_38.2.2.2.2
        · have t_4 : ¬ (12 : Int32).toInt ≤ x5_3.toInt := fun h => c_4 (Int32.le_iff_toInt_le.mpr h)
          refine lv_iload hx hb dB_36_0_37.1.2.2.1 (lv_at hl 1 rfl) ?_
          refine lv_iload_n hx hb dB_36_0_37.1.2.2.2 rfl (lv_at hl 4 rfl) ?_
          refine lv_icmp_eq (tgt := 105) hx hb dB_36_0_37.2.1.1.1 (by decide) (fun c_5 => ?_) (fun c_5 => ?_)
          · have t_5 : x4_3.toInt = a1.toInt := congrArg Int32.toInt c_5
            have hys2_ : x4_3.toInt = a1.toInt := by have h_ := v3_3.1; omega
            have hse_ := wsn_end v3_3 (congrArg Int32.toNatClampNeg (Int32.toInt_inj.mp hys2_))
            refine lv_iload_n hx hb dB_36_0_38.2.2.2.1 rfl (lv_at hl 2 rfl) ?_
            rw [hQ]
            exact W.iret (v := x3_1) hx hb hr (fun t ht hW => ⟨⟨x3_1, x3_1, rfl, ⟨rfl, (by omega)⟩, m_rr_3, c_c4_3, (hse_.1), (hse_.2), by rw [ht]; exact hP, hD⟩, hS.F ht⟩) hS.2.2 dB_36_0_38.2.2.2.2
          · have t_5 : ¬ x4_3.toInt = a1.toInt := fun h => c_5 (Int32.toInt_inj.mp h)
            have hy_ := nc_ne (x := x4_3) (y := a1) (by omega) (by omega) (by omega)
            have hwm_ := wsn_m v3_3 hy_
            have hrk_ := v3_3.2.2.1
            refine lv_aload_n hx hb dB_36_0_37.2.1.1.2 rfl (lv_at hl 3 rfl) ?_
            refine lv_aload_n hx hb dB_36_0_37.2.1.2.1 rfl (lv_at hl 3 rfl) ?_
            refine va_get (ci := 0) (v := .ref c8) (C := RX0) (T := TX0) (N := 9) hx hb hts (fun _ h => List.mem_cons_of_mem _ (List.mem_append_left _ (List.mem_append_right _ h))) hown hK.1 hP 0 rfl rfl 8 (by decide) (hts (.fieldLink RX0 32 "CutAtlas$Current" "cameFrom" "[I") (List.mem_of_getElem? (i := 3) rfl)) (fun _ h9 => h9) rfl dB_36_0_37.2.1.2.2 ?_
            refine lv_iload hx hb dB_36_0_37.2.2.1.1 (lv_at hl 1 rfl) ?_
            have h_6 : vp_in x4_3 12 := in_I (by first | with_reducible assumption | omega) (by omega)
            refine va_iald hx hb hK.1 hP 20 0 rfl rfl (i := x4_3) h_6 dB_36_0_37.2.2.1.2 ?_
            refine lv_topi (fun y_7 ey_7 => ?_)
            have ry_7 : 0 ≤ y_7.toInt ∧ y_7.toInt ≤ 11 := by rw [ey_7]; exact r_f8 _ (in_lt h_6)
            have hxc_ : nF f8 x4_3.toNatClampNeg = y_7.toNatClampNeg := by rw [ey_7]; rfl
            rw [hxc_] at hwm_
            have hcx_ := clI (i := y_7) (by omega)
            have hcv_ := clI (i := vp) (by omega)
            refine lv_iload hx hb dB_36_0_37.2.2.2.1 (lv_at hl 1 rfl) ?_
            refine lv_iload_n hx hb dB_36_0_37.2.2.2.2 rfl (lv_at hl 2 rfl) ?_
            refine ct_S hP hD hS hA [ob0_0_ xc xn xk clo cro c4 c5 c6 c7 c8, ob3_0_ xn vp vn n1 n2 n3 n4 n5, ai_ cy n2 40 fs, ai_ cy n3 40 fe, aq_ cy 6 cro 12 (gf_ rr), ai_ cy (rr 0) 12 (m_rr_3 0), ai_ cy (rr 1) 12 (m_rr_3 1), ai_ cy (rr 2) 12 (m_rr_3 2), ai_ cy (rr 3) 12 (m_rr_3 3), ai_ cy (rr 4) 12 (m_rr_3 4), ai_ cy (rr 5) 12 (m_rr_3 5), ai_ cy (rr 6) 12 (m_rr_3 6), ai_ cy (rr 7) 12 (m_rr_3 7), ai_ cy (rr 8) 12 (m_rr_3 8), ai_ cy (rr 9) 12 (m_rr_3 9), ai_ cy (rr 10) 12 (m_rr_3 10), ai_ cy (rr 11) 12 (m_rr_3 11), ai_ cy c4 40 c_c4_3, ai_ cy c5 40 f5, ai_ cy c6 40 f6] [0, 1, 2, 3, 4, 5, 6, 7, 8, 9, 10, 11, 12, 13, 14, 15, 16, 17, 18, 19] (by decide +kernel) rfl (fun hPc hDw hFc hC_ => ?_)
            refine va_callv (va_runV (As := [.int y_7, .int x4_3, .int x3_1]) (rest := []) ⟨hx, hb, hml, hown, hts⟩ (c_X0_sendOver2 l D cy H.size xc xk clo cro c4 c5 c6 c7 c8 xn n1 n2 n3 n4 n5 vp vn fs fe rr m_rr_3 c_c4_3 f5 f6 y_7 x4_3 x3_1 (by first | with_reducible assumption | omega | assumption) (by first | with_reducible assumption | omega | assumption) (by first | with_reducible assumption | omega | assumption) (by first | with_reducible assumption | omega | assumption) (by first | with_reducible assumption | assumption | omega) (by first | with_reducible assumption | omega | assumption)) (cwV 3 hts gX0_sendAlongWay_X0_sendOver rfl rfl rfl ⟨rfl, hd_X0_sendOver⟩ ⟨Nat.le_of_ble_eq_true rfl, Nat.le_of_ble_eq_true rfl⟩) ⟨bl_g, va_recvX hK.1 hP (ci := 0) (q0 := 0) rfl rfl, fun U hU hW => ⟨rfl, by rw [hU], by rw [hU]; exact hPc, ⟨kk_mv hW hK, arrOfT_moved hW.alike hG⟩, hDw⟩⟩ rfl rfl hl.1 rfl (lv_room (Nat.le_of_ble_eq_true rfl)) dB_36_0_38.1.1.1 ⟨Nat.le_of_ble_eq_true rfl, Nat.le_of_ble_eq_true rfl⟩) hS (fun q _ h => hFc q h) hFc (fun u t H locs ht hvm hw hB hz1 hk1 hS => ?_)
            obtain ⟨eMr_9, e4_10, g_11, hP1, hD1⟩ := hB
            rw [ht] at hP1
            obtain ⟨hP, hD⟩ := va_join (wr := [ai_ cy c8 12 f8]) (w1 := [ob0_0_ xc xn xk clo cro c4 c5 c6 c7 c8, ob3_0_ xn vp vn n1 n2 n3 n4 n5, ai_ cy n2 40 fs, ai_ cy n3 40 fe, aq_ cy 6 cro 12 (gf_ rr), ai_ cy (rr 0) 12 (eMr_9 0), ai_ cy (rr 1) 12 (eMr_9 1), ai_ cy (rr 2) 12 (eMr_9 2), ai_ cy (rr 3) 12 (eMr_9 3), ai_ cy (rr 4) 12 (eMr_9 4), ai_ cy (rr 5) 12 (eMr_9 5), ai_ cy (rr 6) 12 (eMr_9 6), ai_ cy (rr 7) 12 (eMr_9 7), ai_ cy (rr 8) 12 (eMr_9 8), ai_ cy (rr 9) 12 (eMr_9 9), ai_ cy (rr 10) 12 (eMr_9 10), ai_ cy (rr 11) 12 (eMr_9 11), ai_ cy c4 40 e4_10, ai_ cy c5 40 f5, ai_ cy c6 40 f6]) hP hD [0, 1, 2, 3, 4, 5, 6, 7, 8, 9, 10, 11, 12, 13, 14, 15, 16, 17, 18, 19] [20] hC_ rfl (by decide) (by decide) hk1 hFc hP1 hD1
            refine pd_S hP hD [ob0_0_ xc xn xk clo cro c4 c5 c6 c7 c8, ob3_0_ xn vp vn n1 n2 n3 n4 n5, ai_ cy n2 40 fs, ai_ cy n3 40 fe, aq_ cy 6 cro 12 (gf_ rr), ai_ cy (rr 0) 12 (eMr_9 0), ai_ cy (rr 1) 12 (eMr_9 1), ai_ cy (rr 2) 12 (eMr_9 2), ai_ cy (rr 3) 12 (eMr_9 3), ai_ cy (rr 4) 12 (eMr_9 4), ai_ cy (rr 5) 12 (eMr_9 5), ai_ cy (rr 6) 12 (eMr_9 6), ai_ cy (rr 7) 12 (eMr_9 7), ai_ cy (rr 8) 12 (eMr_9 8), ai_ cy (rr 9) 12 (eMr_9 9), ai_ cy (rr 10) 12 (eMr_9 10), ai_ cy (rr 11) 12 (eMr_9 11), ai_ cy c4 40 e4_10, ai_ cy c5 40 f5, ai_ cy c6 40 f6, ai_ cy c8 12 f8] [1, 2, 3, 4, 5, 6, 7, 8, 9, 10, 11, 12, 13, 14, 15, 16, 17, 18, 19, 20, 0] (by decide +kernel) rfl (fun hP hD => ?_)
            refine lv_aload_n hx hb dB_36_0_38.1.1.2 rfl (lv_at hl 3 rfl) ?_
            refine va_get (ci := 0) (v := .ref c8) (C := RX0) (T := TX0) (N := 9) hx hb hts (fun _ h => List.mem_cons_of_mem _ (List.mem_append_left _ (List.mem_append_right _ h))) hown hK.1 hP 0 rfl rfl 8 (by decide) (hts (.fieldLink RX0 32 "CutAtlas$Current" "cameFrom" "[I") (List.mem_of_getElem? (i := 3) rfl)) (fun _ h9 => h9) rfl dB_36_0_38.1.2.1 ?_
            refine lv_iload hx hb dB_36_0_38.1.2.2.1 (lv_at hl 1 rfl) ?_
            refine va_iald hx hb hK.1 hP 20 0 rfl rfl (i := x4_3) h_6 dB_36_0_38.1.2.2.2 ?_
            refine lv_topi (fun y_13 ey_13 => ?_)
            have e_ := (ey_13.trans ey_7.symm).symm
            subst e_
            skip
            refine lv_istore (lv' := [(4, .int y_7), (5, .int x5_3), (3, .int x3_1), (0, .ref xc), (1, .int a1), (2, .int a2)]) hx hb dB_36_0_38.2.1.1 hl (by decide) rfl (fun ls hl => ?_)
            obtain ⟨y_14, ey_14⟩ : ∃ y : Int32, y = x5_3 + 1 := ⟨_, rfl⟩
            have ty_14 : y_14.toInt = x5_3.toInt + (1 : Int32).toInt := by rw [ey_14]; exact addI (by omega) (by omega)
            refine lv_iinc (v := y_14) (lv' := [(5, .int y_14), (4, .int y_7), (3, .int x3_1), (0, .ref xc), (1, .int a1), (2, .int a2)]) hx hb dB_36_0_38.2.1.2 hl (k := 1) rfl (by rw [ey_14]; rfl) (by decide) rfl (fun ls hl => ?_)
            refine lv_goto (tgt := 63) hx hb dB_36_0_38.2.2.1 (by decide) ?_
            exact ih_3 y_14 y_7 eMr_9 e4_10 _ _ _ (by omega) (by first | with_reducible assumption | omega | assumption) (by first | with_reducible assumption | omega | assumption) (by first | with_reducible assumption | omega | assumption) (by first | exact wsn_0 hwe_.1 hrm | exact wsn_st v3_3 (by omega) (by omega) hy_ ey_7 (by omega) g_11) ⟨hP, hD⟩ hS (lv_sub hl [0, 1, 2, 3, 4, 5] rfl)
    · have t_2 : ¬ (12 : Int32).toInt ≤ x5_1.toInt := fun h => c_2 (Int32.le_iff_toInt_le.mpr h)
      refine lv_iload hx hb dB_36_0_35.2.1.1.2 (lv_at hl 1 rfl) ?_
      refine lv_iload_n hx hb dB_36_0_35.2.1.2.1 rfl (lv_at hl 4 rfl) ?_
      refine lv_icmp_eq (tgt := 57) hx hb dB_36_0_35.2.1.2.2 (by decide) (fun c_15 => ?_) (fun c_15 => ?_)
      · have t_15 : x4_1.toInt = a1.toInt := congrArg Int32.toInt c_15
        have hys_ : x4_1.toInt = a1.toInt := by have h_ := v5_1.1; omega
        have hwe_ := wlp_end v5_1 (congrArg Int32.toNatClampNeg (Int32.toInt_inj.mp hys_))
        have hL5_ : 0 < x5_1.toInt := by rcases Int.lt_or_le 0 x5_1.toInt with h_ | h_; exact h_; exfalso; have h0_ := hwe_.2; have hz_ : n_ = 0 := (by omega); rw [hz_] at hw_; exact nc_ne (x := a2) (y := a1) (by omega) (by omega) (by omega) hw_
        refine lv_iload_n hx hb dB_36_0_36.2.2.2.2 rfl (lv_at hl 5 rfl) ?_
        refine lv_istore (lv' := [(4, .int a2), (5, .int x5_1), (3, .int x3_1), (0, .ref xc), (1, .int a1), (2, .int a2)]) hx hb dB_36_0_37.1.1.1.1 hl (by decide) rfl (fun ls hl => ?_)
        refine lv_iconst (v := 0) hx hb dB_36_0_37.1.1.1.2 (by decide) ?_
        refine lv_istore (lv' := [(5, .int 0), (4, .int a2), (3, .int x3_1), (0, .ref xc), (1, .int a1), (2, .int a2)]) hx hb dB_36_0_37.1.1.2.1 hl (by decide) rfl (fun ls hl => ?_)
        suffices LOOP_16 : ∀ (n_16 : Nat) (x5_16 : Int32) (x4_16 : Int32) (m_rr_16 : Nat → Nat → Int32) (c_c4_16 : Nat → Int32) (H : Heap) (locs : List Loc) (ls : Array Slot), 12 - x5_16.toInt < (n_16 : Int) → (0 ≤ x4_16.toInt ∧ x4_16.toInt < vp.toInt) → (0 ≤ x5_16.toInt) → (x5_16.toInt ≤ 12) → (wsn (zM Mr) (zM m_rr_16) f8 vp.toNatClampNeg a1.toNatClampNeg a2.toNatClampNeg n_ x3_1.toInt x5_16.toInt x4_16.toNatClampNeg) → pd_2 D vwCl A [ob0_0_ xc xn xk clo cro c4 c5 c6 c7 c8, ob3_0_ xn vp vn n1 n2 n3 n4 n5, ai_ cy n2 40 fs, ai_ cy n3 40 fe, aq_ cy 6 cro 12 (gf_ rr), ai_ cy (rr 0) 12 (m_rr_16 0), ai_ cy (rr 1) 12 (m_rr_16 1), ai_ cy (rr 2) 12 (m_rr_16 2), ai_ cy (rr 3) 12 (m_rr_16 3), ai_ cy (rr 4) 12 (m_rr_16 4), ai_ cy (rr 5) 12 (m_rr_16 5), ai_ cy (rr 6) 12 (m_rr_16 6), ai_ cy (rr 7) 12 (m_rr_16 7), ai_ cy (rr 8) 12 (m_rr_16 8), ai_ cy (rr 9) 12 (m_rr_16 9), ai_ cy (rr 10) 12 (m_rr_16 10), ai_ cy (rr 11) 12 (m_rr_16 11), ai_ cy c4 40 c_c4_16, ai_ cy c5 40 f5, ai_ cy c6 40 f6, ai_ cy c8 12 f8] H → va_S A s.heap H locs → lv_has ls 6 [(5, .int x5_16), (4, .int x4_16), (3, .int x3_1), (0, .ref xc), (1, .int a1), (2, .int a2)] → W p l e ({ frames := 2, cells := 0, slots := 0, locals := 39 } : Room) s m (([.ref xc, .int a1, .int a2] : List Value).toArray) below meth c H locs 0 0 Q (F0 m 63 ls []) from LOOP_16 ((12 - (0 : Int32).toInt).toNat + 1) (0 : Int32) a2 Mr f4 _ _ _ (by omega) (by first | with_reducible assumption | omega | assumption) (by first | with_reducible assumption | omega | assumption) (by first | with_reducible assumption | omega | assumption) (by first | exact wsn_0 hwe_.1 hrm | exact wsn_st v_none (by omega) (by omega) hy_ S[ex] (by omega) S[ed]) ⟨hP, hD⟩ hS (lv_sub hl [0, 1, 2, 3, 4, 5] rfl)
        intro n_16
        induction n_16 with
        | zero =>
          intro x5_16 x4_16 m_rr_16 c_c4_16 H locs ls hm v0_16 v1_16 v2_16 v3_16 hPD hS hl; obtain ⟨hP, hD⟩ := hPD
          exact absurd hm (by omega)
        | succ n_16 ih_16 =>
          intro x5_16 x4_16 m_rr_16 c_c4_16 H locs ls hm v0_16 v1_16 v2_16 v3_16 hPD hS hl; obtain ⟨hP, hD⟩ := hPD
          refine lv_iload hx hb dB_36_0_37.1.1.2.2 (lv_at hl 0 rfl) ?_
          refine lv_bipush (v := 12) hx hb dB_36_0_37.1.2.1.1 (by decide) ?_
          refine lv_icmp_ge (tgt := 105) hx hb dB_36_0_37.1.2.1.2 (by decide) (fun c_17 => ?_) (fun c_17 => ?_)
          · have t_17 : (12 : Int32).toInt ≤ x5_16.toInt := Int32.le_iff_toInt_le.mp c_17
            have hys2_ : x4_16.toInt = a1.toInt := by have h_ := v3_16.1; omega
            have hse_ := wsn_end v3_16 (congrArg Int32.toNatClampNeg (Int32.toInt_inj.mp hys2_))
            refine lv_iload_n hx hb dB_36_0_38.2.2.2.1 rfl (lv_at hl 2 rfl) ?_
            rw [hQ]
            exact W.iret (v := x3_1) hx hb hr (fun t ht hW => ⟨⟨x3_1, x3_1, rfl, ⟨rfl, (by omega)⟩, m_rr_16, c_c4_16, (hse_.1), (hse_.2), by rw [ht]; exact hP, hD⟩, hS.F ht⟩) hS.2.2 dB_36_0_38.2.2.2.2
          · have t_17 : ¬ (12 : Int32).toInt ≤ x5_16.toInt := fun h => c_17 (Int32.le_iff_toInt_le.mpr h)
            refine lv_iload hx hb dB_36_0_37.1.2.2.1 (lv_at hl 1 rfl) ?_
            refine lv_iload_n hx hb dB_36_0_37.1.2.2.2 rfl (lv_at hl 4 rfl) ?_
            refine lv_icmp_eq (tgt := 105) hx hb dB_36_0_37.2.1.1.1 (by decide) (fun c_18 => ?_) (fun c_18 => ?_)
            · have t_18 : x4_16.toInt = a1.toInt := congrArg Int32.toInt c_18
              have hys2_ : x4_16.toInt = a1.toInt := by have h_ := v3_16.1; omega
              have hse_ := wsn_end v3_16 (congrArg Int32.toNatClampNeg (Int32.toInt_inj.mp hys2_))
              refine lv_iload_n hx hb dB_36_0_38.2.2.2.1 rfl (lv_at hl 2 rfl) ?_
              rw [hQ]
              exact W.iret (v := x3_1) hx hb hr (fun t ht hW => ⟨⟨x3_1, x3_1, rfl, ⟨rfl, (by omega)⟩, m_rr_16, c_c4_16, (hse_.1), (hse_.2), by rw [ht]; exact hP, hD⟩, hS.F ht⟩) hS.2.2 dB_36_0_38.2.2.2.2
            · have t_18 : ¬ x4_16.toInt = a1.toInt := fun h => c_18 (Int32.toInt_inj.mp h)
              have hy_ := nc_ne (x := x4_16) (y := a1) (by omega) (by omega) (by omega)
              have hwm_ := wsn_m v3_16 hy_
              have hrk_ := v3_16.2.2.1
              refine lv_aload_n hx hb dB_36_0_37.2.1.1.2 rfl (lv_at hl 3 rfl) ?_
              refine lv_aload_n hx hb dB_36_0_37.2.1.2.1 rfl (lv_at hl 3 rfl) ?_
              refine va_get (ci := 0) (v := .ref c8) (C := RX0) (T := TX0) (N := 9) hx hb hts (fun _ h => List.mem_cons_of_mem _ (List.mem_append_left _ (List.mem_append_right _ h))) hown hK.1 hP 0 rfl rfl 8 (by decide) (hts (.fieldLink RX0 32 "CutAtlas$Current" "cameFrom" "[I") (List.mem_of_getElem? (i := 3) rfl)) (fun _ h9 => h9) rfl dB_36_0_37.2.1.2.2 ?_
              refine lv_iload hx hb dB_36_0_37.2.2.1.1 (lv_at hl 1 rfl) ?_
              have h_19 : vp_in x4_16 12 := in_I (by first | with_reducible assumption | omega) (by omega)
              refine va_iald hx hb hK.1 hP 20 0 rfl rfl (i := x4_16) h_19 dB_36_0_37.2.2.1.2 ?_
              refine lv_topi (fun y_20 ey_20 => ?_)
              have ry_20 : 0 ≤ y_20.toInt ∧ y_20.toInt ≤ 11 := by rw [ey_20]; exact r_f8 _ (in_lt h_19)
              have hxc_ : nF f8 x4_16.toNatClampNeg = y_20.toNatClampNeg := by rw [ey_20]; rfl
              rw [hxc_] at hwm_
              have hcx_ := clI (i := y_20) (by omega)
              have hcv_ := clI (i := vp) (by omega)
              refine lv_iload hx hb dB_36_0_37.2.2.2.1 (lv_at hl 1 rfl) ?_
              refine lv_iload_n hx hb dB_36_0_37.2.2.2.2 rfl (lv_at hl 2 rfl) ?_
              refine ct_S hP hD hS hA [ob0_0_ xc xn xk clo cro c4 c5 c6 c7 c8, ob3_0_ xn vp vn n1 n2 n3 n4 n5, ai_ cy n2 40 fs, ai_ cy n3 40 fe, aq_ cy 6 cro 12 (gf_ rr), ai_ cy (rr 0) 12 (m_rr_16 0), ai_ cy (rr 1) 12 (m_rr_16 1), ai_ cy (rr 2) 12 (m_rr_16 2), ai_ cy (rr 3) 12 (m_rr_16 3), ai_ cy (rr 4) 12 (m_rr_16 4), ai_ cy (rr 5) 12 (m_rr_16 5), ai_ cy (rr 6) 12 (m_rr_16 6), ai_ cy (rr 7) 12 (m_rr_16 7), ai_ cy (rr 8) 12 (m_rr_16 8), ai_ cy (rr 9) 12 (m_rr_16 9), ai_ cy (rr 10) 12 (m_rr_16 10), ai_ cy (rr 11) 12 (m_rr_16 11), ai_ cy c4 40 c_c4_16, ai_ cy c5 40 f5, ai_ cy c6 40 f6] [0, 1, 2, 3, 4, 5, 6, 7, 8, 9, 10, 11, 12, 13, 14, 15, 16, 17, 18, 19] (by decide +kernel) rfl (fun hPc hDw hFc hC_ => ?_)
              refine va_callv (va_runV (As := [.int y_20, .int x4_16, .int x3_1]) (rest := []) ⟨hx, hb, hml, hown, hts⟩ (c_X0_sendOver2 l D cy H.size xc xk clo cro c4 c5 c6 c7 c8 xn n1 n2 n3 n4 n5 vp vn fs fe rr m_rr_16 c_c4_16 f5 f6 y_20 x4_16 x3_1 (by first | with_reducible assumption | omega | assumption) (by first | with_reducible assumption | omega | assumption) (by first | with_reducible assumption | omega | assumption) (by first | with_reducible assumption | omega | assumption) (by first | with_reducible assumption | assumption | omega) (by first | with_reducible assumption | omega | assumption)) (cwV 3 hts gX0_sendAlongWay_X0_sendOver rfl rfl rfl ⟨rfl, hd_X0_sendOver⟩ ⟨Nat.le_of_ble_eq_true rfl, Nat.le_of_ble_eq_true rfl⟩) ⟨bl_g, va_recvX hK.1 hP (ci := 0) (q0 := 0) rfl rfl, fun U hU hW => ⟨rfl, by rw [hU], by rw [hU]; exact hPc, ⟨kk_mv hW hK, arrOfT_moved hW.alike hG⟩, hDw⟩⟩ rfl rfl hl.1 rfl (lv_room (Nat.le_of_ble_eq_true rfl)) dB_36_0_38.1.1.1 ⟨Nat.le_of_ble_eq_true rfl, Nat.le_of_ble_eq_true rfl⟩) hS (fun q _ h => hFc q h) hFc (fun u t H locs ht hvm hw hB hz1 hk1 hS => ?_)
              obtain ⟨eMr_22, e4_23, g_24, hP1, hD1⟩ := hB
              rw [ht] at hP1
              obtain ⟨hP, hD⟩ := va_join (wr := [ai_ cy c8 12 f8]) (w1 := [ob0_0_ xc xn xk clo cro c4 c5 c6 c7 c8, ob3_0_ xn vp vn n1 n2 n3 n4 n5, ai_ cy n2 40 fs, ai_ cy n3 40 fe, aq_ cy 6 cro 12 (gf_ rr), ai_ cy (rr 0) 12 (eMr_22 0), ai_ cy (rr 1) 12 (eMr_22 1), ai_ cy (rr 2) 12 (eMr_22 2), ai_ cy (rr 3) 12 (eMr_22 3), ai_ cy (rr 4) 12 (eMr_22 4), ai_ cy (rr 5) 12 (eMr_22 5), ai_ cy (rr 6) 12 (eMr_22 6), ai_ cy (rr 7) 12 (eMr_22 7), ai_ cy (rr 8) 12 (eMr_22 8), ai_ cy (rr 9) 12 (eMr_22 9), ai_ cy (rr 10) 12 (eMr_22 10), ai_ cy (rr 11) 12 (eMr_22 11), ai_ cy c4 40 e4_23, ai_ cy c5 40 f5, ai_ cy c6 40 f6]) hP hD [0, 1, 2, 3, 4, 5, 6, 7, 8, 9, 10, 11, 12, 13, 14, 15, 16, 17, 18, 19] [20] hC_ rfl (by decide) (by decide) hk1 hFc hP1 hD1
              refine pd_S hP hD [ob0_0_ xc xn xk clo cro c4 c5 c6 c7 c8, ob3_0_ xn vp vn n1 n2 n3 n4 n5, ai_ cy n2 40 fs, ai_ cy n3 40 fe, aq_ cy 6 cro 12 (gf_ rr), ai_ cy (rr 0) 12 (eMr_22 0), ai_ cy (rr 1) 12 (eMr_22 1), ai_ cy (rr 2) 12 (eMr_22 2), ai_ cy (rr 3) 12 (eMr_22 3), ai_ cy (rr 4) 12 (eMr_22 4), ai_ cy (rr 5) 12 (eMr_22 5), ai_ cy (rr 6) 12 (eMr_22 6), ai_ cy (rr 7) 12 (eMr_22 7), ai_ cy (rr 8) 12 (eMr_22 8), ai_ cy (rr 9) 12 (eMr_22 9), ai_ cy (rr 10) 12 (eMr_22 10), ai_ cy (rr 11) 12 (eMr_22 11), ai_ cy c4 40 e4_23, ai_ cy c5 40 f5, ai_ cy c6 40 f6, ai_ cy c8 12 f8] [1, 2, 3, 4, 5, 6, 7, 8, 9, 10, 11, 12, 13, 14, 15, 16, 17, 18, 19, 20, 0] (by decide +kernel) rfl (fun hP hD => ?_)
              refine lv_aload_n hx hb dB_36_0_38.1.1.2 rfl (lv_at hl 3 rfl) ?_
              refine va_get (ci := 0) (v := .ref c8) (C := RX0) (T := TX0) (N := 9) hx hb hts (fun _ h => List.mem_cons_of_mem _ (List.mem_append_left _ (List.mem_append_right _ h))) hown hK.1 hP 0 rfl rfl 8 (by decide) (hts (.fieldLink RX0 32 "CutAtlas$Current" "cameFrom" "[I") (List.mem_of_getElem? (i := 3) rfl)) (fun _ h9 => h9) rfl dB_36_0_38.1.2.1 ?_
              refine lv_iload hx hb dB_36_0_38.1.2.2.1 (lv_at hl 1 rfl) ?_
              refine va_iald hx hb hK.1 hP 20 0 rfl rfl (i := x4_16) h_19 dB_36_0_38.1.2.2.2 ?_
              refine lv_topi (fun y_26 ey_26 => ?_)
              have e_ := (ey_26.trans ey_20.symm).symm
              subst e_
              skip
              refine lv_istore (lv' := [(4, .int y_20), (5, .int x5_16), (3, .int x3_1), (0, .ref xc), (1, .int a1), (2, .int a2)]) hx hb dB_36_0_38.2.1.1 hl (by decide) rfl (fun ls hl => ?_)
              obtain ⟨y_27, ey_27⟩ : ∃ y : Int32, y = x5_16 + 1 := ⟨_, rfl⟩
              have ty_27 : y_27.toInt = x5_16.toInt + (1 : Int32).toInt := by rw [ey_27]; exact addI (by omega) (by omega)
              refine lv_iinc (v := y_27) (lv' := [(5, .int y_27), (4, .int y_20), (3, .int x3_1), (0, .ref xc), (1, .int a1), (2, .int a2)]) hx hb dB_36_0_38.2.1.2 hl (k := 1) rfl (by rw [ey_27]; rfl) (by decide) rfl (fun ls hl => ?_)
              refine lv_goto (tgt := 63) hx hb dB_36_0_38.2.2.1 (by decide) ?_
              exact ih_16 y_27 y_20 eMr_22 e4_23 _ _ _ (by omega) (by first | with_reducible assumption | omega | assumption) (by first | with_reducible assumption | omega | assumption) (by first | with_reducible assumption | omega | assumption) (by first | exact wsn_0 hwe_.1 hrm | exact wsn_st v3_16 (by omega) (by omega) hy_ ey_20 (by omega) g_24) ⟨hP, hD⟩ hS (lv_sub hl [0, 1, 2, 3, 4, 5] rfl)
      · have t_15 : ¬ x4_1.toInt = a1.toInt := fun h => c_15 (Int32.toInt_inj.mp h)
        have hy_ := nc_ne (x := x4_1) (y := a1) (by omega) (by omega) (by omega)
        have hwm_ := wlp_m v5_1 hy_
        have hrx_ := hrm _ _ hwm_.2.1 hwm_.1
        have hry_ := hrm _ _ hwm_.1 hwm_.2.1
        refine lv_iload_n hx hb dB_36_0_35.2.2.1.1 rfl (lv_at hl 2 rfl) ?_
        refine lv_aload_n hx hb dB_36_0_35.2.2.1.2 rfl (lv_at hl 3 rfl) ?_
        refine va_get (ci := 0) (v := .ref cro) (C := RX0) (T := TX0) (N := 9) hx hb hts (fun _ h => List.mem_cons_of_mem _ (List.mem_append_left _ (List.mem_append_right _ h))) hown hK.1 hP 0 rfl rfl 3 (by decide) (hts (.fieldLink RX0 16 "CutAtlas$Current" "room" "[[I") (List.mem_of_getElem? (i := 2) rfl)) (fun _ h9 => h9) rfl dB_36_0_35.2.2.2.1 ?_
        refine lv_aload_n hx hb dB_36_0_35.2.2.2.2 rfl (lv_at hl 3 rfl) ?_
        refine va_get (ci := 0) (v := .ref c8) (C := RX0) (T := TX0) (N := 9) hx hb hts (fun _ h => List.mem_cons_of_mem _ (List.mem_append_left _ (List.mem_append_right _ h))) hown hK.1 hP 0 rfl rfl 8 (by decide) (hts (.fieldLink RX0 32 "CutAtlas$Current" "cameFrom" "[I") (List.mem_of_getElem? (i := 3) rfl)) (fun _ h9 => h9) rfl dB_36_0_36.1.1.1.1 ?_
        refine lv_iload hx hb dB_36_0_36.1.1.1.2 (lv_at hl 1 rfl) ?_
        have h_28 : vp_in x4_1 12 := in_I (by first | with_reducible assumption | omega) (by omega)
        refine va_iald hx hb hK.1 hP 20 0 rfl rfl (i := x4_1) h_28 dB_36_0_36.1.1.2.1 ?_
        refine lv_topi (fun y_29 ey_29 => ?_)
        have ry_29 : 0 ≤ y_29.toInt ∧ y_29.toInt ≤ 11 := by rw [ey_29]; exact r_f8 _ (in_lt h_28)
        have hxc_ : nF f8 x4_1.toNatClampNeg = y_29.toNatClampNeg := by rw [ey_29]; rfl
        rw [hxc_] at hwm_ hrx_ hry_
        have hcx_ := clI (i := y_29) (by omega)
        have hcv_ := clI (i := vp) (by omega)
        have h_30 : vp_in y_29 12 := in_I (by first | with_reducible assumption | omega) (by omega)
        refine va_alda hx hb hG hP 4 rfl (i := y_29) h_30 dB_36_0_36.1.1.2.2 ?_
        refine lv_topv (v' := .ref (rr y_29.toNatClampNeg)) (gf_at h_30) ?_
        refine lv_iload hx hb dB_36_0_36.1.2.1.1 (lv_at hl 1 rfl) ?_
        have hPg : va_P D vwCl (([ob0_0_ xc xn xk clo cro c4 c5 c6 c7 c8, ob3_0_ xn vp vn n1 n2 n3 n4 n5, ai_ cy n2 40 fs, ai_ cy n3 40 fe, aq_ cy 6 cro 12 (gf_ rr)] : va_W) ++ (gro (cy 0) rr Mr ++ ([ai_ cy c4 40 f4, ai_ cy c5 40 f5, ai_ cy c6 40 f6, ai_ cy c8 12 f8] : va_W))) H := hP
        refine va_gld (X := [ob0_0_ xc xn xk clo cro c4 c5 c6 c7 c8, ob3_0_ xn vp vn n1 n2 n3 n4 n5, ai_ cy n2 40 fs, ai_ cy n3 40 fe, aq_ cy 6 cro 12 (gf_ rr)]) (Y := [ai_ cy c4 40 f4, ai_ cy c5 40 f5, ai_ cy c6 40 f6, ai_ cy c8 12 f8]) (r := rr) (M := Mr) (k := y_29.toNatClampNeg) hx hb hK.1 hPg 0 rfl (in_lt h_30) (i := x4_1) h_28 dB_36_0_36.1.2.1.2 ?_
        refine lv_topi (fun y_32 ey_32 => ?_)
        have hmv_ : y_32.toInt = zM Mr y_29.toNatClampNeg x4_1.toNatClampNeg := by unfold zM; rw [ey_32]
        refine va_mmin hx hb (by rw [hml]; exact hl.1.symm) hown (hts (.methodLink RX0 101 Lib.Math.min.name) (List.mem_of_getElem? (i := 4) rfl)) (hts (.static Lib.Math.min.name) (List.mem_of_getElem? (i := 5) rfl)) (hts (.initialized "java/lang/Math") (List.mem_of_getElem? (i := 6) rfl)) (hts (.code Lib.Math.min.name Lib.Math.min.code 2 (some .int)) (List.mem_of_getElem? (i := 7) rfl)) (Nat.le_of_ble_eq_true rfl) (Nat.le_of_ble_eq_true rfl) (Nat.le_of_ble_eq_true rfl) (Nat.le_of_ble_eq_true rfl) dB_36_0_36.1.2.2.1 ?_
        refine lv_topi (fun y_33 ey_33 => ?_)
        have ty_33 : y_33 = x3_1 ∨ y_33 = y_32 := by rw [ey_33]; split <;> simp
        have iy_33 : y_33.toInt = x3_1.toInt ∨ y_33.toInt = y_32.toInt := by rcases ty_33 with h | h <;> rw [h] <;> simp
        have hmn_ : y_33.toInt ≤ x3_1.toInt ∧ y_33.toInt ≤ zM Mr y_29.toNatClampNeg x4_1.toNatClampNeg ∧ (y_33.toInt = x3_1.toInt ∨ y_33.toInt = zM Mr y_29.toNatClampNeg x4_1.toNatClampNeg) := by have h_ := mnI ey_33; unfold loI at h_; split at h_ <;> omega
        refine lv_istore_n (lv' := [(3, .int y_33), (5, .int x5_1), (4, .int x4_1), (0, .ref xc), (1, .int a1), (2, .int a2)]) hx hb dB_36_0_36.1.2.2.2 rfl hl (by decide) rfl (fun ls hl => ?_)
        refine lv_aload_n hx hb dB_36_0_36.2.1.1.1 rfl (lv_at hl 3 rfl) ?_
        refine va_get (ci := 0) (v := .ref c8) (C := RX0) (T := TX0) (N := 9) hx hb hts (fun _ h => List.mem_cons_of_mem _ (List.mem_append_left _ (List.mem_append_right _ h))) hown hK.1 hP 0 rfl rfl 8 (by decide) (hts (.fieldLink RX0 32 "CutAtlas$Current" "cameFrom" "[I") (List.mem_of_getElem? (i := 3) rfl)) (fun _ h9 => h9) rfl dB_36_0_36.2.1.1.2 ?_
        refine lv_iload hx hb dB_36_0_36.2.1.2.1 (lv_at hl 2 rfl) ?_
        refine va_iald hx hb hK.1 hP 20 0 rfl rfl (i := x4_1) h_28 dB_36_0_36.2.1.2.2 ?_
        refine lv_topi (fun y_35 ey_35 => ?_)
        have e_ := (ey_35.trans ey_29.symm).symm
        subst e_
        skip
        refine lv_istore (lv' := [(4, .int y_29), (3, .int y_33), (5, .int x5_1), (0, .ref xc), (1, .int a1), (2, .int a2)]) hx hb dB_36_0_36.2.2.1.1 hl (by decide) rfl (fun ls hl => ?_)
        obtain ⟨y_36, ey_36⟩ : ∃ y : Int32, y = x5_1 + 1 := ⟨_, rfl⟩
        have ty_36 : y_36.toInt = x5_1.toInt + (1 : Int32).toInt := by rw [ey_36]; exact addI (by omega) (by omega)
        refine lv_iinc (v := y_36) (lv' := [(5, .int y_36), (4, .int y_29), (3, .int y_33), (0, .ref xc), (1, .int a1), (2, .int a2)]) hx hb dB_36_0_36.2.2.1.2 hl (k := 2) rfl (by rw [ey_36]; rfl) (by decide) rfl (fun ls hl => ?_)
        refine lv_goto (tgt := 9) hx hb dB_36_0_36.2.2.2.1 (by decide) ?_
        exact ih_1 y_36 y_29 y_33 _ _ _ (by omega) (by first | with_reducible assumption | omega | assumption) (by first | with_reducible assumption | omega | assumption) (by first | with_reducible assumption | omega | assumption) (by first | with_reducible assumption | omega | assumption) (by first | with_reducible assumption | assumption | omega) (by first | exact wlp_0 hw_ | exact wlp_st v5_1 (by omega) hy_ ey_29 (by omega) (by omega) (by omega)) ⟨hP, hD⟩ hS (lv_sub hl [0, 1, 2, 3, 4, 5] rfl)
end

section
set_option maxHeartbeats 4000000 in
set_option maxRecDepth 100000 in
theorem c_X0_fill2 (l : Launch) (D : va_G) (cy : Nat → ClassId) (sz : Nat) (xc : Nat) (xk : Nat) (clo : Nat) (cro : Nat) (c4 : Nat) (c5 : Nat) (c6 : Nat) (c7 : Nat) (c8 : Nat) (xn : Nat) (n1 : Nat) (n2 : Nat) (n3 : Nat) (n4 : Nat) (n5 : Nat) (vp : Int32) (vn : Int32) (fs : Nat → Int32) (fe : Nat → Int32) (rl : Nat → Nat) (Ml : Nat → Nat → Int32) (rr : Nat → Nat) (Mr : Nat → Nat → Int32) (f4 : Nat → Int32) (f5 : Nat → Int32) (f6 : Nat → Int32) (f7 : Nat → Int32) (f8 : Nat → Int32) (a1 : Int32) (a2 : Int32) (hvp : 0 ≤ vp.toInt ∧ vp.toInt ≤ 12) (hvn : 0 ≤ vn.toInt ∧ vn.toInt ≤ 40) (q1 : 0 ≤ a1.toInt ∧ a1.toInt < vp.toInt) (q2 : 0 ≤ a2.toInt ∧ a2.toInt < vp.toInt) (hne : a1.toInt ≠ a2.toInt) (hM : ∀ x y : Nat, x < vp.toNatClampNeg → y < vp.toNatClampNeg → 0 ≤ zM Ml x y ∧ zM Ml x y ≤ 80000000) (hC : ∀ S : Nat → Bool, clsd (zM Ml) vp.toNatClampNeg 1000000 S → outZ (zM Ml) S vp.toNatClampNeg ≤ 100000) (r_f7 : rng f7 12 (0) (11)) (r_f8 : rng f8 12 (0) (11)) : Met l yX0_fill wsX0_fill ({ frames := 3, cells := 0, slots := 0, locals := 64 }) (va_Pc [.ref xc, .int a1, .int a2] (fun U => U.heap.size = sz ∧ va_P D vwCl [ob0_0_ xc xn xk clo cro c4 c5 c6 c7 c8, ob3_0_ xn vp vn n1 n2 n3 n4 n5, ai_ cy n2 40 fs, ai_ cy n3 40 fe, aq_ cy 6 clo 12 (gf_ rl), ai_ cy (rl 0) 12 (Ml 0), ai_ cy (rl 1) 12 (Ml 1), ai_ cy (rl 2) 12 (Ml 2), ai_ cy (rl 3) 12 (Ml 3), ai_ cy (rl 4) 12 (Ml 4), ai_ cy (rl 5) 12 (Ml 5), ai_ cy (rl 6) 12 (Ml 6), ai_ cy (rl 7) 12 (Ml 7), ai_ cy (rl 8) 12 (Ml 8), ai_ cy (rl 9) 12 (Ml 9), ai_ cy (rl 10) 12 (Ml 10), ai_ cy (rl 11) 12 (Ml 11), aq_ cy 6 cro 12 (gf_ rr), ai_ cy (rr 0) 12 (Mr 0), ai_ cy (rr 1) 12 (Mr 1), ai_ cy (rr 2) 12 (Mr 2), ai_ cy (rr 3) 12 (Mr 3), ai_ cy (rr 4) 12 (Mr 4), ai_ cy (rr 5) 12 (Mr 5), ai_ cy (rr 6) 12 (Mr 6), ai_ cy (rr 7) 12 (Mr 7), ai_ cy (rr 8) 12 (Mr 8), ai_ cy (rr 9) 12 (Mr 9), ai_ cy (rr 10) 12 (Mr 10), ai_ cy (rr 11) 12 (Mr 11), ai_ cy c4 40 f4, ai_ cy c5 40 f5, ai_ cy c6 40 f6, ai_ cy c7 12 f7, ai_ cy c8 12 f8] U.heap ∧ kg_ D cy U ∧ va_D (fun _ => True) [ob0_0_ xc xn xk clo cro c4 c5 c6 c7 c8, ob3_0_ xn vp vn n1 n2 n3 n4 n5, ai_ cy n2 40 fs, ai_ cy n3 40 fe, aq_ cy 6 clo 12 (gf_ rl), ai_ cy (rl 0) 12 (Ml 0), ai_ cy (rl 1) 12 (Ml 1), ai_ cy (rl 2) 12 (Ml 2), ai_ cy (rl 3) 12 (Ml 3), ai_ cy (rl 4) 12 (Ml 4), ai_ cy (rl 5) 12 (Ml 5), ai_ cy (rl 6) 12 (Ml 6), ai_ cy (rl 7) 12 (Ml 7), ai_ cy (rl 8) 12 (Ml 8), ai_ cy (rl 9) 12 (Ml 9), ai_ cy (rl 10) 12 (Ml 10), ai_ cy (rl 11) 12 (Ml 11), aq_ cy 6 cro 12 (gf_ rr), ai_ cy (rr 0) 12 (Mr 0), ai_ cy (rr 1) 12 (Mr 1), ai_ cy (rr 2) 12 (Mr 2), ai_ cy (rr 3) 12 (Mr 3), ai_ cy (rr 4) 12 (Mr 4), ai_ cy (rr 5) 12 (Mr 5), ai_ cy (rr 6) 12 (Mr 6), ai_ cy (rr 7) 12 (Mr 7), ai_ cy (rr 8) 12 (Mr 8), ai_ cy (rr 9) 12 (Mr 9), ai_ cy (rr 10) 12 (Mr 10), ai_ cy (rr 11) 12 (Mr 11), ai_ cy c4 40 f4, ai_ cy c5 40 f5, ai_ cy c6 40 f6, ai_ cy c7 12 f7, ai_ cy c8 12 f8])) (va_Qi (fun (r : Int32) (u : Int32) => u = r ∧ ((mostR (fun S => outZ (zM Ml) S vp.toNatClampNeg) a1.toNatClampNeg a2.toNatClampNeg r.toInt))) (fun (u : Int32) (t : State) => ∃ (eMr : Nat → Nat → Int32), ∃ (e4 : Nat → Int32), ∃ (e7 : Nat → Int32), ∃ (e8 : Nat → Int32), (u.toInt ≠ -5 → flw (zM Ml) (zM eMr) vp.toNatClampNeg a1.toNatClampNeg a2.toNatClampNeg u.toInt) ∧ (rng e7 12 (0) (11)) ∧ (rng e8 12 (0) (11)) ∧ va_P D vwCl [ob0_0_ xc xn xk clo cro c4 c5 c6 c7 c8, ob3_0_ xn vp vn n1 n2 n3 n4 n5, ai_ cy n2 40 fs, ai_ cy n3 40 fe, aq_ cy 6 clo 12 (gf_ rl), ai_ cy (rl 0) 12 (Ml 0), ai_ cy (rl 1) 12 (Ml 1), ai_ cy (rl 2) 12 (Ml 2), ai_ cy (rl 3) 12 (Ml 3), ai_ cy (rl 4) 12 (Ml 4), ai_ cy (rl 5) 12 (Ml 5), ai_ cy (rl 6) 12 (Ml 6), ai_ cy (rl 7) 12 (Ml 7), ai_ cy (rl 8) 12 (Ml 8), ai_ cy (rl 9) 12 (Ml 9), ai_ cy (rl 10) 12 (Ml 10), ai_ cy (rl 11) 12 (Ml 11), aq_ cy 6 cro 12 (gf_ rr), ai_ cy (rr 0) 12 (eMr 0), ai_ cy (rr 1) 12 (eMr 1), ai_ cy (rr 2) 12 (eMr 2), ai_ cy (rr 3) 12 (eMr 3), ai_ cy (rr 4) 12 (eMr 4), ai_ cy (rr 5) 12 (eMr 5), ai_ cy (rr 6) 12 (eMr 6), ai_ cy (rr 7) 12 (eMr 7), ai_ cy (rr 8) 12 (eMr 8), ai_ cy (rr 9) 12 (eMr 9), ai_ cy (rr 10) 12 (eMr 10), ai_ cy (rr 11) 12 (eMr 11), ai_ cy c4 40 e4, ai_ cy c5 40 f5, ai_ cy c6 40 f6, ai_ cy c7 12 e7, ai_ cy c8 12 e8] t.heap ∧ va_D (va_A [ob0_0_ xc xn xk clo cro c4 c5 c6 c7 c8, ob3_0_ xn vp vn n1 n2 n3 n4 n5, ai_ cy n2 40 fs, ai_ cy n3 40 fe, aq_ cy 6 clo 12 (gf_ rl), ai_ cy (rl 0) 12 (Ml 0), ai_ cy (rl 1) 12 (Ml 1), ai_ cy (rl 2) 12 (Ml 2), ai_ cy (rl 3) 12 (Ml 3), ai_ cy (rl 4) 12 (Ml 4), ai_ cy (rl 5) 12 (Ml 5), ai_ cy (rl 6) 12 (Ml 6), ai_ cy (rl 7) 12 (Ml 7), ai_ cy (rl 8) 12 (Ml 8), ai_ cy (rl 9) 12 (Ml 9), ai_ cy (rl 10) 12 (Ml 10), ai_ cy (rl 11) 12 (Ml 11), aq_ cy 6 cro 12 (gf_ rr), ai_ cy (rr 0) 12 (Mr 0), ai_ cy (rr 1) 12 (Mr 1), ai_ cy (rr 2) 12 (Mr 2), ai_ cy (rr 3) 12 (Mr 3), ai_ cy (rr 4) 12 (Mr 4), ai_ cy (rr 5) 12 (Mr 5), ai_ cy (rr 6) 12 (Mr 6), ai_ cy (rr 7) 12 (Mr 7), ai_ cy (rr 8) 12 (Mr 8), ai_ cy (rr 9) 12 (Mr 9), ai_ cy (rr 10) 12 (Mr 10), ai_ cy (rr 11) 12 (Mr 11), ai_ cy c4 40 f4, ai_ cy c5 40 f5, ai_ cy c6 40 f6, ai_ cy c7 12 f7, ai_ cy c8 12 f8] sz) [ob0_0_ xc xn xk clo cro c4 c5 c6 c7 c8, ob3_0_ xn vp vn n1 n2 n3 n4 n5, ai_ cy n2 40 fs, ai_ cy n3 40 fe, aq_ cy 6 clo 12 (gf_ rl), ai_ cy (rl 0) 12 (Ml 0), ai_ cy (rl 1) 12 (Ml 1), ai_ cy (rl 2) 12 (Ml 2), ai_ cy (rl 3) 12 (Ml 3), ai_ cy (rl 4) 12 (Ml 4), ai_ cy (rl 5) 12 (Ml 5), ai_ cy (rl 6) 12 (Ml 6), ai_ cy (rl 7) 12 (Ml 7), ai_ cy (rl 8) 12 (Ml 8), ai_ cy (rl 9) 12 (Ml 9), ai_ cy (rl 10) 12 (Ml 10), ai_ cy (rl 11) 12 (Ml 11), aq_ cy 6 cro 12 (gf_ rr), ai_ cy (rr 0) 12 (eMr 0), ai_ cy (rr 1) 12 (eMr 1), ai_ cy (rr 2) 12 (eMr 2), ai_ cy (rr 3) 12 (eMr 3), ai_ cy (rr 4) 12 (eMr 4), ai_ cy (rr 5) 12 (eMr 5), ai_ cy (rr 6) 12 (eMr 6), ai_ cy (rr 7) 12 (eMr 7), ai_ cy (rr 8) 12 (eMr 8), ai_ cy (rr 9) 12 (eMr 9), ai_ cy (rr 10) 12 (eMr 10), ai_ cy (rr 11) 12 (eMr 11), ai_ cy c4 40 e4, ai_ cy c5 40 f5, ai_ cy c6 40 f6, ai_ cy c7 12 e7, ai_ cy c8 12 e8]) (va_A [ob0_0_ xc xn xk clo cro c4 c5 c6 c7 c8, ob3_0_ xn vp vn n1 n2 n3 n4 n5, ai_ cy n2 40 fs, ai_ cy n3 40 fe, aq_ cy 6 clo 12 (gf_ rl), ai_ cy (rl 0) 12 (Ml 0), ai_ cy (rl 1) 12 (Ml 1), ai_ cy (rl 2) 12 (Ml 2), ai_ cy (rl 3) 12 (Ml 3), ai_ cy (rl 4) 12 (Ml 4), ai_ cy (rl 5) 12 (Ml 5), ai_ cy (rl 6) 12 (Ml 6), ai_ cy (rl 7) 12 (Ml 7), ai_ cy (rl 8) 12 (Ml 8), ai_ cy (rl 9) 12 (Ml 9), ai_ cy (rl 10) 12 (Ml 10), ai_ cy (rl 11) 12 (Ml 11), aq_ cy 6 cro 12 (gf_ rr), ai_ cy (rr 0) 12 (Mr 0), ai_ cy (rr 1) 12 (Mr 1), ai_ cy (rr 2) 12 (Mr 2), ai_ cy (rr 3) 12 (Mr 3), ai_ cy (rr 4) 12 (Mr 4), ai_ cy (rr 5) 12 (Mr 5), ai_ cy (rr 6) 12 (Mr 6), ai_ cy (rr 7) 12 (Mr 7), ai_ cy (rr 8) 12 (Mr 8), ai_ cy (rr 9) 12 (Mr 9), ai_ cy (rr 10) 12 (Mr 10), ai_ cy (rr 11) 12 (Mr 11), ai_ cy c4 40 f4, ai_ cy c5 40 f5, ai_ cy c6 40 f6, ai_ cy c7 12 f7, ai_ cy c8 12 f8] sz)) 0 0 (va_A [ob0_0_ xc xn xk clo cro c4 c5 c6 c7 c8, ob3_0_ xn vp vn n1 n2 n3 n4 n5, ai_ cy n2 40 fs, ai_ cy n3 40 fe, aq_ cy 6 clo 12 (gf_ rl), ai_ cy (rl 0) 12 (Ml 0), ai_ cy (rl 1) 12 (Ml 1), ai_ cy (rl 2) 12 (Ml 2), ai_ cy (rl 3) 12 (Ml 3), ai_ cy (rl 4) 12 (Ml 4), ai_ cy (rl 5) 12 (Ml 5), ai_ cy (rl 6) 12 (Ml 6), ai_ cy (rl 7) 12 (Ml 7), ai_ cy (rl 8) 12 (Ml 8), ai_ cy (rl 9) 12 (Ml 9), ai_ cy (rl 10) 12 (Ml 10), ai_ cy (rl 11) 12 (Ml 11), aq_ cy 6 cro 12 (gf_ rr), ai_ cy (rr 0) 12 (Mr 0), ai_ cy (rr 1) 12 (Mr 1), ai_ cy (rr 2) 12 (Mr 2), ai_ cy (rr 3) 12 (Mr 3), ai_ cy (rr 4) 12 (Mr 4), ai_ cy (rr 5) 12 (Mr 5), ai_ cy (rr 6) 12 (Mr 6), ai_ cy (rr 7) 12 (Mr 7), ai_ cy (rr 8) 12 (Mr 8), ai_ cy (rr 9) 12 (Mr 9), ai_ cy (rr 10) 12 (Mr 10), ai_ cy (rr 11) 12 (Mr 11), ai_ cy c4 40 f4, ai_ cy c5 40 f5, ai_ cy c6 40 f6, ai_ cy c7 12 f7, ai_ cy c8 12 f8] sz) := by
  refine ofQ (cc := cX0_fill) (maxL := 5) (ret := (some .int)) (by decide) rfl ?_
  intro p e s m args below meth c s₁ Q hQ B hml hv
  obtain ⟨rfl, hsz, hP, hK, hD0⟩ := hv
  have hG := hK.2
  have hK := hK.1
  have hx := B.exec
  have hb := B.bytes
  have hr := B.returns
  have hts := atoms_spec (ws := wsX0_fill) B.pre
  have hown : s.vm.findClass RX0 = some m.cls := by have h_ := findClass_of_methodNamed B.named; exact h_
  have hlocks := B.notSynchronized
  subst hsz
  have hD := hD0.self (sz := s.heap.size)
  generalize hAe : va_A [ob0_0_ xc xn xk clo cro c4 c5 c6 c7 c8, ob3_0_ xn vp vn n1 n2 n3 n4 n5, ai_ cy n2 40 fs, ai_ cy n3 40 fe, aq_ cy 6 clo 12 (gf_ rl), ai_ cy (rl 0) 12 (Ml 0), ai_ cy (rl 1) 12 (Ml 1), ai_ cy (rl 2) 12 (Ml 2), ai_ cy (rl 3) 12 (Ml 3), ai_ cy (rl 4) 12 (Ml 4), ai_ cy (rl 5) 12 (Ml 5), ai_ cy (rl 6) 12 (Ml 6), ai_ cy (rl 7) 12 (Ml 7), ai_ cy (rl 8) 12 (Ml 8), ai_ cy (rl 9) 12 (Ml 9), ai_ cy (rl 10) 12 (Ml 10), ai_ cy (rl 11) 12 (Ml 11), aq_ cy 6 cro 12 (gf_ rr), ai_ cy (rr 0) 12 (Mr 0), ai_ cy (rr 1) 12 (Mr 1), ai_ cy (rr 2) 12 (Mr 2), ai_ cy (rr 3) 12 (Mr 3), ai_ cy (rr 4) 12 (Mr 4), ai_ cy (rr 5) 12 (Mr 5), ai_ cy (rr 6) 12 (Mr 6), ai_ cy (rr 7) 12 (Mr 7), ai_ cy (rr 8) 12 (Mr 8), ai_ cy (rr 9) 12 (Mr 9), ai_ cy (rr 10) 12 (Mr 10), ai_ cy (rr 11) 12 (Mr 11), ai_ cy c4 40 f4, ai_ cy c5 40 f5, ai_ cy c6 40 f6, ai_ cy c7 12 f7, ai_ cy c8 12 f8] s.heap.size = A at hD hQ
  have hA : ∀ q : Nat, s.heap.size ≤ q → A q := fun q h => by rw [← hAe]; exact Or.inr h
  have hS : va_S A s.heap s.heap [] := va_S.rf
  have hl := lv_entry ([.ref xc, .int a1, .int a2]) (n := 5) (Nat.le_of_ble_eq_true rfl)
  rw [lg_entry_eq]
  generalize (lg_sl ([.ref xc, .int a1, .int a2]) ++ List.replicate (5 - (lg_sl ([.ref xc, .int a1, .int a2])).length) Slot.unset).toArray = ls at hl ⊢
  have hl : lv_has ls 5 [(0, .ref xc), (1, .int a1), (2, .int a2)] := hl
  have zm5 : ((-5) : Int32).toInt = -5 := by decide
  have z0 : (0 : Int32).toInt = 0 := by decide
  have z1 : (1 : Int32).toInt = 1 := by decide
  have z2 : (2 : Int32).toInt = 2 := by decide
  have z3 : (3 : Int32).toInt = 3 := by decide
  have z4 : (4 : Int32).toInt = 4 := by decide
  have z5 : (5 : Int32).toInt = 5 := by decide
  have z6 : (6 : Int32).toInt = 6 := by decide
  have z7 : (7 : Int32).toInt = 7 := by decide
  have z8 : (8 : Int32).toInt = 8 := by decide
  have z9 : (9 : Int32).toInt = 9 := by decide
  have z10 : (10 : Int32).toInt = 10 := by decide
  have z11 : (11 : Int32).toInt = 11 := by decide
  have z1000000 : (1000000 : Int32).toInt = 1000000 := by decide
  refine lv_aload_n hx hb dB_36_0_4.1.1.1.1 rfl (lv_at hl 0 rfl) ?_
  refine va_get (ci := 0) (v := .ref c4) (C := RX0) (T := TX0) (N := 9) hx hb hts (fun _ h => List.mem_cons_of_mem _ (List.mem_append_left _ (List.mem_append_right _ h))) hown hK.1 hP 0 rfl rfl 4 (by decide) (hts (.fieldLink RX0 19 "CutAtlas$Current" "flowing" "[I") (List.mem_of_getElem? (i := 1) rfl)) (fun _ h9 => h9) rfl dB_36_0_4.1.1.1.2 ?_
  refine lv_iconst (v := 0) hx hb dB_36_0_4.1.1.2.1 (by decide) ?_
  refine ct_S hP hD hS hA [ai_ cy c4 40 f4] [30] (by decide) rfl (fun hPc hDw hFc hC_ => ?_)
  refine va_callv (va_runS (As := [.ref c4, .int 0]) (rest := []) ⟨hx, hb, hml, hown, hts⟩ (c_J7_fill_53178 l D cy s.heap.size c4 40 (0 : Int32) f4 (by first | with_reducible assumption | assumption | omega)) (va_cwS 2 hts gX0_fill_J7_fill_53178 rfl rfl rfl hd_J7_fill_53178 ⟨Nat.le_of_ble_eq_true rfl, Nat.le_of_ble_eq_true rfl⟩) ⟨bl_, fun U hU hW => ⟨rfl, by rw [hU], by rw [hU]; exact hPc, kk_mv hW hK, hDw⟩⟩ rfl rfl hl.1 rfl (lv_room (Nat.le_of_ble_eq_true rfl)) dB_36_0_4.1.1.2.2 ⟨Nat.le_of_ble_eq_true rfl, Nat.le_of_ble_eq_true rfl⟩) hS (fun q _ h => hFc q h) hFc (fun u t H locs ht hvm hw hB hz1 hk1 hS => ?_)
  obtain ⟨e1_2, g_3, hP1, hD1⟩ := hB
  rw [ht] at hP1
  obtain ⟨hP, hD⟩ := va_join (wr := [ob0_0_ xc xn xk clo cro c4 c5 c6 c7 c8, ob3_0_ xn vp vn n1 n2 n3 n4 n5, ai_ cy n2 40 fs, ai_ cy n3 40 fe, aq_ cy 6 clo 12 (gf_ rl), ai_ cy (rl 0) 12 (Ml 0), ai_ cy (rl 1) 12 (Ml 1), ai_ cy (rl 2) 12 (Ml 2), ai_ cy (rl 3) 12 (Ml 3), ai_ cy (rl 4) 12 (Ml 4), ai_ cy (rl 5) 12 (Ml 5), ai_ cy (rl 6) 12 (Ml 6), ai_ cy (rl 7) 12 (Ml 7), ai_ cy (rl 8) 12 (Ml 8), ai_ cy (rl 9) 12 (Ml 9), ai_ cy (rl 10) 12 (Ml 10), ai_ cy (rl 11) 12 (Ml 11), aq_ cy 6 cro 12 (gf_ rr), ai_ cy (rr 0) 12 (Mr 0), ai_ cy (rr 1) 12 (Mr 1), ai_ cy (rr 2) 12 (Mr 2), ai_ cy (rr 3) 12 (Mr 3), ai_ cy (rr 4) 12 (Mr 4), ai_ cy (rr 5) 12 (Mr 5), ai_ cy (rr 6) 12 (Mr 6), ai_ cy (rr 7) 12 (Mr 7), ai_ cy (rr 8) 12 (Mr 8), ai_ cy (rr 9) 12 (Mr 9), ai_ cy (rr 10) 12 (Mr 10), ai_ cy (rr 11) 12 (Mr 11), ai_ cy c5 40 f5, ai_ cy c6 40 f6, ai_ cy c7 12 f7, ai_ cy c8 12 f8]) (w1 := [ai_ cy c4 40 e1_2]) hP hD [30] [0, 1, 2, 3, 4, 5, 6, 7, 8, 9, 10, 11, 12, 13, 14, 15, 16, 17, 18, 19, 20, 21, 22, 23, 24, 25, 26, 27, 28, 29, 31, 32, 33, 34] hC_ rfl (by decide +kernel) (by decide +kernel) hk1 hFc hP1 hD1
  refine pd_S hP hD [ob0_0_ xc xn xk clo cro c4 c5 c6 c7 c8, ob3_0_ xn vp vn n1 n2 n3 n4 n5, ai_ cy n2 40 fs, ai_ cy n3 40 fe, aq_ cy 6 clo 12 (gf_ rl), ai_ cy (rl 0) 12 (Ml 0), ai_ cy (rl 1) 12 (Ml 1), ai_ cy (rl 2) 12 (Ml 2), ai_ cy (rl 3) 12 (Ml 3), ai_ cy (rl 4) 12 (Ml 4), ai_ cy (rl 5) 12 (Ml 5), ai_ cy (rl 6) 12 (Ml 6), ai_ cy (rl 7) 12 (Ml 7), ai_ cy (rl 8) 12 (Ml 8), ai_ cy (rl 9) 12 (Ml 9), ai_ cy (rl 10) 12 (Ml 10), ai_ cy (rl 11) 12 (Ml 11), aq_ cy 6 cro 12 (gf_ rr), ai_ cy (rr 0) 12 (Mr 0), ai_ cy (rr 1) 12 (Mr 1), ai_ cy (rr 2) 12 (Mr 2), ai_ cy (rr 3) 12 (Mr 3), ai_ cy (rr 4) 12 (Mr 4), ai_ cy (rr 5) 12 (Mr 5), ai_ cy (rr 6) 12 (Mr 6), ai_ cy (rr 7) 12 (Mr 7), ai_ cy (rr 8) 12 (Mr 8), ai_ cy (rr 9) 12 (Mr 9), ai_ cy (rr 10) 12 (Mr 10), ai_ cy (rr 11) 12 (Mr 11), ai_ cy c4 40 e1_2, ai_ cy c5 40 f5, ai_ cy c6 40 f6, ai_ cy c7 12 f7, ai_ cy c8 12 f8] [0, 1, 2, 3, 4, 5, 6, 7, 8, 9, 10, 11, 12, 13, 14, 15, 16, 17, 18, 19, 20, 21, 22, 23, 24, 25, 26, 27, 28, 29, 34, 30, 31, 32, 33] (by decide +kernel) rfl (fun hP hD => ?_)
  refine lv_iconst (v := 0) hx hb dB_36_0_4.1.2.1.1 (by decide) ?_
  refine lv_istore_n (lv' := [(3, .int 0), (0, .ref xc), (1, .int a1), (2, .int a2)]) hx hb dB_36_0_4.1.2.1.2 rfl hl (by decide) rfl (fun ls hl => ?_)
  suffices LOOP_4 : ∀ (n_4 : Nat) (x3_4 : Int32) (m_rr_4 : Nat → Nat → Int32) (H : Heap) (locs : List Loc) (ls : Array Slot), vp.toInt - x3_4.toInt < (n_4 : Int) → (0 ≤ x3_4.toInt) → (x3_4.toInt ≤ vp.toInt) → (∀ x y : Nat, (x : Int) < x3_4.toInt → y < vp.toNatClampNeg → m_rr_4 x y = Ml x y) → pd_2 D vwCl A [ob0_0_ xc xn xk clo cro c4 c5 c6 c7 c8, ob3_0_ xn vp vn n1 n2 n3 n4 n5, ai_ cy n2 40 fs, ai_ cy n3 40 fe, aq_ cy 6 clo 12 (gf_ rl), ai_ cy (rl 0) 12 (Ml 0), ai_ cy (rl 1) 12 (Ml 1), ai_ cy (rl 2) 12 (Ml 2), ai_ cy (rl 3) 12 (Ml 3), ai_ cy (rl 4) 12 (Ml 4), ai_ cy (rl 5) 12 (Ml 5), ai_ cy (rl 6) 12 (Ml 6), ai_ cy (rl 7) 12 (Ml 7), ai_ cy (rl 8) 12 (Ml 8), ai_ cy (rl 9) 12 (Ml 9), ai_ cy (rl 10) 12 (Ml 10), ai_ cy (rl 11) 12 (Ml 11), aq_ cy 6 cro 12 (gf_ rr), ai_ cy (rr 0) 12 (m_rr_4 0), ai_ cy (rr 1) 12 (m_rr_4 1), ai_ cy (rr 2) 12 (m_rr_4 2), ai_ cy (rr 3) 12 (m_rr_4 3), ai_ cy (rr 4) 12 (m_rr_4 4), ai_ cy (rr 5) 12 (m_rr_4 5), ai_ cy (rr 6) 12 (m_rr_4 6), ai_ cy (rr 7) 12 (m_rr_4 7), ai_ cy (rr 8) 12 (m_rr_4 8), ai_ cy (rr 9) 12 (m_rr_4 9), ai_ cy (rr 10) 12 (m_rr_4 10), ai_ cy (rr 11) 12 (m_rr_4 11), ai_ cy c4 40 e1_2, ai_ cy c5 40 f5, ai_ cy c6 40 f6, ai_ cy c7 12 f7, ai_ cy c8 12 f8] H → va_S A s.heap H locs → lv_has ls 5 [(3, .int x3_4), (0, .ref xc), (1, .int a1), (2, .int a2)] → W p l e ({ frames := 3, cells := 0, slots := 0, locals := 64 } : Room) s m (([.ref xc, .int a1, .int a2] : List Value).toArray) below meth c H locs 0 0 Q (F0 m 10 ls []) from LOOP_4 ((vp.toInt - (0 : Int32).toInt).toNat + 1) (0 : Int32) Mr _ _ _ (by omega) (by first | with_reducible assumption | omega | assumption) (by first | with_reducible assumption | omega | assumption) (by first | exact cp_st eMr v_none (by assumption) (by decide) (by omega) | (intro x y hx; omega)) ⟨hP, hD⟩ hS (lv_sub hl [0, 1, 2, 3] rfl)
  intro n_4
  induction n_4 with
  | zero =>
    intro x3_4 m_rr_4 H locs ls hm v0_4 v1_4 v2_4 hPD hS hl; obtain ⟨hP, hD⟩ := hPD
    exact absurd hm (by omega)
  | succ n_4 ih_4 =>
    intro x3_4 m_rr_4 H locs ls hm v0_4 v1_4 v2_4 hPD hS hl; obtain ⟨hP, hD⟩ := hPD
    refine lv_iload_n hx hb dB_36_0_4.1.2.2.1 rfl (lv_at hl 0 rfl) ?_
    refine lv_aload_n hx hb dB_36_0_4.1.2.2.2 rfl (lv_at hl 1 rfl) ?_
    refine va_get (ci := 0) (v := .ref xn) (C := RX0) (T := TX0) (N := 9) hx hb hts (fun _ h => List.mem_cons_of_mem _ (List.mem_append_left _ (List.mem_append_right _ h))) hown hK.1 hP 0 rfl rfl 0 (by decide) (hts (.fieldLink RX0 35 "CutAtlas$Current" "net" "LCutAtlas$Net;") (List.mem_of_getElem? (i := 2) rfl)) (fun _ h9 => h9) rfl dB_36_0_4.2.1.1.1 ?_
    refine va_get (ci := 3) (v := .int vp) (C := RX3) (T := TX3) (N := 7) hx hb hts (fun _ h => List.mem_cons_of_mem _ (List.mem_append_right _ h)) hown hK.1 hP 1 rfl rfl 0 (by decide) (hts (.fieldLink RX0 43 "CutAtlas$Net" "places" "I") (List.mem_of_getElem? (i := 3) rfl)) (fun _ h9 => h9) rfl dB_36_0_4.2.1.1.2 ?_
    refine lv_icmp_ge (tgt := 51) hx hb dB_36_0_4.2.1.2.1 (by decide) (fun c_5 => ?_) (fun c_5 => ?_)
    · have t_5 : vp.toInt ≤ x3_4.toInt := Int32.le_iff_toInt_le.mp c_5
      have hce_ := cp_end v2_4 (by omega) (by omega)
      refine lv_aload_n hx hb dB_36_0_5.2.1.2.2 rfl (lv_at hl 1 rfl) ?_
      refine lv_iload_n hx hb dB_36_0_5.2.2.1.1 rfl (lv_at hl 2 rfl) ?_
      refine lv_ldc (v := 1000000) hx hb hown (hts (.constant RX0 82 (1000000)) (List.mem_of_getElem? (i := 10) rfl)) dB_36_0_5.2.2.1.2 ?_
      refine ct_S hP hD hS hA [ob0_0_ xc xn xk clo cro c4 c5 c6 c7 c8, ob3_0_ xn vp vn n1 n2 n3 n4 n5, aq_ cy 6 cro 12 (gf_ rr), ai_ cy (rr 0) 12 (m_rr_4 0), ai_ cy (rr 1) 12 (m_rr_4 1), ai_ cy (rr 2) 12 (m_rr_4 2), ai_ cy (rr 3) 12 (m_rr_4 3), ai_ cy (rr 4) 12 (m_rr_4 4), ai_ cy (rr 5) 12 (m_rr_4 5), ai_ cy (rr 6) 12 (m_rr_4 6), ai_ cy (rr 7) 12 (m_rr_4 7), ai_ cy (rr 8) 12 (m_rr_4 8), ai_ cy (rr 9) 12 (m_rr_4 9), ai_ cy (rr 10) 12 (m_rr_4 10), ai_ cy (rr 11) 12 (m_rr_4 11), ai_ cy c7 12 f7] [0, 1, 17, 18, 19, 20, 21, 22, 23, 24, 25, 26, 27, 28, 29, 33] (by decide +kernel) rfl (fun hPc hDw hFc hC_ => ?_)
      refine va_calli (va_runV (As := [.int a1, .int 1000000]) (rest := []) ⟨hx, hb, hml, hown, hts⟩ (c_X0_reachedFrom2 l D cy H.size xc xk clo cro c4 c5 c6 c7 c8 xn n1 n2 n3 n4 n5 vp vn rr m_rr_4 f7 a1 (1000000 : Int32) (by first | with_reducible assumption | omega | assumption) (by first | with_reducible assumption | omega | assumption) (by first | with_reducible assumption | assumption | omega)) (cwV 2 hts gX0_fill_X0_reachedFrom rfl rfl rfl ⟨rfl, hd_X0_reachedFrom⟩ ⟨Nat.le_of_ble_eq_true rfl, Nat.le_of_ble_eq_true rfl⟩) ⟨bl_g, va_recvX hK.1 hP (ci := 0) (q0 := 0) rfl rfl, fun U hU hW => ⟨rfl, by rw [hU], by rw [hU]; exact hPc, ⟨kk_mv hW hK, arrOfT_moved hW.alike hG⟩, hDw⟩⟩ rfl rfl hl.1 rfl (lv_room (Nat.le_of_ble_eq_true rfl)) dB_36_0_5.2.2.2.1 ⟨Nat.le_of_ble_eq_true rfl, Nat.le_of_ble_eq_true rfl⟩) hS (fun q _ h => hFc q h) hFc (fun r_6 u t H locs ht hvm hw hB hz1 hk1 hS => ?_)
      obtain ⟨e7_7, g_8, hP1, hD1⟩ := hB
      rw [ht] at hP1
      obtain ⟨hP, hD⟩ := va_join (wr := [ai_ cy n2 40 fs, ai_ cy n3 40 fe, aq_ cy 6 clo 12 (gf_ rl), ai_ cy (rl 0) 12 (Ml 0), ai_ cy (rl 1) 12 (Ml 1), ai_ cy (rl 2) 12 (Ml 2), ai_ cy (rl 3) 12 (Ml 3), ai_ cy (rl 4) 12 (Ml 4), ai_ cy (rl 5) 12 (Ml 5), ai_ cy (rl 6) 12 (Ml 6), ai_ cy (rl 7) 12 (Ml 7), ai_ cy (rl 8) 12 (Ml 8), ai_ cy (rl 9) 12 (Ml 9), ai_ cy (rl 10) 12 (Ml 10), ai_ cy (rl 11) 12 (Ml 11), ai_ cy c4 40 e1_2, ai_ cy c5 40 f5, ai_ cy c6 40 f6, ai_ cy c8 12 f8]) (w1 := [ob0_0_ xc xn xk clo cro c4 c5 c6 c7 c8, ob3_0_ xn vp vn n1 n2 n3 n4 n5, aq_ cy 6 cro 12 (gf_ rr), ai_ cy (rr 0) 12 (m_rr_4 0), ai_ cy (rr 1) 12 (m_rr_4 1), ai_ cy (rr 2) 12 (m_rr_4 2), ai_ cy (rr 3) 12 (m_rr_4 3), ai_ cy (rr 4) 12 (m_rr_4 4), ai_ cy (rr 5) 12 (m_rr_4 5), ai_ cy (rr 6) 12 (m_rr_4 6), ai_ cy (rr 7) 12 (m_rr_4 7), ai_ cy (rr 8) 12 (m_rr_4 8), ai_ cy (rr 9) 12 (m_rr_4 9), ai_ cy (rr 10) 12 (m_rr_4 10), ai_ cy (rr 11) 12 (m_rr_4 11), ai_ cy c7 12 e7_7]) hP hD [0, 1, 17, 18, 19, 20, 21, 22, 23, 24, 25, 26, 27, 28, 29, 33] [2, 3, 4, 5, 6, 7, 8, 9, 10, 11, 12, 13, 14, 15, 16, 30, 31, 32, 34] hC_ rfl (by decide +kernel) (by decide +kernel) hk1 hFc hP1 hD1
      refine pd_S hP hD [ob0_0_ xc xn xk clo cro c4 c5 c6 c7 c8, ob3_0_ xn vp vn n1 n2 n3 n4 n5, ai_ cy n2 40 fs, ai_ cy n3 40 fe, aq_ cy 6 clo 12 (gf_ rl), ai_ cy (rl 0) 12 (Ml 0), ai_ cy (rl 1) 12 (Ml 1), ai_ cy (rl 2) 12 (Ml 2), ai_ cy (rl 3) 12 (Ml 3), ai_ cy (rl 4) 12 (Ml 4), ai_ cy (rl 5) 12 (Ml 5), ai_ cy (rl 6) 12 (Ml 6), ai_ cy (rl 7) 12 (Ml 7), ai_ cy (rl 8) 12 (Ml 8), ai_ cy (rl 9) 12 (Ml 9), ai_ cy (rl 10) 12 (Ml 10), ai_ cy (rl 11) 12 (Ml 11), aq_ cy 6 cro 12 (gf_ rr), ai_ cy (rr 0) 12 (m_rr_4 0), ai_ cy (rr 1) 12 (m_rr_4 1), ai_ cy (rr 2) 12 (m_rr_4 2), ai_ cy (rr 3) 12 (m_rr_4 3), ai_ cy (rr 4) 12 (m_rr_4 4), ai_ cy (rr 5) 12 (m_rr_4 5), ai_ cy (rr 6) 12 (m_rr_4 6), ai_ cy (rr 7) 12 (m_rr_4 7), ai_ cy (rr 8) 12 (m_rr_4 8), ai_ cy (rr 9) 12 (m_rr_4 9), ai_ cy (rr 10) 12 (m_rr_4 10), ai_ cy (rr 11) 12 (m_rr_4 11), ai_ cy c4 40 e1_2, ai_ cy c5 40 f5, ai_ cy c6 40 f6, ai_ cy c7 12 e7_7, ai_ cy c8 12 f8] [19, 20, 0, 1, 2, 3, 4, 5, 6, 7, 8, 9, 10, 11, 12, 13, 14, 21, 22, 23, 24, 25, 26, 27, 28, 29, 30, 31, 32, 33, 15, 16, 17, 34, 18] (by decide +kernel) rfl (fun hP hD => ?_)
      have f0_r_6 := hw
      have hrc_ := rchd_cg f0_r_6 hce_
      refine lv_iload_n hx hb dB_36_0_5.2.2.2.2 rfl (lv_at hl 3 rfl) ?_
      refine lv_ishr hx hb dB_36_0_6.1.1.1.1 ?_
      refine lv_topi (fun y_9 ey_9 => ?_)
      refine lv_iconst (v := 1) hx hb dB_36_0_6.1.1.1.2 (by decide) ?_
      refine lv_iand hx hb dB_36_0_6.1.1.2.1 ?_
      refine lv_topi (fun y_10 ey_10 => ?_)
      have hbw_ := bI_w (y := a2) (by omega) (by omega) ey_9 ey_10
      refine lv_iconst (v := 1) hx hb dB_36_0_6.1.1.2.2 (by decide) ?_
      refine lv_icmp_ne (tgt := 69) hx hb dB_36_0_6.1.2.1.1 (by decide) (fun c_11 => ?_) (fun c_11 => ?_)
      · have t_11 : ¬ y_10.toInt = (1 : Int32).toInt := fun h => c_11 (Int32.toInt_inj.mp h)
        have hsp_ : sep a1.toNatClampNeg a2.toNatClampNeg _ := ⟨hrc_.1, bt_fl hbw_ (by omega)⟩
        have hsm_ := hC _ hrc_.2.1
        have hf0_ : flw (zM Ml) (zM m_rr_4) vp.toNatClampNeg a1.toNatClampNeg a2.toNatClampNeg 0 := flw_0 hM hce_
        refine lv_iconst (v := 0) hx hb dB_36_0_6.1.2.2.2 (by decide) ?_
        refine lv_istore_n (lv' := [(3, .int 0), (0, .ref xc), (1, .int a1), (2, .int a2)]) hx hb dB_36_0_6.2.1.1.1 rfl hl (by decide) rfl (fun ls hl => ?_)
        refine lv_iconst (v := 0) hx hb dB_36_0_6.2.1.1.2 (by decide) ?_
        refine lv_istore (lv' := [(4, .int 0), (3, .int 0), (0, .ref xc), (1, .int a1), (2, .int a2)]) hx hb dB_36_0_6.2.1.2.1 hl (by decide) rfl (fun ls hl => ?_)
        suffices LOOP_12 : ∀ (n_12 : Nat) (x4_12 : Int32) (x3_12 : Int32) (m_rr_12 : Nat → Nat → Int32) (c_c4_12 : Nat → Int32) (c_c7_12 : Nat → Int32) (c_c8_12 : Nat → Int32) (H : Heap) (locs : List Loc) (ls : Array Slot), 1000000 - x4_12.toInt < (n_12 : Int) → (0 ≤ x4_12.toInt) → (x4_12.toInt ≤ 1000000) → (flw (zM Ml) (zM m_rr_12) vp.toNatClampNeg a1.toNatClampNeg a2.toNatClampNeg x3_12.toInt) → (x4_12.toInt ≤ x3_12.toInt ∧ x3_12.toInt ≤ 100000) → (rng c_c7_12 12 (0) (11)) → (rng c_c8_12 12 (0) (11)) → pd_2 D vwCl A [ob0_0_ xc xn xk clo cro c4 c5 c6 c7 c8, ob3_0_ xn vp vn n1 n2 n3 n4 n5, ai_ cy n2 40 fs, ai_ cy n3 40 fe, aq_ cy 6 clo 12 (gf_ rl), ai_ cy (rl 0) 12 (Ml 0), ai_ cy (rl 1) 12 (Ml 1), ai_ cy (rl 2) 12 (Ml 2), ai_ cy (rl 3) 12 (Ml 3), ai_ cy (rl 4) 12 (Ml 4), ai_ cy (rl 5) 12 (Ml 5), ai_ cy (rl 6) 12 (Ml 6), ai_ cy (rl 7) 12 (Ml 7), ai_ cy (rl 8) 12 (Ml 8), ai_ cy (rl 9) 12 (Ml 9), ai_ cy (rl 10) 12 (Ml 10), ai_ cy (rl 11) 12 (Ml 11), aq_ cy 6 cro 12 (gf_ rr), ai_ cy (rr 0) 12 (m_rr_12 0), ai_ cy (rr 1) 12 (m_rr_12 1), ai_ cy (rr 2) 12 (m_rr_12 2), ai_ cy (rr 3) 12 (m_rr_12 3), ai_ cy (rr 4) 12 (m_rr_12 4), ai_ cy (rr 5) 12 (m_rr_12 5), ai_ cy (rr 6) 12 (m_rr_12 6), ai_ cy (rr 7) 12 (m_rr_12 7), ai_ cy (rr 8) 12 (m_rr_12 8), ai_ cy (rr 9) 12 (m_rr_12 9), ai_ cy (rr 10) 12 (m_rr_12 10), ai_ cy (rr 11) 12 (m_rr_12 11), ai_ cy c4 40 c_c4_12, ai_ cy c5 40 f5, ai_ cy c6 40 f6, ai_ cy c7 12 c_c7_12, ai_ cy c8 12 c_c8_12] H → va_S A s.heap H locs → lv_has ls 5 [(4, .int x4_12), (3, .int x3_12), (0, .ref xc), (1, .int a1), (2, .int a2)] → W p l e ({ frames := 3, cells := 0, slots := 0, locals := 64 } : Room) s m (([.ref xc, .int a1, .int a2] : List Value).toArray) below meth c H locs 0 0 Q (F0 m 74 ls []) from LOOP_12 ((1000000 - (0 : Int32).toInt).toNat + 1) (0 : Int32) (0 : Int32) m_rr_4 e1_2 e7_7 f8 _ _ _ (by omega) (by first | with_reducible assumption | omega | assumption) (by first | with_reducible assumption | omega | assumption) (by first | exact hf0_ | exact hf2_) (by first | with_reducible assumption | omega | assumption) (by first | with_reducible assumption | assumption | exact rng_zero (by omega) (by omega) | exact orng_zero) (by first | with_reducible assumption | assumption | exact rng_zero (by omega) (by omega) | exact orng_zero) ⟨hP, hD⟩ hS (lv_sub hl [0, 1, 2, 3, 4] rfl)
        intro n_12
        induction n_12 with
        | zero =>
          intro x4_12 x3_12 m_rr_12 c_c4_12 c_c7_12 c_c8_12 H locs ls hm v0_12 v1_12 v2_12 v3_12 rc_c7_12 rc_c8_12 hPD hS hl; obtain ⟨hP, hD⟩ := hPD
          exact absurd hm (by omega)
        | succ n_12 ih_12 =>
          intro x4_12 x3_12 m_rr_12 c_c4_12 c_c7_12 c_c8_12 H locs ls hm v0_12 v1_12 v2_12 v3_12 rc_c7_12 rc_c8_12 hPD hS hl; obtain ⟨hP, hD⟩ := hPD
          refine lv_iload hx hb dB_36_0_6.2.1.2.2 (lv_at hl 0 rfl) ?_
          refine lv_ldc (v := 1000000) hx hb hown (hts (.constant RX0 82 (1000000)) (List.mem_of_getElem? (i := 10) rfl)) dB_36_0_6.2.2.1.1 ?_
          refine lv_icmp_ge (tgt := 105) hx hb dB_36_0_6.2.2.1.2 (by decide) (fun c_13 => ?_) (fun c_13 => ?_)
          · have t_13 : (1000000 : Int32).toInt ≤ x4_12.toInt := Int32.le_iff_toInt_le.mp c_13
            refine lv_iload_n hx hb dB_36_0_7.2.2.2.1 rfl (lv_at hl 1 rfl) ?_
            rw [hQ]
            exact W.iret (v := x3_12) hx hb hr (fun t ht hW => ⟨⟨x3_12, x3_12, rfl, ⟨rfl, (by first | (exfalso; omega) | (obtain ⟨S_, hs_, hc_⟩ := hfn_ (by omega); exact Or.inr ⟨by omega, by omega, ⟨S_, hs_, flw_end v2_12 hs_ hc_⟩, fun S hs => flw_min v2_12 hs⟩))⟩, m_rr_12, c_c4_12, c_c7_12, c_c8_12, (fun _ => v2_12), (by first | with_reducible assumption | assumption | exact rng_zero (by omega) (by omega) | omega), (by first | with_reducible assumption | assumption | exact rng_zero (by omega) (by omega) | omega), by rw [ht]; exact hP, hD⟩, hS.F ht⟩) hS.2.2 dB_36_0_7.2.2.2.2
          · have t_13 : ¬ (1000000 : Int32).toInt ≤ x4_12.toInt := fun h => c_13 (Int32.le_iff_toInt_le.mpr h)
            have hrk_ := v2_12.1
            refine lv_aload_n hx hb dB_36_0_6.2.2.2.1 rfl (lv_at hl 2 rfl) ?_
            refine lv_iload_n hx hb dB_36_0_6.2.2.2.2 rfl (lv_at hl 3 rfl) ?_
            refine lv_iload_n hx hb dB_36_0_7.1.1.1 rfl (lv_at hl 4 rfl) ?_
            refine ct_S hP hD hS hA [ob0_0_ xc xn xk clo cro c4 c5 c6 c7 c8, ob3_0_ xn vp vn n1 n2 n3 n4 n5, aq_ cy 6 cro 12 (gf_ rr), ai_ cy (rr 0) 12 (m_rr_12 0), ai_ cy (rr 1) 12 (m_rr_12 1), ai_ cy (rr 2) 12 (m_rr_12 2), ai_ cy (rr 3) 12 (m_rr_12 3), ai_ cy (rr 4) 12 (m_rr_12 4), ai_ cy (rr 5) 12 (m_rr_12 5), ai_ cy (rr 6) 12 (m_rr_12 6), ai_ cy (rr 7) 12 (m_rr_12 7), ai_ cy (rr 8) 12 (m_rr_12 8), ai_ cy (rr 9) 12 (m_rr_12 9), ai_ cy (rr 10) 12 (m_rr_12 10), ai_ cy (rr 11) 12 (m_rr_12 11), ai_ cy c7 12 c_c7_12, ai_ cy c8 12 c_c8_12] [0, 1, 17, 18, 19, 20, 21, 22, 23, 24, 25, 26, 27, 28, 29, 33, 34] (by decide +kernel) rfl (fun hPc hDw hFc hC_ => ?_)
            refine va_calli (va_runV (As := [.int a1, .int a2]) (rest := []) ⟨hx, hb, hml, hown, hts⟩ (c_X0_findWay2 l D cy H.size xc xk clo cro c4 c5 c6 c7 c8 xn n1 n2 n3 n4 n5 vp vn rr m_rr_12 c_c7_12 c_c8_12 a1 a2 (by first | with_reducible assumption | omega | assumption) (by first | with_reducible assumption | omega | assumption) (by first | with_reducible assumption | omega | assumption) (by first | with_reducible assumption | assumption | omega) (by first | with_reducible assumption | assumption | omega) (by first | with_reducible assumption | assumption | omega)) (cwV 2 hts gX0_fill_X0_findWay rfl rfl rfl ⟨rfl, hd_X0_findWay⟩ ⟨Nat.le_of_ble_eq_true rfl, Nat.le_of_ble_eq_true rfl⟩) ⟨bl_g, va_recvX hK.1 hP (ci := 0) (q0 := 0) rfl rfl, fun U hU hW => ⟨rfl, by rw [hU], by rw [hU]; exact hPc, ⟨kk_mv hW hK, arrOfT_moved hW.alike hG⟩, hDw⟩⟩ rfl rfl hl.1 rfl (lv_room (Nat.le_of_ble_eq_true rfl)) dB_36_0_7.1.1.2.1 ⟨Nat.le_of_ble_eq_true rfl, Nat.le_of_ble_eq_true rfl⟩) hS (fun q _ h => hFc q h) hFc (fun r_14 u t H locs ht hvm hw hB hz1 hk1 hS => ?_)
            obtain ⟨eu_, hw⟩ := hw
            have eu_ := eu_.symm
            subst eu_
            obtain ⟨e7_15, e8_16, g_17, g_18, g_19, g_20, hP1, hD1⟩ := hB
            rw [ht] at hP1
            obtain ⟨hP, hD⟩ := va_join (wr := [ai_ cy n2 40 fs, ai_ cy n3 40 fe, aq_ cy 6 clo 12 (gf_ rl), ai_ cy (rl 0) 12 (Ml 0), ai_ cy (rl 1) 12 (Ml 1), ai_ cy (rl 2) 12 (Ml 2), ai_ cy (rl 3) 12 (Ml 3), ai_ cy (rl 4) 12 (Ml 4), ai_ cy (rl 5) 12 (Ml 5), ai_ cy (rl 6) 12 (Ml 6), ai_ cy (rl 7) 12 (Ml 7), ai_ cy (rl 8) 12 (Ml 8), ai_ cy (rl 9) 12 (Ml 9), ai_ cy (rl 10) 12 (Ml 10), ai_ cy (rl 11) 12 (Ml 11), ai_ cy c4 40 c_c4_12, ai_ cy c5 40 f5, ai_ cy c6 40 f6]) (w1 := [ob0_0_ xc xn xk clo cro c4 c5 c6 c7 c8, ob3_0_ xn vp vn n1 n2 n3 n4 n5, aq_ cy 6 cro 12 (gf_ rr), ai_ cy (rr 0) 12 (m_rr_12 0), ai_ cy (rr 1) 12 (m_rr_12 1), ai_ cy (rr 2) 12 (m_rr_12 2), ai_ cy (rr 3) 12 (m_rr_12 3), ai_ cy (rr 4) 12 (m_rr_12 4), ai_ cy (rr 5) 12 (m_rr_12 5), ai_ cy (rr 6) 12 (m_rr_12 6), ai_ cy (rr 7) 12 (m_rr_12 7), ai_ cy (rr 8) 12 (m_rr_12 8), ai_ cy (rr 9) 12 (m_rr_12 9), ai_ cy (rr 10) 12 (m_rr_12 10), ai_ cy (rr 11) 12 (m_rr_12 11), ai_ cy c7 12 e7_15, ai_ cy c8 12 e8_16]) hP hD [0, 1, 17, 18, 19, 20, 21, 22, 23, 24, 25, 26, 27, 28, 29, 33, 34] [2, 3, 4, 5, 6, 7, 8, 9, 10, 11, 12, 13, 14, 15, 16, 30, 31, 32] hC_ rfl (by decide +kernel) (by decide +kernel) hk1 hFc hP1 hD1
            refine pd_S hP hD [ob0_0_ xc xn xk clo cro c4 c5 c6 c7 c8, ob3_0_ xn vp vn n1 n2 n3 n4 n5, ai_ cy n2 40 fs, ai_ cy n3 40 fe, aq_ cy 6 clo 12 (gf_ rl), ai_ cy (rl 0) 12 (Ml 0), ai_ cy (rl 1) 12 (Ml 1), ai_ cy (rl 2) 12 (Ml 2), ai_ cy (rl 3) 12 (Ml 3), ai_ cy (rl 4) 12 (Ml 4), ai_ cy (rl 5) 12 (Ml 5), ai_ cy (rl 6) 12 (Ml 6), ai_ cy (rl 7) 12 (Ml 7), ai_ cy (rl 8) 12 (Ml 8), ai_ cy (rl 9) 12 (Ml 9), ai_ cy (rl 10) 12 (Ml 10), ai_ cy (rl 11) 12 (Ml 11), aq_ cy 6 cro 12 (gf_ rr), ai_ cy (rr 0) 12 (m_rr_12 0), ai_ cy (rr 1) 12 (m_rr_12 1), ai_ cy (rr 2) 12 (m_rr_12 2), ai_ cy (rr 3) 12 (m_rr_12 3), ai_ cy (rr 4) 12 (m_rr_12 4), ai_ cy (rr 5) 12 (m_rr_12 5), ai_ cy (rr 6) 12 (m_rr_12 6), ai_ cy (rr 7) 12 (m_rr_12 7), ai_ cy (rr 8) 12 (m_rr_12 8), ai_ cy (rr 9) 12 (m_rr_12 9), ai_ cy (rr 10) 12 (m_rr_12 10), ai_ cy (rr 11) 12 (m_rr_12 11), ai_ cy c4 40 c_c4_12, ai_ cy c5 40 f5, ai_ cy c6 40 f6, ai_ cy c7 12 e7_15, ai_ cy c8 12 e8_16] [18, 19, 0, 1, 2, 3, 4, 5, 6, 7, 8, 9, 10, 11, 12, 13, 14, 20, 21, 22, 23, 24, 25, 26, 27, 28, 29, 30, 31, 32, 15, 16, 17, 33, 34] (by decide +kernel) rfl (fun hP hD => ?_)
            have f0_r_14 := hw
            have hfy_ := g_17
            have hfn_ := g_18
            refine lv_if_eq (tgt := 105) hx hb dB_36_0_7.1.1.2.2 (by decide) (fun c_21 => ?_) (fun c_21 => ?_)
            · have t_21 : r_14.toInt = (0 : Int32).toInt := congrArg Int32.toInt c_21
              refine lv_iload_n hx hb dB_36_0_7.2.2.2.1 rfl (lv_at hl 1 rfl) ?_
              rw [hQ]
              exact W.iret (v := x3_12) hx hb hr (fun t ht hW => ⟨⟨x3_12, x3_12, rfl, ⟨rfl, (by first | (exfalso; omega) | (obtain ⟨S_, hs_, hc_⟩ := hfn_ (by omega); exact Or.inr ⟨by omega, by omega, ⟨S_, hs_, flw_end v2_12 hs_ hc_⟩, fun S hs => flw_min v2_12 hs⟩))⟩, m_rr_12, c_c4_12, e7_15, e8_16, (fun _ => v2_12), (by first | with_reducible assumption | assumption | exact rng_zero (by omega) (by omega) | omega), (by first | with_reducible assumption | assumption | exact rng_zero (by omega) (by omega) | omega), by rw [ht]; exact hP, hD⟩, hS.F ht⟩) hS.2.2 dB_36_0_7.2.2.2.2
            · have t_21 : ¬ r_14.toInt = (0 : Int32).toInt := fun h => c_21 (Int32.toInt_inj.mp h)
              have hwy_ := hfy_ (by omega)
              refine lv_iload_n hx hb dB_36_0_7.1.2.1.1 rfl (lv_at hl 1 rfl) ?_
              refine lv_aload_n hx hb dB_36_0_7.1.2.1.2 rfl (lv_at hl 2 rfl) ?_
              refine lv_iload_n hx hb dB_36_0_7.1.2.2.1 rfl (lv_at hl 3 rfl) ?_
              refine lv_iload_n hx hb dB_36_0_7.1.2.2.2 rfl (lv_at hl 4 rfl) ?_
              refine ct_S hP hD hS hA [ob0_0_ xc xn xk clo cro c4 c5 c6 c7 c8, ob3_0_ xn vp vn n1 n2 n3 n4 n5, ai_ cy n2 40 fs, ai_ cy n3 40 fe, aq_ cy 6 cro 12 (gf_ rr), ai_ cy (rr 0) 12 (m_rr_12 0), ai_ cy (rr 1) 12 (m_rr_12 1), ai_ cy (rr 2) 12 (m_rr_12 2), ai_ cy (rr 3) 12 (m_rr_12 3), ai_ cy (rr 4) 12 (m_rr_12 4), ai_ cy (rr 5) 12 (m_rr_12 5), ai_ cy (rr 6) 12 (m_rr_12 6), ai_ cy (rr 7) 12 (m_rr_12 7), ai_ cy (rr 8) 12 (m_rr_12 8), ai_ cy (rr 9) 12 (m_rr_12 9), ai_ cy (rr 10) 12 (m_rr_12 10), ai_ cy (rr 11) 12 (m_rr_12 11), ai_ cy c4 40 c_c4_12, ai_ cy c5 40 f5, ai_ cy c6 40 f6, ai_ cy c8 12 e8_16] [0, 1, 2, 3, 17, 18, 19, 20, 21, 22, 23, 24, 25, 26, 27, 28, 29, 30, 31, 32, 34] (by decide +kernel) rfl (fun hPc hDw hFc hC_ => ?_)
              refine va_calli (va_runV (As := [.int a1, .int a2]) (rest := [.int x3_12]) ⟨hx, hb, hml, hown, hts⟩ (c_X0_sendAlongWay2 l D cy H.size xc xk clo cro c4 c5 c6 c7 c8 xn n1 n2 n3 n4 n5 vp vn fs fe rr m_rr_12 c_c4_12 f5 f6 e8_16 a1 a2 (by first | with_reducible assumption | omega | assumption) (by first | with_reducible assumption | omega | assumption) (by first | with_reducible assumption | omega | assumption) (by first | with_reducible assumption | omega | assumption) (by first | with_reducible assumption | assumption | omega) (by first | with_reducible assumption | assumption | omega) (by first | with_reducible assumption | assumption | omega) (by first | with_reducible assumption | assumption | omega)) (cwV 2 hts gX0_fill_X0_sendAlongWay rfl rfl rfl ⟨rfl, hd_X0_sendAlongWay⟩ ⟨Nat.le_of_ble_eq_true rfl, Nat.le_of_ble_eq_true rfl⟩) ⟨bl_g, va_recvX hK.1 hP (ci := 0) (q0 := 0) rfl rfl, fun U hU hW => ⟨rfl, by rw [hU], by rw [hU]; exact hPc, ⟨kk_mv hW hK, arrOfT_moved hW.alike hG⟩, hDw⟩⟩ rfl rfl hl.1 rfl (lv_room (Nat.le_of_ble_eq_true rfl)) dB_36_0_7.2.1.1 ⟨Nat.le_of_ble_eq_true rfl, Nat.le_of_ble_eq_true rfl⟩) hS (fun q _ h => hFc q h) hFc (fun r_22 u t H locs ht hvm hw hB hz1 hk1 hS => ?_)
              obtain ⟨eu_, hw⟩ := hw
              have eu_ := eu_.symm
              subst eu_
              obtain ⟨eMr_23, e4_24, g_25, g_26, hP1, hD1⟩ := hB
              rw [ht] at hP1
              obtain ⟨hP, hD⟩ := va_join (wr := [aq_ cy 6 clo 12 (gf_ rl), ai_ cy (rl 0) 12 (Ml 0), ai_ cy (rl 1) 12 (Ml 1), ai_ cy (rl 2) 12 (Ml 2), ai_ cy (rl 3) 12 (Ml 3), ai_ cy (rl 4) 12 (Ml 4), ai_ cy (rl 5) 12 (Ml 5), ai_ cy (rl 6) 12 (Ml 6), ai_ cy (rl 7) 12 (Ml 7), ai_ cy (rl 8) 12 (Ml 8), ai_ cy (rl 9) 12 (Ml 9), ai_ cy (rl 10) 12 (Ml 10), ai_ cy (rl 11) 12 (Ml 11), ai_ cy c7 12 e7_15]) (w1 := [ob0_0_ xc xn xk clo cro c4 c5 c6 c7 c8, ob3_0_ xn vp vn n1 n2 n3 n4 n5, ai_ cy n2 40 fs, ai_ cy n3 40 fe, aq_ cy 6 cro 12 (gf_ rr), ai_ cy (rr 0) 12 (eMr_23 0), ai_ cy (rr 1) 12 (eMr_23 1), ai_ cy (rr 2) 12 (eMr_23 2), ai_ cy (rr 3) 12 (eMr_23 3), ai_ cy (rr 4) 12 (eMr_23 4), ai_ cy (rr 5) 12 (eMr_23 5), ai_ cy (rr 6) 12 (eMr_23 6), ai_ cy (rr 7) 12 (eMr_23 7), ai_ cy (rr 8) 12 (eMr_23 8), ai_ cy (rr 9) 12 (eMr_23 9), ai_ cy (rr 10) 12 (eMr_23 10), ai_ cy (rr 11) 12 (eMr_23 11), ai_ cy c4 40 e4_24, ai_ cy c5 40 f5, ai_ cy c6 40 f6, ai_ cy c8 12 e8_16]) hP hD [0, 1, 2, 3, 17, 18, 19, 20, 21, 22, 23, 24, 25, 26, 27, 28, 29, 30, 31, 32, 34] [4, 5, 6, 7, 8, 9, 10, 11, 12, 13, 14, 15, 16, 33] hC_ rfl (by decide +kernel) (by decide +kernel) hk1 hFc hP1 hD1
              refine pd_S hP hD [ob0_0_ xc xn xk clo cro c4 c5 c6 c7 c8, ob3_0_ xn vp vn n1 n2 n3 n4 n5, ai_ cy n2 40 fs, ai_ cy n3 40 fe, aq_ cy 6 clo 12 (gf_ rl), ai_ cy (rl 0) 12 (Ml 0), ai_ cy (rl 1) 12 (Ml 1), ai_ cy (rl 2) 12 (Ml 2), ai_ cy (rl 3) 12 (Ml 3), ai_ cy (rl 4) 12 (Ml 4), ai_ cy (rl 5) 12 (Ml 5), ai_ cy (rl 6) 12 (Ml 6), ai_ cy (rl 7) 12 (Ml 7), ai_ cy (rl 8) 12 (Ml 8), ai_ cy (rl 9) 12 (Ml 9), ai_ cy (rl 10) 12 (Ml 10), ai_ cy (rl 11) 12 (Ml 11), aq_ cy 6 cro 12 (gf_ rr), ai_ cy (rr 0) 12 (eMr_23 0), ai_ cy (rr 1) 12 (eMr_23 1), ai_ cy (rr 2) 12 (eMr_23 2), ai_ cy (rr 3) 12 (eMr_23 3), ai_ cy (rr 4) 12 (eMr_23 4), ai_ cy (rr 5) 12 (eMr_23 5), ai_ cy (rr 6) 12 (eMr_23 6), ai_ cy (rr 7) 12 (eMr_23 7), ai_ cy (rr 8) 12 (eMr_23 8), ai_ cy (rr 9) 12 (eMr_23 9), ai_ cy (rr 10) 12 (eMr_23 10), ai_ cy (rr 11) 12 (eMr_23 11), ai_ cy c4 40 e4_24, ai_ cy c5 40 f5, ai_ cy c6 40 f6, ai_ cy c7 12 e7_15, ai_ cy c8 12 e8_16] [14, 15, 16, 17, 0, 1, 2, 3, 4, 5, 6, 7, 8, 9, 10, 11, 12, 18, 19, 20, 21, 22, 23, 24, 25, 26, 27, 28, 29, 30, 31, 32, 33, 13, 34] (by decide +kernel) rfl (fun hP hD => ?_)
              have f0_r_22 := hw
              refine lv_iadd hx hb dB_36_0_7.2.1.2.1 ?_
              refine lv_topi (fun y_27 ey_27 => ?_)
              have ty_27 : y_27.toInt = x3_12.toInt + r_22.toInt := by rw [ey_27]; exact addI (by omega) (by omega)
              have hf2_ : flw (zM Ml) (zM eMr_23) vp.toNatClampNeg a1.toNatClampNeg a2.toNatClampNeg y_27.toInt := flw_st v2_12 g_25 g_26 ty_27
              have hbd_ := flw_bd hf2_ hsp_ hsm_
              refine lv_istore_n (lv' := [(3, .int y_27), (4, .int x4_12), (0, .ref xc), (1, .int a1), (2, .int a2)]) hx hb dB_36_0_7.2.1.2.2 rfl hl (by decide) rfl (fun ls hl => ?_)
              obtain ⟨y_28, ey_28⟩ : ∃ y : Int32, y = x4_12 + 1 := ⟨_, rfl⟩
              have ty_28 : y_28.toInt = x4_12.toInt + (1 : Int32).toInt := by rw [ey_28]; exact addI (by omega) (by omega)
              refine lv_iinc (v := y_28) (lv' := [(4, .int y_28), (3, .int y_27), (0, .ref xc), (1, .int a1), (2, .int a2)]) hx hb dB_36_0_7.2.2.1.1 hl (k := 1) rfl (by rw [ey_28]; rfl) (by decide) rfl (fun ls hl => ?_)
              refine lv_goto (tgt := 74) hx hb dB_36_0_7.2.2.1.2 (by decide) ?_
              exact ih_12 y_28 y_27 eMr_23 e4_24 e7_15 e8_16 _ _ _ (by omega) (by first | with_reducible assumption | omega | assumption) (by first | with_reducible assumption | omega | assumption) (by first | exact hf0_ | exact hf2_) (by first | with_reducible assumption | omega | assumption) (by first | with_reducible assumption | assumption | exact rng_zero (by omega) (by omega) | exact orng_zero) (by first | with_reducible assumption | assumption | exact rng_zero (by omega) (by omega) | exact orng_zero) ⟨hP, hD⟩ hS (lv_sub hl [0, 1, 2, 3, 4] rfl)
      · have t_11 : y_10.toInt = (1 : Int32).toInt := congrArg Int32.toInt c_11
        refine lv_bipush (v := (-5)) hx hb dB_36_0_6.1.2.1.2 (by decide) ?_
        rw [hQ]
        exact W.iret (v := (-5)) hx hb hr (fun t ht hW => ⟨⟨(-5), (-5), rfl, ⟨rfl, (Or.inl ⟨by decide, fun S hs => endless (fun x y hx hy => (hM x y hx hy).1) hrc_ (b_tr hbw_ (by omega)) hs⟩)⟩, m_rr_4, e1_2, e7_7, f8, (fun h => absurd rfl h), (by first | with_reducible assumption | assumption | exact rng_zero (by omega) (by omega) | omega), (by first | with_reducible assumption | assumption | exact rng_zero (by omega) (by omega) | omega), by rw [ht]; exact hP, hD⟩, hS.F ht⟩) hS.2.2 dB_36_0_6.1.2.2.1
    · have t_5 : ¬ vp.toInt ≤ x3_4.toInt := fun h => c_5 (Int32.le_iff_toInt_le.mpr h)
      rcases sp_12 (x := x3_4) (by omega) with rfl | rfl | rfl | rfl | rfl | rfl | rfl | rfl | rfl | rfl | rfl | rfl
      · refine lv_aload_n hx hb dB_36_0_4.2.1.2.2 rfl (lv_at hl 1 rfl) ?_
        refine va_get (ci := 0) (v := .ref clo) (C := RX0) (T := TX0) (N := 9) hx hb hts (fun _ h => List.mem_cons_of_mem _ (List.mem_append_left _ (List.mem_append_right _ h))) hown hK.1 hP 0 rfl rfl 2 (by decide) (hts (.fieldLink RX0 11 "CutAtlas$Current" "lets" "[[I") (List.mem_of_getElem? (i := 4) rfl)) (fun _ h9 => h9) rfl dB_36_0_4.2.2.1.1 ?_
        refine lv_iload_n hx hb dB_36_0_4.2.2.1.2 rfl (lv_at hl 0 rfl) ?_
        have h_29 : vp_in (0 : Int32) 12 := by unfold vp_in; decide
        refine va_alda hx hb hG hP 4 rfl (i := 0) h_29 dB_36_0_4.2.2.2.1 ?_
        refine lv_topv (v' := .ref (rl 0)) (gf_at h_29) ?_
        refine lv_iconst (v := 0) hx hb dB_36_0_4.2.2.2.2 (by decide) ?_
        refine lv_aload_n hx hb dB_36_0_5.1.1.1.1 rfl (lv_at hl 1 rfl) ?_
        refine va_get (ci := 0) (v := .ref cro) (C := RX0) (T := TX0) (N := 9) hx hb hts (fun _ h => List.mem_cons_of_mem _ (List.mem_append_left _ (List.mem_append_right _ h))) hown hK.1 hP 0 rfl rfl 3 (by decide) (hts (.fieldLink RX0 16 "CutAtlas$Current" "room" "[[I") (List.mem_of_getElem? (i := 5) rfl)) (fun _ h9 => h9) rfl dB_36_0_5.1.1.1.2 ?_
        refine lv_iload_n hx hb dB_36_0_5.1.1.2.1 rfl (lv_at hl 0 rfl) ?_
        refine va_alda hx hb hG hP 17 rfl (i := 0) h_29 dB_36_0_5.1.1.2.2 ?_
        refine lv_topv (v' := .ref (rr 0)) (gf_at h_29) ?_
        refine lv_iconst (v := 0) hx hb dB_36_0_5.1.2.1.1 (by decide) ?_
        refine lv_aload_n hx hb dB_36_0_5.1.2.1.2 rfl (lv_at hl 1 rfl) ?_
        refine va_get (ci := 0) (v := .ref xn) (C := RX0) (T := TX0) (N := 9) hx hb hts (fun _ h => List.mem_cons_of_mem _ (List.mem_append_left _ (List.mem_append_right _ h))) hown hK.1 hP 0 rfl rfl 0 (by decide) (hts (.fieldLink RX0 35 "CutAtlas$Current" "net" "LCutAtlas$Net;") (List.mem_of_getElem? (i := 2) rfl)) (fun _ h9 => h9) rfl dB_36_0_5.1.2.2.1 ?_
        refine va_get (ci := 3) (v := .int vp) (C := RX3) (T := TX3) (N := 7) hx hb hts (fun _ h => List.mem_cons_of_mem _ (List.mem_append_right _ h)) hown hK.1 hP 1 rfl rfl 0 (by decide) (hts (.fieldLink RX0 43 "CutAtlas$Net" "places" "I") (List.mem_of_getElem? (i := 3) rfl)) (fun _ h9 => h9) rfl dB_36_0_5.1.2.2.2 ?_
        have cl_31 := clI (i := vp) (by omega)
        have cl_32 := clI (i := (0 : Int32)) (by omega)
        refine va_copyi hx hb (by rw [hml]; exact hl.1.symm) hown (hts (.methodLink RX0 83 arraycopyName) (List.mem_of_getElem? (i := 6) rfl)) (hts (.native arraycopyName) (List.mem_of_getElem? (i := 7) rfl)) (hts (.static arraycopyName) (List.mem_of_getElem? (i := 8) rfl)) (hts (.initialized "java/lang/System") (List.mem_of_getElem? (i := 9) rfl)) hK.1 hP hD hS 5 18 0 0 rfl rfl rfl rfl rfl (sp := (0 : Int32)) (dp := (0 : Int32)) (n := vp) (nneg (by omega)) (nneg (by omega)) (nneg (by omega)) (by omega) (by omega) (fun i h => rfl) (Nat.le_of_ble_eq_true rfl) (Nat.le_of_ble_eq_true rfl) dB_36_0_5.2.1.1.1 (fun H locs hP hD hS => ?_)
        obtain ⟨f_33, ef_33⟩ : ∃ g : Nat → Int32, g = va_cpy (Ml 0) (m_rr_4 0) (0 : Int32).toNatClampNeg (0 : Int32).toNatClampNeg vp.toNatClampNeg := ⟨_, rfl⟩
        refine pd_K (D := D) (cl := vwCl) (H := H) (A := A) [ob0_0_ xc xn xk clo cro c4 c5 c6 c7 c8, ob3_0_ xn vp vn n1 n2 n3 n4 n5, ai_ cy n2 40 fs, ai_ cy n3 40 fe, aq_ cy 6 clo 12 (gf_ rl), ai_ cy (rl 0) 12 (Ml 0), ai_ cy (rl 1) 12 (Ml 1), ai_ cy (rl 2) 12 (Ml 2), ai_ cy (rl 3) 12 (Ml 3), ai_ cy (rl 4) 12 (Ml 4), ai_ cy (rl 5) 12 (Ml 5), ai_ cy (rl 6) 12 (Ml 6), ai_ cy (rl 7) 12 (Ml 7), ai_ cy (rl 8) 12 (Ml 8), ai_ cy (rl 9) 12 (Ml 9), ai_ cy (rl 10) 12 (Ml 10), ai_ cy (rl 11) 12 (Ml 11), aq_ cy 6 cro 12 (gf_ rr), ai_ cy (rr 0) 12 f_33, ai_ cy (rr 1) 12 (m_rr_4 1), ai_ cy (rr 2) 12 (m_rr_4 2), ai_ cy (rr 3) 12 (m_rr_4 3), ai_ cy (rr 4) 12 (m_rr_4 4), ai_ cy (rr 5) 12 (m_rr_4 5), ai_ cy (rr 6) 12 (m_rr_4 6), ai_ cy (rr 7) 12 (m_rr_4 7), ai_ cy (rr 8) 12 (m_rr_4 8), ai_ cy (rr 9) 12 (m_rr_4 9), ai_ cy (rr 10) 12 (m_rr_4 10), ai_ cy (rr 11) 12 (m_rr_4 11), ai_ cy c4 40 e1_2, ai_ cy c5 40 f5, ai_ cy c6 40 f6, ai_ cy c7 12 f7, ai_ cy c8 12 f8] (by rw [ef_33]; exact hP) (by rw [ef_33]; exact hD) (fun hP hD => ?_)
        obtain ⟨M_34, eM_34⟩ : ∃ g : Nat → Nat → Int32, g = va_up m_rr_4 0 f_33 := ⟨_, rfl⟩
        refine pd_K (D := D) (cl := vwCl) (H := H) (A := A) [ob0_0_ xc xn xk clo cro c4 c5 c6 c7 c8, ob3_0_ xn vp vn n1 n2 n3 n4 n5, ai_ cy n2 40 fs, ai_ cy n3 40 fe, aq_ cy 6 clo 12 (gf_ rl), ai_ cy (rl 0) 12 (Ml 0), ai_ cy (rl 1) 12 (Ml 1), ai_ cy (rl 2) 12 (Ml 2), ai_ cy (rl 3) 12 (Ml 3), ai_ cy (rl 4) 12 (Ml 4), ai_ cy (rl 5) 12 (Ml 5), ai_ cy (rl 6) 12 (Ml 6), ai_ cy (rl 7) 12 (Ml 7), ai_ cy (rl 8) 12 (Ml 8), ai_ cy (rl 9) 12 (Ml 9), ai_ cy (rl 10) 12 (Ml 10), ai_ cy (rl 11) 12 (Ml 11), aq_ cy 6 cro 12 (gf_ rr), ai_ cy (rr 0) 12 (M_34 0), ai_ cy (rr 1) 12 (M_34 1), ai_ cy (rr 2) 12 (M_34 2), ai_ cy (rr 3) 12 (M_34 3), ai_ cy (rr 4) 12 (M_34 4), ai_ cy (rr 5) 12 (M_34 5), ai_ cy (rr 6) 12 (M_34 6), ai_ cy (rr 7) 12 (M_34 7), ai_ cy (rr 8) 12 (M_34 8), ai_ cy (rr 9) 12 (M_34 9), ai_ cy (rr 10) 12 (M_34 10), ai_ cy (rr 11) 12 (M_34 11), ai_ cy c4 40 e1_2, ai_ cy c5 40 f5, ai_ cy c6 40 f6, ai_ cy c7 12 f7, ai_ cy c8 12 f8] (by rw [eM_34]; exact hP) (by rw [eM_34]; exact hD) (fun hP hD => ?_)
        obtain ⟨y_35, ey_35⟩ : ∃ y : Int32, y = (0 : Int32) + 1 := ⟨_, rfl⟩
        have ty_35 : y_35.toInt = (0 : Int32).toInt + (1 : Int32).toInt := by rw [ey_35]; exact addI (by omega) (by omega)
        refine lv_iinc (v := y_35) (lv' := [(3, .int y_35), (0, .ref xc), (1, .int a1), (2, .int a2)]) hx hb dB_36_0_5.2.1.1.2 hl (k := 0) rfl (by rw [ey_35]; rfl) (by decide) rfl (fun ls hl => ?_)
        refine lv_goto (tgt := 10) hx hb dB_36_0_5.2.1.2.1 (by decide) ?_
        exact ih_4 y_35 M_34 _ _ _ (by omega) (by first | with_reducible assumption | omega | assumption) (by first | with_reducible assumption | omega | assumption) (by first | exact cp_st eM_34 v2_4 (by assumption) (by decide) (by omega) | (intro x y hx; omega)) ⟨hP, hD⟩ hS (lv_sub hl [0, 1, 2, 3] rfl)
      · refine lv_aload_n hx hb dB_36_0_4.2.1.2.2 rfl (lv_at hl 1 rfl) ?_
        refine va_get (ci := 0) (v := .ref clo) (C := RX0) (T := TX0) (N := 9) hx hb hts (fun _ h => List.mem_cons_of_mem _ (List.mem_append_left _ (List.mem_append_right _ h))) hown hK.1 hP 0 rfl rfl 2 (by decide) (hts (.fieldLink RX0 11 "CutAtlas$Current" "lets" "[[I") (List.mem_of_getElem? (i := 4) rfl)) (fun _ h9 => h9) rfl dB_36_0_4.2.2.1.1 ?_
        refine lv_iload_n hx hb dB_36_0_4.2.2.1.2 rfl (lv_at hl 0 rfl) ?_
        have h_36 : vp_in (1 : Int32) 12 := by unfold vp_in; decide
        refine va_alda hx hb hG hP 4 rfl (i := 1) h_36 dB_36_0_4.2.2.2.1 ?_
        refine lv_topv (v' := .ref (rl 1)) (gf_at h_36) ?_
        refine lv_iconst (v := 0) hx hb dB_36_0_4.2.2.2.2 (by decide) ?_
        refine lv_aload_n hx hb dB_36_0_5.1.1.1.1 rfl (lv_at hl 1 rfl) ?_
        refine va_get (ci := 0) (v := .ref cro) (C := RX0) (T := TX0) (N := 9) hx hb hts (fun _ h => List.mem_cons_of_mem _ (List.mem_append_left _ (List.mem_append_right _ h))) hown hK.1 hP 0 rfl rfl 3 (by decide) (hts (.fieldLink RX0 16 "CutAtlas$Current" "room" "[[I") (List.mem_of_getElem? (i := 5) rfl)) (fun _ h9 => h9) rfl dB_36_0_5.1.1.1.2 ?_
        refine lv_iload_n hx hb dB_36_0_5.1.1.2.1 rfl (lv_at hl 0 rfl) ?_
        refine va_alda hx hb hG hP 17 rfl (i := 1) h_36 dB_36_0_5.1.1.2.2 ?_
        refine lv_topv (v' := .ref (rr 1)) (gf_at h_36) ?_
        refine lv_iconst (v := 0) hx hb dB_36_0_5.1.2.1.1 (by decide) ?_
        refine lv_aload_n hx hb dB_36_0_5.1.2.1.2 rfl (lv_at hl 1 rfl) ?_
        refine va_get (ci := 0) (v := .ref xn) (C := RX0) (T := TX0) (N := 9) hx hb hts (fun _ h => List.mem_cons_of_mem _ (List.mem_append_left _ (List.mem_append_right _ h))) hown hK.1 hP 0 rfl rfl 0 (by decide) (hts (.fieldLink RX0 35 "CutAtlas$Current" "net" "LCutAtlas$Net;") (List.mem_of_getElem? (i := 2) rfl)) (fun _ h9 => h9) rfl dB_36_0_5.1.2.2.1 ?_
        refine va_get (ci := 3) (v := .int vp) (C := RX3) (T := TX3) (N := 7) hx hb hts (fun _ h => List.mem_cons_of_mem _ (List.mem_append_right _ h)) hown hK.1 hP 1 rfl rfl 0 (by decide) (hts (.fieldLink RX0 43 "CutAtlas$Net" "places" "I") (List.mem_of_getElem? (i := 3) rfl)) (fun _ h9 => h9) rfl dB_36_0_5.1.2.2.2 ?_
        have cl_38 := clI (i := vp) (by omega)
        have cl_39 := clI (i := (0 : Int32)) (by omega)
        refine va_copyi hx hb (by rw [hml]; exact hl.1.symm) hown (hts (.methodLink RX0 83 arraycopyName) (List.mem_of_getElem? (i := 6) rfl)) (hts (.native arraycopyName) (List.mem_of_getElem? (i := 7) rfl)) (hts (.static arraycopyName) (List.mem_of_getElem? (i := 8) rfl)) (hts (.initialized "java/lang/System") (List.mem_of_getElem? (i := 9) rfl)) hK.1 hP hD hS 6 19 0 0 rfl rfl rfl rfl rfl (sp := (0 : Int32)) (dp := (0 : Int32)) (n := vp) (nneg (by omega)) (nneg (by omega)) (nneg (by omega)) (by omega) (by omega) (fun i h => rfl) (Nat.le_of_ble_eq_true rfl) (Nat.le_of_ble_eq_true rfl) dB_36_0_5.2.1.1.1 (fun H locs hP hD hS => ?_)
        obtain ⟨f_40, ef_40⟩ : ∃ g : Nat → Int32, g = va_cpy (Ml 1) (m_rr_4 1) (0 : Int32).toNatClampNeg (0 : Int32).toNatClampNeg vp.toNatClampNeg := ⟨_, rfl⟩
        refine pd_K (D := D) (cl := vwCl) (H := H) (A := A) [ob0_0_ xc xn xk clo cro c4 c5 c6 c7 c8, ob3_0_ xn vp vn n1 n2 n3 n4 n5, ai_ cy n2 40 fs, ai_ cy n3 40 fe, aq_ cy 6 clo 12 (gf_ rl), ai_ cy (rl 0) 12 (Ml 0), ai_ cy (rl 1) 12 (Ml 1), ai_ cy (rl 2) 12 (Ml 2), ai_ cy (rl 3) 12 (Ml 3), ai_ cy (rl 4) 12 (Ml 4), ai_ cy (rl 5) 12 (Ml 5), ai_ cy (rl 6) 12 (Ml 6), ai_ cy (rl 7) 12 (Ml 7), ai_ cy (rl 8) 12 (Ml 8), ai_ cy (rl 9) 12 (Ml 9), ai_ cy (rl 10) 12 (Ml 10), ai_ cy (rl 11) 12 (Ml 11), aq_ cy 6 cro 12 (gf_ rr), ai_ cy (rr 0) 12 (m_rr_4 0), ai_ cy (rr 1) 12 f_40, ai_ cy (rr 2) 12 (m_rr_4 2), ai_ cy (rr 3) 12 (m_rr_4 3), ai_ cy (rr 4) 12 (m_rr_4 4), ai_ cy (rr 5) 12 (m_rr_4 5), ai_ cy (rr 6) 12 (m_rr_4 6), ai_ cy (rr 7) 12 (m_rr_4 7), ai_ cy (rr 8) 12 (m_rr_4 8), ai_ cy (rr 9) 12 (m_rr_4 9), ai_ cy (rr 10) 12 (m_rr_4 10), ai_ cy (rr 11) 12 (m_rr_4 11), ai_ cy c4 40 e1_2, ai_ cy c5 40 f5, ai_ cy c6 40 f6, ai_ cy c7 12 f7, ai_ cy c8 12 f8] (by rw [ef_40]; exact hP) (by rw [ef_40]; exact hD) (fun hP hD => ?_)
        obtain ⟨M_41, eM_41⟩ : ∃ g : Nat → Nat → Int32, g = va_up m_rr_4 1 f_40 := ⟨_, rfl⟩
        refine pd_K (D := D) (cl := vwCl) (H := H) (A := A) [ob0_0_ xc xn xk clo cro c4 c5 c6 c7 c8, ob3_0_ xn vp vn n1 n2 n3 n4 n5, ai_ cy n2 40 fs, ai_ cy n3 40 fe, aq_ cy 6 clo 12 (gf_ rl), ai_ cy (rl 0) 12 (Ml 0), ai_ cy (rl 1) 12 (Ml 1), ai_ cy (rl 2) 12 (Ml 2), ai_ cy (rl 3) 12 (Ml 3), ai_ cy (rl 4) 12 (Ml 4), ai_ cy (rl 5) 12 (Ml 5), ai_ cy (rl 6) 12 (Ml 6), ai_ cy (rl 7) 12 (Ml 7), ai_ cy (rl 8) 12 (Ml 8), ai_ cy (rl 9) 12 (Ml 9), ai_ cy (rl 10) 12 (Ml 10), ai_ cy (rl 11) 12 (Ml 11), aq_ cy 6 cro 12 (gf_ rr), ai_ cy (rr 0) 12 (M_41 0), ai_ cy (rr 1) 12 (M_41 1), ai_ cy (rr 2) 12 (M_41 2), ai_ cy (rr 3) 12 (M_41 3), ai_ cy (rr 4) 12 (M_41 4), ai_ cy (rr 5) 12 (M_41 5), ai_ cy (rr 6) 12 (M_41 6), ai_ cy (rr 7) 12 (M_41 7), ai_ cy (rr 8) 12 (M_41 8), ai_ cy (rr 9) 12 (M_41 9), ai_ cy (rr 10) 12 (M_41 10), ai_ cy (rr 11) 12 (M_41 11), ai_ cy c4 40 e1_2, ai_ cy c5 40 f5, ai_ cy c6 40 f6, ai_ cy c7 12 f7, ai_ cy c8 12 f8] (by rw [eM_41]; exact hP) (by rw [eM_41]; exact hD) (fun hP hD => ?_)
        obtain ⟨y_42, ey_42⟩ : ∃ y : Int32, y = (1 : Int32) + 1 := ⟨_, rfl⟩
        have ty_42 : y_42.toInt = (1 : Int32).toInt + (1 : Int32).toInt := by rw [ey_42]; exact addI (by omega) (by omega)
        refine lv_iinc (v := y_42) (lv' := [(3, .int y_42), (0, .ref xc), (1, .int a1), (2, .int a2)]) hx hb dB_36_0_5.2.1.1.2 hl (k := 0) rfl (by rw [ey_42]; rfl) (by decide) rfl (fun ls hl => ?_)
        refine lv_goto (tgt := 10) hx hb dB_36_0_5.2.1.2.1 (by decide) ?_
        exact ih_4 y_42 M_41 _ _ _ (by omega) (by first | with_reducible assumption | omega | assumption) (by first | with_reducible assumption | omega | assumption) (by first | exact cp_st eM_41 v2_4 (by assumption) (by decide) (by omega) | (intro x y hx; omega)) ⟨hP, hD⟩ hS (lv_sub hl [0, 1, 2, 3] rfl)
      · refine lv_aload_n hx hb dB_36_0_4.2.1.2.2 rfl (lv_at hl 1 rfl) ?_
        refine va_get (ci := 0) (v := .ref clo) (C := RX0) (T := TX0) (N := 9) hx hb hts (fun _ h => List.mem_cons_of_mem _ (List.mem_append_left _ (List.mem_append_right _ h))) hown hK.1 hP 0 rfl rfl 2 (by decide) (hts (.fieldLink RX0 11 "CutAtlas$Current" "lets" "[[I") (List.mem_of_getElem? (i := 4) rfl)) (fun _ h9 => h9) rfl dB_36_0_4.2.2.1.1 ?_
        refine lv_iload_n hx hb dB_36_0_4.2.2.1.2 rfl (lv_at hl 0 rfl) ?_
        have h_43 : vp_in (2 : Int32) 12 := by unfold vp_in; decide
        refine va_alda hx hb hG hP 4 rfl (i := 2) h_43 dB_36_0_4.2.2.2.1 ?_
        refine lv_topv (v' := .ref (rl 2)) (gf_at h_43) ?_
        refine lv_iconst (v := 0) hx hb dB_36_0_4.2.2.2.2 (by decide) ?_
        refine lv_aload_n hx hb dB_36_0_5.1.1.1.1 rfl (lv_at hl 1 rfl) ?_
        refine va_get (ci := 0) (v := .ref cro) (C := RX0) (T := TX0) (N := 9) hx hb hts (fun _ h => List.mem_cons_of_mem _ (List.mem_append_left _ (List.mem_append_right _ h))) hown hK.1 hP 0 rfl rfl 3 (by decide) (hts (.fieldLink RX0 16 "CutAtlas$Current" "room" "[[I") (List.mem_of_getElem? (i := 5) rfl)) (fun _ h9 => h9) rfl dB_36_0_5.1.1.1.2 ?_
        refine lv_iload_n hx hb dB_36_0_5.1.1.2.1 rfl (lv_at hl 0 rfl) ?_
        refine va_alda hx hb hG hP 17 rfl (i := 2) h_43 dB_36_0_5.1.1.2.2 ?_
        refine lv_topv (v' := .ref (rr 2)) (gf_at h_43) ?_
        refine lv_iconst (v := 0) hx hb dB_36_0_5.1.2.1.1 (by decide) ?_
        refine lv_aload_n hx hb dB_36_0_5.1.2.1.2 rfl (lv_at hl 1 rfl) ?_
        refine va_get (ci := 0) (v := .ref xn) (C := RX0) (T := TX0) (N := 9) hx hb hts (fun _ h => List.mem_cons_of_mem _ (List.mem_append_left _ (List.mem_append_right _ h))) hown hK.1 hP 0 rfl rfl 0 (by decide) (hts (.fieldLink RX0 35 "CutAtlas$Current" "net" "LCutAtlas$Net;") (List.mem_of_getElem? (i := 2) rfl)) (fun _ h9 => h9) rfl dB_36_0_5.1.2.2.1 ?_
        refine va_get (ci := 3) (v := .int vp) (C := RX3) (T := TX3) (N := 7) hx hb hts (fun _ h => List.mem_cons_of_mem _ (List.mem_append_right _ h)) hown hK.1 hP 1 rfl rfl 0 (by decide) (hts (.fieldLink RX0 43 "CutAtlas$Net" "places" "I") (List.mem_of_getElem? (i := 3) rfl)) (fun _ h9 => h9) rfl dB_36_0_5.1.2.2.2 ?_
        have cl_45 := clI (i := vp) (by omega)
        have cl_46 := clI (i := (0 : Int32)) (by omega)
        refine va_copyi hx hb (by rw [hml]; exact hl.1.symm) hown (hts (.methodLink RX0 83 arraycopyName) (List.mem_of_getElem? (i := 6) rfl)) (hts (.native arraycopyName) (List.mem_of_getElem? (i := 7) rfl)) (hts (.static arraycopyName) (List.mem_of_getElem? (i := 8) rfl)) (hts (.initialized "java/lang/System") (List.mem_of_getElem? (i := 9) rfl)) hK.1 hP hD hS 7 20 0 0 rfl rfl rfl rfl rfl (sp := (0 : Int32)) (dp := (0 : Int32)) (n := vp) (nneg (by omega)) (nneg (by omega)) (nneg (by omega)) (by omega) (by omega) (fun i h => rfl) (Nat.le_of_ble_eq_true rfl) (Nat.le_of_ble_eq_true rfl) dB_36_0_5.2.1.1.1 (fun H locs hP hD hS => ?_)
        obtain ⟨f_47, ef_47⟩ : ∃ g : Nat → Int32, g = va_cpy (Ml 2) (m_rr_4 2) (0 : Int32).toNatClampNeg (0 : Int32).toNatClampNeg vp.toNatClampNeg := ⟨_, rfl⟩
        refine pd_K (D := D) (cl := vwCl) (H := H) (A := A) [ob0_0_ xc xn xk clo cro c4 c5 c6 c7 c8, ob3_0_ xn vp vn n1 n2 n3 n4 n5, ai_ cy n2 40 fs, ai_ cy n3 40 fe, aq_ cy 6 clo 12 (gf_ rl), ai_ cy (rl 0) 12 (Ml 0), ai_ cy (rl 1) 12 (Ml 1), ai_ cy (rl 2) 12 (Ml 2), ai_ cy (rl 3) 12 (Ml 3), ai_ cy (rl 4) 12 (Ml 4), ai_ cy (rl 5) 12 (Ml 5), ai_ cy (rl 6) 12 (Ml 6), ai_ cy (rl 7) 12 (Ml 7), ai_ cy (rl 8) 12 (Ml 8), ai_ cy (rl 9) 12 (Ml 9), ai_ cy (rl 10) 12 (Ml 10), ai_ cy (rl 11) 12 (Ml 11), aq_ cy 6 cro 12 (gf_ rr), ai_ cy (rr 0) 12 (m_rr_4 0), ai_ cy (rr 1) 12 (m_rr_4 1), ai_ cy (rr 2) 12 f_47, ai_ cy (rr 3) 12 (m_rr_4 3), ai_ cy (rr 4) 12 (m_rr_4 4), ai_ cy (rr 5) 12 (m_rr_4 5), ai_ cy (rr 6) 12 (m_rr_4 6), ai_ cy (rr 7) 12 (m_rr_4 7), ai_ cy (rr 8) 12 (m_rr_4 8), ai_ cy (rr 9) 12 (m_rr_4 9), ai_ cy (rr 10) 12 (m_rr_4 10), ai_ cy (rr 11) 12 (m_rr_4 11), ai_ cy c4 40 e1_2, ai_ cy c5 40 f5, ai_ cy c6 40 f6, ai_ cy c7 12 f7, ai_ cy c8 12 f8] (by rw [ef_47]; exact hP) (by rw [ef_47]; exact hD) (fun hP hD => ?_)
        obtain ⟨M_48, eM_48⟩ : ∃ g : Nat → Nat → Int32, g = va_up m_rr_4 2 f_47 := ⟨_, rfl⟩
        refine pd_K (D := D) (cl := vwCl) (H := H) (A := A) [ob0_0_ xc xn xk clo cro c4 c5 c6 c7 c8, ob3_0_ xn vp vn n1 n2 n3 n4 n5, ai_ cy n2 40 fs, ai_ cy n3 40 fe, aq_ cy 6 clo 12 (gf_ rl), ai_ cy (rl 0) 12 (Ml 0), ai_ cy (rl 1) 12 (Ml 1), ai_ cy (rl 2) 12 (Ml 2), ai_ cy (rl 3) 12 (Ml 3), ai_ cy (rl 4) 12 (Ml 4), ai_ cy (rl 5) 12 (Ml 5), ai_ cy (rl 6) 12 (Ml 6), ai_ cy (rl 7) 12 (Ml 7), ai_ cy (rl 8) 12 (Ml 8), ai_ cy (rl 9) 12 (Ml 9), ai_ cy (rl 10) 12 (Ml 10), ai_ cy (rl 11) 12 (Ml 11), aq_ cy 6 cro 12 (gf_ rr), ai_ cy (rr 0) 12 (M_48 0), ai_ cy (rr 1) 12 (M_48 1), ai_ cy (rr 2) 12 (M_48 2), ai_ cy (rr 3) 12 (M_48 3), ai_ cy (rr 4) 12 (M_48 4), ai_ cy (rr 5) 12 (M_48 5), ai_ cy (rr 6) 12 (M_48 6), ai_ cy (rr 7) 12 (M_48 7), ai_ cy (rr 8) 12 (M_48 8), ai_ cy (rr 9) 12 (M_48 9), ai_ cy (rr 10) 12 (M_48 10), ai_ cy (rr 11) 12 (M_48 11), ai_ cy c4 40 e1_2, ai_ cy c5 40 f5, ai_ cy c6 40 f6, ai_ cy c7 12 f7, ai_ cy c8 12 f8] (by rw [eM_48]; exact hP) (by rw [eM_48]; exact hD) (fun hP hD => ?_)
        obtain ⟨y_49, ey_49⟩ : ∃ y : Int32, y = (2 : Int32) + 1 := ⟨_, rfl⟩
        have ty_49 : y_49.toInt = (2 : Int32).toInt + (1 : Int32).toInt := by rw [ey_49]; exact addI (by omega) (by omega)
        refine lv_iinc (v := y_49) (lv' := [(3, .int y_49), (0, .ref xc), (1, .int a1), (2, .int a2)]) hx hb dB_36_0_5.2.1.1.2 hl (k := 0) rfl (by rw [ey_49]; rfl) (by decide) rfl (fun ls hl => ?_)
        refine lv_goto (tgt := 10) hx hb dB_36_0_5.2.1.2.1 (by decide) ?_
        exact ih_4 y_49 M_48 _ _ _ (by omega) (by first | with_reducible assumption | omega | assumption) (by first | with_reducible assumption | omega | assumption) (by first | exact cp_st eM_48 v2_4 (by assumption) (by decide) (by omega) | (intro x y hx; omega)) ⟨hP, hD⟩ hS (lv_sub hl [0, 1, 2, 3] rfl)
      · refine lv_aload_n hx hb dB_36_0_4.2.1.2.2 rfl (lv_at hl 1 rfl) ?_
        refine va_get (ci := 0) (v := .ref clo) (C := RX0) (T := TX0) (N := 9) hx hb hts (fun _ h => List.mem_cons_of_mem _ (List.mem_append_left _ (List.mem_append_right _ h))) hown hK.1 hP 0 rfl rfl 2 (by decide) (hts (.fieldLink RX0 11 "CutAtlas$Current" "lets" "[[I") (List.mem_of_getElem? (i := 4) rfl)) (fun _ h9 => h9) rfl dB_36_0_4.2.2.1.1 ?_
        refine lv_iload_n hx hb dB_36_0_4.2.2.1.2 rfl (lv_at hl 0 rfl) ?_
        have h_50 : vp_in (3 : Int32) 12 := by unfold vp_in; decide
        refine va_alda hx hb hG hP 4 rfl (i := 3) h_50 dB_36_0_4.2.2.2.1 ?_
        refine lv_topv (v' := .ref (rl 3)) (gf_at h_50) ?_
        refine lv_iconst (v := 0) hx hb dB_36_0_4.2.2.2.2 (by decide) ?_
        refine lv_aload_n hx hb dB_36_0_5.1.1.1.1 rfl (lv_at hl 1 rfl) ?_
        refine va_get (ci := 0) (v := .ref cro) (C := RX0) (T := TX0) (N := 9) hx hb hts (fun _ h => List.mem_cons_of_mem _ (List.mem_append_left _ (List.mem_append_right _ h))) hown hK.1 hP 0 rfl rfl 3 (by decide) (hts (.fieldLink RX0 16 "CutAtlas$Current" "room" "[[I") (List.mem_of_getElem? (i := 5) rfl)) (fun _ h9 => h9) rfl dB_36_0_5.1.1.1.2 ?_
        refine lv_iload_n hx hb dB_36_0_5.1.1.2.1 rfl (lv_at hl 0 rfl) ?_
        refine va_alda hx hb hG hP 17 rfl (i := 3) h_50 dB_36_0_5.1.1.2.2 ?_
        refine lv_topv (v' := .ref (rr 3)) (gf_at h_50) ?_
        refine lv_iconst (v := 0) hx hb dB_36_0_5.1.2.1.1 (by decide) ?_
        refine lv_aload_n hx hb dB_36_0_5.1.2.1.2 rfl (lv_at hl 1 rfl) ?_
        refine va_get (ci := 0) (v := .ref xn) (C := RX0) (T := TX0) (N := 9) hx hb hts (fun _ h => List.mem_cons_of_mem _ (List.mem_append_left _ (List.mem_append_right _ h))) hown hK.1 hP 0 rfl rfl 0 (by decide) (hts (.fieldLink RX0 35 "CutAtlas$Current" "net" "LCutAtlas$Net;") (List.mem_of_getElem? (i := 2) rfl)) (fun _ h9 => h9) rfl dB_36_0_5.1.2.2.1 ?_
        refine va_get (ci := 3) (v := .int vp) (C := RX3) (T := TX3) (N := 7) hx hb hts (fun _ h => List.mem_cons_of_mem _ (List.mem_append_right _ h)) hown hK.1 hP 1 rfl rfl 0 (by decide) (hts (.fieldLink RX0 43 "CutAtlas$Net" "places" "I") (List.mem_of_getElem? (i := 3) rfl)) (fun _ h9 => h9) rfl dB_36_0_5.1.2.2.2 ?_
        have cl_52 := clI (i := vp) (by omega)
        have cl_53 := clI (i := (0 : Int32)) (by omega)
        refine va_copyi hx hb (by rw [hml]; exact hl.1.symm) hown (hts (.methodLink RX0 83 arraycopyName) (List.mem_of_getElem? (i := 6) rfl)) (hts (.native arraycopyName) (List.mem_of_getElem? (i := 7) rfl)) (hts (.static arraycopyName) (List.mem_of_getElem? (i := 8) rfl)) (hts (.initialized "java/lang/System") (List.mem_of_getElem? (i := 9) rfl)) hK.1 hP hD hS 8 21 0 0 rfl rfl rfl rfl rfl (sp := (0 : Int32)) (dp := (0 : Int32)) (n := vp) (nneg (by omega)) (nneg (by omega)) (nneg (by omega)) (by omega) (by omega) (fun i h => rfl) (Nat.le_of_ble_eq_true rfl) (Nat.le_of_ble_eq_true rfl) dB_36_0_5.2.1.1.1 (fun H locs hP hD hS => ?_)
        obtain ⟨f_54, ef_54⟩ : ∃ g : Nat → Int32, g = va_cpy (Ml 3) (m_rr_4 3) (0 : Int32).toNatClampNeg (0 : Int32).toNatClampNeg vp.toNatClampNeg := ⟨_, rfl⟩
        refine pd_K (D := D) (cl := vwCl) (H := H) (A := A) [ob0_0_ xc xn xk clo cro c4 c5 c6 c7 c8, ob3_0_ xn vp vn n1 n2 n3 n4 n5, ai_ cy n2 40 fs, ai_ cy n3 40 fe, aq_ cy 6 clo 12 (gf_ rl), ai_ cy (rl 0) 12 (Ml 0), ai_ cy (rl 1) 12 (Ml 1), ai_ cy (rl 2) 12 (Ml 2), ai_ cy (rl 3) 12 (Ml 3), ai_ cy (rl 4) 12 (Ml 4), ai_ cy (rl 5) 12 (Ml 5), ai_ cy (rl 6) 12 (Ml 6), ai_ cy (rl 7) 12 (Ml 7), ai_ cy (rl 8) 12 (Ml 8), ai_ cy (rl 9) 12 (Ml 9), ai_ cy (rl 10) 12 (Ml 10), ai_ cy (rl 11) 12 (Ml 11), aq_ cy 6 cro 12 (gf_ rr), ai_ cy (rr 0) 12 (m_rr_4 0), ai_ cy (rr 1) 12 (m_rr_4 1), ai_ cy (rr 2) 12 (m_rr_4 2), ai_ cy (rr 3) 12 f_54, ai_ cy (rr 4) 12 (m_rr_4 4), ai_ cy (rr 5) 12 (m_rr_4 5), ai_ cy (rr 6) 12 (m_rr_4 6), ai_ cy (rr 7) 12 (m_rr_4 7), ai_ cy (rr 8) 12 (m_rr_4 8), ai_ cy (rr 9) 12 (m_rr_4 9), ai_ cy (rr 10) 12 (m_rr_4 10), ai_ cy (rr 11) 12 (m_rr_4 11), ai_ cy c4 40 e1_2, ai_ cy c5 40 f5, ai_ cy c6 40 f6, ai_ cy c7 12 f7, ai_ cy c8 12 f8] (by rw [ef_54]; exact hP) (by rw [ef_54]; exact hD) (fun hP hD => ?_)
        obtain ⟨M_55, eM_55⟩ : ∃ g : Nat → Nat → Int32, g = va_up m_rr_4 3 f_54 := ⟨_, rfl⟩
        refine pd_K (D := D) (cl := vwCl) (H := H) (A := A) [ob0_0_ xc xn xk clo cro c4 c5 c6 c7 c8, ob3_0_ xn vp vn n1 n2 n3 n4 n5, ai_ cy n2 40 fs, ai_ cy n3 40 fe, aq_ cy 6 clo 12 (gf_ rl), ai_ cy (rl 0) 12 (Ml 0), ai_ cy (rl 1) 12 (Ml 1), ai_ cy (rl 2) 12 (Ml 2), ai_ cy (rl 3) 12 (Ml 3), ai_ cy (rl 4) 12 (Ml 4), ai_ cy (rl 5) 12 (Ml 5), ai_ cy (rl 6) 12 (Ml 6), ai_ cy (rl 7) 12 (Ml 7), ai_ cy (rl 8) 12 (Ml 8), ai_ cy (rl 9) 12 (Ml 9), ai_ cy (rl 10) 12 (Ml 10), ai_ cy (rl 11) 12 (Ml 11), aq_ cy 6 cro 12 (gf_ rr), ai_ cy (rr 0) 12 (M_55 0), ai_ cy (rr 1) 12 (M_55 1), ai_ cy (rr 2) 12 (M_55 2), ai_ cy (rr 3) 12 (M_55 3), ai_ cy (rr 4) 12 (M_55 4), ai_ cy (rr 5) 12 (M_55 5), ai_ cy (rr 6) 12 (M_55 6), ai_ cy (rr 7) 12 (M_55 7), ai_ cy (rr 8) 12 (M_55 8), ai_ cy (rr 9) 12 (M_55 9), ai_ cy (rr 10) 12 (M_55 10), ai_ cy (rr 11) 12 (M_55 11), ai_ cy c4 40 e1_2, ai_ cy c5 40 f5, ai_ cy c6 40 f6, ai_ cy c7 12 f7, ai_ cy c8 12 f8] (by rw [eM_55]; exact hP) (by rw [eM_55]; exact hD) (fun hP hD => ?_)
        obtain ⟨y_56, ey_56⟩ : ∃ y : Int32, y = (3 : Int32) + 1 := ⟨_, rfl⟩
        have ty_56 : y_56.toInt = (3 : Int32).toInt + (1 : Int32).toInt := by rw [ey_56]; exact addI (by omega) (by omega)
        refine lv_iinc (v := y_56) (lv' := [(3, .int y_56), (0, .ref xc), (1, .int a1), (2, .int a2)]) hx hb dB_36_0_5.2.1.1.2 hl (k := 0) rfl (by rw [ey_56]; rfl) (by decide) rfl (fun ls hl => ?_)
        refine lv_goto (tgt := 10) hx hb dB_36_0_5.2.1.2.1 (by decide) ?_
        exact ih_4 y_56 M_55 _ _ _ (by omega) (by first | with_reducible assumption | omega | assumption) (by first | with_reducible assumption | omega | assumption) (by first | exact cp_st eM_55 v2_4 (by assumption) (by decide) (by omega) | (intro x y hx; omega)) ⟨hP, hD⟩ hS (lv_sub hl [0, 1, 2, 3] rfl)
      · refine lv_aload_n hx hb dB_36_0_4.2.1.2.2 rfl (lv_at hl 1 rfl) ?_
        refine va_get (ci := 0) (v := .ref clo) (C := RX0) (T := TX0) (N := 9) hx hb hts (fun _ h => List.mem_cons_of_mem _ (List.mem_append_left _ (List.mem_append_right _ h))) hown hK.1 hP 0 rfl rfl 2 (by decide) (hts (.fieldLink RX0 11 "CutAtlas$Current" "lets" "[[I") (List.mem_of_getElem? (i := 4) rfl)) (fun _ h9 => h9) rfl dB_36_0_4.2.2.1.1 ?_
        refine lv_iload_n hx hb dB_36_0_4.2.2.1.2 rfl (lv_at hl 0 rfl) ?_
        have h_57 : vp_in (4 : Int32) 12 := by unfold vp_in; decide
        refine va_alda hx hb hG hP 4 rfl (i := 4) h_57 dB_36_0_4.2.2.2.1 ?_
        refine lv_topv (v' := .ref (rl 4)) (gf_at h_57) ?_
        refine lv_iconst (v := 0) hx hb dB_36_0_4.2.2.2.2 (by decide) ?_
        refine lv_aload_n hx hb dB_36_0_5.1.1.1.1 rfl (lv_at hl 1 rfl) ?_
        refine va_get (ci := 0) (v := .ref cro) (C := RX0) (T := TX0) (N := 9) hx hb hts (fun _ h => List.mem_cons_of_mem _ (List.mem_append_left _ (List.mem_append_right _ h))) hown hK.1 hP 0 rfl rfl 3 (by decide) (hts (.fieldLink RX0 16 "CutAtlas$Current" "room" "[[I") (List.mem_of_getElem? (i := 5) rfl)) (fun _ h9 => h9) rfl dB_36_0_5.1.1.1.2 ?_
        refine lv_iload_n hx hb dB_36_0_5.1.1.2.1 rfl (lv_at hl 0 rfl) ?_
        refine va_alda hx hb hG hP 17 rfl (i := 4) h_57 dB_36_0_5.1.1.2.2 ?_
        refine lv_topv (v' := .ref (rr 4)) (gf_at h_57) ?_
        refine lv_iconst (v := 0) hx hb dB_36_0_5.1.2.1.1 (by decide) ?_
        refine lv_aload_n hx hb dB_36_0_5.1.2.1.2 rfl (lv_at hl 1 rfl) ?_
        refine va_get (ci := 0) (v := .ref xn) (C := RX0) (T := TX0) (N := 9) hx hb hts (fun _ h => List.mem_cons_of_mem _ (List.mem_append_left _ (List.mem_append_right _ h))) hown hK.1 hP 0 rfl rfl 0 (by decide) (hts (.fieldLink RX0 35 "CutAtlas$Current" "net" "LCutAtlas$Net;") (List.mem_of_getElem? (i := 2) rfl)) (fun _ h9 => h9) rfl dB_36_0_5.1.2.2.1 ?_
        refine va_get (ci := 3) (v := .int vp) (C := RX3) (T := TX3) (N := 7) hx hb hts (fun _ h => List.mem_cons_of_mem _ (List.mem_append_right _ h)) hown hK.1 hP 1 rfl rfl 0 (by decide) (hts (.fieldLink RX0 43 "CutAtlas$Net" "places" "I") (List.mem_of_getElem? (i := 3) rfl)) (fun _ h9 => h9) rfl dB_36_0_5.1.2.2.2 ?_
        have cl_59 := clI (i := vp) (by omega)
        have cl_60 := clI (i := (0 : Int32)) (by omega)
        refine va_copyi hx hb (by rw [hml]; exact hl.1.symm) hown (hts (.methodLink RX0 83 arraycopyName) (List.mem_of_getElem? (i := 6) rfl)) (hts (.native arraycopyName) (List.mem_of_getElem? (i := 7) rfl)) (hts (.static arraycopyName) (List.mem_of_getElem? (i := 8) rfl)) (hts (.initialized "java/lang/System") (List.mem_of_getElem? (i := 9) rfl)) hK.1 hP hD hS 9 22 0 0 rfl rfl rfl rfl rfl (sp := (0 : Int32)) (dp := (0 : Int32)) (n := vp) (nneg (by omega)) (nneg (by omega)) (nneg (by omega)) (by omega) (by omega) (fun i h => rfl) (Nat.le_of_ble_eq_true rfl) (Nat.le_of_ble_eq_true rfl) dB_36_0_5.2.1.1.1 (fun H locs hP hD hS => ?_)
        obtain ⟨f_61, ef_61⟩ : ∃ g : Nat → Int32, g = va_cpy (Ml 4) (m_rr_4 4) (0 : Int32).toNatClampNeg (0 : Int32).toNatClampNeg vp.toNatClampNeg := ⟨_, rfl⟩
        refine pd_K (D := D) (cl := vwCl) (H := H) (A := A) [ob0_0_ xc xn xk clo cro c4 c5 c6 c7 c8, ob3_0_ xn vp vn n1 n2 n3 n4 n5, ai_ cy n2 40 fs, ai_ cy n3 40 fe, aq_ cy 6 clo 12 (gf_ rl), ai_ cy (rl 0) 12 (Ml 0), ai_ cy (rl 1) 12 (Ml 1), ai_ cy (rl 2) 12 (Ml 2), ai_ cy (rl 3) 12 (Ml 3), ai_ cy (rl 4) 12 (Ml 4), ai_ cy (rl 5) 12 (Ml 5), ai_ cy (rl 6) 12 (Ml 6), ai_ cy (rl 7) 12 (Ml 7), ai_ cy (rl 8) 12 (Ml 8), ai_ cy (rl 9) 12 (Ml 9), ai_ cy (rl 10) 12 (Ml 10), ai_ cy (rl 11) 12 (Ml 11), aq_ cy 6 cro 12 (gf_ rr), ai_ cy (rr 0) 12 (m_rr_4 0), ai_ cy (rr 1) 12 (m_rr_4 1), ai_ cy (rr 2) 12 (m_rr_4 2), ai_ cy (rr 3) 12 (m_rr_4 3), ai_ cy (rr 4) 12 f_61, ai_ cy (rr 5) 12 (m_rr_4 5), ai_ cy (rr 6) 12 (m_rr_4 6), ai_ cy (rr 7) 12 (m_rr_4 7), ai_ cy (rr 8) 12 (m_rr_4 8), ai_ cy (rr 9) 12 (m_rr_4 9), ai_ cy (rr 10) 12 (m_rr_4 10), ai_ cy (rr 11) 12 (m_rr_4 11), ai_ cy c4 40 e1_2, ai_ cy c5 40 f5, ai_ cy c6 40 f6, ai_ cy c7 12 f7, ai_ cy c8 12 f8] (by rw [ef_61]; exact hP) (by rw [ef_61]; exact hD) (fun hP hD => ?_)
        obtain ⟨M_62, eM_62⟩ : ∃ g : Nat → Nat → Int32, g = va_up m_rr_4 4 f_61 := ⟨_, rfl⟩
        refine pd_K (D := D) (cl := vwCl) (H := H) (A := A) [ob0_0_ xc xn xk clo cro c4 c5 c6 c7 c8, ob3_0_ xn vp vn n1 n2 n3 n4 n5, ai_ cy n2 40 fs, ai_ cy n3 40 fe, aq_ cy 6 clo 12 (gf_ rl), ai_ cy (rl 0) 12 (Ml 0), ai_ cy (rl 1) 12 (Ml 1), ai_ cy (rl 2) 12 (Ml 2), ai_ cy (rl 3) 12 (Ml 3), ai_ cy (rl 4) 12 (Ml 4), ai_ cy (rl 5) 12 (Ml 5), ai_ cy (rl 6) 12 (Ml 6), ai_ cy (rl 7) 12 (Ml 7), ai_ cy (rl 8) 12 (Ml 8), ai_ cy (rl 9) 12 (Ml 9), ai_ cy (rl 10) 12 (Ml 10), ai_ cy (rl 11) 12 (Ml 11), aq_ cy 6 cro 12 (gf_ rr), ai_ cy (rr 0) 12 (M_62 0), ai_ cy (rr 1) 12 (M_62 1), ai_ cy (rr 2) 12 (M_62 2), ai_ cy (rr 3) 12 (M_62 3), ai_ cy (rr 4) 12 (M_62 4), ai_ cy (rr 5) 12 (M_62 5), ai_ cy (rr 6) 12 (M_62 6), ai_ cy (rr 7) 12 (M_62 7), ai_ cy (rr 8) 12 (M_62 8), ai_ cy (rr 9) 12 (M_62 9), ai_ cy (rr 10) 12 (M_62 10), ai_ cy (rr 11) 12 (M_62 11), ai_ cy c4 40 e1_2, ai_ cy c5 40 f5, ai_ cy c6 40 f6, ai_ cy c7 12 f7, ai_ cy c8 12 f8] (by rw [eM_62]; exact hP) (by rw [eM_62]; exact hD) (fun hP hD => ?_)
        obtain ⟨y_63, ey_63⟩ : ∃ y : Int32, y = (4 : Int32) + 1 := ⟨_, rfl⟩
        have ty_63 : y_63.toInt = (4 : Int32).toInt + (1 : Int32).toInt := by rw [ey_63]; exact addI (by omega) (by omega)
        refine lv_iinc (v := y_63) (lv' := [(3, .int y_63), (0, .ref xc), (1, .int a1), (2, .int a2)]) hx hb dB_36_0_5.2.1.1.2 hl (k := 0) rfl (by rw [ey_63]; rfl) (by decide) rfl (fun ls hl => ?_)
        refine lv_goto (tgt := 10) hx hb dB_36_0_5.2.1.2.1 (by decide) ?_
        exact ih_4 y_63 M_62 _ _ _ (by omega) (by first | with_reducible assumption | omega | assumption) (by first | with_reducible assumption | omega | assumption) (by first | exact cp_st eM_62 v2_4 (by assumption) (by decide) (by omega) | (intro x y hx; omega)) ⟨hP, hD⟩ hS (lv_sub hl [0, 1, 2, 3] rfl)
      · refine lv_aload_n hx hb dB_36_0_4.2.1.2.2 rfl (lv_at hl 1 rfl) ?_
        refine va_get (ci := 0) (v := .ref clo) (C := RX0) (T := TX0) (N := 9) hx hb hts (fun _ h => List.mem_cons_of_mem _ (List.mem_append_left _ (List.mem_append_right _ h))) hown hK.1 hP 0 rfl rfl 2 (by decide) (hts (.fieldLink RX0 11 "CutAtlas$Current" "lets" "[[I") (List.mem_of_getElem? (i := 4) rfl)) (fun _ h9 => h9) rfl dB_36_0_4.2.2.1.1 ?_
        refine lv_iload_n hx hb dB_36_0_4.2.2.1.2 rfl (lv_at hl 0 rfl) ?_
        have h_64 : vp_in (5 : Int32) 12 := by unfold vp_in; decide
        refine va_alda hx hb hG hP 4 rfl (i := 5) h_64 dB_36_0_4.2.2.2.1 ?_
        refine lv_topv (v' := .ref (rl 5)) (gf_at h_64) ?_
        refine lv_iconst (v := 0) hx hb dB_36_0_4.2.2.2.2 (by decide) ?_
        refine lv_aload_n hx hb dB_36_0_5.1.1.1.1 rfl (lv_at hl 1 rfl) ?_
        refine va_get (ci := 0) (v := .ref cro) (C := RX0) (T := TX0) (N := 9) hx hb hts (fun _ h => List.mem_cons_of_mem _ (List.mem_append_left _ (List.mem_append_right _ h))) hown hK.1 hP 0 rfl rfl 3 (by decide) (hts (.fieldLink RX0 16 "CutAtlas$Current" "room" "[[I") (List.mem_of_getElem? (i := 5) rfl)) (fun _ h9 => h9) rfl dB_36_0_5.1.1.1.2 ?_
        refine lv_iload_n hx hb dB_36_0_5.1.1.2.1 rfl (lv_at hl 0 rfl) ?_
        refine va_alda hx hb hG hP 17 rfl (i := 5) h_64 dB_36_0_5.1.1.2.2 ?_
        refine lv_topv (v' := .ref (rr 5)) (gf_at h_64) ?_
        refine lv_iconst (v := 0) hx hb dB_36_0_5.1.2.1.1 (by decide) ?_
        refine lv_aload_n hx hb dB_36_0_5.1.2.1.2 rfl (lv_at hl 1 rfl) ?_
        refine va_get (ci := 0) (v := .ref xn) (C := RX0) (T := TX0) (N := 9) hx hb hts (fun _ h => List.mem_cons_of_mem _ (List.mem_append_left _ (List.mem_append_right _ h))) hown hK.1 hP 0 rfl rfl 0 (by decide) (hts (.fieldLink RX0 35 "CutAtlas$Current" "net" "LCutAtlas$Net;") (List.mem_of_getElem? (i := 2) rfl)) (fun _ h9 => h9) rfl dB_36_0_5.1.2.2.1 ?_
        refine va_get (ci := 3) (v := .int vp) (C := RX3) (T := TX3) (N := 7) hx hb hts (fun _ h => List.mem_cons_of_mem _ (List.mem_append_right _ h)) hown hK.1 hP 1 rfl rfl 0 (by decide) (hts (.fieldLink RX0 43 "CutAtlas$Net" "places" "I") (List.mem_of_getElem? (i := 3) rfl)) (fun _ h9 => h9) rfl dB_36_0_5.1.2.2.2 ?_
        have cl_66 := clI (i := vp) (by omega)
        have cl_67 := clI (i := (0 : Int32)) (by omega)
        refine va_copyi hx hb (by rw [hml]; exact hl.1.symm) hown (hts (.methodLink RX0 83 arraycopyName) (List.mem_of_getElem? (i := 6) rfl)) (hts (.native arraycopyName) (List.mem_of_getElem? (i := 7) rfl)) (hts (.static arraycopyName) (List.mem_of_getElem? (i := 8) rfl)) (hts (.initialized "java/lang/System") (List.mem_of_getElem? (i := 9) rfl)) hK.1 hP hD hS 10 23 0 0 rfl rfl rfl rfl rfl (sp := (0 : Int32)) (dp := (0 : Int32)) (n := vp) (nneg (by omega)) (nneg (by omega)) (nneg (by omega)) (by omega) (by omega) (fun i h => rfl) (Nat.le_of_ble_eq_true rfl) (Nat.le_of_ble_eq_true rfl) dB_36_0_5.2.1.1.1 (fun H locs hP hD hS => ?_)
        obtain ⟨f_68, ef_68⟩ : ∃ g : Nat → Int32, g = va_cpy (Ml 5) (m_rr_4 5) (0 : Int32).toNatClampNeg (0 : Int32).toNatClampNeg vp.toNatClampNeg := ⟨_, rfl⟩
        refine pd_K (D := D) (cl := vwCl) (H := H) (A := A) [ob0_0_ xc xn xk clo cro c4 c5 c6 c7 c8, ob3_0_ xn vp vn n1 n2 n3 n4 n5, ai_ cy n2 40 fs, ai_ cy n3 40 fe, aq_ cy 6 clo 12 (gf_ rl), ai_ cy (rl 0) 12 (Ml 0), ai_ cy (rl 1) 12 (Ml 1), ai_ cy (rl 2) 12 (Ml 2), ai_ cy (rl 3) 12 (Ml 3), ai_ cy (rl 4) 12 (Ml 4), ai_ cy (rl 5) 12 (Ml 5), ai_ cy (rl 6) 12 (Ml 6), ai_ cy (rl 7) 12 (Ml 7), ai_ cy (rl 8) 12 (Ml 8), ai_ cy (rl 9) 12 (Ml 9), ai_ cy (rl 10) 12 (Ml 10), ai_ cy (rl 11) 12 (Ml 11), aq_ cy 6 cro 12 (gf_ rr), ai_ cy (rr 0) 12 (m_rr_4 0), ai_ cy (rr 1) 12 (m_rr_4 1), ai_ cy (rr 2) 12 (m_rr_4 2), ai_ cy (rr 3) 12 (m_rr_4 3), ai_ cy (rr 4) 12 (m_rr_4 4), ai_ cy (rr 5) 12 f_68, ai_ cy (rr 6) 12 (m_rr_4 6), ai_ cy (rr 7) 12 (m_rr_4 7), ai_ cy (rr 8) 12 (m_rr_4 8), ai_ cy (rr 9) 12 (m_rr_4 9), ai_ cy (rr 10) 12 (m_rr_4 10), ai_ cy (rr 11) 12 (m_rr_4 11), ai_ cy c4 40 e1_2, ai_ cy c5 40 f5, ai_ cy c6 40 f6, ai_ cy c7 12 f7, ai_ cy c8 12 f8] (by rw [ef_68]; exact hP) (by rw [ef_68]; exact hD) (fun hP hD => ?_)
        obtain ⟨M_69, eM_69⟩ : ∃ g : Nat → Nat → Int32, g = va_up m_rr_4 5 f_68 := ⟨_, rfl⟩
        refine pd_K (D := D) (cl := vwCl) (H := H) (A := A) [ob0_0_ xc xn xk clo cro c4 c5 c6 c7 c8, ob3_0_ xn vp vn n1 n2 n3 n4 n5, ai_ cy n2 40 fs, ai_ cy n3 40 fe, aq_ cy 6 clo 12 (gf_ rl), ai_ cy (rl 0) 12 (Ml 0), ai_ cy (rl 1) 12 (Ml 1), ai_ cy (rl 2) 12 (Ml 2), ai_ cy (rl 3) 12 (Ml 3), ai_ cy (rl 4) 12 (Ml 4), ai_ cy (rl 5) 12 (Ml 5), ai_ cy (rl 6) 12 (Ml 6), ai_ cy (rl 7) 12 (Ml 7), ai_ cy (rl 8) 12 (Ml 8), ai_ cy (rl 9) 12 (Ml 9), ai_ cy (rl 10) 12 (Ml 10), ai_ cy (rl 11) 12 (Ml 11), aq_ cy 6 cro 12 (gf_ rr), ai_ cy (rr 0) 12 (M_69 0), ai_ cy (rr 1) 12 (M_69 1), ai_ cy (rr 2) 12 (M_69 2), ai_ cy (rr 3) 12 (M_69 3), ai_ cy (rr 4) 12 (M_69 4), ai_ cy (rr 5) 12 (M_69 5), ai_ cy (rr 6) 12 (M_69 6), ai_ cy (rr 7) 12 (M_69 7), ai_ cy (rr 8) 12 (M_69 8), ai_ cy (rr 9) 12 (M_69 9), ai_ cy (rr 10) 12 (M_69 10), ai_ cy (rr 11) 12 (M_69 11), ai_ cy c4 40 e1_2, ai_ cy c5 40 f5, ai_ cy c6 40 f6, ai_ cy c7 12 f7, ai_ cy c8 12 f8] (by rw [eM_69]; exact hP) (by rw [eM_69]; exact hD) (fun hP hD => ?_)
        obtain ⟨y_70, ey_70⟩ : ∃ y : Int32, y = (5 : Int32) + 1 := ⟨_, rfl⟩
        have ty_70 : y_70.toInt = (5 : Int32).toInt + (1 : Int32).toInt := by rw [ey_70]; exact addI (by omega) (by omega)
        refine lv_iinc (v := y_70) (lv' := [(3, .int y_70), (0, .ref xc), (1, .int a1), (2, .int a2)]) hx hb dB_36_0_5.2.1.1.2 hl (k := 0) rfl (by rw [ey_70]; rfl) (by decide) rfl (fun ls hl => ?_)
        refine lv_goto (tgt := 10) hx hb dB_36_0_5.2.1.2.1 (by decide) ?_
        exact ih_4 y_70 M_69 _ _ _ (by omega) (by first | with_reducible assumption | omega | assumption) (by first | with_reducible assumption | omega | assumption) (by first | exact cp_st eM_69 v2_4 (by assumption) (by decide) (by omega) | (intro x y hx; omega)) ⟨hP, hD⟩ hS (lv_sub hl [0, 1, 2, 3] rfl)
      · refine lv_aload_n hx hb dB_36_0_4.2.1.2.2 rfl (lv_at hl 1 rfl) ?_
        refine va_get (ci := 0) (v := .ref clo) (C := RX0) (T := TX0) (N := 9) hx hb hts (fun _ h => List.mem_cons_of_mem _ (List.mem_append_left _ (List.mem_append_right _ h))) hown hK.1 hP 0 rfl rfl 2 (by decide) (hts (.fieldLink RX0 11 "CutAtlas$Current" "lets" "[[I") (List.mem_of_getElem? (i := 4) rfl)) (fun _ h9 => h9) rfl dB_36_0_4.2.2.1.1 ?_
        refine lv_iload_n hx hb dB_36_0_4.2.2.1.2 rfl (lv_at hl 0 rfl) ?_
        have h_71 : vp_in (6 : Int32) 12 := by unfold vp_in; decide
        refine va_alda hx hb hG hP 4 rfl (i := 6) h_71 dB_36_0_4.2.2.2.1 ?_
        refine lv_topv (v' := .ref (rl 6)) (gf_at h_71) ?_
        refine lv_iconst (v := 0) hx hb dB_36_0_4.2.2.2.2 (by decide) ?_
        refine lv_aload_n hx hb dB_36_0_5.1.1.1.1 rfl (lv_at hl 1 rfl) ?_
        refine va_get (ci := 0) (v := .ref cro) (C := RX0) (T := TX0) (N := 9) hx hb hts (fun _ h => List.mem_cons_of_mem _ (List.mem_append_left _ (List.mem_append_right _ h))) hown hK.1 hP 0 rfl rfl 3 (by decide) (hts (.fieldLink RX0 16 "CutAtlas$Current" "room" "[[I") (List.mem_of_getElem? (i := 5) rfl)) (fun _ h9 => h9) rfl dB_36_0_5.1.1.1.2 ?_
        refine lv_iload_n hx hb dB_36_0_5.1.1.2.1 rfl (lv_at hl 0 rfl) ?_
        refine va_alda hx hb hG hP 17 rfl (i := 6) h_71 dB_36_0_5.1.1.2.2 ?_
        refine lv_topv (v' := .ref (rr 6)) (gf_at h_71) ?_
        refine lv_iconst (v := 0) hx hb dB_36_0_5.1.2.1.1 (by decide) ?_
        refine lv_aload_n hx hb dB_36_0_5.1.2.1.2 rfl (lv_at hl 1 rfl) ?_
        refine va_get (ci := 0) (v := .ref xn) (C := RX0) (T := TX0) (N := 9) hx hb hts (fun _ h => List.mem_cons_of_mem _ (List.mem_append_left _ (List.mem_append_right _ h))) hown hK.1 hP 0 rfl rfl 0 (by decide) (hts (.fieldLink RX0 35 "CutAtlas$Current" "net" "LCutAtlas$Net;") (List.mem_of_getElem? (i := 2) rfl)) (fun _ h9 => h9) rfl dB_36_0_5.1.2.2.1 ?_
        refine va_get (ci := 3) (v := .int vp) (C := RX3) (T := TX3) (N := 7) hx hb hts (fun _ h => List.mem_cons_of_mem _ (List.mem_append_right _ h)) hown hK.1 hP 1 rfl rfl 0 (by decide) (hts (.fieldLink RX0 43 "CutAtlas$Net" "places" "I") (List.mem_of_getElem? (i := 3) rfl)) (fun _ h9 => h9) rfl dB_36_0_5.1.2.2.2 ?_
        have cl_73 := clI (i := vp) (by omega)
        have cl_74 := clI (i := (0 : Int32)) (by omega)
        refine va_copyi hx hb (by rw [hml]; exact hl.1.symm) hown (hts (.methodLink RX0 83 arraycopyName) (List.mem_of_getElem? (i := 6) rfl)) (hts (.native arraycopyName) (List.mem_of_getElem? (i := 7) rfl)) (hts (.static arraycopyName) (List.mem_of_getElem? (i := 8) rfl)) (hts (.initialized "java/lang/System") (List.mem_of_getElem? (i := 9) rfl)) hK.1 hP hD hS 11 24 0 0 rfl rfl rfl rfl rfl (sp := (0 : Int32)) (dp := (0 : Int32)) (n := vp) (nneg (by omega)) (nneg (by omega)) (nneg (by omega)) (by omega) (by omega) (fun i h => rfl) (Nat.le_of_ble_eq_true rfl) (Nat.le_of_ble_eq_true rfl) dB_36_0_5.2.1.1.1 (fun H locs hP hD hS => ?_)
        obtain ⟨f_75, ef_75⟩ : ∃ g : Nat → Int32, g = va_cpy (Ml 6) (m_rr_4 6) (0 : Int32).toNatClampNeg (0 : Int32).toNatClampNeg vp.toNatClampNeg := ⟨_, rfl⟩
        refine pd_K (D := D) (cl := vwCl) (H := H) (A := A) [ob0_0_ xc xn xk clo cro c4 c5 c6 c7 c8, ob3_0_ xn vp vn n1 n2 n3 n4 n5, ai_ cy n2 40 fs, ai_ cy n3 40 fe, aq_ cy 6 clo 12 (gf_ rl), ai_ cy (rl 0) 12 (Ml 0), ai_ cy (rl 1) 12 (Ml 1), ai_ cy (rl 2) 12 (Ml 2), ai_ cy (rl 3) 12 (Ml 3), ai_ cy (rl 4) 12 (Ml 4), ai_ cy (rl 5) 12 (Ml 5), ai_ cy (rl 6) 12 (Ml 6), ai_ cy (rl 7) 12 (Ml 7), ai_ cy (rl 8) 12 (Ml 8), ai_ cy (rl 9) 12 (Ml 9), ai_ cy (rl 10) 12 (Ml 10), ai_ cy (rl 11) 12 (Ml 11), aq_ cy 6 cro 12 (gf_ rr), ai_ cy (rr 0) 12 (m_rr_4 0), ai_ cy (rr 1) 12 (m_rr_4 1), ai_ cy (rr 2) 12 (m_rr_4 2), ai_ cy (rr 3) 12 (m_rr_4 3), ai_ cy (rr 4) 12 (m_rr_4 4), ai_ cy (rr 5) 12 (m_rr_4 5), ai_ cy (rr 6) 12 f_75, ai_ cy (rr 7) 12 (m_rr_4 7), ai_ cy (rr 8) 12 (m_rr_4 8), ai_ cy (rr 9) 12 (m_rr_4 9), ai_ cy (rr 10) 12 (m_rr_4 10), ai_ cy (rr 11) 12 (m_rr_4 11), ai_ cy c4 40 e1_2, ai_ cy c5 40 f5, ai_ cy c6 40 f6, ai_ cy c7 12 f7, ai_ cy c8 12 f8] (by rw [ef_75]; exact hP) (by rw [ef_75]; exact hD) (fun hP hD => ?_)
        obtain ⟨M_76, eM_76⟩ : ∃ g : Nat → Nat → Int32, g = va_up m_rr_4 6 f_75 := ⟨_, rfl⟩
        refine pd_K (D := D) (cl := vwCl) (H := H) (A := A) [ob0_0_ xc xn xk clo cro c4 c5 c6 c7 c8, ob3_0_ xn vp vn n1 n2 n3 n4 n5, ai_ cy n2 40 fs, ai_ cy n3 40 fe, aq_ cy 6 clo 12 (gf_ rl), ai_ cy (rl 0) 12 (Ml 0), ai_ cy (rl 1) 12 (Ml 1), ai_ cy (rl 2) 12 (Ml 2), ai_ cy (rl 3) 12 (Ml 3), ai_ cy (rl 4) 12 (Ml 4), ai_ cy (rl 5) 12 (Ml 5), ai_ cy (rl 6) 12 (Ml 6), ai_ cy (rl 7) 12 (Ml 7), ai_ cy (rl 8) 12 (Ml 8), ai_ cy (rl 9) 12 (Ml 9), ai_ cy (rl 10) 12 (Ml 10), ai_ cy (rl 11) 12 (Ml 11), aq_ cy 6 cro 12 (gf_ rr), ai_ cy (rr 0) 12 (M_76 0), ai_ cy (rr 1) 12 (M_76 1), ai_ cy (rr 2) 12 (M_76 2), ai_ cy (rr 3) 12 (M_76 3), ai_ cy (rr 4) 12 (M_76 4), ai_ cy (rr 5) 12 (M_76 5), ai_ cy (rr 6) 12 (M_76 6), ai_ cy (rr 7) 12 (M_76 7), ai_ cy (rr 8) 12 (M_76 8), ai_ cy (rr 9) 12 (M_76 9), ai_ cy (rr 10) 12 (M_76 10), ai_ cy (rr 11) 12 (M_76 11), ai_ cy c4 40 e1_2, ai_ cy c5 40 f5, ai_ cy c6 40 f6, ai_ cy c7 12 f7, ai_ cy c8 12 f8] (by rw [eM_76]; exact hP) (by rw [eM_76]; exact hD) (fun hP hD => ?_)
        obtain ⟨y_77, ey_77⟩ : ∃ y : Int32, y = (6 : Int32) + 1 := ⟨_, rfl⟩
        have ty_77 : y_77.toInt = (6 : Int32).toInt + (1 : Int32).toInt := by rw [ey_77]; exact addI (by omega) (by omega)
        refine lv_iinc (v := y_77) (lv' := [(3, .int y_77), (0, .ref xc), (1, .int a1), (2, .int a2)]) hx hb dB_36_0_5.2.1.1.2 hl (k := 0) rfl (by rw [ey_77]; rfl) (by decide) rfl (fun ls hl => ?_)
        refine lv_goto (tgt := 10) hx hb dB_36_0_5.2.1.2.1 (by decide) ?_
        exact ih_4 y_77 M_76 _ _ _ (by omega) (by first | with_reducible assumption | omega | assumption) (by first | with_reducible assumption | omega | assumption) (by first | exact cp_st eM_76 v2_4 (by assumption) (by decide) (by omega) | (intro x y hx; omega)) ⟨hP, hD⟩ hS (lv_sub hl [0, 1, 2, 3] rfl)
      · refine lv_aload_n hx hb dB_36_0_4.2.1.2.2 rfl (lv_at hl 1 rfl) ?_
        refine va_get (ci := 0) (v := .ref clo) (C := RX0) (T := TX0) (N := 9) hx hb hts (fun _ h => List.mem_cons_of_mem _ (List.mem_append_left _ (List.mem_append_right _ h))) hown hK.1 hP 0 rfl rfl 2 (by decide) (hts (.fieldLink RX0 11 "CutAtlas$Current" "lets" "[[I") (List.mem_of_getElem? (i := 4) rfl)) (fun _ h9 => h9) rfl dB_36_0_4.2.2.1.1 ?_
        refine lv_iload_n hx hb dB_36_0_4.2.2.1.2 rfl (lv_at hl 0 rfl) ?_
        have h_78 : vp_in (7 : Int32) 12 := by unfold vp_in; decide
        refine va_alda hx hb hG hP 4 rfl (i := 7) h_78 dB_36_0_4.2.2.2.1 ?_
        refine lv_topv (v' := .ref (rl 7)) (gf_at h_78) ?_
        refine lv_iconst (v := 0) hx hb dB_36_0_4.2.2.2.2 (by decide) ?_
        refine lv_aload_n hx hb dB_36_0_5.1.1.1.1 rfl (lv_at hl 1 rfl) ?_
        refine va_get (ci := 0) (v := .ref cro) (C := RX0) (T := TX0) (N := 9) hx hb hts (fun _ h => List.mem_cons_of_mem _ (List.mem_append_left _ (List.mem_append_right _ h))) hown hK.1 hP 0 rfl rfl 3 (by decide) (hts (.fieldLink RX0 16 "CutAtlas$Current" "room" "[[I") (List.mem_of_getElem? (i := 5) rfl)) (fun _ h9 => h9) rfl dB_36_0_5.1.1.1.2 ?_
        refine lv_iload_n hx hb dB_36_0_5.1.1.2.1 rfl (lv_at hl 0 rfl) ?_
        refine va_alda hx hb hG hP 17 rfl (i := 7) h_78 dB_36_0_5.1.1.2.2 ?_
        refine lv_topv (v' := .ref (rr 7)) (gf_at h_78) ?_
        refine lv_iconst (v := 0) hx hb dB_36_0_5.1.2.1.1 (by decide) ?_
        refine lv_aload_n hx hb dB_36_0_5.1.2.1.2 rfl (lv_at hl 1 rfl) ?_
        refine va_get (ci := 0) (v := .ref xn) (C := RX0) (T := TX0) (N := 9) hx hb hts (fun _ h => List.mem_cons_of_mem _ (List.mem_append_left _ (List.mem_append_right _ h))) hown hK.1 hP 0 rfl rfl 0 (by decide) (hts (.fieldLink RX0 35 "CutAtlas$Current" "net" "LCutAtlas$Net;") (List.mem_of_getElem? (i := 2) rfl)) (fun _ h9 => h9) rfl dB_36_0_5.1.2.2.1 ?_
        refine va_get (ci := 3) (v := .int vp) (C := RX3) (T := TX3) (N := 7) hx hb hts (fun _ h => List.mem_cons_of_mem _ (List.mem_append_right _ h)) hown hK.1 hP 1 rfl rfl 0 (by decide) (hts (.fieldLink RX0 43 "CutAtlas$Net" "places" "I") (List.mem_of_getElem? (i := 3) rfl)) (fun _ h9 => h9) rfl dB_36_0_5.1.2.2.2 ?_
        have cl_80 := clI (i := vp) (by omega)
        have cl_81 := clI (i := (0 : Int32)) (by omega)
        refine va_copyi hx hb (by rw [hml]; exact hl.1.symm) hown (hts (.methodLink RX0 83 arraycopyName) (List.mem_of_getElem? (i := 6) rfl)) (hts (.native arraycopyName) (List.mem_of_getElem? (i := 7) rfl)) (hts (.static arraycopyName) (List.mem_of_getElem? (i := 8) rfl)) (hts (.initialized "java/lang/System") (List.mem_of_getElem? (i := 9) rfl)) hK.1 hP hD hS 12 25 0 0 rfl rfl rfl rfl rfl (sp := (0 : Int32)) (dp := (0 : Int32)) (n := vp) (nneg (by omega)) (nneg (by omega)) (nneg (by omega)) (by omega) (by omega) (fun i h => rfl) (Nat.le_of_ble_eq_true rfl) (Nat.le_of_ble_eq_true rfl) dB_36_0_5.2.1.1.1 (fun H locs hP hD hS => ?_)
        obtain ⟨f_82, ef_82⟩ : ∃ g : Nat → Int32, g = va_cpy (Ml 7) (m_rr_4 7) (0 : Int32).toNatClampNeg (0 : Int32).toNatClampNeg vp.toNatClampNeg := ⟨_, rfl⟩
        refine pd_K (D := D) (cl := vwCl) (H := H) (A := A) [ob0_0_ xc xn xk clo cro c4 c5 c6 c7 c8, ob3_0_ xn vp vn n1 n2 n3 n4 n5, ai_ cy n2 40 fs, ai_ cy n3 40 fe, aq_ cy 6 clo 12 (gf_ rl), ai_ cy (rl 0) 12 (Ml 0), ai_ cy (rl 1) 12 (Ml 1), ai_ cy (rl 2) 12 (Ml 2), ai_ cy (rl 3) 12 (Ml 3), ai_ cy (rl 4) 12 (Ml 4), ai_ cy (rl 5) 12 (Ml 5), ai_ cy (rl 6) 12 (Ml 6), ai_ cy (rl 7) 12 (Ml 7), ai_ cy (rl 8) 12 (Ml 8), ai_ cy (rl 9) 12 (Ml 9), ai_ cy (rl 10) 12 (Ml 10), ai_ cy (rl 11) 12 (Ml 11), aq_ cy 6 cro 12 (gf_ rr), ai_ cy (rr 0) 12 (m_rr_4 0), ai_ cy (rr 1) 12 (m_rr_4 1), ai_ cy (rr 2) 12 (m_rr_4 2), ai_ cy (rr 3) 12 (m_rr_4 3), ai_ cy (rr 4) 12 (m_rr_4 4), ai_ cy (rr 5) 12 (m_rr_4 5), ai_ cy (rr 6) 12 (m_rr_4 6), ai_ cy (rr 7) 12 f_82, ai_ cy (rr 8) 12 (m_rr_4 8), ai_ cy (rr 9) 12 (m_rr_4 9), ai_ cy (rr 10) 12 (m_rr_4 10), ai_ cy (rr 11) 12 (m_rr_4 11), ai_ cy c4 40 e1_2, ai_ cy c5 40 f5, ai_ cy c6 40 f6, ai_ cy c7 12 f7, ai_ cy c8 12 f8] (by rw [ef_82]; exact hP) (by rw [ef_82]; exact hD) (fun hP hD => ?_)
        obtain ⟨M_83, eM_83⟩ : ∃ g : Nat → Nat → Int32, g = va_up m_rr_4 7 f_82 := ⟨_, rfl⟩
        refine pd_K (D := D) (cl := vwCl) (H := H) (A := A) [ob0_0_ xc xn xk clo cro c4 c5 c6 c7 c8, ob3_0_ xn vp vn n1 n2 n3 n4 n5, ai_ cy n2 40 fs, ai_ cy n3 40 fe, aq_ cy 6 clo 12 (gf_ rl), ai_ cy (rl 0) 12 (Ml 0), ai_ cy (rl 1) 12 (Ml 1), ai_ cy (rl 2) 12 (Ml 2), ai_ cy (rl 3) 12 (Ml 3), ai_ cy (rl 4) 12 (Ml 4), ai_ cy (rl 5) 12 (Ml 5), ai_ cy (rl 6) 12 (Ml 6), ai_ cy (rl 7) 12 (Ml 7), ai_ cy (rl 8) 12 (Ml 8), ai_ cy (rl 9) 12 (Ml 9), ai_ cy (rl 10) 12 (Ml 10), ai_ cy (rl 11) 12 (Ml 11), aq_ cy 6 cro 12 (gf_ rr), ai_ cy (rr 0) 12 (M_83 0), ai_ cy (rr 1) 12 (M_83 1), ai_ cy (rr 2) 12 (M_83 2), ai_ cy (rr 3) 12 (M_83 3), ai_ cy (rr 4) 12 (M_83 4), ai_ cy (rr 5) 12 (M_83 5), ai_ cy (rr 6) 12 (M_83 6), ai_ cy (rr 7) 12 (M_83 7), ai_ cy (rr 8) 12 (M_83 8), ai_ cy (rr 9) 12 (M_83 9), ai_ cy (rr 10) 12 (M_83 10), ai_ cy (rr 11) 12 (M_83 11), ai_ cy c4 40 e1_2, ai_ cy c5 40 f5, ai_ cy c6 40 f6, ai_ cy c7 12 f7, ai_ cy c8 12 f8] (by rw [eM_83]; exact hP) (by rw [eM_83]; exact hD) (fun hP hD => ?_)
        obtain ⟨y_84, ey_84⟩ : ∃ y : Int32, y = (7 : Int32) + 1 := ⟨_, rfl⟩
        have ty_84 : y_84.toInt = (7 : Int32).toInt + (1 : Int32).toInt := by rw [ey_84]; exact addI (by omega) (by omega)
        refine lv_iinc (v := y_84) (lv' := [(3, .int y_84), (0, .ref xc), (1, .int a1), (2, .int a2)]) hx hb dB_36_0_5.2.1.1.2 hl (k := 0) rfl (by rw [ey_84]; rfl) (by decide) rfl (fun ls hl => ?_)
        refine lv_goto (tgt := 10) hx hb dB_36_0_5.2.1.2.1 (by decide) ?_
        exact ih_4 y_84 M_83 _ _ _ (by omega) (by first | with_reducible assumption | omega | assumption) (by first | with_reducible assumption | omega | assumption) (by first | exact cp_st eM_83 v2_4 (by assumption) (by decide) (by omega) | (intro x y hx; omega)) ⟨hP, hD⟩ hS (lv_sub hl [0, 1, 2, 3] rfl)
      · refine lv_aload_n hx hb dB_36_0_4.2.1.2.2 rfl (lv_at hl 1 rfl) ?_
        refine va_get (ci := 0) (v := .ref clo) (C := RX0) (T := TX0) (N := 9) hx hb hts (fun _ h => List.mem_cons_of_mem _ (List.mem_append_left _ (List.mem_append_right _ h))) hown hK.1 hP 0 rfl rfl 2 (by decide) (hts (.fieldLink RX0 11 "CutAtlas$Current" "lets" "[[I") (List.mem_of_getElem? (i := 4) rfl)) (fun _ h9 => h9) rfl dB_36_0_4.2.2.1.1 ?_
        refine lv_iload_n hx hb dB_36_0_4.2.2.1.2 rfl (lv_at hl 0 rfl) ?_
        have h_85 : vp_in (8 : Int32) 12 := by unfold vp_in; decide
        refine va_alda hx hb hG hP 4 rfl (i := 8) h_85 dB_36_0_4.2.2.2.1 ?_
        refine lv_topv (v' := .ref (rl 8)) (gf_at h_85) ?_
        refine lv_iconst (v := 0) hx hb dB_36_0_4.2.2.2.2 (by decide) ?_
        refine lv_aload_n hx hb dB_36_0_5.1.1.1.1 rfl (lv_at hl 1 rfl) ?_
        refine va_get (ci := 0) (v := .ref cro) (C := RX0) (T := TX0) (N := 9) hx hb hts (fun _ h => List.mem_cons_of_mem _ (List.mem_append_left _ (List.mem_append_right _ h))) hown hK.1 hP 0 rfl rfl 3 (by decide) (hts (.fieldLink RX0 16 "CutAtlas$Current" "room" "[[I") (List.mem_of_getElem? (i := 5) rfl)) (fun _ h9 => h9) rfl dB_36_0_5.1.1.1.2 ?_
        refine lv_iload_n hx hb dB_36_0_5.1.1.2.1 rfl (lv_at hl 0 rfl) ?_
        refine va_alda hx hb hG hP 17 rfl (i := 8) h_85 dB_36_0_5.1.1.2.2 ?_
        refine lv_topv (v' := .ref (rr 8)) (gf_at h_85) ?_
        refine lv_iconst (v := 0) hx hb dB_36_0_5.1.2.1.1 (by decide) ?_
        refine lv_aload_n hx hb dB_36_0_5.1.2.1.2 rfl (lv_at hl 1 rfl) ?_
        refine va_get (ci := 0) (v := .ref xn) (C := RX0) (T := TX0) (N := 9) hx hb hts (fun _ h => List.mem_cons_of_mem _ (List.mem_append_left _ (List.mem_append_right _ h))) hown hK.1 hP 0 rfl rfl 0 (by decide) (hts (.fieldLink RX0 35 "CutAtlas$Current" "net" "LCutAtlas$Net;") (List.mem_of_getElem? (i := 2) rfl)) (fun _ h9 => h9) rfl dB_36_0_5.1.2.2.1 ?_
        refine va_get (ci := 3) (v := .int vp) (C := RX3) (T := TX3) (N := 7) hx hb hts (fun _ h => List.mem_cons_of_mem _ (List.mem_append_right _ h)) hown hK.1 hP 1 rfl rfl 0 (by decide) (hts (.fieldLink RX0 43 "CutAtlas$Net" "places" "I") (List.mem_of_getElem? (i := 3) rfl)) (fun _ h9 => h9) rfl dB_36_0_5.1.2.2.2 ?_
        have cl_87 := clI (i := vp) (by omega)
        have cl_88 := clI (i := (0 : Int32)) (by omega)
        refine va_copyi hx hb (by rw [hml]; exact hl.1.symm) hown (hts (.methodLink RX0 83 arraycopyName) (List.mem_of_getElem? (i := 6) rfl)) (hts (.native arraycopyName) (List.mem_of_getElem? (i := 7) rfl)) (hts (.static arraycopyName) (List.mem_of_getElem? (i := 8) rfl)) (hts (.initialized "java/lang/System") (List.mem_of_getElem? (i := 9) rfl)) hK.1 hP hD hS 13 26 0 0 rfl rfl rfl rfl rfl (sp := (0 : Int32)) (dp := (0 : Int32)) (n := vp) (nneg (by omega)) (nneg (by omega)) (nneg (by omega)) (by omega) (by omega) (fun i h => rfl) (Nat.le_of_ble_eq_true rfl) (Nat.le_of_ble_eq_true rfl) dB_36_0_5.2.1.1.1 (fun H locs hP hD hS => ?_)
        obtain ⟨f_89, ef_89⟩ : ∃ g : Nat → Int32, g = va_cpy (Ml 8) (m_rr_4 8) (0 : Int32).toNatClampNeg (0 : Int32).toNatClampNeg vp.toNatClampNeg := ⟨_, rfl⟩
        refine pd_K (D := D) (cl := vwCl) (H := H) (A := A) [ob0_0_ xc xn xk clo cro c4 c5 c6 c7 c8, ob3_0_ xn vp vn n1 n2 n3 n4 n5, ai_ cy n2 40 fs, ai_ cy n3 40 fe, aq_ cy 6 clo 12 (gf_ rl), ai_ cy (rl 0) 12 (Ml 0), ai_ cy (rl 1) 12 (Ml 1), ai_ cy (rl 2) 12 (Ml 2), ai_ cy (rl 3) 12 (Ml 3), ai_ cy (rl 4) 12 (Ml 4), ai_ cy (rl 5) 12 (Ml 5), ai_ cy (rl 6) 12 (Ml 6), ai_ cy (rl 7) 12 (Ml 7), ai_ cy (rl 8) 12 (Ml 8), ai_ cy (rl 9) 12 (Ml 9), ai_ cy (rl 10) 12 (Ml 10), ai_ cy (rl 11) 12 (Ml 11), aq_ cy 6 cro 12 (gf_ rr), ai_ cy (rr 0) 12 (m_rr_4 0), ai_ cy (rr 1) 12 (m_rr_4 1), ai_ cy (rr 2) 12 (m_rr_4 2), ai_ cy (rr 3) 12 (m_rr_4 3), ai_ cy (rr 4) 12 (m_rr_4 4), ai_ cy (rr 5) 12 (m_rr_4 5), ai_ cy (rr 6) 12 (m_rr_4 6), ai_ cy (rr 7) 12 (m_rr_4 7), ai_ cy (rr 8) 12 f_89, ai_ cy (rr 9) 12 (m_rr_4 9), ai_ cy (rr 10) 12 (m_rr_4 10), ai_ cy (rr 11) 12 (m_rr_4 11), ai_ cy c4 40 e1_2, ai_ cy c5 40 f5, ai_ cy c6 40 f6, ai_ cy c7 12 f7, ai_ cy c8 12 f8] (by rw [ef_89]; exact hP) (by rw [ef_89]; exact hD) (fun hP hD => ?_)
        obtain ⟨M_90, eM_90⟩ : ∃ g : Nat → Nat → Int32, g = va_up m_rr_4 8 f_89 := ⟨_, rfl⟩
        refine pd_K (D := D) (cl := vwCl) (H := H) (A := A) [ob0_0_ xc xn xk clo cro c4 c5 c6 c7 c8, ob3_0_ xn vp vn n1 n2 n3 n4 n5, ai_ cy n2 40 fs, ai_ cy n3 40 fe, aq_ cy 6 clo 12 (gf_ rl), ai_ cy (rl 0) 12 (Ml 0), ai_ cy (rl 1) 12 (Ml 1), ai_ cy (rl 2) 12 (Ml 2), ai_ cy (rl 3) 12 (Ml 3), ai_ cy (rl 4) 12 (Ml 4), ai_ cy (rl 5) 12 (Ml 5), ai_ cy (rl 6) 12 (Ml 6), ai_ cy (rl 7) 12 (Ml 7), ai_ cy (rl 8) 12 (Ml 8), ai_ cy (rl 9) 12 (Ml 9), ai_ cy (rl 10) 12 (Ml 10), ai_ cy (rl 11) 12 (Ml 11), aq_ cy 6 cro 12 (gf_ rr), ai_ cy (rr 0) 12 (M_90 0), ai_ cy (rr 1) 12 (M_90 1), ai_ cy (rr 2) 12 (M_90 2), ai_ cy (rr 3) 12 (M_90 3), ai_ cy (rr 4) 12 (M_90 4), ai_ cy (rr 5) 12 (M_90 5), ai_ cy (rr 6) 12 (M_90 6), ai_ cy (rr 7) 12 (M_90 7), ai_ cy (rr 8) 12 (M_90 8), ai_ cy (rr 9) 12 (M_90 9), ai_ cy (rr 10) 12 (M_90 10), ai_ cy (rr 11) 12 (M_90 11), ai_ cy c4 40 e1_2, ai_ cy c5 40 f5, ai_ cy c6 40 f6, ai_ cy c7 12 f7, ai_ cy c8 12 f8] (by rw [eM_90]; exact hP) (by rw [eM_90]; exact hD) (fun hP hD => ?_)
        obtain ⟨y_91, ey_91⟩ : ∃ y : Int32, y = (8 : Int32) + 1 := ⟨_, rfl⟩
        have ty_91 : y_91.toInt = (8 : Int32).toInt + (1 : Int32).toInt := by rw [ey_91]; exact addI (by omega) (by omega)
        refine lv_iinc (v := y_91) (lv' := [(3, .int y_91), (0, .ref xc), (1, .int a1), (2, .int a2)]) hx hb dB_36_0_5.2.1.1.2 hl (k := 0) rfl (by rw [ey_91]; rfl) (by decide) rfl (fun ls hl => ?_)
        refine lv_goto (tgt := 10) hx hb dB_36_0_5.2.1.2.1 (by decide) ?_
        exact ih_4 y_91 M_90 _ _ _ (by omega) (by first | with_reducible assumption | omega | assumption) (by first | with_reducible assumption | omega | assumption) (by first | exact cp_st eM_90 v2_4 (by assumption) (by decide) (by omega) | (intro x y hx; omega)) ⟨hP, hD⟩ hS (lv_sub hl [0, 1, 2, 3] rfl)
      · refine lv_aload_n hx hb dB_36_0_4.2.1.2.2 rfl (lv_at hl 1 rfl) ?_
        refine va_get (ci := 0) (v := .ref clo) (C := RX0) (T := TX0) (N := 9) hx hb hts (fun _ h => List.mem_cons_of_mem _ (List.mem_append_left _ (List.mem_append_right _ h))) hown hK.1 hP 0 rfl rfl 2 (by decide) (hts (.fieldLink RX0 11 "CutAtlas$Current" "lets" "[[I") (List.mem_of_getElem? (i := 4) rfl)) (fun _ h9 => h9) rfl dB_36_0_4.2.2.1.1 ?_
        refine lv_iload_n hx hb dB_36_0_4.2.2.1.2 rfl (lv_at hl 0 rfl) ?_
        have h_92 : vp_in (9 : Int32) 12 := by unfold vp_in; decide
        refine va_alda hx hb hG hP 4 rfl (i := 9) h_92 dB_36_0_4.2.2.2.1 ?_
        refine lv_topv (v' := .ref (rl 9)) (gf_at h_92) ?_
        refine lv_iconst (v := 0) hx hb dB_36_0_4.2.2.2.2 (by decide) ?_
        refine lv_aload_n hx hb dB_36_0_5.1.1.1.1 rfl (lv_at hl 1 rfl) ?_
        refine va_get (ci := 0) (v := .ref cro) (C := RX0) (T := TX0) (N := 9) hx hb hts (fun _ h => List.mem_cons_of_mem _ (List.mem_append_left _ (List.mem_append_right _ h))) hown hK.1 hP 0 rfl rfl 3 (by decide) (hts (.fieldLink RX0 16 "CutAtlas$Current" "room" "[[I") (List.mem_of_getElem? (i := 5) rfl)) (fun _ h9 => h9) rfl dB_36_0_5.1.1.1.2 ?_
        refine lv_iload_n hx hb dB_36_0_5.1.1.2.1 rfl (lv_at hl 0 rfl) ?_
        refine va_alda hx hb hG hP 17 rfl (i := 9) h_92 dB_36_0_5.1.1.2.2 ?_
        refine lv_topv (v' := .ref (rr 9)) (gf_at h_92) ?_
        refine lv_iconst (v := 0) hx hb dB_36_0_5.1.2.1.1 (by decide) ?_
        refine lv_aload_n hx hb dB_36_0_5.1.2.1.2 rfl (lv_at hl 1 rfl) ?_
        refine va_get (ci := 0) (v := .ref xn) (C := RX0) (T := TX0) (N := 9) hx hb hts (fun _ h => List.mem_cons_of_mem _ (List.mem_append_left _ (List.mem_append_right _ h))) hown hK.1 hP 0 rfl rfl 0 (by decide) (hts (.fieldLink RX0 35 "CutAtlas$Current" "net" "LCutAtlas$Net;") (List.mem_of_getElem? (i := 2) rfl)) (fun _ h9 => h9) rfl dB_36_0_5.1.2.2.1 ?_
        refine va_get (ci := 3) (v := .int vp) (C := RX3) (T := TX3) (N := 7) hx hb hts (fun _ h => List.mem_cons_of_mem _ (List.mem_append_right _ h)) hown hK.1 hP 1 rfl rfl 0 (by decide) (hts (.fieldLink RX0 43 "CutAtlas$Net" "places" "I") (List.mem_of_getElem? (i := 3) rfl)) (fun _ h9 => h9) rfl dB_36_0_5.1.2.2.2 ?_
        have cl_94 := clI (i := vp) (by omega)
        have cl_95 := clI (i := (0 : Int32)) (by omega)
        refine va_copyi hx hb (by rw [hml]; exact hl.1.symm) hown (hts (.methodLink RX0 83 arraycopyName) (List.mem_of_getElem? (i := 6) rfl)) (hts (.native arraycopyName) (List.mem_of_getElem? (i := 7) rfl)) (hts (.static arraycopyName) (List.mem_of_getElem? (i := 8) rfl)) (hts (.initialized "java/lang/System") (List.mem_of_getElem? (i := 9) rfl)) hK.1 hP hD hS 14 27 0 0 rfl rfl rfl rfl rfl (sp := (0 : Int32)) (dp := (0 : Int32)) (n := vp) (nneg (by omega)) (nneg (by omega)) (nneg (by omega)) (by omega) (by omega) (fun i h => rfl) (Nat.le_of_ble_eq_true rfl) (Nat.le_of_ble_eq_true rfl) dB_36_0_5.2.1.1.1 (fun H locs hP hD hS => ?_)
        obtain ⟨f_96, ef_96⟩ : ∃ g : Nat → Int32, g = va_cpy (Ml 9) (m_rr_4 9) (0 : Int32).toNatClampNeg (0 : Int32).toNatClampNeg vp.toNatClampNeg := ⟨_, rfl⟩
        refine pd_K (D := D) (cl := vwCl) (H := H) (A := A) [ob0_0_ xc xn xk clo cro c4 c5 c6 c7 c8, ob3_0_ xn vp vn n1 n2 n3 n4 n5, ai_ cy n2 40 fs, ai_ cy n3 40 fe, aq_ cy 6 clo 12 (gf_ rl), ai_ cy (rl 0) 12 (Ml 0), ai_ cy (rl 1) 12 (Ml 1), ai_ cy (rl 2) 12 (Ml 2), ai_ cy (rl 3) 12 (Ml 3), ai_ cy (rl 4) 12 (Ml 4), ai_ cy (rl 5) 12 (Ml 5), ai_ cy (rl 6) 12 (Ml 6), ai_ cy (rl 7) 12 (Ml 7), ai_ cy (rl 8) 12 (Ml 8), ai_ cy (rl 9) 12 (Ml 9), ai_ cy (rl 10) 12 (Ml 10), ai_ cy (rl 11) 12 (Ml 11), aq_ cy 6 cro 12 (gf_ rr), ai_ cy (rr 0) 12 (m_rr_4 0), ai_ cy (rr 1) 12 (m_rr_4 1), ai_ cy (rr 2) 12 (m_rr_4 2), ai_ cy (rr 3) 12 (m_rr_4 3), ai_ cy (rr 4) 12 (m_rr_4 4), ai_ cy (rr 5) 12 (m_rr_4 5), ai_ cy (rr 6) 12 (m_rr_4 6), ai_ cy (rr 7) 12 (m_rr_4 7), ai_ cy (rr 8) 12 (m_rr_4 8), ai_ cy (rr 9) 12 f_96, ai_ cy (rr 10) 12 (m_rr_4 10), ai_ cy (rr 11) 12 (m_rr_4 11), ai_ cy c4 40 e1_2, ai_ cy c5 40 f5, ai_ cy c6 40 f6, ai_ cy c7 12 f7, ai_ cy c8 12 f8] (by rw [ef_96]; exact hP) (by rw [ef_96]; exact hD) (fun hP hD => ?_)
        obtain ⟨M_97, eM_97⟩ : ∃ g : Nat → Nat → Int32, g = va_up m_rr_4 9 f_96 := ⟨_, rfl⟩
        refine pd_K (D := D) (cl := vwCl) (H := H) (A := A) [ob0_0_ xc xn xk clo cro c4 c5 c6 c7 c8, ob3_0_ xn vp vn n1 n2 n3 n4 n5, ai_ cy n2 40 fs, ai_ cy n3 40 fe, aq_ cy 6 clo 12 (gf_ rl), ai_ cy (rl 0) 12 (Ml 0), ai_ cy (rl 1) 12 (Ml 1), ai_ cy (rl 2) 12 (Ml 2), ai_ cy (rl 3) 12 (Ml 3), ai_ cy (rl 4) 12 (Ml 4), ai_ cy (rl 5) 12 (Ml 5), ai_ cy (rl 6) 12 (Ml 6), ai_ cy (rl 7) 12 (Ml 7), ai_ cy (rl 8) 12 (Ml 8), ai_ cy (rl 9) 12 (Ml 9), ai_ cy (rl 10) 12 (Ml 10), ai_ cy (rl 11) 12 (Ml 11), aq_ cy 6 cro 12 (gf_ rr), ai_ cy (rr 0) 12 (M_97 0), ai_ cy (rr 1) 12 (M_97 1), ai_ cy (rr 2) 12 (M_97 2), ai_ cy (rr 3) 12 (M_97 3), ai_ cy (rr 4) 12 (M_97 4), ai_ cy (rr 5) 12 (M_97 5), ai_ cy (rr 6) 12 (M_97 6), ai_ cy (rr 7) 12 (M_97 7), ai_ cy (rr 8) 12 (M_97 8), ai_ cy (rr 9) 12 (M_97 9), ai_ cy (rr 10) 12 (M_97 10), ai_ cy (rr 11) 12 (M_97 11), ai_ cy c4 40 e1_2, ai_ cy c5 40 f5, ai_ cy c6 40 f6, ai_ cy c7 12 f7, ai_ cy c8 12 f8] (by rw [eM_97]; exact hP) (by rw [eM_97]; exact hD) (fun hP hD => ?_)
        obtain ⟨y_98, ey_98⟩ : ∃ y : Int32, y = (9 : Int32) + 1 := ⟨_, rfl⟩
        have ty_98 : y_98.toInt = (9 : Int32).toInt + (1 : Int32).toInt := by rw [ey_98]; exact addI (by omega) (by omega)
        refine lv_iinc (v := y_98) (lv' := [(3, .int y_98), (0, .ref xc), (1, .int a1), (2, .int a2)]) hx hb dB_36_0_5.2.1.1.2 hl (k := 0) rfl (by rw [ey_98]; rfl) (by decide) rfl (fun ls hl => ?_)
        refine lv_goto (tgt := 10) hx hb dB_36_0_5.2.1.2.1 (by decide) ?_
        exact ih_4 y_98 M_97 _ _ _ (by omega) (by first | with_reducible assumption | omega | assumption) (by first | with_reducible assumption | omega | assumption) (by first | exact cp_st eM_97 v2_4 (by assumption) (by decide) (by omega) | (intro x y hx; omega)) ⟨hP, hD⟩ hS (lv_sub hl [0, 1, 2, 3] rfl)
      · refine lv_aload_n hx hb dB_36_0_4.2.1.2.2 rfl (lv_at hl 1 rfl) ?_
        refine va_get (ci := 0) (v := .ref clo) (C := RX0) (T := TX0) (N := 9) hx hb hts (fun _ h => List.mem_cons_of_mem _ (List.mem_append_left _ (List.mem_append_right _ h))) hown hK.1 hP 0 rfl rfl 2 (by decide) (hts (.fieldLink RX0 11 "CutAtlas$Current" "lets" "[[I") (List.mem_of_getElem? (i := 4) rfl)) (fun _ h9 => h9) rfl dB_36_0_4.2.2.1.1 ?_
        refine lv_iload_n hx hb dB_36_0_4.2.2.1.2 rfl (lv_at hl 0 rfl) ?_
        have h_99 : vp_in (10 : Int32) 12 := by unfold vp_in; decide
        refine va_alda hx hb hG hP 4 rfl (i := 10) h_99 dB_36_0_4.2.2.2.1 ?_
        refine lv_topv (v' := .ref (rl 10)) (gf_at h_99) ?_
        refine lv_iconst (v := 0) hx hb dB_36_0_4.2.2.2.2 (by decide) ?_
        refine lv_aload_n hx hb dB_36_0_5.1.1.1.1 rfl (lv_at hl 1 rfl) ?_
        refine va_get (ci := 0) (v := .ref cro) (C := RX0) (T := TX0) (N := 9) hx hb hts (fun _ h => List.mem_cons_of_mem _ (List.mem_append_left _ (List.mem_append_right _ h))) hown hK.1 hP 0 rfl rfl 3 (by decide) (hts (.fieldLink RX0 16 "CutAtlas$Current" "room" "[[I") (List.mem_of_getElem? (i := 5) rfl)) (fun _ h9 => h9) rfl dB_36_0_5.1.1.1.2 ?_
        refine lv_iload_n hx hb dB_36_0_5.1.1.2.1 rfl (lv_at hl 0 rfl) ?_
        refine va_alda hx hb hG hP 17 rfl (i := 10) h_99 dB_36_0_5.1.1.2.2 ?_
        refine lv_topv (v' := .ref (rr 10)) (gf_at h_99) ?_
        refine lv_iconst (v := 0) hx hb dB_36_0_5.1.2.1.1 (by decide) ?_
        refine lv_aload_n hx hb dB_36_0_5.1.2.1.2 rfl (lv_at hl 1 rfl) ?_
        refine va_get (ci := 0) (v := .ref xn) (C := RX0) (T := TX0) (N := 9) hx hb hts (fun _ h => List.mem_cons_of_mem _ (List.mem_append_left _ (List.mem_append_right _ h))) hown hK.1 hP 0 rfl rfl 0 (by decide) (hts (.fieldLink RX0 35 "CutAtlas$Current" "net" "LCutAtlas$Net;") (List.mem_of_getElem? (i := 2) rfl)) (fun _ h9 => h9) rfl dB_36_0_5.1.2.2.1 ?_
        refine va_get (ci := 3) (v := .int vp) (C := RX3) (T := TX3) (N := 7) hx hb hts (fun _ h => List.mem_cons_of_mem _ (List.mem_append_right _ h)) hown hK.1 hP 1 rfl rfl 0 (by decide) (hts (.fieldLink RX0 43 "CutAtlas$Net" "places" "I") (List.mem_of_getElem? (i := 3) rfl)) (fun _ h9 => h9) rfl dB_36_0_5.1.2.2.2 ?_
        have cl_101 := clI (i := vp) (by omega)
        have cl_102 := clI (i := (0 : Int32)) (by omega)
        refine va_copyi hx hb (by rw [hml]; exact hl.1.symm) hown (hts (.methodLink RX0 83 arraycopyName) (List.mem_of_getElem? (i := 6) rfl)) (hts (.native arraycopyName) (List.mem_of_getElem? (i := 7) rfl)) (hts (.static arraycopyName) (List.mem_of_getElem? (i := 8) rfl)) (hts (.initialized "java/lang/System") (List.mem_of_getElem? (i := 9) rfl)) hK.1 hP hD hS 15 28 0 0 rfl rfl rfl rfl rfl (sp := (0 : Int32)) (dp := (0 : Int32)) (n := vp) (nneg (by omega)) (nneg (by omega)) (nneg (by omega)) (by omega) (by omega) (fun i h => rfl) (Nat.le_of_ble_eq_true rfl) (Nat.le_of_ble_eq_true rfl) dB_36_0_5.2.1.1.1 (fun H locs hP hD hS => ?_)
        obtain ⟨f_103, ef_103⟩ : ∃ g : Nat → Int32, g = va_cpy (Ml 10) (m_rr_4 10) (0 : Int32).toNatClampNeg (0 : Int32).toNatClampNeg vp.toNatClampNeg := ⟨_, rfl⟩
        refine pd_K (D := D) (cl := vwCl) (H := H) (A := A) [ob0_0_ xc xn xk clo cro c4 c5 c6 c7 c8, ob3_0_ xn vp vn n1 n2 n3 n4 n5, ai_ cy n2 40 fs, ai_ cy n3 40 fe, aq_ cy 6 clo 12 (gf_ rl), ai_ cy (rl 0) 12 (Ml 0), ai_ cy (rl 1) 12 (Ml 1), ai_ cy (rl 2) 12 (Ml 2), ai_ cy (rl 3) 12 (Ml 3), ai_ cy (rl 4) 12 (Ml 4), ai_ cy (rl 5) 12 (Ml 5), ai_ cy (rl 6) 12 (Ml 6), ai_ cy (rl 7) 12 (Ml 7), ai_ cy (rl 8) 12 (Ml 8), ai_ cy (rl 9) 12 (Ml 9), ai_ cy (rl 10) 12 (Ml 10), ai_ cy (rl 11) 12 (Ml 11), aq_ cy 6 cro 12 (gf_ rr), ai_ cy (rr 0) 12 (m_rr_4 0), ai_ cy (rr 1) 12 (m_rr_4 1), ai_ cy (rr 2) 12 (m_rr_4 2), ai_ cy (rr 3) 12 (m_rr_4 3), ai_ cy (rr 4) 12 (m_rr_4 4), ai_ cy (rr 5) 12 (m_rr_4 5), ai_ cy (rr 6) 12 (m_rr_4 6), ai_ cy (rr 7) 12 (m_rr_4 7), ai_ cy (rr 8) 12 (m_rr_4 8), ai_ cy (rr 9) 12 (m_rr_4 9), ai_ cy (rr 10) 12 f_103, ai_ cy (rr 11) 12 (m_rr_4 11), ai_ cy c4 40 e1_2, ai_ cy c5 40 f5, ai_ cy c6 40 f6, ai_ cy c7 12 f7, ai_ cy c8 12 f8] (by rw [ef_103]; exact hP) (by rw [ef_103]; exact hD) (fun hP hD => ?_)
        obtain ⟨M_104, eM_104⟩ : ∃ g : Nat → Nat → Int32, g = va_up m_rr_4 10 f_103 := ⟨_, rfl⟩
        refine pd_K (D := D) (cl := vwCl) (H := H) (A := A) [ob0_0_ xc xn xk clo cro c4 c5 c6 c7 c8, ob3_0_ xn vp vn n1 n2 n3 n4 n5, ai_ cy n2 40 fs, ai_ cy n3 40 fe, aq_ cy 6 clo 12 (gf_ rl), ai_ cy (rl 0) 12 (Ml 0), ai_ cy (rl 1) 12 (Ml 1), ai_ cy (rl 2) 12 (Ml 2), ai_ cy (rl 3) 12 (Ml 3), ai_ cy (rl 4) 12 (Ml 4), ai_ cy (rl 5) 12 (Ml 5), ai_ cy (rl 6) 12 (Ml 6), ai_ cy (rl 7) 12 (Ml 7), ai_ cy (rl 8) 12 (Ml 8), ai_ cy (rl 9) 12 (Ml 9), ai_ cy (rl 10) 12 (Ml 10), ai_ cy (rl 11) 12 (Ml 11), aq_ cy 6 cro 12 (gf_ rr), ai_ cy (rr 0) 12 (M_104 0), ai_ cy (rr 1) 12 (M_104 1), ai_ cy (rr 2) 12 (M_104 2), ai_ cy (rr 3) 12 (M_104 3), ai_ cy (rr 4) 12 (M_104 4), ai_ cy (rr 5) 12 (M_104 5), ai_ cy (rr 6) 12 (M_104 6), ai_ cy (rr 7) 12 (M_104 7), ai_ cy (rr 8) 12 (M_104 8), ai_ cy (rr 9) 12 (M_104 9), ai_ cy (rr 10) 12 (M_104 10), ai_ cy (rr 11) 12 (M_104 11), ai_ cy c4 40 e1_2, ai_ cy c5 40 f5, ai_ cy c6 40 f6, ai_ cy c7 12 f7, ai_ cy c8 12 f8] (by rw [eM_104]; exact hP) (by rw [eM_104]; exact hD) (fun hP hD => ?_)
        obtain ⟨y_105, ey_105⟩ : ∃ y : Int32, y = (10 : Int32) + 1 := ⟨_, rfl⟩
        have ty_105 : y_105.toInt = (10 : Int32).toInt + (1 : Int32).toInt := by rw [ey_105]; exact addI (by omega) (by omega)
        refine lv_iinc (v := y_105) (lv' := [(3, .int y_105), (0, .ref xc), (1, .int a1), (2, .int a2)]) hx hb dB_36_0_5.2.1.1.2 hl (k := 0) rfl (by rw [ey_105]; rfl) (by decide) rfl (fun ls hl => ?_)
        refine lv_goto (tgt := 10) hx hb dB_36_0_5.2.1.2.1 (by decide) ?_
        exact ih_4 y_105 M_104 _ _ _ (by omega) (by first | with_reducible assumption | omega | assumption) (by first | with_reducible assumption | omega | assumption) (by first | exact cp_st eM_104 v2_4 (by assumption) (by decide) (by omega) | (intro x y hx; omega)) ⟨hP, hD⟩ hS (lv_sub hl [0, 1, 2, 3] rfl)
      · refine lv_aload_n hx hb dB_36_0_4.2.1.2.2 rfl (lv_at hl 1 rfl) ?_
        refine va_get (ci := 0) (v := .ref clo) (C := RX0) (T := TX0) (N := 9) hx hb hts (fun _ h => List.mem_cons_of_mem _ (List.mem_append_left _ (List.mem_append_right _ h))) hown hK.1 hP 0 rfl rfl 2 (by decide) (hts (.fieldLink RX0 11 "CutAtlas$Current" "lets" "[[I") (List.mem_of_getElem? (i := 4) rfl)) (fun _ h9 => h9) rfl dB_36_0_4.2.2.1.1 ?_
        refine lv_iload_n hx hb dB_36_0_4.2.2.1.2 rfl (lv_at hl 0 rfl) ?_
        have h_106 : vp_in (11 : Int32) 12 := by unfold vp_in; decide
        refine va_alda hx hb hG hP 4 rfl (i := 11) h_106 dB_36_0_4.2.2.2.1 ?_
        refine lv_topv (v' := .ref (rl 11)) (gf_at h_106) ?_
        refine lv_iconst (v := 0) hx hb dB_36_0_4.2.2.2.2 (by decide) ?_
        refine lv_aload_n hx hb dB_36_0_5.1.1.1.1 rfl (lv_at hl 1 rfl) ?_
        refine va_get (ci := 0) (v := .ref cro) (C := RX0) (T := TX0) (N := 9) hx hb hts (fun _ h => List.mem_cons_of_mem _ (List.mem_append_left _ (List.mem_append_right _ h))) hown hK.1 hP 0 rfl rfl 3 (by decide) (hts (.fieldLink RX0 16 "CutAtlas$Current" "room" "[[I") (List.mem_of_getElem? (i := 5) rfl)) (fun _ h9 => h9) rfl dB_36_0_5.1.1.1.2 ?_
        refine lv_iload_n hx hb dB_36_0_5.1.1.2.1 rfl (lv_at hl 0 rfl) ?_
        refine va_alda hx hb hG hP 17 rfl (i := 11) h_106 dB_36_0_5.1.1.2.2 ?_
        refine lv_topv (v' := .ref (rr 11)) (gf_at h_106) ?_
        refine lv_iconst (v := 0) hx hb dB_36_0_5.1.2.1.1 (by decide) ?_
        refine lv_aload_n hx hb dB_36_0_5.1.2.1.2 rfl (lv_at hl 1 rfl) ?_
        refine va_get (ci := 0) (v := .ref xn) (C := RX0) (T := TX0) (N := 9) hx hb hts (fun _ h => List.mem_cons_of_mem _ (List.mem_append_left _ (List.mem_append_right _ h))) hown hK.1 hP 0 rfl rfl 0 (by decide) (hts (.fieldLink RX0 35 "CutAtlas$Current" "net" "LCutAtlas$Net;") (List.mem_of_getElem? (i := 2) rfl)) (fun _ h9 => h9) rfl dB_36_0_5.1.2.2.1 ?_
        refine va_get (ci := 3) (v := .int vp) (C := RX3) (T := TX3) (N := 7) hx hb hts (fun _ h => List.mem_cons_of_mem _ (List.mem_append_right _ h)) hown hK.1 hP 1 rfl rfl 0 (by decide) (hts (.fieldLink RX0 43 "CutAtlas$Net" "places" "I") (List.mem_of_getElem? (i := 3) rfl)) (fun _ h9 => h9) rfl dB_36_0_5.1.2.2.2 ?_
        have cl_108 := clI (i := vp) (by omega)
        have cl_109 := clI (i := (0 : Int32)) (by omega)
        refine va_copyi hx hb (by rw [hml]; exact hl.1.symm) hown (hts (.methodLink RX0 83 arraycopyName) (List.mem_of_getElem? (i := 6) rfl)) (hts (.native arraycopyName) (List.mem_of_getElem? (i := 7) rfl)) (hts (.static arraycopyName) (List.mem_of_getElem? (i := 8) rfl)) (hts (.initialized "java/lang/System") (List.mem_of_getElem? (i := 9) rfl)) hK.1 hP hD hS 16 29 0 0 rfl rfl rfl rfl rfl (sp := (0 : Int32)) (dp := (0 : Int32)) (n := vp) (nneg (by omega)) (nneg (by omega)) (nneg (by omega)) (by omega) (by omega) (fun i h => rfl) (Nat.le_of_ble_eq_true rfl) (Nat.le_of_ble_eq_true rfl) dB_36_0_5.2.1.1.1 (fun H locs hP hD hS => ?_)
        obtain ⟨f_110, ef_110⟩ : ∃ g : Nat → Int32, g = va_cpy (Ml 11) (m_rr_4 11) (0 : Int32).toNatClampNeg (0 : Int32).toNatClampNeg vp.toNatClampNeg := ⟨_, rfl⟩
        refine pd_K (D := D) (cl := vwCl) (H := H) (A := A) [ob0_0_ xc xn xk clo cro c4 c5 c6 c7 c8, ob3_0_ xn vp vn n1 n2 n3 n4 n5, ai_ cy n2 40 fs, ai_ cy n3 40 fe, aq_ cy 6 clo 12 (gf_ rl), ai_ cy (rl 0) 12 (Ml 0), ai_ cy (rl 1) 12 (Ml 1), ai_ cy (rl 2) 12 (Ml 2), ai_ cy (rl 3) 12 (Ml 3), ai_ cy (rl 4) 12 (Ml 4), ai_ cy (rl 5) 12 (Ml 5), ai_ cy (rl 6) 12 (Ml 6), ai_ cy (rl 7) 12 (Ml 7), ai_ cy (rl 8) 12 (Ml 8), ai_ cy (rl 9) 12 (Ml 9), ai_ cy (rl 10) 12 (Ml 10), ai_ cy (rl 11) 12 (Ml 11), aq_ cy 6 cro 12 (gf_ rr), ai_ cy (rr 0) 12 (m_rr_4 0), ai_ cy (rr 1) 12 (m_rr_4 1), ai_ cy (rr 2) 12 (m_rr_4 2), ai_ cy (rr 3) 12 (m_rr_4 3), ai_ cy (rr 4) 12 (m_rr_4 4), ai_ cy (rr 5) 12 (m_rr_4 5), ai_ cy (rr 6) 12 (m_rr_4 6), ai_ cy (rr 7) 12 (m_rr_4 7), ai_ cy (rr 8) 12 (m_rr_4 8), ai_ cy (rr 9) 12 (m_rr_4 9), ai_ cy (rr 10) 12 (m_rr_4 10), ai_ cy (rr 11) 12 f_110, ai_ cy c4 40 e1_2, ai_ cy c5 40 f5, ai_ cy c6 40 f6, ai_ cy c7 12 f7, ai_ cy c8 12 f8] (by rw [ef_110]; exact hP) (by rw [ef_110]; exact hD) (fun hP hD => ?_)
        obtain ⟨M_111, eM_111⟩ : ∃ g : Nat → Nat → Int32, g = va_up m_rr_4 11 f_110 := ⟨_, rfl⟩
        refine pd_K (D := D) (cl := vwCl) (H := H) (A := A) [ob0_0_ xc xn xk clo cro c4 c5 c6 c7 c8, ob3_0_ xn vp vn n1 n2 n3 n4 n5, ai_ cy n2 40 fs, ai_ cy n3 40 fe, aq_ cy 6 clo 12 (gf_ rl), ai_ cy (rl 0) 12 (Ml 0), ai_ cy (rl 1) 12 (Ml 1), ai_ cy (rl 2) 12 (Ml 2), ai_ cy (rl 3) 12 (Ml 3), ai_ cy (rl 4) 12 (Ml 4), ai_ cy (rl 5) 12 (Ml 5), ai_ cy (rl 6) 12 (Ml 6), ai_ cy (rl 7) 12 (Ml 7), ai_ cy (rl 8) 12 (Ml 8), ai_ cy (rl 9) 12 (Ml 9), ai_ cy (rl 10) 12 (Ml 10), ai_ cy (rl 11) 12 (Ml 11), aq_ cy 6 cro 12 (gf_ rr), ai_ cy (rr 0) 12 (M_111 0), ai_ cy (rr 1) 12 (M_111 1), ai_ cy (rr 2) 12 (M_111 2), ai_ cy (rr 3) 12 (M_111 3), ai_ cy (rr 4) 12 (M_111 4), ai_ cy (rr 5) 12 (M_111 5), ai_ cy (rr 6) 12 (M_111 6), ai_ cy (rr 7) 12 (M_111 7), ai_ cy (rr 8) 12 (M_111 8), ai_ cy (rr 9) 12 (M_111 9), ai_ cy (rr 10) 12 (M_111 10), ai_ cy (rr 11) 12 (M_111 11), ai_ cy c4 40 e1_2, ai_ cy c5 40 f5, ai_ cy c6 40 f6, ai_ cy c7 12 f7, ai_ cy c8 12 f8] (by rw [eM_111]; exact hP) (by rw [eM_111]; exact hD) (fun hP hD => ?_)
        obtain ⟨y_112, ey_112⟩ : ∃ y : Int32, y = (11 : Int32) + 1 := ⟨_, rfl⟩
        have ty_112 : y_112.toInt = (11 : Int32).toInt + (1 : Int32).toInt := by rw [ey_112]; exact addI (by omega) (by omega)
        refine lv_iinc (v := y_112) (lv' := [(3, .int y_112), (0, .ref xc), (1, .int a1), (2, .int a2)]) hx hb dB_36_0_5.2.1.1.2 hl (k := 0) rfl (by rw [ey_112]; rfl) (by decide) rfl (fun ls hl => ?_)
        refine lv_goto (tgt := 10) hx hb dB_36_0_5.2.1.2.1 (by decide) ?_
        exact ih_4 y_112 M_111 _ _ _ (by omega) (by first | with_reducible assumption | omega | assumption) (by first | with_reducible assumption | omega | assumption) (by first | exact cp_st eM_111 v2_4 (by assumption) (by decide) (by omega) | (intro x y hx; omega)) ⟨hP, hD⟩ hS (lv_sub hl [0, 1, 2, 3] rfl)
end
