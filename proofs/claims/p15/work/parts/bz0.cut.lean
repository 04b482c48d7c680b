/-! ===== what lines let out of a set: by lines, and by pairs of places ===== -/
theorem sumI_add {f g : Nat → Int} : ∀ n : Nat, sumI (fun j => f j + g j) n = sumI f n + sumI g n
  | 0 => rfl
  | n + 1 => by
    show sumI (fun j => f j + g j) n + (f n + g n) = sumI f n + f n + (sumI g n + g n)
    rw [sumI_add n]
    omega
theorem sumI_zero : ∀ n : Nat, sumI (fun _ => 0) n = 0
  | 0 => rfl
  | n + 1 => by
    show sumI (fun _ => 0) n + 0 = 0
    rw [sumI_zero n]
    rfl
theorem sumI_delta {f : Nat → Int} {a : Nat} : ∀ n : Nat, sumI (fun j => if j = a then f j else 0) n = if a < n then f a else 0
  | 0 => rfl
  | n + 1 => by
    show sumI (fun j => if j = a then f j else 0) n + (if n = a then f n else 0) = _
    rw [sumI_delta n]
    by_cases e : n = a
    · subst e
      rw [if_neg (Nat.lt_irrefl _), if_pos rfl, if_pos (Nat.lt_succ_self _)]
      omega
    · rw [if_neg e]
      by_cases h : a < n
      · rw [if_pos h, if_pos (by omega)]
        omega
      · rw [if_neg h, if_neg (by omega)]
        rfl
/-- what a line of kind k and width w lets, b: from its first end -/
def rmW (k w b : Int) : Int := if k = 2 then 1000000 else if k = 1 ∧ b = 0 then 0 else w
/-- line l, from x to y -/
def mlI (k w g : Nat → Int) (s e : Nat → Nat) (x y l : Nat) : Int := if g l ≠ 0 then 0 else (if s l = x ∧ e l = y then rmW (k l) (w l) 1 else 0) + (if e l = x ∧ s l = y then rmW (k l) (w l) 0 else 0)
/-- line l, out of S -/
def clI_ (k w g : Nat → Int) (s e : Nat → Nat) (S : Nat → Bool) (l : Nat) : Int := if g l ≠ 0 then 0 else (if S (s l) = true ∧ S (e l) = false then rmW (k l) (w l) 1 else 0) + (if S (e l) = true ∧ S (s l) = false then rmW (k l) (w l) 0 else 0)
def rowZ (M : Nat → Nat → Int) (S : Nat → Bool) (P x : Nat) : Int := sumI (fun y => if S y = true then 0 else M x y) P
def outZ (M : Nat → Nat → Int) (S : Nat → Bool) (P : Nat) : Int := sumI (fun x => if S x = true then rowZ M S P x else 0) P
theorem rowZ_add {M N : Nat → Nat → Int} {S : Nat → Bool} {P x : Nat} : rowZ (fun x y => M x y + N x y) S P x = rowZ M S P x + rowZ N S P x := by
  unfold rowZ
  rw [← sumI_add]
  refine sumI_congr P (fun y _ => ?_)
  dsimp only
  split <;> omega
theorem outZ_add {M N : Nat → Nat → Int} {S : Nat → Bool} {P : Nat} : outZ (fun x y => M x y + N x y) S P = outZ M S P + outZ N S P := by
  unfold outZ
  rw [← sumI_add]
  refine sumI_congr P (fun x _ => ?_)
  rw [rowZ_add]
  split <;> omega
theorem outZ_0 {S : Nat → Bool} {P : Nat} : outZ (fun _ _ => 0) S P = 0 := by
  unfold outZ
  refine (sumI_congr P (fun x _ => ?_)).trans (sumI_zero P)
  unfold rowZ
  split
  · refine (sumI_congr P (fun y _ => ?_)).trans (sumI_zero P)
    split <;> rfl
  · rfl
theorem outZ_one {S : Nat → Bool} {P a b : Nat} {v : Int} (ha : a < P) (hb : b < P) : outZ (fun x y => if a = x ∧ b = y then v else 0) S P = if S a = true ∧ S b = false then v else 0 := by
  have row : ∀ x : Nat, rowZ (fun x y => if a = x ∧ b = y then v else 0) S P x = if x = a then (if S b = true then 0 else v) else 0 := fun x => by
    unfold rowZ
    by_cases e : x = a
    · rw [if_pos e]
      refine Eq.trans (sumI_congr P (fun y _ => ?_)) ((sumI_delta (f := fun y => if S y = true then 0 else v) (a := b) P).trans (if_pos hb))
      dsimp only
      by_cases q : y = b
      · rw [if_pos q, if_pos (show a = x ∧ b = y from ⟨e.symm, q.symm⟩)]
      · rw [if_neg q, if_neg (show ¬ (a = x ∧ b = y) from fun w => q w.2.symm)]
        split <;> rfl
    · rw [if_neg e]
      refine (sumI_congr P (fun y _ => ?_)).trans (sumI_zero P)
      dsimp only
      rw [if_neg (show ¬ (a = x ∧ b = y) from fun w => e w.1.symm)]
      split <;> rfl
  unfold outZ
  refine Eq.trans (sumI_congr P (fun x _ => ?_)) ((sumI_delta (f := fun x => if S x = true then (if S b = true then 0 else v) else 0) (a := a) P).trans ?_)
  · rw [row x]
    by_cases e : x = a
    · rw [if_pos e, if_pos e]
    · rw [if_neg e, if_neg e]
      split <;> rfl
  · rw [if_pos ha]
    by_cases q : S a = true
    · rw [if_pos q]
      by_cases r : S b = true
      · rw [if_pos r, if_neg (fun w => by rw [r] at w; exact absurd w.2 (by decide))]
      · have r2 : S b = false := by cases h : S b <;> simp_all
        rw [if_neg r, if_pos ⟨q, r2⟩]
    · rw [if_neg q, if_neg (fun w => q w.1)]
theorem outZ_line {k w g : Nat → Int} {s e : Nat → Nat} {S : Nat → Bool} {P l : Nat} (h : g l = 0 → s l < P ∧ e l < P) : outZ (fun x y => mlI k w g s e x y l) S P = clI_ k w g s e S l := by
  unfold mlI clI_
  by_cases z : g l ≠ 0
  · rw [if_pos z]
    refine Eq.trans ?_ (outZ_0 (S := S) (P := P))
    congr 1
    funext x y
    rw [if_pos z]
  · rw [if_neg z]
    obtain ⟨h1, h2⟩ := h (Decidable.of_not_not z)
    rw [← outZ_one (v := rmW (k l) (w l) 1) h1 h2, ← outZ_one (v := rmW (k l) (w l) 0) h2 h1, ← outZ_add]
    congr 1
    funext x y
    rw [if_neg z]
/-- by pairs is by lines -/
theorem outZ_sum {k w g : Nat → Int} {s e : Nat → Nat} {S : Nat → Bool} {P : Nat} : ∀ n : Nat, (∀ l : Nat, l < n → g l = 0 → s l < P ∧ e l < P) → outZ (fun x y => sumI (mlI k w g s e x y) n) S P = sumI (clI_ k w g s e S) n
  | 0, _ => outZ_0
  | n + 1, h => by
    show outZ (fun x y => sumI (mlI k w g s e x y) n + mlI k w g s e x y n) S P = sumI (clI_ k w g s e S) n + clI_ k w g s e S n
    rw [outZ_add, outZ_sum n (fun l hl => h l (by omega)), outZ_line (h n (by omega))]
/-! ===== the class's room by pairs ===== -/
def kF (f : Nat → Int32) (j : Nat) : Int := (f j).toInt
def wF (f : Nat → Int32) (r : Int) (j : Nat) : Int := (f j).toInt + (if (j : Int) = r then 1 else 0)
def gF (f : Nat → Int32) (j : Nat) : Int := gI (f j).toInt
def nF (f : Nat → Int32) (j : Nat) : Nat := (f j).toNatClampNeg
/-- lets, after n lines -/
def mtx (M : Nat → Nat → Int32) (P : Int) (fk fs fe fw : Nat → Int32) (r : Int) (n : Nat) : Prop := ∀ x y : Nat, (x : Int) < P → y < 12 → (M x y).toInt = sumI (mlI (kF fk) (wF fw r) (gF fs) (nF fs) (nF fe) x y) n
/-- the ends of lines that are there are places -/
def netC (P N : Int) (fs fe : Nat → Int32) : Prop := ∀ j : Nat, (j : Int) < N → (fs j).toInt ≠ -9 → (fs j).toInt < P ∧ (fe j).toInt < P
theorem rmW_rng {k w b : Int} (h0 : 0 ≤ w) (h1 : w ≤ 2001) : 0 ≤ rmW k w b ∧ rmW k w b ≤ 1000000 := by
  unfold rmW
  split
  · omega
  · split <;> omega
theorem wF_rng {fw : Nat → Int32} {r : Int} {j : Nat} (h : rng fw 40 0 2000) (hj : j < 40) : 0 ≤ wF fw r j ∧ wF fw r j ≤ 2001 := by
  have a := h j hj
  unfold wF
  split <;> omega
theorem mlI_rng {fk fs fe fw : Nat → Int32} {r : Int} {x y j : Nat} (h : rng fw 40 0 2000) (hj : j < 40) : 0 ≤ mlI (kF fk) (wF fw r) (gF fs) (nF fs) (nF fe) x y j ∧ mlI (kF fk) (wF fw r) (gF fs) (nF fs) (nF fe) x y j ≤ 2000000 := by
  have a := wF_rng (r := r) h hj
  have b := rmW_rng (k := kF fk j) (b := 1) a.1 a.2
  have c := rmW_rng (k := kF fk j) (b := 0) a.1 a.2
  unfold mlI
  (repeat' split) <;> omega
theorem sumI_rng {g : Nat → Int} {B : Int} : ∀ n : Nat, (∀ j : Nat, j < n → 0 ≤ g j ∧ g j ≤ B) → 0 ≤ sumI g n ∧ sumI g n ≤ B * n
  | 0, _ => by
    show 0 ≤ (0 : Int) ∧ (0 : Int) ≤ B * ((0 : Nat) : Int)
    omega
  | n + 1, h => by
    have a := sumI_rng n (fun j hj => h j (by omega))
    have b := h n (by omega)
    show 0 ≤ sumI g n + g n ∧ sumI g n + g n ≤ B * ((n + 1 : Nat) : Int)
    have e : B * ((n + 1 : Nat) : Int) = B * (n : Int) + B := by
      rw [Int.natCast_add, Int.mul_add]
      omega
    omega
theorem mtx_bd {M : Nat → Nat → Int32} {P : Int} {fk fs fe fw : Nat → Int32} {r : Int} {n x y : Nat} (h : mtx M P fk fs fe fw r n) (hw : rng fw 40 0 2000) (hn : n ≤ 40) (hx : (x : Int) < P) (hy : y < 12) : 0 ≤ (M x y).toInt ∧ (M x y).toInt ≤ 80000000 := by
  have a := sumI_rng (g := mlI (kF fk) (wF fw r) (gF fs) (nF fs) (nF fe) x y) (B := 2000000) n (fun j hj => mlI_rng hw (by omega))
  rw [h x y hx hy]
  omega
theorem zr_st {M M2 : Nat → Nat → Int32} {k : Nat} {g : Nat → Int32} {i i2 : Int32} (e : M2 = va_up M k g) (h : ∀ x y : Nat, (x : Int) < i.toInt → y < 12 → (M x y).toInt = 0) (hg : ∀ j : Nat, j < 12 → g j = 0) (hi : i.toInt = k) (ei : i2.toInt = i.toInt + 1) : ∀ x y : Nat, (x : Int) < i2.toInt → y < 12 → (M2 x y).toInt = 0 := fun x y hx hy => by
  rw [e]
  by_cases z : x = k
  · rw [z, va_up_self, hg y hy]
    decide
  · rw [va_up_ne _ _ z]
    exact h x y (by omega) hy
theorem mtx_0 {M : Nat → Nat → Int32} {P : Int} {fk fs fe fw : Nat → Int32} {r : Int} {i : Int32} (h : ∀ x y : Nat, (x : Int) < i.toInt → y < 12 → (M x y).toInt = 0) (hi : P ≤ i.toInt) : mtx M P fk fs fe fw r (0 : Int32).toNatClampNeg := fun x y hx hy => by
  rw [h x y (by omega) hy]
  rfl
theorem mtx_skip {M : Nat → Nat → Int32} {P : Int} {fk fs fe fw : Nat → Int32} {r : Int} {i i2 : Int32} (h : mtx M P fk fs fe fw r i.toNatClampNeg) (hi : 0 ≤ i.toInt) (ei : i2.toInt = i.toInt + 1) (hm : (fs i.toNatClampNeg).toInt = -9) : mtx M P fk fs fe fw r i2.toNatClampNeg := fun x y hx hy => by
  have c := clI (i := i) hi
  have c2 := clI (i := i2) (by omega)
  rw [show i2.toNatClampNeg = i.toNatClampNeg + 1 by omega]
  show _ = sumI _ i.toNatClampNeg + mlI (kF fk) (wF fw r) (gF fs) (nF fs) (nF fe) x y i.toNatClampNeg
  rw [← h x y hx hy]
  have g : gF fs i.toNatClampNeg = 1 := gI_1 hm
  unfold mlI
  rw [if_pos (by omega)]
  omega
/-- one line more, forth and back -/
theorem mtx_st {M M1 M2 : Nat → Nat → Int32} {P F B : Int} {fk fs fe fw : Nat → Int32} {r : Int} {i i2 a b v1 v2 : Int32} (h : mtx M P fk fs fe fw r i.toNatClampNeg) (hi : 0 ≤ i.toInt) (ei : i2.toInt = i.toInt + 1) (hm : (fs i.toNatClampNeg).toInt ≠ -9) (ea : a = fs i.toNatClampNeg) (eb : b = fe i.toNatClampNeg)
    (e1 : M1 = va_up M a.toNatClampNeg (upd (M a.toNatClampNeg) b.toNatClampNeg v1)) (e2 : M2 = va_up M1 b.toNatClampNeg (upd (M1 b.toNatClampNeg) a.toNatClampNeg v2)) (h1 : v1.toInt = (M a.toNatClampNeg b.toNatClampNeg).toInt + F) (h2 : v2.toInt = (M1 b.toNatClampNeg a.toNatClampNeg).toInt + B) (hF : F = rmW (kF fk i.toNatClampNeg) (wF fw r i.toNatClampNeg) 1) (hB : B = rmW (kF fk i.toNatClampNeg) (wF fw r i.toNatClampNeg) 0) : mtx M2 P fk fs fe fw r i2.toNatClampNeg := fun x y hx hy => by
  have c := clI (i := i) hi
  have c2 := clI (i := i2) (by omega)
  rw [show i2.toNatClampNeg = i.toNatClampNeg + 1 by omega]
  show _ = sumI _ i.toNatClampNeg + mlI (kF fk) (wF fw r) (gF fs) (nF fs) (nF fe) x y i.toNatClampNeg
  rw [← h x y hx hy]
  have g : gF fs i.toNatClampNeg = 0 := gI_0 hm
  have na : nF fs i.toNatClampNeg = a.toNatClampNeg := by unfold nF; rw [ea]
  have nb : nF fe i.toNatClampNeg = b.toNatClampNeg := by unfold nF; rw [eb]
  have m1 : (M1 x y).toInt = (M x y).toInt + if a.toNatClampNeg = x ∧ b.toNatClampNeg = y then F else 0 := by
    rw [e1]
    by_cases q : x = a.toNatClampNeg
    · rw [q, va_up_self]
      by_cases w : y = b.toNatClampNeg
      · rw [w, pk_us, h1, if_pos ⟨rfl, rfl⟩]
      · rw [pk_un w, if_neg (fun z => w z.2.symm)]
        omega
    · rw [va_up_ne _ _ q, if_neg (fun z => q z.1.symm)]
      omega
  have m2 : (M2 x y).toInt = (M1 x y).toInt + if b.toNatClampNeg = x ∧ a.toNatClampNeg = y then B else 0 := by
    rw [e2]
    by_cases q : x = b.toNatClampNeg
    · rw [q, va_up_self]
      by_cases w : y = a.toNatClampNeg
      · rw [w, pk_us, h2, if_pos ⟨rfl, rfl⟩]
      · rw [pk_un w, if_neg (fun z => w z.2.symm)]
        omega
    · rw [va_up_ne _ _ q, if_neg (fun z => q z.1.symm)]
      omega
  unfold mlI
  rw [if_neg (by omega), na, nb, ← hF, ← hB, m2, m1]
  omega
/-! ===== load, leaving: steps ===== -/
section LTF
variable {g5 g6 h5 h6 fk fs fe fw : Nat → Int32} {r : Int} {i i2 v5 v6 : Int32}
/-- letsForth and letsBack, of n lines -/
def ltF (g5 g6 fk fs fw : Nat → Int32) (r : Int) (n : Nat) : Prop := ∀ j : Nat, j < n → (fs j).toInt ≠ -9 → (g5 j).toInt = rmW (kF fk j) (wF fw r j) 1 ∧ (g6 j).toInt = rmW (kF fk j) (wF fw r j) 0
theorem ltF_0 : ltF g5 g6 fk fs fw r (0 : Int32).toNatClampNeg := fun j hj => absurd hj (by rw [cl_0]; omega)
theorem ltF_skip (h : ltF g5 g6 fk fs fw r i.toNatClampNeg) (hi : 0 ≤ i.toInt) (ei : i2.toInt = i.toInt + 1) (hm : (fs i.toNatClampNeg).toInt = -9) : ltF g5 g6 fk fs fw r i2.toNatClampNeg := fun j hj hg => by
  have c := clI (i := i) hi
  have c2 := clI (i := i2) (by omega)
  by_cases e : j = i.toNatClampNeg
  · rw [e] at hg
    exact absurd hm hg
  · exact h j (by omega) hg
theorem ltF_st (h : ltF g5 g6 fk fs fw r i.toNatClampNeg) (e5 : h5 = upd g5 i.toNatClampNeg v5) (e6 : h6 = upd g6 i.toNatClampNeg v6) (hv5 : v5.toInt = rmW (kF fk i.toNatClampNeg) (wF fw r i.toNatClampNeg) 1) (hv6 : v6.toInt = rmW (kF fk i.toNatClampNeg) (wF fw r i.toNatClampNeg) 0) : ltF h5 h6 fk fs fw r (i.toNatClampNeg + 1) := fun j hj hg => by
  rw [e5, e6]
  by_cases e : j = i.toNatClampNeg
  · rw [e, pk_us, pk_us]
    exact ⟨hv5, hv6⟩
  · rw [pk_un e, pk_un e]
    exact h j (by omega) hg
theorem ltF_nx (h : ltF g5 g6 fk fs fw r (i.toNatClampNeg + 1)) (hi : 0 ≤ i.toInt) (ei : i2.toInt = i.toInt + 1) : ltF g5 g6 fk fs fw r i2.toNatClampNeg := by
  have c := clI (i := i) hi
  have c2 := clI (i := i2) (by omega)
  rw [show i2.toNatClampNeg = i.toNatClampNeg + 1 by omega]
  exact h
end LTF
theorem mtx_bd1 {M M1 : Nat → Nat → Int32} {P F : Int} {fk fs fe fw : Nat → Int32} {r : Int} {n a b x y : Nat} {v1 : Int32} (h : mtx M P fk fs fe fw r n) (hw : rng fw 40 0 2000) (hn : n ≤ 40) (e1 : M1 = va_up M a (upd (M a) b v1)) (h1 : v1.toInt = (M a b).toInt + F) (hF : 0 ≤ F ∧ F ≤ 1000000) (ha : (a : Int) < P) (hb : b < 12) (hx : (x : Int) < P) (hy : y < 12) : 0 ≤ (M1 x y).toInt ∧ (M1 x y).toInt ≤ 81000000 := by
  have b0 := mtx_bd h hw hn hx hy
  have b1 := mtx_bd h hw hn ha hb
  rw [e1]
  by_cases q : x = a
  · rw [q, va_up_self]
    by_cases w : y = b
    · rw [w, pk_us, h1]
      omega
    · rw [pk_un w, ← q]
      omega
  · rw [va_up_ne _ _ q]
    omega
theorem clI_rng {k w g : Nat → Int} {s e : Nat → Nat} {S : Nat → Bool} {l : Nat} (h : 0 ≤ w l ∧ w l ≤ 2001) : 0 ≤ clI_ k w g s e S l ∧ clI_ k w g s e S l ≤ 1000000 := by
  have b := rmW_rng (k := k l) (b := 1) h.1 h.2
  have c := rmW_rng (k := k l) (b := 0) h.1 h.2
  unfold clI_
  by_cases z : g l ≠ 0
  · rw [if_pos z]
    omega
  · rw [if_neg z]
    by_cases p : S (s l) = true ∧ S (e l) = false
    · rw [if_pos p, if_neg (fun q => by rw [p.2] at q; exact absurd q.1 (by decide))]
      omega
    · rw [if_neg p]
      split <;> omega
theorem clI_same {k w g k2 w2 g2 : Nat → Int} {s e s2 e2 : Nat → Nat} {S T : Nat → Bool} {l : Nat} (hg : g l ≠ 0 ↔ g2 l ≠ 0) (h : g l = 0 → k l = k2 l ∧ w l = w2 l ∧ s l = s2 l ∧ e l = e2 l ∧ S (s l) = T (s l) ∧ S (e l) = T (e l)) : clI_ k w g s e S l = clI_ k2 w2 g2 s2 e2 T l := by
  unfold clI_
  by_cases z : g l ≠ 0
  · rw [if_pos z, if_pos (hg.mp z)]
  · obtain ⟨a, b, c, d, x, y⟩ := h (Decidable.of_not_not z)
    rw [if_neg z, if_neg (fun q => z (hg.mpr q)), x, y, a, b, c, d]
/-- what a set lets out, of both sides' nets -/
def cutC (k w g : Nat → Int) (s e : Nat → Nat) (n : Nat) (S : Nat → Bool) : Int := sumI (clI_ k w g s e S) n
def cutF (fk fs fe fw : Nat → Int32) (r : Int) (n : Nat) (S : Nat → Bool) : Int := cutC (kF fk) (wF fw r) (gF fs) (nF fs) (nF fe) n S
def cutR (f5 f6 f7 f8 f10 : Nat → Int32) (r : Int) (n : Nat) (S : Nat → Bool) : Int := cutC (kF f5) (wF f8 r) (kF f10) (nF f6) (nF f7) n S
theorem cutF_rng {fk fs fe fw : Nat → Int32} {r : Int} {n : Nat} {S : Nat → Bool} (hw : rng fw 40 0 2000) (hn : n ≤ 40) : 0 ≤ cutF fk fs fe fw r n S ∧ cutF fk fs fe fw r n S ≤ 40000000 := by
  have a := sumI_rng (g := clI_ (kF fk) (wF fw r) (gF fs) (nF fs) (nF fe) S) (B := 1000000) n (fun j hj => clI_rng (wF_rng hw (by omega)))
  unfold cutF cutC
  omega
theorem nF_lt {f : Nat → Int32} {j : Nat} {P : Int32} (h0 : 0 ≤ (f j).toInt) (h1 : (f j).toInt < P.toInt) : nF f j < P.toNatClampNeg := by
  have c := clI (i := f j) h0
  have c2 := clI (i := P) (by omega)
  unfold nF
  omega
theorem netC_at {P N : Int32} {fs fe : Nat → Int32} (hc : netC P.toInt N.toInt fs fe) (hp : prng fs fe 40) (hN : N.toInt ≤ 40) {l : Nat} (hl : l < N.toNatClampNeg) (hg : gF fs l = 0) : nF fs l < P.toNatClampNeg ∧ nF fe l < P.toNatClampNeg := by
  have c : ((N.toNatClampNeg : Nat) : Int) = N.toInt := by
    have h : ((N.toNatClampNeg : Nat) : Int) = ((N.toInt.toNat : Nat) : Int) := rfl
    omega
  have hm : (fs l).toInt ≠ -9 := fun e => by
    have g1 : gF fs l = 1 := gI_1 e
    omega
  have a := hc l (by omega) hm
  rcases hp l (by omega) with b | b
  · exact absurd b hm
  · exact ⟨nF_lt b.1 a.1, nF_lt b.2.2.1 a.2⟩
theorem out_mtx {M : Nat → Nat → Int32} {P N : Int32} {fk fs fe fw : Nat → Int32} {r : Int} {S : Nat → Bool} (h : mtx M P.toInt fk fs fe fw r N.toNatClampNeg) (hc : netC P.toInt N.toInt fs fe) (hp : prng fs fe 40) (hP : 0 ≤ P.toInt ∧ P.toInt ≤ 12) (hN : N.toInt ≤ 40) : outZ (fun x y => (M x y).toInt) S P.toNatClampNeg = cutF fk fs fe fw r N.toNatClampNeg S := by
  have c := clI (i := P) hP.1
  unfold cutF cutC
  rw [← outZ_sum (P := P.toNatClampNeg) N.toNatClampNeg (fun l hl hg => netC_at hc hp hN hl hg)]
  unfold outZ
  refine sumI_congr _ (fun x hx => ?_)
  have e : rowZ (fun x y => (M x y).toInt) S P.toNatClampNeg x = rowZ (fun x y => sumI (mlI (kF fk) (wF fw r) (gF fs) (nF fs) (nF fe) x y) N.toNatClampNeg) S P.toNatClampNeg x := by
    unfold rowZ
    refine sumI_congr _ (fun y hy => ?_)
    dsimp only
    rw [h x y (by omega) (by omega)]
  rw [e]
theorem cutF_set {fk fs fe fw : Nat → Int32} {r : Int} {P N : Int32} {S T : Nat → Bool} (hc : netC P.toInt N.toInt fs fe) (hp : prng fs fe 40) (hN : N.toInt ≤ 40) (h : ∀ x : Nat, x < P.toNatClampNeg → S x = T x) : cutF fk fs fe fw r N.toNatClampNeg S = cutF fk fs fe fw r N.toNatClampNeg T := by
  unfold cutF cutC
  refine sumI_congr _ (fun l hl => clI_same Iff.rfl (fun hg => ?_))
  have a := netC_at hc hp hN hl hg
  exact ⟨rfl, rfl, rfl, rfl, h _ a.1, h _ a.2⟩
theorem sumI_mono {f : Nat → Int} : ∀ (d k : Nat), (∀ j : Nat, j < k + d → 0 ≤ f j) → sumI f k ≤ sumI f (k + d)
  | 0, k, _ => Int.le_refl _
  | d + 1, k, h => by
    have a := sumI_mono d k (fun j hj => h j (by omega))
    have b := h (k + d) (by omega)
    show sumI f k ≤ sumI f (k + d) + f (k + d)
    omega
theorem sumI_nn {f : Nat → Int} {n : Nat} (h : ∀ j : Nat, j < n → 0 ≤ f j) : 0 ≤ sumI f n := by
  have a := sumI_mono (f := f) n 0 (fun j hj => h j (by omega))
  rw [Nat.zero_add] at a
  exact a
theorem rowZ_nn {M : Nat → Nat → Int} {S : Nat → Bool} {P x : Nat} (hM : ∀ y : Nat, y < P → 0 ≤ M x y) : 0 ≤ rowZ M S P x := by
  unfold rowZ
  refine sumI_nn (fun y hy => ?_)
  try dsimp only
  split
  · omega
  · exact hM y hy
theorem lv_bd {M : Nat → Nat → Int} {S : Nat → Bool} {P k : Nat} {B : Int} (hM : ∀ x y : Nat, x < P → y < P → 0 ≤ M x y) (hT : outZ M S P ≤ B) (hk : k < P) (hS : S k = true) : 0 ≤ sumI (fun x => if S x = true then rowZ M S P x else 0) k ∧ sumI (fun x => if S x = true then rowZ M S P x else 0) k + rowZ M S P k ≤ B := by
  have nn : ∀ j : Nat, j < P → 0 ≤ (fun x => if S x = true then rowZ M S P x else 0) j := fun j hj => by
    try dsimp only
    split
    · exact rowZ_nn (fun y hy => hM j y hj hy)
    · omega
  refine ⟨sumI_nn (fun j hj => nn j (by omega)), ?_⟩
  have a := sumI_mono (f := fun x => if S x = true then rowZ M S P x else 0) (P - (k + 1)) (k + 1) (fun j hj => nn j (by omega))
  rw [show k + 1 + (P - (k + 1)) = P by omega] at a
  have b : sumI (fun x => if S x = true then rowZ M S P x else 0) (k + 1) = sumI (fun x => if S x = true then rowZ M S P x else 0) k + rowZ M S P k := by
    show sumI (fun x => if S x = true then rowZ M S P x else 0) k + (if S k = true then rowZ M S P k else 0) = _
    rw [if_pos hS]
  have c : sumI (fun x => if S x = true then rowZ M S P x else 0) P ≤ B := hT
  omega
theorem cnt_b {S : Nat → Bool} {V : Nat → Int} {i i2 a a2 w : Int32} (h : a.toInt = sumI (fun y => if S y = true then V y else 0) i.toNatClampNeg) (hw : w.toInt = if S i.toNatClampNeg = true then 1 else 0) (hr : (w.toInt = 1 ∧ a2.toInt = a.toInt + V i.toNatClampNeg) ∨ (w.toInt ≠ 1 ∧ a2.toInt = a.toInt)) (hi : 0 ≤ i.toInt) (ei : i2.toInt = i.toInt + 1) : a2.toInt = sumI (fun y => if S y = true then V y else 0) i2.toNatClampNeg := by
  refine cnt_st h ?_ hi ei
  try dsimp only
  by_cases z : S i.toNatClampNeg = true
  · rw [if_pos z] at hw ⊢
    omega
  · rw [if_neg z] at hw ⊢
    omega
/-! bits -/
theorem and1I {z w : Int32} (ew : w = z &&& 1) : w.toInt = if bt z 0 = true then 1 else 0 := by
  have e : w.toBitVec = BitVec.setWidth 32 (BitVec.ofBool (z.toBitVec.getLsbD 0)) := by
    rw [ew, Int32.toBitVec_and]
    exact BitVec.and_one_eq_setWidth_ofBool_getLsbD
  unfold bt
  show w.toBitVec.toInt = _
  rw [e]
  cases z.toBitVec.getLsbD 0 <;> rfl
theorem bI_w {x y z w : Int32} (h0 : 0 ≤ y.toInt) (h1 : y.toInt ≤ 11) (ez : z = x >>> (y &&& 31)) (ew : w = z &&& 1) : w.toInt = if bt x y.toNatClampNeg = true then 1 else 0 := by
  have c := clI (i := y) h0
  have e := nI_cl h0
  have b := b_sshr y.toNatClampNeg (by omega) x (i := 0) (by omega)
  rw [← e, ← ez, if_pos (by omega), Nat.add_zero] at b
  rw [and1I ew, b]
theorem bI_eq {b : Bool} {w c : Int32} (h : w.toInt = if b = true then 1 else 0) (hc : (w.toInt = 1 ∧ c.toInt = 1) ∨ (w.toInt ≠ 1 ∧ c.toInt = 0)) : b = decide (c.toInt = 1) := by
  cases b
  · rw [if_neg (by decide)] at h
    rw [eq_comm, decide_eq_false_iff_not]
    omega
  · rw [if_pos rfl] at h
    rw [eq_comm, decide_eq_true_iff]
    omega
theorem clI_at {k w g : Nat → Int} {s e : Nat → Nat} {S : Nat → Bool} {l : Nat} {c4 c5 v : Int} (hg : g l = 0) (ha : S (s l) = decide (c4 = 1)) (hb : S (e l) = decide (c5 = 1)) (hv : v = if c4 = 1 ∧ c5 ≠ 1 then rmW (k l) (w l) 1 else if c5 = 1 ∧ c4 ≠ 1 then rmW (k l) (w l) 0 else 0) : v = clI_ k w g s e S l := by
  unfold clI_
  rw [if_neg (by omega), ha, hb, hv]
  by_cases p : c4 = 1 <;> by_cases q : c5 = 1 <;> simp [p, q]
theorem clI_miss {k w g : Nat → Int} {s e : Nat → Nat} {S : Nat → Bool} {l : Nat} (hg : g l ≠ 0) : clI_ k w g s e S l = 0 := if_pos hg
theorem bt_m1 : ∀ i : Nat, i < 32 → bt (-1) i = true := by decide +kernel
theorem bt_o : ∀ i : Nat, i < 32 → bt 1 i = decide (i = 0) := by decide +kernel
theorem b_not (x : Int32) {i : Nat} (hi : i < 32) : bt (x ^^^ (-1)) i = !bt x i := by
  have e : bt (x ^^^ (-1)) i = (bt x i ^^ bt (-1) i) := by
    unfold bt
    rw [Int32.toBitVec_xor, BitVec.getLsbD_xor]
  rw [e, bt_m1 i hi]
  cases bt x i <;> rfl
theorem bt_sh {y : Int32} (h0 : 0 ≤ y.toInt) (h1 : y.toInt ≤ 12) {i : Nat} (hi : i < 32) : bt ((1 : Int32) <<< (y &&& 31)) i = decide (i = y.toNatClampNeg) := by
  have c := clI (i := y) h0
  have e := nI_cl h0
  have b := b_shl y.toNatClampNeg (by omega) 1 (i := i) hi
  rw [← e] at b
  rw [b, bt_o _ (by omega)]
  by_cases q : i = y.toNatClampNeg
  · rw [q]
    simp
  · by_cases w : y.toNatClampNeg ≤ i
    · have z : i - y.toNatClampNeg ≠ 0 := by omega
      simp [q, z]
    · simp [q, w]
theorem bt_all : ∀ n : Nat, n < 13 → ∀ i : Nat, i < n → bt ((1 : Int32) <<< (nI n &&& 31) - 1) i = true := by decide +kernel
/-- the set of size(): with s, without t -/
def setS (a : Int32) (s t x : Nat) : Bool := (bt a x || decide (x = s)) && !decide (x = t)
theorem mask_c {a s t b1 o b2 n z : Int32} (hs : 0 ≤ s.toInt ∧ s.toInt ≤ 11) (ht : 0 ≤ t.toInt ∧ t.toInt ≤ 11) (e1 : b1 = (1 : Int32) <<< (s &&& 31)) (e2 : o = a ||| b1) (e3 : b2 = (1 : Int32) <<< (t &&& 31)) (e4 : n = b2 ^^^ (-1)) (e5 : z = o &&& n) {x : Nat} (hx : x < 32) : bt z x = setS a s.toNatClampNeg t.toNatClampNeg x := by
  unfold setS
  rw [e5, b_and, e4, b_not _ hx, e3, bt_sh ht.1 (by omega) hx, e2, b_or, e1, bt_sh hs.1 (by omega) hx]
theorem mask_r {a s t P m al y b1 o b2 n z : Int32} (hs : 0 ≤ s.toInt ∧ s.toInt ≤ 11) (ht : 0 ≤ t.toInt ∧ t.toInt ≤ 11) (hP : 0 ≤ P.toInt ∧ P.toInt ≤ 12) (em : m = (1 : Int32) <<< (P &&& 31)) (el : al = m - 1) (ey : y = a &&& al) (e1 : b1 = (1 : Int32) <<< (s &&& 31)) (e2 : o = y ||| b1) (e3 : b2 = (1 : Int32) <<< (t &&& 31)) (e4 : n = b2 ^^^ (-1)) (e5 : z = o &&& n) {x : Nat} (hx : x < P.toNatClampNeg) : bt z x = setS a s.toNatClampNeg t.toNatClampNeg x := by
  have c := clI (i := P) hP.1
  have e := nI_cl hP.1
  have b := bt_all P.toNatClampNeg (by omega) x hx
  rw [← e, ← em, ← el] at b
  have q : bt y x = bt a x := by rw [ey, b_and, b, Bool.and_true]
  unfold setS
  rw [e5, b_and, e4, b_not _ (by omega), e3, bt_sh ht.1 (by omega) (by omega), e2, b_or, e1, bt_sh hs.1 (by omega) (by omega), q]
/-- ENDLESS or the number -/
def tldI (n : Int) : Int := if 1000000 ≤ n then -5 else n
def mn6 (n : Int) : Int := if n < 1000000 then n else 1000000
/-- the reference's room -/
theorem roomI {r k w b l z : Int32} (h : r = ml_room k w b l z) (h0 : 0 ≤ w.toInt ∧ w.toInt ≤ 2000) : r.toInt = rmW k.toInt (w.toInt + if l.toInt = z.toInt then 1 else 0) b.toInt := by
  have i1 : ∀ x y : Int32, x = y ↔ x.toInt = y.toInt := fun x y => Int32.toInt_inj.symm
  have z2 : (2 : Int32).toInt = 2 := by decide
  have z1 : (1 : Int32).toInt = 1 := by decide
  have z0 : (0 : Int32).toInt = 0 := by decide
  have z5 : ((-5) : Int32).toInt = -5 := by decide
  have z6 : (1000000 : Int32).toInt = 1000000 := by decide
  have hl := letsI (r := ml_lets k w b) rfl
  have hp : (w + 1).toInt = w.toInt + 1 := by
    have := addI (a := w) (b := 1) (by omega) (by omega)
    omega
  rw [h]
  unfold ml_room rmW
  by_cases k2 : k.toInt = 2
  · rw [if_pos k2] at hl
    rw [if_pos ((i1 _ _).mpr (by omega)), if_pos k2, z6]
  · rw [if_neg k2] at hl
    rw [if_neg k2]
    by_cases k1 : k.toInt = 1 ∧ b.toInt = 0
    · rw [if_pos k1] at hl
      rw [if_neg (fun q => by rw [i1] at q; omega), if_neg (fun q => q.2 ⟨(i1 _ _).mpr (by omega), (i1 _ _).mpr (by omega)⟩), if_pos k1]
      exact hl
    · rw [if_neg k1] at hl
      have el : ml_lets k w b = w := (i1 _ _).mpr hl
      rw [if_neg (fun q => by rw [i1] at q; omega), if_neg k1, el]
      by_cases q : l.toInt = z.toInt
      · rw [if_pos ⟨(i1 _ _).mpr q, fun w => k1 ⟨by rw [w.1]; exact z1, by rw [w.2]; exact z0⟩⟩, if_pos q]
        exact hp
      · rw [if_neg (fun w => q ((i1 _ _).mp w.1)), if_neg q]
        omega
theorem row_not {M : Nat → Nat → Int32} {a b : Int32} {x P : Nat} (hP : P ≤ 12) (e : b = a ^^^ (-1)) : sumI (fun y => if bt b y = true then (M x y).toInt else 0) P = rowZ (fun x y => (M x y).toInt) (bt a) P x := by
  unfold rowZ
  refine sumI_congr P (fun y hy => ?_)
  try dsimp only
  rw [e, b_not _ (by omega)]
  cases bt a y <;> rfl
theorem b_tr {b : Bool} {w : Int32} (h : w.toInt = if b = true then 1 else 0) (hw : w.toInt = 1) : b = true := by
  cases b
  · rw [if_neg (by decide)] at h
    omega
  · rfl
theorem cutR_set {f5 f6 f7 f8 f10 : Nat → Int32} {r : Int} {P N : Int32} {S T : Nat → Bool} (hc : netE P.toInt N.toInt f6 f7 f10) (h6 : rng f6 40 0 11) (h7 : rng f7 40 0 11) (hN : N.toInt ≤ 40) (hP : 0 ≤ P.toInt) (h : ∀ x : Nat, x < P.toNatClampNeg → S x = T x) : cutR f5 f6 f7 f8 f10 r N.toNatClampNeg S = cutR f5 f6 f7 f8 f10 r N.toNatClampNeg T := by
  have c : ((N.toNatClampNeg : Nat) : Int) = ((N.toInt.toNat : Nat) : Int) := rfl
  unfold cutR cutC
  refine sumI_congr _ (fun l hl => clI_same Iff.rfl (fun hg => ?_))
  have a := hc l (by omega) hg
  have b6 := h6 l (by omega)
  have b7 := h7 l (by omega)
  exact ⟨rfl, rfl, rfl, rfl, h _ (nF_lt b6.1 a.1), h _ (nF_lt b7.1 a.2)⟩
theorem told_mn {r a : Int32} {n : Int} (ha : a.toInt = mn6 n) (hr : r.toInt = if a.toInt = 1000000 then -5 else a.toInt) : r.toInt = tldI n := by
  rw [hr, ha]
  unfold mn6 tldI
  by_cases h : n < 1000000
  · rw [if_pos h, if_neg (by omega), if_neg (by omega)]
  · rw [if_neg h, if_pos rfl, if_pos (by omega)]
/-- the nets of both sides let the same out -/
theorem cut_same {vp vn P N : Int32} {fk fs fe fw fp f5 f6 f7 f8 f9 f10 : Nat → Int32} {r : Int} {S : Nat → Bool} (h : nrel vp vn fk fs fe fw fp P N f5 f6 f7 f8 f9 f10) (r6 : rng f6 40 0 11) (hN : 0 ≤ N.toInt ∧ N.toInt ≤ 40) : cutF fk fs fe fw r vn.toNatClampNeg S = cutR f5 f6 f7 f8 f10 r N.toNatClampNeg S := by
  have c := clI (i := N) hN.1
  unfold cutF cutR cutC
  rw [h.2.1]
  refine sumI_congr _ (fun l hl => ?_)
  obtain ⟨a1, a2, _, a4, a5⟩ := h.2.2 l (by omega)
  have b6 := r6 l (by omega)
  have e : gF fs l ≠ 0 ↔ kF f10 l ≠ 0 := by
    unfold gF kF
    by_cases z : (f10 l).toInt = 0
    · rw [gI_0 (by rw [(a5 z).1]; omega)]
      omega
    · rw [gI_1 (a4 z).1]
      omega
  refine clI_same e (fun hg => ?_)
  have z : (f10 l).toInt = 0 := Decidable.of_not_not (fun w => absurd hg (e.mpr w))
  obtain ⟨x, y⟩ := a5 z
  unfold kF wF nF
  rw [a1, a2, x, y]
  exact ⟨rfl, rfl, rfl, rfl, rfl, rfl⟩
theorem netC_rel {vp vn P N : Int32} {fk fs fe fw fp f5 f6 f7 f8 f9 f10 : Nat → Int32} (h : nrel vp vn fk fs fe fw fp P N f5 f6 f7 f8 f9 f10) (hn : netE P.toInt N.toInt f6 f7 f10) : netC vp.toInt vn.toInt fs fe := fun j hj hm => by
  rw [h.2.1] at hj
  obtain ⟨_, _, _, a4, a5⟩ := h.2.2 j hj
  have z : (f10 j).toInt = 0 := Decidable.of_not_not (fun w => absurd (a4 w).1 hm)
  obtain ⟨x, y⟩ := a5 z
  rw [x, y, h.1]
  exact hn j hj z
theorem ans_size {vp vn P N a1 a2 r1 r2 : Int32} {fk fs fe fw fp f5 f6 f7 f8 f9 f10 : Nat → Int32} (h : nrel vp vn fk fs fe fw fp P N f5 f6 f7 f8 f9 f10) (r6 : rng f6 40 0 11) (hN : 0 ≤ N.toInt ∧ N.toInt ≤ 40) {S : Nat → Bool} (w1 : (mgI a1.toInt a2.toInt vp.toInt = 0 → r1.toInt = tldI (cutF fk fs fe fw (-9) vn.toNatClampNeg S)) ∧ (mgI a1.toInt a2.toInt vp.toInt ≠ 0 → r1.toInt = -1)) (w2 : (mgI a1.toInt a2.toInt P.toInt = 0 → r2.toInt = tldI (cutR f5 f6 f7 f8 f10 (-9) N.toNatClampNeg S)) ∧ (mgI a1.toInt a2.toInt P.toInt ≠ 0 → r2.toInt = -1)) : r1 = r2 := by
  rw [h.1, cut_same h r6 hN] at w1
  refine Int32.toInt_inj.mp ?_
  by_cases z : mgI a1.toInt a2.toInt P.toInt = 0
  · rw [w1.1 z, w2.1 z]
  · rw [w1.2 z, w2.2 z]
