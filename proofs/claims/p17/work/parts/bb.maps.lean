section
/-! ===== one step down a chain of cases ===== -/
theorem if_p {c : Prop} [Decidable c] {a b x : Int} (h : c) (e : a = x) : (if c then a else b) = x := by rw [if_pos h, e]
theorem if_n {c : Prop} [Decidable c] {a b x : Int} (h : ¬ c) (e : b = x) : (if c then a else b) = x := by rw [if_neg h, e]
theorem if_ps {c : Prop} [Decidable c] {a b x : Int} (h : c) (e : x = a) : x = (if c then a else b) := by rw [if_pos h, e]
theorem if_ns {c : Prop} [Decidable c] {a b x : Int} (h : ¬ c) (e : x = b) : x = (if c then a else b) := by rw [if_neg h, e]
theorem if_pz {c : Prop} [Decidable c] {a b x : Int} (h : c) (e : a ≠ x) : (if c then a else b) ≠ x := by rw [if_pos h]; exact e
theorem if_nz {c : Prop} [Decidable c] {a b x : Int} (h : ¬ c) (e : b ≠ x) : (if c then a else b) ≠ x := by rw [if_neg h]; exact e
/-! ===== maps, exactly ===== -/
noncomputable def f4_ {α : Type} (a b c d : α) (i : Nat) : α := if i = 0 then a else if i = 1 then b else if i = 2 then c else d
theorem f4_c0 {α : Type} {a b c d : α} : f4_ a b c d (0 : Int32).toNatClampNeg = a := by rw [cl_0]; rfl
theorem f4_c1 {α : Type} {a b c d : α} : f4_ a b c d (1 : Int32).toNatClampNeg = b := by rw [cl_1]; rfl
theorem f4_c2 {α : Type} {a b c d : α} : f4_ a b c d (2 : Int32).toNatClampNeg = c := by rw [cl_2]; rfl
theorem f4_c3 {α : Type} {a b c d : α} : f4_ a b c d (3 : Int32).toNatClampNeg = d := by rw [cl_3]; rfl
noncomputable def eq4 {α : Type} (F G : Nat → α) : Prop := ∀ i : Nat, i < 4 → F i = G i
theorem eq4_rf {α : Type} {F : Nat → α} : eq4 F F := fun _ _ => rfl
theorem f4_u0 {α : Type} {a b c d x : α} : eq4 (f4_ x b c d) (va_up (f4_ a b c d) (0 : Int32).toNatClampNeg x) := fun i hi => by
  rw [cl_0]
  have h : i = 0 ∨ i = 1 ∨ i = 2 ∨ i = 3 := by omega
  rcases h with rfl | rfl | rfl | rfl <;> first | rfl | (rw [va_up_self]; rfl) | (rw [va_up_ne _ _ (by decide)]; rfl)
theorem f4_u1 {α : Type} {a b c d x : α} : eq4 (f4_ a x c d) (va_up (f4_ a b c d) (1 : Int32).toNatClampNeg x) := fun i hi => by
  rw [cl_1]
  have h : i = 0 ∨ i = 1 ∨ i = 2 ∨ i = 3 := by omega
  rcases h with rfl | rfl | rfl | rfl <;> first | rfl | (rw [va_up_self]; rfl) | (rw [va_up_ne _ _ (by decide)]; rfl)
theorem f4_u2 {α : Type} {a b c d x : α} : eq4 (f4_ a b x d) (va_up (f4_ a b c d) (2 : Int32).toNatClampNeg x) := fun i hi => by
  rw [cl_2]
  have h : i = 0 ∨ i = 1 ∨ i = 2 ∨ i = 3 := by omega
  rcases h with rfl | rfl | rfl | rfl <;> first | rfl | (rw [va_up_self]; rfl) | (rw [va_up_ne _ _ (by decide)]; rfl)
theorem f4_u3 {α : Type} {a b c d x : α} : eq4 (f4_ a b c x) (va_up (f4_ a b c d) (3 : Int32).toNatClampNeg x) := fun i hi => by
  rw [cl_3]
  have h : i = 0 ∨ i = 1 ∨ i = 2 ∨ i = 3 := by omega
  rcases h with rfl | rfl | rfl | rfl <;> first | rfl | (rw [va_up_self]; rfl) | (rw [va_up_ne _ _ (by decide)]; rfl)
noncomputable def mapRI (a k n : Int) : Int := if ¬ ((0 ≤ a ∧ a < 4) ∧ (0 ≤ k ∧ k < 3) ∧ n ≤ 6) then -1 else if n < 0 then -15 else 0
noncomputable def rowRI (a r n has rows : Int) : Int := if ¬ ((0 ≤ a ∧ a < 4) ∧ n ≤ 5) then -1 else if has = 0 then -11 else if ¬ (0 ≤ r ∧ r < rows) then -12 else if n < 0 then -15 else 0
noncomputable def wrgI (a k r i has kind rows len : Int) : Int := if ¬ ((0 ≤ a ∧ a < 4) ∧ (0 ≤ k ∧ k < 3)) then -1 else if has = 0 then -11 else if kind ≠ k then -13 else if ¬ (0 ≤ r ∧ r < rows) then -12 else if len < 0 then -11 else if ¬ (0 ≤ i ∧ i < len) then -12 else 0
noncomputable def cpyI (a r i o j n has rows la lb : Int) : Int := if ¬ (0 ≤ a ∧ a < 4) then -1 else if has = 0 then -11 else if ¬ ((0 ≤ r ∧ r < rows) ∧ (0 ≤ o ∧ o < rows)) then -12 else if la < 0 ∨ lb < 0 then -11 else if ¬ ((0 ≤ i ∧ 0 ≤ n ∧ i + n ≤ la) ∧ (0 ≤ j ∧ 0 ≤ n ∧ j + n ≤ lb)) then -12 else 0
noncomputable def hasI (mr : Int) : Int := if mr = -9 then 0 else 1
/-- a number as a map of kind k holds it -/
noncomputable def putV (k : Int) (v : Int64) : Int64 := if k = 0 then v.toInt32.toInt16.toInt32.toInt64 else if k = 1 then v.toInt32.toInt64 else v
theorem cpyI_a {a r i o j n h w x y : Int} (h0 : 0 ≤ a) (h1 : a < 4) : cpyI a r i o j n h w x y = cpyI 0 r i o j n h w x y := by
  unfold cpyI
  rw [if_neg (show ¬ ¬ (0 ≤ a ∧ a < 4) from fun q => q ⟨h0, h1⟩), if_neg (show ¬ ¬ ((0 : Int) ≤ 0 ∧ (0 : Int) < 4) from fun q => q ⟨by omega, by omega⟩)]
/-- a row that is missing, or has up to 5 numbers -/
noncomputable def lok (f : Nat → Int32) (n : Nat) : Prop := ∀ j : Nat, j < n → (f j).toInt = -9 ∨ (0 ≤ (f j).toInt ∧ (f j).toInt ≤ 5)
theorem lok_upd {f : Nat → Int32} {n k : Nat} {x : Int32} (h : lok f n) (hx : x.toInt = -9 ∨ (0 ≤ x.toInt ∧ x.toInt ≤ 5)) : lok (upd f k x) n := fun j hj => by
  by_cases e : j = k
  · subst e
    rw [pk_us]
    exact hx
  · rw [pk_un e]
    exact h j hj
theorem nine6 {f g g2 : Nat → Int32} {b : Int} {k k2 y : Int32} (h : ∀ q : Nat, g q = if b ≤ (q : Int) ∧ (q : Int) < b + k.toInt then (-9) else f q) (e : g2 = upd g y.toNatClampNeg (-9)) (hy : y.toInt = b + k.toInt) (hb : 0 ≤ b) (hk : 0 ≤ k.toInt) (e2 : k2.toInt = k.toInt + 1) : ∀ q : Nat, g2 q = if b ≤ (q : Int) ∧ (q : Int) < b + k2.toInt then (-9) else f q := fun q => by
  have c := clI (i := y) (by omega)
  rw [e]
  by_cases z : q = y.toNatClampNeg
  · rw [z, pk_us, if_pos (by omega)]
  · rw [pk_un z, h q]
    by_cases w : b ≤ (q : Int) ∧ (q : Int) < b + k.toInt
    · rw [if_pos w, if_pos (by omega)]
    · rw [if_neg w, if_neg (by omega)]
theorem nine0 {f : Nat → Int32} {b : Int} : ∀ q : Nat, f q = if b ≤ (q : Int) ∧ (q : Int) < b + (0 : Int32).toInt then (-9) else f q := fun q => by
  have z : (0 : Int32).toInt = 0 := by decide
  rw [if_neg (by omega)]
theorem nineE {f g : Nat → Int32} {b : Int} {k : Int32} (h : ∀ q : Nat, g q = if b ≤ (q : Int) ∧ (q : Int) < b + k.toInt then (-9) else f q) (h5 : k.toInt = 6) : ∀ q : Nat, g q = if b ≤ (q : Int) ∧ (q : Int) < b + 6 then (-9) else f q := fun q => by
  rw [h q, h5]
theorem nine_lok {f g : Nat → Int32} {b : Int} {n : Nat} (h : ∀ q : Nat, g q = if b ≤ (q : Int) ∧ (q : Int) < b + 6 then (-9) else f q) (hf : lok f n) : lok g n := fun j hj => by
  rw [h j]
  split
  · exact Or.inl (by decide)
  · exact hf j hj
/-- the maps of both sides are the same -/
noncomputable def mrel (mk mr : Nat → Int32) (fl : Nat → Nat → Int32) (fn : Nat → Nat → Int64) (f15 f16 f17 f18 : Nat → Int32) (f19 : Nat → Int64) : Prop := ∀ i : Nat, i < 4 → ((mr i).toInt = -9 ↔ (f15 i).toInt = 0) ∧ ((mr i).toInt ≠ -9 → mk i = f16 i ∧ mr i = f17 i ∧ (∀ r : Nat, r < 6 → fl i r = f18 (6 * i + r)) ∧ (∀ q : Nat, q < 30 → (fl i (q / 5)).toInt ≠ -9 → fn i q = f19 (30 * i + q)))
section MREL
variable {mk mr mk2 mr2 : Nat → Int32} {fl fl2 : Nat → Nat → Int32} {fn fn2 : Nat → Nat → Int64} {f15 f16 f17 f18 e15 e16 e17 e18 : Nat → Int32} {f19 e19 : Nat → Int64} {a k r i n o j : Int32}
theorem mrel_cg (h : mrel mk mr fl fn f15 f16 f17 f18 f19) (h1 : eq4 mk2 mk) (h2 : eq4 mr2 mr) (h3 : eq4 fl2 fl) (h4 : eq4 fn2 fn) : mrel mk2 mr2 fl2 fn2 f15 f16 f17 f18 f19 := fun q hq => by
  rw [h1 q hq, h2 q hq, h3 q hq, h4 q hq]
  exact h q hq
theorem f4_same {α : Type} {x : α} {q : Nat} : f4_ x x x x q = x := by
  unfold f4_
  (repeat' split) <;> rfl
theorem mrel_0 : mrel (f4_ 0 0 0 0) (f4_ (-9) (-9) (-9) (-9)) (f4_ (fun _ => 0) (fun _ => 0) (fun _ => 0) (fun _ => 0)) (f4_ (fun _ => 0) (fun _ => 0) (fun _ => 0) (fun _ => 0)) (fun _ => 0) (fun _ => 0) (fun _ => 0) (fun _ => 0) (fun _ => 0) := fun q _ => by
  rw [f4_same (x := ((-9) : Int32))]
  exact ⟨⟨fun _ => (by decide : (0 : Int32).toInt = 0), fun _ => by decide⟩, fun h => absurd (by decide) h⟩
theorem lok_0 {m : Nat} : lok (fun _ => 0) m := fun _ _ => Or.inr (by decide : 0 ≤ (0 : Int32).toInt ∧ (0 : Int32).toInt ≤ 5)
theorem has_same (h : mrel mk mr fl fn f15 f16 f17 f18 f19) {q : Nat} (hq : q < 4) : hasI (mr q).toInt = 0 ↔ (f15 q).toInt = 0 := by
  have a := (h q hq).1
  unfold hasI
  constructor
  · intro z
    by_cases w : (mr q).toInt = -9
    · exact a.mp w
    · rw [if_neg w] at z
      omega
  · intro z
    rw [if_pos (a.mpr z)]
theorem row_same (h : mrel mk mr fl fn f15 f16 f17 f18 f19) : rowRI a.toInt r.toInt n.toInt (hasI (mr a.toNatClampNeg).toInt) (mr a.toNatClampNeg).toInt = rowRI a.toInt r.toInt n.toInt (f15 a.toNatClampNeg).toInt (f17 a.toNatClampNeg).toInt := by
  unfold rowRI
  by_cases w : (0 ≤ a.toInt ∧ a.toInt < 4) ∧ n.toInt ≤ 5
  · have c := clI (i := a) w.1.1
    have hq : a.toNatClampNeg < 4 := by omega
    rw [if_neg (not_not_intro w), if_neg (not_not_intro w)]
    by_cases z : (f15 a.toNatClampNeg).toInt = 0
    · rw [if_pos z, if_pos ((has_same h hq).mpr z)]
    · rw [if_neg z, if_neg (fun y => z ((has_same h hq).mp y))]
      have g := (h _ hq).2 (fun y => z ((h _ hq).1.mp y))
      rw [g.2.1]
  · rw [if_pos w, if_pos w]
theorem wrg_same (h : mrel mk mr fl fn f15 f16 f17 f18 f19) (h6 : ∀ q : Nat, q < 4 → (mr q).toInt ≤ 6) : wrgI a.toInt k.toInt r.toInt i.toInt (hasI (mr a.toNatClampNeg).toInt) (mk a.toNatClampNeg).toInt (mr a.toNatClampNeg).toInt (fl a.toNatClampNeg r.toNatClampNeg).toInt = wrgI a.toInt k.toInt r.toInt i.toInt (f15 a.toNatClampNeg).toInt (f16 a.toNatClampNeg).toInt (f17 a.toNatClampNeg).toInt (f18 (6 * a.toInt + r.toInt).toNat).toInt := by
  unfold wrgI
  by_cases w : (0 ≤ a.toInt ∧ a.toInt < 4) ∧ (0 ≤ k.toInt ∧ k.toInt < 3)
  · have c := clI (i := a) w.1.1
    have hq : a.toNatClampNeg < 4 := by omega
    rw [if_neg (not_not_intro w), if_neg (not_not_intro w)]
    by_cases z : (f15 a.toNatClampNeg).toInt = 0
    · rw [if_pos z, if_pos ((has_same h hq).mpr z)]
    · rw [if_neg z, if_neg (fun y => z ((has_same h hq).mp y))]
      have g := (h _ hq).2 (fun y => z ((h _ hq).1.mp y))
      have b6 := h6 _ hq
      rw [g.1, g.2.1]
      rw [g.2.1] at b6
      by_cases z2 : (f16 a.toNatClampNeg).toInt ≠ k.toInt
      · rw [if_pos z2, if_pos z2]
      · rw [if_neg z2, if_neg z2]
        by_cases z3 : 0 ≤ r.toInt ∧ r.toInt < (f17 a.toNatClampNeg).toInt
        · have cr := clI (i := r) z3.1
          rw [if_neg (not_not_intro z3), if_neg (not_not_intro z3), g.2.2.1 r.toNatClampNeg (by omega), show (6 * a.toInt + r.toInt).toNat = 6 * a.toNatClampNeg + r.toNatClampNeg by omega]
        · rw [if_pos z3, if_pos z3]
  · rw [if_pos w, if_pos w]
theorem cpy_same (h : mrel mk mr fl fn f15 f16 f17 f18 f19) (h6 : ∀ q : Nat, q < 4 → (mr q).toInt ≤ 6) : cpyI a.toInt r.toInt i.toInt o.toInt j.toInt n.toInt (hasI (mr a.toNatClampNeg).toInt) (mr a.toNatClampNeg).toInt (fl a.toNatClampNeg r.toNatClampNeg).toInt (fl a.toNatClampNeg o.toNatClampNeg).toInt = cpyI a.toInt r.toInt i.toInt o.toInt j.toInt n.toInt (f15 a.toNatClampNeg).toInt (f17 a.toNatClampNeg).toInt (f18 (6 * a.toInt + r.toInt).toNat).toInt (f18 (6 * a.toInt + o.toInt).toNat).toInt := by
  unfold cpyI
  by_cases w : 0 ≤ a.toInt ∧ a.toInt < 4
  · have c := clI (i := a) w.1
    have hq : a.toNatClampNeg < 4 := by omega
    rw [if_neg (not_not_intro w), if_neg (not_not_intro w)]
    by_cases z : (f15 a.toNatClampNeg).toInt = 0
    · rw [if_pos z, if_pos ((has_same h hq).mpr z)]
    · rw [if_neg z, if_neg (fun y => z ((has_same h hq).mp y))]
      have g := (h _ hq).2 (fun y => z ((h _ hq).1.mp y))
      have b6 := h6 _ hq
      rw [g.2.1]
      rw [g.2.1] at b6
      by_cases z3 : (0 ≤ r.toInt ∧ r.toInt < (f17 a.toNatClampNeg).toInt) ∧ (0 ≤ o.toInt ∧ o.toInt < (f17 a.toNatClampNeg).toInt)
      · have cr := clI (i := r) z3.1.1
        have co := clI (i := o) z3.2.1
        rw [if_neg (not_not_intro z3), if_neg (not_not_intro z3), g.2.2.1 r.toNatClampNeg (by omega), g.2.2.1 o.toNatClampNeg (by omega), show (6 * a.toInt + r.toInt).toNat = 6 * a.toNatClampNeg + r.toNatClampNeg by omega, show (6 * a.toInt + o.toInt).toNat = 6 * a.toNatClampNeg + o.toNatClampNeg by omega]
      · rw [if_pos z3, if_pos z3]
  · rw [if_pos w, if_pos w]
theorem mrel_map (h : mrel mk mr fl fn f15 f16 f17 f18 f19) {e m1 : Int32} (hc : e.toInt = mapRI a.toInt k.toInt n.toInt) (hs : (e.toInt ≠ 0 → eq4 mk2 mk ∧ eq4 mr2 mr ∧ eq4 fl2 fl) ∧ (e.toInt = 0 → eq4 mk2 (va_up mk a.toNatClampNeg k) ∧ eq4 mr2 (va_up mr a.toNatClampNeg n) ∧ ∃ g : Nat → Int32, (∀ j : Nat, j < 6 → g j = (-9)) ∧ eq4 fl2 (va_up fl a.toNatClampNeg g)))
    (hm : m1.toInt = mapRI a.toInt k.toInt n.toInt) (ht : (m1.toInt ≠ 0 → e15 = f15 ∧ e16 = f16 ∧ e17 = f17 ∧ e18 = f18) ∧ (m1.toInt = 0 → e15 = upd f15 a.toNatClampNeg (vp_nar .boolean 1) ∧ e16 = upd f16 a.toNatClampNeg k ∧ e17 = upd f17 a.toNatClampNeg n ∧ ∀ q : Nat, e18 q = if 6 * a.toInt ≤ (q : Int) ∧ (q : Int) < 6 * a.toInt + 6 then (-9) else f18 q)) : mrel mk2 mr2 fl2 fn e15 e16 e17 e18 f19 := by
  by_cases z : e.toInt = 0
  · obtain ⟨s1, s2, g, hg, s3⟩ := hs.2 z
    obtain ⟨t1, t2, t3, t4⟩ := ht.2 (by omega)
    have w : (0 ≤ a.toInt ∧ a.toInt < 4) ∧ 0 ≤ n.toInt := by
      rw [hc] at z
      unfold mapRI at z
      (repeat' split at z) <;> omega
    have c := clI (i := a) w.1.1
    refine mrel_cg (fun q hq => ?_) s1 s2 s3 eq4_rf
    by_cases y : q = a.toNatClampNeg
    · rw [y, va_up_self, va_up_self, va_up_self, t1, t2, t3, pk_us, pk_us, pk_us]
      refine ⟨⟨fun u => by omega, fun u => absurd u (by decide)⟩, fun _ => ⟨rfl, rfl, fun q2 hq2 => ?_, fun q2 hq2 u => absurd (show (g (q2 / 5)).toInt = -9 by rw [hg _ (by omega)]; decide) u⟩⟩
      rw [hg q2 hq2, t4, if_pos (by omega)]
    · rw [va_up_ne _ _ y, va_up_ne _ _ y, va_up_ne _ _ y, t1, t2, t3, pk_un y, pk_un y, pk_un y]
      refine ⟨(h q hq).1, fun u => ?_⟩
      obtain ⟨g1, g2, g3, g4⟩ := (h q hq).2 u
      refine ⟨g1, g2, fun q2 hq2 => ?_, g4⟩
      rw [t4, if_neg (by omega)]
      exact g3 q2 hq2
  · obtain ⟨s1, s2, s3⟩ := hs.1 z
    obtain ⟨t1, t2, t3, t4⟩ := ht.1 (by omega)
    rw [t1, t2, t3, t4]
    exact mrel_cg h s1 s2 s3 eq4_rf
theorem mrel_row (h : mrel mk mr fl fn f15 f16 f17 f18 f19) (h6 : ∀ q : Nat, q < 4 → (mr q).toInt ≤ 6) {e m1 : Int32} (hc : e.toInt = rowRI a.toInt r.toInt n.toInt (hasI (mr a.toNatClampNeg).toInt) (mr a.toNatClampNeg).toInt) (hs : (e.toInt ≠ 0 → eq4 fl2 fl ∧ eq4 fn2 fn) ∧ (e.toInt = 0 → eq4 fl2 (va_up fl a.toNatClampNeg (upd (fl a.toNatClampNeg) r.toNatClampNeg n)) ∧ ∃ g : Nat → Int64, (∀ q : Nat, g q = if 5 * r.toInt ≤ (q : Int) ∧ (q : Int) < 5 * r.toInt + 5 then 0 else fn a.toNatClampNeg q) ∧ eq4 fn2 (va_up fn a.toNatClampNeg g)))
    (hm : m1.toInt = rowRI a.toInt r.toInt n.toInt (f15 a.toNatClampNeg).toInt (f17 a.toNatClampNeg).toInt) (ht : (m1.toInt ≠ 0 → e18 = f18 ∧ e19 = f19) ∧ (m1.toInt = 0 → e18 = upd f18 (6 * a.toInt + r.toInt).toNat n ∧ ∀ q : Nat, e19 q = if 30 * a.toInt + 5 * r.toInt ≤ (q : Int) ∧ (q : Int) < 30 * a.toInt + 5 * r.toInt + 5 then 0 else f19 q)) : mrel mk mr fl2 fn2 f15 f16 f17 e18 e19 := by
  have sm := row_same (a := a) (r := r) (n := n) h
  by_cases z : e.toInt = 0
  · obtain ⟨s1, g, hg, s2⟩ := hs.2 z
    obtain ⟨t1, t2⟩ := ht.2 (by omega)
    have w : (0 ≤ a.toInt ∧ a.toInt < 4) ∧ 0 ≤ n.toInt ∧ (0 ≤ r.toInt ∧ r.toInt < (mr a.toNatClampNeg).toInt) := by
      rw [hc] at z
      unfold rowRI at z
      (repeat' split at z) <;> omega
    have c := clI (i := a) w.1.1
    have cr := clI (i := r) w.2.2.1
    have b6 := h6 a.toNatClampNeg (by omega)
    have e6 : (6 * a.toInt + r.toInt).toNat = 6 * a.toNatClampNeg + r.toNatClampNeg := by omega
    refine mrel_cg (fun q hq => ?_) eq4_rf eq4_rf s1 s2
    by_cases y : q = a.toNatClampNeg
    · rw [y, va_up_self, va_up_self]
      obtain ⟨k1, k2⟩ := h a.toNatClampNeg (by omega)
      refine ⟨k1, fun u => ?_⟩
      obtain ⟨g1, g2, g3, g4⟩ := k2 u
      refine ⟨g1, g2, fun q2 hq2 => ?_, fun q2 hq2 u2 => ?_⟩
      · rw [t1, e6]
        by_cases x : q2 = r.toNatClampNeg
        · rw [x, pk_us, pk_us]
        · rw [pk_un x, pk_un (by omega)]
          exact g3 q2 hq2
      · rw [hg q2, t2]
        by_cases x : q2 / 5 = r.toNatClampNeg
        · rw [if_pos (by omega), if_pos (by omega)]
        · rw [if_neg (by omega), if_neg (by omega)]
          rw [pk_un x] at u2
          exact g4 q2 hq2 u2
    · rw [va_up_ne _ _ y, va_up_ne _ _ y]
      refine ⟨(h q hq).1, fun u => ?_⟩
      obtain ⟨g1, g2, g3, g4⟩ := (h q hq).2 u
      refine ⟨g1, g2, fun q2 hq2 => ?_, fun q2 hq2 u2 => ?_⟩
      · rw [t1, e6, pk_un (by omega)]
        exact g3 q2 hq2
      · rw [t2, if_neg (by omega)]
        exact g4 q2 hq2 u2
  · obtain ⟨s1, s2⟩ := hs.1 z
    obtain ⟨t1, t2⟩ := ht.1 (by omega)
    rw [t1, t2]
    exact mrel_cg h eq4_rf eq4_rf s1 s2
theorem mrel_put {v : Int64} (h : mrel mk mr fl fn f15 f16 f17 f18 f19) (h6 : ∀ q : Nat, q < 4 → (mr q).toInt ≤ 6) (h5 : ∀ q p : Nat, q < 4 → p < 6 → (fl q p).toInt ≤ 5) {e m1 : Int32} (hc : e.toInt = wrgI a.toInt k.toInt r.toInt i.toInt (hasI (mr a.toNatClampNeg).toInt) (mk a.toNatClampNeg).toInt (mr a.toNatClampNeg).toInt (fl a.toNatClampNeg r.toNatClampNeg).toInt) (hs : (e.toInt ≠ 0 → eq4 fn2 fn) ∧ (e.toInt = 0 → eq4 fn2 (va_up fn a.toNatClampNeg (vp_updL (fn a.toNatClampNeg) (5 * r.toInt + i.toInt).toNat (putV (mk a.toNatClampNeg).toInt v)))))
    (hm : m1.toInt = wrgI a.toInt k.toInt r.toInt i.toInt (f15 a.toNatClampNeg).toInt (f16 a.toNatClampNeg).toInt (f17 a.toNatClampNeg).toInt (f18 (6 * a.toInt + r.toInt).toNat).toInt) (ht : (m1.toInt ≠ 0 → e19 = f19) ∧ (m1.toInt = 0 → e19 = vp_updL f19 (30 * a.toInt + 5 * r.toInt + i.toInt).toNat (putV k.toInt v))) : mrel mk mr fl fn2 f15 f16 f17 f18 e19 := by
  have sm := wrg_same (a := a) (k := k) (r := r) (i := i) h h6
  by_cases z : e.toInt = 0
  · have s1 := hs.2 z
    have t1 := ht.2 (by omega)
    have w : (0 ≤ a.toInt ∧ a.toInt < 4) ∧ (mk a.toNatClampNeg).toInt = k.toInt ∧ (0 ≤ r.toInt ∧ r.toInt < (mr a.toNatClampNeg).toInt) ∧ 0 ≤ i.toInt ∧ i.toInt < (fl a.toNatClampNeg r.toNatClampNeg).toInt := by
      rw [hc] at z
      unfold wrgI at z
      (repeat' split at z) <;> omega
    have c := clI (i := a) w.1.1
    have cr := clI (i := r) w.2.2.1.1
    have b6 := h6 a.toNatClampNeg (by omega)
    have b5 := h5 a.toNatClampNeg r.toNatClampNeg (by omega) (by omega)
    have ex : (30 * a.toInt + 5 * r.toInt + i.toInt).toNat = 30 * a.toNatClampNeg + (5 * r.toInt + i.toInt).toNat := by omega
    have lx : (5 * r.toInt + i.toInt).toNat < 30 := by omega
    refine mrel_cg (fun q hq => ?_) eq4_rf eq4_rf eq4_rf s1
    by_cases y : q = a.toNatClampNeg
    · rw [y, va_up_self]
      obtain ⟨k1, k2⟩ := h a.toNatClampNeg (by omega)
      refine ⟨k1, fun u => ?_⟩
      obtain ⟨g1, g2, g3, g4⟩ := k2 u
      refine ⟨g1, g2, g3, fun q2 hq2 u2 => ?_⟩
      rw [t1, ex, w.2.1]
      by_cases x : q2 = (5 * r.toInt + i.toInt).toNat
      · rw [x, pk_uLs, pk_uLs]
      · rw [pk_uLn x, pk_uLn (by omega)]
        exact g4 q2 hq2 u2
    · rw [va_up_ne _ _ y]
      refine ⟨(h q hq).1, fun u => ?_⟩
      obtain ⟨g1, g2, g3, g4⟩ := (h q hq).2 u
      refine ⟨g1, g2, g3, fun q2 hq2 u2 => ?_⟩
      rw [t1, ex, pk_uLn (by omega)]
      exact g4 q2 hq2 u2
  · have s1 := hs.1 z
    have t1 := ht.1 (by omega)
    rw [t1]
    exact mrel_cg h eq4_rf eq4_rf eq4_rf s1
theorem mrel_copy (h : mrel mk mr fl fn f15 f16 f17 f18 f19) (h6 : ∀ q : Nat, q < 4 → (mr q).toInt ≤ 6) (h5 : ∀ q p : Nat, q < 4 → p < 6 → (fl q p).toInt ≤ 5) {e m1 : Int32} (hc : e.toInt = cpyI a.toInt r.toInt i.toInt o.toInt j.toInt n.toInt (hasI (mr a.toNatClampNeg).toInt) (mr a.toNatClampNeg).toInt (fl a.toNatClampNeg r.toNatClampNeg).toInt (fl a.toNatClampNeg o.toNatClampNeg).toInt) (hs : (e.toInt ≠ 0 → eq4 fn2 fn) ∧ (e.toInt = 0 → eq4 fn2 (va_up fn a.toNatClampNeg (va_cpy (fn a.toNatClampNeg) (fn a.toNatClampNeg) (5 * r.toInt + i.toInt).toNat (5 * o.toInt + j.toInt).toNat n.toNatClampNeg))))
    (hm : m1.toInt = cpyI a.toInt r.toInt i.toInt o.toInt j.toInt n.toInt (f15 a.toNatClampNeg).toInt (f17 a.toNatClampNeg).toInt (f18 (6 * a.toInt + r.toInt).toNat).toInt (f18 (6 * a.toInt + o.toInt).toNat).toInt) (ht : (m1.toInt ≠ 0 → e19 = f19) ∧ (m1.toInt = 0 → ∀ q : Nat, e19 q = if 30 * a.toInt + 5 * o.toInt + j.toInt ≤ (q : Int) ∧ (q : Int) < 30 * a.toInt + 5 * o.toInt + j.toInt + n.toInt then f19 (30 * a.toInt + 5 * r.toInt + i.toInt + ((q : Int) - (30 * a.toInt + 5 * o.toInt + j.toInt))).toNat else f19 q)) : mrel mk mr fl fn2 f15 f16 f17 f18 e19 := by
  have sm := cpy_same (a := a) (r := r) (i := i) (o := o) (j := j) (n := n) h h6
  by_cases z : e.toInt = 0
  · have s1 := hs.2 z
    have t1 := ht.2 (by omega)
    have w : (0 ≤ a.toInt ∧ a.toInt < 4) ∧ ((0 ≤ r.toInt ∧ r.toInt < (mr a.toNatClampNeg).toInt) ∧ (0 ≤ o.toInt ∧ o.toInt < (mr a.toNatClampNeg).toInt)) ∧ ((0 ≤ i.toInt ∧ 0 ≤ n.toInt ∧ i.toInt + n.toInt ≤ (fl a.toNatClampNeg r.toNatClampNeg).toInt) ∧ (0 ≤ j.toInt ∧ 0 ≤ n.toInt ∧ j.toInt + n.toInt ≤ (fl a.toNatClampNeg o.toNatClampNeg).toInt)) ∧ 0 ≤ (fl a.toNatClampNeg r.toNatClampNeg).toInt := by
      rw [hc] at z
      unfold cpyI at z
      (repeat' split at z) <;> omega
    have c := clI (i := a) w.1.1
    have cr := clI (i := r) w.2.1.1.1
    have co := clI (i := o) w.2.1.2.1
    have cn := clI (i := n) w.2.2.1.1.2.1
    have b6 := h6 a.toNatClampNeg (by omega)
    have b5 := h5 a.toNatClampNeg r.toNatClampNeg (by omega) (by omega)
    have b5o := h5 a.toNatClampNeg o.toNatClampNeg (by omega) (by omega)
    refine mrel_cg (fun q hq => ?_) eq4_rf eq4_rf eq4_rf s1
    by_cases y : q = a.toNatClampNeg
    · rw [y, va_up_self]
      obtain ⟨k1, k2⟩ := h a.toNatClampNeg (by omega)
      refine ⟨k1, fun u => ?_⟩
      obtain ⟨g1, g2, g3, g4⟩ := k2 u
      refine ⟨g1, g2, g3, fun q2 hq2 u2 => ?_⟩
      rw [t1]
      by_cases x : (5 * o.toInt + j.toInt).toNat ≤ q2 ∧ q2 < (5 * o.toInt + j.toInt).toNat + n.toNatClampNeg
      · rw [pk_cpy_in x.1 x.2, if_pos (by omega)]
        have e1 : (30 * a.toInt + 5 * r.toInt + i.toInt + (((30 * a.toNatClampNeg + q2 : Nat) : Int) - (30 * a.toInt + 5 * o.toInt + j.toInt))).toNat = 30 * a.toNatClampNeg + ((5 * r.toInt + i.toInt).toNat + (q2 - (5 * o.toInt + j.toInt).toNat)) := by omega
        rw [e1]
        refine g4 _ (by omega) ?_
        rw [show ((5 * r.toInt + i.toInt).toNat + (q2 - (5 * o.toInt + j.toInt).toNat)) / 5 = r.toNatClampNeg by omega]
        omega
      · rw [pk_cpy_out (by omega), if_neg (by omega)]
        exact g4 q2 hq2 u2
    · rw [va_up_ne _ _ y]
      refine ⟨(h q hq).1, fun u => ?_⟩
      obtain ⟨g1, g2, g3, g4⟩ := (h q hq).2 u
      refine ⟨g1, g2, g3, fun q2 hq2 u2 => ?_⟩
      rw [t1, if_neg (by omega)]
      exact g4 q2 hq2 u2
  · have s1 := hs.1 z
    have t1 := ht.1 (by omega)
    rw [t1]
    exact mrel_cg h eq4_rf eq4_rf eq4_rf s1
end MREL
theorem f4_all {a b c d : Int32} {B : Int} (h0 : a.toInt ≤ B) (h1 : b.toInt ≤ B) (h2 : c.toInt ≤ B) (h3 : d.toInt ≤ B) : ∀ q : Nat, q < 4 → (f4_ a b c d q).toInt ≤ B := fun q _ => by
  unfold f4_
  (repeat' split) <;> assumption
theorem f4_rng {a b c d : Nat → Int32} {lo B : Int} {n : Nat} (h0 : rng a n lo B) (h1 : rng b n lo B) (h2 : rng c n lo B) (h3 : rng d n lo B) : ∀ q p : Nat, q < 4 → p < n → (f4_ a b c d q p).toInt ≤ B := fun q p _ hp => by
  unfold f4_
  (repeat' split)
  · exact (h0 p hp).2
  · exact (h1 p hp).2
  · exact (h2 p hp).2
  · exact (h3 p hp).2
theorem ixn {y : Int32} {n : Int} (h : y.toInt = n) : y.toNatClampNeg = n.toNat := by
  show y.toInt.toNat = n.toNat
  rw [h]
theorem putV_0 {v : Int64} {y : Int32} (e : y = v.toInt32.toInt16.toInt32) {k : Int} (hk : k = 0) : y.toInt64 = putV k v := by
  unfold putV
  rw [if_pos hk, e]
theorem putV_1 {v : Int64} {k : Int} (hk : k = 1) : v.toInt32.toInt64 = putV k v := by
  unfold putV
  rw [if_neg (by omega), if_pos hk]
theorem putV_2 {v : Int64} {k : Int} (h0 : k ≠ 0) (h1 : k ≠ 1) : v = putV k v := by
  unfold putV
  rw [if_neg h0, if_neg h1]
theorem zero5 {f g g2 : Nat → Int64} {b : Int} {k k2 y : Int32} (h : ∀ q : Nat, g q = if b ≤ (q : Int) ∧ (q : Int) < b + k.toInt then 0 else f q) (e : g2 = vp_updL g y.toNatClampNeg 0) (hy : y.toInt = b + k.toInt) (hb : 0 ≤ b) (hk : 0 ≤ k.toInt) (e2 : k2.toInt = k.toInt + 1) : ∀ q : Nat, g2 q = if b ≤ (q : Int) ∧ (q : Int) < b + k2.toInt then 0 else f q := fun q => by
  have c := clI (i := y) (by omega)
  rw [e]
  by_cases z : q = y.toNatClampNeg
  · rw [z, pk_uLs, if_pos (by omega)]
  · rw [pk_uLn z, h q]
    by_cases w : b ≤ (q : Int) ∧ (q : Int) < b + k.toInt
    · rw [if_pos w, if_pos (by omega)]
    · rw [if_neg w, if_neg (by omega)]
theorem zero0 {f : Nat → Int64} {b : Int} : ∀ q : Nat, f q = if b ≤ (q : Int) ∧ (q : Int) < b + (0 : Int32).toInt then 0 else f q := fun q => by
  have z : (0 : Int32).toInt = 0 := by decide
  rw [if_neg (by omega)]
theorem zeroE {f g : Nat → Int64} {b : Int} {k : Int32} (h : ∀ q : Nat, g q = if b ≤ (q : Int) ∧ (q : Int) < b + k.toInt then 0 else f q) (h5 : k.toInt = 5) : ∀ q : Nat, g q = if b ≤ (q : Int) ∧ (q : Int) < b + 5 then 0 else f q := fun q => by
  rw [h q, h5]

set_option maxHeartbeats 4000000 in
set_option maxRecDepth 100000 in
theorem c_X4_begin2 (l : Launch) (D : va_G) (cy : Nat → ClassId) (sz : Nat) (mm : Nat) (ml : Nat) (mu : Nat) (mk : Int32) (mr : Int32) (fl : Nat → Int32) (a1 : Int32) (a2 : Int32) : Met l yX4_begin wsX4_begin ({ frames := 1, cells := 0, slots := 0, locals := 23 }) (va_Pc [.ref mm, .int a1, .int a2] (fun U => U.heap.size = sz ∧ va_P D vwCl [ob4_0_ mm mk mr ml mu, ai_ cy ml 6 fl] U.heap ∧ kk_ D cy U ∧ va_D (fun _ => True) [ob4_0_ mm mk mr ml mu, ai_ cy ml 6 fl])) (va_Qv (fun (_ : Unit) => True) (fun (_ : Unit) (t : State) => ∃ (efl : Nat → Int32), (∀ j : Nat, j < 6 → efl j = (-9)) ∧ (rng efl 6 (-9) (5)) ∧ va_P D vwCl [ob4_0_ mm a1 a2 ml mu, ai_ cy ml 6 efl] t.heap ∧ va_D (va_A [ob4_0_ mm mk mr ml mu, ai_ cy ml 6 fl] sz) [ob4_0_ mm a1 a2 ml mu, ai_ cy ml 6 efl]) (va_A [ob4_0_ mm mk mr ml mu, ai_ cy ml 6 fl] sz)) 0 0 (va_A [ob4_0_ mm mk mr ml mu, ai_ cy ml 6 fl] sz) := by
  refine ofQ (cc := cX4_begin) (maxL := 3) (ret := none) (by decide) rfl ?_
  intro p e s m args below meth c s₁ Q hQ B hml hv
  obtain ⟨rfl, hsz, hP, hK, hD0⟩ := hv
  have hx := B.exec
  have hb := B.bytes
  have hr := B.returns
  have hts := atoms_spec (ws := wsX4_begin) B.pre
  have hown : s.vm.findClass RX4 = some m.cls := by have h_ := findClass_of_methodNamed B.named; exact h_
  have hlocks := B.notSynchronized
  subst hsz
  have hD := hD0.self (sz := s.heap.size)
  generalize hAe : va_A [ob4_0_ mm mk mr ml mu, ai_ cy ml 6 fl] s.heap.size = A at hD hQ
  have hA : ∀ q : Nat, s.heap.size ≤ q → A q := fun q h => by rw [← hAe]; exact Or.inr h
  have hS : va_S A s.heap s.heap [] := va_S.rf
  have hl := lv_entry ([.ref mm, .int a1, .int a2]) (n := 3) (Nat.le_of_ble_eq_true rfl)
  rw [lg_entry_eq]
  generalize (lg_sl ([.ref mm, .int a1, .int a2]) ++ List.replicate (3 - (lg_sl ([.ref mm, .int a1, .int a2])).length) Slot.unset).toArray = ls at hl ⊢
  have hl : lv_has ls 3 [(0, .ref mm), (1, .int a1), (2, .int a2)] := hl
  have zm9 : ((-9) : Int32).toInt = -9 := by decide
  refine lv_aload_n hx hb dB_36_1_30.1.1.1 rfl (lv_at hl 0 rfl) ?_
  refine lv_iload_n hx hb dB_36_1_30.1.1.2 rfl (lv_at hl 1 rfl) ?_
  refine va_put (ci := 4) (v := .int a1) (ty := .int) (C := RX4) (T := TX4) (N := 4) hx hb hts (fun _ h => List.mem_cons_of_mem _ (List.mem_append_right _ h)) tyX4 tyX4_ok nmX4 hown hK.1 hP hD hS 0 rfl rfl 0 (by decide) (hts (.fieldLink RX4 9 "CutAtlas$NumberMap" "kind" "I") (List.mem_of_getElem? (i := 1) rfl)) (fun _ h9 => h9) rfl (by decide +kernel) rfl rfl (Nat.le_of_ble_eq_true rfl) dB_36_1_30.1.2.1 (fun H locs hP hD hS => ?_)
  refine pd_K [ob4_0_ mm a1 mr ml mu, ai_ cy ml 6 fl] hP hD (fun hP hD => ?_)
  refine lv_aload_n hx hb dB_36_1_30.1.2.2.1 rfl (lv_at hl 0 rfl) ?_
  refine lv_iload_n hx hb dB_36_1_30.1.2.2.2 rfl (lv_at hl 2 rfl) ?_
  refine va_put (ci := 4) (v := .int a2) (ty := .int) (C := RX4) (T := TX4) (N := 4) hx hb hts (fun _ h => List.mem_cons_of_mem _ (List.mem_append_right _ h)) tyX4 tyX4_ok nmX4 hown hK.1 hP hD hS 0 rfl rfl 1 (by decide) (hts (.fieldLink RX4 15 "CutAtlas$NumberMap" "rows" "I") (List.mem_of_getElem? (i := 2) rfl)) (fun _ h9 => h9) rfl (by decide +kernel) rfl rfl (Nat.le_of_ble_eq_true rfl) dB_36_1_30.2.1.1 (fun H locs hP hD hS => ?_)
  refine pd_K [ob4_0_ mm a1 a2 ml mu, ai_ cy ml 6 fl] hP hD (fun hP hD => ?_)
  refine lv_aload_n hx hb dB_36_1_30.2.1.2.1 rfl (lv_at hl 0 rfl) ?_
  refine va_get (ci := 4) (v := .ref ml) (C := RX4) (T := TX4) (N := 4) hx hb hts (fun _ h => List.mem_cons_of_mem _ (List.mem_append_right _ h)) hown hK.1 hP 0 rfl rfl 2 (by decide) (hts (.fieldLink RX4 18 "CutAtlas$NumberMap" "lengths" "[I") (List.mem_of_getElem? (i := 3) rfl)) (fun _ h9 => h9) rfl dB_36_1_30.2.1.2.2 ?_
  refine lv_bipush (v := (-9)) hx hb dB_36_1_30.2.2.1 (by decide) ?_
  refine ct_S hP hD hS hA [ai_ cy ml 6 fl] [1] (by decide) rfl (fun hPc hDw hFc hC_ => ?_)
  refine va_callv (va_runS (As := [.ref ml, .int (-9)]) (rest := []) ⟨hx, hb, hml, hown, hts⟩ (c_J7_fill_53178 l D cy H.size ml 6 ((-9) : Int32) fl (by first | with_reducible assumption | assumption | omega)) (va_cwS 2 hts gX4_begin_J7_fill_53178 rfl rfl rfl hd_J7_fill_53178 ⟨Nat.le_of_ble_eq_true rfl, Nat.le_of_ble_eq_true rfl⟩) ⟨bl_, fun U hU hW => ⟨rfl, by rw [hU], by rw [hU]; exact hPc, kk_mv hW hK, hDw⟩⟩ rfl rfl hl.1 rfl (lv_room (Nat.le_of_ble_eq_true rfl)) dB_36_1_30.2.2.2.1 ⟨Nat.le_of_ble_eq_true rfl, Nat.le_of_ble_eq_true rfl⟩) hS (fun q _ h => hFc q h) hFc (fun u t H locs ht hvm hw hB hz1 hk1 hS => ?_)
  obtain ⟨e1_2, g_3, hP1, hD1⟩ := hB
  rw [ht] at hP1
  obtain ⟨hP, hD⟩ := va_join (wr := [ob4_0_ mm a1 a2 ml mu]) (w1 := [ai_ cy ml 6 e1_2]) hP hD [1] [0] hC_ rfl (by decide) (by decide) hk1 hFc hP1 hD1
  refine pd_K [ob4_0_ mm a1 a2 ml mu, ai_ cy ml 6 e1_2] hP hD (fun hP hD => ?_)
  have rr_4 : rng e1_2 6 (-9) (5) := rng_c g_3 (by decide) (by decide)
  have hf9_ := g_3
  rw [hQ]
  exact W.vret hx hb hr (fun t ht hW => ⟨⟨(), rfl, trivial, e1_2, (hf9_), (by first | with_reducible assumption | assumption | exact rng_zero (by omega) (by omega) | omega), by rw [ht]; exact hP, hD⟩, hS.F ht⟩) hS.2.2 dB_36_1_30.2.2.2.2

set_option maxHeartbeats 4000000 in
set_option maxRecDepth 100000 in
theorem c_X4_beginRow2 (l : Launch) (D : va_G) (cy : Nat → ClassId) (sz : Nat) (mm : Nat) (ml : Nat) (mu : Nat) (mk : Int32) (mr : Int32) (fl : Nat → Int32) (fn : Nat → Int64) (a1 : Int32) (a2 : Int32) (q1 : 0 ≤ a1.toInt ∧ a1.toInt ≤ 5) (q2 : 0 ≤ a2.toInt ∧ a2.toInt ≤ 5) (r_fl : rng fl 6 (-9) (5)) : Met l yX4_beginRow wsX4_beginRow ({ frames := 0, cells := 0, slots := 0, locals := 0 }) (va_Pc [.ref mm, .int a1, .int a2] (fun U => U.heap.size = sz ∧ va_P D vwCl [ob4_0_ mm mk mr ml mu, ai_ cy ml 6 fl, aj_ cy mu 30 fn] U.heap ∧ kk_ D cy U ∧ va_D (fun _ => True) [ob4_0_ mm mk mr ml mu, ai_ cy ml 6 fl, aj_ cy mu 30 fn])) (va_Qv (fun (_ : Unit) => True) (fun (_ : Unit) (t : State) => ∃ (efl : Nat → Int32), ∃ (efn : Nat → Int64), (efl = upd fl a1.toNatClampNeg a2) ∧ (∀ q : Nat, efn q = if 5 * a1.toInt ≤ (q : Int) ∧ (q : Int) < 5 * a1.toInt + 5 then 0 else fn q) ∧ (rng efl 6 (-9) (5)) ∧ va_P D vwCl [ob4_0_ mm mk mr ml mu, ai_ cy ml 6 efl, aj_ cy mu 30 efn] t.heap ∧ va_D (va_A [ob4_0_ mm mk mr ml mu, ai_ cy ml 6 fl, aj_ cy mu 30 fn] sz) [ob4_0_ mm mk mr ml mu, ai_ cy ml 6 efl, aj_ cy mu 30 efn]) (va_A [ob4_0_ mm mk mr ml mu, ai_ cy ml 6 fl, aj_ cy mu 30 fn] sz)) 0 0 (va_A [ob4_0_ mm mk mr ml mu, ai_ cy ml 6 fl, aj_ cy mu 30 fn] sz) := by
  refine ofQ (cc := cX4_beginRow) (maxL := 4) (ret := none) (by decide) rfl ?_
  intro p e s m args below meth c s₁ Q hQ B hml hv
  obtain ⟨rfl, hsz, hP, hK, hD0⟩ := hv
  have hx := B.exec
  have hb := B.bytes
  have hr := B.returns
  have hts := atoms_spec (ws := wsX4_beginRow) B.pre
  have hown : s.vm.findClass RX4 = some m.cls := by have h_ := findClass_of_methodNamed B.named; exact h_
  have hlocks := B.notSynchronized
  subst hsz
  have hD := hD0.self (sz := s.heap.size)
  generalize hAe : va_A [ob4_0_ mm mk mr ml mu, ai_ cy ml 6 fl, aj_ cy mu 30 fn] s.heap.size = A at hD hQ
  have hA : ∀ q : Nat, s.heap.size ≤ q → A q := fun q h => by rw [← hAe]; exact Or.inr h
  have hS : va_S A s.heap s.heap [] := va_S.rf
  have hl := lv_entry ([.ref mm, .int a1, .int a2]) (n := 4) (Nat.le_of_ble_eq_true rfl)
  rw [lg_entry_eq]
  generalize (lg_sl ([.ref mm, .int a1, .int a2]) ++ List.replicate (4 - (lg_sl ([.ref mm, .int a1, .int a2])).length) Slot.unset).toArray = ls at hl ⊢
  have hl : lv_has ls 4 [(0, .ref mm), (1, .int a1), (2, .int a2)] := hl
  have z0 : (0 : Int32).toInt = 0 := by decide
  have zl0 : (0 : Int64).toInt = 0 := by decide
  have z1 : (1 : Int32).toInt = 1 := by decide
  have z5 : (5 : Int32).toInt = 5 := by decide
  refine lv_aload_n hx hb dB_36_1_31.1.1.1.1 rfl (lv_at hl 0 rfl) ?_
  refine va_get (ci := 4) (v := .ref ml) (C := RX4) (T := TX4) (N := 4) hx hb hts (fun _ h => List.mem_cons_of_mem _ (List.mem_append_right _ h)) hown hK.1 hP 0 rfl rfl 2 (by decide) (hts (.fieldLink RX4 18 "CutAtlas$NumberMap" "lengths" "[I") (List.mem_of_getElem? (i := 1) rfl)) (fun _ h9 => h9) rfl dB_36_1_31.1.1.1.2 ?_
  refine lv_iload_n hx hb dB_36_1_31.1.1.2.1 rfl (lv_at hl 1 rfl) ?_
  refine lv_iload_n hx hb dB_36_1_31.1.1.2.2 rfl (lv_at hl 2 rfl) ?_
  have h_1 : vp_in a1 6 := in_I (by first | with_reducible assumption | omega) (by omega)
  refine va_iast hx hb hK.1 hP hD hS 1 0 rfl rfl (i := a1) h_1 dB_36_1_31.1.2.1.1 (fun H locs hP hD hS => ?_)
  obtain ⟨f_2, ef_2⟩ : ∃ g : Nat → Int32, g = upd fl a1.toNatClampNeg a2 := ⟨_, rfl⟩
  refine pd_K (D := D) (cl := vwCl) (H := H) (A := A) [ob4_0_ mm mk mr ml mu, ai_ cy ml 6 f_2, aj_ cy mu 30 fn] (by rw [ef_2]; exact hP) (by rw [ef_2]; exact hD) (fun hP hD => ?_)
  have rf_2 : rng f_2 6 (-9) (5) := by rw [ef_2]; exact rng_upd r_fl (by omega) (by omega)
  refine lv_iconst (v := 0) hx hb dB_36_1_31.1.2.1.2 (by decide) ?_
  refine lv_istore_n (lv' := [(3, .int 0), (0, .ref mm), (1, .int a1), (2, .int a2)]) hx hb dB_36_1_31.1.2.2.1 rfl hl (by decide) rfl (fun ls hl => ?_)
  suffices LOOP_3 : ∀ (n_3 : Nat) (x3_3 : Int32) (c_mu_3 : Nat → Int64) (H : Heap) (locs : List Loc) (ls : Array Slot), 5 - x3_3.toInt < (n_3 : Int) → (0 ≤ x3_3.toInt) → (x3_3.toInt ≤ 5) → (∀ q : Nat, c_mu_3 q = if 5 * a1.toInt ≤ (q : Int) ∧ (q : Int) < 5 * a1.toInt + x3_3.toInt then 0 else fn q) → pd_2 D vwCl A [ob4_0_ mm mk mr ml mu, ai_ cy ml 6 f_2, aj_ cy mu 30 c_mu_3] H → va_S A s.heap H locs → lv_has ls 4 [(3, .int x3_3), (0, .ref mm), (1, .int a1), (2, .int a2)] → W p l e ({ frames := 0, cells := 0, slots := 0, locals := 0 } : Room) s m (([.ref mm, .int a1, .int a2] : List Value).toArray) below meth c H locs 0 0 Q (F0 m 9 ls []) from LOOP_3 ((5 - (0 : Int32).toInt).toNat + 1) (0 : Int32) fn _ _ _ (by omega) (by first | with_reducible assumption | omega | assumption) (by first | with_reducible assumption | omega | assumption) (by first | exact zero0 | exact zero5 v_none S[e] (by omega) (by omega) (by omega) (by omega)) ⟨hP, hD⟩ hS (lv_sub hl [0, 1, 2, 3] rfl)
  intro n_3
  induction n_3 with
  | zero =>
    intro x3_3 c_mu_3 H locs ls hm v0_3 v1_3 v2_3 hPD hS hl; obtain ⟨hP, hD⟩ := hPD
    exact absurd hm (by omega)
  | succ n_3 ih_3 =>
    intro x3_3 c_mu_3 H locs ls hm v0_3 v1_3 v2_3 hPD hS hl; obtain ⟨hP, hD⟩ := hPD
    refine lv_iload_n hx hb dB_36_1_31.1.2.2.2 rfl (lv_at hl 0 rfl) ?_
    refine lv_iconst (v := 5) hx hb dB_36_1_31.2.1.1.1 (by decide) ?_
    refine lv_icmp_ge (tgt := 31) hx hb dB_36_1_31.2.1.1.2 (by decide) (fun c_4 => ?_) (fun c_4 => ?_)
    · have t_4 : (5 : Int32).toInt ≤ x3_3.toInt := Int32.le_iff_toInt_le.mp c_4
      rw [hQ]
      exact W.vret hx hb hr (fun t ht hW => ⟨⟨(), rfl, trivial, f_2, c_mu_3, (by first | with_reducible assumption | omega | assumption), (zeroE v2_3 (by omega)), (by first | with_reducible assumption | assumption | exact rng_zero (by omega) (by omega) | omega), by rw [ht]; exact hP, hD⟩, hS.F ht⟩) hS.2.2 dB_36_1_32.2.2.2
    · have t_4 : ¬ (5 : Int32).toInt ≤ x3_3.toInt := fun h => c_4 (Int32.le_iff_toInt_le.mpr h)
      refine lv_aload_n hx hb dB_36_1_31.2.1.2.1 rfl (lv_at hl 1 rfl) ?_
      refine va_get (ci := 4) (v := .ref mu) (C := RX4) (T := TX4) (N := 4) hx hb hts (fun _ h => List.mem_cons_of_mem _ (List.mem_append_right _ h)) hown hK.1 hP 0 rfl rfl 3 (by decide) (hts (.fieldLink RX4 22 "CutAtlas$NumberMap" "numbers" "[J") (List.mem_of_getElem? (i := 2) rfl)) (fun _ h9 => h9) rfl dB_36_1_31.2.1.2.2 ?_
      refine lv_iload_n hx hb dB_36_1_31.2.2.1.1 rfl (lv_at hl 2 rfl) ?_
      refine lv_iconst (v := 5) hx hb dB_36_1_31.2.2.1.2 (by decide) ?_
      refine lv_imul hx hb dB_36_1_31.2.2.2.1 ?_
      refine lv_topi (fun y_5 ey_5 => ?_)
      have ty_5 : y_5.toInt = 5 * a1.toInt := by rw [ey_5]; exact mulD (by decide) (by omega) (by omega)
      refine lv_iload_n hx hb dB_36_1_31.2.2.2.2 rfl (lv_at hl 0 rfl) ?_
      refine lv_iadd hx hb dB_36_1_32.1.1 ?_
      refine lv_topi (fun y_6 ey_6 => ?_)
      have ty_6 : y_6.toInt = y_5.toInt + x3_3.toInt := by rw [ey_6]; exact addI (by omega) (by omega)
      refine lv_lconst (v := 0) hx hb dB_36_1_32.1.2.1 (by decide) ?_
      have h_7 : vp_in y_6 30 := in_I (by first | with_reducible assumption | omega) (by omega)
      refine va_last hx hb hK.1 hP hD hS 2 1 rfl rfl (i := y_6) h_7 dB_36_1_32.1.2.2 (fun H locs hP hD hS => ?_)
      obtain ⟨f_8, ef_8⟩ : ∃ g : Nat → Int64, g = vp_updL c_mu_3 y_6.toNatClampNeg (0 : Int64) := ⟨_, rfl⟩
      refine pd_K (D := D) (cl := vwCl) (H := H) (A := A) [ob4_0_ mm mk mr ml mu, ai_ cy ml 6 f_2, aj_ cy mu 30 f_8] (by rw [ef_8]; exact hP) (by rw [ef_8]; exact hD) (fun hP hD => ?_)
      obtain ⟨y_9, ey_9⟩ : ∃ y : Int32, y = x3_3 + 1 := ⟨_, rfl⟩
      have ty_9 : y_9.toInt = x3_3.toInt + (1 : Int32).toInt := by rw [ey_9]; exact addI (by omega) (by omega)
      refine lv_iinc (v := y_9) (lv' := [(3, .int y_9), (0, .ref mm), (1, .int a1), (2, .int a2)]) hx hb dB_36_1_32.2.1 hl (k := 0) rfl (by rw [ey_9]; rfl) (by decide) rfl (fun ls hl => ?_)
      refine lv_goto (tgt := 9) hx hb dB_36_1_32.2.2.1 (by decide) ?_
      exact ih_3 y_9 f_8 _ _ _ (by omega) (by first | with_reducible assumption | omega | assumption) (by first | with_reducible assumption | omega | assumption) (by first | exact zero0 | exact zero5 v2_3 ef_8 (by omega) (by omega) (by omega) (by omega)) ⟨hP, hD⟩ hS (lv_sub hl [0, 1, 2, 3] rfl)

set_option maxHeartbeats 4000000 in
set_option maxRecDepth 100000 in
theorem c_X4_store2 (l : Launch) (D : va_G) (cy : Nat → ClassId) (sz : Nat) (mm : Nat) (ml : Nat) (mu : Nat) (mk : Int32) (mr : Int32) (fn : Nat → Int64) (a1 : Int32) (a2 : Int32) (a3 : Int64) (q1 : 0 ≤ a1.toInt ∧ a1.toInt ≤ 5) (q2 : 0 ≤ a2.toInt ∧ a2.toInt ≤ 4) : Met l yX4_store wsX4_store ({ frames := 0, cells := 0, slots := 0, locals := 0 }) (va_Pc [.ref mm, .int a1, .int a2, .long a3] (fun U => U.heap.size = sz ∧ va_P D vwCl [ob4_0_ mm mk mr ml mu, aj_ cy mu 30 fn] U.heap ∧ kk_ D cy U ∧ va_D (fun _ => True) [ob4_0_ mm mk mr ml mu, aj_ cy mu 30 fn])) (va_Qv (fun (_ : Unit) => True) (fun (_ : Unit) (t : State) => ∃ (efn : Nat → Int64), (efn = vp_updL fn (5 * a1.toInt + a2.toInt).toNat (putV mk.toInt a3)) ∧ va_P D vwCl [ob4_0_ mm mk mr ml mu, aj_ cy mu 30 efn] t.heap ∧ va_D (va_A [ob4_0_ mm mk mr ml mu, aj_ cy mu 30 fn] sz) [ob4_0_ mm mk mr ml mu, aj_ cy mu 30 efn]) (va_A [ob4_0_ mm mk mr ml mu, aj_ cy mu 30 fn] sz)) 0 0 (va_A [ob4_0_ mm mk mr ml mu, aj_ cy mu 30 fn] sz) := by
  refine ofQ (cc := cX4_store) (maxL := 7) (ret := none) (by decide) rfl ?_
  intro p e s m args below meth c s₁ Q hQ B hml hv
  obtain ⟨rfl, hsz, hP, hK, hD0⟩ := hv
  have hx := B.exec
  have hb := B.bytes
  have hr := B.returns
  have hts := atoms_spec (ws := wsX4_store) B.pre
  have hown : s.vm.findClass RX4 = some m.cls := by have h_ := findClass_of_methodNamed B.named; exact h_
  have hlocks := B.notSynchronized
  subst hsz
  have hD := hD0.self (sz := s.heap.size)
  generalize hAe : va_A [ob4_0_ mm mk mr ml mu, aj_ cy mu 30 fn] s.heap.size = A at hD hQ
  have hA : ∀ q : Nat, s.heap.size ≤ q → A q := fun q h => by rw [← hAe]; exact Or.inr h
  have hS : va_S A s.heap s.heap [] := va_S.rf
  have hl := lv_entry ([.ref mm, .int a1, .int a2, .long a3]) (n := 7) (Nat.le_of_ble_eq_true rfl)
  rw [lg_entry_eq]
  generalize (lg_sl ([.ref mm, .int a1, .int a2, .long a3]) ++ List.replicate (7 - (lg_sl ([.ref mm, .int a1, .int a2, .long a3])).length) Slot.unset).toArray = ls at hl ⊢
  have hl : lv_has ls 7 [(0, .ref mm), (1, .int a1), (2, .int a2), (3, .long a3)] := hl
  have z0 : (0 : Int32).toInt = 0 := by decide
  have z1 : (1 : Int32).toInt = 1 := by decide
  have z5 : (5 : Int32).toInt = 5 := by decide
  refine lv_lload_n hx hb dB_36_1_45.1.1.1.1 rfl (lv_at hl 3 rfl) ?_
  refine lv_lstore (lv' := [(5, .long a3), (0, .ref mm), (1, .int a1), (2, .int a2), (3, .long a3)]) hx hb dB_36_1_45.1.1.1.2 hl (by decide) rfl (fun ls hl => ?_)
  refine lv_aload_n hx hb dB_36_1_45.1.1.2.1 rfl (lv_at hl 1 rfl) ?_
  refine va_get (ci := 4) (v := .int mk) (C := RX4) (T := TX4) (N := 4) hx hb hts (fun _ h => List.mem_cons_of_mem _ (List.mem_append_right _ h)) hown hK.1 hP 0 rfl rfl 0 (by decide) (hts (.fieldLink RX4 9 "CutAtlas$NumberMap" "kind" "I") (List.mem_of_getElem? (i := 1) rfl)) (fun _ h9 => h9) rfl dB_36_1_45.1.1.2.2 ?_
  refine lv_if_ne (tgt := 19) hx hb dB_36_1_45.1.2.1.1 (by decide) (fun c_1 => ?_) (fun c_1 => ?_)
  · have t_1 : ¬ mk.toInt = (0 : Int32).toInt := fun h => c_1 (Int32.toInt_inj.mp h)
    refine lv_aload_n hx hb dB_36_1_45.2.1.2.2 rfl (lv_at hl 1 rfl) ?_
    refine va_get (ci := 4) (v := .int mk) (C := RX4) (T := TX4) (N := 4) hx hb hts (fun _ h => List.mem_cons_of_mem _ (List.mem_append_right _ h)) hown hK.1 hP 0 rfl rfl 0 (by decide) (hts (.fieldLink RX4 9 "CutAtlas$NumberMap" "kind" "I") (List.mem_of_getElem? (i := 1) rfl)) (fun _ h9 => h9) rfl dB_36_1_45.2.2.1.1 ?_
    refine lv_iconst (v := 1) hx hb dB_36_1_45.2.2.1.2 (by decide) ?_
    refine lv_icmp_ne (tgt := 32) hx hb dB_36_1_45.2.2.2.1 (by decide) (fun c_2 => ?_) (fun c_2 => ?_)
    · have t_2 : ¬ mk.toInt = (1 : Int32).toInt := fun h => c_2 (Int32.toInt_inj.mp h)
      refine lv_aload_n hx hb dB_36_1_46.1.2.1 rfl (lv_at hl 1 rfl) ?_
      refine va_get (ci := 4) (v := .ref mu) (C := RX4) (T := TX4) (N := 4) hx hb hts (fun _ h => List.mem_cons_of_mem _ (List.mem_append_right _ h)) hown hK.1 hP 0 rfl rfl 3 (by decide) (hts (.fieldLink RX4 22 "CutAtlas$NumberMap" "numbers" "[J") (List.mem_of_getElem? (i := 2) rfl)) (fun _ h9 => h9) rfl dB_36_1_46.1.2.2.1 ?_
      refine lv_iload_n hx hb dB_36_1_46.1.2.2.2 rfl (lv_at hl 2 rfl) ?_
      refine lv_iconst (v := 5) hx hb dB_36_1_46.2.1.1 (by decide) ?_
      refine lv_imul hx hb dB_36_1_46.2.1.2.1 ?_
      refine lv_topi (fun y_3 ey_3 => ?_)
      have ty_3 : y_3.toInt = 5 * a1.toInt := by rw [ey_3]; exact mulD (by decide) (by omega) (by omega)
      refine lv_iload_n hx hb dB_36_1_46.2.1.2.2 rfl (lv_at hl 3 rfl) ?_
      refine lv_iadd hx hb dB_36_1_46.2.2.1.1 ?_
      refine lv_topi (fun y_4 ey_4 => ?_)
      have ty_4 : y_4.toInt = y_3.toInt + a2.toInt := by rw [ey_4]; exact addI (by omega) (by omega)
      have hix_ : y_4.toNatClampNeg = (5 * a1.toInt + a2.toInt).toNat := ixn (by omega)
      refine lv_lload hx hb dB_36_1_46.2.2.1.2 (lv_at hl 0 rfl) ?_
      have h_5 : vp_in y_4 30 := in_I (by first | with_reducible assumption | omega) (by omega)
      refine va_last hx hb hK.1 hP hD hS 1 1 rfl rfl (i := y_4) h_5 dB_36_1_46.2.2.2.1 (fun H locs hP hD hS => ?_)
      obtain ⟨f_6, ef_6⟩ : ∃ g : Nat → Int64, g = vp_updL fn y_4.toNatClampNeg a3 := ⟨_, rfl⟩
      refine pd_K (D := D) (cl := vwCl) (H := H) (A := A) [ob4_0_ mm mk mr ml mu, aj_ cy mu 30 f_6] (by rw [ef_6]; exact hP) (by rw [ef_6]; exact hD) (fun hP hD => ?_)
      rw [hQ]
      exact W.vret hx hb hr (fun t ht hW => ⟨⟨(), rfl, trivial, f_6, (by first | (rw [ef_6, hix_, putV_0 (k := mk.toInt) (by assumption) (by omega)]; done) | (rw [ef_6, hix_, putV_1 (k := mk.toInt) (by omega)]; done) | (rw [ef_6, hix_, ← putV_2 (k := mk.toInt) (by omega) (by omega)]; done)), by rw [ht]; exact hP, hD⟩, hS.F ht⟩) hS.2.2 dB_36_1_46.2.2.2.2
    · have t_2 : mk.toInt = (1 : Int32).toInt := congrArg Int32.toInt c_2
      refine lv_lload_n hx hb dB_36_1_45.2.2.2.2 rfl (lv_at hl 4 rfl) ?_
      refine lv_l2i (v := a3.toInt32) hx hb dB_36_1_46.1.1.1 rfl ?_
      refine lv_i2l (v := (a3.toInt32).toInt64) hx hb dB_36_1_46.1.1.2.1 rfl ?_
      have q_29 : ((a3.toInt32).toInt64).toInt = (a3.toInt32).toInt := Int32.toInt_toInt64 (a3.toInt32)
      refine lv_lstore (lv' := [(5, .long (a3.toInt32).toInt64), (0, .ref mm), (1, .int a1), (2, .int a2), (3, .long a3)]) hx hb dB_36_1_46.1.1.2.2 hl (by decide) rfl (fun ls hl => ?_)
      refine lv_aload_n hx hb dB_36_1_46.1.2.1 rfl (lv_at hl 1 rfl) ?_
      refine va_get (ci := 4) (v := .ref mu) (C := RX4) (T := TX4) (N := 4) hx hb hts (fun _ h => List.mem_cons_of_mem _ (List.mem_append_right _ h)) hown hK.1 hP 0 rfl rfl 3 (by decide) (hts (.fieldLink RX4 22 "CutAtlas$NumberMap" "numbers" "[J") (List.mem_of_getElem? (i := 2) rfl)) (fun _ h9 => h9) rfl dB_36_1_46.1.2.2.1 ?_
      refine lv_iload_n hx hb dB_36_1_46.1.2.2.2 rfl (lv_at hl 2 rfl) ?_
      refine lv_iconst (v := 5) hx hb dB_36_1_46.2.1.1 (by decide) ?_
      refine lv_imul hx hb dB_36_1_46.2.1.2.1 ?_
      refine lv_topi (fun y_8 ey_8 => ?_)
      have ty_8 : y_8.toInt = 5 * a1.toInt := by rw [ey_8]; exact mulD (by decide) (by omega) (by omega)
      refine lv_iload_n hx hb dB_36_1_46.2.1.2.2 rfl (lv_at hl 3 rfl) ?_
      refine lv_iadd hx hb dB_36_1_46.2.2.1.1 ?_
      refine lv_topi (fun y_9 ey_9 => ?_)
      have ty_9 : y_9.toInt = y_8.toInt + a2.toInt := by rw [ey_9]; exact addI (by omega) (by omega)
      have hix_ : y_9.toNatClampNeg = (5 * a1.toInt + a2.toInt).toNat := ixn (by omega)
      refine lv_lload hx hb dB_36_1_46.2.2.1.2 (lv_at hl 0 rfl) ?_
      have h_10 : vp_in y_9 30 := in_I (by first | with_reducible assumption | omega) (by omega)
      refine va_last hx hb hK.1 hP hD hS 1 1 rfl rfl (i := y_9) h_10 dB_36_1_46.2.2.2.1 (fun H locs hP hD hS => ?_)
      obtain ⟨f_11, ef_11⟩ : ∃ g : Nat → Int64, g = vp_updL fn y_9.toNatClampNeg ((a3.toInt32).toInt64) := ⟨_, rfl⟩
      refine pd_K (D := D) (cl := vwCl) (H := H) (A := A) [ob4_0_ mm mk mr ml mu, aj_ cy mu 30 f_11] (by rw [ef_11]; exact hP) (by rw [ef_11]; exact hD) (fun hP hD => ?_)
      rw [hQ]
      exact W.vret hx hb hr (fun t ht hW => ⟨⟨(), rfl, trivial, f_11, (by first | (rw [ef_11, hix_, putV_0 (k := mk.toInt) (by assumption) (by omega)]; done) | (rw [ef_11, hix_, putV_1 (k := mk.toInt) (by omega)]; done) | (rw [ef_11, hix_, ← putV_2 (k := mk.toInt) (by omega) (by omega)]; done)), by rw [ht]; exact hP, hD⟩, hS.F ht⟩) hS.2.2 dB_36_1_46.2.2.2.2
  · have t_1 : mk.toInt = (0 : Int32).toInt := congrArg Int32.toInt c_1
    refine lv_lload_n hx hb dB_36_1_45.1.2.1.2 rfl (lv_at hl 4 rfl) ?_
    refine lv_l2i (v := a3.toInt32) hx hb dB_36_1_45.1.2.2.1 rfl ?_
    refine lv_i2s (v := (a3.toInt32).toInt16.toInt32) hx hb dB_36_1_45.1.2.2.2 rfl ?_
    refine lv_topi (fun y_13 ey_13 => ?_)
    refine lv_i2l (v := y_13.toInt64) hx hb dB_36_1_45.2.1.1.1 rfl ?_
    have q_13 : (y_13.toInt64).toInt = y_13.toInt := Int32.toInt_toInt64 y_13
    refine lv_lstore (lv' := [(5, .long y_13.toInt64), (0, .ref mm), (1, .int a1), (2, .int a2), (3, .long a3)]) hx hb dB_36_1_45.2.1.1.2 hl (by decide) rfl (fun ls hl => ?_)
    refine lv_goto (tgt := 32) hx hb dB_36_1_45.2.1.2.1 (by decide) ?_
    refine lv_aload_n hx hb dB_36_1_46.1.2.1 rfl (lv_at hl 1 rfl) ?_
    refine va_get (ci := 4) (v := .ref mu) (C := RX4) (T := TX4) (N := 4) hx hb hts (fun _ h => List.mem_cons_of_mem _ (List.mem_append_right _ h)) hown hK.1 hP 0 rfl rfl 3 (by decide) (hts (.fieldLink RX4 22 "CutAtlas$NumberMap" "numbers" "[J") (List.mem_of_getElem? (i := 2) rfl)) (fun _ h9 => h9) rfl dB_36_1_46.1.2.2.1 ?_
    refine lv_iload_n hx hb dB_36_1_46.1.2.2.2 rfl (lv_at hl 2 rfl) ?_
    refine lv_iconst (v := 5) hx hb dB_36_1_46.2.1.1 (by decide) ?_
    refine lv_imul hx hb dB_36_1_46.2.1.2.1 ?_
    refine lv_topi (fun y_14 ey_14 => ?_)
    have ty_14 : y_14.toInt = 5 * a1.toInt := by rw [ey_14]; exact mulD (by decide) (by omega) (by omega)
    refine lv_iload_n hx hb dB_36_1_46.2.1.2.2 rfl (lv_at hl 3 rfl) ?_
    refine lv_iadd hx hb dB_36_1_46.2.2.1.1 ?_
    refine lv_topi (fun y_15 ey_15 => ?_)
    have ty_15 : y_15.toInt = y_14.toInt + a2.toInt := by rw [ey_15]; exact addI (by omega) (by omega)
    have hix_ : y_15.toNatClampNeg = (5 * a1.toInt + a2.toInt).toNat := ixn (by omega)
    refine lv_lload hx hb dB_36_1_46.2.2.1.2 (lv_at hl 0 rfl) ?_
    have h_16 : vp_in y_15 30 := in_I (by first | with_reducible assumption | omega) (by omega)
    refine va_last hx hb hK.1 hP hD hS 1 1 rfl rfl (i := y_15) h_16 dB_36_1_46.2.2.2.1 (fun H locs hP hD hS => ?_)
    obtain ⟨f_17, ef_17⟩ : ∃ g : Nat → Int64, g = vp_updL fn y_15.toNatClampNeg y_13.toInt64 := ⟨_, rfl⟩
    refine pd_K (D := D) (cl := vwCl) (H := H) (A := A) [ob4_0_ mm mk mr ml mu, aj_ cy mu 30 f_17] (by rw [ef_17]; exact hP) (by rw [ef_17]; exact hD) (fun hP hD => ?_)
    rw [hQ]
    exact W.vret hx hb hr (fun t ht hW => ⟨⟨(), rfl, trivial, f_17, (by first | (rw [ef_17, hix_, putV_0 (k := mk.toInt) (by assumption) (by omega)]; done) | (rw [ef_17, hix_, putV_1 (k := mk.toInt) (by omega)]; done) | (rw [ef_17, hix_, ← putV_2 (k := mk.toInt) (by omega) (by omega)]; done)), by rw [ht]; exact hP, hD⟩, hS.F ht⟩) hS.2.2 dB_36_1_46.2.2.2.2

set_option maxHeartbeats 4000000 in
set_option maxRecDepth 100000 in
theorem c_X4_move2 (l : Launch) (D : va_G) (cy : Nat → ClassId) (sz : Nat) (mm : Nat) (ml : Nat) (mu : Nat) (mk : Int32) (mr : Int32) (fn : Nat → Int64) (a1 : Int32) (a2 : Int32) (a3 : Int32) (a4 : Int32) (a5 : Int32) (q0 : (0 ≤ a1.toInt ∧ a1.toInt ≤ 5) ∧ (0 ≤ a3.toInt ∧ a3.toInt ≤ 5) ∧ 0 ≤ a2.toInt ∧ 0 ≤ a4.toInt ∧ 0 ≤ a5.toInt ∧ a2.toInt + a5.toInt ≤ 5 ∧ a4.toInt + a5.toInt ≤ 5) : Met l yX4_move wsX4_move ({ frames := 1, cells := 0, slots := 0, locals := 40 }) (va_Pc [.ref mm, .int a1, .int a2, .int a3, .int a4, .int a5] (fun U => U.heap.size = sz ∧ va_P D vwCl [ob4_0_ mm mk mr ml mu, aj_ cy mu 30 fn] U.heap ∧ kk_ D cy U ∧ va_D (fun _ => True) [ob4_0_ mm mk mr ml mu, aj_ cy mu 30 fn])) (va_Qv (fun (_ : Unit) => True) (fun (_ : Unit) (t : State) => ∃ (efn : Nat → Int64), (efn = va_cpy fn fn (5 * a1.toInt + a2.toInt).toNat (5 * a3.toInt + a4.toInt).toNat a5.toNatClampNeg) ∧ va_P D vwCl [ob4_0_ mm mk mr ml mu, aj_ cy mu 30 efn] t.heap ∧ va_D (va_A [ob4_0_ mm mk mr ml mu, aj_ cy mu 30 fn] sz) [ob4_0_ mm mk mr ml mu, aj_ cy mu 30 efn]) (va_A [ob4_0_ mm mk mr ml mu, aj_ cy mu 30 fn] sz)) 0 0 (va_A [ob4_0_ mm mk mr ml mu, aj_ cy mu 30 fn] sz) := by
  refine ofQ (cc := cX4_move) (maxL := 6) (ret := none) (by decide) rfl ?_
  intro p e s m args below meth c s₁ Q hQ B hml hv
  obtain ⟨rfl, hsz, hP, hK, hD0⟩ := hv
  have hx := B.exec
  have hb := B.bytes
  have hr := B.returns
  have hts := atoms_spec (ws := wsX4_move) B.pre
  have hown : s.vm.findClass RX4 = some m.cls := by have h_ := findClass_of_methodNamed B.named; exact h_
  have hlocks := B.notSynchronized
  subst hsz
  have hD := hD0.self (sz := s.heap.size)
  generalize hAe : va_A [ob4_0_ mm mk mr ml mu, aj_ cy mu 30 fn] s.heap.size = A at hD hQ
  have hA : ∀ q : Nat, s.heap.size ≤ q → A q := fun q h => by rw [← hAe]; exact Or.inr h
  have hS : va_S A s.heap s.heap [] := va_S.rf
  have hl := lv_entry ([.ref mm, .int a1, .int a2, .int a3, .int a4, .int a5]) (n := 6) (Nat.le_of_ble_eq_true rfl)
  rw [lg_entry_eq]
  generalize (lg_sl ([.ref mm, .int a1, .int a2, .int a3, .int a4, .int a5]) ++ List.replicate (6 - (lg_sl ([.ref mm, .int a1, .int a2, .int a3, .int a4, .int a5])).length) Slot.unset).toArray = ls at hl ⊢
  have hl : lv_has ls 6 [(0, .ref mm), (1, .int a1), (2, .int a2), (3, .int a3), (4, .int a4), (5, .int a5)] := hl
  have z5 : (5 : Int32).toInt = 5 := by decide
  refine lv_aload_n hx hb dB_36_1_39.1.1.1.1 rfl (lv_at hl 0 rfl) ?_
  refine va_get (ci := 4) (v := .ref mu) (C := RX4) (T := TX4) (N := 4) hx hb hts (fun _ h => List.mem_cons_of_mem _ (List.mem_append_right _ h)) hown hK.1 hP 0 rfl rfl 3 (by decide) (hts (.fieldLink RX4 22 "CutAtlas$NumberMap" "numbers" "[J") (List.mem_of_getElem? (i := 1) rfl)) (fun _ h9 => h9) rfl dB_36_1_39.1.1.1.2 ?_
  refine lv_iload_n hx hb dB_36_1_39.1.1.2.1 rfl (lv_at hl 1 rfl) ?_
  refine lv_iconst (v := 5) hx hb dB_36_1_39.1.1.2.2 (by decide) ?_
  refine lv_imul hx hb dB_36_1_39.1.2.1.1 ?_
  refine lv_topi (fun y_1 ey_1 => ?_)
  have ty_1 : y_1.toInt = 5 * a1.toInt := by rw [ey_1]; exact mulD (by decide) (by omega) (by omega)
  refine lv_iload_n hx hb dB_36_1_39.1.2.1.2 rfl (lv_at hl 2 rfl) ?_
  refine lv_iadd hx hb dB_36_1_39.1.2.2.1 ?_
  refine lv_topi (fun y_2 ey_2 => ?_)
  have ty_2 : y_2.toInt = y_1.toInt + a2.toInt := by rw [ey_2]; exact addI (by omega) (by omega)
  have hi1_ : y_2.toNatClampNeg = (5 * a1.toInt + a2.toInt).toNat := ixn (by omega)
  refine lv_aload_n hx hb dB_36_1_39.1.2.2.2 rfl (lv_at hl 0 rfl) ?_
  refine va_get (ci := 4) (v := .ref mu) (C := RX4) (T := TX4) (N := 4) hx hb hts (fun _ h => List.mem_cons_of_mem _ (List.mem_append_right _ h)) hown hK.1 hP 0 rfl rfl 3 (by decide) (hts (.fieldLink RX4 22 "CutAtlas$NumberMap" "numbers" "[J") (List.mem_of_getElem? (i := 1) rfl)) (fun _ h9 => h9) rfl dB_36_1_39.2.1.1.1 ?_
  refine lv_iload_n hx hb dB_36_1_39.2.1.1.2 rfl (lv_at hl 3 rfl) ?_
  refine lv_iconst (v := 5) hx hb dB_36_1_39.2.1.2.1 (by decide) ?_
  refine lv_imul hx hb dB_36_1_39.2.1.2.2 ?_
  refine lv_topi (fun y_3 ey_3 => ?_)
  have ty_3 : y_3.toInt = 5 * a3.toInt := by rw [ey_3]; exact mulD (by decide) (by omega) (by omega)
  refine lv_iload hx hb dB_36_1_39.2.2.1.1 (lv_at hl 4 rfl) ?_
  refine lv_iadd hx hb dB_36_1_39.2.2.1.2 ?_
  refine lv_topi (fun y_4 ey_4 => ?_)
  have ty_4 : y_4.toInt = y_3.toInt + a4.toInt := by rw [ey_4]; exact addI (by omega) (by omega)
  have hi2_ : y_4.toNatClampNeg = (5 * a3.toInt + a4.toInt).toNat := ixn (by omega)
  refine lv_iload hx hb dB_36_1_39.2.2.2.1 (lv_at hl 5 rfl) ?_
  have cl_5 := clI (i := a5) (by omega)
  have cl_6 := clI (i := y_4) (by omega)
  have cl_7 := clI (i := y_2) (by omega)
  refine va_copyl hx hb (by rw [hml]; exact hl.1.symm) hown (hts (.methodLink RX4 48 arraycopyName) (List.mem_of_getElem? (i := 2) rfl)) (hts (.native arraycopyName) (List.mem_of_getElem? (i := 3) rfl)) (hts (.static arraycopyName) (List.mem_of_getElem? (i := 4) rfl)) (hts (.initialized "java/lang/System") (List.mem_of_getElem? (i := 5) rfl)) hK.1 hP hD hS 1 1 1 1 rfl rfl rfl rfl rfl (sp := y_2) (dp := y_4) (n := a5) (nneg (by omega)) (nneg (by omega)) (nneg (by omega)) (by omega) (by omega) (fun i h => rfl) (Nat.le_of_ble_eq_true rfl) (Nat.le_of_ble_eq_true rfl) dB_36_1_39.2.2.2.2 (fun H locs hP hD hS => ?_)
  obtain ⟨f_8, ef_8⟩ : ∃ g : Nat → Int64, g = va_cpy fn fn y_2.toNatClampNeg y_4.toNatClampNeg a5.toNatClampNeg := ⟨_, rfl⟩
  refine pd_K (D := D) (cl := vwCl) (H := H) (A := A) [ob4_0_ mm mk mr ml mu, aj_ cy mu 30 f_8] (by rw [ef_8]; exact hP) (by rw [ef_8]; exact hD) (fun hP hD => ?_)
  rw [hQ]
  exact W.vret hx hb hr (fun t ht hW => ⟨⟨(), rfl, trivial, f_8, (by rw [ef_8, hi1_, hi2_]), by rw [ht]; exact hP, hD⟩, hS.F ht⟩) hS.2.2 dB_36_1_40

set_option maxHeartbeats 4000000 in
set_option maxRecDepth 100000 in
theorem c_X4_moveRefusal2 (l : Launch) (D : va_G) (cy : Nat → ClassId) (sz : Nat) (mm : Nat) (ml : Nat) (mu : Nat) (mk : Int32) (mr : Int32) (fl : Nat → Int32) (a1 : Int32) (a2 : Int32) (a3 : Int32) (a4 : Int32) (a5 : Int32) (hmr : mr.toInt = -9 ∨ (0 ≤ mr.toInt ∧ mr.toInt ≤ 6)) (r_fl : rng fl 6 (-9) (5)) : Met l yX4_moveRefusal wsX4_moveRefusal ({ frames := 1, cells := 0, slots := 0, locals := 23 }) (va_Pc [.ref mm, .int a1, .int a2, .int a3, .int a4, .int a5] (fun U => U.heap.size = sz ∧ va_P D vwCl [ob4_0_ mm mk mr ml mu, ai_ cy ml 6 fl] U.heap ∧ kk_ D cy U ∧ va_D (fun _ => True) [ob4_0_ mm mk mr ml mu, ai_ cy ml 6 fl])) (va_Qi (fun (r : Int32) (_ : Unit) => (r.toInt = cpyI 0 a1.toInt a2.toInt a3.toInt a4.toInt a5.toInt (hasI mr.toInt) mr.toInt (fl a1.toNatClampNeg).toInt (fl a3.toNatClampNeg).toInt) ∧ (r.toInt < 0 ∨ (r.toInt = 0 ∧ (0 ≤ a1.toInt ∧ a1.toInt ≤ 5) ∧ (0 ≤ a3.toInt ∧ a3.toInt ≤ 5) ∧ 0 ≤ a2.toInt ∧ 0 ≤ a4.toInt ∧ 0 ≤ a5.toInt ∧ a2.toInt + a5.toInt ≤ 5 ∧ a4.toInt + a5.toInt ≤ 5))) (fun (_ : Unit) (_ : State) => True) (va_A [] sz)) 0 0 (va_A [] sz) := by
  refine ofQ (cc := cX4_moveRefusal) (maxL := 6) (ret := (some .int)) (by decide) rfl ?_
  intro p e s m args below meth c s₁ Q hQ B hml hv
  obtain ⟨rfl, hsz, hP, hK, hD0⟩ := hv
  have hx := B.exec
  have hb := B.bytes
  have hr := B.returns
  have hts := atoms_spec (ws := wsX4_moveRefusal) B.pre
  have hown : s.vm.findClass RX4 = some m.cls := by have h_ := findClass_of_methodNamed B.named; exact h_
  have hlocks := B.notSynchronized
  subst hsz
  have hD : va_D (va_A [] s.heap.size) [] := dd_nil
  generalize hAe : va_A [] s.heap.size = A at hD hQ
  have hA : ∀ q : Nat, s.heap.size ≤ q → A q := fun q h => by rw [← hAe]; exact Or.inr h
  have hS : va_S A s.heap s.heap [] := va_S.rf
  have hl := lv_entry ([.ref mm, .int a1, .int a2, .int a3, .int a4, .int a5]) (n := 6) (Nat.le_of_ble_eq_true rfl)
  rw [lg_entry_eq]
  generalize (lg_sl ([.ref mm, .int a1, .int a2, .int a3, .int a4, .int a5]) ++ List.replicate (6 - (lg_sl ([.ref mm, .int a1, .int a2, .int a3, .int a4, .int a5])).length) Slot.unset).toArray = ls at hl ⊢
  have hl : lv_has ls 6 [(0, .ref mm), (1, .int a1), (2, .int a2), (3, .int a3), (4, .int a4), (5, .int a5)] := hl
  have zm12 : ((-12) : Int32).toInt = -12 := by decide
  have zm11 : ((-11) : Int32).toInt = -11 := by decide
  have z0 : (0 : Int32).toInt = 0 := by decide
  refine lv_aload_n hx hb dB_36_1_41.1.1.1.1 rfl (lv_at hl 0 rfl) ?_
  refine ct_R hP hD0 [ob4_0_ mm mk mr ml mu] [0] (by decide) rfl (fun hPc hDw => ?_)
  have hFc := va_free (wc := []) hD hS hA [] rfl
  refine va_calli (va_runV (As := []) (rest := []) ⟨hx, hb, hml, hown, hts⟩ (c_X4_isThere l D cy s.heap.size mm ml mu mk mr) (cwV 0 hts gX4_moveRefusal_X4_isThere rfl rfl rfl ⟨rfl, hd_X4_isThere⟩ ⟨Nat.le_of_ble_eq_true rfl, Nat.le_of_ble_eq_true rfl⟩) ⟨bl_, va_recvX hK.1 hP (ci := 4) (q0 := 0) rfl rfl, fun U hU hW => ⟨rfl, by rw [hU], by rw [hU]; exact hPc, kk_mv hW hK, hDw⟩⟩ rfl rfl hl.1 rfl (lv_room (Nat.le_of_ble_eq_true rfl)) dB_36_1_41.1.1.1.2 ⟨Nat.le_of_ble_eq_true rfl, Nat.le_of_ble_eq_true rfl⟩) hS (fun q _ h => hFc q h) hFc (fun r_1 u t H locs ht hvm hw hB hz1 hk1 hS => ?_)
  have hP : va_P D vwCl _ H := ro_keep hP hk1
  rcases hw with ⟨w_2, e_⟩ | ⟨w_2, e_⟩
  · have e_ := e_.symm
    subst e_
    refine lv_if_ne (tgt := 10) hx hb dB_36_1_41.1.1.2.1 (by decide) (fun c_3 => ?_) (fun c_3 => ?_)
    · have _ := c_3
      refine lv_aload_n hx hb dB_36_1_41.1.2.1.2 rfl (lv_at hl 0 rfl) ?_
      refine lv_iload_n hx hb dB_36_1_41.1.2.2.1 rfl (lv_at hl 1 rfl) ?_
      refine ct_R hP hD0 [ob4_0_ mm mk mr ml mu] [0] (by decide) rfl (fun hPc hDw => ?_)
      have hFc := va_free (wc := []) hD hS hA [] rfl
      refine va_calli (va_runV (As := [.int a1]) (rest := []) ⟨hx, hb, hml, hown, hts⟩ (c_X4_hasRow l D cy H.size mm ml mu mk mr a1) (cwV 1 hts gX4_moveRefusal_X4_hasRow rfl rfl rfl ⟨rfl, hd_X4_hasRow⟩ ⟨Nat.le_of_ble_eq_true rfl, Nat.le_of_ble_eq_true rfl⟩) ⟨bl_, va_recvX hK.1 hP (ci := 4) (q0 := 0) rfl rfl, fun U hU hW => ⟨rfl, by rw [hU], by rw [hU]; exact hPc, kk_mv hW hK, hDw⟩⟩ rfl rfl hl.1 rfl (lv_room (Nat.le_of_ble_eq_true rfl)) dB_36_1_41.1.2.2.2 ⟨Nat.le_of_ble_eq_true rfl, Nat.le_of_ble_eq_true rfl⟩) hS (fun q _ h => hFc q h) hFc (fun r_4 u t H locs ht hvm hw hB hz1 hk1 hS => ?_)
      have hP : va_P D vwCl _ H := ro_keep hP hk1
      rcases hw with ⟨w_5, e_⟩ | ⟨w_5, e_⟩
      · have e_ := e_.symm
        subst e_
        refine lv_if_eq (tgt := 26) hx hb dB_36_1_41.2.1.1.1 (by decide) (fun c_6 => ?_) (fun c_6 => ?_)
        · exact absurd c_6 (by decide)
        · have _ := c_6
          refine lv_aload_n hx hb dB_36_1_41.2.1.1.2 rfl (lv_at hl 0 rfl) ?_
          refine lv_iload_n hx hb dB_36_1_41.2.1.2.1 rfl (lv_at hl 3 rfl) ?_
          refine ct_R hP hD0 [ob4_0_ mm mk mr ml mu] [0] (by decide) rfl (fun hPc hDw => ?_)
          have hFc := va_free (wc := []) hD hS hA [] rfl
          refine va_calli (va_runV (As := [.int a3]) (rest := []) ⟨hx, hb, hml, hown, hts⟩ (c_X4_hasRow l D cy H.size mm ml mu mk mr a3) (cwV 1 hts gX4_moveRefusal_X4_hasRow rfl rfl rfl ⟨rfl, hd_X4_hasRow⟩ ⟨Nat.le_of_ble_eq_true rfl, Nat.le_of_ble_eq_true rfl⟩) ⟨bl_, va_recvX hK.1 hP (ci := 4) (q0 := 0) rfl rfl, fun U hU hW => ⟨rfl, by rw [hU], by rw [hU]; exact hPc, kk_mv hW hK, hDw⟩⟩ rfl rfl hl.1 rfl (lv_room (Nat.le_of_ble_eq_true rfl)) dB_36_1_41.2.1.2.2 ⟨Nat.le_of_ble_eq_true rfl, Nat.le_of_ble_eq_true rfl⟩) hS (fun q _ h => hFc q h) hFc (fun r_7 u t H locs ht hvm hw hB hz1 hk1 hS => ?_)
          have hP : va_P D vwCl _ H := ro_keep hP hk1
          rcases hw with ⟨w_8, e_⟩ | ⟨w_8, e_⟩
          · have e_ := e_.symm
            subst e_
            refine lv_if_ne (tgt := 29) hx hb dB_36_1_41.2.2.1.1 (by decide) (fun c_9 => ?_) (fun c_9 => ?_)
            · have _ := c_9
              refine lv_aload_n hx hb dB_36_1_41.2.2.2.2 rfl (lv_at hl 0 rfl) ?_
              refine va_get (ci := 4) (v := .ref ml) (C := RX4) (T := TX4) (N := 4) hx hb hts (fun _ h => List.mem_cons_of_mem _ (List.mem_append_right _ h)) hown hK.1 hP 0 rfl rfl 2 (by decide) (hts (.fieldLink RX4 18 "CutAtlas$NumberMap" "lengths" "[I") (List.mem_of_getElem? (i := 1) rfl)) (fun _ h9 => h9) rfl dB_36_1_42.1.1.1.1 ?_
              refine lv_iload_n hx hb dB_36_1_42.1.1.1.2 rfl (lv_at hl 1 rfl) ?_
              have h_10 : vp_in a1 6 := in_I (by first | with_reducible assumption | omega) (by omega)
              refine va_iald hx hb hK.1 hP 1 0 rfl rfl (i := a1) h_10 dB_36_1_42.1.1.2.1 ?_
              refine lv_topi (fun y_11 ey_11 => ?_)
              have ky_11 : y_11.toInt = (fl a1.toNatClampNeg).toInt := by rw [ey_11]
              have ry_11 : -9 ≤ y_11.toInt ∧ y_11.toInt ≤ 5 := by rw [ey_11]; exact r_fl _ (in_lt h_10)
              refine lv_if_lt (tgt := 47) hx hb dB_36_1_42.1.1.2.2 (by decide) (fun c_12 => ?_) (fun c_12 => ?_)
              · have t_12 : y_11.toInt < (0 : Int32).toInt := Int32.lt_iff_toInt_lt.mp c_12
                refine lv_bipush (v := (-11)) hx hb dB_36_1_42.2.1.1.2 (by decide) ?_
                rw [hQ]
                exact W.iret (v := (-11)) hx hb hr (fun t ht hW => ⟨⟨(-11), (), rfl, ⟨by unfold cpyI hasI; (repeat' (first | with_reducible refine if_n (by omega) ?_ | with_reducible refine if_ns (by omega) ?_ | with_reducible refine if_nz (by omega) ?_ | with_reducible exact if_p (by omega) (by omega) | with_reducible exact if_ps (by omega) (by omega) | with_reducible exact if_pz (by omega) (by omega))) <;> omega, by omega⟩, trivial⟩, hS.F ht⟩) hS.2.2 dB_36_1_42.2.1.2.1
              · have t_12 : ¬ y_11.toInt < (0 : Int32).toInt := fun h => c_12 (Int32.lt_iff_toInt_lt.mpr h)
                refine lv_aload_n hx hb dB_36_1_42.1.2.1.1 rfl (lv_at hl 0 rfl) ?_
                refine va_get (ci := 4) (v := .ref ml) (C := RX4) (T := TX4) (N := 4) hx hb hts (fun _ h => List.mem_cons_of_mem _ (List.mem_append_right _ h)) hown hK.1 hP 0 rfl rfl 2 (by decide) (hts (.fieldLink RX4 18 "CutAtlas$NumberMap" "lengths" "[I") (List.mem_of_getElem? (i := 1) rfl)) (fun _ h9 => h9) rfl dB_36_1_42.1.2.1.2 ?_
                refine lv_iload_n hx hb dB_36_1_42.1.2.2.1 rfl (lv_at hl 3 rfl) ?_
                have h_13 : vp_in a3 6 := in_I (by first | with_reducible assumption | omega) (by omega)
                refine va_iald hx hb hK.1 hP 1 0 rfl rfl (i := a3) h_13 dB_36_1_42.1.2.2.2 ?_
                refine lv_topi (fun y_14 ey_14 => ?_)
                have ky_14 : y_14.toInt = (fl a3.toNatClampNeg).toInt := by rw [ey_14]
                have ry_14 : -9 ≤ y_14.toInt ∧ y_14.toInt ≤ 5 := by rw [ey_14]; exact r_fl _ (in_lt h_13)
                refine lv_if_ge (tgt := 50) hx hb dB_36_1_42.2.1.1.1 (by decide) (fun c_15 => ?_) (fun c_15 => ?_)
                · have t_15 : (0 : Int32).toInt ≤ y_14.toInt := Int32.le_iff_toInt_le.mp c_15
                  refine lv_aload_n hx hb dB_36_1_42.2.1.2.2 rfl (lv_at hl 0 rfl) ?_
                  refine lv_iload_n hx hb dB_36_1_42.2.2.1.1 rfl (lv_at hl 1 rfl) ?_
                  refine lv_iload_n hx hb dB_36_1_42.2.2.1.2 rfl (lv_at hl 2 rfl) ?_
                  refine lv_iload hx hb dB_36_1_42.2.2.2.1 (lv_at hl 5 rfl) ?_
                  refine ct_R hP hD0 [ob4_0_ mm mk mr ml mu, ai_ cy ml 6 fl] [0, 1] (by decide) rfl (fun hPc hDw => ?_)
                  have hFc := va_free (wc := []) hD hS hA [] rfl
                  refine va_calli (va_runV (As := [.int a1, .int a2, .int a5]) (rest := []) ⟨hx, hb, hml, hown, hts⟩ (c_X4_hasNumbers l D cy H.size mm ml mu mk mr fl a1 a2 a5 (by first | with_reducible assumption | omega | assumption) (by first | with_reducible assumption | assumption | omega)) (cwV 3 hts gX4_moveRefusal_X4_hasNumbers rfl rfl rfl ⟨rfl, hd_X4_hasNumbers⟩ ⟨Nat.le_of_ble_eq_true rfl, Nat.le_of_ble_eq_true rfl⟩) ⟨bl_, va_recvX hK.1 hP (ci := 4) (q0 := 0) rfl rfl, fun U hU hW => ⟨rfl, by rw [hU], by rw [hU]; exact hPc, kk_mv hW hK, hDw⟩⟩ rfl rfl hl.1 rfl (lv_room (Nat.le_of_ble_eq_true rfl)) dB_36_1_42.2.2.2.2 ⟨Nat.le_of_ble_eq_true rfl, Nat.le_of_ble_eq_true rfl⟩) hS (fun q _ h => hFc q h) hFc (fun r_16 u t H locs ht hvm hw hB hz1 hk1 hS => ?_)
                  have hP : va_P D vwCl _ H := ro_keep hP hk1
                  rcases hw with ⟨w_17, e_⟩ | ⟨w_17, e_⟩
                  · have e_ := e_.symm
                    subst e_
                    refine lv_if_eq (tgt := 77) hx hb dB_36_1_43.1.1.1 (by decide) (fun c_18 => ?_) (fun c_18 => ?_)
                    · exact absurd c_18 (by decide)
                    · have _ := c_18
                      refine lv_aload_n hx hb dB_36_1_43.1.1.2 rfl (lv_at hl 0 rfl) ?_
                      refine lv_iload_n hx hb dB_36_1_43.1.2.1 rfl (lv_at hl 3 rfl) ?_
                      refine lv_iload hx hb dB_36_1_43.1.2.2.1 (lv_at hl 4 rfl) ?_
                      refine lv_iload hx hb dB_36_1_43.1.2.2.2 (lv_at hl 5 rfl) ?_
                      refine ct_R hP hD0 [ob4_0_ mm mk mr ml mu, ai_ cy ml 6 fl] [0, 1] (by decide) rfl (fun hPc hDw => ?_)
                      have hFc := va_free (wc := []) hD hS hA [] rfl
                      refine va_calli (va_runV (As := [.int a3, .int a4, .int a5]) (rest := []) ⟨hx, hb, hml, hown, hts⟩ (c_X4_hasNumbers l D cy H.size mm ml mu mk mr fl a3 a4 a5 (by first | with_reducible assumption | omega | assumption) (by first | with_reducible assumption | assumption | omega)) (cwV 3 hts gX4_moveRefusal_X4_hasNumbers rfl rfl rfl ⟨rfl, hd_X4_hasNumbers⟩ ⟨Nat.le_of_ble_eq_true rfl, Nat.le_of_ble_eq_true rfl⟩) ⟨bl_, va_recvX hK.1 hP (ci := 4) (q0 := 0) rfl rfl, fun U hU hW => ⟨rfl, by rw [hU], by rw [hU]; exact hPc, kk_mv hW hK, hDw⟩⟩ rfl rfl hl.1 rfl (lv_room (Nat.le_of_ble_eq_true rfl)) dB_36_1_43.2.1.1 ⟨Nat.le_of_ble_eq_true rfl, Nat.le_of_ble_eq_true rfl⟩) hS (fun q _ h => hFc q h) hFc (fun r_19 u t H locs ht hvm hw hB hz1 hk1 hS => ?_)
                      have hP : va_P D vwCl _ H := ro_keep hP hk1
                      rcases hw with ⟨w_20, e_⟩ | ⟨w_20, e_⟩
                      · have e_ := e_.symm
                        subst e_
                        refine lv_if_eq (tgt := 77) hx hb dB_36_1_43.2.1.2.1 (by decide) (fun c_21 => ?_) (fun c_21 => ?_)
                        · exact absurd c_21 (by decide)
                        · have _ := c_21
                          refine lv_iconst (v := 0) hx hb dB_36_1_43.2.1.2.2 (by decide) ?_
                          refine lv_goto (tgt := 79) hx hb dB_36_1_43.2.2.1 (by decide) ?_
                          rw [hQ]
                          exact W.iret (v := 0) hx hb hr (fun t ht hW => ⟨⟨0, (), rfl, ⟨by unfold cpyI hasI; (repeat' (first | with_reducible refine if_n (by omega) ?_ | with_reducible refine if_ns (by omega) ?_ | with_reducible refine if_nz (by omega) ?_ | with_reducible exact if_p (by omega) (by omega) | with_reducible exact if_ps (by omega) (by omega) | with_reducible exact if_pz (by omega) (by omega))) <;> omega, by omega⟩, trivial⟩, hS.F ht⟩) hS.2.2 dB_36_1_43.2.2.2.2
                      · have e_ := e_.symm
                        subst e_
                        refine lv_if_eq (tgt := 77) hx hb dB_36_1_43.2.1.2.1 (by decide) (fun c_22 => ?_) (fun c_22 => ?_)
                        · have _ := c_22
                          refine lv_bipush (v := (-12)) hx hb dB_36_1_43.2.2.2.1 (by decide) ?_
                          rw [hQ]
                          exact W.iret (v := (-12)) hx hb hr (fun t ht hW => ⟨⟨(-12), (), rfl, ⟨by unfold cpyI hasI; (repeat' (first | with_reducible refine if_n (by omega) ?_ | with_reducible refine if_ns (by omega) ?_ | with_reducible refine if_nz (by omega) ?_ | with_reducible exact if_p (by omega) (by omega) | with_reducible exact if_ps (by omega) (by omega) | with_reducible exact if_pz (by omega) (by omega))) <;> omega, by omega⟩, trivial⟩, hS.F ht⟩) hS.2.2 dB_36_1_43.2.2.2.2
                        · exact absurd c_22 (by decide)
                  · have e_ := e_.symm
                    subst e_
                    refine lv_if_eq (tgt := 77) hx hb dB_36_1_43.1.1.1 (by decide) (fun c_23 => ?_) (fun c_23 => ?_)
                    · have _ := c_23
                      refine lv_bipush (v := (-12)) hx hb dB_36_1_43.2.2.2.1 (by decide) ?_
                      rw [hQ]
                      exact W.iret (v := (-12)) hx hb hr (fun t ht hW => ⟨⟨(-12), (), rfl, ⟨by unfold cpyI hasI; (repeat' (first | with_reducible refine if_n (by omega) ?_ | with_reducible refine if_ns (by omega) ?_ | with_reducible refine if_nz (by omega) ?_ | with_reducible exact if_p (by omega) (by omega) | with_reducible exact if_ps (by omega) (by omega) | with_reducible exact if_pz (by omega) (by omega))) <;> omega, by omega⟩, trivial⟩, hS.F ht⟩) hS.2.2 dB_36_1_43.2.2.2.2
                    · exact absurd c_23 (by decide)
                · have t_15 : ¬ (0 : Int32).toInt ≤ y_14.toInt := fun h => c_15 (Int32.le_iff_toInt_le.mpr h)
                  refine lv_bipush (v := (-11)) hx hb dB_36_1_42.2.1.1.2 (by decide) ?_
                  rw [hQ]
                  exact W.iret (v := (-11)) hx hb hr (fun t ht hW => ⟨⟨(-11), (), rfl, ⟨by unfold cpyI hasI; (repeat' (first | with_reducible refine if_n (by omega) ?_ | with_reducible refine if_ns (by omega) ?_ | with_reducible refine if_nz (by omega) ?_ | with_reducible exact if_p (by omega) (by omega) | with_reducible exact if_ps (by omega) (by omega) | with_reducible exact if_pz (by omega) (by omega))) <;> omega, by omega⟩, trivial⟩, hS.F ht⟩) hS.2.2 dB_36_1_42.2.1.2.1
            · exact absurd c_9 (by decide)
          · have e_ := e_.symm
            subst e_
            refine lv_if_ne (tgt := 29) hx hb dB_36_1_41.2.2.1.1 (by decide) (fun c_24 => ?_) (fun c_24 => ?_)
            · exact absurd c_24 (by decide)
            · have _ := c_24
              refine lv_bipush (v := (-12)) hx hb dB_36_1_41.2.2.1.2 (by decide) ?_
              rw [hQ]
              exact W.iret (v := (-12)) hx hb hr (fun t ht hW => ⟨⟨(-12), (), rfl, ⟨by unfold cpyI hasI; (repeat' (first | with_reducible refine if_n (by omega) ?_ | with_reducible refine if_ns (by omega) ?_ | with_reducible refine if_nz (by omega) ?_ | with_reducible exact if_p (by omega) (by omega) | with_reducible exact if_ps (by omega) (by omega) | with_reducible exact if_pz (by omega) (by omega))) <;> omega, by omega⟩, trivial⟩, hS.F ht⟩) hS.2.2 dB_36_1_41.2.2.2.1
      · have e_ := e_.symm
        subst e_
        refine lv_if_eq (tgt := 26) hx hb dB_36_1_41.2.1.1.1 (by decide) (fun c_25 => ?_) (fun c_25 => ?_)
        · have _ := c_25
          refine lv_bipush (v := (-12)) hx hb dB_36_1_41.2.2.1.2 (by decide) ?_
          rw [hQ]
          exact W.iret (v := (-12)) hx hb hr (fun t ht hW => ⟨⟨(-12), (), rfl, ⟨by unfold cpyI hasI; (repeat' (first | with_reducible refine if_n (by omega) ?_ | with_reducible refine if_ns (by omega) ?_ | with_reducible refine if_nz (by omega) ?_ | with_reducible exact if_p (by omega) (by omega) | with_reducible exact if_ps (by omega) (by omega) | with_reducible exact if_pz (by omega) (by omega))) <;> omega, by omega⟩, trivial⟩, hS.F ht⟩) hS.2.2 dB_36_1_41.2.2.2.1
        · exact absurd c_25 (by decide)
    · exact absurd c_3 (by decide)
  · have e_ := e_.symm
    subst e_
    refine lv_if_ne (tgt := 10) hx hb dB_36_1_41.1.1.2.1 (by decide) (fun c_26 => ?_) (fun c_26 => ?_)
    · exact absurd c_26 (by decide)
    · have _ := c_26
      refine lv_bipush (v := (-11)) hx hb dB_36_1_41.1.1.2.2 (by decide) ?_
      rw [hQ]
      exact W.iret (v := (-11)) hx hb hr (fun t ht hW => ⟨⟨(-11), (), rfl, ⟨by unfold cpyI hasI; (repeat' (first | with_reducible refine if_n (by omega) ?_ | with_reducible refine if_ns (by omega) ?_ | with_reducible refine if_nz (by omega) ?_ | with_reducible exact if_p (by omega) (by omega) | with_reducible exact if_ps (by omega) (by omega) | with_reducible exact if_pz (by omega) (by omega))) <;> omega, by omega⟩, trivial⟩, hS.F ht⟩) hS.2.2 dB_36_1_41.1.2.1.1
end

section
set_option maxHeartbeats 4000000 in
set_option maxRecDepth 100000 in
theorem c_X11_rowRefusal2 (l : Launch) (D : va_G) (cy : Nat → ClassId) (sz : Nat) (xo : Nat) (xk : Nat) (xn : Nat) (xc : Nat) (xh : Nat) (xt : Nat) (xw : Nat) (xm : Nat) (xp : Nat) (pf : Int32) (ph : Int32) (tr : Int64) (fi : Int32) (m0 : Nat) (l0 : Nat) (u0 : Nat) (m1 : Nat) (l1 : Nat) (u1 : Nat) (m2 : Nat) (l2 : Nat) (u2 : Nat) (m3 : Nat) (l3 : Nat) (u3 : Nat) (mk0 : Int32) (mr0 : Int32) (mk1 : Int32) (mr1 : Int32) (mk2 : Int32) (mr2 : Int32) (mk3 : Int32) (mr3 : Int32) (a1 : Int32) (a2 : Int32) (a3 : Int32) (hmr0 : mr0.toInt = -9 ∨ (0 ≤ mr0.toInt ∧ mr0.toInt ≤ 6)) (hmr1 : mr1.toInt = -9 ∨ (0 ≤ mr1.toInt ∧ mr1.toInt ≤ 6)) (hmr2 : mr2.toInt = -9 ∨ (0 ≤ mr2.toInt ∧ mr2.toInt ≤ 6)) (hmr3 : mr3.toInt = -9 ∨ (0 ≤ mr3.toInt ∧ mr3.toInt ≤ 6)) : Met l yX11_rowRefusal wsX11_rowRefusal ({ frames := 1, cells := 0, slots := 0, locals := 21 }) (va_Pc [.ref xo, .int a1, .int a2, .int a3] (fun U => U.heap.size = sz ∧ va_P D vwCl [ob11_0_ xo xk xn xc xh xt xw xm xp pf ph tr fi, aq_ cy 4 xm 4 (mf_ m0 m1 m2 m3), ob4_0_ m0 mk0 mr0 l0 u0, ob4_0_ m1 mk1 mr1 l1 u1, ob4_0_ m2 mk2 mr2 l2 u2, ob4_0_ m3 mk3 mr3 l3 u3] U.heap ∧ kk_ D cy U ∧ va_D (fun _ => True) [ob11_0_ xo xk xn xc xh xt xw xm xp pf ph tr fi, aq_ cy 4 xm 4 (mf_ m0 m1 m2 m3), ob4_0_ m0 mk0 mr0 l0 u0, ob4_0_ m1 mk1 mr1 l1 u1, ob4_0_ m2 mk2 mr2 l2 u2, ob4_0_ m3 mk3 mr3 l3 u3])) (va_Qi (fun (r : Int32) (_ : Unit) => (r.toInt = rowRI a1.toInt a2.toInt a3.toInt (hasI ((f4_ mr0 mr1 mr2 mr3) a1.toNatClampNeg).toInt) ((f4_ mr0 mr1 mr2 mr3) a1.toNatClampNeg).toInt) ∧ (r.toInt < 0 ∨ (r.toInt = 0 ∧ (0 ≤ a1.toInt ∧ a1.toInt < 4) ∧ (0 ≤ a2.toInt ∧ a2.toInt ≤ 5) ∧ (0 ≤ a3.toInt ∧ a3.toInt ≤ 5)))) (fun (_ : Unit) (_ : State) => True) (va_A [] sz)) 0 0 (va_A [] sz) := by
  refine ofQ (cc := cX11_rowRefusal) (maxL := 4) (ret := (some .int)) (by decide) rfl ?_
  intro p e s m args below meth c s₁ Q hQ B hml hv
  obtain ⟨rfl, hsz, hP, hK, hD0⟩ := hv
  have hx := B.exec
  have hb := B.bytes
  have hr := B.returns
  have hts := atoms_spec (ws := wsX11_rowRefusal) B.pre
  have hown : s.vm.findClass RX11 = some m.cls := by have h_ := findClass_of_methodNamed B.named; exact h_
  have hlocks := B.notSynchronized
  subst hsz
  have hD : va_D (va_A [] s.heap.size) [] := dd_nil
  generalize hAe : va_A [] s.heap.size = A at hD hQ
  have hA : ∀ q : Nat, s.heap.size ≤ q → A q := fun q h => by rw [← hAe]; exact Or.inr h
  have hS : va_S A s.heap s.heap [] := va_S.rf
  have hl := lv_entry ([.ref xo, .int a1, .int a2, .int a3]) (n := 4) (Nat.le_of_ble_eq_true rfl)
  rw [lg_entry_eq]
  generalize (lg_sl ([.ref xo, .int a1, .int a2, .int a3]) ++ List.replicate (4 - (lg_sl ([.ref xo, .int a1, .int a2, .int a3])).length) Slot.unset).toArray = ls at hl ⊢
  have hl : lv_has ls 4 [(0, .ref xo), (1, .int a1), (2, .int a2), (3, .int a3)] := hl
  have zm15 : ((-15) : Int32).toInt = -15 := by decide
  have zm12 : ((-12) : Int32).toInt = -12 := by decide
  have zm11 : ((-11) : Int32).toInt = -11 := by decide
  have zm1 : ((-1) : Int32).toInt = -1 := by decide
  have z0 : (0 : Int32).toInt = 0 := by decide
  have z5 : (5 : Int32).toInt = 5 := by decide
  refine lv_iload_n hx hb dB_36_3_59.1.1.1.1 rfl (lv_at hl 1 rfl) ?_
  refine ct_R hP hD0 [] [] (by decide) rfl (fun hPc hDw => ?_)
  have hFc := va_free (wc := []) hD hS hA [] rfl
  refine va_calli (va_runS (As := [.int a1]) (rest := []) ⟨hx, hb, hml, hown, hts⟩ (c_X11_isMapNumber l D cy s.heap.size a1) (va_cwS 1 hts gX11_rowRefusal_X11_isMapNumber rfl rfl rfl hd_X11_isMapNumber ⟨Nat.le_of_ble_eq_true rfl, Nat.le_of_ble_eq_true rfl⟩) ⟨bl_, fun U hU hW => ⟨rfl, by rw [hU], by rw [hU]; exact hPc, kk_mv hW hK, hDw⟩⟩ rfl rfl hl.1 rfl (lv_room (Nat.le_of_ble_eq_true rfl)) dB_36_3_59.1.1.1.2 ⟨Nat.le_of_ble_eq_true rfl, Nat.le_of_ble_eq_true rfl⟩) hS (fun q _ h => hFc q h) hFc (fun r_1 u t H locs ht hvm hw hB hz1 hk1 hS => ?_)
  have hP : va_P D vwCl _ H := ro_keep hP hk1
  rcases hw with ⟨w_2, e_⟩ | ⟨w_2, e_⟩
  · have e_ := e_.symm
    subst e_
    refine lv_if_eq (tgt := 12) hx hb dB_36_3_59.1.1.2.1 (by decide) (fun c_3 => ?_) (fun c_3 => ?_)
    · exact absurd c_3 (by decide)
    · have _ := c_3
      refine lv_iload_n hx hb dB_36_3_59.1.1.2.2 rfl (lv_at hl 3 rfl) ?_
      refine lv_iconst (v := 5) hx hb dB_36_3_59.1.2.1.1 (by decide) ?_
      refine lv_icmp_le (tgt := 14) hx hb dB_36_3_59.1.2.1.2 (by decide) (fun c_4 => ?_) (fun c_4 => ?_)
      · have t_4 : a3.toInt ≤ (5 : Int32).toInt := Int32.le_iff_toInt_le.mp c_4
        rcases sp_4 (x := a1) (by omega) with rfl | rfl | rfl | rfl
        · refine lv_aload_n hx hb dB_36_3_59.2.1.1.1 rfl (lv_at hl 0 rfl) ?_
          refine va_get (ci := 11) (v := .ref xm) (C := RX11) (T := TX11) (N := 12) hx hb hts (fun _ h => List.mem_cons_of_mem _ (List.mem_append_left _ (List.mem_append_right _ h))) hown hK.1 hP 0 rfl rfl 6 (by decide) (hts (.fieldLink RX11 72 "CutAtlas" "maps" "[LCutAtlas$NumberMap;") (List.mem_of_getElem? (i := 1) rfl)) (fun _ h9 => h9) rfl dB_36_3_59.2.1.1.2 ?_
          refine lv_iload_n hx hb dB_36_3_59.2.1.2.1 rfl (lv_at hl 1 rfl) ?_
          refine va_aldq hx hb hK.1 hP 1 4 rfl rfl (i := 0) (by unfold vp_in; decide) dB_36_3_59.2.1.2.2 ?_
          refine lv_topv (v' := .ref m0) (by simp [va_up, va_rf, mf_, cl_0, cl_1, cl_2, cl_3, cl_4]) ?_
          refine ct_R hP hD0 [ob4_0_ m0 mk0 mr0 l0 u0] [2] (by decide) rfl (fun hPc hDw => ?_)
          have hFc := va_free (wc := []) hD hS hA [] rfl
          refine va_calli (va_runV (As := []) (rest := []) ⟨hx, hb, hml, hown, hts⟩ (c_X4_isThere l D cy H.size m0 l0 u0 mk0 mr0) (cwV 0 hts gX11_rowRefusal_X4_isThere rfl rfl rfl ⟨rfl, hd_X4_isThere⟩ ⟨Nat.le_of_ble_eq_true rfl, Nat.le_of_ble_eq_true rfl⟩) ⟨bl_, va_recvX hK.1 hP (ci := 4) (q0 := 2) rfl rfl, fun U hU hW => ⟨rfl, by rw [hU], by rw [hU]; exact hPc, kk_mv hW hK, hDw⟩⟩ rfl rfl hl.1 rfl (lv_room (Nat.le_of_ble_eq_true rfl)) dB_36_3_59.2.2.1.1 ⟨Nat.le_of_ble_eq_true rfl, Nat.le_of_ble_eq_true rfl⟩) hS (fun q _ h => hFc q h) hFc (fun r_5 u t H locs ht hvm hw hB hz1 hk1 hS => ?_)
          have hP : va_P D vwCl _ H := ro_keep hP hk1
          rcases hw with ⟨w_6, e_⟩ | ⟨w_6, e_⟩
          · have e_ := e_.symm
            subst e_
            refine lv_if_ne (tgt := 29) hx hb dB_36_3_59.2.2.1.2 (by decide) (fun c_7 => ?_) (fun c_7 => ?_)
            · have _ := c_7
              refine lv_aload_n hx hb dB_36_3_60.1.1.1 rfl (lv_at hl 0 rfl) ?_
              refine va_get (ci := 11) (v := .ref xm) (C := RX11) (T := TX11) (N := 12) hx hb hts (fun _ h => List.mem_cons_of_mem _ (List.mem_append_left _ (List.mem_append_right _ h))) hown hK.1 hP 0 rfl rfl 6 (by decide) (hts (.fieldLink RX11 72 "CutAtlas" "maps" "[LCutAtlas$NumberMap;") (List.mem_of_getElem? (i := 1) rfl)) (fun _ h9 => h9) rfl dB_36_3_60.1.1.2.1 ?_
              refine lv_iload_n hx hb dB_36_3_60.1.1.2.2 rfl (lv_at hl 1 rfl) ?_
              refine va_aldq hx hb hK.1 hP 1 4 rfl rfl (i := 0) (by unfold vp_in; decide) dB_36_3_60.1.2.1.1 ?_
              refine lv_topv (v' := .ref m0) (by simp [va_up, va_rf, mf_, cl_0, cl_1, cl_2, cl_3, cl_4]) ?_
              refine lv_iload_n hx hb dB_36_3_60.1.2.1.2 rfl (lv_at hl 2 rfl) ?_
              refine ct_R hP hD0 [ob4_0_ m0 mk0 mr0 l0 u0] [2] (by decide) rfl (fun hPc hDw => ?_)
              have hFc := va_free (wc := []) hD hS hA [] rfl
              refine va_calli (va_runV (As := [.int a2]) (rest := []) ⟨hx, hb, hml, hown, hts⟩ (c_X4_hasRow l D cy H.size m0 l0 u0 mk0 mr0 a2) (cwV 1 hts gX11_rowRefusal_X4_hasRow rfl rfl rfl ⟨rfl, hd_X4_hasRow⟩ ⟨Nat.le_of_ble_eq_true rfl, Nat.le_of_ble_eq_true rfl⟩) ⟨bl_, va_recvX hK.1 hP (ci := 4) (q0 := 2) rfl rfl, fun U hU hW => ⟨rfl, by rw [hU], by rw [hU]; exact hPc, kk_mv hW hK, hDw⟩⟩ rfl rfl hl.1 rfl (lv_room (Nat.le_of_ble_eq_true rfl)) dB_36_3_60.1.2.2.1 ⟨Nat.le_of_ble_eq_true rfl, Nat.le_of_ble_eq_true rfl⟩) hS (fun q _ h => hFc q h) hFc (fun r_8 u t H locs ht hvm hw hB hz1 hk1 hS => ?_)
              have hP : va_P D vwCl _ H := ro_keep hP hk1
              rcases hw with ⟨w_9, e_⟩ | ⟨w_9, e_⟩
              · have e_ := e_.symm
                subst e_
                refine lv_if_ne (tgt := 45) hx hb dB_36_3_60.1.2.2.2 (by decide) (fun c_10 => ?_) (fun c_10 => ?_)
                · have _ := c_10
                  refine lv_iload_n hx hb dB_36_3_60.2.1.2.1 rfl (lv_at hl 3 rfl) ?_
                  refine lv_if_ge (tgt := 54) hx hb dB_36_3_60.2.1.2.2 (by decide) (fun c_11 => ?_) (fun c_11 => ?_)
                  · have t_11 : (0 : Int32).toInt ≤ a3.toInt := Int32.le_iff_toInt_le.mp c_11
                    refine lv_iconst (v := 0) hx hb dB_36_3_60.2.2.2.1 (by decide) ?_
                    rw [hQ]
                    exact W.iret (v := 0) hx hb hr (fun t ht hW => ⟨⟨0, (), rfl, ⟨by first | (simp only [f4_c0, f4_c1, f4_c2, f4_c3]; unfold rowRI hasI; (repeat' (first | with_reducible refine if_n (by omega) ?_ | with_reducible refine if_ns (by omega) ?_ | with_reducible refine if_nz (by omega) ?_ | with_reducible exact if_p (by omega) (by omega) | with_reducible exact if_ps (by omega) (by omega) | with_reducible exact if_pz (by omega) (by omega))) <;> omega) | (unfold rowRI hasI; (repeat' (first | with_reducible refine if_n (by omega) ?_ | with_reducible refine if_ns (by omega) ?_ | with_reducible refine if_nz (by omega) ?_ | with_reducible exact if_p (by omega) (by omega) | with_reducible exact if_ps (by omega) (by omega) | with_reducible exact if_pz (by omega) (by omega))) <;> omega), by omega⟩, trivial⟩, hS.F ht⟩) hS.2.2 dB_36_3_60.2.2.2.2
                  · have t_11 : ¬ (0 : Int32).toInt ≤ a3.toInt := fun h => c_11 (Int32.le_iff_toInt_le.mpr h)
                    refine lv_bipush (v := (-15)) hx hb dB_36_3_60.2.2.1.1 (by decide) ?_
                    refine lv_goto (tgt := 55) hx hb dB_36_3_60.2.2.1.2 (by decide) ?_
                    rw [hQ]
                    exact W.iret (v := (-15)) hx hb hr (fun t ht hW => ⟨⟨(-15), (), rfl, ⟨by first | (simp only [f4_c0, f4_c1, f4_c2, f4_c3]; unfold rowRI hasI; (repeat' (first | with_reducible refine if_n (by omega) ?_ | with_reducible refine if_ns (by omega) ?_ | with_reducible refine if_nz (by omega) ?_ | with_reducible exact if_p (by omega) (by omega) | with_reducible exact if_ps (by omega) (by omega) | with_reducible exact if_pz (by omega) (by omega))) <;> omega) | (unfold rowRI hasI; (repeat' (first | with_reducible refine if_n (by omega) ?_ | with_reducible refine if_ns (by omega) ?_ | with_reducible refine if_nz (by omega) ?_ | with_reducible exact if_p (by omega) (by omega) | with_reducible exact if_ps (by omega) (by omega) | with_reducible exact if_pz (by omega) (by omega))) <;> omega), by omega⟩, trivial⟩, hS.F ht⟩) hS.2.2 dB_36_3_60.2.2.2.2
                · exact absurd c_10 (by decide)
              · have e_ := e_.symm
                subst e_
                refine lv_if_ne (tgt := 45) hx hb dB_36_3_60.1.2.2.2 (by decide) (fun c_12 => ?_) (fun c_12 => ?_)
                · exact absurd c_12 (by decide)
                · have _ := c_12
                  refine lv_bipush (v := (-12)) hx hb dB_36_3_60.2.1.1.1 (by decide) ?_
                  rw [hQ]
                  exact W.iret (v := (-12)) hx hb hr (fun t ht hW => ⟨⟨(-12), (), rfl, ⟨by first | (simp only [f4_c0, f4_c1, f4_c2, f4_c3]; unfold rowRI hasI; (repeat' (first | with_reducible refine if_n (by omega) ?_ | with_reducible refine if_ns (by omega) ?_ | with_reducible refine if_nz (by omega) ?_ | with_reducible exact if_p (by omega) (by omega) | with_reducible exact if_ps (by omega) (by omega) | with_reducible exact if_pz (by omega) (by omega))) <;> omega) | (unfold rowRI hasI; (repeat' (first | with_reducible refine if_n (by omega) ?_ | with_reducible refine if_ns (by omega) ?_ | with_reducible refine if_nz (by omega) ?_ | with_reducible exact if_p (by omega) (by omega) | with_reducible exact if_ps (by omega) (by omega) | with_reducible exact if_pz (by omega) (by omega))) <;> omega), by omega⟩, trivial⟩, hS.F ht⟩) hS.2.2 dB_36_3_60.2.1.1.2
            · exact absurd c_7 (by decide)
          · have e_ := e_.symm
            subst e_
            refine lv_if_ne (tgt := 29) hx hb dB_36_3_59.2.2.1.2 (by decide) (fun c_13 => ?_) (fun c_13 => ?_)
            · exact absurd c_13 (by decide)
            · have _ := c_13
              refine lv_bipush (v := (-11)) hx hb dB_36_3_59.2.2.2.1 (by decide) ?_
              rw [hQ]
              exact W.iret (v := (-11)) hx hb hr (fun t ht hW => ⟨⟨(-11), (), rfl, ⟨by first | (simp only [f4_c0, f4_c1, f4_c2, f4_c3]; unfold rowRI hasI; (repeat' (first | with_reducible refine if_n (by omega) ?_ | with_reducible refine if_ns (by omega) ?_ | with_reducible refine if_nz (by omega) ?_ | with_reducible exact if_p (by omega) (by omega) | with_reducible exact if_ps (by omega) (by omega) | with_reducible exact if_pz (by omega) (by omega))) <;> omega) | (unfold rowRI hasI; (repeat' (first | with_reducible refine if_n (by omega) ?_ | with_reducible refine if_ns (by omega) ?_ | with_reducible refine if_nz (by omega) ?_ | with_reducible exact if_p (by omega) (by omega) | with_reducible exact if_ps (by omega) (by omega) | with_reducible exact if_pz (by omega) (by omega))) <;> omega), by omega⟩, trivial⟩, hS.F ht⟩) hS.2.2 dB_36_3_59.2.2.2.2
        · refine lv_aload_n hx hb dB_36_3_59.2.1.1.1 rfl (lv_at hl 0 rfl) ?_
          refine va_get (ci := 11) (v := .ref xm) (C := RX11) (T := TX11) (N := 12) hx hb hts (fun _ h => List.mem_cons_of_mem _ (List.mem_append_left _ (List.mem_append_right _ h))) hown hK.1 hP 0 rfl rfl 6 (by decide) (hts (.fieldLink RX11 72 "CutAtlas" "maps" "[LCutAtlas$NumberMap;") (List.mem_of_getElem? (i := 1) rfl)) (fun _ h9 => h9) rfl dB_36_3_59.2.1.1.2 ?_
          refine lv_iload_n hx hb dB_36_3_59.2.1.2.1 rfl (lv_at hl 1 rfl) ?_
          refine va_aldq hx hb hK.1 hP 1 4 rfl rfl (i := 1) (by unfold vp_in; decide) dB_36_3_59.2.1.2.2 ?_
          refine lv_topv (v' := .ref m1) (by simp [va_up, va_rf, mf_, cl_0, cl_1, cl_2, cl_3, cl_4]) ?_
          refine ct_R hP hD0 [ob4_0_ m1 mk1 mr1 l1 u1] [3] (by decide) rfl (fun hPc hDw => ?_)
          have hFc := va_free (wc := []) hD hS hA [] rfl
          refine va_calli (va_runV (As := []) (rest := []) ⟨hx, hb, hml, hown, hts⟩ (c_X4_isThere l D cy H.size m1 l1 u1 mk1 mr1) (cwV 0 hts gX11_rowRefusal_X4_isThere rfl rfl rfl ⟨rfl, hd_X4_isThere⟩ ⟨Nat.le_of_ble_eq_true rfl, Nat.le_of_ble_eq_true rfl⟩) ⟨bl_, va_recvX hK.1 hP (ci := 4) (q0 := 3) rfl rfl, fun U hU hW => ⟨rfl, by rw [hU], by rw [hU]; exact hPc, kk_mv hW hK, hDw⟩⟩ rfl rfl hl.1 rfl (lv_room (Nat.le_of_ble_eq_true rfl)) dB_36_3_59.2.2.1.1 ⟨Nat.le_of_ble_eq_true rfl, Nat.le_of_ble_eq_true rfl⟩) hS (fun q _ h => hFc q h) hFc (fun r_14 u t H locs ht hvm hw hB hz1 hk1 hS => ?_)
          have hP : va_P D vwCl _ H := ro_keep hP hk1
          rcases hw with ⟨w_15, e_⟩ | ⟨w_15, e_⟩
          · have e_ := e_.symm
            subst e_
            refine lv_if_ne (tgt := 29) hx hb dB_36_3_59.2.2.1.2 (by decide) (fun c_16 => ?_) (fun c_16 => ?_)
            · have _ := c_16
              refine lv_aload_n hx hb dB_36_3_60.1.1.1 rfl (lv_at hl 0 rfl) ?_
              refine va_get (ci := 11) (v := .ref xm) (C := RX11) (T := TX11) (N := 12) hx hb hts (fun _ h => List.mem_cons_of_mem _ (List.mem_append_left _ (List.mem_append_right _ h))) hown hK.1 hP 0 rfl rfl 6 (by decide) (hts (.fieldLink RX11 72 "CutAtlas" "maps" "[LCutAtlas$NumberMap;") (List.mem_of_getElem? (i := 1) rfl)) (fun _ h9 => h9) rfl dB_36_3_60.1.1.2.1 ?_
              refine lv_iload_n hx hb dB_36_3_60.1.1.2.2 rfl (lv_at hl 1 rfl) ?_
              refine va_aldq hx hb hK.1 hP 1 4 rfl rfl (i := 1) (by unfold vp_in; decide) dB_36_3_60.1.2.1.1 ?_
              refine lv_topv (v' := .ref m1) (by simp [va_up, va_rf, mf_, cl_0, cl_1, cl_2, cl_3, cl_4]) ?_
              refine lv_iload_n hx hb dB_36_3_60.1.2.1.2 rfl (lv_at hl 2 rfl) ?_
              refine ct_R hP hD0 [ob4_0_ m1 mk1 mr1 l1 u1] [3] (by decide) rfl (fun hPc hDw => ?_)
              have hFc := va_free (wc := []) hD hS hA [] rfl
              refine va_calli (va_runV (As := [.int a2]) (rest := []) ⟨hx, hb, hml, hown, hts⟩ (c_X4_hasRow l D cy H.size m1 l1 u1 mk1 mr1 a2) (cwV 1 hts gX11_rowRefusal_X4_hasRow rfl rfl rfl ⟨rfl, hd_X4_hasRow⟩ ⟨Nat.le_of_ble_eq_true rfl, Nat.le_of_ble_eq_true rfl⟩) ⟨bl_, va_recvX hK.1 hP (ci := 4) (q0 := 3) rfl rfl, fun U hU hW => ⟨rfl, by rw [hU], by rw [hU]; exact hPc, kk_mv hW hK, hDw⟩⟩ rfl rfl hl.1 rfl (lv_room (Nat.le_of_ble_eq_true rfl)) dB_36_3_60.1.2.2.1 ⟨Nat.le_of_ble_eq_true rfl, Nat.le_of_ble_eq_true rfl⟩) hS (fun q _ h => hFc q h) hFc (fun r_17 u t H locs ht hvm hw hB hz1 hk1 hS => ?_)
              have hP : va_P D vwCl _ H := ro_keep hP hk1
              rcases hw with ⟨w_18, e_⟩ | ⟨w_18, e_⟩
              · have e_ := e_.symm
                subst e_
                refine lv_if_ne (tgt := 45) hx hb dB_36_3_60.1.2.2.2 (by decide) (fun c_19 => ?_) (fun c_19 => ?_)
                · have _ := c_19
                  refine lv_iload_n hx hb dB_36_3_60.2.1.2.1 rfl (lv_at hl 3 rfl) ?_
                  refine lv_if_ge (tgt := 54) hx hb dB_36_3_60.2.1.2.2 (by decide) (fun c_20 => ?_) (fun c_20 => ?_)
                  · have t_20 : (0 : Int32).toInt ≤ a3.toInt := Int32.le_iff_toInt_le.mp c_20
                    refine lv_iconst (v := 0) hx hb dB_36_3_60.2.2.2.1 (by decide) ?_
                    rw [hQ]
                    exact W.iret (v := 0) hx hb hr (fun t ht hW => ⟨⟨0, (), rfl, ⟨by first | (simp only [f4_c0, f4_c1, f4_c2, f4_c3]; unfold rowRI hasI; (repeat' (first | with_reducible refine if_n (by omega) ?_ | with_reducible refine if_ns (by omega) ?_ | with_reducible refine if_nz (by omega) ?_ | with_reducible exact if_p (by omega) (by omega) | with_reducible exact if_ps (by omega) (by omega) | with_reducible exact if_pz (by omega) (by omega))) <;> omega) | (unfold rowRI hasI; (repeat' (first | with_reducible refine if_n (by omega) ?_ | with_reducible refine if_ns (by omega) ?_ | with_reducible refine if_nz (by omega) ?_ | with_reducible exact if_p (by omega) (by omega) | with_reducible exact if_ps (by omega) (by omega) | with_reducible exact if_pz (by omega) (by omega))) <;> omega), by omega⟩, trivial⟩, hS.F ht⟩) hS.2.2 dB_36_3_60.2.2.2.2
                  · have t_20 : ¬ (0 : Int32).toInt ≤ a3.toInt := fun h => c_20 (Int32.le_iff_toInt_le.mpr h)
                    refine lv_bipush (v := (-15)) hx hb dB_36_3_60.2.2.1.1 (by decide) ?_
                    refine lv_goto (tgt := 55) hx hb dB_36_3_60.2.2.1.2 (by decide) ?_
                    rw [hQ]
                    exact W.iret (v := (-15)) hx hb hr (fun t ht hW => ⟨⟨(-15), (), rfl, ⟨by first | (simp only [f4_c0, f4_c1, f4_c2, f4_c3]; unfold rowRI hasI; (repeat' (first | with_reducible refine if_n (by omega) ?_ | with_reducible refine if_ns (by omega) ?_ | with_reducible refine if_nz (by omega) ?_ | with_reducible exact if_p (by omega) (by omega) | with_reducible exact if_ps (by omega) (by omega) | with_reducible exact if_pz (by omega) (by omega))) <;> omega) | (unfold rowRI hasI; (repeat' (first | with_reducible refine if_n (by omega) ?_ | with_reducible refine if_ns (by omega) ?_ | with_reducible refine if_nz (by omega) ?_ | with_reducible exact if_p (by omega) (by omega) | with_reducible exact if_ps (by omega) (by omega) | with_reducible exact if_pz (by omega) (by omega))) <;> omega), by omega⟩, trivial⟩, hS.F ht⟩) hS.2.2 dB_36_3_60.2.2.2.2
                · exact absurd c_19 (by decide)
              · have e_ := e_.symm
                subst e_
                refine lv_if_ne (tgt := 45) hx hb dB_36_3_60.1.2.2.2 (by decide) (fun c_21 => ?_) (fun c_21 => ?_)
                · exact absurd c_21 (by decide)
                · have _ := c_21
                  refine lv_bipush (v := (-12)) hx hb dB_36_3_60.2.1.1.1 (by decide) ?_
                  rw [hQ]
                  exact W.iret (v := (-12)) hx hb hr (fun t ht hW => ⟨⟨(-12), (), rfl, ⟨by first | (simp only [f4_c0, f4_c1, f4_c2, f4_c3]; unfold rowRI hasI; (repeat' (first | with_reducible refine if_n (by omega) ?_ | with_reducible refine if_ns (by omega) ?_ | with_reducible refine if_nz (by omega) ?_ | with_reducible exact if_p (by omega) (by omega) | with_reducible exact if_ps (by omega) (by omega) | with_reducible exact if_pz (by omega) (by omega))) <;> omega) | (unfold rowRI hasI; (repeat' (first | with_reducible refine if_n (by omega) ?_ | with_reducible refine if_ns (by omega) ?_ | with_reducible refine if_nz (by omega) ?_ | with_reducible exact if_p (by omega) (by omega) | with_reducible exact if_ps (by omega) (by omega) | with_reducible exact if_pz (by omega) (by omega))) <;> omega), by omega⟩, trivial⟩, hS.F ht⟩) hS.2.2 dB_36_3_60.2.1.1.2
            · exact absurd c_16 (by decide)
          · have e_ := e_.symm
            subst e_
            refine lv_if_ne (tgt := 29) hx hb dB_36_3_59.2.2.1.2 (by decide) (fun c_22 => ?_) (fun c_22 => ?_)
            · exact absurd c_22 (by decide)
            · have _ := c_22
              refine lv_bipush (v := (-11)) hx hb dB_36_3_59.2.2.2.1 (by decide) ?_
              rw [hQ]
              exact W.iret (v := (-11)) hx hb hr (fun t ht hW => ⟨⟨(-11), (), rfl, ⟨by first | (simp only [f4_c0, f4_c1, f4_c2, f4_c3]; unfold rowRI hasI; (repeat' (first | with_reducible refine if_n (by omega) ?_ | with_reducible refine if_ns (by omega) ?_ | with_reducible refine if_nz (by omega) ?_ | with_reducible exact if_p (by omega) (by omega) | with_reducible exact if_ps (by omega) (by omega) | with_reducible exact if_pz (by omega) (by omega))) <;> omega) | (unfold rowRI hasI; (repeat' (first | with_reducible refine if_n (by omega) ?_ | with_reducible refine if_ns (by omega) ?_ | with_reducible refine if_nz (by omega) ?_ | with_reducible exact if_p (by omega) (by omega) | with_reducible exact if_ps (by omega) (by omega) | with_reducible exact if_pz (by omega) (by omega))) <;> omega), by omega⟩, trivial⟩, hS.F ht⟩) hS.2.2 dB_36_3_59.2.2.2.2
        · refine lv_aload_n hx hb dB_36_3_59.2.1.1.1 rfl (lv_at hl 0 rfl) ?_
          refine va_get (ci := 11) (v := .ref xm) (C := RX11) (T := TX11) (N := 12) hx hb hts (fun _ h => List.mem_cons_of_mem _ (List.mem_append_left _ (List.mem_append_right _ h))) hown hK.1 hP 0 rfl rfl 6 (by decide) (hts (.fieldLink RX11 72 "CutAtlas" "maps" "[LCutAtlas$NumberMap;") (List.mem_of_getElem? (i := 1) rfl)) (fun _ h9 => h9) rfl dB_36_3_59.2.1.1.2 ?_
          refine lv_iload_n hx hb dB_36_3_59.2.1.2.1 rfl (lv_at hl 1 rfl) ?_
          refine va_aldq hx hb hK.1 hP 1 4 rfl rfl (i := 2) (by unfold vp_in; decide) dB_36_3_59.2.1.2.2 ?_
          refine lv_topv (v' := .ref m2) (by simp [va_up, va_rf, mf_, cl_0, cl_1, cl_2, cl_3, cl_4]) ?_
          refine ct_R hP hD0 [ob4_0_ m2 mk2 mr2 l2 u2] [4] (by decide) rfl (fun hPc hDw => ?_)
          have hFc := va_free (wc := []) hD hS hA [] rfl
          refine va_calli (va_runV (As := []) (rest := []) ⟨hx, hb, hml, hown, hts⟩ (c_X4_isThere l D cy H.size m2 l2 u2 mk2 mr2) (cwV 0 hts gX11_rowRefusal_X4_isThere rfl rfl rfl ⟨rfl, hd_X4_isThere⟩ ⟨Nat.le_of_ble_eq_true rfl, Nat.le_of_ble_eq_true rfl⟩) ⟨bl_, va_recvX hK.1 hP (ci := 4) (q0 := 4) rfl rfl, fun U hU hW => ⟨rfl, by rw [hU], by rw [hU]; exact hPc, kk_mv hW hK, hDw⟩⟩ rfl rfl hl.1 rfl (lv_room (Nat.le_of_ble_eq_true rfl)) dB_36_3_59.2.2.1.1 ⟨Nat.le_of_ble_eq_true rfl, Nat.le_of_ble_eq_true rfl⟩) hS (fun q _ h => hFc q h) hFc (fun r_23 u t H locs ht hvm hw hB hz1 hk1 hS => ?_)
          have hP : va_P D vwCl _ H := ro_keep hP hk1
          rcases hw with ⟨w_24, e_⟩ | ⟨w_24, e_⟩
          · have e_ := e_.symm
            subst e_
            refine lv_if_ne (tgt := 29) hx hb dB_36_3_59.2.2.1.2 (by decide) (fun c_25 => ?_) (fun c_25 => ?_)
            · have _ := c_25
              refine lv_aload_n hx hb dB_36_3_60.1.1.1 rfl (lv_at hl 0 rfl) ?_
              refine va_get (ci := 11) (v := .ref xm) (C := RX11) (T := TX11) (N := 12) hx hb hts (fun _ h => List.mem_cons_of_mem _ (List.mem_append_left _ (List.mem_append_right _ h))) hown hK.1 hP 0 rfl rfl 6 (by decide) (hts (.fieldLink RX11 72 "CutAtlas" "maps" "[LCutAtlas$NumberMap;") (List.mem_of_getElem? (i := 1) rfl)) (fun _ h9 => h9) rfl dB_36_3_60.1.1.2.1 ?_
              refine lv_iload_n hx hb dB_36_3_60.1.1.2.2 rfl (lv_at hl 1 rfl) ?_
              refine va_aldq hx hb hK.1 hP 1 4 rfl rfl (i := 2) (by unfold vp_in; decide) dB_36_3_60.1.2.1.1 ?_
              refine lv_topv (v' := .ref m2) (by simp [va_up, va_rf, mf_, cl_0, cl_1, cl_2, cl_3, cl_4]) ?_
              refine lv_iload_n hx hb dB_36_3_60.1.2.1.2 rfl (lv_at hl 2 rfl) ?_
              refine ct_R hP hD0 [ob4_0_ m2 mk2 mr2 l2 u2] [4] (by decide) rfl (fun hPc hDw => ?_)
              have hFc := va_free (wc := []) hD hS hA [] rfl
              refine va_calli (va_runV (As := [.int a2]) (rest := []) ⟨hx, hb, hml, hown, hts⟩ (c_X4_hasRow l D cy H.size m2 l2 u2 mk2 mr2 a2) (cwV 1 hts gX11_rowRefusal_X4_hasRow rfl rfl rfl ⟨rfl, hd_X4_hasRow⟩ ⟨Nat.le_of_ble_eq_true rfl, Nat.le_of_ble_eq_true rfl⟩) ⟨bl_, va_recvX hK.1 hP (ci := 4) (q0 := 4) rfl rfl, fun U hU hW => ⟨rfl, by rw [hU], by rw [hU]; exact hPc, kk_mv hW hK, hDw⟩⟩ rfl rfl hl.1 rfl (lv_room (Nat.le_of_ble_eq_true rfl)) dB_36_3_60.1.2.2.1 ⟨Nat.le_of_ble_eq_true rfl, Nat.le_of_ble_eq_true rfl⟩) hS (fun q _ h => hFc q h) hFc (fun r_26 u t H locs ht hvm hw hB hz1 hk1 hS => ?_)
              have hP : va_P D vwCl _ H := ro_keep hP hk1
              rcases hw with ⟨w_27, e_⟩ | ⟨w_27, e_⟩
              · have e_ := e_.symm
                subst e_
                refine lv_if_ne (tgt := 45) hx hb dB_36_3_60.1.2.2.2 (by decide) (fun c_28 => ?_) (fun c_28 => ?_)
                · have _ := c_28
                  refine lv_iload_n hx hb dB_36_3_60.2.1.2.1 rfl (lv_at hl 3 rfl) ?_
                  refine lv_if_ge (tgt := 54) hx hb dB_36_3_60.2.1.2.2 (by decide) (fun c_29 => ?_) (fun c_29 => ?_)
                  · have t_29 : (0 : Int32).toInt ≤ a3.toInt := Int32.le_iff_toInt_le.mp c_29
                    refine lv_iconst (v := 0) hx hb dB_36_3_60.2.2.2.1 (by decide) ?_
                    rw [hQ]
                    exact W.iret (v := 0) hx hb hr (fun t ht hW => ⟨⟨0, (), rfl, ⟨by first | (simp only [f4_c0, f4_c1, f4_c2, f4_c3]; unfold rowRI hasI; (repeat' (first | with_reducible refine if_n (by omega) ?_ | with_reducible refine if_ns (by omega) ?_ | with_reducible refine if_nz (by omega) ?_ | with_reducible exact if_p (by omega) (by omega) | with_reducible exact if_ps (by omega) (by omega) | with_reducible exact if_pz (by omega) (by omega))) <;> omega) | (unfold rowRI hasI; (repeat' (first | with_reducible refine if_n (by omega) ?_ | with_reducible refine if_ns (by omega) ?_ | with_reducible refine if_nz (by omega) ?_ | with_reducible exact if_p (by omega) (by omega) | with_reducible exact if_ps (by omega) (by omega) | with_reducible exact if_pz (by omega) (by omega))) <;> omega), by omega⟩, trivial⟩, hS.F ht⟩) hS.2.2 dB_36_3_60.2.2.2.2
                  · have t_29 : ¬ (0 : Int32).toInt ≤ a3.toInt := fun h => c_29 (Int32.le_iff_toInt_le.mpr h)
                    refine lv_bipush (v := (-15)) hx hb dB_36_3_60.2.2.1.1 (by decide) ?_
                    refine lv_goto (tgt := 55) hx hb dB_36_3_60.2.2.1.2 (by decide) ?_
                    rw [hQ]
                    exact W.iret (v := (-15)) hx hb hr (fun t ht hW => ⟨⟨(-15), (), rfl, ⟨by first | (simp only [f4_c0, f4_c1, f4_c2, f4_c3]; unfold rowRI hasI; (repeat' (first | with_reducible refine if_n (by omega) ?_ | with_reducible refine if_ns (by omega) ?_ | with_reducible refine if_nz (by omega) ?_ | with_reducible exact if_p (by omega) (by omega) | with_reducible exact if_ps (by omega) (by omega) | with_reducible exact if_pz (by omega) (by omega))) <;> omega) | (unfold rowRI hasI; (repeat' (first | with_reducible refine if_n (by omega) ?_ | with_reducible refine if_ns (by omega) ?_ | with_reducible refine if_nz (by omega) ?_ | with_reducible exact if_p (by omega) (by omega) | with_reducible exact if_ps (by omega) (by omega) | with_reducible exact if_pz (by omega) (by omega))) <;> omega), by omega⟩, trivial⟩, hS.F ht⟩) hS.2.2 dB_36_3_60.2.2.2.2
                · exact absurd c_28 (by decide)
              · have e_ := e_.symm
                subst e_
                refine lv_if_ne (tgt := 45) hx hb dB_36_3_60.1.2.2.2 (by decide) (fun c_30 => ?_) (fun c_30 => ?_)
                · exact absurd c_30 (by decide)
                · have _ := c_30
                  refine lv_bipush (v := (-12)) hx hb dB_36_3_60.2.1.1.1 (by decide) ?_
                  rw [hQ]
                  exact W.iret (v := (-12)) hx hb hr (fun t ht hW => ⟨⟨(-12), (), rfl, ⟨by first | (simp only [f4_c0, f4_c1, f4_c2, f4_c3]; unfold rowRI hasI; (repeat' (first | with_reducible refine if_n (by omega) ?_ | with_reducible refine if_ns (by omega) ?_ | with_reducible refine if_nz (by omega) ?_ | with_reducible exact if_p (by omega) (by omega) | with_reducible exact if_ps (by omega) (by omega) | with_reducible exact if_pz (by omega) (by omega))) <;> omega) | (unfold rowRI hasI; (repeat' (first | with_reducible refine if_n (by omega) ?_ | with_reducible refine if_ns (by omega) ?_ | with_reducible refine if_nz (by omega) ?_ | with_reducible exact if_p (by omega) (by omega) | with_reducible exact if_ps (by omega) (by omega) | with_reducible exact if_pz (by omega) (by omega))) <;> omega), by omega⟩, trivial⟩, hS.F ht⟩) hS.2.2 dB_36_3_60.2.1.1.2
            · exact absurd c_25 (by decide)
          · have e_ := e_.symm
            subst e_
            refine lv_if_ne (tgt := 29) hx hb dB_36_3_59.2.2.1.2 (by decide) (fun c_31 => ?_) (fun c_31 => ?_)
            · exact absurd c_31 (by decide)
            · have _ := c_31
              refine lv_bipush (v := (-11)) hx hb dB_36_3_59.2.2.2.1 (by decide) ?_
              rw [hQ]
              exact W.iret (v := (-11)) hx hb hr (fun t ht hW => ⟨⟨(-11), (), rfl, ⟨by first | (simp only [f4_c0, f4_c1, f4_c2, f4_c3]; unfold rowRI hasI; (repeat' (first | with_reducible refine if_n (by omega) ?_ | with_reducible refine if_ns (by omega) ?_ | with_reducible refine if_nz (by omega) ?_ | with_reducible exact if_p (by omega) (by omega) | with_reducible exact if_ps (by omega) (by omega) | with_reducible exact if_pz (by omega) (by omega))) <;> omega) | (unfold rowRI hasI; (repeat' (first | with_reducible refine if_n (by omega) ?_ | with_reducible refine if_ns (by omega) ?_ | with_reducible refine if_nz (by omega) ?_ | with_reducible exact if_p (by omega) (by omega) | with_reducible exact if_ps (by omega) (by omega) | with_reducible exact if_pz (by omega) (by omega))) <;> omega), by omega⟩, trivial⟩, hS.F ht⟩) hS.2.2 dB_36_3_59.2.2.2.2
        · refine lv_aload_n hx hb dB_36_3_59.2.1.1.1 rfl (lv_at hl 0 rfl) ?_
          refine va_get (ci := 11) (v := .ref xm) (C := RX11) (T := TX11) (N := 12) hx hb hts (fun _ h => List.mem_cons_of_mem _ (List.mem_append_left _ (List.mem_append_right _ h))) hown hK.1 hP 0 rfl rfl 6 (by decide) (hts (.fieldLink RX11 72 "CutAtlas" "maps" "[LCutAtlas$NumberMap;") (List.mem_of_getElem? (i := 1) rfl)) (fun _ h9 => h9) rfl dB_36_3_59.2.1.1.2 ?_
          refine lv_iload_n hx hb dB_36_3_59.2.1.2.1 rfl (lv_at hl 1 rfl) ?_
          refine va_aldq hx hb hK.1 hP 1 4 rfl rfl (i := 3) (by unfold vp_in; decide) dB_36_3_59.2.1.2.2 ?_
          refine lv_topv (v' := .ref m3) (by simp [va_up, va_rf, mf_, cl_0, cl_1, cl_2, cl_3, cl_4]) ?_
          refine ct_R hP hD0 [ob4_0_ m3 mk3 mr3 l3 u3] [5] (by decide) rfl (fun hPc hDw => ?_)
          have hFc := va_free (wc := []) hD hS hA [] rfl
          refine va_calli (va_runV (As := []) (rest := []) ⟨hx, hb, hml, hown, hts⟩ (c_X4_isThere l D cy H.size m3 l3 u3 mk3 mr3) (cwV 0 hts gX11_rowRefusal_X4_isThere rfl rfl rfl ⟨rfl, hd_X4_isThere⟩ ⟨Nat.le_of_ble_eq_true rfl, Nat.le_of_ble_eq_true rfl⟩) ⟨bl_, va_recvX hK.1 hP (ci := 4) (q0 := 5) rfl rfl, fun U hU hW => ⟨rfl, by rw [hU], by rw [hU]; exact hPc, kk_mv hW hK, hDw⟩⟩ rfl rfl hl.1 rfl (lv_room (Nat.le_of_ble_eq_true rfl)) dB_36_3_59.2.2.1.1 ⟨Nat.le_of_ble_eq_true rfl, Nat.le_of_ble_eq_true rfl⟩) hS (fun q _ h => hFc q h) hFc (fun r_32 u t H locs ht hvm hw hB hz1 hk1 hS => ?_)
          have hP : va_P D vwCl _ H := ro_keep hP hk1
          rcases hw with ⟨w_33, e_⟩ | ⟨w_33, e_⟩
          · have e_ := e_.symm
            subst e_
            refine lv_if_ne (tgt := 29) hx hb dB_36_3_59.2.2.1.2 (by decide) (fun c_34 => ?_) (fun c_34 => ?_)
            · have _ := c_34
              refine lv_aload_n hx hb dB_36_3_60.1.1.1 rfl (lv_at hl 0 rfl) ?_
              refine va_get (ci := 11) (v := .ref xm) (C := RX11) (T := TX11) (N := 12) hx hb hts (fun _ h => List.mem_cons_of_mem _ (List.mem_append_left _ (List.mem_append_right _ h))) hown hK.1 hP 0 rfl rfl 6 (by decide) (hts (.fieldLink RX11 72 "CutAtlas" "maps" "[LCutAtlas$NumberMap;") (List.mem_of_getElem? (i := 1) rfl)) (fun _ h9 => h9) rfl dB_36_3_60.1.1.2.1 ?_
              refine lv_iload_n hx hb dB_36_3_60.1.1.2.2 rfl (lv_at hl 1 rfl) ?_
              refine va_aldq hx hb hK.1 hP 1 4 rfl rfl (i := 3) (by unfold vp_in; decide) dB_36_3_60.1.2.1.1 ?_
              refine lv_topv (v' := .ref m3) (by simp [va_up, va_rf, mf_, cl_0, cl_1, cl_2, cl_3, cl_4]) ?_
              refine lv_iload_n hx hb dB_36_3_60.1.2.1.2 rfl (lv_at hl 2 rfl) ?_
              refine ct_R hP hD0 [ob4_0_ m3 mk3 mr3 l3 u3] [5] (by decide) rfl (fun hPc hDw => ?_)
              have hFc := va_free (wc := []) hD hS hA [] rfl
              refine va_calli (va_runV (As := [.int a2]) (rest := []) ⟨hx, hb, hml, hown, hts⟩ (c_X4_hasRow l D cy H.size m3 l3 u3 mk3 mr3 a2) (cwV 1 hts gX11_rowRefusal_X4_hasRow rfl rfl rfl ⟨rfl, hd_X4_hasRow⟩ ⟨Nat.le_of_ble_eq_true rfl, Nat.le_of_ble_eq_true rfl⟩) ⟨bl_, va_recvX hK.1 hP (ci := 4) (q0 := 5) rfl rfl, fun U hU hW => ⟨rfl, by rw [hU], by rw [hU]; exact hPc, kk_mv hW hK, hDw⟩⟩ rfl rfl hl.1 rfl (lv_room (Nat.le_of_ble_eq_true rfl)) dB_36_3_60.1.2.2.1 ⟨Nat.le_of_ble_eq_true rfl, Nat.le_of_ble_eq_true rfl⟩) hS (fun q _ h => hFc q h) hFc (fun r_35 u t H locs ht hvm hw hB hz1 hk1 hS => ?_)
              have hP : va_P D vwCl _ H := ro_keep hP hk1
              rcases hw with ⟨w_36, e_⟩ | ⟨w_36, e_⟩
              · have e_ := e_.symm
                subst e_
                refine lv_if_ne (tgt := 45) hx hb dB_36_3_60.1.2.2.2 (by decide) (fun c_37 => ?_) (fun c_37 => ?_)
                · have _ := c_37
                  refine lv_iload_n hx hb dB_36_3_60.2.1.2.1 rfl (lv_at hl 3 rfl) ?_
                  refine lv_if_ge (tgt := 54) hx hb dB_36_3_60.2.1.2.2 (by decide) (fun c_38 => ?_) (fun c_38 => ?_)
                  · have t_38 : (0 : Int32).toInt ≤ a3.toInt := Int32.le_iff_toInt_le.mp c_38
                    refine lv_iconst (v := 0) hx hb dB_36_3_60.2.2.2.1 (by decide) ?_
                    rw [hQ]
                    exact W.iret (v := 0) hx hb hr (fun t ht hW => ⟨⟨0, (), rfl, ⟨by first | (simp only [f4_c0, f4_c1, f4_c2, f4_c3]; unfold rowRI hasI; (repeat' (first | with_reducible refine if_n (by omega) ?_ | with_reducible refine if_ns (by omega) ?_ | with_reducible refine if_nz (by omega) ?_ | with_reducible exact if_p (by omega) (by omega) | with_reducible exact if_ps (by omega) (by omega) | with_reducible exact if_pz (by omega) (by omega))) <;> omega) | (unfold rowRI hasI; (repeat' (first | with_reducible refine if_n (by omega) ?_ | with_reducible refine if_ns (by omega) ?_ | with_reducible refine if_nz (by omega) ?_ | with_reducible exact if_p (by omega) (by omega) | with_reducible exact if_ps (by omega) (by omega) | with_reducible exact if_pz (by omega) (by omega))) <;> omega), by omega⟩, trivial⟩, hS.F ht⟩) hS.2.2 dB_36_3_60.2.2.2.2
                  · have t_38 : ¬ (0 : Int32).toInt ≤ a3.toInt := fun h => c_38 (Int32.le_iff_toInt_le.mpr h)
                    refine lv_bipush (v := (-15)) hx hb dB_36_3_60.2.2.1.1 (by decide) ?_
                    refine lv_goto (tgt := 55) hx hb dB_36_3_60.2.2.1.2 (by decide) ?_
                    rw [hQ]
                    exact W.iret (v := (-15)) hx hb hr (fun t ht hW => ⟨⟨(-15), (), rfl, ⟨by first | (simp only [f4_c0, f4_c1, f4_c2, f4_c3]; unfold rowRI hasI; (repeat' (first | with_reducible refine if_n (by omega) ?_ | with_reducible refine if_ns (by omega) ?_ | with_reducible refine if_nz (by omega) ?_ | with_reducible exact if_p (by omega) (by omega) | with_reducible exact if_ps (by omega) (by omega) | with_reducible exact if_pz (by omega) (by omega))) <;> omega) | (unfold rowRI hasI; (repeat' (first | with_reducible refine if_n (by omega) ?_ | with_reducible refine if_ns (by omega) ?_ | with_reducible refine if_nz (by omega) ?_ | with_reducible exact if_p (by omega) (by omega) | with_reducible exact if_ps (by omega) (by omega) | with_reducible exact if_pz (by omega) (by omega))) <;> omega), by omega⟩, trivial⟩, hS.F ht⟩) hS.2.2 dB_36_3_60.2.2.2.2
                · exact absurd c_37 (by decide)
              · have e_ := e_.symm
                subst e_
                refine lv_if_ne (tgt := 45) hx hb dB_36_3_60.1.2.2.2 (by decide) (fun c_39 => ?_) (fun c_39 => ?_)
                · exact absurd c_39 (by decide)
                · have _ := c_39
                  refine lv_bipush (v := (-12)) hx hb dB_36_3_60.2.1.1.1 (by decide) ?_
                  rw [hQ]
                  exact W.iret (v := (-12)) hx hb hr (fun t ht hW => ⟨⟨(-12), (), rfl, ⟨by first | (simp only [f4_c0, f4_c1, f4_c2, f4_c3]; unfold rowRI hasI; (repeat' (first | with_reducible refine if_n (by omega) ?_ | with_reducible refine if_ns (by omega) ?_ | with_reducible refine if_nz (by omega) ?_ | with_reducible exact if_p (by omega) (by omega) | with_reducible exact if_ps (by omega) (by omega) | with_reducible exact if_pz (by omega) (by omega))) <;> omega) | (unfold rowRI hasI; (repeat' (first | with_reducible refine if_n (by omega) ?_ | with_reducible refine if_ns (by omega) ?_ | with_reducible refine if_nz (by omega) ?_ | with_reducible exact if_p (by omega) (by omega) | with_reducible exact if_ps (by omega) (by omega) | with_reducible exact if_pz (by omega) (by omega))) <;> omega), by omega⟩, trivial⟩, hS.F ht⟩) hS.2.2 dB_36_3_60.2.1.1.2
            · exact absurd c_34 (by decide)
          · have e_ := e_.symm
            subst e_
            refine lv_if_ne (tgt := 29) hx hb dB_36_3_59.2.2.1.2 (by decide) (fun c_40 => ?_) (fun c_40 => ?_)
            · exact absurd c_40 (by decide)
            · have _ := c_40
              refine lv_bipush (v := (-11)) hx hb dB_36_3_59.2.2.2.1 (by decide) ?_
              rw [hQ]
              exact W.iret (v := (-11)) hx hb hr (fun t ht hW => ⟨⟨(-11), (), rfl, ⟨by first | (simp only [f4_c0, f4_c1, f4_c2, f4_c3]; unfold rowRI hasI; (repeat' (first | with_reducible refine if_n (by omega) ?_ | with_reducible refine if_ns (by omega) ?_ | with_reducible refine if_nz (by omega) ?_ | with_reducible exact if_p (by omega) (by omega) | with_reducible exact if_ps (by omega) (by omega) | with_reducible exact if_pz (by omega) (by omega))) <;> omega) | (unfold rowRI hasI; (repeat' (first | with_reducible refine if_n (by omega) ?_ | with_reducible refine if_ns (by omega) ?_ | with_reducible refine if_nz (by omega) ?_ | with_reducible exact if_p (by omega) (by omega) | with_reducible exact if_ps (by omega) (by omega) | with_reducible exact if_pz (by omega) (by omega))) <;> omega), by omega⟩, trivial⟩, hS.F ht⟩) hS.2.2 dB_36_3_59.2.2.2.2
      · have t_4 : ¬ a3.toInt ≤ (5 : Int32).toInt := fun h => c_4 (Int32.le_iff_toInt_le.mpr h)
        refine lv_iconst (v := (-1)) hx hb dB_36_3_59.1.2.2.1 (by decide) ?_
        rw [hQ]
        exact W.iret (v := (-1)) hx hb hr (fun t ht hW => ⟨⟨(-1), (), rfl, ⟨by first | (simp only [f4_c0, f4_c1, f4_c2, f4_c3]; unfold rowRI hasI; (repeat' (first | with_reducible refine if_n (by omega) ?_ | with_reducible refine if_ns (by omega) ?_ | with_reducible refine if_nz (by omega) ?_ | with_reducible exact if_p (by omega) (by omega) | with_reducible exact if_ps (by omega) (by omega) | with_reducible exact if_pz (by omega) (by omega))) <;> omega) | (unfold rowRI hasI; (repeat' (first | with_reducible refine if_n (by omega) ?_ | with_reducible refine if_ns (by omega) ?_ | with_reducible refine if_nz (by omega) ?_ | with_reducible exact if_p (by omega) (by omega) | with_reducible exact if_ps (by omega) (by omega) | with_reducible exact if_pz (by omega) (by omega))) <;> omega), by omega⟩, trivial⟩, hS.F ht⟩) hS.2.2 dB_36_3_59.1.2.2.2
  · have e_ := e_.symm
    subst e_
    refine lv_if_eq (tgt := 12) hx hb dB_36_3_59.1.1.2.1 (by decide) (fun c_41 => ?_) (fun c_41 => ?_)
    · have _ := c_41
      refine lv_iconst (v := (-1)) hx hb dB_36_3_59.1.2.2.1 (by decide) ?_
      rw [hQ]
      exact W.iret (v := (-1)) hx hb hr (fun t ht hW => ⟨⟨(-1), (), rfl, ⟨by first | (simp only [f4_c0, f4_c1, f4_c2, f4_c3]; unfold rowRI hasI; (repeat' (first | with_reducible refine if_n (by omega) ?_ | with_reducible refine if_ns (by omega) ?_ | with_reducible refine if_nz (by omega) ?_ | with_reducible exact if_p (by omega) (by omega) | with_reducible exact if_ps (by omega) (by omega) | with_reducible exact if_pz (by omega) (by omega))) <;> omega) | (unfold rowRI hasI; (repeat' (first | with_reducible refine if_n (by omega) ?_ | with_reducible refine if_ns (by omega) ?_ | with_reducible refine if_nz (by omega) ?_ | with_reducible exact if_p (by omega) (by omega) | with_reducible exact if_ps (by omega) (by omega) | with_reducible exact if_pz (by omega) (by omega))) <;> omega), by omega⟩, trivial⟩, hS.F ht⟩) hS.2.2 dB_36_3_59.1.2.2.2
    · exact absurd c_41 (by decide)

set_option maxHeartbeats 4000000 in
set_option maxRecDepth 100000 in
theorem c_X11_numberRefusal2 (l : Launch) (D : va_G) (cy : Nat → ClassId) (sz : Nat) (xo : Nat) (xk : Nat) (xn : Nat) (xc : Nat) (xh : Nat) (xt : Nat) (xw : Nat) (xm : Nat) (xp : Nat) (pf : Int32) (ph : Int32) (tr : Int64) (fi : Int32) (m0 : Nat) (l0 : Nat) (u0 : Nat) (m1 : Nat) (l1 : Nat) (u1 : Nat) (m2 : Nat) (l2 : Nat) (u2 : Nat) (m3 : Nat) (l3 : Nat) (u3 : Nat) (mk0 : Int32) (mr0 : Int32) (mk1 : Int32) (mr1 : Int32) (mk2 : Int32) (mr2 : Int32) (mk3 : Int32) (mr3 : Int32) (fl0 : Nat → Int32) (fl1 : Nat → Int32) (fl2 : Nat → Int32) (fl3 : Nat → Int32) (a1 : Int32) (a2 : Int32) (a3 : Int32) (a4 : Int32) (hmr0 : mr0.toInt = -9 ∨ (0 ≤ mr0.toInt ∧ mr0.toInt ≤ 6)) (hmr1 : mr1.toInt = -9 ∨ (0 ≤ mr1.toInt ∧ mr1.toInt ≤ 6)) (hmr2 : mr2.toInt = -9 ∨ (0 ≤ mr2.toInt ∧ mr2.toInt ≤ 6)) (hmr3 : mr3.toInt = -9 ∨ (0 ≤ mr3.toInt ∧ mr3.toInt ≤ 6)) (r_fl0 : rng fl0 6 (-9) (5)) (r_fl1 : rng fl1 6 (-9) (5)) (r_fl2 : rng fl2 6 (-9) (5)) (r_fl3 : rng fl3 6 (-9) (5)) : Met l yX11_numberRefusal wsX11_numberRefusal ({ frames := 1, cells := 0, slots := 0, locals := 21 }) (va_Pc [.ref xo, .int a1, .int a2, .int a3, .int a4] (fun U => U.heap.size = sz ∧ va_P D vwCl [ob11_0_ xo xk xn xc xh xt xw xm xp pf ph tr fi, aq_ cy 4 xm 4 (mf_ m0 m1 m2 m3), ob4_0_ m0 mk0 mr0 l0 u0, ob4_0_ m1 mk1 mr1 l1 u1, ob4_0_ m2 mk2 mr2 l2 u2, ob4_0_ m3 mk3 mr3 l3 u3, ai_ cy l0 6 fl0, ai_ cy l1 6 fl1, ai_ cy l2 6 fl2, ai_ cy l3 6 fl3] U.heap ∧ kk_ D cy U ∧ va_D (fun _ => True) [ob11_0_ xo xk xn xc xh xt xw xm xp pf ph tr fi, aq_ cy 4 xm 4 (mf_ m0 m1 m2 m3), ob4_0_ m0 mk0 mr0 l0 u0, ob4_0_ m1 mk1 mr1 l1 u1, ob4_0_ m2 mk2 mr2 l2 u2, ob4_0_ m3 mk3 mr3 l3 u3, ai_ cy l0 6 fl0, ai_ cy l1 6 fl1, ai_ cy l2 6 fl2, ai_ cy l3 6 fl3])) (va_Qi (fun (r : Int32) (_ : Unit) => (r.toInt = wrgI a1.toInt a2.toInt a3.toInt a4.toInt (hasI ((f4_ mr0 mr1 mr2 mr3) a1.toNatClampNeg).toInt) ((f4_ mk0 mk1 mk2 mk3) a1.toNatClampNeg).toInt ((f4_ mr0 mr1 mr2 mr3) a1.toNatClampNeg).toInt ((f4_ fl0 fl1 fl2 fl3) a1.toNatClampNeg a3.toNatClampNeg).toInt) ∧ (r.toInt < 0 ∨ (r.toInt = 0 ∧ (0 ≤ a1.toInt ∧ a1.toInt < 4) ∧ (0 ≤ a3.toInt ∧ a3.toInt ≤ 5) ∧ (0 ≤ a4.toInt ∧ a4.toInt ≤ 4)))) (fun (_ : Unit) (_ : State) => True) (va_A [] sz)) 0 0 (va_A [] sz) := by
  refine ofQ (cc := cX11_numberRefusal) (maxL := 5) (ret := (some .int)) (by decide) rfl ?_
  intro p e s m args below meth c s₁ Q hQ B hml hv
  obtain ⟨rfl, hsz, hP, hK, hD0⟩ := hv
  have hx := B.exec
  have hb := B.bytes
  have hr := B.returns
  have hts := atoms_spec (ws := wsX11_numberRefusal) B.pre
  have hown : s.vm.findClass RX11 = some m.cls := by have h_ := findClass_of_methodNamed B.named; exact h_
  have hlocks := B.notSynchronized
  subst hsz
  have hD : va_D (va_A [] s.heap.size) [] := dd_nil
  generalize hAe : va_A [] s.heap.size = A at hD hQ
  have hA : ∀ q : Nat, s.heap.size ≤ q → A q := fun q h => by rw [← hAe]; exact Or.inr h
  have hS : va_S A s.heap s.heap [] := va_S.rf
  have hl := lv_entry ([.ref xo, .int a1, .int a2, .int a3, .int a4]) (n := 5) (Nat.le_of_ble_eq_true rfl)
  rw [lg_entry_eq]
  generalize (lg_sl ([.ref xo, .int a1, .int a2, .int a3, .int a4]) ++ List.replicate (5 - (lg_sl ([.ref xo, .int a1, .int a2, .int a3, .int a4])).length) Slot.unset).toArray = ls at hl ⊢
  have hl : lv_has ls 5 [(0, .ref xo), (1, .int a1), (2, .int a2), (3, .int a3), (4, .int a4)] := hl
  have zm13 : ((-13) : Int32).toInt = -13 := by decide
  have zm12 : ((-12) : Int32).toInt = -12 := by decide
  have zm11 : ((-11) : Int32).toInt = -11 := by decide
  have zm1 : ((-1) : Int32).toInt = -1 := by decide
  have z0 : (0 : Int32).toInt = 0 := by decide
  refine lv_iload_n hx hb dB_36_3_38.1.1.1.1 rfl (lv_at hl 1 rfl) ?_
  refine ct_R hP hD0 [] [] (by decide) rfl (fun hPc hDw => ?_)
  have hFc := va_free (wc := []) hD hS hA [] rfl
  refine va_calli (va_runS (As := [.int a1]) (rest := []) ⟨hx, hb, hml, hown, hts⟩ (c_X11_isMapNumber l D cy s.heap.size a1) (va_cwS 1 hts gX11_numberRefusal_X11_isMapNumber rfl rfl rfl hd_X11_isMapNumber ⟨Nat.le_of_ble_eq_true rfl, Nat.le_of_ble_eq_true rfl⟩) ⟨bl_, fun U hU hW => ⟨rfl, by rw [hU], by rw [hU]; exact hPc, kk_mv hW hK, hDw⟩⟩ rfl rfl hl.1 rfl (lv_room (Nat.le_of_ble_eq_true rfl)) dB_36_3_38.1.1.1.2 ⟨Nat.le_of_ble_eq_true rfl, Nat.le_of_ble_eq_true rfl⟩) hS (fun q _ h => hFc q h) hFc (fun r_1 u t H locs ht hvm hw hB hz1 hk1 hS => ?_)
  have hP : va_P D vwCl _ H := ro_keep hP hk1
  rcases hw with ⟨w_2, e_⟩ | ⟨w_2, e_⟩
  · have e_ := e_.symm
    subst e_
    refine lv_if_eq (tgt := 14) hx hb dB_36_3_38.1.1.2.1 (by decide) (fun c_3 => ?_) (fun c_3 => ?_)
    · exact absurd c_3 (by decide)
    · have _ := c_3
      refine lv_iload_n hx hb dB_36_3_38.1.1.2.2 rfl (lv_at hl 2 rfl) ?_
      refine ct_R hP hD0 [] [] (by decide) rfl (fun hPc hDw => ?_)
      have hFc := va_free (wc := []) hD hS hA [] rfl
      refine va_calli (va_runS (As := [.int a2]) (rest := []) ⟨hx, hb, hml, hown, hts⟩ (c_X11_isMapKind l D cy H.size a2) (va_cwS 1 hts gX11_numberRefusal_X11_isMapKind rfl rfl rfl hd_X11_isMapKind ⟨Nat.le_of_ble_eq_true rfl, Nat.le_of_ble_eq_true rfl⟩) ⟨bl_, fun U hU hW => ⟨rfl, by rw [hU], by rw [hU]; exact hPc, kk_mv hW hK, hDw⟩⟩ rfl rfl hl.1 rfl (lv_room (Nat.le_of_ble_eq_true rfl)) dB_36_3_38.1.2.1.1 ⟨Nat.le_of_ble_eq_true rfl, Nat.le_of_ble_eq_true rfl⟩) hS (fun q _ h => hFc q h) hFc (fun r_4 u t H locs ht hvm hw hB hz1 hk1 hS => ?_)
      have hP : va_P D vwCl _ H := ro_keep hP hk1
      rcases hw with ⟨w_5, e_⟩ | ⟨w_5, e_⟩
      · have e_ := e_.symm
        subst e_
        refine lv_if_ne (tgt := 16) hx hb dB_36_3_38.1.2.1.2 (by decide) (fun c_6 => ?_) (fun c_6 => ?_)
        · have _ := c_6
          rcases sp_4 (x := a1) (by omega) with rfl | rfl | rfl | rfl
          · refine lv_aload_n hx hb dB_36_3_38.2.1.1.1 rfl (lv_at hl 0 rfl) ?_
            refine va_get (ci := 11) (v := .ref xm) (C := RX11) (T := TX11) (N := 12) hx hb hts (fun _ h => List.mem_cons_of_mem _ (List.mem_append_left _ (List.mem_append_right _ h))) hown hK.1 hP 0 rfl rfl 6 (by decide) (hts (.fieldLink RX11 72 "CutAtlas" "maps" "[LCutAtlas$NumberMap;") (List.mem_of_getElem? (i := 1) rfl)) (fun _ h9 => h9) rfl dB_36_3_38.2.1.1.2 ?_
            refine lv_iload_n hx hb dB_36_3_38.2.1.2.1 rfl (lv_at hl 1 rfl) ?_
            refine va_aldq hx hb hK.1 hP 1 4 rfl rfl (i := 0) (by unfold vp_in; decide) dB_36_3_38.2.1.2.2 ?_
            refine lv_topv (v' := .ref m0) (by simp [va_up, va_rf, mf_, cl_0, cl_1, cl_2, cl_3, cl_4]) ?_
            refine ct_R hP hD0 [ob4_0_ m0 mk0 mr0 l0 u0] [2] (by decide) rfl (fun hPc hDw => ?_)
            have hFc := va_free (wc := []) hD hS hA [] rfl
            refine va_calli (va_runV (As := []) (rest := []) ⟨hx, hb, hml, hown, hts⟩ (c_X4_isThere l D cy H.size m0 l0 u0 mk0 mr0) (cwV 0 hts gX11_numberRefusal_X4_isThere rfl rfl rfl ⟨rfl, hd_X4_isThere⟩ ⟨Nat.le_of_ble_eq_true rfl, Nat.le_of_ble_eq_true rfl⟩) ⟨bl_, va_recvX hK.1 hP (ci := 4) (q0 := 2) rfl rfl, fun U hU hW => ⟨rfl, by rw [hU], by rw [hU]; exact hPc, kk_mv hW hK, hDw⟩⟩ rfl rfl hl.1 rfl (lv_room (Nat.le_of_ble_eq_true rfl)) dB_36_3_38.2.2.1.1 ⟨Nat.le_of_ble_eq_true rfl, Nat.le_of_ble_eq_true rfl⟩) hS (fun q _ h => hFc q h) hFc (fun r_7 u t H locs ht hvm hw hB hz1 hk1 hS => ?_)
            have hP : va_P D vwCl _ H := ro_keep hP hk1
            rcases hw with ⟨w_8, e_⟩ | ⟨w_8, e_⟩
            · have e_ := e_.symm
              subst e_
              refine lv_if_ne (tgt := 31) hx hb dB_36_3_38.2.2.1.2 (by decide) (fun c_9 => ?_) (fun c_9 => ?_)
              · have _ := c_9
                refine lv_aload_n hx hb dB_36_3_39.1.1.1.1 rfl (lv_at hl 0 rfl) ?_
                refine va_get (ci := 11) (v := .ref xm) (C := RX11) (T := TX11) (N := 12) hx hb hts (fun _ h => List.mem_cons_of_mem _ (List.mem_append_left _ (List.mem_append_right _ h))) hown hK.1 hP 0 rfl rfl 6 (by decide) (hts (.fieldLink RX11 72 "CutAtlas" "maps" "[LCutAtlas$NumberMap;") (List.mem_of_getElem? (i := 1) rfl)) (fun _ h9 => h9) rfl dB_36_3_39.1.1.1.2 ?_
                refine lv_iload_n hx hb dB_36_3_39.1.1.2.1 rfl (lv_at hl 1 rfl) ?_
                refine va_aldq hx hb hK.1 hP 1 4 rfl rfl (i := 0) (by unfold vp_in; decide) dB_36_3_39.1.1.2.2 ?_
                refine lv_topv (v' := .ref m0) (by simp [va_up, va_rf, mf_, cl_0, cl_1, cl_2, cl_3, cl_4]) ?_
                refine va_get (ci := 4) (v := .int mk0) (C := RX4) (T := TX4) (N := 4) hx hb hts (fun _ h => List.mem_cons_of_mem _ (List.mem_append_right _ h)) hown hK.1 hP 2 rfl rfl 0 (by decide) (hts (.fieldLink RX11 318 "CutAtlas$NumberMap" "kind" "I") (List.mem_of_getElem? (i := 2) rfl)) (fun _ h9 => h9) rfl dB_36_3_39.1.2.1.1 ?_
                refine lv_iload_n hx hb dB_36_3_39.1.2.1.2 rfl (lv_at hl 2 rfl) ?_
                refine lv_icmp_eq (tgt := 47) hx hb dB_36_3_39.1.2.2.1 (by decide) (fun c_10 => ?_) (fun c_10 => ?_)
                · have t_10 : mk0.toInt = a2.toInt := congrArg Int32.toInt c_10
                  refine lv_aload_n hx hb dB_36_3_39.2.1.1.2 rfl (lv_at hl 0 rfl) ?_
                  refine va_get (ci := 11) (v := .ref xm) (C := RX11) (T := TX11) (N := 12) hx hb hts (fun _ h => List.mem_cons_of_mem _ (List.mem_append_left _ (List.mem_append_right _ h))) hown hK.1 hP 0 rfl rfl 6 (by decide) (hts (.fieldLink RX11 72 "CutAtlas" "maps" "[LCutAtlas$NumberMap;") (List.mem_of_getElem? (i := 1) rfl)) (fun _ h9 => h9) rfl dB_36_3_39.2.1.2.1 ?_
                  refine lv_iload_n hx hb dB_36_3_39.2.1.2.2 rfl (lv_at hl 1 rfl) ?_
                  refine va_aldq hx hb hK.1 hP 1 4 rfl rfl (i := 0) (by unfold vp_in; decide) dB_36_3_39.2.2.1.1 ?_
                  refine lv_topv (v' := .ref m0) (by simp [va_up, va_rf, mf_, cl_0, cl_1, cl_2, cl_3, cl_4]) ?_
                  refine lv_iload_n hx hb dB_36_3_39.2.2.1.2 rfl (lv_at hl 3 rfl) ?_
                  refine ct_R hP hD0 [ob4_0_ m0 mk0 mr0 l0 u0] [2] (by decide) rfl (fun hPc hDw => ?_)
                  have hFc := va_free (wc := []) hD hS hA [] rfl
                  refine va_calli (va_runV (As := [.int a3]) (rest := []) ⟨hx, hb, hml, hown, hts⟩ (c_X4_hasRow l D cy H.size m0 l0 u0 mk0 mr0 a3) (cwV 1 hts gX11_numberRefusal_X4_hasRow rfl rfl rfl ⟨rfl, hd_X4_hasRow⟩ ⟨Nat.le_of_ble_eq_true rfl, Nat.le_of_ble_eq_true rfl⟩) ⟨bl_, va_recvX hK.1 hP (ci := 4) (q0 := 2) rfl rfl, fun U hU hW => ⟨rfl, by rw [hU], by rw [hU]; exact hPc, kk_mv hW hK, hDw⟩⟩ rfl rfl hl.1 rfl (lv_room (Nat.le_of_ble_eq_true rfl)) dB_36_3_39.2.2.2.1 ⟨Nat.le_of_ble_eq_true rfl, Nat.le_of_ble_eq_true rfl⟩) hS (fun q _ h => hFc q h) hFc (fun r_11 u t H locs ht hvm hw hB hz1 hk1 hS => ?_)
                  have hP : va_P D vwCl _ H := ro_keep hP hk1
                  rcases hw with ⟨w_12, e_⟩ | ⟨w_12, e_⟩
                  · have e_ := e_.symm
                    subst e_
                    refine lv_if_ne (tgt := 63) hx hb dB_36_3_39.2.2.2.2 (by decide) (fun c_13 => ?_) (fun c_13 => ?_)
                    · have _ := c_13
                      refine lv_aload_n hx hb dB_36_3_40.1.1.2.1 rfl (lv_at hl 0 rfl) ?_
                      refine va_get (ci := 11) (v := .ref xm) (C := RX11) (T := TX11) (N := 12) hx hb hts (fun _ h => List.mem_cons_of_mem _ (List.mem_append_left _ (List.mem_append_right _ h))) hown hK.1 hP 0 rfl rfl 6 (by decide) (hts (.fieldLink RX11 72 "CutAtlas" "maps" "[LCutAtlas$NumberMap;") (List.mem_of_getElem? (i := 1) rfl)) (fun _ h9 => h9) rfl dB_36_3_40.1.1.2.2 ?_
                      refine lv_iload_n hx hb dB_36_3_40.1.2.1.1 rfl (lv_at hl 1 rfl) ?_
                      refine va_aldq hx hb hK.1 hP 1 4 rfl rfl (i := 0) (by unfold vp_in; decide) dB_36_3_40.1.2.1.2 ?_
                      refine lv_topv (v' := .ref m0) (by simp [va_up, va_rf, mf_, cl_0, cl_1, cl_2, cl_3, cl_4]) ?_
                      refine va_get (ci := 4) (v := .ref l0) (C := RX4) (T := TX4) (N := 4) hx hb hts (fun _ h => List.mem_cons_of_mem _ (List.mem_append_right _ h)) hown hK.1 hP 2 rfl rfl 2 (by decide) (hts (.fieldLink RX11 321 "CutAtlas$NumberMap" "lengths" "[I") (List.mem_of_getElem? (i := 3) rfl)) (fun _ h9 => h9) rfl dB_36_3_40.1.2.2.1 ?_
                      refine lv_iload_n hx hb dB_36_3_40.1.2.2.2 rfl (lv_at hl 3 rfl) ?_
                      have h_14 : vp_in a3 6 := in_I (by first | with_reducible assumption | omega) (by omega)
                      refine va_iald hx hb hK.1 hP 6 0 rfl rfl (i := a3) h_14 dB_36_3_40.2.1.1.1 ?_
                      refine lv_topi (fun y_15 ey_15 => ?_)
                      have ky_15 : y_15.toInt = (fl0 a3.toNatClampNeg).toInt := by rw [ey_15]
                      have ry_15 : -9 ≤ y_15.toInt ∧ y_15.toInt ≤ 5 := by rw [ey_15]; exact r_fl0 _ (in_lt h_14)
                      refine lv_if_ge (tgt := 80) hx hb dB_36_3_40.2.1.1.2 (by decide) (fun c_16 => ?_) (fun c_16 => ?_)
                      · have t_16 : (0 : Int32).toInt ≤ y_15.toInt := Int32.le_iff_toInt_le.mp c_16
                        refine lv_iload hx hb dB_36_3_40.2.2.1.1 (lv_at hl 4 rfl) ?_
                        refine lv_if_lt (tgt := 101) hx hb dB_36_3_40.2.2.1.2 (by decide) (fun c_17 => ?_) (fun c_17 => ?_)
                        · have t_17 : a4.toInt < (0 : Int32).toInt := Int32.lt_iff_toInt_lt.mp c_17
                          refine lv_bipush (v := (-12)) hx hb dB_36_4_4.2.1.1 (by decide) ?_
                          refine lv_goto (tgt := 107) hx hb dB_36_4_4.2.1.2 (by decide) ?_
                          rw [hQ]
                          exact W.iret (v := (-12)) hx hb hr (fun t ht hW => ⟨⟨(-12), (), rfl, ⟨by first | (simp only [f4_c0, f4_c1, f4_c2, f4_c3]; unfold wrgI hasI; (repeat' (first | with_reducible refine if_n (by omega) ?_ | with_reducible refine if_ns (by omega) ?_ | with_reducible refine if_nz (by omega) ?_ | with_reducible exact if_p (by omega) (by omega) | with_reducible exact if_ps (by omega) (by omega) | with_reducible exact if_pz (by omega) (by omega))) <;> omega) | (unfold wrgI hasI; (repeat' (first | with_reducible refine if_n (by omega) ?_ | with_reducible refine if_ns (by omega) ?_ | with_reducible refine if_nz (by omega) ?_ | with_reducible exact if_p (by omega) (by omega) | with_reducible exact if_ps (by omega) (by omega) | with_reducible exact if_pz (by omega) (by omega))) <;> omega), by omega⟩, trivial⟩, hS.F ht⟩) hS.2.2 dB_36_4_4.2.2.2
                        · have t_17 : ¬ a4.toInt < (0 : Int32).toInt := fun h => c_17 (Int32.lt_iff_toInt_lt.mpr h)
                          refine lv_iload hx hb dB_36_3_40.2.2.2.1 (lv_at hl 4 rfl) ?_
                          refine lv_aload_n hx hb dB_36_3_40.2.2.2.2 rfl (lv_at hl 0 rfl) ?_
                          refine va_get (ci := 11) (v := .ref xm) (C := RX11) (T := TX11) (N := 12) hx hb hts (fun _ h => List.mem_cons_of_mem _ (List.mem_append_left _ (List.mem_append_right _ h))) hown hK.1 hP 0 rfl rfl 6 (by decide) (hts (.fieldLink RX11 72 "CutAtlas" "maps" "[LCutAtlas$NumberMap;") (List.mem_of_getElem? (i := 1) rfl)) (fun _ h9 => h9) rfl dB_36_3_41.1.1 ?_
                          refine lv_iload_n hx hb dB_36_3_41.1.2 rfl (lv_at hl 1 rfl) ?_
                          refine va_aldq hx hb hK.1 hP 1 4 rfl rfl (i := 0) (by unfold vp_in; decide) dB_36_3_41.2.1 ?_
                          refine lv_topv (v' := .ref m0) (by simp [va_up, va_rf, mf_, cl_0, cl_1, cl_2, cl_3, cl_4]) ?_
                          refine va_get (ci := 4) (v := .ref l0) (C := RX4) (T := TX4) (N := 4) hx hb hts (fun _ h => List.mem_cons_of_mem _ (List.mem_append_right _ h)) hown hK.1 hP 2 rfl rfl 2 (by decide) (hts (.fieldLink RX11 321 "CutAtlas$NumberMap" "lengths" "[I") (List.mem_of_getElem? (i := 3) rfl)) (fun _ h9 => h9) rfl dB_36_3_41.2.2 ?_
                          refine lv_iload_n hx hb dB_36_4_4.1.1 rfl (lv_at hl 3 rfl) ?_
                          refine va_iald hx hb hK.1 hP 6 0 rfl rfl (i := a3) h_14 dB_36_4_4.1.2.1 ?_
                          refine lv_topi (fun y_19 ey_19 => ?_)
                          have e_ := (ey_19.trans ey_15.symm).symm
                          subst e_
                          skip
                          refine lv_icmp_lt (tgt := 106) hx hb dB_36_4_4.1.2.2 (by decide) (fun c_20 => ?_) (fun c_20 => ?_)
                          · have t_20 : a4.toInt < y_15.toInt := Int32.lt_iff_toInt_lt.mp c_20
                            refine lv_iconst (v := 0) hx hb dB_36_4_4.2.2.1 (by decide) ?_
                            rw [hQ]
                            exact W.iret (v := 0) hx hb hr (fun t ht hW => ⟨⟨0, (), rfl, ⟨by first | (simp only [f4_c0, f4_c1, f4_c2, f4_c3]; unfold wrgI hasI; (repeat' (first | with_reducible refine if_n (by omega) ?_ | with_reducible refine if_ns (by omega) ?_ | with_reducible refine if_nz (by omega) ?_ | with_reducible exact if_p (by omega) (by omega) | with_reducible exact if_ps (by omega) (by omega) | with_reducible exact if_pz (by omega) (by omega))) <;> omega) | (unfold wrgI hasI; (repeat' (first | with_reducible refine if_n (by omega) ?_ | with_reducible refine if_ns (by omega) ?_ | with_reducible refine if_nz (by omega) ?_ | with_reducible exact if_p (by omega) (by omega) | with_reducible exact if_ps (by omega) (by omega) | with_reducible exact if_pz (by omega) (by omega))) <;> omega), by omega⟩, trivial⟩, hS.F ht⟩) hS.2.2 dB_36_4_4.2.2.2
                          · have t_20 : ¬ a4.toInt < y_15.toInt := fun h => c_20 (Int32.lt_iff_toInt_lt.mpr h)
                            refine lv_bipush (v := (-12)) hx hb dB_36_4_4.2.1.1 (by decide) ?_
                            refine lv_goto (tgt := 107) hx hb dB_36_4_4.2.1.2 (by decide) ?_
                            rw [hQ]
                            exact W.iret (v := (-12)) hx hb hr (fun t ht hW => ⟨⟨(-12), (), rfl, ⟨by first | (simp only [f4_c0, f4_c1, f4_c2, f4_c3]; unfold wrgI hasI; (repeat' (first | with_reducible refine if_n (by omega) ?_ | with_reducible refine if_ns (by omega) ?_ | with_reducible refine if_nz (by omega) ?_ | with_reducible exact if_p (by omega) (by omega) | with_reducible exact if_ps (by omega) (by omega) | with_reducible exact if_pz (by omega) (by omega))) <;> omega) | (unfold wrgI hasI; (repeat' (first | with_reducible refine if_n (by omega) ?_ | with_reducible refine if_ns (by omega) ?_ | with_reducible refine if_nz (by omega) ?_ | with_reducible exact if_p (by omega) (by omega) | with_reducible exact if_ps (by omega) (by omega) | with_reducible exact if_pz (by omega) (by omega))) <;> omega), by omega⟩, trivial⟩, hS.F ht⟩) hS.2.2 dB_36_4_4.2.2.2
                      · have t_16 : ¬ (0 : Int32).toInt ≤ y_15.toInt := fun h => c_16 (Int32.le_iff_toInt_le.mpr h)
                        refine lv_bipush (v := (-11)) hx hb dB_36_3_40.2.1.2.1 (by decide) ?_
                        rw [hQ]
                        exact W.iret (v := (-11)) hx hb hr (fun t ht hW => ⟨⟨(-11), (), rfl, ⟨by first | (simp only [f4_c0, f4_c1, f4_c2, f4_c3]; unfold wrgI hasI; (repeat' (first | with_reducible refine if_n (by omega) ?_ | with_reducible refine if_ns (by omega) ?_ | with_reducible refine if_nz (by omega) ?_ | with_reducible exact if_p (by omega) (by omega) | with_reducible exact if_ps (by omega) (by omega) | with_reducible exact if_pz (by omega) (by omega))) <;> omega) | (unfold wrgI hasI; (repeat' (first | with_reducible refine if_n (by omega) ?_ | with_reducible refine if_ns (by omega) ?_ | with_reducible refine if_nz (by omega) ?_ | with_reducible exact if_p (by omega) (by omega) | with_reducible exact if_ps (by omega) (by omega) | with_reducible exact if_pz (by omega) (by omega))) <;> omega), by omega⟩, trivial⟩, hS.F ht⟩) hS.2.2 dB_36_3_40.2.1.2.2
                    · exact absurd c_13 (by decide)
                  · have e_ := e_.symm
                    subst e_
                    refine lv_if_ne (tgt := 63) hx hb dB_36_3_39.2.2.2.2 (by decide) (fun c_21 => ?_) (fun c_21 => ?_)
                    · exact absurd c_21 (by decide)
                    · have _ := c_21
                      refine lv_bipush (v := (-12)) hx hb dB_36_3_40.1.1.1.1 (by decide) ?_
                      rw [hQ]
                      exact W.iret (v := (-12)) hx hb hr (fun t ht hW => ⟨⟨(-12), (), rfl, ⟨by first | (simp only [f4_c0, f4_c1, f4_c2, f4_c3]; unfold wrgI hasI; (repeat' (first | with_reducible refine if_n (by omega) ?_ | with_reducible refine if_ns (by omega) ?_ | with_reducible refine if_nz (by omega) ?_ | with_reducible exact if_p (by omega) (by omega) | with_reducible exact if_ps (by omega) (by omega) | with_reducible exact if_pz (by omega) (by omega))) <;> omega) | (unfold wrgI hasI; (repeat' (first | with_reducible refine if_n (by omega) ?_ | with_reducible refine if_ns (by omega) ?_ | with_reducible refine if_nz (by omega) ?_ | with_reducible exact if_p (by omega) (by omega) | with_reducible exact if_ps (by omega) (by omega) | with_reducible exact if_pz (by omega) (by omega))) <;> omega), by omega⟩, trivial⟩, hS.F ht⟩) hS.2.2 dB_36_3_40.1.1.1.2
                · have t_10 : ¬ mk0.toInt = a2.toInt := fun h => c_10 (Int32.toInt_inj.mp h)
                  refine lv_bipush (v := (-13)) hx hb dB_36_3_39.1.2.2.2 (by decide) ?_
                  rw [hQ]
                  exact W.iret (v := (-13)) hx hb hr (fun t ht hW => ⟨⟨(-13), (), rfl, ⟨by first | (simp only [f4_c0, f4_c1, f4_c2, f4_c3]; unfold wrgI hasI; (repeat' (first | with_reducible refine if_n (by omega) ?_ | with_reducible refine if_ns (by omega) ?_ | with_reducible refine if_nz (by omega) ?_ | with_reducible exact if_p (by omega) (by omega) | with_reducible exact if_ps (by omega) (by omega) | with_reducible exact if_pz (by omega) (by omega))) <;> omega) | (unfold wrgI hasI; (repeat' (first | with_reducible refine if_n (by omega) ?_ | with_reducible refine if_ns (by omega) ?_ | with_reducible refine if_nz (by omega) ?_ | with_reducible exact if_p (by omega) (by omega) | with_reducible exact if_ps (by omega) (by omega) | with_reducible exact if_pz (by omega) (by omega))) <;> omega), by omega⟩, trivial⟩, hS.F ht⟩) hS.2.2 dB_36_3_39.2.1.1.1
              · exact absurd c_9 (by decide)
            · have e_ := e_.symm
              subst e_
              refine lv_if_ne (tgt := 31) hx hb dB_36_3_38.2.2.1.2 (by decide) (fun c_22 => ?_) (fun c_22 => ?_)
              · exact absurd c_22 (by decide)
              · have _ := c_22
                refine lv_bipush (v := (-11)) hx hb dB_36_3_38.2.2.2.1 (by decide) ?_
                rw [hQ]
                exact W.iret (v := (-11)) hx hb hr (fun t ht hW => ⟨⟨(-11), (), rfl, ⟨by first | (simp only [f4_c0, f4_c1, f4_c2, f4_c3]; unfold wrgI hasI; (repeat' (first | with_reducible refine if_n (by omega) ?_ | with_reducible refine if_ns (by omega) ?_ | with_reducible refine if_nz (by omega) ?_ | with_reducible exact if_p (by omega) (by omega) | with_reducible exact if_ps (by omega) (by omega) | with_reducible exact if_pz (by omega) (by omega))) <;> omega) | (unfold wrgI hasI; (repeat' (first | with_reducible refine if_n (by omega) ?_ | with_reducible refine if_ns (by omega) ?_ | with_reducible refine if_nz (by omega) ?_ | with_reducible exact if_p (by omega) (by omega) | with_reducible exact if_ps (by omega) (by omega) | with_reducible exact if_pz (by omega) (by omega))) <;> omega), by omega⟩, trivial⟩, hS.F ht⟩) hS.2.2 dB_36_3_38.2.2.2.2
          · refine lv_aload_n hx hb dB_36_3_38.2.1.1.1 rfl (lv_at hl 0 rfl) ?_
            refine va_get (ci := 11) (v := .ref xm) (C := RX11) (T := TX11) (N := 12) hx hb hts (fun _ h => List.mem_cons_of_mem _ (List.mem_append_left _ (List.mem_append_right _ h))) hown hK.1 hP 0 rfl rfl 6 (by decide) (hts (.fieldLink RX11 72 "CutAtlas" "maps" "[LCutAtlas$NumberMap;") (List.mem_of_getElem? (i := 1) rfl)) (fun _ h9 => h9) rfl dB_36_3_38.2.1.1.2 ?_
            refine lv_iload_n hx hb dB_36_3_38.2.1.2.1 rfl (lv_at hl 1 rfl) ?_
            refine va_aldq hx hb hK.1 hP 1 4 rfl rfl (i := 1) (by unfold vp_in; decide) dB_36_3_38.2.1.2.2 ?_
            refine lv_topv (v' := .ref m1) (by simp [va_up, va_rf, mf_, cl_0, cl_1, cl_2, cl_3, cl_4]) ?_
            refine ct_R hP hD0 [ob4_0_ m1 mk1 mr1 l1 u1] [3] (by decide) rfl (fun hPc hDw => ?_)
            have hFc := va_free (wc := []) hD hS hA [] rfl
            refine va_calli (va_runV (As := []) (rest := []) ⟨hx, hb, hml, hown, hts⟩ (c_X4_isThere l D cy H.size m1 l1 u1 mk1 mr1) (cwV 0 hts gX11_numberRefusal_X4_isThere rfl rfl rfl ⟨rfl, hd_X4_isThere⟩ ⟨Nat.le_of_ble_eq_true rfl, Nat.le_of_ble_eq_true rfl⟩) ⟨bl_, va_recvX hK.1 hP (ci := 4) (q0 := 3) rfl rfl, fun U hU hW => ⟨rfl, by rw [hU], by rw [hU]; exact hPc, kk_mv hW hK, hDw⟩⟩ rfl rfl hl.1 rfl (lv_room (Nat.le_of_ble_eq_true rfl)) dB_36_3_38.2.2.1.1 ⟨Nat.le_of_ble_eq_true rfl, Nat.le_of_ble_eq_true rfl⟩) hS (fun q _ h => hFc q h) hFc (fun r_23 u t H locs ht hvm hw hB hz1 hk1 hS => ?_)
            have hP : va_P D vwCl _ H := ro_keep hP hk1
            rcases hw with ⟨w_24, e_⟩ | ⟨w_24, e_⟩
            · have e_ := e_.symm
              subst e_
              refine lv_if_ne (tgt := 31) hx hb dB_36_3_38.2.2.1.2 (by decide) (fun c_25 => ?_) (fun c_25 => ?_)
              · have _ := c_25
                refine lv_aload_n hx hb dB_36_3_39.1.1.1.1 rfl (lv_at hl 0 rfl) ?_
                refine va_get (ci := 11) (v := .ref xm) (C := RX11) (T := TX11) (N := 12) hx hb hts (fun _ h => List.mem_cons_of_mem _ (List.mem_append_left _ (List.mem_append_right _ h))) hown hK.1 hP 0 rfl rfl 6 (by decide) (hts (.fieldLink RX11 72 "CutAtlas" "maps" "[LCutAtlas$NumberMap;") (List.mem_of_getElem? (i := 1) rfl)) (fun _ h9 => h9) rfl dB_36_3_39.1.1.1.2 ?_
                refine lv_iload_n hx hb dB_36_3_39.1.1.2.1 rfl (lv_at hl 1 rfl) ?_
                refine va_aldq hx hb hK.1 hP 1 4 rfl rfl (i := 1) (by unfold vp_in; decide) dB_36_3_39.1.1.2.2 ?_
                refine lv_topv (v' := .ref m1) (by simp [va_up, va_rf, mf_, cl_0, cl_1, cl_2, cl_3, cl_4]) ?_
                refine va_get (ci := 4) (v := .int mk1) (C := RX4) (T := TX4) (N := 4) hx hb hts (fun _ h => List.mem_cons_of_mem _ (List.mem_append_right _ h)) hown hK.1 hP 3 rfl rfl 0 (by decide) (hts (.fieldLink RX11 318 "CutAtlas$NumberMap" "kind" "I") (List.mem_of_getElem? (i := 2) rfl)) (fun _ h9 => h9) rfl dB_36_3_39.1.2.1.1 ?_
                refine lv_iload_n hx hb dB_36_3_39.1.2.1.2 rfl (lv_at hl 2 rfl) ?_
                refine lv_icmp_eq (tgt := 47) hx hb dB_36_3_39.1.2.2.1 (by decide) (fun c_26 => ?_) (fun c_26 => ?_)
                · have t_26 : mk1.toInt = a2.toInt := congrArg Int32.toInt c_26
                  refine lv_aload_n hx hb dB_36_3_39.2.1.1.2 rfl (lv_at hl 0 rfl) ?_
                  refine va_get (ci := 11) (v := .ref xm) (C := RX11) (T := TX11) (N := 12) hx hb hts (fun _ h => List.mem_cons_of_mem _ (List.mem_append_left _ (List.mem_append_right _ h))) hown hK.1 hP 0 rfl rfl 6 (by decide) (hts (.fieldLink RX11 72 "CutAtlas" "maps" "[LCutAtlas$NumberMap;") (List.mem_of_getElem? (i := 1) rfl)) (fun _ h9 => h9) rfl dB_36_3_39.2.1.2.1 ?_
                  refine lv_iload_n hx hb dB_36_3_39.2.1.2.2 rfl (lv_at hl 1 rfl) ?_
                  refine va_aldq hx hb hK.1 hP 1 4 rfl rfl (i := 1) (by unfold vp_in; decide) dB_36_3_39.2.2.1.1 ?_
                  refine lv_topv (v' := .ref m1) (by simp [va_up, va_rf, mf_, cl_0, cl_1, cl_2, cl_3, cl_4]) ?_
                  refine lv_iload_n hx hb dB_36_3_39.2.2.1.2 rfl (lv_at hl 3 rfl) ?_
                  refine ct_R hP hD0 [ob4_0_ m1 mk1 mr1 l1 u1] [3] (by decide) rfl (fun hPc hDw => ?_)
                  have hFc := va_free (wc := []) hD hS hA [] rfl
                  refine va_calli (va_runV (As := [.int a3]) (rest := []) ⟨hx, hb, hml, hown, hts⟩ (c_X4_hasRow l D cy H.size m1 l1 u1 mk1 mr1 a3) (cwV 1 hts gX11_numberRefusal_X4_hasRow rfl rfl rfl ⟨rfl, hd_X4_hasRow⟩ ⟨Nat.le_of_ble_eq_true rfl, Nat.le_of_ble_eq_true rfl⟩) ⟨bl_, va_recvX hK.1 hP (ci := 4) (q0 := 3) rfl rfl, fun U hU hW => ⟨rfl, by rw [hU], by rw [hU]; exact hPc, kk_mv hW hK, hDw⟩⟩ rfl rfl hl.1 rfl (lv_room (Nat.le_of_ble_eq_true rfl)) dB_36_3_39.2.2.2.1 ⟨Nat.le_of_ble_eq_true rfl, Nat.le_of_ble_eq_true rfl⟩) hS (fun q _ h => hFc q h) hFc (fun r_27 u t H locs ht hvm hw hB hz1 hk1 hS => ?_)
                  have hP : va_P D vwCl _ H := ro_keep hP hk1
                  rcases hw with ⟨w_28, e_⟩ | ⟨w_28, e_⟩
                  · have e_ := e_.symm
                    subst e_
                    refine lv_if_ne (tgt := 63) hx hb dB_36_3_39.2.2.2.2 (by decide) (fun c_29 => ?_) (fun c_29 => ?_)
                    · have _ := c_29
                      refine lv_aload_n hx hb dB_36_3_40.1.1.2.1 rfl (lv_at hl 0 rfl) ?_
                      refine va_get (ci := 11) (v := .ref xm) (C := RX11) (T := TX11) (N := 12) hx hb hts (fun _ h => List.mem_cons_of_mem _ (List.mem_append_left _ (List.mem_append_right _ h))) hown hK.1 hP 0 rfl rfl 6 (by decide) (hts (.fieldLink RX11 72 "CutAtlas" "maps" "[LCutAtlas$NumberMap;") (List.mem_of_getElem? (i := 1) rfl)) (fun _ h9 => h9) rfl dB_36_3_40.1.1.2.2 ?_
                      refine lv_iload_n hx hb dB_36_3_40.1.2.1.1 rfl (lv_at hl 1 rfl) ?_
                      refine va_aldq hx hb hK.1 hP 1 4 rfl rfl (i := 1) (by unfold vp_in; decide) dB_36_3_40.1.2.1.2 ?_
                      refine lv_topv (v' := .ref m1) (by simp [va_up, va_rf, mf_, cl_0, cl_1, cl_2, cl_3, cl_4]) ?_
                      refine va_get (ci := 4) (v := .ref l1) (C := RX4) (T := TX4) (N := 4) hx hb hts (fun _ h => List.mem_cons_of_mem _ (List.mem_append_right _ h)) hown hK.1 hP 3 rfl rfl 2 (by decide) (hts (.fieldLink RX11 321 "CutAtlas$NumberMap" "lengths" "[I") (List.mem_of_getElem? (i := 3) rfl)) (fun _ h9 => h9) rfl dB_36_3_40.1.2.2.1 ?_
                      refine lv_iload_n hx hb dB_36_3_40.1.2.2.2 rfl (lv_at hl 3 rfl) ?_
                      have h_30 : vp_in a3 6 := in_I (by first | with_reducible assumption | omega) (by omega)
                      refine va_iald hx hb hK.1 hP 7 0 rfl rfl (i := a3) h_30 dB_36_3_40.2.1.1.1 ?_
                      refine lv_topi (fun y_31 ey_31 => ?_)
                      have ky_31 : y_31.toInt = (fl1 a3.toNatClampNeg).toInt := by rw [ey_31]
                      have ry_31 : -9 ≤ y_31.toInt ∧ y_31.toInt ≤ 5 := by rw [ey_31]; exact r_fl1 _ (in_lt h_30)
                      refine lv_if_ge (tgt := 80) hx hb dB_36_3_40.2.1.1.2 (by decide) (fun c_32 => ?_) (fun c_32 => ?_)
                      · have t_32 : (0 : Int32).toInt ≤ y_31.toInt := Int32.le_iff_toInt_le.mp c_32
                        refine lv_iload hx hb dB_36_3_40.2.2.1.1 (lv_at hl 4 rfl) ?_
                        refine lv_if_lt (tgt := 101) hx hb dB_36_3_40.2.2.1.2 (by decide) (fun c_33 => ?_) (fun c_33 => ?_)
                        · have t_33 : a4.toInt < (0 : Int32).toInt := Int32.lt_iff_toInt_lt.mp c_33
                          refine lv_bipush (v := (-12)) hx hb dB_36_4_4.2.1.1 (by decide) ?_
                          refine lv_goto (tgt := 107) hx hb dB_36_4_4.2.1.2 (by decide) ?_
                          rw [hQ]
                          exact W.iret (v := (-12)) hx hb hr (fun t ht hW => ⟨⟨(-12), (), rfl, ⟨by first | (simp only [f4_c0, f4_c1, f4_c2, f4_c3]; unfold wrgI hasI; (repeat' (first | with_reducible refine if_n (by omega) ?_ | with_reducible refine if_ns (by omega) ?_ | with_reducible refine if_nz (by omega) ?_ | with_reducible exact if_p (by omega) (by omega) | with_reducible exact if_ps (by omega) (by omega) | with_reducible exact if_pz (by omega) (by omega))) <;> omega) | (unfold wrgI hasI; (repeat' (first | with_reducible refine if_n (by omega) ?_ | with_reducible refine if_ns (by omega) ?_ | with_reducible refine if_nz (by omega) ?_ | with_reducible exact if_p (by omega) (by omega) | with_reducible exact if_ps (by omega) (by omega) | with_reducible exact if_pz (by omega) (by omega))) <;> omega), by omega⟩, trivial⟩, hS.F ht⟩) hS.2.2 dB_36_4_4.2.2.2
                        · have t_33 : ¬ a4.toInt < (0 : Int32).toInt := fun h => c_33 (Int32.lt_iff_toInt_lt.mpr h)
                          refine lv_iload hx hb dB_36_3_40.2.2.2.1 (lv_at hl 4 rfl) ?_
                          refine lv_aload_n hx hb dB_36_3_40.2.2.2.2 rfl (lv_at hl 0 rfl) ?_
                          refine va_get (ci := 11) (v := .ref xm) (C := RX11) (T := TX11) (N := 12) hx hb hts (fun _ h => List.mem_cons_of_mem _ (List.mem_append_left _ (List.mem_append_right _ h))) hown hK.1 hP 0 rfl rfl 6 (by decide) (hts (.fieldLink RX11 72 "CutAtlas" "maps" "[LCutAtlas$NumberMap;") (List.mem_of_getElem? (i := 1) rfl)) (fun _ h9 => h9) rfl dB_36_3_41.1.1 ?_
                          refine lv_iload_n hx hb dB_36_3_41.1.2 rfl (lv_at hl 1 rfl) ?_
                          refine va_aldq hx hb hK.1 hP 1 4 rfl rfl (i := 1) (by unfold vp_in; decide) dB_36_3_41.2.1 ?_
                          refine lv_topv (v' := .ref m1) (by simp [va_up, va_rf, mf_, cl_0, cl_1, cl_2, cl_3, cl_4]) ?_
                          refine va_get (ci := 4) (v := .ref l1) (C := RX4) (T := TX4) (N := 4) hx hb hts (fun _ h => List.mem_cons_of_mem _ (List.mem_append_right _ h)) hown hK.1 hP 3 rfl rfl 2 (by decide) (hts (.fieldLink RX11 321 "CutAtlas$NumberMap" "lengths" "[I") (List.mem_of_getElem? (i := 3) rfl)) (fun _ h9 => h9) rfl dB_36_3_41.2.2 ?_
                          refine lv_iload_n hx hb dB_36_4_4.1.1 rfl (lv_at hl 3 rfl) ?_
                          refine va_iald hx hb hK.1 hP 7 0 rfl rfl (i := a3) h_30 dB_36_4_4.1.2.1 ?_
                          refine lv_topi (fun y_35 ey_35 => ?_)
                          have e_ := (ey_35.trans ey_31.symm).symm
                          subst e_
                          skip
                          refine lv_icmp_lt (tgt := 106) hx hb dB_36_4_4.1.2.2 (by decide) (fun c_36 => ?_) (fun c_36 => ?_)
                          · have t_36 : a4.toInt < y_31.toInt := Int32.lt_iff_toInt_lt.mp c_36
                            refine lv_iconst (v := 0) hx hb dB_36_4_4.2.2.1 (by decide) ?_
                            rw [hQ]
                            exact W.iret (v := 0) hx hb hr (fun t ht hW => ⟨⟨0, (), rfl, ⟨by first | (simp only [f4_c0, f4_c1, f4_c2, f4_c3]; unfold wrgI hasI; (repeat' (first | with_reducible refine if_n (by omega) ?_ | with_reducible refine if_ns (by omega) ?_ | with_reducible refine if_nz (by omega) ?_ | with_reducible exact if_p (by omega) (by omega) | with_reducible exact if_ps (by omega) (by omega) | with_reducible exact if_pz (by omega) (by omega))) <;> omega) | (unfold wrgI hasI; (repeat' (first | with_reducible refine if_n (by omega) ?_ | with_reducible refine if_ns (by omega) ?_ | with_reducible refine if_nz (by omega) ?_ | with_reducible exact if_p (by omega) (by omega) | with_reducible exact if_ps (by omega) (by omega) | with_reducible exact if_pz (by omega) (by omega))) <;> omega), by omega⟩, trivial⟩, hS.F ht⟩) hS.2.2 dB_36_4_4.2.2.2
                          · have t_36 : ¬ a4.toInt < y_31.toInt := fun h => c_36 (Int32.lt_iff_toInt_lt.mpr h)
                            refine lv_bipush (v := (-12)) hx hb dB_36_4_4.2.1.1 (by decide) ?_
                            refine lv_goto (tgt := 107) hx hb dB_36_4_4.2.1.2 (by decide) ?_
                            rw [hQ]
                            exact W.iret (v := (-12)) hx hb hr (fun t ht hW => ⟨⟨(-12), (), rfl, ⟨by first | (simp only [f4_c0, f4_c1, f4_c2, f4_c3]; unfold wrgI hasI; (repeat' (first | with_reducible refine if_n (by omega) ?_ | with_reducible refine if_ns (by omega) ?_ | with_reducible refine if_nz (by omega) ?_ | with_reducible exact if_p (by omega) (by omega) | with_reducible exact if_ps (by omega) (by omega) | with_reducible exact if_pz (by omega) (by omega))) <;> omega) | (unfold wrgI hasI; (repeat' (first | with_reducible refine if_n (by omega) ?_ | with_reducible refine if_ns (by omega) ?_ | with_reducible refine if_nz (by omega) ?_ | with_reducible exact if_p (by omega) (by omega) | with_reducible exact if_ps (by omega) (by omega) | with_reducible exact if_pz (by omega) (by omega))) <;> omega), by omega⟩, trivial⟩, hS.F ht⟩) hS.2.2 dB_36_4_4.2.2.2
                      · have t_32 : ¬ (0 : Int32).toInt ≤ y_31.toInt := fun h => c_32 (Int32.le_iff_toInt_le.mpr h)
                        refine lv_bipush (v := (-11)) hx hb dB_36_3_40.2.1.2.1 (by decide) ?_
                        rw [hQ]
                        exact W.iret (v := (-11)) hx hb hr (fun t ht hW => ⟨⟨(-11), (), rfl, ⟨by first | (simp only [f4_c0, f4_c1, f4_c2, f4_c3]; unfold wrgI hasI; (repeat' (first | with_reducible refine if_n (by omega) ?_ | with_reducible refine if_ns (by omega) ?_ | with_reducible refine if_nz (by omega) ?_ | with_reducible exact if_p (by omega) (by omega) | with_reducible exact if_ps (by omega) (by omega) | with_reducible exact if_pz (by omega) (by omega))) <;> omega) | (unfold wrgI hasI; (repeat' (first | with_reducible refine if_n (by omega) ?_ | with_reducible refine if_ns (by omega) ?_ | with_reducible refine if_nz (by omega) ?_ | with_reducible exact if_p (by omega) (by omega) | with_reducible exact if_ps (by omega) (by omega) | with_reducible exact if_pz (by omega) (by omega))) <;> omega), by omega⟩, trivial⟩, hS.F ht⟩) hS.2.2 dB_36_3_40.2.1.2.2
                    · exact absurd c_29 (by decide)
                  · have e_ := e_.symm
                    subst e_
                    refine lv_if_ne (tgt := 63) hx hb dB_36_3_39.2.2.2.2 (by decide) (fun c_37 => ?_) (fun c_37 => ?_)
                    · exact absurd c_37 (by decide)
                    · have _ := c_37
                      refine lv_bipush (v := (-12)) hx hb dB_36_3_40.1.1.1.1 (by decide) ?_
                      rw [hQ]
                      exact W.iret (v := (-12)) hx hb hr (fun t ht hW => ⟨⟨(-12), (), rfl, ⟨by first | (simp only [f4_c0, f4_c1, f4_c2, f4_c3]; unfold wrgI hasI; (repeat' (first | with_reducible refine if_n (by omega) ?_ | with_reducible refine if_ns (by omega) ?_ | with_reducible refine if_nz (by omega) ?_ | with_reducible exact if_p (by omega) (by omega) | with_reducible exact if_ps (by omega) (by omega) | with_reducible exact if_pz (by omega) (by omega))) <;> omega) | (unfold wrgI hasI; (repeat' (first | with_reducible refine if_n (by omega) ?_ | with_reducible refine if_ns (by omega) ?_ | with_reducible refine if_nz (by omega) ?_ | with_reducible exact if_p (by omega) (by omega) | with_reducible exact if_ps (by omega) (by omega) | with_reducible exact if_pz (by omega) (by omega))) <;> omega), by omega⟩, trivial⟩, hS.F ht⟩) hS.2.2 dB_36_3_40.1.1.1.2
                · have t_26 : ¬ mk1.toInt = a2.toInt := fun h => c_26 (Int32.toInt_inj.mp h)
                  refine lv_bipush (v := (-13)) hx hb dB_36_3_39.1.2.2.2 (by decide) ?_
                  rw [hQ]
                  exact W.iret (v := (-13)) hx hb hr (fun t ht hW => ⟨⟨(-13), (), rfl, ⟨by first | (simp only [f4_c0, f4_c1, f4_c2, f4_c3]; unfold wrgI hasI; (repeat' (first | with_reducible refine if_n (by omega) ?_ | with_reducible refine if_ns (by omega) ?_ | with_reducible refine if_nz (by omega) ?_ | with_reducible exact if_p (by omega) (by omega) | with_reducible exact if_ps (by omega) (by omega) | with_reducible exact if_pz (by omega) (by omega))) <;> omega) | (unfold wrgI hasI; (repeat' (first | with_reducible refine if_n (by omega) ?_ | with_reducible refine if_ns (by omega) ?_ | with_reducible refine if_nz (by omega) ?_ | with_reducible exact if_p (by omega) (by omega) | with_reducible exact if_ps (by omega) (by omega) | with_reducible exact if_pz (by omega) (by omega))) <;> omega), by omega⟩, trivial⟩, hS.F ht⟩) hS.2.2 dB_36_3_39.2.1.1.1
              · exact absurd c_25 (by decide)
            · have e_ := e_.symm
              subst e_
              refine lv_if_ne (tgt := 31) hx hb dB_36_3_38.2.2.1.2 (by decide) (fun c_38 => ?_) (fun c_38 => ?_)
              · exact absurd c_38 (by decide)
              · have _ := c_38
                refine lv_bipush (v := (-11)) hx hb dB_36_3_38.2.2.2.1 (by decide) ?_
                rw [hQ]
                exact W.iret (v := (-11)) hx hb hr (fun t ht hW => ⟨⟨(-11), (), rfl, ⟨by first | (simp only [f4_c0, f4_c1, f4_c2, f4_c3]; unfold wrgI hasI; (repeat' (first | with_reducible refine if_n (by omega) ?_ | with_reducible refine if_ns (by omega) ?_ | with_reducible refine if_nz (by omega) ?_ | with_reducible exact if_p (by omega) (by omega) | with_reducible exact if_ps (by omega) (by omega) | with_reducible exact if_pz (by omega) (by omega))) <;> omega) | (unfold wrgI hasI; (repeat' (first | with_reducible refine if_n (by omega) ?_ | with_reducible refine if_ns (by omega) ?_ | with_reducible refine if_nz (by omega) ?_ | with_reducible exact if_p (by omega) (by omega) | with_reducible exact if_ps (by omega) (by omega) | with_reducible exact if_pz (by omega) (by omega))) <;> omega), by omega⟩, trivial⟩, hS.F ht⟩) hS.2.2 dB_36_3_38.2.2.2.2
          · refine lv_aload_n hx hb dB_36_3_38.2.1.1.1 rfl (lv_at hl 0 rfl) ?_
            refine va_get (ci := 11) (v := .ref xm) (C := RX11) (T := TX11) (N := 12) hx hb hts (fun _ h => List.mem_cons_of_mem _ (List.mem_append_left _ (List.mem_append_right _ h))) hown hK.1 hP 0 rfl rfl 6 (by decide) (hts (.fieldLink RX11 72 "CutAtlas" "maps" "[LCutAtlas$NumberMap;") (List.mem_of_getElem? (i := 1) rfl)) (fun _ h9 => h9) rfl dB_36_3_38.2.1.1.2 ?_
            refine lv_iload_n hx hb dB_36_3_38.2.1.2.1 rfl (lv_at hl 1 rfl) ?_
            refine va_aldq hx hb hK.1 hP 1 4 rfl rfl (i := 2) (by unfold vp_in; decide) dB_36_3_38.2.1.2.2 ?_
            refine lv_topv (v' := .ref m2) (by simp [va_up, va_rf, mf_, cl_0, cl_1, cl_2, cl_3, cl_4]) ?_
            refine ct_R hP hD0 [ob4_0_ m2 mk2 mr2 l2 u2] [4] (by decide) rfl (fun hPc hDw => ?_)
            have hFc := va_free (wc := []) hD hS hA [] rfl
            refine va_calli (va_runV (As := []) (rest := []) ⟨hx, hb, hml, hown, hts⟩ (c_X4_isThere l D cy H.size m2 l2 u2 mk2 mr2) (cwV 0 hts gX11_numberRefusal_X4_isThere rfl rfl rfl ⟨rfl, hd_X4_isThere⟩ ⟨Nat.le_of_ble_eq_true rfl, Nat.le_of_ble_eq_true rfl⟩) ⟨bl_, va_recvX hK.1 hP (ci := 4) (q0 := 4) rfl rfl, fun U hU hW => ⟨rfl, by rw [hU], by rw [hU]; exact hPc, kk_mv hW hK, hDw⟩⟩ rfl rfl hl.1 rfl (lv_room (Nat.le_of_ble_eq_true rfl)) dB_36_3_38.2.2.1.1 ⟨Nat.le_of_ble_eq_true rfl, Nat.le_of_ble_eq_true rfl⟩) hS (fun q _ h => hFc q h) hFc (fun r_39 u t H locs ht hvm hw hB hz1 hk1 hS => ?_)
            have hP : va_P D vwCl _ H := ro_keep hP hk1
            rcases hw with ⟨w_40, e_⟩ | ⟨w_40, e_⟩
            · have e_ := e_.symm
              subst e_
              refine lv_if_ne (tgt := 31) hx hb dB_36_3_38.2.2.1.2 (by decide) (fun c_41 => ?_) (fun c_41 => ?_)
              · have _ := c_41
                refine lv_aload_n hx hb dB_36_3_39.1.1.1.1 rfl (lv_at hl 0 rfl) ?_
                refine va_get (ci := 11) (v := .ref xm) (C := RX11) (T := TX11) (N := 12) hx hb hts (fun _ h => List.mem_cons_of_mem _ (List.mem_append_left _ (List.mem_append_right _ h))) hown hK.1 hP 0 rfl rfl 6 (by decide) (hts (.fieldLink RX11 72 "CutAtlas" "maps" "[LCutAtlas$NumberMap;") (List.mem_of_getElem? (i := 1) rfl)) (fun _ h9 => h9) rfl dB_36_3_39.1.1.1.2 ?_
                refine lv_iload_n hx hb dB_36_3_39.1.1.2.1 rfl (lv_at hl 1 rfl) ?_
                refine va_aldq hx hb hK.1 hP 1 4 rfl rfl (i := 2) (by unfold vp_in; decide) dB_36_3_39.1.1.2.2 ?_
                refine lv_topv (v' := .ref m2) (by simp [va_up, va_rf, mf_, cl_0, cl_1, cl_2, cl_3, cl_4]) ?_
                refine va_get (ci := 4) (v := .int mk2) (C := RX4) (T := TX4) (N := 4) hx hb hts (fun _ h => List.mem_cons_of_mem _ (List.mem_append_right _ h)) hown hK.1 hP 4 rfl rfl 0 (by decide) (hts (.fieldLink RX11 318 "CutAtlas$NumberMap" "kind" "I") (List.mem_of_getElem? (i := 2) rfl)) (fun _ h9 => h9) rfl dB_36_3_39.1.2.1.1 ?_
                refine lv_iload_n hx hb dB_36_3_39.1.2.1.2 rfl (lv_at hl 2 rfl) ?_
                refine lv_icmp_eq (tgt := 47) hx hb dB_36_3_39.1.2.2.1 (by decide) (fun c_42 => ?_) (fun c_42 => ?_)
                · have t_42 : mk2.toInt = a2.toInt := congrArg Int32.toInt c_42
                  refine lv_aload_n hx hb dB_36_3_39.2.1.1.2 rfl (lv_at hl 0 rfl) ?_
                  refine va_get (ci := 11) (v := .ref xm) (C := RX11) (T := TX11) (N := 12) hx hb hts (fun _ h => List.mem_cons_of_mem _ (List.mem_append_left _ (List.mem_append_right _ h))) hown hK.1 hP 0 rfl rfl 6 (by decide) (hts (.fieldLink RX11 72 "CutAtlas" "maps" "[LCutAtlas$NumberMap;") (List.mem_of_getElem? (i := 1) rfl)) (fun _ h9 => h9) rfl dB_36_3_39.2.1.2.1 ?_
                  refine lv_iload_n hx hb dB_36_3_39.2.1.2.2 rfl (lv_at hl 1 rfl) ?_
                  refine va_aldq hx hb hK.1 hP 1 4 rfl rfl (i := 2) (by unfold vp_in; decide) dB_36_3_39.2.2.1.1 ?_
                  refine lv_topv (v' := .ref m2) (by simp [va_up, va_rf, mf_, cl_0, cl_1, cl_2, cl_3, cl_4]) ?_
                  refine lv_iload_n hx hb dB_36_3_39.2.2.1.2 rfl (lv_at hl 3 rfl) ?_
                  refine ct_R hP hD0 [ob4_0_ m2 mk2 mr2 l2 u2] [4] (by decide) rfl (fun hPc hDw => ?_)
                  have hFc := va_free (wc := []) hD hS hA [] rfl
                  refine va_calli (va_runV (As := [.int a3]) (rest := []) ⟨hx, hb, hml, hown, hts⟩ (c_X4_hasRow l D cy H.size m2 l2 u2 mk2 mr2 a3) (cwV 1 hts gX11_numberRefusal_X4_hasRow rfl rfl rfl ⟨rfl, hd_X4_hasRow⟩ ⟨Nat.le_of_ble_eq_true rfl, Nat.le_of_ble_eq_true rfl⟩) ⟨bl_, va_recvX hK.1 hP (ci := 4) (q0 := 4) rfl rfl, fun U hU hW => ⟨rfl, by rw [hU], by rw [hU]; exact hPc, kk_mv hW hK, hDw⟩⟩ rfl rfl hl.1 rfl (lv_room (Nat.le_of_ble_eq_true rfl)) dB_36_3_39.2.2.2.1 ⟨Nat.le_of_ble_eq_true rfl, Nat.le_of_ble_eq_true rfl⟩) hS (fun q _ h => hFc q h) hFc (fun r_43 u t H locs ht hvm hw hB hz1 hk1 hS => ?_)
                  have hP : va_P D vwCl _ H := ro_keep hP hk1
                  rcases hw with ⟨w_44, e_⟩ | ⟨w_44, e_⟩
                  · have e_ := e_.symm
                    subst e_
                    refine lv_if_ne (tgt := 63) hx hb dB_36_3_39.2.2.2.2 (by decide) (fun c_45 => ?_) (fun c_45 => ?_)
                    · have _ := c_45
                      refine lv_aload_n hx hb dB_36_3_40.1.1.2.1 rfl (lv_at hl 0 rfl) ?_
                      refine va_get (ci := 11) (v := .ref xm) (C := RX11) (T := TX11) (N := 12) hx hb hts (fun _ h => List.mem_cons_of_mem _ (List.mem_append_left _ (List.mem_append_right _ h))) hown hK.1 hP 0 rfl rfl 6 (by decide) (hts (.fieldLink RX11 72 "CutAtlas" "maps" "[LCutAtlas$NumberMap;") (List.mem_of_getElem? (i := 1) rfl)) (fun _ h9 => h9) rfl dB_36_3_40.1.1.2.2 ?_
                      refine lv_iload_n hx hb dB_36_3_40.1.2.1.1 rfl (lv_at hl 1 rfl) ?_
                      refine va_aldq hx hb hK.1 hP 1 4 rfl rfl (i := 2) (by unfold vp_in; decide) dB_36_3_40.1.2.1.2 ?_
                      refine lv_topv (v' := .ref m2) (by simp [va_up, va_rf, mf_, cl_0, cl_1, cl_2, cl_3, cl_4]) ?_
                      refine va_get (ci := 4) (v := .ref l2) (C := RX4) (T := TX4) (N := 4) hx hb hts (fun _ h => List.mem_cons_of_mem _ (List.mem_append_right _ h)) hown hK.1 hP 4 rfl rfl 2 (by decide) (hts (.fieldLink RX11 321 "CutAtlas$NumberMap" "lengths" "[I") (List.mem_of_getElem? (i := 3) rfl)) (fun _ h9 => h9) rfl dB_36_3_40.1.2.2.1 ?_
                      refine lv_iload_n hx hb dB_36_3_40.1.2.2.2 rfl (lv_at hl 3 rfl) ?_
                      have h_46 : vp_in a3 6 := in_I (by first | with_reducible assumption | omega) (by omega)
                      refine va_iald hx hb hK.1 hP 8 0 rfl rfl (i := a3) h_46 dB_36_3_40.2.1.1.1 ?_
                      refine lv_topi (fun y_47 ey_47 => ?_)
                      have ky_47 : y_47.toInt = (fl2 a3.toNatClampNeg).toInt := by rw [ey_47]
                      have ry_47 : -9 ≤ y_47.toInt ∧ y_47.toInt ≤ 5 := by rw [ey_47]; exact r_fl2 _ (in_lt h_46)
                      refine lv_if_ge (tgt := 80) hx hb dB_36_3_40.2.1.1.2 (by decide) (fun c_48 => ?_) (fun c_48 => ?_)
                      · have t_48 : (0 : Int32).toInt ≤ y_47.toInt := Int32.le_iff_toInt_le.mp c_48
                        refine lv_iload hx hb dB_36_3_40.2.2.1.1 (lv_at hl 4 rfl) ?_
                        refine lv_if_lt (tgt := 101) hx hb dB_36_3_40.2.2.1.2 (by decide) (fun c_49 => ?_) (fun c_49 => ?_)
                        · have t_49 : a4.toInt < (0 : Int32).toInt := Int32.lt_iff_toInt_lt.mp c_49
                          refine lv_bipush (v := (-12)) hx hb dB_36_4_4.2.1.1 (by decide) ?_
                          refine lv_goto (tgt := 107) hx hb dB_36_4_4.2.1.2 (by decide) ?_
                          rw [hQ]
                          exact W.iret (v := (-12)) hx hb hr (fun t ht hW => ⟨⟨(-12), (), rfl, ⟨by first | (simp only [f4_c0, f4_c1, f4_c2, f4_c3]; unfold wrgI hasI; (repeat' (first | with_reducible refine if_n (by omega) ?_ | with_reducible refine if_ns (by omega) ?_ | with_reducible refine if_nz (by omega) ?_ | with_reducible exact if_p (by omega) (by omega) | with_reducible exact if_ps (by omega) (by omega) | with_reducible exact if_pz (by omega) (by omega))) <;> omega) | (unfold wrgI hasI; (repeat' (first | with_reducible refine if_n (by omega) ?_ | with_reducible refine if_ns (by omega) ?_ | with_reducible refine if_nz (by omega) ?_ | with_reducible exact if_p (by omega) (by omega) | with_reducible exact if_ps (by omega) (by omega) | with_reducible exact if_pz (by omega) (by omega))) <;> omega), by omega⟩, trivial⟩, hS.F ht⟩) hS.2.2 dB_36_4_4.2.2.2
                        · have t_49 : ¬ a4.toInt < (0 : Int32).toInt := fun h => c_49 (Int32.lt_iff_toInt_lt.mpr h)
                          refine lv_iload hx hb dB_36_3_40.2.2.2.1 (lv_at hl 4 rfl) ?_
                          refine lv_aload_n hx hb dB_36_3_40.2.2.2.2 rfl (lv_at hl 0 rfl) ?_
                          refine va_get (ci := 11) (v := .ref xm) (C := RX11) (T := TX11) (N := 12) hx hb hts (fun _ h => List.mem_cons_of_mem _ (List.mem_append_left _ (List.mem_append_right _ h))) hown hK.1 hP 0 rfl rfl 6 (by decide) (hts (.fieldLink RX11 72 "CutAtlas" "maps" "[LCutAtlas$NumberMap;") (List.mem_of_getElem? (i := 1) rfl)) (fun _ h9 => h9) rfl dB_36_3_41.1.1 ?_
                          refine lv_iload_n hx hb dB_36_3_41.1.2 rfl (lv_at hl 1 rfl) ?_
                          refine va_aldq hx hb hK.1 hP 1 4 rfl rfl (i := 2) (by unfold vp_in; decide) dB_36_3_41.2.1 ?_
                          refine lv_topv (v' := .ref m2) (by simp [va_up, va_rf, mf_, cl_0, cl_1, cl_2, cl_3, cl_4]) ?_
                          refine va_get (ci := 4) (v := .ref l2) (C := RX4) (T := TX4) (N := 4) hx hb hts (fun _ h => List.mem_cons_of_mem _ (List.mem_append_right _ h)) hown hK.1 hP 4 rfl rfl 2 (by decide) (hts (.fieldLink RX11 321 "CutAtlas$NumberMap" "lengths" "[I") (List.mem_of_getElem? (i := 3) rfl)) (fun _ h9 => h9) rfl dB_36_3_41.2.2 ?_
                          refine lv_iload_n hx hb dB_36_4_4.1.1 rfl (lv_at hl 3 rfl) ?_
                          refine va_iald hx hb hK.1 hP 8 0 rfl rfl (i := a3) h_46 dB_36_4_4.1.2.1 ?_
                          refine lv_topi (fun y_51 ey_51 => ?_)
                          have e_ := (ey_51.trans ey_47.symm).symm
                          subst e_
                          skip
                          refine lv_icmp_lt (tgt := 106) hx hb dB_36_4_4.1.2.2 (by decide) (fun c_52 => ?_) (fun c_52 => ?_)
                          · have t_52 : a4.toInt < y_47.toInt := Int32.lt_iff_toInt_lt.mp c_52
                            refine lv_iconst (v := 0) hx hb dB_36_4_4.2.2.1 (by decide) ?_
                            rw [hQ]
                            exact W.iret (v := 0) hx hb hr (fun t ht hW => ⟨⟨0, (), rfl, ⟨by first | (simp only [f4_c0, f4_c1, f4_c2, f4_c3]; unfold wrgI hasI; (repeat' (first | with_reducible refine if_n (by omega) ?_ | with_reducible refine if_ns (by omega) ?_ | with_reducible refine if_nz (by omega) ?_ | with_reducible exact if_p (by omega) (by omega) | with_reducible exact if_ps (by omega) (by omega) | with_reducible exact if_pz (by omega) (by omega))) <;> omega) | (unfold wrgI hasI; (repeat' (first | with_reducible refine if_n (by omega) ?_ | with_reducible refine if_ns (by omega) ?_ | with_reducible refine if_nz (by omega) ?_ | with_reducible exact if_p (by omega) (by omega) | with_reducible exact if_ps (by omega) (by omega) | with_reducible exact if_pz (by omega) (by omega))) <;> omega), by omega⟩, trivial⟩, hS.F ht⟩) hS.2.2 dB_36_4_4.2.2.2
                          · have t_52 : ¬ a4.toInt < y_47.toInt := fun h => c_52 (Int32.lt_iff_toInt_lt.mpr h)
                            refine lv_bipush (v := (-12)) hx hb dB_36_4_4.2.1.1 (by decide) ?_
                            refine lv_goto (tgt := 107) hx hb dB_36_4_4.2.1.2 (by decide) ?_
                            rw [hQ]
                            exact W.iret (v := (-12)) hx hb hr (fun t ht hW => ⟨⟨(-12), (), rfl, ⟨by first | (simp only [f4_c0, f4_c1, f4_c2, f4_c3]; unfold wrgI hasI; (repeat' (first | with_reducible refine if_n (by omega) ?_ | with_reducible refine if_ns (by omega) ?_ | with_reducible refine if_nz (by omega) ?_ | with_reducible exact if_p (by omega) (by omega) | with_reducible exact if_ps (by omega) (by omega) | with_reducible exact if_pz (by omega) (by omega))) <;> omega) | (unfold wrgI hasI; (repeat' (first | with_reducible refine if_n (by omega) ?_ | with_reducible refine if_ns (by omega) ?_ | with_reducible refine if_nz (by omega) ?_ | with_reducible exact if_p (by omega) (by omega) | with_reducible exact if_ps (by omega) (by omega) | with_reducible exact if_pz (by omega) (by omega))) <;> omega), by omega⟩, trivial⟩, hS.F ht⟩) hS.2.2 dB_36_4_4.2.2.2
                      · have t_48 : ¬ (0 : Int32).toInt ≤ y_47.toInt := fun h => c_48 (Int32.le_iff_toInt_le.mpr h)
                        refine lv_bipush (v := (-11)) hx hb dB_36_3_40.2.1.2.1 (by decide) ?_
                        rw [hQ]
                        exact W.iret (v := (-11)) hx hb hr (fun t ht hW => ⟨⟨(-11), (), rfl, ⟨by first | (simp only [f4_c0, f4_c1, f4_c2, f4_c3]; unfold wrgI hasI; (repeat' (first | with_reducible refine if_n (by omega) ?_ | with_reducible refine if_ns (by omega) ?_ | with_reducible refine if_nz (by omega) ?_ | with_reducible exact if_p (by omega) (by omega) | with_reducible exact if_ps (by omega) (by omega) | with_reducible exact if_pz (by omega) (by omega))) <;> omega) | (unfold wrgI hasI; (repeat' (first | with_reducible refine if_n (by omega) ?_ | with_reducible refine if_ns (by omega) ?_ | with_reducible refine if_nz (by omega) ?_ | with_reducible exact if_p (by omega) (by omega) | with_reducible exact if_ps (by omega) (by omega) | with_reducible exact if_pz (by omega) (by omega))) <;> omega), by omega⟩, trivial⟩, hS.F ht⟩) hS.2.2 dB_36_3_40.2.1.2.2
                    · exact absurd c_45 (by decide)
                  · have e_ := e_.symm
                    subst e_
                    refine lv_if_ne (tgt := 63) hx hb dB_36_3_39.2.2.2.2 (by decide) (fun c_53 => ?_) (fun c_53 => ?_)
                    · exact absurd c_53 (by decide)
                    · have _ := c_53
                      refine lv_bipush (v := (-12)) hx hb dB_36_3_40.1.1.1.1 (by decide) ?_
                      rw [hQ]
                      exact W.iret (v := (-12)) hx hb hr (fun t ht hW => ⟨⟨(-12), (), rfl, ⟨by first | (simp only [f4_c0, f4_c1, f4_c2, f4_c3]; unfold wrgI hasI; (repeat' (first | with_reducible refine if_n (by omega) ?_ | with_reducible refine if_ns (by omega) ?_ | with_reducible refine if_nz (by omega) ?_ | with_reducible exact if_p (by omega) (by omega) | with_reducible exact if_ps (by omega) (by omega) | with_reducible exact if_pz (by omega) (by omega))) <;> omega) | (unfold wrgI hasI; (repeat' (first | with_reducible refine if_n (by omega) ?_ | with_reducible refine if_ns (by omega) ?_ | with_reducible refine if_nz (by omega) ?_ | with_reducible exact if_p (by omega) (by omega) | with_reducible exact if_ps (by omega) (by omega) | with_reducible exact if_pz (by omega) (by omega))) <;> omega), by omega⟩, trivial⟩, hS.F ht⟩) hS.2.2 dB_36_3_40.1.1.1.2
                · have t_42 : ¬ mk2.toInt = a2.toInt := fun h => c_42 (Int32.toInt_inj.mp h)
                  refine lv_bipush (v := (-13)) hx hb dB_36_3_39.1.2.2.2 (by decide) ?_
                  rw [hQ]
                  exact W.iret (v := (-13)) hx hb hr (fun t ht hW => ⟨⟨(-13), (), rfl, ⟨by first | (simp only [f4_c0, f4_c1, f4_c2, f4_c3]; unfold wrgI hasI; (repeat' (first | with_reducible refine if_n (by omega) ?_ | with_reducible refine if_ns (by omega) ?_ | with_reducible refine if_nz (by omega) ?_ | with_reducible exact if_p (by omega) (by omega) | with_reducible exact if_ps (by omega) (by omega) | with_reducible exact if_pz (by omega) (by omega))) <;> omega) | (unfold wrgI hasI; (repeat' (first | with_reducible refine if_n (by omega) ?_ | with_reducible refine if_ns (by omega) ?_ | with_reducible refine if_nz (by omega) ?_ | with_reducible exact if_p (by omega) (by omega) | with_reducible exact if_ps (by omega) (by omega) | with_reducible exact if_pz (by omega) (by omega))) <;> omega), by omega⟩, trivial⟩, hS.F ht⟩) hS.2.2 dB_36_3_39.2.1.1.1
              · exact absurd c_41 (by decide)
            · have e_ := e_.symm
              subst e_
              refine lv_if_ne (tgt := 31) hx hb dB_36_3_38.2.2.1.2 (by decide) (fun c_54 => ?_) (fun c_54 => ?_)
              · exact absurd c_54 (by decide)
              · have _ := c_54
                refine lv_bipush (v := (-11)) hx hb dB_36_3_38.2.2.2.1 (by decide) ?_
                rw [hQ]
                exact W.iret (v := (-11)) hx hb hr (fun t ht hW => ⟨⟨(-11), (), rfl, ⟨by first | (simp only [f4_c0, f4_c1, f4_c2, f4_c3]; unfold wrgI hasI; (repeat' (first | with_reducible refine if_n (by omega) ?_ | with_reducible refine if_ns (by omega) ?_ | with_reducible refine if_nz (by omega) ?_ | with_reducible exact if_p (by omega) (by omega) | with_reducible exact if_ps (by omega) (by omega) | with_reducible exact if_pz (by omega) (by omega))) <;> omega) | (unfold wrgI hasI; (repeat' (first | with_reducible refine if_n (by omega) ?_ | with_reducible refine if_ns (by omega) ?_ | with_reducible refine if_nz (by omega) ?_ | with_reducible exact if_p (by omega) (by omega) | with_reducible exact if_ps (by omega) (by omega) | with_reducible exact if_pz (by omega) (by omega))) <;> omega), by omega⟩, trivial⟩, hS.F ht⟩) hS.2.2 dB_36_3_38.2.2.2.2
          · refine lv_aload_n hx hb dB_36_3_38.2.1.1.1 rfl (lv_at hl 0 rfl) ?_
            refine va_get (ci := 11) (v := .ref xm) (C := RX11) (T := TX11) (N := 12) hx hb hts (fun _ h => List.mem_cons_of_mem _ (List.mem_append_left _ (List.mem_append_right _ h))) hown hK.1 hP 0 rfl rfl 6 (by decide) (hts (.fieldLink RX11 72 "CutAtlas" "maps" "[LCutAtlas$NumberMap;") (List.mem_of_getElem? (i := 1) rfl)) (fun _ h9 => h9) rfl dB_36_3_38.2.1.1.2 ?_
            refine lv_iload_n hx hb dB_36_3_38.2.1.2.1 rfl (lv_at hl 1 rfl) ?_
            refine va_aldq hx hb hK.1 hP 1 4 rfl rfl (i := 3) (by unfold vp_in; decide) dB_36_3_38.2.1.2.2 ?_
            refine lv_topv (v' := .ref m3) (by simp [va_up, va_rf, mf_, cl_0, cl_1, cl_2, cl_3, cl_4]) ?_
            refine ct_R hP hD0 [ob4_0_ m3 mk3 mr3 l3 u3] [5] (by decide) rfl (fun hPc hDw => ?_)
            have hFc := va_free (wc := []) hD hS hA [] rfl
            refine va_calli (va_runV (As := []) (rest := []) ⟨hx, hb, hml, hown, hts⟩ (c_X4_isThere l D cy H.size m3 l3 u3 mk3 mr3) (cwV 0 hts gX11_numberRefusal_X4_isThere rfl rfl rfl ⟨rfl, hd_X4_isThere⟩ ⟨Nat.le_of_ble_eq_true rfl, Nat.le_of_ble_eq_true rfl⟩) ⟨bl_, va_recvX hK.1 hP (ci := 4) (q0 := 5) rfl rfl, fun U hU hW => ⟨rfl, by rw [hU], by rw [hU]; exact hPc, kk_mv hW hK, hDw⟩⟩ rfl rfl hl.1 rfl (lv_room (Nat.le_of_ble_eq_true rfl)) dB_36_3_38.2.2.1.1 ⟨Nat.le_of_ble_eq_true rfl, Nat.le_of_ble_eq_true rfl⟩) hS (fun q _ h => hFc q h) hFc (fun r_55 u t H locs ht hvm hw hB hz1 hk1 hS => ?_)
            have hP : va_P D vwCl _ H := ro_keep hP hk1
            rcases hw with ⟨w_56, e_⟩ | ⟨w_56, e_⟩
            · have e_ := e_.symm
              subst e_
              refine lv_if_ne (tgt := 31) hx hb dB_36_3_38.2.2.1.2 (by decide) (fun c_57 => ?_) (fun c_57 => ?_)
              · have _ := c_57
                refine lv_aload_n hx hb dB_36_3_39.1.1.1.1 rfl (lv_at hl 0 rfl) ?_
                refine va_get (ci := 11) (v := .ref xm) (C := RX11) (T := TX11) (N := 12) hx hb hts (fun _ h => List.mem_cons_of_mem _ (List.mem_append_left _ (List.mem_append_right _ h))) hown hK.1 hP 0 rfl rfl 6 (by decide) (hts (.fieldLink RX11 72 "CutAtlas" "maps" "[LCutAtlas$NumberMap;") (List.mem_of_getElem? (i := 1) rfl)) (fun _ h9 => h9) rfl dB_36_3_39.1.1.1.2 ?_
                refine lv_iload_n hx hb dB_36_3_39.1.1.2.1 rfl (lv_at hl 1 rfl) ?_
                refine va_aldq hx hb hK.1 hP 1 4 rfl rfl (i := 3) (by unfold vp_in; decide) dB_36_3_39.1.1.2.2 ?_
                refine lv_topv (v' := .ref m3) (by simp [va_up, va_rf, mf_, cl_0, cl_1, cl_2, cl_3, cl_4]) ?_
                refine va_get (ci := 4) (v := .int mk3) (C := RX4) (T := TX4) (N := 4) hx hb hts (fun _ h => List.mem_cons_of_mem _ (List.mem_append_right _ h)) hown hK.1 hP 5 rfl rfl 0 (by decide) (hts (.fieldLink RX11 318 "CutAtlas$NumberMap" "kind" "I") (List.mem_of_getElem? (i := 2) rfl)) (fun _ h9 => h9) rfl dB_36_3_39.1.2.1.1 ?_
                refine lv_iload_n hx hb dB_36_3_39.1.2.1.2 rfl (lv_at hl 2 rfl) ?_
                refine lv_icmp_eq (tgt := 47) hx hb dB_36_3_39.1.2.2.1 (by decide) (fun c_58 => ?_) (fun c_58 => ?_)
                · have t_58 : mk3.toInt = a2.toInt := congrArg Int32.toInt c_58
                  refine lv_aload_n hx hb dB_36_3_39.2.1.1.2 rfl (lv_at hl 0 rfl) ?_
                  refine va_get (ci := 11) (v := .ref xm) (C := RX11) (T := TX11) (N := 12) hx hb hts (fun _ h => List.mem_cons_of_mem _ (List.mem_append_left _ (List.mem_append_right _ h))) hown hK.1 hP 0 rfl rfl 6 (by decide) (hts (.fieldLink RX11 72 "CutAtlas" "maps" "[LCutAtlas$NumberMap;") (List.mem_of_getElem? (i := 1) rfl)) (fun _ h9 => h9) rfl dB_36_3_39.2.1.2.1 ?_
                  refine lv_iload_n hx hb dB_36_3_39.2.1.2.2 rfl (lv_at hl 1 rfl) ?_
                  refine va_aldq hx hb hK.1 hP 1 4 rfl rfl (i := 3) (by unfold vp_in; decide) dB_36_3_39.2.2.1.1 ?_
                  refine lv_topv (v' := .ref m3) (by simp [va_up, va_rf, mf_, cl_0, cl_1, cl_2, cl_3, cl_4]) ?_
                  refine lv_iload_n hx hb dB_36_3_39.2.2.1.2 rfl (lv_at hl 3 rfl) ?_
                  refine ct_R hP hD0 [ob4_0_ m3 mk3 mr3 l3 u3] [5] (by decide) rfl (fun hPc hDw => ?_)
                  have hFc := va_free (wc := []) hD hS hA [] rfl
                  refine va_calli (va_runV (As := [.int a3]) (rest := []) ⟨hx, hb, hml, hown, hts⟩ (c_X4_hasRow l D cy H.size m3 l3 u3 mk3 mr3 a3) (cwV 1 hts gX11_numberRefusal_X4_hasRow rfl rfl rfl ⟨rfl, hd_X4_hasRow⟩ ⟨Nat.le_of_ble_eq_true rfl, Nat.le_of_ble_eq_true rfl⟩) ⟨bl_, va_recvX hK.1 hP (ci := 4) (q0 := 5) rfl rfl, fun U hU hW => ⟨rfl, by rw [hU], by rw [hU]; exact hPc, kk_mv hW hK, hDw⟩⟩ rfl rfl hl.1 rfl (lv_room (Nat.le_of_ble_eq_true rfl)) dB_36_3_39.2.2.2.1 ⟨Nat.le_of_ble_eq_true rfl, Nat.le_of_ble_eq_true rfl⟩) hS (fun q _ h => hFc q h) hFc (fun r_59 u t H locs ht hvm hw hB hz1 hk1 hS => ?_)
                  have hP : va_P D vwCl _ H := ro_keep hP hk1
                  rcases hw with ⟨w_60, e_⟩ | ⟨w_60, e_⟩
                  · have e_ := e_.symm
                    subst e_
                    refine lv_if_ne (tgt := 63) hx hb dB_36_3_39.2.2.2.2 (by decide) (fun c_61 => ?_) (fun c_61 => ?_)
                    · have _ := c_61
                      refine lv_aload_n hx hb dB_36_3_40.1.1.2.1 rfl (lv_at hl 0 rfl) ?_
                      refine va_get (ci := 11) (v := .ref xm) (C := RX11) (T := TX11) (N := 12) hx hb hts (fun _ h => List.mem_cons_of_mem _ (List.mem_append_left _ (List.mem_append_right _ h))) hown hK.1 hP 0 rfl rfl 6 (by decide) (hts (.fieldLink RX11 72 "CutAtlas" "maps" "[LCutAtlas$NumberMap;") (List.mem_of_getElem? (i := 1) rfl)) (fun _ h9 => h9) rfl dB_36_3_40.1.1.2.2 ?_
                      refine lv_iload_n hx hb dB_36_3_40.1.2.1.1 rfl (lv_at hl 1 rfl) ?_
                      refine va_aldq hx hb hK.1 hP 1 4 rfl rfl (i := 3) (by unfold vp_in; decide) dB_36_3_40.1.2.1.2 ?_
                      refine lv_topv (v' := .ref m3) (by simp [va_up, va_rf, mf_, cl_0, cl_1, cl_2, cl_3, cl_4]) ?_
                      refine va_get (ci := 4) (v := .ref l3) (C := RX4) (T := TX4) (N := 4) hx hb hts (fun _ h => List.mem_cons_of_mem _ (List.mem_append_right _ h)) hown hK.1 hP 5 rfl rfl 2 (by decide) (hts (.fieldLink RX11 321 "CutAtlas$NumberMap" "lengths" "[I") (List.mem_of_getElem? (i := 3) rfl)) (fun _ h9 => h9) rfl dB_36_3_40.1.2.2.1 ?_
                      refine lv_iload_n hx hb dB_36_3_40.1.2.2.2 rfl (lv_at hl 3 rfl) ?_
                      have h_62 : vp_in a3 6 := in_I (by first | with_reducible assumption | omega) (by omega)
                      refine va_iald hx hb hK.1 hP 9 0 rfl rfl (i := a3) h_62 dB_36_3_40.2.1.1.1 ?_
                      refine lv_topi (fun y_63 ey_63 => ?_)
                      have ky_63 : y_63.toInt = (fl3 a3.toNatClampNeg).toInt := by rw [ey_63]
                      have ry_63 : -9 ≤ y_63.toInt ∧ y_63.toInt ≤ 5 := by rw [ey_63]; exact r_fl3 _ (in_lt h_62)
                      refine lv_if_ge (tgt := 80) hx hb dB_36_3_40.2.1.1.2 (by decide) (fun c_64 => ?_) (fun c_64 => ?_)
                      · have t_64 : (0 : Int32).toInt ≤ y_63.toInt := Int32.le_iff_toInt_le.mp c_64
                        refine lv_iload hx hb dB_36_3_40.2.2.1.1 (lv_at hl 4 rfl) ?_
                        refine lv_if_lt (tgt := 101) hx hb dB_36_3_40.2.2.1.2 (by decide) (fun c_65 => ?_) (fun c_65 => ?_)
                        · have t_65 : a4.toInt < (0 : Int32).toInt := Int32.lt_iff_toInt_lt.mp c_65
                          refine lv_bipush (v := (-12)) hx hb dB_36_4_4.2.1.1 (by decide) ?_
                          refine lv_goto (tgt := 107) hx hb dB_36_4_4.2.1.2 (by decide) ?_
                          rw [hQ]
                          exact W.iret (v := (-12)) hx hb hr (fun t ht hW => ⟨⟨(-12), (), rfl, ⟨by first | (simp only [f4_c0, f4_c1, f4_c2, f4_c3]; unfold wrgI hasI; (repeat' (first | with_reducible refine if_n (by omega) ?_ | with_reducible refine if_ns (by omega) ?_ | with_reducible refine if_nz (by omega) ?_ | with_reducible exact if_p (by omega) (by omega) | with_reducible exact if_ps (by omega) (by omega) | with_reducible exact if_pz (by omega) (by omega))) <;> omega) | (unfold wrgI hasI; (repeat' (first | with_reducible refine if_n (by omega) ?_ | with_reducible refine if_ns (by omega) ?_ | with_reducible refine if_nz (by omega) ?_ | with_reducible exact if_p (by omega) (by omega) | with_reducible exact if_ps (by omega) (by omega) | with_reducible exact if_pz (by omega) (by omega))) <;> omega), by omega⟩, trivial⟩, hS.F ht⟩) hS.2.2 dB_36_4_4.2.2.2
                        · have t_65 : ¬ a4.toInt < (0 : Int32).toInt := fun h => c_65 (Int32.lt_iff_toInt_lt.mpr h)
                          refine lv_iload hx hb dB_36_3_40.2.2.2.1 (lv_at hl 4 rfl) ?_
                          refine lv_aload_n hx hb dB_36_3_40.2.2.2.2 rfl (lv_at hl 0 rfl) ?_
                          refine va_get (ci := 11) (v := .ref xm) (C := RX11) (T := TX11) (N := 12) hx hb hts (fun _ h => List.mem_cons_of_mem _ (List.mem_append_left _ (List.mem_append_right _ h))) hown hK.1 hP 0 rfl rfl 6 (by decide) (hts (.fieldLink RX11 72 "CutAtlas" "maps" "[LCutAtlas$NumberMap;") (List.mem_of_getElem? (i := 1) rfl)) (fun _ h9 => h9) rfl dB_36_3_41.1.1 ?_
                          refine lv_iload_n hx hb dB_36_3_41.1.2 rfl (lv_at hl 1 rfl) ?_
                          refine va_aldq hx hb hK.1 hP 1 4 rfl rfl (i := 3) (by unfold vp_in; decide) dB_36_3_41.2.1 ?_
                          refine lv_topv (v' := .ref m3) (by simp [va_up, va_rf, mf_, cl_0, cl_1, cl_2, cl_3, cl_4]) ?_
                          refine va_get (ci := 4) (v := .ref l3) (C := RX4) (T := TX4) (N := 4) hx hb hts (fun _ h => List.mem_cons_of_mem _ (List.mem_append_right _ h)) hown hK.1 hP 5 rfl rfl 2 (by decide) (hts (.fieldLink RX11 321 "CutAtlas$NumberMap" "lengths" "[I") (List.mem_of_getElem? (i := 3) rfl)) (fun _ h9 => h9) rfl dB_36_3_41.2.2 ?_
                          refine lv_iload_n hx hb dB_36_4_4.1.1 rfl (lv_at hl 3 rfl) ?_
                          refine va_iald hx hb hK.1 hP 9 0 rfl rfl (i := a3) h_62 dB_36_4_4.1.2.1 ?_
                          refine lv_topi (fun y_67 ey_67 => ?_)
                          have e_ := (ey_67.trans ey_63.symm).symm
                          subst e_
                          skip
                          refine lv_icmp_lt (tgt := 106) hx hb dB_36_4_4.1.2.2 (by decide) (fun c_68 => ?_) (fun c_68 => ?_)
                          · have t_68 : a4.toInt < y_63.toInt := Int32.lt_iff_toInt_lt.mp c_68
                            refine lv_iconst (v := 0) hx hb dB_36_4_4.2.2.1 (by decide) ?_
                            rw [hQ]
                            exact W.iret (v := 0) hx hb hr (fun t ht hW => ⟨⟨0, (), rfl, ⟨by first | (simp only [f4_c0, f4_c1, f4_c2, f4_c3]; unfold wrgI hasI; (repeat' (first | with_reducible refine if_n (by omega) ?_ | with_reducible refine if_ns (by omega) ?_ | with_reducible refine if_nz (by omega) ?_ | with_reducible exact if_p (by omega) (by omega) | with_reducible exact if_ps (by omega) (by omega) | with_reducible exact if_pz (by omega) (by omega))) <;> omega) | (unfold wrgI hasI; (repeat' (first | with_reducible refine if_n (by omega) ?_ | with_reducible refine if_ns (by omega) ?_ | with_reducible refine if_nz (by omega) ?_ | with_reducible exact if_p (by omega) (by omega) | with_reducible exact if_ps (by omega) (by omega) | with_reducible exact if_pz (by omega) (by omega))) <;> omega), by omega⟩, trivial⟩, hS.F ht⟩) hS.2.2 dB_36_4_4.2.2.2
                          · have t_68 : ¬ a4.toInt < y_63.toInt := fun h => c_68 (Int32.lt_iff_toInt_lt.mpr h)
                            refine lv_bipush (v := (-12)) hx hb dB_36_4_4.2.1.1 (by decide) ?_
                            refine lv_goto (tgt := 107) hx hb dB_36_4_4.2.1.2 (by decide) ?_
                            rw [hQ]
                            exact W.iret (v := (-12)) hx hb hr (fun t ht hW => ⟨⟨(-12), (), rfl, ⟨by first | (simp only [f4_c0, f4_c1, f4_c2, f4_c3]; unfold wrgI hasI; (repeat' (first | with_reducible refine if_n (by omega) ?_ | with_reducible refine if_ns (by omega) ?_ | with_reducible refine if_nz (by omega) ?_ | with_reducible exact if_p (by omega) (by omega) | with_reducible exact if_ps (by omega) (by omega) | with_reducible exact if_pz (by omega) (by omega))) <;> omega) | (unfold wrgI hasI; (repeat' (first | with_reducible refine if_n (by omega) ?_ | with_reducible refine if_ns (by omega) ?_ | with_reducible refine if_nz (by omega) ?_ | with_reducible exact if_p (by omega) (by omega) | with_reducible exact if_ps (by omega) (by omega) | with_reducible exact if_pz (by omega) (by omega))) <;> omega), by omega⟩, trivial⟩, hS.F ht⟩) hS.2.2 dB_36_4_4.2.2.2
                      · have t_64 : ¬ (0 : Int32).toInt ≤ y_63.toInt := fun h => c_64 (Int32.le_iff_toInt_le.mpr h)
                        refine lv_bipush (v := (-11)) hx hb dB_36_3_40.2.1.2.1 (by decide) ?_
                        rw [hQ]
                        exact W.iret (v := (-11)) hx hb hr (fun t ht hW => ⟨⟨(-11), (), rfl, ⟨by first | (simp only [f4_c0, f4_c1, f4_c2, f4_c3]; unfold wrgI hasI; (repeat' (first | with_reducible refine if_n (by omega) ?_ | with_reducible refine if_ns (by omega) ?_ | with_reducible refine if_nz (by omega) ?_ | with_reducible exact if_p (by omega) (by omega) | with_reducible exact if_ps (by omega) (by omega) | with_reducible exact if_pz (by omega) (by omega))) <;> omega) | (unfold wrgI hasI; (repeat' (first | with_reducible refine if_n (by omega) ?_ | with_reducible refine if_ns (by omega) ?_ | with_reducible refine if_nz (by omega) ?_ | with_reducible exact if_p (by omega) (by omega) | with_reducible exact if_ps (by omega) (by omega) | with_reducible exact if_pz (by omega) (by omega))) <;> omega), by omega⟩, trivial⟩, hS.F ht⟩) hS.2.2 dB_36_3_40.2.1.2.2
                    · exact absurd c_61 (by decide)
                  · have e_ := e_.symm
                    subst e_
                    refine lv_if_ne (tgt := 63) hx hb dB_36_3_39.2.2.2.2 (by decide) (fun c_69 => ?_) (fun c_69 => ?_)
                    · exact absurd c_69 (by decide)
                    · have _ := c_69
                      refine lv_bipush (v := (-12)) hx hb dB_36_3_40.1.1.1.1 (by decide) ?_
                      rw [hQ]
                      exact W.iret (v := (-12)) hx hb hr (fun t ht hW => ⟨⟨(-12), (), rfl, ⟨by first | (simp only [f4_c0, f4_c1, f4_c2, f4_c3]; unfold wrgI hasI; (repeat' (first | with_reducible refine if_n (by omega) ?_ | with_reducible refine if_ns (by omega) ?_ | with_reducible refine if_nz (by omega) ?_ | with_reducible exact if_p (by omega) (by omega) | with_reducible exact if_ps (by omega) (by omega) | with_reducible exact if_pz (by omega) (by omega))) <;> omega) | (unfold wrgI hasI; (repeat' (first | with_reducible refine if_n (by omega) ?_ | with_reducible refine if_ns (by omega) ?_ | with_reducible refine if_nz (by omega) ?_ | with_reducible exact if_p (by omega) (by omega) | with_reducible exact if_ps (by omega) (by omega) | with_reducible exact if_pz (by omega) (by omega))) <;> omega), by omega⟩, trivial⟩, hS.F ht⟩) hS.2.2 dB_36_3_40.1.1.1.2
                · have t_58 : ¬ mk3.toInt = a2.toInt := fun h => c_58 (Int32.toInt_inj.mp h)
                  refine lv_bipush (v := (-13)) hx hb dB_36_3_39.1.2.2.2 (by decide) ?_
                  rw [hQ]
                  exact W.iret (v := (-13)) hx hb hr (fun t ht hW => ⟨⟨(-13), (), rfl, ⟨by first | (simp only [f4_c0, f4_c1, f4_c2, f4_c3]; unfold wrgI hasI; (repeat' (first | with_reducible refine if_n (by omega) ?_ | with_reducible refine if_ns (by omega) ?_ | with_reducible refine if_nz (by omega) ?_ | with_reducible exact if_p (by omega) (by omega) | with_reducible exact if_ps (by omega) (by omega) | with_reducible exact if_pz (by omega) (by omega))) <;> omega) | (unfold wrgI hasI; (repeat' (first | with_reducible refine if_n (by omega) ?_ | with_reducible refine if_ns (by omega) ?_ | with_reducible refine if_nz (by omega) ?_ | with_reducible exact if_p (by omega) (by omega) | with_reducible exact if_ps (by omega) (by omega) | with_reducible exact if_pz (by omega) (by omega))) <;> omega), by omega⟩, trivial⟩, hS.F ht⟩) hS.2.2 dB_36_3_39.2.1.1.1
              · exact absurd c_57 (by decide)
            · have e_ := e_.symm
              subst e_
              refine lv_if_ne (tgt := 31) hx hb dB_36_3_38.2.2.1.2 (by decide) (fun c_70 => ?_) (fun c_70 => ?_)
              · exact absurd c_70 (by decide)
              · have _ := c_70
                refine lv_bipush (v := (-11)) hx hb dB_36_3_38.2.2.2.1 (by decide) ?_
                rw [hQ]
                exact W.iret (v := (-11)) hx hb hr (fun t ht hW => ⟨⟨(-11), (), rfl, ⟨by first | (simp only [f4_c0, f4_c1, f4_c2, f4_c3]; unfold wrgI hasI; (repeat' (first | with_reducible refine if_n (by omega) ?_ | with_reducible refine if_ns (by omega) ?_ | with_reducible refine if_nz (by omega) ?_ | with_reducible exact if_p (by omega) (by omega) | with_reducible exact if_ps (by omega) (by omega) | with_reducible exact if_pz (by omega) (by omega))) <;> omega) | (unfold wrgI hasI; (repeat' (first | with_reducible refine if_n (by omega) ?_ | with_reducible refine if_ns (by omega) ?_ | with_reducible refine if_nz (by omega) ?_ | with_reducible exact if_p (by omega) (by omega) | with_reducible exact if_ps (by omega) (by omega) | with_reducible exact if_pz (by omega) (by omega))) <;> omega), by omega⟩, trivial⟩, hS.F ht⟩) hS.2.2 dB_36_3_38.2.2.2.2
        · exact absurd c_6 (by decide)
      · have e_ := e_.symm
        subst e_
        refine lv_if_ne (tgt := 16) hx hb dB_36_3_38.1.2.1.2 (by decide) (fun c_71 => ?_) (fun c_71 => ?_)
        · exact absurd c_71 (by decide)
        · have _ := c_71
          refine lv_iconst (v := (-1)) hx hb dB_36_3_38.1.2.2.1 (by decide) ?_
          rw [hQ]
          exact W.iret (v := (-1)) hx hb hr (fun t ht hW => ⟨⟨(-1), (), rfl, ⟨by first | (simp only [f4_c0, f4_c1, f4_c2, f4_c3]; unfold wrgI hasI; (repeat' (first | with_reducible refine if_n (by omega) ?_ | with_reducible refine if_ns (by omega) ?_ | with_reducible refine if_nz (by omega) ?_ | with_reducible exact if_p (by omega) (by omega) | with_reducible exact if_ps (by omega) (by omega) | with_reducible exact if_pz (by omega) (by omega))) <;> omega) | (unfold wrgI hasI; (repeat' (first | with_reducible refine if_n (by omega) ?_ | with_reducible refine if_ns (by omega) ?_ | with_reducible refine if_nz (by omega) ?_ | with_reducible exact if_p (by omega) (by omega) | with_reducible exact if_ps (by omega) (by omega) | with_reducible exact if_pz (by omega) (by omega))) <;> omega), by omega⟩, trivial⟩, hS.F ht⟩) hS.2.2 dB_36_3_38.1.2.2.2
  · have e_ := e_.symm
    subst e_
    refine lv_if_eq (tgt := 14) hx hb dB_36_3_38.1.1.2.1 (by decide) (fun c_72 => ?_) (fun c_72 => ?_)
    · have _ := c_72
      refine lv_iconst (v := (-1)) hx hb dB_36_3_38.1.2.2.1 (by decide) ?_
      rw [hQ]
      exact W.iret (v := (-1)) hx hb hr (fun t ht hW => ⟨⟨(-1), (), rfl, ⟨by first | (simp only [f4_c0, f4_c1, f4_c2, f4_c3]; unfold wrgI hasI; (repeat' (first | with_reducible refine if_n (by omega) ?_ | with_reducible refine if_ns (by omega) ?_ | with_reducible refine if_nz (by omega) ?_ | with_reducible exact if_p (by omega) (by omega) | with_reducible exact if_ps (by omega) (by omega) | with_reducible exact if_pz (by omega) (by omega))) <;> omega) | (unfold wrgI hasI; (repeat' (first | with_reducible refine if_n (by omega) ?_ | with_reducible refine if_ns (by omega) ?_ | with_reducible refine if_nz (by omega) ?_ | with_reducible exact if_p (by omega) (by omega) | with_reducible exact if_ps (by omega) (by omega) | with_reducible exact if_pz (by omega) (by omega))) <;> omega), by omega⟩, trivial⟩, hS.F ht⟩) hS.2.2 dB_36_3_38.1.2.2.2
    · exact absurd c_72 (by decide)
end

section
set_option maxHeartbeats 4000000 in
set_option maxRecDepth 100000 in
theorem c_X11_map2 (l : Launch) (D : va_G) (cy : Nat → ClassId) (sz : Nat) (xo : Nat) (xk : Nat) (xn : Nat) (xc : Nat) (xh : Nat) (xt : Nat) (xw : Nat) (xm : Nat) (xp : Nat) (pf : Int32) (ph : Int32) (tr : Int64) (fi : Int32) (m0 : Nat) (l0 : Nat) (u0 : Nat) (m1 : Nat) (l1 : Nat) (u1 : Nat) (m2 : Nat) (l2 : Nat) (u2 : Nat) (m3 : Nat) (l3 : Nat) (u3 : Nat) (mk0 : Int32) (mr0 : Int32) (mk1 : Int32) (mr1 : Int32) (mk2 : Int32) (mr2 : Int32) (mk3 : Int32) (mr3 : Int32) (fl0 : Nat → Int32) (fl1 : Nat → Int32) (fl2 : Nat → Int32) (fl3 : Nat → Int32) (a1 : Int32) (a2 : Int32) (a3 : Int32) (hmr0 : mr0.toInt = -9 ∨ (0 ≤ mr0.toInt ∧ mr0.toInt ≤ 6)) (hmr1 : mr1.toInt = -9 ∨ (0 ≤ mr1.toInt ∧ mr1.toInt ≤ 6)) (hmr2 : mr2.toInt = -9 ∨ (0 ≤ mr2.toInt ∧ mr2.toInt ≤ 6)) (hmr3 : mr3.toInt = -9 ∨ (0 ≤ mr3.toInt ∧ mr3.toInt ≤ 6)) (r_fl0 : rng fl0 6 (-9) (5)) (r_fl1 : rng fl1 6 (-9) (5)) (r_fl2 : rng fl2 6 (-9) (5)) (r_fl3 : rng fl3 6 (-9) (5)) : Met l yX11_map wsX11_map ({ frames := 2, cells := 0, slots := 0, locals := 45 }) (va_Pc [.ref xo, .int a1, .int a2, .int a3] (fun U => U.heap.size = sz ∧ va_P D vwCl [ob11_0_ xo xk xn xc xh xt xw xm xp pf ph tr fi, aq_ cy 4 xm 4 (mf_ m0 m1 m2 m3), ob4_0_ m0 mk0 mr0 l0 u0, ob4_0_ m1 mk1 mr1 l1 u1, ob4_0_ m2 mk2 mr2 l2 u2, ob4_0_ m3 mk3 mr3 l3 u3, ai_ cy l0 6 fl0, ai_ cy l1 6 fl1, ai_ cy l2 6 fl2, ai_ cy l3 6 fl3] U.heap ∧ kk_ D cy U ∧ va_D (fun _ => True) [ob11_0_ xo xk xn xc xh xt xw xm xp pf ph tr fi, aq_ cy 4 xm 4 (mf_ m0 m1 m2 m3), ob4_0_ m0 mk0 mr0 l0 u0, ob4_0_ m1 mk1 mr1 l1 u1, ob4_0_ m2 mk2 mr2 l2 u2, ob4_0_ m3 mk3 mr3 l3 u3, ai_ cy l0 6 fl0, ai_ cy l1 6 fl1, ai_ cy l2 6 fl2, ai_ cy l3 6 fl3])) (va_Qi (fun (r : Int32) (_ : Unit) => (r.toInt = if mapRI a1.toInt a2.toInt a3.toInt = 0 then 1 else mapRI a1.toInt a2.toInt a3.toInt)) (fun (_ : Unit) (t : State) => ∃ (efi : Int32), ∃ (emk0 : Int32), ∃ (emk1 : Int32), ∃ (emk2 : Int32), ∃ (emk3 : Int32), ∃ (emr0 : Int32), ∃ (emr1 : Int32), ∃ (emr2 : Int32), ∃ (emr3 : Int32), ∃ (efl0 : Nat → Int32), ∃ (efl1 : Nat → Int32), ∃ (efl2 : Nat → Int32), ∃ (efl3 : Nat → Int32), (emr0.toInt = -9 ∨ (0 ≤ emr0.toInt ∧ emr0.toInt ≤ 6)) ∧ (emr1.toInt = -9 ∨ (0 ≤ emr1.toInt ∧ emr1.toInt ≤ 6)) ∧ (emr2.toInt = -9 ∨ (0 ≤ emr2.toInt ∧ emr2.toInt ≤ 6)) ∧ (emr3.toInt = -9 ∨ (0 ≤ emr3.toInt ∧ emr3.toInt ≤ 6)) ∧ (efi.toInt = mapRI a1.toInt a2.toInt a3.toInt) ∧ ((efi.toInt ≠ 0 → eq4 (f4_ emk0 emk1 emk2 emk3) (f4_ mk0 mk1 mk2 mk3) ∧ eq4 (f4_ emr0 emr1 emr2 emr3) (f4_ mr0 mr1 mr2 mr3) ∧ eq4 (f4_ efl0 efl1 efl2 efl3) (f4_ fl0 fl1 fl2 fl3)) ∧ (efi.toInt = 0 → eq4 (f4_ emk0 emk1 emk2 emk3) (va_up (f4_ mk0 mk1 mk2 mk3) a1.toNatClampNeg a2) ∧ eq4 (f4_ emr0 emr1 emr2 emr3) (va_up (f4_ mr0 mr1 mr2 mr3) a1.toNatClampNeg a3) ∧ ∃ g : Nat → Int32, (∀ j : Nat, j < 6 → g j = (-9)) ∧ eq4 (f4_ efl0 efl1 efl2 efl3) (va_up (f4_ fl0 fl1 fl2 fl3) a1.toNatClampNeg g))) ∧ (rng efl0 6 (-9) (5)) ∧ (rng efl1 6 (-9) (5)) ∧ (rng efl2 6 (-9) (5)) ∧ (rng efl3 6 (-9) (5)) ∧ va_P D vwCl [ob11_0_ xo xk xn xc xh xt xw xm xp pf ph tr efi, aq_ cy 4 xm 4 (mf_ m0 m1 m2 m3), ob4_0_ m0 emk0 emr0 l0 u0, ob4_0_ m1 emk1 emr1 l1 u1, ob4_0_ m2 emk2 emr2 l2 u2, ob4_0_ m3 emk3 emr3 l3 u3, ai_ cy l0 6 efl0, ai_ cy l1 6 efl1, ai_ cy l2 6 efl2, ai_ cy l3 6 efl3] t.heap ∧ va_D (va_A [ob11_0_ xo xk xn xc xh xt xw xm xp pf ph tr fi, aq_ cy 4 xm 4 (mf_ m0 m1 m2 m3), ob4_0_ m0 mk0 mr0 l0 u0, ob4_0_ m1 mk1 mr1 l1 u1, ob4_0_ m2 mk2 mr2 l2 u2, ob4_0_ m3 mk3 mr3 l3 u3, ai_ cy l0 6 fl0, ai_ cy l1 6 fl1, ai_ cy l2 6 fl2, ai_ cy l3 6 fl3] sz) [ob11_0_ xo xk xn xc xh xt xw xm xp pf ph tr efi, aq_ cy 4 xm 4 (mf_ m0 m1 m2 m3), ob4_0_ m0 emk0 emr0 l0 u0, ob4_0_ m1 emk1 emr1 l1 u1, ob4_0_ m2 emk2 emr2 l2 u2, ob4_0_ m3 emk3 emr3 l3 u3, ai_ cy l0 6 efl0, ai_ cy l1 6 efl1, ai_ cy l2 6 efl2, ai_ cy l3 6 efl3]) (va_A [ob11_0_ xo xk xn xc xh xt xw xm xp pf ph tr fi, aq_ cy 4 xm 4 (mf_ m0 m1 m2 m3), ob4_0_ m0 mk0 mr0 l0 u0, ob4_0_ m1 mk1 mr1 l1 u1, ob4_0_ m2 mk2 mr2 l2 u2, ob4_0_ m3 mk3 mr3 l3 u3, ai_ cy l0 6 fl0, ai_ cy l1 6 fl1, ai_ cy l2 6 fl2, ai_ cy l3 6 fl3] sz)) 0 0 (va_A [ob11_0_ xo xk xn xc xh xt xw xm xp pf ph tr fi, aq_ cy 4 xm 4 (mf_ m0 m1 m2 m3), ob4_0_ m0 mk0 mr0 l0 u0, ob4_0_ m1 mk1 mr1 l1 u1, ob4_0_ m2 mk2 mr2 l2 u2, ob4_0_ m3 mk3 mr3 l3 u3, ai_ cy l0 6 fl0, ai_ cy l1 6 fl1, ai_ cy l2 6 fl2, ai_ cy l3 6 fl3] sz) := by
  refine ofQ (cc := cX11_map) (maxL := 4) (ret := (some .int)) (by decide) rfl ?_
  intro p e s m args below meth c s₁ Q hQ B hml hv
  obtain ⟨rfl, hsz, hP, hK, hD0⟩ := hv
  have hx := B.exec
  have hb := B.bytes
  have hr := B.returns
  have hts := atoms_spec (ws := wsX11_map) B.pre
  have hown : s.vm.findClass RX11 = some m.cls := by have h_ := findClass_of_methodNamed B.named; exact h_
  have hlocks := B.notSynchronized
  subst hsz
  have hD := hD0.self (sz := s.heap.size)
  generalize hAe : va_A [ob11_0_ xo xk xn xc xh xt xw xm xp pf ph tr fi, aq_ cy 4 xm 4 (mf_ m0 m1 m2 m3), ob4_0_ m0 mk0 mr0 l0 u0, ob4_0_ m1 mk1 mr1 l1 u1, ob4_0_ m2 mk2 mr2 l2 u2, ob4_0_ m3 mk3 mr3 l3 u3, ai_ cy l0 6 fl0, ai_ cy l1 6 fl1, ai_ cy l2 6 fl2, ai_ cy l3 6 fl3] s.heap.size = A at hD hQ
  have hA : ∀ q : Nat, s.heap.size ≤ q → A q := fun q h => by rw [← hAe]; exact Or.inr h
  have hS : va_S A s.heap s.heap [] := va_S.rf
  have hl := lv_entry ([.ref xo, .int a1, .int a2, .int a3]) (n := 4) (Nat.le_of_ble_eq_true rfl)
  rw [lg_entry_eq]
  generalize (lg_sl ([.ref xo, .int a1, .int a2, .int a3]) ++ List.replicate (4 - (lg_sl ([.ref xo, .int a1, .int a2, .int a3])).length) Slot.unset).toArray = ls at hl ⊢
  have hl : lv_has ls 4 [(0, .ref xo), (1, .int a1), (2, .int a2), (3, .int a3)] := hl
  have zm15 : ((-15) : Int32).toInt = -15 := by decide
  have zm1 : ((-1) : Int32).toInt = -1 := by decide
  have z0 : (0 : Int32).toInt = 0 := by decide
  have z1 : (1 : Int32).toInt = 1 := by decide
  refine lv_aload_n hx hb dB_36_3_30.1.1.1.1 rfl (lv_at hl 0 rfl) ?_
  refine lv_iload_n hx hb dB_36_3_30.1.1.1.2 rfl (lv_at hl 1 rfl) ?_
  refine lv_iload_n hx hb dB_36_3_30.1.1.2.1 rfl (lv_at hl 2 rfl) ?_
  refine lv_iload_n hx hb dB_36_3_30.1.1.2.2 rfl (lv_at hl 3 rfl) ?_
  refine ct_R hP hD [] [] (by decide) rfl (fun hPc hDw => ?_)
  have hFc := va_free (wc := []) hD hS hA [] rfl
  refine va_calli (va_runS (As := [.int a1, .int a2, .int a3]) (rest := [.ref xo]) ⟨hx, hb, hml, hown, hts⟩ (c_X11_mapRefusal l D cy s.heap.size a1 a2 a3) (va_cwS 3 hts gX11_map_X11_mapRefusal rfl rfl rfl hd_X11_mapRefusal ⟨Nat.le_of_ble_eq_true rfl, Nat.le_of_ble_eq_true rfl⟩) ⟨bl_, fun U hU hW => ⟨rfl, by rw [hU], by rw [hU]; exact hPc, kk_mv hW hK, hDw⟩⟩ rfl rfl hl.1 rfl (lv_room (Nat.le_of_ble_eq_true rfl)) dB_36_3_30.1.2.1.1 ⟨Nat.le_of_ble_eq_true rfl, Nat.le_of_ble_eq_true rfl⟩) hS (fun q _ h => hFc q h) hFc (fun r_1 u t H locs ht hvm hw hB hz1 hk1 hS => ?_)
  have hP : va_P D vwCl _ H := ro_keep hP hk1
  rcases hw with ⟨w_2, e_⟩ | ⟨w_2, e_⟩ | ⟨w_2, e_⟩
  · have e_ := e_.symm
    subst e_
    refine va_put (ci := 11) (v := .int (-1)) (ty := .int) (C := RX11) (T := TX11) (N := 12) hx hb hts (fun _ h => List.mem_cons_of_mem _ (List.mem_append_left _ (List.mem_append_right _ h))) tyX11 tyX11_ok nmX11 hown hK.1 hP hD hS 0 rfl rfl 11 (by decide) (hts (.fieldLink RX11 91 "CutAtlas" "finding" "I") (List.mem_of_getElem? (i := 1) rfl)) (fun _ h9 => h9) rfl (by decide +kernel) rfl rfl (Nat.le_of_ble_eq_true rfl) dB_36_3_30.1.2.1.2 (fun H locs hP hD hS => ?_)
    refine pd_K [ob11_0_ xo xk xn xc xh xt xw xm xp pf ph tr (-1), aq_ cy 4 xm 4 (mf_ m0 m1 m2 m3), ob4_0_ m0 mk0 mr0 l0 u0, ob4_0_ m1 mk1 mr1 l1 u1, ob4_0_ m2 mk2 mr2 l2 u2, ob4_0_ m3 mk3 mr3 l3 u3, ai_ cy l0 6 fl0, ai_ cy l1 6 fl1, ai_ cy l2 6 fl2, ai_ cy l3 6 fl3] hP hD (fun hP hD => ?_)
    refine lv_aload_n hx hb dB_36_3_30.1.2.2.1 rfl (lv_at hl 0 rfl) ?_
    refine va_get (ci := 11) (v := .int (-1)) (C := RX11) (T := TX11) (N := 12) hx hb hts (fun _ h => List.mem_cons_of_mem _ (List.mem_append_left _ (List.mem_append_right _ h))) hown hK.1 hP 0 rfl rfl 11 (by decide) (hts (.fieldLink RX11 91 "CutAtlas" "finding" "I") (List.mem_of_getElem? (i := 1) rfl)) (fun _ h9 => h9) rfl dB_36_3_30.1.2.2.2 ?_
    refine lv_if_eq (tgt := 22) hx hb dB_36_3_30.2.1.1.1 (by decide) (fun c_3 => ?_) (fun c_3 => ?_)
    · exact absurd c_3 (by decide)
    · have _ := c_3
      refine lv_aload_n hx hb dB_36_3_30.2.1.1.2 rfl (lv_at hl 0 rfl) ?_
      refine va_get (ci := 11) (v := .int (-1)) (C := RX11) (T := TX11) (N := 12) hx hb hts (fun _ h => List.mem_cons_of_mem _ (List.mem_append_left _ (List.mem_append_right _ h))) hown hK.1 hP 0 rfl rfl 11 (by decide) (hts (.fieldLink RX11 91 "CutAtlas" "finding" "I") (List.mem_of_getElem? (i := 1) rfl)) (fun _ h9 => h9) rfl dB_36_3_30.2.1.2.1 ?_
      rw [hQ]
      exact W.iret (v := (-1)) hx hb hr (fun t ht hW => ⟨⟨(-1), (), rfl, (by unfold mapRI; (repeat' (first | with_reducible refine if_n (by omega) ?_ | with_reducible refine if_ns (by omega) ?_ | with_reducible refine if_nz (by omega) ?_ | with_reducible exact if_p (by omega) (by omega) | with_reducible exact if_ps (by omega) (by omega) | with_reducible exact if_pz (by omega) (by omega))) <;> omega), ((-1) : Int32), mk0, mk1, mk2, mk3, mr0, mr1, mr2, mr3, fl0, fl1, fl2, fl3, (by first | with_reducible assumption | assumption | exact rng_zero (by omega) (by omega) | omega), (by first | with_reducible assumption | assumption | exact rng_zero (by omega) (by omega) | omega), (by first | with_reducible assumption | assumption | exact rng_zero (by omega) (by omega) | omega), (by first | with_reducible assumption | assumption | exact rng_zero (by omega) (by omega) | omega), (by unfold mapRI; (repeat' (first | with_reducible refine if_n (by omega) ?_ | with_reducible refine if_ns (by omega) ?_ | with_reducible refine if_nz (by omega) ?_ | with_reducible exact if_p (by omega) (by omega) | with_reducible exact if_ps (by omega) (by omega) | with_reducible exact if_pz (by omega) (by omega))) <;> omega), (by first | exact ⟨fun _ => ⟨eq4_rf, eq4_rf, eq4_rf⟩, fun h => absurd h (by first | omega | decide)⟩ | exact ⟨fun h => absurd (by first | omega | decide) h, fun _ => ⟨f4_u0, f4_u0, _, hf9_, f4_u0⟩⟩ | exact ⟨fun h => absurd (by first | omega | decide) h, fun _ => ⟨f4_u1, f4_u1, _, hf9_, f4_u1⟩⟩ | exact ⟨fun h => absurd (by first | omega | decide) h, fun _ => ⟨f4_u2, f4_u2, _, hf9_, f4_u2⟩⟩ | exact ⟨fun h => absurd (by first | omega | decide) h, fun _ => ⟨f4_u3, f4_u3, _, hf9_, f4_u3⟩⟩), (by first | with_reducible assumption | assumption | exact rng_zero (by omega) (by omega) | omega), (by first | with_reducible assumption | assumption | exact rng_zero (by omega) (by omega) | omega), (by first | with_reducible assumption | assumption | exact rng_zero (by omega) (by omega) | omega), (by first | with_reducible assumption | assumption | exact rng_zero (by omega) (by omega) | omega), by rw [ht]; exact hP, hD⟩, hS.F ht⟩) hS.2.2 dB_36_3_30.2.1.2.2
  · have e_ := e_.symm
    subst e_
    refine va_put (ci := 11) (v := .int (-15)) (ty := .int) (C := RX11) (T := TX11) (N := 12) hx hb hts (fun _ h => List.mem_cons_of_mem _ (List.mem_append_left _ (List.mem_append_right _ h))) tyX11 tyX11_ok nmX11 hown hK.1 hP hD hS 0 rfl rfl 11 (by decide) (hts (.fieldLink RX11 91 "CutAtlas" "finding" "I") (List.mem_of_getElem? (i := 1) rfl)) (fun _ h9 => h9) rfl (by decide +kernel) rfl rfl (Nat.le_of_ble_eq_true rfl) dB_36_3_30.1.2.1.2 (fun H locs hP hD hS => ?_)
    refine pd_K [ob11_0_ xo xk xn xc xh xt xw xm xp pf ph tr (-15), aq_ cy 4 xm 4 (mf_ m0 m1 m2 m3), ob4_0_ m0 mk0 mr0 l0 u0, ob4_0_ m1 mk1 mr1 l1 u1, ob4_0_ m2 mk2 mr2 l2 u2, ob4_0_ m3 mk3 mr3 l3 u3, ai_ cy l0 6 fl0, ai_ cy l1 6 fl1, ai_ cy l2 6 fl2, ai_ cy l3 6 fl3] hP hD (fun hP hD => ?_)
    refine lv_aload_n hx hb dB_36_3_30.1.2.2.1 rfl (lv_at hl 0 rfl) ?_
    refine va_get (ci := 11) (v := .int (-15)) (C := RX11) (T := TX11) (N := 12) hx hb hts (fun _ h => List.mem_cons_of_mem _ (List.mem_append_left _ (List.mem_append_right _ h))) hown hK.1 hP 0 rfl rfl 11 (by decide) (hts (.fieldLink RX11 91 "CutAtlas" "finding" "I") (List.mem_of_getElem? (i := 1) rfl)) (fun _ h9 => h9) rfl dB_36_3_30.1.2.2.2 ?_
    refine lv_if_eq (tgt := 22) hx hb dB_36_3_30.2.1.1.1 (by decide) (fun c_4 => ?_) (fun c_4 => ?_)
    · exact absurd c_4 (by decide)
    · have _ := c_4
      refine lv_aload_n hx hb dB_36_3_30.2.1.1.2 rfl (lv_at hl 0 rfl) ?_
      refine va_get (ci := 11) (v := .int (-15)) (C := RX11) (T := TX11) (N := 12) hx hb hts (fun _ h => List.mem_cons_of_mem _ (List.mem_append_left _ (List.mem_append_right _ h))) hown hK.1 hP 0 rfl rfl 11 (by decide) (hts (.fieldLink RX11 91 "CutAtlas" "finding" "I") (List.mem_of_getElem? (i := 1) rfl)) (fun _ h9 => h9) rfl dB_36_3_30.2.1.2.1 ?_
      rw [hQ]
      exact W.iret (v := (-15)) hx hb hr (fun t ht hW => ⟨⟨(-15), (), rfl, (by unfold mapRI; (repeat' (first | with_reducible refine if_n (by omega) ?_ | with_reducible refine if_ns (by omega) ?_ | with_reducible refine if_nz (by omega) ?_ | with_reducible exact if_p (by omega) (by omega) | with_reducible exact if_ps (by omega) (by omega) | with_reducible exact if_pz (by omega) (by omega))) <;> omega), ((-15) : Int32), mk0, mk1, mk2, mk3, mr0, mr1, mr2, mr3, fl0, fl1, fl2, fl3, (by first | with_reducible assumption | assumption | exact rng_zero (by omega) (by omega) | omega), (by first | with_reducible assumption | assumption | exact rng_zero (by omega) (by omega) | omega), (by first | with_reducible assumption | assumption | exact rng_zero (by omega) (by omega) | omega), (by first | with_reducible assumption | assumption | exact rng_zero (by omega) (by omega) | omega), (by unfold mapRI; (repeat' (first | with_reducible refine if_n (by omega) ?_ | with_reducible refine if_ns (by omega) ?_ | with_reducible refine if_nz (by omega) ?_ | with_reducible exact if_p (by omega) (by omega) | with_reducible exact if_ps (by omega) (by omega) | with_reducible exact if_pz (by omega) (by omega))) <;> omega), (by first | exact ⟨fun _ => ⟨eq4_rf, eq4_rf, eq4_rf⟩, fun h => absurd h (by first | omega | decide)⟩ | exact ⟨fun h => absurd (by first | omega | decide) h, fun _ => ⟨f4_u0, f4_u0, _, hf9_, f4_u0⟩⟩ | exact ⟨fun h => absurd (by first | omega | decide) h, fun _ => ⟨f4_u1, f4_u1, _, hf9_, f4_u1⟩⟩ | exact ⟨fun h => absurd (by first | omega | decide) h, fun _ => ⟨f4_u2, f4_u2, _, hf9_, f4_u2⟩⟩ | exact ⟨fun h => absurd (by first | omega | decide) h, fun _ => ⟨f4_u3, f4_u3, _, hf9_, f4_u3⟩⟩), (by first | with_reducible assumption | assumption | exact rng_zero (by omega) (by omega) | omega), (by first | with_reducible assumption | assumption | exact rng_zero (by omega) (by omega) | omega), (by first | with_reducible assumption | assumption | exact rng_zero (by omega) (by omega) | omega), (by first | with_reducible assumption | assumption | exact rng_zero (by omega) (by omega) | omega), by rw [ht]; exact hP, hD⟩, hS.F ht⟩) hS.2.2 dB_36_3_30.2.1.2.2
  · have e_ := e_.symm
    subst e_
    refine va_put (ci := 11) (v := .int 0) (ty := .int) (C := RX11) (T := TX11) (N := 12) hx hb hts (fun _ h => List.mem_cons_of_mem _ (List.mem_append_left _ (List.mem_append_right _ h))) tyX11 tyX11_ok nmX11 hown hK.1 hP hD hS 0 rfl rfl 11 (by decide) (hts (.fieldLink RX11 91 "CutAtlas" "finding" "I") (List.mem_of_getElem? (i := 1) rfl)) (fun _ h9 => h9) rfl (by decide +kernel) rfl rfl (Nat.le_of_ble_eq_true rfl) dB_36_3_30.1.2.1.2 (fun H locs hP hD hS => ?_)
    refine pd_K [ob11_0_ xo xk xn xc xh xt xw xm xp pf ph tr 0, aq_ cy 4 xm 4 (mf_ m0 m1 m2 m3), ob4_0_ m0 mk0 mr0 l0 u0, ob4_0_ m1 mk1 mr1 l1 u1, ob4_0_ m2 mk2 mr2 l2 u2, ob4_0_ m3 mk3 mr3 l3 u3, ai_ cy l0 6 fl0, ai_ cy l1 6 fl1, ai_ cy l2 6 fl2, ai_ cy l3 6 fl3] hP hD (fun hP hD => ?_)
    refine lv_aload_n hx hb dB_36_3_30.1.2.2.1 rfl (lv_at hl 0 rfl) ?_
    refine va_get (ci := 11) (v := .int 0) (C := RX11) (T := TX11) (N := 12) hx hb hts (fun _ h => List.mem_cons_of_mem _ (List.mem_append_left _ (List.mem_append_right _ h))) hown hK.1 hP 0 rfl rfl 11 (by decide) (hts (.fieldLink RX11 91 "CutAtlas" "finding" "I") (List.mem_of_getElem? (i := 1) rfl)) (fun _ h9 => h9) rfl dB_36_3_30.1.2.2.2 ?_
    refine lv_if_eq (tgt := 22) hx hb dB_36_3_30.2.1.1.1 (by decide) (fun c_5 => ?_) (fun c_5 => ?_)
    · have _ := c_5
      rcases sp_4 (x := a1) (by omega) with rfl | rfl | rfl | rfl
      · refine lv_aload_n hx hb dB_36_3_30.2.2.1.1 rfl (lv_at hl 0 rfl) ?_
        refine va_get (ci := 11) (v := .ref xm) (C := RX11) (T := TX11) (N := 12) hx hb hts (fun _ h => List.mem_cons_of_mem _ (List.mem_append_left _ (List.mem_append_right _ h))) hown hK.1 hP 0 rfl rfl 6 (by decide) (hts (.fieldLink RX11 72 "CutAtlas" "maps" "[LCutAtlas$NumberMap;") (List.mem_of_getElem? (i := 2) rfl)) (fun _ h9 => h9) rfl dB_36_3_30.2.2.1.2 ?_
        refine lv_iload_n hx hb dB_36_3_30.2.2.2.1 rfl (lv_at hl 1 rfl) ?_
        refine va_aldq hx hb hK.1 hP 1 4 rfl rfl (i := 0) (by unfold vp_in; decide) dB_36_3_30.2.2.2.2 ?_
        refine lv_topv (v' := .ref m0) (by simp [va_up, va_rf, mf_, cl_0, cl_1, cl_2, cl_3, cl_4]) ?_
        refine lv_iload_n hx hb dB_36_3_31.1.1 rfl (lv_at hl 2 rfl) ?_
        refine lv_iload_n hx hb dB_36_3_31.1.2 rfl (lv_at hl 3 rfl) ?_
        refine ct_S hP hD hS hA [ob4_0_ m0 mk0 mr0 l0 u0, ai_ cy l0 6 fl0] [2, 6] (by decide) rfl (fun hPc hDw hFc hC_ => ?_)
        refine va_callv (va_runV (As := [.int a2, .int a3]) (rest := []) ⟨hx, hb, hml, hown, hts⟩ (c_X4_begin2 l D cy H.size m0 l0 u0 mk0 mr0 fl0 a2 a3) (cwV 2 hts gX11_map_X4_begin rfl rfl rfl ⟨rfl, hd_X4_begin⟩ ⟨Nat.le_of_ble_eq_true rfl, Nat.le_of_ble_eq_true rfl⟩) ⟨bl_, va_recvX hK.1 hP (ci := 4) (q0 := 2) rfl rfl, fun U hU hW => ⟨rfl, by rw [hU], by rw [hU]; exact hPc, kk_mv hW hK, hDw⟩⟩ rfl rfl hl.1 rfl (lv_room (Nat.le_of_ble_eq_true rfl)) dB_36_3_31.2.1 ⟨Nat.le_of_ble_eq_true rfl, Nat.le_of_ble_eq_true rfl⟩) hS (fun q _ h => hFc q h) hFc (fun u t H locs ht hvm hw hB hz1 hk1 hS => ?_)
        obtain ⟨efl_7, g_8, g_9, hP1, hD1⟩ := hB
        rw [ht] at hP1
        obtain ⟨hP, hD⟩ := va_join (wr := [ob11_0_ xo xk xn xc xh xt xw xm xp pf ph tr 0, aq_ cy 4 xm 4 (mf_ m0 m1 m2 m3), ob4_0_ m1 mk1 mr1 l1 u1, ob4_0_ m2 mk2 mr2 l2 u2, ob4_0_ m3 mk3 mr3 l3 u3, ai_ cy l1 6 fl1, ai_ cy l2 6 fl2, ai_ cy l3 6 fl3]) (w1 := [ob4_0_ m0 a2 a3 l0 u0, ai_ cy l0 6 efl_7]) hP hD [2, 6] [0, 1, 3, 4, 5, 7, 8, 9] hC_ rfl (by decide) (by decide) hk1 hFc hP1 hD1
        refine pd_S hP hD [ob11_0_ xo xk xn xc xh xt xw xm xp pf ph tr 0, aq_ cy 4 xm 4 (mf_ m0 m1 m2 m3), ob4_0_ m0 a2 a3 l0 u0, ob4_0_ m1 mk1 mr1 l1 u1, ob4_0_ m2 mk2 mr2 l2 u2, ob4_0_ m3 mk3 mr3 l3 u3, ai_ cy l0 6 efl_7, ai_ cy l1 6 fl1, ai_ cy l2 6 fl2, ai_ cy l3 6 fl3] [0, 1, 8, 2, 3, 4, 9, 5, 6, 7] (by decide) rfl (fun hP hD => ?_)
        have hf9_ := g_8
        refine lv_iconst (v := 1) hx hb dB_36_3_31.2.2.1 (by decide) ?_
        rw [hQ]
        exact W.iret (v := 1) hx hb hr (fun t ht hW => ⟨⟨1, (), rfl, (by unfold mapRI; (repeat' (first | with_reducible refine if_n (by omega) ?_ | with_reducible refine if_ns (by omega) ?_ | with_reducible refine if_nz (by omega) ?_ | with_reducible exact if_p (by omega) (by omega) | with_reducible exact if_ps (by omega) (by omega) | with_reducible exact if_pz (by omega) (by omega))) <;> omega), (0 : Int32), a2, mk1, mk2, mk3, a3, mr1, mr2, mr3, efl_7, fl1, fl2, fl3, (by first | with_reducible assumption | assumption | exact rng_zero (by omega) (by omega) | omega), (by first | with_reducible assumption | assumption | exact rng_zero (by omega) (by omega) | omega), (by first | with_reducible assumption | assumption | exact rng_zero (by omega) (by omega) | omega), (by first | with_reducible assumption | assumption | exact rng_zero (by omega) (by omega) | omega), (by unfold mapRI; (repeat' (first | with_reducible refine if_n (by omega) ?_ | with_reducible refine if_ns (by omega) ?_ | with_reducible refine if_nz (by omega) ?_ | with_reducible exact if_p (by omega) (by omega) | with_reducible exact if_ps (by omega) (by omega) | with_reducible exact if_pz (by omega) (by omega))) <;> omega), (by first | exact ⟨fun _ => ⟨eq4_rf, eq4_rf, eq4_rf⟩, fun h => absurd h (by first | omega | decide)⟩ | exact ⟨fun h => absurd (by first | omega | decide) h, fun _ => ⟨f4_u0, f4_u0, _, hf9_, f4_u0⟩⟩ | exact ⟨fun h => absurd (by first | omega | decide) h, fun _ => ⟨f4_u1, f4_u1, _, hf9_, f4_u1⟩⟩ | exact ⟨fun h => absurd (by first | omega | decide) h, fun _ => ⟨f4_u2, f4_u2, _, hf9_, f4_u2⟩⟩ | exact ⟨fun h => absurd (by first | omega | decide) h, fun _ => ⟨f4_u3, f4_u3, _, hf9_, f4_u3⟩⟩), (by first | with_reducible assumption | assumption | exact rng_zero (by omega) (by omega) | omega), (by first | with_reducible assumption | assumption | exact rng_zero (by omega) (by omega) | omega), (by first | with_reducible assumption | assumption | exact rng_zero (by omega) (by omega) | omega), (by first | with_reducible assumption | assumption | exact rng_zero (by omega) (by omega) | omega), by rw [ht]; exact hP, hD⟩, hS.F ht⟩) hS.2.2 dB_36_3_31.2.2.2
      · refine lv_aload_n hx hb dB_36_3_30.2.2.1.1 rfl (lv_at hl 0 rfl) ?_
        refine va_get (ci := 11) (v := .ref xm) (C := RX11) (T := TX11) (N := 12) hx hb hts (fun _ h => List.mem_cons_of_mem _ (List.mem_append_left _ (List.mem_append_right _ h))) hown hK.1 hP 0 rfl rfl 6 (by decide) (hts (.fieldLink RX11 72 "CutAtlas" "maps" "[LCutAtlas$NumberMap;") (List.mem_of_getElem? (i := 2) rfl)) (fun _ h9 => h9) rfl dB_36_3_30.2.2.1.2 ?_
        refine lv_iload_n hx hb dB_36_3_30.2.2.2.1 rfl (lv_at hl 1 rfl) ?_
        refine va_aldq hx hb hK.1 hP 1 4 rfl rfl (i := 1) (by unfold vp_in; decide) dB_36_3_30.2.2.2.2 ?_
        refine lv_topv (v' := .ref m1) (by simp [va_up, va_rf, mf_, cl_0, cl_1, cl_2, cl_3, cl_4]) ?_
        refine lv_iload_n hx hb dB_36_3_31.1.1 rfl (lv_at hl 2 rfl) ?_
        refine lv_iload_n hx hb dB_36_3_31.1.2 rfl (lv_at hl 3 rfl) ?_
        refine ct_S hP hD hS hA [ob4_0_ m1 mk1 mr1 l1 u1, ai_ cy l1 6 fl1] [3, 7] (by decide) rfl (fun hPc hDw hFc hC_ => ?_)
        refine va_callv (va_runV (As := [.int a2, .int a3]) (rest := []) ⟨hx, hb, hml, hown, hts⟩ (c_X4_begin2 l D cy H.size m1 l1 u1 mk1 mr1 fl1 a2 a3) (cwV 2 hts gX11_map_X4_begin rfl rfl rfl ⟨rfl, hd_X4_begin⟩ ⟨Nat.le_of_ble_eq_true rfl, Nat.le_of_ble_eq_true rfl⟩) ⟨bl_, va_recvX hK.1 hP (ci := 4) (q0 := 3) rfl rfl, fun U hU hW => ⟨rfl, by rw [hU], by rw [hU]; exact hPc, kk_mv hW hK, hDw⟩⟩ rfl rfl hl.1 rfl (lv_room (Nat.le_of_ble_eq_true rfl)) dB_36_3_31.2.1 ⟨Nat.le_of_ble_eq_true rfl, Nat.le_of_ble_eq_true rfl⟩) hS (fun q _ h => hFc q h) hFc (fun u t H locs ht hvm hw hB hz1 hk1 hS => ?_)
        obtain ⟨efl_11, g_12, g_13, hP1, hD1⟩ := hB
        rw [ht] at hP1
        obtain ⟨hP, hD⟩ := va_join (wr := [ob11_0_ xo xk xn xc xh xt xw xm xp pf ph tr 0, aq_ cy 4 xm 4 (mf_ m0 m1 m2 m3), ob4_0_ m0 mk0 mr0 l0 u0, ob4_0_ m2 mk2 mr2 l2 u2, ob4_0_ m3 mk3 mr3 l3 u3, ai_ cy l0 6 fl0, ai_ cy l2 6 fl2, ai_ cy l3 6 fl3]) (w1 := [ob4_0_ m1 a2 a3 l1 u1, ai_ cy l1 6 efl_11]) hP hD [3, 7] [0, 1, 2, 4, 5, 6, 8, 9] hC_ rfl (by decide) (by decide) hk1 hFc hP1 hD1
        refine pd_S hP hD [ob11_0_ xo xk xn xc xh xt xw xm xp pf ph tr 0, aq_ cy 4 xm 4 (mf_ m0 m1 m2 m3), ob4_0_ m0 mk0 mr0 l0 u0, ob4_0_ m1 a2 a3 l1 u1, ob4_0_ m2 mk2 mr2 l2 u2, ob4_0_ m3 mk3 mr3 l3 u3, ai_ cy l0 6 fl0, ai_ cy l1 6 efl_11, ai_ cy l2 6 fl2, ai_ cy l3 6 fl3] [0, 1, 2, 8, 3, 4, 5, 9, 6, 7] (by decide) rfl (fun hP hD => ?_)
        have hf9_ := g_12
        refine lv_iconst (v := 1) hx hb dB_36_3_31.2.2.1 (by decide) ?_
        rw [hQ]
        exact W.iret (v := 1) hx hb hr (fun t ht hW => ⟨⟨1, (), rfl, (by unfold mapRI; (repeat' (first | with_reducible refine if_n (by omega) ?_ | with_reducible refine if_ns (by omega) ?_ | with_reducible refine if_nz (by omega) ?_ | with_reducible exact if_p (by omega) (by omega) | with_reducible exact if_ps (by omega) (by omega) | with_reducible exact if_pz (by omega) (by omega))) <;> omega), (0 : Int32), mk0, a2, mk2, mk3, mr0, a3, mr2, mr3, fl0, efl_11, fl2, fl3, (by first | with_reducible assumption | assumption | exact rng_zero (by omega) (by omega) | omega), (by first | with_reducible assumption | assumption | exact rng_zero (by omega) (by omega) | omega), (by first | with_reducible assumption | assumption | exact rng_zero (by omega) (by omega) | omega), (by first | with_reducible assumption | assumption | exact rng_zero (by omega) (by omega) | omega), (by unfold mapRI; (repeat' (first | with_reducible refine if_n (by omega) ?_ | with_reducible refine if_ns (by omega) ?_ | with_reducible refine if_nz (by omega) ?_ | with_reducible exact if_p (by omega) (by omega) | with_reducible exact if_ps (by omega) (by omega) | with_reducible exact if_pz (by omega) (by omega))) <;> omega), (by first | exact ⟨fun _ => ⟨eq4_rf, eq4_rf, eq4_rf⟩, fun h => absurd h (by first | omega | decide)⟩ | exact ⟨fun h => absurd (by first | omega | decide) h, fun _ => ⟨f4_u0, f4_u0, _, hf9_, f4_u0⟩⟩ | exact ⟨fun h => absurd (by first | omega | decide) h, fun _ => ⟨f4_u1, f4_u1, _, hf9_, f4_u1⟩⟩ | exact ⟨fun h => absurd (by first | omega | decide) h, fun _ => ⟨f4_u2, f4_u2, _, hf9_, f4_u2⟩⟩ | exact ⟨fun h => absurd (by first | omega | decide) h, fun _ => ⟨f4_u3, f4_u3, _, hf9_, f4_u3⟩⟩), (by first | with_reducible assumption | assumption | exact rng_zero (by omega) (by omega) | omega), (by first | with_reducible assumption | assumption | exact rng_zero (by omega) (by omega) | omega), (by first | with_reducible assumption | assumption | exact rng_zero (by omega) (by omega) | omega), (by first | with_reducible assumption | assumption | exact rng_zero (by omega) (by omega) | omega), by rw [ht]; exact hP, hD⟩, hS.F ht⟩) hS.2.2 dB_36_3_31.2.2.2
      · refine lv_aload_n hx hb dB_36_3_30.2.2.1.1 rfl (lv_at hl 0 rfl) ?_
        refine va_get (ci := 11) (v := .ref xm) (C := RX11) (T := TX11) (N := 12) hx hb hts (fun _ h => List.mem_cons_of_mem _ (List.mem_append_left _ (List.mem_append_right _ h))) hown hK.1 hP 0 rfl rfl 6 (by decide) (hts (.fieldLink RX11 72 "CutAtlas" "maps" "[LCutAtlas$NumberMap;") (List.mem_of_getElem? (i := 2) rfl)) (fun _ h9 => h9) rfl dB_36_3_30.2.2.1.2 ?_
        refine lv_iload_n hx hb dB_36_3_30.2.2.2.1 rfl (lv_at hl 1 rfl) ?_
        refine va_aldq hx hb hK.1 hP 1 4 rfl rfl (i := 2) (by unfold vp_in; decide) dB_36_3_30.2.2.2.2 ?_
        refine lv_topv (v' := .ref m2) (by simp [va_up, va_rf, mf_, cl_0, cl_1, cl_2, cl_3, cl_4]) ?_
        refine lv_iload_n hx hb dB_36_3_31.1.1 rfl (lv_at hl 2 rfl) ?_
        refine lv_iload_n hx hb dB_36_3_31.1.2 rfl (lv_at hl 3 rfl) ?_
        refine ct_S hP hD hS hA [ob4_0_ m2 mk2 mr2 l2 u2, ai_ cy l2 6 fl2] [4, 8] (by decide) rfl (fun hPc hDw hFc hC_ => ?_)
        refine va_callv (va_runV (As := [.int a2, .int a3]) (rest := []) ⟨hx, hb, hml, hown, hts⟩ (c_X4_begin2 l D cy H.size m2 l2 u2 mk2 mr2 fl2 a2 a3) (cwV 2 hts gX11_map_X4_begin rfl rfl rfl ⟨rfl, hd_X4_begin⟩ ⟨Nat.le_of_ble_eq_true rfl, Nat.le_of_ble_eq_true rfl⟩) ⟨bl_, va_recvX hK.1 hP (ci := 4) (q0 := 4) rfl rfl, fun U hU hW => ⟨rfl, by rw [hU], by rw [hU]; exact hPc, kk_mv hW hK, hDw⟩⟩ rfl rfl hl.1 rfl (lv_room (Nat.le_of_ble_eq_true rfl)) dB_36_3_31.2.1 ⟨Nat.le_of_ble_eq_true rfl, Nat.le_of_ble_eq_true rfl⟩) hS (fun q _ h => hFc q h) hFc (fun u t H locs ht hvm hw hB hz1 hk1 hS => ?_)
        obtain ⟨efl_15, g_16, g_17, hP1, hD1⟩ := hB
        rw [ht] at hP1
        obtain ⟨hP, hD⟩ := va_join (wr := [ob11_0_ xo xk xn xc xh xt xw xm xp pf ph tr 0, aq_ cy 4 xm 4 (mf_ m0 m1 m2 m3), ob4_0_ m0 mk0 mr0 l0 u0, ob4_0_ m1 mk1 mr1 l1 u1, ob4_0_ m3 mk3 mr3 l3 u3, ai_ cy l0 6 fl0, ai_ cy l1 6 fl1, ai_ cy l3 6 fl3]) (w1 := [ob4_0_ m2 a2 a3 l2 u2, ai_ cy l2 6 efl_15]) hP hD [4, 8] [0, 1, 2, 3, 5, 6, 7, 9] hC_ rfl (by decide) (by decide) hk1 hFc hP1 hD1
        refine pd_S hP hD [ob11_0_ xo xk xn xc xh xt xw xm xp pf ph tr 0, aq_ cy 4 xm 4 (mf_ m0 m1 m2 m3), ob4_0_ m0 mk0 mr0 l0 u0, ob4_0_ m1 mk1 mr1 l1 u1, ob4_0_ m2 a2 a3 l2 u2, ob4_0_ m3 mk3 mr3 l3 u3, ai_ cy l0 6 fl0, ai_ cy l1 6 fl1, ai_ cy l2 6 efl_15, ai_ cy l3 6 fl3] [0, 1, 2, 3, 8, 4, 5, 6, 9, 7] (by decide) rfl (fun hP hD => ?_)
        have hf9_ := g_16
        refine lv_iconst (v := 1) hx hb dB_36_3_31.2.2.1 (by decide) ?_
        rw [hQ]
        exact W.iret (v := 1) hx hb hr (fun t ht hW => ⟨⟨1, (), rfl, (by unfold mapRI; (repeat' (first | with_reducible refine if_n (by omega) ?_ | with_reducible refine if_ns (by omega) ?_ | with_reducible refine if_nz (by omega) ?_ | with_reducible exact if_p (by omega) (by omega) | with_reducible exact if_ps (by omega) (by omega) | with_reducible exact if_pz (by omega) (by omega))) <;> omega), (0 : Int32), mk0, mk1, a2, mk3, mr0, mr1, a3, mr3, fl0, fl1, efl_15, fl3, (by first | with_reducible assumption | assumption | exact rng_zero (by omega) (by omega) | omega), (by first | with_reducible assumption | assumption | exact rng_zero (by omega) (by omega) | omega), (by first | with_reducible assumption | assumption | exact rng_zero (by omega) (by omega) | omega), (by first | with_reducible assumption | assumption | exact rng_zero (by omega) (by omega) | omega), (by unfold mapRI; (repeat' (first | with_reducible refine if_n (by omega) ?_ | with_reducible refine if_ns (by omega) ?_ | with_reducible refine if_nz (by omega) ?_ | with_reducible exact if_p (by omega) (by omega) | with_reducible exact if_ps (by omega) (by omega) | with_reducible exact if_pz (by omega) (by omega))) <;> omega), (by first | exact ⟨fun _ => ⟨eq4_rf, eq4_rf, eq4_rf⟩, fun h => absurd h (by first | omega | decide)⟩ | exact ⟨fun h => absurd (by first | omega | decide) h, fun _ => ⟨f4_u0, f4_u0, _, hf9_, f4_u0⟩⟩ | exact ⟨fun h => absurd (by first | omega | decide) h, fun _ => ⟨f4_u1, f4_u1, _, hf9_, f4_u1⟩⟩ | exact ⟨fun h => absurd (by first | omega | decide) h, fun _ => ⟨f4_u2, f4_u2, _, hf9_, f4_u2⟩⟩ | exact ⟨fun h => absurd (by first | omega | decide) h, fun _ => ⟨f4_u3, f4_u3, _, hf9_, f4_u3⟩⟩), (by first | with_reducible assumption | assumption | exact rng_zero (by omega) (by omega) | omega), (by first | with_reducible assumption | assumption | exact rng_zero (by omega) (by omega) | omega), (by first | with_reducible assumption | assumption | exact rng_zero (by omega) (by omega) | omega), (by first | with_reducible assumption | assumption | exact rng_zero (by omega) (by omega) | omega), by rw [ht]; exact hP, hD⟩, hS.F ht⟩) hS.2.2 dB_36_3_31.2.2.2
      · refine lv_aload_n hx hb dB_36_3_30.2.2.1.1 rfl (lv_at hl 0 rfl) ?_
        refine va_get (ci := 11) (v := .ref xm) (C := RX11) (T := TX11) (N := 12) hx hb hts (fun _ h => List.mem_cons_of_mem _ (List.mem_append_left _ (List.mem_append_right _ h))) hown hK.1 hP 0 rfl rfl 6 (by decide) (hts (.fieldLink RX11 72 "CutAtlas" "maps" "[LCutAtlas$NumberMap;") (List.mem_of_getElem? (i := 2) rfl)) (fun _ h9 => h9) rfl dB_36_3_30.2.2.1.2 ?_
        refine lv_iload_n hx hb dB_36_3_30.2.2.2.1 rfl (lv_at hl 1 rfl) ?_
        refine va_aldq hx hb hK.1 hP 1 4 rfl rfl (i := 3) (by unfold vp_in; decide) dB_36_3_30.2.2.2.2 ?_
        refine lv_topv (v' := .ref m3) (by simp [va_up, va_rf, mf_, cl_0, cl_1, cl_2, cl_3, cl_4]) ?_
        refine lv_iload_n hx hb dB_36_3_31.1.1 rfl (lv_at hl 2 rfl) ?_
        refine lv_iload_n hx hb dB_36_3_31.1.2 rfl (lv_at hl 3 rfl) ?_
        refine ct_S hP hD hS hA [ob4_0_ m3 mk3 mr3 l3 u3, ai_ cy l3 6 fl3] [5, 9] (by decide) rfl (fun hPc hDw hFc hC_ => ?_)
        refine va_callv (va_runV (As := [.int a2, .int a3]) (rest := []) ⟨hx, hb, hml, hown, hts⟩ (c_X4_begin2 l D cy H.size m3 l3 u3 mk3 mr3 fl3 a2 a3) (cwV 2 hts gX11_map_X4_begin rfl rfl rfl ⟨rfl, hd_X4_begin⟩ ⟨Nat.le_of_ble_eq_true rfl, Nat.le_of_ble_eq_true rfl⟩) ⟨bl_, va_recvX hK.1 hP (ci := 4) (q0 := 5) rfl rfl, fun U hU hW => ⟨rfl, by rw [hU], by rw [hU]; exact hPc, kk_mv hW hK, hDw⟩⟩ rfl rfl hl.1 rfl (lv_room (Nat.le_of_ble_eq_true rfl)) dB_36_3_31.2.1 ⟨Nat.le_of_ble_eq_true rfl, Nat.le_of_ble_eq_true rfl⟩) hS (fun q _ h => hFc q h) hFc (fun u t H locs ht hvm hw hB hz1 hk1 hS => ?_)
        obtain ⟨efl_19, g_20, g_21, hP1, hD1⟩ := hB
        rw [ht] at hP1
        obtain ⟨hP, hD⟩ := va_join (wr := [ob11_0_ xo xk xn xc xh xt xw xm xp pf ph tr 0, aq_ cy 4 xm 4 (mf_ m0 m1 m2 m3), ob4_0_ m0 mk0 mr0 l0 u0, ob4_0_ m1 mk1 mr1 l1 u1, ob4_0_ m2 mk2 mr2 l2 u2, ai_ cy l0 6 fl0, ai_ cy l1 6 fl1, ai_ cy l2 6 fl2]) (w1 := [ob4_0_ m3 a2 a3 l3 u3, ai_ cy l3 6 efl_19]) hP hD [5, 9] [0, 1, 2, 3, 4, 6, 7, 8] hC_ rfl (by decide) (by decide) hk1 hFc hP1 hD1
        refine pd_S hP hD [ob11_0_ xo xk xn xc xh xt xw xm xp pf ph tr 0, aq_ cy 4 xm 4 (mf_ m0 m1 m2 m3), ob4_0_ m0 mk0 mr0 l0 u0, ob4_0_ m1 mk1 mr1 l1 u1, ob4_0_ m2 mk2 mr2 l2 u2, ob4_0_ m3 a2 a3 l3 u3, ai_ cy l0 6 fl0, ai_ cy l1 6 fl1, ai_ cy l2 6 fl2, ai_ cy l3 6 efl_19] [0, 1, 2, 3, 4, 8, 5, 6, 7, 9] (by decide) rfl (fun hP hD => ?_)
        have hf9_ := g_20
        refine lv_iconst (v := 1) hx hb dB_36_3_31.2.2.1 (by decide) ?_
        rw [hQ]
        exact W.iret (v := 1) hx hb hr (fun t ht hW => ⟨⟨1, (), rfl, (by unfold mapRI; (repeat' (first | with_reducible refine if_n (by omega) ?_ | with_reducible refine if_ns (by omega) ?_ | with_reducible refine if_nz (by omega) ?_ | with_reducible exact if_p (by omega) (by omega) | with_reducible exact if_ps (by omega) (by omega) | with_reducible exact if_pz (by omega) (by omega))) <;> omega), (0 : Int32), mk0, mk1, mk2, a2, mr0, mr1, mr2, a3, fl0, fl1, fl2, efl_19, (by first | with_reducible assumption | assumption | exact rng_zero (by omega) (by omega) | omega), (by first | with_reducible assumption | assumption | exact rng_zero (by omega) (by omega) | omega), (by first | with_reducible assumption | assumption | exact rng_zero (by omega) (by omega) | omega), (by first | with_reducible assumption | assumption | exact rng_zero (by omega) (by omega) | omega), (by unfold mapRI; (repeat' (first | with_reducible refine if_n (by omega) ?_ | with_reducible refine if_ns (by omega) ?_ | with_reducible refine if_nz (by omega) ?_ | with_reducible exact if_p (by omega) (by omega) | with_reducible exact if_ps (by omega) (by omega) | with_reducible exact if_pz (by omega) (by omega))) <;> omega), (by first | exact ⟨fun _ => ⟨eq4_rf, eq4_rf, eq4_rf⟩, fun h => absurd h (by first | omega | decide)⟩ | exact ⟨fun h => absurd (by first | omega | decide) h, fun _ => ⟨f4_u0, f4_u0, _, hf9_, f4_u0⟩⟩ | exact ⟨fun h => absurd (by first | omega | decide) h, fun _ => ⟨f4_u1, f4_u1, _, hf9_, f4_u1⟩⟩ | exact ⟨fun h => absurd (by first | omega | decide) h, fun _ => ⟨f4_u2, f4_u2, _, hf9_, f4_u2⟩⟩ | exact ⟨fun h => absurd (by first | omega | decide) h, fun _ => ⟨f4_u3, f4_u3, _, hf9_, f4_u3⟩⟩), (by first | with_reducible assumption | assumption | exact rng_zero (by omega) (by omega) | omega), (by first | with_reducible assumption | assumption | exact rng_zero (by omega) (by omega) | omega), (by first | with_reducible assumption | assumption | exact rng_zero (by omega) (by omega) | omega), (by first | with_reducible assumption | assumption | exact rng_zero (by omega) (by omega) | omega), by rw [ht]; exact hP, hD⟩, hS.F ht⟩) hS.2.2 dB_36_3_31.2.2.2
    · exact absurd c_5 (by decide)
end

section
set_option maxHeartbeats 4000000 in
set_option maxRecDepth 100000 in
theorem c_X11_row2 (l : Launch) (D : va_G) (cy : Nat → ClassId) (sz : Nat) (xo : Nat) (xk : Nat) (xn : Nat) (xc : Nat) (xh : Nat) (xt : Nat) (xw : Nat) (xm : Nat) (xp : Nat) (pf : Int32) (ph : Int32) (tr : Int64) (fi : Int32) (m0 : Nat) (l0 : Nat) (u0 : Nat) (m1 : Nat) (l1 : Nat) (u1 : Nat) (m2 : Nat) (l2 : Nat) (u2 : Nat) (m3 : Nat) (l3 : Nat) (u3 : Nat) (mk0 : Int32) (mr0 : Int32) (mk1 : Int32) (mr1 : Int32) (mk2 : Int32) (mr2 : Int32) (mk3 : Int32) (mr3 : Int32) (fl0 : Nat → Int32) (fl1 : Nat → Int32) (fl2 : Nat → Int32) (fl3 : Nat → Int32) (fn0 : Nat → Int64) (fn1 : Nat → Int64) (fn2 : Nat → Int64) (fn3 : Nat → Int64) (a1 : Int32) (a2 : Int32) (a3 : Int32) (hmr0 : mr0.toInt = -9 ∨ (0 ≤ mr0.toInt ∧ mr0.toInt ≤ 6)) (hmr1 : mr1.toInt = -9 ∨ (0 ≤ mr1.toInt ∧ mr1.toInt ≤ 6)) (hmr2 : mr2.toInt = -9 ∨ (0 ≤ mr2.toInt ∧ mr2.toInt ≤ 6)) (hmr3 : mr3.toInt = -9 ∨ (0 ≤ mr3.toInt ∧ mr3.toInt ≤ 6)) (r_fl0 : rng fl0 6 (-9) (5)) (r_fl1 : rng fl1 6 (-9) (5)) (r_fl2 : rng fl2 6 (-9) (5)) (r_fl3 : rng fl3 6 (-9) (5)) : Met l yX11_row wsX11_row ({ frames := 2, cells := 0, slots := 0, locals := 44 }) (va_Pc [.ref xo, .int a1, .int a2, .int a3] (fun U => U.heap.size = sz ∧ va_P D vwCl [ob11_0_ xo xk xn xc xh xt xw xm xp pf ph tr fi, aq_ cy 4 xm 4 (mf_ m0 m1 m2 m3), ob4_0_ m0 mk0 mr0 l0 u0, ob4_0_ m1 mk1 mr1 l1 u1, ob4_0_ m2 mk2 mr2 l2 u2, ob4_0_ m3 mk3 mr3 l3 u3, ai_ cy l0 6 fl0, ai_ cy l1 6 fl1, ai_ cy l2 6 fl2, ai_ cy l3 6 fl3, aj_ cy u0 30 fn0, aj_ cy u1 30 fn1, aj_ cy u2 30 fn2, aj_ cy u3 30 fn3] U.heap ∧ kk_ D cy U ∧ va_D (fun _ => True) [ob11_0_ xo xk xn xc xh xt xw xm xp pf ph tr fi, aq_ cy 4 xm 4 (mf_ m0 m1 m2 m3), ob4_0_ m0 mk0 mr0 l0 u0, ob4_0_ m1 mk1 mr1 l1 u1, ob4_0_ m2 mk2 mr2 l2 u2, ob4_0_ m3 mk3 mr3 l3 u3, ai_ cy l0 6 fl0, ai_ cy l1 6 fl1, ai_ cy l2 6 fl2, ai_ cy l3 6 fl3, aj_ cy u0 30 fn0, aj_ cy u1 30 fn1, aj_ cy u2 30 fn2, aj_ cy u3 30 fn3])) (va_Qi (fun (r : Int32) (_ : Unit) => (r.toInt = if rowRI a1.toInt a2.toInt a3.toInt (hasI ((f4_ mr0 mr1 mr2 mr3) a1.toNatClampNeg).toInt) ((f4_ mr0 mr1 mr2 mr3) a1.toNatClampNeg).toInt = 0 then 1 else rowRI a1.toInt a2.toInt a3.toInt (hasI ((f4_ mr0 mr1 mr2 mr3) a1.toNatClampNeg).toInt) ((f4_ mr0 mr1 mr2 mr3) a1.toNatClampNeg).toInt)) (fun (_ : Unit) (t : State) => ∃ (efi : Int32), ∃ (efl0 : Nat → Int32), ∃ (efl1 : Nat → Int32), ∃ (efl2 : Nat → Int32), ∃ (efl3 : Nat → Int32), ∃ (efn0 : Nat → Int64), ∃ (efn1 : Nat → Int64), ∃ (efn2 : Nat → Int64), ∃ (efn3 : Nat → Int64), (efi.toInt = rowRI a1.toInt a2.toInt a3.toInt (hasI ((f4_ mr0 mr1 mr2 mr3) a1.toNatClampNeg).toInt) ((f4_ mr0 mr1 mr2 mr3) a1.toNatClampNeg).toInt) ∧ ((efi.toInt ≠ 0 → eq4 (f4_ efl0 efl1 efl2 efl3) (f4_ fl0 fl1 fl2 fl3) ∧ eq4 (f4_ efn0 efn1 efn2 efn3) (f4_ fn0 fn1 fn2 fn3)) ∧ (efi.toInt = 0 → eq4 (f4_ efl0 efl1 efl2 efl3) (va_up (f4_ fl0 fl1 fl2 fl3) a1.toNatClampNeg (upd ((f4_ fl0 fl1 fl2 fl3) a1.toNatClampNeg) a2.toNatClampNeg a3)) ∧ ∃ g : Nat → Int64, (∀ q : Nat, g q = if 5 * a2.toInt ≤ (q : Int) ∧ (q : Int) < 5 * a2.toInt + 5 then 0 else (f4_ fn0 fn1 fn2 fn3) a1.toNatClampNeg q) ∧ eq4 (f4_ efn0 efn1 efn2 efn3) (va_up (f4_ fn0 fn1 fn2 fn3) a1.toNatClampNeg g))) ∧ (rng efl0 6 (-9) (5)) ∧ (rng efl1 6 (-9) (5)) ∧ (rng efl2 6 (-9) (5)) ∧ (rng efl3 6 (-9) (5)) ∧ va_P D vwCl [ob11_0_ xo xk xn xc xh xt xw xm xp pf ph tr efi, aq_ cy 4 xm 4 (mf_ m0 m1 m2 m3), ob4_0_ m0 mk0 mr0 l0 u0, ob4_0_ m1 mk1 mr1 l1 u1, ob4_0_ m2 mk2 mr2 l2 u2, ob4_0_ m3 mk3 mr3 l3 u3, ai_ cy l0 6 efl0, ai_ cy l1 6 efl1, ai_ cy l2 6 efl2, ai_ cy l3 6 efl3, aj_ cy u0 30 efn0, aj_ cy u1 30 efn1, aj_ cy u2 30 efn2, aj_ cy u3 30 efn3] t.heap ∧ va_D (va_A [ob11_0_ xo xk xn xc xh xt xw xm xp pf ph tr fi, aq_ cy 4 xm 4 (mf_ m0 m1 m2 m3), ob4_0_ m0 mk0 mr0 l0 u0, ob4_0_ m1 mk1 mr1 l1 u1, ob4_0_ m2 mk2 mr2 l2 u2, ob4_0_ m3 mk3 mr3 l3 u3, ai_ cy l0 6 fl0, ai_ cy l1 6 fl1, ai_ cy l2 6 fl2, ai_ cy l3 6 fl3, aj_ cy u0 30 fn0, aj_ cy u1 30 fn1, aj_ cy u2 30 fn2, aj_ cy u3 30 fn3] sz) [ob11_0_ xo xk xn xc xh xt xw xm xp pf ph tr efi, aq_ cy 4 xm 4 (mf_ m0 m1 m2 m3), ob4_0_ m0 mk0 mr0 l0 u0, ob4_0_ m1 mk1 mr1 l1 u1, ob4_0_ m2 mk2 mr2 l2 u2, ob4_0_ m3 mk3 mr3 l3 u3, ai_ cy l0 6 efl0, ai_ cy l1 6 efl1, ai_ cy l2 6 efl2, ai_ cy l3 6 efl3, aj_ cy u0 30 efn0, aj_ cy u1 30 efn1, aj_ cy u2 30 efn2, aj_ cy u3 30 efn3]) (va_A [ob11_0_ xo xk xn xc xh xt xw xm xp pf ph tr fi, aq_ cy 4 xm 4 (mf_ m0 m1 m2 m3), ob4_0_ m0 mk0 mr0 l0 u0, ob4_0_ m1 mk1 mr1 l1 u1, ob4_0_ m2 mk2 mr2 l2 u2, ob4_0_ m3 mk3 mr3 l3 u3, ai_ cy l0 6 fl0, ai_ cy l1 6 fl1, ai_ cy l2 6 fl2, ai_ cy l3 6 fl3, aj_ cy u0 30 fn0, aj_ cy u1 30 fn1, aj_ cy u2 30 fn2, aj_ cy u3 30 fn3] sz)) 0 0 (va_A [ob11_0_ xo xk xn xc xh xt xw xm xp pf ph tr fi, aq_ cy 4 xm 4 (mf_ m0 m1 m2 m3), ob4_0_ m0 mk0 mr0 l0 u0, ob4_0_ m1 mk1 mr1 l1 u1, ob4_0_ m2 mk2 mr2 l2 u2, ob4_0_ m3 mk3 mr3 l3 u3, ai_ cy l0 6 fl0, ai_ cy l1 6 fl1, ai_ cy l2 6 fl2, ai_ cy l3 6 fl3, aj_ cy u0 30 fn0, aj_ cy u1 30 fn1, aj_ cy u2 30 fn2, aj_ cy u3 30 fn3] sz) := by
  refine ofQ (cc := cX11_row) (maxL := 4) (ret := (some .int)) (by decide) rfl ?_
  intro p e s m args below meth c s₁ Q hQ B hml hv
  obtain ⟨rfl, hsz, hP, hK, hD0⟩ := hv
  have hx := B.exec
  have hb := B.bytes
  have hr := B.returns
  have hts := atoms_spec (ws := wsX11_row) B.pre
  have hown : s.vm.findClass RX11 = some m.cls := by have h_ := findClass_of_methodNamed B.named; exact h_
  have hlocks := B.notSynchronized
  subst hsz
  have hD := hD0.self (sz := s.heap.size)
  generalize hAe : va_A [ob11_0_ xo xk xn xc xh xt xw xm xp pf ph tr fi, aq_ cy 4 xm 4 (mf_ m0 m1 m2 m3), ob4_0_ m0 mk0 mr0 l0 u0, ob4_0_ m1 mk1 mr1 l1 u1, ob4_0_ m2 mk2 mr2 l2 u2, ob4_0_ m3 mk3 mr3 l3 u3, ai_ cy l0 6 fl0, ai_ cy l1 6 fl1, ai_ cy l2 6 fl2, ai_ cy l3 6 fl3, aj_ cy u0 30 fn0, aj_ cy u1 30 fn1, aj_ cy u2 30 fn2, aj_ cy u3 30 fn3] s.heap.size = A at hD hQ
  have hA : ∀ q : Nat, s.heap.size ≤ q → A q := fun q h => by rw [← hAe]; exact Or.inr h
  have hS : va_S A s.heap s.heap [] := va_S.rf
  have hl := lv_entry ([.ref xo, .int a1, .int a2, .int a3]) (n := 4) (Nat.le_of_ble_eq_true rfl)
  rw [lg_entry_eq]
  generalize (lg_sl ([.ref xo, .int a1, .int a2, .int a3]) ++ List.replicate (4 - (lg_sl ([.ref xo, .int a1, .int a2, .int a3])).length) Slot.unset).toArray = ls at hl ⊢
  have hl : lv_has ls 4 [(0, .ref xo), (1, .int a1), (2, .int a2), (3, .int a3)] := hl
  have z0 : (0 : Int32).toInt = 0 := by decide
  have z1 : (1 : Int32).toInt = 1 := by decide
  refine lv_aload_n hx hb dB_36_3_57.1.1.1.1 rfl (lv_at hl 0 rfl) ?_
  refine lv_aload_n hx hb dB_36_3_57.1.1.1.2 rfl (lv_at hl 0 rfl) ?_
  refine lv_iload_n hx hb dB_36_3_57.1.1.2.1 rfl (lv_at hl 1 rfl) ?_
  refine lv_iload_n hx hb dB_36_3_57.1.1.2.2 rfl (lv_at hl 2 rfl) ?_
  refine lv_iload_n hx hb dB_36_3_57.1.2.1.1 rfl (lv_at hl 3 rfl) ?_
  refine ct_R hP hD [ob11_0_ xo xk xn xc xh xt xw xm xp pf ph tr fi, aq_ cy 4 xm 4 (mf_ m0 m1 m2 m3), ob4_0_ m0 mk0 mr0 l0 u0, ob4_0_ m1 mk1 mr1 l1 u1, ob4_0_ m2 mk2 mr2 l2 u2, ob4_0_ m3 mk3 mr3 l3 u3] [0, 1, 2, 3, 4, 5] (by decide) rfl (fun hPc hDw => ?_)
  have hFc := va_free (wc := []) hD hS hA [] rfl
  refine va_calli (va_runV (As := [.int a1, .int a2, .int a3]) (rest := [.ref xo]) ⟨hx, hb, hml, hown, hts⟩ (c_X11_rowRefusal2 l D cy s.heap.size xo xk xn xc xh xt xw xm xp pf ph tr fi m0 l0 u0 m1 l1 u1 m2 l2 u2 m3 l3 u3 mk0 mr0 mk1 mr1 mk2 mr2 mk3 mr3 a1 a2 a3 (by first | with_reducible assumption | assumption | omega) (by first | with_reducible assumption | assumption | omega) (by first | with_reducible assumption | assumption | omega) (by first | with_reducible assumption | assumption | omega)) (cwV 3 hts gX11_row_X11_rowRefusal rfl rfl rfl ⟨rfl, hd_X11_rowRefusal⟩ ⟨Nat.le_of_ble_eq_true rfl, Nat.le_of_ble_eq_true rfl⟩) ⟨bl_, va_recvX hK.1 hP (ci := 11) (q0 := 0) rfl rfl, fun U hU hW => ⟨rfl, by rw [hU], by rw [hU]; exact hPc, kk_mv hW hK, hDw⟩⟩ rfl rfl hl.1 rfl (lv_room (Nat.le_of_ble_eq_true rfl)) dB_36_3_57.1.2.1.2 ⟨Nat.le_of_ble_eq_true rfl, Nat.le_of_ble_eq_true rfl⟩) hS (fun q _ h => hFc q h) hFc (fun r_1 u t H locs ht hvm hw hB hz1 hk1 hS => ?_)
  have hP : va_P D vwCl _ H := ro_keep hP hk1
  obtain ⟨f0_r_1, f1_r_1⟩ := hw
  refine va_put (ci := 11) (v := .int r_1) (ty := .int) (C := RX11) (T := TX11) (N := 12) hx hb hts (fun _ h => List.mem_cons_of_mem _ (List.mem_append_left _ (List.mem_append_right _ h))) tyX11 tyX11_ok nmX11 hown hK.1 hP hD hS 0 rfl rfl 11 (by decide) (hts (.fieldLink RX11 91 "CutAtlas" "finding" "I") (List.mem_of_getElem? (i := 1) rfl)) (fun _ h9 => h9) rfl (by decide +kernel) rfl rfl (Nat.le_of_ble_eq_true rfl) dB_36_3_57.1.2.2.1 (fun H locs hP hD hS => ?_)
  refine pd_K [ob11_0_ xo xk xn xc xh xt xw xm xp pf ph tr r_1, aq_ cy 4 xm 4 (mf_ m0 m1 m2 m3), ob4_0_ m0 mk0 mr0 l0 u0, ob4_0_ m1 mk1 mr1 l1 u1, ob4_0_ m2 mk2 mr2 l2 u2, ob4_0_ m3 mk3 mr3 l3 u3, ai_ cy l0 6 fl0, ai_ cy l1 6 fl1, ai_ cy l2 6 fl2, ai_ cy l3 6 fl3, aj_ cy u0 30 fn0, aj_ cy u1 30 fn1, aj_ cy u2 30 fn2, aj_ cy u3 30 fn3] hP hD (fun hP hD => ?_)
  refine lv_aload_n hx hb dB_36_3_57.1.2.2.2 rfl (lv_at hl 0 rfl) ?_
  refine va_get (ci := 11) (v := .int r_1) (C := RX11) (T := TX11) (N := 12) hx hb hts (fun _ h => List.mem_cons_of_mem _ (List.mem_append_left _ (List.mem_append_right _ h))) hown hK.1 hP 0 rfl rfl 11 (by decide) (hts (.fieldLink RX11 91 "CutAtlas" "finding" "I") (List.mem_of_getElem? (i := 1) rfl)) (fun _ h9 => h9) rfl dB_36_3_57.2.1.1.1 ?_
  refine lv_if_eq (tgt := 23) hx hb dB_36_3_57.2.1.1.2 (by decide) (fun c_2 => ?_) (fun c_2 => ?_)
  · have t_2 : r_1.toInt = (0 : Int32).toInt := congrArg Int32.toInt c_2
    rcases sp_4 (x := a1) (by omega) with rfl | rfl | rfl | rfl
    · refine lv_aload_n hx hb dB_36_3_57.2.2.1.2 rfl (lv_at hl 0 rfl) ?_
      refine va_get (ci := 11) (v := .ref xm) (C := RX11) (T := TX11) (N := 12) hx hb hts (fun _ h => List.mem_cons_of_mem _ (List.mem_append_left _ (List.mem_append_right _ h))) hown hK.1 hP 0 rfl rfl 6 (by decide) (hts (.fieldLink RX11 72 "CutAtlas" "maps" "[LCutAtlas$NumberMap;") (List.mem_of_getElem? (i := 2) rfl)) (fun _ h9 => h9) rfl dB_36_3_57.2.2.2.1 ?_
      refine lv_iload_n hx hb dB_36_3_57.2.2.2.2 rfl (lv_at hl 1 rfl) ?_
      refine va_aldq hx hb hK.1 hP 1 4 rfl rfl (i := 0) (by unfold vp_in; decide) dB_36_3_58.1.1 ?_
      refine lv_topv (v' := .ref m0) (by simp [va_up, va_rf, mf_, cl_0, cl_1, cl_2, cl_3, cl_4]) ?_
      refine lv_iload_n hx hb dB_36_3_58.1.2.1 rfl (lv_at hl 2 rfl) ?_
      refine lv_iload_n hx hb dB_36_3_58.1.2.2 rfl (lv_at hl 3 rfl) ?_
      refine ct_S hP hD hS hA [ob4_0_ m0 mk0 mr0 l0 u0, ai_ cy l0 6 fl0, aj_ cy u0 30 fn0] [2, 6, 10] (by decide) rfl (fun hPc hDw hFc hC_ => ?_)
      refine va_callv (va_runV (As := [.int a2, .int a3]) (rest := []) ⟨hx, hb, hml, hown, hts⟩ (c_X4_beginRow2 l D cy H.size m0 l0 u0 mk0 mr0 fl0 fn0 a2 a3 (by first | with_reducible assumption | omega | assumption) (by first | with_reducible assumption | omega | assumption) (by first | with_reducible assumption | assumption | omega)) (cwV 2 hts gX11_row_X4_beginRow rfl rfl rfl ⟨rfl, hd_X4_beginRow⟩ ⟨Nat.le_of_ble_eq_true rfl, Nat.le_of_ble_eq_true rfl⟩) ⟨bl_, va_recvX hK.1 hP (ci := 4) (q0 := 2) rfl rfl, fun U hU hW => ⟨rfl, by rw [hU], by rw [hU]; exact hPc, kk_mv hW hK, hDw⟩⟩ rfl rfl hl.1 rfl (lv_room (Nat.le_of_ble_eq_true rfl)) dB_36_3_58.2.1 ⟨Nat.le_of_ble_eq_true rfl, Nat.le_of_ble_eq_true rfl⟩) hS (fun q _ h => hFc q h) hFc (fun u t H locs ht hvm hw hB hz1 hk1 hS => ?_)
      obtain ⟨efl_4, efn_5, g_6, g_7, g_8, hP1, hD1⟩ := hB
      rw [ht] at hP1
      obtain ⟨hP, hD⟩ := va_join (wr := [ob11_0_ xo xk xn xc xh xt xw xm xp pf ph tr r_1, aq_ cy 4 xm 4 (mf_ m0 m1 m2 m3), ob4_0_ m1 mk1 mr1 l1 u1, ob4_0_ m2 mk2 mr2 l2 u2, ob4_0_ m3 mk3 mr3 l3 u3, ai_ cy l1 6 fl1, ai_ cy l2 6 fl2, ai_ cy l3 6 fl3, aj_ cy u1 30 fn1, aj_ cy u2 30 fn2, aj_ cy u3 30 fn3]) (w1 := [ob4_0_ m0 mk0 mr0 l0 u0, ai_ cy l0 6 efl_4, aj_ cy u0 30 efn_5]) hP hD [2, 6, 10] [0, 1, 3, 4, 5, 7, 8, 9, 11, 12, 13] hC_ rfl (by decide +kernel) (by decide +kernel) hk1 hFc hP1 hD1
      refine pd_S hP hD [ob11_0_ xo xk xn xc xh xt xw xm xp pf ph tr r_1, aq_ cy 4 xm 4 (mf_ m0 m1 m2 m3), ob4_0_ m0 mk0 mr0 l0 u0, ob4_0_ m1 mk1 mr1 l1 u1, ob4_0_ m2 mk2 mr2 l2 u2, ob4_0_ m3 mk3 mr3 l3 u3, ai_ cy l0 6 efl_4, ai_ cy l1 6 fl1, ai_ cy l2 6 fl2, ai_ cy l3 6 fl3, aj_ cy u0 30 efn_5, aj_ cy u1 30 fn1, aj_ cy u2 30 fn2, aj_ cy u3 30 fn3] [0, 1, 11, 2, 3, 4, 12, 5, 6, 7, 13, 8, 9, 10] (by decide +kernel) rfl (fun hP hD => ?_)
      have hq1_ := g_6
      have hq2_ := g_7
      refine lv_iconst (v := 1) hx hb dB_36_3_58.2.2.1 (by decide) ?_
      rw [hQ]
      exact W.iret (v := 1) hx hb hr (fun t ht hW => ⟨⟨1, (), rfl, (by first | (rw [if_neg (by omega)]; omega) | (rw [if_pos (by omega)]; decide)), r_1, efl_4, fl1, fl2, fl3, efn_5, fn1, fn2, fn3, (by assumption), (by first | exact ⟨fun _ => ⟨eq4_rf, eq4_rf⟩, fun h => absurd h (by first | omega | decide)⟩ | exact ⟨fun h => absurd (by first | omega | decide) h, fun _ => ⟨by rw [f4_c0, ← hq1_]; exact f4_u0, efn_5, fun q => by rw [f4_c0]; exact hq2_ q, f4_u0⟩⟩ | exact ⟨fun h => absurd (by first | omega | decide) h, fun _ => ⟨by rw [f4_c1, ← hq1_]; exact f4_u1, fn1, fun q => by rw [f4_c1]; exact hq2_ q, f4_u1⟩⟩ | exact ⟨fun h => absurd (by first | omega | decide) h, fun _ => ⟨by rw [f4_c2, ← hq1_]; exact f4_u2, fn2, fun q => by rw [f4_c2]; exact hq2_ q, f4_u2⟩⟩ | exact ⟨fun h => absurd (by first | omega | decide) h, fun _ => ⟨by rw [f4_c3, ← hq1_]; exact f4_u3, fn3, fun q => by rw [f4_c3]; exact hq2_ q, f4_u3⟩⟩), (by first | with_reducible assumption | assumption | exact rng_zero (by omega) (by omega) | omega), (by first | with_reducible assumption | assumption | exact rng_zero (by omega) (by omega) | omega), (by first | with_reducible assumption | assumption | exact rng_zero (by omega) (by omega) | omega), (by first | with_reducible assumption | assumption | exact rng_zero (by omega) (by omega) | omega), by rw [ht]; exact hP, hD⟩, hS.F ht⟩) hS.2.2 dB_36_3_58.2.2.2
    · refine lv_aload_n hx hb dB_36_3_57.2.2.1.2 rfl (lv_at hl 0 rfl) ?_
      refine va_get (ci := 11) (v := .ref xm) (C := RX11) (T := TX11) (N := 12) hx hb hts (fun _ h => List.mem_cons_of_mem _ (List.mem_append_left _ (List.mem_append_right _ h))) hown hK.1 hP 0 rfl rfl 6 (by decide) (hts (.fieldLink RX11 72 "CutAtlas" "maps" "[LCutAtlas$NumberMap;") (List.mem_of_getElem? (i := 2) rfl)) (fun _ h9 => h9) rfl dB_36_3_57.2.2.2.1 ?_
      refine lv_iload_n hx hb dB_36_3_57.2.2.2.2 rfl (lv_at hl 1 rfl) ?_
      refine va_aldq hx hb hK.1 hP 1 4 rfl rfl (i := 1) (by unfold vp_in; decide) dB_36_3_58.1.1 ?_
      refine lv_topv (v' := .ref m1) (by simp [va_up, va_rf, mf_, cl_0, cl_1, cl_2, cl_3, cl_4]) ?_
      refine lv_iload_n hx hb dB_36_3_58.1.2.1 rfl (lv_at hl 2 rfl) ?_
      refine lv_iload_n hx hb dB_36_3_58.1.2.2 rfl (lv_at hl 3 rfl) ?_
      refine ct_S hP hD hS hA [ob4_0_ m1 mk1 mr1 l1 u1, ai_ cy l1 6 fl1, aj_ cy u1 30 fn1] [3, 7, 11] (by decide) rfl (fun hPc hDw hFc hC_ => ?_)
      refine va_callv (va_runV (As := [.int a2, .int a3]) (rest := []) ⟨hx, hb, hml, hown, hts⟩ (c_X4_beginRow2 l D cy H.size m1 l1 u1 mk1 mr1 fl1 fn1 a2 a3 (by first | with_reducible assumption | omega | assumption) (by first | with_reducible assumption | omega | assumption) (by first | with_reducible assumption | assumption | omega)) (cwV 2 hts gX11_row_X4_beginRow rfl rfl rfl ⟨rfl, hd_X4_beginRow⟩ ⟨Nat.le_of_ble_eq_true rfl, Nat.le_of_ble_eq_true rfl⟩) ⟨bl_, va_recvX hK.1 hP (ci := 4) (q0 := 3) rfl rfl, fun U hU hW => ⟨rfl, by rw [hU], by rw [hU]; exact hPc, kk_mv hW hK, hDw⟩⟩ rfl rfl hl.1 rfl (lv_room (Nat.le_of_ble_eq_true rfl)) dB_36_3_58.2.1 ⟨Nat.le_of_ble_eq_true rfl, Nat.le_of_ble_eq_true rfl⟩) hS (fun q _ h => hFc q h) hFc (fun u t H locs ht hvm hw hB hz1 hk1 hS => ?_)
      obtain ⟨efl_10, efn_11, g_12, g_13, g_14, hP1, hD1⟩ := hB
      rw [ht] at hP1
      obtain ⟨hP, hD⟩ := va_join (wr := [ob11_0_ xo xk xn xc xh xt xw xm xp pf ph tr r_1, aq_ cy 4 xm 4 (mf_ m0 m1 m2 m3), ob4_0_ m0 mk0 mr0 l0 u0, ob4_0_ m2 mk2 mr2 l2 u2, ob4_0_ m3 mk3 mr3 l3 u3, ai_ cy l0 6 fl0, ai_ cy l2 6 fl2, ai_ cy l3 6 fl3, aj_ cy u0 30 fn0, aj_ cy u2 30 fn2, aj_ cy u3 30 fn3]) (w1 := [ob4_0_ m1 mk1 mr1 l1 u1, ai_ cy l1 6 efl_10, aj_ cy u1 30 efn_11]) hP hD [3, 7, 11] [0, 1, 2, 4, 5, 6, 8, 9, 10, 12, 13] hC_ rfl (by decide +kernel) (by decide +kernel) hk1 hFc hP1 hD1
      refine pd_S hP hD [ob11_0_ xo xk xn xc xh xt xw xm xp pf ph tr r_1, aq_ cy 4 xm 4 (mf_ m0 m1 m2 m3), ob4_0_ m0 mk0 mr0 l0 u0, ob4_0_ m1 mk1 mr1 l1 u1, ob4_0_ m2 mk2 mr2 l2 u2, ob4_0_ m3 mk3 mr3 l3 u3, ai_ cy l0 6 fl0, ai_ cy l1 6 efl_10, ai_ cy l2 6 fl2, ai_ cy l3 6 fl3, aj_ cy u0 30 fn0, aj_ cy u1 30 efn_11, aj_ cy u2 30 fn2, aj_ cy u3 30 fn3] [0, 1, 2, 11, 3, 4, 5, 12, 6, 7, 8, 13, 9, 10] (by decide +kernel) rfl (fun hP hD => ?_)
      have hq1_ := g_12
      have hq2_ := g_13
      refine lv_iconst (v := 1) hx hb dB_36_3_58.2.2.1 (by decide) ?_
      rw [hQ]
      exact W.iret (v := 1) hx hb hr (fun t ht hW => ⟨⟨1, (), rfl, (by first | (rw [if_neg (by omega)]; omega) | (rw [if_pos (by omega)]; decide)), r_1, fl0, efl_10, fl2, fl3, fn0, efn_11, fn2, fn3, (by assumption), (by first | exact ⟨fun _ => ⟨eq4_rf, eq4_rf⟩, fun h => absurd h (by first | omega | decide)⟩ | exact ⟨fun h => absurd (by first | omega | decide) h, fun _ => ⟨by rw [f4_c0, ← hq1_]; exact f4_u0, fn0, fun q => by rw [f4_c0]; exact hq2_ q, f4_u0⟩⟩ | exact ⟨fun h => absurd (by first | omega | decide) h, fun _ => ⟨by rw [f4_c1, ← hq1_]; exact f4_u1, efn_11, fun q => by rw [f4_c1]; exact hq2_ q, f4_u1⟩⟩ | exact ⟨fun h => absurd (by first | omega | decide) h, fun _ => ⟨by rw [f4_c2, ← hq1_]; exact f4_u2, fn2, fun q => by rw [f4_c2]; exact hq2_ q, f4_u2⟩⟩ | exact ⟨fun h => absurd (by first | omega | decide) h, fun _ => ⟨by rw [f4_c3, ← hq1_]; exact f4_u3, fn3, fun q => by rw [f4_c3]; exact hq2_ q, f4_u3⟩⟩), (by first | with_reducible assumption | assumption | exact rng_zero (by omega) (by omega) | omega), (by first | with_reducible assumption | assumption | exact rng_zero (by omega) (by omega) | omega), (by first | with_reducible assumption | assumption | exact rng_zero (by omega) (by omega) | omega), (by first | with_reducible assumption | assumption | exact rng_zero (by omega) (by omega) | omega), by rw [ht]; exact hP, hD⟩, hS.F ht⟩) hS.2.2 dB_36_3_58.2.2.2
    · refine lv_aload_n hx hb dB_36_3_57.2.2.1.2 rfl (lv_at hl 0 rfl) ?_
      refine va_get (ci := 11) (v := .ref xm) (C := RX11) (T := TX11) (N := 12) hx hb hts (fun _ h => List.mem_cons_of_mem _ (List.mem_append_left _ (List.mem_append_right _ h))) hown hK.1 hP 0 rfl rfl 6 (by decide) (hts (.fieldLink RX11 72 "CutAtlas" "maps" "[LCutAtlas$NumberMap;") (List.mem_of_getElem? (i := 2) rfl)) (fun _ h9 => h9) rfl dB_36_3_57.2.2.2.1 ?_
      refine lv_iload_n hx hb dB_36_3_57.2.2.2.2 rfl (lv_at hl 1 rfl) ?_
      refine va_aldq hx hb hK.1 hP 1 4 rfl rfl (i := 2) (by unfold vp_in; decide) dB_36_3_58.1.1 ?_
      refine lv_topv (v' := .ref m2) (by simp [va_up, va_rf, mf_, cl_0, cl_1, cl_2, cl_3, cl_4]) ?_
      refine lv_iload_n hx hb dB_36_3_58.1.2.1 rfl (lv_at hl 2 rfl) ?_
      refine lv_iload_n hx hb dB_36_3_58.1.2.2 rfl (lv_at hl 3 rfl) ?_
      refine ct_S hP hD hS hA [ob4_0_ m2 mk2 mr2 l2 u2, ai_ cy l2 6 fl2, aj_ cy u2 30 fn2] [4, 8, 12] (by decide) rfl (fun hPc hDw hFc hC_ => ?_)
      refine va_callv (va_runV (As := [.int a2, .int a3]) (rest := []) ⟨hx, hb, hml, hown, hts⟩ (c_X4_beginRow2 l D cy H.size m2 l2 u2 mk2 mr2 fl2 fn2 a2 a3 (by first | with_reducible assumption | omega | assumption) (by first | with_reducible assumption | omega | assumption) (by first | with_reducible assumption | assumption | omega)) (cwV 2 hts gX11_row_X4_beginRow rfl rfl rfl ⟨rfl, hd_X4_beginRow⟩ ⟨Nat.le_of_ble_eq_true rfl, Nat.le_of_ble_eq_true rfl⟩) ⟨bl_, va_recvX hK.1 hP (ci := 4) (q0 := 4) rfl rfl, fun U hU hW => ⟨rfl, by rw [hU], by rw [hU]; exact hPc, kk_mv hW hK, hDw⟩⟩ rfl rfl hl.1 rfl (lv_room (Nat.le_of_ble_eq_true rfl)) dB_36_3_58.2.1 ⟨Nat.le_of_ble_eq_true rfl, Nat.le_of_ble_eq_true rfl⟩) hS (fun q _ h => hFc q h) hFc (fun u t H locs ht hvm hw hB hz1 hk1 hS => ?_)
      obtain ⟨efl_16, efn_17, g_18, g_19, g_20, hP1, hD1⟩ := hB
      rw [ht] at hP1
      obtain ⟨hP, hD⟩ := va_join (wr := [ob11_0_ xo xk xn xc xh xt xw xm xp pf ph tr r_1, aq_ cy 4 xm 4 (mf_ m0 m1 m2 m3), ob4_0_ m0 mk0 mr0 l0 u0, ob4_0_ m1 mk1 mr1 l1 u1, ob4_0_ m3 mk3 mr3 l3 u3, ai_ cy l0 6 fl0, ai_ cy l1 6 fl1, ai_ cy l3 6 fl3, aj_ cy u0 30 fn0, aj_ cy u1 30 fn1, aj_ cy u3 30 fn3]) (w1 := [ob4_0_ m2 mk2 mr2 l2 u2, ai_ cy l2 6 efl_16, aj_ cy u2 30 efn_17]) hP hD [4, 8, 12] [0, 1, 2, 3, 5, 6, 7, 9, 10, 11, 13] hC_ rfl (by decide +kernel) (by decide +kernel) hk1 hFc hP1 hD1
      refine pd_S hP hD [ob11_0_ xo xk xn xc xh xt xw xm xp pf ph tr r_1, aq_ cy 4 xm 4 (mf_ m0 m1 m2 m3), ob4_0_ m0 mk0 mr0 l0 u0, ob4_0_ m1 mk1 mr1 l1 u1, ob4_0_ m2 mk2 mr2 l2 u2, ob4_0_ m3 mk3 mr3 l3 u3, ai_ cy l0 6 fl0, ai_ cy l1 6 fl1, ai_ cy l2 6 efl_16, ai_ cy l3 6 fl3, aj_ cy u0 30 fn0, aj_ cy u1 30 fn1, aj_ cy u2 30 efn_17, aj_ cy u3 30 fn3] [0, 1, 2, 3, 11, 4, 5, 6, 12, 7, 8, 9, 13, 10] (by decide +kernel) rfl (fun hP hD => ?_)
      have hq1_ := g_18
      have hq2_ := g_19
      refine lv_iconst (v := 1) hx hb dB_36_3_58.2.2.1 (by decide) ?_
      rw [hQ]
      exact W.iret (v := 1) hx hb hr (fun t ht hW => ⟨⟨1, (), rfl, (by first | (rw [if_neg (by omega)]; omega) | (rw [if_pos (by omega)]; decide)), r_1, fl0, fl1, efl_16, fl3, fn0, fn1, efn_17, fn3, (by assumption), (by first | exact ⟨fun _ => ⟨eq4_rf, eq4_rf⟩, fun h => absurd h (by first | omega | decide)⟩ | exact ⟨fun h => absurd (by first | omega | decide) h, fun _ => ⟨by rw [f4_c0, ← hq1_]; exact f4_u0, fn0, fun q => by rw [f4_c0]; exact hq2_ q, f4_u0⟩⟩ | exact ⟨fun h => absurd (by first | omega | decide) h, fun _ => ⟨by rw [f4_c1, ← hq1_]; exact f4_u1, fn1, fun q => by rw [f4_c1]; exact hq2_ q, f4_u1⟩⟩ | exact ⟨fun h => absurd (by first | omega | decide) h, fun _ => ⟨by rw [f4_c2, ← hq1_]; exact f4_u2, efn_17, fun q => by rw [f4_c2]; exact hq2_ q, f4_u2⟩⟩ | exact ⟨fun h => absurd (by first | omega | decide) h, fun _ => ⟨by rw [f4_c3, ← hq1_]; exact f4_u3, fn3, fun q => by rw [f4_c3]; exact hq2_ q, f4_u3⟩⟩), (by first | with_reducible assumption | assumption | exact rng_zero (by omega) (by omega) | omega), (by first | with_reducible assumption | assumption | exact rng_zero (by omega) (by omega) | omega), (by first | with_reducible assumption | assumption | exact rng_zero (by omega) (by omega) | omega), (by first | with_reducible assumption | assumption | exact rng_zero (by omega) (by omega) | omega), by rw [ht]; exact hP, hD⟩, hS.F ht⟩) hS.2.2 dB_36_3_58.2.2.2
    · refine lv_aload_n hx hb dB_36_3_57.2.2.1.2 rfl (lv_at hl 0 rfl) ?_
      refine va_get (ci := 11) (v := .ref xm) (C := RX11) (T := TX11) (N := 12) hx hb hts (fun _ h => List.mem_cons_of_mem _ (List.mem_append_left _ (List.mem_append_right _ h))) hown hK.1 hP 0 rfl rfl 6 (by decide) (hts (.fieldLink RX11 72 "CutAtlas" "maps" "[LCutAtlas$NumberMap;") (List.mem_of_getElem? (i := 2) rfl)) (fun _ h9 => h9) rfl dB_36_3_57.2.2.2.1 ?_
      refine lv_iload_n hx hb dB_36_3_57.2.2.2.2 rfl (lv_at hl 1 rfl) ?_
      refine va_aldq hx hb hK.1 hP 1 4 rfl rfl (i := 3) (by unfold vp_in; decide) dB_36_3_58.1.1 ?_
      refine lv_topv (v' := .ref m3) (by simp [va_up, va_rf, mf_, cl_0, cl_1, cl_2, cl_3, cl_4]) ?_
      refine lv_iload_n hx hb dB_36_3_58.1.2.1 rfl (lv_at hl 2 rfl) ?_
      refine lv_iload_n hx hb dB_36_3_58.1.2.2 rfl (lv_at hl 3 rfl) ?_
      refine ct_S hP hD hS hA [ob4_0_ m3 mk3 mr3 l3 u3, ai_ cy l3 6 fl3, aj_ cy u3 30 fn3] [5, 9, 13] (by decide) rfl (fun hPc hDw hFc hC_ => ?_)
      refine va_callv (va_runV (As := [.int a2, .int a3]) (rest := []) ⟨hx, hb, hml, hown, hts⟩ (c_X4_beginRow2 l D cy H.size m3 l3 u3 mk3 mr3 fl3 fn3 a2 a3 (by first | with_reducible assumption | omega | assumption) (by first | with_reducible assumption | omega | assumption) (by first | with_reducible assumption | assumption | omega)) (cwV 2 hts gX11_row_X4_beginRow rfl rfl rfl ⟨rfl, hd_X4_beginRow⟩ ⟨Nat.le_of_ble_eq_true rfl, Nat.le_of_ble_eq_true rfl⟩) ⟨bl_, va_recvX hK.1 hP (ci := 4) (q0 := 5) rfl rfl, fun U hU hW => ⟨rfl, by rw [hU], by rw [hU]; exact hPc, kk_mv hW hK, hDw⟩⟩ rfl rfl hl.1 rfl (lv_room (Nat.le_of_ble_eq_true rfl)) dB_36_3_58.2.1 ⟨Nat.le_of_ble_eq_true rfl, Nat.le_of_ble_eq_true rfl⟩) hS (fun q _ h => hFc q h) hFc (fun u t H locs ht hvm hw hB hz1 hk1 hS => ?_)
      obtain ⟨efl_22, efn_23, g_24, g_25, g_26, hP1, hD1⟩ := hB
      rw [ht] at hP1
      obtain ⟨hP, hD⟩ := va_join (wr := [ob11_0_ xo xk xn xc xh xt xw xm xp pf ph tr r_1, aq_ cy 4 xm 4 (mf_ m0 m1 m2 m3), ob4_0_ m0 mk0 mr0 l0 u0, ob4_0_ m1 mk1 mr1 l1 u1, ob4_0_ m2 mk2 mr2 l2 u2, ai_ cy l0 6 fl0, ai_ cy l1 6 fl1, ai_ cy l2 6 fl2, aj_ cy u0 30 fn0, aj_ cy u1 30 fn1, aj_ cy u2 30 fn2]) (w1 := [ob4_0_ m3 mk3 mr3 l3 u3, ai_ cy l3 6 efl_22, aj_ cy u3 30 efn_23]) hP hD [5, 9, 13] [0, 1, 2, 3, 4, 6, 7, 8, 10, 11, 12] hC_ rfl (by decide +kernel) (by decide +kernel) hk1 hFc hP1 hD1
      refine pd_S hP hD [ob11_0_ xo xk xn xc xh xt xw xm xp pf ph tr r_1, aq_ cy 4 xm 4 (mf_ m0 m1 m2 m3), ob4_0_ m0 mk0 mr0 l0 u0, ob4_0_ m1 mk1 mr1 l1 u1, ob4_0_ m2 mk2 mr2 l2 u2, ob4_0_ m3 mk3 mr3 l3 u3, ai_ cy l0 6 fl0, ai_ cy l1 6 fl1, ai_ cy l2 6 fl2, ai_ cy l3 6 efl_22, aj_ cy u0 30 fn0, aj_ cy u1 30 fn1, aj_ cy u2 30 fn2, aj_ cy u3 30 efn_23] [0, 1, 2, 3, 4, 11, 5, 6, 7, 12, 8, 9, 10, 13] (by decide +kernel) rfl (fun hP hD => ?_)
      have hq1_ := g_24
      have hq2_ := g_25
      refine lv_iconst (v := 1) hx hb dB_36_3_58.2.2.1 (by decide) ?_
      rw [hQ]
      exact W.iret (v := 1) hx hb hr (fun t ht hW => ⟨⟨1, (), rfl, (by first | (rw [if_neg (by omega)]; omega) | (rw [if_pos (by omega)]; decide)), r_1, fl0, fl1, fl2, efl_22, fn0, fn1, fn2, efn_23, (by assumption), (by first | exact ⟨fun _ => ⟨eq4_rf, eq4_rf⟩, fun h => absurd h (by first | omega | decide)⟩ | exact ⟨fun h => absurd (by first | omega | decide) h, fun _ => ⟨by rw [f4_c0, ← hq1_]; exact f4_u0, fn0, fun q => by rw [f4_c0]; exact hq2_ q, f4_u0⟩⟩ | exact ⟨fun h => absurd (by first | omega | decide) h, fun _ => ⟨by rw [f4_c1, ← hq1_]; exact f4_u1, fn1, fun q => by rw [f4_c1]; exact hq2_ q, f4_u1⟩⟩ | exact ⟨fun h => absurd (by first | omega | decide) h, fun _ => ⟨by rw [f4_c2, ← hq1_]; exact f4_u2, fn2, fun q => by rw [f4_c2]; exact hq2_ q, f4_u2⟩⟩ | exact ⟨fun h => absurd (by first | omega | decide) h, fun _ => ⟨by rw [f4_c3, ← hq1_]; exact f4_u3, efn_23, fun q => by rw [f4_c3]; exact hq2_ q, f4_u3⟩⟩), (by first | with_reducible assumption | assumption | exact rng_zero (by omega) (by omega) | omega), (by first | with_reducible assumption | assumption | exact rng_zero (by omega) (by omega) | omega), (by first | with_reducible assumption | assumption | exact rng_zero (by omega) (by omega) | omega), (by first | with_reducible assumption | assumption | exact rng_zero (by omega) (by omega) | omega), by rw [ht]; exact hP, hD⟩, hS.F ht⟩) hS.2.2 dB_36_3_58.2.2.2
  · have t_2 : ¬ r_1.toInt = (0 : Int32).toInt := fun h => c_2 (Int32.toInt_inj.mp h)
    refine lv_aload_n hx hb dB_36_3_57.2.1.2.1 rfl (lv_at hl 0 rfl) ?_
    refine va_get (ci := 11) (v := .int r_1) (C := RX11) (T := TX11) (N := 12) hx hb hts (fun _ h => List.mem_cons_of_mem _ (List.mem_append_left _ (List.mem_append_right _ h))) hown hK.1 hP 0 rfl rfl 11 (by decide) (hts (.fieldLink RX11 91 "CutAtlas" "finding" "I") (List.mem_of_getElem? (i := 1) rfl)) (fun _ h9 => h9) rfl dB_36_3_57.2.1.2.2 ?_
    rw [hQ]
    exact W.iret (v := r_1) hx hb hr (fun t ht hW => ⟨⟨r_1, (), rfl, (by first | (rw [if_neg (by omega)]; omega) | (rw [if_pos (by omega)]; decide)), r_1, fl0, fl1, fl2, fl3, fn0, fn1, fn2, fn3, (by assumption), (by first | exact ⟨fun _ => ⟨eq4_rf, eq4_rf⟩, fun h => absurd h (by first | omega | decide)⟩ | exact ⟨fun h => absurd (by first | omega | decide) h, fun _ => ⟨by rw [f4_c0, ← hq1_]; exact f4_u0, fn0, fun q => by rw [f4_c0]; exact hq2_ q, f4_u0⟩⟩ | exact ⟨fun h => absurd (by first | omega | decide) h, fun _ => ⟨by rw [f4_c1, ← hq1_]; exact f4_u1, fn1, fun q => by rw [f4_c1]; exact hq2_ q, f4_u1⟩⟩ | exact ⟨fun h => absurd (by first | omega | decide) h, fun _ => ⟨by rw [f4_c2, ← hq1_]; exact f4_u2, fn2, fun q => by rw [f4_c2]; exact hq2_ q, f4_u2⟩⟩ | exact ⟨fun h => absurd (by first | omega | decide) h, fun _ => ⟨by rw [f4_c3, ← hq1_]; exact f4_u3, fn3, fun q => by rw [f4_c3]; exact hq2_ q, f4_u3⟩⟩), (by first | with_reducible assumption | assumption | exact rng_zero (by omega) (by omega) | omega), (by first | with_reducible assumption | assumption | exact rng_zero (by omega) (by omega) | omega), (by first | with_reducible assumption | assumption | exact rng_zero (by omega) (by omega) | omega), (by first | with_reducible assumption | assumption | exact rng_zero (by omega) (by omega) | omega), by rw [ht]; exact hP, hD⟩, hS.F ht⟩) hS.2.2 dB_36_3_57.2.2.1.1

set_option maxHeartbeats 4000000 in
set_option maxRecDepth 100000 in
theorem c_X11_put2 (l : Launch) (D : va_G) (cy : Nat → ClassId) (sz : Nat) (xo : Nat) (xk : Nat) (xn : Nat) (xc : Nat) (xh : Nat) (xt : Nat) (xw : Nat) (xm : Nat) (xp : Nat) (pf : Int32) (ph : Int32) (tr : Int64) (fi : Int32) (m0 : Nat) (l0 : Nat) (u0 : Nat) (m1 : Nat) (l1 : Nat) (u1 : Nat) (m2 : Nat) (l2 : Nat) (u2 : Nat) (m3 : Nat) (l3 : Nat) (u3 : Nat) (mk0 : Int32) (mr0 : Int32) (mk1 : Int32) (mr1 : Int32) (mk2 : Int32) (mr2 : Int32) (mk3 : Int32) (mr3 : Int32) (fl0 : Nat → Int32) (fl1 : Nat → Int32) (fl2 : Nat → Int32) (fl3 : Nat → Int32) (fn0 : Nat → Int64) (fn1 : Nat → Int64) (fn2 : Nat → Int64) (fn3 : Nat → Int64) (a1 : Int32) (a2 : Int32) (a3 : Int32) (a4 : Int32) (a5 : Int64) (hmr0 : mr0.toInt = -9 ∨ (0 ≤ mr0.toInt ∧ mr0.toInt ≤ 6)) (hmr1 : mr1.toInt = -9 ∨ (0 ≤ mr1.toInt ∧ mr1.toInt ≤ 6)) (hmr2 : mr2.toInt = -9 ∨ (0 ≤ mr2.toInt ∧ mr2.toInt ≤ 6)) (hmr3 : mr3.toInt = -9 ∨ (0 ≤ mr3.toInt ∧ mr3.toInt ≤ 6)) (r_fl0 : rng fl0 6 (-9) (5)) (r_fl1 : rng fl1 6 (-9) (5)) (r_fl2 : rng fl2 6 (-9) (5)) (r_fl3 : rng fl3 6 (-9) (5)) : Met l yX11_put wsX11_put ({ frames := 2, cells := 0, slots := 0, locals := 45 }) (va_Pc [.ref xo, .int a1, .int a2, .int a3, .int a4, .long a5] (fun U => U.heap.size = sz ∧ va_P D vwCl [ob11_0_ xo xk xn xc xh xt xw xm xp pf ph tr fi, aq_ cy 4 xm 4 (mf_ m0 m1 m2 m3), ob4_0_ m0 mk0 mr0 l0 u0, ob4_0_ m1 mk1 mr1 l1 u1, ob4_0_ m2 mk2 mr2 l2 u2, ob4_0_ m3 mk3 mr3 l3 u3, ai_ cy l0 6 fl0, ai_ cy l1 6 fl1, ai_ cy l2 6 fl2, ai_ cy l3 6 fl3, aj_ cy u0 30 fn0, aj_ cy u1 30 fn1, aj_ cy u2 30 fn2, aj_ cy u3 30 fn3] U.heap ∧ kk_ D cy U ∧ va_D (fun _ => True) [ob11_0_ xo xk xn xc xh xt xw xm xp pf ph tr fi, aq_ cy 4 xm 4 (mf_ m0 m1 m2 m3), ob4_0_ m0 mk0 mr0 l0 u0, ob4_0_ m1 mk1 mr1 l1 u1, ob4_0_ m2 mk2 mr2 l2 u2, ob4_0_ m3 mk3 mr3 l3 u3, ai_ cy l0 6 fl0, ai_ cy l1 6 fl1, ai_ cy l2 6 fl2, ai_ cy l3 6 fl3, aj_ cy u0 30 fn0, aj_ cy u1 30 fn1, aj_ cy u2 30 fn2, aj_ cy u3 30 fn3])) (va_Qi (fun (r : Int32) (_ : Unit) => (r.toInt = if wrgI a1.toInt a2.toInt a3.toInt a4.toInt (hasI ((f4_ mr0 mr1 mr2 mr3) a1.toNatClampNeg).toInt) ((f4_ mk0 mk1 mk2 mk3) a1.toNatClampNeg).toInt ((f4_ mr0 mr1 mr2 mr3) a1.toNatClampNeg).toInt ((f4_ fl0 fl1 fl2 fl3) a1.toNatClampNeg a3.toNatClampNeg).toInt = 0 then 1 else wrgI a1.toInt a2.toInt a3.toInt a4.toInt (hasI ((f4_ mr0 mr1 mr2 mr3) a1.toNatClampNeg).toInt) ((f4_ mk0 mk1 mk2 mk3) a1.toNatClampNeg).toInt ((f4_ mr0 mr1 mr2 mr3) a1.toNatClampNeg).toInt ((f4_ fl0 fl1 fl2 fl3) a1.toNatClampNeg a3.toNatClampNeg).toInt)) (fun (_ : Unit) (t : State) => ∃ (efi : Int32), ∃ (efn0 : Nat → Int64), ∃ (efn1 : Nat → Int64), ∃ (efn2 : Nat → Int64), ∃ (efn3 : Nat → Int64), (efi.toInt = wrgI a1.toInt a2.toInt a3.toInt a4.toInt (hasI ((f4_ mr0 mr1 mr2 mr3) a1.toNatClampNeg).toInt) ((f4_ mk0 mk1 mk2 mk3) a1.toNatClampNeg).toInt ((f4_ mr0 mr1 mr2 mr3) a1.toNatClampNeg).toInt ((f4_ fl0 fl1 fl2 fl3) a1.toNatClampNeg a3.toNatClampNeg).toInt) ∧ ((efi.toInt ≠ 0 → eq4 (f4_ efn0 efn1 efn2 efn3) (f4_ fn0 fn1 fn2 fn3)) ∧ (efi.toInt = 0 → eq4 (f4_ efn0 efn1 efn2 efn3) (va_up (f4_ fn0 fn1 fn2 fn3) a1.toNatClampNeg (vp_updL ((f4_ fn0 fn1 fn2 fn3) a1.toNatClampNeg) (5 * a3.toInt + a4.toInt).toNat (putV ((f4_ mk0 mk1 mk2 mk3) a1.toNatClampNeg).toInt a5))))) ∧ va_P D vwCl [ob11_0_ xo xk xn xc xh xt xw xm xp pf ph tr efi, aq_ cy 4 xm 4 (mf_ m0 m1 m2 m3), ob4_0_ m0 mk0 mr0 l0 u0, ob4_0_ m1 mk1 mr1 l1 u1, ob4_0_ m2 mk2 mr2 l2 u2, ob4_0_ m3 mk3 mr3 l3 u3, ai_ cy l0 6 fl0, ai_ cy l1 6 fl1, ai_ cy l2 6 fl2, ai_ cy l3 6 fl3, aj_ cy u0 30 efn0, aj_ cy u1 30 efn1, aj_ cy u2 30 efn2, aj_ cy u3 30 efn3] t.heap ∧ va_D (va_A [ob11_0_ xo xk xn xc xh xt xw xm xp pf ph tr fi, aq_ cy 4 xm 4 (mf_ m0 m1 m2 m3), ob4_0_ m0 mk0 mr0 l0 u0, ob4_0_ m1 mk1 mr1 l1 u1, ob4_0_ m2 mk2 mr2 l2 u2, ob4_0_ m3 mk3 mr3 l3 u3, ai_ cy l0 6 fl0, ai_ cy l1 6 fl1, ai_ cy l2 6 fl2, ai_ cy l3 6 fl3, aj_ cy u0 30 fn0, aj_ cy u1 30 fn1, aj_ cy u2 30 fn2, aj_ cy u3 30 fn3] sz) [ob11_0_ xo xk xn xc xh xt xw xm xp pf ph tr efi, aq_ cy 4 xm 4 (mf_ m0 m1 m2 m3), ob4_0_ m0 mk0 mr0 l0 u0, ob4_0_ m1 mk1 mr1 l1 u1, ob4_0_ m2 mk2 mr2 l2 u2, ob4_0_ m3 mk3 mr3 l3 u3, ai_ cy l0 6 fl0, ai_ cy l1 6 fl1, ai_ cy l2 6 fl2, ai_ cy l3 6 fl3, aj_ cy u0 30 efn0, aj_ cy u1 30 efn1, aj_ cy u2 30 efn2, aj_ cy u3 30 efn3]) (va_A [ob11_0_ xo xk xn xc xh xt xw xm xp pf ph tr fi, aq_ cy 4 xm 4 (mf_ m0 m1 m2 m3), ob4_0_ m0 mk0 mr0 l0 u0, ob4_0_ m1 mk1 mr1 l1 u1, ob4_0_ m2 mk2 mr2 l2 u2, ob4_0_ m3 mk3 mr3 l3 u3, ai_ cy l0 6 fl0, ai_ cy l1 6 fl1, ai_ cy l2 6 fl2, ai_ cy l3 6 fl3, aj_ cy u0 30 fn0, aj_ cy u1 30 fn1, aj_ cy u2 30 fn2, aj_ cy u3 30 fn3] sz)) 0 0 (va_A [ob11_0_ xo xk xn xc xh xt xw xm xp pf ph tr fi, aq_ cy 4 xm 4 (mf_ m0 m1 m2 m3), ob4_0_ m0 mk0 mr0 l0 u0, ob4_0_ m1 mk1 mr1 l1 u1, ob4_0_ m2 mk2 mr2 l2 u2, ob4_0_ m3 mk3 mr3 l3 u3, ai_ cy l0 6 fl0, ai_ cy l1 6 fl1, ai_ cy l2 6 fl2, ai_ cy l3 6 fl3, aj_ cy u0 30 fn0, aj_ cy u1 30 fn1, aj_ cy u2 30 fn2, aj_ cy u3 30 fn3] sz) := by
  refine ofQ (cc := cX11_put) (maxL := 7) (ret := (some .int)) (by decide) rfl ?_
  intro p e s m args below meth c s₁ Q hQ B hml hv
  obtain ⟨rfl, hsz, hP, hK, hD0⟩ := hv
  have hx := B.exec
  have hb := B.bytes
  have hr := B.returns
  have hts := atoms_spec (ws := wsX11_put) B.pre
  have hown : s.vm.findClass RX11 = some m.cls := by have h_ := findClass_of_methodNamed B.named; exact h_
  have hlocks := B.notSynchronized
  subst hsz
  have hD := hD0.self (sz := s.heap.size)
  generalize hAe : va_A [ob11_0_ xo xk xn xc xh xt xw xm xp pf ph tr fi, aq_ cy 4 xm 4 (mf_ m0 m1 m2 m3), ob4_0_ m0 mk0 mr0 l0 u0, ob4_0_ m1 mk1 mr1 l1 u1, ob4_0_ m2 mk2 mr2 l2 u2, ob4_0_ m3 mk3 mr3 l3 u3, ai_ cy l0 6 fl0, ai_ cy l1 6 fl1, ai_ cy l2 6 fl2, ai_ cy l3 6 fl3, aj_ cy u0 30 fn0, aj_ cy u1 30 fn1, aj_ cy u2 30 fn2, aj_ cy u3 30 fn3] s.heap.size = A at hD hQ
  have hA : ∀ q : Nat, s.heap.size ≤ q → A q := fun q h => by rw [← hAe]; exact Or.inr h
  have hS : va_S A s.heap s.heap [] := va_S.rf
  have hl := lv_entry ([.ref xo, .int a1, .int a2, .int a3, .int a4, .long a5]) (n := 7) (Nat.le_of_ble_eq_true rfl)
  rw [lg_entry_eq]
  generalize (lg_sl ([.ref xo, .int a1, .int a2, .int a3, .int a4, .long a5]) ++ List.replicate (7 - (lg_sl ([.ref xo, .int a1, .int a2, .int a3, .int a4, .long a5])).length) Slot.unset).toArray = ls at hl ⊢
  have hl : lv_has ls 7 [(0, .ref xo), (1, .int a1), (2, .int a2), (3, .int a3), (4, .int a4), (5, .long a5)] := hl
  have z0 : (0 : Int32).toInt = 0 := by decide
  have z1 : (1 : Int32).toInt = 1 := by decide
  refine lv_aload_n hx hb dB_36_3_45.1.1.1.1 rfl (lv_at hl 0 rfl) ?_
  refine lv_aload_n hx hb dB_36_3_45.1.1.1.2 rfl (lv_at hl 0 rfl) ?_
  refine lv_iload_n hx hb dB_36_3_45.1.1.2.1 rfl (lv_at hl 1 rfl) ?_
  refine lv_iload_n hx hb dB_36_3_45.1.1.2.2 rfl (lv_at hl 2 rfl) ?_
  refine lv_iload_n hx hb dB_36_3_45.1.2.1.1 rfl (lv_at hl 3 rfl) ?_
  refine lv_iload hx hb dB_36_3_45.1.2.1.2 (lv_at hl 4 rfl) ?_
  refine ct_R hP hD [ob11_0_ xo xk xn xc xh xt xw xm xp pf ph tr fi, aq_ cy 4 xm 4 (mf_ m0 m1 m2 m3), ob4_0_ m0 mk0 mr0 l0 u0, ob4_0_ m1 mk1 mr1 l1 u1, ob4_0_ m2 mk2 mr2 l2 u2, ob4_0_ m3 mk3 mr3 l3 u3, ai_ cy l0 6 fl0, ai_ cy l1 6 fl1, ai_ cy l2 6 fl2, ai_ cy l3 6 fl3] [0, 1, 2, 3, 4, 5, 6, 7, 8, 9] (by decide) rfl (fun hPc hDw => ?_)
  have hFc := va_free (wc := []) hD hS hA [] rfl
  refine va_calli (va_runV (As := [.int a1, .int a2, .int a3, .int a4]) (rest := [.ref xo]) ⟨hx, hb, hml, hown, hts⟩ (c_X11_numberRefusal2 l D cy s.heap.size xo xk xn xc xh xt xw xm xp pf ph tr fi m0 l0 u0 m1 l1 u1 m2 l2 u2 m3 l3 u3 mk0 mr0 mk1 mr1 mk2 mr2 mk3 mr3 fl0 fl1 fl2 fl3 a1 a2 a3 a4 (by first | with_reducible assumption | assumption | omega) (by first | with_reducible assumption | assumption | omega) (by first | with_reducible assumption | assumption | omega) (by first | with_reducible assumption | assumption | omega) (by first | with_reducible assumption | assumption | omega) (by first | with_reducible assumption | assumption | omega) (by first | with_reducible assumption | assumption | omega) (by first | with_reducible assumption | assumption | omega)) (cwV 4 hts gX11_put_X11_numberRefusal rfl rfl rfl ⟨rfl, hd_X11_numberRefusal⟩ ⟨Nat.le_of_ble_eq_true rfl, Nat.le_of_ble_eq_true rfl⟩) ⟨bl_, va_recvX hK.1 hP (ci := 11) (q0 := 0) rfl rfl, fun U hU hW => ⟨rfl, by rw [hU], by rw [hU]; exact hPc, kk_mv hW hK, hDw⟩⟩ rfl rfl hl.1 rfl (lv_room (Nat.le_of_ble_eq_true rfl)) dB_36_3_45.1.2.2.1 ⟨Nat.le_of_ble_eq_true rfl, Nat.le_of_ble_eq_true rfl⟩) hS (fun q _ h => hFc q h) hFc (fun r_1 u t H locs ht hvm hw hB hz1 hk1 hS => ?_)
  have hP : va_P D vwCl _ H := ro_keep hP hk1
  obtain ⟨f0_r_1, f1_r_1⟩ := hw
  refine va_put (ci := 11) (v := .int r_1) (ty := .int) (C := RX11) (T := TX11) (N := 12) hx hb hts (fun _ h => List.mem_cons_of_mem _ (List.mem_append_left _ (List.mem_append_right _ h))) tyX11 tyX11_ok nmX11 hown hK.1 hP hD hS 0 rfl rfl 11 (by decide) (hts (.fieldLink RX11 91 "CutAtlas" "finding" "I") (List.mem_of_getElem? (i := 1) rfl)) (fun _ h9 => h9) rfl (by decide +kernel) rfl rfl (Nat.le_of_ble_eq_true rfl) dB_36_3_45.1.2.2.2 (fun H locs hP hD hS => ?_)
  refine pd_K [ob11_0_ xo xk xn xc xh xt xw xm xp pf ph tr r_1, aq_ cy 4 xm 4 (mf_ m0 m1 m2 m3), ob4_0_ m0 mk0 mr0 l0 u0, ob4_0_ m1 mk1 mr1 l1 u1, ob4_0_ m2 mk2 mr2 l2 u2, ob4_0_ m3 mk3 mr3 l3 u3, ai_ cy l0 6 fl0, ai_ cy l1 6 fl1, ai_ cy l2 6 fl2, ai_ cy l3 6 fl3, aj_ cy u0 30 fn0, aj_ cy u1 30 fn1, aj_ cy u2 30 fn2, aj_ cy u3 30 fn3] hP hD (fun hP hD => ?_)
  refine lv_aload_n hx hb dB_36_3_45.2.1.1.1 rfl (lv_at hl 0 rfl) ?_
  refine va_get (ci := 11) (v := .int r_1) (C := RX11) (T := TX11) (N := 12) hx hb hts (fun _ h => List.mem_cons_of_mem _ (List.mem_append_left _ (List.mem_append_right _ h))) hown hK.1 hP 0 rfl rfl 11 (by decide) (hts (.fieldLink RX11 91 "CutAtlas" "finding" "I") (List.mem_of_getElem? (i := 1) rfl)) (fun _ h9 => h9) rfl dB_36_3_45.2.1.1.2 ?_
  refine lv_if_eq (tgt := 25) hx hb dB_36_3_45.2.1.2.1 (by decide) (fun c_2 => ?_) (fun c_2 => ?_)
  · have t_2 : r_1.toInt = (0 : Int32).toInt := congrArg Int32.toInt c_2
    rcases sp_4 (x := a1) (by omega) with rfl | rfl | rfl | rfl
    · refine lv_aload_n hx hb dB_36_3_45.2.2.2.1 rfl (lv_at hl 0 rfl) ?_
      refine va_get (ci := 11) (v := .ref xm) (C := RX11) (T := TX11) (N := 12) hx hb hts (fun _ h => List.mem_cons_of_mem _ (List.mem_append_left _ (List.mem_append_right _ h))) hown hK.1 hP 0 rfl rfl 6 (by decide) (hts (.fieldLink RX11 72 "CutAtlas" "maps" "[LCutAtlas$NumberMap;") (List.mem_of_getElem? (i := 2) rfl)) (fun _ h9 => h9) rfl dB_36_3_45.2.2.2.2 ?_
      refine lv_iload_n hx hb dB_36_3_46.1.1.1 rfl (lv_at hl 1 rfl) ?_
      refine va_aldq hx hb hK.1 hP 1 4 rfl rfl (i := 0) (by unfold vp_in; decide) dB_36_3_46.1.1.2 ?_
      refine lv_topv (v' := .ref m0) (by simp [va_up, va_rf, mf_, cl_0, cl_1, cl_2, cl_3, cl_4]) ?_
      refine lv_iload_n hx hb dB_36_3_46.1.2.1 rfl (lv_at hl 3 rfl) ?_
      refine lv_iload hx hb dB_36_3_46.1.2.2 (lv_at hl 4 rfl) ?_
      refine lv_lload hx hb dB_36_3_46.2.1.1 (lv_at hl 5 rfl) ?_
      refine ct_S hP hD hS hA [ob4_0_ m0 mk0 mr0 l0 u0, aj_ cy u0 30 fn0] [2, 10] (by decide) rfl (fun hPc hDw hFc hC_ => ?_)
      refine va_callv (va_runV (As := [.int a3, .int a4, .long a5]) (rest := []) ⟨hx, hb, hml, hown, hts⟩ (c_X4_store2 l D cy H.size m0 l0 u0 mk0 mr0 fn0 a3 a4 a5 (by first | with_reducible assumption | omega | assumption) (by first | with_reducible assumption | omega | assumption)) (cwV 3 hts gX11_put_X4_store rfl rfl rfl ⟨rfl, hd_X4_store⟩ ⟨Nat.le_of_ble_eq_true rfl, Nat.le_of_ble_eq_true rfl⟩) ⟨bl_, va_recvX hK.1 hP (ci := 4) (q0 := 2) rfl rfl, fun U hU hW => ⟨rfl, by rw [hU], by rw [hU]; exact hPc, kk_mv hW hK, hDw⟩⟩ rfl rfl hl.1 rfl (lv_room (Nat.le_of_ble_eq_true rfl)) dB_36_3_46.2.1.2 ⟨Nat.le_of_ble_eq_true rfl, Nat.le_of_ble_eq_true rfl⟩) hS (fun q _ h => hFc q h) hFc (fun u t H locs ht hvm hw hB hz1 hk1 hS => ?_)
      obtain ⟨efn_4, g_5, hP1, hD1⟩ := hB
      rw [ht] at hP1
      obtain ⟨hP, hD⟩ := va_join (wr := [ob11_0_ xo xk xn xc xh xt xw xm xp pf ph tr r_1, aq_ cy 4 xm 4 (mf_ m0 m1 m2 m3), ob4_0_ m1 mk1 mr1 l1 u1, ob4_0_ m2 mk2 mr2 l2 u2, ob4_0_ m3 mk3 mr3 l3 u3, ai_ cy l0 6 fl0, ai_ cy l1 6 fl1, ai_ cy l2 6 fl2, ai_ cy l3 6 fl3, aj_ cy u1 30 fn1, aj_ cy u2 30 fn2, aj_ cy u3 30 fn3]) (w1 := [ob4_0_ m0 mk0 mr0 l0 u0, aj_ cy u0 30 efn_4]) hP hD [2, 10] [0, 1, 3, 4, 5, 6, 7, 8, 9, 11, 12, 13] hC_ rfl (by decide +kernel) (by decide +kernel) hk1 hFc hP1 hD1
      refine pd_S hP hD [ob11_0_ xo xk xn xc xh xt xw xm xp pf ph tr r_1, aq_ cy 4 xm 4 (mf_ m0 m1 m2 m3), ob4_0_ m0 mk0 mr0 l0 u0, ob4_0_ m1 mk1 mr1 l1 u1, ob4_0_ m2 mk2 mr2 l2 u2, ob4_0_ m3 mk3 mr3 l3 u3, ai_ cy l0 6 fl0, ai_ cy l1 6 fl1, ai_ cy l2 6 fl2, ai_ cy l3 6 fl3, aj_ cy u0 30 efn_4, aj_ cy u1 30 fn1, aj_ cy u2 30 fn2, aj_ cy u3 30 fn3] [0, 1, 12, 2, 3, 4, 5, 6, 7, 8, 13, 9, 10, 11] (by decide +kernel) rfl (fun hP hD => ?_)
      have hq1_ := g_5
      refine lv_iconst (v := 1) hx hb dB_36_3_46.2.2.1 (by decide) ?_
      rw [hQ]
      exact W.iret (v := 1) hx hb hr (fun t ht hW => ⟨⟨1, (), rfl, (by first | (rw [if_neg (by omega)]; omega) | (rw [if_pos (by omega)]; decide)), r_1, efn_4, fn1, fn2, fn3, (by assumption), (by first | exact ⟨fun _ => eq4_rf, fun h => absurd h (by first | omega | decide)⟩ | exact ⟨fun h => absurd (by first | omega | decide) h, fun _ => (by rw [f4_c0, f4_c0, ← hq1_]; exact f4_u0)⟩ | exact ⟨fun h => absurd (by first | omega | decide) h, fun _ => (by rw [f4_c1, f4_c1, ← hq1_]; exact f4_u1)⟩ | exact ⟨fun h => absurd (by first | omega | decide) h, fun _ => (by rw [f4_c2, f4_c2, ← hq1_]; exact f4_u2)⟩ | exact ⟨fun h => absurd (by first | omega | decide) h, fun _ => (by rw [f4_c3, f4_c3, ← hq1_]; exact f4_u3)⟩), by rw [ht]; exact hP, hD⟩, hS.F ht⟩) hS.2.2 dB_36_3_46.2.2.2
    · refine lv_aload_n hx hb dB_36_3_45.2.2.2.1 rfl (lv_at hl 0 rfl) ?_
      refine va_get (ci := 11) (v := .ref xm) (C := RX11) (T := TX11) (N := 12) hx hb hts (fun _ h => List.mem_cons_of_mem _ (List.mem_append_left _ (List.mem_append_right _ h))) hown hK.1 hP 0 rfl rfl 6 (by decide) (hts (.fieldLink RX11 72 "CutAtlas" "maps" "[LCutAtlas$NumberMap;") (List.mem_of_getElem? (i := 2) rfl)) (fun _ h9 => h9) rfl dB_36_3_45.2.2.2.2 ?_
      refine lv_iload_n hx hb dB_36_3_46.1.1.1 rfl (lv_at hl 1 rfl) ?_
      refine va_aldq hx hb hK.1 hP 1 4 rfl rfl (i := 1) (by unfold vp_in; decide) dB_36_3_46.1.1.2 ?_
      refine lv_topv (v' := .ref m1) (by simp [va_up, va_rf, mf_, cl_0, cl_1, cl_2, cl_3, cl_4]) ?_
      refine lv_iload_n hx hb dB_36_3_46.1.2.1 rfl (lv_at hl 3 rfl) ?_
      refine lv_iload hx hb dB_36_3_46.1.2.2 (lv_at hl 4 rfl) ?_
      refine lv_lload hx hb dB_36_3_46.2.1.1 (lv_at hl 5 rfl) ?_
      refine ct_S hP hD hS hA [ob4_0_ m1 mk1 mr1 l1 u1, aj_ cy u1 30 fn1] [3, 11] (by decide) rfl (fun hPc hDw hFc hC_ => ?_)
      refine va_callv (va_runV (As := [.int a3, .int a4, .long a5]) (rest := []) ⟨hx, hb, hml, hown, hts⟩ (c_X4_store2 l D cy H.size m1 l1 u1 mk1 mr1 fn1 a3 a4 a5 (by first | with_reducible assumption | omega | assumption) (by first | with_reducible assumption | omega | assumption)) (cwV 3 hts gX11_put_X4_store rfl rfl rfl ⟨rfl, hd_X4_store⟩ ⟨Nat.le_of_ble_eq_true rfl, Nat.le_of_ble_eq_true rfl⟩) ⟨bl_, va_recvX hK.1 hP (ci := 4) (q0 := 3) rfl rfl, fun U hU hW => ⟨rfl, by rw [hU], by rw [hU]; exact hPc, kk_mv hW hK, hDw⟩⟩ rfl rfl hl.1 rfl (lv_room (Nat.le_of_ble_eq_true rfl)) dB_36_3_46.2.1.2 ⟨Nat.le_of_ble_eq_true rfl, Nat.le_of_ble_eq_true rfl⟩) hS (fun q _ h => hFc q h) hFc (fun u t H locs ht hvm hw hB hz1 hk1 hS => ?_)
      obtain ⟨efn_7, g_8, hP1, hD1⟩ := hB
      rw [ht] at hP1
      obtain ⟨hP, hD⟩ := va_join (wr := [ob11_0_ xo xk xn xc xh xt xw xm xp pf ph tr r_1, aq_ cy 4 xm 4 (mf_ m0 m1 m2 m3), ob4_0_ m0 mk0 mr0 l0 u0, ob4_0_ m2 mk2 mr2 l2 u2, ob4_0_ m3 mk3 mr3 l3 u3, ai_ cy l0 6 fl0, ai_ cy l1 6 fl1, ai_ cy l2 6 fl2, ai_ cy l3 6 fl3, aj_ cy u0 30 fn0, aj_ cy u2 30 fn2, aj_ cy u3 30 fn3]) (w1 := [ob4_0_ m1 mk1 mr1 l1 u1, aj_ cy u1 30 efn_7]) hP hD [3, 11] [0, 1, 2, 4, 5, 6, 7, 8, 9, 10, 12, 13] hC_ rfl (by decide +kernel) (by decide +kernel) hk1 hFc hP1 hD1
      refine pd_S hP hD [ob11_0_ xo xk xn xc xh xt xw xm xp pf ph tr r_1, aq_ cy 4 xm 4 (mf_ m0 m1 m2 m3), ob4_0_ m0 mk0 mr0 l0 u0, ob4_0_ m1 mk1 mr1 l1 u1, ob4_0_ m2 mk2 mr2 l2 u2, ob4_0_ m3 mk3 mr3 l3 u3, ai_ cy l0 6 fl0, ai_ cy l1 6 fl1, ai_ cy l2 6 fl2, ai_ cy l3 6 fl3, aj_ cy u0 30 fn0, aj_ cy u1 30 efn_7, aj_ cy u2 30 fn2, aj_ cy u3 30 fn3] [0, 1, 2, 12, 3, 4, 5, 6, 7, 8, 9, 13, 10, 11] (by decide +kernel) rfl (fun hP hD => ?_)
      have hq1_ := g_8
      refine lv_iconst (v := 1) hx hb dB_36_3_46.2.2.1 (by decide) ?_
      rw [hQ]
      exact W.iret (v := 1) hx hb hr (fun t ht hW => ⟨⟨1, (), rfl, (by first | (rw [if_neg (by omega)]; omega) | (rw [if_pos (by omega)]; decide)), r_1, fn0, efn_7, fn2, fn3, (by assumption), (by first | exact ⟨fun _ => eq4_rf, fun h => absurd h (by first | omega | decide)⟩ | exact ⟨fun h => absurd (by first | omega | decide) h, fun _ => (by rw [f4_c0, f4_c0, ← hq1_]; exact f4_u0)⟩ | exact ⟨fun h => absurd (by first | omega | decide) h, fun _ => (by rw [f4_c1, f4_c1, ← hq1_]; exact f4_u1)⟩ | exact ⟨fun h => absurd (by first | omega | decide) h, fun _ => (by rw [f4_c2, f4_c2, ← hq1_]; exact f4_u2)⟩ | exact ⟨fun h => absurd (by first | omega | decide) h, fun _ => (by rw [f4_c3, f4_c3, ← hq1_]; exact f4_u3)⟩), by rw [ht]; exact hP, hD⟩, hS.F ht⟩) hS.2.2 dB_36_3_46.2.2.2
    · refine lv_aload_n hx hb dB_36_3_45.2.2.2.1 rfl (lv_at hl 0 rfl) ?_
      refine va_get (ci := 11) (v := .ref xm) (C := RX11) (T := TX11) (N := 12) hx hb hts (fun _ h => List.mem_cons_of_mem _ (List.mem_append_left _ (List.mem_append_right _ h))) hown hK.1 hP 0 rfl rfl 6 (by decide) (hts (.fieldLink RX11 72 "CutAtlas" "maps" "[LCutAtlas$NumberMap;") (List.mem_of_getElem? (i := 2) rfl)) (fun _ h9 => h9) rfl dB_36_3_45.2.2.2.2 ?_
      refine lv_iload_n hx hb dB_36_3_46.1.1.1 rfl (lv_at hl 1 rfl) ?_
      refine va_aldq hx hb hK.1 hP 1 4 rfl rfl (i := 2) (by unfold vp_in; decide) dB_36_3_46.1.1.2 ?_
      refine lv_topv (v' := .ref m2) (by simp [va_up, va_rf, mf_, cl_0, cl_1, cl_2, cl_3, cl_4]) ?_
      refine lv_iload_n hx hb dB_36_3_46.1.2.1 rfl (lv_at hl 3 rfl) ?_
      refine lv_iload hx hb dB_36_3_46.1.2.2 (lv_at hl 4 rfl) ?_
      refine lv_lload hx hb dB_36_3_46.2.1.1 (lv_at hl 5 rfl) ?_
      refine ct_S hP hD hS hA [ob4_0_ m2 mk2 mr2 l2 u2, aj_ cy u2 30 fn2] [4, 12] (by decide) rfl (fun hPc hDw hFc hC_ => ?_)
      refine va_callv (va_runV (As := [.int a3, .int a4, .long a5]) (rest := []) ⟨hx, hb, hml, hown, hts⟩ (c_X4_store2 l D cy H.size m2 l2 u2 mk2 mr2 fn2 a3 a4 a5 (by first | with_reducible assumption | omega | assumption) (by first | with_reducible assumption | omega | assumption)) (cwV 3 hts gX11_put_X4_store rfl rfl rfl ⟨rfl, hd_X4_store⟩ ⟨Nat.le_of_ble_eq_true rfl, Nat.le_of_ble_eq_true rfl⟩) ⟨bl_, va_recvX hK.1 hP (ci := 4) (q0 := 4) rfl rfl, fun U hU hW => ⟨rfl, by rw [hU], by rw [hU]; exact hPc, kk_mv hW hK, hDw⟩⟩ rfl rfl hl.1 rfl (lv_room (Nat.le_of_ble_eq_true rfl)) dB_36_3_46.2.1.2 ⟨Nat.le_of_ble_eq_true rfl, Nat.le_of_ble_eq_true rfl⟩) hS (fun q _ h => hFc q h) hFc (fun u t H locs ht hvm hw hB hz1 hk1 hS => ?_)
      obtain ⟨efn_10, g_11, hP1, hD1⟩ := hB
      rw [ht] at hP1
      obtain ⟨hP, hD⟩ := va_join (wr := [ob11_0_ xo xk xn xc xh xt xw xm xp pf ph tr r_1, aq_ cy 4 xm 4 (mf_ m0 m1 m2 m3), ob4_0_ m0 mk0 mr0 l0 u0, ob4_0_ m1 mk1 mr1 l1 u1, ob4_0_ m3 mk3 mr3 l3 u3, ai_ cy l0 6 fl0, ai_ cy l1 6 fl1, ai_ cy l2 6 fl2, ai_ cy l3 6 fl3, aj_ cy u0 30 fn0, aj_ cy u1 30 fn1, aj_ cy u3 30 fn3]) (w1 := [ob4_0_ m2 mk2 mr2 l2 u2, aj_ cy u2 30 efn_10]) hP hD [4, 12] [0, 1, 2, 3, 5, 6, 7, 8, 9, 10, 11, 13] hC_ rfl (by decide +kernel) (by decide +kernel) hk1 hFc hP1 hD1
      refine pd_S hP hD [ob11_0_ xo xk xn xc xh xt xw xm xp pf ph tr r_1, aq_ cy 4 xm 4 (mf_ m0 m1 m2 m3), ob4_0_ m0 mk0 mr0 l0 u0, ob4_0_ m1 mk1 mr1 l1 u1, ob4_0_ m2 mk2 mr2 l2 u2, ob4_0_ m3 mk3 mr3 l3 u3, ai_ cy l0 6 fl0, ai_ cy l1 6 fl1, ai_ cy l2 6 fl2, ai_ cy l3 6 fl3, aj_ cy u0 30 fn0, aj_ cy u1 30 fn1, aj_ cy u2 30 efn_10, aj_ cy u3 30 fn3] [0, 1, 2, 3, 12, 4, 5, 6, 7, 8, 9, 10, 13, 11] (by decide +kernel) rfl (fun hP hD => ?_)
      have hq1_ := g_11
      refine lv_iconst (v := 1) hx hb dB_36_3_46.2.2.1 (by decide) ?_
      rw [hQ]
      exact W.iret (v := 1) hx hb hr (fun t ht hW => ⟨⟨1, (), rfl, (by first | (rw [if_neg (by omega)]; omega) | (rw [if_pos (by omega)]; decide)), r_1, fn0, fn1, efn_10, fn3, (by assumption), (by first | exact ⟨fun _ => eq4_rf, fun h => absurd h (by first | omega | decide)⟩ | exact ⟨fun h => absurd (by first | omega | decide) h, fun _ => (by rw [f4_c0, f4_c0, ← hq1_]; exact f4_u0)⟩ | exact ⟨fun h => absurd (by first | omega | decide) h, fun _ => (by rw [f4_c1, f4_c1, ← hq1_]; exact f4_u1)⟩ | exact ⟨fun h => absurd (by first | omega | decide) h, fun _ => (by rw [f4_c2, f4_c2, ← hq1_]; exact f4_u2)⟩ | exact ⟨fun h => absurd (by first | omega | decide) h, fun _ => (by rw [f4_c3, f4_c3, ← hq1_]; exact f4_u3)⟩), by rw [ht]; exact hP, hD⟩, hS.F ht⟩) hS.2.2 dB_36_3_46.2.2.2
    · refine lv_aload_n hx hb dB_36_3_45.2.2.2.1 rfl (lv_at hl 0 rfl) ?_
      refine va_get (ci := 11) (v := .ref xm) (C := RX11) (T := TX11) (N := 12) hx hb hts (fun _ h => List.mem_cons_of_mem _ (List.mem_append_left _ (List.mem_append_right _ h))) hown hK.1 hP 0 rfl rfl 6 (by decide) (hts (.fieldLink RX11 72 "CutAtlas" "maps" "[LCutAtlas$NumberMap;") (List.mem_of_getElem? (i := 2) rfl)) (fun _ h9 => h9) rfl dB_36_3_45.2.2.2.2 ?_
      refine lv_iload_n hx hb dB_36_3_46.1.1.1 rfl (lv_at hl 1 rfl) ?_
      refine va_aldq hx hb hK.1 hP 1 4 rfl rfl (i := 3) (by unfold vp_in; decide) dB_36_3_46.1.1.2 ?_
      refine lv_topv (v' := .ref m3) (by simp [va_up, va_rf, mf_, cl_0, cl_1, cl_2, cl_3, cl_4]) ?_
      refine lv_iload_n hx hb dB_36_3_46.1.2.1 rfl (lv_at hl 3 rfl) ?_
      refine lv_iload hx hb dB_36_3_46.1.2.2 (lv_at hl 4 rfl) ?_
      refine lv_lload hx hb dB_36_3_46.2.1.1 (lv_at hl 5 rfl) ?_
      refine ct_S hP hD hS hA [ob4_0_ m3 mk3 mr3 l3 u3, aj_ cy u3 30 fn3] [5, 13] (by decide) rfl (fun hPc hDw hFc hC_ => ?_)
      refine va_callv (va_runV (As := [.int a3, .int a4, .long a5]) (rest := []) ⟨hx, hb, hml, hown, hts⟩ (c_X4_store2 l D cy H.size m3 l3 u3 mk3 mr3 fn3 a3 a4 a5 (by first | with_reducible assumption | omega | assumption) (by first | with_reducible assumption | omega | assumption)) (cwV 3 hts gX11_put_X4_store rfl rfl rfl ⟨rfl, hd_X4_store⟩ ⟨Nat.le_of_ble_eq_true rfl, Nat.le_of_ble_eq_true rfl⟩) ⟨bl_, va_recvX hK.1 hP (ci := 4) (q0 := 5) rfl rfl, fun U hU hW => ⟨rfl, by rw [hU], by rw [hU]; exact hPc, kk_mv hW hK, hDw⟩⟩ rfl rfl hl.1 rfl (lv_room (Nat.le_of_ble_eq_true rfl)) dB_36_3_46.2.1.2 ⟨Nat.le_of_ble_eq_true rfl, Nat.le_of_ble_eq_true rfl⟩) hS (fun q _ h => hFc q h) hFc (fun u t H locs ht hvm hw hB hz1 hk1 hS => ?_)
      obtain ⟨efn_13, g_14, hP1, hD1⟩ := hB
      rw [ht] at hP1
      obtain ⟨hP, hD⟩ := va_join (wr := [ob11_0_ xo xk xn xc xh xt xw xm xp pf ph tr r_1, aq_ cy 4 xm 4 (mf_ m0 m1 m2 m3), ob4_0_ m0 mk0 mr0 l0 u0, ob4_0_ m1 mk1 mr1 l1 u1, ob4_0_ m2 mk2 mr2 l2 u2, ai_ cy l0 6 fl0, ai_ cy l1 6 fl1, ai_ cy l2 6 fl2, ai_ cy l3 6 fl3, aj_ cy u0 30 fn0, aj_ cy u1 30 fn1, aj_ cy u2 30 fn2]) (w1 := [ob4_0_ m3 mk3 mr3 l3 u3, aj_ cy u3 30 efn_13]) hP hD [5, 13] [0, 1, 2, 3, 4, 6, 7, 8, 9, 10, 11, 12] hC_ rfl (by decide +kernel) (by decide +kernel) hk1 hFc hP1 hD1
      refine pd_S hP hD [ob11_0_ xo xk xn xc xh xt xw xm xp pf ph tr r_1, aq_ cy 4 xm 4 (mf_ m0 m1 m2 m3), ob4_0_ m0 mk0 mr0 l0 u0, ob4_0_ m1 mk1 mr1 l1 u1, ob4_0_ m2 mk2 mr2 l2 u2, ob4_0_ m3 mk3 mr3 l3 u3, ai_ cy l0 6 fl0, ai_ cy l1 6 fl1, ai_ cy l2 6 fl2, ai_ cy l3 6 fl3, aj_ cy u0 30 fn0, aj_ cy u1 30 fn1, aj_ cy u2 30 fn2, aj_ cy u3 30 efn_13] [0, 1, 2, 3, 4, 12, 5, 6, 7, 8, 9, 10, 11, 13] (by decide +kernel) rfl (fun hP hD => ?_)
      have hq1_ := g_14
      refine lv_iconst (v := 1) hx hb dB_36_3_46.2.2.1 (by decide) ?_
      rw [hQ]
      exact W.iret (v := 1) hx hb hr (fun t ht hW => ⟨⟨1, (), rfl, (by first | (rw [if_neg (by omega)]; omega) | (rw [if_pos (by omega)]; decide)), r_1, fn0, fn1, fn2, efn_13, (by assumption), (by first | exact ⟨fun _ => eq4_rf, fun h => absurd h (by first | omega | decide)⟩ | exact ⟨fun h => absurd (by first | omega | decide) h, fun _ => (by rw [f4_c0, f4_c0, ← hq1_]; exact f4_u0)⟩ | exact ⟨fun h => absurd (by first | omega | decide) h, fun _ => (by rw [f4_c1, f4_c1, ← hq1_]; exact f4_u1)⟩ | exact ⟨fun h => absurd (by first | omega | decide) h, fun _ => (by rw [f4_c2, f4_c2, ← hq1_]; exact f4_u2)⟩ | exact ⟨fun h => absurd (by first | omega | decide) h, fun _ => (by rw [f4_c3, f4_c3, ← hq1_]; exact f4_u3)⟩), by rw [ht]; exact hP, hD⟩, hS.F ht⟩) hS.2.2 dB_36_3_46.2.2.2
  · have t_2 : ¬ r_1.toInt = (0 : Int32).toInt := fun h => c_2 (Int32.toInt_inj.mp h)
    refine lv_aload_n hx hb dB_36_3_45.2.1.2.2 rfl (lv_at hl 0 rfl) ?_
    refine va_get (ci := 11) (v := .int r_1) (C := RX11) (T := TX11) (N := 12) hx hb hts (fun _ h => List.mem_cons_of_mem _ (List.mem_append_left _ (List.mem_append_right _ h))) hown hK.1 hP 0 rfl rfl 11 (by decide) (hts (.fieldLink RX11 91 "CutAtlas" "finding" "I") (List.mem_of_getElem? (i := 1) rfl)) (fun _ h9 => h9) rfl dB_36_3_45.2.2.1.1 ?_
    rw [hQ]
    exact W.iret (v := r_1) hx hb hr (fun t ht hW => ⟨⟨r_1, (), rfl, (by first | (rw [if_neg (by omega)]; omega) | (rw [if_pos (by omega)]; decide)), r_1, fn0, fn1, fn2, fn3, (by assumption), (by first | exact ⟨fun _ => eq4_rf, fun h => absurd h (by first | omega | decide)⟩ | exact ⟨fun h => absurd (by first | omega | decide) h, fun _ => (by rw [f4_c0, f4_c0, ← hq1_]; exact f4_u0)⟩ | exact ⟨fun h => absurd (by first | omega | decide) h, fun _ => (by rw [f4_c1, f4_c1, ← hq1_]; exact f4_u1)⟩ | exact ⟨fun h => absurd (by first | omega | decide) h, fun _ => (by rw [f4_c2, f4_c2, ← hq1_]; exact f4_u2)⟩ | exact ⟨fun h => absurd (by first | omega | decide) h, fun _ => (by rw [f4_c3, f4_c3, ← hq1_]; exact f4_u3)⟩), by rw [ht]; exact hP, hD⟩, hS.F ht⟩) hS.2.2 dB_36_3_45.2.2.1.2

set_option maxHeartbeats 4000000 in
set_option maxRecDepth 100000 in
theorem c_X11_item2 (l : Launch) (D : va_G) (cy : Nat → ClassId) (sz : Nat) (xo : Nat) (xk : Nat) (xn : Nat) (xc : Nat) (xh : Nat) (xt : Nat) (xw : Nat) (xm : Nat) (xp : Nat) (pf : Int32) (ph : Int32) (tr : Int64) (fi : Int32) (m0 : Nat) (l0 : Nat) (u0 : Nat) (m1 : Nat) (l1 : Nat) (u1 : Nat) (m2 : Nat) (l2 : Nat) (u2 : Nat) (m3 : Nat) (l3 : Nat) (u3 : Nat) (mk0 : Int32) (mr0 : Int32) (mk1 : Int32) (mr1 : Int32) (mk2 : Int32) (mr2 : Int32) (mk3 : Int32) (mr3 : Int32) (fl0 : Nat → Int32) (fl1 : Nat → Int32) (fl2 : Nat → Int32) (fl3 : Nat → Int32) (fn0 : Nat → Int64) (fn1 : Nat → Int64) (fn2 : Nat → Int64) (fn3 : Nat → Int64) (a1 : Int32) (a2 : Int32) (a3 : Int32) (a4 : Int32) (hmr0 : mr0.toInt = -9 ∨ (0 ≤ mr0.toInt ∧ mr0.toInt ≤ 6)) (hmr1 : mr1.toInt = -9 ∨ (0 ≤ mr1.toInt ∧ mr1.toInt ≤ 6)) (hmr2 : mr2.toInt = -9 ∨ (0 ≤ mr2.toInt ∧ mr2.toInt ≤ 6)) (hmr3 : mr3.toInt = -9 ∨ (0 ≤ mr3.toInt ∧ mr3.toInt ≤ 6)) (r_fl0 : rng fl0 6 (-9) (5)) (r_fl1 : rng fl1 6 (-9) (5)) (r_fl2 : rng fl2 6 (-9) (5)) (r_fl3 : rng fl3 6 (-9) (5)) : Met l yX11_item wsX11_item ({ frames := 2, cells := 0, slots := 0, locals := 45 }) (va_Pc [.ref xo, .int a1, .int a2, .int a3, .int a4] (fun U => U.heap.size = sz ∧ va_P D vwCl [ob11_0_ xo xk xn xc xh xt xw xm xp pf ph tr fi, aq_ cy 4 xm 4 (mf_ m0 m1 m2 m3), ob4_0_ m0 mk0 mr0 l0 u0, ob4_0_ m1 mk1 mr1 l1 u1, ob4_0_ m2 mk2 mr2 l2 u2, ob4_0_ m3 mk3 mr3 l3 u3, ai_ cy l0 6 fl0, ai_ cy l1 6 fl1, ai_ cy l2 6 fl2, ai_ cy l3 6 fl3, aj_ cy u0 30 fn0, aj_ cy u1 30 fn1, aj_ cy u2 30 fn2, aj_ cy u3 30 fn3] U.heap ∧ kk_ D cy U ∧ va_D (fun _ => True) [ob11_0_ xo xk xn xc xh xt xw xm xp pf ph tr fi, aq_ cy 4 xm 4 (mf_ m0 m1 m2 m3), ob4_0_ m0 mk0 mr0 l0 u0, ob4_0_ m1 mk1 mr1 l1 u1, ob4_0_ m2 mk2 mr2 l2 u2, ob4_0_ m3 mk3 mr3 l3 u3, ai_ cy l0 6 fl0, ai_ cy l1 6 fl1, ai_ cy l2 6 fl2, ai_ cy l3 6 fl3, aj_ cy u0 30 fn0, aj_ cy u1 30 fn1, aj_ cy u2 30 fn2, aj_ cy u3 30 fn3])) (va_Ql (fun (r : Int64) (_ : Unit) => ((wrgI a1.toInt a2.toInt a3.toInt a4.toInt (hasI ((f4_ mr0 mr1 mr2 mr3) a1.toNatClampNeg).toInt) ((f4_ mk0 mk1 mk2 mk3) a1.toNatClampNeg).toInt ((f4_ mr0 mr1 mr2 mr3) a1.toNatClampNeg).toInt ((f4_ fl0 fl1 fl2 fl3) a1.toNatClampNeg a3.toNatClampNeg).toInt ≠ 0 → r = 0) ∧ (wrgI a1.toInt a2.toInt a3.toInt a4.toInt (hasI ((f4_ mr0 mr1 mr2 mr3) a1.toNatClampNeg).toInt) ((f4_ mk0 mk1 mk2 mk3) a1.toNatClampNeg).toInt ((f4_ mr0 mr1 mr2 mr3) a1.toNatClampNeg).toInt ((f4_ fl0 fl1 fl2 fl3) a1.toNatClampNeg a3.toNatClampNeg).toInt = 0 → r = (f4_ fn0 fn1 fn2 fn3) a1.toNatClampNeg (5 * a3.toInt + a4.toInt).toNat))) (fun (_ : Unit) (t : State) => ∃ (efi : Int32), (efi.toInt = wrgI a1.toInt a2.toInt a3.toInt a4.toInt (hasI ((f4_ mr0 mr1 mr2 mr3) a1.toNatClampNeg).toInt) ((f4_ mk0 mk1 mk2 mk3) a1.toNatClampNeg).toInt ((f4_ mr0 mr1 mr2 mr3) a1.toNatClampNeg).toInt ((f4_ fl0 fl1 fl2 fl3) a1.toNatClampNeg a3.toNatClampNeg).toInt) ∧ va_P D vwCl [ob11_0_ xo xk xn xc xh xt xw xm xp pf ph tr efi, aq_ cy 4 xm 4 (mf_ m0 m1 m2 m3), ob4_0_ m0 mk0 mr0 l0 u0, ob4_0_ m1 mk1 mr1 l1 u1, ob4_0_ m2 mk2 mr2 l2 u2, ob4_0_ m3 mk3 mr3 l3 u3, ai_ cy l0 6 fl0, ai_ cy l1 6 fl1, ai_ cy l2 6 fl2, ai_ cy l3 6 fl3, aj_ cy u0 30 fn0, aj_ cy u1 30 fn1, aj_ cy u2 30 fn2, aj_ cy u3 30 fn3] t.heap ∧ va_D (va_A [ob11_0_ xo xk xn xc xh xt xw xm xp pf ph tr fi, aq_ cy 4 xm 4 (mf_ m0 m1 m2 m3), ob4_0_ m0 mk0 mr0 l0 u0, ob4_0_ m1 mk1 mr1 l1 u1, ob4_0_ m2 mk2 mr2 l2 u2, ob4_0_ m3 mk3 mr3 l3 u3, ai_ cy l0 6 fl0, ai_ cy l1 6 fl1, ai_ cy l2 6 fl2, ai_ cy l3 6 fl3, aj_ cy u0 30 fn0, aj_ cy u1 30 fn1, aj_ cy u2 30 fn2, aj_ cy u3 30 fn3] sz) [ob11_0_ xo xk xn xc xh xt xw xm xp pf ph tr efi, aq_ cy 4 xm 4 (mf_ m0 m1 m2 m3), ob4_0_ m0 mk0 mr0 l0 u0, ob4_0_ m1 mk1 mr1 l1 u1, ob4_0_ m2 mk2 mr2 l2 u2, ob4_0_ m3 mk3 mr3 l3 u3, ai_ cy l0 6 fl0, ai_ cy l1 6 fl1, ai_ cy l2 6 fl2, ai_ cy l3 6 fl3, aj_ cy u0 30 fn0, aj_ cy u1 30 fn1, aj_ cy u2 30 fn2, aj_ cy u3 30 fn3]) (va_A [ob11_0_ xo xk xn xc xh xt xw xm xp pf ph tr fi, aq_ cy 4 xm 4 (mf_ m0 m1 m2 m3), ob4_0_ m0 mk0 mr0 l0 u0, ob4_0_ m1 mk1 mr1 l1 u1, ob4_0_ m2 mk2 mr2 l2 u2, ob4_0_ m3 mk3 mr3 l3 u3, ai_ cy l0 6 fl0, ai_ cy l1 6 fl1, ai_ cy l2 6 fl2, ai_ cy l3 6 fl3, aj_ cy u0 30 fn0, aj_ cy u1 30 fn1, aj_ cy u2 30 fn2, aj_ cy u3 30 fn3] sz)) 0 0 (va_A [ob11_0_ xo xk xn xc xh xt xw xm xp pf ph tr fi, aq_ cy 4 xm 4 (mf_ m0 m1 m2 m3), ob4_0_ m0 mk0 mr0 l0 u0, ob4_0_ m1 mk1 mr1 l1 u1, ob4_0_ m2 mk2 mr2 l2 u2, ob4_0_ m3 mk3 mr3 l3 u3, ai_ cy l0 6 fl0, ai_ cy l1 6 fl1, ai_ cy l2 6 fl2, ai_ cy l3 6 fl3, aj_ cy u0 30 fn0, aj_ cy u1 30 fn1, aj_ cy u2 30 fn2, aj_ cy u3 30 fn3] sz) := by
  refine ofQ (cc := cX11_item) (maxL := 5) (ret := (some .long)) (by decide) rfl ?_
  intro p e s m args below meth c s₁ Q hQ B hml hv
  obtain ⟨rfl, hsz, hP, hK, hD0⟩ := hv
  have hx := B.exec
  have hb := B.bytes
  have hr := B.returns
  have hts := atoms_spec (ws := wsX11_item) B.pre
  have hown : s.vm.findClass RX11 = some m.cls := by have h_ := findClass_of_methodNamed B.named; exact h_
  have hlocks := B.notSynchronized
  subst hsz
  have hD := hD0.self (sz := s.heap.size)
  generalize hAe : va_A [ob11_0_ xo xk xn xc xh xt xw xm xp pf ph tr fi, aq_ cy 4 xm 4 (mf_ m0 m1 m2 m3), ob4_0_ m0 mk0 mr0 l0 u0, ob4_0_ m1 mk1 mr1 l1 u1, ob4_0_ m2 mk2 mr2 l2 u2, ob4_0_ m3 mk3 mr3 l3 u3, ai_ cy l0 6 fl0, ai_ cy l1 6 fl1, ai_ cy l2 6 fl2, ai_ cy l3 6 fl3, aj_ cy u0 30 fn0, aj_ cy u1 30 fn1, aj_ cy u2 30 fn2, aj_ cy u3 30 fn3] s.heap.size = A at hD hQ
  have hA : ∀ q : Nat, s.heap.size ≤ q → A q := fun q h => by rw [← hAe]; exact Or.inr h
  have hS : va_S A s.heap s.heap [] := va_S.rf
  have hl := lv_entry ([.ref xo, .int a1, .int a2, .int a3, .int a4]) (n := 5) (Nat.le_of_ble_eq_true rfl)
  rw [lg_entry_eq]
  generalize (lg_sl ([.ref xo, .int a1, .int a2, .int a3, .int a4]) ++ List.replicate (5 - (lg_sl ([.ref xo, .int a1, .int a2, .int a3, .int a4])).length) Slot.unset).toArray = ls at hl ⊢
  have hl : lv_has ls 5 [(0, .ref xo), (1, .int a1), (2, .int a2), (3, .int a3), (4, .int a4)] := hl
  have z0 : (0 : Int32).toInt = 0 := by decide
  have zl0 : (0 : Int64).toInt = 0 := by decide
  refine lv_aload_n hx hb dB_36_3_24.1.1.1.1 rfl (lv_at hl 0 rfl) ?_
  refine lv_aload_n hx hb dB_36_3_24.1.1.1.2 rfl (lv_at hl 0 rfl) ?_
  refine lv_iload_n hx hb dB_36_3_24.1.1.2.1 rfl (lv_at hl 1 rfl) ?_
  refine lv_iload_n hx hb dB_36_3_24.1.1.2.2 rfl (lv_at hl 2 rfl) ?_
  refine lv_iload_n hx hb dB_36_3_24.1.2.1.1 rfl (lv_at hl 3 rfl) ?_
  refine lv_iload hx hb dB_36_3_24.1.2.1.2 (lv_at hl 4 rfl) ?_
  refine ct_R hP hD [ob11_0_ xo xk xn xc xh xt xw xm xp pf ph tr fi, aq_ cy 4 xm 4 (mf_ m0 m1 m2 m3), ob4_0_ m0 mk0 mr0 l0 u0, ob4_0_ m1 mk1 mr1 l1 u1, ob4_0_ m2 mk2 mr2 l2 u2, ob4_0_ m3 mk3 mr3 l3 u3, ai_ cy l0 6 fl0, ai_ cy l1 6 fl1, ai_ cy l2 6 fl2, ai_ cy l3 6 fl3] [0, 1, 2, 3, 4, 5, 6, 7, 8, 9] (by decide) rfl (fun hPc hDw => ?_)
  have hFc := va_free (wc := []) hD hS hA [] rfl
  refine va_calli (va_runV (As := [.int a1, .int a2, .int a3, .int a4]) (rest := [.ref xo]) ⟨hx, hb, hml, hown, hts⟩ (c_X11_numberRefusal2 l D cy s.heap.size xo xk xn xc xh xt xw xm xp pf ph tr fi m0 l0 u0 m1 l1 u1 m2 l2 u2 m3 l3 u3 mk0 mr0 mk1 mr1 mk2 mr2 mk3 mr3 fl0 fl1 fl2 fl3 a1 a2 a3 a4 (by first | with_reducible assumption | assumption | omega) (by first | with_reducible assumption | assumption | omega) (by first | with_reducible assumption | assumption | omega) (by first | with_reducible assumption | assumption | omega) (by first | with_reducible assumption | assumption | omega) (by first | with_reducible assumption | assumption | omega) (by first | with_reducible assumption | assumption | omega) (by first | with_reducible assumption | assumption | omega)) (cwV 4 hts gX11_item_X11_numberRefusal rfl rfl rfl ⟨rfl, hd_X11_numberRefusal⟩ ⟨Nat.le_of_ble_eq_true rfl, Nat.le_of_ble_eq_true rfl⟩) ⟨bl_, va_recvX hK.1 hP (ci := 11) (q0 := 0) rfl rfl, fun U hU hW => ⟨rfl, by rw [hU], by rw [hU]; exact hPc, kk_mv hW hK, hDw⟩⟩ rfl rfl hl.1 rfl (lv_room (Nat.le_of_ble_eq_true rfl)) dB_36_3_24.1.2.2.1 ⟨Nat.le_of_ble_eq_true rfl, Nat.le_of_ble_eq_true rfl⟩) hS (fun q _ h => hFc q h) hFc (fun r_1 u t H locs ht hvm hw hB hz1 hk1 hS => ?_)
  have hP : va_P D vwCl _ H := ro_keep hP hk1
  obtain ⟨f0_r_1, f1_r_1⟩ := hw
  refine va_put (ci := 11) (v := .int r_1) (ty := .int) (C := RX11) (T := TX11) (N := 12) hx hb hts (fun _ h => List.mem_cons_of_mem _ (List.mem_append_left _ (List.mem_append_right _ h))) tyX11 tyX11_ok nmX11 hown hK.1 hP hD hS 0 rfl rfl 11 (by decide) (hts (.fieldLink RX11 91 "CutAtlas" "finding" "I") (List.mem_of_getElem? (i := 1) rfl)) (fun _ h9 => h9) rfl (by decide +kernel) rfl rfl (Nat.le_of_ble_eq_true rfl) dB_36_3_24.1.2.2.2 (fun H locs hP hD hS => ?_)
  refine pd_K [ob11_0_ xo xk xn xc xh xt xw xm xp pf ph tr r_1, aq_ cy 4 xm 4 (mf_ m0 m1 m2 m3), ob4_0_ m0 mk0 mr0 l0 u0, ob4_0_ m1 mk1 mr1 l1 u1, ob4_0_ m2 mk2 mr2 l2 u2, ob4_0_ m3 mk3 mr3 l3 u3, ai_ cy l0 6 fl0, ai_ cy l1 6 fl1, ai_ cy l2 6 fl2, ai_ cy l3 6 fl3, aj_ cy u0 30 fn0, aj_ cy u1 30 fn1, aj_ cy u2 30 fn2, aj_ cy u3 30 fn3] hP hD (fun hP hD => ?_)
  refine lv_aload_n hx hb dB_36_3_24.2.1.1.1 rfl (lv_at hl 0 rfl) ?_
  refine va_get (ci := 11) (v := .int r_1) (C := RX11) (T := TX11) (N := 12) hx hb hts (fun _ h => List.mem_cons_of_mem _ (List.mem_append_left _ (List.mem_append_right _ h))) hown hK.1 hP 0 rfl rfl 11 (by decide) (hts (.fieldLink RX11 91 "CutAtlas" "finding" "I") (List.mem_of_getElem? (i := 1) rfl)) (fun _ h9 => h9) rfl dB_36_3_24.2.1.1.2 ?_
  refine lv_if_eq (tgt := 22) hx hb dB_36_3_24.2.1.2.1 (by decide) (fun c_2 => ?_) (fun c_2 => ?_)
  · have t_2 : r_1.toInt = (0 : Int32).toInt := congrArg Int32.toInt c_2
    rcases sp_4 (x := a1) (by omega) with rfl | rfl | rfl | rfl
    · refine lv_aload_n hx hb dB_36_3_24.2.2.1.2 rfl (lv_at hl 0 rfl) ?_
      refine va_get (ci := 11) (v := .ref xm) (C := RX11) (T := TX11) (N := 12) hx hb hts (fun _ h => List.mem_cons_of_mem _ (List.mem_append_left _ (List.mem_append_right _ h))) hown hK.1 hP 0 rfl rfl 6 (by decide) (hts (.fieldLink RX11 72 "CutAtlas" "maps" "[LCutAtlas$NumberMap;") (List.mem_of_getElem? (i := 2) rfl)) (fun _ h9 => h9) rfl dB_36_3_24.2.2.2.1 ?_
      refine lv_iload_n hx hb dB_36_3_24.2.2.2.2 rfl (lv_at hl 1 rfl) ?_
      refine va_aldq hx hb hK.1 hP 1 4 rfl rfl (i := 0) (by unfold vp_in; decide) dB_36_3_25.1.1 ?_
      refine lv_topv (v' := .ref m0) (by simp [va_up, va_rf, mf_, cl_0, cl_1, cl_2, cl_3, cl_4]) ?_
      refine lv_iload_n hx hb dB_36_3_25.1.2 rfl (lv_at hl 3 rfl) ?_
      refine lv_iload hx hb dB_36_3_25.2.1 (lv_at hl 4 rfl) ?_
      refine ct_R hP hD [ob4_0_ m0 mk0 mr0 l0 u0, aj_ cy u0 30 fn0] [2, 10] (by decide) rfl (fun hPc hDw => ?_)
      have hFc := va_free (wc := []) hD hS hA [] rfl
      refine va_calll (va_runV (As := [.int a3, .int a4]) (rest := []) ⟨hx, hb, hml, hown, hts⟩ (c_X4_number l D cy H.size m0 l0 u0 mk0 mr0 fn0 a3 a4 (by first | with_reducible assumption | omega | assumption) (by first | with_reducible assumption | omega | assumption)) (cwV 2 hts gX11_item_X4_number rfl rfl rfl ⟨rfl, hd_X4_number⟩ ⟨Nat.le_of_ble_eq_true rfl, Nat.le_of_ble_eq_true rfl⟩) ⟨bl_, va_recvX hK.1 hP (ci := 4) (q0 := 2) rfl rfl, fun U hU hW => ⟨rfl, by rw [hU], by rw [hU]; exact hPc, kk_mv hW hK, hDw⟩⟩ rfl rfl hl.1 rfl (lv_room (Nat.le_of_ble_eq_true rfl)) dB_36_3_25.2.2.1 ⟨Nat.le_of_ble_eq_true rfl, Nat.le_of_ble_eq_true rfl⟩) hS (fun q _ h => hFc q h) hFc (fun r_3 u t H locs ht hvm hw hB hz1 hk1 hS => ?_)
      have hP : va_P D vwCl _ H := ro_keep hP hk1
      have f0_r_3 := hw
      rw [hQ]
      exact W.lret (v := r_3) hx hb hr (fun t ht hW => ⟨⟨r_3, (), rfl, (by first | exact ⟨fun _ => rfl, fun h => absurd h (by omega)⟩ | exact ⟨fun h => absurd (by omega) h, fun _ => by rw [f4_c0]; assumption⟩ | exact ⟨fun h => absurd (by omega) h, fun _ => by rw [f4_c1]; assumption⟩ | exact ⟨fun h => absurd (by omega) h, fun _ => by rw [f4_c2]; assumption⟩ | exact ⟨fun h => absurd (by omega) h, fun _ => by rw [f4_c3]; assumption⟩), r_1, (by assumption), by rw [ht]; exact hP, hD⟩, hS.F ht⟩) hS.2.2 dB_36_3_25.2.2.2
    · refine lv_aload_n hx hb dB_36_3_24.2.2.1.2 rfl (lv_at hl 0 rfl) ?_
      refine va_get (ci := 11) (v := .ref xm) (C := RX11) (T := TX11) (N := 12) hx hb hts (fun _ h => List.mem_cons_of_mem _ (List.mem_append_left _ (List.mem_append_right _ h))) hown hK.1 hP 0 rfl rfl 6 (by decide) (hts (.fieldLink RX11 72 "CutAtlas" "maps" "[LCutAtlas$NumberMap;") (List.mem_of_getElem? (i := 2) rfl)) (fun _ h9 => h9) rfl dB_36_3_24.2.2.2.1 ?_
      refine lv_iload_n hx hb dB_36_3_24.2.2.2.2 rfl (lv_at hl 1 rfl) ?_
      refine va_aldq hx hb hK.1 hP 1 4 rfl rfl (i := 1) (by unfold vp_in; decide) dB_36_3_25.1.1 ?_
      refine lv_topv (v' := .ref m1) (by simp [va_up, va_rf, mf_, cl_0, cl_1, cl_2, cl_3, cl_4]) ?_
      refine lv_iload_n hx hb dB_36_3_25.1.2 rfl (lv_at hl 3 rfl) ?_
      refine lv_iload hx hb dB_36_3_25.2.1 (lv_at hl 4 rfl) ?_
      refine ct_R hP hD [ob4_0_ m1 mk1 mr1 l1 u1, aj_ cy u1 30 fn1] [3, 11] (by decide) rfl (fun hPc hDw => ?_)
      have hFc := va_free (wc := []) hD hS hA [] rfl
      refine va_calll (va_runV (As := [.int a3, .int a4]) (rest := []) ⟨hx, hb, hml, hown, hts⟩ (c_X4_number l D cy H.size m1 l1 u1 mk1 mr1 fn1 a3 a4 (by first | with_reducible assumption | omega | assumption) (by first | with_reducible assumption | omega | assumption)) (cwV 2 hts gX11_item_X4_number rfl rfl rfl ⟨rfl, hd_X4_number⟩ ⟨Nat.le_of_ble_eq_true rfl, Nat.le_of_ble_eq_true rfl⟩) ⟨bl_, va_recvX hK.1 hP (ci := 4) (q0 := 3) rfl rfl, fun U hU hW => ⟨rfl, by rw [hU], by rw [hU]; exact hPc, kk_mv hW hK, hDw⟩⟩ rfl rfl hl.1 rfl (lv_room (Nat.le_of_ble_eq_true rfl)) dB_36_3_25.2.2.1 ⟨Nat.le_of_ble_eq_true rfl, Nat.le_of_ble_eq_true rfl⟩) hS (fun q _ h => hFc q h) hFc (fun r_4 u t H locs ht hvm hw hB hz1 hk1 hS => ?_)
      have hP : va_P D vwCl _ H := ro_keep hP hk1
      have f0_r_4 := hw
      rw [hQ]
      exact W.lret (v := r_4) hx hb hr (fun t ht hW => ⟨⟨r_4, (), rfl, (by first | exact ⟨fun _ => rfl, fun h => absurd h (by omega)⟩ | exact ⟨fun h => absurd (by omega) h, fun _ => by rw [f4_c0]; assumption⟩ | exact ⟨fun h => absurd (by omega) h, fun _ => by rw [f4_c1]; assumption⟩ | exact ⟨fun h => absurd (by omega) h, fun _ => by rw [f4_c2]; assumption⟩ | exact ⟨fun h => absurd (by omega) h, fun _ => by rw [f4_c3]; assumption⟩), r_1, (by assumption), by rw [ht]; exact hP, hD⟩, hS.F ht⟩) hS.2.2 dB_36_3_25.2.2.2
    · refine lv_aload_n hx hb dB_36_3_24.2.2.1.2 rfl (lv_at hl 0 rfl) ?_
      refine va_get (ci := 11) (v := .ref xm) (C := RX11) (T := TX11) (N := 12) hx hb hts (fun _ h => List.mem_cons_of_mem _ (List.mem_append_left _ (List.mem_append_right _ h))) hown hK.1 hP 0 rfl rfl 6 (by decide) (hts (.fieldLink RX11 72 "CutAtlas" "maps" "[LCutAtlas$NumberMap;") (List.mem_of_getElem? (i := 2) rfl)) (fun _ h9 => h9) rfl dB_36_3_24.2.2.2.1 ?_
      refine lv_iload_n hx hb dB_36_3_24.2.2.2.2 rfl (lv_at hl 1 rfl) ?_
      refine va_aldq hx hb hK.1 hP 1 4 rfl rfl (i := 2) (by unfold vp_in; decide) dB_36_3_25.1.1 ?_
      refine lv_topv (v' := .ref m2) (by simp [va_up, va_rf, mf_, cl_0, cl_1, cl_2, cl_3, cl_4]) ?_
      refine lv_iload_n hx hb dB_36_3_25.1.2 rfl (lv_at hl 3 rfl) ?_
      refine lv_iload hx hb dB_36_3_25.2.1 (lv_at hl 4 rfl) ?_
      refine ct_R hP hD [ob4_0_ m2 mk2 mr2 l2 u2, aj_ cy u2 30 fn2] [4, 12] (by decide) rfl (fun hPc hDw => ?_)
      have hFc := va_free (wc := []) hD hS hA [] rfl
      refine va_calll (va_runV (As := [.int a3, .int a4]) (rest := []) ⟨hx, hb, hml, hown, hts⟩ (c_X4_number l D cy H.size m2 l2 u2 mk2 mr2 fn2 a3 a4 (by first | with_reducible assumption | omega | assumption) (by first | with_reducible assumption | omega | assumption)) (cwV 2 hts gX11_item_X4_number rfl rfl rfl ⟨rfl, hd_X4_number⟩ ⟨Nat.le_of_ble_eq_true rfl, Nat.le_of_ble_eq_true rfl⟩) ⟨bl_, va_recvX hK.1 hP (ci := 4) (q0 := 4) rfl rfl, fun U hU hW => ⟨rfl, by rw [hU], by rw [hU]; exact hPc, kk_mv hW hK, hDw⟩⟩ rfl rfl hl.1 rfl (lv_room (Nat.le_of_ble_eq_true rfl)) dB_36_3_25.2.2.1 ⟨Nat.le_of_ble_eq_true rfl, Nat.le_of_ble_eq_true rfl⟩) hS (fun q _ h => hFc q h) hFc (fun r_5 u t H locs ht hvm hw hB hz1 hk1 hS => ?_)
      have hP : va_P D vwCl _ H := ro_keep hP hk1
      have f0_r_5 := hw
      rw [hQ]
      exact W.lret (v := r_5) hx hb hr (fun t ht hW => ⟨⟨r_5, (), rfl, (by first | exact ⟨fun _ => rfl, fun h => absurd h (by omega)⟩ | exact ⟨fun h => absurd (by omega) h, fun _ => by rw [f4_c0]; assumption⟩ | exact ⟨fun h => absurd (by omega) h, fun _ => by rw [f4_c1]; assumption⟩ | exact ⟨fun h => absurd (by omega) h, fun _ => by rw [f4_c2]; assumption⟩ | exact ⟨fun h => absurd (by omega) h, fun _ => by rw [f4_c3]; assumption⟩), r_1, (by assumption), by rw [ht]; exact hP, hD⟩, hS.F ht⟩) hS.2.2 dB_36_3_25.2.2.2
    · refine lv_aload_n hx hb dB_36_3_24.2.2.1.2 rfl (lv_at hl 0 rfl) ?_
      refine va_get (ci := 11) (v := .ref xm) (C := RX11) (T := TX11) (N := 12) hx hb hts (fun _ h => List.mem_cons_of_mem _ (List.mem_append_left _ (List.mem_append_right _ h))) hown hK.1 hP 0 rfl rfl 6 (by decide) (hts (.fieldLink RX11 72 "CutAtlas" "maps" "[LCutAtlas$NumberMap;") (List.mem_of_getElem? (i := 2) rfl)) (fun _ h9 => h9) rfl dB_36_3_24.2.2.2.1 ?_
      refine lv_iload_n hx hb dB_36_3_24.2.2.2.2 rfl (lv_at hl 1 rfl) ?_
      refine va_aldq hx hb hK.1 hP 1 4 rfl rfl (i := 3) (by unfold vp_in; decide) dB_36_3_25.1.1 ?_
      refine lv_topv (v' := .ref m3) (by simp [va_up, va_rf, mf_, cl_0, cl_1, cl_2, cl_3, cl_4]) ?_
      refine lv_iload_n hx hb dB_36_3_25.1.2 rfl (lv_at hl 3 rfl) ?_
      refine lv_iload hx hb dB_36_3_25.2.1 (lv_at hl 4 rfl) ?_
      refine ct_R hP hD [ob4_0_ m3 mk3 mr3 l3 u3, aj_ cy u3 30 fn3] [5, 13] (by decide) rfl (fun hPc hDw => ?_)
      have hFc := va_free (wc := []) hD hS hA [] rfl
      refine va_calll (va_runV (As := [.int a3, .int a4]) (rest := []) ⟨hx, hb, hml, hown, hts⟩ (c_X4_number l D cy H.size m3 l3 u3 mk3 mr3 fn3 a3 a4 (by first | with_reducible assumption | omega | assumption) (by first | with_reducible assumption | omega | assumption)) (cwV 2 hts gX11_item_X4_number rfl rfl rfl ⟨rfl, hd_X4_number⟩ ⟨Nat.le_of_ble_eq_true rfl, Nat.le_of_ble_eq_true rfl⟩) ⟨bl_, va_recvX hK.1 hP (ci := 4) (q0 := 5) rfl rfl, fun U hU hW => ⟨rfl, by rw [hU], by rw [hU]; exact hPc, kk_mv hW hK, hDw⟩⟩ rfl rfl hl.1 rfl (lv_room (Nat.le_of_ble_eq_true rfl)) dB_36_3_25.2.2.1 ⟨Nat.le_of_ble_eq_true rfl, Nat.le_of_ble_eq_true rfl⟩) hS (fun q _ h => hFc q h) hFc (fun r_6 u t H locs ht hvm hw hB hz1 hk1 hS => ?_)
      have hP : va_P D vwCl _ H := ro_keep hP hk1
      have f0_r_6 := hw
      rw [hQ]
      exact W.lret (v := r_6) hx hb hr (fun t ht hW => ⟨⟨r_6, (), rfl, (by first | exact ⟨fun _ => rfl, fun h => absurd h (by omega)⟩ | exact ⟨fun h => absurd (by omega) h, fun _ => by rw [f4_c0]; assumption⟩ | exact ⟨fun h => absurd (by omega) h, fun _ => by rw [f4_c1]; assumption⟩ | exact ⟨fun h => absurd (by omega) h, fun _ => by rw [f4_c2]; assumption⟩ | exact ⟨fun h => absurd (by omega) h, fun _ => by rw [f4_c3]; assumption⟩), r_1, (by assumption), by rw [ht]; exact hP, hD⟩, hS.F ht⟩) hS.2.2 dB_36_3_25.2.2.2
  · have t_2 : ¬ r_1.toInt = (0 : Int32).toInt := fun h => c_2 (Int32.toInt_inj.mp h)
    refine lv_lconst (v := 0) hx hb dB_36_3_24.2.1.2.2 (by decide) ?_
    rw [hQ]
    exact W.lret (v := 0) hx hb hr (fun t ht hW => ⟨⟨0, (), rfl, (by first | exact ⟨fun _ => rfl, fun h => absurd h (by omega)⟩ | exact ⟨fun h => absurd (by omega) h, fun _ => by rw [f4_c0]; assumption⟩ | exact ⟨fun h => absurd (by omega) h, fun _ => by rw [f4_c1]; assumption⟩ | exact ⟨fun h => absurd (by omega) h, fun _ => by rw [f4_c2]; assumption⟩ | exact ⟨fun h => absurd (by omega) h, fun _ => by rw [f4_c3]; assumption⟩), r_1, (by assumption), by rw [ht]; exact hP, hD⟩, hS.F ht⟩) hS.2.2 dB_36_3_24.2.2.1.1
end

section
set_option maxHeartbeats 4000000 in
set_option maxRecDepth 100000 in
theorem c_X11_copy2 (l : Launch) (D : va_G) (cy : Nat → ClassId) (sz : Nat) (xo : Nat) (xk : Nat) (xn : Nat) (xc : Nat) (xh : Nat) (xt : Nat) (xw : Nat) (xm : Nat) (xp : Nat) (pf : Int32) (ph : Int32) (tr : Int64) (fi : Int32) (m0 : Nat) (l0 : Nat) (u0 : Nat) (m1 : Nat) (l1 : Nat) (u1 : Nat) (m2 : Nat) (l2 : Nat) (u2 : Nat) (m3 : Nat) (l3 : Nat) (u3 : Nat) (mk0 : Int32) (mr0 : Int32) (mk1 : Int32) (mr1 : Int32) (mk2 : Int32) (mr2 : Int32) (mk3 : Int32) (mr3 : Int32) (fl0 : Nat → Int32) (fl1 : Nat → Int32) (fl2 : Nat → Int32) (fl3 : Nat → Int32) (fn0 : Nat → Int64) (fn1 : Nat → Int64) (fn2 : Nat → Int64) (fn3 : Nat → Int64) (a1 : Int32) (a2 : Int32) (a3 : Int32) (a4 : Int32) (a5 : Int32) (a6 : Int32) (hmr0 : mr0.toInt = -9 ∨ (0 ≤ mr0.toInt ∧ mr0.toInt ≤ 6)) (hmr1 : mr1.toInt = -9 ∨ (0 ≤ mr1.toInt ∧ mr1.toInt ≤ 6)) (hmr2 : mr2.toInt = -9 ∨ (0 ≤ mr2.toInt ∧ mr2.toInt ≤ 6)) (hmr3 : mr3.toInt = -9 ∨ (0 ≤ mr3.toInt ∧ mr3.toInt ≤ 6)) (r_fl0 : rng fl0 6 (-9) (5)) (r_fl1 : rng fl1 6 (-9) (5)) (r_fl2 : rng fl2 6 (-9) (5)) (r_fl3 : rng fl3 6 (-9) (5)) : Met l yX11_copy wsX11_copy ({ frames := 2, cells := 0, slots := 0, locals := 65 }) (va_Pc [.ref xo, .int a1, .int a2, .int a3, .int a4, .int a5, .int a6] (fun U => U.heap.size = sz ∧ va_P D vwCl [ob11_0_ xo xk xn xc xh xt xw xm xp pf ph tr fi, aq_ cy 4 xm 4 (mf_ m0 m1 m2 m3), ob4_0_ m0 mk0 mr0 l0 u0, ob4_0_ m1 mk1 mr1 l1 u1, ob4_0_ m2 mk2 mr2 l2 u2, ob4_0_ m3 mk3 mr3 l3 u3, ai_ cy l0 6 fl0, ai_ cy l1 6 fl1, ai_ cy l2 6 fl2, ai_ cy l3 6 fl3, aj_ cy u0 30 fn0, aj_ cy u1 30 fn1, aj_ cy u2 30 fn2, aj_ cy u3 30 fn3] U.heap ∧ kk_ D cy U ∧ va_D (fun _ => True) [ob11_0_ xo xk xn xc xh xt xw xm xp pf ph tr fi, aq_ cy 4 xm 4 (mf_ m0 m1 m2 m3), ob4_0_ m0 mk0 mr0 l0 u0, ob4_0_ m1 mk1 mr1 l1 u1, ob4_0_ m2 mk2 mr2 l2 u2, ob4_0_ m3 mk3 mr3 l3 u3, ai_ cy l0 6 fl0, ai_ cy l1 6 fl1, ai_ cy l2 6 fl2, ai_ cy l3 6 fl3, aj_ cy u0 30 fn0, aj_ cy u1 30 fn1, aj_ cy u2 30 fn2, aj_ cy u3 30 fn3])) (va_Qi (fun (r : Int32) (_ : Unit) => (r.toInt = if cpyI a1.toInt a2.toInt a3.toInt a4.toInt a5.toInt a6.toInt (hasI ((f4_ mr0 mr1 mr2 mr3) a1.toNatClampNeg).toInt) ((f4_ mr0 mr1 mr2 mr3) a1.toNatClampNeg).toInt ((f4_ fl0 fl1 fl2 fl3) a1.toNatClampNeg a2.toNatClampNeg).toInt ((f4_ fl0 fl1 fl2 fl3) a1.toNatClampNeg a4.toNatClampNeg).toInt = 0 then a6.toInt else cpyI a1.toInt a2.toInt a3.toInt a4.toInt a5.toInt a6.toInt (hasI ((f4_ mr0 mr1 mr2 mr3) a1.toNatClampNeg).toInt) ((f4_ mr0 mr1 mr2 mr3) a1.toNatClampNeg).toInt ((f4_ fl0 fl1 fl2 fl3) a1.toNatClampNeg a2.toNatClampNeg).toInt ((f4_ fl0 fl1 fl2 fl3) a1.toNatClampNeg a4.toNatClampNeg).toInt)) (fun (_ : Unit) (t : State) => ∃ (efi : Int32), ∃ (efn0 : Nat → Int64), ∃ (efn1 : Nat → Int64), ∃ (efn2 : Nat → Int64), ∃ (efn3 : Nat → Int64), (efi.toInt = cpyI a1.toInt a2.toInt a3.toInt a4.toInt a5.toInt a6.toInt (hasI ((f4_ mr0 mr1 mr2 mr3) a1.toNatClampNeg).toInt) ((f4_ mr0 mr1 mr2 mr3) a1.toNatClampNeg).toInt ((f4_ fl0 fl1 fl2 fl3) a1.toNatClampNeg a2.toNatClampNeg).toInt ((f4_ fl0 fl1 fl2 fl3) a1.toNatClampNeg a4.toNatClampNeg).toInt) ∧ ((efi.toInt ≠ 0 → eq4 (f4_ efn0 efn1 efn2 efn3) (f4_ fn0 fn1 fn2 fn3)) ∧ (efi.toInt = 0 → eq4 (f4_ efn0 efn1 efn2 efn3) (va_up (f4_ fn0 fn1 fn2 fn3) a1.toNatClampNeg (va_cpy ((f4_ fn0 fn1 fn2 fn3) a1.toNatClampNeg) ((f4_ fn0 fn1 fn2 fn3) a1.toNatClampNeg) (5 * a2.toInt + a3.toInt).toNat (5 * a4.toInt + a5.toInt).toNat a6.toNatClampNeg)))) ∧ va_P D vwCl [ob11_0_ xo xk xn xc xh xt xw xm xp pf ph tr efi, aq_ cy 4 xm 4 (mf_ m0 m1 m2 m3), ob4_0_ m0 mk0 mr0 l0 u0, ob4_0_ m1 mk1 mr1 l1 u1, ob4_0_ m2 mk2 mr2 l2 u2, ob4_0_ m3 mk3 mr3 l3 u3, ai_ cy l0 6 fl0, ai_ cy l1 6 fl1, ai_ cy l2 6 fl2, ai_ cy l3 6 fl3, aj_ cy u0 30 efn0, aj_ cy u1 30 efn1, aj_ cy u2 30 efn2, aj_ cy u3 30 efn3] t.heap ∧ va_D (va_A [ob11_0_ xo xk xn xc xh xt xw xm xp pf ph tr fi, aq_ cy 4 xm 4 (mf_ m0 m1 m2 m3), ob4_0_ m0 mk0 mr0 l0 u0, ob4_0_ m1 mk1 mr1 l1 u1, ob4_0_ m2 mk2 mr2 l2 u2, ob4_0_ m3 mk3 mr3 l3 u3, ai_ cy l0 6 fl0, ai_ cy l1 6 fl1, ai_ cy l2 6 fl2, ai_ cy l3 6 fl3, aj_ cy u0 30 fn0, aj_ cy u1 30 fn1, aj_ cy u2 30 fn2, aj_ cy u3 30 fn3] sz) [ob11_0_ xo xk xn xc xh xt xw xm xp pf ph tr efi, aq_ cy 4 xm 4 (mf_ m0 m1 m2 m3), ob4_0_ m0 mk0 mr0 l0 u0, ob4_0_ m1 mk1 mr1 l1 u1, ob4_0_ m2 mk2 mr2 l2 u2, ob4_0_ m3 mk3 mr3 l3 u3, ai_ cy l0 6 fl0, ai_ cy l1 6 fl1, ai_ cy l2 6 fl2, ai_ cy l3 6 fl3, aj_ cy u0 30 efn0, aj_ cy u1 30 efn1, aj_ cy u2 30 efn2, aj_ cy u3 30 efn3]) (va_A [ob11_0_ xo xk xn xc xh xt xw xm xp pf ph tr fi, aq_ cy 4 xm 4 (mf_ m0 m1 m2 m3), ob4_0_ m0 mk0 mr0 l0 u0, ob4_0_ m1 mk1 mr1 l1 u1, ob4_0_ m2 mk2 mr2 l2 u2, ob4_0_ m3 mk3 mr3 l3 u3, ai_ cy l0 6 fl0, ai_ cy l1 6 fl1, ai_ cy l2 6 fl2, ai_ cy l3 6 fl3, aj_ cy u0 30 fn0, aj_ cy u1 30 fn1, aj_ cy u2 30 fn2, aj_ cy u3 30 fn3] sz)) 0 0 (va_A [ob11_0_ xo xk xn xc xh xt xw xm xp pf ph tr fi, aq_ cy 4 xm 4 (mf_ m0 m1 m2 m3), ob4_0_ m0 mk0 mr0 l0 u0, ob4_0_ m1 mk1 mr1 l1 u1, ob4_0_ m2 mk2 mr2 l2 u2, ob4_0_ m3 mk3 mr3 l3 u3, ai_ cy l0 6 fl0, ai_ cy l1 6 fl1, ai_ cy l2 6 fl2, ai_ cy l3 6 fl3, aj_ cy u0 30 fn0, aj_ cy u1 30 fn1, aj_ cy u2 30 fn2, aj_ cy u3 30 fn3] sz) := by
  refine ofQ (cc := cX11_copy) (maxL := 7) (ret := (some .int)) (by decide) rfl ?_
  intro p e s m args below meth c s₁ Q hQ B hml hv
  obtain ⟨rfl, hsz, hP, hK, hD0⟩ := hv
  have hx := B.exec
  have hb := B.bytes
  have hr := B.returns
  have hts := atoms_spec (ws := wsX11_copy) B.pre
  have hown : s.vm.findClass RX11 = some m.cls := by have h_ := findClass_of_methodNamed B.named; exact h_
  have hlocks := B.notSynchronized
  subst hsz
  have hD := hD0.self (sz := s.heap.size)
  generalize hAe : va_A [ob11_0_ xo xk xn xc xh xt xw xm xp pf ph tr fi, aq_ cy 4 xm 4 (mf_ m0 m1 m2 m3), ob4_0_ m0 mk0 mr0 l0 u0, ob4_0_ m1 mk1 mr1 l1 u1, ob4_0_ m2 mk2 mr2 l2 u2, ob4_0_ m3 mk3 mr3 l3 u3, ai_ cy l0 6 fl0, ai_ cy l1 6 fl1, ai_ cy l2 6 fl2, ai_ cy l3 6 fl3, aj_ cy u0 30 fn0, aj_ cy u1 30 fn1, aj_ cy u2 30 fn2, aj_ cy u3 30 fn3] s.heap.size = A at hD hQ
  have hA : ∀ q : Nat, s.heap.size ≤ q → A q := fun q h => by rw [← hAe]; exact Or.inr h
  have hS : va_S A s.heap s.heap [] := va_S.rf
  have hl := lv_entry ([.ref xo, .int a1, .int a2, .int a3, .int a4, .int a5, .int a6]) (n := 7) (Nat.le_of_ble_eq_true rfl)
  rw [lg_entry_eq]
  generalize (lg_sl ([.ref xo, .int a1, .int a2, .int a3, .int a4, .int a5, .int a6]) ++ List.replicate (7 - (lg_sl ([.ref xo, .int a1, .int a2, .int a3, .int a4, .int a5, .int a6])).length) Slot.unset).toArray = ls at hl ⊢
  have hl : lv_has ls 7 [(0, .ref xo), (1, .int a1), (2, .int a2), (3, .int a3), (4, .int a4), (5, .int a5), (6, .int a6)] := hl
  have zm1 : ((-1) : Int32).toInt = -1 := by decide
  have z0 : (0 : Int32).toInt = 0 := by decide
  refine lv_aload_n hx hb dB_36_3_8.1.1.1.1 rfl (lv_at hl 0 rfl) ?_
  refine lv_iload_n hx hb dB_36_3_8.1.1.1.2 rfl (lv_at hl 1 rfl) ?_
  refine ct_R hP hD [] [] (by decide) rfl (fun hPc hDw => ?_)
  have hFc := va_free (wc := []) hD hS hA [] rfl
  refine va_calli (va_runS (As := [.int a1]) (rest := [.ref xo]) ⟨hx, hb, hml, hown, hts⟩ (c_X11_isMapNumber l D cy s.heap.size a1) (va_cwS 1 hts gX11_copy_X11_isMapNumber rfl rfl rfl hd_X11_isMapNumber ⟨Nat.le_of_ble_eq_true rfl, Nat.le_of_ble_eq_true rfl⟩) ⟨bl_, fun U hU hW => ⟨rfl, by rw [hU], by rw [hU]; exact hPc, kk_mv hW hK, hDw⟩⟩ rfl rfl hl.1 rfl (lv_room (Nat.le_of_ble_eq_true rfl)) dB_36_3_8.1.1.2.1 ⟨Nat.le_of_ble_eq_true rfl, Nat.le_of_ble_eq_true rfl⟩) hS (fun q _ h => hFc q h) hFc (fun r_1 u t H locs ht hvm hw hB hz1 hk1 hS => ?_)
  have hP : va_P D vwCl _ H := ro_keep hP hk1
  rcases hw with ⟨w_2, e_⟩ | ⟨w_2, e_⟩
  · have e_ := e_.symm
    subst e_
    refine lv_if_eq (tgt := 28) hx hb dB_36_3_8.1.1.2.2 (by decide) (fun c_3 => ?_) (fun c_3 => ?_)
    · exact absurd c_3 (by decide)
    · have _ := c_3
      rcases sp_4 (x := a1) (by omega) with rfl | rfl | rfl | rfl
      · refine lv_aload_n hx hb dB_36_3_8.1.2.1.1 rfl (lv_at hl 0 rfl) ?_
        refine va_get (ci := 11) (v := .ref xm) (C := RX11) (T := TX11) (N := 12) hx hb hts (fun _ h => List.mem_cons_of_mem _ (List.mem_append_left _ (List.mem_append_right _ h))) hown hK.1 hP 0 rfl rfl 6 (by decide) (hts (.fieldLink RX11 72 "CutAtlas" "maps" "[LCutAtlas$NumberMap;") (List.mem_of_getElem? (i := 1) rfl)) (fun _ h9 => h9) rfl dB_36_3_8.1.2.1.2 ?_
        refine lv_iload_n hx hb dB_36_3_8.1.2.2.1 rfl (lv_at hl 1 rfl) ?_
        refine va_aldq hx hb hK.1 hP 1 4 rfl rfl (i := 0) (by unfold vp_in; decide) dB_36_3_8.1.2.2.2 ?_
        refine lv_topv (v' := .ref m0) (by simp [va_up, va_rf, mf_, cl_0, cl_1, cl_2, cl_3, cl_4]) ?_
        refine lv_iload_n hx hb dB_36_3_8.2.1.1.1 rfl (lv_at hl 2 rfl) ?_
        refine lv_iload_n hx hb dB_36_3_8.2.1.1.2 rfl (lv_at hl 3 rfl) ?_
        refine lv_iload hx hb dB_36_3_8.2.1.2.1 (lv_at hl 4 rfl) ?_
        refine lv_iload hx hb dB_36_3_8.2.1.2.2 (lv_at hl 5 rfl) ?_
        refine lv_iload hx hb dB_36_3_8.2.2.1.1 (lv_at hl 6 rfl) ?_
        refine ct_R hP hD [ob4_0_ m0 mk0 mr0 l0 u0, ai_ cy l0 6 fl0] [2, 6] (by decide) rfl (fun hPc hDw => ?_)
        have hFc := va_free (wc := []) hD hS hA [] rfl
        refine va_calli (va_runV (As := [.int a2, .int a3, .int a4, .int a5, .int a6]) (rest := [.ref xo]) ⟨hx, hb, hml, hown, hts⟩ (c_X4_moveRefusal2 l D cy H.size m0 l0 u0 mk0 mr0 fl0 a2 a3 a4 a5 a6 (by first | with_reducible assumption | assumption | omega) (by first | with_reducible assumption | assumption | omega)) (cwV 5 hts gX11_copy_X4_moveRefusal rfl rfl rfl ⟨rfl, hd_X4_moveRefusal⟩ ⟨Nat.le_of_ble_eq_true rfl, Nat.le_of_ble_eq_true rfl⟩) ⟨bl_, va_recvX hK.1 hP (ci := 4) (q0 := 2) rfl rfl, fun U hU hW => ⟨rfl, by rw [hU], by rw [hU]; exact hPc, kk_mv hW hK, hDw⟩⟩ rfl rfl hl.1 rfl (lv_room (Nat.le_of_ble_eq_true rfl)) dB_36_3_8.2.2.1.2 ⟨Nat.le_of_ble_eq_true rfl, Nat.le_of_ble_eq_true rfl⟩) hS (fun q _ h => hFc q h) hFc (fun r_4 u t H locs ht hvm hw hB hz1 hk1 hS => ?_)
        have hP : va_P D vwCl _ H := ro_keep hP hk1
        obtain ⟨f0_r_4, f1_r_4⟩ := hw
        have hrr_ := f0_r_4
        refine lv_goto (tgt := 29) hx hb dB_36_3_8.2.2.2.1 (by decide) ?_
        refine va_put (ci := 11) (v := .int r_4) (ty := .int) (C := RX11) (T := TX11) (N := 12) hx hb hts (fun _ h => List.mem_cons_of_mem _ (List.mem_append_left _ (List.mem_append_right _ h))) tyX11 tyX11_ok nmX11 hown hK.1 hP hD hS 0 rfl rfl 11 (by decide) (hts (.fieldLink RX11 91 "CutAtlas" "finding" "I") (List.mem_of_getElem? (i := 2) rfl)) (fun _ h9 => h9) rfl (by decide +kernel) rfl rfl (Nat.le_of_ble_eq_true rfl) dB_36_3_9.1.1.1.1 (fun H locs hP hD hS => ?_)
        refine pd_K [ob11_0_ xo xk xn xc xh xt xw xm xp pf ph tr r_4, aq_ cy 4 xm 4 (mf_ m0 m1 m2 m3), ob4_0_ m0 mk0 mr0 l0 u0, ob4_0_ m1 mk1 mr1 l1 u1, ob4_0_ m2 mk2 mr2 l2 u2, ob4_0_ m3 mk3 mr3 l3 u3, ai_ cy l0 6 fl0, ai_ cy l1 6 fl1, ai_ cy l2 6 fl2, ai_ cy l3 6 fl3, aj_ cy u0 30 fn0, aj_ cy u1 30 fn1, aj_ cy u2 30 fn2, aj_ cy u3 30 fn3] hP hD (fun hP hD => ?_)
        refine lv_aload_n hx hb dB_36_3_9.1.1.1.2 rfl (lv_at hl 0 rfl) ?_
        refine va_get (ci := 11) (v := .int r_4) (C := RX11) (T := TX11) (N := 12) hx hb hts (fun _ h => List.mem_cons_of_mem _ (List.mem_append_left _ (List.mem_append_right _ h))) hown hK.1 hP 0 rfl rfl 11 (by decide) (hts (.fieldLink RX11 91 "CutAtlas" "finding" "I") (List.mem_of_getElem? (i := 2) rfl)) (fun _ h9 => h9) rfl dB_36_3_9.1.1.2.1 ?_
        refine lv_if_eq (tgt := 44) hx hb dB_36_3_9.1.1.2.2 (by decide) (fun c_5 => ?_) (fun c_5 => ?_)
        · have t_5 : r_4.toInt = (0 : Int32).toInt := congrArg Int32.toInt c_5
          refine lv_aload_n hx hb dB_36_3_9.1.2.2.2 rfl (lv_at hl 0 rfl) ?_
          refine va_get (ci := 11) (v := .ref xm) (C := RX11) (T := TX11) (N := 12) hx hb hts (fun _ h => List.mem_cons_of_mem _ (List.mem_append_left _ (List.mem_append_right _ h))) hown hK.1 hP 0 rfl rfl 6 (by decide) (hts (.fieldLink RX11 72 "CutAtlas" "maps" "[LCutAtlas$NumberMap;") (List.mem_of_getElem? (i := 1) rfl)) (fun _ h9 => h9) rfl dB_36_3_9.2.1.1.1 ?_
          refine lv_iload_n hx hb dB_36_3_9.2.1.1.2 rfl (lv_at hl 1 rfl) ?_
          refine va_aldq hx hb hK.1 hP 1 4 rfl rfl (i := 0) (by unfold vp_in; decide) dB_36_3_9.2.1.2.1 ?_
          refine lv_topv (v' := .ref m0) (by simp [va_up, va_rf, mf_, cl_0, cl_1, cl_2, cl_3, cl_4]) ?_
          refine lv_iload_n hx hb dB_36_3_9.2.1.2.2 rfl (lv_at hl 2 rfl) ?_
          refine lv_iload_n hx hb dB_36_3_9.2.2.1.1 rfl (lv_at hl 3 rfl) ?_
          refine lv_iload hx hb dB_36_3_9.2.2.1.2 (lv_at hl 4 rfl) ?_
          refine lv_iload hx hb dB_36_3_9.2.2.2.1 (lv_at hl 5 rfl) ?_
          refine lv_iload hx hb dB_36_3_9.2.2.2.2 (lv_at hl 6 rfl) ?_
          refine ct_S hP hD hS hA [ob4_0_ m0 mk0 mr0 l0 u0, aj_ cy u0 30 fn0] [2, 10] (by decide) rfl (fun hPc hDw hFc hC_ => ?_)
          refine va_callv (va_runV (As := [.int a2, .int a3, .int a4, .int a5, .int a6]) (rest := []) ⟨hx, hb, hml, hown, hts⟩ (c_X4_move2 l D cy H.size m0 l0 u0 mk0 mr0 fn0 a2 a3 a4 a5 a6 (by first | with_reducible assumption | assumption | omega)) (cwV 5 hts gX11_copy_X4_move rfl rfl rfl ⟨rfl, hd_X4_move⟩ ⟨Nat.le_of_ble_eq_true rfl, Nat.le_of_ble_eq_true rfl⟩) ⟨bl_, va_recvX hK.1 hP (ci := 4) (q0 := 2) rfl rfl, fun U hU hW => ⟨rfl, by rw [hU], by rw [hU]; exact hPc, kk_mv hW hK, hDw⟩⟩ rfl rfl hl.1 rfl (lv_room (Nat.le_of_ble_eq_true rfl)) dB_36_3_10.1 ⟨Nat.le_of_ble_eq_true rfl, Nat.le_of_ble_eq_true rfl⟩) hS (fun q _ h => hFc q h) hFc (fun u t H locs ht hvm hw hB hz1 hk1 hS => ?_)
          obtain ⟨efn_7, g_8, hP1, hD1⟩ := hB
          rw [ht] at hP1
          obtain ⟨hP, hD⟩ := va_join (wr := [ob11_0_ xo xk xn xc xh xt xw xm xp pf ph tr r_4, aq_ cy 4 xm 4 (mf_ m0 m1 m2 m3), ob4_0_ m1 mk1 mr1 l1 u1, ob4_0_ m2 mk2 mr2 l2 u2, ob4_0_ m3 mk3 mr3 l3 u3, ai_ cy l0 6 fl0, ai_ cy l1 6 fl1, ai_ cy l2 6 fl2, ai_ cy l3 6 fl3, aj_ cy u1 30 fn1, aj_ cy u2 30 fn2, aj_ cy u3 30 fn3]) (w1 := [ob4_0_ m0 mk0 mr0 l0 u0, aj_ cy u0 30 efn_7]) hP hD [2, 10] [0, 1, 3, 4, 5, 6, 7, 8, 9, 11, 12, 13] hC_ rfl (by decide +kernel) (by decide +kernel) hk1 hFc hP1 hD1
          refine pd_S hP hD [ob11_0_ xo xk xn xc xh xt xw xm xp pf ph tr r_4, aq_ cy 4 xm 4 (mf_ m0 m1 m2 m3), ob4_0_ m0 mk0 mr0 l0 u0, ob4_0_ m1 mk1 mr1 l1 u1, ob4_0_ m2 mk2 mr2 l2 u2, ob4_0_ m3 mk3 mr3 l3 u3, ai_ cy l0 6 fl0, ai_ cy l1 6 fl1, ai_ cy l2 6 fl2, ai_ cy l3 6 fl3, aj_ cy u0 30 efn_7, aj_ cy u1 30 fn1, aj_ cy u2 30 fn2, aj_ cy u3 30 fn3] [0, 1, 12, 2, 3, 4, 5, 6, 7, 8, 13, 9, 10, 11] (by decide +kernel) rfl (fun hP hD => ?_)
          have hq1_ := g_8
          refine lv_iload hx hb dB_36_3_10.2.1 (lv_at hl 6 rfl) ?_
          rw [hQ]
          exact W.iret (v := a6) hx hb hr (fun t ht hW => ⟨⟨a6, (), rfl, (by first | (have hc_ : cpyI a1.toInt a2.toInt a3.toInt a4.toInt a5.toInt a6.toInt (hasI ((f4_ mr0 mr1 mr2 mr3) a1.toNatClampNeg).toInt) ((f4_ mr0 mr1 mr2 mr3) a1.toNatClampNeg).toInt ((f4_ fl0 fl1 fl2 fl3) a1.toNatClampNeg a2.toNatClampNeg).toInt ((f4_ fl0 fl1 fl2 fl3) a1.toNatClampNeg a4.toNatClampNeg).toInt = -1 := (by unfold cpyI; rw [if_pos (by omega)]); rw [if_neg (by omega), hc_]; decide) | (have hc_ := hrr_; rw [← cpyI_a (a := (0 : Int32).toInt) (by decide) (by decide)] at hc_; rw [f4_c0, f4_c0, ← hc_]; first | (rw [if_neg (by omega)]; done) | (rw [if_pos (by omega)]; done)) | (have hc_ := hrr_; rw [← cpyI_a (a := (1 : Int32).toInt) (by decide) (by decide)] at hc_; rw [f4_c1, f4_c1, ← hc_]; first | (rw [if_neg (by omega)]; done) | (rw [if_pos (by omega)]; done)) | (have hc_ := hrr_; rw [← cpyI_a (a := (2 : Int32).toInt) (by decide) (by decide)] at hc_; rw [f4_c2, f4_c2, ← hc_]; first | (rw [if_neg (by omega)]; done) | (rw [if_pos (by omega)]; done)) | (have hc_ := hrr_; rw [← cpyI_a (a := (3 : Int32).toInt) (by decide) (by decide)] at hc_; rw [f4_c3, f4_c3, ← hc_]; first | (rw [if_neg (by omega)]; done) | (rw [if_pos (by omega)]; done))), r_4, efn_7, fn1, fn2, fn3, (by first | (unfold cpyI; rw [if_pos (by omega)]; first | rfl | decide | omega) | (rw [f4_c0, f4_c0, cpyI_a (by decide) (by decide)]; assumption) | (rw [f4_c1, f4_c1, cpyI_a (by decide) (by decide)]; assumption) | (rw [f4_c2, f4_c2, cpyI_a (by decide) (by decide)]; assumption) | (rw [f4_c3, f4_c3, cpyI_a (by decide) (by decide)]; assumption)), (by first | exact ⟨fun _ => eq4_rf, fun h => absurd h (by first | omega | decide)⟩ | exact ⟨fun h => absurd (by first | omega | decide) h, fun _ => (by rw [f4_c0, ← hq1_]; exact f4_u0)⟩ | exact ⟨fun h => absurd (by first | omega | decide) h, fun _ => (by rw [f4_c1, ← hq1_]; exact f4_u1)⟩ | exact ⟨fun h => absurd (by first | omega | decide) h, fun _ => (by rw [f4_c2, ← hq1_]; exact f4_u2)⟩ | exact ⟨fun h => absurd (by first | omega | decide) h, fun _ => (by rw [f4_c3, ← hq1_]; exact f4_u3)⟩), by rw [ht]; exact hP, hD⟩, hS.F ht⟩) hS.2.2 dB_36_3_10.2.2
        · have t_5 : ¬ r_4.toInt = (0 : Int32).toInt := fun h => c_5 (Int32.toInt_inj.mp h)
          refine lv_aload_n hx hb dB_36_3_9.1.2.1.1 rfl (lv_at hl 0 rfl) ?_
          refine va_get (ci := 11) (v := .int r_4) (C := RX11) (T := TX11) (N := 12) hx hb hts (fun _ h => List.mem_cons_of_mem _ (List.mem_append_left _ (List.mem_append_right _ h))) hown hK.1 hP 0 rfl rfl 11 (by decide) (hts (.fieldLink RX11 91 "CutAtlas" "finding" "I") (List.mem_of_getElem? (i := 2) rfl)) (fun _ h9 => h9) rfl dB_36_3_9.1.2.1.2 ?_
          rw [hQ]
          exact W.iret (v := r_4) hx hb hr (fun t ht hW => ⟨⟨r_4, (), rfl, (by first | (have hc_ : cpyI a1.toInt a2.toInt a3.toInt a4.toInt a5.toInt a6.toInt (hasI ((f4_ mr0 mr1 mr2 mr3) a1.toNatClampNeg).toInt) ((f4_ mr0 mr1 mr2 mr3) a1.toNatClampNeg).toInt ((f4_ fl0 fl1 fl2 fl3) a1.toNatClampNeg a2.toNatClampNeg).toInt ((f4_ fl0 fl1 fl2 fl3) a1.toNatClampNeg a4.toNatClampNeg).toInt = -1 := (by unfold cpyI; rw [if_pos (by omega)]); rw [if_neg (by omega), hc_]; decide) | (have hc_ := hrr_; rw [← cpyI_a (a := (0 : Int32).toInt) (by decide) (by decide)] at hc_; rw [f4_c0, f4_c0, ← hc_]; first | (rw [if_neg (by omega)]; done) | (rw [if_pos (by omega)]; done)) | (have hc_ := hrr_; rw [← cpyI_a (a := (1 : Int32).toInt) (by decide) (by decide)] at hc_; rw [f4_c1, f4_c1, ← hc_]; first | (rw [if_neg (by omega)]; done) | (rw [if_pos (by omega)]; done)) | (have hc_ := hrr_; rw [← cpyI_a (a := (2 : Int32).toInt) (by decide) (by decide)] at hc_; rw [f4_c2, f4_c2, ← hc_]; first | (rw [if_neg (by omega)]; done) | (rw [if_pos (by omega)]; done)) | (have hc_ := hrr_; rw [← cpyI_a (a := (3 : Int32).toInt) (by decide) (by decide)] at hc_; rw [f4_c3, f4_c3, ← hc_]; first | (rw [if_neg (by omega)]; done) | (rw [if_pos (by omega)]; done))), r_4, fn0, fn1, fn2, fn3, (by first | (unfold cpyI; rw [if_pos (by omega)]; first | rfl | decide | omega) | (rw [f4_c0, f4_c0, cpyI_a (by decide) (by decide)]; assumption) | (rw [f4_c1, f4_c1, cpyI_a (by decide) (by decide)]; assumption) | (rw [f4_c2, f4_c2, cpyI_a (by decide) (by decide)]; assumption) | (rw [f4_c3, f4_c3, cpyI_a (by decide) (by decide)]; assumption)), (by first | exact ⟨fun _ => eq4_rf, fun h => absurd h (by first | omega | decide)⟩ | exact ⟨fun h => absurd (by first | omega | decide) h, fun _ => (by rw [f4_c0, ← hq1_]; exact f4_u0)⟩ | exact ⟨fun h => absurd (by first | omega | decide) h, fun _ => (by rw [f4_c1, ← hq1_]; exact f4_u1)⟩ | exact ⟨fun h => absurd (by first | omega | decide) h, fun _ => (by rw [f4_c2, ← hq1_]; exact f4_u2)⟩ | exact ⟨fun h => absurd (by first | omega | decide) h, fun _ => (by rw [f4_c3, ← hq1_]; exact f4_u3)⟩), by rw [ht]; exact hP, hD⟩, hS.F ht⟩) hS.2.2 dB_36_3_9.1.2.2.1
      · refine lv_aload_n hx hb dB_36_3_8.1.2.1.1 rfl (lv_at hl 0 rfl) ?_
        refine va_get (ci := 11) (v := .ref xm) (C := RX11) (T := TX11) (N := 12) hx hb hts (fun _ h => List.mem_cons_of_mem _ (List.mem_append_left _ (List.mem_append_right _ h))) hown hK.1 hP 0 rfl rfl 6 (by decide) (hts (.fieldLink RX11 72 "CutAtlas" "maps" "[LCutAtlas$NumberMap;") (List.mem_of_getElem? (i := 1) rfl)) (fun _ h9 => h9) rfl dB_36_3_8.1.2.1.2 ?_
        refine lv_iload_n hx hb dB_36_3_8.1.2.2.1 rfl (lv_at hl 1 rfl) ?_
        refine va_aldq hx hb hK.1 hP 1 4 rfl rfl (i := 1) (by unfold vp_in; decide) dB_36_3_8.1.2.2.2 ?_
        refine lv_topv (v' := .ref m1) (by simp [va_up, va_rf, mf_, cl_0, cl_1, cl_2, cl_3, cl_4]) ?_
        refine lv_iload_n hx hb dB_36_3_8.2.1.1.1 rfl (lv_at hl 2 rfl) ?_
        refine lv_iload_n hx hb dB_36_3_8.2.1.1.2 rfl (lv_at hl 3 rfl) ?_
        refine lv_iload hx hb dB_36_3_8.2.1.2.1 (lv_at hl 4 rfl) ?_
        refine lv_iload hx hb dB_36_3_8.2.1.2.2 (lv_at hl 5 rfl) ?_
        refine lv_iload hx hb dB_36_3_8.2.2.1.1 (lv_at hl 6 rfl) ?_
        refine ct_R hP hD [ob4_0_ m1 mk1 mr1 l1 u1, ai_ cy l1 6 fl1] [3, 7] (by decide) rfl (fun hPc hDw => ?_)
        have hFc := va_free (wc := []) hD hS hA [] rfl
        refine va_calli (va_runV (As := [.int a2, .int a3, .int a4, .int a5, .int a6]) (rest := [.ref xo]) ⟨hx, hb, hml, hown, hts⟩ (c_X4_moveRefusal2 l D cy H.size m1 l1 u1 mk1 mr1 fl1 a2 a3 a4 a5 a6 (by first | with_reducible assumption | assumption | omega) (by first | with_reducible assumption | assumption | omega)) (cwV 5 hts gX11_copy_X4_moveRefusal rfl rfl rfl ⟨rfl, hd_X4_moveRefusal⟩ ⟨Nat.le_of_ble_eq_true rfl, Nat.le_of_ble_eq_true rfl⟩) ⟨bl_, va_recvX hK.1 hP (ci := 4) (q0 := 3) rfl rfl, fun U hU hW => ⟨rfl, by rw [hU], by rw [hU]; exact hPc, kk_mv hW hK, hDw⟩⟩ rfl rfl hl.1 rfl (lv_room (Nat.le_of_ble_eq_true rfl)) dB_36_3_8.2.2.1.2 ⟨Nat.le_of_ble_eq_true rfl, Nat.le_of_ble_eq_true rfl⟩) hS (fun q _ h => hFc q h) hFc (fun r_9 u t H locs ht hvm hw hB hz1 hk1 hS => ?_)
        have hP : va_P D vwCl _ H := ro_keep hP hk1
        obtain ⟨f0_r_9, f1_r_9⟩ := hw
        have hrr_ := f0_r_9
        refine lv_goto (tgt := 29) hx hb dB_36_3_8.2.2.2.1 (by decide) ?_
        refine va_put (ci := 11) (v := .int r_9) (ty := .int) (C := RX11) (T := TX11) (N := 12) hx hb hts (fun _ h => List.mem_cons_of_mem _ (List.mem_append_left _ (List.mem_append_right _ h))) tyX11 tyX11_ok nmX11 hown hK.1 hP hD hS 0 rfl rfl 11 (by decide) (hts (.fieldLink RX11 91 "CutAtlas" "finding" "I") (List.mem_of_getElem? (i := 2) rfl)) (fun _ h9 => h9) rfl (by decide +kernel) rfl rfl (Nat.le_of_ble_eq_true rfl) dB_36_3_9.1.1.1.1 (fun H locs hP hD hS => ?_)
        refine pd_K [ob11_0_ xo xk xn xc xh xt xw xm xp pf ph tr r_9, aq_ cy 4 xm 4 (mf_ m0 m1 m2 m3), ob4_0_ m0 mk0 mr0 l0 u0, ob4_0_ m1 mk1 mr1 l1 u1, ob4_0_ m2 mk2 mr2 l2 u2, ob4_0_ m3 mk3 mr3 l3 u3, ai_ cy l0 6 fl0, ai_ cy l1 6 fl1, ai_ cy l2 6 fl2, ai_ cy l3 6 fl3, aj_ cy u0 30 fn0, aj_ cy u1 30 fn1, aj_ cy u2 30 fn2, aj_ cy u3 30 fn3] hP hD (fun hP hD => ?_)
        refine lv_aload_n hx hb dB_36_3_9.1.1.1.2 rfl (lv_at hl 0 rfl) ?_
        refine va_get (ci := 11) (v := .int r_9) (C := RX11) (T := TX11) (N := 12) hx hb hts (fun _ h => List.mem_cons_of_mem _ (List.mem_append_left _ (List.mem_append_right _ h))) hown hK.1 hP 0 rfl rfl 11 (by decide) (hts (.fieldLink RX11 91 "CutAtlas" "finding" "I") (List.mem_of_getElem? (i := 2) rfl)) (fun _ h9 => h9) rfl dB_36_3_9.1.1.2.1 ?_
        refine lv_if_eq (tgt := 44) hx hb dB_36_3_9.1.1.2.2 (by decide) (fun c_10 => ?_) (fun c_10 => ?_)
        · have t_10 : r_9.toInt = (0 : Int32).toInt := congrArg Int32.toInt c_10
          refine lv_aload_n hx hb dB_36_3_9.1.2.2.2 rfl (lv_at hl 0 rfl) ?_
          refine va_get (ci := 11) (v := .ref xm) (C := RX11) (T := TX11) (N := 12) hx hb hts (fun _ h => List.mem_cons_of_mem _ (List.mem_append_left _ (List.mem_append_right _ h))) hown hK.1 hP 0 rfl rfl 6 (by decide) (hts (.fieldLink RX11 72 "CutAtlas" "maps" "[LCutAtlas$NumberMap;") (List.mem_of_getElem? (i := 1) rfl)) (fun _ h9 => h9) rfl dB_36_3_9.2.1.1.1 ?_
          refine lv_iload_n hx hb dB_36_3_9.2.1.1.2 rfl (lv_at hl 1 rfl) ?_
          refine va_aldq hx hb hK.1 hP 1 4 rfl rfl (i := 1) (by unfold vp_in; decide) dB_36_3_9.2.1.2.1 ?_
          refine lv_topv (v' := .ref m1) (by simp [va_up, va_rf, mf_, cl_0, cl_1, cl_2, cl_3, cl_4]) ?_
          refine lv_iload_n hx hb dB_36_3_9.2.1.2.2 rfl (lv_at hl 2 rfl) ?_
          refine lv_iload_n hx hb dB_36_3_9.2.2.1.1 rfl (lv_at hl 3 rfl) ?_
          refine lv_iload hx hb dB_36_3_9.2.2.1.2 (lv_at hl 4 rfl) ?_
          refine lv_iload hx hb dB_36_3_9.2.2.2.1 (lv_at hl 5 rfl) ?_
          refine lv_iload hx hb dB_36_3_9.2.2.2.2 (lv_at hl 6 rfl) ?_
          refine ct_S hP hD hS hA [ob4_0_ m1 mk1 mr1 l1 u1, aj_ cy u1 30 fn1] [3, 11] (by decide) rfl (fun hPc hDw hFc hC_ => ?_)
          refine va_callv (va_runV (As := [.int a2, .int a3, .int a4, .int a5, .int a6]) (rest := []) ⟨hx, hb, hml, hown, hts⟩ (c_X4_move2 l D cy H.size m1 l1 u1 mk1 mr1 fn1 a2 a3 a4 a5 a6 (by first | with_reducible assumption | assumption | omega)) (cwV 5 hts gX11_copy_X4_move rfl rfl rfl ⟨rfl, hd_X4_move⟩ ⟨Nat.le_of_ble_eq_true rfl, Nat.le_of_ble_eq_true rfl⟩) ⟨bl_, va_recvX hK.1 hP (ci := 4) (q0 := 3) rfl rfl, fun U hU hW => ⟨rfl, by rw [hU], by rw [hU]; exact hPc, kk_mv hW hK, hDw⟩⟩ rfl rfl hl.1 rfl (lv_room (Nat.le_of_ble_eq_true rfl)) dB_36_3_10.1 ⟨Nat.le_of_ble_eq_true rfl, Nat.le_of_ble_eq_true rfl⟩) hS (fun q _ h => hFc q h) hFc (fun u t H locs ht hvm hw hB hz1 hk1 hS => ?_)
          obtain ⟨efn_12, g_13, hP1, hD1⟩ := hB
          rw [ht] at hP1
          obtain ⟨hP, hD⟩ := va_join (wr := [ob11_0_ xo xk xn xc xh xt xw xm xp pf ph tr r_9, aq_ cy 4 xm 4 (mf_ m0 m1 m2 m3), ob4_0_ m0 mk0 mr0 l0 u0, ob4_0_ m2 mk2 mr2 l2 u2, ob4_0_ m3 mk3 mr3 l3 u3, ai_ cy l0 6 fl0, ai_ cy l1 6 fl1, ai_ cy l2 6 fl2, ai_ cy l3 6 fl3, aj_ cy u0 30 fn0, aj_ cy u2 30 fn2, aj_ cy u3 30 fn3]) (w1 := [ob4_0_ m1 mk1 mr1 l1 u1, aj_ cy u1 30 efn_12]) hP hD [3, 11] [0, 1, 2, 4, 5, 6, 7, 8, 9, 10, 12, 13] hC_ rfl (by decide +kernel) (by decide +kernel) hk1 hFc hP1 hD1
          refine pd_S hP hD [ob11_0_ xo xk xn xc xh xt xw xm xp pf ph tr r_9, aq_ cy 4 xm 4 (mf_ m0 m1 m2 m3), ob4_0_ m0 mk0 mr0 l0 u0, ob4_0_ m1 mk1 mr1 l1 u1, ob4_0_ m2 mk2 mr2 l2 u2, ob4_0_ m3 mk3 mr3 l3 u3, ai_ cy l0 6 fl0, ai_ cy l1 6 fl1, ai_ cy l2 6 fl2, ai_ cy l3 6 fl3, aj_ cy u0 30 fn0, aj_ cy u1 30 efn_12, aj_ cy u2 30 fn2, aj_ cy u3 30 fn3] [0, 1, 2, 12, 3, 4, 5, 6, 7, 8, 9, 13, 10, 11] (by decide +kernel) rfl (fun hP hD => ?_)
          have hq1_ := g_13
          refine lv_iload hx hb dB_36_3_10.2.1 (lv_at hl 6 rfl) ?_
          rw [hQ]
          exact W.iret (v := a6) hx hb hr (fun t ht hW => ⟨⟨a6, (), rfl, (by first | (have hc_ : cpyI a1.toInt a2.toInt a3.toInt a4.toInt a5.toInt a6.toInt (hasI ((f4_ mr0 mr1 mr2 mr3) a1.toNatClampNeg).toInt) ((f4_ mr0 mr1 mr2 mr3) a1.toNatClampNeg).toInt ((f4_ fl0 fl1 fl2 fl3) a1.toNatClampNeg a2.toNatClampNeg).toInt ((f4_ fl0 fl1 fl2 fl3) a1.toNatClampNeg a4.toNatClampNeg).toInt = -1 := (by unfold cpyI; rw [if_pos (by omega)]); rw [if_neg (by omega), hc_]; decide) | (have hc_ := hrr_; rw [← cpyI_a (a := (0 : Int32).toInt) (by decide) (by decide)] at hc_; rw [f4_c0, f4_c0, ← hc_]; first | (rw [if_neg (by omega)]; done) | (rw [if_pos (by omega)]; done)) | (have hc_ := hrr_; rw [← cpyI_a (a := (1 : Int32).toInt) (by decide) (by decide)] at hc_; rw [f4_c1, f4_c1, ← hc_]; first | (rw [if_neg (by omega)]; done) | (rw [if_pos (by omega)]; done)) | (have hc_ := hrr_; rw [← cpyI_a (a := (2 : Int32).toInt) (by decide) (by decide)] at hc_; rw [f4_c2, f4_c2, ← hc_]; first | (rw [if_neg (by omega)]; done) | (rw [if_pos (by omega)]; done)) | (have hc_ := hrr_; rw [← cpyI_a (a := (3 : Int32).toInt) (by decide) (by decide)] at hc_; rw [f4_c3, f4_c3, ← hc_]; first | (rw [if_neg (by omega)]; done) | (rw [if_pos (by omega)]; done))), r_9, fn0, efn_12, fn2, fn3, (by first | (unfold cpyI; rw [if_pos (by omega)]; first | rfl | decide | omega) | (rw [f4_c0, f4_c0, cpyI_a (by decide) (by decide)]; assumption) | (rw [f4_c1, f4_c1, cpyI_a (by decide) (by decide)]; assumption) | (rw [f4_c2, f4_c2, cpyI_a (by decide) (by decide)]; assumption) | (rw [f4_c3, f4_c3, cpyI_a (by decide) (by decide)]; assumption)), (by first | exact ⟨fun _ => eq4_rf, fun h => absurd h (by first | omega | decide)⟩ | exact ⟨fun h => absurd (by first | omega | decide) h, fun _ => (by rw [f4_c0, ← hq1_]; exact f4_u0)⟩ | exact ⟨fun h => absurd (by first | omega | decide) h, fun _ => (by rw [f4_c1, ← hq1_]; exact f4_u1)⟩ | exact ⟨fun h => absurd (by first | omega | decide) h, fun _ => (by rw [f4_c2, ← hq1_]; exact f4_u2)⟩ | exact ⟨fun h => absurd (by first | omega | decide) h, fun _ => (by rw [f4_c3, ← hq1_]; exact f4_u3)⟩), by rw [ht]; exact hP, hD⟩, hS.F ht⟩) hS.2.2 dB_36_3_10.2.2
        · have t_10 : ¬ r_9.toInt = (0 : Int32).toInt := fun h => c_10 (Int32.toInt_inj.mp h)
          refine lv_aload_n hx hb dB_36_3_9.1.2.1.1 rfl (lv_at hl 0 rfl) ?_
          refine va_get (ci := 11) (v := .int r_9) (C := RX11) (T := TX11) (N := 12) hx hb hts (fun _ h => List.mem_cons_of_mem _ (List.mem_append_left _ (List.mem_append_right _ h))) hown hK.1 hP 0 rfl rfl 11 (by decide) (hts (.fieldLink RX11 91 "CutAtlas" "finding" "I") (List.mem_of_getElem? (i := 2) rfl)) (fun _ h9 => h9) rfl dB_36_3_9.1.2.1.2 ?_
          rw [hQ]
          exact W.iret (v := r_9) hx hb hr (fun t ht hW => ⟨⟨r_9, (), rfl, (by first | (have hc_ : cpyI a1.toInt a2.toInt a3.toInt a4.toInt a5.toInt a6.toInt (hasI ((f4_ mr0 mr1 mr2 mr3) a1.toNatClampNeg).toInt) ((f4_ mr0 mr1 mr2 mr3) a1.toNatClampNeg).toInt ((f4_ fl0 fl1 fl2 fl3) a1.toNatClampNeg a2.toNatClampNeg).toInt ((f4_ fl0 fl1 fl2 fl3) a1.toNatClampNeg a4.toNatClampNeg).toInt = -1 := (by unfold cpyI; rw [if_pos (by omega)]); rw [if_neg (by omega), hc_]; decide) | (have hc_ := hrr_; rw [← cpyI_a (a := (0 : Int32).toInt) (by decide) (by decide)] at hc_; rw [f4_c0, f4_c0, ← hc_]; first | (rw [if_neg (by omega)]; done) | (rw [if_pos (by omega)]; done)) | (have hc_ := hrr_; rw [← cpyI_a (a := (1 : Int32).toInt) (by decide) (by decide)] at hc_; rw [f4_c1, f4_c1, ← hc_]; first | (rw [if_neg (by omega)]; done) | (rw [if_pos (by omega)]; done)) | (have hc_ := hrr_; rw [← cpyI_a (a := (2 : Int32).toInt) (by decide) (by decide)] at hc_; rw [f4_c2, f4_c2, ← hc_]; first | (rw [if_neg (by omega)]; done) | (rw [if_pos (by omega)]; done)) | (have hc_ := hrr_; rw [← cpyI_a (a := (3 : Int32).toInt) (by decide) (by decide)] at hc_; rw [f4_c3, f4_c3, ← hc_]; first | (rw [if_neg (by omega)]; done) | (rw [if_pos (by omega)]; done))), r_9, fn0, fn1, fn2, fn3, (by first | (unfold cpyI; rw [if_pos (by omega)]; first | rfl | decide | omega) | (rw [f4_c0, f4_c0, cpyI_a (by decide) (by decide)]; assumption) | (rw [f4_c1, f4_c1, cpyI_a (by decide) (by decide)]; assumption) | (rw [f4_c2, f4_c2, cpyI_a (by decide) (by decide)]; assumption) | (rw [f4_c3, f4_c3, cpyI_a (by decide) (by decide)]; assumption)), (by first | exact ⟨fun _ => eq4_rf, fun h => absurd h (by first | omega | decide)⟩ | exact ⟨fun h => absurd (by first | omega | decide) h, fun _ => (by rw [f4_c0, ← hq1_]; exact f4_u0)⟩ | exact ⟨fun h => absurd (by first | omega | decide) h, fun _ => (by rw [f4_c1, ← hq1_]; exact f4_u1)⟩ | exact ⟨fun h => absurd (by first | omega | decide) h, fun _ => (by rw [f4_c2, ← hq1_]; exact f4_u2)⟩ | exact ⟨fun h => absurd (by first | omega | decide) h, fun _ => (by rw [f4_c3, ← hq1_]; exact f4_u3)⟩), by rw [ht]; exact hP, hD⟩, hS.F ht⟩) hS.2.2 dB_36_3_9.1.2.2.1
      · refine lv_aload_n hx hb dB_36_3_8.1.2.1.1 rfl (lv_at hl 0 rfl) ?_
        refine va_get (ci := 11) (v := .ref xm) (C := RX11) (T := TX11) (N := 12) hx hb hts (fun _ h => List.mem_cons_of_mem _ (List.mem_append_left _ (List.mem_append_right _ h))) hown hK.1 hP 0 rfl rfl 6 (by decide) (hts (.fieldLink RX11 72 "CutAtlas" "maps" "[LCutAtlas$NumberMap;") (List.mem_of_getElem? (i := 1) rfl)) (fun _ h9 => h9) rfl dB_36_3_8.1.2.1.2 ?_
        refine lv_iload_n hx hb dB_36_3_8.1.2.2.1 rfl (lv_at hl 1 rfl) ?_
        refine va_aldq hx hb hK.1 hP 1 4 rfl rfl (i := 2) (by unfold vp_in; decide) dB_36_3_8.1.2.2.2 ?_
        refine lv_topv (v' := .ref m2) (by simp [va_up, va_rf, mf_, cl_0, cl_1, cl_2, cl_3, cl_4]) ?_
        refine lv_iload_n hx hb dB_36_3_8.2.1.1.1 rfl (lv_at hl 2 rfl) ?_
        refine lv_iload_n hx hb dB_36_3_8.2.1.1.2 rfl (lv_at hl 3 rfl) ?_
        refine lv_iload hx hb dB_36_3_8.2.1.2.1 (lv_at hl 4 rfl) ?_
        refine lv_iload hx hb dB_36_3_8.2.1.2.2 (lv_at hl 5 rfl) ?_
        refine lv_iload hx hb dB_36_3_8.2.2.1.1 (lv_at hl 6 rfl) ?_
        refine ct_R hP hD [ob4_0_ m2 mk2 mr2 l2 u2, ai_ cy l2 6 fl2] [4, 8] (by decide) rfl (fun hPc hDw => ?_)
        have hFc := va_free (wc := []) hD hS hA [] rfl
        refine va_calli (va_runV (As := [.int a2, .int a3, .int a4, .int a5, .int a6]) (rest := [.ref xo]) ⟨hx, hb, hml, hown, hts⟩ (c_X4_moveRefusal2 l D cy H.size m2 l2 u2 mk2 mr2 fl2 a2 a3 a4 a5 a6 (by first | with_reducible assumption | assumption | omega) (by first | with_reducible assumption | assumption | omega)) (cwV 5 hts gX11_copy_X4_moveRefusal rfl rfl rfl ⟨rfl, hd_X4_moveRefusal⟩ ⟨Nat.le_of_ble_eq_true rfl, Nat.le_of_ble_eq_true rfl⟩) ⟨bl_, va_recvX hK.1 hP (ci := 4) (q0 := 4) rfl rfl, fun U hU hW => ⟨rfl, by rw [hU], by rw [hU]; exact hPc, kk_mv hW hK, hDw⟩⟩ rfl rfl hl.1 rfl (lv_room (Nat.le_of_ble_eq_true rfl)) dB_36_3_8.2.2.1.2 ⟨Nat.le_of_ble_eq_true rfl, Nat.le_of_ble_eq_true rfl⟩) hS (fun q _ h => hFc q h) hFc (fun r_14 u t H locs ht hvm hw hB hz1 hk1 hS => ?_)
        have hP : va_P D vwCl _ H := ro_keep hP hk1
        obtain ⟨f0_r_14, f1_r_14⟩ := hw
        have hrr_ := f0_r_14
        refine lv_goto (tgt := 29) hx hb dB_36_3_8.2.2.2.1 (by decide) ?_
        refine va_put (ci := 11) (v := .int r_14) (ty := .int) (C := RX11) (T := TX11) (N := 12) hx hb hts (fun _ h => List.mem_cons_of_mem _ (List.mem_append_left _ (List.mem_append_right _ h))) tyX11 tyX11_ok nmX11 hown hK.1 hP hD hS 0 rfl rfl 11 (by decide) (hts (.fieldLink RX11 91 "CutAtlas" "finding" "I") (List.mem_of_getElem? (i := 2) rfl)) (fun _ h9 => h9) rfl (by decide +kernel) rfl rfl (Nat.le_of_ble_eq_true rfl) dB_36_3_9.1.1.1.1 (fun H locs hP hD hS => ?_)
        refine pd_K [ob11_0_ xo xk xn xc xh xt xw xm xp pf ph tr r_14, aq_ cy 4 xm 4 (mf_ m0 m1 m2 m3), ob4_0_ m0 mk0 mr0 l0 u0, ob4_0_ m1 mk1 mr1 l1 u1, ob4_0_ m2 mk2 mr2 l2 u2, ob4_0_ m3 mk3 mr3 l3 u3, ai_ cy l0 6 fl0, ai_ cy l1 6 fl1, ai_ cy l2 6 fl2, ai_ cy l3 6 fl3, aj_ cy u0 30 fn0, aj_ cy u1 30 fn1, aj_ cy u2 30 fn2, aj_ cy u3 30 fn3] hP hD (fun hP hD => ?_)
        refine lv_aload_n hx hb dB_36_3_9.1.1.1.2 rfl (lv_at hl 0 rfl) ?_
        refine va_get (ci := 11) (v := .int r_14) (C := RX11) (T := TX11) (N := 12) hx hb hts (fun _ h => List.mem_cons_of_mem _ (List.mem_append_left _ (List.mem_append_right _ h))) hown hK.1 hP 0 rfl rfl 11 (by decide) (hts (.fieldLink RX11 91 "CutAtlas" "finding" "I") (List.mem_of_getElem? (i := 2) rfl)) (fun _ h9 => h9) rfl dB_36_3_9.1.1.2.1 ?_
        refine lv_if_eq (tgt := 44) hx hb dB_36_3_9.1.1.2.2 (by decide) (fun c_15 => ?_) (fun c_15 => ?_)
        · have t_15 : r_14.toInt = (0 : Int32).toInt := congrArg Int32.toInt c_15
          refine lv_aload_n hx hb dB_36_3_9.1.2.2.2 rfl (lv_at hl 0 rfl) ?_
          refine va_get (ci := 11) (v := .ref xm) (C := RX11) (T := TX11) (N := 12) hx hb hts (fun _ h => List.mem_cons_of_mem _ (List.mem_append_left _ (List.mem_append_right _ h))) hown hK.1 hP 0 rfl rfl 6 (by decide) (hts (.fieldLink RX11 72 "CutAtlas" "maps" "[LCutAtlas$NumberMap;") (List.mem_of_getElem? (i := 1) rfl)) (fun _ h9 => h9) rfl dB_36_3_9.2.1.1.1 ?_
          refine lv_iload_n hx hb dB_36_3_9.2.1.1.2 rfl (lv_at hl 1 rfl) ?_
          refine va_aldq hx hb hK.1 hP 1 4 rfl rfl (i := 2) (by unfold vp_in; decide) dB_36_3_9.2.1.2.1 ?_
          refine lv_topv (v' := .ref m2) (by simp [va_up, va_rf, mf_, cl_0, cl_1, cl_2, cl_3, cl_4]) ?_
          refine lv_iload_n hx hb dB_36_3_9.2.1.2.2 rfl (lv_at hl 2 rfl) ?_
          refine lv_iload_n hx hb dB_36_3_9.2.2.1.1 rfl (lv_at hl 3 rfl) ?_
          refine lv_iload hx hb dB_36_3_9.2.2.1.2 (lv_at hl 4 rfl) ?_
          refine lv_iload hx hb dB_36_3_9.2.2.2.1 (lv_at hl 5 rfl) ?_
          refine lv_iload hx hb dB_36_3_9.2.2.2.2 (lv_at hl 6 rfl) ?_
          refine ct_S hP hD hS hA [ob4_0_ m2 mk2 mr2 l2 u2, aj_ cy u2 30 fn2] [4, 12] (by decide) rfl (fun hPc hDw hFc hC_ => ?_)
          refine va_callv (va_runV (As := [.int a2, .int a3, .int a4, .int a5, .int a6]) (rest := []) ⟨hx, hb, hml, hown, hts⟩ (c_X4_move2 l D cy H.size m2 l2 u2 mk2 mr2 fn2 a2 a3 a4 a5 a6 (by first | with_reducible assumption | assumption | omega)) (cwV 5 hts gX11_copy_X4_move rfl rfl rfl ⟨rfl, hd_X4_move⟩ ⟨Nat.le_of_ble_eq_true rfl, Nat.le_of_ble_eq_true rfl⟩) ⟨bl_, va_recvX hK.1 hP (ci := 4) (q0 := 4) rfl rfl, fun U hU hW => ⟨rfl, by rw [hU], by rw [hU]; exact hPc, kk_mv hW hK, hDw⟩⟩ rfl rfl hl.1 rfl (lv_room (Nat.le_of_ble_eq_true rfl)) dB_36_3_10.1 ⟨Nat.le_of_ble_eq_true rfl, Nat.le_of_ble_eq_true rfl⟩) hS (fun q _ h => hFc q h) hFc (fun u t H locs ht hvm hw hB hz1 hk1 hS => ?_)
          obtain ⟨efn_17, g_18, hP1, hD1⟩ := hB
          rw [ht] at hP1
          obtain ⟨hP, hD⟩ := va_join (wr := [ob11_0_ xo xk xn xc xh xt xw xm xp pf ph tr r_14, aq_ cy 4 xm 4 (mf_ m0 m1 m2 m3), ob4_0_ m0 mk0 mr0 l0 u0, ob4_0_ m1 mk1 mr1 l1 u1, ob4_0_ m3 mk3 mr3 l3 u3, ai_ cy l0 6 fl0, ai_ cy l1 6 fl1, ai_ cy l2 6 fl2, ai_ cy l3 6 fl3, aj_ cy u0 30 fn0, aj_ cy u1 30 fn1, aj_ cy u3 30 fn3]) (w1 := [ob4_0_ m2 mk2 mr2 l2 u2, aj_ cy u2 30 efn_17]) hP hD [4, 12] [0, 1, 2, 3, 5, 6, 7, 8, 9, 10, 11, 13] hC_ rfl (by decide +kernel) (by decide +kernel) hk1 hFc hP1 hD1
          refine pd_S hP hD [ob11_0_ xo xk xn xc xh xt xw xm xp pf ph tr r_14, aq_ cy 4 xm 4 (mf_ m0 m1 m2 m3), ob4_0_ m0 mk0 mr0 l0 u0, ob4_0_ m1 mk1 mr1 l1 u1, ob4_0_ m2 mk2 mr2 l2 u2, ob4_0_ m3 mk3 mr3 l3 u3, ai_ cy l0 6 fl0, ai_ cy l1 6 fl1, ai_ cy l2 6 fl2, ai_ cy l3 6 fl3, aj_ cy u0 30 fn0, aj_ cy u1 30 fn1, aj_ cy u2 30 efn_17, aj_ cy u3 30 fn3] [0, 1, 2, 3, 12, 4, 5, 6, 7, 8, 9, 10, 13, 11] (by decide +kernel) rfl (fun hP hD => ?_)
          have hq1_ := g_18
          refine lv_iload hx hb dB_36_3_10.2.1 (lv_at hl 6 rfl) ?_
          rw [hQ]
          exact W.iret (v := a6) hx hb hr (fun t ht hW => ⟨⟨a6, (), rfl, (by first | (have hc_ : cpyI a1.toInt a2.toInt a3.toInt a4.toInt a5.toInt a6.toInt (hasI ((f4_ mr0 mr1 mr2 mr3) a1.toNatClampNeg).toInt) ((f4_ mr0 mr1 mr2 mr3) a1.toNatClampNeg).toInt ((f4_ fl0 fl1 fl2 fl3) a1.toNatClampNeg a2.toNatClampNeg).toInt ((f4_ fl0 fl1 fl2 fl3) a1.toNatClampNeg a4.toNatClampNeg).toInt = -1 := (by unfold cpyI; rw [if_pos (by omega)]); rw [if_neg (by omega), hc_]; decide) | (have hc_ := hrr_; rw [← cpyI_a (a := (0 : Int32).toInt) (by decide) (by decide)] at hc_; rw [f4_c0, f4_c0, ← hc_]; first | (rw [if_neg (by omega)]; done) | (rw [if_pos (by omega)]; done)) | (have hc_ := hrr_; rw [← cpyI_a (a := (1 : Int32).toInt) (by decide) (by decide)] at hc_; rw [f4_c1, f4_c1, ← hc_]; first | (rw [if_neg (by omega)]; done) | (rw [if_pos (by omega)]; done)) | (have hc_ := hrr_; rw [← cpyI_a (a := (2 : Int32).toInt) (by decide) (by decide)] at hc_; rw [f4_c2, f4_c2, ← hc_]; first | (rw [if_neg (by omega)]; done) | (rw [if_pos (by omega)]; done)) | (have hc_ := hrr_; rw [← cpyI_a (a := (3 : Int32).toInt) (by decide) (by decide)] at hc_; rw [f4_c3, f4_c3, ← hc_]; first | (rw [if_neg (by omega)]; done) | (rw [if_pos (by omega)]; done))), r_14, fn0, fn1, efn_17, fn3, (by first | (unfold cpyI; rw [if_pos (by omega)]; first | rfl | decide | omega) | (rw [f4_c0, f4_c0, cpyI_a (by decide) (by decide)]; assumption) | (rw [f4_c1, f4_c1, cpyI_a (by decide) (by decide)]; assumption) | (rw [f4_c2, f4_c2, cpyI_a (by decide) (by decide)]; assumption) | (rw [f4_c3, f4_c3, cpyI_a (by decide) (by decide)]; assumption)), (by first | exact ⟨fun _ => eq4_rf, fun h => absurd h (by first | omega | decide)⟩ | exact ⟨fun h => absurd (by first | omega | decide) h, fun _ => (by rw [f4_c0, ← hq1_]; exact f4_u0)⟩ | exact ⟨fun h => absurd (by first | omega | decide) h, fun _ => (by rw [f4_c1, ← hq1_]; exact f4_u1)⟩ | exact ⟨fun h => absurd (by first | omega | decide) h, fun _ => (by rw [f4_c2, ← hq1_]; exact f4_u2)⟩ | exact ⟨fun h => absurd (by first | omega | decide) h, fun _ => (by rw [f4_c3, ← hq1_]; exact f4_u3)⟩), by rw [ht]; exact hP, hD⟩, hS.F ht⟩) hS.2.2 dB_36_3_10.2.2
        · have t_15 : ¬ r_14.toInt = (0 : Int32).toInt := fun h => c_15 (Int32.toInt_inj.mp h)
          refine lv_aload_n hx hb dB_36_3_9.1.2.1.1 rfl (lv_at hl 0 rfl) ?_
          refine va_get (ci := 11) (v := .int r_14) (C := RX11) (T := TX11) (N := 12) hx hb hts (fun _ h => List.mem_cons_of_mem _ (List.mem_append_left _ (List.mem_append_right _ h))) hown hK.1 hP 0 rfl rfl 11 (by decide) (hts (.fieldLink RX11 91 "CutAtlas" "finding" "I") (List.mem_of_getElem? (i := 2) rfl)) (fun _ h9 => h9) rfl dB_36_3_9.1.2.1.2 ?_
          rw [hQ]
          exact W.iret (v := r_14) hx hb hr (fun t ht hW => ⟨⟨r_14, (), rfl, (by first | (have hc_ : cpyI a1.toInt a2.toInt a3.toInt a4.toInt a5.toInt a6.toInt (hasI ((f4_ mr0 mr1 mr2 mr3) a1.toNatClampNeg).toInt) ((f4_ mr0 mr1 mr2 mr3) a1.toNatClampNeg).toInt ((f4_ fl0 fl1 fl2 fl3) a1.toNatClampNeg a2.toNatClampNeg).toInt ((f4_ fl0 fl1 fl2 fl3) a1.toNatClampNeg a4.toNatClampNeg).toInt = -1 := (by unfold cpyI; rw [if_pos (by omega)]); rw [if_neg (by omega), hc_]; decide) | (have hc_ := hrr_; rw [← cpyI_a (a := (0 : Int32).toInt) (by decide) (by decide)] at hc_; rw [f4_c0, f4_c0, ← hc_]; first | (rw [if_neg (by omega)]; done) | (rw [if_pos (by omega)]; done)) | (have hc_ := hrr_; rw [← cpyI_a (a := (1 : Int32).toInt) (by decide) (by decide)] at hc_; rw [f4_c1, f4_c1, ← hc_]; first | (rw [if_neg (by omega)]; done) | (rw [if_pos (by omega)]; done)) | (have hc_ := hrr_; rw [← cpyI_a (a := (2 : Int32).toInt) (by decide) (by decide)] at hc_; rw [f4_c2, f4_c2, ← hc_]; first | (rw [if_neg (by omega)]; done) | (rw [if_pos (by omega)]; done)) | (have hc_ := hrr_; rw [← cpyI_a (a := (3 : Int32).toInt) (by decide) (by decide)] at hc_; rw [f4_c3, f4_c3, ← hc_]; first | (rw [if_neg (by omega)]; done) | (rw [if_pos (by omega)]; done))), r_14, fn0, fn1, fn2, fn3, (by first | (unfold cpyI; rw [if_pos (by omega)]; first | rfl | decide | omega) | (rw [f4_c0, f4_c0, cpyI_a (by decide) (by decide)]; assumption) | (rw [f4_c1, f4_c1, cpyI_a (by decide) (by decide)]; assumption) | (rw [f4_c2, f4_c2, cpyI_a (by decide) (by decide)]; assumption) | (rw [f4_c3, f4_c3, cpyI_a (by decide) (by decide)]; assumption)), (by first | exact ⟨fun _ => eq4_rf, fun h => absurd h (by first | omega | decide)⟩ | exact ⟨fun h => absurd (by first | omega | decide) h, fun _ => (by rw [f4_c0, ← hq1_]; exact f4_u0)⟩ | exact ⟨fun h => absurd (by first | omega | decide) h, fun _ => (by rw [f4_c1, ← hq1_]; exact f4_u1)⟩ | exact ⟨fun h => absurd (by first | omega | decide) h, fun _ => (by rw [f4_c2, ← hq1_]; exact f4_u2)⟩ | exact ⟨fun h => absurd (by first | omega | decide) h, fun _ => (by rw [f4_c3, ← hq1_]; exact f4_u3)⟩), by rw [ht]; exact hP, hD⟩, hS.F ht⟩) hS.2.2 dB_36_3_9.1.2.2.1
      · refine lv_aload_n hx hb dB_36_3_8.1.2.1.1 rfl (lv_at hl 0 rfl) ?_
        refine va_get (ci := 11) (v := .ref xm) (C := RX11) (T := TX11) (N := 12) hx hb hts (fun _ h => List.mem_cons_of_mem _ (List.mem_append_left _ (List.mem_append_right _ h))) hown hK.1 hP 0 rfl rfl 6 (by decide) (hts (.fieldLink RX11 72 "CutAtlas" "maps" "[LCutAtlas$NumberMap;") (List.mem_of_getElem? (i := 1) rfl)) (fun _ h9 => h9) rfl dB_36_3_8.1.2.1.2 ?_
        refine lv_iload_n hx hb dB_36_3_8.1.2.2.1 rfl (lv_at hl 1 rfl) ?_
        refine va_aldq hx hb hK.1 hP 1 4 rfl rfl (i := 3) (by unfold vp_in; decide) dB_36_3_8.1.2.2.2 ?_
        refine lv_topv (v' := .ref m3) (by simp [va_up, va_rf, mf_, cl_0, cl_1, cl_2, cl_3, cl_4]) ?_
        refine lv_iload_n hx hb dB_36_3_8.2.1.1.1 rfl (lv_at hl 2 rfl) ?_
        refine lv_iload_n hx hb dB_36_3_8.2.1.1.2 rfl (lv_at hl 3 rfl) ?_
        refine lv_iload hx hb dB_36_3_8.2.1.2.1 (lv_at hl 4 rfl) ?_
        refine lv_iload hx hb dB_36_3_8.2.1.2.2 (lv_at hl 5 rfl) ?_
        refine lv_iload hx hb dB_36_3_8.2.2.1.1 (lv_at hl 6 rfl) ?_
        refine ct_R hP hD [ob4_0_ m3 mk3 mr3 l3 u3, ai_ cy l3 6 fl3] [5, 9] (by decide) rfl (fun hPc hDw => ?_)
        have hFc := va_free (wc := []) hD hS hA [] rfl
        refine va_calli (va_runV (As := [.int a2, .int a3, .int a4, .int a5, .int a6]) (rest := [.ref xo]) ⟨hx, hb, hml, hown, hts⟩ (c_X4_moveRefusal2 l D cy H.size m3 l3 u3 mk3 mr3 fl3 a2 a3 a4 a5 a6 (by first | with_reducible assumption | assumption | omega) (by first | with_reducible assumption | assumption | omega)) (cwV 5 hts gX11_copy_X4_moveRefusal rfl rfl rfl ⟨rfl, hd_X4_moveRefusal⟩ ⟨Nat.le_of_ble_eq_true rfl, Nat.le_of_ble_eq_true rfl⟩) ⟨bl_, va_recvX hK.1 hP (ci := 4) (q0 := 5) rfl rfl, fun U hU hW => ⟨rfl, by rw [hU], by rw [hU]; exact hPc, kk_mv hW hK, hDw⟩⟩ rfl rfl hl.1 rfl (lv_room (Nat.le_of_ble_eq_true rfl)) dB_36_3_8.2.2.1.2 ⟨Nat.le_of_ble_eq_true rfl, Nat.le_of_ble_eq_true rfl⟩) hS (fun q _ h => hFc q h) hFc (fun r_19 u t H locs ht hvm hw hB hz1 hk1 hS => ?_)
        have hP : va_P D vwCl _ H := ro_keep hP hk1
        obtain ⟨f0_r_19, f1_r_19⟩ := hw
        have hrr_ := f0_r_19
        refine lv_goto (tgt := 29) hx hb dB_36_3_8.2.2.2.1 (by decide) ?_
        refine va_put (ci := 11) (v := .int r_19) (ty := .int) (C := RX11) (T := TX11) (N := 12) hx hb hts (fun _ h => List.mem_cons_of_mem _ (List.mem_append_left _ (List.mem_append_right _ h))) tyX11 tyX11_ok nmX11 hown hK.1 hP hD hS 0 rfl rfl 11 (by decide) (hts (.fieldLink RX11 91 "CutAtlas" "finding" "I") (List.mem_of_getElem? (i := 2) rfl)) (fun _ h9 => h9) rfl (by decide +kernel) rfl rfl (Nat.le_of_ble_eq_true rfl) dB_36_3_9.1.1.1.1 (fun H locs hP hD hS => ?_)
        refine pd_K [ob11_0_ xo xk xn xc xh xt xw xm xp pf ph tr r_19, aq_ cy 4 xm 4 (mf_ m0 m1 m2 m3), ob4_0_ m0 mk0 mr0 l0 u0, ob4_0_ m1 mk1 mr1 l1 u1, ob4_0_ m2 mk2 mr2 l2 u2, ob4_0_ m3 mk3 mr3 l3 u3, ai_ cy l0 6 fl0, ai_ cy l1 6 fl1, ai_ cy l2 6 fl2, ai_ cy l3 6 fl3, aj_ cy u0 30 fn0, aj_ cy u1 30 fn1, aj_ cy u2 30 fn2, aj_ cy u3 30 fn3] hP hD (fun hP hD => ?_)
        refine lv_aload_n hx hb dB_36_3_9.1.1.1.2 rfl (lv_at hl 0 rfl) ?_
        refine va_get (ci := 11) (v := .int r_19) (C := RX11) (T := TX11) (N := 12) hx hb hts (fun _ h => List.mem_cons_of_mem _ (List.mem_append_left _ (List.mem_append_right _ h))) hown hK.1 hP 0 rfl rfl 11 (by decide) (hts (.fieldLink RX11 91 "CutAtlas" "finding" "I") (List.mem_of_getElem? (i := 2) rfl)) (fun _ h9 => h9) rfl dB_36_3_9.1.1.2.1 ?_
        refine lv_if_eq (tgt := 44) hx hb dB_36_3_9.1.1.2.2 (by decide) (fun c_20 => ?_) (fun c_20 => ?_)
        · have t_20 : r_19.toInt = (0 : Int32).toInt := congrArg Int32.toInt c_20
          refine lv_aload_n hx hb dB_36_3_9.1.2.2.2 rfl (lv_at hl 0 rfl) ?_
          refine va_get (ci := 11) (v := .ref xm) (C := RX11) (T := TX11) (N := 12) hx hb hts (fun _ h => List.mem_cons_of_mem _ (List.mem_append_left _ (List.mem_append_right _ h))) hown hK.1 hP 0 rfl rfl 6 (by decide) (hts (.fieldLink RX11 72 "CutAtlas" "maps" "[LCutAtlas$NumberMap;") (List.mem_of_getElem? (i := 1) rfl)) (fun _ h9 => h9) rfl dB_36_3_9.2.1.1.1 ?_
          refine lv_iload_n hx hb dB_36_3_9.2.1.1.2 rfl (lv_at hl 1 rfl) ?_
          refine va_aldq hx hb hK.1 hP 1 4 rfl rfl (i := 3) (by unfold vp_in; decide) dB_36_3_9.2.1.2.1 ?_
          refine lv_topv (v' := .ref m3) (by simp [va_up, va_rf, mf_, cl_0, cl_1, cl_2, cl_3, cl_4]) ?_
          refine lv_iload_n hx hb dB_36_3_9.2.1.2.2 rfl (lv_at hl 2 rfl) ?_
          refine lv_iload_n hx hb dB_36_3_9.2.2.1.1 rfl (lv_at hl 3 rfl) ?_
          refine lv_iload hx hb dB_36_3_9.2.2.1.2 (lv_at hl 4 rfl) ?_
          refine lv_iload hx hb dB_36_3_9.2.2.2.1 (lv_at hl 5 rfl) ?_
          refine lv_iload hx hb dB_36_3_9.2.2.2.2 (lv_at hl 6 rfl) ?_
          refine ct_S hP hD hS hA [ob4_0_ m3 mk3 mr3 l3 u3, aj_ cy u3 30 fn3] [5, 13] (by decide) rfl (fun hPc hDw hFc hC_ => ?_)
          refine va_callv (va_runV (As := [.int a2, .int a3, .int a4, .int a5, .int a6]) (rest := []) ⟨hx, hb, hml, hown, hts⟩ (c_X4_move2 l D cy H.size m3 l3 u3 mk3 mr3 fn3 a2 a3 a4 a5 a6 (by first | with_reducible assumption | assumption | omega)) (cwV 5 hts gX11_copy_X4_move rfl rfl rfl ⟨rfl, hd_X4_move⟩ ⟨Nat.le_of_ble_eq_true rfl, Nat.le_of_ble_eq_true rfl⟩) ⟨bl_, va_recvX hK.1 hP (ci := 4) (q0 := 5) rfl rfl, fun U hU hW => ⟨rfl, by rw [hU], by rw [hU]; exact hPc, kk_mv hW hK, hDw⟩⟩ rfl rfl hl.1 rfl (lv_room (Nat.le_of_ble_eq_true rfl)) dB_36_3_10.1 ⟨Nat.le_of_ble_eq_true rfl, Nat.le_of_ble_eq_true rfl⟩) hS (fun q _ h => hFc q h) hFc (fun u t H locs ht hvm hw hB hz1 hk1 hS => ?_)
          obtain ⟨efn_22, g_23, hP1, hD1⟩ := hB
          rw [ht] at hP1
          obtain ⟨hP, hD⟩ := va_join (wr := [ob11_0_ xo xk xn xc xh xt xw xm xp pf ph tr r_19, aq_ cy 4 xm 4 (mf_ m0 m1 m2 m3), ob4_0_ m0 mk0 mr0 l0 u0, ob4_0_ m1 mk1 mr1 l1 u1, ob4_0_ m2 mk2 mr2 l2 u2, ai_ cy l0 6 fl0, ai_ cy l1 6 fl1, ai_ cy l2 6 fl2, ai_ cy l3 6 fl3, aj_ cy u0 30 fn0, aj_ cy u1 30 fn1, aj_ cy u2 30 fn2]) (w1 := [ob4_0_ m3 mk3 mr3 l3 u3, aj_ cy u3 30 efn_22]) hP hD [5, 13] [0, 1, 2, 3, 4, 6, 7, 8, 9, 10, 11, 12] hC_ rfl (by decide +kernel) (by decide +kernel) hk1 hFc hP1 hD1
          refine pd_S hP hD [ob11_0_ xo xk xn xc xh xt xw xm xp pf ph tr r_19, aq_ cy 4 xm 4 (mf_ m0 m1 m2 m3), ob4_0_ m0 mk0 mr0 l0 u0, ob4_0_ m1 mk1 mr1 l1 u1, ob4_0_ m2 mk2 mr2 l2 u2, ob4_0_ m3 mk3 mr3 l3 u3, ai_ cy l0 6 fl0, ai_ cy l1 6 fl1, ai_ cy l2 6 fl2, ai_ cy l3 6 fl3, aj_ cy u0 30 fn0, aj_ cy u1 30 fn1, aj_ cy u2 30 fn2, aj_ cy u3 30 efn_22] [0, 1, 2, 3, 4, 12, 5, 6, 7, 8, 9, 10, 11, 13] (by decide +kernel) rfl (fun hP hD => ?_)
          have hq1_ := g_23
          refine lv_iload hx hb dB_36_3_10.2.1 (lv_at hl 6 rfl) ?_
          rw [hQ]
          exact W.iret (v := a6) hx hb hr (fun t ht hW => ⟨⟨a6, (), rfl, (by first | (have hc_ : cpyI a1.toInt a2.toInt a3.toInt a4.toInt a5.toInt a6.toInt (hasI ((f4_ mr0 mr1 mr2 mr3) a1.toNatClampNeg).toInt) ((f4_ mr0 mr1 mr2 mr3) a1.toNatClampNeg).toInt ((f4_ fl0 fl1 fl2 fl3) a1.toNatClampNeg a2.toNatClampNeg).toInt ((f4_ fl0 fl1 fl2 fl3) a1.toNatClampNeg a4.toNatClampNeg).toInt = -1 := (by unfold cpyI; rw [if_pos (by omega)]); rw [if_neg (by omega), hc_]; decide) | (have hc_ := hrr_; rw [← cpyI_a (a := (0 : Int32).toInt) (by decide) (by decide)] at hc_; rw [f4_c0, f4_c0, ← hc_]; first | (rw [if_neg (by omega)]; done) | (rw [if_pos (by omega)]; done)) | (have hc_ := hrr_; rw [← cpyI_a (a := (1 : Int32).toInt) (by decide) (by decide)] at hc_; rw [f4_c1, f4_c1, ← hc_]; first | (rw [if_neg (by omega)]; done) | (rw [if_pos (by omega)]; done)) | (have hc_ := hrr_; rw [← cpyI_a (a := (2 : Int32).toInt) (by decide) (by decide)] at hc_; rw [f4_c2, f4_c2, ← hc_]; first | (rw [if_neg (by omega)]; done) | (rw [if_pos (by omega)]; done)) | (have hc_ := hrr_; rw [← cpyI_a (a := (3 : Int32).toInt) (by decide) (by decide)] at hc_; rw [f4_c3, f4_c3, ← hc_]; first | (rw [if_neg (by omega)]; done) | (rw [if_pos (by omega)]; done))), r_19, fn0, fn1, fn2, efn_22, (by first | (unfold cpyI; rw [if_pos (by omega)]; first | rfl | decide | omega) | (rw [f4_c0, f4_c0, cpyI_a (by decide) (by decide)]; assumption) | (rw [f4_c1, f4_c1, cpyI_a (by decide) (by decide)]; assumption) | (rw [f4_c2, f4_c2, cpyI_a (by decide) (by decide)]; assumption) | (rw [f4_c3, f4_c3, cpyI_a (by decide) (by decide)]; assumption)), (by first | exact ⟨fun _ => eq4_rf, fun h => absurd h (by first | omega | decide)⟩ | exact ⟨fun h => absurd (by first | omega | decide) h, fun _ => (by rw [f4_c0, ← hq1_]; exact f4_u0)⟩ | exact ⟨fun h => absurd (by first | omega | decide) h, fun _ => (by rw [f4_c1, ← hq1_]; exact f4_u1)⟩ | exact ⟨fun h => absurd (by first | omega | decide) h, fun _ => (by rw [f4_c2, ← hq1_]; exact f4_u2)⟩ | exact ⟨fun h => absurd (by first | omega | decide) h, fun _ => (by rw [f4_c3, ← hq1_]; exact f4_u3)⟩), by rw [ht]; exact hP, hD⟩, hS.F ht⟩) hS.2.2 dB_36_3_10.2.2
        · have t_20 : ¬ r_19.toInt = (0 : Int32).toInt := fun h => c_20 (Int32.toInt_inj.mp h)
          refine lv_aload_n hx hb dB_36_3_9.1.2.1.1 rfl (lv_at hl 0 rfl) ?_
          refine va_get (ci := 11) (v := .int r_19) (C := RX11) (T := TX11) (N := 12) hx hb hts (fun _ h => List.mem_cons_of_mem _ (List.mem_append_left _ (List.mem_append_right _ h))) hown hK.1 hP 0 rfl rfl 11 (by decide) (hts (.fieldLink RX11 91 "CutAtlas" "finding" "I") (List.mem_of_getElem? (i := 2) rfl)) (fun _ h9 => h9) rfl dB_36_3_9.1.2.1.2 ?_
          rw [hQ]
          exact W.iret (v := r_19) hx hb hr (fun t ht hW => ⟨⟨r_19, (), rfl, (by first | (have hc_ : cpyI a1.toInt a2.toInt a3.toInt a4.toInt a5.toInt a6.toInt (hasI ((f4_ mr0 mr1 mr2 mr3) a1.toNatClampNeg).toInt) ((f4_ mr0 mr1 mr2 mr3) a1.toNatClampNeg).toInt ((f4_ fl0 fl1 fl2 fl3) a1.toNatClampNeg a2.toNatClampNeg).toInt ((f4_ fl0 fl1 fl2 fl3) a1.toNatClampNeg a4.toNatClampNeg).toInt = -1 := (by unfold cpyI; rw [if_pos (by omega)]); rw [if_neg (by omega), hc_]; decide) | (have hc_ := hrr_; rw [← cpyI_a (a := (0 : Int32).toInt) (by decide) (by decide)] at hc_; rw [f4_c0, f4_c0, ← hc_]; first | (rw [if_neg (by omega)]; done) | (rw [if_pos (by omega)]; done)) | (have hc_ := hrr_; rw [← cpyI_a (a := (1 : Int32).toInt) (by decide) (by decide)] at hc_; rw [f4_c1, f4_c1, ← hc_]; first | (rw [if_neg (by omega)]; done) | (rw [if_pos (by omega)]; done)) | (have hc_ := hrr_; rw [← cpyI_a (a := (2 : Int32).toInt) (by decide) (by decide)] at hc_; rw [f4_c2, f4_c2, ← hc_]; first | (rw [if_neg (by omega)]; done) | (rw [if_pos (by omega)]; done)) | (have hc_ := hrr_; rw [← cpyI_a (a := (3 : Int32).toInt) (by decide) (by decide)] at hc_; rw [f4_c3, f4_c3, ← hc_]; first | (rw [if_neg (by omega)]; done) | (rw [if_pos (by omega)]; done))), r_19, fn0, fn1, fn2, fn3, (by first | (unfold cpyI; rw [if_pos (by omega)]; first | rfl | decide | omega) | (rw [f4_c0, f4_c0, cpyI_a (by decide) (by decide)]; assumption) | (rw [f4_c1, f4_c1, cpyI_a (by decide) (by decide)]; assumption) | (rw [f4_c2, f4_c2, cpyI_a (by decide) (by decide)]; assumption) | (rw [f4_c3, f4_c3, cpyI_a (by decide) (by decide)]; assumption)), (by first | exact ⟨fun _ => eq4_rf, fun h => absurd h (by first | omega | decide)⟩ | exact ⟨fun h => absurd (by first | omega | decide) h, fun _ => (by rw [f4_c0, ← hq1_]; exact f4_u0)⟩ | exact ⟨fun h => absurd (by first | omega | decide) h, fun _ => (by rw [f4_c1, ← hq1_]; exact f4_u1)⟩ | exact ⟨fun h => absurd (by first | omega | decide) h, fun _ => (by rw [f4_c2, ← hq1_]; exact f4_u2)⟩ | exact ⟨fun h => absurd (by first | omega | decide) h, fun _ => (by rw [f4_c3, ← hq1_]; exact f4_u3)⟩), by rw [ht]; exact hP, hD⟩, hS.F ht⟩) hS.2.2 dB_36_3_9.1.2.2.1
  · have e_ := e_.symm
    subst e_
    refine lv_if_eq (tgt := 28) hx hb dB_36_3_8.1.1.2.2 (by decide) (fun c_24 => ?_) (fun c_24 => ?_)
    · have _ := c_24
      refine lv_iconst (v := (-1)) hx hb dB_36_3_8.2.2.2.2 (by decide) ?_
      refine va_put (ci := 11) (v := .int (-1)) (ty := .int) (C := RX11) (T := TX11) (N := 12) hx hb hts (fun _ h => List.mem_cons_of_mem _ (List.mem_append_left _ (List.mem_append_right _ h))) tyX11 tyX11_ok nmX11 hown hK.1 hP hD hS 0 rfl rfl 11 (by decide) (hts (.fieldLink RX11 91 "CutAtlas" "finding" "I") (List.mem_of_getElem? (i := 2) rfl)) (fun _ h9 => h9) rfl (by decide +kernel) rfl rfl (Nat.le_of_ble_eq_true rfl) dB_36_3_9.1.1.1.1 (fun H locs hP hD hS => ?_)
      refine pd_K [ob11_0_ xo xk xn xc xh xt xw xm xp pf ph tr (-1), aq_ cy 4 xm 4 (mf_ m0 m1 m2 m3), ob4_0_ m0 mk0 mr0 l0 u0, ob4_0_ m1 mk1 mr1 l1 u1, ob4_0_ m2 mk2 mr2 l2 u2, ob4_0_ m3 mk3 mr3 l3 u3, ai_ cy l0 6 fl0, ai_ cy l1 6 fl1, ai_ cy l2 6 fl2, ai_ cy l3 6 fl3, aj_ cy u0 30 fn0, aj_ cy u1 30 fn1, aj_ cy u2 30 fn2, aj_ cy u3 30 fn3] hP hD (fun hP hD => ?_)
      refine lv_aload_n hx hb dB_36_3_9.1.1.1.2 rfl (lv_at hl 0 rfl) ?_
      refine va_get (ci := 11) (v := .int (-1)) (C := RX11) (T := TX11) (N := 12) hx hb hts (fun _ h => List.mem_cons_of_mem _ (List.mem_append_left _ (List.mem_append_right _ h))) hown hK.1 hP 0 rfl rfl 11 (by decide) (hts (.fieldLink RX11 91 "CutAtlas" "finding" "I") (List.mem_of_getElem? (i := 2) rfl)) (fun _ h9 => h9) rfl dB_36_3_9.1.1.2.1 ?_
      refine lv_if_eq (tgt := 44) hx hb dB_36_3_9.1.1.2.2 (by decide) (fun c_25 => ?_) (fun c_25 => ?_)
      · exact absurd c_25 (by decide)
      · have _ := c_25
        refine lv_aload_n hx hb dB_36_3_9.1.2.1.1 rfl (lv_at hl 0 rfl) ?_
        refine va_get (ci := 11) (v := .int (-1)) (C := RX11) (T := TX11) (N := 12) hx hb hts (fun _ h => List.mem_cons_of_mem _ (List.mem_append_left _ (List.mem_append_right _ h))) hown hK.1 hP 0 rfl rfl 11 (by decide) (hts (.fieldLink RX11 91 "CutAtlas" "finding" "I") (List.mem_of_getElem? (i := 2) rfl)) (fun _ h9 => h9) rfl dB_36_3_9.1.2.1.2 ?_
        rw [hQ]
        exact W.iret (v := (-1)) hx hb hr (fun t ht hW => ⟨⟨(-1), (), rfl, (by first | (have hc_ : cpyI a1.toInt a2.toInt a3.toInt a4.toInt a5.toInt a6.toInt (hasI ((f4_ mr0 mr1 mr2 mr3) a1.toNatClampNeg).toInt) ((f4_ mr0 mr1 mr2 mr3) a1.toNatClampNeg).toInt ((f4_ fl0 fl1 fl2 fl3) a1.toNatClampNeg a2.toNatClampNeg).toInt ((f4_ fl0 fl1 fl2 fl3) a1.toNatClampNeg a4.toNatClampNeg).toInt = -1 := (by unfold cpyI; rw [if_pos (by omega)]); rw [if_neg (by omega), hc_]; decide) | (have hc_ := hrr_; rw [← cpyI_a (a := (0 : Int32).toInt) (by decide) (by decide)] at hc_; rw [f4_c0, f4_c0, ← hc_]; first | (rw [if_neg (by omega)]; done) | (rw [if_pos (by omega)]; done)) | (have hc_ := hrr_; rw [← cpyI_a (a := (1 : Int32).toInt) (by decide) (by decide)] at hc_; rw [f4_c1, f4_c1, ← hc_]; first | (rw [if_neg (by omega)]; done) | (rw [if_pos (by omega)]; done)) | (have hc_ := hrr_; rw [← cpyI_a (a := (2 : Int32).toInt) (by decide) (by decide)] at hc_; rw [f4_c2, f4_c2, ← hc_]; first | (rw [if_neg (by omega)]; done) | (rw [if_pos (by omega)]; done)) | (have hc_ := hrr_; rw [← cpyI_a (a := (3 : Int32).toInt) (by decide) (by decide)] at hc_; rw [f4_c3, f4_c3, ← hc_]; first | (rw [if_neg (by omega)]; done) | (rw [if_pos (by omega)]; done))), ((-1) : Int32), fn0, fn1, fn2, fn3, (by first | (unfold cpyI; rw [if_pos (by omega)]; first | rfl | decide | omega) | (rw [f4_c0, f4_c0, cpyI_a (by decide) (by decide)]; assumption) | (rw [f4_c1, f4_c1, cpyI_a (by decide) (by decide)]; assumption) | (rw [f4_c2, f4_c2, cpyI_a (by decide) (by decide)]; assumption) | (rw [f4_c3, f4_c3, cpyI_a (by decide) (by decide)]; assumption)), (by first | exact ⟨fun _ => eq4_rf, fun h => absurd h (by first | omega | decide)⟩ | exact ⟨fun h => absurd (by first | omega | decide) h, fun _ => (by rw [f4_c0, ← hq1_]; exact f4_u0)⟩ | exact ⟨fun h => absurd (by first | omega | decide) h, fun _ => (by rw [f4_c1, ← hq1_]; exact f4_u1)⟩ | exact ⟨fun h => absurd (by first | omega | decide) h, fun _ => (by rw [f4_c2, ← hq1_]; exact f4_u2)⟩ | exact ⟨fun h => absurd (by first | omega | decide) h, fun _ => (by rw [f4_c3, ← hq1_]; exact f4_u3)⟩), by rw [ht]; exact hP, hD⟩, hS.F ht⟩) hS.2.2 dB_36_3_9.1.2.2.1
    · exact absurd c_24 (by decide)
end
