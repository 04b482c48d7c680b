section
/-! ===== the reference's kept nets ===== -/
noncomputable def pastE (U : Int) (f12 f13 f14 : Nat → Int32) : Prop := ∀ k : Nat, (k : Int) < U → ∀ j : Nat, (j : Int) < (f13 k).toInt → (f14 (200 * k + 5 * j + 4)).toInt < 1000 → (f14 (200 * k + 5 * j + 1)).toInt < (f12 k).toInt ∧ (f14 (200 * k + 5 * j + 2)).toInt < (f12 k).toInt
/-- line l of a net, as it is kept from place b on -/
noncomputable def entry (g : Nat → Int32) (b : Nat) (f5 f6 f7 f8 f9 f10 : Nat → Int32) (l : Nat) : Prop := g (b + 5 * l) = f5 l ∧ g (b + 5 * l + 1) = f6 l ∧ g (b + 5 * l + 2) = f7 l ∧ g (b + 5 * l + 3) = f8 l ∧ (g (b + 5 * l + 4)).toInt = (f9 l).toInt + (if (f10 l).toInt ≠ 0 then 1000 else 0)
/-- one more net is kept, of 31 the first one goes -/
noncomputable def kept (P N : Int32) (f5 f6 f7 f8 f9 f10 : Nat → Int32) (U : Int) (f12 f13 f14 : Nat → Int32) (U2 : Int) (e12 e13 e14 : Nat → Int32) : Prop :=
  ∃ m d : Nat, U2 = m + 1 ∧ (U = 30 ∧ d = 1 ∧ m = 29 ∨ U < 30 ∧ d = 0 ∧ U = m) ∧ (∀ k : Nat, k < m → e12 k = f12 (k + d) ∧ e13 k = f13 (k + d) ∧ ∀ i : Nat, i < 200 → e14 (200 * k + i) = f14 (200 * (k + d) + i)) ∧ e12 m = P ∧ e13 m = N ∧ ∀ l : Nat, l < 40 → entry e14 (200 * m) f5 f6 f7 f8 f9 f10 l
theorem kept_past {P N : Int32} {f5 f6 f7 f8 f9 f10 : Nat → Int32} {U : Int} {f12 f13 f14 : Nat → Int32} {U2 : Int} {e12 e13 e14 : Nat → Int32} (h : kept P N f5 f6 f7 f8 f9 f10 U f12 f13 f14 U2 e12 e13 e14) (hn : netE P.toInt N.toInt f6 f7 f10) (hp : pastE U f12 f13 f14) (hN : N.toInt ≤ 40) (r9 : rng f9 40 0 100) (r13 : rng f13 30 0 40) (hU : 0 ≤ U) : pastE U2 e12 e13 e14 := by
  obtain ⟨m, d, h2, hd, hk, hP, hN2, he⟩ := h
  intro k hk2 j hj h4
  by_cases q : k = m
  · subst q
    rw [hN2] at hj
    obtain ⟨a0, a1, a2, a3, a4⟩ := he j (by omega)
    rw [a4] at h4
    rw [a1, a2, hP]
    refine hn j hj ?_
    have b := r9 j (by omega)
    by_cases z : (f10 j).toInt ≠ 0
    · rw [if_pos z] at h4
      omega
    · omega
  · obtain ⟨a1, a2, a3⟩ := hk k (by omega)
    rw [a2] at hj
    have b := r13 (k + d) (by omega)
    have c1 := a3 (5 * j + 1) (by omega)
    have c2 := a3 (5 * j + 2) (by omega)
    have c4 := a3 (5 * j + 4) (by omega)
    rw [show 200 * k + 5 * j + 4 = 200 * k + (5 * j + 4) by omega, c4] at h4
    rw [show 200 * k + 5 * j + 1 = 200 * k + (5 * j + 1) by omega, c1, show 200 * k + 5 * j + 2 = 200 * k + (5 * j + 2) by omega, c2, a1]
    exact hp (k + d) (by omega) j hj h4
noncomputable def shf (f g : Nat → Int32) (d : Nat) (n : Int) : Prop := (∀ q : Nat, (q : Int) < n → g q = f (q + d)) ∧ (∀ q : Nat, n ≤ (q : Int) → g q = f q)
theorem shf_0 {f : Nat → Int32} {d : Nat} : shf f f d (0 : Int32).toInt := by
  have z : (0 : Int32).toInt = 0 := by decide
  exact ⟨fun q h => by omega, fun _ _ => rfl⟩
theorem shf_st {f g g2 : Nat → Int32} {d : Nat} {i i2 j v : Int32} (h : shf f g d i.toInt) (e : g2 = upd g i.toNatClampNeg v) (ev : v = g j.toNatClampNeg) (ej : j.toInt = i.toInt + d) (h0 : 0 ≤ i.toInt) (ei : i2.toInt = i.toInt + 1) : shf f g2 d i2.toInt := by
  have c := clI (i := i) h0
  have cj := clI (i := j) (by omega)
  refine ⟨fun q hq => ?_, fun q hq => ?_⟩
  · by_cases z : q = i.toNatClampNeg
    · rw [e, z, pk_us, ev, h.2 _ (by omega), show j.toNatClampNeg = i.toNatClampNeg + d by omega]
    · rw [e, pk_un z]
      exact h.1 q (by omega)
  · rw [e, pk_un (by omega)]
    exact h.2 q (by omega)
noncomputable def moved (s11 : Int) (f12 f13 f14 : Nat → Int32) (U : Int) (e12 e13 e14 : Nat → Int32) : Prop := ∃ d : Nat, (s11 = 30 ∧ d = 1 ∧ U = 29 ∨ s11 < 30 ∧ d = 0 ∧ U = s11) ∧ ∀ k : Nat, (k : Int) < U → e12 k = f12 (k + d) ∧ e13 k = f13 (k + d) ∧ ∀ i : Nat, i < 200 → e14 (200 * k + i) = f14 (200 * (k + d) + i)
theorem moved_1 {s11 U n1 n2 : Int} {f12 f13 f14 e12 e13 e14 : Nat → Int32} (hs : s11 = 30) (hU : U = 29) (h12 : shf f12 e12 1 n1) (h13 : shf f13 e13 1 n1) (h14 : shf f14 e14 200 n2) (hn1 : n1 = 29) (hn2 : n2 = 5800) : moved s11 f12 f13 f14 U e12 e13 e14 := ⟨1, Or.inl ⟨hs, rfl, hU⟩, fun k hk => ⟨h12.1 k (by omega), h13.1 k (by omega), fun i hi => by
  rw [h14.1 _ (by omega), show 200 * k + i + 200 = 200 * (k + 1) + i by omega]⟩⟩
theorem moved_0 {s11 : Int} {f12 f13 f14 : Nat → Int32} (hs : s11 < 30) : moved s11 f12 f13 f14 s11 f12 f13 f14 := ⟨0, Or.inr ⟨hs, rfl, rfl⟩, fun k hk => ⟨rfl, rfl, fun i hi => rfl⟩⟩
theorem ent_st {f5 f6 f7 f8 f9 f10 g g1 g2 g3 g4 g5 b : Nat → Int32} {u l l2 p0 p1 p2 p3 p4 v0 v1 v2 v3 v4 : Int32} (hu : 0 ≤ u.toInt) (hl : 0 ≤ l.toInt) (e0 : g1 = upd g p0.toNatClampNeg v0) (e1 : g2 = upd g1 p1.toNatClampNeg v1) (e2 : g3 = upd g2 p2.toNatClampNeg v2) (e3 : g4 = upd g3 p3.toNatClampNeg v3) (e4 : g5 = upd g4 p4.toNatClampNeg v4)
    (q0 : p0.toInt = 200 * u.toInt + 5 * l.toInt) (q1 : p1.toInt = p0.toInt + 1) (q2 : p2.toInt = p0.toInt + 2) (q3 : p3.toInt = p0.toInt + 3) (q4 : p4.toInt = p0.toInt + 4)
    (w0 : v0 = f5 l.toNatClampNeg) (w1 : v1 = f6 l.toNatClampNeg) (w2 : v2 = f7 l.toNatClampNeg) (w3 : v3 = f8 l.toNatClampNeg) (w4 : v4.toInt = (f9 l.toNatClampNeg).toInt + (if (f10 l.toNatClampNeg).toInt ≠ 0 then 1000 else 0))
    (hk : ∀ q : Nat, q < 200 * u.toNatClampNeg → g q = b q) (hE : ∀ j : Nat, (j : Int) < l.toInt → entry g (200 * u.toNatClampNeg) f5 f6 f7 f8 f9 f10 j) (el : l2.toInt = l.toInt + 1) :
    (∀ q : Nat, q < 200 * u.toNatClampNeg → g5 q = b q) ∧ ∀ j : Nat, (j : Int) < l2.toInt → entry g5 (200 * u.toNatClampNeg) f5 f6 f7 f8 f9 f10 j := by
  have cu := clI (i := u) hu
  have cl := clI (i := l) hl
  have c0 := clI (i := p0) (by omega)
  have c1 := clI (i := p1) (by omega)
  have c2 := clI (i := p2) (by omega)
  have c3 := clI (i := p3) (by omega)
  have c4 := clI (i := p4) (by omega)
  have lo : ∀ q : Nat, q < p0.toNatClampNeg → g5 q = g q := fun q hq => by
    rw [e4, pk_un (by omega), e3, pk_un (by omega), e2, pk_un (by omega), e1, pk_un (by omega), e0, pk_un (by omega)]
  refine ⟨fun q hq => (lo q (by omega)).trans (hk q hq), fun j hj => ?_⟩
  by_cases z : j = l.toNatClampNeg
  · subst z
    unfold entry
    rw [show 200 * u.toNatClampNeg + 5 * l.toNatClampNeg = p0.toNatClampNeg by omega]
    refine ⟨?_, ?_, ?_, ?_, ?_⟩
    · rw [e4, pk_un (by omega), e3, pk_un (by omega), e2, pk_un (by omega), e1, pk_un (by omega), e0, pk_us, w0]
    · rw [e4, pk_un (by omega), e3, pk_un (by omega), e2, pk_un (by omega), e1, show p0.toNatClampNeg + 1 = p1.toNatClampNeg by omega, pk_us, w1]
    · rw [e4, pk_un (by omega), e3, pk_un (by omega), e2, show p0.toNatClampNeg + 2 = p2.toNatClampNeg by omega, pk_us, w2]
    · rw [e4, pk_un (by omega), e3, show p0.toNatClampNeg + 3 = p3.toNatClampNeg by omega, pk_us, w3]
    · rw [e4, show p0.toNatClampNeg + 4 = p4.toNatClampNeg by omega, pk_us, w4]
  · have h := hE j (by omega)
    unfold entry at h ⊢
    rw [lo _ (by omega), lo _ (by omega), lo _ (by omega), lo _ (by omega), lo _ (by omega)]
    exact h
theorem kept_mk {P N u n11 L : Int32} {f5 f6 f7 f8 f9 f10 f12 f13 f14 F12 F13 F14 e12 e13 e14 : Nat → Int32} {s11 : Int} (hm : moved s11 f12 f13 f14 u.toInt F12 F13 F14) (h0 : 0 ≤ u.toInt) (a12 : e12 = upd F12 u.toNatClampNeg P) (a13 : e13 = upd F13 u.toNatClampNeg N) (hk : ∀ q : Nat, q < 200 * u.toNatClampNeg → e14 q = F14 q) (hE : ∀ j : Nat, (j : Int) < L.toInt → entry e14 (200 * u.toNatClampNeg) f5 f6 f7 f8 f9 f10 j) (hL : 40 ≤ L.toInt) (hn : n11.toInt = u.toInt + 1) : kept P N f5 f6 f7 f8 f9 f10 s11 f12 f13 f14 n11.toInt e12 e13 e14 := by
  have cu := clI (i := u) h0
  obtain ⟨d, hd, hq⟩ := hm
  refine ⟨u.toNatClampNeg, d, by omega, by omega, fun k hk2 => ?_, ?_, ?_, fun l hl => hE l (by omega)⟩
  · obtain ⟨b1, b2, b3⟩ := hq k (by omega)
    refine ⟨?_, ?_, fun i hi => ?_⟩
    · rw [a12, pk_un (by omega)]
      exact b1
    · rw [a13, pk_un (by omega)]
      exact b2
    · rw [hk _ (by omega)]
      exact b3 i hi
  · rw [a12, pk_us]
  · rw [a13, pk_us]
theorem netE_up {P Q N : Int} {f6 f7 f10 : Nat → Int32} (h : netE P N f6 f7 f10) (hq : P ≤ Q) : netE Q N f6 f7 f10 := fun j hj h0 => by
  have a := h j hj h0
  omega
theorem netE_add {P : Int} {N M a b z : Int32} {f6 f7 f10 e6 e7 e10 : Nat → Int32} (h : netE P N.toInt f6 f7 f10) (h6 : e6 = upd f6 N.toNatClampNeg a) (h7 : e7 = upd f7 N.toNatClampNeg b) (h10 : e10 = upd f10 N.toNatClampNeg z) (hN : 0 ≤ N.toInt) (hM : M.toInt = N.toInt + 1) (ha : a.toInt < P) (hb : b.toInt < P) : netE P M.toInt e6 e7 e10 := fun j hj h0 => by
  have c := clI (i := N) hN
  by_cases q : j = N.toNatClampNeg
  · rw [h6, h7, q, pk_us, pk_us]
    exact ⟨ha, hb⟩
  · rw [h10, pk_un q] at h0
    rw [h6, h7, pk_un q, pk_un q]
    exact h j (by omega) h0
theorem past_dn {U V : Int} {f12 f13 f14 : Nat → Int32} (h : pastE U f12 f13 f14) (hV : V ≤ U) : pastE V f12 f13 f14 := fun k hk => h k (by omega)
/-- a place's number behind a merge -/
noncomputable def renI (x low high : Int) : Int := if x = high then low else if high < x then x - 1 else x
theorem renI_lt {x low high P : Int} (h1 : low < high) (h2 : high < P) (hx : x < P) : renI x low high < P - 1 := by
  unfold renI
  (repeat' split) <;> omega
/-- the lines behind a merge, the first n of them done -/
noncomputable def mrgd (low high : Int) (f6 f7 f10 g6 g7 g10 : Nat → Int32) (n : Int) : Prop :=
  (∀ j : Nat, (j : Int) < n → ((f10 j).toInt ≠ 0 → g6 j = f6 j ∧ g7 j = f7 j ∧ g10 j = f10 j) ∧ ((f10 j).toInt = 0 → (g6 j).toInt = renI (f6 j).toInt low high ∧ (g7 j).toInt = renI (f7 j).toInt low high ∧ (g10 j).toInt = if renI (f6 j).toInt low high = renI (f7 j).toInt low high then 1 else 0)) ∧
  (∀ j : Nat, n ≤ (j : Int) → g6 j = f6 j ∧ g7 j = f7 j ∧ g10 j = f10 j)
theorem mrgd_0 {low high : Int} {f6 f7 f10 : Nat → Int32} : mrgd low high f6 f7 f10 f6 f7 f10 (0 : Int32).toInt := by
  have z : (0 : Int32).toInt = 0 := by decide
  exact ⟨fun j hj => by omega, fun _ _ => ⟨rfl, rfl, rfl⟩⟩
theorem mrgd_skip {low high : Int} {f6 f7 f10 g6 g7 g10 : Nat → Int32} {n n2 : Int32} (h : mrgd low high f6 f7 f10 g6 g7 g10 n.toInt) (h0 : 0 ≤ n.toInt) (e : n2.toInt = n.toInt + 1) (hm : (g10 n.toNatClampNeg).toInt ≠ 0) : mrgd low high f6 f7 f10 g6 g7 g10 n2.toInt := by
  have c := clI (i := n) h0
  refine ⟨fun j hj => ?_, fun j hj => h.2 j (by omega)⟩
  by_cases q : j = n.toNatClampNeg
  · have a := h.2 j (by omega)
    rw [← q, a.2.2] at hm
    exact ⟨fun _ => a, fun z => absurd z hm⟩
  · exact h.1 j (by omega)
theorem mrgd_st {low high : Int} {f6 f7 f10 g6 g7 g10 k6 k7 k10 : Nat → Int32} {n n2 x y z : Int32} (h : mrgd low high f6 f7 f10 g6 g7 g10 n.toInt) (h0 : 0 ≤ n.toInt) (e : n2.toInt = n.toInt + 1) (hm : (g10 n.toNatClampNeg).toInt = 0) (e6 : k6 = upd g6 n.toNatClampNeg x) (e7 : k7 = upd g7 n.toNatClampNeg y) (e10 : k10 = upd g10 n.toNatClampNeg z)
    (hx : x.toInt = renI (g6 n.toNatClampNeg).toInt low high) (hy : y.toInt = renI (g7 n.toNatClampNeg).toInt low high) (hz : z.toInt = if x.toInt = y.toInt then 1 else 0) : mrgd low high f6 f7 f10 k6 k7 k10 n2.toInt := by
  have c := clI (i := n) h0
  have a := h.2 n.toNatClampNeg (by omega)
  rw [a.1] at hx
  rw [a.2.1] at hy
  rw [a.2.2] at hm
  refine ⟨fun j hj => ?_, fun j hj => ?_⟩
  · by_cases q : j = n.toNatClampNeg
    · rw [e6, e7, e10, q, pk_us, pk_us, pk_us]
      exact ⟨fun w => absurd hm w, fun _ => ⟨hx, hy, by rw [hz, hx, hy]⟩⟩
    · rw [e6, e7, e10, pk_un q, pk_un q, pk_un q]
      exact h.1 j (by omega)
  · rw [e6, e7, e10, pk_un (by omega), pk_un (by omega), pk_un (by omega)]
    exact h.2 j (by omega)
theorem mrgd_net {low high P N n Q : Int} {f6 f7 f10 g6 g7 g10 : Nat → Int32} (h : mrgd low high f6 f7 f10 g6 g7 g10 n) (hN : N ≤ n) (hn : netE P N f6 f7 f10) (h1 : low < high) (h2 : high < P) (hQ : Q = P - 1) : netE Q N g6 g7 g10 := fun j hj h0 => by
  have a := h.1 j (by omega)
  by_cases q : (f10 j).toInt = 0
  · have b := a.2 q
    have w := hn j hj q
    rw [b.1, b.2.1, hQ]
    exact ⟨renI_lt h1 h2 w.1, renI_lt h1 h2 w.2⟩
  · have b := a.1 q
    rw [b.2.2] at h0
    exact absurd h0 q
/-- a net as it comes back -/
noncomputable def back (g : Nat → Int32) (b : Nat) (f5 f6 f7 f8 f9 f10 : Nat → Int32) (l : Nat) : Prop := f5 l = g (b + 5 * l) ∧ f6 l = g (b + 5 * l + 1) ∧ f7 l = g (b + 5 * l + 2) ∧ f8 l = g (b + 5 * l + 3) ∧ (f9 l).toInt = (g (b + 5 * l + 4)).toInt % 1000 ∧ (f10 l).toInt = if 999 < (g (b + 5 * l + 4)).toInt then 1 else 0
theorem rem1000e {x : Int32} (h : (0 ≤ x.toInt ∧ x.toInt ≤ 100) ∨ (1000 ≤ x.toInt ∧ x.toInt ≤ 1100)) : (x - x / 1000 * 1000).toInt = x.toInt % 1000 := by
  obtain ⟨j, hj, rfl⟩ := nI_of (x := x) (fun h9 => by
    have := Int32.lt_iff_toInt_lt.mp h9
    have z : (0 : Int32).toInt = 0 := by decide
    omega)
  have e : (1000 : Int32) = nI 1000 := rfl
  rw [nI_toInt hj] at h
  rw [e, pk_rem hj (by decide) (by decide), nI_toInt (by omega), nI_toInt hj]
  omega
theorem back_st {g f5 f6 f7 f8 f9 f10 k5 k6 k7 k8 k9 k10 : Nat → Int32} {u l l2 p v0 v1 v2 v3 v4 v5 w1 w2 w3 w4 x4 : Int32} (hu : 0 ≤ u.toInt) (hl : 0 ≤ l.toInt) (hp : p.toInt = 200 * u.toInt + 5 * l.toInt) (e5 : k5 = upd f5 l.toNatClampNeg v0) (e6 : k6 = upd f6 l.toNatClampNeg v1) (e7 : k7 = upd f7 l.toNatClampNeg v2) (e8 : k8 = upd f8 l.toNatClampNeg v3) (e9 : k9 = upd f9 l.toNatClampNeg v4) (e10 : k10 = upd f10 l.toNatClampNeg v5)
    (a0 : v0 = g p.toNatClampNeg) (a1 : v1 = g w1.toNatClampNeg) (q1 : w1.toInt = p.toInt + 1) (a2 : v2 = g w2.toNatClampNeg) (q2 : w2.toInt = p.toInt + 2) (a3 : v3 = g w3.toNatClampNeg) (q3 : w3.toInt = p.toInt + 3) (a4 : x4 = g w4.toNatClampNeg) (q4 : w4.toInt = p.toInt + 4) (b4 : v4.toInt = x4.toInt % 1000) (b5 : v5.toInt = if 999 < x4.toInt then 1 else 0)
    (h : ∀ j : Nat, (j : Int) < l.toInt → back g (200 * u.toNatClampNeg) f5 f6 f7 f8 f9 f10 j) (el : l2.toInt = l.toInt + 1) : ∀ j : Nat, (j : Int) < l2.toInt → back g (200 * u.toNatClampNeg) k5 k6 k7 k8 k9 k10 j := fun j hj => by
  have cu := clI (i := u) hu
  have cl := clI (i := l) hl
  have c0 := clI (i := p) (by omega)
  have c1 := clI (i := w1) (by omega)
  have c2 := clI (i := w2) (by omega)
  have c3 := clI (i := w3) (by omega)
  have c4 := clI (i := w4) (by omega)
  unfold back
  by_cases z : j = l.toNatClampNeg
  · subst z
    rw [show 200 * u.toNatClampNeg + 5 * l.toNatClampNeg = p.toNatClampNeg by omega, show p.toNatClampNeg + 1 = w1.toNatClampNeg by omega, show p.toNatClampNeg + 2 = w2.toNatClampNeg by omega, show p.toNatClampNeg + 3 = w3.toNatClampNeg by omega, show p.toNatClampNeg + 4 = w4.toNatClampNeg by omega, ← a0, ← a1, ← a2, ← a3, ← a4, e5, e6, e7, e8, e9, e10, pk_us, pk_us, pk_us, pk_us, pk_us, pk_us]
    exact ⟨rfl, rfl, rfl, rfl, b4, b5⟩
  · rw [e5, e6, e7, e8, e9, e10, pk_un z, pk_un z, pk_un z, pk_un z, pk_un z, pk_un z]
    exact h j (by omega)
theorem back_net {g12 g13 g14 f5 f6 f7 f8 f9 f10 : Nat → Int32} {u L P N : Int32} {U : Int} (hp : pastE U g12 g13 g14) (h0 : 0 ≤ u.toInt) (hu : u.toInt < U) (hP : P = g12 u.toNatClampNeg) (hN : N = g13 u.toNatClampNeg) (h40 : N.toInt ≤ 40) (h : ∀ j : Nat, (j : Int) < L.toInt → back g14 (200 * u.toNatClampNeg) f5 f6 f7 f8 f9 f10 j) (hL : 40 ≤ L.toInt) : netE P.toInt N.toInt f6 f7 f10 := fun j hj h9 => by
  have cu := clI (i := u) h0
  obtain ⟨b5, b6, b7, b8, b9, b10⟩ := h j (by omega)
  rw [b6, b7, hP]
  refine hp _ (by omega) j (by rw [← hN]; exact hj) ?_
  rw [b10] at h9
  split at h9
  · omega
  · omega
theorem nar_if {z : Int32} {a b : Int} (h : z.toInt = if a = b then 1 else 0) : (vp_nar .boolean z).toInt = if a = b then 1 else 0 := by
  have e : z = 0 ∨ z = 1 := b01 (by split at h <;> omega)
  rw [← h]
  rcases e with e | e <;> rw [e] <;> decide
theorem nar_gt {z : Int32} {a b : Int} (h : z.toInt = if a < b then 1 else 0) : (vp_nar .boolean z).toInt = if a < b then 1 else 0 := by
  have e : z = 0 ∨ z = 1 := b01 (by split at h <;> omega)
  rw [← h]
  rcases e with e | e <;> rw [e] <;> decide

set_option maxHeartbeats 4000000 in
set_option maxRecDepth 100000 in
theorem c_X12_keeps2 (l : Launch) (D : va_G) (cy : Nat → ClassId) (sz : Nat) (mo : Nat) (g5 : Nat) (g6 : Nat) (g7 : Nat) (g8 : Nat) (g9 : Nat) (g10 : Nat) (g12 : Nat) (g13 : Nat) (g14 : Nat) (g15 : Nat) (g16 : Nat) (g17 : Nat) (g18 : Nat) (g19 : Nat) (g20 : Nat) (g22 : Nat) (g23 : Nat) (g24 : Nat) (g29 : Nat) (g30 : Nat) (g31 : Nat) (g32 : Nat) (g33 : Nat) (s0 : Int32) (s1 : Int32) (s3 : Int32) (s4 : Int32) (s11 : Int32) (s21 : Int32) (s25 : Int32) (s26 : Int32) (s27 : Int32) (s28 : Int32) (t2 : Int64) (f5 : Nat → Int32) (f6 : Nat → Int32) (f7 : Nat → Int32) (f8 : Nat → Int32) (f9 : Nat → Int32) (f10 : Nat → Int32) (f12 : Nat → Int32) (f13 : Nat → Int32) (f14 : Nat → Int32) (hN : 0 ≤ s4.toInt ∧ s4.toInt ≤ 40) (hPl : 0 ≤ s3.toInt ∧ s3.toInt ≤ 12) (hU : 0 ≤ s11.toInt ∧ s11.toInt ≤ 30) (r_f6 : rng f6 40 (0) (11)) (r_f7 : rng f7 40 (0) (11)) (r_f8 : rng f8 40 (0) (2000)) (r_f9 : rng f9 40 (0) (100)) (r_f12 : rng f12 30 (0) (12)) (r_f13 : rng f13 30 (0) (40)) (r_f14 : orng f14 6000) : Met l yX12_keeps wsX12_keeps ({ frames := 0, cells := 0, slots := 0, locals := 0 }) (va_Pc [.ref mo] (fun U => U.heap.size = sz ∧ va_P D vwCl [ob12_0_ mo s0 s1 t2 s3 s4 g5 g6 g7 g8 g9 g10 s11 g12 g13 g14 g15 g16 g17 g18 g19 g20 s21 g22 g23 g24 s25 s26 s27 s28 g29 g30 g31 g32 g33, ai_ cy g5 40 f5, ai_ cy g6 40 f6, ai_ cy g7 40 f7, ai_ cy g8 40 f8, ai_ cy g9 40 f9, az_ cy g10 40 f10, ai_ cy g12 30 f12, ai_ cy g13 30 f13, ai_ cy g14 6000 f14] U.heap ∧ kk_ D cy U ∧ va_D (fun _ => True) [ob12_0_ mo s0 s1 t2 s3 s4 g5 g6 g7 g8 g9 g10 s11 g12 g13 g14 g15 g16 g17 g18 g19 g20 s21 g22 g23 g24 s25 s26 s27 s28 g29 g30 g31 g32 g33, ai_ cy g5 40 f5, ai_ cy g6 40 f6, ai_ cy g7 40 f7, ai_ cy g8 40 f8, ai_ cy g9 40 f9, az_ cy g10 40 f10, ai_ cy g12 30 f12, ai_ cy g13 30 f13, ai_ cy g14 6000 f14])) (va_Qv (fun (_ : Unit) => True) (fun (_ : Unit) (t : State) => ∃ (n11 : Int32), ∃ (e12 : Nat → Int32), ∃ (e13 : Nat → Int32), ∃ (e14 : Nat → Int32), (1 ≤ n11.toInt ∧ n11.toInt ≤ 30) ∧ (kept s3 s4 f5 f6 f7 f8 f9 f10 s11.toInt f12 f13 f14 n11.toInt e12 e13 e14) ∧ (rng e12 30 (0) (12)) ∧ (rng e13 30 (0) (40)) ∧ (orng e14 6000) ∧ va_P D vwCl [ob12_0_ mo s0 s1 t2 s3 s4 g5 g6 g7 g8 g9 g10 n11 g12 g13 g14 g15 g16 g17 g18 g19 g20 s21 g22 g23 g24 s25 s26 s27 s28 g29 g30 g31 g32 g33, ai_ cy g5 40 f5, ai_ cy g6 40 f6, ai_ cy g7 40 f7, ai_ cy g8 40 f8, ai_ cy g9 40 f9, az_ cy g10 40 f10, ai_ cy g12 30 e12, ai_ cy g13 30 e13, ai_ cy g14 6000 e14] t.heap ∧ va_D (va_A [ob12_0_ mo s0 s1 t2 s3 s4 g5 g6 g7 g8 g9 g10 s11 g12 g13 g14 g15 g16 g17 g18 g19 g20 s21 g22 g23 g24 s25 s26 s27 s28 g29 g30 g31 g32 g33, ai_ cy g5 40 f5, ai_ cy g6 40 f6, ai_ cy g7 40 f7, ai_ cy g8 40 f8, ai_ cy g9 40 f9, az_ cy g10 40 f10, ai_ cy g12 30 f12, ai_ cy g13 30 f13, ai_ cy g14 6000 f14] sz) [ob12_0_ mo s0 s1 t2 s3 s4 g5 g6 g7 g8 g9 g10 n11 g12 g13 g14 g15 g16 g17 g18 g19 g20 s21 g22 g23 g24 s25 s26 s27 s28 g29 g30 g31 g32 g33, ai_ cy g5 40 f5, ai_ cy g6 40 f6, ai_ cy g7 40 f7, ai_ cy g8 40 f8, ai_ cy g9 40 f9, az_ cy g10 40 f10, ai_ cy g12 30 e12, ai_ cy g13 30 e13, ai_ cy g14 6000 e14]) (va_A [ob12_0_ mo s0 s1 t2 s3 s4 g5 g6 g7 g8 g9 g10 s11 g12 g13 g14 g15 g16 g17 g18 g19 g20 s21 g22 g23 g24 s25 s26 s27 s28 g29 g30 g31 g32 g33, ai_ cy g5 40 f5, ai_ cy g6 40 f6, ai_ cy g7 40 f7, ai_ cy g8 40 f8, ai_ cy g9 40 f9, az_ cy g10 40 f10, ai_ cy g12 30 f12, ai_ cy g13 30 f13, ai_ cy g14 6000 f14] sz)) 0 0 (va_A [ob12_0_ mo s0 s1 t2 s3 s4 g5 g6 g7 g8 g9 g10 s11 g12 g13 g14 g15 g16 g17 g18 g19 g20 s21 g22 g23 g24 s25 s26 s27 s28 g29 g30 g31 g32 g33, ai_ cy g5 40 f5, ai_ cy g6 40 f6, ai_ cy g7 40 f7, ai_ cy g8 40 f8, ai_ cy g9 40 f9, az_ cy g10 40 f10, ai_ cy g12 30 f12, ai_ cy g13 30 f13, ai_ cy g14 6000 f14] sz) := by
  refine ofQ (cc := cX12_keeps) (maxL := 3) (ret := none) (by decide) rfl ?_
  intro p e s m args below meth c s₁ Q hQ B hml hv
  obtain ⟨rfl, hsz, hP, hK, hD0⟩ := hv
  have hx := B.exec
  have hb := B.bytes
  have hr := B.returns
  have hts := atoms_spec (ws := wsX12_keeps) B.pre
  have hown : s.vm.findClass RX12 = some m.cls := by have h_ := findClass_of_methodNamed B.named; exact h_
  have hlocks := B.notSynchronized
  subst hsz
  have hD := hD0.self (sz := s.heap.size)
  generalize hAe : va_A [ob12_0_ mo s0 s1 t2 s3 s4 g5 g6 g7 g8 g9 g10 s11 g12 g13 g14 g15 g16 g17 g18 g19 g20 s21 g22 g23 g24 s25 s26 s27 s28 g29 g30 g31 g32 g33, ai_ cy g5 40 f5, ai_ cy g6 40 f6, ai_ cy g7 40 f7, ai_ cy g8 40 f8, ai_ cy g9 40 f9, az_ cy g10 40 f10, ai_ cy g12 30 f12, ai_ cy g13 30 f13, ai_ cy g14 6000 f14] s.heap.size = A at hD hQ
  have hA : ∀ q : Nat, s.heap.size ≤ q → A q := fun q h => by rw [← hAe]; exact Or.inr h
  have hS : va_S A s.heap s.heap [] := va_S.rf
  have hl := lv_entry ([.ref mo]) (n := 3) (Nat.le_of_ble_eq_true rfl)
  rw [lg_entry_eq]
  generalize (lg_sl ([.ref mo]) ++ List.replicate (3 - (lg_sl ([.ref mo])).length) Slot.unset).toArray = ls at hl ⊢
  have hl : lv_has ls 3 [(0, .ref mo)] := hl
  have z0 : (0 : Int32).toInt = 0 := by decide
  have z1 : (1 : Int32).toInt = 1 := by decide
  have z2 : (2 : Int32).toInt = 2 := by decide
  have z3 : (3 : Int32).toInt = 3 := by decide
  have z4 : (4 : Int32).toInt = 4 := by decide
  have z5 : (5 : Int32).toInt = 5 := by decide
  have z29 : (29 : Int32).toInt = 29 := by decide
  have z30 : (30 : Int32).toInt = 30 := by decide
  have z40 : (40 : Int32).toInt = 40 := by decide
  have z200 : (200 : Int32).toInt = 200 := by decide
  have z1000 : (1000 : Int32).toInt = 1000 := by decide
  have z5800 : (5800 : Int32).toInt = 5800 := by decide
  refine lv_aload_n hx hb dB_3_0_19.1.1.1.1 rfl (lv_at hl 0 rfl) ?_
  refine va_get (ci := 12) (v := .int s11) (C := RX12) (T := TX12) (N := 34) hx hb hts (fun _ h => List.mem_cons_of_mem _ (List.mem_append_right _ h)) hown hK.1 hP 0 rfl rfl 11 (by decide) (hts (.fieldLink RX12 102 "CutAtlasModel" "undone" "I") (List.mem_of_getElem? (i := 1) rfl)) (fun _ h9 => h9) rfl dB_3_0_19.1.1.1.2 ?_
  refine lv_bipush (v := 30) hx hb dB_3_0_19.1.1.2.1 (by decide) ?_
  refine lv_icmp_ne (tgt := 92) hx hb dB_3_0_19.1.1.2.2 (by decide) (fun c_1 => ?_) (fun c_1 => ?_)
  · have t_1 : ¬ s11.toInt = (30 : Int32).toInt := fun h => c_1 (Int32.toInt_inj.mp h)
    have hm_ : moved s11.toInt f12 f13 f14 s11.toInt f12 f13 f14 := by first | exact moved_1 (by omega) (by omega) v_none v_none v_none (by omega) (by omega) | exact moved_0 (by omega)
    refine lv_aload_n hx hb dB_3_0_22.1.2.2.1 rfl (lv_at hl 0 rfl) ?_
    refine va_get (ci := 12) (v := .ref g12) (C := RX12) (T := TX12) (N := 34) hx hb hts (fun _ h => List.mem_cons_of_mem _ (List.mem_append_right _ h)) hown hK.1 hP 0 rfl rfl 12 (by decide) (hts (.fieldLink RX12 29 "CutAtlasModel" "oldPlaces" "[I") (List.mem_of_getElem? (i := 2) rfl)) (fun _ h9 => h9) rfl dB_3_0_22.1.2.2.2 ?_
    refine lv_aload_n hx hb dB_3_0_22.2.1.1.1 rfl (lv_at hl 0 rfl) ?_
    refine va_get (ci := 12) (v := .int s11) (C := RX12) (T := TX12) (N := 34) hx hb hts (fun _ h => List.mem_cons_of_mem _ (List.mem_append_right _ h)) hown hK.1 hP 0 rfl rfl 11 (by decide) (hts (.fieldLink RX12 102 "CutAtlasModel" "undone" "I") (List.mem_of_getElem? (i := 1) rfl)) (fun _ h9 => h9) rfl dB_3_0_22.2.1.1.2 ?_
    refine lv_aload_n hx hb dB_3_0_22.2.1.2.1 rfl (lv_at hl 0 rfl) ?_
    refine va_get (ci := 12) (v := .int s3) (C := RX12) (T := TX12) (N := 34) hx hb hts (fun _ h => List.mem_cons_of_mem _ (List.mem_append_right _ h)) hown hK.1 hP 0 rfl rfl 3 (by decide) (hts (.fieldLink RX12 88 "CutAtlasModel" "places" "I") (List.mem_of_getElem? (i := 5) rfl)) (fun _ h9 => h9) rfl dB_3_0_22.2.1.2.2 ?_
    have h_2 : vp_in s11 30 := in_I (by first | with_reducible assumption | omega) (by omega)
    refine va_iast hx hb hK.1 hP hD hS 7 0 rfl rfl (i := s11) h_2 dB_3_0_22.2.2.1.1 (fun H locs hP hD hS => ?_)
    obtain ⟨f_3, ef_3⟩ : ∃ g : Nat → Int32, g = upd f12 s11.toNatClampNeg s3 := ⟨_, rfl⟩
    refine pd_K (D := D) (cl := vwCl) (H := H) (A := A) [ob12_0_ mo s0 s1 t2 s3 s4 g5 g6 g7 g8 g9 g10 s11 g12 g13 g14 g15 g16 g17 g18 g19 g20 s21 g22 g23 g24 s25 s26 s27 s28 g29 g30 g31 g32 g33, ai_ cy g5 40 f5, ai_ cy g6 40 f6, ai_ cy g7 40 f7, ai_ cy g8 40 f8, ai_ cy g9 40 f9, az_ cy g10 40 f10, ai_ cy g12 30 f_3, ai_ cy g13 30 f13, ai_ cy g14 6000 f14] (by rw [ef_3]; exact hP) (by rw [ef_3]; exact hD) (fun hP hD => ?_)
    have rf_3 : rng f_3 30 (0) (12) := by rw [ef_3]; exact rng_upd r_f12 (by omega) (by omega)
    refine lv_aload_n hx hb dB_3_0_22.2.2.1.2 rfl (lv_at hl 0 rfl) ?_
    refine va_get (ci := 12) (v := .ref g13) (C := RX12) (T := TX12) (N := 34) hx hb hts (fun _ h => List.mem_cons_of_mem _ (List.mem_append_right _ h)) hown hK.1 hP 0 rfl rfl 13 (by decide) (hts (.fieldLink RX12 32 "CutAtlasModel" "oldLines" "[I") (List.mem_of_getElem? (i := 3) rfl)) (fun _ h9 => h9) rfl dB_3_0_22.2.2.2.1 ?_
    refine lv_aload_n hx hb dB_3_0_22.2.2.2.2 rfl (lv_at hl 0 rfl) ?_
    refine va_get (ci := 12) (v := .int s11) (C := RX12) (T := TX12) (N := 34) hx hb hts (fun _ h => List.mem_cons_of_mem _ (List.mem_append_right _ h)) hown hK.1 hP 0 rfl rfl 11 (by decide) (hts (.fieldLink RX12 102 "CutAtlasModel" "undone" "I") (List.mem_of_getElem? (i := 1) rfl)) (fun _ h9 => h9) rfl dB_3_0_23.1.1.1.1 ?_
    refine lv_aload_n hx hb dB_3_0_23.1.1.1.2 rfl (lv_at hl 0 rfl) ?_
    refine va_get (ci := 12) (v := .int s4) (C := RX12) (T := TX12) (N := 34) hx hb hts (fun _ h => List.mem_cons_of_mem _ (List.mem_append_right _ h)) hown hK.1 hP 0 rfl rfl 4 (by decide) (hts (.fieldLink RX12 95 "CutAtlasModel" "lines" "I") (List.mem_of_getElem? (i := 6) rfl)) (fun _ h9 => h9) rfl dB_3_0_23.1.1.2.1 ?_
    refine va_iast hx hb hK.1 hP hD hS 8 0 rfl rfl (i := s11) h_2 dB_3_0_23.1.1.2.2 (fun H locs hP hD hS => ?_)
    obtain ⟨f_5, ef_5⟩ : ∃ g : Nat → Int32, g = upd f13 s11.toNatClampNeg s4 := ⟨_, rfl⟩
    refine pd_K (D := D) (cl := vwCl) (H := H) (A := A) [ob12_0_ mo s0 s1 t2 s3 s4 g5 g6 g7 g8 g9 g10 s11 g12 g13 g14 g15 g16 g17 g18 g19 g20 s21 g22 g23 g24 s25 s26 s27 s28 g29 g30 g31 g32 g33, ai_ cy g5 40 f5, ai_ cy g6 40 f6, ai_ cy g7 40 f7, ai_ cy g8 40 f8, ai_ cy g9 40 f9, az_ cy g10 40 f10, ai_ cy g12 30 f_3, ai_ cy g13 30 f_5, ai_ cy g14 6000 f14] (by rw [ef_5]; exact hP) (by rw [ef_5]; exact hD) (fun hP hD => ?_)
    have rf_5 : rng f_5 30 (0) (40) := by rw [ef_5]; exact rng_upd r_f13 (by omega) (by omega)
    refine lv_iconst (v := 0) hx hb dB_3_0_23.1.2.1.1 (by decide) ?_
    refine lv_istore_n (lv' := [(1, .int 0), (0, .ref mo)]) hx hb dB_3_0_23.1.2.1.2 rfl hl (by decide) rfl (fun ls hl => ?_)
    suffices LOOP_6 : ∀ (n_6 : Nat) (x1_6 : Int32) (c_g14_6 : Nat → Int32) (H : Heap) (locs : List Loc) (ls : Array Slot), 40 - x1_6.toInt < (n_6 : Int) → (0 ≤ x1_6.toInt) → (x1_6.toInt ≤ 40) → (∀ q : Nat, q < 200 * s11.toNatClampNeg → c_g14_6 q = f14 q) → (∀ j : Nat, (j : Int) < x1_6.toInt → entry c_g14_6 (200 * s11.toNatClampNeg) f5 f6 f7 f8 f9 f10 j) → (orng c_g14_6 6000) → pd_2 D vwCl A [ob12_0_ mo s0 s1 t2 s3 s4 g5 g6 g7 g8 g9 g10 s11 g12 g13 g14 g15 g16 g17 g18 g19 g20 s21 g22 g23 g24 s25 s26 s27 s28 g29 g30 g31 g32 g33, ai_ cy g5 40 f5, ai_ cy g6 40 f6, ai_ cy g7 40 f7, ai_ cy g8 40 f8, ai_ cy g9 40 f9, az_ cy g10 40 f10, ai_ cy g12 30 f_3, ai_ cy g13 30 f_5, ai_ cy g14 6000 c_g14_6] H → va_S A s.heap H locs → lv_has ls 3 [(1, .int x1_6), (0, .ref mo)] → W p l e ({ frames := 0, cells := 0, slots := 0, locals := 0 } : Room) s m (([.ref mo] : List Value).toArray) below meth c H locs 0 0 Q (F0 m 120 ls []) from LOOP_6 ((40 - (0 : Int32).toInt).toNat + 1) (0 : Int32) f14 _ _ _ (by omega) (by first | with_reducible assumption | omega | assumption) (by first | with_reducible assumption | omega | assumption) (by first | exact fun _ _ => rfl | exact hE_.1) (by first | exact hE_.2 | (intro j hj; omega)) (by first | with_reducible assumption | assumption | exact rng_zero (by omega) (by omega) | exact orng_zero) ⟨hP, hD⟩ hS (lv_sub hl [0, 1] rfl)
    intro n_6
    induction n_6 with
    | zero =>
      intro x1_6 c_g14_6 H locs ls hm v0_6 v1_6 v2_6 v3_6 rc_g14_6 hPD hS hl; obtain ⟨hP, hD⟩ := hPD
      exact absurd hm (by omega)
    | succ n_6 ih_6 =>
      intro x1_6 c_g14_6 H locs ls hm v0_6 v1_6 v2_6 v3_6 rc_g14_6 hPD hS hl; obtain ⟨hP, hD⟩ := hPD
      refine lv_iload_n hx hb dB_3_0_23.1.2.2.1 rfl (lv_at hl 0 rfl) ?_
      refine lv_bipush (v := 40) hx hb dB_3_0_23.1.2.2.2 (by decide) ?_
      refine lv_icmp_ge (tgt := 230) hx hb dB_3_0_23.2.1.1.1 (by decide) (fun c_7 => ?_) (fun c_7 => ?_)
      · have t_7 : (40 : Int32).toInt ≤ x1_6.toInt := Int32.le_iff_toInt_le.mp c_7
        refine lv_aload_n hx hb dB_3_0_27.2.2.1.2 rfl (lv_at hl 1 rfl) ?_
        refine lv_dup hx hb dB_3_0_27.2.2.2.1 rfl ?_
        refine va_get (ci := 12) (v := .int s11) (C := RX12) (T := TX12) (N := 34) hx hb hts (fun _ h => List.mem_cons_of_mem _ (List.mem_append_right _ h)) hown hK.1 hP 0 rfl rfl 11 (by decide) (hts (.fieldLink RX12 102 "CutAtlasModel" "undone" "I") (List.mem_of_getElem? (i := 1) rfl)) (fun _ h9 => h9) rfl dB_3_0_27.2.2.2.2 ?_
        refine lv_iconst (v := 1) hx hb dB_3_0_28.1.1 (by decide) ?_
        refine lv_iadd hx hb dB_3_0_28.1.2 ?_
        refine lv_topi (fun y_8 ey_8 => ?_)
        have ty_8 : y_8.toInt = s11.toInt + (1 : Int32).toInt := by rw [ey_8]; exact addI (by omega) (by omega)
        refine va_put (ci := 12) (v := .int y_8) (ty := .int) (C := RX12) (T := TX12) (N := 34) hx hb hts (fun _ h => List.mem_cons_of_mem _ (List.mem_append_right _ h)) tyX12 tyX12_ok nmX12 hown hK.1 hP hD hS 0 rfl rfl 11 (by decide) (hts (.fieldLink RX12 102 "CutAtlasModel" "undone" "I") (List.mem_of_getElem? (i := 1) rfl)) (fun _ h9 => h9) rfl (by decide +kernel) rfl rfl (Nat.le_of_ble_eq_true rfl) dB_3_0_28.2.1 (fun H locs hP hD hS => ?_)
        refine pd_K [ob12_0_ mo s0 s1 t2 s3 s4 g5 g6 g7 g8 g9 g10 y_8 g12 g13 g14 g15 g16 g17 g18 g19 g20 s21 g22 g23 g24 s25 s26 s27 s28 g29 g30 g31 g32 g33, ai_ cy g5 40 f5, ai_ cy g6 40 f6, ai_ cy g7 40 f7, ai_ cy g8 40 f8, ai_ cy g9 40 f9, az_ cy g10 40 f10, ai_ cy g12 30 f_3, ai_ cy g13 30 f_5, ai_ cy g14 6000 c_g14_6] hP hD (fun hP hD => ?_)
        rw [hQ]
        exact W.vret hx hb hr (fun t ht hW => ⟨⟨(), rfl, trivial, y_8, f_3, f_5, c_g14_6, (by first | with_reducible assumption | omega | assumption), (kept_mk (u := s11) (L := x1_6) hm_ (by omega) ef_3 ef_5 v2_6 v3_6 (by omega) (by omega)), (by first | with_reducible assumption | assumption | exact rng_zero (by omega) (by omega) | omega), (by first | with_reducible assumption | assumption | exact rng_zero (by omega) (by omega) | omega), (by first | with_reducible assumption | assumption | exact rng_zero (by omega) (by omega) | omega), by rw [ht]; exact hP, hD⟩, hS.F ht⟩) hS.2.2 dB_3_0_28.2.2
      · have t_7 : ¬ (40 : Int32).toInt ≤ x1_6.toInt := fun h => c_7 (Int32.le_iff_toInt_le.mpr h)
        refine lv_sipush (v := 200) hx hb dB_3_0_23.2.1.1.2 (by decide) ?_
        refine lv_aload_n hx hb dB_3_0_23.2.1.2.1 rfl (lv_at hl 1 rfl) ?_
        refine va_get (ci := 12) (v := .int s11) (C := RX12) (T := TX12) (N := 34) hx hb hts (fun _ h => List.mem_cons_of_mem _ (List.mem_append_right _ h)) hown hK.1 hP 0 rfl rfl 11 (by decide) (hts (.fieldLink RX12 102 "CutAtlasModel" "undone" "I") (List.mem_of_getElem? (i := 1) rfl)) (fun _ h9 => h9) rfl dB_3_0_23.2.1.2.2 ?_
        refine lv_imul hx hb dB_3_0_23.2.2.1.1 ?_
        refine lv_topi (fun y_9 ey_9 => ?_)
        have ty_9 : y_9.toInt = 200 * s11.toInt := by rw [ey_9]; exact mulC (by decide) (by omega) (by omega)
        refine lv_iconst (v := 5) hx hb dB_3_0_23.2.2.1.2 (by decide) ?_
        refine lv_iload_n hx hb dB_3_0_23.2.2.2.1 rfl (lv_at hl 0 rfl) ?_
        refine lv_imul hx hb dB_3_0_23.2.2.2.2 ?_
        refine lv_topi (fun y_10 ey_10 => ?_)
        have ty_10 : y_10.toInt = 5 * x1_6.toInt := by rw [ey_10]; exact mulC (by decide) (by omega) (by omega)
        refine lv_iadd hx hb dB_3_0_24.1.1.1.1 ?_
        refine lv_topi (fun y_11 ey_11 => ?_)
        have ty_11 : y_11.toInt = y_9.toInt + y_10.toInt := by rw [ey_11]; exact addI (by omega) (by omega)
        refine lv_istore_n (lv' := [(2, .int y_11), (1, .int x1_6), (0, .ref mo)]) hx hb dB_3_0_24.1.1.1.2 rfl hl (by decide) rfl (fun ls hl => ?_)
        refine lv_aload_n hx hb dB_3_0_24.1.1.2.1 rfl (lv_at hl 2 rfl) ?_
        refine va_get (ci := 12) (v := .ref g14) (C := RX12) (T := TX12) (N := 34) hx hb hts (fun _ h => List.mem_cons_of_mem _ (List.mem_append_right _ h)) hown hK.1 hP 0 rfl rfl 14 (by decide) (hts (.fieldLink RX12 35 "CutAtlasModel" "old" "[I") (List.mem_of_getElem? (i := 4) rfl)) (fun _ h9 => h9) rfl dB_3_0_24.1.1.2.2 ?_
        refine lv_iload_n hx hb dB_3_0_24.1.2.1.1 rfl (lv_at hl 0 rfl) ?_
        refine lv_aload_n hx hb dB_3_0_24.1.2.1.2 rfl (lv_at hl 2 rfl) ?_
        refine va_get (ci := 12) (v := .ref g5) (C := RX12) (T := TX12) (N := 34) hx hb hts (fun _ h => List.mem_cons_of_mem _ (List.mem_append_right _ h)) hown hK.1 hP 0 rfl rfl 5 (by decide) (hts (.fieldLink RX12 7 "CutAtlasModel" "kind" "[I") (List.mem_of_getElem? (i := 7) rfl)) (fun _ h9 => h9) rfl dB_3_0_24.1.2.2.1 ?_
        refine lv_iload_n hx hb dB_3_0_24.1.2.2.2 rfl (lv_at hl 1 rfl) ?_
        have h_12 : vp_in x1_6 40 := in_I (by first | with_reducible assumption | omega) (by omega)
        refine va_iald hx hb hK.1 hP 1 0 rfl rfl (i := x1_6) h_12 dB_3_0_24.2.1.1.1 ?_
        refine lv_topi (fun y_13 ey_13 => ?_)
        have ky_13 : y_13.toInt = (f5 x1_6.toNatClampNeg).toInt := by rw [ey_13]
        have h_14 : vp_in y_11 6000 := in_I (by first | with_reducible assumption | omega) (by omega)
        refine va_iast hx hb hK.1 hP hD hS 9 0 rfl rfl (i := y_11) h_14 dB_3_0_24.2.1.1.2 (fun H locs hP hD hS => ?_)
        obtain ⟨f_15, ef_15⟩ : ∃ g : Nat → Int32, g = upd c_g14_6 y_11.toNatClampNeg y_13 := ⟨_, rfl⟩
        refine pd_K (D := D) (cl := vwCl) (H := H) (A := A) [ob12_0_ mo s0 s1 t2 s3 s4 g5 g6 g7 g8 g9 g10 s11 g12 g13 g14 g15 g16 g17 g18 g19 g20 s21 g22 g23 g24 s25 s26 s27 s28 g29 g30 g31 g32 g33, ai_ cy g5 40 f5, ai_ cy g6 40 f6, ai_ cy g7 40 f7, ai_ cy g8 40 f8, ai_ cy g9 40 f9, az_ cy g10 40 f10, ai_ cy g12 30 f_3, ai_ cy g13 30 f_5, ai_ cy g14 6000 f_15] (by rw [ef_15]; exact hP) (by rw [ef_15]; exact hD) (fun hP hD => ?_)
        have kf_15 := clI (i := y_11) (by omega)
        have rf_15 : orng f_15 6000 := by rw [ef_15]; exact orng_upd rc_g14_6 (by unfold oc; omega)
        refine lv_aload_n hx hb dB_3_0_24.2.1.2.1 rfl (lv_at hl 2 rfl) ?_
        refine va_get (ci := 12) (v := .ref g14) (C := RX12) (T := TX12) (N := 34) hx hb hts (fun _ h => List.mem_cons_of_mem _ (List.mem_append_right _ h)) hown hK.1 hP 0 rfl rfl 14 (by decide) (hts (.fieldLink RX12 35 "CutAtlasModel" "old" "[I") (List.mem_of_getElem? (i := 4) rfl)) (fun _ h9 => h9) rfl dB_3_0_24.2.1.2.2 ?_
        refine lv_iload_n hx hb dB_3_0_24.2.2.1.1 rfl (lv_at hl 0 rfl) ?_
        refine lv_iconst (v := 1) hx hb dB_3_0_24.2.2.1.2 (by decide) ?_
        refine lv_iadd hx hb dB_3_0_24.2.2.2.1 ?_
        refine lv_topi (fun y_16 ey_16 => ?_)
        have ty_16 : y_16.toInt = y_11.toInt + (1 : Int32).toInt := by rw [ey_16]; exact addI (by omega) (by omega)
        refine lv_aload_n hx hb dB_3_0_24.2.2.2.2 rfl (lv_at hl 2 rfl) ?_
        refine va_get (ci := 12) (v := .ref g6) (C := RX12) (T := TX12) (N := 34) hx hb hts (fun _ h => List.mem_cons_of_mem _ (List.mem_append_right _ h)) hown hK.1 hP 0 rfl rfl 6 (by decide) (hts (.fieldLink RX12 13 "CutAtlasModel" "from" "[I") (List.mem_of_getElem? (i := 8) rfl)) (fun _ h9 => h9) rfl dB_3_0_25.1.1.1.1 ?_
        refine lv_iload_n hx hb dB_3_0_25.1.1.1.2 rfl (lv_at hl 1 rfl) ?_
        refine va_iald hx hb hK.1 hP 2 0 rfl rfl (i := x1_6) h_12 dB_3_0_25.1.1.2.1 ?_
        refine lv_topi (fun y_18 ey_18 => ?_)
        have ky_18 : y_18.toInt = (f6 x1_6.toNatClampNeg).toInt := by rw [ey_18]
        have ry_18 : 0 ≤ y_18.toInt ∧ y_18.toInt ≤ 11 := by rw [ey_18]; exact r_f6 _ (in_lt h_12)
        have h_19 : vp_in y_16 6000 := in_I (by first | with_reducible assumption | omega) (by omega)
        refine va_iast hx hb hK.1 hP hD hS 9 0 rfl rfl (i := y_16) h_19 dB_3_0_25.1.1.2.2 (fun H locs hP hD hS => ?_)
        obtain ⟨f_20, ef_20⟩ : ∃ g : Nat → Int32, g = upd f_15 y_16.toNatClampNeg y_18 := ⟨_, rfl⟩
        refine pd_K (D := D) (cl := vwCl) (H := H) (A := A) [ob12_0_ mo s0 s1 t2 s3 s4 g5 g6 g7 g8 g9 g10 s11 g12 g13 g14 g15 g16 g17 g18 g19 g20 s21 g22 g23 g24 s25 s26 s27 s28 g29 g30 g31 g32 g33, ai_ cy g5 40 f5, ai_ cy g6 40 f6, ai_ cy g7 40 f7, ai_ cy g8 40 f8, ai_ cy g9 40 f9, az_ cy g10 40 f10, ai_ cy g12 30 f_3, ai_ cy g13 30 f_5, ai_ cy g14 6000 f_20] (by rw [ef_20]; exact hP) (by rw [ef_20]; exact hD) (fun hP hD => ?_)
        have kf_20 := clI (i := y_16) (by omega)
        have rf_20 : orng f_20 6000 := by rw [ef_20]; exact orng_upd rf_15 (by unfold oc; omega)
        refine lv_aload_n hx hb dB_3_0_25.1.2.1.1 rfl (lv_at hl 2 rfl) ?_
        refine va_get (ci := 12) (v := .ref g14) (C := RX12) (T := TX12) (N := 34) hx hb hts (fun _ h => List.mem_cons_of_mem _ (List.mem_append_right _ h)) hown hK.1 hP 0 rfl rfl 14 (by decide) (hts (.fieldLink RX12 35 "CutAtlasModel" "old" "[I") (List.mem_of_getElem? (i := 4) rfl)) (fun _ h9 => h9) rfl dB_3_0_25.1.2.1.2 ?_
        refine lv_iload_n hx hb dB_3_0_25.1.2.2.1 rfl (lv_at hl 0 rfl) ?_
        refine lv_iconst (v := 2) hx hb dB_3_0_25.1.2.2.2 (by decide) ?_
        refine lv_iadd hx hb dB_3_0_25.2.1.1.1 ?_
        refine lv_topi (fun y_21 ey_21 => ?_)
        have ty_21 : y_21.toInt = y_11.toInt + (2 : Int32).toInt := by rw [ey_21]; exact addI (by omega) (by omega)
        refine lv_aload_n hx hb dB_3_0_25.2.1.1.2 rfl (lv_at hl 2 rfl) ?_
        refine va_get (ci := 12) (v := .ref g7) (C := RX12) (T := TX12) (N := 34) hx hb hts (fun _ h => List.mem_cons_of_mem _ (List.mem_append_right _ h)) hown hK.1 hP 0 rfl rfl 7 (by decide) (hts (.fieldLink RX12 16 "CutAtlasModel" "to" "[I") (List.mem_of_getElem? (i := 9) rfl)) (fun _ h9 => h9) rfl dB_3_0_25.2.1.2.1 ?_
        refine lv_iload_n hx hb dB_3_0_25.2.1.2.2 rfl (lv_at hl 1 rfl) ?_
        refine va_iald hx hb hK.1 hP 3 0 rfl rfl (i := x1_6) h_12 dB_3_0_25.2.2.1.1 ?_
        refine lv_topi (fun y_23 ey_23 => ?_)
        have ky_23 : y_23.toInt = (f7 x1_6.toNatClampNeg).toInt := by rw [ey_23]
        have ry_23 : 0 ≤ y_23.toInt ∧ y_23.toInt ≤ 11 := by rw [ey_23]; exact r_f7 _ (in_lt h_12)
        have h_24 : vp_in y_21 6000 := in_I (by first | with_reducible assumption | omega) (by omega)
        refine va_iast hx hb hK.1 hP hD hS 9 0 rfl rfl (i := y_21) h_24 dB_3_0_25.2.2.1.2 (fun H locs hP hD hS => ?_)
        obtain ⟨f_25, ef_25⟩ : ∃ g : Nat → Int32, g = upd f_20 y_21.toNatClampNeg y_23 := ⟨_, rfl⟩
        refine pd_K (D := D) (cl := vwCl) (H := H) (A := A) [ob12_0_ mo s0 s1 t2 s3 s4 g5 g6 g7 g8 g9 g10 s11 g12 g13 g14 g15 g16 g17 g18 g19 g20 s21 g22 g23 g24 s25 s26 s27 s28 g29 g30 g31 g32 g33, ai_ cy g5 40 f5, ai_ cy g6 40 f6, ai_ cy g7 40 f7, ai_ cy g8 40 f8, ai_ cy g9 40 f9, az_ cy g10 40 f10, ai_ cy g12 30 f_3, ai_ cy g13 30 f_5, ai_ cy g14 6000 f_25] (by rw [ef_25]; exact hP) (by rw [ef_25]; exact hD) (fun hP hD => ?_)
        have kf_25 := clI (i := y_21) (by omega)
        have rf_25 : orng f_25 6000 := by rw [ef_25]; exact orng_upd rf_20 (by unfold oc; omega)
        refine lv_aload_n hx hb dB_3_0_25.2.2.2.1 rfl (lv_at hl 2 rfl) ?_
        refine va_get (ci := 12) (v := .ref g14) (C := RX12) (T := TX12) (N := 34) hx hb hts (fun _ h => List.mem_cons_of_mem _ (List.mem_append_right _ h)) hown hK.1 hP 0 rfl rfl 14 (by decide) (hts (.fieldLink RX12 35 "CutAtlasModel" "old" "[I") (List.mem_of_getElem? (i := 4) rfl)) (fun _ h9 => h9) rfl dB_3_0_25.2.2.2.2 ?_
        refine lv_iload_n hx hb dB_3_0_26.1.1.1.1 rfl (lv_at hl 0 rfl) ?_
        refine lv_iconst (v := 3) hx hb dB_3_0_26.1.1.1.2 (by decide) ?_
        refine lv_iadd hx hb dB_3_0_26.1.1.2.1 ?_
        refine lv_topi (fun y_26 ey_26 => ?_)
        have ty_26 : y_26.toInt = y_11.toInt + (3 : Int32).toInt := by rw [ey_26]; exact addI (by omega) (by omega)
        refine lv_aload_n hx hb dB_3_0_26.1.1.2.2 rfl (lv_at hl 2 rfl) ?_
        refine va_get (ci := 12) (v := .ref g8) (C := RX12) (T := TX12) (N := 34) hx hb hts (fun _ h => List.mem_cons_of_mem _ (List.mem_append_right _ h)) hown hK.1 hP 0 rfl rfl 8 (by decide) (hts (.fieldLink RX12 19 "CutAtlasModel" "width" "[I") (List.mem_of_getElem? (i := 10) rfl)) (fun _ h9 => h9) rfl dB_3_0_26.1.2.1.1 ?_
        refine lv_iload_n hx hb dB_3_0_26.1.2.1.2 rfl (lv_at hl 1 rfl) ?_
        refine va_iald hx hb hK.1 hP 4 0 rfl rfl (i := x1_6) h_12 dB_3_0_26.1.2.2.1 ?_
        refine lv_topi (fun y_28 ey_28 => ?_)
        have ky_28 : y_28.toInt = (f8 x1_6.toNatClampNeg).toInt := by rw [ey_28]
        have ry_28 : 0 ≤ y_28.toInt ∧ y_28.toInt ≤ 2000 := by rw [ey_28]; exact r_f8 _ (in_lt h_12)
        have h_29 : vp_in y_26 6000 := in_I (by first | with_reducible assumption | omega) (by omega)
        refine va_iast hx hb hK.1 hP hD hS 9 0 rfl rfl (i := y_26) h_29 dB_3_0_26.1.2.2.2 (fun H locs hP hD hS => ?_)
        obtain ⟨f_30, ef_30⟩ : ∃ g : Nat → Int32, g = upd f_25 y_26.toNatClampNeg y_28 := ⟨_, rfl⟩
        refine pd_K (D := D) (cl := vwCl) (H := H) (A := A) [ob12_0_ mo s0 s1 t2 s3 s4 g5 g6 g7 g8 g9 g10 s11 g12 g13 g14 g15 g16 g17 g18 g19 g20 s21 g22 g23 g24 s25 s26 s27 s28 g29 g30 g31 g32 g33, ai_ cy g5 40 f5, ai_ cy g6 40 f6, ai_ cy g7 40 f7, ai_ cy g8 40 f8, ai_ cy g9 40 f9, az_ cy g10 40 f10, ai_ cy g12 30 f_3, ai_ cy g13 30 f_5, ai_ cy g14 6000 f_30] (by rw [ef_30]; exact hP) (by rw [ef_30]; exact hD) (fun hP hD => ?_)
        have kf_30 := clI (i := y_26) (by omega)
        have rf_30 : orng f_30 6000 := by rw [ef_30]; exact orng_upd rf_25 (by unfold oc; omega)
        refine lv_aload_n hx hb dB_3_0_26.2.1.1.1 rfl (lv_at hl 2 rfl) ?_
        refine va_get (ci := 12) (v := .ref g14) (C := RX12) (T := TX12) (N := 34) hx hb hts (fun _ h => List.mem_cons_of_mem _ (List.mem_append_right _ h)) hown hK.1 hP 0 rfl rfl 14 (by decide) (hts (.fieldLink RX12 35 "CutAtlasModel" "old" "[I") (List.mem_of_getElem? (i := 4) rfl)) (fun _ h9 => h9) rfl dB_3_0_26.2.1.1.2 ?_
        refine lv_iload_n hx hb dB_3_0_26.2.1.2.1 rfl (lv_at hl 0 rfl) ?_
        refine lv_iconst (v := 4) hx hb dB_3_0_26.2.1.2.2 (by decide) ?_
        refine lv_iadd hx hb dB_3_0_26.2.2.1.1 ?_
        refine lv_topi (fun y_31 ey_31 => ?_)
        have ty_31 : y_31.toInt = y_11.toInt + (4 : Int32).toInt := by rw [ey_31]; exact addI (by omega) (by omega)
        refine lv_aload_n hx hb dB_3_0_26.2.2.1.2 rfl (lv_at hl 2 rfl) ?_
        refine va_get (ci := 12) (v := .ref g9) (C := RX12) (T := TX12) (N := 34) hx hb hts (fun _ h => List.mem_cons_of_mem _ (List.mem_append_right _ h)) hown hK.1 hP 0 rfl rfl 9 (by decide) (hts (.fieldLink RX12 22 "CutAtlasModel" "price" "[I") (List.mem_of_getElem? (i := 11) rfl)) (fun _ h9 => h9) rfl dB_3_0_26.2.2.2.1 ?_
        refine lv_iload_n hx hb dB_3_0_26.2.2.2.2 rfl (lv_at hl 1 rfl) ?_
        refine va_iald hx hb hK.1 hP 5 0 rfl rfl (i := x1_6) h_12 dB_3_0_27.1.1.1.1 ?_
        refine lv_topi (fun y_33 ey_33 => ?_)
        have ky_33 : y_33.toInt = (f9 x1_6.toNatClampNeg).toInt := by rw [ey_33]
        have ry_33 : 0 ≤ y_33.toInt ∧ y_33.toInt ≤ 100 := by rw [ey_33]; exact r_f9 _ (in_lt h_12)
        refine lv_aload_n hx hb dB_3_0_27.1.1.1.2 rfl (lv_at hl 2 rfl) ?_
        refine va_get (ci := 12) (v := .ref g10) (C := RX12) (T := TX12) (N := 34) hx hb hts (fun _ h => List.mem_cons_of_mem _ (List.mem_append_right _ h)) hown hK.1 hP 0 rfl rfl 10 (by decide) (hts (.fieldLink RX12 25 "CutAtlasModel" "isMissing" "[Z") (List.mem_of_getElem? (i := 12) rfl)) (fun _ h9 => h9) rfl dB_3_0_27.1.1.2.1 ?_
        refine lv_iload_n hx hb dB_3_0_27.1.1.2.2 rfl (lv_at hl 1 rfl) ?_
        refine va_zald hx hb hK.1 hP 6 2 rfl rfl (i := x1_6) h_12 dB_3_0_27.1.2.1.1 ?_
        refine lv_topi (fun y_35 ey_35 => ?_)
        have ky_35 : y_35.toInt = (f10 x1_6.toNatClampNeg).toInt := by rw [ey_35]
        refine lv_if_eq (tgt := 221) hx hb dB_3_0_27.1.2.1.2 (by decide) (fun c_36 => ?_) (fun c_36 => ?_)
        · have t_36 : y_35.toInt = (0 : Int32).toInt := congrArg Int32.toInt c_36
          refine lv_iconst (v := 0) hx hb dB_3_0_27.2.1.1.1 (by decide) ?_
          refine lv_iadd hx hb dB_3_0_27.2.1.1.2 ?_
          refine lv_topi (fun y_37 ey_37 => ?_)
          have ty_37 : y_37.toInt = y_33.toInt + (0 : Int32).toInt := by rw [ey_37]; exact addI (by omega) (by omega)
          have h_38 : vp_in y_31 6000 := in_I (by first | with_reducible assumption | omega) (by omega)
          refine va_iast hx hb hK.1 hP hD hS 9 0 rfl rfl (i := y_31) h_38 dB_3_0_27.2.1.2.1 (fun H locs hP hD hS => ?_)
          obtain ⟨f_39, ef_39⟩ : ∃ g : Nat → Int32, g = upd f_30 y_31.toNatClampNeg y_37 := ⟨_, rfl⟩
          refine pd_K (D := D) (cl := vwCl) (H := H) (A := A) [ob12_0_ mo s0 s1 t2 s3 s4 g5 g6 g7 g8 g9 g10 s11 g12 g13 g14 g15 g16 g17 g18 g19 g20 s21 g22 g23 g24 s25 s26 s27 s28 g29 g30 g31 g32 g33, ai_ cy g5 40 f5, ai_ cy g6 40 f6, ai_ cy g7 40 f7, ai_ cy g8 40 f8, ai_ cy g9 40 f9, az_ cy g10 40 f10, ai_ cy g12 30 f_3, ai_ cy g13 30 f_5, ai_ cy g14 6000 f_39] (by rw [ef_39]; exact hP) (by rw [ef_39]; exact hD) (fun hP hD => ?_)
          have kf_39 := clI (i := y_31) (by omega)
          have rf_39 : orng f_39 6000 := by rw [ef_39]; exact orng_upd rf_30 (by unfold oc; omega)
          obtain ⟨y_40, ey_40⟩ : ∃ y : Int32, y = x1_6 + 1 := ⟨_, rfl⟩
          have ty_40 : y_40.toInt = x1_6.toInt + (1 : Int32).toInt := by rw [ey_40]; exact addI (by omega) (by omega)
          refine lv_iinc (v := y_40) (lv' := [(1, .int y_40), (2, .int y_11), (0, .ref mo)]) hx hb dB_3_0_27.2.1.2.2 hl (k := 1) rfl (by rw [ey_40]; rfl) (by decide) rfl (fun ls hl => ?_)
          have hE_ := ent_st (u := s11) (l := x1_6) (l2 := y_40) (f9 := f9) (f10 := f10) (b := f14) (by omega) (by omega) ef_15 ef_20 ef_25 ef_30 ef_39 (by omega) (by omega) (by omega) (by omega) (by omega) ey_13 ey_18 ey_23 ey_28 (by first | (rw [if_pos (by omega)]; omega) | (rw [if_neg (by omega)]; omega)) v2_6 v3_6 (by omega)
          refine lv_goto (tgt := 120) hx hb dB_3_0_27.2.2.1.1 (by decide) ?_
          exact ih_6 y_40 f_39 _ _ _ (by omega) (by first | with_reducible assumption | omega | assumption) (by first | with_reducible assumption | omega | assumption) (by first | exact fun _ _ => rfl | exact hE_.1) (by first | exact hE_.2 | (intro j hj; omega)) (by first | with_reducible assumption | assumption | exact rng_zero (by omega) (by omega) | exact orng_zero) ⟨hP, hD⟩ hS (lv_sub hl [0, 2] rfl)
        · have t_36 : ¬ y_35.toInt = (0 : Int32).toInt := fun h => c_36 (Int32.toInt_inj.mp h)
          refine lv_sipush (v := 1000) hx hb dB_3_0_27.1.2.2.1 (by decide) ?_
          refine lv_goto (tgt := 222) hx hb dB_3_0_27.1.2.2.2 (by decide) ?_
          refine lv_iadd hx hb dB_3_0_27.2.1.1.2 ?_
          refine lv_topi (fun y_41 ey_41 => ?_)
          have ty_41 : y_41.toInt = y_33.toInt + (1000 : Int32).toInt := by rw [ey_41]; exact addI (by omega) (by omega)
          have h_42 : vp_in y_31 6000 := in_I (by first | with_reducible assumption | omega) (by omega)
          refine va_iast hx hb hK.1 hP hD hS 9 0 rfl rfl (i := y_31) h_42 dB_3_0_27.2.1.2.1 (fun H locs hP hD hS => ?_)
          obtain ⟨f_43, ef_43⟩ : ∃ g : Nat → Int32, g = upd f_30 y_31.toNatClampNeg y_41 := ⟨_, rfl⟩
          refine pd_K (D := D) (cl := vwCl) (H := H) (A := A) [ob12_0_ mo s0 s1 t2 s3 s4 g5 g6 g7 g8 g9 g10 s11 g12 g13 g14 g15 g16 g17 g18 g19 g20 s21 g22 g23 g24 s25 s26 s27 s28 g29 g30 g31 g32 g33, ai_ cy g5 40 f5, ai_ cy g6 40 f6, ai_ cy g7 40 f7, ai_ cy g8 40 f8, ai_ cy g9 40 f9, az_ cy g10 40 f10, ai_ cy g12 30 f_3, ai_ cy g13 30 f_5, ai_ cy g14 6000 f_43] (by rw [ef_43]; exact hP) (by rw [ef_43]; exact hD) (fun hP hD => ?_)
          have kf_43 := clI (i := y_31) (by omega)
          have rf_43 : orng f_43 6000 := by rw [ef_43]; exact orng_upd rf_30 (by unfold oc; omega)
          obtain ⟨y_44, ey_44⟩ : ∃ y : Int32, y = x1_6 + 1 := ⟨_, rfl⟩
          have ty_44 : y_44.toInt = x1_6.toInt + (1 : Int32).toInt := by rw [ey_44]; exact addI (by omega) (by omega)
          refine lv_iinc (v := y_44) (lv' := [(1, .int y_44), (2, .int y_11), (0, .ref mo)]) hx hb dB_3_0_27.2.1.2.2 hl (k := 1) rfl (by rw [ey_44]; rfl) (by decide) rfl (fun ls hl => ?_)
          have hE_ := ent_st (u := s11) (l := x1_6) (l2 := y_44) (f9 := f9) (f10 := f10) (b := f14) (by omega) (by omega) ef_15 ef_20 ef_25 ef_30 ef_43 (by omega) (by omega) (by omega) (by omega) (by omega) ey_13 ey_18 ey_23 ey_28 (by first | (rw [if_pos (by omega)]; omega) | (rw [if_neg (by omega)]; omega)) v2_6 v3_6 (by omega)
          refine lv_goto (tgt := 120) hx hb dB_3_0_27.2.2.1.1 (by decide) ?_
          exact ih_6 y_44 f_43 _ _ _ (by omega) (by first | with_reducible assumption | omega | assumption) (by first | with_reducible assumption | omega | assumption) (by first | exact fun _ _ => rfl | exact hE_.1) (by first | exact hE_.2 | (intro j hj; omega)) (by first | with_reducible assumption | assumption | exact rng_zero (by omega) (by omega) | exact orng_zero) ⟨hP, hD⟩ hS (lv_sub hl [0, 2] rfl)
  · have t_1 : s11.toInt = (30 : Int32).toInt := congrArg Int32.toInt c_1
    refine lv_iconst (v := 0) hx hb dB_3_0_19.1.2.1.1 (by decide) ?_
    refine lv_istore_n (lv' := [(1, .int 0), (0, .ref mo)]) hx hb dB_3_0_19.1.2.1.2 rfl hl (by decide) rfl (fun ls hl => ?_)
    suffices LOOP_45 : ∀ (n_45 : Nat) (x1_45 : Int32) (c_g12_45 : Nat → Int32) (c_g13_45 : Nat → Int32) (H : Heap) (locs : List Loc) (ls : Array Slot), 29 - x1_45.toInt < (n_45 : Int) → (0 ≤ x1_45.toInt) → (x1_45.toInt ≤ 29) → (shf f12 c_g12_45 1 x1_45.toInt) → (shf f13 c_g13_45 1 x1_45.toInt) → (rng c_g12_45 30 (0) (12)) → (rng c_g13_45 30 (0) (40)) → pd_2 D vwCl A [ob12_0_ mo s0 s1 t2 s3 s4 g5 g6 g7 g8 g9 g10 s11 g12 g13 g14 g15 g16 g17 g18 g19 g20 s21 g22 g23 g24 s25 s26 s27 s28 g29 g30 g31 g32 g33, ai_ cy g5 40 f5, ai_ cy g6 40 f6, ai_ cy g7 40 f7, ai_ cy g8 40 f8, ai_ cy g9 40 f9, az_ cy g10 40 f10, ai_ cy g12 30 c_g12_45, ai_ cy g13 30 c_g13_45, ai_ cy g14 6000 f14] H → va_S A s.heap H locs → lv_has ls 3 [(1, .int x1_45), (0, .ref mo)] → W p l e ({ frames := 0, cells := 0, slots := 0, locals := 0 } : Room) s m (([.ref mo] : List Value).toArray) below meth c H locs 0 0 Q (F0 m 11 ls []) from LOOP_45 ((29 - (0 : Int32).toInt).toNat + 1) (0 : Int32) f12 f13 _ _ _ (by omega) (by first | with_reducible assumption | omega | assumption) (by first | with_reducible assumption | omega | assumption) (by first | exact shf_0 | exact shf_st v_none S[q12] S[v12] (by omega) (by omega) (by omega)) (by first | exact shf_0 | exact shf_st v_none S[q13] S[v13] (by omega) (by omega) (by omega)) (by first | with_reducible assumption | assumption | exact rng_zero (by omega) (by omega) | exact orng_zero) (by first | with_reducible assumption | assumption | exact rng_zero (by omega) (by omega) | exact orng_zero) ⟨hP, hD⟩ hS (lv_sub hl [0, 1] rfl)
    intro n_45
    induction n_45 with
    | zero =>
      intro x1_45 c_g12_45 c_g13_45 H locs ls hm v0_45 v1_45 v2_45 v3_45 rc_g12_45 rc_g13_45 hPD hS hl; obtain ⟨hP, hD⟩ := hPD
      exact absurd hm (by omega)
    | succ n_45 ih_45 =>
      intro x1_45 c_g12_45 c_g13_45 H locs ls hm v0_45 v1_45 v2_45 v3_45 rc_g12_45 rc_g13_45 hPD hS hl; obtain ⟨hP, hD⟩ := hPD
      refine lv_iload_n hx hb dB_3_0_19.1.2.2.1 rfl (lv_at hl 0 rfl) ?_
      refine lv_bipush (v := 29) hx hb dB_3_0_19.1.2.2.2 (by decide) ?_
      refine lv_icmp_ge (tgt := 51) hx hb dB_3_0_19.2.1.1.1 (by decide) (fun c_46 => ?_) (fun c_46 => ?_)
      · have t_46 : (29 : Int32).toInt ≤ x1_45.toInt := Int32.le_iff_toInt_le.mp c_46
        refine lv_iconst (v := 0) hx hb dB_3_0_20.2.2.2.2 (by decide) ?_
        refine lv_istore_n (lv' := [(1, .int 0), (0, .ref mo)]) hx hb dB_3_0_21.1.1.1.1 rfl hl (by decide) rfl (fun ls hl => ?_)
        suffices LOOP_47 : ∀ (n_47 : Nat) (x1_47 : Int32) (c_g14_47 : Nat → Int32) (H : Heap) (locs : List Loc) (ls : Array Slot), 5800 - x1_47.toInt < (n_47 : Int) → (0 ≤ x1_47.toInt) → (x1_47.toInt ≤ 5800) → (shf f14 c_g14_47 200 x1_47.toInt) → (orng c_g14_47 6000) → pd_2 D vwCl A [ob12_0_ mo s0 s1 t2 s3 s4 g5 g6 g7 g8 g9 g10 s11 g12 g13 g14 g15 g16 g17 g18 g19 g20 s21 g22 g23 g24 s25 s26 s27 s28 g29 g30 g31 g32 g33, ai_ cy g5 40 f5, ai_ cy g6 40 f6, ai_ cy g7 40 f7, ai_ cy g8 40 f8, ai_ cy g9 40 f9, az_ cy g10 40 f10, ai_ cy g12 30 c_g12_45, ai_ cy g13 30 c_g13_45, ai_ cy g14 6000 c_g14_47] H → va_S A s.heap H locs → lv_has ls 3 [(1, .int x1_47), (0, .ref mo)] → W p l e ({ frames := 0, cells := 0, slots := 0, locals := 0 } : Room) s m (([.ref mo] : List Value).toArray) below meth c H locs 0 0 Q (F0 m 53 ls []) from LOOP_47 ((5800 - (0 : Int32).toInt).toNat + 1) (0 : Int32) f14 _ _ _ (by omega) (by first | with_reducible assumption | omega | assumption) (by first | with_reducible assumption | omega | assumption) (by first | exact shf_0 | exact shf_st v_none S[q14] S[v14] (by omega) (by omega) (by omega)) (by first | with_reducible assumption | assumption | exact rng_zero (by omega) (by omega) | exact orng_zero) ⟨hP, hD⟩ hS (lv_sub hl [0, 1] rfl)
        intro n_47
        induction n_47 with
        | zero =>
          intro x1_47 c_g14_47 H locs ls hm v0_47 v1_47 v2_47 rc_g14_47 hPD hS hl; obtain ⟨hP, hD⟩ := hPD
          exact absurd hm (by omega)
        | succ n_47 ih_47 =>
          intro x1_47 c_g14_47 H locs ls hm v0_47 v1_47 v2_47 rc_g14_47 hPD hS hl; obtain ⟨hP, hD⟩ := hPD
          refine lv_iload_n hx hb dB_3_0_21.1.1.1.2 rfl (lv_at hl 0 rfl) ?_
          refine lv_sipush (v := 5800) hx hb dB_3_0_21.1.1.2.1 (by decide) ?_
          refine lv_icmp_ge (tgt := 82) hx hb dB_3_0_21.1.1.2.2 (by decide) (fun c_48 => ?_) (fun c_48 => ?_)
          · have t_48 : (5800 : Int32).toInt ≤ x1_47.toInt := Int32.le_iff_toInt_le.mp c_48
            refine lv_aload_n hx hb dB_3_0_22.1.1.1.1 rfl (lv_at hl 1 rfl) ?_
            refine lv_dup hx hb dB_3_0_22.1.1.1.2 rfl ?_
            refine va_get (ci := 12) (v := .int s11) (C := RX12) (T := TX12) (N := 34) hx hb hts (fun _ h => List.mem_cons_of_mem _ (List.mem_append_right _ h)) hown hK.1 hP 0 rfl rfl 11 (by decide) (hts (.fieldLink RX12 102 "CutAtlasModel" "undone" "I") (List.mem_of_getElem? (i := 1) rfl)) (fun _ h9 => h9) rfl dB_3_0_22.1.1.2.1 ?_
            refine lv_iconst (v := 1) hx hb dB_3_0_22.1.1.2.2 (by decide) ?_
            refine lv_isub hx hb dB_3_0_22.1.2.1.1 ?_
            refine lv_topi (fun y_49 ey_49 => ?_)
            have ty_49 : y_49.toInt = s11.toInt - (1 : Int32).toInt := by rw [ey_49]; exact subI (by omega) (by omega)
            refine va_put (ci := 12) (v := .int y_49) (ty := .int) (C := RX12) (T := TX12) (N := 34) hx hb hts (fun _ h => List.mem_cons_of_mem _ (List.mem_append_right _ h)) tyX12 tyX12_ok nmX12 hown hK.1 hP hD hS 0 rfl rfl 11 (by decide) (hts (.fieldLink RX12 102 "CutAtlasModel" "undone" "I") (List.mem_of_getElem? (i := 1) rfl)) (fun _ h9 => h9) rfl (by decide +kernel) rfl rfl (Nat.le_of_ble_eq_true rfl) dB_3_0_22.1.2.1.2 (fun H locs hP hD hS => ?_)
            refine pd_K [ob12_0_ mo s0 s1 t2 s3 s4 g5 g6 g7 g8 g9 g10 y_49 g12 g13 g14 g15 g16 g17 g18 g19 g20 s21 g22 g23 g24 s25 s26 s27 s28 g29 g30 g31 g32 g33, ai_ cy g5 40 f5, ai_ cy g6 40 f6, ai_ cy g7 40 f7, ai_ cy g8 40 f8, ai_ cy g9 40 f9, az_ cy g10 40 f10, ai_ cy g12 30 c_g12_45, ai_ cy g13 30 c_g13_45, ai_ cy g14 6000 c_g14_47] hP hD (fun hP hD => ?_)
            have hm_ : moved s11.toInt f12 f13 f14 y_49.toInt c_g12_45 c_g13_45 c_g14_47 := by first | exact moved_1 (by omega) (by omega) v2_45 v3_45 v2_47 (by omega) (by omega) | exact moved_0 (by omega)
            refine lv_aload_n hx hb dB_3_0_22.1.2.2.1 rfl (lv_at hl 1 rfl) ?_
            refine va_get (ci := 12) (v := .ref g12) (C := RX12) (T := TX12) (N := 34) hx hb hts (fun _ h => List.mem_cons_of_mem _ (List.mem_append_right _ h)) hown hK.1 hP 0 rfl rfl 12 (by decide) (hts (.fieldLink RX12 29 "CutAtlasModel" "oldPlaces" "[I") (List.mem_of_getElem? (i := 2) rfl)) (fun _ h9 => h9) rfl dB_3_0_22.1.2.2.2 ?_
            refine lv_aload_n hx hb dB_3_0_22.2.1.1.1 rfl (lv_at hl 1 rfl) ?_
            refine va_get (ci := 12) (v := .int y_49) (C := RX12) (T := TX12) (N := 34) hx hb hts (fun _ h => List.mem_cons_of_mem _ (List.mem_append_right _ h)) hown hK.1 hP 0 rfl rfl 11 (by decide) (hts (.fieldLink RX12 102 "CutAtlasModel" "undone" "I") (List.mem_of_getElem? (i := 1) rfl)) (fun _ h9 => h9) rfl dB_3_0_22.2.1.1.2 ?_
            refine lv_aload_n hx hb dB_3_0_22.2.1.2.1 rfl (lv_at hl 1 rfl) ?_
            refine va_get (ci := 12) (v := .int s3) (C := RX12) (T := TX12) (N := 34) hx hb hts (fun _ h => List.mem_cons_of_mem _ (List.mem_append_right _ h)) hown hK.1 hP 0 rfl rfl 3 (by decide) (hts (.fieldLink RX12 88 "CutAtlasModel" "places" "I") (List.mem_of_getElem? (i := 5) rfl)) (fun _ h9 => h9) rfl dB_3_0_22.2.1.2.2 ?_
            have h_50 : vp_in y_49 30 := in_I (by first | with_reducible assumption | omega) (by omega)
            refine va_iast hx hb hK.1 hP hD hS 7 0 rfl rfl (i := y_49) h_50 dB_3_0_22.2.2.1.1 (fun H locs hP hD hS => ?_)
            obtain ⟨f_51, ef_51⟩ : ∃ g : Nat → Int32, g = upd c_g12_45 y_49.toNatClampNeg s3 := ⟨_, rfl⟩
            refine pd_K (D := D) (cl := vwCl) (H := H) (A := A) [ob12_0_ mo s0 s1 t2 s3 s4 g5 g6 g7 g8 g9 g10 y_49 g12 g13 g14 g15 g16 g17 g18 g19 g20 s21 g22 g23 g24 s25 s26 s27 s28 g29 g30 g31 g32 g33, ai_ cy g5 40 f5, ai_ cy g6 40 f6, ai_ cy g7 40 f7, ai_ cy g8 40 f8, ai_ cy g9 40 f9, az_ cy g10 40 f10, ai_ cy g12 30 f_51, ai_ cy g13 30 c_g13_45, ai_ cy g14 6000 c_g14_47] (by rw [ef_51]; exact hP) (by rw [ef_51]; exact hD) (fun hP hD => ?_)
            have rf_51 : rng f_51 30 (0) (12) := by rw [ef_51]; exact rng_upd rc_g12_45 (by omega) (by omega)
            refine lv_aload_n hx hb dB_3_0_22.2.2.1.2 rfl (lv_at hl 1 rfl) ?_
            refine va_get (ci := 12) (v := .ref g13) (C := RX12) (T := TX12) (N := 34) hx hb hts (fun _ h => List.mem_cons_of_mem _ (List.mem_append_right _ h)) hown hK.1 hP 0 rfl rfl 13 (by decide) (hts (.fieldLink RX12 32 "CutAtlasModel" "oldLines" "[I") (List.mem_of_getElem? (i := 3) rfl)) (fun _ h9 => h9) rfl dB_3_0_22.2.2.2.1 ?_
            refine lv_aload_n hx hb dB_3_0_22.2.2.2.2 rfl (lv_at hl 1 rfl) ?_
            refine va_get (ci := 12) (v := .int y_49) (C := RX12) (T := TX12) (N := 34) hx hb hts (fun _ h => List.mem_cons_of_mem _ (List.mem_append_right _ h)) hown hK.1 hP 0 rfl rfl 11 (by decide) (hts (.fieldLink RX12 102 "CutAtlasModel" "undone" "I") (List.mem_of_getElem? (i := 1) rfl)) (fun _ h9 => h9) rfl dB_3_0_23.1.1.1.1 ?_
            refine lv_aload_n hx hb dB_3_0_23.1.1.1.2 rfl (lv_at hl 1 rfl) ?_
            refine va_get (ci := 12) (v := .int s4) (C := RX12) (T := TX12) (N := 34) hx hb hts (fun _ h => List.mem_cons_of_mem _ (List.mem_append_right _ h)) hown hK.1 hP 0 rfl rfl 4 (by decide) (hts (.fieldLink RX12 95 "CutAtlasModel" "lines" "I") (List.mem_of_getElem? (i := 6) rfl)) (fun _ h9 => h9) rfl dB_3_0_23.1.1.2.1 ?_
            refine va_iast hx hb hK.1 hP hD hS 8 0 rfl rfl (i := y_49) h_50 dB_3_0_23.1.1.2.2 (fun H locs hP hD hS => ?_)
            obtain ⟨f_53, ef_53⟩ : ∃ g : Nat → Int32, g = upd c_g13_45 y_49.toNatClampNeg s4 := ⟨_, rfl⟩
            refine pd_K (D := D) (cl := vwCl) (H := H) (A := A) [ob12_0_ mo s0 s1 t2 s3 s4 g5 g6 g7 g8 g9 g10 y_49 g12 g13 g14 g15 g16 g17 g18 g19 g20 s21 g22 g23 g24 s25 s26 s27 s28 g29 g30 g31 g32 g33, ai_ cy g5 40 f5, ai_ cy g6 40 f6, ai_ cy g7 40 f7, ai_ cy g8 40 f8, ai_ cy g9 40 f9, az_ cy g10 40 f10, ai_ cy g12 30 f_51, ai_ cy g13 30 f_53, ai_ cy g14 6000 c_g14_47] (by rw [ef_53]; exact hP) (by rw [ef_53]; exact hD) (fun hP hD => ?_)
            have rf_53 : rng f_53 30 (0) (40) := by rw [ef_53]; exact rng_upd rc_g13_45 (by omega) (by omega)
            refine lv_iconst (v := 0) hx hb dB_3_0_23.1.2.1.1 (by decide) ?_
            refine lv_istore_n (lv' := [(1, .int 0), (0, .ref mo)]) hx hb dB_3_0_23.1.2.1.2 rfl hl (by decide) rfl (fun ls hl => ?_)
            suffices LOOP_54 : ∀ (n_54 : Nat) (x1_54 : Int32) (c_g14_54 : Nat → Int32) (H : Heap) (locs : List Loc) (ls : Array Slot), 40 - x1_54.toInt < (n_54 : Int) → (0 ≤ x1_54.toInt) → (x1_54.toInt ≤ 40) → (∀ q : Nat, q < 200 * y_49.toNatClampNeg → c_g14_54 q = c_g14_47 q) → (∀ j : Nat, (j : Int) < x1_54.toInt → entry c_g14_54 (200 * y_49.toNatClampNeg) f5 f6 f7 f8 f9 f10 j) → (orng c_g14_54 6000) → pd_2 D vwCl A [ob12_0_ mo s0 s1 t2 s3 s4 g5 g6 g7 g8 g9 g10 y_49 g12 g13 g14 g15 g16 g17 g18 g19 g20 s21 g22 g23 g24 s25 s26 s27 s28 g29 g30 g31 g32 g33, ai_ cy g5 40 f5, ai_ cy g6 40 f6, ai_ cy g7 40 f7, ai_ cy g8 40 f8, ai_ cy g9 40 f9, az_ cy g10 40 f10, ai_ cy g12 30 f_51, ai_ cy g13 30 f_53, ai_ cy g14 6000 c_g14_54] H → va_S A s.heap H locs → lv_has ls 3 [(1, .int x1_54), (0, .ref mo)] → W p l e ({ frames := 0, cells := 0, slots := 0, locals := 0 } : Room) s m (([.ref mo] : List Value).toArray) below meth c H locs 0 0 Q (F0 m 120 ls []) from LOOP_54 ((40 - (0 : Int32).toInt).toNat + 1) (0 : Int32) c_g14_47 _ _ _ (by omega) (by first | with_reducible assumption | omega | assumption) (by first | with_reducible assumption | omega | assumption) (by first | exact fun _ _ => rfl | exact hE_.1) (by first | exact hE_.2 | (intro j hj; omega)) (by first | with_reducible assumption | assumption | exact rng_zero (by omega) (by omega) | exact orng_zero) ⟨hP, hD⟩ hS (lv_sub hl [0, 1] rfl)
            intro n_54
            induction n_54 with
            | zero =>
              intro x1_54 c_g14_54 H locs ls hm v0_54 v1_54 v2_54 v3_54 rc_g14_54 hPD hS hl; obtain ⟨hP, hD⟩ := hPD
              exact absurd hm (by omega)
            | succ n_54 ih_54 =>
              intro x1_54 c_g14_54 H locs ls hm v0_54 v1_54 v2_54 v3_54 rc_g14_54 hPD hS hl; obtain ⟨hP, hD⟩ := hPD
              refine lv_iload_n hx hb dB_3_0_23.1.2.2.1 rfl (lv_at hl 0 rfl) ?_
              refine lv_bipush (v := 40) hx hb dB_3_0_23.1.2.2.2 (by decide) ?_
              refine lv_icmp_ge (tgt := 230) hx hb dB_3_0_23.2.1.1.1 (by decide) (fun c_55 => ?_) (fun c_55 => ?_)
              · have t_55 : (40 : Int32).toInt ≤ x1_54.toInt := Int32.le_iff_toInt_le.mp c_55
                refine lv_aload_n hx hb dB_3_0_27.2.2.1.2 rfl (lv_at hl 1 rfl) ?_
                refine lv_dup hx hb dB_3_0_27.2.2.2.1 rfl ?_
                refine va_get (ci := 12) (v := .int y_49) (C := RX12) (T := TX12) (N := 34) hx hb hts (fun _ h => List.mem_cons_of_mem _ (List.mem_append_right _ h)) hown hK.1 hP 0 rfl rfl 11 (by decide) (hts (.fieldLink RX12 102 "CutAtlasModel" "undone" "I") (List.mem_of_getElem? (i := 1) rfl)) (fun _ h9 => h9) rfl dB_3_0_27.2.2.2.2 ?_
                refine lv_iconst (v := 1) hx hb dB_3_0_28.1.1 (by decide) ?_
                refine lv_iadd hx hb dB_3_0_28.1.2 ?_
                refine lv_topi (fun y_56 ey_56 => ?_)
                have ty_56 : y_56.toInt = y_49.toInt + (1 : Int32).toInt := by rw [ey_56]; exact addI (by omega) (by omega)
                refine va_put (ci := 12) (v := .int y_56) (ty := .int) (C := RX12) (T := TX12) (N := 34) hx hb hts (fun _ h => List.mem_cons_of_mem _ (List.mem_append_right _ h)) tyX12 tyX12_ok nmX12 hown hK.1 hP hD hS 0 rfl rfl 11 (by decide) (hts (.fieldLink RX12 102 "CutAtlasModel" "undone" "I") (List.mem_of_getElem? (i := 1) rfl)) (fun _ h9 => h9) rfl (by decide +kernel) rfl rfl (Nat.le_of_ble_eq_true rfl) dB_3_0_28.2.1 (fun H locs hP hD hS => ?_)
                refine pd_K [ob12_0_ mo s0 s1 t2 s3 s4 g5 g6 g7 g8 g9 g10 y_56 g12 g13 g14 g15 g16 g17 g18 g19 g20 s21 g22 g23 g24 s25 s26 s27 s28 g29 g30 g31 g32 g33, ai_ cy g5 40 f5, ai_ cy g6 40 f6, ai_ cy g7 40 f7, ai_ cy g8 40 f8, ai_ cy g9 40 f9, az_ cy g10 40 f10, ai_ cy g12 30 f_51, ai_ cy g13 30 f_53, ai_ cy g14 6000 c_g14_54] hP hD (fun hP hD => ?_)
                rw [hQ]
                exact W.vret hx hb hr (fun t ht hW => ⟨⟨(), rfl, trivial, y_56, f_51, f_53, c_g14_54, (by first | with_reducible assumption | omega | assumption), (kept_mk (u := y_49) (L := x1_54) hm_ (by omega) ef_51 ef_53 v2_54 v3_54 (by omega) (by omega)), (by first | with_reducible assumption | assumption | exact rng_zero (by omega) (by omega) | omega), (by first | with_reducible assumption | assumption | exact rng_zero (by omega) (by omega) | omega), (by first | with_reducible assumption | assumption | exact rng_zero (by omega) (by omega) | omega), by rw [ht]; exact hP, hD⟩, hS.F ht⟩) hS.2.2 dB_3_0_28.2.2
              · have t_55 : ¬ (40 : Int32).toInt ≤ x1_54.toInt := fun h => c_55 (Int32.le_iff_toInt_le.mpr h)
                refine lv_sipush (v := 200) hx hb dB_3_0_23.2.1.1.2 (by decide) ?_
                refine lv_aload_n hx hb dB_3_0_23.2.1.2.1 rfl (lv_at hl 1 rfl) ?_
                refine va_get (ci := 12) (v := .int y_49) (C := RX12) (T := TX12) (N := 34) hx hb hts (fun _ h => List.mem_cons_of_mem _ (List.mem_append_right _ h)) hown hK.1 hP 0 rfl rfl 11 (by decide) (hts (.fieldLink RX12 102 "CutAtlasModel" "undone" "I") (List.mem_of_getElem? (i := 1) rfl)) (fun _ h9 => h9) rfl dB_3_0_23.2.1.2.2 ?_
                refine lv_imul hx hb dB_3_0_23.2.2.1.1 ?_
                refine lv_topi (fun y_57 ey_57 => ?_)
                have ty_57 : y_57.toInt = 200 * y_49.toInt := by rw [ey_57]; exact mulC (by decide) (by omega) (by omega)
                refine lv_iconst (v := 5) hx hb dB_3_0_23.2.2.1.2 (by decide) ?_
                refine lv_iload_n hx hb dB_3_0_23.2.2.2.1 rfl (lv_at hl 0 rfl) ?_
                refine lv_imul hx hb dB_3_0_23.2.2.2.2 ?_
                refine lv_topi (fun y_58 ey_58 => ?_)
                have ty_58 : y_58.toInt = 5 * x1_54.toInt := by rw [ey_58]; exact mulC (by decide) (by omega) (by omega)
                refine lv_iadd hx hb dB_3_0_24.1.1.1.1 ?_
                refine lv_topi (fun y_59 ey_59 => ?_)
                have ty_59 : y_59.toInt = y_57.toInt + y_58.toInt := by rw [ey_59]; exact addI (by omega) (by omega)
                refine lv_istore_n (lv' := [(2, .int y_59), (1, .int x1_54), (0, .ref mo)]) hx hb dB_3_0_24.1.1.1.2 rfl hl (by decide) rfl (fun ls hl => ?_)
                refine lv_aload_n hx hb dB_3_0_24.1.1.2.1 rfl (lv_at hl 2 rfl) ?_
                refine va_get (ci := 12) (v := .ref g14) (C := RX12) (T := TX12) (N := 34) hx hb hts (fun _ h => List.mem_cons_of_mem _ (List.mem_append_right _ h)) hown hK.1 hP 0 rfl rfl 14 (by decide) (hts (.fieldLink RX12 35 "CutAtlasModel" "old" "[I") (List.mem_of_getElem? (i := 4) rfl)) (fun _ h9 => h9) rfl dB_3_0_24.1.1.2.2 ?_
                refine lv_iload_n hx hb dB_3_0_24.1.2.1.1 rfl (lv_at hl 0 rfl) ?_
                refine lv_aload_n hx hb dB_3_0_24.1.2.1.2 rfl (lv_at hl 2 rfl) ?_
                refine va_get (ci := 12) (v := .ref g5) (C := RX12) (T := TX12) (N := 34) hx hb hts (fun _ h => List.mem_cons_of_mem _ (List.mem_append_right _ h)) hown hK.1 hP 0 rfl rfl 5 (by decide) (hts (.fieldLink RX12 7 "CutAtlasModel" "kind" "[I") (List.mem_of_getElem? (i := 7) rfl)) (fun _ h9 => h9) rfl dB_3_0_24.1.2.2.1 ?_
                refine lv_iload_n hx hb dB_3_0_24.1.2.2.2 rfl (lv_at hl 1 rfl) ?_
                have h_60 : vp_in x1_54 40 := in_I (by first | with_reducible assumption | omega) (by omega)
                refine va_iald hx hb hK.1 hP 1 0 rfl rfl (i := x1_54) h_60 dB_3_0_24.2.1.1.1 ?_
                refine lv_topi (fun y_61 ey_61 => ?_)
                have ky_61 : y_61.toInt = (f5 x1_54.toNatClampNeg).toInt := by rw [ey_61]
                have h_62 : vp_in y_59 6000 := in_I (by first | with_reducible assumption | omega) (by omega)
                refine va_iast hx hb hK.1 hP hD hS 9 0 rfl rfl (i := y_59) h_62 dB_3_0_24.2.1.1.2 (fun H locs hP hD hS => ?_)
                obtain ⟨f_63, ef_63⟩ : ∃ g : Nat → Int32, g = upd c_g14_54 y_59.toNatClampNeg y_61 := ⟨_, rfl⟩
                refine pd_K (D := D) (cl := vwCl) (H := H) (A := A) [ob12_0_ mo s0 s1 t2 s3 s4 g5 g6 g7 g8 g9 g10 y_49 g12 g13 g14 g15 g16 g17 g18 g19 g20 s21 g22 g23 g24 s25 s26 s27 s28 g29 g30 g31 g32 g33, ai_ cy g5 40 f5, ai_ cy g6 40 f6, ai_ cy g7 40 f7, ai_ cy g8 40 f8, ai_ cy g9 40 f9, az_ cy g10 40 f10, ai_ cy g12 30 f_51, ai_ cy g13 30 f_53, ai_ cy g14 6000 f_63] (by rw [ef_63]; exact hP) (by rw [ef_63]; exact hD) (fun hP hD => ?_)
                have kf_63 := clI (i := y_59) (by omega)
                have rf_63 : orng f_63 6000 := by rw [ef_63]; exact orng_upd rc_g14_54 (by unfold oc; omega)
                refine lv_aload_n hx hb dB_3_0_24.2.1.2.1 rfl (lv_at hl 2 rfl) ?_
                refine va_get (ci := 12) (v := .ref g14) (C := RX12) (T := TX12) (N := 34) hx hb hts (fun _ h => List.mem_cons_of_mem _ (List.mem_append_right _ h)) hown hK.1 hP 0 rfl rfl 14 (by decide) (hts (.fieldLink RX12 35 "CutAtlasModel" "old" "[I") (List.mem_of_getElem? (i := 4) rfl)) (fun _ h9 => h9) rfl dB_3_0_24.2.1.2.2 ?_
                refine lv_iload_n hx hb dB_3_0_24.2.2.1.1 rfl (lv_at hl 0 rfl) ?_
                refine lv_iconst (v := 1) hx hb dB_3_0_24.2.2.1.2 (by decide) ?_
                refine lv_iadd hx hb dB_3_0_24.2.2.2.1 ?_
                refine lv_topi (fun y_64 ey_64 => ?_)
                have ty_64 : y_64.toInt = y_59.toInt + (1 : Int32).toInt := by rw [ey_64]; exact addI (by omega) (by omega)
                refine lv_aload_n hx hb dB_3_0_24.2.2.2.2 rfl (lv_at hl 2 rfl) ?_
                refine va_get (ci := 12) (v := .ref g6) (C := RX12) (T := TX12) (N := 34) hx hb hts (fun _ h => List.mem_cons_of_mem _ (List.mem_append_right _ h)) hown hK.1 hP 0 rfl rfl 6 (by decide) (hts (.fieldLink RX12 13 "CutAtlasModel" "from" "[I") (List.mem_of_getElem? (i := 8) rfl)) (fun _ h9 => h9) rfl dB_3_0_25.1.1.1.1 ?_
                refine lv_iload_n hx hb dB_3_0_25.1.1.1.2 rfl (lv_at hl 1 rfl) ?_
                refine va_iald hx hb hK.1 hP 2 0 rfl rfl (i := x1_54) h_60 dB_3_0_25.1.1.2.1 ?_
                refine lv_topi (fun y_66 ey_66 => ?_)
                have ky_66 : y_66.toInt = (f6 x1_54.toNatClampNeg).toInt := by rw [ey_66]
                have ry_66 : 0 ≤ y_66.toInt ∧ y_66.toInt ≤ 11 := by rw [ey_66]; exact r_f6 _ (in_lt h_60)
                have h_67 : vp_in y_64 6000 := in_I (by first | with_reducible assumption | omega) (by omega)
                refine va_iast hx hb hK.1 hP hD hS 9 0 rfl rfl (i := y_64) h_67 dB_3_0_25.1.1.2.2 (fun H locs hP hD hS => ?_)
                obtain ⟨f_68, ef_68⟩ : ∃ g : Nat → Int32, g = upd f_63 y_64.toNatClampNeg y_66 := ⟨_, rfl⟩
                refine pd_K (D := D) (cl := vwCl) (H := H) (A := A) [ob12_0_ mo s0 s1 t2 s3 s4 g5 g6 g7 g8 g9 g10 y_49 g12 g13 g14 g15 g16 g17 g18 g19 g20 s21 g22 g23 g24 s25 s26 s27 s28 g29 g30 g31 g32 g33, ai_ cy g5 40 f5, ai_ cy g6 40 f6, ai_ cy g7 40 f7, ai_ cy g8 40 f8, ai_ cy g9 40 f9, az_ cy g10 40 f10, ai_ cy g12 30 f_51, ai_ cy g13 30 f_53, ai_ cy g14 6000 f_68] (by rw [ef_68]; exact hP) (by rw [ef_68]; exact hD) (fun hP hD => ?_)
                have kf_68 := clI (i := y_64) (by omega)
                have rf_68 : orng f_68 6000 := by rw [ef_68]; exact orng_upd rf_63 (by unfold oc; omega)
                refine lv_aload_n hx hb dB_3_0_25.1.2.1.1 rfl (lv_at hl 2 rfl) ?_
                refine va_get (ci := 12) (v := .ref g14) (C := RX12) (T := TX12) (N := 34) hx hb hts (fun _ h => List.mem_cons_of_mem _ (List.mem_append_right _ h)) hown hK.1 hP 0 rfl rfl 14 (by decide) (hts (.fieldLink RX12 35 "CutAtlasModel" "old" "[I") (List.mem_of_getElem? (i := 4) rfl)) (fun _ h9 => h9) rfl dB_3_0_25.1.2.1.2 ?_
                refine lv_iload_n hx hb dB_3_0_25.1.2.2.1 rfl (lv_at hl 0 rfl) ?_
                refine lv_iconst (v := 2) hx hb dB_3_0_25.1.2.2.2 (by decide) ?_
                refine lv_iadd hx hb dB_3_0_25.2.1.1.1 ?_
                refine lv_topi (fun y_69 ey_69 => ?_)
                have ty_69 : y_69.toInt = y_59.toInt + (2 : Int32).toInt := by rw [ey_69]; exact addI (by omega) (by omega)
                refine lv_aload_n hx hb dB_3_0_25.2.1.1.2 rfl (lv_at hl 2 rfl) ?_
                refine va_get (ci := 12) (v := .ref g7) (C := RX12) (T := TX12) (N := 34) hx hb hts (fun _ h => List.mem_cons_of_mem _ (List.mem_append_right _ h)) hown hK.1 hP 0 rfl rfl 7 (by decide) (hts (.fieldLink RX12 16 "CutAtlasModel" "to" "[I") (List.mem_of_getElem? (i := 9) rfl)) (fun _ h9 => h9) rfl dB_3_0_25.2.1.2.1 ?_
                refine lv_iload_n hx hb dB_3_0_25.2.1.2.2 rfl (lv_at hl 1 rfl) ?_
                refine va_iald hx hb hK.1 hP 3 0 rfl rfl (i := x1_54) h_60 dB_3_0_25.2.2.1.1 ?_
                refine lv_topi (fun y_71 ey_71 => ?_)
                have ky_71 : y_71.toInt = (f7 x1_54.toNatClampNeg).toInt := by rw [ey_71]
                have ry_71 : 0 ≤ y_71.toInt ∧ y_71.toInt ≤ 11 := by rw [ey_71]; exact r_f7 _ (in_lt h_60)
                have h_72 : vp_in y_69 6000 := in_I (by first | with_reducible assumption | omega) (by omega)
                refine va_iast hx hb hK.1 hP hD hS 9 0 rfl rfl (i := y_69) h_72 dB_3_0_25.2.2.1.2 (fun H locs hP hD hS => ?_)
                obtain ⟨f_73, ef_73⟩ : ∃ g : Nat → Int32, g = upd f_68 y_69.toNatClampNeg y_71 := ⟨_, rfl⟩
                refine pd_K (D := D) (cl := vwCl) (H := H) (A := A) [ob12_0_ mo s0 s1 t2 s3 s4 g5 g6 g7 g8 g9 g10 y_49 g12 g13 g14 g15 g16 g17 g18 g19 g20 s21 g22 g23 g24 s25 s26 s27 s28 g29 g30 g31 g32 g33, ai_ cy g5 40 f5, ai_ cy g6 40 f6, ai_ cy g7 40 f7, ai_ cy g8 40 f8, ai_ cy g9 40 f9, az_ cy g10 40 f10, ai_ cy g12 30 f_51, ai_ cy g13 30 f_53, ai_ cy g14 6000 f_73] (by rw [ef_73]; exact hP) (by rw [ef_73]; exact hD) (fun hP hD => ?_)
                have kf_73 := clI (i := y_69) (by omega)
                have rf_73 : orng f_73 6000 := by rw [ef_73]; exact orng_upd rf_68 (by unfold oc; omega)
                refine lv_aload_n hx hb dB_3_0_25.2.2.2.1 rfl (lv_at hl 2 rfl) ?_
                refine va_get (ci := 12) (v := .ref g14) (C := RX12) (T := TX12) (N := 34) hx hb hts (fun _ h => List.mem_cons_of_mem _ (List.mem_append_right _ h)) hown hK.1 hP 0 rfl rfl 14 (by decide) (hts (.fieldLink RX12 35 "CutAtlasModel" "old" "[I") (List.mem_of_getElem? (i := 4) rfl)) (fun _ h9 => h9) rfl dB_3_0_25.2.2.2.2 ?_
                refine lv_iload_n hx hb dB_3_0_26.1.1.1.1 rfl (lv_at hl 0 rfl) ?_
                refine lv_iconst (v := 3) hx hb dB_3_0_26.1.1.1.2 (by decide) ?_
                refine lv_iadd hx hb dB_3_0_26.1.1.2.1 ?_
                refine lv_topi (fun y_74 ey_74 => ?_)
                have ty_74 : y_74.toInt = y_59.toInt + (3 : Int32).toInt := by rw [ey_74]; exact addI (by omega) (by omega)
                refine lv_aload_n hx hb dB_3_0_26.1.1.2.2 rfl (lv_at hl 2 rfl) ?_
                refine va_get (ci := 12) (v := .ref g8) (C := RX12) (T := TX12) (N := 34) hx hb hts (fun _ h => List.mem_cons_of_mem _ (List.mem_append_right _ h)) hown hK.1 hP 0 rfl rfl 8 (by decide) (hts (.fieldLink RX12 19 "CutAtlasModel" "width" "[I") (List.mem_of_getElem? (i := 10) rfl)) (fun _ h9 => h9) rfl dB_3_0_26.1.2.1.1 ?_
                refine lv_iload_n hx hb dB_3_0_26.1.2.1.2 rfl (lv_at hl 1 rfl) ?_
                refine va_iald hx hb hK.1 hP 4 0 rfl rfl (i := x1_54) h_60 dB_3_0_26.1.2.2.1 ?_
                refine lv_topi (fun y_76 ey_76 => ?_)
                have ky_76 : y_76.toInt = (f8 x1_54.toNatClampNeg).toInt := by rw [ey_76]
                have ry_76 : 0 ≤ y_76.toInt ∧ y_76.toInt ≤ 2000 := by rw [ey_76]; exact r_f8 _ (in_lt h_60)
                have h_77 : vp_in y_74 6000 := in_I (by first | with_reducible assumption | omega) (by omega)
                refine va_iast hx hb hK.1 hP hD hS 9 0 rfl rfl (i := y_74) h_77 dB_3_0_26.1.2.2.2 (fun H locs hP hD hS => ?_)
                obtain ⟨f_78, ef_78⟩ : ∃ g : Nat → Int32, g = upd f_73 y_74.toNatClampNeg y_76 := ⟨_, rfl⟩
                refine pd_K (D := D) (cl := vwCl) (H := H) (A := A) [ob12_0_ mo s0 s1 t2 s3 s4 g5 g6 g7 g8 g9 g10 y_49 g12 g13 g14 g15 g16 g17 g18 g19 g20 s21 g22 g23 g24 s25 s26 s27 s28 g29 g30 g31 g32 g33, ai_ cy g5 40 f5, ai_ cy g6 40 f6, ai_ cy g7 40 f7, ai_ cy g8 40 f8, ai_ cy g9 40 f9, az_ cy g10 40 f10, ai_ cy g12 30 f_51, ai_ cy g13 30 f_53, ai_ cy g14 6000 f_78] (by rw [ef_78]; exact hP) (by rw [ef_78]; exact hD) (fun hP hD => ?_)
                have kf_78 := clI (i := y_74) (by omega)
                have rf_78 : orng f_78 6000 := by rw [ef_78]; exact orng_upd rf_73 (by unfold oc; omega)
                refine lv_aload_n hx hb dB_3_0_26.2.1.1.1 rfl (lv_at hl 2 rfl) ?_
                refine va_get (ci := 12) (v := .ref g14) (C := RX12) (T := TX12) (N := 34) hx hb hts (fun _ h => List.mem_cons_of_mem _ (List.mem_append_right _ h)) hown hK.1 hP 0 rfl rfl 14 (by decide) (hts (.fieldLink RX12 35 "CutAtlasModel" "old" "[I") (List.mem_of_getElem? (i := 4) rfl)) (fun _ h9 => h9) rfl dB_3_0_26.2.1.1.2 ?_
                refine lv_iload_n hx hb dB_3_0_26.2.1.2.1 rfl (lv_at hl 0 rfl) ?_
                refine lv_iconst (v := 4) hx hb dB_3_0_26.2.1.2.2 (by decide) ?_
                refine lv_iadd hx hb dB_3_0_26.2.2.1.1 ?_
                refine lv_topi (fun y_79 ey_79 => ?_)
                have ty_79 : y_79.toInt = y_59.toInt + (4 : Int32).toInt := by rw [ey_79]; exact addI (by omega) (by omega)
                refine lv_aload_n hx hb dB_3_0_26.2.2.1.2 rfl (lv_at hl 2 rfl) ?_
                refine va_get (ci := 12) (v := .ref g9) (C := RX12) (T := TX12) (N := 34) hx hb hts (fun _ h => List.mem_cons_of_mem _ (List.mem_append_right _ h)) hown hK.1 hP 0 rfl rfl 9 (by decide) (hts (.fieldLink RX12 22 "CutAtlasModel" "price" "[I") (List.mem_of_getElem? (i := 11) rfl)) (fun _ h9 => h9) rfl dB_3_0_26.2.2.2.1 ?_
                refine lv_iload_n hx hb dB_3_0_26.2.2.2.2 rfl (lv_at hl 1 rfl) ?_
                refine va_iald hx hb hK.1 hP 5 0 rfl rfl (i := x1_54) h_60 dB_3_0_27.1.1.1.1 ?_
                refine lv_topi (fun y_81 ey_81 => ?_)
                have ky_81 : y_81.toInt = (f9 x1_54.toNatClampNeg).toInt := by rw [ey_81]
                have ry_81 : 0 ≤ y_81.toInt ∧ y_81.toInt ≤ 100 := by rw [ey_81]; exact r_f9 _ (in_lt h_60)
                refine lv_aload_n hx hb dB_3_0_27.1.1.1.2 rfl (lv_at hl 2 rfl) ?_
                refine va_get (ci := 12) (v := .ref g10) (C := RX12) (T := TX12) (N := 34) hx hb hts (fun _ h => List.mem_cons_of_mem _ (List.mem_append_right _ h)) hown hK.1 hP 0 rfl rfl 10 (by decide) (hts (.fieldLink RX12 25 "CutAtlasModel" "isMissing" "[Z") (List.mem_of_getElem? (i := 12) rfl)) (fun _ h9 => h9) rfl dB_3_0_27.1.1.2.1 ?_
                refine lv_iload_n hx hb dB_3_0_27.1.1.2.2 rfl (lv_at hl 1 rfl) ?_
                refine va_zald hx hb hK.1 hP 6 2 rfl rfl (i := x1_54) h_60 dB_3_0_27.1.2.1.1 ?_
                refine lv_topi (fun y_83 ey_83 => ?_)
                have ky_83 : y_83.toInt = (f10 x1_54.toNatClampNeg).toInt := by rw [ey_83]
                refine lv_if_eq (tgt := 221) hx hb dB_3_0_27.1.2.1.2 (by decide) (fun c_84 => ?_) (fun c_84 => ?_)
                · have t_84 : y_83.toInt = (0 : Int32).toInt := congrArg Int32.toInt c_84
                  refine lv_iconst (v := 0) hx hb dB_3_0_27.2.1.1.1 (by decide) ?_
                  refine lv_iadd hx hb dB_3_0_27.2.1.1.2 ?_
                  refine lv_topi (fun y_85 ey_85 => ?_)
                  have ty_85 : y_85.toInt = y_81.toInt + (0 : Int32).toInt := by rw [ey_85]; exact addI (by omega) (by omega)
                  have h_86 : vp_in y_79 6000 := in_I (by first | with_reducible assumption | omega) (by omega)
                  refine va_iast hx hb hK.1 hP hD hS 9 0 rfl rfl (i := y_79) h_86 dB_3_0_27.2.1.2.1 (fun H locs hP hD hS => ?_)
                  obtain ⟨f_87, ef_87⟩ : ∃ g : Nat → Int32, g = upd f_78 y_79.toNatClampNeg y_85 := ⟨_, rfl⟩
                  refine pd_K (D := D) (cl := vwCl) (H := H) (A := A) [ob12_0_ mo s0 s1 t2 s3 s4 g5 g6 g7 g8 g9 g10 y_49 g12 g13 g14 g15 g16 g17 g18 g19 g20 s21 g22 g23 g24 s25 s26 s27 s28 g29 g30 g31 g32 g33, ai_ cy g5 40 f5, ai_ cy g6 40 f6, ai_ cy g7 40 f7, ai_ cy g8 40 f8, ai_ cy g9 40 f9, az_ cy g10 40 f10, ai_ cy g12 30 f_51, ai_ cy g13 30 f_53, ai_ cy g14 6000 f_87] (by rw [ef_87]; exact hP) (by rw [ef_87]; exact hD) (fun hP hD => ?_)
                  have kf_87 := clI (i := y_79) (by omega)
                  have rf_87 : orng f_87 6000 := by rw [ef_87]; exact orng_upd rf_78 (by unfold oc; omega)
                  obtain ⟨y_88, ey_88⟩ : ∃ y : Int32, y = x1_54 + 1 := ⟨_, rfl⟩
                  have ty_88 : y_88.toInt = x1_54.toInt + (1 : Int32).toInt := by rw [ey_88]; exact addI (by omega) (by omega)
                  refine lv_iinc (v := y_88) (lv' := [(1, .int y_88), (2, .int y_59), (0, .ref mo)]) hx hb dB_3_0_27.2.1.2.2 hl (k := 1) rfl (by rw [ey_88]; rfl) (by decide) rfl (fun ls hl => ?_)
                  have hE_ := ent_st (u := y_49) (l := x1_54) (l2 := y_88) (f9 := f9) (f10 := f10) (b := c_g14_47) (by omega) (by omega) ef_63 ef_68 ef_73 ef_78 ef_87 (by omega) (by omega) (by omega) (by omega) (by omega) ey_61 ey_66 ey_71 ey_76 (by first | (rw [if_pos (by omega)]; omega) | (rw [if_neg (by omega)]; omega)) v2_54 v3_54 (by omega)
                  refine lv_goto (tgt := 120) hx hb dB_3_0_27.2.2.1.1 (by decide) ?_
                  exact ih_54 y_88 f_87 _ _ _ (by omega) (by first | with_reducible assumption | omega | assumption) (by first | with_reducible assumption | omega | assumption) (by first | exact fun _ _ => rfl | exact hE_.1) (by first | exact hE_.2 | (intro j hj; omega)) (by first | with_reducible assumption | assumption | exact rng_zero (by omega) (by omega) | exact orng_zero) ⟨hP, hD⟩ hS (lv_sub hl [0, 2] rfl)
                · have t_84 : ¬ y_83.toInt = (0 : Int32).toInt := fun h => c_84 (Int32.toInt_inj.mp h)
                  refine lv_sipush (v := 1000) hx hb dB_3_0_27.1.2.2.1 (by decide) ?_
                  refine lv_goto (tgt := 222) hx hb dB_3_0_27.1.2.2.2 (by decide) ?_
                  refine lv_iadd hx hb dB_3_0_27.2.1.1.2 ?_
                  refine lv_topi (fun y_89 ey_89 => ?_)
                  have ty_89 : y_89.toInt = y_81.toInt + (1000 : Int32).toInt := by rw [ey_89]; exact addI (by omega) (by omega)
                  have h_90 : vp_in y_79 6000 := in_I (by first | with_reducible assumption | omega) (by omega)
                  refine va_iast hx hb hK.1 hP hD hS 9 0 rfl rfl (i := y_79) h_90 dB_3_0_27.2.1.2.1 (fun H locs hP hD hS => ?_)
                  obtain ⟨f_91, ef_91⟩ : ∃ g : Nat → Int32, g = upd f_78 y_79.toNatClampNeg y_89 := ⟨_, rfl⟩
                  refine pd_K (D := D) (cl := vwCl) (H := H) (A := A) [ob12_0_ mo s0 s1 t2 s3 s4 g5 g6 g7 g8 g9 g10 y_49 g12 g13 g14 g15 g16 g17 g18 g19 g20 s21 g22 g23 g24 s25 s26 s27 s28 g29 g30 g31 g32 g33, ai_ cy g5 40 f5, ai_ cy g6 40 f6, ai_ cy g7 40 f7, ai_ cy g8 40 f8, ai_ cy g9 40 f9, az_ cy g10 40 f10, ai_ cy g12 30 f_51, ai_ cy g13 30 f_53, ai_ cy g14 6000 f_91] (by rw [ef_91]; exact hP) (by rw [ef_91]; exact hD) (fun hP hD => ?_)
                  have kf_91 := clI (i := y_79) (by omega)
                  have rf_91 : orng f_91 6000 := by rw [ef_91]; exact orng_upd rf_78 (by unfold oc; omega)
                  obtain ⟨y_92, ey_92⟩ : ∃ y : Int32, y = x1_54 + 1 := ⟨_, rfl⟩
                  have ty_92 : y_92.toInt = x1_54.toInt + (1 : Int32).toInt := by rw [ey_92]; exact addI (by omega) (by omega)
                  refine lv_iinc (v := y_92) (lv' := [(1, .int y_92), (2, .int y_59), (0, .ref mo)]) hx hb dB_3_0_27.2.1.2.2 hl (k := 1) rfl (by rw [ey_92]; rfl) (by decide) rfl (fun ls hl => ?_)
                  have hE_ := ent_st (u := y_49) (l := x1_54) (l2 := y_92) (f9 := f9) (f10 := f10) (b := c_g14_47) (by omega) (by omega) ef_63 ef_68 ef_73 ef_78 ef_91 (by omega) (by omega) (by omega) (by omega) (by omega) ey_61 ey_66 ey_71 ey_76 (by first | (rw [if_pos (by omega)]; omega) | (rw [if_neg (by omega)]; omega)) v2_54 v3_54 (by omega)
                  refine lv_goto (tgt := 120) hx hb dB_3_0_27.2.2.1.1 (by decide) ?_
                  exact ih_54 y_92 f_91 _ _ _ (by omega) (by first | with_reducible assumption | omega | assumption) (by first | with_reducible assumption | omega | assumption) (by first | exact fun _ _ => rfl | exact hE_.1) (by first | exact hE_.2 | (intro j hj; omega)) (by first | with_reducible assumption | assumption | exact rng_zero (by omega) (by omega) | exact orng_zero) ⟨hP, hD⟩ hS (lv_sub hl [0, 2] rfl)
          · have t_48 : ¬ (5800 : Int32).toInt ≤ x1_47.toInt := fun h => c_48 (Int32.le_iff_toInt_le.mpr h)
            refine lv_aload_n hx hb dB_3_0_21.1.2.1.1 rfl (lv_at hl 1 rfl) ?_
            refine va_get (ci := 12) (v := .ref g14) (C := RX12) (T := TX12) (N := 34) hx hb hts (fun _ h => List.mem_cons_of_mem _ (List.mem_append_right _ h)) hown hK.1 hP 0 rfl rfl 14 (by decide) (hts (.fieldLink RX12 35 "CutAtlasModel" "old" "[I") (List.mem_of_getElem? (i := 4) rfl)) (fun _ h9 => h9) rfl dB_3_0_21.1.2.1.2 ?_
            refine lv_iload_n hx hb dB_3_0_21.1.2.2.1 rfl (lv_at hl 0 rfl) ?_
            refine lv_aload_n hx hb dB_3_0_21.1.2.2.2 rfl (lv_at hl 1 rfl) ?_
            refine va_get (ci := 12) (v := .ref g14) (C := RX12) (T := TX12) (N := 34) hx hb hts (fun _ h => List.mem_cons_of_mem _ (List.mem_append_right _ h)) hown hK.1 hP 0 rfl rfl 14 (by decide) (hts (.fieldLink RX12 35 "CutAtlasModel" "old" "[I") (List.mem_of_getElem? (i := 4) rfl)) (fun _ h9 => h9) rfl dB_3_0_21.2.1.1.1 ?_
            refine lv_iload_n hx hb dB_3_0_21.2.1.1.2 rfl (lv_at hl 0 rfl) ?_
            refine lv_sipush (v := 200) hx hb dB_3_0_21.2.1.2.1 (by decide) ?_
            refine lv_iadd hx hb dB_3_0_21.2.1.2.2 ?_
            refine lv_topi (fun y_93 ey_93 => ?_)
            have ty_93 : y_93.toInt = x1_47.toInt + (200 : Int32).toInt := by rw [ey_93]; exact addI (by omega) (by omega)
            have h_94 : vp_in y_93 6000 := in_I (by first | with_reducible assumption | omega) (by omega)
            refine va_iald hx hb hK.1 hP 9 0 rfl rfl (i := y_93) h_94 dB_3_0_21.2.2.1.1 ?_
            refine lv_topi (fun y_95 ey_95 => ?_)
            have ky_95 : y_95.toInt = (c_g14_47 y_93.toNatClampNeg).toInt := by rw [ey_95]
            have ry_95 : oc y_93.toNatClampNeg y_95.toInt := by rw [ey_95]; exact rc_g14_47 _ (in_lt h_94)
            unfold oc at ry_95
            have ky_95 := clI (i := y_93) (by omega)
            have h_96 : vp_in x1_47 6000 := in_I (by first | with_reducible assumption | omega) (by omega)
            refine va_iast hx hb hK.1 hP hD hS 9 0 rfl rfl (i := x1_47) h_96 dB_3_0_21.2.2.1.2 (fun H locs hP hD hS => ?_)
            obtain ⟨f_97, ef_97⟩ : ∃ g : Nat → Int32, g = upd c_g14_47 x1_47.toNatClampNeg y_95 := ⟨_, rfl⟩
            refine pd_K (D := D) (cl := vwCl) (H := H) (A := A) [ob12_0_ mo s0 s1 t2 s3 s4 g5 g6 g7 g8 g9 g10 s11 g12 g13 g14 g15 g16 g17 g18 g19 g20 s21 g22 g23 g24 s25 s26 s27 s28 g29 g30 g31 g32 g33, ai_ cy g5 40 f5, ai_ cy g6 40 f6, ai_ cy g7 40 f7, ai_ cy g8 40 f8, ai_ cy g9 40 f9, az_ cy g10 40 f10, ai_ cy g12 30 c_g12_45, ai_ cy g13 30 c_g13_45, ai_ cy g14 6000 f_97] (by rw [ef_97]; exact hP) (by rw [ef_97]; exact hD) (fun hP hD => ?_)
            have kf_97 := clI (i := x1_47) (by omega)
            have rf_97 : orng f_97 6000 := by rw [ef_97]; exact orng_upd rc_g14_47 (by unfold oc; omega)
            obtain ⟨y_98, ey_98⟩ : ∃ y : Int32, y = x1_47 + 1 := ⟨_, rfl⟩
            have ty_98 : y_98.toInt = x1_47.toInt + (1 : Int32).toInt := by rw [ey_98]; exact addI (by omega) (by omega)
            refine lv_iinc (v := y_98) (lv' := [(1, .int y_98), (0, .ref mo)]) hx hb dB_3_0_21.2.2.2.1 hl (k := 0) rfl (by rw [ey_98]; rfl) (by decide) rfl (fun ls hl => ?_)
            refine lv_goto (tgt := 53) hx hb dB_3_0_21.2.2.2.2 (by decide) ?_
            exact ih_47 y_98 f_97 _ _ _ (by omega) (by first | with_reducible assumption | omega | assumption) (by first | with_reducible assumption | omega | assumption) (by first | exact shf_0 | exact shf_st v2_47 ef_97 ey_95 (by omega) (by omega) (by omega)) (by first | with_reducible assumption | assumption | exact rng_zero (by omega) (by omega) | exact orng_zero) ⟨hP, hD⟩ hS (lv_sub hl [0, 1] rfl)
      · have t_46 : ¬ (29 : Int32).toInt ≤ x1_45.toInt := fun h => c_46 (Int32.le_iff_toInt_le.mpr h)
        refine lv_aload_n hx hb dB_3_0_19.2.1.1.2 rfl (lv_at hl 1 rfl) ?_
        refine va_get (ci := 12) (v := .ref g12) (C := RX12) (T := TX12) (N := 34) hx hb hts (fun _ h => List.mem_cons_of_mem _ (List.mem_append_right _ h)) hown hK.1 hP 0 rfl rfl 12 (by decide) (hts (.fieldLink RX12 29 "CutAtlasModel" "oldPlaces" "[I") (List.mem_of_getElem? (i := 2) rfl)) (fun _ h9 => h9) rfl dB_3_0_19.2.1.2.1 ?_
        refine lv_iload_n hx hb dB_3_0_19.2.1.2.2 rfl (lv_at hl 0 rfl) ?_
        refine lv_aload_n hx hb dB_3_0_19.2.2.1.1 rfl (lv_at hl 1 rfl) ?_
        refine va_get (ci := 12) (v := .ref g12) (C := RX12) (T := TX12) (N := 34) hx hb hts (fun _ h => List.mem_cons_of_mem _ (List.mem_append_right _ h)) hown hK.1 hP 0 rfl rfl 12 (by decide) (hts (.fieldLink RX12 29 "CutAtlasModel" "oldPlaces" "[I") (List.mem_of_getElem? (i := 2) rfl)) (fun _ h9 => h9) rfl dB_3_0_19.2.2.1.2 ?_
        refine lv_iload_n hx hb dB_3_0_19.2.2.2.1 rfl (lv_at hl 0 rfl) ?_
        refine lv_iconst (v := 1) hx hb dB_3_0_19.2.2.2.2 (by decide) ?_
        refine lv_iadd hx hb dB_3_0_20.1.1.1.1 ?_
        refine lv_topi (fun y_99 ey_99 => ?_)
        have ty_99 : y_99.toInt = x1_45.toInt + (1 : Int32).toInt := by rw [ey_99]; exact addI (by omega) (by omega)
        have h_100 : vp_in y_99 30 := in_I (by first | with_reducible assumption | omega) (by omega)
        refine va_iald hx hb hK.1 hP 7 0 rfl rfl (i := y_99) h_100 dB_3_0_20.1.1.1.2 ?_
        refine lv_topi (fun y_101 ey_101 => ?_)
        have ky_101 : y_101.toInt = (c_g12_45 y_99.toNatClampNeg).toInt := by rw [ey_101]
        have ry_101 : 0 ≤ y_101.toInt ∧ y_101.toInt ≤ 12 := by rw [ey_101]; exact rc_g12_45 _ (in_lt h_100)
        have h_102 : vp_in x1_45 30 := in_I (by first | with_reducible assumption | omega) (by omega)
        refine va_iast hx hb hK.1 hP hD hS 7 0 rfl rfl (i := x1_45) h_102 dB_3_0_20.1.1.2.1 (fun H locs hP hD hS => ?_)
        obtain ⟨f_103, ef_103⟩ : ∃ g : Nat → Int32, g = upd c_g12_45 x1_45.toNatClampNeg y_101 := ⟨_, rfl⟩
        refine pd_K (D := D) (cl := vwCl) (H := H) (A := A) [ob12_0_ mo s0 s1 t2 s3 s4 g5 g6 g7 g8 g9 g10 s11 g12 g13 g14 g15 g16 g17 g18 g19 g20 s21 g22 g23 g24 s25 s26 s27 s28 g29 g30 g31 g32 g33, ai_ cy g5 40 f5, ai_ cy g6 40 f6, ai_ cy g7 40 f7, ai_ cy g8 40 f8, ai_ cy g9 40 f9, az_ cy g10 40 f10, ai_ cy g12 30 f_103, ai_ cy g13 30 c_g13_45, ai_ cy g14 6000 f14] (by rw [ef_103]; exact hP) (by rw [ef_103]; exact hD) (fun hP hD => ?_)
        have rf_103 : rng f_103 30 (0) (12) := by rw [ef_103]; exact rng_upd rc_g12_45 (by omega) (by omega)
        refine lv_aload_n hx hb dB_3_0_20.1.1.2.2 rfl (lv_at hl 1 rfl) ?_
        refine va_get (ci := 12) (v := .ref g13) (C := RX12) (T := TX12) (N := 34) hx hb hts (fun _ h => List.mem_cons_of_mem _ (List.mem_append_right _ h)) hown hK.1 hP 0 rfl rfl 13 (by decide) (hts (.fieldLink RX12 32 "CutAtlasModel" "oldLines" "[I") (List.mem_of_getElem? (i := 3) rfl)) (fun _ h9 => h9) rfl dB_3_0_20.1.2.1.1 ?_
        refine lv_iload_n hx hb dB_3_0_20.1.2.1.2 rfl (lv_at hl 0 rfl) ?_
        refine lv_aload_n hx hb dB_3_0_20.1.2.2.1 rfl (lv_at hl 1 rfl) ?_
        refine va_get (ci := 12) (v := .ref g13) (C := RX12) (T := TX12) (N := 34) hx hb hts (fun _ h => List.mem_cons_of_mem _ (List.mem_append_right _ h)) hown hK.1 hP 0 rfl rfl 13 (by decide) (hts (.fieldLink RX12 32 "CutAtlasModel" "oldLines" "[I") (List.mem_of_getElem? (i := 3) rfl)) (fun _ h9 => h9) rfl dB_3_0_20.1.2.2.2 ?_
        refine lv_iload_n hx hb dB_3_0_20.2.1.1.1 rfl (lv_at hl 0 rfl) ?_
        refine lv_iconst (v := 1) hx hb dB_3_0_20.2.1.1.2 (by decide) ?_
        refine lv_iadd hx hb dB_3_0_20.2.1.2.1 ?_
        refine lv_topi (fun y_104 ey_104 => ?_)
        have e_ := (ey_104.trans ey_99.symm).symm
        subst e_
        refine va_iald hx hb hK.1 hP 8 0 rfl rfl (i := y_99) h_100 dB_3_0_20.2.1.2.2 ?_
        refine lv_topi (fun y_106 ey_106 => ?_)
        have ky_106 : y_106.toInt = (c_g13_45 y_99.toNatClampNeg).toInt := by rw [ey_106]
        have ry_106 : 0 ≤ y_106.toInt ∧ y_106.toInt ≤ 40 := by rw [ey_106]; exact rc_g13_45 _ (in_lt h_100)
        refine va_iast hx hb hK.1 hP hD hS 8 0 rfl rfl (i := x1_45) h_102 dB_3_0_20.2.2.1.1 (fun H locs hP hD hS => ?_)
        obtain ⟨f_108, ef_108⟩ : ∃ g : Nat → Int32, g = upd c_g13_45 x1_45.toNatClampNeg y_106 := ⟨_, rfl⟩
        refine pd_K (D := D) (cl := vwCl) (H := H) (A := A) [ob12_0_ mo s0 s1 t2 s3 s4 g5 g6 g7 g8 g9 g10 s11 g12 g13 g14 g15 g16 g17 g18 g19 g20 s21 g22 g23 g24 s25 s26 s27 s28 g29 g30 g31 g32 g33, ai_ cy g5 40 f5, ai_ cy g6 40 f6, ai_ cy g7 40 f7, ai_ cy g8 40 f8, ai_ cy g9 40 f9, az_ cy g10 40 f10, ai_ cy g12 30 f_103, ai_ cy g13 30 f_108, ai_ cy g14 6000 f14] (by rw [ef_108]; exact hP) (by rw [ef_108]; exact hD) (fun hP hD => ?_)
        have rf_108 : rng f_108 30 (0) (40) := by rw [ef_108]; exact rng_upd rc_g13_45 (by omega) (by omega)
        obtain ⟨y_109, ey_109⟩ : ∃ y : Int32, y = x1_45 + 1 := ⟨_, rfl⟩
        have ty_109 : y_109.toInt = x1_45.toInt + (1 : Int32).toInt := by rw [ey_109]; exact addI (by omega) (by omega)
        refine lv_iinc (v := y_109) (lv' := [(1, .int y_109), (0, .ref mo)]) hx hb dB_3_0_20.2.2.1.2 hl (k := 0) rfl (by rw [ey_109]; rfl) (by decide) rfl (fun ls hl => ?_)
        refine lv_goto (tgt := 11) hx hb dB_3_0_20.2.2.2.1 (by decide) ?_
        exact ih_45 y_109 f_103 f_108 _ _ _ (by omega) (by first | with_reducible assumption | omega | assumption) (by first | with_reducible assumption | omega | assumption) (by first | exact shf_0 | exact shf_st v2_45 ef_103 ey_101 (by omega) (by omega) (by omega)) (by first | exact shf_0 | exact shf_st v3_45 ef_108 ey_106 (by omega) (by omega) (by omega)) (by first | with_reducible assumption | assumption | exact rng_zero (by omega) (by omega) | exact orng_zero) (by first | with_reducible assumption | assumption | exact rng_zero (by omega) (by omega) | exact orng_zero) ⟨hP, hD⟩ hS (lv_sub hl [0, 1] rfl)
end

section
set_option maxHeartbeats 4000000 in
set_option maxRecDepth 100000 in
theorem c_X12_adds2 (l : Launch) (D : va_G) (cy : Nat → ClassId) (sz : Nat) (mo : Nat) (g5 : Nat) (g6 : Nat) (g7 : Nat) (g8 : Nat) (g9 : Nat) (g10 : Nat) (g12 : Nat) (g13 : Nat) (g14 : Nat) (g15 : Nat) (g16 : Nat) (g17 : Nat) (g18 : Nat) (g19 : Nat) (g20 : Nat) (g22 : Nat) (g23 : Nat) (g24 : Nat) (g29 : Nat) (g30 : Nat) (g31 : Nat) (g32 : Nat) (g33 : Nat) (s0 : Int32) (s1 : Int32) (s3 : Int32) (s4 : Int32) (s11 : Int32) (s21 : Int32) (s25 : Int32) (s26 : Int32) (s27 : Int32) (s28 : Int32) (t2 : Int64) (f5 : Nat → Int32) (f6 : Nat → Int32) (f7 : Nat → Int32) (f8 : Nat → Int32) (f9 : Nat → Int32) (f10 : Nat → Int32) (a1 : Int32) (a2 : Int32) (a3 : Int32) (a4 : Int32) (a5 : Int32) (hN : 0 ≤ s4.toInt ∧ s4.toInt < 40) (q2 : 0 ≤ a2.toInt ∧ a2.toInt ≤ 11) (q3 : 0 ≤ a3.toInt ∧ a3.toInt ≤ 11) (q4 : 0 ≤ a4.toInt ∧ a4.toInt ≤ 1000) (q5 : 0 ≤ a5.toInt ∧ a5.toInt ≤ 100) (r_f6 : rng f6 40 (0) (11)) (r_f7 : rng f7 40 (0) (11)) (r_f8 : rng f8 40 (0) (2000)) (r_f9 : rng f9 40 (0) (100)) : Met l yX12_adds wsX12_adds ({ frames := 0, cells := 0, slots := 0, locals := 0 }) (va_Pc [.ref mo, .int a1, .int a2, .int a3, .int a4, .int a5] (fun U => U.heap.size = sz ∧ va_P D vwCl [ob12_0_ mo s0 s1 t2 s3 s4 g5 g6 g7 g8 g9 g10 s11 g12 g13 g14 g15 g16 g17 g18 g19 g20 s21 g22 g23 g24 s25 s26 s27 s28 g29 g30 g31 g32 g33, ai_ cy g5 40 f5, ai_ cy g6 40 f6, ai_ cy g7 40 f7, ai_ cy g8 40 f8, ai_ cy g9 40 f9, az_ cy g10 40 f10] U.heap ∧ kk_ D cy U ∧ va_D (fun _ => True) [ob12_0_ mo s0 s1 t2 s3 s4 g5 g6 g7 g8 g9 g10 s11 g12 g13 g14 g15 g16 g17 g18 g19 g20 s21 g22 g23 g24 s25 s26 s27 s28 g29 g30 g31 g32 g33, ai_ cy g5 40 f5, ai_ cy g6 40 f6, ai_ cy g7 40 f7, ai_ cy g8 40 f8, ai_ cy g9 40 f9, az_ cy g10 40 f10])) (va_Qv (fun (_ : Unit) => True) (fun (_ : Unit) (t : State) => ∃ (n2 : Int64), ∃ (n4 : Int32), ∃ (e5 : Nat → Int32), ∃ (e6 : Nat → Int32), ∃ (e7 : Nat → Int32), ∃ (e8 : Nat → Int32), ∃ (e9 : Nat → Int32), ∃ (e10 : Nat → Int32), (n4.toInt = s4.toInt + 1) ∧ (e5 = upd f5 s4.toNatClampNeg a1) ∧ (e6 = upd f6 s4.toNatClampNeg a2) ∧ (e7 = upd f7 s4.toNatClampNeg a3) ∧ (a1.toInt = 4 ∧ e8 = upd f8 s4.toNatClampNeg 0 ∨ a1.toInt ≠ 4 ∧ e8 = upd f8 s4.toNatClampNeg a4) ∧ (e9 = upd f9 s4.toNatClampNeg a5) ∧ (e10 = upd f10 s4.toNatClampNeg (vp_nar .boolean 0)) ∧ (a1.toInt = 4 ∧ n2 = t2 + 1000000 ∨ a1.toInt ≠ 4 ∧ n2 = t2 + 0) ∧ (rng e6 40 (0) (11)) ∧ (rng e7 40 (0) (11)) ∧ (rng e8 40 (0) (2000)) ∧ (rng e9 40 (0) (100)) ∧ va_P D vwCl [ob12_0_ mo s0 s1 n2 s3 n4 g5 g6 g7 g8 g9 g10 s11 g12 g13 g14 g15 g16 g17 g18 g19 g20 s21 g22 g23 g24 s25 s26 s27 s28 g29 g30 g31 g32 g33, ai_ cy g5 40 e5, ai_ cy g6 40 e6, ai_ cy g7 40 e7, ai_ cy g8 40 e8, ai_ cy g9 40 e9, az_ cy g10 40 e10] t.heap ∧ va_D (va_A [ob12_0_ mo s0 s1 t2 s3 s4 g5 g6 g7 g8 g9 g10 s11 g12 g13 g14 g15 g16 g17 g18 g19 g20 s21 g22 g23 g24 s25 s26 s27 s28 g29 g30 g31 g32 g33, ai_ cy g5 40 f5, ai_ cy g6 40 f6, ai_ cy g7 40 f7, ai_ cy g8 40 f8, ai_ cy g9 40 f9, az_ cy g10 40 f10] sz) [ob12_0_ mo s0 s1 n2 s3 n4 g5 g6 g7 g8 g9 g10 s11 g12 g13 g14 g15 g16 g17 g18 g19 g20 s21 g22 g23 g24 s25 s26 s27 s28 g29 g30 g31 g32 g33, ai_ cy g5 40 e5, ai_ cy g6 40 e6, ai_ cy g7 40 e7, ai_ cy g8 40 e8, ai_ cy g9 40 e9, az_ cy g10 40 e10]) (va_A [ob12_0_ mo s0 s1 t2 s3 s4 g5 g6 g7 g8 g9 g10 s11 g12 g13 g14 g15 g16 g17 g18 g19 g20 s21 g22 g23 g24 s25 s26 s27 s28 g29 g30 g31 g32 g33, ai_ cy g5 40 f5, ai_ cy g6 40 f6, ai_ cy g7 40 f7, ai_ cy g8 40 f8, ai_ cy g9 40 f9, az_ cy g10 40 f10] sz)) 0 0 (va_A [ob12_0_ mo s0 s1 t2 s3 s4 g5 g6 g7 g8 g9 g10 s11 g12 g13 g14 g15 g16 g17 g18 g19 g20 s21 g22 g23 g24 s25 s26 s27 s28 g29 g30 g31 g32 g33, ai_ cy g5 40 f5, ai_ cy g6 40 f6, ai_ cy g7 40 f7, ai_ cy g8 40 f8, ai_ cy g9 40 f9, az_ cy g10 40 f10] sz) := by
  refine ofQ (cc := cX12_adds) (maxL := 6) (ret := none) (by decide) rfl ?_
  intro p e s m args below meth c s₁ Q hQ B hml hv
  obtain ⟨rfl, hsz, hP, hK, hD0⟩ := hv
  have hx := B.exec
  have hb := B.bytes
  have hr := B.returns
  have hts := atoms_spec (ws := wsX12_adds) B.pre
  have hown : s.vm.findClass RX12 = some m.cls := by have h_ := findClass_of_methodNamed B.named; exact h_
  have hlocks := B.notSynchronized
  subst hsz
  have hD := hD0.self (sz := s.heap.size)
  generalize hAe : va_A [ob12_0_ mo s0 s1 t2 s3 s4 g5 g6 g7 g8 g9 g10 s11 g12 g13 g14 g15 g16 g17 g18 g19 g20 s21 g22 g23 g24 s25 s26 s27 s28 g29 g30 g31 g32 g33, ai_ cy g5 40 f5, ai_ cy g6 40 f6, ai_ cy g7 40 f7, ai_ cy g8 40 f8, ai_ cy g9 40 f9, az_ cy g10 40 f10] s.heap.size = A at hD hQ
  have hA : ∀ q : Nat, s.heap.size ≤ q → A q := fun q h => by rw [← hAe]; exact Or.inr h
  have hS : va_S A s.heap s.heap [] := va_S.rf
  have hl := lv_entry ([.ref mo, .int a1, .int a2, .int a3, .int a4, .int a5]) (n := 6) (Nat.le_of_ble_eq_true rfl)
  rw [lg_entry_eq]
  generalize (lg_sl ([.ref mo, .int a1, .int a2, .int a3, .int a4, .int a5]) ++ List.replicate (6 - (lg_sl ([.ref mo, .int a1, .int a2, .int a3, .int a4, .int a5])).length) Slot.unset).toArray = ls at hl ⊢
  have hl : lv_has ls 6 [(0, .ref mo), (1, .int a1), (2, .int a2), (3, .int a3), (4, .int a4), (5, .int a5)] := hl
  have z0 : (0 : Int32).toInt = 0 := by decide
  have z1 : (1 : Int32).toInt = 1 := by decide
  have z4 : (4 : Int32).toInt = 4 := by decide
  refine lv_aload_n hx hb dB_3_0_0.1.1.1.1 rfl (lv_at hl 0 rfl) ?_
  refine va_get (ci := 12) (v := .ref g5) (C := RX12) (T := TX12) (N := 34) hx hb hts (fun _ h => List.mem_cons_of_mem _ (List.mem_append_right _ h)) hown hK.1 hP 0 rfl rfl 5 (by decide) (hts (.fieldLink RX12 7 "CutAtlasModel" "kind" "[I") (List.mem_of_getElem? (i := 1) rfl)) (fun _ h9 => h9) rfl dB_3_0_0.1.1.1.2 ?_
  refine lv_aload_n hx hb dB_3_0_0.1.1.2.1 rfl (lv_at hl 0 rfl) ?_
  refine va_get (ci := 12) (v := .int s4) (C := RX12) (T := TX12) (N := 34) hx hb hts (fun _ h => List.mem_cons_of_mem _ (List.mem_append_right _ h)) hown hK.1 hP 0 rfl rfl 4 (by decide) (hts (.fieldLink RX12 95 "CutAtlasModel" "lines" "I") (List.mem_of_getElem? (i := 2) rfl)) (fun _ h9 => h9) rfl dB_3_0_0.1.1.2.2 ?_
  refine lv_iload_n hx hb dB_3_0_0.1.2.1.1 rfl (lv_at hl 1 rfl) ?_
  have h_1 : vp_in s4 40 := in_I (by first | with_reducible assumption | omega) (by omega)
  refine va_iast hx hb hK.1 hP hD hS 1 0 rfl rfl (i := s4) h_1 dB_3_0_0.1.2.1.2 (fun H locs hP hD hS => ?_)
  obtain ⟨f_2, ef_2⟩ : ∃ g : Nat → Int32, g = upd f5 s4.toNatClampNeg a1 := ⟨_, rfl⟩
  refine pd_K (D := D) (cl := vwCl) (H := H) (A := A) [ob12_0_ mo s0 s1 t2 s3 s4 g5 g6 g7 g8 g9 g10 s11 g12 g13 g14 g15 g16 g17 g18 g19 g20 s21 g22 g23 g24 s25 s26 s27 s28 g29 g30 g31 g32 g33, ai_ cy g5 40 f_2, ai_ cy g6 40 f6, ai_ cy g7 40 f7, ai_ cy g8 40 f8, ai_ cy g9 40 f9, az_ cy g10 40 f10] (by rw [ef_2]; exact hP) (by rw [ef_2]; exact hD) (fun hP hD => ?_)
  refine lv_aload_n hx hb dB_3_0_0.1.2.2.1 rfl (lv_at hl 0 rfl) ?_
  refine va_get (ci := 12) (v := .ref g6) (C := RX12) (T := TX12) (N := 34) hx hb hts (fun _ h => List.mem_cons_of_mem _ (List.mem_append_right _ h)) hown hK.1 hP 0 rfl rfl 6 (by decide) (hts (.fieldLink RX12 13 "CutAtlasModel" "from" "[I") (List.mem_of_getElem? (i := 3) rfl)) (fun _ h9 => h9) rfl dB_3_0_0.1.2.2.2 ?_
  refine lv_aload_n hx hb dB_3_0_0.2.1.1.1 rfl (lv_at hl 0 rfl) ?_
  refine va_get (ci := 12) (v := .int s4) (C := RX12) (T := TX12) (N := 34) hx hb hts (fun _ h => List.mem_cons_of_mem _ (List.mem_append_right _ h)) hown hK.1 hP 0 rfl rfl 4 (by decide) (hts (.fieldLink RX12 95 "CutAtlasModel" "lines" "I") (List.mem_of_getElem? (i := 2) rfl)) (fun _ h9 => h9) rfl dB_3_0_0.2.1.1.2 ?_
  refine lv_iload_n hx hb dB_3_0_0.2.1.2.1 rfl (lv_at hl 2 rfl) ?_
  refine va_iast hx hb hK.1 hP hD hS 2 0 rfl rfl (i := s4) h_1 dB_3_0_0.2.1.2.2 (fun H locs hP hD hS => ?_)
  obtain ⟨f_4, ef_4⟩ : ∃ g : Nat → Int32, g = upd f6 s4.toNatClampNeg a2 := ⟨_, rfl⟩
  refine pd_K (D := D) (cl := vwCl) (H := H) (A := A) [ob12_0_ mo s0 s1 t2 s3 s4 g5 g6 g7 g8 g9 g10 s11 g12 g13 g14 g15 g16 g17 g18 g19 g20 s21 g22 g23 g24 s25 s26 s27 s28 g29 g30 g31 g32 g33, ai_ cy g5 40 f_2, ai_ cy g6 40 f_4, ai_ cy g7 40 f7, ai_ cy g8 40 f8, ai_ cy g9 40 f9, az_ cy g10 40 f10] (by rw [ef_4]; exact hP) (by rw [ef_4]; exact hD) (fun hP hD => ?_)
  have rf_4 : rng f_4 40 (0) (11) := by rw [ef_4]; exact rng_upd r_f6 (by omega) (by omega)
  refine lv_aload_n hx hb dB_3_0_0.2.2.1.1 rfl (lv_at hl 0 rfl) ?_
  refine va_get (ci := 12) (v := .ref g7) (C := RX12) (T := TX12) (N := 34) hx hb hts (fun _ h => List.mem_cons_of_mem _ (List.mem_append_right _ h)) hown hK.1 hP 0 rfl rfl 7 (by decide) (hts (.fieldLink RX12 16 "CutAtlasModel" "to" "[I") (List.mem_of_getElem? (i := 4) rfl)) (fun _ h9 => h9) rfl dB_3_0_0.2.2.1.2 ?_
  refine lv_aload_n hx hb dB_3_0_0.2.2.2.1 rfl (lv_at hl 0 rfl) ?_
  refine va_get (ci := 12) (v := .int s4) (C := RX12) (T := TX12) (N := 34) hx hb hts (fun _ h => List.mem_cons_of_mem _ (List.mem_append_right _ h)) hown hK.1 hP 0 rfl rfl 4 (by decide) (hts (.fieldLink RX12 95 "CutAtlasModel" "lines" "I") (List.mem_of_getElem? (i := 2) rfl)) (fun _ h9 => h9) rfl dB_3_0_0.2.2.2.2 ?_
  refine lv_iload_n hx hb dB_3_0_1.1.1.1.1 rfl (lv_at hl 3 rfl) ?_
  refine va_iast hx hb hK.1 hP hD hS 3 0 rfl rfl (i := s4) h_1 dB_3_0_1.1.1.1.2 (fun H locs hP hD hS => ?_)
  obtain ⟨f_6, ef_6⟩ : ∃ g : Nat → Int32, g = upd f7 s4.toNatClampNeg a3 := ⟨_, rfl⟩
  refine pd_K (D := D) (cl := vwCl) (H := H) (A := A) [ob12_0_ mo s0 s1 t2 s3 s4 g5 g6 g7 g8 g9 g10 s11 g12 g13 g14 g15 g16 g17 g18 g19 g20 s21 g22 g23 g24 s25 s26 s27 s28 g29 g30 g31 g32 g33, ai_ cy g5 40 f_2, ai_ cy g6 40 f_4, ai_ cy g7 40 f_6, ai_ cy g8 40 f8, ai_ cy g9 40 f9, az_ cy g10 40 f10] (by rw [ef_6]; exact hP) (by rw [ef_6]; exact hD) (fun hP hD => ?_)
  have rf_6 : rng f_6 40 (0) (11) := by rw [ef_6]; exact rng_upd r_f7 (by omega) (by omega)
  refine lv_aload_n hx hb dB_3_0_1.1.1.2.1 rfl (lv_at hl 0 rfl) ?_
  refine va_get (ci := 12) (v := .ref g8) (C := RX12) (T := TX12) (N := 34) hx hb hts (fun _ h => List.mem_cons_of_mem _ (List.mem_append_right _ h)) hown hK.1 hP 0 rfl rfl 8 (by decide) (hts (.fieldLink RX12 19 "CutAtlasModel" "width" "[I") (List.mem_of_getElem? (i := 5) rfl)) (fun _ h9 => h9) rfl dB_3_0_1.1.1.2.2 ?_
  refine lv_aload_n hx hb dB_3_0_1.1.2.1.1 rfl (lv_at hl 0 rfl) ?_
  refine va_get (ci := 12) (v := .int s4) (C := RX12) (T := TX12) (N := 34) hx hb hts (fun _ h => List.mem_cons_of_mem _ (List.mem_append_right _ h)) hown hK.1 hP 0 rfl rfl 4 (by decide) (hts (.fieldLink RX12 95 "CutAtlasModel" "lines" "I") (List.mem_of_getElem? (i := 2) rfl)) (fun _ h9 => h9) rfl dB_3_0_1.1.2.1.2 ?_
  refine lv_iload_n hx hb dB_3_0_1.1.2.2.1 rfl (lv_at hl 1 rfl) ?_
  refine lv_iconst (v := 4) hx hb dB_3_0_1.1.2.2.2 (by decide) ?_
  refine lv_icmp_ne (tgt := 47) hx hb dB_3_0_1.2.1.1.1 (by decide) (fun c_7 => ?_) (fun c_7 => ?_)
  · have t_7 : ¬ a1.toInt = (4 : Int32).toInt := fun h => c_7 (Int32.toInt_inj.mp h)
    refine lv_iload hx hb dB_3_0_1.2.1.2.2 (lv_at hl 4 rfl) ?_
    refine va_iast hx hb hK.1 hP hD hS 4 0 rfl rfl (i := s4) h_1 dB_3_0_1.2.2.1.1 (fun H locs hP hD hS => ?_)
    obtain ⟨f_9, ef_9⟩ : ∃ g : Nat → Int32, g = upd f8 s4.toNatClampNeg a4 := ⟨_, rfl⟩
    refine pd_K (D := D) (cl := vwCl) (H := H) (A := A) [ob12_0_ mo s0 s1 t2 s3 s4 g5 g6 g7 g8 g9 g10 s11 g12 g13 g14 g15 g16 g17 g18 g19 g20 s21 g22 g23 g24 s25 s26 s27 s28 g29 g30 g31 g32 g33, ai_ cy g5 40 f_2, ai_ cy g6 40 f_4, ai_ cy g7 40 f_6, ai_ cy g8 40 f_9, ai_ cy g9 40 f9, az_ cy g10 40 f10] (by rw [ef_9]; exact hP) (by rw [ef_9]; exact hD) (fun hP hD => ?_)
    have rf_9 : rng f_9 40 (0) (2000) := by rw [ef_9]; exact rng_upd r_f8 (by omega) (by omega)
    refine lv_aload_n hx hb dB_3_0_1.2.2.1.2 rfl (lv_at hl 0 rfl) ?_
    refine va_get (ci := 12) (v := .ref g9) (C := RX12) (T := TX12) (N := 34) hx hb hts (fun _ h => List.mem_cons_of_mem _ (List.mem_append_right _ h)) hown hK.1 hP 0 rfl rfl 9 (by decide) (hts (.fieldLink RX12 22 "CutAtlasModel" "price" "[I") (List.mem_of_getElem? (i := 6) rfl)) (fun _ h9 => h9) rfl dB_3_0_1.2.2.2.1 ?_
    refine lv_aload_n hx hb dB_3_0_1.2.2.2.2 rfl (lv_at hl 0 rfl) ?_
    refine va_get (ci := 12) (v := .int s4) (C := RX12) (T := TX12) (N := 34) hx hb hts (fun _ h => List.mem_cons_of_mem _ (List.mem_append_right _ h)) hown hK.1 hP 0 rfl rfl 4 (by decide) (hts (.fieldLink RX12 95 "CutAtlasModel" "lines" "I") (List.mem_of_getElem? (i := 2) rfl)) (fun _ h9 => h9) rfl dB_3_0_2.1.1.1.1 ?_
    refine lv_iload hx hb dB_3_0_2.1.1.1.2 (lv_at hl 5 rfl) ?_
    refine va_iast hx hb hK.1 hP hD hS 5 0 rfl rfl (i := s4) h_1 dB_3_0_2.1.1.2.1 (fun H locs hP hD hS => ?_)
    obtain ⟨f_11, ef_11⟩ : ∃ g : Nat → Int32, g = upd f9 s4.toNatClampNeg a5 := ⟨_, rfl⟩
    refine pd_K (D := D) (cl := vwCl) (H := H) (A := A) [ob12_0_ mo s0 s1 t2 s3 s4 g5 g6 g7 g8 g9 g10 s11 g12 g13 g14 g15 g16 g17 g18 g19 g20 s21 g22 g23 g24 s25 s26 s27 s28 g29 g30 g31 g32 g33, ai_ cy g5 40 f_2, ai_ cy g6 40 f_4, ai_ cy g7 40 f_6, ai_ cy g8 40 f_9, ai_ cy g9 40 f_11, az_ cy g10 40 f10] (by rw [ef_11]; exact hP) (by rw [ef_11]; exact hD) (fun hP hD => ?_)
    have rf_11 : rng f_11 40 (0) (100) := by rw [ef_11]; exact rng_upd r_f9 (by omega) (by omega)
    refine lv_aload_n hx hb dB_3_0_2.1.1.2.2 rfl (lv_at hl 0 rfl) ?_
    refine va_get (ci := 12) (v := .ref g10) (C := RX12) (T := TX12) (N := 34) hx hb hts (fun _ h => List.mem_cons_of_mem _ (List.mem_append_right _ h)) hown hK.1 hP 0 rfl rfl 10 (by decide) (hts (.fieldLink RX12 25 "CutAtlasModel" "isMissing" "[Z") (List.mem_of_getElem? (i := 7) rfl)) (fun _ h9 => h9) rfl dB_3_0_2.1.2.1.1 ?_
    refine lv_aload_n hx hb dB_3_0_2.1.2.1.2 rfl (lv_at hl 0 rfl) ?_
    refine va_get (ci := 12) (v := .int s4) (C := RX12) (T := TX12) (N := 34) hx hb hts (fun _ h => List.mem_cons_of_mem _ (List.mem_append_right _ h)) hown hK.1 hP 0 rfl rfl 4 (by decide) (hts (.fieldLink RX12 95 "CutAtlasModel" "lines" "I") (List.mem_of_getElem? (i := 2) rfl)) (fun _ h9 => h9) rfl dB_3_0_2.1.2.2.1 ?_
    refine lv_iconst (v := 0) hx hb dB_3_0_2.1.2.2.2 (by decide) ?_
    refine va_zast hx hb hK.1 hP hD hS 6 2 rfl rfl (i := s4) h_1 dB_3_0_2.2.1.1.1 (fun H locs hP hD hS => ?_)
    obtain ⟨f_13, ef_13⟩ : ∃ g : Nat → Int32, g = upd f10 s4.toNatClampNeg (vp_nar .boolean (0 : Int32)) := ⟨_, rfl⟩
    refine pd_K (D := D) (cl := vwCl) (H := H) (A := A) [ob12_0_ mo s0 s1 t2 s3 s4 g5 g6 g7 g8 g9 g10 s11 g12 g13 g14 g15 g16 g17 g18 g19 g20 s21 g22 g23 g24 s25 s26 s27 s28 g29 g30 g31 g32 g33, ai_ cy g5 40 f_2, ai_ cy g6 40 f_4, ai_ cy g7 40 f_6, ai_ cy g8 40 f_9, ai_ cy g9 40 f_11, az_ cy g10 40 f_13] (by rw [ef_13]; exact hP) (by rw [ef_13]; exact hD) (fun hP hD => ?_)
    refine lv_aload_n hx hb dB_3_0_2.2.1.1.2 rfl (lv_at hl 0 rfl) ?_
    refine lv_dup hx hb dB_3_0_2.2.1.2.1 rfl ?_
    refine va_get (ci := 12) (v := .long t2) (C := RX12) (T := TX12) (N := 34) hx hb hts (fun _ h => List.mem_cons_of_mem _ (List.mem_append_right _ h)) hown hK.1 hP 0 rfl rfl 2 (by decide) (hts (.fieldLink RX12 114 "CutAtlasModel" "trace" "J") (List.mem_of_getElem? (i := 8) rfl)) (fun _ h9 => h9) rfl dB_3_0_2.2.1.2.2 ?_
    refine lv_iload_n hx hb dB_3_0_2.2.2.1.1 rfl (lv_at hl 1 rfl) ?_
    refine lv_iconst (v := 4) hx hb dB_3_0_2.2.2.1.2 (by decide) ?_
    refine lv_icmp_ne (tgt := 87) hx hb dB_3_0_2.2.2.2.1 (by decide) (fun c_14 => ?_) (fun c_14 => ?_)
    · have t_14 : ¬ a1.toInt = (4 : Int32).toInt := fun h => c_14 (Int32.toInt_inj.mp h)
      refine lv_lconst (v := 0) hx hb dB_3_0_3.1.1.2 (by decide) ?_
      refine lv_ladd hx hb dB_3_0_3.1.2.1 ?_
      refine lv_topl (fun y_15 ey_15 => ?_)
      refine va_put (ci := 12) (v := .long y_15) (ty := .long) (C := RX12) (T := TX12) (N := 34) hx hb hts (fun _ h => List.mem_cons_of_mem _ (List.mem_append_right _ h)) tyX12 tyX12_ok nmX12 hown hK.1 hP hD hS 0 rfl rfl 2 (by decide) (hts (.fieldLink RX12 114 "CutAtlasModel" "trace" "J") (List.mem_of_getElem? (i := 8) rfl)) (fun _ h9 => h9) rfl (by decide +kernel) rfl rfl (Nat.le_of_ble_eq_true rfl) dB_3_0_3.1.2.2.1 (fun H locs hP hD hS => ?_)
      refine pd_K [ob12_0_ mo s0 s1 y_15 s3 s4 g5 g6 g7 g8 g9 g10 s11 g12 g13 g14 g15 g16 g17 g18 g19 g20 s21 g22 g23 g24 s25 s26 s27 s28 g29 g30 g31 g32 g33, ai_ cy g5 40 f_2, ai_ cy g6 40 f_4, ai_ cy g7 40 f_6, ai_ cy g8 40 f_9, ai_ cy g9 40 f_11, az_ cy g10 40 f_13] hP hD (fun hP hD => ?_)
      refine lv_aload_n hx hb dB_3_0_3.1.2.2.2 rfl (lv_at hl 0 rfl) ?_
      refine lv_dup hx hb dB_3_0_3.2.1.1 rfl ?_
      refine va_get (ci := 12) (v := .int s4) (C := RX12) (T := TX12) (N := 34) hx hb hts (fun _ h => List.mem_cons_of_mem _ (List.mem_append_right _ h)) hown hK.1 hP 0 rfl rfl 4 (by decide) (hts (.fieldLink RX12 95 "CutAtlasModel" "lines" "I") (List.mem_of_getElem? (i := 2) rfl)) (fun _ h9 => h9) rfl dB_3_0_3.2.1.2.1 ?_
      refine lv_iconst (v := 1) hx hb dB_3_0_3.2.1.2.2 (by decide) ?_
      refine lv_iadd hx hb dB_3_0_3.2.2.1 ?_
      refine lv_topi (fun y_16 ey_16 => ?_)
      have ty_16 : y_16.toInt = s4.toInt + (1 : Int32).toInt := by rw [ey_16]; exact addI (by omega) (by omega)
      refine va_put (ci := 12) (v := .int y_16) (ty := .int) (C := RX12) (T := TX12) (N := 34) hx hb hts (fun _ h => List.mem_cons_of_mem _ (List.mem_append_right _ h)) tyX12 tyX12_ok nmX12 hown hK.1 hP hD hS 0 rfl rfl 4 (by decide) (hts (.fieldLink RX12 95 "CutAtlasModel" "lines" "I") (List.mem_of_getElem? (i := 2) rfl)) (fun _ h9 => h9) rfl (by decide +kernel) rfl rfl (Nat.le_of_ble_eq_true rfl) dB_3_0_3.2.2.2.1 (fun H locs hP hD hS => ?_)
      refine pd_K [ob12_0_ mo s0 s1 y_15 s3 y_16 g5 g6 g7 g8 g9 g10 s11 g12 g13 g14 g15 g16 g17 g18 g19 g20 s21 g22 g23 g24 s25 s26 s27 s28 g29 g30 g31 g32 g33, ai_ cy g5 40 f_2, ai_ cy g6 40 f_4, ai_ cy g7 40 f_6, ai_ cy g8 40 f_9, ai_ cy g9 40 f_11, az_ cy g10 40 f_13] hP hD (fun hP hD => ?_)
      rw [hQ]
      exact W.vret hx hb hr (fun t ht hW => ⟨⟨(), rfl, trivial, y_15, y_16, f_2, f_4, f_6, f_9, f_11, f_13, (by first | with_reducible assumption | omega | assumption), (by first | with_reducible assumption | omega | assumption), (by first | with_reducible assumption | omega | assumption), (by first | with_reducible assumption | omega | assumption), (by first | exact Or.inl ⟨by omega, by assumption⟩ | exact Or.inr ⟨by omega, by assumption⟩), (by first | with_reducible assumption | omega | assumption), (by first | with_reducible assumption | omega | assumption), (by first | exact Or.inl ⟨by omega, by assumption⟩ | exact Or.inr ⟨by omega, by assumption⟩), (by first | with_reducible assumption | assumption | exact rng_zero (by omega) (by omega) | omega), (by first | with_reducible assumption | assumption | exact rng_zero (by omega) (by omega) | omega), (by first | with_reducible assumption | assumption | exact rng_zero (by omega) (by omega) | omega), (by first | with_reducible assumption | assumption | exact rng_zero (by omega) (by omega) | omega), by rw [ht]; exact hP, hD⟩, hS.F ht⟩) hS.2.2 dB_3_0_3.2.2.2.2
    · have t_14 : a1.toInt = (4 : Int32).toInt := congrArg Int32.toInt c_14
      refine lv_ldc2 (v := 1000000) hx hb hown (hts (.constantLong RX12 118 (1000000)) (List.mem_of_getElem? (i := 9) rfl)) dB_3_0_2.2.2.2.2 ?_
      refine lv_goto (tgt := 88) hx hb dB_3_0_3.1.1.1 (by decide) ?_
      refine lv_ladd hx hb dB_3_0_3.1.2.1 ?_
      refine lv_topl (fun y_17 ey_17 => ?_)
      refine va_put (ci := 12) (v := .long y_17) (ty := .long) (C := RX12) (T := TX12) (N := 34) hx hb hts (fun _ h => List.mem_cons_of_mem _ (List.mem_append_right _ h)) tyX12 tyX12_ok nmX12 hown hK.1 hP hD hS 0 rfl rfl 2 (by decide) (hts (.fieldLink RX12 114 "CutAtlasModel" "trace" "J") (List.mem_of_getElem? (i := 8) rfl)) (fun _ h9 => h9) rfl (by decide +kernel) rfl rfl (Nat.le_of_ble_eq_true rfl) dB_3_0_3.1.2.2.1 (fun H locs hP hD hS => ?_)
      refine pd_K [ob12_0_ mo s0 s1 y_17 s3 s4 g5 g6 g7 g8 g9 g10 s11 g12 g13 g14 g15 g16 g17 g18 g19 g20 s21 g22 g23 g24 s25 s26 s27 s28 g29 g30 g31 g32 g33, ai_ cy g5 40 f_2, ai_ cy g6 40 f_4, ai_ cy g7 40 f_6, ai_ cy g8 40 f_9, ai_ cy g9 40 f_11, az_ cy g10 40 f_13] hP hD (fun hP hD => ?_)
      refine lv_aload_n hx hb dB_3_0_3.1.2.2.2 rfl (lv_at hl 0 rfl) ?_
      refine lv_dup hx hb dB_3_0_3.2.1.1 rfl ?_
      refine va_get (ci := 12) (v := .int s4) (C := RX12) (T := TX12) (N := 34) hx hb hts (fun _ h => List.mem_cons_of_mem _ (List.mem_append_right _ h)) hown hK.1 hP 0 rfl rfl 4 (by decide) (hts (.fieldLink RX12 95 "CutAtlasModel" "lines" "I") (List.mem_of_getElem? (i := 2) rfl)) (fun _ h9 => h9) rfl dB_3_0_3.2.1.2.1 ?_
      refine lv_iconst (v := 1) hx hb dB_3_0_3.2.1.2.2 (by decide) ?_
      refine lv_iadd hx hb dB_3_0_3.2.2.1 ?_
      refine lv_topi (fun y_18 ey_18 => ?_)
      have ty_18 : y_18.toInt = s4.toInt + (1 : Int32).toInt := by rw [ey_18]; exact addI (by omega) (by omega)
      refine va_put (ci := 12) (v := .int y_18) (ty := .int) (C := RX12) (T := TX12) (N := 34) hx hb hts (fun _ h => List.mem_cons_of_mem _ (List.mem_append_right _ h)) tyX12 tyX12_ok nmX12 hown hK.1 hP hD hS 0 rfl rfl 4 (by decide) (hts (.fieldLink RX12 95 "CutAtlasModel" "lines" "I") (List.mem_of_getElem? (i := 2) rfl)) (fun _ h9 => h9) rfl (by decide +kernel) rfl rfl (Nat.le_of_ble_eq_true rfl) dB_3_0_3.2.2.2.1 (fun H locs hP hD hS => ?_)
      refine pd_K [ob12_0_ mo s0 s1 y_17 s3 y_18 g5 g6 g7 g8 g9 g10 s11 g12 g13 g14 g15 g16 g17 g18 g19 g20 s21 g22 g23 g24 s25 s26 s27 s28 g29 g30 g31 g32 g33, ai_ cy g5 40 f_2, ai_ cy g6 40 f_4, ai_ cy g7 40 f_6, ai_ cy g8 40 f_9, ai_ cy g9 40 f_11, az_ cy g10 40 f_13] hP hD (fun hP hD => ?_)
      rw [hQ]
      exact W.vret hx hb hr (fun t ht hW => ⟨⟨(), rfl, trivial, y_17, y_18, f_2, f_4, f_6, f_9, f_11, f_13, (by first | with_reducible assumption | omega | assumption), (by first | with_reducible assumption | omega | assumption), (by first | with_reducible assumption | omega | assumption), (by first | with_reducible assumption | omega | assumption), (by first | exact Or.inl ⟨by omega, by assumption⟩ | exact Or.inr ⟨by omega, by assumption⟩), (by first | with_reducible assumption | omega | assumption), (by first | with_reducible assumption | omega | assumption), (by first | exact Or.inl ⟨by omega, by assumption⟩ | exact Or.inr ⟨by omega, by assumption⟩), (by first | with_reducible assumption | assumption | exact rng_zero (by omega) (by omega) | omega), (by first | with_reducible assumption | assumption | exact rng_zero (by omega) (by omega) | omega), (by first | with_reducible assumption | assumption | exact rng_zero (by omega) (by omega) | omega), (by first | with_reducible assumption | assumption | exact rng_zero (by omega) (by omega) | omega), by rw [ht]; exact hP, hD⟩, hS.F ht⟩) hS.2.2 dB_3_0_3.2.2.2.2
  · have t_7 : a1.toInt = (4 : Int32).toInt := congrArg Int32.toInt c_7
    refine lv_iconst (v := 0) hx hb dB_3_0_1.2.1.1.2 (by decide) ?_
    refine lv_goto (tgt := 49) hx hb dB_3_0_1.2.1.2.1 (by decide) ?_
    refine va_iast hx hb hK.1 hP hD hS 4 0 rfl rfl (i := s4) h_1 dB_3_0_1.2.2.1.1 (fun H locs hP hD hS => ?_)
    obtain ⟨f_20, ef_20⟩ : ∃ g : Nat → Int32, g = upd f8 s4.toNatClampNeg (0 : Int32) := ⟨_, rfl⟩
    refine pd_K (D := D) (cl := vwCl) (H := H) (A := A) [ob12_0_ mo s0 s1 t2 s3 s4 g5 g6 g7 g8 g9 g10 s11 g12 g13 g14 g15 g16 g17 g18 g19 g20 s21 g22 g23 g24 s25 s26 s27 s28 g29 g30 g31 g32 g33, ai_ cy g5 40 f_2, ai_ cy g6 40 f_4, ai_ cy g7 40 f_6, ai_ cy g8 40 f_20, ai_ cy g9 40 f9, az_ cy g10 40 f10] (by rw [ef_20]; exact hP) (by rw [ef_20]; exact hD) (fun hP hD => ?_)
    have rf_20 : rng f_20 40 (0) (2000) := by rw [ef_20]; exact rng_upd r_f8 (by omega) (by omega)
    refine lv_aload_n hx hb dB_3_0_1.2.2.1.2 rfl (lv_at hl 0 rfl) ?_
    refine va_get (ci := 12) (v := .ref g9) (C := RX12) (T := TX12) (N := 34) hx hb hts (fun _ h => List.mem_cons_of_mem _ (List.mem_append_right _ h)) hown hK.1 hP 0 rfl rfl 9 (by decide) (hts (.fieldLink RX12 22 "CutAtlasModel" "price" "[I") (List.mem_of_getElem? (i := 6) rfl)) (fun _ h9 => h9) rfl dB_3_0_1.2.2.2.1 ?_
    refine lv_aload_n hx hb dB_3_0_1.2.2.2.2 rfl (lv_at hl 0 rfl) ?_
    refine va_get (ci := 12) (v := .int s4) (C := RX12) (T := TX12) (N := 34) hx hb hts (fun _ h => List.mem_cons_of_mem _ (List.mem_append_right _ h)) hown hK.1 hP 0 rfl rfl 4 (by decide) (hts (.fieldLink RX12 95 "CutAtlasModel" "lines" "I") (List.mem_of_getElem? (i := 2) rfl)) (fun _ h9 => h9) rfl dB_3_0_2.1.1.1.1 ?_
    refine lv_iload hx hb dB_3_0_2.1.1.1.2 (lv_at hl 5 rfl) ?_
    refine va_iast hx hb hK.1 hP hD hS 5 0 rfl rfl (i := s4) h_1 dB_3_0_2.1.1.2.1 (fun H locs hP hD hS => ?_)
    obtain ⟨f_22, ef_22⟩ : ∃ g : Nat → Int32, g = upd f9 s4.toNatClampNeg a5 := ⟨_, rfl⟩
    refine pd_K (D := D) (cl := vwCl) (H := H) (A := A) [ob12_0_ mo s0 s1 t2 s3 s4 g5 g6 g7 g8 g9 g10 s11 g12 g13 g14 g15 g16 g17 g18 g19 g20 s21 g22 g23 g24 s25 s26 s27 s28 g29 g30 g31 g32 g33, ai_ cy g5 40 f_2, ai_ cy g6 40 f_4, ai_ cy g7 40 f_6, ai_ cy g8 40 f_20, ai_ cy g9 40 f_22, az_ cy g10 40 f10] (by rw [ef_22]; exact hP) (by rw [ef_22]; exact hD) (fun hP hD => ?_)
    have rf_22 : rng f_22 40 (0) (100) := by rw [ef_22]; exact rng_upd r_f9 (by omega) (by omega)
    refine lv_aload_n hx hb dB_3_0_2.1.1.2.2 rfl (lv_at hl 0 rfl) ?_
    refine va_get (ci := 12) (v := .ref g10) (C := RX12) (T := TX12) (N := 34) hx hb hts (fun _ h => List.mem_cons_of_mem _ (List.mem_append_right _ h)) hown hK.1 hP 0 rfl rfl 10 (by decide) (hts (.fieldLink RX12 25 "CutAtlasModel" "isMissing" "[Z") (List.mem_of_getElem? (i := 7) rfl)) (fun _ h9 => h9) rfl dB_3_0_2.1.2.1.1 ?_
    refine lv_aload_n hx hb dB_3_0_2.1.2.1.2 rfl (lv_at hl 0 rfl) ?_
    refine va_get (ci := 12) (v := .int s4) (C := RX12) (T := TX12) (N := 34) hx hb hts (fun _ h => List.mem_cons_of_mem _ (List.mem_append_right _ h)) hown hK.1 hP 0 rfl rfl 4 (by decide) (hts (.fieldLink RX12 95 "CutAtlasModel" "lines" "I") (List.mem_of_getElem? (i := 2) rfl)) (fun _ h9 => h9) rfl dB_3_0_2.1.2.2.1 ?_
    refine lv_iconst (v := 0) hx hb dB_3_0_2.1.2.2.2 (by decide) ?_
    refine va_zast hx hb hK.1 hP hD hS 6 2 rfl rfl (i := s4) h_1 dB_3_0_2.2.1.1.1 (fun H locs hP hD hS => ?_)
    obtain ⟨f_24, ef_24⟩ : ∃ g : Nat → Int32, g = upd f10 s4.toNatClampNeg (vp_nar .boolean (0 : Int32)) := ⟨_, rfl⟩
    refine pd_K (D := D) (cl := vwCl) (H := H) (A := A) [ob12_0_ mo s0 s1 t2 s3 s4 g5 g6 g7 g8 g9 g10 s11 g12 g13 g14 g15 g16 g17 g18 g19 g20 s21 g22 g23 g24 s25 s26 s27 s28 g29 g30 g31 g32 g33, ai_ cy g5 40 f_2, ai_ cy g6 40 f_4, ai_ cy g7 40 f_6, ai_ cy g8 40 f_20, ai_ cy g9 40 f_22, az_ cy g10 40 f_24] (by rw [ef_24]; exact hP) (by rw [ef_24]; exact hD) (fun hP hD => ?_)
    refine lv_aload_n hx hb dB_3_0_2.2.1.1.2 rfl (lv_at hl 0 rfl) ?_
    refine lv_dup hx hb dB_3_0_2.2.1.2.1 rfl ?_
    refine va_get (ci := 12) (v := .long t2) (C := RX12) (T := TX12) (N := 34) hx hb hts (fun _ h => List.mem_cons_of_mem _ (List.mem_append_right _ h)) hown hK.1 hP 0 rfl rfl 2 (by decide) (hts (.fieldLink RX12 114 "CutAtlasModel" "trace" "J") (List.mem_of_getElem? (i := 8) rfl)) (fun _ h9 => h9) rfl dB_3_0_2.2.1.2.2 ?_
    refine lv_iload_n hx hb dB_3_0_2.2.2.1.1 rfl (lv_at hl 1 rfl) ?_
    refine lv_iconst (v := 4) hx hb dB_3_0_2.2.2.1.2 (by decide) ?_
    refine lv_icmp_ne (tgt := 87) hx hb dB_3_0_2.2.2.2.1 (by decide) (fun c_25 => ?_) (fun c_25 => ?_)
    · have t_25 : ¬ a1.toInt = (4 : Int32).toInt := fun h => c_25 (Int32.toInt_inj.mp h)
      exfalso; omega
    · have t_25 : a1.toInt = (4 : Int32).toInt := congrArg Int32.toInt c_25
      refine lv_ldc2 (v := 1000000) hx hb hown (hts (.constantLong RX12 118 (1000000)) (List.mem_of_getElem? (i := 9) rfl)) dB_3_0_2.2.2.2.2 ?_
      refine lv_goto (tgt := 88) hx hb dB_3_0_3.1.1.1 (by decide) ?_
      refine lv_ladd hx hb dB_3_0_3.1.2.1 ?_
      refine lv_topl (fun y_26 ey_26 => ?_)
      refine va_put (ci := 12) (v := .long y_26) (ty := .long) (C := RX12) (T := TX12) (N := 34) hx hb hts (fun _ h => List.mem_cons_of_mem _ (List.mem_append_right _ h)) tyX12 tyX12_ok nmX12 hown hK.1 hP hD hS 0 rfl rfl 2 (by decide) (hts (.fieldLink RX12 114 "CutAtlasModel" "trace" "J") (List.mem_of_getElem? (i := 8) rfl)) (fun _ h9 => h9) rfl (by decide +kernel) rfl rfl (Nat.le_of_ble_eq_true rfl) dB_3_0_3.1.2.2.1 (fun H locs hP hD hS => ?_)
      refine pd_K [ob12_0_ mo s0 s1 y_26 s3 s4 g5 g6 g7 g8 g9 g10 s11 g12 g13 g14 g15 g16 g17 g18 g19 g20 s21 g22 g23 g24 s25 s26 s27 s28 g29 g30 g31 g32 g33, ai_ cy g5 40 f_2, ai_ cy g6 40 f_4, ai_ cy g7 40 f_6, ai_ cy g8 40 f_20, ai_ cy g9 40 f_22, az_ cy g10 40 f_24] hP hD (fun hP hD => ?_)
      refine lv_aload_n hx hb dB_3_0_3.1.2.2.2 rfl (lv_at hl 0 rfl) ?_
      refine lv_dup hx hb dB_3_0_3.2.1.1 rfl ?_
      refine va_get (ci := 12) (v := .int s4) (C := RX12) (T := TX12) (N := 34) hx hb hts (fun _ h => List.mem_cons_of_mem _ (List.mem_append_right _ h)) hown hK.1 hP 0 rfl rfl 4 (by decide) (hts (.fieldLink RX12 95 "CutAtlasModel" "lines" "I") (List.mem_of_getElem? (i := 2) rfl)) (fun _ h9 => h9) rfl dB_3_0_3.2.1.2.1 ?_
      refine lv_iconst (v := 1) hx hb dB_3_0_3.2.1.2.2 (by decide) ?_
      refine lv_iadd hx hb dB_3_0_3.2.2.1 ?_
      refine lv_topi (fun y_27 ey_27 => ?_)
      have ty_27 : y_27.toInt = s4.toInt + (1 : Int32).toInt := by rw [ey_27]; exact addI (by omega) (by omega)
      refine va_put (ci := 12) (v := .int y_27) (ty := .int) (C := RX12) (T := TX12) (N := 34) hx hb hts (fun _ h => List.mem_cons_of_mem _ (List.mem_append_right _ h)) tyX12 tyX12_ok nmX12 hown hK.1 hP hD hS 0 rfl rfl 4 (by decide) (hts (.fieldLink RX12 95 "CutAtlasModel" "lines" "I") (List.mem_of_getElem? (i := 2) rfl)) (fun _ h9 => h9) rfl (by decide +kernel) rfl rfl (Nat.le_of_ble_eq_true rfl) dB_3_0_3.2.2.2.1 (fun H locs hP hD hS => ?_)
      refine pd_K [ob12_0_ mo s0 s1 y_26 s3 y_27 g5 g6 g7 g8 g9 g10 s11 g12 g13 g14 g15 g16 g17 g18 g19 g20 s21 g22 g23 g24 s25 s26 s27 s28 g29 g30 g31 g32 g33, ai_ cy g5 40 f_2, ai_ cy g6 40 f_4, ai_ cy g7 40 f_6, ai_ cy g8 40 f_20, ai_ cy g9 40 f_22, az_ cy g10 40 f_24] hP hD (fun hP hD => ?_)
      rw [hQ]
      exact W.vret hx hb hr (fun t ht hW => ⟨⟨(), rfl, trivial, y_26, y_27, f_2, f_4, f_6, f_20, f_22, f_24, (by first | with_reducible assumption | omega | assumption), (by first | with_reducible assumption | omega | assumption), (by first | with_reducible assumption | omega | assumption), (by first | with_reducible assumption | omega | assumption), (by first | exact Or.inl ⟨by omega, by assumption⟩ | exact Or.inr ⟨by omega, by assumption⟩), (by first | with_reducible assumption | omega | assumption), (by first | with_reducible assumption | omega | assumption), (by first | exact Or.inl ⟨by omega, by assumption⟩ | exact Or.inr ⟨by omega, by assumption⟩), (by first | with_reducible assumption | assumption | exact rng_zero (by omega) (by omega) | omega), (by first | with_reducible assumption | assumption | exact rng_zero (by omega) (by omega) | omega), (by first | with_reducible assumption | assumption | exact rng_zero (by omega) (by omega) | omega), (by first | with_reducible assumption | assumption | exact rng_zero (by omega) (by omega) | omega), by rw [ht]; exact hP, hD⟩, hS.F ht⟩) hS.2.2 dB_3_0_3.2.2.2.2
end

section
/-! ===== the nets that are remembered: made one by one, used again ===== -/
/-- the six cells of the k-th -/
noncomputable def pnet (cy : Nat → ClassId) (pa : Nat → Nat → Nat) (pv : Nat → Nat → Int32) (pg : Nat → Nat → Nat → Int32) (k : Nat) : va_W := [(pa k 0, .inr (3, [.int (pv k 0), .int (pv k 1), .ref (pa k 1), .ref (pa k 2), .ref (pa k 3), .ref (pa k 4), .ref (pa k 5)])), (pa k 1, .inl (cy 0, 40, .inl (pg k 1))), (pa k 2, .inl (cy 0, 40, .inl (pg k 2))), (pa k 3, .inl (cy 0, 40, .inl (pg k 3))), (pa k 4, .inl (cy 0, 40, .inl (pg k 4))), (pa k 5, .inl (cy 0, 40, .inl (pg k 5)))]
/-- those from k on, n of them -/
noncomputable def pls (cy : Nat → ClassId) (pa : Nat → Nat → Nat) (pv : Nat → Nat → Int32) (pg : Nat → Nat → Nat → Int32) : Nat → Nat → va_W
  | _, 0 => []
  | k, n + 1 => pnet cy pa pv pg k ++ pls cy pa pv pg (k + 1) n
noncomputable def pool (cy : Nat → ClassId) (pa : Nat → Nat → Nat) (pv : Nat → Nat → Int32) (pg : Nat → Nat → Nat → Int32) (m : Nat) : va_W := pls cy pa pv pg 0 m
/-- all but the k-th -/
noncomputable def prest (cy : Nat → ClassId) (pa : Nat → Nat → Nat) (pv : Nat → Nat → Int32) (pg : Nat → Nat → Nat → Int32) (m k : Nat) : va_W := pls cy pa pv pg (k + 1) (m - k - 1) ++ pls cy pa pv pg 0 k
section POOL
variable {cy : Nat → ClassId} {pa pa2 : Nat → Nat → Nat} {pv pv2 : Nat → Nat → Int32} {pg pg2 : Nat → Nat → Nat → Int32} {X : va_W} {D : va_G} {cl : List vw_C} {H : Heap} {A : Nat → Prop}
theorem pls_app : ∀ (a b k : Nat), pls cy pa pv pg k (a + b) = pls cy pa pv pg k a ++ pls cy pa pv pg (k + a) b
  | 0, b, k => by
    rw [Nat.zero_add]
    rfl
  | a + 1, b, k => by
    rw [show a + 1 + b = (a + b) + 1 by omega]
    show pnet cy pa pv pg k ++ pls cy pa pv pg (k + 1) (a + b) = (pnet cy pa pv pg k ++ pls cy pa pv pg (k + 1) a) ++ pls cy pa pv pg (k + (a + 1)) b
    rw [pls_app a b (k + 1), List.append_assoc, show k + 1 + a = k + (a + 1) by omega]
theorem pls_cg : ∀ (n k : Nat), (∀ i : Nat, k ≤ i → i < k + n → pa2 i = pa i ∧ pv2 i = pv i ∧ pg2 i = pg i) → pls cy pa2 pv2 pg2 k n = pls cy pa pv pg k n
  | 0, _, _ => rfl
  | n + 1, k, h => by
    show pnet cy pa2 pv2 pg2 k ++ pls cy pa2 pv2 pg2 (k + 1) n = pnet cy pa pv pg k ++ pls cy pa pv pg (k + 1) n
    rw [pls_cg n (k + 1) (fun i h1 h2 => h i (by omega) (by omega))]
    have a := h k (by omega) (by omega)
    unfold pnet
    rw [a.1, a.2.1, a.2.2]
theorem pool_split {m k : Nat} (hk : k < m) : pool cy pa pv pg m = pls cy pa pv pg 0 k ++ (pnet cy pa pv pg k ++ pls cy pa pv pg (k + 1) (m - k - 1)) := by
  have e : m = k + (m - k) := by omega
  unfold pool
  rw [e, pls_app k (m - k) 0, Nat.zero_add, ← e]
  have e2 : m - k = (m - k - 1) + 1 := by omega
  rw [e2]
  rfl
theorem foc_P {m k : Nat} (hk : k < m) (h : va_P D cl (X ++ pool cy pa pv pg m) H) : va_P D cl ((X ++ pnet cy pa pv pg k) ++ prest cy pa pv pg m k) H := by
  rw [pool_split hk, ← List.append_assoc] at h
  have h2 := h.swap
  unfold prest
  rw [List.append_assoc, ← List.append_assoc (pnet cy pa pv pg k), ← List.append_assoc]
  exact h2
theorem foc_D {m k : Nat} (hk : k < m) (h : va_D A (X ++ pool cy pa pv pg m)) : va_D A ((X ++ pnet cy pa pv pg k) ++ prest cy pa pv pg m k) := by
  rw [pool_split hk, ← List.append_assoc] at h
  have h2 := h.swap
  unfold prest
  rw [List.append_assoc, ← List.append_assoc (pnet cy pa pv pg k), ← List.append_assoc]
  exact h2
theorem unf_P {m k : Nat} (hk : k < m) (hc : ∀ i : Nat, i ≠ k → pv2 i = pv i ∧ pg2 i = pg i) (h : va_P D cl ((X ++ pnet cy pa pv2 pg2 k) ++ prest cy pa pv pg m k) H) : va_P D cl (X ++ pool cy pa pv2 pg2 m) H := by
  have e : prest cy pa pv pg m k = prest cy pa pv2 pg2 m k := by
    unfold prest
    rw [pls_cg (m - k - 1) (k + 1) (pa2 := pa) (pv2 := pv2) (pg2 := pg2) (fun i h1 h2 => ⟨rfl, hc i (by omega)⟩), pls_cg k 0 (pa2 := pa) (pv2 := pv2) (pg2 := pg2) (fun i h1 h2 => ⟨rfl, hc i (by omega)⟩)]
  rw [e] at h
  unfold prest at h
  rw [List.append_assoc, ← List.append_assoc (pnet cy pa pv2 pg2 k), ← List.append_assoc] at h
  have h2 := h.swap
  rw [pool_split hk, ← List.append_assoc]
  exact h2
theorem unf_D {m k : Nat} (hk : k < m) (hc : ∀ i : Nat, i ≠ k → pv2 i = pv i ∧ pg2 i = pg i) (h : va_D A ((X ++ pnet cy pa pv2 pg2 k) ++ prest cy pa pv pg m k)) : va_D A (X ++ pool cy pa pv2 pg2 m) := by
  have e : prest cy pa pv pg m k = prest cy pa pv2 pg2 m k := by
    unfold prest
    rw [pls_cg (m - k - 1) (k + 1) (pa2 := pa) (pv2 := pv2) (pg2 := pg2) (fun i h1 h2 => ⟨rfl, hc i (by omega)⟩), pls_cg k 0 (pa2 := pa) (pv2 := pv2) (pg2 := pg2) (fun i h1 h2 => ⟨rfl, hc i (by omega)⟩)]
  rw [e] at h
  unfold prest at h
  rw [List.append_assoc, ← List.append_assoc (pnet cy pa pv2 pg2 k), ← List.append_assoc] at h
  have h2 := h.swap
  rw [pool_split hk, ← List.append_assoc]
  exact h2
theorem pool_more {m : Nat} (hc : ∀ i : Nat, i < m → pa2 i = pa i ∧ pv2 i = pv i ∧ pg2 i = pg i) : pool cy pa2 pv2 pg2 (m + 1) = pool cy pa pv pg m ++ pnet cy pa2 pv2 pg2 m := by
  unfold pool
  rw [pls_app m 1 0, pls_cg m 0 (fun i h1 h2 => hc i (by omega)), Nat.zero_add]
  show _ ++ (pnet cy pa2 pv2 pg2 m ++ []) = _
  rw [List.append_nil]
theorem more_P {m : Nat} (hc : ∀ i : Nat, i < m → pa2 i = pa i ∧ pv2 i = pv i ∧ pg2 i = pg i) (h : va_P D cl ((X ++ pnet cy pa2 pv2 pg2 m) ++ pool cy pa pv pg m) H) : va_P D cl (X ++ pool cy pa2 pv2 pg2 (m + 1)) H := by
  rw [pool_more hc, ← List.append_assoc]
  exact h.swap
theorem more_D {m : Nat} (hc : ∀ i : Nat, i < m → pa2 i = pa i ∧ pv2 i = pv i ∧ pg2 i = pg i) (h : va_D A ((X ++ pnet cy pa2 pv2 pg2 m) ++ pool cy pa pv pg m)) : va_D A (X ++ pool cy pa2 pv2 pg2 (m + 1)) := by
  rw [pool_more hc, ← List.append_assoc]
  exact h.swap
end POOL
/-- the row of the nets that are remembered -/
noncomputable def pst (pa : Nat → Nat → Nat) (m : Nat) : Nat → Option Nat := fun k => if k < m then some (pa k 0) else none
theorem pst_some {pa : Nat → Nat → Nat} {m k : Nat} (h : k < m) : va_rf (pst pa m k) = .ref (pa k 0) := by
  unfold pst
  rw [if_pos h]
  rfl
theorem pst_none {pa : Nat → Nat → Nat} {m k : Nat} (h : ¬ k < m) : va_rf (pst pa m k) = .null := by
  unfold pst
  rw [if_neg h]
  rfl
theorem pst_more {pa pa2 : Nat → Nat → Nat} {m k q : Nat} (ek : k = m) (hq : pa2 m 0 = q) (hc : ∀ i : Nat, i < m → pa2 i = pa i) : va_up (pst pa m) k (some q) = pst pa2 (m + 1) := by
  subst ek
  funext i
  unfold pst
  by_cases e : i = k
  · subst e
    rw [va_up_self, if_pos (by omega), hq]
  · rw [va_up_ne _ _ e]
    show (if i < k then some (pa i 0) else none) = if i < k + 1 then some (pa2 i 0) else none
    by_cases h : i < k
    · rw [if_pos h, if_pos (by omega), hc i h]
    · rw [if_neg h, if_neg (by omega)]
/-- a net's numbers are as they may be -/
noncomputable def nok (vp vn : Int32) (fk fs fe fw fp : Nat → Int32) : Prop := (0 ≤ vp.toInt ∧ vp.toInt ≤ 12) ∧ (0 ≤ vn.toInt ∧ vn.toInt ≤ 40) ∧ rng fk 40 0 4 ∧ prng fs fe 40 ∧ rng fw 40 0 2000 ∧ rng fp 40 0 100
noncomputable def pok (pv : Nat → Nat → Int32) (pg : Nat → Nat → Nat → Int32) (m : Nat) : Prop := ∀ k : Nat, k < m → nok (pv k 0) (pv k 1) (pg k 1) (pg k 2) (pg k 3) (pg k 4) (pg k 5)
/-- first and held of the ring, and how many are made -/
noncomputable def rok (pf ph : Int32) (m : Nat) : Prop := (0 ≤ pf.toInt ∧ pf.toInt ≤ 29) ∧ (0 ≤ ph.toInt ∧ ph.toInt ≤ 30) ∧ m ≤ 30 ∧ ph.toInt ≤ m ∧ (pf.toInt = 0 ∨ m = 30)
noncomputable def qn2 (a b : Int32) : Nat → Int32 := fun i => if i = 0 then a else b
noncomputable def qn5 (f1 f2 f3 f4 f5 : Nat → Int32) : Nat → Nat → Int32 := fun i => if i = 1 then f1 else if i = 2 then f2 else if i = 3 then f3 else if i = 4 then f4 else f5
noncomputable def qn6 (a b c d e f : Nat) : Nat → Nat := fun i => if i = 0 then a else if i = 1 then b else if i = 2 then c else if i = 3 then d else if i = 4 then e else f
theorem pok_st {pv : Nat → Nat → Int32} {pg : Nat → Nat → Nat → Int32} {m m2 k : Nat} {vp vn : Int32} {f1 f2 f3 f4 f5 : Nat → Int32} (h : pok pv pg m) (hm : m2 ≤ m ∨ (m2 = m + 1 ∧ k = m)) (hn : nok vp vn f1 f2 f3 f4 f5) : pok (va_up pv k (qn2 vp vn)) (va_up pg k (qn5 f1 f2 f3 f4 f5)) m2 := fun j hj => by
  by_cases e : j = k
  · subst e
    rw [va_up_self, va_up_self]
    exact hn
  · rw [va_up_ne _ _ e, va_up_ne _ _ e]
    exact h j (by omega)
theorem prng_zero {n : Nat} : prng (fun _ => 0) (fun _ => 0) n := fun j _ => by
  have z : (0 : Int32).toInt = 0 := by decide
  show (0 : Int32).toInt = -9 ∨ (0 ≤ (0 : Int32).toInt ∧ (0 : Int32).toInt ≤ 11 ∧ 0 ≤ (0 : Int32).toInt ∧ (0 : Int32).toInt ≤ 11)
  omega
theorem rem30 {x : Int32} (h : 0 ≤ x.toInt) : (x - x / 30 * 30).toInt = x.toInt % 30 := by
  obtain ⟨j, hj, rfl⟩ := nI_of (x := x) (fun h9 => by
    have := Int32.lt_iff_toInt_lt.mp h9
    have z : (0 : Int32).toInt = 0 := by decide
    omega)
  have e : (30 : Int32) = nI 30 := rfl
  rw [e, pk_rem hj (by decide) (by decide), nI_toInt (by omega), nI_toInt hj]
  omega

set_option maxHeartbeats 4000000 in
set_option maxRecDepth 100000 in
theorem c_X3_init (l : Launch) (D : va_G) (cy : Nat → ClassId) (sz : Nat) (h0 : Nat) : Met l yX3_init wsX3_init ({ frames := 1, cells := 5, slots := 200, locals := 12 }) (va_Pc [.ref h0] (fun U => U.heap.size = sz ∧ va_P D vwCl [ob3_1_ h0 0 0] U.heap ∧ kk_ D cy U ∧ va_D (fun _ => True) [ob3_1_ h0 0 0])) (va_Qv (fun (_ : Unit) => True) (fun (_ : Unit) (t : State) => ∃ (n1 : Nat), ∃ (n2 : Nat), ∃ (n3 : Nat), ∃ (n4 : Nat), ∃ (n5 : Nat), va_P D vwCl [ob3_0_ h0 0 0 n1 n2 n3 n4 n5, ai_ cy n1 40 (fun _ => 0), ai_ cy n2 40 (fun _ => 0), ai_ cy n3 40 (fun _ => 0), ai_ cy n4 40 (fun _ => 0), ai_ cy n5 40 (fun _ => 0)] t.heap ∧ va_D (va_A [ob3_1_ h0 0 0] sz) [ob3_0_ h0 0 0 n1 n2 n3 n4 n5, ai_ cy n1 40 (fun _ => 0), ai_ cy n2 40 (fun _ => 0), ai_ cy n3 40 (fun _ => 0), ai_ cy n4 40 (fun _ => 0), ai_ cy n5 40 (fun _ => 0)]) (va_A [ob3_1_ h0 0 0] sz)) 5 200 (va_A [ob3_1_ h0 0 0] sz) := by
  refine ofQ (cc := cX3_init) (maxL := 1) (ret := none) (by decide) rfl ?_
  intro p e s m args below meth c s₁ Q hQ B hml hv
  obtain ⟨rfl, hsz, hP, hK, hD0⟩ := hv
  have hx := B.exec
  have hb := B.bytes
  have hr := B.returns
  have hts := atoms_spec (ws := wsX3_init) B.pre
  have hown : s.vm.findClass RX3 = some m.cls := by have h_ := findClass_of_methodNamed B.named; exact h_
  have hlocks := B.notSynchronized
  have hin : meth.name = "<init>" := (name_of_methodNamed B.named B.method).1
  subst hsz
  have hD := hD0.self (sz := s.heap.size)
  generalize hAe : va_A [ob3_1_ h0 0 0] s.heap.size = A at hD hQ
  have hA : ∀ q : Nat, s.heap.size ≤ q → A q := fun q h => by rw [← hAe]; exact Or.inr h
  have hS : va_S A s.heap s.heap [] := va_S.rf
  have hl := lv_entry ([.ref h0]) (n := 1) (Nat.le_of_ble_eq_true rfl)
  rw [lg_entry_eq]
  generalize (lg_sl ([.ref h0]) ++ List.replicate (1 - (lg_sl ([.ref h0])).length) Slot.unset).toArray = ls at hl ⊢
  have hl : lv_has ls 1 [(0, .ref h0)] := hl
  refine lv_aload_n hx hb dB_36_1_17.1.1.1.1 rfl (lv_at hl 0 rfl) ?_
  refine W.objInit hx hb hown (hts (.methodLink RX3 3 objectInit) (List.mem_of_getElem? (i := 1) rfl)) (hts (.instanceMethod objectInit) (List.mem_of_getElem? (i := 2) rfl)) (hts (.code objectInit ⟨#[0xb1]⟩ 1 none) (List.mem_of_getElem? (i := 3) rfl)) rfl (by rw [hml]; exact hl.1) rfl dB_36_1_17.1.1.1.2 (Nat.le_of_ble_eq_true rfl) (Nat.le_of_ble_eq_true rfl) ?_
  refine W.eq (g2 := F0 m 4 ls []) rfl ?_
  refine lv_aload_n hx hb dB_36_1_17.1.1.2.1 rfl (lv_at hl 0 rfl) ?_
  refine lv_iconst (v := 0) hx hb dB_36_1_17.1.1.2.2 (by decide) ?_
  refine va_put (ci := 3) (v := .int 0) (ty := .int) (C := RX3) (T := TX3) (N := 7) hx hb hts (fun _ h => List.mem_cons_of_mem _ (List.mem_append_right _ h)) tyX3 tyX3_ok nmX3 hown hK.1 hP hD hS 0 rfl rfl 0 (by decide) (hts (.fieldLink RX3 9 "CutAtlas$Net" "places" "I") (List.mem_of_getElem? (i := 4) rfl)) (fun _ h9 => h9) rfl (by decide +kernel) rfl rfl (Nat.le_of_ble_eq_true rfl) dB_36_1_17.1.2.1.1 (fun H locs hP hD hS => ?_)
  refine pd_K [ob3_1_ h0 0 0] hP hD (fun hP hD => ?_)
  refine lv_aload_n hx hb dB_36_1_17.1.2.1.2 rfl (lv_at hl 0 rfl) ?_
  refine lv_iconst (v := 0) hx hb dB_36_1_17.1.2.2.1 (by decide) ?_
  refine va_put (ci := 3) (v := .int 0) (ty := .int) (C := RX3) (T := TX3) (N := 7) hx hb hts (fun _ h => List.mem_cons_of_mem _ (List.mem_append_right _ h)) tyX3 tyX3_ok nmX3 hown hK.1 hP hD hS 0 rfl rfl 1 (by decide) (hts (.fieldLink RX3 15 "CutAtlas$Net" "lines" "I") (List.mem_of_getElem? (i := 5) rfl)) (fun _ h9 => h9) rfl (by decide +kernel) rfl rfl (Nat.le_of_ble_eq_true rfl) dB_36_1_17.1.2.2.2 (fun H locs hP hD hS => ?_)
  refine pd_K [ob3_1_ h0 0 0] hP hD (fun hP hD => ?_)
  refine lv_aload_n hx hb dB_36_1_17.2.1.1.1 rfl (lv_at hl 0 rfl) ?_
  refine lv_bipush (v := 40) hx hb dB_36_1_17.2.1.1.2 (by decide) ?_
  refine nw_a (a0 := (40, .inl (fun _ => 0))) (ty := .int) hx hb (hts (.arrayClass .int) (List.mem_of_getElem? (i := 6) rfl)) rfl hK.1 0 rfl (fun _ h => by cases h) hP hD hS hA (fun _ => rfl) (by decide) (by decide) (by decide) (Nat.le_of_ble_eq_true rfl) (Nat.le_of_ble_eq_true rfl) dB_36_1_17.2.1.2.1 (fun q_1 H hP hD hS => ?_)
  refine pd_K [ob3_1_ h0 0 0, ai_ cy q_1 40 (fun _ => 0)] hP hD (fun hP hD => ?_)
  refine va_putF (ci := 3) (v := .ref q_1) (ty := (tyX3 2)) (C := RX3) (T := TX3) (N := 7) hx hb hts (fun _ h => List.mem_cons_of_mem _ (List.mem_append_right _ h)) tyX3 tyX3_ok nmX3 hown hK.1 hP hD hS 0 rfl rfl 2 (by decide) (hts (.fieldLink RX3 18 "CutAtlas$Net" "kinds" "[I") (List.mem_of_getElem? (i := 7) rfl)) (fun _ h9 => h9) rfl hin rfl (by decide +kernel) rfl rfl (Nat.le_of_ble_eq_true rfl) dB_36_1_17.2.1.2.2 (fun H locs hP hD hS => ?_)
  refine pd_K [ob3_2_ h0 0 0 q_1, ai_ cy q_1 40 (fun _ => 0)] hP hD (fun hP hD => ?_)
  refine lv_aload_n hx hb dB_36_1_17.2.2.1.1 rfl (lv_at hl 0 rfl) ?_
  refine lv_bipush (v := 40) hx hb dB_36_1_17.2.2.1.2 (by decide) ?_
  refine nw_a (a0 := (40, .inl (fun _ => 0))) (ty := .int) hx hb (hts (.arrayClass .int) (List.mem_of_getElem? (i := 6) rfl)) rfl hK.1 0 rfl (fun _ h => by cases h) hP hD hS hA (fun _ => rfl) (by decide) (by decide) (by decide) (Nat.le_of_ble_eq_true rfl) (Nat.le_of_ble_eq_true rfl) dB_36_1_17.2.2.2.1 (fun q_2 H hP hD hS => ?_)
  refine pd_K [ob3_2_ h0 0 0 q_1, ai_ cy q_1 40 (fun _ => 0), ai_ cy q_2 40 (fun _ => 0)] hP hD (fun hP hD => ?_)
  refine va_putF (ci := 3) (v := .ref q_2) (ty := (tyX3 3)) (C := RX3) (T := TX3) (N := 7) hx hb hts (fun _ h => List.mem_cons_of_mem _ (List.mem_append_right _ h)) tyX3 tyX3_ok nmX3 hown hK.1 hP hD hS 0 rfl rfl 3 (by decide) (hts (.fieldLink RX3 22 "CutAtlas$Net" "starts" "[I") (List.mem_of_getElem? (i := 8) rfl)) (fun _ h9 => h9) rfl hin rfl (by decide +kernel) rfl rfl (Nat.le_of_ble_eq_true rfl) dB_36_1_17.2.2.2.2 (fun H locs hP hD hS => ?_)
  refine pd_K [ob3_3_ h0 0 0 q_1 q_2, ai_ cy q_1 40 (fun _ => 0), ai_ cy q_2 40 (fun _ => 0)] hP hD (fun hP hD => ?_)
  refine lv_aload_n hx hb dB_36_1_18.1.1.1 rfl (lv_at hl 0 rfl) ?_
  refine lv_bipush (v := 40) hx hb dB_36_1_18.1.1.2.1 (by decide) ?_
  refine nw_a (a0 := (40, .inl (fun _ => 0))) (ty := .int) hx hb (hts (.arrayClass .int) (List.mem_of_getElem? (i := 6) rfl)) rfl hK.1 0 rfl (fun _ h => by cases h) hP hD hS hA (fun _ => rfl) (by decide) (by decide) (by decide) (Nat.le_of_ble_eq_true rfl) (Nat.le_of_ble_eq_true rfl) dB_36_1_18.1.1.2.2 (fun q_3 H hP hD hS => ?_)
  refine pd_K [ob3_3_ h0 0 0 q_1 q_2, ai_ cy q_1 40 (fun _ => 0), ai_ cy q_2 40 (fun _ => 0), ai_ cy q_3 40 (fun _ => 0)] hP hD (fun hP hD => ?_)
  refine va_putF (ci := 3) (v := .ref q_3) (ty := (tyX3 4)) (C := RX3) (T := TX3) (N := 7) hx hb hts (fun _ h => List.mem_cons_of_mem _ (List.mem_append_right _ h)) tyX3 tyX3_ok nmX3 hown hK.1 hP hD hS 0 rfl rfl 4 (by decide) (hts (.fieldLink RX3 25 "CutAtlas$Net" "ends" "[I") (List.mem_of_getElem? (i := 9) rfl)) (fun _ h9 => h9) rfl hin rfl (by decide +kernel) rfl rfl (Nat.le_of_ble_eq_true rfl) dB_36_1_18.1.2.1 (fun H locs hP hD hS => ?_)
  refine pd_K [ob3_4_ h0 0 0 q_1 q_2 q_3, ai_ cy q_1 40 (fun _ => 0), ai_ cy q_2 40 (fun _ => 0), ai_ cy q_3 40 (fun _ => 0)] hP hD (fun hP hD => ?_)
  refine lv_aload_n hx hb dB_36_1_18.1.2.2.1 rfl (lv_at hl 0 rfl) ?_
  refine lv_bipush (v := 40) hx hb dB_36_1_18.1.2.2.2 (by decide) ?_
  refine nw_a (a0 := (40, .inl (fun _ => 0))) (ty := .int) hx hb (hts (.arrayClass .int) (List.mem_of_getElem? (i := 6) rfl)) rfl hK.1 0 rfl (fun _ h => by cases h) hP hD hS hA (fun _ => rfl) (by decide) (by decide) (by decide) (Nat.le_of_ble_eq_true rfl) (Nat.le_of_ble_eq_true rfl) dB_36_1_18.2.1.1 (fun q_4 H hP hD hS => ?_)
  refine pd_K [ob3_4_ h0 0 0 q_1 q_2 q_3, ai_ cy q_1 40 (fun _ => 0), ai_ cy q_2 40 (fun _ => 0), ai_ cy q_3 40 (fun _ => 0), ai_ cy q_4 40 (fun _ => 0)] hP hD (fun hP hD => ?_)
  refine va_putF (ci := 3) (v := .ref q_4) (ty := (tyX3 5)) (C := RX3) (T := TX3) (N := 7) hx hb hts (fun _ h => List.mem_cons_of_mem _ (List.mem_append_right _ h)) tyX3 tyX3_ok nmX3 hown hK.1 hP hD hS 0 rfl rfl 5 (by decide) (hts (.fieldLink RX3 28 "CutAtlas$Net" "widths" "[I") (List.mem_of_getElem? (i := 10) rfl)) (fun _ h9 => h9) rfl hin rfl (by decide +kernel) rfl rfl (Nat.le_of_ble_eq_true rfl) dB_36_1_18.2.1.2.1 (fun H locs hP hD hS => ?_)
  refine pd_K [ob3_5_ h0 0 0 q_1 q_2 q_3 q_4, ai_ cy q_1 40 (fun _ => 0), ai_ cy q_2 40 (fun _ => 0), ai_ cy q_3 40 (fun _ => 0), ai_ cy q_4 40 (fun _ => 0)] hP hD (fun hP hD => ?_)
  refine lv_aload_n hx hb dB_36_1_18.2.1.2.2 rfl (lv_at hl 0 rfl) ?_
  refine lv_bipush (v := 40) hx hb dB_36_1_18.2.2.1.1 (by decide) ?_
  refine nw_a (a0 := (40, .inl (fun _ => 0))) (ty := .int) hx hb (hts (.arrayClass .int) (List.mem_of_getElem? (i := 6) rfl)) rfl hK.1 0 rfl (fun _ h => by cases h) hP hD hS hA (fun _ => rfl) (by decide) (by decide) (by decide) (Nat.le_of_ble_eq_true rfl) (Nat.le_of_ble_eq_true rfl) dB_36_1_18.2.2.1.2 (fun q_5 H hP hD hS => ?_)
  refine pd_K [ob3_5_ h0 0 0 q_1 q_2 q_3 q_4, ai_ cy q_1 40 (fun _ => 0), ai_ cy q_2 40 (fun _ => 0), ai_ cy q_3 40 (fun _ => 0), ai_ cy q_4 40 (fun _ => 0), ai_ cy q_5 40 (fun _ => 0)] hP hD (fun hP hD => ?_)
  refine va_putF (ci := 3) (v := .ref q_5) (ty := (tyX3 6)) (C := RX3) (T := TX3) (N := 7) hx hb hts (fun _ h => List.mem_cons_of_mem _ (List.mem_append_right _ h)) tyX3 tyX3_ok nmX3 hown hK.1 hP hD hS 0 rfl rfl 6 (by decide) (hts (.fieldLink RX3 31 "CutAtlas$Net" "prices" "[I") (List.mem_of_getElem? (i := 11) rfl)) (fun _ h9 => h9) rfl hin rfl (by decide +kernel) rfl rfl (Nat.le_of_ble_eq_true rfl) dB_36_1_18.2.2.2.1 (fun H locs hP hD hS => ?_)
  refine pd_K [ob3_0_ h0 0 0 q_1 q_2 q_3 q_4 q_5, ai_ cy q_1 40 (fun _ => 0), ai_ cy q_2 40 (fun _ => 0), ai_ cy q_3 40 (fun _ => 0), ai_ cy q_4 40 (fun _ => 0), ai_ cy q_5 40 (fun _ => 0)] hP hD (fun hP hD => ?_)
  rw [hQ]
  exact W.vret hx hb hr (fun t ht hW => ⟨⟨(), rfl, trivial, q_1, q_2, q_3, q_4, q_5, by rw [ht]; exact hP, hD⟩, hS.F ht⟩) hS.2.2 dB_36_1_18.2.2.2.2
end

section
set_option maxHeartbeats 4000000 in
set_option maxRecDepth 100000 in
theorem c_X11_mostNow (l : Launch) (D : va_G) (cy : Nat → ClassId) (sz : Nat) (xo : Nat) (xk : Nat) (xn : Nat) (xc : Nat) (xh : Nat) (xt : Nat) (xw : Nat) (xm : Nat) (xp : Nat) (pf : Int32) (ph : Int32) (tr : Int64) (fi : Int32) (n1 : Nat) (n2 : Nat) (n3 : Nat) (n4 : Nat) (n5 : Nat) (vp : Int32) (vn : Int32) (clo : Nat) (cro : Nat) (c4 : Nat) (c5 : Nat) (c6 : Nat) (c7 : Nat) (c8 : Nat) (fk : Nat → Int32) (fs : Nat → Int32) (fe : Nat → Int32) (fw : Nat → Int32) (fp : Nat → Int32) (rl : Nat → Nat) (Ml : Nat → Nat → Int32) (rr : Nat → Nat) (Mr : Nat → Nat → Int32) (f4 : Nat → Int32) (f5 : Nat → Int32) (f6 : Nat → Int32) (f7 : Nat → Int32) (f8 : Nat → Int32) (k0 : Nat) (k1 : Nat) (k2 : Nat) (k3 : Nat) (k4 : Nat) (a1 : Int32) (a2 : Int32) (hvp : 0 ≤ vp.toInt ∧ vp.toInt ≤ 12) (hvn : 0 ≤ vn.toInt ∧ vn.toInt ≤ 40) (q1 : 0 ≤ a1.toInt ∧ a1.toInt ≤ 11) (q2 : 0 ≤ a2.toInt ∧ a2.toInt ≤ 11) (hpr : prng fs fe 40) (r_f7 : rng f7 12 (0) (11)) (r_f8 : rng f8 12 (0) (11)) (r_fk : rng fk 40 (0) (4)) : Met l yX11_mostNow wsX11_mostNow ({ frames := 4, cells := 0, slots := 0, locals := 88 }) (va_Pc [.ref xo, .int a1, .int a2] (fun U => U.heap.size = sz ∧ va_P D vwCl [ob11_0_ xo xk xn xc xh xt xw xm xp pf ph tr fi, ob3_0_ xn vp vn n1 n2 n3 n4 n5, ai_ cy n1 40 fk, ai_ cy n2 40 fs, ai_ cy n3 40 fe, ai_ cy n4 40 fw, ai_ cy n5 40 fp, ob0_0_ xc xn xk clo cro c4 c5 c6 c7 c8, aq_ cy 6 clo 12 (gf_ rl), ai_ cy (rl 0) 12 (Ml 0), ai_ cy (rl 1) 12 (Ml 1), ai_ cy (rl 2) 12 (Ml 2), ai_ cy (rl 3) 12 (Ml 3), ai_ cy (rl 4) 12 (Ml 4), ai_ cy (rl 5) 12 (Ml 5), ai_ cy (rl 6) 12 (Ml 6), ai_ cy (rl 7) 12 (Ml 7), ai_ cy (rl 8) 12 (Ml 8), ai_ cy (rl 9) 12 (Ml 9), ai_ cy (rl 10) 12 (Ml 10), ai_ cy (rl 11) 12 (Ml 11), aq_ cy 6 cro 12 (gf_ rr), ai_ cy (rr 0) 12 (Mr 0), ai_ cy (rr 1) 12 (Mr 1), ai_ cy (rr 2) 12 (Mr 2), ai_ cy (rr 3) 12 (Mr 3), ai_ cy (rr 4) 12 (Mr 4), ai_ cy (rr 5) 12 (Mr 5), ai_ cy (rr 6) 12 (Mr 6), ai_ cy (rr 7) 12 (Mr 7), ai_ cy (rr 8) 12 (Mr 8), ai_ cy (rr 9) 12 (Mr 9), ai_ cy (rr 10) 12 (Mr 10), ai_ cy (rr 11) 12 (Mr 11), ai_ cy c4 40 f4, ai_ cy c5 40 f5, ai_ cy c6 40 f6, ai_ cy c7 12 f7, ai_ cy c8 12 f8, aq_ cy 3 xk 5 (kf_ k0 k1 k2 k3 k4), ob6_0_ k0, ob5_0_ k1, ob9_0_ k2, ob2_0_ k3, ob8_0_ k4] U.heap ∧ kg_ D cy U ∧ va_D (fun _ => True) [ob11_0_ xo xk xn xc xh xt xw xm xp pf ph tr fi, ob3_0_ xn vp vn n1 n2 n3 n4 n5, ai_ cy n1 40 fk, ai_ cy n2 40 fs, ai_ cy n3 40 fe, ai_ cy n4 40 fw, ai_ cy n5 40 fp, ob0_0_ xc xn xk clo cro c4 c5 c6 c7 c8, aq_ cy 6 clo 12 (gf_ rl), ai_ cy (rl 0) 12 (Ml 0), ai_ cy (rl 1) 12 (Ml 1), ai_ cy (rl 2) 12 (Ml 2), ai_ cy (rl 3) 12 (Ml 3), ai_ cy (rl 4) 12 (Ml 4), ai_ cy (rl 5) 12 (Ml 5), ai_ cy (rl 6) 12 (Ml 6), ai_ cy (rl 7) 12 (Ml 7), ai_ cy (rl 8) 12 (Ml 8), ai_ cy (rl 9) 12 (Ml 9), ai_ cy (rl 10) 12 (Ml 10), ai_ cy (rl 11) 12 (Ml 11), aq_ cy 6 cro 12 (gf_ rr), ai_ cy (rr 0) 12 (Mr 0), ai_ cy (rr 1) 12 (Mr 1), ai_ cy (rr 2) 12 (Mr 2), ai_ cy (rr 3) 12 (Mr 3), ai_ cy (rr 4) 12 (Mr 4), ai_ cy (rr 5) 12 (Mr 5), ai_ cy (rr 6) 12 (Mr 6), ai_ cy (rr 7) 12 (Mr 7), ai_ cy (rr 8) 12 (Mr 8), ai_ cy (rr 9) 12 (Mr 9), ai_ cy (rr 10) 12 (Mr 10), ai_ cy (rr 11) 12 (Mr 11), ai_ cy c4 40 f4, ai_ cy c5 40 f5, ai_ cy c6 40 f6, ai_ cy c7 12 f7, ai_ cy c8 12 f8, aq_ cy 3 xk 5 (kf_ k0 k1 k2 k3 k4), ob6_0_ k0, ob5_0_ k1, ob9_0_ k2, ob2_0_ k3, ob8_0_ k4])) (va_Qi (fun (r : Int32) (_ : Unit) => True) (fun (_ : Unit) (t : State) => ∃ (eMl : Nat → Nat → Int32), ∃ (eMr : Nat → Nat → Int32), ∃ (e4 : Nat → Int32), ∃ (e5 : Nat → Int32), ∃ (e6 : Nat → Int32), ∃ (e7 : Nat → Int32), ∃ (e8 : Nat → Int32), (rng e7 12 (0) (11)) ∧ (rng e8 12 (0) (11)) ∧ va_P D vwCl [ob11_0_ xo xk xn xc xh xt xw xm xp pf ph tr fi, ob3_0_ xn vp vn n1 n2 n3 n4 n5, ai_ cy n1 40 fk, ai_ cy n2 40 fs, ai_ cy n3 40 fe, ai_ cy n4 40 fw, ai_ cy n5 40 fp, ob0_0_ xc xn xk clo cro c4 c5 c6 c7 c8, aq_ cy 6 clo 12 (gf_ rl), ai_ cy (rl 0) 12 (eMl 0), ai_ cy (rl 1) 12 (eMl 1), ai_ cy (rl 2) 12 (eMl 2), ai_ cy (rl 3) 12 (eMl 3), ai_ cy (rl 4) 12 (eMl 4), ai_ cy (rl 5) 12 (eMl 5), ai_ cy (rl 6) 12 (eMl 6), ai_ cy (rl 7) 12 (eMl 7), ai_ cy (rl 8) 12 (eMl 8), ai_ cy (rl 9) 12 (eMl 9), ai_ cy (rl 10) 12 (eMl 10), ai_ cy (rl 11) 12 (eMl 11), aq_ cy 6 cro 12 (gf_ rr), ai_ cy (rr 0) 12 (eMr 0), ai_ cy (rr 1) 12 (eMr 1), ai_ cy (rr 2) 12 (eMr 2), ai_ cy (rr 3) 12 (eMr 3), ai_ cy (rr 4) 12 (eMr 4), ai_ cy (rr 5) 12 (eMr 5), ai_ cy (rr 6) 12 (eMr 6), ai_ cy (rr 7) 12 (eMr 7), ai_ cy (rr 8) 12 (eMr 8), ai_ cy (rr 9) 12 (eMr 9), ai_ cy (rr 10) 12 (eMr 10), ai_ cy (rr 11) 12 (eMr 11), ai_ cy c4 40 e4, ai_ cy c5 40 e5, ai_ cy c6 40 e6, ai_ cy c7 12 e7, ai_ cy c8 12 e8, aq_ cy 3 xk 5 (kf_ k0 k1 k2 k3 k4), ob6_0_ k0, ob5_0_ k1, ob9_0_ k2, ob2_0_ k3, ob8_0_ k4] t.heap ∧ va_D (va_A [ob11_0_ xo xk xn xc xh xt xw xm xp pf ph tr fi, ob3_0_ xn vp vn n1 n2 n3 n4 n5, ai_ cy n1 40 fk, ai_ cy n2 40 fs, ai_ cy n3 40 fe, ai_ cy n4 40 fw, ai_ cy n5 40 fp, ob0_0_ xc xn xk clo cro c4 c5 c6 c7 c8, aq_ cy 6 clo 12 (gf_ rl), ai_ cy (rl 0) 12 (Ml 0), ai_ cy (rl 1) 12 (Ml 1), ai_ cy (rl 2) 12 (Ml 2), ai_ cy (rl 3) 12 (Ml 3), ai_ cy (rl 4) 12 (Ml 4), ai_ cy (rl 5) 12 (Ml 5), ai_ cy (rl 6) 12 (Ml 6), ai_ cy (rl 7) 12 (Ml 7), ai_ cy (rl 8) 12 (Ml 8), ai_ cy (rl 9) 12 (Ml 9), ai_ cy (rl 10) 12 (Ml 10), ai_ cy (rl 11) 12 (Ml 11), aq_ cy 6 cro 12 (gf_ rr), ai_ cy (rr 0) 12 (Mr 0), ai_ cy (rr 1) 12 (Mr 1), ai_ cy (rr 2) 12 (Mr 2), ai_ cy (rr 3) 12 (Mr 3), ai_ cy (rr 4) 12 (Mr 4), ai_ cy (rr 5) 12 (Mr 5), ai_ cy (rr 6) 12 (Mr 6), ai_ cy (rr 7) 12 (Mr 7), ai_ cy (rr 8) 12 (Mr 8), ai_ cy (rr 9) 12 (Mr 9), ai_ cy (rr 10) 12 (Mr 10), ai_ cy (rr 11) 12 (Mr 11), ai_ cy c4 40 f4, ai_ cy c5 40 f5, ai_ cy c6 40 f6, ai_ cy c7 12 f7, ai_ cy c8 12 f8, aq_ cy 3 xk 5 (kf_ k0 k1 k2 k3 k4), ob6_0_ k0, ob5_0_ k1, ob9_0_ k2, ob2_0_ k3, ob8_0_ k4] sz) [ob11_0_ xo xk xn xc xh xt xw xm xp pf ph tr fi, ob3_0_ xn vp vn n1 n2 n3 n4 n5, ai_ cy n1 40 fk, ai_ cy n2 40 fs, ai_ cy n3 40 fe, ai_ cy n4 40 fw, ai_ cy n5 40 fp, ob0_0_ xc xn xk clo cro c4 c5 c6 c7 c8, aq_ cy 6 clo 12 (gf_ rl), ai_ cy (rl 0) 12 (eMl 0), ai_ cy (rl 1) 12 (eMl 1), ai_ cy (rl 2) 12 (eMl 2), ai_ cy (rl 3) 12 (eMl 3), ai_ cy (rl 4) 12 (eMl 4), ai_ cy (rl 5) 12 (eMl 5), ai_ cy (rl 6) 12 (eMl 6), ai_ cy (rl 7) 12 (eMl 7), ai_ cy (rl 8) 12 (eMl 8), ai_ cy (rl 9) 12 (eMl 9), ai_ cy (rl 10) 12 (eMl 10), ai_ cy (rl 11) 12 (eMl 11), aq_ cy 6 cro 12 (gf_ rr), ai_ cy (rr 0) 12 (eMr 0), ai_ cy (rr 1) 12 (eMr 1), ai_ cy (rr 2) 12 (eMr 2), ai_ cy (rr 3) 12 (eMr 3), ai_ cy (rr 4) 12 (eMr 4), ai_ cy (rr 5) 12 (eMr 5), ai_ cy (rr 6) 12 (eMr 6), ai_ cy (rr 7) 12 (eMr 7), ai_ cy (rr 8) 12 (eMr 8), ai_ cy (rr 9) 12 (eMr 9), ai_ cy (rr 10) 12 (eMr 10), ai_ cy (rr 11) 12 (eMr 11), ai_ cy c4 40 e4, ai_ cy c5 40 e5, ai_ cy c6 40 e6, ai_ cy c7 12 e7, ai_ cy c8 12 e8, aq_ cy 3 xk 5 (kf_ k0 k1 k2 k3 k4), ob6_0_ k0, ob5_0_ k1, ob9_0_ k2, ob2_0_ k3, ob8_0_ k4]) (va_A [ob11_0_ xo xk xn xc xh xt xw xm xp pf ph tr fi, ob3_0_ xn vp vn n1 n2 n3 n4 n5, ai_ cy n1 40 fk, ai_ cy n2 40 fs, ai_ cy n3 40 fe, ai_ cy n4 40 fw, ai_ cy n5 40 fp, ob0_0_ xc xn xk clo cro c4 c5 c6 c7 c8, aq_ cy 6 clo 12 (gf_ rl), ai_ cy (rl 0) 12 (Ml 0), ai_ cy (rl 1) 12 (Ml 1), ai_ cy (rl 2) 12 (Ml 2), ai_ cy (rl 3) 12 (Ml 3), ai_ cy (rl 4) 12 (Ml 4), ai_ cy (rl 5) 12 (Ml 5), ai_ cy (rl 6) 12 (Ml 6), ai_ cy (rl 7) 12 (Ml 7), ai_ cy (rl 8) 12 (Ml 8), ai_ cy (rl 9) 12 (Ml 9), ai_ cy (rl 10) 12 (Ml 10), ai_ cy (rl 11) 12 (Ml 11), aq_ cy 6 cro 12 (gf_ rr), ai_ cy (rr 0) 12 (Mr 0), ai_ cy (rr 1) 12 (Mr 1), ai_ cy (rr 2) 12 (Mr 2), ai_ cy (rr 3) 12 (Mr 3), ai_ cy (rr 4) 12 (Mr 4), ai_ cy (rr 5) 12 (Mr 5), ai_ cy (rr 6) 12 (Mr 6), ai_ cy (rr 7) 12 (Mr 7), ai_ cy (rr 8) 12 (Mr 8), ai_ cy (rr 9) 12 (Mr 9), ai_ cy (rr 10) 12 (Mr 10), ai_ cy (rr 11) 12 (Mr 11), ai_ cy c4 40 f4, ai_ cy c5 40 f5, ai_ cy c6 40 f6, ai_ cy c7 12 f7, ai_ cy c8 12 f8, aq_ cy 3 xk 5 (kf_ k0 k1 k2 k3 k4), ob6_0_ k0, ob5_0_ k1, ob9_0_ k2, ob2_0_ k3, ob8_0_ k4] sz)) 0 0 (va_A [ob11_0_ xo xk xn xc xh xt xw xm xp pf ph tr fi, ob3_0_ xn vp vn n1 n2 n3 n4 n5, ai_ cy n1 40 fk, ai_ cy n2 40 fs, ai_ cy n3 40 fe, ai_ cy n4 40 fw, ai_ cy n5 40 fp, ob0_0_ xc xn xk clo cro c4 c5 c6 c7 c8, aq_ cy 6 clo 12 (gf_ rl), ai_ cy (rl 0) 12 (Ml 0), ai_ cy (rl 1) 12 (Ml 1), ai_ cy (rl 2) 12 (Ml 2), ai_ cy (rl 3) 12 (Ml 3), ai_ cy (rl 4) 12 (Ml 4), ai_ cy (rl 5) 12 (Ml 5), ai_ cy (rl 6) 12 (Ml 6), ai_ cy (rl 7) 12 (Ml 7), ai_ cy (rl 8) 12 (Ml 8), ai_ cy (rl 9) 12 (Ml 9), ai_ cy (rl 10) 12 (Ml 10), ai_ cy (rl 11) 12 (Ml 11), aq_ cy 6 cro 12 (gf_ rr), ai_ cy (rr 0) 12 (Mr 0), ai_ cy (rr 1) 12 (Mr 1), ai_ cy (rr 2) 12 (Mr 2), ai_ cy (rr 3) 12 (Mr 3), ai_ cy (rr 4) 12 (Mr 4), ai_ cy (rr 5) 12 (Mr 5), ai_ cy (rr 6) 12 (Mr 6), ai_ cy (rr 7) 12 (Mr 7), ai_ cy (rr 8) 12 (Mr 8), ai_ cy (rr 9) 12 (Mr 9), ai_ cy (rr 10) 12 (Mr 10), ai_ cy (rr 11) 12 (Mr 11), ai_ cy c4 40 f4, ai_ cy c5 40 f5, ai_ cy c6 40 f6, ai_ cy c7 12 f7, ai_ cy c8 12 f8, aq_ cy 3 xk 5 (kf_ k0 k1 k2 k3 k4), ob6_0_ k0, ob5_0_ k1, ob9_0_ k2, ob2_0_ k3, ob8_0_ k4] sz) := by
  refine ofQ (cc := cX11_mostNow) (maxL := 3) (ret := (some .int)) (by decide) rfl ?_
  intro p e s m args below meth c s₁ Q hQ B hml hv
  obtain ⟨rfl, hsz, hP, hK, hD0⟩ := hv
  have hG := hK.2
  have hK := hK.1
  have hx := B.exec
  have hb := B.bytes
  have hr := B.returns
  have hts := atoms_spec (ws := wsX11_mostNow) B.pre
  have hown : s.vm.findClass RX11 = some m.cls := by have h_ := findClass_of_methodNamed B.named; exact h_
  have hlocks := B.notSynchronized
  subst hsz
  have hD := hD0.self (sz := s.heap.size)
  generalize hAe : va_A [ob11_0_ xo xk xn xc xh xt xw xm xp pf ph tr fi, ob3_0_ xn vp vn n1 n2 n3 n4 n5, ai_ cy n1 40 fk, ai_ cy n2 40 fs, ai_ cy n3 40 fe, ai_ cy n4 40 fw, ai_ cy n5 40 fp, ob0_0_ xc xn xk clo cro c4 c5 c6 c7 c8, aq_ cy 6 clo 12 (gf_ rl), ai_ cy (rl 0) 12 (Ml 0), ai_ cy (rl 1) 12 (Ml 1), ai_ cy (rl 2) 12 (Ml 2), ai_ cy (rl 3) 12 (Ml 3), ai_ cy (rl 4) 12 (Ml 4), ai_ cy (rl 5) 12 (Ml 5), ai_ cy (rl 6) 12 (Ml 6), ai_ cy (rl 7) 12 (Ml 7), ai_ cy (rl 8) 12 (Ml 8), ai_ cy (rl 9) 12 (Ml 9), ai_ cy (rl 10) 12 (Ml 10), ai_ cy (rl 11) 12 (Ml 11), aq_ cy 6 cro 12 (gf_ rr), ai_ cy (rr 0) 12 (Mr 0), ai_ cy (rr 1) 12 (Mr 1), ai_ cy (rr 2) 12 (Mr 2), ai_ cy (rr 3) 12 (Mr 3), ai_ cy (rr 4) 12 (Mr 4), ai_ cy (rr 5) 12 (Mr 5), ai_ cy (rr 6) 12 (Mr 6), ai_ cy (rr 7) 12 (Mr 7), ai_ cy (rr 8) 12 (Mr 8), ai_ cy (rr 9) 12 (Mr 9), ai_ cy (rr 10) 12 (Mr 10), ai_ cy (rr 11) 12 (Mr 11), ai_ cy c4 40 f4, ai_ cy c5 40 f5, ai_ cy c6 40 f6, ai_ cy c7 12 f7, ai_ cy c8 12 f8, aq_ cy 3 xk 5 (kf_ k0 k1 k2 k3 k4), ob6_0_ k0, ob5_0_ k1, ob9_0_ k2, ob2_0_ k3, ob8_0_ k4] s.heap.size = A at hD hQ
  have hA : ∀ q : Nat, s.heap.size ≤ q → A q := fun q h => by rw [← hAe]; exact Or.inr h
  have hS : va_S A s.heap s.heap [] := va_S.rf
  have hl := lv_entry ([.ref xo, .int a1, .int a2]) (n := 3) (Nat.le_of_ble_eq_true rfl)
  rw [lg_entry_eq]
  generalize (lg_sl ([.ref xo, .int a1, .int a2]) ++ List.replicate (3 - (lg_sl ([.ref xo, .int a1, .int a2])).length) Slot.unset).toArray = ls at hl ⊢
  have hl : lv_has ls 3 [(0, .ref xo), (1, .int a1), (2, .int a2)] := hl
  have zm9 : ((-9) : Int32).toInt = -9 := by decide
  refine lv_aload_n hx hb dB_36_3_34.1.1.1 rfl (lv_at hl 0 rfl) ?_
  refine va_get (ci := 11) (v := .ref xc) (C := RX11) (T := TX11) (N := 12) hx hb hts (fun _ h => List.mem_cons_of_mem _ (List.mem_append_left _ (List.mem_append_left _ (List.mem_append_right _ h)))) hown hK.1 hP 0 rfl rfl 2 (by decide) (hts (.fieldLink RX11 40 "CutAtlas" "current" "LCutAtlas$Current;") (List.mem_of_getElem? (i := 1) rfl)) (fun _ h9 => h9) rfl dB_36_3_34.1.1.2 ?_
  refine lv_bipush (v := (-9)) hx hb dB_36_3_34.1.2.1 (by decide) ?_
  refine ct_S hP hD hS hA [ob0_0_ xc xn xk clo cro c4 c5 c6 c7 c8, ob3_0_ xn vp vn n1 n2 n3 n4 n5, ai_ cy n1 40 fk, ai_ cy n2 40 fs, ai_ cy n3 40 fe, ai_ cy n4 40 fw, aq_ cy 6 clo 12 (gf_ rl), ai_ cy (rl 0) 12 (Ml 0), ai_ cy (rl 1) 12 (Ml 1), ai_ cy (rl 2) 12 (Ml 2), ai_ cy (rl 3) 12 (Ml 3), ai_ cy (rl 4) 12 (Ml 4), ai_ cy (rl 5) 12 (Ml 5), ai_ cy (rl 6) 12 (Ml 6), ai_ cy (rl 7) 12 (Ml 7), ai_ cy (rl 8) 12 (Ml 8), ai_ cy (rl 9) 12 (Ml 9), ai_ cy (rl 10) 12 (Ml 10), ai_ cy (rl 11) 12 (Ml 11), ai_ cy c5 40 f5, ai_ cy c6 40 f6, aq_ cy 3 xk 5 (kf_ k0 k1 k2 k3 k4), ob6_0_ k0, ob5_0_ k1, ob9_0_ k2, ob2_0_ k3, ob8_0_ k4] [7, 1, 2, 3, 4, 5, 8, 9, 10, 11, 12, 13, 14, 15, 16, 17, 18, 19, 20, 35, 36, 39, 40, 41, 42, 43, 44] (by decide +kernel) rfl (fun hPc hDw hFc hC_ => ?_)
  refine va_callv (va_runV (As := [.int (-9)]) (rest := []) ⟨hx, hb, hml, hown, hts⟩ (c_X0_load l D cy s.heap.size xc xk clo cro c4 c5 c6 c7 c8 xn n1 n2 n3 n4 n5 vp vn fk fs fe fw rl Ml f5 f6 k0 k1 k2 k3 k4 ((-9) : Int32) (by first | with_reducible assumption | omega | assumption) (by first | with_reducible assumption | omega | assumption) (by first | with_reducible assumption | assumption | omega) (by first | with_reducible assumption | assumption | omega)) (cwV 1 hts gX11_mostNow_X0_load rfl rfl rfl ⟨rfl, hd_X0_load⟩ ⟨Nat.le_of_ble_eq_true rfl, Nat.le_of_ble_eq_true rfl⟩) ⟨bl_g, va_recvX hK.1 hP (ci := 0) (q0 := 7) rfl rfl, fun U hU hW => ⟨rfl, by rw [hU], by rw [hU]; exact hPc, ⟨kk_mv hW hK, arrOfT_moved hW.alike hG⟩, hDw⟩⟩ rfl rfl hl.1 rfl (lv_room (Nat.le_of_ble_eq_true rfl)) dB_36_3_34.1.2.2.1 ⟨Nat.le_of_ble_eq_true rfl, Nat.le_of_ble_eq_true rfl⟩) hS (fun q _ h => hFc q h) hFc (fun u t H locs ht hvm hw hB hz1 hk1 hS => ?_)
  obtain ⟨eMl_2, e5_3, e6_4, hP1, hD1⟩ := hB
  rw [ht] at hP1
  obtain ⟨hP, hD⟩ := va_join (wr := [ob11_0_ xo xk xn xc xh xt xw xm xp pf ph tr fi, ai_ cy n5 40 fp, aq_ cy 6 cro 12 (gf_ rr), ai_ cy (rr 0) 12 (Mr 0), ai_ cy (rr 1) 12 (Mr 1), ai_ cy (rr 2) 12 (Mr 2), ai_ cy (rr 3) 12 (Mr 3), ai_ cy (rr 4) 12 (Mr 4), ai_ cy (rr 5) 12 (Mr 5), ai_ cy (rr 6) 12 (Mr 6), ai_ cy (rr 7) 12 (Mr 7), ai_ cy (rr 8) 12 (Mr 8), ai_ cy (rr 9) 12 (Mr 9), ai_ cy (rr 10) 12 (Mr 10), ai_ cy (rr 11) 12 (Mr 11), ai_ cy c4 40 f4, ai_ cy c7 12 f7, ai_ cy c8 12 f8]) (w1 := [ob0_0_ xc xn xk clo cro c4 c5 c6 c7 c8, ob3_0_ xn vp vn n1 n2 n3 n4 n5, ai_ cy n1 40 fk, ai_ cy n2 40 fs, ai_ cy n3 40 fe, ai_ cy n4 40 fw, aq_ cy 6 clo 12 (gf_ rl), ai_ cy (rl 0) 12 (eMl_2 0), ai_ cy (rl 1) 12 (eMl_2 1), ai_ cy (rl 2) 12 (eMl_2 2), ai_ cy (rl 3) 12 (eMl_2 3), ai_ cy (rl 4) 12 (eMl_2 4), ai_ cy (rl 5) 12 (eMl_2 5), ai_ cy (rl 6) 12 (eMl_2 6), ai_ cy (rl 7) 12 (eMl_2 7), ai_ cy (rl 8) 12 (eMl_2 8), ai_ cy (rl 9) 12 (eMl_2 9), ai_ cy (rl 10) 12 (eMl_2 10), ai_ cy (rl 11) 12 (eMl_2 11), ai_ cy c5 40 e5_3, ai_ cy c6 40 e6_4, aq_ cy 3 xk 5 (kf_ k0 k1 k2 k3 k4), ob6_0_ k0, ob5_0_ k1, ob9_0_ k2, ob2_0_ k3, ob8_0_ k4]) hP hD [7, 1, 2, 3, 4, 5, 8, 9, 10, 11, 12, 13, 14, 15, 16, 17, 18, 19, 20, 35, 36, 39, 40, 41, 42, 43, 44] [0, 6, 21, 22, 23, 24, 25, 26, 27, 28, 29, 30, 31, 32, 33, 34, 37, 38] hC_ rfl (by decide +kernel) (by decide +kernel) hk1 hFc hP1 hD1
  refine pd_S hP hD [ob11_0_ xo xk xn xc xh xt xw xm xp pf ph tr fi, ob3_0_ xn vp vn n1 n2 n3 n4 n5, ai_ cy n1 40 fk, ai_ cy n2 40 fs, ai_ cy n3 40 fe, ai_ cy n4 40 fw, ai_ cy n5 40 fp, ob0_0_ xc xn xk clo cro c4 c5 c6 c7 c8, aq_ cy 6 clo 12 (gf_ rl), ai_ cy (rl 0) 12 (eMl_2 0), ai_ cy (rl 1) 12 (eMl_2 1), ai_ cy (rl 2) 12 (eMl_2 2), ai_ cy (rl 3) 12 (eMl_2 3), ai_ cy (rl 4) 12 (eMl_2 4), ai_ cy (rl 5) 12 (eMl_2 5), ai_ cy (rl 6) 12 (eMl_2 6), ai_ cy (rl 7) 12 (eMl_2 7), ai_ cy (rl 8) 12 (eMl_2 8), ai_ cy (rl 9) 12 (eMl_2 9), ai_ cy (rl 10) 12 (eMl_2 10), ai_ cy (rl 11) 12 (eMl_2 11), aq_ cy 6 cro 12 (gf_ rr), ai_ cy (rr 0) 12 (Mr 0), ai_ cy (rr 1) 12 (Mr 1), ai_ cy (rr 2) 12 (Mr 2), ai_ cy (rr 3) 12 (Mr 3), ai_ cy (rr 4) 12 (Mr 4), ai_ cy (rr 5) 12 (Mr 5), ai_ cy (rr 6) 12 (Mr 6), ai_ cy (rr 7) 12 (Mr 7), ai_ cy (rr 8) 12 (Mr 8), ai_ cy (rr 9) 12 (Mr 9), ai_ cy (rr 10) 12 (Mr 10), ai_ cy (rr 11) 12 (Mr 11), ai_ cy c4 40 f4, ai_ cy c5 40 e5_3, ai_ cy c6 40 e6_4, ai_ cy c7 12 f7, ai_ cy c8 12 f8, aq_ cy 3 xk 5 (kf_ k0 k1 k2 k3 k4), ob6_0_ k0, ob5_0_ k1, ob9_0_ k2, ob2_0_ k3, ob8_0_ k4] [0, 19, 20, 21, 22, 23, 1, 18, 24, 25, 26, 27, 28, 29, 30, 31, 32, 33, 34, 35, 36, 2, 3, 4, 5, 6, 7, 8, 9, 10, 11, 12, 13, 14, 15, 37, 38, 16, 17, 39, 40, 41, 42, 43, 44] (by decide +kernel) rfl (fun hP hD => ?_)
  refine lv_aload_n hx hb dB_36_3_34.1.2.2.2 rfl (lv_at hl 0 rfl) ?_
  refine va_get (ci := 11) (v := .ref xc) (C := RX11) (T := TX11) (N := 12) hx hb hts (fun _ h => List.mem_cons_of_mem _ (List.mem_append_left _ (List.mem_append_left _ (List.mem_append_right _ h)))) hown hK.1 hP 0 rfl rfl 2 (by decide) (hts (.fieldLink RX11 40 "CutAtlas" "current" "LCutAtlas$Current;") (List.mem_of_getElem? (i := 1) rfl)) (fun _ h9 => h9) rfl dB_36_3_34.2.1.1 ?_
  refine lv_iload_n hx hb dB_36_3_34.2.1.2 rfl (lv_at hl 1 rfl) ?_
  refine lv_iload_n hx hb dB_36_3_34.2.2.1 rfl (lv_at hl 2 rfl) ?_
  refine ct_S hP hD hS hA [ob0_0_ xc xn xk clo cro c4 c5 c6 c7 c8, ob3_0_ xn vp vn n1 n2 n3 n4 n5, ai_ cy n2 40 fs, ai_ cy n3 40 fe, aq_ cy 6 clo 12 (gf_ rl), ai_ cy (rl 0) 12 (eMl_2 0), ai_ cy (rl 1) 12 (eMl_2 1), ai_ cy (rl 2) 12 (eMl_2 2), ai_ cy (rl 3) 12 (eMl_2 3), ai_ cy (rl 4) 12 (eMl_2 4), ai_ cy (rl 5) 12 (eMl_2 5), ai_ cy (rl 6) 12 (eMl_2 6), ai_ cy (rl 7) 12 (eMl_2 7), ai_ cy (rl 8) 12 (eMl_2 8), ai_ cy (rl 9) 12 (eMl_2 9), ai_ cy (rl 10) 12 (eMl_2 10), ai_ cy (rl 11) 12 (eMl_2 11), aq_ cy 6 cro 12 (gf_ rr), ai_ cy (rr 0) 12 (Mr 0), ai_ cy (rr 1) 12 (Mr 1), ai_ cy (rr 2) 12 (Mr 2), ai_ cy (rr 3) 12 (Mr 3), ai_ cy (rr 4) 12 (Mr 4), ai_ cy (rr 5) 12 (Mr 5), ai_ cy (rr 6) 12 (Mr 6), ai_ cy (rr 7) 12 (Mr 7), ai_ cy (rr 8) 12 (Mr 8), ai_ cy (rr 9) 12 (Mr 9), ai_ cy (rr 10) 12 (Mr 10), ai_ cy (rr 11) 12 (Mr 11), ai_ cy c4 40 f4, ai_ cy c5 40 e5_3, ai_ cy c6 40 e6_4, ai_ cy c7 12 f7, ai_ cy c8 12 f8] [7, 1, 3, 4, 8, 9, 10, 11, 12, 13, 14, 15, 16, 17, 18, 19, 20, 21, 22, 23, 24, 25, 26, 27, 28, 29, 30, 31, 32, 33, 34, 35, 36, 37, 38] (by decide +kernel) rfl (fun hPc hDw hFc hC_ => ?_)
  refine va_calli (va_runV (As := [.int a1, .int a2]) (rest := []) ⟨hx, hb, hml, hown, hts⟩ (c_X0_fill l D cy H.size xc xk clo cro c4 c5 c6 c7 c8 xn n1 n2 n3 n4 n5 vp vn fs fe rl eMl_2 rr Mr f4 e5_3 e6_4 f7 f8 a1 a2 (by first | with_reducible assumption | omega | assumption) (by first | with_reducible assumption | omega | assumption) (by first | with_reducible assumption | omega | assumption) (by first | with_reducible assumption | omega | assumption) (by first | with_reducible assumption | assumption | omega) (by first | with_reducible assumption | assumption | omega)) (cwV 2 hts gX11_mostNow_X0_fill rfl rfl rfl ⟨rfl, hd_X0_fill⟩ ⟨Nat.le_of_ble_eq_true rfl, Nat.le_of_ble_eq_true rfl⟩) ⟨bl_g, va_recvX hK.1 hP (ci := 0) (q0 := 7) rfl rfl, fun U hU hW => ⟨rfl, by rw [hU], by rw [hU]; exact hPc, ⟨kk_mv hW hK, arrOfT_moved hW.alike hG⟩, hDw⟩⟩ rfl rfl hl.1 rfl (lv_room (Nat.le_of_ble_eq_true rfl)) dB_36_3_34.2.2.2.1 ⟨Nat.le_of_ble_eq_true rfl, Nat.le_of_ble_eq_true rfl⟩) hS (fun q _ h => hFc q h) hFc (fun r_5 u t H locs ht hvm hw hB hz1 hk1 hS => ?_)
  obtain ⟨eMr_6, e4_7, e7_8, e8_9, g_10, g_11, hP1, hD1⟩ := hB
  rw [ht] at hP1
  obtain ⟨hP, hD⟩ := va_join (wr := [ob11_0_ xo xk xn xc xh xt xw xm xp pf ph tr fi, ai_ cy n1 40 fk, ai_ cy n4 40 fw, ai_ cy n5 40 fp, aq_ cy 3 xk 5 (kf_ k0 k1 k2 k3 k4), ob6_0_ k0, ob5_0_ k1, ob9_0_ k2, ob2_0_ k3, ob8_0_ k4]) (w1 := [ob0_0_ xc xn xk clo cro c4 c5 c6 c7 c8, ob3_0_ xn vp vn n1 n2 n3 n4 n5, ai_ cy n2 40 fs, ai_ cy n3 40 fe, aq_ cy 6 clo 12 (gf_ rl), ai_ cy (rl 0) 12 (eMl_2 0), ai_ cy (rl 1) 12 (eMl_2 1), ai_ cy (rl 2) 12 (eMl_2 2), ai_ cy (rl 3) 12 (eMl_2 3), ai_ cy (rl 4) 12 (eMl_2 4), ai_ cy (rl 5) 12 (eMl_2 5), ai_ cy (rl 6) 12 (eMl_2 6), ai_ cy (rl 7) 12 (eMl_2 7), ai_ cy (rl 8) 12 (eMl_2 8), ai_ cy (rl 9) 12 (eMl_2 9), ai_ cy (rl 10) 12 (eMl_2 10), ai_ cy (rl 11) 12 (eMl_2 11), aq_ cy 6 cro 12 (gf_ rr), ai_ cy (rr 0) 12 (eMr_6 0), ai_ cy (rr 1) 12 (eMr_6 1), ai_ cy (rr 2) 12 (eMr_6 2), ai_ cy (rr 3) 12 (eMr_6 3), ai_ cy (rr 4) 12 (eMr_6 4), ai_ cy (rr 5) 12 (eMr_6 5), ai_ cy (rr 6) 12 (eMr_6 6), ai_ cy (rr 7) 12 (eMr_6 7), ai_ cy (rr 8) 12 (eMr_6 8), ai_ cy (rr 9) 12 (eMr_6 9), ai_ cy (rr 10) 12 (eMr_6 10), ai_ cy (rr 11) 12 (eMr_6 11), ai_ cy c4 40 e4_7, ai_ cy c5 40 e5_3, ai_ cy c6 40 e6_4, ai_ cy c7 12 e7_8, ai_ cy c8 12 e8_9]) hP hD [7, 1, 3, 4, 8, 9, 10, 11, 12, 13, 14, 15, 16, 17, 18, 19, 20, 21, 22, 23, 24, 25, 26, 27, 28, 29, 30, 31, 32, 33, 34, 35, 36, 37, 38] [0, 2, 5, 6, 39, 40, 41, 42, 43, 44] hC_ rfl (by decide) (by decide) hk1 hFc hP1 hD1
  refine pd_S hP hD [ob11_0_ xo xk xn xc xh xt xw xm xp pf ph tr fi, ob3_0_ xn vp vn n1 n2 n3 n4 n5, ai_ cy n1 40 fk, ai_ cy n2 40 fs, ai_ cy n3 40 fe, ai_ cy n4 40 fw, ai_ cy n5 40 fp, ob0_0_ xc xn xk clo cro c4 c5 c6 c7 c8, aq_ cy 6 clo 12 (gf_ rl), ai_ cy (rl 0) 12 (eMl_2 0), ai_ cy (rl 1) 12 (eMl_2 1), ai_ cy (rl 2) 12 (eMl_2 2), ai_ cy (rl 3) 12 (eMl_2 3), ai_ cy (rl 4) 12 (eMl_2 4), ai_ cy (rl 5) 12 (eMl_2 5), ai_ cy (rl 6) 12 (eMl_2 6), ai_ cy (rl 7) 12 (eMl_2 7), ai_ cy (rl 8) 12 (eMl_2 8), ai_ cy (rl 9) 12 (eMl_2 9), ai_ cy (rl 10) 12 (eMl_2 10), ai_ cy (rl 11) 12 (eMl_2 11), aq_ cy 6 cro 12 (gf_ rr), ai_ cy (rr 0) 12 (eMr_6 0), ai_ cy (rr 1) 12 (eMr_6 1), ai_ cy (rr 2) 12 (eMr_6 2), ai_ cy (rr 3) 12 (eMr_6 3), ai_ cy (rr 4) 12 (eMr_6 4), ai_ cy (rr 5) 12 (eMr_6 5), ai_ cy (rr 6) 12 (eMr_6 6), ai_ cy (rr 7) 12 (eMr_6 7), ai_ cy (rr 8) 12 (eMr_6 8), ai_ cy (rr 9) 12 (eMr_6 9), ai_ cy (rr 10) 12 (eMr_6 10), ai_ cy (rr 11) 12 (eMr_6 11), ai_ cy c4 40 e4_7, ai_ cy c5 40 e5_3, ai_ cy c6 40 e6_4, ai_ cy c7 12 e7_8, ai_ cy c8 12 e8_9, aq_ cy 3 xk 5 (kf_ k0 k1 k2 k3 k4), ob6_0_ k0, ob5_0_ k1, ob9_0_ k2, ob2_0_ k3, ob8_0_ k4] [0, 11, 1, 12, 13, 2, 3, 10, 14, 15, 16, 17, 18, 19, 20, 21, 22, 23, 24, 25, 26, 27, 28, 29, 30, 31, 32, 33, 34, 35, 36, 37, 38, 39, 40, 41, 42, 43, 44, 4, 5, 6, 7, 8, 9] (by decide +kernel) rfl (fun hP hD => ?_)
  rw [hQ]
  exact W.iret (v := r_5) hx hb hr (fun t ht hW => ⟨⟨r_5, (), rfl, trivial, eMl_2, eMr_6, e4_7, e5_3, e6_4, e7_8, e8_9, (by first | with_reducible assumption | assumption | exact rng_zero (by omega) (by omega) | omega), (by first | with_reducible assumption | assumption | exact rng_zero (by omega) (by omega) | omega), by rw [ht]; exact hP, hD⟩, hS.F ht⟩) hS.2.2 dB_36_3_34.2.2.2.2

set_option maxHeartbeats 4000000 in
set_option maxRecDepth 100000 in
theorem c_X11_most (l : Launch) (D : va_G) (cy : Nat → ClassId) (sz : Nat) (xo : Nat) (xk : Nat) (xn : Nat) (xc : Nat) (xh : Nat) (xt : Nat) (xw : Nat) (xm : Nat) (xp : Nat) (pf : Int32) (ph : Int32) (tr : Int64) (fi : Int32) (n1 : Nat) (n2 : Nat) (n3 : Nat) (n4 : Nat) (n5 : Nat) (vp : Int32) (vn : Int32) (clo : Nat) (cro : Nat) (c4 : Nat) (c5 : Nat) (c6 : Nat) (c7 : Nat) (c8 : Nat) (fk : Nat → Int32) (fs : Nat → Int32) (fe : Nat → Int32) (fw : Nat → Int32) (fp : Nat → Int32) (rl : Nat → Nat) (Ml : Nat → Nat → Int32) (rr : Nat → Nat) (Mr : Nat → Nat → Int32) (f4 : Nat → Int32) (f5 : Nat → Int32) (f6 : Nat → Int32) (f7 : Nat → Int32) (f8 : Nat → Int32) (k0 : Nat) (k1 : Nat) (k2 : Nat) (k3 : Nat) (k4 : Nat) (a1 : Int32) (a2 : Int32) (hvp : 0 ≤ vp.toInt ∧ vp.toInt ≤ 12) (hvn : 0 ≤ vn.toInt ∧ vn.toInt ≤ 40) (hpr : prng fs fe 40) (r_f7 : rng f7 12 (0) (11)) (r_f8 : rng f8 12 (0) (11)) (r_fk : rng fk 40 (0) (4)) : Met l yX11_most wsX11_most ({ frames := 5, cells := 0, slots := 0, locals := 110 }) (va_Pc [.ref xo, .int a1, .int a2] (fun U => U.heap.size = sz ∧ va_P D vwCl [ob11_0_ xo xk xn xc xh xt xw xm xp pf ph tr fi, ob3_0_ xn vp vn n1 n2 n3 n4 n5, ai_ cy n1 40 fk, ai_ cy n2 40 fs, ai_ cy n3 40 fe, ai_ cy n4 40 fw, ai_ cy n5 40 fp, ob0_0_ xc xn xk clo cro c4 c5 c6 c7 c8, aq_ cy 6 clo 12 (gf_ rl), ai_ cy (rl 0) 12 (Ml 0), ai_ cy (rl 1) 12 (Ml 1), ai_ cy (rl 2) 12 (Ml 2), ai_ cy (rl 3) 12 (Ml 3), ai_ cy (rl 4) 12 (Ml 4), ai_ cy (rl 5) 12 (Ml 5), ai_ cy (rl 6) 12 (Ml 6), ai_ cy (rl 7) 12 (Ml 7), ai_ cy (rl 8) 12 (Ml 8), ai_ cy (rl 9) 12 (Ml 9), ai_ cy (rl 10) 12 (Ml 10), ai_ cy (rl 11) 12 (Ml 11), aq_ cy 6 cro 12 (gf_ rr), ai_ cy (rr 0) 12 (Mr 0), ai_ cy (rr 1) 12 (Mr 1), ai_ cy (rr 2) 12 (Mr 2), ai_ cy (rr 3) 12 (Mr 3), ai_ cy (rr 4) 12 (Mr 4), ai_ cy (rr 5) 12 (Mr 5), ai_ cy (rr 6) 12 (Mr 6), ai_ cy (rr 7) 12 (Mr 7), ai_ cy (rr 8) 12 (Mr 8), ai_ cy (rr 9) 12 (Mr 9), ai_ cy (rr 10) 12 (Mr 10), ai_ cy (rr 11) 12 (Mr 11), ai_ cy c4 40 f4, ai_ cy c5 40 f5, ai_ cy c6 40 f6, ai_ cy c7 12 f7, ai_ cy c8 12 f8, aq_ cy 3 xk 5 (kf_ k0 k1 k2 k3 k4), ob6_0_ k0, ob5_0_ k1, ob9_0_ k2, ob2_0_ k3, ob8_0_ k4] U.heap ∧ kg_ D cy U ∧ va_D (fun _ => True) [ob11_0_ xo xk xn xc xh xt xw xm xp pf ph tr fi, ob3_0_ xn vp vn n1 n2 n3 n4 n5, ai_ cy n1 40 fk, ai_ cy n2 40 fs, ai_ cy n3 40 fe, ai_ cy n4 40 fw, ai_ cy n5 40 fp, ob0_0_ xc xn xk clo cro c4 c5 c6 c7 c8, aq_ cy 6 clo 12 (gf_ rl), ai_ cy (rl 0) 12 (Ml 0), ai_ cy (rl 1) 12 (Ml 1), ai_ cy (rl 2) 12 (Ml 2), ai_ cy (rl 3) 12 (Ml 3), ai_ cy (rl 4) 12 (Ml 4), ai_ cy (rl 5) 12 (Ml 5), ai_ cy (rl 6) 12 (Ml 6), ai_ cy (rl 7) 12 (Ml 7), ai_ cy (rl 8) 12 (Ml 8), ai_ cy (rl 9) 12 (Ml 9), ai_ cy (rl 10) 12 (Ml 10), ai_ cy (rl 11) 12 (Ml 11), aq_ cy 6 cro 12 (gf_ rr), ai_ cy (rr 0) 12 (Mr 0), ai_ cy (rr 1) 12 (Mr 1), ai_ cy (rr 2) 12 (Mr 2), ai_ cy (rr 3) 12 (Mr 3), ai_ cy (rr 4) 12 (Mr 4), ai_ cy (rr 5) 12 (Mr 5), ai_ cy (rr 6) 12 (Mr 6), ai_ cy (rr 7) 12 (Mr 7), ai_ cy (rr 8) 12 (Mr 8), ai_ cy (rr 9) 12 (Mr 9), ai_ cy (rr 10) 12 (Mr 10), ai_ cy (rr 11) 12 (Mr 11), ai_ cy c4 40 f4, ai_ cy c5 40 f5, ai_ cy c6 40 f6, ai_ cy c7 12 f7, ai_ cy c8 12 f8, aq_ cy 3 xk 5 (kf_ k0 k1 k2 k3 k4), ob6_0_ k0, ob5_0_ k1, ob9_0_ k2, ob2_0_ k3, ob8_0_ k4])) (va_Qi (fun (r : Int32) (_ : Unit) => True) (fun (_ : Unit) (t : State) => ∃ (eMl : Nat → Nat → Int32), ∃ (eMr : Nat → Nat → Int32), ∃ (e4 : Nat → Int32), ∃ (e5 : Nat → Int32), ∃ (e6 : Nat → Int32), ∃ (e7 : Nat → Int32), ∃ (e8 : Nat → Int32), (rng e7 12 (0) (11)) ∧ (rng e8 12 (0) (11)) ∧ va_P D vwCl [ob11_0_ xo xk xn xc xh xt xw xm xp pf ph tr fi, ob3_0_ xn vp vn n1 n2 n3 n4 n5, ai_ cy n1 40 fk, ai_ cy n2 40 fs, ai_ cy n3 40 fe, ai_ cy n4 40 fw, ai_ cy n5 40 fp, ob0_0_ xc xn xk clo cro c4 c5 c6 c7 c8, aq_ cy 6 clo 12 (gf_ rl), ai_ cy (rl 0) 12 (eMl 0), ai_ cy (rl 1) 12 (eMl 1), ai_ cy (rl 2) 12 (eMl 2), ai_ cy (rl 3) 12 (eMl 3), ai_ cy (rl 4) 12 (eMl 4), ai_ cy (rl 5) 12 (eMl 5), ai_ cy (rl 6) 12 (eMl 6), ai_ cy (rl 7) 12 (eMl 7), ai_ cy (rl 8) 12 (eMl 8), ai_ cy (rl 9) 12 (eMl 9), ai_ cy (rl 10) 12 (eMl 10), ai_ cy (rl 11) 12 (eMl 11), aq_ cy 6 cro 12 (gf_ rr), ai_ cy (rr 0) 12 (eMr 0), ai_ cy (rr 1) 12 (eMr 1), ai_ cy (rr 2) 12 (eMr 2), ai_ cy (rr 3) 12 (eMr 3), ai_ cy (rr 4) 12 (eMr 4), ai_ cy (rr 5) 12 (eMr 5), ai_ cy (rr 6) 12 (eMr 6), ai_ cy (rr 7) 12 (eMr 7), ai_ cy (rr 8) 12 (eMr 8), ai_ cy (rr 9) 12 (eMr 9), ai_ cy (rr 10) 12 (eMr 10), ai_ cy (rr 11) 12 (eMr 11), ai_ cy c4 40 e4, ai_ cy c5 40 e5, ai_ cy c6 40 e6, ai_ cy c7 12 e7, ai_ cy c8 12 e8, aq_ cy 3 xk 5 (kf_ k0 k1 k2 k3 k4), ob6_0_ k0, ob5_0_ k1, ob9_0_ k2, ob2_0_ k3, ob8_0_ k4] t.heap ∧ va_D (va_A [ob11_0_ xo xk xn xc xh xt xw xm xp pf ph tr fi, ob3_0_ xn vp vn n1 n2 n3 n4 n5, ai_ cy n1 40 fk, ai_ cy n2 40 fs, ai_ cy n3 40 fe, ai_ cy n4 40 fw, ai_ cy n5 40 fp, ob0_0_ xc xn xk clo cro c4 c5 c6 c7 c8, aq_ cy 6 clo 12 (gf_ rl), ai_ cy (rl 0) 12 (Ml 0), ai_ cy (rl 1) 12 (Ml 1), ai_ cy (rl 2) 12 (Ml 2), ai_ cy (rl 3) 12 (Ml 3), ai_ cy (rl 4) 12 (Ml 4), ai_ cy (rl 5) 12 (Ml 5), ai_ cy (rl 6) 12 (Ml 6), ai_ cy (rl 7) 12 (Ml 7), ai_ cy (rl 8) 12 (Ml 8), ai_ cy (rl 9) 12 (Ml 9), ai_ cy (rl 10) 12 (Ml 10), ai_ cy (rl 11) 12 (Ml 11), aq_ cy 6 cro 12 (gf_ rr), ai_ cy (rr 0) 12 (Mr 0), ai_ cy (rr 1) 12 (Mr 1), ai_ cy (rr 2) 12 (Mr 2), ai_ cy (rr 3) 12 (Mr 3), ai_ cy (rr 4) 12 (Mr 4), ai_ cy (rr 5) 12 (Mr 5), ai_ cy (rr 6) 12 (Mr 6), ai_ cy (rr 7) 12 (Mr 7), ai_ cy (rr 8) 12 (Mr 8), ai_ cy (rr 9) 12 (Mr 9), ai_ cy (rr 10) 12 (Mr 10), ai_ cy (rr 11) 12 (Mr 11), ai_ cy c4 40 f4, ai_ cy c5 40 f5, ai_ cy c6 40 f6, ai_ cy c7 12 f7, ai_ cy c8 12 f8, aq_ cy 3 xk 5 (kf_ k0 k1 k2 k3 k4), ob6_0_ k0, ob5_0_ k1, ob9_0_ k2, ob2_0_ k3, ob8_0_ k4] sz) [ob11_0_ xo xk xn xc xh xt xw xm xp pf ph tr fi, ob3_0_ xn vp vn n1 n2 n3 n4 n5, ai_ cy n1 40 fk, ai_ cy n2 40 fs, ai_ cy n3 40 fe, ai_ cy n4 40 fw, ai_ cy n5 40 fp, ob0_0_ xc xn xk clo cro c4 c5 c6 c7 c8, aq_ cy 6 clo 12 (gf_ rl), ai_ cy (rl 0) 12 (eMl 0), ai_ cy (rl 1) 12 (eMl 1), ai_ cy (rl 2) 12 (eMl 2), ai_ cy (rl 3) 12 (eMl 3), ai_ cy (rl 4) 12 (eMl 4), ai_ cy (rl 5) 12 (eMl 5), ai_ cy (rl 6) 12 (eMl 6), ai_ cy (rl 7) 12 (eMl 7), ai_ cy (rl 8) 12 (eMl 8), ai_ cy (rl 9) 12 (eMl 9), ai_ cy (rl 10) 12 (eMl 10), ai_ cy (rl 11) 12 (eMl 11), aq_ cy 6 cro 12 (gf_ rr), ai_ cy (rr 0) 12 (eMr 0), ai_ cy (rr 1) 12 (eMr 1), ai_ cy (rr 2) 12 (eMr 2), ai_ cy (rr 3) 12 (eMr 3), ai_ cy (rr 4) 12 (eMr 4), ai_ cy (rr 5) 12 (eMr 5), ai_ cy (rr 6) 12 (eMr 6), ai_ cy (rr 7) 12 (eMr 7), ai_ cy (rr 8) 12 (eMr 8), ai_ cy (rr 9) 12 (eMr 9), ai_ cy (rr 10) 12 (eMr 10), ai_ cy (rr 11) 12 (eMr 11), ai_ cy c4 40 e4, ai_ cy c5 40 e5, ai_ cy c6 40 e6, ai_ cy c7 12 e7, ai_ cy c8 12 e8, aq_ cy 3 xk 5 (kf_ k0 k1 k2 k3 k4), ob6_0_ k0, ob5_0_ k1, ob9_0_ k2, ob2_0_ k3, ob8_0_ k4]) (va_A [ob11_0_ xo xk xn xc xh xt xw xm xp pf ph tr fi, ob3_0_ xn vp vn n1 n2 n3 n4 n5, ai_ cy n1 40 fk, ai_ cy n2 40 fs, ai_ cy n3 40 fe, ai_ cy n4 40 fw, ai_ cy n5 40 fp, ob0_0_ xc xn xk clo cro c4 c5 c6 c7 c8, aq_ cy 6 clo 12 (gf_ rl), ai_ cy (rl 0) 12 (Ml 0), ai_ cy (rl 1) 12 (Ml 1), ai_ cy (rl 2) 12 (Ml 2), ai_ cy (rl 3) 12 (Ml 3), ai_ cy (rl 4) 12 (Ml 4), ai_ cy (rl 5) 12 (Ml 5), ai_ cy (rl 6) 12 (Ml 6), ai_ cy (rl 7) 12 (Ml 7), ai_ cy (rl 8) 12 (Ml 8), ai_ cy (rl 9) 12 (Ml 9), ai_ cy (rl 10) 12 (Ml 10), ai_ cy (rl 11) 12 (Ml 11), aq_ cy 6 cro 12 (gf_ rr), ai_ cy (rr 0) 12 (Mr 0), ai_ cy (rr 1) 12 (Mr 1), ai_ cy (rr 2) 12 (Mr 2), ai_ cy (rr 3) 12 (Mr 3), ai_ cy (rr 4) 12 (Mr 4), ai_ cy (rr 5) 12 (Mr 5), ai_ cy (rr 6) 12 (Mr 6), ai_ cy (rr 7) 12 (Mr 7), ai_ cy (rr 8) 12 (Mr 8), ai_ cy (rr 9) 12 (Mr 9), ai_ cy (rr 10) 12 (Mr 10), ai_ cy (rr 11) 12 (Mr 11), ai_ cy c4 40 f4, ai_ cy c5 40 f5, ai_ cy c6 40 f6, ai_ cy c7 12 f7, ai_ cy c8 12 f8, aq_ cy 3 xk 5 (kf_ k0 k1 k2 k3 k4), ob6_0_ k0, ob5_0_ k1, ob9_0_ k2, ob2_0_ k3, ob8_0_ k4] sz)) 0 0 (va_A [ob11_0_ xo xk xn xc xh xt xw xm xp pf ph tr fi, ob3_0_ xn vp vn n1 n2 n3 n4 n5, ai_ cy n1 40 fk, ai_ cy n2 40 fs, ai_ cy n3 40 fe, ai_ cy n4 40 fw, ai_ cy n5 40 fp, ob0_0_ xc xn xk clo cro c4 c5 c6 c7 c8, aq_ cy 6 clo 12 (gf_ rl), ai_ cy (rl 0) 12 (Ml 0), ai_ cy (rl 1) 12 (Ml 1), ai_ cy (rl 2) 12 (Ml 2), ai_ cy (rl 3) 12 (Ml 3), ai_ cy (rl 4) 12 (Ml 4), ai_ cy (rl 5) 12 (Ml 5), ai_ cy (rl 6) 12 (Ml 6), ai_ cy (rl 7) 12 (Ml 7), ai_ cy (rl 8) 12 (Ml 8), ai_ cy (rl 9) 12 (Ml 9), ai_ cy (rl 10) 12 (Ml 10), ai_ cy (rl 11) 12 (Ml 11), aq_ cy 6 cro 12 (gf_ rr), ai_ cy (rr 0) 12 (Mr 0), ai_ cy (rr 1) 12 (Mr 1), ai_ cy (rr 2) 12 (Mr 2), ai_ cy (rr 3) 12 (Mr 3), ai_ cy (rr 4) 12 (Mr 4), ai_ cy (rr 5) 12 (Mr 5), ai_ cy (rr 6) 12 (Mr 6), ai_ cy (rr 7) 12 (Mr 7), ai_ cy (rr 8) 12 (Mr 8), ai_ cy (rr 9) 12 (Mr 9), ai_ cy (rr 10) 12 (Mr 10), ai_ cy (rr 11) 12 (Mr 11), ai_ cy c4 40 f4, ai_ cy c5 40 f5, ai_ cy c6 40 f6, ai_ cy c7 12 f7, ai_ cy c8 12 f8, aq_ cy 3 xk 5 (kf_ k0 k1 k2 k3 k4), ob6_0_ k0, ob5_0_ k1, ob9_0_ k2, ob2_0_ k3, ob8_0_ k4] sz) := by
  refine ofQ (cc := cX11_most) (maxL := 3) (ret := (some .int)) (by decide) rfl ?_
  intro p e s m args below meth c s₁ Q hQ B hml hv
  obtain ⟨rfl, hsz, hP, hK, hD0⟩ := hv
  have hG := hK.2
  have hK := hK.1
  have hx := B.exec
  have hb := B.bytes
  have hr := B.returns
  have hts := atoms_spec (ws := wsX11_most) B.pre
  have hown : s.vm.findClass RX11 = some m.cls := by have h_ := findClass_of_methodNamed B.named; exact h_
  have hlocks := B.notSynchronized
  subst hsz
  have hD := hD0.self (sz := s.heap.size)
  generalize hAe : va_A [ob11_0_ xo xk xn xc xh xt xw xm xp pf ph tr fi, ob3_0_ xn vp vn n1 n2 n3 n4 n5, ai_ cy n1 40 fk, ai_ cy n2 40 fs, ai_ cy n3 40 fe, ai_ cy n4 40 fw, ai_ cy n5 40 fp, ob0_0_ xc xn xk clo cro c4 c5 c6 c7 c8, aq_ cy 6 clo 12 (gf_ rl), ai_ cy (rl 0) 12 (Ml 0), ai_ cy (rl 1) 12 (Ml 1), ai_ cy (rl 2) 12 (Ml 2), ai_ cy (rl 3) 12 (Ml 3), ai_ cy (rl 4) 12 (Ml 4), ai_ cy (rl 5) 12 (Ml 5), ai_ cy (rl 6) 12 (Ml 6), ai_ cy (rl 7) 12 (Ml 7), ai_ cy (rl 8) 12 (Ml 8), ai_ cy (rl 9) 12 (Ml 9), ai_ cy (rl 10) 12 (Ml 10), ai_ cy (rl 11) 12 (Ml 11), aq_ cy 6 cro 12 (gf_ rr), ai_ cy (rr 0) 12 (Mr 0), ai_ cy (rr 1) 12 (Mr 1), ai_ cy (rr 2) 12 (Mr 2), ai_ cy (rr 3) 12 (Mr 3), ai_ cy (rr 4) 12 (Mr 4), ai_ cy (rr 5) 12 (Mr 5), ai_ cy (rr 6) 12 (Mr 6), ai_ cy (rr 7) 12 (Mr 7), ai_ cy (rr 8) 12 (Mr 8), ai_ cy (rr 9) 12 (Mr 9), ai_ cy (rr 10) 12 (Mr 10), ai_ cy (rr 11) 12 (Mr 11), ai_ cy c4 40 f4, ai_ cy c5 40 f5, ai_ cy c6 40 f6, ai_ cy c7 12 f7, ai_ cy c8 12 f8, aq_ cy 3 xk 5 (kf_ k0 k1 k2 k3 k4), ob6_0_ k0, ob5_0_ k1, ob9_0_ k2, ob2_0_ k3, ob8_0_ k4] s.heap.size = A at hD hQ
  have hA : ∀ q : Nat, s.heap.size ≤ q → A q := fun q h => by rw [← hAe]; exact Or.inr h
  have hS : va_S A s.heap s.heap [] := va_S.rf
  have hl := lv_entry ([.ref xo, .int a1, .int a2]) (n := 3) (Nat.le_of_ble_eq_true rfl)
  rw [lg_entry_eq]
  generalize (lg_sl ([.ref xo, .int a1, .int a2]) ++ List.replicate (3 - (lg_sl ([.ref xo, .int a1, .int a2])).length) Slot.unset).toArray = ls at hl ⊢
  have hl : lv_has ls 3 [(0, .ref xo), (1, .int a1), (2, .int a2)] := hl
  have zm1 : ((-1) : Int32).toInt = -1 := by decide
  refine lv_aload_n hx hb dB_36_2_50.1.1.1 rfl (lv_at hl 0 rfl) ?_
  refine va_get (ci := 11) (v := .ref xn) (C := RX11) (T := TX11) (N := 12) hx hb hts (fun _ h => List.mem_cons_of_mem _ (List.mem_append_left _ (List.mem_append_left _ (List.mem_append_right _ h)))) hown hK.1 hP 0 rfl rfl 1 (by decide) (hts (.fieldLink RX11 31 "CutAtlas" "net" "LCutAtlas$Net;") (List.mem_of_getElem? (i := 1) rfl)) (fun _ h9 => h9) rfl dB_36_2_50.1.1.2.1 ?_
  refine lv_iload_n hx hb dB_36_2_50.1.1.2.2 rfl (lv_at hl 1 rfl) ?_
  refine lv_i2l (v := a1.toInt64) hx hb dB_36_2_50.1.2.1.1 rfl ?_
  have q_5 : (a1.toInt64).toInt = a1.toInt := Int32.toInt_toInt64 a1
  refine lv_iload_n hx hb dB_36_2_50.1.2.1.2 rfl (lv_at hl 2 rfl) ?_
  refine lv_i2l (v := a2.toInt64) hx hb dB_36_2_50.1.2.2.1 rfl ?_
  have q_7 : (a2.toInt64).toInt = a2.toInt := Int32.toInt_toInt64 a2
  refine ct_R hP hD [ob3_0_ xn vp vn n1 n2 n3 n4 n5] [1] (by decide) rfl (fun hPc hDw => ?_)
  have hFc := va_free (wc := []) hD hS hA [] rfl
  refine va_calli (va_runV (As := [.long a1.toInt64, .long a2.toInt64]) (rest := []) ⟨hx, hb, hml, hown, hts⟩ (c_X3_hasPair l D cy s.heap.size xn n1 n2 n3 n4 n5 vp vn a1.toInt64 a2.toInt64) (cwV 2 hts gX11_most_X3_hasPair rfl rfl rfl ⟨rfl, hd_X3_hasPair⟩ ⟨Nat.le_of_ble_eq_true rfl, Nat.le_of_ble_eq_true rfl⟩) ⟨bl_, va_recvX hK.1 hP (ci := 3) (q0 := 1) rfl rfl, fun U hU hW => ⟨rfl, by rw [hU], by rw [hU]; exact hPc, kk_mv hW hK, hDw⟩⟩ rfl rfl hl.1 rfl (lv_room (Nat.le_of_ble_eq_true rfl)) dB_36_2_50.1.2.2.2 ⟨Nat.le_of_ble_eq_true rfl, Nat.le_of_ble_eq_true rfl⟩) hS (fun q _ h => hFc q h) hFc (fun r_1 u t H locs ht hvm hw hB hz1 hk1 hS => ?_)
  have hP : va_P D vwCl _ H := ro_keep hP hk1
  rcases hw with ⟨w_2, e_⟩ | ⟨w_2, e_⟩
  · have e_ := e_.symm
    subst e_
    refine lv_if_ne (tgt := 16) hx hb dB_36_2_50.2.1.1.1 (by decide) (fun c_3 => ?_) (fun c_3 => ?_)
    · have _ := c_3
      refine lv_aload_n hx hb dB_36_2_50.2.1.2.2 rfl (lv_at hl 0 rfl) ?_
      refine lv_iload_n hx hb dB_36_2_50.2.2.1.1 rfl (lv_at hl 1 rfl) ?_
      refine lv_iload_n hx hb dB_36_2_50.2.2.1.2 rfl (lv_at hl 2 rfl) ?_
      refine ct_S hP hD hS hA [ob11_0_ xo xk xn xc xh xt xw xm xp pf ph tr fi, ob3_0_ xn vp vn n1 n2 n3 n4 n5, ai_ cy n1 40 fk, ai_ cy n2 40 fs, ai_ cy n3 40 fe, ai_ cy n4 40 fw, ai_ cy n5 40 fp, ob0_0_ xc xn xk clo cro c4 c5 c6 c7 c8, aq_ cy 6 clo 12 (gf_ rl), ai_ cy (rl 0) 12 (Ml 0), ai_ cy (rl 1) 12 (Ml 1), ai_ cy (rl 2) 12 (Ml 2), ai_ cy (rl 3) 12 (Ml 3), ai_ cy (rl 4) 12 (Ml 4), ai_ cy (rl 5) 12 (Ml 5), ai_ cy (rl 6) 12 (Ml 6), ai_ cy (rl 7) 12 (Ml 7), ai_ cy (rl 8) 12 (Ml 8), ai_ cy (rl 9) 12 (Ml 9), ai_ cy (rl 10) 12 (Ml 10), ai_ cy (rl 11) 12 (Ml 11), aq_ cy 6 cro 12 (gf_ rr), ai_ cy (rr 0) 12 (Mr 0), ai_ cy (rr 1) 12 (Mr 1), ai_ cy (rr 2) 12 (Mr 2), ai_ cy (rr 3) 12 (Mr 3), ai_ cy (rr 4) 12 (Mr 4), ai_ cy (rr 5) 12 (Mr 5), ai_ cy (rr 6) 12 (Mr 6), ai_ cy (rr 7) 12 (Mr 7), ai_ cy (rr 8) 12 (Mr 8), ai_ cy (rr 9) 12 (Mr 9), ai_ cy (rr 10) 12 (Mr 10), ai_ cy (rr 11) 12 (Mr 11), ai_ cy c4 40 f4, ai_ cy c5 40 f5, ai_ cy c6 40 f6, ai_ cy c7 12 f7, ai_ cy c8 12 f8, aq_ cy 3 xk 5 (kf_ k0 k1 k2 k3 k4), ob6_0_ k0, ob5_0_ k1, ob9_0_ k2, ob2_0_ k3, ob8_0_ k4] [0, 1, 2, 3, 4, 5, 6, 7, 8, 9, 10, 11, 12, 13, 14, 15, 16, 17, 18, 19, 20, 21, 22, 23, 24, 25, 26, 27, 28, 29, 30, 31, 32, 33, 34, 35, 36, 37, 38, 39, 40, 41, 42, 43, 44] (by decide +kernel) rfl (fun hPc hDw hFc hC_ => ?_)
      refine va_calli (va_runV (As := [.int a1, .int a2]) (rest := []) ⟨hx, hb, hml, hown, hts⟩ (c_X11_mostNow l D cy H.size xo xk xn xc xh xt xw xm xp pf ph tr fi n1 n2 n3 n4 n5 vp vn clo cro c4 c5 c6 c7 c8 fk fs fe fw fp rl Ml rr Mr f4 f5 f6 f7 f8 k0 k1 k2 k3 k4 a1 a2 (by first | with_reducible assumption | omega | assumption) (by first | with_reducible assumption | omega | assumption) (by first | with_reducible assumption | omega | assumption) (by first | with_reducible assumption | omega | assumption) (by first | with_reducible assumption | assumption | omega) (by first | with_reducible assumption | assumption | omega) (by first | with_reducible assumption | assumption | omega) (by first | with_reducible assumption | assumption | omega)) (cwV 2 hts gX11_most_X11_mostNow rfl rfl rfl ⟨rfl, hd_X11_mostNow⟩ ⟨Nat.le_of_ble_eq_true rfl, Nat.le_of_ble_eq_true rfl⟩) ⟨bl_g, va_recvX hK.1 hP (ci := 11) (q0 := 0) rfl rfl, fun U hU hW => ⟨rfl, by rw [hU], by rw [hU]; exact hPc, ⟨kk_mv hW hK, arrOfT_moved hW.alike hG⟩, hDw⟩⟩ rfl rfl hl.1 rfl (lv_room (Nat.le_of_ble_eq_true rfl)) dB_36_2_50.2.2.2.1 ⟨Nat.le_of_ble_eq_true rfl, Nat.le_of_ble_eq_true rfl⟩) hS (fun q _ h => hFc q h) hFc (fun r_4 u t H locs ht hvm hw hB hz1 hk1 hS => ?_)
      obtain ⟨eMl_5, eMr_6, e4_7, e5_8, e6_9, e7_10, e8_11, g_12, g_13, hP1, hD1⟩ := hB
      rw [ht] at hP1
      obtain ⟨hP, hD⟩ := va_join (wr := []) (w1 := [ob11_0_ xo xk xn xc xh xt xw xm xp pf ph tr fi, ob3_0_ xn vp vn n1 n2 n3 n4 n5, ai_ cy n1 40 fk, ai_ cy n2 40 fs, ai_ cy n3 40 fe, ai_ cy n4 40 fw, ai_ cy n5 40 fp, ob0_0_ xc xn xk clo cro c4 c5 c6 c7 c8, aq_ cy 6 clo 12 (gf_ rl), ai_ cy (rl 0) 12 (eMl_5 0), ai_ cy (rl 1) 12 (eMl_5 1), ai_ cy (rl 2) 12 (eMl_5 2), ai_ cy (rl 3) 12 (eMl_5 3), ai_ cy (rl 4) 12 (eMl_5 4), ai_ cy (rl 5) 12 (eMl_5 5), ai_ cy (rl 6) 12 (eMl_5 6), ai_ cy (rl 7) 12 (eMl_5 7), ai_ cy (rl 8) 12 (eMl_5 8), ai_ cy (rl 9) 12 (eMl_5 9), ai_ cy (rl 10) 12 (eMl_5 10), ai_ cy (rl 11) 12 (eMl_5 11), aq_ cy 6 cro 12 (gf_ rr), ai_ cy (rr 0) 12 (eMr_6 0), ai_ cy (rr 1) 12 (eMr_6 1), ai_ cy (rr 2) 12 (eMr_6 2), ai_ cy (rr 3) 12 (eMr_6 3), ai_ cy (rr 4) 12 (eMr_6 4), ai_ cy (rr 5) 12 (eMr_6 5), ai_ cy (rr 6) 12 (eMr_6 6), ai_ cy (rr 7) 12 (eMr_6 7), ai_ cy (rr 8) 12 (eMr_6 8), ai_ cy (rr 9) 12 (eMr_6 9), ai_ cy (rr 10) 12 (eMr_6 10), ai_ cy (rr 11) 12 (eMr_6 11), ai_ cy c4 40 e4_7, ai_ cy c5 40 e5_8, ai_ cy c6 40 e6_9, ai_ cy c7 12 e7_10, ai_ cy c8 12 e8_11, aq_ cy 3 xk 5 (kf_ k0 k1 k2 k3 k4), ob6_0_ k0, ob5_0_ k1, ob9_0_ k2, ob2_0_ k3, ob8_0_ k4]) hP hD [0, 1, 2, 3, 4, 5, 6, 7, 8, 9, 10, 11, 12, 13, 14, 15, 16, 17, 18, 19, 20, 21, 22, 23, 24, 25, 26, 27, 28, 29, 30, 31, 32, 33, 34, 35, 36, 37, 38, 39, 40, 41, 42, 43, 44] [] hC_ rfl (by decide) (by decide) hk1 hFc hP1 hD1
      refine pd_K [ob11_0_ xo xk xn xc xh xt xw xm xp pf ph tr fi, ob3_0_ xn vp vn n1 n2 n3 n4 n5, ai_ cy n1 40 fk, ai_ cy n2 40 fs, ai_ cy n3 40 fe, ai_ cy n4 40 fw, ai_ cy n5 40 fp, ob0_0_ xc xn xk clo cro c4 c5 c6 c7 c8, aq_ cy 6 clo 12 (gf_ rl), ai_ cy (rl 0) 12 (eMl_5 0), ai_ cy (rl 1) 12 (eMl_5 1), ai_ cy (rl 2) 12 (eMl_5 2), ai_ cy (rl 3) 12 (eMl_5 3), ai_ cy (rl 4) 12 (eMl_5 4), ai_ cy (rl 5) 12 (eMl_5 5), ai_ cy (rl 6) 12 (eMl_5 6), ai_ cy (rl 7) 12 (eMl_5 7), ai_ cy (rl 8) 12 (eMl_5 8), ai_ cy (rl 9) 12 (eMl_5 9), ai_ cy (rl 10) 12 (eMl_5 10), ai_ cy (rl 11) 12 (eMl_5 11), aq_ cy 6 cro 12 (gf_ rr), ai_ cy (rr 0) 12 (eMr_6 0), ai_ cy (rr 1) 12 (eMr_6 1), ai_ cy (rr 2) 12 (eMr_6 2), ai_ cy (rr 3) 12 (eMr_6 3), ai_ cy (rr 4) 12 (eMr_6 4), ai_ cy (rr 5) 12 (eMr_6 5), ai_ cy (rr 6) 12 (eMr_6 6), ai_ cy (rr 7) 12 (eMr_6 7), ai_ cy (rr 8) 12 (eMr_6 8), ai_ cy (rr 9) 12 (eMr_6 9), ai_ cy (rr 10) 12 (eMr_6 10), ai_ cy (rr 11) 12 (eMr_6 11), ai_ cy c4 40 e4_7, ai_ cy c5 40 e5_8, ai_ cy c6 40 e6_9, ai_ cy c7 12 e7_10, ai_ cy c8 12 e8_11, aq_ cy 3 xk 5 (kf_ k0 k1 k2 k3 k4), ob6_0_ k0, ob5_0_ k1, ob9_0_ k2, ob2_0_ k3, ob8_0_ k4] hP hD (fun hP hD => ?_)
      rw [hQ]
      exact W.iret (v := r_4) hx hb hr (fun t ht hW => ⟨⟨r_4, (), rfl, trivial, eMl_5, eMr_6, e4_7, e5_8, e6_9, e7_10, e8_11, (by first | with_reducible assumption | assumption | exact rng_zero (by omega) (by omega) | omega), (by first | with_reducible assumption | assumption | exact rng_zero (by omega) (by omega) | omega), by rw [ht]; exact hP, hD⟩, hS.F ht⟩) hS.2.2 dB_36_2_50.2.2.2.2
    · exact absurd c_3 (by decide)
  · have e_ := e_.symm
    subst e_
    refine lv_if_ne (tgt := 16) hx hb dB_36_2_50.2.1.1.1 (by decide) (fun c_14 => ?_) (fun c_14 => ?_)
    · exact absurd c_14 (by decide)
    · have _ := c_14
      refine lv_iconst (v := (-1)) hx hb dB_36_2_50.2.1.1.2 (by decide) ?_
      rw [hQ]
      exact W.iret (v := (-1)) hx hb hr (fun t ht hW => ⟨⟨(-1), (), rfl, trivial, Ml, Mr, f4, f5, f6, f7, f8, (by first | with_reducible assumption | assumption | exact rng_zero (by omega) (by omega) | omega), (by first | with_reducible assumption | assumption | exact rng_zero (by omega) (by omega) | omega), by rw [ht]; exact hP, hD⟩, hS.F ht⟩) hS.2.2 dB_36_2_50.2.1.2.1

set_option maxHeartbeats 4000000 in
set_option maxRecDepth 100000 in
theorem c_X11_flow (l : Launch) (D : va_G) (cy : Nat → ClassId) (sz : Nat) (xo : Nat) (xk : Nat) (xn : Nat) (xc : Nat) (xh : Nat) (xt : Nat) (xw : Nat) (xm : Nat) (xp : Nat) (pf : Int32) (ph : Int32) (tr : Int64) (fi : Int32) (n1 : Nat) (n2 : Nat) (n3 : Nat) (n4 : Nat) (n5 : Nat) (vp : Int32) (vn : Int32) (clo : Nat) (cro : Nat) (c4 : Nat) (c5 : Nat) (c6 : Nat) (c7 : Nat) (c8 : Nat) (fk : Nat → Int32) (fs : Nat → Int32) (fe : Nat → Int32) (fw : Nat → Int32) (fp : Nat → Int32) (rl : Nat → Nat) (Ml : Nat → Nat → Int32) (rr : Nat → Nat) (Mr : Nat → Nat → Int32) (f4 : Nat → Int32) (f5 : Nat → Int32) (f6 : Nat → Int32) (f7 : Nat → Int32) (f8 : Nat → Int32) (k0 : Nat) (k1 : Nat) (k2 : Nat) (k3 : Nat) (k4 : Nat) (a1 : Int32) (a2 : Int32) (a3 : Int32) (hvp : 0 ≤ vp.toInt ∧ vp.toInt ≤ 12) (hvn : 0 ≤ vn.toInt ∧ vn.toInt ≤ 40) (hpr : prng fs fe 40) (r_f7 : rng f7 12 (0) (11)) (r_f8 : rng f8 12 (0) (11)) (r_fk : rng fk 40 (0) (4)) : Met l yX11_flow wsX11_flow ({ frames := 5, cells := 0, slots := 0, locals := 110 }) (va_Pc [.ref xo, .int a1, .int a2, .int a3] (fun U => U.heap.size = sz ∧ va_P D vwCl [ob11_0_ xo xk xn xc xh xt xw xm xp pf ph tr fi, ob3_0_ xn vp vn n1 n2 n3 n4 n5, ai_ cy n1 40 fk, ai_ cy n2 40 fs, ai_ cy n3 40 fe, ai_ cy n4 40 fw, ai_ cy n5 40 fp, ob0_0_ xc xn xk clo cro c4 c5 c6 c7 c8, aq_ cy 6 clo 12 (gf_ rl), ai_ cy (rl 0) 12 (Ml 0), ai_ cy (rl 1) 12 (Ml 1), ai_ cy (rl 2) 12 (Ml 2), ai_ cy (rl 3) 12 (Ml 3), ai_ cy (rl 4) 12 (Ml 4), ai_ cy (rl 5) 12 (Ml 5), ai_ cy (rl 6) 12 (Ml 6), ai_ cy (rl 7) 12 (Ml 7), ai_ cy (rl 8) 12 (Ml 8), ai_ cy (rl 9) 12 (Ml 9), ai_ cy (rl 10) 12 (Ml 10), ai_ cy (rl 11) 12 (Ml 11), aq_ cy 6 cro 12 (gf_ rr), ai_ cy (rr 0) 12 (Mr 0), ai_ cy (rr 1) 12 (Mr 1), ai_ cy (rr 2) 12 (Mr 2), ai_ cy (rr 3) 12 (Mr 3), ai_ cy (rr 4) 12 (Mr 4), ai_ cy (rr 5) 12 (Mr 5), ai_ cy (rr 6) 12 (Mr 6), ai_ cy (rr 7) 12 (Mr 7), ai_ cy (rr 8) 12 (Mr 8), ai_ cy (rr 9) 12 (Mr 9), ai_ cy (rr 10) 12 (Mr 10), ai_ cy (rr 11) 12 (Mr 11), ai_ cy c4 40 f4, ai_ cy c5 40 f5, ai_ cy c6 40 f6, ai_ cy c7 12 f7, ai_ cy c8 12 f8, aq_ cy 3 xk 5 (kf_ k0 k1 k2 k3 k4), ob6_0_ k0, ob5_0_ k1, ob9_0_ k2, ob2_0_ k3, ob8_0_ k4] U.heap ∧ kg_ D cy U ∧ va_D (fun _ => True) [ob11_0_ xo xk xn xc xh xt xw xm xp pf ph tr fi, ob3_0_ xn vp vn n1 n2 n3 n4 n5, ai_ cy n1 40 fk, ai_ cy n2 40 fs, ai_ cy n3 40 fe, ai_ cy n4 40 fw, ai_ cy n5 40 fp, ob0_0_ xc xn xk clo cro c4 c5 c6 c7 c8, aq_ cy 6 clo 12 (gf_ rl), ai_ cy (rl 0) 12 (Ml 0), ai_ cy (rl 1) 12 (Ml 1), ai_ cy (rl 2) 12 (Ml 2), ai_ cy (rl 3) 12 (Ml 3), ai_ cy (rl 4) 12 (Ml 4), ai_ cy (rl 5) 12 (Ml 5), ai_ cy (rl 6) 12 (Ml 6), ai_ cy (rl 7) 12 (Ml 7), ai_ cy (rl 8) 12 (Ml 8), ai_ cy (rl 9) 12 (Ml 9), ai_ cy (rl 10) 12 (Ml 10), ai_ cy (rl 11) 12 (Ml 11), aq_ cy 6 cro 12 (gf_ rr), ai_ cy (rr 0) 12 (Mr 0), ai_ cy (rr 1) 12 (Mr 1), ai_ cy (rr 2) 12 (Mr 2), ai_ cy (rr 3) 12 (Mr 3), ai_ cy (rr 4) 12 (Mr 4), ai_ cy (rr 5) 12 (Mr 5), ai_ cy (rr 6) 12 (Mr 6), ai_ cy (rr 7) 12 (Mr 7), ai_ cy (rr 8) 12 (Mr 8), ai_ cy (rr 9) 12 (Mr 9), ai_ cy (rr 10) 12 (Mr 10), ai_ cy (rr 11) 12 (Mr 11), ai_ cy c4 40 f4, ai_ cy c5 40 f5, ai_ cy c6 40 f6, ai_ cy c7 12 f7, ai_ cy c8 12 f8, aq_ cy 3 xk 5 (kf_ k0 k1 k2 k3 k4), ob6_0_ k0, ob5_0_ k1, ob9_0_ k2, ob2_0_ k3, ob8_0_ k4])) (va_Qi (fun (r : Int32) (_ : Unit) => True) (fun (_ : Unit) (t : State) => ∃ (eMl : Nat → Nat → Int32), ∃ (eMr : Nat → Nat → Int32), ∃ (e4 : Nat → Int32), ∃ (e5 : Nat → Int32), ∃ (e6 : Nat → Int32), ∃ (e7 : Nat → Int32), ∃ (e8 : Nat → Int32), (rng e7 12 (0) (11)) ∧ (rng e8 12 (0) (11)) ∧ va_P D vwCl [ob11_0_ xo xk xn xc xh xt xw xm xp pf ph tr fi, ob3_0_ xn vp vn n1 n2 n3 n4 n5, ai_ cy n1 40 fk, ai_ cy n2 40 fs, ai_ cy n3 40 fe, ai_ cy n4 40 fw, ai_ cy n5 40 fp, ob0_0_ xc xn xk clo cro c4 c5 c6 c7 c8, aq_ cy 6 clo 12 (gf_ rl), ai_ cy (rl 0) 12 (eMl 0), ai_ cy (rl 1) 12 (eMl 1), ai_ cy (rl 2) 12 (eMl 2), ai_ cy (rl 3) 12 (eMl 3), ai_ cy (rl 4) 12 (eMl 4), ai_ cy (rl 5) 12 (eMl 5), ai_ cy (rl 6) 12 (eMl 6), ai_ cy (rl 7) 12 (eMl 7), ai_ cy (rl 8) 12 (eMl 8), ai_ cy (rl 9) 12 (eMl 9), ai_ cy (rl 10) 12 (eMl 10), ai_ cy (rl 11) 12 (eMl 11), aq_ cy 6 cro 12 (gf_ rr), ai_ cy (rr 0) 12 (eMr 0), ai_ cy (rr 1) 12 (eMr 1), ai_ cy (rr 2) 12 (eMr 2), ai_ cy (rr 3) 12 (eMr 3), ai_ cy (rr 4) 12 (eMr 4), ai_ cy (rr 5) 12 (eMr 5), ai_ cy (rr 6) 12 (eMr 6), ai_ cy (rr 7) 12 (eMr 7), ai_ cy (rr 8) 12 (eMr 8), ai_ cy (rr 9) 12 (eMr 9), ai_ cy (rr 10) 12 (eMr 10), ai_ cy (rr 11) 12 (eMr 11), ai_ cy c4 40 e4, ai_ cy c5 40 e5, ai_ cy c6 40 e6, ai_ cy c7 12 e7, ai_ cy c8 12 e8, aq_ cy 3 xk 5 (kf_ k0 k1 k2 k3 k4), ob6_0_ k0, ob5_0_ k1, ob9_0_ k2, ob2_0_ k3, ob8_0_ k4] t.heap ∧ va_D (va_A [ob11_0_ xo xk xn xc xh xt xw xm xp pf ph tr fi, ob3_0_ xn vp vn n1 n2 n3 n4 n5, ai_ cy n1 40 fk, ai_ cy n2 40 fs, ai_ cy n3 40 fe, ai_ cy n4 40 fw, ai_ cy n5 40 fp, ob0_0_ xc xn xk clo cro c4 c5 c6 c7 c8, aq_ cy 6 clo 12 (gf_ rl), ai_ cy (rl 0) 12 (Ml 0), ai_ cy (rl 1) 12 (Ml 1), ai_ cy (rl 2) 12 (Ml 2), ai_ cy (rl 3) 12 (Ml 3), ai_ cy (rl 4) 12 (Ml 4), ai_ cy (rl 5) 12 (Ml 5), ai_ cy (rl 6) 12 (Ml 6), ai_ cy (rl 7) 12 (Ml 7), ai_ cy (rl 8) 12 (Ml 8), ai_ cy (rl 9) 12 (Ml 9), ai_ cy (rl 10) 12 (Ml 10), ai_ cy (rl 11) 12 (Ml 11), aq_ cy 6 cro 12 (gf_ rr), ai_ cy (rr 0) 12 (Mr 0), ai_ cy (rr 1) 12 (Mr 1), ai_ cy (rr 2) 12 (Mr 2), ai_ cy (rr 3) 12 (Mr 3), ai_ cy (rr 4) 12 (Mr 4), ai_ cy (rr 5) 12 (Mr 5), ai_ cy (rr 6) 12 (Mr 6), ai_ cy (rr 7) 12 (Mr 7), ai_ cy (rr 8) 12 (Mr 8), ai_ cy (rr 9) 12 (Mr 9), ai_ cy (rr 10) 12 (Mr 10), ai_ cy (rr 11) 12 (Mr 11), ai_ cy c4 40 f4, ai_ cy c5 40 f5, ai_ cy c6 40 f6, ai_ cy c7 12 f7, ai_ cy c8 12 f8, aq_ cy 3 xk 5 (kf_ k0 k1 k2 k3 k4), ob6_0_ k0, ob5_0_ k1, ob9_0_ k2, ob2_0_ k3, ob8_0_ k4] sz) [ob11_0_ xo xk xn xc xh xt xw xm xp pf ph tr fi, ob3_0_ xn vp vn n1 n2 n3 n4 n5, ai_ cy n1 40 fk, ai_ cy n2 40 fs, ai_ cy n3 40 fe, ai_ cy n4 40 fw, ai_ cy n5 40 fp, ob0_0_ xc xn xk clo cro c4 c5 c6 c7 c8, aq_ cy 6 clo 12 (gf_ rl), ai_ cy (rl 0) 12 (eMl 0), ai_ cy (rl 1) 12 (eMl 1), ai_ cy (rl 2) 12 (eMl 2), ai_ cy (rl 3) 12 (eMl 3), ai_ cy (rl 4) 12 (eMl 4), ai_ cy (rl 5) 12 (eMl 5), ai_ cy (rl 6) 12 (eMl 6), ai_ cy (rl 7) 12 (eMl 7), ai_ cy (rl 8) 12 (eMl 8), ai_ cy (rl 9) 12 (eMl 9), ai_ cy (rl 10) 12 (eMl 10), ai_ cy (rl 11) 12 (eMl 11), aq_ cy 6 cro 12 (gf_ rr), ai_ cy (rr 0) 12 (eMr 0), ai_ cy (rr 1) 12 (eMr 1), ai_ cy (rr 2) 12 (eMr 2), ai_ cy (rr 3) 12 (eMr 3), ai_ cy (rr 4) 12 (eMr 4), ai_ cy (rr 5) 12 (eMr 5), ai_ cy (rr 6) 12 (eMr 6), ai_ cy (rr 7) 12 (eMr 7), ai_ cy (rr 8) 12 (eMr 8), ai_ cy (rr 9) 12 (eMr 9), ai_ cy (rr 10) 12 (eMr 10), ai_ cy (rr 11) 12 (eMr 11), ai_ cy c4 40 e4, ai_ cy c5 40 e5, ai_ cy c6 40 e6, ai_ cy c7 12 e7, ai_ cy c8 12 e8, aq_ cy 3 xk 5 (kf_ k0 k1 k2 k3 k4), ob6_0_ k0, ob5_0_ k1, ob9_0_ k2, ob2_0_ k3, ob8_0_ k4]) (va_A [ob11_0_ xo xk xn xc xh xt xw xm xp pf ph tr fi, ob3_0_ xn vp vn n1 n2 n3 n4 n5, ai_ cy n1 40 fk, ai_ cy n2 40 fs, ai_ cy n3 40 fe, ai_ cy n4 40 fw, ai_ cy n5 40 fp, ob0_0_ xc xn xk clo cro c4 c5 c6 c7 c8, aq_ cy 6 clo 12 (gf_ rl), ai_ cy (rl 0) 12 (Ml 0), ai_ cy (rl 1) 12 (Ml 1), ai_ cy (rl 2) 12 (Ml 2), ai_ cy (rl 3) 12 (Ml 3), ai_ cy (rl 4) 12 (Ml 4), ai_ cy (rl 5) 12 (Ml 5), ai_ cy (rl 6) 12 (Ml 6), ai_ cy (rl 7) 12 (Ml 7), ai_ cy (rl 8) 12 (Ml 8), ai_ cy (rl 9) 12 (Ml 9), ai_ cy (rl 10) 12 (Ml 10), ai_ cy (rl 11) 12 (Ml 11), aq_ cy 6 cro 12 (gf_ rr), ai_ cy (rr 0) 12 (Mr 0), ai_ cy (rr 1) 12 (Mr 1), ai_ cy (rr 2) 12 (Mr 2), ai_ cy (rr 3) 12 (Mr 3), ai_ cy (rr 4) 12 (Mr 4), ai_ cy (rr 5) 12 (Mr 5), ai_ cy (rr 6) 12 (Mr 6), ai_ cy (rr 7) 12 (Mr 7), ai_ cy (rr 8) 12 (Mr 8), ai_ cy (rr 9) 12 (Mr 9), ai_ cy (rr 10) 12 (Mr 10), ai_ cy (rr 11) 12 (Mr 11), ai_ cy c4 40 f4, ai_ cy c5 40 f5, ai_ cy c6 40 f6, ai_ cy c7 12 f7, ai_ cy c8 12 f8, aq_ cy 3 xk 5 (kf_ k0 k1 k2 k3 k4), ob6_0_ k0, ob5_0_ k1, ob9_0_ k2, ob2_0_ k3, ob8_0_ k4] sz)) 0 0 (va_A [ob11_0_ xo xk xn xc xh xt xw xm xp pf ph tr fi, ob3_0_ xn vp vn n1 n2 n3 n4 n5, ai_ cy n1 40 fk, ai_ cy n2 40 fs, ai_ cy n3 40 fe, ai_ cy n4 40 fw, ai_ cy n5 40 fp, ob0_0_ xc xn xk clo cro c4 c5 c6 c7 c8, aq_ cy 6 clo 12 (gf_ rl), ai_ cy (rl 0) 12 (Ml 0), ai_ cy (rl 1) 12 (Ml 1), ai_ cy (rl 2) 12 (Ml 2), ai_ cy (rl 3) 12 (Ml 3), ai_ cy (rl 4) 12 (Ml 4), ai_ cy (rl 5) 12 (Ml 5), ai_ cy (rl 6) 12 (Ml 6), ai_ cy (rl 7) 12 (Ml 7), ai_ cy (rl 8) 12 (Ml 8), ai_ cy (rl 9) 12 (Ml 9), ai_ cy (rl 10) 12 (Ml 10), ai_ cy (rl 11) 12 (Ml 11), aq_ cy 6 cro 12 (gf_ rr), ai_ cy (rr 0) 12 (Mr 0), ai_ cy (rr 1) 12 (Mr 1), ai_ cy (rr 2) 12 (Mr 2), ai_ cy (rr 3) 12 (Mr 3), ai_ cy (rr 4) 12 (Mr 4), ai_ cy (rr 5) 12 (Mr 5), ai_ cy (rr 6) 12 (Mr 6), ai_ cy (rr 7) 12 (Mr 7), ai_ cy (rr 8) 12 (Mr 8), ai_ cy (rr 9) 12 (Mr 9), ai_ cy (rr 10) 12 (Mr 10), ai_ cy (rr 11) 12 (Mr 11), ai_ cy c4 40 f4, ai_ cy c5 40 f5, ai_ cy c6 40 f6, ai_ cy c7 12 f7, ai_ cy c8 12 f8, aq_ cy 3 xk 5 (kf_ k0 k1 k2 k3 k4), ob6_0_ k0, ob5_0_ k1, ob9_0_ k2, ob2_0_ k3, ob8_0_ k4] sz) := by
  refine ofQ (cc := cX11_flow) (maxL := 4) (ret := (some .int)) (by decide) rfl ?_
  intro p e s m args below meth c s₁ Q hQ B hml hv
  obtain ⟨rfl, hsz, hP, hK, hD0⟩ := hv
  have hG := hK.2
  have hK := hK.1
  have hx := B.exec
  have hb := B.bytes
  have hr := B.returns
  have hts := atoms_spec (ws := wsX11_flow) B.pre
  have hown : s.vm.findClass RX11 = some m.cls := by have h_ := findClass_of_methodNamed B.named; exact h_
  have hlocks := B.notSynchronized
  subst hsz
  have hD := hD0.self (sz := s.heap.size)
  generalize hAe : va_A [ob11_0_ xo xk xn xc xh xt xw xm xp pf ph tr fi, ob3_0_ xn vp vn n1 n2 n3 n4 n5, ai_ cy n1 40 fk, ai_ cy n2 40 fs, ai_ cy n3 40 fe, ai_ cy n4 40 fw, ai_ cy n5 40 fp, ob0_0_ xc xn xk clo cro c4 c5 c6 c7 c8, aq_ cy 6 clo 12 (gf_ rl), ai_ cy (rl 0) 12 (Ml 0), ai_ cy (rl 1) 12 (Ml 1), ai_ cy (rl 2) 12 (Ml 2), ai_ cy (rl 3) 12 (Ml 3), ai_ cy (rl 4) 12 (Ml 4), ai_ cy (rl 5) 12 (Ml 5), ai_ cy (rl 6) 12 (Ml 6), ai_ cy (rl 7) 12 (Ml 7), ai_ cy (rl 8) 12 (Ml 8), ai_ cy (rl 9) 12 (Ml 9), ai_ cy (rl 10) 12 (Ml 10), ai_ cy (rl 11) 12 (Ml 11), aq_ cy 6 cro 12 (gf_ rr), ai_ cy (rr 0) 12 (Mr 0), ai_ cy (rr 1) 12 (Mr 1), ai_ cy (rr 2) 12 (Mr 2), ai_ cy (rr 3) 12 (Mr 3), ai_ cy (rr 4) 12 (Mr 4), ai_ cy (rr 5) 12 (Mr 5), ai_ cy (rr 6) 12 (Mr 6), ai_ cy (rr 7) 12 (Mr 7), ai_ cy (rr 8) 12 (Mr 8), ai_ cy (rr 9) 12 (Mr 9), ai_ cy (rr 10) 12 (Mr 10), ai_ cy (rr 11) 12 (Mr 11), ai_ cy c4 40 f4, ai_ cy c5 40 f5, ai_ cy c6 40 f6, ai_ cy c7 12 f7, ai_ cy c8 12 f8, aq_ cy 3 xk 5 (kf_ k0 k1 k2 k3 k4), ob6_0_ k0, ob5_0_ k1, ob9_0_ k2, ob2_0_ k3, ob8_0_ k4] s.heap.size = A at hD hQ
  have hA : ∀ q : Nat, s.heap.size ≤ q → A q := fun q h => by rw [← hAe]; exact Or.inr h
  have hS : va_S A s.heap s.heap [] := va_S.rf
  have hl := lv_entry ([.ref xo, .int a1, .int a2, .int a3]) (n := 4) (Nat.le_of_ble_eq_true rfl)
  rw [lg_entry_eq]
  generalize (lg_sl ([.ref xo, .int a1, .int a2, .int a3]) ++ List.replicate (4 - (lg_sl ([.ref xo, .int a1, .int a2, .int a3])).length) Slot.unset).toArray = ls at hl ⊢
  have hl : lv_has ls 4 [(0, .ref xo), (1, .int a1), (2, .int a2), (3, .int a3)] := hl
  have zm1000000 : ((-1000000) : Int32).toInt = -1000000 := by decide
  have zm5 : ((-5) : Int32).toInt = -5 := by decide
  refine lv_aload_n hx hb dB_36_2_34.1.1.1.1 rfl (lv_at hl 0 rfl) ?_
  refine va_get (ci := 11) (v := .ref xn) (C := RX11) (T := TX11) (N := 12) hx hb hts (fun _ h => List.mem_cons_of_mem _ (List.mem_append_left _ (List.mem_append_left _ (List.mem_append_right _ h)))) hown hK.1 hP 0 rfl rfl 1 (by decide) (hts (.fieldLink RX11 31 "CutAtlas" "net" "LCutAtlas$Net;") (List.mem_of_getElem? (i := 1) rfl)) (fun _ h9 => h9) rfl dB_36_2_34.1.1.1.2 ?_
  refine lv_iload_n hx hb dB_36_2_34.1.1.2.1 rfl (lv_at hl 1 rfl) ?_
  refine lv_i2l (v := a1.toInt64) hx hb dB_36_2_34.1.1.2.2 rfl ?_
  have q_5 : (a1.toInt64).toInt = a1.toInt := Int32.toInt_toInt64 a1
  refine lv_iload_n hx hb dB_36_2_34.1.2.1.1 rfl (lv_at hl 2 rfl) ?_
  refine lv_i2l (v := a2.toInt64) hx hb dB_36_2_34.1.2.1.2 rfl ?_
  have q_7 : (a2.toInt64).toInt = a2.toInt := Int32.toInt_toInt64 a2
  refine ct_R hP hD [ob3_0_ xn vp vn n1 n2 n3 n4 n5] [1] (by decide) rfl (fun hPc hDw => ?_)
  have hFc := va_free (wc := []) hD hS hA [] rfl
  refine va_calli (va_runV (As := [.long a1.toInt64, .long a2.toInt64]) (rest := []) ⟨hx, hb, hml, hown, hts⟩ (c_X3_hasPair l D cy s.heap.size xn n1 n2 n3 n4 n5 vp vn a1.toInt64 a2.toInt64) (cwV 2 hts gX11_flow_X3_hasPair rfl rfl rfl ⟨rfl, hd_X3_hasPair⟩ ⟨Nat.le_of_ble_eq_true rfl, Nat.le_of_ble_eq_true rfl⟩) ⟨bl_, va_recvX hK.1 hP (ci := 3) (q0 := 1) rfl rfl, fun U hU hW => ⟨rfl, by rw [hU], by rw [hU]; exact hPc, kk_mv hW hK, hDw⟩⟩ rfl rfl hl.1 rfl (lv_room (Nat.le_of_ble_eq_true rfl)) dB_36_2_34.1.2.2.1 ⟨Nat.le_of_ble_eq_true rfl, Nat.le_of_ble_eq_true rfl⟩) hS (fun q _ h => hFc q h) hFc (fun r_1 u t H locs ht hvm hw hB hz1 hk1 hS => ?_)
  have hP : va_P D vwCl _ H := ro_keep hP hk1
  rcases hw with ⟨w_2, e_⟩ | ⟨w_2, e_⟩
  · have e_ := e_.symm
    subst e_
    refine lv_if_eq (tgt := 36) hx hb dB_36_2_34.1.2.2.2 (by decide) (fun c_3 => ?_) (fun c_3 => ?_)
    · exact absurd c_3 (by decide)
    · have _ := c_3
      refine lv_aload_n hx hb dB_36_2_34.2.1.1.1 rfl (lv_at hl 0 rfl) ?_
      refine va_get (ci := 11) (v := .ref xn) (C := RX11) (T := TX11) (N := 12) hx hb hts (fun _ h => List.mem_cons_of_mem _ (List.mem_append_left _ (List.mem_append_left _ (List.mem_append_right _ h)))) hown hK.1 hP 0 rfl rfl 1 (by decide) (hts (.fieldLink RX11 31 "CutAtlas" "net" "LCutAtlas$Net;") (List.mem_of_getElem? (i := 1) rfl)) (fun _ h9 => h9) rfl dB_36_2_34.2.1.1.2 ?_
      refine lv_iload_n hx hb dB_36_2_34.2.1.2.1 rfl (lv_at hl 3 rfl) ?_
      refine ct_R hP hD [ob3_0_ xn vp vn n1 n2 n3 n4 n5] [1] (by decide) rfl (fun hPc hDw => ?_)
      have hFc := va_free (wc := []) hD hS hA [] rfl
      refine va_calli (va_runV (As := [.int a3]) (rest := []) ⟨hx, hb, hml, hown, hts⟩ (c_X3_hasLine l D cy H.size xn n1 n2 n3 n4 n5 vp vn a3) (cwV 1 hts gX11_flow_X3_hasLine rfl rfl rfl ⟨rfl, hd_X3_hasLine⟩ ⟨Nat.le_of_ble_eq_true rfl, Nat.le_of_ble_eq_true rfl⟩) ⟨bl_, va_recvX hK.1 hP (ci := 3) (q0 := 1) rfl rfl, fun U hU hW => ⟨rfl, by rw [hU], by rw [hU]; exact hPc, kk_mv hW hK, hDw⟩⟩ rfl rfl hl.1 rfl (lv_room (Nat.le_of_ble_eq_true rfl)) dB_36_2_34.2.1.2.2 ⟨Nat.le_of_ble_eq_true rfl, Nat.le_of_ble_eq_true rfl⟩) hS (fun q _ h => hFc q h) hFc (fun r_4 u t H locs ht hvm hw hB hz1 hk1 hS => ?_)
      have hP : va_P D vwCl _ H := ro_keep hP hk1
      rcases hw with ⟨w_5, e_⟩ | ⟨w_5, e_⟩
      · have e_ := e_.symm
        subst e_
        refine lv_if_eq (tgt := 36) hx hb dB_36_2_34.2.2.1.1 (by decide) (fun c_6 => ?_) (fun c_6 => ?_)
        · exact absurd c_6 (by decide)
        · have _ := c_6
          refine lv_aload_n hx hb dB_36_2_34.2.2.1.2 rfl (lv_at hl 0 rfl) ?_
          refine va_get (ci := 11) (v := .ref xn) (C := RX11) (T := TX11) (N := 12) hx hb hts (fun _ h => List.mem_cons_of_mem _ (List.mem_append_left _ (List.mem_append_left _ (List.mem_append_right _ h)))) hown hK.1 hP 0 rfl rfl 1 (by decide) (hts (.fieldLink RX11 31 "CutAtlas" "net" "LCutAtlas$Net;") (List.mem_of_getElem? (i := 1) rfl)) (fun _ h9 => h9) rfl dB_36_2_34.2.2.2.1 ?_
          refine lv_iload_n hx hb dB_36_2_34.2.2.2.2 rfl (lv_at hl 3 rfl) ?_
          refine ct_R hP hD [ob3_0_ xn vp vn n1 n2 n3 n4 n5, ai_ cy n2 40 fs] [1, 3] (by decide) rfl (fun hPc hDw => ?_)
          have hFc := va_free (wc := []) hD hS hA [] rfl
          refine va_calli (va_runV (As := [.int a3]) (rest := []) ⟨hx, hb, hml, hown, hts⟩ (c_X3_isMissing l D cy H.size xn n1 n2 n3 n4 n5 vp vn fs a3 (by first | with_reducible assumption | omega | assumption)) (cwV 1 hts gX11_flow_X3_isMissing rfl rfl rfl ⟨rfl, hd_X3_isMissing⟩ ⟨Nat.le_of_ble_eq_true rfl, Nat.le_of_ble_eq_true rfl⟩) ⟨bl_, va_recvX hK.1 hP (ci := 3) (q0 := 1) rfl rfl, fun U hU hW => ⟨rfl, by rw [hU], by rw [hU]; exact hPc, kk_mv hW hK, hDw⟩⟩ rfl rfl hl.1 rfl (lv_room (Nat.le_of_ble_eq_true rfl)) dB_36_2_35.1.1.1.1 ⟨Nat.le_of_ble_eq_true rfl, Nat.le_of_ble_eq_true rfl⟩) hS (fun q _ h => hFc q h) hFc (fun r_7 u t H locs ht hvm hw hB hz1 hk1 hS => ?_)
          have hP : va_P D vwCl _ H := ro_keep hP hk1
          rcases hw with ⟨w_8, e_⟩ | ⟨w_8, e_⟩
          · have e_ := e_.symm
            subst e_
            refine lv_if_eq (tgt := 39) hx hb dB_36_2_35.1.1.1.2 (by decide) (fun c_9 => ?_) (fun c_9 => ?_)
            · exact absurd c_9 (by decide)
            · have _ := c_9
              refine lv_ldc (v := (-1000000)) hx hb hown (hts (.constant RX11 172 (-1000000)) (List.mem_of_getElem? (i := 2) rfl)) dB_36_2_35.1.1.2.1 ?_
              rw [hQ]
              exact W.iret (v := (-1000000)) hx hb hr (fun t ht hW => ⟨⟨(-1000000), (), rfl, trivial, Ml, Mr, f4, f5, f6, f7, f8, (by first | with_reducible assumption | assumption | exact rng_zero (by omega) (by omega) | omega), (by first | with_reducible assumption | assumption | exact rng_zero (by omega) (by omega) | omega), by rw [ht]; exact hP, hD⟩, hS.F ht⟩) hS.2.2 dB_36_2_35.1.1.2.2
          · have e_ := e_.symm
            subst e_
            refine lv_if_eq (tgt := 39) hx hb dB_36_2_35.1.1.1.2 (by decide) (fun c_10 => ?_) (fun c_10 => ?_)
            · have _ := c_10
              refine lv_aload_n hx hb dB_36_2_35.1.2.1.1 rfl (lv_at hl 0 rfl) ?_
              refine lv_iload_n hx hb dB_36_2_35.1.2.1.2 rfl (lv_at hl 1 rfl) ?_
              refine lv_iload_n hx hb dB_36_2_35.1.2.2.1 rfl (lv_at hl 2 rfl) ?_
              refine ct_S hP hD hS hA [ob11_0_ xo xk xn xc xh xt xw xm xp pf ph tr fi, ob3_0_ xn vp vn n1 n2 n3 n4 n5, ai_ cy n1 40 fk, ai_ cy n2 40 fs, ai_ cy n3 40 fe, ai_ cy n4 40 fw, ai_ cy n5 40 fp, ob0_0_ xc xn xk clo cro c4 c5 c6 c7 c8, aq_ cy 6 clo 12 (gf_ rl), ai_ cy (rl 0) 12 (Ml 0), ai_ cy (rl 1) 12 (Ml 1), ai_ cy (rl 2) 12 (Ml 2), ai_ cy (rl 3) 12 (Ml 3), ai_ cy (rl 4) 12 (Ml 4), ai_ cy (rl 5) 12 (Ml 5), ai_ cy (rl 6) 12 (Ml 6), ai_ cy (rl 7) 12 (Ml 7), ai_ cy (rl 8) 12 (Ml 8), ai_ cy (rl 9) 12 (Ml 9), ai_ cy (rl 10) 12 (Ml 10), ai_ cy (rl 11) 12 (Ml 11), aq_ cy 6 cro 12 (gf_ rr), ai_ cy (rr 0) 12 (Mr 0), ai_ cy (rr 1) 12 (Mr 1), ai_ cy (rr 2) 12 (Mr 2), ai_ cy (rr 3) 12 (Mr 3), ai_ cy (rr 4) 12 (Mr 4), ai_ cy (rr 5) 12 (Mr 5), ai_ cy (rr 6) 12 (Mr 6), ai_ cy (rr 7) 12 (Mr 7), ai_ cy (rr 8) 12 (Mr 8), ai_ cy (rr 9) 12 (Mr 9), ai_ cy (rr 10) 12 (Mr 10), ai_ cy (rr 11) 12 (Mr 11), ai_ cy c4 40 f4, ai_ cy c5 40 f5, ai_ cy c6 40 f6, ai_ cy c7 12 f7, ai_ cy c8 12 f8, aq_ cy 3 xk 5 (kf_ k0 k1 k2 k3 k4), ob6_0_ k0, ob5_0_ k1, ob9_0_ k2, ob2_0_ k3, ob8_0_ k4] [0, 1, 2, 3, 4, 5, 6, 7, 8, 9, 10, 11, 12, 13, 14, 15, 16, 17, 18, 19, 20, 21, 22, 23, 24, 25, 26, 27, 28, 29, 30, 31, 32, 33, 34, 35, 36, 37, 38, 39, 40, 41, 42, 43, 44] (by decide +kernel) rfl (fun hPc hDw hFc hC_ => ?_)
              refine va_calli (va_runV (As := [.int a1, .int a2]) (rest := []) ⟨hx, hb, hml, hown, hts⟩ (c_X11_mostNow l D cy H.size xo xk xn xc xh xt xw xm xp pf ph tr fi n1 n2 n3 n4 n5 vp vn clo cro c4 c5 c6 c7 c8 fk fs fe fw fp rl Ml rr Mr f4 f5 f6 f7 f8 k0 k1 k2 k3 k4 a1 a2 (by first | with_reducible assumption | omega | assumption) (by first | with_reducible assumption | omega | assumption) (by first | with_reducible assumption | omega | assumption) (by first | with_reducible assumption | omega | assumption) (by first | with_reducible assumption | assumption | omega) (by first | with_reducible assumption | assumption | omega) (by first | with_reducible assumption | assumption | omega) (by first | with_reducible assumption | assumption | omega)) (cwV 2 hts gX11_flow_X11_mostNow rfl rfl rfl ⟨rfl, hd_X11_mostNow⟩ ⟨Nat.le_of_ble_eq_true rfl, Nat.le_of_ble_eq_true rfl⟩) ⟨bl_g, va_recvX hK.1 hP (ci := 11) (q0 := 0) rfl rfl, fun U hU hW => ⟨rfl, by rw [hU], by rw [hU]; exact hPc, ⟨kk_mv hW hK, arrOfT_moved hW.alike hG⟩, hDw⟩⟩ rfl rfl hl.1 rfl (lv_room (Nat.le_of_ble_eq_true rfl)) dB_36_2_35.1.2.2.2 ⟨Nat.le_of_ble_eq_true rfl, Nat.le_of_ble_eq_true rfl⟩) hS (fun q _ h => hFc q h) hFc (fun r_11 u t H locs ht hvm hw hB hz1 hk1 hS => ?_)
              obtain ⟨eMl_12, eMr_13, e4_14, e5_15, e6_16, e7_17, e8_18, g_19, g_20, hP1, hD1⟩ := hB
              rw [ht] at hP1
              obtain ⟨hP, hD⟩ := va_join (wr := []) (w1 := [ob11_0_ xo xk xn xc xh xt xw xm xp pf ph tr fi, ob3_0_ xn vp vn n1 n2 n3 n4 n5, ai_ cy n1 40 fk, ai_ cy n2 40 fs, ai_ cy n3 40 fe, ai_ cy n4 40 fw, ai_ cy n5 40 fp, ob0_0_ xc xn xk clo cro c4 c5 c6 c7 c8, aq_ cy 6 clo 12 (gf_ rl), ai_ cy (rl 0) 12 (eMl_12 0), ai_ cy (rl 1) 12 (eMl_12 1), ai_ cy (rl 2) 12 (eMl_12 2), ai_ cy (rl 3) 12 (eMl_12 3), ai_ cy (rl 4) 12 (eMl_12 4), ai_ cy (rl 5) 12 (eMl_12 5), ai_ cy (rl 6) 12 (eMl_12 6), ai_ cy (rl 7) 12 (eMl_12 7), ai_ cy (rl 8) 12 (eMl_12 8), ai_ cy (rl 9) 12 (eMl_12 9), ai_ cy (rl 10) 12 (eMl_12 10), ai_ cy (rl 11) 12 (eMl_12 11), aq_ cy 6 cro 12 (gf_ rr), ai_ cy (rr 0) 12 (eMr_13 0), ai_ cy (rr 1) 12 (eMr_13 1), ai_ cy (rr 2) 12 (eMr_13 2), ai_ cy (rr 3) 12 (eMr_13 3), ai_ cy (rr 4) 12 (eMr_13 4), ai_ cy (rr 5) 12 (eMr_13 5), ai_ cy (rr 6) 12 (eMr_13 6), ai_ cy (rr 7) 12 (eMr_13 7), ai_ cy (rr 8) 12 (eMr_13 8), ai_ cy (rr 9) 12 (eMr_13 9), ai_ cy (rr 10) 12 (eMr_13 10), ai_ cy (rr 11) 12 (eMr_13 11), ai_ cy c4 40 e4_14, ai_ cy c5 40 e5_15, ai_ cy c6 40 e6_16, ai_ cy c7 12 e7_17, ai_ cy c8 12 e8_18, aq_ cy 3 xk 5 (kf_ k0 k1 k2 k3 k4), ob6_0_ k0, ob5_0_ k1, ob9_0_ k2, ob2_0_ k3, ob8_0_ k4]) hP hD [0, 1, 2, 3, 4, 5, 6, 7, 8, 9, 10, 11, 12, 13, 14, 15, 16, 17, 18, 19, 20, 21, 22, 23, 24, 25, 26, 27, 28, 29, 30, 31, 32, 33, 34, 35, 36, 37, 38, 39, 40, 41, 42, 43, 44] [] hC_ rfl (by decide) (by decide) hk1 hFc hP1 hD1
              refine pd_K [ob11_0_ xo xk xn xc xh xt xw xm xp pf ph tr fi, ob3_0_ xn vp vn n1 n2 n3 n4 n5, ai_ cy n1 40 fk, ai_ cy n2 40 fs, ai_ cy n3 40 fe, ai_ cy n4 40 fw, ai_ cy n5 40 fp, ob0_0_ xc xn xk clo cro c4 c5 c6 c7 c8, aq_ cy 6 clo 12 (gf_ rl), ai_ cy (rl 0) 12 (eMl_12 0), ai_ cy (rl 1) 12 (eMl_12 1), ai_ cy (rl 2) 12 (eMl_12 2), ai_ cy (rl 3) 12 (eMl_12 3), ai_ cy (rl 4) 12 (eMl_12 4), ai_ cy (rl 5) 12 (eMl_12 5), ai_ cy (rl 6) 12 (eMl_12 6), ai_ cy (rl 7) 12 (eMl_12 7), ai_ cy (rl 8) 12 (eMl_12 8), ai_ cy (rl 9) 12 (eMl_12 9), ai_ cy (rl 10) 12 (eMl_12 10), ai_ cy (rl 11) 12 (eMl_12 11), aq_ cy 6 cro 12 (gf_ rr), ai_ cy (rr 0) 12 (eMr_13 0), ai_ cy (rr 1) 12 (eMr_13 1), ai_ cy (rr 2) 12 (eMr_13 2), ai_ cy (rr 3) 12 (eMr_13 3), ai_ cy (rr 4) 12 (eMr_13 4), ai_ cy (rr 5) 12 (eMr_13 5), ai_ cy (rr 6) 12 (eMr_13 6), ai_ cy (rr 7) 12 (eMr_13 7), ai_ cy (rr 8) 12 (eMr_13 8), ai_ cy (rr 9) 12 (eMr_13 9), ai_ cy (rr 10) 12 (eMr_13 10), ai_ cy (rr 11) 12 (eMr_13 11), ai_ cy c4 40 e4_14, ai_ cy c5 40 e5_15, ai_ cy c6 40 e6_16, ai_ cy c7 12 e7_17, ai_ cy c8 12 e8_18, aq_ cy 3 xk 5 (kf_ k0 k1 k2 k3 k4), ob6_0_ k0, ob5_0_ k1, ob9_0_ k2, ob2_0_ k3, ob8_0_ k4] hP hD (fun hP hD => ?_)
              refine lv_bipush (v := (-5)) hx hb dB_36_2_35.2.1.1.1 (by decide) ?_
              refine lv_icmp_ne (tgt := 55) hx hb dB_36_2_35.2.1.1.2 (by decide) (fun c_21 => ?_) (fun c_21 => ?_)
              · have t_21 : ¬ r_11.toInt = ((-5) : Int32).toInt := fun h => c_21 (Int32.toInt_inj.mp h)
                refine lv_aload_n hx hb dB_36_2_35.2.2.1.1 rfl (lv_at hl 0 rfl) ?_
                refine va_get (ci := 11) (v := .ref xc) (C := RX11) (T := TX11) (N := 12) hx hb hts (fun _ h => List.mem_cons_of_mem _ (List.mem_append_left _ (List.mem_append_left _ (List.mem_append_right _ h)))) hown hK.1 hP 0 rfl rfl 2 (by decide) (hts (.fieldLink RX11 40 "CutAtlas" "current" "LCutAtlas$Current;") (List.mem_of_getElem? (i := 3) rfl)) (fun _ h9 => h9) rfl dB_36_2_35.2.2.1.2 ?_
                refine va_get (ci := 0) (v := .ref c4) (C := RX0) (T := TX0) (N := 9) hx hb hts (fun _ h => List.mem_cons_of_mem _ (List.mem_append_left _ (List.mem_append_right _ h))) hown hK.1 hP 7 rfl rfl 4 (by decide) (hts (.fieldLink RX11 173 "CutAtlas$Current" "flowing" "[I") (List.mem_of_getElem? (i := 4) rfl)) (fun _ h9 => h9) rfl dB_36_2_35.2.2.2.1 ?_
                refine lv_iload_n hx hb dB_36_2_35.2.2.2.2 rfl (lv_at hl 3 rfl) ?_
                have h_22 : vp_in a3 40 := in_I (by first | with_reducible assumption | omega) (by omega)
                refine va_iald hx hb hK.1 hP 34 0 rfl rfl (i := a3) h_22 dB_36_2_36.1 ?_
                refine lv_topi (fun y_23 ey_23 => ?_)
                rw [hQ]
                exact W.iret (v := y_23) hx hb hr (fun t ht hW => ⟨⟨y_23, (), rfl, trivial, eMl_12, eMr_13, e4_14, e5_15, e6_16, e7_17, e8_18, (by first | with_reducible assumption | assumption | exact rng_zero (by omega) (by omega) | omega), (by first | with_reducible assumption | assumption | exact rng_zero (by omega) (by omega) | omega), by rw [ht]; exact hP, hD⟩, hS.F ht⟩) hS.2.2 dB_36_2_36.2
              · have t_21 : r_11.toInt = ((-5) : Int32).toInt := congrArg Int32.toInt c_21
                refine lv_ldc (v := (-1000000)) hx hb hown (hts (.constant RX11 172 (-1000000)) (List.mem_of_getElem? (i := 2) rfl)) dB_36_2_35.2.1.2.1 ?_
                refine lv_goto (tgt := 64) hx hb dB_36_2_35.2.1.2.2 (by decide) ?_
                rw [hQ]
                exact W.iret (v := (-1000000)) hx hb hr (fun t ht hW => ⟨⟨(-1000000), (), rfl, trivial, eMl_12, eMr_13, e4_14, e5_15, e6_16, e7_17, e8_18, (by first | with_reducible assumption | assumption | exact rng_zero (by omega) (by omega) | omega), (by first | with_reducible assumption | assumption | exact rng_zero (by omega) (by omega) | omega), by rw [ht]; exact hP, hD⟩, hS.F ht⟩) hS.2.2 dB_36_2_36.2
            · exact absurd c_10 (by decide)
      · have e_ := e_.symm
        subst e_
        refine lv_if_eq (tgt := 36) hx hb dB_36_2_34.2.2.1.1 (by decide) (fun c_24 => ?_) (fun c_24 => ?_)
        · have _ := c_24
          refine lv_ldc (v := (-1000000)) hx hb hown (hts (.constant RX11 172 (-1000000)) (List.mem_of_getElem? (i := 2) rfl)) dB_36_2_35.1.1.2.1 ?_
          rw [hQ]
          exact W.iret (v := (-1000000)) hx hb hr (fun t ht hW => ⟨⟨(-1000000), (), rfl, trivial, Ml, Mr, f4, f5, f6, f7, f8, (by first | with_reducible assumption | assumption | exact rng_zero (by omega) (by omega) | omega), (by first | with_reducible assumption | assumption | exact rng_zero (by omega) (by omega) | omega), by rw [ht]; exact hP, hD⟩, hS.F ht⟩) hS.2.2 dB_36_2_35.1.1.2.2
        · exact absurd c_24 (by decide)
  · have e_ := e_.symm
    subst e_
    refine lv_if_eq (tgt := 36) hx hb dB_36_2_34.1.2.2.2 (by decide) (fun c_25 => ?_) (fun c_25 => ?_)
    · have _ := c_25
      refine lv_ldc (v := (-1000000)) hx hb hown (hts (.constant RX11 172 (-1000000)) (List.mem_of_getElem? (i := 2) rfl)) dB_36_2_35.1.1.2.1 ?_
      rw [hQ]
      exact W.iret (v := (-1000000)) hx hb hr (fun t ht hW => ⟨⟨(-1000000), (), rfl, trivial, Ml, Mr, f4, f5, f6, f7, f8, (by first | with_reducible assumption | assumption | exact rng_zero (by omega) (by omega) | omega), (by first | with_reducible assumption | assumption | exact rng_zero (by omega) (by omega) | omega), by rw [ht]; exact hP, hD⟩, hS.F ht⟩) hS.2.2 dB_36_2_35.1.1.2.2
    · exact absurd c_25 (by decide)

set_option maxHeartbeats 4000000 in
set_option maxRecDepth 100000 in
theorem c_X11_cut (l : Launch) (D : va_G) (cy : Nat → ClassId) (sz : Nat) (xo : Nat) (xk : Nat) (xn : Nat) (xc : Nat) (xh : Nat) (xt : Nat) (xw : Nat) (xm : Nat) (xp : Nat) (pf : Int32) (ph : Int32) (tr : Int64) (fi : Int32) (n1 : Nat) (n2 : Nat) (n3 : Nat) (n4 : Nat) (n5 : Nat) (vp : Int32) (vn : Int32) (clo : Nat) (cro : Nat) (c4 : Nat) (c5 : Nat) (c6 : Nat) (c7 : Nat) (c8 : Nat) (fk : Nat → Int32) (fs : Nat → Int32) (fe : Nat → Int32) (fw : Nat → Int32) (fp : Nat → Int32) (rl : Nat → Nat) (Ml : Nat → Nat → Int32) (rr : Nat → Nat) (Mr : Nat → Nat → Int32) (f4 : Nat → Int32) (f5 : Nat → Int32) (f6 : Nat → Int32) (f7 : Nat → Int32) (f8 : Nat → Int32) (k0 : Nat) (k1 : Nat) (k2 : Nat) (k3 : Nat) (k4 : Nat) (a1 : Int32) (a2 : Int32) (a3 : Int32) (hvp : 0 ≤ vp.toInt ∧ vp.toInt ≤ 12) (hvn : 0 ≤ vn.toInt ∧ vn.toInt ≤ 40) (hpr : prng fs fe 40) (r_f7 : rng f7 12 (0) (11)) (r_f8 : rng f8 12 (0) (11)) (r_fk : rng fk 40 (0) (4)) : Met l yX11_cut wsX11_cut ({ frames := 5, cells := 0, slots := 0, locals := 110 }) (va_Pc [.ref xo, .int a1, .int a2, .int a3] (fun U => U.heap.size = sz ∧ va_P D vwCl [ob11_0_ xo xk xn xc xh xt xw xm xp pf ph tr fi, ob3_0_ xn vp vn n1 n2 n3 n4 n5, ai_ cy n1 40 fk, ai_ cy n2 40 fs, ai_ cy n3 40 fe, ai_ cy n4 40 fw, ai_ cy n5 40 fp, ob0_0_ xc xn xk clo cro c4 c5 c6 c7 c8, aq_ cy 6 clo 12 (gf_ rl), ai_ cy (rl 0) 12 (Ml 0), ai_ cy (rl 1) 12 (Ml 1), ai_ cy (rl 2) 12 (Ml 2), ai_ cy (rl 3) 12 (Ml 3), ai_ cy (rl 4) 12 (Ml 4), ai_ cy (rl 5) 12 (Ml 5), ai_ cy (rl 6) 12 (Ml 6), ai_ cy (rl 7) 12 (Ml 7), ai_ cy (rl 8) 12 (Ml 8), ai_ cy (rl 9) 12 (Ml 9), ai_ cy (rl 10) 12 (Ml 10), ai_ cy (rl 11) 12 (Ml 11), aq_ cy 6 cro 12 (gf_ rr), ai_ cy (rr 0) 12 (Mr 0), ai_ cy (rr 1) 12 (Mr 1), ai_ cy (rr 2) 12 (Mr 2), ai_ cy (rr 3) 12 (Mr 3), ai_ cy (rr 4) 12 (Mr 4), ai_ cy (rr 5) 12 (Mr 5), ai_ cy (rr 6) 12 (Mr 6), ai_ cy (rr 7) 12 (Mr 7), ai_ cy (rr 8) 12 (Mr 8), ai_ cy (rr 9) 12 (Mr 9), ai_ cy (rr 10) 12 (Mr 10), ai_ cy (rr 11) 12 (Mr 11), ai_ cy c4 40 f4, ai_ cy c5 40 f5, ai_ cy c6 40 f6, ai_ cy c7 12 f7, ai_ cy c8 12 f8, aq_ cy 3 xk 5 (kf_ k0 k1 k2 k3 k4), ob6_0_ k0, ob5_0_ k1, ob9_0_ k2, ob2_0_ k3, ob8_0_ k4] U.heap ∧ kg_ D cy U ∧ va_D (fun _ => True) [ob11_0_ xo xk xn xc xh xt xw xm xp pf ph tr fi, ob3_0_ xn vp vn n1 n2 n3 n4 n5, ai_ cy n1 40 fk, ai_ cy n2 40 fs, ai_ cy n3 40 fe, ai_ cy n4 40 fw, ai_ cy n5 40 fp, ob0_0_ xc xn xk clo cro c4 c5 c6 c7 c8, aq_ cy 6 clo 12 (gf_ rl), ai_ cy (rl 0) 12 (Ml 0), ai_ cy (rl 1) 12 (Ml 1), ai_ cy (rl 2) 12 (Ml 2), ai_ cy (rl 3) 12 (Ml 3), ai_ cy (rl 4) 12 (Ml 4), ai_ cy (rl 5) 12 (Ml 5), ai_ cy (rl 6) 12 (Ml 6), ai_ cy (rl 7) 12 (Ml 7), ai_ cy (rl 8) 12 (Ml 8), ai_ cy (rl 9) 12 (Ml 9), ai_ cy (rl 10) 12 (Ml 10), ai_ cy (rl 11) 12 (Ml 11), aq_ cy 6 cro 12 (gf_ rr), ai_ cy (rr 0) 12 (Mr 0), ai_ cy (rr 1) 12 (Mr 1), ai_ cy (rr 2) 12 (Mr 2), ai_ cy (rr 3) 12 (Mr 3), ai_ cy (rr 4) 12 (Mr 4), ai_ cy (rr 5) 12 (Mr 5), ai_ cy (rr 6) 12 (Mr 6), ai_ cy (rr 7) 12 (Mr 7), ai_ cy (rr 8) 12 (Mr 8), ai_ cy (rr 9) 12 (Mr 9), ai_ cy (rr 10) 12 (Mr 10), ai_ cy (rr 11) 12 (Mr 11), ai_ cy c4 40 f4, ai_ cy c5 40 f5, ai_ cy c6 40 f6, ai_ cy c7 12 f7, ai_ cy c8 12 f8, aq_ cy 3 xk 5 (kf_ k0 k1 k2 k3 k4), ob6_0_ k0, ob5_0_ k1, ob9_0_ k2, ob2_0_ k3, ob8_0_ k4])) (va_Qi (fun (r : Int32) (_ : Unit) => True) (fun (_ : Unit) (t : State) => ∃ (eMl : Nat → Nat → Int32), ∃ (eMr : Nat → Nat → Int32), ∃ (e4 : Nat → Int32), ∃ (e5 : Nat → Int32), ∃ (e6 : Nat → Int32), ∃ (e7 : Nat → Int32), ∃ (e8 : Nat → Int32), (rng e7 12 (0) (11)) ∧ (rng e8 12 (0) (11)) ∧ va_P D vwCl [ob11_0_ xo xk xn xc xh xt xw xm xp pf ph tr fi, ob3_0_ xn vp vn n1 n2 n3 n4 n5, ai_ cy n1 40 fk, ai_ cy n2 40 fs, ai_ cy n3 40 fe, ai_ cy n4 40 fw, ai_ cy n5 40 fp, ob0_0_ xc xn xk clo cro c4 c5 c6 c7 c8, aq_ cy 6 clo 12 (gf_ rl), ai_ cy (rl 0) 12 (eMl 0), ai_ cy (rl 1) 12 (eMl 1), ai_ cy (rl 2) 12 (eMl 2), ai_ cy (rl 3) 12 (eMl 3), ai_ cy (rl 4) 12 (eMl 4), ai_ cy (rl 5) 12 (eMl 5), ai_ cy (rl 6) 12 (eMl 6), ai_ cy (rl 7) 12 (eMl 7), ai_ cy (rl 8) 12 (eMl 8), ai_ cy (rl 9) 12 (eMl 9), ai_ cy (rl 10) 12 (eMl 10), ai_ cy (rl 11) 12 (eMl 11), aq_ cy 6 cro 12 (gf_ rr), ai_ cy (rr 0) 12 (eMr 0), ai_ cy (rr 1) 12 (eMr 1), ai_ cy (rr 2) 12 (eMr 2), ai_ cy (rr 3) 12 (eMr 3), ai_ cy (rr 4) 12 (eMr 4), ai_ cy (rr 5) 12 (eMr 5), ai_ cy (rr 6) 12 (eMr 6), ai_ cy (rr 7) 12 (eMr 7), ai_ cy (rr 8) 12 (eMr 8), ai_ cy (rr 9) 12 (eMr 9), ai_ cy (rr 10) 12 (eMr 10), ai_ cy (rr 11) 12 (eMr 11), ai_ cy c4 40 e4, ai_ cy c5 40 e5, ai_ cy c6 40 e6, ai_ cy c7 12 e7, ai_ cy c8 12 e8, aq_ cy 3 xk 5 (kf_ k0 k1 k2 k3 k4), ob6_0_ k0, ob5_0_ k1, ob9_0_ k2, ob2_0_ k3, ob8_0_ k4] t.heap ∧ va_D (va_A [ob11_0_ xo xk xn xc xh xt xw xm xp pf ph tr fi, ob3_0_ xn vp vn n1 n2 n3 n4 n5, ai_ cy n1 40 fk, ai_ cy n2 40 fs, ai_ cy n3 40 fe, ai_ cy n4 40 fw, ai_ cy n5 40 fp, ob0_0_ xc xn xk clo cro c4 c5 c6 c7 c8, aq_ cy 6 clo 12 (gf_ rl), ai_ cy (rl 0) 12 (Ml 0), ai_ cy (rl 1) 12 (Ml 1), ai_ cy (rl 2) 12 (Ml 2), ai_ cy (rl 3) 12 (Ml 3), ai_ cy (rl 4) 12 (Ml 4), ai_ cy (rl 5) 12 (Ml 5), ai_ cy (rl 6) 12 (Ml 6), ai_ cy (rl 7) 12 (Ml 7), ai_ cy (rl 8) 12 (Ml 8), ai_ cy (rl 9) 12 (Ml 9), ai_ cy (rl 10) 12 (Ml 10), ai_ cy (rl 11) 12 (Ml 11), aq_ cy 6 cro 12 (gf_ rr), ai_ cy (rr 0) 12 (Mr 0), ai_ cy (rr 1) 12 (Mr 1), ai_ cy (rr 2) 12 (Mr 2), ai_ cy (rr 3) 12 (Mr 3), ai_ cy (rr 4) 12 (Mr 4), ai_ cy (rr 5) 12 (Mr 5), ai_ cy (rr 6) 12 (Mr 6), ai_ cy (rr 7) 12 (Mr 7), ai_ cy (rr 8) 12 (Mr 8), ai_ cy (rr 9) 12 (Mr 9), ai_ cy (rr 10) 12 (Mr 10), ai_ cy (rr 11) 12 (Mr 11), ai_ cy c4 40 f4, ai_ cy c5 40 f5, ai_ cy c6 40 f6, ai_ cy c7 12 f7, ai_ cy c8 12 f8, aq_ cy 3 xk 5 (kf_ k0 k1 k2 k3 k4), ob6_0_ k0, ob5_0_ k1, ob9_0_ k2, ob2_0_ k3, ob8_0_ k4] sz) [ob11_0_ xo xk xn xc xh xt xw xm xp pf ph tr fi, ob3_0_ xn vp vn n1 n2 n3 n4 n5, ai_ cy n1 40 fk, ai_ cy n2 40 fs, ai_ cy n3 40 fe, ai_ cy n4 40 fw, ai_ cy n5 40 fp, ob0_0_ xc xn xk clo cro c4 c5 c6 c7 c8, aq_ cy 6 clo 12 (gf_ rl), ai_ cy (rl 0) 12 (eMl 0), ai_ cy (rl 1) 12 (eMl 1), ai_ cy (rl 2) 12 (eMl 2), ai_ cy (rl 3) 12 (eMl 3), ai_ cy (rl 4) 12 (eMl 4), ai_ cy (rl 5) 12 (eMl 5), ai_ cy (rl 6) 12 (eMl 6), ai_ cy (rl 7) 12 (eMl 7), ai_ cy (rl 8) 12 (eMl 8), ai_ cy (rl 9) 12 (eMl 9), ai_ cy (rl 10) 12 (eMl 10), ai_ cy (rl 11) 12 (eMl 11), aq_ cy 6 cro 12 (gf_ rr), ai_ cy (rr 0) 12 (eMr 0), ai_ cy (rr 1) 12 (eMr 1), ai_ cy (rr 2) 12 (eMr 2), ai_ cy (rr 3) 12 (eMr 3), ai_ cy (rr 4) 12 (eMr 4), ai_ cy (rr 5) 12 (eMr 5), ai_ cy (rr 6) 12 (eMr 6), ai_ cy (rr 7) 12 (eMr 7), ai_ cy (rr 8) 12 (eMr 8), ai_ cy (rr 9) 12 (eMr 9), ai_ cy (rr 10) 12 (eMr 10), ai_ cy (rr 11) 12 (eMr 11), ai_ cy c4 40 e4, ai_ cy c5 40 e5, ai_ cy c6 40 e6, ai_ cy c7 12 e7, ai_ cy c8 12 e8, aq_ cy 3 xk 5 (kf_ k0 k1 k2 k3 k4), ob6_0_ k0, ob5_0_ k1, ob9_0_ k2, ob2_0_ k3, ob8_0_ k4]) (va_A [ob11_0_ xo xk xn xc xh xt xw xm xp pf ph tr fi, ob3_0_ xn vp vn n1 n2 n3 n4 n5, ai_ cy n1 40 fk, ai_ cy n2 40 fs, ai_ cy n3 40 fe, ai_ cy n4 40 fw, ai_ cy n5 40 fp, ob0_0_ xc xn xk clo cro c4 c5 c6 c7 c8, aq_ cy 6 clo 12 (gf_ rl), ai_ cy (rl 0) 12 (Ml 0), ai_ cy (rl 1) 12 (Ml 1), ai_ cy (rl 2) 12 (Ml 2), ai_ cy (rl 3) 12 (Ml 3), ai_ cy (rl 4) 12 (Ml 4), ai_ cy (rl 5) 12 (Ml 5), ai_ cy (rl 6) 12 (Ml 6), ai_ cy (rl 7) 12 (Ml 7), ai_ cy (rl 8) 12 (Ml 8), ai_ cy (rl 9) 12 (Ml 9), ai_ cy (rl 10) 12 (Ml 10), ai_ cy (rl 11) 12 (Ml 11), aq_ cy 6 cro 12 (gf_ rr), ai_ cy (rr 0) 12 (Mr 0), ai_ cy (rr 1) 12 (Mr 1), ai_ cy (rr 2) 12 (Mr 2), ai_ cy (rr 3) 12 (Mr 3), ai_ cy (rr 4) 12 (Mr 4), ai_ cy (rr 5) 12 (Mr 5), ai_ cy (rr 6) 12 (Mr 6), ai_ cy (rr 7) 12 (Mr 7), ai_ cy (rr 8) 12 (Mr 8), ai_ cy (rr 9) 12 (Mr 9), ai_ cy (rr 10) 12 (Mr 10), ai_ cy (rr 11) 12 (Mr 11), ai_ cy c4 40 f4, ai_ cy c5 40 f5, ai_ cy c6 40 f6, ai_ cy c7 12 f7, ai_ cy c8 12 f8, aq_ cy 3 xk 5 (kf_ k0 k1 k2 k3 k4), ob6_0_ k0, ob5_0_ k1, ob9_0_ k2, ob2_0_ k3, ob8_0_ k4] sz)) 0 0 (va_A [ob11_0_ xo xk xn xc xh xt xw xm xp pf ph tr fi, ob3_0_ xn vp vn n1 n2 n3 n4 n5, ai_ cy n1 40 fk, ai_ cy n2 40 fs, ai_ cy n3 40 fe, ai_ cy n4 40 fw, ai_ cy n5 40 fp, ob0_0_ xc xn xk clo cro c4 c5 c6 c7 c8, aq_ cy 6 clo 12 (gf_ rl), ai_ cy (rl 0) 12 (Ml 0), ai_ cy (rl 1) 12 (Ml 1), ai_ cy (rl 2) 12 (Ml 2), ai_ cy (rl 3) 12 (Ml 3), ai_ cy (rl 4) 12 (Ml 4), ai_ cy (rl 5) 12 (Ml 5), ai_ cy (rl 6) 12 (Ml 6), ai_ cy (rl 7) 12 (Ml 7), ai_ cy (rl 8) 12 (Ml 8), ai_ cy (rl 9) 12 (Ml 9), ai_ cy (rl 10) 12 (Ml 10), ai_ cy (rl 11) 12 (Ml 11), aq_ cy 6 cro 12 (gf_ rr), ai_ cy (rr 0) 12 (Mr 0), ai_ cy (rr 1) 12 (Mr 1), ai_ cy (rr 2) 12 (Mr 2), ai_ cy (rr 3) 12 (Mr 3), ai_ cy (rr 4) 12 (Mr 4), ai_ cy (rr 5) 12 (Mr 5), ai_ cy (rr 6) 12 (Mr 6), ai_ cy (rr 7) 12 (Mr 7), ai_ cy (rr 8) 12 (Mr 8), ai_ cy (rr 9) 12 (Mr 9), ai_ cy (rr 10) 12 (Mr 10), ai_ cy (rr 11) 12 (Mr 11), ai_ cy c4 40 f4, ai_ cy c5 40 f5, ai_ cy c6 40 f6, ai_ cy c7 12 f7, ai_ cy c8 12 f8, aq_ cy 3 xk 5 (kf_ k0 k1 k2 k3 k4), ob6_0_ k0, ob5_0_ k1, ob9_0_ k2, ob2_0_ k3, ob8_0_ k4] sz) := by
  refine ofQ (cc := cX11_cut) (maxL := 4) (ret := (some .int)) (by decide) rfl ?_
  intro p e s m args below meth c s₁ Q hQ B hml hv
  obtain ⟨rfl, hsz, hP, hK, hD0⟩ := hv
  have hG := hK.2
  have hK := hK.1
  have hx := B.exec
  have hb := B.bytes
  have hr := B.returns
  have hts := atoms_spec (ws := wsX11_cut) B.pre
  have hown : s.vm.findClass RX11 = some m.cls := by have h_ := findClass_of_methodNamed B.named; exact h_
  have hlocks := B.notSynchronized
  subst hsz
  have hD := hD0.self (sz := s.heap.size)
  generalize hAe : va_A [ob11_0_ xo xk xn xc xh xt xw xm xp pf ph tr fi, ob3_0_ xn vp vn n1 n2 n3 n4 n5, ai_ cy n1 40 fk, ai_ cy n2 40 fs, ai_ cy n3 40 fe, ai_ cy n4 40 fw, ai_ cy n5 40 fp, ob0_0_ xc xn xk clo cro c4 c5 c6 c7 c8, aq_ cy 6 clo 12 (gf_ rl), ai_ cy (rl 0) 12 (Ml 0), ai_ cy (rl 1) 12 (Ml 1), ai_ cy (rl 2) 12 (Ml 2), ai_ cy (rl 3) 12 (Ml 3), ai_ cy (rl 4) 12 (Ml 4), ai_ cy (rl 5) 12 (Ml 5), ai_ cy (rl 6) 12 (Ml 6), ai_ cy (rl 7) 12 (Ml 7), ai_ cy (rl 8) 12 (Ml 8), ai_ cy (rl 9) 12 (Ml 9), ai_ cy (rl 10) 12 (Ml 10), ai_ cy (rl 11) 12 (Ml 11), aq_ cy 6 cro 12 (gf_ rr), ai_ cy (rr 0) 12 (Mr 0), ai_ cy (rr 1) 12 (Mr 1), ai_ cy (rr 2) 12 (Mr 2), ai_ cy (rr 3) 12 (Mr 3), ai_ cy (rr 4) 12 (Mr 4), ai_ cy (rr 5) 12 (Mr 5), ai_ cy (rr 6) 12 (Mr 6), ai_ cy (rr 7) 12 (Mr 7), ai_ cy (rr 8) 12 (Mr 8), ai_ cy (rr 9) 12 (Mr 9), ai_ cy (rr 10) 12 (Mr 10), ai_ cy (rr 11) 12 (Mr 11), ai_ cy c4 40 f4, ai_ cy c5 40 f5, ai_ cy c6 40 f6, ai_ cy c7 12 f7, ai_ cy c8 12 f8, aq_ cy 3 xk 5 (kf_ k0 k1 k2 k3 k4), ob6_0_ k0, ob5_0_ k1, ob9_0_ k2, ob2_0_ k3, ob8_0_ k4] s.heap.size = A at hD hQ
  have hA : ∀ q : Nat, s.heap.size ≤ q → A q := fun q h => by rw [← hAe]; exact Or.inr h
  have hS : va_S A s.heap s.heap [] := va_S.rf
  have hl := lv_entry ([.ref xo, .int a1, .int a2, .int a3]) (n := 4) (Nat.le_of_ble_eq_true rfl)
  rw [lg_entry_eq]
  generalize (lg_sl ([.ref xo, .int a1, .int a2, .int a3]) ++ List.replicate (4 - (lg_sl ([.ref xo, .int a1, .int a2, .int a3])).length) Slot.unset).toArray = ls at hl ⊢
  have hl : lv_has ls 4 [(0, .ref xo), (1, .int a1), (2, .int a2), (3, .int a3)] := hl
  have zm5 : ((-5) : Int32).toInt = -5 := by decide
  have zm1 : ((-1) : Int32).toInt = -1 := by decide
  have z0 : (0 : Int32).toInt = 0 := by decide
  have z1 : (1 : Int32).toInt = 1 := by decide
  refine lv_aload_n hx hb dB_36_2_33.1.1.1 rfl (lv_at hl 0 rfl) ?_
  refine va_get (ci := 11) (v := .ref xn) (C := RX11) (T := TX11) (N := 12) hx hb hts (fun _ h => List.mem_cons_of_mem _ (List.mem_append_left _ (List.mem_append_left _ (List.mem_append_right _ h)))) hown hK.1 hP 0 rfl rfl 1 (by decide) (hts (.fieldLink RX11 31 "CutAtlas" "net" "LCutAtlas$Net;") (List.mem_of_getElem? (i := 1) rfl)) (fun _ h9 => h9) rfl dB_36_2_33.1.1.2 ?_
  refine lv_iload_n hx hb dB_36_2_33.1.2.1 rfl (lv_at hl 1 rfl) ?_
  refine lv_i2l (v := a1.toInt64) hx hb dB_36_2_33.1.2.2 rfl ?_
  have q_5 : (a1.toInt64).toInt = a1.toInt := Int32.toInt_toInt64 a1
  refine lv_iload_n hx hb dB_36_2_33.2.1.1 rfl (lv_at hl 2 rfl) ?_
  refine lv_i2l (v := a2.toInt64) hx hb dB_36_2_33.2.1.2 rfl ?_
  have q_7 : (a2.toInt64).toInt = a2.toInt := Int32.toInt_toInt64 a2
  refine ct_R hP hD [ob3_0_ xn vp vn n1 n2 n3 n4 n5] [1] (by decide) rfl (fun hPc hDw => ?_)
  have hFc := va_free (wc := []) hD hS hA [] rfl
  refine va_calli (va_runV (As := [.long a1.toInt64, .long a2.toInt64]) (rest := []) ⟨hx, hb, hml, hown, hts⟩ (c_X3_hasPair l D cy s.heap.size xn n1 n2 n3 n4 n5 vp vn a1.toInt64 a2.toInt64) (cwV 2 hts gX11_cut_X3_hasPair rfl rfl rfl ⟨rfl, hd_X3_hasPair⟩ ⟨Nat.le_of_ble_eq_true rfl, Nat.le_of_ble_eq_true rfl⟩) ⟨bl_, va_recvX hK.1 hP (ci := 3) (q0 := 1) rfl rfl, fun U hU hW => ⟨rfl, by rw [hU], by rw [hU]; exact hPc, kk_mv hW hK, hDw⟩⟩ rfl rfl hl.1 rfl (lv_room (Nat.le_of_ble_eq_true rfl)) dB_36_2_33.2.2.1 ⟨Nat.le_of_ble_eq_true rfl, Nat.le_of_ble_eq_true rfl⟩) hS (fun q _ h => hFc q h) hFc (fun r_1 u t H locs ht hvm hw hB hz1 hk1 hS => ?_)
  have hP : va_P D vwCl _ H := ro_keep hP hk1
  rcases hw with ⟨w_2, e_⟩ | ⟨w_2, e_⟩
  · have e_ := e_.symm
    subst e_
    refine lv_if_eq (tgt := 23) hx hb dB_36_2_33.2.2.2 (by decide) (fun c_3 => ?_) (fun c_3 => ?_)
    · exact absurd c_3 (by decide)
    · have _ := c_3
      refine lv_iload_n hx hb dB_36_3_13.1.1.1.1 rfl (lv_at hl 3 rfl) ?_
      refine lv_if_lt (tgt := 23) hx hb dB_36_3_13.1.1.1.2 (by decide) (fun c_4 => ?_) (fun c_4 => ?_)
      · have t_4 : a3.toInt < (0 : Int32).toInt := Int32.lt_iff_toInt_lt.mp c_4
        refine lv_iconst (v := (-1)) hx hb dB_36_3_13.1.2.1.2 (by decide) ?_
        rw [hQ]
        exact W.iret (v := (-1)) hx hb hr (fun t ht hW => ⟨⟨(-1), (), rfl, trivial, Ml, Mr, f4, f5, f6, f7, f8, (by first | with_reducible assumption | assumption | exact rng_zero (by omega) (by omega) | omega), (by first | with_reducible assumption | assumption | exact rng_zero (by omega) (by omega) | omega), by rw [ht]; exact hP, hD⟩, hS.F ht⟩) hS.2.2 dB_36_3_13.1.2.2.1
      · have t_4 : ¬ a3.toInt < (0 : Int32).toInt := fun h => c_4 (Int32.lt_iff_toInt_lt.mpr h)
        refine lv_iload_n hx hb dB_36_3_13.1.1.2.1 rfl (lv_at hl 3 rfl) ?_
        refine lv_iconst (v := 1) hx hb dB_36_3_13.1.1.2.2 (by decide) ?_
        refine lv_icmp_le (tgt := 25) hx hb dB_36_3_13.1.2.1.1 (by decide) (fun c_5 => ?_) (fun c_5 => ?_)
        · have t_5 : a3.toInt ≤ (1 : Int32).toInt := Int32.le_iff_toInt_le.mp c_5
          refine lv_aload_n hx hb dB_36_3_13.1.2.2.2 rfl (lv_at hl 0 rfl) ?_
          refine lv_iload_n hx hb dB_36_3_13.2.1.1.1 rfl (lv_at hl 1 rfl) ?_
          refine lv_iload_n hx hb dB_36_3_13.2.1.1.2 rfl (lv_at hl 2 rfl) ?_
          refine ct_S hP hD hS hA [ob11_0_ xo xk xn xc xh xt xw xm xp pf ph tr fi, ob3_0_ xn vp vn n1 n2 n3 n4 n5, ai_ cy n1 40 fk, ai_ cy n2 40 fs, ai_ cy n3 40 fe, ai_ cy n4 40 fw, ai_ cy n5 40 fp, ob0_0_ xc xn xk clo cro c4 c5 c6 c7 c8, aq_ cy 6 clo 12 (gf_ rl), ai_ cy (rl 0) 12 (Ml 0), ai_ cy (rl 1) 12 (Ml 1), ai_ cy (rl 2) 12 (Ml 2), ai_ cy (rl 3) 12 (Ml 3), ai_ cy (rl 4) 12 (Ml 4), ai_ cy (rl 5) 12 (Ml 5), ai_ cy (rl 6) 12 (Ml 6), ai_ cy (rl 7) 12 (Ml 7), ai_ cy (rl 8) 12 (Ml 8), ai_ cy (rl 9) 12 (Ml 9), ai_ cy (rl 10) 12 (Ml 10), ai_ cy (rl 11) 12 (Ml 11), aq_ cy 6 cro 12 (gf_ rr), ai_ cy (rr 0) 12 (Mr 0), ai_ cy (rr 1) 12 (Mr 1), ai_ cy (rr 2) 12 (Mr 2), ai_ cy (rr 3) 12 (Mr 3), ai_ cy (rr 4) 12 (Mr 4), ai_ cy (rr 5) 12 (Mr 5), ai_ cy (rr 6) 12 (Mr 6), ai_ cy (rr 7) 12 (Mr 7), ai_ cy (rr 8) 12 (Mr 8), ai_ cy (rr 9) 12 (Mr 9), ai_ cy (rr 10) 12 (Mr 10), ai_ cy (rr 11) 12 (Mr 11), ai_ cy c4 40 f4, ai_ cy c5 40 f5, ai_ cy c6 40 f6, ai_ cy c7 12 f7, ai_ cy c8 12 f8, aq_ cy 3 xk 5 (kf_ k0 k1 k2 k3 k4), ob6_0_ k0, ob5_0_ k1, ob9_0_ k2, ob2_0_ k3, ob8_0_ k4] [0, 1, 2, 3, 4, 5, 6, 7, 8, 9, 10, 11, 12, 13, 14, 15, 16, 17, 18, 19, 20, 21, 22, 23, 24, 25, 26, 27, 28, 29, 30, 31, 32, 33, 34, 35, 36, 37, 38, 39, 40, 41, 42, 43, 44] (by decide +kernel) rfl (fun hPc hDw hFc hC_ => ?_)
          refine va_calli (va_runV (As := [.int a1, .int a2]) (rest := []) ⟨hx, hb, hml, hown, hts⟩ (c_X11_mostNow l D cy H.size xo xk xn xc xh xt xw xm xp pf ph tr fi n1 n2 n3 n4 n5 vp vn clo cro c4 c5 c6 c7 c8 fk fs fe fw fp rl Ml rr Mr f4 f5 f6 f7 f8 k0 k1 k2 k3 k4 a1 a2 (by first | with_reducible assumption | omega | assumption) (by first | with_reducible assumption | omega | assumption) (by first | with_reducible assumption | omega | assumption) (by first | with_reducible assumption | omega | assumption) (by first | with_reducible assumption | assumption | omega) (by first | with_reducible assumption | assumption | omega) (by first | with_reducible assumption | assumption | omega) (by first | with_reducible assumption | assumption | omega)) (cwV 2 hts gX11_cut_X11_mostNow rfl rfl rfl ⟨rfl, hd_X11_mostNow⟩ ⟨Nat.le_of_ble_eq_true rfl, Nat.le_of_ble_eq_true rfl⟩) ⟨bl_g, va_recvX hK.1 hP (ci := 11) (q0 := 0) rfl rfl, fun U hU hW => ⟨rfl, by rw [hU], by rw [hU]; exact hPc, ⟨kk_mv hW hK, arrOfT_moved hW.alike hG⟩, hDw⟩⟩ rfl rfl hl.1 rfl (lv_room (Nat.le_of_ble_eq_true rfl)) dB_36_3_13.2.1.2.1 ⟨Nat.le_of_ble_eq_true rfl, Nat.le_of_ble_eq_true rfl⟩) hS (fun q _ h => hFc q h) hFc (fun r_6 u t H locs ht hvm hw hB hz1 hk1 hS => ?_)
          obtain ⟨eMl_7, eMr_8, e4_9, e5_10, e6_11, e7_12, e8_13, g_14, g_15, hP1, hD1⟩ := hB
          rw [ht] at hP1
          obtain ⟨hP, hD⟩ := va_join (wr := []) (w1 := [ob11_0_ xo xk xn xc xh xt xw xm xp pf ph tr fi, ob3_0_ xn vp vn n1 n2 n3 n4 n5, ai_ cy n1 40 fk, ai_ cy n2 40 fs, ai_ cy n3 40 fe, ai_ cy n4 40 fw, ai_ cy n5 40 fp, ob0_0_ xc xn xk clo cro c4 c5 c6 c7 c8, aq_ cy 6 clo 12 (gf_ rl), ai_ cy (rl 0) 12 (eMl_7 0), ai_ cy (rl 1) 12 (eMl_7 1), ai_ cy (rl 2) 12 (eMl_7 2), ai_ cy (rl 3) 12 (eMl_7 3), ai_ cy (rl 4) 12 (eMl_7 4), ai_ cy (rl 5) 12 (eMl_7 5), ai_ cy (rl 6) 12 (eMl_7 6), ai_ cy (rl 7) 12 (eMl_7 7), ai_ cy (rl 8) 12 (eMl_7 8), ai_ cy (rl 9) 12 (eMl_7 9), ai_ cy (rl 10) 12 (eMl_7 10), ai_ cy (rl 11) 12 (eMl_7 11), aq_ cy 6 cro 12 (gf_ rr), ai_ cy (rr 0) 12 (eMr_8 0), ai_ cy (rr 1) 12 (eMr_8 1), ai_ cy (rr 2) 12 (eMr_8 2), ai_ cy (rr 3) 12 (eMr_8 3), ai_ cy (rr 4) 12 (eMr_8 4), ai_ cy (rr 5) 12 (eMr_8 5), ai_ cy (rr 6) 12 (eMr_8 6), ai_ cy (rr 7) 12 (eMr_8 7), ai_ cy (rr 8) 12 (eMr_8 8), ai_ cy (rr 9) 12 (eMr_8 9), ai_ cy (rr 10) 12 (eMr_8 10), ai_ cy (rr 11) 12 (eMr_8 11), ai_ cy c4 40 e4_9, ai_ cy c5 40 e5_10, ai_ cy c6 40 e6_11, ai_ cy c7 12 e7_12, ai_ cy c8 12 e8_13, aq_ cy 3 xk 5 (kf_ k0 k1 k2 k3 k4), ob6_0_ k0, ob5_0_ k1, ob9_0_ k2, ob2_0_ k3, ob8_0_ k4]) hP hD [0, 1, 2, 3, 4, 5, 6, 7, 8, 9, 10, 11, 12, 13, 14, 15, 16, 17, 18, 19, 20, 21, 22, 23, 24, 25, 26, 27, 28, 29, 30, 31, 32, 33, 34, 35, 36, 37, 38, 39, 40, 41, 42, 43, 44] [] hC_ rfl (by decide) (by decide) hk1 hFc hP1 hD1
          refine pd_K [ob11_0_ xo xk xn xc xh xt xw xm xp pf ph tr fi, ob3_0_ xn vp vn n1 n2 n3 n4 n5, ai_ cy n1 40 fk, ai_ cy n2 40 fs, ai_ cy n3 40 fe, ai_ cy n4 40 fw, ai_ cy n5 40 fp, ob0_0_ xc xn xk clo cro c4 c5 c6 c7 c8, aq_ cy 6 clo 12 (gf_ rl), ai_ cy (rl 0) 12 (eMl_7 0), ai_ cy (rl 1) 12 (eMl_7 1), ai_ cy (rl 2) 12 (eMl_7 2), ai_ cy (rl 3) 12 (eMl_7 3), ai_ cy (rl 4) 12 (eMl_7 4), ai_ cy (rl 5) 12 (eMl_7 5), ai_ cy (rl 6) 12 (eMl_7 6), ai_ cy (rl 7) 12 (eMl_7 7), ai_ cy (rl 8) 12 (eMl_7 8), ai_ cy (rl 9) 12 (eMl_7 9), ai_ cy (rl 10) 12 (eMl_7 10), ai_ cy (rl 11) 12 (eMl_7 11), aq_ cy 6 cro 12 (gf_ rr), ai_ cy (rr 0) 12 (eMr_8 0), ai_ cy (rr 1) 12 (eMr_8 1), ai_ cy (rr 2) 12 (eMr_8 2), ai_ cy (rr 3) 12 (eMr_8 3), ai_ cy (rr 4) 12 (eMr_8 4), ai_ cy (rr 5) 12 (eMr_8 5), ai_ cy (rr 6) 12 (eMr_8 6), ai_ cy (rr 7) 12 (eMr_8 7), ai_ cy (rr 8) 12 (eMr_8 8), ai_ cy (rr 9) 12 (eMr_8 9), ai_ cy (rr 10) 12 (eMr_8 10), ai_ cy (rr 11) 12 (eMr_8 11), ai_ cy c4 40 e4_9, ai_ cy c5 40 e5_10, ai_ cy c6 40 e6_11, ai_ cy c7 12 e7_12, ai_ cy c8 12 e8_13, aq_ cy 3 xk 5 (kf_ k0 k1 k2 k3 k4), ob6_0_ k0, ob5_0_ k1, ob9_0_ k2, ob2_0_ k3, ob8_0_ k4] hP hD (fun hP hD => ?_)
          refine lv_bipush (v := (-5)) hx hb dB_36_3_13.2.1.2.2 (by decide) ?_
          refine lv_icmp_ne (tgt := 39) hx hb dB_36_3_13.2.2.1.1 (by decide) (fun c_16 => ?_) (fun c_16 => ?_)
          · have t_16 : ¬ r_6.toInt = ((-5) : Int32).toInt := fun h => c_16 (Int32.toInt_inj.mp h)
            refine lv_iload_n hx hb dB_36_3_13.2.2.2.2 rfl (lv_at hl 3 rfl) ?_
            refine lv_if_ne (tgt := 54) hx hb dB_36_3_14.1.1.1 (by decide) (fun c_17 => ?_) (fun c_17 => ?_)
            · have t_17 : ¬ a3.toInt = (0 : Int32).toInt := fun h => c_17 (Int32.toInt_inj.mp h)
              refine lv_aload_n hx hb dB_36_3_14.2.1.2.1 rfl (lv_at hl 0 rfl) ?_
              refine va_get (ci := 11) (v := .ref xc) (C := RX11) (T := TX11) (N := 12) hx hb hts (fun _ h => List.mem_cons_of_mem _ (List.mem_append_left _ (List.mem_append_left _ (List.mem_append_right _ h)))) hown hK.1 hP 0 rfl rfl 2 (by decide) (hts (.fieldLink RX11 40 "CutAtlas" "current" "LCutAtlas$Current;") (List.mem_of_getElem? (i := 2) rfl)) (fun _ h9 => h9) rfl dB_36_3_14.2.1.2.2 ?_
              refine lv_iload_n hx hb dB_36_3_14.2.2.1 rfl (lv_at hl 2 rfl) ?_
              refine ct_S hP hD hS hA [ob0_0_ xc xn xk clo cro c4 c5 c6 c7 c8, ob3_0_ xn vp vn n1 n2 n3 n4 n5, aq_ cy 6 cro 12 (gf_ rr), ai_ cy (rr 0) 12 (eMr_8 0), ai_ cy (rr 1) 12 (eMr_8 1), ai_ cy (rr 2) 12 (eMr_8 2), ai_ cy (rr 3) 12 (eMr_8 3), ai_ cy (rr 4) 12 (eMr_8 4), ai_ cy (rr 5) 12 (eMr_8 5), ai_ cy (rr 6) 12 (eMr_8 6), ai_ cy (rr 7) 12 (eMr_8 7), ai_ cy (rr 8) 12 (eMr_8 8), ai_ cy (rr 9) 12 (eMr_8 9), ai_ cy (rr 10) 12 (eMr_8 10), ai_ cy (rr 11) 12 (eMr_8 11), ai_ cy c7 12 e7_12] [7, 1, 21, 22, 23, 24, 25, 26, 27, 28, 29, 30, 31, 32, 33, 37] (by decide +kernel) rfl (fun hPc hDw hFc hC_ => ?_)
              refine va_calli (va_runV (As := [.int a2]) (rest := []) ⟨hx, hb, hml, hown, hts⟩ (c_X0_farCut l D cy H.size xc xk clo cro c4 c5 c6 c7 c8 xn n1 n2 n3 n4 n5 vp vn rr eMr_8 e7_12 a2 (by first | with_reducible assumption | omega | assumption) (by first | with_reducible assumption | omega | assumption) (by first | with_reducible assumption | assumption | omega)) (cwV 1 hts gX11_cut_X0_farCut rfl rfl rfl ⟨rfl, hd_X0_farCut⟩ ⟨Nat.le_of_ble_eq_true rfl, Nat.le_of_ble_eq_true rfl⟩) ⟨bl_g, va_recvX hK.1 hP (ci := 0) (q0 := 7) rfl rfl, fun U hU hW => ⟨rfl, by rw [hU], by rw [hU]; exact hPc, ⟨kk_mv hW hK, arrOfT_moved hW.alike hG⟩, hDw⟩⟩ rfl rfl hl.1 rfl (lv_room (Nat.le_of_ble_eq_true rfl)) dB_36_3_14.2.2.2.1 ⟨Nat.le_of_ble_eq_true rfl, Nat.le_of_ble_eq_true rfl⟩) hS (fun q _ h => hFc q h) hFc (fun r_18 u t H locs ht hvm hw hB hz1 hk1 hS => ?_)
              obtain ⟨e7_19, g_20, hP1, hD1⟩ := hB
              rw [ht] at hP1
              obtain ⟨hP, hD⟩ := va_join (wr := [ob11_0_ xo xk xn xc xh xt xw xm xp pf ph tr fi, ai_ cy n1 40 fk, ai_ cy n2 40 fs, ai_ cy n3 40 fe, ai_ cy n4 40 fw, ai_ cy n5 40 fp, aq_ cy 6 clo 12 (gf_ rl), ai_ cy (rl 0) 12 (eMl_7 0), ai_ cy (rl 1) 12 (eMl_7 1), ai_ cy (rl 2) 12 (eMl_7 2), ai_ cy (rl 3) 12 (eMl_7 3), ai_ cy (rl 4) 12 (eMl_7 4), ai_ cy (rl 5) 12 (eMl_7 5), ai_ cy (rl 6) 12 (eMl_7 6), ai_ cy (rl 7) 12 (eMl_7 7), ai_ cy (rl 8) 12 (eMl_7 8), ai_ cy (rl 9) 12 (eMl_7 9), ai_ cy (rl 10) 12 (eMl_7 10), ai_ cy (rl 11) 12 (eMl_7 11), ai_ cy c4 40 e4_9, ai_ cy c5 40 e5_10, ai_ cy c6 40 e6_11, ai_ cy c8 12 e8_13, aq_ cy 3 xk 5 (kf_ k0 k1 k2 k3 k4), ob6_0_ k0, ob5_0_ k1, ob9_0_ k2, ob2_0_ k3, ob8_0_ k4]) (w1 := [ob0_0_ xc xn xk clo cro c4 c5 c6 c7 c8, ob3_0_ xn vp vn n1 n2 n3 n4 n5, aq_ cy 6 cro 12 (gf_ rr), ai_ cy (rr 0) 12 (eMr_8 0), ai_ cy (rr 1) 12 (eMr_8 1), ai_ cy (rr 2) 12 (eMr_8 2), ai_ cy (rr 3) 12 (eMr_8 3), ai_ cy (rr 4) 12 (eMr_8 4), ai_ cy (rr 5) 12 (eMr_8 5), ai_ cy (rr 6) 12 (eMr_8 6), ai_ cy (rr 7) 12 (eMr_8 7), ai_ cy (rr 8) 12 (eMr_8 8), ai_ cy (rr 9) 12 (eMr_8 9), ai_ cy (rr 10) 12 (eMr_8 10), ai_ cy (rr 11) 12 (eMr_8 11), ai_ cy c7 12 e7_19]) hP hD [7, 1, 21, 22, 23, 24, 25, 26, 27, 28, 29, 30, 31, 32, 33, 37] [0, 2, 3, 4, 5, 6, 8, 9, 10, 11, 12, 13, 14, 15, 16, 17, 18, 19, 20, 34, 35, 36, 38, 39, 40, 41, 42, 43, 44] hC_ rfl (by decide +kernel) (by decide +kernel) hk1 hFc hP1 hD1
              refine pd_S hP hD [ob11_0_ xo xk xn xc xh xt xw xm xp pf ph tr fi, ob3_0_ xn vp vn n1 n2 n3 n4 n5, ai_ cy n1 40 fk, ai_ cy n2 40 fs, ai_ cy n3 40 fe, ai_ cy n4 40 fw, ai_ cy n5 40 fp, ob0_0_ xc xn xk clo cro c4 c5 c6 c7 c8, aq_ cy 6 clo 12 (gf_ rl), ai_ cy (rl 0) 12 (eMl_7 0), ai_ cy (rl 1) 12 (eMl_7 1), ai_ cy (rl 2) 12 (eMl_7 2), ai_ cy (rl 3) 12 (eMl_7 3), ai_ cy (rl 4) 12 (eMl_7 4), ai_ cy (rl 5) 12 (eMl_7 5), ai_ cy (rl 6) 12 (eMl_7 6), ai_ cy (rl 7) 12 (eMl_7 7), ai_ cy (rl 8) 12 (eMl_7 8), ai_ cy (rl 9) 12 (eMl_7 9), ai_ cy (rl 10) 12 (eMl_7 10), ai_ cy (rl 11) 12 (eMl_7 11), aq_ cy 6 cro 12 (gf_ rr), ai_ cy (rr 0) 12 (eMr_8 0), ai_ cy (rr 1) 12 (eMr_8 1), ai_ cy (rr 2) 12 (eMr_8 2), ai_ cy (rr 3) 12 (eMr_8 3), ai_ cy (rr 4) 12 (eMr_8 4), ai_ cy (rr 5) 12 (eMr_8 5), ai_ cy (rr 6) 12 (eMr_8 6), ai_ cy (rr 7) 12 (eMr_8 7), ai_ cy (rr 8) 12 (eMr_8 8), ai_ cy (rr 9) 12 (eMr_8 9), ai_ cy (rr 10) 12 (eMr_8 10), ai_ cy (rr 11) 12 (eMr_8 11), ai_ cy c4 40 e4_9, ai_ cy c5 40 e5_10, ai_ cy c6 40 e6_11, ai_ cy c7 12 e7_19, ai_ cy c8 12 e8_13, aq_ cy 3 xk 5 (kf_ k0 k1 k2 k3 k4), ob6_0_ k0, ob5_0_ k1, ob9_0_ k2, ob2_0_ k3, ob8_0_ k4] [0, 30, 1, 2, 3, 4, 5, 29, 6, 7, 8, 9, 10, 11, 12, 13, 14, 15, 16, 17, 18, 31, 32, 33, 34, 35, 36, 37, 38, 39, 40, 41, 42, 43, 19, 20, 21, 44, 22, 23, 24, 25, 26, 27, 28] (by decide +kernel) rfl (fun hP hD => ?_)
              rw [hQ]
              exact W.iret (v := r_18) hx hb hr (fun t ht hW => ⟨⟨r_18, (), rfl, trivial, eMl_7, eMr_8, e4_9, e5_10, e6_11, e7_19, e8_13, (by first | with_reducible assumption | assumption | exact rng_zero (by omega) (by omega) | omega), (by first | with_reducible assumption | assumption | exact rng_zero (by omega) (by omega) | omega), by rw [ht]; exact hP, hD⟩, hS.F ht⟩) hS.2.2 dB_36_3_14.2.2.2.2
            · have t_17 : a3.toInt = (0 : Int32).toInt := congrArg Int32.toInt c_17
              refine lv_aload_n hx hb dB_36_3_14.1.1.2 rfl (lv_at hl 0 rfl) ?_
              refine va_get (ci := 11) (v := .ref xc) (C := RX11) (T := TX11) (N := 12) hx hb hts (fun _ h => List.mem_cons_of_mem _ (List.mem_append_left _ (List.mem_append_left _ (List.mem_append_right _ h)))) hown hK.1 hP 0 rfl rfl 2 (by decide) (hts (.fieldLink RX11 40 "CutAtlas" "current" "LCutAtlas$Current;") (List.mem_of_getElem? (i := 2) rfl)) (fun _ h9 => h9) rfl dB_36_3_14.1.2.1 ?_
              refine lv_iload_n hx hb dB_36_3_14.1.2.2.1 rfl (lv_at hl 1 rfl) ?_
              refine ct_S hP hD hS hA [ob0_0_ xc xn xk clo cro c4 c5 c6 c7 c8, ob3_0_ xn vp vn n1 n2 n3 n4 n5, aq_ cy 6 cro 12 (gf_ rr), ai_ cy (rr 0) 12 (eMr_8 0), ai_ cy (rr 1) 12 (eMr_8 1), ai_ cy (rr 2) 12 (eMr_8 2), ai_ cy (rr 3) 12 (eMr_8 3), ai_ cy (rr 4) 12 (eMr_8 4), ai_ cy (rr 5) 12 (eMr_8 5), ai_ cy (rr 6) 12 (eMr_8 6), ai_ cy (rr 7) 12 (eMr_8 7), ai_ cy (rr 8) 12 (eMr_8 8), ai_ cy (rr 9) 12 (eMr_8 9), ai_ cy (rr 10) 12 (eMr_8 10), ai_ cy (rr 11) 12 (eMr_8 11), ai_ cy c7 12 e7_12] [7, 1, 21, 22, 23, 24, 25, 26, 27, 28, 29, 30, 31, 32, 33, 37] (by decide +kernel) rfl (fun hPc hDw hFc hC_ => ?_)
              refine va_calli (va_runV (As := [.int a1]) (rest := []) ⟨hx, hb, hml, hown, hts⟩ (c_X0_nearCut l D cy H.size xc xk clo cro c4 c5 c6 c7 c8 xn n1 n2 n3 n4 n5 vp vn rr eMr_8 e7_12 a1 (by first | with_reducible assumption | omega | assumption) (by first | with_reducible assumption | omega | assumption) (by first | with_reducible assumption | assumption | omega)) (cwV 1 hts gX11_cut_X0_nearCut rfl rfl rfl ⟨rfl, hd_X0_nearCut⟩ ⟨Nat.le_of_ble_eq_true rfl, Nat.le_of_ble_eq_true rfl⟩) ⟨bl_g, va_recvX hK.1 hP (ci := 0) (q0 := 7) rfl rfl, fun U hU hW => ⟨rfl, by rw [hU], by rw [hU]; exact hPc, ⟨kk_mv hW hK, arrOfT_moved hW.alike hG⟩, hDw⟩⟩ rfl rfl hl.1 rfl (lv_room (Nat.le_of_ble_eq_true rfl)) dB_36_3_14.1.2.2.2 ⟨Nat.le_of_ble_eq_true rfl, Nat.le_of_ble_eq_true rfl⟩) hS (fun q _ h => hFc q h) hFc (fun r_21 u t H locs ht hvm hw hB hz1 hk1 hS => ?_)
              obtain ⟨e7_22, g_23, hP1, hD1⟩ := hB
              rw [ht] at hP1
              obtain ⟨hP, hD⟩ := va_join (wr := [ob11_0_ xo xk xn xc xh xt xw xm xp pf ph tr fi, ai_ cy n1 40 fk, ai_ cy n2 40 fs, ai_ cy n3 40 fe, ai_ cy n4 40 fw, ai_ cy n5 40 fp, aq_ cy 6 clo 12 (gf_ rl), ai_ cy (rl 0) 12 (eMl_7 0), ai_ cy (rl 1) 12 (eMl_7 1), ai_ cy (rl 2) 12 (eMl_7 2), ai_ cy (rl 3) 12 (eMl_7 3), ai_ cy (rl 4) 12 (eMl_7 4), ai_ cy (rl 5) 12 (eMl_7 5), ai_ cy (rl 6) 12 (eMl_7 6), ai_ cy (rl 7) 12 (eMl_7 7), ai_ cy (rl 8) 12 (eMl_7 8), ai_ cy (rl 9) 12 (eMl_7 9), ai_ cy (rl 10) 12 (eMl_7 10), ai_ cy (rl 11) 12 (eMl_7 11), ai_ cy c4 40 e4_9, ai_ cy c5 40 e5_10, ai_ cy c6 40 e6_11, ai_ cy c8 12 e8_13, aq_ cy 3 xk 5 (kf_ k0 k1 k2 k3 k4), ob6_0_ k0, ob5_0_ k1, ob9_0_ k2, ob2_0_ k3, ob8_0_ k4]) (w1 := [ob0_0_ xc xn xk clo cro c4 c5 c6 c7 c8, ob3_0_ xn vp vn n1 n2 n3 n4 n5, aq_ cy 6 cro 12 (gf_ rr), ai_ cy (rr 0) 12 (eMr_8 0), ai_ cy (rr 1) 12 (eMr_8 1), ai_ cy (rr 2) 12 (eMr_8 2), ai_ cy (rr 3) 12 (eMr_8 3), ai_ cy (rr 4) 12 (eMr_8 4), ai_ cy (rr 5) 12 (eMr_8 5), ai_ cy (rr 6) 12 (eMr_8 6), ai_ cy (rr 7) 12 (eMr_8 7), ai_ cy (rr 8) 12 (eMr_8 8), ai_ cy (rr 9) 12 (eMr_8 9), ai_ cy (rr 10) 12 (eMr_8 10), ai_ cy (rr 11) 12 (eMr_8 11), ai_ cy c7 12 e7_22]) hP hD [7, 1, 21, 22, 23, 24, 25, 26, 27, 28, 29, 30, 31, 32, 33, 37] [0, 2, 3, 4, 5, 6, 8, 9, 10, 11, 12, 13, 14, 15, 16, 17, 18, 19, 20, 34, 35, 36, 38, 39, 40, 41, 42, 43, 44] hC_ rfl (by decide +kernel) (by decide +kernel) hk1 hFc hP1 hD1
              refine pd_S hP hD [ob11_0_ xo xk xn xc xh xt xw xm xp pf ph tr fi, ob3_0_ xn vp vn n1 n2 n3 n4 n5, ai_ cy n1 40 fk, ai_ cy n2 40 fs, ai_ cy n3 40 fe, ai_ cy n4 40 fw, ai_ cy n5 40 fp, ob0_0_ xc xn xk clo cro c4 c5 c6 c7 c8, aq_ cy 6 clo 12 (gf_ rl), ai_ cy (rl 0) 12 (eMl_7 0), ai_ cy (rl 1) 12 (eMl_7 1), ai_ cy (rl 2) 12 (eMl_7 2), ai_ cy (rl 3) 12 (eMl_7 3), ai_ cy (rl 4) 12 (eMl_7 4), ai_ cy (rl 5) 12 (eMl_7 5), ai_ cy (rl 6) 12 (eMl_7 6), ai_ cy (rl 7) 12 (eMl_7 7), ai_ cy (rl 8) 12 (eMl_7 8), ai_ cy (rl 9) 12 (eMl_7 9), ai_ cy (rl 10) 12 (eMl_7 10), ai_ cy (rl 11) 12 (eMl_7 11), aq_ cy 6 cro 12 (gf_ rr), ai_ cy (rr 0) 12 (eMr_8 0), ai_ cy (rr 1) 12 (eMr_8 1), ai_ cy (rr 2) 12 (eMr_8 2), ai_ cy (rr 3) 12 (eMr_8 3), ai_ cy (rr 4) 12 (eMr_8 4), ai_ cy (rr 5) 12 (eMr_8 5), ai_ cy (rr 6) 12 (eMr_8 6), ai_ cy (rr 7) 12 (eMr_8 7), ai_ cy (rr 8) 12 (eMr_8 8), ai_ cy (rr 9) 12 (eMr_8 9), ai_ cy (rr 10) 12 (eMr_8 10), ai_ cy (rr 11) 12 (eMr_8 11), ai_ cy c4 40 e4_9, ai_ cy c5 40 e5_10, ai_ cy c6 40 e6_11, ai_ cy c7 12 e7_22, ai_ cy c8 12 e8_13, aq_ cy 3 xk 5 (kf_ k0 k1 k2 k3 k4), ob6_0_ k0, ob5_0_ k1, ob9_0_ k2, ob2_0_ k3, ob8_0_ k4] [0, 30, 1, 2, 3, 4, 5, 29, 6, 7, 8, 9, 10, 11, 12, 13, 14, 15, 16, 17, 18, 31, 32, 33, 34, 35, 36, 37, 38, 39, 40, 41, 42, 43, 19, 20, 21, 44, 22, 23, 24, 25, 26, 27, 28] (by decide +kernel) rfl (fun hP hD => ?_)
              refine lv_goto (tgt := 62) hx hb dB_36_3_14.2.1.1 (by decide) ?_
              rw [hQ]
              exact W.iret (v := r_21) hx hb hr (fun t ht hW => ⟨⟨r_21, (), rfl, trivial, eMl_7, eMr_8, e4_9, e5_10, e6_11, e7_22, e8_13, (by first | with_reducible assumption | assumption | exact rng_zero (by omega) (by omega) | omega), (by first | with_reducible assumption | assumption | exact rng_zero (by omega) (by omega) | omega), by rw [ht]; exact hP, hD⟩, hS.F ht⟩) hS.2.2 dB_36_3_14.2.2.2.2
          · have t_16 : r_6.toInt = ((-5) : Int32).toInt := congrArg Int32.toInt c_16
            refine lv_bipush (v := (-5)) hx hb dB_36_3_13.2.2.1.2 (by decide) ?_
            rw [hQ]
            exact W.iret (v := (-5)) hx hb hr (fun t ht hW => ⟨⟨(-5), (), rfl, trivial, eMl_7, eMr_8, e4_9, e5_10, e6_11, e7_12, e8_13, (by first | with_reducible assumption | assumption | exact rng_zero (by omega) (by omega) | omega), (by first | with_reducible assumption | assumption | exact rng_zero (by omega) (by omega) | omega), by rw [ht]; exact hP, hD⟩, hS.F ht⟩) hS.2.2 dB_36_3_13.2.2.2.1
        · have t_5 : ¬ a3.toInt ≤ (1 : Int32).toInt := fun h => c_5 (Int32.le_iff_toInt_le.mpr h)
          refine lv_iconst (v := (-1)) hx hb dB_36_3_13.1.2.1.2 (by decide) ?_
          rw [hQ]
          exact W.iret (v := (-1)) hx hb hr (fun t ht hW => ⟨⟨(-1), (), rfl, trivial, Ml, Mr, f4, f5, f6, f7, f8, (by first | with_reducible assumption | assumption | exact rng_zero (by omega) (by omega) | omega), (by first | with_reducible assumption | assumption | exact rng_zero (by omega) (by omega) | omega), by rw [ht]; exact hP, hD⟩, hS.F ht⟩) hS.2.2 dB_36_3_13.1.2.2.1
  · have e_ := e_.symm
    subst e_
    refine lv_if_eq (tgt := 23) hx hb dB_36_2_33.2.2.2 (by decide) (fun c_24 => ?_) (fun c_24 => ?_)
    · have _ := c_24
      refine lv_iconst (v := (-1)) hx hb dB_36_3_13.1.2.1.2 (by decide) ?_
      rw [hQ]
      exact W.iret (v := (-1)) hx hb hr (fun t ht hW => ⟨⟨(-1), (), rfl, trivial, Ml, Mr, f4, f5, f6, f7, f8, (by first | with_reducible assumption | assumption | exact rng_zero (by omega) (by omega) | omega), (by first | with_reducible assumption | assumption | exact rng_zero (by omega) (by omega) | omega), by rw [ht]; exact hP, hD⟩, hS.F ht⟩) hS.2.2 dB_36_3_13.1.2.2.1
    · exact absurd c_24 (by decide)

set_option maxHeartbeats 4000000 in
set_option maxRecDepth 100000 in
theorem c_X11_size (l : Launch) (D : va_G) (cy : Nat → ClassId) (sz : Nat) (xo : Nat) (xk : Nat) (xn : Nat) (xc : Nat) (xh : Nat) (xt : Nat) (xw : Nat) (xm : Nat) (xp : Nat) (pf : Int32) (ph : Int32) (tr : Int64) (fi : Int32) (n1 : Nat) (n2 : Nat) (n3 : Nat) (n4 : Nat) (n5 : Nat) (vp : Int32) (vn : Int32) (clo : Nat) (cro : Nat) (c4 : Nat) (c5 : Nat) (c6 : Nat) (c7 : Nat) (c8 : Nat) (fk : Nat → Int32) (fs : Nat → Int32) (fe : Nat → Int32) (fw : Nat → Int32) (fp : Nat → Int32) (rl : Nat → Nat) (Ml : Nat → Nat → Int32) (rr : Nat → Nat) (Mr : Nat → Nat → Int32) (f4 : Nat → Int32) (f5 : Nat → Int32) (f6 : Nat → Int32) (f7 : Nat → Int32) (f8 : Nat → Int32) (k0 : Nat) (k1 : Nat) (k2 : Nat) (k3 : Nat) (k4 : Nat) (a1 : Int32) (a2 : Int32) (a3 : Int32) (hvp : 0 ≤ vp.toInt ∧ vp.toInt ≤ 12) (hvn : 0 ≤ vn.toInt ∧ vn.toInt ≤ 40) (hpr : prng fs fe 40) (r_f7 : rng f7 12 (0) (11)) (r_f8 : rng f8 12 (0) (11)) (r_fk : rng fk 40 (0) (4)) : Met l yX11_size wsX11_size ({ frames := 3, cells := 0, slots := 0, locals := 68 }) (va_Pc [.ref xo, .int a1, .int a2, .int a3] (fun U => U.heap.size = sz ∧ va_P D vwCl [ob11_0_ xo xk xn xc xh xt xw xm xp pf ph tr fi, ob3_0_ xn vp vn n1 n2 n3 n4 n5, ai_ cy n1 40 fk, ai_ cy n2 40 fs, ai_ cy n3 40 fe, ai_ cy n4 40 fw, ai_ cy n5 40 fp, ob0_0_ xc xn xk clo cro c4 c5 c6 c7 c8, aq_ cy 6 clo 12 (gf_ rl), ai_ cy (rl 0) 12 (Ml 0), ai_ cy (rl 1) 12 (Ml 1), ai_ cy (rl 2) 12 (Ml 2), ai_ cy (rl 3) 12 (Ml 3), ai_ cy (rl 4) 12 (Ml 4), ai_ cy (rl 5) 12 (Ml 5), ai_ cy (rl 6) 12 (Ml 6), ai_ cy (rl 7) 12 (Ml 7), ai_ cy (rl 8) 12 (Ml 8), ai_ cy (rl 9) 12 (Ml 9), ai_ cy (rl 10) 12 (Ml 10), ai_ cy (rl 11) 12 (Ml 11), aq_ cy 6 cro 12 (gf_ rr), ai_ cy (rr 0) 12 (Mr 0), ai_ cy (rr 1) 12 (Mr 1), ai_ cy (rr 2) 12 (Mr 2), ai_ cy (rr 3) 12 (Mr 3), ai_ cy (rr 4) 12 (Mr 4), ai_ cy (rr 5) 12 (Mr 5), ai_ cy (rr 6) 12 (Mr 6), ai_ cy (rr 7) 12 (Mr 7), ai_ cy (rr 8) 12 (Mr 8), ai_ cy (rr 9) 12 (Mr 9), ai_ cy (rr 10) 12 (Mr 10), ai_ cy (rr 11) 12 (Mr 11), ai_ cy c4 40 f4, ai_ cy c5 40 f5, ai_ cy c6 40 f6, ai_ cy c7 12 f7, ai_ cy c8 12 f8, aq_ cy 3 xk 5 (kf_ k0 k1 k2 k3 k4), ob6_0_ k0, ob5_0_ k1, ob9_0_ k2, ob2_0_ k3, ob8_0_ k4] U.heap ∧ kg_ D cy U ∧ va_D (fun _ => True) [ob11_0_ xo xk xn xc xh xt xw xm xp pf ph tr fi, ob3_0_ xn vp vn n1 n2 n3 n4 n5, ai_ cy n1 40 fk, ai_ cy n2 40 fs, ai_ cy n3 40 fe, ai_ cy n4 40 fw, ai_ cy n5 40 fp, ob0_0_ xc xn xk clo cro c4 c5 c6 c7 c8, aq_ cy 6 clo 12 (gf_ rl), ai_ cy (rl 0) 12 (Ml 0), ai_ cy (rl 1) 12 (Ml 1), ai_ cy (rl 2) 12 (Ml 2), ai_ cy (rl 3) 12 (Ml 3), ai_ cy (rl 4) 12 (Ml 4), ai_ cy (rl 5) 12 (Ml 5), ai_ cy (rl 6) 12 (Ml 6), ai_ cy (rl 7) 12 (Ml 7), ai_ cy (rl 8) 12 (Ml 8), ai_ cy (rl 9) 12 (Ml 9), ai_ cy (rl 10) 12 (Ml 10), ai_ cy (rl 11) 12 (Ml 11), aq_ cy 6 cro 12 (gf_ rr), ai_ cy (rr 0) 12 (Mr 0), ai_ cy (rr 1) 12 (Mr 1), ai_ cy (rr 2) 12 (Mr 2), ai_ cy (rr 3) 12 (Mr 3), ai_ cy (rr 4) 12 (Mr 4), ai_ cy (rr 5) 12 (Mr 5), ai_ cy (rr 6) 12 (Mr 6), ai_ cy (rr 7) 12 (Mr 7), ai_ cy (rr 8) 12 (Mr 8), ai_ cy (rr 9) 12 (Mr 9), ai_ cy (rr 10) 12 (Mr 10), ai_ cy (rr 11) 12 (Mr 11), ai_ cy c4 40 f4, ai_ cy c5 40 f5, ai_ cy c6 40 f6, ai_ cy c7 12 f7, ai_ cy c8 12 f8, aq_ cy 3 xk 5 (kf_ k0 k1 k2 k3 k4), ob6_0_ k0, ob5_0_ k1, ob9_0_ k2, ob2_0_ k3, ob8_0_ k4])) (va_Qi (fun (r : Int32) (_ : Unit) => True) (fun (_ : Unit) (t : State) => ∃ (eMl : Nat → Nat → Int32), ∃ (eMr : Nat → Nat → Int32), ∃ (e4 : Nat → Int32), ∃ (e5 : Nat → Int32), ∃ (e6 : Nat → Int32), ∃ (e7 : Nat → Int32), ∃ (e8 : Nat → Int32), (rng e7 12 (0) (11)) ∧ (rng e8 12 (0) (11)) ∧ va_P D vwCl [ob11_0_ xo xk xn xc xh xt xw xm xp pf ph tr fi, ob3_0_ xn vp vn n1 n2 n3 n4 n5, ai_ cy n1 40 fk, ai_ cy n2 40 fs, ai_ cy n3 40 fe, ai_ cy n4 40 fw, ai_ cy n5 40 fp, ob0_0_ xc xn xk clo cro c4 c5 c6 c7 c8, aq_ cy 6 clo 12 (gf_ rl), ai_ cy (rl 0) 12 (eMl 0), ai_ cy (rl 1) 12 (eMl 1), ai_ cy (rl 2) 12 (eMl 2), ai_ cy (rl 3) 12 (eMl 3), ai_ cy (rl 4) 12 (eMl 4), ai_ cy (rl 5) 12 (eMl 5), ai_ cy (rl 6) 12 (eMl 6), ai_ cy (rl 7) 12 (eMl 7), ai_ cy (rl 8) 12 (eMl 8), ai_ cy (rl 9) 12 (eMl 9), ai_ cy (rl 10) 12 (eMl 10), ai_ cy (rl 11) 12 (eMl 11), aq_ cy 6 cro 12 (gf_ rr), ai_ cy (rr 0) 12 (eMr 0), ai_ cy (rr 1) 12 (eMr 1), ai_ cy (rr 2) 12 (eMr 2), ai_ cy (rr 3) 12 (eMr 3), ai_ cy (rr 4) 12 (eMr 4), ai_ cy (rr 5) 12 (eMr 5), ai_ cy (rr 6) 12 (eMr 6), ai_ cy (rr 7) 12 (eMr 7), ai_ cy (rr 8) 12 (eMr 8), ai_ cy (rr 9) 12 (eMr 9), ai_ cy (rr 10) 12 (eMr 10), ai_ cy (rr 11) 12 (eMr 11), ai_ cy c4 40 e4, ai_ cy c5 40 e5, ai_ cy c6 40 e6, ai_ cy c7 12 e7, ai_ cy c8 12 e8, aq_ cy 3 xk 5 (kf_ k0 k1 k2 k3 k4), ob6_0_ k0, ob5_0_ k1, ob9_0_ k2, ob2_0_ k3, ob8_0_ k4] t.heap ∧ va_D (va_A [ob11_0_ xo xk xn xc xh xt xw xm xp pf ph tr fi, ob3_0_ xn vp vn n1 n2 n3 n4 n5, ai_ cy n1 40 fk, ai_ cy n2 40 fs, ai_ cy n3 40 fe, ai_ cy n4 40 fw, ai_ cy n5 40 fp, ob0_0_ xc xn xk clo cro c4 c5 c6 c7 c8, aq_ cy 6 clo 12 (gf_ rl), ai_ cy (rl 0) 12 (Ml 0), ai_ cy (rl 1) 12 (Ml 1), ai_ cy (rl 2) 12 (Ml 2), ai_ cy (rl 3) 12 (Ml 3), ai_ cy (rl 4) 12 (Ml 4), ai_ cy (rl 5) 12 (Ml 5), ai_ cy (rl 6) 12 (Ml 6), ai_ cy (rl 7) 12 (Ml 7), ai_ cy (rl 8) 12 (Ml 8), ai_ cy (rl 9) 12 (Ml 9), ai_ cy (rl 10) 12 (Ml 10), ai_ cy (rl 11) 12 (Ml 11), aq_ cy 6 cro 12 (gf_ rr), ai_ cy (rr 0) 12 (Mr 0), ai_ cy (rr 1) 12 (Mr 1), ai_ cy (rr 2) 12 (Mr 2), ai_ cy (rr 3) 12 (Mr 3), ai_ cy (rr 4) 12 (Mr 4), ai_ cy (rr 5) 12 (Mr 5), ai_ cy (rr 6) 12 (Mr 6), ai_ cy (rr 7) 12 (Mr 7), ai_ cy (rr 8) 12 (Mr 8), ai_ cy (rr 9) 12 (Mr 9), ai_ cy (rr 10) 12 (Mr 10), ai_ cy (rr 11) 12 (Mr 11), ai_ cy c4 40 f4, ai_ cy c5 40 f5, ai_ cy c6 40 f6, ai_ cy c7 12 f7, ai_ cy c8 12 f8, aq_ cy 3 xk 5 (kf_ k0 k1 k2 k3 k4), ob6_0_ k0, ob5_0_ k1, ob9_0_ k2, ob2_0_ k3, ob8_0_ k4] sz) [ob11_0_ xo xk xn xc xh xt xw xm xp pf ph tr fi, ob3_0_ xn vp vn n1 n2 n3 n4 n5, ai_ cy n1 40 fk, ai_ cy n2 40 fs, ai_ cy n3 40 fe, ai_ cy n4 40 fw, ai_ cy n5 40 fp, ob0_0_ xc xn xk clo cro c4 c5 c6 c7 c8, aq_ cy 6 clo 12 (gf_ rl), ai_ cy (rl 0) 12 (eMl 0), ai_ cy (rl 1) 12 (eMl 1), ai_ cy (rl 2) 12 (eMl 2), ai_ cy (rl 3) 12 (eMl 3), ai_ cy (rl 4) 12 (eMl 4), ai_ cy (rl 5) 12 (eMl 5), ai_ cy (rl 6) 12 (eMl 6), ai_ cy (rl 7) 12 (eMl 7), ai_ cy (rl 8) 12 (eMl 8), ai_ cy (rl 9) 12 (eMl 9), ai_ cy (rl 10) 12 (eMl 10), ai_ cy (rl 11) 12 (eMl 11), aq_ cy 6 cro 12 (gf_ rr), ai_ cy (rr 0) 12 (eMr 0), ai_ cy (rr 1) 12 (eMr 1), ai_ cy (rr 2) 12 (eMr 2), ai_ cy (rr 3) 12 (eMr 3), ai_ cy (rr 4) 12 (eMr 4), ai_ cy (rr 5) 12 (eMr 5), ai_ cy (rr 6) 12 (eMr 6), ai_ cy (rr 7) 12 (eMr 7), ai_ cy (rr 8) 12 (eMr 8), ai_ cy (rr 9) 12 (eMr 9), ai_ cy (rr 10) 12 (eMr 10), ai_ cy (rr 11) 12 (eMr 11), ai_ cy c4 40 e4, ai_ cy c5 40 e5, ai_ cy c6 40 e6, ai_ cy c7 12 e7, ai_ cy c8 12 e8, aq_ cy 3 xk 5 (kf_ k0 k1 k2 k3 k4), ob6_0_ k0, ob5_0_ k1, ob9_0_ k2, ob2_0_ k3, ob8_0_ k4]) (va_A [ob11_0_ xo xk xn xc xh xt xw xm xp pf ph tr fi, ob3_0_ xn vp vn n1 n2 n3 n4 n5, ai_ cy n1 40 fk, ai_ cy n2 40 fs, ai_ cy n3 40 fe, ai_ cy n4 40 fw, ai_ cy n5 40 fp, ob0_0_ xc xn xk clo cro c4 c5 c6 c7 c8, aq_ cy 6 clo 12 (gf_ rl), ai_ cy (rl 0) 12 (Ml 0), ai_ cy (rl 1) 12 (Ml 1), ai_ cy (rl 2) 12 (Ml 2), ai_ cy (rl 3) 12 (Ml 3), ai_ cy (rl 4) 12 (Ml 4), ai_ cy (rl 5) 12 (Ml 5), ai_ cy (rl 6) 12 (Ml 6), ai_ cy (rl 7) 12 (Ml 7), ai_ cy (rl 8) 12 (Ml 8), ai_ cy (rl 9) 12 (Ml 9), ai_ cy (rl 10) 12 (Ml 10), ai_ cy (rl 11) 12 (Ml 11), aq_ cy 6 cro 12 (gf_ rr), ai_ cy (rr 0) 12 (Mr 0), ai_ cy (rr 1) 12 (Mr 1), ai_ cy (rr 2) 12 (Mr 2), ai_ cy (rr 3) 12 (Mr 3), ai_ cy (rr 4) 12 (Mr 4), ai_ cy (rr 5) 12 (Mr 5), ai_ cy (rr 6) 12 (Mr 6), ai_ cy (rr 7) 12 (Mr 7), ai_ cy (rr 8) 12 (Mr 8), ai_ cy (rr 9) 12 (Mr 9), ai_ cy (rr 10) 12 (Mr 10), ai_ cy (rr 11) 12 (Mr 11), ai_ cy c4 40 f4, ai_ cy c5 40 f5, ai_ cy c6 40 f6, ai_ cy c7 12 f7, ai_ cy c8 12 f8, aq_ cy 3 xk 5 (kf_ k0 k1 k2 k3 k4), ob6_0_ k0, ob5_0_ k1, ob9_0_ k2, ob2_0_ k3, ob8_0_ k4] sz)) 0 0 (va_A [ob11_0_ xo xk xn xc xh xt xw xm xp pf ph tr fi, ob3_0_ xn vp vn n1 n2 n3 n4 n5, ai_ cy n1 40 fk, ai_ cy n2 40 fs, ai_ cy n3 40 fe, ai_ cy n4 40 fw, ai_ cy n5 40 fp, ob0_0_ xc xn xk clo cro c4 c5 c6 c7 c8, aq_ cy 6 clo 12 (gf_ rl), ai_ cy (rl 0) 12 (Ml 0), ai_ cy (rl 1) 12 (Ml 1), ai_ cy (rl 2) 12 (Ml 2), ai_ cy (rl 3) 12 (Ml 3), ai_ cy (rl 4) 12 (Ml 4), ai_ cy (rl 5) 12 (Ml 5), ai_ cy (rl 6) 12 (Ml 6), ai_ cy (rl 7) 12 (Ml 7), ai_ cy (rl 8) 12 (Ml 8), ai_ cy (rl 9) 12 (Ml 9), ai_ cy (rl 10) 12 (Ml 10), ai_ cy (rl 11) 12 (Ml 11), aq_ cy 6 cro 12 (gf_ rr), ai_ cy (rr 0) 12 (Mr 0), ai_ cy (rr 1) 12 (Mr 1), ai_ cy (rr 2) 12 (Mr 2), ai_ cy (rr 3) 12 (Mr 3), ai_ cy (rr 4) 12 (Mr 4), ai_ cy (rr 5) 12 (Mr 5), ai_ cy (rr 6) 12 (Mr 6), ai_ cy (rr 7) 12 (Mr 7), ai_ cy (rr 8) 12 (Mr 8), ai_ cy (rr 9) 12 (Mr 9), ai_ cy (rr 10) 12 (Mr 10), ai_ cy (rr 11) 12 (Mr 11), ai_ cy c4 40 f4, ai_ cy c5 40 f5, ai_ cy c6 40 f6, ai_ cy c7 12 f7, ai_ cy c8 12 f8, aq_ cy 3 xk 5 (kf_ k0 k1 k2 k3 k4), ob6_0_ k0, ob5_0_ k1, ob9_0_ k2, ob2_0_ k3, ob8_0_ k4] sz) := by
  refine ofQ (cc := cX11_size) (maxL := 5) (ret := (some .int)) (by decide) rfl ?_
  intro p e s m args below meth c s₁ Q hQ B hml hv
  obtain ⟨rfl, hsz, hP, hK, hD0⟩ := hv
  have hG := hK.2
  have hK := hK.1
  have hx := B.exec
  have hb := B.bytes
  have hr := B.returns
  have hts := atoms_spec (ws := wsX11_size) B.pre
  have hown : s.vm.findClass RX11 = some m.cls := by have h_ := findClass_of_methodNamed B.named; exact h_
  have hlocks := B.notSynchronized
  subst hsz
  have hD := hD0.self (sz := s.heap.size)
  generalize hAe : va_A [ob11_0_ xo xk xn xc xh xt xw xm xp pf ph tr fi, ob3_0_ xn vp vn n1 n2 n3 n4 n5, ai_ cy n1 40 fk, ai_ cy n2 40 fs, ai_ cy n3 40 fe, ai_ cy n4 40 fw, ai_ cy n5 40 fp, ob0_0_ xc xn xk clo cro c4 c5 c6 c7 c8, aq_ cy 6 clo 12 (gf_ rl), ai_ cy (rl 0) 12 (Ml 0), ai_ cy (rl 1) 12 (Ml 1), ai_ cy (rl 2) 12 (Ml 2), ai_ cy (rl 3) 12 (Ml 3), ai_ cy (rl 4) 12 (Ml 4), ai_ cy (rl 5) 12 (Ml 5), ai_ cy (rl 6) 12 (Ml 6), ai_ cy (rl 7) 12 (Ml 7), ai_ cy (rl 8) 12 (Ml 8), ai_ cy (rl 9) 12 (Ml 9), ai_ cy (rl 10) 12 (Ml 10), ai_ cy (rl 11) 12 (Ml 11), aq_ cy 6 cro 12 (gf_ rr), ai_ cy (rr 0) 12 (Mr 0), ai_ cy (rr 1) 12 (Mr 1), ai_ cy (rr 2) 12 (Mr 2), ai_ cy (rr 3) 12 (Mr 3), ai_ cy (rr 4) 12 (Mr 4), ai_ cy (rr 5) 12 (Mr 5), ai_ cy (rr 6) 12 (Mr 6), ai_ cy (rr 7) 12 (Mr 7), ai_ cy (rr 8) 12 (Mr 8), ai_ cy (rr 9) 12 (Mr 9), ai_ cy (rr 10) 12 (Mr 10), ai_ cy (rr 11) 12 (Mr 11), ai_ cy c4 40 f4, ai_ cy c5 40 f5, ai_ cy c6 40 f6, ai_ cy c7 12 f7, ai_ cy c8 12 f8, aq_ cy 3 xk 5 (kf_ k0 k1 k2 k3 k4), ob6_0_ k0, ob5_0_ k1, ob9_0_ k2, ob2_0_ k3, ob8_0_ k4] s.heap.size = A at hD hQ
  have hA : ∀ q : Nat, s.heap.size ≤ q → A q := fun q h => by rw [← hAe]; exact Or.inr h
  have hS : va_S A s.heap s.heap [] := va_S.rf
  have hl := lv_entry ([.ref xo, .int a1, .int a2, .int a3]) (n := 5) (Nat.le_of_ble_eq_true rfl)
  rw [lg_entry_eq]
  generalize (lg_sl ([.ref xo, .int a1, .int a2, .int a3]) ++ List.replicate (5 - (lg_sl ([.ref xo, .int a1, .int a2, .int a3])).length) Slot.unset).toArray = ls at hl ⊢
  have hl : lv_has ls 5 [(0, .ref xo), (1, .int a1), (2, .int a2), (3, .int a3)] := hl
  have zm9 : ((-9) : Int32).toInt = -9 := by decide
  have zm5 : ((-5) : Int32).toInt = -5 := by decide
  have zm1 : ((-1) : Int32).toInt = -1 := by decide
  have z1000000 : (1000000 : Int32).toInt = 1000000 := by decide
  refine lv_aload_n hx hb dB_36_3_61.1.1.1.1 rfl (lv_at hl 0 rfl) ?_
  refine va_get (ci := 11) (v := .ref xn) (C := RX11) (T := TX11) (N := 12) hx hb hts (fun _ h => List.mem_cons_of_mem _ (List.mem_append_left _ (List.mem_append_left _ (List.mem_append_right _ h)))) hown hK.1 hP 0 rfl rfl 1 (by decide) (hts (.fieldLink RX11 31 "CutAtlas" "net" "LCutAtlas$Net;") (List.mem_of_getElem? (i := 1) rfl)) (fun _ h9 => h9) rfl dB_36_3_61.1.1.1.2 ?_
  refine lv_iload_n hx hb dB_36_3_61.1.1.2.1 rfl (lv_at hl 1 rfl) ?_
  refine lv_i2l (v := a1.toInt64) hx hb dB_36_3_61.1.1.2.2 rfl ?_
  have q_5 : (a1.toInt64).toInt = a1.toInt := Int32.toInt_toInt64 a1
  refine lv_iload_n hx hb dB_36_3_61.1.2.1.1 rfl (lv_at hl 2 rfl) ?_
  refine lv_i2l (v := a2.toInt64) hx hb dB_36_3_61.1.2.1.2 rfl ?_
  have q_7 : (a2.toInt64).toInt = a2.toInt := Int32.toInt_toInt64 a2
  refine ct_R hP hD [ob3_0_ xn vp vn n1 n2 n3 n4 n5] [1] (by decide) rfl (fun hPc hDw => ?_)
  have hFc := va_free (wc := []) hD hS hA [] rfl
  refine va_calli (va_runV (As := [.long a1.toInt64, .long a2.toInt64]) (rest := []) ⟨hx, hb, hml, hown, hts⟩ (c_X3_hasPair l D cy s.heap.size xn n1 n2 n3 n4 n5 vp vn a1.toInt64 a2.toInt64) (cwV 2 hts gX11_size_X3_hasPair rfl rfl rfl ⟨rfl, hd_X3_hasPair⟩ ⟨Nat.le_of_ble_eq_true rfl, Nat.le_of_ble_eq_true rfl⟩) ⟨bl_, va_recvX hK.1 hP (ci := 3) (q0 := 1) rfl rfl, fun U hU hW => ⟨rfl, by rw [hU], by rw [hU]; exact hPc, kk_mv hW hK, hDw⟩⟩ rfl rfl hl.1 rfl (lv_room (Nat.le_of_ble_eq_true rfl)) dB_36_3_61.1.2.2.1 ⟨Nat.le_of_ble_eq_true rfl, Nat.le_of_ble_eq_true rfl⟩) hS (fun q _ h => hFc q h) hFc (fun r_1 u t H locs ht hvm hw hB hz1 hk1 hS => ?_)
  have hP : va_P D vwCl _ H := ro_keep hP hk1
  rcases hw with ⟨w_2, e_⟩ | ⟨w_2, e_⟩
  · have e_ := e_.symm
    subst e_
    refine lv_if_ne (tgt := 16) hx hb dB_36_3_61.1.2.2.2 (by decide) (fun c_3 => ?_) (fun c_3 => ?_)
    · have _ := c_3
      refine lv_aload_n hx hb dB_36_3_61.2.1.2.1 rfl (lv_at hl 0 rfl) ?_
      refine va_get (ci := 11) (v := .ref xc) (C := RX11) (T := TX11) (N := 12) hx hb hts (fun _ h => List.mem_cons_of_mem _ (List.mem_append_left _ (List.mem_append_left _ (List.mem_append_right _ h)))) hown hK.1 hP 0 rfl rfl 2 (by decide) (hts (.fieldLink RX11 40 "CutAtlas" "current" "LCutAtlas$Current;") (List.mem_of_getElem? (i := 2) rfl)) (fun _ h9 => h9) rfl dB_36_3_61.2.1.2.2 ?_
      refine lv_bipush (v := (-9)) hx hb dB_36_3_61.2.2.1.1 (by decide) ?_
      refine ct_S hP hD hS hA [ob0_0_ xc xn xk clo cro c4 c5 c6 c7 c8, ob3_0_ xn vp vn n1 n2 n3 n4 n5, ai_ cy n1 40 fk, ai_ cy n2 40 fs, ai_ cy n3 40 fe, ai_ cy n4 40 fw, aq_ cy 6 clo 12 (gf_ rl), ai_ cy (rl 0) 12 (Ml 0), ai_ cy (rl 1) 12 (Ml 1), ai_ cy (rl 2) 12 (Ml 2), ai_ cy (rl 3) 12 (Ml 3), ai_ cy (rl 4) 12 (Ml 4), ai_ cy (rl 5) 12 (Ml 5), ai_ cy (rl 6) 12 (Ml 6), ai_ cy (rl 7) 12 (Ml 7), ai_ cy (rl 8) 12 (Ml 8), ai_ cy (rl 9) 12 (Ml 9), ai_ cy (rl 10) 12 (Ml 10), ai_ cy (rl 11) 12 (Ml 11), ai_ cy c5 40 f5, ai_ cy c6 40 f6, aq_ cy 3 xk 5 (kf_ k0 k1 k2 k3 k4), ob6_0_ k0, ob5_0_ k1, ob9_0_ k2, ob2_0_ k3, ob8_0_ k4] [7, 1, 2, 3, 4, 5, 8, 9, 10, 11, 12, 13, 14, 15, 16, 17, 18, 19, 20, 35, 36, 39, 40, 41, 42, 43, 44] (by decide +kernel) rfl (fun hPc hDw hFc hC_ => ?_)
      refine va_callv (va_runV (As := [.int (-9)]) (rest := []) ⟨hx, hb, hml, hown, hts⟩ (c_X0_load l D cy H.size xc xk clo cro c4 c5 c6 c7 c8 xn n1 n2 n3 n4 n5 vp vn fk fs fe fw rl Ml f5 f6 k0 k1 k2 k3 k4 ((-9) : Int32) (by first | with_reducible assumption | omega | assumption) (by first | with_reducible assumption | omega | assumption) (by first | with_reducible assumption | assumption | omega) (by first | with_reducible assumption | assumption | omega)) (cwV 1 hts gX11_size_X0_load rfl rfl rfl ⟨rfl, hd_X0_load⟩ ⟨Nat.le_of_ble_eq_true rfl, Nat.le_of_ble_eq_true rfl⟩) ⟨bl_g, va_recvX hK.1 hP (ci := 0) (q0 := 7) rfl rfl, fun U hU hW => ⟨rfl, by rw [hU], by rw [hU]; exact hPc, ⟨kk_mv hW hK, arrOfT_moved hW.alike hG⟩, hDw⟩⟩ rfl rfl hl.1 rfl (lv_room (Nat.le_of_ble_eq_true rfl)) dB_36_3_61.2.2.1.2 ⟨Nat.le_of_ble_eq_true rfl, Nat.le_of_ble_eq_true rfl⟩) hS (fun q _ h => hFc q h) hFc (fun u t H locs ht hvm hw hB hz1 hk1 hS => ?_)
      obtain ⟨eMl_5, e5_6, e6_7, hP1, hD1⟩ := hB
      rw [ht] at hP1
      obtain ⟨hP, hD⟩ := va_join (wr := [ob11_0_ xo xk xn xc xh xt xw xm xp pf ph tr fi, ai_ cy n5 40 fp, aq_ cy 6 cro 12 (gf_ rr), ai_ cy (rr 0) 12 (Mr 0), ai_ cy (rr 1) 12 (Mr 1), ai_ cy (rr 2) 12 (Mr 2), ai_ cy (rr 3) 12 (Mr 3), ai_ cy (rr 4) 12 (Mr 4), ai_ cy (rr 5) 12 (Mr 5), ai_ cy (rr 6) 12 (Mr 6), ai_ cy (rr 7) 12 (Mr 7), ai_ cy (rr 8) 12 (Mr 8), ai_ cy (rr 9) 12 (Mr 9), ai_ cy (rr 10) 12 (Mr 10), ai_ cy (rr 11) 12 (Mr 11), ai_ cy c4 40 f4, ai_ cy c7 12 f7, ai_ cy c8 12 f8]) (w1 := [ob0_0_ xc xn xk clo cro c4 c5 c6 c7 c8, ob3_0_ xn vp vn n1 n2 n3 n4 n5, ai_ cy n1 40 fk, ai_ cy n2 40 fs, ai_ cy n3 40 fe, ai_ cy n4 40 fw, aq_ cy 6 clo 12 (gf_ rl), ai_ cy (rl 0) 12 (eMl_5 0), ai_ cy (rl 1) 12 (eMl_5 1), ai_ cy (rl 2) 12 (eMl_5 2), ai_ cy (rl 3) 12 (eMl_5 3), ai_ cy (rl 4) 12 (eMl_5 4), ai_ cy (rl 5) 12 (eMl_5 5), ai_ cy (rl 6) 12 (eMl_5 6), ai_ cy (rl 7) 12 (eMl_5 7), ai_ cy (rl 8) 12 (eMl_5 8), ai_ cy (rl 9) 12 (eMl_5 9), ai_ cy (rl 10) 12 (eMl_5 10), ai_ cy (rl 11) 12 (eMl_5 11), ai_ cy c5 40 e5_6, ai_ cy c6 40 e6_7, aq_ cy 3 xk 5 (kf_ k0 k1 k2 k3 k4), ob6_0_ k0, ob5_0_ k1, ob9_0_ k2, ob2_0_ k3, ob8_0_ k4]) hP hD [7, 1, 2, 3, 4, 5, 8, 9, 10, 11, 12, 13, 14, 15, 16, 17, 18, 19, 20, 35, 36, 39, 40, 41, 42, 43, 44] [0, 6, 21, 22, 23, 24, 25, 26, 27, 28, 29, 30, 31, 32, 33, 34, 37, 38] hC_ rfl (by decide +kernel) (by decide +kernel) hk1 hFc hP1 hD1
      refine pd_S hP hD [ob11_0_ xo xk xn xc xh xt xw xm xp pf ph tr fi, ob3_0_ xn vp vn n1 n2 n3 n4 n5, ai_ cy n1 40 fk, ai_ cy n2 40 fs, ai_ cy n3 40 fe, ai_ cy n4 40 fw, ai_ cy n5 40 fp, ob0_0_ xc xn xk clo cro c4 c5 c6 c7 c8, aq_ cy 6 clo 12 (gf_ rl), ai_ cy (rl 0) 12 (eMl_5 0), ai_ cy (rl 1) 12 (eMl_5 1), ai_ cy (rl 2) 12 (eMl_5 2), ai_ cy (rl 3) 12 (eMl_5 3), ai_ cy (rl 4) 12 (eMl_5 4), ai_ cy (rl 5) 12 (eMl_5 5), ai_ cy (rl 6) 12 (eMl_5 6), ai_ cy (rl 7) 12 (eMl_5 7), ai_ cy (rl 8) 12 (eMl_5 8), ai_ cy (rl 9) 12 (eMl_5 9), ai_ cy (rl 10) 12 (eMl_5 10), ai_ cy (rl 11) 12 (eMl_5 11), aq_ cy 6 cro 12 (gf_ rr), ai_ cy (rr 0) 12 (Mr 0), ai_ cy (rr 1) 12 (Mr 1), ai_ cy (rr 2) 12 (Mr 2), ai_ cy (rr 3) 12 (Mr 3), ai_ cy (rr 4) 12 (Mr 4), ai_ cy (rr 5) 12 (Mr 5), ai_ cy (rr 6) 12 (Mr 6), ai_ cy (rr 7) 12 (Mr 7), ai_ cy (rr 8) 12 (Mr 8), ai_ cy (rr 9) 12 (Mr 9), ai_ cy (rr 10) 12 (Mr 10), ai_ cy (rr 11) 12 (Mr 11), ai_ cy c4 40 f4, ai_ cy c5 40 e5_6, ai_ cy c6 40 e6_7, ai_ cy c7 12 f7, ai_ cy c8 12 f8, aq_ cy 3 xk 5 (kf_ k0 k1 k2 k3 k4), ob6_0_ k0, ob5_0_ k1, ob9_0_ k2, ob2_0_ k3, ob8_0_ k4] [0, 19, 20, 21, 22, 23, 1, 18, 24, 25, 26, 27, 28, 29, 30, 31, 32, 33, 34, 35, 36, 2, 3, 4, 5, 6, 7, 8, 9, 10, 11, 12, 13, 14, 15, 37, 38, 16, 17, 39, 40, 41, 42, 43, 44] (by decide +kernel) rfl (fun hP hD => ?_)
      refine lv_aload_n hx hb dB_36_3_61.2.2.2.1 rfl (lv_at hl 0 rfl) ?_
      refine va_get (ci := 11) (v := .ref xc) (C := RX11) (T := TX11) (N := 12) hx hb hts (fun _ h => List.mem_cons_of_mem _ (List.mem_append_left _ (List.mem_append_left _ (List.mem_append_right _ h)))) hown hK.1 hP 0 rfl rfl 2 (by decide) (hts (.fieldLink RX11 40 "CutAtlas" "current" "LCutAtlas$Current;") (List.mem_of_getElem? (i := 2) rfl)) (fun _ h9 => h9) rfl dB_36_3_61.2.2.2.2 ?_
      refine lv_iload_n hx hb dB_36_3_62.1.1.1.1 rfl (lv_at hl 3 rfl) ?_
      refine lv_iconst (v := 1) hx hb dB_36_3_62.1.1.1.2 (by decide) ?_
      refine lv_iload_n hx hb dB_36_3_62.1.1.2.1 rfl (lv_at hl 1 rfl) ?_
      refine lv_ishl hx hb dB_36_3_62.1.1.2.2 ?_
      refine lv_topi (fun y_8 ey_8 => ?_)
      refine lv_ior hx hb dB_36_3_62.1.2.1.1 ?_
      refine lv_topi (fun y_9 ey_9 => ?_)
      refine lv_iconst (v := 1) hx hb dB_36_3_62.1.2.1.2 (by decide) ?_
      refine lv_iload_n hx hb dB_36_3_62.1.2.2.1 rfl (lv_at hl 2 rfl) ?_
      refine lv_ishl hx hb dB_36_3_62.1.2.2.2 ?_
      refine lv_topi (fun y_10 ey_10 => ?_)
      refine lv_iconst (v := (-1)) hx hb dB_36_3_62.2.1.1.1 (by decide) ?_
      refine lv_ixor hx hb dB_36_3_62.2.1.1.2 ?_
      refine lv_topi (fun y_11 ey_11 => ?_)
      refine lv_iand hx hb dB_36_3_62.2.1.2.1 ?_
      refine lv_topi (fun y_12 ey_12 => ?_)
      refine ct_R hP hD [ob0_0_ xc xn xk clo cro c4 c5 c6 c7 c8, ob3_0_ xn vp vn n1 n2 n3 n4 n5, aq_ cy 6 clo 12 (gf_ rl), ai_ cy (rl 0) 12 (eMl_5 0), ai_ cy (rl 1) 12 (eMl_5 1), ai_ cy (rl 2) 12 (eMl_5 2), ai_ cy (rl 3) 12 (eMl_5 3), ai_ cy (rl 4) 12 (eMl_5 4), ai_ cy (rl 5) 12 (eMl_5 5), ai_ cy (rl 6) 12 (eMl_5 6), ai_ cy (rl 7) 12 (eMl_5 7), ai_ cy (rl 8) 12 (eMl_5 8), ai_ cy (rl 9) 12 (eMl_5 9), ai_ cy (rl 10) 12 (eMl_5 10), ai_ cy (rl 11) 12 (eMl_5 11)] [7, 1, 8, 9, 10, 11, 12, 13, 14, 15, 16, 17, 18, 19, 20] (by decide +kernel) rfl (fun hPc hDw => ?_)
      have hFc := va_free (wc := []) hD hS hA [] rfl
      refine va_calli (va_runV (As := [.int y_12]) (rest := []) ⟨hx, hb, hml, hown, hts⟩ (c_X0_leaving l D cy H.size xc xk clo cro c4 c5 c6 c7 c8 xn n1 n2 n3 n4 n5 vp vn rl eMl_5 y_12 (by first | with_reducible assumption | omega | assumption)) (cwV 1 hts gX11_size_X0_leaving rfl rfl rfl ⟨rfl, hd_X0_leaving⟩ ⟨Nat.le_of_ble_eq_true rfl, Nat.le_of_ble_eq_true rfl⟩) ⟨bl_g, va_recvX hK.1 hP (ci := 0) (q0 := 7) rfl rfl, fun U hU hW => ⟨rfl, by rw [hU], by rw [hU]; exact hPc, ⟨kk_mv hW hK, arrOfT_moved hW.alike hG⟩, hDw⟩⟩ rfl rfl hl.1 rfl (lv_room (Nat.le_of_ble_eq_true rfl)) dB_36_3_62.2.1.2.2 ⟨Nat.le_of_ble_eq_true rfl, Nat.le_of_ble_eq_true rfl⟩) hS (fun q _ h => hFc q h) hFc (fun r_13 u t H locs ht hvm hw hB hz1 hk1 hS => ?_)
      have hP : va_P D vwCl _ H := ro_keep hP hk1
      refine lv_istore (lv' := [(4, .int r_13), (0, .ref xo), (1, .int a1), (2, .int a2), (3, .int a3)]) hx hb dB_36_3_62.2.2.1.1 hl (by decide) rfl (fun ls hl => ?_)
      refine lv_iload hx hb dB_36_3_62.2.2.1.2 (lv_at hl 0 rfl) ?_
      refine lv_ldc (v := 1000000) hx hb hown (hts (.constant RX11 197 (1000000)) (List.mem_of_getElem? (i := 3) rfl)) dB_36_3_62.2.2.2.1 ?_
      refine lv_icmp_lt (tgt := 57) hx hb dB_36_3_62.2.2.2.2 (by decide) (fun c_14 => ?_) (fun c_14 => ?_)
      · have t_14 : r_13.toInt < (1000000 : Int32).toInt := Int32.lt_iff_toInt_lt.mp c_14
        refine lv_iload hx hb dB_36_3_63.2.1 (lv_at hl 0 rfl) ?_
        rw [hQ]
        exact W.iret (v := r_13) hx hb hr (fun t ht hW => ⟨⟨r_13, (), rfl, trivial, eMl_5, Mr, f4, e5_6, e6_7, f7, f8, (by first | with_reducible assumption | assumption | exact rng_zero (by omega) (by omega) | omega), (by first | with_reducible assumption | assumption | exact rng_zero (by omega) (by omega) | omega), by rw [ht]; exact hP, hD⟩, hS.F ht⟩) hS.2.2 dB_36_3_63.2.2
      · have t_14 : ¬ r_13.toInt < (1000000 : Int32).toInt := fun h => c_14 (Int32.lt_iff_toInt_lt.mpr h)
        refine lv_bipush (v := (-5)) hx hb dB_36_3_63.1.1 (by decide) ?_
        refine lv_goto (tgt := 59) hx hb dB_36_3_63.1.2 (by decide) ?_
        rw [hQ]
        exact W.iret (v := (-5)) hx hb hr (fun t ht hW => ⟨⟨(-5), (), rfl, trivial, eMl_5, Mr, f4, e5_6, e6_7, f7, f8, (by first | with_reducible assumption | assumption | exact rng_zero (by omega) (by omega) | omega), (by first | with_reducible assumption | assumption | exact rng_zero (by omega) (by omega) | omega), by rw [ht]; exact hP, hD⟩, hS.F ht⟩) hS.2.2 dB_36_3_63.2.2
    · exact absurd c_3 (by decide)
  · have e_ := e_.symm
    subst e_
    refine lv_if_ne (tgt := 16) hx hb dB_36_3_61.1.2.2.2 (by decide) (fun c_15 => ?_) (fun c_15 => ?_)
    · exact absurd c_15 (by decide)
    · have _ := c_15
      refine lv_iconst (v := (-1)) hx hb dB_36_3_61.2.1.1.1 (by decide) ?_
      rw [hQ]
      exact W.iret (v := (-1)) hx hb hr (fun t ht hW => ⟨⟨(-1), (), rfl, trivial, Ml, Mr, f4, f5, f6, f7, f8, (by first | with_reducible assumption | assumption | exact rng_zero (by omega) (by omega) | omega), (by first | with_reducible assumption | assumption | exact rng_zero (by omega) (by omega) | omega), by rw [ht]; exact hP, hD⟩, hS.F ht⟩) hS.2.2 dB_36_3_61.2.1.1.2
end

section
set_option maxHeartbeats 4000000 in
set_option maxRecDepth 100000 in
theorem c_X11_count (l : Launch) (D : va_G) (cy : Nat → ClassId) (sz : Nat) (xo : Nat) (xk : Nat) (xn : Nat) (xc : Nat) (xh : Nat) (xt : Nat) (xw : Nat) (xm : Nat) (xp : Nat) (pf : Int32) (ph : Int32) (tr : Int64) (fi : Int32) (n1 : Nat) (n2 : Nat) (n3 : Nat) (n4 : Nat) (n5 : Nat) (vp : Int32) (vn : Int32) (clo : Nat) (cro : Nat) (c4 : Nat) (c5 : Nat) (c6 : Nat) (c7 : Nat) (c8 : Nat) (fk : Nat → Int32) (fs : Nat → Int32) (fe : Nat → Int32) (fw : Nat → Int32) (fp : Nat → Int32) (rl : Nat → Nat) (Ml : Nat → Nat → Int32) (rr : Nat → Nat) (Mr : Nat → Nat → Int32) (f4 : Nat → Int32) (f5 : Nat → Int32) (f6 : Nat → Int32) (f7 : Nat → Int32) (f8 : Nat → Int32) (k0 : Nat) (k1 : Nat) (k2 : Nat) (k3 : Nat) (k4 : Nat) (u1 : Int32) (u2 : Int32) (u3 : Int32) (u4 : Int32) (u5 : Int32) (u6 : Int32) (u7 : Int32) (u8 : Int32) (a1 : Int32) (a2 : Int32) (hvp : 0 ≤ vp.toInt ∧ vp.toInt ≤ 12) (hvn : 0 ≤ vn.toInt ∧ vn.toInt ≤ 40) (hpr : prng fs fe 40) (r_f7 : rng f7 12 (0) (11)) (r_f8 : rng f8 12 (0) (11)) (r_fk : rng fk 40 (0) (4)) : Met l yX11_count wsX11_count ({ frames := 16, cells := 0, slots := 0, locals := 381 }) (va_Pc [.ref xo, .int a1, .int a2] (fun U => U.heap.size = sz ∧ va_P D vwCl [ob11_0_ xo xk xn xc xh xt xw xm xp pf ph tr fi, ob3_0_ xn vp vn n1 n2 n3 n4 n5, ai_ cy n1 40 fk, ai_ cy n2 40 fs, ai_ cy n3 40 fe, ai_ cy n4 40 fw, ai_ cy n5 40 fp, ob0_0_ xc xn xk clo cro c4 c5 c6 c7 c8, aq_ cy 6 clo 12 (gf_ rl), ai_ cy (rl 0) 12 (Ml 0), ai_ cy (rl 1) 12 (Ml 1), ai_ cy (rl 2) 12 (Ml 2), ai_ cy (rl 3) 12 (Ml 3), ai_ cy (rl 4) 12 (Ml 4), ai_ cy (rl 5) 12 (Ml 5), ai_ cy (rl 6) 12 (Ml 6), ai_ cy (rl 7) 12 (Ml 7), ai_ cy (rl 8) 12 (Ml 8), ai_ cy (rl 9) 12 (Ml 9), ai_ cy (rl 10) 12 (Ml 10), ai_ cy (rl 11) 12 (Ml 11), aq_ cy 6 cro 12 (gf_ rr), ai_ cy (rr 0) 12 (Mr 0), ai_ cy (rr 1) 12 (Mr 1), ai_ cy (rr 2) 12 (Mr 2), ai_ cy (rr 3) 12 (Mr 3), ai_ cy (rr 4) 12 (Mr 4), ai_ cy (rr 5) 12 (Mr 5), ai_ cy (rr 6) 12 (Mr 6), ai_ cy (rr 7) 12 (Mr 7), ai_ cy (rr 8) 12 (Mr 8), ai_ cy (rr 9) 12 (Mr 9), ai_ cy (rr 10) 12 (Mr 10), ai_ cy (rr 11) 12 (Mr 11), ai_ cy c4 40 f4, ai_ cy c5 40 f5, ai_ cy c6 40 f6, ai_ cy c7 12 f7, ai_ cy c8 12 f8, aq_ cy 3 xk 5 (kf_ k0 k1 k2 k3 k4), ob6_0_ k0, ob5_0_ k1, ob9_0_ k2, ob2_0_ k3, ob8_0_ k4, ob7_0_ xh xc u1 u2 u3 u4 u5 u6 u7 u8] U.heap ∧ kg_ D cy U ∧ va_D (fun _ => True) [ob11_0_ xo xk xn xc xh xt xw xm xp pf ph tr fi, ob3_0_ xn vp vn n1 n2 n3 n4 n5, ai_ cy n1 40 fk, ai_ cy n2 40 fs, ai_ cy n3 40 fe, ai_ cy n4 40 fw, ai_ cy n5 40 fp, ob0_0_ xc xn xk clo cro c4 c5 c6 c7 c8, aq_ cy 6 clo 12 (gf_ rl), ai_ cy (rl 0) 12 (Ml 0), ai_ cy (rl 1) 12 (Ml 1), ai_ cy (rl 2) 12 (Ml 2), ai_ cy (rl 3) 12 (Ml 3), ai_ cy (rl 4) 12 (Ml 4), ai_ cy (rl 5) 12 (Ml 5), ai_ cy (rl 6) 12 (Ml 6), ai_ cy (rl 7) 12 (Ml 7), ai_ cy (rl 8) 12 (Ml 8), ai_ cy (rl 9) 12 (Ml 9), ai_ cy (rl 10) 12 (Ml 10), ai_ cy (rl 11) 12 (Ml 11), aq_ cy 6 cro 12 (gf_ rr), ai_ cy (rr 0) 12 (Mr 0), ai_ cy (rr 1) 12 (Mr 1), ai_ cy (rr 2) 12 (Mr 2), ai_ cy (rr 3) 12 (Mr 3), ai_ cy (rr 4) 12 (Mr 4), ai_ cy (rr 5) 12 (Mr 5), ai_ cy (rr 6) 12 (Mr 6), ai_ cy (rr 7) 12 (Mr 7), ai_ cy (rr 8) 12 (Mr 8), ai_ cy (rr 9) 12 (Mr 9), ai_ cy (rr 10) 12 (Mr 10), ai_ cy (rr 11) 12 (Mr 11), ai_ cy c4 40 f4, ai_ cy c5 40 f5, ai_ cy c6 40 f6, ai_ cy c7 12 f7, ai_ cy c8 12 f8, aq_ cy 3 xk 5 (kf_ k0 k1 k2 k3 k4), ob6_0_ k0, ob5_0_ k1, ob9_0_ k2, ob2_0_ k3, ob8_0_ k4, ob7_0_ xh xc u1 u2 u3 u4 u5 u6 u7 u8])) (va_Qi (fun (r : Int32) (_ : Unit) => True) (fun (_ : Unit) (t : State) => ∃ (eMl : Nat → Nat → Int32), ∃ (eMr : Nat → Nat → Int32), ∃ (e4 : Nat → Int32), ∃ (e5 : Nat → Int32), ∃ (e6 : Nat → Int32), ∃ (e7 : Nat → Int32), ∃ (e8 : Nat → Int32), ∃ (v1 : Int32), ∃ (v2 : Int32), ∃ (v3 : Int32), ∃ (v4 : Int32), ∃ (v5 : Int32), ∃ (v6 : Int32), (rng e7 12 (0) (11)) ∧ (rng e8 12 (0) (11)) ∧ va_P D vwCl [ob11_0_ xo xk xn xc xh xt xw xm xp pf ph tr fi, ob3_0_ xn vp vn n1 n2 n3 n4 n5, ai_ cy n1 40 fk, ai_ cy n2 40 fs, ai_ cy n3 40 fe, ai_ cy n4 40 fw, ai_ cy n5 40 fp, ob0_0_ xc xn xk clo cro c4 c5 c6 c7 c8, aq_ cy 6 clo 12 (gf_ rl), ai_ cy (rl 0) 12 (eMl 0), ai_ cy (rl 1) 12 (eMl 1), ai_ cy (rl 2) 12 (eMl 2), ai_ cy (rl 3) 12 (eMl 3), ai_ cy (rl 4) 12 (eMl 4), ai_ cy (rl 5) 12 (eMl 5), ai_ cy (rl 6) 12 (eMl 6), ai_ cy (rl 7) 12 (eMl 7), ai_ cy (rl 8) 12 (eMl 8), ai_ cy (rl 9) 12 (eMl 9), ai_ cy (rl 10) 12 (eMl 10), ai_ cy (rl 11) 12 (eMl 11), aq_ cy 6 cro 12 (gf_ rr), ai_ cy (rr 0) 12 (eMr 0), ai_ cy (rr 1) 12 (eMr 1), ai_ cy (rr 2) 12 (eMr 2), ai_ cy (rr 3) 12 (eMr 3), ai_ cy (rr 4) 12 (eMr 4), ai_ cy (rr 5) 12 (eMr 5), ai_ cy (rr 6) 12 (eMr 6), ai_ cy (rr 7) 12 (eMr 7), ai_ cy (rr 8) 12 (eMr 8), ai_ cy (rr 9) 12 (eMr 9), ai_ cy (rr 10) 12 (eMr 10), ai_ cy (rr 11) 12 (eMr 11), ai_ cy c4 40 e4, ai_ cy c5 40 e5, ai_ cy c6 40 e6, ai_ cy c7 12 e7, ai_ cy c8 12 e8, aq_ cy 3 xk 5 (kf_ k0 k1 k2 k3 k4), ob6_0_ k0, ob5_0_ k1, ob9_0_ k2, ob2_0_ k3, ob8_0_ k4, ob7_0_ xh xc v1 v2 v3 v4 v5 v6 u7 u8] t.heap ∧ va_D (va_A [ob11_0_ xo xk xn xc xh xt xw xm xp pf ph tr fi, ob3_0_ xn vp vn n1 n2 n3 n4 n5, ai_ cy n1 40 fk, ai_ cy n2 40 fs, ai_ cy n3 40 fe, ai_ cy n4 40 fw, ai_ cy n5 40 fp, ob0_0_ xc xn xk clo cro c4 c5 c6 c7 c8, aq_ cy 6 clo 12 (gf_ rl), ai_ cy (rl 0) 12 (Ml 0), ai_ cy (rl 1) 12 (Ml 1), ai_ cy (rl 2) 12 (Ml 2), ai_ cy (rl 3) 12 (Ml 3), ai_ cy (rl 4) 12 (Ml 4), ai_ cy (rl 5) 12 (Ml 5), ai_ cy (rl 6) 12 (Ml 6), ai_ cy (rl 7) 12 (Ml 7), ai_ cy (rl 8) 12 (Ml 8), ai_ cy (rl 9) 12 (Ml 9), ai_ cy (rl 10) 12 (Ml 10), ai_ cy (rl 11) 12 (Ml 11), aq_ cy 6 cro 12 (gf_ rr), ai_ cy (rr 0) 12 (Mr 0), ai_ cy (rr 1) 12 (Mr 1), ai_ cy (rr 2) 12 (Mr 2), ai_ cy (rr 3) 12 (Mr 3), ai_ cy (rr 4) 12 (Mr 4), ai_ cy (rr 5) 12 (Mr 5), ai_ cy (rr 6) 12 (Mr 6), ai_ cy (rr 7) 12 (Mr 7), ai_ cy (rr 8) 12 (Mr 8), ai_ cy (rr 9) 12 (Mr 9), ai_ cy (rr 10) 12 (Mr 10), ai_ cy (rr 11) 12 (Mr 11), ai_ cy c4 40 f4, ai_ cy c5 40 f5, ai_ cy c6 40 f6, ai_ cy c7 12 f7, ai_ cy c8 12 f8, aq_ cy 3 xk 5 (kf_ k0 k1 k2 k3 k4), ob6_0_ k0, ob5_0_ k1, ob9_0_ k2, ob2_0_ k3, ob8_0_ k4, ob7_0_ xh xc u1 u2 u3 u4 u5 u6 u7 u8] sz) [ob11_0_ xo xk xn xc xh xt xw xm xp pf ph tr fi, ob3_0_ xn vp vn n1 n2 n3 n4 n5, ai_ cy n1 40 fk, ai_ cy n2 40 fs, ai_ cy n3 40 fe, ai_ cy n4 40 fw, ai_ cy n5 40 fp, ob0_0_ xc xn xk clo cro c4 c5 c6 c7 c8, aq_ cy 6 clo 12 (gf_ rl), ai_ cy (rl 0) 12 (eMl 0), ai_ cy (rl 1) 12 (eMl 1), ai_ cy (rl 2) 12 (eMl 2), ai_ cy (rl 3) 12 (eMl 3), ai_ cy (rl 4) 12 (eMl 4), ai_ cy (rl 5) 12 (eMl 5), ai_ cy (rl 6) 12 (eMl 6), ai_ cy (rl 7) 12 (eMl 7), ai_ cy (rl 8) 12 (eMl 8), ai_ cy (rl 9) 12 (eMl 9), ai_ cy (rl 10) 12 (eMl 10), ai_ cy (rl 11) 12 (eMl 11), aq_ cy 6 cro 12 (gf_ rr), ai_ cy (rr 0) 12 (eMr 0), ai_ cy (rr 1) 12 (eMr 1), ai_ cy (rr 2) 12 (eMr 2), ai_ cy (rr 3) 12 (eMr 3), ai_ cy (rr 4) 12 (eMr 4), ai_ cy (rr 5) 12 (eMr 5), ai_ cy (rr 6) 12 (eMr 6), ai_ cy (rr 7) 12 (eMr 7), ai_ cy (rr 8) 12 (eMr 8), ai_ cy (rr 9) 12 (eMr 9), ai_ cy (rr 10) 12 (eMr 10), ai_ cy (rr 11) 12 (eMr 11), ai_ cy c4 40 e4, ai_ cy c5 40 e5, ai_ cy c6 40 e6, ai_ cy c7 12 e7, ai_ cy c8 12 e8, aq_ cy 3 xk 5 (kf_ k0 k1 k2 k3 k4), ob6_0_ k0, ob5_0_ k1, ob9_0_ k2, ob2_0_ k3, ob8_0_ k4, ob7_0_ xh xc v1 v2 v3 v4 v5 v6 u7 u8]) (va_A [ob11_0_ xo xk xn xc xh xt xw xm xp pf ph tr fi, ob3_0_ xn vp vn n1 n2 n3 n4 n5, ai_ cy n1 40 fk, ai_ cy n2 40 fs, ai_ cy n3 40 fe, ai_ cy n4 40 fw, ai_ cy n5 40 fp, ob0_0_ xc xn xk clo cro c4 c5 c6 c7 c8, aq_ cy 6 clo 12 (gf_ rl), ai_ cy (rl 0) 12 (Ml 0), ai_ cy (rl 1) 12 (Ml 1), ai_ cy (rl 2) 12 (Ml 2), ai_ cy (rl 3) 12 (Ml 3), ai_ cy (rl 4) 12 (Ml 4), ai_ cy (rl 5) 12 (Ml 5), ai_ cy (rl 6) 12 (Ml 6), ai_ cy (rl 7) 12 (Ml 7), ai_ cy (rl 8) 12 (Ml 8), ai_ cy (rl 9) 12 (Ml 9), ai_ cy (rl 10) 12 (Ml 10), ai_ cy (rl 11) 12 (Ml 11), aq_ cy 6 cro 12 (gf_ rr), ai_ cy (rr 0) 12 (Mr 0), ai_ cy (rr 1) 12 (Mr 1), ai_ cy (rr 2) 12 (Mr 2), ai_ cy (rr 3) 12 (Mr 3), ai_ cy (rr 4) 12 (Mr 4), ai_ cy (rr 5) 12 (Mr 5), ai_ cy (rr 6) 12 (Mr 6), ai_ cy (rr 7) 12 (Mr 7), ai_ cy (rr 8) 12 (Mr 8), ai_ cy (rr 9) 12 (Mr 9), ai_ cy (rr 10) 12 (Mr 10), ai_ cy (rr 11) 12 (Mr 11), ai_ cy c4 40 f4, ai_ cy c5 40 f5, ai_ cy c6 40 f6, ai_ cy c7 12 f7, ai_ cy c8 12 f8, aq_ cy 3 xk 5 (kf_ k0 k1 k2 k3 k4), ob6_0_ k0, ob5_0_ k1, ob9_0_ k2, ob2_0_ k3, ob8_0_ k4, ob7_0_ xh xc u1 u2 u3 u4 u5 u6 u7 u8] sz)) 0 0 (va_A [ob11_0_ xo xk xn xc xh xt xw xm xp pf ph tr fi, ob3_0_ xn vp vn n1 n2 n3 n4 n5, ai_ cy n1 40 fk, ai_ cy n2 40 fs, ai_ cy n3 40 fe, ai_ cy n4 40 fw, ai_ cy n5 40 fp, ob0_0_ xc xn xk clo cro c4 c5 c6 c7 c8, aq_ cy 6 clo 12 (gf_ rl), ai_ cy (rl 0) 12 (Ml 0), ai_ cy (rl 1) 12 (Ml 1), ai_ cy (rl 2) 12 (Ml 2), ai_ cy (rl 3) 12 (Ml 3), ai_ cy (rl 4) 12 (Ml 4), ai_ cy (rl 5) 12 (Ml 5), ai_ cy (rl 6) 12 (Ml 6), ai_ cy (rl 7) 12 (Ml 7), ai_ cy (rl 8) 12 (Ml 8), ai_ cy (rl 9) 12 (Ml 9), ai_ cy (rl 10) 12 (Ml 10), ai_ cy (rl 11) 12 (Ml 11), aq_ cy 6 cro 12 (gf_ rr), ai_ cy (rr 0) 12 (Mr 0), ai_ cy (rr 1) 12 (Mr 1), ai_ cy (rr 2) 12 (Mr 2), ai_ cy (rr 3) 12 (Mr 3), ai_ cy (rr 4) 12 (Mr 4), ai_ cy (rr 5) 12 (Mr 5), ai_ cy (rr 6) 12 (Mr 6), ai_ cy (rr 7) 12 (Mr 7), ai_ cy (rr 8) 12 (Mr 8), ai_ cy (rr 9) 12 (Mr 9), ai_ cy (rr 10) 12 (Mr 10), ai_ cy (rr 11) 12 (Mr 11), ai_ cy c4 40 f4, ai_ cy c5 40 f5, ai_ cy c6 40 f6, ai_ cy c7 12 f7, ai_ cy c8 12 f8, aq_ cy 3 xk 5 (kf_ k0 k1 k2 k3 k4), ob6_0_ k0, ob5_0_ k1, ob9_0_ k2, ob2_0_ k3, ob8_0_ k4, ob7_0_ xh xc u1 u2 u3 u4 u5 u6 u7 u8] sz) := by
  refine ofQ (cc := cX11_count) (maxL := 4) (ret := (some .int)) (by decide) rfl ?_
  intro p e s m args below meth c s₁ Q hQ B hml hv
  obtain ⟨rfl, hsz, hP, hK, hD0⟩ := hv
  have hG := hK.2
  have hK := hK.1
  have hx := B.exec
  have hb := B.bytes
  have hr := B.returns
  have hts := atoms_spec (ws := wsX11_count) B.pre
  have hown : s.vm.findClass RX11 = some m.cls := by have h_ := findClass_of_methodNamed B.named; exact h_
  have hlocks := B.notSynchronized
  subst hsz
  have hD := hD0.self (sz := s.heap.size)
  generalize hAe : va_A [ob11_0_ xo xk xn xc xh xt xw xm xp pf ph tr fi, ob3_0_ xn vp vn n1 n2 n3 n4 n5, ai_ cy n1 40 fk, ai_ cy n2 40 fs, ai_ cy n3 40 fe, ai_ cy n4 40 fw, ai_ cy n5 40 fp, ob0_0_ xc xn xk clo cro c4 c5 c6 c7 c8, aq_ cy 6 clo 12 (gf_ rl), ai_ cy (rl 0) 12 (Ml 0), ai_ cy (rl 1) 12 (Ml 1), ai_ cy (rl 2) 12 (Ml 2), ai_ cy (rl 3) 12 (Ml 3), ai_ cy (rl 4) 12 (Ml 4), ai_ cy (rl 5) 12 (Ml 5), ai_ cy (rl 6) 12 (Ml 6), ai_ cy (rl 7) 12 (Ml 7), ai_ cy (rl 8) 12 (Ml 8), ai_ cy (rl 9) 12 (Ml 9), ai_ cy (rl 10) 12 (Ml 10), ai_ cy (rl 11) 12 (Ml 11), aq_ cy 6 cro 12 (gf_ rr), ai_ cy (rr 0) 12 (Mr 0), ai_ cy (rr 1) 12 (Mr 1), ai_ cy (rr 2) 12 (Mr 2), ai_ cy (rr 3) 12 (Mr 3), ai_ cy (rr 4) 12 (Mr 4), ai_ cy (rr 5) 12 (Mr 5), ai_ cy (rr 6) 12 (Mr 6), ai_ cy (rr 7) 12 (Mr 7), ai_ cy (rr 8) 12 (Mr 8), ai_ cy (rr 9) 12 (Mr 9), ai_ cy (rr 10) 12 (Mr 10), ai_ cy (rr 11) 12 (Mr 11), ai_ cy c4 40 f4, ai_ cy c5 40 f5, ai_ cy c6 40 f6, ai_ cy c7 12 f7, ai_ cy c8 12 f8, aq_ cy 3 xk 5 (kf_ k0 k1 k2 k3 k4), ob6_0_ k0, ob5_0_ k1, ob9_0_ k2, ob2_0_ k3, ob8_0_ k4, ob7_0_ xh xc u1 u2 u3 u4 u5 u6 u7 u8] s.heap.size = A at hD hQ
  have hA : ∀ q : Nat, s.heap.size ≤ q → A q := fun q h => by rw [← hAe]; exact Or.inr h
  have hS : va_S A s.heap s.heap [] := va_S.rf
  have hl := lv_entry ([.ref xo, .int a1, .int a2]) (n := 4) (Nat.le_of_ble_eq_true rfl)
  rw [lg_entry_eq]
  generalize (lg_sl ([.ref xo, .int a1, .int a2]) ++ List.replicate (4 - (lg_sl ([.ref xo, .int a1, .int a2])).length) Slot.unset).toArray = ls at hl ⊢
  have hl : lv_has ls 4 [(0, .ref xo), (1, .int a1), (2, .int a2)] := hl
  have zm5 : ((-5) : Int32).toInt = -5 := by decide
  have zm1 : ((-1) : Int32).toInt = -1 := by decide
  have z1000000000 : (1000000000 : Int32).toInt = 1000000000 := by decide
  refine lv_aload_n hx hb dB_36_3_11.1.1.1.1 rfl (lv_at hl 0 rfl) ?_
  refine va_get (ci := 11) (v := .ref xn) (C := RX11) (T := TX11) (N := 12) hx hb hts (fun _ h => List.mem_cons_of_mem _ (List.mem_append_left _ (List.mem_append_left _ (List.mem_append_left _ (List.mem_append_right _ h))))) hown hK.1 hP 0 rfl rfl 1 (by decide) (hts (.fieldLink RX11 31 "CutAtlas" "net" "LCutAtlas$Net;") (List.mem_of_getElem? (i := 1) rfl)) (fun _ h9 => h9) rfl dB_36_3_11.1.1.1.2 ?_
  refine lv_iload_n hx hb dB_36_3_11.1.1.2.1 rfl (lv_at hl 1 rfl) ?_
  refine lv_i2l (v := a1.toInt64) hx hb dB_36_3_11.1.1.2.2 rfl ?_
  have q_5 : (a1.toInt64).toInt = a1.toInt := Int32.toInt_toInt64 a1
  refine lv_iload_n hx hb dB_36_3_11.1.2.1.1 rfl (lv_at hl 2 rfl) ?_
  refine lv_i2l (v := a2.toInt64) hx hb dB_36_3_11.1.2.1.2 rfl ?_
  have q_7 : (a2.toInt64).toInt = a2.toInt := Int32.toInt_toInt64 a2
  refine ct_R hP hD [ob3_0_ xn vp vn n1 n2 n3 n4 n5] [1] (by decide) rfl (fun hPc hDw => ?_)
  have hFc := va_free (wc := []) hD hS hA [] rfl
  refine va_calli (va_runV (As := [.long a1.toInt64, .long a2.toInt64]) (rest := []) ⟨hx, hb, hml, hown, hts⟩ (c_X3_hasPair l D cy s.heap.size xn n1 n2 n3 n4 n5 vp vn a1.toInt64 a2.toInt64) (cwV 2 hts gX11_count_X3_hasPair rfl rfl rfl ⟨rfl, hd_X3_hasPair⟩ ⟨Nat.le_of_ble_eq_true rfl, Nat.le_of_ble_eq_true rfl⟩) ⟨bl_, va_recvX hK.1 hP (ci := 3) (q0 := 1) rfl rfl, fun U hU hW => ⟨rfl, by rw [hU], by rw [hU]; exact hPc, kk_mv hW hK, hDw⟩⟩ rfl rfl hl.1 rfl (lv_room (Nat.le_of_ble_eq_true rfl)) dB_36_3_11.1.2.2.1 ⟨Nat.le_of_ble_eq_true rfl, Nat.le_of_ble_eq_true rfl⟩) hS (fun q _ h => hFc q h) hFc (fun r_1 u t H locs ht hvm hw hB hz1 hk1 hS => ?_)
  have hP : va_P D vwCl _ H := ro_keep hP hk1
  rcases hw with ⟨w_2, e_⟩ | ⟨w_2, e_⟩
  · have e_ := e_.symm
    subst e_
    refine lv_if_ne (tgt := 16) hx hb dB_36_3_11.1.2.2.2 (by decide) (fun c_3 => ?_) (fun c_3 => ?_)
    · have _ := c_3
      refine lv_aload_n hx hb dB_36_3_11.2.1.2.1 rfl (lv_at hl 0 rfl) ?_
      refine lv_iload_n hx hb dB_36_3_11.2.1.2.2 rfl (lv_at hl 1 rfl) ?_
      refine lv_iload_n hx hb dB_36_3_11.2.2.1.1 rfl (lv_at hl 2 rfl) ?_
      refine ct_S hP hD hS hA [ob11_0_ xo xk xn xc xh xt xw xm xp pf ph tr fi, ob3_0_ xn vp vn n1 n2 n3 n4 n5, ai_ cy n1 40 fk, ai_ cy n2 40 fs, ai_ cy n3 40 fe, ai_ cy n4 40 fw, ai_ cy n5 40 fp, ob0_0_ xc xn xk clo cro c4 c5 c6 c7 c8, aq_ cy 6 clo 12 (gf_ rl), ai_ cy (rl 0) 12 (Ml 0), ai_ cy (rl 1) 12 (Ml 1), ai_ cy (rl 2) 12 (Ml 2), ai_ cy (rl 3) 12 (Ml 3), ai_ cy (rl 4) 12 (Ml 4), ai_ cy (rl 5) 12 (Ml 5), ai_ cy (rl 6) 12 (Ml 6), ai_ cy (rl 7) 12 (Ml 7), ai_ cy (rl 8) 12 (Ml 8), ai_ cy (rl 9) 12 (Ml 9), ai_ cy (rl 10) 12 (Ml 10), ai_ cy (rl 11) 12 (Ml 11), aq_ cy 6 cro 12 (gf_ rr), ai_ cy (rr 0) 12 (Mr 0), ai_ cy (rr 1) 12 (Mr 1), ai_ cy (rr 2) 12 (Mr 2), ai_ cy (rr 3) 12 (Mr 3), ai_ cy (rr 4) 12 (Mr 4), ai_ cy (rr 5) 12 (Mr 5), ai_ cy (rr 6) 12 (Mr 6), ai_ cy (rr 7) 12 (Mr 7), ai_ cy (rr 8) 12 (Mr 8), ai_ cy (rr 9) 12 (Mr 9), ai_ cy (rr 10) 12 (Mr 10), ai_ cy (rr 11) 12 (Mr 11), ai_ cy c4 40 f4, ai_ cy c5 40 f5, ai_ cy c6 40 f6, ai_ cy c7 12 f7, ai_ cy c8 12 f8, aq_ cy 3 xk 5 (kf_ k0 k1 k2 k3 k4), ob6_0_ k0, ob5_0_ k1, ob9_0_ k2, ob2_0_ k3, ob8_0_ k4] [0, 1, 2, 3, 4, 5, 6, 7, 8, 9, 10, 11, 12, 13, 14, 15, 16, 17, 18, 19, 20, 21, 22, 23, 24, 25, 26, 27, 28, 29, 30, 31, 32, 33, 34, 35, 36, 37, 38, 39, 40, 41, 42, 43, 44] (by decide +kernel) rfl (fun hPc hDw hFc hC_ => ?_)
      refine va_calli (va_runV (As := [.int a1, .int a2]) (rest := []) ⟨hx, hb, hml, hown, hts⟩ (c_X11_mostNow l D cy H.size xo xk xn xc xh xt xw xm xp pf ph tr fi n1 n2 n3 n4 n5 vp vn clo cro c4 c5 c6 c7 c8 fk fs fe fw fp rl Ml rr Mr f4 f5 f6 f7 f8 k0 k1 k2 k3 k4 a1 a2 (by first | with_reducible assumption | omega | assumption) (by first | with_reducible assumption | omega | assumption) (by first | with_reducible assumption | omega | assumption) (by first | with_reducible assumption | omega | assumption) (by first | with_reducible assumption | assumption | omega) (by first | with_reducible assumption | assumption | omega) (by first | with_reducible assumption | assumption | omega) (by first | with_reducible assumption | assumption | omega)) (cwV 2 hts gX11_count_X11_mostNow rfl rfl rfl ⟨rfl, hd_X11_mostNow⟩ ⟨Nat.le_of_ble_eq_true rfl, Nat.le_of_ble_eq_true rfl⟩) ⟨bl_g, va_recvX hK.1 hP (ci := 11) (q0 := 0) rfl rfl, fun U hU hW => ⟨rfl, by rw [hU], by rw [hU]; exact hPc, ⟨kk_mv hW hK, arrOfT_moved hW.alike hG⟩, hDw⟩⟩ rfl rfl hl.1 rfl (lv_room (Nat.le_of_ble_eq_true rfl)) dB_36_3_11.2.2.1.2 ⟨Nat.le_of_ble_eq_true rfl, Nat.le_of_ble_eq_true rfl⟩) hS (fun q _ h => hFc q h) hFc (fun r_4 u t H locs ht hvm hw hB hz1 hk1 hS => ?_)
      obtain ⟨eMl_5, eMr_6, e4_7, e5_8, e6_9, e7_10, e8_11, g_12, g_13, hP1, hD1⟩ := hB
      rw [ht] at hP1
      obtain ⟨hP, hD⟩ := va_join (wr := [ob7_0_ xh xc u1 u2 u3 u4 u5 u6 u7 u8]) (w1 := [ob11_0_ xo xk xn xc xh xt xw xm xp pf ph tr fi, ob3_0_ xn vp vn n1 n2 n3 n4 n5, ai_ cy n1 40 fk, ai_ cy n2 40 fs, ai_ cy n3 40 fe, ai_ cy n4 40 fw, ai_ cy n5 40 fp, ob0_0_ xc xn xk clo cro c4 c5 c6 c7 c8, aq_ cy 6 clo 12 (gf_ rl), ai_ cy (rl 0) 12 (eMl_5 0), ai_ cy (rl 1) 12 (eMl_5 1), ai_ cy (rl 2) 12 (eMl_5 2), ai_ cy (rl 3) 12 (eMl_5 3), ai_ cy (rl 4) 12 (eMl_5 4), ai_ cy (rl 5) 12 (eMl_5 5), ai_ cy (rl 6) 12 (eMl_5 6), ai_ cy (rl 7) 12 (eMl_5 7), ai_ cy (rl 8) 12 (eMl_5 8), ai_ cy (rl 9) 12 (eMl_5 9), ai_ cy (rl 10) 12 (eMl_5 10), ai_ cy (rl 11) 12 (eMl_5 11), aq_ cy 6 cro 12 (gf_ rr), ai_ cy (rr 0) 12 (eMr_6 0), ai_ cy (rr 1) 12 (eMr_6 1), ai_ cy (rr 2) 12 (eMr_6 2), ai_ cy (rr 3) 12 (eMr_6 3), ai_ cy (rr 4) 12 (eMr_6 4), ai_ cy (rr 5) 12 (eMr_6 5), ai_ cy (rr 6) 12 (eMr_6 6), ai_ cy (rr 7) 12 (eMr_6 7), ai_ cy (rr 8) 12 (eMr_6 8), ai_ cy (rr 9) 12 (eMr_6 9), ai_ cy (rr 10) 12 (eMr_6 10), ai_ cy (rr 11) 12 (eMr_6 11), ai_ cy c4 40 e4_7, ai_ cy c5 40 e5_8, ai_ cy c6 40 e6_9, ai_ cy c7 12 e7_10, ai_ cy c8 12 e8_11, aq_ cy 3 xk 5 (kf_ k0 k1 k2 k3 k4), ob6_0_ k0, ob5_0_ k1, ob9_0_ k2, ob2_0_ k3, ob8_0_ k4]) hP hD [0, 1, 2, 3, 4, 5, 6, 7, 8, 9, 10, 11, 12, 13, 14, 15, 16, 17, 18, 19, 20, 21, 22, 23, 24, 25, 26, 27, 28, 29, 30, 31, 32, 33, 34, 35, 36, 37, 38, 39, 40, 41, 42, 43, 44] [45] hC_ rfl (by decide) (by decide) hk1 hFc hP1 hD1
      refine pd_S hP hD [ob11_0_ xo xk xn xc xh xt xw xm xp pf ph tr fi, ob3_0_ xn vp vn n1 n2 n3 n4 n5, ai_ cy n1 40 fk, ai_ cy n2 40 fs, ai_ cy n3 40 fe, ai_ cy n4 40 fw, ai_ cy n5 40 fp, ob0_0_ xc xn xk clo cro c4 c5 c6 c7 c8, aq_ cy 6 clo 12 (gf_ rl), ai_ cy (rl 0) 12 (eMl_5 0), ai_ cy (rl 1) 12 (eMl_5 1), ai_ cy (rl 2) 12 (eMl_5 2), ai_ cy (rl 3) 12 (eMl_5 3), ai_ cy (rl 4) 12 (eMl_5 4), ai_ cy (rl 5) 12 (eMl_5 5), ai_ cy (rl 6) 12 (eMl_5 6), ai_ cy (rl 7) 12 (eMl_5 7), ai_ cy (rl 8) 12 (eMl_5 8), ai_ cy (rl 9) 12 (eMl_5 9), ai_ cy (rl 10) 12 (eMl_5 10), ai_ cy (rl 11) 12 (eMl_5 11), aq_ cy 6 cro 12 (gf_ rr), ai_ cy (rr 0) 12 (eMr_6 0), ai_ cy (rr 1) 12 (eMr_6 1), ai_ cy (rr 2) 12 (eMr_6 2), ai_ cy (rr 3) 12 (eMr_6 3), ai_ cy (rr 4) 12 (eMr_6 4), ai_ cy (rr 5) 12 (eMr_6 5), ai_ cy (rr 6) 12 (eMr_6 6), ai_ cy (rr 7) 12 (eMr_6 7), ai_ cy (rr 8) 12 (eMr_6 8), ai_ cy (rr 9) 12 (eMr_6 9), ai_ cy (rr 10) 12 (eMr_6 10), ai_ cy (rr 11) 12 (eMr_6 11), ai_ cy c4 40 e4_7, ai_ cy c5 40 e5_8, ai_ cy c6 40 e6_9, ai_ cy c7 12 e7_10, ai_ cy c8 12 e8_11, aq_ cy 3 xk 5 (kf_ k0 k1 k2 k3 k4), ob6_0_ k0, ob5_0_ k1, ob9_0_ k2, ob2_0_ k3, ob8_0_ k4, ob7_0_ xh xc u1 u2 u3 u4 u5 u6 u7 u8] [1, 2, 3, 4, 5, 6, 7, 8, 9, 10, 11, 12, 13, 14, 15, 16, 17, 18, 19, 20, 21, 22, 23, 24, 25, 26, 27, 28, 29, 30, 31, 32, 33, 34, 35, 36, 37, 38, 39, 40, 41, 42, 43, 44, 45, 0] (by decide +kernel) rfl (fun hP hD => ?_)
      refine lv_istore_n (lv' := [(3, .int r_4), (0, .ref xo), (1, .int a1), (2, .int a2)]) hx hb dB_36_3_11.2.2.2.1 rfl hl (by decide) rfl (fun ls hl => ?_)
      refine lv_iload_n hx hb dB_36_3_11.2.2.2.2 rfl (lv_at hl 0 rfl) ?_
      refine lv_bipush (v := (-5)) hx hb dB_36_3_12.1.1.1 (by decide) ?_
      refine lv_icmp_ne (tgt := 34) hx hb dB_36_3_12.1.1.2.1 (by decide) (fun c_14 => ?_) (fun c_14 => ?_)
      · have t_14 : ¬ r_4.toInt = ((-5) : Int32).toInt := fun h => c_14 (Int32.toInt_inj.mp h)
        refine lv_aload_n hx hb dB_36_3_12.1.2.1.2 rfl (lv_at hl 1 rfl) ?_
        refine va_get (ci := 11) (v := .ref xh) (C := RX11) (T := TX11) (N := 12) hx hb hts (fun _ h => List.mem_cons_of_mem _ (List.mem_append_left _ (List.mem_append_left _ (List.mem_append_left _ (List.mem_append_right _ h))))) hown hK.1 hP 0 rfl rfl 3 (by decide) (hts (.fieldLink RX11 49 "CutAtlas" "hunt" "LCutAtlas$SetHunt;") (List.mem_of_getElem? (i := 2) rfl)) (fun _ h9 => h9) rfl dB_36_3_12.1.2.2.1 ?_
        refine lv_iconst (v := 1) hx hb dB_36_3_12.1.2.2.2 (by decide) ?_
        refine lv_iload_n hx hb dB_36_3_12.2.1.1.1 rfl (lv_at hl 2 rfl) ?_
        refine lv_ishl hx hb dB_36_3_12.2.1.1.2 ?_
        refine lv_topi (fun y_15 ey_15 => ?_)
        refine lv_iconst (v := 1) hx hb dB_36_3_12.2.1.2.1 (by decide) ?_
        refine lv_iload_n hx hb dB_36_3_12.2.1.2.2 rfl (lv_at hl 3 rfl) ?_
        refine lv_ishl hx hb dB_36_3_12.2.2.1.1 ?_
        refine lv_topi (fun y_16 ey_16 => ?_)
        refine lv_iload_n hx hb dB_36_3_12.2.2.1.2 rfl (lv_at hl 0 rfl) ?_
        refine ct_S hP hD hS hA [ob7_0_ xh xc u1 u2 u3 u4 u5 u6 u7 u8, ob0_0_ xc xn xk clo cro c4 c5 c6 c7 c8, ob3_0_ xn vp vn n1 n2 n3 n4 n5, aq_ cy 6 clo 12 (gf_ rl), ai_ cy (rl 0) 12 (eMl_5 0), ai_ cy (rl 1) 12 (eMl_5 1), ai_ cy (rl 2) 12 (eMl_5 2), ai_ cy (rl 3) 12 (eMl_5 3), ai_ cy (rl 4) 12 (eMl_5 4), ai_ cy (rl 5) 12 (eMl_5 5), ai_ cy (rl 6) 12 (eMl_5 6), ai_ cy (rl 7) 12 (eMl_5 7), ai_ cy (rl 8) 12 (eMl_5 8), ai_ cy (rl 9) 12 (eMl_5 9), ai_ cy (rl 10) 12 (eMl_5 10), ai_ cy (rl 11) 12 (eMl_5 11)] [45, 7, 1, 8, 9, 10, 11, 12, 13, 14, 15, 16, 17, 18, 19, 20] (by decide +kernel) rfl (fun hPc hDw hFc hC_ => ?_)
        refine va_calli (va_runV (As := [.int y_15, .int y_16, .int r_4]) (rest := []) ⟨hx, hb, hml, hown, hts⟩ (c_X7_countCuts l D cy H.size xh u1 u2 u3 u4 u5 u6 u7 u8 xc xk clo cro c4 c5 c6 c7 c8 xn n1 n2 n3 n4 n5 vp vn rl eMl_5 y_15 y_16 r_4 (by first | with_reducible assumption | omega | assumption)) (cwV 3 hts gX11_count_X7_countCuts rfl rfl rfl ⟨rfl, hd_X7_countCuts⟩ ⟨Nat.le_of_ble_eq_true rfl, Nat.le_of_ble_eq_true rfl⟩) ⟨bl_g, va_recvX hK.1 hP (ci := 7) (q0 := 45) rfl rfl, fun U hU hW => ⟨rfl, by rw [hU], by rw [hU]; exact hPc, ⟨kk_mv hW hK, arrOfT_moved hW.alike hG⟩, hDw⟩⟩ rfl rfl hl.1 rfl (lv_room (Nat.le_of_ble_eq_true rfl)) dB_36_3_12.2.2.2.1 ⟨Nat.le_of_ble_eq_true rfl, Nat.le_of_ble_eq_true rfl⟩) hS (fun q _ h => hFc q h) hFc (fun r_17 u t H locs ht hvm hw hB hz1 hk1 hS => ?_)
        obtain ⟨v5_18, v6_19, hP1, hD1⟩ := hB
        rw [ht] at hP1
        obtain ⟨hP, hD⟩ := va_join (wr := [ob11_0_ xo xk xn xc xh xt xw xm xp pf ph tr fi, ai_ cy n1 40 fk, ai_ cy n2 40 fs, ai_ cy n3 40 fe, ai_ cy n4 40 fw, ai_ cy n5 40 fp, aq_ cy 6 cro 12 (gf_ rr), ai_ cy (rr 0) 12 (eMr_6 0), ai_ cy (rr 1) 12 (eMr_6 1), ai_ cy (rr 2) 12 (eMr_6 2), ai_ cy (rr 3) 12 (eMr_6 3), ai_ cy (rr 4) 12 (eMr_6 4), ai_ cy (rr 5) 12 (eMr_6 5), ai_ cy (rr 6) 12 (eMr_6 6), ai_ cy (rr 7) 12 (eMr_6 7), ai_ cy (rr 8) 12 (eMr_6 8), ai_ cy (rr 9) 12 (eMr_6 9), ai_ cy (rr 10) 12 (eMr_6 10), ai_ cy (rr 11) 12 (eMr_6 11), ai_ cy c4 40 e4_7, ai_ cy c5 40 e5_8, ai_ cy c6 40 e6_9, ai_ cy c7 12 e7_10, ai_ cy c8 12 e8_11, aq_ cy 3 xk 5 (kf_ k0 k1 k2 k3 k4), ob6_0_ k0, ob5_0_ k1, ob9_0_ k2, ob2_0_ k3, ob8_0_ k4]) (w1 := [ob7_0_ xh xc y_15 y_16 r_4 1000000000 v5_18 v6_19 u7 u8, ob0_0_ xc xn xk clo cro c4 c5 c6 c7 c8, ob3_0_ xn vp vn n1 n2 n3 n4 n5, aq_ cy 6 clo 12 (gf_ rl), ai_ cy (rl 0) 12 (eMl_5 0), ai_ cy (rl 1) 12 (eMl_5 1), ai_ cy (rl 2) 12 (eMl_5 2), ai_ cy (rl 3) 12 (eMl_5 3), ai_ cy (rl 4) 12 (eMl_5 4), ai_ cy (rl 5) 12 (eMl_5 5), ai_ cy (rl 6) 12 (eMl_5 6), ai_ cy (rl 7) 12 (eMl_5 7), ai_ cy (rl 8) 12 (eMl_5 8), ai_ cy (rl 9) 12 (eMl_5 9), ai_ cy (rl 10) 12 (eMl_5 10), ai_ cy (rl 11) 12 (eMl_5 11)]) hP hD [45, 7, 1, 8, 9, 10, 11, 12, 13, 14, 15, 16, 17, 18, 19, 20] [0, 2, 3, 4, 5, 6, 21, 22, 23, 24, 25, 26, 27, 28, 29, 30, 31, 32, 33, 34, 35, 36, 37, 38, 39, 40, 41, 42, 43, 44] hC_ rfl (by decide +kernel) (by decide +kernel) hk1 hFc hP1 hD1
        refine pd_S hP hD [ob11_0_ xo xk xn xc xh xt xw xm xp pf ph tr fi, ob3_0_ xn vp vn n1 n2 n3 n4 n5, ai_ cy n1 40 fk, ai_ cy n2 40 fs, ai_ cy n3 40 fe, ai_ cy n4 40 fw, ai_ cy n5 40 fp, ob0_0_ xc xn xk clo cro c4 c5 c6 c7 c8, aq_ cy 6 clo 12 (gf_ rl), ai_ cy (rl 0) 12 (eMl_5 0), ai_ cy (rl 1) 12 (eMl_5 1), ai_ cy (rl 2) 12 (eMl_5 2), ai_ cy (rl 3) 12 (eMl_5 3), ai_ cy (rl 4) 12 (eMl_5 4), ai_ cy (rl 5) 12 (eMl_5 5), ai_ cy (rl 6) 12 (eMl_5 6), ai_ cy (rl 7) 12 (eMl_5 7), ai_ cy (rl 8) 12 (eMl_5 8), ai_ cy (rl 9) 12 (eMl_5 9), ai_ cy (rl 10) 12 (eMl_5 10), ai_ cy (rl 11) 12 (eMl_5 11), aq_ cy 6 cro 12 (gf_ rr), ai_ cy (rr 0) 12 (eMr_6 0), ai_ cy (rr 1) 12 (eMr_6 1), ai_ cy (rr 2) 12 (eMr_6 2), ai_ cy (rr 3) 12 (eMr_6 3), ai_ cy (rr 4) 12 (eMr_6 4), ai_ cy (rr 5) 12 (eMr_6 5), ai_ cy (rr 6) 12 (eMr_6 6), ai_ cy (rr 7) 12 (eMr_6 7), ai_ cy (rr 8) 12 (eMr_6 8), ai_ cy (rr 9) 12 (eMr_6 9), ai_ cy (rr 10) 12 (eMr_6 10), ai_ cy (rr 11) 12 (eMr_6 11), ai_ cy c4 40 e4_7, ai_ cy c5 40 e5_8, ai_ cy c6 40 e6_9, ai_ cy c7 12 e7_10, ai_ cy c8 12 e8_11, aq_ cy 3 xk 5 (kf_ k0 k1 k2 k3 k4), ob6_0_ k0, ob5_0_ k1, ob9_0_ k2, ob2_0_ k3, ob8_0_ k4, ob7_0_ xh xc y_15 y_16 r_4 1000000000 v5_18 v6_19 u7 u8] [0, 32, 1, 2, 3, 4, 5, 31, 33, 34, 35, 36, 37, 38, 39, 40, 41, 42, 43, 44, 45, 6, 7, 8, 9, 10, 11, 12, 13, 14, 15, 16, 17, 18, 19, 20, 21, 22, 23, 24, 25, 26, 27, 28, 29, 30] (by decide +kernel) rfl (fun hP hD => ?_)
        rw [hQ]
        exact W.iret (v := r_17) hx hb hr (fun t ht hW => ⟨⟨r_17, (), rfl, trivial, eMl_5, eMr_6, e4_7, e5_8, e6_9, e7_10, e8_11, y_15, y_16, r_4, (1000000000 : Int32), v5_18, v6_19, (by first | with_reducible assumption | assumption | exact rng_zero (by omega) (by omega) | omega), (by first | with_reducible assumption | assumption | exact rng_zero (by omega) (by omega) | omega), by rw [ht]; exact hP, hD⟩, hS.F ht⟩) hS.2.2 dB_36_3_12.2.2.2.2
      · have t_14 : r_4.toInt = ((-5) : Int32).toInt := congrArg Int32.toInt c_14
        refine lv_bipush (v := (-5)) hx hb dB_36_3_12.1.1.2.2 (by decide) ?_
        refine lv_goto (tgt := 48) hx hb dB_36_3_12.1.2.1.1 (by decide) ?_
        rw [hQ]
        exact W.iret (v := (-5)) hx hb hr (fun t ht hW => ⟨⟨(-5), (), rfl, trivial, eMl_5, eMr_6, e4_7, e5_8, e6_9, e7_10, e8_11, u1, u2, u3, u4, u5, u6, (by first | with_reducible assumption | assumption | exact rng_zero (by omega) (by omega) | omega), (by first | with_reducible assumption | assumption | exact rng_zero (by omega) (by omega) | omega), by rw [ht]; exact hP, hD⟩, hS.F ht⟩) hS.2.2 dB_36_3_12.2.2.2.2
    · exact absurd c_3 (by decide)
  · have e_ := e_.symm
    subst e_
    refine lv_if_ne (tgt := 16) hx hb dB_36_3_11.1.2.2.2 (by decide) (fun c_20 => ?_) (fun c_20 => ?_)
    · exact absurd c_20 (by decide)
    · have _ := c_20
      refine lv_iconst (v := (-1)) hx hb dB_36_3_11.2.1.1.1 (by decide) ?_
      rw [hQ]
      exact W.iret (v := (-1)) hx hb hr (fun t ht hW => ⟨⟨(-1), (), rfl, trivial, Ml, Mr, f4, f5, f6, f7, f8, u1, u2, u3, u4, u5, u6, (by first | with_reducible assumption | assumption | exact rng_zero (by omega) (by omega) | omega), (by first | with_reducible assumption | assumption | exact rng_zero (by omega) (by omega) | omega), by rw [ht]; exact hP, hD⟩, hS.F ht⟩) hS.2.2 dB_36_3_11.2.1.1.2

set_option maxHeartbeats 4000000 in
set_option maxRecDepth 100000 in
theorem c_X11_next (l : Launch) (D : va_G) (cy : Nat → ClassId) (sz : Nat) (xo : Nat) (xk : Nat) (xn : Nat) (xc : Nat) (xh : Nat) (xt : Nat) (xw : Nat) (xm : Nat) (xp : Nat) (pf : Int32) (ph : Int32) (tr : Int64) (fi : Int32) (n1 : Nat) (n2 : Nat) (n3 : Nat) (n4 : Nat) (n5 : Nat) (vp : Int32) (vn : Int32) (clo : Nat) (cro : Nat) (c4 : Nat) (c5 : Nat) (c6 : Nat) (c7 : Nat) (c8 : Nat) (fk : Nat → Int32) (fs : Nat → Int32) (fe : Nat → Int32) (fw : Nat → Int32) (fp : Nat → Int32) (rl : Nat → Nat) (Ml : Nat → Nat → Int32) (rr : Nat → Nat) (Mr : Nat → Nat → Int32) (f4 : Nat → Int32) (f5 : Nat → Int32) (f6 : Nat → Int32) (f7 : Nat → Int32) (f8 : Nat → Int32) (k0 : Nat) (k1 : Nat) (k2 : Nat) (k3 : Nat) (k4 : Nat) (u1 : Int32) (u2 : Int32) (u3 : Int32) (u4 : Int32) (u5 : Int32) (u6 : Int32) (u7 : Int32) (u8 : Int32) (a1 : Int32) (a2 : Int32) (a3 : Int32) (hvp : 0 ≤ vp.toInt ∧ vp.toInt ≤ 12) (hvn : 0 ≤ vn.toInt ∧ vn.toInt ≤ 40) (hpr : prng fs fe 40) (r_f7 : rng f7 12 (0) (11)) (r_f8 : rng f8 12 (0) (11)) (r_fk : rng fk 40 (0) (4)) : Met l yX11_next wsX11_next ({ frames := 16, cells := 0, slots := 0, locals := 382 }) (va_Pc [.ref xo, .int a1, .int a2, .int a3] (fun U => U.heap.size = sz ∧ va_P D vwCl [ob11_0_ xo xk xn xc xh xt xw xm xp pf ph tr fi, ob3_0_ xn vp vn n1 n2 n3 n4 n5, ai_ cy n1 40 fk, ai_ cy n2 40 fs, ai_ cy n3 40 fe, ai_ cy n4 40 fw, ai_ cy n5 40 fp, ob0_0_ xc xn xk clo cro c4 c5 c6 c7 c8, aq_ cy 6 clo 12 (gf_ rl), ai_ cy (rl 0) 12 (Ml 0), ai_ cy (rl 1) 12 (Ml 1), ai_ cy (rl 2) 12 (Ml 2), ai_ cy (rl 3) 12 (Ml 3), ai_ cy (rl 4) 12 (Ml 4), ai_ cy (rl 5) 12 (Ml 5), ai_ cy (rl 6) 12 (Ml 6), ai_ cy (rl 7) 12 (Ml 7), ai_ cy (rl 8) 12 (Ml 8), ai_ cy (rl 9) 12 (Ml 9), ai_ cy (rl 10) 12 (Ml 10), ai_ cy (rl 11) 12 (Ml 11), aq_ cy 6 cro 12 (gf_ rr), ai_ cy (rr 0) 12 (Mr 0), ai_ cy (rr 1) 12 (Mr 1), ai_ cy (rr 2) 12 (Mr 2), ai_ cy (rr 3) 12 (Mr 3), ai_ cy (rr 4) 12 (Mr 4), ai_ cy (rr 5) 12 (Mr 5), ai_ cy (rr 6) 12 (Mr 6), ai_ cy (rr 7) 12 (Mr 7), ai_ cy (rr 8) 12 (Mr 8), ai_ cy (rr 9) 12 (Mr 9), ai_ cy (rr 10) 12 (Mr 10), ai_ cy (rr 11) 12 (Mr 11), ai_ cy c4 40 f4, ai_ cy c5 40 f5, ai_ cy c6 40 f6, ai_ cy c7 12 f7, ai_ cy c8 12 f8, aq_ cy 3 xk 5 (kf_ k0 k1 k2 k3 k4), ob6_0_ k0, ob5_0_ k1, ob9_0_ k2, ob2_0_ k3, ob8_0_ k4, ob7_0_ xh xc u1 u2 u3 u4 u5 u6 u7 u8] U.heap ∧ kg_ D cy U ∧ va_D (fun _ => True) [ob11_0_ xo xk xn xc xh xt xw xm xp pf ph tr fi, ob3_0_ xn vp vn n1 n2 n3 n4 n5, ai_ cy n1 40 fk, ai_ cy n2 40 fs, ai_ cy n3 40 fe, ai_ cy n4 40 fw, ai_ cy n5 40 fp, ob0_0_ xc xn xk clo cro c4 c5 c6 c7 c8, aq_ cy 6 clo 12 (gf_ rl), ai_ cy (rl 0) 12 (Ml 0), ai_ cy (rl 1) 12 (Ml 1), ai_ cy (rl 2) 12 (Ml 2), ai_ cy (rl 3) 12 (Ml 3), ai_ cy (rl 4) 12 (Ml 4), ai_ cy (rl 5) 12 (Ml 5), ai_ cy (rl 6) 12 (Ml 6), ai_ cy (rl 7) 12 (Ml 7), ai_ cy (rl 8) 12 (Ml 8), ai_ cy (rl 9) 12 (Ml 9), ai_ cy (rl 10) 12 (Ml 10), ai_ cy (rl 11) 12 (Ml 11), aq_ cy 6 cro 12 (gf_ rr), ai_ cy (rr 0) 12 (Mr 0), ai_ cy (rr 1) 12 (Mr 1), ai_ cy (rr 2) 12 (Mr 2), ai_ cy (rr 3) 12 (Mr 3), ai_ cy (rr 4) 12 (Mr 4), ai_ cy (rr 5) 12 (Mr 5), ai_ cy (rr 6) 12 (Mr 6), ai_ cy (rr 7) 12 (Mr 7), ai_ cy (rr 8) 12 (Mr 8), ai_ cy (rr 9) 12 (Mr 9), ai_ cy (rr 10) 12 (Mr 10), ai_ cy (rr 11) 12 (Mr 11), ai_ cy c4 40 f4, ai_ cy c5 40 f5, ai_ cy c6 40 f6, ai_ cy c7 12 f7, ai_ cy c8 12 f8, aq_ cy 3 xk 5 (kf_ k0 k1 k2 k3 k4), ob6_0_ k0, ob5_0_ k1, ob9_0_ k2, ob2_0_ k3, ob8_0_ k4, ob7_0_ xh xc u1 u2 u3 u4 u5 u6 u7 u8])) (va_Qi (fun (r : Int32) (_ : Unit) => True) (fun (_ : Unit) (t : State) => ∃ (eMl : Nat → Nat → Int32), ∃ (eMr : Nat → Nat → Int32), ∃ (e4 : Nat → Int32), ∃ (e5 : Nat → Int32), ∃ (e6 : Nat → Int32), ∃ (e7 : Nat → Int32), ∃ (e8 : Nat → Int32), ∃ (v1 : Int32), ∃ (v2 : Int32), ∃ (v3 : Int32), ∃ (v4 : Int32), ∃ (v5 : Int32), ∃ (v6 : Int32), (rng e7 12 (0) (11)) ∧ (rng e8 12 (0) (11)) ∧ va_P D vwCl [ob11_0_ xo xk xn xc xh xt xw xm xp pf ph tr fi, ob3_0_ xn vp vn n1 n2 n3 n4 n5, ai_ cy n1 40 fk, ai_ cy n2 40 fs, ai_ cy n3 40 fe, ai_ cy n4 40 fw, ai_ cy n5 40 fp, ob0_0_ xc xn xk clo cro c4 c5 c6 c7 c8, aq_ cy 6 clo 12 (gf_ rl), ai_ cy (rl 0) 12 (eMl 0), ai_ cy (rl 1) 12 (eMl 1), ai_ cy (rl 2) 12 (eMl 2), ai_ cy (rl 3) 12 (eMl 3), ai_ cy (rl 4) 12 (eMl 4), ai_ cy (rl 5) 12 (eMl 5), ai_ cy (rl 6) 12 (eMl 6), ai_ cy (rl 7) 12 (eMl 7), ai_ cy (rl 8) 12 (eMl 8), ai_ cy (rl 9) 12 (eMl 9), ai_ cy (rl 10) 12 (eMl 10), ai_ cy (rl 11) 12 (eMl 11), aq_ cy 6 cro 12 (gf_ rr), ai_ cy (rr 0) 12 (eMr 0), ai_ cy (rr 1) 12 (eMr 1), ai_ cy (rr 2) 12 (eMr 2), ai_ cy (rr 3) 12 (eMr 3), ai_ cy (rr 4) 12 (eMr 4), ai_ cy (rr 5) 12 (eMr 5), ai_ cy (rr 6) 12 (eMr 6), ai_ cy (rr 7) 12 (eMr 7), ai_ cy (rr 8) 12 (eMr 8), ai_ cy (rr 9) 12 (eMr 9), ai_ cy (rr 10) 12 (eMr 10), ai_ cy (rr 11) 12 (eMr 11), ai_ cy c4 40 e4, ai_ cy c5 40 e5, ai_ cy c6 40 e6, ai_ cy c7 12 e7, ai_ cy c8 12 e8, aq_ cy 3 xk 5 (kf_ k0 k1 k2 k3 k4), ob6_0_ k0, ob5_0_ k1, ob9_0_ k2, ob2_0_ k3, ob8_0_ k4, ob7_0_ xh xc v1 v2 v3 v4 v5 v6 u7 u8] t.heap ∧ va_D (va_A [ob11_0_ xo xk xn xc xh xt xw xm xp pf ph tr fi, ob3_0_ xn vp vn n1 n2 n3 n4 n5, ai_ cy n1 40 fk, ai_ cy n2 40 fs, ai_ cy n3 40 fe, ai_ cy n4 40 fw, ai_ cy n5 40 fp, ob0_0_ xc xn xk clo cro c4 c5 c6 c7 c8, aq_ cy 6 clo 12 (gf_ rl), ai_ cy (rl 0) 12 (Ml 0), ai_ cy (rl 1) 12 (Ml 1), ai_ cy (rl 2) 12 (Ml 2), ai_ cy (rl 3) 12 (Ml 3), ai_ cy (rl 4) 12 (Ml 4), ai_ cy (rl 5) 12 (Ml 5), ai_ cy (rl 6) 12 (Ml 6), ai_ cy (rl 7) 12 (Ml 7), ai_ cy (rl 8) 12 (Ml 8), ai_ cy (rl 9) 12 (Ml 9), ai_ cy (rl 10) 12 (Ml 10), ai_ cy (rl 11) 12 (Ml 11), aq_ cy 6 cro 12 (gf_ rr), ai_ cy (rr 0) 12 (Mr 0), ai_ cy (rr 1) 12 (Mr 1), ai_ cy (rr 2) 12 (Mr 2), ai_ cy (rr 3) 12 (Mr 3), ai_ cy (rr 4) 12 (Mr 4), ai_ cy (rr 5) 12 (Mr 5), ai_ cy (rr 6) 12 (Mr 6), ai_ cy (rr 7) 12 (Mr 7), ai_ cy (rr 8) 12 (Mr 8), ai_ cy (rr 9) 12 (Mr 9), ai_ cy (rr 10) 12 (Mr 10), ai_ cy (rr 11) 12 (Mr 11), ai_ cy c4 40 f4, ai_ cy c5 40 f5, ai_ cy c6 40 f6, ai_ cy c7 12 f7, ai_ cy c8 12 f8, aq_ cy 3 xk 5 (kf_ k0 k1 k2 k3 k4), ob6_0_ k0, ob5_0_ k1, ob9_0_ k2, ob2_0_ k3, ob8_0_ k4, ob7_0_ xh xc u1 u2 u3 u4 u5 u6 u7 u8] sz) [ob11_0_ xo xk xn xc xh xt xw xm xp pf ph tr fi, ob3_0_ xn vp vn n1 n2 n3 n4 n5, ai_ cy n1 40 fk, ai_ cy n2 40 fs, ai_ cy n3 40 fe, ai_ cy n4 40 fw, ai_ cy n5 40 fp, ob0_0_ xc xn xk clo cro c4 c5 c6 c7 c8, aq_ cy 6 clo 12 (gf_ rl), ai_ cy (rl 0) 12 (eMl 0), ai_ cy (rl 1) 12 (eMl 1), ai_ cy (rl 2) 12 (eMl 2), ai_ cy (rl 3) 12 (eMl 3), ai_ cy (rl 4) 12 (eMl 4), ai_ cy (rl 5) 12 (eMl 5), ai_ cy (rl 6) 12 (eMl 6), ai_ cy (rl 7) 12 (eMl 7), ai_ cy (rl 8) 12 (eMl 8), ai_ cy (rl 9) 12 (eMl 9), ai_ cy (rl 10) 12 (eMl 10), ai_ cy (rl 11) 12 (eMl 11), aq_ cy 6 cro 12 (gf_ rr), ai_ cy (rr 0) 12 (eMr 0), ai_ cy (rr 1) 12 (eMr 1), ai_ cy (rr 2) 12 (eMr 2), ai_ cy (rr 3) 12 (eMr 3), ai_ cy (rr 4) 12 (eMr 4), ai_ cy (rr 5) 12 (eMr 5), ai_ cy (rr 6) 12 (eMr 6), ai_ cy (rr 7) 12 (eMr 7), ai_ cy (rr 8) 12 (eMr 8), ai_ cy (rr 9) 12 (eMr 9), ai_ cy (rr 10) 12 (eMr 10), ai_ cy (rr 11) 12 (eMr 11), ai_ cy c4 40 e4, ai_ cy c5 40 e5, ai_ cy c6 40 e6, ai_ cy c7 12 e7, ai_ cy c8 12 e8, aq_ cy 3 xk 5 (kf_ k0 k1 k2 k3 k4), ob6_0_ k0, ob5_0_ k1, ob9_0_ k2, ob2_0_ k3, ob8_0_ k4, ob7_0_ xh xc v1 v2 v3 v4 v5 v6 u7 u8]) (va_A [ob11_0_ xo xk xn xc xh xt xw xm xp pf ph tr fi, ob3_0_ xn vp vn n1 n2 n3 n4 n5, ai_ cy n1 40 fk, ai_ cy n2 40 fs, ai_ cy n3 40 fe, ai_ cy n4 40 fw, ai_ cy n5 40 fp, ob0_0_ xc xn xk clo cro c4 c5 c6 c7 c8, aq_ cy 6 clo 12 (gf_ rl), ai_ cy (rl 0) 12 (Ml 0), ai_ cy (rl 1) 12 (Ml 1), ai_ cy (rl 2) 12 (Ml 2), ai_ cy (rl 3) 12 (Ml 3), ai_ cy (rl 4) 12 (Ml 4), ai_ cy (rl 5) 12 (Ml 5), ai_ cy (rl 6) 12 (Ml 6), ai_ cy (rl 7) 12 (Ml 7), ai_ cy (rl 8) 12 (Ml 8), ai_ cy (rl 9) 12 (Ml 9), ai_ cy (rl 10) 12 (Ml 10), ai_ cy (rl 11) 12 (Ml 11), aq_ cy 6 cro 12 (gf_ rr), ai_ cy (rr 0) 12 (Mr 0), ai_ cy (rr 1) 12 (Mr 1), ai_ cy (rr 2) 12 (Mr 2), ai_ cy (rr 3) 12 (Mr 3), ai_ cy (rr 4) 12 (Mr 4), ai_ cy (rr 5) 12 (Mr 5), ai_ cy (rr 6) 12 (Mr 6), ai_ cy (rr 7) 12 (Mr 7), ai_ cy (rr 8) 12 (Mr 8), ai_ cy (rr 9) 12 (Mr 9), ai_ cy (rr 10) 12 (Mr 10), ai_ cy (rr 11) 12 (Mr 11), ai_ cy c4 40 f4, ai_ cy c5 40 f5, ai_ cy c6 40 f6, ai_ cy c7 12 f7, ai_ cy c8 12 f8, aq_ cy 3 xk 5 (kf_ k0 k1 k2 k3 k4), ob6_0_ k0, ob5_0_ k1, ob9_0_ k2, ob2_0_ k3, ob8_0_ k4, ob7_0_ xh xc u1 u2 u3 u4 u5 u6 u7 u8] sz)) 0 0 (va_A [ob11_0_ xo xk xn xc xh xt xw xm xp pf ph tr fi, ob3_0_ xn vp vn n1 n2 n3 n4 n5, ai_ cy n1 40 fk, ai_ cy n2 40 fs, ai_ cy n3 40 fe, ai_ cy n4 40 fw, ai_ cy n5 40 fp, ob0_0_ xc xn xk clo cro c4 c5 c6 c7 c8, aq_ cy 6 clo 12 (gf_ rl), ai_ cy (rl 0) 12 (Ml 0), ai_ cy (rl 1) 12 (Ml 1), ai_ cy (rl 2) 12 (Ml 2), ai_ cy (rl 3) 12 (Ml 3), ai_ cy (rl 4) 12 (Ml 4), ai_ cy (rl 5) 12 (Ml 5), ai_ cy (rl 6) 12 (Ml 6), ai_ cy (rl 7) 12 (Ml 7), ai_ cy (rl 8) 12 (Ml 8), ai_ cy (rl 9) 12 (Ml 9), ai_ cy (rl 10) 12 (Ml 10), ai_ cy (rl 11) 12 (Ml 11), aq_ cy 6 cro 12 (gf_ rr), ai_ cy (rr 0) 12 (Mr 0), ai_ cy (rr 1) 12 (Mr 1), ai_ cy (rr 2) 12 (Mr 2), ai_ cy (rr 3) 12 (Mr 3), ai_ cy (rr 4) 12 (Mr 4), ai_ cy (rr 5) 12 (Mr 5), ai_ cy (rr 6) 12 (Mr 6), ai_ cy (rr 7) 12 (Mr 7), ai_ cy (rr 8) 12 (Mr 8), ai_ cy (rr 9) 12 (Mr 9), ai_ cy (rr 10) 12 (Mr 10), ai_ cy (rr 11) 12 (Mr 11), ai_ cy c4 40 f4, ai_ cy c5 40 f5, ai_ cy c6 40 f6, ai_ cy c7 12 f7, ai_ cy c8 12 f8, aq_ cy 3 xk 5 (kf_ k0 k1 k2 k3 k4), ob6_0_ k0, ob5_0_ k1, ob9_0_ k2, ob2_0_ k3, ob8_0_ k4, ob7_0_ xh xc u1 u2 u3 u4 u5 u6 u7 u8] sz) := by
  refine ofQ (cc := cX11_next) (maxL := 5) (ret := (some .int)) (by decide) rfl ?_
  intro p e s m args below meth c s₁ Q hQ B hml hv
  obtain ⟨rfl, hsz, hP, hK, hD0⟩ := hv
  have hG := hK.2
  have hK := hK.1
  have hx := B.exec
  have hb := B.bytes
  have hr := B.returns
  have hts := atoms_spec (ws := wsX11_next) B.pre
  have hown : s.vm.findClass RX11 = some m.cls := by have h_ := findClass_of_methodNamed B.named; exact h_
  have hlocks := B.notSynchronized
  subst hsz
  have hD := hD0.self (sz := s.heap.size)
  generalize hAe : va_A [ob11_0_ xo xk xn xc xh xt xw xm xp pf ph tr fi, ob3_0_ xn vp vn n1 n2 n3 n4 n5, ai_ cy n1 40 fk, ai_ cy n2 40 fs, ai_ cy n3 40 fe, ai_ cy n4 40 fw, ai_ cy n5 40 fp, ob0_0_ xc xn xk clo cro c4 c5 c6 c7 c8, aq_ cy 6 clo 12 (gf_ rl), ai_ cy (rl 0) 12 (Ml 0), ai_ cy (rl 1) 12 (Ml 1), ai_ cy (rl 2) 12 (Ml 2), ai_ cy (rl 3) 12 (Ml 3), ai_ cy (rl 4) 12 (Ml 4), ai_ cy (rl 5) 12 (Ml 5), ai_ cy (rl 6) 12 (Ml 6), ai_ cy (rl 7) 12 (Ml 7), ai_ cy (rl 8) 12 (Ml 8), ai_ cy (rl 9) 12 (Ml 9), ai_ cy (rl 10) 12 (Ml 10), ai_ cy (rl 11) 12 (Ml 11), aq_ cy 6 cro 12 (gf_ rr), ai_ cy (rr 0) 12 (Mr 0), ai_ cy (rr 1) 12 (Mr 1), ai_ cy (rr 2) 12 (Mr 2), ai_ cy (rr 3) 12 (Mr 3), ai_ cy (rr 4) 12 (Mr 4), ai_ cy (rr 5) 12 (Mr 5), ai_ cy (rr 6) 12 (Mr 6), ai_ cy (rr 7) 12 (Mr 7), ai_ cy (rr 8) 12 (Mr 8), ai_ cy (rr 9) 12 (Mr 9), ai_ cy (rr 10) 12 (Mr 10), ai_ cy (rr 11) 12 (Mr 11), ai_ cy c4 40 f4, ai_ cy c5 40 f5, ai_ cy c6 40 f6, ai_ cy c7 12 f7, ai_ cy c8 12 f8, aq_ cy 3 xk 5 (kf_ k0 k1 k2 k3 k4), ob6_0_ k0, ob5_0_ k1, ob9_0_ k2, ob2_0_ k3, ob8_0_ k4, ob7_0_ xh xc u1 u2 u3 u4 u5 u6 u7 u8] s.heap.size = A at hD hQ
  have hA : ∀ q : Nat, s.heap.size ≤ q → A q := fun q h => by rw [← hAe]; exact Or.inr h
  have hS : va_S A s.heap s.heap [] := va_S.rf
  have hl := lv_entry ([.ref xo, .int a1, .int a2, .int a3]) (n := 5) (Nat.le_of_ble_eq_true rfl)
  rw [lg_entry_eq]
  generalize (lg_sl ([.ref xo, .int a1, .int a2, .int a3]) ++ List.replicate (5 - (lg_sl ([.ref xo, .int a1, .int a2, .int a3])).length) Slot.unset).toArray = ls at hl ⊢
  have hl : lv_has ls 5 [(0, .ref xo), (1, .int a1), (2, .int a2), (3, .int a3)] := hl
  have zm5 : ((-5) : Int32).toInt = -5 := by decide
  have zm1 : ((-1) : Int32).toInt = -1 := by decide
  have z0 : (0 : Int32).toInt = 0 := by decide
  refine lv_aload_n hx hb dB_36_3_35.1.1.1.1 rfl (lv_at hl 0 rfl) ?_
  refine va_get (ci := 11) (v := .ref xn) (C := RX11) (T := TX11) (N := 12) hx hb hts (fun _ h => List.mem_cons_of_mem _ (List.mem_append_left _ (List.mem_append_left _ (List.mem_append_left _ (List.mem_append_right _ h))))) hown hK.1 hP 0 rfl rfl 1 (by decide) (hts (.fieldLink RX11 31 "CutAtlas" "net" "LCutAtlas$Net;") (List.mem_of_getElem? (i := 1) rfl)) (fun _ h9 => h9) rfl dB_36_3_35.1.1.1.2 ?_
  refine lv_iload_n hx hb dB_36_3_35.1.1.2.1 rfl (lv_at hl 1 rfl) ?_
  refine lv_i2l (v := a1.toInt64) hx hb dB_36_3_35.1.1.2.2 rfl ?_
  have q_5 : (a1.toInt64).toInt = a1.toInt := Int32.toInt_toInt64 a1
  refine lv_iload_n hx hb dB_36_3_35.1.2.1.1 rfl (lv_at hl 2 rfl) ?_
  refine lv_i2l (v := a2.toInt64) hx hb dB_36_3_35.1.2.1.2 rfl ?_
  have q_7 : (a2.toInt64).toInt = a2.toInt := Int32.toInt_toInt64 a2
  refine ct_R hP hD [ob3_0_ xn vp vn n1 n2 n3 n4 n5] [1] (by decide) rfl (fun hPc hDw => ?_)
  have hFc := va_free (wc := []) hD hS hA [] rfl
  refine va_calli (va_runV (As := [.long a1.toInt64, .long a2.toInt64]) (rest := []) ⟨hx, hb, hml, hown, hts⟩ (c_X3_hasPair l D cy s.heap.size xn n1 n2 n3 n4 n5 vp vn a1.toInt64 a2.toInt64) (cwV 2 hts gX11_next_X3_hasPair rfl rfl rfl ⟨rfl, hd_X3_hasPair⟩ ⟨Nat.le_of_ble_eq_true rfl, Nat.le_of_ble_eq_true rfl⟩) ⟨bl_, va_recvX hK.1 hP (ci := 3) (q0 := 1) rfl rfl, fun U hU hW => ⟨rfl, by rw [hU], by rw [hU]; exact hPc, kk_mv hW hK, hDw⟩⟩ rfl rfl hl.1 rfl (lv_room (Nat.le_of_ble_eq_true rfl)) dB_36_3_35.1.2.2.1 ⟨Nat.le_of_ble_eq_true rfl, Nat.le_of_ble_eq_true rfl⟩) hS (fun q _ h => hFc q h) hFc (fun r_1 u t H locs ht hvm hw hB hz1 hk1 hS => ?_)
  have hP : va_P D vwCl _ H := ro_keep hP hk1
  rcases hw with ⟨w_2, e_⟩ | ⟨w_2, e_⟩
  · have e_ := e_.symm
    subst e_
    refine lv_if_eq (tgt := 18) hx hb dB_36_3_35.1.2.2.2 (by decide) (fun c_3 => ?_) (fun c_3 => ?_)
    · exact absurd c_3 (by decide)
    · have _ := c_3
      refine lv_iload_n hx hb dB_36_3_35.2.1.1.1 rfl (lv_at hl 3 rfl) ?_
      refine lv_if_ge (tgt := 20) hx hb dB_36_3_35.2.1.1.2 (by decide) (fun c_4 => ?_) (fun c_4 => ?_)
      · have t_4 : (0 : Int32).toInt ≤ a3.toInt := Int32.le_iff_toInt_le.mp c_4
        refine lv_aload_n hx hb dB_36_3_35.2.2.1.1 rfl (lv_at hl 0 rfl) ?_
        refine lv_iload_n hx hb dB_36_3_35.2.2.1.2 rfl (lv_at hl 1 rfl) ?_
        refine lv_iload_n hx hb dB_36_3_35.2.2.2.1 rfl (lv_at hl 2 rfl) ?_
        refine ct_S hP hD hS hA [ob11_0_ xo xk xn xc xh xt xw xm xp pf ph tr fi, ob3_0_ xn vp vn n1 n2 n3 n4 n5, ai_ cy n1 40 fk, ai_ cy n2 40 fs, ai_ cy n3 40 fe, ai_ cy n4 40 fw, ai_ cy n5 40 fp, ob0_0_ xc xn xk clo cro c4 c5 c6 c7 c8, aq_ cy 6 clo 12 (gf_ rl), ai_ cy (rl 0) 12 (Ml 0), ai_ cy (rl 1) 12 (Ml 1), ai_ cy (rl 2) 12 (Ml 2), ai_ cy (rl 3) 12 (Ml 3), ai_ cy (rl 4) 12 (Ml 4), ai_ cy (rl 5) 12 (Ml 5), ai_ cy (rl 6) 12 (Ml 6), ai_ cy (rl 7) 12 (Ml 7), ai_ cy (rl 8) 12 (Ml 8), ai_ cy (rl 9) 12 (Ml 9), ai_ cy (rl 10) 12 (Ml 10), ai_ cy (rl 11) 12 (Ml 11), aq_ cy 6 cro 12 (gf_ rr), ai_ cy (rr 0) 12 (Mr 0), ai_ cy (rr 1) 12 (Mr 1), ai_ cy (rr 2) 12 (Mr 2), ai_ cy (rr 3) 12 (Mr 3), ai_ cy (rr 4) 12 (Mr 4), ai_ cy (rr 5) 12 (Mr 5), ai_ cy (rr 6) 12 (Mr 6), ai_ cy (rr 7) 12 (Mr 7), ai_ cy (rr 8) 12 (Mr 8), ai_ cy (rr 9) 12 (Mr 9), ai_ cy (rr 10) 12 (Mr 10), ai_ cy (rr 11) 12 (Mr 11), ai_ cy c4 40 f4, ai_ cy c5 40 f5, ai_ cy c6 40 f6, ai_ cy c7 12 f7, ai_ cy c8 12 f8, aq_ cy 3 xk 5 (kf_ k0 k1 k2 k3 k4), ob6_0_ k0, ob5_0_ k1, ob9_0_ k2, ob2_0_ k3, ob8_0_ k4] [0, 1, 2, 3, 4, 5, 6, 7, 8, 9, 10, 11, 12, 13, 14, 15, 16, 17, 18, 19, 20, 21, 22, 23, 24, 25, 26, 27, 28, 29, 30, 31, 32, 33, 34, 35, 36, 37, 38, 39, 40, 41, 42, 43, 44] (by decide +kernel) rfl (fun hPc hDw hFc hC_ => ?_)
        refine va_calli (va_runV (As := [.int a1, .int a2]) (rest := []) ⟨hx, hb, hml, hown, hts⟩ (c_X11_mostNow l D cy H.size xo xk xn xc xh xt xw xm xp pf ph tr fi n1 n2 n3 n4 n5 vp vn clo cro c4 c5 c6 c7 c8 fk fs fe fw fp rl Ml rr Mr f4 f5 f6 f7 f8 k0 k1 k2 k3 k4 a1 a2 (by first | with_reducible assumption | omega | assumption) (by first | with_reducible assumption | omega | assumption) (by first | with_reducible assumption | omega | assumption) (by first | with_reducible assumption | omega | assumption) (by first | with_reducible assumption | assumption | omega) (by first | with_reducible assumption | assumption | omega) (by first | with_reducible assumption | assumption | omega) (by first | with_reducible assumption | assumption | omega)) (cwV 2 hts gX11_next_X11_mostNow rfl rfl rfl ⟨rfl, hd_X11_mostNow⟩ ⟨Nat.le_of_ble_eq_true rfl, Nat.le_of_ble_eq_true rfl⟩) ⟨bl_g, va_recvX hK.1 hP (ci := 11) (q0 := 0) rfl rfl, fun U hU hW => ⟨rfl, by rw [hU], by rw [hU]; exact hPc, ⟨kk_mv hW hK, arrOfT_moved hW.alike hG⟩, hDw⟩⟩ rfl rfl hl.1 rfl (lv_room (Nat.le_of_ble_eq_true rfl)) dB_36_3_35.2.2.2.2 ⟨Nat.le_of_ble_eq_true rfl, Nat.le_of_ble_eq_true rfl⟩) hS (fun q _ h => hFc q h) hFc (fun r_5 u t H locs ht hvm hw hB hz1 hk1 hS => ?_)
        obtain ⟨eMl_6, eMr_7, e4_8, e5_9, e6_10, e7_11, e8_12, g_13, g_14, hP1, hD1⟩ := hB
        rw [ht] at hP1
        obtain ⟨hP, hD⟩ := va_join (wr := [ob7_0_ xh xc u1 u2 u3 u4 u5 u6 u7 u8]) (w1 := [ob11_0_ xo xk xn xc xh xt xw xm xp pf ph tr fi, ob3_0_ xn vp vn n1 n2 n3 n4 n5, ai_ cy n1 40 fk, ai_ cy n2 40 fs, ai_ cy n3 40 fe, ai_ cy n4 40 fw, ai_ cy n5 40 fp, ob0_0_ xc xn xk clo cro c4 c5 c6 c7 c8, aq_ cy 6 clo 12 (gf_ rl), ai_ cy (rl 0) 12 (eMl_6 0), ai_ cy (rl 1) 12 (eMl_6 1), ai_ cy (rl 2) 12 (eMl_6 2), ai_ cy (rl 3) 12 (eMl_6 3), ai_ cy (rl 4) 12 (eMl_6 4), ai_ cy (rl 5) 12 (eMl_6 5), ai_ cy (rl 6) 12 (eMl_6 6), ai_ cy (rl 7) 12 (eMl_6 7), ai_ cy (rl 8) 12 (eMl_6 8), ai_ cy (rl 9) 12 (eMl_6 9), ai_ cy (rl 10) 12 (eMl_6 10), ai_ cy (rl 11) 12 (eMl_6 11), aq_ cy 6 cro 12 (gf_ rr), ai_ cy (rr 0) 12 (eMr_7 0), ai_ cy (rr 1) 12 (eMr_7 1), ai_ cy (rr 2) 12 (eMr_7 2), ai_ cy (rr 3) 12 (eMr_7 3), ai_ cy (rr 4) 12 (eMr_7 4), ai_ cy (rr 5) 12 (eMr_7 5), ai_ cy (rr 6) 12 (eMr_7 6), ai_ cy (rr 7) 12 (eMr_7 7), ai_ cy (rr 8) 12 (eMr_7 8), ai_ cy (rr 9) 12 (eMr_7 9), ai_ cy (rr 10) 12 (eMr_7 10), ai_ cy (rr 11) 12 (eMr_7 11), ai_ cy c4 40 e4_8, ai_ cy c5 40 e5_9, ai_ cy c6 40 e6_10, ai_ cy c7 12 e7_11, ai_ cy c8 12 e8_12, aq_ cy 3 xk 5 (kf_ k0 k1 k2 k3 k4), ob6_0_ k0, ob5_0_ k1, ob9_0_ k2, ob2_0_ k3, ob8_0_ k4]) hP hD [0, 1, 2, 3, 4, 5, 6, 7, 8, 9, 10, 11, 12, 13, 14, 15, 16, 17, 18, 19, 20, 21, 22, 23, 24, 25, 26, 27, 28, 29, 30, 31, 32, 33, 34, 35, 36, 37, 38, 39, 40, 41, 42, 43, 44] [45] hC_ rfl (by decide) (by decide) hk1 hFc hP1 hD1
        refine pd_S hP hD [ob11_0_ xo xk xn xc xh xt xw xm xp pf ph tr fi, ob3_0_ xn vp vn n1 n2 n3 n4 n5, ai_ cy n1 40 fk, ai_ cy n2 40 fs, ai_ cy n3 40 fe, ai_ cy n4 40 fw, ai_ cy n5 40 fp, ob0_0_ xc xn xk clo cro c4 c5 c6 c7 c8, aq_ cy 6 clo 12 (gf_ rl), ai_ cy (rl 0) 12 (eMl_6 0), ai_ cy (rl 1) 12 (eMl_6 1), ai_ cy (rl 2) 12 (eMl_6 2), ai_ cy (rl 3) 12 (eMl_6 3), ai_ cy (rl 4) 12 (eMl_6 4), ai_ cy (rl 5) 12 (eMl_6 5), ai_ cy (rl 6) 12 (eMl_6 6), ai_ cy (rl 7) 12 (eMl_6 7), ai_ cy (rl 8) 12 (eMl_6 8), ai_ cy (rl 9) 12 (eMl_6 9), ai_ cy (rl 10) 12 (eMl_6 10), ai_ cy (rl 11) 12 (eMl_6 11), aq_ cy 6 cro 12 (gf_ rr), ai_ cy (rr 0) 12 (eMr_7 0), ai_ cy (rr 1) 12 (eMr_7 1), ai_ cy (rr 2) 12 (eMr_7 2), ai_ cy (rr 3) 12 (eMr_7 3), ai_ cy (rr 4) 12 (eMr_7 4), ai_ cy (rr 5) 12 (eMr_7 5), ai_ cy (rr 6) 12 (eMr_7 6), ai_ cy (rr 7) 12 (eMr_7 7), ai_ cy (rr 8) 12 (eMr_7 8), ai_ cy (rr 9) 12 (eMr_7 9), ai_ cy (rr 10) 12 (eMr_7 10), ai_ cy (rr 11) 12 (eMr_7 11), ai_ cy c4 40 e4_8, ai_ cy c5 40 e5_9, ai_ cy c6 40 e6_10, ai_ cy c7 12 e7_11, ai_ cy c8 12 e8_12, aq_ cy 3 xk 5 (kf_ k0 k1 k2 k3 k4), ob6_0_ k0, ob5_0_ k1, ob9_0_ k2, ob2_0_ k3, ob8_0_ k4, ob7_0_ xh xc u1 u2 u3 u4 u5 u6 u7 u8] [1, 2, 3, 4, 5, 6, 7, 8, 9, 10, 11, 12, 13, 14, 15, 16, 17, 18, 19, 20, 21, 22, 23, 24, 25, 26, 27, 28, 29, 30, 31, 32, 33, 34, 35, 36, 37, 38, 39, 40, 41, 42, 43, 44, 45, 0] (by decide +kernel) rfl (fun hP hD => ?_)
        refine lv_istore (lv' := [(4, .int r_5), (0, .ref xo), (1, .int a1), (2, .int a2), (3, .int a3)]) hx hb dB_36_3_36.1.1.1.1 hl (by decide) rfl (fun ls hl => ?_)
        refine lv_iload hx hb dB_36_3_36.1.1.1.2 (lv_at hl 0 rfl) ?_
        refine lv_bipush (v := (-5)) hx hb dB_36_3_36.1.1.2.1 (by decide) ?_
        refine lv_icmp_ne (tgt := 40) hx hb dB_36_3_36.1.1.2.2 (by decide) (fun c_15 => ?_) (fun c_15 => ?_)
        · have t_15 : ¬ r_5.toInt = ((-5) : Int32).toInt := fun h => c_15 (Int32.toInt_inj.mp h)
          refine lv_aload_n hx hb dB_36_3_36.1.2.2.1 rfl (lv_at hl 1 rfl) ?_
          refine va_get (ci := 11) (v := .ref xh) (C := RX11) (T := TX11) (N := 12) hx hb hts (fun _ h => List.mem_cons_of_mem _ (List.mem_append_left _ (List.mem_append_left _ (List.mem_append_left _ (List.mem_append_right _ h))))) hown hK.1 hP 0 rfl rfl 3 (by decide) (hts (.fieldLink RX11 49 "CutAtlas" "hunt" "LCutAtlas$SetHunt;") (List.mem_of_getElem? (i := 2) rfl)) (fun _ h9 => h9) rfl dB_36_3_36.1.2.2.2 ?_
          refine lv_iconst (v := 1) hx hb dB_36_3_36.2.1.1.1 (by decide) ?_
          refine lv_iload_n hx hb dB_36_3_36.2.1.1.2 rfl (lv_at hl 2 rfl) ?_
          refine lv_ishl hx hb dB_36_3_36.2.1.2.1 ?_
          refine lv_topi (fun y_16 ey_16 => ?_)
          refine lv_iconst (v := 1) hx hb dB_36_3_36.2.1.2.2 (by decide) ?_
          refine lv_iload_n hx hb dB_36_3_36.2.2.1.1 rfl (lv_at hl 3 rfl) ?_
          refine lv_ishl hx hb dB_36_3_36.2.2.1.2 ?_
          refine lv_topi (fun y_17 ey_17 => ?_)
          refine lv_iload hx hb dB_36_3_36.2.2.2.1 (lv_at hl 0 rfl) ?_
          refine lv_iload_n hx hb dB_36_3_36.2.2.2.2 rfl (lv_at hl 4 rfl) ?_
          refine ct_S hP hD hS hA [ob7_0_ xh xc u1 u2 u3 u4 u5 u6 u7 u8, ob0_0_ xc xn xk clo cro c4 c5 c6 c7 c8, ob3_0_ xn vp vn n1 n2 n3 n4 n5, aq_ cy 6 clo 12 (gf_ rl), ai_ cy (rl 0) 12 (eMl_6 0), ai_ cy (rl 1) 12 (eMl_6 1), ai_ cy (rl 2) 12 (eMl_6 2), ai_ cy (rl 3) 12 (eMl_6 3), ai_ cy (rl 4) 12 (eMl_6 4), ai_ cy (rl 5) 12 (eMl_6 5), ai_ cy (rl 6) 12 (eMl_6 6), ai_ cy (rl 7) 12 (eMl_6 7), ai_ cy (rl 8) 12 (eMl_6 8), ai_ cy (rl 9) 12 (eMl_6 9), ai_ cy (rl 10) 12 (eMl_6 10), ai_ cy (rl 11) 12 (eMl_6 11)] [45, 7, 1, 8, 9, 10, 11, 12, 13, 14, 15, 16, 17, 18, 19, 20] (by decide +kernel) rfl (fun hPc hDw hFc hC_ => ?_)
          refine va_calli (va_runV (As := [.int y_16, .int y_17, .int r_5, .int a3]) (rest := []) ⟨hx, hb, hml, hown, hts⟩ (c_X7_findCut l D cy H.size xh u1 u2 u3 u4 u5 u6 u7 u8 xc xk clo cro c4 c5 c6 c7 c8 xn n1 n2 n3 n4 n5 vp vn rl eMl_6 y_16 y_17 r_5 a3 (by first | with_reducible assumption | omega | assumption)) (cwV 4 hts gX11_next_X7_findCut rfl rfl rfl ⟨rfl, hd_X7_findCut⟩ ⟨Nat.le_of_ble_eq_true rfl, Nat.le_of_ble_eq_true rfl⟩) ⟨bl_g, va_recvX hK.1 hP (ci := 7) (q0 := 45) rfl rfl, fun U hU hW => ⟨rfl, by rw [hU], by rw [hU]; exact hPc, ⟨kk_mv hW hK, arrOfT_moved hW.alike hG⟩, hDw⟩⟩ rfl rfl hl.1 rfl (lv_room (Nat.le_of_ble_eq_true rfl)) dB_36_3_37.1 ⟨Nat.le_of_ble_eq_true rfl, Nat.le_of_ble_eq_true rfl⟩) hS (fun q _ h => hFc q h) hFc (fun r_18 u t H locs ht hvm hw hB hz1 hk1 hS => ?_)
          obtain ⟨v5_19, v6_20, hP1, hD1⟩ := hB
          rw [ht] at hP1
          obtain ⟨hP, hD⟩ := va_join (wr := [ob11_0_ xo xk xn xc xh xt xw xm xp pf ph tr fi, ai_ cy n1 40 fk, ai_ cy n2 40 fs, ai_ cy n3 40 fe, ai_ cy n4 40 fw, ai_ cy n5 40 fp, aq_ cy 6 cro 12 (gf_ rr), ai_ cy (rr 0) 12 (eMr_7 0), ai_ cy (rr 1) 12 (eMr_7 1), ai_ cy (rr 2) 12 (eMr_7 2), ai_ cy (rr 3) 12 (eMr_7 3), ai_ cy (rr 4) 12 (eMr_7 4), ai_ cy (rr 5) 12 (eMr_7 5), ai_ cy (rr 6) 12 (eMr_7 6), ai_ cy (rr 7) 12 (eMr_7 7), ai_ cy (rr 8) 12 (eMr_7 8), ai_ cy (rr 9) 12 (eMr_7 9), ai_ cy (rr 10) 12 (eMr_7 10), ai_ cy (rr 11) 12 (eMr_7 11), ai_ cy c4 40 e4_8, ai_ cy c5 40 e5_9, ai_ cy c6 40 e6_10, ai_ cy c7 12 e7_11, ai_ cy c8 12 e8_12, aq_ cy 3 xk 5 (kf_ k0 k1 k2 k3 k4), ob6_0_ k0, ob5_0_ k1, ob9_0_ k2, ob2_0_ k3, ob8_0_ k4]) (w1 := [ob7_0_ xh xc y_16 y_17 r_5 a3 v5_19 v6_20 u7 u8, ob0_0_ xc xn xk clo cro c4 c5 c6 c7 c8, ob3_0_ xn vp vn n1 n2 n3 n4 n5, aq_ cy 6 clo 12 (gf_ rl), ai_ cy (rl 0) 12 (eMl_6 0), ai_ cy (rl 1) 12 (eMl_6 1), ai_ cy (rl 2) 12 (eMl_6 2), ai_ cy (rl 3) 12 (eMl_6 3), ai_ cy (rl 4) 12 (eMl_6 4), ai_ cy (rl 5) 12 (eMl_6 5), ai_ cy (rl 6) 12 (eMl_6 6), ai_ cy (rl 7) 12 (eMl_6 7), ai_ cy (rl 8) 12 (eMl_6 8), ai_ cy (rl 9) 12 (eMl_6 9), ai_ cy (rl 10) 12 (eMl_6 10), ai_ cy (rl 11) 12 (eMl_6 11)]) hP hD [45, 7, 1, 8, 9, 10, 11, 12, 13, 14, 15, 16, 17, 18, 19, 20] [0, 2, 3, 4, 5, 6, 21, 22, 23, 24, 25, 26, 27, 28, 29, 30, 31, 32, 33, 34, 35, 36, 37, 38, 39, 40, 41, 42, 43, 44] hC_ rfl (by decide +kernel) (by decide +kernel) hk1 hFc hP1 hD1
          refine pd_S hP hD [ob11_0_ xo xk xn xc xh xt xw xm xp pf ph tr fi, ob3_0_ xn vp vn n1 n2 n3 n4 n5, ai_ cy n1 40 fk, ai_ cy n2 40 fs, ai_ cy n3 40 fe, ai_ cy n4 40 fw, ai_ cy n5 40 fp, ob0_0_ xc xn xk clo cro c4 c5 c6 c7 c8, aq_ cy 6 clo 12 (gf_ rl), ai_ cy (rl 0) 12 (eMl_6 0), ai_ cy (rl 1) 12 (eMl_6 1), ai_ cy (rl 2) 12 (eMl_6 2), ai_ cy (rl 3) 12 (eMl_6 3), ai_ cy (rl 4) 12 (eMl_6 4), ai_ cy (rl 5) 12 (eMl_6 5), ai_ cy (rl 6) 12 (eMl_6 6), ai_ cy (rl 7) 12 (eMl_6 7), ai_ cy (rl 8) 12 (eMl_6 8), ai_ cy (rl 9) 12 (eMl_6 9), ai_ cy (rl 10) 12 (eMl_6 10), ai_ cy (rl 11) 12 (eMl_6 11), aq_ cy 6 cro 12 (gf_ rr), ai_ cy (rr 0) 12 (eMr_7 0), ai_ cy (rr 1) 12 (eMr_7 1), ai_ cy (rr 2) 12 (eMr_7 2), ai_ cy (rr 3) 12 (eMr_7 3), ai_ cy (rr 4) 12 (eMr_7 4), ai_ cy (rr 5) 12 (eMr_7 5), ai_ cy (rr 6) 12 (eMr_7 6), ai_ cy (rr 7) 12 (eMr_7 7), ai_ cy (rr 8) 12 (eMr_7 8), ai_ cy (rr 9) 12 (eMr_7 9), ai_ cy (rr 10) 12 (eMr_7 10), ai_ cy (rr 11) 12 (eMr_7 11), ai_ cy c4 40 e4_8, ai_ cy c5 40 e5_9, ai_ cy c6 40 e6_10, ai_ cy c7 12 e7_11, ai_ cy c8 12 e8_12, aq_ cy 3 xk 5 (kf_ k0 k1 k2 k3 k4), ob6_0_ k0, ob5_0_ k1, ob9_0_ k2, ob2_0_ k3, ob8_0_ k4, ob7_0_ xh xc y_16 y_17 r_5 a3 v5_19 v6_20 u7 u8] [0, 32, 1, 2, 3, 4, 5, 31, 33, 34, 35, 36, 37, 38, 39, 40, 41, 42, 43, 44, 45, 6, 7, 8, 9, 10, 11, 12, 13, 14, 15, 16, 17, 18, 19, 20, 21, 22, 23, 24, 25, 26, 27, 28, 29, 30] (by decide +kernel) rfl (fun hP hD => ?_)
          rw [hQ]
          exact W.iret (v := r_18) hx hb hr (fun t ht hW => ⟨⟨r_18, (), rfl, trivial, eMl_6, eMr_7, e4_8, e5_9, e6_10, e7_11, e8_12, y_16, y_17, r_5, a3, v5_19, v6_20, (by first | with_reducible assumption | assumption | exact rng_zero (by omega) (by omega) | omega), (by first | with_reducible assumption | assumption | exact rng_zero (by omega) (by omega) | omega), by rw [ht]; exact hP, hD⟩, hS.F ht⟩) hS.2.2 dB_36_3_37.2
        · have t_15 : r_5.toInt = ((-5) : Int32).toInt := congrArg Int32.toInt c_15
          refine lv_bipush (v := (-5)) hx hb dB_36_3_36.1.2.1.1 (by decide) ?_
          refine lv_goto (tgt := 56) hx hb dB_36_3_36.1.2.1.2 (by decide) ?_
          rw [hQ]
          exact W.iret (v := (-5)) hx hb hr (fun t ht hW => ⟨⟨(-5), (), rfl, trivial, eMl_6, eMr_7, e4_8, e5_9, e6_10, e7_11, e8_12, u1, u2, u3, u4, u5, u6, (by first | with_reducible assumption | assumption | exact rng_zero (by omega) (by omega) | omega), (by first | with_reducible assumption | assumption | exact rng_zero (by omega) (by omega) | omega), by rw [ht]; exact hP, hD⟩, hS.F ht⟩) hS.2.2 dB_36_3_37.2
      · have t_4 : ¬ (0 : Int32).toInt ≤ a3.toInt := fun h => c_4 (Int32.le_iff_toInt_le.mpr h)
        refine lv_iconst (v := (-1)) hx hb dB_36_3_35.2.1.2.1 (by decide) ?_
        rw [hQ]
        exact W.iret (v := (-1)) hx hb hr (fun t ht hW => ⟨⟨(-1), (), rfl, trivial, Ml, Mr, f4, f5, f6, f7, f8, u1, u2, u3, u4, u5, u6, (by first | with_reducible assumption | assumption | exact rng_zero (by omega) (by omega) | omega), (by first | with_reducible assumption | assumption | exact rng_zero (by omega) (by omega) | omega), by rw [ht]; exact hP, hD⟩, hS.F ht⟩) hS.2.2 dB_36_3_35.2.1.2.2
  · have e_ := e_.symm
    subst e_
    refine lv_if_eq (tgt := 18) hx hb dB_36_3_35.1.2.2.2 (by decide) (fun c_21 => ?_) (fun c_21 => ?_)
    · have _ := c_21
      refine lv_iconst (v := (-1)) hx hb dB_36_3_35.2.1.2.1 (by decide) ?_
      rw [hQ]
      exact W.iret (v := (-1)) hx hb hr (fun t ht hW => ⟨⟨(-1), (), rfl, trivial, Ml, Mr, f4, f5, f6, f7, f8, u1, u2, u3, u4, u5, u6, (by first | with_reducible assumption | assumption | exact rng_zero (by omega) (by omega) | omega), (by first | with_reducible assumption | assumption | exact rng_zero (by omega) (by omega) | omega), by rw [ht]; exact hP, hD⟩, hS.F ht⟩) hS.2.2 dB_36_3_35.2.1.2.2
    · exact absurd c_21 (by decide)

set_option maxHeartbeats 4000000 in
set_option maxRecDepth 100000 in
theorem c_X11_raise (l : Launch) (D : va_G) (cy : Nat → ClassId) (sz : Nat) (xo : Nat) (xk : Nat) (xn : Nat) (xc : Nat) (xh : Nat) (xt : Nat) (xw : Nat) (xm : Nat) (xp : Nat) (pf : Int32) (ph : Int32) (tr : Int64) (fi : Int32) (n1 : Nat) (n2 : Nat) (n3 : Nat) (n4 : Nat) (n5 : Nat) (vp : Int32) (vn : Int32) (clo : Nat) (cro : Nat) (c4 : Nat) (c5 : Nat) (c6 : Nat) (c7 : Nat) (c8 : Nat) (fk : Nat → Int32) (fs : Nat → Int32) (fe : Nat → Int32) (fw : Nat → Int32) (fp : Nat → Int32) (rl : Nat → Nat) (Ml : Nat → Nat → Int32) (rr : Nat → Nat) (Mr : Nat → Nat → Int32) (f4 : Nat → Int32) (f5 : Nat → Int32) (f6 : Nat → Int32) (f7 : Nat → Int32) (f8 : Nat → Int32) (k0 : Nat) (k1 : Nat) (k2 : Nat) (k3 : Nat) (k4 : Nat) (a1 : Int32) (a2 : Int32) (a3 : Int32) (hvp : 0 ≤ vp.toInt ∧ vp.toInt ≤ 12) (hvn : 0 ≤ vn.toInt ∧ vn.toInt ≤ 40) (hpr : prng fs fe 40) (r_f7 : rng f7 12 (0) (11)) (r_f8 : rng f8 12 (0) (11)) (r_fk : rng fk 40 (0) (4)) : Met l yX11_raise wsX11_raise ({ frames := 4, cells := 0, slots := 0, locals := 88 }) (va_Pc [.ref xo, .int a1, .int a2, .int a3] (fun U => U.heap.size = sz ∧ va_P D vwCl [ob11_0_ xo xk xn xc xh xt xw xm xp pf ph tr fi, ob3_0_ xn vp vn n1 n2 n3 n4 n5, ai_ cy n1 40 fk, ai_ cy n2 40 fs, ai_ cy n3 40 fe, ai_ cy n4 40 fw, ai_ cy n5 40 fp, ob0_0_ xc xn xk clo cro c4 c5 c6 c7 c8, aq_ cy 6 clo 12 (gf_ rl), ai_ cy (rl 0) 12 (Ml 0), ai_ cy (rl 1) 12 (Ml 1), ai_ cy (rl 2) 12 (Ml 2), ai_ cy (rl 3) 12 (Ml 3), ai_ cy (rl 4) 12 (Ml 4), ai_ cy (rl 5) 12 (Ml 5), ai_ cy (rl 6) 12 (Ml 6), ai_ cy (rl 7) 12 (Ml 7), ai_ cy (rl 8) 12 (Ml 8), ai_ cy (rl 9) 12 (Ml 9), ai_ cy (rl 10) 12 (Ml 10), ai_ cy (rl 11) 12 (Ml 11), aq_ cy 6 cro 12 (gf_ rr), ai_ cy (rr 0) 12 (Mr 0), ai_ cy (rr 1) 12 (Mr 1), ai_ cy (rr 2) 12 (Mr 2), ai_ cy (rr 3) 12 (Mr 3), ai_ cy (rr 4) 12 (Mr 4), ai_ cy (rr 5) 12 (Mr 5), ai_ cy (rr 6) 12 (Mr 6), ai_ cy (rr 7) 12 (Mr 7), ai_ cy (rr 8) 12 (Mr 8), ai_ cy (rr 9) 12 (Mr 9), ai_ cy (rr 10) 12 (Mr 10), ai_ cy (rr 11) 12 (Mr 11), ai_ cy c4 40 f4, ai_ cy c5 40 f5, ai_ cy c6 40 f6, ai_ cy c7 12 f7, ai_ cy c8 12 f8, aq_ cy 3 xk 5 (kf_ k0 k1 k2 k3 k4), ob6_0_ k0, ob5_0_ k1, ob9_0_ k2, ob2_0_ k3, ob8_0_ k4] U.heap ∧ kg_ D cy U ∧ va_D (fun _ => True) [ob11_0_ xo xk xn xc xh xt xw xm xp pf ph tr fi, ob3_0_ xn vp vn n1 n2 n3 n4 n5, ai_ cy n1 40 fk, ai_ cy n2 40 fs, ai_ cy n3 40 fe, ai_ cy n4 40 fw, ai_ cy n5 40 fp, ob0_0_ xc xn xk clo cro c4 c5 c6 c7 c8, aq_ cy 6 clo 12 (gf_ rl), ai_ cy (rl 0) 12 (Ml 0), ai_ cy (rl 1) 12 (Ml 1), ai_ cy (rl 2) 12 (Ml 2), ai_ cy (rl 3) 12 (Ml 3), ai_ cy (rl 4) 12 (Ml 4), ai_ cy (rl 5) 12 (Ml 5), ai_ cy (rl 6) 12 (Ml 6), ai_ cy (rl 7) 12 (Ml 7), ai_ cy (rl 8) 12 (Ml 8), ai_ cy (rl 9) 12 (Ml 9), ai_ cy (rl 10) 12 (Ml 10), ai_ cy (rl 11) 12 (Ml 11), aq_ cy 6 cro 12 (gf_ rr), ai_ cy (rr 0) 12 (Mr 0), ai_ cy (rr 1) 12 (Mr 1), ai_ cy (rr 2) 12 (Mr 2), ai_ cy (rr 3) 12 (Mr 3), ai_ cy (rr 4) 12 (Mr 4), ai_ cy (rr 5) 12 (Mr 5), ai_ cy (rr 6) 12 (Mr 6), ai_ cy (rr 7) 12 (Mr 7), ai_ cy (rr 8) 12 (Mr 8), ai_ cy (rr 9) 12 (Mr 9), ai_ cy (rr 10) 12 (Mr 10), ai_ cy (rr 11) 12 (Mr 11), ai_ cy c4 40 f4, ai_ cy c5 40 f5, ai_ cy c6 40 f6, ai_ cy c7 12 f7, ai_ cy c8 12 f8, aq_ cy 3 xk 5 (kf_ k0 k1 k2 k3 k4), ob6_0_ k0, ob5_0_ k1, ob9_0_ k2, ob2_0_ k3, ob8_0_ k4])) (va_Qi (fun (r : Int32) (_ : Unit) => True) (fun (_ : Unit) (t : State) => ∃ (eMl : Nat → Nat → Int32), ∃ (eMr : Nat → Nat → Int32), ∃ (e4 : Nat → Int32), ∃ (e5 : Nat → Int32), ∃ (e6 : Nat → Int32), ∃ (e7 : Nat → Int32), ∃ (e8 : Nat → Int32), (rng e7 12 (0) (11)) ∧ (rng e8 12 (0) (11)) ∧ va_P D vwCl [ob11_0_ xo xk xn xc xh xt xw xm xp pf ph tr fi, ob3_0_ xn vp vn n1 n2 n3 n4 n5, ai_ cy n1 40 fk, ai_ cy n2 40 fs, ai_ cy n3 40 fe, ai_ cy n4 40 fw, ai_ cy n5 40 fp, ob0_0_ xc xn xk clo cro c4 c5 c6 c7 c8, aq_ cy 6 clo 12 (gf_ rl), ai_ cy (rl 0) 12 (eMl 0), ai_ cy (rl 1) 12 (eMl 1), ai_ cy (rl 2) 12 (eMl 2), ai_ cy (rl 3) 12 (eMl 3), ai_ cy (rl 4) 12 (eMl 4), ai_ cy (rl 5) 12 (eMl 5), ai_ cy (rl 6) 12 (eMl 6), ai_ cy (rl 7) 12 (eMl 7), ai_ cy (rl 8) 12 (eMl 8), ai_ cy (rl 9) 12 (eMl 9), ai_ cy (rl 10) 12 (eMl 10), ai_ cy (rl 11) 12 (eMl 11), aq_ cy 6 cro 12 (gf_ rr), ai_ cy (rr 0) 12 (eMr 0), ai_ cy (rr 1) 12 (eMr 1), ai_ cy (rr 2) 12 (eMr 2), ai_ cy (rr 3) 12 (eMr 3), ai_ cy (rr 4) 12 (eMr 4), ai_ cy (rr 5) 12 (eMr 5), ai_ cy (rr 6) 12 (eMr 6), ai_ cy (rr 7) 12 (eMr 7), ai_ cy (rr 8) 12 (eMr 8), ai_ cy (rr 9) 12 (eMr 9), ai_ cy (rr 10) 12 (eMr 10), ai_ cy (rr 11) 12 (eMr 11), ai_ cy c4 40 e4, ai_ cy c5 40 e5, ai_ cy c6 40 e6, ai_ cy c7 12 e7, ai_ cy c8 12 e8, aq_ cy 3 xk 5 (kf_ k0 k1 k2 k3 k4), ob6_0_ k0, ob5_0_ k1, ob9_0_ k2, ob2_0_ k3, ob8_0_ k4] t.heap ∧ va_D (va_A [ob11_0_ xo xk xn xc xh xt xw xm xp pf ph tr fi, ob3_0_ xn vp vn n1 n2 n3 n4 n5, ai_ cy n1 40 fk, ai_ cy n2 40 fs, ai_ cy n3 40 fe, ai_ cy n4 40 fw, ai_ cy n5 40 fp, ob0_0_ xc xn xk clo cro c4 c5 c6 c7 c8, aq_ cy 6 clo 12 (gf_ rl), ai_ cy (rl 0) 12 (Ml 0), ai_ cy (rl 1) 12 (Ml 1), ai_ cy (rl 2) 12 (Ml 2), ai_ cy (rl 3) 12 (Ml 3), ai_ cy (rl 4) 12 (Ml 4), ai_ cy (rl 5) 12 (Ml 5), ai_ cy (rl 6) 12 (Ml 6), ai_ cy (rl 7) 12 (Ml 7), ai_ cy (rl 8) 12 (Ml 8), ai_ cy (rl 9) 12 (Ml 9), ai_ cy (rl 10) 12 (Ml 10), ai_ cy (rl 11) 12 (Ml 11), aq_ cy 6 cro 12 (gf_ rr), ai_ cy (rr 0) 12 (Mr 0), ai_ cy (rr 1) 12 (Mr 1), ai_ cy (rr 2) 12 (Mr 2), ai_ cy (rr 3) 12 (Mr 3), ai_ cy (rr 4) 12 (Mr 4), ai_ cy (rr 5) 12 (Mr 5), ai_ cy (rr 6) 12 (Mr 6), ai_ cy (rr 7) 12 (Mr 7), ai_ cy (rr 8) 12 (Mr 8), ai_ cy (rr 9) 12 (Mr 9), ai_ cy (rr 10) 12 (Mr 10), ai_ cy (rr 11) 12 (Mr 11), ai_ cy c4 40 f4, ai_ cy c5 40 f5, ai_ cy c6 40 f6, ai_ cy c7 12 f7, ai_ cy c8 12 f8, aq_ cy 3 xk 5 (kf_ k0 k1 k2 k3 k4), ob6_0_ k0, ob5_0_ k1, ob9_0_ k2, ob2_0_ k3, ob8_0_ k4] sz) [ob11_0_ xo xk xn xc xh xt xw xm xp pf ph tr fi, ob3_0_ xn vp vn n1 n2 n3 n4 n5, ai_ cy n1 40 fk, ai_ cy n2 40 fs, ai_ cy n3 40 fe, ai_ cy n4 40 fw, ai_ cy n5 40 fp, ob0_0_ xc xn xk clo cro c4 c5 c6 c7 c8, aq_ cy 6 clo 12 (gf_ rl), ai_ cy (rl 0) 12 (eMl 0), ai_ cy (rl 1) 12 (eMl 1), ai_ cy (rl 2) 12 (eMl 2), ai_ cy (rl 3) 12 (eMl 3), ai_ cy (rl 4) 12 (eMl 4), ai_ cy (rl 5) 12 (eMl 5), ai_ cy (rl 6) 12 (eMl 6), ai_ cy (rl 7) 12 (eMl 7), ai_ cy (rl 8) 12 (eMl 8), ai_ cy (rl 9) 12 (eMl 9), ai_ cy (rl 10) 12 (eMl 10), ai_ cy (rl 11) 12 (eMl 11), aq_ cy 6 cro 12 (gf_ rr), ai_ cy (rr 0) 12 (eMr 0), ai_ cy (rr 1) 12 (eMr 1), ai_ cy (rr 2) 12 (eMr 2), ai_ cy (rr 3) 12 (eMr 3), ai_ cy (rr 4) 12 (eMr 4), ai_ cy (rr 5) 12 (eMr 5), ai_ cy (rr 6) 12 (eMr 6), ai_ cy (rr 7) 12 (eMr 7), ai_ cy (rr 8) 12 (eMr 8), ai_ cy (rr 9) 12 (eMr 9), ai_ cy (rr 10) 12 (eMr 10), ai_ cy (rr 11) 12 (eMr 11), ai_ cy c4 40 e4, ai_ cy c5 40 e5, ai_ cy c6 40 e6, ai_ cy c7 12 e7, ai_ cy c8 12 e8, aq_ cy 3 xk 5 (kf_ k0 k1 k2 k3 k4), ob6_0_ k0, ob5_0_ k1, ob9_0_ k2, ob2_0_ k3, ob8_0_ k4]) (va_A [ob11_0_ xo xk xn xc xh xt xw xm xp pf ph tr fi, ob3_0_ xn vp vn n1 n2 n3 n4 n5, ai_ cy n1 40 fk, ai_ cy n2 40 fs, ai_ cy n3 40 fe, ai_ cy n4 40 fw, ai_ cy n5 40 fp, ob0_0_ xc xn xk clo cro c4 c5 c6 c7 c8, aq_ cy 6 clo 12 (gf_ rl), ai_ cy (rl 0) 12 (Ml 0), ai_ cy (rl 1) 12 (Ml 1), ai_ cy (rl 2) 12 (Ml 2), ai_ cy (rl 3) 12 (Ml 3), ai_ cy (rl 4) 12 (Ml 4), ai_ cy (rl 5) 12 (Ml 5), ai_ cy (rl 6) 12 (Ml 6), ai_ cy (rl 7) 12 (Ml 7), ai_ cy (rl 8) 12 (Ml 8), ai_ cy (rl 9) 12 (Ml 9), ai_ cy (rl 10) 12 (Ml 10), ai_ cy (rl 11) 12 (Ml 11), aq_ cy 6 cro 12 (gf_ rr), ai_ cy (rr 0) 12 (Mr 0), ai_ cy (rr 1) 12 (Mr 1), ai_ cy (rr 2) 12 (Mr 2), ai_ cy (rr 3) 12 (Mr 3), ai_ cy (rr 4) 12 (Mr 4), ai_ cy (rr 5) 12 (Mr 5), ai_ cy (rr 6) 12 (Mr 6), ai_ cy (rr 7) 12 (Mr 7), ai_ cy (rr 8) 12 (Mr 8), ai_ cy (rr 9) 12 (Mr 9), ai_ cy (rr 10) 12 (Mr 10), ai_ cy (rr 11) 12 (Mr 11), ai_ cy c4 40 f4, ai_ cy c5 40 f5, ai_ cy c6 40 f6, ai_ cy c7 12 f7, ai_ cy c8 12 f8, aq_ cy 3 xk 5 (kf_ k0 k1 k2 k3 k4), ob6_0_ k0, ob5_0_ k1, ob9_0_ k2, ob2_0_ k3, ob8_0_ k4] sz)) 0 0 (va_A [ob11_0_ xo xk xn xc xh xt xw xm xp pf ph tr fi, ob3_0_ xn vp vn n1 n2 n3 n4 n5, ai_ cy n1 40 fk, ai_ cy n2 40 fs, ai_ cy n3 40 fe, ai_ cy n4 40 fw, ai_ cy n5 40 fp, ob0_0_ xc xn xk clo cro c4 c5 c6 c7 c8, aq_ cy 6 clo 12 (gf_ rl), ai_ cy (rl 0) 12 (Ml 0), ai_ cy (rl 1) 12 (Ml 1), ai_ cy (rl 2) 12 (Ml 2), ai_ cy (rl 3) 12 (Ml 3), ai_ cy (rl 4) 12 (Ml 4), ai_ cy (rl 5) 12 (Ml 5), ai_ cy (rl 6) 12 (Ml 6), ai_ cy (rl 7) 12 (Ml 7), ai_ cy (rl 8) 12 (Ml 8), ai_ cy (rl 9) 12 (Ml 9), ai_ cy (rl 10) 12 (Ml 10), ai_ cy (rl 11) 12 (Ml 11), aq_ cy 6 cro 12 (gf_ rr), ai_ cy (rr 0) 12 (Mr 0), ai_ cy (rr 1) 12 (Mr 1), ai_ cy (rr 2) 12 (Mr 2), ai_ cy (rr 3) 12 (Mr 3), ai_ cy (rr 4) 12 (Mr 4), ai_ cy (rr 5) 12 (Mr 5), ai_ cy (rr 6) 12 (Mr 6), ai_ cy (rr 7) 12 (Mr 7), ai_ cy (rr 8) 12 (Mr 8), ai_ cy (rr 9) 12 (Mr 9), ai_ cy (rr 10) 12 (Mr 10), ai_ cy (rr 11) 12 (Mr 11), ai_ cy c4 40 f4, ai_ cy c5 40 f5, ai_ cy c6 40 f6, ai_ cy c7 12 f7, ai_ cy c8 12 f8, aq_ cy 3 xk 5 (kf_ k0 k1 k2 k3 k4), ob6_0_ k0, ob5_0_ k1, ob9_0_ k2, ob2_0_ k3, ob8_0_ k4] sz) := by
  refine ofQ (cc := cX11_raise) (maxL := 4) (ret := (some .int)) (by decide) rfl ?_
  intro p e s m args below meth c s₁ Q hQ B hml hv
  obtain ⟨rfl, hsz, hP, hK, hD0⟩ := hv
  have hG := hK.2
  have hK := hK.1
  have hx := B.exec
  have hb := B.bytes
  have hr := B.returns
  have hts := atoms_spec (ws := wsX11_raise) B.pre
  have hown : s.vm.findClass RX11 = some m.cls := by have h_ := findClass_of_methodNamed B.named; exact h_
  have hlocks := B.notSynchronized
  subst hsz
  have hD := hD0.self (sz := s.heap.size)
  generalize hAe : va_A [ob11_0_ xo xk xn xc xh xt xw xm xp pf ph tr fi, ob3_0_ xn vp vn n1 n2 n3 n4 n5, ai_ cy n1 40 fk, ai_ cy n2 40 fs, ai_ cy n3 40 fe, ai_ cy n4 40 fw, ai_ cy n5 40 fp, ob0_0_ xc xn xk clo cro c4 c5 c6 c7 c8, aq_ cy 6 clo 12 (gf_ rl), ai_ cy (rl 0) 12 (Ml 0), ai_ cy (rl 1) 12 (Ml 1), ai_ cy (rl 2) 12 (Ml 2), ai_ cy (rl 3) 12 (Ml 3), ai_ cy (rl 4) 12 (Ml 4), ai_ cy (rl 5) 12 (Ml 5), ai_ cy (rl 6) 12 (Ml 6), ai_ cy (rl 7) 12 (Ml 7), ai_ cy (rl 8) 12 (Ml 8), ai_ cy (rl 9) 12 (Ml 9), ai_ cy (rl 10) 12 (Ml 10), ai_ cy (rl 11) 12 (Ml 11), aq_ cy 6 cro 12 (gf_ rr), ai_ cy (rr 0) 12 (Mr 0), ai_ cy (rr 1) 12 (Mr 1), ai_ cy (rr 2) 12 (Mr 2), ai_ cy (rr 3) 12 (Mr 3), ai_ cy (rr 4) 12 (Mr 4), ai_ cy (rr 5) 12 (Mr 5), ai_ cy (rr 6) 12 (Mr 6), ai_ cy (rr 7) 12 (Mr 7), ai_ cy (rr 8) 12 (Mr 8), ai_ cy (rr 9) 12 (Mr 9), ai_ cy (rr 10) 12 (Mr 10), ai_ cy (rr 11) 12 (Mr 11), ai_ cy c4 40 f4, ai_ cy c5 40 f5, ai_ cy c6 40 f6, ai_ cy c7 12 f7, ai_ cy c8 12 f8, aq_ cy 3 xk 5 (kf_ k0 k1 k2 k3 k4), ob6_0_ k0, ob5_0_ k1, ob9_0_ k2, ob2_0_ k3, ob8_0_ k4] s.heap.size = A at hD hQ
  have hA : ∀ q : Nat, s.heap.size ≤ q → A q := fun q h => by rw [← hAe]; exact Or.inr h
  have hS : va_S A s.heap s.heap [] := va_S.rf
  have hl := lv_entry ([.ref xo, .int a1, .int a2, .int a3]) (n := 4) (Nat.le_of_ble_eq_true rfl)
  rw [lg_entry_eq]
  generalize (lg_sl ([.ref xo, .int a1, .int a2, .int a3]) ++ List.replicate (4 - (lg_sl ([.ref xo, .int a1, .int a2, .int a3])).length) Slot.unset).toArray = ls at hl ⊢
  have hl : lv_has ls 4 [(0, .ref xo), (1, .int a1), (2, .int a2), (3, .int a3)] := hl
  have zm2 : ((-2) : Int32).toInt = -2 := by decide
  have zm1 : ((-1) : Int32).toInt = -1 := by decide
  refine lv_aload_n hx hb dB_36_3_47.1.1.1.1 rfl (lv_at hl 0 rfl) ?_
  refine va_get (ci := 11) (v := .ref xn) (C := RX11) (T := TX11) (N := 12) hx hb hts (fun _ h => List.mem_cons_of_mem _ (List.mem_append_left _ (List.mem_append_left _ (List.mem_append_right _ h)))) hown hK.1 hP 0 rfl rfl 1 (by decide) (hts (.fieldLink RX11 31 "CutAtlas" "net" "LCutAtlas$Net;") (List.mem_of_getElem? (i := 1) rfl)) (fun _ h9 => h9) rfl dB_36_3_47.1.1.1.2 ?_
  refine lv_iload_n hx hb dB_36_3_47.1.1.2.1 rfl (lv_at hl 1 rfl) ?_
  refine lv_i2l (v := a1.toInt64) hx hb dB_36_3_47.1.1.2.2 rfl ?_
  have q_5 : (a1.toInt64).toInt = a1.toInt := Int32.toInt_toInt64 a1
  refine lv_iload_n hx hb dB_36_3_47.1.2.1.1 rfl (lv_at hl 2 rfl) ?_
  refine lv_i2l (v := a2.toInt64) hx hb dB_36_3_47.1.2.1.2 rfl ?_
  have q_7 : (a2.toInt64).toInt = a2.toInt := Int32.toInt_toInt64 a2
  refine ct_R hP hD [ob3_0_ xn vp vn n1 n2 n3 n4 n5] [1] (by decide) rfl (fun hPc hDw => ?_)
  have hFc := va_free (wc := []) hD hS hA [] rfl
  refine va_calli (va_runV (As := [.long a1.toInt64, .long a2.toInt64]) (rest := []) ⟨hx, hb, hml, hown, hts⟩ (c_X3_hasPair l D cy s.heap.size xn n1 n2 n3 n4 n5 vp vn a1.toInt64 a2.toInt64) (cwV 2 hts gX11_raise_X3_hasPair rfl rfl rfl ⟨rfl, hd_X3_hasPair⟩ ⟨Nat.le_of_ble_eq_true rfl, Nat.le_of_ble_eq_true rfl⟩) ⟨bl_, va_recvX hK.1 hP (ci := 3) (q0 := 1) rfl rfl, fun U hU hW => ⟨rfl, by rw [hU], by rw [hU]; exact hPc, kk_mv hW hK, hDw⟩⟩ rfl rfl hl.1 rfl (lv_room (Nat.le_of_ble_eq_true rfl)) dB_36_3_47.1.2.2.1 ⟨Nat.le_of_ble_eq_true rfl, Nat.le_of_ble_eq_true rfl⟩) hS (fun q _ h => hFc q h) hFc (fun r_1 u t H locs ht hvm hw hB hz1 hk1 hS => ?_)
  have hP : va_P D vwCl _ H := ro_keep hP hk1
  rcases hw with ⟨w_2, e_⟩ | ⟨w_2, e_⟩
  · have e_ := e_.symm
    subst e_
    refine lv_if_eq (tgt := 25) hx hb dB_36_3_47.1.2.2.2 (by decide) (fun c_3 => ?_) (fun c_3 => ?_)
    · exact absurd c_3 (by decide)
    · have _ := c_3
      refine lv_aload_n hx hb dB_36_3_47.2.1.1.1 rfl (lv_at hl 0 rfl) ?_
      refine va_get (ci := 11) (v := .ref xn) (C := RX11) (T := TX11) (N := 12) hx hb hts (fun _ h => List.mem_cons_of_mem _ (List.mem_append_left _ (List.mem_append_left _ (List.mem_append_right _ h)))) hown hK.1 hP 0 rfl rfl 1 (by decide) (hts (.fieldLink RX11 31 "CutAtlas" "net" "LCutAtlas$Net;") (List.mem_of_getElem? (i := 1) rfl)) (fun _ h9 => h9) rfl dB_36_3_47.2.1.1.2 ?_
      refine lv_iload_n hx hb dB_36_3_47.2.1.2.1 rfl (lv_at hl 3 rfl) ?_
      refine ct_R hP hD [ob3_0_ xn vp vn n1 n2 n3 n4 n5] [1] (by decide) rfl (fun hPc hDw => ?_)
      have hFc := va_free (wc := []) hD hS hA [] rfl
      refine va_calli (va_runV (As := [.int a3]) (rest := []) ⟨hx, hb, hml, hown, hts⟩ (c_X3_hasLine l D cy H.size xn n1 n2 n3 n4 n5 vp vn a3) (cwV 1 hts gX11_raise_X3_hasLine rfl rfl rfl ⟨rfl, hd_X3_hasLine⟩ ⟨Nat.le_of_ble_eq_true rfl, Nat.le_of_ble_eq_true rfl⟩) ⟨bl_, va_recvX hK.1 hP (ci := 3) (q0 := 1) rfl rfl, fun U hU hW => ⟨rfl, by rw [hU], by rw [hU]; exact hPc, kk_mv hW hK, hDw⟩⟩ rfl rfl hl.1 rfl (lv_room (Nat.le_of_ble_eq_true rfl)) dB_36_3_47.2.1.2.2 ⟨Nat.le_of_ble_eq_true rfl, Nat.le_of_ble_eq_true rfl⟩) hS (fun q _ h => hFc q h) hFc (fun r_4 u t H locs ht hvm hw hB hz1 hk1 hS => ?_)
      have hP : va_P D vwCl _ H := ro_keep hP hk1
      rcases hw with ⟨w_5, e_⟩ | ⟨w_5, e_⟩
      · have e_ := e_.symm
        subst e_
        refine lv_if_ne (tgt := 27) hx hb dB_36_3_47.2.2.1.1 (by decide) (fun c_6 => ?_) (fun c_6 => ?_)
        · have _ := c_6
          refine lv_aload_n hx hb dB_36_3_47.2.2.2.2 rfl (lv_at hl 0 rfl) ?_
          refine va_get (ci := 11) (v := .ref xn) (C := RX11) (T := TX11) (N := 12) hx hb hts (fun _ h => List.mem_cons_of_mem _ (List.mem_append_left _ (List.mem_append_left _ (List.mem_append_right _ h)))) hown hK.1 hP 0 rfl rfl 1 (by decide) (hts (.fieldLink RX11 31 "CutAtlas" "net" "LCutAtlas$Net;") (List.mem_of_getElem? (i := 1) rfl)) (fun _ h9 => h9) rfl dB_36_3_48.1.1.1.1 ?_
          refine lv_iload_n hx hb dB_36_3_48.1.1.1.2 rfl (lv_at hl 3 rfl) ?_
          refine ct_R hP hD [ob3_0_ xn vp vn n1 n2 n3 n4 n5, ai_ cy n2 40 fs] [1, 3] (by decide) rfl (fun hPc hDw => ?_)
          have hFc := va_free (wc := []) hD hS hA [] rfl
          refine va_calli (va_runV (As := [.int a3]) (rest := []) ⟨hx, hb, hml, hown, hts⟩ (c_X3_isMissing l D cy H.size xn n1 n2 n3 n4 n5 vp vn fs a3 (by first | with_reducible assumption | omega | assumption)) (cwV 1 hts gX11_raise_X3_isMissing rfl rfl rfl ⟨rfl, hd_X3_isMissing⟩ ⟨Nat.le_of_ble_eq_true rfl, Nat.le_of_ble_eq_true rfl⟩) ⟨bl_, va_recvX hK.1 hP (ci := 3) (q0 := 1) rfl rfl, fun U hU hW => ⟨rfl, by rw [hU], by rw [hU]; exact hPc, kk_mv hW hK, hDw⟩⟩ rfl rfl hl.1 rfl (lv_room (Nat.le_of_ble_eq_true rfl)) dB_36_3_48.1.1.2.1 ⟨Nat.le_of_ble_eq_true rfl, Nat.le_of_ble_eq_true rfl⟩) hS (fun q _ h => hFc q h) hFc (fun r_7 u t H locs ht hvm hw hB hz1 hk1 hS => ?_)
          have hP : va_P D vwCl _ H := ro_keep hP hk1
          rcases hw with ⟨w_8, e_⟩ | ⟨w_8, e_⟩
          · have e_ := e_.symm
            subst e_
            refine lv_if_eq (tgt := 41) hx hb dB_36_3_48.1.1.2.2 (by decide) (fun c_9 => ?_) (fun c_9 => ?_)
            · exact absurd c_9 (by decide)
            · have _ := c_9
              refine lv_bipush (v := (-2)) hx hb dB_36_3_48.1.2.1.1 (by decide) ?_
              rw [hQ]
              exact W.iret (v := (-2)) hx hb hr (fun t ht hW => ⟨⟨(-2), (), rfl, trivial, Ml, Mr, f4, f5, f6, f7, f8, (by first | with_reducible assumption | assumption | exact rng_zero (by omega) (by omega) | omega), (by first | with_reducible assumption | assumption | exact rng_zero (by omega) (by omega) | omega), by rw [ht]; exact hP, hD⟩, hS.F ht⟩) hS.2.2 dB_36_3_48.1.2.1.2
          · have e_ := e_.symm
            subst e_
            refine lv_if_eq (tgt := 41) hx hb dB_36_3_48.1.1.2.2 (by decide) (fun c_10 => ?_) (fun c_10 => ?_)
            · have _ := c_10
              refine lv_aload_n hx hb dB_36_3_48.1.2.2.1 rfl (lv_at hl 0 rfl) ?_
              refine va_get (ci := 11) (v := .ref xc) (C := RX11) (T := TX11) (N := 12) hx hb hts (fun _ h => List.mem_cons_of_mem _ (List.mem_append_left _ (List.mem_append_left _ (List.mem_append_right _ h)))) hown hK.1 hP 0 rfl rfl 2 (by decide) (hts (.fieldLink RX11 40 "CutAtlas" "current" "LCutAtlas$Current;") (List.mem_of_getElem? (i := 2) rfl)) (fun _ h9 => h9) rfl dB_36_3_48.1.2.2.2 ?_
              refine lv_iload_n hx hb dB_36_3_48.2.1.1.1 rfl (lv_at hl 3 rfl) ?_
              refine ct_S hP hD hS hA [ob0_0_ xc xn xk clo cro c4 c5 c6 c7 c8, ob3_0_ xn vp vn n1 n2 n3 n4 n5, ai_ cy n1 40 fk, ai_ cy n2 40 fs, ai_ cy n3 40 fe, ai_ cy n4 40 fw, aq_ cy 6 clo 12 (gf_ rl), ai_ cy (rl 0) 12 (Ml 0), ai_ cy (rl 1) 12 (Ml 1), ai_ cy (rl 2) 12 (Ml 2), ai_ cy (rl 3) 12 (Ml 3), ai_ cy (rl 4) 12 (Ml 4), ai_ cy (rl 5) 12 (Ml 5), ai_ cy (rl 6) 12 (Ml 6), ai_ cy (rl 7) 12 (Ml 7), ai_ cy (rl 8) 12 (Ml 8), ai_ cy (rl 9) 12 (Ml 9), ai_ cy (rl 10) 12 (Ml 10), ai_ cy (rl 11) 12 (Ml 11), ai_ cy c5 40 f5, ai_ cy c6 40 f6, aq_ cy 3 xk 5 (kf_ k0 k1 k2 k3 k4), ob6_0_ k0, ob5_0_ k1, ob9_0_ k2, ob2_0_ k3, ob8_0_ k4] [7, 1, 2, 3, 4, 5, 8, 9, 10, 11, 12, 13, 14, 15, 16, 17, 18, 19, 20, 35, 36, 39, 40, 41, 42, 43, 44] (by decide +kernel) rfl (fun hPc hDw hFc hC_ => ?_)
              refine va_callv (va_runV (As := [.int a3]) (rest := []) ⟨hx, hb, hml, hown, hts⟩ (c_X0_load l D cy H.size xc xk clo cro c4 c5 c6 c7 c8 xn n1 n2 n3 n4 n5 vp vn fk fs fe fw rl Ml f5 f6 k0 k1 k2 k3 k4 a3 (by first | with_reducible assumption | omega | assumption) (by first | with_reducible assumption | omega | assumption) (by first | with_reducible assumption | assumption | omega) (by first | with_reducible assumption | assumption | omega)) (cwV 1 hts gX11_raise_X0_load rfl rfl rfl ⟨rfl, hd_X0_load⟩ ⟨Nat.le_of_ble_eq_true rfl, Nat.le_of_ble_eq_true rfl⟩) ⟨bl_g, va_recvX hK.1 hP (ci := 0) (q0 := 7) rfl rfl, fun U hU hW => ⟨rfl, by rw [hU], by rw [hU]; exact hPc, ⟨kk_mv hW hK, arrOfT_moved hW.alike hG⟩, hDw⟩⟩ rfl rfl hl.1 rfl (lv_room (Nat.le_of_ble_eq_true rfl)) dB_36_3_48.2.1.1.2 ⟨Nat.le_of_ble_eq_true rfl, Nat.le_of_ble_eq_true rfl⟩) hS (fun q _ h => hFc q h) hFc (fun u t H locs ht hvm hw hB hz1 hk1 hS => ?_)
              obtain ⟨eMl_12, e5_13, e6_14, hP1, hD1⟩ := hB
              rw [ht] at hP1
              obtain ⟨hP, hD⟩ := va_join (wr := [ob11_0_ xo xk xn xc xh xt xw xm xp pf ph tr fi, ai_ cy n5 40 fp, aq_ cy 6 cro 12 (gf_ rr), ai_ cy (rr 0) 12 (Mr 0), ai_ cy (rr 1) 12 (Mr 1), ai_ cy (rr 2) 12 (Mr 2), ai_ cy (rr 3) 12 (Mr 3), ai_ cy (rr 4) 12 (Mr 4), ai_ cy (rr 5) 12 (Mr 5), ai_ cy (rr 6) 12 (Mr 6), ai_ cy (rr 7) 12 (Mr 7), ai_ cy (rr 8) 12 (Mr 8), ai_ cy (rr 9) 12 (Mr 9), ai_ cy (rr 10) 12 (Mr 10), ai_ cy (rr 11) 12 (Mr 11), ai_ cy c4 40 f4, ai_ cy c7 12 f7, ai_ cy c8 12 f8]) (w1 := [ob0_0_ xc xn xk clo cro c4 c5 c6 c7 c8, ob3_0_ xn vp vn n1 n2 n3 n4 n5, ai_ cy n1 40 fk, ai_ cy n2 40 fs, ai_ cy n3 40 fe, ai_ cy n4 40 fw, aq_ cy 6 clo 12 (gf_ rl), ai_ cy (rl 0) 12 (eMl_12 0), ai_ cy (rl 1) 12 (eMl_12 1), ai_ cy (rl 2) 12 (eMl_12 2), ai_ cy (rl 3) 12 (eMl_12 3), ai_ cy (rl 4) 12 (eMl_12 4), ai_ cy (rl 5) 12 (eMl_12 5), ai_ cy (rl 6) 12 (eMl_12 6), ai_ cy (rl 7) 12 (eMl_12 7), ai_ cy (rl 8) 12 (eMl_12 8), ai_ cy (rl 9) 12 (eMl_12 9), ai_ cy (rl 10) 12 (eMl_12 10), ai_ cy (rl 11) 12 (eMl_12 11), ai_ cy c5 40 e5_13, ai_ cy c6 40 e6_14, aq_ cy 3 xk 5 (kf_ k0 k1 k2 k3 k4), ob6_0_ k0, ob5_0_ k1, ob9_0_ k2, ob2_0_ k3, ob8_0_ k4]) hP hD [7, 1, 2, 3, 4, 5, 8, 9, 10, 11, 12, 13, 14, 15, 16, 17, 18, 19, 20, 35, 36, 39, 40, 41, 42, 43, 44] [0, 6, 21, 22, 23, 24, 25, 26, 27, 28, 29, 30, 31, 32, 33, 34, 37, 38] hC_ rfl (by decide +kernel) (by decide +kernel) hk1 hFc hP1 hD1
              refine pd_S hP hD [ob11_0_ xo xk xn xc xh xt xw xm xp pf ph tr fi, ob3_0_ xn vp vn n1 n2 n3 n4 n5, ai_ cy n1 40 fk, ai_ cy n2 40 fs, ai_ cy n3 40 fe, ai_ cy n4 40 fw, ai_ cy n5 40 fp, ob0_0_ xc xn xk clo cro c4 c5 c6 c7 c8, aq_ cy 6 clo 12 (gf_ rl), ai_ cy (rl 0) 12 (eMl_12 0), ai_ cy (rl 1) 12 (eMl_12 1), ai_ cy (rl 2) 12 (eMl_12 2), ai_ cy (rl 3) 12 (eMl_12 3), ai_ cy (rl 4) 12 (eMl_12 4), ai_ cy (rl 5) 12 (eMl_12 5), ai_ cy (rl 6) 12 (eMl_12 6), ai_ cy (rl 7) 12 (eMl_12 7), ai_ cy (rl 8) 12 (eMl_12 8), ai_ cy (rl 9) 12 (eMl_12 9), ai_ cy (rl 10) 12 (eMl_12 10), ai_ cy (rl 11) 12 (eMl_12 11), aq_ cy 6 cro 12 (gf_ rr), ai_ cy (rr 0) 12 (Mr 0), ai_ cy (rr 1) 12 (Mr 1), ai_ cy (rr 2) 12 (Mr 2), ai_ cy (rr 3) 12 (Mr 3), ai_ cy (rr 4) 12 (Mr 4), ai_ cy (rr 5) 12 (Mr 5), ai_ cy (rr 6) 12 (Mr 6), ai_ cy (rr 7) 12 (Mr 7), ai_ cy (rr 8) 12 (Mr 8), ai_ cy (rr 9) 12 (Mr 9), ai_ cy (rr 10) 12 (Mr 10), ai_ cy (rr 11) 12 (Mr 11), ai_ cy c4 40 f4, ai_ cy c5 40 e5_13, ai_ cy c6 40 e6_14, ai_ cy c7 12 f7, ai_ cy c8 12 f8, aq_ cy 3 xk 5 (kf_ k0 k1 k2 k3 k4), ob6_0_ k0, ob5_0_ k1, ob9_0_ k2, ob2_0_ k3, ob8_0_ k4] [0, 19, 20, 21, 22, 23, 1, 18, 24, 25, 26, 27, 28, 29, 30, 31, 32, 33, 34, 35, 36, 2, 3, 4, 5, 6, 7, 8, 9, 10, 11, 12, 13, 14, 15, 37, 38, 16, 17, 39, 40, 41, 42, 43, 44] (by decide +kernel) rfl (fun hP hD => ?_)
              refine lv_aload_n hx hb dB_36_3_48.2.1.2.1 rfl (lv_at hl 0 rfl) ?_
              refine va_get (ci := 11) (v := .ref xc) (C := RX11) (T := TX11) (N := 12) hx hb hts (fun _ h => List.mem_cons_of_mem _ (List.mem_append_left _ (List.mem_append_left _ (List.mem_append_right _ h)))) hown hK.1 hP 0 rfl rfl 2 (by decide) (hts (.fieldLink RX11 40 "CutAtlas" "current" "LCutAtlas$Current;") (List.mem_of_getElem? (i := 2) rfl)) (fun _ h9 => h9) rfl dB_36_3_48.2.1.2.2 ?_
              refine lv_iload_n hx hb dB_36_3_48.2.2.1.1 rfl (lv_at hl 1 rfl) ?_
              refine lv_iload_n hx hb dB_36_3_48.2.2.1.2 rfl (lv_at hl 2 rfl) ?_
              refine ct_S hP hD hS hA [ob0_0_ xc xn xk clo cro c4 c5 c6 c7 c8, ob3_0_ xn vp vn n1 n2 n3 n4 n5, ai_ cy n2 40 fs, ai_ cy n3 40 fe, aq_ cy 6 clo 12 (gf_ rl), ai_ cy (rl 0) 12 (eMl_12 0), ai_ cy (rl 1) 12 (eMl_12 1), ai_ cy (rl 2) 12 (eMl_12 2), ai_ cy (rl 3) 12 (eMl_12 3), ai_ cy (rl 4) 12 (eMl_12 4), ai_ cy (rl 5) 12 (eMl_12 5), ai_ cy (rl 6) 12 (eMl_12 6), ai_ cy (rl 7) 12 (eMl_12 7), ai_ cy (rl 8) 12 (eMl_12 8), ai_ cy (rl 9) 12 (eMl_12 9), ai_ cy (rl 10) 12 (eMl_12 10), ai_ cy (rl 11) 12 (eMl_12 11), aq_ cy 6 cro 12 (gf_ rr), ai_ cy (rr 0) 12 (Mr 0), ai_ cy (rr 1) 12 (Mr 1), ai_ cy (rr 2) 12 (Mr 2), ai_ cy (rr 3) 12 (Mr 3), ai_ cy (rr 4) 12 (Mr 4), ai_ cy (rr 5) 12 (Mr 5), ai_ cy (rr 6) 12 (Mr 6), ai_ cy (rr 7) 12 (Mr 7), ai_ cy (rr 8) 12 (Mr 8), ai_ cy (rr 9) 12 (Mr 9), ai_ cy (rr 10) 12 (Mr 10), ai_ cy (rr 11) 12 (Mr 11), ai_ cy c4 40 f4, ai_ cy c5 40 e5_13, ai_ cy c6 40 e6_14, ai_ cy c7 12 f7, ai_ cy c8 12 f8] [7, 1, 3, 4, 8, 9, 10, 11, 12, 13, 14, 15, 16, 17, 18, 19, 20, 21, 22, 23, 24, 25, 26, 27, 28, 29, 30, 31, 32, 33, 34, 35, 36, 37, 38] (by decide +kernel) rfl (fun hPc hDw hFc hC_ => ?_)
              refine va_calli (va_runV (As := [.int a1, .int a2]) (rest := []) ⟨hx, hb, hml, hown, hts⟩ (c_X0_fill l D cy H.size xc xk clo cro c4 c5 c6 c7 c8 xn n1 n2 n3 n4 n5 vp vn fs fe rl eMl_12 rr Mr f4 e5_13 e6_14 f7 f8 a1 a2 (by first | with_reducible assumption | omega | assumption) (by first | with_reducible assumption | omega | assumption) (by first | with_reducible assumption | omega | assumption) (by first | with_reducible assumption | omega | assumption) (by first | with_reducible assumption | assumption | omega) (by first | with_reducible assumption | assumption | omega)) (cwV 2 hts gX11_raise_X0_fill rfl rfl rfl ⟨rfl, hd_X0_fill⟩ ⟨Nat.le_of_ble_eq_true rfl, Nat.le_of_ble_eq_true rfl⟩) ⟨bl_g, va_recvX hK.1 hP (ci := 0) (q0 := 7) rfl rfl, fun U hU hW => ⟨rfl, by rw [hU], by rw [hU]; exact hPc, ⟨kk_mv hW hK, arrOfT_moved hW.alike hG⟩, hDw⟩⟩ rfl rfl hl.1 rfl (lv_room (Nat.le_of_ble_eq_true rfl)) dB_36_3_48.2.2.2.1 ⟨Nat.le_of_ble_eq_true rfl, Nat.le_of_ble_eq_true rfl⟩) hS (fun q _ h => hFc q h) hFc (fun r_15 u t H locs ht hvm hw hB hz1 hk1 hS => ?_)
              obtain ⟨eMr_16, e4_17, e7_18, e8_19, g_20, g_21, hP1, hD1⟩ := hB
              rw [ht] at hP1
              obtain ⟨hP, hD⟩ := va_join (wr := [ob11_0_ xo xk xn xc xh xt xw xm xp pf ph tr fi, ai_ cy n1 40 fk, ai_ cy n4 40 fw, ai_ cy n5 40 fp, aq_ cy 3 xk 5 (kf_ k0 k1 k2 k3 k4), ob6_0_ k0, ob5_0_ k1, ob9_0_ k2, ob2_0_ k3, ob8_0_ k4]) (w1 := [ob0_0_ xc xn xk clo cro c4 c5 c6 c7 c8, ob3_0_ xn vp vn n1 n2 n3 n4 n5, ai_ cy n2 40 fs, ai_ cy n3 40 fe, aq_ cy 6 clo 12 (gf_ rl), ai_ cy (rl 0) 12 (eMl_12 0), ai_ cy (rl 1) 12 (eMl_12 1), ai_ cy (rl 2) 12 (eMl_12 2), ai_ cy (rl 3) 12 (eMl_12 3), ai_ cy (rl 4) 12 (eMl_12 4), ai_ cy (rl 5) 12 (eMl_12 5), ai_ cy (rl 6) 12 (eMl_12 6), ai_ cy (rl 7) 12 (eMl_12 7), ai_ cy (rl 8) 12 (eMl_12 8), ai_ cy (rl 9) 12 (eMl_12 9), ai_ cy (rl 10) 12 (eMl_12 10), ai_ cy (rl 11) 12 (eMl_12 11), aq_ cy 6 cro 12 (gf_ rr), ai_ cy (rr 0) 12 (eMr_16 0), ai_ cy (rr 1) 12 (eMr_16 1), ai_ cy (rr 2) 12 (eMr_16 2), ai_ cy (rr 3) 12 (eMr_16 3), ai_ cy (rr 4) 12 (eMr_16 4), ai_ cy (rr 5) 12 (eMr_16 5), ai_ cy (rr 6) 12 (eMr_16 6), ai_ cy (rr 7) 12 (eMr_16 7), ai_ cy (rr 8) 12 (eMr_16 8), ai_ cy (rr 9) 12 (eMr_16 9), ai_ cy (rr 10) 12 (eMr_16 10), ai_ cy (rr 11) 12 (eMr_16 11), ai_ cy c4 40 e4_17, ai_ cy c5 40 e5_13, ai_ cy c6 40 e6_14, ai_ cy c7 12 e7_18, ai_ cy c8 12 e8_19]) hP hD [7, 1, 3, 4, 8, 9, 10, 11, 12, 13, 14, 15, 16, 17, 18, 19, 20, 21, 22, 23, 24, 25, 26, 27, 28, 29, 30, 31, 32, 33, 34, 35, 36, 37, 38] [0, 2, 5, 6, 39, 40, 41, 42, 43, 44] hC_ rfl (by decide) (by decide) hk1 hFc hP1 hD1
              refine pd_S hP hD [ob11_0_ xo xk xn xc xh xt xw xm xp pf ph tr fi, ob3_0_ xn vp vn n1 n2 n3 n4 n5, ai_ cy n1 40 fk, ai_ cy n2 40 fs, ai_ cy n3 40 fe, ai_ cy n4 40 fw, ai_ cy n5 40 fp, ob0_0_ xc xn xk clo cro c4 c5 c6 c7 c8, aq_ cy 6 clo 12 (gf_ rl), ai_ cy (rl 0) 12 (eMl_12 0), ai_ cy (rl 1) 12 (eMl_12 1), ai_ cy (rl 2) 12 (eMl_12 2), ai_ cy (rl 3) 12 (eMl_12 3), ai_ cy (rl 4) 12 (eMl_12 4), ai_ cy (rl 5) 12 (eMl_12 5), ai_ cy (rl 6) 12 (eMl_12 6), ai_ cy (rl 7) 12 (eMl_12 7), ai_ cy (rl 8) 12 (eMl_12 8), ai_ cy (rl 9) 12 (eMl_12 9), ai_ cy (rl 10) 12 (eMl_12 10), ai_ cy (rl 11) 12 (eMl_12 11), aq_ cy 6 cro 12 (gf_ rr), ai_ cy (rr 0) 12 (eMr_16 0), ai_ cy (rr 1) 12 (eMr_16 1), ai_ cy (rr 2) 12 (eMr_16 2), ai_ cy (rr 3) 12 (eMr_16 3), ai_ cy (rr 4) 12 (eMr_16 4), ai_ cy (rr 5) 12 (eMr_16 5), ai_ cy (rr 6) 12 (eMr_16 6), ai_ cy (rr 7) 12 (eMr_16 7), ai_ cy (rr 8) 12 (eMr_16 8), ai_ cy (rr 9) 12 (eMr_16 9), ai_ cy (rr 10) 12 (eMr_16 10), ai_ cy (rr 11) 12 (eMr_16 11), ai_ cy c4 40 e4_17, ai_ cy c5 40 e5_13, ai_ cy c6 40 e6_14, ai_ cy c7 12 e7_18, ai_ cy c8 12 e8_19, aq_ cy 3 xk 5 (kf_ k0 k1 k2 k3 k4), ob6_0_ k0, ob5_0_ k1, ob9_0_ k2, ob2_0_ k3, ob8_0_ k4] [0, 11, 1, 12, 13, 2, 3, 10, 14, 15, 16, 17, 18, 19, 20, 21, 22, 23, 24, 25, 26, 27, 28, 29, 30, 31, 32, 33, 34, 35, 36, 37, 38, 39, 40, 41, 42, 43, 44, 4, 5, 6, 7, 8, 9] (by decide +kernel) rfl (fun hP hD => ?_)
              rw [hQ]
              exact W.iret (v := r_15) hx hb hr (fun t ht hW => ⟨⟨r_15, (), rfl, trivial, eMl_12, eMr_16, e4_17, e5_13, e6_14, e7_18, e8_19, (by first | with_reducible assumption | assumption | exact rng_zero (by omega) (by omega) | omega), (by first | with_reducible assumption | assumption | exact rng_zero (by omega) (by omega) | omega), by rw [ht]; exact hP, hD⟩, hS.F ht⟩) hS.2.2 dB_36_3_48.2.2.2.2
            · exact absurd c_10 (by decide)
        · exact absurd c_6 (by decide)
      · have e_ := e_.symm
        subst e_
        refine lv_if_ne (tgt := 27) hx hb dB_36_3_47.2.2.1.1 (by decide) (fun c_22 => ?_) (fun c_22 => ?_)
        · exact absurd c_22 (by decide)
        · have _ := c_22
          refine lv_iconst (v := (-1)) hx hb dB_36_3_47.2.2.1.2 (by decide) ?_
          rw [hQ]
          exact W.iret (v := (-1)) hx hb hr (fun t ht hW => ⟨⟨(-1), (), rfl, trivial, Ml, Mr, f4, f5, f6, f7, f8, (by first | with_reducible assumption | assumption | exact rng_zero (by omega) (by omega) | omega), (by first | with_reducible assumption | assumption | exact rng_zero (by omega) (by omega) | omega), by rw [ht]; exact hP, hD⟩, hS.F ht⟩) hS.2.2 dB_36_3_47.2.2.2.1
  · have e_ := e_.symm
    subst e_
    refine lv_if_eq (tgt := 25) hx hb dB_36_3_47.1.2.2.2 (by decide) (fun c_23 => ?_) (fun c_23 => ?_)
    · have _ := c_23
      refine lv_iconst (v := (-1)) hx hb dB_36_3_47.2.2.1.2 (by decide) ?_
      rw [hQ]
      exact W.iret (v := (-1)) hx hb hr (fun t ht hW => ⟨⟨(-1), (), rfl, trivial, Ml, Mr, f4, f5, f6, f7, f8, (by first | with_reducible assumption | assumption | exact rng_zero (by omega) (by omega) | omega), (by first | with_reducible assumption | assumption | exact rng_zero (by omega) (by omega) | omega), by rw [ht]; exact hP, hD⟩, hS.F ht⟩) hS.2.2 dB_36_3_47.2.2.2.1
    · exact absurd c_23 (by decide)
end
