section
/-- n steps of p from v to 0 -/
noncomputable def rch (p : Nat → Nat) : Nat → Nat → Prop
  | 0, v => v = 0
  | n + 1, v => v ≠ 0 ∧ rch p n (p v)
noncomputable def pf_ (f : Nat → Int32) (v : Nat) : Nat := (f v).toNatClampNeg
theorem rch_un {p : Nat → Nat} : ∀ (n m v : Nat), rch p n v → rch p m v → n = m
  | 0, 0, _, _, _ => rfl
  | 0, _ + 1, _, h, h2 => absurd h h2.1
  | _ + 1, 0, _, h, h2 => absurd h2 h.1
  | n + 1, m + 1, v, h, h2 => by rw [rch_un n m (p v) h.2 h2.2]
theorem rch_cg {p q : Nat → Nat} {i : Nat} (he : ∀ v : Nat, v < i → v ≠ 0 → q v = p v) (hc : ∀ v : Nat, v < i → v ≠ 0 → p v < i) : ∀ (n v : Nat), v < i → rch p n v → rch q n v
  | 0, _, _, h => h
  | n + 1, v, hv, h => ⟨h.1, by rw [he v hv h.1]; exact rch_cg he hc n _ (hc v hv h.1) h.2⟩
theorem rch_lo {p q : Nat → Nat} {i t M : Nat} (he : ∀ v : Nat, v < i → v ≠ 0 → v ≠ t → q v = p v) (hc : ∀ v : Nat, v < i → v ≠ 0 → p v < i) (ht : rch p M t) : ∀ (n v : Nat), v < i → n < M → rch p n v → rch q n v
  | 0, _, _, _, h => h
  | n + 1, v, hv, hn, h => by
    have hne : v ≠ t := fun e => by
      subst e
      have := rch_un _ _ _ h ht
      omega
    exact ⟨h.1, by rw [he v hv h.1 hne]; exact rch_lo he hc ht n _ (hc v hv h.1) (by omega) h.2⟩
theorem rch_sw {p q : Nat → Nat} {i t M : Nat} (he : ∀ v : Nat, v < i → v ≠ 0 → v ≠ t → q v = p v) (hc : ∀ v : Nat, v < i → v ≠ 0 → p v < i) (ht : rch p M t) (hti : t < i) (h0 : t ≠ 0) (et : q t = i) (ei : q i = p t) : ∀ (n v : Nat), v < i → rch p n v → rch q n v ∨ rch q (n + 1) v
  | 0, _, _, h => Or.inl h
  | n + 1, v, hv, h => by
    by_cases hne : v = t
    · subst hne
      have e := rch_un _ _ _ h ht
      subst e
      refine Or.inr ⟨h0, ?_⟩
      rw [et]
      refine ⟨by omega, ?_⟩
      rw [ei]
      exact rch_lo he hc ht n _ (hc _ hv h0) (by omega) h.2
    · have a := rch_sw he hc ht hti h0 et ei n _ (hc v hv h.1) h.2
      rcases a with a | a
      · exact Or.inl ⟨h.1, by rw [he v hv h.1 hne]; exact a⟩
      · exact Or.inr ⟨h.1, by rw [he v hv h.1 hne]; exact a⟩
/-- the tree of the places below i; the others hang at these -/
noncomputable def trs (f : Nat → Int32) (i : Nat) : Prop := (∀ j : Nat, 1 ≤ j → j < 12 → 0 ≤ (f j).toInt ∧ (f j).toInt < i) ∧ (∀ j : Nat, j < i → ∃ n : Nat, n + 1 ≤ i ∧ rch (pf_ f) n j)
theorem trs_one {e f : Nat → Int32} {x : Int32} (h : ∀ j : Nat, j < 12 → e j = 0) (ef : f = upd e (0 : Int32).toNatClampNeg x) : trs f 1 := by
  refine ⟨fun j h1 h2 => ?_, fun j hj => ⟨0, by omega, ?_⟩⟩
  · rw [ef, pk_un (by rw [cl_0]; omega), h j h2]
    decide
  · show j = 0
    omega
noncomputable def hng (f0 f : Nat → Int32) (i : Int32) : Prop := ∀ j : Nat, f j = f0 j ∨ (i.toInt < (j : Int) ∧ f j = i)
theorem hng_rf {f : Nat → Int32} {i : Int32} : hng f f i := fun _ => Or.inl rfl
theorem hng_st {f0 f g : Nat → Int32} {i k : Int32} (h : hng f0 f i) (e : g = upd f k.toNatClampNeg i) (h0 : 0 ≤ k.toInt) (hk : i.toInt < k.toInt) : hng f0 g i := fun j => by
  have c := clI (i := k) h0
  rw [e]
  by_cases ej : j = k.toNatClampNeg
  · rw [ej, pk_us]
    exact Or.inr ⟨by omega, rfl⟩
  · rw [pk_un ej]
    exact h j
theorem pf_lt {f : Nat → Int32} {v i : Nat} (h : 0 ≤ (f v).toInt ∧ (f v).toInt < i) : pf_ f v < i := by
  have c := clI (i := f v) h.1
  show (f v).toNatClampNeg < i
  omega
theorem hng_lo {f0 f : Nat → Int32} {i : Int32} (h : hng f0 f i) (hi : 0 ≤ i.toInt) {v : Nat} (hv : v ≤ i.toNatClampNeg) : f v = f0 v := by
  have c := clI (i := i) hi
  rcases h v with a | a
  · exact a
  · omega
theorem hng_rg {f0 f : Nat → Int32} {i : Int32} (h : hng f0 f i) (hi : 0 ≤ i.toInt) (hs : trs f0 i.toNatClampNeg) : ∀ j : Nat, 1 ≤ j → j < 12 → 0 ≤ (f j).toInt ∧ (f j).toInt < ((i.toNatClampNeg + 1 : Nat) : Int) := fun j h1 h2 => by
  have c := clI (i := i) hi
  have a := hs.1 j h1 h2
  rcases h j with e | e
  · rw [e]
    omega
  · rw [e.2]
    omega
theorem trs_no {f0 f : Nat → Int32} {i : Int32} (hs : trs f0 i.toNatClampNeg) (h : hng f0 f i) (h1 : 1 ≤ i.toInt) (h2 : i.toInt ≤ 11) : trs f (i.toNatClampNeg + 1) := by
  have c := clI (i := i) (by omega)
  refine ⟨hng_rg h (by omega) hs, fun j hj => ?_⟩
  have he : ∀ v : Nat, v < i.toNatClampNeg → v ≠ 0 → pf_ f v = pf_ f0 v := fun v hv _ => by
    unfold pf_
    rw [hng_lo h (by omega) (by omega)]
  have hc : ∀ v : Nat, v < i.toNatClampNeg → v ≠ 0 → pf_ f0 v < i.toNatClampNeg := fun v hv h0 => pf_lt (hs.1 v (by omega) (by omega))
  by_cases ej : j = i.toNatClampNeg
  · subst ej
    have a := hs.1 i.toNatClampNeg (by omega) (by omega)
    have b := pf_lt a
    obtain ⟨n, hn, hr⟩ := hs.2 _ b
    refine ⟨n + 1, by omega, by omega, ?_⟩
    have e : pf_ f i.toNatClampNeg = pf_ f0 i.toNatClampNeg := by
      unfold pf_
      rw [hng_lo h (by omega) (Nat.le_refl _)]
    rw [e]
    exact rch_cg he hc n _ b hr
  · obtain ⟨n, hn, hr⟩ := hs.2 j (by omega)
    exact ⟨n, by omega, rch_cg he hc n _ (by omega) hr⟩
theorem trs_swap {f0 f g1 g : Nat → Int32} {i t v : Int32} (hs : trs f0 i.toNatClampNeg) (h : hng f0 f i) (h1 : 1 ≤ i.toInt) (h2 : i.toInt ≤ 11) (et : t.toInt = (f0 i.toNatClampNeg).toInt) (ht : t.toInt ≠ 0) (ev : v = f t.toNatClampNeg) (e1 : g1 = upd f i.toNatClampNeg v) (e2 : g = upd g1 t.toNatClampNeg i) : trs g (i.toNatClampNeg + 1) := by
  have c := clI (i := i) (by omega)
  have a := hs.1 i.toNatClampNeg (by omega) (by omega)
  have ct := clI (i := t) (by omega)
  have hti : t.toNatClampNeg < i.toNatClampNeg := by omega
  have gt_ : g t.toNatClampNeg = i := by rw [e2]; exact pk_us
  have gi_ : g i.toNatClampNeg = f0 t.toNatClampNeg := by
    rw [e2, pk_un (by omega), e1, pk_us, ev]
    exact hng_lo h (by omega) (by omega)
  have go_ : ∀ w : Nat, w ≠ t.toNatClampNeg → w ≠ i.toNatClampNeg → g w = f w := fun w q1 q2 => by
    rw [e2, pk_un q1, e1, pk_un q2]
  have he : ∀ w : Nat, w < i.toNatClampNeg → w ≠ 0 → w ≠ t.toNatClampNeg → pf_ g w = pf_ f0 w := fun w hw _ hwt => by
    unfold pf_
    rw [go_ w hwt (by omega), hng_lo h (by omega) (by omega)]
  have hc : ∀ w : Nat, w < i.toNatClampNeg → w ≠ 0 → pf_ f0 w < i.toNatClampNeg := fun w hw h0 => pf_lt (hs.1 w (by omega) (by omega))
  obtain ⟨M, hM, hr⟩ := hs.2 t.toNatClampNeg hti
  have et2 : pf_ g t.toNatClampNeg = i.toNatClampNeg := by unfold pf_; rw [gt_]
  have ei2 : pf_ g i.toNatClampNeg = pf_ f0 t.toNatClampNeg := by unfold pf_; rw [gi_]
  have ht0 : t.toNatClampNeg ≠ 0 := by omega
  refine ⟨fun j q1 q2 => ?_, fun j hj => ?_⟩
  · by_cases j1 : j = t.toNatClampNeg
    · rw [j1, gt_]
      omega
    · by_cases j2 : j = i.toNatClampNeg
      · rw [j2, gi_]
        have := hs.1 t.toNatClampNeg (by omega) (by omega)
        omega
      · rw [go_ j j1 j2]
        exact hng_rg h (by omega) hs j q1 q2
  · by_cases j2 : j = i.toNatClampNeg
    · cases M with
      | zero => exact absurd hr ht0
      | succ M =>
        refine ⟨M + 1, by omega, by omega, ?_⟩
        rw [j2, ei2]
        exact rch_lo (t := t.toNatClampNeg) he hc hr M _ (hc _ hti ht0) (by omega) hr.2
    · obtain ⟨n, hn, hq⟩ := hs.2 j (by omega)
      rcases rch_sw he hc hr hti ht0 et2 ei2 n j (by omega) hq with z | z
      · exact ⟨n, by omega, z⟩
      · exact ⟨n + 1, by omega, z⟩
theorem trs_nx {f : Nat → Int32} {i i2 : Int32} (h : trs f (i.toNatClampNeg + 1)) (h0 : 0 ≤ i.toInt) (e : i2.toInt = i.toInt + 1) : trs f i2.toNatClampNeg := by
  have c := clI (i := i) h0
  have c2 := clI (i := i2) (by omega)
  rw [show i2.toNatClampNeg = i.toNatClampNeg + 1 by omega]
  exact h
noncomputable def dpt (p : Nat → Nat) : Nat → Nat → Nat
  | 0, _ => 0
  | k + 1, v => if v = 0 then 0 else dpt p k (p v) + 1
theorem dpt_eq {p : Nat → Nat} : ∀ (k n v : Nat), n ≤ k → rch p n v → dpt p k v = n
  | 0, n, v, hn, _ => by
    obtain rfl : n = 0 := by omega
    rfl
  | k + 1, 0, v, _, h => by
    show (if v = 0 then 0 else dpt p k (p v) + 1) = 0
    rw [if_pos (show v = 0 from h)]
  | k + 1, n + 1, v, hn, h => by
    show (if v = 0 then 0 else dpt p k (p v) + 1) = n + 1
    rw [if_neg h.1, dpt_eq k n (p v) (by omega) h.2]
theorem trs_trd {f : Nat → Int32} {i : Nat} (h : trs f i) (hi : i ≤ 12) : ∃ d : Nat → Nat, trd f d := by
  refine ⟨dpt (pf_ f) 13, rfl, fun j h1 h2 => ?_⟩
  have a := h.1 j h1 h2
  have b := pf_lt a
  obtain ⟨n, hn, hr⟩ := h.2 _ b
  have hj : ∃ m : Nat, m ≤ 11 ∧ rch (pf_ f) m j := by
    by_cases q : j < i
    · obtain ⟨m, hm, hq⟩ := h.2 j q
      exact ⟨m, by omega, hq⟩
    · exact ⟨n + 1, by omega, by omega, hr⟩
  obtain ⟨m, hm, hq⟩ := hj
  have e1 := dpt_eq 13 m j (by omega) hq
  have e2 : dpt (pf_ f) 13 (f j).toNatClampNeg = n := dpt_eq 13 n _ (by omega) hr
  have e3 : m = n + 1 := rch_un _ _ _ hq (show rch (pf_ f) (n + 1) j from ⟨by omega, hr⟩)
  refine ⟨a.1, by omega, ?_, ?_⟩
  · rw [e1, e2, e3]
  · rw [e1]
    exact hm

set_option maxHeartbeats 4000000 in
set_option maxRecDepth 100000 in
theorem c_X1_hang (l : Launch) (D : va_G) (cy : Nat → ClassId) (sz : Nat) (xt : Nat) (ta : Nat) (tb : Nat) (xc : Nat) (xk : Nat) (clo : Nat) (cro : Nat) (c4 : Nat) (c5 : Nat) (c6 : Nat) (c7 : Nat) (c8 : Nat) (xn : Nat) (n1 : Nat) (n2 : Nat) (n3 : Nat) (n4 : Nat) (n5 : Nat) (vp : Int32) (vn : Int32) (fx : Nat → Int32) (fu : Nat → Int32) (fs : Nat → Int32) (fe : Nat → Int32) (rl : Nat → Nat) (Ml : Nat → Nat → Int32) (rr : Nat → Nat) (Mr : Nat → Nat → Int32) (f4 : Nat → Int32) (f5 : Nat → Int32) (f6 : Nat → Int32) (f7 : Nat → Int32) (f8 : Nat → Int32) (a1 : Int32) (hvp : 0 ≤ vp.toInt ∧ vp.toInt ≤ 12) (hvn : 0 ≤ vn.toInt ∧ vn.toInt ≤ 40) (q1 : 1 ≤ a1.toInt ∧ a1.toInt < vp.toInt) (htr : trs fx a1.toNatClampNeg) (r_f7 : rng f7 12 (0) (11)) (r_f8 : rng f8 12 (0) (11)) : Met l yX1_hang wsX1_hang ({ frames := 4, cells := 0, slots := 0, locals := 88 }) (va_Pc [.ref xt, .int a1] (fun U => U.heap.size = sz ∧ va_P D vwCl [ob1_0_ xt xc ta tb, ob0_0_ xc xn xk clo cro c4 c5 c6 c7 c8, ob3_0_ xn vp vn n1 n2 n3 n4 n5, ai_ cy ta 12 fx, ai_ cy tb 12 fu, ai_ cy n2 40 fs, ai_ cy n3 40 fe, aq_ cy 6 clo 12 (gf_ rl), ai_ cy (rl 0) 12 (Ml 0), ai_ cy (rl 1) 12 (Ml 1), ai_ cy (rl 2) 12 (Ml 2), ai_ cy (rl 3) 12 (Ml 3), ai_ cy (rl 4) 12 (Ml 4), ai_ cy (rl 5) 12 (Ml 5), ai_ cy (rl 6) 12 (Ml 6), ai_ cy (rl 7) 12 (Ml 7), ai_ cy (rl 8) 12 (Ml 8), ai_ cy (rl 9) 12 (Ml 9), ai_ cy (rl 10) 12 (Ml 10), ai_ cy (rl 11) 12 (Ml 11), aq_ cy 6 cro 12 (gf_ rr), ai_ cy (rr 0) 12 (Mr 0), ai_ cy (rr 1) 12 (Mr 1), ai_ cy (rr 2) 12 (Mr 2), ai_ cy (rr 3) 12 (Mr 3), ai_ cy (rr 4) 12 (Mr 4), ai_ cy (rr 5) 12 (Mr 5), ai_ cy (rr 6) 12 (Mr 6), ai_ cy (rr 7) 12 (Mr 7), ai_ cy (rr 8) 12 (Mr 8), ai_ cy (rr 9) 12 (Mr 9), ai_ cy (rr 10) 12 (Mr 10), ai_ cy (rr 11) 12 (Mr 11), ai_ cy c4 40 f4, ai_ cy c5 40 f5, ai_ cy c6 40 f6, ai_ cy c7 12 f7, ai_ cy c8 12 f8] U.heap ∧ kg_ D cy U ∧ va_D (fun _ => True) [ob1_0_ xt xc ta tb, ob0_0_ xc xn xk clo cro c4 c5 c6 c7 c8, ob3_0_ xn vp vn n1 n2 n3 n4 n5, ai_ cy ta 12 fx, ai_ cy tb 12 fu, ai_ cy n2 40 fs, ai_ cy n3 40 fe, aq_ cy 6 clo 12 (gf_ rl), ai_ cy (rl 0) 12 (Ml 0), ai_ cy (rl 1) 12 (Ml 1), ai_ cy (rl 2) 12 (Ml 2), ai_ cy (rl 3) 12 (Ml 3), ai_ cy (rl 4) 12 (Ml 4), ai_ cy (rl 5) 12 (Ml 5), ai_ cy (rl 6) 12 (Ml 6), ai_ cy (rl 7) 12 (Ml 7), ai_ cy (rl 8) 12 (Ml 8), ai_ cy (rl 9) 12 (Ml 9), ai_ cy (rl 10) 12 (Ml 10), ai_ cy (rl 11) 12 (Ml 11), aq_ cy 6 cro 12 (gf_ rr), ai_ cy (rr 0) 12 (Mr 0), ai_ cy (rr 1) 12 (Mr 1), ai_ cy (rr 2) 12 (Mr 2), ai_ cy (rr 3) 12 (Mr 3), ai_ cy (rr 4) 12 (Mr 4), ai_ cy (rr 5) 12 (Mr 5), ai_ cy (rr 6) 12 (Mr 6), ai_ cy (rr 7) 12 (Mr 7), ai_ cy (rr 8) 12 (Mr 8), ai_ cy (rr 9) 12 (Mr 9), ai_ cy (rr 10) 12 (Mr 10), ai_ cy (rr 11) 12 (Mr 11), ai_ cy c4 40 f4, ai_ cy c5 40 f5, ai_ cy c6 40 f6, ai_ cy c7 12 f7, ai_ cy c8 12 f8])) (va_Qv (fun (_ : Unit) => True) (fun (_ : Unit) (t : State) => ∃ (eMr : Nat → Nat → Int32), ∃ (efx : Nat → Int32), ∃ (efu : Nat → Int32), ∃ (e4 : Nat → Int32), ∃ (e7 : Nat → Int32), ∃ (e8 : Nat → Int32), (trs efx (a1.toNatClampNeg + 1)) ∧ (rng e7 12 (0) (11)) ∧ (rng e8 12 (0) (11)) ∧ va_P D vwCl [ob1_0_ xt xc ta tb, ob0_0_ xc xn xk clo cro c4 c5 c6 c7 c8, ob3_0_ xn vp vn n1 n2 n3 n4 n5, ai_ cy ta 12 efx, ai_ cy tb 12 efu, ai_ cy n2 40 fs, ai_ cy n3 40 fe, aq_ cy 6 clo 12 (gf_ rl), ai_ cy (rl 0) 12 (Ml 0), ai_ cy (rl 1) 12 (Ml 1), ai_ cy (rl 2) 12 (Ml 2), ai_ cy (rl 3) 12 (Ml 3), ai_ cy (rl 4) 12 (Ml 4), ai_ cy (rl 5) 12 (Ml 5), ai_ cy (rl 6) 12 (Ml 6), ai_ cy (rl 7) 12 (Ml 7), ai_ cy (rl 8) 12 (Ml 8), ai_ cy (rl 9) 12 (Ml 9), ai_ cy (rl 10) 12 (Ml 10), ai_ cy (rl 11) 12 (Ml 11), aq_ cy 6 cro 12 (gf_ rr), ai_ cy (rr 0) 12 (eMr 0), ai_ cy (rr 1) 12 (eMr 1), ai_ cy (rr 2) 12 (eMr 2), ai_ cy (rr 3) 12 (eMr 3), ai_ cy (rr 4) 12 (eMr 4), ai_ cy (rr 5) 12 (eMr 5), ai_ cy (rr 6) 12 (eMr 6), ai_ cy (rr 7) 12 (eMr 7), ai_ cy (rr 8) 12 (eMr 8), ai_ cy (rr 9) 12 (eMr 9), ai_ cy (rr 10) 12 (eMr 10), ai_ cy (rr 11) 12 (eMr 11), ai_ cy c4 40 e4, ai_ cy c5 40 f5, ai_ cy c6 40 f6, ai_ cy c7 12 e7, ai_ cy c8 12 e8] t.heap ∧ va_D (va_A [ob1_0_ xt xc ta tb, ob0_0_ xc xn xk clo cro c4 c5 c6 c7 c8, ob3_0_ xn vp vn n1 n2 n3 n4 n5, ai_ cy ta 12 fx, ai_ cy tb 12 fu, ai_ cy n2 40 fs, ai_ cy n3 40 fe, aq_ cy 6 clo 12 (gf_ rl), ai_ cy (rl 0) 12 (Ml 0), ai_ cy (rl 1) 12 (Ml 1), ai_ cy (rl 2) 12 (Ml 2), ai_ cy (rl 3) 12 (Ml 3), ai_ cy (rl 4) 12 (Ml 4), ai_ cy (rl 5) 12 (Ml 5), ai_ cy (rl 6) 12 (Ml 6), ai_ cy (rl 7) 12 (Ml 7), ai_ cy (rl 8) 12 (Ml 8), ai_ cy (rl 9) 12 (Ml 9), ai_ cy (rl 10) 12 (Ml 10), ai_ cy (rl 11) 12 (Ml 11), aq_ cy 6 cro 12 (gf_ rr), ai_ cy (rr 0) 12 (Mr 0), ai_ cy (rr 1) 12 (Mr 1), ai_ cy (rr 2) 12 (Mr 2), ai_ cy (rr 3) 12 (Mr 3), ai_ cy (rr 4) 12 (Mr 4), ai_ cy (rr 5) 12 (Mr 5), ai_ cy (rr 6) 12 (Mr 6), ai_ cy (rr 7) 12 (Mr 7), ai_ cy (rr 8) 12 (Mr 8), ai_ cy (rr 9) 12 (Mr 9), ai_ cy (rr 10) 12 (Mr 10), ai_ cy (rr 11) 12 (Mr 11), ai_ cy c4 40 f4, ai_ cy c5 40 f5, ai_ cy c6 40 f6, ai_ cy c7 12 f7, ai_ cy c8 12 f8] sz) [ob1_0_ xt xc ta tb, ob0_0_ xc xn xk clo cro c4 c5 c6 c7 c8, ob3_0_ xn vp vn n1 n2 n3 n4 n5, ai_ cy ta 12 efx, ai_ cy tb 12 efu, ai_ cy n2 40 fs, ai_ cy n3 40 fe, aq_ cy 6 clo 12 (gf_ rl), ai_ cy (rl 0) 12 (Ml 0), ai_ cy (rl 1) 12 (Ml 1), ai_ cy (rl 2) 12 (Ml 2), ai_ cy (rl 3) 12 (Ml 3), ai_ cy (rl 4) 12 (Ml 4), ai_ cy (rl 5) 12 (Ml 5), ai_ cy (rl 6) 12 (Ml 6), ai_ cy (rl 7) 12 (Ml 7), ai_ cy (rl 8) 12 (Ml 8), ai_ cy (rl 9) 12 (Ml 9), ai_ cy (rl 10) 12 (Ml 10), ai_ cy (rl 11) 12 (Ml 11), aq_ cy 6 cro 12 (gf_ rr), ai_ cy (rr 0) 12 (eMr 0), ai_ cy (rr 1) 12 (eMr 1), ai_ cy (rr 2) 12 (eMr 2), ai_ cy (rr 3) 12 (eMr 3), ai_ cy (rr 4) 12 (eMr 4), ai_ cy (rr 5) 12 (eMr 5), ai_ cy (rr 6) 12 (eMr 6), ai_ cy (rr 7) 12 (eMr 7), ai_ cy (rr 8) 12 (eMr 8), ai_ cy (rr 9) 12 (eMr 9), ai_ cy (rr 10) 12 (eMr 10), ai_ cy (rr 11) 12 (eMr 11), ai_ cy c4 40 e4, ai_ cy c5 40 f5, ai_ cy c6 40 f6, ai_ cy c7 12 e7, ai_ cy c8 12 e8]) (va_A [ob1_0_ xt xc ta tb, ob0_0_ xc xn xk clo cro c4 c5 c6 c7 c8, ob3_0_ xn vp vn n1 n2 n3 n4 n5, ai_ cy ta 12 fx, ai_ cy tb 12 fu, ai_ cy n2 40 fs, ai_ cy n3 40 fe, aq_ cy 6 clo 12 (gf_ rl), ai_ cy (rl 0) 12 (Ml 0), ai_ cy (rl 1) 12 (Ml 1), ai_ cy (rl 2) 12 (Ml 2), ai_ cy (rl 3) 12 (Ml 3), ai_ cy (rl 4) 12 (Ml 4), ai_ cy (rl 5) 12 (Ml 5), ai_ cy (rl 6) 12 (Ml 6), ai_ cy (rl 7) 12 (Ml 7), ai_ cy (rl 8) 12 (Ml 8), ai_ cy (rl 9) 12 (Ml 9), ai_ cy (rl 10) 12 (Ml 10), ai_ cy (rl 11) 12 (Ml 11), aq_ cy 6 cro 12 (gf_ rr), ai_ cy (rr 0) 12 (Mr 0), ai_ cy (rr 1) 12 (Mr 1), ai_ cy (rr 2) 12 (Mr 2), ai_ cy (rr 3) 12 (Mr 3), ai_ cy (rr 4) 12 (Mr 4), ai_ cy (rr 5) 12 (Mr 5), ai_ cy (rr 6) 12 (Mr 6), ai_ cy (rr 7) 12 (Mr 7), ai_ cy (rr 8) 12 (Mr 8), ai_ cy (rr 9) 12 (Mr 9), ai_ cy (rr 10) 12 (Mr 10), ai_ cy (rr 11) 12 (Mr 11), ai_ cy c4 40 f4, ai_ cy c5 40 f5, ai_ cy c6 40 f6, ai_ cy c7 12 f7, ai_ cy c8 12 f8] sz)) 0 0 (va_A [ob1_0_ xt xc ta tb, ob0_0_ xc xn xk clo cro c4 c5 c6 c7 c8, ob3_0_ xn vp vn n1 n2 n3 n4 n5, ai_ cy ta 12 fx, ai_ cy tb 12 fu, ai_ cy n2 40 fs, ai_ cy n3 40 fe, aq_ cy 6 clo 12 (gf_ rl), ai_ cy (rl 0) 12 (Ml 0), ai_ cy (rl 1) 12 (Ml 1), ai_ cy (rl 2) 12 (Ml 2), ai_ cy (rl 3) 12 (Ml 3), ai_ cy (rl 4) 12 (Ml 4), ai_ cy (rl 5) 12 (Ml 5), ai_ cy (rl 6) 12 (Ml 6), ai_ cy (rl 7) 12 (Ml 7), ai_ cy (rl 8) 12 (Ml 8), ai_ cy (rl 9) 12 (Ml 9), ai_ cy (rl 10) 12 (Ml 10), ai_ cy (rl 11) 12 (Ml 11), aq_ cy 6 cro 12 (gf_ rr), ai_ cy (rr 0) 12 (Mr 0), ai_ cy (rr 1) 12 (Mr 1), ai_ cy (rr 2) 12 (Mr 2), ai_ cy (rr 3) 12 (Mr 3), ai_ cy (rr 4) 12 (Mr 4), ai_ cy (rr 5) 12 (Mr 5), ai_ cy (rr 6) 12 (Mr 6), ai_ cy (rr 7) 12 (Mr 7), ai_ cy (rr 8) 12 (Mr 8), ai_ cy (rr 9) 12 (Mr 9), ai_ cy (rr 10) 12 (Mr 10), ai_ cy (rr 11) 12 (Mr 11), ai_ cy c4 40 f4, ai_ cy c5 40 f5, ai_ cy c6 40 f6, ai_ cy c7 12 f7, ai_ cy c8 12 f8] sz) := by
  refine ofQ (cc := cX1_hang) (maxL := 6) (ret := none) (by decide) rfl ?_
  intro p e s m args below meth c s₁ Q hQ B hml hv
  obtain ⟨rfl, hsz, hP, hK, hD0⟩ := hv
  have hG := hK.2
  have hK := hK.1
  have hx := B.exec
  have hb := B.bytes
  have hr := B.returns
  have hts := atoms_spec (ws := wsX1_hang) B.pre
  have hown : s.vm.findClass RX1 = some m.cls := by have h_ := findClass_of_methodNamed B.named; exact h_
  have hlocks := B.notSynchronized
  subst hsz
  have hD := hD0.self (sz := s.heap.size)
  generalize hAe : va_A [ob1_0_ xt xc ta tb, ob0_0_ xc xn xk clo cro c4 c5 c6 c7 c8, ob3_0_ xn vp vn n1 n2 n3 n4 n5, ai_ cy ta 12 fx, ai_ cy tb 12 fu, ai_ cy n2 40 fs, ai_ cy n3 40 fe, aq_ cy 6 clo 12 (gf_ rl), ai_ cy (rl 0) 12 (Ml 0), ai_ cy (rl 1) 12 (Ml 1), ai_ cy (rl 2) 12 (Ml 2), ai_ cy (rl 3) 12 (Ml 3), ai_ cy (rl 4) 12 (Ml 4), ai_ cy (rl 5) 12 (Ml 5), ai_ cy (rl 6) 12 (Ml 6), ai_ cy (rl 7) 12 (Ml 7), ai_ cy (rl 8) 12 (Ml 8), ai_ cy (rl 9) 12 (Ml 9), ai_ cy (rl 10) 12 (Ml 10), ai_ cy (rl 11) 12 (Ml 11), aq_ cy 6 cro 12 (gf_ rr), ai_ cy (rr 0) 12 (Mr 0), ai_ cy (rr 1) 12 (Mr 1), ai_ cy (rr 2) 12 (Mr 2), ai_ cy (rr 3) 12 (Mr 3), ai_ cy (rr 4) 12 (Mr 4), ai_ cy (rr 5) 12 (Mr 5), ai_ cy (rr 6) 12 (Mr 6), ai_ cy (rr 7) 12 (Mr 7), ai_ cy (rr 8) 12 (Mr 8), ai_ cy (rr 9) 12 (Mr 9), ai_ cy (rr 10) 12 (Mr 10), ai_ cy (rr 11) 12 (Mr 11), ai_ cy c4 40 f4, ai_ cy c5 40 f5, ai_ cy c6 40 f6, ai_ cy c7 12 f7, ai_ cy c8 12 f8] s.heap.size = A at hD hQ
  have hA : ∀ q : Nat, s.heap.size ≤ q → A q := fun q h => by rw [← hAe]; exact Or.inr h
  have hS : va_S A s.heap s.heap [] := va_S.rf
  have hl := lv_entry ([.ref xt, .int a1]) (n := 6) (Nat.le_of_ble_eq_true rfl)
  rw [lg_entry_eq]
  generalize (lg_sl ([.ref xt, .int a1]) ++ List.replicate (6 - (lg_sl ([.ref xt, .int a1])).length) Slot.unset).toArray = ls at hl ⊢
  have hl : lv_has ls 6 [(0, .ref xt), (1, .int a1)] := hl
  have z0 : (0 : Int32).toInt = 0 := by decide
  have z1 : (1 : Int32).toInt = 1 := by decide
  have ca := clI (i := a1) (by omega)
  have ht_ := htr.1 a1.toNatClampNeg (by omega) (by omega)
  refine lv_aload_n hx hb dB_36_0_48.1.1.1.1 rfl (lv_at hl 0 rfl) ?_
  refine va_get (ci := 1) (v := .ref ta) (C := RX1) (T := TX1) (N := 3) hx hb hts (fun _ h => List.mem_cons_of_mem _ (List.mem_append_left _ (List.mem_append_left _ (List.mem_append_right _ h)))) hown hK.1 hP 0 rfl rfl 1 (by decide) (hts (.fieldLink RX1 9 "CutAtlas$CutTree" "nexts" "[I") (List.mem_of_getElem? (i := 1) rfl)) (fun _ h9 => h9) rfl dB_36_0_48.1.1.1.2 ?_
  refine lv_iload_n hx hb dB_36_0_48.1.1.2.1 rfl (lv_at hl 1 rfl) ?_
  have h_1 : vp_in a1 12 := in_I (by first | with_reducible assumption | omega) (by omega)
  refine va_iald hx hb hK.1 hP 3 0 rfl rfl (i := a1) h_1 dB_36_0_48.1.1.2.2 ?_
  refine lv_topi (fun y_2 ey_2 => ?_)
  have ky_2 : y_2.toInt = (fx a1.toNatClampNeg).toInt := by rw [ey_2]
  refine lv_istore_n (lv' := [(2, .int y_2), (0, .ref xt), (1, .int a1)]) hx hb dB_36_0_48.1.2.1.1 rfl hl (by decide) rfl (fun ls hl => ?_)
  refine lv_aload_n hx hb dB_36_0_48.1.2.1.2 rfl (lv_at hl 1 rfl) ?_
  refine va_get (ci := 1) (v := .ref xc) (C := RX1) (T := TX1) (N := 3) hx hb hts (fun _ h => List.mem_cons_of_mem _ (List.mem_append_left _ (List.mem_append_left _ (List.mem_append_right _ h)))) hown hK.1 hP 0 rfl rfl 0 (by decide) (hts (.fieldLink RX1 18 "CutAtlas$CutTree" "current" "LCutAtlas$Current;") (List.mem_of_getElem? (i := 2) rfl)) (fun _ h9 => h9) rfl dB_36_0_48.1.2.2.1 ?_
  refine lv_iload_n hx hb dB_36_0_48.1.2.2.2 rfl (lv_at hl 2 rfl) ?_
  refine lv_iload_n hx hb dB_36_0_48.2.1.1.1 rfl (lv_at hl 0 rfl) ?_
  refine ct_S hP hD hS hA [ob0_0_ xc xn xk clo cro c4 c5 c6 c7 c8, ob3_0_ xn vp vn n1 n2 n3 n4 n5, ai_ cy n2 40 fs, ai_ cy n3 40 fe, aq_ cy 6 clo 12 (gf_ rl), ai_ cy (rl 0) 12 (Ml 0), ai_ cy (rl 1) 12 (Ml 1), ai_ cy (rl 2) 12 (Ml 2), ai_ cy (rl 3) 12 (Ml 3), ai_ cy (rl 4) 12 (Ml 4), ai_ cy (rl 5) 12 (Ml 5), ai_ cy (rl 6) 12 (Ml 6), ai_ cy (rl 7) 12 (Ml 7), ai_ cy (rl 8) 12 (Ml 8), ai_ cy (rl 9) 12 (Ml 9), ai_ cy (rl 10) 12 (Ml 10), ai_ cy (rl 11) 12 (Ml 11), aq_ cy 6 cro 12 (gf_ rr), ai_ cy (rr 0) 12 (Mr 0), ai_ cy (rr 1) 12 (Mr 1), ai_ cy (rr 2) 12 (Mr 2), ai_ cy (rr 3) 12 (Mr 3), ai_ cy (rr 4) 12 (Mr 4), ai_ cy (rr 5) 12 (Mr 5), ai_ cy (rr 6) 12 (Mr 6), ai_ cy (rr 7) 12 (Mr 7), ai_ cy (rr 8) 12 (Mr 8), ai_ cy (rr 9) 12 (Mr 9), ai_ cy (rr 10) 12 (Mr 10), ai_ cy (rr 11) 12 (Mr 11), ai_ cy c4 40 f4, ai_ cy c5 40 f5, ai_ cy c6 40 f6, ai_ cy c7 12 f7, ai_ cy c8 12 f8] [1, 2, 5, 6, 7, 8, 9, 10, 11, 12, 13, 14, 15, 16, 17, 18, 19, 20, 21, 22, 23, 24, 25, 26, 27, 28, 29, 30, 31, 32, 33, 34, 35, 36, 37] (by decide +kernel) rfl (fun hPc hDw hFc hC_ => ?_)
  refine va_calli (va_runV (As := [.int a1, .int y_2]) (rest := []) ⟨hx, hb, hml, hown, hts⟩ (c_X0_fill l D cy s.heap.size xc xk clo cro c4 c5 c6 c7 c8 xn n1 n2 n3 n4 n5 vp vn fs fe rl Ml rr Mr f4 f5 f6 f7 f8 a1 y_2 (by first | with_reducible assumption | omega | assumption) (by first | with_reducible assumption | omega | assumption) (by first | with_reducible assumption | omega | assumption) (by first | with_reducible assumption | omega | assumption) (by first | with_reducible assumption | assumption | omega) (by first | with_reducible assumption | assumption | omega)) (cwV 2 hts gX1_hang_X0_fill rfl rfl rfl ⟨rfl, hd_X0_fill⟩ ⟨Nat.le_of_ble_eq_true rfl, Nat.le_of_ble_eq_true rfl⟩) ⟨bl_g, va_recvX hK.1 hP (ci := 0) (q0 := 1) rfl rfl, fun U hU hW => ⟨rfl, by rw [hU], by rw [hU]; exact hPc, ⟨kk_mv hW hK, arrOfT_moved hW.alike hG⟩, hDw⟩⟩ rfl rfl hl.1 rfl (lv_room (Nat.le_of_ble_eq_true rfl)) dB_36_0_48.2.1.1.2 ⟨Nat.le_of_ble_eq_true rfl, Nat.le_of_ble_eq_true rfl⟩) hS (fun q _ h => hFc q h) hFc (fun r_3 u t H locs ht hvm hw hB hz1 hk1 hS => ?_)
  obtain ⟨eMr_4, e4_5, e7_6, e8_7, g_8, g_9, hP1, hD1⟩ := hB
  rw [ht] at hP1
  obtain ⟨hP, hD⟩ := va_join (wr := [ob1_0_ xt xc ta tb, ai_ cy ta 12 fx, ai_ cy tb 12 fu]) (w1 := [ob0_0_ xc xn xk clo cro c4 c5 c6 c7 c8, ob3_0_ xn vp vn n1 n2 n3 n4 n5, ai_ cy n2 40 fs, ai_ cy n3 40 fe, aq_ cy 6 clo 12 (gf_ rl), ai_ cy (rl 0) 12 (Ml 0), ai_ cy (rl 1) 12 (Ml 1), ai_ cy (rl 2) 12 (Ml 2), ai_ cy (rl 3) 12 (Ml 3), ai_ cy (rl 4) 12 (Ml 4), ai_ cy (rl 5) 12 (Ml 5), ai_ cy (rl 6) 12 (Ml 6), ai_ cy (rl 7) 12 (Ml 7), ai_ cy (rl 8) 12 (Ml 8), ai_ cy (rl 9) 12 (Ml 9), ai_ cy (rl 10) 12 (Ml 10), ai_ cy (rl 11) 12 (Ml 11), aq_ cy 6 cro 12 (gf_ rr), ai_ cy (rr 0) 12 (eMr_4 0), ai_ cy (rr 1) 12 (eMr_4 1), ai_ cy (rr 2) 12 (eMr_4 2), ai_ cy (rr 3) 12 (eMr_4 3), ai_ cy (rr 4) 12 (eMr_4 4), ai_ cy (rr 5) 12 (eMr_4 5), ai_ cy (rr 6) 12 (eMr_4 6), ai_ cy (rr 7) 12 (eMr_4 7), ai_ cy (rr 8) 12 (eMr_4 8), ai_ cy (rr 9) 12 (eMr_4 9), ai_ cy (rr 10) 12 (eMr_4 10), ai_ cy (rr 11) 12 (eMr_4 11), ai_ cy c4 40 e4_5, ai_ cy c5 40 f5, ai_ cy c6 40 f6, ai_ cy c7 12 e7_6, ai_ cy c8 12 e8_7]) hP hD [1, 2, 5, 6, 7, 8, 9, 10, 11, 12, 13, 14, 15, 16, 17, 18, 19, 20, 21, 22, 23, 24, 25, 26, 27, 28, 29, 30, 31, 32, 33, 34, 35, 36, 37] [0, 3, 4] hC_ rfl (by decide) (by decide) hk1 hFc hP1 hD1
  refine pd_S hP hD [ob1_0_ xt xc ta tb, ob0_0_ xc xn xk clo cro c4 c5 c6 c7 c8, ob3_0_ xn vp vn n1 n2 n3 n4 n5, ai_ cy ta 12 fx, ai_ cy tb 12 fu, ai_ cy n2 40 fs, ai_ cy n3 40 fe, aq_ cy 6 clo 12 (gf_ rl), ai_ cy (rl 0) 12 (Ml 0), ai_ cy (rl 1) 12 (Ml 1), ai_ cy (rl 2) 12 (Ml 2), ai_ cy (rl 3) 12 (Ml 3), ai_ cy (rl 4) 12 (Ml 4), ai_ cy (rl 5) 12 (Ml 5), ai_ cy (rl 6) 12 (Ml 6), ai_ cy (rl 7) 12 (Ml 7), ai_ cy (rl 8) 12 (Ml 8), ai_ cy (rl 9) 12 (Ml 9), ai_ cy (rl 10) 12 (Ml 10), ai_ cy (rl 11) 12 (Ml 11), aq_ cy 6 cro 12 (gf_ rr), ai_ cy (rr 0) 12 (eMr_4 0), ai_ cy (rr 1) 12 (eMr_4 1), ai_ cy (rr 2) 12 (eMr_4 2), ai_ cy (rr 3) 12 (eMr_4 3), ai_ cy (rr 4) 12 (eMr_4 4), ai_ cy (rr 5) 12 (eMr_4 5), ai_ cy (rr 6) 12 (eMr_4 6), ai_ cy (rr 7) 12 (eMr_4 7), ai_ cy (rr 8) 12 (eMr_4 8), ai_ cy (rr 9) 12 (eMr_4 9), ai_ cy (rr 10) 12 (eMr_4 10), ai_ cy (rr 11) 12 (eMr_4 11), ai_ cy c4 40 e4_5, ai_ cy c5 40 f5, ai_ cy c6 40 f6, ai_ cy c7 12 e7_6, ai_ cy c8 12 e8_7] [0, 3, 4, 1, 2, 5, 6, 7, 8, 9, 10, 11, 12, 13, 14, 15, 16, 17, 18, 19, 20, 21, 22, 23, 24, 25, 26, 27, 28, 29, 30, 31, 32, 33, 34, 35, 36, 37] (by decide +kernel) rfl (fun hP hD => ?_)
  refine lv_istore_n (lv' := [(3, .int r_3), (2, .int y_2), (0, .ref xt), (1, .int a1)]) hx hb dB_36_0_48.2.1.2.1 rfl hl (by decide) rfl (fun ls hl => ?_)
  refine lv_aload_n hx hb dB_36_0_48.2.1.2.2 rfl (lv_at hl 2 rfl) ?_
  refine va_get (ci := 1) (v := .ref xc) (C := RX1) (T := TX1) (N := 3) hx hb hts (fun _ h => List.mem_cons_of_mem _ (List.mem_append_left _ (List.mem_append_left _ (List.mem_append_right _ h)))) hown hK.1 hP 0 rfl rfl 0 (by decide) (hts (.fieldLink RX1 18 "CutAtlas$CutTree" "current" "LCutAtlas$Current;") (List.mem_of_getElem? (i := 2) rfl)) (fun _ h9 => h9) rfl dB_36_0_48.2.2.1.1 ?_
  refine lv_iload_n hx hb dB_36_0_48.2.2.1.2 rfl (lv_at hl 3 rfl) ?_
  refine ct_S hP hD hS hA [ob0_0_ xc xn xk clo cro c4 c5 c6 c7 c8, ob3_0_ xn vp vn n1 n2 n3 n4 n5, aq_ cy 6 cro 12 (gf_ rr), ai_ cy (rr 0) 12 (eMr_4 0), ai_ cy (rr 1) 12 (eMr_4 1), ai_ cy (rr 2) 12 (eMr_4 2), ai_ cy (rr 3) 12 (eMr_4 3), ai_ cy (rr 4) 12 (eMr_4 4), ai_ cy (rr 5) 12 (eMr_4 5), ai_ cy (rr 6) 12 (eMr_4 6), ai_ cy (rr 7) 12 (eMr_4 7), ai_ cy (rr 8) 12 (eMr_4 8), ai_ cy (rr 9) 12 (eMr_4 9), ai_ cy (rr 10) 12 (eMr_4 10), ai_ cy (rr 11) 12 (eMr_4 11), ai_ cy c7 12 e7_6] [1, 2, 20, 21, 22, 23, 24, 25, 26, 27, 28, 29, 30, 31, 32, 36] (by decide +kernel) rfl (fun hPc hDw hFc hC_ => ?_)
  refine va_calli (va_runV (As := [.int a1]) (rest := []) ⟨hx, hb, hml, hown, hts⟩ (c_X0_nearCut l D cy H.size xc xk clo cro c4 c5 c6 c7 c8 xn n1 n2 n3 n4 n5 vp vn rr eMr_4 e7_6 a1 (by first | with_reducible assumption | omega | assumption) (by first | with_reducible assumption | omega | assumption) (by first | with_reducible assumption | assumption | omega)) (cwV 1 hts gX1_hang_X0_nearCut rfl rfl rfl ⟨rfl, hd_X0_nearCut⟩ ⟨Nat.le_of_ble_eq_true rfl, Nat.le_of_ble_eq_true rfl⟩) ⟨bl_g, va_recvX hK.1 hP (ci := 0) (q0 := 1) rfl rfl, fun U hU hW => ⟨rfl, by rw [hU], by rw [hU]; exact hPc, ⟨kk_mv hW hK, arrOfT_moved hW.alike hG⟩, hDw⟩⟩ rfl rfl hl.1 rfl (lv_room (Nat.le_of_ble_eq_true rfl)) dB_36_0_48.2.2.2.1 ⟨Nat.le_of_ble_eq_true rfl, Nat.le_of_ble_eq_true rfl⟩) hS (fun q _ h => hFc q h) hFc (fun r_10 u t H locs ht hvm hw hB hz1 hk1 hS => ?_)
  obtain ⟨e7_11, g_12, hP1, hD1⟩ := hB
  rw [ht] at hP1
  obtain ⟨hP, hD⟩ := va_join (wr := [ob1_0_ xt xc ta tb, ai_ cy ta 12 fx, ai_ cy tb 12 fu, ai_ cy n2 40 fs, ai_ cy n3 40 fe, aq_ cy 6 clo 12 (gf_ rl), ai_ cy (rl 0) 12 (Ml 0), ai_ cy (rl 1) 12 (Ml 1), ai_ cy (rl 2) 12 (Ml 2), ai_ cy (rl 3) 12 (Ml 3), ai_ cy (rl 4) 12 (Ml 4), ai_ cy (rl 5) 12 (Ml 5), ai_ cy (rl 6) 12 (Ml 6), ai_ cy (rl 7) 12 (Ml 7), ai_ cy (rl 8) 12 (Ml 8), ai_ cy (rl 9) 12 (Ml 9), ai_ cy (rl 10) 12 (Ml 10), ai_ cy (rl 11) 12 (Ml 11), ai_ cy c4 40 e4_5, ai_ cy c5 40 f5, ai_ cy c6 40 f6, ai_ cy c8 12 e8_7]) (w1 := [ob0_0_ xc xn xk clo cro c4 c5 c6 c7 c8, ob3_0_ xn vp vn n1 n2 n3 n4 n5, aq_ cy 6 cro 12 (gf_ rr), ai_ cy (rr 0) 12 (eMr_4 0), ai_ cy (rr 1) 12 (eMr_4 1), ai_ cy (rr 2) 12 (eMr_4 2), ai_ cy (rr 3) 12 (eMr_4 3), ai_ cy (rr 4) 12 (eMr_4 4), ai_ cy (rr 5) 12 (eMr_4 5), ai_ cy (rr 6) 12 (eMr_4 6), ai_ cy (rr 7) 12 (eMr_4 7), ai_ cy (rr 8) 12 (eMr_4 8), ai_ cy (rr 9) 12 (eMr_4 9), ai_ cy (rr 10) 12 (eMr_4 10), ai_ cy (rr 11) 12 (eMr_4 11), ai_ cy c7 12 e7_11]) hP hD [1, 2, 20, 21, 22, 23, 24, 25, 26, 27, 28, 29, 30, 31, 32, 36] [0, 3, 4, 5, 6, 7, 8, 9, 10, 11, 12, 13, 14, 15, 16, 17, 18, 19, 33, 34, 35, 37] hC_ rfl (by decide +kernel) (by decide +kernel) hk1 hFc hP1 hD1
  refine pd_S hP hD [ob1_0_ xt xc ta tb, ob0_0_ xc xn xk clo cro c4 c5 c6 c7 c8, ob3_0_ xn vp vn n1 n2 n3 n4 n5, ai_ cy ta 12 fx, ai_ cy tb 12 fu, ai_ cy n2 40 fs, ai_ cy n3 40 fe, aq_ cy 6 clo 12 (gf_ rl), ai_ cy (rl 0) 12 (Ml 0), ai_ cy (rl 1) 12 (Ml 1), ai_ cy (rl 2) 12 (Ml 2), ai_ cy (rl 3) 12 (Ml 3), ai_ cy (rl 4) 12 (Ml 4), ai_ cy (rl 5) 12 (Ml 5), ai_ cy (rl 6) 12 (Ml 6), ai_ cy (rl 7) 12 (Ml 7), ai_ cy (rl 8) 12 (Ml 8), ai_ cy (rl 9) 12 (Ml 9), ai_ cy (rl 10) 12 (Ml 10), ai_ cy (rl 11) 12 (Ml 11), aq_ cy 6 cro 12 (gf_ rr), ai_ cy (rr 0) 12 (eMr_4 0), ai_ cy (rr 1) 12 (eMr_4 1), ai_ cy (rr 2) 12 (eMr_4 2), ai_ cy (rr 3) 12 (eMr_4 3), ai_ cy (rr 4) 12 (eMr_4 4), ai_ cy (rr 5) 12 (eMr_4 5), ai_ cy (rr 6) 12 (eMr_4 6), ai_ cy (rr 7) 12 (eMr_4 7), ai_ cy (rr 8) 12 (eMr_4 8), ai_ cy (rr 9) 12 (eMr_4 9), ai_ cy (rr 10) 12 (eMr_4 10), ai_ cy (rr 11) 12 (eMr_4 11), ai_ cy c4 40 e4_5, ai_ cy c5 40 f5, ai_ cy c6 40 f6, ai_ cy c7 12 e7_11, ai_ cy c8 12 e8_7] [0, 22, 23, 1, 2, 3, 4, 5, 6, 7, 8, 9, 10, 11, 12, 13, 14, 15, 16, 17, 24, 25, 26, 27, 28, 29, 30, 31, 32, 33, 34, 35, 36, 18, 19, 20, 37, 21] (by decide +kernel) rfl (fun hP hD => ?_)
  refine lv_istore (lv' := [(4, .int r_10), (3, .int r_3), (2, .int y_2), (0, .ref xt), (1, .int a1)]) hx hb dB_36_0_48.2.2.2.2 hl (by decide) rfl (fun ls hl => ?_)
  refine lv_aload_n hx hb dB_36_0_49.1.1.1.1 rfl (lv_at hl 3 rfl) ?_
  refine va_get (ci := 1) (v := .ref tb) (C := RX1) (T := TX1) (N := 3) hx hb hts (fun _ h => List.mem_cons_of_mem _ (List.mem_append_left _ (List.mem_append_left _ (List.mem_append_right _ h)))) hown hK.1 hP 0 rfl rfl 2 (by decide) (hts (.fieldLink RX1 15 "CutAtlas$CutTree" "numbers" "[I") (List.mem_of_getElem? (i := 3) rfl)) (fun _ h9 => h9) rfl dB_36_0_49.1.1.1.2 ?_
  refine lv_iload_n hx hb dB_36_0_49.1.1.2.1 rfl (lv_at hl 4 rfl) ?_
  refine lv_iload_n hx hb dB_36_0_49.1.1.2.2 rfl (lv_at hl 1 rfl) ?_
  refine va_iast hx hb hK.1 hP hD hS 4 0 rfl rfl (i := a1) h_1 dB_36_0_49.1.2.1.1 (fun H locs hP hD hS => ?_)
  obtain ⟨f_14, ef_14⟩ : ∃ g : Nat → Int32, g = upd fu a1.toNatClampNeg r_3 := ⟨_, rfl⟩
  refine pd_K (D := D) (cl := vwCl) (H := H) (A := A) [ob1_0_ xt xc ta tb, ob0_0_ xc xn xk clo cro c4 c5 c6 c7 c8, ob3_0_ xn vp vn n1 n2 n3 n4 n5, ai_ cy ta 12 fx, ai_ cy tb 12 f_14, ai_ cy n2 40 fs, ai_ cy n3 40 fe, aq_ cy 6 clo 12 (gf_ rl), ai_ cy (rl 0) 12 (Ml 0), ai_ cy (rl 1) 12 (Ml 1), ai_ cy (rl 2) 12 (Ml 2), ai_ cy (rl 3) 12 (Ml 3), ai_ cy (rl 4) 12 (Ml 4), ai_ cy (rl 5) 12 (Ml 5), ai_ cy (rl 6) 12 (Ml 6), ai_ cy (rl 7) 12 (Ml 7), ai_ cy (rl 8) 12 (Ml 8), ai_ cy (rl 9) 12 (Ml 9), ai_ cy (rl 10) 12 (Ml 10), ai_ cy (rl 11) 12 (Ml 11), aq_ cy 6 cro 12 (gf_ rr), ai_ cy (rr 0) 12 (eMr_4 0), ai_ cy (rr 1) 12 (eMr_4 1), ai_ cy (rr 2) 12 (eMr_4 2), ai_ cy (rr 3) 12 (eMr_4 3), ai_ cy (rr 4) 12 (eMr_4 4), ai_ cy (rr 5) 12 (eMr_4 5), ai_ cy (rr 6) 12 (eMr_4 6), ai_ cy (rr 7) 12 (eMr_4 7), ai_ cy (rr 8) 12 (eMr_4 8), ai_ cy (rr 9) 12 (eMr_4 9), ai_ cy (rr 10) 12 (eMr_4 10), ai_ cy (rr 11) 12 (eMr_4 11), ai_ cy c4 40 e4_5, ai_ cy c5 40 f5, ai_ cy c6 40 f6, ai_ cy c7 12 e7_11, ai_ cy c8 12 e8_7] (by rw [ef_14]; exact hP) (by rw [ef_14]; exact hD) (fun hP hD => ?_)
  refine lv_iload_n hx hb dB_36_0_49.1.2.1.2 rfl (lv_at hl 4 rfl) ?_
  refine lv_iconst (v := 1) hx hb dB_36_0_49.1.2.2.1 (by decide) ?_
  refine lv_iadd hx hb dB_36_0_49.1.2.2.2 ?_
  refine lv_topi (fun y_15 ey_15 => ?_)
  have ty_15 : y_15.toInt = a1.toInt + (1 : Int32).toInt := by rw [ey_15]; exact addI (by omega) (by omega)
  refine lv_istore (lv' := [(5, .int y_15), (4, .int r_10), (3, .int r_3), (2, .int y_2), (0, .ref xt), (1, .int a1)]) hx hb dB_36_0_49.2.1.1.1 hl (by decide) rfl (fun ls hl => ?_)
  suffices LOOP_16 : ∀ (n_16 : Nat) (x5_16 : Int32) (c_ta_16 : Nat → Int32) (H : Heap) (locs : List Loc) (ls : Array Slot), 12 - x5_16.toInt < (n_16 : Int) → (a1.toInt < x5_16.toInt) → (x5_16.toInt ≤ 12) → (hng fx c_ta_16 a1) → pd_2 D vwCl A [ob1_0_ xt xc ta tb, ob0_0_ xc xn xk clo cro c4 c5 c6 c7 c8, ob3_0_ xn vp vn n1 n2 n3 n4 n5, ai_ cy ta 12 c_ta_16, ai_ cy tb 12 f_14, ai_ cy n2 40 fs, ai_ cy n3 40 fe, aq_ cy 6 clo 12 (gf_ rl), ai_ cy (rl 0) 12 (Ml 0), ai_ cy (rl 1) 12 (Ml 1), ai_ cy (rl 2) 12 (Ml 2), ai_ cy (rl 3) 12 (Ml 3), ai_ cy (rl 4) 12 (Ml 4), ai_ cy (rl 5) 12 (Ml 5), ai_ cy (rl 6) 12 (Ml 6), ai_ cy (rl 7) 12 (Ml 7), ai_ cy (rl 8) 12 (Ml 8), ai_ cy (rl 9) 12 (Ml 9), ai_ cy (rl 10) 12 (Ml 10), ai_ cy (rl 11) 12 (Ml 11), aq_ cy 6 cro 12 (gf_ rr), ai_ cy (rr 0) 12 (eMr_4 0), ai_ cy (rr 1) 12 (eMr_4 1), ai_ cy (rr 2) 12 (eMr_4 2), ai_ cy (rr 3) 12 (eMr_4 3), ai_ cy (rr 4) 12 (eMr_4 4), ai_ cy (rr 5) 12 (eMr_4 5), ai_ cy (rr 6) 12 (eMr_4 6), ai_ cy (rr 7) 12 (eMr_4 7), ai_ cy (rr 8) 12 (eMr_4 8), ai_ cy (rr 9) 12 (eMr_4 9), ai_ cy (rr 10) 12 (eMr_4 10), ai_ cy (rr 11) 12 (eMr_4 11), ai_ cy c4 40 e4_5, ai_ cy c5 40 f5, ai_ cy c6 40 f6, ai_ cy c7 12 e7_11, ai_ cy c8 12 e8_7] H → va_S A s.heap H locs → lv_has ls 6 [(5, .int x5_16), (4, .int r_10), (3, .int r_3), (2, .int y_2), (0, .ref xt), (1, .int a1)] → W p l e ({ frames := 4, cells := 0, slots := 0, locals := 88 } : Room) s m (([.ref xt, .int a1] : List Value).toArray) below meth c H locs 0 0 Q (F0 m 39 ls []) from LOOP_16 ((12 - y_15.toInt).toNat + 1) y_15 fx _ _ _ (by omega) (by first | with_reducible assumption | omega | assumption) (by first | with_reducible assumption | omega | assumption) (by first | with_reducible assumption | assumption | exact hng_st (by assumption) (by assumption) (by omega) (by omega) | exact hng_rf) ⟨hP, hD⟩ hS (lv_sub hl [0, 1, 2, 3, 4, 5] rfl)
  intro n_16
  induction n_16 with
  | zero =>
    intro x5_16 c_ta_16 H locs ls hm v0_16 v1_16 v2_16 hPD hS hl; obtain ⟨hP, hD⟩ := hPD
    exact absurd hm (by omega)
  | succ n_16 ih_16 =>
    intro x5_16 c_ta_16 H locs ls hm v0_16 v1_16 v2_16 hPD hS hl; obtain ⟨hP, hD⟩ := hPD
    refine lv_iload hx hb dB_36_0_49.2.1.1.2 (lv_at hl 0 rfl) ?_
    refine lv_aload_n hx hb dB_36_0_49.2.1.2.1 rfl (lv_at hl 4 rfl) ?_
    refine va_get (ci := 1) (v := .ref xc) (C := RX1) (T := TX1) (N := 3) hx hb hts (fun _ h => List.mem_cons_of_mem _ (List.mem_append_left _ (List.mem_append_left _ (List.mem_append_right _ h)))) hown hK.1 hP 0 rfl rfl 0 (by decide) (hts (.fieldLink RX1 18 "CutAtlas$CutTree" "current" "LCutAtlas$Current;") (List.mem_of_getElem? (i := 2) rfl)) (fun _ h9 => h9) rfl dB_36_0_49.2.1.2.2 ?_
    refine va_get (ci := 0) (v := .ref xn) (C := RX0) (T := TX0) (N := 9) hx hb hts (fun _ h => List.mem_cons_of_mem _ (List.mem_append_left _ (List.mem_append_right _ h))) hown hK.1 hP 1 rfl rfl 0 (by decide) (hts (.fieldLink RX1 34 "CutAtlas$Current" "net" "LCutAtlas$Net;") (List.mem_of_getElem? (i := 4) rfl)) (fun _ h9 => h9) rfl dB_36_0_49.2.2.1.1 ?_
    refine va_get (ci := 3) (v := .int vp) (C := RX3) (T := TX3) (N := 7) hx hb hts (fun _ h => List.mem_cons_of_mem _ (List.mem_append_right _ h)) hown hK.1 hP 2 rfl rfl 0 (by decide) (hts (.fieldLink RX1 38 "CutAtlas$Net" "places" "I") (List.mem_of_getElem? (i := 5) rfl)) (fun _ h9 => h9) rfl dB_36_0_49.2.2.1.2 ?_
    refine lv_icmp_ge (tgt := 90) hx hb dB_36_0_49.2.2.2.1 (by decide) (fun c_17 => ?_) (fun c_17 => ?_)
    · have t_17 : vp.toInt ≤ x5_16.toInt := Int32.le_iff_toInt_le.mp c_17
      refine lv_iload_n hx hb dB_36_0_51.1.1.2.2 rfl (lv_at hl 3 rfl) ?_
      refine lv_if_eq (tgt := 147) hx hb dB_36_0_51.1.2.1.1 (by decide) (fun c_18 => ?_) (fun c_18 => ?_)
      · have t_18 : y_2.toInt = (0 : Int32).toInt := congrArg Int32.toInt c_18
        rw [hQ]
        exact W.vret hx hb hr (fun t ht hW => ⟨⟨(), rfl, trivial, eMr_4, c_ta_16, f_14, e4_5, e7_11, e8_7, (by first | exact hsw_ | exact trs_no htr v2_16 (by omega) (by omega)), (by first | with_reducible assumption | assumption | exact rng_zero (by omega) (by omega) | omega), (by first | with_reducible assumption | assumption | exact rng_zero (by omega) (by omega) | omega), by rw [ht]; exact hP, hD⟩, hS.F ht⟩) hS.2.2 dB_36_0_53.2.2.2.2
      · have t_18 : ¬ y_2.toInt = (0 : Int32).toInt := fun h => c_18 (Int32.toInt_inj.mp h)
        refine lv_iload hx hb dB_36_0_51.1.2.1.2 (lv_at hl 1 rfl) ?_
        refine lv_aload_n hx hb dB_36_0_51.1.2.2.1 rfl (lv_at hl 4 rfl) ?_
        refine va_get (ci := 1) (v := .ref ta) (C := RX1) (T := TX1) (N := 3) hx hb hts (fun _ h => List.mem_cons_of_mem _ (List.mem_append_left _ (List.mem_append_left _ (List.mem_append_right _ h)))) hown hK.1 hP 0 rfl rfl 1 (by decide) (hts (.fieldLink RX1 9 "CutAtlas$CutTree" "nexts" "[I") (List.mem_of_getElem? (i := 1) rfl)) (fun _ h9 => h9) rfl dB_36_0_51.1.2.2.2 ?_
        refine lv_iload_n hx hb dB_36_0_51.2.1.1.1 rfl (lv_at hl 3 rfl) ?_
        have h_19 : vp_in y_2 12 := in_I (by first | with_reducible assumption | omega) (by omega)
        refine va_iald hx hb hK.1 hP 3 0 rfl rfl (i := y_2) h_19 dB_36_0_51.2.1.1.2 ?_
        refine lv_topi (fun y_20 ey_20 => ?_)
        have ky_20 : y_20.toInt = (c_ta_16 y_2.toNatClampNeg).toInt := by rw [ey_20]
        refine lv_ishr hx hb dB_36_0_51.2.1.2.1 ?_
        refine lv_topi (fun y_21 ey_21 => ?_)
        refine lv_iconst (v := 1) hx hb dB_36_0_51.2.1.2.2 (by decide) ?_
        refine lv_iand hx hb dB_36_0_51.2.2.1.1 ?_
        refine lv_topi (fun y_22 ey_22 => ?_)
        refine lv_iconst (v := 1) hx hb dB_36_0_51.2.2.1.2 (by decide) ?_
        refine lv_icmp_ne (tgt := 147) hx hb dB_36_0_51.2.2.2.1 (by decide) (fun c_23 => ?_) (fun c_23 => ?_)
        · have t_23 : ¬ y_22.toInt = (1 : Int32).toInt := fun h => c_23 (Int32.toInt_inj.mp h)
          rw [hQ]
          exact W.vret hx hb hr (fun t ht hW => ⟨⟨(), rfl, trivial, eMr_4, c_ta_16, f_14, e4_5, e7_11, e8_7, (by first | exact hsw_ | exact trs_no htr v2_16 (by omega) (by omega)), (by first | with_reducible assumption | assumption | exact rng_zero (by omega) (by omega) | omega), (by first | with_reducible assumption | assumption | exact rng_zero (by omega) (by omega) | omega), by rw [ht]; exact hP, hD⟩, hS.F ht⟩) hS.2.2 dB_36_0_53.2.2.2.2
        · have t_23 : y_22.toInt = (1 : Int32).toInt := congrArg Int32.toInt c_23
          refine lv_aload_n hx hb dB_36_0_51.2.2.2.2 rfl (lv_at hl 4 rfl) ?_
          refine va_get (ci := 1) (v := .ref ta) (C := RX1) (T := TX1) (N := 3) hx hb hts (fun _ h => List.mem_cons_of_mem _ (List.mem_append_left _ (List.mem_append_left _ (List.mem_append_right _ h)))) hown hK.1 hP 0 rfl rfl 1 (by decide) (hts (.fieldLink RX1 9 "CutAtlas$CutTree" "nexts" "[I") (List.mem_of_getElem? (i := 1) rfl)) (fun _ h9 => h9) rfl dB_36_0_52.1.1.1.1 ?_
          refine lv_iload_n hx hb dB_36_0_52.1.1.1.2 rfl (lv_at hl 5 rfl) ?_
          refine lv_aload_n hx hb dB_36_0_52.1.1.2.1 rfl (lv_at hl 4 rfl) ?_
          refine va_get (ci := 1) (v := .ref ta) (C := RX1) (T := TX1) (N := 3) hx hb hts (fun _ h => List.mem_cons_of_mem _ (List.mem_append_left _ (List.mem_append_left _ (List.mem_append_right _ h)))) hown hK.1 hP 0 rfl rfl 1 (by decide) (hts (.fieldLink RX1 9 "CutAtlas$CutTree" "nexts" "[I") (List.mem_of_getElem? (i := 1) rfl)) (fun _ h9 => h9) rfl dB_36_0_52.1.1.2.2 ?_
          refine lv_iload_n hx hb dB_36_0_52.1.2.1.1 rfl (lv_at hl 3 rfl) ?_
          refine va_iald hx hb hK.1 hP 3 0 rfl rfl (i := y_2) h_19 dB_36_0_52.1.2.1.2 ?_
          refine lv_topi (fun y_25 ey_25 => ?_)
          have e_ := (ey_25.trans ey_20.symm).symm
          subst e_
          skip
          refine va_iast hx hb hK.1 hP hD hS 3 0 rfl rfl (i := a1) h_1 dB_36_0_52.1.2.2.1 (fun H locs hP hD hS => ?_)
          obtain ⟨f_27, ef_27⟩ : ∃ g : Nat → Int32, g = upd c_ta_16 a1.toNatClampNeg y_20 := ⟨_, rfl⟩
          refine pd_K (D := D) (cl := vwCl) (H := H) (A := A) [ob1_0_ xt xc ta tb, ob0_0_ xc xn xk clo cro c4 c5 c6 c7 c8, ob3_0_ xn vp vn n1 n2 n3 n4 n5, ai_ cy ta 12 f_27, ai_ cy tb 12 f_14, ai_ cy n2 40 fs, ai_ cy n3 40 fe, aq_ cy 6 clo 12 (gf_ rl), ai_ cy (rl 0) 12 (Ml 0), ai_ cy (rl 1) 12 (Ml 1), ai_ cy (rl 2) 12 (Ml 2), ai_ cy (rl 3) 12 (Ml 3), ai_ cy (rl 4) 12 (Ml 4), ai_ cy (rl 5) 12 (Ml 5), ai_ cy (rl 6) 12 (Ml 6), ai_ cy (rl 7) 12 (Ml 7), ai_ cy (rl 8) 12 (Ml 8), ai_ cy (rl 9) 12 (Ml 9), ai_ cy (rl 10) 12 (Ml 10), ai_ cy (rl 11) 12 (Ml 11), aq_ cy 6 cro 12 (gf_ rr), ai_ cy (rr 0) 12 (eMr_4 0), ai_ cy (rr 1) 12 (eMr_4 1), ai_ cy (rr 2) 12 (eMr_4 2), ai_ cy (rr 3) 12 (eMr_4 3), ai_ cy (rr 4) 12 (eMr_4 4), ai_ cy (rr 5) 12 (eMr_4 5), ai_ cy (rr 6) 12 (eMr_4 6), ai_ cy (rr 7) 12 (eMr_4 7), ai_ cy (rr 8) 12 (eMr_4 8), ai_ cy (rr 9) 12 (eMr_4 9), ai_ cy (rr 10) 12 (eMr_4 10), ai_ cy (rr 11) 12 (eMr_4 11), ai_ cy c4 40 e4_5, ai_ cy c5 40 f5, ai_ cy c6 40 f6, ai_ cy c7 12 e7_11, ai_ cy c8 12 e8_7] (by rw [ef_27]; exact hP) (by rw [ef_27]; exact hD) (fun hP hD => ?_)
          refine lv_aload_n hx hb dB_36_0_52.1.2.2.2 rfl (lv_at hl 4 rfl) ?_
          refine va_get (ci := 1) (v := .ref tb) (C := RX1) (T := TX1) (N := 3) hx hb hts (fun _ h => List.mem_cons_of_mem _ (List.mem_append_left _ (List.mem_append_left _ (List.mem_append_right _ h)))) hown hK.1 hP 0 rfl rfl 2 (by decide) (hts (.fieldLink RX1 15 "CutAtlas$CutTree" "numbers" "[I") (List.mem_of_getElem? (i := 3) rfl)) (fun _ h9 => h9) rfl dB_36_0_52.2.1.1.1 ?_
          refine lv_iload_n hx hb dB_36_0_52.2.1.1.2 rfl (lv_at hl 5 rfl) ?_
          refine lv_aload_n hx hb dB_36_0_52.2.1.2.1 rfl (lv_at hl 4 rfl) ?_
          refine va_get (ci := 1) (v := .ref tb) (C := RX1) (T := TX1) (N := 3) hx hb hts (fun _ h => List.mem_cons_of_mem _ (List.mem_append_left _ (List.mem_append_left _ (List.mem_append_right _ h)))) hown hK.1 hP 0 rfl rfl 2 (by decide) (hts (.fieldLink RX1 15 "CutAtlas$CutTree" "numbers" "[I") (List.mem_of_getElem? (i := 3) rfl)) (fun _ h9 => h9) rfl dB_36_0_52.2.1.2.2 ?_
          refine lv_iload_n hx hb dB_36_0_52.2.2.1.1 rfl (lv_at hl 3 rfl) ?_
          refine va_iald hx hb hK.1 hP 4 0 rfl rfl (i := y_2) h_19 dB_36_0_52.2.2.1.2 ?_
          refine lv_topi (fun y_29 ey_29 => ?_)
          have ky_29 : y_29.toInt = (f_14 y_2.toNatClampNeg).toInt := by rw [ey_29]
          refine va_iast hx hb hK.1 hP hD hS 4 0 rfl rfl (i := a1) h_1 dB_36_0_52.2.2.2.1 (fun H locs hP hD hS => ?_)
          obtain ⟨f_31, ef_31⟩ : ∃ g : Nat → Int32, g = upd f_14 a1.toNatClampNeg y_29 := ⟨_, rfl⟩
          refine pd_K (D := D) (cl := vwCl) (H := H) (A := A) [ob1_0_ xt xc ta tb, ob0_0_ xc xn xk clo cro c4 c5 c6 c7 c8, ob3_0_ xn vp vn n1 n2 n3 n4 n5, ai_ cy ta 12 f_27, ai_ cy tb 12 f_31, ai_ cy n2 40 fs, ai_ cy n3 40 fe, aq_ cy 6 clo 12 (gf_ rl), ai_ cy (rl 0) 12 (Ml 0), ai_ cy (rl 1) 12 (Ml 1), ai_ cy (rl 2) 12 (Ml 2), ai_ cy (rl 3) 12 (Ml 3), ai_ cy (rl 4) 12 (Ml 4), ai_ cy (rl 5) 12 (Ml 5), ai_ cy (rl 6) 12 (Ml 6), ai_ cy (rl 7) 12 (Ml 7), ai_ cy (rl 8) 12 (Ml 8), ai_ cy (rl 9) 12 (Ml 9), ai_ cy (rl 10) 12 (Ml 10), ai_ cy (rl 11) 12 (Ml 11), aq_ cy 6 cro 12 (gf_ rr), ai_ cy (rr 0) 12 (eMr_4 0), ai_ cy (rr 1) 12 (eMr_4 1), ai_ cy (rr 2) 12 (eMr_4 2), ai_ cy (rr 3) 12 (eMr_4 3), ai_ cy (rr 4) 12 (eMr_4 4), ai_ cy (rr 5) 12 (eMr_4 5), ai_ cy (rr 6) 12 (eMr_4 6), ai_ cy (rr 7) 12 (eMr_4 7), ai_ cy (rr 8) 12 (eMr_4 8), ai_ cy (rr 9) 12 (eMr_4 9), ai_ cy (rr 10) 12 (eMr_4 10), ai_ cy (rr 11) 12 (eMr_4 11), ai_ cy c4 40 e4_5, ai_ cy c5 40 f5, ai_ cy c6 40 f6, ai_ cy c7 12 e7_11, ai_ cy c8 12 e8_7] (by rw [ef_31]; exact hP) (by rw [ef_31]; exact hD) (fun hP hD => ?_)
          refine lv_aload_n hx hb dB_36_0_52.2.2.2.2 rfl (lv_at hl 4 rfl) ?_
          refine va_get (ci := 1) (v := .ref ta) (C := RX1) (T := TX1) (N := 3) hx hb hts (fun _ h => List.mem_cons_of_mem _ (List.mem_append_left _ (List.mem_append_left _ (List.mem_append_right _ h)))) hown hK.1 hP 0 rfl rfl 1 (by decide) (hts (.fieldLink RX1 9 "CutAtlas$CutTree" "nexts" "[I") (List.mem_of_getElem? (i := 1) rfl)) (fun _ h9 => h9) rfl dB_36_0_53.1.1.1 ?_
          refine lv_iload_n hx hb dB_36_0_53.1.1.2 rfl (lv_at hl 3 rfl) ?_
          refine lv_iload_n hx hb dB_36_0_53.1.2.1 rfl (lv_at hl 5 rfl) ?_
          refine va_iast hx hb hK.1 hP hD hS 3 0 rfl rfl (i := y_2) h_19 dB_36_0_53.1.2.2.1 (fun H locs hP hD hS => ?_)
          obtain ⟨f_33, ef_33⟩ : ∃ g : Nat → Int32, g = upd f_27 y_2.toNatClampNeg a1 := ⟨_, rfl⟩
          refine pd_K (D := D) (cl := vwCl) (H := H) (A := A) [ob1_0_ xt xc ta tb, ob0_0_ xc xn xk clo cro c4 c5 c6 c7 c8, ob3_0_ xn vp vn n1 n2 n3 n4 n5, ai_ cy ta 12 f_33, ai_ cy tb 12 f_31, ai_ cy n2 40 fs, ai_ cy n3 40 fe, aq_ cy 6 clo 12 (gf_ rl), ai_ cy (rl 0) 12 (Ml 0), ai_ cy (rl 1) 12 (Ml 1), ai_ cy (rl 2) 12 (Ml 2), ai_ cy (rl 3) 12 (Ml 3), ai_ cy (rl 4) 12 (Ml 4), ai_ cy (rl 5) 12 (Ml 5), ai_ cy (rl 6) 12 (Ml 6), ai_ cy (rl 7) 12 (Ml 7), ai_ cy (rl 8) 12 (Ml 8), ai_ cy (rl 9) 12 (Ml 9), ai_ cy (rl 10) 12 (Ml 10), ai_ cy (rl 11) 12 (Ml 11), aq_ cy 6 cro 12 (gf_ rr), ai_ cy (rr 0) 12 (eMr_4 0), ai_ cy (rr 1) 12 (eMr_4 1), ai_ cy (rr 2) 12 (eMr_4 2), ai_ cy (rr 3) 12 (eMr_4 3), ai_ cy (rr 4) 12 (eMr_4 4), ai_ cy (rr 5) 12 (eMr_4 5), ai_ cy (rr 6) 12 (eMr_4 6), ai_ cy (rr 7) 12 (eMr_4 7), ai_ cy (rr 8) 12 (eMr_4 8), ai_ cy (rr 9) 12 (eMr_4 9), ai_ cy (rr 10) 12 (eMr_4 10), ai_ cy (rr 11) 12 (eMr_4 11), ai_ cy c4 40 e4_5, ai_ cy c5 40 f5, ai_ cy c6 40 f6, ai_ cy c7 12 e7_11, ai_ cy c8 12 e8_7] (by rw [ef_33]; exact hP) (by rw [ef_33]; exact hD) (fun hP hD => ?_)
          have hsw_ : trs f_33 (a1.toNatClampNeg + 1) := trs_swap htr v2_16 (by omega) (by omega) (by omega) (by omega) ey_20 ef_27 ef_33
          refine lv_aload_n hx hb dB_36_0_53.1.2.2.2 rfl (lv_at hl 4 rfl) ?_
          refine va_get (ci := 1) (v := .ref tb) (C := RX1) (T := TX1) (N := 3) hx hb hts (fun _ h => List.mem_cons_of_mem _ (List.mem_append_left _ (List.mem_append_left _ (List.mem_append_right _ h)))) hown hK.1 hP 0 rfl rfl 2 (by decide) (hts (.fieldLink RX1 15 "CutAtlas$CutTree" "numbers" "[I") (List.mem_of_getElem? (i := 3) rfl)) (fun _ h9 => h9) rfl dB_36_0_53.2.1.1 ?_
          refine lv_iload_n hx hb dB_36_0_53.2.1.2 rfl (lv_at hl 3 rfl) ?_
          refine lv_iload_n hx hb dB_36_0_53.2.2.1 rfl (lv_at hl 2 rfl) ?_
          refine va_iast hx hb hK.1 hP hD hS 4 0 rfl rfl (i := y_2) h_19 dB_36_0_53.2.2.2.1 (fun H locs hP hD hS => ?_)
          obtain ⟨f_35, ef_35⟩ : ∃ g : Nat → Int32, g = upd f_31 y_2.toNatClampNeg r_3 := ⟨_, rfl⟩
          refine pd_K (D := D) (cl := vwCl) (H := H) (A := A) [ob1_0_ xt xc ta tb, ob0_0_ xc xn xk clo cro c4 c5 c6 c7 c8, ob3_0_ xn vp vn n1 n2 n3 n4 n5, ai_ cy ta 12 f_33, ai_ cy tb 12 f_35, ai_ cy n2 40 fs, ai_ cy n3 40 fe, aq_ cy 6 clo 12 (gf_ rl), ai_ cy (rl 0) 12 (Ml 0), ai_ cy (rl 1) 12 (Ml 1), ai_ cy (rl 2) 12 (Ml 2), ai_ cy (rl 3) 12 (Ml 3), ai_ cy (rl 4) 12 (Ml 4), ai_ cy (rl 5) 12 (Ml 5), ai_ cy (rl 6) 12 (Ml 6), ai_ cy (rl 7) 12 (Ml 7), ai_ cy (rl 8) 12 (Ml 8), ai_ cy (rl 9) 12 (Ml 9), ai_ cy (rl 10) 12 (Ml 10), ai_ cy (rl 11) 12 (Ml 11), aq_ cy 6 cro 12 (gf_ rr), ai_ cy (rr 0) 12 (eMr_4 0), ai_ cy (rr 1) 12 (eMr_4 1), ai_ cy (rr 2) 12 (eMr_4 2), ai_ cy (rr 3) 12 (eMr_4 3), ai_ cy (rr 4) 12 (eMr_4 4), ai_ cy (rr 5) 12 (eMr_4 5), ai_ cy (rr 6) 12 (eMr_4 6), ai_ cy (rr 7) 12 (eMr_4 7), ai_ cy (rr 8) 12 (eMr_4 8), ai_ cy (rr 9) 12 (eMr_4 9), ai_ cy (rr 10) 12 (eMr_4 10), ai_ cy (rr 11) 12 (eMr_4 11), ai_ cy c4 40 e4_5, ai_ cy c5 40 f5, ai_ cy c6 40 f6, ai_ cy c7 12 e7_11, ai_ cy c8 12 e8_7] (by rw [ef_35]; exact hP) (by rw [ef_35]; exact hD) (fun hP hD => ?_)
          rw [hQ]
          exact W.vret hx hb hr (fun t ht hW => ⟨⟨(), rfl, trivial, eMr_4, f_33, f_35, e4_5, e7_11, e8_7, (by first | exact hsw_ | exact trs_no htr v2_16 (by omega) (by omega)), (by first | with_reducible assumption | assumption | exact rng_zero (by omega) (by omega) | omega), (by first | with_reducible assumption | assumption | exact rng_zero (by omega) (by omega) | omega), by rw [ht]; exact hP, hD⟩, hS.F ht⟩) hS.2.2 dB_36_0_53.2.2.2.2
    · have t_17 : ¬ vp.toInt ≤ x5_16.toInt := fun h => c_17 (Int32.le_iff_toInt_le.mpr h)
      refine lv_iload hx hb dB_36_0_49.2.2.2.2 (lv_at hl 1 rfl) ?_
      refine lv_iload hx hb dB_36_0_50.1.1.1.1 (lv_at hl 0 rfl) ?_
      refine lv_ishr hx hb dB_36_0_50.1.1.1.2 ?_
      refine lv_topi (fun y_36 ey_36 => ?_)
      refine lv_iconst (v := 1) hx hb dB_36_0_50.1.1.2.1 (by decide) ?_
      refine lv_iand hx hb dB_36_0_50.1.1.2.2 ?_
      refine lv_topi (fun y_37 ey_37 => ?_)
      refine lv_iconst (v := 1) hx hb dB_36_0_50.1.2.1.1 (by decide) ?_
      refine lv_icmp_ne (tgt := 84) hx hb dB_36_0_50.1.2.1.2 (by decide) (fun c_38 => ?_) (fun c_38 => ?_)
      · have t_38 : ¬ y_37.toInt = (1 : Int32).toInt := fun h => c_38 (Int32.toInt_inj.mp h)
        obtain ⟨y_39, ey_39⟩ : ∃ y : Int32, y = x5_16 + 1 := ⟨_, rfl⟩
        have ty_39 : y_39.toInt = x5_16.toInt + (1 : Int32).toInt := by rw [ey_39]; exact addI (by omega) (by omega)
        refine lv_iinc (v := y_39) (lv' := [(5, .int y_39), (4, .int r_10), (3, .int r_3), (2, .int y_2), (0, .ref xt), (1, .int a1)]) hx hb dB_36_0_51.1.1.1.2 hl (k := 0) rfl (by rw [ey_39]; rfl) (by decide) rfl (fun ls hl => ?_)
        refine lv_goto (tgt := 39) hx hb dB_36_0_51.1.1.2.1 (by decide) ?_
        exact ih_16 y_39 c_ta_16 _ _ _ (by omega) (by first | with_reducible assumption | omega | assumption) (by first | with_reducible assumption | omega | assumption) (by first | with_reducible assumption | assumption | exact hng_st (by assumption) (by assumption) (by omega) (by omega) | exact hng_rf) ⟨hP, hD⟩ hS (lv_sub hl [0, 1, 2, 3, 4, 5] rfl)
      · have t_38 : y_37.toInt = (1 : Int32).toInt := congrArg Int32.toInt c_38
        refine lv_aload_n hx hb dB_36_0_50.1.2.2.1 rfl (lv_at hl 4 rfl) ?_
        refine va_get (ci := 1) (v := .ref ta) (C := RX1) (T := TX1) (N := 3) hx hb hts (fun _ h => List.mem_cons_of_mem _ (List.mem_append_left _ (List.mem_append_left _ (List.mem_append_right _ h)))) hown hK.1 hP 0 rfl rfl 1 (by decide) (hts (.fieldLink RX1 9 "CutAtlas$CutTree" "nexts" "[I") (List.mem_of_getElem? (i := 1) rfl)) (fun _ h9 => h9) rfl dB_36_0_50.1.2.2.2 ?_
        refine lv_iload hx hb dB_36_0_50.2.1.1.1 (lv_at hl 0 rfl) ?_
        have h_40 : vp_in x5_16 12 := in_I (by first | with_reducible assumption | omega) (by omega)
        refine va_iald hx hb hK.1 hP 3 0 rfl rfl (i := x5_16) h_40 dB_36_0_50.2.1.1.2 ?_
        refine lv_topi (fun y_41 ey_41 => ?_)
        have ky_41 : y_41.toInt = (c_ta_16 x5_16.toNatClampNeg).toInt := by rw [ey_41]
        refine lv_iload_n hx hb dB_36_0_50.2.1.2.1 rfl (lv_at hl 3 rfl) ?_
        refine lv_icmp_ne (tgt := 84) hx hb dB_36_0_50.2.1.2.2 (by decide) (fun c_42 => ?_) (fun c_42 => ?_)
        · have t_42 : ¬ y_41.toInt = y_2.toInt := fun h => c_42 (Int32.toInt_inj.mp h)
          obtain ⟨y_43, ey_43⟩ : ∃ y : Int32, y = x5_16 + 1 := ⟨_, rfl⟩
          have ty_43 : y_43.toInt = x5_16.toInt + (1 : Int32).toInt := by rw [ey_43]; exact addI (by omega) (by omega)
          refine lv_iinc (v := y_43) (lv' := [(5, .int y_43), (4, .int r_10), (3, .int r_3), (2, .int y_2), (0, .ref xt), (1, .int a1)]) hx hb dB_36_0_51.1.1.1.2 hl (k := 0) rfl (by rw [ey_43]; rfl) (by decide) rfl (fun ls hl => ?_)
          refine lv_goto (tgt := 39) hx hb dB_36_0_51.1.1.2.1 (by decide) ?_
          exact ih_16 y_43 c_ta_16 _ _ _ (by omega) (by first | with_reducible assumption | omega | assumption) (by first | with_reducible assumption | omega | assumption) (by first | with_reducible assumption | assumption | exact hng_st (by assumption) (by assumption) (by omega) (by omega) | exact hng_rf) ⟨hP, hD⟩ hS (lv_sub hl [0, 1, 2, 3, 4, 5] rfl)
        · have t_42 : y_41.toInt = y_2.toInt := congrArg Int32.toInt c_42
          refine lv_aload_n hx hb dB_36_0_50.2.2.1.1 rfl (lv_at hl 4 rfl) ?_
          refine va_get (ci := 1) (v := .ref ta) (C := RX1) (T := TX1) (N := 3) hx hb hts (fun _ h => List.mem_cons_of_mem _ (List.mem_append_left _ (List.mem_append_left _ (List.mem_append_right _ h)))) hown hK.1 hP 0 rfl rfl 1 (by decide) (hts (.fieldLink RX1 9 "CutAtlas$CutTree" "nexts" "[I") (List.mem_of_getElem? (i := 1) rfl)) (fun _ h9 => h9) rfl dB_36_0_50.2.2.1.2 ?_
          refine lv_iload hx hb dB_36_0_50.2.2.2.1 (lv_at hl 0 rfl) ?_
          refine lv_iload_n hx hb dB_36_0_50.2.2.2.2 rfl (lv_at hl 5 rfl) ?_
          refine va_iast hx hb hK.1 hP hD hS 3 0 rfl rfl (i := x5_16) h_40 dB_36_0_51.1.1.1.1 (fun H locs hP hD hS => ?_)
          obtain ⟨f_45, ef_45⟩ : ∃ g : Nat → Int32, g = upd c_ta_16 x5_16.toNatClampNeg a1 := ⟨_, rfl⟩
          refine pd_K (D := D) (cl := vwCl) (H := H) (A := A) [ob1_0_ xt xc ta tb, ob0_0_ xc xn xk clo cro c4 c5 c6 c7 c8, ob3_0_ xn vp vn n1 n2 n3 n4 n5, ai_ cy ta 12 f_45, ai_ cy tb 12 f_14, ai_ cy n2 40 fs, ai_ cy n3 40 fe, aq_ cy 6 clo 12 (gf_ rl), ai_ cy (rl 0) 12 (Ml 0), ai_ cy (rl 1) 12 (Ml 1), ai_ cy (rl 2) 12 (Ml 2), ai_ cy (rl 3) 12 (Ml 3), ai_ cy (rl 4) 12 (Ml 4), ai_ cy (rl 5) 12 (Ml 5), ai_ cy (rl 6) 12 (Ml 6), ai_ cy (rl 7) 12 (Ml 7), ai_ cy (rl 8) 12 (Ml 8), ai_ cy (rl 9) 12 (Ml 9), ai_ cy (rl 10) 12 (Ml 10), ai_ cy (rl 11) 12 (Ml 11), aq_ cy 6 cro 12 (gf_ rr), ai_ cy (rr 0) 12 (eMr_4 0), ai_ cy (rr 1) 12 (eMr_4 1), ai_ cy (rr 2) 12 (eMr_4 2), ai_ cy (rr 3) 12 (eMr_4 3), ai_ cy (rr 4) 12 (eMr_4 4), ai_ cy (rr 5) 12 (eMr_4 5), ai_ cy (rr 6) 12 (eMr_4 6), ai_ cy (rr 7) 12 (eMr_4 7), ai_ cy (rr 8) 12 (eMr_4 8), ai_ cy (rr 9) 12 (eMr_4 9), ai_ cy (rr 10) 12 (eMr_4 10), ai_ cy (rr 11) 12 (eMr_4 11), ai_ cy c4 40 e4_5, ai_ cy c5 40 f5, ai_ cy c6 40 f6, ai_ cy c7 12 e7_11, ai_ cy c8 12 e8_7] (by rw [ef_45]; exact hP) (by rw [ef_45]; exact hD) (fun hP hD => ?_)
          obtain ⟨y_46, ey_46⟩ : ∃ y : Int32, y = x5_16 + 1 := ⟨_, rfl⟩
          have ty_46 : y_46.toInt = x5_16.toInt + (1 : Int32).toInt := by rw [ey_46]; exact addI (by omega) (by omega)
          refine lv_iinc (v := y_46) (lv' := [(5, .int y_46), (4, .int r_10), (3, .int r_3), (2, .int y_2), (0, .ref xt), (1, .int a1)]) hx hb dB_36_0_51.1.1.1.2 hl (k := 0) rfl (by rw [ey_46]; rfl) (by decide) rfl (fun ls hl => ?_)
          refine lv_goto (tgt := 39) hx hb dB_36_0_51.1.1.2.1 (by decide) ?_
          exact ih_16 y_46 f_45 _ _ _ (by omega) (by first | with_reducible assumption | omega | assumption) (by first | with_reducible assumption | omega | assumption) (by first | with_reducible assumption | assumption | exact hng_st (by assumption) (by assumption) (by omega) (by omega) | exact hng_rf) ⟨hP, hD⟩ hS (lv_sub hl [0, 1, 2, 3, 4, 5] rfl)

set_option maxHeartbeats 4000000 in
set_option maxRecDepth 100000 in
theorem c_X1_grow (l : Launch) (D : va_G) (cy : Nat → ClassId) (sz : Nat) (xt : Nat) (ta : Nat) (tb : Nat) (xc : Nat) (xk : Nat) (clo : Nat) (cro : Nat) (c4 : Nat) (c5 : Nat) (c6 : Nat) (c7 : Nat) (c8 : Nat) (xn : Nat) (n1 : Nat) (n2 : Nat) (n3 : Nat) (n4 : Nat) (n5 : Nat) (vp : Int32) (vn : Int32) (fx : Nat → Int32) (fu : Nat → Int32) (fk : Nat → Int32) (fs : Nat → Int32) (fe : Nat → Int32) (fw : Nat → Int32) (rl : Nat → Nat) (Ml : Nat → Nat → Int32) (rr : Nat → Nat) (Mr : Nat → Nat → Int32) (f4 : Nat → Int32) (f5 : Nat → Int32) (f6 : Nat → Int32) (f7 : Nat → Int32) (f8 : Nat → Int32) (k0 : Nat) (k1 : Nat) (k2 : Nat) (k3 : Nat) (k4 : Nat) (hvp : 0 ≤ vp.toInt ∧ vp.toInt ≤ 12) (hvn : 0 ≤ vn.toInt ∧ vn.toInt ≤ 40) (hpr : prng fs fe 40) (r_f7 : rng f7 12 (0) (11)) (r_f8 : rng f8 12 (0) (11)) (r_fk : rng fk 40 (0) (4)) : Met l yX1_grow wsX1_grow ({ frames := 5, cells := 0, slots := 0, locals := 113 }) (va_Pc [.ref xt] (fun U => U.heap.size = sz ∧ va_P D vwCl [ob1_0_ xt xc ta tb, ob0_0_ xc xn xk clo cro c4 c5 c6 c7 c8, ob3_0_ xn vp vn n1 n2 n3 n4 n5, ai_ cy ta 12 fx, ai_ cy tb 12 fu, ai_ cy n1 40 fk, ai_ cy n2 40 fs, ai_ cy n3 40 fe, ai_ cy n4 40 fw, aq_ cy 6 clo 12 (gf_ rl), ai_ cy (rl 0) 12 (Ml 0), ai_ cy (rl 1) 12 (Ml 1), ai_ cy (rl 2) 12 (Ml 2), ai_ cy (rl 3) 12 (Ml 3), ai_ cy (rl 4) 12 (Ml 4), ai_ cy (rl 5) 12 (Ml 5), ai_ cy (rl 6) 12 (Ml 6), ai_ cy (rl 7) 12 (Ml 7), ai_ cy (rl 8) 12 (Ml 8), ai_ cy (rl 9) 12 (Ml 9), ai_ cy (rl 10) 12 (Ml 10), ai_ cy (rl 11) 12 (Ml 11), aq_ cy 6 cro 12 (gf_ rr), ai_ cy (rr 0) 12 (Mr 0), ai_ cy (rr 1) 12 (Mr 1), ai_ cy (rr 2) 12 (Mr 2), ai_ cy (rr 3) 12 (Mr 3), ai_ cy (rr 4) 12 (Mr 4), ai_ cy (rr 5) 12 (Mr 5), ai_ cy (rr 6) 12 (Mr 6), ai_ cy (rr 7) 12 (Mr 7), ai_ cy (rr 8) 12 (Mr 8), ai_ cy (rr 9) 12 (Mr 9), ai_ cy (rr 10) 12 (Mr 10), ai_ cy (rr 11) 12 (Mr 11), ai_ cy c4 40 f4, ai_ cy c5 40 f5, ai_ cy c6 40 f6, ai_ cy c7 12 f7, ai_ cy c8 12 f8, aq_ cy 3 xk 5 (kf_ k0 k1 k2 k3 k4), ob6_0_ k0, ob5_0_ k1, ob9_0_ k2, ob2_0_ k3, ob8_0_ k4] U.heap ∧ kg_ D cy U ∧ va_D (fun _ => True) [ob1_0_ xt xc ta tb, ob0_0_ xc xn xk clo cro c4 c5 c6 c7 c8, ob3_0_ xn vp vn n1 n2 n3 n4 n5, ai_ cy ta 12 fx, ai_ cy tb 12 fu, ai_ cy n1 40 fk, ai_ cy n2 40 fs, ai_ cy n3 40 fe, ai_ cy n4 40 fw, aq_ cy 6 clo 12 (gf_ rl), ai_ cy (rl 0) 12 (Ml 0), ai_ cy (rl 1) 12 (Ml 1), ai_ cy (rl 2) 12 (Ml 2), ai_ cy (rl 3) 12 (Ml 3), ai_ cy (rl 4) 12 (Ml 4), ai_ cy (rl 5) 12 (Ml 5), ai_ cy (rl 6) 12 (Ml 6), ai_ cy (rl 7) 12 (Ml 7), ai_ cy (rl 8) 12 (Ml 8), ai_ cy (rl 9) 12 (Ml 9), ai_ cy (rl 10) 12 (Ml 10), ai_ cy (rl 11) 12 (Ml 11), aq_ cy 6 cro 12 (gf_ rr), ai_ cy (rr 0) 12 (Mr 0), ai_ cy (rr 1) 12 (Mr 1), ai_ cy (rr 2) 12 (Mr 2), ai_ cy (rr 3) 12 (Mr 3), ai_ cy (rr 4) 12 (Mr 4), ai_ cy (rr 5) 12 (Mr 5), ai_ cy (rr 6) 12 (Mr 6), ai_ cy (rr 7) 12 (Mr 7), ai_ cy (rr 8) 12 (Mr 8), ai_ cy (rr 9) 12 (Mr 9), ai_ cy (rr 10) 12 (Mr 10), ai_ cy (rr 11) 12 (Mr 11), ai_ cy c4 40 f4, ai_ cy c5 40 f5, ai_ cy c6 40 f6, ai_ cy c7 12 f7, ai_ cy c8 12 f8, aq_ cy 3 xk 5 (kf_ k0 k1 k2 k3 k4), ob6_0_ k0, ob5_0_ k1, ob9_0_ k2, ob2_0_ k3, ob8_0_ k4])) (va_Qv (fun (_ : Unit) => True) (fun (_ : Unit) (t : State) => ∃ (eMr : Nat → Nat → Int32), ∃ (efx : Nat → Int32), ∃ (efu : Nat → Int32), ∃ (e4 : Nat → Int32), ∃ (e7 : Nat → Int32), ∃ (e8 : Nat → Int32), ∃ (eMl : Nat → Nat → Int32), ∃ (e5 : Nat → Int32), ∃ (e6 : Nat → Int32), (∃ d : Nat → Nat, trd efx d) ∧ (rng e7 12 (0) (11)) ∧ (rng e8 12 (0) (11)) ∧ va_P D vwCl [ob1_0_ xt xc ta tb, ob0_0_ xc xn xk clo cro c4 c5 c6 c7 c8, ob3_0_ xn vp vn n1 n2 n3 n4 n5, ai_ cy ta 12 efx, ai_ cy tb 12 efu, ai_ cy n1 40 fk, ai_ cy n2 40 fs, ai_ cy n3 40 fe, ai_ cy n4 40 fw, aq_ cy 6 clo 12 (gf_ rl), ai_ cy (rl 0) 12 (eMl 0), ai_ cy (rl 1) 12 (eMl 1), ai_ cy (rl 2) 12 (eMl 2), ai_ cy (rl 3) 12 (eMl 3), ai_ cy (rl 4) 12 (eMl 4), ai_ cy (rl 5) 12 (eMl 5), ai_ cy (rl 6) 12 (eMl 6), ai_ cy (rl 7) 12 (eMl 7), ai_ cy (rl 8) 12 (eMl 8), ai_ cy (rl 9) 12 (eMl 9), ai_ cy (rl 10) 12 (eMl 10), ai_ cy (rl 11) 12 (eMl 11), aq_ cy 6 cro 12 (gf_ rr), ai_ cy (rr 0) 12 (eMr 0), ai_ cy (rr 1) 12 (eMr 1), ai_ cy (rr 2) 12 (eMr 2), ai_ cy (rr 3) 12 (eMr 3), ai_ cy (rr 4) 12 (eMr 4), ai_ cy (rr 5) 12 (eMr 5), ai_ cy (rr 6) 12 (eMr 6), ai_ cy (rr 7) 12 (eMr 7), ai_ cy (rr 8) 12 (eMr 8), ai_ cy (rr 9) 12 (eMr 9), ai_ cy (rr 10) 12 (eMr 10), ai_ cy (rr 11) 12 (eMr 11), ai_ cy c4 40 e4, ai_ cy c5 40 e5, ai_ cy c6 40 e6, ai_ cy c7 12 e7, ai_ cy c8 12 e8, aq_ cy 3 xk 5 (kf_ k0 k1 k2 k3 k4), ob6_0_ k0, ob5_0_ k1, ob9_0_ k2, ob2_0_ k3, ob8_0_ k4] t.heap ∧ va_D (va_A [ob1_0_ xt xc ta tb, ob0_0_ xc xn xk clo cro c4 c5 c6 c7 c8, ob3_0_ xn vp vn n1 n2 n3 n4 n5, ai_ cy ta 12 fx, ai_ cy tb 12 fu, ai_ cy n1 40 fk, ai_ cy n2 40 fs, ai_ cy n3 40 fe, ai_ cy n4 40 fw, aq_ cy 6 clo 12 (gf_ rl), ai_ cy (rl 0) 12 (Ml 0), ai_ cy (rl 1) 12 (Ml 1), ai_ cy (rl 2) 12 (Ml 2), ai_ cy (rl 3) 12 (Ml 3), ai_ cy (rl 4) 12 (Ml 4), ai_ cy (rl 5) 12 (Ml 5), ai_ cy (rl 6) 12 (Ml 6), ai_ cy (rl 7) 12 (Ml 7), ai_ cy (rl 8) 12 (Ml 8), ai_ cy (rl 9) 12 (Ml 9), ai_ cy (rl 10) 12 (Ml 10), ai_ cy (rl 11) 12 (Ml 11), aq_ cy 6 cro 12 (gf_ rr), ai_ cy (rr 0) 12 (Mr 0), ai_ cy (rr 1) 12 (Mr 1), ai_ cy (rr 2) 12 (Mr 2), ai_ cy (rr 3) 12 (Mr 3), ai_ cy (rr 4) 12 (Mr 4), ai_ cy (rr 5) 12 (Mr 5), ai_ cy (rr 6) 12 (Mr 6), ai_ cy (rr 7) 12 (Mr 7), ai_ cy (rr 8) 12 (Mr 8), ai_ cy (rr 9) 12 (Mr 9), ai_ cy (rr 10) 12 (Mr 10), ai_ cy (rr 11) 12 (Mr 11), ai_ cy c4 40 f4, ai_ cy c5 40 f5, ai_ cy c6 40 f6, ai_ cy c7 12 f7, ai_ cy c8 12 f8, aq_ cy 3 xk 5 (kf_ k0 k1 k2 k3 k4), ob6_0_ k0, ob5_0_ k1, ob9_0_ k2, ob2_0_ k3, ob8_0_ k4] sz) [ob1_0_ xt xc ta tb, ob0_0_ xc xn xk clo cro c4 c5 c6 c7 c8, ob3_0_ xn vp vn n1 n2 n3 n4 n5, ai_ cy ta 12 efx, ai_ cy tb 12 efu, ai_ cy n1 40 fk, ai_ cy n2 40 fs, ai_ cy n3 40 fe, ai_ cy n4 40 fw, aq_ cy 6 clo 12 (gf_ rl), ai_ cy (rl 0) 12 (eMl 0), ai_ cy (rl 1) 12 (eMl 1), ai_ cy (rl 2) 12 (eMl 2), ai_ cy (rl 3) 12 (eMl 3), ai_ cy (rl 4) 12 (eMl 4), ai_ cy (rl 5) 12 (eMl 5), ai_ cy (rl 6) 12 (eMl 6), ai_ cy (rl 7) 12 (eMl 7), ai_ cy (rl 8) 12 (eMl 8), ai_ cy (rl 9) 12 (eMl 9), ai_ cy (rl 10) 12 (eMl 10), ai_ cy (rl 11) 12 (eMl 11), aq_ cy 6 cro 12 (gf_ rr), ai_ cy (rr 0) 12 (eMr 0), ai_ cy (rr 1) 12 (eMr 1), ai_ cy (rr 2) 12 (eMr 2), ai_ cy (rr 3) 12 (eMr 3), ai_ cy (rr 4) 12 (eMr 4), ai_ cy (rr 5) 12 (eMr 5), ai_ cy (rr 6) 12 (eMr 6), ai_ cy (rr 7) 12 (eMr 7), ai_ cy (rr 8) 12 (eMr 8), ai_ cy (rr 9) 12 (eMr 9), ai_ cy (rr 10) 12 (eMr 10), ai_ cy (rr 11) 12 (eMr 11), ai_ cy c4 40 e4, ai_ cy c5 40 e5, ai_ cy c6 40 e6, ai_ cy c7 12 e7, ai_ cy c8 12 e8, aq_ cy 3 xk 5 (kf_ k0 k1 k2 k3 k4), ob6_0_ k0, ob5_0_ k1, ob9_0_ k2, ob2_0_ k3, ob8_0_ k4]) (va_A [ob1_0_ xt xc ta tb, ob0_0_ xc xn xk clo cro c4 c5 c6 c7 c8, ob3_0_ xn vp vn n1 n2 n3 n4 n5, ai_ cy ta 12 fx, ai_ cy tb 12 fu, ai_ cy n1 40 fk, ai_ cy n2 40 fs, ai_ cy n3 40 fe, ai_ cy n4 40 fw, aq_ cy 6 clo 12 (gf_ rl), ai_ cy (rl 0) 12 (Ml 0), ai_ cy (rl 1) 12 (Ml 1), ai_ cy (rl 2) 12 (Ml 2), ai_ cy (rl 3) 12 (Ml 3), ai_ cy (rl 4) 12 (Ml 4), ai_ cy (rl 5) 12 (Ml 5), ai_ cy (rl 6) 12 (Ml 6), ai_ cy (rl 7) 12 (Ml 7), ai_ cy (rl 8) 12 (Ml 8), ai_ cy (rl 9) 12 (Ml 9), ai_ cy (rl 10) 12 (Ml 10), ai_ cy (rl 11) 12 (Ml 11), aq_ cy 6 cro 12 (gf_ rr), ai_ cy (rr 0) 12 (Mr 0), ai_ cy (rr 1) 12 (Mr 1), ai_ cy (rr 2) 12 (Mr 2), ai_ cy (rr 3) 12 (Mr 3), ai_ cy (rr 4) 12 (Mr 4), ai_ cy (rr 5) 12 (Mr 5), ai_ cy (rr 6) 12 (Mr 6), ai_ cy (rr 7) 12 (Mr 7), ai_ cy (rr 8) 12 (Mr 8), ai_ cy (rr 9) 12 (Mr 9), ai_ cy (rr 10) 12 (Mr 10), ai_ cy (rr 11) 12 (Mr 11), ai_ cy c4 40 f4, ai_ cy c5 40 f5, ai_ cy c6 40 f6, ai_ cy c7 12 f7, ai_ cy c8 12 f8, aq_ cy 3 xk 5 (kf_ k0 k1 k2 k3 k4), ob6_0_ k0, ob5_0_ k1, ob9_0_ k2, ob2_0_ k3, ob8_0_ k4] sz)) 0 0 (va_A [ob1_0_ xt xc ta tb, ob0_0_ xc xn xk clo cro c4 c5 c6 c7 c8, ob3_0_ xn vp vn n1 n2 n3 n4 n5, ai_ cy ta 12 fx, ai_ cy tb 12 fu, ai_ cy n1 40 fk, ai_ cy n2 40 fs, ai_ cy n3 40 fe, ai_ cy n4 40 fw, aq_ cy 6 clo 12 (gf_ rl), ai_ cy (rl 0) 12 (Ml 0), ai_ cy (rl 1) 12 (Ml 1), ai_ cy (rl 2) 12 (Ml 2), ai_ cy (rl 3) 12 (Ml 3), ai_ cy (rl 4) 12 (Ml 4), ai_ cy (rl 5) 12 (Ml 5), ai_ cy (rl 6) 12 (Ml 6), ai_ cy (rl 7) 12 (Ml 7), ai_ cy (rl 8) 12 (Ml 8), ai_ cy (rl 9) 12 (Ml 9), ai_ cy (rl 10) 12 (Ml 10), ai_ cy (rl 11) 12 (Ml 11), aq_ cy 6 cro 12 (gf_ rr), ai_ cy (rr 0) 12 (Mr 0), ai_ cy (rr 1) 12 (Mr 1), ai_ cy (rr 2) 12 (Mr 2), ai_ cy (rr 3) 12 (Mr 3), ai_ cy (rr 4) 12 (Mr 4), ai_ cy (rr 5) 12 (Mr 5), ai_ cy (rr 6) 12 (Mr 6), ai_ cy (rr 7) 12 (Mr 7), ai_ cy (rr 8) 12 (Mr 8), ai_ cy (rr 9) 12 (Mr 9), ai_ cy (rr 10) 12 (Mr 10), ai_ cy (rr 11) 12 (Mr 11), ai_ cy c4 40 f4, ai_ cy c5 40 f5, ai_ cy c6 40 f6, ai_ cy c7 12 f7, ai_ cy c8 12 f8, aq_ cy 3 xk 5 (kf_ k0 k1 k2 k3 k4), ob6_0_ k0, ob5_0_ k1, ob9_0_ k2, ob2_0_ k3, ob8_0_ k4] sz) := by
  refine ofQ (cc := cX1_grow) (maxL := 2) (ret := none) (by decide) rfl ?_
  intro p e s m args below meth c s₁ Q hQ B hml hv
  obtain ⟨rfl, hsz, hP, hK, hD0⟩ := hv
  have hG := hK.2
  have hK := hK.1
  have hx := B.exec
  have hb := B.bytes
  have hr := B.returns
  have hts := atoms_spec (ws := wsX1_grow) B.pre
  have hown : s.vm.findClass RX1 = some m.cls := by have h_ := findClass_of_methodNamed B.named; exact h_
  have hlocks := B.notSynchronized
  subst hsz
  have hD := hD0.self (sz := s.heap.size)
  generalize hAe : va_A [ob1_0_ xt xc ta tb, ob0_0_ xc xn xk clo cro c4 c5 c6 c7 c8, ob3_0_ xn vp vn n1 n2 n3 n4 n5, ai_ cy ta 12 fx, ai_ cy tb 12 fu, ai_ cy n1 40 fk, ai_ cy n2 40 fs, ai_ cy n3 40 fe, ai_ cy n4 40 fw, aq_ cy 6 clo 12 (gf_ rl), ai_ cy (rl 0) 12 (Ml 0), ai_ cy (rl 1) 12 (Ml 1), ai_ cy (rl 2) 12 (Ml 2), ai_ cy (rl 3) 12 (Ml 3), ai_ cy (rl 4) 12 (Ml 4), ai_ cy (rl 5) 12 (Ml 5), ai_ cy (rl 6) 12 (Ml 6), ai_ cy (rl 7) 12 (Ml 7), ai_ cy (rl 8) 12 (Ml 8), ai_ cy (rl 9) 12 (Ml 9), ai_ cy (rl 10) 12 (Ml 10), ai_ cy (rl 11) 12 (Ml 11), aq_ cy 6 cro 12 (gf_ rr), ai_ cy (rr 0) 12 (Mr 0), ai_ cy (rr 1) 12 (Mr 1), ai_ cy (rr 2) 12 (Mr 2), ai_ cy (rr 3) 12 (Mr 3), ai_ cy (rr 4) 12 (Mr 4), ai_ cy (rr 5) 12 (Mr 5), ai_ cy (rr 6) 12 (Mr 6), ai_ cy (rr 7) 12 (Mr 7), ai_ cy (rr 8) 12 (Mr 8), ai_ cy (rr 9) 12 (Mr 9), ai_ cy (rr 10) 12 (Mr 10), ai_ cy (rr 11) 12 (Mr 11), ai_ cy c4 40 f4, ai_ cy c5 40 f5, ai_ cy c6 40 f6, ai_ cy c7 12 f7, ai_ cy c8 12 f8, aq_ cy 3 xk 5 (kf_ k0 k1 k2 k3 k4), ob6_0_ k0, ob5_0_ k1, ob9_0_ k2, ob2_0_ k3, ob8_0_ k4] s.heap.size = A at hD hQ
  have hA : ∀ q : Nat, s.heap.size ≤ q → A q := fun q h => by rw [← hAe]; exact Or.inr h
  have hS : va_S A s.heap s.heap [] := va_S.rf
  have hl := lv_entry ([.ref xt]) (n := 2) (Nat.le_of_ble_eq_true rfl)
  rw [lg_entry_eq]
  generalize (lg_sl ([.ref xt]) ++ List.replicate (2 - (lg_sl ([.ref xt])).length) Slot.unset).toArray = ls at hl ⊢
  have hl : lv_has ls 2 [(0, .ref xt)] := hl
  have zm9 : ((-9) : Int32).toInt = -9 := by decide
  have z0 : (0 : Int32).toInt = 0 := by decide
  have z1 : (1 : Int32).toInt = 1 := by decide
  refine lv_aload_n hx hb dB_36_0_46.1.1.1.1 rfl (lv_at hl 0 rfl) ?_
  refine va_get (ci := 1) (v := .ref xc) (C := RX1) (T := TX1) (N := 3) hx hb hts (fun _ h => List.mem_cons_of_mem _ (List.mem_append_left _ (List.mem_append_left _ (List.mem_append_right _ h)))) hown hK.1 hP 0 rfl rfl 0 (by decide) (hts (.fieldLink RX1 18 "CutAtlas$CutTree" "current" "LCutAtlas$Current;") (List.mem_of_getElem? (i := 1) rfl)) (fun _ h9 => h9) rfl dB_36_0_46.1.1.1.2 ?_
  refine lv_bipush (v := (-9)) hx hb dB_36_0_46.1.1.2.1 (by decide) ?_
  refine ct_S hP hD hS hA [ob0_0_ xc xn xk clo cro c4 c5 c6 c7 c8, ob3_0_ xn vp vn n1 n2 n3 n4 n5, ai_ cy n1 40 fk, ai_ cy n2 40 fs, ai_ cy n3 40 fe, ai_ cy n4 40 fw, aq_ cy 6 clo 12 (gf_ rl), ai_ cy (rl 0) 12 (Ml 0), ai_ cy (rl 1) 12 (Ml 1), ai_ cy (rl 2) 12 (Ml 2), ai_ cy (rl 3) 12 (Ml 3), ai_ cy (rl 4) 12 (Ml 4), ai_ cy (rl 5) 12 (Ml 5), ai_ cy (rl 6) 12 (Ml 6), ai_ cy (rl 7) 12 (Ml 7), ai_ cy (rl 8) 12 (Ml 8), ai_ cy (rl 9) 12 (Ml 9), ai_ cy (rl 10) 12 (Ml 10), ai_ cy (rl 11) 12 (Ml 11), ai_ cy c5 40 f5, ai_ cy c6 40 f6, aq_ cy 3 xk 5 (kf_ k0 k1 k2 k3 k4), ob6_0_ k0, ob5_0_ k1, ob9_0_ k2, ob2_0_ k3, ob8_0_ k4] [1, 2, 5, 6, 7, 8, 9, 10, 11, 12, 13, 14, 15, 16, 17, 18, 19, 20, 21, 36, 37, 40, 41, 42, 43, 44, 45] (by decide +kernel) rfl (fun hPc hDw hFc hC_ => ?_)
  refine va_callv (va_runV (As := [.int (-9)]) (rest := []) ⟨hx, hb, hml, hown, hts⟩ (c_X0_load l D cy s.heap.size xc xk clo cro c4 c5 c6 c7 c8 xn n1 n2 n3 n4 n5 vp vn fk fs fe fw rl Ml f5 f6 k0 k1 k2 k3 k4 ((-9) : Int32) (by first | with_reducible assumption | omega | assumption) (by first | with_reducible assumption | omega | assumption) (by first | with_reducible assumption | assumption | omega) (by first | with_reducible assumption | assumption | omega)) (cwV 1 hts gX1_grow_X0_load rfl rfl rfl ⟨rfl, hd_X0_load⟩ ⟨Nat.le_of_ble_eq_true rfl, Nat.le_of_ble_eq_true rfl⟩) ⟨bl_g, va_recvX hK.1 hP (ci := 0) (q0 := 1) rfl rfl, fun U hU hW => ⟨rfl, by rw [hU], by rw [hU]; exact hPc, ⟨kk_mv hW hK, arrOfT_moved hW.alike hG⟩, hDw⟩⟩ rfl rfl hl.1 rfl (lv_room (Nat.le_of_ble_eq_true rfl)) dB_36_0_46.1.1.2.2 ⟨Nat.le_of_ble_eq_true rfl, Nat.le_of_ble_eq_true rfl⟩) hS (fun q _ h => hFc q h) hFc (fun u t H locs ht hvm hw hB hz1 hk1 hS => ?_)
  obtain ⟨eMl_2, e5_3, e6_4, hP1, hD1⟩ := hB
  rw [ht] at hP1
  obtain ⟨hP, hD⟩ := va_join (wr := [ob1_0_ xt xc ta tb, ai_ cy ta 12 fx, ai_ cy tb 12 fu, aq_ cy 6 cro 12 (gf_ rr), ai_ cy (rr 0) 12 (Mr 0), ai_ cy (rr 1) 12 (Mr 1), ai_ cy (rr 2) 12 (Mr 2), ai_ cy (rr 3) 12 (Mr 3), ai_ cy (rr 4) 12 (Mr 4), ai_ cy (rr 5) 12 (Mr 5), ai_ cy (rr 6) 12 (Mr 6), ai_ cy (rr 7) 12 (Mr 7), ai_ cy (rr 8) 12 (Mr 8), ai_ cy (rr 9) 12 (Mr 9), ai_ cy (rr 10) 12 (Mr 10), ai_ cy (rr 11) 12 (Mr 11), ai_ cy c4 40 f4, ai_ cy c7 12 f7, ai_ cy c8 12 f8]) (w1 := [ob0_0_ xc xn xk clo cro c4 c5 c6 c7 c8, ob3_0_ xn vp vn n1 n2 n3 n4 n5, ai_ cy n1 40 fk, ai_ cy n2 40 fs, ai_ cy n3 40 fe, ai_ cy n4 40 fw, aq_ cy 6 clo 12 (gf_ rl), ai_ cy (rl 0) 12 (eMl_2 0), ai_ cy (rl 1) 12 (eMl_2 1), ai_ cy (rl 2) 12 (eMl_2 2), ai_ cy (rl 3) 12 (eMl_2 3), ai_ cy (rl 4) 12 (eMl_2 4), ai_ cy (rl 5) 12 (eMl_2 5), ai_ cy (rl 6) 12 (eMl_2 6), ai_ cy (rl 7) 12 (eMl_2 7), ai_ cy (rl 8) 12 (eMl_2 8), ai_ cy (rl 9) 12 (eMl_2 9), ai_ cy (rl 10) 12 (eMl_2 10), ai_ cy (rl 11) 12 (eMl_2 11), ai_ cy c5 40 e5_3, ai_ cy c6 40 e6_4, aq_ cy 3 xk 5 (kf_ k0 k1 k2 k3 k4), ob6_0_ k0, ob5_0_ k1, ob9_0_ k2, ob2_0_ k3, ob8_0_ k4]) hP hD [1, 2, 5, 6, 7, 8, 9, 10, 11, 12, 13, 14, 15, 16, 17, 18, 19, 20, 21, 36, 37, 40, 41, 42, 43, 44, 45] [0, 3, 4, 22, 23, 24, 25, 26, 27, 28, 29, 30, 31, 32, 33, 34, 35, 38, 39] hC_ rfl (by decide +kernel) (by decide +kernel) hk1 hFc hP1 hD1
  refine pd_S hP hD [ob1_0_ xt xc ta tb, ob0_0_ xc xn xk clo cro c4 c5 c6 c7 c8, ob3_0_ xn vp vn n1 n2 n3 n4 n5, ai_ cy ta 12 fx, ai_ cy tb 12 fu, ai_ cy n1 40 fk, ai_ cy n2 40 fs, ai_ cy n3 40 fe, ai_ cy n4 40 fw, aq_ cy 6 clo 12 (gf_ rl), ai_ cy (rl 0) 12 (eMl_2 0), ai_ cy (rl 1) 12 (eMl_2 1), ai_ cy (rl 2) 12 (eMl_2 2), ai_ cy (rl 3) 12 (eMl_2 3), ai_ cy (rl 4) 12 (eMl_2 4), ai_ cy (rl 5) 12 (eMl_2 5), ai_ cy (rl 6) 12 (eMl_2 6), ai_ cy (rl 7) 12 (eMl_2 7), ai_ cy (rl 8) 12 (eMl_2 8), ai_ cy (rl 9) 12 (eMl_2 9), ai_ cy (rl 10) 12 (eMl_2 10), ai_ cy (rl 11) 12 (eMl_2 11), aq_ cy 6 cro 12 (gf_ rr), ai_ cy (rr 0) 12 (Mr 0), ai_ cy (rr 1) 12 (Mr 1), ai_ cy (rr 2) 12 (Mr 2), ai_ cy (rr 3) 12 (Mr 3), ai_ cy (rr 4) 12 (Mr 4), ai_ cy (rr 5) 12 (Mr 5), ai_ cy (rr 6) 12 (Mr 6), ai_ cy (rr 7) 12 (Mr 7), ai_ cy (rr 8) 12 (Mr 8), ai_ cy (rr 9) 12 (Mr 9), ai_ cy (rr 10) 12 (Mr 10), ai_ cy (rr 11) 12 (Mr 11), ai_ cy c4 40 f4, ai_ cy c5 40 e5_3, ai_ cy c6 40 e6_4, ai_ cy c7 12 f7, ai_ cy c8 12 f8, aq_ cy 3 xk 5 (kf_ k0 k1 k2 k3 k4), ob6_0_ k0, ob5_0_ k1, ob9_0_ k2, ob2_0_ k3, ob8_0_ k4] [0, 19, 20, 1, 2, 21, 22, 23, 24, 25, 26, 27, 28, 29, 30, 31, 32, 33, 34, 35, 36, 37, 3, 4, 5, 6, 7, 8, 9, 10, 11, 12, 13, 14, 15, 16, 38, 39, 17, 18, 40, 41, 42, 43, 44, 45] (by decide +kernel) rfl (fun hP hD => ?_)
  refine lv_aload_n hx hb dB_36_0_46.1.2.1.1 rfl (lv_at hl 0 rfl) ?_
  refine va_get (ci := 1) (v := .ref ta) (C := RX1) (T := TX1) (N := 3) hx hb hts (fun _ h => List.mem_cons_of_mem _ (List.mem_append_left _ (List.mem_append_left _ (List.mem_append_right _ h)))) hown hK.1 hP 0 rfl rfl 1 (by decide) (hts (.fieldLink RX1 9 "CutAtlas$CutTree" "nexts" "[I") (List.mem_of_getElem? (i := 2) rfl)) (fun _ h9 => h9) rfl dB_36_0_46.1.2.1.2 ?_
  refine lv_iconst (v := 0) hx hb dB_36_0_46.1.2.2.1 (by decide) ?_
  refine ct_S hP hD hS hA [ai_ cy ta 12 fx] [3] (by decide) rfl (fun hPc hDw hFc hC_ => ?_)
  refine va_callv (va_runS (As := [.ref ta, .int 0]) (rest := []) ⟨hx, hb, hml, hown, hts⟩ (c_J7_fill_53178 l D cy H.size ta 12 (0 : Int32) fx (by first | with_reducible assumption | assumption | omega)) (va_cwS 2 hts gX1_grow_J7_fill_53178 rfl rfl rfl hd_J7_fill_53178 ⟨Nat.le_of_ble_eq_true rfl, Nat.le_of_ble_eq_true rfl⟩) ⟨bl_, fun U hU hW => ⟨rfl, by rw [hU], by rw [hU]; exact hPc, kk_mv hW hK, hDw⟩⟩ rfl rfl hl.1 rfl (lv_room (Nat.le_of_ble_eq_true rfl)) dB_36_0_46.1.2.2.2 ⟨Nat.le_of_ble_eq_true rfl, Nat.le_of_ble_eq_true rfl⟩) hS (fun q _ h => hFc q h) hFc (fun u t H locs ht hvm hw hB hz1 hk1 hS => ?_)
  obtain ⟨e1_6, g_7, hP1, hD1⟩ := hB
  rw [ht] at hP1
  obtain ⟨hP, hD⟩ := va_join (wr := [ob1_0_ xt xc ta tb, ob0_0_ xc xn xk clo cro c4 c5 c6 c7 c8, ob3_0_ xn vp vn n1 n2 n3 n4 n5, ai_ cy tb 12 fu, ai_ cy n1 40 fk, ai_ cy n2 40 fs, ai_ cy n3 40 fe, ai_ cy n4 40 fw, aq_ cy 6 clo 12 (gf_ rl), ai_ cy (rl 0) 12 (eMl_2 0), ai_ cy (rl 1) 12 (eMl_2 1), ai_ cy (rl 2) 12 (eMl_2 2), ai_ cy (rl 3) 12 (eMl_2 3), ai_ cy (rl 4) 12 (eMl_2 4), ai_ cy (rl 5) 12 (eMl_2 5), ai_ cy (rl 6) 12 (eMl_2 6), ai_ cy (rl 7) 12 (eMl_2 7), ai_ cy (rl 8) 12 (eMl_2 8), ai_ cy (rl 9) 12 (eMl_2 9), ai_ cy (rl 10) 12 (eMl_2 10), ai_ cy (rl 11) 12 (eMl_2 11), aq_ cy 6 cro 12 (gf_ rr), ai_ cy (rr 0) 12 (Mr 0), ai_ cy (rr 1) 12 (Mr 1), ai_ cy (rr 2) 12 (Mr 2), ai_ cy (rr 3) 12 (Mr 3), ai_ cy (rr 4) 12 (Mr 4), ai_ cy (rr 5) 12 (Mr 5), ai_ cy (rr 6) 12 (Mr 6), ai_ cy (rr 7) 12 (Mr 7), ai_ cy (rr 8) 12 (Mr 8), ai_ cy (rr 9) 12 (Mr 9), ai_ cy (rr 10) 12 (Mr 10), ai_ cy (rr 11) 12 (Mr 11), ai_ cy c4 40 f4, ai_ cy c5 40 e5_3, ai_ cy c6 40 e6_4, ai_ cy c7 12 f7, ai_ cy c8 12 f8, aq_ cy 3 xk 5 (kf_ k0 k1 k2 k3 k4), ob6_0_ k0, ob5_0_ k1, ob9_0_ k2, ob2_0_ k3, ob8_0_ k4]) (w1 := [ai_ cy ta 12 e1_6]) hP hD [3] [0, 1, 2, 4, 5, 6, 7, 8, 9, 10, 11, 12, 13, 14, 15, 16, 17, 18, 19, 20, 21, 22, 23, 24, 25, 26, 27, 28, 29, 30, 31, 32, 33, 34, 35, 36, 37, 38, 39, 40, 41, 42, 43, 44, 45] hC_ rfl (by decide +kernel) (by decide +kernel) hk1 hFc hP1 hD1
  refine pd_S hP hD [ob1_0_ xt xc ta tb, ob0_0_ xc xn xk clo cro c4 c5 c6 c7 c8, ob3_0_ xn vp vn n1 n2 n3 n4 n5, ai_ cy ta 12 e1_6, ai_ cy tb 12 fu, ai_ cy n1 40 fk, ai_ cy n2 40 fs, ai_ cy n3 40 fe, ai_ cy n4 40 fw, aq_ cy 6 clo 12 (gf_ rl), ai_ cy (rl 0) 12 (eMl_2 0), ai_ cy (rl 1) 12 (eMl_2 1), ai_ cy (rl 2) 12 (eMl_2 2), ai_ cy (rl 3) 12 (eMl_2 3), ai_ cy (rl 4) 12 (eMl_2 4), ai_ cy (rl 5) 12 (eMl_2 5), ai_ cy (rl 6) 12 (eMl_2 6), ai_ cy (rl 7) 12 (eMl_2 7), ai_ cy (rl 8) 12 (eMl_2 8), ai_ cy (rl 9) 12 (eMl_2 9), ai_ cy (rl 10) 12 (eMl_2 10), ai_ cy (rl 11) 12 (eMl_2 11), aq_ cy 6 cro 12 (gf_ rr), ai_ cy (rr 0) 12 (Mr 0), ai_ cy (rr 1) 12 (Mr 1), ai_ cy (rr 2) 12 (Mr 2), ai_ cy (rr 3) 12 (Mr 3), ai_ cy (rr 4) 12 (Mr 4), ai_ cy (rr 5) 12 (Mr 5), ai_ cy (rr 6) 12 (Mr 6), ai_ cy (rr 7) 12 (Mr 7), ai_ cy (rr 8) 12 (Mr 8), ai_ cy (rr 9) 12 (Mr 9), ai_ cy (rr 10) 12 (Mr 10), ai_ cy (rr 11) 12 (Mr 11), ai_ cy c4 40 f4, ai_ cy c5 40 e5_3, ai_ cy c6 40 e6_4, ai_ cy c7 12 f7, ai_ cy c8 12 f8, aq_ cy 3 xk 5 (kf_ k0 k1 k2 k3 k4), ob6_0_ k0, ob5_0_ k1, ob9_0_ k2, ob2_0_ k3, ob8_0_ k4] [0, 1, 2, 45, 3, 4, 5, 6, 7, 8, 9, 10, 11, 12, 13, 14, 15, 16, 17, 18, 19, 20, 21, 22, 23, 24, 25, 26, 27, 28, 29, 30, 31, 32, 33, 34, 35, 36, 37, 38, 39, 40, 41, 42, 43, 44] (by decide +kernel) rfl (fun hP hD => ?_)
  refine lv_aload_n hx hb dB_36_0_46.2.1.1.1 rfl (lv_at hl 0 rfl) ?_
  refine va_get (ci := 1) (v := .ref ta) (C := RX1) (T := TX1) (N := 3) hx hb hts (fun _ h => List.mem_cons_of_mem _ (List.mem_append_left _ (List.mem_append_left _ (List.mem_append_right _ h)))) hown hK.1 hP 0 rfl rfl 1 (by decide) (hts (.fieldLink RX1 9 "CutAtlas$CutTree" "nexts" "[I") (List.mem_of_getElem? (i := 2) rfl)) (fun _ h9 => h9) rfl dB_36_0_46.2.1.1.2 ?_
  refine lv_iconst (v := 0) hx hb dB_36_0_46.2.1.2.1 (by decide) ?_
  refine lv_bipush (v := (-9)) hx hb dB_36_0_46.2.1.2.2 (by decide) ?_
  have h_8 : vp_in (0 : Int32) 12 := by unfold vp_in; decide
  refine va_iast hx hb hK.1 hP hD hS 3 0 rfl rfl (i := 0) h_8 dB_36_0_46.2.2.1.1 (fun H locs hP hD hS => ?_)
  obtain ⟨f_9, ef_9⟩ : ∃ g : Nat → Int32, g = upd e1_6 (0 : Int32).toNatClampNeg ((-9) : Int32) := ⟨_, rfl⟩
  refine pd_K (D := D) (cl := vwCl) (H := H) (A := A) [ob1_0_ xt xc ta tb, ob0_0_ xc xn xk clo cro c4 c5 c6 c7 c8, ob3_0_ xn vp vn n1 n2 n3 n4 n5, ai_ cy ta 12 f_9, ai_ cy tb 12 fu, ai_ cy n1 40 fk, ai_ cy n2 40 fs, ai_ cy n3 40 fe, ai_ cy n4 40 fw, aq_ cy 6 clo 12 (gf_ rl), ai_ cy (rl 0) 12 (eMl_2 0), ai_ cy (rl 1) 12 (eMl_2 1), ai_ cy (rl 2) 12 (eMl_2 2), ai_ cy (rl 3) 12 (eMl_2 3), ai_ cy (rl 4) 12 (eMl_2 4), ai_ cy (rl 5) 12 (eMl_2 5), ai_ cy (rl 6) 12 (eMl_2 6), ai_ cy (rl 7) 12 (eMl_2 7), ai_ cy (rl 8) 12 (eMl_2 8), ai_ cy (rl 9) 12 (eMl_2 9), ai_ cy (rl 10) 12 (eMl_2 10), ai_ cy (rl 11) 12 (eMl_2 11), aq_ cy 6 cro 12 (gf_ rr), ai_ cy (rr 0) 12 (Mr 0), ai_ cy (rr 1) 12 (Mr 1), ai_ cy (rr 2) 12 (Mr 2), ai_ cy (rr 3) 12 (Mr 3), ai_ cy (rr 4) 12 (Mr 4), ai_ cy (rr 5) 12 (Mr 5), ai_ cy (rr 6) 12 (Mr 6), ai_ cy (rr 7) 12 (Mr 7), ai_ cy (rr 8) 12 (Mr 8), ai_ cy (rr 9) 12 (Mr 9), ai_ cy (rr 10) 12 (Mr 10), ai_ cy (rr 11) 12 (Mr 11), ai_ cy c4 40 f4, ai_ cy c5 40 e5_3, ai_ cy c6 40 e6_4, ai_ cy c7 12 f7, ai_ cy c8 12 f8, aq_ cy 3 xk 5 (kf_ k0 k1 k2 k3 k4), ob6_0_ k0, ob5_0_ k1, ob9_0_ k2, ob2_0_ k3, ob8_0_ k4] (by rw [ef_9]; exact hP) (by rw [ef_9]; exact hD) (fun hP hD => ?_)
  have h1_ : trs f_9 (1 : Int32).toNatClampNeg := trs_one g_7 ef_9
  refine lv_aload_n hx hb dB_36_0_46.2.2.1.2 rfl (lv_at hl 0 rfl) ?_
  refine va_get (ci := 1) (v := .ref tb) (C := RX1) (T := TX1) (N := 3) hx hb hts (fun _ h => List.mem_cons_of_mem _ (List.mem_append_left _ (List.mem_append_left _ (List.mem_append_right _ h)))) hown hK.1 hP 0 rfl rfl 2 (by decide) (hts (.fieldLink RX1 15 "CutAtlas$CutTree" "numbers" "[I") (List.mem_of_getElem? (i := 3) rfl)) (fun _ h9 => h9) rfl dB_36_0_46.2.2.2.1 ?_
  refine lv_iconst (v := 0) hx hb dB_36_0_46.2.2.2.2 (by decide) ?_
  refine lv_bipush (v := (-9)) hx hb dB_36_0_47.1.1.1.1 (by decide) ?_
  refine va_iast hx hb hK.1 hP hD hS 4 0 rfl rfl (i := 0) h_8 dB_36_0_47.1.1.1.2 (fun H locs hP hD hS => ?_)
  obtain ⟨f_11, ef_11⟩ : ∃ g : Nat → Int32, g = upd fu (0 : Int32).toNatClampNeg ((-9) : Int32) := ⟨_, rfl⟩
  refine pd_K (D := D) (cl := vwCl) (H := H) (A := A) [ob1_0_ xt xc ta tb, ob0_0_ xc xn xk clo cro c4 c5 c6 c7 c8, ob3_0_ xn vp vn n1 n2 n3 n4 n5, ai_ cy ta 12 f_9, ai_ cy tb 12 f_11, ai_ cy n1 40 fk, ai_ cy n2 40 fs, ai_ cy n3 40 fe, ai_ cy n4 40 fw, aq_ cy 6 clo 12 (gf_ rl), ai_ cy (rl 0) 12 (eMl_2 0), ai_ cy (rl 1) 12 (eMl_2 1), ai_ cy (rl 2) 12 (eMl_2 2), ai_ cy (rl 3) 12 (eMl_2 3), ai_ cy (rl 4) 12 (eMl_2 4), ai_ cy (rl 5) 12 (eMl_2 5), ai_ cy (rl 6) 12 (eMl_2 6), ai_ cy (rl 7) 12 (eMl_2 7), ai_ cy (rl 8) 12 (eMl_2 8), ai_ cy (rl 9) 12 (eMl_2 9), ai_ cy (rl 10) 12 (eMl_2 10), ai_ cy (rl 11) 12 (eMl_2 11), aq_ cy 6 cro 12 (gf_ rr), ai_ cy (rr 0) 12 (Mr 0), ai_ cy (rr 1) 12 (Mr 1), ai_ cy (rr 2) 12 (Mr 2), ai_ cy (rr 3) 12 (Mr 3), ai_ cy (rr 4) 12 (Mr 4), ai_ cy (rr 5) 12 (Mr 5), ai_ cy (rr 6) 12 (Mr 6), ai_ cy (rr 7) 12 (Mr 7), ai_ cy (rr 8) 12 (Mr 8), ai_ cy (rr 9) 12 (Mr 9), ai_ cy (rr 10) 12 (Mr 10), ai_ cy (rr 11) 12 (Mr 11), ai_ cy c4 40 f4, ai_ cy c5 40 e5_3, ai_ cy c6 40 e6_4, ai_ cy c7 12 f7, ai_ cy c8 12 f8, aq_ cy 3 xk 5 (kf_ k0 k1 k2 k3 k4), ob6_0_ k0, ob5_0_ k1, ob9_0_ k2, ob2_0_ k3, ob8_0_ k4] (by rw [ef_11]; exact hP) (by rw [ef_11]; exact hD) (fun hP hD => ?_)
  refine lv_iconst (v := 1) hx hb dB_36_0_47.1.1.2.1 (by decide) ?_
  refine lv_istore_n (lv' := [(1, .int 1), (0, .ref xt)]) hx hb dB_36_0_47.1.1.2.2 rfl hl (by decide) rfl (fun ls hl => ?_)
  suffices LOOP_12 : ∀ (n_12 : Nat) (x1_12 : Int32) (c_ta_12 : Nat → Int32) (c_tb_12 : Nat → Int32) (m_rr_12 : Nat → Nat → Int32) (c_c4_12 : Nat → Int32) (c_c7_12 : Nat → Int32) (c_c8_12 : Nat → Int32) (H : Heap) (locs : List Loc) (ls : Array Slot), 12 - x1_12.toInt < (n_12 : Int) → (1 ≤ x1_12.toInt) → (x1_12.toInt ≤ 12) → (trs c_ta_12 x1_12.toNatClampNeg) → (rng c_c7_12 12 (0) (11)) → (rng c_c8_12 12 (0) (11)) → pd_2 D vwCl A [ob1_0_ xt xc ta tb, ob0_0_ xc xn xk clo cro c4 c5 c6 c7 c8, ob3_0_ xn vp vn n1 n2 n3 n4 n5, ai_ cy ta 12 c_ta_12, ai_ cy tb 12 c_tb_12, ai_ cy n1 40 fk, ai_ cy n2 40 fs, ai_ cy n3 40 fe, ai_ cy n4 40 fw, aq_ cy 6 clo 12 (gf_ rl), ai_ cy (rl 0) 12 (eMl_2 0), ai_ cy (rl 1) 12 (eMl_2 1), ai_ cy (rl 2) 12 (eMl_2 2), ai_ cy (rl 3) 12 (eMl_2 3), ai_ cy (rl 4) 12 (eMl_2 4), ai_ cy (rl 5) 12 (eMl_2 5), ai_ cy (rl 6) 12 (eMl_2 6), ai_ cy (rl 7) 12 (eMl_2 7), ai_ cy (rl 8) 12 (eMl_2 8), ai_ cy (rl 9) 12 (eMl_2 9), ai_ cy (rl 10) 12 (eMl_2 10), ai_ cy (rl 11) 12 (eMl_2 11), aq_ cy 6 cro 12 (gf_ rr), ai_ cy (rr 0) 12 (m_rr_12 0), ai_ cy (rr 1) 12 (m_rr_12 1), ai_ cy (rr 2) 12 (m_rr_12 2), ai_ cy (rr 3) 12 (m_rr_12 3), ai_ cy (rr 4) 12 (m_rr_12 4), ai_ cy (rr 5) 12 (m_rr_12 5), ai_ cy (rr 6) 12 (m_rr_12 6), ai_ cy (rr 7) 12 (m_rr_12 7), ai_ cy (rr 8) 12 (m_rr_12 8), ai_ cy (rr 9) 12 (m_rr_12 9), ai_ cy (rr 10) 12 (m_rr_12 10), ai_ cy (rr 11) 12 (m_rr_12 11), ai_ cy c4 40 c_c4_12, ai_ cy c5 40 e5_3, ai_ cy c6 40 e6_4, ai_ cy c7 12 c_c7_12, ai_ cy c8 12 c_c8_12, aq_ cy 3 xk 5 (kf_ k0 k1 k2 k3 k4), ob6_0_ k0, ob5_0_ k1, ob9_0_ k2, ob2_0_ k3, ob8_0_ k4] H → va_S A s.heap H locs → lv_has ls 2 [(1, .int x1_12), (0, .ref xt)] → W p l e ({ frames := 5, cells := 0, slots := 0, locals := 113 } : Room) s m (([.ref xt] : List Value).toArray) below meth c H locs 0 0 Q (F0 m 35 ls []) from LOOP_12 ((12 - (1 : Int32).toInt).toNat + 1) (1 : Int32) f_9 f_11 Mr f4 f7 f8 _ _ _ (by omega) (by first | with_reducible assumption | omega | assumption) (by first | with_reducible assumption | omega | assumption) (by first | with_reducible assumption | assumption | exact h1_ | exact trs_nx g_7 (by omega) (by omega)) (by first | with_reducible assumption | assumption | exact rng_zero (by omega) (by omega) | exact orng_zero) (by first | with_reducible assumption | assumption | exact rng_zero (by omega) (by omega) | exact orng_zero) ⟨hP, hD⟩ hS (lv_sub hl [0, 1] rfl)
  intro n_12
  induction n_12 with
  | zero =>
    intro x1_12 c_ta_12 c_tb_12 m_rr_12 c_c4_12 c_c7_12 c_c8_12 H locs ls hm v0_12 v1_12 v2_12 rc_c7_12 rc_c8_12 hPD hS hl; obtain ⟨hP, hD⟩ := hPD
    exact absurd hm (by omega)
  | succ n_12 ih_12 =>
    intro x1_12 c_ta_12 c_tb_12 m_rr_12 c_c4_12 c_c7_12 c_c8_12 H locs ls hm v0_12 v1_12 v2_12 rc_c7_12 rc_c8_12 hPD hS hl; obtain ⟨hP, hD⟩ := hPD
    refine lv_iload_n hx hb dB_36_0_47.1.2.1.1 rfl (lv_at hl 0 rfl) ?_
    refine lv_aload_n hx hb dB_36_0_47.1.2.1.2 rfl (lv_at hl 1 rfl) ?_
    refine va_get (ci := 1) (v := .ref xc) (C := RX1) (T := TX1) (N := 3) hx hb hts (fun _ h => List.mem_cons_of_mem _ (List.mem_append_left _ (List.mem_append_left _ (List.mem_append_right _ h)))) hown hK.1 hP 0 rfl rfl 0 (by decide) (hts (.fieldLink RX1 18 "CutAtlas$CutTree" "current" "LCutAtlas$Current;") (List.mem_of_getElem? (i := 1) rfl)) (fun _ h9 => h9) rfl dB_36_0_47.1.2.2.1 ?_
    refine va_get (ci := 0) (v := .ref xn) (C := RX0) (T := TX0) (N := 9) hx hb hts (fun _ h => List.mem_cons_of_mem _ (List.mem_append_left _ (List.mem_append_right _ h))) hown hK.1 hP 1 rfl rfl 0 (by decide) (hts (.fieldLink RX1 34 "CutAtlas$Current" "net" "LCutAtlas$Net;") (List.mem_of_getElem? (i := 4) rfl)) (fun _ h9 => h9) rfl dB_36_0_47.1.2.2.2 ?_
    refine va_get (ci := 3) (v := .int vp) (C := RX3) (T := TX3) (N := 7) hx hb hts (fun _ h => List.mem_cons_of_mem _ (List.mem_append_right _ h)) hown hK.1 hP 2 rfl rfl 0 (by decide) (hts (.fieldLink RX1 38 "CutAtlas$Net" "places" "I") (List.mem_of_getElem? (i := 5) rfl)) (fun _ h9 => h9) rfl dB_36_0_47.2.1.1.1 ?_
    refine lv_icmp_ge (tgt := 60) hx hb dB_36_0_47.2.1.1.2 (by decide) (fun c_13 => ?_) (fun c_13 => ?_)
    · have t_13 : vp.toInt ≤ x1_12.toInt := Int32.le_iff_toInt_le.mp c_13
      rw [hQ]
      exact W.vret hx hb hr (fun t ht hW => ⟨⟨(), rfl, trivial, m_rr_12, c_ta_12, c_tb_12, c_c4_12, c_c7_12, c_c8_12, eMl_2, e5_3, e6_4, (trs_trd v2_12 (by have c_ := clI (i := x1_12) (by omega); omega)), (by first | with_reducible assumption | assumption | exact rng_zero (by omega) (by omega) | omega), (by first | with_reducible assumption | assumption | exact rng_zero (by omega) (by omega) | omega), by rw [ht]; exact hP, hD⟩, hS.F ht⟩) hS.2.2 dB_36_0_47.2.2.2.2
    · have t_13 : ¬ vp.toInt ≤ x1_12.toInt := fun h => c_13 (Int32.le_iff_toInt_le.mpr h)
      refine lv_aload_n hx hb dB_36_0_47.2.1.2.1 rfl (lv_at hl 1 rfl) ?_
      refine lv_iload_n hx hb dB_36_0_47.2.1.2.2 rfl (lv_at hl 0 rfl) ?_
      refine ct_S hP hD hS hA [ob1_0_ xt xc ta tb, ob0_0_ xc xn xk clo cro c4 c5 c6 c7 c8, ob3_0_ xn vp vn n1 n2 n3 n4 n5, ai_ cy ta 12 c_ta_12, ai_ cy tb 12 c_tb_12, ai_ cy n2 40 fs, ai_ cy n3 40 fe, aq_ cy 6 clo 12 (gf_ rl), ai_ cy (rl 0) 12 (eMl_2 0), ai_ cy (rl 1) 12 (eMl_2 1), ai_ cy (rl 2) 12 (eMl_2 2), ai_ cy (rl 3) 12 (eMl_2 3), ai_ cy (rl 4) 12 (eMl_2 4), ai_ cy (rl 5) 12 (eMl_2 5), ai_ cy (rl 6) 12 (eMl_2 6), ai_ cy (rl 7) 12 (eMl_2 7), ai_ cy (rl 8) 12 (eMl_2 8), ai_ cy (rl 9) 12 (eMl_2 9), ai_ cy (rl 10) 12 (eMl_2 10), ai_ cy (rl 11) 12 (eMl_2 11), aq_ cy 6 cro 12 (gf_ rr), ai_ cy (rr 0) 12 (m_rr_12 0), ai_ cy (rr 1) 12 (m_rr_12 1), ai_ cy (rr 2) 12 (m_rr_12 2), ai_ cy (rr 3) 12 (m_rr_12 3), ai_ cy (rr 4) 12 (m_rr_12 4), ai_ cy (rr 5) 12 (m_rr_12 5), ai_ cy (rr 6) 12 (m_rr_12 6), ai_ cy (rr 7) 12 (m_rr_12 7), ai_ cy (rr 8) 12 (m_rr_12 8), ai_ cy (rr 9) 12 (m_rr_12 9), ai_ cy (rr 10) 12 (m_rr_12 10), ai_ cy (rr 11) 12 (m_rr_12 11), ai_ cy c4 40 c_c4_12, ai_ cy c5 40 e5_3, ai_ cy c6 40 e6_4, ai_ cy c7 12 c_c7_12, ai_ cy c8 12 c_c8_12] [0, 1, 2, 3, 4, 6, 7, 9, 10, 11, 12, 13, 14, 15, 16, 17, 18, 19, 20, 21, 22, 23, 24, 25, 26, 27, 28, 29, 30, 31, 32, 33, 34, 35, 36, 37, 38, 39] (by decide +kernel) rfl (fun hPc hDw hFc hC_ => ?_)
      refine va_callv (va_runV (As := [.int x1_12]) (rest := []) ⟨hx, hb, hml, hown, hts⟩ (c_X1_hang l D cy H.size xt ta tb xc xk clo cro c4 c5 c6 c7 c8 xn n1 n2 n3 n4 n5 vp vn c_ta_12 c_tb_12 fs fe rl eMl_2 rr m_rr_12 c_c4_12 e5_3 e6_4 c_c7_12 c_c8_12 x1_12 (by first | with_reducible assumption | omega | assumption) (by first | with_reducible assumption | omega | assumption) (by first | with_reducible assumption | omega | assumption) (by first | with_reducible assumption | assumption | omega) (by first | with_reducible assumption | assumption | omega) (by first | with_reducible assumption | assumption | omega)) (cwV 1 hts gX1_grow_X1_hang rfl rfl rfl ⟨rfl, hd_X1_hang⟩ ⟨Nat.le_of_ble_eq_true rfl, Nat.le_of_ble_eq_true rfl⟩) ⟨bl_g, va_recvX hK.1 hP (ci := 1) (q0 := 0) rfl rfl, fun U hU hW => ⟨rfl, by rw [hU], by rw [hU]; exact hPc, ⟨kk_mv hW hK, arrOfT_moved hW.alike hG⟩, hDw⟩⟩ rfl rfl hl.1 rfl (lv_room (Nat.le_of_ble_eq_true rfl)) dB_36_0_47.2.2.1.1 ⟨Nat.le_of_ble_eq_true rfl, Nat.le_of_ble_eq_true rfl⟩) hS (fun q _ h => hFc q h) hFc (fun u t H locs ht hvm hw hB hz1 hk1 hS => ?_)
      obtain ⟨eMr_15, efx_16, efu_17, e4_18, e7_19, e8_20, g_21, g_22, g_23, hP1, hD1⟩ := hB
      rw [ht] at hP1
      obtain ⟨hP, hD⟩ := va_join (wr := [ai_ cy n1 40 fk, ai_ cy n4 40 fw, aq_ cy 3 xk 5 (kf_ k0 k1 k2 k3 k4), ob6_0_ k0, ob5_0_ k1, ob9_0_ k2, ob2_0_ k3, ob8_0_ k4]) (w1 := [ob1_0_ xt xc ta tb, ob0_0_ xc xn xk clo cro c4 c5 c6 c7 c8, ob3_0_ xn vp vn n1 n2 n3 n4 n5, ai_ cy ta 12 efx_16, ai_ cy tb 12 efu_17, ai_ cy n2 40 fs, ai_ cy n3 40 fe, aq_ cy 6 clo 12 (gf_ rl), ai_ cy (rl 0) 12 (eMl_2 0), ai_ cy (rl 1) 12 (eMl_2 1), ai_ cy (rl 2) 12 (eMl_2 2), ai_ cy (rl 3) 12 (eMl_2 3), ai_ cy (rl 4) 12 (eMl_2 4), ai_ cy (rl 5) 12 (eMl_2 5), ai_ cy (rl 6) 12 (eMl_2 6), ai_ cy (rl 7) 12 (eMl_2 7), ai_ cy (rl 8) 12 (eMl_2 8), ai_ cy (rl 9) 12 (eMl_2 9), ai_ cy (rl 10) 12 (eMl_2 10), ai_ cy (rl 11) 12 (eMl_2 11), aq_ cy 6 cro 12 (gf_ rr), ai_ cy (rr 0) 12 (eMr_15 0), ai_ cy (rr 1) 12 (eMr_15 1), ai_ cy (rr 2) 12 (eMr_15 2), ai_ cy (rr 3) 12 (eMr_15 3), ai_ cy (rr 4) 12 (eMr_15 4), ai_ cy (rr 5) 12 (eMr_15 5), ai_ cy (rr 6) 12 (eMr_15 6), ai_ cy (rr 7) 12 (eMr_15 7), ai_ cy (rr 8) 12 (eMr_15 8), ai_ cy (rr 9) 12 (eMr_15 9), ai_ cy (rr 10) 12 (eMr_15 10), ai_ cy (rr 11) 12 (eMr_15 11), ai_ cy c4 40 e4_18, ai_ cy c5 40 e5_3, ai_ cy c6 40 e6_4, ai_ cy c7 12 e7_19, ai_ cy c8 12 e8_20]) hP hD [0, 1, 2, 3, 4, 6, 7, 9, 10, 11, 12, 13, 14, 15, 16, 17, 18, 19, 20, 21, 22, 23, 24, 25, 26, 27, 28, 29, 30, 31, 32, 33, 34, 35, 36, 37, 38, 39] [5, 8, 40, 41, 42, 43, 44, 45] hC_ rfl (by decide) (by decide) hk1 hFc hP1 hD1
      refine pd_S hP hD [ob1_0_ xt xc ta tb, ob0_0_ xc xn xk clo cro c4 c5 c6 c7 c8, ob3_0_ xn vp vn n1 n2 n3 n4 n5, ai_ cy ta 12 efx_16, ai_ cy tb 12 efu_17, ai_ cy n1 40 fk, ai_ cy n2 40 fs, ai_ cy n3 40 fe, ai_ cy n4 40 fw, aq_ cy 6 clo 12 (gf_ rl), ai_ cy (rl 0) 12 (eMl_2 0), ai_ cy (rl 1) 12 (eMl_2 1), ai_ cy (rl 2) 12 (eMl_2 2), ai_ cy (rl 3) 12 (eMl_2 3), ai_ cy (rl 4) 12 (eMl_2 4), ai_ cy (rl 5) 12 (eMl_2 5), ai_ cy (rl 6) 12 (eMl_2 6), ai_ cy (rl 7) 12 (eMl_2 7), ai_ cy (rl 8) 12 (eMl_2 8), ai_ cy (rl 9) 12 (eMl_2 9), ai_ cy (rl 10) 12 (eMl_2 10), ai_ cy (rl 11) 12 (eMl_2 11), aq_ cy 6 cro 12 (gf_ rr), ai_ cy (rr 0) 12 (eMr_15 0), ai_ cy (rr 1) 12 (eMr_15 1), ai_ cy (rr 2) 12 (eMr_15 2), ai_ cy (rr 3) 12 (eMr_15 3), ai_ cy (rr 4) 12 (eMr_15 4), ai_ cy (rr 5) 12 (eMr_15 5), ai_ cy (rr 6) 12 (eMr_15 6), ai_ cy (rr 7) 12 (eMr_15 7), ai_ cy (rr 8) 12 (eMr_15 8), ai_ cy (rr 9) 12 (eMr_15 9), ai_ cy (rr 10) 12 (eMr_15 10), ai_ cy (rr 11) 12 (eMr_15 11), ai_ cy c4 40 e4_18, ai_ cy c5 40 e5_3, ai_ cy c6 40 e6_4, ai_ cy c7 12 e7_19, ai_ cy c8 12 e8_20, aq_ cy 3 xk 5 (kf_ k0 k1 k2 k3 k4), ob6_0_ k0, ob5_0_ k1, ob9_0_ k2, ob2_0_ k3, ob8_0_ k4] [8, 9, 10, 11, 12, 0, 13, 14, 1, 15, 16, 17, 18, 19, 20, 21, 22, 23, 24, 25, 26, 27, 28, 29, 30, 31, 32, 33, 34, 35, 36, 37, 38, 39, 40, 41, 42, 43, 44, 45, 2, 3, 4, 5, 6, 7] (by decide +kernel) rfl (fun hP hD => ?_)
      obtain ⟨y_24, ey_24⟩ : ∃ y : Int32, y = x1_12 + 1 := ⟨_, rfl⟩
      have ty_24 : y_24.toInt = x1_12.toInt + (1 : Int32).toInt := by rw [ey_24]; exact addI (by omega) (by omega)
      refine lv_iinc (v := y_24) (lv' := [(1, .int y_24), (0, .ref xt)]) hx hb dB_36_0_47.2.2.1.2 hl (k := 0) rfl (by rw [ey_24]; rfl) (by decide) rfl (fun ls hl => ?_)
      refine lv_goto (tgt := 35) hx hb dB_36_0_47.2.2.2.1 (by decide) ?_
      exact ih_12 y_24 efx_16 efu_17 eMr_15 e4_18 e7_19 e8_20 _ _ _ (by omega) (by first | with_reducible assumption | omega | assumption) (by first | with_reducible assumption | omega | assumption) (by first | with_reducible assumption | assumption | exact h1_ | exact trs_nx g_21 (by omega) (by omega)) (by first | with_reducible assumption | assumption | exact rng_zero (by omega) (by omega) | exact orng_zero) (by first | with_reducible assumption | assumption | exact rng_zero (by omega) (by omega) | exact orng_zero) ⟨hP, hD⟩ hS (lv_sub hl [0, 1] rfl)
end

section
/-! ===== the reference's cheapest: costs of a step, and that its search ends ===== -/
/-- what a line costs to be wider by one; -9: it can't be -/
noncomputable def cst (k p : Int) : Int := if k = 3 then p else if k = 4 then p + 1 else -9
theorem cst_rng {k p : Int} (h0 : 0 ≤ p) (h1 : p ≤ 100) : cst k p = -9 ∨ (0 ≤ cst k p ∧ cst k p ≤ 101) := by
  unfold cst
  (repeat' split) <;> omega
noncomputable def stI (c w0 w1 f : Int) : Int := if f < 0 ∧ w0 < -f then -c else if f < w1 then 0 else if c = -9 then 1000000 else c
noncomputable def amI (w0 w1 f : Int) : Int := if f < 0 ∧ w0 < -f then -f - w0 else if f < w1 then w1 - f else 1000000
theorem stI_cs (c w0 w1 f : Int) : ((f < 0 ∧ w0 < -f) ∧ stI c w0 w1 f = -c) ∨ (¬ (f < 0 ∧ w0 < -f) ∧ f < w1 ∧ stI c w0 w1 f = 0) ∨ (¬ (f < 0 ∧ w0 < -f) ∧ w1 ≤ f ∧ c = -9 ∧ stI c w0 w1 f = 1000000) ∨ (¬ (f < 0 ∧ w0 < -f) ∧ w1 ≤ f ∧ c ≠ -9 ∧ stI c w0 w1 f = c) := by
  unfold stI
  (repeat' split) <;> omega
theorem amI_cs (w0 w1 f : Int) : ((f < 0 ∧ w0 < -f) ∧ amI w0 w1 f = -f - w0) ∨ (¬ (f < 0 ∧ w0 < -f) ∧ f < w1 ∧ amI w0 w1 f = w1 - f) ∨ (¬ (f < 0 ∧ w0 < -f) ∧ w1 ≤ f ∧ amI w0 w1 f = 1000000) := by
  unfold amI
  (repeat' split) <;> omega
/-- n more over a line, whose step is just what the places differ by -/
theorem st_push {c w0 w1 f n d : Int} (hc : c = -9 ∨ (0 ≤ c ∧ c ≤ 101)) (h0 : 0 ≤ w0) (h1 : 0 ≤ w1) (hd : d = stI c w0 w1 f) (hlt : stI c w0 w1 f < 1000000) (hn : 1 ≤ n) (hna : n ≤ amI w0 w1 f) (hr : c = -9 → -w0 ≤ f ∧ f ≤ w1) :
    (stI c w0 w1 (f + n) < 1000000 → d ≤ stI c w0 w1 (f + n)) ∧ (stI c w1 w0 (-(f + n)) < 1000000 → -d ≤ stI c w1 w0 (-(f + n))) ∧ (c = -9 → -w0 ≤ f + n ∧ f + n ≤ w1) := by
  have a1 := stI_cs c w0 w1 f
  have a2 := stI_cs c w0 w1 (f + n)
  have a3 := stI_cs c w1 w0 (-(f + n))
  have a4 := amI_cs w0 w1 f
  refine ⟨fun h => ?_, fun h => ?_, fun h => ?_⟩
  · rcases a1 with a1 | a1 | a1 | a1 <;> rcases a4 with a4 | a4 | a4 <;> first | (exfalso; omega) | (rcases a2 with a2 | a2 | a2 | a2 <;> omega)
  · rcases a1 with a1 | a1 | a1 | a1 <;> rcases a4 with a4 | a4 | a4 <;> first | (exfalso; omega) | (rcases a3 with a3 | a3 | a3 | a3 <;> omega)
  · rcases a1 with a1 | a1 | a1 | a1 <;> rcases a4 with a4 | a4 | a4 <;> omega
noncomputable def eS (f5 f8 f9 F : Nat → Int32) (j : Nat) (b : Int) : Int := if b ≠ 0 then stI (cst (f5 j).toInt (f9 j).toInt) (rmI (f5 j) (f8 j) 0) (rmI (f5 j) (f8 j) 1) (F j).toInt else stI (cst (f5 j).toInt (f9 j).toInt) (rmI (f5 j) (f8 j) 1) (rmI (f5 j) (f8 j) 0) (-(F j).toInt)
noncomputable def eA (f5 f8 F : Nat → Int32) (j : Nat) (b : Int) : Int := if b ≠ 0 then amI (rmI (f5 j) (f8 j) 0) (rmI (f5 j) (f8 j) 1) (F j).toInt else amI (rmI (f5 j) (f8 j) 1) (rmI (f5 j) (f8 j) 0) (-(F j).toInt)
/-! ===== ways by their costs, in general: edges e < E from x e to y e for c e, those that are ok ===== -/
noncomputable def mnE (g : Nat → Int) : Nat → Int → Int
  | 0, a => a
  | n + 1, a => if g n < mnE g n a then g n else mnE g n a
theorem mnE_le {g : Nat → Int} {a : Int} : ∀ n : Nat, mnE g n a ≤ a
  | 0 => Int.le_refl _
  | n + 1 => by
    have h := mnE_le (g := g) (a := a) n
    show (if g n < mnE g n a then g n else mnE g n a) ≤ a
    split <;> omega
theorem mnE_leg {g : Nat → Int} {a : Int} : ∀ (n i : Nat), i < n → mnE g n a ≤ g i
  | 0, i, h => absurd h (Nat.not_lt_zero _)
  | n + 1, i, h => by
    show (if g n < mnE g n a then g n else mnE g n a) ≤ g i
    by_cases e : i = n
    · subst e
      split <;> omega
    · have q := mnE_leg (g := g) (a := a) n i (by omega)
      split <;> omega
theorem mnE_at {g : Nat → Int} {a : Int} : ∀ n : Nat, mnE g n a = a ∨ ∃ i : Nat, i < n ∧ mnE g n a = g i
  | 0 => Or.inl rfl
  | n + 1 => by
    have h := mnE_at (g := g) (a := a) n
    show (if g n < mnE g n a then g n else mnE g n a) = a ∨ ∃ i : Nat, i < n + 1 ∧ (if g n < mnE g n a then g n else mnE g n a) = g i
    by_cases q : g n < mnE g n a
    · rw [if_pos q]
      exact Or.inr ⟨n, by omega, rfl⟩
    · rw [if_neg q]
      rcases h with h | ⟨i, hi, h⟩
      · exact Or.inl h
      · exact Or.inr ⟨i, by omega, h⟩
section WAYS
variable {x y : Nat → Nat} {c : Nat → Int} {ok : Nat → Bool} {E s P : Nat} {pi : Nat → Int}
noncomputable def dst (x y : Nat → Nat) (c : Nat → Int) (ok : Nat → Bool) (E s : Nat) : Nat → Nat → Int
  | 0, v => if v = s then 0 else 1099511627776
  | k + 1, v => mnE (fun e => if ok e = true ∧ y e = v ∧ dst x y c ok E s k (x e) < 1099511627776 then dst x y c ok E s k (x e) + c e else 1099511627776) E (dst x y c ok E s k v)
theorem dst_s (k v : Nat) : dst x y c ok E s (k + 1) v ≤ dst x y c ok E s k v := mnE_le E
theorem dst_mono : ∀ (k j v : Nat), j ≤ k → dst x y c ok E s k v ≤ dst x y c ok E s j v
  | 0, j, v, h => by
    obtain rfl : j = 0 := by omega
    exact Int.le_refl _
  | k + 1, j, v, h => by
    by_cases e : j = k + 1
    · subst e
      exact Int.le_refl _
    · exact Int.le_trans (dst_s k v) (dst_mono k j v (by omega))
theorem dst_inf (k v : Nat) : dst x y c ok E s k v ≤ 1099511627776 := by
  refine Int.le_trans (dst_mono k 0 v (Nat.zero_le _)) ?_
  show (if v = s then 0 else 1099511627776) ≤ 1099511627776
  split <;> decide
theorem dst_e {k e : Nat} (he : e < E) (ho : ok e = true) (hx : dst x y c ok E s k (x e) < 1099511627776) : dst x y c ok E s (k + 1) (y e) ≤ dst x y c ok E s k (x e) + c e := by
  have h := mnE_leg (g := fun e9 => if ok e9 = true ∧ y e9 = y e ∧ dst x y c ok E s k (x e9) < 1099511627776 then dst x y c ok E s k (x e9) + c e9 else 1099511627776) (a := dst x y c ok E s k (y e)) E e he
  have h2 : dst x y c ok E s (k + 1) (y e) ≤ (if ok e = true ∧ y e = y e ∧ dst x y c ok E s k (x e) < 1099511627776 then dst x y c ok E s k (x e) + c e else 1099511627776) := h
  rw [if_pos ⟨ho, rfl, hx⟩] at h2
  exact h2
theorem dst_at {k v : Nat} (h : dst x y c ok E s (k + 1) v < dst x y c ok E s k v) : ∃ e : Nat, e < E ∧ ok e = true ∧ y e = v ∧ dst x y c ok E s k (x e) < 1099511627776 ∧ dst x y c ok E s (k + 1) v = dst x y c ok E s k (x e) + c e := by
  have a := mnE_at (g := fun e => if ok e = true ∧ y e = v ∧ dst x y c ok E s k (x e) < 1099511627776 then dst x y c ok E s k (x e) + c e else 1099511627776) (a := dst x y c ok E s k v) E
  have i := dst_inf (x := x) (y := y) (c := c) (ok := ok) (E := E) (s := s) k v
  rcases a with a | ⟨e, he, a⟩
  · have a2 : dst x y c ok E s (k + 1) v = dst x y c ok E s k v := a
    omega
  · have a2 : dst x y c ok E s (k + 1) v = (if ok e = true ∧ y e = v ∧ dst x y c ok E s k (x e) < 1099511627776 then dst x y c ok E s k (x e) + c e else 1099511627776) := a
    by_cases q : ok e = true ∧ y e = v ∧ dst x y c ok E s k (x e) < 1099511627776
    · rw [if_pos q] at a2
      exact ⟨e, he, q.1, q.2.1, q.2.2, a2⟩
    · rw [if_neg q] at a2
      omega
theorem dst_lo (hc : ∀ e : Nat, e < E → ok e = true → -101 ≤ c e) : ∀ k v : Nat, -(101 * (k : Int)) ≤ dst x y c ok E s k v
  | 0, v => by
    show -(101 * ((0 : Nat) : Int)) ≤ (if v = s then 0 else 1099511627776)
    split <;> decide
  | k + 1, v => by
    have i := dst_lo hc k
    rcases Int.lt_or_le (dst x y c ok E s (k + 1) v) (dst x y c ok E s k v) with h | h
    · obtain ⟨e, he, ho, _, _, h2⟩ := dst_at h
      have a := i (x e)
      have b := hc e he ho
      omega
    · have a := i v
      omega
theorem dst_hi (hc : ∀ e : Nat, e < E → ok e = true → c e < 1000000) : ∀ k v : Nat, dst x y c ok E s k v < 1099511627776 → dst x y c ok E s k v ≤ 1000000 * (k : Int)
  | 0, v, h => by
    have e0 : dst x y c ok E s 0 v = if v = s then 0 else 1099511627776 := rfl
    rw [e0] at h ⊢
    by_cases e : v = s
    · rw [if_pos e]
      decide
    · rw [if_neg e] at h
      omega
  | k + 1, v, h => by
    rcases Int.lt_or_le (dst x y c ok E s (k + 1) v) (dst x y c ok E s k v) with q | q
    · obtain ⟨e, he, ho, _, hx, h2⟩ := dst_at q
      have a := dst_hi hc k (x e) hx
      have b := hc e he ho
      omega
    · have m := dst_s (x := x) (y := y) (c := c) (ok := ok) (E := E) (s := s) k v
      have a := dst_hi hc k v (by omega)
      omega
theorem dst_pi (hp : ∀ e : Nat, e < E → ok e = true → pi (y e) ≤ pi (x e) + c e) : ∀ k v : Nat, dst x y c ok E s k v < 1099511627776 → pi v - pi s ≤ dst x y c ok E s k v
  | 0, v, h => by
    have e0 : dst x y c ok E s 0 v = if v = s then 0 else 1099511627776 := rfl
    rw [e0] at h ⊢
    by_cases e : v = s
    · rw [if_pos e, e]
      omega
    · rw [if_neg e] at h
      omega
  | k + 1, v, h => by
    rcases Int.lt_or_le (dst x y c ok E s (k + 1) v) (dst x y c ok E s k v) with q | q
    · obtain ⟨e, he, ho, ey, hx, h2⟩ := dst_at q
      have a := dst_pi hp k (x e) hx
      have b := hp e he ho
      rw [ey] at b
      omega
    · have m := dst_s (x := x) (y := y) (c := c) (ok := ok) (E := E) (s := s) k v
      have a := dst_pi hp k v (by omega)
      omega
/-- a way that is better still at the k-th time has k + 1 steps -/
theorem dst_ch (hp : ∀ e : Nat, e < E → ok e = true → pi (y e) ≤ pi (x e) + c e) (hv : ∀ e : Nat, e < E → ok e = true → x e < P ∧ y e < P) : ∀ k v : Nat, dst x y c ok E s (k + 1) v < dst x y c ok E s k v →
    ∃ u : Nat → Nat, u (k + 1) = v ∧ (∀ i : Nat, i ≤ k + 1 → u i < P) ∧ (∀ i : Nat, i ≤ k → dst x y c ok E s (i + 1) (u (i + 1)) < dst x y c ok E s i (u (i + 1))) ∧ (∀ i : Nat, i ≤ k → dst x y c ok E s i (u i) - pi (u i) ≤ dst x y c ok E s (i + 1) (u (i + 1)) - pi (u (i + 1)))
  | 0, v, h => by
    obtain ⟨e, he, ho, ey, hx, h2⟩ := dst_at h
    have b := hp e he ho
    have w := hv e he ho
    refine ⟨fun i => if i = 0 then x e else v, rfl, fun i hi => ?_, fun i hi => ?_, fun i hi => ?_⟩
    · show (if i = 0 then x e else v) < P
      split
      · exact w.1
      · rw [← ey]; exact w.2
    · obtain rfl : i = 0 := by omega
      exact h
    · obtain rfl : i = 0 := by omega
      show dst x y c ok E s 0 (x e) - pi (x e) ≤ dst x y c ok E s (0 + 1) v - pi v
      rw [ey] at b
      omega
  | k + 1, v, h => by
    obtain ⟨e, he, ho, ey, hx, h2⟩ := dst_at h
    have b := hp e he ho
    have w := hv e he ho
    have hlt : dst x y c ok E s (k + 1) (x e) < dst x y c ok E s k (x e) := by
      rcases Int.lt_or_le (dst x y c ok E s (k + 1) (x e)) (dst x y c ok E s k (x e)) with q | q
      · exact q
      · have m := dst_s (x := x) (y := y) (c := c) (ok := ok) (E := E) (s := s) k (x e)
        have d := dst_e (x := x) (y := y) (c := c) (s := s) (k := k) he ho (by omega)
        rw [ey] at d
        omega
    obtain ⟨u, u1, u2, u3, u4⟩ := dst_ch hp hv k (x e) hlt
    have n1 : ∀ i : Nat, i ≤ k + 1 → (fun i => if i ≤ k + 1 then u i else v) i = u i := fun i hi => if_pos hi
    have n2 : (fun i => if i ≤ k + 1 then u i else v) (k + 1 + 1) = v := if_neg (by omega)
    refine ⟨fun i => if i ≤ k + 1 then u i else v, n2, fun i hi => ?_, fun i hi => ?_, fun i hi => ?_⟩
    · by_cases q : i ≤ k + 1
      · rw [n1 i q]
        exact u2 i q
      · rw [show i = k + 1 + 1 by omega, n2, ← ey]
        exact w.2
    · by_cases q : i ≤ k
      · rw [n1 (i + 1) (by omega)]
        exact u3 i q
      · rw [show i = k + 1 by omega, n2]
        exact h
    · by_cases q : i ≤ k
      · rw [n1 (i + 1) (by omega), n1 i (by omega)]
        exact u4 i q
      · rw [show i = k + 1 by omega, n2, n1 (k + 1) (Nat.le_refl _), u1]
        rw [ey] at b
        omega
theorem dst_end (hp : ∀ e : Nat, e < E → ok e = true → pi (y e) ≤ pi (x e) + c e) (hv : ∀ e : Nat, e < E → ok e = true → x e < P ∧ y e < P) {k : Nat} (hk : P ≤ k + 1) (v : Nat) : dst x y c ok E s (k + 1) v = dst x y c ok E s k v := by
  have m := dst_s (x := x) (y := y) (c := c) (ok := ok) (E := E) (s := s) k v
  rcases Int.lt_or_le (dst x y c ok E s (k + 1) v) (dst x y c ok E s k v) with q | q
  · exfalso
    obtain ⟨u, u1, u2, u3, u4⟩ := dst_ch hp hv k v q
    have tel : ∀ d i : Nat, i + d ≤ k + 1 → dst x y c ok E s i (u i) - pi (u i) ≤ dst x y c ok E s (i + d) (u (i + d)) - pi (u (i + d)) := fun d => by
      induction d with
      | zero => exact fun i _ => Int.le_refl _
      | succ d ih =>
        intro i hi
        have a := ih i (by omega)
        have b := u4 (i + d) (by omega)
        exact Int.le_trans a b
    have := pigeon P (k + 2) (fun i => (u i : Int)) (fun i hi => by
      have a := u2 i (by omega)
      exact ⟨by omega, by omega⟩) (fun i j hij hj e => by
      have e2 : u i = u j := by
        have e9 : (u i : Int) = (u j : Int) := e
        omega
      have t := tel (j - i) i (by omega)
      rw [show i + (j - i) = j by omega, e2] at t
      have l := u3 (j - 1) (by omega)
      rw [show j - 1 + 1 = j by omega] at l
      have mo := dst_mono (x := x) (y := y) (c := c) (ok := ok) (E := E) (s := s) (j - 1) i (u j) (by omega)
      omega)
    omega
  · omega
/-! the chain of a search: n steps of p from v to s -/
noncomputable def rcs (p : Nat → Nat) (s : Nat) : Nat → Nat → Prop
  | 0, v => v = s
  | n + 1, v => v ≠ s ∧ rcs p s n (p v)
theorem rcs_un {p : Nat → Nat} {s : Nat} : ∀ (n m v : Nat), rcs p s n v → rcs p s m v → n = m
  | 0, 0, _, _, _ => rfl
  | 0, _ + 1, _, h, h2 => absurd h h2.1
  | _ + 1, 0, _, h, h2 => absurd h2 h.1
  | n + 1, m + 1, v, h, h2 => by rw [rcs_un n m (p v) h.2 h2.2]
noncomputable def itr (p : Nat → Nat) : Nat → Nat → Nat
  | 0, v => v
  | i + 1, v => p (itr p i v)
theorem rcs_itr {p : Nat → Nat} {s n v : Nat} (h : rcs p s n v) : ∀ i : Nat, i ≤ n → rcs p s (n - i) (itr p i v)
  | 0, _ => h
  | i + 1, hi => by
    have a := rcs_itr h i (by omega)
    rw [show n - i = (n - (i + 1)) + 1 by omega] at a
    exact a.2
/-- y hangs at x anew: chains still end at s -/
theorem rcs_up {p q : Nat → Nat} {s P : Nat} {d pi : Nat → Int} {x1 y1 : Nat} {c1 : Int} (hq : ∀ v : Nat, v ≠ y1 → q v = p v) (hqy : q y1 = x1) (hys : y1 ≠ s) (hx1 : x1 < P) (hfx : d x1 < 1099511627776)
    (hc : d x1 + c1 < d y1) (hpi : pi y1 ≤ pi x1 + c1) (ht : ∀ v : Nat, v < P → v ≠ s → d v < 1099511627776 → p v < P ∧ d (p v) < 1099511627776 ∧ d (p v) - pi (p v) ≤ d v - pi v) (hr : ∀ v : Nat, v < P → d v < 1099511627776 → ∃ n : Nat, rcs p s n v) :
    ∀ v : Nat, v < P → (d v < 1099511627776 ∨ v = y1) → ∃ n : Nat, rcs q s n v := by
  have A : ∀ (n v : Nat), v < P → d v < 1099511627776 → rcs p s n v → rcs q s n v ∨ d y1 - pi y1 ≤ d v - pi v := fun n => by
    induction n with
    | zero => exact fun v _ _ h => Or.inl h
    | succ n ih =>
      intro v hv hf h
      by_cases e : v = y1
      · rw [e]
        exact Or.inr (Int.le_refl _)
      · have t := ht v hv h.1 hf
        rcases ih (p v) t.1 t.2.1 h.2 with a | a
        · exact Or.inl ⟨h.1, by rw [hq v e]; exact a⟩
        · exact Or.inr (by omega)
  obtain ⟨m, hm⟩ := hr x1 hx1 hfx
  have hx : rcs q s m x1 := by
    rcases A m x1 hx1 hfx hm with a | a
    · exact a
    · omega
  have B : ∀ (n v : Nat), v < P → d v < 1099511627776 → rcs p s n v → ∃ n2 : Nat, rcs q s n2 v := fun n => by
    induction n with
    | zero => exact fun v _ _ h => ⟨0, h⟩
    | succ n ih =>
      intro v hv hf h
      by_cases e : v = y1
      · exact ⟨m + 1, h.1, by rw [e, hqy]; exact hx⟩
      · have t := ht v hv h.1 hf
        obtain ⟨n2, h2⟩ := ih (p v) t.1 t.2.1 h.2
        exact ⟨n2 + 1, h.1, by rw [hq v e]; exact h2⟩
  intro v hv hf
  by_cases e : v = y1
  · exact ⟨m + 1, by rw [e]; exact hys, by rw [e, hqy]; exact hx⟩
  · rcases hf with hf | hf
    · obtain ⟨n, hn⟩ := hr v hv hf
      exact B n v hv hf hn
    · exact absurd hf e
end WAYS
set_option maxHeartbeats 4000000 in
set_option maxRecDepth 100000 in
theorem c_X12_costs2 (l : Launch) (D : va_G) (cy : Nat → ClassId) (sz : Nat) (mo : Nat) (g5 : Nat) (g6 : Nat) (g7 : Nat) (g8 : Nat) (g9 : Nat) (g10 : Nat) (g12 : Nat) (g13 : Nat) (g14 : Nat) (g15 : Nat) (g16 : Nat) (g17 : Nat) (g18 : Nat) (g19 : Nat) (g20 : Nat) (g22 : Nat) (g23 : Nat) (g24 : Nat) (g29 : Nat) (g30 : Nat) (g31 : Nat) (g32 : Nat) (g33 : Nat) (s0 : Int32) (s1 : Int32) (s3 : Int32) (s4 : Int32) (s11 : Int32) (s21 : Int32) (s25 : Int32) (s26 : Int32) (s27 : Int32) (s28 : Int32) (t2 : Int64) (f5 : Nat → Int32) (f9 : Nat → Int32) (a1 : Int32) (q1 : 0 ≤ a1.toInt ∧ a1.toInt < 40) (r_f9 : rng f9 40 (0) (100)) : Met l yX12_costs wsX12_costs ({ frames := 0, cells := 0, slots := 0, locals := 0 }) (va_Pc [.ref mo, .int a1] (fun U => U.heap.size = sz ∧ va_P D vwCl [ob12_0_ mo s0 s1 t2 s3 s4 g5 g6 g7 g8 g9 g10 s11 g12 g13 g14 g15 g16 g17 g18 g19 g20 s21 g22 g23 g24 s25 s26 s27 s28 g29 g30 g31 g32 g33, ai_ cy g5 40 f5, ai_ cy g9 40 f9] U.heap ∧ kk_ D cy U ∧ va_D (fun _ => True) [ob12_0_ mo s0 s1 t2 s3 s4 g5 g6 g7 g8 g9 g10 s11 g12 g13 g14 g15 g16 g17 g18 g19 g20 s21 g22 g23 g24 s25 s26 s27 s28 g29 g30 g31 g32 g33, ai_ cy g5 40 f5, ai_ cy g9 40 f9])) (va_Qi (fun (r : Int32) (_ : Unit) => (r.toInt = cst (f5 a1.toNatClampNeg).toInt (f9 a1.toNatClampNeg).toInt)) (fun (_ : Unit) (_ : State) => True) (va_A [] sz)) 0 0 (va_A [] sz) := by
  refine ofQ (cc := cX12_costs) (maxL := 2) (ret := (some .int)) (by decide) rfl ?_
  intro p e s m args below meth c s₁ Q hQ B hml hv
  obtain ⟨rfl, hsz, hP, hK, hD0⟩ := hv
  have hx := B.exec
  have hb := B.bytes
  have hr := B.returns
  have hts := atoms_spec (ws := wsX12_costs) B.pre
  have hown : s.vm.findClass RX12 = some m.cls := by have h_ := findClass_of_methodNamed B.named; exact h_
  have hlocks := B.notSynchronized
  subst hsz
  have hD : va_D (va_A [] s.heap.size) [] := dd_nil
  generalize hAe : va_A [] s.heap.size = A at hD hQ
  have hA : ∀ q : Nat, s.heap.size ≤ q → A q := fun q h => by rw [← hAe]; exact Or.inr h
  have hS : va_S A s.heap s.heap [] := va_S.rf
  have hl := lv_entry ([.ref mo, .int a1]) (n := 2) (Nat.le_of_ble_eq_true rfl)
  rw [lg_entry_eq]
  generalize (lg_sl ([.ref mo, .int a1]) ++ List.replicate (2 - (lg_sl ([.ref mo, .int a1])).length) Slot.unset).toArray = ls at hl ⊢
  have hl : lv_has ls 2 [(0, .ref mo), (1, .int a1)] := hl
  have zm9 : ((-9) : Int32).toInt = -9 := by decide
  have z1 : (1 : Int32).toInt = 1 := by decide
  have z3 : (3 : Int32).toInt = 3 := by decide
  have z4 : (4 : Int32).toInt = 4 := by decide
  refine lv_aload_n hx hb dB_3_0_5.1.1.1.1 rfl (lv_at hl 0 rfl) ?_
  refine va_get (ci := 12) (v := .ref g5) (C := RX12) (T := TX12) (N := 34) hx hb hts (fun _ h => List.mem_cons_of_mem _ (List.mem_append_right _ h)) hown hK.1 hP 0 rfl rfl 5 (by decide) (hts (.fieldLink RX12 7 "CutAtlasModel" "kind" "[I") (List.mem_of_getElem? (i := 1) rfl)) (fun _ h9 => h9) rfl dB_3_0_5.1.1.1.2 ?_
  refine lv_iload_n hx hb dB_3_0_5.1.1.2.1 rfl (lv_at hl 1 rfl) ?_
  have h_1 : vp_in a1 40 := in_I (by first | with_reducible assumption | omega) (by omega)
  refine va_iald hx hb hK.1 hP 1 0 rfl rfl (i := a1) h_1 dB_3_0_5.1.1.2.2 ?_
  refine lv_topi (fun y_2 ey_2 => ?_)
  have ky_2 : y_2.toInt = (f5 a1.toNatClampNeg).toInt := by rw [ey_2]
  refine lv_iconst (v := 3) hx hb dB_3_0_5.1.2.1.1 (by decide) ?_
  refine lv_icmp_ne (tgt := 19) hx hb dB_3_0_5.1.2.1.2 (by decide) (fun c_3 => ?_) (fun c_3 => ?_)
  · have t_3 : ¬ y_2.toInt = (3 : Int32).toInt := fun h => c_3 (Int32.toInt_inj.mp h)
    refine lv_aload_n hx hb dB_3_0_5.2.1.2.2 rfl (lv_at hl 0 rfl) ?_
    refine va_get (ci := 12) (v := .ref g5) (C := RX12) (T := TX12) (N := 34) hx hb hts (fun _ h => List.mem_cons_of_mem _ (List.mem_append_right _ h)) hown hK.1 hP 0 rfl rfl 5 (by decide) (hts (.fieldLink RX12 7 "CutAtlasModel" "kind" "[I") (List.mem_of_getElem? (i := 1) rfl)) (fun _ h9 => h9) rfl dB_3_0_5.2.2.1.1 ?_
    refine lv_iload_n hx hb dB_3_0_5.2.2.1.2 rfl (lv_at hl 1 rfl) ?_
    refine va_iald hx hb hK.1 hP 1 0 rfl rfl (i := a1) h_1 dB_3_0_5.2.2.2.1 ?_
    refine lv_topi (fun y_5 ey_5 => ?_)
    have e_ := (ey_5.trans ey_2.symm).symm
    subst e_
    skip
    refine lv_iconst (v := 4) hx hb dB_3_0_5.2.2.2.2 (by decide) ?_
    refine lv_icmp_ne (tgt := 40) hx hb dB_3_0_6.1.1.1 (by decide) (fun c_6 => ?_) (fun c_6 => ?_)
    · have t_6 : ¬ y_2.toInt = (4 : Int32).toInt := fun h => c_6 (Int32.toInt_inj.mp h)
      refine lv_bipush (v := (-9)) hx hb dB_3_0_6.2.2.2.1 (by decide) ?_
      rw [hQ]
      exact W.iret (v := (-9)) hx hb hr (fun t ht hW => ⟨⟨(-9), (), rfl, (by unfold cst; (repeat' split) <;> omega), trivial⟩, hS.F ht⟩) hS.2.2 dB_3_0_6.2.2.2.2
    · have t_6 : y_2.toInt = (4 : Int32).toInt := congrArg Int32.toInt c_6
      refine lv_aload_n hx hb dB_3_0_6.1.1.2 rfl (lv_at hl 0 rfl) ?_
      refine va_get (ci := 12) (v := .ref g9) (C := RX12) (T := TX12) (N := 34) hx hb hts (fun _ h => List.mem_cons_of_mem _ (List.mem_append_right _ h)) hown hK.1 hP 0 rfl rfl 9 (by decide) (hts (.fieldLink RX12 22 "CutAtlasModel" "price" "[I") (List.mem_of_getElem? (i := 2) rfl)) (fun _ h9 => h9) rfl dB_3_0_6.1.2.1 ?_
      refine lv_iload_n hx hb dB_3_0_6.1.2.2.1 rfl (lv_at hl 1 rfl) ?_
      refine va_iald hx hb hK.1 hP 2 0 rfl rfl (i := a1) h_1 dB_3_0_6.1.2.2.2 ?_
      refine lv_topi (fun y_8 ey_8 => ?_)
      have ky_8 : y_8.toInt = (f9 a1.toNatClampNeg).toInt := by rw [ey_8]
      have ry_8 : 0 ≤ y_8.toInt ∧ y_8.toInt ≤ 100 := by rw [ey_8]; exact r_f9 _ (in_lt h_1)
      refine lv_iconst (v := 1) hx hb dB_3_0_6.2.1.1 (by decide) ?_
      refine lv_iadd hx hb dB_3_0_6.2.1.2 ?_
      refine lv_topi (fun y_9 ey_9 => ?_)
      have ty_9 : y_9.toInt = y_8.toInt + (1 : Int32).toInt := by rw [ey_9]; exact addI (by omega) (by omega)
      refine lv_goto (tgt := 42) hx hb dB_3_0_6.2.2.1 (by decide) ?_
      rw [hQ]
      exact W.iret (v := y_9) hx hb hr (fun t ht hW => ⟨⟨y_9, (), rfl, (by unfold cst; (repeat' split) <;> omega), trivial⟩, hS.F ht⟩) hS.2.2 dB_3_0_6.2.2.2.2
  · have t_3 : y_2.toInt = (3 : Int32).toInt := congrArg Int32.toInt c_3
    refine lv_aload_n hx hb dB_3_0_5.1.2.2.1 rfl (lv_at hl 0 rfl) ?_
    refine va_get (ci := 12) (v := .ref g9) (C := RX12) (T := TX12) (N := 34) hx hb hts (fun _ h => List.mem_cons_of_mem _ (List.mem_append_right _ h)) hown hK.1 hP 0 rfl rfl 9 (by decide) (hts (.fieldLink RX12 22 "CutAtlasModel" "price" "[I") (List.mem_of_getElem? (i := 2) rfl)) (fun _ h9 => h9) rfl dB_3_0_5.1.2.2.2 ?_
    refine lv_iload_n hx hb dB_3_0_5.2.1.1.1 rfl (lv_at hl 1 rfl) ?_
    refine va_iald hx hb hK.1 hP 2 0 rfl rfl (i := a1) h_1 dB_3_0_5.2.1.1.2 ?_
    refine lv_topi (fun y_11 ey_11 => ?_)
    have ky_11 : y_11.toInt = (f9 a1.toNatClampNeg).toInt := by rw [ey_11]
    have ry_11 : 0 ≤ y_11.toInt ∧ y_11.toInt ≤ 100 := by rw [ey_11]; exact r_f9 _ (in_lt h_1)
    refine lv_goto (tgt := 42) hx hb dB_3_0_5.2.1.2.1 (by decide) ?_
    rw [hQ]
    exact W.iret (v := y_11) hx hb hr (fun t ht hW => ⟨⟨y_11, (), rfl, (by unfold cst; (repeat' split) <;> omega), trivial⟩, hS.F ht⟩) hS.2.2 dB_3_0_6.2.2.2.2

set_option maxHeartbeats 4000000 in
set_option maxRecDepth 100000 in
theorem c_X12_step2 (l : Launch) (D : va_G) (cy : Nat → ClassId) (sz : Nat) (mo : Nat) (g5 : Nat) (g6 : Nat) (g7 : Nat) (g8 : Nat) (g9 : Nat) (g10 : Nat) (g12 : Nat) (g13 : Nat) (g14 : Nat) (g15 : Nat) (g16 : Nat) (g17 : Nat) (g18 : Nat) (g19 : Nat) (g20 : Nat) (g22 : Nat) (g23 : Nat) (g24 : Nat) (g29 : Nat) (g30 : Nat) (g31 : Nat) (g32 : Nat) (g33 : Nat) (s0 : Int32) (s1 : Int32) (s3 : Int32) (s4 : Int32) (s11 : Int32) (s21 : Int32) (s25 : Int32) (s26 : Int32) (s27 : Int32) (s28 : Int32) (t2 : Int64) (f5 : Nat → Int32) (f8 : Nat → Int32) (f9 : Nat → Int32) (f22 : Nat → Int32) (a1 : Int32) (a2 : Int32) (q1 : 0 ≤ a1.toInt ∧ a1.toInt < 40) (h21 : s21.toInt = -9) (q2 : a2.toInt = 0 ∨ a2.toInt = 1) (hf : -1000 ≤ (f22 a1.toNatClampNeg).toInt ∧ (f22 a1.toNatClampNeg).toInt ≤ 1000) (r_f8 : rng f8 40 (0) (2000)) (r_f9 : rng f9 40 (0) (100)) : Met l yX12_step wsX12_step ({ frames := 2, cells := 0, slots := 0, locals := 46 }) (va_Pc [.ref mo, .int a1, .int a2] (fun U => U.heap.size = sz ∧ va_P D vwCl [ob12_0_ mo s0 s1 t2 s3 s4 g5 g6 g7 g8 g9 g10 s11 g12 g13 g14 g15 g16 g17 g18 g19 g20 s21 g22 g23 g24 s25 s26 s27 s28 g29 g30 g31 g32 g33, ai_ cy g5 40 f5, ai_ cy g8 40 f8, ai_ cy g9 40 f9, ai_ cy g22 40 f22] U.heap ∧ kk_ D cy U ∧ va_D (fun _ => True) [ob12_0_ mo s0 s1 t2 s3 s4 g5 g6 g7 g8 g9 g10 s11 g12 g13 g14 g15 g16 g17 g18 g19 g20 s21 g22 g23 g24 s25 s26 s27 s28 g29 g30 g31 g32 g33, ai_ cy g5 40 f5, ai_ cy g8 40 f8, ai_ cy g9 40 f9, ai_ cy g22 40 f22])) (va_Ql (fun (r : Int64) (_ : Unit) => (r.toInt = eS f5 f8 f9 f22 a1.toNatClampNeg a2.toInt)) (fun (_ : Unit) (_ : State) => True) (va_A [] sz)) 0 0 (va_A [] sz) := by
  refine ofQ (cc := cX12_step) (maxL := 7) (ret := (some .long)) (by decide) rfl ?_
  intro p e s m args below meth c s₁ Q hQ B hml hv
  obtain ⟨rfl, hsz, hP, hK, hD0⟩ := hv
  have hx := B.exec
  have hb := B.bytes
  have hr := B.returns
  have hts := atoms_spec (ws := wsX12_step) B.pre
  have hown : s.vm.findClass RX12 = some m.cls := by have h_ := findClass_of_methodNamed B.named; exact h_
  have hlocks := B.notSynchronized
  subst hsz
  have hD : va_D (va_A [] s.heap.size) [] := dd_nil
  generalize hAe : va_A [] s.heap.size = A at hD hQ
  have hA : ∀ q : Nat, s.heap.size ≤ q → A q := fun q h => by rw [← hAe]; exact Or.inr h
  have hS : va_S A s.heap s.heap [] := va_S.rf
  have hl := lv_entry ([.ref mo, .int a1, .int a2]) (n := 7) (Nat.le_of_ble_eq_true rfl)
  rw [lg_entry_eq]
  generalize (lg_sl ([.ref mo, .int a1, .int a2]) ++ List.replicate (7 - (lg_sl ([.ref mo, .int a1, .int a2])).length) Slot.unset).toArray = ls at hl ⊢
  have hl : lv_has ls 7 [(0, .ref mo), (1, .int a1), (2, .int a2)] := hl
  have zm9 : ((-9) : Int32).toInt = -9 := by decide
  have z0 : (0 : Int32).toInt = 0 := by decide
  have zl0 : (0 : Int64).toInt = 0 := by decide
  have z1 : (1 : Int32).toInt = 1 := by decide
  have zl1000000 : (1000000 : Int64).toInt = 1000000 := by decide
  have hv : vp_in a1 40 := in_I (by omega) (by omega)
  have fw := r_f8 _ (in_lt hv)
  have w1 := rmI_rng (k := f5 a1.toNatClampNeg) (b := 1) fw.1 fw.2
  have w0 := rmI_rng (k := f5 a1.toNatClampNeg) (b := 0) fw.1 fw.2
  have f9_ := r_f9 _ (in_lt hv)
  have cr_ := cst_rng (k := (f5 a1.toNatClampNeg).toInt) f9_.1 f9_.2
  rcases b01 q2 with rfl | rfl
  · refine lv_iload_n hx hb dB_3_1_65.1.1.1.1 rfl (lv_at hl 2 rfl) ?_
    refine lv_if_eq (tgt := 13) hx hb dB_3_1_65.1.1.1.2 (by decide) (fun c_1 => ?_) (fun c_1 => ?_)
    · have _ := c_1
      refine lv_aload_n hx hb dB_3_1_65.1.2.2.2 rfl (lv_at hl 0 rfl) ?_
      refine va_get (ci := 12) (v := .ref g22) (C := RX12) (T := TX12) (N := 34) hx hb hts (fun _ h => List.mem_cons_of_mem _ (List.mem_append_right _ h)) hown hK.1 hP 0 rfl rfl 22 (by decide) (hts (.fieldLink RX12 61 "CutAtlasModel" "flows" "[I") (List.mem_of_getElem? (i := 1) rfl)) (fun _ h9 => h9) rfl dB_3_1_65.2.1.1.1 ?_
      refine lv_iload_n hx hb dB_3_1_65.2.1.1.2 rfl (lv_at hl 1 rfl) ?_
      have h_2 : vp_in a1 40 := in_I (by first | with_reducible assumption | omega) (by omega)
      refine va_iald hx hb hK.1 hP 4 0 rfl rfl (i := a1) h_2 dB_3_1_65.2.1.2.1 ?_
      refine lv_topi (fun y_3 ey_3 => ?_)
      have ky_3 : y_3.toInt = (f22 a1.toNatClampNeg).toInt := by rw [ey_3]
      refine lv_ineg hx hb dB_3_1_65.2.1.2.2 ?_
      refine lv_topi (fun y_4 ey_4 => ?_)
      have ty_4 : y_4.toInt = - y_3.toInt := by rw [ey_4]; exact negI (by omega)
      refine lv_istore_n (lv' := [(3, .int y_4), (0, .ref mo), (1, .int a1), (2, .int 0)]) hx hb dB_3_1_65.2.2.1.1 rfl hl (by decide) rfl (fun ls hl => ?_)
      refine lv_aload_n hx hb dB_3_1_65.2.2.1.2 rfl (lv_at hl 1 rfl) ?_
      refine lv_iload_n hx hb dB_3_1_65.2.2.2.1 rfl (lv_at hl 2 rfl) ?_
      refine lv_iload_n hx hb dB_3_1_65.2.2.2.2 rfl (lv_at hl 3 rfl) ?_
      refine ct_R hP hD0 [ob12_0_ mo s0 s1 t2 s3 s4 g5 g6 g7 g8 g9 g10 s11 g12 g13 g14 g15 g16 g17 g18 g19 g20 s21 g22 g23 g24 s25 s26 s27 s28 g29 g30 g31 g32 g33, ai_ cy g5 40 f5, ai_ cy g8 40 f8] [0, 1, 2] (by decide) rfl (fun hPc hDw => ?_)
      have hFc := va_free (wc := []) hD hS hA [] rfl
      refine va_calli (va_runV (As := [.int a1, .int 0]) (rest := []) ⟨hx, hb, hml, hown, hts⟩ (c_X12_room l D cy s.heap.size mo g5 g6 g7 g8 g9 g10 g12 g13 g14 g15 g16 g17 g18 g19 g20 g22 g23 g24 g29 g30 g31 g32 g33 s0 s1 s3 s4 s11 s21 s25 s26 s27 s28 t2 f5 f8 a1 (0 : Int32) (by first | with_reducible assumption | omega | assumption)) (cwV 2 hts gX12_step_X12_room rfl rfl rfl ⟨rfl, hd_X12_room⟩ ⟨Nat.le_of_ble_eq_true rfl, Nat.le_of_ble_eq_true rfl⟩) ⟨bl_, va_recvX hK.1 hP (ci := 12) (q0 := 0) rfl rfl, fun U hU hW => ⟨rfl, by rw [hU], by rw [hU]; exact hPc, kk_mv hW hK, hDw⟩⟩ rfl rfl hl.1 rfl (lv_room (Nat.le_of_ble_eq_true rfl)) dB_3_1_66.1.1 ⟨Nat.le_of_ble_eq_true rfl, Nat.le_of_ble_eq_true rfl⟩) hS (fun q _ h => hFc q h) hFc (fun r_5 u t H locs ht hvm hw hB hz1 hk1 hS => ?_)
      have hP : va_P D vwCl _ H := ro_keep hP hk1
      have f0_r_5 := hw
      have rI_1 := room_I (r := r_5) (by assumption) (by omega) (by omega) (r_f8 _ (in_lt (in_I (by omega) (by omega))))
      refine lv_istore (lv' := [(4, .int r_5), (3, .int y_4), (0, .ref mo), (1, .int a1), (2, .int 0)]) hx hb dB_3_1_66.1.2.1 hl (by decide) rfl (fun ls hl => ?_)
      refine lv_aload_n hx hb dB_3_1_66.1.2.2 rfl (lv_at hl 2 rfl) ?_
      refine lv_iload_n hx hb dB_3_1_66.2.1 rfl (lv_at hl 3 rfl) ?_
      refine lv_iload_n hx hb dB_3_1_66.2.2.1 rfl (lv_at hl 4 rfl) ?_
      refine lv_if_ne (tgt := 39) hx hb dB_3_1_66.2.2.2 (by decide) (fun c_6 => ?_) (fun c_6 => ?_)
      · exact absurd c_6 (by decide)
      · have _ := c_6
        refine lv_iconst (v := 1) hx hb dB_3_2_51.1.1.1.1 (by decide) ?_
        refine lv_goto (tgt := 40) hx hb dB_3_2_51.1.1.1.2 (by decide) ?_
        refine ct_R hP hD0 [ob12_0_ mo s0 s1 t2 s3 s4 g5 g6 g7 g8 g9 g10 s11 g12 g13 g14 g15 g16 g17 g18 g19 g20 s21 g22 g23 g24 s25 s26 s27 s28 g29 g30 g31 g32 g33, ai_ cy g5 40 f5, ai_ cy g8 40 f8] [0, 1, 2] (by decide) rfl (fun hPc hDw => ?_)
        have hFc := va_free (wc := []) hD hS hA [] rfl
        refine va_calli (va_runV (As := [.int a1, .int 1]) (rest := []) ⟨hx, hb, hml, hown, hts⟩ (c_X12_room l D cy H.size mo g5 g6 g7 g8 g9 g10 g12 g13 g14 g15 g16 g17 g18 g19 g20 g22 g23 g24 g29 g30 g31 g32 g33 s0 s1 s3 s4 s11 s21 s25 s26 s27 s28 t2 f5 f8 a1 (1 : Int32) (by first | with_reducible assumption | omega | assumption)) (cwV 2 hts gX12_step_X12_room rfl rfl rfl ⟨rfl, hd_X12_room⟩ ⟨Nat.le_of_ble_eq_true rfl, Nat.le_of_ble_eq_true rfl⟩) ⟨bl_, va_recvX hK.1 hP (ci := 12) (q0 := 0) rfl rfl, fun U hU hW => ⟨rfl, by rw [hU], by rw [hU]; exact hPc, kk_mv hW hK, hDw⟩⟩ rfl rfl hl.1 rfl (lv_room (Nat.le_of_ble_eq_true rfl)) dB_3_2_51.1.1.2.2 ⟨Nat.le_of_ble_eq_true rfl, Nat.le_of_ble_eq_true rfl⟩) hS (fun q _ h => hFc q h) hFc (fun r_7 u t H locs ht hvm hw hB hz1 hk1 hS => ?_)
        have hP : va_P D vwCl _ H := ro_keep hP hk1
        have f0_r_7 := hw
        have rI_2 := room_I (r := r_7) (by assumption) (by omega) (by omega) (r_f8 _ (in_lt (in_I (by omega) (by omega))))
        refine lv_istore (lv' := [(5, .int r_7), (4, .int r_5), (3, .int y_4), (0, .ref mo), (1, .int a1), (2, .int 0)]) hx hb dB_3_2_51.1.2.1.1 hl (by decide) rfl (fun ls hl => ?_)
        refine lv_aload_n hx hb dB_3_2_51.1.2.1.2 rfl (lv_at hl 3 rfl) ?_
        refine lv_iload_n hx hb dB_3_2_51.1.2.2.1 rfl (lv_at hl 4 rfl) ?_
        refine ct_R hP hD0 [ob12_0_ mo s0 s1 t2 s3 s4 g5 g6 g7 g8 g9 g10 s11 g12 g13 g14 g15 g16 g17 g18 g19 g20 s21 g22 g23 g24 s25 s26 s27 s28 g29 g30 g31 g32 g33, ai_ cy g5 40 f5, ai_ cy g9 40 f9] [0, 1, 3] (by decide) rfl (fun hPc hDw => ?_)
        have hFc := va_free (wc := []) hD hS hA [] rfl
        refine va_calli (va_runV (As := [.int a1]) (rest := []) ⟨hx, hb, hml, hown, hts⟩ (c_X12_costs2 l D cy H.size mo g5 g6 g7 g8 g9 g10 g12 g13 g14 g15 g16 g17 g18 g19 g20 g22 g23 g24 g29 g30 g31 g32 g33 s0 s1 s3 s4 s11 s21 s25 s26 s27 s28 t2 f5 f9 a1 (by first | with_reducible assumption | omega | assumption) (by first | with_reducible assumption | assumption | omega)) (cwV 1 hts gX12_step_X12_costs rfl rfl rfl ⟨rfl, hd_X12_costs⟩ ⟨Nat.le_of_ble_eq_true rfl, Nat.le_of_ble_eq_true rfl⟩) ⟨bl_, va_recvX hK.1 hP (ci := 12) (q0 := 0) rfl rfl, fun U hU hW => ⟨rfl, by rw [hU], by rw [hU]; exact hPc, kk_mv hW hK, hDw⟩⟩ rfl rfl hl.1 rfl (lv_room (Nat.le_of_ble_eq_true rfl)) dB_3_2_51.1.2.2.2 ⟨Nat.le_of_ble_eq_true rfl, Nat.le_of_ble_eq_true rfl⟩) hS (fun q _ h => hFc q h) hFc (fun r_8 u t H locs ht hvm hw hB hz1 hk1 hS => ?_)
        have hP : va_P D vwCl _ H := ro_keep hP hk1
        have f0_r_8 := hw
        refine lv_istore (lv' := [(6, .int r_8), (5, .int r_7), (4, .int r_5), (3, .int y_4), (0, .ref mo), (1, .int a1), (2, .int 0)]) hx hb dB_3_2_51.2.1.1.1 hl (by decide) rfl (fun ls hl => ?_)
        refine lv_iload_n hx hb dB_3_2_51.2.1.1.2 rfl (lv_at hl 3 rfl) ?_
        refine lv_if_ge (tgt := 68) hx hb dB_3_2_51.2.1.2.1 (by decide) (fun c_9 => ?_) (fun c_9 => ?_)
        · have t_9 : (0 : Int32).toInt ≤ y_4.toInt := Int32.le_iff_toInt_le.mp c_9
          refine lv_iload_n hx hb dB_3_2_52.1.1.2.2 rfl (lv_at hl 3 rfl) ?_
          refine lv_iload hx hb dB_3_2_52.1.2.1.1 (lv_at hl 2 rfl) ?_
          refine lv_icmp_ge (tgt := 78) hx hb dB_3_2_52.1.2.1.2 (by decide) (fun c_10 => ?_) (fun c_10 => ?_)
          · have t_10 : r_5.toInt ≤ y_4.toInt := Int32.le_iff_toInt_le.mp c_10
            refine lv_iload hx hb dB_3_2_52.2.1.1.1 (lv_at hl 0 rfl) ?_
            refine lv_bipush (v := (-9)) hx hb dB_3_2_52.2.1.1.2 (by decide) ?_
            refine lv_icmp_ne (tgt := 91) hx hb dB_3_2_52.2.1.2.1 (by decide) (fun c_11 => ?_) (fun c_11 => ?_)
            · have t_11 : ¬ r_8.toInt = ((-9) : Int32).toInt := fun h => c_11 (Int32.toInt_inj.mp h)
              refine lv_iload hx hb dB_3_2_52.2.2.1.2 (lv_at hl 0 rfl) ?_
              refine lv_i2l (v := r_8.toInt64) hx hb dB_3_2_52.2.2.2.1 rfl ?_
              have q_93 : (r_8.toInt64).toInt = r_8.toInt := Int32.toInt_toInt64 r_8
              rw [hQ]
              exact W.lret (v := r_8.toInt64) hx hb hr (fun t ht hW => ⟨⟨r_8.toInt64, (), rfl, (by unfold eS stI; (repeat' split) <;> omega), trivial⟩, hS.F ht⟩) hS.2.2 dB_3_2_52.2.2.2.2
            · have t_11 : r_8.toInt = ((-9) : Int32).toInt := congrArg Int32.toInt c_11
              refine lv_ldc2 (v := 1000000) hx hb hown (hts (.constantLong RX12 118 (1000000)) (List.mem_of_getElem? (i := 2) rfl)) dB_3_2_52.2.1.2.2 ?_
              refine lv_goto (tgt := 94) hx hb dB_3_2_52.2.2.1.1 (by decide) ?_
              rw [hQ]
              exact W.lret (v := 1000000) hx hb hr (fun t ht hW => ⟨⟨1000000, (), rfl, (by unfold eS stI; (repeat' split) <;> omega), trivial⟩, hS.F ht⟩) hS.2.2 dB_3_2_52.2.2.2.2
          · have t_10 : ¬ r_5.toInt ≤ y_4.toInt := fun h => c_10 (Int32.le_iff_toInt_le.mpr h)
            refine lv_lconst (v := 0) hx hb dB_3_2_52.1.2.2.1 (by decide) ?_
            refine lv_goto (tgt := 94) hx hb dB_3_2_52.1.2.2.2 (by decide) ?_
            rw [hQ]
            exact W.lret (v := 0) hx hb hr (fun t ht hW => ⟨⟨0, (), rfl, (by unfold eS stI; (repeat' split) <;> omega), trivial⟩, hS.F ht⟩) hS.2.2 dB_3_2_52.2.2.2.2
        · have t_9 : ¬ (0 : Int32).toInt ≤ y_4.toInt := fun h => c_9 (Int32.le_iff_toInt_le.mpr h)
          refine lv_iload_n hx hb dB_3_2_51.2.1.2.2 rfl (lv_at hl 3 rfl) ?_
          refine lv_ineg hx hb dB_3_2_51.2.2.1.1 ?_
          refine lv_topi (fun y_12 ey_12 => ?_)
          have ty_12 : y_12.toInt = - y_4.toInt := by rw [ey_12]; exact negI (by omega)
          refine lv_iload hx hb dB_3_2_51.2.2.1.2 (lv_at hl 1 rfl) ?_
          refine lv_icmp_le (tgt := 68) hx hb dB_3_2_51.2.2.2.1 (by decide) (fun c_13 => ?_) (fun c_13 => ?_)
          · have t_13 : y_12.toInt ≤ r_7.toInt := Int32.le_iff_toInt_le.mp c_13
            refine lv_iload_n hx hb dB_3_2_52.1.1.2.2 rfl (lv_at hl 3 rfl) ?_
            refine lv_iload hx hb dB_3_2_52.1.2.1.1 (lv_at hl 2 rfl) ?_
            refine lv_icmp_ge (tgt := 78) hx hb dB_3_2_52.1.2.1.2 (by decide) (fun c_14 => ?_) (fun c_14 => ?_)
            · have t_14 : r_5.toInt ≤ y_4.toInt := Int32.le_iff_toInt_le.mp c_14
              refine lv_iload hx hb dB_3_2_52.2.1.1.1 (lv_at hl 0 rfl) ?_
              refine lv_bipush (v := (-9)) hx hb dB_3_2_52.2.1.1.2 (by decide) ?_
              refine lv_icmp_ne (tgt := 91) hx hb dB_3_2_52.2.1.2.1 (by decide) (fun c_15 => ?_) (fun c_15 => ?_)
              · have t_15 : ¬ r_8.toInt = ((-9) : Int32).toInt := fun h => c_15 (Int32.toInt_inj.mp h)
                refine lv_iload hx hb dB_3_2_52.2.2.1.2 (lv_at hl 0 rfl) ?_
                refine lv_i2l (v := r_8.toInt64) hx hb dB_3_2_52.2.2.2.1 rfl ?_
                have q_93 : (r_8.toInt64).toInt = r_8.toInt := Int32.toInt_toInt64 r_8
                rw [hQ]
                exact W.lret (v := r_8.toInt64) hx hb hr (fun t ht hW => ⟨⟨r_8.toInt64, (), rfl, (by unfold eS stI; (repeat' split) <;> omega), trivial⟩, hS.F ht⟩) hS.2.2 dB_3_2_52.2.2.2.2
              · have t_15 : r_8.toInt = ((-9) : Int32).toInt := congrArg Int32.toInt c_15
                refine lv_ldc2 (v := 1000000) hx hb hown (hts (.constantLong RX12 118 (1000000)) (List.mem_of_getElem? (i := 2) rfl)) dB_3_2_52.2.1.2.2 ?_
                refine lv_goto (tgt := 94) hx hb dB_3_2_52.2.2.1.1 (by decide) ?_
                rw [hQ]
                exact W.lret (v := 1000000) hx hb hr (fun t ht hW => ⟨⟨1000000, (), rfl, (by unfold eS stI; (repeat' split) <;> omega), trivial⟩, hS.F ht⟩) hS.2.2 dB_3_2_52.2.2.2.2
            · have t_14 : ¬ r_5.toInt ≤ y_4.toInt := fun h => c_14 (Int32.le_iff_toInt_le.mpr h)
              refine lv_lconst (v := 0) hx hb dB_3_2_52.1.2.2.1 (by decide) ?_
              refine lv_goto (tgt := 94) hx hb dB_3_2_52.1.2.2.2 (by decide) ?_
              rw [hQ]
              exact W.lret (v := 0) hx hb hr (fun t ht hW => ⟨⟨0, (), rfl, (by unfold eS stI; (repeat' split) <;> omega), trivial⟩, hS.F ht⟩) hS.2.2 dB_3_2_52.2.2.2.2
          · have t_13 : ¬ y_12.toInt ≤ r_7.toInt := fun h => c_13 (Int32.le_iff_toInt_le.mpr h)
            refine lv_iload hx hb dB_3_2_51.2.2.2.2 (lv_at hl 0 rfl) ?_
            refine lv_ineg hx hb dB_3_2_52.1.1.1.1 ?_
            refine lv_topi (fun y_16 ey_16 => ?_)
            have ty_16 : y_16.toInt = - r_8.toInt := by rw [ey_16]; exact negI (by omega)
            refine lv_i2l (v := y_16.toInt64) hx hb dB_3_2_52.1.1.1.2 rfl ?_
            have q_66 : (y_16.toInt64).toInt = y_16.toInt := Int32.toInt_toInt64 y_16
            rw [hQ]
            exact W.lret (v := y_16.toInt64) hx hb hr (fun t ht hW => ⟨⟨y_16.toInt64, (), rfl, (by unfold eS stI; (repeat' split) <;> omega), trivial⟩, hS.F ht⟩) hS.2.2 dB_3_2_52.1.1.2.1
    · exact absurd c_1 (by decide)
  · refine lv_iload_n hx hb dB_3_1_65.1.1.1.1 rfl (lv_at hl 2 rfl) ?_
    refine lv_if_eq (tgt := 13) hx hb dB_3_1_65.1.1.1.2 (by decide) (fun c_17 => ?_) (fun c_17 => ?_)
    · exact absurd c_17 (by decide)
    · have _ := c_17
      refine lv_aload_n hx hb dB_3_1_65.1.1.2.1 rfl (lv_at hl 0 rfl) ?_
      refine va_get (ci := 12) (v := .ref g22) (C := RX12) (T := TX12) (N := 34) hx hb hts (fun _ h => List.mem_cons_of_mem _ (List.mem_append_right _ h)) hown hK.1 hP 0 rfl rfl 22 (by decide) (hts (.fieldLink RX12 61 "CutAtlasModel" "flows" "[I") (List.mem_of_getElem? (i := 1) rfl)) (fun _ h9 => h9) rfl dB_3_1_65.1.1.2.2 ?_
      refine lv_iload_n hx hb dB_3_1_65.1.2.1.1 rfl (lv_at hl 1 rfl) ?_
      have h_18 : vp_in a1 40 := in_I (by first | with_reducible assumption | omega) (by omega)
      refine va_iald hx hb hK.1 hP 4 0 rfl rfl (i := a1) h_18 dB_3_1_65.1.2.1.2 ?_
      refine lv_topi (fun y_19 ey_19 => ?_)
      have ky_19 : y_19.toInt = (f22 a1.toNatClampNeg).toInt := by rw [ey_19]
      refine lv_goto (tgt := 20) hx hb dB_3_1_65.1.2.2.1 (by decide) ?_
      refine lv_istore_n (lv' := [(3, .int y_19), (0, .ref mo), (1, .int a1), (2, .int 1)]) hx hb dB_3_1_65.2.2.1.1 rfl hl (by decide) rfl (fun ls hl => ?_)
      refine lv_aload_n hx hb dB_3_1_65.2.2.1.2 rfl (lv_at hl 1 rfl) ?_
      refine lv_iload_n hx hb dB_3_1_65.2.2.2.1 rfl (lv_at hl 2 rfl) ?_
      refine lv_iload_n hx hb dB_3_1_65.2.2.2.2 rfl (lv_at hl 3 rfl) ?_
      refine ct_R hP hD0 [ob12_0_ mo s0 s1 t2 s3 s4 g5 g6 g7 g8 g9 g10 s11 g12 g13 g14 g15 g16 g17 g18 g19 g20 s21 g22 g23 g24 s25 s26 s27 s28 g29 g30 g31 g32 g33, ai_ cy g5 40 f5, ai_ cy g8 40 f8] [0, 1, 2] (by decide) rfl (fun hPc hDw => ?_)
      have hFc := va_free (wc := []) hD hS hA [] rfl
      refine va_calli (va_runV (As := [.int a1, .int 1]) (rest := []) ⟨hx, hb, hml, hown, hts⟩ (c_X12_room l D cy s.heap.size mo g5 g6 g7 g8 g9 g10 g12 g13 g14 g15 g16 g17 g18 g19 g20 g22 g23 g24 g29 g30 g31 g32 g33 s0 s1 s3 s4 s11 s21 s25 s26 s27 s28 t2 f5 f8 a1 (1 : Int32) (by first | with_reducible assumption | omega | assumption)) (cwV 2 hts gX12_step_X12_room rfl rfl rfl ⟨rfl, hd_X12_room⟩ ⟨Nat.le_of_ble_eq_true rfl, Nat.le_of_ble_eq_true rfl⟩) ⟨bl_, va_recvX hK.1 hP (ci := 12) (q0 := 0) rfl rfl, fun U hU hW => ⟨rfl, by rw [hU], by rw [hU]; exact hPc, kk_mv hW hK, hDw⟩⟩ rfl rfl hl.1 rfl (lv_room (Nat.le_of_ble_eq_true rfl)) dB_3_1_66.1.1 ⟨Nat.le_of_ble_eq_true rfl, Nat.le_of_ble_eq_true rfl⟩) hS (fun q _ h => hFc q h) hFc (fun r_20 u t H locs ht hvm hw hB hz1 hk1 hS => ?_)
      have hP : va_P D vwCl _ H := ro_keep hP hk1
      have f0_r_20 := hw
      have rI_1 := room_I (r := r_20) (by assumption) (by omega) (by omega) (r_f8 _ (in_lt (in_I (by omega) (by omega))))
      refine lv_istore (lv' := [(4, .int r_20), (3, .int y_19), (0, .ref mo), (1, .int a1), (2, .int 1)]) hx hb dB_3_1_66.1.2.1 hl (by decide) rfl (fun ls hl => ?_)
      refine lv_aload_n hx hb dB_3_1_66.1.2.2 rfl (lv_at hl 2 rfl) ?_
      refine lv_iload_n hx hb dB_3_1_66.2.1 rfl (lv_at hl 3 rfl) ?_
      refine lv_iload_n hx hb dB_3_1_66.2.2.1 rfl (lv_at hl 4 rfl) ?_
      refine lv_if_ne (tgt := 39) hx hb dB_3_1_66.2.2.2 (by decide) (fun c_21 => ?_) (fun c_21 => ?_)
      · have _ := c_21
        refine lv_iconst (v := 0) hx hb dB_3_2_51.1.1.2.1 (by decide) ?_
        refine ct_R hP hD0 [ob12_0_ mo s0 s1 t2 s3 s4 g5 g6 g7 g8 g9 g10 s11 g12 g13 g14 g15 g16 g17 g18 g19 g20 s21 g22 g23 g24 s25 s26 s27 s28 g29 g30 g31 g32 g33, ai_ cy g5 40 f5, ai_ cy g8 40 f8] [0, 1, 2] (by decide) rfl (fun hPc hDw => ?_)
        have hFc := va_free (wc := []) hD hS hA [] rfl
        refine va_calli (va_runV (As := [.int a1, .int 0]) (rest := []) ⟨hx, hb, hml, hown, hts⟩ (c_X12_room l D cy H.size mo g5 g6 g7 g8 g9 g10 g12 g13 g14 g15 g16 g17 g18 g19 g20 g22 g23 g24 g29 g30 g31 g32 g33 s0 s1 s3 s4 s11 s21 s25 s26 s27 s28 t2 f5 f8 a1 (0 : Int32) (by first | with_reducible assumption | omega | assumption)) (cwV 2 hts gX12_step_X12_room rfl rfl rfl ⟨rfl, hd_X12_room⟩ ⟨Nat.le_of_ble_eq_true rfl, Nat.le_of_ble_eq_true rfl⟩) ⟨bl_, va_recvX hK.1 hP (ci := 12) (q0 := 0) rfl rfl, fun U hU hW => ⟨rfl, by rw [hU], by rw [hU]; exact hPc, kk_mv hW hK, hDw⟩⟩ rfl rfl hl.1 rfl (lv_room (Nat.le_of_ble_eq_true rfl)) dB_3_2_51.1.1.2.2 ⟨Nat.le_of_ble_eq_true rfl, Nat.le_of_ble_eq_true rfl⟩) hS (fun q _ h => hFc q h) hFc (fun r_22 u t H locs ht hvm hw hB hz1 hk1 hS => ?_)
        have hP : va_P D vwCl _ H := ro_keep hP hk1
        have f0_r_22 := hw
        have rI_2 := room_I (r := r_22) (by assumption) (by omega) (by omega) (r_f8 _ (in_lt (in_I (by omega) (by omega))))
        refine lv_istore (lv' := [(5, .int r_22), (4, .int r_20), (3, .int y_19), (0, .ref mo), (1, .int a1), (2, .int 1)]) hx hb dB_3_2_51.1.2.1.1 hl (by decide) rfl (fun ls hl => ?_)
        refine lv_aload_n hx hb dB_3_2_51.1.2.1.2 rfl (lv_at hl 3 rfl) ?_
        refine lv_iload_n hx hb dB_3_2_51.1.2.2.1 rfl (lv_at hl 4 rfl) ?_
        refine ct_R hP hD0 [ob12_0_ mo s0 s1 t2 s3 s4 g5 g6 g7 g8 g9 g10 s11 g12 g13 g14 g15 g16 g17 g18 g19 g20 s21 g22 g23 g24 s25 s26 s27 s28 g29 g30 g31 g32 g33, ai_ cy g5 40 f5, ai_ cy g9 40 f9] [0, 1, 3] (by decide) rfl (fun hPc hDw => ?_)
        have hFc := va_free (wc := []) hD hS hA [] rfl
        refine va_calli (va_runV (As := [.int a1]) (rest := []) ⟨hx, hb, hml, hown, hts⟩ (c_X12_costs2 l D cy H.size mo g5 g6 g7 g8 g9 g10 g12 g13 g14 g15 g16 g17 g18 g19 g20 g22 g23 g24 g29 g30 g31 g32 g33 s0 s1 s3 s4 s11 s21 s25 s26 s27 s28 t2 f5 f9 a1 (by first | with_reducible assumption | omega | assumption) (by first | with_reducible assumption | assumption | omega)) (cwV 1 hts gX12_step_X12_costs rfl rfl rfl ⟨rfl, hd_X12_costs⟩ ⟨Nat.le_of_ble_eq_true rfl, Nat.le_of_ble_eq_true rfl⟩) ⟨bl_, va_recvX hK.1 hP (ci := 12) (q0 := 0) rfl rfl, fun U hU hW => ⟨rfl, by rw [hU], by rw [hU]; exact hPc, kk_mv hW hK, hDw⟩⟩ rfl rfl hl.1 rfl (lv_room (Nat.le_of_ble_eq_true rfl)) dB_3_2_51.1.2.2.2 ⟨Nat.le_of_ble_eq_true rfl, Nat.le_of_ble_eq_true rfl⟩) hS (fun q _ h => hFc q h) hFc (fun r_23 u t H locs ht hvm hw hB hz1 hk1 hS => ?_)
        have hP : va_P D vwCl _ H := ro_keep hP hk1
        have f0_r_23 := hw
        refine lv_istore (lv' := [(6, .int r_23), (5, .int r_22), (4, .int r_20), (3, .int y_19), (0, .ref mo), (1, .int a1), (2, .int 1)]) hx hb dB_3_2_51.2.1.1.1 hl (by decide) rfl (fun ls hl => ?_)
        refine lv_iload_n hx hb dB_3_2_51.2.1.1.2 rfl (lv_at hl 3 rfl) ?_
        refine lv_if_ge (tgt := 68) hx hb dB_3_2_51.2.1.2.1 (by decide) (fun c_24 => ?_) (fun c_24 => ?_)
        · have t_24 : (0 : Int32).toInt ≤ y_19.toInt := Int32.le_iff_toInt_le.mp c_24
          refine lv_iload_n hx hb dB_3_2_52.1.1.2.2 rfl (lv_at hl 3 rfl) ?_
          refine lv_iload hx hb dB_3_2_52.1.2.1.1 (lv_at hl 2 rfl) ?_
          refine lv_icmp_ge (tgt := 78) hx hb dB_3_2_52.1.2.1.2 (by decide) (fun c_25 => ?_) (fun c_25 => ?_)
          · have t_25 : r_20.toInt ≤ y_19.toInt := Int32.le_iff_toInt_le.mp c_25
            refine lv_iload hx hb dB_3_2_52.2.1.1.1 (lv_at hl 0 rfl) ?_
            refine lv_bipush (v := (-9)) hx hb dB_3_2_52.2.1.1.2 (by decide) ?_
            refine lv_icmp_ne (tgt := 91) hx hb dB_3_2_52.2.1.2.1 (by decide) (fun c_26 => ?_) (fun c_26 => ?_)
            · have t_26 : ¬ r_23.toInt = ((-9) : Int32).toInt := fun h => c_26 (Int32.toInt_inj.mp h)
              refine lv_iload hx hb dB_3_2_52.2.2.1.2 (lv_at hl 0 rfl) ?_
              refine lv_i2l (v := r_23.toInt64) hx hb dB_3_2_52.2.2.2.1 rfl ?_
              have q_93 : (r_23.toInt64).toInt = r_23.toInt := Int32.toInt_toInt64 r_23
              rw [hQ]
              exact W.lret (v := r_23.toInt64) hx hb hr (fun t ht hW => ⟨⟨r_23.toInt64, (), rfl, (by unfold eS stI; (repeat' split) <;> omega), trivial⟩, hS.F ht⟩) hS.2.2 dB_3_2_52.2.2.2.2
            · have t_26 : r_23.toInt = ((-9) : Int32).toInt := congrArg Int32.toInt c_26
              refine lv_ldc2 (v := 1000000) hx hb hown (hts (.constantLong RX12 118 (1000000)) (List.mem_of_getElem? (i := 2) rfl)) dB_3_2_52.2.1.2.2 ?_
              refine lv_goto (tgt := 94) hx hb dB_3_2_52.2.2.1.1 (by decide) ?_
              rw [hQ]
              exact W.lret (v := 1000000) hx hb hr (fun t ht hW => ⟨⟨1000000, (), rfl, (by unfold eS stI; (repeat' split) <;> omega), trivial⟩, hS.F ht⟩) hS.2.2 dB_3_2_52.2.2.2.2
          · have t_25 : ¬ r_20.toInt ≤ y_19.toInt := fun h => c_25 (Int32.le_iff_toInt_le.mpr h)
            refine lv_lconst (v := 0) hx hb dB_3_2_52.1.2.2.1 (by decide) ?_
            refine lv_goto (tgt := 94) hx hb dB_3_2_52.1.2.2.2 (by decide) ?_
            rw [hQ]
            exact W.lret (v := 0) hx hb hr (fun t ht hW => ⟨⟨0, (), rfl, (by unfold eS stI; (repeat' split) <;> omega), trivial⟩, hS.F ht⟩) hS.2.2 dB_3_2_52.2.2.2.2
        · have t_24 : ¬ (0 : Int32).toInt ≤ y_19.toInt := fun h => c_24 (Int32.le_iff_toInt_le.mpr h)
          refine lv_iload_n hx hb dB_3_2_51.2.1.2.2 rfl (lv_at hl 3 rfl) ?_
          refine lv_ineg hx hb dB_3_2_51.2.2.1.1 ?_
          refine lv_topi (fun y_27 ey_27 => ?_)
          have ty_27 : y_27.toInt = - y_19.toInt := by rw [ey_27]; exact negI (by omega)
          refine lv_iload hx hb dB_3_2_51.2.2.1.2 (lv_at hl 1 rfl) ?_
          refine lv_icmp_le (tgt := 68) hx hb dB_3_2_51.2.2.2.1 (by decide) (fun c_28 => ?_) (fun c_28 => ?_)
          · have t_28 : y_27.toInt ≤ r_22.toInt := Int32.le_iff_toInt_le.mp c_28
            refine lv_iload_n hx hb dB_3_2_52.1.1.2.2 rfl (lv_at hl 3 rfl) ?_
            refine lv_iload hx hb dB_3_2_52.1.2.1.1 (lv_at hl 2 rfl) ?_
            refine lv_icmp_ge (tgt := 78) hx hb dB_3_2_52.1.2.1.2 (by decide) (fun c_29 => ?_) (fun c_29 => ?_)
            · have t_29 : r_20.toInt ≤ y_19.toInt := Int32.le_iff_toInt_le.mp c_29
              refine lv_iload hx hb dB_3_2_52.2.1.1.1 (lv_at hl 0 rfl) ?_
              refine lv_bipush (v := (-9)) hx hb dB_3_2_52.2.1.1.2 (by decide) ?_
              refine lv_icmp_ne (tgt := 91) hx hb dB_3_2_52.2.1.2.1 (by decide) (fun c_30 => ?_) (fun c_30 => ?_)
              · have t_30 : ¬ r_23.toInt = ((-9) : Int32).toInt := fun h => c_30 (Int32.toInt_inj.mp h)
                refine lv_iload hx hb dB_3_2_52.2.2.1.2 (lv_at hl 0 rfl) ?_
                refine lv_i2l (v := r_23.toInt64) hx hb dB_3_2_52.2.2.2.1 rfl ?_
                have q_93 : (r_23.toInt64).toInt = r_23.toInt := Int32.toInt_toInt64 r_23
                rw [hQ]
                exact W.lret (v := r_23.toInt64) hx hb hr (fun t ht hW => ⟨⟨r_23.toInt64, (), rfl, (by unfold eS stI; (repeat' split) <;> omega), trivial⟩, hS.F ht⟩) hS.2.2 dB_3_2_52.2.2.2.2
              · have t_30 : r_23.toInt = ((-9) : Int32).toInt := congrArg Int32.toInt c_30
                refine lv_ldc2 (v := 1000000) hx hb hown (hts (.constantLong RX12 118 (1000000)) (List.mem_of_getElem? (i := 2) rfl)) dB_3_2_52.2.1.2.2 ?_
                refine lv_goto (tgt := 94) hx hb dB_3_2_52.2.2.1.1 (by decide) ?_
                rw [hQ]
                exact W.lret (v := 1000000) hx hb hr (fun t ht hW => ⟨⟨1000000, (), rfl, (by unfold eS stI; (repeat' split) <;> omega), trivial⟩, hS.F ht⟩) hS.2.2 dB_3_2_52.2.2.2.2
            · have t_29 : ¬ r_20.toInt ≤ y_19.toInt := fun h => c_29 (Int32.le_iff_toInt_le.mpr h)
              refine lv_lconst (v := 0) hx hb dB_3_2_52.1.2.2.1 (by decide) ?_
              refine lv_goto (tgt := 94) hx hb dB_3_2_52.1.2.2.2 (by decide) ?_
              rw [hQ]
              exact W.lret (v := 0) hx hb hr (fun t ht hW => ⟨⟨0, (), rfl, (by unfold eS stI; (repeat' split) <;> omega), trivial⟩, hS.F ht⟩) hS.2.2 dB_3_2_52.2.2.2.2
          · have t_28 : ¬ y_27.toInt ≤ r_22.toInt := fun h => c_28 (Int32.le_iff_toInt_le.mpr h)
            refine lv_iload hx hb dB_3_2_51.2.2.2.2 (lv_at hl 0 rfl) ?_
            refine lv_ineg hx hb dB_3_2_52.1.1.1.1 ?_
            refine lv_topi (fun y_31 ey_31 => ?_)
            have ty_31 : y_31.toInt = - r_23.toInt := by rw [ey_31]; exact negI (by omega)
            refine lv_i2l (v := y_31.toInt64) hx hb dB_3_2_52.1.1.1.2 rfl ?_
            have q_66 : (y_31.toInt64).toInt = y_31.toInt := Int32.toInt_toInt64 y_31
            rw [hQ]
            exact W.lret (v := y_31.toInt64) hx hb hr (fun t ht hW => ⟨⟨y_31.toInt64, (), rfl, (by unfold eS stI; (repeat' split) <;> omega), trivial⟩, hS.F ht⟩) hS.2.2 dB_3_2_52.1.1.2.1
      · exact absurd c_21 (by decide)

set_option maxHeartbeats 4000000 in
set_option maxRecDepth 100000 in
theorem c_X12_amount2 (l : Launch) (D : va_G) (cy : Nat → ClassId) (sz : Nat) (mo : Nat) (g5 : Nat) (g6 : Nat) (g7 : Nat) (g8 : Nat) (g9 : Nat) (g10 : Nat) (g12 : Nat) (g13 : Nat) (g14 : Nat) (g15 : Nat) (g16 : Nat) (g17 : Nat) (g18 : Nat) (g19 : Nat) (g20 : Nat) (g22 : Nat) (g23 : Nat) (g24 : Nat) (g29 : Nat) (g30 : Nat) (g31 : Nat) (g32 : Nat) (g33 : Nat) (s0 : Int32) (s1 : Int32) (s3 : Int32) (s4 : Int32) (s11 : Int32) (s21 : Int32) (s25 : Int32) (s26 : Int32) (s27 : Int32) (s28 : Int32) (t2 : Int64) (f5 : Nat → Int32) (f8 : Nat → Int32) (f22 : Nat → Int32) (a1 : Int32) (a2 : Int32) (q1 : 0 ≤ a1.toInt ∧ a1.toInt < 40) (h21 : s21.toInt = -9) (q2 : a2.toInt = 0 ∨ a2.toInt = 1) (hf : -1000 ≤ (f22 a1.toNatClampNeg).toInt ∧ (f22 a1.toNatClampNeg).toInt ≤ 1000) (r_f8 : rng f8 40 (0) (2000)) : Met l yX12_amount wsX12_amount ({ frames := 2, cells := 0, slots := 0, locals := 46 }) (va_Pc [.ref mo, .int a1, .int a2] (fun U => U.heap.size = sz ∧ va_P D vwCl [ob12_0_ mo s0 s1 t2 s3 s4 g5 g6 g7 g8 g9 g10 s11 g12 g13 g14 g15 g16 g17 g18 g19 g20 s21 g22 g23 g24 s25 s26 s27 s28 g29 g30 g31 g32 g33, ai_ cy g5 40 f5, ai_ cy g8 40 f8, ai_ cy g22 40 f22] U.heap ∧ kk_ D cy U ∧ va_D (fun _ => True) [ob12_0_ mo s0 s1 t2 s3 s4 g5 g6 g7 g8 g9 g10 s11 g12 g13 g14 g15 g16 g17 g18 g19 g20 s21 g22 g23 g24 s25 s26 s27 s28 g29 g30 g31 g32 g33, ai_ cy g5 40 f5, ai_ cy g8 40 f8, ai_ cy g22 40 f22])) (va_Qi (fun (r : Int32) (_ : Unit) => (r.toInt = eA f5 f8 f22 a1.toNatClampNeg a2.toInt) ∧ (1 ≤ r.toInt)) (fun (_ : Unit) (_ : State) => True) (va_A [] sz)) 0 0 (va_A [] sz) := by
  refine ofQ (cc := cX12_amount) (maxL := 6) (ret := (some .int)) (by decide) rfl ?_
  intro p e s m args below meth c s₁ Q hQ B hml hv
  obtain ⟨rfl, hsz, hP, hK, hD0⟩ := hv
  have hx := B.exec
  have hb := B.bytes
  have hr := B.returns
  have hts := atoms_spec (ws := wsX12_amount) B.pre
  have hown : s.vm.findClass RX12 = some m.cls := by have h_ := findClass_of_methodNamed B.named; exact h_
  have hlocks := B.notSynchronized
  subst hsz
  have hD : va_D (va_A [] s.heap.size) [] := dd_nil
  generalize hAe : va_A [] s.heap.size = A at hD hQ
  have hA : ∀ q : Nat, s.heap.size ≤ q → A q := fun q h => by rw [← hAe]; exact Or.inr h
  have hS : va_S A s.heap s.heap [] := va_S.rf
  have hl := lv_entry ([.ref mo, .int a1, .int a2]) (n := 6) (Nat.le_of_ble_eq_true rfl)
  rw [lg_entry_eq]
  generalize (lg_sl ([.ref mo, .int a1, .int a2]) ++ List.replicate (6 - (lg_sl ([.ref mo, .int a1, .int a2])).length) Slot.unset).toArray = ls at hl ⊢
  have hl : lv_has ls 6 [(0, .ref mo), (1, .int a1), (2, .int a2)] := hl
  have z0 : (0 : Int32).toInt = 0 := by decide
  have z1 : (1 : Int32).toInt = 1 := by decide
  have z1000000 : (1000000 : Int32).toInt = 1000000 := by decide
  have hv : vp_in a1 40 := in_I (by omega) (by omega)
  have fw := r_f8 _ (in_lt hv)
  have w1 := rmI_rng (k := f5 a1.toNatClampNeg) (b := 1) fw.1 fw.2
  have w0 := rmI_rng (k := f5 a1.toNatClampNeg) (b := 0) fw.1 fw.2
  rcases b01 q2 with rfl | rfl
  · refine lv_iload_n hx hb dB_3_2_0.1.1.1.1 rfl (lv_at hl 2 rfl) ?_
    refine lv_if_eq (tgt := 13) hx hb dB_3_2_0.1.1.1.2 (by decide) (fun c_1 => ?_) (fun c_1 => ?_)
    · have _ := c_1
      refine lv_aload_n hx hb dB_3_2_0.1.2.2.2 rfl (lv_at hl 0 rfl) ?_
      refine va_get (ci := 12) (v := .ref g22) (C := RX12) (T := TX12) (N := 34) hx hb hts (fun _ h => List.mem_cons_of_mem _ (List.mem_append_right _ h)) hown hK.1 hP 0 rfl rfl 22 (by decide) (hts (.fieldLink RX12 61 "CutAtlasModel" "flows" "[I") (List.mem_of_getElem? (i := 1) rfl)) (fun _ h9 => h9) rfl dB_3_2_0.2.1.1.1 ?_
      refine lv_iload_n hx hb dB_3_2_0.2.1.1.2 rfl (lv_at hl 1 rfl) ?_
      have h_2 : vp_in a1 40 := in_I (by first | with_reducible assumption | omega) (by omega)
      refine va_iald hx hb hK.1 hP 3 0 rfl rfl (i := a1) h_2 dB_3_2_0.2.1.2.1 ?_
      refine lv_topi (fun y_3 ey_3 => ?_)
      have ky_3 : y_3.toInt = (f22 a1.toNatClampNeg).toInt := by rw [ey_3]
      refine lv_ineg hx hb dB_3_2_0.2.1.2.2 ?_
      refine lv_topi (fun y_4 ey_4 => ?_)
      have ty_4 : y_4.toInt = - y_3.toInt := by rw [ey_4]; exact negI (by omega)
      refine lv_istore_n (lv' := [(3, .int y_4), (0, .ref mo), (1, .int a1), (2, .int 0)]) hx hb dB_3_2_0.2.2.1.1 rfl hl (by decide) rfl (fun ls hl => ?_)
      refine lv_aload_n hx hb dB_3_2_0.2.2.1.2 rfl (lv_at hl 1 rfl) ?_
      refine lv_iload_n hx hb dB_3_2_0.2.2.2.1 rfl (lv_at hl 2 rfl) ?_
      refine lv_iload_n hx hb dB_3_2_0.2.2.2.2 rfl (lv_at hl 3 rfl) ?_
      refine ct_R hP hD0 [ob12_0_ mo s0 s1 t2 s3 s4 g5 g6 g7 g8 g9 g10 s11 g12 g13 g14 g15 g16 g17 g18 g19 g20 s21 g22 g23 g24 s25 s26 s27 s28 g29 g30 g31 g32 g33, ai_ cy g5 40 f5, ai_ cy g8 40 f8] [0, 1, 2] (by decide) rfl (fun hPc hDw => ?_)
      have hFc := va_free (wc := []) hD hS hA [] rfl
      refine va_calli (va_runV (As := [.int a1, .int 0]) (rest := []) ⟨hx, hb, hml, hown, hts⟩ (c_X12_room l D cy s.heap.size mo g5 g6 g7 g8 g9 g10 g12 g13 g14 g15 g16 g17 g18 g19 g20 g22 g23 g24 g29 g30 g31 g32 g33 s0 s1 s3 s4 s11 s21 s25 s26 s27 s28 t2 f5 f8 a1 (0 : Int32) (by first | with_reducible assumption | omega | assumption)) (cwV 2 hts gX12_amount_X12_room rfl rfl rfl ⟨rfl, hd_X12_room⟩ ⟨Nat.le_of_ble_eq_true rfl, Nat.le_of_ble_eq_true rfl⟩) ⟨bl_, va_recvX hK.1 hP (ci := 12) (q0 := 0) rfl rfl, fun U hU hW => ⟨rfl, by rw [hU], by rw [hU]; exact hPc, kk_mv hW hK, hDw⟩⟩ rfl rfl hl.1 rfl (lv_room (Nat.le_of_ble_eq_true rfl)) dB_3_2_1.1.1.1.1 ⟨Nat.le_of_ble_eq_true rfl, Nat.le_of_ble_eq_true rfl⟩) hS (fun q _ h => hFc q h) hFc (fun r_5 u t H locs ht hvm hw hB hz1 hk1 hS => ?_)
      have hP : va_P D vwCl _ H := ro_keep hP hk1
      have f0_r_5 := hw
      have rI_1 := room_I (r := r_5) (by assumption) (by omega) (by omega) (r_f8 _ (in_lt (in_I (by omega) (by omega))))
      refine lv_istore (lv' := [(4, .int r_5), (3, .int y_4), (0, .ref mo), (1, .int a1), (2, .int 0)]) hx hb dB_3_2_1.1.1.1.2 hl (by decide) rfl (fun ls hl => ?_)
      refine lv_aload_n hx hb dB_3_2_1.1.1.2.1 rfl (lv_at hl 2 rfl) ?_
      refine lv_iload_n hx hb dB_3_2_1.1.1.2.2 rfl (lv_at hl 3 rfl) ?_
      refine lv_iload_n hx hb dB_3_2_1.1.2.1.1 rfl (lv_at hl 4 rfl) ?_
      refine lv_if_ne (tgt := 39) hx hb dB_3_2_1.1.2.1.2 (by decide) (fun c_6 => ?_) (fun c_6 => ?_)
      · exact absurd c_6 (by decide)
      · have _ := c_6
        refine lv_iconst (v := 1) hx hb dB_3_2_1.1.2.2.1 (by decide) ?_
        refine lv_goto (tgt := 40) hx hb dB_3_2_1.1.2.2.2 (by decide) ?_
        refine ct_R hP hD0 [ob12_0_ mo s0 s1 t2 s3 s4 g5 g6 g7 g8 g9 g10 s11 g12 g13 g14 g15 g16 g17 g18 g19 g20 s21 g22 g23 g24 s25 s26 s27 s28 g29 g30 g31 g32 g33, ai_ cy g5 40 f5, ai_ cy g8 40 f8] [0, 1, 2] (by decide) rfl (fun hPc hDw => ?_)
        have hFc := va_free (wc := []) hD hS hA [] rfl
        refine va_calli (va_runV (As := [.int a1, .int 1]) (rest := []) ⟨hx, hb, hml, hown, hts⟩ (c_X12_room l D cy H.size mo g5 g6 g7 g8 g9 g10 g12 g13 g14 g15 g16 g17 g18 g19 g20 g22 g23 g24 g29 g30 g31 g32 g33 s0 s1 s3 s4 s11 s21 s25 s26 s27 s28 t2 f5 f8 a1 (1 : Int32) (by first | with_reducible assumption | omega | assumption)) (cwV 2 hts gX12_amount_X12_room rfl rfl rfl ⟨rfl, hd_X12_room⟩ ⟨Nat.le_of_ble_eq_true rfl, Nat.le_of_ble_eq_true rfl⟩) ⟨bl_, va_recvX hK.1 hP (ci := 12) (q0 := 0) rfl rfl, fun U hU hW => ⟨rfl, by rw [hU], by rw [hU]; exact hPc, kk_mv hW hK, hDw⟩⟩ rfl rfl hl.1 rfl (lv_room (Nat.le_of_ble_eq_true rfl)) dB_3_2_1.2.1.1.2 ⟨Nat.le_of_ble_eq_true rfl, Nat.le_of_ble_eq_true rfl⟩) hS (fun q _ h => hFc q h) hFc (fun r_7 u t H locs ht hvm hw hB hz1 hk1 hS => ?_)
        have hP : va_P D vwCl _ H := ro_keep hP hk1
        have f0_r_7 := hw
        have rI_2 := room_I (r := r_7) (by assumption) (by omega) (by omega) (r_f8 _ (in_lt (in_I (by omega) (by omega))))
        refine lv_istore (lv' := [(5, .int r_7), (4, .int r_5), (3, .int y_4), (0, .ref mo), (1, .int a1), (2, .int 0)]) hx hb dB_3_2_1.2.1.2.1 hl (by decide) rfl (fun ls hl => ?_)
        refine lv_iload_n hx hb dB_3_2_1.2.1.2.2 rfl (lv_at hl 2 rfl) ?_
        refine lv_if_ge (tgt := 64) hx hb dB_3_2_1.2.2.1.1 (by decide) (fun c_8 => ?_) (fun c_8 => ?_)
        · have t_8 : (0 : Int32).toInt ≤ y_4.toInt := Int32.le_iff_toInt_le.mp c_8
          refine lv_iload_n hx hb dB_3_2_2.1.2.2.2 rfl (lv_at hl 2 rfl) ?_
          refine lv_iload hx hb dB_3_2_2.2.1.1.1 (lv_at hl 1 rfl) ?_
          refine lv_icmp_ge (tgt := 77) hx hb dB_3_2_2.2.1.1.2 (by decide) (fun c_9 => ?_) (fun c_9 => ?_)
          · have t_9 : r_5.toInt ≤ y_4.toInt := Int32.le_iff_toInt_le.mp c_9
            refine lv_ldc (v := 1000000) hx hb hown (hts (.constant RX12 159 (1000000)) (List.mem_of_getElem? (i := 2) rfl)) dB_3_2_2.2.2.2.1 ?_
            rw [hQ]
            exact W.iret (v := 1000000) hx hb hr (fun t ht hW => ⟨⟨1000000, (), rfl, ⟨by unfold eA amI; (repeat' split) <;> omega, by omega⟩, trivial⟩, hS.F ht⟩) hS.2.2 dB_3_2_2.2.2.2.2
          · have t_9 : ¬ r_5.toInt ≤ y_4.toInt := fun h => c_9 (Int32.le_iff_toInt_le.mpr h)
            refine lv_iload hx hb dB_3_2_2.2.1.2.1 (lv_at hl 1 rfl) ?_
            refine lv_iload_n hx hb dB_3_2_2.2.1.2.2 rfl (lv_at hl 2 rfl) ?_
            refine lv_isub hx hb dB_3_2_2.2.2.1.1 ?_
            refine lv_topi (fun y_10 ey_10 => ?_)
            have ty_10 : y_10.toInt = r_5.toInt - y_4.toInt := by rw [ey_10]; exact subI (by omega) (by omega)
            refine lv_goto (tgt := 79) hx hb dB_3_2_2.2.2.1.2 (by decide) ?_
            rw [hQ]
            exact W.iret (v := y_10) hx hb hr (fun t ht hW => ⟨⟨y_10, (), rfl, ⟨by unfold eA amI; (repeat' split) <;> omega, by omega⟩, trivial⟩, hS.F ht⟩) hS.2.2 dB_3_2_2.2.2.2.2
        · have t_8 : ¬ (0 : Int32).toInt ≤ y_4.toInt := fun h => c_8 (Int32.le_iff_toInt_le.mpr h)
          refine lv_iload_n hx hb dB_3_2_1.2.2.1.2 rfl (lv_at hl 2 rfl) ?_
          refine lv_ineg hx hb dB_3_2_1.2.2.2.1 ?_
          refine lv_topi (fun y_11 ey_11 => ?_)
          have ty_11 : y_11.toInt = - y_4.toInt := by rw [ey_11]; exact negI (by omega)
          refine lv_iload hx hb dB_3_2_1.2.2.2.2 (lv_at hl 0 rfl) ?_
          refine lv_icmp_le (tgt := 64) hx hb dB_3_2_2.1.1.1 (by decide) (fun c_12 => ?_) (fun c_12 => ?_)
          · have t_12 : y_11.toInt ≤ r_7.toInt := Int32.le_iff_toInt_le.mp c_12
            refine lv_iload_n hx hb dB_3_2_2.1.2.2.2 rfl (lv_at hl 2 rfl) ?_
            refine lv_iload hx hb dB_3_2_2.2.1.1.1 (lv_at hl 1 rfl) ?_
            refine lv_icmp_ge (tgt := 77) hx hb dB_3_2_2.2.1.1.2 (by decide) (fun c_13 => ?_) (fun c_13 => ?_)
            · have t_13 : r_5.toInt ≤ y_4.toInt := Int32.le_iff_toInt_le.mp c_13
              refine lv_ldc (v := 1000000) hx hb hown (hts (.constant RX12 159 (1000000)) (List.mem_of_getElem? (i := 2) rfl)) dB_3_2_2.2.2.2.1 ?_
              rw [hQ]
              exact W.iret (v := 1000000) hx hb hr (fun t ht hW => ⟨⟨1000000, (), rfl, ⟨by unfold eA amI; (repeat' split) <;> omega, by omega⟩, trivial⟩, hS.F ht⟩) hS.2.2 dB_3_2_2.2.2.2.2
            · have t_13 : ¬ r_5.toInt ≤ y_4.toInt := fun h => c_13 (Int32.le_iff_toInt_le.mpr h)
              refine lv_iload hx hb dB_3_2_2.2.1.2.1 (lv_at hl 1 rfl) ?_
              refine lv_iload_n hx hb dB_3_2_2.2.1.2.2 rfl (lv_at hl 2 rfl) ?_
              refine lv_isub hx hb dB_3_2_2.2.2.1.1 ?_
              refine lv_topi (fun y_14 ey_14 => ?_)
              have ty_14 : y_14.toInt = r_5.toInt - y_4.toInt := by rw [ey_14]; exact subI (by omega) (by omega)
              refine lv_goto (tgt := 79) hx hb dB_3_2_2.2.2.1.2 (by decide) ?_
              rw [hQ]
              exact W.iret (v := y_14) hx hb hr (fun t ht hW => ⟨⟨y_14, (), rfl, ⟨by unfold eA amI; (repeat' split) <;> omega, by omega⟩, trivial⟩, hS.F ht⟩) hS.2.2 dB_3_2_2.2.2.2.2
          · have t_12 : ¬ y_11.toInt ≤ r_7.toInt := fun h => c_12 (Int32.le_iff_toInt_le.mpr h)
            refine lv_iload_n hx hb dB_3_2_2.1.1.2.1 rfl (lv_at hl 2 rfl) ?_
            refine lv_ineg hx hb dB_3_2_2.1.1.2.2 ?_
            refine lv_topi (fun y_15 ey_15 => ?_)
            have ty_15 : y_15.toInt = - y_4.toInt := by rw [ey_15]; exact negI (by omega)
            refine lv_iload hx hb dB_3_2_2.1.2.1.1 (lv_at hl 0 rfl) ?_
            refine lv_isub hx hb dB_3_2_2.1.2.1.2 ?_
            refine lv_topi (fun y_16 ey_16 => ?_)
            have ty_16 : y_16.toInt = y_15.toInt - r_7.toInt := by rw [ey_16]; exact subI (by omega) (by omega)
            refine lv_goto (tgt := 79) hx hb dB_3_2_2.1.2.2.1 (by decide) ?_
            rw [hQ]
            exact W.iret (v := y_16) hx hb hr (fun t ht hW => ⟨⟨y_16, (), rfl, ⟨by unfold eA amI; (repeat' split) <;> omega, by omega⟩, trivial⟩, hS.F ht⟩) hS.2.2 dB_3_2_2.2.2.2.2
    · exact absurd c_1 (by decide)
  · refine lv_iload_n hx hb dB_3_2_0.1.1.1.1 rfl (lv_at hl 2 rfl) ?_
    refine lv_if_eq (tgt := 13) hx hb dB_3_2_0.1.1.1.2 (by decide) (fun c_17 => ?_) (fun c_17 => ?_)
    · exact absurd c_17 (by decide)
    · have _ := c_17
      refine lv_aload_n hx hb dB_3_2_0.1.1.2.1 rfl (lv_at hl 0 rfl) ?_
      refine va_get (ci := 12) (v := .ref g22) (C := RX12) (T := TX12) (N := 34) hx hb hts (fun _ h => List.mem_cons_of_mem _ (List.mem_append_right _ h)) hown hK.1 hP 0 rfl rfl 22 (by decide) (hts (.fieldLink RX12 61 "CutAtlasModel" "flows" "[I") (List.mem_of_getElem? (i := 1) rfl)) (fun _ h9 => h9) rfl dB_3_2_0.1.1.2.2 ?_
      refine lv_iload_n hx hb dB_3_2_0.1.2.1.1 rfl (lv_at hl 1 rfl) ?_
      have h_18 : vp_in a1 40 := in_I (by first | with_reducible assumption | omega) (by omega)
      refine va_iald hx hb hK.1 hP 3 0 rfl rfl (i := a1) h_18 dB_3_2_0.1.2.1.2 ?_
      refine lv_topi (fun y_19 ey_19 => ?_)
      have ky_19 : y_19.toInt = (f22 a1.toNatClampNeg).toInt := by rw [ey_19]
      refine lv_goto (tgt := 20) hx hb dB_3_2_0.1.2.2.1 (by decide) ?_
      refine lv_istore_n (lv' := [(3, .int y_19), (0, .ref mo), (1, .int a1), (2, .int 1)]) hx hb dB_3_2_0.2.2.1.1 rfl hl (by decide) rfl (fun ls hl => ?_)
      refine lv_aload_n hx hb dB_3_2_0.2.2.1.2 rfl (lv_at hl 1 rfl) ?_
      refine lv_iload_n hx hb dB_3_2_0.2.2.2.1 rfl (lv_at hl 2 rfl) ?_
      refine lv_iload_n hx hb dB_3_2_0.2.2.2.2 rfl (lv_at hl 3 rfl) ?_
      refine ct_R hP hD0 [ob12_0_ mo s0 s1 t2 s3 s4 g5 g6 g7 g8 g9 g10 s11 g12 g13 g14 g15 g16 g17 g18 g19 g20 s21 g22 g23 g24 s25 s26 s27 s28 g29 g30 g31 g32 g33, ai_ cy g5 40 f5, ai_ cy g8 40 f8] [0, 1, 2] (by decide) rfl (fun hPc hDw => ?_)
      have hFc := va_free (wc := []) hD hS hA [] rfl
      refine va_calli (va_runV (As := [.int a1, .int 1]) (rest := []) ⟨hx, hb, hml, hown, hts⟩ (c_X12_room l D cy s.heap.size mo g5 g6 g7 g8 g9 g10 g12 g13 g14 g15 g16 g17 g18 g19 g20 g22 g23 g24 g29 g30 g31 g32 g33 s0 s1 s3 s4 s11 s21 s25 s26 s27 s28 t2 f5 f8 a1 (1 : Int32) (by first | with_reducible assumption | omega | assumption)) (cwV 2 hts gX12_amount_X12_room rfl rfl rfl ⟨rfl, hd_X12_room⟩ ⟨Nat.le_of_ble_eq_true rfl, Nat.le_of_ble_eq_true rfl⟩) ⟨bl_, va_recvX hK.1 hP (ci := 12) (q0 := 0) rfl rfl, fun U hU hW => ⟨rfl, by rw [hU], by rw [hU]; exact hPc, kk_mv hW hK, hDw⟩⟩ rfl rfl hl.1 rfl (lv_room (Nat.le_of_ble_eq_true rfl)) dB_3_2_1.1.1.1.1 ⟨Nat.le_of_ble_eq_true rfl, Nat.le_of_ble_eq_true rfl⟩) hS (fun q _ h => hFc q h) hFc (fun r_20 u t H locs ht hvm hw hB hz1 hk1 hS => ?_)
      have hP : va_P D vwCl _ H := ro_keep hP hk1
      have f0_r_20 := hw
      have rI_1 := room_I (r := r_20) (by assumption) (by omega) (by omega) (r_f8 _ (in_lt (in_I (by omega) (by omega))))
      refine lv_istore (lv' := [(4, .int r_20), (3, .int y_19), (0, .ref mo), (1, .int a1), (2, .int 1)]) hx hb dB_3_2_1.1.1.1.2 hl (by decide) rfl (fun ls hl => ?_)
      refine lv_aload_n hx hb dB_3_2_1.1.1.2.1 rfl (lv_at hl 2 rfl) ?_
      refine lv_iload_n hx hb dB_3_2_1.1.1.2.2 rfl (lv_at hl 3 rfl) ?_
      refine lv_iload_n hx hb dB_3_2_1.1.2.1.1 rfl (lv_at hl 4 rfl) ?_
      refine lv_if_ne (tgt := 39) hx hb dB_3_2_1.1.2.1.2 (by decide) (fun c_21 => ?_) (fun c_21 => ?_)
      · have _ := c_21
        refine lv_iconst (v := 0) hx hb dB_3_2_1.2.1.1.1 (by decide) ?_
        refine ct_R hP hD0 [ob12_0_ mo s0 s1 t2 s3 s4 g5 g6 g7 g8 g9 g10 s11 g12 g13 g14 g15 g16 g17 g18 g19 g20 s21 g22 g23 g24 s25 s26 s27 s28 g29 g30 g31 g32 g33, ai_ cy g5 40 f5, ai_ cy g8 40 f8] [0, 1, 2] (by decide) rfl (fun hPc hDw => ?_)
        have hFc := va_free (wc := []) hD hS hA [] rfl
        refine va_calli (va_runV (As := [.int a1, .int 0]) (rest := []) ⟨hx, hb, hml, hown, hts⟩ (c_X12_room l D cy H.size mo g5 g6 g7 g8 g9 g10 g12 g13 g14 g15 g16 g17 g18 g19 g20 g22 g23 g24 g29 g30 g31 g32 g33 s0 s1 s3 s4 s11 s21 s25 s26 s27 s28 t2 f5 f8 a1 (0 : Int32) (by first | with_reducible assumption | omega | assumption)) (cwV 2 hts gX12_amount_X12_room rfl rfl rfl ⟨rfl, hd_X12_room⟩ ⟨Nat.le_of_ble_eq_true rfl, Nat.le_of_ble_eq_true rfl⟩) ⟨bl_, va_recvX hK.1 hP (ci := 12) (q0 := 0) rfl rfl, fun U hU hW => ⟨rfl, by rw [hU], by rw [hU]; exact hPc, kk_mv hW hK, hDw⟩⟩ rfl rfl hl.1 rfl (lv_room (Nat.le_of_ble_eq_true rfl)) dB_3_2_1.2.1.1.2 ⟨Nat.le_of_ble_eq_true rfl, Nat.le_of_ble_eq_true rfl⟩) hS (fun q _ h => hFc q h) hFc (fun r_22 u t H locs ht hvm hw hB hz1 hk1 hS => ?_)
        have hP : va_P D vwCl _ H := ro_keep hP hk1
        have f0_r_22 := hw
        have rI_2 := room_I (r := r_22) (by assumption) (by omega) (by omega) (r_f8 _ (in_lt (in_I (by omega) (by omega))))
        refine lv_istore (lv' := [(5, .int r_22), (4, .int r_20), (3, .int y_19), (0, .ref mo), (1, .int a1), (2, .int 1)]) hx hb dB_3_2_1.2.1.2.1 hl (by decide) rfl (fun ls hl => ?_)
        refine lv_iload_n hx hb dB_3_2_1.2.1.2.2 rfl (lv_at hl 2 rfl) ?_
        refine lv_if_ge (tgt := 64) hx hb dB_3_2_1.2.2.1.1 (by decide) (fun c_23 => ?_) (fun c_23 => ?_)
        · have t_23 : (0 : Int32).toInt ≤ y_19.toInt := Int32.le_iff_toInt_le.mp c_23
          refine lv_iload_n hx hb dB_3_2_2.1.2.2.2 rfl (lv_at hl 2 rfl) ?_
          refine lv_iload hx hb dB_3_2_2.2.1.1.1 (lv_at hl 1 rfl) ?_
          refine lv_icmp_ge (tgt := 77) hx hb dB_3_2_2.2.1.1.2 (by decide) (fun c_24 => ?_) (fun c_24 => ?_)
          · have t_24 : r_20.toInt ≤ y_19.toInt := Int32.le_iff_toInt_le.mp c_24
            refine lv_ldc (v := 1000000) hx hb hown (hts (.constant RX12 159 (1000000)) (List.mem_of_getElem? (i := 2) rfl)) dB_3_2_2.2.2.2.1 ?_
            rw [hQ]
            exact W.iret (v := 1000000) hx hb hr (fun t ht hW => ⟨⟨1000000, (), rfl, ⟨by unfold eA amI; (repeat' split) <;> omega, by omega⟩, trivial⟩, hS.F ht⟩) hS.2.2 dB_3_2_2.2.2.2.2
          · have t_24 : ¬ r_20.toInt ≤ y_19.toInt := fun h => c_24 (Int32.le_iff_toInt_le.mpr h)
            refine lv_iload hx hb dB_3_2_2.2.1.2.1 (lv_at hl 1 rfl) ?_
            refine lv_iload_n hx hb dB_3_2_2.2.1.2.2 rfl (lv_at hl 2 rfl) ?_
            refine lv_isub hx hb dB_3_2_2.2.2.1.1 ?_
            refine lv_topi (fun y_25 ey_25 => ?_)
            have ty_25 : y_25.toInt = r_20.toInt - y_19.toInt := by rw [ey_25]; exact subI (by omega) (by omega)
            refine lv_goto (tgt := 79) hx hb dB_3_2_2.2.2.1.2 (by decide) ?_
            rw [hQ]
            exact W.iret (v := y_25) hx hb hr (fun t ht hW => ⟨⟨y_25, (), rfl, ⟨by unfold eA amI; (repeat' split) <;> omega, by omega⟩, trivial⟩, hS.F ht⟩) hS.2.2 dB_3_2_2.2.2.2.2
        · have t_23 : ¬ (0 : Int32).toInt ≤ y_19.toInt := fun h => c_23 (Int32.le_iff_toInt_le.mpr h)
          refine lv_iload_n hx hb dB_3_2_1.2.2.1.2 rfl (lv_at hl 2 rfl) ?_
          refine lv_ineg hx hb dB_3_2_1.2.2.2.1 ?_
          refine lv_topi (fun y_26 ey_26 => ?_)
          have ty_26 : y_26.toInt = - y_19.toInt := by rw [ey_26]; exact negI (by omega)
          refine lv_iload hx hb dB_3_2_1.2.2.2.2 (lv_at hl 0 rfl) ?_
          refine lv_icmp_le (tgt := 64) hx hb dB_3_2_2.1.1.1 (by decide) (fun c_27 => ?_) (fun c_27 => ?_)
          · have t_27 : y_26.toInt ≤ r_22.toInt := Int32.le_iff_toInt_le.mp c_27
            refine lv_iload_n hx hb dB_3_2_2.1.2.2.2 rfl (lv_at hl 2 rfl) ?_
            refine lv_iload hx hb dB_3_2_2.2.1.1.1 (lv_at hl 1 rfl) ?_
            refine lv_icmp_ge (tgt := 77) hx hb dB_3_2_2.2.1.1.2 (by decide) (fun c_28 => ?_) (fun c_28 => ?_)
            · have t_28 : r_20.toInt ≤ y_19.toInt := Int32.le_iff_toInt_le.mp c_28
              refine lv_ldc (v := 1000000) hx hb hown (hts (.constant RX12 159 (1000000)) (List.mem_of_getElem? (i := 2) rfl)) dB_3_2_2.2.2.2.1 ?_
              rw [hQ]
              exact W.iret (v := 1000000) hx hb hr (fun t ht hW => ⟨⟨1000000, (), rfl, ⟨by unfold eA amI; (repeat' split) <;> omega, by omega⟩, trivial⟩, hS.F ht⟩) hS.2.2 dB_3_2_2.2.2.2.2
            · have t_28 : ¬ r_20.toInt ≤ y_19.toInt := fun h => c_28 (Int32.le_iff_toInt_le.mpr h)
              refine lv_iload hx hb dB_3_2_2.2.1.2.1 (lv_at hl 1 rfl) ?_
              refine lv_iload_n hx hb dB_3_2_2.2.1.2.2 rfl (lv_at hl 2 rfl) ?_
              refine lv_isub hx hb dB_3_2_2.2.2.1.1 ?_
              refine lv_topi (fun y_29 ey_29 => ?_)
              have ty_29 : y_29.toInt = r_20.toInt - y_19.toInt := by rw [ey_29]; exact subI (by omega) (by omega)
              refine lv_goto (tgt := 79) hx hb dB_3_2_2.2.2.1.2 (by decide) ?_
              rw [hQ]
              exact W.iret (v := y_29) hx hb hr (fun t ht hW => ⟨⟨y_29, (), rfl, ⟨by unfold eA amI; (repeat' split) <;> omega, by omega⟩, trivial⟩, hS.F ht⟩) hS.2.2 dB_3_2_2.2.2.2.2
          · have t_27 : ¬ y_26.toInt ≤ r_22.toInt := fun h => c_27 (Int32.le_iff_toInt_le.mpr h)
            refine lv_iload_n hx hb dB_3_2_2.1.1.2.1 rfl (lv_at hl 2 rfl) ?_
            refine lv_ineg hx hb dB_3_2_2.1.1.2.2 ?_
            refine lv_topi (fun y_30 ey_30 => ?_)
            have ty_30 : y_30.toInt = - y_19.toInt := by rw [ey_30]; exact negI (by omega)
            refine lv_iload hx hb dB_3_2_2.1.2.1.1 (lv_at hl 0 rfl) ?_
            refine lv_isub hx hb dB_3_2_2.1.2.1.2 ?_
            refine lv_topi (fun y_31 ey_31 => ?_)
            have ty_31 : y_31.toInt = y_30.toInt - r_22.toInt := by rw [ey_31]; exact subI (by omega) (by omega)
            refine lv_goto (tgt := 79) hx hb dB_3_2_2.1.2.2.1 (by decide) ?_
            rw [hQ]
            exact W.iret (v := y_31) hx hb hr (fun t ht hW => ⟨⟨y_31, (), rfl, ⟨by unfold eA amI; (repeat' split) <;> omega, by omega⟩, trivial⟩, hS.F ht⟩) hS.2.2 dB_3_2_2.2.2.2.2
      · exact absurd c_21 (by decide)
end

section
section CW
variable {x y : Nat → Nat} {c : Nat → Int} {ok : Nat → Bool} {E s P : Nat} {pi : Nat → Int} {pd pd2 : Nat → Int64} {bl bp bl2 bp2 : Nat → Int32} {rnd cu : Nat}
/-- the state of the search: what was paid lies between the least there is and the least of so many steps; chains end at s -/
noncomputable def cw (x y : Nat → Nat) (c : Nat → Int) (ok : Nat → Bool) (E s P : Nat) (pd : Nat → Int64) (bl bp : Nat → Int32) (rnd cu : Nat) : Prop :=
  (∀ v : Nat, v < P → dst x y c ok E s P v ≤ (pd v).toInt ∧ (pd v).toInt ≤ 1099511627776 ∧ (pd v).toInt ≤ dst x y c ok E s rnd v) ∧
  (∀ e : Nat, e < cu → ok e = true → dst x y c ok E s rnd (x e) < 1099511627776 → (pd (y e)).toInt ≤ dst x y c ok E s rnd (x e) + c e) ∧
  (∀ v : Nat, v < P → v ≠ s → (pd v).toInt < 1099511627776 → ∃ e : Nat, e < E ∧ ok e = true ∧ (bl v).toNatClampNeg = e / 2 ∧ (bp v).toNatClampNeg = x e ∧ y e = v ∧ (pd (x e)).toInt < 1099511627776 ∧ (pd (x e)).toInt + c e ≤ (pd v).toInt) ∧
  (∀ v : Nat, v < P → (pd v).toInt < 1099511627776 → ∃ n : Nat, rcs (pf_ bp) s n v)
theorem cw_init (hs : s < P) (h : ∀ v : Nat, v < P → (pd v).toInt = if v = s then 0 else 1099511627776) : cw x y c ok E s P pd bl bp 0 0 := by
  have e0 : ∀ v : Nat, dst x y c ok E s 0 v = if v = s then 0 else 1099511627776 := fun _ => rfl
  refine ⟨fun v hv => ?_, fun e he => absurd he (Nat.not_lt_zero _), fun v hv hn hf => ?_, fun v hv hf => ?_⟩
  · have m := dst_mono (x := x) (y := y) (c := c) (ok := ok) (E := E) (s := s) P 0 v (Nat.zero_le _)
    have i := dst_inf (x := x) (y := y) (c := c) (ok := ok) (E := E) (s := s) 0 v
    rw [h v hv, ← e0 v]
    exact ⟨m, i, Int.le_refl _⟩
  · rw [h v hv, if_neg hn] at hf
    omega
  · by_cases e : v = s
    · exact ⟨0, e⟩
    · rw [h v hv, if_neg e] at hf
      omega
theorem cw_rng (h : cw x y c ok E s P pd bl bp rnd cu) (hP : P ≤ 12) (hc : ∀ e : Nat, e < E → ok e = true → -101 ≤ c e) {v : Nat} (hv : v < P) : -1212 ≤ (pd v).toInt ∧ (pd v).toInt ≤ 1099511627776 := by
  have a := h.1 v hv
  have b := dst_lo (x := x) (y := y) (s := s) hc P v
  omega
theorem cw_skip (h : cw x y c ok E s P pd bl bp rnd cu) (hv : ok cu = true → x cu < P) (hs : ok cu = true → (pd (x cu)).toInt < 1099511627776 → (pd (y cu)).toInt ≤ (pd (x cu)).toInt + c cu) : cw x y c ok E s P pd bl bp rnd (cu + 1) := by
  refine ⟨h.1, fun e he ho hx => ?_, h.2.2⟩
  by_cases q : e = cu
  · subst q
    have a := (h.1 (x e) (hv ho)).2.2
    have b := hs ho (by omega)
    omega
  · exact h.2.1 e (by omega) ho hx
theorem cw_to (h : cw x y c ok E s P pd bl bp rnd cu) : ∀ n : Nat, (∀ e : Nat, cu ≤ e → e < cu + n → ok e = false) → cw x y c ok E s P pd bl bp rnd (cu + n)
  | 0, _ => h
  | n + 1, hn => by
    have a := cw_to h n (fun e h1 h2 => hn e h1 (by omega))
    have b := hn (cu + n) (by omega) (by omega)
    exact cw_skip a (fun q => by have z := b.symm.trans q; cases z) (fun q => by have z := b.symm.trans q; cases z)
theorem cw_relax {v : Int64} {l x1 : Int32} (h : cw x y c ok E s P pd bl bp rnd cu) (hp : ∀ e : Nat, e < E → ok e = true → pi (y e) ≤ pi (x e) + c e) (hv : ∀ e : Nat, e < E → ok e = true → x e < P ∧ y e < P) (hP : 1 ≤ P) (hE : cu < E) (ho : ok cu = true) (hx : (pd (x cu)).toInt < 1099511627776) (hlt : (pd (x cu)).toInt + c cu < (pd (y cu)).toInt)
    (e1 : pd2 = vp_updL pd (y cu) v) (ev : v.toInt = (pd (x cu)).toInt + c cu) (e2 : bl2 = upd bl (y cu) l) (el : l.toNatClampNeg = cu / 2) (e3 : bp2 = upd bp (y cu) x1) (ex : x1.toNatClampNeg = x cu) : cw x y c ok E s P pd2 bl2 bp2 rnd (cu + 1) := by
  have w := hv cu hE ho
  have pc := hp cu hE ho
  have hxy : x cu ≠ y cu := fun e => by
    rw [e] at hlt pc
    omega
  have n1 : pd2 (y cu) = v := by rw [e1]; exact pk_uLs
  have n2 : ∀ u : Nat, u ≠ y cu → pd2 u = pd u := fun u hu => by rw [e1]; exact pk_uLn hu
  have le : ∀ u : Nat, (pd2 u).toInt ≤ (pd u).toInt := fun u => by
    by_cases q : u = y cu
    · rw [q, n1]
      omega
    · rw [n2 u q]
      exact Int.le_refl _
  have a1 := h.1 (x cu) w.1
  have dx : dst x y c ok E s P (x cu) < 1099511627776 := by omega
  have dv : dst x y c ok E s P (y cu) ≤ dst x y c ok E s P (x cu) + c cu := by
    have en := dst_end (s := s) hp hv (k := P - 1) (by omega) (x cu)
    rw [show P - 1 + 1 = P by omega] at en
    have d := dst_e (x := x) (y := y) (c := c) (s := s) (k := P - 1) hE ho (by rw [← en]; exact dx)
    rw [show P - 1 + 1 = P by omega, ← en] at d
    exact d
  have a2y := h.1 (y cu) w.2
  have hys : y cu ≠ s := fun e => by
    have ps := dst_pi (s := s) hp P (y cu) (by omega)
    rw [e] at ps
    have m := dst_mono (x := x) (y := y) (c := c) (ok := ok) (E := E) (s := s) rnd 0 s (Nat.zero_le _)
    have e0 : dst x y c ok E s 0 s = 0 := if_pos rfl
    have a2 := (h.1 (y cu) w.2).2.2
    rw [e] at a2 dv hlt
    omega
  have bp1 : ∀ u : Nat, u ≠ y cu → pf_ bp2 u = pf_ bp u := fun u hu => by unfold pf_; rw [e3, pk_un hu]
  have bpy : pf_ bp2 (y cu) = x cu := by unfold pf_; rw [e3, pk_us]; exact ex
  refine ⟨fun u hu => ?_, fun e he hoe hxe => ?_, fun u hu hn hf => ?_, fun u hu hf => ?_⟩
  · have b := h.1 u hu
    have l := le u
    refine ⟨?_, by omega, by omega⟩
    by_cases q : u = y cu
    · rw [q, n1]
      omega
    · rw [n2 u q]
      exact b.1
  · by_cases q : e = cu
    · subst q
      rw [n1]
      omega
    · have b := h.2.1 e (by omega) hoe hxe
      have l := le (y e)
      omega
  · by_cases q : u = y cu
    · refine ⟨cu, hE, ho, ?_, ?_, q.symm, ?_, ?_⟩
      · rw [q, e2, pk_us]
        exact el
      · rw [q, e3, pk_us]
        exact ex
      · rw [n2 _ hxy]
        exact hx
      · rw [n2 _ hxy, q, n1]
        omega
    · rw [n2 u q] at hf ⊢
      obtain ⟨e, q1, q2, q3, q4, q5, q6, q7⟩ := h.2.2.1 u hu hn hf
      have l := le (x e)
      refine ⟨e, q1, q2, ?_, ?_, q5, by omega, by omega⟩
      · rw [e2, pk_un q]
        exact q3
      · rw [e3, pk_un q]
        exact q4
  · refine rcs_up (d := fun u => (pd u).toInt) (pi := pi) (P := P) bp1 bpy hys w.1 hx hlt pc (fun u hu2 hn2 hf2 => ?_) h.2.2.2 u hu ?_
    · obtain ⟨e, q1, q2, q3, q4, q5, q6, q7⟩ := h.2.2.1 u hu2 hn2 hf2
      have g := hp e q1 q2
      have g2 := hv e q1 q2
      have ee : pf_ bp u = x e := q4
      rw [ee]
      rw [q5] at g
      exact ⟨g2.1, q6, by omega⟩
    · by_cases q : u = y cu
      · exact Or.inr q
      · rw [n2 u q] at hf
        exact Or.inl hf
theorem cw_round (h : cw x y c ok E s P pd bl bp rnd E) : cw x y c ok E s P pd bl bp (rnd + 1) 0 := by
  refine ⟨fun v hv => ?_, fun e he => absurd he (Nat.not_lt_zero _), h.2.2⟩
  have a := h.1 v hv
  refine ⟨a.1, a.2.1, ?_⟩
  rcases Int.lt_or_le (dst x y c ok E s (rnd + 1) v) (dst x y c ok E s rnd v) with q | q
  · obtain ⟨e, he, ho, ey, hx, h2⟩ := dst_at q
    have b := h.2.1 e he ho hx
    rw [ey] at b
    omega
  · omega
/-- behind the last round -/
noncomputable def cz (x y : Nat → Nat) (c : Nat → Int) (ok : Nat → Bool) (E s P : Nat) (pd : Nat → Int64) (bl bp : Nat → Int32) : Prop :=
  (∀ e : Nat, e < E → ok e = true → (pd (x e)).toInt < 1099511627776 → (pd (y e)).toInt ≤ (pd (x e)).toInt + c e) ∧
  (∀ v : Nat, v < P → v ≠ s → (pd v).toInt < 1099511627776 → ∃ e : Nat, e < E ∧ ok e = true ∧ (bl v).toNatClampNeg = e / 2 ∧ (bp v).toNatClampNeg = x e ∧ y e = v ∧ (pd (x e)).toInt < 1099511627776 ∧ (pd (x e)).toInt + c e ≤ (pd v).toInt) ∧
  (∀ v : Nat, v < P → (pd v).toInt < 1099511627776 → ∃ n : Nat, rcs (pf_ bp) s n v) ∧ (∀ v : Nat, v < P → (pd v).toInt < 1099511627776 → (pd v).toInt ≤ 1000000 * (P : Int))
theorem cw_end (h : cw x y c ok E s P pd bl bp P 0) (hp : ∀ e : Nat, e < E → ok e = true → pi (y e) ≤ pi (x e) + c e) (hv : ∀ e : Nat, e < E → ok e = true → x e < P ∧ y e < P) (hP : 1 ≤ P) (hc : ∀ e : Nat, e < E → ok e = true → c e < 1000000) : cz x y c ok E s P pd bl bp := by
  refine ⟨fun e he ho hx => ?_, h.2.2.1, h.2.2.2, fun v hv hf => ?_⟩
  rotate_left
  · have a := h.1 v hv
    have b := dst_hi (x := x) (y := y) (s := s) hc P v (by omega)
    omega
  have w := hv e he ho
  have a := h.1 (x e) w.1
  have b := h.1 (y e) w.2
  have en := dst_end (s := s) hp hv (k := P - 1) (by omega) (x e)
  rw [show P - 1 + 1 = P by omega] at en
  have d := dst_e (x := x) (y := y) (c := c) (s := s) (k := P - 1) he ho (by rw [← en]; omega)
  rw [show P - 1 + 1 = P by omega, ← en] at d
  omega
theorem bnd (g : Nat → Int) : ∀ n : Nat, ∃ M : Int, ∀ i : Nat, i < n → g i ≤ M
  | 0 => ⟨0, fun i h => absurd h (Nat.not_lt_zero _)⟩
  | n + 1 => by
    obtain ⟨M, hM⟩ := bnd g n
    rcases Int.lt_or_le M (g n) with q | q
    · refine ⟨g n, fun i hi => ?_⟩
      by_cases e : i = n
      · subst e; exact Int.le_refl _
      · have := hM i (by omega)
        omega
    · refine ⟨M, fun i hi => ?_⟩
      by_cases e : i = n
      · subst e; exact q
      · exact hM i (by omega)
/-- what was paid, as the potential of the places -/
theorem cz_pi (h : cz x y c ok E s P pd bl bp) (hp : ∀ e : Nat, e < E → ok e = true → pi (y e) ≤ pi (x e) + c e) (hv : ∀ e : Nat, e < E → ok e = true → x e < P ∧ y e < P) (hc : ∀ e : Nat, e < E → ok e = true → c e < 1000000) (hP : P ≤ 12) : ∃ p2 : Nat → Int, (∀ e : Nat, e < E → ok e = true → p2 (y e) ≤ p2 (x e) + c e) ∧ (∀ v : Nat, (pd v).toInt < 1099511627776 → p2 v = (pd v).toInt) := by
  obtain ⟨M, hM⟩ := bnd (fun v => (pd v).toInt - pi v) P
  refine ⟨fun v => if (pd v).toInt < 1099511627776 then (pd v).toInt else pi v + M, fun e he ho => ?_, fun v hv => if_pos hv⟩
  have w := hv e he ho
  have pe := hp e he ho
  have m1 : (pd (y e)).toInt - pi (y e) ≤ M := hM (y e) w.2
  show (if (pd (y e)).toInt < 1099511627776 then (pd (y e)).toInt else pi (y e) + M) ≤ (if (pd (x e)).toInt < 1099511627776 then (pd (x e)).toInt else pi (x e) + M) + c e
  by_cases q : (pd (x e)).toInt < 1099511627776
  · rw [if_pos q]
    have d := h.1 e he ho q
    by_cases q2 : (pd (y e)).toInt < 1099511627776
    · rw [if_pos q2]
      exact d
    · exfalso
      have u := h.2.2.2 (x e) w.1 q
      have ce := hc e he ho
      omega
  · rw [if_neg q]
    by_cases q2 : (pd (y e)).toInt < 1099511627776
    · rw [if_pos q2]
      omega
    · rw [if_neg q2]
      omega
end CW
section GRAPH
variable {f5 f6 f7 f8 f9 f10 F F0 F2 : Nat → Int32} {pi : Nat → Int}
noncomputable def gx (f6 f7 : Nat → Int32) (e : Nat) : Nat := if e % 2 = 0 then (f6 (e / 2)).toNatClampNeg else (f7 (e / 2)).toNatClampNeg
noncomputable def gy (f6 f7 : Nat → Int32) (e : Nat) : Nat := if e % 2 = 0 then (f7 (e / 2)).toNatClampNeg else (f6 (e / 2)).toNatClampNeg
noncomputable def gc (f5 f8 f9 F : Nat → Int32) (e : Nat) : Int := eS f5 f8 f9 F (e / 2) (if e % 2 = 0 then 1 else 0)
noncomputable def go (f5 f8 f9 f10 F : Nat → Int32) (e : Nat) : Bool := decide ((f10 (e / 2)).toInt = 0) && decide (gc f5 f8 f9 F e < 1000000)
theorem go_iff {e : Nat} : go f5 f8 f9 f10 F e = true ↔ (f10 (e / 2)).toInt = 0 ∧ gc f5 f8 f9 F e < 1000000 := by
  unfold go
  rw [Bool.and_eq_true, decide_eq_true_iff, decide_eq_true_iff]
/-- lines that aren't missing are between two places -/
noncomputable def netE (P N : Int) (f6 f7 f10 : Nat → Int32) : Prop := ∀ j : Nat, (j : Int) < N → (f10 j).toInt = 0 → (f6 j).toInt < P ∧ (f7 j).toInt < P
theorem g_v {P N : Int32} (h : netE P.toInt N.toInt f6 f7 f10) (r6 : rng f6 40 0 11) (r7 : rng f7 40 0 11) (hN : 0 ≤ N.toInt ∧ N.toInt ≤ 40) (hP : 0 ≤ P.toInt) : ∀ e : Nat, e < 2 * N.toNatClampNeg → go f5 f8 f9 f10 F e = true → gx f6 f7 e < P.toNatClampNeg ∧ gy f6 f7 e < P.toNatClampNeg := fun e he ho => by
  have cN := clI (i := N) hN.1
  have cP := clI (i := P) hP
  have a := h (e / 2) (by omega) (go_iff.mp ho).1
  have b6 := r6 (e / 2) (by omega)
  have b7 := r7 (e / 2) (by omega)
  have c6 := clI (i := f6 (e / 2)) b6.1
  have c7 := clI (i := f7 (e / 2)) b7.1
  unfold gx gy
  by_cases q : e % 2 = 0
  · rw [if_pos q, if_pos q]
    omega
  · rw [if_neg q, if_neg q]
    omega
theorem g_c1 {N : Nat} : ∀ e : Nat, e < 2 * N → go f5 f8 f9 f10 F e = true → gc f5 f8 f9 F e < 1000000 := fun _ _ ho => (go_iff.mp ho).2
theorem gc_lo (r9 : rng f9 40 0 100) {e : Nat} (he : e / 2 < 40) : -101 ≤ gc f5 f8 f9 F e := by
  have b := r9 _ he
  have c := cst_rng (k := (f5 (e / 2)).toInt) b.1 b.2
  unfold gc eS
  by_cases q : (if e % 2 = 0 then (1 : Int) else 0) ≠ 0
  · rw [if_pos q]
    have a := stI_cs (cst (f5 (e / 2)).toInt (f9 (e / 2)).toInt) (rmI (f5 (e / 2)) (f8 (e / 2)) 0) (rmI (f5 (e / 2)) (f8 (e / 2)) 1) (F (e / 2)).toInt
    omega
  · rw [if_neg q]
    have a := stI_cs (cst (f5 (e / 2)).toInt (f9 (e / 2)).toInt) (rmI (f5 (e / 2)) (f8 (e / 2)) 1) (rmI (f5 (e / 2)) (f8 (e / 2)) 0) (-(F (e / 2)).toInt)
    omega
theorem g_c0 {N : Int32} (r9 : rng f9 40 0 100) (hN : 0 ≤ N.toInt ∧ N.toInt ≤ 40) : ∀ e : Nat, e < 2 * N.toNatClampNeg → go f5 f8 f9 f10 F e = true → -101 ≤ gc f5 f8 f9 F e := fun e he _ => by
  have cN := clI (i := N) hN.1
  exact gc_lo r9 (by omega)
/-- no place is reached for less than the places differ by -/
noncomputable def pot (f5 f6 f7 f8 f9 f10 F : Nat → Int32) (N : Nat) (pi : Nat → Int) : Prop := ∀ e : Nat, e < 2 * N → go f5 f8 f9 f10 F e = true → pi (gy f6 f7 e) ≤ pi (gx f6 f7 e) + gc f5 f8 f9 F e
noncomputable def okF (f5 f8 f9 F : Nat → Int32) : Prop := ∀ j : Nat, j < 40 → cst (f5 j).toInt (f9 j).toInt = -9 → -(rmI (f5 j) (f8 j) 0) ≤ (F j).toInt ∧ (F j).toInt ≤ rmI (f5 j) (f8 j) 1
theorem pot_zero {N : Nat} (r8 : rng f8 40 0 2000) (r9 : rng f9 40 0 100) (hN : N ≤ 40) (h : ∀ j : Nat, j < 40 → (F j).toInt = 0) : pot f5 f6 f7 f8 f9 f10 F N (fun _ => 0) ∧ okF f5 f8 f9 F := by
  refine ⟨fun e he _ => ?_, fun j hj _ => ?_⟩
  · have z := h (e / 2) (by omega)
    have b := r9 (e / 2) (by omega)
    have c := cst_rng (k := (f5 (e / 2)).toInt) b.1 b.2
    have b8 := r8 (e / 2) (by omega)
    have w1 := rmI_rng (k := f5 (e / 2)) (b := 1) b8.1 b8.2
    have w0 := rmI_rng (k := f5 (e / 2)) (b := 0) b8.1 b8.2
    show (0 : Int) ≤ 0 + gc f5 f8 f9 F e
    unfold gc eS
    rw [z]
    by_cases q : (if e % 2 = 0 then (1 : Int) else 0) ≠ 0
    · rw [if_pos q]
      have a := stI_cs (cst (f5 (e / 2)).toInt (f9 (e / 2)).toInt) (rmI (f5 (e / 2)) (f8 (e / 2)) 0) (rmI (f5 (e / 2)) (f8 (e / 2)) 1) 0
      omega
    · rw [if_neg q]
      have a := stI_cs (cst (f5 (e / 2)).toInt (f9 (e / 2)).toInt) (rmI (f5 (e / 2)) (f8 (e / 2)) 1) (rmI (f5 (e / 2)) (f8 (e / 2)) 0) (-0)
      omega
  · have z := h j hj
    have b8 := r8 j hj
    have w1 := rmI_rng (k := f5 j) (b := 1) b8.1 b8.2
    have w0 := rmI_rng (k := f5 j) (b := 0) b8.1 b8.2
    omega
theorem gc_cg {e : Nat} (h : F2 (e / 2) = F (e / 2)) : gc f5 f8 f9 F2 e = gc f5 f8 f9 F e := by
  unfold gc eS
  rw [h]
theorem gpush {N e : Nat} {l v : Int32} {n : Int} (r8 : rng f8 40 0 2000) (r9 : rng f9 40 0 100) (hN : N ≤ 40) (e2 : F2 = upd F l.toNatClampNeg v) (he : e < 2 * N) (el : l.toNatClampNeg = e / 2) (ho : go f5 f8 f9 f10 F e = true) (hn : 1 ≤ n)
    (hna : n ≤ eA f5 f8 F (e / 2) (if e % 2 = 0 then 1 else 0)) (hv : v.toInt = (F (e / 2)).toInt + (if e % 2 = 0 then n else -n)) (ht : pi (gy f6 f7 e) = pi (gx f6 f7 e) + gc f5 f8 f9 F e) (hp : pot f5 f6 f7 f8 f9 f10 F N pi) (hk : okF f5 f8 f9 F) : pot f5 f6 f7 f8 f9 f10 F2 N pi ∧ okF f5 f8 f9 F2 := by
  have n1 : F2 (e / 2) = v := by rw [e2, el]; exact pk_us
  have n2 : ∀ j : Nat, j ≠ e / 2 → F2 j = F j := fun j hj => by rw [e2, el]; exact pk_un hj
  have b := r9 (e / 2) (by omega)
  have c := cst_rng (k := (f5 (e / 2)).toInt) b.1 b.2
  have b8 := r8 (e / 2) (by omega)
  have w1 := rmI_rng (k := f5 (e / 2)) (b := 1) b8.1 b8.2
  have w0 := rmI_rng (k := f5 (e / 2)) (b := 0) b8.1 b8.2
  have ok1 := hk (e / 2) (by omega)
  have lt := (go_iff.mp ho).2
  by_cases q : e % 2 = 0
  · have gcf : ∀ G : Nat → Int32, gc f5 f8 f9 G e = stI (cst (f5 (e / 2)).toInt (f9 (e / 2)).toInt) (rmI (f5 (e / 2)) (f8 (e / 2)) 0) (rmI (f5 (e / 2)) (f8 (e / 2)) 1) (G (e / 2)).toInt := fun G => by
      unfold gc eS
      rw [if_pos q, if_pos (by decide)]
    have am : eA f5 f8 F (e / 2) (if e % 2 = 0 then 1 else 0) = amI (rmI (f5 (e / 2)) (f8 (e / 2)) 0) (rmI (f5 (e / 2)) (f8 (e / 2)) 1) (F (e / 2)).toInt := by
      unfold eA
      rw [if_pos q, if_pos (by decide)]
    rw [am] at hna
    rw [if_pos q] at hv
    rw [gcf F] at lt
    have sp := st_push (d := gc f5 f8 f9 F e) c w0.1 w1.1 (gcf F) lt hn hna ok1
    rw [← hv, ← n1] at sp
    refine ⟨fun e9 h9 o9 => ?_, fun j hj hc => ?_⟩
    · by_cases s9 : e9 / 2 = e / 2
      · by_cases q9 : e9 % 2 = 0
        · obtain rfl : e9 = e := by omega
          have := sp.1 (by rw [← gcf F2]; exact (go_iff.mp o9).2)
          rw [gcf F2]
          omega
        · have ex : gx f6 f7 e9 = gy f6 f7 e := by unfold gx gy; rw [if_neg q9, if_pos q, s9]
          have ey : gy f6 f7 e9 = gx f6 f7 e := by unfold gx gy; rw [if_neg q9, if_pos q, s9]
          have g9 : gc f5 f8 f9 F2 e9 = stI (cst (f5 (e / 2)).toInt (f9 (e / 2)).toInt) (rmI (f5 (e / 2)) (f8 (e / 2)) 1) (rmI (f5 (e / 2)) (f8 (e / 2)) 0) (-(F2 (e / 2)).toInt) := by
            unfold gc eS
            rw [if_neg q9, if_neg (by decide), s9]
          have o2 := (go_iff.mp o9).2
          rw [g9] at o2 ⊢
          have := sp.2.1 o2
          rw [ex, ey]
          omega
      · have cg := gc_cg (f5 := f5) (f8 := f8) (f9 := f9) (n2 (e9 / 2) s9)
        rw [cg]
        exact hp e9 h9 (by
          have o2 := go_iff.mp o9
          rw [cg] at o2
          exact go_iff.mpr o2)
    · by_cases s9 : j = e / 2
      · subst s9
        exact sp.2.2 hc
      · rw [n2 j s9]
        exact hk j hj hc
  · have gcf : ∀ G : Nat → Int32, gc f5 f8 f9 G e = stI (cst (f5 (e / 2)).toInt (f9 (e / 2)).toInt) (rmI (f5 (e / 2)) (f8 (e / 2)) 1) (rmI (f5 (e / 2)) (f8 (e / 2)) 0) (-(G (e / 2)).toInt) := fun G => by
      unfold gc eS
      rw [if_neg q, if_neg (by decide)]
    have am : eA f5 f8 F (e / 2) (if e % 2 = 0 then 1 else 0) = amI (rmI (f5 (e / 2)) (f8 (e / 2)) 1) (rmI (f5 (e / 2)) (f8 (e / 2)) 0) (-(F (e / 2)).toInt) := by
      unfold eA
      rw [if_neg q, if_neg (by decide)]
    rw [am] at hna
    rw [if_neg q] at hv
    rw [gcf F] at lt
    have sp := st_push (d := gc f5 f8 f9 F e) c w1.1 w0.1 (gcf F) lt hn hna (fun h => by have := ok1 h; omega)
    rw [show -(F (e / 2)).toInt + n = -(F2 (e / 2)).toInt by rw [n1]; omega, show - -(F2 (e / 2)).toInt = (F2 (e / 2)).toInt by omega] at sp
    refine ⟨fun e9 h9 o9 => ?_, fun j hj hc => ?_⟩
    · by_cases s9 : e9 / 2 = e / 2
      · by_cases q9 : e9 % 2 = 0
        · have ex : gx f6 f7 e9 = gy f6 f7 e := by unfold gx gy; rw [if_pos q9, if_neg q, s9]
          have ey : gy f6 f7 e9 = gx f6 f7 e := by unfold gx gy; rw [if_pos q9, if_neg q, s9]
          have g9 : gc f5 f8 f9 F2 e9 = stI (cst (f5 (e / 2)).toInt (f9 (e / 2)).toInt) (rmI (f5 (e / 2)) (f8 (e / 2)) 0) (rmI (f5 (e / 2)) (f8 (e / 2)) 1) (F2 (e / 2)).toInt := by
            unfold gc eS
            rw [if_pos q9, if_pos (by decide), s9]
          have o2 := (go_iff.mp o9).2
          rw [g9] at o2 ⊢
          have := sp.2.1 o2
          rw [ex, ey]
          omega
        · obtain rfl : e9 = e := by omega
          have := sp.1 (by rw [← gcf F2]; exact (go_iff.mp o9).2)
          rw [gcf F2]
          omega
      · have cg := gc_cg (f5 := f5) (f8 := f8) (f9 := f9) (n2 (e9 / 2) s9)
        rw [cg]
        exact hp e9 h9 (by
          have o2 := go_iff.mp o9
          rw [cg] at o2
          exact go_iff.mpr o2)
    · by_cases s9 : j = e / 2
      · subst s9
        have := sp.2.2 hc
        omega
      · rw [n2 j s9]
        exact hk j hj hc
noncomputable def dirI (a b : Int) : Int := if a = b then 1 else 0
noncomputable def amtI (f5 f6 f8 F bl bp : Nat → Int32) (v : Nat) : Int := eA f5 f8 F (bl v).toNatClampNeg (dirI (f6 (bl v).toNatClampNeg).toInt (bp v).toInt)
variable {bl bp : Nat → Int32} {pd : Nat → Int64} {s t P N R : Nat}
theorem ch_fin {x y : Nat → Nat} {c : Nat → Int} {ok : Nat → Bool} {E : Nat} (hz : cz x y c ok E s P pd bl bp) (hv : ∀ e : Nat, e < E → ok e = true → x e < P ∧ y e < P) (ht : t < P) (hf : (pd t).toInt < 1099511627776) (hR : rcs (pf_ bp) s R t) : ∀ i : Nat, i ≤ R → itr (pf_ bp) i t < P ∧ (pd (itr (pf_ bp) i t)).toInt < 1099511627776
  | 0, _ => ⟨ht, hf⟩
  | i + 1, hi => by
    have a := ch_fin hz hv ht hf hR i (by omega)
    have r := rcs_itr hR i (by omega)
    rw [show R - i = (R - i - 1) + 1 by omega] at r
    obtain ⟨e, q1, q2, q3, q4, q5, q6, q7⟩ := hz.2.1 _ a.1 r.1 a.2
    have w := hv e q1 q2
    have ee : itr (pf_ bp) (i + 1) t = x e := q4
    rw [ee]
    exact ⟨w.1, q6⟩
theorem ch_e {x y : Nat → Nat} {c : Nat → Int} {ok : Nat → Bool} {E : Nat} (hz : cz x y c ok E s P pd bl bp) (hv : ∀ e : Nat, e < E → ok e = true → x e < P ∧ y e < P) (ht : t < P) (hf : (pd t).toInt < 1099511627776) (hR : rcs (pf_ bp) s R t) {i : Nat} (hi : i < R) : ∃ e : Nat, e < E ∧ ok e = true ∧ (bl (itr (pf_ bp) i t)).toNatClampNeg = e / 2 ∧ itr (pf_ bp) (i + 1) t = x e ∧ itr (pf_ bp) i t = y e ∧ (pd (x e)).toInt < 1099511627776 ∧ (pd (y e)).toInt = (pd (x e)).toInt + c e := by
  have a := ch_fin hz hv ht hf hR i (by omega)
  have r := rcs_itr hR i (by omega)
  rw [show R - i = (R - i - 1) + 1 by omega] at r
  obtain ⟨e, q1, q2, q3, q4, q5, q6, q7⟩ := hz.2.1 _ a.1 r.1 a.2
  have d := hz.1 e q1 q2 q6
  rw [q5] at d
  refine ⟨e, q1, q2, q3, q4, q5.symm, q6, ?_⟩
  rw [q5]
  omega
theorem ch_inj (hR : rcs (pf_ bp) s R t) {i j : Nat} (hi : i ≤ R) (hj : j ≤ R) (h : itr (pf_ bp) i t = itr (pf_ bp) j t) : i = j := by
  have a := rcs_itr hR i hi
  have b := rcs_itr hR j hj
  rw [h] at a
  have := rcs_un _ _ _ a b
  omega
theorem ch_line {c : Nat → Int} {ok : Nat → Bool} {E : Nat} (hz : cz (gx f6 f7) (gy f6 f7) c ok E s P pd bl bp) (hv : ∀ e : Nat, e < E → ok e = true → gx f6 f7 e < P ∧ gy f6 f7 e < P) (ht : t < P) (hf : (pd t).toInt < 1099511627776) (hR : rcs (pf_ bp) s R t) {i j : Nat} (hij : i < j) (hj : j < R) : (bl (itr (pf_ bp) i t)).toNatClampNeg ≠ (bl (itr (pf_ bp) j t)).toNatClampNeg := fun h => by
  obtain ⟨e, _, _, a3, a4, a5, _, _⟩ := ch_e hz hv ht hf hR (i := i) (by omega)
  obtain ⟨g, _, _, b3, b4, b5, _, _⟩ := ch_e hz hv ht hf hR hj
  rw [a3, b3] at h
  by_cases q : e % 2 = g % 2
  · obtain rfl : e = g := by omega
    have := ch_inj hR (by omega) (by omega) (a5.trans b5.symm)
    omega
  · have e1 : gx f6 f7 e = gy f6 f7 g := by
      unfold gx gy
      by_cases z : e % 2 = 0
      · rw [if_pos z, if_neg (by omega), h]
      · rw [if_neg z, if_pos (by omega), h]
    have e2 : gy f6 f7 e = gx f6 f7 g := by
      unfold gx gy
      by_cases z : e % 2 = 0
      · rw [if_pos z, if_neg (by omega), h]
      · rw [if_neg z, if_pos (by omega), h]
    have i1 := ch_inj hR (i := i + 1) (j := j) (by omega) (by omega) ((a4.trans e1).trans b5.symm)
    have i2 := ch_inj hR (i := i) (j := j + 1) (by omega) (by omega) ((a5.trans e2).trans b4.symm)
    omega
theorem ch_push {i : Nat} {l v y1 : Int32} {n B : Int} (r6 : rng f6 40 0 11) (r7 : rng f7 40 0 11) (r8 : rng f8 40 0 2000) (r9 : rng f9 40 0 100) (rp : rng bp 12 0 11) (hP12 : P ≤ 12) (hN : N ≤ 40) (hz : cz (gx f6 f7) (gy f6 f7) (gc f5 f8 f9 F0) (go f5 f8 f9 f10 F0) (2 * N) s P pd bl bp) (hv : ∀ e : Nat, e < 2 * N → go f5 f8 f9 f10 F0 e = true → gx f6 f7 e < P ∧ gy f6 f7 e < P)
    (ht : t < P) (hf : (pd t).toInt < 1099511627776) (hR : rcs (pf_ bp) s R t) (hpi : ∀ v : Nat, (pd v).toInt < 1099511627776 → pi v = (pd v).toInt) (hi : i < R) (hy : y1.toNatClampNeg = itr (pf_ bp) i t) (el : l = bl y1.toNatClampNeg) (e2 : F2 = upd F l.toNatClampNeg v)
    (hvv : v.toInt = (F l.toNatClampNeg).toInt + (if (f6 l.toNatClampNeg).toInt = (bp y1.toNatClampNeg).toInt then n else -n)) (hn : 1 ≤ n) (hna : ∀ k : Nat, k < R → n ≤ amtI f5 f6 f8 F0 bl bp (itr (pf_ bp) k t))
    (hun : ∀ k : Nat, i ≤ k → k < R → F (bl (itr (pf_ bp) k t)).toNatClampNeg = F0 (bl (itr (pf_ bp) k t)).toNatClampNeg) (hp : pot f5 f6 f7 f8 f9 f10 F N pi) (hk : okF f5 f8 f9 F) (hb : ∀ j : Nat, j < 40 → -(B + n) ≤ (F j).toInt ∧ (F j).toInt ≤ B + n) (hb0 : ∀ j : Nat, j < 40 → -B ≤ (F0 j).toInt ∧ (F0 j).toInt ≤ B) :
    pot f5 f6 f7 f8 f9 f10 F2 N pi ∧ okF f5 f8 f9 F2 ∧ (∀ j : Nat, j < 40 → -(B + n) ≤ (F2 j).toInt ∧ (F2 j).toInt ≤ B + n) ∧ (∀ k : Nat, i + 1 ≤ k → k < R → F2 (bl (itr (pf_ bp) k t)).toNatClampNeg = F0 (bl (itr (pf_ bp) k t)).toNatClampNeg) := by
  obtain ⟨e, q1, q2, q3, q4, q5, q6, q7⟩ := ch_e hz hv ht hf hR hi
  have un := hun i (Nat.le_refl _) hi
  have am := hna i hi
  have w := hv e q1 q2
  rw [← hy] at un am q3 q5
  rw [← el] at un q3
  have q4b : pf_ bp y1.toNatClampNeg = gx f6 f7 e := by rw [hy]; exact q4
  have hyP : y1.toNatClampNeg < 12 := by omega
  have bpr := rp _ hyP
  have cb := clI (i := bp y1.toNatClampNeg) bpr.1
  have b6 := r6 (e / 2) (by omega)
  have c6 := clI (i := f6 (e / 2)) b6.1
  have b7 := r7 (e / 2) (by omega)
  have c7 := clI (i := f7 (e / 2)) b7.1
  have q4c : (bp y1.toNatClampNeg).toNatClampNeg = gx f6 f7 e := q4b
  have hne : gx f6 f7 e ≠ gy f6 f7 e := fun h => by
    have := ch_inj hR (i := i + 1) (j := i) (by omega) (by omega) (by rw [q4, h, ← q5, hy])
    omega
  have dir : (f6 (e / 2)).toInt = (bp y1.toNatClampNeg).toInt ↔ e % 2 = 0 := by
    unfold gx at q4c
    unfold gx gy at hne
    by_cases z : e % 2 = 0
    · rw [if_pos z] at q4c
      exact ⟨fun _ => z, fun _ => by omega⟩
    · rw [if_neg z] at q4c
      rw [if_neg z, if_neg z] at hne
      exact ⟨fun h => by omega, fun h => absurd h z⟩
  have amv : amtI f5 f6 f8 F0 bl bp y1.toNatClampNeg = eA f5 f8 F (e / 2) (if e % 2 = 0 then 1 else 0) := by
    unfold amtI
    rw [← el, q3]
    have d2 : dirI (f6 (e / 2)).toInt (bp y1.toNatClampNeg).toInt = if e % 2 = 0 then 1 else 0 := by
      unfold dirI
      by_cases z : e % 2 = 0
      · rw [if_pos z, if_pos (dir.mpr z)]
      · rw [if_neg z, if_neg (fun h => z (dir.mp h))]
    rw [d2]
    unfold eA
    rw [← q3, un]
  rw [amv] at am
  have un2 : F (e / 2) = F0 (e / 2) := by rw [← q3]; exact un
  have cg := gc_cg (f5 := f5) (f8 := f8) (f9 := f9) un2
  have ho : go f5 f8 f9 f10 F e = true := by
    have o2 := go_iff.mp q2
    rw [← cg] at o2
    exact go_iff.mpr o2
  have hv2 : v.toInt = (F (e / 2)).toInt + (if e % 2 = 0 then n else -n) := by
    rw [q3] at hvv
    rw [hvv]
    by_cases z : e % 2 = 0
    · rw [if_pos z, if_pos (dir.mpr z)]
    · rw [if_neg z, if_neg (fun h => z (dir.mp h))]
  have fy : (pd (gy f6 f7 e)).toInt < 1099511627776 := by
    have := (ch_fin hz hv ht hf hR i (by omega)).2
    rw [← hy, q5] at this
    exact this
  have tight : pi (gy f6 f7 e) = pi (gx f6 f7 e) + gc f5 f8 f9 F e := by
    rw [hpi _ fy, hpi _ q6, cg]
    exact q7
  have g := gpush r8 r9 hN e2 q1 q3 ho hn am hv2 tight hp hk
  refine ⟨g.1, g.2, fun j hj => ?_, fun k k1 k2 => ?_⟩
  · by_cases z : j = l.toNatClampNeg
    · rw [e2, z, pk_us, hv2, un2]
      have h0 := hb0 (e / 2) (by omega)
      split <;> omega
    · rw [e2, pk_un z]
      exact hb j hj
  · have ne := ch_line hz hv ht hf hR (i := i) (j := k) (by omega) k2
    rw [← hy, ← el] at ne
    rw [e2, pk_un (fun h => ne h.symm)]
    exact hun k (by omega) k2
end GRAPH
theorem gc_0 {f5 f8 f9 F : Nat → Int32} {j : Nat} : gc f5 f8 f9 F (2 * j + (0 : Int32).toNatClampNeg) = eS f5 f8 f9 F j (1 : Int32).toInt := by
  unfold gc
  rw [cl_0, Nat.add_zero, Nat.mul_div_cancel_left j (by decide), if_pos (Nat.mul_mod_right 2 j)]
  rfl
theorem gc_1 {f5 f8 f9 F : Nat → Int32} {j : Nat} : gc f5 f8 f9 F (2 * j + (1 : Int32).toNatClampNeg) = eS f5 f8 f9 F j (0 : Int32).toInt := by
  unfold gc
  rw [cl_1, show (2 * j + 1) / 2 = j by omega, if_neg (by omega)]
  rfl
theorem gx_0 {f6 f7 : Nat → Int32} {j : Nat} : gx f6 f7 (2 * j + (0 : Int32).toNatClampNeg) = (f6 j).toNatClampNeg ∧ gy f6 f7 (2 * j + (0 : Int32).toNatClampNeg) = (f7 j).toNatClampNeg := by
  unfold gx gy
  rw [cl_0, Nat.add_zero, Nat.mul_div_cancel_left j (by decide), if_pos (Nat.mul_mod_right 2 j), if_pos (Nat.mul_mod_right 2 j)]
  exact ⟨rfl, rfl⟩
theorem gx_1 {f6 f7 : Nat → Int32} {j : Nat} : gx f6 f7 (2 * j + (1 : Int32).toNatClampNeg) = (f7 j).toNatClampNeg ∧ gy f6 f7 (2 * j + (1 : Int32).toNatClampNeg) = (f6 j).toNatClampNeg := by
  unfold gx gy
  rw [cl_1, show (2 * j + 1) / 2 = j by omega, if_neg (by omega), if_neg (by omega)]
  exact ⟨rfl, rfl⟩
theorem go_at {f5 f8 f9 f10 F : Nat → Int32} {j : Nat} {b : Int32} {r : Int} (hb : b.toInt = 0 ∨ b.toInt = 1) (h0 : (f10 j).toInt = 0) (hr : r = gc f5 f8 f9 F (2 * j + b.toNatClampNeg)) (hlt : r < 1000000) : go f5 f8 f9 f10 F (2 * j + b.toNatClampNeg) = true := by
  have c := clI (i := b) (by omega)
  refine go_iff.mpr ⟨?_, by omega⟩
  rw [show (2 * j + b.toNatClampNeg) / 2 = j by omega]
  exact h0
theorem go_miss {f5 f8 f9 f10 F : Nat → Int32} {j e : Nat} (h0 : (f10 j).toInt ≠ 0) (he : e / 2 = j) : go f5 f8 f9 f10 F e = false := by
  cases h : go f5 f8 f9 f10 F e with
  | false => rfl
  | true =>
    have a := (go_iff.mp h).1
    rw [he] at a
    exact absurd a h0
theorem pd_st {s : Nat} {pd pd2 : Nat → Int64} {i i2 : Int32} {v : Int64} (e : pd2 = vp_updL pd i.toNatClampNeg v) (hv : v.toInt = if i.toNatClampNeg = s then 0 else 1099511627776) (h : ∀ w : Nat, (w : Int) < i.toInt → (pd w).toInt = if w = s then 0 else 1099511627776) (h0 : 0 ≤ i.toInt) (ei : i2.toInt = i.toInt + 1) : ∀ w : Nat, (w : Int) < i2.toInt → (pd2 w).toInt = if w = s then 0 else 1099511627776 := fun w hw => by
  have c := clI (i := i) h0
  rw [e]
  by_cases q : w = i.toNatClampNeg
  · rw [q, pk_uLs]
    exact hv
  · rw [pk_uLn q]
    exact h w (by omega)
theorem cw_nx {x y : Nat → Nat} {c : Nat → Int} {ok : Nat → Bool} {E s P : Nat} {pd : Nat → Int64} {bl bp : Nat → Int32} {rnd k k2 : Nat} (h : cw x y c ok E s P pd bl bp rnd k) (e : k2 = k) : cw x y c ok E s P pd bl bp rnd k2 := by
  rw [e]
  exact h
theorem cw_rd {x y : Nat → Nat} {c : Nat → Int} {ok : Nat → Bool} {E s P : Nat} {pd : Nat → Int64} {bl bp : Nat → Int32} {rnd r2 k : Nat} (h : cw x y c ok E s P pd bl bp rnd k) (ek : k = E) (e : r2 = rnd + 1) : cw x y c ok E s P pd bl bp r2 0 := by
  rw [e]
  rw [ek] at h
  exact cw_round h
theorem cw_r2 {x y : Nat → Nat} {c : Nat → Int} {ok : Nat → Bool} {E s P : Nat} {pd : Nat → Int64} {bl bp : Nat → Int32} {rnd r2 k : Nat} (h : cw x y c ok E s P pd bl bp rnd k) (e : r2 = rnd) : cw x y c ok E s P pd bl bp r2 k := by
  rw [e]
  exact h
theorem nI2 {a b : Int32} (h : b.toInt = a.toInt + 1) (h0 : 0 ≤ a.toInt) : b.toNatClampNeg = a.toNatClampNeg + 1 := by
  have c := clI (i := a) h0
  have d := clI (i := b) (by omega)
  omega
end

section
set_option maxHeartbeats 4000000 in
set_option maxRecDepth 100000 in
theorem c_X12_cheapWay (l : Launch) (D : va_G) (cy : Nat → ClassId) (sz : Nat) (mo : Nat) (g5 : Nat) (g6 : Nat) (g7 : Nat) (g8 : Nat) (g9 : Nat) (g10 : Nat) (g12 : Nat) (g13 : Nat) (g14 : Nat) (g15 : Nat) (g16 : Nat) (g17 : Nat) (g18 : Nat) (g19 : Nat) (g20 : Nat) (g22 : Nat) (g23 : Nat) (g24 : Nat) (g29 : Nat) (g30 : Nat) (g31 : Nat) (g32 : Nat) (g33 : Nat) (s0 : Int32) (s1 : Int32) (s3 : Int32) (s4 : Int32) (s11 : Int32) (s21 : Int32) (s25 : Int32) (s26 : Int32) (s27 : Int32) (s28 : Int32) (t2 : Int64) (f5 : Nat → Int32) (f6 : Nat → Int32) (f7 : Nat → Int32) (f8 : Nat → Int32) (f9 : Nat → Int32) (f10 : Nat → Int32) (f22 : Nat → Int32) (f29 : Nat → Int64) (f30 : Nat → Int32) (f31 : Nat → Int32) (pi : Nat → Int) (a1 : Int32) (a2 : Int32) (hN : 0 ≤ s4.toInt ∧ s4.toInt ≤ 40) (hPl : 0 ≤ s3.toInt ∧ s3.toInt ≤ 12) (h21 : s21.toInt = -9) (hnet : netE s3.toInt s4.toInt f6 f7 f10) (hfa : ∀ j : Nat, j < 40 → -1000 ≤ (f22 j).toInt ∧ (f22 j).toInt ≤ 1000) (hpot : pot f5 f6 f7 f8 f9 f10 f22 s4.toNatClampNeg pi) (q1 : 0 ≤ a1.toInt ∧ a1.toInt < s3.toInt) (q2 : 0 ≤ a2.toInt ∧ a2.toInt < s3.toInt) (r_f6 : rng f6 40 (0) (11)) (r_f7 : rng f7 40 (0) (11)) (r_f8 : rng f8 40 (0) (2000)) (r_f9 : rng f9 40 (0) (100)) (r_f30 : rng f30 12 (0) (39)) (r_f31 : rng f31 12 (0) (11)) : Met l yX12_cheapWay wsX12_cheapWay ({ frames := 3, cells := 0, slots := 0, locals := 72 }) (va_Pc [.ref mo, .int a1, .int a2] (fun U => U.heap.size = sz ∧ va_P D vwCl [ob12_0_ mo s0 s1 t2 s3 s4 g5 g6 g7 g8 g9 g10 s11 g12 g13 g14 g15 g16 g17 g18 g19 g20 s21 g22 g23 g24 s25 s26 s27 s28 g29 g30 g31 g32 g33, ai_ cy g5 40 f5, ai_ cy g6 40 f6, ai_ cy g7 40 f7, ai_ cy g8 40 f8, ai_ cy g9 40 f9, az_ cy g10 40 f10, ai_ cy g22 40 f22, aj_ cy g29 12 f29, ai_ cy g30 12 f30, ai_ cy g31 12 f31] U.heap ∧ kk_ D cy U ∧ va_D (fun _ => True) [ob12_0_ mo s0 s1 t2 s3 s4 g5 g6 g7 g8 g9 g10 s11 g12 g13 g14 g15 g16 g17 g18 g19 g20 s21 g22 g23 g24 s25 s26 s27 s28 g29 g30 g31 g32 g33, ai_ cy g5 40 f5, ai_ cy g6 40 f6, ai_ cy g7 40 f7, ai_ cy g8 40 f8, ai_ cy g9 40 f9, az_ cy g10 40 f10, ai_ cy g22 40 f22, aj_ cy g29 12 f29, ai_ cy g30 12 f30, ai_ cy g31 12 f31])) (va_Qi (fun (r : Int32) (u : Int32) => u = r ∧ ((((0 : Int) ≤ 0) ∧ r = 0) ∨ (((0 : Int) ≤ 0) ∧ r = 1))) (fun (u : Int32) (t : State) => ∃ (e29 : Nat → Int64), ∃ (e30 : Nat → Int32), ∃ (e31 : Nat → Int32), (u = 1 → cz (gx f6 f7) (gy f6 f7) (gc f5 f8 f9 f22) (go f5 f8 f9 f10 f22) (2 * s4.toNatClampNeg) a1.toNatClampNeg s3.toNatClampNeg e29 e30 e31 ∧ (e29 a2.toNatClampNeg).toInt < 1099511627776) ∧ (rng e30 12 (0) (39)) ∧ (rng e31 12 (0) (11)) ∧ va_P D vwCl [ob12_0_ mo s0 s1 t2 s3 s4 g5 g6 g7 g8 g9 g10 s11 g12 g13 g14 g15 g16 g17 g18 g19 g20 s21 g22 g23 g24 s25 s26 s27 s28 g29 g30 g31 g32 g33, ai_ cy g5 40 f5, ai_ cy g6 40 f6, ai_ cy g7 40 f7, ai_ cy g8 40 f8, ai_ cy g9 40 f9, az_ cy g10 40 f10, ai_ cy g22 40 f22, aj_ cy g29 12 e29, ai_ cy g30 12 e30, ai_ cy g31 12 e31] t.heap ∧ va_D (va_A [ob12_0_ mo s0 s1 t2 s3 s4 g5 g6 g7 g8 g9 g10 s11 g12 g13 g14 g15 g16 g17 g18 g19 g20 s21 g22 g23 g24 s25 s26 s27 s28 g29 g30 g31 g32 g33, ai_ cy g5 40 f5, ai_ cy g6 40 f6, ai_ cy g7 40 f7, ai_ cy g8 40 f8, ai_ cy g9 40 f9, az_ cy g10 40 f10, ai_ cy g22 40 f22, aj_ cy g29 12 f29, ai_ cy g30 12 f30, ai_ cy g31 12 f31] sz) [ob12_0_ mo s0 s1 t2 s3 s4 g5 g6 g7 g8 g9 g10 s11 g12 g13 g14 g15 g16 g17 g18 g19 g20 s21 g22 g23 g24 s25 s26 s27 s28 g29 g30 g31 g32 g33, ai_ cy g5 40 f5, ai_ cy g6 40 f6, ai_ cy g7 40 f7, ai_ cy g8 40 f8, ai_ cy g9 40 f9, az_ cy g10 40 f10, ai_ cy g22 40 f22, aj_ cy g29 12 e29, ai_ cy g30 12 e30, ai_ cy g31 12 e31]) (va_A [ob12_0_ mo s0 s1 t2 s3 s4 g5 g6 g7 g8 g9 g10 s11 g12 g13 g14 g15 g16 g17 g18 g19 g20 s21 g22 g23 g24 s25 s26 s27 s28 g29 g30 g31 g32 g33, ai_ cy g5 40 f5, ai_ cy g6 40 f6, ai_ cy g7 40 f7, ai_ cy g8 40 f8, ai_ cy g9 40 f9, az_ cy g10 40 f10, ai_ cy g22 40 f22, aj_ cy g29 12 f29, ai_ cy g30 12 f30, ai_ cy g31 12 f31] sz)) 0 0 (va_A [ob12_0_ mo s0 s1 t2 s3 s4 g5 g6 g7 g8 g9 g10 s11 g12 g13 g14 g15 g16 g17 g18 g19 g20 s21 g22 g23 g24 s25 s26 s27 s28 g29 g30 g31 g32 g33, ai_ cy g5 40 f5, ai_ cy g6 40 f6, ai_ cy g7 40 f7, ai_ cy g8 40 f8, ai_ cy g9 40 f9, az_ cy g10 40 f10, ai_ cy g22 40 f22, aj_ cy g29 12 f29, ai_ cy g30 12 f30, ai_ cy g31 12 f31] sz) := by
  refine ofQ (cc := cX12_cheapWay) (maxL := 10) (ret := (some .boolean)) (by decide) rfl ?_
  intro p e s m args below meth c s₁ Q hQ B hml hv
  obtain ⟨rfl, hsz, hP, hK, hD0⟩ := hv
  have hx := B.exec
  have hb := B.bytes
  have hr := B.returns
  have hts := atoms_spec (ws := wsX12_cheapWay) B.pre
  have hown : s.vm.findClass RX12 = some m.cls := by have h_ := findClass_of_methodNamed B.named; exact h_
  have hlocks := B.notSynchronized
  subst hsz
  have hD := hD0.self (sz := s.heap.size)
  generalize hAe : va_A [ob12_0_ mo s0 s1 t2 s3 s4 g5 g6 g7 g8 g9 g10 s11 g12 g13 g14 g15 g16 g17 g18 g19 g20 s21 g22 g23 g24 s25 s26 s27 s28 g29 g30 g31 g32 g33, ai_ cy g5 40 f5, ai_ cy g6 40 f6, ai_ cy g7 40 f7, ai_ cy g8 40 f8, ai_ cy g9 40 f9, az_ cy g10 40 f10, ai_ cy g22 40 f22, aj_ cy g29 12 f29, ai_ cy g30 12 f30, ai_ cy g31 12 f31] s.heap.size = A at hD hQ
  have hA : ∀ q : Nat, s.heap.size ≤ q → A q := fun q h => by rw [← hAe]; exact Or.inr h
  have hS : va_S A s.heap s.heap [] := va_S.rf
  have hl := lv_entry ([.ref mo, .int a1, .int a2]) (n := 10) (Nat.le_of_ble_eq_true rfl)
  rw [lg_entry_eq]
  generalize (lg_sl ([.ref mo, .int a1, .int a2]) ++ List.replicate (10 - (lg_sl ([.ref mo, .int a1, .int a2])).length) Slot.unset).toArray = ls at hl ⊢
  have hl : lv_has ls 10 [(0, .ref mo), (1, .int a1), (2, .int a2)] := hl
  have z0 : (0 : Int32).toInt = 0 := by decide
  have zl0 : (0 : Int64).toInt = 0 := by decide
  have z1 : (1 : Int32).toInt = 1 := by decide
  have z2 : (2 : Int32).toInt = 2 := by decide
  have zl1000000 : (1000000 : Int64).toInt = 1000000 := by decide
  have zl1099511627776 : (1099511627776 : Int64).toInt = 1099511627776 := by decide
  have cP := clI (i := s3) (by omega)
  have cN := clI (i := s4) (by omega)
  have c1 := clI (i := a1) (by omega)
  have c2 := clI (i := a2) (by omega)
  have hgv := g_v (f5 := f5) (f8 := f8) (f9 := f9) (F := f22) hnet r_f6 r_f7 hN (by omega)
  have hgc := g_c0 (f5 := f5) (f8 := f8) (f10 := f10) (F := f22) r_f9 hN
  have hPi : ∀ e : Nat, e < 2 * s4.toNatClampNeg → go f5 f8 f9 f10 f22 e = true → pi (gy f6 f7 e) ≤ pi (gx f6 f7 e) + gc f5 f8 f9 f22 e := hpot
  refine lv_iconst (v := 0) hx hb dB_3_2_5.1.1.1.1 (by decide) ?_
  refine lv_istore_n (lv' := [(3, .int 0), (0, .ref mo), (1, .int a1), (2, .int a2)]) hx hb dB_3_2_5.1.1.1.2 rfl hl (by decide) rfl (fun ls hl => ?_)
  suffices LOOP_1 : ∀ (n_1 : Nat) (x3_1 : Int32) (c_g29_1 : Nat → Int64) (H : Heap) (locs : List Loc) (ls : Array Slot), s3.toInt - x3_1.toInt < (n_1 : Int) → (0 ≤ x3_1.toInt) → (x3_1.toInt ≤ s3.toInt) → (∀ w : Nat, (w : Int) < x3_1.toInt → (c_g29_1 w).toInt = if w = a1.toNatClampNeg then 0 else 1099511627776) → pd_2 D vwCl A [ob12_0_ mo s0 s1 t2 s3 s4 g5 g6 g7 g8 g9 g10 s11 g12 g13 g14 g15 g16 g17 g18 g19 g20 s21 g22 g23 g24 s25 s26 s27 s28 g29 g30 g31 g32 g33, ai_ cy g5 40 f5, ai_ cy g6 40 f6, ai_ cy g7 40 f7, ai_ cy g8 40 f8, ai_ cy g9 40 f9, az_ cy g10 40 f10, ai_ cy g22 40 f22, aj_ cy g29 12 c_g29_1, ai_ cy g30 12 f30, ai_ cy g31 12 f31] H → va_S A s.heap H locs → lv_has ls 10 [(3, .int x3_1), (0, .ref mo), (1, .int a1), (2, .int a2)] → W p l e ({ frames := 3, cells := 0, slots := 0, locals := 72 } : Room) s m (([.ref mo, .int a1, .int a2] : List Value).toArray) below meth c H locs 0 0 Q (F0 m 2 ls []) from LOOP_1 ((s3.toInt - (0 : Int32).toInt).toNat + 1) (0 : Int32) f29 _ _ _ (by omega) (by first | with_reducible assumption | omega | assumption) (by first | with_reducible assumption | omega | assumption) (by first | exact pd_st (by assumption) (by rw [if_pos (by omega)]; decide) (by assumption) (by omega) (by omega) | exact pd_st (by assumption) (by rw [if_neg (by omega)]; decide) (by assumption) (by omega) (by omega) | (intro w hw; omega)) ⟨hP, hD⟩ hS (lv_sub hl [0, 1, 2, 3] rfl)
  intro n_1
  induction n_1 with
  | zero =>
    intro x3_1 c_g29_1 H locs ls hm v0_1 v1_1 v2_1 hPD hS hl; obtain ⟨hP, hD⟩ := hPD
    exact absurd hm (by omega)
  | succ n_1 ih_1 =>
    intro x3_1 c_g29_1 H locs ls hm v0_1 v1_1 v2_1 hPD hS hl; obtain ⟨hP, hD⟩ := hPD
    refine lv_iload_n hx hb dB_3_2_5.1.1.2.1 rfl (lv_at hl 0 rfl) ?_
    refine lv_aload_n hx hb dB_3_2_5.1.1.2.2 rfl (lv_at hl 1 rfl) ?_
    refine va_get (ci := 12) (v := .int s3) (C := RX12) (T := TX12) (N := 34) hx hb hts (fun _ h => List.mem_cons_of_mem _ (List.mem_append_right _ h)) hown hK.1 hP 0 rfl rfl 3 (by decide) (hts (.fieldLink RX12 88 "CutAtlasModel" "places" "I") (List.mem_of_getElem? (i := 1) rfl)) (fun _ h9 => h9) rfl dB_3_2_5.1.2.1.1 ?_
    refine lv_icmp_ge (tgt := 34) hx hb dB_3_2_5.1.2.1.2 (by decide) (fun c_2 => ?_) (fun c_2 => ?_)
    · have t_2 : s3.toInt ≤ x3_1.toInt := Int32.le_iff_toInt_le.mp c_2
      have h0_ : cw (gx f6 f7) (gy f6 f7) (gc f5 f8 f9 f22) (go f5 f8 f9 f10 f22) (2 * s4.toNatClampNeg) a1.toNatClampNeg s3.toNatClampNeg c_g29_1 f30 f31 ((0 : Int32).toNatClampNeg) (0) := cw_init (by omega) (fun v hv => v2_1 v (by omega))
      refine lv_iconst (v := 0) hx hb dB_3_2_6.1.1.2.1 (by decide) ?_
      refine lv_istore_n (lv' := [(3, .int 0), (0, .ref mo), (1, .int a1), (2, .int a2)]) hx hb dB_3_2_6.1.1.2.2 rfl hl (by decide) rfl (fun ls hl => ?_)
      suffices LOOP_3 : ∀ (n_3 : Nat) (x3_3 : Int32) (c_g29_3 : Nat → Int64) (c_g30_3 : Nat → Int32) (c_g31_3 : Nat → Int32) (H : Heap) (locs : List Loc) (ls : Array Slot), s3.toInt - x3_3.toInt < (n_3 : Int) → (0 ≤ x3_3.toInt) → (x3_3.toInt ≤ s3.toInt) → (cw (gx f6 f7) (gy f6 f7) (gc f5 f8 f9 f22) (go f5 f8 f9 f10 f22) (2 * s4.toNatClampNeg) a1.toNatClampNeg s3.toNatClampNeg c_g29_3 c_g30_3 c_g31_3 (x3_3.toNatClampNeg) (0)) → (rng c_g30_3 12 (0) (39)) → (rng c_g31_3 12 (0) (11)) → pd_2 D vwCl A [ob12_0_ mo s0 s1 t2 s3 s4 g5 g6 g7 g8 g9 g10 s11 g12 g13 g14 g15 g16 g17 g18 g19 g20 s21 g22 g23 g24 s25 s26 s27 s28 g29 g30 g31 g32 g33, ai_ cy g5 40 f5, ai_ cy g6 40 f6, ai_ cy g7 40 f7, ai_ cy g8 40 f8, ai_ cy g9 40 f9, az_ cy g10 40 f10, ai_ cy g22 40 f22, aj_ cy g29 12 c_g29_3, ai_ cy g30 12 c_g30_3, ai_ cy g31 12 c_g31_3] H → va_S A s.heap H locs → lv_has ls 10 [(3, .int x3_3), (0, .ref mo), (1, .int a1), (2, .int a2)] → W p l e ({ frames := 3, cells := 0, slots := 0, locals := 72 } : Room) s m (([.ref mo, .int a1, .int a2] : List Value).toArray) below meth c H locs 0 0 Q (F0 m 36 ls []) from LOOP_3 ((s3.toInt - (0 : Int32).toInt).toNat + 1) (0 : Int32) c_g29_1 f30 f31 _ _ _ (by omega) (by first | with_reducible assumption | omega | assumption) (by first | with_reducible assumption | omega | assumption) (by first | exact h0_ | exact cw_r2 hr_ (nI2 (by omega) (by omega))) (by first | with_reducible assumption | assumption | exact rng_zero (by omega) (by omega) | exact orng_zero) (by first | with_reducible assumption | assumption | exact rng_zero (by omega) (by omega) | exact orng_zero) ⟨hP, hD⟩ hS (lv_sub hl [0, 1, 2, 3] rfl)
      intro n_3
      induction n_3 with
      | zero =>
        intro x3_3 c_g29_3 c_g30_3 c_g31_3 H locs ls hm v0_3 v1_3 v2_3 rc_g30_3 rc_g31_3 hPD hS hl; obtain ⟨hP, hD⟩ := hPD
        exact absurd hm (by omega)
      | succ n_3 ih_3 =>
        intro x3_3 c_g29_3 c_g30_3 c_g31_3 H locs ls hm v0_3 v1_3 v2_3 rc_g30_3 rc_g31_3 hPD hS hl; obtain ⟨hP, hD⟩ := hPD
        refine lv_iload_n hx hb dB_3_2_6.1.2.1.1 rfl (lv_at hl 0 rfl) ?_
        refine lv_aload_n hx hb dB_3_2_6.1.2.1.2 rfl (lv_at hl 1 rfl) ?_
        refine va_get (ci := 12) (v := .int s3) (C := RX12) (T := TX12) (N := 34) hx hb hts (fun _ h => List.mem_cons_of_mem _ (List.mem_append_right _ h)) hown hK.1 hP 0 rfl rfl 3 (by decide) (hts (.fieldLink RX12 88 "CutAtlasModel" "places" "I") (List.mem_of_getElem? (i := 1) rfl)) (fun _ h9 => h9) rfl dB_3_2_6.1.2.2.1 ?_
        refine lv_icmp_ge (tgt := 238) hx hb dB_3_2_6.1.2.2.2 (by decide) (fun c_4 => ?_) (fun c_4 => ?_)
        · have t_4 : s3.toInt ≤ x3_3.toInt := Int32.le_iff_toInt_le.mp c_4
          have hz_ : cz (gx f6 f7) (gy f6 f7) (gc f5 f8 f9 f22) (go f5 f8 f9 f10 f22) (2 * s4.toNatClampNeg) a1.toNatClampNeg s3.toNatClampNeg c_g29_3 c_g30_3 c_g31_3 := cw_end (cw_r2 v2_3 (by have c_ := clI (i := x3_3) (by omega); omega)) hPi hgv (by omega) g_c1
          refine lv_aload_n hx hb dB_3_2_12.2.1.2.1 rfl (lv_at hl 1 rfl) ?_
          refine va_get (ci := 12) (v := .ref g29) (C := RX12) (T := TX12) (N := 34) hx hb hts (fun _ h => List.mem_cons_of_mem _ (List.mem_append_right _ h)) hown hK.1 hP 0 rfl rfl 29 (by decide) (hts (.fieldLink RX12 70 "CutAtlasModel" "paid" "[J") (List.mem_of_getElem? (i := 2) rfl)) (fun _ h9 => h9) rfl dB_3_2_12.2.1.2.2 ?_
          refine lv_iload_n hx hb dB_3_2_12.2.2.1.1 rfl (lv_at hl 3 rfl) ?_
          have h_5 : vp_in a2 12 := in_I (by first | with_reducible assumption | omega) (by omega)
          refine va_lald hx hb hK.1 hP 8 1 rfl rfl (i := a2) h_5 dB_3_2_12.2.2.1.2 ?_
          refine lv_topl (fun y_6 ey_6 => ?_)
          have kt_ : y_6.toInt = (c_g29_3 a2.toNatClampNeg).toInt := by rw [ey_6]
          refine lv_ldc2 (v := 1099511627776) hx hb hown (hts (.constantLong RX12 211 (1099511627776)) (List.mem_of_getElem? (i := 3) rfl)) dB_3_2_12.2.2.2.1 ?_
          refine W.lcmp hx hb dB_3_2_12.2.2.2.2 ?_
          refine lv_if_ge (tgt := 255) hx hb dB_3_2_13.1.1 (by decide) (fun c_7 => ?_) (fun c_7 => ?_)
          · have t_7 : (1099511627776 : Int64).toInt ≤ y_6.toInt := Int64.le_iff_toInt_le.mp ((lg_cmp_ge y_6 1099511627776).mp c_7)
            refine lv_iconst (v := 0) hx hb dB_3_2_13.2.2.1 (by decide) ?_
            rw [hQ]
            exact W.zret (ty := .boolean) (v := 0) hx hb hr (by decide) (fun t ht hW => ⟨⟨0, 0, rfl, ⟨rfl, Or.inl (⟨by omega, rfl⟩)⟩, c_g29_3, c_g30_3, c_g31_3, (by first | exact fun _ => ⟨hz_, by omega⟩ | exact fun h => absurd h (by decide)), (by first | with_reducible assumption | assumption | exact rng_zero (by omega) (by omega) | omega), (by first | with_reducible assumption | assumption | exact rng_zero (by omega) (by omega) | omega), by rw [ht]; exact hP, hD⟩, hS.F ht⟩) hS.2.2 dB_3_2_13.2.2.2
          · have t_7 : ¬ (1099511627776 : Int64).toInt ≤ y_6.toInt := fun h => c_7 ((lg_cmp_ge y_6 1099511627776).mpr (Int64.le_iff_toInt_le.mpr h))
            refine lv_iconst (v := 1) hx hb dB_3_2_13.1.2 (by decide) ?_
            refine lv_goto (tgt := 256) hx hb dB_3_2_13.2.1 (by decide) ?_
            rw [hQ]
            exact W.zret (ty := .boolean) (v := 1) hx hb hr (by decide) (fun t ht hW => ⟨⟨1, 1, rfl, ⟨rfl, Or.inr (⟨by omega, rfl⟩)⟩, c_g29_3, c_g30_3, c_g31_3, (by first | exact fun _ => ⟨hz_, by omega⟩ | exact fun h => absurd h (by decide)), (by first | with_reducible assumption | assumption | exact rng_zero (by omega) (by omega) | omega), (by first | with_reducible assumption | assumption | exact rng_zero (by omega) (by omega) | omega), by rw [ht]; exact hP, hD⟩, hS.F ht⟩) hS.2.2 dB_3_2_13.2.2.2
        · have t_4 : ¬ s3.toInt ≤ x3_3.toInt := fun h => c_4 (Int32.le_iff_toInt_le.mpr h)
          refine lv_iconst (v := 0) hx hb dB_3_2_6.2.1.1.1 (by decide) ?_
          refine lv_istore (lv' := [(4, .int 0), (3, .int x3_3), (0, .ref mo), (1, .int a1), (2, .int a2)]) hx hb dB_3_2_6.2.1.1.2 hl (by decide) rfl (fun ls hl => ?_)
          suffices LOOP_8 : ∀ (n_8 : Nat) (x4_8 : Int32) (c_g29_8 : Nat → Int64) (c_g30_8 : Nat → Int32) (c_g31_8 : Nat → Int32) (H : Heap) (locs : List Loc) (ls : Array Slot), s4.toInt - x4_8.toInt < (n_8 : Int) → (0 ≤ x4_8.toInt) → (x4_8.toInt ≤ s4.toInt) → (cw (gx f6 f7) (gy f6 f7) (gc f5 f8 f9 f22) (go f5 f8 f9 f10 f22) (2 * s4.toNatClampNeg) a1.toNatClampNeg s3.toNatClampNeg c_g29_8 c_g30_8 c_g31_8 (x3_3.toNatClampNeg) (2 * x4_8.toNatClampNeg)) → (rng c_g30_8 12 (0) (39)) → (rng c_g31_8 12 (0) (11)) → pd_2 D vwCl A [ob12_0_ mo s0 s1 t2 s3 s4 g5 g6 g7 g8 g9 g10 s11 g12 g13 g14 g15 g16 g17 g18 g19 g20 s21 g22 g23 g24 s25 s26 s27 s28 g29 g30 g31 g32 g33, ai_ cy g5 40 f5, ai_ cy g6 40 f6, ai_ cy g7 40 f7, ai_ cy g8 40 f8, ai_ cy g9 40 f9, az_ cy g10 40 f10, ai_ cy g22 40 f22, aj_ cy g29 12 c_g29_8, ai_ cy g30 12 c_g30_8, ai_ cy g31 12 c_g31_8] H → va_S A s.heap H locs → lv_has ls 10 [(4, .int x4_8), (3, .int x3_3), (0, .ref mo), (1, .int a1), (2, .int a2)] → W p l e ({ frames := 3, cells := 0, slots := 0, locals := 72 } : Room) s m (([.ref mo, .int a1, .int a2] : List Value).toArray) below meth c H locs 0 0 Q (F0 m 47 ls []) from LOOP_8 ((s4.toInt - (0 : Int32).toInt).toNat + 1) (0 : Int32) c_g29_3 c_g30_3 c_g31_3 _ _ _ (by omega) (by first | with_reducible assumption | omega | assumption) (by first | with_reducible assumption | omega | assumption) (by first | exact cw_nx hl_ (by have e_ := nI2 (a := S[l4]) (b := (0 : Int32)) (by omega) (by omega); omega) | exact cw_nx (by assumption) (by rw [cl_0])) (by first | with_reducible assumption | assumption | exact rng_zero (by omega) (by omega) | exact orng_zero) (by first | with_reducible assumption | assumption | exact rng_zero (by omega) (by omega) | exact orng_zero) ⟨hP, hD⟩ hS (lv_sub hl [0, 1, 2, 3, 4] rfl)
          intro n_8
          induction n_8 with
          | zero =>
            intro x4_8 c_g29_8 c_g30_8 c_g31_8 H locs ls hm v0_8 v1_8 v2_8 rc_g30_8 rc_g31_8 hPD hS hl; obtain ⟨hP, hD⟩ := hPD
            exact absurd hm (by omega)
          | succ n_8 ih_8 =>
            intro x4_8 c_g29_8 c_g30_8 c_g31_8 H locs ls hm v0_8 v1_8 v2_8 rc_g30_8 rc_g31_8 hPD hS hl; obtain ⟨hP, hD⟩ := hPD
            refine lv_iload hx hb dB_3_2_6.2.1.2.1 (lv_at hl 0 rfl) ?_
            refine lv_aload_n hx hb dB_3_2_6.2.1.2.2 rfl (lv_at hl 2 rfl) ?_
            refine va_get (ci := 12) (v := .int s4) (C := RX12) (T := TX12) (N := 34) hx hb hts (fun _ h => List.mem_cons_of_mem _ (List.mem_append_right _ h)) hown hK.1 hP 0 rfl rfl 4 (by decide) (hts (.fieldLink RX12 95 "CutAtlasModel" "lines" "I") (List.mem_of_getElem? (i := 4) rfl)) (fun _ h9 => h9) rfl dB_3_2_6.2.2.1.1 ?_
            have c4_ := clI (i := x4_8) (by omega)
            refine lv_icmp_ge (tgt := 232) hx hb dB_3_2_6.2.2.1.2 (by decide) (fun c_9 => ?_) (fun c_9 => ?_)
            · have t_9 : s4.toInt ≤ x4_8.toInt := Int32.le_iff_toInt_le.mp c_9
              have hr_ : cw (gx f6 f7) (gy f6 f7) (gc f5 f8 f9 f22) (go f5 f8 f9 f10 f22) (2 * s4.toNatClampNeg) a1.toNatClampNeg s3.toNatClampNeg c_g29_8 c_g30_8 c_g31_8 (x3_3.toNatClampNeg + 1) (0) := cw_rd v2_8 (by have c_ := clI (i := x4_8) (by omega); omega) rfl
              obtain ⟨y_10, ey_10⟩ : ∃ y : Int32, y = x3_3 + 1 := ⟨_, rfl⟩
              have ty_10 : y_10.toInt = x3_3.toInt + (1 : Int32).toInt := by rw [ey_10]; exact addI (by omega) (by omega)
              refine lv_iinc (v := y_10) (lv' := [(3, .int y_10), (4, .int x4_8), (0, .ref mo), (1, .int a1), (2, .int a2)]) hx hb dB_3_2_12.2.1.1.1 hl (k := 1) rfl (by rw [ey_10]; rfl) (by decide) rfl (fun ls hl => ?_)
              refine lv_goto (tgt := 36) hx hb dB_3_2_12.2.1.1.2 (by decide) ?_
              exact ih_3 y_10 c_g29_8 c_g30_8 c_g31_8 _ _ _ (by omega) (by first | with_reducible assumption | omega | assumption) (by first | with_reducible assumption | omega | assumption) (by first | exact h0_ | exact cw_r2 hr_ (nI2 (by omega) (by omega))) (by first | with_reducible assumption | assumption | exact rng_zero (by omega) (by omega) | exact orng_zero) (by first | with_reducible assumption | assumption | exact rng_zero (by omega) (by omega) | exact orng_zero) ⟨hP, hD⟩ hS (lv_sub hl [0, 2, 3, 4] rfl)
            · have t_9 : ¬ s4.toInt ≤ x4_8.toInt := fun h => c_9 (Int32.le_iff_toInt_le.mpr h)
              refine lv_iconst (v := 0) hx hb dB_3_2_6.2.2.2.1 (by decide) ?_
              refine lv_istore (lv' := [(5, .int 0), (4, .int x4_8), (3, .int x3_3), (0, .ref mo), (1, .int a1), (2, .int a2)]) hx hb dB_3_2_6.2.2.2.2 hl (by decide) rfl (fun ls hl => ?_)
              suffices LOOP_11 : ∀ (n_11 : Nat) (x5_11 : Int32) (c_g29_11 : Nat → Int64) (c_g30_11 : Nat → Int32) (c_g31_11 : Nat → Int32) (H : Heap) (locs : List Loc) (ls : Array Slot), 2 - x5_11.toInt < (n_11 : Int) → (0 ≤ x5_11.toInt) → (x5_11.toInt ≤ 2) → (cw (gx f6 f7) (gy f6 f7) (gc f5 f8 f9 f22) (go f5 f8 f9 f10 f22) (2 * s4.toNatClampNeg) a1.toNatClampNeg s3.toNatClampNeg c_g29_11 c_g30_11 c_g31_11 (x3_3.toNatClampNeg) (2 * x4_8.toNatClampNeg + x5_11.toNatClampNeg)) → (rng c_g30_11 12 (0) (39)) → (rng c_g31_11 12 (0) (11)) → pd_2 D vwCl A [ob12_0_ mo s0 s1 t2 s3 s4 g5 g6 g7 g8 g9 g10 s11 g12 g13 g14 g15 g16 g17 g18 g19 g20 s21 g22 g23 g24 s25 s26 s27 s28 g29 g30 g31 g32 g33, ai_ cy g5 40 f5, ai_ cy g6 40 f6, ai_ cy g7 40 f7, ai_ cy g8 40 f8, ai_ cy g9 40 f9, az_ cy g10 40 f10, ai_ cy g22 40 f22, aj_ cy g29 12 c_g29_11, ai_ cy g30 12 c_g30_11, ai_ cy g31 12 c_g31_11] H → va_S A s.heap H locs → lv_has ls 10 [(5, .int x5_11), (4, .int x4_8), (3, .int x3_3), (0, .ref mo), (1, .int a1), (2, .int a2)] → W p l e ({ frames := 3, cells := 0, slots := 0, locals := 72 } : Room) s m (([.ref mo, .int a1, .int a2] : List Value).toArray) below meth c H locs 0 0 Q (F0 m 59 ls []) from LOOP_11 ((2 - (0 : Int32).toInt).toNat + 1) (0 : Int32) c_g29_8 c_g30_8 c_g31_8 _ _ _ (by omega) (by first | with_reducible assumption | omega | assumption) (by first | with_reducible assumption | omega | assumption) (by first | exact cw_nx hn_ (by have e_ := nI2 (a := S[l5]) (b := (0 : Int32)) (by omega) (by omega); omega) | exact cw_nx (by assumption) (by rw [cl_0, Nat.add_zero])) (by first | with_reducible assumption | assumption | exact rng_zero (by omega) (by omega) | exact orng_zero) (by first | with_reducible assumption | assumption | exact rng_zero (by omega) (by omega) | exact orng_zero) ⟨hP, hD⟩ hS (lv_sub hl [0, 1, 2, 3, 4, 5] rfl)
              intro n_11
              induction n_11 with
              | zero =>
                intro x5_11 c_g29_11 c_g30_11 c_g31_11 H locs ls hm v0_11 v1_11 v2_11 rc_g30_11 rc_g31_11 hPD hS hl; obtain ⟨hP, hD⟩ := hPD
                exact absurd hm (by omega)
              | succ n_11 ih_11 =>
                intro x5_11 c_g29_11 c_g30_11 c_g31_11 H locs ls hm v0_11 v1_11 v2_11 rc_g30_11 rc_g31_11 hPD hS hl; obtain ⟨hP, hD⟩ := hPD
                refine lv_iload hx hb dB_3_2_7.1.1.1.1 (lv_at hl 0 rfl) ?_
                refine lv_iconst (v := 2) hx hb dB_3_2_7.1.1.1.2 (by decide) ?_
                refine lv_icmp_ge (tgt := 226) hx hb dB_3_2_7.1.1.2.1 (by decide) (fun c_12 => ?_) (fun c_12 => ?_)
                · have t_12 : (2 : Int32).toInt ≤ x5_11.toInt := Int32.le_iff_toInt_le.mp c_12
                  have c5_ := clI (i := x5_11) (by omega)
                  have hl_ : cw (gx f6 f7) (gy f6 f7) (gc f5 f8 f9 f22) (go f5 f8 f9 f10 f22) (2 * s4.toNatClampNeg) a1.toNatClampNeg s3.toNatClampNeg c_g29_11 c_g30_11 c_g31_11 (x3_3.toNatClampNeg) (2 * x4_8.toNatClampNeg + 2) := by first | exact cw_nx v2_11 (by omega) | exact cw_nx (cw_to v2_11 (2 - x5_11.toNatClampNeg) (fun e h1 h2 => go_miss (j := x4_8.toNatClampNeg) (by omega) (by omega))) (by omega)
                  obtain ⟨y_13, ey_13⟩ : ∃ y : Int32, y = x4_8 + 1 := ⟨_, rfl⟩
                  have ty_13 : y_13.toInt = x4_8.toInt + (1 : Int32).toInt := by rw [ey_13]; exact addI (by omega) (by omega)
                  refine lv_iinc (v := y_13) (lv' := [(4, .int y_13), (5, .int x5_11), (3, .int x3_3), (0, .ref mo), (1, .int a1), (2, .int a2)]) hx hb dB_3_2_12.1.2.2.1 hl (k := 1) rfl (by rw [ey_13]; rfl) (by decide) rfl (fun ls hl => ?_)
                  refine lv_goto (tgt := 47) hx hb dB_3_2_12.1.2.2.2 (by decide) ?_
                  exact ih_8 y_13 c_g29_11 c_g30_11 c_g31_11 _ _ _ (by omega) (by first | with_reducible assumption | omega | assumption) (by first | with_reducible assumption | omega | assumption) (by first | exact cw_nx hl_ (by have e_ := nI2 (a := x4_8) (b := y_13) (by omega) (by omega); omega) | exact cw_nx (by assumption) (by rw [cl_0])) (by first | with_reducible assumption | assumption | exact rng_zero (by omega) (by omega) | exact orng_zero) (by first | with_reducible assumption | assumption | exact rng_zero (by omega) (by omega) | exact orng_zero) ⟨hP, hD⟩ hS (lv_sub hl [0, 2, 3, 4, 5] rfl)
                · have t_12 : ¬ (2 : Int32).toInt ≤ x5_11.toInt := fun h => c_12 (Int32.le_iff_toInt_le.mpr h)
                  refine lv_aload_n hx hb dB_3_2_7.1.1.2.2 rfl (lv_at hl 3 rfl) ?_
                  refine va_get (ci := 12) (v := .ref g10) (C := RX12) (T := TX12) (N := 34) hx hb hts (fun _ h => List.mem_cons_of_mem _ (List.mem_append_right _ h)) hown hK.1 hP 0 rfl rfl 10 (by decide) (hts (.fieldLink RX12 25 "CutAtlasModel" "isMissing" "[Z") (List.mem_of_getElem? (i := 5) rfl)) (fun _ h9 => h9) rfl dB_3_2_7.1.2.1.1 ?_
                  refine lv_iload hx hb dB_3_2_7.1.2.1.2 (lv_at hl 1 rfl) ?_
                  have h_14 : vp_in x4_8 40 := in_I (by first | with_reducible assumption | omega) (by omega)
                  refine va_zald hx hb hK.1 hP 6 2 rfl rfl (i := x4_8) h_14 dB_3_2_7.1.2.2.1 ?_
                  refine lv_topi (fun y_15 ey_15 => ?_)
                  have ky_15 : y_15.toInt = (f10 x4_8.toNatClampNeg).toInt := by rw [ey_15]
                  refine lv_if_ne (tgt := 226) hx hb dB_3_2_7.1.2.2.2 (by decide) (fun c_16 => ?_) (fun c_16 => ?_)
                  · have t_16 : ¬ y_15.toInt = (0 : Int32).toInt := fun h => c_16 (Int32.toInt_inj.mp h)
                    have c5_ := clI (i := x5_11) (by omega)
                    have hl_ : cw (gx f6 f7) (gy f6 f7) (gc f5 f8 f9 f22) (go f5 f8 f9 f10 f22) (2 * s4.toNatClampNeg) a1.toNatClampNeg s3.toNatClampNeg c_g29_11 c_g30_11 c_g31_11 (x3_3.toNatClampNeg) (2 * x4_8.toNatClampNeg + 2) := by first | exact cw_nx v2_11 (by omega) | exact cw_nx (cw_to v2_11 (2 - x5_11.toNatClampNeg) (fun e h1 h2 => go_miss (j := x4_8.toNatClampNeg) (by omega) (by omega))) (by omega)
                    obtain ⟨y_17, ey_17⟩ : ∃ y : Int32, y = x4_8 + 1 := ⟨_, rfl⟩
                    have ty_17 : y_17.toInt = x4_8.toInt + (1 : Int32).toInt := by rw [ey_17]; exact addI (by omega) (by omega)
                    refine lv_iinc (v := y_17) (lv' := [(4, .int y_17), (5, .int x5_11), (3, .int x3_3), (0, .ref mo), (1, .int a1), (2, .int a2)]) hx hb dB_3_2_12.1.2.2.1 hl (k := 1) rfl (by rw [ey_17]; rfl) (by decide) rfl (fun ls hl => ?_)
                    refine lv_goto (tgt := 47) hx hb dB_3_2_12.1.2.2.2 (by decide) ?_
                    exact ih_8 y_17 c_g29_11 c_g30_11 c_g31_11 _ _ _ (by omega) (by first | with_reducible assumption | omega | assumption) (by first | with_reducible assumption | omega | assumption) (by first | exact cw_nx hl_ (by have e_ := nI2 (a := x4_8) (b := y_17) (by omega) (by omega); omega) | exact cw_nx (by assumption) (by rw [cl_0])) (by first | with_reducible assumption | assumption | exact rng_zero (by omega) (by omega) | exact orng_zero) (by first | with_reducible assumption | assumption | exact rng_zero (by omega) (by omega) | exact orng_zero) ⟨hP, hD⟩ hS (lv_sub hl [0, 2, 3, 4, 5] rfl)
                  · have t_16 : y_15.toInt = (0 : Int32).toInt := congrArg Int32.toInt c_16
                    have hf4_ := hfa x4_8.toNatClampNeg (by omega)
                    rcases b01 (a := x5_11) (by omega) with rfl | rfl
                    · refine lv_iload hx hb dB_3_2_7.2.1.1.1 (lv_at hl 0 rfl) ?_
                      refine lv_if_ne (tgt := 90) hx hb dB_3_2_7.2.1.1.2 (by decide) (fun c_18 => ?_) (fun c_18 => ?_)
                      · exact absurd c_18 (by decide)
                      · have _ := c_18
                        refine lv_aload_n hx hb dB_3_2_7.2.1.2.1 rfl (lv_at hl 3 rfl) ?_
                        refine va_get (ci := 12) (v := .ref g6) (C := RX12) (T := TX12) (N := 34) hx hb hts (fun _ h => List.mem_cons_of_mem _ (List.mem_append_right _ h)) hown hK.1 hP 0 rfl rfl 6 (by decide) (hts (.fieldLink RX12 13 "CutAtlasModel" "from" "[I") (List.mem_of_getElem? (i := 6) rfl)) (fun _ h9 => h9) rfl dB_3_2_7.2.1.2.2 ?_
                        refine lv_iload hx hb dB_3_2_7.2.2.1.1 (lv_at hl 1 rfl) ?_
                        refine va_iald hx hb hK.1 hP 2 0 rfl rfl (i := x4_8) h_14 dB_3_2_7.2.2.1.2 ?_
                        refine lv_topi (fun y_20 ey_20 => ?_)
                        have ky_20 : y_20.toInt = (f6 x4_8.toNatClampNeg).toInt := by rw [ey_20]
                        have ry_20 : 0 ≤ y_20.toInt ∧ y_20.toInt ≤ 11 := by rw [ey_20]; exact r_f6 _ (in_lt h_14)
                        refine lv_goto (tgt := 97) hx hb dB_3_2_7.2.2.2.1 (by decide) ?_
                        refine lv_istore (lv' := [(6, .int y_20), (5, .int 0), (4, .int x4_8), (3, .int x3_3), (0, .ref mo), (1, .int a1), (2, .int a2)]) hx hb dB_3_2_8.1.1.2.2 hl (by decide) rfl (fun ls hl => ?_)
                        refine lv_iload hx hb dB_3_2_8.1.2.1.1 (lv_at hl 1 rfl) ?_
                        refine lv_if_ne (tgt := 114) hx hb dB_3_2_8.1.2.1.2 (by decide) (fun c_21 => ?_) (fun c_21 => ?_)
                        · exact absurd c_21 (by decide)
                        · have _ := c_21
                          refine lv_aload_n hx hb dB_3_2_8.1.2.2.1 rfl (lv_at hl 4 rfl) ?_
                          refine va_get (ci := 12) (v := .ref g7) (C := RX12) (T := TX12) (N := 34) hx hb hts (fun _ h => List.mem_cons_of_mem _ (List.mem_append_right _ h)) hown hK.1 hP 0 rfl rfl 7 (by decide) (hts (.fieldLink RX12 16 "CutAtlasModel" "to" "[I") (List.mem_of_getElem? (i := 7) rfl)) (fun _ h9 => h9) rfl dB_3_2_8.1.2.2.2 ?_
                          refine lv_iload hx hb dB_3_2_8.2.1.1.1 (lv_at hl 2 rfl) ?_
                          refine va_iald hx hb hK.1 hP 3 0 rfl rfl (i := x4_8) h_14 dB_3_2_8.2.1.1.2 ?_
                          refine lv_topi (fun y_23 ey_23 => ?_)
                          have ky_23 : y_23.toInt = (f7 x4_8.toNatClampNeg).toInt := by rw [ey_23]
                          have ry_23 : 0 ≤ y_23.toInt ∧ y_23.toInt ≤ 11 := by rw [ey_23]; exact r_f7 _ (in_lt h_14)
                          refine lv_goto (tgt := 121) hx hb dB_3_2_8.2.1.2.1 (by decide) ?_
                          refine lv_istore (lv' := [(7, .int y_23), (6, .int y_20), (5, .int 0), (4, .int x4_8), (3, .int x3_3), (0, .ref mo), (1, .int a1), (2, .int a2)]) hx hb dB_3_2_8.2.2.2.2 hl (by decide) rfl (fun ls hl => ?_)
                          refine lv_aload_n hx hb dB_3_2_9.1.1.1.1 rfl (lv_at hl 5 rfl) ?_
                          refine lv_iload hx hb dB_3_2_9.1.1.1.2 (lv_at hl 3 rfl) ?_
                          refine lv_iload hx hb dB_3_2_9.1.1.2.1 (lv_at hl 2 rfl) ?_
                          refine lv_if_ne (tgt := 135) hx hb dB_3_2_9.1.1.2.2 (by decide) (fun c_24 => ?_) (fun c_24 => ?_)
                          · exact absurd c_24 (by decide)
                          · have _ := c_24
                            refine lv_iconst (v := 1) hx hb dB_3_2_9.1.2.1.1 (by decide) ?_
                            refine lv_goto (tgt := 136) hx hb dB_3_2_9.1.2.1.2 (by decide) ?_
                            refine ct_R hP hD [ob12_0_ mo s0 s1 t2 s3 s4 g5 g6 g7 g8 g9 g10 s11 g12 g13 g14 g15 g16 g17 g18 g19 g20 s21 g22 g23 g24 s25 s26 s27 s28 g29 g30 g31 g32 g33, ai_ cy g5 40 f5, ai_ cy g8 40 f8, ai_ cy g9 40 f9, ai_ cy g22 40 f22] [0, 1, 4, 5, 7] (by decide) rfl (fun hPc hDw => ?_)
                            have hFc := va_free (wc := []) hD hS hA [] rfl
                            refine va_calll (va_runV (As := [.int x4_8, .int 1]) (rest := []) ⟨hx, hb, hml, hown, hts⟩ (c_X12_step2 l D cy H.size mo g5 g6 g7 g8 g9 g10 g12 g13 g14 g15 g16 g17 g18 g19 g20 g22 g23 g24 g29 g30 g31 g32 g33 s0 s1 s3 s4 s11 s21 s25 s26 s27 s28 t2 f5 f8 f9 f22 x4_8 (1 : Int32) (by first | with_reducible assumption | omega | assumption) (by first | with_reducible assumption | omega | assumption) (by first | with_reducible assumption | omega | assumption) (by first | with_reducible assumption | omega | assumption) (by first | with_reducible assumption | assumption | omega) (by first | with_reducible assumption | assumption | omega)) (cwV 2 hts gX12_cheapWay_X12_step rfl rfl rfl ⟨rfl, hd_X12_step⟩ ⟨Nat.le_of_ble_eq_true rfl, Nat.le_of_ble_eq_true rfl⟩) ⟨bl_, va_recvX hK.1 hP (ci := 12) (q0 := 0) rfl rfl, fun U hU hW => ⟨rfl, by rw [hU], by rw [hU]; exact hPc, kk_mv hW hK, hDw⟩⟩ rfl rfl hl.1 rfl (lv_room (Nat.le_of_ble_eq_true rfl)) dB_3_2_9.1.2.2.2 ⟨Nat.le_of_ble_eq_true rfl, Nat.le_of_ble_eq_true rfl⟩) hS (fun q _ h => hFc q h) hFc (fun r_25 u t H locs ht hvm hw hB hz1 hk1 hS => ?_)
                            have hP : va_P D vwCl _ H := ro_keep hP hk1
                            have f0_r_25 := hw
                            have hc_ : r_25.toInt = gc f5 f8 f9 f22 (2 * x4_8.toNatClampNeg + (0 : Int32).toNatClampNeg) := by first | exact f0_r_25.trans gc_0.symm | exact f0_r_25.trans gc_1.symm
                            have hg_ : (gx f6 f7 (2 * x4_8.toNatClampNeg + (0 : Int32).toNatClampNeg) = y_20.toNatClampNeg ∧ gy f6 f7 (2 * x4_8.toNatClampNeg + (0 : Int32).toNatClampNeg) = y_23.toNatClampNeg) := by first | (rw [ey_20, ey_23]; exact gx_0) | (rw [ey_20, ey_23]; exact gx_1)
                            have c5_ := clI (i := (0 : Int32)) (by omega)
                            have hE_ : 2 * x4_8.toNatClampNeg + (0 : Int32).toNatClampNeg < 2 * s4.toNatClampNeg := by omega
                            refine lv_lstore (lv' := [(8, .long r_25), (7, .int y_23), (6, .int y_20), (5, .int 0), (4, .int x4_8), (3, .int x3_3), (0, .ref mo), (1, .int a1), (2, .int a2)]) hx hb dB_3_2_9.2.1.1.1 hl (by decide) rfl (fun ls hl => ?_)
                            refine lv_lload hx hb dB_3_2_9.2.1.1.2 (lv_at hl 0 rfl) ?_
                            refine lv_ldc2 (v := 1000000) hx hb hown (hts (.constantLong RX12 118 (1000000)) (List.mem_of_getElem? (i := 8) rfl)) dB_3_2_9.2.1.2.1 ?_
                            refine W.lcmp hx hb dB_3_2_9.2.1.2.2 ?_
                            refine lv_if_ge (tgt := 220) hx hb dB_3_2_9.2.2.1.1 (by decide) (fun c_26 => ?_) (fun c_26 => ?_)
                            · have t_26 : (1000000 : Int64).toInt ≤ r_25.toInt := Int64.le_iff_toInt_le.mp ((lg_cmp_ge r_25 1000000).mp c_26)
                              have hn_ : cw (gx f6 f7) (gy f6 f7) (gc f5 f8 f9 f22) (go f5 f8 f9 f10 f22) (2 * s4.toNatClampNeg) a1.toNatClampNeg s3.toNatClampNeg c_g29_11 c_g30_11 c_g31_11 (x3_3.toNatClampNeg) (2 * x4_8.toNatClampNeg + (0 : Int32).toNatClampNeg + 1) := by first | exact cw_relax v2_11 hPi hgv (by omega) hE_ ho_ (by rw [hg_.1]; omega) (by rw [hg_.1, hg_.2]; omega) (by rw [hg_.2]; exact ec_g29_11) (by rw [hg_.1]; omega) (by rw [hg_.2]; exact ec_g30_11) (by omega) (by rw [hg_.2]; exact ec_g31_11) hg_.1.symm | exact cw_skip v2_11 (fun o => (hgv _ hE_ o).1) (fun _ _ => by rw [hg_.1, hg_.2]; omega) | exact cw_skip v2_11 (fun o => (hgv _ hE_ o).1) (fun _ h => absurd h (by rw [hg_.1]; omega)) | exact cw_skip v2_11 (fun o => (hgv _ hE_ o).1) (fun o => absurd (go_iff.mp o).2 (by rw [← hc_]; omega))
                              obtain ⟨y_27, ey_27⟩ : ∃ y : Int32, y = (0 : Int32) + 1 := ⟨_, rfl⟩
                              have ty_27 : y_27.toInt = (0 : Int32).toInt + (1 : Int32).toInt := by rw [ey_27]; exact addI (by omega) (by omega)
                              refine lv_iinc (v := y_27) (lv' := [(5, .int y_27), (8, .long r_25), (7, .int y_23), (6, .int y_20), (4, .int x4_8), (3, .int x3_3), (0, .ref mo), (1, .int a1), (2, .int a2)]) hx hb dB_3_2_12.1.2.1.1 hl (k := 3) rfl (by rw [ey_27]; rfl) (by decide) rfl (fun ls hl => ?_)
                              refine lv_goto (tgt := 59) hx hb dB_3_2_12.1.2.1.2 (by decide) ?_
                              exact ih_11 y_27 c_g29_11 c_g30_11 c_g31_11 _ _ _ (by omega) (by first | with_reducible assumption | omega | assumption) (by first | with_reducible assumption | omega | assumption) (by first | exact cw_nx hn_ (by have e_ := nI2 (a := (0 : Int32)) (b := y_27) (by omega) (by omega); omega) | exact cw_nx (by assumption) (by rw [cl_0, Nat.add_zero])) (by first | with_reducible assumption | assumption | exact rng_zero (by omega) (by omega) | exact orng_zero) (by first | with_reducible assumption | assumption | exact rng_zero (by omega) (by omega) | exact orng_zero) ⟨hP, hD⟩ hS (lv_sub hl [0, 4, 5, 6, 7, 8] rfl)
                            · have t_26 : ¬ (1000000 : Int64).toInt ≤ r_25.toInt := fun h => c_26 ((lg_cmp_ge r_25 1000000).mpr (Int64.le_iff_toInt_le.mpr h))
                              have ho_ : go f5 f8 f9 f10 f22 (2 * x4_8.toNatClampNeg + (0 : Int32).toNatClampNeg) = true := go_at (by omega) (by omega) hc_ (by omega)
                              have hw_ := hgv _ hE_ ho_
                              have hw2_ : y_20.toNatClampNeg < s3.toNatClampNeg ∧ y_23.toNatClampNeg < s3.toNatClampNeg := by rw [← hg_.1, ← hg_.2]; exact hw_
                              have hcl_ := hgc _ hE_ ho_
                              refine lv_aload_n hx hb dB_3_2_9.2.2.1.2 rfl (lv_at hl 6 rfl) ?_
                              refine va_get (ci := 12) (v := .ref g29) (C := RX12) (T := TX12) (N := 34) hx hb hts (fun _ h => List.mem_cons_of_mem _ (List.mem_append_right _ h)) hown hK.1 hP 0 rfl rfl 29 (by decide) (hts (.fieldLink RX12 70 "CutAtlasModel" "paid" "[J") (List.mem_of_getElem? (i := 2) rfl)) (fun _ h9 => h9) rfl dB_3_2_9.2.2.2.1 ?_
                              refine lv_iload hx hb dB_3_2_9.2.2.2.2 (lv_at hl 2 rfl) ?_
                              have h_28 : vp_in y_20 12 := in_I (by first | with_reducible assumption | omega) (by omega)
                              refine va_lald hx hb hK.1 hP 8 1 rfl rfl (i := y_20) h_28 dB_3_2_10.1.1.1.1 ?_
                              refine lv_topl (fun y_29 ey_29 => ?_)
                              have kx_ : y_29.toInt = (c_g29_11 y_20.toNatClampNeg).toInt := by rw [ey_29]
                              refine lv_ldc2 (v := 1099511627776) hx hb hown (hts (.constantLong RX12 211 (1099511627776)) (List.mem_of_getElem? (i := 3) rfl)) dB_3_2_10.1.1.1.2 ?_
                              refine W.lcmp hx hb dB_3_2_10.1.1.2.1 ?_
                              refine lv_if_ge (tgt := 220) hx hb dB_3_2_10.1.1.2.2 (by decide) (fun c_30 => ?_) (fun c_30 => ?_)
                              · have t_30 : (1099511627776 : Int64).toInt ≤ y_29.toInt := Int64.le_iff_toInt_le.mp ((lg_cmp_ge y_29 1099511627776).mp c_30)
                                have hn_ : cw (gx f6 f7) (gy f6 f7) (gc f5 f8 f9 f22) (go f5 f8 f9 f10 f22) (2 * s4.toNatClampNeg) a1.toNatClampNeg s3.toNatClampNeg c_g29_11 c_g30_11 c_g31_11 (x3_3.toNatClampNeg) (2 * x4_8.toNatClampNeg + (0 : Int32).toNatClampNeg + 1) := by first | exact cw_relax v2_11 hPi hgv (by omega) hE_ ho_ (by rw [hg_.1]; omega) (by rw [hg_.1, hg_.2]; omega) (by rw [hg_.2]; exact ec_g29_11) (by rw [hg_.1]; omega) (by rw [hg_.2]; exact ec_g30_11) (by omega) (by rw [hg_.2]; exact ec_g31_11) hg_.1.symm | exact cw_skip v2_11 (fun o => (hgv _ hE_ o).1) (fun _ _ => by rw [hg_.1, hg_.2]; omega) | exact cw_skip v2_11 (fun o => (hgv _ hE_ o).1) (fun _ h => absurd h (by rw [hg_.1]; omega)) | exact cw_skip v2_11 (fun o => (hgv _ hE_ o).1) (fun o => absurd (go_iff.mp o).2 (by rw [← hc_]; omega))
                                obtain ⟨y_31, ey_31⟩ : ∃ y : Int32, y = (0 : Int32) + 1 := ⟨_, rfl⟩
                                have ty_31 : y_31.toInt = (0 : Int32).toInt + (1 : Int32).toInt := by rw [ey_31]; exact addI (by omega) (by omega)
                                refine lv_iinc (v := y_31) (lv' := [(5, .int y_31), (8, .long r_25), (7, .int y_23), (6, .int y_20), (4, .int x4_8), (3, .int x3_3), (0, .ref mo), (1, .int a1), (2, .int a2)]) hx hb dB_3_2_12.1.2.1.1 hl (k := 3) rfl (by rw [ey_31]; rfl) (by decide) rfl (fun ls hl => ?_)
                                refine lv_goto (tgt := 59) hx hb dB_3_2_12.1.2.1.2 (by decide) ?_
                                exact ih_11 y_31 c_g29_11 c_g30_11 c_g31_11 _ _ _ (by omega) (by first | with_reducible assumption | omega | assumption) (by first | with_reducible assumption | omega | assumption) (by first | exact cw_nx hn_ (by have e_ := nI2 (a := (0 : Int32)) (b := y_31) (by omega) (by omega); omega) | exact cw_nx (by assumption) (by rw [cl_0, Nat.add_zero])) (by first | with_reducible assumption | assumption | exact rng_zero (by omega) (by omega) | exact orng_zero) (by first | with_reducible assumption | assumption | exact rng_zero (by omega) (by omega) | exact orng_zero) ⟨hP, hD⟩ hS (lv_sub hl [0, 4, 5, 6, 7, 8] rfl)
                              · have t_30 : ¬ (1099511627776 : Int64).toInt ≤ y_29.toInt := fun h => c_30 ((lg_cmp_ge y_29 1099511627776).mpr (Int64.le_iff_toInt_le.mpr h))
                                have hr6_ := cw_rng v2_11 (by omega) hgc hw2_.1
                                refine lv_aload_n hx hb dB_3_2_10.1.2.1.1 rfl (lv_at hl 6 rfl) ?_
                                refine va_get (ci := 12) (v := .ref g29) (C := RX12) (T := TX12) (N := 34) hx hb hts (fun _ h => List.mem_cons_of_mem _ (List.mem_append_right _ h)) hown hK.1 hP 0 rfl rfl 29 (by decide) (hts (.fieldLink RX12 70 "CutAtlasModel" "paid" "[J") (List.mem_of_getElem? (i := 2) rfl)) (fun _ h9 => h9) rfl dB_3_2_10.1.2.1.2 ?_
                                refine lv_iload hx hb dB_3_2_10.1.2.2.1 (lv_at hl 2 rfl) ?_
                                refine va_lald hx hb hK.1 hP 8 1 rfl rfl (i := y_20) h_28 dB_3_2_10.1.2.2.2 ?_
                                refine lv_topl (fun y_33 ey_33 => ?_)
                                have e_ := (ey_33.trans ey_29.symm).symm
                                subst e_
                                skip
                                refine lv_lload hx hb dB_3_2_10.2.1.1.1 (lv_at hl 0 rfl) ?_
                                refine lv_ladd hx hb dB_3_2_10.2.1.1.2 ?_
                                refine lv_topl (fun y_34 ey_34 => ?_)
                                have ty_34 : y_34.toInt = y_29.toInt + r_25.toInt := by rw [ey_34]; exact addL (by omega) (by omega)
                                refine lv_aload_n hx hb dB_3_2_10.2.1.2.1 rfl (lv_at hl 6 rfl) ?_
                                refine va_get (ci := 12) (v := .ref g29) (C := RX12) (T := TX12) (N := 34) hx hb hts (fun _ h => List.mem_cons_of_mem _ (List.mem_append_right _ h)) hown hK.1 hP 0 rfl rfl 29 (by decide) (hts (.fieldLink RX12 70 "CutAtlasModel" "paid" "[J") (List.mem_of_getElem? (i := 2) rfl)) (fun _ h9 => h9) rfl dB_3_2_10.2.1.2.2 ?_
                                refine lv_iload hx hb dB_3_2_10.2.2.1.1 (lv_at hl 1 rfl) ?_
                                have h_35 : vp_in y_23 12 := in_I (by first | with_reducible assumption | omega) (by omega)
                                refine va_lald hx hb hK.1 hP 8 1 rfl rfl (i := y_23) h_35 dB_3_2_10.2.2.1.2 ?_
                                refine lv_topl (fun y_36 ey_36 => ?_)
                                have ky_ : y_36.toInt = (c_g29_11 y_23.toNatClampNeg).toInt := by rw [ey_36]
                                refine W.lcmp hx hb dB_3_2_10.2.2.2.1 ?_
                                refine lv_if_ge (tgt := 220) hx hb dB_3_2_10.2.2.2.2 (by decide) (fun c_37 => ?_) (fun c_37 => ?_)
                                · have t_37 : y_36.toInt ≤ y_34.toInt := Int64.le_iff_toInt_le.mp ((lg_cmp_ge y_34 y_36).mp c_37)
                                  have hn_ : cw (gx f6 f7) (gy f6 f7) (gc f5 f8 f9 f22) (go f5 f8 f9 f10 f22) (2 * s4.toNatClampNeg) a1.toNatClampNeg s3.toNatClampNeg c_g29_11 c_g30_11 c_g31_11 (x3_3.toNatClampNeg) (2 * x4_8.toNatClampNeg + (0 : Int32).toNatClampNeg + 1) := by first | exact cw_relax v2_11 hPi hgv (by omega) hE_ ho_ (by rw [hg_.1]; omega) (by rw [hg_.1, hg_.2]; omega) (by rw [hg_.2]; exact ec_g29_11) (by rw [hg_.1]; omega) (by rw [hg_.2]; exact ec_g30_11) (by omega) (by rw [hg_.2]; exact ec_g31_11) hg_.1.symm | exact cw_skip v2_11 (fun o => (hgv _ hE_ o).1) (fun _ _ => by rw [hg_.1, hg_.2]; omega) | exact cw_skip v2_11 (fun o => (hgv _ hE_ o).1) (fun _ h => absurd h (by rw [hg_.1]; omega)) | exact cw_skip v2_11 (fun o => (hgv _ hE_ o).1) (fun o => absurd (go_iff.mp o).2 (by rw [← hc_]; omega))
                                  obtain ⟨y_38, ey_38⟩ : ∃ y : Int32, y = (0 : Int32) + 1 := ⟨_, rfl⟩
                                  have ty_38 : y_38.toInt = (0 : Int32).toInt + (1 : Int32).toInt := by rw [ey_38]; exact addI (by omega) (by omega)
                                  refine lv_iinc (v := y_38) (lv' := [(5, .int y_38), (8, .long r_25), (7, .int y_23), (6, .int y_20), (4, .int x4_8), (3, .int x3_3), (0, .ref mo), (1, .int a1), (2, .int a2)]) hx hb dB_3_2_12.1.2.1.1 hl (k := 3) rfl (by rw [ey_38]; rfl) (by decide) rfl (fun ls hl => ?_)
                                  refine lv_goto (tgt := 59) hx hb dB_3_2_12.1.2.1.2 (by decide) ?_
                                  exact ih_11 y_38 c_g29_11 c_g30_11 c_g31_11 _ _ _ (by omega) (by first | with_reducible assumption | omega | assumption) (by first | with_reducible assumption | omega | assumption) (by first | exact cw_nx hn_ (by have e_ := nI2 (a := (0 : Int32)) (b := y_38) (by omega) (by omega); omega) | exact cw_nx (by assumption) (by rw [cl_0, Nat.add_zero])) (by first | with_reducible assumption | assumption | exact rng_zero (by omega) (by omega) | exact orng_zero) (by first | with_reducible assumption | assumption | exact rng_zero (by omega) (by omega) | exact orng_zero) ⟨hP, hD⟩ hS (lv_sub hl [0, 4, 5, 6, 7, 8] rfl)
                                · have t_37 : ¬ y_36.toInt ≤ y_34.toInt := fun h => c_37 ((lg_cmp_ge y_34 y_36).mpr (Int64.le_iff_toInt_le.mpr h))
                                  refine lv_aload_n hx hb dB_3_2_11.1.1.1.1 rfl (lv_at hl 6 rfl) ?_
                                  refine va_get (ci := 12) (v := .ref g29) (C := RX12) (T := TX12) (N := 34) hx hb hts (fun _ h => List.mem_cons_of_mem _ (List.mem_append_right _ h)) hown hK.1 hP 0 rfl rfl 29 (by decide) (hts (.fieldLink RX12 70 "CutAtlasModel" "paid" "[J") (List.mem_of_getElem? (i := 2) rfl)) (fun _ h9 => h9) rfl dB_3_2_11.1.1.1.2 ?_
                                  refine lv_iload hx hb dB_3_2_11.1.1.2.1 (lv_at hl 1 rfl) ?_
                                  refine lv_aload_n hx hb dB_3_2_11.1.1.2.2 rfl (lv_at hl 6 rfl) ?_
                                  refine va_get (ci := 12) (v := .ref g29) (C := RX12) (T := TX12) (N := 34) hx hb hts (fun _ h => List.mem_cons_of_mem _ (List.mem_append_right _ h)) hown hK.1 hP 0 rfl rfl 29 (by decide) (hts (.fieldLink RX12 70 "CutAtlasModel" "paid" "[J") (List.mem_of_getElem? (i := 2) rfl)) (fun _ h9 => h9) rfl dB_3_2_11.1.2.1.1 ?_
                                  refine lv_iload hx hb dB_3_2_11.1.2.1.2 (lv_at hl 2 rfl) ?_
                                  refine va_lald hx hb hK.1 hP 8 1 rfl rfl (i := y_20) h_28 dB_3_2_11.1.2.2.1 ?_
                                  refine lv_topl (fun y_40 ey_40 => ?_)
                                  have e_ := (ey_40.trans ey_29.symm).symm
                                  subst e_
                                  skip
                                  refine lv_lload hx hb dB_3_2_11.1.2.2.2 (lv_at hl 0 rfl) ?_
                                  refine lv_ladd hx hb dB_3_2_11.2.1.1.1 ?_
                                  refine lv_topl (fun y_41 ey_41 => ?_)
                                  have ty_41 : y_41.toInt = y_29.toInt + r_25.toInt := by rw [ey_41]; exact addL (by omega) (by omega)
                                  refine va_last hx hb hK.1 hP hD hS 8 1 rfl rfl (i := y_23) h_35 dB_3_2_11.2.1.1.2 (fun H locs hP hD hS => ?_)
                                  obtain ⟨f_43, ef_43⟩ : ∃ g : Nat → Int64, g = vp_updL c_g29_11 y_23.toNatClampNeg y_41 := ⟨_, rfl⟩
                                  refine pd_K (D := D) (cl := vwCl) (H := H) (A := A) [ob12_0_ mo s0 s1 t2 s3 s4 g5 g6 g7 g8 g9 g10 s11 g12 g13 g14 g15 g16 g17 g18 g19 g20 s21 g22 g23 g24 s25 s26 s27 s28 g29 g30 g31 g32 g33, ai_ cy g5 40 f5, ai_ cy g6 40 f6, ai_ cy g7 40 f7, ai_ cy g8 40 f8, ai_ cy g9 40 f9, az_ cy g10 40 f10, ai_ cy g22 40 f22, aj_ cy g29 12 f_43, ai_ cy g30 12 c_g30_11, ai_ cy g31 12 c_g31_11] (by rw [ef_43]; exact hP) (by rw [ef_43]; exact hD) (fun hP hD => ?_)
                                  refine lv_aload_n hx hb dB_3_2_11.2.1.2.1 rfl (lv_at hl 6 rfl) ?_
                                  refine va_get (ci := 12) (v := .ref g30) (C := RX12) (T := TX12) (N := 34) hx hb hts (fun _ h => List.mem_cons_of_mem _ (List.mem_append_right _ h)) hown hK.1 hP 0 rfl rfl 30 (by decide) (hts (.fieldLink RX12 73 "CutAtlasModel" "byLine" "[I") (List.mem_of_getElem? (i := 9) rfl)) (fun _ h9 => h9) rfl dB_3_2_11.2.1.2.2 ?_
                                  refine lv_iload hx hb dB_3_2_11.2.2.1.1 (lv_at hl 1 rfl) ?_
                                  refine lv_iload hx hb dB_3_2_11.2.2.1.2 (lv_at hl 4 rfl) ?_
                                  refine va_iast hx hb hK.1 hP hD hS 9 0 rfl rfl (i := y_23) h_35 dB_3_2_11.2.2.2.1 (fun H locs hP hD hS => ?_)
                                  obtain ⟨f_45, ef_45⟩ : ∃ g : Nat → Int32, g = upd c_g30_11 y_23.toNatClampNeg x4_8 := ⟨_, rfl⟩
                                  refine pd_K (D := D) (cl := vwCl) (H := H) (A := A) [ob12_0_ mo s0 s1 t2 s3 s4 g5 g6 g7 g8 g9 g10 s11 g12 g13 g14 g15 g16 g17 g18 g19 g20 s21 g22 g23 g24 s25 s26 s27 s28 g29 g30 g31 g32 g33, ai_ cy g5 40 f5, ai_ cy g6 40 f6, ai_ cy g7 40 f7, ai_ cy g8 40 f8, ai_ cy g9 40 f9, az_ cy g10 40 f10, ai_ cy g22 40 f22, aj_ cy g29 12 f_43, ai_ cy g30 12 f_45, ai_ cy g31 12 c_g31_11] (by rw [ef_45]; exact hP) (by rw [ef_45]; exact hD) (fun hP hD => ?_)
                                  have rf_45 : rng f_45 12 (0) (39) := by rw [ef_45]; exact rng_upd rc_g30_11 (by omega) (by omega)
                                  refine lv_aload_n hx hb dB_3_2_11.2.2.2.2 rfl (lv_at hl 6 rfl) ?_
                                  refine va_get (ci := 12) (v := .ref g31) (C := RX12) (T := TX12) (N := 34) hx hb hts (fun _ h => List.mem_cons_of_mem _ (List.mem_append_right _ h)) hown hK.1 hP 0 rfl rfl 31 (by decide) (hts (.fieldLink RX12 76 "CutAtlasModel" "byPlace" "[I") (List.mem_of_getElem? (i := 10) rfl)) (fun _ h9 => h9) rfl dB_3_2_12.1.1.1.1 ?_
                                  refine lv_iload hx hb dB_3_2_12.1.1.1.2 (lv_at hl 1 rfl) ?_
                                  refine lv_iload hx hb dB_3_2_12.1.1.2.1 (lv_at hl 2 rfl) ?_
                                  refine va_iast hx hb hK.1 hP hD hS 10 0 rfl rfl (i := y_23) h_35 dB_3_2_12.1.1.2.2 (fun H locs hP hD hS => ?_)
                                  obtain ⟨f_47, ef_47⟩ : ∃ g : Nat → Int32, g = upd c_g31_11 y_23.toNatClampNeg y_20 := ⟨_, rfl⟩
                                  refine pd_K (D := D) (cl := vwCl) (H := H) (A := A) [ob12_0_ mo s0 s1 t2 s3 s4 g5 g6 g7 g8 g9 g10 s11 g12 g13 g14 g15 g16 g17 g18 g19 g20 s21 g22 g23 g24 s25 s26 s27 s28 g29 g30 g31 g32 g33, ai_ cy g5 40 f5, ai_ cy g6 40 f6, ai_ cy g7 40 f7, ai_ cy g8 40 f8, ai_ cy g9 40 f9, az_ cy g10 40 f10, ai_ cy g22 40 f22, aj_ cy g29 12 f_43, ai_ cy g30 12 f_45, ai_ cy g31 12 f_47] (by rw [ef_47]; exact hP) (by rw [ef_47]; exact hD) (fun hP hD => ?_)
                                  have rf_47 : rng f_47 12 (0) (11) := by rw [ef_47]; exact rng_upd rc_g31_11 (by omega) (by omega)
                                  have hn_ : cw (gx f6 f7) (gy f6 f7) (gc f5 f8 f9 f22) (go f5 f8 f9 f10 f22) (2 * s4.toNatClampNeg) a1.toNatClampNeg s3.toNatClampNeg f_43 f_45 f_47 (x3_3.toNatClampNeg) (2 * x4_8.toNatClampNeg + (0 : Int32).toNatClampNeg + 1) := by first | exact cw_relax v2_11 hPi hgv (by omega) hE_ ho_ (by rw [hg_.1]; omega) (by rw [hg_.1, hg_.2]; omega) (by rw [hg_.2]; exact ef_43) (by rw [hg_.1]; omega) (by rw [hg_.2]; exact ef_45) (by omega) (by rw [hg_.2]; exact ef_47) hg_.1.symm | exact cw_skip v2_11 (fun o => (hgv _ hE_ o).1) (fun _ _ => by rw [hg_.1, hg_.2]; omega) | exact cw_skip v2_11 (fun o => (hgv _ hE_ o).1) (fun _ h => absurd h (by rw [hg_.1]; omega)) | exact cw_skip v2_11 (fun o => (hgv _ hE_ o).1) (fun o => absurd (go_iff.mp o).2 (by rw [← hc_]; omega))
                                  obtain ⟨y_48, ey_48⟩ : ∃ y : Int32, y = (0 : Int32) + 1 := ⟨_, rfl⟩
                                  have ty_48 : y_48.toInt = (0 : Int32).toInt + (1 : Int32).toInt := by rw [ey_48]; exact addI (by omega) (by omega)
                                  refine lv_iinc (v := y_48) (lv' := [(5, .int y_48), (8, .long r_25), (7, .int y_23), (6, .int y_20), (4, .int x4_8), (3, .int x3_3), (0, .ref mo), (1, .int a1), (2, .int a2)]) hx hb dB_3_2_12.1.2.1.1 hl (k := 3) rfl (by rw [ey_48]; rfl) (by decide) rfl (fun ls hl => ?_)
                                  refine lv_goto (tgt := 59) hx hb dB_3_2_12.1.2.1.2 (by decide) ?_
                                  exact ih_11 y_48 f_43 f_45 f_47 _ _ _ (by omega) (by first | with_reducible assumption | omega | assumption) (by first | with_reducible assumption | omega | assumption) (by first | exact cw_nx hn_ (by have e_ := nI2 (a := (0 : Int32)) (b := y_48) (by omega) (by omega); omega) | exact cw_nx (by assumption) (by rw [cl_0, Nat.add_zero])) (by first | with_reducible assumption | assumption | exact rng_zero (by omega) (by omega) | exact orng_zero) (by first | with_reducible assumption | assumption | exact rng_zero (by omega) (by omega) | exact orng_zero) ⟨hP, hD⟩ hS (lv_sub hl [0, 4, 5, 6, 7, 8] rfl)
                    · refine lv_iload hx hb dB_3_2_7.2.1.1.1 (lv_at hl 0 rfl) ?_
                      refine lv_if_ne (tgt := 90) hx hb dB_3_2_7.2.1.1.2 (by decide) (fun c_49 => ?_) (fun c_49 => ?_)
                      · have _ := c_49
                        refine lv_aload_n hx hb dB_3_2_7.2.2.2.2 rfl (lv_at hl 3 rfl) ?_
                        refine va_get (ci := 12) (v := .ref g7) (C := RX12) (T := TX12) (N := 34) hx hb hts (fun _ h => List.mem_cons_of_mem _ (List.mem_append_right _ h)) hown hK.1 hP 0 rfl rfl 7 (by decide) (hts (.fieldLink RX12 16 "CutAtlasModel" "to" "[I") (List.mem_of_getElem? (i := 7) rfl)) (fun _ h9 => h9) rfl dB_3_2_8.1.1.1.1 ?_
                        refine lv_iload hx hb dB_3_2_8.1.1.1.2 (lv_at hl 1 rfl) ?_
                        refine va_iald hx hb hK.1 hP 3 0 rfl rfl (i := x4_8) h_14 dB_3_2_8.1.1.2.1 ?_
                        refine lv_topi (fun y_51 ey_51 => ?_)
                        have ky_51 : y_51.toInt = (f7 x4_8.toNatClampNeg).toInt := by rw [ey_51]
                        have ry_51 : 0 ≤ y_51.toInt ∧ y_51.toInt ≤ 11 := by rw [ey_51]; exact r_f7 _ (in_lt h_14)
                        refine lv_istore (lv' := [(6, .int y_51), (5, .int 1), (4, .int x4_8), (3, .int x3_3), (0, .ref mo), (1, .int a1), (2, .int a2)]) hx hb dB_3_2_8.1.1.2.2 hl (by decide) rfl (fun ls hl => ?_)
                        refine lv_iload hx hb dB_3_2_8.1.2.1.1 (lv_at hl 1 rfl) ?_
                        refine lv_if_ne (tgt := 114) hx hb dB_3_2_8.1.2.1.2 (by decide) (fun c_52 => ?_) (fun c_52 => ?_)
                        · have _ := c_52
                          refine lv_aload_n hx hb dB_3_2_8.2.1.2.2 rfl (lv_at hl 4 rfl) ?_
                          refine va_get (ci := 12) (v := .ref g6) (C := RX12) (T := TX12) (N := 34) hx hb hts (fun _ h => List.mem_cons_of_mem _ (List.mem_append_right _ h)) hown hK.1 hP 0 rfl rfl 6 (by decide) (hts (.fieldLink RX12 13 "CutAtlasModel" "from" "[I") (List.mem_of_getElem? (i := 6) rfl)) (fun _ h9 => h9) rfl dB_3_2_8.2.2.1.1 ?_
                          refine lv_iload hx hb dB_3_2_8.2.2.1.2 (lv_at hl 2 rfl) ?_
                          refine va_iald hx hb hK.1 hP 2 0 rfl rfl (i := x4_8) h_14 dB_3_2_8.2.2.2.1 ?_
                          refine lv_topi (fun y_54 ey_54 => ?_)
                          have ky_54 : y_54.toInt = (f6 x4_8.toNatClampNeg).toInt := by rw [ey_54]
                          have ry_54 : 0 ≤ y_54.toInt ∧ y_54.toInt ≤ 11 := by rw [ey_54]; exact r_f6 _ (in_lt h_14)
                          refine lv_istore (lv' := [(7, .int y_54), (6, .int y_51), (5, .int 1), (4, .int x4_8), (3, .int x3_3), (0, .ref mo), (1, .int a1), (2, .int a2)]) hx hb dB_3_2_8.2.2.2.2 hl (by decide) rfl (fun ls hl => ?_)
                          refine lv_aload_n hx hb dB_3_2_9.1.1.1.1 rfl (lv_at hl 5 rfl) ?_
                          refine lv_iload hx hb dB_3_2_9.1.1.1.2 (lv_at hl 3 rfl) ?_
                          refine lv_iload hx hb dB_3_2_9.1.1.2.1 (lv_at hl 2 rfl) ?_
                          refine lv_if_ne (tgt := 135) hx hb dB_3_2_9.1.1.2.2 (by decide) (fun c_55 => ?_) (fun c_55 => ?_)
                          · have _ := c_55
                            refine lv_iconst (v := 0) hx hb dB_3_2_9.1.2.2.1 (by decide) ?_
                            refine ct_R hP hD [ob12_0_ mo s0 s1 t2 s3 s4 g5 g6 g7 g8 g9 g10 s11 g12 g13 g14 g15 g16 g17 g18 g19 g20 s21 g22 g23 g24 s25 s26 s27 s28 g29 g30 g31 g32 g33, ai_ cy g5 40 f5, ai_ cy g8 40 f8, ai_ cy g9 40 f9, ai_ cy g22 40 f22] [0, 1, 4, 5, 7] (by decide) rfl (fun hPc hDw => ?_)
                            have hFc := va_free (wc := []) hD hS hA [] rfl
                            refine va_calll (va_runV (As := [.int x4_8, .int 0]) (rest := []) ⟨hx, hb, hml, hown, hts⟩ (c_X12_step2 l D cy H.size mo g5 g6 g7 g8 g9 g10 g12 g13 g14 g15 g16 g17 g18 g19 g20 g22 g23 g24 g29 g30 g31 g32 g33 s0 s1 s3 s4 s11 s21 s25 s26 s27 s28 t2 f5 f8 f9 f22 x4_8 (0 : Int32) (by first | with_reducible assumption | omega | assumption) (by first | with_reducible assumption | omega | assumption) (by first | with_reducible assumption | omega | assumption) (by first | with_reducible assumption | omega | assumption) (by first | with_reducible assumption | assumption | omega) (by first | with_reducible assumption | assumption | omega)) (cwV 2 hts gX12_cheapWay_X12_step rfl rfl rfl ⟨rfl, hd_X12_step⟩ ⟨Nat.le_of_ble_eq_true rfl, Nat.le_of_ble_eq_true rfl⟩) ⟨bl_, va_recvX hK.1 hP (ci := 12) (q0 := 0) rfl rfl, fun U hU hW => ⟨rfl, by rw [hU], by rw [hU]; exact hPc, kk_mv hW hK, hDw⟩⟩ rfl rfl hl.1 rfl (lv_room (Nat.le_of_ble_eq_true rfl)) dB_3_2_9.1.2.2.2 ⟨Nat.le_of_ble_eq_true rfl, Nat.le_of_ble_eq_true rfl⟩) hS (fun q _ h => hFc q h) hFc (fun r_56 u t H locs ht hvm hw hB hz1 hk1 hS => ?_)
                            have hP : va_P D vwCl _ H := ro_keep hP hk1
                            have f0_r_56 := hw
                            have hc_ : r_56.toInt = gc f5 f8 f9 f22 (2 * x4_8.toNatClampNeg + (1 : Int32).toNatClampNeg) := by first | exact f0_r_56.trans gc_0.symm | exact f0_r_56.trans gc_1.symm
                            have hg_ : (gx f6 f7 (2 * x4_8.toNatClampNeg + (1 : Int32).toNatClampNeg) = y_51.toNatClampNeg ∧ gy f6 f7 (2 * x4_8.toNatClampNeg + (1 : Int32).toNatClampNeg) = y_54.toNatClampNeg) := by first | (rw [ey_51, ey_54]; exact gx_0) | (rw [ey_51, ey_54]; exact gx_1)
                            have c5_ := clI (i := (1 : Int32)) (by omega)
                            have hE_ : 2 * x4_8.toNatClampNeg + (1 : Int32).toNatClampNeg < 2 * s4.toNatClampNeg := by omega
                            refine lv_lstore (lv' := [(8, .long r_56), (7, .int y_54), (6, .int y_51), (5, .int 1), (4, .int x4_8), (3, .int x3_3), (0, .ref mo), (1, .int a1), (2, .int a2)]) hx hb dB_3_2_9.2.1.1.1 hl (by decide) rfl (fun ls hl => ?_)
                            refine lv_lload hx hb dB_3_2_9.2.1.1.2 (lv_at hl 0 rfl) ?_
                            refine lv_ldc2 (v := 1000000) hx hb hown (hts (.constantLong RX12 118 (1000000)) (List.mem_of_getElem? (i := 8) rfl)) dB_3_2_9.2.1.2.1 ?_
                            refine W.lcmp hx hb dB_3_2_9.2.1.2.2 ?_
                            refine lv_if_ge (tgt := 220) hx hb dB_3_2_9.2.2.1.1 (by decide) (fun c_57 => ?_) (fun c_57 => ?_)
                            · have t_57 : (1000000 : Int64).toInt ≤ r_56.toInt := Int64.le_iff_toInt_le.mp ((lg_cmp_ge r_56 1000000).mp c_57)
                              have hn_ : cw (gx f6 f7) (gy f6 f7) (gc f5 f8 f9 f22) (go f5 f8 f9 f10 f22) (2 * s4.toNatClampNeg) a1.toNatClampNeg s3.toNatClampNeg c_g29_11 c_g30_11 c_g31_11 (x3_3.toNatClampNeg) (2 * x4_8.toNatClampNeg + (1 : Int32).toNatClampNeg + 1) := by first | exact cw_relax v2_11 hPi hgv (by omega) hE_ ho_ (by rw [hg_.1]; omega) (by rw [hg_.1, hg_.2]; omega) (by rw [hg_.2]; exact ec_g29_11) (by rw [hg_.1]; omega) (by rw [hg_.2]; exact ec_g30_11) (by omega) (by rw [hg_.2]; exact ec_g31_11) hg_.1.symm | exact cw_skip v2_11 (fun o => (hgv _ hE_ o).1) (fun _ _ => by rw [hg_.1, hg_.2]; omega) | exact cw_skip v2_11 (fun o => (hgv _ hE_ o).1) (fun _ h => absurd h (by rw [hg_.1]; omega)) | exact cw_skip v2_11 (fun o => (hgv _ hE_ o).1) (fun o => absurd (go_iff.mp o).2 (by rw [← hc_]; omega))
                              obtain ⟨y_58, ey_58⟩ : ∃ y : Int32, y = (1 : Int32) + 1 := ⟨_, rfl⟩
                              have ty_58 : y_58.toInt = (1 : Int32).toInt + (1 : Int32).toInt := by rw [ey_58]; exact addI (by omega) (by omega)
                              refine lv_iinc (v := y_58) (lv' := [(5, .int y_58), (8, .long r_56), (7, .int y_54), (6, .int y_51), (4, .int x4_8), (3, .int x3_3), (0, .ref mo), (1, .int a1), (2, .int a2)]) hx hb dB_3_2_12.1.2.1.1 hl (k := 3) rfl (by rw [ey_58]; rfl) (by decide) rfl (fun ls hl => ?_)
                              refine lv_goto (tgt := 59) hx hb dB_3_2_12.1.2.1.2 (by decide) ?_
                              exact ih_11 y_58 c_g29_11 c_g30_11 c_g31_11 _ _ _ (by omega) (by first | with_reducible assumption | omega | assumption) (by first | with_reducible assumption | omega | assumption) (by first | exact cw_nx hn_ (by have e_ := nI2 (a := (1 : Int32)) (b := y_58) (by omega) (by omega); omega) | exact cw_nx (by assumption) (by rw [cl_0, Nat.add_zero])) (by first | with_reducible assumption | assumption | exact rng_zero (by omega) (by omega) | exact orng_zero) (by first | with_reducible assumption | assumption | exact rng_zero (by omega) (by omega) | exact orng_zero) ⟨hP, hD⟩ hS (lv_sub hl [0, 4, 5, 6, 7, 8] rfl)
                            · have t_57 : ¬ (1000000 : Int64).toInt ≤ r_56.toInt := fun h => c_57 ((lg_cmp_ge r_56 1000000).mpr (Int64.le_iff_toInt_le.mpr h))
                              have ho_ : go f5 f8 f9 f10 f22 (2 * x4_8.toNatClampNeg + (1 : Int32).toNatClampNeg) = true := go_at (by omega) (by omega) hc_ (by omega)
                              have hw_ := hgv _ hE_ ho_
                              have hw2_ : y_51.toNatClampNeg < s3.toNatClampNeg ∧ y_54.toNatClampNeg < s3.toNatClampNeg := by rw [← hg_.1, ← hg_.2]; exact hw_
                              have hcl_ := hgc _ hE_ ho_
                              refine lv_aload_n hx hb dB_3_2_9.2.2.1.2 rfl (lv_at hl 6 rfl) ?_
                              refine va_get (ci := 12) (v := .ref g29) (C := RX12) (T := TX12) (N := 34) hx hb hts (fun _ h => List.mem_cons_of_mem _ (List.mem_append_right _ h)) hown hK.1 hP 0 rfl rfl 29 (by decide) (hts (.fieldLink RX12 70 "CutAtlasModel" "paid" "[J") (List.mem_of_getElem? (i := 2) rfl)) (fun _ h9 => h9) rfl dB_3_2_9.2.2.2.1 ?_
                              refine lv_iload hx hb dB_3_2_9.2.2.2.2 (lv_at hl 2 rfl) ?_
                              have h_59 : vp_in y_51 12 := in_I (by first | with_reducible assumption | omega) (by omega)
                              refine va_lald hx hb hK.1 hP 8 1 rfl rfl (i := y_51) h_59 dB_3_2_10.1.1.1.1 ?_
                              refine lv_topl (fun y_60 ey_60 => ?_)
                              have kx_ : y_60.toInt = (c_g29_11 y_51.toNatClampNeg).toInt := by rw [ey_60]
                              refine lv_ldc2 (v := 1099511627776) hx hb hown (hts (.constantLong RX12 211 (1099511627776)) (List.mem_of_getElem? (i := 3) rfl)) dB_3_2_10.1.1.1.2 ?_
                              refine W.lcmp hx hb dB_3_2_10.1.1.2.1 ?_
                              refine lv_if_ge (tgt := 220) hx hb dB_3_2_10.1.1.2.2 (by decide) (fun c_61 => ?_) (fun c_61 => ?_)
                              · have t_61 : (1099511627776 : Int64).toInt ≤ y_60.toInt := Int64.le_iff_toInt_le.mp ((lg_cmp_ge y_60 1099511627776).mp c_61)
                                have hn_ : cw (gx f6 f7) (gy f6 f7) (gc f5 f8 f9 f22) (go f5 f8 f9 f10 f22) (2 * s4.toNatClampNeg) a1.toNatClampNeg s3.toNatClampNeg c_g29_11 c_g30_11 c_g31_11 (x3_3.toNatClampNeg) (2 * x4_8.toNatClampNeg + (1 : Int32).toNatClampNeg + 1) := by first | exact cw_relax v2_11 hPi hgv (by omega) hE_ ho_ (by rw [hg_.1]; omega) (by rw [hg_.1, hg_.2]; omega) (by rw [hg_.2]; exact ec_g29_11) (by rw [hg_.1]; omega) (by rw [hg_.2]; exact ec_g30_11) (by omega) (by rw [hg_.2]; exact ec_g31_11) hg_.1.symm | exact cw_skip v2_11 (fun o => (hgv _ hE_ o).1) (fun _ _ => by rw [hg_.1, hg_.2]; omega) | exact cw_skip v2_11 (fun o => (hgv _ hE_ o).1) (fun _ h => absurd h (by rw [hg_.1]; omega)) | exact cw_skip v2_11 (fun o => (hgv _ hE_ o).1) (fun o => absurd (go_iff.mp o).2 (by rw [← hc_]; omega))
                                obtain ⟨y_62, ey_62⟩ : ∃ y : Int32, y = (1 : Int32) + 1 := ⟨_, rfl⟩
                                have ty_62 : y_62.toInt = (1 : Int32).toInt + (1 : Int32).toInt := by rw [ey_62]; exact addI (by omega) (by omega)
                                refine lv_iinc (v := y_62) (lv' := [(5, .int y_62), (8, .long r_56), (7, .int y_54), (6, .int y_51), (4, .int x4_8), (3, .int x3_3), (0, .ref mo), (1, .int a1), (2, .int a2)]) hx hb dB_3_2_12.1.2.1.1 hl (k := 3) rfl (by rw [ey_62]; rfl) (by decide) rfl (fun ls hl => ?_)
                                refine lv_goto (tgt := 59) hx hb dB_3_2_12.1.2.1.2 (by decide) ?_
                                exact ih_11 y_62 c_g29_11 c_g30_11 c_g31_11 _ _ _ (by omega) (by first | with_reducible assumption | omega | assumption) (by first | with_reducible assumption | omega | assumption) (by first | exact cw_nx hn_ (by have e_ := nI2 (a := (1 : Int32)) (b := y_62) (by omega) (by omega); omega) | exact cw_nx (by assumption) (by rw [cl_0, Nat.add_zero])) (by first | with_reducible assumption | assumption | exact rng_zero (by omega) (by omega) | exact orng_zero) (by first | with_reducible assumption | assumption | exact rng_zero (by omega) (by omega) | exact orng_zero) ⟨hP, hD⟩ hS (lv_sub hl [0, 4, 5, 6, 7, 8] rfl)
                              · have t_61 : ¬ (1099511627776 : Int64).toInt ≤ y_60.toInt := fun h => c_61 ((lg_cmp_ge y_60 1099511627776).mpr (Int64.le_iff_toInt_le.mpr h))
                                have hr6_ := cw_rng v2_11 (by omega) hgc hw2_.1
                                refine lv_aload_n hx hb dB_3_2_10.1.2.1.1 rfl (lv_at hl 6 rfl) ?_
                                refine va_get (ci := 12) (v := .ref g29) (C := RX12) (T := TX12) (N := 34) hx hb hts (fun _ h => List.mem_cons_of_mem _ (List.mem_append_right _ h)) hown hK.1 hP 0 rfl rfl 29 (by decide) (hts (.fieldLink RX12 70 "CutAtlasModel" "paid" "[J") (List.mem_of_getElem? (i := 2) rfl)) (fun _ h9 => h9) rfl dB_3_2_10.1.2.1.2 ?_
                                refine lv_iload hx hb dB_3_2_10.1.2.2.1 (lv_at hl 2 rfl) ?_
                                refine va_lald hx hb hK.1 hP 8 1 rfl rfl (i := y_51) h_59 dB_3_2_10.1.2.2.2 ?_
                                refine lv_topl (fun y_64 ey_64 => ?_)
                                have e_ := (ey_64.trans ey_60.symm).symm
                                subst e_
                                skip
                                refine lv_lload hx hb dB_3_2_10.2.1.1.1 (lv_at hl 0 rfl) ?_
                                refine lv_ladd hx hb dB_3_2_10.2.1.1.2 ?_
                                refine lv_topl (fun y_65 ey_65 => ?_)
                                have ty_65 : y_65.toInt = y_60.toInt + r_56.toInt := by rw [ey_65]; exact addL (by omega) (by omega)
                                refine lv_aload_n hx hb dB_3_2_10.2.1.2.1 rfl (lv_at hl 6 rfl) ?_
                                refine va_get (ci := 12) (v := .ref g29) (C := RX12) (T := TX12) (N := 34) hx hb hts (fun _ h => List.mem_cons_of_mem _ (List.mem_append_right _ h)) hown hK.1 hP 0 rfl rfl 29 (by decide) (hts (.fieldLink RX12 70 "CutAtlasModel" "paid" "[J") (List.mem_of_getElem? (i := 2) rfl)) (fun _ h9 => h9) rfl dB_3_2_10.2.1.2.2 ?_
                                refine lv_iload hx hb dB_3_2_10.2.2.1.1 (lv_at hl 1 rfl) ?_
                                have h_66 : vp_in y_54 12 := in_I (by first | with_reducible assumption | omega) (by omega)
                                refine va_lald hx hb hK.1 hP 8 1 rfl rfl (i := y_54) h_66 dB_3_2_10.2.2.1.2 ?_
                                refine lv_topl (fun y_67 ey_67 => ?_)
                                have ky_ : y_67.toInt = (c_g29_11 y_54.toNatClampNeg).toInt := by rw [ey_67]
                                refine W.lcmp hx hb dB_3_2_10.2.2.2.1 ?_
                                refine lv_if_ge (tgt := 220) hx hb dB_3_2_10.2.2.2.2 (by decide) (fun c_68 => ?_) (fun c_68 => ?_)
                                · have t_68 : y_67.toInt ≤ y_65.toInt := Int64.le_iff_toInt_le.mp ((lg_cmp_ge y_65 y_67).mp c_68)
                                  have hn_ : cw (gx f6 f7) (gy f6 f7) (gc f5 f8 f9 f22) (go f5 f8 f9 f10 f22) (2 * s4.toNatClampNeg) a1.toNatClampNeg s3.toNatClampNeg c_g29_11 c_g30_11 c_g31_11 (x3_3.toNatClampNeg) (2 * x4_8.toNatClampNeg + (1 : Int32).toNatClampNeg + 1) := by first | exact cw_relax v2_11 hPi hgv (by omega) hE_ ho_ (by rw [hg_.1]; omega) (by rw [hg_.1, hg_.2]; omega) (by rw [hg_.2]; exact ec_g29_11) (by rw [hg_.1]; omega) (by rw [hg_.2]; exact ec_g30_11) (by omega) (by rw [hg_.2]; exact ec_g31_11) hg_.1.symm | exact cw_skip v2_11 (fun o => (hgv _ hE_ o).1) (fun _ _ => by rw [hg_.1, hg_.2]; omega) | exact cw_skip v2_11 (fun o => (hgv _ hE_ o).1) (fun _ h => absurd h (by rw [hg_.1]; omega)) | exact cw_skip v2_11 (fun o => (hgv _ hE_ o).1) (fun o => absurd (go_iff.mp o).2 (by rw [← hc_]; omega))
                                  obtain ⟨y_69, ey_69⟩ : ∃ y : Int32, y = (1 : Int32) + 1 := ⟨_, rfl⟩
                                  have ty_69 : y_69.toInt = (1 : Int32).toInt + (1 : Int32).toInt := by rw [ey_69]; exact addI (by omega) (by omega)
                                  refine lv_iinc (v := y_69) (lv' := [(5, .int y_69), (8, .long r_56), (7, .int y_54), (6, .int y_51), (4, .int x4_8), (3, .int x3_3), (0, .ref mo), (1, .int a1), (2, .int a2)]) hx hb dB_3_2_12.1.2.1.1 hl (k := 3) rfl (by rw [ey_69]; rfl) (by decide) rfl (fun ls hl => ?_)
                                  refine lv_goto (tgt := 59) hx hb dB_3_2_12.1.2.1.2 (by decide) ?_
                                  exact ih_11 y_69 c_g29_11 c_g30_11 c_g31_11 _ _ _ (by omega) (by first | with_reducible assumption | omega | assumption) (by first | with_reducible assumption | omega | assumption) (by first | exact cw_nx hn_ (by have e_ := nI2 (a := (1 : Int32)) (b := y_69) (by omega) (by omega); omega) | exact cw_nx (by assumption) (by rw [cl_0, Nat.add_zero])) (by first | with_reducible assumption | assumption | exact rng_zero (by omega) (by omega) | exact orng_zero) (by first | with_reducible assumption | assumption | exact rng_zero (by omega) (by omega) | exact orng_zero) ⟨hP, hD⟩ hS (lv_sub hl [0, 4, 5, 6, 7, 8] rfl)
                                · have t_68 : ¬ y_67.toInt ≤ y_65.toInt := fun h => c_68 ((lg_cmp_ge y_65 y_67).mpr (Int64.le_iff_toInt_le.mpr h))
                                  refine lv_aload_n hx hb dB_3_2_11.1.1.1.1 rfl (lv_at hl 6 rfl) ?_
                                  refine va_get (ci := 12) (v := .ref g29) (C := RX12) (T := TX12) (N := 34) hx hb hts (fun _ h => List.mem_cons_of_mem _ (List.mem_append_right _ h)) hown hK.1 hP 0 rfl rfl 29 (by decide) (hts (.fieldLink RX12 70 "CutAtlasModel" "paid" "[J") (List.mem_of_getElem? (i := 2) rfl)) (fun _ h9 => h9) rfl dB_3_2_11.1.1.1.2 ?_
                                  refine lv_iload hx hb dB_3_2_11.1.1.2.1 (lv_at hl 1 rfl) ?_
                                  refine lv_aload_n hx hb dB_3_2_11.1.1.2.2 rfl (lv_at hl 6 rfl) ?_
                                  refine va_get (ci := 12) (v := .ref g29) (C := RX12) (T := TX12) (N := 34) hx hb hts (fun _ h => List.mem_cons_of_mem _ (List.mem_append_right _ h)) hown hK.1 hP 0 rfl rfl 29 (by decide) (hts (.fieldLink RX12 70 "CutAtlasModel" "paid" "[J") (List.mem_of_getElem? (i := 2) rfl)) (fun _ h9 => h9) rfl dB_3_2_11.1.2.1.1 ?_
                                  refine lv_iload hx hb dB_3_2_11.1.2.1.2 (lv_at hl 2 rfl) ?_
                                  refine va_lald hx hb hK.1 hP 8 1 rfl rfl (i := y_51) h_59 dB_3_2_11.1.2.2.1 ?_
                                  refine lv_topl (fun y_71 ey_71 => ?_)
                                  have e_ := (ey_71.trans ey_60.symm).symm
                                  subst e_
                                  skip
                                  refine lv_lload hx hb dB_3_2_11.1.2.2.2 (lv_at hl 0 rfl) ?_
                                  refine lv_ladd hx hb dB_3_2_11.2.1.1.1 ?_
                                  refine lv_topl (fun y_72 ey_72 => ?_)
                                  have ty_72 : y_72.toInt = y_60.toInt + r_56.toInt := by rw [ey_72]; exact addL (by omega) (by omega)
                                  refine va_last hx hb hK.1 hP hD hS 8 1 rfl rfl (i := y_54) h_66 dB_3_2_11.2.1.1.2 (fun H locs hP hD hS => ?_)
                                  obtain ⟨f_74, ef_74⟩ : ∃ g : Nat → Int64, g = vp_updL c_g29_11 y_54.toNatClampNeg y_72 := ⟨_, rfl⟩
                                  refine pd_K (D := D) (cl := vwCl) (H := H) (A := A) [ob12_0_ mo s0 s1 t2 s3 s4 g5 g6 g7 g8 g9 g10 s11 g12 g13 g14 g15 g16 g17 g18 g19 g20 s21 g22 g23 g24 s25 s26 s27 s28 g29 g30 g31 g32 g33, ai_ cy g5 40 f5, ai_ cy g6 40 f6, ai_ cy g7 40 f7, ai_ cy g8 40 f8, ai_ cy g9 40 f9, az_ cy g10 40 f10, ai_ cy g22 40 f22, aj_ cy g29 12 f_74, ai_ cy g30 12 c_g30_11, ai_ cy g31 12 c_g31_11] (by rw [ef_74]; exact hP) (by rw [ef_74]; exact hD) (fun hP hD => ?_)
                                  refine lv_aload_n hx hb dB_3_2_11.2.1.2.1 rfl (lv_at hl 6 rfl) ?_
                                  refine va_get (ci := 12) (v := .ref g30) (C := RX12) (T := TX12) (N := 34) hx hb hts (fun _ h => List.mem_cons_of_mem _ (List.mem_append_right _ h)) hown hK.1 hP 0 rfl rfl 30 (by decide) (hts (.fieldLink RX12 73 "CutAtlasModel" "byLine" "[I") (List.mem_of_getElem? (i := 9) rfl)) (fun _ h9 => h9) rfl dB_3_2_11.2.1.2.2 ?_
                                  refine lv_iload hx hb dB_3_2_11.2.2.1.1 (lv_at hl 1 rfl) ?_
                                  refine lv_iload hx hb dB_3_2_11.2.2.1.2 (lv_at hl 4 rfl) ?_
                                  refine va_iast hx hb hK.1 hP hD hS 9 0 rfl rfl (i := y_54) h_66 dB_3_2_11.2.2.2.1 (fun H locs hP hD hS => ?_)
                                  obtain ⟨f_76, ef_76⟩ : ∃ g : Nat → Int32, g = upd c_g30_11 y_54.toNatClampNeg x4_8 := ⟨_, rfl⟩
                                  refine pd_K (D := D) (cl := vwCl) (H := H) (A := A) [ob12_0_ mo s0 s1 t2 s3 s4 g5 g6 g7 g8 g9 g10 s11 g12 g13 g14 g15 g16 g17 g18 g19 g20 s21 g22 g23 g24 s25 s26 s27 s28 g29 g30 g31 g32 g33, ai_ cy g5 40 f5, ai_ cy g6 40 f6, ai_ cy g7 40 f7, ai_ cy g8 40 f8, ai_ cy g9 40 f9, az_ cy g10 40 f10, ai_ cy g22 40 f22, aj_ cy g29 12 f_74, ai_ cy g30 12 f_76, ai_ cy g31 12 c_g31_11] (by rw [ef_76]; exact hP) (by rw [ef_76]; exact hD) (fun hP hD => ?_)
                                  have rf_76 : rng f_76 12 (0) (39) := by rw [ef_76]; exact rng_upd rc_g30_11 (by omega) (by omega)
                                  refine lv_aload_n hx hb dB_3_2_11.2.2.2.2 rfl (lv_at hl 6 rfl) ?_
                                  refine va_get (ci := 12) (v := .ref g31) (C := RX12) (T := TX12) (N := 34) hx hb hts (fun _ h => List.mem_cons_of_mem _ (List.mem_append_right _ h)) hown hK.1 hP 0 rfl rfl 31 (by decide) (hts (.fieldLink RX12 76 "CutAtlasModel" "byPlace" "[I") (List.mem_of_getElem? (i := 10) rfl)) (fun _ h9 => h9) rfl dB_3_2_12.1.1.1.1 ?_
                                  refine lv_iload hx hb dB_3_2_12.1.1.1.2 (lv_at hl 1 rfl) ?_
                                  refine lv_iload hx hb dB_3_2_12.1.1.2.1 (lv_at hl 2 rfl) ?_
                                  refine va_iast hx hb hK.1 hP hD hS 10 0 rfl rfl (i := y_54) h_66 dB_3_2_12.1.1.2.2 (fun H locs hP hD hS => ?_)
                                  obtain ⟨f_78, ef_78⟩ : ∃ g : Nat → Int32, g = upd c_g31_11 y_54.toNatClampNeg y_51 := ⟨_, rfl⟩
                                  refine pd_K (D := D) (cl := vwCl) (H := H) (A := A) [ob12_0_ mo s0 s1 t2 s3 s4 g5 g6 g7 g8 g9 g10 s11 g12 g13 g14 g15 g16 g17 g18 g19 g20 s21 g22 g23 g24 s25 s26 s27 s28 g29 g30 g31 g32 g33, ai_ cy g5 40 f5, ai_ cy g6 40 f6, ai_ cy g7 40 f7, ai_ cy g8 40 f8, ai_ cy g9 40 f9, az_ cy g10 40 f10, ai_ cy g22 40 f22, aj_ cy g29 12 f_74, ai_ cy g30 12 f_76, ai_ cy g31 12 f_78] (by rw [ef_78]; exact hP) (by rw [ef_78]; exact hD) (fun hP hD => ?_)
                                  have rf_78 : rng f_78 12 (0) (11) := by rw [ef_78]; exact rng_upd rc_g31_11 (by omega) (by omega)
                                  have hn_ : cw (gx f6 f7) (gy f6 f7) (gc f5 f8 f9 f22) (go f5 f8 f9 f10 f22) (2 * s4.toNatClampNeg) a1.toNatClampNeg s3.toNatClampNeg f_74 f_76 f_78 (x3_3.toNatClampNeg) (2 * x4_8.toNatClampNeg + (1 : Int32).toNatClampNeg + 1) := by first | exact cw_relax v2_11 hPi hgv (by omega) hE_ ho_ (by rw [hg_.1]; omega) (by rw [hg_.1, hg_.2]; omega) (by rw [hg_.2]; exact ef_74) (by rw [hg_.1]; omega) (by rw [hg_.2]; exact ef_76) (by omega) (by rw [hg_.2]; exact ef_78) hg_.1.symm | exact cw_skip v2_11 (fun o => (hgv _ hE_ o).1) (fun _ _ => by rw [hg_.1, hg_.2]; omega) | exact cw_skip v2_11 (fun o => (hgv _ hE_ o).1) (fun _ h => absurd h (by rw [hg_.1]; omega)) | exact cw_skip v2_11 (fun o => (hgv _ hE_ o).1) (fun o => absurd (go_iff.mp o).2 (by rw [← hc_]; omega))
                                  obtain ⟨y_79, ey_79⟩ : ∃ y : Int32, y = (1 : Int32) + 1 := ⟨_, rfl⟩
                                  have ty_79 : y_79.toInt = (1 : Int32).toInt + (1 : Int32).toInt := by rw [ey_79]; exact addI (by omega) (by omega)
                                  refine lv_iinc (v := y_79) (lv' := [(5, .int y_79), (8, .long r_56), (7, .int y_54), (6, .int y_51), (4, .int x4_8), (3, .int x3_3), (0, .ref mo), (1, .int a1), (2, .int a2)]) hx hb dB_3_2_12.1.2.1.1 hl (k := 3) rfl (by rw [ey_79]; rfl) (by decide) rfl (fun ls hl => ?_)
                                  refine lv_goto (tgt := 59) hx hb dB_3_2_12.1.2.1.2 (by decide) ?_
                                  exact ih_11 y_79 f_74 f_76 f_78 _ _ _ (by omega) (by first | with_reducible assumption | omega | assumption) (by first | with_reducible assumption | omega | assumption) (by first | exact cw_nx hn_ (by have e_ := nI2 (a := (1 : Int32)) (b := y_79) (by omega) (by omega); omega) | exact cw_nx (by assumption) (by rw [cl_0, Nat.add_zero])) (by first | with_reducible assumption | assumption | exact rng_zero (by omega) (by omega) | exact orng_zero) (by first | with_reducible assumption | assumption | exact rng_zero (by omega) (by omega) | exact orng_zero) ⟨hP, hD⟩ hS (lv_sub hl [0, 4, 5, 6, 7, 8] rfl)
                          · exact absurd c_55 (by decide)
                        · exact absurd c_52 (by decide)
                      · exact absurd c_49 (by decide)
    · have t_2 : ¬ s3.toInt ≤ x3_1.toInt := fun h => c_2 (Int32.le_iff_toInt_le.mpr h)
      have c3_ := clI (i := x3_1) (by omega)
      refine lv_aload_n hx hb dB_3_2_5.1.2.2.1 rfl (lv_at hl 1 rfl) ?_
      refine va_get (ci := 12) (v := .ref g29) (C := RX12) (T := TX12) (N := 34) hx hb hts (fun _ h => List.mem_cons_of_mem _ (List.mem_append_right _ h)) hown hK.1 hP 0 rfl rfl 29 (by decide) (hts (.fieldLink RX12 70 "CutAtlasModel" "paid" "[J") (List.mem_of_getElem? (i := 2) rfl)) (fun _ h9 => h9) rfl dB_3_2_5.1.2.2.2 ?_
      refine lv_iload_n hx hb dB_3_2_5.2.1.1.1 rfl (lv_at hl 0 rfl) ?_
      refine lv_iload_n hx hb dB_3_2_5.2.1.1.2 rfl (lv_at hl 0 rfl) ?_
      refine lv_iload_n hx hb dB_3_2_5.2.1.2.1 rfl (lv_at hl 2 rfl) ?_
      refine lv_icmp_ne (tgt := 24) hx hb dB_3_2_5.2.1.2.2 (by decide) (fun c_80 => ?_) (fun c_80 => ?_)
      · have t_80 : ¬ x3_1.toInt = a1.toInt := fun h => c_80 (Int32.toInt_inj.mp h)
        refine lv_ldc2 (v := 1099511627776) hx hb hown (hts (.constantLong RX12 211 (1099511627776)) (List.mem_of_getElem? (i := 3) rfl)) dB_3_2_5.2.2.2.1 ?_
        have h_81 : vp_in x3_1 12 := in_I (by first | with_reducible assumption | omega) (by omega)
        refine va_last hx hb hK.1 hP hD hS 8 1 rfl rfl (i := x3_1) h_81 dB_3_2_5.2.2.2.2 (fun H locs hP hD hS => ?_)
        obtain ⟨f_82, ef_82⟩ : ∃ g : Nat → Int64, g = vp_updL c_g29_1 x3_1.toNatClampNeg (1099511627776 : Int64) := ⟨_, rfl⟩
        refine pd_K (D := D) (cl := vwCl) (H := H) (A := A) [ob12_0_ mo s0 s1 t2 s3 s4 g5 g6 g7 g8 g9 g10 s11 g12 g13 g14 g15 g16 g17 g18 g19 g20 s21 g22 g23 g24 s25 s26 s27 s28 g29 g30 g31 g32 g33, ai_ cy g5 40 f5, ai_ cy g6 40 f6, ai_ cy g7 40 f7, ai_ cy g8 40 f8, ai_ cy g9 40 f9, az_ cy g10 40 f10, ai_ cy g22 40 f22, aj_ cy g29 12 f_82, ai_ cy g30 12 f30, ai_ cy g31 12 f31] (by rw [ef_82]; exact hP) (by rw [ef_82]; exact hD) (fun hP hD => ?_)
        obtain ⟨y_83, ey_83⟩ : ∃ y : Int32, y = x3_1 + 1 := ⟨_, rfl⟩
        have ty_83 : y_83.toInt = x3_1.toInt + (1 : Int32).toInt := by rw [ey_83]; exact addI (by omega) (by omega)
        refine lv_iinc (v := y_83) (lv' := [(3, .int y_83), (0, .ref mo), (1, .int a1), (2, .int a2)]) hx hb dB_3_2_6.1.1.1.1 hl (k := 0) rfl (by rw [ey_83]; rfl) (by decide) rfl (fun ls hl => ?_)
        refine lv_goto (tgt := 2) hx hb dB_3_2_6.1.1.1.2 (by decide) ?_
        exact ih_1 y_83 f_82 _ _ _ (by omega) (by first | with_reducible assumption | omega | assumption) (by first | with_reducible assumption | omega | assumption) (by first | exact pd_st (by assumption) (by rw [if_pos (by omega)]; decide) (by assumption) (by omega) (by omega) | exact pd_st (by assumption) (by rw [if_neg (by omega)]; decide) (by assumption) (by omega) (by omega) | (intro w hw; omega)) ⟨hP, hD⟩ hS (lv_sub hl [0, 1, 2, 3] rfl)
      · have t_80 : x3_1.toInt = a1.toInt := congrArg Int32.toInt c_80
        refine lv_lconst (v := 0) hx hb dB_3_2_5.2.2.1.1 (by decide) ?_
        refine lv_goto (tgt := 27) hx hb dB_3_2_5.2.2.1.2 (by decide) ?_
        have h_84 : vp_in x3_1 12 := in_I (by first | with_reducible assumption | omega) (by omega)
        refine va_last hx hb hK.1 hP hD hS 8 1 rfl rfl (i := x3_1) h_84 dB_3_2_5.2.2.2.2 (fun H locs hP hD hS => ?_)
        obtain ⟨f_85, ef_85⟩ : ∃ g : Nat → Int64, g = vp_updL c_g29_1 x3_1.toNatClampNeg (0 : Int64) := ⟨_, rfl⟩
        refine pd_K (D := D) (cl := vwCl) (H := H) (A := A) [ob12_0_ mo s0 s1 t2 s3 s4 g5 g6 g7 g8 g9 g10 s11 g12 g13 g14 g15 g16 g17 g18 g19 g20 s21 g22 g23 g24 s25 s26 s27 s28 g29 g30 g31 g32 g33, ai_ cy g5 40 f5, ai_ cy g6 40 f6, ai_ cy g7 40 f7, ai_ cy g8 40 f8, ai_ cy g9 40 f9, az_ cy g10 40 f10, ai_ cy g22 40 f22, aj_ cy g29 12 f_85, ai_ cy g30 12 f30, ai_ cy g31 12 f31] (by rw [ef_85]; exact hP) (by rw [ef_85]; exact hD) (fun hP hD => ?_)
        obtain ⟨y_86, ey_86⟩ : ∃ y : Int32, y = x3_1 + 1 := ⟨_, rfl⟩
        have ty_86 : y_86.toInt = x3_1.toInt + (1 : Int32).toInt := by rw [ey_86]; exact addI (by omega) (by omega)
        refine lv_iinc (v := y_86) (lv' := [(3, .int y_86), (0, .ref mo), (1, .int a1), (2, .int a2)]) hx hb dB_3_2_6.1.1.1.1 hl (k := 0) rfl (by rw [ey_86]; rfl) (by decide) rfl (fun ls hl => ?_)
        refine lv_goto (tgt := 2) hx hb dB_3_2_6.1.1.1.2 (by decide) ?_
        exact ih_1 y_86 f_85 _ _ _ (by omega) (by first | with_reducible assumption | omega | assumption) (by first | with_reducible assumption | omega | assumption) (by first | exact pd_st (by assumption) (by rw [if_pos (by omega)]; decide) (by assumption) (by omega) (by omega) | exact pd_st (by assumption) (by rw [if_neg (by omega)]; decide) (by assumption) (by omega) (by omega) | (intro w hw; omega)) ⟨hP, hD⟩ hS (lv_sub hl [0, 1, 2, 3] rfl)
end

section
theorem ch_lt {p : Nat → Nat} {s t R i : Nat} (hR : rcs p s R t) (hi : i ≤ R) (hne : itr p i t ≠ s) : i < R := by
  rcases Nat.lt_or_ge i R with h | h
  · exact h
  · have a := rcs_itr hR i hi
    rw [show R - i = 0 by omega] at a
    exact absurd a hne
theorem ch_eq {p : Nat → Nat} {s t R i : Nat} (hR : rcs p s R t) (hi : i ≤ R) (he : itr p i t = s) : i = R := by
  have a := rcs_itr hR i hi
  rw [he] at a
  have b : rcs p s 0 s := rfl
  have := rcs_un _ _ _ a b
  omega

set_option maxHeartbeats 4000000 in
set_option maxRecDepth 100000 in
theorem c_X12_cheapest (l : Launch) (D : va_G) (cy : Nat → ClassId) (sz : Nat) (mo : Nat) (g5 : Nat) (g6 : Nat) (g7 : Nat) (g8 : Nat) (g9 : Nat) (g10 : Nat) (g12 : Nat) (g13 : Nat) (g14 : Nat) (g15 : Nat) (g16 : Nat) (g17 : Nat) (g18 : Nat) (g19 : Nat) (g20 : Nat) (g22 : Nat) (g23 : Nat) (g24 : Nat) (g29 : Nat) (g30 : Nat) (g31 : Nat) (g32 : Nat) (g33 : Nat) (s0 : Int32) (s1 : Int32) (s3 : Int32) (s4 : Int32) (s11 : Int32) (s21 : Int32) (s25 : Int32) (s26 : Int32) (s27 : Int32) (s28 : Int32) (t2 : Int64) (f5 : Nat → Int32) (f6 : Nat → Int32) (f7 : Nat → Int32) (f8 : Nat → Int32) (f9 : Nat → Int32) (f10 : Nat → Int32) (f22 : Nat → Int32) (f29 : Nat → Int64) (f30 : Nat → Int32) (f31 : Nat → Int32) (a1 : Int32) (a2 : Int32) (a3 : Int32) (hN : 0 ≤ s4.toInt ∧ s4.toInt ≤ 40) (hPl : 0 ≤ s3.toInt ∧ s3.toInt ≤ 12) (h21 : s21.toInt = -9) (hnet : netE s3.toInt s4.toInt f6 f7 f10) (r_f6 : rng f6 40 (0) (11)) (r_f7 : rng f7 40 (0) (11)) (r_f8 : rng f8 40 (0) (2000)) (r_f9 : rng f9 40 (0) (100)) (r_f30 : rng f30 12 (0) (39)) (r_f31 : rng f31 12 (0) (11)) : Met l yX12_cheapest wsX12_cheapest ({ frames := 4, cells := 0, slots := 0, locals := 101 }) (va_Pc [.ref mo, .int a1, .int a2, .int a3] (fun U => U.heap.size = sz ∧ va_P D vwCl [ob12_0_ mo s0 s1 t2 s3 s4 g5 g6 g7 g8 g9 g10 s11 g12 g13 g14 g15 g16 g17 g18 g19 g20 s21 g22 g23 g24 s25 s26 s27 s28 g29 g30 g31 g32 g33, ai_ cy g5 40 f5, ai_ cy g6 40 f6, ai_ cy g7 40 f7, ai_ cy g8 40 f8, ai_ cy g9 40 f9, az_ cy g10 40 f10, ai_ cy g22 40 f22, aj_ cy g29 12 f29, ai_ cy g30 12 f30, ai_ cy g31 12 f31] U.heap ∧ kk_ D cy U ∧ va_D (fun _ => True) [ob12_0_ mo s0 s1 t2 s3 s4 g5 g6 g7 g8 g9 g10 s11 g12 g13 g14 g15 g16 g17 g18 g19 g20 s21 g22 g23 g24 s25 s26 s27 s28 g29 g30 g31 g32 g33, ai_ cy g5 40 f5, ai_ cy g6 40 f6, ai_ cy g7 40 f7, ai_ cy g8 40 f8, ai_ cy g9 40 f9, az_ cy g10 40 f10, ai_ cy g22 40 f22, aj_ cy g29 12 f29, ai_ cy g30 12 f30, ai_ cy g31 12 f31])) (va_Qi (fun (r : Int32) (_ : Unit) => True) (fun (_ : Unit) (t : State) => ∃ (e22 : Nat → Int32), ∃ (e29 : Nat → Int64), ∃ (e30 : Nat → Int32), ∃ (e31 : Nat → Int32), (rng e30 12 (0) (39)) ∧ (rng e31 12 (0) (11)) ∧ va_P D vwCl [ob12_0_ mo 0 s1 t2 s3 s4 g5 g6 g7 g8 g9 g10 s11 g12 g13 g14 g15 g16 g17 g18 g19 g20 s21 g22 g23 g24 s25 s26 s27 s28 g29 g30 g31 g32 g33, ai_ cy g5 40 f5, ai_ cy g6 40 f6, ai_ cy g7 40 f7, ai_ cy g8 40 f8, ai_ cy g9 40 f9, az_ cy g10 40 f10, ai_ cy g22 40 e22, aj_ cy g29 12 e29, ai_ cy g30 12 e30, ai_ cy g31 12 e31] t.heap ∧ va_D (va_A [ob12_0_ mo s0 s1 t2 s3 s4 g5 g6 g7 g8 g9 g10 s11 g12 g13 g14 g15 g16 g17 g18 g19 g20 s21 g22 g23 g24 s25 s26 s27 s28 g29 g30 g31 g32 g33, ai_ cy g5 40 f5, ai_ cy g6 40 f6, ai_ cy g7 40 f7, ai_ cy g8 40 f8, ai_ cy g9 40 f9, az_ cy g10 40 f10, ai_ cy g22 40 f22, aj_ cy g29 12 f29, ai_ cy g30 12 f30, ai_ cy g31 12 f31] sz) [ob12_0_ mo 0 s1 t2 s3 s4 g5 g6 g7 g8 g9 g10 s11 g12 g13 g14 g15 g16 g17 g18 g19 g20 s21 g22 g23 g24 s25 s26 s27 s28 g29 g30 g31 g32 g33, ai_ cy g5 40 f5, ai_ cy g6 40 f6, ai_ cy g7 40 f7, ai_ cy g8 40 f8, ai_ cy g9 40 f9, az_ cy g10 40 f10, ai_ cy g22 40 e22, aj_ cy g29 12 e29, ai_ cy g30 12 e30, ai_ cy g31 12 e31]) (va_A [ob12_0_ mo s0 s1 t2 s3 s4 g5 g6 g7 g8 g9 g10 s11 g12 g13 g14 g15 g16 g17 g18 g19 g20 s21 g22 g23 g24 s25 s26 s27 s28 g29 g30 g31 g32 g33, ai_ cy g5 40 f5, ai_ cy g6 40 f6, ai_ cy g7 40 f7, ai_ cy g8 40 f8, ai_ cy g9 40 f9, az_ cy g10 40 f10, ai_ cy g22 40 f22, aj_ cy g29 12 f29, ai_ cy g30 12 f30, ai_ cy g31 12 f31] sz)) 0 0 (va_A [ob12_0_ mo s0 s1 t2 s3 s4 g5 g6 g7 g8 g9 g10 s11 g12 g13 g14 g15 g16 g17 g18 g19 g20 s21 g22 g23 g24 s25 s26 s27 s28 g29 g30 g31 g32 g33, ai_ cy g5 40 f5, ai_ cy g6 40 f6, ai_ cy g7 40 f7, ai_ cy g8 40 f8, ai_ cy g9 40 f9, az_ cy g10 40 f10, ai_ cy g22 40 f22, aj_ cy g29 12 f29, ai_ cy g30 12 f30, ai_ cy g31 12 f31] sz) := by
  refine ofQ (cc := cX12_cheapest) (maxL := 10) (ret := (some .int)) (by decide) rfl ?_
  intro p e s m args below meth c s₁ Q hQ B hml hv
  obtain ⟨rfl, hsz, hP, hK, hD0⟩ := hv
  have hx := B.exec
  have hb := B.bytes
  have hr := B.returns
  have hts := atoms_spec (ws := wsX12_cheapest) B.pre
  have hown : s.vm.findClass RX12 = some m.cls := by have h_ := findClass_of_methodNamed B.named; exact h_
  have hlocks := B.notSynchronized
  subst hsz
  have hD := hD0.self (sz := s.heap.size)
  generalize hAe : va_A [ob12_0_ mo s0 s1 t2 s3 s4 g5 g6 g7 g8 g9 g10 s11 g12 g13 g14 g15 g16 g17 g18 g19 g20 s21 g22 g23 g24 s25 s26 s27 s28 g29 g30 g31 g32 g33, ai_ cy g5 40 f5, ai_ cy g6 40 f6, ai_ cy g7 40 f7, ai_ cy g8 40 f8, ai_ cy g9 40 f9, az_ cy g10 40 f10, ai_ cy g22 40 f22, aj_ cy g29 12 f29, ai_ cy g30 12 f30, ai_ cy g31 12 f31] s.heap.size = A at hD hQ
  have hA : ∀ q : Nat, s.heap.size ≤ q → A q := fun q h => by rw [← hAe]; exact Or.inr h
  have hS : va_S A s.heap s.heap [] := va_S.rf
  have hl := lv_entry ([.ref mo, .int a1, .int a2, .int a3]) (n := 10) (Nat.le_of_ble_eq_true rfl)
  rw [lg_entry_eq]
  generalize (lg_sl ([.ref mo, .int a1, .int a2, .int a3]) ++ List.replicate (10 - (lg_sl ([.ref mo, .int a1, .int a2, .int a3])).length) Slot.unset).toArray = ls at hl ⊢
  have hl : lv_has ls 10 [(0, .ref mo), (1, .int a1), (2, .int a2), (3, .int a3)] := hl
  have zm9 : ((-9) : Int32).toInt = -9 := by decide
  have zm1 : ((-1) : Int32).toInt = -1 := by decide
  have z0 : (0 : Int32).toInt = 0 := by decide
  have zl0 : (0 : Int64).toInt = 0 := by decide
  have z1 : (1 : Int32).toInt = 1 := by decide
  have z40 : (40 : Int32).toInt = 40 := by decide
  have zl500 : (500 : Int64).toInt = 500 := by decide
  have cP := clI (i := s3) (by omega)
  have cN := clI (i := s4) (by omega)
  refine lv_aload_n hx hb dB_3_2_14.1.1.1.1 rfl (lv_at hl 0 rfl) ?_
  refine lv_iconst (v := 0) hx hb dB_3_2_14.1.1.1.2 (by decide) ?_
  refine va_put (ci := 12) (v := .int 0) (ty := .int) (C := RX12) (T := TX12) (N := 34) hx hb hts (fun _ h => List.mem_cons_of_mem _ (List.mem_append_right _ h)) tyX12 tyX12_ok nmX12 hown hK.1 hP hD hS 0 rfl rfl 0 (by decide) (hts (.fieldLink RX12 85 "CutAtlasModel" "thrown" "I") (List.mem_of_getElem? (i := 1) rfl)) (fun _ h9 => h9) rfl (by decide +kernel) rfl rfl (Nat.le_of_ble_eq_true rfl) dB_3_2_14.1.1.2.1 (fun H locs hP hD hS => ?_)
  refine pd_K [ob12_0_ mo 0 s1 t2 s3 s4 g5 g6 g7 g8 g9 g10 s11 g12 g13 g14 g15 g16 g17 g18 g19 g20 s21 g22 g23 g24 s25 s26 s27 s28 g29 g30 g31 g32 g33, ai_ cy g5 40 f5, ai_ cy g6 40 f6, ai_ cy g7 40 f7, ai_ cy g8 40 f8, ai_ cy g9 40 f9, az_ cy g10 40 f10, ai_ cy g22 40 f22, aj_ cy g29 12 f29, ai_ cy g30 12 f30, ai_ cy g31 12 f31] hP hD (fun hP hD => ?_)
  refine lv_aload_n hx hb dB_3_2_14.1.1.2.2 rfl (lv_at hl 0 rfl) ?_
  refine lv_iload_n hx hb dB_3_2_14.1.2.1.1 rfl (lv_at hl 1 rfl) ?_
  refine lv_iload_n hx hb dB_3_2_14.1.2.1.2 rfl (lv_at hl 2 rfl) ?_
  refine ct_R hP hD [ob12_0_ mo 0 s1 t2 s3 s4 g5 g6 g7 g8 g9 g10 s11 g12 g13 g14 g15 g16 g17 g18 g19 g20 s21 g22 g23 g24 s25 s26 s27 s28 g29 g30 g31 g32 g33] [0] (by decide) rfl (fun hPc hDw => ?_)
  have hFc := va_free (wc := []) hD hS hA [] rfl
  refine va_calli (va_runV (As := [.int a1, .int a2]) (rest := []) ⟨hx, hb, hml, hown, hts⟩ (c_X12_arePlaces l D cy H.size mo g5 g6 g7 g8 g9 g10 g12 g13 g14 g15 g16 g17 g18 g19 g20 g22 g23 g24 g29 g30 g31 g32 g33 (0 : Int32) s1 s3 s4 s11 s21 s25 s26 s27 s28 t2 a1 a2 (by first | with_reducible assumption | omega | assumption)) (cwV 2 hts gX12_cheapest_X12_arePlaces rfl rfl rfl ⟨rfl, hd_X12_arePlaces⟩ ⟨Nat.le_of_ble_eq_true rfl, Nat.le_of_ble_eq_true rfl⟩) ⟨bl_, va_recvX hK.1 hP (ci := 12) (q0 := 0) rfl rfl, fun U hU hW => ⟨rfl, by rw [hU], by rw [hU]; exact hPc, kk_mv hW hK, hDw⟩⟩ rfl rfl hl.1 rfl (lv_room (Nat.le_of_ble_eq_true rfl)) dB_3_2_14.1.2.2.1 ⟨Nat.le_of_ble_eq_true rfl, Nat.le_of_ble_eq_true rfl⟩) hS (fun q _ h => hFc q h) hFc (fun r_1 u t H locs ht hvm hw hB hz1 hk1 hS => ?_)
  have hP : va_P D vwCl _ H := ro_keep hP hk1
  rcases hw with ⟨w_2, e_⟩ | ⟨w_2, e_⟩
  · have e_ := e_.symm
    subst e_
    refine lv_if_eq (tgt := 26) hx hb dB_3_2_14.1.2.2.2 (by decide) (fun c_3 => ?_) (fun c_3 => ?_)
    · exact absurd c_3 (by decide)
    · have _ := c_3
      refine lv_iload_n hx hb dB_3_2_14.2.1.1.1 rfl (lv_at hl 3 rfl) ?_
      refine lv_i2l (v := a3.toInt64) hx hb dB_3_2_14.2.1.1.2 rfl ?_
      have q_15 : (a3.toInt64).toInt = a3.toInt := Int32.toInt_toInt64 a3
      refine lv_lconst (v := 0) hx hb dB_3_2_14.2.1.2.1 (by decide) ?_
      refine lv_ldc2 (v := 500) hx hb hown (hts (.constantLong RX12 217 (500)) (List.mem_of_getElem? (i := 2) rfl)) dB_3_2_14.2.1.2.2 ?_
      refine ct_R hP hD [] [] (by decide) rfl (fun hPc hDw => ?_)
      have hFc := va_free (wc := []) hD hS hA [] rfl
      refine va_calli (va_runS (As := [.long a3.toInt64, .long 0, .long 500]) (rest := []) ⟨hx, hb, hml, hown, hts⟩ (c_X12_in l D cy H.size a3.toInt64 (0 : Int64) (500 : Int64)) (va_cwS 3 hts gX12_cheapest_X12_in rfl rfl rfl hd_X12_in ⟨Nat.le_of_ble_eq_true rfl, Nat.le_of_ble_eq_true rfl⟩) ⟨bl_, fun U hU hW => ⟨rfl, by rw [hU], by rw [hU]; exact hPc, kk_mv hW hK, hDw⟩⟩ rfl rfl hl.1 rfl (lv_room (Nat.le_of_ble_eq_true rfl)) dB_3_2_14.2.2.1.1 ⟨Nat.le_of_ble_eq_true rfl, Nat.le_of_ble_eq_true rfl⟩) hS (fun q _ h => hFc q h) hFc (fun r_4 u t H locs ht hvm hw hB hz1 hk1 hS => ?_)
      have hP : va_P D vwCl _ H := ro_keep hP hk1
      rcases hw with ⟨w_5, e_⟩ | ⟨w_5, e_⟩
      · have e_ := e_.symm
        subst e_
        refine lv_if_ne (tgt := 28) hx hb dB_3_2_14.2.2.1.2 (by decide) (fun c_6 => ?_) (fun c_6 => ?_)
        · have _ := c_6
          refine lv_aload_n hx hb dB_3_2_15.1.1.1.1 rfl (lv_at hl 0 rfl) ?_
          refine lv_iload_n hx hb dB_3_2_15.1.1.1.2 rfl (lv_at hl 1 rfl) ?_
          refine lv_iload_n hx hb dB_3_2_15.1.1.2.1 rfl (lv_at hl 2 rfl) ?_
          refine ct_R hP hD [ob12_0_ mo 0 s1 t2 s3 s4 g5 g6 g7 g8 g9 g10 s11 g12 g13 g14 g15 g16 g17 g18 g19 g20 s21 g22 g23 g24 s25 s26 s27 s28 g29 g30 g31 g32 g33, ai_ cy g5 40 f5, ai_ cy g6 40 f6, ai_ cy g7 40 f7, ai_ cy g8 40 f8, az_ cy g10 40 f10] [0, 1, 2, 3, 4, 6] (by decide) rfl (fun hPc hDw => ?_)
          have hFc := va_free (wc := []) hD hS hA [] rfl
          refine va_calli (va_runV (As := [.int a1, .int a2]) (rest := []) ⟨hx, hb, hml, hown, hts⟩ (c_X12_mostOf l D cy H.size mo g5 g6 g7 g8 g9 g10 g12 g13 g14 g15 g16 g17 g18 g19 g20 g22 g23 g24 g29 g30 g31 g32 g33 (0 : Int32) s1 s3 s4 s11 s21 s25 s26 s27 s28 t2 f5 f6 f7 f8 f10 a1 a2 (by first | with_reducible assumption | omega | assumption) (by first | with_reducible assumption | omega | assumption)) (cwV 2 hts gX12_cheapest_X12_mostOf rfl rfl rfl ⟨rfl, hd_X12_mostOf⟩ ⟨Nat.le_of_ble_eq_true rfl, Nat.le_of_ble_eq_true rfl⟩) ⟨bl_, va_recvX hK.1 hP (ci := 12) (q0 := 0) rfl rfl, fun U hU hW => ⟨rfl, by rw [hU], by rw [hU]; exact hPc, kk_mv hW hK, hDw⟩⟩ rfl rfl hl.1 rfl (lv_room (Nat.le_of_ble_eq_true rfl)) dB_3_2_15.1.1.2.2 ⟨Nat.le_of_ble_eq_true rfl, Nat.le_of_ble_eq_true rfl⟩) hS (fun q _ h => hFc q h) hFc (fun r_7 u t H locs ht hvm hw hB hz1 hk1 hS => ?_)
          have hP : va_P D vwCl _ H := ro_keep hP hk1
          refine lv_iload_n hx hb dB_3_2_15.1.2.1.1 rfl (lv_at hl 3 rfl) ?_
          refine lv_icmp_lt (tgt := 40) hx hb dB_3_2_15.1.2.1.2 (by decide) (fun c_8 => ?_) (fun c_8 => ?_)
          · have t_8 : r_7.toInt < a3.toInt := Int32.lt_iff_toInt_lt.mp c_8
            refine lv_iconst (v := 0) hx hb dB_3_2_15.2.1.1.1 (by decide) ?_
            refine lv_istore (lv' := [(4, .int 0), (0, .ref mo), (1, .int a1), (2, .int a2), (3, .int a3)]) hx hb dB_3_2_15.2.1.1.2 hl (by decide) rfl (fun ls hl => ?_)
            suffices LOOP_9 : ∀ (n_9 : Nat) (x4_9 : Int32) (c_g22_9 : Nat → Int32) (H : Heap) (locs : List Loc) (ls : Array Slot), 40 - x4_9.toInt < (n_9 : Int) → (0 ≤ x4_9.toInt) → (x4_9.toInt ≤ 40) → (∀ j : Nat, (j : Int) < x4_9.toInt → (c_g22_9 j).toInt = 0) → pd_2 D vwCl A [ob12_0_ mo 0 s1 t2 s3 s4 g5 g6 g7 g8 g9 g10 s11 g12 g13 g14 g15 g16 g17 g18 g19 g20 s21 g22 g23 g24 s25 s26 s27 s28 g29 g30 g31 g32 g33, ai_ cy g5 40 f5, ai_ cy g6 40 f6, ai_ cy g7 40 f7, ai_ cy g8 40 f8, ai_ cy g9 40 f9, az_ cy g10 40 f10, ai_ cy g22 40 c_g22_9, aj_ cy g29 12 f29, ai_ cy g30 12 f30, ai_ cy g31 12 f31] H → va_S A s.heap H locs → lv_has ls 10 [(4, .int x4_9), (0, .ref mo), (1, .int a1), (2, .int a2), (3, .int a3)] → W p l e ({ frames := 4, cells := 0, slots := 0, locals := 101 } : Room) s m (([.ref mo, .int a1, .int a2, .int a3] : List Value).toArray) below meth c H locs 0 0 Q (F0 m 43 ls []) from LOOP_9 ((40 - (0 : Int32).toInt).toNat + 1) (0 : Int32) f22 _ _ _ (by omega) (by first | with_reducible assumption | omega | assumption) (by first | with_reducible assumption | omega | assumption) (by first | exact zero_st (by assumption) (by assumption) (by omega) (by omega) | (intro j hj; omega)) ⟨hP, hD⟩ hS (lv_sub hl [0, 1, 2, 3, 4] rfl)
            intro n_9
            induction n_9 with
            | zero =>
              intro x4_9 c_g22_9 H locs ls hm v0_9 v1_9 v2_9 hPD hS hl; obtain ⟨hP, hD⟩ := hPD
              exact absurd hm (by omega)
            | succ n_9 ih_9 =>
              intro x4_9 c_g22_9 H locs ls hm v0_9 v1_9 v2_9 hPD hS hl; obtain ⟨hP, hD⟩ := hPD
              refine lv_iload hx hb dB_3_2_15.2.1.2.1 (lv_at hl 0 rfl) ?_
              refine lv_bipush (v := 40) hx hb dB_3_2_15.2.1.2.2 (by decide) ?_
              refine lv_icmp_ge (tgt := 64) hx hb dB_3_2_15.2.2.1.1 (by decide) (fun c_10 => ?_) (fun c_10 => ?_)
              · have t_10 : (40 : Int32).toInt ≤ x4_9.toInt := Int32.le_iff_toInt_le.mp c_10
                have hz0_ : ∀ j : Nat, j < 40 → (c_g22_9 j).toInt = 0 := fun j hj => v2_9 j (by omega)
                have hp0_ := pot_zero (f5 := f5) (f6 := f6) (f7 := f7) (f10 := f10) (N := s4.toNatClampNeg) r_f8 r_f9 (by omega) hz0_
                have c1 := clI (i := a1) (by omega)
                have c2 := clI (i := a2) (by omega)
                refine lv_iload_n hx hb dB_3_2_16.1.2.1.1 rfl (lv_at hl 4 rfl) ?_
                refine lv_istore (lv' := [(4, .int a3), (0, .ref mo), (1, .int a1), (2, .int a2), (3, .int a3)]) hx hb dB_3_2_16.1.2.1.2 hl (by decide) rfl (fun ls hl => ?_)
                refine lv_lconst (v := 0) hx hb dB_3_2_16.1.2.2.1 (by decide) ?_
                refine lv_lstore (lv' := [(5, .long 0), (4, .int a3), (0, .ref mo), (1, .int a1), (2, .int a2), (3, .int a3)]) hx hb dB_3_2_16.1.2.2.2 hl (by decide) rfl (fun ls hl => ?_)
                suffices LOOP_11 : ∀ (n_11 : Nat) (x5_11 : Int64) (x4_11 : Int32) (c_g22_11 : Nat → Int32) (c_g29_11 : Nat → Int64) (c_g30_11 : Nat → Int32) (c_g31_11 : Nat → Int32) (H : Heap) (locs : List Loc) (ls : Array Slot), x4_11.toInt < (n_11 : Int) → (0 ≤ x4_11.toInt) → (x4_11.toInt ≤ a3.toInt) → (∃ pi : Nat → Int, pot f5 f6 f7 f8 f9 f10 c_g22_11 s4.toNatClampNeg pi) → (okF f5 f8 f9 c_g22_11) → (∀ j : Nat, j < 40 → -(a3.toInt - x4_11.toInt) ≤ (c_g22_11 j).toInt ∧ (c_g22_11 j).toInt ≤ a3.toInt - x4_11.toInt) → (rng c_g30_11 12 (0) (39)) → (rng c_g31_11 12 (0) (11)) → pd_2 D vwCl A [ob12_0_ mo 0 s1 t2 s3 s4 g5 g6 g7 g8 g9 g10 s11 g12 g13 g14 g15 g16 g17 g18 g19 g20 s21 g22 g23 g24 s25 s26 s27 s28 g29 g30 g31 g32 g33, ai_ cy g5 40 f5, ai_ cy g6 40 f6, ai_ cy g7 40 f7, ai_ cy g8 40 f8, ai_ cy g9 40 f9, az_ cy g10 40 f10, ai_ cy g22 40 c_g22_11, aj_ cy g29 12 c_g29_11, ai_ cy g30 12 c_g30_11, ai_ cy g31 12 c_g31_11] H → va_S A s.heap H locs → lv_has ls 10 [(5, .long x5_11), (4, .int x4_11), (0, .ref mo), (1, .int a1), (2, .int a2), (3, .int a3)] → W p l e ({ frames := 4, cells := 0, slots := 0, locals := 101 } : Room) s m (([.ref mo, .int a1, .int a2, .int a3] : List Value).toArray) below meth c H locs 0 0 Q (F0 m 70 ls []) from LOOP_11 ((a3.toInt).toNat + 1) (0 : Int64) a3 c_g22_9 f29 f30 f31 _ _ _ (by omega) (by first | with_reducible assumption | omega | assumption) (by first | with_reducible assumption | omega | assumption) (by first | exact hnp_ | exact ⟨_, hp0_.1⟩) (by first | with_reducible assumption | assumption | exact hp0_.2) (by first | (intro j hj; have h9 := hnb_ j hj; omega) | (intro j hj; have h9 := hz0_ j hj; omega)) (by first | with_reducible assumption | assumption | exact rng_zero (by omega) (by omega) | exact orng_zero) (by first | with_reducible assumption | assumption | exact rng_zero (by omega) (by omega) | exact orng_zero) ⟨hP, hD⟩ hS (lv_sub hl [0, 1, 2, 3, 4, 5] rfl)
                intro n_11
                induction n_11 with
                | zero =>
                  intro x5_11 x4_11 c_g22_11 c_g29_11 c_g30_11 c_g31_11 H locs ls hm v0_11 v1_11 v2_11 v3_11 v4_11 rc_g30_11 rc_g31_11 hPD hS hl; obtain ⟨hP, hD⟩ := hPD
                  exact absurd hm (by omega)
                | succ n_11 ih_11 =>
                  intro x5_11 x4_11 c_g22_11 c_g29_11 c_g30_11 c_g31_11 H locs ls hm v0_11 v1_11 v2_11 v3_11 v4_11 rc_g30_11 rc_g31_11 hPD hS hl; obtain ⟨hP, hD⟩ := hPD
                  refine lv_iload hx hb dB_3_2_16.2.1.1.1 (lv_at hl 1 rfl) ?_
                  refine lv_if_le (tgt := 259) hx hb dB_3_2_16.2.1.1.2 (by decide) (fun c_12 => ?_) (fun c_12 => ?_)
                  · have t_12 : x4_11.toInt ≤ (0 : Int32).toInt := Int32.le_iff_toInt_le.mp c_12
                    refine lv_lload hx hb dB_3_2_22.2.2.2.2 (lv_at hl 0 rfl) ?_
                    refine lv_l2i (v := x5_11.toInt32) hx hb dB_3_2_23.1 rfl ?_
                    rw [hQ]
                    exact W.iret (v := (x5_11.toInt32)) hx hb hr (fun t ht hW => ⟨⟨(x5_11.toInt32), (), rfl, trivial, c_g22_11, c_g29_11, c_g30_11, c_g31_11, (by first | with_reducible assumption | assumption | exact rng_zero (by omega) (by omega) | omega), (by first | with_reducible assumption | assumption | exact rng_zero (by omega) (by omega) | omega), by rw [ht]; exact hP, hD⟩, hS.F ht⟩) hS.2.2 dB_3_2_23.2
                  · have t_12 : ¬ x4_11.toInt ≤ (0 : Int32).toInt := fun h => c_12 (Int32.le_iff_toInt_le.mpr h)
                    obtain ⟨pi_, hpi_⟩ := v2_11
                    have hfa_ : ∀ j : Nat, j < 40 → -1000 ≤ (c_g22_11 j).toInt ∧ (c_g22_11 j).toInt ≤ 1000 := fun j hj => by have h9 := v4_11 j hj; omega
                    refine lv_aload_n hx hb dB_3_2_16.2.1.2.1 rfl (lv_at hl 2 rfl) ?_
                    refine lv_iload_n hx hb dB_3_2_16.2.1.2.2 rfl (lv_at hl 3 rfl) ?_
                    refine lv_iload_n hx hb dB_3_2_16.2.2.1.1 rfl (lv_at hl 4 rfl) ?_
                    refine ct_S hP hD hS hA [ob12_0_ mo 0 s1 t2 s3 s4 g5 g6 g7 g8 g9 g10 s11 g12 g13 g14 g15 g16 g17 g18 g19 g20 s21 g22 g23 g24 s25 s26 s27 s28 g29 g30 g31 g32 g33, ai_ cy g5 40 f5, ai_ cy g6 40 f6, ai_ cy g7 40 f7, ai_ cy g8 40 f8, ai_ cy g9 40 f9, az_ cy g10 40 f10, ai_ cy g22 40 c_g22_11, aj_ cy g29 12 c_g29_11, ai_ cy g30 12 c_g30_11, ai_ cy g31 12 c_g31_11] [0, 1, 2, 3, 4, 5, 6, 7, 8, 9, 10] (by decide +kernel) rfl (fun hPc hDw hFc hC_ => ?_)
                    refine va_calli (va_runV (As := [.int a1, .int a2]) (rest := []) ⟨hx, hb, hml, hown, hts⟩ (c_X12_cheapWay l D cy H.size mo g5 g6 g7 g8 g9 g10 g12 g13 g14 g15 g16 g17 g18 g19 g20 g22 g23 g24 g29 g30 g31 g32 g33 (0 : Int32) s1 s3 s4 s11 s21 s25 s26 s27 s28 t2 f5 f6 f7 f8 f9 f10 c_g22_11 c_g29_11 c_g30_11 c_g31_11 pi_ a1 a2 (by first | with_reducible assumption | omega | assumption) (by first | with_reducible assumption | omega | assumption) (by first | with_reducible assumption | omega | assumption) (by first | with_reducible assumption | assumption | omega) (by first | with_reducible assumption | assumption | omega) (by first | with_reducible assumption | assumption | omega) (by first | with_reducible assumption | omega | assumption) (by first | with_reducible assumption | omega | assumption) (by first | with_reducible assumption | assumption | omega) (by first | with_reducible assumption | assumption | omega) (by first | with_reducible assumption | assumption | omega) (by first | with_reducible assumption | assumption | omega) (by first | with_reducible assumption | assumption | omega) (by first | with_reducible assumption | assumption | omega)) (cwV 2 hts gX12_cheapest_X12_cheapWay rfl rfl rfl ⟨rfl, hd_X12_cheapWay⟩ ⟨Nat.le_of_ble_eq_true rfl, Nat.le_of_ble_eq_true rfl⟩) ⟨bl_, va_recvX hK.1 hP (ci := 12) (q0 := 0) rfl rfl, fun U hU hW => ⟨rfl, by rw [hU], by rw [hU]; exact hPc, kk_mv hW hK, hDw⟩⟩ rfl rfl hl.1 rfl (lv_room (Nat.le_of_ble_eq_true rfl)) dB_3_2_16.2.2.1.2 ⟨Nat.le_of_ble_eq_true rfl, Nat.le_of_ble_eq_true rfl⟩) hS (fun q _ h => hFc q h) hFc (fun r_14 u t H locs ht hvm hw hB hz1 hk1 hS => ?_)
                    obtain ⟨eu_, hw⟩ := hw
                    subst eu_
                    obtain ⟨e29_15, e30_16, e31_17, g_18, g_19, g_20, hP1, hD1⟩ := hB
                    rw [ht] at hP1
                    obtain ⟨hP, hD⟩ := va_join (wr := []) (w1 := [ob12_0_ mo 0 s1 t2 s3 s4 g5 g6 g7 g8 g9 g10 s11 g12 g13 g14 g15 g16 g17 g18 g19 g20 s21 g22 g23 g24 s25 s26 s27 s28 g29 g30 g31 g32 g33, ai_ cy g5 40 f5, ai_ cy g6 40 f6, ai_ cy g7 40 f7, ai_ cy g8 40 f8, ai_ cy g9 40 f9, az_ cy g10 40 f10, ai_ cy g22 40 c_g22_11, aj_ cy g29 12 e29_15, ai_ cy g30 12 e30_16, ai_ cy g31 12 e31_17]) hP hD [0, 1, 2, 3, 4, 5, 6, 7, 8, 9, 10] [] hC_ rfl (by decide) (by decide) hk1 hFc hP1 hD1
                    refine pd_K [ob12_0_ mo 0 s1 t2 s3 s4 g5 g6 g7 g8 g9 g10 s11 g12 g13 g14 g15 g16 g17 g18 g19 g20 s21 g22 g23 g24 s25 s26 s27 s28 g29 g30 g31 g32 g33, ai_ cy g5 40 f5, ai_ cy g6 40 f6, ai_ cy g7 40 f7, ai_ cy g8 40 f8, ai_ cy g9 40 f9, az_ cy g10 40 f10, ai_ cy g22 40 c_g22_11, aj_ cy g29 12 e29_15, ai_ cy g30 12 e30_16, ai_ cy g31 12 e31_17] hP hD (fun hP hD => ?_)
                    rcases hw with ⟨w_21, e_⟩ | ⟨w_21, e_⟩
                    · have e_ := e_.symm
                      subst e_
                      refine lv_if_ne (tgt := 87) hx hb dB_3_2_16.2.2.2.1 (by decide) (fun c_22 => ?_) (fun c_22 => ?_)
                      · exact absurd c_22 (by decide)
                      · have _ := c_22
                        refine lv_bipush (v := (-9)) hx hb dB_3_2_16.2.2.2.2 (by decide) ?_
                        rw [hQ]
                        exact W.iret (v := (-9)) hx hb hr (fun t ht hW => ⟨⟨(-9), (), rfl, trivial, c_g22_11, e29_15, e30_16, e31_17, (by first | with_reducible assumption | assumption | exact rng_zero (by omega) (by omega) | omega), (by first | with_reducible assumption | assumption | exact rng_zero (by omega) (by omega) | omega), by rw [ht]; exact hP, hD⟩, hS.F ht⟩) hS.2.2 dB_3_2_17.1.1.1.1
                    · have e_ := e_.symm
                      subst e_
                      refine lv_if_ne (tgt := 87) hx hb dB_3_2_16.2.2.2.1 (by decide) (fun c_23 => ?_) (fun c_23 => ?_)
                      · have _ := c_23
                        obtain ⟨hz_, hft_⟩ := g_18 rfl
                        obtain ⟨R_, hR_⟩ := hz_.2.2.1 a2.toNatClampNeg (by omega) hft_
                        have hgv_ := g_v (f5 := f5) (f8 := f8) (f9 := f9) (F := c_g22_11) hnet r_f6 r_f7 hN (by omega)
                        obtain ⟨p2_, hp2_, hpe_⟩ := cz_pi hz_ hpi_ hgv_ g_c1 (by omega)
                        refine lv_iload hx hb dB_3_2_17.1.1.1.2 (lv_at hl 1 rfl) ?_
                        refine lv_istore (lv' := [(7, .int x4_11), (5, .long x5_11), (4, .int x4_11), (0, .ref mo), (1, .int a1), (2, .int a2), (3, .int a3)]) hx hb dB_3_2_17.1.1.2.1 hl (by decide) rfl (fun ls hl => ?_)
                        refine lv_iload_n hx hb dB_3_2_17.1.1.2.2 rfl (lv_at hl 5 rfl) ?_
                        refine lv_istore (lv' := [(8, .int a2), (7, .int x4_11), (5, .long x5_11), (4, .int x4_11), (0, .ref mo), (1, .int a1), (2, .int a2), (3, .int a3)]) hx hb dB_3_2_17.1.2.1.1 hl (by decide) rfl (fun ls hl => ?_)
                        suffices LOOP_24 : ∀ (n_24 : Nat) (x8_24 : Int32) (x7_24 : Int32) (i_24 : Nat) (H : Heap) (locs : List Loc) (ls : Array Slot), (R_ : Int) - i_24 < (n_24 : Int) → (i_24 ≤ R_) → (x8_24.toNatClampNeg = (itr (pf_ e31_17) i_24 a2.toNatClampNeg)) → (0 ≤ x8_24.toInt ∧ x8_24.toInt ≤ 11) → (1 ≤ x7_24.toInt ∧ x7_24.toInt ≤ x4_11.toInt) → (∀ k : Nat, k < i_24 → x7_24.toInt ≤ amtI f5 f6 f8 c_g22_11 e30_16 e31_17 (itr (pf_ e31_17) k a2.toNatClampNeg)) → pd_2 D vwCl A [ob12_0_ mo 0 s1 t2 s3 s4 g5 g6 g7 g8 g9 g10 s11 g12 g13 g14 g15 g16 g17 g18 g19 g20 s21 g22 g23 g24 s25 s26 s27 s28 g29 g30 g31 g32 g33, ai_ cy g5 40 f5, ai_ cy g6 40 f6, ai_ cy g7 40 f7, ai_ cy g8 40 f8, ai_ cy g9 40 f9, az_ cy g10 40 f10, ai_ cy g22 40 c_g22_11, aj_ cy g29 12 e29_15, ai_ cy g30 12 e30_16, ai_ cy g31 12 e31_17] H → va_S A s.heap H locs → lv_has ls 10 [(8, .int x8_24), (7, .int x7_24), (5, .long x5_11), (4, .int x4_11), (0, .ref mo), (1, .int a1), (2, .int a2), (3, .int a3)] → W p l e ({ frames := 4, cells := 0, slots := 0, locals := 101 } : Room) s m (([.ref mo, .int a1, .int a2, .int a3] : List Value).toArray) below meth c H locs 0 0 Q (F0 m 94 ls []) from LOOP_24 (((R_ : Int) - (0)).toNat + 1) a2 x4_11 0 _ _ _ (by omega) (by first | with_reducible assumption | assumption | omega) (by first | with_reducible assumption | assumption | rfl) (by first | with_reducible assumption | omega | assumption) (by first | with_reducible assumption | omega | assumption) (by first | exact hk_ | (intro k hk; omega)) ⟨hP, hD⟩ hS (lv_sub hl [0, 1, 2, 3, 4, 5, 6, 7] rfl)
                        intro n_24
                        induction n_24 with
                        | zero =>
                          intro x8_24 x7_24 i_24 H locs ls hm v0_24 v1_24 v2_24 v3_24 v4_24 hPD hS hl; obtain ⟨hP, hD⟩ := hPD
                          exact absurd hm (by omega)
                        | succ n_24 ih_24 =>
                          intro x8_24 x7_24 i_24 H locs ls hm v0_24 v1_24 v2_24 v3_24 v4_24 hPD hS hl; obtain ⟨hP, hD⟩ := hPD
                          refine lv_iload hx hb dB_3_2_17.1.2.1.2 (lv_at hl 0 rfl) ?_
                          refine lv_iload_n hx hb dB_3_2_17.1.2.2.1 rfl (lv_at hl 5 rfl) ?_
                          refine lv_icmp_eq (tgt := 168) hx hb dB_3_2_17.1.2.2.2 (by decide) (fun c_25 => ?_) (fun c_25 => ?_)
                          · have t_25 : x8_24.toInt = a1.toInt := congrArg Int32.toInt c_25
                            have hall_ : ∀ k : Nat, k < R_ → x7_24.toInt ≤ amtI f5 f6 f8 c_g22_11 e30_16 e31_17 (itr (pf_ e31_17) k a2.toNatClampNeg) := fun k hk => v4_24 k (by have h9 := ch_eq hR_ v0_24 (by have h9 := v1_24; have c8_ := clI (i := x8_24) (by omega); omega); omega)
                            refine lv_iload_n hx hb dB_3_2_19.2.1.2.2 rfl (lv_at hl 6 rfl) ?_
                            refine lv_istore (lv' := [(8, .int a2), (7, .int x7_24), (5, .long x5_11), (4, .int x4_11), (0, .ref mo), (1, .int a1), (2, .int a2), (3, .int a3)]) hx hb dB_3_2_19.2.2.1.1 hl (by decide) rfl (fun ls hl => ?_)
                            suffices LOOP_26 : ∀ (n_26 : Nat) (x8_26 : Int32) (j_26 : Nat) (c_g22_26 : Nat → Int32) (H : Heap) (locs : List Loc) (ls : Array Slot), (R_ : Int) - j_26 < (n_26 : Int) → (j_26 ≤ R_) → (x8_26.toNatClampNeg = (itr (pf_ e31_17) j_26 a2.toNatClampNeg)) → (0 ≤ x8_26.toInt ∧ x8_26.toInt ≤ 11) → (pot f5 f6 f7 f8 f9 f10 c_g22_26 s4.toNatClampNeg p2_) → (okF f5 f8 f9 c_g22_26) → (∀ j : Nat, j < 40 → -((a3.toInt - x4_11.toInt) + x7_24.toInt) ≤ (c_g22_26 j).toInt ∧ (c_g22_26 j).toInt ≤ (a3.toInt - x4_11.toInt) + x7_24.toInt) → (∀ k : Nat, j_26 ≤ k → k < R_ → c_g22_26 (e30_16 (itr (pf_ e31_17) k a2.toNatClampNeg)).toNatClampNeg = c_g22_11 (e30_16 (itr (pf_ e31_17) k a2.toNatClampNeg)).toNatClampNeg) → pd_2 D vwCl A [ob12_0_ mo 0 s1 t2 s3 s4 g5 g6 g7 g8 g9 g10 s11 g12 g13 g14 g15 g16 g17 g18 g19 g20 s21 g22 g23 g24 s25 s26 s27 s28 g29 g30 g31 g32 g33, ai_ cy g5 40 f5, ai_ cy g6 40 f6, ai_ cy g7 40 f7, ai_ cy g8 40 f8, ai_ cy g9 40 f9, az_ cy g10 40 f10, ai_ cy g22 40 c_g22_26, aj_ cy g29 12 e29_15, ai_ cy g30 12 e30_16, ai_ cy g31 12 e31_17] H → va_S A s.heap H locs → lv_has ls 10 [(8, .int x8_26), (7, .int x7_24), (5, .long x5_11), (4, .int x4_11), (0, .ref mo), (1, .int a1), (2, .int a2), (3, .int a3)] → W p l e ({ frames := 4, cells := 0, slots := 0, locals := 101 } : Room) s m (([.ref mo, .int a1, .int a2, .int a3] : List Value).toArray) below meth c H locs 0 0 Q (F0 m 171 ls []) from LOOP_26 (((R_ : Int) - (0)).toNat + 1) a2 0 c_g22_11 _ _ _ (by omega) (by first | with_reducible assumption | assumption | omega) (by first | with_reducible assumption | assumption | rfl) (by first | with_reducible assumption | omega | assumption) (by first | exact hq_.1 | exact hp2_) (by first | exact hq_.2.1 | assumption) (by first | exact hq_.2.2.1 | (intro j hj; have h9 := v4_11 j hj; omega)) (by first | exact hq_.2.2.2 | (intro k _ _; rfl)) ⟨hP, hD⟩ hS (lv_sub hl [0, 1, 2, 3, 4, 5, 6, 7] rfl)
                            intro n_26
                            induction n_26 with
                            | zero =>
                              intro x8_26 j_26 c_g22_26 H locs ls hm v0_26 v1_26 v2_26 v3_26 v4_26 v5_26 v6_26 hPD hS hl; obtain ⟨hP, hD⟩ := hPD
                              exact absurd hm (by omega)
                            | succ n_26 ih_26 =>
                              intro x8_26 j_26 c_g22_26 H locs ls hm v0_26 v1_26 v2_26 v3_26 v4_26 v5_26 v6_26 hPD hS hl; obtain ⟨hP, hD⟩ := hPD
                              refine lv_iload hx hb dB_3_2_19.2.2.1.2 (lv_at hl 0 rfl) ?_
                              refine lv_iload_n hx hb dB_3_2_19.2.2.2.1 rfl (lv_at hl 5 rfl) ?_
                              refine lv_icmp_eq (tgt := 234) hx hb dB_3_2_19.2.2.2.2 (by decide) (fun c_27 => ?_) (fun c_27 => ?_)
                              · have t_27 : x8_26.toInt = a1.toInt := congrArg Int32.toInt c_27
                                have hnp_ : ∃ pi : Nat → Int, pot f5 f6 f7 f8 f9 f10 c_g22_26 s4.toNatClampNeg pi := ⟨p2_, v3_26⟩
                                have hnb_ := v5_26
                                refine lv_lload hx hb dB_3_2_22.1.1.1.1 (lv_at hl 2 rfl) ?_
                                refine lv_aload_n hx hb dB_3_2_22.1.1.1.2 rfl (lv_at hl 4 rfl) ?_
                                refine va_get (ci := 12) (v := .ref g29) (C := RX12) (T := TX12) (N := 34) hx hb hts (fun _ h => List.mem_cons_of_mem _ (List.mem_append_right _ h)) hown hK.1 hP 0 rfl rfl 29 (by decide) (hts (.fieldLink RX12 70 "CutAtlasModel" "paid" "[J") (List.mem_of_getElem? (i := 7) rfl)) (fun _ h9 => h9) rfl dB_3_2_22.1.1.2.1 ?_
                                refine lv_iload_n hx hb dB_3_2_22.1.1.2.2 rfl (lv_at hl 6 rfl) ?_
                                have h_28 : vp_in a2 12 := in_I (by first | with_reducible assumption | omega) (by omega)
                                refine va_lald hx hb hK.1 hP 8 1 rfl rfl (i := a2) h_28 dB_3_2_22.1.2.1.1 ?_
                                refine lv_topl (fun y_29 ey_29 => ?_)
                                refine lv_iload hx hb dB_3_2_22.1.2.1.2 (lv_at hl 1 rfl) ?_
                                refine lv_i2l (v := x7_24.toInt64) hx hb dB_3_2_22.1.2.2.1 rfl ?_
                                have q_244 : (x7_24.toInt64).toInt = x7_24.toInt := Int32.toInt_toInt64 x7_24
                                refine lv_lmul hx hb dB_3_2_22.1.2.2.2 ?_
                                refine lv_topl (fun y_30 ey_30 => ?_)
                                refine lv_ladd hx hb dB_3_2_22.2.1.1.1 ?_
                                refine lv_topl (fun y_31 ey_31 => ?_)
                                refine lv_lstore (lv' := [(5, .long y_31), (8, .int x8_26), (7, .int x7_24), (4, .int x4_11), (0, .ref mo), (1, .int a1), (2, .int a2), (3, .int a3)]) hx hb dB_3_2_22.2.1.1.2 hl (by decide) rfl (fun ls hl => ?_)
                                refine lv_iload hx hb dB_3_2_22.2.1.2.1 (lv_at hl 3 rfl) ?_
                                refine lv_iload hx hb dB_3_2_22.2.1.2.2 (lv_at hl 2 rfl) ?_
                                refine lv_isub hx hb dB_3_2_22.2.2.1.1 ?_
                                refine lv_topi (fun y_32 ey_32 => ?_)
                                have ty_32 : y_32.toInt = x4_11.toInt - x7_24.toInt := by rw [ey_32]; exact subI (by omega) (by omega)
                                refine lv_istore (lv' := [(4, .int y_32), (5, .long y_31), (8, .int x8_26), (7, .int x7_24), (0, .ref mo), (1, .int a1), (2, .int a2), (3, .int a3)]) hx hb dB_3_2_22.2.2.1.2 hl (by decide) rfl (fun ls hl => ?_)
                                refine lv_goto (tgt := 70) hx hb dB_3_2_22.2.2.2.1 (by decide) ?_
                                exact ih_11 y_31 y_32 c_g22_26 e29_15 e30_16 e31_17 _ _ _ (by omega) (by first | with_reducible assumption | omega | assumption) (by first | with_reducible assumption | omega | assumption) (by first | exact hnp_ | exact ⟨_, hp0_.1⟩) (by first | with_reducible assumption | assumption | exact hp0_.2) (by first | (intro j hj; have h9 := hnb_ j hj; omega) | (intro j hj; have h9 := hz0_ j hj; omega)) (by first | with_reducible assumption | assumption | exact rng_zero (by omega) (by omega) | exact orng_zero) (by first | with_reducible assumption | assumption | exact rng_zero (by omega) (by omega) | exact orng_zero) ⟨hP, hD⟩ hS (lv_sub hl [1, 0, 4, 5, 6, 7] rfl)
                              · have t_27 : ¬ x8_26.toInt = a1.toInt := fun h => c_27 (Int32.toInt_inj.mp h)
                                have hlt2_ : j_26 < R_ := ch_lt hR_ v0_26 (fun e => by have h9 := v1_26; have c8_ := clI (i := x8_26) (by omega); omega)
                                refine lv_aload_n hx hb dB_3_2_20.1.1.1.1 rfl (lv_at hl 4 rfl) ?_
                                refine va_get (ci := 12) (v := .ref g22) (C := RX12) (T := TX12) (N := 34) hx hb hts (fun _ h => List.mem_cons_of_mem _ (List.mem_append_right _ h)) hown hK.1 hP 0 rfl rfl 22 (by decide) (hts (.fieldLink RX12 61 "CutAtlasModel" "flows" "[I") (List.mem_of_getElem? (i := 3) rfl)) (fun _ h9 => h9) rfl dB_3_2_20.1.1.1.2 ?_
                                refine lv_aload_n hx hb dB_3_2_20.1.1.2.1 rfl (lv_at hl 4 rfl) ?_
                                refine va_get (ci := 12) (v := .ref g30) (C := RX12) (T := TX12) (N := 34) hx hb hts (fun _ h => List.mem_cons_of_mem _ (List.mem_append_right _ h)) hown hK.1 hP 0 rfl rfl 30 (by decide) (hts (.fieldLink RX12 73 "CutAtlasModel" "byLine" "[I") (List.mem_of_getElem? (i := 4) rfl)) (fun _ h9 => h9) rfl dB_3_2_20.1.1.2.2 ?_
                                refine lv_iload hx hb dB_3_2_20.1.2.1.1 (lv_at hl 0 rfl) ?_
                                have h_33 : vp_in x8_26 12 := in_I (by first | with_reducible assumption | omega) (by omega)
                                refine va_iald hx hb hK.1 hP 9 0 rfl rfl (i := x8_26) h_33 dB_3_2_20.1.2.1.2 ?_
                                refine lv_topi (fun y_34 ey_34 => ?_)
                                have ky_34 : y_34.toInt = (e30_16 x8_26.toNatClampNeg).toInt := by rw [ey_34]
                                have ry_34 : 0 ≤ y_34.toInt ∧ y_34.toInt ≤ 39 := by rw [ey_34]; exact g_19 _ (in_lt h_33)
                                refine lv_dup2_11 hx hb dB_3_2_20.1.2.2.1 rfl rfl ?_
                                have h_35 : vp_in y_34 40 := in_I (by first | with_reducible assumption | omega) (by omega)
                                refine va_iald hx hb hK.1 hP 7 0 rfl rfl (i := y_34) h_35 dB_3_2_20.1.2.2.2 ?_
                                refine lv_topi (fun y_36 ey_36 => ?_)
                                have ky_36 : y_36.toInt = (c_g22_26 y_34.toNatClampNeg).toInt := by rw [ey_36]
                                have hfv_ := v5_26 y_34.toNatClampNeg (by have c_ := clI (i := y_34) (by omega); omega)
                                refine lv_aload_n hx hb dB_3_2_20.2.1.1.1 rfl (lv_at hl 4 rfl) ?_
                                refine va_get (ci := 12) (v := .ref g6) (C := RX12) (T := TX12) (N := 34) hx hb hts (fun _ h => List.mem_cons_of_mem _ (List.mem_append_right _ h)) hown hK.1 hP 0 rfl rfl 6 (by decide) (hts (.fieldLink RX12 13 "CutAtlasModel" "from" "[I") (List.mem_of_getElem? (i := 5) rfl)) (fun _ h9 => h9) rfl dB_3_2_20.2.1.1.2 ?_
                                refine lv_aload_n hx hb dB_3_2_20.2.1.2.1 rfl (lv_at hl 4 rfl) ?_
                                refine va_get (ci := 12) (v := .ref g30) (C := RX12) (T := TX12) (N := 34) hx hb hts (fun _ h => List.mem_cons_of_mem _ (List.mem_append_right _ h)) hown hK.1 hP 0 rfl rfl 30 (by decide) (hts (.fieldLink RX12 73 "CutAtlasModel" "byLine" "[I") (List.mem_of_getElem? (i := 4) rfl)) (fun _ h9 => h9) rfl dB_3_2_20.2.1.2.2 ?_
                                refine lv_iload hx hb dB_3_2_20.2.2.1.1 (lv_at hl 0 rfl) ?_
                                refine va_iald hx hb hK.1 hP 9 0 rfl rfl (i := x8_26) h_33 dB_3_2_20.2.2.1.2 ?_
                                refine lv_topi (fun y_38 ey_38 => ?_)
                                have e_ := (ey_38.trans ey_34.symm).symm
                                subst e_
                                skip
                                refine va_iald hx hb hK.1 hP 2 0 rfl rfl (i := y_34) h_35 dB_3_2_20.2.2.2.1 ?_
                                refine lv_topi (fun y_40 ey_40 => ?_)
                                have ky_40 : y_40.toInt = (f6 y_34.toNatClampNeg).toInt := by rw [ey_40]
                                have ry_40 : 0 ≤ y_40.toInt ∧ y_40.toInt ≤ 11 := by rw [ey_40]; exact r_f6 _ (in_lt h_35)
                                refine lv_aload_n hx hb dB_3_2_20.2.2.2.2 rfl (lv_at hl 4 rfl) ?_
                                refine va_get (ci := 12) (v := .ref g31) (C := RX12) (T := TX12) (N := 34) hx hb hts (fun _ h => List.mem_cons_of_mem _ (List.mem_append_right _ h)) hown hK.1 hP 0 rfl rfl 31 (by decide) (hts (.fieldLink RX12 76 "CutAtlasModel" "byPlace" "[I") (List.mem_of_getElem? (i := 6) rfl)) (fun _ h9 => h9) rfl dB_3_2_21.1.1.1.1 ?_
                                refine lv_iload hx hb dB_3_2_21.1.1.1.2 (lv_at hl 0 rfl) ?_
                                refine va_iald hx hb hK.1 hP 10 0 rfl rfl (i := x8_26) h_33 dB_3_2_21.1.1.2.1 ?_
                                refine lv_topi (fun y_42 ey_42 => ?_)
                                have ky_42 : y_42.toInt = (e31_17 x8_26.toNatClampNeg).toInt := by rw [ey_42]
                                have ry_42 : 0 ≤ y_42.toInt ∧ y_42.toInt ≤ 11 := by rw [ey_42]; exact g_20 _ (in_lt h_33)
                                refine lv_icmp_ne (tgt := 217) hx hb dB_3_2_21.1.1.2.2 (by decide) (fun c_43 => ?_) (fun c_43 => ?_)
                                · have t_43 : ¬ y_40.toInt = y_42.toInt := fun h => c_43 (Int32.toInt_inj.mp h)
                                  refine lv_iload hx hb dB_3_2_21.1.2.2.1 (lv_at hl 1 rfl) ?_
                                  refine lv_ineg hx hb dB_3_2_21.1.2.2.2 ?_
                                  refine lv_topi (fun y_44 ey_44 => ?_)
                                  have ty_44 : y_44.toInt = - x7_24.toInt := by rw [ey_44]; exact negI (by omega)
                                  refine lv_iadd hx hb dB_3_2_21.2.1.1.1 ?_
                                  refine lv_topi (fun y_45 ey_45 => ?_)
                                  have ty_45 : y_45.toInt = y_36.toInt + y_44.toInt := by rw [ey_45]; exact addI (by omega) (by omega)
                                  refine va_iast hx hb hK.1 hP hD hS 7 0 rfl rfl (i := y_34) h_35 dB_3_2_21.2.1.1.2 (fun H locs hP hD hS => ?_)
                                  obtain ⟨f_47, ef_47⟩ : ∃ g : Nat → Int32, g = upd c_g22_26 y_34.toNatClampNeg y_45 := ⟨_, rfl⟩
                                  refine pd_K (D := D) (cl := vwCl) (H := H) (A := A) [ob12_0_ mo 0 s1 t2 s3 s4 g5 g6 g7 g8 g9 g10 s11 g12 g13 g14 g15 g16 g17 g18 g19 g20 s21 g22 g23 g24 s25 s26 s27 s28 g29 g30 g31 g32 g33, ai_ cy g5 40 f5, ai_ cy g6 40 f6, ai_ cy g7 40 f7, ai_ cy g8 40 f8, ai_ cy g9 40 f9, az_ cy g10 40 f10, ai_ cy g22 40 f_47, aj_ cy g29 12 e29_15, ai_ cy g30 12 e30_16, ai_ cy g31 12 e31_17] (by rw [ef_47]; exact hP) (by rw [ef_47]; exact hD) (fun hP hD => ?_)
                                  have hq_ := ch_push (i := j_26) (l := y_34) (y1 := x8_26) (n := x7_24.toInt) (B := (a3.toInt - x4_11.toInt)) r_f6 r_f7 r_f8 r_f9 (by assumption) (by omega) (by omega) hz_ hgv_ (by omega) hft_ hR_ hpe_ hlt2_ v1_26 ey_34 ef_47 (by rw [← ey_40, ← ey_42]; first | (rw [if_pos (by omega)]; omega) | (rw [if_neg (by omega)]; omega)) (by omega) hall_ v6_26 v3_26 v4_26 v5_26 v4_11
                                  refine lv_aload_n hx hb dB_3_2_21.2.1.2.1 rfl (lv_at hl 4 rfl) ?_
                                  refine va_get (ci := 12) (v := .ref g31) (C := RX12) (T := TX12) (N := 34) hx hb hts (fun _ h => List.mem_cons_of_mem _ (List.mem_append_right _ h)) hown hK.1 hP 0 rfl rfl 31 (by decide) (hts (.fieldLink RX12 76 "CutAtlasModel" "byPlace" "[I") (List.mem_of_getElem? (i := 6) rfl)) (fun _ h9 => h9) rfl dB_3_2_21.2.1.2.2 ?_
                                  refine lv_iload hx hb dB_3_2_21.2.2.1.1 (lv_at hl 0 rfl) ?_
                                  refine va_iald hx hb hK.1 hP 10 0 rfl rfl (i := x8_26) h_33 dB_3_2_21.2.2.1.2 ?_
                                  refine lv_topi (fun y_49 ey_49 => ?_)
                                  have e_ := (ey_49.trans ey_42.symm).symm
                                  subst e_
                                  skip
                                  have hy2_ : y_42.toNatClampNeg = (itr (pf_ e31_17) (j_26 + 1) a2.toNatClampNeg) := by rw [ey_42, v1_26]; rfl
                                  refine lv_istore (lv' := [(8, .int y_42), (7, .int x7_24), (5, .long x5_11), (4, .int x4_11), (0, .ref mo), (1, .int a1), (2, .int a2), (3, .int a3)]) hx hb dB_3_2_21.2.2.2.1 hl (by decide) rfl (fun ls hl => ?_)
                                  refine lv_goto (tgt := 171) hx hb dB_3_2_21.2.2.2.2 (by decide) ?_
                                  exact ih_26 y_42 (j_26 + 1) f_47 _ _ _ (by omega) (by first | with_reducible assumption | assumption | omega) (by first | with_reducible assumption | assumption | rfl) (by first | with_reducible assumption | omega | assumption) (by first | exact hq_.1 | exact hp2_) (by first | exact hq_.2.1 | assumption) (by first | exact hq_.2.2.1 | (intro j hj; have h9 := v4_11 j hj; omega)) (by first | exact hq_.2.2.2 | (intro k _ _; rfl)) ⟨hP, hD⟩ hS (lv_sub hl [0, 1, 2, 3, 4, 5, 6, 7] rfl)
                                · have t_43 : y_40.toInt = y_42.toInt := congrArg Int32.toInt c_43
                                  refine lv_iload hx hb dB_3_2_21.1.2.1.1 (lv_at hl 1 rfl) ?_
                                  refine lv_goto (tgt := 220) hx hb dB_3_2_21.1.2.1.2 (by decide) ?_
                                  refine lv_iadd hx hb dB_3_2_21.2.1.1.1 ?_
                                  refine lv_topi (fun y_50 ey_50 => ?_)
                                  have ty_50 : y_50.toInt = y_36.toInt + x7_24.toInt := by rw [ey_50]; exact addI (by omega) (by omega)
                                  refine va_iast hx hb hK.1 hP hD hS 7 0 rfl rfl (i := y_34) h_35 dB_3_2_21.2.1.1.2 (fun H locs hP hD hS => ?_)
                                  obtain ⟨f_52, ef_52⟩ : ∃ g : Nat → Int32, g = upd c_g22_26 y_34.toNatClampNeg y_50 := ⟨_, rfl⟩
                                  refine pd_K (D := D) (cl := vwCl) (H := H) (A := A) [ob12_0_ mo 0 s1 t2 s3 s4 g5 g6 g7 g8 g9 g10 s11 g12 g13 g14 g15 g16 g17 g18 g19 g20 s21 g22 g23 g24 s25 s26 s27 s28 g29 g30 g31 g32 g33, ai_ cy g5 40 f5, ai_ cy g6 40 f6, ai_ cy g7 40 f7, ai_ cy g8 40 f8, ai_ cy g9 40 f9, az_ cy g10 40 f10, ai_ cy g22 40 f_52, aj_ cy g29 12 e29_15, ai_ cy g30 12 e30_16, ai_ cy g31 12 e31_17] (by rw [ef_52]; exact hP) (by rw [ef_52]; exact hD) (fun hP hD => ?_)
                                  have hq_ := ch_push (i := j_26) (l := y_34) (y1 := x8_26) (n := x7_24.toInt) (B := (a3.toInt - x4_11.toInt)) r_f6 r_f7 r_f8 r_f9 (by assumption) (by omega) (by omega) hz_ hgv_ (by omega) hft_ hR_ hpe_ hlt2_ v1_26 ey_34 ef_52 (by rw [← ey_40, ← ey_42]; first | (rw [if_pos (by omega)]; omega) | (rw [if_neg (by omega)]; omega)) (by omega) hall_ v6_26 v3_26 v4_26 v5_26 v4_11
                                  refine lv_aload_n hx hb dB_3_2_21.2.1.2.1 rfl (lv_at hl 4 rfl) ?_
                                  refine va_get (ci := 12) (v := .ref g31) (C := RX12) (T := TX12) (N := 34) hx hb hts (fun _ h => List.mem_cons_of_mem _ (List.mem_append_right _ h)) hown hK.1 hP 0 rfl rfl 31 (by decide) (hts (.fieldLink RX12 76 "CutAtlasModel" "byPlace" "[I") (List.mem_of_getElem? (i := 6) rfl)) (fun _ h9 => h9) rfl dB_3_2_21.2.1.2.2 ?_
                                  refine lv_iload hx hb dB_3_2_21.2.2.1.1 (lv_at hl 0 rfl) ?_
                                  refine va_iald hx hb hK.1 hP 10 0 rfl rfl (i := x8_26) h_33 dB_3_2_21.2.2.1.2 ?_
                                  refine lv_topi (fun y_54 ey_54 => ?_)
                                  have e_ := (ey_54.trans ey_42.symm).symm
                                  subst e_
                                  skip
                                  have hy2_ : y_42.toNatClampNeg = (itr (pf_ e31_17) (j_26 + 1) a2.toNatClampNeg) := by rw [ey_42, v1_26]; rfl
                                  refine lv_istore (lv' := [(8, .int y_42), (7, .int x7_24), (5, .long x5_11), (4, .int x4_11), (0, .ref mo), (1, .int a1), (2, .int a2), (3, .int a3)]) hx hb dB_3_2_21.2.2.2.1 hl (by decide) rfl (fun ls hl => ?_)
                                  refine lv_goto (tgt := 171) hx hb dB_3_2_21.2.2.2.2 (by decide) ?_
                                  exact ih_26 y_42 (j_26 + 1) f_52 _ _ _ (by omega) (by first | with_reducible assumption | assumption | omega) (by first | with_reducible assumption | assumption | rfl) (by first | with_reducible assumption | omega | assumption) (by first | exact hq_.1 | exact hp2_) (by first | exact hq_.2.1 | assumption) (by first | exact hq_.2.2.1 | (intro j hj; have h9 := v4_11 j hj; omega)) (by first | exact hq_.2.2.2 | (intro k _ _; rfl)) ⟨hP, hD⟩ hS (lv_sub hl [0, 1, 2, 3, 4, 5, 6, 7] rfl)
                          · have t_25 : ¬ x8_24.toInt = a1.toInt := fun h => c_25 (Int32.toInt_inj.mp h)
                            have hlt_ : i_24 < R_ := ch_lt hR_ v0_24 (fun e => by have h9 := v1_24; have c8_ := clI (i := x8_24) (by omega); omega)
                            refine lv_aload_n hx hb dB_3_2_17.2.1.1.1 rfl (lv_at hl 4 rfl) ?_
                            refine lv_aload_n hx hb dB_3_2_17.2.1.1.2 rfl (lv_at hl 4 rfl) ?_
                            refine va_get (ci := 12) (v := .ref g30) (C := RX12) (T := TX12) (N := 34) hx hb hts (fun _ h => List.mem_cons_of_mem _ (List.mem_append_right _ h)) hown hK.1 hP 0 rfl rfl 30 (by decide) (hts (.fieldLink RX12 73 "CutAtlasModel" "byLine" "[I") (List.mem_of_getElem? (i := 4) rfl)) (fun _ h9 => h9) rfl dB_3_2_17.2.1.2.1 ?_
                            refine lv_iload hx hb dB_3_2_17.2.1.2.2 (lv_at hl 0 rfl) ?_
                            have h_55 : vp_in x8_24 12 := in_I (by first | with_reducible assumption | omega) (by omega)
                            refine va_iald hx hb hK.1 hP 9 0 rfl rfl (i := x8_24) h_55 dB_3_2_17.2.2.1.1 ?_
                            refine lv_topi (fun y_56 ey_56 => ?_)
                            have ky_56 : y_56.toInt = (e30_16 x8_24.toNatClampNeg).toInt := by rw [ey_56]
                            have ry_56 : 0 ≤ y_56.toInt ∧ y_56.toInt ≤ 39 := by rw [ey_56]; exact g_19 _ (in_lt h_55)
                            have hfl_ := hfa_ y_56.toNatClampNeg (by have c_ := clI (i := y_56) (by omega); omega)
                            refine lv_aload_n hx hb dB_3_2_17.2.2.1.2 rfl (lv_at hl 4 rfl) ?_
                            refine va_get (ci := 12) (v := .ref g6) (C := RX12) (T := TX12) (N := 34) hx hb hts (fun _ h => List.mem_cons_of_mem _ (List.mem_append_right _ h)) hown hK.1 hP 0 rfl rfl 6 (by decide) (hts (.fieldLink RX12 13 "CutAtlasModel" "from" "[I") (List.mem_of_getElem? (i := 5) rfl)) (fun _ h9 => h9) rfl dB_3_2_17.2.2.2.1 ?_
                            refine lv_aload_n hx hb dB_3_2_17.2.2.2.2 rfl (lv_at hl 4 rfl) ?_
                            refine va_get (ci := 12) (v := .ref g30) (C := RX12) (T := TX12) (N := 34) hx hb hts (fun _ h => List.mem_cons_of_mem _ (List.mem_append_right _ h)) hown hK.1 hP 0 rfl rfl 30 (by decide) (hts (.fieldLink RX12 73 "CutAtlasModel" "byLine" "[I") (List.mem_of_getElem? (i := 4) rfl)) (fun _ h9 => h9) rfl dB_3_2_18.1.1.1.1 ?_
                            refine lv_iload hx hb dB_3_2_18.1.1.1.2 (lv_at hl 0 rfl) ?_
                            refine va_iald hx hb hK.1 hP 9 0 rfl rfl (i := x8_24) h_55 dB_3_2_18.1.1.2.1 ?_
                            refine lv_topi (fun y_58 ey_58 => ?_)
                            have e_ := (ey_58.trans ey_56.symm).symm
                            subst e_
                            skip
                            have h_59 : vp_in y_56 40 := in_I (by first | with_reducible assumption | omega) (by omega)
                            refine va_iald hx hb hK.1 hP 2 0 rfl rfl (i := y_56) h_59 dB_3_2_18.1.1.2.2 ?_
                            refine lv_topi (fun y_60 ey_60 => ?_)
                            have ky_60 : y_60.toInt = (f6 y_56.toNatClampNeg).toInt := by rw [ey_60]
                            have ry_60 : 0 ≤ y_60.toInt ∧ y_60.toInt ≤ 11 := by rw [ey_60]; exact r_f6 _ (in_lt h_59)
                            refine lv_aload_n hx hb dB_3_2_18.1.2.1.1 rfl (lv_at hl 4 rfl) ?_
                            refine va_get (ci := 12) (v := .ref g31) (C := RX12) (T := TX12) (N := 34) hx hb hts (fun _ h => List.mem_cons_of_mem _ (List.mem_append_right _ h)) hown hK.1 hP 0 rfl rfl 31 (by decide) (hts (.fieldLink RX12 76 "CutAtlasModel" "byPlace" "[I") (List.mem_of_getElem? (i := 6) rfl)) (fun _ h9 => h9) rfl dB_3_2_18.1.2.1.2 ?_
                            refine lv_iload hx hb dB_3_2_18.1.2.2.1 (lv_at hl 0 rfl) ?_
                            refine va_iald hx hb hK.1 hP 10 0 rfl rfl (i := x8_24) h_55 dB_3_2_18.1.2.2.2 ?_
                            refine lv_topi (fun y_62 ey_62 => ?_)
                            have ky_62 : y_62.toInt = (e31_17 x8_24.toNatClampNeg).toInt := by rw [ey_62]
                            have ry_62 : 0 ≤ y_62.toInt ∧ y_62.toInt ≤ 11 := by rw [ey_62]; exact g_20 _ (in_lt h_55)
                            refine lv_icmp_ne (tgt := 134) hx hb dB_3_2_18.2.1.1.1 (by decide) (fun c_63 => ?_) (fun c_63 => ?_)
                            · have t_63 : ¬ y_60.toInt = y_62.toInt := fun h => c_63 (Int32.toInt_inj.mp h)
                              refine lv_iconst (v := 0) hx hb dB_3_2_18.2.1.2.2 (by decide) ?_
                              refine ct_R hP hD [ob12_0_ mo 0 s1 t2 s3 s4 g5 g6 g7 g8 g9 g10 s11 g12 g13 g14 g15 g16 g17 g18 g19 g20 s21 g22 g23 g24 s25 s26 s27 s28 g29 g30 g31 g32 g33, ai_ cy g5 40 f5, ai_ cy g8 40 f8, ai_ cy g22 40 c_g22_11] [0, 1, 4, 7] (by decide) rfl (fun hPc hDw => ?_)
                              have hFc := va_free (wc := []) hD hS hA [] rfl
                              refine va_calli (va_runV (As := [.int y_56, .int 0]) (rest := []) ⟨hx, hb, hml, hown, hts⟩ (c_X12_amount2 l D cy H.size mo g5 g6 g7 g8 g9 g10 g12 g13 g14 g15 g16 g17 g18 g19 g20 g22 g23 g24 g29 g30 g31 g32 g33 (0 : Int32) s1 s3 s4 s11 s21 s25 s26 s27 s28 t2 f5 f8 c_g22_11 y_56 (0 : Int32) (by first | with_reducible assumption | omega | assumption) (by first | with_reducible assumption | omega | assumption) (by first | with_reducible assumption | omega | assumption) (by first | with_reducible assumption | omega | assumption) (by first | with_reducible assumption | assumption | omega)) (cwV 2 hts gX12_cheapest_X12_amount rfl rfl rfl ⟨rfl, hd_X12_amount⟩ ⟨Nat.le_of_ble_eq_true rfl, Nat.le_of_ble_eq_true rfl⟩) ⟨bl_, va_recvX hK.1 hP (ci := 12) (q0 := 0) rfl rfl, fun U hU hW => ⟨rfl, by rw [hU], by rw [hU]; exact hPc, kk_mv hW hK, hDw⟩⟩ rfl rfl hl.1 rfl (lv_room (Nat.le_of_ble_eq_true rfl)) dB_3_2_18.2.2.1.1 ⟨Nat.le_of_ble_eq_true rfl, Nat.le_of_ble_eq_true rfl⟩) hS (fun q _ h => hFc q h) hFc (fun r_64 u t H locs ht hvm hw hB hz1 hk1 hS => ?_)
                              have hP : va_P D vwCl _ H := ro_keep hP hk1
                              obtain ⟨f0_r_64, f1_r_64⟩ := hw
                              have ha_ : r_64.toInt = amtI f5 f6 f8 c_g22_11 e30_16 e31_17 x8_24.toNatClampNeg := by have f9_ := f0_r_64; unfold amtI dirI; first | (rw [z1] at f9_; rw [← ey_56, ← ey_60, ← ey_62, if_pos (by omega)]; exact f9_) | (rw [z0] at f9_; rw [← ey_56, ← ey_60, ← ey_62, if_neg (by omega)]; exact f9_)
                              refine lv_istore (lv' := [(9, .int r_64), (8, .int x8_24), (7, .int x7_24), (5, .long x5_11), (4, .int x4_11), (0, .ref mo), (1, .int a1), (2, .int a2), (3, .int a3)]) hx hb dB_3_2_18.2.2.1.2 hl (by decide) rfl (fun ls hl => ?_)
                              refine lv_iload hx hb dB_3_2_18.2.2.2.1 (lv_at hl 0 rfl) ?_
                              refine lv_iload hx hb dB_3_2_18.2.2.2.2 (lv_at hl 2 rfl) ?_
                              refine lv_icmp_ge (tgt := 152) hx hb dB_3_2_19.1.1.1.1 (by decide) (fun c_65 => ?_) (fun c_65 => ?_)
                              · have t_65 : x7_24.toInt ≤ r_64.toInt := Int32.le_iff_toInt_le.mp c_65
                                refine lv_iload hx hb dB_3_2_19.1.1.2.2 (lv_at hl 2 rfl) ?_
                                refine lv_istore (lv' := [(7, .int x7_24), (9, .int r_64), (8, .int x8_24), (5, .long x5_11), (4, .int x4_11), (0, .ref mo), (1, .int a1), (2, .int a2), (3, .int a3)]) hx hb dB_3_2_19.1.2.1.1 hl (by decide) rfl (fun ls hl => ?_)
                                have hk_ : ∀ k : Nat, k < i_24 + 1 → x7_24.toInt ≤ amtI f5 f6 f8 c_g22_11 e30_16 e31_17 (itr (pf_ e31_17) k a2.toNatClampNeg) := fun k hk => (Nat.lt_or_ge k i_24).elim (fun q => by have h9 := v4_24 k q; omega) (fun q => by rw [show k = i_24 by omega, ← v1_24]; omega)
                                refine lv_aload_n hx hb dB_3_2_19.1.2.1.2 rfl (lv_at hl 5 rfl) ?_
                                refine va_get (ci := 12) (v := .ref g31) (C := RX12) (T := TX12) (N := 34) hx hb hts (fun _ h => List.mem_cons_of_mem _ (List.mem_append_right _ h)) hown hK.1 hP 0 rfl rfl 31 (by decide) (hts (.fieldLink RX12 76 "CutAtlasModel" "byPlace" "[I") (List.mem_of_getElem? (i := 6) rfl)) (fun _ h9 => h9) rfl dB_3_2_19.1.2.2.1 ?_
                                refine lv_iload hx hb dB_3_2_19.1.2.2.2 (lv_at hl 2 rfl) ?_
                                refine va_iald hx hb hK.1 hP 10 0 rfl rfl (i := x8_24) h_55 dB_3_2_19.2.1.1.1 ?_
                                refine lv_topi (fun y_67 ey_67 => ?_)
                                have e_ := (ey_67.trans ey_62.symm).symm
                                subst e_
                                skip
                                have hy_ : y_62.toNatClampNeg = (itr (pf_ e31_17) (i_24 + 1) a2.toNatClampNeg) := by rw [ey_62, v1_24]; rfl
                                refine lv_istore (lv' := [(8, .int y_62), (7, .int x7_24), (9, .int r_64), (5, .long x5_11), (4, .int x4_11), (0, .ref mo), (1, .int a1), (2, .int a2), (3, .int a3)]) hx hb dB_3_2_19.2.1.1.2 hl (by decide) rfl (fun ls hl => ?_)
                                refine lv_goto (tgt := 94) hx hb dB_3_2_19.2.1.2.1 (by decide) ?_
                                exact ih_24 y_62 x7_24 (i_24 + 1) _ _ _ (by omega) (by first | with_reducible assumption | assumption | omega) (by first | with_reducible assumption | assumption | rfl) (by first | with_reducible assumption | omega | assumption) (by first | with_reducible assumption | omega | assumption) (by first | exact hk_ | (intro k hk; omega)) ⟨hP, hD⟩ hS (lv_sub hl [0, 1, 3, 4, 5, 6, 7, 8] rfl)
                              · have t_65 : ¬ x7_24.toInt ≤ r_64.toInt := fun h => c_65 (Int32.le_iff_toInt_le.mpr h)
                                refine lv_iload hx hb dB_3_2_19.1.1.1.2 (lv_at hl 0 rfl) ?_
                                refine lv_goto (tgt := 154) hx hb dB_3_2_19.1.1.2.1 (by decide) ?_
                                refine lv_istore (lv' := [(7, .int r_64), (9, .int r_64), (8, .int x8_24), (5, .long x5_11), (4, .int x4_11), (0, .ref mo), (1, .int a1), (2, .int a2), (3, .int a3)]) hx hb dB_3_2_19.1.2.1.1 hl (by decide) rfl (fun ls hl => ?_)
                                have hk_ : ∀ k : Nat, k < i_24 + 1 → r_64.toInt ≤ amtI f5 f6 f8 c_g22_11 e30_16 e31_17 (itr (pf_ e31_17) k a2.toNatClampNeg) := fun k hk => (Nat.lt_or_ge k i_24).elim (fun q => by have h9 := v4_24 k q; omega) (fun q => by rw [show k = i_24 by omega, ← v1_24]; omega)
                                refine lv_aload_n hx hb dB_3_2_19.1.2.1.2 rfl (lv_at hl 5 rfl) ?_
                                refine va_get (ci := 12) (v := .ref g31) (C := RX12) (T := TX12) (N := 34) hx hb hts (fun _ h => List.mem_cons_of_mem _ (List.mem_append_right _ h)) hown hK.1 hP 0 rfl rfl 31 (by decide) (hts (.fieldLink RX12 76 "CutAtlasModel" "byPlace" "[I") (List.mem_of_getElem? (i := 6) rfl)) (fun _ h9 => h9) rfl dB_3_2_19.1.2.2.1 ?_
                                refine lv_iload hx hb dB_3_2_19.1.2.2.2 (lv_at hl 2 rfl) ?_
                                refine va_iald hx hb hK.1 hP 10 0 rfl rfl (i := x8_24) h_55 dB_3_2_19.2.1.1.1 ?_
                                refine lv_topi (fun y_69 ey_69 => ?_)
                                have e_ := (ey_69.trans ey_62.symm).symm
                                subst e_
                                skip
                                have hy_ : y_62.toNatClampNeg = (itr (pf_ e31_17) (i_24 + 1) a2.toNatClampNeg) := by rw [ey_62, v1_24]; rfl
                                refine lv_istore (lv' := [(8, .int y_62), (7, .int r_64), (9, .int r_64), (5, .long x5_11), (4, .int x4_11), (0, .ref mo), (1, .int a1), (2, .int a2), (3, .int a3)]) hx hb dB_3_2_19.2.1.1.2 hl (by decide) rfl (fun ls hl => ?_)
                                refine lv_goto (tgt := 94) hx hb dB_3_2_19.2.1.2.1 (by decide) ?_
                                exact ih_24 y_62 r_64 (i_24 + 1) _ _ _ (by omega) (by first | with_reducible assumption | assumption | omega) (by first | with_reducible assumption | assumption | rfl) (by first | with_reducible assumption | omega | assumption) (by first | with_reducible assumption | omega | assumption) (by first | exact hk_ | (intro k hk; omega)) ⟨hP, hD⟩ hS (lv_sub hl [0, 1, 3, 4, 5, 6, 7, 8] rfl)
                            · have t_63 : y_60.toInt = y_62.toInt := congrArg Int32.toInt c_63
                              refine lv_iconst (v := 1) hx hb dB_3_2_18.2.1.1.2 (by decide) ?_
                              refine lv_goto (tgt := 135) hx hb dB_3_2_18.2.1.2.1 (by decide) ?_
                              refine ct_R hP hD [ob12_0_ mo 0 s1 t2 s3 s4 g5 g6 g7 g8 g9 g10 s11 g12 g13 g14 g15 g16 g17 g18 g19 g20 s21 g22 g23 g24 s25 s26 s27 s28 g29 g30 g31 g32 g33, ai_ cy g5 40 f5, ai_ cy g8 40 f8, ai_ cy g22 40 c_g22_11] [0, 1, 4, 7] (by decide) rfl (fun hPc hDw => ?_)
                              have hFc := va_free (wc := []) hD hS hA [] rfl
                              refine va_calli (va_runV (As := [.int y_56, .int 1]) (rest := []) ⟨hx, hb, hml, hown, hts⟩ (c_X12_amount2 l D cy H.size mo g5 g6 g7 g8 g9 g10 g12 g13 g14 g15 g16 g17 g18 g19 g20 g22 g23 g24 g29 g30 g31 g32 g33 (0 : Int32) s1 s3 s4 s11 s21 s25 s26 s27 s28 t2 f5 f8 c_g22_11 y_56 (1 : Int32) (by first | with_reducible assumption | omega | assumption) (by first | with_reducible assumption | omega | assumption) (by first | with_reducible assumption | omega | assumption) (by first | with_reducible assumption | omega | assumption) (by first | with_reducible assumption | assumption | omega)) (cwV 2 hts gX12_cheapest_X12_amount rfl rfl rfl ⟨rfl, hd_X12_amount⟩ ⟨Nat.le_of_ble_eq_true rfl, Nat.le_of_ble_eq_true rfl⟩) ⟨bl_, va_recvX hK.1 hP (ci := 12) (q0 := 0) rfl rfl, fun U hU hW => ⟨rfl, by rw [hU], by rw [hU]; exact hPc, kk_mv hW hK, hDw⟩⟩ rfl rfl hl.1 rfl (lv_room (Nat.le_of_ble_eq_true rfl)) dB_3_2_18.2.2.1.1 ⟨Nat.le_of_ble_eq_true rfl, Nat.le_of_ble_eq_true rfl⟩) hS (fun q _ h => hFc q h) hFc (fun r_70 u t H locs ht hvm hw hB hz1 hk1 hS => ?_)
                              have hP : va_P D vwCl _ H := ro_keep hP hk1
                              obtain ⟨f0_r_70, f1_r_70⟩ := hw
                              have ha_ : r_70.toInt = amtI f5 f6 f8 c_g22_11 e30_16 e31_17 x8_24.toNatClampNeg := by have f9_ := f0_r_70; unfold amtI dirI; first | (rw [z1] at f9_; rw [← ey_56, ← ey_60, ← ey_62, if_pos (by omega)]; exact f9_) | (rw [z0] at f9_; rw [← ey_56, ← ey_60, ← ey_62, if_neg (by omega)]; exact f9_)
                              refine lv_istore (lv' := [(9, .int r_70), (8, .int x8_24), (7, .int x7_24), (5, .long x5_11), (4, .int x4_11), (0, .ref mo), (1, .int a1), (2, .int a2), (3, .int a3)]) hx hb dB_3_2_18.2.2.1.2 hl (by decide) rfl (fun ls hl => ?_)
                              refine lv_iload hx hb dB_3_2_18.2.2.2.1 (lv_at hl 0 rfl) ?_
                              refine lv_iload hx hb dB_3_2_18.2.2.2.2 (lv_at hl 2 rfl) ?_
                              refine lv_icmp_ge (tgt := 152) hx hb dB_3_2_19.1.1.1.1 (by decide) (fun c_71 => ?_) (fun c_71 => ?_)
                              · have t_71 : x7_24.toInt ≤ r_70.toInt := Int32.le_iff_toInt_le.mp c_71
                                refine lv_iload hx hb dB_3_2_19.1.1.2.2 (lv_at hl 2 rfl) ?_
                                refine lv_istore (lv' := [(7, .int x7_24), (9, .int r_70), (8, .int x8_24), (5, .long x5_11), (4, .int x4_11), (0, .ref mo), (1, .int a1), (2, .int a2), (3, .int a3)]) hx hb dB_3_2_19.1.2.1.1 hl (by decide) rfl (fun ls hl => ?_)
                                have hk_ : ∀ k : Nat, k < i_24 + 1 → x7_24.toInt ≤ amtI f5 f6 f8 c_g22_11 e30_16 e31_17 (itr (pf_ e31_17) k a2.toNatClampNeg) := fun k hk => (Nat.lt_or_ge k i_24).elim (fun q => by have h9 := v4_24 k q; omega) (fun q => by rw [show k = i_24 by omega, ← v1_24]; omega)
                                refine lv_aload_n hx hb dB_3_2_19.1.2.1.2 rfl (lv_at hl 5 rfl) ?_
                                refine va_get (ci := 12) (v := .ref g31) (C := RX12) (T := TX12) (N := 34) hx hb hts (fun _ h => List.mem_cons_of_mem _ (List.mem_append_right _ h)) hown hK.1 hP 0 rfl rfl 31 (by decide) (hts (.fieldLink RX12 76 "CutAtlasModel" "byPlace" "[I") (List.mem_of_getElem? (i := 6) rfl)) (fun _ h9 => h9) rfl dB_3_2_19.1.2.2.1 ?_
                                refine lv_iload hx hb dB_3_2_19.1.2.2.2 (lv_at hl 2 rfl) ?_
                                refine va_iald hx hb hK.1 hP 10 0 rfl rfl (i := x8_24) h_55 dB_3_2_19.2.1.1.1 ?_
                                refine lv_topi (fun y_73 ey_73 => ?_)
                                have e_ := (ey_73.trans ey_62.symm).symm
                                subst e_
                                skip
                                have hy_ : y_62.toNatClampNeg = (itr (pf_ e31_17) (i_24 + 1) a2.toNatClampNeg) := by rw [ey_62, v1_24]; rfl
                                refine lv_istore (lv' := [(8, .int y_62), (7, .int x7_24), (9, .int r_70), (5, .long x5_11), (4, .int x4_11), (0, .ref mo), (1, .int a1), (2, .int a2), (3, .int a3)]) hx hb dB_3_2_19.2.1.1.2 hl (by decide) rfl (fun ls hl => ?_)
                                refine lv_goto (tgt := 94) hx hb dB_3_2_19.2.1.2.1 (by decide) ?_
                                exact ih_24 y_62 x7_24 (i_24 + 1) _ _ _ (by omega) (by first | with_reducible assumption | assumption | omega) (by first | with_reducible assumption | assumption | rfl) (by first | with_reducible assumption | omega | assumption) (by first | with_reducible assumption | omega | assumption) (by first | exact hk_ | (intro k hk; omega)) ⟨hP, hD⟩ hS (lv_sub hl [0, 1, 3, 4, 5, 6, 7, 8] rfl)
                              · have t_71 : ¬ x7_24.toInt ≤ r_70.toInt := fun h => c_71 (Int32.le_iff_toInt_le.mpr h)
                                refine lv_iload hx hb dB_3_2_19.1.1.1.2 (lv_at hl 0 rfl) ?_
                                refine lv_goto (tgt := 154) hx hb dB_3_2_19.1.1.2.1 (by decide) ?_
                                refine lv_istore (lv' := [(7, .int r_70), (9, .int r_70), (8, .int x8_24), (5, .long x5_11), (4, .int x4_11), (0, .ref mo), (1, .int a1), (2, .int a2), (3, .int a3)]) hx hb dB_3_2_19.1.2.1.1 hl (by decide) rfl (fun ls hl => ?_)
                                have hk_ : ∀ k : Nat, k < i_24 + 1 → r_70.toInt ≤ amtI f5 f6 f8 c_g22_11 e30_16 e31_17 (itr (pf_ e31_17) k a2.toNatClampNeg) := fun k hk => (Nat.lt_or_ge k i_24).elim (fun q => by have h9 := v4_24 k q; omega) (fun q => by rw [show k = i_24 by omega, ← v1_24]; omega)
                                refine lv_aload_n hx hb dB_3_2_19.1.2.1.2 rfl (lv_at hl 5 rfl) ?_
                                refine va_get (ci := 12) (v := .ref g31) (C := RX12) (T := TX12) (N := 34) hx hb hts (fun _ h => List.mem_cons_of_mem _ (List.mem_append_right _ h)) hown hK.1 hP 0 rfl rfl 31 (by decide) (hts (.fieldLink RX12 76 "CutAtlasModel" "byPlace" "[I") (List.mem_of_getElem? (i := 6) rfl)) (fun _ h9 => h9) rfl dB_3_2_19.1.2.2.1 ?_
                                refine lv_iload hx hb dB_3_2_19.1.2.2.2 (lv_at hl 2 rfl) ?_
                                refine va_iald hx hb hK.1 hP 10 0 rfl rfl (i := x8_24) h_55 dB_3_2_19.2.1.1.1 ?_
                                refine lv_topi (fun y_75 ey_75 => ?_)
                                have e_ := (ey_75.trans ey_62.symm).symm
                                subst e_
                                skip
                                have hy_ : y_62.toNatClampNeg = (itr (pf_ e31_17) (i_24 + 1) a2.toNatClampNeg) := by rw [ey_62, v1_24]; rfl
                                refine lv_istore (lv' := [(8, .int y_62), (7, .int r_70), (9, .int r_70), (5, .long x5_11), (4, .int x4_11), (0, .ref mo), (1, .int a1), (2, .int a2), (3, .int a3)]) hx hb dB_3_2_19.2.1.1.2 hl (by decide) rfl (fun ls hl => ?_)
                                refine lv_goto (tgt := 94) hx hb dB_3_2_19.2.1.2.1 (by decide) ?_
                                exact ih_24 y_62 r_70 (i_24 + 1) _ _ _ (by omega) (by first | with_reducible assumption | assumption | omega) (by first | with_reducible assumption | assumption | rfl) (by first | with_reducible assumption | omega | assumption) (by first | with_reducible assumption | omega | assumption) (by first | exact hk_ | (intro k hk; omega)) ⟨hP, hD⟩ hS (lv_sub hl [0, 1, 3, 4, 5, 6, 7, 8] rfl)
                      · exact absurd c_23 (by decide)
              · have t_10 : ¬ (40 : Int32).toInt ≤ x4_9.toInt := fun h => c_10 (Int32.le_iff_toInt_le.mpr h)
                refine lv_aload_n hx hb dB_3_2_15.2.2.1.2 rfl (lv_at hl 1 rfl) ?_
                refine va_get (ci := 12) (v := .ref g22) (C := RX12) (T := TX12) (N := 34) hx hb hts (fun _ h => List.mem_cons_of_mem _ (List.mem_append_right _ h)) hown hK.1 hP 0 rfl rfl 22 (by decide) (hts (.fieldLink RX12 61 "CutAtlasModel" "flows" "[I") (List.mem_of_getElem? (i := 3) rfl)) (fun _ h9 => h9) rfl dB_3_2_15.2.2.2.1 ?_
                refine lv_iload hx hb dB_3_2_15.2.2.2.2 (lv_at hl 0 rfl) ?_
                refine lv_iconst (v := 0) hx hb dB_3_2_16.1.1.1.1 (by decide) ?_
                have h_76 : vp_in x4_9 40 := in_I (by first | with_reducible assumption | omega) (by omega)
                refine va_iast hx hb hK.1 hP hD hS 7 0 rfl rfl (i := x4_9) h_76 dB_3_2_16.1.1.1.2 (fun H locs hP hD hS => ?_)
                obtain ⟨f_77, ef_77⟩ : ∃ g : Nat → Int32, g = upd c_g22_9 x4_9.toNatClampNeg (0 : Int32) := ⟨_, rfl⟩
                refine pd_K (D := D) (cl := vwCl) (H := H) (A := A) [ob12_0_ mo 0 s1 t2 s3 s4 g5 g6 g7 g8 g9 g10 s11 g12 g13 g14 g15 g16 g17 g18 g19 g20 s21 g22 g23 g24 s25 s26 s27 s28 g29 g30 g31 g32 g33, ai_ cy g5 40 f5, ai_ cy g6 40 f6, ai_ cy g7 40 f7, ai_ cy g8 40 f8, ai_ cy g9 40 f9, az_ cy g10 40 f10, ai_ cy g22 40 f_77, aj_ cy g29 12 f29, ai_ cy g30 12 f30, ai_ cy g31 12 f31] (by rw [ef_77]; exact hP) (by rw [ef_77]; exact hD) (fun hP hD => ?_)
                obtain ⟨y_78, ey_78⟩ : ∃ y : Int32, y = x4_9 + 1 := ⟨_, rfl⟩
                have ty_78 : y_78.toInt = x4_9.toInt + (1 : Int32).toInt := by rw [ey_78]; exact addI (by omega) (by omega)
                refine lv_iinc (v := y_78) (lv' := [(4, .int y_78), (0, .ref mo), (1, .int a1), (2, .int a2), (3, .int a3)]) hx hb dB_3_2_16.1.1.2.1 hl (k := 0) rfl (by rw [ey_78]; rfl) (by decide) rfl (fun ls hl => ?_)
                refine lv_goto (tgt := 43) hx hb dB_3_2_16.1.1.2.2 (by decide) ?_
                exact ih_9 y_78 f_77 _ _ _ (by omega) (by first | with_reducible assumption | omega | assumption) (by first | with_reducible assumption | omega | assumption) (by first | exact zero_st (by assumption) (by assumption) (by omega) (by omega) | (intro j hj; omega)) ⟨hP, hD⟩ hS (lv_sub hl [0, 1, 2, 3, 4] rfl)
          · have t_8 : ¬ r_7.toInt < a3.toInt := fun h => c_8 (Int32.lt_iff_toInt_lt.mpr h)
            refine lv_iconst (v := 0) hx hb dB_3_2_15.1.2.2.1 (by decide) ?_
            rw [hQ]
            exact W.iret (v := 0) hx hb hr (fun t ht hW => ⟨⟨0, (), rfl, trivial, f22, f29, f30, f31, (by first | with_reducible assumption | assumption | exact rng_zero (by omega) (by omega) | omega), (by first | with_reducible assumption | assumption | exact rng_zero (by omega) (by omega) | omega), by rw [ht]; exact hP, hD⟩, hS.F ht⟩) hS.2.2 dB_3_2_15.1.2.2.2
        · exact absurd c_6 (by decide)
      · have e_ := e_.symm
        subst e_
        refine lv_if_ne (tgt := 28) hx hb dB_3_2_14.2.2.1.2 (by decide) (fun c_79 => ?_) (fun c_79 => ?_)
        · exact absurd c_79 (by decide)
        · have _ := c_79
          refine lv_iconst (v := (-1)) hx hb dB_3_2_14.2.2.2.1 (by decide) ?_
          rw [hQ]
          exact W.iret (v := (-1)) hx hb hr (fun t ht hW => ⟨⟨(-1), (), rfl, trivial, f22, f29, f30, f31, (by first | with_reducible assumption | assumption | exact rng_zero (by omega) (by omega) | omega), (by first | with_reducible assumption | assumption | exact rng_zero (by omega) (by omega) | omega), by rw [ht]; exact hP, hD⟩, hS.F ht⟩) hS.2.2 dB_3_2_14.2.2.2.2
  · have e_ := e_.symm
    subst e_
    refine lv_if_eq (tgt := 26) hx hb dB_3_2_14.1.2.2.2 (by decide) (fun c_80 => ?_) (fun c_80 => ?_)
    · have _ := c_80
      refine lv_iconst (v := (-1)) hx hb dB_3_2_14.2.2.2.1 (by decide) ?_
      rw [hQ]
      exact W.iret (v := (-1)) hx hb hr (fun t ht hW => ⟨⟨(-1), (), rfl, trivial, f22, f29, f30, f31, (by first | with_reducible assumption | assumption | exact rng_zero (by omega) (by omega) | omega), (by first | with_reducible assumption | assumption | exact rng_zero (by omega) (by omega) | omega), by rw [ht]; exact hP, hD⟩, hS.F ht⟩) hS.2.2 dB_3_2_14.2.2.2.2
    · exact absurd c_80 (by decide)
end
