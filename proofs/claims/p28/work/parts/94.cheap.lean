section CW
variable {x y : Nat → Nat} {c : Nat → Int} {ok : Nat → Bool} {E s P : Nat} {pi : Nat → Int} {pd pd2 : Nat → Int64} {bl bp bl2 bp2 : Nat → Int32} {rnd cu : Nat}
/-- the state of the search: what was paid lies between the least there is and the least of so many steps; chains end at s -/
noncomputable def cw (x y : Nat → Nat) (c : Nat → Int) (ok : Nat → Bool) (E s P : Nat) (pd : Nat → Int64) (bl bp : Nat → Int32) (rnd cu : Nat) : Prop :=
  (∀ v : Nat, v < P → dst x y c ok E s P v ≤ (pd v).toInt ∧ (pd v).toInt ≤ 1099511627776 ∧ (pd v).toInt ≤ dst x y c ok E s rnd v) ∧
  (∀ e : Nat, e < cu → ok e = true → dst x y c ok E s rnd (x e) < 1099511627776 → (pd (y e)).toInt ≤ dst x y c ok E s rnd (x e) + c e) ∧
  (∀ v : Nat, v < P → v ≠ s → (pd v).toInt < 1099511627776 → ∃ e : Nat, e < E ∧ ok e = true ∧ (bl v).toNatClampNeg = e / 2 ∧ (bp v).toNatClampNeg = x e ∧ y e = v ∧ (pd (x e)).toInt < 1099511627776 ∧ (pd (x e)).toInt + c e ≤ (pd v).toInt) ∧
  (∀ v : Nat, v < P → (pd v).toInt < 1099511627776 → ∃ n : Nat, rcs (pf_ bp) s n v)
theorem cw_init (hs : s < P) (h : ∀ v : Nat, v < P → (pd v).toInt = if v = s then 0 else 1099511627776) : cw x y c ok E s P pd bl bp 0 0 := by
  have e0 : ∀ v : Nat, dst x y c ok E s 0 v = if v = s then 0 else 1099511627776 := fun _ => rfl
  refine ⟨fun v hv => ?_, fun e he => absurd he (Nat.not_lt_zero _), fun v hv hn hf => ?_, fun v hv hf => ?_⟩
  · have m := dst_mono (x := x) (y := y) (c := c) (ok := ok) (E := E) (s := s) P 0 v (Nat.zero_le _)
    have i := dst_inf (x := x) (y := y) (c := c) (ok := ok) (E := E) (s := s) 0 v
    rw [h v hv, ← e0 v]
    exact ⟨m, i, Int.le_refl _⟩
  · rw [h v hv, if_neg hn] at hf
    omega
  · by_cases e : v = s
    · exact ⟨0, e⟩
    · rw [h v hv, if_neg e] at hf
      omega
theorem cw_rng (h : cw x y c ok E s P pd bl bp rnd cu) (hP : P ≤ 12) (hc : ∀ e : Nat, e < E → ok e = true → -101 ≤ c e) {v : Nat} (hv : v < P) : -1212 ≤ (pd v).toInt ∧ (pd v).toInt ≤ 1099511627776 := by
  have a := h.1 v hv
  have b := dst_lo (x := x) (y := y) (s := s) hc P v
  omega
theorem cw_skip (h : cw x y c ok E s P pd bl bp rnd cu) (hv : ok cu = true → x cu < P) (hs : ok cu = true → (pd (x cu)).toInt < 1099511627776 → (pd (y cu)).toInt ≤ (pd (x cu)).toInt + c cu) : cw x y c ok E s P pd bl bp rnd (cu + 1) := by
  refine ⟨h.1, fun e he ho hx => ?_, h.2.2⟩
  by_cases q : e = cu
  · subst q
    have a := (h.1 (x e) (hv ho)).2.2
    have b := hs ho (by omega)
    omega
  · exact h.2.1 e (by omega) ho hx
theorem cw_to (h : cw x y c ok E s P pd bl bp rnd cu) : ∀ n : Nat, (∀ e : Nat, cu ≤ e → e < cu + n → ok e = false) → cw x y c ok E s P pd bl bp rnd (cu + n)
  | 0, _ => h
  | n + 1, hn => by
    have a := cw_to h n (fun e h1 h2 => hn e h1 (by omega))
    have b := hn (cu + n) (by omega) (by omega)
    exact cw_skip a (fun q => by have z := b.symm.trans q; cases z) (fun q => by have z := b.symm.trans q; cases z)
theorem cw_relax {v : Int64} {l x1 : Int32} (h : cw x y c ok E s P pd bl bp rnd cu) (hp : ∀ e : Nat, e < E → ok e = true → pi (y e) ≤ pi (x e) + c e) (hv : ∀ e : Nat, e < E → ok e = true → x e < P ∧ y e < P) (hP : 1 ≤ P) (hE : cu < E) (ho : ok cu = true) (hx : (pd (x cu)).toInt < 1099511627776) (hlt : (pd (x cu)).toInt + c cu < (pd (y cu)).toInt)
    (e1 : pd2 = vp_updL pd (y cu) v) (ev : v.toInt = (pd (x cu)).toInt + c cu) (e2 : bl2 = upd bl (y cu) l) (el : l.toNatClampNeg = cu / 2) (e3 : bp2 = upd bp (y cu) x1) (ex : x1.toNatClampNeg = x cu) : cw x y c ok E s P pd2 bl2 bp2 rnd (cu + 1) := by
  have w := hv cu hE ho
  have pc := hp cu hE ho
  have hxy : x cu ≠ y cu := fun e => by
    rw [e] at hlt pc
    omega
  have n1 : pd2 (y cu) = v := by rw [e1]; exact pk_uLs
  have n2 : ∀ u : Nat, u ≠ y cu → pd2 u = pd u := fun u hu => by rw [e1]; exact pk_uLn hu
  have le : ∀ u : Nat, (pd2 u).toInt ≤ (pd u).toInt := fun u => by
    by_cases q : u = y cu
    · rw [q, n1]
      omega
    · rw [n2 u q]
      exact Int.le_refl _
  have a1 := h.1 (x cu) w.1
  have dx : dst x y c ok E s P (x cu) < 1099511627776 := by omega
  have dv : dst x y c ok E s P (y cu) ≤ dst x y c ok E s P (x cu) + c cu := by
    have en := dst_end (s := s) hp hv (k := P - 1) (by omega) (x cu)
    rw [show P - 1 + 1 = P by omega] at en
    have d := dst_e (x := x) (y := y) (c := c) (s := s) (k := P - 1) hE ho (by rw [← en]; exact dx)
    rw [show P - 1 + 1 = P by omega, ← en] at d
    exact d
  have a2y := h.1 (y cu) w.2
  have hys : y cu ≠ s := fun e => by
    have ps := dst_pi (s := s) hp P (y cu) (by omega)
    rw [e] at ps
    have m := dst_mono (x := x) (y := y) (c := c) (ok := ok) (E := E) (s := s) rnd 0 s (Nat.zero_le _)
    have e0 : dst x y c ok E s 0 s = 0 := if_pos rfl
    have a2 := (h.1 (y cu) w.2).2.2
    rw [e] at a2 dv hlt
    omega
  have bp1 : ∀ u : Nat, u ≠ y cu → pf_ bp2 u = pf_ bp u := fun u hu => by unfold pf_; rw [e3, pk_un hu]
  have bpy : pf_ bp2 (y cu) = x cu := by unfold pf_; rw [e3, pk_us]; exact ex
  refine ⟨fun u hu => ?_, fun e he hoe hxe => ?_, fun u hu hn hf => ?_, fun u hu hf => ?_⟩
  · have b := h.1 u hu
    have l := le u
    refine ⟨?_, by omega, by omega⟩
    by_cases q : u = y cu
    · rw [q, n1]
      omega
    · rw [n2 u q]
      exact b.1
  · by_cases q : e = cu
    · subst q
      rw [n1]
      omega
    · have b := h.2.1 e (by omega) hoe hxe
      have l := le (y e)
      omega
  · by_cases q : u = y cu
    · refine ⟨cu, hE, ho, ?_, ?_, q.symm, ?_, ?_⟩
      · rw [q, e2, pk_us]
        exact el
      · rw [q, e3, pk_us]
        exact ex
      · rw [n2 _ hxy]
        exact hx
      · rw [n2 _ hxy, q, n1]
        omega
    · rw [n2 u q] at hf ⊢
      obtain ⟨e, q1, q2, q3, q4, q5, q6, q7⟩ := h.2.2.1 u hu hn hf
      have l := le (x e)
      refine ⟨e, q1, q2, ?_, ?_, q5, by omega, by omega⟩
      · rw [e2, pk_un q]
        exact q3
      · rw [e3, pk_un q]
        exact q4
  · refine rcs_up (d := fun u => (pd u).toInt) (pi := pi) (P := P) bp1 bpy hys w.1 hx hlt pc (fun u hu2 hn2 hf2 => ?_) h.2.2.2 u hu ?_
    · obtain ⟨e, q1, q2, q3, q4, q5, q6, q7⟩ := h.2.2.1 u hu2 hn2 hf2
      have g := hp e q1 q2
      have g2 := hv e q1 q2
      have ee : pf_ bp u = x e := q4
      rw [ee]
      rw [q5] at g
      exact ⟨g2.1, q6, by omega⟩
    · by_cases q : u = y cu
      · exact Or.inr q
      · rw [n2 u q] at hf
        exact Or.inl hf
theorem cw_round (h : cw x y c ok E s P pd bl bp rnd E) : cw x y c ok E s P pd bl bp (rnd + 1) 0 := by
  refine ⟨fun v hv => ?_, fun e he => absurd he (Nat.not_lt_zero _), h.2.2⟩
  have a := h.1 v hv
  refine ⟨a.1, a.2.1, ?_⟩
  rcases Int.lt_or_le (dst x y c ok E s (rnd + 1) v) (dst x y c ok E s rnd v) with q | q
  · obtain ⟨e, he, ho, ey, hx, h2⟩ := dst_at q
    have b := h.2.1 e he ho hx
    rw [ey] at b
    omega
  · omega
/-- behind the last round -/
noncomputable def cz (x y : Nat → Nat) (c : Nat → Int) (ok : Nat → Bool) (E s P : Nat) (pd : Nat → Int64) (bl bp : Nat → Int32) : Prop :=
  (∀ e : Nat, e < E → ok e = true → (pd (x e)).toInt < 1099511627776 → (pd (y e)).toInt ≤ (pd (x e)).toInt + c e) ∧
  (∀ v : Nat, v < P → v ≠ s → (pd v).toInt < 1099511627776 → ∃ e : Nat, e < E ∧ ok e = true ∧ (bl v).toNatClampNeg = e / 2 ∧ (bp v).toNatClampNeg = x e ∧ y e = v ∧ (pd (x e)).toInt < 1099511627776 ∧ (pd (x e)).toInt + c e ≤ (pd v).toInt) ∧
  (∀ v : Nat, v < P → (pd v).toInt < 1099511627776 → ∃ n : Nat, rcs (pf_ bp) s n v) ∧ (∀ v : Nat, v < P → (pd v).toInt < 1099511627776 → (pd v).toInt ≤ 1000000 * (P : Int))
theorem cw_end (h : cw x y c ok E s P pd bl bp P 0) (hp : ∀ e : Nat, e < E → ok e = true → pi (y e) ≤ pi (x e) + c e) (hv : ∀ e : Nat, e < E → ok e = true → x e < P ∧ y e < P) (hP : 1 ≤ P) (hc : ∀ e : Nat, e < E → ok e = true → c e < 1000000) : cz x y c ok E s P pd bl bp := by
  refine ⟨fun e he ho hx => ?_, h.2.2.1, h.2.2.2, fun v hv hf => ?_⟩
  rotate_left
  · have a := h.1 v hv
    have b := dst_hi (x := x) (y := y) (s := s) hc P v (by omega)
    omega
  have w := hv e he ho
  have a := h.1 (x e) w.1
  have b := h.1 (y e) w.2
  have en := dst_end (s := s) hp hv (k := P - 1) (by omega) (x e)
  rw [show P - 1 + 1 = P by omega] at en
  have d := dst_e (x := x) (y := y) (c := c) (s := s) (k := P - 1) he ho (by rw [← en]; omega)
  rw [show P - 1 + 1 = P by omega, ← en] at d
  omega
theorem bnd (g : Nat → Int) : ∀ n : Nat, ∃ M : Int, ∀ i : Nat, i < n → g i ≤ M
  | 0 => ⟨0, fun i h => absurd h (Nat.not_lt_zero _)⟩
  | n + 1 => by
    obtain ⟨M, hM⟩ := bnd g n
    rcases Int.lt_or_le M (g n) with q | q
    · refine ⟨g n, fun i hi => ?_⟩
      by_cases e : i = n
      · subst e; exact Int.le_refl _
      · have := hM i (by omega)
        omega
    · refine ⟨M, fun i hi => ?_⟩
      by_cases e : i = n
      · subst e; exact q
      · exact hM i (by omega)
/-- what was paid, as the potential of the places -/
theorem cz_pi (h : cz x y c ok E s P pd bl bp) (hp : ∀ e : Nat, e < E → ok e = true → pi (y e) ≤ pi (x e) + c e) (hv : ∀ e : Nat, e < E → ok e = true → x e < P ∧ y e < P) (hc : ∀ e : Nat, e < E → ok e = true → c e < 1000000) (hP : P ≤ 12) : ∃ p2 : Nat → Int, (∀ e : Nat, e < E → ok e = true → p2 (y e) ≤ p2 (x e) + c e) ∧ (∀ v : Nat, (pd v).toInt < 1099511627776 → p2 v = (pd v).toInt) := by
  obtain ⟨M, hM⟩ := bnd (fun v => (pd v).toInt - pi v) P
  refine ⟨fun v => if (pd v).toInt < 1099511627776 then (pd v).toInt else pi v + M, fun e he ho => ?_, fun v hv => if_pos hv⟩
  have w := hv e he ho
  have pe := hp e he ho
  have m1 : (pd (y e)).toInt - pi (y e) ≤ M := hM (y e) w.2
  show (if (pd (y e)).toInt < 1099511627776 then (pd (y e)).toInt else pi (y e) + M) ≤ (if (pd (x e)).toInt < 1099511627776 then (pd (x e)).toInt else pi (x e) + M) + c e
  by_cases q : (pd (x e)).toInt < 1099511627776
  · rw [if_pos q]
    have d := h.1 e he ho q
    by_cases q2 : (pd (y e)).toInt < 1099511627776
    · rw [if_pos q2]
      exact d
    · exfalso
      have u := h.2.2.2 (x e) w.1 q
      have ce := hc e he ho
      omega
  · rw [if_neg q]
    by_cases q2 : (pd (y e)).toInt < 1099511627776
    · rw [if_pos q2]
      omega
    · rw [if_neg q2]
      omega
end CW
section GRAPH
variable {f5 f6 f7 f8 f9 f10 F F0 F2 : Nat → Int32} {pi : Nat → Int}
noncomputable def gx (f6 f7 : Nat → Int32) (e : Nat) : Nat := if e % 2 = 0 then (f6 (e / 2)).toNatClampNeg else (f7 (e / 2)).toNatClampNeg
noncomputable def gy (f6 f7 : Nat → Int32) (e : Nat) : Nat := if e % 2 = 0 then (f7 (e / 2)).toNatClampNeg else (f6 (e / 2)).toNatClampNeg
noncomputable def gc (f5 f8 f9 F : Nat → Int32) (e : Nat) : Int := eS f5 f8 f9 F (e / 2) (if e % 2 = 0 then 1 else 0)
noncomputable def go (f5 f8 f9 f10 F : Nat → Int32) (e : Nat) : Bool := decide ((f10 (e / 2)).toInt = 0) && decide (gc f5 f8 f9 F e < 1000000)
theorem go_iff {e : Nat} : go f5 f8 f9 f10 F e = true ↔ (f10 (e / 2)).toInt = 0 ∧ gc f5 f8 f9 F e < 1000000 := by
  unfold go
  rw [Bool.and_eq_true, decide_eq_true_iff, decide_eq_true_iff]
/-- lines that aren't missing are between two places -/
noncomputable def netE (P N : Int) (f6 f7 f10 : Nat → Int32) : Prop := ∀ j : Nat, (j : Int) < N → (f10 j).toInt = 0 → (f6 j).toInt < P ∧ (f7 j).toInt < P
theorem g_v {P N : Int32} (h : netE P.toInt N.toInt f6 f7 f10) (r6 : rng f6 40 0 11) (r7 : rng f7 40 0 11) (hN : 0 ≤ N.toInt ∧ N.toInt ≤ 40) (hP : 0 ≤ P.toInt) : ∀ e : Nat, e < 2 * N.toNatClampNeg → go f5 f8 f9 f10 F e = true → gx f6 f7 e < P.toNatClampNeg ∧ gy f6 f7 e < P.toNatClampNeg := fun e he ho => by
  have cN := clI (i := N) hN.1
  have cP := clI (i := P) hP
  have a := h (e / 2) (by omega) (go_iff.mp ho).1
  have b6 := r6 (e / 2) (by omega)
  have b7 := r7 (e / 2) (by omega)
  have c6 := clI (i := f6 (e / 2)) b6.1
  have c7 := clI (i := f7 (e / 2)) b7.1
  unfold gx gy
  by_cases q : e % 2 = 0
  · rw [if_pos q, if_pos q]
    omega
  · rw [if_neg q, if_neg q]
    omega
theorem g_c1 {N : Nat} : ∀ e : Nat, e < 2 * N → go f5 f8 f9 f10 F e = true → gc f5 f8 f9 F e < 1000000 := fun _ _ ho => (go_iff.mp ho).2
theorem gc_lo (r9 : rng f9 40 0 100) {e : Nat} (he : e / 2 < 40) : -101 ≤ gc f5 f8 f9 F e := by
  have b := r9 _ he
  have c := cst_rng (k := (f5 (e / 2)).toInt) b.1 b.2
  unfold gc eS
  by_cases q : (if e % 2 = 0 then (1 : Int) else 0) ≠ 0
  · rw [if_pos q]
    have a := stI_cs (cst (f5 (e / 2)).toInt (f9 (e / 2)).toInt) (rmI (f5 (e / 2)) (f8 (e / 2)) 0) (rmI (f5 (e / 2)) (f8 (e / 2)) 1) (F (e / 2)).toInt
    omega
  · rw [if_neg q]
    have a := stI_cs (cst (f5 (e / 2)).toInt (f9 (e / 2)).toInt) (rmI (f5 (e / 2)) (f8 (e / 2)) 1) (rmI (f5 (e / 2)) (f8 (e / 2)) 0) (-(F (e / 2)).toInt)
    omega
theorem g_c0 {N : Int32} (r9 : rng f9 40 0 100) (hN : 0 ≤ N.toInt ∧ N.toInt ≤ 40) : ∀ e : Nat, e < 2 * N.toNatClampNeg → go f5 f8 f9 f10 F e = true → -101 ≤ gc f5 f8 f9 F e := fun e he _ => by
  have cN := clI (i := N) hN.1
  exact gc_lo r9 (by omega)
/-- no place is reached for less than the places differ by -/
noncomputable def pot (f5 f6 f7 f8 f9 f10 F : Nat → Int32) (N : Nat) (pi : Nat → Int) : Prop := ∀ e : Nat, e < 2 * N → go f5 f8 f9 f10 F e = true → pi (gy f6 f7 e) ≤ pi (gx f6 f7 e) + gc f5 f8 f9 F e
noncomputable def okF (f5 f8 f9 F : Nat → Int32) : Prop := ∀ j : Nat, j < 40 → cst (f5 j).toInt (f9 j).toInt = -9 → -(rmI (f5 j) (f8 j) 0) ≤ (F j).toInt ∧ (F j).toInt ≤ rmI (f5 j) (f8 j) 1
theorem pot_zero {N : Nat} (r8 : rng f8 40 0 2000) (r9 : rng f9 40 0 100) (hN : N ≤ 40) (h : ∀ j : Nat, j < 40 → (F j).toInt = 0) : pot f5 f6 f7 f8 f9 f10 F N (fun _ => 0) ∧ okF f5 f8 f9 F := by
  refine ⟨fun e he _ => ?_, fun j hj _ => ?_⟩
  · have z := h (e / 2) (by omega)
    have b := r9 (e / 2) (by omega)
    have c := cst_rng (k := (f5 (e / 2)).toInt) b.1 b.2
    have b8 := r8 (e / 2) (by omega)
    have w1 := rmI_rng (k := f5 (e / 2)) (b := 1) b8.1 b8.2
    have w0 := rmI_rng (k := f5 (e / 2)) (b := 0) b8.1 b8.2
    show (0 : Int) ≤ 0 + gc f5 f8 f9 F e
    unfold gc eS
    rw [z]
    by_cases q : (if e % 2 = 0 then (1 : Int) else 0) ≠ 0
    · rw [if_pos q]
      have a := stI_cs (cst (f5 (e / 2)).toInt (f9 (e / 2)).toInt) (rmI (f5 (e / 2)) (f8 (e / 2)) 0) (rmI (f5 (e / 2)) (f8 (e / 2)) 1) 0
      omega
    · rw [if_neg q]
      have a := stI_cs (cst (f5 (e / 2)).toInt (f9 (e / 2)).toInt) (rmI (f5 (e / 2)) (f8 (e / 2)) 1) (rmI (f5 (e / 2)) (f8 (e / 2)) 0) (-0)
      omega
  · have z := h j hj
    have b8 := r8 j hj
    have w1 := rmI_rng (k := f5 j) (b := 1) b8.1 b8.2
    have w0 := rmI_rng (k := f5 j) (b := 0) b8.1 b8.2
    omega
theorem gc_cg {e : Nat} (h : F2 (e / 2) = F (e / 2)) : gc f5 f8 f9 F2 e = gc f5 f8 f9 F e := by
  unfold gc eS
  rw [h]
theorem gpush {N e : Nat} {l v : Int32} {n : Int} (r8 : rng f8 40 0 2000) (r9 : rng f9 40 0 100) (hN : N ≤ 40) (e2 : F2 = upd F l.toNatClampNeg v) (he : e < 2 * N) (el : l.toNatClampNeg = e / 2) (ho : go f5 f8 f9 f10 F e = true) (hn : 1 ≤ n)
    (hna : n ≤ eA f5 f8 F (e / 2) (if e % 2 = 0 then 1 else 0)) (hv : v.toInt = (F (e / 2)).toInt + (if e % 2 = 0 then n else -n)) (ht : pi (gy f6 f7 e) = pi (gx f6 f7 e) + gc f5 f8 f9 F e) (hp : pot f5 f6 f7 f8 f9 f10 F N pi) (hk : okF f5 f8 f9 F) : pot f5 f6 f7 f8 f9 f10 F2 N pi ∧ okF f5 f8 f9 F2 := by
  have n1 : F2 (e / 2) = v := by rw [e2, el]; exact pk_us
  have n2 : ∀ j : Nat, j ≠ e / 2 → F2 j = F j := fun j hj => by rw [e2, el]; exact pk_un hj
  have b := r9 (e / 2) (by omega)
  have c := cst_rng (k := (f5 (e / 2)).toInt) b.1 b.2
  have b8 := r8 (e / 2) (by omega)
  have w1 := rmI_rng (k := f5 (e / 2)) (b := 1) b8.1 b8.2
  have w0 := rmI_rng (k := f5 (e / 2)) (b := 0) b8.1 b8.2
  have ok1 := hk (e / 2) (by omega)
  have lt := (go_iff.mp ho).2
  by_cases q : e % 2 = 0
  · have gcf : ∀ G : Nat → Int32, gc f5 f8 f9 G e = stI (cst (f5 (e / 2)).toInt (f9 (e / 2)).toInt) (rmI (f5 (e / 2)) (f8 (e / 2)) 0) (rmI (f5 (e / 2)) (f8 (e / 2)) 1) (G (e / 2)).toInt := fun G => by
      unfold gc eS
      rw [if_pos q, if_pos (by decide)]
    have am : eA f5 f8 F (e / 2) (if e % 2 = 0 then 1 else 0) = amI (rmI (f5 (e / 2)) (f8 (e / 2)) 0) (rmI (f5 (e / 2)) (f8 (e / 2)) 1) (F (e / 2)).toInt := by
      unfold eA
      rw [if_pos q, if_pos (by decide)]
    rw [am] at hna
    rw [if_pos q] at hv
    rw [gcf F] at lt
    have sp := st_push (d := gc f5 f8 f9 F e) c w0.1 w1.1 (gcf F) lt hn hna ok1
    rw [← hv, ← n1] at sp
    refine ⟨fun e9 h9 o9 => ?_, fun j hj hc => ?_⟩
    · by_cases s9 : e9 / 2 = e / 2
      · by_cases q9 : e9 % 2 = 0
        · obtain rfl : e9 = e := by omega
          have := sp.1 (by rw [← gcf F2]; exact (go_iff.mp o9).2)
          rw [gcf F2]
          omega
        · have ex : gx f6 f7 e9 = gy f6 f7 e := by unfold gx gy; rw [if_neg q9, if_pos q, s9]
          have ey : gy f6 f7 e9 = gx f6 f7 e := by unfold gx gy; rw [if_neg q9, if_pos q, s9]
          have g9 : gc f5 f8 f9 F2 e9 = stI (cst (f5 (e / 2)).toInt (f9 (e / 2)).toInt) (rmI (f5 (e / 2)) (f8 (e / 2)) 1) (rmI (f5 (e / 2)) (f8 (e / 2)) 0) (-(F2 (e / 2)).toInt) := by
            unfold gc eS
            rw [if_neg q9, if_neg (by decide), s9]
          have o2 := (go_iff.mp o9).2
          rw [g9] at o2 ⊢
          have := sp.2.1 o2
          rw [ex, ey]
          omega
      · have cg := gc_cg (f5 := f5) (f8 := f8) (f9 := f9) (n2 (e9 / 2) s9)
        rw [cg]
        exact hp e9 h9 (by
          have o2 := go_iff.mp o9
          rw [cg] at o2
          exact go_iff.mpr o2)
    · by_cases s9 : j = e / 2
      · subst s9
        exact sp.2.2 hc
      · rw [n2 j s9]
        exact hk j hj hc
  · have gcf : ∀ G : Nat → Int32, gc f5 f8 f9 G e = stI (cst (f5 (e / 2)).toInt (f9 (e / 2)).toInt) (rmI (f5 (e / 2)) (f8 (e / 2)) 1) (rmI (f5 (e / 2)) (f8 (e / 2)) 0) (-(G (e / 2)).toInt) := fun G => by
      unfold gc eS
      rw [if_neg q, if_neg (by decide)]
    have am : eA f5 f8 F (e / 2) (if e % 2 = 0 then 1 else 0) = amI (rmI (f5 (e / 2)) (f8 (e / 2)) 1) (rmI (f5 (e / 2)) (f8 (e / 2)) 0) (-(F (e / 2)).toInt) := by
      unfold eA
      rw [if_neg q, if_neg (by decide)]
    rw [am] at hna
    rw [if_neg q] at hv
    rw [gcf F] at lt
    have sp := st_push (d := gc f5 f8 f9 F e) c w1.1 w0.1 (gcf F) lt hn hna (fun h => by have := ok1 h; omega)
    rw [show -(F (e / 2)).toInt + n = -(F2 (e / 2)).toInt by rw [n1]; omega, show - -(F2 (e / 2)).toInt = (F2 (e / 2)).toInt by omega] at sp
    refine ⟨fun e9 h9 o9 => ?_, fun j hj hc => ?_⟩
    · by_cases s9 : e9 / 2 = e / 2
      · by_cases q9 : e9 % 2 = 0
        · have ex : gx f6 f7 e9 = gy f6 f7 e := by unfold gx gy; rw [if_pos q9, if_neg q, s9]
          have ey : gy f6 f7 e9 = gx f6 f7 e := by unfold gx gy; rw [if_pos q9, if_neg q, s9]
          have g9 : gc f5 f8 f9 F2 e9 = stI (cst (f5 (e / 2)).toInt (f9 (e / 2)).toInt) (rmI (f5 (e / 2)) (f8 (e / 2)) 0) (rmI (f5 (e / 2)) (f8 (e / 2)) 1) (F2 (e / 2)).toInt := by
            unfold gc eS
            rw [if_pos q9, if_pos (by decide), s9]
          have o2 := (go_iff.mp o9).2
          rw [g9] at o2 ⊢
          have := sp.2.1 o2
          rw [ex, ey]
          omega
        · obtain rfl : e9 = e := by omega
          have := sp.1 (by rw [← gcf F2]; exact (go_iff.mp o9).2)
          rw [gcf F2]
          omega
      · have cg := gc_cg (f5 := f5) (f8 := f8) (f9 := f9) (n2 (e9 / 2) s9)
        rw [cg]
        exact hp e9 h9 (by
          have o2 := go_iff.mp o9
          rw [cg] at o2
          exact go_iff.mpr o2)
    · by_cases s9 : j = e / 2
      · subst s9
        have := sp.2.2 hc
        omega
      · rw [n2 j s9]
        exact hk j hj hc
noncomputable def dirI (a b : Int) : Int := if a = b then 1 else 0
noncomputable def amtI (f5 f6 f8 F bl bp : Nat → Int32) (v : Nat) : Int := eA f5 f8 F (bl v).toNatClampNeg (dirI (f6 (bl v).toNatClampNeg).toInt (bp v).toInt)
variable {bl bp : Nat → Int32} {pd : Nat → Int64} {s t P N R : Nat}
theorem ch_fin {x y : Nat → Nat} {c : Nat → Int} {ok : Nat → Bool} {E : Nat} (hz : cz x y c ok E s P pd bl bp) (hv : ∀ e : Nat, e < E → ok e = true → x e < P ∧ y e < P) (ht : t < P) (hf : (pd t).toInt < 1099511627776) (hR : rcs (pf_ bp) s R t) : ∀ i : Nat, i ≤ R → itr (pf_ bp) i t < P ∧ (pd (itr (pf_ bp) i t)).toInt < 1099511627776
  | 0, _ => ⟨ht, hf⟩
  | i + 1, hi => by
    have a := ch_fin hz hv ht hf hR i (by omega)
    have r := rcs_itr hR i (by omega)
    rw [show R - i = (R - i - 1) + 1 by omega] at r
    obtain ⟨e, q1, q2, q3, q4, q5, q6, q7⟩ := hz.2.1 _ a.1 r.1 a.2
    have w := hv e q1 q2
    have ee : itr (pf_ bp) (i + 1) t = x e := q4
    rw [ee]
    exact ⟨w.1, q6⟩
theorem ch_e {x y : Nat → Nat} {c : Nat → Int} {ok : Nat → Bool} {E : Nat} (hz : cz x y c ok E s P pd bl bp) (hv : ∀ e : Nat, e < E → ok e = true → x e < P ∧ y e < P) (ht : t < P) (hf : (pd t).toInt < 1099511627776) (hR : rcs (pf_ bp) s R t) {i : Nat} (hi : i < R) : ∃ e : Nat, e < E ∧ ok e = true ∧ (bl (itr (pf_ bp) i t)).toNatClampNeg = e / 2 ∧ itr (pf_ bp) (i + 1) t = x e ∧ itr (pf_ bp) i t = y e ∧ (pd (x e)).toInt < 1099511627776 ∧ (pd (y e)).toInt = (pd (x e)).toInt + c e := by
  have a := ch_fin hz hv ht hf hR i (by omega)
  have r := rcs_itr hR i (by omega)
  rw [show R - i = (R - i - 1) + 1 by omega] at r
  obtain ⟨e, q1, q2, q3, q4, q5, q6, q7⟩ := hz.2.1 _ a.1 r.1 a.2
  have d := hz.1 e q1 q2 q6
  rw [q5] at d
  refine ⟨e, q1, q2, q3, q4, q5.symm, q6, ?_⟩
  rw [q5]
  omega
theorem ch_inj (hR : rcs (pf_ bp) s R t) {i j : Nat} (hi : i ≤ R) (hj : j ≤ R) (h : itr (pf_ bp) i t = itr (pf_ bp) j t) : i = j := by
  have a := rcs_itr hR i hi
  have b := rcs_itr hR j hj
  rw [h] at a
  have := rcs_un _ _ _ a b
  omega
theorem ch_line {c : Nat → Int} {ok : Nat → Bool} {E : Nat} (hz : cz (gx f6 f7) (gy f6 f7) c ok E s P pd bl bp) (hv : ∀ e : Nat, e < E → ok e = true → gx f6 f7 e < P ∧ gy f6 f7 e < P) (ht : t < P) (hf : (pd t).toInt < 1099511627776) (hR : rcs (pf_ bp) s R t) {i j : Nat} (hij : i < j) (hj : j < R) : (bl (itr (pf_ bp) i t)).toNatClampNeg ≠ (bl (itr (pf_ bp) j t)).toNatClampNeg := fun h => by
  obtain ⟨e, _, _, a3, a4, a5, _, _⟩ := ch_e hz hv ht hf hR (i := i) (by omega)
  obtain ⟨g, _, _, b3, b4, b5, _, _⟩ := ch_e hz hv ht hf hR hj
  rw [a3, b3] at h
  by_cases q : e % 2 = g % 2
  · obtain rfl : e = g := by omega
    have := ch_inj hR (by omega) (by omega) (a5.trans b5.symm)
    omega
  · have e1 : gx f6 f7 e = gy f6 f7 g := by
      unfold gx gy
      by_cases z : e % 2 = 0
      · rw [if_pos z, if_neg (by omega), h]
      · rw [if_neg z, if_pos (by omega), h]
    have e2 : gy f6 f7 e = gx f6 f7 g := by
      unfold gx gy
      by_cases z : e % 2 = 0
      · rw [if_pos z, if_neg (by omega), h]
      · rw [if_neg z, if_pos (by omega), h]
    have i1 := ch_inj hR (i := i + 1) (j := j) (by omega) (by omega) ((a4.trans e1).trans b5.symm)
    have i2 := ch_inj hR (i := i) (j := j + 1) (by omega) (by omega) ((a5.trans e2).trans b4.symm)
    omega
theorem ch_push {i : Nat} {l v y1 : Int32} {n B : Int} (r6 : rng f6 40 0 11) (r7 : rng f7 40 0 11) (r8 : rng f8 40 0 2000) (r9 : rng f9 40 0 100) (rp : rng bp 12 0 11) (hP12 : P ≤ 12) (hN : N ≤ 40) (hz : cz (gx f6 f7) (gy f6 f7) (gc f5 f8 f9 F0) (go f5 f8 f9 f10 F0) (2 * N) s P pd bl bp) (hv : ∀ e : Nat, e < 2 * N → go f5 f8 f9 f10 F0 e = true → gx f6 f7 e < P ∧ gy f6 f7 e < P)
    (ht : t < P) (hf : (pd t).toInt < 1099511627776) (hR : rcs (pf_ bp) s R t) (hpi : ∀ v : Nat, (pd v).toInt < 1099511627776 → pi v = (pd v).toInt) (hi : i < R) (hy : y1.toNatClampNeg = itr (pf_ bp) i t) (el : l = bl y1.toNatClampNeg) (e2 : F2 = upd F l.toNatClampNeg v)
    (hvv : v.toInt = (F l.toNatClampNeg).toInt + (if (f6 l.toNatClampNeg).toInt = (bp y1.toNatClampNeg).toInt then n else -n)) (hn : 1 ≤ n) (hna : ∀ k : Nat, k < R → n ≤ amtI f5 f6 f8 F0 bl bp (itr (pf_ bp) k t))
    (hun : ∀ k : Nat, i ≤ k → k < R → F (bl (itr (pf_ bp) k t)).toNatClampNeg = F0 (bl (itr (pf_ bp) k t)).toNatClampNeg) (hp : pot f5 f6 f7 f8 f9 f10 F N pi) (hk : okF f5 f8 f9 F) (hb : ∀ j : Nat, j < 40 → -(B + n) ≤ (F j).toInt ∧ (F j).toInt ≤ B + n) (hb0 : ∀ j : Nat, j < 40 → -B ≤ (F0 j).toInt ∧ (F0 j).toInt ≤ B) :
    pot f5 f6 f7 f8 f9 f10 F2 N pi ∧ okF f5 f8 f9 F2 ∧ (∀ j : Nat, j < 40 → -(B + n) ≤ (F2 j).toInt ∧ (F2 j).toInt ≤ B + n) ∧ (∀ k : Nat, i + 1 ≤ k → k < R → F2 (bl (itr (pf_ bp) k t)).toNatClampNeg = F0 (bl (itr (pf_ bp) k t)).toNatClampNeg) := by
  obtain ⟨e, q1, q2, q3, q4, q5, q6, q7⟩ := ch_e hz hv ht hf hR hi
  have un := hun i (Nat.le_refl _) hi
  have am := hna i hi
  have w := hv e q1 q2
  rw [← hy] at un am q3 q5
  rw [← el] at un q3
  have q4b : pf_ bp y1.toNatClampNeg = gx f6 f7 e := by rw [hy]; exact q4
  have hyP : y1.toNatClampNeg < 12 := by omega
  have bpr := rp _ hyP
  have cb := clI (i := bp y1.toNatClampNeg) bpr.1
  have b6 := r6 (e / 2) (by omega)
  have c6 := clI (i := f6 (e / 2)) b6.1
  have b7 := r7 (e / 2) (by omega)
  have c7 := clI (i := f7 (e / 2)) b7.1
  have q4c : (bp y1.toNatClampNeg).toNatClampNeg = gx f6 f7 e := q4b
  have hne : gx f6 f7 e ≠ gy f6 f7 e := fun h => by
    have := ch_inj hR (i := i + 1) (j := i) (by omega) (by omega) (by rw [q4, h, ← q5, hy])
    omega
  have dir : (f6 (e / 2)).toInt = (bp y1.toNatClampNeg).toInt ↔ e % 2 = 0 := by
    unfold gx at q4c
    unfold gx gy at hne
    by_cases z : e % 2 = 0
    · rw [if_pos z] at q4c
      exact ⟨fun _ => z, fun _ => by omega⟩
    · rw [if_neg z] at q4c
      rw [if_neg z, if_neg z] at hne
      exact ⟨fun h => by omega, fun h => absurd h z⟩
  have amv : amtI f5 f6 f8 F0 bl bp y1.toNatClampNeg = eA f5 f8 F (e / 2) (if e % 2 = 0 then 1 else 0) := by
    unfold amtI
    rw [← el, q3]
    have d2 : dirI (f6 (e / 2)).toInt (bp y1.toNatClampNeg).toInt = if e % 2 = 0 then 1 else 0 := by
      unfold dirI
      by_cases z : e % 2 = 0
      · rw [if_pos z, if_pos (dir.mpr z)]
      · rw [if_neg z, if_neg (fun h => z (dir.mp h))]
    rw [d2]
    unfold eA
    rw [← q3, un]
  rw [amv] at am
  have un2 : F (e / 2) = F0 (e / 2) := by rw [← q3]; exact un
  have cg := gc_cg (f5 := f5) (f8 := f8) (f9 := f9) un2
  have ho : go f5 f8 f9 f10 F e = true := by
    have o2 := go_iff.mp q2
    rw [← cg] at o2
    exact go_iff.mpr o2
  have hv2 : v.toInt = (F (e / 2)).toInt + (if e % 2 = 0 then n else -n) := by
    rw [q3] at hvv
    rw [hvv]
    by_cases z : e % 2 = 0
    · rw [if_pos z, if_pos (dir.mpr z)]
    · rw [if_neg z, if_neg (fun h => z (dir.mp h))]
  have fy : (pd (gy f6 f7 e)).toInt < 1099511627776 := by
    have := (ch_fin hz hv ht hf hR i (by omega)).2
    rw [← hy, q5] at this
    exact this
  have tight : pi (gy f6 f7 e) = pi (gx f6 f7 e) + gc f5 f8 f9 F e := by
    rw [hpi _ fy, hpi _ q6, cg]
    exact q7
  have g := gpush r8 r9 hN e2 q1 q3 ho hn am hv2 tight hp hk
  refine ⟨g.1, g.2, fun j hj => ?_, fun k k1 k2 => ?_⟩
  · by_cases z : j = l.toNatClampNeg
    · rw [e2, z, pk_us, hv2, un2]
      have h0 := hb0 (e / 2) (by omega)
      split <;> omega
    · rw [e2, pk_un z]
      exact hb j hj
  · have ne := ch_line hz hv ht hf hR (i := i) (j := k) (by omega) k2
    rw [← hy, ← el] at ne
    rw [e2, pk_un (fun h => ne h.symm)]
    exact hun k (by omega) k2
end GRAPH
theorem gc_0 {f5 f8 f9 F : Nat → Int32} {j : Nat} : gc f5 f8 f9 F (2 * j + (0 : Int32).toNatClampNeg) = eS f5 f8 f9 F j (1 : Int32).toInt := by
  unfold gc
  rw [cl_0, Nat.add_zero, Nat.mul_div_cancel_left j (by decide), if_pos (Nat.mul_mod_right 2 j)]
  rfl
theorem gc_1 {f5 f8 f9 F : Nat → Int32} {j : Nat} : gc f5 f8 f9 F (2 * j + (1 : Int32).toNatClampNeg) = eS f5 f8 f9 F j (0 : Int32).toInt := by
  unfold gc
  rw [cl_1, show (2 * j + 1) / 2 = j by omega, if_neg (by omega)]
  rfl
theorem gx_0 {f6 f7 : Nat → Int32} {j : Nat} : gx f6 f7 (2 * j + (0 : Int32).toNatClampNeg) = (f6 j).toNatClampNeg ∧ gy f6 f7 (2 * j + (0 : Int32).toNatClampNeg) = (f7 j).toNatClampNeg := by
  unfold gx gy
  rw [cl_0, Nat.add_zero, Nat.mul_div_cancel_left j (by decide), if_pos (Nat.mul_mod_right 2 j), if_pos (Nat.mul_mod_right 2 j)]
  exact ⟨rfl, rfl⟩
theorem gx_1 {f6 f7 : Nat → Int32} {j : Nat} : gx f6 f7 (2 * j + (1 : Int32).toNatClampNeg) = (f7 j).toNatClampNeg ∧ gy f6 f7 (2 * j + (1 : Int32).toNatClampNeg) = (f6 j).toNatClampNeg := by
  unfold gx gy
  rw [cl_1, show (2 * j + 1) / 2 = j by omega, if_neg (by omega), if_neg (by omega)]
  exact ⟨rfl, rfl⟩
theorem go_at {f5 f8 f9 f10 F : Nat → Int32} {j : Nat} {b : Int32} {r : Int} (hb : b.toInt = 0 ∨ b.toInt = 1) (h0 : (f10 j).toInt = 0) (hr : r = gc f5 f8 f9 F (2 * j + b.toNatClampNeg)) (hlt : r < 1000000) : go f5 f8 f9 f10 F (2 * j + b.toNatClampNeg) = true := by
  have c := clI (i := b) (by omega)
  refine go_iff.mpr ⟨?_, by omega⟩
  rw [show (2 * j + b.toNatClampNeg) / 2 = j by omega]
  exact h0
theorem go_miss {f5 f8 f9 f10 F : Nat → Int32} {j e : Nat} (h0 : (f10 j).toInt ≠ 0) (he : e / 2 = j) : go f5 f8 f9 f10 F e = false := by
  cases h : go f5 f8 f9 f10 F e with
  | false => rfl
  | true =>
    have a := (go_iff.mp h).1
    rw [he] at a
    exact absurd a h0
theorem pd_st {s : Nat} {pd pd2 : Nat → Int64} {i i2 : Int32} {v : Int64} (e : pd2 = vp_updL pd i.toNatClampNeg v) (hv : v.toInt = if i.toNatClampNeg = s then 0 else 1099511627776) (h : ∀ w : Nat, (w : Int) < i.toInt → (pd w).toInt = if w = s then 0 else 1099511627776) (h0 : 0 ≤ i.toInt) (ei : i2.toInt = i.toInt + 1) : ∀ w : Nat, (w : Int) < i2.toInt → (pd2 w).toInt = if w = s then 0 else 1099511627776 := fun w hw => by
  have c := clI (i := i) h0
  rw [e]
  by_cases q : w = i.toNatClampNeg
  · rw [q, pk_uLs]
    exact hv
  · rw [pk_uLn q]
    exact h w (by omega)
theorem cw_nx {x y : Nat → Nat} {c : Nat → Int} {ok : Nat → Bool} {E s P : Nat} {pd : Nat → Int64} {bl bp : Nat → Int32} {rnd k k2 : Nat} (h : cw x y c ok E s P pd bl bp rnd k) (e : k2 = k) : cw x y c ok E s P pd bl bp rnd k2 := by
  rw [e]
  exact h
theorem cw_rd {x y : Nat → Nat} {c : Nat → Int} {ok : Nat → Bool} {E s P : Nat} {pd : Nat → Int64} {bl bp : Nat → Int32} {rnd r2 k : Nat} (h : cw x y c ok E s P pd bl bp rnd k) (ek : k = E) (e : r2 = rnd + 1) : cw x y c ok E s P pd bl bp r2 0 := by
  rw [e]
  rw [ek] at h
  exact cw_round h
theorem cw_r2 {x y : Nat → Nat} {c : Nat → Int} {ok : Nat → Bool} {E s P : Nat} {pd : Nat → Int64} {bl bp : Nat → Int32} {rnd r2 k : Nat} (h : cw x y c ok E s P pd bl bp rnd k) (e : r2 = rnd) : cw x y c ok E s P pd bl bp r2 k := by
  rw [e]
  exact h
theorem nI2 {a b : Int32} (h : b.toInt = a.toInt + 1) (h0 : 0 ≤ a.toInt) : b.toNatClampNeg = a.toNatClampNeg + 1 := by
  have c := clI (i := a) h0
  have d := clI (i := b) (by omega)
  omega
