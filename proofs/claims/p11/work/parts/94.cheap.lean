section
section CW
variable {x y : Nat → Nat} {c : Nat → Int} {ok : Nat → Bool} {E s P : Nat} {pi : Nat → Int} {pd pd2 : Nat → Int64} {bl bp bl2 bp2 : Nat → Int32} {rnd cu : Nat}
/-- the state of the search: what was paid lies between the least there is and the least of so many steps; chains end at s -/
noncomputable def cw (x y : Nat → Nat) (c : Nat → Int) (ok : Nat → Bool) (E s P : Nat) (pd : Nat → Int64) (bl bp : Nat → Int32) (rnd cu : Nat) : Prop :=
  (∀ v : Nat, v < P → dst x y c ok E s P v ≤ (pd v).toInt ∧ (pd v).toInt ≤ 1099511627776 ∧ (pd v).toInt ≤ dst x y c ok E s rnd v) ∧
  (∀ e : Nat, e < cu → ok e = true → dst x y c ok E s rnd (x e) < 1099511627776 → (pd (y e)).toInt ≤ dst x y c ok E s rnd (x e) + c e) ∧
  (∀ v : Nat, v < P → v ≠ s → (pd v).toInt < 1099511627776 → ∃ e : Nat, e < E ∧ ok e = true ∧ (bl v).toNatClampNeg = e / 2 ∧ (bp v).toNatClampNeg = x e ∧ y e = v ∧ (pd (x e)).toInt < 1099511627776 ∧ (pd (x e)).toInt + c e ≤ (pd v).toInt) ∧
  (∀ v : Nat, v < P → (pd v).toInt < 1099511627776 → ∃ n : Nat, rcs (pf_ bp) s n v)
theorem cw_init (hs : s < P) (h : ∀ v : Nat, v < P → (pd v).toInt = if v = s then 0 else 1099511627776) : cw x y c ok E s P pd bl bp 0 0 := by
  have e0 : ∀ v : Nat, dst x y c ok E s 0 v = if v = s then 0 else 1099511627776 := fun _ => rfl
  refine ⟨fun v hv => ?_, fun e he => absurd he (Nat.not_lt_zero _), fun v hv hn hf => ?_, fun v hv hf => ?_⟩
  · have m := dst_mono (x := x) (y := y) (c := c) (ok := ok) (E := E) (s := s) P 0 v (Nat.zero_le _)
    have i := dst_inf (x := x) (y := y) (c := c) (ok := ok) (E := E) (s := s) 0 v
    rw [h v hv, ← e0 v]
    exact ⟨m, i, Int.le_refl _⟩
  · rw [h v hv, if_neg hn] at hf
    omega
  · by_cases e : v = s
    · exact ⟨0, e⟩
    · rw [h v hv, if_neg e] at hf
      omega
theorem cw_rng (h : cw x y c ok E s P pd bl bp rnd cu) (hP : P ≤ 12) (hc : ∀ e : Nat, e < E → ok e = true → -101 ≤ c e) {v : Nat} (hv : v < P) : -1212 ≤ (pd v).toInt ∧ (pd v).toInt ≤ 1099511627776 := by
  have a := h.1 v hv
  have b := dst_lo (x := x) (y := y) (s := s) hc P v
  omega
theorem cw_skip (h : cw x y c ok E s P pd bl bp rnd cu) (hv : ok cu = true → x cu < P) (hs : ok cu = true → (pd (x cu)).toInt < 1099511627776 → (pd (y cu)).toInt ≤ (pd (x cu)).toInt + c cu) : cw x y c ok E s P pd bl bp rnd (cu + 1) := by
  refine ⟨h.1, fun e he ho hx => ?_, h.2.2⟩
  by_cases q : e = cu
  · subst q
    have a := (h.1 (x e) (hv ho)).2.2
    have b := hs ho (by omega)
    omega
  · exact h.2.1 e (by omega) ho hx
theorem cw_to (h : cw x y c ok E s P pd bl bp rnd cu) : ∀ n : Nat, (∀ e : Nat, cu ≤ e → e < cu + n → ok e = false) → cw x y c ok E s P pd bl bp rnd (cu + n)
  | 0, _ => h
  | n + 1, hn => by
    have a := cw_to h n (fun e h1 h2 => hn e h1 (by omega))
    have b := hn (cu + n) (by omega) (by omega)
    exact cw_skip a (fun q => by have z := b.symm.trans q; cases z) (fun q => by have z := b.symm.trans q; cases z)
theorem cw_relax {v : Int64} {l x1 : Int32} (h : cw x y c ok E s P pd bl bp rnd cu) (hp : ∀ e : Nat, e < E → ok e = true → pi (y e) ≤ pi (x e) + c e) (hv : ∀ e : Nat, e < E → ok e = true → x e < P ∧ y e < P) (hP : 1 ≤ P) (hE : cu < E) (ho : ok cu = true) (hx : (pd (x cu)).toInt < 1099511627776) (hlt : (pd (x cu)).toInt + c cu < (pd (y cu)).toInt)
    (e1 : pd2 = vp_updL pd (y cu) v) (ev : v.toInt = (pd (x cu)).toInt + c cu) (e2 : bl2 = upd bl (y cu) l) (el : l.toNatClampNeg = cu / 2) (e3 : bp2 = upd bp (y cu) x1) (ex : x1.toNatClampNeg = x cu) : cw x y c ok E s P pd2 bl2 bp2 rnd (cu + 1) := by
  have w := hv cu hE ho
  have pc := hp cu hE ho
  have hxy : x cu ≠ y cu := fun e => by
    rw [e] at hlt pc
    omega
  have n1 : pd2 (y cu) = v := by rw [e1]; exact pk_uLs
  have n2 : ∀ u : Nat, u ≠ y cu → pd2 u = pd u := fun u hu => by rw [e1]; exact pk_uLn hu
  have le : ∀ u : Nat, (pd2 u).toInt ≤ (pd u).toInt := fun u => by
    by_cases q : u = y cu
    · rw [q, n1]
      omega
    · rw [n2 u q]
      exact Int.le_refl _
  have a1 := h.1 (x cu) w.1
  have dx : dst x y c ok E s P (x cu) < 1099511627776 := by omega
  have dv : dst x y c ok E s P (y cu) ≤ dst x y c ok E s P (x cu) + c cu := by
    have en := dst_end (s := s) hp hv (k := P - 1) (by omega) (x cu)
    rw [show P - 1 + 1 = P by omega] at en
    have d := dst_e (x := x) (y := y) (c := c) (s := s) (k := P - 1) hE ho (by rw [← en]; exact dx)
    rw [show P - 1 + 1 = P by omega, ← en] at d
    exact d
  have a2y := h.1 (y cu) w.2
  have hys : y cu ≠ s := fun e => by
    have ps := dst_pi (s := s) hp P (y cu) (by omega)
    rw [e] at ps
    have m := dst_mono (x := x) (y := y) (c := c) (ok := ok) (E := E) (s := s) rnd 0 s (Nat.zero_le _)
    have e0 : dst x y c ok E s 0 s = 0 := if_pos rfl
    have a2 := (h.1 (y cu) w.2).2.2
    rw [e] at a2 dv hlt
    omega
  have bp1 : ∀ u : Nat, u ≠ y cu → pf_ bp2 u = pf_ bp u := fun u hu => by unfold pf_; rw [e3, pk_un hu]
  have bpy : pf_ bp2 (y cu) = x cu := by unfold pf_; rw [e3, pk_us]; exact ex
  refine ⟨fun u hu => ?_, fun e he hoe hxe => ?_, fun u hu hn hf => ?_, fun u hu hf => ?_⟩
  · have b := h.1 u hu
    have l := le u
    refine ⟨?_, by omega, by omega⟩
    by_cases q : u = y cu
    · rw [q, n1]
      omega
    · rw [n2 u q]
      exact b.1
  · by_cases q : e = cu
    · subst q
      rw [n1]
      omega
    · have b := h.2.1 e (by omega) hoe hxe
      have l := le (y e)
      omega
  · by_cases q : u = y cu
    · refine ⟨cu, hE, ho, ?_, ?_, q.symm, ?_, ?_⟩
      · rw [q, e2, pk_us]
        exact el
      · rw [q, e3, pk_us]
        exact ex
      · rw [n2 _ hxy]
        exact hx
      · rw [n2 _ hxy, q, n1]
        omega
    · rw [n2 u q] at hf ⊢
      obtain ⟨e, q1, q2, q3, q4, q5, q6, q7⟩ := h.2.2.1 u hu hn hf
      have l := le (x e)
      refine ⟨e, q1, q2, ?_, ?_, q5, by omega, by omega⟩
      · rw [e2, pk_un q]
        exact q3
      · rw [e3, pk_un q]
        exact q4
  · refine rcs_up (d := fun u => (pd u).toInt) (pi := pi) (P := P) bp1 bpy hys w.1 hx hlt pc (fun u hu2 hn2 hf2 => ?_) h.2.2.2 u hu ?_
    · obtain ⟨e, q1, q2, q3, q4, q5, q6, q7⟩ := h.2.2.1 u hu2 hn2 hf2
      have g := hp e q1 q2
      have g2 := hv e q1 q2
      have ee : pf_ bp u = x e := q4
      rw [ee]
      rw [q5] at g
      exact ⟨g2.1, q6, by omega⟩
    · by_cases q : u = y cu
      · exact Or.inr q
      · rw [n2 u q] at hf
        exact Or.inl hf
theorem cw_round (h : cw x y c ok E s P pd bl bp rnd E) : cw x y c ok E s P pd bl bp (rnd + 1) 0 := by
  refine ⟨fun v hv => ?_, fun e he => absurd he (Nat.not_lt_zero _), h.2.2⟩
  have a := h.1 v hv
  refine ⟨a.1, a.2.1, ?_⟩
  rcases Int.lt_or_le (dst x y c ok E s (rnd + 1) v) (dst x y c ok E s rnd v) with q | q
  · obtain ⟨e, he, ho, ey, hx, h2⟩ := dst_at q
    have b := h.2.1 e he ho hx
    rw [ey] at b
    omega
  · omega
/-- behind the last round -/
noncomputable def cz (x y : Nat → Nat) (c : Nat → Int) (ok : Nat → Bool) (E s P : Nat) (pd : Nat → Int64) (bl bp : Nat → Int32) : Prop :=
  (∀ e : Nat, e < E → ok e = true → (pd (x e)).toInt < 1099511627776 → (pd (y e)).toInt ≤ (pd (x e)).toInt + c e) ∧
  (∀ v : Nat, v < P → v ≠ s → (pd v).toInt < 1099511627776 → ∃ e : Nat, e < E ∧ ok e = true ∧ (bl v).toNatClampNeg = e / 2 ∧ (bp v).toNatClampNeg = x e ∧ y e = v ∧ (pd (x e)).toInt < 1099511627776 ∧ (pd (x e)).toInt + c e ≤ (pd v).toInt) ∧
  (∀ v : Nat, v < P → (pd v).toInt < 1099511627776 → ∃ n : Nat, rcs (pf_ bp) s n v) ∧ (∀ v : Nat, v < P → (pd v).toInt < 1099511627776 → (pd v).toInt ≤ 1000000 * (P : Int))
theorem cw_end (h : cw x y c ok E s P pd bl bp P 0) (hp : ∀ e : Nat, e < E → ok e = true → pi (y e) ≤ pi (x e) + c e) (hv : ∀ e : Nat, e < E → ok e = true → x e < P ∧ y e < P) (hP : 1 ≤ P) (hc : ∀ e : Nat, e < E → ok e = true → c e < 1000000) : cz x y c ok E s P pd bl bp := by
  refine ⟨fun e he ho hx => ?_, h.2.2.1, h.2.2.2, fun v hv hf => ?_⟩
  rotate_left
  · have a := h.1 v hv
    have b := dst_hi (x := x) (y := y) (s := s) hc P v (by omega)
    omega
  have w := hv e he ho
  have a := h.1 (x e) w.1
  have b := h.1 (y e) w.2
  have en := dst_end (s := s) hp hv (k := P - 1) (by omega) (x e)
  rw [show P - 1 + 1 = P by omega] at en
  have d := dst_e (x := x) (y := y) (c := c) (s := s) (k := P - 1) he ho (by rw [← en]; omega)
  rw [show P - 1 + 1 = P by omega, ← en] at d
  omega
theorem bnd (g : Nat → Int) : ∀ n : Nat, ∃ M : Int, ∀ i : Nat, i < n → g i ≤ M
  | 0 => ⟨0, fun i h => absurd h (Nat.not_lt_zero _)⟩
  | n + 1 => by
    obtain ⟨M, hM⟩ := bnd g n
    rcases Int.lt_or_le M (g n) with q | q
    · refine ⟨g n, fun i hi => ?_⟩
      by_cases e : i = n
      · subst e; exact Int.le_refl _
      · have := hM i (by omega)
        omega
    · refine ⟨M, fun i hi => ?_⟩
      by_cases e : i = n
      · subst e; exact q
      · exact hM i (by omega)
/-- what was paid, as the potential of the places -/
theorem cz_pi (h : cz x y c ok E s P pd bl bp) (hp : ∀ e : Nat, e < E → ok e = true → pi (y e) ≤ pi (x e) + c e) (hv : ∀ e : Nat, e < E → ok e = true → x e < P ∧ y e < P) (hc : ∀ e : Nat, e < E → ok e = true → c e < 1000000) (hP : P ≤ 12) : ∃ p2 : Nat → Int, (∀ e : Nat, e < E → ok e = true → p2 (y e) ≤ p2 (x e) + c e) ∧ (∀ v : Nat, (pd v).toInt < 1099511627776 → p2 v = (pd v).toInt) := by
  obtain ⟨M, hM⟩ := bnd (fun v => (pd v).toInt - pi v) P
  refine ⟨fun v => if (pd v).toInt < 1099511627776 then (pd v).toInt else pi v + M, fun e he ho => ?_, fun v hv => if_pos hv⟩
  have w := hv e he ho
  have pe := hp e he ho
  have m1 : (pd (y e)).toInt - pi (y e) ≤ M := hM (y e) w.2
  show (if (pd (y e)).toInt < 1099511627776 then (pd (y e)).toInt else pi (y e) + M) ≤ (if (pd (x e)).toInt < 1099511627776 then (pd (x e)).toInt else pi (x e) + M) + c e
  by_cases q : (pd (x e)).toInt < 1099511627776
  · rw [if_pos q]
    have d := h.1 e he ho q
    by_cases q2 : (pd (y e)).toInt < 1099511627776
    · rw [if_pos q2]
      exact d
    · exfalso
      have u := h.2.2.2 (x e) w.1 q
      have ce := hc e he ho
      omega
  · rw [if_neg q]
    by_cases q2 : (pd (y e)).toInt < 1099511627776
    · rw [if_pos q2]
      omega
    · rw [if_neg q2]
      omega
end CW
section GRAPH
variable {f5 f6 f7 f8 f9 f10 F F0 F2 : Nat → Int32} {pi : Nat → Int}
noncomputable def gx (f6 f7 : Nat → Int32) (e : Nat) : Nat := if e % 2 = 0 then (f6 (e / 2)).toNatClampNeg else (f7 (e / 2)).toNatClampNeg
noncomputable def gy (f6 f7 : Nat → Int32) (e : Nat) : Nat := if e % 2 = 0 then (f7 (e / 2)).toNatClampNeg else (f6 (e / 2)).toNatClampNeg
noncomputable def gc (f5 f8 f9 F : Nat → Int32) (e : Nat) : Int := eS f5 f8 f9 F (e / 2) (if e % 2 = 0 then 1 else 0)
noncomputable def go (f5 f8 f9 f10 F : Nat → Int32) (e : Nat) : Bool := decide ((f10 (e / 2)).toInt = 0) && decide (gc f5 f8 f9 F e < 1000000)
theorem go_iff {e : Nat} : go f5 f8 f9 f10 F e = true ↔ (f10 (e / 2)).toInt = 0 ∧ gc f5 f8 f9 F e < 1000000 := by
  unfold go
  rw [Bool.and_eq_true, decide_eq_true_iff, decide_eq_true_iff]
/-- lines that aren't missing are between two places -/
noncomputable def netE (P N : Int) (f6 f7 f10 : Nat → Int32) : Prop := ∀ j : Nat, (j : Int) < N → (f10 j).toInt = 0 → (f6 j).toInt < P ∧ (f7 j).toInt < P
theorem g_v {P N : Int32} (h : netE P.toInt N.toInt f6 f7 f10) (r6 : rng f6 40 0 11) (r7 : rng f7 40 0 11) (hN : 0 ≤ N.toInt ∧ N.toInt ≤ 40) (hP : 0 ≤ P.toInt) : ∀ e : Nat, e < 2 * N.toNatClampNeg → go f5 f8 f9 f10 F e = true → gx f6 f7 e < P.toNatClampNeg ∧ gy f6 f7 e < P.toNatClampNeg := fun e he ho => by
  have cN := clI (i := N) hN.1
  have cP := clI (i := P) hP
  have a := h (e / 2) (by omega) (go_iff.mp ho).1
  have b6 := r6 (e / 2) (by omega)
  have b7 := r7 (e / 2) (by omega)
  have c6 := clI (i := f6 (e / 2)) b6.1
  have c7 := clI (i := f7 (e / 2)) b7.1
  unfold gx gy
  by_cases q : e % 2 = 0
  · rw [if_pos q, if_pos q]
    omega
  · rw [if_neg q, if_neg q]
    omega
theorem g_c1 {N : Nat} : ∀ e : Nat, e < 2 * N → go f5 f8 f9 f10 F e = true → gc f5 f8 f9 F e < 1000000 := fun _ _ ho => (go_iff.mp ho).2
theorem gc_lo (r9 : rng f9 40 0 100) {e : Nat} (he : e / 2 < 40) : -101 ≤ gc f5 f8 f9 F e := by
  have b := r9 _ he
  have c := cst_rng (k := (f5 (e / 2)).toInt) b.1 b.2
  unfold gc eS
  by_cases q : (if e % 2 = 0 then (1 : Int) else 0) ≠ 0
  · rw [if_pos q]
    have a := stI_cs (cst (f5 (e / 2)).toInt (f9 (e / 2)).toInt) (rmI (f5 (e / 2)) (f8 (e / 2)) 0) (rmI (f5 (e / 2)) (f8 (e / 2)) 1) (F (e / 2)).toInt
    omega
  · rw [if_neg q]
    have a := stI_cs (cst (f5 (e / 2)).toInt (f9 (e / 2)).toInt) (rmI (f5 (e / 2)) (f8 (e / 2)) 1) (rmI (f5 (e / 2)) (f8 (e / 2)) 0) (-(F (e / 2)).toInt)
    omega
theorem g_c0 {N : Int32} (r9 : rng f9 40 0 100) (hN : 0 ≤ N.toInt ∧ N.toInt ≤ 40) : ∀ e : Nat, e < 2 * N.toNatClampNeg → go f5 f8 f9 f10 F e = true → -101 ≤ gc f5 f8 f9 F e := fun e he _ => by
  have cN := clI (i := N) hN.1
  exact gc_lo r9 (by omega)
/-- no place is reached for less than the places differ by -/
noncomputable def pot (f5 f6 f7 f8 f9 f10 F : Nat → Int32) (N : Nat) (pi : Nat → Int) : Prop := ∀ e : Nat, e < 2 * N → go f5 f8 f9 f10 F e = true → pi (gy f6 f7 e) ≤ pi (gx f6 f7 e) + gc f5 f8 f9 F e
noncomputable def okF (f5 f8 f9 F : Nat → Int32) : Prop := ∀ j : Nat, j < 40 → cst (f5 j).toInt (f9 j).toInt = -9 → -(rmI (f5 j) (f8 j) 0) ≤ (F j).toInt ∧ (F j).toInt ≤ rmI (f5 j) (f8 j) 1
theorem pot_zero {N : Nat} (r8 : rng f8 40 0 2000) (r9 : rng f9 40 0 100) (hN : N ≤ 40) (h : ∀ j : Nat, j < 40 → (F j).toInt = 0) : pot f5 f6 f7 f8 f9 f10 F N (fun _ => 0) ∧ okF f5 f8 f9 F := by
  refine ⟨fun e he _ => ?_, fun j hj _ => ?_⟩
  · have z := h (e / 2) (by omega)
    have b := r9 (e / 2) (by omega)
    have c := cst_rng (k := (f5 (e / 2)).toInt) b.1 b.2
    have b8 := r8 (e / 2) (by omega)
    have w1 := rmI_rng (k := f5 (e / 2)) (b := 1) b8.1 b8.2
    have w0 := rmI_rng (k := f5 (e / 2)) (b := 0) b8.1 b8.2
    show (0 : Int) ≤ 0 + gc f5 f8 f9 F e
    unfold gc eS
    rw [z]
    by_cases q : (if e % 2 = 0 then (1 : Int) else 0) ≠ 0
    · rw [if_pos q]
      have a := stI_cs (cst (f5 (e / 2)).toInt (f9 (e / 2)).toInt) (rmI (f5 (e / 2)) (f8 (e / 2)) 0) (rmI (f5 (e / 2)) (f8 (e / 2)) 1) 0
      omega
    · rw [if_neg q]
      have a := stI_cs (cst (f5 (e / 2)).toInt (f9 (e / 2)).toInt) (rmI (f5 (e / 2)) (f8 (e / 2)) 1) (rmI (f5 (e / 2)) (f8 (e / 2)) 0) (-0)
      omega
  · have z := h j hj
    have b8 := r8 j hj
    have w1 := rmI_rng (k := f5 j) (b := 1) b8.1 b8.2
    have w0 := rmI_rng (k := f5 j) (b := 0) b8.1 b8.2
    omega
theorem gc_cg {e : Nat} (h : F2 (e / 2) = F (e / 2)) : gc f5 f8 f9 F2 e = gc f5 f8 f9 F e := by
  unfold gc eS
  rw [h]
theorem gpush {N e : Nat} {l v : Int32} {n : Int} (r8 : rng f8 40 0 2000) (r9 : rng f9 40 0 100) (hN : N ≤ 40) (e2 : F2 = upd F l.toNatClampNeg v) (he : e < 2 * N) (el : l.toNatClampNeg = e / 2) (ho : go f5 f8 f9 f10 F e = true) (hn : 1 ≤ n)
    (hna : n ≤ eA f5 f8 F (e / 2) (if e % 2 = 0 then 1 else 0)) (hv : v.toInt = (F (e / 2)).toInt + (if e % 2 = 0 then n else -n)) (ht : pi (gy f6 f7 e) = pi (gx f6 f7 e) + gc f5 f8 f9 F e) (hp : pot f5 f6 f7 f8 f9 f10 F N pi) (hk : okF f5 f8 f9 F) : pot f5 f6 f7 f8 f9 f10 F2 N pi ∧ okF f5 f8 f9 F2 := by
  have n1 : F2 (e / 2) = v := by rw [e2, el]; exact pk_us
  have n2 : ∀ j : Nat, j ≠ e / 2 → F2 j = F j := fun j hj => by rw [e2, el]; exact pk_un hj
  have b := r9 (e / 2) (by omega)
  have c := cst_rng (k := (f5 (e / 2)).toInt) b.1 b.2
  have b8 := r8 (e / 2) (by omega)
  have w1 := rmI_rng (k := f5 (e / 2)) (b := 1) b8.1 b8.2
  have w0 := rmI_rng (k := f5 (e / 2)) (b := 0) b8.1 b8.2
  have ok1 := hk (e / 2) (by omega)
  have lt := (go_iff.mp ho).2
  by_cases q : e % 2 = 0
  · have gcf : ∀ G : Nat → Int32, gc f5 f8 f9 G e = stI (cst (f5 (e / 2)).toInt (f9 (e / 2)).toInt) (rmI (f5 (e / 2)) (f8 (e / 2)) 0) (rmI (f5 (e / 2)) (f8 (e / 2)) 1) (G (e / 2)).toInt := fun G => by
      unfold gc eS
      rw [if_pos q, if_pos (by decide)]
    have am : eA f5 f8 F (e / 2) (if e % 2 = 0 then 1 else 0) = amI (rmI (f5 (e / 2)) (f8 (e / 2)) 0) (rmI (f5 (e / 2)) (f8 (e / 2)) 1) (F (e / 2)).toInt := by
      unfold eA
      rw [if_pos q, if_pos (by decide)]
    rw [am] at hna
    rw [if_pos q] at hv
    rw [gcf F] at lt
    have sp := st_push (d := gc f5 f8 f9 F e) c w0.1 w1.1 (gcf F) lt hn hna ok1
    rw [← hv, ← n1] at sp
    refine ⟨fun e9 h9 o9 => ?_, fun j hj hc => ?_⟩
    · by_cases s9 : e9 / 2 = e / 2
      · by_cases q9 : e9 % 2 = 0
        · obtain rfl : e9 = e := by omega
          have := sp.1 (by rw [← gcf F2]; exact (go_iff.mp o9).2)
          rw [gcf F2]
          omega
        · have ex : gx f6 f7 e9 = gy f6 f7 e := by unfold gx gy; rw [if_neg q9, if_pos q, s9]
          have ey : gy f6 f7 e9 = gx f6 f7 e := by unfold gx gy; rw [if_neg q9, if_pos q, s9]
          have g9 : gc f5 f8 f9 F2 e9 = stI (cst (f5 (e / 2)).toInt (f9 (e / 2)).toInt) (rmI (f5 (e / 2)) (f8 (e / 2)) 1) (rmI (f5 (e / 2)) (f8 (e / 2)) 0) (-(F2 (e / 2)).toInt) := by
            unfold gc eS
            rw [if_neg q9, if_neg (by decide), s9]
          have o2 := (go_iff.mp o9).2
          rw [g9] at o2 ⊢
          have := sp.2.1 o2
          rw [ex, ey]
          omega
      · have cg := gc_cg (f5 := f5) (f8 := f8) (f9 := f9) (n2 (e9 / 2) s9)
        rw [cg]
        exact hp e9 h9 (by
          have o2 := go_iff.mp o9
          rw [cg] at o2
          exact go_iff.mpr o2)
    · by_cases s9 : j = e / 2
      · subst s9
        exact sp.2.2 hc
      · rw [n2 j s9]
        exact hk j hj hc
  · have gcf : ∀ G : Nat → Int32, gc f5 f8 f9 G e = stI (cst (f5 (e / 2)).toInt (f9 (e / 2)).toInt) (rmI (f5 (e / 2)) (f8 (e / 2)) 1) (rmI (f5 (e / 2)) (f8 (e / 2)) 0) (-(G (e / 2)).toInt) := fun G => by
      unfold gc eS
      rw [if_neg q, if_neg (by decide)]
    have am : eA f5 f8 F (e / 2) (if e % 2 = 0 then 1 else 0) = amI (rmI (f5 (e / 2)) (f8 (e / 2)) 1) (rmI (f5 (e / 2)) (f8 (e / 2)) 0) (-(F (e / 2)).toInt) := by
      unfold eA
      rw [if_neg q, if_neg (by decide)]
    rw [am] at hna
    rw [if_neg q] at hv
    rw [gcf F] at lt
    have sp := st_push (d := gc f5 f8 f9 F e) c w1.1 w0.1 (gcf F) lt hn hna (fun h => by have := ok1 h; omega)
    rw [show -(F (e / 2)).toInt + n = -(F2 (e / 2)).toInt by rw [n1]; omega, show - -(F2 (e / 2)).toInt = (F2 (e / 2)).toInt by omega] at sp
    refine ⟨fun e9 h9 o9 => ?_, fun j hj hc => ?_⟩
    · by_cases s9 : e9 / 2 = e / 2
      · by_cases q9 : e9 % 2 = 0
        · have ex : gx f6 f7 e9 = gy f6 f7 e := by unfold gx gy; rw [if_pos q9, if_neg q, s9]
          have ey : gy f6 f7 e9 = gx f6 f7 e := by unfold gx gy; rw [if_pos q9, if_neg q, s9]
          have g9 : gc f5 f8 f9 F2 e9 = stI (cst (f5 (e / 2)).toInt (f9 (e / 2)).toInt) (rmI (f5 (e / 2)) (f8 (e / 2)) 0) (rmI (f5 (e / 2)) (f8 (e / 2)) 1) (F2 (e / 2)).toInt := by
            unfold gc eS
            rw [if_pos q9, if_pos (by decide), s9]
          have o2 := (go_iff.mp o9).2
          rw [g9] at o2 ⊢
          have := sp.2.1 o2
          rw [ex, ey]
          omega
        · obtain rfl : e9 = e := by omega
          have := sp.1 (by rw [← gcf F2]; exact (go_iff.mp o9).2)
          rw [gcf F2]
          omega
      · have cg := gc_cg (f5 := f5) (f8 := f8) (f9 := f9) (n2 (e9 / 2) s9)
        rw [cg]
        exact hp e9 h9 (by
          have o2 := go_iff.mp o9
          rw [cg] at o2
          exact go_iff.mpr o2)
    · by_cases s9 : j = e / 2
      · subst s9
        have := sp.2.2 hc
        omega
      · rw [n2 j s9]
        exact hk j hj hc
noncomputable def dirI (a b : Int) : Int := if a = b then 1 else 0
noncomputable def amtI (f5 f6 f8 F bl bp : Nat → Int32) (v : Nat) : Int := eA f5 f8 F (bl v).toNatClampNeg (dirI (f6 (bl v).toNatClampNeg).toInt (bp v).toInt)
variable {bl bp : Nat → Int32} {pd : Nat → Int64} {s t P N R : Nat}
theorem ch_fin {x y : Nat → Nat} {c : Nat → Int} {ok : Nat → Bool} {E : Nat} (hz : cz x y c ok E s P pd bl bp) (hv : ∀ e : Nat, e < E → ok e = true → x e < P ∧ y e < P) (ht : t < P) (hf : (pd t).toInt < 1099511627776) (hR : rcs (pf_ bp) s R t) : ∀ i : Nat, i ≤ R → itr (pf_ bp) i t < P ∧ (pd (itr (pf_ bp) i t)).toInt < 1099511627776
  | 0, _ => ⟨ht, hf⟩
  | i + 1, hi => by
    have a := ch_fin hz hv ht hf hR i (by omega)
    have r := rcs_itr hR i (by omega)
    rw [show R - i = (R - i - 1) + 1 by omega] at r
    obtain ⟨e, q1, q2, q3, q4, q5, q6, q7⟩ := hz.2.1 _ a.1 r.1 a.2
    have w := hv e q1 q2
    have ee : itr (pf_ bp) (i + 1) t = x e := q4
    rw [ee]
    exact ⟨w.1, q6⟩
theorem ch_e {x y : Nat → Nat} {c : Nat → Int} {ok : Nat → Bool} {E : Nat} (hz : cz x y c ok E s P pd bl bp) (hv : ∀ e : Nat, e < E → ok e = true → x e < P ∧ y e < P) (ht : t < P) (hf : (pd t).toInt < 1099511627776) (hR : rcs (pf_ bp) s R t) {i : Nat} (hi : i < R) : ∃ e : Nat, e < E ∧ ok e = true ∧ (bl (itr (pf_ bp) i t)).toNatClampNeg = e / 2 ∧ itr (pf_ bp) (i + 1) t = x e ∧ itr (pf_ bp) i t = y e ∧ (pd (x e)).toInt < 1099511627776 ∧ (pd (y e)).toInt = (pd (x e)).toInt + c e := by
  have a := ch_fin hz hv ht hf hR i (by omega)
  have r := rcs_itr hR i (by omega)
  rw [show R - i = (R - i - 1) + 1 by omega] at r
  obtain ⟨e, q1, q2, q3, q4, q5, q6, q7⟩ := hz.2.1 _ a.1 r.1 a.2
  have d := hz.1 e q1 q2 q6
  rw [q5] at d
  refine ⟨e, q1, q2, q3, q4, q5.symm, q6, ?_⟩
  rw [q5]
  omega
theorem ch_inj (hR : rcs (pf_ bp) s R t) {i j : Nat} (hi : i ≤ R) (hj : j ≤ R) (h : itr (pf_ bp) i t = itr (pf_ bp) j t) : i = j := by
  have a := rcs_itr hR i hi
  have b := rcs_itr hR j hj
  rw [h] at a
  have := rcs_un _ _ _ a b
  omega
theorem ch_line {c : Nat → Int} {ok : Nat → Bool} {E : Nat} (hz : cz (gx f6 f7) (gy f6 f7) c ok E s P pd bl bp) (hv : ∀ e : Nat, e < E → ok e = true → gx f6 f7 e < P ∧ gy f6 f7 e < P) (ht : t < P) (hf : (pd t).toInt < 1099511627776) (hR : rcs (pf_ bp) s R t) {i j : Nat} (hij : i < j) (hj : j < R) : (bl (itr (pf_ bp) i t)).toNatClampNeg ≠ (bl (itr (pf_ bp) j t)).toNatClampNeg := fun h => by
  obtain ⟨e, _, _, a3, a4, a5, _, _⟩ := ch_e hz hv ht hf hR (i := i) (by omega)
  obtain ⟨g, _, _, b3, b4, b5, _, _⟩ := ch_e hz hv ht hf hR hj
  rw [a3, b3] at h
  by_cases q : e % 2 = g % 2
  · obtain rfl : e = g := by omega
    have := ch_inj hR (by omega) (by omega) (a5.trans b5.symm)
    omega
  · have e1 : gx f6 f7 e = gy f6 f7 g := by
      unfold gx gy
      by_cases z : e % 2 = 0
      · rw [if_pos z, if_neg (by omega), h]
      · rw [if_neg z, if_pos (by omega), h]
    have e2 : gy f6 f7 e = gx f6 f7 g := by
      unfold gx gy
      by_cases z : e % 2 = 0
      · rw [if_pos z, if_neg (by omega), h]
      · rw [if_neg z, if_pos (by omega), h]
    have i1 := ch_inj hR (i := i + 1) (j := j) (by omega) (by omega) ((a4.trans e1).trans b5.symm)
    have i2 := ch_inj hR (i := i) (j := j + 1) (by omega) (by omega) ((a5.trans e2).trans b4.symm)
    omega
theorem ch_push {i : Nat} {l v y1 : Int32} {n B : Int} (r6 : rng f6 40 0 11) (r7 : rng f7 40 0 11) (r8 : rng f8 40 0 2000) (r9 : rng f9 40 0 100) (rp : rng bp 12 0 11) (hP12 : P ≤ 12) (hN : N ≤ 40) (hz : cz (gx f6 f7) (gy f6 f7) (gc f5 f8 f9 F0) (go f5 f8 f9 f10 F0) (2 * N) s P pd bl bp) (hv : ∀ e : Nat, e < 2 * N → go f5 f8 f9 f10 F0 e = true → gx f6 f7 e < P ∧ gy f6 f7 e < P)
    (ht : t < P) (hf : (pd t).toInt < 1099511627776) (hR : rcs (pf_ bp) s R t) (hpi : ∀ v : Nat, (pd v).toInt < 1099511627776 → pi v = (pd v).toInt) (hi : i < R) (hy : y1.toNatClampNeg = itr (pf_ bp) i t) (el : l = bl y1.toNatClampNeg) (e2 : F2 = upd F l.toNatClampNeg v)
    (hvv : v.toInt = (F l.toNatClampNeg).toInt + (if (f6 l.toNatClampNeg).toInt = (bp y1.toNatClampNeg).toInt then n else -n)) (hn : 1 ≤ n) (hna : ∀ k : Nat, k < R → n ≤ amtI f5 f6 f8 F0 bl bp (itr (pf_ bp) k t))
    (hun : ∀ k : Nat, i ≤ k → k < R → F (bl (itr (pf_ bp) k t)).toNatClampNeg = F0 (bl (itr (pf_ bp) k t)).toNatClampNeg) (hp : pot f5 f6 f7 f8 f9 f10 F N pi) (hk : okF f5 f8 f9 F) (hb : ∀ j : Nat, j < 40 → -(B + n) ≤ (F j).toInt ∧ (F j).toInt ≤ B + n) (hb0 : ∀ j : Nat, j < 40 → -B ≤ (F0 j).toInt ∧ (F0 j).toInt ≤ B) :
    pot f5 f6 f7 f8 f9 f10 F2 N pi ∧ okF f5 f8 f9 F2 ∧ (∀ j : Nat, j < 40 → -(B + n) ≤ (F2 j).toInt ∧ (F2 j).toInt ≤ B + n) ∧ (∀ k : Nat, i + 1 ≤ k → k < R → F2 (bl (itr (pf_ bp) k t)).toNatClampNeg = F0 (bl (itr (pf_ bp) k t)).toNatClampNeg) := by
  obtain ⟨e, q1, q2, q3, q4, q5, q6, q7⟩ := ch_e hz hv ht hf hR hi
  have un := hun i (Nat.le_refl _) hi
  have am := hna i hi
  have w := hv e q1 q2
  rw [← hy] at un am q3 q5
  rw [← el] at un q3
  have q4b : pf_ bp y1.toNatClampNeg = gx f6 f7 e := by rw [hy]; exact q4
  have hyP : y1.toNatClampNeg < 12 := by omega
  have bpr := rp _ hyP
  have cb := clI (i := bp y1.toNatClampNeg) bpr.1
  have b6 := r6 (e / 2) (by omega)
  have c6 := clI (i := f6 (e / 2)) b6.1
  have b7 := r7 (e / 2) (by omega)
  have c7 := clI (i := f7 (e / 2)) b7.1
  have q4c : (bp y1.toNatClampNeg).toNatClampNeg = gx f6 f7 e := q4b
  have hne : gx f6 f7 e ≠ gy f6 f7 e := fun h => by
    have := ch_inj hR (i := i + 1) (j := i) (by omega) (by omega) (by rw [q4, h, ← q5, hy])
    omega
  have dir : (f6 (e / 2)).toInt = (bp y1.toNatClampNeg).toInt ↔ e % 2 = 0 := by
    unfold gx at q4c
    unfold gx gy at hne
    by_cases z : e % 2 = 0
    · rw [if_pos z] at q4c
      exact ⟨fun _ => z, fun _ => by omega⟩
    · rw [if_neg z] at q4c
      rw [if_neg z, if_neg z] at hne
      exact ⟨fun h => by omega, fun h => absurd h z⟩
  have amv : amtI f5 f6 f8 F0 bl bp y1.toNatClampNeg = eA f5 f8 F (e / 2) (if e % 2 = 0 then 1 else 0) := by
    unfold amtI
    rw [← el, q3]
    have d2 : dirI (f6 (e / 2)).toInt (bp y1.toNatClampNeg).toInt = if e % 2 = 0 then 1 else 0 := by
      unfold dirI
      by_cases z : e % 2 = 0
      · rw [if_pos z, if_pos (dir.mpr z)]
      · rw [if_neg z, if_neg (fun h => z (dir.mp h))]
    rw [d2]
    unfold eA
    rw [← q3, un]
  rw [amv] at am
  have un2 : F (e / 2) = F0 (e / 2) := by rw [← q3]; exact un
  have cg := gc_cg (f5 := f5) (f8 := f8) (f9 := f9) un2
  have ho : go f5 f8 f9 f10 F e = true := by
    have o2 := go_iff.mp q2
    rw [← cg] at o2
    exact go_iff.mpr o2
  have hv2 : v.toInt = (F (e / 2)).toInt + (if e % 2 = 0 then n else -n) := by
    rw [q3] at hvv
    rw [hvv]
    by_cases z : e % 2 = 0
    · rw [if_pos z, if_pos (dir.mpr z)]
    · rw [if_neg z, if_neg (fun h => z (dir.mp h))]
  have fy : (pd (gy f6 f7 e)).toInt < 1099511627776 := by
    have := (ch_fin hz hv ht hf hR i (by omega)).2
    rw [← hy, q5] at this
    exact this
  have tight : pi (gy f6 f7 e) = pi (gx f6 f7 e) + gc f5 f8 f9 F e := by
    rw [hpi _ fy, hpi _ q6, cg]
    exact q7
  have g := gpush r8 r9 hN e2 q1 q3 ho hn am hv2 tight hp hk
  refine ⟨g.1, g.2, fun j hj => ?_, fun k k1 k2 => ?_⟩
  · by_cases z : j = l.toNatClampNeg
    · rw [e2, z, pk_us, hv2, un2]
      have h0 := hb0 (e / 2) (by omega)
      split <;> omega
    · rw [e2, pk_un z]
      exact hb j hj
  · have ne := ch_line hz hv ht hf hR (i := i) (j := k) (by omega) k2
    rw [← hy, ← el] at ne
    rw [e2, pk_un (fun h => ne h.symm)]
    exact hun k (by omega) k2
end GRAPH
theorem gc_0 {f5 f8 f9 F : Nat → Int32} {j : Nat} : gc f5 f8 f9 F (2 * j + (0 : Int32).toNatClampNeg) = eS f5 f8 f9 F j (1 : Int32).toInt := by
  unfold gc
  rw [cl_0, Nat.add_zero, Nat.mul_div_cancel_left j (by decide), if_pos (Nat.mul_mod_right 2 j)]
  rfl
theorem gc_1 {f5 f8 f9 F : Nat → Int32} {j : Nat} : gc f5 f8 f9 F (2 * j + (1 : Int32).toNatClampNeg) = eS f5 f8 f9 F j (0 : Int32).toInt := by
  unfold gc
  rw [cl_1, show (2 * j + 1) / 2 = j by omega, if_neg (by omega)]
  rfl
theorem gx_0 {f6 f7 : Nat → Int32} {j : Nat} : gx f6 f7 (2 * j + (0 : Int32).toNatClampNeg) = (f6 j).toNatClampNeg ∧ gy f6 f7 (2 * j + (0 : Int32).toNatClampNeg) = (f7 j).toNatClampNeg := by
  unfold gx gy
  rw [cl_0, Nat.add_zero, Nat.mul_div_cancel_left j (by decide), if_pos (Nat.mul_mod_right 2 j), if_pos (Nat.mul_mod_right 2 j)]
  exact ⟨rfl, rfl⟩
theorem gx_1 {f6 f7 : Nat → Int32} {j : Nat} : gx f6 f7 (2 * j + (1 : Int32).toNatClampNeg) = (f7 j).toNatClampNeg ∧ gy f6 f7 (2 * j + (1 : Int32).toNatClampNeg) = (f6 j).toNatClampNeg := by
  unfold gx gy
  rw [cl_1, show (2 * j + 1) / 2 = j by omega, if_neg (by omega), if_neg (by omega)]
  exact ⟨rfl, rfl⟩
theorem go_at {f5 f8 f9 f10 F : Nat → Int32} {j : Nat} {b : Int32} {r : Int} (hb : b.toInt = 0 ∨ b.toInt = 1) (h0 : (f10 j).toInt = 0) (hr : r = gc f5 f8 f9 F (2 * j + b.toNatClampNeg)) (hlt : r < 1000000) : go f5 f8 f9 f10 F (2 * j + b.toNatClampNeg) = true := by
  have c := clI (i := b) (by omega)
  refine go_iff.mpr ⟨?_, by omega⟩
  rw [show (2 * j + b.toNatClampNeg) / 2 = j by omega]
  exact h0
theorem go_miss {f5 f8 f9 f10 F : Nat → Int32} {j e : Nat} (h0 : (f10 j).toInt ≠ 0) (he : e / 2 = j) : go f5 f8 f9 f10 F e = false := by
  cases h : go f5 f8 f9 f10 F e with
  | false => rfl
  | true =>
    have a := (go_iff.mp h).1
    rw [he] at a
    exact absurd a h0
theorem pd_st {s : Nat} {pd pd2 : Nat → Int64} {i i2 : Int32} {v : Int64} (e : pd2 = vp_updL pd i.toNatClampNeg v) (hv : v.toInt = if i.toNatClampNeg = s then 0 else 1099511627776) (h : ∀ w : Nat, (w : Int) < i.toInt → (pd w).toInt = if w = s then 0 else 1099511627776) (h0 : 0 ≤ i.toInt) (ei : i2.toInt = i.toInt + 1) : ∀ w : Nat, (w : Int) < i2.toInt → (pd2 w).toInt = if w = s then 0 else 1099511627776 := fun w hw => by
  have c := clI (i := i) h0
  rw [e]
  by_cases q : w = i.toNatClampNeg
  · rw [q, pk_uLs]
    exact hv
  · rw [pk_uLn q]
    exact h w (by omega)
theorem cw_nx {x y : Nat → Nat} {c : Nat → Int} {ok : Nat → Bool} {E s P : Nat} {pd : Nat → Int64} {bl bp : Nat → Int32} {rnd k k2 : Nat} (h : cw x y c ok E s P pd bl bp rnd k) (e : k2 = k) : cw x y c ok E s P pd bl bp rnd k2 := by
  rw [e]
  exact h
theorem cw_rd {x y : Nat → Nat} {c : Nat → Int} {ok : Nat → Bool} {E s P : Nat} {pd : Nat → Int64} {bl bp : Nat → Int32} {rnd r2 k : Nat} (h : cw x y c ok E s P pd bl bp rnd k) (ek : k = E) (e : r2 = rnd + 1) : cw x y c ok E s P pd bl bp r2 0 := by
  rw [e]
  rw [ek] at h
  exact cw_round h
theorem cw_r2 {x y : Nat → Nat} {c : Nat → Int} {ok : Nat → Bool} {E s P : Nat} {pd : Nat → Int64} {bl bp : Nat → Int32} {rnd r2 k : Nat} (h : cw x y c ok E s P pd bl bp rnd k) (e : r2 = rnd) : cw x y c ok E s P pd bl bp r2 k := by
  rw [e]
  exact h
theorem nI2 {a b : Int32} (h : b.toInt = a.toInt + 1) (h0 : 0 ≤ a.toInt) : b.toNatClampNeg = a.toNatClampNeg + 1 := by
  have c := clI (i := a) h0
  have d := clI (i := b) (by omega)
  omega
end

section
set_option maxHeartbeats 4000000 in
set_option maxRecDepth 100000 in
theorem c_X12_cheapWay (l : Launch) (D : va_G) (cy : Nat → ClassId) (sz : Nat) (mo : Nat) (g5 : Nat) (g6 : Nat) (g7 : Nat) (g8 : Nat) (g9 : Nat) (g10 : Nat) (g12 : Nat) (g13 : Nat) (g14 : Nat) (g15 : Nat) (g16 : Nat) (g17 : Nat) (g18 : Nat) (g19 : Nat) (g20 : Nat) (g22 : Nat) (g23 : Nat) (g24 : Nat) (g29 : Nat) (g30 : Nat) (g31 : Nat) (g32 : Nat) (g33 : Nat) (s0 : Int32) (s1 : Int32) (s3 : Int32) (s4 : Int32) (s11 : Int32) (s21 : Int32) (s25 : Int32) (s26 : Int32) (s27 : Int32) (s28 : Int32) (t2 : Int64) (f5 : Nat → Int32) (f6 : Nat → Int32) (f7 : Nat → Int32) (f8 : Nat → Int32) (f9 : Nat → Int32) (f10 : Nat → Int32) (f22 : Nat → Int32) (f29 : Nat → Int64) (f30 : Nat → Int32) (f31 : Nat → Int32) (pi : Nat → Int) (a1 : Int32) (a2 : Int32) (hN : 0 ≤ s4.toInt ∧ s4.toInt ≤ 40) (hPl : 0 ≤ s3.toInt ∧ s3.toInt ≤ 12) (h21 : s21.toInt = -9) (hnet : netE s3.toInt s4.toInt f6 f7 f10) (hfa : ∀ j : Nat, j < 40 → -1000 ≤ (f22 j).toInt ∧ (f22 j).toInt ≤ 1000) (hpot : pot f5 f6 f7 f8 f9 f10 f22 s4.toNatClampNeg pi) (q1 : 0 ≤ a1.toInt ∧ a1.toInt < s3.toInt) (q2 : 0 ≤ a2.toInt ∧ a2.toInt < s3.toInt) (r_f6 : rng f6 40 (0) (11)) (r_f7 : rng f7 40 (0) (11)) (r_f8 : rng f8 40 (0) (2000)) (r_f9 : rng f9 40 (0) (100)) (r_f30 : rng f30 12 (0) (39)) (r_f31 : rng f31 12 (0) (11)) : Met l yX12_cheapWay wsX12_cheapWay ({ frames := 3, cells := 0, slots := 0, locals := 72 }) (va_Pc [.ref mo, .int a1, .int a2] (fun U => U.heap.size = sz ∧ va_P D vwCl [ob12_0_ mo s0 s1 t2 s3 s4 g5 g6 g7 g8 g9 g10 s11 g12 g13 g14 g15 g16 g17 g18 g19 g20 s21 g22 g23 g24 s25 s26 s27 s28 g29 g30 g31 g32 g33, ai_ cy g5 40 f5, ai_ cy g6 40 f6, ai_ cy g7 40 f7, ai_ cy g8 40 f8, ai_ cy g9 40 f9, az_ cy g10 40 f10, ai_ cy g22 40 f22, aj_ cy g29 12 f29, ai_ cy g30 12 f30, ai_ cy g31 12 f31] U.heap ∧ kk_ D cy U ∧ va_D (fun _ => True) [ob12_0_ mo s0 s1 t2 s3 s4 g5 g6 g7 g8 g9 g10 s11 g12 g13 g14 g15 g16 g17 g18 g19 g20 s21 g22 g23 g24 s25 s26 s27 s28 g29 g30 g31 g32 g33, ai_ cy g5 40 f5, ai_ cy g6 40 f6, ai_ cy g7 40 f7, ai_ cy g8 40 f8, ai_ cy g9 40 f9, az_ cy g10 40 f10, ai_ cy g22 40 f22, aj_ cy g29 12 f29, ai_ cy g30 12 f30, ai_ cy g31 12 f31])) (va_Qi (fun (r : Int32) (u : Int32) => u = r ∧ ((((0 : Int) ≤ 0) ∧ r = 0) ∨ (((0 : Int) ≤ 0) ∧ r = 1))) (fun (u : Int32) (t : State) => ∃ (e29 : Nat → Int64), ∃ (e30 : Nat → Int32), ∃ (e31 : Nat → Int32), (u = 1 → cz (gx f6 f7) (gy f6 f7) (gc f5 f8 f9 f22) (go f5 f8 f9 f10 f22) (2 * s4.toNatClampNeg) a1.toNatClampNeg s3.toNatClampNeg e29 e30 e31 ∧ (e29 a2.toNatClampNeg).toInt < 1099511627776) ∧ (rng e30 12 (0) (39)) ∧ (rng e31 12 (0) (11)) ∧ va_P D vwCl [ob12_0_ mo s0 s1 t2 s3 s4 g5 g6 g7 g8 g9 g10 s11 g12 g13 g14 g15 g16 g17 g18 g19 g20 s21 g22 g23 g24 s25 s26 s27 s28 g29 g30 g31 g32 g33, ai_ cy g5 40 f5, ai_ cy g6 40 f6, ai_ cy g7 40 f7, ai_ cy g8 40 f8, ai_ cy g9 40 f9, az_ cy g10 40 f10, ai_ cy g22 40 f22, aj_ cy g29 12 e29, ai_ cy g30 12 e30, ai_ cy g31 12 e31] t.heap ∧ va_D (va_A [ob12_0_ mo s0 s1 t2 s3 s4 g5 g6 g7 g8 g9 g10 s11 g12 g13 g14 g15 g16 g17 g18 g19 g20 s21 g22 g23 g24 s25 s26 s27 s28 g29 g30 g31 g32 g33, ai_ cy g5 40 f5, ai_ cy g6 40 f6, ai_ cy g7 40 f7, ai_ cy g8 40 f8, ai_ cy g9 40 f9, az_ cy g10 40 f10, ai_ cy g22 40 f22, aj_ cy g29 12 f29, ai_ cy g30 12 f30, ai_ cy g31 12 f31] sz) [ob12_0_ mo s0 s1 t2 s3 s4 g5 g6 g7 g8 g9 g10 s11 g12 g13 g14 g15 g16 g17 g18 g19 g20 s21 g22 g23 g24 s25 s26 s27 s28 g29 g30 g31 g32 g33, ai_ cy g5 40 f5, ai_ cy g6 40 f6, ai_ cy g7 40 f7, ai_ cy g8 40 f8, ai_ cy g9 40 f9, az_ cy g10 40 f10, ai_ cy g22 40 f22, aj_ cy g29 12 e29, ai_ cy g30 12 e30, ai_ cy g31 12 e31]) (va_A [ob12_0_ mo s0 s1 t2 s3 s4 g5 g6 g7 g8 g9 g10 s11 g12 g13 g14 g15 g16 g17 g18 g19 g20 s21 g22 g23 g24 s25 s26 s27 s28 g29 g30 g31 g32 g33, ai_ cy g5 40 f5, ai_ cy g6 40 f6, ai_ cy g7 40 f7, ai_ cy g8 40 f8, ai_ cy g9 40 f9, az_ cy g10 40 f10, ai_ cy g22 40 f22, aj_ cy g29 12 f29, ai_ cy g30 12 f30, ai_ cy g31 12 f31] sz)) 0 0 (va_A [ob12_0_ mo s0 s1 t2 s3 s4 g5 g6 g7 g8 g9 g10 s11 g12 g13 g14 g15 g16 g17 g18 g19 g20 s21 g22 g23 g24 s25 s26 s27 s28 g29 g30 g31 g32 g33, ai_ cy g5 40 f5, ai_ cy g6 40 f6, ai_ cy g7 40 f7, ai_ cy g8 40 f8, ai_ cy g9 40 f9, az_ cy g10 40 f10, ai_ cy g22 40 f22, aj_ cy g29 12 f29, ai_ cy g30 12 f30, ai_ cy g31 12 f31] sz) := by
  refine ofQ (cc := cX12_cheapWay) (maxL := 10) (ret := (some .boolean)) (by decide) rfl ?_
  intro p e s m args below meth c s₁ Q hQ B hml hv
  obtain ⟨rfl, hsz, hP, hK, hD0⟩ := hv
  have hx := B.exec
  have hb := B.bytes
  have hr := B.returns
  have hts := atoms_spec (ws := wsX12_cheapWay) B.pre
  have hown : s.vm.findClass RX12 = some m.cls := by have h_ := findClass_of_methodNamed B.named; exact h_
  have hlocks := B.notSynchronized
  subst hsz
  have hD := hD0.self (sz := s.heap.size)
  generalize hAe : va_A [ob12_0_ mo s0 s1 t2 s3 s4 g5 g6 g7 g8 g9 g10 s11 g12 g13 g14 g15 g16 g17 g18 g19 g20 s21 g22 g23 g24 s25 s26 s27 s28 g29 g30 g31 g32 g33, ai_ cy g5 40 f5, ai_ cy g6 40 f6, ai_ cy g7 40 f7, ai_ cy g8 40 f8, ai_ cy g9 40 f9, az_ cy g10 40 f10, ai_ cy g22 40 f22, aj_ cy g29 12 f29, ai_ cy g30 12 f30, ai_ cy g31 12 f31] s.heap.size = A at hD hQ
  have hA : ∀ q : Nat, s.heap.size ≤ q → A q := fun q h => by rw [← hAe]; exact Or.inr h
  have hS : va_S A s.heap s.heap [] := va_S.rf
  have hl := lv_entry ([.ref mo, .int a1, .int a2]) (n := 10) (Nat.le_of_ble_eq_true rfl)
  rw [lg_entry_eq]
  generalize (lg_sl ([.ref mo, .int a1, .int a2]) ++ List.replicate (10 - (lg_sl ([.ref mo, .int a1, .int a2])).length) Slot.unset).toArray = ls at hl ⊢
  have hl : lv_has ls 10 [(0, .ref mo), (1, .int a1), (2, .int a2)] := hl
  have z0 : (0 : Int32).toInt = 0 := by decide
  have zl0 : (0 : Int64).toInt = 0 := by decide
  have z1 : (1 : Int32).toInt = 1 := by decide
  have z2 : (2 : Int32).toInt = 2 := by decide
  have zl1000000 : (1000000 : Int64).toInt = 1000000 := by decide
  have zl1099511627776 : (1099511627776 : Int64).toInt = 1099511627776 := by decide
  have cP := clI (i := s3) (by omega)
  have cN := clI (i := s4) (by omega)
  have c1 := clI (i := a1) (by omega)
  have c2 := clI (i := a2) (by omega)
  have hgv := g_v (f5 := f5) (f8 := f8) (f9 := f9) (F := f22) hnet r_f6 r_f7 hN (by omega)
  have hgc := g_c0 (f5 := f5) (f8 := f8) (f10 := f10) (F := f22) r_f9 hN
  have hPi : ∀ e : Nat, e < 2 * s4.toNatClampNeg → go f5 f8 f9 f10 f22 e = true → pi (gy f6 f7 e) ≤ pi (gx f6 f7 e) + gc f5 f8 f9 f22 e := hpot
  refine lv_iconst (v := 0) hx hb dB_3_2_5.1.1.1.1 (by decide) ?_
  refine lv_istore_n (lv' := [(3, .int 0), (0, .ref mo), (1, .int a1), (2, .int a2)]) hx hb dB_3_2_5.1.1.1.2 rfl hl (by decide) rfl (fun ls hl => ?_)
  suffices LOOP_1 : ∀ (n_1 : Nat) (x3_1 : Int32) (c_g29_1 : Nat → Int64) (H : Heap) (locs : List Loc) (ls : Array Slot), s3.toInt - x3_1.toInt < (n_1 : Int) → (0 ≤ x3_1.toInt) → (x3_1.toInt ≤ s3.toInt) → (∀ w : Nat, (w : Int) < x3_1.toInt → (c_g29_1 w).toInt = if w = a1.toNatClampNeg then 0 else 1099511627776) → pd_2 D vwCl A [ob12_0_ mo s0 s1 t2 s3 s4 g5 g6 g7 g8 g9 g10 s11 g12 g13 g14 g15 g16 g17 g18 g19 g20 s21 g22 g23 g24 s25 s26 s27 s28 g29 g30 g31 g32 g33, ai_ cy g5 40 f5, ai_ cy g6 40 f6, ai_ cy g7 40 f7, ai_ cy g8 40 f8, ai_ cy g9 40 f9, az_ cy g10 40 f10, ai_ cy g22 40 f22, aj_ cy g29 12 c_g29_1, ai_ cy g30 12 f30, ai_ cy g31 12 f31] H → va_S A s.heap H locs → lv_has ls 10 [(3, .int x3_1), (0, .ref mo), (1, .int a1), (2, .int a2)] → W p l e ({ frames := 3, cells := 0, slots := 0, locals := 72 } : Room) s m (([.ref mo, .int a1, .int a2] : List Value).toArray) below meth c H locs 0 0 Q (F0 m 2 ls []) from LOOP_1 ((s3.toInt - (0 : Int32).toInt).toNat + 1) (0 : Int32) f29 _ _ _ (by omega) (by first | with_reducible assumption | omega | assumption) (by first | with_reducible assumption | omega | assumption) (by first | exact pd_st (by assumption) (by rw [if_pos (by omega)]; decide) (by assumption) (by omega) (by omega) | exact pd_st (by assumption) (by rw [if_neg (by omega)]; decide) (by assumption) (by omega) (by omega) | (intro w hw; omega)) ⟨hP, hD⟩ hS (lv_sub hl [0, 1, 2, 3] rfl)
  intro n_1
  induction n_1 with
  | zero =>
    intro x3_1 c_g29_1 H locs ls hm v0_1 v1_1 v2_1 hPD hS hl; obtain ⟨hP, hD⟩ := hPD
    exact absurd hm (by omega)
  | succ n_1 ih_1 =>
    intro x3_1 c_g29_1 H locs ls hm v0_1 v1_1 v2_1 hPD hS hl; obtain ⟨hP, hD⟩ := hPD
    refine lv_iload_n hx hb dB_3_2_5.1.1.2.1 rfl (lv_at hl 0 rfl) ?_
    refine lv_aload_n hx hb dB_3_2_5.1.1.2.2 rfl (lv_at hl 1 rfl) ?_
    refine va_get (ci := 12) (v := .int s3) (C := RX12) (T := TX12) (N := 34) hx hb hts (fun _ h => List.mem_cons_of_mem _ (List.mem_append_right _ h)) hown hK.1 hP 0 rfl rfl 3 (by decide) (hts (.fieldLink RX12 88 "CutAtlasModel" "places" "I") (List.mem_of_getElem? (i := 1) rfl)) (fun _ h9 => h9) rfl dB_3_2_5.1.2.1.1 ?_
    refine lv_icmp_ge (tgt := 34) hx hb dB_3_2_5.1.2.1.2 (by decide) (fun c_2 => ?_) (fun c_2 => ?_)
    · have t_2 : s3.toInt ≤ x3_1.toInt := Int32.le_iff_toInt_le.mp c_2
      have h0_ : cw (gx f6 f7) (gy f6 f7) (gc f5 f8 f9 f22) (go f5 f8 f9 f10 f22) (2 * s4.toNatClampNeg) a1.toNatClampNeg s3.toNatClampNeg c_g29_1 f30 f31 ((0 : Int32).toNatClampNeg) (0) := cw_init (by omega) (fun v hv => v2_1 v (by omega))
      refine lv_iconst (v := 0) hx hb dB_3_2_6.1.1.2.1 (by decide) ?_
      refine lv_istore_n (lv' := [(3, .int 0), (0, .ref mo), (1, .int a1), (2, .int a2)]) hx hb dB_3_2_6.1.1.2.2 rfl hl (by decide) rfl (fun ls hl => ?_)
      suffices LOOP_3 : ∀ (n_3 : Nat) (x3_3 : Int32) (c_g29_3 : Nat → Int64) (c_g30_3 : Nat → Int32) (c_g31_3 : Nat → Int32) (H : Heap) (locs : List Loc) (ls : Array Slot), s3.toInt - x3_3.toInt < (n_3 : Int) → (0 ≤ x3_3.toInt) → (x3_3.toInt ≤ s3.toInt) → (cw (gx f6 f7) (gy f6 f7) (gc f5 f8 f9 f22) (go f5 f8 f9 f10 f22) (2 * s4.toNatClampNeg) a1.toNatClampNeg s3.toNatClampNeg c_g29_3 c_g30_3 c_g31_3 (x3_3.toNatClampNeg) (0)) → (rng c_g30_3 12 (0) (39)) → (rng c_g31_3 12 (0) (11)) → pd_2 D vwCl A [ob12_0_ mo s0 s1 t2 s3 s4 g5 g6 g7 g8 g9 g10 s11 g12 g13 g14 g15 g16 g17 g18 g19 g20 s21 g22 g23 g24 s25 s26 s27 s28 g29 g30 g31 g32 g33, ai_ cy g5 40 f5, ai_ cy g6 40 f6, ai_ cy g7 40 f7, ai_ cy g8 40 f8, ai_ cy g9 40 f9, az_ cy g10 40 f10, ai_ cy g22 40 f22, aj_ cy g29 12 c_g29_3, ai_ cy g30 12 c_g30_3, ai_ cy g31 12 c_g31_3] H → va_S A s.heap H locs → lv_has ls 10 [(3, .int x3_3), (0, .ref mo), (1, .int a1), (2, .int a2)] → W p l e ({ frames := 3, cells := 0, slots := 0, locals := 72 } : Room) s m (([.ref mo, .int a1, .int a2] : List Value).toArray) below meth c H locs 0 0 Q (F0 m 36 ls []) from LOOP_3 ((s3.toInt - (0 : Int32).toInt).toNat + 1) (0 : Int32) c_g29_1 f30 f31 _ _ _ (by omega) (by first | with_reducible assumption | omega | assumption) (by first | with_reducible assumption | omega | assumption) (by first | exact h0_ | exact cw_r2 hr_ (nI2 (by omega) (by omega))) (by first | with_reducible assumption | assumption | exact rng_zero (by omega) (by omega) | exact orng_zero) (by first | with_reducible assumption | assumption | exact rng_zero (by omega) (by omega) | exact orng_zero) ⟨hP, hD⟩ hS (lv_sub hl [0, 1, 2, 3] rfl)
      intro n_3
      induction n_3 with
      | zero =>
        intro x3_3 c_g29_3 c_g30_3 c_g31_3 H locs ls hm v0_3 v1_3 v2_3 rc_g30_3 rc_g31_3 hPD hS hl; obtain ⟨hP, hD⟩ := hPD
        exact absurd hm (by omega)
      | succ n_3 ih_3 =>
        intro x3_3 c_g29_3 c_g30_3 c_g31_3 H locs ls hm v0_3 v1_3 v2_3 rc_g30_3 rc_g31_3 hPD hS hl; obtain ⟨hP, hD⟩ := hPD
        refine lv_iload_n hx hb dB_3_2_6.1.2.1.1 rfl (lv_at hl 0 rfl) ?_
        refine lv_aload_n hx hb dB_3_2_6.1.2.1.2 rfl (lv_at hl 1 rfl) ?_
        refine va_get (ci := 12) (v := .int s3) (C := RX12) (T := TX12) (N := 34) hx hb hts (fun _ h => List.mem_cons_of_mem _ (List.mem_append_right _ h)) hown hK.1 hP 0 rfl rfl 3 (by decide) (hts (.fieldLink RX12 88 "CutAtlasModel" "places" "I") (List.mem_of_getElem? (i := 1) rfl)) (fun _ h9 => h9) rfl dB_3_2_6.1.2.2.1 ?_
        refine lv_icmp_ge (tgt := 238) hx hb dB_3_2_6.1.2.2.2 (by decide) (fun c_4 => ?_) (fun c_4 => ?_)
        · have t_4 : s3.toInt ≤ x3_3.toInt := Int32.le_iff_toInt_le.mp c_4
          have hz_ : cz (gx f6 f7) (gy f6 f7) (gc f5 f8 f9 f22) (go f5 f8 f9 f10 f22) (2 * s4.toNatClampNeg) a1.toNatClampNeg s3.toNatClampNeg c_g29_3 c_g30_3 c_g31_3 := cw_end (cw_r2 v2_3 (by have c_ := clI (i := x3_3) (by omega); omega)) hPi hgv (by omega) g_c1
          refine lv_aload_n hx hb dB_3_2_12.2.1.2.1 rfl (lv_at hl 1 rfl) ?_
          refine va_get (ci := 12) (v := .ref g29) (C := RX12) (T := TX12) (N := 34) hx hb hts (fun _ h => List.mem_cons_of_mem _ (List.mem_append_right _ h)) hown hK.1 hP 0 rfl rfl 29 (by decide) (hts (.fieldLink RX12 70 "CutAtlasModel" "paid" "[J") (List.mem_of_getElem? (i := 2) rfl)) (fun _ h9 => h9) rfl dB_3_2_12.2.1.2.2 ?_
          refine lv_iload_n hx hb dB_3_2_12.2.2.1.1 rfl (lv_at hl 3 rfl) ?_
          have h_5 : vp_in a2 12 := in_I (by first | with_reducible assumption | omega) (by omega)
          refine va_lald hx hb hK.1 hP 8 1 rfl rfl (i := a2) h_5 dB_3_2_12.2.2.1.2 ?_
          refine lv_topl (fun y_6 ey_6 => ?_)
          have kt_ : y_6.toInt = (c_g29_3 a2.toNatClampNeg).toInt := by rw [ey_6]
          refine lv_ldc2 (v := 1099511627776) hx hb hown (hts (.constantLong RX12 211 (1099511627776)) (List.mem_of_getElem? (i := 3) rfl)) dB_3_2_12.2.2.2.1 ?_
          refine W.lcmp hx hb dB_3_2_12.2.2.2.2 ?_
          refine lv_if_ge (tgt := 255) hx hb dB_3_2_13.1.1 (by decide) (fun c_7 => ?_) (fun c_7 => ?_)
          · have t_7 : (1099511627776 : Int64).toInt ≤ y_6.toInt := Int64.le_iff_toInt_le.mp ((lg_cmp_ge y_6 1099511627776).mp c_7)
            refine lv_iconst (v := 0) hx hb dB_3_2_13.2.2.1 (by decide) ?_
            rw [hQ]
            exact W.zret (ty := .boolean) (v := 0) hx hb hr (by decide) (fun t ht hW => ⟨⟨0, 0, rfl, ⟨rfl, Or.inl (⟨by omega, rfl⟩)⟩, c_g29_3, c_g30_3, c_g31_3, (by first | exact fun _ => ⟨hz_, by omega⟩ | exact fun h => absurd h (by decide)), (by first | with_reducible assumption | assumption | exact rng_zero (by omega) (by omega) | omega), (by first | with_reducible assumption | assumption | exact rng_zero (by omega) (by omega) | omega), by rw [ht]; exact hP, hD⟩, hS.F ht⟩) hS.2.2 dB_3_2_13.2.2.2
          · have t_7 : ¬ (1099511627776 : Int64).toInt ≤ y_6.toInt := fun h => c_7 ((lg_cmp_ge y_6 1099511627776).mpr (Int64.le_iff_toInt_le.mpr h))
            refine lv_iconst (v := 1) hx hb dB_3_2_13.1.2 (by decide) ?_
            refine lv_goto (tgt := 256) hx hb dB_3_2_13.2.1 (by decide) ?_
            rw [hQ]
            exact W.zret (ty := .boolean) (v := 1) hx hb hr (by decide) (fun t ht hW => ⟨⟨1, 1, rfl, ⟨rfl, Or.inr (⟨by omega, rfl⟩)⟩, c_g29_3, c_g30_3, c_g31_3, (by first | exact fun _ => ⟨hz_, by omega⟩ | exact fun h => absurd h (by decide)), (by first | with_reducible assumption | assumption | exact rng_zero (by omega) (by omega) | omega), (by first | with_reducible assumption | assumption | exact rng_zero (by omega) (by omega) | omega), by rw [ht]; exact hP, hD⟩, hS.F ht⟩) hS.2.2 dB_3_2_13.2.2.2
        · have t_4 : ¬ s3.toInt ≤ x3_3.toInt := fun h => c_4 (Int32.le_iff_toInt_le.mpr h)
          refine lv_iconst (v := 0) hx hb dB_3_2_6.2.1.1.1 (by decide) ?_
          refine lv_istore (lv' := [(4, .int 0), (3, .int x3_3), (0, .ref mo), (1, .int a1), (2, .int a2)]) hx hb dB_3_2_6.2.1.1.2 hl (by decide) rfl (fun ls hl => ?_)
          suffices LOOP_8 : ∀ (n_8 : Nat) (x4_8 : Int32) (c_g29_8 : Nat → Int64) (c_g30_8 : Nat → Int32) (c_g31_8 : Nat → Int32) (H : Heap) (locs : List Loc) (ls : Array Slot), s4.toInt - x4_8.toInt < (n_8 : Int) → (0 ≤ x4_8.toInt) → (x4_8.toInt ≤ s4.toInt) → (cw (gx f6 f7) (gy f6 f7) (gc f5 f8 f9 f22) (go f5 f8 f9 f10 f22) (2 * s4.toNatClampNeg) a1.toNatClampNeg s3.toNatClampNeg c_g29_8 c_g30_8 c_g31_8 (x3_3.toNatClampNeg) (2 * x4_8.toNatClampNeg)) → (rng c_g30_8 12 (0) (39)) → (rng c_g31_8 12 (0) (11)) → pd_2 D vwCl A [ob12_0_ mo s0 s1 t2 s3 s4 g5 g6 g7 g8 g9 g10 s11 g12 g13 g14 g15 g16 g17 g18 g19 g20 s21 g22 g23 g24 s25 s26 s27 s28 g29 g30 g31 g32 g33, ai_ cy g5 40 f5, ai_ cy g6 40 f6, ai_ cy g7 40 f7, ai_ cy g8 40 f8, ai_ cy g9 40 f9, az_ cy g10 40 f10, ai_ cy g22 40 f22, aj_ cy g29 12 c_g29_8, ai_ cy g30 12 c_g30_8, ai_ cy g31 12 c_g31_8] H → va_S A s.heap H locs → lv_has ls 10 [(4, .int x4_8), (3, .int x3_3), (0, .ref mo), (1, .int a1), (2, .int a2)] → W p l e ({ frames := 3, cells := 0, slots := 0, locals := 72 } : Room) s m (([.ref mo, .int a1, .int a2] : List Value).toArray) below meth c H locs 0 0 Q (F0 m 47 ls []) from LOOP_8 ((s4.toInt - (0 : Int32).toInt).toNat + 1) (0 : Int32) c_g29_3 c_g30_3 c_g31_3 _ _ _ (by omega) (by first | with_reducible assumption | omega | assumption) (by first | with_reducible assumption | omega | assumption) (by first | exact cw_nx hl_ (by have e_ := nI2 (a := S[l4]) (b := (0 : Int32)) (by omega) (by omega); omega) | exact cw_nx (by assumption) (by rw [cl_0])) (by first | with_reducible assumption | assumption | exact rng_zero (by omega) (by omega) | exact orng_zero) (by first | with_reducible assumption | assumption | exact rng_zero (by omega) (by omega) | exact orng_zero) ⟨hP, hD⟩ hS (lv_sub hl [0, 1, 2, 3, 4] rfl)
          intro n_8
          induction n_8 with
          | zero =>
            intro x4_8 c_g29_8 c_g30_8 c_g31_8 H locs ls hm v0_8 v1_8 v2_8 rc_g30_8 rc_g31_8 hPD hS hl; obtain ⟨hP, hD⟩ := hPD
            exact absurd hm (by omega)
          | succ n_8 ih_8 =>
            intro x4_8 c_g29_8 c_g30_8 c_g31_8 H locs ls hm v0_8 v1_8 v2_8 rc_g30_8 rc_g31_8 hPD hS hl; obtain ⟨hP, hD⟩ := hPD
            refine lv_iload hx hb dB_3_2_6.2.1.2.1 (lv_at hl 0 rfl) ?_
            refine lv_aload_n hx hb dB_3_2_6.2.1.2.2 rfl (lv_at hl 2 rfl) ?_
            refine va_get (ci := 12) (v := .int s4) (C := RX12) (T := TX12) (N := 34) hx hb hts (fun _ h => List.mem_cons_of_mem _ (List.mem_append_right _ h)) hown hK.1 hP 0 rfl rfl 4 (by decide) (hts (.fieldLink RX12 95 "CutAtlasModel" "lines" "I") (List.mem_of_getElem? (i := 4) rfl)) (fun _ h9 => h9) rfl dB_3_2_6.2.2.1.1 ?_
            have c4_ := clI (i := x4_8) (by omega)
            refine lv_icmp_ge (tgt := 232) hx hb dB_3_2_6.2.2.1.2 (by decide) (fun c_9 => ?_) (fun c_9 => ?_)
            · have t_9 : s4.toInt ≤ x4_8.toInt := Int32.le_iff_toInt_le.mp c_9
              have hr_ : cw (gx f6 f7) (gy f6 f7) (gc f5 f8 f9 f22) (go f5 f8 f9 f10 f22) (2 * s4.toNatClampNeg) a1.toNatClampNeg s3.toNatClampNeg c_g29_8 c_g30_8 c_g31_8 (x3_3.toNatClampNeg + 1) (0) := cw_rd v2_8 (by have c_ := clI (i := x4_8) (by omega); omega) rfl
              obtain ⟨y_10, ey_10⟩ : ∃ y : Int32, y = x3_3 + 1 := ⟨_, rfl⟩
              have ty_10 : y_10.toInt = x3_3.toInt + (1 : Int32).toInt := by rw [ey_10]; exact addI (by omega) (by omega)
              refine lv_iinc (v := y_10) (lv' := [(3, .int y_10), (4, .int x4_8), (0, .ref mo), (1, .int a1), (2, .int a2)]) hx hb dB_3_2_12.2.1.1.1 hl (k := 1) rfl (by rw [ey_10]; rfl) (by decide) rfl (fun ls hl => ?_)
              refine lv_goto (tgt := 36) hx hb dB_3_2_12.2.1.1.2 (by decide) ?_
              exact ih_3 y_10 c_g29_8 c_g30_8 c_g31_8 _ _ _ (by omega) (by first | with_reducible assumption | omega | assumption) (by first | with_reducible assumption | omega | assumption) (by first | exact h0_ | exact cw_r2 hr_ (nI2 (by omega) (by omega))) (by first | with_reducible assumption | assumption | exact rng_zero (by omega) (by omega) | exact orng_zero) (by first | with_reducible assumption | assumption | exact rng_zero (by omega) (by omega) | exact orng_zero) ⟨hP, hD⟩ hS (lv_sub hl [0, 2, 3, 4] rfl)
            · have t_9 : ¬ s4.toInt ≤ x4_8.toInt := fun h => c_9 (Int32.le_iff_toInt_le.mpr h)
              refine lv_iconst (v := 0) hx hb dB_3_2_6.2.2.2.1 (by decide) ?_
              refine lv_istore (lv' := [(5, .int 0), (4, .int x4_8), (3, .int x3_3), (0, .ref mo), (1, .int a1), (2, .int a2)]) hx hb dB_3_2_6.2.2.2.2 hl (by decide) rfl (fun ls hl => ?_)
              suffices LOOP_11 : ∀ (n_11 : Nat) (x5_11 : Int32) (c_g29_11 : Nat → Int64) (c_g30_11 : Nat → Int32) (c_g31_11 : Nat → Int32) (H : Heap) (locs : List Loc) (ls : Array Slot), 2 - x5_11.toInt < (n_11 : Int) → (0 ≤ x5_11.toInt) → (x5_11.toInt ≤ 2) → (cw (gx f6 f7) (gy f6 f7) (gc f5 f8 f9 f22) (go f5 f8 f9 f10 f22) (2 * s4.toNatClampNeg) a1.toNatClampNeg s3.toNatClampNeg c_g29_11 c_g30_11 c_g31_11 (x3_3.toNatClampNeg) (2 * x4_8.toNatClampNeg + x5_11.toNatClampNeg)) → (rng c_g30_11 12 (0) (39)) → (rng c_g31_11 12 (0) (11)) → pd_2 D vwCl A [ob12_0_ mo s0 s1 t2 s3 s4 g5 g6 g7 g8 g9 g10 s11 g12 g13 g14 g15 g16 g17 g18 g19 g20 s21 g22 g23 g24 s25 s26 s27 s28 g29 g30 g31 g32 g33, ai_ cy g5 40 f5, ai_ cy g6 40 f6, ai_ cy g7 40 f7, ai_ cy g8 40 f8, ai_ cy g9 40 f9, az_ cy g10 40 f10, ai_ cy g22 40 f22, aj_ cy g29 12 c_g29_11, ai_ cy g30 12 c_g30_11, ai_ cy g31 12 c_g31_11] H → va_S A s.heap H locs → lv_has ls 10 [(5, .int x5_11), (4, .int x4_8), (3, .int x3_3), (0, .ref mo), (1, .int a1), (2, .int a2)] → W p l e ({ frames := 3, cells := 0, slots := 0, locals := 72 } : Room) s m (([.ref mo, .int a1, .int a2] : List Value).toArray) below meth c H locs 0 0 Q (F0 m 59 ls []) from LOOP_11 ((2 - (0 : Int32).toInt).toNat + 1) (0 : Int32) c_g29_8 c_g30_8 c_g31_8 _ _ _ (by omega) (by first | with_reducible assumption | omega | assumption) (by first | with_reducible assumption | omega | assumption) (by first | exact cw_nx hn_ (by have e_ := nI2 (a := S[l5]) (b := (0 : Int32)) (by omega) (by omega); omega) | exact cw_nx (by assumption) (by rw [cl_0, Nat.add_zero])) (by first | with_reducible assumption | assumption | exact rng_zero (by omega) (by omega) | exact orng_zero) (by first | with_reducible assumption | assumption | exact rng_zero (by omega) (by omega) | exact orng_zero) ⟨hP, hD⟩ hS (lv_sub hl [0, 1, 2, 3, 4, 5] rfl)
              intro n_11
              induction n_11 with
              | zero =>
                intro x5_11 c_g29_11 c_g30_11 c_g31_11 H locs ls hm v0_11 v1_11 v2_11 rc_g30_11 rc_g31_11 hPD hS hl; obtain ⟨hP, hD⟩ := hPD
                exact absurd hm (by omega)
              | succ n_11 ih_11 =>
                intro x5_11 c_g29_11 c_g30_11 c_g31_11 H locs ls hm v0_11 v1_11 v2_11 rc_g30_11 rc_g31_11 hPD hS hl; obtain ⟨hP, hD⟩ := hPD
                refine lv_iload hx hb dB_3_2_7.1.1.1.1 (lv_at hl 0 rfl) ?_
                refine lv_iconst (v := 2) hx hb dB_3_2_7.1.1.1.2 (by decide) ?_
                refine lv_icmp_ge (tgt := 226) hx hb dB_3_2_7.1.1.2.1 (by decide) (fun c_12 => ?_) (fun c_12 => ?_)
                · have t_12 : (2 : Int32).toInt ≤ x5_11.toInt := Int32.le_iff_toInt_le.mp c_12
                  have c5_ := clI (i := x5_11) (by omega)
                  have hl_ : cw (gx f6 f7) (gy f6 f7) (gc f5 f8 f9 f22) (go f5 f8 f9 f10 f22) (2 * s4.toNatClampNeg) a1.toNatClampNeg s3.toNatClampNeg c_g29_11 c_g30_11 c_g31_11 (x3_3.toNatClampNeg) (2 * x4_8.toNatClampNeg + 2) := by first | exact cw_nx v2_11 (by omega) | exact cw_nx (cw_to v2_11 (2 - x5_11.toNatClampNeg) (fun e h1 h2 => go_miss (j := x4_8.toNatClampNeg) (by omega) (by omega))) (by omega)
                  obtain ⟨y_13, ey_13⟩ : ∃ y : Int32, y = x4_8 + 1 := ⟨_, rfl⟩
                  have ty_13 : y_13.toInt = x4_8.toInt + (1 : Int32).toInt := by rw [ey_13]; exact addI (by omega) (by omega)
                  refine lv_iinc (v := y_13) (lv' := [(4, .int y_13), (5, .int x5_11), (3, .int x3_3), (0, .ref mo), (1, .int a1), (2, .int a2)]) hx hb dB_3_2_12.1.2.2.1 hl (k := 1) rfl (by rw [ey_13]; rfl) (by decide) rfl (fun ls hl => ?_)
                  refine lv_goto (tgt := 47) hx hb dB_3_2_12.1.2.2.2 (by decide) ?_
                  exact ih_8 y_13 c_g29_11 c_g30_11 c_g31_11 _ _ _ (by omega) (by first | with_reducible assumption | omega | assumption) (by first | with_reducible assumption | omega | assumption) (by first | exact cw_nx hl_ (by have e_ := nI2 (a := x4_8) (b := y_13) (by omega) (by omega); omega) | exact cw_nx (by assumption) (by rw [cl_0])) (by first | with_reducible assumption | assumption | exact rng_zero (by omega) (by omega) | exact orng_zero) (by first | with_reducible assumption | assumption | exact rng_zero (by omega) (by omega) | exact orng_zero) ⟨hP, hD⟩ hS (lv_sub hl [0, 2, 3, 4, 5] rfl)
                · have t_12 : ¬ (2 : Int32).toInt ≤ x5_11.toInt := fun h => c_12 (Int32.le_iff_toInt_le.mpr h)
                  refine lv_aload_n hx hb dB_3_2_7.1.1.2.2 rfl (lv_at hl 3 rfl) ?_
                  refine va_get (ci := 12) (v := .ref g10) (C := RX12) (T := TX12) (N := 34) hx hb hts (fun _ h => List.mem_cons_of_mem _ (List.mem_append_right _ h)) hown hK.1 hP 0 rfl rfl 10 (by decide) (hts (.fieldLink RX12 25 "CutAtlasModel" "isMissing" "[Z") (List.mem_of_getElem? (i := 5) rfl)) (fun _ h9 => h9) rfl dB_3_2_7.1.2.1.1 ?_
                  refine lv_iload hx hb dB_3_2_7.1.2.1.2 (lv_at hl 1 rfl) ?_
                  have h_14 : vp_in x4_8 40 := in_I (by first | with_reducible assumption | omega) (by omega)
                  refine va_zald hx hb hK.1 hP 6 2 rfl rfl (i := x4_8) h_14 dB_3_2_7.1.2.2.1 ?_
                  refine lv_topi (fun y_15 ey_15 => ?_)
                  have ky_15 : y_15.toInt = (f10 x4_8.toNatClampNeg).toInt := by rw [ey_15]
                  refine lv_if_ne (tgt := 226) hx hb dB_3_2_7.1.2.2.2 (by decide) (fun c_16 => ?_) (fun c_16 => ?_)
                  · have t_16 : ¬ y_15.toInt = (0 : Int32).toInt := fun h => c_16 (Int32.toInt_inj.mp h)
                    have c5_ := clI (i := x5_11) (by omega)
                    have hl_ : cw (gx f6 f7) (gy f6 f7) (gc f5 f8 f9 f22) (go f5 f8 f9 f10 f22) (2 * s4.toNatClampNeg) a1.toNatClampNeg s3.toNatClampNeg c_g29_11 c_g30_11 c_g31_11 (x3_3.toNatClampNeg) (2 * x4_8.toNatClampNeg + 2) := by first | exact cw_nx v2_11 (by omega) | exact cw_nx (cw_to v2_11 (2 - x5_11.toNatClampNeg) (fun e h1 h2 => go_miss (j := x4_8.toNatClampNeg) (by omega) (by omega))) (by omega)
                    obtain ⟨y_17, ey_17⟩ : ∃ y : Int32, y = x4_8 + 1 := ⟨_, rfl⟩
                    have ty_17 : y_17.toInt = x4_8.toInt + (1 : Int32).toInt := by rw [ey_17]; exact addI (by omega) (by omega)
                    refine lv_iinc (v := y_17) (lv' := [(4, .int y_17), (5, .int x5_11), (3, .int x3_3), (0, .ref mo), (1, .int a1), (2, .int a2)]) hx hb dB_3_2_12.1.2.2.1 hl (k := 1) rfl (by rw [ey_17]; rfl) (by decide) rfl (fun ls hl => ?_)
                    refine lv_goto (tgt := 47) hx hb dB_3_2_12.1.2.2.2 (by decide) ?_
                    exact ih_8 y_17 c_g29_11 c_g30_11 c_g31_11 _ _ _ (by omega) (by first | with_reducible assumption | omega | assumption) (by first | with_reducible assumption | omega | assumption) (by first | exact cw_nx hl_ (by have e_ := nI2 (a := x4_8) (b := y_17) (by omega) (by omega); omega) | exact cw_nx (by assumption) (by rw [cl_0])) (by first | with_reducible assumption | assumption | exact rng_zero (by omega) (by omega) | exact orng_zero) (by first | with_reducible assumption | assumption | exact rng_zero (by omega) (by omega) | exact orng_zero) ⟨hP, hD⟩ hS (lv_sub hl [0, 2, 3, 4, 5] rfl)
                  · have t_16 : y_15.toInt = (0 : Int32).toInt := congrArg Int32.toInt c_16
                    have hf4_ := hfa x4_8.toNatClampNeg (by omega)
                    rcases b01 (a := x5_11) (by omega) with rfl | rfl
                    · refine lv_iload hx hb dB_3_2_7.2.1.1.1 (lv_at hl 0 rfl) ?_
                      refine lv_if_ne (tgt := 90) hx hb dB_3_2_7.2.1.1.2 (by decide) (fun c_18 => ?_) (fun c_18 => ?_)
                      · exact absurd c_18 (by decide)
                      · have _ := c_18
                        refine lv_aload_n hx hb dB_3_2_7.2.1.2.1 rfl (lv_at hl 3 rfl) ?_
                        refine va_get (ci := 12) (v := .ref g6) (C := RX12) (T := TX12) (N := 34) hx hb hts (fun _ h => List.mem_cons_of_mem _ (List.mem_append_right _ h)) hown hK.1 hP 0 rfl rfl 6 (by decide) (hts (.fieldLink RX12 13 "CutAtlasModel" "from" "[I") (List.mem_of_getElem? (i := 6) rfl)) (fun _ h9 => h9) rfl dB_3_2_7.2.1.2.2 ?_
                        refine lv_iload hx hb dB_3_2_7.2.2.1.1 (lv_at hl 1 rfl) ?_
                        refine va_iald hx hb hK.1 hP 2 0 rfl rfl (i := x4_8) h_14 dB_3_2_7.2.2.1.2 ?_
                        refine lv_topi (fun y_20 ey_20 => ?_)
                        have ky_20 : y_20.toInt = (f6 x4_8.toNatClampNeg).toInt := by rw [ey_20]
                        have ry_20 : 0 ≤ y_20.toInt ∧ y_20.toInt ≤ 11 := by rw [ey_20]; exact r_f6 _ (in_lt h_14)
                        refine lv_goto (tgt := 97) hx hb dB_3_2_7.2.2.2.1 (by decide) ?_
                        refine lv_istore (lv' := [(6, .int y_20), (5, .int 0), (4, .int x4_8), (3, .int x3_3), (0, .ref mo), (1, .int a1), (2, .int a2)]) hx hb dB_3_2_8.1.1.2.2 hl (by decide) rfl (fun ls hl => ?_)
                        refine lv_iload hx hb dB_3_2_8.1.2.1.1 (lv_at hl 1 rfl) ?_
                        refine lv_if_ne (tgt := 114) hx hb dB_3_2_8.1.2.1.2 (by decide) (fun c_21 => ?_) (fun c_21 => ?_)
                        · exact absurd c_21 (by decide)
                        · have _ := c_21
                          refine lv_aload_n hx hb dB_3_2_8.1.2.2.1 rfl (lv_at hl 4 rfl) ?_
                          refine va_get (ci := 12) (v := .ref g7) (C := RX12) (T := TX12) (N := 34) hx hb hts (fun _ h => List.mem_cons_of_mem _ (List.mem_append_right _ h)) hown hK.1 hP 0 rfl rfl 7 (by decide) (hts (.fieldLink RX12 16 "CutAtlasModel" "to" "[I") (List.mem_of_getElem? (i := 7) rfl)) (fun _ h9 => h9) rfl dB_3_2_8.1.2.2.2 ?_
                          refine lv_iload hx hb dB_3_2_8.2.1.1.1 (lv_at hl 2 rfl) ?_
                          refine va_iald hx hb hK.1 hP 3 0 rfl rfl (i := x4_8) h_14 dB_3_2_8.2.1.1.2 ?_
                          refine lv_topi (fun y_23 ey_23 => ?_)
                          have ky_23 : y_23.toInt = (f7 x4_8.toNatClampNeg).toInt := by rw [ey_23]
                          have ry_23 : 0 ≤ y_23.toInt ∧ y_23.toInt ≤ 11 := by rw [ey_23]; exact r_f7 _ (in_lt h_14)
                          refine lv_goto (tgt := 121) hx hb dB_3_2_8.2.1.2.1 (by decide) ?_
                          refine lv_istore (lv' := [(7, .int y_23), (6, .int y_20), (5, .int 0), (4, .int x4_8), (3, .int x3_3), (0, .ref mo), (1, .int a1), (2, .int a2)]) hx hb dB_3_2_8.2.2.2.2 hl (by decide) rfl (fun ls hl => ?_)
                          refine lv_aload_n hx hb dB_3_2_9.1.1.1.1 rfl (lv_at hl 5 rfl) ?_
                          refine lv_iload hx hb dB_3_2_9.1.1.1.2 (lv_at hl 3 rfl) ?_
                          refine lv_iload hx hb dB_3_2_9.1.1.2.1 (lv_at hl 2 rfl) ?_
                          refine lv_if_ne (tgt := 135) hx hb dB_3_2_9.1.1.2.2 (by decide) (fun c_24 => ?_) (fun c_24 => ?_)
                          · exact absurd c_24 (by decide)
                          · have _ := c_24
                            refine lv_iconst (v := 1) hx hb dB_3_2_9.1.2.1.1 (by decide) ?_
                            refine lv_goto (tgt := 136) hx hb dB_3_2_9.1.2.1.2 (by decide) ?_
                            refine ct_R hP hD [ob12_0_ mo s0 s1 t2 s3 s4 g5 g6 g7 g8 g9 g10 s11 g12 g13 g14 g15 g16 g17 g18 g19 g20 s21 g22 g23 g24 s25 s26 s27 s28 g29 g30 g31 g32 g33, ai_ cy g5 40 f5, ai_ cy g8 40 f8, ai_ cy g9 40 f9, ai_ cy g22 40 f22] [0, 1, 4, 5, 7] (by decide) rfl (fun hPc hDw => ?_)
                            have hFc := va_free (wc := []) hD hS hA [] rfl
                            refine va_calll (va_runV (As := [.int x4_8, .int 1]) (rest := []) ⟨hx, hb, hml, hown, hts⟩ (c_X12_step2 l D cy H.size mo g5 g6 g7 g8 g9 g10 g12 g13 g14 g15 g16 g17 g18 g19 g20 g22 g23 g24 g29 g30 g31 g32 g33 s0 s1 s3 s4 s11 s21 s25 s26 s27 s28 t2 f5 f8 f9 f22 x4_8 (1 : Int32) (by first | with_reducible assumption | omega | assumption) (by first | with_reducible assumption | omega | assumption) (by first | with_reducible assumption | omega | assumption) (by first | with_reducible assumption | omega | assumption) (by first | with_reducible assumption | assumption | omega) (by first | with_reducible assumption | assumption | omega)) (cwV 2 hts gX12_cheapWay_X12_step rfl rfl rfl ⟨rfl, hd_X12_step⟩ ⟨Nat.le_of_ble_eq_true rfl, Nat.le_of_ble_eq_true rfl⟩) ⟨bl_, va_recvX hK.1 hP (ci := 12) (q0 := 0) rfl rfl, fun U hU hW => ⟨rfl, by rw [hU], by rw [hU]; exact hPc, kk_mv hW hK, hDw⟩⟩ rfl rfl hl.1 rfl (lv_room (Nat.le_of_ble_eq_true rfl)) dB_3_2_9.1.2.2.2 ⟨Nat.le_of_ble_eq_true rfl, Nat.le_of_ble_eq_true rfl⟩) hS (fun q _ h => hFc q h) hFc (fun r_25 u t H locs ht hvm hw hB hz1 hk1 hS => ?_)
                            have hP : va_P D vwCl _ H := ro_keep hP hk1
                            have f0_r_25 := hw
                            have hc_ : r_25.toInt = gc f5 f8 f9 f22 (2 * x4_8.toNatClampNeg + (0 : Int32).toNatClampNeg) := by first | exact f0_r_25.trans gc_0.symm | exact f0_r_25.trans gc_1.symm
                            have hg_ : (gx f6 f7 (2 * x4_8.toNatClampNeg + (0 : Int32).toNatClampNeg) = y_20.toNatClampNeg ∧ gy f6 f7 (2 * x4_8.toNatClampNeg + (0 : Int32).toNatClampNeg) = y_23.toNatClampNeg) := by first | (rw [ey_20, ey_23]; exact gx_0) | (rw [ey_20, ey_23]; exact gx_1)
                            have c5_ := clI (i := (0 : Int32)) (by omega)
                            have hE_ : 2 * x4_8.toNatClampNeg + (0 : Int32).toNatClampNeg < 2 * s4.toNatClampNeg := by omega
                            refine lv_lstore (lv' := [(8, .long r_25), (7, .int y_23), (6, .int y_20), (5, .int 0), (4, .int x4_8), (3, .int x3_3), (0, .ref mo), (1, .int a1), (2, .int a2)]) hx hb dB_3_2_9.2.1.1.1 hl (by decide) rfl (fun ls hl => ?_)
                            refine lv_lload hx hb dB_3_2_9.2.1.1.2 (lv_at hl 0 rfl) ?_
                            refine lv_ldc2 (v := 1000000) hx hb hown (hts (.constantLong RX12 118 (1000000)) (List.mem_of_getElem? (i := 8) rfl)) dB_3_2_9.2.1.2.1 ?_
                            refine W.lcmp hx hb dB_3_2_9.2.1.2.2 ?_
                            refine lv_if_ge (tgt := 220) hx hb dB_3_2_9.2.2.1.1 (by decide) (fun c_26 => ?_) (fun c_26 => ?_)
                            · have t_26 : (1000000 : Int64).toInt ≤ r_25.toInt := Int64.le_iff_toInt_le.mp ((lg_cmp_ge r_25 1000000).mp c_26)
                              have hn_ : cw (gx f6 f7) (gy f6 f7) (gc f5 f8 f9 f22) (go f5 f8 f9 f10 f22) (2 * s4.toNatClampNeg) a1.toNatClampNeg s3.toNatClampNeg c_g29_11 c_g30_11 c_g31_11 (x3_3.toNatClampNeg) (2 * x4_8.toNatClampNeg + (0 : Int32).toNatClampNeg + 1) := by first | exact cw_relax v2_11 hPi hgv (by omega) hE_ ho_ (by rw [hg_.1]; omega) (by rw [hg_.1, hg_.2]; omega) (by rw [hg_.2]; exact ec_g29_11) (by rw [hg_.1]; omega) (by rw [hg_.2]; exact ec_g30_11) (by omega) (by rw [hg_.2]; exact ec_g31_11) hg_.1.symm | exact cw_skip v2_11 (fun o => (hgv _ hE_ o).1) (fun _ _ => by rw [hg_.1, hg_.2]; omega) | exact cw_skip v2_11 (fun o => (hgv _ hE_ o).1) (fun _ h => absurd h (by rw [hg_.1]; omega)) | exact cw_skip v2_11 (fun o => (hgv _ hE_ o).1) (fun o => absurd (go_iff.mp o).2 (by rw [← hc_]; omega))
                              obtain ⟨y_27, ey_27⟩ : ∃ y : Int32, y = (0 : Int32) + 1 := ⟨_, rfl⟩
                              have ty_27 : y_27.toInt = (0 : Int32).toInt + (1 : Int32).toInt := by rw [ey_27]; exact addI (by omega) (by omega)
                              refine lv_iinc (v := y_27) (lv' := [(5, .int y_27), (8, .long r_25), (7, .int y_23), (6, .int y_20), (4, .int x4_8), (3, .int x3_3), (0, .ref mo), (1, .int a1), (2, .int a2)]) hx hb dB_3_2_12.1.2.1.1 hl (k := 3) rfl (by rw [ey_27]; rfl) (by decide) rfl (fun ls hl => ?_)
                              refine lv_goto (tgt := 59) hx hb dB_3_2_12.1.2.1.2 (by decide) ?_
                              exact ih_11 y_27 c_g29_11 c_g30_11 c_g31_11 _ _ _ (by omega) (by first | with_reducible assumption | omega | assumption) (by first | with_reducible assumption | omega | assumption) (by first | exact cw_nx hn_ (by have e_ := nI2 (a := (0 : Int32)) (b := y_27) (by omega) (by omega); omega) | exact cw_nx (by assumption) (by rw [cl_0, Nat.add_zero])) (by first | with_reducible assumption | assumption | exact rng_zero (by omega) (by omega) | exact orng_zero) (by first | with_reducible assumption | assumption | exact rng_zero (by omega) (by omega) | exact orng_zero) ⟨hP, hD⟩ hS (lv_sub hl [0, 4, 5, 6, 7, 8] rfl)
                            · have t_26 : ¬ (1000000 : Int64).toInt ≤ r_25.toInt := fun h => c_26 ((lg_cmp_ge r_25 1000000).mpr (Int64.le_iff_toInt_le.mpr h))
                              have ho_ : go f5 f8 f9 f10 f22 (2 * x4_8.toNatClampNeg + (0 : Int32).toNatClampNeg) = true := go_at (by omega) (by omega) hc_ (by omega)
                              have hw_ := hgv _ hE_ ho_
                              have hw2_ : y_20.toNatClampNeg < s3.toNatClampNeg ∧ y_23.toNatClampNeg < s3.toNatClampNeg := by rw [← hg_.1, ← hg_.2]; exact hw_
                              have hcl_ := hgc _ hE_ ho_
                              refine lv_aload_n hx hb dB_3_2_9.2.2.1.2 rfl (lv_at hl 6 rfl) ?_
                              refine va_get (ci := 12) (v := .ref g29) (C := RX12) (T := TX12) (N := 34) hx hb hts (fun _ h => List.mem_cons_of_mem _ (List.mem_append_right _ h)) hown hK.1 hP 0 rfl rfl 29 (by decide) (hts (.fieldLink RX12 70 "CutAtlasModel" "paid" "[J") (List.mem_of_getElem? (i := 2) rfl)) (fun _ h9 => h9) rfl dB_3_2_9.2.2.2.1 ?_
                              refine lv_iload hx hb dB_3_2_9.2.2.2.2 (lv_at hl 2 rfl) ?_
                              have h_28 : vp_in y_20 12 := in_I (by first | with_reducible assumption | omega) (by omega)
                              refine va_lald hx hb hK.1 hP 8 1 rfl rfl (i := y_20) h_28 dB_3_2_10.1.1.1.1 ?_
                              refine lv_topl (fun y_29 ey_29 => ?_)
                              have kx_ : y_29.toInt = (c_g29_11 y_20.toNatClampNeg).toInt := by rw [ey_29]
                              refine lv_ldc2 (v := 1099511627776) hx hb hown (hts (.constantLong RX12 211 (1099511627776)) (List.mem_of_getElem? (i := 3) rfl)) dB_3_2_10.1.1.1.2 ?_
                              refine W.lcmp hx hb dB_3_2_10.1.1.2.1 ?_
                              refine lv_if_ge (tgt := 220) hx hb dB_3_2_10.1.1.2.2 (by decide) (fun c_30 => ?_) (fun c_30 => ?_)
                              · have t_30 : (1099511627776 : Int64).toInt ≤ y_29.toInt := Int64.le_iff_toInt_le.mp ((lg_cmp_ge y_29 1099511627776).mp c_30)
                                have hn_ : cw (gx f6 f7) (gy f6 f7) (gc f5 f8 f9 f22) (go f5 f8 f9 f10 f22) (2 * s4.toNatClampNeg) a1.toNatClampNeg s3.toNatClampNeg c_g29_11 c_g30_11 c_g31_11 (x3_3.toNatClampNeg) (2 * x4_8.toNatClampNeg + (0 : Int32).toNatClampNeg + 1) := by first | exact cw_relax v2_11 hPi hgv (by omega) hE_ ho_ (by rw [hg_.1]; omega) (by rw [hg_.1, hg_.2]; omega) (by rw [hg_.2]; exact ec_g29_11) (by rw [hg_.1]; omega) (by rw [hg_.2]; exact ec_g30_11) (by omega) (by rw [hg_.2]; exact ec_g31_11) hg_.1.symm | exact cw_skip v2_11 (fun o => (hgv _ hE_ o).1) (fun _ _ => by rw [hg_.1, hg_.2]; omega) | exact cw_skip v2_11 (fun o => (hgv _ hE_ o).1) (fun _ h => absurd h (by rw [hg_.1]; omega)) | exact cw_skip v2_11 (fun o => (hgv _ hE_ o).1) (fun o => absurd (go_iff.mp o).2 (by rw [← hc_]; omega))
                                obtain ⟨y_31, ey_31⟩ : ∃ y : Int32, y = (0 : Int32) + 1 := ⟨_, rfl⟩
                                have ty_31 : y_31.toInt = (0 : Int32).toInt + (1 : Int32).toInt := by rw [ey_31]; exact addI (by omega) (by omega)
                                refine lv_iinc (v := y_31) (lv' := [(5, .int y_31), (8, .long r_25), (7, .int y_23), (6, .int y_20), (4, .int x4_8), (3, .int x3_3), (0, .ref mo), (1, .int a1), (2, .int a2)]) hx hb dB_3_2_12.1.2.1.1 hl (k := 3) rfl (by rw [ey_31]; rfl) (by decide) rfl (fun ls hl => ?_)
                                refine lv_goto (tgt := 59) hx hb dB_3_2_12.1.2.1.2 (by decide) ?_
                                exact ih_11 y_31 c_g29_11 c_g30_11 c_g31_11 _ _ _ (by omega) (by first | with_reducible assumption | omega | assumption) (by first | with_reducible assumption | omega | assumption) (by first | exact cw_nx hn_ (by have e_ := nI2 (a := (0 : Int32)) (b := y_31) (by omega) (by omega); omega) | exact cw_nx (by assumption) (by rw [cl_0, Nat.add_zero])) (by first | with_reducible assumption | assumption | exact rng_zero (by omega) (by omega) | exact orng_zero) (by first | with_reducible assumption | assumption | exact rng_zero (by omega) (by omega) | exact orng_zero) ⟨hP, hD⟩ hS (lv_sub hl [0, 4, 5, 6, 7, 8] rfl)
                              · have t_30 : ¬ (1099511627776 : Int64).toInt ≤ y_29.toInt := fun h => c_30 ((lg_cmp_ge y_29 1099511627776).mpr (Int64.le_iff_toInt_le.mpr h))
                                have hr6_ := cw_rng v2_11 (by omega) hgc hw2_.1
                                refine lv_aload_n hx hb dB_3_2_10.1.2.1.1 rfl (lv_at hl 6 rfl) ?_
                                refine va_get (ci := 12) (v := .ref g29) (C := RX12) (T := TX12) (N := 34) hx hb hts (fun _ h => List.mem_cons_of_mem _ (List.mem_append_right _ h)) hown hK.1 hP 0 rfl rfl 29 (by decide) (hts (.fieldLink RX12 70 "CutAtlasModel" "paid" "[J") (List.mem_of_getElem? (i := 2) rfl)) (fun _ h9 => h9) rfl dB_3_2_10.1.2.1.2 ?_
                                refine lv_iload hx hb dB_3_2_10.1.2.2.1 (lv_at hl 2 rfl) ?_
                                refine va_lald hx hb hK.1 hP 8 1 rfl rfl (i := y_20) h_28 dB_3_2_10.1.2.2.2 ?_
                                refine lv_topl (fun y_33 ey_33 => ?_)
                                have e_ := (ey_33.trans ey_29.symm).symm
                                subst e_
                                skip
                                refine lv_lload hx hb dB_3_2_10.2.1.1.1 (lv_at hl 0 rfl) ?_
                                refine lv_ladd hx hb dB_3_2_10.2.1.1.2 ?_
                                refine lv_topl (fun y_34 ey_34 => ?_)
                                have ty_34 : y_34.toInt = y_29.toInt + r_25.toInt := by rw [ey_34]; exact addL (by omega) (by omega)
                                refine lv_aload_n hx hb dB_3_2_10.2.1.2.1 rfl (lv_at hl 6 rfl) ?_
                                refine va_get (ci := 12) (v := .ref g29) (C := RX12) (T := TX12) (N := 34) hx hb hts (fun _ h => List.mem_cons_of_mem _ (List.mem_append_right _ h)) hown hK.1 hP 0 rfl rfl 29 (by decide) (hts (.fieldLink RX12 70 "CutAtlasModel" "paid" "[J") (List.mem_of_getElem? (i := 2) rfl)) (fun _ h9 => h9) rfl dB_3_2_10.2.1.2.2 ?_
                                refine lv_iload hx hb dB_3_2_10.2.2.1.1 (lv_at hl 1 rfl) ?_
                                have h_35 : vp_in y_23 12 := in_I (by first | with_reducible assumption | omega) (by omega)
                                refine va_lald hx hb hK.1 hP 8 1 rfl rfl (i := y_23) h_35 dB_3_2_10.2.2.1.2 ?_
                                refine lv_topl (fun y_36 ey_36 => ?_)
                                have ky_ : y_36.toInt = (c_g29_11 y_23.toNatClampNeg).toInt := by rw [ey_36]
                                refine W.lcmp hx hb dB_3_2_10.2.2.2.1 ?_
                                refine lv_if_ge (tgt := 220) hx hb dB_3_2_10.2.2.2.2 (by decide) (fun c_37 => ?_) (fun c_37 => ?_)
                                · have t_37 : y_36.toInt ≤ y_34.toInt := Int64.le_iff_toInt_le.mp ((lg_cmp_ge y_34 y_36).mp c_37)
                                  have hn_ : cw (gx f6 f7) (gy f6 f7) (gc f5 f8 f9 f22) (go f5 f8 f9 f10 f22) (2 * s4.toNatClampNeg) a1.toNatClampNeg s3.toNatClampNeg c_g29_11 c_g30_11 c_g31_11 (x3_3.toNatClampNeg) (2 * x4_8.toNatClampNeg + (0 : Int32).toNatClampNeg + 1) := by first | exact cw_relax v2_11 hPi hgv (by omega) hE_ ho_ (by rw [hg_.1]; omega) (by rw [hg_.1, hg_.2]; omega) (by rw [hg_.2]; exact ec_g29_11) (by rw [hg_.1]; omega) (by rw [hg_.2]; exact ec_g30_11) (by omega) (by rw [hg_.2]; exact ec_g31_11) hg_.1.symm | exact cw_skip v2_11 (fun o => (hgv _ hE_ o).1) (fun _ _ => by rw [hg_.1, hg_.2]; omega) | exact cw_skip v2_11 (fun o => (hgv _ hE_ o).1) (fun _ h => absurd h (by rw [hg_.1]; omega)) | exact cw_skip v2_11 (fun o => (hgv _ hE_ o).1) (fun o => absurd (go_iff.mp o).2 (by rw [← hc_]; omega))
                                  obtain ⟨y_38, ey_38⟩ : ∃ y : Int32, y = (0 : Int32) + 1 := ⟨_, rfl⟩
                                  have ty_38 : y_38.toInt = (0 : Int32).toInt + (1 : Int32).toInt := by rw [ey_38]; exact addI (by omega) (by omega)
                                  refine lv_iinc (v := y_38) (lv' := [(5, .int y_38), (8, .long r_25), (7, .int y_23), (6, .int y_20), (4, .int x4_8), (3, .int x3_3), (0, .ref mo), (1, .int a1), (2, .int a2)]) hx hb dB_3_2_12.1.2.1.1 hl (k := 3) rfl (by rw [ey_38]; rfl) (by decide) rfl (fun ls hl => ?_)
                                  refine lv_goto (tgt := 59) hx hb dB_3_2_12.1.2.1.2 (by decide) ?_
                                  exact ih_11 y_38 c_g29_11 c_g30_11 c_g31_11 _ _ _ (by omega) (by first | with_reducible assumption | omega | assumption) (by first | with_reducible assumption | omega | assumption) (by first | exact cw_nx hn_ (by have e_ := nI2 (a := (0 : Int32)) (b := y_38) (by omega) (by omega); omega) | exact cw_nx (by assumption) (by rw [cl_0, Nat.add_zero])) (by first | with_reducible assumption | assumption | exact rng_zero (by omega) (by omega) | exact orng_zero) (by first | with_reducible assumption | assumption | exact rng_zero (by omega) (by omega) | exact orng_zero) ⟨hP, hD⟩ hS (lv_sub hl [0, 4, 5, 6, 7, 8] rfl)
                                · have t_37 : ¬ y_36.toInt ≤ y_34.toInt := fun h => c_37 ((lg_cmp_ge y_34 y_36).mpr (Int64.le_iff_toInt_le.mpr h))
                                  refine lv_aload_n hx hb dB_3_2_11.1.1.1.1 rfl (lv_at hl 6 rfl) ?_
                                  refine va_get (ci := 12) (v := .ref g29) (C := RX12) (T := TX12) (N := 34) hx hb hts (fun _ h => List.mem_cons_of_mem _ (List.mem_append_right _ h)) hown hK.1 hP 0 rfl rfl 29 (by decide) (hts (.fieldLink RX12 70 "CutAtlasModel" "paid" "[J") (List.mem_of_getElem? (i := 2) rfl)) (fun _ h9 => h9) rfl dB_3_2_11.1.1.1.2 ?_
                                  refine lv_iload hx hb dB_3_2_11.1.1.2.1 (lv_at hl 1 rfl) ?_
                                  refine lv_aload_n hx hb dB_3_2_11.1.1.2.2 rfl (lv_at hl 6 rfl) ?_
                                  refine va_get (ci := 12) (v := .ref g29) (C := RX12) (T := TX12) (N := 34) hx hb hts (fun _ h => List.mem_cons_of_mem _ (List.mem_append_right _ h)) hown hK.1 hP 0 rfl rfl 29 (by decide) (hts (.fieldLink RX12 70 "CutAtlasModel" "paid" "[J") (List.mem_of_getElem? (i := 2) rfl)) (fun _ h9 => h9) rfl dB_3_2_11.1.2.1.1 ?_
                                  refine lv_iload hx hb dB_3_2_11.1.2.1.2 (lv_at hl 2 rfl) ?_
                                  refine va_lald hx hb hK.1 hP 8 1 rfl rfl (i := y_20) h_28 dB_3_2_11.1.2.2.1 ?_
                                  refine lv_topl (fun y_40 ey_40 => ?_)
                                  have e_ := (ey_40.trans ey_29.symm).symm
                                  subst e_
                                  skip
                                  refine lv_lload hx hb dB_3_2_11.1.2.2.2 (lv_at hl 0 rfl) ?_
                                  refine lv_ladd hx hb dB_3_2_11.2.1.1.1 ?_
                                  refine lv_topl (fun y_41 ey_41 => ?_)
                                  have ty_41 : y_41.toInt = y_29.toInt + r_25.toInt := by rw [ey_41]; exact addL (by omega) (by omega)
                                  refine va_last hx hb hK.1 hP hD hS 8 1 rfl rfl (i := y_23) h_35 dB_3_2_11.2.1.1.2 (fun H locs hP hD hS => ?_)
                                  obtain ⟨f_43, ef_43⟩ : ∃ g : Nat → Int64, g = vp_updL c_g29_11 y_23.toNatClampNeg y_41 := ⟨_, rfl⟩
                                  refine pd_K (D := D) (cl := vwCl) (H := H) (A := A) [ob12_0_ mo s0 s1 t2 s3 s4 g5 g6 g7 g8 g9 g10 s11 g12 g13 g14 g15 g16 g17 g18 g19 g20 s21 g22 g23 g24 s25 s26 s27 s28 g29 g30 g31 g32 g33, ai_ cy g5 40 f5, ai_ cy g6 40 f6, ai_ cy g7 40 f7, ai_ cy g8 40 f8, ai_ cy g9 40 f9, az_ cy g10 40 f10, ai_ cy g22 40 f22, aj_ cy g29 12 f_43, ai_ cy g30 12 c_g30_11, ai_ cy g31 12 c_g31_11] (by rw [ef_43]; exact hP) (by rw [ef_43]; exact hD) (fun hP hD => ?_)
                                  refine lv_aload_n hx hb dB_3_2_11.2.1.2.1 rfl (lv_at hl 6 rfl) ?_
                                  refine va_get (ci := 12) (v := .ref g30) (C := RX12) (T := TX12) (N := 34) hx hb hts (fun _ h => List.mem_cons_of_mem _ (List.mem_append_right _ h)) hown hK.1 hP 0 rfl rfl 30 (by decide) (hts (.fieldLink RX12 73 "CutAtlasModel" "byLine" "[I") (List.mem_of_getElem? (i := 9) rfl)) (fun _ h9 => h9) rfl dB_3_2_11.2.1.2.2 ?_
                                  refine lv_iload hx hb dB_3_2_11.2.2.1.1 (lv_at hl 1 rfl) ?_
                                  refine lv_iload hx hb dB_3_2_11.2.2.1.2 (lv_at hl 4 rfl) ?_
                                  refine va_iast hx hb hK.1 hP hD hS 9 0 rfl rfl (i := y_23) h_35 dB_3_2_11.2.2.2.1 (fun H locs hP hD hS => ?_)
                                  obtain ⟨f_45, ef_45⟩ : ∃ g : Nat → Int32, g = upd c_g30_11 y_23.toNatClampNeg x4_8 := ⟨_, rfl⟩
                                  refine pd_K (D := D) (cl := vwCl) (H := H) (A := A) [ob12_0_ mo s0 s1 t2 s3 s4 g5 g6 g7 g8 g9 g10 s11 g12 g13 g14 g15 g16 g17 g18 g19 g20 s21 g22 g23 g24 s25 s26 s27 s28 g29 g30 g31 g32 g33, ai_ cy g5 40 f5, ai_ cy g6 40 f6, ai_ cy g7 40 f7, ai_ cy g8 40 f8, ai_ cy g9 40 f9, az_ cy g10 40 f10, ai_ cy g22 40 f22, aj_ cy g29 12 f_43, ai_ cy g30 12 f_45, ai_ cy g31 12 c_g31_11] (by rw [ef_45]; exact hP) (by rw [ef_45]; exact hD) (fun hP hD => ?_)
                                  have rf_45 : rng f_45 12 (0) (39) := by rw [ef_45]; exact rng_upd rc_g30_11 (by omega) (by omega)
                                  refine lv_aload_n hx hb dB_3_2_11.2.2.2.2 rfl (lv_at hl 6 rfl) ?_
                                  refine va_get (ci := 12) (v := .ref g31) (C := RX12) (T := TX12) (N := 34) hx hb hts (fun _ h => List.mem_cons_of_mem _ (List.mem_append_right _ h)) hown hK.1 hP 0 rfl rfl 31 (by decide) (hts (.fieldLink RX12 76 "CutAtlasModel" "byPlace" "[I") (List.mem_of_getElem? (i := 10) rfl)) (fun _ h9 => h9) rfl dB_3_2_12.1.1.1.1 ?_
                                  refine lv_iload hx hb dB_3_2_12.1.1.1.2 (lv_at hl 1 rfl) ?_
                                  refine lv_iload hx hb dB_3_2_12.1.1.2.1 (lv_at hl 2 rfl) ?_
                                  refine va_iast hx hb hK.1 hP hD hS 10 0 rfl rfl (i := y_23) h_35 dB_3_2_12.1.1.2.2 (fun H locs hP hD hS => ?_)
                                  obtain ⟨f_47, ef_47⟩ : ∃ g : Nat → Int32, g = upd c_g31_11 y_23.toNatClampNeg y_20 := ⟨_, rfl⟩
                                  refine pd_K (D := D) (cl := vwCl) (H := H) (A := A) [ob12_0_ mo s0 s1 t2 s3 s4 g5 g6 g7 g8 g9 g10 s11 g12 g13 g14 g15 g16 g17 g18 g19 g20 s21 g22 g23 g24 s25 s26 s27 s28 g29 g30 g31 g32 g33, ai_ cy g5 40 f5, ai_ cy g6 40 f6, ai_ cy g7 40 f7, ai_ cy g8 40 f8, ai_ cy g9 40 f9, az_ cy g10 40 f10, ai_ cy g22 40 f22, aj_ cy g29 12 f_43, ai_ cy g30 12 f_45, ai_ cy g31 12 f_47] (by rw [ef_47]; exact hP) (by rw [ef_47]; exact hD) (fun hP hD => ?_)
                                  have rf_47 : rng f_47 12 (0) (11) := by rw [ef_47]; exact rng_upd rc_g31_11 (by omega) (by omega)
                                  have hn_ : cw (gx f6 f7) (gy f6 f7) (gc f5 f8 f9 f22) (go f5 f8 f9 f10 f22) (2 * s4.toNatClampNeg) a1.toNatClampNeg s3.toNatClampNeg f_43 f_45 f_47 (x3_3.toNatClampNeg) (2 * x4_8.toNatClampNeg + (0 : Int32).toNatClampNeg + 1) := by first | exact cw_relax v2_11 hPi hgv (by omega) hE_ ho_ (by rw [hg_.1]; omega) (by rw [hg_.1, hg_.2]; omega) (by rw [hg_.2]; exact ef_43) (by rw [hg_.1]; omega) (by rw [hg_.2]; exact ef_45) (by omega) (by rw [hg_.2]; exact ef_47) hg_.1.symm | exact cw_skip v2_11 (fun o => (hgv _ hE_ o).1) (fun _ _ => by rw [hg_.1, hg_.2]; omega) | exact cw_skip v2_11 (fun o => (hgv _ hE_ o).1) (fun _ h => absurd h (by rw [hg_.1]; omega)) | exact cw_skip v2_11 (fun o => (hgv _ hE_ o).1) (fun o => absurd (go_iff.mp o).2 (by rw [← hc_]; omega))
                                  obtain ⟨y_48, ey_48⟩ : ∃ y : Int32, y = (0 : Int32) + 1 := ⟨_, rfl⟩
                                  have ty_48 : y_48.toInt = (0 : Int32).toInt + (1 : Int32).toInt := by rw [ey_48]; exact addI (by omega) (by omega)
                                  refine lv_iinc (v := y_48) (lv' := [(5, .int y_48), (8, .long r_25), (7, .int y_23), (6, .int y_20), (4, .int x4_8), (3, .int x3_3), (0, .ref mo), (1, .int a1), (2, .int a2)]) hx hb dB_3_2_12.1.2.1.1 hl (k := 3) rfl (by rw [ey_48]; rfl) (by decide) rfl (fun ls hl => ?_)
                                  refine lv_goto (tgt := 59) hx hb dB_3_2_12.1.2.1.2 (by decide) ?_
                                  exact ih_11 y_48 f_43 f_45 f_47 _ _ _ (by omega) (by first | with_reducible assumption | omega | assumption) (by first | with_reducible assumption | omega | assumption) (by first | exact cw_nx hn_ (by have e_ := nI2 (a := (0 : Int32)) (b := y_48) (by omega) (by omega); omega) | exact cw_nx (by assumption) (by rw [cl_0, Nat.add_zero])) (by first | with_reducible assumption | assumption | exact rng_zero (by omega) (by omega) | exact orng_zero) (by first | with_reducible assumption | assumption | exact rng_zero (by omega) (by omega) | exact orng_zero) ⟨hP, hD⟩ hS (lv_sub hl [0, 4, 5, 6, 7, 8] rfl)
                    · refine lv_iload hx hb dB_3_2_7.2.1.1.1 (lv_at hl 0 rfl) ?_
                      refine lv_if_ne (tgt := 90) hx hb dB_3_2_7.2.1.1.2 (by decide) (fun c_49 => ?_) (fun c_49 => ?_)
                      · have _ := c_49
                        refine lv_aload_n hx hb dB_3_2_7.2.2.2.2 rfl (lv_at hl 3 rfl) ?_
                        refine va_get (ci := 12) (v := .ref g7) (C := RX12) (T := TX12) (N := 34) hx hb hts (fun _ h => List.mem_cons_of_mem _ (List.mem_append_right _ h)) hown hK.1 hP 0 rfl rfl 7 (by decide) (hts (.fieldLink RX12 16 "CutAtlasModel" "to" "[I") (List.mem_of_getElem? (i := 7) rfl)) (fun _ h9 => h9) rfl dB_3_2_8.1.1.1.1 ?_
                        refine lv_iload hx hb dB_3_2_8.1.1.1.2 (lv_at hl 1 rfl) ?_
                        refine va_iald hx hb hK.1 hP 3 0 rfl rfl (i := x4_8) h_14 dB_3_2_8.1.1.2.1 ?_
                        refine lv_topi (fun y_51 ey_51 => ?_)
                        have ky_51 : y_51.toInt = (f7 x4_8.toNatClampNeg).toInt := by rw [ey_51]
                        have ry_51 : 0 ≤ y_51.toInt ∧ y_51.toInt ≤ 11 := by rw [ey_51]; exact r_f7 _ (in_lt h_14)
                        refine lv_istore (lv' := [(6, .int y_51), (5, .int 1), (4, .int x4_8), (3, .int x3_3), (0, .ref mo), (1, .int a1), (2, .int a2)]) hx hb dB_3_2_8.1.1.2.2 hl (by decide) rfl (fun ls hl => ?_)
                        refine lv_iload hx hb dB_3_2_8.1.2.1.1 (lv_at hl 1 rfl) ?_
                        refine lv_if_ne (tgt := 114) hx hb dB_3_2_8.1.2.1.2 (by decide) (fun c_52 => ?_) (fun c_52 => ?_)
                        · have _ := c_52
                          refine lv_aload_n hx hb dB_3_2_8.2.1.2.2 rfl (lv_at hl 4 rfl) ?_
                          refine va_get (ci := 12) (v := .ref g6) (C := RX12) (T := TX12) (N := 34) hx hb hts (fun _ h => List.mem_cons_of_mem _ (List.mem_append_right _ h)) hown hK.1 hP 0 rfl rfl 6 (by decide) (hts (.fieldLink RX12 13 "CutAtlasModel" "from" "[I") (List.mem_of_getElem? (i := 6) rfl)) (fun _ h9 => h9) rfl dB_3_2_8.2.2.1.1 ?_
                          refine lv_iload hx hb dB_3_2_8.2.2.1.2 (lv_at hl 2 rfl) ?_
                          refine va_iald hx hb hK.1 hP 2 0 rfl rfl (i := x4_8) h_14 dB_3_2_8.2.2.2.1 ?_
                          refine lv_topi (fun y_54 ey_54 => ?_)
                          have ky_54 : y_54.toInt = (f6 x4_8.toNatClampNeg).toInt := by rw [ey_54]
                          have ry_54 : 0 ≤ y_54.toInt ∧ y_54.toInt ≤ 11 := by rw [ey_54]; exact r_f6 _ (in_lt h_14)
                          refine lv_istore (lv' := [(7, .int y_54), (6, .int y_51), (5, .int 1), (4, .int x4_8), (3, .int x3_3), (0, .ref mo), (1, .int a1), (2, .int a2)]) hx hb dB_3_2_8.2.2.2.2 hl (by decide) rfl (fun ls hl => ?_)
                          refine lv_aload_n hx hb dB_3_2_9.1.1.1.1 rfl (lv_at hl 5 rfl) ?_
                          refine lv_iload hx hb dB_3_2_9.1.1.1.2 (lv_at hl 3 rfl) ?_
                          refine lv_iload hx hb dB_3_2_9.1.1.2.1 (lv_at hl 2 rfl) ?_
                          refine lv_if_ne (tgt := 135) hx hb dB_3_2_9.1.1.2.2 (by decide) (fun c_55 => ?_) (fun c_55 => ?_)
                          · have _ := c_55
                            refine lv_iconst (v := 0) hx hb dB_3_2_9.1.2.2.1 (by decide) ?_
                            refine ct_R hP hD [ob12_0_ mo s0 s1 t2 s3 s4 g5 g6 g7 g8 g9 g10 s11 g12 g13 g14 g15 g16 g17 g18 g19 g20 s21 g22 g23 g24 s25 s26 s27 s28 g29 g30 g31 g32 g33, ai_ cy g5 40 f5, ai_ cy g8 40 f8, ai_ cy g9 40 f9, ai_ cy g22 40 f22] [0, 1, 4, 5, 7] (by decide) rfl (fun hPc hDw => ?_)
                            have hFc := va_free (wc := []) hD hS hA [] rfl
                            refine va_calll (va_runV (As := [.int x4_8, .int 0]) (rest := []) ⟨hx, hb, hml, hown, hts⟩ (c_X12_step2 l D cy H.size mo g5 g6 g7 g8 g9 g10 g12 g13 g14 g15 g16 g17 g18 g19 g20 g22 g23 g24 g29 g30 g31 g32 g33 s0 s1 s3 s4 s11 s21 s25 s26 s27 s28 t2 f5 f8 f9 f22 x4_8 (0 : Int32) (by first | with_reducible assumption | omega | assumption) (by first | with_reducible assumption | omega | assumption) (by first | with_reducible assumption | omega | assumption) (by first | with_reducible assumption | omega | assumption) (by first | with_reducible assumption | assumption | omega) (by first | with_reducible assumption | assumption | omega)) (cwV 2 hts gX12_cheapWay_X12_step rfl rfl rfl ⟨rfl, hd_X12_step⟩ ⟨Nat.le_of_ble_eq_true rfl, Nat.le_of_ble_eq_true rfl⟩) ⟨bl_, va_recvX hK.1 hP (ci := 12) (q0 := 0) rfl rfl, fun U hU hW => ⟨rfl, by rw [hU], by rw [hU]; exact hPc, kk_mv hW hK, hDw⟩⟩ rfl rfl hl.1 rfl (lv_room (Nat.le_of_ble_eq_true rfl)) dB_3_2_9.1.2.2.2 ⟨Nat.le_of_ble_eq_true rfl, Nat.le_of_ble_eq_true rfl⟩) hS (fun q _ h => hFc q h) hFc (fun r_56 u t H locs ht hvm hw hB hz1 hk1 hS => ?_)
                            have hP : va_P D vwCl _ H := ro_keep hP hk1
                            have f0_r_56 := hw
                            have hc_ : r_56.toInt = gc f5 f8 f9 f22 (2 * x4_8.toNatClampNeg + (1 : Int32).toNatClampNeg) := by first | exact f0_r_56.trans gc_0.symm | exact f0_r_56.trans gc_1.symm
                            have hg_ : (gx f6 f7 (2 * x4_8.toNatClampNeg + (1 : Int32).toNatClampNeg) = y_51.toNatClampNeg ∧ gy f6 f7 (2 * x4_8.toNatClampNeg + (1 : Int32).toNatClampNeg) = y_54.toNatClampNeg) := by first | (rw [ey_51, ey_54]; exact gx_0) | (rw [ey_51, ey_54]; exact gx_1)
                            have c5_ := clI (i := (1 : Int32)) (by omega)
                            have hE_ : 2 * x4_8.toNatClampNeg + (1 : Int32).toNatClampNeg < 2 * s4.toNatClampNeg := by omega
                            refine lv_lstore (lv' := [(8, .long r_56), (7, .int y_54), (6, .int y_51), (5, .int 1), (4, .int x4_8), (3, .int x3_3), (0, .ref mo), (1, .int a1), (2, .int a2)]) hx hb dB_3_2_9.2.1.1.1 hl (by decide) rfl (fun ls hl => ?_)
                            refine lv_lload hx hb dB_3_2_9.2.1.1.2 (lv_at hl 0 rfl) ?_
                            refine lv_ldc2 (v := 1000000) hx hb hown (hts (.constantLong RX12 118 (1000000)) (List.mem_of_getElem? (i := 8) rfl)) dB_3_2_9.2.1.2.1 ?_
                            refine W.lcmp hx hb dB_3_2_9.2.1.2.2 ?_
                            refine lv_if_ge (tgt := 220) hx hb dB_3_2_9.2.2.1.1 (by decide) (fun c_57 => ?_) (fun c_57 => ?_)
                            · have t_57 : (1000000 : Int64).toInt ≤ r_56.toInt := Int64.le_iff_toInt_le.mp ((lg_cmp_ge r_56 1000000).mp c_57)
                              have hn_ : cw (gx f6 f7) (gy f6 f7) (gc f5 f8 f9 f22) (go f5 f8 f9 f10 f22) (2 * s4.toNatClampNeg) a1.toNatClampNeg s3.toNatClampNeg c_g29_11 c_g30_11 c_g31_11 (x3_3.toNatClampNeg) (2 * x4_8.toNatClampNeg + (1 : Int32).toNatClampNeg + 1) := by first | exact cw_relax v2_11 hPi hgv (by omega) hE_ ho_ (by rw [hg_.1]; omega) (by rw [hg_.1, hg_.2]; omega) (by rw [hg_.2]; exact ec_g29_11) (by rw [hg_.1]; omega) (by rw [hg_.2]; exact ec_g30_11) (by omega) (by rw [hg_.2]; exact ec_g31_11) hg_.1.symm | exact cw_skip v2_11 (fun o => (hgv _ hE_ o).1) (fun _ _ => by rw [hg_.1, hg_.2]; omega) | exact cw_skip v2_11 (fun o => (hgv _ hE_ o).1) (fun _ h => absurd h (by rw [hg_.1]; omega)) | exact cw_skip v2_11 (fun o => (hgv _ hE_ o).1) (fun o => absurd (go_iff.mp o).2 (by rw [← hc_]; omega))
                              obtain ⟨y_58, ey_58⟩ : ∃ y : Int32, y = (1 : Int32) + 1 := ⟨_, rfl⟩
                              have ty_58 : y_58.toInt = (1 : Int32).toInt + (1 : Int32).toInt := by rw [ey_58]; exact addI (by omega) (by omega)
                              refine lv_iinc (v := y_58) (lv' := [(5, .int y_58), (8, .long r_56), (7, .int y_54), (6, .int y_51), (4, .int x4_8), (3, .int x3_3), (0, .ref mo), (1, .int a1), (2, .int a2)]) hx hb dB_3_2_12.1.2.1.1 hl (k := 3) rfl (by rw [ey_58]; rfl) (by decide) rfl (fun ls hl => ?_)
                              refine lv_goto (tgt := 59) hx hb dB_3_2_12.1.2.1.2 (by decide) ?_
                              exact ih_11 y_58 c_g29_11 c_g30_11 c_g31_11 _ _ _ (by omega) (by first | with_reducible assumption | omega | assumption) (by first | with_reducible assumption | omega | assumption) (by first | exact cw_nx hn_ (by have e_ := nI2 (a := (1 : Int32)) (b := y_58) (by omega) (by omega); omega) | exact cw_nx (by assumption) (by rw [cl_0, Nat.add_zero])) (by first | with_reducible assumption | assumption | exact rng_zero (by omega) (by omega) | exact orng_zero) (by first | with_reducible assumption | assumption | exact rng_zero (by omega) (by omega) | exact orng_zero) ⟨hP, hD⟩ hS (lv_sub hl [0, 4, 5, 6, 7, 8] rfl)
                            · have t_57 : ¬ (1000000 : Int64).toInt ≤ r_56.toInt := fun h => c_57 ((lg_cmp_ge r_56 1000000).mpr (Int64.le_iff_toInt_le.mpr h))
                              have ho_ : go f5 f8 f9 f10 f22 (2 * x4_8.toNatClampNeg + (1 : Int32).toNatClampNeg) = true := go_at (by omega) (by omega) hc_ (by omega)
                              have hw_ := hgv _ hE_ ho_
                              have hw2_ : y_51.toNatClampNeg < s3.toNatClampNeg ∧ y_54.toNatClampNeg < s3.toNatClampNeg := by rw [← hg_.1, ← hg_.2]; exact hw_
                              have hcl_ := hgc _ hE_ ho_
                              refine lv_aload_n hx hb dB_3_2_9.2.2.1.2 rfl (lv_at hl 6 rfl) ?_
                              refine va_get (ci := 12) (v := .ref g29) (C := RX12) (T := TX12) (N := 34) hx hb hts (fun _ h => List.mem_cons_of_mem _ (List.mem_append_right _ h)) hown hK.1 hP 0 rfl rfl 29 (by decide) (hts (.fieldLink RX12 70 "CutAtlasModel" "paid" "[J") (List.mem_of_getElem? (i := 2) rfl)) (fun _ h9 => h9) rfl dB_3_2_9.2.2.2.1 ?_
                              refine lv_iload hx hb dB_3_2_9.2.2.2.2 (lv_at hl 2 rfl) ?_
                              have h_59 : vp_in y_51 12 := in_I (by first | with_reducible assumption | omega) (by omega)
                              refine va_lald hx hb hK.1 hP 8 1 rfl rfl (i := y_51) h_59 dB_3_2_10.1.1.1.1 ?_
                              refine lv_topl (fun y_60 ey_60 => ?_)
                              have kx_ : y_60.toInt = (c_g29_11 y_51.toNatClampNeg).toInt := by rw [ey_60]
                              refine lv_ldc2 (v := 1099511627776) hx hb hown (hts (.constantLong RX12 211 (1099511627776)) (List.mem_of_getElem? (i := 3) rfl)) dB_3_2_10.1.1.1.2 ?_
                              refine W.lcmp hx hb dB_3_2_10.1.1.2.1 ?_
                              refine lv_if_ge (tgt := 220) hx hb dB_3_2_10.1.1.2.2 (by decide) (fun c_61 => ?_) (fun c_61 => ?_)
                              · have t_61 : (1099511627776 : Int64).toInt ≤ y_60.toInt := Int64.le_iff_toInt_le.mp ((lg_cmp_ge y_60 1099511627776).mp c_61)
                                have hn_ : cw (gx f6 f7) (gy f6 f7) (gc f5 f8 f9 f22) (go f5 f8 f9 f10 f22) (2 * s4.toNatClampNeg) a1.toNatClampNeg s3.toNatClampNeg c_g29_11 c_g30_11 c_g31_11 (x3_3.toNatClampNeg) (2 * x4_8.toNatClampNeg + (1 : Int32).toNatClampNeg + 1) := by first | exact cw_relax v2_11 hPi hgv (by omega) hE_ ho_ (by rw [hg_.1]; omega) (by rw [hg_.1, hg_.2]; omega) (by rw [hg_.2]; exact ec_g29_11) (by rw [hg_.1]; omega) (by rw [hg_.2]; exact ec_g30_11) (by omega) (by rw [hg_.2]; exact ec_g31_11) hg_.1.symm | exact cw_skip v2_11 (fun o => (hgv _ hE_ o).1) (fun _ _ => by rw [hg_.1, hg_.2]; omega) | exact cw_skip v2_11 (fun o => (hgv _ hE_ o).1) (fun _ h => absurd h (by rw [hg_.1]; omega)) | exact cw_skip v2_11 (fun o => (hgv _ hE_ o).1) (fun o => absurd (go_iff.mp o).2 (by rw [← hc_]; omega))
                                obtain ⟨y_62, ey_62⟩ : ∃ y : Int32, y = (1 : Int32) + 1 := ⟨_, rfl⟩
                                have ty_62 : y_62.toInt = (1 : Int32).toInt + (1 : Int32).toInt := by rw [ey_62]; exact addI (by omega) (by omega)
                                refine lv_iinc (v := y_62) (lv' := [(5, .int y_62), (8, .long r_56), (7, .int y_54), (6, .int y_51), (4, .int x4_8), (3, .int x3_3), (0, .ref mo), (1, .int a1), (2, .int a2)]) hx hb dB_3_2_12.1.2.1.1 hl (k := 3) rfl (by rw [ey_62]; rfl) (by decide) rfl (fun ls hl => ?_)
                                refine lv_goto (tgt := 59) hx hb dB_3_2_12.1.2.1.2 (by decide) ?_
                                exact ih_11 y_62 c_g29_11 c_g30_11 c_g31_11 _ _ _ (by omega) (by first | with_reducible assumption | omega | assumption) (by first | with_reducible assumption | omega | assumption) (by first | exact cw_nx hn_ (by have e_ := nI2 (a := (1 : Int32)) (b := y_62) (by omega) (by omega); omega) | exact cw_nx (by assumption) (by rw [cl_0, Nat.add_zero])) (by first | with_reducible assumption | assumption | exact rng_zero (by omega) (by omega) | exact orng_zero) (by first | with_reducible assumption | assumption | exact rng_zero (by omega) (by omega) | exact orng_zero) ⟨hP, hD⟩ hS (lv_sub hl [0, 4, 5, 6, 7, 8] rfl)
                              · have t_61 : ¬ (1099511627776 : Int64).toInt ≤ y_60.toInt := fun h => c_61 ((lg_cmp_ge y_60 1099511627776).mpr (Int64.le_iff_toInt_le.mpr h))
                                have hr6_ := cw_rng v2_11 (by omega) hgc hw2_.1
                                refine lv_aload_n hx hb dB_3_2_10.1.2.1.1 rfl (lv_at hl 6 rfl) ?_
                                refine va_get (ci := 12) (v := .ref g29) (C := RX12) (T := TX12) (N := 34) hx hb hts (fun _ h => List.mem_cons_of_mem _ (List.mem_append_right _ h)) hown hK.1 hP 0 rfl rfl 29 (by decide) (hts (.fieldLink RX12 70 "CutAtlasModel" "paid" "[J") (List.mem_of_getElem? (i := 2) rfl)) (fun _ h9 => h9) rfl dB_3_2_10.1.2.1.2 ?_
                                refine lv_iload hx hb dB_3_2_10.1.2.2.1 (lv_at hl 2 rfl) ?_
                                refine va_lald hx hb hK.1 hP 8 1 rfl rfl (i := y_51) h_59 dB_3_2_10.1.2.2.2 ?_
                                refine lv_topl (fun y_64 ey_64 => ?_)
                                have e_ := (ey_64.trans ey_60.symm).symm
                                subst e_
                                skip
                                refine lv_lload hx hb dB_3_2_10.2.1.1.1 (lv_at hl 0 rfl) ?_
                                refine lv_ladd hx hb dB_3_2_10.2.1.1.2 ?_
                                refine lv_topl (fun y_65 ey_65 => ?_)
                                have ty_65 : y_65.toInt = y_60.toInt + r_56.toInt := by rw [ey_65]; exact addL (by omega) (by omega)
                                refine lv_aload_n hx hb dB_3_2_10.2.1.2.1 rfl (lv_at hl 6 rfl) ?_
                                refine va_get (ci := 12) (v := .ref g29) (C := RX12) (T := TX12) (N := 34) hx hb hts (fun _ h => List.mem_cons_of_mem _ (List.mem_append_right _ h)) hown hK.1 hP 0 rfl rfl 29 (by decide) (hts (.fieldLink RX12 70 "CutAtlasModel" "paid" "[J") (List.mem_of_getElem? (i := 2) rfl)) (fun _ h9 => h9) rfl dB_3_2_10.2.1.2.2 ?_
                                refine lv_iload hx hb dB_3_2_10.2.2.1.1 (lv_at hl 1 rfl) ?_
                                have h_66 : vp_in y_54 12 := in_I (by first | with_reducible assumption | omega) (by omega)
                                refine va_lald hx hb hK.1 hP 8 1 rfl rfl (i := y_54) h_66 dB_3_2_10.2.2.1.2 ?_
                                refine lv_topl (fun y_67 ey_67 => ?_)
                                have ky_ : y_67.toInt = (c_g29_11 y_54.toNatClampNeg).toInt := by rw [ey_67]
                                refine W.lcmp hx hb dB_3_2_10.2.2.2.1 ?_
                                refine lv_if_ge (tgt := 220) hx hb dB_3_2_10.2.2.2.2 (by decide) (fun c_68 => ?_) (fun c_68 => ?_)
                                · have t_68 : y_67.toInt ≤ y_65.toInt := Int64.le_iff_toInt_le.mp ((lg_cmp_ge y_65 y_67).mp c_68)
                                  have hn_ : cw (gx f6 f7) (gy f6 f7) (gc f5 f8 f9 f22) (go f5 f8 f9 f10 f22) (2 * s4.toNatClampNeg) a1.toNatClampNeg s3.toNatClampNeg c_g29_11 c_g30_11 c_g31_11 (x3_3.toNatClampNeg) (2 * x4_8.toNatClampNeg + (1 : Int32).toNatClampNeg + 1) := by first | exact cw_relax v2_11 hPi hgv (by omega) hE_ ho_ (by rw [hg_.1]; omega) (by rw [hg_.1, hg_.2]; omega) (by rw [hg_.2]; exact ec_g29_11) (by rw [hg_.1]; omega) (by rw [hg_.2]; exact ec_g30_11) (by omega) (by rw [hg_.2]; exact ec_g31_11) hg_.1.symm | exact cw_skip v2_11 (fun o => (hgv _ hE_ o).1) (fun _ _ => by rw [hg_.1, hg_.2]; omega) | exact cw_skip v2_11 (fun o => (hgv _ hE_ o).1) (fun _ h => absurd h (by rw [hg_.1]; omega)) | exact cw_skip v2_11 (fun o => (hgv _ hE_ o).1) (fun o => absurd (go_iff.mp o).2 (by rw [← hc_]; omega))
                                  obtain ⟨y_69, ey_69⟩ : ∃ y : Int32, y = (1 : Int32) + 1 := ⟨_, rfl⟩
                                  have ty_69 : y_69.toInt = (1 : Int32).toInt + (1 : Int32).toInt := by rw [ey_69]; exact addI (by omega) (by omega)
                                  refine lv_iinc (v := y_69) (lv' := [(5, .int y_69), (8, .long r_56), (7, .int y_54), (6, .int y_51), (4, .int x4_8), (3, .int x3_3), (0, .ref mo), (1, .int a1), (2, .int a2)]) hx hb dB_3_2_12.1.2.1.1 hl (k := 3) rfl (by rw [ey_69]; rfl) (by decide) rfl (fun ls hl => ?_)
                                  refine lv_goto (tgt := 59) hx hb dB_3_2_12.1.2.1.2 (by decide) ?_
                                  exact ih_11 y_69 c_g29_11 c_g30_11 c_g31_11 _ _ _ (by omega) (by first | with_reducible assumption | omega | assumption) (by first | with_reducible assumption | omega | assumption) (by first | exact cw_nx hn_ (by have e_ := nI2 (a := (1 : Int32)) (b := y_69) (by omega) (by omega); omega) | exact cw_nx (by assumption) (by rw [cl_0, Nat.add_zero])) (by first | with_reducible assumption | assumption | exact rng_zero (by omega) (by omega) | exact orng_zero) (by first | with_reducible assumption | assumption | exact rng_zero (by omega) (by omega) | exact orng_zero) ⟨hP, hD⟩ hS (lv_sub hl [0, 4, 5, 6, 7, 8] rfl)
                                · have t_68 : ¬ y_67.toInt ≤ y_65.toInt := fun h => c_68 ((lg_cmp_ge y_65 y_67).mpr (Int64.le_iff_toInt_le.mpr h))
                                  refine lv_aload_n hx hb dB_3_2_11.1.1.1.1 rfl (lv_at hl 6 rfl) ?_
                                  refine va_get (ci := 12) (v := .ref g29) (C := RX12) (T := TX12) (N := 34) hx hb hts (fun _ h => List.mem_cons_of_mem _ (List.mem_append_right _ h)) hown hK.1 hP 0 rfl rfl 29 (by decide) (hts (.fieldLink RX12 70 "CutAtlasModel" "paid" "[J") (List.mem_of_getElem? (i := 2) rfl)) (fun _ h9 => h9) rfl dB_3_2_11.1.1.1.2 ?_
                                  refine lv_iload hx hb dB_3_2_11.1.1.2.1 (lv_at hl 1 rfl) ?_
                                  refine lv_aload_n hx hb dB_3_2_11.1.1.2.2 rfl (lv_at hl 6 rfl) ?_
                                  refine va_get (ci := 12) (v := .ref g29) (C := RX12) (T := TX12) (N := 34) hx hb hts (fun _ h => List.mem_cons_of_mem _ (List.mem_append_right _ h)) hown hK.1 hP 0 rfl rfl 29 (by decide) (hts (.fieldLink RX12 70 "CutAtlasModel" "paid" "[J") (List.mem_of_getElem? (i := 2) rfl)) (fun _ h9 => h9) rfl dB_3_2_11.1.2.1.1 ?_
                                  refine lv_iload hx hb dB_3_2_11.1.2.1.2 (lv_at hl 2 rfl) ?_
                                  refine va_lald hx hb hK.1 hP 8 1 rfl rfl (i := y_51) h_59 dB_3_2_11.1.2.2.1 ?_
                                  refine lv_topl (fun y_71 ey_71 => ?_)
                                  have e_ := (ey_71.trans ey_60.symm).symm
                                  subst e_
                                  skip
                                  refine lv_lload hx hb dB_3_2_11.1.2.2.2 (lv_at hl 0 rfl) ?_
                                  refine lv_ladd hx hb dB_3_2_11.2.1.1.1 ?_
                                  refine lv_topl (fun y_72 ey_72 => ?_)
                                  have ty_72 : y_72.toInt = y_60.toInt + r_56.toInt := by rw [ey_72]; exact addL (by omega) (by omega)
                                  refine va_last hx hb hK.1 hP hD hS 8 1 rfl rfl (i := y_54) h_66 dB_3_2_11.2.1.1.2 (fun H locs hP hD hS => ?_)
                                  obtain ⟨f_74, ef_74⟩ : ∃ g : Nat → Int64, g = vp_updL c_g29_11 y_54.toNatClampNeg y_72 := ⟨_, rfl⟩
                                  refine pd_K (D := D) (cl := vwCl) (H := H) (A := A) [ob12_0_ mo s0 s1 t2 s3 s4 g5 g6 g7 g8 g9 g10 s11 g12 g13 g14 g15 g16 g17 g18 g19 g20 s21 g22 g23 g24 s25 s26 s27 s28 g29 g30 g31 g32 g33, ai_ cy g5 40 f5, ai_ cy g6 40 f6, ai_ cy g7 40 f7, ai_ cy g8 40 f8, ai_ cy g9 40 f9, az_ cy g10 40 f10, ai_ cy g22 40 f22, aj_ cy g29 12 f_74, ai_ cy g30 12 c_g30_11, ai_ cy g31 12 c_g31_11] (by rw [ef_74]; exact hP) (by rw [ef_74]; exact hD) (fun hP hD => ?_)
                                  refine lv_aload_n hx hb dB_3_2_11.2.1.2.1 rfl (lv_at hl 6 rfl) ?_
                                  refine va_get (ci := 12) (v := .ref g30) (C := RX12) (T := TX12) (N := 34) hx hb hts (fun _ h => List.mem_cons_of_mem _ (List.mem_append_right _ h)) hown hK.1 hP 0 rfl rfl 30 (by decide) (hts (.fieldLink RX12 73 "CutAtlasModel" "byLine" "[I") (List.mem_of_getElem? (i := 9) rfl)) (fun _ h9 => h9) rfl dB_3_2_11.2.1.2.2 ?_
                                  refine lv_iload hx hb dB_3_2_11.2.2.1.1 (lv_at hl 1 rfl) ?_
                                  refine lv_iload hx hb dB_3_2_11.2.2.1.2 (lv_at hl 4 rfl) ?_
                                  refine va_iast hx hb hK.1 hP hD hS 9 0 rfl rfl (i := y_54) h_66 dB_3_2_11.2.2.2.1 (fun H locs hP hD hS => ?_)
                                  obtain ⟨f_76, ef_76⟩ : ∃ g : Nat → Int32, g = upd c_g30_11 y_54.toNatClampNeg x4_8 := ⟨_, rfl⟩
                                  refine pd_K (D := D) (cl := vwCl) (H := H) (A := A) [ob12_0_ mo s0 s1 t2 s3 s4 g5 g6 g7 g8 g9 g10 s11 g12 g13 g14 g15 g16 g17 g18 g19 g20 s21 g22 g23 g24 s25 s26 s27 s28 g29 g30 g31 g32 g33, ai_ cy g5 40 f5, ai_ cy g6 40 f6, ai_ cy g7 40 f7, ai_ cy g8 40 f8, ai_ cy g9 40 f9, az_ cy g10 40 f10, ai_ cy g22 40 f22, aj_ cy g29 12 f_74, ai_ cy g30 12 f_76, ai_ cy g31 12 c_g31_11] (by rw [ef_76]; exact hP) (by rw [ef_76]; exact hD) (fun hP hD => ?_)
                                  have rf_76 : rng f_76 12 (0) (39) := by rw [ef_76]; exact rng_upd rc_g30_11 (by omega) (by omega)
                                  refine lv_aload_n hx hb dB_3_2_11.2.2.2.2 rfl (lv_at hl 6 rfl) ?_
                                  refine va_get (ci := 12) (v := .ref g31) (C := RX12) (T := TX12) (N := 34) hx hb hts (fun _ h => List.mem_cons_of_mem _ (List.mem_append_right _ h)) hown hK.1 hP 0 rfl rfl 31 (by decide) (hts (.fieldLink RX12 76 "CutAtlasModel" "byPlace" "[I") (List.mem_of_getElem? (i := 10) rfl)) (fun _ h9 => h9) rfl dB_3_2_12.1.1.1.1 ?_
                                  refine lv_iload hx hb dB_3_2_12.1.1.1.2 (lv_at hl 1 rfl) ?_
                                  refine lv_iload hx hb dB_3_2_12.1.1.2.1 (lv_at hl 2 rfl) ?_
                                  refine va_iast hx hb hK.1 hP hD hS 10 0 rfl rfl (i := y_54) h_66 dB_3_2_12.1.1.2.2 (fun H locs hP hD hS => ?_)
                                  obtain ⟨f_78, ef_78⟩ : ∃ g : Nat → Int32, g = upd c_g31_11 y_54.toNatClampNeg y_51 := ⟨_, rfl⟩
                                  refine pd_K (D := D) (cl := vwCl) (H := H) (A := A) [ob12_0_ mo s0 s1 t2 s3 s4 g5 g6 g7 g8 g9 g10 s11 g12 g13 g14 g15 g16 g17 g18 g19 g20 s21 g22 g23 g24 s25 s26 s27 s28 g29 g30 g31 g32 g33, ai_ cy g5 40 f5, ai_ cy g6 40 f6, ai_ cy g7 40 f7, ai_ cy g8 40 f8, ai_ cy g9 40 f9, az_ cy g10 40 f10, ai_ cy g22 40 f22, aj_ cy g29 12 f_74, ai_ cy g30 12 f_76, ai_ cy g31 12 f_78] (by rw [ef_78]; exact hP) (by rw [ef_78]; exact hD) (fun hP hD => ?_)
                                  have rf_78 : rng f_78 12 (0) (11) := by rw [ef_78]; exact rng_upd rc_g31_11 (by omega) (by omega)
                                  have hn_ : cw (gx f6 f7) (gy f6 f7) (gc f5 f8 f9 f22) (go f5 f8 f9 f10 f22) (2 * s4.toNatClampNeg) a1.toNatClampNeg s3.toNatClampNeg f_74 f_76 f_78 (x3_3.toNatClampNeg) (2 * x4_8.toNatClampNeg + (1 : Int32).toNatClampNeg + 1) := by first | exact cw_relax v2_11 hPi hgv (by omega) hE_ ho_ (by rw [hg_.1]; omega) (by rw [hg_.1, hg_.2]; omega) (by rw [hg_.2]; exact ef_74) (by rw [hg_.1]; omega) (by rw [hg_.2]; exact ef_76) (by omega) (by rw [hg_.2]; exact ef_78) hg_.1.symm | exact cw_skip v2_11 (fun o => (hgv _ hE_ o).1) (fun _ _ => by rw [hg_.1, hg_.2]; omega) | exact cw_skip v2_11 (fun o => (hgv _ hE_ o).1) (fun _ h => absurd h (by rw [hg_.1]; omega)) | exact cw_skip v2_11 (fun o => (hgv _ hE_ o).1) (fun o => absurd (go_iff.mp o).2 (by rw [← hc_]; omega))
                                  obtain ⟨y_79, ey_79⟩ : ∃ y : Int32, y = (1 : Int32) + 1 := ⟨_, rfl⟩
                                  have ty_79 : y_79.toInt = (1 : Int32).toInt + (1 : Int32).toInt := by rw [ey_79]; exact addI (by omega) (by omega)
                                  refine lv_iinc (v := y_79) (lv' := [(5, .int y_79), (8, .long r_56), (7, .int y_54), (6, .int y_51), (4, .int x4_8), (3, .int x3_3), (0, .ref mo), (1, .int a1), (2, .int a2)]) hx hb dB_3_2_12.1.2.1.1 hl (k := 3) rfl (by rw [ey_79]; rfl) (by decide) rfl (fun ls hl => ?_)
                                  refine lv_goto (tgt := 59) hx hb dB_3_2_12.1.2.1.2 (by decide) ?_
                                  exact ih_11 y_79 f_74 f_76 f_78 _ _ _ (by omega) (by first | with_reducible assumption | omega | assumption) (by first | with_reducible assumption | omega | assumption) (by first | exact cw_nx hn_ (by have e_ := nI2 (a := (1 : Int32)) (b := y_79) (by omega) (by omega); omega) | exact cw_nx (by assumption) (by rw [cl_0, Nat.add_zero])) (by first | with_reducible assumption | assumption | exact rng_zero (by omega) (by omega) | exact orng_zero) (by first | with_reducible assumption | assumption | exact rng_zero (by omega) (by omega) | exact orng_zero) ⟨hP, hD⟩ hS (lv_sub hl [0, 4, 5, 6, 7, 8] rfl)
                          · exact absurd c_55 (by decide)
                        · exact absurd c_52 (by decide)
                      · exact absurd c_49 (by decide)
    · have t_2 : ¬ s3.toInt ≤ x3_1.toInt := fun h => c_2 (Int32.le_iff_toInt_le.mpr h)
      have c3_ := clI (i := x3_1) (by omega)
      refine lv_aload_n hx hb dB_3_2_5.1.2.2.1 rfl (lv_at hl 1 rfl) ?_
      refine va_get (ci := 12) (v := .ref g29) (C := RX12) (T := TX12) (N := 34) hx hb hts (fun _ h => List.mem_cons_of_mem _ (List.mem_append_right _ h)) hown hK.1 hP 0 rfl rfl 29 (by decide) (hts (.fieldLink RX12 70 "CutAtlasModel" "paid" "[J") (List.mem_of_getElem? (i := 2) rfl)) (fun _ h9 => h9) rfl dB_3_2_5.1.2.2.2 ?_
      refine lv_iload_n hx hb dB_3_2_5.2.1.1.1 rfl (lv_at hl 0 rfl) ?_
      refine lv_iload_n hx hb dB_3_2_5.2.1.1.2 rfl (lv_at hl 0 rfl) ?_
      refine lv_iload_n hx hb dB_3_2_5.2.1.2.1 rfl (lv_at hl 2 rfl) ?_
      refine lv_icmp_ne (tgt := 24) hx hb dB_3_2_5.2.1.2.2 (by decide) (fun c_80 => ?_) (fun c_80 => ?_)
      · have t_80 : ¬ x3_1.toInt = a1.toInt := fun h => c_80 (Int32.toInt_inj.mp h)
        refine lv_ldc2 (v := 1099511627776) hx hb hown (hts (.constantLong RX12 211 (1099511627776)) (List.mem_of_getElem? (i := 3) rfl)) dB_3_2_5.2.2.2.1 ?_
        have h_81 : vp_in x3_1 12 := in_I (by first | with_reducible assumption | omega) (by omega)
        refine va_last hx hb hK.1 hP hD hS 8 1 rfl rfl (i := x3_1) h_81 dB_3_2_5.2.2.2.2 (fun H locs hP hD hS => ?_)
        obtain ⟨f_82, ef_82⟩ : ∃ g : Nat → Int64, g = vp_updL c_g29_1 x3_1.toNatClampNeg (1099511627776 : Int64) := ⟨_, rfl⟩
        refine pd_K (D := D) (cl := vwCl) (H := H) (A := A) [ob12_0_ mo s0 s1 t2 s3 s4 g5 g6 g7 g8 g9 g10 s11 g12 g13 g14 g15 g16 g17 g18 g19 g20 s21 g22 g23 g24 s25 s26 s27 s28 g29 g30 g31 g32 g33, ai_ cy g5 40 f5, ai_ cy g6 40 f6, ai_ cy g7 40 f7, ai_ cy g8 40 f8, ai_ cy g9 40 f9, az_ cy g10 40 f10, ai_ cy g22 40 f22, aj_ cy g29 12 f_82, ai_ cy g30 12 f30, ai_ cy g31 12 f31] (by rw [ef_82]; exact hP) (by rw [ef_82]; exact hD) (fun hP hD => ?_)
        obtain ⟨y_83, ey_83⟩ : ∃ y : Int32, y = x3_1 + 1 := ⟨_, rfl⟩
        have ty_83 : y_83.toInt = x3_1.toInt + (1 : Int32).toInt := by rw [ey_83]; exact addI (by omega) (by omega)
        refine lv_iinc (v := y_83) (lv' := [(3, .int y_83), (0, .ref mo), (1, .int a1), (2, .int a2)]) hx hb dB_3_2_6.1.1.1.1 hl (k := 0) rfl (by rw [ey_83]; rfl) (by decide) rfl (fun ls hl => ?_)
        refine lv_goto (tgt := 2) hx hb dB_3_2_6.1.1.1.2 (by decide) ?_
        exact ih_1 y_83 f_82 _ _ _ (by omega) (by first | with_reducible assumption | omega | assumption) (by first | with_reducible assumption | omega | assumption) (by first | exact pd_st (by assumption) (by rw [if_pos (by omega)]; decide) (by assumption) (by omega) (by omega) | exact pd_st (by assumption) (by rw [if_neg (by omega)]; decide) (by assumption) (by omega) (by omega) | (intro w hw; omega)) ⟨hP, hD⟩ hS (lv_sub hl [0, 1, 2, 3] rfl)
      · have t_80 : x3_1.toInt = a1.toInt := congrArg Int32.toInt c_80
        refine lv_lconst (v := 0) hx hb dB_3_2_5.2.2.1.1 (by decide) ?_
        refine lv_goto (tgt := 27) hx hb dB_3_2_5.2.2.1.2 (by decide) ?_
        have h_84 : vp_in x3_1 12 := in_I (by first | with_reducible assumption | omega) (by omega)
        refine va_last hx hb hK.1 hP hD hS 8 1 rfl rfl (i := x3_1) h_84 dB_3_2_5.2.2.2.2 (fun H locs hP hD hS => ?_)
        obtain ⟨f_85, ef_85⟩ : ∃ g : Nat → Int64, g = vp_updL c_g29_1 x3_1.toNatClampNeg (0 : Int64) := ⟨_, rfl⟩
        refine pd_K (D := D) (cl := vwCl) (H := H) (A := A) [ob12_0_ mo s0 s1 t2 s3 s4 g5 g6 g7 g8 g9 g10 s11 g12 g13 g14 g15 g16 g17 g18 g19 g20 s21 g22 g23 g24 s25 s26 s27 s28 g29 g30 g31 g32 g33, ai_ cy g5 40 f5, ai_ cy g6 40 f6, ai_ cy g7 40 f7, ai_ cy g8 40 f8, ai_ cy g9 40 f9, az_ cy g10 40 f10, ai_ cy g22 40 f22, aj_ cy g29 12 f_85, ai_ cy g30 12 f30, ai_ cy g31 12 f31] (by rw [ef_85]; exact hP) (by rw [ef_85]; exact hD) (fun hP hD => ?_)
        obtain ⟨y_86, ey_86⟩ : ∃ y : Int32, y = x3_1 + 1 := ⟨_, rfl⟩
        have ty_86 : y_86.toInt = x3_1.toInt + (1 : Int32).toInt := by rw [ey_86]; exact addI (by omega) (by omega)
        refine lv_iinc (v := y_86) (lv' := [(3, .int y_86), (0, .ref mo), (1, .int a1), (2, .int a2)]) hx hb dB_3_2_6.1.1.1.1 hl (k := 0) rfl (by rw [ey_86]; rfl) (by decide) rfl (fun ls hl => ?_)
        refine lv_goto (tgt := 2) hx hb dB_3_2_6.1.1.1.2 (by decide) ?_
        exact ih_1 y_86 f_85 _ _ _ (by omega) (by first | with_reducible assumption | omega | assumption) (by first | with_reducible assumption | omega | assumption) (by first | exact pd_st (by assumption) (by rw [if_pos (by omega)]; decide) (by assumption) (by omega) (by omega) | exact pd_st (by assumption) (by rw [if_neg (by omega)]; decide) (by assumption) (by omega) (by omega) | (intro w hw; omega)) ⟨hP, hD⟩ hS (lv_sub hl [0, 1, 2, 3] rfl)
end

section
theorem ch_lt {p : Nat → Nat} {s t R i : Nat} (hR : rcs p s R t) (hi : i ≤ R) (hne : itr p i t ≠ s) : i < R := by
  rcases Nat.lt_or_ge i R with h | h
  · exact h
  · have a := rcs_itr hR i hi
    rw [show R - i = 0 by omega] at a
    exact absurd a hne
theorem ch_eq {p : Nat → Nat} {s t R i : Nat} (hR : rcs p s R t) (hi : i ≤ R) (he : itr p i t = s) : i = R := by
  have a := rcs_itr hR i hi
  rw [he] at a
  have b : rcs p s 0 s := rfl
  have := rcs_un _ _ _ a b
  omega

set_option maxHeartbeats 4000000 in
set_option maxRecDepth 100000 in
theorem c_X12_cheapest (l : Launch) (D : va_G) (cy : Nat → ClassId) (sz : Nat) (mo : Nat) (g5 : Nat) (g6 : Nat) (g7 : Nat) (g8 : Nat) (g9 : Nat) (g10 : Nat) (g12 : Nat) (g13 : Nat) (g14 : Nat) (g15 : Nat) (g16 : Nat) (g17 : Nat) (g18 : Nat) (g19 : Nat) (g20 : Nat) (g22 : Nat) (g23 : Nat) (g24 : Nat) (g29 : Nat) (g30 : Nat) (g31 : Nat) (g32 : Nat) (g33 : Nat) (s0 : Int32) (s1 : Int32) (s3 : Int32) (s4 : Int32) (s11 : Int32) (s21 : Int32) (s25 : Int32) (s26 : Int32) (s27 : Int32) (s28 : Int32) (t2 : Int64) (f5 : Nat → Int32) (f6 : Nat → Int32) (f7 : Nat → Int32) (f8 : Nat → Int32) (f9 : Nat → Int32) (f10 : Nat → Int32) (f22 : Nat → Int32) (f29 : Nat → Int64) (f30 : Nat → Int32) (f31 : Nat → Int32) (a1 : Int32) (a2 : Int32) (a3 : Int32) (hN : 0 ≤ s4.toInt ∧ s4.toInt ≤ 40) (hPl : 0 ≤ s3.toInt ∧ s3.toInt ≤ 12) (h21 : s21.toInt = -9) (hnet : netE s3.toInt s4.toInt f6 f7 f10) (r_f6 : rng f6 40 (0) (11)) (r_f7 : rng f7 40 (0) (11)) (r_f8 : rng f8 40 (0) (2000)) (r_f9 : rng f9 40 (0) (100)) (r_f30 : rng f30 12 (0) (39)) (r_f31 : rng f31 12 (0) (11)) : Met l yX12_cheapest wsX12_cheapest ({ frames := 4, cells := 0, slots := 0, locals := 101 }) (va_Pc [.ref mo, .int a1, .int a2, .int a3] (fun U => U.heap.size = sz ∧ va_P D vwCl [ob12_0_ mo s0 s1 t2 s3 s4 g5 g6 g7 g8 g9 g10 s11 g12 g13 g14 g15 g16 g17 g18 g19 g20 s21 g22 g23 g24 s25 s26 s27 s28 g29 g30 g31 g32 g33, ai_ cy g5 40 f5, ai_ cy g6 40 f6, ai_ cy g7 40 f7, ai_ cy g8 40 f8, ai_ cy g9 40 f9, az_ cy g10 40 f10, ai_ cy g22 40 f22, aj_ cy g29 12 f29, ai_ cy g30 12 f30, ai_ cy g31 12 f31] U.heap ∧ kk_ D cy U ∧ va_D (fun _ => True) [ob12_0_ mo s0 s1 t2 s3 s4 g5 g6 g7 g8 g9 g10 s11 g12 g13 g14 g15 g16 g17 g18 g19 g20 s21 g22 g23 g24 s25 s26 s27 s28 g29 g30 g31 g32 g33, ai_ cy g5 40 f5, ai_ cy g6 40 f6, ai_ cy g7 40 f7, ai_ cy g8 40 f8, ai_ cy g9 40 f9, az_ cy g10 40 f10, ai_ cy g22 40 f22, aj_ cy g29 12 f29, ai_ cy g30 12 f30, ai_ cy g31 12 f31])) (va_Qi (fun (r : Int32) (_ : Unit) => True) (fun (_ : Unit) (t : State) => ∃ (e22 : Nat → Int32), ∃ (e29 : Nat → Int64), ∃ (e30 : Nat → Int32), ∃ (e31 : Nat → Int32), (rng e30 12 (0) (39)) ∧ (rng e31 12 (0) (11)) ∧ va_P D vwCl [ob12_0_ mo 0 s1 t2 s3 s4 g5 g6 g7 g8 g9 g10 s11 g12 g13 g14 g15 g16 g17 g18 g19 g20 s21 g22 g23 g24 s25 s26 s27 s28 g29 g30 g31 g32 g33, ai_ cy g5 40 f5, ai_ cy g6 40 f6, ai_ cy g7 40 f7, ai_ cy g8 40 f8, ai_ cy g9 40 f9, az_ cy g10 40 f10, ai_ cy g22 40 e22, aj_ cy g29 12 e29, ai_ cy g30 12 e30, ai_ cy g31 12 e31] t.heap ∧ va_D (va_A [ob12_0_ mo s0 s1 t2 s3 s4 g5 g6 g7 g8 g9 g10 s11 g12 g13 g14 g15 g16 g17 g18 g19 g20 s21 g22 g23 g24 s25 s26 s27 s28 g29 g30 g31 g32 g33, ai_ cy g5 40 f5, ai_ cy g6 40 f6, ai_ cy g7 40 f7, ai_ cy g8 40 f8, ai_ cy g9 40 f9, az_ cy g10 40 f10, ai_ cy g22 40 f22, aj_ cy g29 12 f29, ai_ cy g30 12 f30, ai_ cy g31 12 f31] sz) [ob12_0_ mo 0 s1 t2 s3 s4 g5 g6 g7 g8 g9 g10 s11 g12 g13 g14 g15 g16 g17 g18 g19 g20 s21 g22 g23 g24 s25 s26 s27 s28 g29 g30 g31 g32 g33, ai_ cy g5 40 f5, ai_ cy g6 40 f6, ai_ cy g7 40 f7, ai_ cy g8 40 f8, ai_ cy g9 40 f9, az_ cy g10 40 f10, ai_ cy g22 40 e22, aj_ cy g29 12 e29, ai_ cy g30 12 e30, ai_ cy g31 12 e31]) (va_A [ob12_0_ mo s0 s1 t2 s3 s4 g5 g6 g7 g8 g9 g10 s11 g12 g13 g14 g15 g16 g17 g18 g19 g20 s21 g22 g23 g24 s25 s26 s27 s28 g29 g30 g31 g32 g33, ai_ cy g5 40 f5, ai_ cy g6 40 f6, ai_ cy g7 40 f7, ai_ cy g8 40 f8, ai_ cy g9 40 f9, az_ cy g10 40 f10, ai_ cy g22 40 f22, aj_ cy g29 12 f29, ai_ cy g30 12 f30, ai_ cy g31 12 f31] sz)) 0 0 (va_A [ob12_0_ mo s0 s1 t2 s3 s4 g5 g6 g7 g8 g9 g10 s11 g12 g13 g14 g15 g16 g17 g18 g19 g20 s21 g22 g23 g24 s25 s26 s27 s28 g29 g30 g31 g32 g33, ai_ cy g5 40 f5, ai_ cy g6 40 f6, ai_ cy g7 40 f7, ai_ cy g8 40 f8, ai_ cy g9 40 f9, az_ cy g10 40 f10, ai_ cy g22 40 f22, aj_ cy g29 12 f29, ai_ cy g30 12 f30, ai_ cy g31 12 f31] sz) := by
  refine ofQ (cc := cX12_cheapest) (maxL := 10) (ret := (some .int)) (by decide) rfl ?_
  intro p e s m args below meth c s₁ Q hQ B hml hv
  obtain ⟨rfl, hsz, hP, hK, hD0⟩ := hv
  have hx := B.exec
  have hb := B.bytes
  have hr := B.returns
  have hts := atoms_spec (ws := wsX12_cheapest) B.pre
  have hown : s.vm.findClass RX12 = some m.cls := by have h_ := findClass_of_methodNamed B.named; exact h_
  have hlocks := B.notSynchronized
  subst hsz
  have hD := hD0.self (sz := s.heap.size)
  generalize hAe : va_A [ob12_0_ mo s0 s1 t2 s3 s4 g5 g6 g7 g8 g9 g10 s11 g12 g13 g14 g15 g16 g17 g18 g19 g20 s21 g22 g23 g24 s25 s26 s27 s28 g29 g30 g31 g32 g33, ai_ cy g5 40 f5, ai_ cy g6 40 f6, ai_ cy g7 40 f7, ai_ cy g8 40 f8, ai_ cy g9 40 f9, az_ cy g10 40 f10, ai_ cy g22 40 f22, aj_ cy g29 12 f29, ai_ cy g30 12 f30, ai_ cy g31 12 f31] s.heap.size = A at hD hQ
  have hA : ∀ q : Nat, s.heap.size ≤ q → A q := fun q h => by rw [← hAe]; exact Or.inr h
  have hS : va_S A s.heap s.heap [] := va_S.rf
  have hl := lv_entry ([.ref mo, .int a1, .int a2, .int a3]) (n := 10) (Nat.le_of_ble_eq_true rfl)
  rw [lg_entry_eq]
  generalize (lg_sl ([.ref mo, .int a1, .int a2, .int a3]) ++ List.replicate (10 - (lg_sl ([.ref mo, .int a1, .int a2, .int a3])).length) Slot.unset).toArray = ls at hl ⊢
  have hl : lv_has ls 10 [(0, .ref mo), (1, .int a1), (2, .int a2), (3, .int a3)] := hl
  have zm9 : ((-9) : Int32).toInt = -9 := by decide
  have zm1 : ((-1) : Int32).toInt = -1 := by decide
  have z0 : (0 : Int32).toInt = 0 := by decide
  have zl0 : (0 : Int64).toInt = 0 := by decide
  have z1 : (1 : Int32).toInt = 1 := by decide
  have z40 : (40 : Int32).toInt = 40 := by decide
  have zl500 : (500 : Int64).toInt = 500 := by decide
  have cP := clI (i := s3) (by omega)
  have cN := clI (i := s4) (by omega)
  refine lv_aload_n hx hb dB_3_2_14.1.1.1.1 rfl (lv_at hl 0 rfl) ?_
  refine lv_iconst (v := 0) hx hb dB_3_2_14.1.1.1.2 (by decide) ?_
  refine va_put (ci := 12) (v := .int 0) (ty := .int) (C := RX12) (T := TX12) (N := 34) hx hb hts (fun _ h => List.mem_cons_of_mem _ (List.mem_append_right _ h)) tyX12 tyX12_ok nmX12 hown hK.1 hP hD hS 0 rfl rfl 0 (by decide) (hts (.fieldLink RX12 85 "CutAtlasModel" "thrown" "I") (List.mem_of_getElem? (i := 1) rfl)) (fun _ h9 => h9) rfl (by decide +kernel) rfl rfl (Nat.le_of_ble_eq_true rfl) dB_3_2_14.1.1.2.1 (fun H locs hP hD hS => ?_)
  refine pd_K [ob12_0_ mo 0 s1 t2 s3 s4 g5 g6 g7 g8 g9 g10 s11 g12 g13 g14 g15 g16 g17 g18 g19 g20 s21 g22 g23 g24 s25 s26 s27 s28 g29 g30 g31 g32 g33, ai_ cy g5 40 f5, ai_ cy g6 40 f6, ai_ cy g7 40 f7, ai_ cy g8 40 f8, ai_ cy g9 40 f9, az_ cy g10 40 f10, ai_ cy g22 40 f22, aj_ cy g29 12 f29, ai_ cy g30 12 f30, ai_ cy g31 12 f31] hP hD (fun hP hD => ?_)
  refine lv_aload_n hx hb dB_3_2_14.1.1.2.2 rfl (lv_at hl 0 rfl) ?_
  refine lv_iload_n hx hb dB_3_2_14.1.2.1.1 rfl (lv_at hl 1 rfl) ?_
  refine lv_iload_n hx hb dB_3_2_14.1.2.1.2 rfl (lv_at hl 2 rfl) ?_
  refine ct_R hP hD [ob12_0_ mo 0 s1 t2 s3 s4 g5 g6 g7 g8 g9 g10 s11 g12 g13 g14 g15 g16 g17 g18 g19 g20 s21 g22 g23 g24 s25 s26 s27 s28 g29 g30 g31 g32 g33] [0] (by decide) rfl (fun hPc hDw => ?_)
  have hFc := va_free (wc := []) hD hS hA [] rfl
  refine va_calli (va_runV (As := [.int a1, .int a2]) (rest := []) ⟨hx, hb, hml, hown, hts⟩ (c_X12_arePlaces l D cy H.size mo g5 g6 g7 g8 g9 g10 g12 g13 g14 g15 g16 g17 g18 g19 g20 g22 g23 g24 g29 g30 g31 g32 g33 (0 : Int32) s1 s3 s4 s11 s21 s25 s26 s27 s28 t2 a1 a2 (by first | with_reducible assumption | omega | assumption)) (cwV 2 hts gX12_cheapest_X12_arePlaces rfl rfl rfl ⟨rfl, hd_X12_arePlaces⟩ ⟨Nat.le_of_ble_eq_true rfl, Nat.le_of_ble_eq_true rfl⟩) ⟨bl_, va_recvX hK.1 hP (ci := 12) (q0 := 0) rfl rfl, fun U hU hW => ⟨rfl, by rw [hU], by rw [hU]; exact hPc, kk_mv hW hK, hDw⟩⟩ rfl rfl hl.1 rfl (lv_room (Nat.le_of_ble_eq_true rfl)) dB_3_2_14.1.2.2.1 ⟨Nat.le_of_ble_eq_true rfl, Nat.le_of_ble_eq_true rfl⟩) hS (fun q _ h => hFc q h) hFc (fun r_1 u t H locs ht hvm hw hB hz1 hk1 hS => ?_)
  have hP : va_P D vwCl _ H := ro_keep hP hk1
  rcases hw with ⟨w_2, e_⟩ | ⟨w_2, e_⟩
  · have e_ := e_.symm
    subst e_
    refine lv_if_eq (tgt := 26) hx hb dB_3_2_14.1.2.2.2 (by decide) (fun c_3 => ?_) (fun c_3 => ?_)
    · exact absurd c_3 (by decide)
    · have _ := c_3
      refine lv_iload_n hx hb dB_3_2_14.2.1.1.1 rfl (lv_at hl 3 rfl) ?_
      refine lv_i2l (v := a3.toInt64) hx hb dB_3_2_14.2.1.1.2 rfl ?_
      have q_15 : (a3.toInt64).toInt = a3.toInt := Int32.toInt_toInt64 a3
      refine lv_lconst (v := 0) hx hb dB_3_2_14.2.1.2.1 (by decide) ?_
      refine lv_ldc2 (v := 500) hx hb hown (hts (.constantLong RX12 217 (500)) (List.mem_of_getElem? (i := 2) rfl)) dB_3_2_14.2.1.2.2 ?_
      refine ct_R hP hD [] [] (by decide) rfl (fun hPc hDw => ?_)
      have hFc := va_free (wc := []) hD hS hA [] rfl
      refine va_calli (va_runS (As := [.long a3.toInt64, .long 0, .long 500]) (rest := []) ⟨hx, hb, hml, hown, hts⟩ (c_X12_in l D cy H.size a3.toInt64 (0 : Int64) (500 : Int64)) (va_cwS 3 hts gX12_cheapest_X12_in rfl rfl rfl hd_X12_in ⟨Nat.le_of_ble_eq_true rfl, Nat.le_of_ble_eq_true rfl⟩) ⟨bl_, fun U hU hW => ⟨rfl, by rw [hU], by rw [hU]; exact hPc, kk_mv hW hK, hDw⟩⟩ rfl rfl hl.1 rfl (lv_room (Nat.le_of_ble_eq_true rfl)) dB_3_2_14.2.2.1.1 ⟨Nat.le_of_ble_eq_true rfl, Nat.le_of_ble_eq_true rfl⟩) hS (fun q _ h => hFc q h) hFc (fun r_4 u t H locs ht hvm hw hB hz1 hk1 hS => ?_)
      have hP : va_P D vwCl _ H := ro_keep hP hk1
      rcases hw with ⟨w_5, e_⟩ | ⟨w_5, e_⟩
      · have e_ := e_.symm
        subst e_
        refine lv_if_ne (tgt := 28) hx hb dB_3_2_14.2.2.1.2 (by decide) (fun c_6 => ?_) (fun c_6 => ?_)
        · have _ := c_6
          refine lv_aload_n hx hb dB_3_2_15.1.1.1.1 rfl (lv_at hl 0 rfl) ?_
          refine lv_iload_n hx hb dB_3_2_15.1.1.1.2 rfl (lv_at hl 1 rfl) ?_
          refine lv_iload_n hx hb dB_3_2_15.1.1.2.1 rfl (lv_at hl 2 rfl) ?_
          refine ct_R hP hD [ob12_0_ mo 0 s1 t2 s3 s4 g5 g6 g7 g8 g9 g10 s11 g12 g13 g14 g15 g16 g17 g18 g19 g20 s21 g22 g23 g24 s25 s26 s27 s28 g29 g30 g31 g32 g33, ai_ cy g5 40 f5, ai_ cy g6 40 f6, ai_ cy g7 40 f7, ai_ cy g8 40 f8, az_ cy g10 40 f10] [0, 1, 2, 3, 4, 6] (by decide) rfl (fun hPc hDw => ?_)
          have hFc := va_free (wc := []) hD hS hA [] rfl
          refine va_calli (va_runV (As := [.int a1, .int a2]) (rest := []) ⟨hx, hb, hml, hown, hts⟩ (c_X12_mostOf l D cy H.size mo g5 g6 g7 g8 g9 g10 g12 g13 g14 g15 g16 g17 g18 g19 g20 g22 g23 g24 g29 g30 g31 g32 g33 (0 : Int32) s1 s3 s4 s11 s21 s25 s26 s27 s28 t2 f5 f6 f7 f8 f10 a1 a2 (by first | with_reducible assumption | omega | assumption) (by first | with_reducible assumption | omega | assumption)) (cwV 2 hts gX12_cheapest_X12_mostOf rfl rfl rfl ⟨rfl, hd_X12_mostOf⟩ ⟨Nat.le_of_ble_eq_true rfl, Nat.le_of_ble_eq_true rfl⟩) ⟨bl_, va_recvX hK.1 hP (ci := 12) (q0 := 0) rfl rfl, fun U hU hW => ⟨rfl, by rw [hU], by rw [hU]; exact hPc, kk_mv hW hK, hDw⟩⟩ rfl rfl hl.1 rfl (lv_room (Nat.le_of_ble_eq_true rfl)) dB_3_2_15.1.1.2.2 ⟨Nat.le_of_ble_eq_true rfl, Nat.le_of_ble_eq_true rfl⟩) hS (fun q _ h => hFc q h) hFc (fun r_7 u t H locs ht hvm hw hB hz1 hk1 hS => ?_)
          have hP : va_P D vwCl _ H := ro_keep hP hk1
          refine lv_iload_n hx hb dB_3_2_15.1.2.1.1 rfl (lv_at hl 3 rfl) ?_
          refine lv_icmp_lt (tgt := 40) hx hb dB_3_2_15.1.2.1.2 (by decide) (fun c_8 => ?_) (fun c_8 => ?_)
          · have t_8 : r_7.toInt < a3.toInt := Int32.lt_iff_toInt_lt.mp c_8
            refine lv_iconst (v := 0) hx hb dB_3_2_15.2.1.1.1 (by decide) ?_
            refine lv_istore (lv' := [(4, .int 0), (0, .ref mo), (1, .int a1), (2, .int a2), (3, .int a3)]) hx hb dB_3_2_15.2.1.1.2 hl (by decide) rfl (fun ls hl => ?_)
            suffices LOOP_9 : ∀ (n_9 : Nat) (x4_9 : Int32) (c_g22_9 : Nat → Int32) (H : Heap) (locs : List Loc) (ls : Array Slot), 40 - x4_9.toInt < (n_9 : Int) → (0 ≤ x4_9.toInt) → (x4_9.toInt ≤ 40) → (∀ j : Nat, (j : Int) < x4_9.toInt → (c_g22_9 j).toInt = 0) → pd_2 D vwCl A [ob12_0_ mo 0 s1 t2 s3 s4 g5 g6 g7 g8 g9 g10 s11 g12 g13 g14 g15 g16 g17 g18 g19 g20 s21 g22 g23 g24 s25 s26 s27 s28 g29 g30 g31 g32 g33, ai_ cy g5 40 f5, ai_ cy g6 40 f6, ai_ cy g7 40 f7, ai_ cy g8 40 f8, ai_ cy g9 40 f9, az_ cy g10 40 f10, ai_ cy g22 40 c_g22_9, aj_ cy g29 12 f29, ai_ cy g30 12 f30, ai_ cy g31 12 f31] H → va_S A s.heap H locs → lv_has ls 10 [(4, .int x4_9), (0, .ref mo), (1, .int a1), (2, .int a2), (3, .int a3)] → W p l e ({ frames := 4, cells := 0, slots := 0, locals := 101 } : Room) s m (([.ref mo, .int a1, .int a2, .int a3] : List Value).toArray) below meth c H locs 0 0 Q (F0 m 43 ls []) from LOOP_9 ((40 - (0 : Int32).toInt).toNat + 1) (0 : Int32) f22 _ _ _ (by omega) (by first | with_reducible assumption | omega | assumption) (by first | with_reducible assumption | omega | assumption) (by first | exact zero_st (by assumption) (by assumption) (by omega) (by omega) | (intro j hj; omega)) ⟨hP, hD⟩ hS (lv_sub hl [0, 1, 2, 3, 4] rfl)
            intro n_9
            induction n_9 with
            | zero =>
              intro x4_9 c_g22_9 H locs ls hm v0_9 v1_9 v2_9 hPD hS hl; obtain ⟨hP, hD⟩ := hPD
              exact absurd hm (by omega)
            | succ n_9 ih_9 =>
              intro x4_9 c_g22_9 H locs ls hm v0_9 v1_9 v2_9 hPD hS hl; obtain ⟨hP, hD⟩ := hPD
              refine lv_iload hx hb dB_3_2_15.2.1.2.1 (lv_at hl 0 rfl) ?_
              refine lv_bipush (v := 40) hx hb dB_3_2_15.2.1.2.2 (by decide) ?_
              refine lv_icmp_ge (tgt := 64) hx hb dB_3_2_15.2.2.1.1 (by decide) (fun c_10 => ?_) (fun c_10 => ?_)
              · have t_10 : (40 : Int32).toInt ≤ x4_9.toInt := Int32.le_iff_toInt_le.mp c_10
                have hz0_ : ∀ j : Nat, j < 40 → (c_g22_9 j).toInt = 0 := fun j hj => v2_9 j (by omega)
                have hp0_ := pot_zero (f5 := f5) (f6 := f6) (f7 := f7) (f10 := f10) (N := s4.toNatClampNeg) r_f8 r_f9 (by omega) hz0_
                have c1 := clI (i := a1) (by omega)
                have c2 := clI (i := a2) (by omega)
                refine lv_iload_n hx hb dB_3_2_16.1.2.1.1 rfl (lv_at hl 4 rfl) ?_
                refine lv_istore (lv' := [(4, .int a3), (0, .ref mo), (1, .int a1), (2, .int a2), (3, .int a3)]) hx hb dB_3_2_16.1.2.1.2 hl (by decide) rfl (fun ls hl => ?_)
                refine lv_lconst (v := 0) hx hb dB_3_2_16.1.2.2.1 (by decide) ?_
                refine lv_lstore (lv' := [(5, .long 0), (4, .int a3), (0, .ref mo), (1, .int a1), (2, .int a2), (3, .int a3)]) hx hb dB_3_2_16.1.2.2.2 hl (by decide) rfl (fun ls hl => ?_)
                suffices LOOP_11 : ∀ (n_11 : Nat) (x5_11 : Int64) (x4_11 : Int32) (c_g22_11 : Nat → Int32) (c_g29_11 : Nat → Int64) (c_g30_11 : Nat → Int32) (c_g31_11 : Nat → Int32) (H : Heap) (locs : List Loc) (ls : Array Slot), x4_11.toInt < (n_11 : Int) → (0 ≤ x4_11.toInt) → (x4_11.toInt ≤ a3.toInt) → (∃ pi : Nat → Int, pot f5 f6 f7 f8 f9 f10 c_g22_11 s4.toNatClampNeg pi) → (okF f5 f8 f9 c_g22_11) → (∀ j : Nat, j < 40 → -(a3.toInt - x4_11.toInt) ≤ (c_g22_11 j).toInt ∧ (c_g22_11 j).toInt ≤ a3.toInt - x4_11.toInt) → (rng c_g30_11 12 (0) (39)) → (rng c_g31_11 12 (0) (11)) → pd_2 D vwCl A [ob12_0_ mo 0 s1 t2 s3 s4 g5 g6 g7 g8 g9 g10 s11 g12 g13 g14 g15 g16 g17 g18 g19 g20 s21 g22 g23 g24 s25 s26 s27 s28 g29 g30 g31 g32 g33, ai_ cy g5 40 f5, ai_ cy g6 40 f6, ai_ cy g7 40 f7, ai_ cy g8 40 f8, ai_ cy g9 40 f9, az_ cy g10 40 f10, ai_ cy g22 40 c_g22_11, aj_ cy g29 12 c_g29_11, ai_ cy g30 12 c_g30_11, ai_ cy g31 12 c_g31_11] H → va_S A s.heap H locs → lv_has ls 10 [(5, .long x5_11), (4, .int x4_11), (0, .ref mo), (1, .int a1), (2, .int a2), (3, .int a3)] → W p l e ({ frames := 4, cells := 0, slots := 0, locals := 101 } : Room) s m (([.ref mo, .int a1, .int a2, .int a3] : List Value).toArray) below meth c H locs 0 0 Q (F0 m 70 ls []) from LOOP_11 ((a3.toInt).toNat + 1) (0 : Int64) a3 c_g22_9 f29 f30 f31 _ _ _ (by omega) (by first | with_reducible assumption | omega | assumption) (by first | with_reducible assumption | omega | assumption) (by first | exact hnp_ | exact ⟨_, hp0_.1⟩) (by first | with_reducible assumption | assumption | exact hp0_.2) (by first | (intro j hj; have h9 := hnb_ j hj; omega) | (intro j hj; have h9 := hz0_ j hj; omega)) (by first | with_reducible assumption | assumption | exact rng_zero (by omega) (by omega) | exact orng_zero) (by first | with_reducible assumption | assumption | exact rng_zero (by omega) (by omega) | exact orng_zero) ⟨hP, hD⟩ hS (lv_sub hl [0, 1, 2, 3, 4, 5] rfl)
                intro n_11
                induction n_11 with
                | zero =>
                  intro x5_11 x4_11 c_g22_11 c_g29_11 c_g30_11 c_g31_11 H locs ls hm v0_11 v1_11 v2_11 v3_11 v4_11 rc_g30_11 rc_g31_11 hPD hS hl; obtain ⟨hP, hD⟩ := hPD
                  exact absurd hm (by omega)
                | succ n_11 ih_11 =>
                  intro x5_11 x4_11 c_g22_11 c_g29_11 c_g30_11 c_g31_11 H locs ls hm v0_11 v1_11 v2_11 v3_11 v4_11 rc_g30_11 rc_g31_11 hPD hS hl; obtain ⟨hP, hD⟩ := hPD
                  refine lv_iload hx hb dB_3_2_16.2.1.1.1 (lv_at hl 1 rfl) ?_
                  refine lv_if_le (tgt := 259) hx hb dB_3_2_16.2.1.1.2 (by decide) (fun c_12 => ?_) (fun c_12 => ?_)
                  · have t_12 : x4_11.toInt ≤ (0 : Int32).toInt := Int32.le_iff_toInt_le.mp c_12
                    refine lv_lload hx hb dB_3_2_22.2.2.2.2 (lv_at hl 0 rfl) ?_
                    refine lv_l2i (v := x5_11.toInt32) hx hb dB_3_2_23.1 rfl ?_
                    rw [hQ]
                    exact W.iret (v := (x5_11.toInt32)) hx hb hr (fun t ht hW => ⟨⟨(x5_11.toInt32), (), rfl, trivial, c_g22_11, c_g29_11, c_g30_11, c_g31_11, (by first | with_reducible assumption | assumption | exact rng_zero (by omega) (by omega) | omega), (by first | with_reducible assumption | assumption | exact rng_zero (by omega) (by omega) | omega), by rw [ht]; exact hP, hD⟩, hS.F ht⟩) hS.2.2 dB_3_2_23.2
                  · have t_12 : ¬ x4_11.toInt ≤ (0 : Int32).toInt := fun h => c_12 (Int32.le_iff_toInt_le.mpr h)
                    obtain ⟨pi_, hpi_⟩ := v2_11
                    have hfa_ : ∀ j : Nat, j < 40 → -1000 ≤ (c_g22_11 j).toInt ∧ (c_g22_11 j).toInt ≤ 1000 := fun j hj => by have h9 := v4_11 j hj; omega
                    refine lv_aload_n hx hb dB_3_2_16.2.1.2.1 rfl (lv_at hl 2 rfl) ?_
                    refine lv_iload_n hx hb dB_3_2_16.2.1.2.2 rfl (lv_at hl 3 rfl) ?_
                    refine lv_iload_n hx hb dB_3_2_16.2.2.1.1 rfl (lv_at hl 4 rfl) ?_
                    refine ct_S hP hD hS hA [ob12_0_ mo 0 s1 t2 s3 s4 g5 g6 g7 g8 g9 g10 s11 g12 g13 g14 g15 g16 g17 g18 g19 g20 s21 g22 g23 g24 s25 s26 s27 s28 g29 g30 g31 g32 g33, ai_ cy g5 40 f5, ai_ cy g6 40 f6, ai_ cy g7 40 f7, ai_ cy g8 40 f8, ai_ cy g9 40 f9, az_ cy g10 40 f10, ai_ cy g22 40 c_g22_11, aj_ cy g29 12 c_g29_11, ai_ cy g30 12 c_g30_11, ai_ cy g31 12 c_g31_11] [0, 1, 2, 3, 4, 5, 6, 7, 8, 9, 10] (by decide +kernel) rfl (fun hPc hDw hFc hC_ => ?_)
                    refine va_calli (va_runV (As := [.int a1, .int a2]) (rest := []) ⟨hx, hb, hml, hown, hts⟩ (c_X12_cheapWay l D cy H.size mo g5 g6 g7 g8 g9 g10 g12 g13 g14 g15 g16 g17 g18 g19 g20 g22 g23 g24 g29 g30 g31 g32 g33 (0 : Int32) s1 s3 s4 s11 s21 s25 s26 s27 s28 t2 f5 f6 f7 f8 f9 f10 c_g22_11 c_g29_11 c_g30_11 c_g31_11 pi_ a1 a2 (by first | with_reducible assumption | omega | assumption) (by first | with_reducible assumption | omega | assumption) (by first | with_reducible assumption | omega | assumption) (by first | with_reducible assumption | assumption | omega) (by first | with_reducible assumption | assumption | omega) (by first | with_reducible assumption | assumption | omega) (by first | with_reducible assumption | omega | assumption) (by first | with_reducible assumption | omega | assumption) (by first | with_reducible assumption | assumption | omega) (by first | with_reducible assumption | assumption | omega) (by first | with_reducible assumption | assumption | omega) (by first | with_reducible assumption | assumption | omega) (by first | with_reducible assumption | assumption | omega) (by first | with_reducible assumption | assumption | omega)) (cwV 2 hts gX12_cheapest_X12_cheapWay rfl rfl rfl ⟨rfl, hd_X12_cheapWay⟩ ⟨Nat.le_of_ble_eq_true rfl, Nat.le_of_ble_eq_true rfl⟩) ⟨bl_, va_recvX hK.1 hP (ci := 12) (q0 := 0) rfl rfl, fun U hU hW => ⟨rfl, by rw [hU], by rw [hU]; exact hPc, kk_mv hW hK, hDw⟩⟩ rfl rfl hl.1 rfl (lv_room (Nat.le_of_ble_eq_true rfl)) dB_3_2_16.2.2.1.2 ⟨Nat.le_of_ble_eq_true rfl, Nat.le_of_ble_eq_true rfl⟩) hS (fun q _ h => hFc q h) hFc (fun r_14 u t H locs ht hvm hw hB hz1 hk1 hS => ?_)
                    obtain ⟨eu_, hw⟩ := hw
                    subst eu_
                    obtain ⟨e29_15, e30_16, e31_17, g_18, g_19, g_20, hP1, hD1⟩ := hB
                    rw [ht] at hP1
                    obtain ⟨hP, hD⟩ := va_join (wr := []) (w1 := [ob12_0_ mo 0 s1 t2 s3 s4 g5 g6 g7 g8 g9 g10 s11 g12 g13 g14 g15 g16 g17 g18 g19 g20 s21 g22 g23 g24 s25 s26 s27 s28 g29 g30 g31 g32 g33, ai_ cy g5 40 f5, ai_ cy g6 40 f6, ai_ cy g7 40 f7, ai_ cy g8 40 f8, ai_ cy g9 40 f9, az_ cy g10 40 f10, ai_ cy g22 40 c_g22_11, aj_ cy g29 12 e29_15, ai_ cy g30 12 e30_16, ai_ cy g31 12 e31_17]) hP hD [0, 1, 2, 3, 4, 5, 6, 7, 8, 9, 10] [] hC_ rfl (by decide) (by decide) hk1 hFc hP1 hD1
                    refine pd_K [ob12_0_ mo 0 s1 t2 s3 s4 g5 g6 g7 g8 g9 g10 s11 g12 g13 g14 g15 g16 g17 g18 g19 g20 s21 g22 g23 g24 s25 s26 s27 s28 g29 g30 g31 g32 g33, ai_ cy g5 40 f5, ai_ cy g6 40 f6, ai_ cy g7 40 f7, ai_ cy g8 40 f8, ai_ cy g9 40 f9, az_ cy g10 40 f10, ai_ cy g22 40 c_g22_11, aj_ cy g29 12 e29_15, ai_ cy g30 12 e30_16, ai_ cy g31 12 e31_17] hP hD (fun hP hD => ?_)
                    rcases hw with ⟨w_21, e_⟩ | ⟨w_21, e_⟩
                    · have e_ := e_.symm
                      subst e_
                      refine lv_if_ne (tgt := 87) hx hb dB_3_2_16.2.2.2.1 (by decide) (fun c_22 => ?_) (fun c_22 => ?_)
                      · exact absurd c_22 (by decide)
                      · have _ := c_22
                        refine lv_bipush (v := (-9)) hx hb dB_3_2_16.2.2.2.2 (by decide) ?_
                        rw [hQ]
                        exact W.iret (v := (-9)) hx hb hr (fun t ht hW => ⟨⟨(-9), (), rfl, trivial, c_g22_11, e29_15, e30_16, e31_17, (by first | with_reducible assumption | assumption | exact rng_zero (by omega) (by omega) | omega), (by first | with_reducible assumption | assumption | exact rng_zero (by omega) (by omega) | omega), by rw [ht]; exact hP, hD⟩, hS.F ht⟩) hS.2.2 dB_3_2_17.1.1.1.1
                    · have e_ := e_.symm
                      subst e_
                      refine lv_if_ne (tgt := 87) hx hb dB_3_2_16.2.2.2.1 (by decide) (fun c_23 => ?_) (fun c_23 => ?_)
                      · have _ := c_23
                        obtain ⟨hz_, hft_⟩ := g_18 rfl
                        obtain ⟨R_, hR_⟩ := hz_.2.2.1 a2.toNatClampNeg (by omega) hft_
                        have hgv_ := g_v (f5 := f5) (f8 := f8) (f9 := f9) (F := c_g22_11) hnet r_f6 r_f7 hN (by omega)
                        obtain ⟨p2_, hp2_, hpe_⟩ := cz_pi hz_ hpi_ hgv_ g_c1 (by omega)
                        refine lv_iload hx hb dB_3_2_17.1.1.1.2 (lv_at hl 1 rfl) ?_
                        refine lv_istore (lv' := [(7, .int x4_11), (5, .long x5_11), (4, .int x4_11), (0, .ref mo), (1, .int a1), (2, .int a2), (3, .int a3)]) hx hb dB_3_2_17.1.1.2.1 hl (by decide) rfl (fun ls hl => ?_)
                        refine lv_iload_n hx hb dB_3_2_17.1.1.2.2 rfl (lv_at hl 5 rfl) ?_
                        refine lv_istore (lv' := [(8, .int a2), (7, .int x4_11), (5, .long x5_11), (4, .int x4_11), (0, .ref mo), (1, .int a1), (2, .int a2), (3, .int a3)]) hx hb dB_3_2_17.1.2.1.1 hl (by decide) rfl (fun ls hl => ?_)
                        suffices LOOP_24 : ∀ (n_24 : Nat) (x8_24 : Int32) (x7_24 : Int32) (i_24 : Nat) (H : Heap) (locs : List Loc) (ls : Array Slot), (R_ : Int) - i_24 < (n_24 : Int) → (i_24 ≤ R_) → (x8_24.toNatClampNeg = (itr (pf_ e31_17) i_24 a2.toNatClampNeg)) → (0 ≤ x8_24.toInt ∧ x8_24.toInt ≤ 11) → (1 ≤ x7_24.toInt ∧ x7_24.toInt ≤ x4_11.toInt) → (∀ k : Nat, k < i_24 → x7_24.toInt ≤ amtI f5 f6 f8 c_g22_11 e30_16 e31_17 (itr (pf_ e31_17) k a2.toNatClampNeg)) → pd_2 D vwCl A [ob12_0_ mo 0 s1 t2 s3 s4 g5 g6 g7 g8 g9 g10 s11 g12 g13 g14 g15 g16 g17 g18 g19 g20 s21 g22 g23 g24 s25 s26 s27 s28 g29 g30 g31 g32 g33, ai_ cy g5 40 f5, ai_ cy g6 40 f6, ai_ cy g7 40 f7, ai_ cy g8 40 f8, ai_ cy g9 40 f9, az_ cy g10 40 f10, ai_ cy g22 40 c_g22_11, aj_ cy g29 12 e29_15, ai_ cy g30 12 e30_16, ai_ cy g31 12 e31_17] H → va_S A s.heap H locs → lv_has ls 10 [(8, .int x8_24), (7, .int x7_24), (5, .long x5_11), (4, .int x4_11), (0, .ref mo), (1, .int a1), (2, .int a2), (3, .int a3)] → W p l e ({ frames := 4, cells := 0, slots := 0, locals := 101 } : Room) s m (([.ref mo, .int a1, .int a2, .int a3] : List Value).toArray) below meth c H locs 0 0 Q (F0 m 94 ls []) from LOOP_24 (((R_ : Int) - (0)).toNat + 1) a2 x4_11 0 _ _ _ (by omega) (by first | with_reducible assumption | assumption | omega) (by first | with_reducible assumption | assumption | rfl) (by first | with_reducible assumption | omega | assumption) (by first | with_reducible assumption | omega | assumption) (by first | exact hk_ | (intro k hk; omega)) ⟨hP, hD⟩ hS (lv_sub hl [0, 1, 2, 3, 4, 5, 6, 7] rfl)
                        intro n_24
                        induction n_24 with
                        | zero =>
                          intro x8_24 x7_24 i_24 H locs ls hm v0_24 v1_24 v2_24 v3_24 v4_24 hPD hS hl; obtain ⟨hP, hD⟩ := hPD
                          exact absurd hm (by omega)
                        | succ n_24 ih_24 =>
                          intro x8_24 x7_24 i_24 H locs ls hm v0_24 v1_24 v2_24 v3_24 v4_24 hPD hS hl; obtain ⟨hP, hD⟩ := hPD
                          refine lv_iload hx hb dB_3_2_17.1.2.1.2 (lv_at hl 0 rfl) ?_
                          refine lv_iload_n hx hb dB_3_2_17.1.2.2.1 rfl (lv_at hl 5 rfl) ?_
                          refine lv_icmp_eq (tgt := 168) hx hb dB_3_2_17.1.2.2.2 (by decide) (fun c_25 => ?_) (fun c_25 => ?_)
                          · have t_25 : x8_24.toInt = a1.toInt := congrArg Int32.toInt c_25
                            have hall_ : ∀ k : Nat, k < R_ → x7_24.toInt ≤ amtI f5 f6 f8 c_g22_11 e30_16 e31_17 (itr (pf_ e31_17) k a2.toNatClampNeg) := fun k hk => v4_24 k (by have h9 := ch_eq hR_ v0_24 (by have h9 := v1_24; have c8_ := clI (i := x8_24) (by omega); omega); omega)
                            refine lv_iload_n hx hb dB_3_2_19.2.1.2.2 rfl (lv_at hl 6 rfl) ?_
                            refine lv_istore (lv' := [(8, .int a2), (7, .int x7_24), (5, .long x5_11), (4, .int x4_11), (0, .ref mo), (1, .int a1), (2, .int a2), (3, .int a3)]) hx hb dB_3_2_19.2.2.1.1 hl (by decide) rfl (fun ls hl => ?_)
                            suffices LOOP_26 : ∀ (n_26 : Nat) (x8_26 : Int32) (j_26 : Nat) (c_g22_26 : Nat → Int32) (H : Heap) (locs : List Loc) (ls : Array Slot), (R_ : Int) - j_26 < (n_26 : Int) → (j_26 ≤ R_) → (x8_26.toNatClampNeg = (itr (pf_ e31_17) j_26 a2.toNatClampNeg)) → (0 ≤ x8_26.toInt ∧ x8_26.toInt ≤ 11) → (pot f5 f6 f7 f8 f9 f10 c_g22_26 s4.toNatClampNeg p2_) → (okF f5 f8 f9 c_g22_26) → (∀ j : Nat, j < 40 → -((a3.toInt - x4_11.toInt) + x7_24.toInt) ≤ (c_g22_26 j).toInt ∧ (c_g22_26 j).toInt ≤ (a3.toInt - x4_11.toInt) + x7_24.toInt) → (∀ k : Nat, j_26 ≤ k → k < R_ → c_g22_26 (e30_16 (itr (pf_ e31_17) k a2.toNatClampNeg)).toNatClampNeg = c_g22_11 (e30_16 (itr (pf_ e31_17) k a2.toNatClampNeg)).toNatClampNeg) → pd_2 D vwCl A [ob12_0_ mo 0 s1 t2 s3 s4 g5 g6 g7 g8 g9 g10 s11 g12 g13 g14 g15 g16 g17 g18 g19 g20 s21 g22 g23 g24 s25 s26 s27 s28 g29 g30 g31 g32 g33, ai_ cy g5 40 f5, ai_ cy g6 40 f6, ai_ cy g7 40 f7, ai_ cy g8 40 f8, ai_ cy g9 40 f9, az_ cy g10 40 f10, ai_ cy g22 40 c_g22_26, aj_ cy g29 12 e29_15, ai_ cy g30 12 e30_16, ai_ cy g31 12 e31_17] H → va_S A s.heap H locs → lv_has ls 10 [(8, .int x8_26), (7, .int x7_24), (5, .long x5_11), (4, .int x4_11), (0, .ref mo), (1, .int a1), (2, .int a2), (3, .int a3)] → W p l e ({ frames := 4, cells := 0, slots := 0, locals := 101 } : Room) s m (([.ref mo, .int a1, .int a2, .int a3] : List Value).toArray) below meth c H locs 0 0 Q (F0 m 171 ls []) from LOOP_26 (((R_ : Int) - (0)).toNat + 1) a2 0 c_g22_11 _ _ _ (by omega) (by first | with_reducible assumption | assumption | omega) (by first | with_reducible assumption | assumption | rfl) (by first | with_reducible assumption | omega | assumption) (by first | exact hq_.1 | exact hp2_) (by first | exact hq_.2.1 | assumption) (by first | exact hq_.2.2.1 | (intro j hj; have h9 := v4_11 j hj; omega)) (by first | exact hq_.2.2.2 | (intro k _ _; rfl)) ⟨hP, hD⟩ hS (lv_sub hl [0, 1, 2, 3, 4, 5, 6, 7] rfl)
                            intro n_26
                            induction n_26 with
                            | zero =>
                              intro x8_26 j_26 c_g22_26 H locs ls hm v0_26 v1_26 v2_26 v3_26 v4_26 v5_26 v6_26 hPD hS hl; obtain ⟨hP, hD⟩ := hPD
                              exact absurd hm (by omega)
                            | succ n_26 ih_26 =>
                              intro x8_26 j_26 c_g22_26 H locs ls hm v0_26 v1_26 v2_26 v3_26 v4_26 v5_26 v6_26 hPD hS hl; obtain ⟨hP, hD⟩ := hPD
                              refine lv_iload hx hb dB_3_2_19.2.2.1.2 (lv_at hl 0 rfl) ?_
                              refine lv_iload_n hx hb dB_3_2_19.2.2.2.1 rfl (lv_at hl 5 rfl) ?_
                              refine lv_icmp_eq (tgt := 234) hx hb dB_3_2_19.2.2.2.2 (by decide) (fun c_27 => ?_) (fun c_27 => ?_)
                              · have t_27 : x8_26.toInt = a1.toInt := congrArg Int32.toInt c_27
                                have hnp_ : ∃ pi : Nat → Int, pot f5 f6 f7 f8 f9 f10 c_g22_26 s4.toNatClampNeg pi := ⟨p2_, v3_26⟩
                                have hnb_ := v5_26
                                refine lv_lload hx hb dB_3_2_22.1.1.1.1 (lv_at hl 2 rfl) ?_
                                refine lv_aload_n hx hb dB_3_2_22.1.1.1.2 rfl (lv_at hl 4 rfl) ?_
                                refine va_get (ci := 12) (v := .ref g29) (C := RX12) (T := TX12) (N := 34) hx hb hts (fun _ h => List.mem_cons_of_mem _ (List.mem_append_right _ h)) hown hK.1 hP 0 rfl rfl 29 (by decide) (hts (.fieldLink RX12 70 "CutAtlasModel" "paid" "[J") (List.mem_of_getElem? (i := 7) rfl)) (fun _ h9 => h9) rfl dB_3_2_22.1.1.2.1 ?_
                                refine lv_iload_n hx hb dB_3_2_22.1.1.2.2 rfl (lv_at hl 6 rfl) ?_
                                have h_28 : vp_in a2 12 := in_I (by first | with_reducible assumption | omega) (by omega)
                                refine va_lald hx hb hK.1 hP 8 1 rfl rfl (i := a2) h_28 dB_3_2_22.1.2.1.1 ?_
                                refine lv_topl (fun y_29 ey_29 => ?_)
                                refine lv_iload hx hb dB_3_2_22.1.2.1.2 (lv_at hl 1 rfl) ?_
                                refine lv_i2l (v := x7_24.toInt64) hx hb dB_3_2_22.1.2.2.1 rfl ?_
                                have q_244 : (x7_24.toInt64).toInt = x7_24.toInt := Int32.toInt_toInt64 x7_24
                                refine lv_lmul hx hb dB_3_2_22.1.2.2.2 ?_
                                refine lv_topl (fun y_30 ey_30 => ?_)
                                refine lv_ladd hx hb dB_3_2_22.2.1.1.1 ?_
                                refine lv_topl (fun y_31 ey_31 => ?_)
                                refine lv_lstore (lv' := [(5, .long y_31), (8, .int x8_26), (7, .int x7_24), (4, .int x4_11), (0, .ref mo), (1, .int a1), (2, .int a2), (3, .int a3)]) hx hb dB_3_2_22.2.1.1.2 hl (by decide) rfl (fun ls hl => ?_)
                                refine lv_iload hx hb dB_3_2_22.2.1.2.1 (lv_at hl 3 rfl) ?_
                                refine lv_iload hx hb dB_3_2_22.2.1.2.2 (lv_at hl 2 rfl) ?_
                                refine lv_isub hx hb dB_3_2_22.2.2.1.1 ?_
                                refine lv_topi (fun y_32 ey_32 => ?_)
                                have ty_32 : y_32.toInt = x4_11.toInt - x7_24.toInt := by rw [ey_32]; exact subI (by omega) (by omega)
                                refine lv_istore (lv' := [(4, .int y_32), (5, .long y_31), (8, .int x8_26), (7, .int x7_24), (0, .ref mo), (1, .int a1), (2, .int a2), (3, .int a3)]) hx hb dB_3_2_22.2.2.1.2 hl (by decide) rfl (fun ls hl => ?_)
                                refine lv_goto (tgt := 70) hx hb dB_3_2_22.2.2.2.1 (by decide) ?_
                                exact ih_11 y_31 y_32 c_g22_26 e29_15 e30_16 e31_17 _ _ _ (by omega) (by first | with_reducible assumption | omega | assumption) (by first | with_reducible assumption | omega | assumption) (by first | exact hnp_ | exact ⟨_, hp0_.1⟩) (by first | with_reducible assumption | assumption | exact hp0_.2) (by first | (intro j hj; have h9 := hnb_ j hj; omega) | (intro j hj; have h9 := hz0_ j hj; omega)) (by first | with_reducible assumption | assumption | exact rng_zero (by omega) (by omega) | exact orng_zero) (by first | with_reducible assumption | assumption | exact rng_zero (by omega) (by omega) | exact orng_zero) ⟨hP, hD⟩ hS (lv_sub hl [1, 0, 4, 5, 6, 7] rfl)
                              · have t_27 : ¬ x8_26.toInt = a1.toInt := fun h => c_27 (Int32.toInt_inj.mp h)
                                have hlt2_ : j_26 < R_ := ch_lt hR_ v0_26 (fun e => by have h9 := v1_26; have c8_ := clI (i := x8_26) (by omega); omega)
                                refine lv_aload_n hx hb dB_3_2_20.1.1.1.1 rfl (lv_at hl 4 rfl) ?_
                                refine va_get (ci := 12) (v := .ref g22) (C := RX12) (T := TX12) (N := 34) hx hb hts (fun _ h => List.mem_cons_of_mem _ (List.mem_append_right _ h)) hown hK.1 hP 0 rfl rfl 22 (by decide) (hts (.fieldLink RX12 61 "CutAtlasModel" "flows" "[I") (List.mem_of_getElem? (i := 3) rfl)) (fun _ h9 => h9) rfl dB_3_2_20.1.1.1.2 ?_
                                refine lv_aload_n hx hb dB_3_2_20.1.1.2.1 rfl (lv_at hl 4 rfl) ?_
                                refine va_get (ci := 12) (v := .ref g30) (C := RX12) (T := TX12) (N := 34) hx hb hts (fun _ h => List.mem_cons_of_mem _ (List.mem_append_right _ h)) hown hK.1 hP 0 rfl rfl 30 (by decide) (hts (.fieldLink RX12 73 "CutAtlasModel" "byLine" "[I") (List.mem_of_getElem? (i := 4) rfl)) (fun _ h9 => h9) rfl dB_3_2_20.1.1.2.2 ?_
                                refine lv_iload hx hb dB_3_2_20.1.2.1.1 (lv_at hl 0 rfl) ?_
                                have h_33 : vp_in x8_26 12 := in_I (by first | with_reducible assumption | omega) (by omega)
                                refine va_iald hx hb hK.1 hP 9 0 rfl rfl (i := x8_26) h_33 dB_3_2_20.1.2.1.2 ?_
                                refine lv_topi (fun y_34 ey_34 => ?_)
                                have ky_34 : y_34.toInt = (e30_16 x8_26.toNatClampNeg).toInt := by rw [ey_34]
                                have ry_34 : 0 ≤ y_34.toInt ∧ y_34.toInt ≤ 39 := by rw [ey_34]; exact g_19 _ (in_lt h_33)
                                refine lv_dup2_11 hx hb dB_3_2_20.1.2.2.1 rfl rfl ?_
                                have h_35 : vp_in y_34 40 := in_I (by first | with_reducible assumption | omega) (by omega)
                                refine va_iald hx hb hK.1 hP 7 0 rfl rfl (i := y_34) h_35 dB_3_2_20.1.2.2.2 ?_
                                refine lv_topi (fun y_36 ey_36 => ?_)
                                have ky_36 : y_36.toInt = (c_g22_26 y_34.toNatClampNeg).toInt := by rw [ey_36]
                                have hfv_ := v5_26 y_34.toNatClampNeg (by have c_ := clI (i := y_34) (by omega); omega)
                                refine lv_aload_n hx hb dB_3_2_20.2.1.1.1 rfl (lv_at hl 4 rfl) ?_
                                refine va_get (ci := 12) (v := .ref g6) (C := RX12) (T := TX12) (N := 34) hx hb hts (fun _ h => List.mem_cons_of_mem _ (List.mem_append_right _ h)) hown hK.1 hP 0 rfl rfl 6 (by decide) (hts (.fieldLink RX12 13 "CutAtlasModel" "from" "[I") (List.mem_of_getElem? (i := 5) rfl)) (fun _ h9 => h9) rfl dB_3_2_20.2.1.1.2 ?_
                                refine lv_aload_n hx hb dB_3_2_20.2.1.2.1 rfl (lv_at hl 4 rfl) ?_
                                refine va_get (ci := 12) (v := .ref g30) (C := RX12) (T := TX12) (N := 34) hx hb hts (fun _ h => List.mem_cons_of_mem _ (List.mem_append_right _ h)) hown hK.1 hP 0 rfl rfl 30 (by decide) (hts (.fieldLink RX12 73 "CutAtlasModel" "byLine" "[I") (List.mem_of_getElem? (i := 4) rfl)) (fun _ h9 => h9) rfl dB_3_2_20.2.1.2.2 ?_
                                refine lv_iload hx hb dB_3_2_20.2.2.1.1 (lv_at hl 0 rfl) ?_
                                refine va_iald hx hb hK.1 hP 9 0 rfl rfl (i := x8_26) h_33 dB_3_2_20.2.2.1.2 ?_
                                refine lv_topi (fun y_38 ey_38 => ?_)
                                have e_ := (ey_38.trans ey_34.symm).symm
                                subst e_
                                skip
                                refine va_iald hx hb hK.1 hP 2 0 rfl rfl (i := y_34) h_35 dB_3_2_20.2.2.2.1 ?_
                                refine lv_topi (fun y_40 ey_40 => ?_)
                                have ky_40 : y_40.toInt = (f6 y_34.toNatClampNeg).toInt := by rw [ey_40]
                                have ry_40 : 0 ≤ y_40.toInt ∧ y_40.toInt ≤ 11 := by rw [ey_40]; exact r_f6 _ (in_lt h_35)
                                refine lv_aload_n hx hb dB_3_2_20.2.2.2.2 rfl (lv_at hl 4 rfl) ?_
                                refine va_get (ci := 12) (v := .ref g31) (C := RX12) (T := TX12) (N := 34) hx hb hts (fun _ h => List.mem_cons_of_mem _ (List.mem_append_right _ h)) hown hK.1 hP 0 rfl rfl 31 (by decide) (hts (.fieldLink RX12 76 "CutAtlasModel" "byPlace" "[I") (List.mem_of_getElem? (i := 6) rfl)) (fun _ h9 => h9) rfl dB_3_2_21.1.1.1.1 ?_
                                refine lv_iload hx hb dB_3_2_21.1.1.1.2 (lv_at hl 0 rfl) ?_
                                refine va_iald hx hb hK.1 hP 10 0 rfl rfl (i := x8_26) h_33 dB_3_2_21.1.1.2.1 ?_
                                refine lv_topi (fun y_42 ey_42 => ?_)
                                have ky_42 : y_42.toInt = (e31_17 x8_26.toNatClampNeg).toInt := by rw [ey_42]
                                have ry_42 : 0 ≤ y_42.toInt ∧ y_42.toInt ≤ 11 := by rw [ey_42]; exact g_20 _ (in_lt h_33)
                                refine lv_icmp_ne (tgt := 217) hx hb dB_3_2_21.1.1.2.2 (by decide) (fun c_43 => ?_) (fun c_43 => ?_)
                                · have t_43 : ¬ y_40.toInt = y_42.toInt := fun h => c_43 (Int32.toInt_inj.mp h)
                                  refine lv_iload hx hb dB_3_2_21.1.2.2.1 (lv_at hl 1 rfl) ?_
                                  refine lv_ineg hx hb dB_3_2_21.1.2.2.2 ?_
                                  refine lv_topi (fun y_44 ey_44 => ?_)
                                  have ty_44 : y_44.toInt = - x7_24.toInt := by rw [ey_44]; exact negI (by omega)
                                  refine lv_iadd hx hb dB_3_2_21.2.1.1.1 ?_
                                  refine lv_topi (fun y_45 ey_45 => ?_)
                                  have ty_45 : y_45.toInt = y_36.toInt + y_44.toInt := by rw [ey_45]; exact addI (by omega) (by omega)
                                  refine va_iast hx hb hK.1 hP hD hS 7 0 rfl rfl (i := y_34) h_35 dB_3_2_21.2.1.1.2 (fun H locs hP hD hS => ?_)
                                  obtain ⟨f_47, ef_47⟩ : ∃ g : Nat → Int32, g = upd c_g22_26 y_34.toNatClampNeg y_45 := ⟨_, rfl⟩
                                  refine pd_K (D := D) (cl := vwCl) (H := H) (A := A) [ob12_0_ mo 0 s1 t2 s3 s4 g5 g6 g7 g8 g9 g10 s11 g12 g13 g14 g15 g16 g17 g18 g19 g20 s21 g22 g23 g24 s25 s26 s27 s28 g29 g30 g31 g32 g33, ai_ cy g5 40 f5, ai_ cy g6 40 f6, ai_ cy g7 40 f7, ai_ cy g8 40 f8, ai_ cy g9 40 f9, az_ cy g10 40 f10, ai_ cy g22 40 f_47, aj_ cy g29 12 e29_15, ai_ cy g30 12 e30_16, ai_ cy g31 12 e31_17] (by rw [ef_47]; exact hP) (by rw [ef_47]; exact hD) (fun hP hD => ?_)
                                  have hq_ := ch_push (i := j_26) (l := y_34) (y1 := x8_26) (n := x7_24.toInt) (B := (a3.toInt - x4_11.toInt)) r_f6 r_f7 r_f8 r_f9 (by assumption) (by omega) (by omega) hz_ hgv_ (by omega) hft_ hR_ hpe_ hlt2_ v1_26 ey_34 ef_47 (by rw [← ey_40, ← ey_42]; first | (rw [if_pos (by omega)]; omega) | (rw [if_neg (by omega)]; omega)) (by omega) hall_ v6_26 v3_26 v4_26 v5_26 v4_11
                                  refine lv_aload_n hx hb dB_3_2_21.2.1.2.1 rfl (lv_at hl 4 rfl) ?_
                                  refine va_get (ci := 12) (v := .ref g31) (C := RX12) (T := TX12) (N := 34) hx hb hts (fun _ h => List.mem_cons_of_mem _ (List.mem_append_right _ h)) hown hK.1 hP 0 rfl rfl 31 (by decide) (hts (.fieldLink RX12 76 "CutAtlasModel" "byPlace" "[I") (List.mem_of_getElem? (i := 6) rfl)) (fun _ h9 => h9) rfl dB_3_2_21.2.1.2.2 ?_
                                  refine lv_iload hx hb dB_3_2_21.2.2.1.1 (lv_at hl 0 rfl) ?_
                                  refine va_iald hx hb hK.1 hP 10 0 rfl rfl (i := x8_26) h_33 dB_3_2_21.2.2.1.2 ?_
                                  refine lv_topi (fun y_49 ey_49 => ?_)
                                  have e_ := (ey_49.trans ey_42.symm).symm
                                  subst e_
                                  skip
                                  have hy2_ : y_42.toNatClampNeg = (itr (pf_ e31_17) (j_26 + 1) a2.toNatClampNeg) := by rw [ey_42, v1_26]; rfl
                                  refine lv_istore (lv' := [(8, .int y_42), (7, .int x7_24), (5, .long x5_11), (4, .int x4_11), (0, .ref mo), (1, .int a1), (2, .int a2), (3, .int a3)]) hx hb dB_3_2_21.2.2.2.1 hl (by decide) rfl (fun ls hl => ?_)
                                  refine lv_goto (tgt := 171) hx hb dB_3_2_21.2.2.2.2 (by decide) ?_
                                  exact ih_26 y_42 (j_26 + 1) f_47 _ _ _ (by omega) (by first | with_reducible assumption | assumption | omega) (by first | with_reducible assumption | assumption | rfl) (by first | with_reducible assumption | omega | assumption) (by first | exact hq_.1 | exact hp2_) (by first | exact hq_.2.1 | assumption) (by first | exact hq_.2.2.1 | (intro j hj; have h9 := v4_11 j hj; omega)) (by first | exact hq_.2.2.2 | (intro k _ _; rfl)) ⟨hP, hD⟩ hS (lv_sub hl [0, 1, 2, 3, 4, 5, 6, 7] rfl)
                                · have t_43 : y_40.toInt = y_42.toInt := congrArg Int32.toInt c_43
                                  refine lv_iload hx hb dB_3_2_21.1.2.1.1 (lv_at hl 1 rfl) ?_
                                  refine lv_goto (tgt := 220) hx hb dB_3_2_21.1.2.1.2 (by decide) ?_
                                  refine lv_iadd hx hb dB_3_2_21.2.1.1.1 ?_
                                  refine lv_topi (fun y_50 ey_50 => ?_)
                                  have ty_50 : y_50.toInt = y_36.toInt + x7_24.toInt := by rw [ey_50]; exact addI (by omega) (by omega)
                                  refine va_iast hx hb hK.1 hP hD hS 7 0 rfl rfl (i := y_34) h_35 dB_3_2_21.2.1.1.2 (fun H locs hP hD hS => ?_)
                                  obtain ⟨f_52, ef_52⟩ : ∃ g : Nat → Int32, g = upd c_g22_26 y_34.toNatClampNeg y_50 := ⟨_, rfl⟩
                                  refine pd_K (D := D) (cl := vwCl) (H := H) (A := A) [ob12_0_ mo 0 s1 t2 s3 s4 g5 g6 g7 g8 g9 g10 s11 g12 g13 g14 g15 g16 g17 g18 g19 g20 s21 g22 g23 g24 s25 s26 s27 s28 g29 g30 g31 g32 g33, ai_ cy g5 40 f5, ai_ cy g6 40 f6, ai_ cy g7 40 f7, ai_ cy g8 40 f8, ai_ cy g9 40 f9, az_ cy g10 40 f10, ai_ cy g22 40 f_52, aj_ cy g29 12 e29_15, ai_ cy g30 12 e30_16, ai_ cy g31 12 e31_17] (by rw [ef_52]; exact hP) (by rw [ef_52]; exact hD) (fun hP hD => ?_)
                                  have hq_ := ch_push (i := j_26) (l := y_34) (y1 := x8_26) (n := x7_24.toInt) (B := (a3.toInt - x4_11.toInt)) r_f6 r_f7 r_f8 r_f9 (by assumption) (by omega) (by omega) hz_ hgv_ (by omega) hft_ hR_ hpe_ hlt2_ v1_26 ey_34 ef_52 (by rw [← ey_40, ← ey_42]; first | (rw [if_pos (by omega)]; omega) | (rw [if_neg (by omega)]; omega)) (by omega) hall_ v6_26 v3_26 v4_26 v5_26 v4_11
                                  refine lv_aload_n hx hb dB_3_2_21.2.1.2.1 rfl (lv_at hl 4 rfl) ?_
                                  refine va_get (ci := 12) (v := .ref g31) (C := RX12) (T := TX12) (N := 34) hx hb hts (fun _ h => List.mem_cons_of_mem _ (List.mem_append_right _ h)) hown hK.1 hP 0 rfl rfl 31 (by decide) (hts (.fieldLink RX12 76 "CutAtlasModel" "byPlace" "[I") (List.mem_of_getElem? (i := 6) rfl)) (fun _ h9 => h9) rfl dB_3_2_21.2.1.2.2 ?_
                                  refine lv_iload hx hb dB_3_2_21.2.2.1.1 (lv_at hl 0 rfl) ?_
                                  refine va_iald hx hb hK.1 hP 10 0 rfl rfl (i := x8_26) h_33 dB_3_2_21.2.2.1.2 ?_
                                  refine lv_topi (fun y_54 ey_54 => ?_)
                                  have e_ := (ey_54.trans ey_42.symm).symm
                                  subst e_
                                  skip
                                  have hy2_ : y_42.toNatClampNeg = (itr (pf_ e31_17) (j_26 + 1) a2.toNatClampNeg) := by rw [ey_42, v1_26]; rfl
                                  refine lv_istore (lv' := [(8, .int y_42), (7, .int x7_24), (5, .long x5_11), (4, .int x4_11), (0, .ref mo), (1, .int a1), (2, .int a2), (3, .int a3)]) hx hb dB_3_2_21.2.2.2.1 hl (by decide) rfl (fun ls hl => ?_)
                                  refine lv_goto (tgt := 171) hx hb dB_3_2_21.2.2.2.2 (by decide) ?_
                                  exact ih_26 y_42 (j_26 + 1) f_52 _ _ _ (by omega) (by first | with_reducible assumption | assumption | omega) (by first | with_reducible assumption | assumption | rfl) (by first | with_reducible assumption | omega | assumption) (by first | exact hq_.1 | exact hp2_) (by first | exact hq_.2.1 | assumption) (by first | exact hq_.2.2.1 | (intro j hj; have h9 := v4_11 j hj; omega)) (by first | exact hq_.2.2.2 | (intro k _ _; rfl)) ⟨hP, hD⟩ hS (lv_sub hl [0, 1, 2, 3, 4, 5, 6, 7] rfl)
                          · have t_25 : ¬ x8_24.toInt = a1.toInt := fun h => c_25 (Int32.toInt_inj.mp h)
                            have hlt_ : i_24 < R_ := ch_lt hR_ v0_24 (fun e => by have h9 := v1_24; have c8_ := clI (i := x8_24) (by omega); omega)
                            refine lv_aload_n hx hb dB_3_2_17.2.1.1.1 rfl (lv_at hl 4 rfl) ?_
                            refine lv_aload_n hx hb dB_3_2_17.2.1.1.2 rfl (lv_at hl 4 rfl) ?_
                            refine va_get (ci := 12) (v := .ref g30) (C := RX12) (T := TX12) (N := 34) hx hb hts (fun _ h => List.mem_cons_of_mem _ (List.mem_append_right _ h)) hown hK.1 hP 0 rfl rfl 30 (by decide) (hts (.fieldLink RX12 73 "CutAtlasModel" "byLine" "[I") (List.mem_of_getElem? (i := 4) rfl)) (fun _ h9 => h9) rfl dB_3_2_17.2.1.2.1 ?_
                            refine lv_iload hx hb dB_3_2_17.2.1.2.2 (lv_at hl 0 rfl) ?_
                            have h_55 : vp_in x8_24 12 := in_I (by first | with_reducible assumption | omega) (by omega)
                            refine va_iald hx hb hK.1 hP 9 0 rfl rfl (i := x8_24) h_55 dB_3_2_17.2.2.1.1 ?_
                            refine lv_topi (fun y_56 ey_56 => ?_)
                            have ky_56 : y_56.toInt = (e30_16 x8_24.toNatClampNeg).toInt := by rw [ey_56]
                            have ry_56 : 0 ≤ y_56.toInt ∧ y_56.toInt ≤ 39 := by rw [ey_56]; exact g_19 _ (in_lt h_55)
                            have hfl_ := hfa_ y_56.toNatClampNeg (by have c_ := clI (i := y_56) (by omega); omega)
                            refine lv_aload_n hx hb dB_3_2_17.2.2.1.2 rfl (lv_at hl 4 rfl) ?_
                            refine va_get (ci := 12) (v := .ref g6) (C := RX12) (T := TX12) (N := 34) hx hb hts (fun _ h => List.mem_cons_of_mem _ (List.mem_append_right _ h)) hown hK.1 hP 0 rfl rfl 6 (by decide) (hts (.fieldLink RX12 13 "CutAtlasModel" "from" "[I") (List.mem_of_getElem? (i := 5) rfl)) (fun _ h9 => h9) rfl dB_3_2_17.2.2.2.1 ?_
                            refine lv_aload_n hx hb dB_3_2_17.2.2.2.2 rfl (lv_at hl 4 rfl) ?_
                            refine va_get (ci := 12) (v := .ref g30) (C := RX12) (T := TX12) (N := 34) hx hb hts (fun _ h => List.mem_cons_of_mem _ (List.mem_append_right _ h)) hown hK.1 hP 0 rfl rfl 30 (by decide) (hts (.fieldLink RX12 73 "CutAtlasModel" "byLine" "[I") (List.mem_of_getElem? (i := 4) rfl)) (fun _ h9 => h9) rfl dB_3_2_18.1.1.1.1 ?_
                            refine lv_iload hx hb dB_3_2_18.1.1.1.2 (lv_at hl 0 rfl) ?_
                            refine va_iald hx hb hK.1 hP 9 0 rfl rfl (i := x8_24) h_55 dB_3_2_18.1.1.2.1 ?_
                            refine lv_topi (fun y_58 ey_58 => ?_)
                            have e_ := (ey_58.trans ey_56.symm).symm
                            subst e_
                            skip
                            have h_59 : vp_in y_56 40 := in_I (by first | with_reducible assumption | omega) (by omega)
                            refine va_iald hx hb hK.1 hP 2 0 rfl rfl (i := y_56) h_59 dB_3_2_18.1.1.2.2 ?_
                            refine lv_topi (fun y_60 ey_60 => ?_)
                            have ky_60 : y_60.toInt = (f6 y_56.toNatClampNeg).toInt := by rw [ey_60]
                            have ry_60 : 0 ≤ y_60.toInt ∧ y_60.toInt ≤ 11 := by rw [ey_60]; exact r_f6 _ (in_lt h_59)
                            refine lv_aload_n hx hb dB_3_2_18.1.2.1.1 rfl (lv_at hl 4 rfl) ?_
                            refine va_get (ci := 12) (v := .ref g31) (C := RX12) (T := TX12) (N := 34) hx hb hts (fun _ h => List.mem_cons_of_mem _ (List.mem_append_right _ h)) hown hK.1 hP 0 rfl rfl 31 (by decide) (hts (.fieldLink RX12 76 "CutAtlasModel" "byPlace" "[I") (List.mem_of_getElem? (i := 6) rfl)) (fun _ h9 => h9) rfl dB_3_2_18.1.2.1.2 ?_
                            refine lv_iload hx hb dB_3_2_18.1.2.2.1 (lv_at hl 0 rfl) ?_
                            refine va_iald hx hb hK.1 hP 10 0 rfl rfl (i := x8_24) h_55 dB_3_2_18.1.2.2.2 ?_
                            refine lv_topi (fun y_62 ey_62 => ?_)
                            have ky_62 : y_62.toInt = (e31_17 x8_24.toNatClampNeg).toInt := by rw [ey_62]
                            have ry_62 : 0 ≤ y_62.toInt ∧ y_62.toInt ≤ 11 := by rw [ey_62]; exact g_20 _ (in_lt h_55)
                            refine lv_icmp_ne (tgt := 134) hx hb dB_3_2_18.2.1.1.1 (by decide) (fun c_63 => ?_) (fun c_63 => ?_)
                            · have t_63 : ¬ y_60.toInt = y_62.toInt := fun h => c_63 (Int32.toInt_inj.mp h)
                              refine lv_iconst (v := 0) hx hb dB_3_2_18.2.1.2.2 (by decide) ?_
                              refine ct_R hP hD [ob12_0_ mo 0 s1 t2 s3 s4 g5 g6 g7 g8 g9 g10 s11 g12 g13 g14 g15 g16 g17 g18 g19 g20 s21 g22 g23 g24 s25 s26 s27 s28 g29 g30 g31 g32 g33, ai_ cy g5 40 f5, ai_ cy g8 40 f8, ai_ cy g22 40 c_g22_11] [0, 1, 4, 7] (by decide) rfl (fun hPc hDw => ?_)
                              have hFc := va_free (wc := []) hD hS hA [] rfl
                              refine va_calli (va_runV (As := [.int y_56, .int 0]) (rest := []) ⟨hx, hb, hml, hown, hts⟩ (c_X12_amount2 l D cy H.size mo g5 g6 g7 g8 g9 g10 g12 g13 g14 g15 g16 g17 g18 g19 g20 g22 g23 g24 g29 g30 g31 g32 g33 (0 : Int32) s1 s3 s4 s11 s21 s25 s26 s27 s28 t2 f5 f8 c_g22_11 y_56 (0 : Int32) (by first | with_reducible assumption | omega | assumption) (by first | with_reducible assumption | omega | assumption) (by first | with_reducible assumption | omega | assumption) (by first | with_reducible assumption | omega | assumption) (by first | with_reducible assumption | assumption | omega)) (cwV 2 hts gX12_cheapest_X12_amount rfl rfl rfl ⟨rfl, hd_X12_amount⟩ ⟨Nat.le_of_ble_eq_true rfl, Nat.le_of_ble_eq_true rfl⟩) ⟨bl_, va_recvX hK.1 hP (ci := 12) (q0 := 0) rfl rfl, fun U hU hW => ⟨rfl, by rw [hU], by rw [hU]; exact hPc, kk_mv hW hK, hDw⟩⟩ rfl rfl hl.1 rfl (lv_room (Nat.le_of_ble_eq_true rfl)) dB_3_2_18.2.2.1.1 ⟨Nat.le_of_ble_eq_true rfl, Nat.le_of_ble_eq_true rfl⟩) hS (fun q _ h => hFc q h) hFc (fun r_64 u t H locs ht hvm hw hB hz1 hk1 hS => ?_)
                              have hP : va_P D vwCl _ H := ro_keep hP hk1
                              obtain ⟨f0_r_64, f1_r_64⟩ := hw
                              have ha_ : r_64.toInt = amtI f5 f6 f8 c_g22_11 e30_16 e31_17 x8_24.toNatClampNeg := by have f9_ := f0_r_64; unfold amtI dirI; first | (rw [z1] at f9_; rw [← ey_56, ← ey_60, ← ey_62, if_pos (by omega)]; exact f9_) | (rw [z0] at f9_; rw [← ey_56, ← ey_60, ← ey_62, if_neg (by omega)]; exact f9_)
                              refine lv_istore (lv' := [(9, .int r_64), (8, .int x8_24), (7, .int x7_24), (5, .long x5_11), (4, .int x4_11), (0, .ref mo), (1, .int a1), (2, .int a2), (3, .int a3)]) hx hb dB_3_2_18.2.2.1.2 hl (by decide) rfl (fun ls hl => ?_)
                              refine lv_iload hx hb dB_3_2_18.2.2.2.1 (lv_at hl 0 rfl) ?_
                              refine lv_iload hx hb dB_3_2_18.2.2.2.2 (lv_at hl 2 rfl) ?_
                              refine lv_icmp_ge (tgt := 152) hx hb dB_3_2_19.1.1.1.1 (by decide) (fun c_65 => ?_) (fun c_65 => ?_)
                              · have t_65 : x7_24.toInt ≤ r_64.toInt := Int32.le_iff_toInt_le.mp c_65
                                refine lv_iload hx hb dB_3_2_19.1.1.2.2 (lv_at hl 2 rfl) ?_
                                refine lv_istore (lv' := [(7, .int x7_24), (9, .int r_64), (8, .int x8_24), (5, .long x5_11), (4, .int x4_11), (0, .ref mo), (1, .int a1), (2, .int a2), (3, .int a3)]) hx hb dB_3_2_19.1.2.1.1 hl (by decide) rfl (fun ls hl => ?_)
                                have hk_ : ∀ k : Nat, k < i_24 + 1 → x7_24.toInt ≤ amtI f5 f6 f8 c_g22_11 e30_16 e31_17 (itr (pf_ e31_17) k a2.toNatClampNeg) := fun k hk => (Nat.lt_or_ge k i_24).elim (fun q => by have h9 := v4_24 k q; omega) (fun q => by rw [show k = i_24 by omega, ← v1_24]; omega)
                                refine lv_aload_n hx hb dB_3_2_19.1.2.1.2 rfl (lv_at hl 5 rfl) ?_
                                refine va_get (ci := 12) (v := .ref g31) (C := RX12) (T := TX12) (N := 34) hx hb hts (fun _ h => List.mem_cons_of_mem _ (List.mem_append_right _ h)) hown hK.1 hP 0 rfl rfl 31 (by decide) (hts (.fieldLink RX12 76 "CutAtlasModel" "byPlace" "[I") (List.mem_of_getElem? (i := 6) rfl)) (fun _ h9 => h9) rfl dB_3_2_19.1.2.2.1 ?_
                                refine lv_iload hx hb dB_3_2_19.1.2.2.2 (lv_at hl 2 rfl) ?_
                                refine va_iald hx hb hK.1 hP 10 0 rfl rfl (i := x8_24) h_55 dB_3_2_19.2.1.1.1 ?_
                                refine lv_topi (fun y_67 ey_67 => ?_)
                                have e_ := (ey_67.trans ey_62.symm).symm
                                subst e_
                                skip
                                have hy_ : y_62.toNatClampNeg = (itr (pf_ e31_17) (i_24 + 1) a2.toNatClampNeg) := by rw [ey_62, v1_24]; rfl
                                refine lv_istore (lv' := [(8, .int y_62), (7, .int x7_24), (9, .int r_64), (5, .long x5_11), (4, .int x4_11), (0, .ref mo), (1, .int a1), (2, .int a2), (3, .int a3)]) hx hb dB_3_2_19.2.1.1.2 hl (by decide) rfl (fun ls hl => ?_)
                                refine lv_goto (tgt := 94) hx hb dB_3_2_19.2.1.2.1 (by decide) ?_
                                exact ih_24 y_62 x7_24 (i_24 + 1) _ _ _ (by omega) (by first | with_reducible assumption | assumption | omega) (by first | with_reducible assumption | assumption | rfl) (by first | with_reducible assumption | omega | assumption) (by first | with_reducible assumption | omega | assumption) (by first | exact hk_ | (intro k hk; omega)) ⟨hP, hD⟩ hS (lv_sub hl [0, 1, 3, 4, 5, 6, 7, 8] rfl)
                              · have t_65 : ¬ x7_24.toInt ≤ r_64.toInt := fun h => c_65 (Int32.le_iff_toInt_le.mpr h)
                                refine lv_iload hx hb dB_3_2_19.1.1.1.2 (lv_at hl 0 rfl) ?_
                                refine lv_goto (tgt := 154) hx hb dB_3_2_19.1.1.2.1 (by decide) ?_
                                refine lv_istore (lv' := [(7, .int r_64), (9, .int r_64), (8, .int x8_24), (5, .long x5_11), (4, .int x4_11), (0, .ref mo), (1, .int a1), (2, .int a2), (3, .int a3)]) hx hb dB_3_2_19.1.2.1.1 hl (by decide) rfl (fun ls hl => ?_)
                                have hk_ : ∀ k : Nat, k < i_24 + 1 → r_64.toInt ≤ amtI f5 f6 f8 c_g22_11 e30_16 e31_17 (itr (pf_ e31_17) k a2.toNatClampNeg) := fun k hk => (Nat.lt_or_ge k i_24).elim (fun q => by have h9 := v4_24 k q; omega) (fun q => by rw [show k = i_24 by omega, ← v1_24]; omega)
                                refine lv_aload_n hx hb dB_3_2_19.1.2.1.2 rfl (lv_at hl 5 rfl) ?_
                                refine va_get (ci := 12) (v := .ref g31) (C := RX12) (T := TX12) (N := 34) hx hb hts (fun _ h => List.mem_cons_of_mem _ (List.mem_append_right _ h)) hown hK.1 hP 0 rfl rfl 31 (by decide) (hts (.fieldLink RX12 76 "CutAtlasModel" "byPlace" "[I") (List.mem_of_getElem? (i := 6) rfl)) (fun _ h9 => h9) rfl dB_3_2_19.1.2.2.1 ?_
                                refine lv_iload hx hb dB_3_2_19.1.2.2.2 (lv_at hl 2 rfl) ?_
                                refine va_iald hx hb hK.1 hP 10 0 rfl rfl (i := x8_24) h_55 dB_3_2_19.2.1.1.1 ?_
                                refine lv_topi (fun y_69 ey_69 => ?_)
                                have e_ := (ey_69.trans ey_62.symm).symm
                                subst e_
                                skip
                                have hy_ : y_62.toNatClampNeg = (itr (pf_ e31_17) (i_24 + 1) a2.toNatClampNeg) := by rw [ey_62, v1_24]; rfl
                                refine lv_istore (lv' := [(8, .int y_62), (7, .int r_64), (9, .int r_64), (5, .long x5_11), (4, .int x4_11), (0, .ref mo), (1, .int a1), (2, .int a2), (3, .int a3)]) hx hb dB_3_2_19.2.1.1.2 hl (by decide) rfl (fun ls hl => ?_)
                                refine lv_goto (tgt := 94) hx hb dB_3_2_19.2.1.2.1 (by decide) ?_
                                exact ih_24 y_62 r_64 (i_24 + 1) _ _ _ (by omega) (by first | with_reducible assumption | assumption | omega) (by first | with_reducible assumption | assumption | rfl) (by first | with_reducible assumption | omega | assumption) (by first | with_reducible assumption | omega | assumption) (by first | exact hk_ | (intro k hk; omega)) ⟨hP, hD⟩ hS (lv_sub hl [0, 1, 3, 4, 5, 6, 7, 8] rfl)
                            · have t_63 : y_60.toInt = y_62.toInt := congrArg Int32.toInt c_63
                              refine lv_iconst (v := 1) hx hb dB_3_2_18.2.1.1.2 (by decide) ?_
                              refine lv_goto (tgt := 135) hx hb dB_3_2_18.2.1.2.1 (by decide) ?_
                              refine ct_R hP hD [ob12_0_ mo 0 s1 t2 s3 s4 g5 g6 g7 g8 g9 g10 s11 g12 g13 g14 g15 g16 g17 g18 g19 g20 s21 g22 g23 g24 s25 s26 s27 s28 g29 g30 g31 g32 g33, ai_ cy g5 40 f5, ai_ cy g8 40 f8, ai_ cy g22 40 c_g22_11] [0, 1, 4, 7] (by decide) rfl (fun hPc hDw => ?_)
                              have hFc := va_free (wc := []) hD hS hA [] rfl
                              refine va_calli (va_runV (As := [.int y_56, .int 1]) (rest := []) ⟨hx, hb, hml, hown, hts⟩ (c_X12_amount2 l D cy H.size mo g5 g6 g7 g8 g9 g10 g12 g13 g14 g15 g16 g17 g18 g19 g20 g22 g23 g24 g29 g30 g31 g32 g33 (0 : Int32) s1 s3 s4 s11 s21 s25 s26 s27 s28 t2 f5 f8 c_g22_11 y_56 (1 : Int32) (by first | with_reducible assumption | omega | assumption) (by first | with_reducible assumption | omega | assumption) (by first | with_reducible assumption | omega | assumption) (by first | with_reducible assumption | omega | assumption) (by first | with_reducible assumption | assumption | omega)) (cwV 2 hts gX12_cheapest_X12_amount rfl rfl rfl ⟨rfl, hd_X12_amount⟩ ⟨Nat.le_of_ble_eq_true rfl, Nat.le_of_ble_eq_true rfl⟩) ⟨bl_, va_recvX hK.1 hP (ci := 12) (q0 := 0) rfl rfl, fun U hU hW => ⟨rfl, by rw [hU], by rw [hU]; exact hPc, kk_mv hW hK, hDw⟩⟩ rfl rfl hl.1 rfl (lv_room (Nat.le_of_ble_eq_true rfl)) dB_3_2_18.2.2.1.1 ⟨Nat.le_of_ble_eq_true rfl, Nat.le_of_ble_eq_true rfl⟩) hS (fun q _ h => hFc q h) hFc (fun r_70 u t H locs ht hvm hw hB hz1 hk1 hS => ?_)
                              have hP : va_P D vwCl _ H := ro_keep hP hk1
                              obtain ⟨f0_r_70, f1_r_70⟩ := hw
                              have ha_ : r_70.toInt = amtI f5 f6 f8 c_g22_11 e30_16 e31_17 x8_24.toNatClampNeg := by have f9_ := f0_r_70; unfold amtI dirI; first | (rw [z1] at f9_; rw [← ey_56, ← ey_60, ← ey_62, if_pos (by omega)]; exact f9_) | (rw [z0] at f9_; rw [← ey_56, ← ey_60, ← ey_62, if_neg (by omega)]; exact f9_)
                              refine lv_istore (lv' := [(9, .int r_70), (8, .int x8_24), (7, .int x7_24), (5, .long x5_11), (4, .int x4_11), (0, .ref mo), (1, .int a1), (2, .int a2), (3, .int a3)]) hx hb dB_3_2_18.2.2.1.2 hl (by decide) rfl (fun ls hl => ?_)
                              refine lv_iload hx hb dB_3_2_18.2.2.2.1 (lv_at hl 0 rfl) ?_
                              refine lv_iload hx hb dB_3_2_18.2.2.2.2 (lv_at hl 2 rfl) ?_
                              refine lv_icmp_ge (tgt := 152) hx hb dB_3_2_19.1.1.1.1 (by decide) (fun c_71 => ?_) (fun c_71 => ?_)
                              · have t_71 : x7_24.toInt ≤ r_70.toInt := Int32.le_iff_toInt_le.mp c_71
                                refine lv_iload hx hb dB_3_2_19.1.1.2.2 (lv_at hl 2 rfl) ?_
                                refine lv_istore (lv' := [(7, .int x7_24), (9, .int r_70), (8, .int x8_24), (5, .long x5_11), (4, .int x4_11), (0, .ref mo), (1, .int a1), (2, .int a2), (3, .int a3)]) hx hb dB_3_2_19.1.2.1.1 hl (by decide) rfl (fun ls hl => ?_)
                                have hk_ : ∀ k : Nat, k < i_24 + 1 → x7_24.toInt ≤ amtI f5 f6 f8 c_g22_11 e30_16 e31_17 (itr (pf_ e31_17) k a2.toNatClampNeg) := fun k hk => (Nat.lt_or_ge k i_24).elim (fun q => by have h9 := v4_24 k q; omega) (fun q => by rw [show k = i_24 by omega, ← v1_24]; omega)
                                refine lv_aload_n hx hb dB_3_2_19.1.2.1.2 rfl (lv_at hl 5 rfl) ?_
                                refine va_get (ci := 12) (v := .ref g31) (C := RX12) (T := TX12) (N := 34) hx hb hts (fun _ h => List.mem_cons_of_mem _ (List.mem_append_right _ h)) hown hK.1 hP 0 rfl rfl 31 (by decide) (hts (.fieldLink RX12 76 "CutAtlasModel" "byPlace" "[I") (List.mem_of_getElem? (i := 6) rfl)) (fun _ h9 => h9) rfl dB_3_2_19.1.2.2.1 ?_
                                refine lv_iload hx hb dB_3_2_19.1.2.2.2 (lv_at hl 2 rfl) ?_
                                refine va_iald hx hb hK.1 hP 10 0 rfl rfl (i := x8_24) h_55 dB_3_2_19.2.1.1.1 ?_
                                refine lv_topi (fun y_73 ey_73 => ?_)
                                have e_ := (ey_73.trans ey_62.symm).symm
                                subst e_
                                skip
                                have hy_ : y_62.toNatClampNeg = (itr (pf_ e31_17) (i_24 + 1) a2.toNatClampNeg) := by rw [ey_62, v1_24]; rfl
                                refine lv_istore (lv' := [(8, .int y_62), (7, .int x7_24), (9, .int r_70), (5, .long x5_11), (4, .int x4_11), (0, .ref mo), (1, .int a1), (2, .int a2), (3, .int a3)]) hx hb dB_3_2_19.2.1.1.2 hl (by decide) rfl (fun ls hl => ?_)
                                refine lv_goto (tgt := 94) hx hb dB_3_2_19.2.1.2.1 (by decide) ?_
                                exact ih_24 y_62 x7_24 (i_24 + 1) _ _ _ (by omega) (by first | with_reducible assumption | assumption | omega) (by first | with_reducible assumption | assumption | rfl) (by first | with_reducible assumption | omega | assumption) (by first | with_reducible assumption | omega | assumption) (by first | exact hk_ | (intro k hk; omega)) ⟨hP, hD⟩ hS (lv_sub hl [0, 1, 3, 4, 5, 6, 7, 8] rfl)
                              · have t_71 : ¬ x7_24.toInt ≤ r_70.toInt := fun h => c_71 (Int32.le_iff_toInt_le.mpr h)
                                refine lv_iload hx hb dB_3_2_19.1.1.1.2 (lv_at hl 0 rfl) ?_
                                refine lv_goto (tgt := 154) hx hb dB_3_2_19.1.1.2.1 (by decide) ?_
                                refine lv_istore (lv' := [(7, .int r_70), (9, .int r_70), (8, .int x8_24), (5, .long x5_11), (4, .int x4_11), (0, .ref mo), (1, .int a1), (2, .int a2), (3, .int a3)]) hx hb dB_3_2_19.1.2.1.1 hl (by decide) rfl (fun ls hl => ?_)
                                have hk_ : ∀ k : Nat, k < i_24 + 1 → r_70.toInt ≤ amtI f5 f6 f8 c_g22_11 e30_16 e31_17 (itr (pf_ e31_17) k a2.toNatClampNeg) := fun k hk => (Nat.lt_or_ge k i_24).elim (fun q => by have h9 := v4_24 k q; omega) (fun q => by rw [show k = i_24 by omega, ← v1_24]; omega)
                                refine lv_aload_n hx hb dB_3_2_19.1.2.1.2 rfl (lv_at hl 5 rfl) ?_
                                refine va_get (ci := 12) (v := .ref g31) (C := RX12) (T := TX12) (N := 34) hx hb hts (fun _ h => List.mem_cons_of_mem _ (List.mem_append_right _ h)) hown hK.1 hP 0 rfl rfl 31 (by decide) (hts (.fieldLink RX12 76 "CutAtlasModel" "byPlace" "[I") (List.mem_of_getElem? (i := 6) rfl)) (fun _ h9 => h9) rfl dB_3_2_19.1.2.2.1 ?_
                                refine lv_iload hx hb dB_3_2_19.1.2.2.2 (lv_at hl 2 rfl) ?_
                                refine va_iald hx hb hK.1 hP 10 0 rfl rfl (i := x8_24) h_55 dB_3_2_19.2.1.1.1 ?_
                                refine lv_topi (fun y_75 ey_75 => ?_)
                                have e_ := (ey_75.trans ey_62.symm).symm
                                subst e_
                                skip
                                have hy_ : y_62.toNatClampNeg = (itr (pf_ e31_17) (i_24 + 1) a2.toNatClampNeg) := by rw [ey_62, v1_24]; rfl
                                refine lv_istore (lv' := [(8, .int y_62), (7, .int r_70), (9, .int r_70), (5, .long x5_11), (4, .int x4_11), (0, .ref mo), (1, .int a1), (2, .int a2), (3, .int a3)]) hx hb dB_3_2_19.2.1.1.2 hl (by decide) rfl (fun ls hl => ?_)
                                refine lv_goto (tgt := 94) hx hb dB_3_2_19.2.1.2.1 (by decide) ?_
                                exact ih_24 y_62 r_70 (i_24 + 1) _ _ _ (by omega) (by first | with_reducible assumption | assumption | omega) (by first | with_reducible assumption | assumption | rfl) (by first | with_reducible assumption | omega | assumption) (by first | with_reducible assumption | omega | assumption) (by first | exact hk_ | (intro k hk; omega)) ⟨hP, hD⟩ hS (lv_sub hl [0, 1, 3, 4, 5, 6, 7, 8] rfl)
                      · exact absurd c_23 (by decide)
              · have t_10 : ¬ (40 : Int32).toInt ≤ x4_9.toInt := fun h => c_10 (Int32.le_iff_toInt_le.mpr h)
                refine lv_aload_n hx hb dB_3_2_15.2.2.1.2 rfl (lv_at hl 1 rfl) ?_
                refine va_get (ci := 12) (v := .ref g22) (C := RX12) (T := TX12) (N := 34) hx hb hts (fun _ h => List.mem_cons_of_mem _ (List.mem_append_right _ h)) hown hK.1 hP 0 rfl rfl 22 (by decide) (hts (.fieldLink RX12 61 "CutAtlasModel" "flows" "[I") (List.mem_of_getElem? (i := 3) rfl)) (fun _ h9 => h9) rfl dB_3_2_15.2.2.2.1 ?_
                refine lv_iload hx hb dB_3_2_15.2.2.2.2 (lv_at hl 0 rfl) ?_
                refine lv_iconst (v := 0) hx hb dB_3_2_16.1.1.1.1 (by decide) ?_
                have h_76 : vp_in x4_9 40 := in_I (by first | with_reducible assumption | omega) (by omega)
                refine va_iast hx hb hK.1 hP hD hS 7 0 rfl rfl (i := x4_9) h_76 dB_3_2_16.1.1.1.2 (fun H locs hP hD hS => ?_)
                obtain ⟨f_77, ef_77⟩ : ∃ g : Nat → Int32, g = upd c_g22_9 x4_9.toNatClampNeg (0 : Int32) := ⟨_, rfl⟩
                refine pd_K (D := D) (cl := vwCl) (H := H) (A := A) [ob12_0_ mo 0 s1 t2 s3 s4 g5 g6 g7 g8 g9 g10 s11 g12 g13 g14 g15 g16 g17 g18 g19 g20 s21 g22 g23 g24 s25 s26 s27 s28 g29 g30 g31 g32 g33, ai_ cy g5 40 f5, ai_ cy g6 40 f6, ai_ cy g7 40 f7, ai_ cy g8 40 f8, ai_ cy g9 40 f9, az_ cy g10 40 f10, ai_ cy g22 40 f_77, aj_ cy g29 12 f29, ai_ cy g30 12 f30, ai_ cy g31 12 f31] (by rw [ef_77]; exact hP) (by rw [ef_77]; exact hD) (fun hP hD => ?_)
                obtain ⟨y_78, ey_78⟩ : ∃ y : Int32, y = x4_9 + 1 := ⟨_, rfl⟩
                have ty_78 : y_78.toInt = x4_9.toInt + (1 : Int32).toInt := by rw [ey_78]; exact addI (by omega) (by omega)
                refine lv_iinc (v := y_78) (lv' := [(4, .int y_78), (0, .ref mo), (1, .int a1), (2, .int a2), (3, .int a3)]) hx hb dB_3_2_16.1.1.2.1 hl (k := 0) rfl (by rw [ey_78]; rfl) (by decide) rfl (fun ls hl => ?_)
                refine lv_goto (tgt := 43) hx hb dB_3_2_16.1.1.2.2 (by decide) ?_
                exact ih_9 y_78 f_77 _ _ _ (by omega) (by first | with_reducible assumption | omega | assumption) (by first | with_reducible assumption | omega | assumption) (by first | exact zero_st (by assumption) (by assumption) (by omega) (by omega) | (intro j hj; omega)) ⟨hP, hD⟩ hS (lv_sub hl [0, 1, 2, 3, 4] rfl)
          · have t_8 : ¬ r_7.toInt < a3.toInt := fun h => c_8 (Int32.lt_iff_toInt_lt.mpr h)
            refine lv_iconst (v := 0) hx hb dB_3_2_15.1.2.2.1 (by decide) ?_
            rw [hQ]
            exact W.iret (v := 0) hx hb hr (fun t ht hW => ⟨⟨0, (), rfl, trivial, f22, f29, f30, f31, (by first | with_reducible assumption | assumption | exact rng_zero (by omega) (by omega) | omega), (by first | with_reducible assumption | assumption | exact rng_zero (by omega) (by omega) | omega), by rw [ht]; exact hP, hD⟩, hS.F ht⟩) hS.2.2 dB_3_2_15.1.2.2.2
        · exact absurd c_6 (by decide)
      · have e_ := e_.symm
        subst e_
        refine lv_if_ne (tgt := 28) hx hb dB_3_2_14.2.2.1.2 (by decide) (fun c_79 => ?_) (fun c_79 => ?_)
        · exact absurd c_79 (by decide)
        · have _ := c_79
          refine lv_iconst (v := (-1)) hx hb dB_3_2_14.2.2.2.1 (by decide) ?_
          rw [hQ]
          exact W.iret (v := (-1)) hx hb hr (fun t ht hW => ⟨⟨(-1), (), rfl, trivial, f22, f29, f30, f31, (by first | with_reducible assumption | assumption | exact rng_zero (by omega) (by omega) | omega), (by first | with_reducible assumption | assumption | exact rng_zero (by omega) (by omega) | omega), by rw [ht]; exact hP, hD⟩, hS.F ht⟩) hS.2.2 dB_3_2_14.2.2.2.2
  · have e_ := e_.symm
    subst e_
    refine lv_if_eq (tgt := 26) hx hb dB_3_2_14.1.2.2.2 (by decide) (fun c_80 => ?_) (fun c_80 => ?_)
    · have _ := c_80
      refine lv_iconst (v := (-1)) hx hb dB_3_2_14.2.2.2.1 (by decide) ?_
      rw [hQ]
      exact W.iret (v := (-1)) hx hb hr (fun t ht hW => ⟨⟨(-1), (), rfl, trivial, f22, f29, f30, f31, (by first | with_reducible assumption | assumption | exact rng_zero (by omega) (by omega) | omega), (by first | with_reducible assumption | assumption | exact rng_zero (by omega) (by omega) | omega), by rw [ht]; exact hP, hD⟩, hS.F ht⟩) hS.2.2 dB_3_2_14.2.2.2.2
    · exact absurd c_80 (by decide)
end

section
/-! ===== the reference's kept nets ===== -/
noncomputable def pastE (U : Int) (f12 f13 f14 : Nat → Int32) : Prop := ∀ k : Nat, (k : Int) < U → ∀ j : Nat, (j : Int) < (f13 k).toInt → (f14 (200 * k + 5 * j + 4)).toInt < 1000 → (f14 (200 * k + 5 * j + 1)).toInt < (f12 k).toInt ∧ (f14 (200 * k + 5 * j + 2)).toInt < (f12 k).toInt
/-- line l of a net, as it is kept from place b on -/
noncomputable def entry (g : Nat → Int32) (b : Nat) (f5 f6 f7 f8 f9 f10 : Nat → Int32) (l : Nat) : Prop := g (b + 5 * l) = f5 l ∧ g (b + 5 * l + 1) = f6 l ∧ g (b + 5 * l + 2) = f7 l ∧ g (b + 5 * l + 3) = f8 l ∧ (g (b + 5 * l + 4)).toInt = (f9 l).toInt + (if (f10 l).toInt ≠ 0 then 1000 else 0)
/-- one more net is kept, of 31 the first one goes -/
noncomputable def kept (P N : Int32) (f5 f6 f7 f8 f9 f10 : Nat → Int32) (U : Int) (f12 f13 f14 : Nat → Int32) (U2 : Int) (e12 e13 e14 : Nat → Int32) : Prop :=
  ∃ m d : Nat, U2 = m + 1 ∧ (U = 30 ∧ d = 1 ∧ m = 29 ∨ U < 30 ∧ d = 0 ∧ U = m) ∧ (∀ k : Nat, k < m → e12 k = f12 (k + d) ∧ e13 k = f13 (k + d) ∧ ∀ i : Nat, i < 200 → e14 (200 * k + i) = f14 (200 * (k + d) + i)) ∧ e12 m = P ∧ e13 m = N ∧ ∀ l : Nat, l < 40 → entry e14 (200 * m) f5 f6 f7 f8 f9 f10 l
theorem kept_past {P N : Int32} {f5 f6 f7 f8 f9 f10 : Nat → Int32} {U : Int} {f12 f13 f14 : Nat → Int32} {U2 : Int} {e12 e13 e14 : Nat → Int32} (h : kept P N f5 f6 f7 f8 f9 f10 U f12 f13 f14 U2 e12 e13 e14) (hn : netE P.toInt N.toInt f6 f7 f10) (hp : pastE U f12 f13 f14) (hN : N.toInt ≤ 40) (r9 : rng f9 40 0 100) (r13 : rng f13 30 0 40) (hU : 0 ≤ U) : pastE U2 e12 e13 e14 := by
  obtain ⟨m, d, h2, hd, hk, hP, hN2, he⟩ := h
  intro k hk2 j hj h4
  by_cases q : k = m
  · subst q
    rw [hN2] at hj
    obtain ⟨a0, a1, a2, a3, a4⟩ := he j (by omega)
    rw [a4] at h4
    rw [a1, a2, hP]
    refine hn j hj ?_
    have b := r9 j (by omega)
    by_cases z : (f10 j).toInt ≠ 0
    · rw [if_pos z] at h4
      omega
    · omega
  · obtain ⟨a1, a2, a3⟩ := hk k (by omega)
    rw [a2] at hj
    have b := r13 (k + d) (by omega)
    have c1 := a3 (5 * j + 1) (by omega)
    have c2 := a3 (5 * j + 2) (by omega)
    have c4 := a3 (5 * j + 4) (by omega)
    rw [show 200 * k + 5 * j + 4 = 200 * k + (5 * j + 4) by omega, c4] at h4
    rw [show 200 * k + 5 * j + 1 = 200 * k + (5 * j + 1) by omega, c1, show 200 * k + 5 * j + 2 = 200 * k + (5 * j + 2) by omega, c2, a1]
    exact hp (k + d) (by omega) j hj h4
noncomputable def shf (f g : Nat → Int32) (d : Nat) (n : Int) : Prop := (∀ q : Nat, (q : Int) < n → g q = f (q + d)) ∧ (∀ q : Nat, n ≤ (q : Int) → g q = f q)
theorem shf_0 {f : Nat → Int32} {d : Nat} : shf f f d (0 : Int32).toInt := by
  have z : (0 : Int32).toInt = 0 := by decide
  exact ⟨fun q h => by omega, fun _ _ => rfl⟩
theorem shf_st {f g g2 : Nat → Int32} {d : Nat} {i i2 j v : Int32} (h : shf f g d i.toInt) (e : g2 = upd g i.toNatClampNeg v) (ev : v = g j.toNatClampNeg) (ej : j.toInt = i.toInt + d) (h0 : 0 ≤ i.toInt) (ei : i2.toInt = i.toInt + 1) : shf f g2 d i2.toInt := by
  have c := clI (i := i) h0
  have cj := clI (i := j) (by omega)
  refine ⟨fun q hq => ?_, fun q hq => ?_⟩
  · by_cases z : q = i.toNatClampNeg
    · rw [e, z, pk_us, ev, h.2 _ (by omega), show j.toNatClampNeg = i.toNatClampNeg + d by omega]
    · rw [e, pk_un z]
      exact h.1 q (by omega)
  · rw [e, pk_un (by omega)]
    exact h.2 q (by omega)
noncomputable def moved (s11 : Int) (f12 f13 f14 : Nat → Int32) (U : Int) (e12 e13 e14 : Nat → Int32) : Prop := ∃ d : Nat, (s11 = 30 ∧ d = 1 ∧ U = 29 ∨ s11 < 30 ∧ d = 0 ∧ U = s11) ∧ ∀ k : Nat, (k : Int) < U → e12 k = f12 (k + d) ∧ e13 k = f13 (k + d) ∧ ∀ i : Nat, i < 200 → e14 (200 * k + i) = f14 (200 * (k + d) + i)
theorem moved_1 {s11 U n1 n2 : Int} {f12 f13 f14 e12 e13 e14 : Nat → Int32} (hs : s11 = 30) (hU : U = 29) (h12 : shf f12 e12 1 n1) (h13 : shf f13 e13 1 n1) (h14 : shf f14 e14 200 n2) (hn1 : n1 = 29) (hn2 : n2 = 5800) : moved s11 f12 f13 f14 U e12 e13 e14 := ⟨1, Or.inl ⟨hs, rfl, hU⟩, fun k hk => ⟨h12.1 k (by omega), h13.1 k (by omega), fun i hi => by
  rw [h14.1 _ (by omega), show 200 * k + i + 200 = 200 * (k + 1) + i by omega]⟩⟩
theorem moved_0 {s11 : Int} {f12 f13 f14 : Nat → Int32} (hs : s11 < 30) : moved s11 f12 f13 f14 s11 f12 f13 f14 := ⟨0, Or.inr ⟨hs, rfl, rfl⟩, fun k hk => ⟨rfl, rfl, fun i hi => rfl⟩⟩
theorem ent_st {f5 f6 f7 f8 f9 f10 g g1 g2 g3 g4 g5 b : Nat → Int32} {u l l2 p0 p1 p2 p3 p4 v0 v1 v2 v3 v4 : Int32} (hu : 0 ≤ u.toInt) (hl : 0 ≤ l.toInt) (e0 : g1 = upd g p0.toNatClampNeg v0) (e1 : g2 = upd g1 p1.toNatClampNeg v1) (e2 : g3 = upd g2 p2.toNatClampNeg v2) (e3 : g4 = upd g3 p3.toNatClampNeg v3) (e4 : g5 = upd g4 p4.toNatClampNeg v4)
    (q0 : p0.toInt = 200 * u.toInt + 5 * l.toInt) (q1 : p1.toInt = p0.toInt + 1) (q2 : p2.toInt = p0.toInt + 2) (q3 : p3.toInt = p0.toInt + 3) (q4 : p4.toInt = p0.toInt + 4)
    (w0 : v0 = f5 l.toNatClampNeg) (w1 : v1 = f6 l.toNatClampNeg) (w2 : v2 = f7 l.toNatClampNeg) (w3 : v3 = f8 l.toNatClampNeg) (w4 : v4.toInt = (f9 l.toNatClampNeg).toInt + (if (f10 l.toNatClampNeg).toInt ≠ 0 then 1000 else 0))
    (hk : ∀ q : Nat, q < 200 * u.toNatClampNeg → g q = b q) (hE : ∀ j : Nat, (j : Int) < l.toInt → entry g (200 * u.toNatClampNeg) f5 f6 f7 f8 f9 f10 j) (el : l2.toInt = l.toInt + 1) :
    (∀ q : Nat, q < 200 * u.toNatClampNeg → g5 q = b q) ∧ ∀ j : Nat, (j : Int) < l2.toInt → entry g5 (200 * u.toNatClampNeg) f5 f6 f7 f8 f9 f10 j := by
  have cu := clI (i := u) hu
  have cl := clI (i := l) hl
  have c0 := clI (i := p0) (by omega)
  have c1 := clI (i := p1) (by omega)
  have c2 := clI (i := p2) (by omega)
  have c3 := clI (i := p3) (by omega)
  have c4 := clI (i := p4) (by omega)
  have lo : ∀ q : Nat, q < p0.toNatClampNeg → g5 q = g q := fun q hq => by
    rw [e4, pk_un (by omega), e3, pk_un (by omega), e2, pk_un (by omega), e1, pk_un (by omega), e0, pk_un (by omega)]
  refine ⟨fun q hq => (lo q (by omega)).trans (hk q hq), fun j hj => ?_⟩
  by_cases z : j = l.toNatClampNeg
  · subst z
    unfold entry
    rw [show 200 * u.toNatClampNeg + 5 * l.toNatClampNeg = p0.toNatClampNeg by omega]
    refine ⟨?_, ?_, ?_, ?_, ?_⟩
    · rw [e4, pk_un (by omega), e3, pk_un (by omega), e2, pk_un (by omega), e1, pk_un (by omega), e0, pk_us, w0]
    · rw [e4, pk_un (by omega), e3, pk_un (by omega), e2, pk_un (by omega), e1, show p0.toNatClampNeg + 1 = p1.toNatClampNeg by omega, pk_us, w1]
    · rw [e4, pk_un (by omega), e3, pk_un (by omega), e2, show p0.toNatClampNeg + 2 = p2.toNatClampNeg by omega, pk_us, w2]
    · rw [e4, pk_un (by omega), e3, show p0.toNatClampNeg + 3 = p3.toNatClampNeg by omega, pk_us, w3]
    · rw [e4, show p0.toNatClampNeg + 4 = p4.toNatClampNeg by omega, pk_us, w4]
  · have h := hE j (by omega)
    unfold entry at h ⊢
    rw [lo _ (by omega), lo _ (by omega), lo _ (by omega), lo _ (by omega), lo _ (by omega)]
    exact h
theorem kept_mk {P N u n11 L : Int32} {f5 f6 f7 f8 f9 f10 f12 f13 f14 F12 F13 F14 e12 e13 e14 : Nat → Int32} {s11 : Int} (hm : moved s11 f12 f13 f14 u.toInt F12 F13 F14) (h0 : 0 ≤ u.toInt) (a12 : e12 = upd F12 u.toNatClampNeg P) (a13 : e13 = upd F13 u.toNatClampNeg N) (hk : ∀ q : Nat, q < 200 * u.toNatClampNeg → e14 q = F14 q) (hE : ∀ j : Nat, (j : Int) < L.toInt → entry e14 (200 * u.toNatClampNeg) f5 f6 f7 f8 f9 f10 j) (hL : 40 ≤ L.toInt) (hn : n11.toInt = u.toInt + 1) : kept P N f5 f6 f7 f8 f9 f10 s11 f12 f13 f14 n11.toInt e12 e13 e14 := by
  have cu := clI (i := u) h0
  obtain ⟨d, hd, hq⟩ := hm
  refine ⟨u.toNatClampNeg, d, by omega, by omega, fun k hk2 => ?_, ?_, ?_, fun l hl => hE l (by omega)⟩
  · obtain ⟨b1, b2, b3⟩ := hq k (by omega)
    refine ⟨?_, ?_, fun i hi => ?_⟩
    · rw [a12, pk_un (by omega)]
      exact b1
    · rw [a13, pk_un (by omega)]
      exact b2
    · rw [hk _ (by omega)]
      exact b3 i hi
  · rw [a12, pk_us]
  · rw [a13, pk_us]
theorem netE_up {P Q N : Int} {f6 f7 f10 : Nat → Int32} (h : netE P N f6 f7 f10) (hq : P ≤ Q) : netE Q N f6 f7 f10 := fun j hj h0 => by
  have a := h j hj h0
  omega
theorem netE_add {P : Int} {N M a b z : Int32} {f6 f7 f10 e6 e7 e10 : Nat → Int32} (h : netE P N.toInt f6 f7 f10) (h6 : e6 = upd f6 N.toNatClampNeg a) (h7 : e7 = upd f7 N.toNatClampNeg b) (h10 : e10 = upd f10 N.toNatClampNeg z) (hN : 0 ≤ N.toInt) (hM : M.toInt = N.toInt + 1) (ha : a.toInt < P) (hb : b.toInt < P) : netE P M.toInt e6 e7 e10 := fun j hj h0 => by
  have c := clI (i := N) hN
  by_cases q : j = N.toNatClampNeg
  · rw [h6, h7, q, pk_us, pk_us]
    exact ⟨ha, hb⟩
  · rw [h10, pk_un q] at h0
    rw [h6, h7, pk_un q, pk_un q]
    exact h j (by omega) h0
theorem past_dn {U V : Int} {f12 f13 f14 : Nat → Int32} (h : pastE U f12 f13 f14) (hV : V ≤ U) : pastE V f12 f13 f14 := fun k hk => h k (by omega)
/-- a place's number behind a merge -/
noncomputable def renI (x low high : Int) : Int := if x = high then low else if high < x then x - 1 else x
theorem renI_lt {x low high P : Int} (h1 : low < high) (h2 : high < P) (hx : x < P) : renI x low high < P - 1 := by
  unfold renI
  (repeat' split) <;> omega
/-- the lines behind a merge, the first n of them done -/
noncomputable def mrgd (low high : Int) (f6 f7 f10 g6 g7 g10 : Nat → Int32) (n : Int) : Prop :=
  (∀ j : Nat, (j : Int) < n → ((f10 j).toInt ≠ 0 → g6 j = f6 j ∧ g7 j = f7 j ∧ g10 j = f10 j) ∧ ((f10 j).toInt = 0 → (g6 j).toInt = renI (f6 j).toInt low high ∧ (g7 j).toInt = renI (f7 j).toInt low high ∧ (g10 j).toInt = if renI (f6 j).toInt low high = renI (f7 j).toInt low high then 1 else 0)) ∧
  (∀ j : Nat, n ≤ (j : Int) → g6 j = f6 j ∧ g7 j = f7 j ∧ g10 j = f10 j)
theorem mrgd_0 {low high : Int} {f6 f7 f10 : Nat → Int32} : mrgd low high f6 f7 f10 f6 f7 f10 (0 : Int32).toInt := by
  have z : (0 : Int32).toInt = 0 := by decide
  exact ⟨fun j hj => by omega, fun _ _ => ⟨rfl, rfl, rfl⟩⟩
theorem mrgd_skip {low high : Int} {f6 f7 f10 g6 g7 g10 : Nat → Int32} {n n2 : Int32} (h : mrgd low high f6 f7 f10 g6 g7 g10 n.toInt) (h0 : 0 ≤ n.toInt) (e : n2.toInt = n.toInt + 1) (hm : (g10 n.toNatClampNeg).toInt ≠ 0) : mrgd low high f6 f7 f10 g6 g7 g10 n2.toInt := by
  have c := clI (i := n) h0
  refine ⟨fun j hj => ?_, fun j hj => h.2 j (by omega)⟩
  by_cases q : j = n.toNatClampNeg
  · have a := h.2 j (by omega)
    rw [← q, a.2.2] at hm
    exact ⟨fun _ => a, fun z => absurd z hm⟩
  · exact h.1 j (by omega)
theorem mrgd_st {low high : Int} {f6 f7 f10 g6 g7 g10 k6 k7 k10 : Nat → Int32} {n n2 x y z : Int32} (h : mrgd low high f6 f7 f10 g6 g7 g10 n.toInt) (h0 : 0 ≤ n.toInt) (e : n2.toInt = n.toInt + 1) (hm : (g10 n.toNatClampNeg).toInt = 0) (e6 : k6 = upd g6 n.toNatClampNeg x) (e7 : k7 = upd g7 n.toNatClampNeg y) (e10 : k10 = upd g10 n.toNatClampNeg z)
    (hx : x.toInt = renI (g6 n.toNatClampNeg).toInt low high) (hy : y.toInt = renI (g7 n.toNatClampNeg).toInt low high) (hz : z.toInt = if x.toInt = y.toInt then 1 else 0) : mrgd low high f6 f7 f10 k6 k7 k10 n2.toInt := by
  have c := clI (i := n) h0
  have a := h.2 n.toNatClampNeg (by omega)
  rw [a.1] at hx
  rw [a.2.1] at hy
  rw [a.2.2] at hm
  refine ⟨fun j hj => ?_, fun j hj => ?_⟩
  · by_cases q : j = n.toNatClampNeg
    · rw [e6, e7, e10, q, pk_us, pk_us, pk_us]
      exact ⟨fun w => absurd hm w, fun _ => ⟨hx, hy, by rw [hz, hx, hy]⟩⟩
    · rw [e6, e7, e10, pk_un q, pk_un q, pk_un q]
      exact h.1 j (by omega)
  · rw [e6, e7, e10, pk_un (by omega), pk_un (by omega), pk_un (by omega)]
    exact h.2 j (by omega)
theorem mrgd_net {low high P N n Q : Int} {f6 f7 f10 g6 g7 g10 : Nat → Int32} (h : mrgd low high f6 f7 f10 g6 g7 g10 n) (hN : N ≤ n) (hn : netE P N f6 f7 f10) (h1 : low < high) (h2 : high < P) (hQ : Q = P - 1) : netE Q N g6 g7 g10 := fun j hj h0 => by
  have a := h.1 j (by omega)
  by_cases q : (f10 j).toInt = 0
  · have b := a.2 q
    have w := hn j hj q
    rw [b.1, b.2.1, hQ]
    exact ⟨renI_lt h1 h2 w.1, renI_lt h1 h2 w.2⟩
  · have b := a.1 q
    rw [b.2.2] at h0
    exact absurd h0 q
/-- a net as it comes back -/
noncomputable def back (g : Nat → Int32) (b : Nat) (f5 f6 f7 f8 f9 f10 : Nat → Int32) (l : Nat) : Prop := f5 l = g (b + 5 * l) ∧ f6 l = g (b + 5 * l + 1) ∧ f7 l = g (b + 5 * l + 2) ∧ f8 l = g (b + 5 * l + 3) ∧ (f9 l).toInt = (g (b + 5 * l + 4)).toInt % 1000 ∧ (f10 l).toInt = if 999 < (g (b + 5 * l + 4)).toInt then 1 else 0
theorem rem1000e {x : Int32} (h : (0 ≤ x.toInt ∧ x.toInt ≤ 100) ∨ (1000 ≤ x.toInt ∧ x.toInt ≤ 1100)) : (x - x / 1000 * 1000).toInt = x.toInt % 1000 := by
  obtain ⟨j, hj, rfl⟩ := nI_of (x := x) (fun h9 => by
    have := Int32.lt_iff_toInt_lt.mp h9
    have z : (0 : Int32).toInt = 0 := by decide
    omega)
  have e : (1000 : Int32) = nI 1000 := rfl
  rw [nI_toInt hj] at h
  rw [e, pk_rem hj (by decide) (by decide), nI_toInt (by omega), nI_toInt hj]
  omega
theorem back_st {g f5 f6 f7 f8 f9 f10 k5 k6 k7 k8 k9 k10 : Nat → Int32} {u l l2 p v0 v1 v2 v3 v4 v5 w1 w2 w3 w4 x4 : Int32} (hu : 0 ≤ u.toInt) (hl : 0 ≤ l.toInt) (hp : p.toInt = 200 * u.toInt + 5 * l.toInt) (e5 : k5 = upd f5 l.toNatClampNeg v0) (e6 : k6 = upd f6 l.toNatClampNeg v1) (e7 : k7 = upd f7 l.toNatClampNeg v2) (e8 : k8 = upd f8 l.toNatClampNeg v3) (e9 : k9 = upd f9 l.toNatClampNeg v4) (e10 : k10 = upd f10 l.toNatClampNeg v5)
    (a0 : v0 = g p.toNatClampNeg) (a1 : v1 = g w1.toNatClampNeg) (q1 : w1.toInt = p.toInt + 1) (a2 : v2 = g w2.toNatClampNeg) (q2 : w2.toInt = p.toInt + 2) (a3 : v3 = g w3.toNatClampNeg) (q3 : w3.toInt = p.toInt + 3) (a4 : x4 = g w4.toNatClampNeg) (q4 : w4.toInt = p.toInt + 4) (b4 : v4.toInt = x4.toInt % 1000) (b5 : v5.toInt = if 999 < x4.toInt then 1 else 0)
    (h : ∀ j : Nat, (j : Int) < l.toInt → back g (200 * u.toNatClampNeg) f5 f6 f7 f8 f9 f10 j) (el : l2.toInt = l.toInt + 1) : ∀ j : Nat, (j : Int) < l2.toInt → back g (200 * u.toNatClampNeg) k5 k6 k7 k8 k9 k10 j := fun j hj => by
  have cu := clI (i := u) hu
  have cl := clI (i := l) hl
  have c0 := clI (i := p) (by omega)
  have c1 := clI (i := w1) (by omega)
  have c2 := clI (i := w2) (by omega)
  have c3 := clI (i := w3) (by omega)
  have c4 := clI (i := w4) (by omega)
  unfold back
  by_cases z : j = l.toNatClampNeg
  · subst z
    rw [show 200 * u.toNatClampNeg + 5 * l.toNatClampNeg = p.toNatClampNeg by omega, show p.toNatClampNeg + 1 = w1.toNatClampNeg by omega, show p.toNatClampNeg + 2 = w2.toNatClampNeg by omega, show p.toNatClampNeg + 3 = w3.toNatClampNeg by omega, show p.toNatClampNeg + 4 = w4.toNatClampNeg by omega, ← a0, ← a1, ← a2, ← a3, ← a4, e5, e6, e7, e8, e9, e10, pk_us, pk_us, pk_us, pk_us, pk_us, pk_us]
    exact ⟨rfl, rfl, rfl, rfl, b4, b5⟩
  · rw [e5, e6, e7, e8, e9, e10, pk_un z, pk_un z, pk_un z, pk_un z, pk_un z, pk_un z]
    exact h j (by omega)
theorem back_net {g12 g13 g14 f5 f6 f7 f8 f9 f10 : Nat → Int32} {u L P N : Int32} {U : Int} (hp : pastE U g12 g13 g14) (h0 : 0 ≤ u.toInt) (hu : u.toInt < U) (hP : P = g12 u.toNatClampNeg) (hN : N = g13 u.toNatClampNeg) (h40 : N.toInt ≤ 40) (h : ∀ j : Nat, (j : Int) < L.toInt → back g14 (200 * u.toNatClampNeg) f5 f6 f7 f8 f9 f10 j) (hL : 40 ≤ L.toInt) : netE P.toInt N.toInt f6 f7 f10 := fun j hj h9 => by
  have cu := clI (i := u) h0
  obtain ⟨b5, b6, b7, b8, b9, b10⟩ := h j (by omega)
  rw [b6, b7, hP]
  refine hp _ (by omega) j (by rw [← hN]; exact hj) ?_
  rw [b10] at h9
  split at h9
  · omega
  · omega
theorem nar_if {z : Int32} {a b : Int} (h : z.toInt = if a = b then 1 else 0) : (vp_nar .boolean z).toInt = if a = b then 1 else 0 := by
  have e : z = 0 ∨ z = 1 := b01 (by split at h <;> omega)
  rw [← h]
  rcases e with e | e <;> rw [e] <;> decide
theorem nar_gt {z : Int32} {a b : Int} (h : z.toInt = if a < b then 1 else 0) : (vp_nar .boolean z).toInt = if a < b then 1 else 0 := by
  have e : z = 0 ∨ z = 1 := b01 (by split at h <;> omega)
  rw [← h]
  rcases e with e | e <;> rw [e] <;> decide

set_option maxHeartbeats 4000000 in
set_option maxRecDepth 100000 in
theorem c_X12_keeps2 (l : Launch) (D : va_G) (cy : Nat → ClassId) (sz : Nat) (mo : Nat) (g5 : Nat) (g6 : Nat) (g7 : Nat) (g8 : Nat) (g9 : Nat) (g10 : Nat) (g12 : Nat) (g13 : Nat) (g14 : Nat) (g15 : Nat) (g16 : Nat) (g17 : Nat) (g18 : Nat) (g19 : Nat) (g20 : Nat) (g22 : Nat) (g23 : Nat) (g24 : Nat) (g29 : Nat) (g30 : Nat) (g31 : Nat) (g32 : Nat) (g33 : Nat) (s0 : Int32) (s1 : Int32) (s3 : Int32) (s4 : Int32) (s11 : Int32) (s21 : Int32) (s25 : Int32) (s26 : Int32) (s27 : Int32) (s28 : Int32) (t2 : Int64) (f5 : Nat → Int32) (f6 : Nat → Int32) (f7 : Nat → Int32) (f8 : Nat → Int32) (f9 : Nat → Int32) (f10 : Nat → Int32) (f12 : Nat → Int32) (f13 : Nat → Int32) (f14 : Nat → Int32) (hN : 0 ≤ s4.toInt ∧ s4.toInt ≤ 40) (hPl : 0 ≤ s3.toInt ∧ s3.toInt ≤ 12) (hU : 0 ≤ s11.toInt ∧ s11.toInt ≤ 30) (r_f6 : rng f6 40 (0) (11)) (r_f7 : rng f7 40 (0) (11)) (r_f8 : rng f8 40 (0) (2000)) (r_f9 : rng f9 40 (0) (100)) (r_f12 : rng f12 30 (0) (12)) (r_f13 : rng f13 30 (0) (40)) (r_f14 : orng f14 6000) : Met l yX12_keeps wsX12_keeps ({ frames := 0, cells := 0, slots := 0, locals := 0 }) (va_Pc [.ref mo] (fun U => U.heap.size = sz ∧ va_P D vwCl [ob12_0_ mo s0 s1 t2 s3 s4 g5 g6 g7 g8 g9 g10 s11 g12 g13 g14 g15 g16 g17 g18 g19 g20 s21 g22 g23 g24 s25 s26 s27 s28 g29 g30 g31 g32 g33, ai_ cy g5 40 f5, ai_ cy g6 40 f6, ai_ cy g7 40 f7, ai_ cy g8 40 f8, ai_ cy g9 40 f9, az_ cy g10 40 f10, ai_ cy g12 30 f12, ai_ cy g13 30 f13, ai_ cy g14 6000 f14] U.heap ∧ kk_ D cy U ∧ va_D (fun _ => True) [ob12_0_ mo s0 s1 t2 s3 s4 g5 g6 g7 g8 g9 g10 s11 g12 g13 g14 g15 g16 g17 g18 g19 g20 s21 g22 g23 g24 s25 s26 s27 s28 g29 g30 g31 g32 g33, ai_ cy g5 40 f5, ai_ cy g6 40 f6, ai_ cy g7 40 f7, ai_ cy g8 40 f8, ai_ cy g9 40 f9, az_ cy g10 40 f10, ai_ cy g12 30 f12, ai_ cy g13 30 f13, ai_ cy g14 6000 f14])) (va_Qv (fun (_ : Unit) => True) (fun (_ : Unit) (t : State) => ∃ (n11 : Int32), ∃ (e12 : Nat → Int32), ∃ (e13 : Nat → Int32), ∃ (e14 : Nat → Int32), (1 ≤ n11.toInt ∧ n11.toInt ≤ 30) ∧ (kept s3 s4 f5 f6 f7 f8 f9 f10 s11.toInt f12 f13 f14 n11.toInt e12 e13 e14) ∧ (rng e12 30 (0) (12)) ∧ (rng e13 30 (0) (40)) ∧ (orng e14 6000) ∧ va_P D vwCl [ob12_0_ mo s0 s1 t2 s3 s4 g5 g6 g7 g8 g9 g10 n11 g12 g13 g14 g15 g16 g17 g18 g19 g20 s21 g22 g23 g24 s25 s26 s27 s28 g29 g30 g31 g32 g33, ai_ cy g5 40 f5, ai_ cy g6 40 f6, ai_ cy g7 40 f7, ai_ cy g8 40 f8, ai_ cy g9 40 f9, az_ cy g10 40 f10, ai_ cy g12 30 e12, ai_ cy g13 30 e13, ai_ cy g14 6000 e14] t.heap ∧ va_D (va_A [ob12_0_ mo s0 s1 t2 s3 s4 g5 g6 g7 g8 g9 g10 s11 g12 g13 g14 g15 g16 g17 g18 g19 g20 s21 g22 g23 g24 s25 s26 s27 s28 g29 g30 g31 g32 g33, ai_ cy g5 40 f5, ai_ cy g6 40 f6, ai_ cy g7 40 f7, ai_ cy g8 40 f8, ai_ cy g9 40 f9, az_ cy g10 40 f10, ai_ cy g12 30 f12, ai_ cy g13 30 f13, ai_ cy g14 6000 f14] sz) [ob12_0_ mo s0 s1 t2 s3 s4 g5 g6 g7 g8 g9 g10 n11 g12 g13 g14 g15 g16 g17 g18 g19 g20 s21 g22 g23 g24 s25 s26 s27 s28 g29 g30 g31 g32 g33, ai_ cy g5 40 f5, ai_ cy g6 40 f6, ai_ cy g7 40 f7, ai_ cy g8 40 f8, ai_ cy g9 40 f9, az_ cy g10 40 f10, ai_ cy g12 30 e12, ai_ cy g13 30 e13, ai_ cy g14 6000 e14]) (va_A [ob12_0_ mo s0 s1 t2 s3 s4 g5 g6 g7 g8 g9 g10 s11 g12 g13 g14 g15 g16 g17 g18 g19 g20 s21 g22 g23 g24 s25 s26 s27 s28 g29 g30 g31 g32 g33, ai_ cy g5 40 f5, ai_ cy g6 40 f6, ai_ cy g7 40 f7, ai_ cy g8 40 f8, ai_ cy g9 40 f9, az_ cy g10 40 f10, ai_ cy g12 30 f12, ai_ cy g13 30 f13, ai_ cy g14 6000 f14] sz)) 0 0 (va_A [ob12_0_ mo s0 s1 t2 s3 s4 g5 g6 g7 g8 g9 g10 s11 g12 g13 g14 g15 g16 g17 g18 g19 g20 s21 g22 g23 g24 s25 s26 s27 s28 g29 g30 g31 g32 g33, ai_ cy g5 40 f5, ai_ cy g6 40 f6, ai_ cy g7 40 f7, ai_ cy g8 40 f8, ai_ cy g9 40 f9, az_ cy g10 40 f10, ai_ cy g12 30 f12, ai_ cy g13 30 f13, ai_ cy g14 6000 f14] sz) := by
  refine ofQ (cc := cX12_keeps) (maxL := 3) (ret := none) (by decide) rfl ?_
  intro p e s m args below meth c s₁ Q hQ B hml hv
  obtain ⟨rfl, hsz, hP, hK, hD0⟩ := hv
  have hx := B.exec
  have hb := B.bytes
  have hr := B.returns
  have hts := atoms_spec (ws := wsX12_keeps) B.pre
  have hown : s.vm.findClass RX12 = some m.cls := by have h_ := findClass_of_methodNamed B.named; exact h_
  have hlocks := B.notSynchronized
  subst hsz
  have hD := hD0.self (sz := s.heap.size)
  generalize hAe : va_A [ob12_0_ mo s0 s1 t2 s3 s4 g5 g6 g7 g8 g9 g10 s11 g12 g13 g14 g15 g16 g17 g18 g19 g20 s21 g22 g23 g24 s25 s26 s27 s28 g29 g30 g31 g32 g33, ai_ cy g5 40 f5, ai_ cy g6 40 f6, ai_ cy g7 40 f7, ai_ cy g8 40 f8, ai_ cy g9 40 f9, az_ cy g10 40 f10, ai_ cy g12 30 f12, ai_ cy g13 30 f13, ai_ cy g14 6000 f14] s.heap.size = A at hD hQ
  have hA : ∀ q : Nat, s.heap.size ≤ q → A q := fun q h => by rw [← hAe]; exact Or.inr h
  have hS : va_S A s.heap s.heap [] := va_S.rf
  have hl := lv_entry ([.ref mo]) (n := 3) (Nat.le_of_ble_eq_true rfl)
  rw [lg_entry_eq]
  generalize (lg_sl ([.ref mo]) ++ List.replicate (3 - (lg_sl ([.ref mo])).length) Slot.unset).toArray = ls at hl ⊢
  have hl : lv_has ls 3 [(0, .ref mo)] := hl
  have z0 : (0 : Int32).toInt = 0 := by decide
  have z1 : (1 : Int32).toInt = 1 := by decide
  have z2 : (2 : Int32).toInt = 2 := by decide
  have z3 : (3 : Int32).toInt = 3 := by decide
  have z4 : (4 : Int32).toInt = 4 := by decide
  have z5 : (5 : Int32).toInt = 5 := by decide
  have z29 : (29 : Int32).toInt = 29 := by decide
  have z30 : (30 : Int32).toInt = 30 := by decide
  have z40 : (40 : Int32).toInt = 40 := by decide
  have z200 : (200 : Int32).toInt = 200 := by decide
  have z1000 : (1000 : Int32).toInt = 1000 := by decide
  have z5800 : (5800 : Int32).toInt = 5800 := by decide
  refine lv_aload_n hx hb dB_3_0_19.1.1.1.1 rfl (lv_at hl 0 rfl) ?_
  refine va_get (ci := 12) (v := .int s11) (C := RX12) (T := TX12) (N := 34) hx hb hts (fun _ h => List.mem_cons_of_mem _ (List.mem_append_right _ h)) hown hK.1 hP 0 rfl rfl 11 (by decide) (hts (.fieldLink RX12 102 "CutAtlasModel" "undone" "I") (List.mem_of_getElem? (i := 1) rfl)) (fun _ h9 => h9) rfl dB_3_0_19.1.1.1.2 ?_
  refine lv_bipush (v := 30) hx hb dB_3_0_19.1.1.2.1 (by decide) ?_
  refine lv_icmp_ne (tgt := 92) hx hb dB_3_0_19.1.1.2.2 (by decide) (fun c_1 => ?_) (fun c_1 => ?_)
  · have t_1 : ¬ s11.toInt = (30 : Int32).toInt := fun h => c_1 (Int32.toInt_inj.mp h)
    have hm_ : moved s11.toInt f12 f13 f14 s11.toInt f12 f13 f14 := by first | exact moved_1 (by omega) (by omega) v_none v_none v_none (by omega) (by omega) | exact moved_0 (by omega)
    refine lv_aload_n hx hb dB_3_0_22.1.2.2.1 rfl (lv_at hl 0 rfl) ?_
    refine va_get (ci := 12) (v := .ref g12) (C := RX12) (T := TX12) (N := 34) hx hb hts (fun _ h => List.mem_cons_of_mem _ (List.mem_append_right _ h)) hown hK.1 hP 0 rfl rfl 12 (by decide) (hts (.fieldLink RX12 29 "CutAtlasModel" "oldPlaces" "[I") (List.mem_of_getElem? (i := 2) rfl)) (fun _ h9 => h9) rfl dB_3_0_22.1.2.2.2 ?_
    refine lv_aload_n hx hb dB_3_0_22.2.1.1.1 rfl (lv_at hl 0 rfl) ?_
    refine va_get (ci := 12) (v := .int s11) (C := RX12) (T := TX12) (N := 34) hx hb hts (fun _ h => List.mem_cons_of_mem _ (List.mem_append_right _ h)) hown hK.1 hP 0 rfl rfl 11 (by decide) (hts (.fieldLink RX12 102 "CutAtlasModel" "undone" "I") (List.mem_of_getElem? (i := 1) rfl)) (fun _ h9 => h9) rfl dB_3_0_22.2.1.1.2 ?_
    refine lv_aload_n hx hb dB_3_0_22.2.1.2.1 rfl (lv_at hl 0 rfl) ?_
    refine va_get (ci := 12) (v := .int s3) (C := RX12) (T := TX12) (N := 34) hx hb hts (fun _ h => List.mem_cons_of_mem _ (List.mem_append_right _ h)) hown hK.1 hP 0 rfl rfl 3 (by decide) (hts (.fieldLink RX12 88 "CutAtlasModel" "places" "I") (List.mem_of_getElem? (i := 5) rfl)) (fun _ h9 => h9) rfl dB_3_0_22.2.1.2.2 ?_
    have h_2 : vp_in s11 30 := in_I (by first | with_reducible assumption | omega) (by omega)
    refine va_iast hx hb hK.1 hP hD hS 7 0 rfl rfl (i := s11) h_2 dB_3_0_22.2.2.1.1 (fun H locs hP hD hS => ?_)
    obtain ⟨f_3, ef_3⟩ : ∃ g : Nat → Int32, g = upd f12 s11.toNatClampNeg s3 := ⟨_, rfl⟩
    refine pd_K (D := D) (cl := vwCl) (H := H) (A := A) [ob12_0_ mo s0 s1 t2 s3 s4 g5 g6 g7 g8 g9 g10 s11 g12 g13 g14 g15 g16 g17 g18 g19 g20 s21 g22 g23 g24 s25 s26 s27 s28 g29 g30 g31 g32 g33, ai_ cy g5 40 f5, ai_ cy g6 40 f6, ai_ cy g7 40 f7, ai_ cy g8 40 f8, ai_ cy g9 40 f9, az_ cy g10 40 f10, ai_ cy g12 30 f_3, ai_ cy g13 30 f13, ai_ cy g14 6000 f14] (by rw [ef_3]; exact hP) (by rw [ef_3]; exact hD) (fun hP hD => ?_)
    have rf_3 : rng f_3 30 (0) (12) := by rw [ef_3]; exact rng_upd r_f12 (by omega) (by omega)
    refine lv_aload_n hx hb dB_3_0_22.2.2.1.2 rfl (lv_at hl 0 rfl) ?_
    refine va_get (ci := 12) (v := .ref g13) (C := RX12) (T := TX12) (N := 34) hx hb hts (fun _ h => List.mem_cons_of_mem _ (List.mem_append_right _ h)) hown hK.1 hP 0 rfl rfl 13 (by decide) (hts (.fieldLink RX12 32 "CutAtlasModel" "oldLines" "[I") (List.mem_of_getElem? (i := 3) rfl)) (fun _ h9 => h9) rfl dB_3_0_22.2.2.2.1 ?_
    refine lv_aload_n hx hb dB_3_0_22.2.2.2.2 rfl (lv_at hl 0 rfl) ?_
    refine va_get (ci := 12) (v := .int s11) (C := RX12) (T := TX12) (N := 34) hx hb hts (fun _ h => List.mem_cons_of_mem _ (List.mem_append_right _ h)) hown hK.1 hP 0 rfl rfl 11 (by decide) (hts (.fieldLink RX12 102 "CutAtlasModel" "undone" "I") (List.mem_of_getElem? (i := 1) rfl)) (fun _ h9 => h9) rfl dB_3_0_23.1.1.1.1 ?_
    refine lv_aload_n hx hb dB_3_0_23.1.1.1.2 rfl (lv_at hl 0 rfl) ?_
    refine va_get (ci := 12) (v := .int s4) (C := RX12) (T := TX12) (N := 34) hx hb hts (fun _ h => List.mem_cons_of_mem _ (List.mem_append_right _ h)) hown hK.1 hP 0 rfl rfl 4 (by decide) (hts (.fieldLink RX12 95 "CutAtlasModel" "lines" "I") (List.mem_of_getElem? (i := 6) rfl)) (fun _ h9 => h9) rfl dB_3_0_23.1.1.2.1 ?_
    refine va_iast hx hb hK.1 hP hD hS 8 0 rfl rfl (i := s11) h_2 dB_3_0_23.1.1.2.2 (fun H locs hP hD hS => ?_)
    obtain ⟨f_5, ef_5⟩ : ∃ g : Nat → Int32, g = upd f13 s11.toNatClampNeg s4 := ⟨_, rfl⟩
    refine pd_K (D := D) (cl := vwCl) (H := H) (A := A) [ob12_0_ mo s0 s1 t2 s3 s4 g5 g6 g7 g8 g9 g10 s11 g12 g13 g14 g15 g16 g17 g18 g19 g20 s21 g22 g23 g24 s25 s26 s27 s28 g29 g30 g31 g32 g33, ai_ cy g5 40 f5, ai_ cy g6 40 f6, ai_ cy g7 40 f7, ai_ cy g8 40 f8, ai_ cy g9 40 f9, az_ cy g10 40 f10, ai_ cy g12 30 f_3, ai_ cy g13 30 f_5, ai_ cy g14 6000 f14] (by rw [ef_5]; exact hP) (by rw [ef_5]; exact hD) (fun hP hD => ?_)
    have rf_5 : rng f_5 30 (0) (40) := by rw [ef_5]; exact rng_upd r_f13 (by omega) (by omega)
    refine lv_iconst (v := 0) hx hb dB_3_0_23.1.2.1.1 (by decide) ?_
    refine lv_istore_n (lv' := [(1, .int 0), (0, .ref mo)]) hx hb dB_3_0_23.1.2.1.2 rfl hl (by decide) rfl (fun ls hl => ?_)
    suffices LOOP_6 : ∀ (n_6 : Nat) (x1_6 : Int32) (c_g14_6 : Nat → Int32) (H : Heap) (locs : List Loc) (ls : Array Slot), 40 - x1_6.toInt < (n_6 : Int) → (0 ≤ x1_6.toInt) → (x1_6.toInt ≤ 40) → (∀ q : Nat, q < 200 * s11.toNatClampNeg → c_g14_6 q = f14 q) → (∀ j : Nat, (j : Int) < x1_6.toInt → entry c_g14_6 (200 * s11.toNatClampNeg) f5 f6 f7 f8 f9 f10 j) → (orng c_g14_6 6000) → pd_2 D vwCl A [ob12_0_ mo s0 s1 t2 s3 s4 g5 g6 g7 g8 g9 g10 s11 g12 g13 g14 g15 g16 g17 g18 g19 g20 s21 g22 g23 g24 s25 s26 s27 s28 g29 g30 g31 g32 g33, ai_ cy g5 40 f5, ai_ cy g6 40 f6, ai_ cy g7 40 f7, ai_ cy g8 40 f8, ai_ cy g9 40 f9, az_ cy g10 40 f10, ai_ cy g12 30 f_3, ai_ cy g13 30 f_5, ai_ cy g14 6000 c_g14_6] H → va_S A s.heap H locs → lv_has ls 3 [(1, .int x1_6), (0, .ref mo)] → W p l e ({ frames := 0, cells := 0, slots := 0, locals := 0 } : Room) s m (([.ref mo] : List Value).toArray) below meth c H locs 0 0 Q (F0 m 120 ls []) from LOOP_6 ((40 - (0 : Int32).toInt).toNat + 1) (0 : Int32) f14 _ _ _ (by omega) (by first | with_reducible assumption | omega | assumption) (by first | with_reducible assumption | omega | assumption) (by first | exact fun _ _ => rfl | exact hE_.1) (by first | exact hE_.2 | (intro j hj; omega)) (by first | with_reducible assumption | assumption | exact rng_zero (by omega) (by omega) | exact orng_zero) ⟨hP, hD⟩ hS (lv_sub hl [0, 1] rfl)
    intro n_6
    induction n_6 with
    | zero =>
      intro x1_6 c_g14_6 H locs ls hm v0_6 v1_6 v2_6 v3_6 rc_g14_6 hPD hS hl; obtain ⟨hP, hD⟩ := hPD
      exact absurd hm (by omega)
    | succ n_6 ih_6 =>
      intro x1_6 c_g14_6 H locs ls hm v0_6 v1_6 v2_6 v3_6 rc_g14_6 hPD hS hl; obtain ⟨hP, hD⟩ := hPD
      refine lv_iload_n hx hb dB_3_0_23.1.2.2.1 rfl (lv_at hl 0 rfl) ?_
      refine lv_bipush (v := 40) hx hb dB_3_0_23.1.2.2.2 (by decide) ?_
      refine lv_icmp_ge (tgt := 230) hx hb dB_3_0_23.2.1.1.1 (by decide) (fun c_7 => ?_) (fun c_7 => ?_)
      · have t_7 : (40 : Int32).toInt ≤ x1_6.toInt := Int32.le_iff_toInt_le.mp c_7
        refine lv_aload_n hx hb dB_3_0_27.2.2.1.2 rfl (lv_at hl 1 rfl) ?_
        refine lv_dup hx hb dB_3_0_27.2.2.2.1 rfl ?_
        refine va_get (ci := 12) (v := .int s11) (C := RX12) (T := TX12) (N := 34) hx hb hts (fun _ h => List.mem_cons_of_mem _ (List.mem_append_right _ h)) hown hK.1 hP 0 rfl rfl 11 (by decide) (hts (.fieldLink RX12 102 "CutAtlasModel" "undone" "I") (List.mem_of_getElem? (i := 1) rfl)) (fun _ h9 => h9) rfl dB_3_0_27.2.2.2.2 ?_
        refine lv_iconst (v := 1) hx hb dB_3_0_28.1.1 (by decide) ?_
        refine lv_iadd hx hb dB_3_0_28.1.2 ?_
        refine lv_topi (fun y_8 ey_8 => ?_)
        have ty_8 : y_8.toInt = s11.toInt + (1 : Int32).toInt := by rw [ey_8]; exact addI (by omega) (by omega)
        refine va_put (ci := 12) (v := .int y_8) (ty := .int) (C := RX12) (T := TX12) (N := 34) hx hb hts (fun _ h => List.mem_cons_of_mem _ (List.mem_append_right _ h)) tyX12 tyX12_ok nmX12 hown hK.1 hP hD hS 0 rfl rfl 11 (by decide) (hts (.fieldLink RX12 102 "CutAtlasModel" "undone" "I") (List.mem_of_getElem? (i := 1) rfl)) (fun _ h9 => h9) rfl (by decide +kernel) rfl rfl (Nat.le_of_ble_eq_true rfl) dB_3_0_28.2.1 (fun H locs hP hD hS => ?_)
        refine pd_K [ob12_0_ mo s0 s1 t2 s3 s4 g5 g6 g7 g8 g9 g10 y_8 g12 g13 g14 g15 g16 g17 g18 g19 g20 s21 g22 g23 g24 s25 s26 s27 s28 g29 g30 g31 g32 g33, ai_ cy g5 40 f5, ai_ cy g6 40 f6, ai_ cy g7 40 f7, ai_ cy g8 40 f8, ai_ cy g9 40 f9, az_ cy g10 40 f10, ai_ cy g12 30 f_3, ai_ cy g13 30 f_5, ai_ cy g14 6000 c_g14_6] hP hD (fun hP hD => ?_)
        rw [hQ]
        exact W.vret hx hb hr (fun t ht hW => ⟨⟨(), rfl, trivial, y_8, f_3, f_5, c_g14_6, (by first | with_reducible assumption | omega | assumption), (kept_mk (u := s11) (L := x1_6) hm_ (by omega) ef_3 ef_5 v2_6 v3_6 (by omega) (by omega)), (by first | with_reducible assumption | assumption | exact rng_zero (by omega) (by omega) | omega), (by first | with_reducible assumption | assumption | exact rng_zero (by omega) (by omega) | omega), (by first | with_reducible assumption | assumption | exact rng_zero (by omega) (by omega) | omega), by rw [ht]; exact hP, hD⟩, hS.F ht⟩) hS.2.2 dB_3_0_28.2.2
      · have t_7 : ¬ (40 : Int32).toInt ≤ x1_6.toInt := fun h => c_7 (Int32.le_iff_toInt_le.mpr h)
        refine lv_sipush (v := 200) hx hb dB_3_0_23.2.1.1.2 (by decide) ?_
        refine lv_aload_n hx hb dB_3_0_23.2.1.2.1 rfl (lv_at hl 1 rfl) ?_
        refine va_get (ci := 12) (v := .int s11) (C := RX12) (T := TX12) (N := 34) hx hb hts (fun _ h => List.mem_cons_of_mem _ (List.mem_append_right _ h)) hown hK.1 hP 0 rfl rfl 11 (by decide) (hts (.fieldLink RX12 102 "CutAtlasModel" "undone" "I") (List.mem_of_getElem? (i := 1) rfl)) (fun _ h9 => h9) rfl dB_3_0_23.2.1.2.2 ?_
        refine lv_imul hx hb dB_3_0_23.2.2.1.1 ?_
        refine lv_topi (fun y_9 ey_9 => ?_)
        have ty_9 : y_9.toInt = 200 * s11.toInt := by rw [ey_9]; exact mulC (by decide) (by omega) (by omega)
        refine lv_iconst (v := 5) hx hb dB_3_0_23.2.2.1.2 (by decide) ?_
        refine lv_iload_n hx hb dB_3_0_23.2.2.2.1 rfl (lv_at hl 0 rfl) ?_
        refine lv_imul hx hb dB_3_0_23.2.2.2.2 ?_
        refine lv_topi (fun y_10 ey_10 => ?_)
        have ty_10 : y_10.toInt = 5 * x1_6.toInt := by rw [ey_10]; exact mulC (by decide) (by omega) (by omega)
        refine lv_iadd hx hb dB_3_0_24.1.1.1.1 ?_
        refine lv_topi (fun y_11 ey_11 => ?_)
        have ty_11 : y_11.toInt = y_9.toInt + y_10.toInt := by rw [ey_11]; exact addI (by omega) (by omega)
        refine lv_istore_n (lv' := [(2, .int y_11), (1, .int x1_6), (0, .ref mo)]) hx hb dB_3_0_24.1.1.1.2 rfl hl (by decide) rfl (fun ls hl => ?_)
        refine lv_aload_n hx hb dB_3_0_24.1.1.2.1 rfl (lv_at hl 2 rfl) ?_
        refine va_get (ci := 12) (v := .ref g14) (C := RX12) (T := TX12) (N := 34) hx hb hts (fun _ h => List.mem_cons_of_mem _ (List.mem_append_right _ h)) hown hK.1 hP 0 rfl rfl 14 (by decide) (hts (.fieldLink RX12 35 "CutAtlasModel" "old" "[I") (List.mem_of_getElem? (i := 4) rfl)) (fun _ h9 => h9) rfl dB_3_0_24.1.1.2.2 ?_
        refine lv_iload_n hx hb dB_3_0_24.1.2.1.1 rfl (lv_at hl 0 rfl) ?_
        refine lv_aload_n hx hb dB_3_0_24.1.2.1.2 rfl (lv_at hl 2 rfl) ?_
        refine va_get (ci := 12) (v := .ref g5) (C := RX12) (T := TX12) (N := 34) hx hb hts (fun _ h => List.mem_cons_of_mem _ (List.mem_append_right _ h)) hown hK.1 hP 0 rfl rfl 5 (by decide) (hts (.fieldLink RX12 7 "CutAtlasModel" "kind" "[I") (List.mem_of_getElem? (i := 7) rfl)) (fun _ h9 => h9) rfl dB_3_0_24.1.2.2.1 ?_
        refine lv_iload_n hx hb dB_3_0_24.1.2.2.2 rfl (lv_at hl 1 rfl) ?_
        have h_12 : vp_in x1_6 40 := in_I (by first | with_reducible assumption | omega) (by omega)
        refine va_iald hx hb hK.1 hP 1 0 rfl rfl (i := x1_6) h_12 dB_3_0_24.2.1.1.1 ?_
        refine lv_topi (fun y_13 ey_13 => ?_)
        have ky_13 : y_13.toInt = (f5 x1_6.toNatClampNeg).toInt := by rw [ey_13]
        have h_14 : vp_in y_11 6000 := in_I (by first | with_reducible assumption | omega) (by omega)
        refine va_iast hx hb hK.1 hP hD hS 9 0 rfl rfl (i := y_11) h_14 dB_3_0_24.2.1.1.2 (fun H locs hP hD hS => ?_)
        obtain ⟨f_15, ef_15⟩ : ∃ g : Nat → Int32, g = upd c_g14_6 y_11.toNatClampNeg y_13 := ⟨_, rfl⟩
        refine pd_K (D := D) (cl := vwCl) (H := H) (A := A) [ob12_0_ mo s0 s1 t2 s3 s4 g5 g6 g7 g8 g9 g10 s11 g12 g13 g14 g15 g16 g17 g18 g19 g20 s21 g22 g23 g24 s25 s26 s27 s28 g29 g30 g31 g32 g33, ai_ cy g5 40 f5, ai_ cy g6 40 f6, ai_ cy g7 40 f7, ai_ cy g8 40 f8, ai_ cy g9 40 f9, az_ cy g10 40 f10, ai_ cy g12 30 f_3, ai_ cy g13 30 f_5, ai_ cy g14 6000 f_15] (by rw [ef_15]; exact hP) (by rw [ef_15]; exact hD) (fun hP hD => ?_)
        have kf_15 := clI (i := y_11) (by omega)
        have rf_15 : orng f_15 6000 := by rw [ef_15]; exact orng_upd rc_g14_6 (by unfold oc; omega)
        refine lv_aload_n hx hb dB_3_0_24.2.1.2.1 rfl (lv_at hl 2 rfl) ?_
        refine va_get (ci := 12) (v := .ref g14) (C := RX12) (T := TX12) (N := 34) hx hb hts (fun _ h => List.mem_cons_of_mem _ (List.mem_append_right _ h)) hown hK.1 hP 0 rfl rfl 14 (by decide) (hts (.fieldLink RX12 35 "CutAtlasModel" "old" "[I") (List.mem_of_getElem? (i := 4) rfl)) (fun _ h9 => h9) rfl dB_3_0_24.2.1.2.2 ?_
        refine lv_iload_n hx hb dB_3_0_24.2.2.1.1 rfl (lv_at hl 0 rfl) ?_
        refine lv_iconst (v := 1) hx hb dB_3_0_24.2.2.1.2 (by decide) ?_
        refine lv_iadd hx hb dB_3_0_24.2.2.2.1 ?_
        refine lv_topi (fun y_16 ey_16 => ?_)
        have ty_16 : y_16.toInt = y_11.toInt + (1 : Int32).toInt := by rw [ey_16]; exact addI (by omega) (by omega)
        refine lv_aload_n hx hb dB_3_0_24.2.2.2.2 rfl (lv_at hl 2 rfl) ?_
        refine va_get (ci := 12) (v := .ref g6) (C := RX12) (T := TX12) (N := 34) hx hb hts (fun _ h => List.mem_cons_of_mem _ (List.mem_append_right _ h)) hown hK.1 hP 0 rfl rfl 6 (by decide) (hts (.fieldLink RX12 13 "CutAtlasModel" "from" "[I") (List.mem_of_getElem? (i := 8) rfl)) (fun _ h9 => h9) rfl dB_3_0_25.1.1.1.1 ?_
        refine lv_iload_n hx hb dB_3_0_25.1.1.1.2 rfl (lv_at hl 1 rfl) ?_
        refine va_iald hx hb hK.1 hP 2 0 rfl rfl (i := x1_6) h_12 dB_3_0_25.1.1.2.1 ?_
        refine lv_topi (fun y_18 ey_18 => ?_)
        have ky_18 : y_18.toInt = (f6 x1_6.toNatClampNeg).toInt := by rw [ey_18]
        have ry_18 : 0 ≤ y_18.toInt ∧ y_18.toInt ≤ 11 := by rw [ey_18]; exact r_f6 _ (in_lt h_12)
        have h_19 : vp_in y_16 6000 := in_I (by first | with_reducible assumption | omega) (by omega)
        refine va_iast hx hb hK.1 hP hD hS 9 0 rfl rfl (i := y_16) h_19 dB_3_0_25.1.1.2.2 (fun H locs hP hD hS => ?_)
        obtain ⟨f_20, ef_20⟩ : ∃ g : Nat → Int32, g = upd f_15 y_16.toNatClampNeg y_18 := ⟨_, rfl⟩
        refine pd_K (D := D) (cl := vwCl) (H := H) (A := A) [ob12_0_ mo s0 s1 t2 s3 s4 g5 g6 g7 g8 g9 g10 s11 g12 g13 g14 g15 g16 g17 g18 g19 g20 s21 g22 g23 g24 s25 s26 s27 s28 g29 g30 g31 g32 g33, ai_ cy g5 40 f5, ai_ cy g6 40 f6, ai_ cy g7 40 f7, ai_ cy g8 40 f8, ai_ cy g9 40 f9, az_ cy g10 40 f10, ai_ cy g12 30 f_3, ai_ cy g13 30 f_5, ai_ cy g14 6000 f_20] (by rw [ef_20]; exact hP) (by rw [ef_20]; exact hD) (fun hP hD => ?_)
        have kf_20 := clI (i := y_16) (by omega)
        have rf_20 : orng f_20 6000 := by rw [ef_20]; exact orng_upd rf_15 (by unfold oc; omega)
        refine lv_aload_n hx hb dB_3_0_25.1.2.1.1 rfl (lv_at hl 2 rfl) ?_
        refine va_get (ci := 12) (v := .ref g14) (C := RX12) (T := TX12) (N := 34) hx hb hts (fun _ h => List.mem_cons_of_mem _ (List.mem_append_right _ h)) hown hK.1 hP 0 rfl rfl 14 (by decide) (hts (.fieldLink RX12 35 "CutAtlasModel" "old" "[I") (List.mem_of_getElem? (i := 4) rfl)) (fun _ h9 => h9) rfl dB_3_0_25.1.2.1.2 ?_
        refine lv_iload_n hx hb dB_3_0_25.1.2.2.1 rfl (lv_at hl 0 rfl) ?_
        refine lv_iconst (v := 2) hx hb dB_3_0_25.1.2.2.2 (by decide) ?_
        refine lv_iadd hx hb dB_3_0_25.2.1.1.1 ?_
        refine lv_topi (fun y_21 ey_21 => ?_)
        have ty_21 : y_21.toInt = y_11.toInt + (2 : Int32).toInt := by rw [ey_21]; exact addI (by omega) (by omega)
        refine lv_aload_n hx hb dB_3_0_25.2.1.1.2 rfl (lv_at hl 2 rfl) ?_
        refine va_get (ci := 12) (v := .ref g7) (C := RX12) (T := TX12) (N := 34) hx hb hts (fun _ h => List.mem_cons_of_mem _ (List.mem_append_right _ h)) hown hK.1 hP 0 rfl rfl 7 (by decide) (hts (.fieldLink RX12 16 "CutAtlasModel" "to" "[I") (List.mem_of_getElem? (i := 9) rfl)) (fun _ h9 => h9) rfl dB_3_0_25.2.1.2.1 ?_
        refine lv_iload_n hx hb dB_3_0_25.2.1.2.2 rfl (lv_at hl 1 rfl) ?_
        refine va_iald hx hb hK.1 hP 3 0 rfl rfl (i := x1_6) h_12 dB_3_0_25.2.2.1.1 ?_
        refine lv_topi (fun y_23 ey_23 => ?_)
        have ky_23 : y_23.toInt = (f7 x1_6.toNatClampNeg).toInt := by rw [ey_23]
        have ry_23 : 0 ≤ y_23.toInt ∧ y_23.toInt ≤ 11 := by rw [ey_23]; exact r_f7 _ (in_lt h_12)
        have h_24 : vp_in y_21 6000 := in_I (by first | with_reducible assumption | omega) (by omega)
        refine va_iast hx hb hK.1 hP hD hS 9 0 rfl rfl (i := y_21) h_24 dB_3_0_25.2.2.1.2 (fun H locs hP hD hS => ?_)
        obtain ⟨f_25, ef_25⟩ : ∃ g : Nat → Int32, g = upd f_20 y_21.toNatClampNeg y_23 := ⟨_, rfl⟩
        refine pd_K (D := D) (cl := vwCl) (H := H) (A := A) [ob12_0_ mo s0 s1 t2 s3 s4 g5 g6 g7 g8 g9 g10 s11 g12 g13 g14 g15 g16 g17 g18 g19 g20 s21 g22 g23 g24 s25 s26 s27 s28 g29 g30 g31 g32 g33, ai_ cy g5 40 f5, ai_ cy g6 40 f6, ai_ cy g7 40 f7, ai_ cy g8 40 f8, ai_ cy g9 40 f9, az_ cy g10 40 f10, ai_ cy g12 30 f_3, ai_ cy g13 30 f_5, ai_ cy g14 6000 f_25] (by rw [ef_25]; exact hP) (by rw [ef_25]; exact hD) (fun hP hD => ?_)
        have kf_25 := clI (i := y_21) (by omega)
        have rf_25 : orng f_25 6000 := by rw [ef_25]; exact orng_upd rf_20 (by unfold oc; omega)
        refine lv_aload_n hx hb dB_3_0_25.2.2.2.1 rfl (lv_at hl 2 rfl) ?_
        refine va_get (ci := 12) (v := .ref g14) (C := RX12) (T := TX12) (N := 34) hx hb hts (fun _ h => List.mem_cons_of_mem _ (List.mem_append_right _ h)) hown hK.1 hP 0 rfl rfl 14 (by decide) (hts (.fieldLink RX12 35 "CutAtlasModel" "old" "[I") (List.mem_of_getElem? (i := 4) rfl)) (fun _ h9 => h9) rfl dB_3_0_25.2.2.2.2 ?_
        refine lv_iload_n hx hb dB_3_0_26.1.1.1.1 rfl (lv_at hl 0 rfl) ?_
        refine lv_iconst (v := 3) hx hb dB_3_0_26.1.1.1.2 (by decide) ?_
        refine lv_iadd hx hb dB_3_0_26.1.1.2.1 ?_
        refine lv_topi (fun y_26 ey_26 => ?_)
        have ty_26 : y_26.toInt = y_11.toInt + (3 : Int32).toInt := by rw [ey_26]; exact addI (by omega) (by omega)
        refine lv_aload_n hx hb dB_3_0_26.1.1.2.2 rfl (lv_at hl 2 rfl) ?_
        refine va_get (ci := 12) (v := .ref g8) (C := RX12) (T := TX12) (N := 34) hx hb hts (fun _ h => List.mem_cons_of_mem _ (List.mem_append_right _ h)) hown hK.1 hP 0 rfl rfl 8 (by decide) (hts (.fieldLink RX12 19 "CutAtlasModel" "width" "[I") (List.mem_of_getElem? (i := 10) rfl)) (fun _ h9 => h9) rfl dB_3_0_26.1.2.1.1 ?_
        refine lv_iload_n hx hb dB_3_0_26.1.2.1.2 rfl (lv_at hl 1 rfl) ?_
        refine va_iald hx hb hK.1 hP 4 0 rfl rfl (i := x1_6) h_12 dB_3_0_26.1.2.2.1 ?_
        refine lv_topi (fun y_28 ey_28 => ?_)
        have ky_28 : y_28.toInt = (f8 x1_6.toNatClampNeg).toInt := by rw [ey_28]
        have ry_28 : 0 ≤ y_28.toInt ∧ y_28.toInt ≤ 2000 := by rw [ey_28]; exact r_f8 _ (in_lt h_12)
        have h_29 : vp_in y_26 6000 := in_I (by first | with_reducible assumption | omega) (by omega)
        refine va_iast hx hb hK.1 hP hD hS 9 0 rfl rfl (i := y_26) h_29 dB_3_0_26.1.2.2.2 (fun H locs hP hD hS => ?_)
        obtain ⟨f_30, ef_30⟩ : ∃ g : Nat → Int32, g = upd f_25 y_26.toNatClampNeg y_28 := ⟨_, rfl⟩
        refine pd_K (D := D) (cl := vwCl) (H := H) (A := A) [ob12_0_ mo s0 s1 t2 s3 s4 g5 g6 g7 g8 g9 g10 s11 g12 g13 g14 g15 g16 g17 g18 g19 g20 s21 g22 g23 g24 s25 s26 s27 s28 g29 g30 g31 g32 g33, ai_ cy g5 40 f5, ai_ cy g6 40 f6, ai_ cy g7 40 f7, ai_ cy g8 40 f8, ai_ cy g9 40 f9, az_ cy g10 40 f10, ai_ cy g12 30 f_3, ai_ cy g13 30 f_5, ai_ cy g14 6000 f_30] (by rw [ef_30]; exact hP) (by rw [ef_30]; exact hD) (fun hP hD => ?_)
        have kf_30 := clI (i := y_26) (by omega)
        have rf_30 : orng f_30 6000 := by rw [ef_30]; exact orng_upd rf_25 (by unfold oc; omega)
        refine lv_aload_n hx hb dB_3_0_26.2.1.1.1 rfl (lv_at hl 2 rfl) ?_
        refine va_get (ci := 12) (v := .ref g14) (C := RX12) (T := TX12) (N := 34) hx hb hts (fun _ h => List.mem_cons_of_mem _ (List.mem_append_right _ h)) hown hK.1 hP 0 rfl rfl 14 (by decide) (hts (.fieldLink RX12 35 "CutAtlasModel" "old" "[I") (List.mem_of_getElem? (i := 4) rfl)) (fun _ h9 => h9) rfl dB_3_0_26.2.1.1.2 ?_
        refine lv_iload_n hx hb dB_3_0_26.2.1.2.1 rfl (lv_at hl 0 rfl) ?_
        refine lv_iconst (v := 4) hx hb dB_3_0_26.2.1.2.2 (by decide) ?_
        refine lv_iadd hx hb dB_3_0_26.2.2.1.1 ?_
        refine lv_topi (fun y_31 ey_31 => ?_)
        have ty_31 : y_31.toInt = y_11.toInt + (4 : Int32).toInt := by rw [ey_31]; exact addI (by omega) (by omega)
        refine lv_aload_n hx hb dB_3_0_26.2.2.1.2 rfl (lv_at hl 2 rfl) ?_
        refine va_get (ci := 12) (v := .ref g9) (C := RX12) (T := TX12) (N := 34) hx hb hts (fun _ h => List.mem_cons_of_mem _ (List.mem_append_right _ h)) hown hK.1 hP 0 rfl rfl 9 (by decide) (hts (.fieldLink RX12 22 "CutAtlasModel" "price" "[I") (List.mem_of_getElem? (i := 11) rfl)) (fun _ h9 => h9) rfl dB_3_0_26.2.2.2.1 ?_
        refine lv_iload_n hx hb dB_3_0_26.2.2.2.2 rfl (lv_at hl 1 rfl) ?_
        refine va_iald hx hb hK.1 hP 5 0 rfl rfl (i := x1_6) h_12 dB_3_0_27.1.1.1.1 ?_
        refine lv_topi (fun y_33 ey_33 => ?_)
        have ky_33 : y_33.toInt = (f9 x1_6.toNatClampNeg).toInt := by rw [ey_33]
        have ry_33 : 0 ≤ y_33.toInt ∧ y_33.toInt ≤ 100 := by rw [ey_33]; exact r_f9 _ (in_lt h_12)
        refine lv_aload_n hx hb dB_3_0_27.1.1.1.2 rfl (lv_at hl 2 rfl) ?_
        refine va_get (ci := 12) (v := .ref g10) (C := RX12) (T := TX12) (N := 34) hx hb hts (fun _ h => List.mem_cons_of_mem _ (List.mem_append_right _ h)) hown hK.1 hP 0 rfl rfl 10 (by decide) (hts (.fieldLink RX12 25 "CutAtlasModel" "isMissing" "[Z") (List.mem_of_getElem? (i := 12) rfl)) (fun _ h9 => h9) rfl dB_3_0_27.1.1.2.1 ?_
        refine lv_iload_n hx hb dB_3_0_27.1.1.2.2 rfl (lv_at hl 1 rfl) ?_
        refine va_zald hx hb hK.1 hP 6 2 rfl rfl (i := x1_6) h_12 dB_3_0_27.1.2.1.1 ?_
        refine lv_topi (fun y_35 ey_35 => ?_)
        have ky_35 : y_35.toInt = (f10 x1_6.toNatClampNeg).toInt := by rw [ey_35]
        refine lv_if_eq (tgt := 221) hx hb dB_3_0_27.1.2.1.2 (by decide) (fun c_36 => ?_) (fun c_36 => ?_)
        · have t_36 : y_35.toInt = (0 : Int32).toInt := congrArg Int32.toInt c_36
          refine lv_iconst (v := 0) hx hb dB_3_0_27.2.1.1.1 (by decide) ?_
          refine lv_iadd hx hb dB_3_0_27.2.1.1.2 ?_
          refine lv_topi (fun y_37 ey_37 => ?_)
          have ty_37 : y_37.toInt = y_33.toInt + (0 : Int32).toInt := by rw [ey_37]; exact addI (by omega) (by omega)
          have h_38 : vp_in y_31 6000 := in_I (by first | with_reducible assumption | omega) (by omega)
          refine va_iast hx hb hK.1 hP hD hS 9 0 rfl rfl (i := y_31) h_38 dB_3_0_27.2.1.2.1 (fun H locs hP hD hS => ?_)
          obtain ⟨f_39, ef_39⟩ : ∃ g : Nat → Int32, g = upd f_30 y_31.toNatClampNeg y_37 := ⟨_, rfl⟩
          refine pd_K (D := D) (cl := vwCl) (H := H) (A := A) [ob12_0_ mo s0 s1 t2 s3 s4 g5 g6 g7 g8 g9 g10 s11 g12 g13 g14 g15 g16 g17 g18 g19 g20 s21 g22 g23 g24 s25 s26 s27 s28 g29 g30 g31 g32 g33, ai_ cy g5 40 f5, ai_ cy g6 40 f6, ai_ cy g7 40 f7, ai_ cy g8 40 f8, ai_ cy g9 40 f9, az_ cy g10 40 f10, ai_ cy g12 30 f_3, ai_ cy g13 30 f_5, ai_ cy g14 6000 f_39] (by rw [ef_39]; exact hP) (by rw [ef_39]; exact hD) (fun hP hD => ?_)
          have kf_39 := clI (i := y_31) (by omega)
          have rf_39 : orng f_39 6000 := by rw [ef_39]; exact orng_upd rf_30 (by unfold oc; omega)
          obtain ⟨y_40, ey_40⟩ : ∃ y : Int32, y = x1_6 + 1 := ⟨_, rfl⟩
          have ty_40 : y_40.toInt = x1_6.toInt + (1 : Int32).toInt := by rw [ey_40]; exact addI (by omega) (by omega)
          refine lv_iinc (v := y_40) (lv' := [(1, .int y_40), (2, .int y_11), (0, .ref mo)]) hx hb dB_3_0_27.2.1.2.2 hl (k := 1) rfl (by rw [ey_40]; rfl) (by decide) rfl (fun ls hl => ?_)
          have hE_ := ent_st (u := s11) (l := x1_6) (l2 := y_40) (f9 := f9) (f10 := f10) (b := f14) (by omega) (by omega) ef_15 ef_20 ef_25 ef_30 ef_39 (by omega) (by omega) (by omega) (by omega) (by omega) ey_13 ey_18 ey_23 ey_28 (by first | (rw [if_pos (by omega)]; omega) | (rw [if_neg (by omega)]; omega)) v2_6 v3_6 (by omega)
          refine lv_goto (tgt := 120) hx hb dB_3_0_27.2.2.1.1 (by decide) ?_
          exact ih_6 y_40 f_39 _ _ _ (by omega) (by first | with_reducible assumption | omega | assumption) (by first | with_reducible assumption | omega | assumption) (by first | exact fun _ _ => rfl | exact hE_.1) (by first | exact hE_.2 | (intro j hj; omega)) (by first | with_reducible assumption | assumption | exact rng_zero (by omega) (by omega) | exact orng_zero) ⟨hP, hD⟩ hS (lv_sub hl [0, 2] rfl)
        · have t_36 : ¬ y_35.toInt = (0 : Int32).toInt := fun h => c_36 (Int32.toInt_inj.mp h)
          refine lv_sipush (v := 1000) hx hb dB_3_0_27.1.2.2.1 (by decide) ?_
          refine lv_goto (tgt := 222) hx hb dB_3_0_27.1.2.2.2 (by decide) ?_
          refine lv_iadd hx hb dB_3_0_27.2.1.1.2 ?_
          refine lv_topi (fun y_41 ey_41 => ?_)
          have ty_41 : y_41.toInt = y_33.toInt + (1000 : Int32).toInt := by rw [ey_41]; exact addI (by omega) (by omega)
          have h_42 : vp_in y_31 6000 := in_I (by first | with_reducible assumption | omega) (by omega)
          refine va_iast hx hb hK.1 hP hD hS 9 0 rfl rfl (i := y_31) h_42 dB_3_0_27.2.1.2.1 (fun H locs hP hD hS => ?_)
          obtain ⟨f_43, ef_43⟩ : ∃ g : Nat → Int32, g = upd f_30 y_31.toNatClampNeg y_41 := ⟨_, rfl⟩
          refine pd_K (D := D) (cl := vwCl) (H := H) (A := A) [ob12_0_ mo s0 s1 t2 s3 s4 g5 g6 g7 g8 g9 g10 s11 g12 g13 g14 g15 g16 g17 g18 g19 g20 s21 g22 g23 g24 s25 s26 s27 s28 g29 g30 g31 g32 g33, ai_ cy g5 40 f5, ai_ cy g6 40 f6, ai_ cy g7 40 f7, ai_ cy g8 40 f8, ai_ cy g9 40 f9, az_ cy g10 40 f10, ai_ cy g12 30 f_3, ai_ cy g13 30 f_5, ai_ cy g14 6000 f_43] (by rw [ef_43]; exact hP) (by rw [ef_43]; exact hD) (fun hP hD => ?_)
          have kf_43 := clI (i := y_31) (by omega)
          have rf_43 : orng f_43 6000 := by rw [ef_43]; exact orng_upd rf_30 (by unfold oc; omega)
          obtain ⟨y_44, ey_44⟩ : ∃ y : Int32, y = x1_6 + 1 := ⟨_, rfl⟩
          have ty_44 : y_44.toInt = x1_6.toInt + (1 : Int32).toInt := by rw [ey_44]; exact addI (by omega) (by omega)
          refine lv_iinc (v := y_44) (lv' := [(1, .int y_44), (2, .int y_11), (0, .ref mo)]) hx hb dB_3_0_27.2.1.2.2 hl (k := 1) rfl (by rw [ey_44]; rfl) (by decide) rfl (fun ls hl => ?_)
          have hE_ := ent_st (u := s11) (l := x1_6) (l2 := y_44) (f9 := f9) (f10 := f10) (b := f14) (by omega) (by omega) ef_15 ef_20 ef_25 ef_30 ef_43 (by omega) (by omega) (by omega) (by omega) (by omega) ey_13 ey_18 ey_23 ey_28 (by first | (rw [if_pos (by omega)]; omega) | (rw [if_neg (by omega)]; omega)) v2_6 v3_6 (by omega)
          refine lv_goto (tgt := 120) hx hb dB_3_0_27.2.2.1.1 (by decide) ?_
          exact ih_6 y_44 f_43 _ _ _ (by omega) (by first | with_reducible assumption | omega | assumption) (by first | with_reducible assumption | omega | assumption) (by first | exact fun _ _ => rfl | exact hE_.1) (by first | exact hE_.2 | (intro j hj; omega)) (by first | with_reducible assumption | assumption | exact rng_zero (by omega) (by omega) | exact orng_zero) ⟨hP, hD⟩ hS (lv_sub hl [0, 2] rfl)
  · have t_1 : s11.toInt = (30 : Int32).toInt := congrArg Int32.toInt c_1
    refine lv_iconst (v := 0) hx hb dB_3_0_19.1.2.1.1 (by decide) ?_
    refine lv_istore_n (lv' := [(1, .int 0), (0, .ref mo)]) hx hb dB_3_0_19.1.2.1.2 rfl hl (by decide) rfl (fun ls hl => ?_)
    suffices LOOP_45 : ∀ (n_45 : Nat) (x1_45 : Int32) (c_g12_45 : Nat → Int32) (c_g13_45 : Nat → Int32) (H : Heap) (locs : List Loc) (ls : Array Slot), 29 - x1_45.toInt < (n_45 : Int) → (0 ≤ x1_45.toInt) → (x1_45.toInt ≤ 29) → (shf f12 c_g12_45 1 x1_45.toInt) → (shf f13 c_g13_45 1 x1_45.toInt) → (rng c_g12_45 30 (0) (12)) → (rng c_g13_45 30 (0) (40)) → pd_2 D vwCl A [ob12_0_ mo s0 s1 t2 s3 s4 g5 g6 g7 g8 g9 g10 s11 g12 g13 g14 g15 g16 g17 g18 g19 g20 s21 g22 g23 g24 s25 s26 s27 s28 g29 g30 g31 g32 g33, ai_ cy g5 40 f5, ai_ cy g6 40 f6, ai_ cy g7 40 f7, ai_ cy g8 40 f8, ai_ cy g9 40 f9, az_ cy g10 40 f10, ai_ cy g12 30 c_g12_45, ai_ cy g13 30 c_g13_45, ai_ cy g14 6000 f14] H → va_S A s.heap H locs → lv_has ls 3 [(1, .int x1_45), (0, .ref mo)] → W p l e ({ frames := 0, cells := 0, slots := 0, locals := 0 } : Room) s m (([.ref mo] : List Value).toArray) below meth c H locs 0 0 Q (F0 m 11 ls []) from LOOP_45 ((29 - (0 : Int32).toInt).toNat + 1) (0 : Int32) f12 f13 _ _ _ (by omega) (by first | with_reducible assumption | omega | assumption) (by first | with_reducible assumption | omega | assumption) (by first | exact shf_0 | exact shf_st v_none S[q12] S[v12] (by omega) (by omega) (by omega)) (by first | exact shf_0 | exact shf_st v_none S[q13] S[v13] (by omega) (by omega) (by omega)) (by first | with_reducible assumption | assumption | exact rng_zero (by omega) (by omega) | exact orng_zero) (by first | with_reducible assumption | assumption | exact rng_zero (by omega) (by omega) | exact orng_zero) ⟨hP, hD⟩ hS (lv_sub hl [0, 1] rfl)
    intro n_45
    induction n_45 with
    | zero =>
      intro x1_45 c_g12_45 c_g13_45 H locs ls hm v0_45 v1_45 v2_45 v3_45 rc_g12_45 rc_g13_45 hPD hS hl; obtain ⟨hP, hD⟩ := hPD
      exact absurd hm (by omega)
    | succ n_45 ih_45 =>
      intro x1_45 c_g12_45 c_g13_45 H locs ls hm v0_45 v1_45 v2_45 v3_45 rc_g12_45 rc_g13_45 hPD hS hl; obtain ⟨hP, hD⟩ := hPD
      refine lv_iload_n hx hb dB_3_0_19.1.2.2.1 rfl (lv_at hl 0 rfl) ?_
      refine lv_bipush (v := 29) hx hb dB_3_0_19.1.2.2.2 (by decide) ?_
      refine lv_icmp_ge (tgt := 51) hx hb dB_3_0_19.2.1.1.1 (by decide) (fun c_46 => ?_) (fun c_46 => ?_)
      · have t_46 : (29 : Int32).toInt ≤ x1_45.toInt := Int32.le_iff_toInt_le.mp c_46
        refine lv_iconst (v := 0) hx hb dB_3_0_20.2.2.2.2 (by decide) ?_
        refine lv_istore_n (lv' := [(1, .int 0), (0, .ref mo)]) hx hb dB_3_0_21.1.1.1.1 rfl hl (by decide) rfl (fun ls hl => ?_)
        suffices LOOP_47 : ∀ (n_47 : Nat) (x1_47 : Int32) (c_g14_47 : Nat → Int32) (H : Heap) (locs : List Loc) (ls : Array Slot), 5800 - x1_47.toInt < (n_47 : Int) → (0 ≤ x1_47.toInt) → (x1_47.toInt ≤ 5800) → (shf f14 c_g14_47 200 x1_47.toInt) → (orng c_g14_47 6000) → pd_2 D vwCl A [ob12_0_ mo s0 s1 t2 s3 s4 g5 g6 g7 g8 g9 g10 s11 g12 g13 g14 g15 g16 g17 g18 g19 g20 s21 g22 g23 g24 s25 s26 s27 s28 g29 g30 g31 g32 g33, ai_ cy g5 40 f5, ai_ cy g6 40 f6, ai_ cy g7 40 f7, ai_ cy g8 40 f8, ai_ cy g9 40 f9, az_ cy g10 40 f10, ai_ cy g12 30 c_g12_45, ai_ cy g13 30 c_g13_45, ai_ cy g14 6000 c_g14_47] H → va_S A s.heap H locs → lv_has ls 3 [(1, .int x1_47), (0, .ref mo)] → W p l e ({ frames := 0, cells := 0, slots := 0, locals := 0 } : Room) s m (([.ref mo] : List Value).toArray) below meth c H locs 0 0 Q (F0 m 53 ls []) from LOOP_47 ((5800 - (0 : Int32).toInt).toNat + 1) (0 : Int32) f14 _ _ _ (by omega) (by first | with_reducible assumption | omega | assumption) (by first | with_reducible assumption | omega | assumption) (by first | exact shf_0 | exact shf_st v_none S[q14] S[v14] (by omega) (by omega) (by omega)) (by first | with_reducible assumption | assumption | exact rng_zero (by omega) (by omega) | exact orng_zero) ⟨hP, hD⟩ hS (lv_sub hl [0, 1] rfl)
        intro n_47
        induction n_47 with
        | zero =>
          intro x1_47 c_g14_47 H locs ls hm v0_47 v1_47 v2_47 rc_g14_47 hPD hS hl; obtain ⟨hP, hD⟩ := hPD
          exact absurd hm (by omega)
        | succ n_47 ih_47 =>
          intro x1_47 c_g14_47 H locs ls hm v0_47 v1_47 v2_47 rc_g14_47 hPD hS hl; obtain ⟨hP, hD⟩ := hPD
          refine lv_iload_n hx hb dB_3_0_21.1.1.1.2 rfl (lv_at hl 0 rfl) ?_
          refine lv_sipush (v := 5800) hx hb dB_3_0_21.1.1.2.1 (by decide) ?_
          refine lv_icmp_ge (tgt := 82) hx hb dB_3_0_21.1.1.2.2 (by decide) (fun c_48 => ?_) (fun c_48 => ?_)
          · have t_48 : (5800 : Int32).toInt ≤ x1_47.toInt := Int32.le_iff_toInt_le.mp c_48
            refine lv_aload_n hx hb dB_3_0_22.1.1.1.1 rfl (lv_at hl 1 rfl) ?_
            refine lv_dup hx hb dB_3_0_22.1.1.1.2 rfl ?_
            refine va_get (ci := 12) (v := .int s11) (C := RX12) (T := TX12) (N := 34) hx hb hts (fun _ h => List.mem_cons_of_mem _ (List.mem_append_right _ h)) hown hK.1 hP 0 rfl rfl 11 (by decide) (hts (.fieldLink RX12 102 "CutAtlasModel" "undone" "I") (List.mem_of_getElem? (i := 1) rfl)) (fun _ h9 => h9) rfl dB_3_0_22.1.1.2.1 ?_
            refine lv_iconst (v := 1) hx hb dB_3_0_22.1.1.2.2 (by decide) ?_
            refine lv_isub hx hb dB_3_0_22.1.2.1.1 ?_
            refine lv_topi (fun y_49 ey_49 => ?_)
            have ty_49 : y_49.toInt = s11.toInt - (1 : Int32).toInt := by rw [ey_49]; exact subI (by omega) (by omega)
            refine va_put (ci := 12) (v := .int y_49) (ty := .int) (C := RX12) (T := TX12) (N := 34) hx hb hts (fun _ h => List.mem_cons_of_mem _ (List.mem_append_right _ h)) tyX12 tyX12_ok nmX12 hown hK.1 hP hD hS 0 rfl rfl 11 (by decide) (hts (.fieldLink RX12 102 "CutAtlasModel" "undone" "I") (List.mem_of_getElem? (i := 1) rfl)) (fun _ h9 => h9) rfl (by decide +kernel) rfl rfl (Nat.le_of_ble_eq_true rfl) dB_3_0_22.1.2.1.2 (fun H locs hP hD hS => ?_)
            refine pd_K [ob12_0_ mo s0 s1 t2 s3 s4 g5 g6 g7 g8 g9 g10 y_49 g12 g13 g14 g15 g16 g17 g18 g19 g20 s21 g22 g23 g24 s25 s26 s27 s28 g29 g30 g31 g32 g33, ai_ cy g5 40 f5, ai_ cy g6 40 f6, ai_ cy g7 40 f7, ai_ cy g8 40 f8, ai_ cy g9 40 f9, az_ cy g10 40 f10, ai_ cy g12 30 c_g12_45, ai_ cy g13 30 c_g13_45, ai_ cy g14 6000 c_g14_47] hP hD (fun hP hD => ?_)
            have hm_ : moved s11.toInt f12 f13 f14 y_49.toInt c_g12_45 c_g13_45 c_g14_47 := by first | exact moved_1 (by omega) (by omega) v2_45 v3_45 v2_47 (by omega) (by omega) | exact moved_0 (by omega)
            refine lv_aload_n hx hb dB_3_0_22.1.2.2.1 rfl (lv_at hl 1 rfl) ?_
            refine va_get (ci := 12) (v := .ref g12) (C := RX12) (T := TX12) (N := 34) hx hb hts (fun _ h => List.mem_cons_of_mem _ (List.mem_append_right _ h)) hown hK.1 hP 0 rfl rfl 12 (by decide) (hts (.fieldLink RX12 29 "CutAtlasModel" "oldPlaces" "[I") (List.mem_of_getElem? (i := 2) rfl)) (fun _ h9 => h9) rfl dB_3_0_22.1.2.2.2 ?_
            refine lv_aload_n hx hb dB_3_0_22.2.1.1.1 rfl (lv_at hl 1 rfl) ?_
            refine va_get (ci := 12) (v := .int y_49) (C := RX12) (T := TX12) (N := 34) hx hb hts (fun _ h => List.mem_cons_of_mem _ (List.mem_append_right _ h)) hown hK.1 hP 0 rfl rfl 11 (by decide) (hts (.fieldLink RX12 102 "CutAtlasModel" "undone" "I") (List.mem_of_getElem? (i := 1) rfl)) (fun _ h9 => h9) rfl dB_3_0_22.2.1.1.2 ?_
            refine lv_aload_n hx hb dB_3_0_22.2.1.2.1 rfl (lv_at hl 1 rfl) ?_
            refine va_get (ci := 12) (v := .int s3) (C := RX12) (T := TX12) (N := 34) hx hb hts (fun _ h => List.mem_cons_of_mem _ (List.mem_append_right _ h)) hown hK.1 hP 0 rfl rfl 3 (by decide) (hts (.fieldLink RX12 88 "CutAtlasModel" "places" "I") (List.mem_of_getElem? (i := 5) rfl)) (fun _ h9 => h9) rfl dB_3_0_22.2.1.2.2 ?_
            have h_50 : vp_in y_49 30 := in_I (by first | with_reducible assumption | omega) (by omega)
            refine va_iast hx hb hK.1 hP hD hS 7 0 rfl rfl (i := y_49) h_50 dB_3_0_22.2.2.1.1 (fun H locs hP hD hS => ?_)
            obtain ⟨f_51, ef_51⟩ : ∃ g : Nat → Int32, g = upd c_g12_45 y_49.toNatClampNeg s3 := ⟨_, rfl⟩
            refine pd_K (D := D) (cl := vwCl) (H := H) (A := A) [ob12_0_ mo s0 s1 t2 s3 s4 g5 g6 g7 g8 g9 g10 y_49 g12 g13 g14 g15 g16 g17 g18 g19 g20 s21 g22 g23 g24 s25 s26 s27 s28 g29 g30 g31 g32 g33, ai_ cy g5 40 f5, ai_ cy g6 40 f6, ai_ cy g7 40 f7, ai_ cy g8 40 f8, ai_ cy g9 40 f9, az_ cy g10 40 f10, ai_ cy g12 30 f_51, ai_ cy g13 30 c_g13_45, ai_ cy g14 6000 c_g14_47] (by rw [ef_51]; exact hP) (by rw [ef_51]; exact hD) (fun hP hD => ?_)
            have rf_51 : rng f_51 30 (0) (12) := by rw [ef_51]; exact rng_upd rc_g12_45 (by omega) (by omega)
            refine lv_aload_n hx hb dB_3_0_22.2.2.1.2 rfl (lv_at hl 1 rfl) ?_
            refine va_get (ci := 12) (v := .ref g13) (C := RX12) (T := TX12) (N := 34) hx hb hts (fun _ h => List.mem_cons_of_mem _ (List.mem_append_right _ h)) hown hK.1 hP 0 rfl rfl 13 (by decide) (hts (.fieldLink RX12 32 "CutAtlasModel" "oldLines" "[I") (List.mem_of_getElem? (i := 3) rfl)) (fun _ h9 => h9) rfl dB_3_0_22.2.2.2.1 ?_
            refine lv_aload_n hx hb dB_3_0_22.2.2.2.2 rfl (lv_at hl 1 rfl) ?_
            refine va_get (ci := 12) (v := .int y_49) (C := RX12) (T := TX12) (N := 34) hx hb hts (fun _ h => List.mem_cons_of_mem _ (List.mem_append_right _ h)) hown hK.1 hP 0 rfl rfl 11 (by decide) (hts (.fieldLink RX12 102 "CutAtlasModel" "undone" "I") (List.mem_of_getElem? (i := 1) rfl)) (fun _ h9 => h9) rfl dB_3_0_23.1.1.1.1 ?_
            refine lv_aload_n hx hb dB_3_0_23.1.1.1.2 rfl (lv_at hl 1 rfl) ?_
            refine va_get (ci := 12) (v := .int s4) (C := RX12) (T := TX12) (N := 34) hx hb hts (fun _ h => List.mem_cons_of_mem _ (List.mem_append_right _ h)) hown hK.1 hP 0 rfl rfl 4 (by decide) (hts (.fieldLink RX12 95 "CutAtlasModel" "lines" "I") (List.mem_of_getElem? (i := 6) rfl)) (fun _ h9 => h9) rfl dB_3_0_23.1.1.2.1 ?_
            refine va_iast hx hb hK.1 hP hD hS 8 0 rfl rfl (i := y_49) h_50 dB_3_0_23.1.1.2.2 (fun H locs hP hD hS => ?_)
            obtain ⟨f_53, ef_53⟩ : ∃ g : Nat → Int32, g = upd c_g13_45 y_49.toNatClampNeg s4 := ⟨_, rfl⟩
            refine pd_K (D := D) (cl := vwCl) (H := H) (A := A) [ob12_0_ mo s0 s1 t2 s3 s4 g5 g6 g7 g8 g9 g10 y_49 g12 g13 g14 g15 g16 g17 g18 g19 g20 s21 g22 g23 g24 s25 s26 s27 s28 g29 g30 g31 g32 g33, ai_ cy g5 40 f5, ai_ cy g6 40 f6, ai_ cy g7 40 f7, ai_ cy g8 40 f8, ai_ cy g9 40 f9, az_ cy g10 40 f10, ai_ cy g12 30 f_51, ai_ cy g13 30 f_53, ai_ cy g14 6000 c_g14_47] (by rw [ef_53]; exact hP) (by rw [ef_53]; exact hD) (fun hP hD => ?_)
            have rf_53 : rng f_53 30 (0) (40) := by rw [ef_53]; exact rng_upd rc_g13_45 (by omega) (by omega)
            refine lv_iconst (v := 0) hx hb dB_3_0_23.1.2.1.1 (by decide) ?_
            refine lv_istore_n (lv' := [(1, .int 0), (0, .ref mo)]) hx hb dB_3_0_23.1.2.1.2 rfl hl (by decide) rfl (fun ls hl => ?_)
            suffices LOOP_54 : ∀ (n_54 : Nat) (x1_54 : Int32) (c_g14_54 : Nat → Int32) (H : Heap) (locs : List Loc) (ls : Array Slot), 40 - x1_54.toInt < (n_54 : Int) → (0 ≤ x1_54.toInt) → (x1_54.toInt ≤ 40) → (∀ q : Nat, q < 200 * y_49.toNatClampNeg → c_g14_54 q = c_g14_47 q) → (∀ j : Nat, (j : Int) < x1_54.toInt → entry c_g14_54 (200 * y_49.toNatClampNeg) f5 f6 f7 f8 f9 f10 j) → (orng c_g14_54 6000) → pd_2 D vwCl A [ob12_0_ mo s0 s1 t2 s3 s4 g5 g6 g7 g8 g9 g10 y_49 g12 g13 g14 g15 g16 g17 g18 g19 g20 s21 g22 g23 g24 s25 s26 s27 s28 g29 g30 g31 g32 g33, ai_ cy g5 40 f5, ai_ cy g6 40 f6, ai_ cy g7 40 f7, ai_ cy g8 40 f8, ai_ cy g9 40 f9, az_ cy g10 40 f10, ai_ cy g12 30 f_51, ai_ cy g13 30 f_53, ai_ cy g14 6000 c_g14_54] H → va_S A s.heap H locs → lv_has ls 3 [(1, .int x1_54), (0, .ref mo)] → W p l e ({ frames := 0, cells := 0, slots := 0, locals := 0 } : Room) s m (([.ref mo] : List Value).toArray) below meth c H locs 0 0 Q (F0 m 120 ls []) from LOOP_54 ((40 - (0 : Int32).toInt).toNat + 1) (0 : Int32) c_g14_47 _ _ _ (by omega) (by first | with_reducible assumption | omega | assumption) (by first | with_reducible assumption | omega | assumption) (by first | exact fun _ _ => rfl | exact hE_.1) (by first | exact hE_.2 | (intro j hj; omega)) (by first | with_reducible assumption | assumption | exact rng_zero (by omega) (by omega) | exact orng_zero) ⟨hP, hD⟩ hS (lv_sub hl [0, 1] rfl)
            intro n_54
            induction n_54 with
            | zero =>
              intro x1_54 c_g14_54 H locs ls hm v0_54 v1_54 v2_54 v3_54 rc_g14_54 hPD hS hl; obtain ⟨hP, hD⟩ := hPD
              exact absurd hm (by omega)
            | succ n_54 ih_54 =>
              intro x1_54 c_g14_54 H locs ls hm v0_54 v1_54 v2_54 v3_54 rc_g14_54 hPD hS hl; obtain ⟨hP, hD⟩ := hPD
              refine lv_iload_n hx hb dB_3_0_23.1.2.2.1 rfl (lv_at hl 0 rfl) ?_
              refine lv_bipush (v := 40) hx hb dB_3_0_23.1.2.2.2 (by decide) ?_
              refine lv_icmp_ge (tgt := 230) hx hb dB_3_0_23.2.1.1.1 (by decide) (fun c_55 => ?_) (fun c_55 => ?_)
              · have t_55 : (40 : Int32).toInt ≤ x1_54.toInt := Int32.le_iff_toInt_le.mp c_55
                refine lv_aload_n hx hb dB_3_0_27.2.2.1.2 rfl (lv_at hl 1 rfl) ?_
                refine lv_dup hx hb dB_3_0_27.2.2.2.1 rfl ?_
                refine va_get (ci := 12) (v := .int y_49) (C := RX12) (T := TX12) (N := 34) hx hb hts (fun _ h => List.mem_cons_of_mem _ (List.mem_append_right _ h)) hown hK.1 hP 0 rfl rfl 11 (by decide) (hts (.fieldLink RX12 102 "CutAtlasModel" "undone" "I") (List.mem_of_getElem? (i := 1) rfl)) (fun _ h9 => h9) rfl dB_3_0_27.2.2.2.2 ?_
                refine lv_iconst (v := 1) hx hb dB_3_0_28.1.1 (by decide) ?_
                refine lv_iadd hx hb dB_3_0_28.1.2 ?_
                refine lv_topi (fun y_56 ey_56 => ?_)
                have ty_56 : y_56.toInt = y_49.toInt + (1 : Int32).toInt := by rw [ey_56]; exact addI (by omega) (by omega)
                refine va_put (ci := 12) (v := .int y_56) (ty := .int) (C := RX12) (T := TX12) (N := 34) hx hb hts (fun _ h => List.mem_cons_of_mem _ (List.mem_append_right _ h)) tyX12 tyX12_ok nmX12 hown hK.1 hP hD hS 0 rfl rfl 11 (by decide) (hts (.fieldLink RX12 102 "CutAtlasModel" "undone" "I") (List.mem_of_getElem? (i := 1) rfl)) (fun _ h9 => h9) rfl (by decide +kernel) rfl rfl (Nat.le_of_ble_eq_true rfl) dB_3_0_28.2.1 (fun H locs hP hD hS => ?_)
                refine pd_K [ob12_0_ mo s0 s1 t2 s3 s4 g5 g6 g7 g8 g9 g10 y_56 g12 g13 g14 g15 g16 g17 g18 g19 g20 s21 g22 g23 g24 s25 s26 s27 s28 g29 g30 g31 g32 g33, ai_ cy g5 40 f5, ai_ cy g6 40 f6, ai_ cy g7 40 f7, ai_ cy g8 40 f8, ai_ cy g9 40 f9, az_ cy g10 40 f10, ai_ cy g12 30 f_51, ai_ cy g13 30 f_53, ai_ cy g14 6000 c_g14_54] hP hD (fun hP hD => ?_)
                rw [hQ]
                exact W.vret hx hb hr (fun t ht hW => ⟨⟨(), rfl, trivial, y_56, f_51, f_53, c_g14_54, (by first | with_reducible assumption | omega | assumption), (kept_mk (u := y_49) (L := x1_54) hm_ (by omega) ef_51 ef_53 v2_54 v3_54 (by omega) (by omega)), (by first | with_reducible assumption | assumption | exact rng_zero (by omega) (by omega) | omega), (by first | with_reducible assumption | assumption | exact rng_zero (by omega) (by omega) | omega), (by first | with_reducible assumption | assumption | exact rng_zero (by omega) (by omega) | omega), by rw [ht]; exact hP, hD⟩, hS.F ht⟩) hS.2.2 dB_3_0_28.2.2
              · have t_55 : ¬ (40 : Int32).toInt ≤ x1_54.toInt := fun h => c_55 (Int32.le_iff_toInt_le.mpr h)
                refine lv_sipush (v := 200) hx hb dB_3_0_23.2.1.1.2 (by decide) ?_
                refine lv_aload_n hx hb dB_3_0_23.2.1.2.1 rfl (lv_at hl 1 rfl) ?_
                refine va_get (ci := 12) (v := .int y_49) (C := RX12) (T := TX12) (N := 34) hx hb hts (fun _ h => List.mem_cons_of_mem _ (List.mem_append_right _ h)) hown hK.1 hP 0 rfl rfl 11 (by decide) (hts (.fieldLink RX12 102 "CutAtlasModel" "undone" "I") (List.mem_of_getElem? (i := 1) rfl)) (fun _ h9 => h9) rfl dB_3_0_23.2.1.2.2 ?_
                refine lv_imul hx hb dB_3_0_23.2.2.1.1 ?_
                refine lv_topi (fun y_57 ey_57 => ?_)
                have ty_57 : y_57.toInt = 200 * y_49.toInt := by rw [ey_57]; exact mulC (by decide) (by omega) (by omega)
                refine lv_iconst (v := 5) hx hb dB_3_0_23.2.2.1.2 (by decide) ?_
                refine lv_iload_n hx hb dB_3_0_23.2.2.2.1 rfl (lv_at hl 0 rfl) ?_
                refine lv_imul hx hb dB_3_0_23.2.2.2.2 ?_
                refine lv_topi (fun y_58 ey_58 => ?_)
                have ty_58 : y_58.toInt = 5 * x1_54.toInt := by rw [ey_58]; exact mulC (by decide) (by omega) (by omega)
                refine lv_iadd hx hb dB_3_0_24.1.1.1.1 ?_
                refine lv_topi (fun y_59 ey_59 => ?_)
                have ty_59 : y_59.toInt = y_57.toInt + y_58.toInt := by rw [ey_59]; exact addI (by omega) (by omega)
                refine lv_istore_n (lv' := [(2, .int y_59), (1, .int x1_54), (0, .ref mo)]) hx hb dB_3_0_24.1.1.1.2 rfl hl (by decide) rfl (fun ls hl => ?_)
                refine lv_aload_n hx hb dB_3_0_24.1.1.2.1 rfl (lv_at hl 2 rfl) ?_
                refine va_get (ci := 12) (v := .ref g14) (C := RX12) (T := TX12) (N := 34) hx hb hts (fun _ h => List.mem_cons_of_mem _ (List.mem_append_right _ h)) hown hK.1 hP 0 rfl rfl 14 (by decide) (hts (.fieldLink RX12 35 "CutAtlasModel" "old" "[I") (List.mem_of_getElem? (i := 4) rfl)) (fun _ h9 => h9) rfl dB_3_0_24.1.1.2.2 ?_
                refine lv_iload_n hx hb dB_3_0_24.1.2.1.1 rfl (lv_at hl 0 rfl) ?_
                refine lv_aload_n hx hb dB_3_0_24.1.2.1.2 rfl (lv_at hl 2 rfl) ?_
                refine va_get (ci := 12) (v := .ref g5) (C := RX12) (T := TX12) (N := 34) hx hb hts (fun _ h => List.mem_cons_of_mem _ (List.mem_append_right _ h)) hown hK.1 hP 0 rfl rfl 5 (by decide) (hts (.fieldLink RX12 7 "CutAtlasModel" "kind" "[I") (List.mem_of_getElem? (i := 7) rfl)) (fun _ h9 => h9) rfl dB_3_0_24.1.2.2.1 ?_
                refine lv_iload_n hx hb dB_3_0_24.1.2.2.2 rfl (lv_at hl 1 rfl) ?_
                have h_60 : vp_in x1_54 40 := in_I (by first | with_reducible assumption | omega) (by omega)
                refine va_iald hx hb hK.1 hP 1 0 rfl rfl (i := x1_54) h_60 dB_3_0_24.2.1.1.1 ?_
                refine lv_topi (fun y_61 ey_61 => ?_)
                have ky_61 : y_61.toInt = (f5 x1_54.toNatClampNeg).toInt := by rw [ey_61]
                have h_62 : vp_in y_59 6000 := in_I (by first | with_reducible assumption | omega) (by omega)
                refine va_iast hx hb hK.1 hP hD hS 9 0 rfl rfl (i := y_59) h_62 dB_3_0_24.2.1.1.2 (fun H locs hP hD hS => ?_)
                obtain ⟨f_63, ef_63⟩ : ∃ g : Nat → Int32, g = upd c_g14_54 y_59.toNatClampNeg y_61 := ⟨_, rfl⟩
                refine pd_K (D := D) (cl := vwCl) (H := H) (A := A) [ob12_0_ mo s0 s1 t2 s3 s4 g5 g6 g7 g8 g9 g10 y_49 g12 g13 g14 g15 g16 g17 g18 g19 g20 s21 g22 g23 g24 s25 s26 s27 s28 g29 g30 g31 g32 g33, ai_ cy g5 40 f5, ai_ cy g6 40 f6, ai_ cy g7 40 f7, ai_ cy g8 40 f8, ai_ cy g9 40 f9, az_ cy g10 40 f10, ai_ cy g12 30 f_51, ai_ cy g13 30 f_53, ai_ cy g14 6000 f_63] (by rw [ef_63]; exact hP) (by rw [ef_63]; exact hD) (fun hP hD => ?_)
                have kf_63 := clI (i := y_59) (by omega)
                have rf_63 : orng f_63 6000 := by rw [ef_63]; exact orng_upd rc_g14_54 (by unfold oc; omega)
                refine lv_aload_n hx hb dB_3_0_24.2.1.2.1 rfl (lv_at hl 2 rfl) ?_
                refine va_get (ci := 12) (v := .ref g14) (C := RX12) (T := TX12) (N := 34) hx hb hts (fun _ h => List.mem_cons_of_mem _ (List.mem_append_right _ h)) hown hK.1 hP 0 rfl rfl 14 (by decide) (hts (.fieldLink RX12 35 "CutAtlasModel" "old" "[I") (List.mem_of_getElem? (i := 4) rfl)) (fun _ h9 => h9) rfl dB_3_0_24.2.1.2.2 ?_
                refine lv_iload_n hx hb dB_3_0_24.2.2.1.1 rfl (lv_at hl 0 rfl) ?_
                refine lv_iconst (v := 1) hx hb dB_3_0_24.2.2.1.2 (by decide) ?_
                refine lv_iadd hx hb dB_3_0_24.2.2.2.1 ?_
                refine lv_topi (fun y_64 ey_64 => ?_)
                have ty_64 : y_64.toInt = y_59.toInt + (1 : Int32).toInt := by rw [ey_64]; exact addI (by omega) (by omega)
                refine lv_aload_n hx hb dB_3_0_24.2.2.2.2 rfl (lv_at hl 2 rfl) ?_
                refine va_get (ci := 12) (v := .ref g6) (C := RX12) (T := TX12) (N := 34) hx hb hts (fun _ h => List.mem_cons_of_mem _ (List.mem_append_right _ h)) hown hK.1 hP 0 rfl rfl 6 (by decide) (hts (.fieldLink RX12 13 "CutAtlasModel" "from" "[I") (List.mem_of_getElem? (i := 8) rfl)) (fun _ h9 => h9) rfl dB_3_0_25.1.1.1.1 ?_
                refine lv_iload_n hx hb dB_3_0_25.1.1.1.2 rfl (lv_at hl 1 rfl) ?_
                refine va_iald hx hb hK.1 hP 2 0 rfl rfl (i := x1_54) h_60 dB_3_0_25.1.1.2.1 ?_
                refine lv_topi (fun y_66 ey_66 => ?_)
                have ky_66 : y_66.toInt = (f6 x1_54.toNatClampNeg).toInt := by rw [ey_66]
                have ry_66 : 0 ≤ y_66.toInt ∧ y_66.toInt ≤ 11 := by rw [ey_66]; exact r_f6 _ (in_lt h_60)
                have h_67 : vp_in y_64 6000 := in_I (by first | with_reducible assumption | omega) (by omega)
                refine va_iast hx hb hK.1 hP hD hS 9 0 rfl rfl (i := y_64) h_67 dB_3_0_25.1.1.2.2 (fun H locs hP hD hS => ?_)
                obtain ⟨f_68, ef_68⟩ : ∃ g : Nat → Int32, g = upd f_63 y_64.toNatClampNeg y_66 := ⟨_, rfl⟩
                refine pd_K (D := D) (cl := vwCl) (H := H) (A := A) [ob12_0_ mo s0 s1 t2 s3 s4 g5 g6 g7 g8 g9 g10 y_49 g12 g13 g14 g15 g16 g17 g18 g19 g20 s21 g22 g23 g24 s25 s26 s27 s28 g29 g30 g31 g32 g33, ai_ cy g5 40 f5, ai_ cy g6 40 f6, ai_ cy g7 40 f7, ai_ cy g8 40 f8, ai_ cy g9 40 f9, az_ cy g10 40 f10, ai_ cy g12 30 f_51, ai_ cy g13 30 f_53, ai_ cy g14 6000 f_68] (by rw [ef_68]; exact hP) (by rw [ef_68]; exact hD) (fun hP hD => ?_)
                have kf_68 := clI (i := y_64) (by omega)
                have rf_68 : orng f_68 6000 := by rw [ef_68]; exact orng_upd rf_63 (by unfold oc; omega)
                refine lv_aload_n hx hb dB_3_0_25.1.2.1.1 rfl (lv_at hl 2 rfl) ?_
                refine va_get (ci := 12) (v := .ref g14) (C := RX12) (T := TX12) (N := 34) hx hb hts (fun _ h => List.mem_cons_of_mem _ (List.mem_append_right _ h)) hown hK.1 hP 0 rfl rfl 14 (by decide) (hts (.fieldLink RX12 35 "CutAtlasModel" "old" "[I") (List.mem_of_getElem? (i := 4) rfl)) (fun _ h9 => h9) rfl dB_3_0_25.1.2.1.2 ?_
                refine lv_iload_n hx hb dB_3_0_25.1.2.2.1 rfl (lv_at hl 0 rfl) ?_
                refine lv_iconst (v := 2) hx hb dB_3_0_25.1.2.2.2 (by decide) ?_
                refine lv_iadd hx hb dB_3_0_25.2.1.1.1 ?_
                refine lv_topi (fun y_69 ey_69 => ?_)
                have ty_69 : y_69.toInt = y_59.toInt + (2 : Int32).toInt := by rw [ey_69]; exact addI (by omega) (by omega)
                refine lv_aload_n hx hb dB_3_0_25.2.1.1.2 rfl (lv_at hl 2 rfl) ?_
                refine va_get (ci := 12) (v := .ref g7) (C := RX12) (T := TX12) (N := 34) hx hb hts (fun _ h => List.mem_cons_of_mem _ (List.mem_append_right _ h)) hown hK.1 hP 0 rfl rfl 7 (by decide) (hts (.fieldLink RX12 16 "CutAtlasModel" "to" "[I") (List.mem_of_getElem? (i := 9) rfl)) (fun _ h9 => h9) rfl dB_3_0_25.2.1.2.1 ?_
                refine lv_iload_n hx hb dB_3_0_25.2.1.2.2 rfl (lv_at hl 1 rfl) ?_
                refine va_iald hx hb hK.1 hP 3 0 rfl rfl (i := x1_54) h_60 dB_3_0_25.2.2.1.1 ?_
                refine lv_topi (fun y_71 ey_71 => ?_)
                have ky_71 : y_71.toInt = (f7 x1_54.toNatClampNeg).toInt := by rw [ey_71]
                have ry_71 : 0 ≤ y_71.toInt ∧ y_71.toInt ≤ 11 := by rw [ey_71]; exact r_f7 _ (in_lt h_60)
                have h_72 : vp_in y_69 6000 := in_I (by first | with_reducible assumption | omega) (by omega)
                refine va_iast hx hb hK.1 hP hD hS 9 0 rfl rfl (i := y_69) h_72 dB_3_0_25.2.2.1.2 (fun H locs hP hD hS => ?_)
                obtain ⟨f_73, ef_73⟩ : ∃ g : Nat → Int32, g = upd f_68 y_69.toNatClampNeg y_71 := ⟨_, rfl⟩
                refine pd_K (D := D) (cl := vwCl) (H := H) (A := A) [ob12_0_ mo s0 s1 t2 s3 s4 g5 g6 g7 g8 g9 g10 y_49 g12 g13 g14 g15 g16 g17 g18 g19 g20 s21 g22 g23 g24 s25 s26 s27 s28 g29 g30 g31 g32 g33, ai_ cy g5 40 f5, ai_ cy g6 40 f6, ai_ cy g7 40 f7, ai_ cy g8 40 f8, ai_ cy g9 40 f9, az_ cy g10 40 f10, ai_ cy g12 30 f_51, ai_ cy g13 30 f_53, ai_ cy g14 6000 f_73] (by rw [ef_73]; exact hP) (by rw [ef_73]; exact hD) (fun hP hD => ?_)
                have kf_73 := clI (i := y_69) (by omega)
                have rf_73 : orng f_73 6000 := by rw [ef_73]; exact orng_upd rf_68 (by unfold oc; omega)
                refine lv_aload_n hx hb dB_3_0_25.2.2.2.1 rfl (lv_at hl 2 rfl) ?_
                refine va_get (ci := 12) (v := .ref g14) (C := RX12) (T := TX12) (N := 34) hx hb hts (fun _ h => List.mem_cons_of_mem _ (List.mem_append_right _ h)) hown hK.1 hP 0 rfl rfl 14 (by decide) (hts (.fieldLink RX12 35 "CutAtlasModel" "old" "[I") (List.mem_of_getElem? (i := 4) rfl)) (fun _ h9 => h9) rfl dB_3_0_25.2.2.2.2 ?_
                refine lv_iload_n hx hb dB_3_0_26.1.1.1.1 rfl (lv_at hl 0 rfl) ?_
                refine lv_iconst (v := 3) hx hb dB_3_0_26.1.1.1.2 (by decide) ?_
                refine lv_iadd hx hb dB_3_0_26.1.1.2.1 ?_
                refine lv_topi (fun y_74 ey_74 => ?_)
                have ty_74 : y_74.toInt = y_59.toInt + (3 : Int32).toInt := by rw [ey_74]; exact addI (by omega) (by omega)
                refine lv_aload_n hx hb dB_3_0_26.1.1.2.2 rfl (lv_at hl 2 rfl) ?_
                refine va_get (ci := 12) (v := .ref g8) (C := RX12) (T := TX12) (N := 34) hx hb hts (fun _ h => List.mem_cons_of_mem _ (List.mem_append_right _ h)) hown hK.1 hP 0 rfl rfl 8 (by decide) (hts (.fieldLink RX12 19 "CutAtlasModel" "width" "[I") (List.mem_of_getElem? (i := 10) rfl)) (fun _ h9 => h9) rfl dB_3_0_26.1.2.1.1 ?_
                refine lv_iload_n hx hb dB_3_0_26.1.2.1.2 rfl (lv_at hl 1 rfl) ?_
                refine va_iald hx hb hK.1 hP 4 0 rfl rfl (i := x1_54) h_60 dB_3_0_26.1.2.2.1 ?_
                refine lv_topi (fun y_76 ey_76 => ?_)
                have ky_76 : y_76.toInt = (f8 x1_54.toNatClampNeg).toInt := by rw [ey_76]
                have ry_76 : 0 ≤ y_76.toInt ∧ y_76.toInt ≤ 2000 := by rw [ey_76]; exact r_f8 _ (in_lt h_60)
                have h_77 : vp_in y_74 6000 := in_I (by first | with_reducible assumption | omega) (by omega)
                refine va_iast hx hb hK.1 hP hD hS 9 0 rfl rfl (i := y_74) h_77 dB_3_0_26.1.2.2.2 (fun H locs hP hD hS => ?_)
                obtain ⟨f_78, ef_78⟩ : ∃ g : Nat → Int32, g = upd f_73 y_74.toNatClampNeg y_76 := ⟨_, rfl⟩
                refine pd_K (D := D) (cl := vwCl) (H := H) (A := A) [ob12_0_ mo s0 s1 t2 s3 s4 g5 g6 g7 g8 g9 g10 y_49 g12 g13 g14 g15 g16 g17 g18 g19 g20 s21 g22 g23 g24 s25 s26 s27 s28 g29 g30 g31 g32 g33, ai_ cy g5 40 f5, ai_ cy g6 40 f6, ai_ cy g7 40 f7, ai_ cy g8 40 f8, ai_ cy g9 40 f9, az_ cy g10 40 f10, ai_ cy g12 30 f_51, ai_ cy g13 30 f_53, ai_ cy g14 6000 f_78] (by rw [ef_78]; exact hP) (by rw [ef_78]; exact hD) (fun hP hD => ?_)
                have kf_78 := clI (i := y_74) (by omega)
                have rf_78 : orng f_78 6000 := by rw [ef_78]; exact orng_upd rf_73 (by unfold oc; omega)
                refine lv_aload_n hx hb dB_3_0_26.2.1.1.1 rfl (lv_at hl 2 rfl) ?_
                refine va_get (ci := 12) (v := .ref g14) (C := RX12) (T := TX12) (N := 34) hx hb hts (fun _ h => List.mem_cons_of_mem _ (List.mem_append_right _ h)) hown hK.1 hP 0 rfl rfl 14 (by decide) (hts (.fieldLink RX12 35 "CutAtlasModel" "old" "[I") (List.mem_of_getElem? (i := 4) rfl)) (fun _ h9 => h9) rfl dB_3_0_26.2.1.1.2 ?_
                refine lv_iload_n hx hb dB_3_0_26.2.1.2.1 rfl (lv_at hl 0 rfl) ?_
                refine lv_iconst (v := 4) hx hb dB_3_0_26.2.1.2.2 (by decide) ?_
                refine lv_iadd hx hb dB_3_0_26.2.2.1.1 ?_
                refine lv_topi (fun y_79 ey_79 => ?_)
                have ty_79 : y_79.toInt = y_59.toInt + (4 : Int32).toInt := by rw [ey_79]; exact addI (by omega) (by omega)
                refine lv_aload_n hx hb dB_3_0_26.2.2.1.2 rfl (lv_at hl 2 rfl) ?_
                refine va_get (ci := 12) (v := .ref g9) (C := RX12) (T := TX12) (N := 34) hx hb hts (fun _ h => List.mem_cons_of_mem _ (List.mem_append_right _ h)) hown hK.1 hP 0 rfl rfl 9 (by decide) (hts (.fieldLink RX12 22 "CutAtlasModel" "price" "[I") (List.mem_of_getElem? (i := 11) rfl)) (fun _ h9 => h9) rfl dB_3_0_26.2.2.2.1 ?_
                refine lv_iload_n hx hb dB_3_0_26.2.2.2.2 rfl (lv_at hl 1 rfl) ?_
                refine va_iald hx hb hK.1 hP 5 0 rfl rfl (i := x1_54) h_60 dB_3_0_27.1.1.1.1 ?_
                refine lv_topi (fun y_81 ey_81 => ?_)
                have ky_81 : y_81.toInt = (f9 x1_54.toNatClampNeg).toInt := by rw [ey_81]
                have ry_81 : 0 ≤ y_81.toInt ∧ y_81.toInt ≤ 100 := by rw [ey_81]; exact r_f9 _ (in_lt h_60)
                refine lv_aload_n hx hb dB_3_0_27.1.1.1.2 rfl (lv_at hl 2 rfl) ?_
                refine va_get (ci := 12) (v := .ref g10) (C := RX12) (T := TX12) (N := 34) hx hb hts (fun _ h => List.mem_cons_of_mem _ (List.mem_append_right _ h)) hown hK.1 hP 0 rfl rfl 10 (by decide) (hts (.fieldLink RX12 25 "CutAtlasModel" "isMissing" "[Z") (List.mem_of_getElem? (i := 12) rfl)) (fun _ h9 => h9) rfl dB_3_0_27.1.1.2.1 ?_
                refine lv_iload_n hx hb dB_3_0_27.1.1.2.2 rfl (lv_at hl 1 rfl) ?_
                refine va_zald hx hb hK.1 hP 6 2 rfl rfl (i := x1_54) h_60 dB_3_0_27.1.2.1.1 ?_
                refine lv_topi (fun y_83 ey_83 => ?_)
                have ky_83 : y_83.toInt = (f10 x1_54.toNatClampNeg).toInt := by rw [ey_83]
                refine lv_if_eq (tgt := 221) hx hb dB_3_0_27.1.2.1.2 (by decide) (fun c_84 => ?_) (fun c_84 => ?_)
                · have t_84 : y_83.toInt = (0 : Int32).toInt := congrArg Int32.toInt c_84
                  refine lv_iconst (v := 0) hx hb dB_3_0_27.2.1.1.1 (by decide) ?_
                  refine lv_iadd hx hb dB_3_0_27.2.1.1.2 ?_
                  refine lv_topi (fun y_85 ey_85 => ?_)
                  have ty_85 : y_85.toInt = y_81.toInt + (0 : Int32).toInt := by rw [ey_85]; exact addI (by omega) (by omega)
                  have h_86 : vp_in y_79 6000 := in_I (by first | with_reducible assumption | omega) (by omega)
                  refine va_iast hx hb hK.1 hP hD hS 9 0 rfl rfl (i := y_79) h_86 dB_3_0_27.2.1.2.1 (fun H locs hP hD hS => ?_)
                  obtain ⟨f_87, ef_87⟩ : ∃ g : Nat → Int32, g = upd f_78 y_79.toNatClampNeg y_85 := ⟨_, rfl⟩
                  refine pd_K (D := D) (cl := vwCl) (H := H) (A := A) [ob12_0_ mo s0 s1 t2 s3 s4 g5 g6 g7 g8 g9 g10 y_49 g12 g13 g14 g15 g16 g17 g18 g19 g20 s21 g22 g23 g24 s25 s26 s27 s28 g29 g30 g31 g32 g33, ai_ cy g5 40 f5, ai_ cy g6 40 f6, ai_ cy g7 40 f7, ai_ cy g8 40 f8, ai_ cy g9 40 f9, az_ cy g10 40 f10, ai_ cy g12 30 f_51, ai_ cy g13 30 f_53, ai_ cy g14 6000 f_87] (by rw [ef_87]; exact hP) (by rw [ef_87]; exact hD) (fun hP hD => ?_)
                  have kf_87 := clI (i := y_79) (by omega)
                  have rf_87 : orng f_87 6000 := by rw [ef_87]; exact orng_upd rf_78 (by unfold oc; omega)
                  obtain ⟨y_88, ey_88⟩ : ∃ y : Int32, y = x1_54 + 1 := ⟨_, rfl⟩
                  have ty_88 : y_88.toInt = x1_54.toInt + (1 : Int32).toInt := by rw [ey_88]; exact addI (by omega) (by omega)
                  refine lv_iinc (v := y_88) (lv' := [(1, .int y_88), (2, .int y_59), (0, .ref mo)]) hx hb dB_3_0_27.2.1.2.2 hl (k := 1) rfl (by rw [ey_88]; rfl) (by decide) rfl (fun ls hl => ?_)
                  have hE_ := ent_st (u := y_49) (l := x1_54) (l2 := y_88) (f9 := f9) (f10 := f10) (b := c_g14_47) (by omega) (by omega) ef_63 ef_68 ef_73 ef_78 ef_87 (by omega) (by omega) (by omega) (by omega) (by omega) ey_61 ey_66 ey_71 ey_76 (by first | (rw [if_pos (by omega)]; omega) | (rw [if_neg (by omega)]; omega)) v2_54 v3_54 (by omega)
                  refine lv_goto (tgt := 120) hx hb dB_3_0_27.2.2.1.1 (by decide) ?_
                  exact ih_54 y_88 f_87 _ _ _ (by omega) (by first | with_reducible assumption | omega | assumption) (by first | with_reducible assumption | omega | assumption) (by first | exact fun _ _ => rfl | exact hE_.1) (by first | exact hE_.2 | (intro j hj; omega)) (by first | with_reducible assumption | assumption | exact rng_zero (by omega) (by omega) | exact orng_zero) ⟨hP, hD⟩ hS (lv_sub hl [0, 2] rfl)
                · have t_84 : ¬ y_83.toInt = (0 : Int32).toInt := fun h => c_84 (Int32.toInt_inj.mp h)
                  refine lv_sipush (v := 1000) hx hb dB_3_0_27.1.2.2.1 (by decide) ?_
                  refine lv_goto (tgt := 222) hx hb dB_3_0_27.1.2.2.2 (by decide) ?_
                  refine lv_iadd hx hb dB_3_0_27.2.1.1.2 ?_
                  refine lv_topi (fun y_89 ey_89 => ?_)
                  have ty_89 : y_89.toInt = y_81.toInt + (1000 : Int32).toInt := by rw [ey_89]; exact addI (by omega) (by omega)
                  have h_90 : vp_in y_79 6000 := in_I (by first | with_reducible assumption | omega) (by omega)
                  refine va_iast hx hb hK.1 hP hD hS 9 0 rfl rfl (i := y_79) h_90 dB_3_0_27.2.1.2.1 (fun H locs hP hD hS => ?_)
                  obtain ⟨f_91, ef_91⟩ : ∃ g : Nat → Int32, g = upd f_78 y_79.toNatClampNeg y_89 := ⟨_, rfl⟩
                  refine pd_K (D := D) (cl := vwCl) (H := H) (A := A) [ob12_0_ mo s0 s1 t2 s3 s4 g5 g6 g7 g8 g9 g10 y_49 g12 g13 g14 g15 g16 g17 g18 g19 g20 s21 g22 g23 g24 s25 s26 s27 s28 g29 g30 g31 g32 g33, ai_ cy g5 40 f5, ai_ cy g6 40 f6, ai_ cy g7 40 f7, ai_ cy g8 40 f8, ai_ cy g9 40 f9, az_ cy g10 40 f10, ai_ cy g12 30 f_51, ai_ cy g13 30 f_53, ai_ cy g14 6000 f_91] (by rw [ef_91]; exact hP) (by rw [ef_91]; exact hD) (fun hP hD => ?_)
                  have kf_91 := clI (i := y_79) (by omega)
                  have rf_91 : orng f_91 6000 := by rw [ef_91]; exact orng_upd rf_78 (by unfold oc; omega)
                  obtain ⟨y_92, ey_92⟩ : ∃ y : Int32, y = x1_54 + 1 := ⟨_, rfl⟩
                  have ty_92 : y_92.toInt = x1_54.toInt + (1 : Int32).toInt := by rw [ey_92]; exact addI (by omega) (by omega)
                  refine lv_iinc (v := y_92) (lv' := [(1, .int y_92), (2, .int y_59), (0, .ref mo)]) hx hb dB_3_0_27.2.1.2.2 hl (k := 1) rfl (by rw [ey_92]; rfl) (by decide) rfl (fun ls hl => ?_)
                  have hE_ := ent_st (u := y_49) (l := x1_54) (l2 := y_92) (f9 := f9) (f10 := f10) (b := c_g14_47) (by omega) (by omega) ef_63 ef_68 ef_73 ef_78 ef_91 (by omega) (by omega) (by omega) (by omega) (by omega) ey_61 ey_66 ey_71 ey_76 (by first | (rw [if_pos (by omega)]; omega) | (rw [if_neg (by omega)]; omega)) v2_54 v3_54 (by omega)
                  refine lv_goto (tgt := 120) hx hb dB_3_0_27.2.2.1.1 (by decide) ?_
                  exact ih_54 y_92 f_91 _ _ _ (by omega) (by first | with_reducible assumption | omega | assumption) (by first | with_reducible assumption | omega | assumption) (by first | exact fun _ _ => rfl | exact hE_.1) (by first | exact hE_.2 | (intro j hj; omega)) (by first | with_reducible assumption | assumption | exact rng_zero (by omega) (by omega) | exact orng_zero) ⟨hP, hD⟩ hS (lv_sub hl [0, 2] rfl)
          · have t_48 : ¬ (5800 : Int32).toInt ≤ x1_47.toInt := fun h => c_48 (Int32.le_iff_toInt_le.mpr h)
            refine lv_aload_n hx hb dB_3_0_21.1.2.1.1 rfl (lv_at hl 1 rfl) ?_
            refine va_get (ci := 12) (v := .ref g14) (C := RX12) (T := TX12) (N := 34) hx hb hts (fun _ h => List.mem_cons_of_mem _ (List.mem_append_right _ h)) hown hK.1 hP 0 rfl rfl 14 (by decide) (hts (.fieldLink RX12 35 "CutAtlasModel" "old" "[I") (List.mem_of_getElem? (i := 4) rfl)) (fun _ h9 => h9) rfl dB_3_0_21.1.2.1.2 ?_
            refine lv_iload_n hx hb dB_3_0_21.1.2.2.1 rfl (lv_at hl 0 rfl) ?_
            refine lv_aload_n hx hb dB_3_0_21.1.2.2.2 rfl (lv_at hl 1 rfl) ?_
            refine va_get (ci := 12) (v := .ref g14) (C := RX12) (T := TX12) (N := 34) hx hb hts (fun _ h => List.mem_cons_of_mem _ (List.mem_append_right _ h)) hown hK.1 hP 0 rfl rfl 14 (by decide) (hts (.fieldLink RX12 35 "CutAtlasModel" "old" "[I") (List.mem_of_getElem? (i := 4) rfl)) (fun _ h9 => h9) rfl dB_3_0_21.2.1.1.1 ?_
            refine lv_iload_n hx hb dB_3_0_21.2.1.1.2 rfl (lv_at hl 0 rfl) ?_
            refine lv_sipush (v := 200) hx hb dB_3_0_21.2.1.2.1 (by decide) ?_
            refine lv_iadd hx hb dB_3_0_21.2.1.2.2 ?_
            refine lv_topi (fun y_93 ey_93 => ?_)
            have ty_93 : y_93.toInt = x1_47.toInt + (200 : Int32).toInt := by rw [ey_93]; exact addI (by omega) (by omega)
            have h_94 : vp_in y_93 6000 := in_I (by first | with_reducible assumption | omega) (by omega)
            refine va_iald hx hb hK.1 hP 9 0 rfl rfl (i := y_93) h_94 dB_3_0_21.2.2.1.1 ?_
            refine lv_topi (fun y_95 ey_95 => ?_)
            have ky_95 : y_95.toInt = (c_g14_47 y_93.toNatClampNeg).toInt := by rw [ey_95]
            have ry_95 : oc y_93.toNatClampNeg y_95.toInt := by rw [ey_95]; exact rc_g14_47 _ (in_lt h_94)
            unfold oc at ry_95
            have ky_95 := clI (i := y_93) (by omega)
            have h_96 : vp_in x1_47 6000 := in_I (by first | with_reducible assumption | omega) (by omega)
            refine va_iast hx hb hK.1 hP hD hS 9 0 rfl rfl (i := x1_47) h_96 dB_3_0_21.2.2.1.2 (fun H locs hP hD hS => ?_)
            obtain ⟨f_97, ef_97⟩ : ∃ g : Nat → Int32, g = upd c_g14_47 x1_47.toNatClampNeg y_95 := ⟨_, rfl⟩
            refine pd_K (D := D) (cl := vwCl) (H := H) (A := A) [ob12_0_ mo s0 s1 t2 s3 s4 g5 g6 g7 g8 g9 g10 s11 g12 g13 g14 g15 g16 g17 g18 g19 g20 s21 g22 g23 g24 s25 s26 s27 s28 g29 g30 g31 g32 g33, ai_ cy g5 40 f5, ai_ cy g6 40 f6, ai_ cy g7 40 f7, ai_ cy g8 40 f8, ai_ cy g9 40 f9, az_ cy g10 40 f10, ai_ cy g12 30 c_g12_45, ai_ cy g13 30 c_g13_45, ai_ cy g14 6000 f_97] (by rw [ef_97]; exact hP) (by rw [ef_97]; exact hD) (fun hP hD => ?_)
            have kf_97 := clI (i := x1_47) (by omega)
            have rf_97 : orng f_97 6000 := by rw [ef_97]; exact orng_upd rc_g14_47 (by unfold oc; omega)
            obtain ⟨y_98, ey_98⟩ : ∃ y : Int32, y = x1_47 + 1 := ⟨_, rfl⟩
            have ty_98 : y_98.toInt = x1_47.toInt + (1 : Int32).toInt := by rw [ey_98]; exact addI (by omega) (by omega)
            refine lv_iinc (v := y_98) (lv' := [(1, .int y_98), (0, .ref mo)]) hx hb dB_3_0_21.2.2.2.1 hl (k := 0) rfl (by rw [ey_98]; rfl) (by decide) rfl (fun ls hl => ?_)
            refine lv_goto (tgt := 53) hx hb dB_3_0_21.2.2.2.2 (by decide) ?_
            exact ih_47 y_98 f_97 _ _ _ (by omega) (by first | with_reducible assumption | omega | assumption) (by first | with_reducible assumption | omega | assumption) (by first | exact shf_0 | exact shf_st v2_47 ef_97 ey_95 (by omega) (by omega) (by omega)) (by first | with_reducible assumption | assumption | exact rng_zero (by omega) (by omega) | exact orng_zero) ⟨hP, hD⟩ hS (lv_sub hl [0, 1] rfl)
      · have t_46 : ¬ (29 : Int32).toInt ≤ x1_45.toInt := fun h => c_46 (Int32.le_iff_toInt_le.mpr h)
        refine lv_aload_n hx hb dB_3_0_19.2.1.1.2 rfl (lv_at hl 1 rfl) ?_
        refine va_get (ci := 12) (v := .ref g12) (C := RX12) (T := TX12) (N := 34) hx hb hts (fun _ h => List.mem_cons_of_mem _ (List.mem_append_right _ h)) hown hK.1 hP 0 rfl rfl 12 (by decide) (hts (.fieldLink RX12 29 "CutAtlasModel" "oldPlaces" "[I") (List.mem_of_getElem? (i := 2) rfl)) (fun _ h9 => h9) rfl dB_3_0_19.2.1.2.1 ?_
        refine lv_iload_n hx hb dB_3_0_19.2.1.2.2 rfl (lv_at hl 0 rfl) ?_
        refine lv_aload_n hx hb dB_3_0_19.2.2.1.1 rfl (lv_at hl 1 rfl) ?_
        refine va_get (ci := 12) (v := .ref g12) (C := RX12) (T := TX12) (N := 34) hx hb hts (fun _ h => List.mem_cons_of_mem _ (List.mem_append_right _ h)) hown hK.1 hP 0 rfl rfl 12 (by decide) (hts (.fieldLink RX12 29 "CutAtlasModel" "oldPlaces" "[I") (List.mem_of_getElem? (i := 2) rfl)) (fun _ h9 => h9) rfl dB_3_0_19.2.2.1.2 ?_
        refine lv_iload_n hx hb dB_3_0_19.2.2.2.1 rfl (lv_at hl 0 rfl) ?_
        refine lv_iconst (v := 1) hx hb dB_3_0_19.2.2.2.2 (by decide) ?_
        refine lv_iadd hx hb dB_3_0_20.1.1.1.1 ?_
        refine lv_topi (fun y_99 ey_99 => ?_)
        have ty_99 : y_99.toInt = x1_45.toInt + (1 : Int32).toInt := by rw [ey_99]; exact addI (by omega) (by omega)
        have h_100 : vp_in y_99 30 := in_I (by first | with_reducible assumption | omega) (by omega)
        refine va_iald hx hb hK.1 hP 7 0 rfl rfl (i := y_99) h_100 dB_3_0_20.1.1.1.2 ?_
        refine lv_topi (fun y_101 ey_101 => ?_)
        have ky_101 : y_101.toInt = (c_g12_45 y_99.toNatClampNeg).toInt := by rw [ey_101]
        have ry_101 : 0 ≤ y_101.toInt ∧ y_101.toInt ≤ 12 := by rw [ey_101]; exact rc_g12_45 _ (in_lt h_100)
        have h_102 : vp_in x1_45 30 := in_I (by first | with_reducible assumption | omega) (by omega)
        refine va_iast hx hb hK.1 hP hD hS 7 0 rfl rfl (i := x1_45) h_102 dB_3_0_20.1.1.2.1 (fun H locs hP hD hS => ?_)
        obtain ⟨f_103, ef_103⟩ : ∃ g : Nat → Int32, g = upd c_g12_45 x1_45.toNatClampNeg y_101 := ⟨_, rfl⟩
        refine pd_K (D := D) (cl := vwCl) (H := H) (A := A) [ob12_0_ mo s0 s1 t2 s3 s4 g5 g6 g7 g8 g9 g10 s11 g12 g13 g14 g15 g16 g17 g18 g19 g20 s21 g22 g23 g24 s25 s26 s27 s28 g29 g30 g31 g32 g33, ai_ cy g5 40 f5, ai_ cy g6 40 f6, ai_ cy g7 40 f7, ai_ cy g8 40 f8, ai_ cy g9 40 f9, az_ cy g10 40 f10, ai_ cy g12 30 f_103, ai_ cy g13 30 c_g13_45, ai_ cy g14 6000 f14] (by rw [ef_103]; exact hP) (by rw [ef_103]; exact hD) (fun hP hD => ?_)
        have rf_103 : rng f_103 30 (0) (12) := by rw [ef_103]; exact rng_upd rc_g12_45 (by omega) (by omega)
        refine lv_aload_n hx hb dB_3_0_20.1.1.2.2 rfl (lv_at hl 1 rfl) ?_
        refine va_get (ci := 12) (v := .ref g13) (C := RX12) (T := TX12) (N := 34) hx hb hts (fun _ h => List.mem_cons_of_mem _ (List.mem_append_right _ h)) hown hK.1 hP 0 rfl rfl 13 (by decide) (hts (.fieldLink RX12 32 "CutAtlasModel" "oldLines" "[I") (List.mem_of_getElem? (i := 3) rfl)) (fun _ h9 => h9) rfl dB_3_0_20.1.2.1.1 ?_
        refine lv_iload_n hx hb dB_3_0_20.1.2.1.2 rfl (lv_at hl 0 rfl) ?_
        refine lv_aload_n hx hb dB_3_0_20.1.2.2.1 rfl (lv_at hl 1 rfl) ?_
        refine va_get (ci := 12) (v := .ref g13) (C := RX12) (T := TX12) (N := 34) hx hb hts (fun _ h => List.mem_cons_of_mem _ (List.mem_append_right _ h)) hown hK.1 hP 0 rfl rfl 13 (by decide) (hts (.fieldLink RX12 32 "CutAtlasModel" "oldLines" "[I") (List.mem_of_getElem? (i := 3) rfl)) (fun _ h9 => h9) rfl dB_3_0_20.1.2.2.2 ?_
        refine lv_iload_n hx hb dB_3_0_20.2.1.1.1 rfl (lv_at hl 0 rfl) ?_
        refine lv_iconst (v := 1) hx hb dB_3_0_20.2.1.1.2 (by decide) ?_
        refine lv_iadd hx hb dB_3_0_20.2.1.2.1 ?_
        refine lv_topi (fun y_104 ey_104 => ?_)
        have e_ := (ey_104.trans ey_99.symm).symm
        subst e_
        refine va_iald hx hb hK.1 hP 8 0 rfl rfl (i := y_99) h_100 dB_3_0_20.2.1.2.2 ?_
        refine lv_topi (fun y_106 ey_106 => ?_)
        have ky_106 : y_106.toInt = (c_g13_45 y_99.toNatClampNeg).toInt := by rw [ey_106]
        have ry_106 : 0 ≤ y_106.toInt ∧ y_106.toInt ≤ 40 := by rw [ey_106]; exact rc_g13_45 _ (in_lt h_100)
        refine va_iast hx hb hK.1 hP hD hS 8 0 rfl rfl (i := x1_45) h_102 dB_3_0_20.2.2.1.1 (fun H locs hP hD hS => ?_)
        obtain ⟨f_108, ef_108⟩ : ∃ g : Nat → Int32, g = upd c_g13_45 x1_45.toNatClampNeg y_106 := ⟨_, rfl⟩
        refine pd_K (D := D) (cl := vwCl) (H := H) (A := A) [ob12_0_ mo s0 s1 t2 s3 s4 g5 g6 g7 g8 g9 g10 s11 g12 g13 g14 g15 g16 g17 g18 g19 g20 s21 g22 g23 g24 s25 s26 s27 s28 g29 g30 g31 g32 g33, ai_ cy g5 40 f5, ai_ cy g6 40 f6, ai_ cy g7 40 f7, ai_ cy g8 40 f8, ai_ cy g9 40 f9, az_ cy g10 40 f10, ai_ cy g12 30 f_103, ai_ cy g13 30 f_108, ai_ cy g14 6000 f14] (by rw [ef_108]; exact hP) (by rw [ef_108]; exact hD) (fun hP hD => ?_)
        have rf_108 : rng f_108 30 (0) (40) := by rw [ef_108]; exact rng_upd rc_g13_45 (by omega) (by omega)
        obtain ⟨y_109, ey_109⟩ : ∃ y : Int32, y = x1_45 + 1 := ⟨_, rfl⟩
        have ty_109 : y_109.toInt = x1_45.toInt + (1 : Int32).toInt := by rw [ey_109]; exact addI (by omega) (by omega)
        refine lv_iinc (v := y_109) (lv' := [(1, .int y_109), (0, .ref mo)]) hx hb dB_3_0_20.2.2.1.2 hl (k := 0) rfl (by rw [ey_109]; rfl) (by decide) rfl (fun ls hl => ?_)
        refine lv_goto (tgt := 11) hx hb dB_3_0_20.2.2.2.1 (by decide) ?_
        exact ih_45 y_109 f_103 f_108 _ _ _ (by omega) (by first | with_reducible assumption | omega | assumption) (by first | with_reducible assumption | omega | assumption) (by first | exact shf_0 | exact shf_st v2_45 ef_103 ey_101 (by omega) (by omega) (by omega)) (by first | exact shf_0 | exact shf_st v3_45 ef_108 ey_106 (by omega) (by omega) (by omega)) (by first | with_reducible assumption | assumption | exact rng_zero (by omega) (by omega) | exact orng_zero) (by first | with_reducible assumption | assumption | exact rng_zero (by omega) (by omega) | exact orng_zero) ⟨hP, hD⟩ hS (lv_sub hl [0, 1] rfl)
end

section
set_option maxHeartbeats 4000000 in
set_option maxRecDepth 100000 in
theorem c_X12_adds2 (l : Launch) (D : va_G) (cy : Nat → ClassId) (sz : Nat) (mo : Nat) (g5 : Nat) (g6 : Nat) (g7 : Nat) (g8 : Nat) (g9 : Nat) (g10 : Nat) (g12 : Nat) (g13 : Nat) (g14 : Nat) (g15 : Nat) (g16 : Nat) (g17 : Nat) (g18 : Nat) (g19 : Nat) (g20 : Nat) (g22 : Nat) (g23 : Nat) (g24 : Nat) (g29 : Nat) (g30 : Nat) (g31 : Nat) (g32 : Nat) (g33 : Nat) (s0 : Int32) (s1 : Int32) (s3 : Int32) (s4 : Int32) (s11 : Int32) (s21 : Int32) (s25 : Int32) (s26 : Int32) (s27 : Int32) (s28 : Int32) (t2 : Int64) (f5 : Nat → Int32) (f6 : Nat → Int32) (f7 : Nat → Int32) (f8 : Nat → Int32) (f9 : Nat → Int32) (f10 : Nat → Int32) (a1 : Int32) (a2 : Int32) (a3 : Int32) (a4 : Int32) (a5 : Int32) (hN : 0 ≤ s4.toInt ∧ s4.toInt < 40) (q2 : 0 ≤ a2.toInt ∧ a2.toInt ≤ 11) (q3 : 0 ≤ a3.toInt ∧ a3.toInt ≤ 11) (q4 : 0 ≤ a4.toInt ∧ a4.toInt ≤ 1000) (q5 : 0 ≤ a5.toInt ∧ a5.toInt ≤ 100) (r_f6 : rng f6 40 (0) (11)) (r_f7 : rng f7 40 (0) (11)) (r_f8 : rng f8 40 (0) (2000)) (r_f9 : rng f9 40 (0) (100)) : Met l yX12_adds wsX12_adds ({ frames := 0, cells := 0, slots := 0, locals := 0 }) (va_Pc [.ref mo, .int a1, .int a2, .int a3, .int a4, .int a5] (fun U => U.heap.size = sz ∧ va_P D vwCl [ob12_0_ mo s0 s1 t2 s3 s4 g5 g6 g7 g8 g9 g10 s11 g12 g13 g14 g15 g16 g17 g18 g19 g20 s21 g22 g23 g24 s25 s26 s27 s28 g29 g30 g31 g32 g33, ai_ cy g5 40 f5, ai_ cy g6 40 f6, ai_ cy g7 40 f7, ai_ cy g8 40 f8, ai_ cy g9 40 f9, az_ cy g10 40 f10] U.heap ∧ kk_ D cy U ∧ va_D (fun _ => True) [ob12_0_ mo s0 s1 t2 s3 s4 g5 g6 g7 g8 g9 g10 s11 g12 g13 g14 g15 g16 g17 g18 g19 g20 s21 g22 g23 g24 s25 s26 s27 s28 g29 g30 g31 g32 g33, ai_ cy g5 40 f5, ai_ cy g6 40 f6, ai_ cy g7 40 f7, ai_ cy g8 40 f8, ai_ cy g9 40 f9, az_ cy g10 40 f10])) (va_Qv (fun (_ : Unit) => True) (fun (_ : Unit) (t : State) => ∃ (n2 : Int64), ∃ (n4 : Int32), ∃ (e5 : Nat → Int32), ∃ (e6 : Nat → Int32), ∃ (e7 : Nat → Int32), ∃ (e8 : Nat → Int32), ∃ (e9 : Nat → Int32), ∃ (e10 : Nat → Int32), (n4.toInt = s4.toInt + 1) ∧ (e5 = upd f5 s4.toNatClampNeg a1) ∧ (e6 = upd f6 s4.toNatClampNeg a2) ∧ (e7 = upd f7 s4.toNatClampNeg a3) ∧ (a1.toInt = 4 ∧ e8 = upd f8 s4.toNatClampNeg 0 ∨ a1.toInt ≠ 4 ∧ e8 = upd f8 s4.toNatClampNeg a4) ∧ (e9 = upd f9 s4.toNatClampNeg a5) ∧ (e10 = upd f10 s4.toNatClampNeg (vp_nar .boolean 0)) ∧ (a1.toInt = 4 ∧ n2 = t2 + 1000000 ∨ a1.toInt ≠ 4 ∧ n2 = t2 + 0) ∧ (rng e6 40 (0) (11)) ∧ (rng e7 40 (0) (11)) ∧ (rng e8 40 (0) (2000)) ∧ (rng e9 40 (0) (100)) ∧ va_P D vwCl [ob12_0_ mo s0 s1 n2 s3 n4 g5 g6 g7 g8 g9 g10 s11 g12 g13 g14 g15 g16 g17 g18 g19 g20 s21 g22 g23 g24 s25 s26 s27 s28 g29 g30 g31 g32 g33, ai_ cy g5 40 e5, ai_ cy g6 40 e6, ai_ cy g7 40 e7, ai_ cy g8 40 e8, ai_ cy g9 40 e9, az_ cy g10 40 e10] t.heap ∧ va_D (va_A [ob12_0_ mo s0 s1 t2 s3 s4 g5 g6 g7 g8 g9 g10 s11 g12 g13 g14 g15 g16 g17 g18 g19 g20 s21 g22 g23 g24 s25 s26 s27 s28 g29 g30 g31 g32 g33, ai_ cy g5 40 f5, ai_ cy g6 40 f6, ai_ cy g7 40 f7, ai_ cy g8 40 f8, ai_ cy g9 40 f9, az_ cy g10 40 f10] sz) [ob12_0_ mo s0 s1 n2 s3 n4 g5 g6 g7 g8 g9 g10 s11 g12 g13 g14 g15 g16 g17 g18 g19 g20 s21 g22 g23 g24 s25 s26 s27 s28 g29 g30 g31 g32 g33, ai_ cy g5 40 e5, ai_ cy g6 40 e6, ai_ cy g7 40 e7, ai_ cy g8 40 e8, ai_ cy g9 40 e9, az_ cy g10 40 e10]) (va_A [ob12_0_ mo s0 s1 t2 s3 s4 g5 g6 g7 g8 g9 g10 s11 g12 g13 g14 g15 g16 g17 g18 g19 g20 s21 g22 g23 g24 s25 s26 s27 s28 g29 g30 g31 g32 g33, ai_ cy g5 40 f5, ai_ cy g6 40 f6, ai_ cy g7 40 f7, ai_ cy g8 40 f8, ai_ cy g9 40 f9, az_ cy g10 40 f10] sz)) 0 0 (va_A [ob12_0_ mo s0 s1 t2 s3 s4 g5 g6 g7 g8 g9 g10 s11 g12 g13 g14 g15 g16 g17 g18 g19 g20 s21 g22 g23 g24 s25 s26 s27 s28 g29 g30 g31 g32 g33, ai_ cy g5 40 f5, ai_ cy g6 40 f6, ai_ cy g7 40 f7, ai_ cy g8 40 f8, ai_ cy g9 40 f9, az_ cy g10 40 f10] sz) := by
  refine ofQ (cc := cX12_adds) (maxL := 6) (ret := none) (by decide) rfl ?_
  intro p e s m args below meth c s₁ Q hQ B hml hv
  obtain ⟨rfl, hsz, hP, hK, hD0⟩ := hv
  have hx := B.exec
  have hb := B.bytes
  have hr := B.returns
  have hts := atoms_spec (ws := wsX12_adds) B.pre
  have hown : s.vm.findClass RX12 = some m.cls := by have h_ := findClass_of_methodNamed B.named; exact h_
  have hlocks := B.notSynchronized
  subst hsz
  have hD := hD0.self (sz := s.heap.size)
  generalize hAe : va_A [ob12_0_ mo s0 s1 t2 s3 s4 g5 g6 g7 g8 g9 g10 s11 g12 g13 g14 g15 g16 g17 g18 g19 g20 s21 g22 g23 g24 s25 s26 s27 s28 g29 g30 g31 g32 g33, ai_ cy g5 40 f5, ai_ cy g6 40 f6, ai_ cy g7 40 f7, ai_ cy g8 40 f8, ai_ cy g9 40 f9, az_ cy g10 40 f10] s.heap.size = A at hD hQ
  have hA : ∀ q : Nat, s.heap.size ≤ q → A q := fun q h => by rw [← hAe]; exact Or.inr h
  have hS : va_S A s.heap s.heap [] := va_S.rf
  have hl := lv_entry ([.ref mo, .int a1, .int a2, .int a3, .int a4, .int a5]) (n := 6) (Nat.le_of_ble_eq_true rfl)
  rw [lg_entry_eq]
  generalize (lg_sl ([.ref mo, .int a1, .int a2, .int a3, .int a4, .int a5]) ++ List.replicate (6 - (lg_sl ([.ref mo, .int a1, .int a2, .int a3, .int a4, .int a5])).length) Slot.unset).toArray = ls at hl ⊢
  have hl : lv_has ls 6 [(0, .ref mo), (1, .int a1), (2, .int a2), (3, .int a3), (4, .int a4), (5, .int a5)] := hl
  have z0 : (0 : Int32).toInt = 0 := by decide
  have z1 : (1 : Int32).toInt = 1 := by decide
  have z4 : (4 : Int32).toInt = 4 := by decide
  refine lv_aload_n hx hb dB_3_0_0.1.1.1.1 rfl (lv_at hl 0 rfl) ?_
  refine va_get (ci := 12) (v := .ref g5) (C := RX12) (T := TX12) (N := 34) hx hb hts (fun _ h => List.mem_cons_of_mem _ (List.mem_append_right _ h)) hown hK.1 hP 0 rfl rfl 5 (by decide) (hts (.fieldLink RX12 7 "CutAtlasModel" "kind" "[I") (List.mem_of_getElem? (i := 1) rfl)) (fun _ h9 => h9) rfl dB_3_0_0.1.1.1.2 ?_
  refine lv_aload_n hx hb dB_3_0_0.1.1.2.1 rfl (lv_at hl 0 rfl) ?_
  refine va_get (ci := 12) (v := .int s4) (C := RX12) (T := TX12) (N := 34) hx hb hts (fun _ h => List.mem_cons_of_mem _ (List.mem_append_right _ h)) hown hK.1 hP 0 rfl rfl 4 (by decide) (hts (.fieldLink RX12 95 "CutAtlasModel" "lines" "I") (List.mem_of_getElem? (i := 2) rfl)) (fun _ h9 => h9) rfl dB_3_0_0.1.1.2.2 ?_
  refine lv_iload_n hx hb dB_3_0_0.1.2.1.1 rfl (lv_at hl 1 rfl) ?_
  have h_1 : vp_in s4 40 := in_I (by first | with_reducible assumption | omega) (by omega)
  refine va_iast hx hb hK.1 hP hD hS 1 0 rfl rfl (i := s4) h_1 dB_3_0_0.1.2.1.2 (fun H locs hP hD hS => ?_)
  obtain ⟨f_2, ef_2⟩ : ∃ g : Nat → Int32, g = upd f5 s4.toNatClampNeg a1 := ⟨_, rfl⟩
  refine pd_K (D := D) (cl := vwCl) (H := H) (A := A) [ob12_0_ mo s0 s1 t2 s3 s4 g5 g6 g7 g8 g9 g10 s11 g12 g13 g14 g15 g16 g17 g18 g19 g20 s21 g22 g23 g24 s25 s26 s27 s28 g29 g30 g31 g32 g33, ai_ cy g5 40 f_2, ai_ cy g6 40 f6, ai_ cy g7 40 f7, ai_ cy g8 40 f8, ai_ cy g9 40 f9, az_ cy g10 40 f10] (by rw [ef_2]; exact hP) (by rw [ef_2]; exact hD) (fun hP hD => ?_)
  refine lv_aload_n hx hb dB_3_0_0.1.2.2.1 rfl (lv_at hl 0 rfl) ?_
  refine va_get (ci := 12) (v := .ref g6) (C := RX12) (T := TX12) (N := 34) hx hb hts (fun _ h => List.mem_cons_of_mem _ (List.mem_append_right _ h)) hown hK.1 hP 0 rfl rfl 6 (by decide) (hts (.fieldLink RX12 13 "CutAtlasModel" "from" "[I") (List.mem_of_getElem? (i := 3) rfl)) (fun _ h9 => h9) rfl dB_3_0_0.1.2.2.2 ?_
  refine lv_aload_n hx hb dB_3_0_0.2.1.1.1 rfl (lv_at hl 0 rfl) ?_
  refine va_get (ci := 12) (v := .int s4) (C := RX12) (T := TX12) (N := 34) hx hb hts (fun _ h => List.mem_cons_of_mem _ (List.mem_append_right _ h)) hown hK.1 hP 0 rfl rfl 4 (by decide) (hts (.fieldLink RX12 95 "CutAtlasModel" "lines" "I") (List.mem_of_getElem? (i := 2) rfl)) (fun _ h9 => h9) rfl dB_3_0_0.2.1.1.2 ?_
  refine lv_iload_n hx hb dB_3_0_0.2.1.2.1 rfl (lv_at hl 2 rfl) ?_
  refine va_iast hx hb hK.1 hP hD hS 2 0 rfl rfl (i := s4) h_1 dB_3_0_0.2.1.2.2 (fun H locs hP hD hS => ?_)
  obtain ⟨f_4, ef_4⟩ : ∃ g : Nat → Int32, g = upd f6 s4.toNatClampNeg a2 := ⟨_, rfl⟩
  refine pd_K (D := D) (cl := vwCl) (H := H) (A := A) [ob12_0_ mo s0 s1 t2 s3 s4 g5 g6 g7 g8 g9 g10 s11 g12 g13 g14 g15 g16 g17 g18 g19 g20 s21 g22 g23 g24 s25 s26 s27 s28 g29 g30 g31 g32 g33, ai_ cy g5 40 f_2, ai_ cy g6 40 f_4, ai_ cy g7 40 f7, ai_ cy g8 40 f8, ai_ cy g9 40 f9, az_ cy g10 40 f10] (by rw [ef_4]; exact hP) (by rw [ef_4]; exact hD) (fun hP hD => ?_)
  have rf_4 : rng f_4 40 (0) (11) := by rw [ef_4]; exact rng_upd r_f6 (by omega) (by omega)
  refine lv_aload_n hx hb dB_3_0_0.2.2.1.1 rfl (lv_at hl 0 rfl) ?_
  refine va_get (ci := 12) (v := .ref g7) (C := RX12) (T := TX12) (N := 34) hx hb hts (fun _ h => List.mem_cons_of_mem _ (List.mem_append_right _ h)) hown hK.1 hP 0 rfl rfl 7 (by decide) (hts (.fieldLink RX12 16 "CutAtlasModel" "to" "[I") (List.mem_of_getElem? (i := 4) rfl)) (fun _ h9 => h9) rfl dB_3_0_0.2.2.1.2 ?_
  refine lv_aload_n hx hb dB_3_0_0.2.2.2.1 rfl (lv_at hl 0 rfl) ?_
  refine va_get (ci := 12) (v := .int s4) (C := RX12) (T := TX12) (N := 34) hx hb hts (fun _ h => List.mem_cons_of_mem _ (List.mem_append_right _ h)) hown hK.1 hP 0 rfl rfl 4 (by decide) (hts (.fieldLink RX12 95 "CutAtlasModel" "lines" "I") (List.mem_of_getElem? (i := 2) rfl)) (fun _ h9 => h9) rfl dB_3_0_0.2.2.2.2 ?_
  refine lv_iload_n hx hb dB_3_0_1.1.1.1.1 rfl (lv_at hl 3 rfl) ?_
  refine va_iast hx hb hK.1 hP hD hS 3 0 rfl rfl (i := s4) h_1 dB_3_0_1.1.1.1.2 (fun H locs hP hD hS => ?_)
  obtain ⟨f_6, ef_6⟩ : ∃ g : Nat → Int32, g = upd f7 s4.toNatClampNeg a3 := ⟨_, rfl⟩
  refine pd_K (D := D) (cl := vwCl) (H := H) (A := A) [ob12_0_ mo s0 s1 t2 s3 s4 g5 g6 g7 g8 g9 g10 s11 g12 g13 g14 g15 g16 g17 g18 g19 g20 s21 g22 g23 g24 s25 s26 s27 s28 g29 g30 g31 g32 g33, ai_ cy g5 40 f_2, ai_ cy g6 40 f_4, ai_ cy g7 40 f_6, ai_ cy g8 40 f8, ai_ cy g9 40 f9, az_ cy g10 40 f10] (by rw [ef_6]; exact hP) (by rw [ef_6]; exact hD) (fun hP hD => ?_)
  have rf_6 : rng f_6 40 (0) (11) := by rw [ef_6]; exact rng_upd r_f7 (by omega) (by omega)
  refine lv_aload_n hx hb dB_3_0_1.1.1.2.1 rfl (lv_at hl 0 rfl) ?_
  refine va_get (ci := 12) (v := .ref g8) (C := RX12) (T := TX12) (N := 34) hx hb hts (fun _ h => List.mem_cons_of_mem _ (List.mem_append_right _ h)) hown hK.1 hP 0 rfl rfl 8 (by decide) (hts (.fieldLink RX12 19 "CutAtlasModel" "width" "[I") (List.mem_of_getElem? (i := 5) rfl)) (fun _ h9 => h9) rfl dB_3_0_1.1.1.2.2 ?_
  refine lv_aload_n hx hb dB_3_0_1.1.2.1.1 rfl (lv_at hl 0 rfl) ?_
  refine va_get (ci := 12) (v := .int s4) (C := RX12) (T := TX12) (N := 34) hx hb hts (fun _ h => List.mem_cons_of_mem _ (List.mem_append_right _ h)) hown hK.1 hP 0 rfl rfl 4 (by decide) (hts (.fieldLink RX12 95 "CutAtlasModel" "lines" "I") (List.mem_of_getElem? (i := 2) rfl)) (fun _ h9 => h9) rfl dB_3_0_1.1.2.1.2 ?_
  refine lv_iload_n hx hb dB_3_0_1.1.2.2.1 rfl (lv_at hl 1 rfl) ?_
  refine lv_iconst (v := 4) hx hb dB_3_0_1.1.2.2.2 (by decide) ?_
  refine lv_icmp_ne (tgt := 47) hx hb dB_3_0_1.2.1.1.1 (by decide) (fun c_7 => ?_) (fun c_7 => ?_)
  · have t_7 : ¬ a1.toInt = (4 : Int32).toInt := fun h => c_7 (Int32.toInt_inj.mp h)
    refine lv_iload hx hb dB_3_0_1.2.1.2.2 (lv_at hl 4 rfl) ?_
    refine va_iast hx hb hK.1 hP hD hS 4 0 rfl rfl (i := s4) h_1 dB_3_0_1.2.2.1.1 (fun H locs hP hD hS => ?_)
    obtain ⟨f_9, ef_9⟩ : ∃ g : Nat → Int32, g = upd f8 s4.toNatClampNeg a4 := ⟨_, rfl⟩
    refine pd_K (D := D) (cl := vwCl) (H := H) (A := A) [ob12_0_ mo s0 s1 t2 s3 s4 g5 g6 g7 g8 g9 g10 s11 g12 g13 g14 g15 g16 g17 g18 g19 g20 s21 g22 g23 g24 s25 s26 s27 s28 g29 g30 g31 g32 g33, ai_ cy g5 40 f_2, ai_ cy g6 40 f_4, ai_ cy g7 40 f_6, ai_ cy g8 40 f_9, ai_ cy g9 40 f9, az_ cy g10 40 f10] (by rw [ef_9]; exact hP) (by rw [ef_9]; exact hD) (fun hP hD => ?_)
    have rf_9 : rng f_9 40 (0) (2000) := by rw [ef_9]; exact rng_upd r_f8 (by omega) (by omega)
    refine lv_aload_n hx hb dB_3_0_1.2.2.1.2 rfl (lv_at hl 0 rfl) ?_
    refine va_get (ci := 12) (v := .ref g9) (C := RX12) (T := TX12) (N := 34) hx hb hts (fun _ h => List.mem_cons_of_mem _ (List.mem_append_right _ h)) hown hK.1 hP 0 rfl rfl 9 (by decide) (hts (.fieldLink RX12 22 "CutAtlasModel" "price" "[I") (List.mem_of_getElem? (i := 6) rfl)) (fun _ h9 => h9) rfl dB_3_0_1.2.2.2.1 ?_
    refine lv_aload_n hx hb dB_3_0_1.2.2.2.2 rfl (lv_at hl 0 rfl) ?_
    refine va_get (ci := 12) (v := .int s4) (C := RX12) (T := TX12) (N := 34) hx hb hts (fun _ h => List.mem_cons_of_mem _ (List.mem_append_right _ h)) hown hK.1 hP 0 rfl rfl 4 (by decide) (hts (.fieldLink RX12 95 "CutAtlasModel" "lines" "I") (List.mem_of_getElem? (i := 2) rfl)) (fun _ h9 => h9) rfl dB_3_0_2.1.1.1.1 ?_
    refine lv_iload hx hb dB_3_0_2.1.1.1.2 (lv_at hl 5 rfl) ?_
    refine va_iast hx hb hK.1 hP hD hS 5 0 rfl rfl (i := s4) h_1 dB_3_0_2.1.1.2.1 (fun H locs hP hD hS => ?_)
    obtain ⟨f_11, ef_11⟩ : ∃ g : Nat → Int32, g = upd f9 s4.toNatClampNeg a5 := ⟨_, rfl⟩
    refine pd_K (D := D) (cl := vwCl) (H := H) (A := A) [ob12_0_ mo s0 s1 t2 s3 s4 g5 g6 g7 g8 g9 g10 s11 g12 g13 g14 g15 g16 g17 g18 g19 g20 s21 g22 g23 g24 s25 s26 s27 s28 g29 g30 g31 g32 g33, ai_ cy g5 40 f_2, ai_ cy g6 40 f_4, ai_ cy g7 40 f_6, ai_ cy g8 40 f_9, ai_ cy g9 40 f_11, az_ cy g10 40 f10] (by rw [ef_11]; exact hP) (by rw [ef_11]; exact hD) (fun hP hD => ?_)
    have rf_11 : rng f_11 40 (0) (100) := by rw [ef_11]; exact rng_upd r_f9 (by omega) (by omega)
    refine lv_aload_n hx hb dB_3_0_2.1.1.2.2 rfl (lv_at hl 0 rfl) ?_
    refine va_get (ci := 12) (v := .ref g10) (C := RX12) (T := TX12) (N := 34) hx hb hts (fun _ h => List.mem_cons_of_mem _ (List.mem_append_right _ h)) hown hK.1 hP 0 rfl rfl 10 (by decide) (hts (.fieldLink RX12 25 "CutAtlasModel" "isMissing" "[Z") (List.mem_of_getElem? (i := 7) rfl)) (fun _ h9 => h9) rfl dB_3_0_2.1.2.1.1 ?_
    refine lv_aload_n hx hb dB_3_0_2.1.2.1.2 rfl (lv_at hl 0 rfl) ?_
    refine va_get (ci := 12) (v := .int s4) (C := RX12) (T := TX12) (N := 34) hx hb hts (fun _ h => List.mem_cons_of_mem _ (List.mem_append_right _ h)) hown hK.1 hP 0 rfl rfl 4 (by decide) (hts (.fieldLink RX12 95 "CutAtlasModel" "lines" "I") (List.mem_of_getElem? (i := 2) rfl)) (fun _ h9 => h9) rfl dB_3_0_2.1.2.2.1 ?_
    refine lv_iconst (v := 0) hx hb dB_3_0_2.1.2.2.2 (by decide) ?_
    refine va_zast hx hb hK.1 hP hD hS 6 2 rfl rfl (i := s4) h_1 dB_3_0_2.2.1.1.1 (fun H locs hP hD hS => ?_)
    obtain ⟨f_13, ef_13⟩ : ∃ g : Nat → Int32, g = upd f10 s4.toNatClampNeg (vp_nar .boolean (0 : Int32)) := ⟨_, rfl⟩
    refine pd_K (D := D) (cl := vwCl) (H := H) (A := A) [ob12_0_ mo s0 s1 t2 s3 s4 g5 g6 g7 g8 g9 g10 s11 g12 g13 g14 g15 g16 g17 g18 g19 g20 s21 g22 g23 g24 s25 s26 s27 s28 g29 g30 g31 g32 g33, ai_ cy g5 40 f_2, ai_ cy g6 40 f_4, ai_ cy g7 40 f_6, ai_ cy g8 40 f_9, ai_ cy g9 40 f_11, az_ cy g10 40 f_13] (by rw [ef_13]; exact hP) (by rw [ef_13]; exact hD) (fun hP hD => ?_)
    refine lv_aload_n hx hb dB_3_0_2.2.1.1.2 rfl (lv_at hl 0 rfl) ?_
    refine lv_dup hx hb dB_3_0_2.2.1.2.1 rfl ?_
    refine va_get (ci := 12) (v := .long t2) (C := RX12) (T := TX12) (N := 34) hx hb hts (fun _ h => List.mem_cons_of_mem _ (List.mem_append_right _ h)) hown hK.1 hP 0 rfl rfl 2 (by decide) (hts (.fieldLink RX12 114 "CutAtlasModel" "trace" "J") (List.mem_of_getElem? (i := 8) rfl)) (fun _ h9 => h9) rfl dB_3_0_2.2.1.2.2 ?_
    refine lv_iload_n hx hb dB_3_0_2.2.2.1.1 rfl (lv_at hl 1 rfl) ?_
    refine lv_iconst (v := 4) hx hb dB_3_0_2.2.2.1.2 (by decide) ?_
    refine lv_icmp_ne (tgt := 87) hx hb dB_3_0_2.2.2.2.1 (by decide) (fun c_14 => ?_) (fun c_14 => ?_)
    · have t_14 : ¬ a1.toInt = (4 : Int32).toInt := fun h => c_14 (Int32.toInt_inj.mp h)
      refine lv_lconst (v := 0) hx hb dB_3_0_3.1.1.2 (by decide) ?_
      refine lv_ladd hx hb dB_3_0_3.1.2.1 ?_
      refine lv_topl (fun y_15 ey_15 => ?_)
      refine va_put (ci := 12) (v := .long y_15) (ty := .long) (C := RX12) (T := TX12) (N := 34) hx hb hts (fun _ h => List.mem_cons_of_mem _ (List.mem_append_right _ h)) tyX12 tyX12_ok nmX12 hown hK.1 hP hD hS 0 rfl rfl 2 (by decide) (hts (.fieldLink RX12 114 "CutAtlasModel" "trace" "J") (List.mem_of_getElem? (i := 8) rfl)) (fun _ h9 => h9) rfl (by decide +kernel) rfl rfl (Nat.le_of_ble_eq_true rfl) dB_3_0_3.1.2.2.1 (fun H locs hP hD hS => ?_)
      refine pd_K [ob12_0_ mo s0 s1 y_15 s3 s4 g5 g6 g7 g8 g9 g10 s11 g12 g13 g14 g15 g16 g17 g18 g19 g20 s21 g22 g23 g24 s25 s26 s27 s28 g29 g30 g31 g32 g33, ai_ cy g5 40 f_2, ai_ cy g6 40 f_4, ai_ cy g7 40 f_6, ai_ cy g8 40 f_9, ai_ cy g9 40 f_11, az_ cy g10 40 f_13] hP hD (fun hP hD => ?_)
      refine lv_aload_n hx hb dB_3_0_3.1.2.2.2 rfl (lv_at hl 0 rfl) ?_
      refine lv_dup hx hb dB_3_0_3.2.1.1 rfl ?_
      refine va_get (ci := 12) (v := .int s4) (C := RX12) (T := TX12) (N := 34) hx hb hts (fun _ h => List.mem_cons_of_mem _ (List.mem_append_right _ h)) hown hK.1 hP 0 rfl rfl 4 (by decide) (hts (.fieldLink RX12 95 "CutAtlasModel" "lines" "I") (List.mem_of_getElem? (i := 2) rfl)) (fun _ h9 => h9) rfl dB_3_0_3.2.1.2.1 ?_
      refine lv_iconst (v := 1) hx hb dB_3_0_3.2.1.2.2 (by decide) ?_
      refine lv_iadd hx hb dB_3_0_3.2.2.1 ?_
      refine lv_topi (fun y_16 ey_16 => ?_)
      have ty_16 : y_16.toInt = s4.toInt + (1 : Int32).toInt := by rw [ey_16]; exact addI (by omega) (by omega)
      refine va_put (ci := 12) (v := .int y_16) (ty := .int) (C := RX12) (T := TX12) (N := 34) hx hb hts (fun _ h => List.mem_cons_of_mem _ (List.mem_append_right _ h)) tyX12 tyX12_ok nmX12 hown hK.1 hP hD hS 0 rfl rfl 4 (by decide) (hts (.fieldLink RX12 95 "CutAtlasModel" "lines" "I") (List.mem_of_getElem? (i := 2) rfl)) (fun _ h9 => h9) rfl (by decide +kernel) rfl rfl (Nat.le_of_ble_eq_true rfl) dB_3_0_3.2.2.2.1 (fun H locs hP hD hS => ?_)
      refine pd_K [ob12_0_ mo s0 s1 y_15 s3 y_16 g5 g6 g7 g8 g9 g10 s11 g12 g13 g14 g15 g16 g17 g18 g19 g20 s21 g22 g23 g24 s25 s26 s27 s28 g29 g30 g31 g32 g33, ai_ cy g5 40 f_2, ai_ cy g6 40 f_4, ai_ cy g7 40 f_6, ai_ cy g8 40 f_9, ai_ cy g9 40 f_11, az_ cy g10 40 f_13] hP hD (fun hP hD => ?_)
      rw [hQ]
      exact W.vret hx hb hr (fun t ht hW => ⟨⟨(), rfl, trivial, y_15, y_16, f_2, f_4, f_6, f_9, f_11, f_13, (by first | with_reducible assumption | omega | assumption), (by first | with_reducible assumption | omega | assumption), (by first | with_reducible assumption | omega | assumption), (by first | with_reducible assumption | omega | assumption), (by first | exact Or.inl ⟨by omega, by assumption⟩ | exact Or.inr ⟨by omega, by assumption⟩), (by first | with_reducible assumption | omega | assumption), (by first | with_reducible assumption | omega | assumption), (by first | exact Or.inl ⟨by omega, by assumption⟩ | exact Or.inr ⟨by omega, by assumption⟩), (by first | with_reducible assumption | assumption | exact rng_zero (by omega) (by omega) | omega), (by first | with_reducible assumption | assumption | exact rng_zero (by omega) (by omega) | omega), (by first | with_reducible assumption | assumption | exact rng_zero (by omega) (by omega) | omega), (by first | with_reducible assumption | assumption | exact rng_zero (by omega) (by omega) | omega), by rw [ht]; exact hP, hD⟩, hS.F ht⟩) hS.2.2 dB_3_0_3.2.2.2.2
    · have t_14 : a1.toInt = (4 : Int32).toInt := congrArg Int32.toInt c_14
      refine lv_ldc2 (v := 1000000) hx hb hown (hts (.constantLong RX12 118 (1000000)) (List.mem_of_getElem? (i := 9) rfl)) dB_3_0_2.2.2.2.2 ?_
      refine lv_goto (tgt := 88) hx hb dB_3_0_3.1.1.1 (by decide) ?_
      refine lv_ladd hx hb dB_3_0_3.1.2.1 ?_
      refine lv_topl (fun y_17 ey_17 => ?_)
      refine va_put (ci := 12) (v := .long y_17) (ty := .long) (C := RX12) (T := TX12) (N := 34) hx hb hts (fun _ h => List.mem_cons_of_mem _ (List.mem_append_right _ h)) tyX12 tyX12_ok nmX12 hown hK.1 hP hD hS 0 rfl rfl 2 (by decide) (hts (.fieldLink RX12 114 "CutAtlasModel" "trace" "J") (List.mem_of_getElem? (i := 8) rfl)) (fun _ h9 => h9) rfl (by decide +kernel) rfl rfl (Nat.le_of_ble_eq_true rfl) dB_3_0_3.1.2.2.1 (fun H locs hP hD hS => ?_)
      refine pd_K [ob12_0_ mo s0 s1 y_17 s3 s4 g5 g6 g7 g8 g9 g10 s11 g12 g13 g14 g15 g16 g17 g18 g19 g20 s21 g22 g23 g24 s25 s26 s27 s28 g29 g30 g31 g32 g33, ai_ cy g5 40 f_2, ai_ cy g6 40 f_4, ai_ cy g7 40 f_6, ai_ cy g8 40 f_9, ai_ cy g9 40 f_11, az_ cy g10 40 f_13] hP hD (fun hP hD => ?_)
      refine lv_aload_n hx hb dB_3_0_3.1.2.2.2 rfl (lv_at hl 0 rfl) ?_
      refine lv_dup hx hb dB_3_0_3.2.1.1 rfl ?_
      refine va_get (ci := 12) (v := .int s4) (C := RX12) (T := TX12) (N := 34) hx hb hts (fun _ h => List.mem_cons_of_mem _ (List.mem_append_right _ h)) hown hK.1 hP 0 rfl rfl 4 (by decide) (hts (.fieldLink RX12 95 "CutAtlasModel" "lines" "I") (List.mem_of_getElem? (i := 2) rfl)) (fun _ h9 => h9) rfl dB_3_0_3.2.1.2.1 ?_
      refine lv_iconst (v := 1) hx hb dB_3_0_3.2.1.2.2 (by decide) ?_
      refine lv_iadd hx hb dB_3_0_3.2.2.1 ?_
      refine lv_topi (fun y_18 ey_18 => ?_)
      have ty_18 : y_18.toInt = s4.toInt + (1 : Int32).toInt := by rw [ey_18]; exact addI (by omega) (by omega)
      refine va_put (ci := 12) (v := .int y_18) (ty := .int) (C := RX12) (T := TX12) (N := 34) hx hb hts (fun _ h => List.mem_cons_of_mem _ (List.mem_append_right _ h)) tyX12 tyX12_ok nmX12 hown hK.1 hP hD hS 0 rfl rfl 4 (by decide) (hts (.fieldLink RX12 95 "CutAtlasModel" "lines" "I") (List.mem_of_getElem? (i := 2) rfl)) (fun _ h9 => h9) rfl (by decide +kernel) rfl rfl (Nat.le_of_ble_eq_true rfl) dB_3_0_3.2.2.2.1 (fun H locs hP hD hS => ?_)
      refine pd_K [ob12_0_ mo s0 s1 y_17 s3 y_18 g5 g6 g7 g8 g9 g10 s11 g12 g13 g14 g15 g16 g17 g18 g19 g20 s21 g22 g23 g24 s25 s26 s27 s28 g29 g30 g31 g32 g33, ai_ cy g5 40 f_2, ai_ cy g6 40 f_4, ai_ cy g7 40 f_6, ai_ cy g8 40 f_9, ai_ cy g9 40 f_11, az_ cy g10 40 f_13] hP hD (fun hP hD => ?_)
      rw [hQ]
      exact W.vret hx hb hr (fun t ht hW => ⟨⟨(), rfl, trivial, y_17, y_18, f_2, f_4, f_6, f_9, f_11, f_13, (by first | with_reducible assumption | omega | assumption), (by first | with_reducible assumption | omega | assumption), (by first | with_reducible assumption | omega | assumption), (by first | with_reducible assumption | omega | assumption), (by first | exact Or.inl ⟨by omega, by assumption⟩ | exact Or.inr ⟨by omega, by assumption⟩), (by first | with_reducible assumption | omega | assumption), (by first | with_reducible assumption | omega | assumption), (by first | exact Or.inl ⟨by omega, by assumption⟩ | exact Or.inr ⟨by omega, by assumption⟩), (by first | with_reducible assumption | assumption | exact rng_zero (by omega) (by omega) | omega), (by first | with_reducible assumption | assumption | exact rng_zero (by omega) (by omega) | omega), (by first | with_reducible assumption | assumption | exact rng_zero (by omega) (by omega) | omega), (by first | with_reducible assumption | assumption | exact rng_zero (by omega) (by omega) | omega), by rw [ht]; exact hP, hD⟩, hS.F ht⟩) hS.2.2 dB_3_0_3.2.2.2.2
  · have t_7 : a1.toInt = (4 : Int32).toInt := congrArg Int32.toInt c_7
    refine lv_iconst (v := 0) hx hb dB_3_0_1.2.1.1.2 (by decide) ?_
    refine lv_goto (tgt := 49) hx hb dB_3_0_1.2.1.2.1 (by decide) ?_
    refine va_iast hx hb hK.1 hP hD hS 4 0 rfl rfl (i := s4) h_1 dB_3_0_1.2.2.1.1 (fun H locs hP hD hS => ?_)
    obtain ⟨f_20, ef_20⟩ : ∃ g : Nat → Int32, g = upd f8 s4.toNatClampNeg (0 : Int32) := ⟨_, rfl⟩
    refine pd_K (D := D) (cl := vwCl) (H := H) (A := A) [ob12_0_ mo s0 s1 t2 s3 s4 g5 g6 g7 g8 g9 g10 s11 g12 g13 g14 g15 g16 g17 g18 g19 g20 s21 g22 g23 g24 s25 s26 s27 s28 g29 g30 g31 g32 g33, ai_ cy g5 40 f_2, ai_ cy g6 40 f_4, ai_ cy g7 40 f_6, ai_ cy g8 40 f_20, ai_ cy g9 40 f9, az_ cy g10 40 f10] (by rw [ef_20]; exact hP) (by rw [ef_20]; exact hD) (fun hP hD => ?_)
    have rf_20 : rng f_20 40 (0) (2000) := by rw [ef_20]; exact rng_upd r_f8 (by omega) (by omega)
    refine lv_aload_n hx hb dB_3_0_1.2.2.1.2 rfl (lv_at hl 0 rfl) ?_
    refine va_get (ci := 12) (v := .ref g9) (C := RX12) (T := TX12) (N := 34) hx hb hts (fun _ h => List.mem_cons_of_mem _ (List.mem_append_right _ h)) hown hK.1 hP 0 rfl rfl 9 (by decide) (hts (.fieldLink RX12 22 "CutAtlasModel" "price" "[I") (List.mem_of_getElem? (i := 6) rfl)) (fun _ h9 => h9) rfl dB_3_0_1.2.2.2.1 ?_
    refine lv_aload_n hx hb dB_3_0_1.2.2.2.2 rfl (lv_at hl 0 rfl) ?_
    refine va_get (ci := 12) (v := .int s4) (C := RX12) (T := TX12) (N := 34) hx hb hts (fun _ h => List.mem_cons_of_mem _ (List.mem_append_right _ h)) hown hK.1 hP 0 rfl rfl 4 (by decide) (hts (.fieldLink RX12 95 "CutAtlasModel" "lines" "I") (List.mem_of_getElem? (i := 2) rfl)) (fun _ h9 => h9) rfl dB_3_0_2.1.1.1.1 ?_
    refine lv_iload hx hb dB_3_0_2.1.1.1.2 (lv_at hl 5 rfl) ?_
    refine va_iast hx hb hK.1 hP hD hS 5 0 rfl rfl (i := s4) h_1 dB_3_0_2.1.1.2.1 (fun H locs hP hD hS => ?_)
    obtain ⟨f_22, ef_22⟩ : ∃ g : Nat → Int32, g = upd f9 s4.toNatClampNeg a5 := ⟨_, rfl⟩
    refine pd_K (D := D) (cl := vwCl) (H := H) (A := A) [ob12_0_ mo s0 s1 t2 s3 s4 g5 g6 g7 g8 g9 g10 s11 g12 g13 g14 g15 g16 g17 g18 g19 g20 s21 g22 g23 g24 s25 s26 s27 s28 g29 g30 g31 g32 g33, ai_ cy g5 40 f_2, ai_ cy g6 40 f_4, ai_ cy g7 40 f_6, ai_ cy g8 40 f_20, ai_ cy g9 40 f_22, az_ cy g10 40 f10] (by rw [ef_22]; exact hP) (by rw [ef_22]; exact hD) (fun hP hD => ?_)
    have rf_22 : rng f_22 40 (0) (100) := by rw [ef_22]; exact rng_upd r_f9 (by omega) (by omega)
    refine lv_aload_n hx hb dB_3_0_2.1.1.2.2 rfl (lv_at hl 0 rfl) ?_
    refine va_get (ci := 12) (v := .ref g10) (C := RX12) (T := TX12) (N := 34) hx hb hts (fun _ h => List.mem_cons_of_mem _ (List.mem_append_right _ h)) hown hK.1 hP 0 rfl rfl 10 (by decide) (hts (.fieldLink RX12 25 "CutAtlasModel" "isMissing" "[Z") (List.mem_of_getElem? (i := 7) rfl)) (fun _ h9 => h9) rfl dB_3_0_2.1.2.1.1 ?_
    refine lv_aload_n hx hb dB_3_0_2.1.2.1.2 rfl (lv_at hl 0 rfl) ?_
    refine va_get (ci := 12) (v := .int s4) (C := RX12) (T := TX12) (N := 34) hx hb hts (fun _ h => List.mem_cons_of_mem _ (List.mem_append_right _ h)) hown hK.1 hP 0 rfl rfl 4 (by decide) (hts (.fieldLink RX12 95 "CutAtlasModel" "lines" "I") (List.mem_of_getElem? (i := 2) rfl)) (fun _ h9 => h9) rfl dB_3_0_2.1.2.2.1 ?_
    refine lv_iconst (v := 0) hx hb dB_3_0_2.1.2.2.2 (by decide) ?_
    refine va_zast hx hb hK.1 hP hD hS 6 2 rfl rfl (i := s4) h_1 dB_3_0_2.2.1.1.1 (fun H locs hP hD hS => ?_)
    obtain ⟨f_24, ef_24⟩ : ∃ g : Nat → Int32, g = upd f10 s4.toNatClampNeg (vp_nar .boolean (0 : Int32)) := ⟨_, rfl⟩
    refine pd_K (D := D) (cl := vwCl) (H := H) (A := A) [ob12_0_ mo s0 s1 t2 s3 s4 g5 g6 g7 g8 g9 g10 s11 g12 g13 g14 g15 g16 g17 g18 g19 g20 s21 g22 g23 g24 s25 s26 s27 s28 g29 g30 g31 g32 g33, ai_ cy g5 40 f_2, ai_ cy g6 40 f_4, ai_ cy g7 40 f_6, ai_ cy g8 40 f_20, ai_ cy g9 40 f_22, az_ cy g10 40 f_24] (by rw [ef_24]; exact hP) (by rw [ef_24]; exact hD) (fun hP hD => ?_)
    refine lv_aload_n hx hb dB_3_0_2.2.1.1.2 rfl (lv_at hl 0 rfl) ?_
    refine lv_dup hx hb dB_3_0_2.2.1.2.1 rfl ?_
    refine va_get (ci := 12) (v := .long t2) (C := RX12) (T := TX12) (N := 34) hx hb hts (fun _ h => List.mem_cons_of_mem _ (List.mem_append_right _ h)) hown hK.1 hP 0 rfl rfl 2 (by decide) (hts (.fieldLink RX12 114 "CutAtlasModel" "trace" "J") (List.mem_of_getElem? (i := 8) rfl)) (fun _ h9 => h9) rfl dB_3_0_2.2.1.2.2 ?_
    refine lv_iload_n hx hb dB_3_0_2.2.2.1.1 rfl (lv_at hl 1 rfl) ?_
    refine lv_iconst (v := 4) hx hb dB_3_0_2.2.2.1.2 (by decide) ?_
    refine lv_icmp_ne (tgt := 87) hx hb dB_3_0_2.2.2.2.1 (by decide) (fun c_25 => ?_) (fun c_25 => ?_)
    · have t_25 : ¬ a1.toInt = (4 : Int32).toInt := fun h => c_25 (Int32.toInt_inj.mp h)
      exfalso; omega
    · have t_25 : a1.toInt = (4 : Int32).toInt := congrArg Int32.toInt c_25
      refine lv_ldc2 (v := 1000000) hx hb hown (hts (.constantLong RX12 118 (1000000)) (List.mem_of_getElem? (i := 9) rfl)) dB_3_0_2.2.2.2.2 ?_
      refine lv_goto (tgt := 88) hx hb dB_3_0_3.1.1.1 (by decide) ?_
      refine lv_ladd hx hb dB_3_0_3.1.2.1 ?_
      refine lv_topl (fun y_26 ey_26 => ?_)
      refine va_put (ci := 12) (v := .long y_26) (ty := .long) (C := RX12) (T := TX12) (N := 34) hx hb hts (fun _ h => List.mem_cons_of_mem _ (List.mem_append_right _ h)) tyX12 tyX12_ok nmX12 hown hK.1 hP hD hS 0 rfl rfl 2 (by decide) (hts (.fieldLink RX12 114 "CutAtlasModel" "trace" "J") (List.mem_of_getElem? (i := 8) rfl)) (fun _ h9 => h9) rfl (by decide +kernel) rfl rfl (Nat.le_of_ble_eq_true rfl) dB_3_0_3.1.2.2.1 (fun H locs hP hD hS => ?_)
      refine pd_K [ob12_0_ mo s0 s1 y_26 s3 s4 g5 g6 g7 g8 g9 g10 s11 g12 g13 g14 g15 g16 g17 g18 g19 g20 s21 g22 g23 g24 s25 s26 s27 s28 g29 g30 g31 g32 g33, ai_ cy g5 40 f_2, ai_ cy g6 40 f_4, ai_ cy g7 40 f_6, ai_ cy g8 40 f_20, ai_ cy g9 40 f_22, az_ cy g10 40 f_24] hP hD (fun hP hD => ?_)
      refine lv_aload_n hx hb dB_3_0_3.1.2.2.2 rfl (lv_at hl 0 rfl) ?_
      refine lv_dup hx hb dB_3_0_3.2.1.1 rfl ?_
      refine va_get (ci := 12) (v := .int s4) (C := RX12) (T := TX12) (N := 34) hx hb hts (fun _ h => List.mem_cons_of_mem _ (List.mem_append_right _ h)) hown hK.1 hP 0 rfl rfl 4 (by decide) (hts (.fieldLink RX12 95 "CutAtlasModel" "lines" "I") (List.mem_of_getElem? (i := 2) rfl)) (fun _ h9 => h9) rfl dB_3_0_3.2.1.2.1 ?_
      refine lv_iconst (v := 1) hx hb dB_3_0_3.2.1.2.2 (by decide) ?_
      refine lv_iadd hx hb dB_3_0_3.2.2.1 ?_
      refine lv_topi (fun y_27 ey_27 => ?_)
      have ty_27 : y_27.toInt = s4.toInt + (1 : Int32).toInt := by rw [ey_27]; exact addI (by omega) (by omega)
      refine va_put (ci := 12) (v := .int y_27) (ty := .int) (C := RX12) (T := TX12) (N := 34) hx hb hts (fun _ h => List.mem_cons_of_mem _ (List.mem_append_right _ h)) tyX12 tyX12_ok nmX12 hown hK.1 hP hD hS 0 rfl rfl 4 (by decide) (hts (.fieldLink RX12 95 "CutAtlasModel" "lines" "I") (List.mem_of_getElem? (i := 2) rfl)) (fun _ h9 => h9) rfl (by decide +kernel) rfl rfl (Nat.le_of_ble_eq_true rfl) dB_3_0_3.2.2.2.1 (fun H locs hP hD hS => ?_)
      refine pd_K [ob12_0_ mo s0 s1 y_26 s3 y_27 g5 g6 g7 g8 g9 g10 s11 g12 g13 g14 g15 g16 g17 g18 g19 g20 s21 g22 g23 g24 s25 s26 s27 s28 g29 g30 g31 g32 g33, ai_ cy g5 40 f_2, ai_ cy g6 40 f_4, ai_ cy g7 40 f_6, ai_ cy g8 40 f_20, ai_ cy g9 40 f_22, az_ cy g10 40 f_24] hP hD (fun hP hD => ?_)
      rw [hQ]
      exact W.vret hx hb hr (fun t ht hW => ⟨⟨(), rfl, trivial, y_26, y_27, f_2, f_4, f_6, f_20, f_22, f_24, (by first | with_reducible assumption | omega | assumption), (by first | with_reducible assumption | omega | assumption), (by first | with_reducible assumption | omega | assumption), (by first | with_reducible assumption | omega | assumption), (by first | exact Or.inl ⟨by omega, by assumption⟩ | exact Or.inr ⟨by omega, by assumption⟩), (by first | with_reducible assumption | omega | assumption), (by first | with_reducible assumption | omega | assumption), (by first | exact Or.inl ⟨by omega, by assumption⟩ | exact Or.inr ⟨by omega, by assumption⟩), (by first | with_reducible assumption | assumption | exact rng_zero (by omega) (by omega) | omega), (by first | with_reducible assumption | assumption | exact rng_zero (by omega) (by omega) | omega), (by first | with_reducible assumption | assumption | exact rng_zero (by omega) (by omega) | omega), (by first | with_reducible assumption | assumption | exact rng_zero (by omega) (by omega) | omega), by rw [ht]; exact hP, hD⟩, hS.F ht⟩) hS.2.2 dB_3_0_3.2.2.2.2
end

section
/-! ===== the nets that are remembered: made one by one, used again ===== -/
/-- the six cells of the k-th -/
noncomputable def pnet (cy : Nat → ClassId) (pa : Nat → Nat → Nat) (pv : Nat → Nat → Int32) (pg : Nat → Nat → Nat → Int32) (k : Nat) : va_W := [(pa k 0, .inr (3, [.int (pv k 0), .int (pv k 1), .ref (pa k 1), .ref (pa k 2), .ref (pa k 3), .ref (pa k 4), .ref (pa k 5)])), (pa k 1, .inl (cy 0, 40, .inl (pg k 1))), (pa k 2, .inl (cy 0, 40, .inl (pg k 2))), (pa k 3, .inl (cy 0, 40, .inl (pg k 3))), (pa k 4, .inl (cy 0, 40, .inl (pg k 4))), (pa k 5, .inl (cy 0, 40, .inl (pg k 5)))]
/-- those from k on, n of them -/
noncomputable def pls (cy : Nat → ClassId) (pa : Nat → Nat → Nat) (pv : Nat → Nat → Int32) (pg : Nat → Nat → Nat → Int32) : Nat → Nat → va_W
  | _, 0 => []
  | k, n + 1 => pnet cy pa pv pg k ++ pls cy pa pv pg (k + 1) n
noncomputable def pool (cy : Nat → ClassId) (pa : Nat → Nat → Nat) (pv : Nat → Nat → Int32) (pg : Nat → Nat → Nat → Int32) (m : Nat) : va_W := pls cy pa pv pg 0 m
/-- all but the k-th -/
noncomputable def prest (cy : Nat → ClassId) (pa : Nat → Nat → Nat) (pv : Nat → Nat → Int32) (pg : Nat → Nat → Nat → Int32) (m k : Nat) : va_W := pls cy pa pv pg (k + 1) (m - k - 1) ++ pls cy pa pv pg 0 k
section POOL
variable {cy : Nat → ClassId} {pa pa2 : Nat → Nat → Nat} {pv pv2 : Nat → Nat → Int32} {pg pg2 : Nat → Nat → Nat → Int32} {X : va_W} {D : va_G} {cl : List vw_C} {H : Heap} {A : Nat → Prop}
theorem pls_app : ∀ (a b k : Nat), pls cy pa pv pg k (a + b) = pls cy pa pv pg k a ++ pls cy pa pv pg (k + a) b
  | 0, b, k => by
    rw [Nat.zero_add]
    rfl
  | a + 1, b, k => by
    rw [show a + 1 + b = (a + b) + 1 by omega]
    show pnet cy pa pv pg k ++ pls cy pa pv pg (k + 1) (a + b) = (pnet cy pa pv pg k ++ pls cy pa pv pg (k + 1) a) ++ pls cy pa pv pg (k + (a + 1)) b
    rw [pls_app a b (k + 1), List.append_assoc, show k + 1 + a = k + (a + 1) by omega]
theorem pls_cg : ∀ (n k : Nat), (∀ i : Nat, k ≤ i → i < k + n → pa2 i = pa i ∧ pv2 i = pv i ∧ pg2 i = pg i) → pls cy pa2 pv2 pg2 k n = pls cy pa pv pg k n
  | 0, _, _ => rfl
  | n + 1, k, h => by
    show pnet cy pa2 pv2 pg2 k ++ pls cy pa2 pv2 pg2 (k + 1) n = pnet cy pa pv pg k ++ pls cy pa pv pg (k + 1) n
    rw [pls_cg n (k + 1) (fun i h1 h2 => h i (by omega) (by omega))]
    have a := h k (by omega) (by omega)
    unfold pnet
    rw [a.1, a.2.1, a.2.2]
theorem pool_split {m k : Nat} (hk : k < m) : pool cy pa pv pg m = pls cy pa pv pg 0 k ++ (pnet cy pa pv pg k ++ pls cy pa pv pg (k + 1) (m - k - 1)) := by
  have e : m = k + (m - k) := by omega
  unfold pool
  rw [e, pls_app k (m - k) 0, Nat.zero_add, ← e]
  have e2 : m - k = (m - k - 1) + 1 := by omega
  rw [e2]
  rfl
theorem foc_P {m k : Nat} (hk : k < m) (h : va_P D cl (X ++ pool cy pa pv pg m) H) : va_P D cl ((X ++ pnet cy pa pv pg k) ++ prest cy pa pv pg m k) H := by
  rw [pool_split hk, ← List.append_assoc] at h
  have h2 := h.swap
  unfold prest
  rw [List.append_assoc, ← List.append_assoc (pnet cy pa pv pg k), ← List.append_assoc]
  exact h2
theorem foc_D {m k : Nat} (hk : k < m) (h : va_D A (X ++ pool cy pa pv pg m)) : va_D A ((X ++ pnet cy pa pv pg k) ++ prest cy pa pv pg m k) := by
  rw [pool_split hk, ← List.append_assoc] at h
  have h2 := h.swap
  unfold prest
  rw [List.append_assoc, ← List.append_assoc (pnet cy pa pv pg k), ← List.append_assoc]
  exact h2
theorem unf_P {m k : Nat} (hk : k < m) (hc : ∀ i : Nat, i ≠ k → pv2 i = pv i ∧ pg2 i = pg i) (h : va_P D cl ((X ++ pnet cy pa pv2 pg2 k) ++ prest cy pa pv pg m k) H) : va_P D cl (X ++ pool cy pa pv2 pg2 m) H := by
  have e : prest cy pa pv pg m k = prest cy pa pv2 pg2 m k := by
    unfold prest
    rw [pls_cg (m - k - 1) (k + 1) (pa2 := pa) (pv2 := pv2) (pg2 := pg2) (fun i h1 h2 => ⟨rfl, hc i (by omega)⟩), pls_cg k 0 (pa2 := pa) (pv2 := pv2) (pg2 := pg2) (fun i h1 h2 => ⟨rfl, hc i (by omega)⟩)]
  rw [e] at h
  unfold prest at h
  rw [List.append_assoc, ← List.append_assoc (pnet cy pa pv2 pg2 k), ← List.append_assoc] at h
  have h2 := h.swap
  rw [pool_split hk, ← List.append_assoc]
  exact h2
theorem unf_D {m k : Nat} (hk : k < m) (hc : ∀ i : Nat, i ≠ k → pv2 i = pv i ∧ pg2 i = pg i) (h : va_D A ((X ++ pnet cy pa pv2 pg2 k) ++ prest cy pa pv pg m k)) : va_D A (X ++ pool cy pa pv2 pg2 m) := by
  have e : prest cy pa pv pg m k = prest cy pa pv2 pg2 m k := by
    unfold prest
    rw [pls_cg (m - k - 1) (k + 1) (pa2 := pa) (pv2 := pv2) (pg2 := pg2) (fun i h1 h2 => ⟨rfl, hc i (by omega)⟩), pls_cg k 0 (pa2 := pa) (pv2 := pv2) (pg2 := pg2) (fun i h1 h2 => ⟨rfl, hc i (by omega)⟩)]
  rw [e] at h
  unfold prest at h
  rw [List.append_assoc, ← List.append_assoc (pnet cy pa pv2 pg2 k), ← List.append_assoc] at h
  have h2 := h.swap
  rw [pool_split hk, ← List.append_assoc]
  exact h2
theorem pool_more {m : Nat} (hc : ∀ i : Nat, i < m → pa2 i = pa i ∧ pv2 i = pv i ∧ pg2 i = pg i) : pool cy pa2 pv2 pg2 (m + 1) = pool cy pa pv pg m ++ pnet cy pa2 pv2 pg2 m := by
  unfold pool
  rw [pls_app m 1 0, pls_cg m 0 (fun i h1 h2 => hc i (by omega)), Nat.zero_add]
  show _ ++ (pnet cy pa2 pv2 pg2 m ++ []) = _
  rw [List.append_nil]
theorem more_P {m : Nat} (hc : ∀ i : Nat, i < m → pa2 i = pa i ∧ pv2 i = pv i ∧ pg2 i = pg i) (h : va_P D cl ((X ++ pnet cy pa2 pv2 pg2 m) ++ pool cy pa pv pg m) H) : va_P D cl (X ++ pool cy pa2 pv2 pg2 (m + 1)) H := by
  rw [pool_more hc, ← List.append_assoc]
  exact h.swap
theorem more_D {m : Nat} (hc : ∀ i : Nat, i < m → pa2 i = pa i ∧ pv2 i = pv i ∧ pg2 i = pg i) (h : va_D A ((X ++ pnet cy pa2 pv2 pg2 m) ++ pool cy pa pv pg m)) : va_D A (X ++ pool cy pa2 pv2 pg2 (m + 1)) := by
  rw [pool_more hc, ← List.append_assoc]
  exact h.swap
end POOL
/-- the row of the nets that are remembered -/
noncomputable def pst (pa : Nat → Nat → Nat) (m : Nat) : Nat → Option Nat := fun k => if k < m then some (pa k 0) else none
theorem pst_some {pa : Nat → Nat → Nat} {m k : Nat} (h : k < m) : va_rf (pst pa m k) = .ref (pa k 0) := by
  unfold pst
  rw [if_pos h]
  rfl
theorem pst_none {pa : Nat → Nat → Nat} {m k : Nat} (h : ¬ k < m) : va_rf (pst pa m k) = .null := by
  unfold pst
  rw [if_neg h]
  rfl
theorem pst_more {pa pa2 : Nat → Nat → Nat} {m k q : Nat} (ek : k = m) (hq : pa2 m 0 = q) (hc : ∀ i : Nat, i < m → pa2 i = pa i) : va_up (pst pa m) k (some q) = pst pa2 (m + 1) := by
  subst ek
  funext i
  unfold pst
  by_cases e : i = k
  · subst e
    rw [va_up_self, if_pos (by omega), hq]
  · rw [va_up_ne _ _ e]
    show (if i < k then some (pa i 0) else none) = if i < k + 1 then some (pa2 i 0) else none
    by_cases h : i < k
    · rw [if_pos h, if_pos (by omega), hc i h]
    · rw [if_neg h, if_neg (by omega)]
/-- a net's numbers are as they may be -/
noncomputable def nok (vp vn : Int32) (fk fs fe fw fp : Nat → Int32) : Prop := (0 ≤ vp.toInt ∧ vp.toInt ≤ 12) ∧ (0 ≤ vn.toInt ∧ vn.toInt ≤ 40) ∧ rng fk 40 0 4 ∧ prng fs fe 40 ∧ rng fw 40 0 2000 ∧ rng fp 40 0 100
noncomputable def pok (pv : Nat → Nat → Int32) (pg : Nat → Nat → Nat → Int32) (m : Nat) : Prop := ∀ k : Nat, k < m → nok (pv k 0) (pv k 1) (pg k 1) (pg k 2) (pg k 3) (pg k 4) (pg k 5)
/-- first and held of the ring, and how many are made -/
noncomputable def rok (pf ph : Int32) (m : Nat) : Prop := (0 ≤ pf.toInt ∧ pf.toInt ≤ 29) ∧ (0 ≤ ph.toInt ∧ ph.toInt ≤ 30) ∧ m ≤ 30 ∧ ph.toInt ≤ m ∧ (pf.toInt = 0 ∨ m = 30)
noncomputable def qn2 (a b : Int32) : Nat → Int32 := fun i => if i = 0 then a else b
noncomputable def qn5 (f1 f2 f3 f4 f5 : Nat → Int32) : Nat → Nat → Int32 := fun i => if i = 1 then f1 else if i = 2 then f2 else if i = 3 then f3 else if i = 4 then f4 else f5
noncomputable def qn6 (a b c d e f : Nat) : Nat → Nat := fun i => if i = 0 then a else if i = 1 then b else if i = 2 then c else if i = 3 then d else if i = 4 then e else f
theorem pok_st {pv : Nat → Nat → Int32} {pg : Nat → Nat → Nat → Int32} {m m2 k : Nat} {vp vn : Int32} {f1 f2 f3 f4 f5 : Nat → Int32} (h : pok pv pg m) (hm : m2 ≤ m ∨ (m2 = m + 1 ∧ k = m)) (hn : nok vp vn f1 f2 f3 f4 f5) : pok (va_up pv k (qn2 vp vn)) (va_up pg k (qn5 f1 f2 f3 f4 f5)) m2 := fun j hj => by
  by_cases e : j = k
  · subst e
    rw [va_up_self, va_up_self]
    exact hn
  · rw [va_up_ne _ _ e, va_up_ne _ _ e]
    exact h j (by omega)
theorem prng_zero {n : Nat} : prng (fun _ => 0) (fun _ => 0) n := fun j _ => by
  have z : (0 : Int32).toInt = 0 := by decide
  show (0 : Int32).toInt = -9 ∨ (0 ≤ (0 : Int32).toInt ∧ (0 : Int32).toInt ≤ 11 ∧ 0 ≤ (0 : Int32).toInt ∧ (0 : Int32).toInt ≤ 11)
  omega
theorem rem30 {x : Int32} (h : 0 ≤ x.toInt) : (x - x / 30 * 30).toInt = x.toInt % 30 := by
  obtain ⟨j, hj, rfl⟩ := nI_of (x := x) (fun h9 => by
    have := Int32.lt_iff_toInt_lt.mp h9
    have z : (0 : Int32).toInt = 0 := by decide
    omega)
  have e : (30 : Int32) = nI 30 := rfl
  rw [e, pk_rem hj (by decide) (by decide), nI_toInt (by omega), nI_toInt hj]
  omega

set_option maxHeartbeats 4000000 in
set_option maxRecDepth 100000 in
theorem c_X3_init (l : Launch) (D : va_G) (cy : Nat → ClassId) (sz : Nat) (h0 : Nat) : Met l yX3_init wsX3_init ({ frames := 1, cells := 5, slots := 200, locals := 12 }) (va_Pc [.ref h0] (fun U => U.heap.size = sz ∧ va_P D vwCl [ob3_1_ h0 0 0] U.heap ∧ kk_ D cy U ∧ va_D (fun _ => True) [ob3_1_ h0 0 0])) (va_Qv (fun (_ : Unit) => True) (fun (_ : Unit) (t : State) => ∃ (n1 : Nat), ∃ (n2 : Nat), ∃ (n3 : Nat), ∃ (n4 : Nat), ∃ (n5 : Nat), va_P D vwCl [ob3_0_ h0 0 0 n1 n2 n3 n4 n5, ai_ cy n1 40 (fun _ => 0), ai_ cy n2 40 (fun _ => 0), ai_ cy n3 40 (fun _ => 0), ai_ cy n4 40 (fun _ => 0), ai_ cy n5 40 (fun _ => 0)] t.heap ∧ va_D (va_A [ob3_1_ h0 0 0] sz) [ob3_0_ h0 0 0 n1 n2 n3 n4 n5, ai_ cy n1 40 (fun _ => 0), ai_ cy n2 40 (fun _ => 0), ai_ cy n3 40 (fun _ => 0), ai_ cy n4 40 (fun _ => 0), ai_ cy n5 40 (fun _ => 0)]) (va_A [ob3_1_ h0 0 0] sz)) 5 200 (va_A [ob3_1_ h0 0 0] sz) := by
  refine ofQ (cc := cX3_init) (maxL := 1) (ret := none) (by decide) rfl ?_
  intro p e s m args below meth c s₁ Q hQ B hml hv
  obtain ⟨rfl, hsz, hP, hK, hD0⟩ := hv
  have hx := B.exec
  have hb := B.bytes
  have hr := B.returns
  have hts := atoms_spec (ws := wsX3_init) B.pre
  have hown : s.vm.findClass RX3 = some m.cls := by have h_ := findClass_of_methodNamed B.named; exact h_
  have hlocks := B.notSynchronized
  have hin : meth.name = "<init>" := (name_of_methodNamed B.named B.method).1
  subst hsz
  have hD := hD0.self (sz := s.heap.size)
  generalize hAe : va_A [ob3_1_ h0 0 0] s.heap.size = A at hD hQ
  have hA : ∀ q : Nat, s.heap.size ≤ q → A q := fun q h => by rw [← hAe]; exact Or.inr h
  have hS : va_S A s.heap s.heap [] := va_S.rf
  have hl := lv_entry ([.ref h0]) (n := 1) (Nat.le_of_ble_eq_true rfl)
  rw [lg_entry_eq]
  generalize (lg_sl ([.ref h0]) ++ List.replicate (1 - (lg_sl ([.ref h0])).length) Slot.unset).toArray = ls at hl ⊢
  have hl : lv_has ls 1 [(0, .ref h0)] := hl
  refine lv_aload_n hx hb dB_36_1_17.1.1.1.1 rfl (lv_at hl 0 rfl) ?_
  refine W.objInit hx hb hown (hts (.methodLink RX3 3 objectInit) (List.mem_of_getElem? (i := 1) rfl)) (hts (.instanceMethod objectInit) (List.mem_of_getElem? (i := 2) rfl)) (hts (.code objectInit ⟨#[0xb1]⟩ 1 none) (List.mem_of_getElem? (i := 3) rfl)) rfl (by rw [hml]; exact hl.1) rfl dB_36_1_17.1.1.1.2 (Nat.le_of_ble_eq_true rfl) (Nat.le_of_ble_eq_true rfl) ?_
  refine W.eq (g2 := F0 m 4 ls []) rfl ?_
  refine lv_aload_n hx hb dB_36_1_17.1.1.2.1 rfl (lv_at hl 0 rfl) ?_
  refine lv_iconst (v := 0) hx hb dB_36_1_17.1.1.2.2 (by decide) ?_
  refine va_put (ci := 3) (v := .int 0) (ty := .int) (C := RX3) (T := TX3) (N := 7) hx hb hts (fun _ h => List.mem_cons_of_mem _ (List.mem_append_right _ h)) tyX3 tyX3_ok nmX3 hown hK.1 hP hD hS 0 rfl rfl 0 (by decide) (hts (.fieldLink RX3 9 "CutAtlas$Net" "places" "I") (List.mem_of_getElem? (i := 4) rfl)) (fun _ h9 => h9) rfl (by decide +kernel) rfl rfl (Nat.le_of_ble_eq_true rfl) dB_36_1_17.1.2.1.1 (fun H locs hP hD hS => ?_)
  refine pd_K [ob3_1_ h0 0 0] hP hD (fun hP hD => ?_)
  refine lv_aload_n hx hb dB_36_1_17.1.2.1.2 rfl (lv_at hl 0 rfl) ?_
  refine lv_iconst (v := 0) hx hb dB_36_1_17.1.2.2.1 (by decide) ?_
  refine va_put (ci := 3) (v := .int 0) (ty := .int) (C := RX3) (T := TX3) (N := 7) hx hb hts (fun _ h => List.mem_cons_of_mem _ (List.mem_append_right _ h)) tyX3 tyX3_ok nmX3 hown hK.1 hP hD hS 0 rfl rfl 1 (by decide) (hts (.fieldLink RX3 15 "CutAtlas$Net" "lines" "I") (List.mem_of_getElem? (i := 5) rfl)) (fun _ h9 => h9) rfl (by decide +kernel) rfl rfl (Nat.le_of_ble_eq_true rfl) dB_36_1_17.1.2.2.2 (fun H locs hP hD hS => ?_)
  refine pd_K [ob3_1_ h0 0 0] hP hD (fun hP hD => ?_)
  refine lv_aload_n hx hb dB_36_1_17.2.1.1.1 rfl (lv_at hl 0 rfl) ?_
  refine lv_bipush (v := 40) hx hb dB_36_1_17.2.1.1.2 (by decide) ?_
  refine nw_a (a0 := (40, .inl (fun _ => 0))) (ty := .int) hx hb (hts (.arrayClass .int) (List.mem_of_getElem? (i := 6) rfl)) rfl hK.1 0 rfl (fun _ h => by cases h) hP hD hS hA (fun _ => rfl) (by decide) (by decide) (by decide) (Nat.le_of_ble_eq_true rfl) (Nat.le_of_ble_eq_true rfl) dB_36_1_17.2.1.2.1 (fun q_1 H hP hD hS => ?_)
  refine pd_K [ob3_1_ h0 0 0, ai_ cy q_1 40 (fun _ => 0)] hP hD (fun hP hD => ?_)
  refine va_putF (ci := 3) (v := .ref q_1) (ty := (tyX3 2)) (C := RX3) (T := TX3) (N := 7) hx hb hts (fun _ h => List.mem_cons_of_mem _ (List.mem_append_right _ h)) tyX3 tyX3_ok nmX3 hown hK.1 hP hD hS 0 rfl rfl 2 (by decide) (hts (.fieldLink RX3 18 "CutAtlas$Net" "kinds" "[I") (List.mem_of_getElem? (i := 7) rfl)) (fun _ h9 => h9) rfl hin rfl (by decide +kernel) rfl rfl (Nat.le_of_ble_eq_true rfl) dB_36_1_17.2.1.2.2 (fun H locs hP hD hS => ?_)
  refine pd_K [ob3_2_ h0 0 0 q_1, ai_ cy q_1 40 (fun _ => 0)] hP hD (fun hP hD => ?_)
  refine lv_aload_n hx hb dB_36_1_17.2.2.1.1 rfl (lv_at hl 0 rfl) ?_
  refine lv_bipush (v := 40) hx hb dB_36_1_17.2.2.1.2 (by decide) ?_
  refine nw_a (a0 := (40, .inl (fun _ => 0))) (ty := .int) hx hb (hts (.arrayClass .int) (List.mem_of_getElem? (i := 6) rfl)) rfl hK.1 0 rfl (fun _ h => by cases h) hP hD hS hA (fun _ => rfl) (by decide) (by decide) (by decide) (Nat.le_of_ble_eq_true rfl) (Nat.le_of_ble_eq_true rfl) dB_36_1_17.2.2.2.1 (fun q_2 H hP hD hS => ?_)
  refine pd_K [ob3_2_ h0 0 0 q_1, ai_ cy q_1 40 (fun _ => 0), ai_ cy q_2 40 (fun _ => 0)] hP hD (fun hP hD => ?_)
  refine va_putF (ci := 3) (v := .ref q_2) (ty := (tyX3 3)) (C := RX3) (T := TX3) (N := 7) hx hb hts (fun _ h => List.mem_cons_of_mem _ (List.mem_append_right _ h)) tyX3 tyX3_ok nmX3 hown hK.1 hP hD hS 0 rfl rfl 3 (by decide) (hts (.fieldLink RX3 22 "CutAtlas$Net" "starts" "[I") (List.mem_of_getElem? (i := 8) rfl)) (fun _ h9 => h9) rfl hin rfl (by decide +kernel) rfl rfl (Nat.le_of_ble_eq_true rfl) dB_36_1_17.2.2.2.2 (fun H locs hP hD hS => ?_)
  refine pd_K [ob3_3_ h0 0 0 q_1 q_2, ai_ cy q_1 40 (fun _ => 0), ai_ cy q_2 40 (fun _ => 0)] hP hD (fun hP hD => ?_)
  refine lv_aload_n hx hb dB_36_1_18.1.1.1 rfl (lv_at hl 0 rfl) ?_
  refine lv_bipush (v := 40) hx hb dB_36_1_18.1.1.2.1 (by decide) ?_
  refine nw_a (a0 := (40, .inl (fun _ => 0))) (ty := .int) hx hb (hts (.arrayClass .int) (List.mem_of_getElem? (i := 6) rfl)) rfl hK.1 0 rfl (fun _ h => by cases h) hP hD hS hA (fun _ => rfl) (by decide) (by decide) (by decide) (Nat.le_of_ble_eq_true rfl) (Nat.le_of_ble_eq_true rfl) dB_36_1_18.1.1.2.2 (fun q_3 H hP hD hS => ?_)
  refine pd_K [ob3_3_ h0 0 0 q_1 q_2, ai_ cy q_1 40 (fun _ => 0), ai_ cy q_2 40 (fun _ => 0), ai_ cy q_3 40 (fun _ => 0)] hP hD (fun hP hD => ?_)
  refine va_putF (ci := 3) (v := .ref q_3) (ty := (tyX3 4)) (C := RX3) (T := TX3) (N := 7) hx hb hts (fun _ h => List.mem_cons_of_mem _ (List.mem_append_right _ h)) tyX3 tyX3_ok nmX3 hown hK.1 hP hD hS 0 rfl rfl 4 (by decide) (hts (.fieldLink RX3 25 "CutAtlas$Net" "ends" "[I") (List.mem_of_getElem? (i := 9) rfl)) (fun _ h9 => h9) rfl hin rfl (by decide +kernel) rfl rfl (Nat.le_of_ble_eq_true rfl) dB_36_1_18.1.2.1 (fun H locs hP hD hS => ?_)
  refine pd_K [ob3_4_ h0 0 0 q_1 q_2 q_3, ai_ cy q_1 40 (fun _ => 0), ai_ cy q_2 40 (fun _ => 0), ai_ cy q_3 40 (fun _ => 0)] hP hD (fun hP hD => ?_)
  refine lv_aload_n hx hb dB_36_1_18.1.2.2.1 rfl (lv_at hl 0 rfl) ?_
  refine lv_bipush (v := 40) hx hb dB_36_1_18.1.2.2.2 (by decide) ?_
  refine nw_a (a0 := (40, .inl (fun _ => 0))) (ty := .int) hx hb (hts (.arrayClass .int) (List.mem_of_getElem? (i := 6) rfl)) rfl hK.1 0 rfl (fun _ h => by cases h) hP hD hS hA (fun _ => rfl) (by decide) (by decide) (by decide) (Nat.le_of_ble_eq_true rfl) (Nat.le_of_ble_eq_true rfl) dB_36_1_18.2.1.1 (fun q_4 H hP hD hS => ?_)
  refine pd_K [ob3_4_ h0 0 0 q_1 q_2 q_3, ai_ cy q_1 40 (fun _ => 0), ai_ cy q_2 40 (fun _ => 0), ai_ cy q_3 40 (fun _ => 0), ai_ cy q_4 40 (fun _ => 0)] hP hD (fun hP hD => ?_)
  refine va_putF (ci := 3) (v := .ref q_4) (ty := (tyX3 5)) (C := RX3) (T := TX3) (N := 7) hx hb hts (fun _ h => List.mem_cons_of_mem _ (List.mem_append_right _ h)) tyX3 tyX3_ok nmX3 hown hK.1 hP hD hS 0 rfl rfl 5 (by decide) (hts (.fieldLink RX3 28 "CutAtlas$Net" "widths" "[I") (List.mem_of_getElem? (i := 10) rfl)) (fun _ h9 => h9) rfl hin rfl (by decide +kernel) rfl rfl (Nat.le_of_ble_eq_true rfl) dB_36_1_18.2.1.2.1 (fun H locs hP hD hS => ?_)
  refine pd_K [ob3_5_ h0 0 0 q_1 q_2 q_3 q_4, ai_ cy q_1 40 (fun _ => 0), ai_ cy q_2 40 (fun _ => 0), ai_ cy q_3 40 (fun _ => 0), ai_ cy q_4 40 (fun _ => 0)] hP hD (fun hP hD => ?_)
  refine lv_aload_n hx hb dB_36_1_18.2.1.2.2 rfl (lv_at hl 0 rfl) ?_
  refine lv_bipush (v := 40) hx hb dB_36_1_18.2.2.1.1 (by decide) ?_
  refine nw_a (a0 := (40, .inl (fun _ => 0))) (ty := .int) hx hb (hts (.arrayClass .int) (List.mem_of_getElem? (i := 6) rfl)) rfl hK.1 0 rfl (fun _ h => by cases h) hP hD hS hA (fun _ => rfl) (by decide) (by decide) (by decide) (Nat.le_of_ble_eq_true rfl) (Nat.le_of_ble_eq_true rfl) dB_36_1_18.2.2.1.2 (fun q_5 H hP hD hS => ?_)
  refine pd_K [ob3_5_ h0 0 0 q_1 q_2 q_3 q_4, ai_ cy q_1 40 (fun _ => 0), ai_ cy q_2 40 (fun _ => 0), ai_ cy q_3 40 (fun _ => 0), ai_ cy q_4 40 (fun _ => 0), ai_ cy q_5 40 (fun _ => 0)] hP hD (fun hP hD => ?_)
  refine va_putF (ci := 3) (v := .ref q_5) (ty := (tyX3 6)) (C := RX3) (T := TX3) (N := 7) hx hb hts (fun _ h => List.mem_cons_of_mem _ (List.mem_append_right _ h)) tyX3 tyX3_ok nmX3 hown hK.1 hP hD hS 0 rfl rfl 6 (by decide) (hts (.fieldLink RX3 31 "CutAtlas$Net" "prices" "[I") (List.mem_of_getElem? (i := 11) rfl)) (fun _ h9 => h9) rfl hin rfl (by decide +kernel) rfl rfl (Nat.le_of_ble_eq_true rfl) dB_36_1_18.2.2.2.1 (fun H locs hP hD hS => ?_)
  refine pd_K [ob3_0_ h0 0 0 q_1 q_2 q_3 q_4 q_5, ai_ cy q_1 40 (fun _ => 0), ai_ cy q_2 40 (fun _ => 0), ai_ cy q_3 40 (fun _ => 0), ai_ cy q_4 40 (fun _ => 0), ai_ cy q_5 40 (fun _ => 0)] hP hD (fun hP hD => ?_)
  rw [hQ]
  exact W.vret hx hb hr (fun t ht hW => ⟨⟨(), rfl, trivial, q_1, q_2, q_3, q_4, q_5, by rw [ht]; exact hP, hD⟩, hS.F ht⟩) hS.2.2 dB_36_1_18.2.2.2.2
end
