/-! ===== read, exactly ===== -/
noncomputable def rdI (len c0 c1 c2 c3 c4 P N : Int) : Int := if len < 0 then -11 else if len < 5 then -12 else lnI c0 c1 c2 c3 c4 P N
/-- what refuses row i, if N lines stand -/
noncomputable def rwC (fl : Nat → Int32) (fn : Nat → Int64) (P : Int) (i : Nat) (N : Int) : Int := rdI (fl i).toInt (fn (5 * i + 0)).toInt (fn (5 * i + 1)).toInt (fn (5 * i + 2)).toInt (fn (5 * i + 3)).toInt (fn (5 * i + 4)).toInt P N
noncomputable def rwR (f18 : Nat → Int32) (f19 : Nat → Int64) (a : Nat) (P : Int) (i : Nat) (N : Int) : Int := rdI (f18 (6 * a + i)).toInt (f19 (30 * a + 5 * i + 0)).toInt (f19 (30 * a + 5 * i + 1)).toInt (f19 (30 * a + 5 * i + 2)).toInt (f19 (30 * a + 5 * i + 3)).toInt (f19 (30 * a + 5 * i + 4)).toInt P N
/-- c rows came, then st -/
noncomputable def rdn (code : Nat → Int → Int) (N rows c st : Int) : Prop := (0 ≤ c ∧ c ≤ rows) ∧ (∀ i : Nat, (i : Int) < c → code i (N + i) = 0) ∧ (c = rows ∧ st = 0 ∨ c < rows ∧ code c.toNat (N + c) = st ∧ st ≠ 0)
theorem rdn_un {code code2 : Nat → Int → Int} {N rows c st c2 st2 : Int} (h : rdn code N rows c st) (h2 : rdn code2 N rows c2 st2) (he : ∀ (i : Nat) (n : Int), (i : Int) < rows → code i n = code2 i n) : c = c2 ∧ st = st2 := by
  obtain ⟨a0, a1, a2⟩ := h
  obtain ⟨b0, b1, b2⟩ := h2
  rcases Int.lt_trichotomy c c2 with q | q | q
  · have w := b1 c.toNat (by omega)
    have e := he c.toNat (N + c) (by omega)
    rw [show ((c.toNat : Nat) : Int) = c by omega] at w
    rw [w] at e
    omega
  · subst q
    refine ⟨rfl, ?_⟩
    rcases a2 with a | a <;> rcases b2 with b | b
    · omega
    · omega
    · omega
    · rw [← a.2.1, ← b.2.1]
      exact he _ _ (by omega)
  · have w := a1 c2.toNat (by omega)
    have e := he c2.toNat (N + c2) (by omega)
    rw [show ((c2.toNat : Nat) : Int) = c2 by omega] at w
    rw [w] at e
    omega
/-- while the class reads: c came, r looked at -/
noncomputable def rdl (code : Nat → Int → Int) (N rows c r st : Int) : Prop := (0 ≤ c ∧ (∀ i : Nat, (i : Int) < c → code i (N + i) = 0)) ∧ (st = 0 ∧ c = r ∧ r ≤ rows ∨ st ≠ 0 ∧ c + 1 = r ∧ r ≤ rows ∧ code c.toNat (N + c) = st ∨ st = -11 ∧ rows = -9 ∧ c = 0 ∧ r = 0)
section RDL
variable {code : Nat → Int → Int} {N rows c r st c2 r2 st2 : Int}
theorem rdl_0 (h : rows ≠ -9) (h0 : 0 ≤ rows) : rdl code N rows (0 : Int32).toInt (0 : Int32).toInt (0 : Int32).toInt := by
  have z : (0 : Int32).toInt = 0 := by decide
  rw [z]
  exact ⟨⟨by omega, fun i hi => by omega⟩, Or.inl ⟨rfl, rfl, h0⟩⟩
theorem rdl_9 (h : rows = -9) : rdl code N rows (0 : Int32).toInt (0 : Int32).toInt ((-11) : Int32).toInt := by
  have z : (0 : Int32).toInt = 0 := by decide
  have z2 : ((-11) : Int32).toInt = -11 := by decide
  rw [z, z2]
  exact ⟨⟨by omega, fun i hi => by omega⟩, Or.inr (Or.inr ⟨rfl, h, rfl, rfl⟩)⟩
theorem rdl_ok (h : rdl code N rows c r st) (hs : st = 0) (hr : r < rows) (hc : code c.toNat (N + c) = 0) (e1 : c2 = c + 1) (e2 : r2 = r + 1) (hs2 : st2 = 0) : rdl code N rows c2 r2 st2 := by
  obtain ⟨⟨a0, a1⟩, a2⟩ := h
  refine ⟨⟨by omega, fun i hi => ?_⟩, Or.inl (by omega)⟩
  by_cases q : (i : Int) < c
  · exact a1 i q
  · rw [show i = c.toNat by omega, show ((c.toNat : Nat) : Int) = c by omega]
    exact hc
theorem rdl_no (h : rdl code N rows c r st) (hs : st = 0) (hr : r < rows) (hc : code c.toNat (N + c) = st2) (e2 : r2 = r + 1) (hs2 : st2 ≠ 0) : rdl code N rows c r2 st2 := by
  obtain ⟨⟨a0, a1⟩, a2⟩ := h
  exact ⟨⟨a0, a1⟩, Or.inr (Or.inl ⟨hs2, by omega, by omega, hc⟩)⟩
theorem rdl_end (h : rdl code N rows c r st) (he : rows ≤ r ∨ st ≠ 0) (h9 : rows ≠ -9) : rdn code N rows c st := by
  obtain ⟨⟨a0, a1⟩, a2⟩ := h
  refine ⟨⟨a0, by omega⟩, a1, ?_⟩
  rcases a2 with a | a | a
  · exact Or.inl (by omega)
  · exact Or.inr ⟨by omega, a.2.2.2, a.1⟩
  · omega
end RDL
noncomputable def wbg (k w : Int32) : Int32 := if k.toInt = 4 then 0 else w
/-- c lines more, from the map's rows -/
noncomputable def apC (N c : Int) (fk fs fe fw fp gk gs ge gw gp : Nat → Int32) (fn : Nat → Int64) : Prop := same5 N gk gs ge gw gp fk fs fe fw fp ∧ ∀ i : Nat, (i : Int) < c → gk (N.toNat + i) = (fn (5 * i + 0)).toInt32 ∧ gs (N.toNat + i) = (fn (5 * i + 1)).toInt32 ∧ ge (N.toNat + i) = (fn (5 * i + 2)).toInt32 ∧ gw (N.toNat + i) = wbg (fn (5 * i + 0)).toInt32 (fn (5 * i + 3)).toInt32 ∧ gp (N.toNat + i) = (fn (5 * i + 4)).toInt32
noncomputable def apR (N c : Int) (f5 f6 f7 f8 f9 f10 g5 g6 g7 g8 g9 g10 : Nat → Int32) (f19 : Nat → Int64) (b : Nat) : Prop := (same5 N g5 g6 g7 g8 g9 f5 f6 f7 f8 f9 ∧ ∀ j : Nat, (j : Int) < N → g10 j = f10 j) ∧ ∀ i : Nat, (i : Int) < c → g5 (N.toNat + i) = (f19 (b + 5 * i + 0)).toInt32 ∧ g6 (N.toNat + i) = (f19 (b + 5 * i + 1)).toInt32 ∧ g7 (N.toNat + i) = (f19 (b + 5 * i + 2)).toInt32 ∧ g8 (N.toNat + i) = wbg (f19 (b + 5 * i + 0)).toInt32 (f19 (b + 5 * i + 3)).toInt32 ∧ g9 (N.toNat + i) = (f19 (b + 5 * i + 4)).toInt32 ∧ (g10 (N.toNat + i)).toInt = 0
/-- remembered just when the first row came -/
noncomputable def chn (n : Int) (pf ph : Int32) (pv : Nat → Nat → Int32) (pg : Nat → Nat → Nat → Int32) (vp vn : Int32) (fk fs fe fw fp : Nat → Int32) (epf eph : Int32) (epv : Nat → Nat → Int32) (epg : Nat → Nat → Nat → Int32) (evn : Int32) (gk gs ge gw gp : Nat → Int32) : Prop := (n = 0 → epf = pf ∧ eph = ph ∧ epv = pv ∧ epg = pg ∧ evn = vn ∧ gk = fk ∧ gs = fs ∧ ge = fe ∧ gw = fw ∧ gp = fp) ∧ (n ≠ 0 → remd pf ph pv pg vp vn fk fs fe fw fp epf eph epv epg)
noncomputable def kpn (n : Int) (P N : Int32) (f5 f6 f7 f8 f9 f10 : Nat → Int32) (U : Int) (f12 f13 f14 : Nat → Int32) (U2 : Int) (e12 e13 e14 : Nat → Int32) (n4 : Int32) (g5 g6 g7 g8 g9 g10 : Nat → Int32) : Prop := (n = 0 → U2 = U ∧ e12 = f12 ∧ e13 = f13 ∧ e14 = f14 ∧ n4 = N ∧ g5 = f5 ∧ g6 = f6 ∧ g7 = f7 ∧ g8 = f8 ∧ g9 = f9 ∧ g10 = f10) ∧ (n ≠ 0 → kept P N f5 f6 f7 f8 f9 f10 U f12 f13 f14 U2 e12 e13 e14)
section CHN
variable {n n2 c c2 : Int} {pf ph vp vn epf eph evn P N n4 qf qh kk a b w p : Int32} {pv epv qv : Nat → Nat → Int32} {pg epg qg : Nat → Nat → Nat → Int32} {fk fs fe fw fp gk gs ge gw gp ek es ee ew ep f5 f6 f7 f8 f9 f10 g5 g6 g7 g8 g9 g10 e5 e6 e7 e8 e9 e10 f12 f13 f14 e12 e13 e14 h12 h13 h14 : Nat → Int32} {U U2 U3 : Int} {fn f19 : Nat → Int64}
theorem chn_0 : chn (0 : Int32).toInt pf ph pv pg vp vn fk fs fe fw fp pf ph pv pg vn fk fs fe fw fp := ⟨fun _ => ⟨rfl, rfl, rfl, rfl, rfl, rfl, rfl, rfl, rfl, rfl⟩, fun h => absurd (by decide) h⟩
theorem chn_z (h : chn n pf ph pv pg vp vn fk fs fe fw fp epf eph epv epg evn gk gs ge gw gp) (hn : n = 0) (hr : remd epf eph epv epg vp evn gk gs ge gw gp qf qh qv qg) : remd pf ph pv pg vp vn fk fs fe fw fp qf qh qv qg := by
  obtain ⟨a1, a2, a3, a4, a5, a6, a7, a8, a9, a10⟩ := h.1 hn
  rw [a1, a2, a3, a4, a5, a6, a7, a8, a9, a10] at hr
  exact hr
theorem chn_p (hn : n ≠ 0) (hr : remd pf ph pv pg vp vn fk fs fe fw fp epf eph epv epg) : chn n pf ph pv pg vp vn fk fs fe fw fp epf eph epv epg evn gk gs ge gw gp := ⟨fun h => absurd h hn, fun _ => hr⟩
theorem kpn_0 : kpn (0 : Int32).toInt P N f5 f6 f7 f8 f9 f10 U f12 f13 f14 U f12 f13 f14 N f5 f6 f7 f8 f9 f10 := ⟨fun _ => ⟨rfl, rfl, rfl, rfl, rfl, rfl, rfl, rfl, rfl, rfl, rfl⟩, fun h => absurd (by decide) h⟩
theorem kpn_z (h : kpn n P N f5 f6 f7 f8 f9 f10 U f12 f13 f14 U2 e12 e13 e14 n4 g5 g6 g7 g8 g9 g10) (hn : n = 0) (hr : kept P n4 g5 g6 g7 g8 g9 g10 U2 e12 e13 e14 U3 h12 h13 h14) : kept P N f5 f6 f7 f8 f9 f10 U f12 f13 f14 U3 h12 h13 h14 := by
  obtain ⟨a1, a2, a3, a4, a5, a6, a7, a8, a9, a10, a11⟩ := h.1 hn
  rw [a1, a2, a3, a4, a5, a6, a7, a8, a9, a10, a11] at hr
  exact hr
theorem kpn_p (hn : n ≠ 0) (hr : kept P N f5 f6 f7 f8 f9 f10 U f12 f13 f14 U2 e12 e13 e14) : kpn n P N f5 f6 f7 f8 f9 f10 U f12 f13 f14 U2 e12 e13 e14 n4 g5 g6 g7 g8 g9 g10 := ⟨fun h => absurd h hn, fun _ => hr⟩
theorem apC_0 : apC n (0 : Int32).toInt fk fs fe fw fp fk fs fe fw fp fn := by
  have z : (0 : Int32).toInt = 0 := by decide
  exact ⟨fun _ _ => ⟨rfl, rfl, rfl, rfl, rfl⟩, fun i hi => by omega⟩
theorem apR_0 {b : Nat} : apR n (0 : Int32).toInt f5 f6 f7 f8 f9 f10 f5 f6 f7 f8 f9 f10 f19 b := by
  have z : (0 : Int32).toInt = 0 := by decide
  exact ⟨⟨fun _ _ => ⟨rfl, rfl, rfl, rfl, rfl⟩, fun _ _ => rfl⟩, fun i hi => by omega⟩
theorem wb_upd {f g : Nat → Int32} {k : Nat} {x y : Int32} (h : x.toInt = 4 ∧ g = upd f k 0 ∨ x.toInt ≠ 4 ∧ g = upd f k y) : g = upd f k (wbg x y) := by
  unfold wbg
  rcases h with h | h
  · rw [if_pos h.1]
    exact h.2
  · rw [if_neg h.1]
    exact h.2
theorem apC_st {vn2 : Int32} {i : Nat} (h : apC n c fk fs fe fw fp gk gs ge gw gp fn) (hv : vn2.toInt = n + c) (h0 : 0 ≤ n) (hc : c = i) (ha : addd vn2 gk gs ge gw gp kk a b w p evn ek es ee ew ep) (q0 : kk = (fn (5 * i + 0)).toInt32) (q1 : a = (fn (5 * i + 1)).toInt32) (q2 : b = (fn (5 * i + 2)).toInt32) (q3 : w = (fn (5 * i + 3)).toInt32) (q4 : p = (fn (5 * i + 4)).toInt32) (hc2 : c2 = c + 1) : apC n c2 fk fs fe fw fp ek es ee ew ep fn := by
  obtain ⟨d1, d2, d3, d4, d5, d6⟩ := ha
  have d5 := wb_upd d5
  have cv := clI (i := vn2) (by omega)
  have ne : ∀ j : Nat, (j : Int) < n + c → j ≠ vn2.toNatClampNeg := fun j hj => by omega
  refine ⟨fun j hj => ?_, fun j hj => ?_⟩
  · rw [d2, d3, d4, d5, d6, pk_un (ne j (by omega)), pk_un (ne j (by omega)), pk_un (ne j (by omega)), pk_un (ne j (by omega)), pk_un (ne j (by omega))]
    exact h.1 j hj
  · by_cases z : j = i
    · rw [z, show n.toNat + i = vn2.toNatClampNeg by omega, d2, d3, d4, d5, d6, pk_us, pk_us, pk_us, pk_us, pk_us, q0, q1, q2, q3, q4]
      exact ⟨rfl, rfl, rfl, rfl, rfl⟩
    · have u : n.toNat + j ≠ vn2.toNatClampNeg := by omega
      rw [d2, d3, d4, d5, d6, pk_un u, pk_un u, pk_un u, pk_un u, pk_un u]
      exact h.2 j (by omega)
theorem apR_st {N2 : Int32} {i t : Nat} (h : apR n c f5 f6 f7 f8 f9 f10 g5 g6 g7 g8 g9 g10 f19 t) (hv : N2.toInt = n + c) (h0 : 0 ≤ n) (hc : c = i) (ha : adR N2 g5 g6 g7 g8 g9 g10 kk a b w p n4 e5 e6 e7 e8 e9 e10) (q0 : kk = (f19 (t + 5 * i + 0)).toInt32) (q1 : a = (f19 (t + 5 * i + 1)).toInt32) (q2 : b = (f19 (t + 5 * i + 2)).toInt32) (q3 : w = (f19 (t + 5 * i + 3)).toInt32) (q4 : p = (f19 (t + 5 * i + 4)).toInt32) (hc2 : c2 = c + 1) : apR n c2 f5 f6 f7 f8 f9 f10 e5 e6 e7 e8 e9 e10 f19 t := by
  obtain ⟨d1, d2, d3, d4, d5, d6, d7⟩ := ha
  have d5 := wb_upd d5
  have cv := clI (i := N2) (by omega)
  have ne : ∀ j : Nat, (j : Int) < n + c → j ≠ N2.toNatClampNeg := fun j hj => by omega
  refine ⟨⟨fun j hj => ?_, fun j hj => ?_⟩, fun j hj => ?_⟩
  · rw [d2, d3, d4, d5, d6, pk_un (ne j (by omega)), pk_un (ne j (by omega)), pk_un (ne j (by omega)), pk_un (ne j (by omega)), pk_un (ne j (by omega))]
    exact h.1.1 j hj
  · rw [d7, pk_un (ne j (by omega))]
    exact h.1.2 j hj
  · by_cases z : j = i
    · rw [z, show n.toNat + i = N2.toNatClampNeg by omega, d2, d3, d4, d5, d6, d7, pk_us, pk_us, pk_us, pk_us, pk_us, pk_us, q0, q1, q2, q3, q4]
      exact ⟨rfl, rfl, rfl, rfl, rfl, by decide⟩
    · have u : n.toNat + j ≠ N2.toNatClampNeg := by omega
      rw [d2, d3, d4, d5, d6, d7, pk_un u, pk_un u, pk_un u, pk_un u, pk_un u, pk_un u]
      exact h.2 j (by omega)
theorem nrel_read {t : Nat} (h : nrel vp vn fk fs fe fw fp P N f5 f6 f7 f8 f9 f10) (h0 : 0 ≤ N.toInt) (hc : apC vn.toInt c fk fs fe fw fp gk gs ge gw gp fn) (hr : apR N.toInt c f5 f6 f7 f8 f9 f10 g5 g6 g7 g8 g9 g10 f19 t) (he : ∀ i : Nat, (i : Int) < c → ∀ q : Nat, q < 5 → fn (5 * i + q) = f19 (t + 5 * i + q)) (ec : evn.toInt = vn.toInt + c) (er : n4.toInt = N.toInt + c) : nrel vp evn gk gs ge gw gp P n4 g5 g6 g7 g8 g9 g10 := by
  have ev := h.2.1
  rw [ev] at hc ec
  refine ⟨h.1, Int32.toInt_inj.mp (by omega), fun j hj => ?_⟩
  by_cases z : (j : Int) < N.toInt
  · obtain ⟨a1, a2, a3, a4, a5⟩ := hc.1 j z
    obtain ⟨b1, b2, b3, b4, b5⟩ := hr.1.1 j z
    rw [a1, a2, a3, a4, a5, b1, b2, b3, b4, b5, hr.1.2 j z]
    exact h.2.2 j z
  · have ei : j = N.toInt.toNat + (j - N.toInt.toNat) := by omega
    have hi : ((j - N.toInt.toNat : Nat) : Int) < c := by omega
    obtain ⟨a1, a2, a3, a4, a5⟩ := hc.2 (j - N.toInt.toNat) hi
    obtain ⟨b1, b2, b3, b4, b5, b6⟩ := hr.2 (j - N.toInt.toNat) hi
    rw [ei, a1, a2, a3, a4, a5, b1, b2, b3, b4, b5, he _ hi 0 (by omega), he _ hi 1 (by omega), he _ hi 2 (by omega), he _ hi 3 (by omega), he _ hi 4 (by omega)]
    exact ⟨rfl, rfl, rfl, fun g => absurd b6 g, fun _ => ⟨rfl, rfl⟩⟩
theorem prel_read (h : prel pf ph pv pg U f12 f13 f14) (hn : nrel vp vn fk fs fe fw fp P N f5 f6 f7 f8 f9 f10) (hc : chn n pf ph pv pg vp vn fk fs fe fw fp epf eph epv epg evn gk gs ge gw gp) (hk : kpn n P N f5 f6 f7 f8 f9 f10 U f12 f13 f14 U2 e12 e13 e14 n4 g5 g6 g7 g8 g9 g10) (h9 : rng f9 40 0 100) (h13 : rng f13 30 0 40) (hN : N.toInt ≤ 40) (hpf : 0 ≤ pf.toInt ∧ pf.toInt ≤ 29) (hU : 0 ≤ U) : prel epf eph epv epg U2 e12 e13 e14 := by
  by_cases z : n = 0
  · obtain ⟨a1, a2, a3, a4, _⟩ := hc.1 z
    obtain ⟨b1, b2, b3, b4, _⟩ := hk.1 z
    rw [a1, a2, a3, a4, b1, b2, b3, b4]
    exact h
  · exact prel_kept h hn (hc.2 z) (hk.2 z) h9 h13 hN hpf hU
end CHN
theorem num_at {fn : Nat → Int64} {r : Int64} {a b : Int32} {k : Nat} (h : r = fn (5 * a.toInt + b.toInt).toNat) (ha : 0 ≤ a.toInt) (hb : b.toInt = k) : r.toInt = (fn (5 * a.toNatClampNeg + k)).toInt := by
  have c := clI (i := a) ha
  rw [h, show (5 * a.toInt + b.toInt).toNat = 5 * a.toNatClampNeg + k by omega]
theorem num32 {fn : Nat → Int64} {r : Int32} {a b : Int32} {k : Nat} (h : r = (fn (5 * a.toInt + b.toInt).toNat).toInt32) (ha : 0 ≤ a.toInt) (hb : b.toInt = k) : r = (fn (5 * a.toNatClampNeg + k)).toInt32 := by
  have c := clI (i := a) ha
  rw [h, show (5 * a.toInt + b.toInt).toNat = 5 * a.toNatClampNeg + k by omega]
theorem c19 {f : Nat → Int64} {y : Int64} {x a i : Int32} {k : Nat} (e : y = f x.toNatClampNeg) (hx : x.toInt = 30 * a.toInt + 5 * i.toInt + k) (ha : 0 ≤ a.toInt) (hi : 0 ≤ i.toInt) : y = f (30 * a.toNatClampNeg + 5 * i.toNatClampNeg + k) := by
  have c := clI (i := a) ha
  have c2 := clI (i := i) hi
  have c3 := clI (i := x) (by omega)
  rw [e, show x.toNatClampNeg = 30 * a.toNatClampNeg + 5 * i.toNatClampNeg + k by omega]
theorem c18 {f : Nat → Int32} {y x a i : Int32} (e : y = f x.toNatClampNeg) (hx : x.toInt = 6 * a.toInt + i.toInt) (ha : 0 ≤ a.toInt) (hi : 0 ≤ i.toInt) : y = f (6 * a.toNatClampNeg + i.toNatClampNeg) := by
  have c := clI (i := a) ha
  have c2 := clI (i := i) hi
  have c3 := clI (i := x) (by omega)
  rw [e, show x.toNatClampNeg = 6 * a.toNatClampNeg + i.toNatClampNeg by omega]
/-- the rows of both sides are refused alike -/
theorem rw_same {fl : Nat → Int32} {fn : Nat → Int64} {f18 : Nat → Int32} {f19 : Nat → Int64} {a : Nat} {P : Int} {i : Nat} {n : Int} (h1 : fl i = f18 (6 * a + i)) (h2 : (fl i).toInt ≠ -9 → ∀ q : Nat, q < 5 → fn (5 * i + q) = f19 (30 * a + 5 * i + q)) : rwC fl fn P i n = rwR f18 f19 a P i n := by
  unfold rwC rwR rdI
  rw [← h1]
  by_cases z : (fl i).toInt < 0
  · rw [if_pos z, if_pos z]
  · have w := h2 (by omega)
    rw [if_neg z, if_neg z, w 0 (by omega), w 1 (by omega), w 2 (by omega), w 3 (by omega), w 4 (by omega)]
theorem rdI_0 {len c0 c1 c2 c3 c4 P N : Int} (h : rdI len c0 c1 c2 c3 c4 P N = 0) : 5 ≤ len := by
  unfold rdI at h
  (repeat' split at h) <;> omega
theorem rdl_s {code : Nat → Int → Int} {N rows : Int} {f : Int32} (h : f.toInt = 0 ∧ rows ≠ -9 ∨ f.toInt = -11 ∧ rows = -9) (h0 : rows = -9 ∨ 0 ≤ rows) : rdl code N rows (0 : Int32).toInt (0 : Int32).toInt f.toInt := by
  rcases h with h | h
  · rw [h.1]
    exact rdl_0 h.2 (by omega)
  · rw [h.1]
    exact rdl_9 h.2
theorem chn_s {n : Int} {pf ph vp vn epf eph evn : Int32} {pv epv : Nat → Nat → Int32} {pg epg : Nat → Nat → Nat → Int32} {fk fs fe fw fp gk gs ge gw gp : Nat → Int32} (h : chn n pf ph pv pg vp vn fk fs fe fw fp epf eph epv epg evn gk gs ge gw gp) (e : n = 0) : chn 0 pf ph pv pg vp vn fk fs fe fw fp epf eph epv epg evn gk gs ge gw gp := e ▸ h
theorem rdn_no {code : Nat → Int → Int} {N rows c st : Int} (h1 : 0 ≤ c ∧ c < rows) (h2 : ∀ i : Nat, (i : Int) < c → code i (N + i) = 0) (h3 : code c.toNat (N + c) = st) (h4 : st ≠ 0) : rdn code N rows c st := ⟨⟨h1.1, by omega⟩, h2, Or.inr ⟨h1.2, h3, h4⟩⟩
theorem rdn_all {code : Nat → Int → Int} {N rows c st : Int} (h1 : 0 ≤ c ∧ c = rows) (h2 : ∀ i : Nat, (i : Int) < c → code i (N + i) = 0) (h4 : st = 0) : rdn code N rows c st := ⟨⟨h1.1, by omega⟩, h2, Or.inl ⟨h1.2, h4⟩⟩
theorem rws_st {code : Nat → Int → Int} {N c c2 : Int} (h : ∀ i : Nat, (i : Int) < c → code i (N + i) = 0) (hc : code c.toNat (N + c) = 0) (h0 : 0 ≤ c) (e : c2 = c + 1) : ∀ i : Nat, (i : Int) < c2 → code i (N + i) = 0 := fun i hi => by
  by_cases q : (i : Int) < c
  · exact h i q
  · rw [show i = c.toNat by omega, show ((c.toNat : Nat) : Int) = c by omega]
    exact hc

set_option maxHeartbeats 4000000 in
set_option maxRecDepth 100000 in
theorem c_X11_readRefusal2 (l : Launch) (D : va_G) (cy : Nat → ClassId) (sz : Nat) (xo : Nat) (xk : Nat) (xn : Nat) (xc : Nat) (xh : Nat) (xt : Nat) (xw : Nat) (xm : Nat) (xp : Nat) (pf : Int32) (ph : Int32) (tr : Int64) (fi : Int32) (n1 : Nat) (n2 : Nat) (n3 : Nat) (n4 : Nat) (n5 : Nat) (vp : Int32) (vn : Int32) (mm : Nat) (ml : Nat) (mu : Nat) (mk : Int32) (mr : Int32) (fl : Nat → Int32) (fn : Nat → Int64) (a2 : Int32) (hvn : 0 ≤ vn.toInt ∧ vn.toInt ≤ 40) (hvp : 0 ≤ vp.toInt ∧ vp.toInt ≤ 12) (q2 : 0 ≤ a2.toInt ∧ a2.toInt ≤ 5) (r_fl : rng fl 6 (-9) (5)) : Met l yX11_readRefusal wsX11_readRefusal ({ frames := 3, cells := 0, slots := 0, locals := 76 }) (va_Pc [.ref xo, .ref mm, .int a2] (fun U => U.heap.size = sz ∧ va_P D vwCl [ob11_0_ xo xk xn xc xh xt xw xm xp pf ph tr fi, ob3_0_ xn vp vn n1 n2 n3 n4 n5, ob4_0_ mm mk mr ml mu, ai_ cy ml 6 fl, aj_ cy mu 30 fn] U.heap ∧ kk_ D cy U ∧ va_D (fun _ => True) [ob11_0_ xo xk xn xc xh xt xw xm xp pf ph tr fi, ob3_0_ xn vp vn n1 n2 n3 n4 n5, ob4_0_ mm mk mr ml mu, ai_ cy ml 6 fl, aj_ cy mu 30 fn])) (va_Qi (fun (r : Int32) (_ : Unit) => (r.toInt < 0 ∨ (r.toInt = 0 ∧ vn.toInt < 40 ∧ (0 ≤ (fn (5 * a2.toNatClampNeg + 0)).toInt ∧ (fn (5 * a2.toNatClampNeg + 0)).toInt ≤ 4) ∧ (0 ≤ (fn (5 * a2.toNatClampNeg + 1)).toInt ∧ (fn (5 * a2.toNatClampNeg + 1)).toInt < vp.toInt) ∧ (0 ≤ (fn (5 * a2.toNatClampNeg + 2)).toInt ∧ (fn (5 * a2.toNatClampNeg + 2)).toInt < vp.toInt) ∧ (fn (5 * a2.toNatClampNeg + 1)).toInt ≠ (fn (5 * a2.toNatClampNeg + 2)).toInt ∧ (0 ≤ (fn (5 * a2.toNatClampNeg + 3)).toInt ∧ (fn (5 * a2.toNatClampNeg + 3)).toInt ≤ 1000) ∧ (0 ≤ (fn (5 * a2.toNatClampNeg + 4)).toInt ∧ (fn (5 * a2.toNatClampNeg + 4)).toInt ≤ 100))) ∧ (r.toInt = rwC fl fn vp.toInt a2.toNatClampNeg vn.toInt)) (fun (_ : Unit) (_ : State) => True) (va_A [] sz)) 0 0 (va_A [] sz) := by
  refine ofQ (cc := cX11_readRefusal) (maxL := 3) (ret := (some .int)) (by decide) rfl ?_
  intro p e s m args below meth c s₁ Q hQ B hml hv
  obtain ⟨rfl, hsz, hP, hK, hD0⟩ := hv
  have hx := B.exec
  have hb := B.bytes
  have hr := B.returns
  have hts := atoms_spec (ws := wsX11_readRefusal) B.pre
  have hown : s.vm.findClass RX11 = some m.cls := by have h_ := findClass_of_methodNamed B.named; exact h_
  have hlocks := B.notSynchronized
  subst hsz
  have hD : va_D (va_A [] s.heap.size) [] := dd_nil
  generalize hAe : va_A [] s.heap.size = A at hD hQ
  have hA : ∀ q : Nat, s.heap.size ≤ q → A q := fun q h => by rw [← hAe]; exact Or.inr h
  have hS : va_S A s.heap s.heap [] := va_S.rf
  have hl := lv_entry ([.ref xo, .ref mm, .int a2]) (n := 3) (Nat.le_of_ble_eq_true rfl)
  rw [lg_entry_eq]
  generalize (lg_sl ([.ref xo, .ref mm, .int a2]) ++ List.replicate (3 - (lg_sl ([.ref xo, .ref mm, .int a2])).length) Slot.unset).toArray = ls at hl ⊢
  have hl : lv_has ls 3 [(0, .ref xo), (1, .ref mm), (2, .int a2)] := hl
  have zm12 : ((-12) : Int32).toInt = -12 := by decide
  have zm11 : ((-11) : Int32).toInt = -11 := by decide
  have zm3 : ((-3) : Int32).toInt = -3 := by decide
  have zm1 : ((-1) : Int32).toInt = -1 := by decide
  have z0 : (0 : Int32).toInt = 0 := by decide
  have z1 : (1 : Int32).toInt = 1 := by decide
  have z2 : (2 : Int32).toInt = 2 := by decide
  have z3 : (3 : Int32).toInt = 3 := by decide
  have z4 : (4 : Int32).toInt = 4 := by decide
  have z5 : (5 : Int32).toInt = 5 := by decide
  refine lv_aload_n hx hb dB_36_4_5.1.1.1.1 rfl (lv_at hl 1 rfl) ?_
  refine va_get (ci := 4) (v := .ref ml) (C := RX4) (T := TX4) (N := 4) hx hb hts (fun _ h => List.mem_cons_of_mem _ (List.mem_append_left _ (List.mem_append_left _ (List.mem_append_right _ h)))) hown hK.1 hP 2 rfl rfl 2 (by decide) (hts (.fieldLink RX11 321 "CutAtlas$NumberMap" "lengths" "[I") (List.mem_of_getElem? (i := 1) rfl)) (fun _ h9 => h9) rfl dB_36_4_5.1.1.1.2 ?_
  refine lv_iload_n hx hb dB_36_4_5.1.1.2.1 rfl (lv_at hl 2 rfl) ?_
  have h_1 : vp_in a2 6 := in_I (by first | with_reducible assumption | omega) (by omega)
  refine va_iald hx hb hK.1 hP 3 0 rfl rfl (i := a2) h_1 dB_36_4_5.1.1.2.2 ?_
  refine lv_topi (fun y_2 ey_2 => ?_)
  have ky_2 : y_2.toInt = (fl a2.toNatClampNeg).toInt := by rw [ey_2]
  have ry_2 : -9 ≤ y_2.toInt ∧ y_2.toInt ≤ 5 := by rw [ey_2]; exact r_fl _ (in_lt h_1)
  refine lv_if_ge (tgt := 12) hx hb dB_36_4_5.1.2.1.1 (by decide) (fun c_3 => ?_) (fun c_3 => ?_)
  · have t_3 : (0 : Int32).toInt ≤ y_2.toInt := Int32.le_iff_toInt_le.mp c_3
    refine lv_aload_n hx hb dB_36_4_5.1.2.2.2 rfl (lv_at hl 1 rfl) ?_
    refine va_get (ci := 4) (v := .ref ml) (C := RX4) (T := TX4) (N := 4) hx hb hts (fun _ h => List.mem_cons_of_mem _ (List.mem_append_left _ (List.mem_append_left _ (List.mem_append_right _ h)))) hown hK.1 hP 2 rfl rfl 2 (by decide) (hts (.fieldLink RX11 321 "CutAtlas$NumberMap" "lengths" "[I") (List.mem_of_getElem? (i := 1) rfl)) (fun _ h9 => h9) rfl dB_36_4_5.2.1.1.1 ?_
    refine lv_iload_n hx hb dB_36_4_5.2.1.1.2 rfl (lv_at hl 2 rfl) ?_
    refine va_iald hx hb hK.1 hP 3 0 rfl rfl (i := a2) h_1 dB_36_4_5.2.1.2.1 ?_
    refine lv_topi (fun y_5 ey_5 => ?_)
    have e_ := (ey_5.trans ey_2.symm).symm
    subst e_
    skip
    refine lv_iconst (v := 5) hx hb dB_36_4_5.2.1.2.2 (by decide) ?_
    refine lv_icmp_ge (tgt := 25) hx hb dB_36_4_5.2.2.1.1 (by decide) (fun c_6 => ?_) (fun c_6 => ?_)
    · have t_6 : (5 : Int32).toInt ≤ y_2.toInt := Int32.le_iff_toInt_le.mp c_6
      refine lv_aload_n hx hb dB_36_4_5.2.2.2.2 rfl (lv_at hl 0 rfl) ?_
      refine lv_aload_n hx hb dB_36_4_6.1.1.1.1 rfl (lv_at hl 1 rfl) ?_
      refine lv_iload_n hx hb dB_36_4_6.1.1.1.2 rfl (lv_at hl 2 rfl) ?_
      refine lv_iconst (v := 0) hx hb dB_36_4_6.1.1.2.1 (by decide) ?_
      refine ct_R hP hD0 [ob4_0_ mm mk mr ml mu, aj_ cy mu 30 fn] [2, 4] (by decide) rfl (fun hPc hDw => ?_)
      have hFc := va_free (wc := []) hD hS hA [] rfl
      refine va_calll (va_runV (As := [.int a2, .int 0]) (rest := [.ref xo]) ⟨hx, hb, hml, hown, hts⟩ (c_X4_number l D cy s.heap.size mm ml mu mk mr fn a2 (0 : Int32) (by first | with_reducible assumption | omega | assumption) (by first | with_reducible assumption | omega | assumption)) (cwV 2 hts gX11_readRefusal_X4_number rfl rfl rfl ⟨rfl, hd_X4_number⟩ ⟨Nat.le_of_ble_eq_true rfl, Nat.le_of_ble_eq_true rfl⟩) ⟨bl_, va_recvX hK.1 hP (ci := 4) (q0 := 2) rfl rfl, fun U hU hW => ⟨rfl, by rw [hU], by rw [hU]; exact hPc, kk_mv hW hK, hDw⟩⟩ rfl rfl hl.1 rfl (lv_room (Nat.le_of_ble_eq_true rfl)) dB_36_4_6.1.1.2.2 ⟨Nat.le_of_ble_eq_true rfl, Nat.le_of_ble_eq_true rfl⟩) hS (fun q _ h => hFc q h) hFc (fun r_7 u t H locs ht hvm hw hB hz1 hk1 hS => ?_)
      have hP : va_P D vwCl _ H := ro_keep hP hk1
      have f0_r_7 := hw
      have nk0 : r_7.toInt = (fn (5 * a2.toNatClampNeg + 0)).toInt := num_at f0_r_7 (by omega) (by omega)
      refine lv_aload_n hx hb dB_36_4_6.1.2.1.1 rfl (lv_at hl 1 rfl) ?_
      refine lv_iload_n hx hb dB_36_4_6.1.2.1.2 rfl (lv_at hl 2 rfl) ?_
      refine lv_iconst (v := 1) hx hb dB_36_4_6.1.2.2.1 (by decide) ?_
      refine ct_R hP hD0 [ob4_0_ mm mk mr ml mu, aj_ cy mu 30 fn] [2, 4] (by decide) rfl (fun hPc hDw => ?_)
      have hFc := va_free (wc := []) hD hS hA [] rfl
      refine va_calll (va_runV (As := [.int a2, .int 1]) (rest := [.long r_7, .ref xo]) ⟨hx, hb, hml, hown, hts⟩ (c_X4_number l D cy H.size mm ml mu mk mr fn a2 (1 : Int32) (by first | with_reducible assumption | omega | assumption) (by first | with_reducible assumption | omega | assumption)) (cwV 2 hts gX11_readRefusal_X4_number rfl rfl rfl ⟨rfl, hd_X4_number⟩ ⟨Nat.le_of_ble_eq_true rfl, Nat.le_of_ble_eq_true rfl⟩) ⟨bl_, va_recvX hK.1 hP (ci := 4) (q0 := 2) rfl rfl, fun U hU hW => ⟨rfl, by rw [hU], by rw [hU]; exact hPc, kk_mv hW hK, hDw⟩⟩ rfl rfl hl.1 rfl (lv_room (Nat.le_of_ble_eq_true rfl)) dB_36_4_6.1.2.2.2 ⟨Nat.le_of_ble_eq_true rfl, Nat.le_of_ble_eq_true rfl⟩) hS (fun q _ h => hFc q h) hFc (fun r_8 u t H locs ht hvm hw hB hz1 hk1 hS => ?_)
      have hP : va_P D vwCl _ H := ro_keep hP hk1
      have f0_r_8 := hw
      have nk1 : r_8.toInt = (fn (5 * a2.toNatClampNeg + 1)).toInt := num_at f0_r_8 (by omega) (by omega)
      refine lv_aload_n hx hb dB_36_4_6.2.1.1.1 rfl (lv_at hl 1 rfl) ?_
      refine lv_iload_n hx hb dB_36_4_6.2.1.1.2 rfl (lv_at hl 2 rfl) ?_
      refine lv_iconst (v := 2) hx hb dB_36_4_6.2.1.2.1 (by decide) ?_
      refine ct_R hP hD0 [ob4_0_ mm mk mr ml mu, aj_ cy mu 30 fn] [2, 4] (by decide) rfl (fun hPc hDw => ?_)
      have hFc := va_free (wc := []) hD hS hA [] rfl
      refine va_calll (va_runV (As := [.int a2, .int 2]) (rest := [.long r_8, .long r_7, .ref xo]) ⟨hx, hb, hml, hown, hts⟩ (c_X4_number l D cy H.size mm ml mu mk mr fn a2 (2 : Int32) (by first | with_reducible assumption | omega | assumption) (by first | with_reducible assumption | omega | assumption)) (cwV 2 hts gX11_readRefusal_X4_number rfl rfl rfl ⟨rfl, hd_X4_number⟩ ⟨Nat.le_of_ble_eq_true rfl, Nat.le_of_ble_eq_true rfl⟩) ⟨bl_, va_recvX hK.1 hP (ci := 4) (q0 := 2) rfl rfl, fun U hU hW => ⟨rfl, by rw [hU], by rw [hU]; exact hPc, kk_mv hW hK, hDw⟩⟩ rfl rfl hl.1 rfl (lv_room (Nat.le_of_ble_eq_true rfl)) dB_36_4_6.2.1.2.2 ⟨Nat.le_of_ble_eq_true rfl, Nat.le_of_ble_eq_true rfl⟩) hS (fun q _ h => hFc q h) hFc (fun r_9 u t H locs ht hvm hw hB hz1 hk1 hS => ?_)
      have hP : va_P D vwCl _ H := ro_keep hP hk1
      have f0_r_9 := hw
      have nk2 : r_9.toInt = (fn (5 * a2.toNatClampNeg + 2)).toInt := num_at f0_r_9 (by omega) (by omega)
      refine lv_aload_n hx hb dB_36_4_6.2.2.1.1 rfl (lv_at hl 1 rfl) ?_
      refine lv_iload_n hx hb dB_36_4_6.2.2.1.2 rfl (lv_at hl 2 rfl) ?_
      refine lv_iconst (v := 3) hx hb dB_36_4_6.2.2.2.1 (by decide) ?_
      refine ct_R hP hD0 [ob4_0_ mm mk mr ml mu, aj_ cy mu 30 fn] [2, 4] (by decide) rfl (fun hPc hDw => ?_)
      have hFc := va_free (wc := []) hD hS hA [] rfl
      refine va_calll (va_runV (As := [.int a2, .int 3]) (rest := [.long r_9, .long r_8, .long r_7, .ref xo]) ⟨hx, hb, hml, hown, hts⟩ (c_X4_number l D cy H.size mm ml mu mk mr fn a2 (3 : Int32) (by first | with_reducible assumption | omega | assumption) (by first | with_reducible assumption | omega | assumption)) (cwV 2 hts gX11_readRefusal_X4_number rfl rfl rfl ⟨rfl, hd_X4_number⟩ ⟨Nat.le_of_ble_eq_true rfl, Nat.le_of_ble_eq_true rfl⟩) ⟨bl_, va_recvX hK.1 hP (ci := 4) (q0 := 2) rfl rfl, fun U hU hW => ⟨rfl, by rw [hU], by rw [hU]; exact hPc, kk_mv hW hK, hDw⟩⟩ rfl rfl hl.1 rfl (lv_room (Nat.le_of_ble_eq_true rfl)) dB_36_4_6.2.2.2.2 ⟨Nat.le_of_ble_eq_true rfl, Nat.le_of_ble_eq_true rfl⟩) hS (fun q _ h => hFc q h) hFc (fun r_10 u t H locs ht hvm hw hB hz1 hk1 hS => ?_)
      have hP : va_P D vwCl _ H := ro_keep hP hk1
      have f0_r_10 := hw
      have nk3 : r_10.toInt = (fn (5 * a2.toNatClampNeg + 3)).toInt := num_at f0_r_10 (by omega) (by omega)
      refine lv_aload_n hx hb dB_36_4_7.1.1 rfl (lv_at hl 1 rfl) ?_
      refine lv_iload_n hx hb dB_36_4_7.1.2.1 rfl (lv_at hl 2 rfl) ?_
      refine lv_iconst (v := 4) hx hb dB_36_4_7.1.2.2 (by decide) ?_
      refine ct_R hP hD0 [ob4_0_ mm mk mr ml mu, aj_ cy mu 30 fn] [2, 4] (by decide) rfl (fun hPc hDw => ?_)
      have hFc := va_free (wc := []) hD hS hA [] rfl
      refine va_calll (va_runVW (W := 16) (As := [.int a2, .int 4]) (rest := [.long r_10, .long r_9, .long r_8, .long r_7, .ref xo]) ⟨hx, hb, hml, hown, hts⟩ (c_X4_number l D cy H.size mm ml mu mk mr fn a2 (4 : Int32) (by first | with_reducible assumption | omega | assumption) (by first | with_reducible assumption | omega | assumption)) (cwV 2 hts gX11_readRefusal_X4_number rfl rfl rfl ⟨rfl, hd_X4_number⟩ ⟨Nat.le_of_ble_eq_true rfl, Nat.le_of_ble_eq_true rfl⟩) (Nat.le_of_ble_eq_true rfl) ⟨bl_, va_recvX hK.1 hP (ci := 4) (q0 := 2) rfl rfl, fun U hU hW => ⟨rfl, by rw [hU], by rw [hU]; exact hPc, kk_mv hW hK, hDw⟩⟩ rfl rfl hl.1 rfl (by show 2 * 0 + _ ≤ 16; exact Nat.le_of_ble_eq_true rfl) dB_36_4_7.2.1 ⟨Nat.le_of_ble_eq_true rfl, Nat.le_of_ble_eq_true rfl⟩) hS (fun q _ h => hFc q h) hFc (fun r_11 u t H locs ht hvm hw hB hz1 hk1 hS => ?_)
      have hP : va_P D vwCl _ H := ro_keep hP hk1
      have f0_r_11 := hw
      have nk4 : r_11.toInt = (fn (5 * a2.toNatClampNeg + 4)).toInt := num_at f0_r_11 (by omega) (by omega)
      refine ct_R hP hD0 [ob11_0_ xo xk xn xc xh xt xw xm xp pf ph tr fi, ob3_0_ xn vp vn n1 n2 n3 n4 n5] [0, 1] (by decide) rfl (fun hPc hDw => ?_)
      have hFc := va_free (wc := []) hD hS hA [] rfl
      refine va_calli (va_runV (As := [.long r_7, .long r_8, .long r_9, .long r_10, .long r_11]) (rest := []) ⟨hx, hb, hml, hown, hts⟩ (c_X11_lineRefusal l D cy H.size xo xk xn xc xh xt xw xm xp pf ph tr fi n1 n2 n3 n4 n5 vp vn r_7 r_8 r_9 r_10 r_11 (by first | with_reducible assumption | omega | assumption) (by first | with_reducible assumption | omega | assumption)) (cwV 5 hts gX11_readRefusal_X11_lineRefusal rfl rfl rfl ⟨rfl, hd_X11_lineRefusal⟩ ⟨Nat.le_of_ble_eq_true rfl, Nat.le_of_ble_eq_true rfl⟩) ⟨bl_, va_recvX hK.1 hP (ci := 11) (q0 := 0) rfl rfl, fun U hU hW => ⟨rfl, by rw [hU], by rw [hU]; exact hPc, kk_mv hW hK, hDw⟩⟩ rfl rfl hl.1 rfl (lv_room (Nat.le_of_ble_eq_true rfl)) dB_36_4_7.2.2.1 ⟨Nat.le_of_ble_eq_true rfl, Nat.le_of_ble_eq_true rfl⟩) hS (fun q _ h => hFc q h) hFc (fun r_12 u t H locs ht hvm hw hB hz1 hk1 hS => ?_)
      have hP : va_P D vwCl _ H := ro_keep hP hk1
      rcases hw with ⟨w_13, e_⟩ | ⟨w_13, e_⟩ | ⟨w_13, e_⟩
      · have e_ := e_.symm
        subst e_
        rw [hQ]
        exact W.iret (v := (-1)) hx hb hr (fun t ht hW => ⟨⟨(-1), (), rfl, ⟨by omega, by unfold rwC rdI lnI; (repeat' split) <;> omega⟩, trivial⟩, hS.F ht⟩) hS.2.2 dB_36_4_7.2.2.2
      · have e_ := e_.symm
        subst e_
        rw [hQ]
        exact W.iret (v := (-3)) hx hb hr (fun t ht hW => ⟨⟨(-3), (), rfl, ⟨by omega, by unfold rwC rdI lnI; (repeat' split) <;> omega⟩, trivial⟩, hS.F ht⟩) hS.2.2 dB_36_4_7.2.2.2
      · have e_ := e_.symm
        subst e_
        rw [hQ]
        exact W.iret (v := 0) hx hb hr (fun t ht hW => ⟨⟨0, (), rfl, ⟨by omega, by unfold rwC rdI lnI; (repeat' split) <;> omega⟩, trivial⟩, hS.F ht⟩) hS.2.2 dB_36_4_7.2.2.2
    · have t_6 : ¬ (5 : Int32).toInt ≤ y_2.toInt := fun h => c_6 (Int32.le_iff_toInt_le.mpr h)
      refine lv_bipush (v := (-12)) hx hb dB_36_4_5.2.2.1.2 (by decide) ?_
      rw [hQ]
      exact W.iret (v := (-12)) hx hb hr (fun t ht hW => ⟨⟨(-12), (), rfl, ⟨by omega, by unfold rwC rdI lnI; (repeat' split) <;> omega⟩, trivial⟩, hS.F ht⟩) hS.2.2 dB_36_4_5.2.2.2.1
  · have t_3 : ¬ (0 : Int32).toInt ≤ y_2.toInt := fun h => c_3 (Int32.le_iff_toInt_le.mpr h)
    refine lv_bipush (v := (-11)) hx hb dB_36_4_5.1.2.1.2 (by decide) ?_
    rw [hQ]
    exact W.iret (v := (-11)) hx hb hr (fun t ht hW => ⟨⟨(-11), (), rfl, ⟨by omega, by unfold rwC rdI lnI; (repeat' split) <;> omega⟩, trivial⟩, hS.F ht⟩) hS.2.2 dB_36_4_5.1.2.2.1
