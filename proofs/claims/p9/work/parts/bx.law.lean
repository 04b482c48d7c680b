/-! ===== the law's steps over both nets ===== -/
section STEP
variable {pf ph vp vn epf eph evp evn P N n3 n4 s11 n11 efi n1 a b c d k x y : Int32} {pv epv : Nat → Nat → Int32} {pg epg : Nat → Nat → Nat → Int32} {fk fs fe fw fp efk efs efe efw efp f5 f6 f7 f8 f9 f10 e5 e6 e7 e8 e9 e10 f12 f13 f14 e12 e13 e14 : Nat → Int32}
theorem nrel_place (h : nrel vp vn fk fs fe fw fp P N f5 f6 f7 f8 f9 f10) (hc : (plI vp.toInt = 0 → evp.toInt = vp.toInt + 1) ∧ (plI vp.toInt ≠ 0 → evp = vp)) (hm : (plI P.toInt = 0 → n3.toInt = P.toInt + 1) ∧ (plI P.toInt ≠ 0 → n3 = P)) : nrel evp vn fk fs fe fw fp n3 N f5 f6 f7 f8 f9 f10 := by
  refine ⟨?_, h.2⟩
  have e := h.1
  rw [← e] at hm
  by_cases z : plI vp.toInt = 0
  · exact Int32.toInt_inj.mp (by rw [hc.1 z, hm.1 z])
  · rw [hc.2 z, hm.2 z]
theorem nrel_line (h : nrel vp vn fk fs fe fw fp P N f5 f6 f7 f8 f9 f10) (h0 : 0 ≤ N.toInt) (hc : (lnI k.toInt a.toInt b.toInt c.toInt d.toInt vp.toInt vn.toInt = 0 → addd vn fk fs fe fw fp k a b c d evn efk efs efe efw efp) ∧ (lnI k.toInt a.toInt b.toInt c.toInt d.toInt vp.toInt vn.toInt ≠ 0 → evn = vn ∧ efk = fk ∧ efs = fs ∧ efe = fe ∧ efw = fw ∧ efp = fp))
    (hm : (lnI k.toInt a.toInt b.toInt c.toInt d.toInt P.toInt N.toInt = 0 → adR N f5 f6 f7 f8 f9 f10 k a b c d n4 e5 e6 e7 e8 e9 e10) ∧ (lnI k.toInt a.toInt b.toInt c.toInt d.toInt P.toInt N.toInt ≠ 0 → n4 = N ∧ e5 = f5 ∧ e6 = f6 ∧ e7 = f7 ∧ e8 = f8 ∧ e9 = f9 ∧ e10 = f10)) : nrel vp evn efk efs efe efw efp P n4 e5 e6 e7 e8 e9 e10 := by
  have q1 := h.1
  have q2 := h.2.1
  by_cases z : lnI k.toInt a.toInt b.toInt c.toInt d.toInt P.toInt N.toInt = 0
  · exact nrel_addd h h0 (hc.1 (by rw [q1, q2]; exact z)) (hm.1 z)
  · obtain ⟨a1, a2, a3, a4, a5, a6⟩ := hc.2 (by rw [q1, q2]; exact z)
    obtain ⟨b1, b2, b3, b4, b5, b6, b7⟩ := hm.2 z
    rw [a1, a2, a3, a4, a5, a6, b1, b2, b3, b4, b5, b6, b7]
    exact h
theorem nrel_widen (h : nrel vp vn fk fs fe fw fp P N f5 f6 f7 f8 f9 f10) (r6 : rng f6 40 0 11) (hN : N.toInt ≤ 40) (hc : (wdI a.toInt b.toInt vn.toInt (fk a.toNatClampNeg).toInt (fw a.toNatClampNeg).toInt (gI (fs a.toNatClampNeg).toInt) = 0 → efw = upd fw a.toNatClampNeg (fw a.toNatClampNeg + b)) ∧ (wdI a.toInt b.toInt vn.toInt (fk a.toNatClampNeg).toInt (fw a.toNatClampNeg).toInt (gI (fs a.toNatClampNeg).toInt) ≠ 0 → efw = fw))
    (hm : (wdI a.toInt b.toInt N.toInt (f5 a.toNatClampNeg).toInt (f8 a.toNatClampNeg).toInt (f10 a.toNatClampNeg).toInt = 0 → e8 = upd f8 a.toNatClampNeg (f8 a.toNatClampNeg + b)) ∧ (wdI a.toInt b.toInt N.toInt (f5 a.toNatClampNeg).toInt (f8 a.toNatClampNeg).toInt (f10 a.toNatClampNeg).toInt ≠ 0 → e8 = f8)) : nrel vp vn fk fs fe efw fp P N f5 f6 f7 e8 f9 f10 := by
  rw [wd_same h r6 hN] at hc
  by_cases z : wdI a.toInt b.toInt N.toInt (f5 a.toNatClampNeg).toInt (f8 a.toNatClampNeg).toInt (f10 a.toNatClampNeg).toInt = 0
  · have w := wdI_0 z
    obtain ⟨_, l2, _⟩ := nrel_at h r6 hN w.1.1 w.1.2
    exact nrel_w h (hc.1 z) (hm.1 z) (by rw [l2])
  · rw [hc.2 z, hm.2 z]
    exact h
theorem nrel_width (h : nrel vp vn fk fs fe fw fp P N f5 f6 f7 f8 f9 f10) (r6 : rng f6 40 0 11) (hN : N.toInt ≤ 40) (hc : (wtI a.toInt b.toInt vn.toInt (gI (fs a.toNatClampNeg).toInt) = 0 → efw = upd fw a.toNatClampNeg b) ∧ (wtI a.toInt b.toInt vn.toInt (gI (fs a.toNatClampNeg).toInt) ≠ 0 → efw = fw))
    (hm : (wtI a.toInt b.toInt N.toInt (f10 a.toNatClampNeg).toInt = 0 → e8 = upd f8 a.toNatClampNeg b) ∧ (wtI a.toInt b.toInt N.toInt (f10 a.toNatClampNeg).toInt ≠ 0 → e8 = f8)) : nrel vp vn fk fs fe efw fp P N f5 f6 f7 e8 f9 f10 := by
  rw [wt_same h r6 hN] at hc
  by_cases z : wtI a.toInt b.toInt N.toInt (f10 a.toNatClampNeg).toInt = 0
  · exact nrel_w h (hc.1 z) (hm.1 z) rfl
  · rw [hc.2 z, hm.2 z]
    exact h
theorem nrel_mrg (h : nrel vp vn fk fs fe fw fp P N f5 f6 f7 f8 f9 f10) (r6 : rng f6 40 0 11) (hN : N.toInt ≤ 40) (hc : (mgI a.toInt b.toInt vp.toInt = 0 → evp.toInt = vp.toInt - 1 ∧ jnd (loI a.toInt b.toInt) (hiI a.toInt b.toInt) fs fe efs efe vn.toInt) ∧ (mgI a.toInt b.toInt vp.toInt ≠ 0 → evp = vp ∧ efs = fs ∧ efe = fe))
    (hm : (mgI a.toInt b.toInt P.toInt = 0 → n3.toInt = P.toInt - 1 ∧ mrgd (loI a.toInt b.toInt) (hiI a.toInt b.toInt) f6 f7 f10 e6 e7 e10 N.toInt) ∧ (mgI a.toInt b.toInt P.toInt ≠ 0 → n3 = P ∧ e6 = f6 ∧ e7 = f7 ∧ e10 = f10)) : nrel evp vn fk efs efe fw fp n3 N f5 e6 e7 f8 f9 e10 := by
  have q1 := h.1
  have q2 := h.2.1
  rw [q1] at hc
  by_cases z : mgI a.toInt b.toInt P.toInt = 0
  · have u := hc.1 z
    have v := hm.1 z
    rw [q2] at u
    exact nrel_merge h u.2 v.2 (Int.le_refl _) (Int.le_refl _) r6 hN (Int32.toInt_inj.mp (by rw [u.1, v.1]))
  · obtain ⟨a1, a2, a3⟩ := hc.2 z
    obtain ⟨b1, b2, b3, b4⟩ := hm.2 z
    rw [a1, a2, a3, b1, b2, b3, b4, ← q1]
    rw [← q1] at h
    exact h
theorem und_both (h : nrel vp vn fk fs fe fw fp P N f5 f6 f7 f8 f9 f10) (hp : prel pf ph pv pg s11.toInt f12 f13 f14) (hU : 0 ≤ s11.toInt) (h40 : n4.toInt ≤ 40) (hc : (ph.toInt = 0 → epf = pf ∧ eph = ph ∧ evp = vp ∧ evn = vn ∧ efk = fk ∧ efs = fs ∧ efe = fe ∧ efw = fw ∧ efp = fp ∧ epv = pv ∧ epg = pg) ∧ (ph.toInt ≠ 0 → undd pf ph pv pg epf eph evp evn efk efs efe efw efp epv epg))
    (hm : (s11.toInt = 0 → n3 = P ∧ n4 = N ∧ e5 = f5 ∧ e6 = f6 ∧ e7 = f7 ∧ e8 = f8 ∧ e9 = f9 ∧ e10 = f10 ∧ n11 = s11) ∧ (s11.toInt ≠ 0 → n11.toInt = s11.toInt - 1 ∧ n3 = f12 n11.toNatClampNeg ∧ n4 = f13 n11.toNatClampNeg ∧ ∀ j : Nat, j < 40 → back f14 (200 * n11.toNatClampNeg) e5 e6 e7 e8 e9 e10 j)) : nrel evp evn efk efs efe efw efp n3 n4 e5 e6 e7 e8 e9 e10 ∧ prel epf eph epv epg n11.toInt f12 f13 f14 := by
  have q := hp.1
  by_cases z : s11.toInt = 0
  · obtain ⟨a1, a2, a3, a4, a5, a6, a7, a8, a9, a10, a11⟩ := hc.1 (by omega)
    obtain ⟨b1, b2, b3, b4, b5, b6, b7, b8, b9⟩ := hm.1 z
    rw [a1, a2, a3, a4, a5, a6, a7, a8, a9, a10, a11, b1, b2, b3, b4, b5, b6, b7, b8, b9]
    exact ⟨h, hp⟩
  · obtain ⟨b1, b2, b3, b4⟩ := hm.2 z
    exact und_rel hp (hc.2 (by omega)) (by omega) b1 b2 b3 b4 h40
theorem ans_widen (h : nrel vp vn fk fs fe fw fp P N f5 f6 f7 f8 f9 f10) (r6 : rng f6 40 0 11) (hN : N.toInt ≤ 40) (hx : (wdI a.toInt b.toInt vn.toInt (fk a.toNatClampNeg).toInt (fw a.toNatClampNeg).toInt (gI (fs a.toNatClampNeg).toInt) = 0 → x = cstV (fk a.toNatClampNeg) (fp a.toNatClampNeg) * b) ∧ (wdI a.toInt b.toInt vn.toInt (fk a.toNatClampNeg).toInt (fw a.toNatClampNeg).toInt (gI (fs a.toNatClampNeg).toInt) ≠ 0 → x.toInt = wdI a.toInt b.toInt vn.toInt (fk a.toNatClampNeg).toInt (fw a.toNatClampNeg).toInt (gI (fs a.toNatClampNeg).toInt)))
    (hy : (wdI a.toInt b.toInt N.toInt (f5 a.toNatClampNeg).toInt (f8 a.toNatClampNeg).toInt (f10 a.toNatClampNeg).toInt = 0 → y = b * cstV (f5 a.toNatClampNeg) (f9 a.toNatClampNeg)) ∧ (wdI a.toInt b.toInt N.toInt (f5 a.toNatClampNeg).toInt (f8 a.toNatClampNeg).toInt (f10 a.toNatClampNeg).toInt ≠ 0 → y.toInt = wdI a.toInt b.toInt N.toInt (f5 a.toNatClampNeg).toInt (f8 a.toNatClampNeg).toInt (f10 a.toNatClampNeg).toInt)) : x = y := by
  rw [wd_same h r6 hN] at hx
  by_cases z : wdI a.toInt b.toInt N.toInt (f5 a.toNatClampNeg).toInt (f8 a.toNatClampNeg).toInt (f10 a.toNatClampNeg).toInt = 0
  · have w := wdI_0 z
    obtain ⟨l1, _, l3, _⟩ := nrel_at h r6 hN w.1.1 w.1.2
    rw [hx.1 z, hy.1 z, l1, l3]
    exact Int32.mul_comm _ _
  · exact Int32.toInt_inj.mp (by rw [hx.2 z, hy.2 z])
theorem ans_width (h : nrel vp vn fk fs fe fw fp P N f5 f6 f7 f8 f9 f10) (r6 : rng f6 40 0 11) (hN : N.toInt ≤ 40) (hx : (wtI a.toInt b.toInt vn.toInt (gI (fs a.toNatClampNeg).toInt) = 0 → x = fw a.toNatClampNeg) ∧ (wtI a.toInt b.toInt vn.toInt (gI (fs a.toNatClampNeg).toInt) ≠ 0 → x.toInt = wtI a.toInt b.toInt vn.toInt (gI (fs a.toNatClampNeg).toInt)))
    (hy : (wtI a.toInt b.toInt N.toInt (f10 a.toNatClampNeg).toInt = 0 → y = f8 a.toNatClampNeg) ∧ (wtI a.toInt b.toInt N.toInt (f10 a.toNatClampNeg).toInt ≠ 0 → y.toInt = wtI a.toInt b.toInt N.toInt (f10 a.toNatClampNeg).toInt)) : x = y := by
  rw [wt_same h r6 hN] at hx
  by_cases z : wtI a.toInt b.toInt N.toInt (f10 a.toNatClampNeg).toInt = 0
  · have w := wtI_0 z
    obtain ⟨_, l2, _⟩ := nrel_at h r6 hN w.1.1 w.1.2
    rw [hx.1 z, hy.1 z, l2]
  · exact Int32.toInt_inj.mp (by rw [hx.2 z, hy.2 z])
theorem ans_merge (h : nrel vp vn fk fs fe fw fp P N f5 f6 f7 f8 f9 f10) (r6 : rng f6 40 0 11) (hN : 0 ≤ N.toInt ∧ N.toInt ≤ 40) (hx : (mgI a.toInt b.toInt vp.toInt = 0 → x.toInt = sumI (jnF (loI a.toInt b.toInt) (hiI a.toInt b.toInt) fs fe) vn.toNatClampNeg) ∧ (mgI a.toInt b.toInt vp.toInt ≠ 0 → x.toInt = -1))
    (hy : (mgI a.toInt b.toInt P.toInt = 0 → y.toInt = sumI (mgF (loI a.toInt b.toInt) (hiI a.toInt b.toInt) f6 f7 f10) N.toNatClampNeg) ∧ (mgI a.toInt b.toInt P.toInt ≠ 0 → y.toInt = -1)) : x = y := by
  rw [h.1] at hx
  by_cases z : mgI a.toInt b.toInt P.toInt = 0
  · exact Int32.toInt_inj.mp (by rw [hx.1 z, hy.1 z, cnt_merge h r6 hN])
  · exact Int32.toInt_inj.mp (by rw [hx.2 z, hy.2 z])
theorem ans_about (h : nrel vp vn fk fs fe fw fp P N f5 f6 f7 f8 f9 f10) (r6 : rng f6 40 0 11) (hN : 0 ≤ N.toInt ∧ N.toInt ≤ 40) (hp : ph.toInt = s11.toInt) (hx : x.toInt = abI a.toInt vp.toInt vn.toInt (sumI (msF fs) vn.toNatClampNeg) ph.toInt (whI vp.toInt (sumI (bkF fk fs) vn.toNatClampNeg))) (hy : y.toInt = abI a.toInt P.toInt N.toInt (sumI (mgC f10) N.toNatClampNeg) s11.toInt (whI P.toInt (sumI (bkR f5 f10) N.toNatClampNeg))) : x = y := by
  rw [ms_same h r6 hN, bk_same h r6 hN, hp, h.1, h.2.1] at hx
  exact Int32.toInt_inj.mp (by rw [hx, hy])
end STEP
section READ
variable {mk mr : Nat → Int32} {fl : Nat → Nat → Int32} {fn : Nat → Nat → Int64} {f15 f16 f17 f18 : Nat → Int32} {f19 : Nat → Int64} {a x y : Int32}
theorem read_row (hm : mrel mk mr fl fn f15 f16 f17 f18 f19) (h6 : ∀ q : Nat, q < 4 → (mr q).toInt ≤ 6) {A : Nat} (hA : A < 4) (h9 : (mr A).toInt ≠ -9) {P : Int} : mr A = f17 A ∧ (∀ (i : Nat) (n : Int), (i : Int) < (mr A).toInt → rwC (fl A) (fn A) P i n = rwR f18 f19 A P i n) ∧ ∀ i : Nat, (i : Int) < (mr A).toInt → (fl A i).toInt ≠ -9 → ∀ q : Nat, q < 5 → fn A (5 * i + q) = f19 (30 * A + 5 * i + q) := by
  obtain ⟨g1, g2, g3, g4⟩ := (hm A hA).2 h9
  have b6 := h6 A hA
  have cell : ∀ i : Nat, (i : Int) < (mr A).toInt → (fl A i).toInt ≠ -9 → ∀ q : Nat, q < 5 → fn A (5 * i + q) = f19 (30 * A + 5 * i + q) := fun i hi hl q hq => by
    rw [g4 (5 * i + q) (by omega) (by rw [show (5 * i + q) / 5 = i by omega]; exact hl), show 30 * A + (5 * i + q) = 30 * A + 5 * i + q by omega]
  exact ⟨g2, fun i n hi => rw_same (g3 i (by omega)) (cell i hi), cell⟩
theorem rd_row {fl2 : Nat → Int32} {fn2 : Nat → Int64} {P N rows c st : Int} (h : rdn (rwC fl2 fn2 P) N rows c st) : ∀ i : Nat, (i : Int) < c → (fl2 i).toInt ≠ -9 ∧ (i : Int) < rows := fun i hi => by
  have w := h.2.1 i hi
  have r := rdI_0 w
  have b := h.1.2
  exact ⟨by omega, by omega⟩
theorem ans_read {N P : Int32} {vp vn : Int32} (hm : mrel mk mr fl fn f15 f16 f17 f18 f19) (h6 : ∀ q : Nat, q < 4 → (mr q).toInt ≤ 6) (e1 : vp = P) (e2 : vn = N) (hx : (¬ (0 ≤ a.toInt ∧ a.toInt < 4) → x.toInt = -1) ∧ ((0 ≤ a.toInt ∧ a.toInt < 4) → (mr a.toNatClampNeg).toInt = -9 → x.toInt = 0) ∧ ((0 ≤ a.toInt ∧ a.toInt < 4) → (mr a.toNatClampNeg).toInt ≠ -9 → ∃ st : Int, rdn (rwC (fl a.toNatClampNeg) (fn a.toNatClampNeg) vp.toInt) vn.toInt (mr a.toNatClampNeg).toInt x.toInt st))
    (hy : (¬ (0 ≤ a.toInt ∧ a.toInt < 4) → y.toInt = -1) ∧ ((0 ≤ a.toInt ∧ a.toInt < 4) → (f15 a.toNatClampNeg).toInt = 0 → y.toInt = 0) ∧ ((0 ≤ a.toInt ∧ a.toInt < 4) → (f15 a.toNatClampNeg).toInt ≠ 0 → ∃ st : Int, rdn (rwR f18 f19 a.toNatClampNeg P.toInt) N.toInt (f17 a.toNatClampNeg).toInt y.toInt st)) : x = y := by
  refine Int32.toInt_inj.mp ?_
  by_cases w : 0 ≤ a.toInt ∧ a.toInt < 4
  · have c := clI (i := a) w.1
    have hA : a.toNatClampNeg < 4 := by omega
    have k := (hm _ hA).1
    by_cases z : (mr a.toNatClampNeg).toInt = -9
    · rw [hx.2.1 w z, hy.2.1 w (k.mp z)]
    · obtain ⟨s1, d1⟩ := hx.2.2 w z
      obtain ⟨s2, d2⟩ := hy.2.2 w (fun q => z (k.mpr q))
      obtain ⟨g1, g2, _⟩ := read_row hm h6 hA z (P := P.toInt)
      rw [e1, e2] at d1
      rw [← g1] at d2
      exact (rdn_un d1 d2 g2).1
  · rw [hx.1 w, hy.1 w]
theorem read_all {pf ph vp vn epf eph evn P N n4 efi n1 : Int32} {s11 n11 : Int} {pv epv : Nat → Nat → Int32} {pg epg : Nat → Nat → Nat → Int32} {fk fs fe fw fp efk efs efe efw efp f5 f6 f7 f8 f9 f10 e5 e6 e7 e8 e9 e10 f12 f13 f14 e12 e13 e14 : Nat → Int32} (hm : mrel mk mr fl fn f15 f16 f17 f18 f19) (h6 : ∀ q : Nat, q < 4 → (mr q).toInt ≤ 6) (h : nrel vp vn fk fs fe fw fp P N f5 f6 f7 f8 f9 f10) (hp : prel pf ph pv pg s11 f12 f13 f14) (h9 : rng f9 40 0 100) (h13 : rng f13 30 0 40) (hN : 0 ≤ N.toInt ∧ N.toInt ≤ 40) (hpf : 0 ≤ pf.toInt ∧ pf.toInt ≤ 29) (hU : 0 ≤ s11)
    (hc : (¬ (0 ≤ a.toInt ∧ a.toInt < 4) → efi.toInt = -1 ∧ chn 0 pf ph pv pg vp vn fk fs fe fw fp epf eph epv epg evn efk efs efe efw efp) ∧ ((0 ≤ a.toInt ∧ a.toInt < 4) → (mr a.toNatClampNeg).toInt = -9 → efi.toInt = -11 ∧ chn 0 pf ph pv pg vp vn fk fs fe fw fp epf eph epv epg evn efk efs efe efw efp) ∧ ((0 ≤ a.toInt ∧ a.toInt < 4) → (mr a.toNatClampNeg).toInt ≠ -9 → ∃ c : Int, rdn (rwC (fl a.toNatClampNeg) (fn a.toNatClampNeg) vp.toInt) vn.toInt (mr a.toNatClampNeg).toInt c efi.toInt ∧ chn c pf ph pv pg vp vn fk fs fe fw fp epf eph epv epg evn efk efs efe efw efp ∧ apC vn.toInt c fk fs fe fw fp efk efs efe efw efp (fn a.toNatClampNeg) ∧ evn.toInt = vn.toInt + c))
    (hr : (¬ (0 ≤ a.toInt ∧ a.toInt < 4) → n1.toInt = -1 ∧ kpn 0 P N f5 f6 f7 f8 f9 f10 s11 f12 f13 f14 n11 e12 e13 e14 n4 e5 e6 e7 e8 e9 e10) ∧ ((0 ≤ a.toInt ∧ a.toInt < 4) → (f15 a.toNatClampNeg).toInt = 0 → n1.toInt = -11 ∧ kpn 0 P N f5 f6 f7 f8 f9 f10 s11 f12 f13 f14 n11 e12 e13 e14 n4 e5 e6 e7 e8 e9 e10) ∧ ((0 ≤ a.toInt ∧ a.toInt < 4) → (f15 a.toNatClampNeg).toInt ≠ 0 → ∃ c : Int, rdn (rwR f18 f19 a.toNatClampNeg P.toInt) N.toInt (f17 a.toNatClampNeg).toInt c n1.toInt ∧ kpn c P N f5 f6 f7 f8 f9 f10 s11 f12 f13 f14 n11 e12 e13 e14 n4 e5 e6 e7 e8 e9 e10 ∧ apR N.toInt c f5 f6 f7 f8 f9 f10 e5 e6 e7 e8 e9 e10 f19 (30 * a.toNatClampNeg) ∧ n4.toInt = N.toInt + c)) :
    nrel vp evn efk efs efe efw efp P n4 e5 e6 e7 e8 e9 e10 ∧ prel epf eph epv epg n11 e12 e13 e14 ∧ efi = n1 := by
  have none : chn 0 pf ph pv pg vp vn fk fs fe fw fp epf eph epv epg evn efk efs efe efw efp → kpn 0 P N f5 f6 f7 f8 f9 f10 s11 f12 f13 f14 n11 e12 e13 e14 n4 e5 e6 e7 e8 e9 e10 → nrel vp evn efk efs efe efw efp P n4 e5 e6 e7 e8 e9 e10 ∧ prel epf eph epv epg n11 e12 e13 e14 := fun u v => by
    refine ⟨?_, prel_read hp h u v h9 h13 hN.2 hpf hU⟩
    obtain ⟨_, _, _, _, a5, a6, a7, a8, a9, a10⟩ := u.1 rfl
    obtain ⟨_, _, _, _, b5, b6, b7, b8, b9, b10, b11⟩ := v.1 rfl
    rw [a5, a6, a7, a8, a9, a10, b5, b6, b7, b8, b9, b10, b11]
    exact h
  by_cases w : 0 ≤ a.toInt ∧ a.toInt < 4
  · have c := clI (i := a) w.1
    have hA : a.toNatClampNeg < 4 := by omega
    have k := (hm _ hA).1
    by_cases z : (mr a.toNatClampNeg).toInt = -9
    · have u := hc.2.1 w z
      have v := hr.2.1 w (k.mp z)
      exact ⟨(none u.2 v.2).1, (none u.2 v.2).2, Int32.toInt_inj.mp (by rw [u.1, v.1])⟩
    · obtain ⟨c1, d1, u1, u2, u3⟩ := hc.2.2 w z
      obtain ⟨c2, d2, v1, v2, v3⟩ := hr.2.2 w (fun q => z (k.mpr q))
      obtain ⟨g1, g2, g3⟩ := read_row hm h6 hA z (P := P.toInt)
      have rr := rd_row d1
      rw [h.1, h.2.1] at d1
      rw [← g1] at d2
      obtain ⟨q1, q2⟩ := rdn_un d1 d2 g2
      subst q1
      refine ⟨nrel_read h hN.1 u2 v2 (fun i hi => g3 i (rr i hi).2 (rr i hi).1) u3 v3, prel_read hp h u1 v1 h9 h13 hN.2 hpf hU, Int32.toInt_inj.mp q2⟩
  · have u := hc.1 w
    have v := hr.1 w
    exact ⟨(none u.2 v.2).1, (none u.2 v.2).2, Int32.toInt_inj.mp (by rw [u.1, v.1])⟩
end READ
