-- ===== end of PART A; then your names; then what follows =====
/-! THE CLAIM OUT OF ONE WALK OF THE LAW'S BODY. Your part is whole_start (and what it stands on); all else here is the same for every law, but numbers. -/
def R_law : String := "CutAtlasLaw"
def lw_P (b : Addr) (xs : List Int32) (args : Array Value) (s : State) : Prop := args = #[.ref b] ∧ s.IntsAt b xs ∧ xs.length ≤ 7 ∧ (Jvm.Cond.and given_1 narrow_1).before args s = true
def lw_Q (_ : Array Value) (s : State) (o : Outcome) (t : State) : Prop := o = .returned (some (.int 1)) ∧ Framed s o t [] 600000 7302250
def lw_Z (below : List Frame) (a : Array Value) (s : State) : State → Prop := fun t => ∃ o, t.status = .running ∧ Ended t below o ∧ lw_Q a s o t
/-- the law's own end, with 1 on the stack, nothing written that was there before, its room as the claim has it -/
theorem lw_ret {p : Program} {l : Launch} {e : Env} {s : State} {m : MethodId} {below : List Frame} {meth : Method} {c : Code} {b : Nat} (hx : p.tables.exec = Jvm.exec) (hb : c.code = code) (hr : meth.sig.returnType = ret) (hlocks : meth.locks = false) {pc : Nat} {H : Heap} {ls : Array Slot} (hdg : decode code pc = .ok (.ireturn, 1)) : W p l e room_1 s m #[Value.ref b] below meth c H [] 600000 7302250 (lw_Z below #[Value.ref b] s) (F0 m pc ls [.int 1]) := by
  intro T hT X
  obtain ⟨fs, hret, hrun, hended, hW, hframe⟩ := X.leave (v := some (.int 1)) (hlocks := hlocks) (fun h => by rw [hr] at h; cases h)
  have hmeth' : T.vm.method? m = some meth := X.method'
  refine ⟨T.setFrames fs, ?_, .returned (some (.int 1)), hrun, hended, rfl, ⟨_, rfl⟩, hW, hframe⟩
  jvm_step X.here [X.here.top, hx, hb, hdg, hmeth', hr, ret, narrow_b1]
  (try refine ⟨rfl, ?_⟩); (try refine ⟨rfl, ?_⟩)
  first | (intro acts; rw [hret _ acts rfl rfl rfl]) | rw [hret _ _ rfl rfl rfl]
  exact Steps.refl _
/-- what holds at the law's entry: the machine, the code, the tables' words (any of lw_tbl by 'hts w (by decide +kernel)'), the script of L ints xs at the cell b, what the Statement gives of the start (any of its parts by flat_of_before) -/
def lw_At (p : Program) (s : State) (m : MethodId) (meth : Method) (c : Code) (b L : Nat) (xs : Nat → Int32) : Prop :=
  p.tables.exec = Jvm.exec ∧ c.code = code ∧ meth.sig.returnType = ret ∧ c.maxLocals = 4 ∧ s.vm.findClass R_law = some m.cls ∧ (∀ w ∈ lw_tbl, w.before #[Value.ref b] s = true) ∧ va_X b L xs s s.heap ∧ b < s.heap.size ∧ meth.locks = false ∧ (Jvm.Cond.and given_1 narrow_1).before #[Value.ref b] s = true
theorem ao_of {args : Array Value} {s : State} {C : String} (h : (Cond.arrayOver (.object C)).before args s = true) : va_AO C s ∧ ∃ c : ClassId, ArrOfT s c (.object C) ∧ va_RA s c (.object C) := by
  refine ⟨va_AO.of h, ?_⟩
  obtain ⟨comp, c, k, h1, h2, h3, h4, h5⟩ := Cond.arrayOver_spec h
  exact ⟨c, fun N z => ⟨(fun q hq => by cases hq), k, h3, comp, h4⟩, k, comp, h3, h4, h1, h5⟩
theorem ac_of {args : Array Value} {s : State} {t : FieldType} (h : (Cond.arrayClass t).before args s = true) (ho : ∀ C, t ≠ .object C) : ∃ c : ClassId, ArrOfT s c t ∧ va_RA s c t := by
  obtain ⟨c, k, comp, h1, h2, h3⟩ := Cond.arrayClass_spec h
  refine ⟨c, fun N z => ⟨(fun q hq => by cases hq), k, h2, comp, h3⟩, ?_⟩
  cases t <;> first | exact h1 | exact absurd rfl (ho _)
set_option maxHeartbeats 4000000 in
set_option maxRecDepth 100000 in
/-- the tables at the law's entry give what every contract asks -/
theorem kk_start {p : Program} {s : State} {m : MethodId} {meth : Method} {c : Code} {b L : Nat} {xs : Nat → Int32} (C0 : lw_At p s m meth c b L xs) : ∃ (D : va_G) (cy : Nat → ClassId), kk_ D cy s := by
  obtain ⟨hx, hb, hr, hml, hown, hts, hX, hbl, hlocks, hgv⟩ := C0
  obtain ⟨c0, i0, k0⟩ := u_known (C := RX0) (T := TX0) (N := 9) (n := 9) hts inf_X0 (hts (.instantiable RX0 9) kw_48)
  obtain ⟨c1, i1, k1⟩ := u_known (C := RX1) (T := TX1) (N := 3) (n := 3) hts inf_X1 (hts (.instantiable RX1 3) kw_40)
  obtain ⟨c2, i2, k2⟩ := u_known (C := RX2) (T := TX2) (N := 0) (n := 0) hts inf_X2 (hts (.instantiable RX2 0) kw_11)
  obtain ⟨c3, i3, k3⟩ := u_known (C := RX3) (T := TX3) (N := 7) (n := 7) hts inf_X3 (hts (.instantiable RX3 7) kw_4)
  obtain ⟨c4, i4, k4⟩ := u_known (C := RX4) (T := TX4) (N := 4) (n := 4) hts inf_X4 (hts (.instantiable RX4 4) kw_32)
  obtain ⟨c5, i5, k5⟩ := u_known (C := RX5) (T := TX5) (N := 0) (n := 0) hts inf_X5 (hts (.instantiable RX5 0) kw_17)
  obtain ⟨c6, i6, k6⟩ := u_known (C := RX6) (T := TX6) (N := 0) (n := 0) hts inf_X6 (hts (.instantiable RX6 0) kw_20)
  obtain ⟨c7, i7, k7⟩ := u_known (C := RX7) (T := TX7) (N := 9) (n := 9) hts inf_X7 (hts (.instantiable RX7 9) kw_44)
  obtain ⟨c8, i8, k8⟩ := u_known (C := RX8) (T := TX8) (N := 0) (n := 0) hts inf_X8 (hts (.instantiable RX8 0) kw_8)
  obtain ⟨c9, i9, k9⟩ := u_known (C := RX9) (T := TX9) (N := 0) (n := 0) hts inf_X9 (hts (.instantiable RX9 0) kw_14)
  obtain ⟨c10, i10, k10⟩ := u_known (C := RX10) (T := TX10) (N := 5) (n := 5) hts inf_X10 (hts (.instantiable RX10 5) kw_36)
  obtain ⟨c11, i11, k11⟩ := u_known (C := RX11) (T := TX11) (N := 12) (n := 12) hts inf_X11 (hts (.instantiable RX11 12) kw_1083)
  obtain ⟨c12, i12, k12⟩ := u_known (C := RX12) (T := TX12) (N := 34) (n := 34) hts inf_X12 (hts (.instantiable RX12 34) kw_1087)
  obtain ⟨aI, hI⟩ := ac_of (hts (.arrayClass .int) kw_56) (fun _ h => by cases h)
  obtain ⟨aJ, hJ⟩ := ac_of (hts (.arrayClass .long) kw_98) (fun _ h => by cases h)
  obtain ⟨aZ, hZ⟩ := ac_of (hts (.arrayClass .boolean) kw_178) (fun _ h => by cases h)
  obtain ⟨o6, a6, h6⟩ := ao_of (hts (.arrayOver (.object RX6)) kw_1090)
  obtain ⟨o4, a4, h4⟩ := ao_of (hts (.arrayOver (.object RX4)) kw_1091)
  obtain ⟨o3, a3, h3⟩ := ao_of (hts (.arrayOver (.object RX3)) kw_1092)
  have oI : va_AOA .int s := hts (.arrayOver (.array .int)) kw_1108
  refine ⟨(fun k => match k with | 0 => c0 | 1 => c1 | 2 => c2 | 3 => c3 | 4 => c4 | 5 => c5 | 6 => c6 | 7 => c7 | 8 => c8 | 9 => c9 | 10 => c10 | 11 => c11 | _ => c12, fun k => match k with | 0 => i0 | 1 => i1 | 2 => i2 | 3 => i3 | 4 => i4 | 5 => i5 | 6 => i6 | 7 => i7 | 8 => i8 | 9 => i9 | 10 => i10 | 11 => i11 | _ => i12), (fun k => match k with | 0 => aI | 1 => aJ | 2 => aZ | 3 => a6 | 4 => a4 | _ => a3), ⟨?_, ?_⟩, ⟨?_, ?_, ?_, ?_, ?_, ?_, ?_⟩, ⟨?_, ?_, ?_, ?_⟩, ⟨o6, o4, o3, oI⟩, ⟨?_, ?_, ?_, ?_⟩⟩
  · intro k q hq
    match k, hq with
    | 0, hq => cases hq; exact k0
    | 1, hq => cases hq; exact k1
    | 2, hq => cases hq; exact k2
    | 3, hq => cases hq; exact k3
    | 4, hq => cases hq; exact k4
    | 5, hq => cases hq; exact k5
    | 6, hq => cases hq; exact k6
    | 7, hq => cases hq; exact k7
    | 8, hq => cases hq; exact k8
    | 9, hq => cases hq; exact k9
    | 10, hq => cases hq; exact k10
    | 11, hq => cases hq; exact k11
    | 12, hq => cases hq; exact k12
    | k + 13, hq => simp [vwCl] at hq
  · intro k q hq
    match k, hq with
    | 0, hq => cases hq; exact hI
    | 1, hq => cases hq; exact hJ
    | 2, hq => cases hq; exact hZ
    | 3, hq => cases hq; exact h6
    | 4, hq => cases hq; exact h4
    | 5, hq => cases hq; exact h3
    | k + 6, hq => simp [tt_] at hq
  · exact va_Nw.of rfl (hts (.methodLinkNest RX11 9 yX6_init RX11) kw_1093)
  · exact va_Nw.of rfl (hts (.methodLinkNest RX11 12 yX5_init RX11) kw_1094)
  · exact va_Nw.of rfl (hts (.methodLinkNest RX11 15 yX9_init RX11) kw_1095)
  · exact va_Nw.of rfl (hts (.methodLinkNest RX11 18 yX2_init RX11) kw_1096)
  · exact va_Nw.of rfl (hts (.methodLinkNest RX11 21 yX8_init RX11) kw_1097)
  · exact va_Nw.of rfl (hts (.methodLinkNest RX11 30 yX3_init RX11) kw_1098)
  · exact va_Nw.of rfl (hts (.methodLinkNest RX11 71 yX4_init RX11) kw_1099)
  · exact va_Nw.of rfl (hts (.methodLinkNest RX5 1 yX6_init RX11) kw_1100)
  · exact va_Nw.of rfl (hts (.methodLinkNest RX9 3 yX6_init RX11) kw_1101)
  · exact va_Nw.of rfl (hts (.methodLinkNest RX2 1 yX6_init RX11) kw_1102)
  · exact va_Nw.of rfl (hts (.methodLinkNest RX8 1 yX2_init RX11) kw_1103)
  · exact va_Nw.of rfl (hts (.castable RX5 RX6) kw_1104)
  · exact va_Nw.of rfl (hts (.castable RX9 RX6) kw_1105)
  · exact va_Nw.of rfl (hts (.castable RX2 RX6) kw_1106)
  · exact va_Nw.of rfl (hts (.castable RX8 RX6) kw_1107)
set_option maxHeartbeats 4000000 in
set_option maxRecDepth 100000 in
theorem law_end {p : Program} {e : Env} {s : State} {m : MethodId} {below : List Frame} {meth : Method} {c : Code} (l : Launch) {b : Nat} {xs : Nat → Int32} (C0 : lw_At p s m meth c b 7 xs) {H : Heap} {locs : List Loc} {ls : Array Slot} {cells slots : Nat} (h1 : cells ≤ 600000) (h2 : slots ≤ 7302250) (hS : va_S (fun q : Nat => s.heap.size ≤ q) s.heap H locs) (hl : lv_has ls 4 [(0, .ref b), (3, .int 0)]) : W p l e room_1 s m #[Value.ref b] below meth c H locs cells slots (lw_Z below #[Value.ref b] s) (F0 m 1335 ls []) := by
  obtain ⟨hx, hb, hr, hml, hown, hts, hX, hbl, hlocks, hgv⟩ := id C0
  have hown : s.vm.findClass RL = some m.cls := hown
  have hA : ∀ q : Nat, s.heap.size ≤ q → (fun q : Nat => s.heap.size ≤ q) q := fun _ h => h
  have hbA : ¬ (fun q : Nat => s.heap.size ≤ q) b := Nat.not_le.mpr hbl
  refine lv_iinc (v := 7) (lv' := [(3, .int 7), (0, .ref b)]) hx hb dL_law_1335 hl (k := 1) rfl (by decide) (by decide) rfl (fun ls hl => ?_)
  refine lv_goto (tgt := 18) hx hb dL_law_1338 (by decide) ?_
  refine lv_iload_n hx hb dL_law_18 rfl (lv_at hl 0 rfl) ?_
  refine lv_aload_n hx hb dL_law_19 rfl (lv_at hl 1 rfl) ?_
  refine va_slen hx hb hX hbl hbA hS dL_law_20 ?_
  refine lv_topv (v' := .int 7) rfl ?_
  refine lv_bipush (v := 7) hx hb dL_law_21 (by decide) ?_
  refine lv_isub hx hb dL_law_23 ?_
  refine lv_topi (fun y_ ey_ => ?_)
  have ey_ := (ey_.trans (show _ = (0 : Int32) by decide)).symm
  subst ey_
  refine lv_icmp_gt (tgt := 1341) hx hb dL_law_24 (by decide) (fun c_1 => ?_) (fun c_1 => ?_)
  · have _ := c_1
    refine lv_iconst (v := 1) hx hb dL_law_1341 (by decide) ?_
    refine va_forget (fun q hq => hS.2.2 q hq) ?_
    refine W.widen (k := 600000) (n := 7302250) h1 h2 ?_
    exact lw_ret hx hb hr hlocks dL_law_1342
  · exact absurd c_1 (by decide)
