/-! ===== what every contract here stands on: the array classes by number, the tables' words of the nest, and small rows ===== -/
noncomputable abbrev tt_ (cy : Nat → ClassId) : List (ClassId × FieldType) := [(cy 0, .int), (cy 1, .long), (cy 2, .boolean), (cy 3, .object RX6), (cy 4, .object RX4), (cy 5, .object RX3)]
noncomputable def nn_ (U : State) : Prop := va_Nw (.methodLinkNest RX11 9 yX6_init RX11) U ∧ va_Nw (.methodLinkNest RX11 12 yX5_init RX11) U ∧ va_Nw (.methodLinkNest RX11 15 yX9_init RX11) U ∧ va_Nw (.methodLinkNest RX11 18 yX2_init RX11) U ∧ va_Nw (.methodLinkNest RX11 21 yX8_init RX11) U ∧ va_Nw (.methodLinkNest RX11 30 yX3_init RX11) U ∧ va_Nw (.methodLinkNest RX11 71 yX4_init RX11) U
noncomputable def nk_ (U : State) : Prop := va_Nw (.methodLinkNest RX5 1 yX6_init RX11) U ∧ va_Nw (.methodLinkNest RX9 3 yX6_init RX11) U ∧ va_Nw (.methodLinkNest RX2 1 yX6_init RX11) U ∧ va_Nw (.methodLinkNest RX8 1 yX2_init RX11) U
noncomputable def na_ (U : State) : Prop := va_AO RX6 U ∧ va_AO RX4 U ∧ va_AO RX3 U ∧ va_AOA .int U
noncomputable def nc_ (U : State) : Prop := va_Nw (.castable RX5 RX6) U ∧ va_Nw (.castable RX9 RX6) U ∧ va_Nw (.castable RX2 RX6) U ∧ va_Nw (.castable RX8 RX6) U
noncomputable def kk_ (D : va_G) (cy : Nat → ClassId) (U : State) : Prop := va_K D vwCl (tt_ cy) U ∧ nn_ U ∧ nk_ U ∧ na_ U ∧ nc_ U
theorem kk_mv {D : va_G} {cy : Nat → ClassId} {s U : State} (hW : s.WarmedH U.vm) (h : kk_ D cy s) : kk_ D cy U := by
  obtain ⟨hK, ⟨a1, a2, a3, a4, a5, a6, a7⟩, ⟨b1, b2, b3, b4⟩, ⟨c1, c2, c3, c4⟩, ⟨d1, d2, d3, d4⟩⟩ := h
  exact ⟨va_K.moved hW.alike hK, ⟨va_Nw.warmM hW a1, va_Nw.warmM hW a2, va_Nw.warmM hW a3, va_Nw.warmM hW a4, va_Nw.warmM hW a5, va_Nw.warmM hW a6, va_Nw.warmM hW a7⟩, ⟨va_Nw.warmM hW b1, va_Nw.warmM hW b2, va_Nw.warmM hW b3, va_Nw.warmM hW b4⟩, ⟨c1.moved hW.alike, c2.moved hW.alike, c3.moved hW.alike, c4.moved hW.alike⟩, ⟨va_Nw.warmC hW d1, va_Nw.warmC hW d2, va_Nw.warmC hW d3, va_Nw.warmC hW d4⟩⟩
theorem kk_cl {D : va_G} {cy : Nat → ClassId} {s U : State} (hv : s.vm = U.vm) (h : kk_ D cy s) : kk_ D cy U := by
  obtain ⟨hK, ⟨a1, a2, a3, a4, a5, a6, a7⟩, ⟨b1, b2, b3, b4⟩, ⟨c1, c2, c3, c4⟩, ⟨d1, d2, d3, d4⟩⟩ := h
  have al : s.vm.Alike U.vm := by rw [hv]; exact Vm.Alike.refl U.vm
  exact ⟨va_K.moved al hK, ⟨va_Nw.same rfl hv a1, va_Nw.same rfl hv a2, va_Nw.same rfl hv a3, va_Nw.same rfl hv a4, va_Nw.same rfl hv a5, va_Nw.same rfl hv a6, va_Nw.same rfl hv a7⟩, ⟨va_Nw.same rfl hv b1, va_Nw.same rfl hv b2, va_Nw.same rfl hv b3, va_Nw.same rfl hv b4⟩, ⟨c1.moved al, c2.moved al, c3.moved al, c4.moved al⟩, ⟨va_Nw.same rfl hv d1, va_Nw.same rfl hv d2, va_Nw.same rfl hv d3, va_Nw.same rfl hv d4⟩⟩
theorem kk_nX11_9 {D : va_G} {cy : Nat → ClassId} {U : State} (h : kk_ D cy U) : va_Nw (.methodLinkNest RX11 9 yX6_init RX11) U := h.2.1.1
theorem kk_nX11_12 {D : va_G} {cy : Nat → ClassId} {U : State} (h : kk_ D cy U) : va_Nw (.methodLinkNest RX11 12 yX5_init RX11) U := h.2.1.2.1
theorem kk_nX11_15 {D : va_G} {cy : Nat → ClassId} {U : State} (h : kk_ D cy U) : va_Nw (.methodLinkNest RX11 15 yX9_init RX11) U := h.2.1.2.2.1
theorem kk_nX11_18 {D : va_G} {cy : Nat → ClassId} {U : State} (h : kk_ D cy U) : va_Nw (.methodLinkNest RX11 18 yX2_init RX11) U := h.2.1.2.2.2.1
theorem kk_nX11_21 {D : va_G} {cy : Nat → ClassId} {U : State} (h : kk_ D cy U) : va_Nw (.methodLinkNest RX11 21 yX8_init RX11) U := h.2.1.2.2.2.2.1
theorem kk_nX11_30 {D : va_G} {cy : Nat → ClassId} {U : State} (h : kk_ D cy U) : va_Nw (.methodLinkNest RX11 30 yX3_init RX11) U := h.2.1.2.2.2.2.2.1
theorem kk_nX11_71 {D : va_G} {cy : Nat → ClassId} {U : State} (h : kk_ D cy U) : va_Nw (.methodLinkNest RX11 71 yX4_init RX11) U := h.2.1.2.2.2.2.2.2
theorem kk_nX5_1 {D : va_G} {cy : Nat → ClassId} {U : State} (h : kk_ D cy U) : va_Nw (.methodLinkNest RX5 1 yX6_init RX11) U := h.2.2.1.1
theorem kk_nX9_3 {D : va_G} {cy : Nat → ClassId} {U : State} (h : kk_ D cy U) : va_Nw (.methodLinkNest RX9 3 yX6_init RX11) U := h.2.2.1.2.1
theorem kk_nX2_1 {D : va_G} {cy : Nat → ClassId} {U : State} (h : kk_ D cy U) : va_Nw (.methodLinkNest RX2 1 yX6_init RX11) U := h.2.2.1.2.2.1
theorem kk_nX8_1 {D : va_G} {cy : Nat → ClassId} {U : State} (h : kk_ D cy U) : va_Nw (.methodLinkNest RX8 1 yX2_init RX11) U := h.2.2.1.2.2.2
theorem kk_ao3 {D : va_G} {cy : Nat → ClassId} {U : State} (h : kk_ D cy U) : va_AO RX6 U := h.2.2.2.1.1
theorem kk_ao4 {D : va_G} {cy : Nat → ClassId} {U : State} (h : kk_ D cy U) : va_AO RX4 U := h.2.2.2.1.2.1
theorem kk_ao5 {D : va_G} {cy : Nat → ClassId} {U : State} (h : kk_ D cy U) : va_AO RX3 U := h.2.2.2.1.2.2.1
theorem kk_aoa {D : va_G} {cy : Nat → ClassId} {U : State} (h : kk_ D cy U) : va_AOA .int U := h.2.2.2.1.2.2.2
theorem any_of {D : va_G} {cy : Nat → ClassId} {s : State} {H : Heap} {ws : va_W} {C : String} {a q0 ci : Nat} {fs : List Value} {r : vw_C} (hc9 : va_Nw (.castable C RX6) s) (hK : kk_ D cy s) (hP : va_P D vwCl ws H) (he : ws[q0]? = some (a, .inr (ci, fs))) (hc : vwCl[ci]? = some r) (hr : r.1 = C) : va_Any RX6 s H a := by
  refine va_rAny hK.1 hP he hc (fun comp c0 h1 h2 => ?_)
  obtain ⟨c1, t1, f1, f2, f3⟩ := Cond.castable_spec (va_Nw.use (A := #[]) rfl hc9)
  rw [hr] at h2
  have e1 : c1 = c0 := Option.some.inj (f1.symm.trans h2)
  have e2 : t1 = comp := Option.some.inj (f2.symm.trans h1)
  rw [← e1, ← e2]
  exact f3
theorem kk_any5 {D : va_G} {cy : Nat → ClassId} {s : State} {H : Heap} {ws : va_W} {a : Nat} {fs : List Value} (hK : kk_ D cy s) (hP : va_P D vwCl ws H) (q0 : Nat) (he : ws[q0]? = some (a, .inr (5, fs))) : va_Any RX6 s H a := any_of hK.2.2.2.2.1 hK hP he rfl rfl
theorem kk_any9 {D : va_G} {cy : Nat → ClassId} {s : State} {H : Heap} {ws : va_W} {a : Nat} {fs : List Value} (hK : kk_ D cy s) (hP : va_P D vwCl ws H) (q0 : Nat) (he : ws[q0]? = some (a, .inr (9, fs))) : va_Any RX6 s H a := any_of hK.2.2.2.2.2.1 hK hP he rfl rfl
theorem kk_any2 {D : va_G} {cy : Nat → ClassId} {s : State} {H : Heap} {ws : va_W} {a : Nat} {fs : List Value} (hK : kk_ D cy s) (hP : va_P D vwCl ws H) (q0 : Nat) (he : ws[q0]? = some (a, .inr (2, fs))) : va_Any RX6 s H a := any_of hK.2.2.2.2.2.2.1 hK hP he rfl rfl
theorem kk_any8 {D : va_G} {cy : Nat → ClassId} {s : State} {H : Heap} {ws : va_W} {a : Nat} {fs : List Value} (hK : kk_ D cy s) (hP : va_P D vwCl ws H) (q0 : Nat) (he : ws[q0]? = some (a, .inr (8, fs))) : va_Any RX6 s H a := any_of hK.2.2.2.2.2.2.2 hK hP he rfl rfl
/-- a row of four cells -/
noncomputable def mf_ (a b c d : Nat) : Nat → Option Nat := fun i => if i = 0 then some a else if i = 1 then some b else if i = 2 then some c else if i = 3 then some d else none
/-- an int below a small bound is one of its values; what a switch asks -/
theorem sp_4 {x : Int32} (h : 0 ≤ x.toInt ∧ x.toInt < 4) : x = 0 ∨ x = 1 ∨ x = 2 ∨ x = 3 := by
  have h1 : x.toInt = 0 ∨ x.toInt = 1 ∨ x.toInt = 2 ∨ x.toInt = 3 := by omega
  rcases h1 with h | h | h | h
  · exact Or.inl (Int32.toInt_inj.mp h)
  · exact Or.inr (Or.inl (Int32.toInt_inj.mp h))
  · exact Or.inr (Or.inr (Or.inl (Int32.toInt_inj.mp h)))
  · exact Or.inr (Or.inr (Or.inr (Int32.toInt_inj.mp h)))
theorem sw_5 (x : Int32) : (x.toInt < 0 ∨ 4 < x.toInt) ∨ x.toInt = 0 ∨ x.toInt = 1 ∨ x.toInt = 2 ∨ x.toInt = 3 ∨ x.toInt = 4 := by omega
/-- a contract's start doesn't look at frames -/
theorem bl_ {av : List Value} {sz : Nat} {D : va_G} {cy : Nat → ClassId} {ws : va_W} {A : Nat → Prop} : FrameBlind (va_Pc av (fun U => U.heap.size = sz ∧ va_P D vwCl ws U.heap ∧ kk_ D cy U ∧ va_D A ws)) := fun a U g mk q => by
  obtain ⟨q0, q1, qP, qK, qD⟩ := q
  exact ⟨q0, q1, qP, kk_cl (s := U) (U := U.calling g mk a) rfl qK, qD⟩
theorem pp_nil {D : va_G} {cl : List vw_C} {H : Heap} : va_P D cl [] H := fun k q h => by simp at h
theorem dd_nil {A : Nat → Prop} : va_D A [] := ⟨fun i j p q h => by simp at h, fun k q h => by simp at h⟩
/-- behind a call that changes nothing old -/
theorem ro_keep {D : va_G} {cl : List vw_C} {ws : va_W} {H H1 : Heap} (hP : va_P D cl ws H) (hk : ∀ q : Nat, q < H.size → ¬ va_A [] H.size q → H1[q]? = H[q]?) : va_P D cl ws H1 := hP.kept (fun k q hq => by
  have hl := (hP k q hq).lt
  refine hk q.1 hl (fun h => ?_)
  rcases h with ⟨k2, e, h⟩ | h
  · simp at h
  · omega)
theorem cl_0 : (0 : Int32).toNatClampNeg = 0 := by decide
theorem cl_1 : (1 : Int32).toNatClampNeg = 1 := by decide
theorem cl_2 : (2 : Int32).toNatClampNeg = 2 := by decide
theorem cl_3 : (3 : Int32).toNatClampNeg = 3 := by decide
theorem cl_4 : (4 : Int32).toNatClampNeg = 4 := by decide
section MYW
variable {p : Program} {l : Launch} {e : Env} {R : Room} {s : State} {m : MethodId} {args : Array Value} {below : List Frame} {meth : Method} {c : Code} {H : Heap} {locs : List Loc} {cells slots : Nat} {Q : State → Prop}
variable {cc : ByteArray} {pc : Nat} {ls : Array Slot} {rest : List Value} {D : va_G} {cl : List vw_C} {A : Nat → Prop} {a : Nat} {tys : List (ClassId × FieldType)} {ws : va_W} {H0 : Heap}
theorem lv_topv {v v' : Value} (h : v = v') (k : W p l e R s m args below meth c H locs cells slots Q (F0 m pc ls (v' :: rest))) : W p l e R s m args below meth c H locs cells slots Q (F0 m pc ls (v :: rest)) := by
  subst h
  exact k
/-- a new array of a class that stands in the list of array classes -/
theorem nw_a (hexec : p.tables.exec = Jvm.exec) (hb : c.code = cc) {atype : ArrayType} {ty : FieldType} (harr : (Cond.arrayClass ty).before args s = true) (hty : newarray.typeOf atype = ty) (hK : va_K D cl tys s) (t0 : Nat) {c0 : ClassId} (ht0 : tys[t0]? = some (c0, ty)) (hob : ∀ C, ty ≠ .object C) (hP : va_P D cl ws H) (hD : va_D A ws) (hS : va_S A H0 H locs) (hA : ∀ q, H0.size ≤ q → A q)
    {n : Int32} {N' : Nat} {a0 : vp_A} (ha : ∀ cA : ClassId, vp_cell cA a0 = arrV cA N' (fun _ => defaultValue ty)) (hn : ¬ n < 0) (hN : n.toNatClampNeg = N') (hbytes : N' * componentBytes ty ≤ 536870912) (hcells : cells + 1 ≤ R.cells) (hslots : slots + N' ≤ R.slots) (hdg : decode cc pc = .ok (.newarray atype, 2))
    (kk : ∀ (q : Nat) (H1 : Heap), va_P D cl (ws ++ [(q, .inl (c0, a0))]) H1 → va_D A (ws ++ [(q, .inl (c0, a0))]) → va_S A H0 H1 locs →
      W p l e R s m args below meth c H1 locs (cells + 1) (slots + N') Q (F0 m (pc + 2) ls (.ref q :: rest))) : W p l e R s m args below meth c H locs cells slots Q (F0 m pc ls (.int n :: rest)) := by
  subst hty
  refine va_newa hexec hb harr rfl hK hP hD hS hA ha hn hN hbytes hcells hslots hdg (fun q cA H1 hK' hP' hD' hS' => ?_)
  have e1 : va_RA s cA (newarray.typeOf atype) := (hK'.2 tys.length (cA, newarray.typeOf atype) (by simp)).2
  have e0 : va_RA s c0 (newarray.typeOf atype) := (hK.2 t0 (c0, newarray.typeOf atype) ht0).2
  have e2 : cA = c0 := by
    cases atype <;> exact Option.some.inj (e1.symm.trans e0)
  subst e2
  exact kk q H1 hP' hD' hS'
theorem nw_q (hexec : p.tables.exec = Jvm.exec) (hb : c.code = cc) {own C : String} {index : Nat} (hown : s.vm.findClass own = some m.cls) (hclink : (Cond.classLink own index C).before args s = true) (hover : va_AO C s) (hK : va_K D cl tys s) (t0 : Nat) {c0 : ClassId} (ht0 : tys[t0]? = some (c0, .object C)) (hP : va_P D cl ws H) (hD : va_D A ws) (hS : va_S A H0 H locs) (hA : ∀ q, H0.size ≤ q → A q)
    {n : Int32} {N' : Nat} (hn : ¬ n < 0) (hN : n.toNatClampNeg = N') (hbytes : N' * 4 ≤ 536870912) (hcells : cells + 1 ≤ R.cells) (hslots : slots + N' ≤ R.slots) (hdg : decode cc pc = .ok (.anewarray index, 3))
    (kk : ∀ (q : Nat) (H1 : Heap), va_P D cl (ws ++ [(q, .inl (c0, N', .inr (.inr (.inr (.inr (fun _ => none))))))]) H1 → va_D A (ws ++ [(q, .inl (c0, N', .inr (.inr (.inr (.inr (fun _ => none))))))]) → va_S A H0 H1 locs →
      W p l e R s m args below meth c H1 locs (cells + 1) (slots + N') Q (F0 m (pc + 3) ls (.ref q :: rest))) : W p l e R s m args below meth c H locs cells slots Q (F0 m pc ls (.int n :: rest)) := by
  refine va_newq hexec hb hown hclink hover hK hP hD hS hA hn hN hbytes hcells hslots hdg (fun q cA H1 hK' hP' hD' hS' => ?_)
  obtain ⟨-, -, -, -, -, e1⟩ := (hK'.2 tys.length (cA, .object C) (by simp)).2
  obtain ⟨-, -, -, -, -, e0⟩ := (hK.2 t0 (c0, .object C) ht0).2
  have e2 : cA = c0 := Option.some.inj (e1.symm.trans e0)
  subst e2
  exact kk q H1 hP' hD' hS'
theorem pp_left {X Y : va_W} (h : va_P D cl (X ++ Y) H) : va_P D cl X H := fun k q hq => h k q (by
  have hl : k < X.length := (List.getElem?_eq_some_iff.mp hq).1
  rw [List.getElem?_append_left hl]
  exact hq)
theorem dd_left {X Y : va_W} (h : va_D A (X ++ Y)) : va_D A X := by
  have e : ∀ (k : Nat) (q : Nat × va_E), X[k]? = some q → (X ++ Y)[k]? = some q := fun k q hq => by
    have hl : k < X.length := (List.getElem?_eq_some_iff.mp hq).1
    rw [List.getElem?_append_left hl]
    exact hq
  exact ⟨fun i j p q hi hj => h.1 i j p q (e i p hi) (e j q hj), fun k q hk => h.2 k q (e k q hk)⟩
/-- new int[12][12]: nothing is told of its cells -/
theorem mn_a {cy : Nat → ClassId} (hexec : p.tables.exec = Jvm.exec) (hb : c.code = cc) {own : String} {index : Nat} (hown : s.vm.findClass own = some m.cls) (hclink : (Cond.classLink own index "[[I").before args s = true) (hK : kk_ D cy s) (harr : (Cond.arrayClass .int).before args s = true) (hP : va_P D vwCl ws H) (hD : va_D A ws) (hS : va_S A H0 H locs) (hA : ∀ q, H0.size ≤ q → A q)
    (hcells : cells + 13 ≤ R.cells) (hslots : slots + 156 ≤ R.slots) (hdg : decode cc pc = .ok (.multianewarray index 2, 4))
    (kk : ∀ (q : Nat) (H1 : Heap), va_P D vwCl ws H1 → va_D A ws → va_S A H0 H1 locs →
      W p l e R s m args below meth c H1 locs (cells + 1 + 12) (slots + 12 + 144) Q (F0 m (pc + 4) ls (.ref q :: rest))) : W p l e R s m args below meth c H locs cells slots Q (F0 m pc ls (.int 12 :: .int 12 :: rest)) := by
  have hcy : s.vm.findClass (FieldType.array .int).toString = some (cy 0) := (hK.1.2 0 (cy 0, .int) rfl).2
  refine va_mna (X := ws) (L := []) (f := fun _ => .inl (cy 0, (12, .inl (fun _ => 0)))) (ty := .int) (cy := cy 0) (N' := 12) (K' := 12) (z := (12, .inl (fun _ => 0))) hexec hb hown hclink (kk_aoa hK) harr hcy hK.1 (by simpa [va_pl] using hP) (by simpa [va_pl] using hD) hS hA (by decide) (by decide) (by decide) (by decide) (by decide) (by decide) (by decide) rfl rfl hcells hslots (fun c9 => ?_) hdg (fun q r cA H1 _ _ _ hP1 hD1 hS1 => ?_)
  · rw [vp_cell_i, ← arrV_new]
    rfl
  · exact kk q H1 (pp_left (pp_left hP1)) (dd_left (dd_left hD1)) hS1
end MYW
