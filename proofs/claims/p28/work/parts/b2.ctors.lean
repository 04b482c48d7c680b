noncomputable def kh_ (D : va_G) (cy : Nat → ClassId) (U : State) : Prop := kg_ D cy U ∧ va_RA U (cy 6) (.array .int)
theorem bl_h {av : List Value} {sz : Nat} {D : va_G} {cy : Nat → ClassId} {ws : va_W} {A : Nat → Prop} : FrameBlind (va_Pc av (fun U => U.heap.size = sz ∧ va_P D vwCl ws U.heap ∧ kh_ D cy U ∧ va_D A ws)) := fun a U g mk q => by
  obtain ⟨q0, q1, qP, qK, qD⟩ := q
  exact ⟨q0, q1, qP, ⟨⟨kk_cl (s := U) (U := U.calling g mk a) rfl qK.1.1, arrOfT_moved (u := U) (E := U.calling g mk a) (Vm.Alike.refl U.vm) qK.1.2⟩, va_RA.moved (u := U) (U := U.calling g mk a) (Vm.Alike.refl U.vm) qK.2⟩, qD⟩
theorem gro_pl {c : ClassId} {r : Nat → Nat} {f : Nat → va_E} : va_pl ([] ++ (List.range 12).map r) (vr_up f ((List.range 12).map r) (.inl (c, 12, .inl (fun _ => 0)))) = gro c r (fun _ _ => 0) := by
  unfold va_pl gro
  rw [List.nil_append, List.map_map]
  apply List.map_congr_left
  intro k hk
  show (r k, vr_up f ((List.range 12).map r) (.inl (c, 12, .inl (fun _ => 0))) (r k)) = _
  rw [vr_up_in (List.mem_map.mpr ⟨k, hk, rfl⟩)]
section MNG
variable {p : Program} {l : Launch} {e : Env} {R : Room} {s : State} {m : MethodId} {args : Array Value} {below : List Frame} {meth : Method} {c : Code} {H : Heap} {locs : List Loc} {cells slots : Nat} {Q : State → Prop}
variable {cc : ByteArray} {pc : Nat} {ls : Array Slot} {rest : List Value} {D : va_G} {A : Nat → Prop} {ws : va_W} {H0 : Heap}
/-- new int[12][12], with its cells -/
theorem mn_g {cy : Nat → ClassId} (hexec : p.tables.exec = Jvm.exec) (hb : c.code = cc) {own : String} {index : Nat} (hown : s.vm.findClass own = some m.cls) (hclink : (Cond.classLink own index "[[I").before args s = true) (hK : kk_ D cy s) (hR6 : va_RA s (cy 6) (.array .int)) (harr : (Cond.arrayClass .int).before args s = true) (hP : va_P D vwCl ws H) (hD : va_D A ws) (hS : va_S A H0 H locs) (hA : ∀ q, H0.size ≤ q → A q)
    (hcells : cells + 13 ≤ R.cells) (hslots : slots + 156 ≤ R.slots) (hdg : decode cc pc = .ok (.multianewarray index 2, 4))
    (kk : ∀ (q : Nat) (r : Nat → Nat) (H1 : Heap), va_P D vwCl ((ws ++ [(q, .inl (cy 6, 12, .inr (.inr (.inr (.inr (gf_ r))))))]) ++ gro (cy 0) r (fun _ _ => 0)) H1 → va_D A ((ws ++ [(q, .inl (cy 6, 12, .inr (.inr (.inr (.inr (gf_ r))))))]) ++ gro (cy 0) r (fun _ _ => 0)) → va_S A H0 H1 locs →
      W p l e R s m args below meth c H1 locs (cells + 1 + 12) (slots + 12 + 144) Q (F0 m (pc + 4) ls (.ref q :: rest))) : W p l e R s m args below meth c H locs cells slots Q (F0 m pc ls (.int 12 :: .int 12 :: rest)) := by
  have hcy : s.vm.findClass (FieldType.array .int).toString = some (cy 0) := (hK.1.2 0 (cy 0, .int) rfl).2
  refine va_mna (X := ws) (L := []) (f := fun _ => .inl (cy 0, (12, .inl (fun _ => 0)))) (ty := .int) (cy := cy 0) (N' := 12) (K' := 12) (z := (12, .inl (fun _ => 0))) hexec hb hown hclink (kk_aoa hK) harr hcy hK.1 (by simpa [va_pl] using hP) (by simpa [va_pl] using hD) hS hA (by decide) (by decide) (by decide) (by decide) (by decide) (by decide) (by decide) rfl rfl hcells hslots (fun c9 => ?_) hdg (fun q r cA H1 _ _ hK1 hP1 hD1 hS1 => ?_)
  · rw [vp_cell_i, ← arrV_new]
    rfl
  · have e1 : va_RA s cA (.array .int) := (hK1.2 (tt_ cy).length (cA, .array .int) (by simp)).2
    have e2 : cA = cy 6 := Option.some.inj (e1.symm.trans hR6)
    subst e2
    rw [gro_pl] at hP1 hD1
    exact kk q r H1 hP1 hD1 hS1
end MNG

set_option maxHeartbeats 4000000 in
set_option maxRecDepth 100000 in
theorem c_X6_init (l : Launch) (D : va_G) (cy : Nat → ClassId) (sz : Nat) (h0 : Nat) : Met l yX6_init wsX6_init ({ frames := 1, cells := 0, slots := 0, locals := 12 }) (va_Pc [.ref h0] (fun U => U.heap.size = sz ∧ va_P D vwCl [] U.heap ∧ kk_ D cy U ∧ va_D (fun _ => True) [])) (va_Qv (fun (_ : Unit) => True) (fun (_ : Unit) (_ : State) => True) (va_A [] sz)) 0 0 (va_A [] sz) := by
  refine ofQ (cc := cX6_init) (maxL := 1) (ret := none) (by decide) rfl ?_
  intro p e s m args below meth c s₁ Q hQ B hml hv
  obtain ⟨rfl, hsz, hP, hK, hD0⟩ := hv
  have hx := B.exec
  have hb := B.bytes
  have hr := B.returns
  have hts := atoms_spec (ws := wsX6_init) B.pre
  have hown : s.vm.findClass RX6 = some m.cls := by have h_ := findClass_of_methodNamed B.named; exact h_
  have hlocks := B.notSynchronized
  have hin : meth.name = "<init>" := (name_of_methodNamed B.named B.method).1
  subst hsz
  have hD : va_D (va_A [] s.heap.size) [] := dd_nil
  generalize hAe : va_A [] s.heap.size = A at hD hQ
  have hA : ∀ q : Nat, s.heap.size ≤ q → A q := fun q h => by rw [← hAe]; exact Or.inr h
  have hS : va_S A s.heap s.heap [] := va_S.rf
  have hl := lv_entry ([.ref h0]) (n := 1) (Nat.le_of_ble_eq_true rfl)
  rw [lg_entry_eq]
  generalize (lg_sl ([.ref h0]) ++ List.replicate (1 - (lg_sl ([.ref h0])).length) Slot.unset).toArray = ls at hl ⊢
  have hl : lv_has ls 1 [(0, .ref h0)] := hl
  refine lv_aload_n hx hb dX6_init_0 rfl (lv_at hl 0 rfl) ?_
  refine W.objInit hx hb hown (hts (.methodLink RX6 3 objectInit) (by decide +kernel)) (hts (.instanceMethod objectInit) (by decide +kernel)) (hts (.code objectInit ⟨#[0xb1]⟩ 1 none) (by decide +kernel)) rfl (by rw [hml]; exact hl.1) rfl dX6_init_1 (Nat.le_of_ble_eq_true rfl) (Nat.le_of_ble_eq_true rfl) ?_
  refine W.eq (g2 := F0 m 4 ls []) rfl ?_
  rw [hQ]
  exact W.vret hx hb hr (fun t ht hW => ⟨⟨(), rfl, trivial, trivial⟩, hS.F ht⟩) hS.2.2 dX6_init_4

set_option maxHeartbeats 4000000 in
set_option maxRecDepth 100000 in
theorem c_X5_init (l : Launch) (D : va_G) (cy : Nat → ClassId) (sz : Nat) (h0 : Nat) : Met l yX5_init wsX5_init ({ frames := 2, cells := 0, slots := 0, locals := 32 }) (va_Pc [.ref h0] (fun U => U.heap.size = sz ∧ va_P D vwCl [] U.heap ∧ kk_ D cy U ∧ va_D (fun _ => True) [])) (va_Qv (fun (_ : Unit) => True) (fun (_ : Unit) (_ : State) => True) (va_A [] sz)) 0 0 (va_A [] sz) := by
  refine ofQ (cc := cX5_init) (maxL := 1) (ret := none) (by decide) rfl ?_
  intro p e s m args below meth c s₁ Q hQ B hml hv
  obtain ⟨rfl, hsz, hP, hK, hD0⟩ := hv
  have hx := B.exec
  have hb := B.bytes
  have hr := B.returns
  have hts := atoms_spec (ws := wsX5_init) B.pre
  have hown : s.vm.findClass RX5 = some m.cls := by have h_ := findClass_of_methodNamed B.named; exact h_
  have hlocks := B.notSynchronized
  have hin : meth.name = "<init>" := (name_of_methodNamed B.named B.method).1
  subst hsz
  have hD : va_D (va_A [] s.heap.size) [] := dd_nil
  generalize hAe : va_A [] s.heap.size = A at hD hQ
  have hA : ∀ q : Nat, s.heap.size ≤ q → A q := fun q h => by rw [← hAe]; exact Or.inr h
  have hS : va_S A s.heap s.heap [] := va_S.rf
  have hl := lv_entry ([.ref h0]) (n := 1) (Nat.le_of_ble_eq_true rfl)
  rw [lg_entry_eq]
  generalize (lg_sl ([.ref h0]) ++ List.replicate (1 - (lg_sl ([.ref h0])).length) Slot.unset).toArray = ls at hl ⊢
  have hl : lv_has ls 1 [(0, .ref h0)] := hl
  refine lv_aload_n hx hb dX5_init_0 rfl (lv_at hl 0 rfl) ?_
  have hPc := hP.sub (ws' := []) [] rfl
  have hDw : va_D (fun _ => True) [] := hD0.sub [] (by decide) rfl
  have hFc := va_free (wc := []) hD hS hA [] rfl
  refine va_callv (va_runIN (As := []) (rest := []) ⟨hx, hb, hml, hown, hts⟩ (c_X6_init l D cy s.heap.size h0) ⟨va_cnB 0 hts gX5_init_X6_init_n1 rfl rfl rfl (kk_nX5_1 hK) (hts (.initialized RX6) (by decide +kernel)) (by decide +kernel) ⟨Nat.le_of_ble_eq_true rfl, Nat.le_of_ble_eq_true rfl⟩, rfl, (hts (.instanceMethod yX6_init) (by decide +kernel))⟩ ⟨bl_, fun U hU hW => ⟨rfl, by rw [hU], by rw [hU]; exact hPc, kk_mv hW hK, hDw⟩⟩ rfl rfl hl.1 rfl (lv_room (Nat.le_of_ble_eq_true rfl)) dX5_init_1 ⟨Nat.le_of_ble_eq_true rfl, Nat.le_of_ble_eq_true rfl⟩) hS (fun q _ h => hFc q h) hFc (fun u t H locs ht hvm hw hB hz1 hk1 hS => ?_)
  have hP := ro_keep hP hk1
  have hP : va_P D vwCl [] H := hP
  rw [hQ]
  exact W.vret hx hb hr (fun t ht hW => ⟨⟨(), rfl, trivial, trivial⟩, hS.F ht⟩) hS.2.2 dX5_init_4

set_option maxHeartbeats 4000000 in
set_option maxRecDepth 100000 in
theorem c_X9_init (l : Launch) (D : va_G) (cy : Nat → ClassId) (sz : Nat) (h0 : Nat) : Met l yX9_init wsX9_init ({ frames := 2, cells := 0, slots := 0, locals := 32 }) (va_Pc [.ref h0] (fun U => U.heap.size = sz ∧ va_P D vwCl [] U.heap ∧ kk_ D cy U ∧ va_D (fun _ => True) [])) (va_Qv (fun (_ : Unit) => True) (fun (_ : Unit) (_ : State) => True) (va_A [] sz)) 0 0 (va_A [] sz) := by
  refine ofQ (cc := cX9_init) (maxL := 1) (ret := none) (by decide) rfl ?_
  intro p e s m args below meth c s₁ Q hQ B hml hv
  obtain ⟨rfl, hsz, hP, hK, hD0⟩ := hv
  have hx := B.exec
  have hb := B.bytes
  have hr := B.returns
  have hts := atoms_spec (ws := wsX9_init) B.pre
  have hown : s.vm.findClass RX9 = some m.cls := by have h_ := findClass_of_methodNamed B.named; exact h_
  have hlocks := B.notSynchronized
  have hin : meth.name = "<init>" := (name_of_methodNamed B.named B.method).1
  subst hsz
  have hD : va_D (va_A [] s.heap.size) [] := dd_nil
  generalize hAe : va_A [] s.heap.size = A at hD hQ
  have hA : ∀ q : Nat, s.heap.size ≤ q → A q := fun q h => by rw [← hAe]; exact Or.inr h
  have hS : va_S A s.heap s.heap [] := va_S.rf
  have hl := lv_entry ([.ref h0]) (n := 1) (Nat.le_of_ble_eq_true rfl)
  rw [lg_entry_eq]
  generalize (lg_sl ([.ref h0]) ++ List.replicate (1 - (lg_sl ([.ref h0])).length) Slot.unset).toArray = ls at hl ⊢
  have hl : lv_has ls 1 [(0, .ref h0)] := hl
  refine lv_aload_n hx hb dX9_init_0 rfl (lv_at hl 0 rfl) ?_
  have hPc := hP.sub (ws' := []) [] rfl
  have hDw : va_D (fun _ => True) [] := hD0.sub [] (by decide) rfl
  have hFc := va_free (wc := []) hD hS hA [] rfl
  refine va_callv (va_runIN (As := []) (rest := []) ⟨hx, hb, hml, hown, hts⟩ (c_X6_init l D cy s.heap.size h0) ⟨va_cnB 0 hts gX9_init_X6_init_n3 rfl rfl rfl (kk_nX9_3 hK) (hts (.initialized RX6) (by decide +kernel)) (by decide +kernel) ⟨Nat.le_of_ble_eq_true rfl, Nat.le_of_ble_eq_true rfl⟩, rfl, (hts (.instanceMethod yX6_init) (by decide +kernel))⟩ ⟨bl_, fun U hU hW => ⟨rfl, by rw [hU], by rw [hU]; exact hPc, kk_mv hW hK, hDw⟩⟩ rfl rfl hl.1 rfl (lv_room (Nat.le_of_ble_eq_true rfl)) dX9_init_1 ⟨Nat.le_of_ble_eq_true rfl, Nat.le_of_ble_eq_true rfl⟩) hS (fun q _ h => hFc q h) hFc (fun u t H locs ht hvm hw hB hz1 hk1 hS => ?_)
  have hP := ro_keep hP hk1
  have hP : va_P D vwCl [] H := hP
  rw [hQ]
  exact W.vret hx hb hr (fun t ht hW => ⟨⟨(), rfl, trivial, trivial⟩, hS.F ht⟩) hS.2.2 dX9_init_4

set_option maxHeartbeats 4000000 in
set_option maxRecDepth 100000 in
theorem c_X2_init (l : Launch) (D : va_G) (cy : Nat → ClassId) (sz : Nat) (h0 : Nat) : Met l yX2_init wsX2_init ({ frames := 2, cells := 0, slots := 0, locals := 32 }) (va_Pc [.ref h0] (fun U => U.heap.size = sz ∧ va_P D vwCl [] U.heap ∧ kk_ D cy U ∧ va_D (fun _ => True) [])) (va_Qv (fun (_ : Unit) => True) (fun (_ : Unit) (_ : State) => True) (va_A [] sz)) 0 0 (va_A [] sz) := by
  refine ofQ (cc := cX2_init) (maxL := 1) (ret := none) (by decide) rfl ?_
  intro p e s m args below meth c s₁ Q hQ B hml hv
  obtain ⟨rfl, hsz, hP, hK, hD0⟩ := hv
  have hx := B.exec
  have hb := B.bytes
  have hr := B.returns
  have hts := atoms_spec (ws := wsX2_init) B.pre
  have hown : s.vm.findClass RX2 = some m.cls := by have h_ := findClass_of_methodNamed B.named; exact h_
  have hlocks := B.notSynchronized
  have hin : meth.name = "<init>" := (name_of_methodNamed B.named B.method).1
  subst hsz
  have hD : va_D (va_A [] s.heap.size) [] := dd_nil
  generalize hAe : va_A [] s.heap.size = A at hD hQ
  have hA : ∀ q : Nat, s.heap.size ≤ q → A q := fun q h => by rw [← hAe]; exact Or.inr h
  have hS : va_S A s.heap s.heap [] := va_S.rf
  have hl := lv_entry ([.ref h0]) (n := 1) (Nat.le_of_ble_eq_true rfl)
  rw [lg_entry_eq]
  generalize (lg_sl ([.ref h0]) ++ List.replicate (1 - (lg_sl ([.ref h0])).length) Slot.unset).toArray = ls at hl ⊢
  have hl : lv_has ls 1 [(0, .ref h0)] := hl
  refine lv_aload_n hx hb dX2_init_0 rfl (lv_at hl 0 rfl) ?_
  have hPc := hP.sub (ws' := []) [] rfl
  have hDw : va_D (fun _ => True) [] := hD0.sub [] (by decide) rfl
  have hFc := va_free (wc := []) hD hS hA [] rfl
  refine va_callv (va_runIN (As := []) (rest := []) ⟨hx, hb, hml, hown, hts⟩ (c_X6_init l D cy s.heap.size h0) ⟨va_cnB 0 hts gX2_init_X6_init_n1 rfl rfl rfl (kk_nX2_1 hK) (hts (.initialized RX6) (by decide +kernel)) (by decide +kernel) ⟨Nat.le_of_ble_eq_true rfl, Nat.le_of_ble_eq_true rfl⟩, rfl, (hts (.instanceMethod yX6_init) (by decide +kernel))⟩ ⟨bl_, fun U hU hW => ⟨rfl, by rw [hU], by rw [hU]; exact hPc, kk_mv hW hK, hDw⟩⟩ rfl rfl hl.1 rfl (lv_room (Nat.le_of_ble_eq_true rfl)) dX2_init_1 ⟨Nat.le_of_ble_eq_true rfl, Nat.le_of_ble_eq_true rfl⟩) hS (fun q _ h => hFc q h) hFc (fun u t H locs ht hvm hw hB hz1 hk1 hS => ?_)
  have hP := ro_keep hP hk1
  have hP : va_P D vwCl [] H := hP
  rw [hQ]
  exact W.vret hx hb hr (fun t ht hW => ⟨⟨(), rfl, trivial, trivial⟩, hS.F ht⟩) hS.2.2 dX2_init_4

set_option maxHeartbeats 4000000 in
set_option maxRecDepth 100000 in
theorem c_X8_init (l : Launch) (D : va_G) (cy : Nat → ClassId) (sz : Nat) (h0 : Nat) : Met l yX8_init wsX8_init ({ frames := 3, cells := 0, slots := 0, locals := 52 }) (va_Pc [.ref h0] (fun U => U.heap.size = sz ∧ va_P D vwCl [] U.heap ∧ kk_ D cy U ∧ va_D (fun _ => True) [])) (va_Qv (fun (_ : Unit) => True) (fun (_ : Unit) (_ : State) => True) (va_A [] sz)) 0 0 (va_A [] sz) := by
  refine ofQ (cc := cX8_init) (maxL := 1) (ret := none) (by decide) rfl ?_
  intro p e s m args below meth c s₁ Q hQ B hml hv
  obtain ⟨rfl, hsz, hP, hK, hD0⟩ := hv
  have hx := B.exec
  have hb := B.bytes
  have hr := B.returns
  have hts := atoms_spec (ws := wsX8_init) B.pre
  have hown : s.vm.findClass RX8 = some m.cls := by have h_ := findClass_of_methodNamed B.named; exact h_
  have hlocks := B.notSynchronized
  have hin : meth.name = "<init>" := (name_of_methodNamed B.named B.method).1
  subst hsz
  have hD : va_D (va_A [] s.heap.size) [] := dd_nil
  generalize hAe : va_A [] s.heap.size = A at hD hQ
  have hA : ∀ q : Nat, s.heap.size ≤ q → A q := fun q h => by rw [← hAe]; exact Or.inr h
  have hS : va_S A s.heap s.heap [] := va_S.rf
  have hl := lv_entry ([.ref h0]) (n := 1) (Nat.le_of_ble_eq_true rfl)
  rw [lg_entry_eq]
  generalize (lg_sl ([.ref h0]) ++ List.replicate (1 - (lg_sl ([.ref h0])).length) Slot.unset).toArray = ls at hl ⊢
  have hl : lv_has ls 1 [(0, .ref h0)] := hl
  refine lv_aload_n hx hb dX8_init_0 rfl (lv_at hl 0 rfl) ?_
  have hPc := hP.sub (ws' := []) [] rfl
  have hDw : va_D (fun _ => True) [] := hD0.sub [] (by decide) rfl
  have hFc := va_free (wc := []) hD hS hA [] rfl
  refine va_callv (va_runIN (As := []) (rest := []) ⟨hx, hb, hml, hown, hts⟩ (c_X2_init l D cy s.heap.size h0) ⟨va_cnB 0 hts gX8_init_X2_init_n1 rfl rfl rfl (kk_nX8_1 hK) (hts (.initialized RX2) (by decide +kernel)) (by decide +kernel) ⟨Nat.le_of_ble_eq_true rfl, Nat.le_of_ble_eq_true rfl⟩, rfl, (hts (.instanceMethod yX2_init) (by decide +kernel))⟩ ⟨bl_, fun U hU hW => ⟨rfl, by rw [hU], by rw [hU]; exact hPc, kk_mv hW hK, hDw⟩⟩ rfl rfl hl.1 rfl (lv_room (Nat.le_of_ble_eq_true rfl)) dX8_init_1 ⟨Nat.le_of_ble_eq_true rfl, Nat.le_of_ble_eq_true rfl⟩) hS (fun q _ h => hFc q h) hFc (fun u t H locs ht hvm hw hB hz1 hk1 hS => ?_)
  have hP := ro_keep hP hk1
  have hP : va_P D vwCl [] H := hP
  rw [hQ]
  exact W.vret hx hb hr (fun t ht hW => ⟨⟨(), rfl, trivial, trivial⟩, hS.F ht⟩) hS.2.2 dX8_init_4

set_option maxHeartbeats 4000000 in
set_option maxRecDepth 100000 in
theorem c_X0_init (l : Launch) (D : va_G) (cy : Nat → ClassId) (sz : Nat) (h0 : Nat) (x1 : Nat) (x2 : Nat) : Met l yX0_init wsX0_init ({ frames := 1, cells := 31, slots := 456, locals := 12 }) (va_Pc [.ref h0, .ref x1, .ref x2] (fun U => U.heap.size = sz ∧ va_P D vwCl [(h0, .inr (0, [.null, .null, .null, .null, .null, .null, .null, .null, .null]))] U.heap ∧ kh_ D cy U ∧ va_D (fun _ => True) [(h0, .inr (0, [.null, .null, .null, .null, .null, .null, .null, .null, .null]))])) (va_Qv (fun (_ : Unit) => True) (fun (_ : Unit) (t : State) => ∃ (clo : Nat), ∃ (cro : Nat), ∃ (c4 : Nat), ∃ (c5 : Nat), ∃ (c6 : Nat), ∃ (c7 : Nat), ∃ (c8 : Nat), ∃ (rl : Nat → Nat), ∃ (rr : Nat → Nat), ∃ (Ml : Nat → Nat → Int32), ∃ (Mr : Nat → Nat → Int32), va_P D vwCl [(h0, .inr (0, [.ref x1, .ref x2, .ref clo, .ref cro, .ref c4, .ref c5, .ref c6, .ref c7, .ref c8])), (clo, .inl (cy 6, 12, .inr (.inr (.inr (.inr (gf_ rl)))))), ((rl 0), .inl (cy 0, 12, .inl (Ml 0))), ((rl 1), .inl (cy 0, 12, .inl (Ml 1))), ((rl 2), .inl (cy 0, 12, .inl (Ml 2))), ((rl 3), .inl (cy 0, 12, .inl (Ml 3))), ((rl 4), .inl (cy 0, 12, .inl (Ml 4))), ((rl 5), .inl (cy 0, 12, .inl (Ml 5))), ((rl 6), .inl (cy 0, 12, .inl (Ml 6))), ((rl 7), .inl (cy 0, 12, .inl (Ml 7))), ((rl 8), .inl (cy 0, 12, .inl (Ml 8))), ((rl 9), .inl (cy 0, 12, .inl (Ml 9))), ((rl 10), .inl (cy 0, 12, .inl (Ml 10))), ((rl 11), .inl (cy 0, 12, .inl (Ml 11))), (cro, .inl (cy 6, 12, .inr (.inr (.inr (.inr (gf_ rr)))))), ((rr 0), .inl (cy 0, 12, .inl (Mr 0))), ((rr 1), .inl (cy 0, 12, .inl (Mr 1))), ((rr 2), .inl (cy 0, 12, .inl (Mr 2))), ((rr 3), .inl (cy 0, 12, .inl (Mr 3))), ((rr 4), .inl (cy 0, 12, .inl (Mr 4))), ((rr 5), .inl (cy 0, 12, .inl (Mr 5))), ((rr 6), .inl (cy 0, 12, .inl (Mr 6))), ((rr 7), .inl (cy 0, 12, .inl (Mr 7))), ((rr 8), .inl (cy 0, 12, .inl (Mr 8))), ((rr 9), .inl (cy 0, 12, .inl (Mr 9))), ((rr 10), .inl (cy 0, 12, .inl (Mr 10))), ((rr 11), .inl (cy 0, 12, .inl (Mr 11))), (c4, .inl (cy 0, 40, .inl (fun _ => 0))), (c5, .inl (cy 0, 40, .inl (fun _ => 0))), (c6, .inl (cy 0, 40, .inl (fun _ => 0))), (c7, .inl (cy 0, 12, .inl (fun _ => 0))), (c8, .inl (cy 0, 12, .inl (fun _ => 0)))] t.heap ∧ va_D (va_A [(h0, .inr (0, [.null, .null, .null, .null, .null, .null, .null, .null, .null]))] sz) [(h0, .inr (0, [.ref x1, .ref x2, .ref clo, .ref cro, .ref c4, .ref c5, .ref c6, .ref c7, .ref c8])), (clo, .inl (cy 6, 12, .inr (.inr (.inr (.inr (gf_ rl)))))), ((rl 0), .inl (cy 0, 12, .inl (Ml 0))), ((rl 1), .inl (cy 0, 12, .inl (Ml 1))), ((rl 2), .inl (cy 0, 12, .inl (Ml 2))), ((rl 3), .inl (cy 0, 12, .inl (Ml 3))), ((rl 4), .inl (cy 0, 12, .inl (Ml 4))), ((rl 5), .inl (cy 0, 12, .inl (Ml 5))), ((rl 6), .inl (cy 0, 12, .inl (Ml 6))), ((rl 7), .inl (cy 0, 12, .inl (Ml 7))), ((rl 8), .inl (cy 0, 12, .inl (Ml 8))), ((rl 9), .inl (cy 0, 12, .inl (Ml 9))), ((rl 10), .inl (cy 0, 12, .inl (Ml 10))), ((rl 11), .inl (cy 0, 12, .inl (Ml 11))), (cro, .inl (cy 6, 12, .inr (.inr (.inr (.inr (gf_ rr)))))), ((rr 0), .inl (cy 0, 12, .inl (Mr 0))), ((rr 1), .inl (cy 0, 12, .inl (Mr 1))), ((rr 2), .inl (cy 0, 12, .inl (Mr 2))), ((rr 3), .inl (cy 0, 12, .inl (Mr 3))), ((rr 4), .inl (cy 0, 12, .inl (Mr 4))), ((rr 5), .inl (cy 0, 12, .inl (Mr 5))), ((rr 6), .inl (cy 0, 12, .inl (Mr 6))), ((rr 7), .inl (cy 0, 12, .inl (Mr 7))), ((rr 8), .inl (cy 0, 12, .inl (Mr 8))), ((rr 9), .inl (cy 0, 12, .inl (Mr 9))), ((rr 10), .inl (cy 0, 12, .inl (Mr 10))), ((rr 11), .inl (cy 0, 12, .inl (Mr 11))), (c4, .inl (cy 0, 40, .inl (fun _ => 0))), (c5, .inl (cy 0, 40, .inl (fun _ => 0))), (c6, .inl (cy 0, 40, .inl (fun _ => 0))), (c7, .inl (cy 0, 12, .inl (fun _ => 0))), (c8, .inl (cy 0, 12, .inl (fun _ => 0)))]) (va_A [(h0, .inr (0, [.null, .null, .null, .null, .null, .null, .null, .null, .null]))] sz)) 31 456 (va_A [(h0, .inr (0, [.null, .null, .null, .null, .null, .null, .null, .null, .null]))] sz) := by
  refine ofQ (cc := cX0_init) (maxL := 3) (ret := none) (by decide) rfl ?_
  intro p e s m args below meth c s₁ Q hQ B hml hv
  obtain ⟨rfl, hsz, hP, hK, hD0⟩ := hv
  have hR6 := hK.2
  have hG := hK.1.2
  have hK := hK.1.1
  have hx := B.exec
  have hb := B.bytes
  have hr := B.returns
  have hts := atoms_spec (ws := wsX0_init) B.pre
  have hown : s.vm.findClass RX0 = some m.cls := by have h_ := findClass_of_methodNamed B.named; exact h_
  have hlocks := B.notSynchronized
  have hin : meth.name = "<init>" := (name_of_methodNamed B.named B.method).1
  subst hsz
  have hD := hD0.self (sz := s.heap.size)
  generalize hAe : va_A [(h0, .inr (0, [.null, .null, .null, .null, .null, .null, .null, .null, .null]))] s.heap.size = A at hD hQ
  have hA : ∀ q : Nat, s.heap.size ≤ q → A q := fun q h => by rw [← hAe]; exact Or.inr h
  have hS : va_S A s.heap s.heap [] := va_S.rf
  have hl := lv_entry ([.ref h0, .ref x1, .ref x2]) (n := 3) (Nat.le_of_ble_eq_true rfl)
  rw [lg_entry_eq]
  generalize (lg_sl ([.ref h0, .ref x1, .ref x2]) ++ List.replicate (3 - (lg_sl ([.ref h0, .ref x1, .ref x2])).length) Slot.unset).toArray = ls at hl ⊢
  have hl : lv_has ls 3 [(0, .ref h0), (1, .ref x1), (2, .ref x2)] := hl
  refine lv_aload_n hx hb dX0_init_0 rfl (lv_at hl 0 rfl) ?_
  refine W.objInit hx hb hown (hts (.methodLink RX0 3 objectInit) (by decide +kernel)) (hts (.instanceMethod objectInit) (by decide +kernel)) (hts (.code objectInit ⟨#[0xb1]⟩ 1 none) (by decide +kernel)) rfl (by rw [hml]; exact hl.1) rfl dX0_init_1 (Nat.le_of_ble_eq_true rfl) (Nat.le_of_ble_eq_true rfl) ?_
  refine W.eq (g2 := F0 m 4 ls []) rfl ?_
  refine lv_aload_n hx hb dX0_init_4 rfl (lv_at hl 0 rfl) ?_
  refine lv_bipush (v := 12) hx hb dX0_init_5 (by decide) ?_
  refine lv_bipush (v := 12) hx hb dX0_init_7 (by decide) ?_
  refine mn_g hx hb hown (hts (.classLink RX0 9 "[[I") (by decide +kernel)) hK hR6 (hts (.arrayClass .int) (by decide +kernel)) hP hD hS hA (Nat.le_of_ble_eq_true rfl) (Nat.le_of_ble_eq_true rfl) dX0_init_9 (fun q_1 r_2 H hP hD hS => ?_)
  obtain ⟨M_3, eM_3⟩ : ∃ g : Nat → Nat → Int32, g = fun _ _ => 0 := ⟨_, rfl⟩
  rw [← eM_3] at hP hD
  refine pd_K [(h0, .inr (0, [.null, .null, .null, .null, .null, .null, .null, .null, .null])), (q_1, .inl (cy 6, 12, .inr (.inr (.inr (.inr (gf_ r_2)))))), ((r_2 0), .inl (cy 0, 12, .inl (M_3 0))), ((r_2 1), .inl (cy 0, 12, .inl (M_3 1))), ((r_2 2), .inl (cy 0, 12, .inl (M_3 2))), ((r_2 3), .inl (cy 0, 12, .inl (M_3 3))), ((r_2 4), .inl (cy 0, 12, .inl (M_3 4))), ((r_2 5), .inl (cy 0, 12, .inl (M_3 5))), ((r_2 6), .inl (cy 0, 12, .inl (M_3 6))), ((r_2 7), .inl (cy 0, 12, .inl (M_3 7))), ((r_2 8), .inl (cy 0, 12, .inl (M_3 8))), ((r_2 9), .inl (cy 0, 12, .inl (M_3 9))), ((r_2 10), .inl (cy 0, 12, .inl (M_3 10))), ((r_2 11), .inl (cy 0, 12, .inl (M_3 11)))] hP hD (fun hP hD => ?_)
  refine va_putF (ci := 0) (v := .ref q_1) (ty := (tyX0 2)) (C := RX0) (T := TX0) (N := 9) hx hb hts (fun _ h => List.mem_cons_of_mem _ (List.mem_append_right _ h)) tyX0 tyX0_ok nmX0 hown hK.1 hP hD hS 0 rfl rfl 2 (by decide) (hts (.fieldLink RX0 11 "CutAtlas$Current" "lets" "[[I") (by decide +kernel)) (fun _ h9 => h9) rfl hin rfl (by decide +kernel) rfl rfl (Nat.le_of_ble_eq_true rfl) dX0_init_13 (fun H locs hP hD hS => ?_)
  refine pd_K [(h0, .inr (0, [.null, .null, .ref q_1, .null, .null, .null, .null, .null, .null])), (q_1, .inl (cy 6, 12, .inr (.inr (.inr (.inr (gf_ r_2)))))), ((r_2 0), .inl (cy 0, 12, .inl (M_3 0))), ((r_2 1), .inl (cy 0, 12, .inl (M_3 1))), ((r_2 2), .inl (cy 0, 12, .inl (M_3 2))), ((r_2 3), .inl (cy 0, 12, .inl (M_3 3))), ((r_2 4), .inl (cy 0, 12, .inl (M_3 4))), ((r_2 5), .inl (cy 0, 12, .inl (M_3 5))), ((r_2 6), .inl (cy 0, 12, .inl (M_3 6))), ((r_2 7), .inl (cy 0, 12, .inl (M_3 7))), ((r_2 8), .inl (cy 0, 12, .inl (M_3 8))), ((r_2 9), .inl (cy 0, 12, .inl (M_3 9))), ((r_2 10), .inl (cy 0, 12, .inl (M_3 10))), ((r_2 11), .inl (cy 0, 12, .inl (M_3 11)))] hP hD (fun hP hD => ?_)
  refine lv_aload_n hx hb dX0_init_16 rfl (lv_at hl 0 rfl) ?_
  refine lv_bipush (v := 12) hx hb dX0_init_17 (by decide) ?_
  refine lv_bipush (v := 12) hx hb dX0_init_19 (by decide) ?_
  refine mn_g hx hb hown (hts (.classLink RX0 9 "[[I") (by decide +kernel)) hK hR6 (hts (.arrayClass .int) (by decide +kernel)) hP hD hS hA (Nat.le_of_ble_eq_true rfl) (Nat.le_of_ble_eq_true rfl) dX0_init_21 (fun q_4 r_5 H hP hD hS => ?_)
  obtain ⟨M_6, eM_6⟩ : ∃ g : Nat → Nat → Int32, g = fun _ _ => 0 := ⟨_, rfl⟩
  rw [← eM_6] at hP hD
  refine pd_K [(h0, .inr (0, [.null, .null, .ref q_1, .null, .null, .null, .null, .null, .null])), (q_1, .inl (cy 6, 12, .inr (.inr (.inr (.inr (gf_ r_2)))))), ((r_2 0), .inl (cy 0, 12, .inl (M_3 0))), ((r_2 1), .inl (cy 0, 12, .inl (M_3 1))), ((r_2 2), .inl (cy 0, 12, .inl (M_3 2))), ((r_2 3), .inl (cy 0, 12, .inl (M_3 3))), ((r_2 4), .inl (cy 0, 12, .inl (M_3 4))), ((r_2 5), .inl (cy 0, 12, .inl (M_3 5))), ((r_2 6), .inl (cy 0, 12, .inl (M_3 6))), ((r_2 7), .inl (cy 0, 12, .inl (M_3 7))), ((r_2 8), .inl (cy 0, 12, .inl (M_3 8))), ((r_2 9), .inl (cy 0, 12, .inl (M_3 9))), ((r_2 10), .inl (cy 0, 12, .inl (M_3 10))), ((r_2 11), .inl (cy 0, 12, .inl (M_3 11))), (q_4, .inl (cy 6, 12, .inr (.inr (.inr (.inr (gf_ r_5)))))), ((r_5 0), .inl (cy 0, 12, .inl (M_6 0))), ((r_5 1), .inl (cy 0, 12, .inl (M_6 1))), ((r_5 2), .inl (cy 0, 12, .inl (M_6 2))), ((r_5 3), .inl (cy 0, 12, .inl (M_6 3))), ((r_5 4), .inl (cy 0, 12, .inl (M_6 4))), ((r_5 5), .inl (cy 0, 12, .inl (M_6 5))), ((r_5 6), .inl (cy 0, 12, .inl (M_6 6))), ((r_5 7), .inl (cy 0, 12, .inl (M_6 7))), ((r_5 8), .inl (cy 0, 12, .inl (M_6 8))), ((r_5 9), .inl (cy 0, 12, .inl (M_6 9))), ((r_5 10), .inl (cy 0, 12, .inl (M_6 10))), ((r_5 11), .inl (cy 0, 12, .inl (M_6 11)))] hP hD (fun hP hD => ?_)
  refine va_putF (ci := 0) (v := .ref q_4) (ty := (tyX0 3)) (C := RX0) (T := TX0) (N := 9) hx hb hts (fun _ h => List.mem_cons_of_mem _ (List.mem_append_right _ h)) tyX0 tyX0_ok nmX0 hown hK.1 hP hD hS 0 rfl rfl 3 (by decide) (hts (.fieldLink RX0 16 "CutAtlas$Current" "room" "[[I") (by decide +kernel)) (fun _ h9 => h9) rfl hin rfl (by decide +kernel) rfl rfl (Nat.le_of_ble_eq_true rfl) dX0_init_25 (fun H locs hP hD hS => ?_)
  refine pd_K [(h0, .inr (0, [.null, .null, .ref q_1, .ref q_4, .null, .null, .null, .null, .null])), (q_1, .inl (cy 6, 12, .inr (.inr (.inr (.inr (gf_ r_2)))))), ((r_2 0), .inl (cy 0, 12, .inl (M_3 0))), ((r_2 1), .inl (cy 0, 12, .inl (M_3 1))), ((r_2 2), .inl (cy 0, 12, .inl (M_3 2))), ((r_2 3), .inl (cy 0, 12, .inl (M_3 3))), ((r_2 4), .inl (cy 0, 12, .inl (M_3 4))), ((r_2 5), .inl (cy 0, 12, .inl (M_3 5))), ((r_2 6), .inl (cy 0, 12, .inl (M_3 6))), ((r_2 7), .inl (cy 0, 12, .inl (M_3 7))), ((r_2 8), .inl (cy 0, 12, .inl (M_3 8))), ((r_2 9), .inl (cy 0, 12, .inl (M_3 9))), ((r_2 10), .inl (cy 0, 12, .inl (M_3 10))), ((r_2 11), .inl (cy 0, 12, .inl (M_3 11))), (q_4, .inl (cy 6, 12, .inr (.inr (.inr (.inr (gf_ r_5)))))), ((r_5 0), .inl (cy 0, 12, .inl (M_6 0))), ((r_5 1), .inl (cy 0, 12, .inl (M_6 1))), ((r_5 2), .inl (cy 0, 12, .inl (M_6 2))), ((r_5 3), .inl (cy 0, 12, .inl (M_6 3))), ((r_5 4), .inl (cy 0, 12, .inl (M_6 4))), ((r_5 5), .inl (cy 0, 12, .inl (M_6 5))), ((r_5 6), .inl (cy 0, 12, .inl (M_6 6))), ((r_5 7), .inl (cy 0, 12, .inl (M_6 7))), ((r_5 8), .inl (cy 0, 12, .inl (M_6 8))), ((r_5 9), .inl (cy 0, 12, .inl (M_6 9))), ((r_5 10), .inl (cy 0, 12, .inl (M_6 10))), ((r_5 11), .inl (cy 0, 12, .inl (M_6 11)))] hP hD (fun hP hD => ?_)
  refine lv_aload_n hx hb dX0_init_28 rfl (lv_at hl 0 rfl) ?_
  refine lv_bipush (v := 40) hx hb dX0_init_29 (by decide) ?_
  refine nw_a (a0 := (40, .inl (fun _ => 0))) (ty := .int) hx hb (hts (.arrayClass .int) (by decide +kernel)) rfl hK.1 0 rfl (fun _ h => by cases h) hP hD hS hA (fun _ => rfl) (by decide) (by decide) (by decide) (Nat.le_of_ble_eq_true rfl) (Nat.le_of_ble_eq_true rfl) dX0_init_31 (fun q_7 H hP hD hS => ?_)
  refine pd_K [(h0, .inr (0, [.null, .null, .ref q_1, .ref q_4, .null, .null, .null, .null, .null])), (q_1, .inl (cy 6, 12, .inr (.inr (.inr (.inr (gf_ r_2)))))), ((r_2 0), .inl (cy 0, 12, .inl (M_3 0))), ((r_2 1), .inl (cy 0, 12, .inl (M_3 1))), ((r_2 2), .inl (cy 0, 12, .inl (M_3 2))), ((r_2 3), .inl (cy 0, 12, .inl (M_3 3))), ((r_2 4), .inl (cy 0, 12, .inl (M_3 4))), ((r_2 5), .inl (cy 0, 12, .inl (M_3 5))), ((r_2 6), .inl (cy 0, 12, .inl (M_3 6))), ((r_2 7), .inl (cy 0, 12, .inl (M_3 7))), ((r_2 8), .inl (cy 0, 12, .inl (M_3 8))), ((r_2 9), .inl (cy 0, 12, .inl (M_3 9))), ((r_2 10), .inl (cy 0, 12, .inl (M_3 10))), ((r_2 11), .inl (cy 0, 12, .inl (M_3 11))), (q_4, .inl (cy 6, 12, .inr (.inr (.inr (.inr (gf_ r_5)))))), ((r_5 0), .inl (cy 0, 12, .inl (M_6 0))), ((r_5 1), .inl (cy 0, 12, .inl (M_6 1))), ((r_5 2), .inl (cy 0, 12, .inl (M_6 2))), ((r_5 3), .inl (cy 0, 12, .inl (M_6 3))), ((r_5 4), .inl (cy 0, 12, .inl (M_6 4))), ((r_5 5), .inl (cy 0, 12, .inl (M_6 5))), ((r_5 6), .inl (cy 0, 12, .inl (M_6 6))), ((r_5 7), .inl (cy 0, 12, .inl (M_6 7))), ((r_5 8), .inl (cy 0, 12, .inl (M_6 8))), ((r_5 9), .inl (cy 0, 12, .inl (M_6 9))), ((r_5 10), .inl (cy 0, 12, .inl (M_6 10))), ((r_5 11), .inl (cy 0, 12, .inl (M_6 11))), (q_7, .inl (cy 0, 40, .inl (fun _ => 0)))] hP hD (fun hP hD => ?_)
  refine va_putF (ci := 0) (v := .ref q_7) (ty := (tyX0 4)) (C := RX0) (T := TX0) (N := 9) hx hb hts (fun _ h => List.mem_cons_of_mem _ (List.mem_append_right _ h)) tyX0 tyX0_ok nmX0 hown hK.1 hP hD hS 0 rfl rfl 4 (by decide) (hts (.fieldLink RX0 19 "CutAtlas$Current" "flowing" "[I") (by decide +kernel)) (fun _ h9 => h9) rfl hin rfl (by decide +kernel) rfl rfl (Nat.le_of_ble_eq_true rfl) dX0_init_33 (fun H locs hP hD hS => ?_)
  refine pd_K [(h0, .inr (0, [.null, .null, .ref q_1, .ref q_4, .ref q_7, .null, .null, .null, .null])), (q_1, .inl (cy 6, 12, .inr (.inr (.inr (.inr (gf_ r_2)))))), ((r_2 0), .inl (cy 0, 12, .inl (M_3 0))), ((r_2 1), .inl (cy 0, 12, .inl (M_3 1))), ((r_2 2), .inl (cy 0, 12, .inl (M_3 2))), ((r_2 3), .inl (cy 0, 12, .inl (M_3 3))), ((r_2 4), .inl (cy 0, 12, .inl (M_3 4))), ((r_2 5), .inl (cy 0, 12, .inl (M_3 5))), ((r_2 6), .inl (cy 0, 12, .inl (M_3 6))), ((r_2 7), .inl (cy 0, 12, .inl (M_3 7))), ((r_2 8), .inl (cy 0, 12, .inl (M_3 8))), ((r_2 9), .inl (cy 0, 12, .inl (M_3 9))), ((r_2 10), .inl (cy 0, 12, .inl (M_3 10))), ((r_2 11), .inl (cy 0, 12, .inl (M_3 11))), (q_4, .inl (cy 6, 12, .inr (.inr (.inr (.inr (gf_ r_5)))))), ((r_5 0), .inl (cy 0, 12, .inl (M_6 0))), ((r_5 1), .inl (cy 0, 12, .inl (M_6 1))), ((r_5 2), .inl (cy 0, 12, .inl (M_6 2))), ((r_5 3), .inl (cy 0, 12, .inl (M_6 3))), ((r_5 4), .inl (cy 0, 12, .inl (M_6 4))), ((r_5 5), .inl (cy 0, 12, .inl (M_6 5))), ((r_5 6), .inl (cy 0, 12, .inl (M_6 6))), ((r_5 7), .inl (cy 0, 12, .inl (M_6 7))), ((r_5 8), .inl (cy 0, 12, .inl (M_6 8))), ((r_5 9), .inl (cy 0, 12, .inl (M_6 9))), ((r_5 10), .inl (cy 0, 12, .inl (M_6 10))), ((r_5 11), .inl (cy 0, 12, .inl (M_6 11))), (q_7, .inl (cy 0, 40, .inl (fun _ => 0)))] hP hD (fun hP hD => ?_)
  refine lv_aload_n hx hb dX0_init_36 rfl (lv_at hl 0 rfl) ?_
  refine lv_bipush (v := 40) hx hb dX0_init_37 (by decide) ?_
  refine nw_a (a0 := (40, .inl (fun _ => 0))) (ty := .int) hx hb (hts (.arrayClass .int) (by decide +kernel)) rfl hK.1 0 rfl (fun _ h => by cases h) hP hD hS hA (fun _ => rfl) (by decide) (by decide) (by decide) (Nat.le_of_ble_eq_true rfl) (Nat.le_of_ble_eq_true rfl) dX0_init_39 (fun q_8 H hP hD hS => ?_)
  refine pd_K [(h0, .inr (0, [.null, .null, .ref q_1, .ref q_4, .ref q_7, .null, .null, .null, .null])), (q_1, .inl (cy 6, 12, .inr (.inr (.inr (.inr (gf_ r_2)))))), ((r_2 0), .inl (cy 0, 12, .inl (M_3 0))), ((r_2 1), .inl (cy 0, 12, .inl (M_3 1))), ((r_2 2), .inl (cy 0, 12, .inl (M_3 2))), ((r_2 3), .inl (cy 0, 12, .inl (M_3 3))), ((r_2 4), .inl (cy 0, 12, .inl (M_3 4))), ((r_2 5), .inl (cy 0, 12, .inl (M_3 5))), ((r_2 6), .inl (cy 0, 12, .inl (M_3 6))), ((r_2 7), .inl (cy 0, 12, .inl (M_3 7))), ((r_2 8), .inl (cy 0, 12, .inl (M_3 8))), ((r_2 9), .inl (cy 0, 12, .inl (M_3 9))), ((r_2 10), .inl (cy 0, 12, .inl (M_3 10))), ((r_2 11), .inl (cy 0, 12, .inl (M_3 11))), (q_4, .inl (cy 6, 12, .inr (.inr (.inr (.inr (gf_ r_5)))))), ((r_5 0), .inl (cy 0, 12, .inl (M_6 0))), ((r_5 1), .inl (cy 0, 12, .inl (M_6 1))), ((r_5 2), .inl (cy 0, 12, .inl (M_6 2))), ((r_5 3), .inl (cy 0, 12, .inl (M_6 3))), ((r_5 4), .inl (cy 0, 12, .inl (M_6 4))), ((r_5 5), .inl (cy 0, 12, .inl (M_6 5))), ((r_5 6), .inl (cy 0, 12, .inl (M_6 6))), ((r_5 7), .inl (cy 0, 12, .inl (M_6 7))), ((r_5 8), .inl (cy 0, 12, .inl (M_6 8))), ((r_5 9), .inl (cy 0, 12, .inl (M_6 9))), ((r_5 10), .inl (cy 0, 12, .inl (M_6 10))), ((r_5 11), .inl (cy 0, 12, .inl (M_6 11))), (q_7, .inl (cy 0, 40, .inl (fun _ => 0))), (q_8, .inl (cy 0, 40, .inl (fun _ => 0)))] hP hD (fun hP hD => ?_)
  refine va_putF (ci := 0) (v := .ref q_8) (ty := (tyX0 5)) (C := RX0) (T := TX0) (N := 9) hx hb hts (fun _ h => List.mem_cons_of_mem _ (List.mem_append_right _ h)) tyX0 tyX0_ok nmX0 hown hK.1 hP hD hS 0 rfl rfl 5 (by decide) (hts (.fieldLink RX0 23 "CutAtlas$Current" "letsForth" "[I") (by decide +kernel)) (fun _ h9 => h9) rfl hin rfl (by decide +kernel) rfl rfl (Nat.le_of_ble_eq_true rfl) dX0_init_41 (fun H locs hP hD hS => ?_)
  refine pd_K [(h0, .inr (0, [.null, .null, .ref q_1, .ref q_4, .ref q_7, .ref q_8, .null, .null, .null])), (q_1, .inl (cy 6, 12, .inr (.inr (.inr (.inr (gf_ r_2)))))), ((r_2 0), .inl (cy 0, 12, .inl (M_3 0))), ((r_2 1), .inl (cy 0, 12, .inl (M_3 1))), ((r_2 2), .inl (cy 0, 12, .inl (M_3 2))), ((r_2 3), .inl (cy 0, 12, .inl (M_3 3))), ((r_2 4), .inl (cy 0, 12, .inl (M_3 4))), ((r_2 5), .inl (cy 0, 12, .inl (M_3 5))), ((r_2 6), .inl (cy 0, 12, .inl (M_3 6))), ((r_2 7), .inl (cy 0, 12, .inl (M_3 7))), ((r_2 8), .inl (cy 0, 12, .inl (M_3 8))), ((r_2 9), .inl (cy 0, 12, .inl (M_3 9))), ((r_2 10), .inl (cy 0, 12, .inl (M_3 10))), ((r_2 11), .inl (cy 0, 12, .inl (M_3 11))), (q_4, .inl (cy 6, 12, .inr (.inr (.inr (.inr (gf_ r_5)))))), ((r_5 0), .inl (cy 0, 12, .inl (M_6 0))), ((r_5 1), .inl (cy 0, 12, .inl (M_6 1))), ((r_5 2), .inl (cy 0, 12, .inl (M_6 2))), ((r_5 3), .inl (cy 0, 12, .inl (M_6 3))), ((r_5 4), .inl (cy 0, 12, .inl (M_6 4))), ((r_5 5), .inl (cy 0, 12, .inl (M_6 5))), ((r_5 6), .inl (cy 0, 12, .inl (M_6 6))), ((r_5 7), .inl (cy 0, 12, .inl (M_6 7))), ((r_5 8), .inl (cy 0, 12, .inl (M_6 8))), ((r_5 9), .inl (cy 0, 12, .inl (M_6 9))), ((r_5 10), .inl (cy 0, 12, .inl (M_6 10))), ((r_5 11), .inl (cy 0, 12, .inl (M_6 11))), (q_7, .inl (cy 0, 40, .inl (fun _ => 0))), (q_8, .inl (cy 0, 40, .inl (fun _ => 0)))] hP hD (fun hP hD => ?_)
  refine lv_aload_n hx hb dX0_init_44 rfl (lv_at hl 0 rfl) ?_
  refine lv_bipush (v := 40) hx hb dX0_init_45 (by decide) ?_
  refine nw_a (a0 := (40, .inl (fun _ => 0))) (ty := .int) hx hb (hts (.arrayClass .int) (by decide +kernel)) rfl hK.1 0 rfl (fun _ h => by cases h) hP hD hS hA (fun _ => rfl) (by decide) (by decide) (by decide) (Nat.le_of_ble_eq_true rfl) (Nat.le_of_ble_eq_true rfl) dX0_init_47 (fun q_9 H hP hD hS => ?_)
  refine pd_K [(h0, .inr (0, [.null, .null, .ref q_1, .ref q_4, .ref q_7, .ref q_8, .null, .null, .null])), (q_1, .inl (cy 6, 12, .inr (.inr (.inr (.inr (gf_ r_2)))))), ((r_2 0), .inl (cy 0, 12, .inl (M_3 0))), ((r_2 1), .inl (cy 0, 12, .inl (M_3 1))), ((r_2 2), .inl (cy 0, 12, .inl (M_3 2))), ((r_2 3), .inl (cy 0, 12, .inl (M_3 3))), ((r_2 4), .inl (cy 0, 12, .inl (M_3 4))), ((r_2 5), .inl (cy 0, 12, .inl (M_3 5))), ((r_2 6), .inl (cy 0, 12, .inl (M_3 6))), ((r_2 7), .inl (cy 0, 12, .inl (M_3 7))), ((r_2 8), .inl (cy 0, 12, .inl (M_3 8))), ((r_2 9), .inl (cy 0, 12, .inl (M_3 9))), ((r_2 10), .inl (cy 0, 12, .inl (M_3 10))), ((r_2 11), .inl (cy 0, 12, .inl (M_3 11))), (q_4, .inl (cy 6, 12, .inr (.inr (.inr (.inr (gf_ r_5)))))), ((r_5 0), .inl (cy 0, 12, .inl (M_6 0))), ((r_5 1), .inl (cy 0, 12, .inl (M_6 1))), ((r_5 2), .inl (cy 0, 12, .inl (M_6 2))), ((r_5 3), .inl (cy 0, 12, .inl (M_6 3))), ((r_5 4), .inl (cy 0, 12, .inl (M_6 4))), ((r_5 5), .inl (cy 0, 12, .inl (M_6 5))), ((r_5 6), .inl (cy 0, 12, .inl (M_6 6))), ((r_5 7), .inl (cy 0, 12, .inl (M_6 7))), ((r_5 8), .inl (cy 0, 12, .inl (M_6 8))), ((r_5 9), .inl (cy 0, 12, .inl (M_6 9))), ((r_5 10), .inl (cy 0, 12, .inl (M_6 10))), ((r_5 11), .inl (cy 0, 12, .inl (M_6 11))), (q_7, .inl (cy 0, 40, .inl (fun _ => 0))), (q_8, .inl (cy 0, 40, .inl (fun _ => 0))), (q_9, .inl (cy 0, 40, .inl (fun _ => 0)))] hP hD (fun hP hD => ?_)
  refine va_putF (ci := 0) (v := .ref q_9) (ty := (tyX0 6)) (C := RX0) (T := TX0) (N := 9) hx hb hts (fun _ h => List.mem_cons_of_mem _ (List.mem_append_right _ h)) tyX0 tyX0_ok nmX0 hown hK.1 hP hD hS 0 rfl rfl 6 (by decide) (hts (.fieldLink RX0 26 "CutAtlas$Current" "letsBack" "[I") (by decide +kernel)) (fun _ h9 => h9) rfl hin rfl (by decide +kernel) rfl rfl (Nat.le_of_ble_eq_true rfl) dX0_init_49 (fun H locs hP hD hS => ?_)
  refine pd_K [(h0, .inr (0, [.null, .null, .ref q_1, .ref q_4, .ref q_7, .ref q_8, .ref q_9, .null, .null])), (q_1, .inl (cy 6, 12, .inr (.inr (.inr (.inr (gf_ r_2)))))), ((r_2 0), .inl (cy 0, 12, .inl (M_3 0))), ((r_2 1), .inl (cy 0, 12, .inl (M_3 1))), ((r_2 2), .inl (cy 0, 12, .inl (M_3 2))), ((r_2 3), .inl (cy 0, 12, .inl (M_3 3))), ((r_2 4), .inl (cy 0, 12, .inl (M_3 4))), ((r_2 5), .inl (cy 0, 12, .inl (M_3 5))), ((r_2 6), .inl (cy 0, 12, .inl (M_3 6))), ((r_2 7), .inl (cy 0, 12, .inl (M_3 7))), ((r_2 8), .inl (cy 0, 12, .inl (M_3 8))), ((r_2 9), .inl (cy 0, 12, .inl (M_3 9))), ((r_2 10), .inl (cy 0, 12, .inl (M_3 10))), ((r_2 11), .inl (cy 0, 12, .inl (M_3 11))), (q_4, .inl (cy 6, 12, .inr (.inr (.inr (.inr (gf_ r_5)))))), ((r_5 0), .inl (cy 0, 12, .inl (M_6 0))), ((r_5 1), .inl (cy 0, 12, .inl (M_6 1))), ((r_5 2), .inl (cy 0, 12, .inl (M_6 2))), ((r_5 3), .inl (cy 0, 12, .inl (M_6 3))), ((r_5 4), .inl (cy 0, 12, .inl (M_6 4))), ((r_5 5), .inl (cy 0, 12, .inl (M_6 5))), ((r_5 6), .inl (cy 0, 12, .inl (M_6 6))), ((r_5 7), .inl (cy 0, 12, .inl (M_6 7))), ((r_5 8), .inl (cy 0, 12, .inl (M_6 8))), ((r_5 9), .inl (cy 0, 12, .inl (M_6 9))), ((r_5 10), .inl (cy 0, 12, .inl (M_6 10))), ((r_5 11), .inl (cy 0, 12, .inl (M_6 11))), (q_7, .inl (cy 0, 40, .inl (fun _ => 0))), (q_8, .inl (cy 0, 40, .inl (fun _ => 0))), (q_9, .inl (cy 0, 40, .inl (fun _ => 0)))] hP hD (fun hP hD => ?_)
  refine lv_aload_n hx hb dX0_init_52 rfl (lv_at hl 0 rfl) ?_
  refine lv_bipush (v := 12) hx hb dX0_init_53 (by decide) ?_
  refine nw_a (a0 := (12, .inl (fun _ => 0))) (ty := .int) hx hb (hts (.arrayClass .int) (by decide +kernel)) rfl hK.1 0 rfl (fun _ h => by cases h) hP hD hS hA (fun _ => rfl) (by decide) (by decide) (by decide) (Nat.le_of_ble_eq_true rfl) (Nat.le_of_ble_eq_true rfl) dX0_init_55 (fun q_10 H hP hD hS => ?_)
  refine pd_K [(h0, .inr (0, [.null, .null, .ref q_1, .ref q_4, .ref q_7, .ref q_8, .ref q_9, .null, .null])), (q_1, .inl (cy 6, 12, .inr (.inr (.inr (.inr (gf_ r_2)))))), ((r_2 0), .inl (cy 0, 12, .inl (M_3 0))), ((r_2 1), .inl (cy 0, 12, .inl (M_3 1))), ((r_2 2), .inl (cy 0, 12, .inl (M_3 2))), ((r_2 3), .inl (cy 0, 12, .inl (M_3 3))), ((r_2 4), .inl (cy 0, 12, .inl (M_3 4))), ((r_2 5), .inl (cy 0, 12, .inl (M_3 5))), ((r_2 6), .inl (cy 0, 12, .inl (M_3 6))), ((r_2 7), .inl (cy 0, 12, .inl (M_3 7))), ((r_2 8), .inl (cy 0, 12, .inl (M_3 8))), ((r_2 9), .inl (cy 0, 12, .inl (M_3 9))), ((r_2 10), .inl (cy 0, 12, .inl (M_3 10))), ((r_2 11), .inl (cy 0, 12, .inl (M_3 11))), (q_4, .inl (cy 6, 12, .inr (.inr (.inr (.inr (gf_ r_5)))))), ((r_5 0), .inl (cy 0, 12, .inl (M_6 0))), ((r_5 1), .inl (cy 0, 12, .inl (M_6 1))), ((r_5 2), .inl (cy 0, 12, .inl (M_6 2))), ((r_5 3), .inl (cy 0, 12, .inl (M_6 3))), ((r_5 4), .inl (cy 0, 12, .inl (M_6 4))), ((r_5 5), .inl (cy 0, 12, .inl (M_6 5))), ((r_5 6), .inl (cy 0, 12, .inl (M_6 6))), ((r_5 7), .inl (cy 0, 12, .inl (M_6 7))), ((r_5 8), .inl (cy 0, 12, .inl (M_6 8))), ((r_5 9), .inl (cy 0, 12, .inl (M_6 9))), ((r_5 10), .inl (cy 0, 12, .inl (M_6 10))), ((r_5 11), .inl (cy 0, 12, .inl (M_6 11))), (q_7, .inl (cy 0, 40, .inl (fun _ => 0))), (q_8, .inl (cy 0, 40, .inl (fun _ => 0))), (q_9, .inl (cy 0, 40, .inl (fun _ => 0))), (q_10, .inl (cy 0, 12, .inl (fun _ => 0)))] hP hD (fun hP hD => ?_)
  refine va_putF (ci := 0) (v := .ref q_10) (ty := (tyX0 7)) (C := RX0) (T := TX0) (N := 9) hx hb hts (fun _ h => List.mem_cons_of_mem _ (List.mem_append_right _ h)) tyX0 tyX0_ok nmX0 hown hK.1 hP hD hS 0 rfl rfl 7 (by decide) (hts (.fieldLink RX0 29 "CutAtlas$Current" "queue" "[I") (by decide +kernel)) (fun _ h9 => h9) rfl hin rfl (by decide +kernel) rfl rfl (Nat.le_of_ble_eq_true rfl) dX0_init_57 (fun H locs hP hD hS => ?_)
  refine pd_K [(h0, .inr (0, [.null, .null, .ref q_1, .ref q_4, .ref q_7, .ref q_8, .ref q_9, .ref q_10, .null])), (q_1, .inl (cy 6, 12, .inr (.inr (.inr (.inr (gf_ r_2)))))), ((r_2 0), .inl (cy 0, 12, .inl (M_3 0))), ((r_2 1), .inl (cy 0, 12, .inl (M_3 1))), ((r_2 2), .inl (cy 0, 12, .inl (M_3 2))), ((r_2 3), .inl (cy 0, 12, .inl (M_3 3))), ((r_2 4), .inl (cy 0, 12, .inl (M_3 4))), ((r_2 5), .inl (cy 0, 12, .inl (M_3 5))), ((r_2 6), .inl (cy 0, 12, .inl (M_3 6))), ((r_2 7), .inl (cy 0, 12, .inl (M_3 7))), ((r_2 8), .inl (cy 0, 12, .inl (M_3 8))), ((r_2 9), .inl (cy 0, 12, .inl (M_3 9))), ((r_2 10), .inl (cy 0, 12, .inl (M_3 10))), ((r_2 11), .inl (cy 0, 12, .inl (M_3 11))), (q_4, .inl (cy 6, 12, .inr (.inr (.inr (.inr (gf_ r_5)))))), ((r_5 0), .inl (cy 0, 12, .inl (M_6 0))), ((r_5 1), .inl (cy 0, 12, .inl (M_6 1))), ((r_5 2), .inl (cy 0, 12, .inl (M_6 2))), ((r_5 3), .inl (cy 0, 12, .inl (M_6 3))), ((r_5 4), .inl (cy 0, 12, .inl (M_6 4))), ((r_5 5), .inl (cy 0, 12, .inl (M_6 5))), ((r_5 6), .inl (cy 0, 12, .inl (M_6 6))), ((r_5 7), .inl (cy 0, 12, .inl (M_6 7))), ((r_5 8), .inl (cy 0, 12, .inl (M_6 8))), ((r_5 9), .inl (cy 0, 12, .inl (M_6 9))), ((r_5 10), .inl (cy 0, 12, .inl (M_6 10))), ((r_5 11), .inl (cy 0, 12, .inl (M_6 11))), (q_7, .inl (cy 0, 40, .inl (fun _ => 0))), (q_8, .inl (cy 0, 40, .inl (fun _ => 0))), (q_9, .inl (cy 0, 40, .inl (fun _ => 0))), (q_10, .inl (cy 0, 12, .inl (fun _ => 0)))] hP hD (fun hP hD => ?_)
  refine lv_aload_n hx hb dX0_init_60 rfl (lv_at hl 0 rfl) ?_
  refine lv_bipush (v := 12) hx hb dX0_init_61 (by decide) ?_
  refine nw_a (a0 := (12, .inl (fun _ => 0))) (ty := .int) hx hb (hts (.arrayClass .int) (by decide +kernel)) rfl hK.1 0 rfl (fun _ h => by cases h) hP hD hS hA (fun _ => rfl) (by decide) (by decide) (by decide) (Nat.le_of_ble_eq_true rfl) (Nat.le_of_ble_eq_true rfl) dX0_init_63 (fun q_11 H hP hD hS => ?_)
  refine pd_K [(h0, .inr (0, [.null, .null, .ref q_1, .ref q_4, .ref q_7, .ref q_8, .ref q_9, .ref q_10, .null])), (q_1, .inl (cy 6, 12, .inr (.inr (.inr (.inr (gf_ r_2)))))), ((r_2 0), .inl (cy 0, 12, .inl (M_3 0))), ((r_2 1), .inl (cy 0, 12, .inl (M_3 1))), ((r_2 2), .inl (cy 0, 12, .inl (M_3 2))), ((r_2 3), .inl (cy 0, 12, .inl (M_3 3))), ((r_2 4), .inl (cy 0, 12, .inl (M_3 4))), ((r_2 5), .inl (cy 0, 12, .inl (M_3 5))), ((r_2 6), .inl (cy 0, 12, .inl (M_3 6))), ((r_2 7), .inl (cy 0, 12, .inl (M_3 7))), ((r_2 8), .inl (cy 0, 12, .inl (M_3 8))), ((r_2 9), .inl (cy 0, 12, .inl (M_3 9))), ((r_2 10), .inl (cy 0, 12, .inl (M_3 10))), ((r_2 11), .inl (cy 0, 12, .inl (M_3 11))), (q_4, .inl (cy 6, 12, .inr (.inr (.inr (.inr (gf_ r_5)))))), ((r_5 0), .inl (cy 0, 12, .inl (M_6 0))), ((r_5 1), .inl (cy 0, 12, .inl (M_6 1))), ((r_5 2), .inl (cy 0, 12, .inl (M_6 2))), ((r_5 3), .inl (cy 0, 12, .inl (M_6 3))), ((r_5 4), .inl (cy 0, 12, .inl (M_6 4))), ((r_5 5), .inl (cy 0, 12, .inl (M_6 5))), ((r_5 6), .inl (cy 0, 12, .inl (M_6 6))), ((r_5 7), .inl (cy 0, 12, .inl (M_6 7))), ((r_5 8), .inl (cy 0, 12, .inl (M_6 8))), ((r_5 9), .inl (cy 0, 12, .inl (M_6 9))), ((r_5 10), .inl (cy 0, 12, .inl (M_6 10))), ((r_5 11), .inl (cy 0, 12, .inl (M_6 11))), (q_7, .inl (cy 0, 40, .inl (fun _ => 0))), (q_8, .inl (cy 0, 40, .inl (fun _ => 0))), (q_9, .inl (cy 0, 40, .inl (fun _ => 0))), (q_10, .inl (cy 0, 12, .inl (fun _ => 0))), (q_11, .inl (cy 0, 12, .inl (fun _ => 0)))] hP hD (fun hP hD => ?_)
  refine va_putF (ci := 0) (v := .ref q_11) (ty := (tyX0 8)) (C := RX0) (T := TX0) (N := 9) hx hb hts (fun _ h => List.mem_cons_of_mem _ (List.mem_append_right _ h)) tyX0 tyX0_ok nmX0 hown hK.1 hP hD hS 0 rfl rfl 8 (by decide) (hts (.fieldLink RX0 32 "CutAtlas$Current" "cameFrom" "[I") (by decide +kernel)) (fun _ h9 => h9) rfl hin rfl (by decide +kernel) rfl rfl (Nat.le_of_ble_eq_true rfl) dX0_init_65 (fun H locs hP hD hS => ?_)
  refine pd_K [(h0, .inr (0, [.null, .null, .ref q_1, .ref q_4, .ref q_7, .ref q_8, .ref q_9, .ref q_10, .ref q_11])), (q_1, .inl (cy 6, 12, .inr (.inr (.inr (.inr (gf_ r_2)))))), ((r_2 0), .inl (cy 0, 12, .inl (M_3 0))), ((r_2 1), .inl (cy 0, 12, .inl (M_3 1))), ((r_2 2), .inl (cy 0, 12, .inl (M_3 2))), ((r_2 3), .inl (cy 0, 12, .inl (M_3 3))), ((r_2 4), .inl (cy 0, 12, .inl (M_3 4))), ((r_2 5), .inl (cy 0, 12, .inl (M_3 5))), ((r_2 6), .inl (cy 0, 12, .inl (M_3 6))), ((r_2 7), .inl (cy 0, 12, .inl (M_3 7))), ((r_2 8), .inl (cy 0, 12, .inl (M_3 8))), ((r_2 9), .inl (cy 0, 12, .inl (M_3 9))), ((r_2 10), .inl (cy 0, 12, .inl (M_3 10))), ((r_2 11), .inl (cy 0, 12, .inl (M_3 11))), (q_4, .inl (cy 6, 12, .inr (.inr (.inr (.inr (gf_ r_5)))))), ((r_5 0), .inl (cy 0, 12, .inl (M_6 0))), ((r_5 1), .inl (cy 0, 12, .inl (M_6 1))), ((r_5 2), .inl (cy 0, 12, .inl (M_6 2))), ((r_5 3), .inl (cy 0, 12, .inl (M_6 3))), ((r_5 4), .inl (cy 0, 12, .inl (M_6 4))), ((r_5 5), .inl (cy 0, 12, .inl (M_6 5))), ((r_5 6), .inl (cy 0, 12, .inl (M_6 6))), ((r_5 7), .inl (cy 0, 12, .inl (M_6 7))), ((r_5 8), .inl (cy 0, 12, .inl (M_6 8))), ((r_5 9), .inl (cy 0, 12, .inl (M_6 9))), ((r_5 10), .inl (cy 0, 12, .inl (M_6 10))), ((r_5 11), .inl (cy 0, 12, .inl (M_6 11))), (q_7, .inl (cy 0, 40, .inl (fun _ => 0))), (q_8, .inl (cy 0, 40, .inl (fun _ => 0))), (q_9, .inl (cy 0, 40, .inl (fun _ => 0))), (q_10, .inl (cy 0, 12, .inl (fun _ => 0))), (q_11, .inl (cy 0, 12, .inl (fun _ => 0)))] hP hD (fun hP hD => ?_)
  refine lv_aload_n hx hb dX0_init_68 rfl (lv_at hl 0 rfl) ?_
  refine lv_aload_n hx hb dX0_init_69 rfl (lv_at hl 1 rfl) ?_
  refine va_putF (ci := 0) (v := .ref x1) (ty := (tyX0 0)) (C := RX0) (T := TX0) (N := 9) hx hb hts (fun _ h => List.mem_cons_of_mem _ (List.mem_append_right _ h)) tyX0 tyX0_ok nmX0 hown hK.1 hP hD hS 0 rfl rfl 0 (by decide) (hts (.fieldLink RX0 35 "CutAtlas$Current" "net" "LCutAtlas$Net;") (by decide +kernel)) (fun _ h9 => h9) rfl hin rfl (by decide +kernel) rfl rfl (Nat.le_of_ble_eq_true rfl) dX0_init_70 (fun H locs hP hD hS => ?_)
  refine pd_K [(h0, .inr (0, [.ref x1, .null, .ref q_1, .ref q_4, .ref q_7, .ref q_8, .ref q_9, .ref q_10, .ref q_11])), (q_1, .inl (cy 6, 12, .inr (.inr (.inr (.inr (gf_ r_2)))))), ((r_2 0), .inl (cy 0, 12, .inl (M_3 0))), ((r_2 1), .inl (cy 0, 12, .inl (M_3 1))), ((r_2 2), .inl (cy 0, 12, .inl (M_3 2))), ((r_2 3), .inl (cy 0, 12, .inl (M_3 3))), ((r_2 4), .inl (cy 0, 12, .inl (M_3 4))), ((r_2 5), .inl (cy 0, 12, .inl (M_3 5))), ((r_2 6), .inl (cy 0, 12, .inl (M_3 6))), ((r_2 7), .inl (cy 0, 12, .inl (M_3 7))), ((r_2 8), .inl (cy 0, 12, .inl (M_3 8))), ((r_2 9), .inl (cy 0, 12, .inl (M_3 9))), ((r_2 10), .inl (cy 0, 12, .inl (M_3 10))), ((r_2 11), .inl (cy 0, 12, .inl (M_3 11))), (q_4, .inl (cy 6, 12, .inr (.inr (.inr (.inr (gf_ r_5)))))), ((r_5 0), .inl (cy 0, 12, .inl (M_6 0))), ((r_5 1), .inl (cy 0, 12, .inl (M_6 1))), ((r_5 2), .inl (cy 0, 12, .inl (M_6 2))), ((r_5 3), .inl (cy 0, 12, .inl (M_6 3))), ((r_5 4), .inl (cy 0, 12, .inl (M_6 4))), ((r_5 5), .inl (cy 0, 12, .inl (M_6 5))), ((r_5 6), .inl (cy 0, 12, .inl (M_6 6))), ((r_5 7), .inl (cy 0, 12, .inl (M_6 7))), ((r_5 8), .inl (cy 0, 12, .inl (M_6 8))), ((r_5 9), .inl (cy 0, 12, .inl (M_6 9))), ((r_5 10), .inl (cy 0, 12, .inl (M_6 10))), ((r_5 11), .inl (cy 0, 12, .inl (M_6 11))), (q_7, .inl (cy 0, 40, .inl (fun _ => 0))), (q_8, .inl (cy 0, 40, .inl (fun _ => 0))), (q_9, .inl (cy 0, 40, .inl (fun _ => 0))), (q_10, .inl (cy 0, 12, .inl (fun _ => 0))), (q_11, .inl (cy 0, 12, .inl (fun _ => 0)))] hP hD (fun hP hD => ?_)
  refine lv_aload_n hx hb dX0_init_73 rfl (lv_at hl 0 rfl) ?_
  refine lv_aload_n hx hb dX0_init_74 rfl (lv_at hl 2 rfl) ?_
  refine va_putF (ci := 0) (v := .ref x2) (ty := (tyX0 1)) (C := RX0) (T := TX0) (N := 9) hx hb hts (fun _ h => List.mem_cons_of_mem _ (List.mem_append_right _ h)) tyX0 tyX0_ok nmX0 hown hK.1 hP hD hS 0 rfl rfl 1 (by decide) (hts (.fieldLink RX0 39 "CutAtlas$Current" "kinds" "[LCutAtlas$PlainKind;") (by decide +kernel)) (fun _ h9 => h9) rfl hin rfl (by decide +kernel) rfl rfl (Nat.le_of_ble_eq_true rfl) dX0_init_75 (fun H locs hP hD hS => ?_)
  refine pd_K [(h0, .inr (0, [.ref x1, .ref x2, .ref q_1, .ref q_4, .ref q_7, .ref q_8, .ref q_9, .ref q_10, .ref q_11])), (q_1, .inl (cy 6, 12, .inr (.inr (.inr (.inr (gf_ r_2)))))), ((r_2 0), .inl (cy 0, 12, .inl (M_3 0))), ((r_2 1), .inl (cy 0, 12, .inl (M_3 1))), ((r_2 2), .inl (cy 0, 12, .inl (M_3 2))), ((r_2 3), .inl (cy 0, 12, .inl (M_3 3))), ((r_2 4), .inl (cy 0, 12, .inl (M_3 4))), ((r_2 5), .inl (cy 0, 12, .inl (M_3 5))), ((r_2 6), .inl (cy 0, 12, .inl (M_3 6))), ((r_2 7), .inl (cy 0, 12, .inl (M_3 7))), ((r_2 8), .inl (cy 0, 12, .inl (M_3 8))), ((r_2 9), .inl (cy 0, 12, .inl (M_3 9))), ((r_2 10), .inl (cy 0, 12, .inl (M_3 10))), ((r_2 11), .inl (cy 0, 12, .inl (M_3 11))), (q_4, .inl (cy 6, 12, .inr (.inr (.inr (.inr (gf_ r_5)))))), ((r_5 0), .inl (cy 0, 12, .inl (M_6 0))), ((r_5 1), .inl (cy 0, 12, .inl (M_6 1))), ((r_5 2), .inl (cy 0, 12, .inl (M_6 2))), ((r_5 3), .inl (cy 0, 12, .inl (M_6 3))), ((r_5 4), .inl (cy 0, 12, .inl (M_6 4))), ((r_5 5), .inl (cy 0, 12, .inl (M_6 5))), ((r_5 6), .inl (cy 0, 12, .inl (M_6 6))), ((r_5 7), .inl (cy 0, 12, .inl (M_6 7))), ((r_5 8), .inl (cy 0, 12, .inl (M_6 8))), ((r_5 9), .inl (cy 0, 12, .inl (M_6 9))), ((r_5 10), .inl (cy 0, 12, .inl (M_6 10))), ((r_5 11), .inl (cy 0, 12, .inl (M_6 11))), (q_7, .inl (cy 0, 40, .inl (fun _ => 0))), (q_8, .inl (cy 0, 40, .inl (fun _ => 0))), (q_9, .inl (cy 0, 40, .inl (fun _ => 0))), (q_10, .inl (cy 0, 12, .inl (fun _ => 0))), (q_11, .inl (cy 0, 12, .inl (fun _ => 0)))] hP hD (fun hP hD => ?_)
  have hP9 := hP.sub (ws' := [(h0, .inr (0, [.ref x1, .ref x2, .ref q_1, .ref q_4, .ref q_7, .ref q_8, .ref q_9, .ref q_10, .ref q_11])), (q_1, .inl (cy 6, 12, .inr (.inr (.inr (.inr (gf_ r_2)))))), ((r_2 0), .inl (cy 0, 12, .inl (M_3 0))), ((r_2 1), .inl (cy 0, 12, .inl (M_3 1))), ((r_2 2), .inl (cy 0, 12, .inl (M_3 2))), ((r_2 3), .inl (cy 0, 12, .inl (M_3 3))), ((r_2 4), .inl (cy 0, 12, .inl (M_3 4))), ((r_2 5), .inl (cy 0, 12, .inl (M_3 5))), ((r_2 6), .inl (cy 0, 12, .inl (M_3 6))), ((r_2 7), .inl (cy 0, 12, .inl (M_3 7))), ((r_2 8), .inl (cy 0, 12, .inl (M_3 8))), ((r_2 9), .inl (cy 0, 12, .inl (M_3 9))), ((r_2 10), .inl (cy 0, 12, .inl (M_3 10))), ((r_2 11), .inl (cy 0, 12, .inl (M_3 11))), (q_4, .inl (cy 6, 12, .inr (.inr (.inr (.inr (gf_ r_5)))))), ((r_5 0), .inl (cy 0, 12, .inl (M_6 0))), ((r_5 1), .inl (cy 0, 12, .inl (M_6 1))), ((r_5 2), .inl (cy 0, 12, .inl (M_6 2))), ((r_5 3), .inl (cy 0, 12, .inl (M_6 3))), ((r_5 4), .inl (cy 0, 12, .inl (M_6 4))), ((r_5 5), .inl (cy 0, 12, .inl (M_6 5))), ((r_5 6), .inl (cy 0, 12, .inl (M_6 6))), ((r_5 7), .inl (cy 0, 12, .inl (M_6 7))), ((r_5 8), .inl (cy 0, 12, .inl (M_6 8))), ((r_5 9), .inl (cy 0, 12, .inl (M_6 9))), ((r_5 10), .inl (cy 0, 12, .inl (M_6 10))), ((r_5 11), .inl (cy 0, 12, .inl (M_6 11))), (q_7, .inl (cy 0, 40, .inl (fun _ => 0))), (q_8, .inl (cy 0, 40, .inl (fun _ => 0))), (q_9, .inl (cy 0, 40, .inl (fun _ => 0))), (q_10, .inl (cy 0, 12, .inl (fun _ => 0))), (q_11, .inl (cy 0, 12, .inl (fun _ => 0)))]) [0, 1, 2, 3, 4, 5, 6, 7, 8, 9, 10, 11, 12, 13, 14, 15, 16, 17, 18, 19, 20, 21, 22, 23, 24, 25, 26, 27, 28, 29, 30, 31] rfl
  have hD9 := hD.sub (ws' := [(h0, .inr (0, [.ref x1, .ref x2, .ref q_1, .ref q_4, .ref q_7, .ref q_8, .ref q_9, .ref q_10, .ref q_11])), (q_1, .inl (cy 6, 12, .inr (.inr (.inr (.inr (gf_ r_2)))))), ((r_2 0), .inl (cy 0, 12, .inl (M_3 0))), ((r_2 1), .inl (cy 0, 12, .inl (M_3 1))), ((r_2 2), .inl (cy 0, 12, .inl (M_3 2))), ((r_2 3), .inl (cy 0, 12, .inl (M_3 3))), ((r_2 4), .inl (cy 0, 12, .inl (M_3 4))), ((r_2 5), .inl (cy 0, 12, .inl (M_3 5))), ((r_2 6), .inl (cy 0, 12, .inl (M_3 6))), ((r_2 7), .inl (cy 0, 12, .inl (M_3 7))), ((r_2 8), .inl (cy 0, 12, .inl (M_3 8))), ((r_2 9), .inl (cy 0, 12, .inl (M_3 9))), ((r_2 10), .inl (cy 0, 12, .inl (M_3 10))), ((r_2 11), .inl (cy 0, 12, .inl (M_3 11))), (q_4, .inl (cy 6, 12, .inr (.inr (.inr (.inr (gf_ r_5)))))), ((r_5 0), .inl (cy 0, 12, .inl (M_6 0))), ((r_5 1), .inl (cy 0, 12, .inl (M_6 1))), ((r_5 2), .inl (cy 0, 12, .inl (M_6 2))), ((r_5 3), .inl (cy 0, 12, .inl (M_6 3))), ((r_5 4), .inl (cy 0, 12, .inl (M_6 4))), ((r_5 5), .inl (cy 0, 12, .inl (M_6 5))), ((r_5 6), .inl (cy 0, 12, .inl (M_6 6))), ((r_5 7), .inl (cy 0, 12, .inl (M_6 7))), ((r_5 8), .inl (cy 0, 12, .inl (M_6 8))), ((r_5 9), .inl (cy 0, 12, .inl (M_6 9))), ((r_5 10), .inl (cy 0, 12, .inl (M_6 10))), ((r_5 11), .inl (cy 0, 12, .inl (M_6 11))), (q_7, .inl (cy 0, 40, .inl (fun _ => 0))), (q_8, .inl (cy 0, 40, .inl (fun _ => 0))), (q_9, .inl (cy 0, 40, .inl (fun _ => 0))), (q_10, .inl (cy 0, 12, .inl (fun _ => 0))), (q_11, .inl (cy 0, 12, .inl (fun _ => 0)))]) [0, 1, 2, 3, 4, 5, 6, 7, 8, 9, 10, 11, 12, 13, 14, 15, 16, 17, 18, 19, 20, 21, 22, 23, 24, 25, 26, 27, 28, 29, 30, 31] (by decide +kernel) rfl
  rw [hQ]
  exact W.vret hx hb hr (fun t ht hW => ⟨⟨(), rfl, trivial, q_1, q_4, q_7, q_8, q_9, q_10, q_11, r_2, r_5, M_3, M_6, by rw [ht]; exact hP9, hD9⟩, hS.F ht⟩) hS.2.2 dX0_init_78

set_option maxHeartbeats 4000000 in
set_option maxRecDepth 100000 in
theorem c_X7_init (l : Launch) (D : va_G) (cy : Nat → ClassId) (sz : Nat) (h0 : Nat) (x1 : Nat) : Met l yX7_init wsX7_init ({ frames := 1, cells := 0, slots := 0, locals := 12 }) (va_Pc [.ref h0, .ref x1] (fun U => U.heap.size = sz ∧ va_P D vwCl [(h0, .inr (7, [.null, .int 0, .int 0, .int 0, .int 0, .int 0, .int 0, .int 0, .int 0]))] U.heap ∧ kk_ D cy U ∧ va_D (fun _ => True) [(h0, .inr (7, [.null, .int 0, .int 0, .int 0, .int 0, .int 0, .int 0, .int 0, .int 0]))])) (va_Qv (fun (_ : Unit) => True) (fun (_ : Unit) (t : State) => va_P D vwCl [(h0, .inr (7, [.ref x1, .int 0, .int 0, .int 0, .int 0, .int 0, .int 0, .int 0, .int 0]))] t.heap ∧ va_D (va_A [(h0, .inr (7, [.null, .int 0, .int 0, .int 0, .int 0, .int 0, .int 0, .int 0, .int 0]))] sz) [(h0, .inr (7, [.ref x1, .int 0, .int 0, .int 0, .int 0, .int 0, .int 0, .int 0, .int 0]))]) (va_A [(h0, .inr (7, [.null, .int 0, .int 0, .int 0, .int 0, .int 0, .int 0, .int 0, .int 0]))] sz)) 0 0 (va_A [(h0, .inr (7, [.null, .int 0, .int 0, .int 0, .int 0, .int 0, .int 0, .int 0, .int 0]))] sz) := by
  refine ofQ (cc := cX7_init) (maxL := 2) (ret := none) (by decide) rfl ?_
  intro p e s m args below meth c s₁ Q hQ B hml hv
  obtain ⟨rfl, hsz, hP, hK, hD0⟩ := hv
  have hx := B.exec
  have hb := B.bytes
  have hr := B.returns
  have hts := atoms_spec (ws := wsX7_init) B.pre
  have hown : s.vm.findClass RX7 = some m.cls := by have h_ := findClass_of_methodNamed B.named; exact h_
  have hlocks := B.notSynchronized
  have hin : meth.name = "<init>" := (name_of_methodNamed B.named B.method).1
  subst hsz
  have hD := hD0.self (sz := s.heap.size)
  generalize hAe : va_A [(h0, .inr (7, [.null, .int 0, .int 0, .int 0, .int 0, .int 0, .int 0, .int 0, .int 0]))] s.heap.size = A at hD hQ
  have hA : ∀ q : Nat, s.heap.size ≤ q → A q := fun q h => by rw [← hAe]; exact Or.inr h
  have hS : va_S A s.heap s.heap [] := va_S.rf
  have hl := lv_entry ([.ref h0, .ref x1]) (n := 2) (Nat.le_of_ble_eq_true rfl)
  rw [lg_entry_eq]
  generalize (lg_sl ([.ref h0, .ref x1]) ++ List.replicate (2 - (lg_sl ([.ref h0, .ref x1])).length) Slot.unset).toArray = ls at hl ⊢
  have hl : lv_has ls 2 [(0, .ref h0), (1, .ref x1)] := hl
  refine lv_aload_n hx hb dX7_init_0 rfl (lv_at hl 0 rfl) ?_
  refine W.objInit hx hb hown (hts (.methodLink RX7 3 objectInit) (by decide +kernel)) (hts (.instanceMethod objectInit) (by decide +kernel)) (hts (.code objectInit ⟨#[0xb1]⟩ 1 none) (by decide +kernel)) rfl (by rw [hml]; exact hl.1) rfl dX7_init_1 (Nat.le_of_ble_eq_true rfl) (Nat.le_of_ble_eq_true rfl) ?_
  refine W.eq (g2 := F0 m 4 ls []) rfl ?_
  refine lv_aload_n hx hb dX7_init_4 rfl (lv_at hl 0 rfl) ?_
  refine lv_aload_n hx hb dX7_init_5 rfl (lv_at hl 1 rfl) ?_
  refine va_putF (ci := 7) (v := .ref x1) (ty := (tyX7 0)) (C := RX7) (T := TX7) (N := 9) hx hb hts (fun _ h => List.mem_cons_of_mem _ (List.mem_append_right _ h)) tyX7 tyX7_ok nmX7 hown hK.1 hP hD hS 0 rfl rfl 0 (by decide) (hts (.fieldLink RX7 9 "CutAtlas$SetHunt" "current" "LCutAtlas$Current;") (by decide +kernel)) (fun _ h9 => h9) rfl hin rfl (by decide +kernel) rfl rfl (Nat.le_of_ble_eq_true rfl) dX7_init_6 (fun H locs hP hD hS => ?_)
  refine pd_K [(h0, .inr (7, [.ref x1, .int 0, .int 0, .int 0, .int 0, .int 0, .int 0, .int 0, .int 0]))] hP hD (fun hP hD => ?_)
  have hP9 := hP.sub (ws' := [(h0, .inr (7, [.ref x1, .int 0, .int 0, .int 0, .int 0, .int 0, .int 0, .int 0, .int 0]))]) [0] rfl
  have hD9 := hD.sub (ws' := [(h0, .inr (7, [.ref x1, .int 0, .int 0, .int 0, .int 0, .int 0, .int 0, .int 0, .int 0]))]) [0] (by decide) rfl
  rw [hQ]
  exact W.vret hx hb hr (fun t ht hW => ⟨⟨(), rfl, trivial, by rw [ht]; exact hP9, hD9⟩, hS.F ht⟩) hS.2.2 dX7_init_9

set_option maxHeartbeats 4000000 in
set_option maxRecDepth 100000 in
theorem c_X1_init (l : Launch) (D : va_G) (cy : Nat → ClassId) (sz : Nat) (h0 : Nat) (x1 : Nat) : Met l yX1_init wsX1_init ({ frames := 1, cells := 2, slots := 24, locals := 12 }) (va_Pc [.ref h0, .ref x1] (fun U => U.heap.size = sz ∧ va_P D vwCl [(h0, .inr (1, [.null, .null, .null]))] U.heap ∧ kk_ D cy U ∧ va_D (fun _ => True) [(h0, .inr (1, [.null, .null, .null]))])) (va_Qv (fun (_ : Unit) => True) (fun (_ : Unit) (t : State) => ∃ (ta : Nat), ∃ (tb : Nat), va_P D vwCl [(h0, .inr (1, [.ref x1, .ref ta, .ref tb])), (ta, .inl (cy 0, 12, .inl (fun _ => 0))), (tb, .inl (cy 0, 12, .inl (fun _ => 0)))] t.heap ∧ va_D (va_A [(h0, .inr (1, [.null, .null, .null]))] sz) [(h0, .inr (1, [.ref x1, .ref ta, .ref tb])), (ta, .inl (cy 0, 12, .inl (fun _ => 0))), (tb, .inl (cy 0, 12, .inl (fun _ => 0)))]) (va_A [(h0, .inr (1, [.null, .null, .null]))] sz)) 2 24 (va_A [(h0, .inr (1, [.null, .null, .null]))] sz) := by
  refine ofQ (cc := cX1_init) (maxL := 2) (ret := none) (by decide) rfl ?_
  intro p e s m args below meth c s₁ Q hQ B hml hv
  obtain ⟨rfl, hsz, hP, hK, hD0⟩ := hv
  have hx := B.exec
  have hb := B.bytes
  have hr := B.returns
  have hts := atoms_spec (ws := wsX1_init) B.pre
  have hown : s.vm.findClass RX1 = some m.cls := by have h_ := findClass_of_methodNamed B.named; exact h_
  have hlocks := B.notSynchronized
  have hin : meth.name = "<init>" := (name_of_methodNamed B.named B.method).1
  subst hsz
  have hD := hD0.self (sz := s.heap.size)
  generalize hAe : va_A [(h0, .inr (1, [.null, .null, .null]))] s.heap.size = A at hD hQ
  have hA : ∀ q : Nat, s.heap.size ≤ q → A q := fun q h => by rw [← hAe]; exact Or.inr h
  have hS : va_S A s.heap s.heap [] := va_S.rf
  have hl := lv_entry ([.ref h0, .ref x1]) (n := 2) (Nat.le_of_ble_eq_true rfl)
  rw [lg_entry_eq]
  generalize (lg_sl ([.ref h0, .ref x1]) ++ List.replicate (2 - (lg_sl ([.ref h0, .ref x1])).length) Slot.unset).toArray = ls at hl ⊢
  have hl : lv_has ls 2 [(0, .ref h0), (1, .ref x1)] := hl
  refine lv_aload_n hx hb dX1_init_0 rfl (lv_at hl 0 rfl) ?_
  refine W.objInit hx hb hown (hts (.methodLink RX1 3 objectInit) (by decide +kernel)) (hts (.instanceMethod objectInit) (by decide +kernel)) (hts (.code objectInit ⟨#[0xb1]⟩ 1 none) (by decide +kernel)) rfl (by rw [hml]; exact hl.1) rfl dX1_init_1 (Nat.le_of_ble_eq_true rfl) (Nat.le_of_ble_eq_true rfl) ?_
  refine W.eq (g2 := F0 m 4 ls []) rfl ?_
  refine lv_aload_n hx hb dX1_init_4 rfl (lv_at hl 0 rfl) ?_
  refine lv_bipush (v := 12) hx hb dX1_init_5 (by decide) ?_
  refine nw_a (a0 := (12, .inl (fun _ => 0))) (ty := .int) hx hb (hts (.arrayClass .int) (by decide +kernel)) rfl hK.1 0 rfl (fun _ h => by cases h) hP hD hS hA (fun _ => rfl) (by decide) (by decide) (by decide) (Nat.le_of_ble_eq_true rfl) (Nat.le_of_ble_eq_true rfl) dX1_init_7 (fun q_1 H hP hD hS => ?_)
  refine pd_K [(h0, .inr (1, [.null, .null, .null])), (q_1, .inl (cy 0, 12, .inl (fun _ => 0)))] hP hD (fun hP hD => ?_)
  refine va_putF (ci := 1) (v := .ref q_1) (ty := (tyX1 1)) (C := RX1) (T := TX1) (N := 3) hx hb hts (fun _ h => List.mem_cons_of_mem _ (List.mem_append_right _ h)) tyX1 tyX1_ok nmX1 hown hK.1 hP hD hS 0 rfl rfl 1 (by decide) (hts (.fieldLink RX1 9 "CutAtlas$CutTree" "nexts" "[I") (by decide +kernel)) (fun _ h9 => h9) rfl hin rfl (by decide +kernel) rfl rfl (Nat.le_of_ble_eq_true rfl) dX1_init_9 (fun H locs hP hD hS => ?_)
  refine pd_K [(h0, .inr (1, [.null, .ref q_1, .null])), (q_1, .inl (cy 0, 12, .inl (fun _ => 0)))] hP hD (fun hP hD => ?_)
  refine lv_aload_n hx hb dX1_init_12 rfl (lv_at hl 0 rfl) ?_
  refine lv_bipush (v := 12) hx hb dX1_init_13 (by decide) ?_
  refine nw_a (a0 := (12, .inl (fun _ => 0))) (ty := .int) hx hb (hts (.arrayClass .int) (by decide +kernel)) rfl hK.1 0 rfl (fun _ h => by cases h) hP hD hS hA (fun _ => rfl) (by decide) (by decide) (by decide) (Nat.le_of_ble_eq_true rfl) (Nat.le_of_ble_eq_true rfl) dX1_init_15 (fun q_2 H hP hD hS => ?_)
  refine pd_K [(h0, .inr (1, [.null, .ref q_1, .null])), (q_1, .inl (cy 0, 12, .inl (fun _ => 0))), (q_2, .inl (cy 0, 12, .inl (fun _ => 0)))] hP hD (fun hP hD => ?_)
  refine va_putF (ci := 1) (v := .ref q_2) (ty := (tyX1 2)) (C := RX1) (T := TX1) (N := 3) hx hb hts (fun _ h => List.mem_cons_of_mem _ (List.mem_append_right _ h)) tyX1 tyX1_ok nmX1 hown hK.1 hP hD hS 0 rfl rfl 2 (by decide) (hts (.fieldLink RX1 15 "CutAtlas$CutTree" "numbers" "[I") (by decide +kernel)) (fun _ h9 => h9) rfl hin rfl (by decide +kernel) rfl rfl (Nat.le_of_ble_eq_true rfl) dX1_init_17 (fun H locs hP hD hS => ?_)
  refine pd_K [(h0, .inr (1, [.null, .ref q_1, .ref q_2])), (q_1, .inl (cy 0, 12, .inl (fun _ => 0))), (q_2, .inl (cy 0, 12, .inl (fun _ => 0)))] hP hD (fun hP hD => ?_)
  refine lv_aload_n hx hb dX1_init_20 rfl (lv_at hl 0 rfl) ?_
  refine lv_aload_n hx hb dX1_init_21 rfl (lv_at hl 1 rfl) ?_
  refine va_putF (ci := 1) (v := .ref x1) (ty := (tyX1 0)) (C := RX1) (T := TX1) (N := 3) hx hb hts (fun _ h => List.mem_cons_of_mem _ (List.mem_append_right _ h)) tyX1 tyX1_ok nmX1 hown hK.1 hP hD hS 0 rfl rfl 0 (by decide) (hts (.fieldLink RX1 18 "CutAtlas$CutTree" "current" "LCutAtlas$Current;") (by decide +kernel)) (fun _ h9 => h9) rfl hin rfl (by decide +kernel) rfl rfl (Nat.le_of_ble_eq_true rfl) dX1_init_22 (fun H locs hP hD hS => ?_)
  refine pd_K [(h0, .inr (1, [.ref x1, .ref q_1, .ref q_2])), (q_1, .inl (cy 0, 12, .inl (fun _ => 0))), (q_2, .inl (cy 0, 12, .inl (fun _ => 0)))] hP hD (fun hP hD => ?_)
  have hP9 := hP.sub (ws' := [(h0, .inr (1, [.ref x1, .ref q_1, .ref q_2])), (q_1, .inl (cy 0, 12, .inl (fun _ => 0))), (q_2, .inl (cy 0, 12, .inl (fun _ => 0)))]) [0, 1, 2] rfl
  have hD9 := hD.sub (ws' := [(h0, .inr (1, [.ref x1, .ref q_1, .ref q_2])), (q_1, .inl (cy 0, 12, .inl (fun _ => 0))), (q_2, .inl (cy 0, 12, .inl (fun _ => 0)))]) [0, 1, 2] (by decide) rfl
  rw [hQ]
  exact W.vret hx hb hr (fun t ht hW => ⟨⟨(), rfl, trivial, q_1, q_2, by rw [ht]; exact hP9, hD9⟩, hS.F ht⟩) hS.2.2 dX1_init_25

set_option maxHeartbeats 4000000 in
set_option maxRecDepth 100000 in
theorem c_X10_init (l : Launch) (D : va_G) (cy : Nat → ClassId) (sz : Nat) (h0 : Nat) (x1 : Nat) (x2 : Nat) : Met l yX10_init wsX10_init ({ frames := 1, cells := 15, slots := 180, locals := 12 }) (va_Pc [.ref h0, .ref x1, .ref x2] (fun U => U.heap.size = sz ∧ va_P D vwCl [(h0, .inr (10, [.null, .null, .null, .null, .null]))] U.heap ∧ kh_ D cy U ∧ va_D (fun _ => True) [(h0, .inr (10, [.null, .null, .null, .null, .null]))])) (va_Qv (fun (_ : Unit) => True) (fun (_ : Unit) (t : State) => ∃ (wpo : Nat), ∃ (wc : Nat), ∃ (wf : Nat), ∃ (rp : Nat → Nat), ∃ (Mp : Nat → Nat → Int32), va_P D vwCl [(h0, .inr (10, [.ref x1, .ref x2, .ref wpo, .ref wc, .ref wf])), (wpo, .inl (cy 6, 12, .inr (.inr (.inr (.inr (gf_ rp)))))), ((rp 0), .inl (cy 0, 12, .inl (Mp 0))), ((rp 1), .inl (cy 0, 12, .inl (Mp 1))), ((rp 2), .inl (cy 0, 12, .inl (Mp 2))), ((rp 3), .inl (cy 0, 12, .inl (Mp 3))), ((rp 4), .inl (cy 0, 12, .inl (Mp 4))), ((rp 5), .inl (cy 0, 12, .inl (Mp 5))), ((rp 6), .inl (cy 0, 12, .inl (Mp 6))), ((rp 7), .inl (cy 0, 12, .inl (Mp 7))), ((rp 8), .inl (cy 0, 12, .inl (Mp 8))), ((rp 9), .inl (cy 0, 12, .inl (Mp 9))), ((rp 10), .inl (cy 0, 12, .inl (Mp 10))), ((rp 11), .inl (cy 0, 12, .inl (Mp 11))), (wc, .inl (cy 0, 12, .inl (fun _ => 0))), (wf, .inl (cy 0, 12, .inl (fun _ => 0)))] t.heap ∧ va_D (va_A [(h0, .inr (10, [.null, .null, .null, .null, .null]))] sz) [(h0, .inr (10, [.ref x1, .ref x2, .ref wpo, .ref wc, .ref wf])), (wpo, .inl (cy 6, 12, .inr (.inr (.inr (.inr (gf_ rp)))))), ((rp 0), .inl (cy 0, 12, .inl (Mp 0))), ((rp 1), .inl (cy 0, 12, .inl (Mp 1))), ((rp 2), .inl (cy 0, 12, .inl (Mp 2))), ((rp 3), .inl (cy 0, 12, .inl (Mp 3))), ((rp 4), .inl (cy 0, 12, .inl (Mp 4))), ((rp 5), .inl (cy 0, 12, .inl (Mp 5))), ((rp 6), .inl (cy 0, 12, .inl (Mp 6))), ((rp 7), .inl (cy 0, 12, .inl (Mp 7))), ((rp 8), .inl (cy 0, 12, .inl (Mp 8))), ((rp 9), .inl (cy 0, 12, .inl (Mp 9))), ((rp 10), .inl (cy 0, 12, .inl (Mp 10))), ((rp 11), .inl (cy 0, 12, .inl (Mp 11))), (wc, .inl (cy 0, 12, .inl (fun _ => 0))), (wf, .inl (cy 0, 12, .inl (fun _ => 0)))]) (va_A [(h0, .inr (10, [.null, .null, .null, .null, .null]))] sz)) 15 180 (va_A [(h0, .inr (10, [.null, .null, .null, .null, .null]))] sz) := by
  refine ofQ (cc := cX10_init) (maxL := 3) (ret := none) (by decide) rfl ?_
  intro p e s m args below meth c s₁ Q hQ B hml hv
  obtain ⟨rfl, hsz, hP, hK, hD0⟩ := hv
  have hR6 := hK.2
  have hG := hK.1.2
  have hK := hK.1.1
  have hx := B.exec
  have hb := B.bytes
  have hr := B.returns
  have hts := atoms_spec (ws := wsX10_init) B.pre
  have hown : s.vm.findClass RX10 = some m.cls := by have h_ := findClass_of_methodNamed B.named; exact h_
  have hlocks := B.notSynchronized
  have hin : meth.name = "<init>" := (name_of_methodNamed B.named B.method).1
  subst hsz
  have hD := hD0.self (sz := s.heap.size)
  generalize hAe : va_A [(h0, .inr (10, [.null, .null, .null, .null, .null]))] s.heap.size = A at hD hQ
  have hA : ∀ q : Nat, s.heap.size ≤ q → A q := fun q h => by rw [← hAe]; exact Or.inr h
  have hS : va_S A s.heap s.heap [] := va_S.rf
  have hl := lv_entry ([.ref h0, .ref x1, .ref x2]) (n := 3) (Nat.le_of_ble_eq_true rfl)
  rw [lg_entry_eq]
  generalize (lg_sl ([.ref h0, .ref x1, .ref x2]) ++ List.replicate (3 - (lg_sl ([.ref h0, .ref x1, .ref x2])).length) Slot.unset).toArray = ls at hl ⊢
  have hl : lv_has ls 3 [(0, .ref h0), (1, .ref x1), (2, .ref x2)] := hl
  refine lv_aload_n hx hb dX10_init_0 rfl (lv_at hl 0 rfl) ?_
  refine W.objInit hx hb hown (hts (.methodLink RX10 3 objectInit) (by decide +kernel)) (hts (.instanceMethod objectInit) (by decide +kernel)) (hts (.code objectInit ⟨#[0xb1]⟩ 1 none) (by decide +kernel)) rfl (by rw [hml]; exact hl.1) rfl dX10_init_1 (Nat.le_of_ble_eq_true rfl) (Nat.le_of_ble_eq_true rfl) ?_
  refine W.eq (g2 := F0 m 4 ls []) rfl ?_
  refine lv_aload_n hx hb dX10_init_4 rfl (lv_at hl 0 rfl) ?_
  refine lv_bipush (v := 12) hx hb dX10_init_5 (by decide) ?_
  refine lv_bipush (v := 12) hx hb dX10_init_7 (by decide) ?_
  refine mn_g hx hb hown (hts (.classLink RX10 9 "[[I") (by decide +kernel)) hK hR6 (hts (.arrayClass .int) (by decide +kernel)) hP hD hS hA (Nat.le_of_ble_eq_true rfl) (Nat.le_of_ble_eq_true rfl) dX10_init_9 (fun q_1 r_2 H hP hD hS => ?_)
  obtain ⟨M_3, eM_3⟩ : ∃ g : Nat → Nat → Int32, g = fun _ _ => 0 := ⟨_, rfl⟩
  rw [← eM_3] at hP hD
  refine pd_K [(h0, .inr (10, [.null, .null, .null, .null, .null])), (q_1, .inl (cy 6, 12, .inr (.inr (.inr (.inr (gf_ r_2)))))), ((r_2 0), .inl (cy 0, 12, .inl (M_3 0))), ((r_2 1), .inl (cy 0, 12, .inl (M_3 1))), ((r_2 2), .inl (cy 0, 12, .inl (M_3 2))), ((r_2 3), .inl (cy 0, 12, .inl (M_3 3))), ((r_2 4), .inl (cy 0, 12, .inl (M_3 4))), ((r_2 5), .inl (cy 0, 12, .inl (M_3 5))), ((r_2 6), .inl (cy 0, 12, .inl (M_3 6))), ((r_2 7), .inl (cy 0, 12, .inl (M_3 7))), ((r_2 8), .inl (cy 0, 12, .inl (M_3 8))), ((r_2 9), .inl (cy 0, 12, .inl (M_3 9))), ((r_2 10), .inl (cy 0, 12, .inl (M_3 10))), ((r_2 11), .inl (cy 0, 12, .inl (M_3 11)))] hP hD (fun hP hD => ?_)
  refine va_putF (ci := 10) (v := .ref q_1) (ty := (tyX10 2)) (C := RX10) (T := TX10) (N := 5) hx hb hts (fun _ h => List.mem_cons_of_mem _ (List.mem_append_right _ h)) tyX10 tyX10_ok nmX10 hown hK.1 hP hD hS 0 rfl rfl 2 (by decide) (hts (.fieldLink RX10 11 "CutAtlas$Widening" "prices" "[[I") (by decide +kernel)) (fun _ h9 => h9) rfl hin rfl (by decide +kernel) rfl rfl (Nat.le_of_ble_eq_true rfl) dX10_init_13 (fun H locs hP hD hS => ?_)
  refine pd_K [(h0, .inr (10, [.null, .null, .ref q_1, .null, .null])), (q_1, .inl (cy 6, 12, .inr (.inr (.inr (.inr (gf_ r_2)))))), ((r_2 0), .inl (cy 0, 12, .inl (M_3 0))), ((r_2 1), .inl (cy 0, 12, .inl (M_3 1))), ((r_2 2), .inl (cy 0, 12, .inl (M_3 2))), ((r_2 3), .inl (cy 0, 12, .inl (M_3 3))), ((r_2 4), .inl (cy 0, 12, .inl (M_3 4))), ((r_2 5), .inl (cy 0, 12, .inl (M_3 5))), ((r_2 6), .inl (cy 0, 12, .inl (M_3 6))), ((r_2 7), .inl (cy 0, 12, .inl (M_3 7))), ((r_2 8), .inl (cy 0, 12, .inl (M_3 8))), ((r_2 9), .inl (cy 0, 12, .inl (M_3 9))), ((r_2 10), .inl (cy 0, 12, .inl (M_3 10))), ((r_2 11), .inl (cy 0, 12, .inl (M_3 11)))] hP hD (fun hP hD => ?_)
  refine lv_aload_n hx hb dX10_init_16 rfl (lv_at hl 0 rfl) ?_
  refine lv_bipush (v := 12) hx hb dX10_init_17 (by decide) ?_
  refine nw_a (a0 := (12, .inl (fun _ => 0))) (ty := .int) hx hb (hts (.arrayClass .int) (by decide +kernel)) rfl hK.1 0 rfl (fun _ h => by cases h) hP hD hS hA (fun _ => rfl) (by decide) (by decide) (by decide) (Nat.le_of_ble_eq_true rfl) (Nat.le_of_ble_eq_true rfl) dX10_init_19 (fun q_4 H hP hD hS => ?_)
  refine pd_K [(h0, .inr (10, [.null, .null, .ref q_1, .null, .null])), (q_1, .inl (cy 6, 12, .inr (.inr (.inr (.inr (gf_ r_2)))))), ((r_2 0), .inl (cy 0, 12, .inl (M_3 0))), ((r_2 1), .inl (cy 0, 12, .inl (M_3 1))), ((r_2 2), .inl (cy 0, 12, .inl (M_3 2))), ((r_2 3), .inl (cy 0, 12, .inl (M_3 3))), ((r_2 4), .inl (cy 0, 12, .inl (M_3 4))), ((r_2 5), .inl (cy 0, 12, .inl (M_3 5))), ((r_2 6), .inl (cy 0, 12, .inl (M_3 6))), ((r_2 7), .inl (cy 0, 12, .inl (M_3 7))), ((r_2 8), .inl (cy 0, 12, .inl (M_3 8))), ((r_2 9), .inl (cy 0, 12, .inl (M_3 9))), ((r_2 10), .inl (cy 0, 12, .inl (M_3 10))), ((r_2 11), .inl (cy 0, 12, .inl (M_3 11))), (q_4, .inl (cy 0, 12, .inl (fun _ => 0)))] hP hD (fun hP hD => ?_)
  refine va_putF (ci := 10) (v := .ref q_4) (ty := (tyX10 3)) (C := RX10) (T := TX10) (N := 5) hx hb hts (fun _ h => List.mem_cons_of_mem _ (List.mem_append_right _ h)) tyX10 tyX10_ok nmX10 hown hK.1 hP hD hS 0 rfl rfl 3 (by decide) (hts (.fieldLink RX10 16 "CutAtlas$Widening" "costs" "[I") (by decide +kernel)) (fun _ h9 => h9) rfl hin rfl (by decide +kernel) rfl rfl (Nat.le_of_ble_eq_true rfl) dX10_init_21 (fun H locs hP hD hS => ?_)
  refine pd_K [(h0, .inr (10, [.null, .null, .ref q_1, .ref q_4, .null])), (q_1, .inl (cy 6, 12, .inr (.inr (.inr (.inr (gf_ r_2)))))), ((r_2 0), .inl (cy 0, 12, .inl (M_3 0))), ((r_2 1), .inl (cy 0, 12, .inl (M_3 1))), ((r_2 2), .inl (cy 0, 12, .inl (M_3 2))), ((r_2 3), .inl (cy 0, 12, .inl (M_3 3))), ((r_2 4), .inl (cy 0, 12, .inl (M_3 4))), ((r_2 5), .inl (cy 0, 12, .inl (M_3 5))), ((r_2 6), .inl (cy 0, 12, .inl (M_3 6))), ((r_2 7), .inl (cy 0, 12, .inl (M_3 7))), ((r_2 8), .inl (cy 0, 12, .inl (M_3 8))), ((r_2 9), .inl (cy 0, 12, .inl (M_3 9))), ((r_2 10), .inl (cy 0, 12, .inl (M_3 10))), ((r_2 11), .inl (cy 0, 12, .inl (M_3 11))), (q_4, .inl (cy 0, 12, .inl (fun _ => 0)))] hP hD (fun hP hD => ?_)
  refine lv_aload_n hx hb dX10_init_24 rfl (lv_at hl 0 rfl) ?_
  refine lv_bipush (v := 12) hx hb dX10_init_25 (by decide) ?_
  refine nw_a (a0 := (12, .inl (fun _ => 0))) (ty := .int) hx hb (hts (.arrayClass .int) (by decide +kernel)) rfl hK.1 0 rfl (fun _ h => by cases h) hP hD hS hA (fun _ => rfl) (by decide) (by decide) (by decide) (Nat.le_of_ble_eq_true rfl) (Nat.le_of_ble_eq_true rfl) dX10_init_27 (fun q_5 H hP hD hS => ?_)
  refine pd_K [(h0, .inr (10, [.null, .null, .ref q_1, .ref q_4, .null])), (q_1, .inl (cy 6, 12, .inr (.inr (.inr (.inr (gf_ r_2)))))), ((r_2 0), .inl (cy 0, 12, .inl (M_3 0))), ((r_2 1), .inl (cy 0, 12, .inl (M_3 1))), ((r_2 2), .inl (cy 0, 12, .inl (M_3 2))), ((r_2 3), .inl (cy 0, 12, .inl (M_3 3))), ((r_2 4), .inl (cy 0, 12, .inl (M_3 4))), ((r_2 5), .inl (cy 0, 12, .inl (M_3 5))), ((r_2 6), .inl (cy 0, 12, .inl (M_3 6))), ((r_2 7), .inl (cy 0, 12, .inl (M_3 7))), ((r_2 8), .inl (cy 0, 12, .inl (M_3 8))), ((r_2 9), .inl (cy 0, 12, .inl (M_3 9))), ((r_2 10), .inl (cy 0, 12, .inl (M_3 10))), ((r_2 11), .inl (cy 0, 12, .inl (M_3 11))), (q_4, .inl (cy 0, 12, .inl (fun _ => 0))), (q_5, .inl (cy 0, 12, .inl (fun _ => 0)))] hP hD (fun hP hD => ?_)
  refine va_putF (ci := 10) (v := .ref q_5) (ty := (tyX10 4)) (C := RX10) (T := TX10) (N := 5) hx hb hts (fun _ h => List.mem_cons_of_mem _ (List.mem_append_right _ h)) tyX10 tyX10_ok nmX10 hown hK.1 hP hD hS 0 rfl rfl 4 (by decide) (hts (.fieldLink RX10 20 "CutAtlas$Widening" "cameFrom" "[I") (by decide +kernel)) (fun _ h9 => h9) rfl hin rfl (by decide +kernel) rfl rfl (Nat.le_of_ble_eq_true rfl) dX10_init_29 (fun H locs hP hD hS => ?_)
  refine pd_K [(h0, .inr (10, [.null, .null, .ref q_1, .ref q_4, .ref q_5])), (q_1, .inl (cy 6, 12, .inr (.inr (.inr (.inr (gf_ r_2)))))), ((r_2 0), .inl (cy 0, 12, .inl (M_3 0))), ((r_2 1), .inl (cy 0, 12, .inl (M_3 1))), ((r_2 2), .inl (cy 0, 12, .inl (M_3 2))), ((r_2 3), .inl (cy 0, 12, .inl (M_3 3))), ((r_2 4), .inl (cy 0, 12, .inl (M_3 4))), ((r_2 5), .inl (cy 0, 12, .inl (M_3 5))), ((r_2 6), .inl (cy 0, 12, .inl (M_3 6))), ((r_2 7), .inl (cy 0, 12, .inl (M_3 7))), ((r_2 8), .inl (cy 0, 12, .inl (M_3 8))), ((r_2 9), .inl (cy 0, 12, .inl (M_3 9))), ((r_2 10), .inl (cy 0, 12, .inl (M_3 10))), ((r_2 11), .inl (cy 0, 12, .inl (M_3 11))), (q_4, .inl (cy 0, 12, .inl (fun _ => 0))), (q_5, .inl (cy 0, 12, .inl (fun _ => 0)))] hP hD (fun hP hD => ?_)
  refine lv_aload_n hx hb dX10_init_32 rfl (lv_at hl 0 rfl) ?_
  refine lv_aload_n hx hb dX10_init_33 rfl (lv_at hl 1 rfl) ?_
  refine va_putF (ci := 10) (v := .ref x1) (ty := (tyX10 0)) (C := RX10) (T := TX10) (N := 5) hx hb hts (fun _ h => List.mem_cons_of_mem _ (List.mem_append_right _ h)) tyX10 tyX10_ok nmX10 hown hK.1 hP hD hS 0 rfl rfl 0 (by decide) (hts (.fieldLink RX10 23 "CutAtlas$Widening" "current" "LCutAtlas$Current;") (by decide +kernel)) (fun _ h9 => h9) rfl hin rfl (by decide +kernel) rfl rfl (Nat.le_of_ble_eq_true rfl) dX10_init_34 (fun H locs hP hD hS => ?_)
  refine pd_K [(h0, .inr (10, [.ref x1, .null, .ref q_1, .ref q_4, .ref q_5])), (q_1, .inl (cy 6, 12, .inr (.inr (.inr (.inr (gf_ r_2)))))), ((r_2 0), .inl (cy 0, 12, .inl (M_3 0))), ((r_2 1), .inl (cy 0, 12, .inl (M_3 1))), ((r_2 2), .inl (cy 0, 12, .inl (M_3 2))), ((r_2 3), .inl (cy 0, 12, .inl (M_3 3))), ((r_2 4), .inl (cy 0, 12, .inl (M_3 4))), ((r_2 5), .inl (cy 0, 12, .inl (M_3 5))), ((r_2 6), .inl (cy 0, 12, .inl (M_3 6))), ((r_2 7), .inl (cy 0, 12, .inl (M_3 7))), ((r_2 8), .inl (cy 0, 12, .inl (M_3 8))), ((r_2 9), .inl (cy 0, 12, .inl (M_3 9))), ((r_2 10), .inl (cy 0, 12, .inl (M_3 10))), ((r_2 11), .inl (cy 0, 12, .inl (M_3 11))), (q_4, .inl (cy 0, 12, .inl (fun _ => 0))), (q_5, .inl (cy 0, 12, .inl (fun _ => 0)))] hP hD (fun hP hD => ?_)
  refine lv_aload_n hx hb dX10_init_37 rfl (lv_at hl 0 rfl) ?_
  refine lv_aload_n hx hb dX10_init_38 rfl (lv_at hl 2 rfl) ?_
  refine va_putF (ci := 10) (v := .ref x2) (ty := (tyX10 1)) (C := RX10) (T := TX10) (N := 5) hx hb hts (fun _ h => List.mem_cons_of_mem _ (List.mem_append_right _ h)) tyX10 tyX10_ok nmX10 hown hK.1 hP hD hS 0 rfl rfl 1 (by decide) (hts (.fieldLink RX10 27 "CutAtlas$Widening" "kinds" "[LCutAtlas$PlainKind;") (by decide +kernel)) (fun _ h9 => h9) rfl hin rfl (by decide +kernel) rfl rfl (Nat.le_of_ble_eq_true rfl) dX10_init_39 (fun H locs hP hD hS => ?_)
  refine pd_K [(h0, .inr (10, [.ref x1, .ref x2, .ref q_1, .ref q_4, .ref q_5])), (q_1, .inl (cy 6, 12, .inr (.inr (.inr (.inr (gf_ r_2)))))), ((r_2 0), .inl (cy 0, 12, .inl (M_3 0))), ((r_2 1), .inl (cy 0, 12, .inl (M_3 1))), ((r_2 2), .inl (cy 0, 12, .inl (M_3 2))), ((r_2 3), .inl (cy 0, 12, .inl (M_3 3))), ((r_2 4), .inl (cy 0, 12, .inl (M_3 4))), ((r_2 5), .inl (cy 0, 12, .inl (M_3 5))), ((r_2 6), .inl (cy 0, 12, .inl (M_3 6))), ((r_2 7), .inl (cy 0, 12, .inl (M_3 7))), ((r_2 8), .inl (cy 0, 12, .inl (M_3 8))), ((r_2 9), .inl (cy 0, 12, .inl (M_3 9))), ((r_2 10), .inl (cy 0, 12, .inl (M_3 10))), ((r_2 11), .inl (cy 0, 12, .inl (M_3 11))), (q_4, .inl (cy 0, 12, .inl (fun _ => 0))), (q_5, .inl (cy 0, 12, .inl (fun _ => 0)))] hP hD (fun hP hD => ?_)
  have hP9 := hP.sub (ws' := [(h0, .inr (10, [.ref x1, .ref x2, .ref q_1, .ref q_4, .ref q_5])), (q_1, .inl (cy 6, 12, .inr (.inr (.inr (.inr (gf_ r_2)))))), ((r_2 0), .inl (cy 0, 12, .inl (M_3 0))), ((r_2 1), .inl (cy 0, 12, .inl (M_3 1))), ((r_2 2), .inl (cy 0, 12, .inl (M_3 2))), ((r_2 3), .inl (cy 0, 12, .inl (M_3 3))), ((r_2 4), .inl (cy 0, 12, .inl (M_3 4))), ((r_2 5), .inl (cy 0, 12, .inl (M_3 5))), ((r_2 6), .inl (cy 0, 12, .inl (M_3 6))), ((r_2 7), .inl (cy 0, 12, .inl (M_3 7))), ((r_2 8), .inl (cy 0, 12, .inl (M_3 8))), ((r_2 9), .inl (cy 0, 12, .inl (M_3 9))), ((r_2 10), .inl (cy 0, 12, .inl (M_3 10))), ((r_2 11), .inl (cy 0, 12, .inl (M_3 11))), (q_4, .inl (cy 0, 12, .inl (fun _ => 0))), (q_5, .inl (cy 0, 12, .inl (fun _ => 0)))]) [0, 1, 2, 3, 4, 5, 6, 7, 8, 9, 10, 11, 12, 13, 14, 15] rfl
  have hD9 := hD.sub (ws' := [(h0, .inr (10, [.ref x1, .ref x2, .ref q_1, .ref q_4, .ref q_5])), (q_1, .inl (cy 6, 12, .inr (.inr (.inr (.inr (gf_ r_2)))))), ((r_2 0), .inl (cy 0, 12, .inl (M_3 0))), ((r_2 1), .inl (cy 0, 12, .inl (M_3 1))), ((r_2 2), .inl (cy 0, 12, .inl (M_3 2))), ((r_2 3), .inl (cy 0, 12, .inl (M_3 3))), ((r_2 4), .inl (cy 0, 12, .inl (M_3 4))), ((r_2 5), .inl (cy 0, 12, .inl (M_3 5))), ((r_2 6), .inl (cy 0, 12, .inl (M_3 6))), ((r_2 7), .inl (cy 0, 12, .inl (M_3 7))), ((r_2 8), .inl (cy 0, 12, .inl (M_3 8))), ((r_2 9), .inl (cy 0, 12, .inl (M_3 9))), ((r_2 10), .inl (cy 0, 12, .inl (M_3 10))), ((r_2 11), .inl (cy 0, 12, .inl (M_3 11))), (q_4, .inl (cy 0, 12, .inl (fun _ => 0))), (q_5, .inl (cy 0, 12, .inl (fun _ => 0)))]) [0, 1, 2, 3, 4, 5, 6, 7, 8, 9, 10, 11, 12, 13, 14, 15] (by decide +kernel) rfl
  rw [hQ]
  exact W.vret hx hb hr (fun t ht hW => ⟨⟨(), rfl, trivial, q_1, q_4, q_5, r_2, M_3, by rw [ht]; exact hP9, hD9⟩, hS.F ht⟩) hS.2.2 dX10_init_42

set_option maxHeartbeats 4000000 in
set_option maxRecDepth 100000 in
theorem c_X4_init (l : Launch) (D : va_G) (cy : Nat → ClassId) (sz : Nat) (h0 : Nat) : Met l yX4_init wsX4_init ({ frames := 1, cells := 2, slots := 36, locals := 12 }) (va_Pc [.ref h0] (fun U => U.heap.size = sz ∧ va_P D vwCl [(h0, .inr (4, [.int 0, .int 0, .null, .null]))] U.heap ∧ kk_ D cy U ∧ va_D (fun _ => True) [(h0, .inr (4, [.int 0, .int 0, .null, .null]))])) (va_Qv (fun (_ : Unit) => True) (fun (_ : Unit) (t : State) => ∃ (l1 : Nat), ∃ (l2 : Nat), va_P D vwCl [(h0, .inr (4, [.int 0, .int (-9), .ref l1, .ref l2])), (l1, .inl (cy 0, 6, .inl (fun _ => 0))), (l2, .inl (cy 1, 30, .inr (.inl (fun _ => 0))))] t.heap ∧ va_D (va_A [(h0, .inr (4, [.int 0, .int 0, .null, .null]))] sz) [(h0, .inr (4, [.int 0, .int (-9), .ref l1, .ref l2])), (l1, .inl (cy 0, 6, .inl (fun _ => 0))), (l2, .inl (cy 1, 30, .inr (.inl (fun _ => 0))))]) (va_A [(h0, .inr (4, [.int 0, .int 0, .null, .null]))] sz)) 2 36 (va_A [(h0, .inr (4, [.int 0, .int 0, .null, .null]))] sz) := by
  refine ofQ (cc := cX4_init) (maxL := 1) (ret := none) (by decide) rfl ?_
  intro p e s m args below meth c s₁ Q hQ B hml hv
  obtain ⟨rfl, hsz, hP, hK, hD0⟩ := hv
  have hx := B.exec
  have hb := B.bytes
  have hr := B.returns
  have hts := atoms_spec (ws := wsX4_init) B.pre
  have hown : s.vm.findClass RX4 = some m.cls := by have h_ := findClass_of_methodNamed B.named; exact h_
  have hlocks := B.notSynchronized
  have hin : meth.name = "<init>" := (name_of_methodNamed B.named B.method).1
  subst hsz
  have hD := hD0.self (sz := s.heap.size)
  generalize hAe : va_A [(h0, .inr (4, [.int 0, .int 0, .null, .null]))] s.heap.size = A at hD hQ
  have hA : ∀ q : Nat, s.heap.size ≤ q → A q := fun q h => by rw [← hAe]; exact Or.inr h
  have hS : va_S A s.heap s.heap [] := va_S.rf
  have hl := lv_entry ([.ref h0]) (n := 1) (Nat.le_of_ble_eq_true rfl)
  rw [lg_entry_eq]
  generalize (lg_sl ([.ref h0]) ++ List.replicate (1 - (lg_sl ([.ref h0])).length) Slot.unset).toArray = ls at hl ⊢
  have hl : lv_has ls 1 [(0, .ref h0)] := hl
  refine lv_aload_n hx hb dX4_init_0 rfl (lv_at hl 0 rfl) ?_
  refine W.objInit hx hb hown (hts (.methodLink RX4 3 objectInit) (by decide +kernel)) (hts (.instanceMethod objectInit) (by decide +kernel)) (hts (.code objectInit ⟨#[0xb1]⟩ 1 none) (by decide +kernel)) rfl (by rw [hml]; exact hl.1) rfl dX4_init_1 (Nat.le_of_ble_eq_true rfl) (Nat.le_of_ble_eq_true rfl) ?_
  refine W.eq (g2 := F0 m 4 ls []) rfl ?_
  refine lv_aload_n hx hb dX4_init_4 rfl (lv_at hl 0 rfl) ?_
  refine lv_iconst (v := 0) hx hb dX4_init_5 (by decide) ?_
  refine va_put (ci := 4) (v := .int 0) (ty := .int) (C := RX4) (T := TX4) (N := 4) hx hb hts (fun _ h => List.mem_cons_of_mem _ (List.mem_append_right _ h)) tyX4 tyX4_ok nmX4 hown hK.1 hP hD hS 0 rfl rfl 0 (by decide) (hts (.fieldLink RX4 9 "CutAtlas$NumberMap" "kind" "I") (by decide +kernel)) (fun _ h9 => h9) rfl (by decide +kernel) rfl rfl (Nat.le_of_ble_eq_true rfl) dX4_init_6 (fun H locs hP hD hS => ?_)
  refine pd_K [(h0, .inr (4, [.int 0, .int 0, .null, .null]))] hP hD (fun hP hD => ?_)
  refine lv_aload_n hx hb dX4_init_9 rfl (lv_at hl 0 rfl) ?_
  refine lv_bipush (v := (-9)) hx hb dX4_init_10 (by decide) ?_
  refine va_put (ci := 4) (v := .int (-9)) (ty := .int) (C := RX4) (T := TX4) (N := 4) hx hb hts (fun _ h => List.mem_cons_of_mem _ (List.mem_append_right _ h)) tyX4 tyX4_ok nmX4 hown hK.1 hP hD hS 0 rfl rfl 1 (by decide) (hts (.fieldLink RX4 15 "CutAtlas$NumberMap" "rows" "I") (by decide +kernel)) (fun _ h9 => h9) rfl (by decide +kernel) rfl rfl (Nat.le_of_ble_eq_true rfl) dX4_init_12 (fun H locs hP hD hS => ?_)
  refine pd_K [(h0, .inr (4, [.int 0, .int (-9), .null, .null]))] hP hD (fun hP hD => ?_)
  refine lv_aload_n hx hb dX4_init_15 rfl (lv_at hl 0 rfl) ?_
  refine lv_bipush (v := 6) hx hb dX4_init_16 (by decide) ?_
  refine nw_a (a0 := (6, .inl (fun _ => 0))) (ty := .int) hx hb (hts (.arrayClass .int) (by decide +kernel)) rfl hK.1 0 rfl (fun _ h => by cases h) hP hD hS hA (fun _ => rfl) (by decide) (by decide) (by decide) (Nat.le_of_ble_eq_true rfl) (Nat.le_of_ble_eq_true rfl) dX4_init_18 (fun q_1 H hP hD hS => ?_)
  refine pd_K [(h0, .inr (4, [.int 0, .int (-9), .null, .null])), (q_1, .inl (cy 0, 6, .inl (fun _ => 0)))] hP hD (fun hP hD => ?_)
  refine va_putF (ci := 4) (v := .ref q_1) (ty := (tyX4 2)) (C := RX4) (T := TX4) (N := 4) hx hb hts (fun _ h => List.mem_cons_of_mem _ (List.mem_append_right _ h)) tyX4 tyX4_ok nmX4 hown hK.1 hP hD hS 0 rfl rfl 2 (by decide) (hts (.fieldLink RX4 18 "CutAtlas$NumberMap" "lengths" "[I") (by decide +kernel)) (fun _ h9 => h9) rfl hin rfl (by decide +kernel) rfl rfl (Nat.le_of_ble_eq_true rfl) dX4_init_20 (fun H locs hP hD hS => ?_)
  refine pd_K [(h0, .inr (4, [.int 0, .int (-9), .ref q_1, .null])), (q_1, .inl (cy 0, 6, .inl (fun _ => 0)))] hP hD (fun hP hD => ?_)
  refine lv_aload_n hx hb dX4_init_23 rfl (lv_at hl 0 rfl) ?_
  refine lv_bipush (v := 30) hx hb dX4_init_24 (by decide) ?_
  refine nw_a (a0 := (30, .inr (.inl (fun _ => 0)))) (ty := .long) hx hb (hts (.arrayClass .long) (by decide +kernel)) rfl hK.1 1 rfl (fun _ h => by cases h) hP hD hS hA (fun _ => rfl) (by decide) (by decide) (by decide) (Nat.le_of_ble_eq_true rfl) (Nat.le_of_ble_eq_true rfl) dX4_init_26 (fun q_2 H hP hD hS => ?_)
  refine pd_K [(h0, .inr (4, [.int 0, .int (-9), .ref q_1, .null])), (q_1, .inl (cy 0, 6, .inl (fun _ => 0))), (q_2, .inl (cy 1, 30, .inr (.inl (fun _ => 0))))] hP hD (fun hP hD => ?_)
  refine va_putF (ci := 4) (v := .ref q_2) (ty := (tyX4 3)) (C := RX4) (T := TX4) (N := 4) hx hb hts (fun _ h => List.mem_cons_of_mem _ (List.mem_append_right _ h)) tyX4 tyX4_ok nmX4 hown hK.1 hP hD hS 0 rfl rfl 3 (by decide) (hts (.fieldLink RX4 22 "CutAtlas$NumberMap" "numbers" "[J") (by decide +kernel)) (fun _ h9 => h9) rfl hin rfl (by decide +kernel) rfl rfl (Nat.le_of_ble_eq_true rfl) dX4_init_28 (fun H locs hP hD hS => ?_)
  refine pd_K [(h0, .inr (4, [.int 0, .int (-9), .ref q_1, .ref q_2])), (q_1, .inl (cy 0, 6, .inl (fun _ => 0))), (q_2, .inl (cy 1, 30, .inr (.inl (fun _ => 0))))] hP hD (fun hP hD => ?_)
  have hP9 := hP.sub (ws' := [(h0, .inr (4, [.int 0, .int (-9), .ref q_1, .ref q_2])), (q_1, .inl (cy 0, 6, .inl (fun _ => 0))), (q_2, .inl (cy 1, 30, .inr (.inl (fun _ => 0))))]) [0, 1, 2] rfl
  have hD9 := hD.sub (ws' := [(h0, .inr (4, [.int 0, .int (-9), .ref q_1, .ref q_2])), (q_1, .inl (cy 0, 6, .inl (fun _ => 0))), (q_2, .inl (cy 1, 30, .inr (.inl (fun _ => 0))))]) [0, 1, 2] (by decide) rfl
  rw [hQ]
  exact W.vret hx hb hr (fun t ht hW => ⟨⟨(), rfl, trivial, q_1, q_2, by rw [ht]; exact hP9, hD9⟩, hS.F ht⟩) hS.2.2 dX4_init_31
