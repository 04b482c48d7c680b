section
noncomputable def kh_ (D : va_G) (cy : Nat → ClassId) (U : State) : Prop := kg_ D cy U ∧ va_RA U (cy 6) (.array .int)
theorem bl_h {av : List Value} {sz : Nat} {D : va_G} {cy : Nat → ClassId} {ws : va_W} {A : Nat → Prop} : FrameBlind (va_Pc av (fun U => U.heap.size = sz ∧ va_P D vwCl ws U.heap ∧ kh_ D cy U ∧ va_D A ws)) := fun a U g mk q => by
  obtain ⟨q0, q1, qP, qK, qD⟩ := q
  exact ⟨q0, q1, qP, ⟨⟨kk_cl (s := U) (U := U.calling g mk a) rfl qK.1.1, arrOfT_moved (u := U) (E := U.calling g mk a) (Vm.Alike.refl U.vm) qK.1.2⟩, va_RA.moved (u := U) (U := U.calling g mk a) (Vm.Alike.refl U.vm) qK.2⟩, qD⟩
theorem gro_pl {c : ClassId} {r : Nat → Nat} {f : Nat → va_E} : va_pl ([] ++ (List.range 12).map r) (vr_up f ((List.range 12).map r) (.inl (c, 12, .inl (fun _ => 0)))) = gro c r (fun _ _ => 0) := by
  unfold va_pl gro
  rw [List.nil_append, List.map_map]
  apply List.map_congr_left
  intro k hk
  show (r k, vr_up f ((List.range 12).map r) (.inl (c, 12, .inl (fun _ => 0))) (r k)) = _
  rw [vr_up_in (List.mem_map.mpr ⟨k, hk, rfl⟩)]
section MNG
variable {p : Program} {l : Launch} {e : Env} {R : Room} {s : State} {m : MethodId} {args : Array Value} {below : List Frame} {meth : Method} {c : Code} {H : Heap} {locs : List Loc} {cells slots : Nat} {Q : State → Prop}
variable {cc : ByteArray} {pc : Nat} {ls : Array Slot} {rest : List Value} {D : va_G} {A : Nat → Prop} {ws : va_W} {H0 : Heap}
/-- new int[12][12], with its cells -/
theorem mn_g {cy : Nat → ClassId} (hexec : p.tables.exec = Jvm.exec) (hb : c.code = cc) {own : String} {index : Nat} (hown : s.vm.findClass own = some m.cls) (hclink : (Cond.classLink own index "[[I").before args s = true) (hK : kk_ D cy s) (hR6 : va_RA s (cy 6) (.array .int)) (harr : (Cond.arrayClass .int).before args s = true) (hP : va_P D vwCl ws H) (hD : va_D A ws) (hS : va_S A H0 H locs) (hA : ∀ q, H0.size ≤ q → A q)
    (hcells : cells + 13 ≤ R.cells) (hslots : slots + 156 ≤ R.slots) (hdg : decode cc pc = .ok (.multianewarray index 2, 4))
    (kk : ∀ (q : Nat) (r : Nat → Nat) (H1 : Heap), va_P D vwCl ((ws ++ [(q, .inl (cy 6, 12, .inr (.inr (.inr (.inr (gf_ r))))))]) ++ gro (cy 0) r (fun _ _ => 0)) H1 → va_D A ((ws ++ [(q, .inl (cy 6, 12, .inr (.inr (.inr (.inr (gf_ r))))))]) ++ gro (cy 0) r (fun _ _ => 0)) → va_S A H0 H1 locs →
      W p l e R s m args below meth c H1 locs (cells + 1 + 12) (slots + 12 + 144) Q (F0 m (pc + 4) ls (.ref q :: rest))) : W p l e R s m args below meth c H locs cells slots Q (F0 m pc ls (.int 12 :: .int 12 :: rest)) := by
  have hcy : s.vm.findClass (FieldType.array .int).toString = some (cy 0) := (hK.1.2 0 (cy 0, .int) rfl).2
  refine va_mna (X := ws) (L := []) (f := fun _ => .inl (cy 0, (12, .inl (fun _ => 0)))) (ty := .int) (cy := cy 0) (N' := 12) (K' := 12) (z := (12, .inl (fun _ => 0))) hexec hb hown hclink (kk_aoa hK) harr hcy hK.1 (by simpa [va_pl] using hP) (by simpa [va_pl] using hD) hS hA (by decide) (by decide) (by decide) (by decide) (by decide) (by decide) (by decide) rfl rfl hcells hslots (fun c9 => ?_) hdg (fun q r cA H1 _ _ hK1 hP1 hD1 hS1 => ?_)
  · rw [vp_cell_i, ← arrV_new]
    rfl
  · have e1 : va_RA s cA (.array .int) := (hK1.2 (tt_ cy).length (cA, .array .int) (by simp)).2
    have e2 : cA = cy 6 := Option.some.inj (e1.symm.trans hR6)
    subst e2
    rw [gro_pl] at hP1 hD1
    exact kk q r H1 hP1 hD1 hS1
end MNG
set_option maxHeartbeats 4000000 in
set_option maxRecDepth 100000 in
theorem c_X6_init (l : Launch) (D : va_G) (cy : Nat → ClassId) (sz : Nat) (h0 : Nat) : Met l yX6_init wsX6_init ({ frames := 1, cells := 0, slots := 0, locals := 12 }) (va_Pc [.ref h0] (fun U => U.heap.size = sz ∧ va_P D vwCl [] U.heap ∧ kk_ D cy U ∧ va_D (fun _ => True) [])) (va_Qv (fun (_ : Unit) => True) (fun (_ : Unit) (_ : State) => True) (va_A [] sz)) 0 0 (va_A [] sz) := by
  refine ofQ (cc := cX6_init) (maxL := 1) (ret := none) (by decide) rfl ?_
  intro p e s m args below meth c s₁ Q hQ B hml hv
  obtain ⟨rfl, hsz, hP, hK, hD0⟩ := hv
  have hx := B.exec
  have hb := B.bytes
  have hr := B.returns
  have hts := atoms_spec (ws := wsX6_init) B.pre
  have hown : s.vm.findClass RX6 = some m.cls := by have h_ := findClass_of_methodNamed B.named; exact h_
  have hlocks := B.notSynchronized
  have hin : meth.name = "<init>" := (name_of_methodNamed B.named B.method).1
  subst hsz
  have hD : va_D (va_A [] s.heap.size) [] := dd_nil
  generalize hAe : va_A [] s.heap.size = A at hD hQ
  have hA : ∀ q : Nat, s.heap.size ≤ q → A q := fun q h => by rw [← hAe]; exact Or.inr h
  have hS : va_S A s.heap s.heap [] := va_S.rf
  have hl := lv_entry ([.ref h0]) (n := 1) (Nat.le_of_ble_eq_true rfl)
  rw [lg_entry_eq]
  generalize (lg_sl ([.ref h0]) ++ List.replicate (1 - (lg_sl ([.ref h0])).length) Slot.unset).toArray = ls at hl ⊢
  have hl : lv_has ls 1 [(0, .ref h0)] := hl
  refine lv_aload_n hx hb dB_36_1_55.1 rfl (lv_at hl 0 rfl) ?_
  refine W.objInit hx hb hown (hts (.methodLink RX6 3 objectInit) (List.mem_of_getElem? (i := 1) rfl)) (hts (.instanceMethod objectInit) (List.mem_of_getElem? (i := 2) rfl)) (hts (.code objectInit ⟨#[0xb1]⟩ 1 none) (List.mem_of_getElem? (i := 3) rfl)) rfl (by rw [hml]; exact hl.1) rfl dB_36_1_55.2.1 (Nat.le_of_ble_eq_true rfl) (Nat.le_of_ble_eq_true rfl) ?_
  refine W.eq (g2 := F0 m 4 ls []) rfl ?_
  rw [hQ]
  exact W.vret hx hb hr (fun t ht hW => ⟨⟨(), rfl, trivial, trivial⟩, hS.F ht⟩) hS.2.2 dB_36_1_55.2.2

set_option maxHeartbeats 4000000 in
set_option maxRecDepth 100000 in
theorem c_X5_init (l : Launch) (D : va_G) (cy : Nat → ClassId) (sz : Nat) (h0 : Nat) : Met l yX5_init wsX5_init ({ frames := 2, cells := 0, slots := 0, locals := 32 }) (va_Pc [.ref h0] (fun U => U.heap.size = sz ∧ va_P D vwCl [] U.heap ∧ kk_ D cy U ∧ va_D (fun _ => True) [])) (va_Qv (fun (_ : Unit) => True) (fun (_ : Unit) (_ : State) => True) (va_A [] sz)) 0 0 (va_A [] sz) := by
  refine ofQ (cc := cX5_init) (maxL := 1) (ret := none) (by decide) rfl ?_
  intro p e s m args below meth c s₁ Q hQ B hml hv
  obtain ⟨rfl, hsz, hP, hK, hD0⟩ := hv
  have hx := B.exec
  have hb := B.bytes
  have hr := B.returns
  have hts := atoms_spec (ws := wsX5_init) B.pre
  have hown : s.vm.findClass RX5 = some m.cls := by have h_ := findClass_of_methodNamed B.named; exact h_
  have hlocks := B.notSynchronized
  have hin : meth.name = "<init>" := (name_of_methodNamed B.named B.method).1
  subst hsz
  have hD : va_D (va_A [] s.heap.size) [] := dd_nil
  generalize hAe : va_A [] s.heap.size = A at hD hQ
  have hA : ∀ q : Nat, s.heap.size ≤ q → A q := fun q h => by rw [← hAe]; exact Or.inr h
  have hS : va_S A s.heap s.heap [] := va_S.rf
  have hl := lv_entry ([.ref h0]) (n := 1) (Nat.le_of_ble_eq_true rfl)
  rw [lg_entry_eq]
  generalize (lg_sl ([.ref h0]) ++ List.replicate (1 - (lg_sl ([.ref h0])).length) Slot.unset).toArray = ls at hl ⊢
  have hl : lv_has ls 1 [(0, .ref h0)] := hl
  refine lv_aload_n hx hb dB_36_1_48.1 rfl (lv_at hl 0 rfl) ?_
  have hPc := hP.sub (ws' := []) [] rfl
  have hDw : va_D (fun _ => True) [] := hD0.sub [] (by decide) rfl
  have hFc := va_free (wc := []) hD hS hA [] rfl
  refine va_callv (va_runIN (As := []) (rest := []) ⟨hx, hb, hml, hown, hts⟩ (c_X6_init l D cy s.heap.size h0) ⟨va_cnB 0 hts gX5_init_X6_init_n1 rfl rfl rfl (kk_nX5_1 hK) (hts (.initialized RX6) (List.mem_of_getElem? (i := 2) rfl)) (by decide +kernel) ⟨Nat.le_of_ble_eq_true rfl, Nat.le_of_ble_eq_true rfl⟩, rfl, (hts (.instanceMethod yX6_init) (List.mem_of_getElem? (i := 1) rfl))⟩ ⟨bl_, fun U hU hW => ⟨rfl, by rw [hU], by rw [hU]; exact hPc, kk_mv hW hK, hDw⟩⟩ rfl rfl hl.1 rfl (lv_room (Nat.le_of_ble_eq_true rfl)) dB_36_1_48.2.1 ⟨Nat.le_of_ble_eq_true rfl, Nat.le_of_ble_eq_true rfl⟩) hS (fun q _ h => hFc q h) hFc (fun u t H locs ht hvm hw hB hz1 hk1 hS => ?_)
  have hP := ro_keep hP hk1
  have hP : va_P D vwCl [] H := hP
  rw [hQ]
  exact W.vret hx hb hr (fun t ht hW => ⟨⟨(), rfl, trivial, trivial⟩, hS.F ht⟩) hS.2.2 dB_36_1_48.2.2

set_option maxHeartbeats 4000000 in
set_option maxRecDepth 100000 in
theorem c_X9_init (l : Launch) (D : va_G) (cy : Nat → ClassId) (sz : Nat) (h0 : Nat) : Met l yX9_init wsX9_init ({ frames := 2, cells := 0, slots := 0, locals := 32 }) (va_Pc [.ref h0] (fun U => U.heap.size = sz ∧ va_P D vwCl [] U.heap ∧ kk_ D cy U ∧ va_D (fun _ => True) [])) (va_Qv (fun (_ : Unit) => True) (fun (_ : Unit) (_ : State) => True) (va_A [] sz)) 0 0 (va_A [] sz) := by
  refine ofQ (cc := cX9_init) (maxL := 1) (ret := none) (by decide) rfl ?_
  intro p e s m args below meth c s₁ Q hQ B hml hv
  obtain ⟨rfl, hsz, hP, hK, hD0⟩ := hv
  have hx := B.exec
  have hb := B.bytes
  have hr := B.returns
  have hts := atoms_spec (ws := wsX9_init) B.pre
  have hown : s.vm.findClass RX9 = some m.cls := by have h_ := findClass_of_methodNamed B.named; exact h_
  have hlocks := B.notSynchronized
  have hin : meth.name = "<init>" := (name_of_methodNamed B.named B.method).1
  subst hsz
  have hD : va_D (va_A [] s.heap.size) [] := dd_nil
  generalize hAe : va_A [] s.heap.size = A at hD hQ
  have hA : ∀ q : Nat, s.heap.size ≤ q → A q := fun q h => by rw [← hAe]; exact Or.inr h
  have hS : va_S A s.heap s.heap [] := va_S.rf
  have hl := lv_entry ([.ref h0]) (n := 1) (Nat.le_of_ble_eq_true rfl)
  rw [lg_entry_eq]
  generalize (lg_sl ([.ref h0]) ++ List.replicate (1 - (lg_sl ([.ref h0])).length) Slot.unset).toArray = ls at hl ⊢
  have hl : lv_has ls 1 [(0, .ref h0)] := hl
  refine lv_aload_n hx hb dB_36_1_85.1 rfl (lv_at hl 0 rfl) ?_
  have hPc := hP.sub (ws' := []) [] rfl
  have hDw : va_D (fun _ => True) [] := hD0.sub [] (by decide) rfl
  have hFc := va_free (wc := []) hD hS hA [] rfl
  refine va_callv (va_runIN (As := []) (rest := []) ⟨hx, hb, hml, hown, hts⟩ (c_X6_init l D cy s.heap.size h0) ⟨va_cnB 0 hts gX9_init_X6_init_n3 rfl rfl rfl (kk_nX9_3 hK) (hts (.initialized RX6) (List.mem_of_getElem? (i := 2) rfl)) (by decide +kernel) ⟨Nat.le_of_ble_eq_true rfl, Nat.le_of_ble_eq_true rfl⟩, rfl, (hts (.instanceMethod yX6_init) (List.mem_of_getElem? (i := 1) rfl))⟩ ⟨bl_, fun U hU hW => ⟨rfl, by rw [hU], by rw [hU]; exact hPc, kk_mv hW hK, hDw⟩⟩ rfl rfl hl.1 rfl (lv_room (Nat.le_of_ble_eq_true rfl)) dB_36_1_85.2.1 ⟨Nat.le_of_ble_eq_true rfl, Nat.le_of_ble_eq_true rfl⟩) hS (fun q _ h => hFc q h) hFc (fun u t H locs ht hvm hw hB hz1 hk1 hS => ?_)
  have hP := ro_keep hP hk1
  have hP : va_P D vwCl [] H := hP
  rw [hQ]
  exact W.vret hx hb hr (fun t ht hW => ⟨⟨(), rfl, trivial, trivial⟩, hS.F ht⟩) hS.2.2 dB_36_1_85.2.2

set_option maxHeartbeats 4000000 in
set_option maxRecDepth 100000 in
theorem c_X2_init (l : Launch) (D : va_G) (cy : Nat → ClassId) (sz : Nat) (h0 : Nat) : Met l yX2_init wsX2_init ({ frames := 2, cells := 0, slots := 0, locals := 32 }) (va_Pc [.ref h0] (fun U => U.heap.size = sz ∧ va_P D vwCl [] U.heap ∧ kk_ D cy U ∧ va_D (fun _ => True) [])) (va_Qv (fun (_ : Unit) => True) (fun (_ : Unit) (_ : State) => True) (va_A [] sz)) 0 0 (va_A [] sz) := by
  refine ofQ (cc := cX2_init) (maxL := 1) (ret := none) (by decide) rfl ?_
  intro p e s m args below meth c s₁ Q hQ B hml hv
  obtain ⟨rfl, hsz, hP, hK, hD0⟩ := hv
  have hx := B.exec
  have hb := B.bytes
  have hr := B.returns
  have hts := atoms_spec (ws := wsX2_init) B.pre
  have hown : s.vm.findClass RX2 = some m.cls := by have h_ := findClass_of_methodNamed B.named; exact h_
  have hlocks := B.notSynchronized
  have hin : meth.name = "<init>" := (name_of_methodNamed B.named B.method).1
  subst hsz
  have hD : va_D (va_A [] s.heap.size) [] := dd_nil
  generalize hAe : va_A [] s.heap.size = A at hD hQ
  have hA : ∀ q : Nat, s.heap.size ≤ q → A q := fun q h => by rw [← hAe]; exact Or.inr h
  have hS : va_S A s.heap s.heap [] := va_S.rf
  have hl := lv_entry ([.ref h0]) (n := 1) (Nat.le_of_ble_eq_true rfl)
  rw [lg_entry_eq]
  generalize (lg_sl ([.ref h0]) ++ List.replicate (1 - (lg_sl ([.ref h0])).length) Slot.unset).toArray = ls at hl ⊢
  have hl : lv_has ls 1 [(0, .ref h0)] := hl
  refine lv_aload_n hx hb dB_36_1_6.1 rfl (lv_at hl 0 rfl) ?_
  have hPc := hP.sub (ws' := []) [] rfl
  have hDw : va_D (fun _ => True) [] := hD0.sub [] (by decide) rfl
  have hFc := va_free (wc := []) hD hS hA [] rfl
  refine va_callv (va_runIN (As := []) (rest := []) ⟨hx, hb, hml, hown, hts⟩ (c_X6_init l D cy s.heap.size h0) ⟨va_cnB 0 hts gX2_init_X6_init_n1 rfl rfl rfl (kk_nX2_1 hK) (hts (.initialized RX6) (List.mem_of_getElem? (i := 2) rfl)) (by decide +kernel) ⟨Nat.le_of_ble_eq_true rfl, Nat.le_of_ble_eq_true rfl⟩, rfl, (hts (.instanceMethod yX6_init) (List.mem_of_getElem? (i := 1) rfl))⟩ ⟨bl_, fun U hU hW => ⟨rfl, by rw [hU], by rw [hU]; exact hPc, kk_mv hW hK, hDw⟩⟩ rfl rfl hl.1 rfl (lv_room (Nat.le_of_ble_eq_true rfl)) dB_36_1_6.2.1 ⟨Nat.le_of_ble_eq_true rfl, Nat.le_of_ble_eq_true rfl⟩) hS (fun q _ h => hFc q h) hFc (fun u t H locs ht hvm hw hB hz1 hk1 hS => ?_)
  have hP := ro_keep hP hk1
  have hP : va_P D vwCl [] H := hP
  rw [hQ]
  exact W.vret hx hb hr (fun t ht hW => ⟨⟨(), rfl, trivial, trivial⟩, hS.F ht⟩) hS.2.2 dB_36_1_6.2.2

set_option maxHeartbeats 4000000 in
set_option maxRecDepth 100000 in
theorem c_X8_init (l : Launch) (D : va_G) (cy : Nat → ClassId) (sz : Nat) (h0 : Nat) : Met l yX8_init wsX8_init ({ frames := 3, cells := 0, slots := 0, locals := 52 }) (va_Pc [.ref h0] (fun U => U.heap.size = sz ∧ va_P D vwCl [] U.heap ∧ kk_ D cy U ∧ va_D (fun _ => True) [])) (va_Qv (fun (_ : Unit) => True) (fun (_ : Unit) (_ : State) => True) (va_A [] sz)) 0 0 (va_A [] sz) := by
  refine ofQ (cc := cX8_init) (maxL := 1) (ret := none) (by decide) rfl ?_
  intro p e s m args below meth c s₁ Q hQ B hml hv
  obtain ⟨rfl, hsz, hP, hK, hD0⟩ := hv
  have hx := B.exec
  have hb := B.bytes
  have hr := B.returns
  have hts := atoms_spec (ws := wsX8_init) B.pre
  have hown : s.vm.findClass RX8 = some m.cls := by have h_ := findClass_of_methodNamed B.named; exact h_
  have hlocks := B.notSynchronized
  have hin : meth.name = "<init>" := (name_of_methodNamed B.named B.method).1
  subst hsz
  have hD : va_D (va_A [] s.heap.size) [] := dd_nil
  generalize hAe : va_A [] s.heap.size = A at hD hQ
  have hA : ∀ q : Nat, s.heap.size ≤ q → A q := fun q h => by rw [← hAe]; exact Or.inr h
  have hS : va_S A s.heap s.heap [] := va_S.rf
  have hl := lv_entry ([.ref h0]) (n := 1) (Nat.le_of_ble_eq_true rfl)
  rw [lg_entry_eq]
  generalize (lg_sl ([.ref h0]) ++ List.replicate (1 - (lg_sl ([.ref h0])).length) Slot.unset).toArray = ls at hl ⊢
  have hl : lv_has ls 1 [(0, .ref h0)] := hl
  refine lv_aload_n hx hb dB_36_1_84.1 rfl (lv_at hl 0 rfl) ?_
  have hPc := hP.sub (ws' := []) [] rfl
  have hDw : va_D (fun _ => True) [] := hD0.sub [] (by decide) rfl
  have hFc := va_free (wc := []) hD hS hA [] rfl
  refine va_callv (va_runIN (As := []) (rest := []) ⟨hx, hb, hml, hown, hts⟩ (c_X2_init l D cy s.heap.size h0) ⟨va_cnB 0 hts gX8_init_X2_init_n1 rfl rfl rfl (kk_nX8_1 hK) (hts (.initialized RX2) (List.mem_of_getElem? (i := 2) rfl)) (by decide +kernel) ⟨Nat.le_of_ble_eq_true rfl, Nat.le_of_ble_eq_true rfl⟩, rfl, (hts (.instanceMethod yX2_init) (List.mem_of_getElem? (i := 1) rfl))⟩ ⟨bl_, fun U hU hW => ⟨rfl, by rw [hU], by rw [hU]; exact hPc, kk_mv hW hK, hDw⟩⟩ rfl rfl hl.1 rfl (lv_room (Nat.le_of_ble_eq_true rfl)) dB_36_1_84.2.1 ⟨Nat.le_of_ble_eq_true rfl, Nat.le_of_ble_eq_true rfl⟩) hS (fun q _ h => hFc q h) hFc (fun u t H locs ht hvm hw hB hz1 hk1 hS => ?_)
  have hP := ro_keep hP hk1
  have hP : va_P D vwCl [] H := hP
  rw [hQ]
  exact W.vret hx hb hr (fun t ht hW => ⟨⟨(), rfl, trivial, trivial⟩, hS.F ht⟩) hS.2.2 dB_36_1_84.2.2

set_option maxHeartbeats 4000000 in
set_option maxRecDepth 100000 in
theorem c_X0_init (l : Launch) (D : va_G) (cy : Nat → ClassId) (sz : Nat) (h0 : Nat) (x1 : Nat) (x2 : Nat) : Met l yX0_init wsX0_init ({ frames := 1, cells := 31, slots := 456, locals := 12 }) (va_Pc [.ref h0, .ref x1, .ref x2] (fun U => U.heap.size = sz ∧ va_P D vwCl [ob0_1_ h0] U.heap ∧ kh_ D cy U ∧ va_D (fun _ => True) [ob0_1_ h0])) (va_Qv (fun (_ : Unit) => True) (fun (_ : Unit) (t : State) => ∃ (clo : Nat), ∃ (cro : Nat), ∃ (c4 : Nat), ∃ (c5 : Nat), ∃ (c6 : Nat), ∃ (c7 : Nat), ∃ (c8 : Nat), ∃ (rl : Nat → Nat), ∃ (rr : Nat → Nat), ∃ (Ml : Nat → Nat → Int32), ∃ (Mr : Nat → Nat → Int32), va_P D vwCl [ob0_0_ h0 x1 x2 clo cro c4 c5 c6 c7 c8, aq_ cy 6 clo 12 (gf_ rl), ai_ cy (rl 0) 12 (Ml 0), ai_ cy (rl 1) 12 (Ml 1), ai_ cy (rl 2) 12 (Ml 2), ai_ cy (rl 3) 12 (Ml 3), ai_ cy (rl 4) 12 (Ml 4), ai_ cy (rl 5) 12 (Ml 5), ai_ cy (rl 6) 12 (Ml 6), ai_ cy (rl 7) 12 (Ml 7), ai_ cy (rl 8) 12 (Ml 8), ai_ cy (rl 9) 12 (Ml 9), ai_ cy (rl 10) 12 (Ml 10), ai_ cy (rl 11) 12 (Ml 11), aq_ cy 6 cro 12 (gf_ rr), ai_ cy (rr 0) 12 (Mr 0), ai_ cy (rr 1) 12 (Mr 1), ai_ cy (rr 2) 12 (Mr 2), ai_ cy (rr 3) 12 (Mr 3), ai_ cy (rr 4) 12 (Mr 4), ai_ cy (rr 5) 12 (Mr 5), ai_ cy (rr 6) 12 (Mr 6), ai_ cy (rr 7) 12 (Mr 7), ai_ cy (rr 8) 12 (Mr 8), ai_ cy (rr 9) 12 (Mr 9), ai_ cy (rr 10) 12 (Mr 10), ai_ cy (rr 11) 12 (Mr 11), ai_ cy c4 40 (fun _ => 0), ai_ cy c5 40 (fun _ => 0), ai_ cy c6 40 (fun _ => 0), ai_ cy c7 12 (fun _ => 0), ai_ cy c8 12 (fun _ => 0)] t.heap ∧ va_D (va_A [ob0_1_ h0] sz) [ob0_0_ h0 x1 x2 clo cro c4 c5 c6 c7 c8, aq_ cy 6 clo 12 (gf_ rl), ai_ cy (rl 0) 12 (Ml 0), ai_ cy (rl 1) 12 (Ml 1), ai_ cy (rl 2) 12 (Ml 2), ai_ cy (rl 3) 12 (Ml 3), ai_ cy (rl 4) 12 (Ml 4), ai_ cy (rl 5) 12 (Ml 5), ai_ cy (rl 6) 12 (Ml 6), ai_ cy (rl 7) 12 (Ml 7), ai_ cy (rl 8) 12 (Ml 8), ai_ cy (rl 9) 12 (Ml 9), ai_ cy (rl 10) 12 (Ml 10), ai_ cy (rl 11) 12 (Ml 11), aq_ cy 6 cro 12 (gf_ rr), ai_ cy (rr 0) 12 (Mr 0), ai_ cy (rr 1) 12 (Mr 1), ai_ cy (rr 2) 12 (Mr 2), ai_ cy (rr 3) 12 (Mr 3), ai_ cy (rr 4) 12 (Mr 4), ai_ cy (rr 5) 12 (Mr 5), ai_ cy (rr 6) 12 (Mr 6), ai_ cy (rr 7) 12 (Mr 7), ai_ cy (rr 8) 12 (Mr 8), ai_ cy (rr 9) 12 (Mr 9), ai_ cy (rr 10) 12 (Mr 10), ai_ cy (rr 11) 12 (Mr 11), ai_ cy c4 40 (fun _ => 0), ai_ cy c5 40 (fun _ => 0), ai_ cy c6 40 (fun _ => 0), ai_ cy c7 12 (fun _ => 0), ai_ cy c8 12 (fun _ => 0)]) (va_A [ob0_1_ h0] sz)) 31 456 (va_A [ob0_1_ h0] sz) := by
  refine ofQ (cc := cX0_init) (maxL := 3) (ret := none) (by decide) rfl ?_
  intro p e s m args below meth c s₁ Q hQ B hml hv
  obtain ⟨rfl, hsz, hP, hK, hD0⟩ := hv
  have hR6 := hK.2
  have hG := hK.1.2
  have hK := hK.1.1
  have hx := B.exec
  have hb := B.bytes
  have hr := B.returns
  have hts := atoms_spec (ws := wsX0_init) B.pre
  have hown : s.vm.findClass RX0 = some m.cls := by have h_ := findClass_of_methodNamed B.named; exact h_
  have hlocks := B.notSynchronized
  have hin : meth.name = "<init>" := (name_of_methodNamed B.named B.method).1
  subst hsz
  have hD := hD0.self (sz := s.heap.size)
  generalize hAe : va_A [ob0_1_ h0] s.heap.size = A at hD hQ
  have hA : ∀ q : Nat, s.heap.size ≤ q → A q := fun q h => by rw [← hAe]; exact Or.inr h
  have hS : va_S A s.heap s.heap [] := va_S.rf
  have hl := lv_entry ([.ref h0, .ref x1, .ref x2]) (n := 3) (Nat.le_of_ble_eq_true rfl)
  rw [lg_entry_eq]
  generalize (lg_sl ([.ref h0, .ref x1, .ref x2]) ++ List.replicate (3 - (lg_sl ([.ref h0, .ref x1, .ref x2])).length) Slot.unset).toArray = ls at hl ⊢
  have hl : lv_has ls 3 [(0, .ref h0), (1, .ref x1), (2, .ref x2)] := hl
  refine lv_aload_n hx hb dB_36_0_13.1.1.1.1 rfl (lv_at hl 0 rfl) ?_
  refine W.objInit hx hb hown (hts (.methodLink RX0 3 objectInit) (List.mem_of_getElem? (i := 1) rfl)) (hts (.instanceMethod objectInit) (List.mem_of_getElem? (i := 2) rfl)) (hts (.code objectInit ⟨#[0xb1]⟩ 1 none) (List.mem_of_getElem? (i := 3) rfl)) rfl (by rw [hml]; exact hl.1) rfl dB_36_0_13.1.1.1.2 (Nat.le_of_ble_eq_true rfl) (Nat.le_of_ble_eq_true rfl) ?_
  refine W.eq (g2 := F0 m 4 ls []) rfl ?_
  refine lv_aload_n hx hb dB_36_0_13.1.1.2.1 rfl (lv_at hl 0 rfl) ?_
  refine lv_bipush (v := 12) hx hb dB_36_0_13.1.1.2.2 (by decide) ?_
  refine lv_bipush (v := 12) hx hb dB_36_0_13.1.2.1.1 (by decide) ?_
  refine mn_g hx hb hown (hts (.classLink RX0 9 "[[I") (List.mem_of_getElem? (i := 4) rfl)) hK hR6 (hts (.arrayClass .int) (List.mem_of_getElem? (i := 5) rfl)) hP hD hS hA (Nat.le_of_ble_eq_true rfl) (Nat.le_of_ble_eq_true rfl) dB_36_0_13.1.2.1.2 (fun q_1 r_2 H hP hD hS => ?_)
  obtain ⟨M_3, eM_3⟩ : ∃ g : Nat → Nat → Int32, g = fun _ _ => 0 := ⟨_, rfl⟩
  rw [← eM_3] at hP hD
  refine pd_K [ob0_1_ h0, aq_ cy 6 q_1 12 (gf_ r_2), ai_ cy (r_2 0) 12 (M_3 0), ai_ cy (r_2 1) 12 (M_3 1), ai_ cy (r_2 2) 12 (M_3 2), ai_ cy (r_2 3) 12 (M_3 3), ai_ cy (r_2 4) 12 (M_3 4), ai_ cy (r_2 5) 12 (M_3 5), ai_ cy (r_2 6) 12 (M_3 6), ai_ cy (r_2 7) 12 (M_3 7), ai_ cy (r_2 8) 12 (M_3 8), ai_ cy (r_2 9) 12 (M_3 9), ai_ cy (r_2 10) 12 (M_3 10), ai_ cy (r_2 11) 12 (M_3 11)] hP hD (fun hP hD => ?_)
  refine va_putF (ci := 0) (v := .ref q_1) (ty := (tyX0 2)) (C := RX0) (T := TX0) (N := 9) hx hb hts (fun _ h => List.mem_cons_of_mem _ (List.mem_append_right _ h)) tyX0 tyX0_ok nmX0 hown hK.1 hP hD hS 0 rfl rfl 2 (by decide) (hts (.fieldLink RX0 11 "CutAtlas$Current" "lets" "[[I") (List.mem_of_getElem? (i := 6) rfl)) (fun _ h9 => h9) rfl hin rfl (by decide +kernel) rfl rfl (Nat.le_of_ble_eq_true rfl) dB_36_0_13.1.2.2.1 (fun H locs hP hD hS => ?_)
  refine pd_K [ob0_2_ h0 q_1, aq_ cy 6 q_1 12 (gf_ r_2), ai_ cy (r_2 0) 12 (M_3 0), ai_ cy (r_2 1) 12 (M_3 1), ai_ cy (r_2 2) 12 (M_3 2), ai_ cy (r_2 3) 12 (M_3 3), ai_ cy (r_2 4) 12 (M_3 4), ai_ cy (r_2 5) 12 (M_3 5), ai_ cy (r_2 6) 12 (M_3 6), ai_ cy (r_2 7) 12 (M_3 7), ai_ cy (r_2 8) 12 (M_3 8), ai_ cy (r_2 9) 12 (M_3 9), ai_ cy (r_2 10) 12 (M_3 10), ai_ cy (r_2 11) 12 (M_3 11)] hP hD (fun hP hD => ?_)
  refine lv_aload_n hx hb dB_36_0_13.1.2.2.2 rfl (lv_at hl 0 rfl) ?_
  refine lv_bipush (v := 12) hx hb dB_36_0_13.2.1.1.1 (by decide) ?_
  refine lv_bipush (v := 12) hx hb dB_36_0_13.2.1.1.2 (by decide) ?_
  refine mn_g hx hb hown (hts (.classLink RX0 9 "[[I") (List.mem_of_getElem? (i := 4) rfl)) hK hR6 (hts (.arrayClass .int) (List.mem_of_getElem? (i := 5) rfl)) hP hD hS hA (Nat.le_of_ble_eq_true rfl) (Nat.le_of_ble_eq_true rfl) dB_36_0_13.2.1.2.1 (fun q_4 r_5 H hP hD hS => ?_)
  obtain ⟨M_6, eM_6⟩ : ∃ g : Nat → Nat → Int32, g = fun _ _ => 0 := ⟨_, rfl⟩
  rw [← eM_6] at hP hD
  refine pd_K [ob0_2_ h0 q_1, aq_ cy 6 q_1 12 (gf_ r_2), ai_ cy (r_2 0) 12 (M_3 0), ai_ cy (r_2 1) 12 (M_3 1), ai_ cy (r_2 2) 12 (M_3 2), ai_ cy (r_2 3) 12 (M_3 3), ai_ cy (r_2 4) 12 (M_3 4), ai_ cy (r_2 5) 12 (M_3 5), ai_ cy (r_2 6) 12 (M_3 6), ai_ cy (r_2 7) 12 (M_3 7), ai_ cy (r_2 8) 12 (M_3 8), ai_ cy (r_2 9) 12 (M_3 9), ai_ cy (r_2 10) 12 (M_3 10), ai_ cy (r_2 11) 12 (M_3 11), aq_ cy 6 q_4 12 (gf_ r_5), ai_ cy (r_5 0) 12 (M_6 0), ai_ cy (r_5 1) 12 (M_6 1), ai_ cy (r_5 2) 12 (M_6 2), ai_ cy (r_5 3) 12 (M_6 3), ai_ cy (r_5 4) 12 (M_6 4), ai_ cy (r_5 5) 12 (M_6 5), ai_ cy (r_5 6) 12 (M_6 6), ai_ cy (r_5 7) 12 (M_6 7), ai_ cy (r_5 8) 12 (M_6 8), ai_ cy (r_5 9) 12 (M_6 9), ai_ cy (r_5 10) 12 (M_6 10), ai_ cy (r_5 11) 12 (M_6 11)] hP hD (fun hP hD => ?_)
  refine va_putF (ci := 0) (v := .ref q_4) (ty := (tyX0 3)) (C := RX0) (T := TX0) (N := 9) hx hb hts (fun _ h => List.mem_cons_of_mem _ (List.mem_append_right _ h)) tyX0 tyX0_ok nmX0 hown hK.1 hP hD hS 0 rfl rfl 3 (by decide) (hts (.fieldLink RX0 16 "CutAtlas$Current" "room" "[[I") (List.mem_of_getElem? (i := 7) rfl)) (fun _ h9 => h9) rfl hin rfl (by decide +kernel) rfl rfl (Nat.le_of_ble_eq_true rfl) dB_36_0_13.2.1.2.2 (fun H locs hP hD hS => ?_)
  refine pd_K [ob0_3_ h0 q_1 q_4, aq_ cy 6 q_1 12 (gf_ r_2), ai_ cy (r_2 0) 12 (M_3 0), ai_ cy (r_2 1) 12 (M_3 1), ai_ cy (r_2 2) 12 (M_3 2), ai_ cy (r_2 3) 12 (M_3 3), ai_ cy (r_2 4) 12 (M_3 4), ai_ cy (r_2 5) 12 (M_3 5), ai_ cy (r_2 6) 12 (M_3 6), ai_ cy (r_2 7) 12 (M_3 7), ai_ cy (r_2 8) 12 (M_3 8), ai_ cy (r_2 9) 12 (M_3 9), ai_ cy (r_2 10) 12 (M_3 10), ai_ cy (r_2 11) 12 (M_3 11), aq_ cy 6 q_4 12 (gf_ r_5), ai_ cy (r_5 0) 12 (M_6 0), ai_ cy (r_5 1) 12 (M_6 1), ai_ cy (r_5 2) 12 (M_6 2), ai_ cy (r_5 3) 12 (M_6 3), ai_ cy (r_5 4) 12 (M_6 4), ai_ cy (r_5 5) 12 (M_6 5), ai_ cy (r_5 6) 12 (M_6 6), ai_ cy (r_5 7) 12 (M_6 7), ai_ cy (r_5 8) 12 (M_6 8), ai_ cy (r_5 9) 12 (M_6 9), ai_ cy (r_5 10) 12 (M_6 10), ai_ cy (r_5 11) 12 (M_6 11)] hP hD (fun hP hD => ?_)
  refine lv_aload_n hx hb dB_36_0_13.2.2.1.1 rfl (lv_at hl 0 rfl) ?_
  refine lv_bipush (v := 40) hx hb dB_36_0_13.2.2.1.2 (by decide) ?_
  refine nw_a (a0 := (40, .inl (fun _ => 0))) (ty := .int) hx hb (hts (.arrayClass .int) (List.mem_of_getElem? (i := 5) rfl)) rfl hK.1 0 rfl (fun _ h => by cases h) hP hD hS hA (fun _ => rfl) (by decide) (by decide) (by decide) (Nat.le_of_ble_eq_true rfl) (Nat.le_of_ble_eq_true rfl) dB_36_0_13.2.2.2.1 (fun q_7 H hP hD hS => ?_)
  refine pd_K [ob0_3_ h0 q_1 q_4, aq_ cy 6 q_1 12 (gf_ r_2), ai_ cy (r_2 0) 12 (M_3 0), ai_ cy (r_2 1) 12 (M_3 1), ai_ cy (r_2 2) 12 (M_3 2), ai_ cy (r_2 3) 12 (M_3 3), ai_ cy (r_2 4) 12 (M_3 4), ai_ cy (r_2 5) 12 (M_3 5), ai_ cy (r_2 6) 12 (M_3 6), ai_ cy (r_2 7) 12 (M_3 7), ai_ cy (r_2 8) 12 (M_3 8), ai_ cy (r_2 9) 12 (M_3 9), ai_ cy (r_2 10) 12 (M_3 10), ai_ cy (r_2 11) 12 (M_3 11), aq_ cy 6 q_4 12 (gf_ r_5), ai_ cy (r_5 0) 12 (M_6 0), ai_ cy (r_5 1) 12 (M_6 1), ai_ cy (r_5 2) 12 (M_6 2), ai_ cy (r_5 3) 12 (M_6 3), ai_ cy (r_5 4) 12 (M_6 4), ai_ cy (r_5 5) 12 (M_6 5), ai_ cy (r_5 6) 12 (M_6 6), ai_ cy (r_5 7) 12 (M_6 7), ai_ cy (r_5 8) 12 (M_6 8), ai_ cy (r_5 9) 12 (M_6 9), ai_ cy (r_5 10) 12 (M_6 10), ai_ cy (r_5 11) 12 (M_6 11), ai_ cy q_7 40 (fun _ => 0)] hP hD (fun hP hD => ?_)
  refine va_putF (ci := 0) (v := .ref q_7) (ty := (tyX0 4)) (C := RX0) (T := TX0) (N := 9) hx hb hts (fun _ h => List.mem_cons_of_mem _ (List.mem_append_right _ h)) tyX0 tyX0_ok nmX0 hown hK.1 hP hD hS 0 rfl rfl 4 (by decide) (hts (.fieldLink RX0 19 "CutAtlas$Current" "flowing" "[I") (List.mem_of_getElem? (i := 8) rfl)) (fun _ h9 => h9) rfl hin rfl (by decide +kernel) rfl rfl (Nat.le_of_ble_eq_true rfl) dB_36_0_13.2.2.2.2 (fun H locs hP hD hS => ?_)
  refine pd_K [ob0_4_ h0 q_1 q_4 q_7, aq_ cy 6 q_1 12 (gf_ r_2), ai_ cy (r_2 0) 12 (M_3 0), ai_ cy (r_2 1) 12 (M_3 1), ai_ cy (r_2 2) 12 (M_3 2), ai_ cy (r_2 3) 12 (M_3 3), ai_ cy (r_2 4) 12 (M_3 4), ai_ cy (r_2 5) 12 (M_3 5), ai_ cy (r_2 6) 12 (M_3 6), ai_ cy (r_2 7) 12 (M_3 7), ai_ cy (r_2 8) 12 (M_3 8), ai_ cy (r_2 9) 12 (M_3 9), ai_ cy (r_2 10) 12 (M_3 10), ai_ cy (r_2 11) 12 (M_3 11), aq_ cy 6 q_4 12 (gf_ r_5), ai_ cy (r_5 0) 12 (M_6 0), ai_ cy (r_5 1) 12 (M_6 1), ai_ cy (r_5 2) 12 (M_6 2), ai_ cy (r_5 3) 12 (M_6 3), ai_ cy (r_5 4) 12 (M_6 4), ai_ cy (r_5 5) 12 (M_6 5), ai_ cy (r_5 6) 12 (M_6 6), ai_ cy (r_5 7) 12 (M_6 7), ai_ cy (r_5 8) 12 (M_6 8), ai_ cy (r_5 9) 12 (M_6 9), ai_ cy (r_5 10) 12 (M_6 10), ai_ cy (r_5 11) 12 (M_6 11), ai_ cy q_7 40 (fun _ => 0)] hP hD (fun hP hD => ?_)
  refine lv_aload_n hx hb dB_36_0_14.1.1.1.1 rfl (lv_at hl 0 rfl) ?_
  refine lv_bipush (v := 40) hx hb dB_36_0_14.1.1.1.2 (by decide) ?_
  refine nw_a (a0 := (40, .inl (fun _ => 0))) (ty := .int) hx hb (hts (.arrayClass .int) (List.mem_of_getElem? (i := 5) rfl)) rfl hK.1 0 rfl (fun _ h => by cases h) hP hD hS hA (fun _ => rfl) (by decide) (by decide) (by decide) (Nat.le_of_ble_eq_true rfl) (Nat.le_of_ble_eq_true rfl) dB_36_0_14.1.1.2.1 (fun q_8 H hP hD hS => ?_)
  refine pd_K [ob0_4_ h0 q_1 q_4 q_7, aq_ cy 6 q_1 12 (gf_ r_2), ai_ cy (r_2 0) 12 (M_3 0), ai_ cy (r_2 1) 12 (M_3 1), ai_ cy (r_2 2) 12 (M_3 2), ai_ cy (r_2 3) 12 (M_3 3), ai_ cy (r_2 4) 12 (M_3 4), ai_ cy (r_2 5) 12 (M_3 5), ai_ cy (r_2 6) 12 (M_3 6), ai_ cy (r_2 7) 12 (M_3 7), ai_ cy (r_2 8) 12 (M_3 8), ai_ cy (r_2 9) 12 (M_3 9), ai_ cy (r_2 10) 12 (M_3 10), ai_ cy (r_2 11) 12 (M_3 11), aq_ cy 6 q_4 12 (gf_ r_5), ai_ cy (r_5 0) 12 (M_6 0), ai_ cy (r_5 1) 12 (M_6 1), ai_ cy (r_5 2) 12 (M_6 2), ai_ cy (r_5 3) 12 (M_6 3), ai_ cy (r_5 4) 12 (M_6 4), ai_ cy (r_5 5) 12 (M_6 5), ai_ cy (r_5 6) 12 (M_6 6), ai_ cy (r_5 7) 12 (M_6 7), ai_ cy (r_5 8) 12 (M_6 8), ai_ cy (r_5 9) 12 (M_6 9), ai_ cy (r_5 10) 12 (M_6 10), ai_ cy (r_5 11) 12 (M_6 11), ai_ cy q_7 40 (fun _ => 0), ai_ cy q_8 40 (fun _ => 0)] hP hD (fun hP hD => ?_)
  refine va_putF (ci := 0) (v := .ref q_8) (ty := (tyX0 5)) (C := RX0) (T := TX0) (N := 9) hx hb hts (fun _ h => List.mem_cons_of_mem _ (List.mem_append_right _ h)) tyX0 tyX0_ok nmX0 hown hK.1 hP hD hS 0 rfl rfl 5 (by decide) (hts (.fieldLink RX0 23 "CutAtlas$Current" "letsForth" "[I") (List.mem_of_getElem? (i := 9) rfl)) (fun _ h9 => h9) rfl hin rfl (by decide +kernel) rfl rfl (Nat.le_of_ble_eq_true rfl) dB_36_0_14.1.1.2.2 (fun H locs hP hD hS => ?_)
  refine pd_K [ob0_5_ h0 q_1 q_4 q_7 q_8, aq_ cy 6 q_1 12 (gf_ r_2), ai_ cy (r_2 0) 12 (M_3 0), ai_ cy (r_2 1) 12 (M_3 1), ai_ cy (r_2 2) 12 (M_3 2), ai_ cy (r_2 3) 12 (M_3 3), ai_ cy (r_2 4) 12 (M_3 4), ai_ cy (r_2 5) 12 (M_3 5), ai_ cy (r_2 6) 12 (M_3 6), ai_ cy (r_2 7) 12 (M_3 7), ai_ cy (r_2 8) 12 (M_3 8), ai_ cy (r_2 9) 12 (M_3 9), ai_ cy (r_2 10) 12 (M_3 10), ai_ cy (r_2 11) 12 (M_3 11), aq_ cy 6 q_4 12 (gf_ r_5), ai_ cy (r_5 0) 12 (M_6 0), ai_ cy (r_5 1) 12 (M_6 1), ai_ cy (r_5 2) 12 (M_6 2), ai_ cy (r_5 3) 12 (M_6 3), ai_ cy (r_5 4) 12 (M_6 4), ai_ cy (r_5 5) 12 (M_6 5), ai_ cy (r_5 6) 12 (M_6 6), ai_ cy (r_5 7) 12 (M_6 7), ai_ cy (r_5 8) 12 (M_6 8), ai_ cy (r_5 9) 12 (M_6 9), ai_ cy (r_5 10) 12 (M_6 10), ai_ cy (r_5 11) 12 (M_6 11), ai_ cy q_7 40 (fun _ => 0), ai_ cy q_8 40 (fun _ => 0)] hP hD (fun hP hD => ?_)
  refine lv_aload_n hx hb dB_36_0_14.1.2.1.1 rfl (lv_at hl 0 rfl) ?_
  refine lv_bipush (v := 40) hx hb dB_36_0_14.1.2.1.2 (by decide) ?_
  refine nw_a (a0 := (40, .inl (fun _ => 0))) (ty := .int) hx hb (hts (.arrayClass .int) (List.mem_of_getElem? (i := 5) rfl)) rfl hK.1 0 rfl (fun _ h => by cases h) hP hD hS hA (fun _ => rfl) (by decide) (by decide) (by decide) (Nat.le_of_ble_eq_true rfl) (Nat.le_of_ble_eq_true rfl) dB_36_0_14.1.2.2.1 (fun q_9 H hP hD hS => ?_)
  refine pd_K [ob0_5_ h0 q_1 q_4 q_7 q_8, aq_ cy 6 q_1 12 (gf_ r_2), ai_ cy (r_2 0) 12 (M_3 0), ai_ cy (r_2 1) 12 (M_3 1), ai_ cy (r_2 2) 12 (M_3 2), ai_ cy (r_2 3) 12 (M_3 3), ai_ cy (r_2 4) 12 (M_3 4), ai_ cy (r_2 5) 12 (M_3 5), ai_ cy (r_2 6) 12 (M_3 6), ai_ cy (r_2 7) 12 (M_3 7), ai_ cy (r_2 8) 12 (M_3 8), ai_ cy (r_2 9) 12 (M_3 9), ai_ cy (r_2 10) 12 (M_3 10), ai_ cy (r_2 11) 12 (M_3 11), aq_ cy 6 q_4 12 (gf_ r_5), ai_ cy (r_5 0) 12 (M_6 0), ai_ cy (r_5 1) 12 (M_6 1), ai_ cy (r_5 2) 12 (M_6 2), ai_ cy (r_5 3) 12 (M_6 3), ai_ cy (r_5 4) 12 (M_6 4), ai_ cy (r_5 5) 12 (M_6 5), ai_ cy (r_5 6) 12 (M_6 6), ai_ cy (r_5 7) 12 (M_6 7), ai_ cy (r_5 8) 12 (M_6 8), ai_ cy (r_5 9) 12 (M_6 9), ai_ cy (r_5 10) 12 (M_6 10), ai_ cy (r_5 11) 12 (M_6 11), ai_ cy q_7 40 (fun _ => 0), ai_ cy q_8 40 (fun _ => 0), ai_ cy q_9 40 (fun _ => 0)] hP hD (fun hP hD => ?_)
  refine va_putF (ci := 0) (v := .ref q_9) (ty := (tyX0 6)) (C := RX0) (T := TX0) (N := 9) hx hb hts (fun _ h => List.mem_cons_of_mem _ (List.mem_append_right _ h)) tyX0 tyX0_ok nmX0 hown hK.1 hP hD hS 0 rfl rfl 6 (by decide) (hts (.fieldLink RX0 26 "CutAtlas$Current" "letsBack" "[I") (List.mem_of_getElem? (i := 10) rfl)) (fun _ h9 => h9) rfl hin rfl (by decide +kernel) rfl rfl (Nat.le_of_ble_eq_true rfl) dB_36_0_14.1.2.2.2 (fun H locs hP hD hS => ?_)
  refine pd_K [ob0_6_ h0 q_1 q_4 q_7 q_8 q_9, aq_ cy 6 q_1 12 (gf_ r_2), ai_ cy (r_2 0) 12 (M_3 0), ai_ cy (r_2 1) 12 (M_3 1), ai_ cy (r_2 2) 12 (M_3 2), ai_ cy (r_2 3) 12 (M_3 3), ai_ cy (r_2 4) 12 (M_3 4), ai_ cy (r_2 5) 12 (M_3 5), ai_ cy (r_2 6) 12 (M_3 6), ai_ cy (r_2 7) 12 (M_3 7), ai_ cy (r_2 8) 12 (M_3 8), ai_ cy (r_2 9) 12 (M_3 9), ai_ cy (r_2 10) 12 (M_3 10), ai_ cy (r_2 11) 12 (M_3 11), aq_ cy 6 q_4 12 (gf_ r_5), ai_ cy (r_5 0) 12 (M_6 0), ai_ cy (r_5 1) 12 (M_6 1), ai_ cy (r_5 2) 12 (M_6 2), ai_ cy (r_5 3) 12 (M_6 3), ai_ cy (r_5 4) 12 (M_6 4), ai_ cy (r_5 5) 12 (M_6 5), ai_ cy (r_5 6) 12 (M_6 6), ai_ cy (r_5 7) 12 (M_6 7), ai_ cy (r_5 8) 12 (M_6 8), ai_ cy (r_5 9) 12 (M_6 9), ai_ cy (r_5 10) 12 (M_6 10), ai_ cy (r_5 11) 12 (M_6 11), ai_ cy q_7 40 (fun _ => 0), ai_ cy q_8 40 (fun _ => 0), ai_ cy q_9 40 (fun _ => 0)] hP hD (fun hP hD => ?_)
  refine lv_aload_n hx hb dB_36_0_14.2.1.1.1 rfl (lv_at hl 0 rfl) ?_
  refine lv_bipush (v := 12) hx hb dB_36_0_14.2.1.1.2 (by decide) ?_
  refine nw_a (a0 := (12, .inl (fun _ => 0))) (ty := .int) hx hb (hts (.arrayClass .int) (List.mem_of_getElem? (i := 5) rfl)) rfl hK.1 0 rfl (fun _ h => by cases h) hP hD hS hA (fun _ => rfl) (by decide) (by decide) (by decide) (Nat.le_of_ble_eq_true rfl) (Nat.le_of_ble_eq_true rfl) dB_36_0_14.2.1.2.1 (fun q_10 H hP hD hS => ?_)
  refine pd_K [ob0_6_ h0 q_1 q_4 q_7 q_8 q_9, aq_ cy 6 q_1 12 (gf_ r_2), ai_ cy (r_2 0) 12 (M_3 0), ai_ cy (r_2 1) 12 (M_3 1), ai_ cy (r_2 2) 12 (M_3 2), ai_ cy (r_2 3) 12 (M_3 3), ai_ cy (r_2 4) 12 (M_3 4), ai_ cy (r_2 5) 12 (M_3 5), ai_ cy (r_2 6) 12 (M_3 6), ai_ cy (r_2 7) 12 (M_3 7), ai_ cy (r_2 8) 12 (M_3 8), ai_ cy (r_2 9) 12 (M_3 9), ai_ cy (r_2 10) 12 (M_3 10), ai_ cy (r_2 11) 12 (M_3 11), aq_ cy 6 q_4 12 (gf_ r_5), ai_ cy (r_5 0) 12 (M_6 0), ai_ cy (r_5 1) 12 (M_6 1), ai_ cy (r_5 2) 12 (M_6 2), ai_ cy (r_5 3) 12 (M_6 3), ai_ cy (r_5 4) 12 (M_6 4), ai_ cy (r_5 5) 12 (M_6 5), ai_ cy (r_5 6) 12 (M_6 6), ai_ cy (r_5 7) 12 (M_6 7), ai_ cy (r_5 8) 12 (M_6 8), ai_ cy (r_5 9) 12 (M_6 9), ai_ cy (r_5 10) 12 (M_6 10), ai_ cy (r_5 11) 12 (M_6 11), ai_ cy q_7 40 (fun _ => 0), ai_ cy q_8 40 (fun _ => 0), ai_ cy q_9 40 (fun _ => 0), ai_ cy q_10 12 (fun _ => 0)] hP hD (fun hP hD => ?_)
  refine va_putF (ci := 0) (v := .ref q_10) (ty := (tyX0 7)) (C := RX0) (T := TX0) (N := 9) hx hb hts (fun _ h => List.mem_cons_of_mem _ (List.mem_append_right _ h)) tyX0 tyX0_ok nmX0 hown hK.1 hP hD hS 0 rfl rfl 7 (by decide) (hts (.fieldLink RX0 29 "CutAtlas$Current" "queue" "[I") (List.mem_of_getElem? (i := 11) rfl)) (fun _ h9 => h9) rfl hin rfl (by decide +kernel) rfl rfl (Nat.le_of_ble_eq_true rfl) dB_36_0_14.2.1.2.2 (fun H locs hP hD hS => ?_)
  refine pd_K [ob0_7_ h0 q_1 q_4 q_7 q_8 q_9 q_10, aq_ cy 6 q_1 12 (gf_ r_2), ai_ cy (r_2 0) 12 (M_3 0), ai_ cy (r_2 1) 12 (M_3 1), ai_ cy (r_2 2) 12 (M_3 2), ai_ cy (r_2 3) 12 (M_3 3), ai_ cy (r_2 4) 12 (M_3 4), ai_ cy (r_2 5) 12 (M_3 5), ai_ cy (r_2 6) 12 (M_3 6), ai_ cy (r_2 7) 12 (M_3 7), ai_ cy (r_2 8) 12 (M_3 8), ai_ cy (r_2 9) 12 (M_3 9), ai_ cy (r_2 10) 12 (M_3 10), ai_ cy (r_2 11) 12 (M_3 11), aq_ cy 6 q_4 12 (gf_ r_5), ai_ cy (r_5 0) 12 (M_6 0), ai_ cy (r_5 1) 12 (M_6 1), ai_ cy (r_5 2) 12 (M_6 2), ai_ cy (r_5 3) 12 (M_6 3), ai_ cy (r_5 4) 12 (M_6 4), ai_ cy (r_5 5) 12 (M_6 5), ai_ cy (r_5 6) 12 (M_6 6), ai_ cy (r_5 7) 12 (M_6 7), ai_ cy (r_5 8) 12 (M_6 8), ai_ cy (r_5 9) 12 (M_6 9), ai_ cy (r_5 10) 12 (M_6 10), ai_ cy (r_5 11) 12 (M_6 11), ai_ cy q_7 40 (fun _ => 0), ai_ cy q_8 40 (fun _ => 0), ai_ cy q_9 40 (fun _ => 0), ai_ cy q_10 12 (fun _ => 0)] hP hD (fun hP hD => ?_)
  refine lv_aload_n hx hb dB_36_0_14.2.2.1.1 rfl (lv_at hl 0 rfl) ?_
  refine lv_bipush (v := 12) hx hb dB_36_0_14.2.2.1.2 (by decide) ?_
  refine nw_a (a0 := (12, .inl (fun _ => 0))) (ty := .int) hx hb (hts (.arrayClass .int) (List.mem_of_getElem? (i := 5) rfl)) rfl hK.1 0 rfl (fun _ h => by cases h) hP hD hS hA (fun _ => rfl) (by decide) (by decide) (by decide) (Nat.le_of_ble_eq_true rfl) (Nat.le_of_ble_eq_true rfl) dB_36_0_14.2.2.2.1 (fun q_11 H hP hD hS => ?_)
  refine pd_K [ob0_7_ h0 q_1 q_4 q_7 q_8 q_9 q_10, aq_ cy 6 q_1 12 (gf_ r_2), ai_ cy (r_2 0) 12 (M_3 0), ai_ cy (r_2 1) 12 (M_3 1), ai_ cy (r_2 2) 12 (M_3 2), ai_ cy (r_2 3) 12 (M_3 3), ai_ cy (r_2 4) 12 (M_3 4), ai_ cy (r_2 5) 12 (M_3 5), ai_ cy (r_2 6) 12 (M_3 6), ai_ cy (r_2 7) 12 (M_3 7), ai_ cy (r_2 8) 12 (M_3 8), ai_ cy (r_2 9) 12 (M_3 9), ai_ cy (r_2 10) 12 (M_3 10), ai_ cy (r_2 11) 12 (M_3 11), aq_ cy 6 q_4 12 (gf_ r_5), ai_ cy (r_5 0) 12 (M_6 0), ai_ cy (r_5 1) 12 (M_6 1), ai_ cy (r_5 2) 12 (M_6 2), ai_ cy (r_5 3) 12 (M_6 3), ai_ cy (r_5 4) 12 (M_6 4), ai_ cy (r_5 5) 12 (M_6 5), ai_ cy (r_5 6) 12 (M_6 6), ai_ cy (r_5 7) 12 (M_6 7), ai_ cy (r_5 8) 12 (M_6 8), ai_ cy (r_5 9) 12 (M_6 9), ai_ cy (r_5 10) 12 (M_6 10), ai_ cy (r_5 11) 12 (M_6 11), ai_ cy q_7 40 (fun _ => 0), ai_ cy q_8 40 (fun _ => 0), ai_ cy q_9 40 (fun _ => 0), ai_ cy q_10 12 (fun _ => 0), ai_ cy q_11 12 (fun _ => 0)] hP hD (fun hP hD => ?_)
  refine va_putF (ci := 0) (v := .ref q_11) (ty := (tyX0 8)) (C := RX0) (T := TX0) (N := 9) hx hb hts (fun _ h => List.mem_cons_of_mem _ (List.mem_append_right _ h)) tyX0 tyX0_ok nmX0 hown hK.1 hP hD hS 0 rfl rfl 8 (by decide) (hts (.fieldLink RX0 32 "CutAtlas$Current" "cameFrom" "[I") (List.mem_of_getElem? (i := 12) rfl)) (fun _ h9 => h9) rfl hin rfl (by decide +kernel) rfl rfl (Nat.le_of_ble_eq_true rfl) dB_36_0_14.2.2.2.2 (fun H locs hP hD hS => ?_)
  refine pd_K [ob0_8_ h0 q_1 q_4 q_7 q_8 q_9 q_10 q_11, aq_ cy 6 q_1 12 (gf_ r_2), ai_ cy (r_2 0) 12 (M_3 0), ai_ cy (r_2 1) 12 (M_3 1), ai_ cy (r_2 2) 12 (M_3 2), ai_ cy (r_2 3) 12 (M_3 3), ai_ cy (r_2 4) 12 (M_3 4), ai_ cy (r_2 5) 12 (M_3 5), ai_ cy (r_2 6) 12 (M_3 6), ai_ cy (r_2 7) 12 (M_3 7), ai_ cy (r_2 8) 12 (M_3 8), ai_ cy (r_2 9) 12 (M_3 9), ai_ cy (r_2 10) 12 (M_3 10), ai_ cy (r_2 11) 12 (M_3 11), aq_ cy 6 q_4 12 (gf_ r_5), ai_ cy (r_5 0) 12 (M_6 0), ai_ cy (r_5 1) 12 (M_6 1), ai_ cy (r_5 2) 12 (M_6 2), ai_ cy (r_5 3) 12 (M_6 3), ai_ cy (r_5 4) 12 (M_6 4), ai_ cy (r_5 5) 12 (M_6 5), ai_ cy (r_5 6) 12 (M_6 6), ai_ cy (r_5 7) 12 (M_6 7), ai_ cy (r_5 8) 12 (M_6 8), ai_ cy (r_5 9) 12 (M_6 9), ai_ cy (r_5 10) 12 (M_6 10), ai_ cy (r_5 11) 12 (M_6 11), ai_ cy q_7 40 (fun _ => 0), ai_ cy q_8 40 (fun _ => 0), ai_ cy q_9 40 (fun _ => 0), ai_ cy q_10 12 (fun _ => 0), ai_ cy q_11 12 (fun _ => 0)] hP hD (fun hP hD => ?_)
  refine lv_aload_n hx hb dB_36_0_15.1.1 rfl (lv_at hl 0 rfl) ?_
  refine lv_aload_n hx hb dB_36_0_15.1.2.1 rfl (lv_at hl 1 rfl) ?_
  refine va_putF (ci := 0) (v := .ref x1) (ty := (tyX0 0)) (C := RX0) (T := TX0) (N := 9) hx hb hts (fun _ h => List.mem_cons_of_mem _ (List.mem_append_right _ h)) tyX0 tyX0_ok nmX0 hown hK.1 hP hD hS 0 rfl rfl 0 (by decide) (hts (.fieldLink RX0 35 "CutAtlas$Current" "net" "LCutAtlas$Net;") (List.mem_of_getElem? (i := 13) rfl)) (fun _ h9 => h9) rfl hin rfl (by decide +kernel) rfl rfl (Nat.le_of_ble_eq_true rfl) dB_36_0_15.1.2.2 (fun H locs hP hD hS => ?_)
  refine pd_K [ob0_9_ h0 x1 q_1 q_4 q_7 q_8 q_9 q_10 q_11, aq_ cy 6 q_1 12 (gf_ r_2), ai_ cy (r_2 0) 12 (M_3 0), ai_ cy (r_2 1) 12 (M_3 1), ai_ cy (r_2 2) 12 (M_3 2), ai_ cy (r_2 3) 12 (M_3 3), ai_ cy (r_2 4) 12 (M_3 4), ai_ cy (r_2 5) 12 (M_3 5), ai_ cy (r_2 6) 12 (M_3 6), ai_ cy (r_2 7) 12 (M_3 7), ai_ cy (r_2 8) 12 (M_3 8), ai_ cy (r_2 9) 12 (M_3 9), ai_ cy (r_2 10) 12 (M_3 10), ai_ cy (r_2 11) 12 (M_3 11), aq_ cy 6 q_4 12 (gf_ r_5), ai_ cy (r_5 0) 12 (M_6 0), ai_ cy (r_5 1) 12 (M_6 1), ai_ cy (r_5 2) 12 (M_6 2), ai_ cy (r_5 3) 12 (M_6 3), ai_ cy (r_5 4) 12 (M_6 4), ai_ cy (r_5 5) 12 (M_6 5), ai_ cy (r_5 6) 12 (M_6 6), ai_ cy (r_5 7) 12 (M_6 7), ai_ cy (r_5 8) 12 (M_6 8), ai_ cy (r_5 9) 12 (M_6 9), ai_ cy (r_5 10) 12 (M_6 10), ai_ cy (r_5 11) 12 (M_6 11), ai_ cy q_7 40 (fun _ => 0), ai_ cy q_8 40 (fun _ => 0), ai_ cy q_9 40 (fun _ => 0), ai_ cy q_10 12 (fun _ => 0), ai_ cy q_11 12 (fun _ => 0)] hP hD (fun hP hD => ?_)
  refine lv_aload_n hx hb dB_36_0_15.2.1.1 rfl (lv_at hl 0 rfl) ?_
  refine lv_aload_n hx hb dB_36_0_15.2.1.2 rfl (lv_at hl 2 rfl) ?_
  refine va_putF (ci := 0) (v := .ref x2) (ty := (tyX0 1)) (C := RX0) (T := TX0) (N := 9) hx hb hts (fun _ h => List.mem_cons_of_mem _ (List.mem_append_right _ h)) tyX0 tyX0_ok nmX0 hown hK.1 hP hD hS 0 rfl rfl 1 (by decide) (hts (.fieldLink RX0 39 "CutAtlas$Current" "kinds" "[LCutAtlas$PlainKind;") (List.mem_of_getElem? (i := 14) rfl)) (fun _ h9 => h9) rfl hin rfl (by decide +kernel) rfl rfl (Nat.le_of_ble_eq_true rfl) dB_36_0_15.2.2.1 (fun H locs hP hD hS => ?_)
  refine pd_K [ob0_0_ h0 x1 x2 q_1 q_4 q_7 q_8 q_9 q_10 q_11, aq_ cy 6 q_1 12 (gf_ r_2), ai_ cy (r_2 0) 12 (M_3 0), ai_ cy (r_2 1) 12 (M_3 1), ai_ cy (r_2 2) 12 (M_3 2), ai_ cy (r_2 3) 12 (M_3 3), ai_ cy (r_2 4) 12 (M_3 4), ai_ cy (r_2 5) 12 (M_3 5), ai_ cy (r_2 6) 12 (M_3 6), ai_ cy (r_2 7) 12 (M_3 7), ai_ cy (r_2 8) 12 (M_3 8), ai_ cy (r_2 9) 12 (M_3 9), ai_ cy (r_2 10) 12 (M_3 10), ai_ cy (r_2 11) 12 (M_3 11), aq_ cy 6 q_4 12 (gf_ r_5), ai_ cy (r_5 0) 12 (M_6 0), ai_ cy (r_5 1) 12 (M_6 1), ai_ cy (r_5 2) 12 (M_6 2), ai_ cy (r_5 3) 12 (M_6 3), ai_ cy (r_5 4) 12 (M_6 4), ai_ cy (r_5 5) 12 (M_6 5), ai_ cy (r_5 6) 12 (M_6 6), ai_ cy (r_5 7) 12 (M_6 7), ai_ cy (r_5 8) 12 (M_6 8), ai_ cy (r_5 9) 12 (M_6 9), ai_ cy (r_5 10) 12 (M_6 10), ai_ cy (r_5 11) 12 (M_6 11), ai_ cy q_7 40 (fun _ => 0), ai_ cy q_8 40 (fun _ => 0), ai_ cy q_9 40 (fun _ => 0), ai_ cy q_10 12 (fun _ => 0), ai_ cy q_11 12 (fun _ => 0)] hP hD (fun hP hD => ?_)
  rw [hQ]
  exact W.vret hx hb hr (fun t ht hW => ⟨⟨(), rfl, trivial, q_1, q_4, q_7, q_8, q_9, q_10, q_11, r_2, r_5, M_3, M_6, by rw [ht]; exact hP, hD⟩, hS.F ht⟩) hS.2.2 dB_36_0_15.2.2.2

set_option maxHeartbeats 4000000 in
set_option maxRecDepth 100000 in
theorem c_X7_init (l : Launch) (D : va_G) (cy : Nat → ClassId) (sz : Nat) (h0 : Nat) (x1 : Nat) : Met l yX7_init wsX7_init ({ frames := 1, cells := 0, slots := 0, locals := 12 }) (va_Pc [.ref h0, .ref x1] (fun U => U.heap.size = sz ∧ va_P D vwCl [ob7_1_ h0 0 0 0 0 0 0 0 0] U.heap ∧ kk_ D cy U ∧ va_D (fun _ => True) [ob7_1_ h0 0 0 0 0 0 0 0 0])) (va_Qv (fun (_ : Unit) => True) (fun (_ : Unit) (t : State) => va_P D vwCl [ob7_0_ h0 x1 0 0 0 0 0 0 0 0] t.heap ∧ va_D (va_A [ob7_1_ h0 0 0 0 0 0 0 0 0] sz) [ob7_0_ h0 x1 0 0 0 0 0 0 0 0]) (va_A [ob7_1_ h0 0 0 0 0 0 0 0 0] sz)) 0 0 (va_A [ob7_1_ h0 0 0 0 0 0 0 0 0] sz) := by
  refine ofQ (cc := cX7_init) (maxL := 2) (ret := none) (by decide) rfl ?_
  intro p e s m args below meth c s₁ Q hQ B hml hv
  obtain ⟨rfl, hsz, hP, hK, hD0⟩ := hv
  have hx := B.exec
  have hb := B.bytes
  have hr := B.returns
  have hts := atoms_spec (ws := wsX7_init) B.pre
  have hown : s.vm.findClass RX7 = some m.cls := by have h_ := findClass_of_methodNamed B.named; exact h_
  have hlocks := B.notSynchronized
  have hin : meth.name = "<init>" := (name_of_methodNamed B.named B.method).1
  subst hsz
  have hD := hD0.self (sz := s.heap.size)
  generalize hAe : va_A [ob7_1_ h0 0 0 0 0 0 0 0 0] s.heap.size = A at hD hQ
  have hA : ∀ q : Nat, s.heap.size ≤ q → A q := fun q h => by rw [← hAe]; exact Or.inr h
  have hS : va_S A s.heap s.heap [] := va_S.rf
  have hl := lv_entry ([.ref h0, .ref x1]) (n := 2) (Nat.le_of_ble_eq_true rfl)
  rw [lg_entry_eq]
  generalize (lg_sl ([.ref h0, .ref x1]) ++ List.replicate (2 - (lg_sl ([.ref h0, .ref x1])).length) Slot.unset).toArray = ls at hl ⊢
  have hl : lv_has ls 2 [(0, .ref h0), (1, .ref x1)] := hl
  refine lv_aload_n hx hb dB_36_1_72.1.1 rfl (lv_at hl 0 rfl) ?_
  refine W.objInit hx hb hown (hts (.methodLink RX7 3 objectInit) (List.mem_of_getElem? (i := 1) rfl)) (hts (.instanceMethod objectInit) (List.mem_of_getElem? (i := 2) rfl)) (hts (.code objectInit ⟨#[0xb1]⟩ 1 none) (List.mem_of_getElem? (i := 3) rfl)) rfl (by rw [hml]; exact hl.1) rfl dB_36_1_72.1.2.1 (Nat.le_of_ble_eq_true rfl) (Nat.le_of_ble_eq_true rfl) ?_
  refine W.eq (g2 := F0 m 4 ls []) rfl ?_
  refine lv_aload_n hx hb dB_36_1_72.1.2.2 rfl (lv_at hl 0 rfl) ?_
  refine lv_aload_n hx hb dB_36_1_72.2.1 rfl (lv_at hl 1 rfl) ?_
  refine va_putF (ci := 7) (v := .ref x1) (ty := (tyX7 0)) (C := RX7) (T := TX7) (N := 9) hx hb hts (fun _ h => List.mem_cons_of_mem _ (List.mem_append_right _ h)) tyX7 tyX7_ok nmX7 hown hK.1 hP hD hS 0 rfl rfl 0 (by decide) (hts (.fieldLink RX7 9 "CutAtlas$SetHunt" "current" "LCutAtlas$Current;") (List.mem_of_getElem? (i := 4) rfl)) (fun _ h9 => h9) rfl hin rfl (by decide +kernel) rfl rfl (Nat.le_of_ble_eq_true rfl) dB_36_1_72.2.2.1 (fun H locs hP hD hS => ?_)
  refine pd_K [ob7_0_ h0 x1 0 0 0 0 0 0 0 0] hP hD (fun hP hD => ?_)
  rw [hQ]
  exact W.vret hx hb hr (fun t ht hW => ⟨⟨(), rfl, trivial, by rw [ht]; exact hP, hD⟩, hS.F ht⟩) hS.2.2 dB_36_1_72.2.2.2

set_option maxHeartbeats 4000000 in
set_option maxRecDepth 100000 in
theorem c_X1_init (l : Launch) (D : va_G) (cy : Nat → ClassId) (sz : Nat) (h0 : Nat) (x1 : Nat) : Met l yX1_init wsX1_init ({ frames := 1, cells := 2, slots := 24, locals := 12 }) (va_Pc [.ref h0, .ref x1] (fun U => U.heap.size = sz ∧ va_P D vwCl [ob1_1_ h0] U.heap ∧ kk_ D cy U ∧ va_D (fun _ => True) [ob1_1_ h0])) (va_Qv (fun (_ : Unit) => True) (fun (_ : Unit) (t : State) => ∃ (ta : Nat), ∃ (tb : Nat), va_P D vwCl [ob1_0_ h0 x1 ta tb, ai_ cy ta 12 (fun _ => 0), ai_ cy tb 12 (fun _ => 0)] t.heap ∧ va_D (va_A [ob1_1_ h0] sz) [ob1_0_ h0 x1 ta tb, ai_ cy ta 12 (fun _ => 0), ai_ cy tb 12 (fun _ => 0)]) (va_A [ob1_1_ h0] sz)) 2 24 (va_A [ob1_1_ h0] sz) := by
  refine ofQ (cc := cX1_init) (maxL := 2) (ret := none) (by decide) rfl ?_
  intro p e s m args below meth c s₁ Q hQ B hml hv
  obtain ⟨rfl, hsz, hP, hK, hD0⟩ := hv
  have hx := B.exec
  have hb := B.bytes
  have hr := B.returns
  have hts := atoms_spec (ws := wsX1_init) B.pre
  have hown : s.vm.findClass RX1 = some m.cls := by have h_ := findClass_of_methodNamed B.named; exact h_
  have hlocks := B.notSynchronized
  have hin : meth.name = "<init>" := (name_of_methodNamed B.named B.method).1
  subst hsz
  have hD := hD0.self (sz := s.heap.size)
  generalize hAe : va_A [ob1_1_ h0] s.heap.size = A at hD hQ
  have hA : ∀ q : Nat, s.heap.size ≤ q → A q := fun q h => by rw [← hAe]; exact Or.inr h
  have hS : va_S A s.heap s.heap [] := va_S.rf
  have hl := lv_entry ([.ref h0, .ref x1]) (n := 2) (Nat.le_of_ble_eq_true rfl)
  rw [lg_entry_eq]
  generalize (lg_sl ([.ref h0, .ref x1]) ++ List.replicate (2 - (lg_sl ([.ref h0, .ref x1])).length) Slot.unset).toArray = ls at hl ⊢
  have hl : lv_has ls 2 [(0, .ref h0), (1, .ref x1)] := hl
  refine lv_aload_n hx hb dB_36_0_54.1.1.1 rfl (lv_at hl 0 rfl) ?_
  refine W.objInit hx hb hown (hts (.methodLink RX1 3 objectInit) (List.mem_of_getElem? (i := 1) rfl)) (hts (.instanceMethod objectInit) (List.mem_of_getElem? (i := 2) rfl)) (hts (.code objectInit ⟨#[0xb1]⟩ 1 none) (List.mem_of_getElem? (i := 3) rfl)) rfl (by rw [hml]; exact hl.1) rfl dB_36_0_54.1.1.2.1 (Nat.le_of_ble_eq_true rfl) (Nat.le_of_ble_eq_true rfl) ?_
  refine W.eq (g2 := F0 m 4 ls []) rfl ?_
  refine lv_aload_n hx hb dB_36_0_54.1.1.2.2 rfl (lv_at hl 0 rfl) ?_
  refine lv_bipush (v := 12) hx hb dB_36_0_54.1.2.1.1 (by decide) ?_
  refine nw_a (a0 := (12, .inl (fun _ => 0))) (ty := .int) hx hb (hts (.arrayClass .int) (List.mem_of_getElem? (i := 4) rfl)) rfl hK.1 0 rfl (fun _ h => by cases h) hP hD hS hA (fun _ => rfl) (by decide) (by decide) (by decide) (Nat.le_of_ble_eq_true rfl) (Nat.le_of_ble_eq_true rfl) dB_36_0_54.1.2.1.2 (fun q_1 H hP hD hS => ?_)
  refine pd_K [ob1_1_ h0, ai_ cy q_1 12 (fun _ => 0)] hP hD (fun hP hD => ?_)
  refine va_putF (ci := 1) (v := .ref q_1) (ty := (tyX1 1)) (C := RX1) (T := TX1) (N := 3) hx hb hts (fun _ h => List.mem_cons_of_mem _ (List.mem_append_right _ h)) tyX1 tyX1_ok nmX1 hown hK.1 hP hD hS 0 rfl rfl 1 (by decide) (hts (.fieldLink RX1 9 "CutAtlas$CutTree" "nexts" "[I") (List.mem_of_getElem? (i := 5) rfl)) (fun _ h9 => h9) rfl hin rfl (by decide +kernel) rfl rfl (Nat.le_of_ble_eq_true rfl) dB_36_0_54.1.2.2.1 (fun H locs hP hD hS => ?_)
  refine pd_K [ob1_2_ h0 q_1, ai_ cy q_1 12 (fun _ => 0)] hP hD (fun hP hD => ?_)
  refine lv_aload_n hx hb dB_36_0_54.1.2.2.2 rfl (lv_at hl 0 rfl) ?_
  refine lv_bipush (v := 12) hx hb dB_36_0_54.2.1.1 (by decide) ?_
  refine nw_a (a0 := (12, .inl (fun _ => 0))) (ty := .int) hx hb (hts (.arrayClass .int) (List.mem_of_getElem? (i := 4) rfl)) rfl hK.1 0 rfl (fun _ h => by cases h) hP hD hS hA (fun _ => rfl) (by decide) (by decide) (by decide) (Nat.le_of_ble_eq_true rfl) (Nat.le_of_ble_eq_true rfl) dB_36_0_54.2.1.2.1 (fun q_2 H hP hD hS => ?_)
  refine pd_K [ob1_2_ h0 q_1, ai_ cy q_1 12 (fun _ => 0), ai_ cy q_2 12 (fun _ => 0)] hP hD (fun hP hD => ?_)
  refine va_putF (ci := 1) (v := .ref q_2) (ty := (tyX1 2)) (C := RX1) (T := TX1) (N := 3) hx hb hts (fun _ h => List.mem_cons_of_mem _ (List.mem_append_right _ h)) tyX1 tyX1_ok nmX1 hown hK.1 hP hD hS 0 rfl rfl 2 (by decide) (hts (.fieldLink RX1 15 "CutAtlas$CutTree" "numbers" "[I") (List.mem_of_getElem? (i := 6) rfl)) (fun _ h9 => h9) rfl hin rfl (by decide +kernel) rfl rfl (Nat.le_of_ble_eq_true rfl) dB_36_0_54.2.1.2.2 (fun H locs hP hD hS => ?_)
  refine pd_K [ob1_3_ h0 q_1 q_2, ai_ cy q_1 12 (fun _ => 0), ai_ cy q_2 12 (fun _ => 0)] hP hD (fun hP hD => ?_)
  refine lv_aload_n hx hb dB_36_0_54.2.2.1.1 rfl (lv_at hl 0 rfl) ?_
  refine lv_aload_n hx hb dB_36_0_54.2.2.1.2 rfl (lv_at hl 1 rfl) ?_
  refine va_putF (ci := 1) (v := .ref x1) (ty := (tyX1 0)) (C := RX1) (T := TX1) (N := 3) hx hb hts (fun _ h => List.mem_cons_of_mem _ (List.mem_append_right _ h)) tyX1 tyX1_ok nmX1 hown hK.1 hP hD hS 0 rfl rfl 0 (by decide) (hts (.fieldLink RX1 18 "CutAtlas$CutTree" "current" "LCutAtlas$Current;") (List.mem_of_getElem? (i := 7) rfl)) (fun _ h9 => h9) rfl hin rfl (by decide +kernel) rfl rfl (Nat.le_of_ble_eq_true rfl) dB_36_0_54.2.2.2.1 (fun H locs hP hD hS => ?_)
  refine pd_K [ob1_0_ h0 x1 q_1 q_2, ai_ cy q_1 12 (fun _ => 0), ai_ cy q_2 12 (fun _ => 0)] hP hD (fun hP hD => ?_)
  rw [hQ]
  exact W.vret hx hb hr (fun t ht hW => ⟨⟨(), rfl, trivial, q_1, q_2, by rw [ht]; exact hP, hD⟩, hS.F ht⟩) hS.2.2 dB_36_0_54.2.2.2.2

set_option maxHeartbeats 4000000 in
set_option maxRecDepth 100000 in
theorem c_X10_init (l : Launch) (D : va_G) (cy : Nat → ClassId) (sz : Nat) (h0 : Nat) (x1 : Nat) (x2 : Nat) : Met l yX10_init wsX10_init ({ frames := 1, cells := 15, slots := 180, locals := 12 }) (va_Pc [.ref h0, .ref x1, .ref x2] (fun U => U.heap.size = sz ∧ va_P D vwCl [ob10_1_ h0] U.heap ∧ kh_ D cy U ∧ va_D (fun _ => True) [ob10_1_ h0])) (va_Qv (fun (_ : Unit) => True) (fun (_ : Unit) (t : State) => ∃ (wpo : Nat), ∃ (wc : Nat), ∃ (wf : Nat), ∃ (rp : Nat → Nat), ∃ (Mp : Nat → Nat → Int32), va_P D vwCl [ob10_0_ h0 x1 x2 wpo wc wf, aq_ cy 6 wpo 12 (gf_ rp), ai_ cy (rp 0) 12 (Mp 0), ai_ cy (rp 1) 12 (Mp 1), ai_ cy (rp 2) 12 (Mp 2), ai_ cy (rp 3) 12 (Mp 3), ai_ cy (rp 4) 12 (Mp 4), ai_ cy (rp 5) 12 (Mp 5), ai_ cy (rp 6) 12 (Mp 6), ai_ cy (rp 7) 12 (Mp 7), ai_ cy (rp 8) 12 (Mp 8), ai_ cy (rp 9) 12 (Mp 9), ai_ cy (rp 10) 12 (Mp 10), ai_ cy (rp 11) 12 (Mp 11), ai_ cy wc 12 (fun _ => 0), ai_ cy wf 12 (fun _ => 0)] t.heap ∧ va_D (va_A [ob10_1_ h0] sz) [ob10_0_ h0 x1 x2 wpo wc wf, aq_ cy 6 wpo 12 (gf_ rp), ai_ cy (rp 0) 12 (Mp 0), ai_ cy (rp 1) 12 (Mp 1), ai_ cy (rp 2) 12 (Mp 2), ai_ cy (rp 3) 12 (Mp 3), ai_ cy (rp 4) 12 (Mp 4), ai_ cy (rp 5) 12 (Mp 5), ai_ cy (rp 6) 12 (Mp 6), ai_ cy (rp 7) 12 (Mp 7), ai_ cy (rp 8) 12 (Mp 8), ai_ cy (rp 9) 12 (Mp 9), ai_ cy (rp 10) 12 (Mp 10), ai_ cy (rp 11) 12 (Mp 11), ai_ cy wc 12 (fun _ => 0), ai_ cy wf 12 (fun _ => 0)]) (va_A [ob10_1_ h0] sz)) 15 180 (va_A [ob10_1_ h0] sz) := by
  refine ofQ (cc := cX10_init) (maxL := 3) (ret := none) (by decide) rfl ?_
  intro p e s m args below meth c s₁ Q hQ B hml hv
  obtain ⟨rfl, hsz, hP, hK, hD0⟩ := hv
  have hR6 := hK.2
  have hG := hK.1.2
  have hK := hK.1.1
  have hx := B.exec
  have hb := B.bytes
  have hr := B.returns
  have hts := atoms_spec (ws := wsX10_init) B.pre
  have hown : s.vm.findClass RX10 = some m.cls := by have h_ := findClass_of_methodNamed B.named; exact h_
  have hlocks := B.notSynchronized
  have hin : meth.name = "<init>" := (name_of_methodNamed B.named B.method).1
  subst hsz
  have hD := hD0.self (sz := s.heap.size)
  generalize hAe : va_A [ob10_1_ h0] s.heap.size = A at hD hQ
  have hA : ∀ q : Nat, s.heap.size ≤ q → A q := fun q h => by rw [← hAe]; exact Or.inr h
  have hS : va_S A s.heap s.heap [] := va_S.rf
  have hl := lv_entry ([.ref h0, .ref x1, .ref x2]) (n := 3) (Nat.le_of_ble_eq_true rfl)
  rw [lg_entry_eq]
  generalize (lg_sl ([.ref h0, .ref x1, .ref x2]) ++ List.replicate (3 - (lg_sl ([.ref h0, .ref x1, .ref x2])).length) Slot.unset).toArray = ls at hl ⊢
  have hl : lv_has ls 3 [(0, .ref h0), (1, .ref x1), (2, .ref x2)] := hl
  refine lv_aload_n hx hb dB_36_1_0.1.1.1 rfl (lv_at hl 0 rfl) ?_
  refine W.objInit hx hb hown (hts (.methodLink RX10 3 objectInit) (List.mem_of_getElem? (i := 1) rfl)) (hts (.instanceMethod objectInit) (List.mem_of_getElem? (i := 2) rfl)) (hts (.code objectInit ⟨#[0xb1]⟩ 1 none) (List.mem_of_getElem? (i := 3) rfl)) rfl (by rw [hml]; exact hl.1) rfl dB_36_1_0.1.1.2.1 (Nat.le_of_ble_eq_true rfl) (Nat.le_of_ble_eq_true rfl) ?_
  refine W.eq (g2 := F0 m 4 ls []) rfl ?_
  refine lv_aload_n hx hb dB_36_1_0.1.1.2.2 rfl (lv_at hl 0 rfl) ?_
  refine lv_bipush (v := 12) hx hb dB_36_1_0.1.2.1 (by decide) ?_
  refine lv_bipush (v := 12) hx hb dB_36_1_0.1.2.2.1 (by decide) ?_
  refine mn_g hx hb hown (hts (.classLink RX10 9 "[[I") (List.mem_of_getElem? (i := 4) rfl)) hK hR6 (hts (.arrayClass .int) (List.mem_of_getElem? (i := 5) rfl)) hP hD hS hA (Nat.le_of_ble_eq_true rfl) (Nat.le_of_ble_eq_true rfl) dB_36_1_0.1.2.2.2 (fun q_1 r_2 H hP hD hS => ?_)
  obtain ⟨M_3, eM_3⟩ : ∃ g : Nat → Nat → Int32, g = fun _ _ => 0 := ⟨_, rfl⟩
  rw [← eM_3] at hP hD
  refine pd_K [ob10_1_ h0, aq_ cy 6 q_1 12 (gf_ r_2), ai_ cy (r_2 0) 12 (M_3 0), ai_ cy (r_2 1) 12 (M_3 1), ai_ cy (r_2 2) 12 (M_3 2), ai_ cy (r_2 3) 12 (M_3 3), ai_ cy (r_2 4) 12 (M_3 4), ai_ cy (r_2 5) 12 (M_3 5), ai_ cy (r_2 6) 12 (M_3 6), ai_ cy (r_2 7) 12 (M_3 7), ai_ cy (r_2 8) 12 (M_3 8), ai_ cy (r_2 9) 12 (M_3 9), ai_ cy (r_2 10) 12 (M_3 10), ai_ cy (r_2 11) 12 (M_3 11)] hP hD (fun hP hD => ?_)
  refine va_putF (ci := 10) (v := .ref q_1) (ty := (tyX10 2)) (C := RX10) (T := TX10) (N := 5) hx hb hts (fun _ h => List.mem_cons_of_mem _ (List.mem_append_right _ h)) tyX10 tyX10_ok nmX10 hown hK.1 hP hD hS 0 rfl rfl 2 (by decide) (hts (.fieldLink RX10 11 "CutAtlas$Widening" "prices" "[[I") (List.mem_of_getElem? (i := 6) rfl)) (fun _ h9 => h9) rfl hin rfl (by decide +kernel) rfl rfl (Nat.le_of_ble_eq_true rfl) dB_36_1_0.2.1.1 (fun H locs hP hD hS => ?_)
  refine pd_K [ob10_2_ h0 q_1, aq_ cy 6 q_1 12 (gf_ r_2), ai_ cy (r_2 0) 12 (M_3 0), ai_ cy (r_2 1) 12 (M_3 1), ai_ cy (r_2 2) 12 (M_3 2), ai_ cy (r_2 3) 12 (M_3 3), ai_ cy (r_2 4) 12 (M_3 4), ai_ cy (r_2 5) 12 (M_3 5), ai_ cy (r_2 6) 12 (M_3 6), ai_ cy (r_2 7) 12 (M_3 7), ai_ cy (r_2 8) 12 (M_3 8), ai_ cy (r_2 9) 12 (M_3 9), ai_ cy (r_2 10) 12 (M_3 10), ai_ cy (r_2 11) 12 (M_3 11)] hP hD (fun hP hD => ?_)
  refine lv_aload_n hx hb dB_36_1_0.2.1.2.1 rfl (lv_at hl 0 rfl) ?_
  refine lv_bipush (v := 12) hx hb dB_36_1_0.2.1.2.2 (by decide) ?_
  refine nw_a (a0 := (12, .inl (fun _ => 0))) (ty := .int) hx hb (hts (.arrayClass .int) (List.mem_of_getElem? (i := 5) rfl)) rfl hK.1 0 rfl (fun _ h => by cases h) hP hD hS hA (fun _ => rfl) (by decide) (by decide) (by decide) (Nat.le_of_ble_eq_true rfl) (Nat.le_of_ble_eq_true rfl) dB_36_1_0.2.2.1 (fun q_4 H hP hD hS => ?_)
  refine pd_K [ob10_2_ h0 q_1, aq_ cy 6 q_1 12 (gf_ r_2), ai_ cy (r_2 0) 12 (M_3 0), ai_ cy (r_2 1) 12 (M_3 1), ai_ cy (r_2 2) 12 (M_3 2), ai_ cy (r_2 3) 12 (M_3 3), ai_ cy (r_2 4) 12 (M_3 4), ai_ cy (r_2 5) 12 (M_3 5), ai_ cy (r_2 6) 12 (M_3 6), ai_ cy (r_2 7) 12 (M_3 7), ai_ cy (r_2 8) 12 (M_3 8), ai_ cy (r_2 9) 12 (M_3 9), ai_ cy (r_2 10) 12 (M_3 10), ai_ cy (r_2 11) 12 (M_3 11), ai_ cy q_4 12 (fun _ => 0)] hP hD (fun hP hD => ?_)
  refine va_putF (ci := 10) (v := .ref q_4) (ty := (tyX10 3)) (C := RX10) (T := TX10) (N := 5) hx hb hts (fun _ h => List.mem_cons_of_mem _ (List.mem_append_right _ h)) tyX10 tyX10_ok nmX10 hown hK.1 hP hD hS 0 rfl rfl 3 (by decide) (hts (.fieldLink RX10 16 "CutAtlas$Widening" "costs" "[I") (List.mem_of_getElem? (i := 7) rfl)) (fun _ h9 => h9) rfl hin rfl (by decide +kernel) rfl rfl (Nat.le_of_ble_eq_true rfl) dB_36_1_0.2.2.2.1 (fun H locs hP hD hS => ?_)
  refine pd_K [ob10_3_ h0 q_1 q_4, aq_ cy 6 q_1 12 (gf_ r_2), ai_ cy (r_2 0) 12 (M_3 0), ai_ cy (r_2 1) 12 (M_3 1), ai_ cy (r_2 2) 12 (M_3 2), ai_ cy (r_2 3) 12 (M_3 3), ai_ cy (r_2 4) 12 (M_3 4), ai_ cy (r_2 5) 12 (M_3 5), ai_ cy (r_2 6) 12 (M_3 6), ai_ cy (r_2 7) 12 (M_3 7), ai_ cy (r_2 8) 12 (M_3 8), ai_ cy (r_2 9) 12 (M_3 9), ai_ cy (r_2 10) 12 (M_3 10), ai_ cy (r_2 11) 12 (M_3 11), ai_ cy q_4 12 (fun _ => 0)] hP hD (fun hP hD => ?_)
  refine lv_aload_n hx hb dB_36_1_0.2.2.2.2 rfl (lv_at hl 0 rfl) ?_
  refine lv_bipush (v := 12) hx hb dB_36_2_9.1.1.1 (by decide) ?_
  refine nw_a (a0 := (12, .inl (fun _ => 0))) (ty := .int) hx hb (hts (.arrayClass .int) (List.mem_of_getElem? (i := 5) rfl)) rfl hK.1 0 rfl (fun _ h => by cases h) hP hD hS hA (fun _ => rfl) (by decide) (by decide) (by decide) (Nat.le_of_ble_eq_true rfl) (Nat.le_of_ble_eq_true rfl) dB_36_2_9.1.1.2 (fun q_5 H hP hD hS => ?_)
  refine pd_K [ob10_3_ h0 q_1 q_4, aq_ cy 6 q_1 12 (gf_ r_2), ai_ cy (r_2 0) 12 (M_3 0), ai_ cy (r_2 1) 12 (M_3 1), ai_ cy (r_2 2) 12 (M_3 2), ai_ cy (r_2 3) 12 (M_3 3), ai_ cy (r_2 4) 12 (M_3 4), ai_ cy (r_2 5) 12 (M_3 5), ai_ cy (r_2 6) 12 (M_3 6), ai_ cy (r_2 7) 12 (M_3 7), ai_ cy (r_2 8) 12 (M_3 8), ai_ cy (r_2 9) 12 (M_3 9), ai_ cy (r_2 10) 12 (M_3 10), ai_ cy (r_2 11) 12 (M_3 11), ai_ cy q_4 12 (fun _ => 0), ai_ cy q_5 12 (fun _ => 0)] hP hD (fun hP hD => ?_)
  refine va_putF (ci := 10) (v := .ref q_5) (ty := (tyX10 4)) (C := RX10) (T := TX10) (N := 5) hx hb hts (fun _ h => List.mem_cons_of_mem _ (List.mem_append_right _ h)) tyX10 tyX10_ok nmX10 hown hK.1 hP hD hS 0 rfl rfl 4 (by decide) (hts (.fieldLink RX10 20 "CutAtlas$Widening" "cameFrom" "[I") (List.mem_of_getElem? (i := 8) rfl)) (fun _ h9 => h9) rfl hin rfl (by decide +kernel) rfl rfl (Nat.le_of_ble_eq_true rfl) dB_36_2_9.1.2.1 (fun H locs hP hD hS => ?_)
  refine pd_K [ob10_4_ h0 q_1 q_4 q_5, aq_ cy 6 q_1 12 (gf_ r_2), ai_ cy (r_2 0) 12 (M_3 0), ai_ cy (r_2 1) 12 (M_3 1), ai_ cy (r_2 2) 12 (M_3 2), ai_ cy (r_2 3) 12 (M_3 3), ai_ cy (r_2 4) 12 (M_3 4), ai_ cy (r_2 5) 12 (M_3 5), ai_ cy (r_2 6) 12 (M_3 6), ai_ cy (r_2 7) 12 (M_3 7), ai_ cy (r_2 8) 12 (M_3 8), ai_ cy (r_2 9) 12 (M_3 9), ai_ cy (r_2 10) 12 (M_3 10), ai_ cy (r_2 11) 12 (M_3 11), ai_ cy q_4 12 (fun _ => 0), ai_ cy q_5 12 (fun _ => 0)] hP hD (fun hP hD => ?_)
  refine lv_aload_n hx hb dB_36_2_9.1.2.2.1 rfl (lv_at hl 0 rfl) ?_
  refine lv_aload_n hx hb dB_36_2_9.1.2.2.2 rfl (lv_at hl 1 rfl) ?_
  refine va_putF (ci := 10) (v := .ref x1) (ty := (tyX10 0)) (C := RX10) (T := TX10) (N := 5) hx hb hts (fun _ h => List.mem_cons_of_mem _ (List.mem_append_right _ h)) tyX10 tyX10_ok nmX10 hown hK.1 hP hD hS 0 rfl rfl 0 (by decide) (hts (.fieldLink RX10 23 "CutAtlas$Widening" "current" "LCutAtlas$Current;") (List.mem_of_getElem? (i := 9) rfl)) (fun _ h9 => h9) rfl hin rfl (by decide +kernel) rfl rfl (Nat.le_of_ble_eq_true rfl) dB_36_2_9.2.1.1 (fun H locs hP hD hS => ?_)
  refine pd_K [ob10_5_ h0 x1 q_1 q_4 q_5, aq_ cy 6 q_1 12 (gf_ r_2), ai_ cy (r_2 0) 12 (M_3 0), ai_ cy (r_2 1) 12 (M_3 1), ai_ cy (r_2 2) 12 (M_3 2), ai_ cy (r_2 3) 12 (M_3 3), ai_ cy (r_2 4) 12 (M_3 4), ai_ cy (r_2 5) 12 (M_3 5), ai_ cy (r_2 6) 12 (M_3 6), ai_ cy (r_2 7) 12 (M_3 7), ai_ cy (r_2 8) 12 (M_3 8), ai_ cy (r_2 9) 12 (M_3 9), ai_ cy (r_2 10) 12 (M_3 10), ai_ cy (r_2 11) 12 (M_3 11), ai_ cy q_4 12 (fun _ => 0), ai_ cy q_5 12 (fun _ => 0)] hP hD (fun hP hD => ?_)
  refine lv_aload_n hx hb dB_36_2_9.2.1.2 rfl (lv_at hl 0 rfl) ?_
  refine lv_aload_n hx hb dB_36_2_9.2.2.1 rfl (lv_at hl 2 rfl) ?_
  refine va_putF (ci := 10) (v := .ref x2) (ty := (tyX10 1)) (C := RX10) (T := TX10) (N := 5) hx hb hts (fun _ h => List.mem_cons_of_mem _ (List.mem_append_right _ h)) tyX10 tyX10_ok nmX10 hown hK.1 hP hD hS 0 rfl rfl 1 (by decide) (hts (.fieldLink RX10 27 "CutAtlas$Widening" "kinds" "[LCutAtlas$PlainKind;") (List.mem_of_getElem? (i := 10) rfl)) (fun _ h9 => h9) rfl hin rfl (by decide +kernel) rfl rfl (Nat.le_of_ble_eq_true rfl) dB_36_2_9.2.2.2.1 (fun H locs hP hD hS => ?_)
  refine pd_K [ob10_0_ h0 x1 x2 q_1 q_4 q_5, aq_ cy 6 q_1 12 (gf_ r_2), ai_ cy (r_2 0) 12 (M_3 0), ai_ cy (r_2 1) 12 (M_3 1), ai_ cy (r_2 2) 12 (M_3 2), ai_ cy (r_2 3) 12 (M_3 3), ai_ cy (r_2 4) 12 (M_3 4), ai_ cy (r_2 5) 12 (M_3 5), ai_ cy (r_2 6) 12 (M_3 6), ai_ cy (r_2 7) 12 (M_3 7), ai_ cy (r_2 8) 12 (M_3 8), ai_ cy (r_2 9) 12 (M_3 9), ai_ cy (r_2 10) 12 (M_3 10), ai_ cy (r_2 11) 12 (M_3 11), ai_ cy q_4 12 (fun _ => 0), ai_ cy q_5 12 (fun _ => 0)] hP hD (fun hP hD => ?_)
  rw [hQ]
  exact W.vret hx hb hr (fun t ht hW => ⟨⟨(), rfl, trivial, q_1, q_4, q_5, r_2, M_3, by rw [ht]; exact hP, hD⟩, hS.F ht⟩) hS.2.2 dB_36_2_9.2.2.2.2

set_option maxHeartbeats 4000000 in
set_option maxRecDepth 100000 in
theorem c_X4_init (l : Launch) (D : va_G) (cy : Nat → ClassId) (sz : Nat) (h0 : Nat) : Met l yX4_init wsX4_init ({ frames := 1, cells := 2, slots := 36, locals := 12 }) (va_Pc [.ref h0] (fun U => U.heap.size = sz ∧ va_P D vwCl [ob4_1_ h0 0 0] U.heap ∧ kk_ D cy U ∧ va_D (fun _ => True) [ob4_1_ h0 0 0])) (va_Qv (fun (_ : Unit) => True) (fun (_ : Unit) (t : State) => ∃ (l1 : Nat), ∃ (l2 : Nat), va_P D vwCl [ob4_0_ h0 0 (-9) l1 l2, ai_ cy l1 6 (fun _ => 0), aj_ cy l2 30 (fun _ => 0)] t.heap ∧ va_D (va_A [ob4_1_ h0 0 0] sz) [ob4_0_ h0 0 (-9) l1 l2, ai_ cy l1 6 (fun _ => 0), aj_ cy l2 30 (fun _ => 0)]) (va_A [ob4_1_ h0 0 0] sz)) 2 36 (va_A [ob4_1_ h0 0 0] sz) := by
  refine ofQ (cc := cX4_init) (maxL := 1) (ret := none) (by decide) rfl ?_
  intro p e s m args below meth c s₁ Q hQ B hml hv
  obtain ⟨rfl, hsz, hP, hK, hD0⟩ := hv
  have hx := B.exec
  have hb := B.bytes
  have hr := B.returns
  have hts := atoms_spec (ws := wsX4_init) B.pre
  have hown : s.vm.findClass RX4 = some m.cls := by have h_ := findClass_of_methodNamed B.named; exact h_
  have hlocks := B.notSynchronized
  have hin : meth.name = "<init>" := (name_of_methodNamed B.named B.method).1
  subst hsz
  have hD := hD0.self (sz := s.heap.size)
  generalize hAe : va_A [ob4_1_ h0 0 0] s.heap.size = A at hD hQ
  have hA : ∀ q : Nat, s.heap.size ≤ q → A q := fun q h => by rw [← hAe]; exact Or.inr h
  have hS : va_S A s.heap s.heap [] := va_S.rf
  have hl := lv_entry ([.ref h0]) (n := 1) (Nat.le_of_ble_eq_true rfl)
  rw [lg_entry_eq]
  generalize (lg_sl ([.ref h0]) ++ List.replicate (1 - (lg_sl ([.ref h0])).length) Slot.unset).toArray = ls at hl ⊢
  have hl : lv_has ls 1 [(0, .ref h0)] := hl
  refine lv_aload_n hx hb dB_36_1_36.1.1.1.1 rfl (lv_at hl 0 rfl) ?_
  refine W.objInit hx hb hown (hts (.methodLink RX4 3 objectInit) (List.mem_of_getElem? (i := 1) rfl)) (hts (.instanceMethod objectInit) (List.mem_of_getElem? (i := 2) rfl)) (hts (.code objectInit ⟨#[0xb1]⟩ 1 none) (List.mem_of_getElem? (i := 3) rfl)) rfl (by rw [hml]; exact hl.1) rfl dB_36_1_36.1.1.1.2 (Nat.le_of_ble_eq_true rfl) (Nat.le_of_ble_eq_true rfl) ?_
  refine W.eq (g2 := F0 m 4 ls []) rfl ?_
  refine lv_aload_n hx hb dB_36_1_36.1.1.2.1 rfl (lv_at hl 0 rfl) ?_
  refine lv_iconst (v := 0) hx hb dB_36_1_36.1.1.2.2 (by decide) ?_
  refine va_put (ci := 4) (v := .int 0) (ty := .int) (C := RX4) (T := TX4) (N := 4) hx hb hts (fun _ h => List.mem_cons_of_mem _ (List.mem_append_right _ h)) tyX4 tyX4_ok nmX4 hown hK.1 hP hD hS 0 rfl rfl 0 (by decide) (hts (.fieldLink RX4 9 "CutAtlas$NumberMap" "kind" "I") (List.mem_of_getElem? (i := 4) rfl)) (fun _ h9 => h9) rfl (by decide +kernel) rfl rfl (Nat.le_of_ble_eq_true rfl) dB_36_1_36.1.2.1.1 (fun H locs hP hD hS => ?_)
  refine pd_K [ob4_1_ h0 0 0] hP hD (fun hP hD => ?_)
  refine lv_aload_n hx hb dB_36_1_36.1.2.1.2 rfl (lv_at hl 0 rfl) ?_
  refine lv_bipush (v := (-9)) hx hb dB_36_1_36.1.2.2.1 (by decide) ?_
  refine va_put (ci := 4) (v := .int (-9)) (ty := .int) (C := RX4) (T := TX4) (N := 4) hx hb hts (fun _ h => List.mem_cons_of_mem _ (List.mem_append_right _ h)) tyX4 tyX4_ok nmX4 hown hK.1 hP hD hS 0 rfl rfl 1 (by decide) (hts (.fieldLink RX4 15 "CutAtlas$NumberMap" "rows" "I") (List.mem_of_getElem? (i := 5) rfl)) (fun _ h9 => h9) rfl (by decide +kernel) rfl rfl (Nat.le_of_ble_eq_true rfl) dB_36_1_36.1.2.2.2 (fun H locs hP hD hS => ?_)
  refine pd_K [ob4_1_ h0 0 (-9)] hP hD (fun hP hD => ?_)
  refine lv_aload_n hx hb dB_36_1_36.2.1.1.1 rfl (lv_at hl 0 rfl) ?_
  refine lv_bipush (v := 6) hx hb dB_36_1_36.2.1.1.2 (by decide) ?_
  refine nw_a (a0 := (6, .inl (fun _ => 0))) (ty := .int) hx hb (hts (.arrayClass .int) (List.mem_of_getElem? (i := 6) rfl)) rfl hK.1 0 rfl (fun _ h => by cases h) hP hD hS hA (fun _ => rfl) (by decide) (by decide) (by decide) (Nat.le_of_ble_eq_true rfl) (Nat.le_of_ble_eq_true rfl) dB_36_1_36.2.1.2.1 (fun q_1 H hP hD hS => ?_)
  refine pd_K [ob4_1_ h0 0 (-9), ai_ cy q_1 6 (fun _ => 0)] hP hD (fun hP hD => ?_)
  refine va_putF (ci := 4) (v := .ref q_1) (ty := (tyX4 2)) (C := RX4) (T := TX4) (N := 4) hx hb hts (fun _ h => List.mem_cons_of_mem _ (List.mem_append_right _ h)) tyX4 tyX4_ok nmX4 hown hK.1 hP hD hS 0 rfl rfl 2 (by decide) (hts (.fieldLink RX4 18 "CutAtlas$NumberMap" "lengths" "[I") (List.mem_of_getElem? (i := 7) rfl)) (fun _ h9 => h9) rfl hin rfl (by decide +kernel) rfl rfl (Nat.le_of_ble_eq_true rfl) dB_36_1_36.2.1.2.2 (fun H locs hP hD hS => ?_)
  refine pd_K [ob4_2_ h0 0 (-9) q_1, ai_ cy q_1 6 (fun _ => 0)] hP hD (fun hP hD => ?_)
  refine lv_aload_n hx hb dB_36_1_36.2.2.1.1 rfl (lv_at hl 0 rfl) ?_
  refine lv_bipush (v := 30) hx hb dB_36_1_36.2.2.1.2 (by decide) ?_
  refine nw_a (a0 := (30, .inr (.inl (fun _ => 0)))) (ty := .long) hx hb (hts (.arrayClass .long) (List.mem_of_getElem? (i := 8) rfl)) rfl hK.1 1 rfl (fun _ h => by cases h) hP hD hS hA (fun _ => rfl) (by decide) (by decide) (by decide) (Nat.le_of_ble_eq_true rfl) (Nat.le_of_ble_eq_true rfl) dB_36_1_36.2.2.2.1 (fun q_2 H hP hD hS => ?_)
  refine pd_K [ob4_2_ h0 0 (-9) q_1, ai_ cy q_1 6 (fun _ => 0), aj_ cy q_2 30 (fun _ => 0)] hP hD (fun hP hD => ?_)
  refine va_putF (ci := 4) (v := .ref q_2) (ty := (tyX4 3)) (C := RX4) (T := TX4) (N := 4) hx hb hts (fun _ h => List.mem_cons_of_mem _ (List.mem_append_right _ h)) tyX4 tyX4_ok nmX4 hown hK.1 hP hD hS 0 rfl rfl 3 (by decide) (hts (.fieldLink RX4 22 "CutAtlas$NumberMap" "numbers" "[J") (List.mem_of_getElem? (i := 9) rfl)) (fun _ h9 => h9) rfl hin rfl (by decide +kernel) rfl rfl (Nat.le_of_ble_eq_true rfl) dB_36_1_36.2.2.2.2 (fun H locs hP hD hS => ?_)
  refine pd_K [ob4_0_ h0 0 (-9) q_1 q_2, ai_ cy q_1 6 (fun _ => 0), aj_ cy q_2 30 (fun _ => 0)] hP hD (fun hP hD => ?_)
  rw [hQ]
  exact W.vret hx hb hr (fun t ht hW => ⟨⟨(), rfl, trivial, q_1, q_2, by rw [ht]; exact hP, hD⟩, hS.F ht⟩) hS.2.2 dB_36_1_37
end

section
theorem kf_up {q0 q1 q2 q3 q4 : Nat} : (va_up (va_up (va_up (va_up (va_up (fun _ => none) (0 : Int32).toNatClampNeg (some q0)) (1 : Int32).toNatClampNeg (some q1)) (2 : Int32).toNatClampNeg (some q2)) (3 : Int32).toNatClampNeg (some q3)) (4 : Int32).toNatClampNeg (some q4)) = kf_ q0 q1 q2 q3 q4 := by
  funext i
  simp only [va_up, kf_, cl_0, cl_1, cl_2, cl_3, cl_4]
  (repeat' split) <;> first | rfl | omega
theorem mf_up {q0 q1 q2 q3 : Nat} : (va_up (va_up (va_up (va_up (fun _ => none) (0 : Int32).toNatClampNeg (some q0)) (1 : Int32).toNatClampNeg (some q1)) (2 : Int32).toNatClampNeg (some q2)) (3 : Int32).toNatClampNeg (some q3)) = mf_ q0 q1 q2 q3 := by
  funext i
  simp only [va_up, mf_, cl_0, cl_1, cl_2, cl_3, cl_4]
  (repeat' split) <;> first | rfl | omega

set_option maxHeartbeats 4000000 in
set_option maxRecDepth 100000 in
theorem c_X11_init (l : Launch) (D : va_G) (cy : Nat → ClassId) (sz : Nat) (xo : Nat) : Met l yX11_init wsX11_init ({ frames := 4, cells := 78, slots := 1092, locals := 72 }) (va_Pc [.ref xo] (fun U => U.heap.size = sz ∧ va_P D vwCl [ob11_1_ xo 0 0 0 0] U.heap ∧ kh_ D cy U ∧ va_D (fun _ => True) [ob11_1_ xo 0 0 0 0])) (va_Qv (fun (_ : Unit) => True) (fun (_ : Unit) (t : State) => ∃ (xk : Nat), ∃ (xn : Nat), ∃ (xc : Nat), ∃ (xh : Nat), ∃ (xt : Nat), ∃ (xw : Nat), ∃ (xm : Nat), ∃ (xp : Nat), ∃ (n1 : Nat), ∃ (n2 : Nat), ∃ (n3 : Nat), ∃ (n4 : Nat), ∃ (n5 : Nat), ∃ (k0 : Nat), ∃ (k1 : Nat), ∃ (k2 : Nat), ∃ (k3 : Nat), ∃ (k4 : Nat), ∃ (clo : Nat), ∃ (cro : Nat), ∃ (c4 : Nat), ∃ (c5 : Nat), ∃ (c6 : Nat), ∃ (c7 : Nat), ∃ (c8 : Nat), ∃ (ta : Nat), ∃ (tb : Nat), ∃ (wpo : Nat), ∃ (wc : Nat), ∃ (wf : Nat), ∃ (m0 : Nat), ∃ (l0 : Nat), ∃ (u0 : Nat), ∃ (m1 : Nat), ∃ (l1 : Nat), ∃ (u1 : Nat), ∃ (m2 : Nat), ∃ (l2 : Nat), ∃ (u2 : Nat), ∃ (m3 : Nat), ∃ (l3 : Nat), ∃ (u3 : Nat), ∃ (rl : Nat → Nat), ∃ (rr : Nat → Nat), ∃ (rp : Nat → Nat), ∃ (Ml : Nat → Nat → Int32), ∃ (Mr : Nat → Nat → Int32), ∃ (Mp : Nat → Nat → Int32), va_P D vwCl [ob11_0_ xo xk xn xc xh xt xw xm xp 0 0 0 0, ob3_0_ xn 0 0 n1 n2 n3 n4 n5, ai_ cy n1 40 (fun _ => 0), ai_ cy n2 40 (fun _ => 0), ai_ cy n3 40 (fun _ => 0), ai_ cy n4 40 (fun _ => 0), ai_ cy n5 40 (fun _ => 0), aq_ cy 3 xk 5 (kf_ k0 k1 k2 k3 k4), ob6_0_ k0, ob5_0_ k1, ob9_0_ k2, ob2_0_ k3, ob8_0_ k4, ob0_0_ xc xn xk clo cro c4 c5 c6 c7 c8, aq_ cy 6 clo 12 (gf_ rl), ai_ cy (rl 0) 12 (Ml 0), ai_ cy (rl 1) 12 (Ml 1), ai_ cy (rl 2) 12 (Ml 2), ai_ cy (rl 3) 12 (Ml 3), ai_ cy (rl 4) 12 (Ml 4), ai_ cy (rl 5) 12 (Ml 5), ai_ cy (rl 6) 12 (Ml 6), ai_ cy (rl 7) 12 (Ml 7), ai_ cy (rl 8) 12 (Ml 8), ai_ cy (rl 9) 12 (Ml 9), ai_ cy (rl 10) 12 (Ml 10), ai_ cy (rl 11) 12 (Ml 11), aq_ cy 6 cro 12 (gf_ rr), ai_ cy (rr 0) 12 (Mr 0), ai_ cy (rr 1) 12 (Mr 1), ai_ cy (rr 2) 12 (Mr 2), ai_ cy (rr 3) 12 (Mr 3), ai_ cy (rr 4) 12 (Mr 4), ai_ cy (rr 5) 12 (Mr 5), ai_ cy (rr 6) 12 (Mr 6), ai_ cy (rr 7) 12 (Mr 7), ai_ cy (rr 8) 12 (Mr 8), ai_ cy (rr 9) 12 (Mr 9), ai_ cy (rr 10) 12 (Mr 10), ai_ cy (rr 11) 12 (Mr 11), ai_ cy c4 40 (fun _ => 0), ai_ cy c5 40 (fun _ => 0), ai_ cy c6 40 (fun _ => 0), ai_ cy c7 12 (fun _ => 0), ai_ cy c8 12 (fun _ => 0), ob7_0_ xh xc 0 0 0 0 0 0 0 0, ob1_0_ xt xc ta tb, ai_ cy ta 12 (fun _ => 0), ai_ cy tb 12 (fun _ => 0), ob10_0_ xw xc xk wpo wc wf, aq_ cy 6 wpo 12 (gf_ rp), ai_ cy (rp 0) 12 (Mp 0), ai_ cy (rp 1) 12 (Mp 1), ai_ cy (rp 2) 12 (Mp 2), ai_ cy (rp 3) 12 (Mp 3), ai_ cy (rp 4) 12 (Mp 4), ai_ cy (rp 5) 12 (Mp 5), ai_ cy (rp 6) 12 (Mp 6), ai_ cy (rp 7) 12 (Mp 7), ai_ cy (rp 8) 12 (Mp 8), ai_ cy (rp 9) 12 (Mp 9), ai_ cy (rp 10) 12 (Mp 10), ai_ cy (rp 11) 12 (Mp 11), ai_ cy wc 12 (fun _ => 0), ai_ cy wf 12 (fun _ => 0), aq_ cy 4 xm 4 (mf_ m0 m1 m2 m3), ob4_0_ m0 0 (-9) l0 u0, ob4_0_ m1 0 (-9) l1 u1, ob4_0_ m2 0 (-9) l2 u2, ob4_0_ m3 0 (-9) l3 u3, ai_ cy l0 6 (fun _ => 0), ai_ cy l1 6 (fun _ => 0), ai_ cy l2 6 (fun _ => 0), ai_ cy l3 6 (fun _ => 0), aj_ cy u0 30 (fun _ => 0), aj_ cy u1 30 (fun _ => 0), aj_ cy u2 30 (fun _ => 0), aj_ cy u3 30 (fun _ => 0), aq_ cy 5 xp 30 (fun _ => none)] t.heap ∧ va_D (va_A [ob11_1_ xo 0 0 0 0] sz) [ob11_0_ xo xk xn xc xh xt xw xm xp 0 0 0 0, ob3_0_ xn 0 0 n1 n2 n3 n4 n5, ai_ cy n1 40 (fun _ => 0), ai_ cy n2 40 (fun _ => 0), ai_ cy n3 40 (fun _ => 0), ai_ cy n4 40 (fun _ => 0), ai_ cy n5 40 (fun _ => 0), aq_ cy 3 xk 5 (kf_ k0 k1 k2 k3 k4), ob6_0_ k0, ob5_0_ k1, ob9_0_ k2, ob2_0_ k3, ob8_0_ k4, ob0_0_ xc xn xk clo cro c4 c5 c6 c7 c8, aq_ cy 6 clo 12 (gf_ rl), ai_ cy (rl 0) 12 (Ml 0), ai_ cy (rl 1) 12 (Ml 1), ai_ cy (rl 2) 12 (Ml 2), ai_ cy (rl 3) 12 (Ml 3), ai_ cy (rl 4) 12 (Ml 4), ai_ cy (rl 5) 12 (Ml 5), ai_ cy (rl 6) 12 (Ml 6), ai_ cy (rl 7) 12 (Ml 7), ai_ cy (rl 8) 12 (Ml 8), ai_ cy (rl 9) 12 (Ml 9), ai_ cy (rl 10) 12 (Ml 10), ai_ cy (rl 11) 12 (Ml 11), aq_ cy 6 cro 12 (gf_ rr), ai_ cy (rr 0) 12 (Mr 0), ai_ cy (rr 1) 12 (Mr 1), ai_ cy (rr 2) 12 (Mr 2), ai_ cy (rr 3) 12 (Mr 3), ai_ cy (rr 4) 12 (Mr 4), ai_ cy (rr 5) 12 (Mr 5), ai_ cy (rr 6) 12 (Mr 6), ai_ cy (rr 7) 12 (Mr 7), ai_ cy (rr 8) 12 (Mr 8), ai_ cy (rr 9) 12 (Mr 9), ai_ cy (rr 10) 12 (Mr 10), ai_ cy (rr 11) 12 (Mr 11), ai_ cy c4 40 (fun _ => 0), ai_ cy c5 40 (fun _ => 0), ai_ cy c6 40 (fun _ => 0), ai_ cy c7 12 (fun _ => 0), ai_ cy c8 12 (fun _ => 0), ob7_0_ xh xc 0 0 0 0 0 0 0 0, ob1_0_ xt xc ta tb, ai_ cy ta 12 (fun _ => 0), ai_ cy tb 12 (fun _ => 0), ob10_0_ xw xc xk wpo wc wf, aq_ cy 6 wpo 12 (gf_ rp), ai_ cy (rp 0) 12 (Mp 0), ai_ cy (rp 1) 12 (Mp 1), ai_ cy (rp 2) 12 (Mp 2), ai_ cy (rp 3) 12 (Mp 3), ai_ cy (rp 4) 12 (Mp 4), ai_ cy (rp 5) 12 (Mp 5), ai_ cy (rp 6) 12 (Mp 6), ai_ cy (rp 7) 12 (Mp 7), ai_ cy (rp 8) 12 (Mp 8), ai_ cy (rp 9) 12 (Mp 9), ai_ cy (rp 10) 12 (Mp 10), ai_ cy (rp 11) 12 (Mp 11), ai_ cy wc 12 (fun _ => 0), ai_ cy wf 12 (fun _ => 0), aq_ cy 4 xm 4 (mf_ m0 m1 m2 m3), ob4_0_ m0 0 (-9) l0 u0, ob4_0_ m1 0 (-9) l1 u1, ob4_0_ m2 0 (-9) l2 u2, ob4_0_ m3 0 (-9) l3 u3, ai_ cy l0 6 (fun _ => 0), ai_ cy l1 6 (fun _ => 0), ai_ cy l2 6 (fun _ => 0), ai_ cy l3 6 (fun _ => 0), aj_ cy u0 30 (fun _ => 0), aj_ cy u1 30 (fun _ => 0), aj_ cy u2 30 (fun _ => 0), aj_ cy u3 30 (fun _ => 0), aq_ cy 5 xp 30 (fun _ => none)]) (va_A [ob11_1_ xo 0 0 0 0] sz)) 78 1092 (va_A [ob11_1_ xo 0 0 0 0] sz) := by
  refine ofQ (cc := cX11_init) (maxL := 1) (ret := none) (by decide) rfl ?_
  intro p e s m args below meth c s₁ Q hQ B hml hv
  obtain ⟨rfl, hsz, hP, hK, hD0⟩ := hv
  have hR6 := hK.2
  have hG := hK.1.2
  have hK := hK.1.1
  have hx := B.exec
  have hb := B.bytes
  have hr := B.returns
  have hts := atoms_spec (ws := wsX11_init) B.pre
  have hown : s.vm.findClass RX11 = some m.cls := by have h_ := findClass_of_methodNamed B.named; exact h_
  have hlocks := B.notSynchronized
  have hin : meth.name = "<init>" := (name_of_methodNamed B.named B.method).1
  subst hsz
  have hD := hD0.self (sz := s.heap.size)
  generalize hAe : va_A [ob11_1_ xo 0 0 0 0] s.heap.size = A at hD hQ
  have hA : ∀ q : Nat, s.heap.size ≤ q → A q := fun q h => by rw [← hAe]; exact Or.inr h
  have hS : va_S A s.heap s.heap [] := va_S.rf
  have hl := lv_entry ([.ref xo]) (n := 1) (Nat.le_of_ble_eq_true rfl)
  rw [lg_entry_eq]
  generalize (lg_sl ([.ref xo]) ++ List.replicate (1 - (lg_sl ([.ref xo])).length) Slot.unset).toArray = ls at hl ⊢
  have hl : lv_has ls 1 [(0, .ref xo)] := hl
  refine lv_aload_n hx hb dB_36_2_37.1.1.1.1 rfl (lv_at hl 0 rfl) ?_
  refine W.objInit hx hb hown (hts (.methodLink RX11 1 objectInit) (List.mem_of_getElem? (i := 1) rfl)) (hts (.instanceMethod objectInit) (List.mem_of_getElem? (i := 2) rfl)) (hts (.code objectInit ⟨#[0xb1]⟩ 1 none) (List.mem_of_getElem? (i := 3) rfl)) rfl (by rw [hml]; exact hl.1) rfl dB_36_2_37.1.1.1.2 (Nat.le_of_ble_eq_true rfl) (Nat.le_of_ble_eq_true rfl) ?_
  refine W.eq (g2 := F0 m 4 ls []) rfl ?_
  refine lv_aload_n hx hb dB_36_2_37.1.1.2.1 rfl (lv_at hl 0 rfl) ?_
  refine lv_iconst (v := 5) hx hb dB_36_2_37.1.1.2.2 (by decide) ?_
  refine nw_q hx hb hown (hts (.classLink RX11 7 RX6) (List.mem_of_getElem? (i := 4) rfl)) (kk_ao3 hK) hK.1 3 rfl hP hD hS hA (by decide) (by decide : _ = 5) (by decide) (Nat.le_of_ble_eq_true rfl) (Nat.le_of_ble_eq_true rfl) dB_36_2_37.1.2.1.1 (fun q_1 H hP hD hS => ?_)
  refine pd_K [ob11_1_ xo 0 0 0 0, aq_ cy 3 q_1 5 (fun _ => none)] hP hD (fun hP hD => ?_)
  refine lv_dup hx hb dB_36_2_37.1.2.1.2 rfl ?_
  refine lv_iconst (v := 0) hx hb dB_36_2_37.1.2.2.1 (by decide) ?_
  refine va_new (ci := 6) (fs := []) (C := RX6) (T := TX6) (N := 0) hx hb hts (fun _ h => List.mem_cons_of_mem _ (List.mem_append_left _ (List.mem_append_left _ (List.mem_append_left _ (List.mem_append_left _ (List.mem_append_left _ (List.mem_append_left _ (List.mem_append_left _ (List.mem_append_left _ (List.mem_append_left _ (List.mem_append_left _ (List.mem_append_left _ (List.mem_append_right _ h))))))))))))) tyX6 tyX6_ok hown (hts (.classLink RX11 7 RX6) (List.mem_of_getElem? (i := 4) rfl)) (hts (.instantiable RX6 0) (List.mem_of_getElem? (i := 5) rfl)) (hts (.initialized RX6) (List.mem_of_getElem? (i := 6) rfl)) hK.1 hP hD hS hA rfl (by decide +kernel) (Nat.le_of_ble_eq_true rfl) (Nat.le_of_ble_eq_true rfl) dB_36_2_37.1.2.2.2 (fun q_2 H hP hD hS => ?_)
  refine pd_K [ob11_1_ xo 0 0 0 0, aq_ cy 3 q_1 5 (fun _ => none), ob6_0_ q_2] hP hD (fun hP hD => ?_)
  refine lv_dup hx hb dB_36_2_37.2.1.1.1 rfl ?_
  have hPc := hP.sub (ws' := []) [] rfl
  have hDc := hD.sub (ws' := []) [] (by decide) rfl
  have hDw : va_D (fun _ => True) [] := hDc.weaken (fun _ _ _ _ => trivial)
  have hFc := va_free (wc := []) hD hS hA [] rfl
  refine va_callv (va_runIN (As := []) (rest := [.ref q_2, .int 0, .ref q_1, .ref q_1, .ref xo]) ⟨hx, hb, hml, hown, hts⟩ (c_X6_init l D cy H.size q_2) ⟨va_cnB 0 hts gX11_init_X6_init_n9 rfl rfl rfl (kk_nX11_9 hK) (hts (.initialized RX6) (List.mem_of_getElem? (i := 6) rfl)) (by decide +kernel) ⟨Nat.le_of_ble_eq_true rfl, Nat.le_of_ble_eq_true rfl⟩, rfl, (hts (.instanceMethod yX6_init) (pc_X11_init wsX11_init_r3 (List.mem_of_getElem? (i := 3) rfl) _ (List.mem_of_getElem? (i := 0) rfl)))⟩ ⟨bl_, fun U hU hW => ⟨rfl, by rw [hU], by rw [hU]; exact hPc, kk_mv hW hK, hDw⟩⟩ rfl rfl hl.1 rfl (lv_room (Nat.le_of_ble_eq_true rfl)) dB_36_2_37.2.1.1.2 ⟨Nat.le_of_ble_eq_true rfl, Nat.le_of_ble_eq_true rfl⟩) hS (fun q _ h => hFc q h) hFc (fun u t H locs ht hvm hw hB hz1 hk1 hS => ?_)
  have hP := ro_keep hP hk1
  have hP : va_P D vwCl [ob11_1_ xo 0 0 0 0, aq_ cy 3 q_1 5 (fun _ => none), ob6_0_ q_2] H := hP
  refine va_astq hx hb hK.1 hP hD hS 1 3 2 6 rfl rfl rfl rfl (i := 0) (by unfold vp_in; decide) dB_36_2_37.2.1.2.1 (fun H locs hP hD hS => ?_)
  refine pd_K [ob11_1_ xo 0 0 0 0, aq_ cy 3 q_1 5 (va_up (fun _ => none) (0 : Int32).toNatClampNeg (some q_2)), ob6_0_ q_2] hP hD (fun hP hD => ?_)
  refine lv_dup hx hb dB_36_2_37.2.1.2.2 rfl ?_
  refine lv_iconst (v := 1) hx hb dB_36_2_37.2.2.1.1 (by decide) ?_
  refine va_new (ci := 5) (fs := []) (C := RX5) (T := TX5) (N := 0) hx hb hts (fun _ h => List.mem_cons_of_mem _ (List.mem_append_left _ (List.mem_append_left _ (List.mem_append_left _ (List.mem_append_left _ (List.mem_append_left _ (List.mem_append_left _ (List.mem_append_left _ (List.mem_append_left _ (List.mem_append_left _ (List.mem_append_left _ (List.mem_append_right _ h)))))))))))) tyX5 tyX5_ok hown (hts (.classLink RX11 10 RX5) (List.mem_of_getElem? (i := 7) rfl)) (hts (.instantiable RX5 0) (List.mem_of_getElem? (i := 8) rfl)) (hts (.initialized RX5) (List.mem_of_getElem? (i := 9) rfl)) hK.1 hP hD hS hA rfl (by decide +kernel) (Nat.le_of_ble_eq_true rfl) (Nat.le_of_ble_eq_true rfl) dB_36_2_37.2.2.1.2 (fun q_4 H hP hD hS => ?_)
  refine pd_K [ob11_1_ xo 0 0 0 0, aq_ cy 3 q_1 5 (va_up (fun _ => none) (0 : Int32).toNatClampNeg (some q_2)), ob6_0_ q_2, ob5_0_ q_4] hP hD (fun hP hD => ?_)
  refine lv_dup hx hb dB_36_2_37.2.2.2.1 rfl ?_
  have hPc := hP.sub (ws' := []) [] rfl
  have hDc := hD.sub (ws' := []) [] (by decide) rfl
  have hDw : va_D (fun _ => True) [] := hDc.weaken (fun _ _ _ _ => trivial)
  have hFc := va_free (wc := []) hD hS hA [] rfl
  refine va_callv (va_runIN (As := []) (rest := [.ref q_4, .int 1, .ref q_1, .ref q_1, .ref xo]) ⟨hx, hb, hml, hown, hts⟩ (c_X5_init l D cy H.size q_4) ⟨va_cnB 0 hts gX11_init_X5_init_n12 rfl rfl rfl (kk_nX11_12 hK) (hts (.initialized RX5) (List.mem_of_getElem? (i := 9) rfl)) (by decide +kernel) ⟨Nat.le_of_ble_eq_true rfl, Nat.le_of_ble_eq_true rfl⟩, rfl, (hts (.instanceMethod yX5_init) (pc_X11_init wsX11_init_r3 (List.mem_of_getElem? (i := 3) rfl) _ (List.mem_of_getElem? (i := 3) rfl)))⟩ ⟨bl_, fun U hU hW => ⟨rfl, by rw [hU], by rw [hU]; exact hPc, kk_mv hW hK, hDw⟩⟩ rfl rfl hl.1 rfl (lv_room (Nat.le_of_ble_eq_true rfl)) dB_36_2_37.2.2.2.2 ⟨Nat.le_of_ble_eq_true rfl, Nat.le_of_ble_eq_true rfl⟩) hS (fun q _ h => hFc q h) hFc (fun u t H locs ht hvm hw hB hz1 hk1 hS => ?_)
  have hP := ro_keep hP hk1
  have hP : va_P D vwCl [ob11_1_ xo 0 0 0 0, aq_ cy 3 q_1 5 (va_up (fun _ => none) (0 : Int32).toNatClampNeg (some q_2)), ob6_0_ q_2, ob5_0_ q_4] H := hP
  refine va_astqM hx hb hK.1 hP hD hS 1 3 rfl rfl (kk_any5 hK hP 3 rfl) (i := 1) (by unfold vp_in; decide) dB_36_2_38.1.1.1.1 (fun H locs hP hD hS => ?_)
  refine pd_K [ob11_1_ xo 0 0 0 0, aq_ cy 3 q_1 5 (va_up (va_up (fun _ => none) (0 : Int32).toNatClampNeg (some q_2)) (1 : Int32).toNatClampNeg (some q_4)), ob6_0_ q_2, ob5_0_ q_4] hP hD (fun hP hD => ?_)
  refine lv_dup hx hb dB_36_2_38.1.1.1.2 rfl ?_
  refine lv_iconst (v := 2) hx hb dB_36_2_38.1.1.2.1 (by decide) ?_
  refine va_new (ci := 9) (fs := []) (C := RX9) (T := TX9) (N := 0) hx hb hts (fun _ h => List.mem_cons_of_mem _ (List.mem_append_left _ (List.mem_append_left _ (List.mem_append_left _ (List.mem_append_left _ (List.mem_append_left _ (List.mem_append_left _ (List.mem_append_left _ (List.mem_append_left _ (List.mem_append_left _ (List.mem_append_right _ h))))))))))) tyX9 tyX9_ok hown (hts (.classLink RX11 13 RX9) (List.mem_of_getElem? (i := 10) rfl)) (hts (.instantiable RX9 0) (List.mem_of_getElem? (i := 11) rfl)) (hts (.initialized RX9) (pc_X11_init wsX11_init_r1 (List.mem_of_getElem? (i := 1) rfl) _ (List.mem_of_getElem? (i := 11) rfl))) hK.1 hP hD hS hA rfl (by decide +kernel) (Nat.le_of_ble_eq_true rfl) (Nat.le_of_ble_eq_true rfl) dB_36_2_38.1.1.2.2 (fun q_6 H hP hD hS => ?_)
  refine pd_K [ob11_1_ xo 0 0 0 0, aq_ cy 3 q_1 5 (va_up (va_up (fun _ => none) (0 : Int32).toNatClampNeg (some q_2)) (1 : Int32).toNatClampNeg (some q_4)), ob6_0_ q_2, ob5_0_ q_4, ob9_0_ q_6] hP hD (fun hP hD => ?_)
  refine lv_dup hx hb dB_36_2_38.1.2.1.1 rfl ?_
  have hPc := hP.sub (ws' := []) [] rfl
  have hDc := hD.sub (ws' := []) [] (by decide) rfl
  have hDw : va_D (fun _ => True) [] := hDc.weaken (fun _ _ _ _ => trivial)
  have hFc := va_free (wc := []) hD hS hA [] rfl
  refine va_callv (va_runIN (As := []) (rest := [.ref q_6, .int 2, .ref q_1, .ref q_1, .ref xo]) ⟨hx, hb, hml, hown, hts⟩ (c_X9_init l D cy H.size q_6) ⟨va_cnB 0 hts gX11_init_X9_init_n15 rfl rfl rfl (kk_nX11_15 hK) (hts (.initialized RX9) (pc_X11_init wsX11_init_r1 (List.mem_of_getElem? (i := 1) rfl) _ (List.mem_of_getElem? (i := 11) rfl))) (by decide +kernel) ⟨Nat.le_of_ble_eq_true rfl, Nat.le_of_ble_eq_true rfl⟩, rfl, (hts (.instanceMethod yX9_init) (pc_X11_init wsX11_init_r3 (List.mem_of_getElem? (i := 3) rfl) _ (List.mem_of_getElem? (i := 5) rfl)))⟩ ⟨bl_, fun U hU hW => ⟨rfl, by rw [hU], by rw [hU]; exact hPc, kk_mv hW hK, hDw⟩⟩ rfl rfl hl.1 rfl (lv_room (Nat.le_of_ble_eq_true rfl)) dB_36_2_38.1.2.1.2 ⟨Nat.le_of_ble_eq_true rfl, Nat.le_of_ble_eq_true rfl⟩) hS (fun q _ h => hFc q h) hFc (fun u t H locs ht hvm hw hB hz1 hk1 hS => ?_)
  have hP := ro_keep hP hk1
  have hP : va_P D vwCl [ob11_1_ xo 0 0 0 0, aq_ cy 3 q_1 5 (va_up (va_up (fun _ => none) (0 : Int32).toNatClampNeg (some q_2)) (1 : Int32).toNatClampNeg (some q_4)), ob6_0_ q_2, ob5_0_ q_4, ob9_0_ q_6] H := hP
  refine va_astqM hx hb hK.1 hP hD hS 1 3 rfl rfl (kk_any9 hK hP 4 rfl) (i := 2) (by unfold vp_in; decide) dB_36_2_38.1.2.2.1 (fun H locs hP hD hS => ?_)
  refine pd_K [ob11_1_ xo 0 0 0 0, aq_ cy 3 q_1 5 (va_up (va_up (va_up (fun _ => none) (0 : Int32).toNatClampNeg (some q_2)) (1 : Int32).toNatClampNeg (some q_4)) (2 : Int32).toNatClampNeg (some q_6)), ob6_0_ q_2, ob5_0_ q_4, ob9_0_ q_6] hP hD (fun hP hD => ?_)
  refine lv_dup hx hb dB_36_2_38.1.2.2.2 rfl ?_
  refine lv_iconst (v := 3) hx hb dB_36_2_38.2.1.1.1 (by decide) ?_
  refine va_new (ci := 2) (fs := []) (C := RX2) (T := TX2) (N := 0) hx hb hts (fun _ h => List.mem_cons_of_mem _ (List.mem_append_left _ (List.mem_append_left _ (List.mem_append_left _ (List.mem_append_left _ (List.mem_append_left _ (List.mem_append_left _ (List.mem_append_left _ (List.mem_append_left _ (List.mem_append_right _ h)))))))))) tyX2 tyX2_ok hown (hts (.classLink RX11 16 RX2) (pc_X11_init wsX11_init_r1 (List.mem_of_getElem? (i := 1) rfl) _ (List.mem_of_getElem? (i := 12) rfl))) (hts (.instantiable RX2 0) (pc_X11_init wsX11_init_r1 (List.mem_of_getElem? (i := 1) rfl) _ (List.mem_of_getElem? (i := 13) rfl))) (hts (.initialized RX2) (pc_X11_init wsX11_init_r1 (List.mem_of_getElem? (i := 1) rfl) _ (List.mem_of_getElem? (i := 14) rfl))) hK.1 hP hD hS hA rfl (by decide +kernel) (Nat.le_of_ble_eq_true rfl) (Nat.le_of_ble_eq_true rfl) dB_36_2_38.2.1.1.2 (fun q_8 H hP hD hS => ?_)
  refine pd_K [ob11_1_ xo 0 0 0 0, aq_ cy 3 q_1 5 (va_up (va_up (va_up (fun _ => none) (0 : Int32).toNatClampNeg (some q_2)) (1 : Int32).toNatClampNeg (some q_4)) (2 : Int32).toNatClampNeg (some q_6)), ob6_0_ q_2, ob5_0_ q_4, ob9_0_ q_6, ob2_0_ q_8] hP hD (fun hP hD => ?_)
  refine lv_dup hx hb dB_36_2_38.2.1.2.1 rfl ?_
  have hPc := hP.sub (ws' := []) [] rfl
  have hDc := hD.sub (ws' := []) [] (by decide) rfl
  have hDw : va_D (fun _ => True) [] := hDc.weaken (fun _ _ _ _ => trivial)
  have hFc := va_free (wc := []) hD hS hA [] rfl
  refine va_callv (va_runIN (As := []) (rest := [.ref q_8, .int 3, .ref q_1, .ref q_1, .ref xo]) ⟨hx, hb, hml, hown, hts⟩ (c_X2_init l D cy H.size q_8) ⟨va_cnB 0 hts gX11_init_X2_init_n18 rfl rfl rfl (kk_nX11_18 hK) (hts (.initialized RX2) (pc_X11_init wsX11_init_r1 (List.mem_of_getElem? (i := 1) rfl) _ (List.mem_of_getElem? (i := 14) rfl))) (by decide +kernel) ⟨Nat.le_of_ble_eq_true rfl, Nat.le_of_ble_eq_true rfl⟩, rfl, (hts (.instanceMethod yX2_init) (pc_X11_init wsX11_init_r3 (List.mem_of_getElem? (i := 3) rfl) _ (List.mem_of_getElem? (i := 7) rfl)))⟩ ⟨bl_, fun U hU hW => ⟨rfl, by rw [hU], by rw [hU]; exact hPc, kk_mv hW hK, hDw⟩⟩ rfl rfl hl.1 rfl (lv_room (Nat.le_of_ble_eq_true rfl)) dB_36_2_38.2.1.2.2 ⟨Nat.le_of_ble_eq_true rfl, Nat.le_of_ble_eq_true rfl⟩) hS (fun q _ h => hFc q h) hFc (fun u t H locs ht hvm hw hB hz1 hk1 hS => ?_)
  have hP := ro_keep hP hk1
  have hP : va_P D vwCl [ob11_1_ xo 0 0 0 0, aq_ cy 3 q_1 5 (va_up (va_up (va_up (fun _ => none) (0 : Int32).toNatClampNeg (some q_2)) (1 : Int32).toNatClampNeg (some q_4)) (2 : Int32).toNatClampNeg (some q_6)), ob6_0_ q_2, ob5_0_ q_4, ob9_0_ q_6, ob2_0_ q_8] H := hP
  refine va_astqM hx hb hK.1 hP hD hS 1 3 rfl rfl (kk_any2 hK hP 5 rfl) (i := 3) (by unfold vp_in; decide) dB_36_2_38.2.2.1.1 (fun H locs hP hD hS => ?_)
  refine pd_K [ob11_1_ xo 0 0 0 0, aq_ cy 3 q_1 5 (va_up (va_up (va_up (va_up (fun _ => none) (0 : Int32).toNatClampNeg (some q_2)) (1 : Int32).toNatClampNeg (some q_4)) (2 : Int32).toNatClampNeg (some q_6)) (3 : Int32).toNatClampNeg (some q_8)), ob6_0_ q_2, ob5_0_ q_4, ob9_0_ q_6, ob2_0_ q_8] hP hD (fun hP hD => ?_)
  refine lv_dup hx hb dB_36_2_38.2.2.1.2 rfl ?_
  refine lv_iconst (v := 4) hx hb dB_36_2_38.2.2.2.1 (by decide) ?_
  refine va_new (ci := 8) (fs := []) (C := RX8) (T := TX8) (N := 0) hx hb hts (fun _ h => List.mem_cons_of_mem _ (List.mem_append_left _ (List.mem_append_left _ (List.mem_append_left _ (List.mem_append_left _ (List.mem_append_left _ (List.mem_append_left _ (List.mem_append_left _ (List.mem_append_right _ h))))))))) tyX8 tyX8_ok hown (hts (.classLink RX11 19 RX8) (pc_X11_init wsX11_init_r1 (List.mem_of_getElem? (i := 1) rfl) _ (List.mem_of_getElem? (i := 15) rfl))) (hts (.instantiable RX8 0) (pc_X11_init wsX11_init_r1 (List.mem_of_getElem? (i := 1) rfl) _ (List.mem_of_getElem? (i := 16) rfl))) (hts (.initialized RX8) (pc_X11_init wsX11_init_r1 (List.mem_of_getElem? (i := 1) rfl) _ (List.mem_of_getElem? (i := 17) rfl))) hK.1 hP hD hS hA rfl (by decide +kernel) (Nat.le_of_ble_eq_true rfl) (Nat.le_of_ble_eq_true rfl) dB_36_2_38.2.2.2.2 (fun q_10 H hP hD hS => ?_)
  refine pd_K [ob11_1_ xo 0 0 0 0, aq_ cy 3 q_1 5 (va_up (va_up (va_up (va_up (fun _ => none) (0 : Int32).toNatClampNeg (some q_2)) (1 : Int32).toNatClampNeg (some q_4)) (2 : Int32).toNatClampNeg (some q_6)) (3 : Int32).toNatClampNeg (some q_8)), ob6_0_ q_2, ob5_0_ q_4, ob9_0_ q_6, ob2_0_ q_8, ob8_0_ q_10] hP hD (fun hP hD => ?_)
  refine lv_dup hx hb dB_36_2_39.1.1.1.1 rfl ?_
  have hPc := hP.sub (ws' := []) [] rfl
  have hDc := hD.sub (ws' := []) [] (by decide) rfl
  have hDw : va_D (fun _ => True) [] := hDc.weaken (fun _ _ _ _ => trivial)
  have hFc := va_free (wc := []) hD hS hA [] rfl
  refine va_callv (va_runIN (As := []) (rest := [.ref q_10, .int 4, .ref q_1, .ref q_1, .ref xo]) ⟨hx, hb, hml, hown, hts⟩ (c_X8_init l D cy H.size q_10) ⟨va_cnB 0 hts gX11_init_X8_init_n21 rfl rfl rfl (kk_nX11_21 hK) (hts (.initialized RX8) (pc_X11_init wsX11_init_r1 (List.mem_of_getElem? (i := 1) rfl) _ (List.mem_of_getElem? (i := 17) rfl))) (by decide +kernel) ⟨Nat.le_of_ble_eq_true rfl, Nat.le_of_ble_eq_true rfl⟩, rfl, (hts (.instanceMethod yX8_init) (pc_X11_init wsX11_init_r3 (List.mem_of_getElem? (i := 3) rfl) _ (List.mem_of_getElem? (i := 9) rfl)))⟩ ⟨bl_, fun U hU hW => ⟨rfl, by rw [hU], by rw [hU]; exact hPc, kk_mv hW hK, hDw⟩⟩ rfl rfl hl.1 rfl (lv_room (Nat.le_of_ble_eq_true rfl)) dB_36_2_39.1.1.1.2 ⟨Nat.le_of_ble_eq_true rfl, Nat.le_of_ble_eq_true rfl⟩) hS (fun q _ h => hFc q h) hFc (fun u t H locs ht hvm hw hB hz1 hk1 hS => ?_)
  have hP := ro_keep hP hk1
  have hP : va_P D vwCl [ob11_1_ xo 0 0 0 0, aq_ cy 3 q_1 5 (va_up (va_up (va_up (va_up (fun _ => none) (0 : Int32).toNatClampNeg (some q_2)) (1 : Int32).toNatClampNeg (some q_4)) (2 : Int32).toNatClampNeg (some q_6)) (3 : Int32).toNatClampNeg (some q_8)), ob6_0_ q_2, ob5_0_ q_4, ob9_0_ q_6, ob2_0_ q_8, ob8_0_ q_10] H := hP
  refine va_astqM hx hb hK.1 hP hD hS 1 3 rfl rfl (kk_any8 hK hP 6 rfl) (i := 4) (by unfold vp_in; decide) dB_36_2_39.1.1.2.1 (fun H locs hP hD hS => ?_)
  refine pd_K [ob11_1_ xo 0 0 0 0, aq_ cy 3 q_1 5 (va_up (va_up (va_up (va_up (va_up (fun _ => none) (0 : Int32).toNatClampNeg (some q_2)) (1 : Int32).toNatClampNeg (some q_4)) (2 : Int32).toNatClampNeg (some q_6)) (3 : Int32).toNatClampNeg (some q_8)) (4 : Int32).toNatClampNeg (some q_10)), ob6_0_ q_2, ob5_0_ q_4, ob9_0_ q_6, ob2_0_ q_8, ob8_0_ q_10] hP hD (fun hP hD => ?_)
  have ef_ : (va_up (va_up (va_up (va_up (va_up (fun _ => none) (0 : Int32).toNatClampNeg (some q_2)) (1 : Int32).toNatClampNeg (some q_4)) (2 : Int32).toNatClampNeg (some q_6)) (3 : Int32).toNatClampNeg (some q_8)) (4 : Int32).toNatClampNeg (some q_10)) = (kf_ q_2 q_4 q_6 q_8 q_10) := by exact kf_up
  rw [ef_] at hP hD
  clear ef_
  refine va_putF (ci := 11) (v := .ref q_1) (ty := (tyX11 0)) (C := RX11) (T := TX11) (N := 12) hx hb hts (fun _ h => List.mem_cons_of_mem _ (List.mem_append_left _ (List.mem_append_left _ (List.mem_append_left _ (List.mem_append_left _ (List.mem_append_left _ (List.mem_append_left _ (List.mem_append_right _ h)))))))) tyX11 tyX11_ok nmX11 hown hK.1 hP hD hS 0 rfl rfl 0 (by decide) (hts (.fieldLink RX11 22 "CutAtlas" "kinds" "[LCutAtlas$PlainKind;") (pc_X11_init wsX11_init_r1 (List.mem_of_getElem? (i := 1) rfl) _ (List.mem_of_getElem? (i := 18) rfl))) (fun _ h9 => h9) rfl hin rfl (by decide +kernel) rfl rfl (Nat.le_of_ble_eq_true rfl) dB_36_2_39.1.1.2.2 (fun H locs hP hD hS => ?_)
  refine pd_K [ob11_2_ xo q_1 0 0 0 0, aq_ cy 3 q_1 5 (kf_ q_2 q_4 q_6 q_8 q_10), ob6_0_ q_2, ob5_0_ q_4, ob9_0_ q_6, ob2_0_ q_8, ob8_0_ q_10] hP hD (fun hP hD => ?_)
  refine lv_aload_n hx hb dB_36_2_39.1.2.1.1 rfl (lv_at hl 0 rfl) ?_
  refine va_new (ci := 3) (fs := [.int 0, .int 0, .null, .null, .null, .null, .null]) (C := RX3) (T := TX3) (N := 7) hx hb hts (fun _ h => List.mem_cons_of_mem _ (List.mem_append_left _ (List.mem_append_left _ (List.mem_append_left _ (List.mem_append_left _ (List.mem_append_left _ (List.mem_append_right _ h))))))) tyX3 tyX3_ok hown (hts (.classLink RX11 28 RX3) (pc_X11_init wsX11_init_r1 (List.mem_of_getElem? (i := 1) rfl) _ (List.mem_of_getElem? (i := 19) rfl))) (hts (.instantiable RX3 7) (pc_X11_init wsX11_init_r1 (List.mem_of_getElem? (i := 1) rfl) _ (List.mem_of_getElem? (i := 20) rfl))) (hts (.initialized RX3) (pc_X11_init wsX11_init_r1 (List.mem_of_getElem? (i := 1) rfl) _ (List.mem_of_getElem? (i := 21) rfl))) hK.1 hP hD hS hA rfl (by decide +kernel) (Nat.le_of_ble_eq_true rfl) (Nat.le_of_ble_eq_true rfl) dB_36_2_39.1.2.1.2 (fun q_12 H hP hD hS => ?_)
  refine pd_K [ob11_2_ xo q_1 0 0 0 0, aq_ cy 3 q_1 5 (kf_ q_2 q_4 q_6 q_8 q_10), ob6_0_ q_2, ob5_0_ q_4, ob9_0_ q_6, ob2_0_ q_8, ob8_0_ q_10, ob3_1_ q_12 0 0] hP hD (fun hP hD => ?_)
  refine lv_dup hx hb dB_36_2_39.1.2.2.1 rfl ?_
  have hPc := hP.sub (ws' := [ob3_1_ q_12 0 0]) [7] rfl
  have hDc := hD.sub (ws' := [ob3_1_ q_12 0 0]) [7] (by decide) rfl
  have hDw : va_D (fun _ => True) [ob3_1_ q_12 0 0] := hDc.weaken (fun _ _ _ _ => trivial)
  have hFc := va_free (wc := [ob3_1_ q_12 0 0]) hD hS hA [7] rfl
  refine va_callv (va_runIN (As := []) (rest := [.ref q_12, .ref xo]) ⟨hx, hb, hml, hown, hts⟩ (c_X3_init l D cy H.size q_12) ⟨va_cnB 0 hts gX11_init_X3_init_n30 rfl rfl rfl (kk_nX11_30 hK) (hts (.initialized RX3) (pc_X11_init wsX11_init_r1 (List.mem_of_getElem? (i := 1) rfl) _ (List.mem_of_getElem? (i := 21) rfl))) (by decide +kernel) ⟨Nat.le_of_ble_eq_true rfl, Nat.le_of_ble_eq_true rfl⟩, rfl, (hts (.instanceMethod yX3_init) (pc_X11_init wsX11_init_r3 (List.mem_of_getElem? (i := 3) rfl) _ (List.mem_of_getElem? (i := 11) rfl)))⟩ ⟨bl_, fun U hU hW => ⟨rfl, by rw [hU], by rw [hU]; exact hPc, kk_mv hW hK, hDw⟩⟩ rfl rfl hl.1 rfl (lv_room (Nat.le_of_ble_eq_true rfl)) dB_36_2_39.1.2.2.2 ⟨Nat.le_of_ble_eq_true rfl, Nat.le_of_ble_eq_true rfl⟩) hS (fun q _ h => hFc q h) hFc (fun u t H locs ht hvm hw hB hz1 hk1 hS => ?_)
  obtain ⟨n1_14, n2_15, n3_16, n4_17, n5_18, hP1, hD1⟩ := hB
  rw [ht] at hP1
  obtain ⟨hP, hD⟩ := va_join (wr := [ob11_2_ xo q_1 0 0 0 0, aq_ cy 3 q_1 5 (kf_ q_2 q_4 q_6 q_8 q_10), ob6_0_ q_2, ob5_0_ q_4, ob9_0_ q_6, ob2_0_ q_8, ob8_0_ q_10]) (w1 := [ob3_0_ q_12 0 0 n1_14 n2_15 n3_16 n4_17 n5_18, ai_ cy n1_14 40 (fun _ => 0), ai_ cy n2_15 40 (fun _ => 0), ai_ cy n3_16 40 (fun _ => 0), ai_ cy n4_17 40 (fun _ => 0), ai_ cy n5_18 40 (fun _ => 0)]) hP hD [7] [0, 1, 2, 3, 4, 5, 6] rfl rfl (by decide) (by decide) hk1 hFc hP1 hD1
  refine pd_K [ob11_2_ xo q_1 0 0 0 0, aq_ cy 3 q_1 5 (kf_ q_2 q_4 q_6 q_8 q_10), ob6_0_ q_2, ob5_0_ q_4, ob9_0_ q_6, ob2_0_ q_8, ob8_0_ q_10, ob3_0_ q_12 0 0 n1_14 n2_15 n3_16 n4_17 n5_18, ai_ cy n1_14 40 (fun _ => 0), ai_ cy n2_15 40 (fun _ => 0), ai_ cy n3_16 40 (fun _ => 0), ai_ cy n4_17 40 (fun _ => 0), ai_ cy n5_18 40 (fun _ => 0)] hP hD (fun hP hD => ?_)
  refine va_putF (ci := 11) (v := .ref q_12) (ty := (tyX11 1)) (C := RX11) (T := TX11) (N := 12) hx hb hts (fun _ h => List.mem_cons_of_mem _ (List.mem_append_left _ (List.mem_append_left _ (List.mem_append_left _ (List.mem_append_left _ (List.mem_append_left _ (List.mem_append_left _ (List.mem_append_right _ h)))))))) tyX11 tyX11_ok nmX11 hown hK.1 hP hD hS 0 rfl rfl 1 (by decide) (hts (.fieldLink RX11 31 "CutAtlas" "net" "LCutAtlas$Net;") (pc_X11_init wsX11_init_r1 (List.mem_of_getElem? (i := 1) rfl) _ (List.mem_of_getElem? (i := 22) rfl))) (fun _ h9 => h9) rfl hin rfl (by decide +kernel) rfl rfl (Nat.le_of_ble_eq_true rfl) dB_36_2_39.2.1.1.1 (fun H locs hP hD hS => ?_)
  refine pd_K [ob11_3_ xo q_1 q_12 0 0 0 0, aq_ cy 3 q_1 5 (kf_ q_2 q_4 q_6 q_8 q_10), ob6_0_ q_2, ob5_0_ q_4, ob9_0_ q_6, ob2_0_ q_8, ob8_0_ q_10, ob3_0_ q_12 0 0 n1_14 n2_15 n3_16 n4_17 n5_18, ai_ cy n1_14 40 (fun _ => 0), ai_ cy n2_15 40 (fun _ => 0), ai_ cy n3_16 40 (fun _ => 0), ai_ cy n4_17 40 (fun _ => 0), ai_ cy n5_18 40 (fun _ => 0)] hP hD (fun hP hD => ?_)
  refine lv_aload_n hx hb dB_36_2_39.2.1.1.2 rfl (lv_at hl 0 rfl) ?_
  refine va_new (ci := 0) (fs := [.null, .null, .null, .null, .null, .null, .null, .null, .null]) (C := RX0) (T := TX0) (N := 9) hx hb hts (fun _ h => List.mem_cons_of_mem _ (List.mem_append_left _ (List.mem_append_left _ (List.mem_append_left _ (List.mem_append_left _ (List.mem_append_right _ h)))))) tyX0 tyX0_ok hown (hts (.classLink RX11 35 RX0) (pc_X11_init wsX11_init_r1 (List.mem_of_getElem? (i := 1) rfl) _ (List.mem_of_getElem? (i := 23) rfl))) (hts (.instantiable RX0 9) (pc_X11_init wsX11_init_r2 (List.mem_of_getElem? (i := 2) rfl) _ (List.mem_of_getElem? (i := 0) rfl))) (hts (.initialized RX0) (pc_X11_init wsX11_init_r2 (List.mem_of_getElem? (i := 2) rfl) _ (List.mem_of_getElem? (i := 1) rfl))) hK.1 hP hD hS hA rfl (by decide +kernel) (Nat.le_of_ble_eq_true rfl) (Nat.le_of_ble_eq_true rfl) dB_36_2_39.2.1.2.1 (fun q_19 H hP hD hS => ?_)
  refine pd_K [ob11_3_ xo q_1 q_12 0 0 0 0, aq_ cy 3 q_1 5 (kf_ q_2 q_4 q_6 q_8 q_10), ob6_0_ q_2, ob5_0_ q_4, ob9_0_ q_6, ob2_0_ q_8, ob8_0_ q_10, ob3_0_ q_12 0 0 n1_14 n2_15 n3_16 n4_17 n5_18, ai_ cy n1_14 40 (fun _ => 0), ai_ cy n2_15 40 (fun _ => 0), ai_ cy n3_16 40 (fun _ => 0), ai_ cy n4_17 40 (fun _ => 0), ai_ cy n5_18 40 (fun _ => 0), ob0_1_ q_19] hP hD (fun hP hD => ?_)
  refine lv_dup hx hb dB_36_2_39.2.1.2.2 rfl ?_
  refine lv_aload_n hx hb dB_36_2_39.2.2.1.1 rfl (lv_at hl 0 rfl) ?_
  refine va_get (ci := 11) (v := .ref q_12) (C := RX11) (T := TX11) (N := 12) hx hb hts (fun _ h => List.mem_cons_of_mem _ (List.mem_append_left _ (List.mem_append_left _ (List.mem_append_left _ (List.mem_append_left _ (List.mem_append_left _ (List.mem_append_left _ (List.mem_append_right _ h)))))))) hown hK.1 hP 0 rfl rfl 1 (by decide) (hts (.fieldLink RX11 31 "CutAtlas" "net" "LCutAtlas$Net;") (pc_X11_init wsX11_init_r1 (List.mem_of_getElem? (i := 1) rfl) _ (List.mem_of_getElem? (i := 22) rfl))) (fun _ h9 => h9) rfl dB_36_2_39.2.2.1.2 ?_
  refine lv_aload_n hx hb dB_36_2_39.2.2.2.1 rfl (lv_at hl 0 rfl) ?_
  refine va_get (ci := 11) (v := .ref q_1) (C := RX11) (T := TX11) (N := 12) hx hb hts (fun _ h => List.mem_cons_of_mem _ (List.mem_append_left _ (List.mem_append_left _ (List.mem_append_left _ (List.mem_append_left _ (List.mem_append_left _ (List.mem_append_left _ (List.mem_append_right _ h)))))))) hown hK.1 hP 0 rfl rfl 0 (by decide) (hts (.fieldLink RX11 22 "CutAtlas" "kinds" "[LCutAtlas$PlainKind;") (pc_X11_init wsX11_init_r1 (List.mem_of_getElem? (i := 1) rfl) _ (List.mem_of_getElem? (i := 18) rfl))) (fun _ h9 => h9) rfl dB_36_2_39.2.2.2.2 ?_
  have hPc := hP.sub (ws' := [ob0_1_ q_19]) [13] rfl
  have hDc := hD.sub (ws' := [ob0_1_ q_19]) [13] (by decide) rfl
  have hDw : va_D (fun _ => True) [ob0_1_ q_19] := hDc.weaken (fun _ _ _ _ => trivial)
  have hFc := va_free (wc := [ob0_1_ q_19]) hD hS hA [13] rfl
  refine va_callv (va_runI (As := [.ref q_12, .ref q_1]) (rest := [.ref q_19, .ref xo]) ⟨hx, hb, hml, hown, hts⟩ (c_X0_init l D cy H.size q_19 q_12 q_1) (cwI 2 hts gX11_init_X0_init rfl rfl rfl (hts (.initialized RX0) (pc_X11_init wsX11_init_r2 (List.mem_of_getElem? (i := 2) rfl) _ (List.mem_of_getElem? (i := 1) rfl))) (hts (.methodLink RX11 37 yX0_init) (pc_X11_init wsX11_init_r3 (List.mem_of_getElem? (i := 3) rfl) _ (List.mem_of_getElem? (i := 22) rfl))) (hts (.instanceMethod yX0_init) (pc_X11_init wsX11_init_r3 (List.mem_of_getElem? (i := 3) rfl) _ (List.mem_of_getElem? (i := 23) rfl))) rfl (by decide +kernel) ⟨Nat.le_of_ble_eq_true rfl, Nat.le_of_ble_eq_true rfl⟩) ⟨bl_h, fun U hU hW => ⟨rfl, by rw [hU], by rw [hU]; exact hPc, ⟨⟨kk_mv hW hK, arrOfT_moved hW.alike hG⟩, va_RA.moved hW.alike hR6⟩, hDw⟩⟩ rfl rfl hl.1 rfl (lv_room (Nat.le_of_ble_eq_true rfl)) dB_36_2_40.1.1.1.1 ⟨Nat.le_of_ble_eq_true rfl, Nat.le_of_ble_eq_true rfl⟩) hS (fun q _ h => hFc q h) hFc (fun u t H locs ht hvm hw hB hz1 hk1 hS => ?_)
  obtain ⟨clo_21, cro_22, c4_23, c5_24, c6_25, c7_26, c8_27, rl_28, rr_29, Ml_30, Mr_31, hP1, hD1⟩ := hB
  rw [ht] at hP1
  obtain ⟨hP, hD⟩ := va_join (wr := [ob11_3_ xo q_1 q_12 0 0 0 0, aq_ cy 3 q_1 5 (kf_ q_2 q_4 q_6 q_8 q_10), ob6_0_ q_2, ob5_0_ q_4, ob9_0_ q_6, ob2_0_ q_8, ob8_0_ q_10, ob3_0_ q_12 0 0 n1_14 n2_15 n3_16 n4_17 n5_18, ai_ cy n1_14 40 (fun _ => 0), ai_ cy n2_15 40 (fun _ => 0), ai_ cy n3_16 40 (fun _ => 0), ai_ cy n4_17 40 (fun _ => 0), ai_ cy n5_18 40 (fun _ => 0)]) (w1 := [ob0_0_ q_19 q_12 q_1 clo_21 cro_22 c4_23 c5_24 c6_25 c7_26 c8_27, aq_ cy 6 clo_21 12 (gf_ rl_28), ai_ cy (rl_28 0) 12 (Ml_30 0), ai_ cy (rl_28 1) 12 (Ml_30 1), ai_ cy (rl_28 2) 12 (Ml_30 2), ai_ cy (rl_28 3) 12 (Ml_30 3), ai_ cy (rl_28 4) 12 (Ml_30 4), ai_ cy (rl_28 5) 12 (Ml_30 5), ai_ cy (rl_28 6) 12 (Ml_30 6), ai_ cy (rl_28 7) 12 (Ml_30 7), ai_ cy (rl_28 8) 12 (Ml_30 8), ai_ cy (rl_28 9) 12 (Ml_30 9), ai_ cy (rl_28 10) 12 (Ml_30 10), ai_ cy (rl_28 11) 12 (Ml_30 11), aq_ cy 6 cro_22 12 (gf_ rr_29), ai_ cy (rr_29 0) 12 (Mr_31 0), ai_ cy (rr_29 1) 12 (Mr_31 1), ai_ cy (rr_29 2) 12 (Mr_31 2), ai_ cy (rr_29 3) 12 (Mr_31 3), ai_ cy (rr_29 4) 12 (Mr_31 4), ai_ cy (rr_29 5) 12 (Mr_31 5), ai_ cy (rr_29 6) 12 (Mr_31 6), ai_ cy (rr_29 7) 12 (Mr_31 7), ai_ cy (rr_29 8) 12 (Mr_31 8), ai_ cy (rr_29 9) 12 (Mr_31 9), ai_ cy (rr_29 10) 12 (Mr_31 10), ai_ cy (rr_29 11) 12 (Mr_31 11), ai_ cy c4_23 40 (fun _ => 0), ai_ cy c5_24 40 (fun _ => 0), ai_ cy c6_25 40 (fun _ => 0), ai_ cy c7_26 12 (fun _ => 0), ai_ cy c8_27 12 (fun _ => 0)]) hP hD [13] [0, 1, 2, 3, 4, 5, 6, 7, 8, 9, 10, 11, 12] rfl rfl (by decide +kernel) (by decide +kernel) hk1 hFc hP1 hD1
  refine pd_K [ob11_3_ xo q_1 q_12 0 0 0 0, aq_ cy 3 q_1 5 (kf_ q_2 q_4 q_6 q_8 q_10), ob6_0_ q_2, ob5_0_ q_4, ob9_0_ q_6, ob2_0_ q_8, ob8_0_ q_10, ob3_0_ q_12 0 0 n1_14 n2_15 n3_16 n4_17 n5_18, ai_ cy n1_14 40 (fun _ => 0), ai_ cy n2_15 40 (fun _ => 0), ai_ cy n3_16 40 (fun _ => 0), ai_ cy n4_17 40 (fun _ => 0), ai_ cy n5_18 40 (fun _ => 0), ob0_0_ q_19 q_12 q_1 clo_21 cro_22 c4_23 c5_24 c6_25 c7_26 c8_27, aq_ cy 6 clo_21 12 (gf_ rl_28), ai_ cy (rl_28 0) 12 (Ml_30 0), ai_ cy (rl_28 1) 12 (Ml_30 1), ai_ cy (rl_28 2) 12 (Ml_30 2), ai_ cy (rl_28 3) 12 (Ml_30 3), ai_ cy (rl_28 4) 12 (Ml_30 4), ai_ cy (rl_28 5) 12 (Ml_30 5), ai_ cy (rl_28 6) 12 (Ml_30 6), ai_ cy (rl_28 7) 12 (Ml_30 7), ai_ cy (rl_28 8) 12 (Ml_30 8), ai_ cy (rl_28 9) 12 (Ml_30 9), ai_ cy (rl_28 10) 12 (Ml_30 10), ai_ cy (rl_28 11) 12 (Ml_30 11), aq_ cy 6 cro_22 12 (gf_ rr_29), ai_ cy (rr_29 0) 12 (Mr_31 0), ai_ cy (rr_29 1) 12 (Mr_31 1), ai_ cy (rr_29 2) 12 (Mr_31 2), ai_ cy (rr_29 3) 12 (Mr_31 3), ai_ cy (rr_29 4) 12 (Mr_31 4), ai_ cy (rr_29 5) 12 (Mr_31 5), ai_ cy (rr_29 6) 12 (Mr_31 6), ai_ cy (rr_29 7) 12 (Mr_31 7), ai_ cy (rr_29 8) 12 (Mr_31 8), ai_ cy (rr_29 9) 12 (Mr_31 9), ai_ cy (rr_29 10) 12 (Mr_31 10), ai_ cy (rr_29 11) 12 (Mr_31 11), ai_ cy c4_23 40 (fun _ => 0), ai_ cy c5_24 40 (fun _ => 0), ai_ cy c6_25 40 (fun _ => 0), ai_ cy c7_26 12 (fun _ => 0), ai_ cy c8_27 12 (fun _ => 0)] hP hD (fun hP hD => ?_)
  refine va_putF (ci := 11) (v := .ref q_19) (ty := (tyX11 2)) (C := RX11) (T := TX11) (N := 12) hx hb hts (fun _ h => List.mem_cons_of_mem _ (List.mem_append_left _ (List.mem_append_left _ (List.mem_append_left _ (List.mem_append_left _ (List.mem_append_left _ (List.mem_append_left _ (List.mem_append_right _ h)))))))) tyX11 tyX11_ok nmX11 hown hK.1 hP hD hS 0 rfl rfl 2 (by decide) (hts (.fieldLink RX11 40 "CutAtlas" "current" "LCutAtlas$Current;") (pc_X11_init wsX11_init_r2 (List.mem_of_getElem? (i := 2) rfl) _ (List.mem_of_getElem? (i := 2) rfl))) (fun _ h9 => h9) rfl hin rfl (by decide +kernel) rfl rfl (Nat.le_of_ble_eq_true rfl) dB_36_2_40.1.1.1.2 (fun H locs hP hD hS => ?_)
  refine pd_K [ob11_4_ xo q_1 q_12 q_19 0 0 0 0, aq_ cy 3 q_1 5 (kf_ q_2 q_4 q_6 q_8 q_10), ob6_0_ q_2, ob5_0_ q_4, ob9_0_ q_6, ob2_0_ q_8, ob8_0_ q_10, ob3_0_ q_12 0 0 n1_14 n2_15 n3_16 n4_17 n5_18, ai_ cy n1_14 40 (fun _ => 0), ai_ cy n2_15 40 (fun _ => 0), ai_ cy n3_16 40 (fun _ => 0), ai_ cy n4_17 40 (fun _ => 0), ai_ cy n5_18 40 (fun _ => 0), ob0_0_ q_19 q_12 q_1 clo_21 cro_22 c4_23 c5_24 c6_25 c7_26 c8_27, aq_ cy 6 clo_21 12 (gf_ rl_28), ai_ cy (rl_28 0) 12 (Ml_30 0), ai_ cy (rl_28 1) 12 (Ml_30 1), ai_ cy (rl_28 2) 12 (Ml_30 2), ai_ cy (rl_28 3) 12 (Ml_30 3), ai_ cy (rl_28 4) 12 (Ml_30 4), ai_ cy (rl_28 5) 12 (Ml_30 5), ai_ cy (rl_28 6) 12 (Ml_30 6), ai_ cy (rl_28 7) 12 (Ml_30 7), ai_ cy (rl_28 8) 12 (Ml_30 8), ai_ cy (rl_28 9) 12 (Ml_30 9), ai_ cy (rl_28 10) 12 (Ml_30 10), ai_ cy (rl_28 11) 12 (Ml_30 11), aq_ cy 6 cro_22 12 (gf_ rr_29), ai_ cy (rr_29 0) 12 (Mr_31 0), ai_ cy (rr_29 1) 12 (Mr_31 1), ai_ cy (rr_29 2) 12 (Mr_31 2), ai_ cy (rr_29 3) 12 (Mr_31 3), ai_ cy (rr_29 4) 12 (Mr_31 4), ai_ cy (rr_29 5) 12 (Mr_31 5), ai_ cy (rr_29 6) 12 (Mr_31 6), ai_ cy (rr_29 7) 12 (Mr_31 7), ai_ cy (rr_29 8) 12 (Mr_31 8), ai_ cy (rr_29 9) 12 (Mr_31 9), ai_ cy (rr_29 10) 12 (Mr_31 10), ai_ cy (rr_29 11) 12 (Mr_31 11), ai_ cy c4_23 40 (fun _ => 0), ai_ cy c5_24 40 (fun _ => 0), ai_ cy c6_25 40 (fun _ => 0), ai_ cy c7_26 12 (fun _ => 0), ai_ cy c8_27 12 (fun _ => 0)] hP hD (fun hP hD => ?_)
  refine lv_aload_n hx hb dB_36_2_40.1.1.2.1 rfl (lv_at hl 0 rfl) ?_
  refine va_new (ci := 7) (fs := [.null, .int 0, .int 0, .int 0, .int 0, .int 0, .int 0, .int 0, .int 0]) (C := RX7) (T := TX7) (N := 9) hx hb hts (fun _ h => List.mem_cons_of_mem _ (List.mem_append_left _ (List.mem_append_left _ (List.mem_append_left _ (List.mem_append_right _ h))))) tyX7 tyX7_ok hown (hts (.classLink RX11 44 RX7) (pc_X11_init wsX11_init_r2 (List.mem_of_getElem? (i := 2) rfl) _ (List.mem_of_getElem? (i := 3) rfl))) (hts (.instantiable RX7 9) (pc_X11_init wsX11_init_r2 (List.mem_of_getElem? (i := 2) rfl) _ (List.mem_of_getElem? (i := 4) rfl))) (hts (.initialized RX7) (pc_X11_init wsX11_init_r2 (List.mem_of_getElem? (i := 2) rfl) _ (List.mem_of_getElem? (i := 5) rfl))) hK.1 hP hD hS hA rfl (by decide +kernel) (Nat.le_of_ble_eq_true rfl) (Nat.le_of_ble_eq_true rfl) dB_36_2_40.1.1.2.2 (fun q_32 H hP hD hS => ?_)
  refine pd_K [ob11_4_ xo q_1 q_12 q_19 0 0 0 0, aq_ cy 3 q_1 5 (kf_ q_2 q_4 q_6 q_8 q_10), ob6_0_ q_2, ob5_0_ q_4, ob9_0_ q_6, ob2_0_ q_8, ob8_0_ q_10, ob3_0_ q_12 0 0 n1_14 n2_15 n3_16 n4_17 n5_18, ai_ cy n1_14 40 (fun _ => 0), ai_ cy n2_15 40 (fun _ => 0), ai_ cy n3_16 40 (fun _ => 0), ai_ cy n4_17 40 (fun _ => 0), ai_ cy n5_18 40 (fun _ => 0), ob0_0_ q_19 q_12 q_1 clo_21 cro_22 c4_23 c5_24 c6_25 c7_26 c8_27, aq_ cy 6 clo_21 12 (gf_ rl_28), ai_ cy (rl_28 0) 12 (Ml_30 0), ai_ cy (rl_28 1) 12 (Ml_30 1), ai_ cy (rl_28 2) 12 (Ml_30 2), ai_ cy (rl_28 3) 12 (Ml_30 3), ai_ cy (rl_28 4) 12 (Ml_30 4), ai_ cy (rl_28 5) 12 (Ml_30 5), ai_ cy (rl_28 6) 12 (Ml_30 6), ai_ cy (rl_28 7) 12 (Ml_30 7), ai_ cy (rl_28 8) 12 (Ml_30 8), ai_ cy (rl_28 9) 12 (Ml_30 9), ai_ cy (rl_28 10) 12 (Ml_30 10), ai_ cy (rl_28 11) 12 (Ml_30 11), aq_ cy 6 cro_22 12 (gf_ rr_29), ai_ cy (rr_29 0) 12 (Mr_31 0), ai_ cy (rr_29 1) 12 (Mr_31 1), ai_ cy (rr_29 2) 12 (Mr_31 2), ai_ cy (rr_29 3) 12 (Mr_31 3), ai_ cy (rr_29 4) 12 (Mr_31 4), ai_ cy (rr_29 5) 12 (Mr_31 5), ai_ cy (rr_29 6) 12 (Mr_31 6), ai_ cy (rr_29 7) 12 (Mr_31 7), ai_ cy (rr_29 8) 12 (Mr_31 8), ai_ cy (rr_29 9) 12 (Mr_31 9), ai_ cy (rr_29 10) 12 (Mr_31 10), ai_ cy (rr_29 11) 12 (Mr_31 11), ai_ cy c4_23 40 (fun _ => 0), ai_ cy c5_24 40 (fun _ => 0), ai_ cy c6_25 40 (fun _ => 0), ai_ cy c7_26 12 (fun _ => 0), ai_ cy c8_27 12 (fun _ => 0), ob7_1_ q_32 0 0 0 0 0 0 0 0] hP hD (fun hP hD => ?_)
  refine lv_dup hx hb dB_36_2_40.1.2.1.1 rfl ?_
  refine lv_aload_n hx hb dB_36_2_40.1.2.1.2 rfl (lv_at hl 0 rfl) ?_
  refine va_get (ci := 11) (v := .ref q_19) (C := RX11) (T := TX11) (N := 12) hx hb hts (fun _ h => List.mem_cons_of_mem _ (List.mem_append_left _ (List.mem_append_left _ (List.mem_append_left _ (List.mem_append_left _ (List.mem_append_left _ (List.mem_append_left _ (List.mem_append_right _ h)))))))) hown hK.1 hP 0 rfl rfl 2 (by decide) (hts (.fieldLink RX11 40 "CutAtlas" "current" "LCutAtlas$Current;") (pc_X11_init wsX11_init_r2 (List.mem_of_getElem? (i := 2) rfl) _ (List.mem_of_getElem? (i := 2) rfl))) (fun _ h9 => h9) rfl dB_36_2_40.1.2.2.1 ?_
  have hPc := hP.sub (ws' := [ob7_1_ q_32 0 0 0 0 0 0 0 0]) [45] rfl
  have hDc := hD.sub (ws' := [ob7_1_ q_32 0 0 0 0 0 0 0 0]) [45] (by decide) rfl
  have hDw : va_D (fun _ => True) [ob7_1_ q_32 0 0 0 0 0 0 0 0] := hDc.weaken (fun _ _ _ _ => trivial)
  have hFc := va_free (wc := [ob7_1_ q_32 0 0 0 0 0 0 0 0]) hD hS hA [45] rfl
  refine va_callv (va_runI (As := [.ref q_19]) (rest := [.ref q_32, .ref xo]) ⟨hx, hb, hml, hown, hts⟩ (c_X7_init l D cy H.size q_32 q_19) (cwI 1 hts gX11_init_X7_init rfl rfl rfl (hts (.initialized RX7) (pc_X11_init wsX11_init_r2 (List.mem_of_getElem? (i := 2) rfl) _ (List.mem_of_getElem? (i := 5) rfl))) (hts (.methodLink RX11 46 yX7_init) (pc_X11_init wsX11_init_r4 (List.mem_of_getElem? (i := 4) rfl) _ (List.mem_of_getElem? (i := 12) rfl))) (hts (.instanceMethod yX7_init) (pc_X11_init wsX11_init_r4 (List.mem_of_getElem? (i := 4) rfl) _ (List.mem_of_getElem? (i := 13) rfl))) rfl (by decide +kernel) ⟨Nat.le_of_ble_eq_true rfl, Nat.le_of_ble_eq_true rfl⟩) ⟨bl_, fun U hU hW => ⟨rfl, by rw [hU], by rw [hU]; exact hPc, kk_mv hW hK, hDw⟩⟩ rfl rfl hl.1 rfl (lv_room (Nat.le_of_ble_eq_true rfl)) dB_36_2_40.1.2.2.2 ⟨Nat.le_of_ble_eq_true rfl, Nat.le_of_ble_eq_true rfl⟩) hS (fun q _ h => hFc q h) hFc (fun u t H locs ht hvm hw hB hz1 hk1 hS => ?_)
  obtain ⟨hP1, hD1⟩ := hB
  rw [ht] at hP1
  obtain ⟨hP, hD⟩ := va_join (wr := [ob11_4_ xo q_1 q_12 q_19 0 0 0 0, aq_ cy 3 q_1 5 (kf_ q_2 q_4 q_6 q_8 q_10), ob6_0_ q_2, ob5_0_ q_4, ob9_0_ q_6, ob2_0_ q_8, ob8_0_ q_10, ob3_0_ q_12 0 0 n1_14 n2_15 n3_16 n4_17 n5_18, ai_ cy n1_14 40 (fun _ => 0), ai_ cy n2_15 40 (fun _ => 0), ai_ cy n3_16 40 (fun _ => 0), ai_ cy n4_17 40 (fun _ => 0), ai_ cy n5_18 40 (fun _ => 0), ob0_0_ q_19 q_12 q_1 clo_21 cro_22 c4_23 c5_24 c6_25 c7_26 c8_27, aq_ cy 6 clo_21 12 (gf_ rl_28), ai_ cy (rl_28 0) 12 (Ml_30 0), ai_ cy (rl_28 1) 12 (Ml_30 1), ai_ cy (rl_28 2) 12 (Ml_30 2), ai_ cy (rl_28 3) 12 (Ml_30 3), ai_ cy (rl_28 4) 12 (Ml_30 4), ai_ cy (rl_28 5) 12 (Ml_30 5), ai_ cy (rl_28 6) 12 (Ml_30 6), ai_ cy (rl_28 7) 12 (Ml_30 7), ai_ cy (rl_28 8) 12 (Ml_30 8), ai_ cy (rl_28 9) 12 (Ml_30 9), ai_ cy (rl_28 10) 12 (Ml_30 10), ai_ cy (rl_28 11) 12 (Ml_30 11), aq_ cy 6 cro_22 12 (gf_ rr_29), ai_ cy (rr_29 0) 12 (Mr_31 0), ai_ cy (rr_29 1) 12 (Mr_31 1), ai_ cy (rr_29 2) 12 (Mr_31 2), ai_ cy (rr_29 3) 12 (Mr_31 3), ai_ cy (rr_29 4) 12 (Mr_31 4), ai_ cy (rr_29 5) 12 (Mr_31 5), ai_ cy (rr_29 6) 12 (Mr_31 6), ai_ cy (rr_29 7) 12 (Mr_31 7), ai_ cy (rr_29 8) 12 (Mr_31 8), ai_ cy (rr_29 9) 12 (Mr_31 9), ai_ cy (rr_29 10) 12 (Mr_31 10), ai_ cy (rr_29 11) 12 (Mr_31 11), ai_ cy c4_23 40 (fun _ => 0), ai_ cy c5_24 40 (fun _ => 0), ai_ cy c6_25 40 (fun _ => 0), ai_ cy c7_26 12 (fun _ => 0), ai_ cy c8_27 12 (fun _ => 0)]) (w1 := [ob7_0_ q_32 q_19 0 0 0 0 0 0 0 0]) hP hD [45] [0, 1, 2, 3, 4, 5, 6, 7, 8, 9, 10, 11, 12, 13, 14, 15, 16, 17, 18, 19, 20, 21, 22, 23, 24, 25, 26, 27, 28, 29, 30, 31, 32, 33, 34, 35, 36, 37, 38, 39, 40, 41, 42, 43, 44] rfl rfl (by decide +kernel) (by decide +kernel) hk1 hFc hP1 hD1
  refine pd_K [ob11_4_ xo q_1 q_12 q_19 0 0 0 0, aq_ cy 3 q_1 5 (kf_ q_2 q_4 q_6 q_8 q_10), ob6_0_ q_2, ob5_0_ q_4, ob9_0_ q_6, ob2_0_ q_8, ob8_0_ q_10, ob3_0_ q_12 0 0 n1_14 n2_15 n3_16 n4_17 n5_18, ai_ cy n1_14 40 (fun _ => 0), ai_ cy n2_15 40 (fun _ => 0), ai_ cy n3_16 40 (fun _ => 0), ai_ cy n4_17 40 (fun _ => 0), ai_ cy n5_18 40 (fun _ => 0), ob0_0_ q_19 q_12 q_1 clo_21 cro_22 c4_23 c5_24 c6_25 c7_26 c8_27, aq_ cy 6 clo_21 12 (gf_ rl_28), ai_ cy (rl_28 0) 12 (Ml_30 0), ai_ cy (rl_28 1) 12 (Ml_30 1), ai_ cy (rl_28 2) 12 (Ml_30 2), ai_ cy (rl_28 3) 12 (Ml_30 3), ai_ cy (rl_28 4) 12 (Ml_30 4), ai_ cy (rl_28 5) 12 (Ml_30 5), ai_ cy (rl_28 6) 12 (Ml_30 6), ai_ cy (rl_28 7) 12 (Ml_30 7), ai_ cy (rl_28 8) 12 (Ml_30 8), ai_ cy (rl_28 9) 12 (Ml_30 9), ai_ cy (rl_28 10) 12 (Ml_30 10), ai_ cy (rl_28 11) 12 (Ml_30 11), aq_ cy 6 cro_22 12 (gf_ rr_29), ai_ cy (rr_29 0) 12 (Mr_31 0), ai_ cy (rr_29 1) 12 (Mr_31 1), ai_ cy (rr_29 2) 12 (Mr_31 2), ai_ cy (rr_29 3) 12 (Mr_31 3), ai_ cy (rr_29 4) 12 (Mr_31 4), ai_ cy (rr_29 5) 12 (Mr_31 5), ai_ cy (rr_29 6) 12 (Mr_31 6), ai_ cy (rr_29 7) 12 (Mr_31 7), ai_ cy (rr_29 8) 12 (Mr_31 8), ai_ cy (rr_29 9) 12 (Mr_31 9), ai_ cy (rr_29 10) 12 (Mr_31 10), ai_ cy (rr_29 11) 12 (Mr_31 11), ai_ cy c4_23 40 (fun _ => 0), ai_ cy c5_24 40 (fun _ => 0), ai_ cy c6_25 40 (fun _ => 0), ai_ cy c7_26 12 (fun _ => 0), ai_ cy c8_27 12 (fun _ => 0), ob7_0_ q_32 q_19 0 0 0 0 0 0 0 0] hP hD (fun hP hD => ?_)
  refine va_putF (ci := 11) (v := .ref q_32) (ty := (tyX11 3)) (C := RX11) (T := TX11) (N := 12) hx hb hts (fun _ h => List.mem_cons_of_mem _ (List.mem_append_left _ (List.mem_append_left _ (List.mem_append_left _ (List.mem_append_left _ (List.mem_append_left _ (List.mem_append_left _ (List.mem_append_right _ h)))))))) tyX11 tyX11_ok nmX11 hown hK.1 hP hD hS 0 rfl rfl 3 (by decide) (hts (.fieldLink RX11 49 "CutAtlas" "hunt" "LCutAtlas$SetHunt;") (pc_X11_init wsX11_init_r2 (List.mem_of_getElem? (i := 2) rfl) _ (List.mem_of_getElem? (i := 6) rfl))) (fun _ h9 => h9) rfl hin rfl (by decide +kernel) rfl rfl (Nat.le_of_ble_eq_true rfl) dB_36_2_40.2.1.1.1 (fun H locs hP hD hS => ?_)
  refine pd_K [ob11_5_ xo q_1 q_12 q_19 q_32 0 0 0 0, aq_ cy 3 q_1 5 (kf_ q_2 q_4 q_6 q_8 q_10), ob6_0_ q_2, ob5_0_ q_4, ob9_0_ q_6, ob2_0_ q_8, ob8_0_ q_10, ob3_0_ q_12 0 0 n1_14 n2_15 n3_16 n4_17 n5_18, ai_ cy n1_14 40 (fun _ => 0), ai_ cy n2_15 40 (fun _ => 0), ai_ cy n3_16 40 (fun _ => 0), ai_ cy n4_17 40 (fun _ => 0), ai_ cy n5_18 40 (fun _ => 0), ob0_0_ q_19 q_12 q_1 clo_21 cro_22 c4_23 c5_24 c6_25 c7_26 c8_27, aq_ cy 6 clo_21 12 (gf_ rl_28), ai_ cy (rl_28 0) 12 (Ml_30 0), ai_ cy (rl_28 1) 12 (Ml_30 1), ai_ cy (rl_28 2) 12 (Ml_30 2), ai_ cy (rl_28 3) 12 (Ml_30 3), ai_ cy (rl_28 4) 12 (Ml_30 4), ai_ cy (rl_28 5) 12 (Ml_30 5), ai_ cy (rl_28 6) 12 (Ml_30 6), ai_ cy (rl_28 7) 12 (Ml_30 7), ai_ cy (rl_28 8) 12 (Ml_30 8), ai_ cy (rl_28 9) 12 (Ml_30 9), ai_ cy (rl_28 10) 12 (Ml_30 10), ai_ cy (rl_28 11) 12 (Ml_30 11), aq_ cy 6 cro_22 12 (gf_ rr_29), ai_ cy (rr_29 0) 12 (Mr_31 0), ai_ cy (rr_29 1) 12 (Mr_31 1), ai_ cy (rr_29 2) 12 (Mr_31 2), ai_ cy (rr_29 3) 12 (Mr_31 3), ai_ cy (rr_29 4) 12 (Mr_31 4), ai_ cy (rr_29 5) 12 (Mr_31 5), ai_ cy (rr_29 6) 12 (Mr_31 6), ai_ cy (rr_29 7) 12 (Mr_31 7), ai_ cy (rr_29 8) 12 (Mr_31 8), ai_ cy (rr_29 9) 12 (Mr_31 9), ai_ cy (rr_29 10) 12 (Mr_31 10), ai_ cy (rr_29 11) 12 (Mr_31 11), ai_ cy c4_23 40 (fun _ => 0), ai_ cy c5_24 40 (fun _ => 0), ai_ cy c6_25 40 (fun _ => 0), ai_ cy c7_26 12 (fun _ => 0), ai_ cy c8_27 12 (fun _ => 0), ob7_0_ q_32 q_19 0 0 0 0 0 0 0 0] hP hD (fun hP hD => ?_)
  refine lv_aload_n hx hb dB_36_2_40.2.1.1.2 rfl (lv_at hl 0 rfl) ?_
  refine va_new (ci := 1) (fs := [.null, .null, .null]) (C := RX1) (T := TX1) (N := 3) hx hb hts (fun _ h => List.mem_cons_of_mem _ (List.mem_append_left _ (List.mem_append_left _ (List.mem_append_right _ h)))) tyX1 tyX1_ok hown (hts (.classLink RX11 53 RX1) (pc_X11_init wsX11_init_r2 (List.mem_of_getElem? (i := 2) rfl) _ (List.mem_of_getElem? (i := 7) rfl))) (hts (.instantiable RX1 3) (pc_X11_init wsX11_init_r2 (List.mem_of_getElem? (i := 2) rfl) _ (List.mem_of_getElem? (i := 8) rfl))) (hts (.initialized RX1) (pc_X11_init wsX11_init_r2 (List.mem_of_getElem? (i := 2) rfl) _ (List.mem_of_getElem? (i := 9) rfl))) hK.1 hP hD hS hA rfl (by decide +kernel) (Nat.le_of_ble_eq_true rfl) (Nat.le_of_ble_eq_true rfl) dB_36_2_40.2.1.2.1 (fun q_34 H hP hD hS => ?_)
  refine pd_K [ob11_5_ xo q_1 q_12 q_19 q_32 0 0 0 0, aq_ cy 3 q_1 5 (kf_ q_2 q_4 q_6 q_8 q_10), ob6_0_ q_2, ob5_0_ q_4, ob9_0_ q_6, ob2_0_ q_8, ob8_0_ q_10, ob3_0_ q_12 0 0 n1_14 n2_15 n3_16 n4_17 n5_18, ai_ cy n1_14 40 (fun _ => 0), ai_ cy n2_15 40 (fun _ => 0), ai_ cy n3_16 40 (fun _ => 0), ai_ cy n4_17 40 (fun _ => 0), ai_ cy n5_18 40 (fun _ => 0), ob0_0_ q_19 q_12 q_1 clo_21 cro_22 c4_23 c5_24 c6_25 c7_26 c8_27, aq_ cy 6 clo_21 12 (gf_ rl_28), ai_ cy (rl_28 0) 12 (Ml_30 0), ai_ cy (rl_28 1) 12 (Ml_30 1), ai_ cy (rl_28 2) 12 (Ml_30 2), ai_ cy (rl_28 3) 12 (Ml_30 3), ai_ cy (rl_28 4) 12 (Ml_30 4), ai_ cy (rl_28 5) 12 (Ml_30 5), ai_ cy (rl_28 6) 12 (Ml_30 6), ai_ cy (rl_28 7) 12 (Ml_30 7), ai_ cy (rl_28 8) 12 (Ml_30 8), ai_ cy (rl_28 9) 12 (Ml_30 9), ai_ cy (rl_28 10) 12 (Ml_30 10), ai_ cy (rl_28 11) 12 (Ml_30 11), aq_ cy 6 cro_22 12 (gf_ rr_29), ai_ cy (rr_29 0) 12 (Mr_31 0), ai_ cy (rr_29 1) 12 (Mr_31 1), ai_ cy (rr_29 2) 12 (Mr_31 2), ai_ cy (rr_29 3) 12 (Mr_31 3), ai_ cy (rr_29 4) 12 (Mr_31 4), ai_ cy (rr_29 5) 12 (Mr_31 5), ai_ cy (rr_29 6) 12 (Mr_31 6), ai_ cy (rr_29 7) 12 (Mr_31 7), ai_ cy (rr_29 8) 12 (Mr_31 8), ai_ cy (rr_29 9) 12 (Mr_31 9), ai_ cy (rr_29 10) 12 (Mr_31 10), ai_ cy (rr_29 11) 12 (Mr_31 11), ai_ cy c4_23 40 (fun _ => 0), ai_ cy c5_24 40 (fun _ => 0), ai_ cy c6_25 40 (fun _ => 0), ai_ cy c7_26 12 (fun _ => 0), ai_ cy c8_27 12 (fun _ => 0), ob7_0_ q_32 q_19 0 0 0 0 0 0 0 0, ob1_1_ q_34] hP hD (fun hP hD => ?_)
  refine lv_dup hx hb dB_36_2_40.2.1.2.2 rfl ?_
  refine lv_aload_n hx hb dB_36_2_40.2.2.1.1 rfl (lv_at hl 0 rfl) ?_
  refine va_get (ci := 11) (v := .ref q_19) (C := RX11) (T := TX11) (N := 12) hx hb hts (fun _ h => List.mem_cons_of_mem _ (List.mem_append_left _ (List.mem_append_left _ (List.mem_append_left _ (List.mem_append_left _ (List.mem_append_left _ (List.mem_append_left _ (List.mem_append_right _ h)))))))) hown hK.1 hP 0 rfl rfl 2 (by decide) (hts (.fieldLink RX11 40 "CutAtlas" "current" "LCutAtlas$Current;") (pc_X11_init wsX11_init_r2 (List.mem_of_getElem? (i := 2) rfl) _ (List.mem_of_getElem? (i := 2) rfl))) (fun _ h9 => h9) rfl dB_36_2_40.2.2.1.2 ?_
  have hPc := hP.sub (ws' := [ob1_1_ q_34]) [46] rfl
  have hDc := hD.sub (ws' := [ob1_1_ q_34]) [46] (by decide) rfl
  have hDw : va_D (fun _ => True) [ob1_1_ q_34] := hDc.weaken (fun _ _ _ _ => trivial)
  have hFc := va_free (wc := [ob1_1_ q_34]) hD hS hA [46] rfl
  refine va_callv (va_runI (As := [.ref q_19]) (rest := [.ref q_34, .ref xo]) ⟨hx, hb, hml, hown, hts⟩ (c_X1_init l D cy H.size q_34 q_19) (cwI 1 hts gX11_init_X1_init rfl rfl rfl (hts (.initialized RX1) (pc_X11_init wsX11_init_r2 (List.mem_of_getElem? (i := 2) rfl) _ (List.mem_of_getElem? (i := 9) rfl))) (hts (.methodLink RX11 55 yX1_init) (pc_X11_init wsX11_init_r4 (List.mem_of_getElem? (i := 4) rfl) _ (List.mem_of_getElem? (i := 17) rfl))) (hts (.instanceMethod yX1_init) (pc_X11_init wsX11_init_r4 (List.mem_of_getElem? (i := 4) rfl) _ (List.mem_of_getElem? (i := 18) rfl))) rfl (by decide +kernel) ⟨Nat.le_of_ble_eq_true rfl, Nat.le_of_ble_eq_true rfl⟩) ⟨bl_, fun U hU hW => ⟨rfl, by rw [hU], by rw [hU]; exact hPc, kk_mv hW hK, hDw⟩⟩ rfl rfl hl.1 rfl (lv_room (Nat.le_of_ble_eq_true rfl)) dB_36_2_40.2.2.2.1 ⟨Nat.le_of_ble_eq_true rfl, Nat.le_of_ble_eq_true rfl⟩) hS (fun q _ h => hFc q h) hFc (fun u t H locs ht hvm hw hB hz1 hk1 hS => ?_)
  obtain ⟨ta_36, tb_37, hP1, hD1⟩ := hB
  rw [ht] at hP1
  obtain ⟨hP, hD⟩ := va_join (wr := [ob11_5_ xo q_1 q_12 q_19 q_32 0 0 0 0, aq_ cy 3 q_1 5 (kf_ q_2 q_4 q_6 q_8 q_10), ob6_0_ q_2, ob5_0_ q_4, ob9_0_ q_6, ob2_0_ q_8, ob8_0_ q_10, ob3_0_ q_12 0 0 n1_14 n2_15 n3_16 n4_17 n5_18, ai_ cy n1_14 40 (fun _ => 0), ai_ cy n2_15 40 (fun _ => 0), ai_ cy n3_16 40 (fun _ => 0), ai_ cy n4_17 40 (fun _ => 0), ai_ cy n5_18 40 (fun _ => 0), ob0_0_ q_19 q_12 q_1 clo_21 cro_22 c4_23 c5_24 c6_25 c7_26 c8_27, aq_ cy 6 clo_21 12 (gf_ rl_28), ai_ cy (rl_28 0) 12 (Ml_30 0), ai_ cy (rl_28 1) 12 (Ml_30 1), ai_ cy (rl_28 2) 12 (Ml_30 2), ai_ cy (rl_28 3) 12 (Ml_30 3), ai_ cy (rl_28 4) 12 (Ml_30 4), ai_ cy (rl_28 5) 12 (Ml_30 5), ai_ cy (rl_28 6) 12 (Ml_30 6), ai_ cy (rl_28 7) 12 (Ml_30 7), ai_ cy (rl_28 8) 12 (Ml_30 8), ai_ cy (rl_28 9) 12 (Ml_30 9), ai_ cy (rl_28 10) 12 (Ml_30 10), ai_ cy (rl_28 11) 12 (Ml_30 11), aq_ cy 6 cro_22 12 (gf_ rr_29), ai_ cy (rr_29 0) 12 (Mr_31 0), ai_ cy (rr_29 1) 12 (Mr_31 1), ai_ cy (rr_29 2) 12 (Mr_31 2), ai_ cy (rr_29 3) 12 (Mr_31 3), ai_ cy (rr_29 4) 12 (Mr_31 4), ai_ cy (rr_29 5) 12 (Mr_31 5), ai_ cy (rr_29 6) 12 (Mr_31 6), ai_ cy (rr_29 7) 12 (Mr_31 7), ai_ cy (rr_29 8) 12 (Mr_31 8), ai_ cy (rr_29 9) 12 (Mr_31 9), ai_ cy (rr_29 10) 12 (Mr_31 10), ai_ cy (rr_29 11) 12 (Mr_31 11), ai_ cy c4_23 40 (fun _ => 0), ai_ cy c5_24 40 (fun _ => 0), ai_ cy c6_25 40 (fun _ => 0), ai_ cy c7_26 12 (fun _ => 0), ai_ cy c8_27 12 (fun _ => 0), ob7_0_ q_32 q_19 0 0 0 0 0 0 0 0]) (w1 := [ob1_0_ q_34 q_19 ta_36 tb_37, ai_ cy ta_36 12 (fun _ => 0), ai_ cy tb_37 12 (fun _ => 0)]) hP hD [46] [0, 1, 2, 3, 4, 5, 6, 7, 8, 9, 10, 11, 12, 13, 14, 15, 16, 17, 18, 19, 20, 21, 22, 23, 24, 25, 26, 27, 28, 29, 30, 31, 32, 33, 34, 35, 36, 37, 38, 39, 40, 41, 42, 43, 44, 45] rfl rfl (by decide +kernel) (by decide +kernel) hk1 hFc hP1 hD1
  refine pd_K [ob11_5_ xo q_1 q_12 q_19 q_32 0 0 0 0, aq_ cy 3 q_1 5 (kf_ q_2 q_4 q_6 q_8 q_10), ob6_0_ q_2, ob5_0_ q_4, ob9_0_ q_6, ob2_0_ q_8, ob8_0_ q_10, ob3_0_ q_12 0 0 n1_14 n2_15 n3_16 n4_17 n5_18, ai_ cy n1_14 40 (fun _ => 0), ai_ cy n2_15 40 (fun _ => 0), ai_ cy n3_16 40 (fun _ => 0), ai_ cy n4_17 40 (fun _ => 0), ai_ cy n5_18 40 (fun _ => 0), ob0_0_ q_19 q_12 q_1 clo_21 cro_22 c4_23 c5_24 c6_25 c7_26 c8_27, aq_ cy 6 clo_21 12 (gf_ rl_28), ai_ cy (rl_28 0) 12 (Ml_30 0), ai_ cy (rl_28 1) 12 (Ml_30 1), ai_ cy (rl_28 2) 12 (Ml_30 2), ai_ cy (rl_28 3) 12 (Ml_30 3), ai_ cy (rl_28 4) 12 (Ml_30 4), ai_ cy (rl_28 5) 12 (Ml_30 5), ai_ cy (rl_28 6) 12 (Ml_30 6), ai_ cy (rl_28 7) 12 (Ml_30 7), ai_ cy (rl_28 8) 12 (Ml_30 8), ai_ cy (rl_28 9) 12 (Ml_30 9), ai_ cy (rl_28 10) 12 (Ml_30 10), ai_ cy (rl_28 11) 12 (Ml_30 11), aq_ cy 6 cro_22 12 (gf_ rr_29), ai_ cy (rr_29 0) 12 (Mr_31 0), ai_ cy (rr_29 1) 12 (Mr_31 1), ai_ cy (rr_29 2) 12 (Mr_31 2), ai_ cy (rr_29 3) 12 (Mr_31 3), ai_ cy (rr_29 4) 12 (Mr_31 4), ai_ cy (rr_29 5) 12 (Mr_31 5), ai_ cy (rr_29 6) 12 (Mr_31 6), ai_ cy (rr_29 7) 12 (Mr_31 7), ai_ cy (rr_29 8) 12 (Mr_31 8), ai_ cy (rr_29 9) 12 (Mr_31 9), ai_ cy (rr_29 10) 12 (Mr_31 10), ai_ cy (rr_29 11) 12 (Mr_31 11), ai_ cy c4_23 40 (fun _ => 0), ai_ cy c5_24 40 (fun _ => 0), ai_ cy c6_25 40 (fun _ => 0), ai_ cy c7_26 12 (fun _ => 0), ai_ cy c8_27 12 (fun _ => 0), ob7_0_ q_32 q_19 0 0 0 0 0 0 0 0, ob1_0_ q_34 q_19 ta_36 tb_37, ai_ cy ta_36 12 (fun _ => 0), ai_ cy tb_37 12 (fun _ => 0)] hP hD (fun hP hD => ?_)
  refine va_putF (ci := 11) (v := .ref q_34) (ty := (tyX11 4)) (C := RX11) (T := TX11) (N := 12) hx hb hts (fun _ h => List.mem_cons_of_mem _ (List.mem_append_left _ (List.mem_append_left _ (List.mem_append_left _ (List.mem_append_left _ (List.mem_append_left _ (List.mem_append_left _ (List.mem_append_right _ h)))))))) tyX11 tyX11_ok nmX11 hown hK.1 hP hD hS 0 rfl rfl 4 (by decide) (hts (.fieldLink RX11 56 "CutAtlas" "cutTree" "LCutAtlas$CutTree;") (pc_X11_init wsX11_init_r2 (List.mem_of_getElem? (i := 2) rfl) _ (List.mem_of_getElem? (i := 10) rfl))) (fun _ h9 => h9) rfl hin rfl (by decide +kernel) rfl rfl (Nat.le_of_ble_eq_true rfl) dB_36_2_40.2.2.2.2 (fun H locs hP hD hS => ?_)
  refine pd_K [ob11_6_ xo q_1 q_12 q_19 q_32 q_34 0 0 0 0, aq_ cy 3 q_1 5 (kf_ q_2 q_4 q_6 q_8 q_10), ob6_0_ q_2, ob5_0_ q_4, ob9_0_ q_6, ob2_0_ q_8, ob8_0_ q_10, ob3_0_ q_12 0 0 n1_14 n2_15 n3_16 n4_17 n5_18, ai_ cy n1_14 40 (fun _ => 0), ai_ cy n2_15 40 (fun _ => 0), ai_ cy n3_16 40 (fun _ => 0), ai_ cy n4_17 40 (fun _ => 0), ai_ cy n5_18 40 (fun _ => 0), ob0_0_ q_19 q_12 q_1 clo_21 cro_22 c4_23 c5_24 c6_25 c7_26 c8_27, aq_ cy 6 clo_21 12 (gf_ rl_28), ai_ cy (rl_28 0) 12 (Ml_30 0), ai_ cy (rl_28 1) 12 (Ml_30 1), ai_ cy (rl_28 2) 12 (Ml_30 2), ai_ cy (rl_28 3) 12 (Ml_30 3), ai_ cy (rl_28 4) 12 (Ml_30 4), ai_ cy (rl_28 5) 12 (Ml_30 5), ai_ cy (rl_28 6) 12 (Ml_30 6), ai_ cy (rl_28 7) 12 (Ml_30 7), ai_ cy (rl_28 8) 12 (Ml_30 8), ai_ cy (rl_28 9) 12 (Ml_30 9), ai_ cy (rl_28 10) 12 (Ml_30 10), ai_ cy (rl_28 11) 12 (Ml_30 11), aq_ cy 6 cro_22 12 (gf_ rr_29), ai_ cy (rr_29 0) 12 (Mr_31 0), ai_ cy (rr_29 1) 12 (Mr_31 1), ai_ cy (rr_29 2) 12 (Mr_31 2), ai_ cy (rr_29 3) 12 (Mr_31 3), ai_ cy (rr_29 4) 12 (Mr_31 4), ai_ cy (rr_29 5) 12 (Mr_31 5), ai_ cy (rr_29 6) 12 (Mr_31 6), ai_ cy (rr_29 7) 12 (Mr_31 7), ai_ cy (rr_29 8) 12 (Mr_31 8), ai_ cy (rr_29 9) 12 (Mr_31 9), ai_ cy (rr_29 10) 12 (Mr_31 10), ai_ cy (rr_29 11) 12 (Mr_31 11), ai_ cy c4_23 40 (fun _ => 0), ai_ cy c5_24 40 (fun _ => 0), ai_ cy c6_25 40 (fun _ => 0), ai_ cy c7_26 12 (fun _ => 0), ai_ cy c8_27 12 (fun _ => 0), ob7_0_ q_32 q_19 0 0 0 0 0 0 0 0, ob1_0_ q_34 q_19 ta_36 tb_37, ai_ cy ta_36 12 (fun _ => 0), ai_ cy tb_37 12 (fun _ => 0)] hP hD (fun hP hD => ?_)
  refine lv_aload_n hx hb dB_36_2_41.1.1.1.1 rfl (lv_at hl 0 rfl) ?_
  refine va_new (ci := 10) (fs := [.null, .null, .null, .null, .null]) (C := RX10) (T := TX10) (N := 5) hx hb hts (fun _ h => List.mem_cons_of_mem _ (List.mem_append_left _ (List.mem_append_right _ h))) tyX10 tyX10_ok hown (hts (.classLink RX11 60 RX10) (pc_X11_init wsX11_init_r2 (List.mem_of_getElem? (i := 2) rfl) _ (List.mem_of_getElem? (i := 11) rfl))) (hts (.instantiable RX10 5) (pc_X11_init wsX11_init_r2 (List.mem_of_getElem? (i := 2) rfl) _ (List.mem_of_getElem? (i := 12) rfl))) (hts (.initialized RX10) (pc_X11_init wsX11_init_r2 (List.mem_of_getElem? (i := 2) rfl) _ (List.mem_of_getElem? (i := 13) rfl))) hK.1 hP hD hS hA rfl (by decide +kernel) (Nat.le_of_ble_eq_true rfl) (Nat.le_of_ble_eq_true rfl) dB_36_2_41.1.1.1.2 (fun q_38 H hP hD hS => ?_)
  refine pd_K [ob11_6_ xo q_1 q_12 q_19 q_32 q_34 0 0 0 0, aq_ cy 3 q_1 5 (kf_ q_2 q_4 q_6 q_8 q_10), ob6_0_ q_2, ob5_0_ q_4, ob9_0_ q_6, ob2_0_ q_8, ob8_0_ q_10, ob3_0_ q_12 0 0 n1_14 n2_15 n3_16 n4_17 n5_18, ai_ cy n1_14 40 (fun _ => 0), ai_ cy n2_15 40 (fun _ => 0), ai_ cy n3_16 40 (fun _ => 0), ai_ cy n4_17 40 (fun _ => 0), ai_ cy n5_18 40 (fun _ => 0), ob0_0_ q_19 q_12 q_1 clo_21 cro_22 c4_23 c5_24 c6_25 c7_26 c8_27, aq_ cy 6 clo_21 12 (gf_ rl_28), ai_ cy (rl_28 0) 12 (Ml_30 0), ai_ cy (rl_28 1) 12 (Ml_30 1), ai_ cy (rl_28 2) 12 (Ml_30 2), ai_ cy (rl_28 3) 12 (Ml_30 3), ai_ cy (rl_28 4) 12 (Ml_30 4), ai_ cy (rl_28 5) 12 (Ml_30 5), ai_ cy (rl_28 6) 12 (Ml_30 6), ai_ cy (rl_28 7) 12 (Ml_30 7), ai_ cy (rl_28 8) 12 (Ml_30 8), ai_ cy (rl_28 9) 12 (Ml_30 9), ai_ cy (rl_28 10) 12 (Ml_30 10), ai_ cy (rl_28 11) 12 (Ml_30 11), aq_ cy 6 cro_22 12 (gf_ rr_29), ai_ cy (rr_29 0) 12 (Mr_31 0), ai_ cy (rr_29 1) 12 (Mr_31 1), ai_ cy (rr_29 2) 12 (Mr_31 2), ai_ cy (rr_29 3) 12 (Mr_31 3), ai_ cy (rr_29 4) 12 (Mr_31 4), ai_ cy (rr_29 5) 12 (Mr_31 5), ai_ cy (rr_29 6) 12 (Mr_31 6), ai_ cy (rr_29 7) 12 (Mr_31 7), ai_ cy (rr_29 8) 12 (Mr_31 8), ai_ cy (rr_29 9) 12 (Mr_31 9), ai_ cy (rr_29 10) 12 (Mr_31 10), ai_ cy (rr_29 11) 12 (Mr_31 11), ai_ cy c4_23 40 (fun _ => 0), ai_ cy c5_24 40 (fun _ => 0), ai_ cy c6_25 40 (fun _ => 0), ai_ cy c7_26 12 (fun _ => 0), ai_ cy c8_27 12 (fun _ => 0), ob7_0_ q_32 q_19 0 0 0 0 0 0 0 0, ob1_0_ q_34 q_19 ta_36 tb_37, ai_ cy ta_36 12 (fun _ => 0), ai_ cy tb_37 12 (fun _ => 0), ob10_1_ q_38] hP hD (fun hP hD => ?_)
  refine lv_dup hx hb dB_36_2_41.1.1.2.1 rfl ?_
  refine lv_aload_n hx hb dB_36_2_41.1.1.2.2 rfl (lv_at hl 0 rfl) ?_
  refine va_get (ci := 11) (v := .ref q_19) (C := RX11) (T := TX11) (N := 12) hx hb hts (fun _ h => List.mem_cons_of_mem _ (List.mem_append_left _ (List.mem_append_left _ (List.mem_append_left _ (List.mem_append_left _ (List.mem_append_left _ (List.mem_append_left _ (List.mem_append_right _ h)))))))) hown hK.1 hP 0 rfl rfl 2 (by decide) (hts (.fieldLink RX11 40 "CutAtlas" "current" "LCutAtlas$Current;") (pc_X11_init wsX11_init_r2 (List.mem_of_getElem? (i := 2) rfl) _ (List.mem_of_getElem? (i := 2) rfl))) (fun _ h9 => h9) rfl dB_36_2_41.1.2.1.1 ?_
  refine lv_aload_n hx hb dB_36_2_41.1.2.1.2 rfl (lv_at hl 0 rfl) ?_
  refine va_get (ci := 11) (v := .ref q_1) (C := RX11) (T := TX11) (N := 12) hx hb hts (fun _ h => List.mem_cons_of_mem _ (List.mem_append_left _ (List.mem_append_left _ (List.mem_append_left _ (List.mem_append_left _ (List.mem_append_left _ (List.mem_append_left _ (List.mem_append_right _ h)))))))) hown hK.1 hP 0 rfl rfl 0 (by decide) (hts (.fieldLink RX11 22 "CutAtlas" "kinds" "[LCutAtlas$PlainKind;") (pc_X11_init wsX11_init_r1 (List.mem_of_getElem? (i := 1) rfl) _ (List.mem_of_getElem? (i := 18) rfl))) (fun _ h9 => h9) rfl dB_36_2_41.1.2.2.1 ?_
  have hPc := hP.sub (ws' := [ob10_1_ q_38]) [49] rfl
  have hDc := hD.sub (ws' := [ob10_1_ q_38]) [49] (by decide) rfl
  have hDw : va_D (fun _ => True) [ob10_1_ q_38] := hDc.weaken (fun _ _ _ _ => trivial)
  have hFc := va_free (wc := [ob10_1_ q_38]) hD hS hA [49] rfl
  refine va_callv (va_runI (As := [.ref q_19, .ref q_1]) (rest := [.ref q_38, .ref xo]) ⟨hx, hb, hml, hown, hts⟩ (c_X10_init l D cy H.size q_38 q_19 q_1) (cwI 2 hts gX11_init_X10_init rfl rfl rfl (hts (.initialized RX10) (pc_X11_init wsX11_init_r2 (List.mem_of_getElem? (i := 2) rfl) _ (List.mem_of_getElem? (i := 13) rfl))) (hts (.methodLink RX11 62 yX10_init) (pc_X11_init wsX11_init_r5 (List.mem_of_getElem? (i := 5) rfl) _ (List.mem_of_getElem? (i := 0) rfl))) (hts (.instanceMethod yX10_init) (pc_X11_init wsX11_init_r5 (List.mem_of_getElem? (i := 5) rfl) _ (List.mem_of_getElem? (i := 1) rfl))) rfl (by decide +kernel) ⟨Nat.le_of_ble_eq_true rfl, Nat.le_of_ble_eq_true rfl⟩) ⟨bl_h, fun U hU hW => ⟨rfl, by rw [hU], by rw [hU]; exact hPc, ⟨⟨kk_mv hW hK, arrOfT_moved hW.alike hG⟩, va_RA.moved hW.alike hR6⟩, hDw⟩⟩ rfl rfl hl.1 rfl (lv_room (Nat.le_of_ble_eq_true rfl)) dB_36_2_41.1.2.2.2 ⟨Nat.le_of_ble_eq_true rfl, Nat.le_of_ble_eq_true rfl⟩) hS (fun q _ h => hFc q h) hFc (fun u t H locs ht hvm hw hB hz1 hk1 hS => ?_)
  obtain ⟨wpo_40, wc_41, wf_42, rp_43, Mp_44, hP1, hD1⟩ := hB
  rw [ht] at hP1
  obtain ⟨hP, hD⟩ := va_join (wr := [ob11_6_ xo q_1 q_12 q_19 q_32 q_34 0 0 0 0, aq_ cy 3 q_1 5 (kf_ q_2 q_4 q_6 q_8 q_10), ob6_0_ q_2, ob5_0_ q_4, ob9_0_ q_6, ob2_0_ q_8, ob8_0_ q_10, ob3_0_ q_12 0 0 n1_14 n2_15 n3_16 n4_17 n5_18, ai_ cy n1_14 40 (fun _ => 0), ai_ cy n2_15 40 (fun _ => 0), ai_ cy n3_16 40 (fun _ => 0), ai_ cy n4_17 40 (fun _ => 0), ai_ cy n5_18 40 (fun _ => 0), ob0_0_ q_19 q_12 q_1 clo_21 cro_22 c4_23 c5_24 c6_25 c7_26 c8_27, aq_ cy 6 clo_21 12 (gf_ rl_28), ai_ cy (rl_28 0) 12 (Ml_30 0), ai_ cy (rl_28 1) 12 (Ml_30 1), ai_ cy (rl_28 2) 12 (Ml_30 2), ai_ cy (rl_28 3) 12 (Ml_30 3), ai_ cy (rl_28 4) 12 (Ml_30 4), ai_ cy (rl_28 5) 12 (Ml_30 5), ai_ cy (rl_28 6) 12 (Ml_30 6), ai_ cy (rl_28 7) 12 (Ml_30 7), ai_ cy (rl_28 8) 12 (Ml_30 8), ai_ cy (rl_28 9) 12 (Ml_30 9), ai_ cy (rl_28 10) 12 (Ml_30 10), ai_ cy (rl_28 11) 12 (Ml_30 11), aq_ cy 6 cro_22 12 (gf_ rr_29), ai_ cy (rr_29 0) 12 (Mr_31 0), ai_ cy (rr_29 1) 12 (Mr_31 1), ai_ cy (rr_29 2) 12 (Mr_31 2), ai_ cy (rr_29 3) 12 (Mr_31 3), ai_ cy (rr_29 4) 12 (Mr_31 4), ai_ cy (rr_29 5) 12 (Mr_31 5), ai_ cy (rr_29 6) 12 (Mr_31 6), ai_ cy (rr_29 7) 12 (Mr_31 7), ai_ cy (rr_29 8) 12 (Mr_31 8), ai_ cy (rr_29 9) 12 (Mr_31 9), ai_ cy (rr_29 10) 12 (Mr_31 10), ai_ cy (rr_29 11) 12 (Mr_31 11), ai_ cy c4_23 40 (fun _ => 0), ai_ cy c5_24 40 (fun _ => 0), ai_ cy c6_25 40 (fun _ => 0), ai_ cy c7_26 12 (fun _ => 0), ai_ cy c8_27 12 (fun _ => 0), ob7_0_ q_32 q_19 0 0 0 0 0 0 0 0, ob1_0_ q_34 q_19 ta_36 tb_37, ai_ cy ta_36 12 (fun _ => 0), ai_ cy tb_37 12 (fun _ => 0)]) (w1 := [ob10_0_ q_38 q_19 q_1 wpo_40 wc_41 wf_42, aq_ cy 6 wpo_40 12 (gf_ rp_43), ai_ cy (rp_43 0) 12 (Mp_44 0), ai_ cy (rp_43 1) 12 (Mp_44 1), ai_ cy (rp_43 2) 12 (Mp_44 2), ai_ cy (rp_43 3) 12 (Mp_44 3), ai_ cy (rp_43 4) 12 (Mp_44 4), ai_ cy (rp_43 5) 12 (Mp_44 5), ai_ cy (rp_43 6) 12 (Mp_44 6), ai_ cy (rp_43 7) 12 (Mp_44 7), ai_ cy (rp_43 8) 12 (Mp_44 8), ai_ cy (rp_43 9) 12 (Mp_44 9), ai_ cy (rp_43 10) 12 (Mp_44 10), ai_ cy (rp_43 11) 12 (Mp_44 11), ai_ cy wc_41 12 (fun _ => 0), ai_ cy wf_42 12 (fun _ => 0)]) hP hD [49] [0, 1, 2, 3, 4, 5, 6, 7, 8, 9, 10, 11, 12, 13, 14, 15, 16, 17, 18, 19, 20, 21, 22, 23, 24, 25, 26, 27, 28, 29, 30, 31, 32, 33, 34, 35, 36, 37, 38, 39, 40, 41, 42, 43, 44, 45, 46, 47, 48] rfl rfl (by decide +kernel) (by decide +kernel) hk1 hFc hP1 hD1
  refine pd_K [ob11_6_ xo q_1 q_12 q_19 q_32 q_34 0 0 0 0, aq_ cy 3 q_1 5 (kf_ q_2 q_4 q_6 q_8 q_10), ob6_0_ q_2, ob5_0_ q_4, ob9_0_ q_6, ob2_0_ q_8, ob8_0_ q_10, ob3_0_ q_12 0 0 n1_14 n2_15 n3_16 n4_17 n5_18, ai_ cy n1_14 40 (fun _ => 0), ai_ cy n2_15 40 (fun _ => 0), ai_ cy n3_16 40 (fun _ => 0), ai_ cy n4_17 40 (fun _ => 0), ai_ cy n5_18 40 (fun _ => 0), ob0_0_ q_19 q_12 q_1 clo_21 cro_22 c4_23 c5_24 c6_25 c7_26 c8_27, aq_ cy 6 clo_21 12 (gf_ rl_28), ai_ cy (rl_28 0) 12 (Ml_30 0), ai_ cy (rl_28 1) 12 (Ml_30 1), ai_ cy (rl_28 2) 12 (Ml_30 2), ai_ cy (rl_28 3) 12 (Ml_30 3), ai_ cy (rl_28 4) 12 (Ml_30 4), ai_ cy (rl_28 5) 12 (Ml_30 5), ai_ cy (rl_28 6) 12 (Ml_30 6), ai_ cy (rl_28 7) 12 (Ml_30 7), ai_ cy (rl_28 8) 12 (Ml_30 8), ai_ cy (rl_28 9) 12 (Ml_30 9), ai_ cy (rl_28 10) 12 (Ml_30 10), ai_ cy (rl_28 11) 12 (Ml_30 11), aq_ cy 6 cro_22 12 (gf_ rr_29), ai_ cy (rr_29 0) 12 (Mr_31 0), ai_ cy (rr_29 1) 12 (Mr_31 1), ai_ cy (rr_29 2) 12 (Mr_31 2), ai_ cy (rr_29 3) 12 (Mr_31 3), ai_ cy (rr_29 4) 12 (Mr_31 4), ai_ cy (rr_29 5) 12 (Mr_31 5), ai_ cy (rr_29 6) 12 (Mr_31 6), ai_ cy (rr_29 7) 12 (Mr_31 7), ai_ cy (rr_29 8) 12 (Mr_31 8), ai_ cy (rr_29 9) 12 (Mr_31 9), ai_ cy (rr_29 10) 12 (Mr_31 10), ai_ cy (rr_29 11) 12 (Mr_31 11), ai_ cy c4_23 40 (fun _ => 0), ai_ cy c5_24 40 (fun _ => 0), ai_ cy c6_25 40 (fun _ => 0), ai_ cy c7_26 12 (fun _ => 0), ai_ cy c8_27 12 (fun _ => 0), ob7_0_ q_32 q_19 0 0 0 0 0 0 0 0, ob1_0_ q_34 q_19 ta_36 tb_37, ai_ cy ta_36 12 (fun _ => 0), ai_ cy tb_37 12 (fun _ => 0), ob10_0_ q_38 q_19 q_1 wpo_40 wc_41 wf_42, aq_ cy 6 wpo_40 12 (gf_ rp_43), ai_ cy (rp_43 0) 12 (Mp_44 0), ai_ cy (rp_43 1) 12 (Mp_44 1), ai_ cy (rp_43 2) 12 (Mp_44 2), ai_ cy (rp_43 3) 12 (Mp_44 3), ai_ cy (rp_43 4) 12 (Mp_44 4), ai_ cy (rp_43 5) 12 (Mp_44 5), ai_ cy (rp_43 6) 12 (Mp_44 6), ai_ cy (rp_43 7) 12 (Mp_44 7), ai_ cy (rp_43 8) 12 (Mp_44 8), ai_ cy (rp_43 9) 12 (Mp_44 9), ai_ cy (rp_43 10) 12 (Mp_44 10), ai_ cy (rp_43 11) 12 (Mp_44 11), ai_ cy wc_41 12 (fun _ => 0), ai_ cy wf_42 12 (fun _ => 0)] hP hD (fun hP hD => ?_)
  refine va_putF (ci := 11) (v := .ref q_38) (ty := (tyX11 5)) (C := RX11) (T := TX11) (N := 12) hx hb hts (fun _ h => List.mem_cons_of_mem _ (List.mem_append_left _ (List.mem_append_left _ (List.mem_append_left _ (List.mem_append_left _ (List.mem_append_left _ (List.mem_append_left _ (List.mem_append_right _ h)))))))) tyX11 tyX11_ok nmX11 hown hK.1 hP hD hS 0 rfl rfl 5 (by decide) (hts (.fieldLink RX11 65 "CutAtlas" "widening" "LCutAtlas$Widening;") (pc_X11_init wsX11_init_r2 (List.mem_of_getElem? (i := 2) rfl) _ (List.mem_of_getElem? (i := 14) rfl))) (fun _ h9 => h9) rfl hin rfl (by decide +kernel) rfl rfl (Nat.le_of_ble_eq_true rfl) dB_36_2_41.2.1.1.1 (fun H locs hP hD hS => ?_)
  refine pd_K [ob11_7_ xo q_1 q_12 q_19 q_32 q_34 q_38 0 0 0 0, aq_ cy 3 q_1 5 (kf_ q_2 q_4 q_6 q_8 q_10), ob6_0_ q_2, ob5_0_ q_4, ob9_0_ q_6, ob2_0_ q_8, ob8_0_ q_10, ob3_0_ q_12 0 0 n1_14 n2_15 n3_16 n4_17 n5_18, ai_ cy n1_14 40 (fun _ => 0), ai_ cy n2_15 40 (fun _ => 0), ai_ cy n3_16 40 (fun _ => 0), ai_ cy n4_17 40 (fun _ => 0), ai_ cy n5_18 40 (fun _ => 0), ob0_0_ q_19 q_12 q_1 clo_21 cro_22 c4_23 c5_24 c6_25 c7_26 c8_27, aq_ cy 6 clo_21 12 (gf_ rl_28), ai_ cy (rl_28 0) 12 (Ml_30 0), ai_ cy (rl_28 1) 12 (Ml_30 1), ai_ cy (rl_28 2) 12 (Ml_30 2), ai_ cy (rl_28 3) 12 (Ml_30 3), ai_ cy (rl_28 4) 12 (Ml_30 4), ai_ cy (rl_28 5) 12 (Ml_30 5), ai_ cy (rl_28 6) 12 (Ml_30 6), ai_ cy (rl_28 7) 12 (Ml_30 7), ai_ cy (rl_28 8) 12 (Ml_30 8), ai_ cy (rl_28 9) 12 (Ml_30 9), ai_ cy (rl_28 10) 12 (Ml_30 10), ai_ cy (rl_28 11) 12 (Ml_30 11), aq_ cy 6 cro_22 12 (gf_ rr_29), ai_ cy (rr_29 0) 12 (Mr_31 0), ai_ cy (rr_29 1) 12 (Mr_31 1), ai_ cy (rr_29 2) 12 (Mr_31 2), ai_ cy (rr_29 3) 12 (Mr_31 3), ai_ cy (rr_29 4) 12 (Mr_31 4), ai_ cy (rr_29 5) 12 (Mr_31 5), ai_ cy (rr_29 6) 12 (Mr_31 6), ai_ cy (rr_29 7) 12 (Mr_31 7), ai_ cy (rr_29 8) 12 (Mr_31 8), ai_ cy (rr_29 9) 12 (Mr_31 9), ai_ cy (rr_29 10) 12 (Mr_31 10), ai_ cy (rr_29 11) 12 (Mr_31 11), ai_ cy c4_23 40 (fun _ => 0), ai_ cy c5_24 40 (fun _ => 0), ai_ cy c6_25 40 (fun _ => 0), ai_ cy c7_26 12 (fun _ => 0), ai_ cy c8_27 12 (fun _ => 0), ob7_0_ q_32 q_19 0 0 0 0 0 0 0 0, ob1_0_ q_34 q_19 ta_36 tb_37, ai_ cy ta_36 12 (fun _ => 0), ai_ cy tb_37 12 (fun _ => 0), ob10_0_ q_38 q_19 q_1 wpo_40 wc_41 wf_42, aq_ cy 6 wpo_40 12 (gf_ rp_43), ai_ cy (rp_43 0) 12 (Mp_44 0), ai_ cy (rp_43 1) 12 (Mp_44 1), ai_ cy (rp_43 2) 12 (Mp_44 2), ai_ cy (rp_43 3) 12 (Mp_44 3), ai_ cy (rp_43 4) 12 (Mp_44 4), ai_ cy (rp_43 5) 12 (Mp_44 5), ai_ cy (rp_43 6) 12 (Mp_44 6), ai_ cy (rp_43 7) 12 (Mp_44 7), ai_ cy (rp_43 8) 12 (Mp_44 8), ai_ cy (rp_43 9) 12 (Mp_44 9), ai_ cy (rp_43 10) 12 (Mp_44 10), ai_ cy (rp_43 11) 12 (Mp_44 11), ai_ cy wc_41 12 (fun _ => 0), ai_ cy wf_42 12 (fun _ => 0)] hP hD (fun hP hD => ?_)
  refine lv_aload_n hx hb dB_36_2_41.2.1.1.2 rfl (lv_at hl 0 rfl) ?_
  refine lv_iconst (v := 4) hx hb dB_36_2_41.2.1.2.1 (by decide) ?_
  refine nw_q hx hb hown (hts (.classLink RX11 69 RX4) (pc_X11_init wsX11_init_r2 (List.mem_of_getElem? (i := 2) rfl) _ (List.mem_of_getElem? (i := 15) rfl))) (kk_ao4 hK) hK.1 4 rfl hP hD hS hA (by decide) (by decide : _ = 4) (by decide) (Nat.le_of_ble_eq_true rfl) (Nat.le_of_ble_eq_true rfl) dB_36_2_41.2.1.2.2 (fun q_45 H hP hD hS => ?_)
  refine pd_K [ob11_7_ xo q_1 q_12 q_19 q_32 q_34 q_38 0 0 0 0, aq_ cy 3 q_1 5 (kf_ q_2 q_4 q_6 q_8 q_10), ob6_0_ q_2, ob5_0_ q_4, ob9_0_ q_6, ob2_0_ q_8, ob8_0_ q_10, ob3_0_ q_12 0 0 n1_14 n2_15 n3_16 n4_17 n5_18, ai_ cy n1_14 40 (fun _ => 0), ai_ cy n2_15 40 (fun _ => 0), ai_ cy n3_16 40 (fun _ => 0), ai_ cy n4_17 40 (fun _ => 0), ai_ cy n5_18 40 (fun _ => 0), ob0_0_ q_19 q_12 q_1 clo_21 cro_22 c4_23 c5_24 c6_25 c7_26 c8_27, aq_ cy 6 clo_21 12 (gf_ rl_28), ai_ cy (rl_28 0) 12 (Ml_30 0), ai_ cy (rl_28 1) 12 (Ml_30 1), ai_ cy (rl_28 2) 12 (Ml_30 2), ai_ cy (rl_28 3) 12 (Ml_30 3), ai_ cy (rl_28 4) 12 (Ml_30 4), ai_ cy (rl_28 5) 12 (Ml_30 5), ai_ cy (rl_28 6) 12 (Ml_30 6), ai_ cy (rl_28 7) 12 (Ml_30 7), ai_ cy (rl_28 8) 12 (Ml_30 8), ai_ cy (rl_28 9) 12 (Ml_30 9), ai_ cy (rl_28 10) 12 (Ml_30 10), ai_ cy (rl_28 11) 12 (Ml_30 11), aq_ cy 6 cro_22 12 (gf_ rr_29), ai_ cy (rr_29 0) 12 (Mr_31 0), ai_ cy (rr_29 1) 12 (Mr_31 1), ai_ cy (rr_29 2) 12 (Mr_31 2), ai_ cy (rr_29 3) 12 (Mr_31 3), ai_ cy (rr_29 4) 12 (Mr_31 4), ai_ cy (rr_29 5) 12 (Mr_31 5), ai_ cy (rr_29 6) 12 (Mr_31 6), ai_ cy (rr_29 7) 12 (Mr_31 7), ai_ cy (rr_29 8) 12 (Mr_31 8), ai_ cy (rr_29 9) 12 (Mr_31 9), ai_ cy (rr_29 10) 12 (Mr_31 10), ai_ cy (rr_29 11) 12 (Mr_31 11), ai_ cy c4_23 40 (fun _ => 0), ai_ cy c5_24 40 (fun _ => 0), ai_ cy c6_25 40 (fun _ => 0), ai_ cy c7_26 12 (fun _ => 0), ai_ cy c8_27 12 (fun _ => 0), ob7_0_ q_32 q_19 0 0 0 0 0 0 0 0, ob1_0_ q_34 q_19 ta_36 tb_37, ai_ cy ta_36 12 (fun _ => 0), ai_ cy tb_37 12 (fun _ => 0), ob10_0_ q_38 q_19 q_1 wpo_40 wc_41 wf_42, aq_ cy 6 wpo_40 12 (gf_ rp_43), ai_ cy (rp_43 0) 12 (Mp_44 0), ai_ cy (rp_43 1) 12 (Mp_44 1), ai_ cy (rp_43 2) 12 (Mp_44 2), ai_ cy (rp_43 3) 12 (Mp_44 3), ai_ cy (rp_43 4) 12 (Mp_44 4), ai_ cy (rp_43 5) 12 (Mp_44 5), ai_ cy (rp_43 6) 12 (Mp_44 6), ai_ cy (rp_43 7) 12 (Mp_44 7), ai_ cy (rp_43 8) 12 (Mp_44 8), ai_ cy (rp_43 9) 12 (Mp_44 9), ai_ cy (rp_43 10) 12 (Mp_44 10), ai_ cy (rp_43 11) 12 (Mp_44 11), ai_ cy wc_41 12 (fun _ => 0), ai_ cy wf_42 12 (fun _ => 0), aq_ cy 4 q_45 4 (fun _ => none)] hP hD (fun hP hD => ?_)
  refine lv_dup hx hb dB_36_2_41.2.2.1.1 rfl ?_
  refine lv_iconst (v := 0) hx hb dB_36_2_41.2.2.1.2 (by decide) ?_
  refine va_new (ci := 4) (fs := [.int 0, .int 0, .null, .null]) (C := RX4) (T := TX4) (N := 4) hx hb hts (fun _ h => List.mem_cons_of_mem _ (List.mem_append_right _ h)) tyX4 tyX4_ok hown (hts (.classLink RX11 69 RX4) (pc_X11_init wsX11_init_r2 (List.mem_of_getElem? (i := 2) rfl) _ (List.mem_of_getElem? (i := 15) rfl))) (hts (.instantiable RX4 4) (pc_X11_init wsX11_init_r2 (List.mem_of_getElem? (i := 2) rfl) _ (List.mem_of_getElem? (i := 16) rfl))) (hts (.initialized RX4) (pc_X11_init wsX11_init_r2 (List.mem_of_getElem? (i := 2) rfl) _ (List.mem_of_getElem? (i := 17) rfl))) hK.1 hP hD hS hA rfl (by decide +kernel) (Nat.le_of_ble_eq_true rfl) (Nat.le_of_ble_eq_true rfl) dB_36_2_41.2.2.2.1 (fun q_46 H hP hD hS => ?_)
  refine pd_K [ob11_7_ xo q_1 q_12 q_19 q_32 q_34 q_38 0 0 0 0, aq_ cy 3 q_1 5 (kf_ q_2 q_4 q_6 q_8 q_10), ob6_0_ q_2, ob5_0_ q_4, ob9_0_ q_6, ob2_0_ q_8, ob8_0_ q_10, ob3_0_ q_12 0 0 n1_14 n2_15 n3_16 n4_17 n5_18, ai_ cy n1_14 40 (fun _ => 0), ai_ cy n2_15 40 (fun _ => 0), ai_ cy n3_16 40 (fun _ => 0), ai_ cy n4_17 40 (fun _ => 0), ai_ cy n5_18 40 (fun _ => 0), ob0_0_ q_19 q_12 q_1 clo_21 cro_22 c4_23 c5_24 c6_25 c7_26 c8_27, aq_ cy 6 clo_21 12 (gf_ rl_28), ai_ cy (rl_28 0) 12 (Ml_30 0), ai_ cy (rl_28 1) 12 (Ml_30 1), ai_ cy (rl_28 2) 12 (Ml_30 2), ai_ cy (rl_28 3) 12 (Ml_30 3), ai_ cy (rl_28 4) 12 (Ml_30 4), ai_ cy (rl_28 5) 12 (Ml_30 5), ai_ cy (rl_28 6) 12 (Ml_30 6), ai_ cy (rl_28 7) 12 (Ml_30 7), ai_ cy (rl_28 8) 12 (Ml_30 8), ai_ cy (rl_28 9) 12 (Ml_30 9), ai_ cy (rl_28 10) 12 (Ml_30 10), ai_ cy (rl_28 11) 12 (Ml_30 11), aq_ cy 6 cro_22 12 (gf_ rr_29), ai_ cy (rr_29 0) 12 (Mr_31 0), ai_ cy (rr_29 1) 12 (Mr_31 1), ai_ cy (rr_29 2) 12 (Mr_31 2), ai_ cy (rr_29 3) 12 (Mr_31 3), ai_ cy (rr_29 4) 12 (Mr_31 4), ai_ cy (rr_29 5) 12 (Mr_31 5), ai_ cy (rr_29 6) 12 (Mr_31 6), ai_ cy (rr_29 7) 12 (Mr_31 7), ai_ cy (rr_29 8) 12 (Mr_31 8), ai_ cy (rr_29 9) 12 (Mr_31 9), ai_ cy (rr_29 10) 12 (Mr_31 10), ai_ cy (rr_29 11) 12 (Mr_31 11), ai_ cy c4_23 40 (fun _ => 0), ai_ cy c5_24 40 (fun _ => 0), ai_ cy c6_25 40 (fun _ => 0), ai_ cy c7_26 12 (fun _ => 0), ai_ cy c8_27 12 (fun _ => 0), ob7_0_ q_32 q_19 0 0 0 0 0 0 0 0, ob1_0_ q_34 q_19 ta_36 tb_37, ai_ cy ta_36 12 (fun _ => 0), ai_ cy tb_37 12 (fun _ => 0), ob10_0_ q_38 q_19 q_1 wpo_40 wc_41 wf_42, aq_ cy 6 wpo_40 12 (gf_ rp_43), ai_ cy (rp_43 0) 12 (Mp_44 0), ai_ cy (rp_43 1) 12 (Mp_44 1), ai_ cy (rp_43 2) 12 (Mp_44 2), ai_ cy (rp_43 3) 12 (Mp_44 3), ai_ cy (rp_43 4) 12 (Mp_44 4), ai_ cy (rp_43 5) 12 (Mp_44 5), ai_ cy (rp_43 6) 12 (Mp_44 6), ai_ cy (rp_43 7) 12 (Mp_44 7), ai_ cy (rp_43 8) 12 (Mp_44 8), ai_ cy (rp_43 9) 12 (Mp_44 9), ai_ cy (rp_43 10) 12 (Mp_44 10), ai_ cy (rp_43 11) 12 (Mp_44 11), ai_ cy wc_41 12 (fun _ => 0), ai_ cy wf_42 12 (fun _ => 0), aq_ cy 4 q_45 4 (fun _ => none), ob4_1_ q_46 0 0] hP hD (fun hP hD => ?_)
  refine lv_dup hx hb dB_36_2_41.2.2.2.2 rfl ?_
  have hPc := hP.sub (ws' := [ob4_1_ q_46 0 0]) [66] rfl
  have hDc := hD.sub (ws' := [ob4_1_ q_46 0 0]) [66] (by decide) rfl
  have hDw : va_D (fun _ => True) [ob4_1_ q_46 0 0] := hDc.weaken (fun _ _ _ _ => trivial)
  have hFc := va_free (wc := [ob4_1_ q_46 0 0]) hD hS hA [66] rfl
  refine va_callv (va_runIN (As := []) (rest := [.ref q_46, .int 0, .ref q_45, .ref q_45, .ref xo]) ⟨hx, hb, hml, hown, hts⟩ (c_X4_init l D cy H.size q_46) ⟨va_cnB 0 hts gX11_init_X4_init_n71 rfl rfl rfl (kk_nX11_71 hK) (hts (.initialized RX4) (pc_X11_init wsX11_init_r2 (List.mem_of_getElem? (i := 2) rfl) _ (List.mem_of_getElem? (i := 17) rfl))) (by decide +kernel) ⟨Nat.le_of_ble_eq_true rfl, Nat.le_of_ble_eq_true rfl⟩, rfl, (hts (.instanceMethod yX4_init) (pc_X11_init wsX11_init_r5 (List.mem_of_getElem? (i := 5) rfl) _ (List.mem_of_getElem? (i := 10) rfl)))⟩ ⟨bl_, fun U hU hW => ⟨rfl, by rw [hU], by rw [hU]; exact hPc, kk_mv hW hK, hDw⟩⟩ rfl rfl hl.1 rfl (lv_room (Nat.le_of_ble_eq_true rfl)) dB_36_2_42.1.1.1.1 ⟨Nat.le_of_ble_eq_true rfl, Nat.le_of_ble_eq_true rfl⟩) hS (fun q _ h => hFc q h) hFc (fun u t H locs ht hvm hw hB hz1 hk1 hS => ?_)
  obtain ⟨l1_48, l2_49, hP1, hD1⟩ := hB
  rw [ht] at hP1
  obtain ⟨hP, hD⟩ := va_join (wr := [ob11_7_ xo q_1 q_12 q_19 q_32 q_34 q_38 0 0 0 0, aq_ cy 3 q_1 5 (kf_ q_2 q_4 q_6 q_8 q_10), ob6_0_ q_2, ob5_0_ q_4, ob9_0_ q_6, ob2_0_ q_8, ob8_0_ q_10, ob3_0_ q_12 0 0 n1_14 n2_15 n3_16 n4_17 n5_18, ai_ cy n1_14 40 (fun _ => 0), ai_ cy n2_15 40 (fun _ => 0), ai_ cy n3_16 40 (fun _ => 0), ai_ cy n4_17 40 (fun _ => 0), ai_ cy n5_18 40 (fun _ => 0), ob0_0_ q_19 q_12 q_1 clo_21 cro_22 c4_23 c5_24 c6_25 c7_26 c8_27, aq_ cy 6 clo_21 12 (gf_ rl_28), ai_ cy (rl_28 0) 12 (Ml_30 0), ai_ cy (rl_28 1) 12 (Ml_30 1), ai_ cy (rl_28 2) 12 (Ml_30 2), ai_ cy (rl_28 3) 12 (Ml_30 3), ai_ cy (rl_28 4) 12 (Ml_30 4), ai_ cy (rl_28 5) 12 (Ml_30 5), ai_ cy (rl_28 6) 12 (Ml_30 6), ai_ cy (rl_28 7) 12 (Ml_30 7), ai_ cy (rl_28 8) 12 (Ml_30 8), ai_ cy (rl_28 9) 12 (Ml_30 9), ai_ cy (rl_28 10) 12 (Ml_30 10), ai_ cy (rl_28 11) 12 (Ml_30 11), aq_ cy 6 cro_22 12 (gf_ rr_29), ai_ cy (rr_29 0) 12 (Mr_31 0), ai_ cy (rr_29 1) 12 (Mr_31 1), ai_ cy (rr_29 2) 12 (Mr_31 2), ai_ cy (rr_29 3) 12 (Mr_31 3), ai_ cy (rr_29 4) 12 (Mr_31 4), ai_ cy (rr_29 5) 12 (Mr_31 5), ai_ cy (rr_29 6) 12 (Mr_31 6), ai_ cy (rr_29 7) 12 (Mr_31 7), ai_ cy (rr_29 8) 12 (Mr_31 8), ai_ cy (rr_29 9) 12 (Mr_31 9), ai_ cy (rr_29 10) 12 (Mr_31 10), ai_ cy (rr_29 11) 12 (Mr_31 11), ai_ cy c4_23 40 (fun _ => 0), ai_ cy c5_24 40 (fun _ => 0), ai_ cy c6_25 40 (fun _ => 0), ai_ cy c7_26 12 (fun _ => 0), ai_ cy c8_27 12 (fun _ => 0), ob7_0_ q_32 q_19 0 0 0 0 0 0 0 0, ob1_0_ q_34 q_19 ta_36 tb_37, ai_ cy ta_36 12 (fun _ => 0), ai_ cy tb_37 12 (fun _ => 0), ob10_0_ q_38 q_19 q_1 wpo_40 wc_41 wf_42, aq_ cy 6 wpo_40 12 (gf_ rp_43), ai_ cy (rp_43 0) 12 (Mp_44 0), ai_ cy (rp_43 1) 12 (Mp_44 1), ai_ cy (rp_43 2) 12 (Mp_44 2), ai_ cy (rp_43 3) 12 (Mp_44 3), ai_ cy (rp_43 4) 12 (Mp_44 4), ai_ cy (rp_43 5) 12 (Mp_44 5), ai_ cy (rp_43 6) 12 (Mp_44 6), ai_ cy (rp_43 7) 12 (Mp_44 7), ai_ cy (rp_43 8) 12 (Mp_44 8), ai_ cy (rp_43 9) 12 (Mp_44 9), ai_ cy (rp_43 10) 12 (Mp_44 10), ai_ cy (rp_43 11) 12 (Mp_44 11), ai_ cy wc_41 12 (fun _ => 0), ai_ cy wf_42 12 (fun _ => 0), aq_ cy 4 q_45 4 (fun _ => none)]) (w1 := [ob4_0_ q_46 0 (-9) l1_48 l2_49, ai_ cy l1_48 6 (fun _ => 0), aj_ cy l2_49 30 (fun _ => 0)]) hP hD [66] [0, 1, 2, 3, 4, 5, 6, 7, 8, 9, 10, 11, 12, 13, 14, 15, 16, 17, 18, 19, 20, 21, 22, 23, 24, 25, 26, 27, 28, 29, 30, 31, 32, 33, 34, 35, 36, 37, 38, 39, 40, 41, 42, 43, 44, 45, 46, 47, 48, 49, 50, 51, 52, 53, 54, 55, 56, 57, 58, 59, 60, 61, 62, 63, 64, 65] rfl rfl (by decide +kernel) (by decide +kernel) hk1 hFc hP1 hD1
  refine pd_K [ob11_7_ xo q_1 q_12 q_19 q_32 q_34 q_38 0 0 0 0, aq_ cy 3 q_1 5 (kf_ q_2 q_4 q_6 q_8 q_10), ob6_0_ q_2, ob5_0_ q_4, ob9_0_ q_6, ob2_0_ q_8, ob8_0_ q_10, ob3_0_ q_12 0 0 n1_14 n2_15 n3_16 n4_17 n5_18, ai_ cy n1_14 40 (fun _ => 0), ai_ cy n2_15 40 (fun _ => 0), ai_ cy n3_16 40 (fun _ => 0), ai_ cy n4_17 40 (fun _ => 0), ai_ cy n5_18 40 (fun _ => 0), ob0_0_ q_19 q_12 q_1 clo_21 cro_22 c4_23 c5_24 c6_25 c7_26 c8_27, aq_ cy 6 clo_21 12 (gf_ rl_28), ai_ cy (rl_28 0) 12 (Ml_30 0), ai_ cy (rl_28 1) 12 (Ml_30 1), ai_ cy (rl_28 2) 12 (Ml_30 2), ai_ cy (rl_28 3) 12 (Ml_30 3), ai_ cy (rl_28 4) 12 (Ml_30 4), ai_ cy (rl_28 5) 12 (Ml_30 5), ai_ cy (rl_28 6) 12 (Ml_30 6), ai_ cy (rl_28 7) 12 (Ml_30 7), ai_ cy (rl_28 8) 12 (Ml_30 8), ai_ cy (rl_28 9) 12 (Ml_30 9), ai_ cy (rl_28 10) 12 (Ml_30 10), ai_ cy (rl_28 11) 12 (Ml_30 11), aq_ cy 6 cro_22 12 (gf_ rr_29), ai_ cy (rr_29 0) 12 (Mr_31 0), ai_ cy (rr_29 1) 12 (Mr_31 1), ai_ cy (rr_29 2) 12 (Mr_31 2), ai_ cy (rr_29 3) 12 (Mr_31 3), ai_ cy (rr_29 4) 12 (Mr_31 4), ai_ cy (rr_29 5) 12 (Mr_31 5), ai_ cy (rr_29 6) 12 (Mr_31 6), ai_ cy (rr_29 7) 12 (Mr_31 7), ai_ cy (rr_29 8) 12 (Mr_31 8), ai_ cy (rr_29 9) 12 (Mr_31 9), ai_ cy (rr_29 10) 12 (Mr_31 10), ai_ cy (rr_29 11) 12 (Mr_31 11), ai_ cy c4_23 40 (fun _ => 0), ai_ cy c5_24 40 (fun _ => 0), ai_ cy c6_25 40 (fun _ => 0), ai_ cy c7_26 12 (fun _ => 0), ai_ cy c8_27 12 (fun _ => 0), ob7_0_ q_32 q_19 0 0 0 0 0 0 0 0, ob1_0_ q_34 q_19 ta_36 tb_37, ai_ cy ta_36 12 (fun _ => 0), ai_ cy tb_37 12 (fun _ => 0), ob10_0_ q_38 q_19 q_1 wpo_40 wc_41 wf_42, aq_ cy 6 wpo_40 12 (gf_ rp_43), ai_ cy (rp_43 0) 12 (Mp_44 0), ai_ cy (rp_43 1) 12 (Mp_44 1), ai_ cy (rp_43 2) 12 (Mp_44 2), ai_ cy (rp_43 3) 12 (Mp_44 3), ai_ cy (rp_43 4) 12 (Mp_44 4), ai_ cy (rp_43 5) 12 (Mp_44 5), ai_ cy (rp_43 6) 12 (Mp_44 6), ai_ cy (rp_43 7) 12 (Mp_44 7), ai_ cy (rp_43 8) 12 (Mp_44 8), ai_ cy (rp_43 9) 12 (Mp_44 9), ai_ cy (rp_43 10) 12 (Mp_44 10), ai_ cy (rp_43 11) 12 (Mp_44 11), ai_ cy wc_41 12 (fun _ => 0), ai_ cy wf_42 12 (fun _ => 0), aq_ cy 4 q_45 4 (fun _ => none), ob4_0_ q_46 0 (-9) l1_48 l2_49, ai_ cy l1_48 6 (fun _ => 0), aj_ cy l2_49 30 (fun _ => 0)] hP hD (fun hP hD => ?_)
  refine va_astq hx hb hK.1 hP hD hS 65 4 66 4 rfl rfl rfl rfl (i := 0) (by unfold vp_in; decide) dB_36_2_42.1.1.1.2 (fun H locs hP hD hS => ?_)
  refine pd_K [ob11_7_ xo q_1 q_12 q_19 q_32 q_34 q_38 0 0 0 0, aq_ cy 3 q_1 5 (kf_ q_2 q_4 q_6 q_8 q_10), ob6_0_ q_2, ob5_0_ q_4, ob9_0_ q_6, ob2_0_ q_8, ob8_0_ q_10, ob3_0_ q_12 0 0 n1_14 n2_15 n3_16 n4_17 n5_18, ai_ cy n1_14 40 (fun _ => 0), ai_ cy n2_15 40 (fun _ => 0), ai_ cy n3_16 40 (fun _ => 0), ai_ cy n4_17 40 (fun _ => 0), ai_ cy n5_18 40 (fun _ => 0), ob0_0_ q_19 q_12 q_1 clo_21 cro_22 c4_23 c5_24 c6_25 c7_26 c8_27, aq_ cy 6 clo_21 12 (gf_ rl_28), ai_ cy (rl_28 0) 12 (Ml_30 0), ai_ cy (rl_28 1) 12 (Ml_30 1), ai_ cy (rl_28 2) 12 (Ml_30 2), ai_ cy (rl_28 3) 12 (Ml_30 3), ai_ cy (rl_28 4) 12 (Ml_30 4), ai_ cy (rl_28 5) 12 (Ml_30 5), ai_ cy (rl_28 6) 12 (Ml_30 6), ai_ cy (rl_28 7) 12 (Ml_30 7), ai_ cy (rl_28 8) 12 (Ml_30 8), ai_ cy (rl_28 9) 12 (Ml_30 9), ai_ cy (rl_28 10) 12 (Ml_30 10), ai_ cy (rl_28 11) 12 (Ml_30 11), aq_ cy 6 cro_22 12 (gf_ rr_29), ai_ cy (rr_29 0) 12 (Mr_31 0), ai_ cy (rr_29 1) 12 (Mr_31 1), ai_ cy (rr_29 2) 12 (Mr_31 2), ai_ cy (rr_29 3) 12 (Mr_31 3), ai_ cy (rr_29 4) 12 (Mr_31 4), ai_ cy (rr_29 5) 12 (Mr_31 5), ai_ cy (rr_29 6) 12 (Mr_31 6), ai_ cy (rr_29 7) 12 (Mr_31 7), ai_ cy (rr_29 8) 12 (Mr_31 8), ai_ cy (rr_29 9) 12 (Mr_31 9), ai_ cy (rr_29 10) 12 (Mr_31 10), ai_ cy (rr_29 11) 12 (Mr_31 11), ai_ cy c4_23 40 (fun _ => 0), ai_ cy c5_24 40 (fun _ => 0), ai_ cy c6_25 40 (fun _ => 0), ai_ cy c7_26 12 (fun _ => 0), ai_ cy c8_27 12 (fun _ => 0), ob7_0_ q_32 q_19 0 0 0 0 0 0 0 0, ob1_0_ q_34 q_19 ta_36 tb_37, ai_ cy ta_36 12 (fun _ => 0), ai_ cy tb_37 12 (fun _ => 0), ob10_0_ q_38 q_19 q_1 wpo_40 wc_41 wf_42, aq_ cy 6 wpo_40 12 (gf_ rp_43), ai_ cy (rp_43 0) 12 (Mp_44 0), ai_ cy (rp_43 1) 12 (Mp_44 1), ai_ cy (rp_43 2) 12 (Mp_44 2), ai_ cy (rp_43 3) 12 (Mp_44 3), ai_ cy (rp_43 4) 12 (Mp_44 4), ai_ cy (rp_43 5) 12 (Mp_44 5), ai_ cy (rp_43 6) 12 (Mp_44 6), ai_ cy (rp_43 7) 12 (Mp_44 7), ai_ cy (rp_43 8) 12 (Mp_44 8), ai_ cy (rp_43 9) 12 (Mp_44 9), ai_ cy (rp_43 10) 12 (Mp_44 10), ai_ cy (rp_43 11) 12 (Mp_44 11), ai_ cy wc_41 12 (fun _ => 0), ai_ cy wf_42 12 (fun _ => 0), aq_ cy 4 q_45 4 (va_up (fun _ => none) (0 : Int32).toNatClampNeg (some q_46)), ob4_0_ q_46 0 (-9) l1_48 l2_49, ai_ cy l1_48 6 (fun _ => 0), aj_ cy l2_49 30 (fun _ => 0)] hP hD (fun hP hD => ?_)
  refine lv_dup hx hb dB_36_2_42.1.1.2.1 rfl ?_
  refine lv_iconst (v := 1) hx hb dB_36_2_42.1.1.2.2 (by decide) ?_
  refine va_new (ci := 4) (fs := [.int 0, .int 0, .null, .null]) (C := RX4) (T := TX4) (N := 4) hx hb hts (fun _ h => List.mem_cons_of_mem _ (List.mem_append_right _ h)) tyX4 tyX4_ok hown (hts (.classLink RX11 69 RX4) (pc_X11_init wsX11_init_r2 (List.mem_of_getElem? (i := 2) rfl) _ (List.mem_of_getElem? (i := 15) rfl))) (hts (.instantiable RX4 4) (pc_X11_init wsX11_init_r2 (List.mem_of_getElem? (i := 2) rfl) _ (List.mem_of_getElem? (i := 16) rfl))) (hts (.initialized RX4) (pc_X11_init wsX11_init_r2 (List.mem_of_getElem? (i := 2) rfl) _ (List.mem_of_getElem? (i := 17) rfl))) hK.1 hP hD hS hA rfl (by decide +kernel) (Nat.le_of_ble_eq_true rfl) (Nat.le_of_ble_eq_true rfl) dB_36_2_42.1.2.1.1 (fun q_50 H hP hD hS => ?_)
  refine pd_K [ob11_7_ xo q_1 q_12 q_19 q_32 q_34 q_38 0 0 0 0, aq_ cy 3 q_1 5 (kf_ q_2 q_4 q_6 q_8 q_10), ob6_0_ q_2, ob5_0_ q_4, ob9_0_ q_6, ob2_0_ q_8, ob8_0_ q_10, ob3_0_ q_12 0 0 n1_14 n2_15 n3_16 n4_17 n5_18, ai_ cy n1_14 40 (fun _ => 0), ai_ cy n2_15 40 (fun _ => 0), ai_ cy n3_16 40 (fun _ => 0), ai_ cy n4_17 40 (fun _ => 0), ai_ cy n5_18 40 (fun _ => 0), ob0_0_ q_19 q_12 q_1 clo_21 cro_22 c4_23 c5_24 c6_25 c7_26 c8_27, aq_ cy 6 clo_21 12 (gf_ rl_28), ai_ cy (rl_28 0) 12 (Ml_30 0), ai_ cy (rl_28 1) 12 (Ml_30 1), ai_ cy (rl_28 2) 12 (Ml_30 2), ai_ cy (rl_28 3) 12 (Ml_30 3), ai_ cy (rl_28 4) 12 (Ml_30 4), ai_ cy (rl_28 5) 12 (Ml_30 5), ai_ cy (rl_28 6) 12 (Ml_30 6), ai_ cy (rl_28 7) 12 (Ml_30 7), ai_ cy (rl_28 8) 12 (Ml_30 8), ai_ cy (rl_28 9) 12 (Ml_30 9), ai_ cy (rl_28 10) 12 (Ml_30 10), ai_ cy (rl_28 11) 12 (Ml_30 11), aq_ cy 6 cro_22 12 (gf_ rr_29), ai_ cy (rr_29 0) 12 (Mr_31 0), ai_ cy (rr_29 1) 12 (Mr_31 1), ai_ cy (rr_29 2) 12 (Mr_31 2), ai_ cy (rr_29 3) 12 (Mr_31 3), ai_ cy (rr_29 4) 12 (Mr_31 4), ai_ cy (rr_29 5) 12 (Mr_31 5), ai_ cy (rr_29 6) 12 (Mr_31 6), ai_ cy (rr_29 7) 12 (Mr_31 7), ai_ cy (rr_29 8) 12 (Mr_31 8), ai_ cy (rr_29 9) 12 (Mr_31 9), ai_ cy (rr_29 10) 12 (Mr_31 10), ai_ cy (rr_29 11) 12 (Mr_31 11), ai_ cy c4_23 40 (fun _ => 0), ai_ cy c5_24 40 (fun _ => 0), ai_ cy c6_25 40 (fun _ => 0), ai_ cy c7_26 12 (fun _ => 0), ai_ cy c8_27 12 (fun _ => 0), ob7_0_ q_32 q_19 0 0 0 0 0 0 0 0, ob1_0_ q_34 q_19 ta_36 tb_37, ai_ cy ta_36 12 (fun _ => 0), ai_ cy tb_37 12 (fun _ => 0), ob10_0_ q_38 q_19 q_1 wpo_40 wc_41 wf_42, aq_ cy 6 wpo_40 12 (gf_ rp_43), ai_ cy (rp_43 0) 12 (Mp_44 0), ai_ cy (rp_43 1) 12 (Mp_44 1), ai_ cy (rp_43 2) 12 (Mp_44 2), ai_ cy (rp_43 3) 12 (Mp_44 3), ai_ cy (rp_43 4) 12 (Mp_44 4), ai_ cy (rp_43 5) 12 (Mp_44 5), ai_ cy (rp_43 6) 12 (Mp_44 6), ai_ cy (rp_43 7) 12 (Mp_44 7), ai_ cy (rp_43 8) 12 (Mp_44 8), ai_ cy (rp_43 9) 12 (Mp_44 9), ai_ cy (rp_43 10) 12 (Mp_44 10), ai_ cy (rp_43 11) 12 (Mp_44 11), ai_ cy wc_41 12 (fun _ => 0), ai_ cy wf_42 12 (fun _ => 0), aq_ cy 4 q_45 4 (va_up (fun _ => none) (0 : Int32).toNatClampNeg (some q_46)), ob4_0_ q_46 0 (-9) l1_48 l2_49, ai_ cy l1_48 6 (fun _ => 0), aj_ cy l2_49 30 (fun _ => 0), ob4_1_ q_50 0 0] hP hD (fun hP hD => ?_)
  refine lv_dup hx hb dB_36_2_42.1.2.1.2 rfl ?_
  have hPc := hP.sub (ws' := [ob4_1_ q_50 0 0]) [69] rfl
  have hDc := hD.sub (ws' := [ob4_1_ q_50 0 0]) [69] (by decide) rfl
  have hDw : va_D (fun _ => True) [ob4_1_ q_50 0 0] := hDc.weaken (fun _ _ _ _ => trivial)
  have hFc := va_free (wc := [ob4_1_ q_50 0 0]) hD hS hA [69] rfl
  refine va_callv (va_runIN (As := []) (rest := [.ref q_50, .int 1, .ref q_45, .ref q_45, .ref xo]) ⟨hx, hb, hml, hown, hts⟩ (c_X4_init l D cy H.size q_50) ⟨va_cnB 0 hts gX11_init_X4_init_n71 rfl rfl rfl (kk_nX11_71 hK) (hts (.initialized RX4) (pc_X11_init wsX11_init_r2 (List.mem_of_getElem? (i := 2) rfl) _ (List.mem_of_getElem? (i := 17) rfl))) (by decide +kernel) ⟨Nat.le_of_ble_eq_true rfl, Nat.le_of_ble_eq_true rfl⟩, rfl, (hts (.instanceMethod yX4_init) (pc_X11_init wsX11_init_r5 (List.mem_of_getElem? (i := 5) rfl) _ (List.mem_of_getElem? (i := 10) rfl)))⟩ ⟨bl_, fun U hU hW => ⟨rfl, by rw [hU], by rw [hU]; exact hPc, kk_mv hW hK, hDw⟩⟩ rfl rfl hl.1 rfl (lv_room (Nat.le_of_ble_eq_true rfl)) dB_36_2_42.1.2.2.1 ⟨Nat.le_of_ble_eq_true rfl, Nat.le_of_ble_eq_true rfl⟩) hS (fun q _ h => hFc q h) hFc (fun u t H locs ht hvm hw hB hz1 hk1 hS => ?_)
  obtain ⟨l1_52, l2_53, hP1, hD1⟩ := hB
  rw [ht] at hP1
  obtain ⟨hP, hD⟩ := va_join (wr := [ob11_7_ xo q_1 q_12 q_19 q_32 q_34 q_38 0 0 0 0, aq_ cy 3 q_1 5 (kf_ q_2 q_4 q_6 q_8 q_10), ob6_0_ q_2, ob5_0_ q_4, ob9_0_ q_6, ob2_0_ q_8, ob8_0_ q_10, ob3_0_ q_12 0 0 n1_14 n2_15 n3_16 n4_17 n5_18, ai_ cy n1_14 40 (fun _ => 0), ai_ cy n2_15 40 (fun _ => 0), ai_ cy n3_16 40 (fun _ => 0), ai_ cy n4_17 40 (fun _ => 0), ai_ cy n5_18 40 (fun _ => 0), ob0_0_ q_19 q_12 q_1 clo_21 cro_22 c4_23 c5_24 c6_25 c7_26 c8_27, aq_ cy 6 clo_21 12 (gf_ rl_28), ai_ cy (rl_28 0) 12 (Ml_30 0), ai_ cy (rl_28 1) 12 (Ml_30 1), ai_ cy (rl_28 2) 12 (Ml_30 2), ai_ cy (rl_28 3) 12 (Ml_30 3), ai_ cy (rl_28 4) 12 (Ml_30 4), ai_ cy (rl_28 5) 12 (Ml_30 5), ai_ cy (rl_28 6) 12 (Ml_30 6), ai_ cy (rl_28 7) 12 (Ml_30 7), ai_ cy (rl_28 8) 12 (Ml_30 8), ai_ cy (rl_28 9) 12 (Ml_30 9), ai_ cy (rl_28 10) 12 (Ml_30 10), ai_ cy (rl_28 11) 12 (Ml_30 11), aq_ cy 6 cro_22 12 (gf_ rr_29), ai_ cy (rr_29 0) 12 (Mr_31 0), ai_ cy (rr_29 1) 12 (Mr_31 1), ai_ cy (rr_29 2) 12 (Mr_31 2), ai_ cy (rr_29 3) 12 (Mr_31 3), ai_ cy (rr_29 4) 12 (Mr_31 4), ai_ cy (rr_29 5) 12 (Mr_31 5), ai_ cy (rr_29 6) 12 (Mr_31 6), ai_ cy (rr_29 7) 12 (Mr_31 7), ai_ cy (rr_29 8) 12 (Mr_31 8), ai_ cy (rr_29 9) 12 (Mr_31 9), ai_ cy (rr_29 10) 12 (Mr_31 10), ai_ cy (rr_29 11) 12 (Mr_31 11), ai_ cy c4_23 40 (fun _ => 0), ai_ cy c5_24 40 (fun _ => 0), ai_ cy c6_25 40 (fun _ => 0), ai_ cy c7_26 12 (fun _ => 0), ai_ cy c8_27 12 (fun _ => 0), ob7_0_ q_32 q_19 0 0 0 0 0 0 0 0, ob1_0_ q_34 q_19 ta_36 tb_37, ai_ cy ta_36 12 (fun _ => 0), ai_ cy tb_37 12 (fun _ => 0), ob10_0_ q_38 q_19 q_1 wpo_40 wc_41 wf_42, aq_ cy 6 wpo_40 12 (gf_ rp_43), ai_ cy (rp_43 0) 12 (Mp_44 0), ai_ cy (rp_43 1) 12 (Mp_44 1), ai_ cy (rp_43 2) 12 (Mp_44 2), ai_ cy (rp_43 3) 12 (Mp_44 3), ai_ cy (rp_43 4) 12 (Mp_44 4), ai_ cy (rp_43 5) 12 (Mp_44 5), ai_ cy (rp_43 6) 12 (Mp_44 6), ai_ cy (rp_43 7) 12 (Mp_44 7), ai_ cy (rp_43 8) 12 (Mp_44 8), ai_ cy (rp_43 9) 12 (Mp_44 9), ai_ cy (rp_43 10) 12 (Mp_44 10), ai_ cy (rp_43 11) 12 (Mp_44 11), ai_ cy wc_41 12 (fun _ => 0), ai_ cy wf_42 12 (fun _ => 0), aq_ cy 4 q_45 4 (va_up (fun _ => none) (0 : Int32).toNatClampNeg (some q_46)), ob4_0_ q_46 0 (-9) l1_48 l2_49, ai_ cy l1_48 6 (fun _ => 0), aj_ cy l2_49 30 (fun _ => 0)]) (w1 := [ob4_0_ q_50 0 (-9) l1_52 l2_53, ai_ cy l1_52 6 (fun _ => 0), aj_ cy l2_53 30 (fun _ => 0)]) hP hD [69] [0, 1, 2, 3, 4, 5, 6, 7, 8, 9, 10, 11, 12, 13, 14, 15, 16, 17, 18, 19, 20, 21, 22, 23, 24, 25, 26, 27, 28, 29, 30, 31, 32, 33, 34, 35, 36, 37, 38, 39, 40, 41, 42, 43, 44, 45, 46, 47, 48, 49, 50, 51, 52, 53, 54, 55, 56, 57, 58, 59, 60, 61, 62, 63, 64, 65, 66, 67, 68] rfl rfl (by decide +kernel) (by decide +kernel) hk1 hFc hP1 hD1
  refine pd_K [ob11_7_ xo q_1 q_12 q_19 q_32 q_34 q_38 0 0 0 0, aq_ cy 3 q_1 5 (kf_ q_2 q_4 q_6 q_8 q_10), ob6_0_ q_2, ob5_0_ q_4, ob9_0_ q_6, ob2_0_ q_8, ob8_0_ q_10, ob3_0_ q_12 0 0 n1_14 n2_15 n3_16 n4_17 n5_18, ai_ cy n1_14 40 (fun _ => 0), ai_ cy n2_15 40 (fun _ => 0), ai_ cy n3_16 40 (fun _ => 0), ai_ cy n4_17 40 (fun _ => 0), ai_ cy n5_18 40 (fun _ => 0), ob0_0_ q_19 q_12 q_1 clo_21 cro_22 c4_23 c5_24 c6_25 c7_26 c8_27, aq_ cy 6 clo_21 12 (gf_ rl_28), ai_ cy (rl_28 0) 12 (Ml_30 0), ai_ cy (rl_28 1) 12 (Ml_30 1), ai_ cy (rl_28 2) 12 (Ml_30 2), ai_ cy (rl_28 3) 12 (Ml_30 3), ai_ cy (rl_28 4) 12 (Ml_30 4), ai_ cy (rl_28 5) 12 (Ml_30 5), ai_ cy (rl_28 6) 12 (Ml_30 6), ai_ cy (rl_28 7) 12 (Ml_30 7), ai_ cy (rl_28 8) 12 (Ml_30 8), ai_ cy (rl_28 9) 12 (Ml_30 9), ai_ cy (rl_28 10) 12 (Ml_30 10), ai_ cy (rl_28 11) 12 (Ml_30 11), aq_ cy 6 cro_22 12 (gf_ rr_29), ai_ cy (rr_29 0) 12 (Mr_31 0), ai_ cy (rr_29 1) 12 (Mr_31 1), ai_ cy (rr_29 2) 12 (Mr_31 2), ai_ cy (rr_29 3) 12 (Mr_31 3), ai_ cy (rr_29 4) 12 (Mr_31 4), ai_ cy (rr_29 5) 12 (Mr_31 5), ai_ cy (rr_29 6) 12 (Mr_31 6), ai_ cy (rr_29 7) 12 (Mr_31 7), ai_ cy (rr_29 8) 12 (Mr_31 8), ai_ cy (rr_29 9) 12 (Mr_31 9), ai_ cy (rr_29 10) 12 (Mr_31 10), ai_ cy (rr_29 11) 12 (Mr_31 11), ai_ cy c4_23 40 (fun _ => 0), ai_ cy c5_24 40 (fun _ => 0), ai_ cy c6_25 40 (fun _ => 0), ai_ cy c7_26 12 (fun _ => 0), ai_ cy c8_27 12 (fun _ => 0), ob7_0_ q_32 q_19 0 0 0 0 0 0 0 0, ob1_0_ q_34 q_19 ta_36 tb_37, ai_ cy ta_36 12 (fun _ => 0), ai_ cy tb_37 12 (fun _ => 0), ob10_0_ q_38 q_19 q_1 wpo_40 wc_41 wf_42, aq_ cy 6 wpo_40 12 (gf_ rp_43), ai_ cy (rp_43 0) 12 (Mp_44 0), ai_ cy (rp_43 1) 12 (Mp_44 1), ai_ cy (rp_43 2) 12 (Mp_44 2), ai_ cy (rp_43 3) 12 (Mp_44 3), ai_ cy (rp_43 4) 12 (Mp_44 4), ai_ cy (rp_43 5) 12 (Mp_44 5), ai_ cy (rp_43 6) 12 (Mp_44 6), ai_ cy (rp_43 7) 12 (Mp_44 7), ai_ cy (rp_43 8) 12 (Mp_44 8), ai_ cy (rp_43 9) 12 (Mp_44 9), ai_ cy (rp_43 10) 12 (Mp_44 10), ai_ cy (rp_43 11) 12 (Mp_44 11), ai_ cy wc_41 12 (fun _ => 0), ai_ cy wf_42 12 (fun _ => 0), aq_ cy 4 q_45 4 (va_up (fun _ => none) (0 : Int32).toNatClampNeg (some q_46)), ob4_0_ q_46 0 (-9) l1_48 l2_49, ai_ cy l1_48 6 (fun _ => 0), aj_ cy l2_49 30 (fun _ => 0), ob4_0_ q_50 0 (-9) l1_52 l2_53, ai_ cy l1_52 6 (fun _ => 0), aj_ cy l2_53 30 (fun _ => 0)] hP hD (fun hP hD => ?_)
  refine va_astq hx hb hK.1 hP hD hS 65 4 69 4 rfl rfl rfl rfl (i := 1) (by unfold vp_in; decide) dB_36_2_42.1.2.2.2 (fun H locs hP hD hS => ?_)
  refine pd_K [ob11_7_ xo q_1 q_12 q_19 q_32 q_34 q_38 0 0 0 0, aq_ cy 3 q_1 5 (kf_ q_2 q_4 q_6 q_8 q_10), ob6_0_ q_2, ob5_0_ q_4, ob9_0_ q_6, ob2_0_ q_8, ob8_0_ q_10, ob3_0_ q_12 0 0 n1_14 n2_15 n3_16 n4_17 n5_18, ai_ cy n1_14 40 (fun _ => 0), ai_ cy n2_15 40 (fun _ => 0), ai_ cy n3_16 40 (fun _ => 0), ai_ cy n4_17 40 (fun _ => 0), ai_ cy n5_18 40 (fun _ => 0), ob0_0_ q_19 q_12 q_1 clo_21 cro_22 c4_23 c5_24 c6_25 c7_26 c8_27, aq_ cy 6 clo_21 12 (gf_ rl_28), ai_ cy (rl_28 0) 12 (Ml_30 0), ai_ cy (rl_28 1) 12 (Ml_30 1), ai_ cy (rl_28 2) 12 (Ml_30 2), ai_ cy (rl_28 3) 12 (Ml_30 3), ai_ cy (rl_28 4) 12 (Ml_30 4), ai_ cy (rl_28 5) 12 (Ml_30 5), ai_ cy (rl_28 6) 12 (Ml_30 6), ai_ cy (rl_28 7) 12 (Ml_30 7), ai_ cy (rl_28 8) 12 (Ml_30 8), ai_ cy (rl_28 9) 12 (Ml_30 9), ai_ cy (rl_28 10) 12 (Ml_30 10), ai_ cy (rl_28 11) 12 (Ml_30 11), aq_ cy 6 cro_22 12 (gf_ rr_29), ai_ cy (rr_29 0) 12 (Mr_31 0), ai_ cy (rr_29 1) 12 (Mr_31 1), ai_ cy (rr_29 2) 12 (Mr_31 2), ai_ cy (rr_29 3) 12 (Mr_31 3), ai_ cy (rr_29 4) 12 (Mr_31 4), ai_ cy (rr_29 5) 12 (Mr_31 5), ai_ cy (rr_29 6) 12 (Mr_31 6), ai_ cy (rr_29 7) 12 (Mr_31 7), ai_ cy (rr_29 8) 12 (Mr_31 8), ai_ cy (rr_29 9) 12 (Mr_31 9), ai_ cy (rr_29 10) 12 (Mr_31 10), ai_ cy (rr_29 11) 12 (Mr_31 11), ai_ cy c4_23 40 (fun _ => 0), ai_ cy c5_24 40 (fun _ => 0), ai_ cy c6_25 40 (fun _ => 0), ai_ cy c7_26 12 (fun _ => 0), ai_ cy c8_27 12 (fun _ => 0), ob7_0_ q_32 q_19 0 0 0 0 0 0 0 0, ob1_0_ q_34 q_19 ta_36 tb_37, ai_ cy ta_36 12 (fun _ => 0), ai_ cy tb_37 12 (fun _ => 0), ob10_0_ q_38 q_19 q_1 wpo_40 wc_41 wf_42, aq_ cy 6 wpo_40 12 (gf_ rp_43), ai_ cy (rp_43 0) 12 (Mp_44 0), ai_ cy (rp_43 1) 12 (Mp_44 1), ai_ cy (rp_43 2) 12 (Mp_44 2), ai_ cy (rp_43 3) 12 (Mp_44 3), ai_ cy (rp_43 4) 12 (Mp_44 4), ai_ cy (rp_43 5) 12 (Mp_44 5), ai_ cy (rp_43 6) 12 (Mp_44 6), ai_ cy (rp_43 7) 12 (Mp_44 7), ai_ cy (rp_43 8) 12 (Mp_44 8), ai_ cy (rp_43 9) 12 (Mp_44 9), ai_ cy (rp_43 10) 12 (Mp_44 10), ai_ cy (rp_43 11) 12 (Mp_44 11), ai_ cy wc_41 12 (fun _ => 0), ai_ cy wf_42 12 (fun _ => 0), aq_ cy 4 q_45 4 (va_up (va_up (fun _ => none) (0 : Int32).toNatClampNeg (some q_46)) (1 : Int32).toNatClampNeg (some q_50)), ob4_0_ q_46 0 (-9) l1_48 l2_49, ai_ cy l1_48 6 (fun _ => 0), aj_ cy l2_49 30 (fun _ => 0), ob4_0_ q_50 0 (-9) l1_52 l2_53, ai_ cy l1_52 6 (fun _ => 0), aj_ cy l2_53 30 (fun _ => 0)] hP hD (fun hP hD => ?_)
  refine lv_dup hx hb dB_36_2_42.2.1.1.1 rfl ?_
  refine lv_iconst (v := 2) hx hb dB_36_2_42.2.1.1.2 (by decide) ?_
  refine va_new (ci := 4) (fs := [.int 0, .int 0, .null, .null]) (C := RX4) (T := TX4) (N := 4) hx hb hts (fun _ h => List.mem_cons_of_mem _ (List.mem_append_right _ h)) tyX4 tyX4_ok hown (hts (.classLink RX11 69 RX4) (pc_X11_init wsX11_init_r2 (List.mem_of_getElem? (i := 2) rfl) _ (List.mem_of_getElem? (i := 15) rfl))) (hts (.instantiable RX4 4) (pc_X11_init wsX11_init_r2 (List.mem_of_getElem? (i := 2) rfl) _ (List.mem_of_getElem? (i := 16) rfl))) (hts (.initialized RX4) (pc_X11_init wsX11_init_r2 (List.mem_of_getElem? (i := 2) rfl) _ (List.mem_of_getElem? (i := 17) rfl))) hK.1 hP hD hS hA rfl (by decide +kernel) (Nat.le_of_ble_eq_true rfl) (Nat.le_of_ble_eq_true rfl) dB_36_2_42.2.1.2.1 (fun q_54 H hP hD hS => ?_)
  refine pd_K [ob11_7_ xo q_1 q_12 q_19 q_32 q_34 q_38 0 0 0 0, aq_ cy 3 q_1 5 (kf_ q_2 q_4 q_6 q_8 q_10), ob6_0_ q_2, ob5_0_ q_4, ob9_0_ q_6, ob2_0_ q_8, ob8_0_ q_10, ob3_0_ q_12 0 0 n1_14 n2_15 n3_16 n4_17 n5_18, ai_ cy n1_14 40 (fun _ => 0), ai_ cy n2_15 40 (fun _ => 0), ai_ cy n3_16 40 (fun _ => 0), ai_ cy n4_17 40 (fun _ => 0), ai_ cy n5_18 40 (fun _ => 0), ob0_0_ q_19 q_12 q_1 clo_21 cro_22 c4_23 c5_24 c6_25 c7_26 c8_27, aq_ cy 6 clo_21 12 (gf_ rl_28), ai_ cy (rl_28 0) 12 (Ml_30 0), ai_ cy (rl_28 1) 12 (Ml_30 1), ai_ cy (rl_28 2) 12 (Ml_30 2), ai_ cy (rl_28 3) 12 (Ml_30 3), ai_ cy (rl_28 4) 12 (Ml_30 4), ai_ cy (rl_28 5) 12 (Ml_30 5), ai_ cy (rl_28 6) 12 (Ml_30 6), ai_ cy (rl_28 7) 12 (Ml_30 7), ai_ cy (rl_28 8) 12 (Ml_30 8), ai_ cy (rl_28 9) 12 (Ml_30 9), ai_ cy (rl_28 10) 12 (Ml_30 10), ai_ cy (rl_28 11) 12 (Ml_30 11), aq_ cy 6 cro_22 12 (gf_ rr_29), ai_ cy (rr_29 0) 12 (Mr_31 0), ai_ cy (rr_29 1) 12 (Mr_31 1), ai_ cy (rr_29 2) 12 (Mr_31 2), ai_ cy (rr_29 3) 12 (Mr_31 3), ai_ cy (rr_29 4) 12 (Mr_31 4), ai_ cy (rr_29 5) 12 (Mr_31 5), ai_ cy (rr_29 6) 12 (Mr_31 6), ai_ cy (rr_29 7) 12 (Mr_31 7), ai_ cy (rr_29 8) 12 (Mr_31 8), ai_ cy (rr_29 9) 12 (Mr_31 9), ai_ cy (rr_29 10) 12 (Mr_31 10), ai_ cy (rr_29 11) 12 (Mr_31 11), ai_ cy c4_23 40 (fun _ => 0), ai_ cy c5_24 40 (fun _ => 0), ai_ cy c6_25 40 (fun _ => 0), ai_ cy c7_26 12 (fun _ => 0), ai_ cy c8_27 12 (fun _ => 0), ob7_0_ q_32 q_19 0 0 0 0 0 0 0 0, ob1_0_ q_34 q_19 ta_36 tb_37, ai_ cy ta_36 12 (fun _ => 0), ai_ cy tb_37 12 (fun _ => 0), ob10_0_ q_38 q_19 q_1 wpo_40 wc_41 wf_42, aq_ cy 6 wpo_40 12 (gf_ rp_43), ai_ cy (rp_43 0) 12 (Mp_44 0), ai_ cy (rp_43 1) 12 (Mp_44 1), ai_ cy (rp_43 2) 12 (Mp_44 2), ai_ cy (rp_43 3) 12 (Mp_44 3), ai_ cy (rp_43 4) 12 (Mp_44 4), ai_ cy (rp_43 5) 12 (Mp_44 5), ai_ cy (rp_43 6) 12 (Mp_44 6), ai_ cy (rp_43 7) 12 (Mp_44 7), ai_ cy (rp_43 8) 12 (Mp_44 8), ai_ cy (rp_43 9) 12 (Mp_44 9), ai_ cy (rp_43 10) 12 (Mp_44 10), ai_ cy (rp_43 11) 12 (Mp_44 11), ai_ cy wc_41 12 (fun _ => 0), ai_ cy wf_42 12 (fun _ => 0), aq_ cy 4 q_45 4 (va_up (va_up (fun _ => none) (0 : Int32).toNatClampNeg (some q_46)) (1 : Int32).toNatClampNeg (some q_50)), ob4_0_ q_46 0 (-9) l1_48 l2_49, ai_ cy l1_48 6 (fun _ => 0), aj_ cy l2_49 30 (fun _ => 0), ob4_0_ q_50 0 (-9) l1_52 l2_53, ai_ cy l1_52 6 (fun _ => 0), aj_ cy l2_53 30 (fun _ => 0), ob4_1_ q_54 0 0] hP hD (fun hP hD => ?_)
  refine lv_dup hx hb dB_36_2_42.2.1.2.2 rfl ?_
  have hPc := hP.sub (ws' := [ob4_1_ q_54 0 0]) [72] rfl
  have hDc := hD.sub (ws' := [ob4_1_ q_54 0 0]) [72] (by decide) rfl
  have hDw : va_D (fun _ => True) [ob4_1_ q_54 0 0] := hDc.weaken (fun _ _ _ _ => trivial)
  have hFc := va_free (wc := [ob4_1_ q_54 0 0]) hD hS hA [72] rfl
  refine va_callv (va_runIN (As := []) (rest := [.ref q_54, .int 2, .ref q_45, .ref q_45, .ref xo]) ⟨hx, hb, hml, hown, hts⟩ (c_X4_init l D cy H.size q_54) ⟨va_cnB 0 hts gX11_init_X4_init_n71 rfl rfl rfl (kk_nX11_71 hK) (hts (.initialized RX4) (pc_X11_init wsX11_init_r2 (List.mem_of_getElem? (i := 2) rfl) _ (List.mem_of_getElem? (i := 17) rfl))) (by decide +kernel) ⟨Nat.le_of_ble_eq_true rfl, Nat.le_of_ble_eq_true rfl⟩, rfl, (hts (.instanceMethod yX4_init) (pc_X11_init wsX11_init_r5 (List.mem_of_getElem? (i := 5) rfl) _ (List.mem_of_getElem? (i := 10) rfl)))⟩ ⟨bl_, fun U hU hW => ⟨rfl, by rw [hU], by rw [hU]; exact hPc, kk_mv hW hK, hDw⟩⟩ rfl rfl hl.1 rfl (lv_room (Nat.le_of_ble_eq_true rfl)) dB_36_2_42.2.2.1.1 ⟨Nat.le_of_ble_eq_true rfl, Nat.le_of_ble_eq_true rfl⟩) hS (fun q _ h => hFc q h) hFc (fun u t H locs ht hvm hw hB hz1 hk1 hS => ?_)
  obtain ⟨l1_56, l2_57, hP1, hD1⟩ := hB
  rw [ht] at hP1
  obtain ⟨hP, hD⟩ := va_join (wr := [ob11_7_ xo q_1 q_12 q_19 q_32 q_34 q_38 0 0 0 0, aq_ cy 3 q_1 5 (kf_ q_2 q_4 q_6 q_8 q_10), ob6_0_ q_2, ob5_0_ q_4, ob9_0_ q_6, ob2_0_ q_8, ob8_0_ q_10, ob3_0_ q_12 0 0 n1_14 n2_15 n3_16 n4_17 n5_18, ai_ cy n1_14 40 (fun _ => 0), ai_ cy n2_15 40 (fun _ => 0), ai_ cy n3_16 40 (fun _ => 0), ai_ cy n4_17 40 (fun _ => 0), ai_ cy n5_18 40 (fun _ => 0), ob0_0_ q_19 q_12 q_1 clo_21 cro_22 c4_23 c5_24 c6_25 c7_26 c8_27, aq_ cy 6 clo_21 12 (gf_ rl_28), ai_ cy (rl_28 0) 12 (Ml_30 0), ai_ cy (rl_28 1) 12 (Ml_30 1), ai_ cy (rl_28 2) 12 (Ml_30 2), ai_ cy (rl_28 3) 12 (Ml_30 3), ai_ cy (rl_28 4) 12 (Ml_30 4), ai_ cy (rl_28 5) 12 (Ml_30 5), ai_ cy (rl_28 6) 12 (Ml_30 6), ai_ cy (rl_28 7) 12 (Ml_30 7), ai_ cy (rl_28 8) 12 (Ml_30 8), ai_ cy (rl_28 9) 12 (Ml_30 9), ai_ cy (rl_28 10) 12 (Ml_30 10), ai_ cy (rl_28 11) 12 (Ml_30 11), aq_ cy 6 cro_22 12 (gf_ rr_29), ai_ cy (rr_29 0) 12 (Mr_31 0), ai_ cy (rr_29 1) 12 (Mr_31 1), ai_ cy (rr_29 2) 12 (Mr_31 2), ai_ cy (rr_29 3) 12 (Mr_31 3), ai_ cy (rr_29 4) 12 (Mr_31 4), ai_ cy (rr_29 5) 12 (Mr_31 5), ai_ cy (rr_29 6) 12 (Mr_31 6), ai_ cy (rr_29 7) 12 (Mr_31 7), ai_ cy (rr_29 8) 12 (Mr_31 8), ai_ cy (rr_29 9) 12 (Mr_31 9), ai_ cy (rr_29 10) 12 (Mr_31 10), ai_ cy (rr_29 11) 12 (Mr_31 11), ai_ cy c4_23 40 (fun _ => 0), ai_ cy c5_24 40 (fun _ => 0), ai_ cy c6_25 40 (fun _ => 0), ai_ cy c7_26 12 (fun _ => 0), ai_ cy c8_27 12 (fun _ => 0), ob7_0_ q_32 q_19 0 0 0 0 0 0 0 0, ob1_0_ q_34 q_19 ta_36 tb_37, ai_ cy ta_36 12 (fun _ => 0), ai_ cy tb_37 12 (fun _ => 0), ob10_0_ q_38 q_19 q_1 wpo_40 wc_41 wf_42, aq_ cy 6 wpo_40 12 (gf_ rp_43), ai_ cy (rp_43 0) 12 (Mp_44 0), ai_ cy (rp_43 1) 12 (Mp_44 1), ai_ cy (rp_43 2) 12 (Mp_44 2), ai_ cy (rp_43 3) 12 (Mp_44 3), ai_ cy (rp_43 4) 12 (Mp_44 4), ai_ cy (rp_43 5) 12 (Mp_44 5), ai_ cy (rp_43 6) 12 (Mp_44 6), ai_ cy (rp_43 7) 12 (Mp_44 7), ai_ cy (rp_43 8) 12 (Mp_44 8), ai_ cy (rp_43 9) 12 (Mp_44 9), ai_ cy (rp_43 10) 12 (Mp_44 10), ai_ cy (rp_43 11) 12 (Mp_44 11), ai_ cy wc_41 12 (fun _ => 0), ai_ cy wf_42 12 (fun _ => 0), aq_ cy 4 q_45 4 (va_up (va_up (fun _ => none) (0 : Int32).toNatClampNeg (some q_46)) (1 : Int32).toNatClampNeg (some q_50)), ob4_0_ q_46 0 (-9) l1_48 l2_49, ai_ cy l1_48 6 (fun _ => 0), aj_ cy l2_49 30 (fun _ => 0), ob4_0_ q_50 0 (-9) l1_52 l2_53, ai_ cy l1_52 6 (fun _ => 0), aj_ cy l2_53 30 (fun _ => 0)]) (w1 := [ob4_0_ q_54 0 (-9) l1_56 l2_57, ai_ cy l1_56 6 (fun _ => 0), aj_ cy l2_57 30 (fun _ => 0)]) hP hD [72] [0, 1, 2, 3, 4, 5, 6, 7, 8, 9, 10, 11, 12, 13, 14, 15, 16, 17, 18, 19, 20, 21, 22, 23, 24, 25, 26, 27, 28, 29, 30, 31, 32, 33, 34, 35, 36, 37, 38, 39, 40, 41, 42, 43, 44, 45, 46, 47, 48, 49, 50, 51, 52, 53, 54, 55, 56, 57, 58, 59, 60, 61, 62, 63, 64, 65, 66, 67, 68, 69, 70, 71] rfl rfl (by decide +kernel) (by decide +kernel) hk1 hFc hP1 hD1
  refine pd_K [ob11_7_ xo q_1 q_12 q_19 q_32 q_34 q_38 0 0 0 0, aq_ cy 3 q_1 5 (kf_ q_2 q_4 q_6 q_8 q_10), ob6_0_ q_2, ob5_0_ q_4, ob9_0_ q_6, ob2_0_ q_8, ob8_0_ q_10, ob3_0_ q_12 0 0 n1_14 n2_15 n3_16 n4_17 n5_18, ai_ cy n1_14 40 (fun _ => 0), ai_ cy n2_15 40 (fun _ => 0), ai_ cy n3_16 40 (fun _ => 0), ai_ cy n4_17 40 (fun _ => 0), ai_ cy n5_18 40 (fun _ => 0), ob0_0_ q_19 q_12 q_1 clo_21 cro_22 c4_23 c5_24 c6_25 c7_26 c8_27, aq_ cy 6 clo_21 12 (gf_ rl_28), ai_ cy (rl_28 0) 12 (Ml_30 0), ai_ cy (rl_28 1) 12 (Ml_30 1), ai_ cy (rl_28 2) 12 (Ml_30 2), ai_ cy (rl_28 3) 12 (Ml_30 3), ai_ cy (rl_28 4) 12 (Ml_30 4), ai_ cy (rl_28 5) 12 (Ml_30 5), ai_ cy (rl_28 6) 12 (Ml_30 6), ai_ cy (rl_28 7) 12 (Ml_30 7), ai_ cy (rl_28 8) 12 (Ml_30 8), ai_ cy (rl_28 9) 12 (Ml_30 9), ai_ cy (rl_28 10) 12 (Ml_30 10), ai_ cy (rl_28 11) 12 (Ml_30 11), aq_ cy 6 cro_22 12 (gf_ rr_29), ai_ cy (rr_29 0) 12 (Mr_31 0), ai_ cy (rr_29 1) 12 (Mr_31 1), ai_ cy (rr_29 2) 12 (Mr_31 2), ai_ cy (rr_29 3) 12 (Mr_31 3), ai_ cy (rr_29 4) 12 (Mr_31 4), ai_ cy (rr_29 5) 12 (Mr_31 5), ai_ cy (rr_29 6) 12 (Mr_31 6), ai_ cy (rr_29 7) 12 (Mr_31 7), ai_ cy (rr_29 8) 12 (Mr_31 8), ai_ cy (rr_29 9) 12 (Mr_31 9), ai_ cy (rr_29 10) 12 (Mr_31 10), ai_ cy (rr_29 11) 12 (Mr_31 11), ai_ cy c4_23 40 (fun _ => 0), ai_ cy c5_24 40 (fun _ => 0), ai_ cy c6_25 40 (fun _ => 0), ai_ cy c7_26 12 (fun _ => 0), ai_ cy c8_27 12 (fun _ => 0), ob7_0_ q_32 q_19 0 0 0 0 0 0 0 0, ob1_0_ q_34 q_19 ta_36 tb_37, ai_ cy ta_36 12 (fun _ => 0), ai_ cy tb_37 12 (fun _ => 0), ob10_0_ q_38 q_19 q_1 wpo_40 wc_41 wf_42, aq_ cy 6 wpo_40 12 (gf_ rp_43), ai_ cy (rp_43 0) 12 (Mp_44 0), ai_ cy (rp_43 1) 12 (Mp_44 1), ai_ cy (rp_43 2) 12 (Mp_44 2), ai_ cy (rp_43 3) 12 (Mp_44 3), ai_ cy (rp_43 4) 12 (Mp_44 4), ai_ cy (rp_43 5) 12 (Mp_44 5), ai_ cy (rp_43 6) 12 (Mp_44 6), ai_ cy (rp_43 7) 12 (Mp_44 7), ai_ cy (rp_43 8) 12 (Mp_44 8), ai_ cy (rp_43 9) 12 (Mp_44 9), ai_ cy (rp_43 10) 12 (Mp_44 10), ai_ cy (rp_43 11) 12 (Mp_44 11), ai_ cy wc_41 12 (fun _ => 0), ai_ cy wf_42 12 (fun _ => 0), aq_ cy 4 q_45 4 (va_up (va_up (fun _ => none) (0 : Int32).toNatClampNeg (some q_46)) (1 : Int32).toNatClampNeg (some q_50)), ob4_0_ q_46 0 (-9) l1_48 l2_49, ai_ cy l1_48 6 (fun _ => 0), aj_ cy l2_49 30 (fun _ => 0), ob4_0_ q_50 0 (-9) l1_52 l2_53, ai_ cy l1_52 6 (fun _ => 0), aj_ cy l2_53 30 (fun _ => 0), ob4_0_ q_54 0 (-9) l1_56 l2_57, ai_ cy l1_56 6 (fun _ => 0), aj_ cy l2_57 30 (fun _ => 0)] hP hD (fun hP hD => ?_)
  refine va_astq hx hb hK.1 hP hD hS 65 4 72 4 rfl rfl rfl rfl (i := 2) (by unfold vp_in; decide) dB_36_2_42.2.2.1.2 (fun H locs hP hD hS => ?_)
  refine pd_K [ob11_7_ xo q_1 q_12 q_19 q_32 q_34 q_38 0 0 0 0, aq_ cy 3 q_1 5 (kf_ q_2 q_4 q_6 q_8 q_10), ob6_0_ q_2, ob5_0_ q_4, ob9_0_ q_6, ob2_0_ q_8, ob8_0_ q_10, ob3_0_ q_12 0 0 n1_14 n2_15 n3_16 n4_17 n5_18, ai_ cy n1_14 40 (fun _ => 0), ai_ cy n2_15 40 (fun _ => 0), ai_ cy n3_16 40 (fun _ => 0), ai_ cy n4_17 40 (fun _ => 0), ai_ cy n5_18 40 (fun _ => 0), ob0_0_ q_19 q_12 q_1 clo_21 cro_22 c4_23 c5_24 c6_25 c7_26 c8_27, aq_ cy 6 clo_21 12 (gf_ rl_28), ai_ cy (rl_28 0) 12 (Ml_30 0), ai_ cy (rl_28 1) 12 (Ml_30 1), ai_ cy (rl_28 2) 12 (Ml_30 2), ai_ cy (rl_28 3) 12 (Ml_30 3), ai_ cy (rl_28 4) 12 (Ml_30 4), ai_ cy (rl_28 5) 12 (Ml_30 5), ai_ cy (rl_28 6) 12 (Ml_30 6), ai_ cy (rl_28 7) 12 (Ml_30 7), ai_ cy (rl_28 8) 12 (Ml_30 8), ai_ cy (rl_28 9) 12 (Ml_30 9), ai_ cy (rl_28 10) 12 (Ml_30 10), ai_ cy (rl_28 11) 12 (Ml_30 11), aq_ cy 6 cro_22 12 (gf_ rr_29), ai_ cy (rr_29 0) 12 (Mr_31 0), ai_ cy (rr_29 1) 12 (Mr_31 1), ai_ cy (rr_29 2) 12 (Mr_31 2), ai_ cy (rr_29 3) 12 (Mr_31 3), ai_ cy (rr_29 4) 12 (Mr_31 4), ai_ cy (rr_29 5) 12 (Mr_31 5), ai_ cy (rr_29 6) 12 (Mr_31 6), ai_ cy (rr_29 7) 12 (Mr_31 7), ai_ cy (rr_29 8) 12 (Mr_31 8), ai_ cy (rr_29 9) 12 (Mr_31 9), ai_ cy (rr_29 10) 12 (Mr_31 10), ai_ cy (rr_29 11) 12 (Mr_31 11), ai_ cy c4_23 40 (fun _ => 0), ai_ cy c5_24 40 (fun _ => 0), ai_ cy c6_25 40 (fun _ => 0), ai_ cy c7_26 12 (fun _ => 0), ai_ cy c8_27 12 (fun _ => 0), ob7_0_ q_32 q_19 0 0 0 0 0 0 0 0, ob1_0_ q_34 q_19 ta_36 tb_37, ai_ cy ta_36 12 (fun _ => 0), ai_ cy tb_37 12 (fun _ => 0), ob10_0_ q_38 q_19 q_1 wpo_40 wc_41 wf_42, aq_ cy 6 wpo_40 12 (gf_ rp_43), ai_ cy (rp_43 0) 12 (Mp_44 0), ai_ cy (rp_43 1) 12 (Mp_44 1), ai_ cy (rp_43 2) 12 (Mp_44 2), ai_ cy (rp_43 3) 12 (Mp_44 3), ai_ cy (rp_43 4) 12 (Mp_44 4), ai_ cy (rp_43 5) 12 (Mp_44 5), ai_ cy (rp_43 6) 12 (Mp_44 6), ai_ cy (rp_43 7) 12 (Mp_44 7), ai_ cy (rp_43 8) 12 (Mp_44 8), ai_ cy (rp_43 9) 12 (Mp_44 9), ai_ cy (rp_43 10) 12 (Mp_44 10), ai_ cy (rp_43 11) 12 (Mp_44 11), ai_ cy wc_41 12 (fun _ => 0), ai_ cy wf_42 12 (fun _ => 0), aq_ cy 4 q_45 4 (va_up (va_up (va_up (fun _ => none) (0 : Int32).toNatClampNeg (some q_46)) (1 : Int32).toNatClampNeg (some q_50)) (2 : Int32).toNatClampNeg (some q_54)), ob4_0_ q_46 0 (-9) l1_48 l2_49, ai_ cy l1_48 6 (fun _ => 0), aj_ cy l2_49 30 (fun _ => 0), ob4_0_ q_50 0 (-9) l1_52 l2_53, ai_ cy l1_52 6 (fun _ => 0), aj_ cy l2_53 30 (fun _ => 0), ob4_0_ q_54 0 (-9) l1_56 l2_57, ai_ cy l1_56 6 (fun _ => 0), aj_ cy l2_57 30 (fun _ => 0)] hP hD (fun hP hD => ?_)
  refine lv_dup hx hb dB_36_2_42.2.2.2.1 rfl ?_
  refine lv_iconst (v := 3) hx hb dB_36_2_42.2.2.2.2 (by decide) ?_
  refine va_new (ci := 4) (fs := [.int 0, .int 0, .null, .null]) (C := RX4) (T := TX4) (N := 4) hx hb hts (fun _ h => List.mem_cons_of_mem _ (List.mem_append_right _ h)) tyX4 tyX4_ok hown (hts (.classLink RX11 69 RX4) (pc_X11_init wsX11_init_r2 (List.mem_of_getElem? (i := 2) rfl) _ (List.mem_of_getElem? (i := 15) rfl))) (hts (.instantiable RX4 4) (pc_X11_init wsX11_init_r2 (List.mem_of_getElem? (i := 2) rfl) _ (List.mem_of_getElem? (i := 16) rfl))) (hts (.initialized RX4) (pc_X11_init wsX11_init_r2 (List.mem_of_getElem? (i := 2) rfl) _ (List.mem_of_getElem? (i := 17) rfl))) hK.1 hP hD hS hA rfl (by decide +kernel) (Nat.le_of_ble_eq_true rfl) (Nat.le_of_ble_eq_true rfl) dB_36_2_43.1.1.1.1 (fun q_58 H hP hD hS => ?_)
  refine pd_K [ob11_7_ xo q_1 q_12 q_19 q_32 q_34 q_38 0 0 0 0, aq_ cy 3 q_1 5 (kf_ q_2 q_4 q_6 q_8 q_10), ob6_0_ q_2, ob5_0_ q_4, ob9_0_ q_6, ob2_0_ q_8, ob8_0_ q_10, ob3_0_ q_12 0 0 n1_14 n2_15 n3_16 n4_17 n5_18, ai_ cy n1_14 40 (fun _ => 0), ai_ cy n2_15 40 (fun _ => 0), ai_ cy n3_16 40 (fun _ => 0), ai_ cy n4_17 40 (fun _ => 0), ai_ cy n5_18 40 (fun _ => 0), ob0_0_ q_19 q_12 q_1 clo_21 cro_22 c4_23 c5_24 c6_25 c7_26 c8_27, aq_ cy 6 clo_21 12 (gf_ rl_28), ai_ cy (rl_28 0) 12 (Ml_30 0), ai_ cy (rl_28 1) 12 (Ml_30 1), ai_ cy (rl_28 2) 12 (Ml_30 2), ai_ cy (rl_28 3) 12 (Ml_30 3), ai_ cy (rl_28 4) 12 (Ml_30 4), ai_ cy (rl_28 5) 12 (Ml_30 5), ai_ cy (rl_28 6) 12 (Ml_30 6), ai_ cy (rl_28 7) 12 (Ml_30 7), ai_ cy (rl_28 8) 12 (Ml_30 8), ai_ cy (rl_28 9) 12 (Ml_30 9), ai_ cy (rl_28 10) 12 (Ml_30 10), ai_ cy (rl_28 11) 12 (Ml_30 11), aq_ cy 6 cro_22 12 (gf_ rr_29), ai_ cy (rr_29 0) 12 (Mr_31 0), ai_ cy (rr_29 1) 12 (Mr_31 1), ai_ cy (rr_29 2) 12 (Mr_31 2), ai_ cy (rr_29 3) 12 (Mr_31 3), ai_ cy (rr_29 4) 12 (Mr_31 4), ai_ cy (rr_29 5) 12 (Mr_31 5), ai_ cy (rr_29 6) 12 (Mr_31 6), ai_ cy (rr_29 7) 12 (Mr_31 7), ai_ cy (rr_29 8) 12 (Mr_31 8), ai_ cy (rr_29 9) 12 (Mr_31 9), ai_ cy (rr_29 10) 12 (Mr_31 10), ai_ cy (rr_29 11) 12 (Mr_31 11), ai_ cy c4_23 40 (fun _ => 0), ai_ cy c5_24 40 (fun _ => 0), ai_ cy c6_25 40 (fun _ => 0), ai_ cy c7_26 12 (fun _ => 0), ai_ cy c8_27 12 (fun _ => 0), ob7_0_ q_32 q_19 0 0 0 0 0 0 0 0, ob1_0_ q_34 q_19 ta_36 tb_37, ai_ cy ta_36 12 (fun _ => 0), ai_ cy tb_37 12 (fun _ => 0), ob10_0_ q_38 q_19 q_1 wpo_40 wc_41 wf_42, aq_ cy 6 wpo_40 12 (gf_ rp_43), ai_ cy (rp_43 0) 12 (Mp_44 0), ai_ cy (rp_43 1) 12 (Mp_44 1), ai_ cy (rp_43 2) 12 (Mp_44 2), ai_ cy (rp_43 3) 12 (Mp_44 3), ai_ cy (rp_43 4) 12 (Mp_44 4), ai_ cy (rp_43 5) 12 (Mp_44 5), ai_ cy (rp_43 6) 12 (Mp_44 6), ai_ cy (rp_43 7) 12 (Mp_44 7), ai_ cy (rp_43 8) 12 (Mp_44 8), ai_ cy (rp_43 9) 12 (Mp_44 9), ai_ cy (rp_43 10) 12 (Mp_44 10), ai_ cy (rp_43 11) 12 (Mp_44 11), ai_ cy wc_41 12 (fun _ => 0), ai_ cy wf_42 12 (fun _ => 0), aq_ cy 4 q_45 4 (va_up (va_up (va_up (fun _ => none) (0 : Int32).toNatClampNeg (some q_46)) (1 : Int32).toNatClampNeg (some q_50)) (2 : Int32).toNatClampNeg (some q_54)), ob4_0_ q_46 0 (-9) l1_48 l2_49, ai_ cy l1_48 6 (fun _ => 0), aj_ cy l2_49 30 (fun _ => 0), ob4_0_ q_50 0 (-9) l1_52 l2_53, ai_ cy l1_52 6 (fun _ => 0), aj_ cy l2_53 30 (fun _ => 0), ob4_0_ q_54 0 (-9) l1_56 l2_57, ai_ cy l1_56 6 (fun _ => 0), aj_ cy l2_57 30 (fun _ => 0), ob4_1_ q_58 0 0] hP hD (fun hP hD => ?_)
  refine lv_dup hx hb dB_36_2_43.1.1.1.2 rfl ?_
  have hPc := hP.sub (ws' := [ob4_1_ q_58 0 0]) [75] rfl
  have hDc := hD.sub (ws' := [ob4_1_ q_58 0 0]) [75] (by decide) rfl
  have hDw : va_D (fun _ => True) [ob4_1_ q_58 0 0] := hDc.weaken (fun _ _ _ _ => trivial)
  have hFc := va_free (wc := [ob4_1_ q_58 0 0]) hD hS hA [75] rfl
  refine va_callv (va_runIN (As := []) (rest := [.ref q_58, .int 3, .ref q_45, .ref q_45, .ref xo]) ⟨hx, hb, hml, hown, hts⟩ (c_X4_init l D cy H.size q_58) ⟨va_cnB 0 hts gX11_init_X4_init_n71 rfl rfl rfl (kk_nX11_71 hK) (hts (.initialized RX4) (pc_X11_init wsX11_init_r2 (List.mem_of_getElem? (i := 2) rfl) _ (List.mem_of_getElem? (i := 17) rfl))) (by decide +kernel) ⟨Nat.le_of_ble_eq_true rfl, Nat.le_of_ble_eq_true rfl⟩, rfl, (hts (.instanceMethod yX4_init) (pc_X11_init wsX11_init_r5 (List.mem_of_getElem? (i := 5) rfl) _ (List.mem_of_getElem? (i := 10) rfl)))⟩ ⟨bl_, fun U hU hW => ⟨rfl, by rw [hU], by rw [hU]; exact hPc, kk_mv hW hK, hDw⟩⟩ rfl rfl hl.1 rfl (lv_room (Nat.le_of_ble_eq_true rfl)) dB_36_2_43.1.1.2.1 ⟨Nat.le_of_ble_eq_true rfl, Nat.le_of_ble_eq_true rfl⟩) hS (fun q _ h => hFc q h) hFc (fun u t H locs ht hvm hw hB hz1 hk1 hS => ?_)
  obtain ⟨l1_60, l2_61, hP1, hD1⟩ := hB
  rw [ht] at hP1
  obtain ⟨hP, hD⟩ := va_join (wr := [ob11_7_ xo q_1 q_12 q_19 q_32 q_34 q_38 0 0 0 0, aq_ cy 3 q_1 5 (kf_ q_2 q_4 q_6 q_8 q_10), ob6_0_ q_2, ob5_0_ q_4, ob9_0_ q_6, ob2_0_ q_8, ob8_0_ q_10, ob3_0_ q_12 0 0 n1_14 n2_15 n3_16 n4_17 n5_18, ai_ cy n1_14 40 (fun _ => 0), ai_ cy n2_15 40 (fun _ => 0), ai_ cy n3_16 40 (fun _ => 0), ai_ cy n4_17 40 (fun _ => 0), ai_ cy n5_18 40 (fun _ => 0), ob0_0_ q_19 q_12 q_1 clo_21 cro_22 c4_23 c5_24 c6_25 c7_26 c8_27, aq_ cy 6 clo_21 12 (gf_ rl_28), ai_ cy (rl_28 0) 12 (Ml_30 0), ai_ cy (rl_28 1) 12 (Ml_30 1), ai_ cy (rl_28 2) 12 (Ml_30 2), ai_ cy (rl_28 3) 12 (Ml_30 3), ai_ cy (rl_28 4) 12 (Ml_30 4), ai_ cy (rl_28 5) 12 (Ml_30 5), ai_ cy (rl_28 6) 12 (Ml_30 6), ai_ cy (rl_28 7) 12 (Ml_30 7), ai_ cy (rl_28 8) 12 (Ml_30 8), ai_ cy (rl_28 9) 12 (Ml_30 9), ai_ cy (rl_28 10) 12 (Ml_30 10), ai_ cy (rl_28 11) 12 (Ml_30 11), aq_ cy 6 cro_22 12 (gf_ rr_29), ai_ cy (rr_29 0) 12 (Mr_31 0), ai_ cy (rr_29 1) 12 (Mr_31 1), ai_ cy (rr_29 2) 12 (Mr_31 2), ai_ cy (rr_29 3) 12 (Mr_31 3), ai_ cy (rr_29 4) 12 (Mr_31 4), ai_ cy (rr_29 5) 12 (Mr_31 5), ai_ cy (rr_29 6) 12 (Mr_31 6), ai_ cy (rr_29 7) 12 (Mr_31 7), ai_ cy (rr_29 8) 12 (Mr_31 8), ai_ cy (rr_29 9) 12 (Mr_31 9), ai_ cy (rr_29 10) 12 (Mr_31 10), ai_ cy (rr_29 11) 12 (Mr_31 11), ai_ cy c4_23 40 (fun _ => 0), ai_ cy c5_24 40 (fun _ => 0), ai_ cy c6_25 40 (fun _ => 0), ai_ cy c7_26 12 (fun _ => 0), ai_ cy c8_27 12 (fun _ => 0), ob7_0_ q_32 q_19 0 0 0 0 0 0 0 0, ob1_0_ q_34 q_19 ta_36 tb_37, ai_ cy ta_36 12 (fun _ => 0), ai_ cy tb_37 12 (fun _ => 0), ob10_0_ q_38 q_19 q_1 wpo_40 wc_41 wf_42, aq_ cy 6 wpo_40 12 (gf_ rp_43), ai_ cy (rp_43 0) 12 (Mp_44 0), ai_ cy (rp_43 1) 12 (Mp_44 1), ai_ cy (rp_43 2) 12 (Mp_44 2), ai_ cy (rp_43 3) 12 (Mp_44 3), ai_ cy (rp_43 4) 12 (Mp_44 4), ai_ cy (rp_43 5) 12 (Mp_44 5), ai_ cy (rp_43 6) 12 (Mp_44 6), ai_ cy (rp_43 7) 12 (Mp_44 7), ai_ cy (rp_43 8) 12 (Mp_44 8), ai_ cy (rp_43 9) 12 (Mp_44 9), ai_ cy (rp_43 10) 12 (Mp_44 10), ai_ cy (rp_43 11) 12 (Mp_44 11), ai_ cy wc_41 12 (fun _ => 0), ai_ cy wf_42 12 (fun _ => 0), aq_ cy 4 q_45 4 (va_up (va_up (va_up (fun _ => none) (0 : Int32).toNatClampNeg (some q_46)) (1 : Int32).toNatClampNeg (some q_50)) (2 : Int32).toNatClampNeg (some q_54)), ob4_0_ q_46 0 (-9) l1_48 l2_49, ai_ cy l1_48 6 (fun _ => 0), aj_ cy l2_49 30 (fun _ => 0), ob4_0_ q_50 0 (-9) l1_52 l2_53, ai_ cy l1_52 6 (fun _ => 0), aj_ cy l2_53 30 (fun _ => 0), ob4_0_ q_54 0 (-9) l1_56 l2_57, ai_ cy l1_56 6 (fun _ => 0), aj_ cy l2_57 30 (fun _ => 0)]) (w1 := [ob4_0_ q_58 0 (-9) l1_60 l2_61, ai_ cy l1_60 6 (fun _ => 0), aj_ cy l2_61 30 (fun _ => 0)]) hP hD [75] [0, 1, 2, 3, 4, 5, 6, 7, 8, 9, 10, 11, 12, 13, 14, 15, 16, 17, 18, 19, 20, 21, 22, 23, 24, 25, 26, 27, 28, 29, 30, 31, 32, 33, 34, 35, 36, 37, 38, 39, 40, 41, 42, 43, 44, 45, 46, 47, 48, 49, 50, 51, 52, 53, 54, 55, 56, 57, 58, 59, 60, 61, 62, 63, 64, 65, 66, 67, 68, 69, 70, 71, 72, 73, 74] rfl rfl (by decide +kernel) (by decide +kernel) hk1 hFc hP1 hD1
  refine pd_K [ob11_7_ xo q_1 q_12 q_19 q_32 q_34 q_38 0 0 0 0, aq_ cy 3 q_1 5 (kf_ q_2 q_4 q_6 q_8 q_10), ob6_0_ q_2, ob5_0_ q_4, ob9_0_ q_6, ob2_0_ q_8, ob8_0_ q_10, ob3_0_ q_12 0 0 n1_14 n2_15 n3_16 n4_17 n5_18, ai_ cy n1_14 40 (fun _ => 0), ai_ cy n2_15 40 (fun _ => 0), ai_ cy n3_16 40 (fun _ => 0), ai_ cy n4_17 40 (fun _ => 0), ai_ cy n5_18 40 (fun _ => 0), ob0_0_ q_19 q_12 q_1 clo_21 cro_22 c4_23 c5_24 c6_25 c7_26 c8_27, aq_ cy 6 clo_21 12 (gf_ rl_28), ai_ cy (rl_28 0) 12 (Ml_30 0), ai_ cy (rl_28 1) 12 (Ml_30 1), ai_ cy (rl_28 2) 12 (Ml_30 2), ai_ cy (rl_28 3) 12 (Ml_30 3), ai_ cy (rl_28 4) 12 (Ml_30 4), ai_ cy (rl_28 5) 12 (Ml_30 5), ai_ cy (rl_28 6) 12 (Ml_30 6), ai_ cy (rl_28 7) 12 (Ml_30 7), ai_ cy (rl_28 8) 12 (Ml_30 8), ai_ cy (rl_28 9) 12 (Ml_30 9), ai_ cy (rl_28 10) 12 (Ml_30 10), ai_ cy (rl_28 11) 12 (Ml_30 11), aq_ cy 6 cro_22 12 (gf_ rr_29), ai_ cy (rr_29 0) 12 (Mr_31 0), ai_ cy (rr_29 1) 12 (Mr_31 1), ai_ cy (rr_29 2) 12 (Mr_31 2), ai_ cy (rr_29 3) 12 (Mr_31 3), ai_ cy (rr_29 4) 12 (Mr_31 4), ai_ cy (rr_29 5) 12 (Mr_31 5), ai_ cy (rr_29 6) 12 (Mr_31 6), ai_ cy (rr_29 7) 12 (Mr_31 7), ai_ cy (rr_29 8) 12 (Mr_31 8), ai_ cy (rr_29 9) 12 (Mr_31 9), ai_ cy (rr_29 10) 12 (Mr_31 10), ai_ cy (rr_29 11) 12 (Mr_31 11), ai_ cy c4_23 40 (fun _ => 0), ai_ cy c5_24 40 (fun _ => 0), ai_ cy c6_25 40 (fun _ => 0), ai_ cy c7_26 12 (fun _ => 0), ai_ cy c8_27 12 (fun _ => 0), ob7_0_ q_32 q_19 0 0 0 0 0 0 0 0, ob1_0_ q_34 q_19 ta_36 tb_37, ai_ cy ta_36 12 (fun _ => 0), ai_ cy tb_37 12 (fun _ => 0), ob10_0_ q_38 q_19 q_1 wpo_40 wc_41 wf_42, aq_ cy 6 wpo_40 12 (gf_ rp_43), ai_ cy (rp_43 0) 12 (Mp_44 0), ai_ cy (rp_43 1) 12 (Mp_44 1), ai_ cy (rp_43 2) 12 (Mp_44 2), ai_ cy (rp_43 3) 12 (Mp_44 3), ai_ cy (rp_43 4) 12 (Mp_44 4), ai_ cy (rp_43 5) 12 (Mp_44 5), ai_ cy (rp_43 6) 12 (Mp_44 6), ai_ cy (rp_43 7) 12 (Mp_44 7), ai_ cy (rp_43 8) 12 (Mp_44 8), ai_ cy (rp_43 9) 12 (Mp_44 9), ai_ cy (rp_43 10) 12 (Mp_44 10), ai_ cy (rp_43 11) 12 (Mp_44 11), ai_ cy wc_41 12 (fun _ => 0), ai_ cy wf_42 12 (fun _ => 0), aq_ cy 4 q_45 4 (va_up (va_up (va_up (fun _ => none) (0 : Int32).toNatClampNeg (some q_46)) (1 : Int32).toNatClampNeg (some q_50)) (2 : Int32).toNatClampNeg (some q_54)), ob4_0_ q_46 0 (-9) l1_48 l2_49, ai_ cy l1_48 6 (fun _ => 0), aj_ cy l2_49 30 (fun _ => 0), ob4_0_ q_50 0 (-9) l1_52 l2_53, ai_ cy l1_52 6 (fun _ => 0), aj_ cy l2_53 30 (fun _ => 0), ob4_0_ q_54 0 (-9) l1_56 l2_57, ai_ cy l1_56 6 (fun _ => 0), aj_ cy l2_57 30 (fun _ => 0), ob4_0_ q_58 0 (-9) l1_60 l2_61, ai_ cy l1_60 6 (fun _ => 0), aj_ cy l2_61 30 (fun _ => 0)] hP hD (fun hP hD => ?_)
  refine va_astq hx hb hK.1 hP hD hS 65 4 75 4 rfl rfl rfl rfl (i := 3) (by unfold vp_in; decide) dB_36_2_43.1.1.2.2 (fun H locs hP hD hS => ?_)
  refine pd_K [ob11_7_ xo q_1 q_12 q_19 q_32 q_34 q_38 0 0 0 0, aq_ cy 3 q_1 5 (kf_ q_2 q_4 q_6 q_8 q_10), ob6_0_ q_2, ob5_0_ q_4, ob9_0_ q_6, ob2_0_ q_8, ob8_0_ q_10, ob3_0_ q_12 0 0 n1_14 n2_15 n3_16 n4_17 n5_18, ai_ cy n1_14 40 (fun _ => 0), ai_ cy n2_15 40 (fun _ => 0), ai_ cy n3_16 40 (fun _ => 0), ai_ cy n4_17 40 (fun _ => 0), ai_ cy n5_18 40 (fun _ => 0), ob0_0_ q_19 q_12 q_1 clo_21 cro_22 c4_23 c5_24 c6_25 c7_26 c8_27, aq_ cy 6 clo_21 12 (gf_ rl_28), ai_ cy (rl_28 0) 12 (Ml_30 0), ai_ cy (rl_28 1) 12 (Ml_30 1), ai_ cy (rl_28 2) 12 (Ml_30 2), ai_ cy (rl_28 3) 12 (Ml_30 3), ai_ cy (rl_28 4) 12 (Ml_30 4), ai_ cy (rl_28 5) 12 (Ml_30 5), ai_ cy (rl_28 6) 12 (Ml_30 6), ai_ cy (rl_28 7) 12 (Ml_30 7), ai_ cy (rl_28 8) 12 (Ml_30 8), ai_ cy (rl_28 9) 12 (Ml_30 9), ai_ cy (rl_28 10) 12 (Ml_30 10), ai_ cy (rl_28 11) 12 (Ml_30 11), aq_ cy 6 cro_22 12 (gf_ rr_29), ai_ cy (rr_29 0) 12 (Mr_31 0), ai_ cy (rr_29 1) 12 (Mr_31 1), ai_ cy (rr_29 2) 12 (Mr_31 2), ai_ cy (rr_29 3) 12 (Mr_31 3), ai_ cy (rr_29 4) 12 (Mr_31 4), ai_ cy (rr_29 5) 12 (Mr_31 5), ai_ cy (rr_29 6) 12 (Mr_31 6), ai_ cy (rr_29 7) 12 (Mr_31 7), ai_ cy (rr_29 8) 12 (Mr_31 8), ai_ cy (rr_29 9) 12 (Mr_31 9), ai_ cy (rr_29 10) 12 (Mr_31 10), ai_ cy (rr_29 11) 12 (Mr_31 11), ai_ cy c4_23 40 (fun _ => 0), ai_ cy c5_24 40 (fun _ => 0), ai_ cy c6_25 40 (fun _ => 0), ai_ cy c7_26 12 (fun _ => 0), ai_ cy c8_27 12 (fun _ => 0), ob7_0_ q_32 q_19 0 0 0 0 0 0 0 0, ob1_0_ q_34 q_19 ta_36 tb_37, ai_ cy ta_36 12 (fun _ => 0), ai_ cy tb_37 12 (fun _ => 0), ob10_0_ q_38 q_19 q_1 wpo_40 wc_41 wf_42, aq_ cy 6 wpo_40 12 (gf_ rp_43), ai_ cy (rp_43 0) 12 (Mp_44 0), ai_ cy (rp_43 1) 12 (Mp_44 1), ai_ cy (rp_43 2) 12 (Mp_44 2), ai_ cy (rp_43 3) 12 (Mp_44 3), ai_ cy (rp_43 4) 12 (Mp_44 4), ai_ cy (rp_43 5) 12 (Mp_44 5), ai_ cy (rp_43 6) 12 (Mp_44 6), ai_ cy (rp_43 7) 12 (Mp_44 7), ai_ cy (rp_43 8) 12 (Mp_44 8), ai_ cy (rp_43 9) 12 (Mp_44 9), ai_ cy (rp_43 10) 12 (Mp_44 10), ai_ cy (rp_43 11) 12 (Mp_44 11), ai_ cy wc_41 12 (fun _ => 0), ai_ cy wf_42 12 (fun _ => 0), aq_ cy 4 q_45 4 (va_up (va_up (va_up (va_up (fun _ => none) (0 : Int32).toNatClampNeg (some q_46)) (1 : Int32).toNatClampNeg (some q_50)) (2 : Int32).toNatClampNeg (some q_54)) (3 : Int32).toNatClampNeg (some q_58)), ob4_0_ q_46 0 (-9) l1_48 l2_49, ai_ cy l1_48 6 (fun _ => 0), aj_ cy l2_49 30 (fun _ => 0), ob4_0_ q_50 0 (-9) l1_52 l2_53, ai_ cy l1_52 6 (fun _ => 0), aj_ cy l2_53 30 (fun _ => 0), ob4_0_ q_54 0 (-9) l1_56 l2_57, ai_ cy l1_56 6 (fun _ => 0), aj_ cy l2_57 30 (fun _ => 0), ob4_0_ q_58 0 (-9) l1_60 l2_61, ai_ cy l1_60 6 (fun _ => 0), aj_ cy l2_61 30 (fun _ => 0)] hP hD (fun hP hD => ?_)
  have ef_ : (va_up (va_up (va_up (va_up (fun _ => none) (0 : Int32).toNatClampNeg (some q_46)) (1 : Int32).toNatClampNeg (some q_50)) (2 : Int32).toNatClampNeg (some q_54)) (3 : Int32).toNatClampNeg (some q_58)) = (mf_ q_46 q_50 q_54 q_58) := by exact mf_up
  rw [ef_] at hP hD
  clear ef_
  refine va_putF (ci := 11) (v := .ref q_45) (ty := (tyX11 6)) (C := RX11) (T := TX11) (N := 12) hx hb hts (fun _ h => List.mem_cons_of_mem _ (List.mem_append_left _ (List.mem_append_left _ (List.mem_append_left _ (List.mem_append_left _ (List.mem_append_left _ (List.mem_append_left _ (List.mem_append_right _ h)))))))) tyX11 tyX11_ok nmX11 hown hK.1 hP hD hS 0 rfl rfl 6 (by decide) (hts (.fieldLink RX11 72 "CutAtlas" "maps" "[LCutAtlas$NumberMap;") (pc_X11_init wsX11_init_r2 (List.mem_of_getElem? (i := 2) rfl) _ (List.mem_of_getElem? (i := 18) rfl))) (fun _ h9 => h9) rfl hin rfl (by decide +kernel) rfl rfl (Nat.le_of_ble_eq_true rfl) dB_36_2_43.1.2.1.1 (fun H locs hP hD hS => ?_)
  refine pd_K [ob11_8_ xo q_1 q_12 q_19 q_32 q_34 q_38 q_45 0 0 0 0, aq_ cy 3 q_1 5 (kf_ q_2 q_4 q_6 q_8 q_10), ob6_0_ q_2, ob5_0_ q_4, ob9_0_ q_6, ob2_0_ q_8, ob8_0_ q_10, ob3_0_ q_12 0 0 n1_14 n2_15 n3_16 n4_17 n5_18, ai_ cy n1_14 40 (fun _ => 0), ai_ cy n2_15 40 (fun _ => 0), ai_ cy n3_16 40 (fun _ => 0), ai_ cy n4_17 40 (fun _ => 0), ai_ cy n5_18 40 (fun _ => 0), ob0_0_ q_19 q_12 q_1 clo_21 cro_22 c4_23 c5_24 c6_25 c7_26 c8_27, aq_ cy 6 clo_21 12 (gf_ rl_28), ai_ cy (rl_28 0) 12 (Ml_30 0), ai_ cy (rl_28 1) 12 (Ml_30 1), ai_ cy (rl_28 2) 12 (Ml_30 2), ai_ cy (rl_28 3) 12 (Ml_30 3), ai_ cy (rl_28 4) 12 (Ml_30 4), ai_ cy (rl_28 5) 12 (Ml_30 5), ai_ cy (rl_28 6) 12 (Ml_30 6), ai_ cy (rl_28 7) 12 (Ml_30 7), ai_ cy (rl_28 8) 12 (Ml_30 8), ai_ cy (rl_28 9) 12 (Ml_30 9), ai_ cy (rl_28 10) 12 (Ml_30 10), ai_ cy (rl_28 11) 12 (Ml_30 11), aq_ cy 6 cro_22 12 (gf_ rr_29), ai_ cy (rr_29 0) 12 (Mr_31 0), ai_ cy (rr_29 1) 12 (Mr_31 1), ai_ cy (rr_29 2) 12 (Mr_31 2), ai_ cy (rr_29 3) 12 (Mr_31 3), ai_ cy (rr_29 4) 12 (Mr_31 4), ai_ cy (rr_29 5) 12 (Mr_31 5), ai_ cy (rr_29 6) 12 (Mr_31 6), ai_ cy (rr_29 7) 12 (Mr_31 7), ai_ cy (rr_29 8) 12 (Mr_31 8), ai_ cy (rr_29 9) 12 (Mr_31 9), ai_ cy (rr_29 10) 12 (Mr_31 10), ai_ cy (rr_29 11) 12 (Mr_31 11), ai_ cy c4_23 40 (fun _ => 0), ai_ cy c5_24 40 (fun _ => 0), ai_ cy c6_25 40 (fun _ => 0), ai_ cy c7_26 12 (fun _ => 0), ai_ cy c8_27 12 (fun _ => 0), ob7_0_ q_32 q_19 0 0 0 0 0 0 0 0, ob1_0_ q_34 q_19 ta_36 tb_37, ai_ cy ta_36 12 (fun _ => 0), ai_ cy tb_37 12 (fun _ => 0), ob10_0_ q_38 q_19 q_1 wpo_40 wc_41 wf_42, aq_ cy 6 wpo_40 12 (gf_ rp_43), ai_ cy (rp_43 0) 12 (Mp_44 0), ai_ cy (rp_43 1) 12 (Mp_44 1), ai_ cy (rp_43 2) 12 (Mp_44 2), ai_ cy (rp_43 3) 12 (Mp_44 3), ai_ cy (rp_43 4) 12 (Mp_44 4), ai_ cy (rp_43 5) 12 (Mp_44 5), ai_ cy (rp_43 6) 12 (Mp_44 6), ai_ cy (rp_43 7) 12 (Mp_44 7), ai_ cy (rp_43 8) 12 (Mp_44 8), ai_ cy (rp_43 9) 12 (Mp_44 9), ai_ cy (rp_43 10) 12 (Mp_44 10), ai_ cy (rp_43 11) 12 (Mp_44 11), ai_ cy wc_41 12 (fun _ => 0), ai_ cy wf_42 12 (fun _ => 0), aq_ cy 4 q_45 4 (mf_ q_46 q_50 q_54 q_58), ob4_0_ q_46 0 (-9) l1_48 l2_49, ai_ cy l1_48 6 (fun _ => 0), aj_ cy l2_49 30 (fun _ => 0), ob4_0_ q_50 0 (-9) l1_52 l2_53, ai_ cy l1_52 6 (fun _ => 0), aj_ cy l2_53 30 (fun _ => 0), ob4_0_ q_54 0 (-9) l1_56 l2_57, ai_ cy l1_56 6 (fun _ => 0), aj_ cy l2_57 30 (fun _ => 0), ob4_0_ q_58 0 (-9) l1_60 l2_61, ai_ cy l1_60 6 (fun _ => 0), aj_ cy l2_61 30 (fun _ => 0)] hP hD (fun hP hD => ?_)
  refine lv_aload_n hx hb dB_36_2_43.1.2.1.2 rfl (lv_at hl 0 rfl) ?_
  refine lv_bipush (v := 30) hx hb dB_36_2_43.1.2.2.1 (by decide) ?_
  refine nw_q hx hb hown (hts (.classLink RX11 28 RX3) (pc_X11_init wsX11_init_r1 (List.mem_of_getElem? (i := 1) rfl) _ (List.mem_of_getElem? (i := 19) rfl))) (kk_ao5 hK) hK.1 5 rfl hP hD hS hA (by decide) (by decide : _ = 30) (by decide) (Nat.le_of_ble_eq_true rfl) (Nat.le_of_ble_eq_true rfl) dB_36_2_43.1.2.2.2 (fun q_62 H hP hD hS => ?_)
  refine pd_K [ob11_8_ xo q_1 q_12 q_19 q_32 q_34 q_38 q_45 0 0 0 0, aq_ cy 3 q_1 5 (kf_ q_2 q_4 q_6 q_8 q_10), ob6_0_ q_2, ob5_0_ q_4, ob9_0_ q_6, ob2_0_ q_8, ob8_0_ q_10, ob3_0_ q_12 0 0 n1_14 n2_15 n3_16 n4_17 n5_18, ai_ cy n1_14 40 (fun _ => 0), ai_ cy n2_15 40 (fun _ => 0), ai_ cy n3_16 40 (fun _ => 0), ai_ cy n4_17 40 (fun _ => 0), ai_ cy n5_18 40 (fun _ => 0), ob0_0_ q_19 q_12 q_1 clo_21 cro_22 c4_23 c5_24 c6_25 c7_26 c8_27, aq_ cy 6 clo_21 12 (gf_ rl_28), ai_ cy (rl_28 0) 12 (Ml_30 0), ai_ cy (rl_28 1) 12 (Ml_30 1), ai_ cy (rl_28 2) 12 (Ml_30 2), ai_ cy (rl_28 3) 12 (Ml_30 3), ai_ cy (rl_28 4) 12 (Ml_30 4), ai_ cy (rl_28 5) 12 (Ml_30 5), ai_ cy (rl_28 6) 12 (Ml_30 6), ai_ cy (rl_28 7) 12 (Ml_30 7), ai_ cy (rl_28 8) 12 (Ml_30 8), ai_ cy (rl_28 9) 12 (Ml_30 9), ai_ cy (rl_28 10) 12 (Ml_30 10), ai_ cy (rl_28 11) 12 (Ml_30 11), aq_ cy 6 cro_22 12 (gf_ rr_29), ai_ cy (rr_29 0) 12 (Mr_31 0), ai_ cy (rr_29 1) 12 (Mr_31 1), ai_ cy (rr_29 2) 12 (Mr_31 2), ai_ cy (rr_29 3) 12 (Mr_31 3), ai_ cy (rr_29 4) 12 (Mr_31 4), ai_ cy (rr_29 5) 12 (Mr_31 5), ai_ cy (rr_29 6) 12 (Mr_31 6), ai_ cy (rr_29 7) 12 (Mr_31 7), ai_ cy (rr_29 8) 12 (Mr_31 8), ai_ cy (rr_29 9) 12 (Mr_31 9), ai_ cy (rr_29 10) 12 (Mr_31 10), ai_ cy (rr_29 11) 12 (Mr_31 11), ai_ cy c4_23 40 (fun _ => 0), ai_ cy c5_24 40 (fun _ => 0), ai_ cy c6_25 40 (fun _ => 0), ai_ cy c7_26 12 (fun _ => 0), ai_ cy c8_27 12 (fun _ => 0), ob7_0_ q_32 q_19 0 0 0 0 0 0 0 0, ob1_0_ q_34 q_19 ta_36 tb_37, ai_ cy ta_36 12 (fun _ => 0), ai_ cy tb_37 12 (fun _ => 0), ob10_0_ q_38 q_19 q_1 wpo_40 wc_41 wf_42, aq_ cy 6 wpo_40 12 (gf_ rp_43), ai_ cy (rp_43 0) 12 (Mp_44 0), ai_ cy (rp_43 1) 12 (Mp_44 1), ai_ cy (rp_43 2) 12 (Mp_44 2), ai_ cy (rp_43 3) 12 (Mp_44 3), ai_ cy (rp_43 4) 12 (Mp_44 4), ai_ cy (rp_43 5) 12 (Mp_44 5), ai_ cy (rp_43 6) 12 (Mp_44 6), ai_ cy (rp_43 7) 12 (Mp_44 7), ai_ cy (rp_43 8) 12 (Mp_44 8), ai_ cy (rp_43 9) 12 (Mp_44 9), ai_ cy (rp_43 10) 12 (Mp_44 10), ai_ cy (rp_43 11) 12 (Mp_44 11), ai_ cy wc_41 12 (fun _ => 0), ai_ cy wf_42 12 (fun _ => 0), aq_ cy 4 q_45 4 (mf_ q_46 q_50 q_54 q_58), ob4_0_ q_46 0 (-9) l1_48 l2_49, ai_ cy l1_48 6 (fun _ => 0), aj_ cy l2_49 30 (fun _ => 0), ob4_0_ q_50 0 (-9) l1_52 l2_53, ai_ cy l1_52 6 (fun _ => 0), aj_ cy l2_53 30 (fun _ => 0), ob4_0_ q_54 0 (-9) l1_56 l2_57, ai_ cy l1_56 6 (fun _ => 0), aj_ cy l2_57 30 (fun _ => 0), ob4_0_ q_58 0 (-9) l1_60 l2_61, ai_ cy l1_60 6 (fun _ => 0), aj_ cy l2_61 30 (fun _ => 0), aq_ cy 5 q_62 30 (fun _ => none)] hP hD (fun hP hD => ?_)
  refine va_putF (ci := 11) (v := .ref q_62) (ty := (tyX11 7)) (C := RX11) (T := TX11) (N := 12) hx hb hts (fun _ h => List.mem_cons_of_mem _ (List.mem_append_left _ (List.mem_append_left _ (List.mem_append_left _ (List.mem_append_left _ (List.mem_append_left _ (List.mem_append_left _ (List.mem_append_right _ h)))))))) tyX11 tyX11_ok nmX11 hown hK.1 hP hD hS 0 rfl rfl 7 (by decide) (hts (.fieldLink RX11 76 "CutAtlas" "past" "[LCutAtlas$Net;") (pc_X11_init wsX11_init_r2 (List.mem_of_getElem? (i := 2) rfl) _ (List.mem_of_getElem? (i := 19) rfl))) (fun _ h9 => h9) rfl hin rfl (by decide +kernel) rfl rfl (Nat.le_of_ble_eq_true rfl) dB_36_2_43.2.1.1.1 (fun H locs hP hD hS => ?_)
  refine pd_K [ob11_0_ xo q_1 q_12 q_19 q_32 q_34 q_38 q_45 q_62 0 0 0 0, aq_ cy 3 q_1 5 (kf_ q_2 q_4 q_6 q_8 q_10), ob6_0_ q_2, ob5_0_ q_4, ob9_0_ q_6, ob2_0_ q_8, ob8_0_ q_10, ob3_0_ q_12 0 0 n1_14 n2_15 n3_16 n4_17 n5_18, ai_ cy n1_14 40 (fun _ => 0), ai_ cy n2_15 40 (fun _ => 0), ai_ cy n3_16 40 (fun _ => 0), ai_ cy n4_17 40 (fun _ => 0), ai_ cy n5_18 40 (fun _ => 0), ob0_0_ q_19 q_12 q_1 clo_21 cro_22 c4_23 c5_24 c6_25 c7_26 c8_27, aq_ cy 6 clo_21 12 (gf_ rl_28), ai_ cy (rl_28 0) 12 (Ml_30 0), ai_ cy (rl_28 1) 12 (Ml_30 1), ai_ cy (rl_28 2) 12 (Ml_30 2), ai_ cy (rl_28 3) 12 (Ml_30 3), ai_ cy (rl_28 4) 12 (Ml_30 4), ai_ cy (rl_28 5) 12 (Ml_30 5), ai_ cy (rl_28 6) 12 (Ml_30 6), ai_ cy (rl_28 7) 12 (Ml_30 7), ai_ cy (rl_28 8) 12 (Ml_30 8), ai_ cy (rl_28 9) 12 (Ml_30 9), ai_ cy (rl_28 10) 12 (Ml_30 10), ai_ cy (rl_28 11) 12 (Ml_30 11), aq_ cy 6 cro_22 12 (gf_ rr_29), ai_ cy (rr_29 0) 12 (Mr_31 0), ai_ cy (rr_29 1) 12 (Mr_31 1), ai_ cy (rr_29 2) 12 (Mr_31 2), ai_ cy (rr_29 3) 12 (Mr_31 3), ai_ cy (rr_29 4) 12 (Mr_31 4), ai_ cy (rr_29 5) 12 (Mr_31 5), ai_ cy (rr_29 6) 12 (Mr_31 6), ai_ cy (rr_29 7) 12 (Mr_31 7), ai_ cy (rr_29 8) 12 (Mr_31 8), ai_ cy (rr_29 9) 12 (Mr_31 9), ai_ cy (rr_29 10) 12 (Mr_31 10), ai_ cy (rr_29 11) 12 (Mr_31 11), ai_ cy c4_23 40 (fun _ => 0), ai_ cy c5_24 40 (fun _ => 0), ai_ cy c6_25 40 (fun _ => 0), ai_ cy c7_26 12 (fun _ => 0), ai_ cy c8_27 12 (fun _ => 0), ob7_0_ q_32 q_19 0 0 0 0 0 0 0 0, ob1_0_ q_34 q_19 ta_36 tb_37, ai_ cy ta_36 12 (fun _ => 0), ai_ cy tb_37 12 (fun _ => 0), ob10_0_ q_38 q_19 q_1 wpo_40 wc_41 wf_42, aq_ cy 6 wpo_40 12 (gf_ rp_43), ai_ cy (rp_43 0) 12 (Mp_44 0), ai_ cy (rp_43 1) 12 (Mp_44 1), ai_ cy (rp_43 2) 12 (Mp_44 2), ai_ cy (rp_43 3) 12 (Mp_44 3), ai_ cy (rp_43 4) 12 (Mp_44 4), ai_ cy (rp_43 5) 12 (Mp_44 5), ai_ cy (rp_43 6) 12 (Mp_44 6), ai_ cy (rp_43 7) 12 (Mp_44 7), ai_ cy (rp_43 8) 12 (Mp_44 8), ai_ cy (rp_43 9) 12 (Mp_44 9), ai_ cy (rp_43 10) 12 (Mp_44 10), ai_ cy (rp_43 11) 12 (Mp_44 11), ai_ cy wc_41 12 (fun _ => 0), ai_ cy wf_42 12 (fun _ => 0), aq_ cy 4 q_45 4 (mf_ q_46 q_50 q_54 q_58), ob4_0_ q_46 0 (-9) l1_48 l2_49, ai_ cy l1_48 6 (fun _ => 0), aj_ cy l2_49 30 (fun _ => 0), ob4_0_ q_50 0 (-9) l1_52 l2_53, ai_ cy l1_52 6 (fun _ => 0), aj_ cy l2_53 30 (fun _ => 0), ob4_0_ q_54 0 (-9) l1_56 l2_57, ai_ cy l1_56 6 (fun _ => 0), aj_ cy l2_57 30 (fun _ => 0), ob4_0_ q_58 0 (-9) l1_60 l2_61, ai_ cy l1_60 6 (fun _ => 0), aj_ cy l2_61 30 (fun _ => 0), aq_ cy 5 q_62 30 (fun _ => none)] hP hD (fun hP hD => ?_)
  refine lv_aload_n hx hb dB_36_2_43.2.1.1.2 rfl (lv_at hl 0 rfl) ?_
  refine lv_iconst (v := 0) hx hb dB_36_2_43.2.1.2.1 (by decide) ?_
  refine va_put (ci := 11) (v := .int 0) (ty := .int) (C := RX11) (T := TX11) (N := 12) hx hb hts (fun _ h => List.mem_cons_of_mem _ (List.mem_append_left _ (List.mem_append_left _ (List.mem_append_left _ (List.mem_append_left _ (List.mem_append_left _ (List.mem_append_left _ (List.mem_append_right _ h)))))))) tyX11 tyX11_ok nmX11 hown hK.1 hP hD hS 0 rfl rfl 8 (by decide) (hts (.fieldLink RX11 80 "CutAtlas" "pastFirst" "I") (pc_X11_init wsX11_init_r2 (List.mem_of_getElem? (i := 2) rfl) _ (List.mem_of_getElem? (i := 20) rfl))) (fun _ h9 => h9) rfl (by decide +kernel) rfl rfl (Nat.le_of_ble_eq_true rfl) dB_36_2_43.2.1.2.2 (fun H locs hP hD hS => ?_)
  refine pd_K [ob11_0_ xo q_1 q_12 q_19 q_32 q_34 q_38 q_45 q_62 0 0 0 0, aq_ cy 3 q_1 5 (kf_ q_2 q_4 q_6 q_8 q_10), ob6_0_ q_2, ob5_0_ q_4, ob9_0_ q_6, ob2_0_ q_8, ob8_0_ q_10, ob3_0_ q_12 0 0 n1_14 n2_15 n3_16 n4_17 n5_18, ai_ cy n1_14 40 (fun _ => 0), ai_ cy n2_15 40 (fun _ => 0), ai_ cy n3_16 40 (fun _ => 0), ai_ cy n4_17 40 (fun _ => 0), ai_ cy n5_18 40 (fun _ => 0), ob0_0_ q_19 q_12 q_1 clo_21 cro_22 c4_23 c5_24 c6_25 c7_26 c8_27, aq_ cy 6 clo_21 12 (gf_ rl_28), ai_ cy (rl_28 0) 12 (Ml_30 0), ai_ cy (rl_28 1) 12 (Ml_30 1), ai_ cy (rl_28 2) 12 (Ml_30 2), ai_ cy (rl_28 3) 12 (Ml_30 3), ai_ cy (rl_28 4) 12 (Ml_30 4), ai_ cy (rl_28 5) 12 (Ml_30 5), ai_ cy (rl_28 6) 12 (Ml_30 6), ai_ cy (rl_28 7) 12 (Ml_30 7), ai_ cy (rl_28 8) 12 (Ml_30 8), ai_ cy (rl_28 9) 12 (Ml_30 9), ai_ cy (rl_28 10) 12 (Ml_30 10), ai_ cy (rl_28 11) 12 (Ml_30 11), aq_ cy 6 cro_22 12 (gf_ rr_29), ai_ cy (rr_29 0) 12 (Mr_31 0), ai_ cy (rr_29 1) 12 (Mr_31 1), ai_ cy (rr_29 2) 12 (Mr_31 2), ai_ cy (rr_29 3) 12 (Mr_31 3), ai_ cy (rr_29 4) 12 (Mr_31 4), ai_ cy (rr_29 5) 12 (Mr_31 5), ai_ cy (rr_29 6) 12 (Mr_31 6), ai_ cy (rr_29 7) 12 (Mr_31 7), ai_ cy (rr_29 8) 12 (Mr_31 8), ai_ cy (rr_29 9) 12 (Mr_31 9), ai_ cy (rr_29 10) 12 (Mr_31 10), ai_ cy (rr_29 11) 12 (Mr_31 11), ai_ cy c4_23 40 (fun _ => 0), ai_ cy c5_24 40 (fun _ => 0), ai_ cy c6_25 40 (fun _ => 0), ai_ cy c7_26 12 (fun _ => 0), ai_ cy c8_27 12 (fun _ => 0), ob7_0_ q_32 q_19 0 0 0 0 0 0 0 0, ob1_0_ q_34 q_19 ta_36 tb_37, ai_ cy ta_36 12 (fun _ => 0), ai_ cy tb_37 12 (fun _ => 0), ob10_0_ q_38 q_19 q_1 wpo_40 wc_41 wf_42, aq_ cy 6 wpo_40 12 (gf_ rp_43), ai_ cy (rp_43 0) 12 (Mp_44 0), ai_ cy (rp_43 1) 12 (Mp_44 1), ai_ cy (rp_43 2) 12 (Mp_44 2), ai_ cy (rp_43 3) 12 (Mp_44 3), ai_ cy (rp_43 4) 12 (Mp_44 4), ai_ cy (rp_43 5) 12 (Mp_44 5), ai_ cy (rp_43 6) 12 (Mp_44 6), ai_ cy (rp_43 7) 12 (Mp_44 7), ai_ cy (rp_43 8) 12 (Mp_44 8), ai_ cy (rp_43 9) 12 (Mp_44 9), ai_ cy (rp_43 10) 12 (Mp_44 10), ai_ cy (rp_43 11) 12 (Mp_44 11), ai_ cy wc_41 12 (fun _ => 0), ai_ cy wf_42 12 (fun _ => 0), aq_ cy 4 q_45 4 (mf_ q_46 q_50 q_54 q_58), ob4_0_ q_46 0 (-9) l1_48 l2_49, ai_ cy l1_48 6 (fun _ => 0), aj_ cy l2_49 30 (fun _ => 0), ob4_0_ q_50 0 (-9) l1_52 l2_53, ai_ cy l1_52 6 (fun _ => 0), aj_ cy l2_53 30 (fun _ => 0), ob4_0_ q_54 0 (-9) l1_56 l2_57, ai_ cy l1_56 6 (fun _ => 0), aj_ cy l2_57 30 (fun _ => 0), ob4_0_ q_58 0 (-9) l1_60 l2_61, ai_ cy l1_60 6 (fun _ => 0), aj_ cy l2_61 30 (fun _ => 0), aq_ cy 5 q_62 30 (fun _ => none)] hP hD (fun hP hD => ?_)
  refine lv_aload_n hx hb dB_36_2_43.2.2.1.1 rfl (lv_at hl 0 rfl) ?_
  refine lv_iconst (v := 0) hx hb dB_36_2_43.2.2.1.2 (by decide) ?_
  refine va_put (ci := 11) (v := .int 0) (ty := .int) (C := RX11) (T := TX11) (N := 12) hx hb hts (fun _ h => List.mem_cons_of_mem _ (List.mem_append_left _ (List.mem_append_left _ (List.mem_append_left _ (List.mem_append_left _ (List.mem_append_left _ (List.mem_append_left _ (List.mem_append_right _ h)))))))) tyX11 tyX11_ok nmX11 hown hK.1 hP hD hS 0 rfl rfl 9 (by decide) (hts (.fieldLink RX11 84 "CutAtlas" "pastHeld" "I") (pc_X11_init wsX11_init_r2 (List.mem_of_getElem? (i := 2) rfl) _ (List.mem_of_getElem? (i := 21) rfl))) (fun _ h9 => h9) rfl (by decide +kernel) rfl rfl (Nat.le_of_ble_eq_true rfl) dB_36_2_43.2.2.2.1 (fun H locs hP hD hS => ?_)
  refine pd_K [ob11_0_ xo q_1 q_12 q_19 q_32 q_34 q_38 q_45 q_62 0 0 0 0, aq_ cy 3 q_1 5 (kf_ q_2 q_4 q_6 q_8 q_10), ob6_0_ q_2, ob5_0_ q_4, ob9_0_ q_6, ob2_0_ q_8, ob8_0_ q_10, ob3_0_ q_12 0 0 n1_14 n2_15 n3_16 n4_17 n5_18, ai_ cy n1_14 40 (fun _ => 0), ai_ cy n2_15 40 (fun _ => 0), ai_ cy n3_16 40 (fun _ => 0), ai_ cy n4_17 40 (fun _ => 0), ai_ cy n5_18 40 (fun _ => 0), ob0_0_ q_19 q_12 q_1 clo_21 cro_22 c4_23 c5_24 c6_25 c7_26 c8_27, aq_ cy 6 clo_21 12 (gf_ rl_28), ai_ cy (rl_28 0) 12 (Ml_30 0), ai_ cy (rl_28 1) 12 (Ml_30 1), ai_ cy (rl_28 2) 12 (Ml_30 2), ai_ cy (rl_28 3) 12 (Ml_30 3), ai_ cy (rl_28 4) 12 (Ml_30 4), ai_ cy (rl_28 5) 12 (Ml_30 5), ai_ cy (rl_28 6) 12 (Ml_30 6), ai_ cy (rl_28 7) 12 (Ml_30 7), ai_ cy (rl_28 8) 12 (Ml_30 8), ai_ cy (rl_28 9) 12 (Ml_30 9), ai_ cy (rl_28 10) 12 (Ml_30 10), ai_ cy (rl_28 11) 12 (Ml_30 11), aq_ cy 6 cro_22 12 (gf_ rr_29), ai_ cy (rr_29 0) 12 (Mr_31 0), ai_ cy (rr_29 1) 12 (Mr_31 1), ai_ cy (rr_29 2) 12 (Mr_31 2), ai_ cy (rr_29 3) 12 (Mr_31 3), ai_ cy (rr_29 4) 12 (Mr_31 4), ai_ cy (rr_29 5) 12 (Mr_31 5), ai_ cy (rr_29 6) 12 (Mr_31 6), ai_ cy (rr_29 7) 12 (Mr_31 7), ai_ cy (rr_29 8) 12 (Mr_31 8), ai_ cy (rr_29 9) 12 (Mr_31 9), ai_ cy (rr_29 10) 12 (Mr_31 10), ai_ cy (rr_29 11) 12 (Mr_31 11), ai_ cy c4_23 40 (fun _ => 0), ai_ cy c5_24 40 (fun _ => 0), ai_ cy c6_25 40 (fun _ => 0), ai_ cy c7_26 12 (fun _ => 0), ai_ cy c8_27 12 (fun _ => 0), ob7_0_ q_32 q_19 0 0 0 0 0 0 0 0, ob1_0_ q_34 q_19 ta_36 tb_37, ai_ cy ta_36 12 (fun _ => 0), ai_ cy tb_37 12 (fun _ => 0), ob10_0_ q_38 q_19 q_1 wpo_40 wc_41 wf_42, aq_ cy 6 wpo_40 12 (gf_ rp_43), ai_ cy (rp_43 0) 12 (Mp_44 0), ai_ cy (rp_43 1) 12 (Mp_44 1), ai_ cy (rp_43 2) 12 (Mp_44 2), ai_ cy (rp_43 3) 12 (Mp_44 3), ai_ cy (rp_43 4) 12 (Mp_44 4), ai_ cy (rp_43 5) 12 (Mp_44 5), ai_ cy (rp_43 6) 12 (Mp_44 6), ai_ cy (rp_43 7) 12 (Mp_44 7), ai_ cy (rp_43 8) 12 (Mp_44 8), ai_ cy (rp_43 9) 12 (Mp_44 9), ai_ cy (rp_43 10) 12 (Mp_44 10), ai_ cy (rp_43 11) 12 (Mp_44 11), ai_ cy wc_41 12 (fun _ => 0), ai_ cy wf_42 12 (fun _ => 0), aq_ cy 4 q_45 4 (mf_ q_46 q_50 q_54 q_58), ob4_0_ q_46 0 (-9) l1_48 l2_49, ai_ cy l1_48 6 (fun _ => 0), aj_ cy l2_49 30 (fun _ => 0), ob4_0_ q_50 0 (-9) l1_52 l2_53, ai_ cy l1_52 6 (fun _ => 0), aj_ cy l2_53 30 (fun _ => 0), ob4_0_ q_54 0 (-9) l1_56 l2_57, ai_ cy l1_56 6 (fun _ => 0), aj_ cy l2_57 30 (fun _ => 0), ob4_0_ q_58 0 (-9) l1_60 l2_61, ai_ cy l1_60 6 (fun _ => 0), aj_ cy l2_61 30 (fun _ => 0), aq_ cy 5 q_62 30 (fun _ => none)] hP hD (fun hP hD => ?_)
  refine lv_aload_n hx hb dB_36_2_43.2.2.2.2 rfl (lv_at hl 0 rfl) ?_
  refine lv_lconst (v := 0) hx hb dB_36_2_44.1.1 (by decide) ?_
  refine va_put (ci := 11) (v := .long 0) (ty := .long) (C := RX11) (T := TX11) (N := 12) hx hb hts (fun _ h => List.mem_cons_of_mem _ (List.mem_append_left _ (List.mem_append_left _ (List.mem_append_left _ (List.mem_append_left _ (List.mem_append_left _ (List.mem_append_left _ (List.mem_append_right _ h)))))))) tyX11 tyX11_ok nmX11 hown hK.1 hP hD hS 0 rfl rfl 10 (by decide) (hts (.fieldLink RX11 87 "CutAtlas" "traced" "J") (pc_X11_init wsX11_init_r2 (List.mem_of_getElem? (i := 2) rfl) _ (List.mem_of_getElem? (i := 22) rfl))) (fun _ h9 => h9) rfl (by decide +kernel) rfl rfl (Nat.le_of_ble_eq_true rfl) dB_36_2_44.1.2.1 (fun H locs hP hD hS => ?_)
  refine pd_K [ob11_0_ xo q_1 q_12 q_19 q_32 q_34 q_38 q_45 q_62 0 0 0 0, aq_ cy 3 q_1 5 (kf_ q_2 q_4 q_6 q_8 q_10), ob6_0_ q_2, ob5_0_ q_4, ob9_0_ q_6, ob2_0_ q_8, ob8_0_ q_10, ob3_0_ q_12 0 0 n1_14 n2_15 n3_16 n4_17 n5_18, ai_ cy n1_14 40 (fun _ => 0), ai_ cy n2_15 40 (fun _ => 0), ai_ cy n3_16 40 (fun _ => 0), ai_ cy n4_17 40 (fun _ => 0), ai_ cy n5_18 40 (fun _ => 0), ob0_0_ q_19 q_12 q_1 clo_21 cro_22 c4_23 c5_24 c6_25 c7_26 c8_27, aq_ cy 6 clo_21 12 (gf_ rl_28), ai_ cy (rl_28 0) 12 (Ml_30 0), ai_ cy (rl_28 1) 12 (Ml_30 1), ai_ cy (rl_28 2) 12 (Ml_30 2), ai_ cy (rl_28 3) 12 (Ml_30 3), ai_ cy (rl_28 4) 12 (Ml_30 4), ai_ cy (rl_28 5) 12 (Ml_30 5), ai_ cy (rl_28 6) 12 (Ml_30 6), ai_ cy (rl_28 7) 12 (Ml_30 7), ai_ cy (rl_28 8) 12 (Ml_30 8), ai_ cy (rl_28 9) 12 (Ml_30 9), ai_ cy (rl_28 10) 12 (Ml_30 10), ai_ cy (rl_28 11) 12 (Ml_30 11), aq_ cy 6 cro_22 12 (gf_ rr_29), ai_ cy (rr_29 0) 12 (Mr_31 0), ai_ cy (rr_29 1) 12 (Mr_31 1), ai_ cy (rr_29 2) 12 (Mr_31 2), ai_ cy (rr_29 3) 12 (Mr_31 3), ai_ cy (rr_29 4) 12 (Mr_31 4), ai_ cy (rr_29 5) 12 (Mr_31 5), ai_ cy (rr_29 6) 12 (Mr_31 6), ai_ cy (rr_29 7) 12 (Mr_31 7), ai_ cy (rr_29 8) 12 (Mr_31 8), ai_ cy (rr_29 9) 12 (Mr_31 9), ai_ cy (rr_29 10) 12 (Mr_31 10), ai_ cy (rr_29 11) 12 (Mr_31 11), ai_ cy c4_23 40 (fun _ => 0), ai_ cy c5_24 40 (fun _ => 0), ai_ cy c6_25 40 (fun _ => 0), ai_ cy c7_26 12 (fun _ => 0), ai_ cy c8_27 12 (fun _ => 0), ob7_0_ q_32 q_19 0 0 0 0 0 0 0 0, ob1_0_ q_34 q_19 ta_36 tb_37, ai_ cy ta_36 12 (fun _ => 0), ai_ cy tb_37 12 (fun _ => 0), ob10_0_ q_38 q_19 q_1 wpo_40 wc_41 wf_42, aq_ cy 6 wpo_40 12 (gf_ rp_43), ai_ cy (rp_43 0) 12 (Mp_44 0), ai_ cy (rp_43 1) 12 (Mp_44 1), ai_ cy (rp_43 2) 12 (Mp_44 2), ai_ cy (rp_43 3) 12 (Mp_44 3), ai_ cy (rp_43 4) 12 (Mp_44 4), ai_ cy (rp_43 5) 12 (Mp_44 5), ai_ cy (rp_43 6) 12 (Mp_44 6), ai_ cy (rp_43 7) 12 (Mp_44 7), ai_ cy (rp_43 8) 12 (Mp_44 8), ai_ cy (rp_43 9) 12 (Mp_44 9), ai_ cy (rp_43 10) 12 (Mp_44 10), ai_ cy (rp_43 11) 12 (Mp_44 11), ai_ cy wc_41 12 (fun _ => 0), ai_ cy wf_42 12 (fun _ => 0), aq_ cy 4 q_45 4 (mf_ q_46 q_50 q_54 q_58), ob4_0_ q_46 0 (-9) l1_48 l2_49, ai_ cy l1_48 6 (fun _ => 0), aj_ cy l2_49 30 (fun _ => 0), ob4_0_ q_50 0 (-9) l1_52 l2_53, ai_ cy l1_52 6 (fun _ => 0), aj_ cy l2_53 30 (fun _ => 0), ob4_0_ q_54 0 (-9) l1_56 l2_57, ai_ cy l1_56 6 (fun _ => 0), aj_ cy l2_57 30 (fun _ => 0), ob4_0_ q_58 0 (-9) l1_60 l2_61, ai_ cy l1_60 6 (fun _ => 0), aj_ cy l2_61 30 (fun _ => 0), aq_ cy 5 q_62 30 (fun _ => none)] hP hD (fun hP hD => ?_)
  refine lv_aload_n hx hb dB_36_2_44.1.2.2 rfl (lv_at hl 0 rfl) ?_
  refine lv_iconst (v := 0) hx hb dB_36_2_44.2.1 (by decide) ?_
  refine va_put (ci := 11) (v := .int 0) (ty := .int) (C := RX11) (T := TX11) (N := 12) hx hb hts (fun _ h => List.mem_cons_of_mem _ (List.mem_append_left _ (List.mem_append_left _ (List.mem_append_left _ (List.mem_append_left _ (List.mem_append_left _ (List.mem_append_left _ (List.mem_append_right _ h)))))))) tyX11 tyX11_ok nmX11 hown hK.1 hP hD hS 0 rfl rfl 11 (by decide) (hts (.fieldLink RX11 91 "CutAtlas" "finding" "I") (pc_X11_init wsX11_init_r2 (List.mem_of_getElem? (i := 2) rfl) _ (List.mem_of_getElem? (i := 23) rfl))) (fun _ h9 => h9) rfl (by decide +kernel) rfl rfl (Nat.le_of_ble_eq_true rfl) dB_36_2_44.2.2.1 (fun H locs hP hD hS => ?_)
  refine pd_K [ob11_0_ xo q_1 q_12 q_19 q_32 q_34 q_38 q_45 q_62 0 0 0 0, aq_ cy 3 q_1 5 (kf_ q_2 q_4 q_6 q_8 q_10), ob6_0_ q_2, ob5_0_ q_4, ob9_0_ q_6, ob2_0_ q_8, ob8_0_ q_10, ob3_0_ q_12 0 0 n1_14 n2_15 n3_16 n4_17 n5_18, ai_ cy n1_14 40 (fun _ => 0), ai_ cy n2_15 40 (fun _ => 0), ai_ cy n3_16 40 (fun _ => 0), ai_ cy n4_17 40 (fun _ => 0), ai_ cy n5_18 40 (fun _ => 0), ob0_0_ q_19 q_12 q_1 clo_21 cro_22 c4_23 c5_24 c6_25 c7_26 c8_27, aq_ cy 6 clo_21 12 (gf_ rl_28), ai_ cy (rl_28 0) 12 (Ml_30 0), ai_ cy (rl_28 1) 12 (Ml_30 1), ai_ cy (rl_28 2) 12 (Ml_30 2), ai_ cy (rl_28 3) 12 (Ml_30 3), ai_ cy (rl_28 4) 12 (Ml_30 4), ai_ cy (rl_28 5) 12 (Ml_30 5), ai_ cy (rl_28 6) 12 (Ml_30 6), ai_ cy (rl_28 7) 12 (Ml_30 7), ai_ cy (rl_28 8) 12 (Ml_30 8), ai_ cy (rl_28 9) 12 (Ml_30 9), ai_ cy (rl_28 10) 12 (Ml_30 10), ai_ cy (rl_28 11) 12 (Ml_30 11), aq_ cy 6 cro_22 12 (gf_ rr_29), ai_ cy (rr_29 0) 12 (Mr_31 0), ai_ cy (rr_29 1) 12 (Mr_31 1), ai_ cy (rr_29 2) 12 (Mr_31 2), ai_ cy (rr_29 3) 12 (Mr_31 3), ai_ cy (rr_29 4) 12 (Mr_31 4), ai_ cy (rr_29 5) 12 (Mr_31 5), ai_ cy (rr_29 6) 12 (Mr_31 6), ai_ cy (rr_29 7) 12 (Mr_31 7), ai_ cy (rr_29 8) 12 (Mr_31 8), ai_ cy (rr_29 9) 12 (Mr_31 9), ai_ cy (rr_29 10) 12 (Mr_31 10), ai_ cy (rr_29 11) 12 (Mr_31 11), ai_ cy c4_23 40 (fun _ => 0), ai_ cy c5_24 40 (fun _ => 0), ai_ cy c6_25 40 (fun _ => 0), ai_ cy c7_26 12 (fun _ => 0), ai_ cy c8_27 12 (fun _ => 0), ob7_0_ q_32 q_19 0 0 0 0 0 0 0 0, ob1_0_ q_34 q_19 ta_36 tb_37, ai_ cy ta_36 12 (fun _ => 0), ai_ cy tb_37 12 (fun _ => 0), ob10_0_ q_38 q_19 q_1 wpo_40 wc_41 wf_42, aq_ cy 6 wpo_40 12 (gf_ rp_43), ai_ cy (rp_43 0) 12 (Mp_44 0), ai_ cy (rp_43 1) 12 (Mp_44 1), ai_ cy (rp_43 2) 12 (Mp_44 2), ai_ cy (rp_43 3) 12 (Mp_44 3), ai_ cy (rp_43 4) 12 (Mp_44 4), ai_ cy (rp_43 5) 12 (Mp_44 5), ai_ cy (rp_43 6) 12 (Mp_44 6), ai_ cy (rp_43 7) 12 (Mp_44 7), ai_ cy (rp_43 8) 12 (Mp_44 8), ai_ cy (rp_43 9) 12 (Mp_44 9), ai_ cy (rp_43 10) 12 (Mp_44 10), ai_ cy (rp_43 11) 12 (Mp_44 11), ai_ cy wc_41 12 (fun _ => 0), ai_ cy wf_42 12 (fun _ => 0), aq_ cy 4 q_45 4 (mf_ q_46 q_50 q_54 q_58), ob4_0_ q_46 0 (-9) l1_48 l2_49, ai_ cy l1_48 6 (fun _ => 0), aj_ cy l2_49 30 (fun _ => 0), ob4_0_ q_50 0 (-9) l1_52 l2_53, ai_ cy l1_52 6 (fun _ => 0), aj_ cy l2_53 30 (fun _ => 0), ob4_0_ q_54 0 (-9) l1_56 l2_57, ai_ cy l1_56 6 (fun _ => 0), aj_ cy l2_57 30 (fun _ => 0), ob4_0_ q_58 0 (-9) l1_60 l2_61, ai_ cy l1_60 6 (fun _ => 0), aj_ cy l2_61 30 (fun _ => 0), aq_ cy 5 q_62 30 (fun _ => none)] hP hD (fun hP hD => ?_)
  have hP9 := hP.sub (ws' := [ob11_0_ xo q_1 q_12 q_19 q_32 q_34 q_38 q_45 q_62 0 0 0 0, ob3_0_ q_12 0 0 n1_14 n2_15 n3_16 n4_17 n5_18, ai_ cy n1_14 40 (fun _ => 0), ai_ cy n2_15 40 (fun _ => 0), ai_ cy n3_16 40 (fun _ => 0), ai_ cy n4_17 40 (fun _ => 0), ai_ cy n5_18 40 (fun _ => 0), aq_ cy 3 q_1 5 (kf_ q_2 q_4 q_6 q_8 q_10), ob6_0_ q_2, ob5_0_ q_4, ob9_0_ q_6, ob2_0_ q_8, ob8_0_ q_10, ob0_0_ q_19 q_12 q_1 clo_21 cro_22 c4_23 c5_24 c6_25 c7_26 c8_27, aq_ cy 6 clo_21 12 (gf_ rl_28), ai_ cy (rl_28 0) 12 (Ml_30 0), ai_ cy (rl_28 1) 12 (Ml_30 1), ai_ cy (rl_28 2) 12 (Ml_30 2), ai_ cy (rl_28 3) 12 (Ml_30 3), ai_ cy (rl_28 4) 12 (Ml_30 4), ai_ cy (rl_28 5) 12 (Ml_30 5), ai_ cy (rl_28 6) 12 (Ml_30 6), ai_ cy (rl_28 7) 12 (Ml_30 7), ai_ cy (rl_28 8) 12 (Ml_30 8), ai_ cy (rl_28 9) 12 (Ml_30 9), ai_ cy (rl_28 10) 12 (Ml_30 10), ai_ cy (rl_28 11) 12 (Ml_30 11), aq_ cy 6 cro_22 12 (gf_ rr_29), ai_ cy (rr_29 0) 12 (Mr_31 0), ai_ cy (rr_29 1) 12 (Mr_31 1), ai_ cy (rr_29 2) 12 (Mr_31 2), ai_ cy (rr_29 3) 12 (Mr_31 3), ai_ cy (rr_29 4) 12 (Mr_31 4), ai_ cy (rr_29 5) 12 (Mr_31 5), ai_ cy (rr_29 6) 12 (Mr_31 6), ai_ cy (rr_29 7) 12 (Mr_31 7), ai_ cy (rr_29 8) 12 (Mr_31 8), ai_ cy (rr_29 9) 12 (Mr_31 9), ai_ cy (rr_29 10) 12 (Mr_31 10), ai_ cy (rr_29 11) 12 (Mr_31 11), ai_ cy c4_23 40 (fun _ => 0), ai_ cy c5_24 40 (fun _ => 0), ai_ cy c6_25 40 (fun _ => 0), ai_ cy c7_26 12 (fun _ => 0), ai_ cy c8_27 12 (fun _ => 0), ob7_0_ q_32 q_19 0 0 0 0 0 0 0 0, ob1_0_ q_34 q_19 ta_36 tb_37, ai_ cy ta_36 12 (fun _ => 0), ai_ cy tb_37 12 (fun _ => 0), ob10_0_ q_38 q_19 q_1 wpo_40 wc_41 wf_42, aq_ cy 6 wpo_40 12 (gf_ rp_43), ai_ cy (rp_43 0) 12 (Mp_44 0), ai_ cy (rp_43 1) 12 (Mp_44 1), ai_ cy (rp_43 2) 12 (Mp_44 2), ai_ cy (rp_43 3) 12 (Mp_44 3), ai_ cy (rp_43 4) 12 (Mp_44 4), ai_ cy (rp_43 5) 12 (Mp_44 5), ai_ cy (rp_43 6) 12 (Mp_44 6), ai_ cy (rp_43 7) 12 (Mp_44 7), ai_ cy (rp_43 8) 12 (Mp_44 8), ai_ cy (rp_43 9) 12 (Mp_44 9), ai_ cy (rp_43 10) 12 (Mp_44 10), ai_ cy (rp_43 11) 12 (Mp_44 11), ai_ cy wc_41 12 (fun _ => 0), ai_ cy wf_42 12 (fun _ => 0), aq_ cy 4 q_45 4 (mf_ q_46 q_50 q_54 q_58), ob4_0_ q_46 0 (-9) l1_48 l2_49, ob4_0_ q_50 0 (-9) l1_52 l2_53, ob4_0_ q_54 0 (-9) l1_56 l2_57, ob4_0_ q_58 0 (-9) l1_60 l2_61, ai_ cy l1_48 6 (fun _ => 0), ai_ cy l1_52 6 (fun _ => 0), ai_ cy l1_56 6 (fun _ => 0), ai_ cy l1_60 6 (fun _ => 0), aj_ cy l2_49 30 (fun _ => 0), aj_ cy l2_53 30 (fun _ => 0), aj_ cy l2_57 30 (fun _ => 0), aj_ cy l2_61 30 (fun _ => 0), aq_ cy 5 q_62 30 (fun _ => none)]) [0, 7, 8, 9, 10, 11, 12, 1, 2, 3, 4, 5, 6, 13, 14, 15, 16, 17, 18, 19, 20, 21, 22, 23, 24, 25, 26, 27, 28, 29, 30, 31, 32, 33, 34, 35, 36, 37, 38, 39, 40, 41, 42, 43, 44, 45, 46, 47, 48, 49, 50, 51, 52, 53, 54, 55, 56, 57, 58, 59, 60, 61, 62, 63, 64, 65, 66, 69, 72, 75, 67, 70, 73, 76, 68, 71, 74, 77, 78] rfl
  have hD9 := hD.sub (ws' := [ob11_0_ xo q_1 q_12 q_19 q_32 q_34 q_38 q_45 q_62 0 0 0 0, ob3_0_ q_12 0 0 n1_14 n2_15 n3_16 n4_17 n5_18, ai_ cy n1_14 40 (fun _ => 0), ai_ cy n2_15 40 (fun _ => 0), ai_ cy n3_16 40 (fun _ => 0), ai_ cy n4_17 40 (fun _ => 0), ai_ cy n5_18 40 (fun _ => 0), aq_ cy 3 q_1 5 (kf_ q_2 q_4 q_6 q_8 q_10), ob6_0_ q_2, ob5_0_ q_4, ob9_0_ q_6, ob2_0_ q_8, ob8_0_ q_10, ob0_0_ q_19 q_12 q_1 clo_21 cro_22 c4_23 c5_24 c6_25 c7_26 c8_27, aq_ cy 6 clo_21 12 (gf_ rl_28), ai_ cy (rl_28 0) 12 (Ml_30 0), ai_ cy (rl_28 1) 12 (Ml_30 1), ai_ cy (rl_28 2) 12 (Ml_30 2), ai_ cy (rl_28 3) 12 (Ml_30 3), ai_ cy (rl_28 4) 12 (Ml_30 4), ai_ cy (rl_28 5) 12 (Ml_30 5), ai_ cy (rl_28 6) 12 (Ml_30 6), ai_ cy (rl_28 7) 12 (Ml_30 7), ai_ cy (rl_28 8) 12 (Ml_30 8), ai_ cy (rl_28 9) 12 (Ml_30 9), ai_ cy (rl_28 10) 12 (Ml_30 10), ai_ cy (rl_28 11) 12 (Ml_30 11), aq_ cy 6 cro_22 12 (gf_ rr_29), ai_ cy (rr_29 0) 12 (Mr_31 0), ai_ cy (rr_29 1) 12 (Mr_31 1), ai_ cy (rr_29 2) 12 (Mr_31 2), ai_ cy (rr_29 3) 12 (Mr_31 3), ai_ cy (rr_29 4) 12 (Mr_31 4), ai_ cy (rr_29 5) 12 (Mr_31 5), ai_ cy (rr_29 6) 12 (Mr_31 6), ai_ cy (rr_29 7) 12 (Mr_31 7), ai_ cy (rr_29 8) 12 (Mr_31 8), ai_ cy (rr_29 9) 12 (Mr_31 9), ai_ cy (rr_29 10) 12 (Mr_31 10), ai_ cy (rr_29 11) 12 (Mr_31 11), ai_ cy c4_23 40 (fun _ => 0), ai_ cy c5_24 40 (fun _ => 0), ai_ cy c6_25 40 (fun _ => 0), ai_ cy c7_26 12 (fun _ => 0), ai_ cy c8_27 12 (fun _ => 0), ob7_0_ q_32 q_19 0 0 0 0 0 0 0 0, ob1_0_ q_34 q_19 ta_36 tb_37, ai_ cy ta_36 12 (fun _ => 0), ai_ cy tb_37 12 (fun _ => 0), ob10_0_ q_38 q_19 q_1 wpo_40 wc_41 wf_42, aq_ cy 6 wpo_40 12 (gf_ rp_43), ai_ cy (rp_43 0) 12 (Mp_44 0), ai_ cy (rp_43 1) 12 (Mp_44 1), ai_ cy (rp_43 2) 12 (Mp_44 2), ai_ cy (rp_43 3) 12 (Mp_44 3), ai_ cy (rp_43 4) 12 (Mp_44 4), ai_ cy (rp_43 5) 12 (Mp_44 5), ai_ cy (rp_43 6) 12 (Mp_44 6), ai_ cy (rp_43 7) 12 (Mp_44 7), ai_ cy (rp_43 8) 12 (Mp_44 8), ai_ cy (rp_43 9) 12 (Mp_44 9), ai_ cy (rp_43 10) 12 (Mp_44 10), ai_ cy (rp_43 11) 12 (Mp_44 11), ai_ cy wc_41 12 (fun _ => 0), ai_ cy wf_42 12 (fun _ => 0), aq_ cy 4 q_45 4 (mf_ q_46 q_50 q_54 q_58), ob4_0_ q_46 0 (-9) l1_48 l2_49, ob4_0_ q_50 0 (-9) l1_52 l2_53, ob4_0_ q_54 0 (-9) l1_56 l2_57, ob4_0_ q_58 0 (-9) l1_60 l2_61, ai_ cy l1_48 6 (fun _ => 0), ai_ cy l1_52 6 (fun _ => 0), ai_ cy l1_56 6 (fun _ => 0), ai_ cy l1_60 6 (fun _ => 0), aj_ cy l2_49 30 (fun _ => 0), aj_ cy l2_53 30 (fun _ => 0), aj_ cy l2_57 30 (fun _ => 0), aj_ cy l2_61 30 (fun _ => 0), aq_ cy 5 q_62 30 (fun _ => none)]) [0, 7, 8, 9, 10, 11, 12, 1, 2, 3, 4, 5, 6, 13, 14, 15, 16, 17, 18, 19, 20, 21, 22, 23, 24, 25, 26, 27, 28, 29, 30, 31, 32, 33, 34, 35, 36, 37, 38, 39, 40, 41, 42, 43, 44, 45, 46, 47, 48, 49, 50, 51, 52, 53, 54, 55, 56, 57, 58, 59, 60, 61, 62, 63, 64, 65, 66, 69, 72, 75, 67, 70, 73, 76, 68, 71, 74, 77, 78] (by decide +kernel) rfl
  rw [hQ]
  exact W.vret hx hb hr (fun t ht hW => ⟨⟨(), rfl, trivial, q_1, q_12, q_19, q_32, q_34, q_38, q_45, q_62, n1_14, n2_15, n3_16, n4_17, n5_18, q_2, q_4, q_6, q_8, q_10, clo_21, cro_22, c4_23, c5_24, c6_25, c7_26, c8_27, ta_36, tb_37, wpo_40, wc_41, wf_42, q_46, l1_48, l2_49, q_50, l1_52, l2_53, q_54, l1_56, l2_57, q_58, l1_60, l2_61, rl_28, rr_29, rp_43, Ml_30, Mr_31, Mp_44, by rw [ht]; exact hP9, hD9⟩, hS.F ht⟩) hS.2.2 dB_36_2_44.2.2.2
end

section
set_option maxHeartbeats 4000000 in
set_option maxRecDepth 100000 in
theorem c_X12_init (l : Launch) (D : va_G) (cy : Nat → ClassId) (sz : Nat) (mo : Nat) : Met l yX12_init wsX12_init ({ frames := 1, cells := 23, slots := 6585, locals := 12 }) (va_Pc [.ref mo] (fun U => U.heap.size = sz ∧ va_P D vwCl [ob12_1_ mo 0 0 0 0 0 0 0 0 0 0 0] U.heap ∧ kk_ D cy U ∧ va_D (fun _ => True) [ob12_1_ mo 0 0 0 0 0 0 0 0 0 0 0])) (va_Qv (fun (_ : Unit) => True) (fun (_ : Unit) (t : State) => ∃ (g5 : Nat), ∃ (g6 : Nat), ∃ (g7 : Nat), ∃ (g8 : Nat), ∃ (g9 : Nat), ∃ (g10 : Nat), ∃ (g12 : Nat), ∃ (g13 : Nat), ∃ (g14 : Nat), ∃ (g15 : Nat), ∃ (g16 : Nat), ∃ (g17 : Nat), ∃ (g18 : Nat), ∃ (g19 : Nat), ∃ (g20 : Nat), ∃ (g22 : Nat), ∃ (g23 : Nat), ∃ (g24 : Nat), ∃ (g29 : Nat), ∃ (g30 : Nat), ∃ (g31 : Nat), ∃ (g32 : Nat), ∃ (g33 : Nat), va_P D vwCl [ob12_0_ mo 0 0 0 0 0 g5 g6 g7 g8 g9 g10 0 g12 g13 g14 g15 g16 g17 g18 g19 g20 (-9) g22 g23 g24 0 0 0 0 g29 g30 g31 g32 g33, ai_ cy g5 40 (fun _ => 0), ai_ cy g6 40 (fun _ => 0), ai_ cy g7 40 (fun _ => 0), ai_ cy g8 40 (fun _ => 0), ai_ cy g9 40 (fun _ => 0), az_ cy g10 40 (fun _ => 0), ai_ cy g12 30 (fun _ => 0), ai_ cy g13 30 (fun _ => 0), ai_ cy g14 6000 (fun _ => 0), az_ cy g15 4 (fun _ => 0), ai_ cy g16 4 (fun _ => 0), ai_ cy g17 4 (fun _ => 0), ai_ cy g18 24 (fun _ => 0), aj_ cy g19 120 (fun _ => 0), aj_ cy g20 5 (fun _ => 0), ai_ cy g22 40 (fun _ => 0), ai_ cy g23 12 (fun _ => 0), ai_ cy g24 12 (fun _ => 0), aj_ cy g29 12 (fun _ => 0), ai_ cy g30 12 (fun _ => 0), ai_ cy g31 12 (fun _ => 0), ai_ cy g32 12 (fun _ => 0), ai_ cy g33 12 (fun _ => 0)] t.heap ∧ va_D (va_A [ob12_1_ mo 0 0 0 0 0 0 0 0 0 0 0] sz) [ob12_0_ mo 0 0 0 0 0 g5 g6 g7 g8 g9 g10 0 g12 g13 g14 g15 g16 g17 g18 g19 g20 (-9) g22 g23 g24 0 0 0 0 g29 g30 g31 g32 g33, ai_ cy g5 40 (fun _ => 0), ai_ cy g6 40 (fun _ => 0), ai_ cy g7 40 (fun _ => 0), ai_ cy g8 40 (fun _ => 0), ai_ cy g9 40 (fun _ => 0), az_ cy g10 40 (fun _ => 0), ai_ cy g12 30 (fun _ => 0), ai_ cy g13 30 (fun _ => 0), ai_ cy g14 6000 (fun _ => 0), az_ cy g15 4 (fun _ => 0), ai_ cy g16 4 (fun _ => 0), ai_ cy g17 4 (fun _ => 0), ai_ cy g18 24 (fun _ => 0), aj_ cy g19 120 (fun _ => 0), aj_ cy g20 5 (fun _ => 0), ai_ cy g22 40 (fun _ => 0), ai_ cy g23 12 (fun _ => 0), ai_ cy g24 12 (fun _ => 0), aj_ cy g29 12 (fun _ => 0), ai_ cy g30 12 (fun _ => 0), ai_ cy g31 12 (fun _ => 0), ai_ cy g32 12 (fun _ => 0), ai_ cy g33 12 (fun _ => 0)]) (va_A [ob12_1_ mo 0 0 0 0 0 0 0 0 0 0 0] sz)) 23 6585 (va_A [ob12_1_ mo 0 0 0 0 0 0 0 0 0 0 0] sz) := by
  refine ofQ (cc := cX12_init) (maxL := 1) (ret := none) (by decide) rfl ?_
  intro p e s m args below meth c s₁ Q hQ B hml hv
  obtain ⟨rfl, hsz, hP, hK, hD0⟩ := hv
  have hx := B.exec
  have hb := B.bytes
  have hr := B.returns
  have hts := atoms_spec (ws := wsX12_init) B.pre
  have hown : s.vm.findClass RX12 = some m.cls := by have h_ := findClass_of_methodNamed B.named; exact h_
  have hlocks := B.notSynchronized
  have hin : meth.name = "<init>" := (name_of_methodNamed B.named B.method).1
  subst hsz
  have hD := hD0.self (sz := s.heap.size)
  generalize hAe : va_A [ob12_1_ mo 0 0 0 0 0 0 0 0 0 0 0] s.heap.size = A at hD hQ
  have hA : ∀ q : Nat, s.heap.size ≤ q → A q := fun q h => by rw [← hAe]; exact Or.inr h
  have hS : va_S A s.heap s.heap [] := va_S.rf
  have hl := lv_entry ([.ref mo]) (n := 1) (Nat.le_of_ble_eq_true rfl)
  rw [lg_entry_eq]
  generalize (lg_sl ([.ref mo]) ++ List.replicate (1 - (lg_sl ([.ref mo])).length) Slot.unset).toArray = ls at hl ⊢
  have hl : lv_has ls 1 [(0, .ref mo)] := hl
  refine lv_aload_n hx hb dB_3_0_10.1.1.1.1 rfl (lv_at hl 0 rfl) ?_
  refine W.objInit hx hb hown (hts (.methodLink RX12 1 objectInit) (List.mem_of_getElem? (i := 1) rfl)) (hts (.instanceMethod objectInit) (List.mem_of_getElem? (i := 2) rfl)) (hts (.code objectInit ⟨#[0xb1]⟩ 1 none) (List.mem_of_getElem? (i := 3) rfl)) rfl (by rw [hml]; exact hl.1) rfl dB_3_0_10.1.1.1.2 (Nat.le_of_ble_eq_true rfl) (Nat.le_of_ble_eq_true rfl) ?_
  refine W.eq (g2 := F0 m 4 ls []) rfl ?_
  refine lv_aload_n hx hb dB_3_0_10.1.1.2.1 rfl (lv_at hl 0 rfl) ?_
  refine lv_bipush (v := 40) hx hb dB_3_0_10.1.1.2.2 (by decide) ?_
  refine nw_a (a0 := (40, .inl (fun _ => 0))) (ty := .int) hx hb (hts (.arrayClass .int) (List.mem_of_getElem? (i := 4) rfl)) rfl hK.1 0 rfl (fun _ h => by cases h) hP hD hS hA (fun _ => rfl) (by decide) (by decide) (by decide) (Nat.le_of_ble_eq_true rfl) (Nat.le_of_ble_eq_true rfl) dB_3_0_10.1.2.1.1 (fun q_1 H hP hD hS => ?_)
  refine pd_K [ob12_1_ mo 0 0 0 0 0 0 0 0 0 0 0, ai_ cy q_1 40 (fun _ => 0)] hP hD (fun hP hD => ?_)
  refine va_putF (ci := 12) (v := .ref q_1) (ty := (tyX12 5)) (C := RX12) (T := TX12) (N := 34) hx hb hts (fun _ h => List.mem_cons_of_mem _ (List.mem_append_right _ h)) tyX12 tyX12_ok nmX12 hown hK.1 hP hD hS 0 rfl rfl 5 (by decide) (hts (.fieldLink RX12 7 "CutAtlasModel" "kind" "[I") (List.mem_of_getElem? (i := 5) rfl)) (fun _ h9 => h9) rfl hin rfl (by decide +kernel) rfl rfl (Nat.le_of_ble_eq_true rfl) dB_3_0_10.1.2.1.2 (fun H locs hP hD hS => ?_)
  refine pd_K [ob12_2_ mo 0 0 0 0 0 q_1 0 0 0 0 0 0, ai_ cy q_1 40 (fun _ => 0)] hP hD (fun hP hD => ?_)
  refine lv_aload_n hx hb dB_3_0_10.1.2.2.1 rfl (lv_at hl 0 rfl) ?_
  refine lv_bipush (v := 40) hx hb dB_3_0_10.1.2.2.2 (by decide) ?_
  refine nw_a (a0 := (40, .inl (fun _ => 0))) (ty := .int) hx hb (hts (.arrayClass .int) (List.mem_of_getElem? (i := 4) rfl)) rfl hK.1 0 rfl (fun _ h => by cases h) hP hD hS hA (fun _ => rfl) (by decide) (by decide) (by decide) (Nat.le_of_ble_eq_true rfl) (Nat.le_of_ble_eq_true rfl) dB_3_0_10.2.1.1.1 (fun q_2 H hP hD hS => ?_)
  refine pd_K [ob12_2_ mo 0 0 0 0 0 q_1 0 0 0 0 0 0, ai_ cy q_1 40 (fun _ => 0), ai_ cy q_2 40 (fun _ => 0)] hP hD (fun hP hD => ?_)
  refine va_putF (ci := 12) (v := .ref q_2) (ty := (tyX12 6)) (C := RX12) (T := TX12) (N := 34) hx hb hts (fun _ h => List.mem_cons_of_mem _ (List.mem_append_right _ h)) tyX12 tyX12_ok nmX12 hown hK.1 hP hD hS 0 rfl rfl 6 (by decide) (hts (.fieldLink RX12 13 "CutAtlasModel" "from" "[I") (List.mem_of_getElem? (i := 6) rfl)) (fun _ h9 => h9) rfl hin rfl (by decide +kernel) rfl rfl (Nat.le_of_ble_eq_true rfl) dB_3_0_10.2.1.1.2 (fun H locs hP hD hS => ?_)
  refine pd_K [ob12_3_ mo 0 0 0 0 0 q_1 q_2 0 0 0 0 0 0, ai_ cy q_1 40 (fun _ => 0), ai_ cy q_2 40 (fun _ => 0)] hP hD (fun hP hD => ?_)
  refine lv_aload_n hx hb dB_3_0_10.2.1.2.1 rfl (lv_at hl 0 rfl) ?_
  refine lv_bipush (v := 40) hx hb dB_3_0_10.2.1.2.2 (by decide) ?_
  refine nw_a (a0 := (40, .inl (fun _ => 0))) (ty := .int) hx hb (hts (.arrayClass .int) (List.mem_of_getElem? (i := 4) rfl)) rfl hK.1 0 rfl (fun _ h => by cases h) hP hD hS hA (fun _ => rfl) (by decide) (by decide) (by decide) (Nat.le_of_ble_eq_true rfl) (Nat.le_of_ble_eq_true rfl) dB_3_0_10.2.2.1.1 (fun q_3 H hP hD hS => ?_)
  refine pd_K [ob12_3_ mo 0 0 0 0 0 q_1 q_2 0 0 0 0 0 0, ai_ cy q_1 40 (fun _ => 0), ai_ cy q_2 40 (fun _ => 0), ai_ cy q_3 40 (fun _ => 0)] hP hD (fun hP hD => ?_)
  refine va_putF (ci := 12) (v := .ref q_3) (ty := (tyX12 7)) (C := RX12) (T := TX12) (N := 34) hx hb hts (fun _ h => List.mem_cons_of_mem _ (List.mem_append_right _ h)) tyX12 tyX12_ok nmX12 hown hK.1 hP hD hS 0 rfl rfl 7 (by decide) (hts (.fieldLink RX12 16 "CutAtlasModel" "to" "[I") (List.mem_of_getElem? (i := 7) rfl)) (fun _ h9 => h9) rfl hin rfl (by decide +kernel) rfl rfl (Nat.le_of_ble_eq_true rfl) dB_3_0_10.2.2.1.2 (fun H locs hP hD hS => ?_)
  refine pd_K [ob12_4_ mo 0 0 0 0 0 q_1 q_2 q_3 0 0 0 0 0 0, ai_ cy q_1 40 (fun _ => 0), ai_ cy q_2 40 (fun _ => 0), ai_ cy q_3 40 (fun _ => 0)] hP hD (fun hP hD => ?_)
  refine lv_aload_n hx hb dB_3_0_10.2.2.2.1 rfl (lv_at hl 0 rfl) ?_
  refine lv_bipush (v := 40) hx hb dB_3_0_10.2.2.2.2 (by decide) ?_
  refine nw_a (a0 := (40, .inl (fun _ => 0))) (ty := .int) hx hb (hts (.arrayClass .int) (List.mem_of_getElem? (i := 4) rfl)) rfl hK.1 0 rfl (fun _ h => by cases h) hP hD hS hA (fun _ => rfl) (by decide) (by decide) (by decide) (Nat.le_of_ble_eq_true rfl) (Nat.le_of_ble_eq_true rfl) dB_3_0_11.1.1.1.1 (fun q_4 H hP hD hS => ?_)
  refine pd_K [ob12_4_ mo 0 0 0 0 0 q_1 q_2 q_3 0 0 0 0 0 0, ai_ cy q_1 40 (fun _ => 0), ai_ cy q_2 40 (fun _ => 0), ai_ cy q_3 40 (fun _ => 0), ai_ cy q_4 40 (fun _ => 0)] hP hD (fun hP hD => ?_)
  refine va_putF (ci := 12) (v := .ref q_4) (ty := (tyX12 8)) (C := RX12) (T := TX12) (N := 34) hx hb hts (fun _ h => List.mem_cons_of_mem _ (List.mem_append_right _ h)) tyX12 tyX12_ok nmX12 hown hK.1 hP hD hS 0 rfl rfl 8 (by decide) (hts (.fieldLink RX12 19 "CutAtlasModel" "width" "[I") (List.mem_of_getElem? (i := 8) rfl)) (fun _ h9 => h9) rfl hin rfl (by decide +kernel) rfl rfl (Nat.le_of_ble_eq_true rfl) dB_3_0_11.1.1.1.2 (fun H locs hP hD hS => ?_)
  refine pd_K [ob12_5_ mo 0 0 0 0 0 q_1 q_2 q_3 q_4 0 0 0 0 0 0, ai_ cy q_1 40 (fun _ => 0), ai_ cy q_2 40 (fun _ => 0), ai_ cy q_3 40 (fun _ => 0), ai_ cy q_4 40 (fun _ => 0)] hP hD (fun hP hD => ?_)
  refine lv_aload_n hx hb dB_3_0_11.1.1.2.1 rfl (lv_at hl 0 rfl) ?_
  refine lv_bipush (v := 40) hx hb dB_3_0_11.1.1.2.2 (by decide) ?_
  refine nw_a (a0 := (40, .inl (fun _ => 0))) (ty := .int) hx hb (hts (.arrayClass .int) (List.mem_of_getElem? (i := 4) rfl)) rfl hK.1 0 rfl (fun _ h => by cases h) hP hD hS hA (fun _ => rfl) (by decide) (by decide) (by decide) (Nat.le_of_ble_eq_true rfl) (Nat.le_of_ble_eq_true rfl) dB_3_0_11.1.2.1.1 (fun q_5 H hP hD hS => ?_)
  refine pd_K [ob12_5_ mo 0 0 0 0 0 q_1 q_2 q_3 q_4 0 0 0 0 0 0, ai_ cy q_1 40 (fun _ => 0), ai_ cy q_2 40 (fun _ => 0), ai_ cy q_3 40 (fun _ => 0), ai_ cy q_4 40 (fun _ => 0), ai_ cy q_5 40 (fun _ => 0)] hP hD (fun hP hD => ?_)
  refine va_putF (ci := 12) (v := .ref q_5) (ty := (tyX12 9)) (C := RX12) (T := TX12) (N := 34) hx hb hts (fun _ h => List.mem_cons_of_mem _ (List.mem_append_right _ h)) tyX12 tyX12_ok nmX12 hown hK.1 hP hD hS 0 rfl rfl 9 (by decide) (hts (.fieldLink RX12 22 "CutAtlasModel" "price" "[I") (List.mem_of_getElem? (i := 9) rfl)) (fun _ h9 => h9) rfl hin rfl (by decide +kernel) rfl rfl (Nat.le_of_ble_eq_true rfl) dB_3_0_11.1.2.1.2 (fun H locs hP hD hS => ?_)
  refine pd_K [ob12_6_ mo 0 0 0 0 0 q_1 q_2 q_3 q_4 q_5 0 0 0 0 0 0, ai_ cy q_1 40 (fun _ => 0), ai_ cy q_2 40 (fun _ => 0), ai_ cy q_3 40 (fun _ => 0), ai_ cy q_4 40 (fun _ => 0), ai_ cy q_5 40 (fun _ => 0)] hP hD (fun hP hD => ?_)
  refine lv_aload_n hx hb dB_3_0_11.1.2.2.1 rfl (lv_at hl 0 rfl) ?_
  refine lv_bipush (v := 40) hx hb dB_3_0_11.1.2.2.2 (by decide) ?_
  refine nw_a (a0 := (40, .inl (fun _ => 0))) (ty := .boolean) hx hb (hts (.arrayClass .boolean) (List.mem_of_getElem? (i := 10) rfl)) rfl hK.1 2 rfl (fun _ h => by cases h) hP hD hS hA (fun _ => rfl) (by decide) (by decide) (by decide) (Nat.le_of_ble_eq_true rfl) (Nat.le_of_ble_eq_true rfl) dB_3_0_11.2.1.1.1 (fun q_6 H hP hD hS => ?_)
  refine pd_K [ob12_6_ mo 0 0 0 0 0 q_1 q_2 q_3 q_4 q_5 0 0 0 0 0 0, ai_ cy q_1 40 (fun _ => 0), ai_ cy q_2 40 (fun _ => 0), ai_ cy q_3 40 (fun _ => 0), ai_ cy q_4 40 (fun _ => 0), ai_ cy q_5 40 (fun _ => 0), az_ cy q_6 40 (fun _ => 0)] hP hD (fun hP hD => ?_)
  refine va_putF (ci := 12) (v := .ref q_6) (ty := (tyX12 10)) (C := RX12) (T := TX12) (N := 34) hx hb hts (fun _ h => List.mem_cons_of_mem _ (List.mem_append_right _ h)) tyX12 tyX12_ok nmX12 hown hK.1 hP hD hS 0 rfl rfl 10 (by decide) (hts (.fieldLink RX12 25 "CutAtlasModel" "isMissing" "[Z") (List.mem_of_getElem? (i := 11) rfl)) (fun _ h9 => h9) rfl hin rfl (by decide +kernel) rfl rfl (Nat.le_of_ble_eq_true rfl) dB_3_0_11.2.1.1.2 (fun H locs hP hD hS => ?_)
  refine pd_K [ob12_7_ mo 0 0 0 0 0 q_1 q_2 q_3 q_4 q_5 q_6 0 0 0 0 0 0, ai_ cy q_1 40 (fun _ => 0), ai_ cy q_2 40 (fun _ => 0), ai_ cy q_3 40 (fun _ => 0), ai_ cy q_4 40 (fun _ => 0), ai_ cy q_5 40 (fun _ => 0), az_ cy q_6 40 (fun _ => 0)] hP hD (fun hP hD => ?_)
  refine lv_aload_n hx hb dB_3_0_11.2.1.2.1 rfl (lv_at hl 0 rfl) ?_
  refine lv_bipush (v := 30) hx hb dB_3_0_11.2.1.2.2 (by decide) ?_
  refine nw_a (a0 := (30, .inl (fun _ => 0))) (ty := .int) hx hb (hts (.arrayClass .int) (List.mem_of_getElem? (i := 4) rfl)) rfl hK.1 0 rfl (fun _ h => by cases h) hP hD hS hA (fun _ => rfl) (by decide) (by decide) (by decide) (Nat.le_of_ble_eq_true rfl) (Nat.le_of_ble_eq_true rfl) dB_3_0_11.2.2.1.1 (fun q_7 H hP hD hS => ?_)
  refine pd_K [ob12_7_ mo 0 0 0 0 0 q_1 q_2 q_3 q_4 q_5 q_6 0 0 0 0 0 0, ai_ cy q_1 40 (fun _ => 0), ai_ cy q_2 40 (fun _ => 0), ai_ cy q_3 40 (fun _ => 0), ai_ cy q_4 40 (fun _ => 0), ai_ cy q_5 40 (fun _ => 0), az_ cy q_6 40 (fun _ => 0), ai_ cy q_7 30 (fun _ => 0)] hP hD (fun hP hD => ?_)
  refine va_putF (ci := 12) (v := .ref q_7) (ty := (tyX12 12)) (C := RX12) (T := TX12) (N := 34) hx hb hts (fun _ h => List.mem_cons_of_mem _ (List.mem_append_right _ h)) tyX12 tyX12_ok nmX12 hown hK.1 hP hD hS 0 rfl rfl 12 (by decide) (hts (.fieldLink RX12 29 "CutAtlasModel" "oldPlaces" "[I") (pc_X12_init wsX12_init_r1 (List.mem_of_getElem? (i := 1) rfl) _ (List.mem_of_getElem? (i := 11) rfl))) (fun _ h9 => h9) rfl hin rfl (by decide +kernel) rfl rfl (Nat.le_of_ble_eq_true rfl) dB_3_0_11.2.2.1.2 (fun H locs hP hD hS => ?_)
  refine pd_K [ob12_8_ mo 0 0 0 0 0 q_1 q_2 q_3 q_4 q_5 q_6 0 q_7 0 0 0 0 0, ai_ cy q_1 40 (fun _ => 0), ai_ cy q_2 40 (fun _ => 0), ai_ cy q_3 40 (fun _ => 0), ai_ cy q_4 40 (fun _ => 0), ai_ cy q_5 40 (fun _ => 0), az_ cy q_6 40 (fun _ => 0), ai_ cy q_7 30 (fun _ => 0)] hP hD (fun hP hD => ?_)
  refine lv_aload_n hx hb dB_3_0_11.2.2.2.1 rfl (lv_at hl 0 rfl) ?_
  refine lv_bipush (v := 30) hx hb dB_3_0_11.2.2.2.2 (by decide) ?_
  refine nw_a (a0 := (30, .inl (fun _ => 0))) (ty := .int) hx hb (hts (.arrayClass .int) (List.mem_of_getElem? (i := 4) rfl)) rfl hK.1 0 rfl (fun _ h => by cases h) hP hD hS hA (fun _ => rfl) (by decide) (by decide) (by decide) (Nat.le_of_ble_eq_true rfl) (Nat.le_of_ble_eq_true rfl) dB_3_0_12.1.1.1.1 (fun q_8 H hP hD hS => ?_)
  refine pd_K [ob12_8_ mo 0 0 0 0 0 q_1 q_2 q_3 q_4 q_5 q_6 0 q_7 0 0 0 0 0, ai_ cy q_1 40 (fun _ => 0), ai_ cy q_2 40 (fun _ => 0), ai_ cy q_3 40 (fun _ => 0), ai_ cy q_4 40 (fun _ => 0), ai_ cy q_5 40 (fun _ => 0), az_ cy q_6 40 (fun _ => 0), ai_ cy q_7 30 (fun _ => 0), ai_ cy q_8 30 (fun _ => 0)] hP hD (fun hP hD => ?_)
  refine va_putF (ci := 12) (v := .ref q_8) (ty := (tyX12 13)) (C := RX12) (T := TX12) (N := 34) hx hb hts (fun _ h => List.mem_cons_of_mem _ (List.mem_append_right _ h)) tyX12 tyX12_ok nmX12 hown hK.1 hP hD hS 0 rfl rfl 13 (by decide) (hts (.fieldLink RX12 32 "CutAtlasModel" "oldLines" "[I") (pc_X12_init wsX12_init_r1 (List.mem_of_getElem? (i := 1) rfl) _ (List.mem_of_getElem? (i := 12) rfl))) (fun _ h9 => h9) rfl hin rfl (by decide +kernel) rfl rfl (Nat.le_of_ble_eq_true rfl) dB_3_0_12.1.1.1.2 (fun H locs hP hD hS => ?_)
  refine pd_K [ob12_9_ mo 0 0 0 0 0 q_1 q_2 q_3 q_4 q_5 q_6 0 q_7 q_8 0 0 0 0 0, ai_ cy q_1 40 (fun _ => 0), ai_ cy q_2 40 (fun _ => 0), ai_ cy q_3 40 (fun _ => 0), ai_ cy q_4 40 (fun _ => 0), ai_ cy q_5 40 (fun _ => 0), az_ cy q_6 40 (fun _ => 0), ai_ cy q_7 30 (fun _ => 0), ai_ cy q_8 30 (fun _ => 0)] hP hD (fun hP hD => ?_)
  refine lv_aload_n hx hb dB_3_0_12.1.1.2.1 rfl (lv_at hl 0 rfl) ?_
  refine lv_sipush (v := 6000) hx hb dB_3_0_12.1.1.2.2 (by decide) ?_
  refine nw_a (a0 := (6000, .inl (fun _ => 0))) (ty := .int) hx hb (hts (.arrayClass .int) (List.mem_of_getElem? (i := 4) rfl)) rfl hK.1 0 rfl (fun _ h => by cases h) hP hD hS hA (fun _ => rfl) (by decide) (by decide) (by decide) (Nat.le_of_ble_eq_true rfl) (Nat.le_of_ble_eq_true rfl) dB_3_0_12.1.2.1.1 (fun q_9 H hP hD hS => ?_)
  refine pd_K [ob12_9_ mo 0 0 0 0 0 q_1 q_2 q_3 q_4 q_5 q_6 0 q_7 q_8 0 0 0 0 0, ai_ cy q_1 40 (fun _ => 0), ai_ cy q_2 40 (fun _ => 0), ai_ cy q_3 40 (fun _ => 0), ai_ cy q_4 40 (fun _ => 0), ai_ cy q_5 40 (fun _ => 0), az_ cy q_6 40 (fun _ => 0), ai_ cy q_7 30 (fun _ => 0), ai_ cy q_8 30 (fun _ => 0), ai_ cy q_9 6000 (fun _ => 0)] hP hD (fun hP hD => ?_)
  refine va_putF (ci := 12) (v := .ref q_9) (ty := (tyX12 14)) (C := RX12) (T := TX12) (N := 34) hx hb hts (fun _ h => List.mem_cons_of_mem _ (List.mem_append_right _ h)) tyX12 tyX12_ok nmX12 hown hK.1 hP hD hS 0 rfl rfl 14 (by decide) (hts (.fieldLink RX12 35 "CutAtlasModel" "old" "[I") (pc_X12_init wsX12_init_r1 (List.mem_of_getElem? (i := 1) rfl) _ (List.mem_of_getElem? (i := 13) rfl))) (fun _ h9 => h9) rfl hin rfl (by decide +kernel) rfl rfl (Nat.le_of_ble_eq_true rfl) dB_3_0_12.1.2.1.2 (fun H locs hP hD hS => ?_)
  refine pd_K [ob12_10_ mo 0 0 0 0 0 q_1 q_2 q_3 q_4 q_5 q_6 0 q_7 q_8 q_9 0 0 0 0 0, ai_ cy q_1 40 (fun _ => 0), ai_ cy q_2 40 (fun _ => 0), ai_ cy q_3 40 (fun _ => 0), ai_ cy q_4 40 (fun _ => 0), ai_ cy q_5 40 (fun _ => 0), az_ cy q_6 40 (fun _ => 0), ai_ cy q_7 30 (fun _ => 0), ai_ cy q_8 30 (fun _ => 0), ai_ cy q_9 6000 (fun _ => 0)] hP hD (fun hP hD => ?_)
  refine lv_aload_n hx hb dB_3_0_12.1.2.2.1 rfl (lv_at hl 0 rfl) ?_
  refine lv_iconst (v := 4) hx hb dB_3_0_12.1.2.2.2 (by decide) ?_
  refine nw_a (a0 := (4, .inl (fun _ => 0))) (ty := .boolean) hx hb (hts (.arrayClass .boolean) (List.mem_of_getElem? (i := 10) rfl)) rfl hK.1 2 rfl (fun _ h => by cases h) hP hD hS hA (fun _ => rfl) (by decide) (by decide) (by decide) (Nat.le_of_ble_eq_true rfl) (Nat.le_of_ble_eq_true rfl) dB_3_0_12.2.1.1.1 (fun q_10 H hP hD hS => ?_)
  refine pd_K [ob12_10_ mo 0 0 0 0 0 q_1 q_2 q_3 q_4 q_5 q_6 0 q_7 q_8 q_9 0 0 0 0 0, ai_ cy q_1 40 (fun _ => 0), ai_ cy q_2 40 (fun _ => 0), ai_ cy q_3 40 (fun _ => 0), ai_ cy q_4 40 (fun _ => 0), ai_ cy q_5 40 (fun _ => 0), az_ cy q_6 40 (fun _ => 0), ai_ cy q_7 30 (fun _ => 0), ai_ cy q_8 30 (fun _ => 0), ai_ cy q_9 6000 (fun _ => 0), az_ cy q_10 4 (fun _ => 0)] hP hD (fun hP hD => ?_)
  refine va_putF (ci := 12) (v := .ref q_10) (ty := (tyX12 15)) (C := RX12) (T := TX12) (N := 34) hx hb hts (fun _ h => List.mem_cons_of_mem _ (List.mem_append_right _ h)) tyX12 tyX12_ok nmX12 hown hK.1 hP hD hS 0 rfl rfl 15 (by decide) (hts (.fieldLink RX12 38 "CutAtlasModel" "hasMap" "[Z") (pc_X12_init wsX12_init_r1 (List.mem_of_getElem? (i := 1) rfl) _ (List.mem_of_getElem? (i := 14) rfl))) (fun _ h9 => h9) rfl hin rfl (by decide +kernel) rfl rfl (Nat.le_of_ble_eq_true rfl) dB_3_0_12.2.1.1.2 (fun H locs hP hD hS => ?_)
  refine pd_K [ob12_11_ mo 0 0 0 0 0 q_1 q_2 q_3 q_4 q_5 q_6 0 q_7 q_8 q_9 q_10 0 0 0 0 0, ai_ cy q_1 40 (fun _ => 0), ai_ cy q_2 40 (fun _ => 0), ai_ cy q_3 40 (fun _ => 0), ai_ cy q_4 40 (fun _ => 0), ai_ cy q_5 40 (fun _ => 0), az_ cy q_6 40 (fun _ => 0), ai_ cy q_7 30 (fun _ => 0), ai_ cy q_8 30 (fun _ => 0), ai_ cy q_9 6000 (fun _ => 0), az_ cy q_10 4 (fun _ => 0)] hP hD (fun hP hD => ?_)
  refine lv_aload_n hx hb dB_3_0_12.2.1.2.1 rfl (lv_at hl 0 rfl) ?_
  refine lv_iconst (v := 4) hx hb dB_3_0_12.2.1.2.2 (by decide) ?_
  refine nw_a (a0 := (4, .inl (fun _ => 0))) (ty := .int) hx hb (hts (.arrayClass .int) (List.mem_of_getElem? (i := 4) rfl)) rfl hK.1 0 rfl (fun _ h => by cases h) hP hD hS hA (fun _ => rfl) (by decide) (by decide) (by decide) (Nat.le_of_ble_eq_true rfl) (Nat.le_of_ble_eq_true rfl) dB_3_0_12.2.2.1.1 (fun q_11 H hP hD hS => ?_)
  refine pd_K [ob12_11_ mo 0 0 0 0 0 q_1 q_2 q_3 q_4 q_5 q_6 0 q_7 q_8 q_9 q_10 0 0 0 0 0, ai_ cy q_1 40 (fun _ => 0), ai_ cy q_2 40 (fun _ => 0), ai_ cy q_3 40 (fun _ => 0), ai_ cy q_4 40 (fun _ => 0), ai_ cy q_5 40 (fun _ => 0), az_ cy q_6 40 (fun _ => 0), ai_ cy q_7 30 (fun _ => 0), ai_ cy q_8 30 (fun _ => 0), ai_ cy q_9 6000 (fun _ => 0), az_ cy q_10 4 (fun _ => 0), ai_ cy q_11 4 (fun _ => 0)] hP hD (fun hP hD => ?_)
  refine va_putF (ci := 12) (v := .ref q_11) (ty := (tyX12 16)) (C := RX12) (T := TX12) (N := 34) hx hb hts (fun _ h => List.mem_cons_of_mem _ (List.mem_append_right _ h)) tyX12 tyX12_ok nmX12 hown hK.1 hP hD hS 0 rfl rfl 16 (by decide) (hts (.fieldLink RX12 41 "CutAtlasModel" "mapKind" "[I") (pc_X12_init wsX12_init_r1 (List.mem_of_getElem? (i := 1) rfl) _ (List.mem_of_getElem? (i := 15) rfl))) (fun _ h9 => h9) rfl hin rfl (by decide +kernel) rfl rfl (Nat.le_of_ble_eq_true rfl) dB_3_0_12.2.2.1.2 (fun H locs hP hD hS => ?_)
  refine pd_K [ob12_12_ mo 0 0 0 0 0 q_1 q_2 q_3 q_4 q_5 q_6 0 q_7 q_8 q_9 q_10 q_11 0 0 0 0 0, ai_ cy q_1 40 (fun _ => 0), ai_ cy q_2 40 (fun _ => 0), ai_ cy q_3 40 (fun _ => 0), ai_ cy q_4 40 (fun _ => 0), ai_ cy q_5 40 (fun _ => 0), az_ cy q_6 40 (fun _ => 0), ai_ cy q_7 30 (fun _ => 0), ai_ cy q_8 30 (fun _ => 0), ai_ cy q_9 6000 (fun _ => 0), az_ cy q_10 4 (fun _ => 0), ai_ cy q_11 4 (fun _ => 0)] hP hD (fun hP hD => ?_)
  refine lv_aload_n hx hb dB_3_0_12.2.2.2.1 rfl (lv_at hl 0 rfl) ?_
  refine lv_iconst (v := 4) hx hb dB_3_0_12.2.2.2.2 (by decide) ?_
  refine nw_a (a0 := (4, .inl (fun _ => 0))) (ty := .int) hx hb (hts (.arrayClass .int) (List.mem_of_getElem? (i := 4) rfl)) rfl hK.1 0 rfl (fun _ h => by cases h) hP hD hS hA (fun _ => rfl) (by decide) (by decide) (by decide) (Nat.le_of_ble_eq_true rfl) (Nat.le_of_ble_eq_true rfl) dB_3_0_13.1.1.1.1 (fun q_12 H hP hD hS => ?_)
  refine pd_K [ob12_12_ mo 0 0 0 0 0 q_1 q_2 q_3 q_4 q_5 q_6 0 q_7 q_8 q_9 q_10 q_11 0 0 0 0 0, ai_ cy q_1 40 (fun _ => 0), ai_ cy q_2 40 (fun _ => 0), ai_ cy q_3 40 (fun _ => 0), ai_ cy q_4 40 (fun _ => 0), ai_ cy q_5 40 (fun _ => 0), az_ cy q_6 40 (fun _ => 0), ai_ cy q_7 30 (fun _ => 0), ai_ cy q_8 30 (fun _ => 0), ai_ cy q_9 6000 (fun _ => 0), az_ cy q_10 4 (fun _ => 0), ai_ cy q_11 4 (fun _ => 0), ai_ cy q_12 4 (fun _ => 0)] hP hD (fun hP hD => ?_)
  refine va_putF (ci := 12) (v := .ref q_12) (ty := (tyX12 17)) (C := RX12) (T := TX12) (N := 34) hx hb hts (fun _ h => List.mem_cons_of_mem _ (List.mem_append_right _ h)) tyX12 tyX12_ok nmX12 hown hK.1 hP hD hS 0 rfl rfl 17 (by decide) (hts (.fieldLink RX12 44 "CutAtlasModel" "mapRows" "[I") (pc_X12_init wsX12_init_r1 (List.mem_of_getElem? (i := 1) rfl) _ (List.mem_of_getElem? (i := 16) rfl))) (fun _ h9 => h9) rfl hin rfl (by decide +kernel) rfl rfl (Nat.le_of_ble_eq_true rfl) dB_3_0_13.1.1.1.2 (fun H locs hP hD hS => ?_)
  refine pd_K [ob12_13_ mo 0 0 0 0 0 q_1 q_2 q_3 q_4 q_5 q_6 0 q_7 q_8 q_9 q_10 q_11 q_12 0 0 0 0 0, ai_ cy q_1 40 (fun _ => 0), ai_ cy q_2 40 (fun _ => 0), ai_ cy q_3 40 (fun _ => 0), ai_ cy q_4 40 (fun _ => 0), ai_ cy q_5 40 (fun _ => 0), az_ cy q_6 40 (fun _ => 0), ai_ cy q_7 30 (fun _ => 0), ai_ cy q_8 30 (fun _ => 0), ai_ cy q_9 6000 (fun _ => 0), az_ cy q_10 4 (fun _ => 0), ai_ cy q_11 4 (fun _ => 0), ai_ cy q_12 4 (fun _ => 0)] hP hD (fun hP hD => ?_)
  refine lv_aload_n hx hb dB_3_0_13.1.1.2.1 rfl (lv_at hl 0 rfl) ?_
  refine lv_bipush (v := 24) hx hb dB_3_0_13.1.1.2.2 (by decide) ?_
  refine nw_a (a0 := (24, .inl (fun _ => 0))) (ty := .int) hx hb (hts (.arrayClass .int) (List.mem_of_getElem? (i := 4) rfl)) rfl hK.1 0 rfl (fun _ h => by cases h) hP hD hS hA (fun _ => rfl) (by decide) (by decide) (by decide) (Nat.le_of_ble_eq_true rfl) (Nat.le_of_ble_eq_true rfl) dB_3_0_13.1.2.1.1 (fun q_13 H hP hD hS => ?_)
  refine pd_K [ob12_13_ mo 0 0 0 0 0 q_1 q_2 q_3 q_4 q_5 q_6 0 q_7 q_8 q_9 q_10 q_11 q_12 0 0 0 0 0, ai_ cy q_1 40 (fun _ => 0), ai_ cy q_2 40 (fun _ => 0), ai_ cy q_3 40 (fun _ => 0), ai_ cy q_4 40 (fun _ => 0), ai_ cy q_5 40 (fun _ => 0), az_ cy q_6 40 (fun _ => 0), ai_ cy q_7 30 (fun _ => 0), ai_ cy q_8 30 (fun _ => 0), ai_ cy q_9 6000 (fun _ => 0), az_ cy q_10 4 (fun _ => 0), ai_ cy q_11 4 (fun _ => 0), ai_ cy q_12 4 (fun _ => 0), ai_ cy q_13 24 (fun _ => 0)] hP hD (fun hP hD => ?_)
  refine va_putF (ci := 12) (v := .ref q_13) (ty := (tyX12 18)) (C := RX12) (T := TX12) (N := 34) hx hb hts (fun _ h => List.mem_cons_of_mem _ (List.mem_append_right _ h)) tyX12 tyX12_ok nmX12 hown hK.1 hP hD hS 0 rfl rfl 18 (by decide) (hts (.fieldLink RX12 47 "CutAtlasModel" "rowSize" "[I") (pc_X12_init wsX12_init_r1 (List.mem_of_getElem? (i := 1) rfl) _ (List.mem_of_getElem? (i := 17) rfl))) (fun _ h9 => h9) rfl hin rfl (by decide +kernel) rfl rfl (Nat.le_of_ble_eq_true rfl) dB_3_0_13.1.2.1.2 (fun H locs hP hD hS => ?_)
  refine pd_K [ob12_14_ mo 0 0 0 0 0 q_1 q_2 q_3 q_4 q_5 q_6 0 q_7 q_8 q_9 q_10 q_11 q_12 q_13 0 0 0 0 0, ai_ cy q_1 40 (fun _ => 0), ai_ cy q_2 40 (fun _ => 0), ai_ cy q_3 40 (fun _ => 0), ai_ cy q_4 40 (fun _ => 0), ai_ cy q_5 40 (fun _ => 0), az_ cy q_6 40 (fun _ => 0), ai_ cy q_7 30 (fun _ => 0), ai_ cy q_8 30 (fun _ => 0), ai_ cy q_9 6000 (fun _ => 0), az_ cy q_10 4 (fun _ => 0), ai_ cy q_11 4 (fun _ => 0), ai_ cy q_12 4 (fun _ => 0), ai_ cy q_13 24 (fun _ => 0)] hP hD (fun hP hD => ?_)
  refine lv_aload_n hx hb dB_3_0_13.1.2.2.1 rfl (lv_at hl 0 rfl) ?_
  refine lv_bipush (v := 120) hx hb dB_3_0_13.1.2.2.2 (by decide) ?_
  refine nw_a (a0 := (120, .inr (.inl (fun _ => 0)))) (ty := .long) hx hb (hts (.arrayClass .long) (pc_X12_init wsX12_init_r1 (List.mem_of_getElem? (i := 1) rfl) _ (List.mem_of_getElem? (i := 18) rfl))) rfl hK.1 1 rfl (fun _ h => by cases h) hP hD hS hA (fun _ => rfl) (by decide) (by decide) (by decide) (Nat.le_of_ble_eq_true rfl) (Nat.le_of_ble_eq_true rfl) dB_3_0_13.2.1.1.1 (fun q_14 H hP hD hS => ?_)
  refine pd_K [ob12_14_ mo 0 0 0 0 0 q_1 q_2 q_3 q_4 q_5 q_6 0 q_7 q_8 q_9 q_10 q_11 q_12 q_13 0 0 0 0 0, ai_ cy q_1 40 (fun _ => 0), ai_ cy q_2 40 (fun _ => 0), ai_ cy q_3 40 (fun _ => 0), ai_ cy q_4 40 (fun _ => 0), ai_ cy q_5 40 (fun _ => 0), az_ cy q_6 40 (fun _ => 0), ai_ cy q_7 30 (fun _ => 0), ai_ cy q_8 30 (fun _ => 0), ai_ cy q_9 6000 (fun _ => 0), az_ cy q_10 4 (fun _ => 0), ai_ cy q_11 4 (fun _ => 0), ai_ cy q_12 4 (fun _ => 0), ai_ cy q_13 24 (fun _ => 0), aj_ cy q_14 120 (fun _ => 0)] hP hD (fun hP hD => ?_)
  refine va_putF (ci := 12) (v := .ref q_14) (ty := (tyX12 19)) (C := RX12) (T := TX12) (N := 34) hx hb hts (fun _ h => List.mem_cons_of_mem _ (List.mem_append_right _ h)) tyX12 tyX12_ok nmX12 hown hK.1 hP hD hS 0 rfl rfl 19 (by decide) (hts (.fieldLink RX12 50 "CutAtlasModel" "cells" "[J") (pc_X12_init wsX12_init_r1 (List.mem_of_getElem? (i := 1) rfl) _ (List.mem_of_getElem? (i := 19) rfl))) (fun _ h9 => h9) rfl hin rfl (by decide +kernel) rfl rfl (Nat.le_of_ble_eq_true rfl) dB_3_0_13.2.1.1.2 (fun H locs hP hD hS => ?_)
  refine pd_K [ob12_15_ mo 0 0 0 0 0 q_1 q_2 q_3 q_4 q_5 q_6 0 q_7 q_8 q_9 q_10 q_11 q_12 q_13 q_14 0 0 0 0 0, ai_ cy q_1 40 (fun _ => 0), ai_ cy q_2 40 (fun _ => 0), ai_ cy q_3 40 (fun _ => 0), ai_ cy q_4 40 (fun _ => 0), ai_ cy q_5 40 (fun _ => 0), az_ cy q_6 40 (fun _ => 0), ai_ cy q_7 30 (fun _ => 0), ai_ cy q_8 30 (fun _ => 0), ai_ cy q_9 6000 (fun _ => 0), az_ cy q_10 4 (fun _ => 0), ai_ cy q_11 4 (fun _ => 0), ai_ cy q_12 4 (fun _ => 0), ai_ cy q_13 24 (fun _ => 0), aj_ cy q_14 120 (fun _ => 0)] hP hD (fun hP hD => ?_)
  refine lv_aload_n hx hb dB_3_0_13.2.1.2.1 rfl (lv_at hl 0 rfl) ?_
  refine lv_iconst (v := 5) hx hb dB_3_0_13.2.1.2.2 (by decide) ?_
  refine nw_a (a0 := (5, .inr (.inl (fun _ => 0)))) (ty := .long) hx hb (hts (.arrayClass .long) (pc_X12_init wsX12_init_r1 (List.mem_of_getElem? (i := 1) rfl) _ (List.mem_of_getElem? (i := 18) rfl))) rfl hK.1 1 rfl (fun _ h => by cases h) hP hD hS hA (fun _ => rfl) (by decide) (by decide) (by decide) (Nat.le_of_ble_eq_true rfl) (Nat.le_of_ble_eq_true rfl) dB_3_0_13.2.2.1.1 (fun q_15 H hP hD hS => ?_)
  refine pd_K [ob12_15_ mo 0 0 0 0 0 q_1 q_2 q_3 q_4 q_5 q_6 0 q_7 q_8 q_9 q_10 q_11 q_12 q_13 q_14 0 0 0 0 0, ai_ cy q_1 40 (fun _ => 0), ai_ cy q_2 40 (fun _ => 0), ai_ cy q_3 40 (fun _ => 0), ai_ cy q_4 40 (fun _ => 0), ai_ cy q_5 40 (fun _ => 0), az_ cy q_6 40 (fun _ => 0), ai_ cy q_7 30 (fun _ => 0), ai_ cy q_8 30 (fun _ => 0), ai_ cy q_9 6000 (fun _ => 0), az_ cy q_10 4 (fun _ => 0), ai_ cy q_11 4 (fun _ => 0), ai_ cy q_12 4 (fun _ => 0), ai_ cy q_13 24 (fun _ => 0), aj_ cy q_14 120 (fun _ => 0), aj_ cy q_15 5 (fun _ => 0)] hP hD (fun hP hD => ?_)
  refine va_putF (ci := 12) (v := .ref q_15) (ty := (tyX12 20)) (C := RX12) (T := TX12) (N := 34) hx hb hts (fun _ h => List.mem_cons_of_mem _ (List.mem_append_right _ h)) tyX12 tyX12_ok nmX12 hown hK.1 hP hD hS 0 rfl rfl 20 (by decide) (hts (.fieldLink RX12 54 "CutAtlasModel" "copied" "[J") (pc_X12_init wsX12_init_r1 (List.mem_of_getElem? (i := 1) rfl) _ (List.mem_of_getElem? (i := 20) rfl))) (fun _ h9 => h9) rfl hin rfl (by decide +kernel) rfl rfl (Nat.le_of_ble_eq_true rfl) dB_3_0_13.2.2.1.2 (fun H locs hP hD hS => ?_)
  refine pd_K [ob12_16_ mo 0 0 0 0 0 q_1 q_2 q_3 q_4 q_5 q_6 0 q_7 q_8 q_9 q_10 q_11 q_12 q_13 q_14 q_15 0 0 0 0 0, ai_ cy q_1 40 (fun _ => 0), ai_ cy q_2 40 (fun _ => 0), ai_ cy q_3 40 (fun _ => 0), ai_ cy q_4 40 (fun _ => 0), ai_ cy q_5 40 (fun _ => 0), az_ cy q_6 40 (fun _ => 0), ai_ cy q_7 30 (fun _ => 0), ai_ cy q_8 30 (fun _ => 0), ai_ cy q_9 6000 (fun _ => 0), az_ cy q_10 4 (fun _ => 0), ai_ cy q_11 4 (fun _ => 0), ai_ cy q_12 4 (fun _ => 0), ai_ cy q_13 24 (fun _ => 0), aj_ cy q_14 120 (fun _ => 0), aj_ cy q_15 5 (fun _ => 0)] hP hD (fun hP hD => ?_)
  refine lv_aload_n hx hb dB_3_0_13.2.2.2.1 rfl (lv_at hl 0 rfl) ?_
  refine lv_bipush (v := (-9)) hx hb dB_3_0_13.2.2.2.2 (by decide) ?_
  refine va_put (ci := 12) (v := .int (-9)) (ty := .int) (C := RX12) (T := TX12) (N := 34) hx hb hts (fun _ h => List.mem_cons_of_mem _ (List.mem_append_right _ h)) tyX12 tyX12_ok nmX12 hown hK.1 hP hD hS 0 rfl rfl 21 (by decide) (hts (.fieldLink RX12 57 "CutAtlasModel" "raised" "I") (pc_X12_init wsX12_init_r1 (List.mem_of_getElem? (i := 1) rfl) _ (List.mem_of_getElem? (i := 21) rfl))) (fun _ h9 => h9) rfl (by decide +kernel) rfl rfl (Nat.le_of_ble_eq_true rfl) dB_3_0_14.1.1.1.1 (fun H locs hP hD hS => ?_)
  refine pd_K [ob12_16_ mo 0 0 0 0 0 q_1 q_2 q_3 q_4 q_5 q_6 0 q_7 q_8 q_9 q_10 q_11 q_12 q_13 q_14 q_15 (-9) 0 0 0 0, ai_ cy q_1 40 (fun _ => 0), ai_ cy q_2 40 (fun _ => 0), ai_ cy q_3 40 (fun _ => 0), ai_ cy q_4 40 (fun _ => 0), ai_ cy q_5 40 (fun _ => 0), az_ cy q_6 40 (fun _ => 0), ai_ cy q_7 30 (fun _ => 0), ai_ cy q_8 30 (fun _ => 0), ai_ cy q_9 6000 (fun _ => 0), az_ cy q_10 4 (fun _ => 0), ai_ cy q_11 4 (fun _ => 0), ai_ cy q_12 4 (fun _ => 0), ai_ cy q_13 24 (fun _ => 0), aj_ cy q_14 120 (fun _ => 0), aj_ cy q_15 5 (fun _ => 0)] hP hD (fun hP hD => ?_)
  refine lv_aload_n hx hb dB_3_0_14.1.1.1.2 rfl (lv_at hl 0 rfl) ?_
  refine lv_bipush (v := 40) hx hb dB_3_0_14.1.1.2.1 (by decide) ?_
  refine nw_a (a0 := (40, .inl (fun _ => 0))) (ty := .int) hx hb (hts (.arrayClass .int) (List.mem_of_getElem? (i := 4) rfl)) rfl hK.1 0 rfl (fun _ h => by cases h) hP hD hS hA (fun _ => rfl) (by decide) (by decide) (by decide) (Nat.le_of_ble_eq_true rfl) (Nat.le_of_ble_eq_true rfl) dB_3_0_14.1.1.2.2 (fun q_16 H hP hD hS => ?_)
  refine pd_K [ob12_16_ mo 0 0 0 0 0 q_1 q_2 q_3 q_4 q_5 q_6 0 q_7 q_8 q_9 q_10 q_11 q_12 q_13 q_14 q_15 (-9) 0 0 0 0, ai_ cy q_1 40 (fun _ => 0), ai_ cy q_2 40 (fun _ => 0), ai_ cy q_3 40 (fun _ => 0), ai_ cy q_4 40 (fun _ => 0), ai_ cy q_5 40 (fun _ => 0), az_ cy q_6 40 (fun _ => 0), ai_ cy q_7 30 (fun _ => 0), ai_ cy q_8 30 (fun _ => 0), ai_ cy q_9 6000 (fun _ => 0), az_ cy q_10 4 (fun _ => 0), ai_ cy q_11 4 (fun _ => 0), ai_ cy q_12 4 (fun _ => 0), ai_ cy q_13 24 (fun _ => 0), aj_ cy q_14 120 (fun _ => 0), aj_ cy q_15 5 (fun _ => 0), ai_ cy q_16 40 (fun _ => 0)] hP hD (fun hP hD => ?_)
  refine va_putF (ci := 12) (v := .ref q_16) (ty := (tyX12 22)) (C := RX12) (T := TX12) (N := 34) hx hb hts (fun _ h => List.mem_cons_of_mem _ (List.mem_append_right _ h)) tyX12 tyX12_ok nmX12 hown hK.1 hP hD hS 0 rfl rfl 22 (by decide) (hts (.fieldLink RX12 61 "CutAtlasModel" "flows" "[I") (pc_X12_init wsX12_init_r1 (List.mem_of_getElem? (i := 1) rfl) _ (List.mem_of_getElem? (i := 22) rfl))) (fun _ h9 => h9) rfl hin rfl (by decide +kernel) rfl rfl (Nat.le_of_ble_eq_true rfl) dB_3_0_14.1.2.1.1 (fun H locs hP hD hS => ?_)
  refine pd_K [ob12_17_ mo 0 0 0 0 0 q_1 q_2 q_3 q_4 q_5 q_6 0 q_7 q_8 q_9 q_10 q_11 q_12 q_13 q_14 q_15 (-9) q_16 0 0 0 0, ai_ cy q_1 40 (fun _ => 0), ai_ cy q_2 40 (fun _ => 0), ai_ cy q_3 40 (fun _ => 0), ai_ cy q_4 40 (fun _ => 0), ai_ cy q_5 40 (fun _ => 0), az_ cy q_6 40 (fun _ => 0), ai_ cy q_7 30 (fun _ => 0), ai_ cy q_8 30 (fun _ => 0), ai_ cy q_9 6000 (fun _ => 0), az_ cy q_10 4 (fun _ => 0), ai_ cy q_11 4 (fun _ => 0), ai_ cy q_12 4 (fun _ => 0), ai_ cy q_13 24 (fun _ => 0), aj_ cy q_14 120 (fun _ => 0), aj_ cy q_15 5 (fun _ => 0), ai_ cy q_16 40 (fun _ => 0)] hP hD (fun hP hD => ?_)
  refine lv_aload_n hx hb dB_3_0_14.1.2.1.2 rfl (lv_at hl 0 rfl) ?_
  refine lv_bipush (v := 12) hx hb dB_3_0_14.1.2.2.1 (by decide) ?_
  refine nw_a (a0 := (12, .inl (fun _ => 0))) (ty := .int) hx hb (hts (.arrayClass .int) (List.mem_of_getElem? (i := 4) rfl)) rfl hK.1 0 rfl (fun _ h => by cases h) hP hD hS hA (fun _ => rfl) (by decide) (by decide) (by decide) (Nat.le_of_ble_eq_true rfl) (Nat.le_of_ble_eq_true rfl) dB_3_0_14.1.2.2.2 (fun q_17 H hP hD hS => ?_)
  refine pd_K [ob12_17_ mo 0 0 0 0 0 q_1 q_2 q_3 q_4 q_5 q_6 0 q_7 q_8 q_9 q_10 q_11 q_12 q_13 q_14 q_15 (-9) q_16 0 0 0 0, ai_ cy q_1 40 (fun _ => 0), ai_ cy q_2 40 (fun _ => 0), ai_ cy q_3 40 (fun _ => 0), ai_ cy q_4 40 (fun _ => 0), ai_ cy q_5 40 (fun _ => 0), az_ cy q_6 40 (fun _ => 0), ai_ cy q_7 30 (fun _ => 0), ai_ cy q_8 30 (fun _ => 0), ai_ cy q_9 6000 (fun _ => 0), az_ cy q_10 4 (fun _ => 0), ai_ cy q_11 4 (fun _ => 0), ai_ cy q_12 4 (fun _ => 0), ai_ cy q_13 24 (fun _ => 0), aj_ cy q_14 120 (fun _ => 0), aj_ cy q_15 5 (fun _ => 0), ai_ cy q_16 40 (fun _ => 0), ai_ cy q_17 12 (fun _ => 0)] hP hD (fun hP hD => ?_)
  refine va_putF (ci := 12) (v := .ref q_17) (ty := (tyX12 23)) (C := RX12) (T := TX12) (N := 34) hx hb hts (fun _ h => List.mem_cons_of_mem _ (List.mem_append_right _ h)) tyX12 tyX12_ok nmX12 hown hK.1 hP hD hS 0 rfl rfl 23 (by decide) (hts (.fieldLink RX12 64 "CutAtlasModel" "queue" "[I") (pc_X12_init wsX12_init_r1 (List.mem_of_getElem? (i := 1) rfl) _ (List.mem_of_getElem? (i := 23) rfl))) (fun _ h9 => h9) rfl hin rfl (by decide +kernel) rfl rfl (Nat.le_of_ble_eq_true rfl) dB_3_0_14.2.1.1.1 (fun H locs hP hD hS => ?_)
  refine pd_K [ob12_18_ mo 0 0 0 0 0 q_1 q_2 q_3 q_4 q_5 q_6 0 q_7 q_8 q_9 q_10 q_11 q_12 q_13 q_14 q_15 (-9) q_16 q_17 0 0 0 0, ai_ cy q_1 40 (fun _ => 0), ai_ cy q_2 40 (fun _ => 0), ai_ cy q_3 40 (fun _ => 0), ai_ cy q_4 40 (fun _ => 0), ai_ cy q_5 40 (fun _ => 0), az_ cy q_6 40 (fun _ => 0), ai_ cy q_7 30 (fun _ => 0), ai_ cy q_8 30 (fun _ => 0), ai_ cy q_9 6000 (fun _ => 0), az_ cy q_10 4 (fun _ => 0), ai_ cy q_11 4 (fun _ => 0), ai_ cy q_12 4 (fun _ => 0), ai_ cy q_13 24 (fun _ => 0), aj_ cy q_14 120 (fun _ => 0), aj_ cy q_15 5 (fun _ => 0), ai_ cy q_16 40 (fun _ => 0), ai_ cy q_17 12 (fun _ => 0)] hP hD (fun hP hD => ?_)
  refine lv_aload_n hx hb dB_3_0_14.2.1.1.2 rfl (lv_at hl 0 rfl) ?_
  refine lv_bipush (v := 12) hx hb dB_3_0_14.2.1.2.1 (by decide) ?_
  refine nw_a (a0 := (12, .inl (fun _ => 0))) (ty := .int) hx hb (hts (.arrayClass .int) (List.mem_of_getElem? (i := 4) rfl)) rfl hK.1 0 rfl (fun _ h => by cases h) hP hD hS hA (fun _ => rfl) (by decide) (by decide) (by decide) (Nat.le_of_ble_eq_true rfl) (Nat.le_of_ble_eq_true rfl) dB_3_0_14.2.1.2.2 (fun q_18 H hP hD hS => ?_)
  refine pd_K [ob12_18_ mo 0 0 0 0 0 q_1 q_2 q_3 q_4 q_5 q_6 0 q_7 q_8 q_9 q_10 q_11 q_12 q_13 q_14 q_15 (-9) q_16 q_17 0 0 0 0, ai_ cy q_1 40 (fun _ => 0), ai_ cy q_2 40 (fun _ => 0), ai_ cy q_3 40 (fun _ => 0), ai_ cy q_4 40 (fun _ => 0), ai_ cy q_5 40 (fun _ => 0), az_ cy q_6 40 (fun _ => 0), ai_ cy q_7 30 (fun _ => 0), ai_ cy q_8 30 (fun _ => 0), ai_ cy q_9 6000 (fun _ => 0), az_ cy q_10 4 (fun _ => 0), ai_ cy q_11 4 (fun _ => 0), ai_ cy q_12 4 (fun _ => 0), ai_ cy q_13 24 (fun _ => 0), aj_ cy q_14 120 (fun _ => 0), aj_ cy q_15 5 (fun _ => 0), ai_ cy q_16 40 (fun _ => 0), ai_ cy q_17 12 (fun _ => 0), ai_ cy q_18 12 (fun _ => 0)] hP hD (fun hP hD => ?_)
  refine va_putF (ci := 12) (v := .ref q_18) (ty := (tyX12 24)) (C := RX12) (T := TX12) (N := 34) hx hb hts (fun _ h => List.mem_cons_of_mem _ (List.mem_append_right _ h)) tyX12 tyX12_ok nmX12 hown hK.1 hP hD hS 0 rfl rfl 24 (by decide) (hts (.fieldLink RX12 67 "CutAtlasModel" "cameFrom" "[I") (pc_X12_init wsX12_init_r2 (List.mem_of_getElem? (i := 2) rfl) _ (List.mem_of_getElem? (i := 0) rfl))) (fun _ h9 => h9) rfl hin rfl (by decide +kernel) rfl rfl (Nat.le_of_ble_eq_true rfl) dB_3_0_14.2.2.1.1 (fun H locs hP hD hS => ?_)
  refine pd_K [ob12_19_ mo 0 0 0 0 0 q_1 q_2 q_3 q_4 q_5 q_6 0 q_7 q_8 q_9 q_10 q_11 q_12 q_13 q_14 q_15 (-9) q_16 q_17 q_18 0 0 0 0, ai_ cy q_1 40 (fun _ => 0), ai_ cy q_2 40 (fun _ => 0), ai_ cy q_3 40 (fun _ => 0), ai_ cy q_4 40 (fun _ => 0), ai_ cy q_5 40 (fun _ => 0), az_ cy q_6 40 (fun _ => 0), ai_ cy q_7 30 (fun _ => 0), ai_ cy q_8 30 (fun _ => 0), ai_ cy q_9 6000 (fun _ => 0), az_ cy q_10 4 (fun _ => 0), ai_ cy q_11 4 (fun _ => 0), ai_ cy q_12 4 (fun _ => 0), ai_ cy q_13 24 (fun _ => 0), aj_ cy q_14 120 (fun _ => 0), aj_ cy q_15 5 (fun _ => 0), ai_ cy q_16 40 (fun _ => 0), ai_ cy q_17 12 (fun _ => 0), ai_ cy q_18 12 (fun _ => 0)] hP hD (fun hP hD => ?_)
  refine lv_aload_n hx hb dB_3_0_14.2.2.1.2 rfl (lv_at hl 0 rfl) ?_
  refine lv_bipush (v := 12) hx hb dB_3_0_14.2.2.2.1 (by decide) ?_
  refine nw_a (a0 := (12, .inr (.inl (fun _ => 0)))) (ty := .long) hx hb (hts (.arrayClass .long) (pc_X12_init wsX12_init_r1 (List.mem_of_getElem? (i := 1) rfl) _ (List.mem_of_getElem? (i := 18) rfl))) rfl hK.1 1 rfl (fun _ h => by cases h) hP hD hS hA (fun _ => rfl) (by decide) (by decide) (by decide) (Nat.le_of_ble_eq_true rfl) (Nat.le_of_ble_eq_true rfl) dB_3_0_14.2.2.2.2 (fun q_19 H hP hD hS => ?_)
  refine pd_K [ob12_19_ mo 0 0 0 0 0 q_1 q_2 q_3 q_4 q_5 q_6 0 q_7 q_8 q_9 q_10 q_11 q_12 q_13 q_14 q_15 (-9) q_16 q_17 q_18 0 0 0 0, ai_ cy q_1 40 (fun _ => 0), ai_ cy q_2 40 (fun _ => 0), ai_ cy q_3 40 (fun _ => 0), ai_ cy q_4 40 (fun _ => 0), ai_ cy q_5 40 (fun _ => 0), az_ cy q_6 40 (fun _ => 0), ai_ cy q_7 30 (fun _ => 0), ai_ cy q_8 30 (fun _ => 0), ai_ cy q_9 6000 (fun _ => 0), az_ cy q_10 4 (fun _ => 0), ai_ cy q_11 4 (fun _ => 0), ai_ cy q_12 4 (fun _ => 0), ai_ cy q_13 24 (fun _ => 0), aj_ cy q_14 120 (fun _ => 0), aj_ cy q_15 5 (fun _ => 0), ai_ cy q_16 40 (fun _ => 0), ai_ cy q_17 12 (fun _ => 0), ai_ cy q_18 12 (fun _ => 0), aj_ cy q_19 12 (fun _ => 0)] hP hD (fun hP hD => ?_)
  refine va_putF (ci := 12) (v := .ref q_19) (ty := (tyX12 29)) (C := RX12) (T := TX12) (N := 34) hx hb hts (fun _ h => List.mem_cons_of_mem _ (List.mem_append_right _ h)) tyX12 tyX12_ok nmX12 hown hK.1 hP hD hS 0 rfl rfl 29 (by decide) (hts (.fieldLink RX12 70 "CutAtlasModel" "paid" "[J") (pc_X12_init wsX12_init_r2 (List.mem_of_getElem? (i := 2) rfl) _ (List.mem_of_getElem? (i := 1) rfl))) (fun _ h9 => h9) rfl hin rfl (by decide +kernel) rfl rfl (Nat.le_of_ble_eq_true rfl) dB_3_0_15.1.1.1.1 (fun H locs hP hD hS => ?_)
  refine pd_K [ob12_20_ mo 0 0 0 0 0 q_1 q_2 q_3 q_4 q_5 q_6 0 q_7 q_8 q_9 q_10 q_11 q_12 q_13 q_14 q_15 (-9) q_16 q_17 q_18 0 0 0 0 q_19, ai_ cy q_1 40 (fun _ => 0), ai_ cy q_2 40 (fun _ => 0), ai_ cy q_3 40 (fun _ => 0), ai_ cy q_4 40 (fun _ => 0), ai_ cy q_5 40 (fun _ => 0), az_ cy q_6 40 (fun _ => 0), ai_ cy q_7 30 (fun _ => 0), ai_ cy q_8 30 (fun _ => 0), ai_ cy q_9 6000 (fun _ => 0), az_ cy q_10 4 (fun _ => 0), ai_ cy q_11 4 (fun _ => 0), ai_ cy q_12 4 (fun _ => 0), ai_ cy q_13 24 (fun _ => 0), aj_ cy q_14 120 (fun _ => 0), aj_ cy q_15 5 (fun _ => 0), ai_ cy q_16 40 (fun _ => 0), ai_ cy q_17 12 (fun _ => 0), ai_ cy q_18 12 (fun _ => 0), aj_ cy q_19 12 (fun _ => 0)] hP hD (fun hP hD => ?_)
  refine lv_aload_n hx hb dB_3_0_15.1.1.1.2 rfl (lv_at hl 0 rfl) ?_
  refine lv_bipush (v := 12) hx hb dB_3_0_15.1.1.2.1 (by decide) ?_
  refine nw_a (a0 := (12, .inl (fun _ => 0))) (ty := .int) hx hb (hts (.arrayClass .int) (List.mem_of_getElem? (i := 4) rfl)) rfl hK.1 0 rfl (fun _ h => by cases h) hP hD hS hA (fun _ => rfl) (by decide) (by decide) (by decide) (Nat.le_of_ble_eq_true rfl) (Nat.le_of_ble_eq_true rfl) dB_3_0_15.1.1.2.2 (fun q_20 H hP hD hS => ?_)
  refine pd_K [ob12_20_ mo 0 0 0 0 0 q_1 q_2 q_3 q_4 q_5 q_6 0 q_7 q_8 q_9 q_10 q_11 q_12 q_13 q_14 q_15 (-9) q_16 q_17 q_18 0 0 0 0 q_19, ai_ cy q_1 40 (fun _ => 0), ai_ cy q_2 40 (fun _ => 0), ai_ cy q_3 40 (fun _ => 0), ai_ cy q_4 40 (fun _ => 0), ai_ cy q_5 40 (fun _ => 0), az_ cy q_6 40 (fun _ => 0), ai_ cy q_7 30 (fun _ => 0), ai_ cy q_8 30 (fun _ => 0), ai_ cy q_9 6000 (fun _ => 0), az_ cy q_10 4 (fun _ => 0), ai_ cy q_11 4 (fun _ => 0), ai_ cy q_12 4 (fun _ => 0), ai_ cy q_13 24 (fun _ => 0), aj_ cy q_14 120 (fun _ => 0), aj_ cy q_15 5 (fun _ => 0), ai_ cy q_16 40 (fun _ => 0), ai_ cy q_17 12 (fun _ => 0), ai_ cy q_18 12 (fun _ => 0), aj_ cy q_19 12 (fun _ => 0), ai_ cy q_20 12 (fun _ => 0)] hP hD (fun hP hD => ?_)
  refine va_putF (ci := 12) (v := .ref q_20) (ty := (tyX12 30)) (C := RX12) (T := TX12) (N := 34) hx hb hts (fun _ h => List.mem_cons_of_mem _ (List.mem_append_right _ h)) tyX12 tyX12_ok nmX12 hown hK.1 hP hD hS 0 rfl rfl 30 (by decide) (hts (.fieldLink RX12 73 "CutAtlasModel" "byLine" "[I") (pc_X12_init wsX12_init_r2 (List.mem_of_getElem? (i := 2) rfl) _ (List.mem_of_getElem? (i := 2) rfl))) (fun _ h9 => h9) rfl hin rfl (by decide +kernel) rfl rfl (Nat.le_of_ble_eq_true rfl) dB_3_0_15.1.2.1.1 (fun H locs hP hD hS => ?_)
  refine pd_K [ob12_21_ mo 0 0 0 0 0 q_1 q_2 q_3 q_4 q_5 q_6 0 q_7 q_8 q_9 q_10 q_11 q_12 q_13 q_14 q_15 (-9) q_16 q_17 q_18 0 0 0 0 q_19 q_20, ai_ cy q_1 40 (fun _ => 0), ai_ cy q_2 40 (fun _ => 0), ai_ cy q_3 40 (fun _ => 0), ai_ cy q_4 40 (fun _ => 0), ai_ cy q_5 40 (fun _ => 0), az_ cy q_6 40 (fun _ => 0), ai_ cy q_7 30 (fun _ => 0), ai_ cy q_8 30 (fun _ => 0), ai_ cy q_9 6000 (fun _ => 0), az_ cy q_10 4 (fun _ => 0), ai_ cy q_11 4 (fun _ => 0), ai_ cy q_12 4 (fun _ => 0), ai_ cy q_13 24 (fun _ => 0), aj_ cy q_14 120 (fun _ => 0), aj_ cy q_15 5 (fun _ => 0), ai_ cy q_16 40 (fun _ => 0), ai_ cy q_17 12 (fun _ => 0), ai_ cy q_18 12 (fun _ => 0), aj_ cy q_19 12 (fun _ => 0), ai_ cy q_20 12 (fun _ => 0)] hP hD (fun hP hD => ?_)
  refine lv_aload_n hx hb dB_3_0_15.1.2.1.2 rfl (lv_at hl 0 rfl) ?_
  refine lv_bipush (v := 12) hx hb dB_3_0_15.1.2.2.1 (by decide) ?_
  refine nw_a (a0 := (12, .inl (fun _ => 0))) (ty := .int) hx hb (hts (.arrayClass .int) (List.mem_of_getElem? (i := 4) rfl)) rfl hK.1 0 rfl (fun _ h => by cases h) hP hD hS hA (fun _ => rfl) (by decide) (by decide) (by decide) (Nat.le_of_ble_eq_true rfl) (Nat.le_of_ble_eq_true rfl) dB_3_0_15.1.2.2.2 (fun q_21 H hP hD hS => ?_)
  refine pd_K [ob12_21_ mo 0 0 0 0 0 q_1 q_2 q_3 q_4 q_5 q_6 0 q_7 q_8 q_9 q_10 q_11 q_12 q_13 q_14 q_15 (-9) q_16 q_17 q_18 0 0 0 0 q_19 q_20, ai_ cy q_1 40 (fun _ => 0), ai_ cy q_2 40 (fun _ => 0), ai_ cy q_3 40 (fun _ => 0), ai_ cy q_4 40 (fun _ => 0), ai_ cy q_5 40 (fun _ => 0), az_ cy q_6 40 (fun _ => 0), ai_ cy q_7 30 (fun _ => 0), ai_ cy q_8 30 (fun _ => 0), ai_ cy q_9 6000 (fun _ => 0), az_ cy q_10 4 (fun _ => 0), ai_ cy q_11 4 (fun _ => 0), ai_ cy q_12 4 (fun _ => 0), ai_ cy q_13 24 (fun _ => 0), aj_ cy q_14 120 (fun _ => 0), aj_ cy q_15 5 (fun _ => 0), ai_ cy q_16 40 (fun _ => 0), ai_ cy q_17 12 (fun _ => 0), ai_ cy q_18 12 (fun _ => 0), aj_ cy q_19 12 (fun _ => 0), ai_ cy q_20 12 (fun _ => 0), ai_ cy q_21 12 (fun _ => 0)] hP hD (fun hP hD => ?_)
  refine va_putF (ci := 12) (v := .ref q_21) (ty := (tyX12 31)) (C := RX12) (T := TX12) (N := 34) hx hb hts (fun _ h => List.mem_cons_of_mem _ (List.mem_append_right _ h)) tyX12 tyX12_ok nmX12 hown hK.1 hP hD hS 0 rfl rfl 31 (by decide) (hts (.fieldLink RX12 76 "CutAtlasModel" "byPlace" "[I") (pc_X12_init wsX12_init_r2 (List.mem_of_getElem? (i := 2) rfl) _ (List.mem_of_getElem? (i := 3) rfl))) (fun _ h9 => h9) rfl hin rfl (by decide +kernel) rfl rfl (Nat.le_of_ble_eq_true rfl) dB_3_0_15.2.1.1.1 (fun H locs hP hD hS => ?_)
  refine pd_K [ob12_22_ mo 0 0 0 0 0 q_1 q_2 q_3 q_4 q_5 q_6 0 q_7 q_8 q_9 q_10 q_11 q_12 q_13 q_14 q_15 (-9) q_16 q_17 q_18 0 0 0 0 q_19 q_20 q_21, ai_ cy q_1 40 (fun _ => 0), ai_ cy q_2 40 (fun _ => 0), ai_ cy q_3 40 (fun _ => 0), ai_ cy q_4 40 (fun _ => 0), ai_ cy q_5 40 (fun _ => 0), az_ cy q_6 40 (fun _ => 0), ai_ cy q_7 30 (fun _ => 0), ai_ cy q_8 30 (fun _ => 0), ai_ cy q_9 6000 (fun _ => 0), az_ cy q_10 4 (fun _ => 0), ai_ cy q_11 4 (fun _ => 0), ai_ cy q_12 4 (fun _ => 0), ai_ cy q_13 24 (fun _ => 0), aj_ cy q_14 120 (fun _ => 0), aj_ cy q_15 5 (fun _ => 0), ai_ cy q_16 40 (fun _ => 0), ai_ cy q_17 12 (fun _ => 0), ai_ cy q_18 12 (fun _ => 0), aj_ cy q_19 12 (fun _ => 0), ai_ cy q_20 12 (fun _ => 0), ai_ cy q_21 12 (fun _ => 0)] hP hD (fun hP hD => ?_)
  refine lv_aload_n hx hb dB_3_0_15.2.1.1.2 rfl (lv_at hl 0 rfl) ?_
  refine lv_bipush (v := 12) hx hb dB_3_0_15.2.1.2.1 (by decide) ?_
  refine nw_a (a0 := (12, .inl (fun _ => 0))) (ty := .int) hx hb (hts (.arrayClass .int) (List.mem_of_getElem? (i := 4) rfl)) rfl hK.1 0 rfl (fun _ h => by cases h) hP hD hS hA (fun _ => rfl) (by decide) (by decide) (by decide) (Nat.le_of_ble_eq_true rfl) (Nat.le_of_ble_eq_true rfl) dB_3_0_15.2.1.2.2 (fun q_22 H hP hD hS => ?_)
  refine pd_K [ob12_22_ mo 0 0 0 0 0 q_1 q_2 q_3 q_4 q_5 q_6 0 q_7 q_8 q_9 q_10 q_11 q_12 q_13 q_14 q_15 (-9) q_16 q_17 q_18 0 0 0 0 q_19 q_20 q_21, ai_ cy q_1 40 (fun _ => 0), ai_ cy q_2 40 (fun _ => 0), ai_ cy q_3 40 (fun _ => 0), ai_ cy q_4 40 (fun _ => 0), ai_ cy q_5 40 (fun _ => 0), az_ cy q_6 40 (fun _ => 0), ai_ cy q_7 30 (fun _ => 0), ai_ cy q_8 30 (fun _ => 0), ai_ cy q_9 6000 (fun _ => 0), az_ cy q_10 4 (fun _ => 0), ai_ cy q_11 4 (fun _ => 0), ai_ cy q_12 4 (fun _ => 0), ai_ cy q_13 24 (fun _ => 0), aj_ cy q_14 120 (fun _ => 0), aj_ cy q_15 5 (fun _ => 0), ai_ cy q_16 40 (fun _ => 0), ai_ cy q_17 12 (fun _ => 0), ai_ cy q_18 12 (fun _ => 0), aj_ cy q_19 12 (fun _ => 0), ai_ cy q_20 12 (fun _ => 0), ai_ cy q_21 12 (fun _ => 0), ai_ cy q_22 12 (fun _ => 0)] hP hD (fun hP hD => ?_)
  refine va_putF (ci := 12) (v := .ref q_22) (ty := (tyX12 32)) (C := RX12) (T := TX12) (N := 34) hx hb hts (fun _ h => List.mem_cons_of_mem _ (List.mem_append_right _ h)) tyX12 tyX12_ok nmX12 hown hK.1 hP hD hS 0 rfl rfl 32 (by decide) (hts (.fieldLink RX12 79 "CutAtlasModel" "treeNext" "[I") (pc_X12_init wsX12_init_r2 (List.mem_of_getElem? (i := 2) rfl) _ (List.mem_of_getElem? (i := 4) rfl))) (fun _ h9 => h9) rfl hin rfl (by decide +kernel) rfl rfl (Nat.le_of_ble_eq_true rfl) dB_3_0_15.2.2.1.1 (fun H locs hP hD hS => ?_)
  refine pd_K [ob12_23_ mo 0 0 0 0 0 q_1 q_2 q_3 q_4 q_5 q_6 0 q_7 q_8 q_9 q_10 q_11 q_12 q_13 q_14 q_15 (-9) q_16 q_17 q_18 0 0 0 0 q_19 q_20 q_21 q_22, ai_ cy q_1 40 (fun _ => 0), ai_ cy q_2 40 (fun _ => 0), ai_ cy q_3 40 (fun _ => 0), ai_ cy q_4 40 (fun _ => 0), ai_ cy q_5 40 (fun _ => 0), az_ cy q_6 40 (fun _ => 0), ai_ cy q_7 30 (fun _ => 0), ai_ cy q_8 30 (fun _ => 0), ai_ cy q_9 6000 (fun _ => 0), az_ cy q_10 4 (fun _ => 0), ai_ cy q_11 4 (fun _ => 0), ai_ cy q_12 4 (fun _ => 0), ai_ cy q_13 24 (fun _ => 0), aj_ cy q_14 120 (fun _ => 0), aj_ cy q_15 5 (fun _ => 0), ai_ cy q_16 40 (fun _ => 0), ai_ cy q_17 12 (fun _ => 0), ai_ cy q_18 12 (fun _ => 0), aj_ cy q_19 12 (fun _ => 0), ai_ cy q_20 12 (fun _ => 0), ai_ cy q_21 12 (fun _ => 0), ai_ cy q_22 12 (fun _ => 0)] hP hD (fun hP hD => ?_)
  refine lv_aload_n hx hb dB_3_0_15.2.2.1.2 rfl (lv_at hl 0 rfl) ?_
  refine lv_bipush (v := 12) hx hb dB_3_0_15.2.2.2.1 (by decide) ?_
  refine nw_a (a0 := (12, .inl (fun _ => 0))) (ty := .int) hx hb (hts (.arrayClass .int) (List.mem_of_getElem? (i := 4) rfl)) rfl hK.1 0 rfl (fun _ h => by cases h) hP hD hS hA (fun _ => rfl) (by decide) (by decide) (by decide) (Nat.le_of_ble_eq_true rfl) (Nat.le_of_ble_eq_true rfl) dB_3_0_15.2.2.2.2 (fun q_23 H hP hD hS => ?_)
  refine pd_K [ob12_23_ mo 0 0 0 0 0 q_1 q_2 q_3 q_4 q_5 q_6 0 q_7 q_8 q_9 q_10 q_11 q_12 q_13 q_14 q_15 (-9) q_16 q_17 q_18 0 0 0 0 q_19 q_20 q_21 q_22, ai_ cy q_1 40 (fun _ => 0), ai_ cy q_2 40 (fun _ => 0), ai_ cy q_3 40 (fun _ => 0), ai_ cy q_4 40 (fun _ => 0), ai_ cy q_5 40 (fun _ => 0), az_ cy q_6 40 (fun _ => 0), ai_ cy q_7 30 (fun _ => 0), ai_ cy q_8 30 (fun _ => 0), ai_ cy q_9 6000 (fun _ => 0), az_ cy q_10 4 (fun _ => 0), ai_ cy q_11 4 (fun _ => 0), ai_ cy q_12 4 (fun _ => 0), ai_ cy q_13 24 (fun _ => 0), aj_ cy q_14 120 (fun _ => 0), aj_ cy q_15 5 (fun _ => 0), ai_ cy q_16 40 (fun _ => 0), ai_ cy q_17 12 (fun _ => 0), ai_ cy q_18 12 (fun _ => 0), aj_ cy q_19 12 (fun _ => 0), ai_ cy q_20 12 (fun _ => 0), ai_ cy q_21 12 (fun _ => 0), ai_ cy q_22 12 (fun _ => 0), ai_ cy q_23 12 (fun _ => 0)] hP hD (fun hP hD => ?_)
  refine va_putF (ci := 12) (v := .ref q_23) (ty := (tyX12 33)) (C := RX12) (T := TX12) (N := 34) hx hb hts (fun _ h => List.mem_cons_of_mem _ (List.mem_append_right _ h)) tyX12 tyX12_ok nmX12 hown hK.1 hP hD hS 0 rfl rfl 33 (by decide) (hts (.fieldLink RX12 82 "CutAtlasModel" "treeNumber" "[I") (pc_X12_init wsX12_init_r2 (List.mem_of_getElem? (i := 2) rfl) _ (List.mem_of_getElem? (i := 5) rfl))) (fun _ h9 => h9) rfl hin rfl (by decide +kernel) rfl rfl (Nat.le_of_ble_eq_true rfl) dB_3_0_16.1 (fun H locs hP hD hS => ?_)
  refine pd_K [ob12_0_ mo 0 0 0 0 0 q_1 q_2 q_3 q_4 q_5 q_6 0 q_7 q_8 q_9 q_10 q_11 q_12 q_13 q_14 q_15 (-9) q_16 q_17 q_18 0 0 0 0 q_19 q_20 q_21 q_22 q_23, ai_ cy q_1 40 (fun _ => 0), ai_ cy q_2 40 (fun _ => 0), ai_ cy q_3 40 (fun _ => 0), ai_ cy q_4 40 (fun _ => 0), ai_ cy q_5 40 (fun _ => 0), az_ cy q_6 40 (fun _ => 0), ai_ cy q_7 30 (fun _ => 0), ai_ cy q_8 30 (fun _ => 0), ai_ cy q_9 6000 (fun _ => 0), az_ cy q_10 4 (fun _ => 0), ai_ cy q_11 4 (fun _ => 0), ai_ cy q_12 4 (fun _ => 0), ai_ cy q_13 24 (fun _ => 0), aj_ cy q_14 120 (fun _ => 0), aj_ cy q_15 5 (fun _ => 0), ai_ cy q_16 40 (fun _ => 0), ai_ cy q_17 12 (fun _ => 0), ai_ cy q_18 12 (fun _ => 0), aj_ cy q_19 12 (fun _ => 0), ai_ cy q_20 12 (fun _ => 0), ai_ cy q_21 12 (fun _ => 0), ai_ cy q_22 12 (fun _ => 0), ai_ cy q_23 12 (fun _ => 0)] hP hD (fun hP hD => ?_)
  rw [hQ]
  exact W.vret hx hb hr (fun t ht hW => ⟨⟨(), rfl, trivial, q_1, q_2, q_3, q_4, q_5, q_6, q_7, q_8, q_9, q_10, q_11, q_12, q_13, q_14, q_15, q_16, q_17, q_18, q_19, q_20, q_21, q_22, q_23, by rw [ht]; exact hP, hD⟩, hS.F ht⟩) hS.2.2 dB_3_0_16.2
end

section
/-! ===== one step down a chain of cases ===== -/
theorem if_p {c : Prop} [Decidable c] {a b x : Int} (h : c) (e : a = x) : (if c then a else b) = x := by rw [if_pos h, e]
theorem if_n {c : Prop} [Decidable c] {a b x : Int} (h : ¬ c) (e : b = x) : (if c then a else b) = x := by rw [if_neg h, e]
theorem if_ps {c : Prop} [Decidable c] {a b x : Int} (h : c) (e : x = a) : x = (if c then a else b) := by rw [if_pos h, e]
theorem if_ns {c : Prop} [Decidable c] {a b x : Int} (h : ¬ c) (e : x = b) : x = (if c then a else b) := by rw [if_neg h, e]
theorem if_pz {c : Prop} [Decidable c] {a b x : Int} (h : c) (e : a ≠ x) : (if c then a else b) ≠ x := by rw [if_pos h]; exact e
theorem if_nz {c : Prop} [Decidable c] {a b x : Int} (h : ¬ c) (e : b ≠ x) : (if c then a else b) ≠ x := by rw [if_neg h]; exact e
/-! ===== maps, exactly ===== -/
noncomputable def f4_ {α : Type} (a b c d : α) (i : Nat) : α := if i = 0 then a else if i = 1 then b else if i = 2 then c else d
theorem f4_c0 {α : Type} {a b c d : α} : f4_ a b c d (0 : Int32).toNatClampNeg = a := by rw [cl_0]; rfl
theorem f4_c1 {α : Type} {a b c d : α} : f4_ a b c d (1 : Int32).toNatClampNeg = b := by rw [cl_1]; rfl
theorem f4_c2 {α : Type} {a b c d : α} : f4_ a b c d (2 : Int32).toNatClampNeg = c := by rw [cl_2]; rfl
theorem f4_c3 {α : Type} {a b c d : α} : f4_ a b c d (3 : Int32).toNatClampNeg = d := by rw [cl_3]; rfl
noncomputable def eq4 {α : Type} (F G : Nat → α) : Prop := ∀ i : Nat, i < 4 → F i = G i
theorem eq4_rf {α : Type} {F : Nat → α} : eq4 F F := fun _ _ => rfl
theorem f4_u0 {α : Type} {a b c d x : α} : eq4 (f4_ x b c d) (va_up (f4_ a b c d) (0 : Int32).toNatClampNeg x) := fun i hi => by
  rw [cl_0]
  have h : i = 0 ∨ i = 1 ∨ i = 2 ∨ i = 3 := by omega
  rcases h with rfl | rfl | rfl | rfl <;> first | rfl | (rw [va_up_self]; rfl) | (rw [va_up_ne _ _ (by decide)]; rfl)
theorem f4_u1 {α : Type} {a b c d x : α} : eq4 (f4_ a x c d) (va_up (f4_ a b c d) (1 : Int32).toNatClampNeg x) := fun i hi => by
  rw [cl_1]
  have h : i = 0 ∨ i = 1 ∨ i = 2 ∨ i = 3 := by omega
  rcases h with rfl | rfl | rfl | rfl <;> first | rfl | (rw [va_up_self]; rfl) | (rw [va_up_ne _ _ (by decide)]; rfl)
theorem f4_u2 {α : Type} {a b c d x : α} : eq4 (f4_ a b x d) (va_up (f4_ a b c d) (2 : Int32).toNatClampNeg x) := fun i hi => by
  rw [cl_2]
  have h : i = 0 ∨ i = 1 ∨ i = 2 ∨ i = 3 := by omega
  rcases h with rfl | rfl | rfl | rfl <;> first | rfl | (rw [va_up_self]; rfl) | (rw [va_up_ne _ _ (by decide)]; rfl)
theorem f4_u3 {α : Type} {a b c d x : α} : eq4 (f4_ a b c x) (va_up (f4_ a b c d) (3 : Int32).toNatClampNeg x) := fun i hi => by
  rw [cl_3]
  have h : i = 0 ∨ i = 1 ∨ i = 2 ∨ i = 3 := by omega
  rcases h with rfl | rfl | rfl | rfl <;> first | rfl | (rw [va_up_self]; rfl) | (rw [va_up_ne _ _ (by decide)]; rfl)
noncomputable def mapRI (a k n : Int) : Int := if ¬ ((0 ≤ a ∧ a < 4) ∧ (0 ≤ k ∧ k < 3) ∧ n ≤ 6) then -1 else if n < 0 then -15 else 0
noncomputable def rowRI (a r n has rows : Int) : Int := if ¬ ((0 ≤ a ∧ a < 4) ∧ n ≤ 5) then -1 else if has = 0 then -11 else if ¬ (0 ≤ r ∧ r < rows) then -12 else if n < 0 then -15 else 0
noncomputable def wrgI (a k r i has kind rows len : Int) : Int := if ¬ ((0 ≤ a ∧ a < 4) ∧ (0 ≤ k ∧ k < 3)) then -1 else if has = 0 then -11 else if kind ≠ k then -13 else if ¬ (0 ≤ r ∧ r < rows) then -12 else if len < 0 then -11 else if ¬ (0 ≤ i ∧ i < len) then -12 else 0
noncomputable def cpyI (a r i o j n has rows la lb : Int) : Int := if ¬ (0 ≤ a ∧ a < 4) then -1 else if has = 0 then -11 else if ¬ ((0 ≤ r ∧ r < rows) ∧ (0 ≤ o ∧ o < rows)) then -12 else if la < 0 ∨ lb < 0 then -11 else if ¬ ((0 ≤ i ∧ 0 ≤ n ∧ i + n ≤ la) ∧ (0 ≤ j ∧ 0 ≤ n ∧ j + n ≤ lb)) then -12 else 0
noncomputable def hasI (mr : Int) : Int := if mr = -9 then 0 else 1
/-- a number as a map of kind k holds it -/
noncomputable def putV (k : Int) (v : Int64) : Int64 := if k = 0 then v.toInt32.toInt16.toInt32.toInt64 else if k = 1 then v.toInt32.toInt64 else v
theorem cpyI_a {a r i o j n h w x y : Int} (h0 : 0 ≤ a) (h1 : a < 4) : cpyI a r i o j n h w x y = cpyI 0 r i o j n h w x y := by
  unfold cpyI
  rw [if_neg (show ¬ ¬ (0 ≤ a ∧ a < 4) from fun q => q ⟨h0, h1⟩), if_neg (show ¬ ¬ ((0 : Int) ≤ 0 ∧ (0 : Int) < 4) from fun q => q ⟨by omega, by omega⟩)]
/-- a row that is missing, or has up to 5 numbers -/
noncomputable def lok (f : Nat → Int32) (n : Nat) : Prop := ∀ j : Nat, j < n → (f j).toInt = -9 ∨ (0 ≤ (f j).toInt ∧ (f j).toInt ≤ 5)
theorem lok_upd {f : Nat → Int32} {n k : Nat} {x : Int32} (h : lok f n) (hx : x.toInt = -9 ∨ (0 ≤ x.toInt ∧ x.toInt ≤ 5)) : lok (upd f k x) n := fun j hj => by
  by_cases e : j = k
  · subst e
    rw [pk_us]
    exact hx
  · rw [pk_un e]
    exact h j hj
theorem nine6 {f g g2 : Nat → Int32} {b : Int} {k k2 y : Int32} (h : ∀ q : Nat, g q = if b ≤ (q : Int) ∧ (q : Int) < b + k.toInt then (-9) else f q) (e : g2 = upd g y.toNatClampNeg (-9)) (hy : y.toInt = b + k.toInt) (hb : 0 ≤ b) (hk : 0 ≤ k.toInt) (e2 : k2.toInt = k.toInt + 1) : ∀ q : Nat, g2 q = if b ≤ (q : Int) ∧ (q : Int) < b + k2.toInt then (-9) else f q := fun q => by
  have c := clI (i := y) (by omega)
  rw [e]
  by_cases z : q = y.toNatClampNeg
  · rw [z, pk_us, if_pos (by omega)]
  · rw [pk_un z, h q]
    by_cases w : b ≤ (q : Int) ∧ (q : Int) < b + k.toInt
    · rw [if_pos w, if_pos (by omega)]
    · rw [if_neg w, if_neg (by omega)]
theorem nine0 {f : Nat → Int32} {b : Int} : ∀ q : Nat, f q = if b ≤ (q : Int) ∧ (q : Int) < b + (0 : Int32).toInt then (-9) else f q := fun q => by
  have z : (0 : Int32).toInt = 0 := by decide
  rw [if_neg (by omega)]
theorem nineE {f g : Nat → Int32} {b : Int} {k : Int32} (h : ∀ q : Nat, g q = if b ≤ (q : Int) ∧ (q : Int) < b + k.toInt then (-9) else f q) (h5 : k.toInt = 6) : ∀ q : Nat, g q = if b ≤ (q : Int) ∧ (q : Int) < b + 6 then (-9) else f q := fun q => by
  rw [h q, h5]
theorem nine_lok {f g : Nat → Int32} {b : Int} {n : Nat} (h : ∀ q : Nat, g q = if b ≤ (q : Int) ∧ (q : Int) < b + 6 then (-9) else f q) (hf : lok f n) : lok g n := fun j hj => by
  rw [h j]
  split
  · exact Or.inl (by decide)
  · exact hf j hj
/-- the maps of both sides are the same -/
noncomputable def mrel (mk mr : Nat → Int32) (fl : Nat → Nat → Int32) (fn : Nat → Nat → Int64) (f15 f16 f17 f18 : Nat → Int32) (f19 : Nat → Int64) : Prop := ∀ i : Nat, i < 4 → ((mr i).toInt = -9 ↔ (f15 i).toInt = 0) ∧ ((mr i).toInt ≠ -9 → mk i = f16 i ∧ mr i = f17 i ∧ (∀ r : Nat, r < 6 → fl i r = f18 (6 * i + r)) ∧ (∀ q : Nat, q < 30 → (fl i (q / 5)).toInt ≠ -9 → fn i q = f19 (30 * i + q)))
section MREL
variable {mk mr mk2 mr2 : Nat → Int32} {fl fl2 : Nat → Nat → Int32} {fn fn2 : Nat → Nat → Int64} {f15 f16 f17 f18 e15 e16 e17 e18 : Nat → Int32} {f19 e19 : Nat → Int64} {a k r i n o j : Int32}
theorem mrel_cg (h : mrel mk mr fl fn f15 f16 f17 f18 f19) (h1 : eq4 mk2 mk) (h2 : eq4 mr2 mr) (h3 : eq4 fl2 fl) (h4 : eq4 fn2 fn) : mrel mk2 mr2 fl2 fn2 f15 f16 f17 f18 f19 := fun q hq => by
  rw [h1 q hq, h2 q hq, h3 q hq, h4 q hq]
  exact h q hq
theorem f4_same {α : Type} {x : α} {q : Nat} : f4_ x x x x q = x := by
  unfold f4_
  (repeat' split) <;> rfl
theorem mrel_0 : mrel (f4_ 0 0 0 0) (f4_ (-9) (-9) (-9) (-9)) (f4_ (fun _ => 0) (fun _ => 0) (fun _ => 0) (fun _ => 0)) (f4_ (fun _ => 0) (fun _ => 0) (fun _ => 0) (fun _ => 0)) (fun _ => 0) (fun _ => 0) (fun _ => 0) (fun _ => 0) (fun _ => 0) := fun q _ => by
  rw [f4_same (x := ((-9) : Int32))]
  exact ⟨⟨fun _ => (by decide : (0 : Int32).toInt = 0), fun _ => by decide⟩, fun h => absurd (by decide) h⟩
theorem lok_0 {m : Nat} : lok (fun _ => 0) m := fun _ _ => Or.inr (by decide : 0 ≤ (0 : Int32).toInt ∧ (0 : Int32).toInt ≤ 5)
theorem has_same (h : mrel mk mr fl fn f15 f16 f17 f18 f19) {q : Nat} (hq : q < 4) : hasI (mr q).toInt = 0 ↔ (f15 q).toInt = 0 := by
  have a := (h q hq).1
  unfold hasI
  constructor
  · intro z
    by_cases w : (mr q).toInt = -9
    · exact a.mp w
    · rw [if_neg w] at z
      omega
  · intro z
    rw [if_pos (a.mpr z)]
theorem row_same (h : mrel mk mr fl fn f15 f16 f17 f18 f19) : rowRI a.toInt r.toInt n.toInt (hasI (mr a.toNatClampNeg).toInt) (mr a.toNatClampNeg).toInt = rowRI a.toInt r.toInt n.toInt (f15 a.toNatClampNeg).toInt (f17 a.toNatClampNeg).toInt := by
  unfold rowRI
  by_cases w : (0 ≤ a.toInt ∧ a.toInt < 4) ∧ n.toInt ≤ 5
  · have c := clI (i := a) w.1.1
    have hq : a.toNatClampNeg < 4 := by omega
    rw [if_neg (not_not_intro w), if_neg (not_not_intro w)]
    by_cases z : (f15 a.toNatClampNeg).toInt = 0
    · rw [if_pos z, if_pos ((has_same h hq).mpr z)]
    · rw [if_neg z, if_neg (fun y => z ((has_same h hq).mp y))]
      have g := (h _ hq).2 (fun y => z ((h _ hq).1.mp y))
      rw [g.2.1]
  · rw [if_pos w, if_pos w]
theorem wrg_same (h : mrel mk mr fl fn f15 f16 f17 f18 f19) (h6 : ∀ q : Nat, q < 4 → (mr q).toInt ≤ 6) : wrgI a.toInt k.toInt r.toInt i.toInt (hasI (mr a.toNatClampNeg).toInt) (mk a.toNatClampNeg).toInt (mr a.toNatClampNeg).toInt (fl a.toNatClampNeg r.toNatClampNeg).toInt = wrgI a.toInt k.toInt r.toInt i.toInt (f15 a.toNatClampNeg).toInt (f16 a.toNatClampNeg).toInt (f17 a.toNatClampNeg).toInt (f18 (6 * a.toInt + r.toInt).toNat).toInt := by
  unfold wrgI
  by_cases w : (0 ≤ a.toInt ∧ a.toInt < 4) ∧ (0 ≤ k.toInt ∧ k.toInt < 3)
  · have c := clI (i := a) w.1.1
    have hq : a.toNatClampNeg < 4 := by omega
    rw [if_neg (not_not_intro w), if_neg (not_not_intro w)]
    by_cases z : (f15 a.toNatClampNeg).toInt = 0
    · rw [if_pos z, if_pos ((has_same h hq).mpr z)]
    · rw [if_neg z, if_neg (fun y => z ((has_same h hq).mp y))]
      have g := (h _ hq).2 (fun y => z ((h _ hq).1.mp y))
      have b6 := h6 _ hq
      rw [g.1, g.2.1]
      rw [g.2.1] at b6
      by_cases z2 : (f16 a.toNatClampNeg).toInt ≠ k.toInt
      · rw [if_pos z2, if_pos z2]
      · rw [if_neg z2, if_neg z2]
        by_cases z3 : 0 ≤ r.toInt ∧ r.toInt < (f17 a.toNatClampNeg).toInt
        · have cr := clI (i := r) z3.1
          rw [if_neg (not_not_intro z3), if_neg (not_not_intro z3), g.2.2.1 r.toNatClampNeg (by omega), show (6 * a.toInt + r.toInt).toNat = 6 * a.toNatClampNeg + r.toNatClampNeg by omega]
        · rw [if_pos z3, if_pos z3]
  · rw [if_pos w, if_pos w]
theorem cpy_same (h : mrel mk mr fl fn f15 f16 f17 f18 f19) (h6 : ∀ q : Nat, q < 4 → (mr q).toInt ≤ 6) : cpyI a.toInt r.toInt i.toInt o.toInt j.toInt n.toInt (hasI (mr a.toNatClampNeg).toInt) (mr a.toNatClampNeg).toInt (fl a.toNatClampNeg r.toNatClampNeg).toInt (fl a.toNatClampNeg o.toNatClampNeg).toInt = cpyI a.toInt r.toInt i.toInt o.toInt j.toInt n.toInt (f15 a.toNatClampNeg).toInt (f17 a.toNatClampNeg).toInt (f18 (6 * a.toInt + r.toInt).toNat).toInt (f18 (6 * a.toInt + o.toInt).toNat).toInt := by
  unfold cpyI
  by_cases w : 0 ≤ a.toInt ∧ a.toInt < 4
  · have c := clI (i := a) w.1
    have hq : a.toNatClampNeg < 4 := by omega
    rw [if_neg (not_not_intro w), if_neg (not_not_intro w)]
    by_cases z : (f15 a.toNatClampNeg).toInt = 0
    · rw [if_pos z, if_pos ((has_same h hq).mpr z)]
    · rw [if_neg z, if_neg (fun y => z ((has_same h hq).mp y))]
      have g := (h _ hq).2 (fun y => z ((h _ hq).1.mp y))
      have b6 := h6 _ hq
      rw [g.2.1]
      rw [g.2.1] at b6
      by_cases z3 : (0 ≤ r.toInt ∧ r.toInt < (f17 a.toNatClampNeg).toInt) ∧ (0 ≤ o.toInt ∧ o.toInt < (f17 a.toNatClampNeg).toInt)
      · have cr := clI (i := r) z3.1.1
        have co := clI (i := o) z3.2.1
        rw [if_neg (not_not_intro z3), if_neg (not_not_intro z3), g.2.2.1 r.toNatClampNeg (by omega), g.2.2.1 o.toNatClampNeg (by omega), show (6 * a.toInt + r.toInt).toNat = 6 * a.toNatClampNeg + r.toNatClampNeg by omega, show (6 * a.toInt + o.toInt).toNat = 6 * a.toNatClampNeg + o.toNatClampNeg by omega]
      · rw [if_pos z3, if_pos z3]
  · rw [if_pos w, if_pos w]
theorem mrel_map (h : mrel mk mr fl fn f15 f16 f17 f18 f19) {e m1 : Int32} (hc : e.toInt = mapRI a.toInt k.toInt n.toInt) (hs : (e.toInt ≠ 0 → eq4 mk2 mk ∧ eq4 mr2 mr ∧ eq4 fl2 fl) ∧ (e.toInt = 0 → eq4 mk2 (va_up mk a.toNatClampNeg k) ∧ eq4 mr2 (va_up mr a.toNatClampNeg n) ∧ ∃ g : Nat → Int32, (∀ j : Nat, j < 6 → g j = (-9)) ∧ eq4 fl2 (va_up fl a.toNatClampNeg g)))
    (hm : m1.toInt = mapRI a.toInt k.toInt n.toInt) (ht : (m1.toInt ≠ 0 → e15 = f15 ∧ e16 = f16 ∧ e17 = f17 ∧ e18 = f18) ∧ (m1.toInt = 0 → e15 = upd f15 a.toNatClampNeg (vp_nar .boolean 1) ∧ e16 = upd f16 a.toNatClampNeg k ∧ e17 = upd f17 a.toNatClampNeg n ∧ ∀ q : Nat, e18 q = if 6 * a.toInt ≤ (q : Int) ∧ (q : Int) < 6 * a.toInt + 6 then (-9) else f18 q)) : mrel mk2 mr2 fl2 fn e15 e16 e17 e18 f19 := by
  by_cases z : e.toInt = 0
  · obtain ⟨s1, s2, g, hg, s3⟩ := hs.2 z
    obtain ⟨t1, t2, t3, t4⟩ := ht.2 (by omega)
    have w : (0 ≤ a.toInt ∧ a.toInt < 4) ∧ 0 ≤ n.toInt := by
      rw [hc] at z
      unfold mapRI at z
      (repeat' split at z) <;> omega
    have c := clI (i := a) w.1.1
    refine mrel_cg (fun q hq => ?_) s1 s2 s3 eq4_rf
    by_cases y : q = a.toNatClampNeg
    · rw [y, va_up_self, va_up_self, va_up_self, t1, t2, t3, pk_us, pk_us, pk_us]
      refine ⟨⟨fun u => by omega, fun u => absurd u (by decide)⟩, fun _ => ⟨rfl, rfl, fun q2 hq2 => ?_, fun q2 hq2 u => absurd (show (g (q2 / 5)).toInt = -9 by rw [hg _ (by omega)]; decide) u⟩⟩
      rw [hg q2 hq2, t4, if_pos (by omega)]
    · rw [va_up_ne _ _ y, va_up_ne _ _ y, va_up_ne _ _ y, t1, t2, t3, pk_un y, pk_un y, pk_un y]
      refine ⟨(h q hq).1, fun u => ?_⟩
      obtain ⟨g1, g2, g3, g4⟩ := (h q hq).2 u
      refine ⟨g1, g2, fun q2 hq2 => ?_, g4⟩
      rw [t4, if_neg (by omega)]
      exact g3 q2 hq2
  · obtain ⟨s1, s2, s3⟩ := hs.1 z
    obtain ⟨t1, t2, t3, t4⟩ := ht.1 (by omega)
    rw [t1, t2, t3, t4]
    exact mrel_cg h s1 s2 s3 eq4_rf
theorem mrel_row (h : mrel mk mr fl fn f15 f16 f17 f18 f19) (h6 : ∀ q : Nat, q < 4 → (mr q).toInt ≤ 6) {e m1 : Int32} (hc : e.toInt = rowRI a.toInt r.toInt n.toInt (hasI (mr a.toNatClampNeg).toInt) (mr a.toNatClampNeg).toInt) (hs : (e.toInt ≠ 0 → eq4 fl2 fl ∧ eq4 fn2 fn) ∧ (e.toInt = 0 → eq4 fl2 (va_up fl a.toNatClampNeg (upd (fl a.toNatClampNeg) r.toNatClampNeg n)) ∧ ∃ g : Nat → Int64, (∀ q : Nat, g q = if 5 * r.toInt ≤ (q : Int) ∧ (q : Int) < 5 * r.toInt + 5 then 0 else fn a.toNatClampNeg q) ∧ eq4 fn2 (va_up fn a.toNatClampNeg g)))
    (hm : m1.toInt = rowRI a.toInt r.toInt n.toInt (f15 a.toNatClampNeg).toInt (f17 a.toNatClampNeg).toInt) (ht : (m1.toInt ≠ 0 → e18 = f18 ∧ e19 = f19) ∧ (m1.toInt = 0 → e18 = upd f18 (6 * a.toInt + r.toInt).toNat n ∧ ∀ q : Nat, e19 q = if 30 * a.toInt + 5 * r.toInt ≤ (q : Int) ∧ (q : Int) < 30 * a.toInt + 5 * r.toInt + 5 then 0 else f19 q)) : mrel mk mr fl2 fn2 f15 f16 f17 e18 e19 := by
  have sm := row_same (a := a) (r := r) (n := n) h
  by_cases z : e.toInt = 0
  · obtain ⟨s1, g, hg, s2⟩ := hs.2 z
    obtain ⟨t1, t2⟩ := ht.2 (by omega)
    have w : (0 ≤ a.toInt ∧ a.toInt < 4) ∧ 0 ≤ n.toInt ∧ (0 ≤ r.toInt ∧ r.toInt < (mr a.toNatClampNeg).toInt) := by
      rw [hc] at z
      unfold rowRI at z
      (repeat' split at z) <;> omega
    have c := clI (i := a) w.1.1
    have cr := clI (i := r) w.2.2.1
    have b6 := h6 a.toNatClampNeg (by omega)
    have e6 : (6 * a.toInt + r.toInt).toNat = 6 * a.toNatClampNeg + r.toNatClampNeg := by omega
    refine mrel_cg (fun q hq => ?_) eq4_rf eq4_rf s1 s2
    by_cases y : q = a.toNatClampNeg
    · rw [y, va_up_self, va_up_self]
      obtain ⟨k1, k2⟩ := h a.toNatClampNeg (by omega)
      refine ⟨k1, fun u => ?_⟩
      obtain ⟨g1, g2, g3, g4⟩ := k2 u
      refine ⟨g1, g2, fun q2 hq2 => ?_, fun q2 hq2 u2 => ?_⟩
      · rw [t1, e6]
        by_cases x : q2 = r.toNatClampNeg
        · rw [x, pk_us, pk_us]
        · rw [pk_un x, pk_un (by omega)]
          exact g3 q2 hq2
      · rw [hg q2, t2]
        by_cases x : q2 / 5 = r.toNatClampNeg
        · rw [if_pos (by omega), if_pos (by omega)]
        · rw [if_neg (by omega), if_neg (by omega)]
          rw [pk_un x] at u2
          exact g4 q2 hq2 u2
    · rw [va_up_ne _ _ y, va_up_ne _ _ y]
      refine ⟨(h q hq).1, fun u => ?_⟩
      obtain ⟨g1, g2, g3, g4⟩ := (h q hq).2 u
      refine ⟨g1, g2, fun q2 hq2 => ?_, fun q2 hq2 u2 => ?_⟩
      · rw [t1, e6, pk_un (by omega)]
        exact g3 q2 hq2
      · rw [t2, if_neg (by omega)]
        exact g4 q2 hq2 u2
  · obtain ⟨s1, s2⟩ := hs.1 z
    obtain ⟨t1, t2⟩ := ht.1 (by omega)
    rw [t1, t2]
    exact mrel_cg h eq4_rf eq4_rf s1 s2
theorem mrel_put {v : Int64} (h : mrel mk mr fl fn f15 f16 f17 f18 f19) (h6 : ∀ q : Nat, q < 4 → (mr q).toInt ≤ 6) (h5 : ∀ q p : Nat, q < 4 → p < 6 → (fl q p).toInt ≤ 5) {e m1 : Int32} (hc : e.toInt = wrgI a.toInt k.toInt r.toInt i.toInt (hasI (mr a.toNatClampNeg).toInt) (mk a.toNatClampNeg).toInt (mr a.toNatClampNeg).toInt (fl a.toNatClampNeg r.toNatClampNeg).toInt) (hs : (e.toInt ≠ 0 → eq4 fn2 fn) ∧ (e.toInt = 0 → eq4 fn2 (va_up fn a.toNatClampNeg (vp_updL (fn a.toNatClampNeg) (5 * r.toInt + i.toInt).toNat (putV (mk a.toNatClampNeg).toInt v)))))
    (hm : m1.toInt = wrgI a.toInt k.toInt r.toInt i.toInt (f15 a.toNatClampNeg).toInt (f16 a.toNatClampNeg).toInt (f17 a.toNatClampNeg).toInt (f18 (6 * a.toInt + r.toInt).toNat).toInt) (ht : (m1.toInt ≠ 0 → e19 = f19) ∧ (m1.toInt = 0 → e19 = vp_updL f19 (30 * a.toInt + 5 * r.toInt + i.toInt).toNat (putV k.toInt v))) : mrel mk mr fl fn2 f15 f16 f17 f18 e19 := by
  have sm := wrg_same (a := a) (k := k) (r := r) (i := i) h h6
  by_cases z : e.toInt = 0
  · have s1 := hs.2 z
    have t1 := ht.2 (by omega)
    have w : (0 ≤ a.toInt ∧ a.toInt < 4) ∧ (mk a.toNatClampNeg).toInt = k.toInt ∧ (0 ≤ r.toInt ∧ r.toInt < (mr a.toNatClampNeg).toInt) ∧ 0 ≤ i.toInt ∧ i.toInt < (fl a.toNatClampNeg r.toNatClampNeg).toInt := by
      rw [hc] at z
      unfold wrgI at z
      (repeat' split at z) <;> omega
    have c := clI (i := a) w.1.1
    have cr := clI (i := r) w.2.2.1.1
    have b6 := h6 a.toNatClampNeg (by omega)
    have b5 := h5 a.toNatClampNeg r.toNatClampNeg (by omega) (by omega)
    have ex : (30 * a.toInt + 5 * r.toInt + i.toInt).toNat = 30 * a.toNatClampNeg + (5 * r.toInt + i.toInt).toNat := by omega
    have lx : (5 * r.toInt + i.toInt).toNat < 30 := by omega
    refine mrel_cg (fun q hq => ?_) eq4_rf eq4_rf eq4_rf s1
    by_cases y : q = a.toNatClampNeg
    · rw [y, va_up_self]
      obtain ⟨k1, k2⟩ := h a.toNatClampNeg (by omega)
      refine ⟨k1, fun u => ?_⟩
      obtain ⟨g1, g2, g3, g4⟩ := k2 u
      refine ⟨g1, g2, g3, fun q2 hq2 u2 => ?_⟩
      rw [t1, ex, w.2.1]
      by_cases x : q2 = (5 * r.toInt + i.toInt).toNat
      · rw [x, pk_uLs, pk_uLs]
      · rw [pk_uLn x, pk_uLn (by omega)]
        exact g4 q2 hq2 u2
    · rw [va_up_ne _ _ y]
      refine ⟨(h q hq).1, fun u => ?_⟩
      obtain ⟨g1, g2, g3, g4⟩ := (h q hq).2 u
      refine ⟨g1, g2, g3, fun q2 hq2 u2 => ?_⟩
      rw [t1, ex, pk_uLn (by omega)]
      exact g4 q2 hq2 u2
  · have s1 := hs.1 z
    have t1 := ht.1 (by omega)
    rw [t1]
    exact mrel_cg h eq4_rf eq4_rf eq4_rf s1
theorem mrel_copy (h : mrel mk mr fl fn f15 f16 f17 f18 f19) (h6 : ∀ q : Nat, q < 4 → (mr q).toInt ≤ 6) (h5 : ∀ q p : Nat, q < 4 → p < 6 → (fl q p).toInt ≤ 5) {e m1 : Int32} (hc : e.toInt = cpyI a.toInt r.toInt i.toInt o.toInt j.toInt n.toInt (hasI (mr a.toNatClampNeg).toInt) (mr a.toNatClampNeg).toInt (fl a.toNatClampNeg r.toNatClampNeg).toInt (fl a.toNatClampNeg o.toNatClampNeg).toInt) (hs : (e.toInt ≠ 0 → eq4 fn2 fn) ∧ (e.toInt = 0 → eq4 fn2 (va_up fn a.toNatClampNeg (va_cpy (fn a.toNatClampNeg) (fn a.toNatClampNeg) (5 * r.toInt + i.toInt).toNat (5 * o.toInt + j.toInt).toNat n.toNatClampNeg))))
    (hm : m1.toInt = cpyI a.toInt r.toInt i.toInt o.toInt j.toInt n.toInt (f15 a.toNatClampNeg).toInt (f17 a.toNatClampNeg).toInt (f18 (6 * a.toInt + r.toInt).toNat).toInt (f18 (6 * a.toInt + o.toInt).toNat).toInt) (ht : (m1.toInt ≠ 0 → e19 = f19) ∧ (m1.toInt = 0 → ∀ q : Nat, e19 q = if 30 * a.toInt + 5 * o.toInt + j.toInt ≤ (q : Int) ∧ (q : Int) < 30 * a.toInt + 5 * o.toInt + j.toInt + n.toInt then f19 (30 * a.toInt + 5 * r.toInt + i.toInt + ((q : Int) - (30 * a.toInt + 5 * o.toInt + j.toInt))).toNat else f19 q)) : mrel mk mr fl fn2 f15 f16 f17 f18 e19 := by
  have sm := cpy_same (a := a) (r := r) (i := i) (o := o) (j := j) (n := n) h h6
  by_cases z : e.toInt = 0
  · have s1 := hs.2 z
    have t1 := ht.2 (by omega)
    have w : (0 ≤ a.toInt ∧ a.toInt < 4) ∧ ((0 ≤ r.toInt ∧ r.toInt < (mr a.toNatClampNeg).toInt) ∧ (0 ≤ o.toInt ∧ o.toInt < (mr a.toNatClampNeg).toInt)) ∧ ((0 ≤ i.toInt ∧ 0 ≤ n.toInt ∧ i.toInt + n.toInt ≤ (fl a.toNatClampNeg r.toNatClampNeg).toInt) ∧ (0 ≤ j.toInt ∧ 0 ≤ n.toInt ∧ j.toInt + n.toInt ≤ (fl a.toNatClampNeg o.toNatClampNeg).toInt)) ∧ 0 ≤ (fl a.toNatClampNeg r.toNatClampNeg).toInt := by
      rw [hc] at z
      unfold cpyI at z
      (repeat' split at z) <;> omega
    have c := clI (i := a) w.1.1
    have cr := clI (i := r) w.2.1.1.1
    have co := clI (i := o) w.2.1.2.1
    have cn := clI (i := n) w.2.2.1.1.2.1
    have b6 := h6 a.toNatClampNeg (by omega)
    have b5 := h5 a.toNatClampNeg r.toNatClampNeg (by omega) (by omega)
    have b5o := h5 a.toNatClampNeg o.toNatClampNeg (by omega) (by omega)
    refine mrel_cg (fun q hq => ?_) eq4_rf eq4_rf eq4_rf s1
    by_cases y : q = a.toNatClampNeg
    · rw [y, va_up_self]
      obtain ⟨k1, k2⟩ := h a.toNatClampNeg (by omega)
      refine ⟨k1, fun u => ?_⟩
      obtain ⟨g1, g2, g3, g4⟩ := k2 u
      refine ⟨g1, g2, g3, fun q2 hq2 u2 => ?_⟩
      rw [t1]
      by_cases x : (5 * o.toInt + j.toInt).toNat ≤ q2 ∧ q2 < (5 * o.toInt + j.toInt).toNat + n.toNatClampNeg
      · rw [pk_cpy_in x.1 x.2, if_pos (by omega)]
        have e1 : (30 * a.toInt + 5 * r.toInt + i.toInt + (((30 * a.toNatClampNeg + q2 : Nat) : Int) - (30 * a.toInt + 5 * o.toInt + j.toInt))).toNat = 30 * a.toNatClampNeg + ((5 * r.toInt + i.toInt).toNat + (q2 - (5 * o.toInt + j.toInt).toNat)) := by omega
        rw [e1]
        refine g4 _ (by omega) ?_
        rw [show ((5 * r.toInt + i.toInt).toNat + (q2 - (5 * o.toInt + j.toInt).toNat)) / 5 = r.toNatClampNeg by omega]
        omega
      · rw [pk_cpy_out (by omega), if_neg (by omega)]
        exact g4 q2 hq2 u2
    · rw [va_up_ne _ _ y]
      refine ⟨(h q hq).1, fun u => ?_⟩
      obtain ⟨g1, g2, g3, g4⟩ := (h q hq).2 u
      refine ⟨g1, g2, g3, fun q2 hq2 u2 => ?_⟩
      rw [t1, if_neg (by omega)]
      exact g4 q2 hq2 u2
  · have s1 := hs.1 z
    have t1 := ht.1 (by omega)
    rw [t1]
    exact mrel_cg h eq4_rf eq4_rf eq4_rf s1
end MREL
theorem f4_all {a b c d : Int32} {B : Int} (h0 : a.toInt ≤ B) (h1 : b.toInt ≤ B) (h2 : c.toInt ≤ B) (h3 : d.toInt ≤ B) : ∀ q : Nat, q < 4 → (f4_ a b c d q).toInt ≤ B := fun q _ => by
  unfold f4_
  (repeat' split) <;> assumption
theorem f4_rng {a b c d : Nat → Int32} {lo B : Int} {n : Nat} (h0 : rng a n lo B) (h1 : rng b n lo B) (h2 : rng c n lo B) (h3 : rng d n lo B) : ∀ q p : Nat, q < 4 → p < n → (f4_ a b c d q p).toInt ≤ B := fun q p _ hp => by
  unfold f4_
  (repeat' split)
  · exact (h0 p hp).2
  · exact (h1 p hp).2
  · exact (h2 p hp).2
  · exact (h3 p hp).2
theorem ixn {y : Int32} {n : Int} (h : y.toInt = n) : y.toNatClampNeg = n.toNat := by
  show y.toInt.toNat = n.toNat
  rw [h]
theorem putV_0 {v : Int64} {y : Int32} (e : y = v.toInt32.toInt16.toInt32) {k : Int} (hk : k = 0) : y.toInt64 = putV k v := by
  unfold putV
  rw [if_pos hk, e]
theorem putV_1 {v : Int64} {k : Int} (hk : k = 1) : v.toInt32.toInt64 = putV k v := by
  unfold putV
  rw [if_neg (by omega), if_pos hk]
theorem putV_2 {v : Int64} {k : Int} (h0 : k ≠ 0) (h1 : k ≠ 1) : v = putV k v := by
  unfold putV
  rw [if_neg h0, if_neg h1]
theorem zero5 {f g g2 : Nat → Int64} {b : Int} {k k2 y : Int32} (h : ∀ q : Nat, g q = if b ≤ (q : Int) ∧ (q : Int) < b + k.toInt then 0 else f q) (e : g2 = vp_updL g y.toNatClampNeg 0) (hy : y.toInt = b + k.toInt) (hb : 0 ≤ b) (hk : 0 ≤ k.toInt) (e2 : k2.toInt = k.toInt + 1) : ∀ q : Nat, g2 q = if b ≤ (q : Int) ∧ (q : Int) < b + k2.toInt then 0 else f q := fun q => by
  have c := clI (i := y) (by omega)
  rw [e]
  by_cases z : q = y.toNatClampNeg
  · rw [z, pk_uLs, if_pos (by omega)]
  · rw [pk_uLn z, h q]
    by_cases w : b ≤ (q : Int) ∧ (q : Int) < b + k.toInt
    · rw [if_pos w, if_pos (by omega)]
    · rw [if_neg w, if_neg (by omega)]
theorem zero0 {f : Nat → Int64} {b : Int} : ∀ q : Nat, f q = if b ≤ (q : Int) ∧ (q : Int) < b + (0 : Int32).toInt then 0 else f q := fun q => by
  have z : (0 : Int32).toInt = 0 := by decide
  rw [if_neg (by omega)]
theorem zeroE {f g : Nat → Int64} {b : Int} {k : Int32} (h : ∀ q : Nat, g q = if b ≤ (q : Int) ∧ (q : Int) < b + k.toInt then 0 else f q) (h5 : k.toInt = 5) : ∀ q : Nat, g q = if b ≤ (q : Int) ∧ (q : Int) < b + 5 then 0 else f q := fun q => by
  rw [h q, h5]

set_option maxHeartbeats 4000000 in
set_option maxRecDepth 100000 in
theorem c_X4_begin2 (l : Launch) (D : va_G) (cy : Nat → ClassId) (sz : Nat) (mm : Nat) (ml : Nat) (mu : Nat) (mk : Int32) (mr : Int32) (fl : Nat → Int32) (a1 : Int32) (a2 : Int32) : Met l yX4_begin wsX4_begin ({ frames := 1, cells := 0, slots := 0, locals := 23 }) (va_Pc [.ref mm, .int a1, .int a2] (fun U => U.heap.size = sz ∧ va_P D vwCl [ob4_0_ mm mk mr ml mu, ai_ cy ml 6 fl] U.heap ∧ kk_ D cy U ∧ va_D (fun _ => True) [ob4_0_ mm mk mr ml mu, ai_ cy ml 6 fl])) (va_Qv (fun (_ : Unit) => True) (fun (_ : Unit) (t : State) => ∃ (efl : Nat → Int32), (∀ j : Nat, j < 6 → efl j = (-9)) ∧ (rng efl 6 (-9) (5)) ∧ va_P D vwCl [ob4_0_ mm a1 a2 ml mu, ai_ cy ml 6 efl] t.heap ∧ va_D (va_A [ob4_0_ mm mk mr ml mu, ai_ cy ml 6 fl] sz) [ob4_0_ mm a1 a2 ml mu, ai_ cy ml 6 efl]) (va_A [ob4_0_ mm mk mr ml mu, ai_ cy ml 6 fl] sz)) 0 0 (va_A [ob4_0_ mm mk mr ml mu, ai_ cy ml 6 fl] sz) := by
  refine ofQ (cc := cX4_begin) (maxL := 3) (ret := none) (by decide) rfl ?_
  intro p e s m args below meth c s₁ Q hQ B hml hv
  obtain ⟨rfl, hsz, hP, hK, hD0⟩ := hv
  have hx := B.exec
  have hb := B.bytes
  have hr := B.returns
  have hts := atoms_spec (ws := wsX4_begin) B.pre
  have hown : s.vm.findClass RX4 = some m.cls := by have h_ := findClass_of_methodNamed B.named; exact h_
  have hlocks := B.notSynchronized
  subst hsz
  have hD := hD0.self (sz := s.heap.size)
  generalize hAe : va_A [ob4_0_ mm mk mr ml mu, ai_ cy ml 6 fl] s.heap.size = A at hD hQ
  have hA : ∀ q : Nat, s.heap.size ≤ q → A q := fun q h => by rw [← hAe]; exact Or.inr h
  have hS : va_S A s.heap s.heap [] := va_S.rf
  have hl := lv_entry ([.ref mm, .int a1, .int a2]) (n := 3) (Nat.le_of_ble_eq_true rfl)
  rw [lg_entry_eq]
  generalize (lg_sl ([.ref mm, .int a1, .int a2]) ++ List.replicate (3 - (lg_sl ([.ref mm, .int a1, .int a2])).length) Slot.unset).toArray = ls at hl ⊢
  have hl : lv_has ls 3 [(0, .ref mm), (1, .int a1), (2, .int a2)] := hl
  have zm9 : ((-9) : Int32).toInt = -9 := by decide
  refine lv_aload_n hx hb dB_36_1_30.1.1.1 rfl (lv_at hl 0 rfl) ?_
  refine lv_iload_n hx hb dB_36_1_30.1.1.2 rfl (lv_at hl 1 rfl) ?_
  refine va_put (ci := 4) (v := .int a1) (ty := .int) (C := RX4) (T := TX4) (N := 4) hx hb hts (fun _ h => List.mem_cons_of_mem _ (List.mem_append_right _ h)) tyX4 tyX4_ok nmX4 hown hK.1 hP hD hS 0 rfl rfl 0 (by decide) (hts (.fieldLink RX4 9 "CutAtlas$NumberMap" "kind" "I") (List.mem_of_getElem? (i := 1) rfl)) (fun _ h9 => h9) rfl (by decide +kernel) rfl rfl (Nat.le_of_ble_eq_true rfl) dB_36_1_30.1.2.1 (fun H locs hP hD hS => ?_)
  refine pd_K [ob4_0_ mm a1 mr ml mu, ai_ cy ml 6 fl] hP hD (fun hP hD => ?_)
  refine lv_aload_n hx hb dB_36_1_30.1.2.2.1 rfl (lv_at hl 0 rfl) ?_
  refine lv_iload_n hx hb dB_36_1_30.1.2.2.2 rfl (lv_at hl 2 rfl) ?_
  refine va_put (ci := 4) (v := .int a2) (ty := .int) (C := RX4) (T := TX4) (N := 4) hx hb hts (fun _ h => List.mem_cons_of_mem _ (List.mem_append_right _ h)) tyX4 tyX4_ok nmX4 hown hK.1 hP hD hS 0 rfl rfl 1 (by decide) (hts (.fieldLink RX4 15 "CutAtlas$NumberMap" "rows" "I") (List.mem_of_getElem? (i := 2) rfl)) (fun _ h9 => h9) rfl (by decide +kernel) rfl rfl (Nat.le_of_ble_eq_true rfl) dB_36_1_30.2.1.1 (fun H locs hP hD hS => ?_)
  refine pd_K [ob4_0_ mm a1 a2 ml mu, ai_ cy ml 6 fl] hP hD (fun hP hD => ?_)
  refine lv_aload_n hx hb dB_36_1_30.2.1.2.1 rfl (lv_at hl 0 rfl) ?_
  refine va_get (ci := 4) (v := .ref ml) (C := RX4) (T := TX4) (N := 4) hx hb hts (fun _ h => List.mem_cons_of_mem _ (List.mem_append_right _ h)) hown hK.1 hP 0 rfl rfl 2 (by decide) (hts (.fieldLink RX4 18 "CutAtlas$NumberMap" "lengths" "[I") (List.mem_of_getElem? (i := 3) rfl)) (fun _ h9 => h9) rfl dB_36_1_30.2.1.2.2 ?_
  refine lv_bipush (v := (-9)) hx hb dB_36_1_30.2.2.1 (by decide) ?_
  refine ct_S hP hD hS hA [ai_ cy ml 6 fl] [1] (by decide) rfl (fun hPc hDw hFc hC_ => ?_)
  refine va_callv (va_runS (As := [.ref ml, .int (-9)]) (rest := []) ⟨hx, hb, hml, hown, hts⟩ (c_J7_fill_53178 l D cy H.size ml 6 ((-9) : Int32) fl (by first | with_reducible assumption | assumption | omega)) (va_cwS 2 hts gX4_begin_J7_fill_53178 rfl rfl rfl hd_J7_fill_53178 ⟨Nat.le_of_ble_eq_true rfl, Nat.le_of_ble_eq_true rfl⟩) ⟨bl_, fun U hU hW => ⟨rfl, by rw [hU], by rw [hU]; exact hPc, kk_mv hW hK, hDw⟩⟩ rfl rfl hl.1 rfl (lv_room (Nat.le_of_ble_eq_true rfl)) dB_36_1_30.2.2.2.1 ⟨Nat.le_of_ble_eq_true rfl, Nat.le_of_ble_eq_true rfl⟩) hS (fun q _ h => hFc q h) hFc (fun u t H locs ht hvm hw hB hz1 hk1 hS => ?_)
  obtain ⟨e1_2, g_3, hP1, hD1⟩ := hB
  rw [ht] at hP1
  obtain ⟨hP, hD⟩ := va_join (wr := [ob4_0_ mm a1 a2 ml mu]) (w1 := [ai_ cy ml 6 e1_2]) hP hD [1] [0] hC_ rfl (by decide) (by decide) hk1 hFc hP1 hD1
  refine pd_K [ob4_0_ mm a1 a2 ml mu, ai_ cy ml 6 e1_2] hP hD (fun hP hD => ?_)
  have rr_4 : rng e1_2 6 (-9) (5) := rng_c g_3 (by decide) (by decide)
  have hf9_ := g_3
  rw [hQ]
  exact W.vret hx hb hr (fun t ht hW => ⟨⟨(), rfl, trivial, e1_2, (hf9_), (by first | with_reducible assumption | assumption | exact rng_zero (by omega) (by omega) | omega), by rw [ht]; exact hP, hD⟩, hS.F ht⟩) hS.2.2 dB_36_1_30.2.2.2.2

set_option maxHeartbeats 4000000 in
set_option maxRecDepth 100000 in
theorem c_X4_beginRow2 (l : Launch) (D : va_G) (cy : Nat → ClassId) (sz : Nat) (mm : Nat) (ml : Nat) (mu : Nat) (mk : Int32) (mr : Int32) (fl : Nat → Int32) (fn : Nat → Int64) (a1 : Int32) (a2 : Int32) (q1 : 0 ≤ a1.toInt ∧ a1.toInt ≤ 5) (q2 : 0 ≤ a2.toInt ∧ a2.toInt ≤ 5) (r_fl : rng fl 6 (-9) (5)) : Met l yX4_beginRow wsX4_beginRow ({ frames := 0, cells := 0, slots := 0, locals := 0 }) (va_Pc [.ref mm, .int a1, .int a2] (fun U => U.heap.size = sz ∧ va_P D vwCl [ob4_0_ mm mk mr ml mu, ai_ cy ml 6 fl, aj_ cy mu 30 fn] U.heap ∧ kk_ D cy U ∧ va_D (fun _ => True) [ob4_0_ mm mk mr ml mu, ai_ cy ml 6 fl, aj_ cy mu 30 fn])) (va_Qv (fun (_ : Unit) => True) (fun (_ : Unit) (t : State) => ∃ (efl : Nat → Int32), ∃ (efn : Nat → Int64), (efl = upd fl a1.toNatClampNeg a2) ∧ (∀ q : Nat, efn q = if 5 * a1.toInt ≤ (q : Int) ∧ (q : Int) < 5 * a1.toInt + 5 then 0 else fn q) ∧ (rng efl 6 (-9) (5)) ∧ va_P D vwCl [ob4_0_ mm mk mr ml mu, ai_ cy ml 6 efl, aj_ cy mu 30 efn] t.heap ∧ va_D (va_A [ob4_0_ mm mk mr ml mu, ai_ cy ml 6 fl, aj_ cy mu 30 fn] sz) [ob4_0_ mm mk mr ml mu, ai_ cy ml 6 efl, aj_ cy mu 30 efn]) (va_A [ob4_0_ mm mk mr ml mu, ai_ cy ml 6 fl, aj_ cy mu 30 fn] sz)) 0 0 (va_A [ob4_0_ mm mk mr ml mu, ai_ cy ml 6 fl, aj_ cy mu 30 fn] sz) := by
  refine ofQ (cc := cX4_beginRow) (maxL := 4) (ret := none) (by decide) rfl ?_
  intro p e s m args below meth c s₁ Q hQ B hml hv
  obtain ⟨rfl, hsz, hP, hK, hD0⟩ := hv
  have hx := B.exec
  have hb := B.bytes
  have hr := B.returns
  have hts := atoms_spec (ws := wsX4_beginRow) B.pre
  have hown : s.vm.findClass RX4 = some m.cls := by have h_ := findClass_of_methodNamed B.named; exact h_
  have hlocks := B.notSynchronized
  subst hsz
  have hD := hD0.self (sz := s.heap.size)
  generalize hAe : va_A [ob4_0_ mm mk mr ml mu, ai_ cy ml 6 fl, aj_ cy mu 30 fn] s.heap.size = A at hD hQ
  have hA : ∀ q : Nat, s.heap.size ≤ q → A q := fun q h => by rw [← hAe]; exact Or.inr h
  have hS : va_S A s.heap s.heap [] := va_S.rf
  have hl := lv_entry ([.ref mm, .int a1, .int a2]) (n := 4) (Nat.le_of_ble_eq_true rfl)
  rw [lg_entry_eq]
  generalize (lg_sl ([.ref mm, .int a1, .int a2]) ++ List.replicate (4 - (lg_sl ([.ref mm, .int a1, .int a2])).length) Slot.unset).toArray = ls at hl ⊢
  have hl : lv_has ls 4 [(0, .ref mm), (1, .int a1), (2, .int a2)] := hl
  have z0 : (0 : Int32).toInt = 0 := by decide
  have zl0 : (0 : Int64).toInt = 0 := by decide
  have z1 : (1 : Int32).toInt = 1 := by decide
  have z5 : (5 : Int32).toInt = 5 := by decide
  refine lv_aload_n hx hb dB_36_1_31.1.1.1.1 rfl (lv_at hl 0 rfl) ?_
  refine va_get (ci := 4) (v := .ref ml) (C := RX4) (T := TX4) (N := 4) hx hb hts (fun _ h => List.mem_cons_of_mem _ (List.mem_append_right _ h)) hown hK.1 hP 0 rfl rfl 2 (by decide) (hts (.fieldLink RX4 18 "CutAtlas$NumberMap" "lengths" "[I") (List.mem_of_getElem? (i := 1) rfl)) (fun _ h9 => h9) rfl dB_36_1_31.1.1.1.2 ?_
  refine lv_iload_n hx hb dB_36_1_31.1.1.2.1 rfl (lv_at hl 1 rfl) ?_
  refine lv_iload_n hx hb dB_36_1_31.1.1.2.2 rfl (lv_at hl 2 rfl) ?_
  have h_1 : vp_in a1 6 := in_I (by first | with_reducible assumption | omega) (by omega)
  refine va_iast hx hb hK.1 hP hD hS 1 0 rfl rfl (i := a1) h_1 dB_36_1_31.1.2.1.1 (fun H locs hP hD hS => ?_)
  obtain ⟨f_2, ef_2⟩ : ∃ g : Nat → Int32, g = upd fl a1.toNatClampNeg a2 := ⟨_, rfl⟩
  refine pd_K (D := D) (cl := vwCl) (H := H) (A := A) [ob4_0_ mm mk mr ml mu, ai_ cy ml 6 f_2, aj_ cy mu 30 fn] (by rw [ef_2]; exact hP) (by rw [ef_2]; exact hD) (fun hP hD => ?_)
  have rf_2 : rng f_2 6 (-9) (5) := by rw [ef_2]; exact rng_upd r_fl (by omega) (by omega)
  refine lv_iconst (v := 0) hx hb dB_36_1_31.1.2.1.2 (by decide) ?_
  refine lv_istore_n (lv' := [(3, .int 0), (0, .ref mm), (1, .int a1), (2, .int a2)]) hx hb dB_36_1_31.1.2.2.1 rfl hl (by decide) rfl (fun ls hl => ?_)
  suffices LOOP_3 : ∀ (n_3 : Nat) (x3_3 : Int32) (c_mu_3 : Nat → Int64) (H : Heap) (locs : List Loc) (ls : Array Slot), 5 - x3_3.toInt < (n_3 : Int) → (0 ≤ x3_3.toInt) → (x3_3.toInt ≤ 5) → (∀ q : Nat, c_mu_3 q = if 5 * a1.toInt ≤ (q : Int) ∧ (q : Int) < 5 * a1.toInt + x3_3.toInt then 0 else fn q) → pd_2 D vwCl A [ob4_0_ mm mk mr ml mu, ai_ cy ml 6 f_2, aj_ cy mu 30 c_mu_3] H → va_S A s.heap H locs → lv_has ls 4 [(3, .int x3_3), (0, .ref mm), (1, .int a1), (2, .int a2)] → W p l e ({ frames := 0, cells := 0, slots := 0, locals := 0 } : Room) s m (([.ref mm, .int a1, .int a2] : List Value).toArray) below meth c H locs 0 0 Q (F0 m 9 ls []) from LOOP_3 ((5 - (0 : Int32).toInt).toNat + 1) (0 : Int32) fn _ _ _ (by omega) (by first | with_reducible assumption | omega | assumption) (by first | with_reducible assumption | omega | assumption) (by first | exact zero0 | exact zero5 v_none S[e] (by omega) (by omega) (by omega) (by omega)) ⟨hP, hD⟩ hS (lv_sub hl [0, 1, 2, 3] rfl)
  intro n_3
  induction n_3 with
  | zero =>
    intro x3_3 c_mu_3 H locs ls hm v0_3 v1_3 v2_3 hPD hS hl; obtain ⟨hP, hD⟩ := hPD
    exact absurd hm (by omega)
  | succ n_3 ih_3 =>
    intro x3_3 c_mu_3 H locs ls hm v0_3 v1_3 v2_3 hPD hS hl; obtain ⟨hP, hD⟩ := hPD
    refine lv_iload_n hx hb dB_36_1_31.1.2.2.2 rfl (lv_at hl 0 rfl) ?_
    refine lv_iconst (v := 5) hx hb dB_36_1_31.2.1.1.1 (by decide) ?_
    refine lv_icmp_ge (tgt := 31) hx hb dB_36_1_31.2.1.1.2 (by decide) (fun c_4 => ?_) (fun c_4 => ?_)
    · have t_4 : (5 : Int32).toInt ≤ x3_3.toInt := Int32.le_iff_toInt_le.mp c_4
      rw [hQ]
      exact W.vret hx hb hr (fun t ht hW => ⟨⟨(), rfl, trivial, f_2, c_mu_3, (by first | with_reducible assumption | omega | assumption), (zeroE v2_3 (by omega)), (by first | with_reducible assumption | assumption | exact rng_zero (by omega) (by omega) | omega), by rw [ht]; exact hP, hD⟩, hS.F ht⟩) hS.2.2 dB_36_1_32.2.2.2
    · have t_4 : ¬ (5 : Int32).toInt ≤ x3_3.toInt := fun h => c_4 (Int32.le_iff_toInt_le.mpr h)
      refine lv_aload_n hx hb dB_36_1_31.2.1.2.1 rfl (lv_at hl 1 rfl) ?_
      refine va_get (ci := 4) (v := .ref mu) (C := RX4) (T := TX4) (N := 4) hx hb hts (fun _ h => List.mem_cons_of_mem _ (List.mem_append_right _ h)) hown hK.1 hP 0 rfl rfl 3 (by decide) (hts (.fieldLink RX4 22 "CutAtlas$NumberMap" "numbers" "[J") (List.mem_of_getElem? (i := 2) rfl)) (fun _ h9 => h9) rfl dB_36_1_31.2.1.2.2 ?_
      refine lv_iload_n hx hb dB_36_1_31.2.2.1.1 rfl (lv_at hl 2 rfl) ?_
      refine lv_iconst (v := 5) hx hb dB_36_1_31.2.2.1.2 (by decide) ?_
      refine lv_imul hx hb dB_36_1_31.2.2.2.1 ?_
      refine lv_topi (fun y_5 ey_5 => ?_)
      have ty_5 : y_5.toInt = 5 * a1.toInt := by rw [ey_5]; exact mulD (by decide) (by omega) (by omega)
      refine lv_iload_n hx hb dB_36_1_31.2.2.2.2 rfl (lv_at hl 0 rfl) ?_
      refine lv_iadd hx hb dB_36_1_32.1.1 ?_
      refine lv_topi (fun y_6 ey_6 => ?_)
      have ty_6 : y_6.toInt = y_5.toInt + x3_3.toInt := by rw [ey_6]; exact addI (by omega) (by omega)
      refine lv_lconst (v := 0) hx hb dB_36_1_32.1.2.1 (by decide) ?_
      have h_7 : vp_in y_6 30 := in_I (by first | with_reducible assumption | omega) (by omega)
      refine va_last hx hb hK.1 hP hD hS 2 1 rfl rfl (i := y_6) h_7 dB_36_1_32.1.2.2 (fun H locs hP hD hS => ?_)
      obtain ⟨f_8, ef_8⟩ : ∃ g : Nat → Int64, g = vp_updL c_mu_3 y_6.toNatClampNeg (0 : Int64) := ⟨_, rfl⟩
      refine pd_K (D := D) (cl := vwCl) (H := H) (A := A) [ob4_0_ mm mk mr ml mu, ai_ cy ml 6 f_2, aj_ cy mu 30 f_8] (by rw [ef_8]; exact hP) (by rw [ef_8]; exact hD) (fun hP hD => ?_)
      obtain ⟨y_9, ey_9⟩ : ∃ y : Int32, y = x3_3 + 1 := ⟨_, rfl⟩
      have ty_9 : y_9.toInt = x3_3.toInt + (1 : Int32).toInt := by rw [ey_9]; exact addI (by omega) (by omega)
      refine lv_iinc (v := y_9) (lv' := [(3, .int y_9), (0, .ref mm), (1, .int a1), (2, .int a2)]) hx hb dB_36_1_32.2.1 hl (k := 0) rfl (by rw [ey_9]; rfl) (by decide) rfl (fun ls hl => ?_)
      refine lv_goto (tgt := 9) hx hb dB_36_1_32.2.2.1 (by decide) ?_
      exact ih_3 y_9 f_8 _ _ _ (by omega) (by first | with_reducible assumption | omega | assumption) (by first | with_reducible assumption | omega | assumption) (by first | exact zero0 | exact zero5 v2_3 ef_8 (by omega) (by omega) (by omega) (by omega)) ⟨hP, hD⟩ hS (lv_sub hl [0, 1, 2, 3] rfl)

set_option maxHeartbeats 4000000 in
set_option maxRecDepth 100000 in
theorem c_X4_store2 (l : Launch) (D : va_G) (cy : Nat → ClassId) (sz : Nat) (mm : Nat) (ml : Nat) (mu : Nat) (mk : Int32) (mr : Int32) (fn : Nat → Int64) (a1 : Int32) (a2 : Int32) (a3 : Int64) (q1 : 0 ≤ a1.toInt ∧ a1.toInt ≤ 5) (q2 : 0 ≤ a2.toInt ∧ a2.toInt ≤ 4) : Met l yX4_store wsX4_store ({ frames := 0, cells := 0, slots := 0, locals := 0 }) (va_Pc [.ref mm, .int a1, .int a2, .long a3] (fun U => U.heap.size = sz ∧ va_P D vwCl [ob4_0_ mm mk mr ml mu, aj_ cy mu 30 fn] U.heap ∧ kk_ D cy U ∧ va_D (fun _ => True) [ob4_0_ mm mk mr ml mu, aj_ cy mu 30 fn])) (va_Qv (fun (_ : Unit) => True) (fun (_ : Unit) (t : State) => ∃ (efn : Nat → Int64), (efn = vp_updL fn (5 * a1.toInt + a2.toInt).toNat (putV mk.toInt a3)) ∧ va_P D vwCl [ob4_0_ mm mk mr ml mu, aj_ cy mu 30 efn] t.heap ∧ va_D (va_A [ob4_0_ mm mk mr ml mu, aj_ cy mu 30 fn] sz) [ob4_0_ mm mk mr ml mu, aj_ cy mu 30 efn]) (va_A [ob4_0_ mm mk mr ml mu, aj_ cy mu 30 fn] sz)) 0 0 (va_A [ob4_0_ mm mk mr ml mu, aj_ cy mu 30 fn] sz) := by
  refine ofQ (cc := cX4_store) (maxL := 7) (ret := none) (by decide) rfl ?_
  intro p e s m args below meth c s₁ Q hQ B hml hv
  obtain ⟨rfl, hsz, hP, hK, hD0⟩ := hv
  have hx := B.exec
  have hb := B.bytes
  have hr := B.returns
  have hts := atoms_spec (ws := wsX4_store) B.pre
  have hown : s.vm.findClass RX4 = some m.cls := by have h_ := findClass_of_methodNamed B.named; exact h_
  have hlocks := B.notSynchronized
  subst hsz
  have hD := hD0.self (sz := s.heap.size)
  generalize hAe : va_A [ob4_0_ mm mk mr ml mu, aj_ cy mu 30 fn] s.heap.size = A at hD hQ
  have hA : ∀ q : Nat, s.heap.size ≤ q → A q := fun q h => by rw [← hAe]; exact Or.inr h
  have hS : va_S A s.heap s.heap [] := va_S.rf
  have hl := lv_entry ([.ref mm, .int a1, .int a2, .long a3]) (n := 7) (Nat.le_of_ble_eq_true rfl)
  rw [lg_entry_eq]
  generalize (lg_sl ([.ref mm, .int a1, .int a2, .long a3]) ++ List.replicate (7 - (lg_sl ([.ref mm, .int a1, .int a2, .long a3])).length) Slot.unset).toArray = ls at hl ⊢
  have hl : lv_has ls 7 [(0, .ref mm), (1, .int a1), (2, .int a2), (3, .long a3)] := hl
  have z0 : (0 : Int32).toInt = 0 := by decide
  have z1 : (1 : Int32).toInt = 1 := by decide
  have z5 : (5 : Int32).toInt = 5 := by decide
  refine lv_lload_n hx hb dB_36_1_45.1.1.1.1 rfl (lv_at hl 3 rfl) ?_
  refine lv_lstore (lv' := [(5, .long a3), (0, .ref mm), (1, .int a1), (2, .int a2), (3, .long a3)]) hx hb dB_36_1_45.1.1.1.2 hl (by decide) rfl (fun ls hl => ?_)
  refine lv_aload_n hx hb dB_36_1_45.1.1.2.1 rfl (lv_at hl 1 rfl) ?_
  refine va_get (ci := 4) (v := .int mk) (C := RX4) (T := TX4) (N := 4) hx hb hts (fun _ h => List.mem_cons_of_mem _ (List.mem_append_right _ h)) hown hK.1 hP 0 rfl rfl 0 (by decide) (hts (.fieldLink RX4 9 "CutAtlas$NumberMap" "kind" "I") (List.mem_of_getElem? (i := 1) rfl)) (fun _ h9 => h9) rfl dB_36_1_45.1.1.2.2 ?_
  refine lv_if_ne (tgt := 19) hx hb dB_36_1_45.1.2.1.1 (by decide) (fun c_1 => ?_) (fun c_1 => ?_)
  · have t_1 : ¬ mk.toInt = (0 : Int32).toInt := fun h => c_1 (Int32.toInt_inj.mp h)
    refine lv_aload_n hx hb dB_36_1_45.2.1.2.2 rfl (lv_at hl 1 rfl) ?_
    refine va_get (ci := 4) (v := .int mk) (C := RX4) (T := TX4) (N := 4) hx hb hts (fun _ h => List.mem_cons_of_mem _ (List.mem_append_right _ h)) hown hK.1 hP 0 rfl rfl 0 (by decide) (hts (.fieldLink RX4 9 "CutAtlas$NumberMap" "kind" "I") (List.mem_of_getElem? (i := 1) rfl)) (fun _ h9 => h9) rfl dB_36_1_45.2.2.1.1 ?_
    refine lv_iconst (v := 1) hx hb dB_36_1_45.2.2.1.2 (by decide) ?_
    refine lv_icmp_ne (tgt := 32) hx hb dB_36_1_45.2.2.2.1 (by decide) (fun c_2 => ?_) (fun c_2 => ?_)
    · have t_2 : ¬ mk.toInt = (1 : Int32).toInt := fun h => c_2 (Int32.toInt_inj.mp h)
      refine lv_aload_n hx hb dB_36_1_46.1.2.1 rfl (lv_at hl 1 rfl) ?_
      refine va_get (ci := 4) (v := .ref mu) (C := RX4) (T := TX4) (N := 4) hx hb hts (fun _ h => List.mem_cons_of_mem _ (List.mem_append_right _ h)) hown hK.1 hP 0 rfl rfl 3 (by decide) (hts (.fieldLink RX4 22 "CutAtlas$NumberMap" "numbers" "[J") (List.mem_of_getElem? (i := 2) rfl)) (fun _ h9 => h9) rfl dB_36_1_46.1.2.2.1 ?_
      refine lv_iload_n hx hb dB_36_1_46.1.2.2.2 rfl (lv_at hl 2 rfl) ?_
      refine lv_iconst (v := 5) hx hb dB_36_1_46.2.1.1 (by decide) ?_
      refine lv_imul hx hb dB_36_1_46.2.1.2.1 ?_
      refine lv_topi (fun y_3 ey_3 => ?_)
      have ty_3 : y_3.toInt = 5 * a1.toInt := by rw [ey_3]; exact mulD (by decide) (by omega) (by omega)
      refine lv_iload_n hx hb dB_36_1_46.2.1.2.2 rfl (lv_at hl 3 rfl) ?_
      refine lv_iadd hx hb dB_36_1_46.2.2.1.1 ?_
      refine lv_topi (fun y_4 ey_4 => ?_)
      have ty_4 : y_4.toInt = y_3.toInt + a2.toInt := by rw [ey_4]; exact addI (by omega) (by omega)
      have hix_ : y_4.toNatClampNeg = (5 * a1.toInt + a2.toInt).toNat := ixn (by omega)
      refine lv_lload hx hb dB_36_1_46.2.2.1.2 (lv_at hl 0 rfl) ?_
      have h_5 : vp_in y_4 30 := in_I (by first | with_reducible assumption | omega) (by omega)
      refine va_last hx hb hK.1 hP hD hS 1 1 rfl rfl (i := y_4) h_5 dB_36_1_46.2.2.2.1 (fun H locs hP hD hS => ?_)
      obtain ⟨f_6, ef_6⟩ : ∃ g : Nat → Int64, g = vp_updL fn y_4.toNatClampNeg a3 := ⟨_, rfl⟩
      refine pd_K (D := D) (cl := vwCl) (H := H) (A := A) [ob4_0_ mm mk mr ml mu, aj_ cy mu 30 f_6] (by rw [ef_6]; exact hP) (by rw [ef_6]; exact hD) (fun hP hD => ?_)
      rw [hQ]
      exact W.vret hx hb hr (fun t ht hW => ⟨⟨(), rfl, trivial, f_6, (by first | (rw [ef_6, hix_, putV_0 (k := mk.toInt) (by assumption) (by omega)]; done) | (rw [ef_6, hix_, putV_1 (k := mk.toInt) (by omega)]; done) | (rw [ef_6, hix_, ← putV_2 (k := mk.toInt) (by omega) (by omega)]; done)), by rw [ht]; exact hP, hD⟩, hS.F ht⟩) hS.2.2 dB_36_1_46.2.2.2.2
    · have t_2 : mk.toInt = (1 : Int32).toInt := congrArg Int32.toInt c_2
      refine lv_lload_n hx hb dB_36_1_45.2.2.2.2 rfl (lv_at hl 4 rfl) ?_
      refine lv_l2i (v := a3.toInt32) hx hb dB_36_1_46.1.1.1 rfl ?_
      refine lv_i2l (v := (a3.toInt32).toInt64) hx hb dB_36_1_46.1.1.2.1 rfl ?_
      have q_29 : ((a3.toInt32).toInt64).toInt = (a3.toInt32).toInt := Int32.toInt_toInt64 (a3.toInt32)
      refine lv_lstore (lv' := [(5, .long (a3.toInt32).toInt64), (0, .ref mm), (1, .int a1), (2, .int a2), (3, .long a3)]) hx hb dB_36_1_46.1.1.2.2 hl (by decide) rfl (fun ls hl => ?_)
      refine lv_aload_n hx hb dB_36_1_46.1.2.1 rfl (lv_at hl 1 rfl) ?_
      refine va_get (ci := 4) (v := .ref mu) (C := RX4) (T := TX4) (N := 4) hx hb hts (fun _ h => List.mem_cons_of_mem _ (List.mem_append_right _ h)) hown hK.1 hP 0 rfl rfl 3 (by decide) (hts (.fieldLink RX4 22 "CutAtlas$NumberMap" "numbers" "[J") (List.mem_of_getElem? (i := 2) rfl)) (fun _ h9 => h9) rfl dB_36_1_46.1.2.2.1 ?_
      refine lv_iload_n hx hb dB_36_1_46.1.2.2.2 rfl (lv_at hl 2 rfl) ?_
      refine lv_iconst (v := 5) hx hb dB_36_1_46.2.1.1 (by decide) ?_
      refine lv_imul hx hb dB_36_1_46.2.1.2.1 ?_
      refine lv_topi (fun y_8 ey_8 => ?_)
      have ty_8 : y_8.toInt = 5 * a1.toInt := by rw [ey_8]; exact mulD (by decide) (by omega) (by omega)
      refine lv_iload_n hx hb dB_36_1_46.2.1.2.2 rfl (lv_at hl 3 rfl) ?_
      refine lv_iadd hx hb dB_36_1_46.2.2.1.1 ?_
      refine lv_topi (fun y_9 ey_9 => ?_)
      have ty_9 : y_9.toInt = y_8.toInt + a2.toInt := by rw [ey_9]; exact addI (by omega) (by omega)
      have hix_ : y_9.toNatClampNeg = (5 * a1.toInt + a2.toInt).toNat := ixn (by omega)
      refine lv_lload hx hb dB_36_1_46.2.2.1.2 (lv_at hl 0 rfl) ?_
      have h_10 : vp_in y_9 30 := in_I (by first | with_reducible assumption | omega) (by omega)
      refine va_last hx hb hK.1 hP hD hS 1 1 rfl rfl (i := y_9) h_10 dB_36_1_46.2.2.2.1 (fun H locs hP hD hS => ?_)
      obtain ⟨f_11, ef_11⟩ : ∃ g : Nat → Int64, g = vp_updL fn y_9.toNatClampNeg ((a3.toInt32).toInt64) := ⟨_, rfl⟩
      refine pd_K (D := D) (cl := vwCl) (H := H) (A := A) [ob4_0_ mm mk mr ml mu, aj_ cy mu 30 f_11] (by rw [ef_11]; exact hP) (by rw [ef_11]; exact hD) (fun hP hD => ?_)
      rw [hQ]
      exact W.vret hx hb hr (fun t ht hW => ⟨⟨(), rfl, trivial, f_11, (by first | (rw [ef_11, hix_, putV_0 (k := mk.toInt) (by assumption) (by omega)]; done) | (rw [ef_11, hix_, putV_1 (k := mk.toInt) (by omega)]; done) | (rw [ef_11, hix_, ← putV_2 (k := mk.toInt) (by omega) (by omega)]; done)), by rw [ht]; exact hP, hD⟩, hS.F ht⟩) hS.2.2 dB_36_1_46.2.2.2.2
  · have t_1 : mk.toInt = (0 : Int32).toInt := congrArg Int32.toInt c_1
    refine lv_lload_n hx hb dB_36_1_45.1.2.1.2 rfl (lv_at hl 4 rfl) ?_
    refine lv_l2i (v := a3.toInt32) hx hb dB_36_1_45.1.2.2.1 rfl ?_
    refine lv_i2s (v := (a3.toInt32).toInt16.toInt32) hx hb dB_36_1_45.1.2.2.2 rfl ?_
    refine lv_topi (fun y_13 ey_13 => ?_)
    refine lv_i2l (v := y_13.toInt64) hx hb dB_36_1_45.2.1.1.1 rfl ?_
    have q_13 : (y_13.toInt64).toInt = y_13.toInt := Int32.toInt_toInt64 y_13
    refine lv_lstore (lv' := [(5, .long y_13.toInt64), (0, .ref mm), (1, .int a1), (2, .int a2), (3, .long a3)]) hx hb dB_36_1_45.2.1.1.2 hl (by decide) rfl (fun ls hl => ?_)
    refine lv_goto (tgt := 32) hx hb dB_36_1_45.2.1.2.1 (by decide) ?_
    refine lv_aload_n hx hb dB_36_1_46.1.2.1 rfl (lv_at hl 1 rfl) ?_
    refine va_get (ci := 4) (v := .ref mu) (C := RX4) (T := TX4) (N := 4) hx hb hts (fun _ h => List.mem_cons_of_mem _ (List.mem_append_right _ h)) hown hK.1 hP 0 rfl rfl 3 (by decide) (hts (.fieldLink RX4 22 "CutAtlas$NumberMap" "numbers" "[J") (List.mem_of_getElem? (i := 2) rfl)) (fun _ h9 => h9) rfl dB_36_1_46.1.2.2.1 ?_
    refine lv_iload_n hx hb dB_36_1_46.1.2.2.2 rfl (lv_at hl 2 rfl) ?_
    refine lv_iconst (v := 5) hx hb dB_36_1_46.2.1.1 (by decide) ?_
    refine lv_imul hx hb dB_36_1_46.2.1.2.1 ?_
    refine lv_topi (fun y_14 ey_14 => ?_)
    have ty_14 : y_14.toInt = 5 * a1.toInt := by rw [ey_14]; exact mulD (by decide) (by omega) (by omega)
    refine lv_iload_n hx hb dB_36_1_46.2.1.2.2 rfl (lv_at hl 3 rfl) ?_
    refine lv_iadd hx hb dB_36_1_46.2.2.1.1 ?_
    refine lv_topi (fun y_15 ey_15 => ?_)
    have ty_15 : y_15.toInt = y_14.toInt + a2.toInt := by rw [ey_15]; exact addI (by omega) (by omega)
    have hix_ : y_15.toNatClampNeg = (5 * a1.toInt + a2.toInt).toNat := ixn (by omega)
    refine lv_lload hx hb dB_36_1_46.2.2.1.2 (lv_at hl 0 rfl) ?_
    have h_16 : vp_in y_15 30 := in_I (by first | with_reducible assumption | omega) (by omega)
    refine va_last hx hb hK.1 hP hD hS 1 1 rfl rfl (i := y_15) h_16 dB_36_1_46.2.2.2.1 (fun H locs hP hD hS => ?_)
    obtain ⟨f_17, ef_17⟩ : ∃ g : Nat → Int64, g = vp_updL fn y_15.toNatClampNeg y_13.toInt64 := ⟨_, rfl⟩
    refine pd_K (D := D) (cl := vwCl) (H := H) (A := A) [ob4_0_ mm mk mr ml mu, aj_ cy mu 30 f_17] (by rw [ef_17]; exact hP) (by rw [ef_17]; exact hD) (fun hP hD => ?_)
    rw [hQ]
    exact W.vret hx hb hr (fun t ht hW => ⟨⟨(), rfl, trivial, f_17, (by first | (rw [ef_17, hix_, putV_0 (k := mk.toInt) (by assumption) (by omega)]; done) | (rw [ef_17, hix_, putV_1 (k := mk.toInt) (by omega)]; done) | (rw [ef_17, hix_, ← putV_2 (k := mk.toInt) (by omega) (by omega)]; done)), by rw [ht]; exact hP, hD⟩, hS.F ht⟩) hS.2.2 dB_36_1_46.2.2.2.2

set_option maxHeartbeats 4000000 in
set_option maxRecDepth 100000 in
theorem c_X4_move2 (l : Launch) (D : va_G) (cy : Nat → ClassId) (sz : Nat) (mm : Nat) (ml : Nat) (mu : Nat) (mk : Int32) (mr : Int32) (fn : Nat → Int64) (a1 : Int32) (a2 : Int32) (a3 : Int32) (a4 : Int32) (a5 : Int32) (q0 : (0 ≤ a1.toInt ∧ a1.toInt ≤ 5) ∧ (0 ≤ a3.toInt ∧ a3.toInt ≤ 5) ∧ 0 ≤ a2.toInt ∧ 0 ≤ a4.toInt ∧ 0 ≤ a5.toInt ∧ a2.toInt + a5.toInt ≤ 5 ∧ a4.toInt + a5.toInt ≤ 5) : Met l yX4_move wsX4_move ({ frames := 1, cells := 0, slots := 0, locals := 40 }) (va_Pc [.ref mm, .int a1, .int a2, .int a3, .int a4, .int a5] (fun U => U.heap.size = sz ∧ va_P D vwCl [ob4_0_ mm mk mr ml mu, aj_ cy mu 30 fn] U.heap ∧ kk_ D cy U ∧ va_D (fun _ => True) [ob4_0_ mm mk mr ml mu, aj_ cy mu 30 fn])) (va_Qv (fun (_ : Unit) => True) (fun (_ : Unit) (t : State) => ∃ (efn : Nat → Int64), (efn = va_cpy fn fn (5 * a1.toInt + a2.toInt).toNat (5 * a3.toInt + a4.toInt).toNat a5.toNatClampNeg) ∧ va_P D vwCl [ob4_0_ mm mk mr ml mu, aj_ cy mu 30 efn] t.heap ∧ va_D (va_A [ob4_0_ mm mk mr ml mu, aj_ cy mu 30 fn] sz) [ob4_0_ mm mk mr ml mu, aj_ cy mu 30 efn]) (va_A [ob4_0_ mm mk mr ml mu, aj_ cy mu 30 fn] sz)) 0 0 (va_A [ob4_0_ mm mk mr ml mu, aj_ cy mu 30 fn] sz) := by
  refine ofQ (cc := cX4_move) (maxL := 6) (ret := none) (by decide) rfl ?_
  intro p e s m args below meth c s₁ Q hQ B hml hv
  obtain ⟨rfl, hsz, hP, hK, hD0⟩ := hv
  have hx := B.exec
  have hb := B.bytes
  have hr := B.returns
  have hts := atoms_spec (ws := wsX4_move) B.pre
  have hown : s.vm.findClass RX4 = some m.cls := by have h_ := findClass_of_methodNamed B.named; exact h_
  have hlocks := B.notSynchronized
  subst hsz
  have hD := hD0.self (sz := s.heap.size)
  generalize hAe : va_A [ob4_0_ mm mk mr ml mu, aj_ cy mu 30 fn] s.heap.size = A at hD hQ
  have hA : ∀ q : Nat, s.heap.size ≤ q → A q := fun q h => by rw [← hAe]; exact Or.inr h
  have hS : va_S A s.heap s.heap [] := va_S.rf
  have hl := lv_entry ([.ref mm, .int a1, .int a2, .int a3, .int a4, .int a5]) (n := 6) (Nat.le_of_ble_eq_true rfl)
  rw [lg_entry_eq]
  generalize (lg_sl ([.ref mm, .int a1, .int a2, .int a3, .int a4, .int a5]) ++ List.replicate (6 - (lg_sl ([.ref mm, .int a1, .int a2, .int a3, .int a4, .int a5])).length) Slot.unset).toArray = ls at hl ⊢
  have hl : lv_has ls 6 [(0, .ref mm), (1, .int a1), (2, .int a2), (3, .int a3), (4, .int a4), (5, .int a5)] := hl
  have z5 : (5 : Int32).toInt = 5 := by decide
  refine lv_aload_n hx hb dB_36_1_39.1.1.1.1 rfl (lv_at hl 0 rfl) ?_
  refine va_get (ci := 4) (v := .ref mu) (C := RX4) (T := TX4) (N := 4) hx hb hts (fun _ h => List.mem_cons_of_mem _ (List.mem_append_right _ h)) hown hK.1 hP 0 rfl rfl 3 (by decide) (hts (.fieldLink RX4 22 "CutAtlas$NumberMap" "numbers" "[J") (List.mem_of_getElem? (i := 1) rfl)) (fun _ h9 => h9) rfl dB_36_1_39.1.1.1.2 ?_
  refine lv_iload_n hx hb dB_36_1_39.1.1.2.1 rfl (lv_at hl 1 rfl) ?_
  refine lv_iconst (v := 5) hx hb dB_36_1_39.1.1.2.2 (by decide) ?_
  refine lv_imul hx hb dB_36_1_39.1.2.1.1 ?_
  refine lv_topi (fun y_1 ey_1 => ?_)
  have ty_1 : y_1.toInt = 5 * a1.toInt := by rw [ey_1]; exact mulD (by decide) (by omega) (by omega)
  refine lv_iload_n hx hb dB_36_1_39.1.2.1.2 rfl (lv_at hl 2 rfl) ?_
  refine lv_iadd hx hb dB_36_1_39.1.2.2.1 ?_
  refine lv_topi (fun y_2 ey_2 => ?_)
  have ty_2 : y_2.toInt = y_1.toInt + a2.toInt := by rw [ey_2]; exact addI (by omega) (by omega)
  have hi1_ : y_2.toNatClampNeg = (5 * a1.toInt + a2.toInt).toNat := ixn (by omega)
  refine lv_aload_n hx hb dB_36_1_39.1.2.2.2 rfl (lv_at hl 0 rfl) ?_
  refine va_get (ci := 4) (v := .ref mu) (C := RX4) (T := TX4) (N := 4) hx hb hts (fun _ h => List.mem_cons_of_mem _ (List.mem_append_right _ h)) hown hK.1 hP 0 rfl rfl 3 (by decide) (hts (.fieldLink RX4 22 "CutAtlas$NumberMap" "numbers" "[J") (List.mem_of_getElem? (i := 1) rfl)) (fun _ h9 => h9) rfl dB_36_1_39.2.1.1.1 ?_
  refine lv_iload_n hx hb dB_36_1_39.2.1.1.2 rfl (lv_at hl 3 rfl) ?_
  refine lv_iconst (v := 5) hx hb dB_36_1_39.2.1.2.1 (by decide) ?_
  refine lv_imul hx hb dB_36_1_39.2.1.2.2 ?_
  refine lv_topi (fun y_3 ey_3 => ?_)
  have ty_3 : y_3.toInt = 5 * a3.toInt := by rw [ey_3]; exact mulD (by decide) (by omega) (by omega)
  refine lv_iload hx hb dB_36_1_39.2.2.1.1 (lv_at hl 4 rfl) ?_
  refine lv_iadd hx hb dB_36_1_39.2.2.1.2 ?_
  refine lv_topi (fun y_4 ey_4 => ?_)
  have ty_4 : y_4.toInt = y_3.toInt + a4.toInt := by rw [ey_4]; exact addI (by omega) (by omega)
  have hi2_ : y_4.toNatClampNeg = (5 * a3.toInt + a4.toInt).toNat := ixn (by omega)
  refine lv_iload hx hb dB_36_1_39.2.2.2.1 (lv_at hl 5 rfl) ?_
  have cl_5 := clI (i := y_4) (by omega)
  have cl_6 := clI (i := a5) (by omega)
  have cl_7 := clI (i := y_2) (by omega)
  refine va_copyl hx hb (by rw [hml]; exact hl.1.symm) hown (hts (.methodLink RX4 48 arraycopyName) (List.mem_of_getElem? (i := 2) rfl)) (hts (.native arraycopyName) (List.mem_of_getElem? (i := 3) rfl)) (hts (.static arraycopyName) (List.mem_of_getElem? (i := 4) rfl)) (hts (.initialized "java/lang/System") (List.mem_of_getElem? (i := 5) rfl)) hK.1 hP hD hS 1 1 1 1 rfl rfl rfl rfl rfl (sp := y_2) (dp := y_4) (n := a5) (nneg (by omega)) (nneg (by omega)) (nneg (by omega)) (by omega) (by omega) (fun i h => rfl) (Nat.le_of_ble_eq_true rfl) (Nat.le_of_ble_eq_true rfl) dB_36_1_39.2.2.2.2 (fun H locs hP hD hS => ?_)
  obtain ⟨f_8, ef_8⟩ : ∃ g : Nat → Int64, g = va_cpy fn fn y_2.toNatClampNeg y_4.toNatClampNeg a5.toNatClampNeg := ⟨_, rfl⟩
  refine pd_K (D := D) (cl := vwCl) (H := H) (A := A) [ob4_0_ mm mk mr ml mu, aj_ cy mu 30 f_8] (by rw [ef_8]; exact hP) (by rw [ef_8]; exact hD) (fun hP hD => ?_)
  rw [hQ]
  exact W.vret hx hb hr (fun t ht hW => ⟨⟨(), rfl, trivial, f_8, (by rw [ef_8, hi1_, hi2_]), by rw [ht]; exact hP, hD⟩, hS.F ht⟩) hS.2.2 dB_36_1_40

set_option maxHeartbeats 4000000 in
set_option maxRecDepth 100000 in
theorem c_X4_moveRefusal2 (l : Launch) (D : va_G) (cy : Nat → ClassId) (sz : Nat) (mm : Nat) (ml : Nat) (mu : Nat) (mk : Int32) (mr : Int32) (fl : Nat → Int32) (a1 : Int32) (a2 : Int32) (a3 : Int32) (a4 : Int32) (a5 : Int32) (hmr : mr.toInt = -9 ∨ (0 ≤ mr.toInt ∧ mr.toInt ≤ 6)) (r_fl : rng fl 6 (-9) (5)) : Met l yX4_moveRefusal wsX4_moveRefusal ({ frames := 1, cells := 0, slots := 0, locals := 23 }) (va_Pc [.ref mm, .int a1, .int a2, .int a3, .int a4, .int a5] (fun U => U.heap.size = sz ∧ va_P D vwCl [ob4_0_ mm mk mr ml mu, ai_ cy ml 6 fl] U.heap ∧ kk_ D cy U ∧ va_D (fun _ => True) [ob4_0_ mm mk mr ml mu, ai_ cy ml 6 fl])) (va_Qi (fun (r : Int32) (_ : Unit) => (r.toInt = cpyI 0 a1.toInt a2.toInt a3.toInt a4.toInt a5.toInt (hasI mr.toInt) mr.toInt (fl a1.toNatClampNeg).toInt (fl a3.toNatClampNeg).toInt) ∧ (r.toInt < 0 ∨ (r.toInt = 0 ∧ (0 ≤ a1.toInt ∧ a1.toInt ≤ 5) ∧ (0 ≤ a3.toInt ∧ a3.toInt ≤ 5) ∧ 0 ≤ a2.toInt ∧ 0 ≤ a4.toInt ∧ 0 ≤ a5.toInt ∧ a2.toInt + a5.toInt ≤ 5 ∧ a4.toInt + a5.toInt ≤ 5))) (fun (_ : Unit) (_ : State) => True) (va_A [] sz)) 0 0 (va_A [] sz) := by
  refine ofQ (cc := cX4_moveRefusal) (maxL := 6) (ret := (some .int)) (by decide) rfl ?_
  intro p e s m args below meth c s₁ Q hQ B hml hv
  obtain ⟨rfl, hsz, hP, hK, hD0⟩ := hv
  have hx := B.exec
  have hb := B.bytes
  have hr := B.returns
  have hts := atoms_spec (ws := wsX4_moveRefusal) B.pre
  have hown : s.vm.findClass RX4 = some m.cls := by have h_ := findClass_of_methodNamed B.named; exact h_
  have hlocks := B.notSynchronized
  subst hsz
  have hD : va_D (va_A [] s.heap.size) [] := dd_nil
  generalize hAe : va_A [] s.heap.size = A at hD hQ
  have hA : ∀ q : Nat, s.heap.size ≤ q → A q := fun q h => by rw [← hAe]; exact Or.inr h
  have hS : va_S A s.heap s.heap [] := va_S.rf
  have hl := lv_entry ([.ref mm, .int a1, .int a2, .int a3, .int a4, .int a5]) (n := 6) (Nat.le_of_ble_eq_true rfl)
  rw [lg_entry_eq]
  generalize (lg_sl ([.ref mm, .int a1, .int a2, .int a3, .int a4, .int a5]) ++ List.replicate (6 - (lg_sl ([.ref mm, .int a1, .int a2, .int a3, .int a4, .int a5])).length) Slot.unset).toArray = ls at hl ⊢
  have hl : lv_has ls 6 [(0, .ref mm), (1, .int a1), (2, .int a2), (3, .int a3), (4, .int a4), (5, .int a5)] := hl
  have zm12 : ((-12) : Int32).toInt = -12 := by decide
  have zm11 : ((-11) : Int32).toInt = -11 := by decide
  have z0 : (0 : Int32).toInt = 0 := by decide
  refine lv_aload_n hx hb dB_36_1_41.1.1.1.1 rfl (lv_at hl 0 rfl) ?_
  refine ct_R hP hD0 [ob4_0_ mm mk mr ml mu] [0] (by decide) rfl (fun hPc hDw => ?_)
  have hFc := va_free (wc := []) hD hS hA [] rfl
  refine va_calli (va_runV (As := []) (rest := []) ⟨hx, hb, hml, hown, hts⟩ (c_X4_isThere l D cy s.heap.size mm ml mu mk mr) (cwV 0 hts gX4_moveRefusal_X4_isThere rfl rfl rfl ⟨rfl, hd_X4_isThere⟩ ⟨Nat.le_of_ble_eq_true rfl, Nat.le_of_ble_eq_true rfl⟩) ⟨bl_, va_recvX hK.1 hP (ci := 4) (q0 := 0) rfl rfl, fun U hU hW => ⟨rfl, by rw [hU], by rw [hU]; exact hPc, kk_mv hW hK, hDw⟩⟩ rfl rfl hl.1 rfl (lv_room (Nat.le_of_ble_eq_true rfl)) dB_36_1_41.1.1.1.2 ⟨Nat.le_of_ble_eq_true rfl, Nat.le_of_ble_eq_true rfl⟩) hS (fun q _ h => hFc q h) hFc (fun r_1 u t H locs ht hvm hw hB hz1 hk1 hS => ?_)
  have hP : va_P D vwCl _ H := ro_keep hP hk1
  rcases hw with ⟨w_2, e_⟩ | ⟨w_2, e_⟩
  · have e_ := e_.symm
    subst e_
    refine lv_if_ne (tgt := 10) hx hb dB_36_1_41.1.1.2.1 (by decide) (fun c_3 => ?_) (fun c_3 => ?_)
    · have _ := c_3
      refine lv_aload_n hx hb dB_36_1_41.1.2.1.2 rfl (lv_at hl 0 rfl) ?_
      refine lv_iload_n hx hb dB_36_1_41.1.2.2.1 rfl (lv_at hl 1 rfl) ?_
      refine ct_R hP hD0 [ob4_0_ mm mk mr ml mu] [0] (by decide) rfl (fun hPc hDw => ?_)
      have hFc := va_free (wc := []) hD hS hA [] rfl
      refine va_calli (va_runV (As := [.int a1]) (rest := []) ⟨hx, hb, hml, hown, hts⟩ (c_X4_hasRow l D cy H.size mm ml mu mk mr a1) (cwV 1 hts gX4_moveRefusal_X4_hasRow rfl rfl rfl ⟨rfl, hd_X4_hasRow⟩ ⟨Nat.le_of_ble_eq_true rfl, Nat.le_of_ble_eq_true rfl⟩) ⟨bl_, va_recvX hK.1 hP (ci := 4) (q0 := 0) rfl rfl, fun U hU hW => ⟨rfl, by rw [hU], by rw [hU]; exact hPc, kk_mv hW hK, hDw⟩⟩ rfl rfl hl.1 rfl (lv_room (Nat.le_of_ble_eq_true rfl)) dB_36_1_41.1.2.2.2 ⟨Nat.le_of_ble_eq_true rfl, Nat.le_of_ble_eq_true rfl⟩) hS (fun q _ h => hFc q h) hFc (fun r_4 u t H locs ht hvm hw hB hz1 hk1 hS => ?_)
      have hP : va_P D vwCl _ H := ro_keep hP hk1
      rcases hw with ⟨w_5, e_⟩ | ⟨w_5, e_⟩
      · have e_ := e_.symm
        subst e_
        refine lv_if_eq (tgt := 26) hx hb dB_36_1_41.2.1.1.1 (by decide) (fun c_6 => ?_) (fun c_6 => ?_)
        · exact absurd c_6 (by decide)
        · have _ := c_6
          refine lv_aload_n hx hb dB_36_1_41.2.1.1.2 rfl (lv_at hl 0 rfl) ?_
          refine lv_iload_n hx hb dB_36_1_41.2.1.2.1 rfl (lv_at hl 3 rfl) ?_
          refine ct_R hP hD0 [ob4_0_ mm mk mr ml mu] [0] (by decide) rfl (fun hPc hDw => ?_)
          have hFc := va_free (wc := []) hD hS hA [] rfl
          refine va_calli (va_runV (As := [.int a3]) (rest := []) ⟨hx, hb, hml, hown, hts⟩ (c_X4_hasRow l D cy H.size mm ml mu mk mr a3) (cwV 1 hts gX4_moveRefusal_X4_hasRow rfl rfl rfl ⟨rfl, hd_X4_hasRow⟩ ⟨Nat.le_of_ble_eq_true rfl, Nat.le_of_ble_eq_true rfl⟩) ⟨bl_, va_recvX hK.1 hP (ci := 4) (q0 := 0) rfl rfl, fun U hU hW => ⟨rfl, by rw [hU], by rw [hU]; exact hPc, kk_mv hW hK, hDw⟩⟩ rfl rfl hl.1 rfl (lv_room (Nat.le_of_ble_eq_true rfl)) dB_36_1_41.2.1.2.2 ⟨Nat.le_of_ble_eq_true rfl, Nat.le_of_ble_eq_true rfl⟩) hS (fun q _ h => hFc q h) hFc (fun r_7 u t H locs ht hvm hw hB hz1 hk1 hS => ?_)
          have hP : va_P D vwCl _ H := ro_keep hP hk1
          rcases hw with ⟨w_8, e_⟩ | ⟨w_8, e_⟩
          · have e_ := e_.symm
            subst e_
            refine lv_if_ne (tgt := 29) hx hb dB_36_1_41.2.2.1.1 (by decide) (fun c_9 => ?_) (fun c_9 => ?_)
            · have _ := c_9
              refine lv_aload_n hx hb dB_36_1_41.2.2.2.2 rfl (lv_at hl 0 rfl) ?_
              refine va_get (ci := 4) (v := .ref ml) (C := RX4) (T := TX4) (N := 4) hx hb hts (fun _ h => List.mem_cons_of_mem _ (List.mem_append_right _ h)) hown hK.1 hP 0 rfl rfl 2 (by decide) (hts (.fieldLink RX4 18 "CutAtlas$NumberMap" "lengths" "[I") (List.mem_of_getElem? (i := 1) rfl)) (fun _ h9 => h9) rfl dB_36_1_42.1.1.1.1 ?_
              refine lv_iload_n hx hb dB_36_1_42.1.1.1.2 rfl (lv_at hl 1 rfl) ?_
              have h_10 : vp_in a1 6 := in_I (by first | with_reducible assumption | omega) (by omega)
              refine va_iald hx hb hK.1 hP 1 0 rfl rfl (i := a1) h_10 dB_36_1_42.1.1.2.1 ?_
              refine lv_topi (fun y_11 ey_11 => ?_)
              have ky_11 : y_11.toInt = (fl a1.toNatClampNeg).toInt := by rw [ey_11]
              have ry_11 : -9 ≤ y_11.toInt ∧ y_11.toInt ≤ 5 := by rw [ey_11]; exact r_fl _ (in_lt h_10)
              refine lv_if_lt (tgt := 47) hx hb dB_36_1_42.1.1.2.2 (by decide) (fun c_12 => ?_) (fun c_12 => ?_)
              · have t_12 : y_11.toInt < (0 : Int32).toInt := Int32.lt_iff_toInt_lt.mp c_12
                refine lv_bipush (v := (-11)) hx hb dB_36_1_42.2.1.1.2 (by decide) ?_
                rw [hQ]
                exact W.iret (v := (-11)) hx hb hr (fun t ht hW => ⟨⟨(-11), (), rfl, ⟨by unfold cpyI hasI; (repeat' (first | with_reducible refine if_n (by omega) ?_ | with_reducible refine if_ns (by omega) ?_ | with_reducible refine if_nz (by omega) ?_ | with_reducible exact if_p (by omega) (by omega) | with_reducible exact if_ps (by omega) (by omega) | with_reducible exact if_pz (by omega) (by omega))) <;> omega, by omega⟩, trivial⟩, hS.F ht⟩) hS.2.2 dB_36_1_42.2.1.2.1
              · have t_12 : ¬ y_11.toInt < (0 : Int32).toInt := fun h => c_12 (Int32.lt_iff_toInt_lt.mpr h)
                refine lv_aload_n hx hb dB_36_1_42.1.2.1.1 rfl (lv_at hl 0 rfl) ?_
                refine va_get (ci := 4) (v := .ref ml) (C := RX4) (T := TX4) (N := 4) hx hb hts (fun _ h => List.mem_cons_of_mem _ (List.mem_append_right _ h)) hown hK.1 hP 0 rfl rfl 2 (by decide) (hts (.fieldLink RX4 18 "CutAtlas$NumberMap" "lengths" "[I") (List.mem_of_getElem? (i := 1) rfl)) (fun _ h9 => h9) rfl dB_36_1_42.1.2.1.2 ?_
                refine lv_iload_n hx hb dB_36_1_42.1.2.2.1 rfl (lv_at hl 3 rfl) ?_
                have h_13 : vp_in a3 6 := in_I (by first | with_reducible assumption | omega) (by omega)
                refine va_iald hx hb hK.1 hP 1 0 rfl rfl (i := a3) h_13 dB_36_1_42.1.2.2.2 ?_
                refine lv_topi (fun y_14 ey_14 => ?_)
                have ky_14 : y_14.toInt = (fl a3.toNatClampNeg).toInt := by rw [ey_14]
                have ry_14 : -9 ≤ y_14.toInt ∧ y_14.toInt ≤ 5 := by rw [ey_14]; exact r_fl _ (in_lt h_13)
                refine lv_if_ge (tgt := 50) hx hb dB_36_1_42.2.1.1.1 (by decide) (fun c_15 => ?_) (fun c_15 => ?_)
                · have t_15 : (0 : Int32).toInt ≤ y_14.toInt := Int32.le_iff_toInt_le.mp c_15
                  refine lv_aload_n hx hb dB_36_1_42.2.1.2.2 rfl (lv_at hl 0 rfl) ?_
                  refine lv_iload_n hx hb dB_36_1_42.2.2.1.1 rfl (lv_at hl 1 rfl) ?_
                  refine lv_iload_n hx hb dB_36_1_42.2.2.1.2 rfl (lv_at hl 2 rfl) ?_
                  refine lv_iload hx hb dB_36_1_42.2.2.2.1 (lv_at hl 5 rfl) ?_
                  refine ct_R hP hD0 [ob4_0_ mm mk mr ml mu, ai_ cy ml 6 fl] [0, 1] (by decide) rfl (fun hPc hDw => ?_)
                  have hFc := va_free (wc := []) hD hS hA [] rfl
                  refine va_calli (va_runV (As := [.int a1, .int a2, .int a5]) (rest := []) ⟨hx, hb, hml, hown, hts⟩ (c_X4_hasNumbers l D cy H.size mm ml mu mk mr fl a1 a2 a5 (by first | with_reducible assumption | omega | assumption) (by first | with_reducible assumption | assumption | omega)) (cwV 3 hts gX4_moveRefusal_X4_hasNumbers rfl rfl rfl ⟨rfl, hd_X4_hasNumbers⟩ ⟨Nat.le_of_ble_eq_true rfl, Nat.le_of_ble_eq_true rfl⟩) ⟨bl_, va_recvX hK.1 hP (ci := 4) (q0 := 0) rfl rfl, fun U hU hW => ⟨rfl, by rw [hU], by rw [hU]; exact hPc, kk_mv hW hK, hDw⟩⟩ rfl rfl hl.1 rfl (lv_room (Nat.le_of_ble_eq_true rfl)) dB_36_1_42.2.2.2.2 ⟨Nat.le_of_ble_eq_true rfl, Nat.le_of_ble_eq_true rfl⟩) hS (fun q _ h => hFc q h) hFc (fun r_16 u t H locs ht hvm hw hB hz1 hk1 hS => ?_)
                  have hP : va_P D vwCl _ H := ro_keep hP hk1
                  rcases hw with ⟨w_17, e_⟩ | ⟨w_17, e_⟩
                  · have e_ := e_.symm
                    subst e_
                    refine lv_if_eq (tgt := 77) hx hb dB_36_1_43.1.1.1 (by decide) (fun c_18 => ?_) (fun c_18 => ?_)
                    · exact absurd c_18 (by decide)
                    · have _ := c_18
                      refine lv_aload_n hx hb dB_36_1_43.1.1.2 rfl (lv_at hl 0 rfl) ?_
                      refine lv_iload_n hx hb dB_36_1_43.1.2.1 rfl (lv_at hl 3 rfl) ?_
                      refine lv_iload hx hb dB_36_1_43.1.2.2.1 (lv_at hl 4 rfl) ?_
                      refine lv_iload hx hb dB_36_1_43.1.2.2.2 (lv_at hl 5 rfl) ?_
                      refine ct_R hP hD0 [ob4_0_ mm mk mr ml mu, ai_ cy ml 6 fl] [0, 1] (by decide) rfl (fun hPc hDw => ?_)
                      have hFc := va_free (wc := []) hD hS hA [] rfl
                      refine va_calli (va_runV (As := [.int a3, .int a4, .int a5]) (rest := []) ⟨hx, hb, hml, hown, hts⟩ (c_X4_hasNumbers l D cy H.size mm ml mu mk mr fl a3 a4 a5 (by first | with_reducible assumption | omega | assumption) (by first | with_reducible assumption | assumption | omega)) (cwV 3 hts gX4_moveRefusal_X4_hasNumbers rfl rfl rfl ⟨rfl, hd_X4_hasNumbers⟩ ⟨Nat.le_of_ble_eq_true rfl, Nat.le_of_ble_eq_true rfl⟩) ⟨bl_, va_recvX hK.1 hP (ci := 4) (q0 := 0) rfl rfl, fun U hU hW => ⟨rfl, by rw [hU], by rw [hU]; exact hPc, kk_mv hW hK, hDw⟩⟩ rfl rfl hl.1 rfl (lv_room (Nat.le_of_ble_eq_true rfl)) dB_36_1_43.2.1.1 ⟨Nat.le_of_ble_eq_true rfl, Nat.le_of_ble_eq_true rfl⟩) hS (fun q _ h => hFc q h) hFc (fun r_19 u t H locs ht hvm hw hB hz1 hk1 hS => ?_)
                      have hP : va_P D vwCl _ H := ro_keep hP hk1
                      rcases hw with ⟨w_20, e_⟩ | ⟨w_20, e_⟩
                      · have e_ := e_.symm
                        subst e_
                        refine lv_if_eq (tgt := 77) hx hb dB_36_1_43.2.1.2.1 (by decide) (fun c_21 => ?_) (fun c_21 => ?_)
                        · exact absurd c_21 (by decide)
                        · have _ := c_21
                          refine lv_iconst (v := 0) hx hb dB_36_1_43.2.1.2.2 (by decide) ?_
                          refine lv_goto (tgt := 79) hx hb dB_36_1_43.2.2.1 (by decide) ?_
                          rw [hQ]
                          exact W.iret (v := 0) hx hb hr (fun t ht hW => ⟨⟨0, (), rfl, ⟨by unfold cpyI hasI; (repeat' (first | with_reducible refine if_n (by omega) ?_ | with_reducible refine if_ns (by omega) ?_ | with_reducible refine if_nz (by omega) ?_ | with_reducible exact if_p (by omega) (by omega) | with_reducible exact if_ps (by omega) (by omega) | with_reducible exact if_pz (by omega) (by omega))) <;> omega, by omega⟩, trivial⟩, hS.F ht⟩) hS.2.2 dB_36_1_43.2.2.2.2
                      · have e_ := e_.symm
                        subst e_
                        refine lv_if_eq (tgt := 77) hx hb dB_36_1_43.2.1.2.1 (by decide) (fun c_22 => ?_) (fun c_22 => ?_)
                        · have _ := c_22
                          refine lv_bipush (v := (-12)) hx hb dB_36_1_43.2.2.2.1 (by decide) ?_
                          rw [hQ]
                          exact W.iret (v := (-12)) hx hb hr (fun t ht hW => ⟨⟨(-12), (), rfl, ⟨by unfold cpyI hasI; (repeat' (first | with_reducible refine if_n (by omega) ?_ | with_reducible refine if_ns (by omega) ?_ | with_reducible refine if_nz (by omega) ?_ | with_reducible exact if_p (by omega) (by omega) | with_reducible exact if_ps (by omega) (by omega) | with_reducible exact if_pz (by omega) (by omega))) <;> omega, by omega⟩, trivial⟩, hS.F ht⟩) hS.2.2 dB_36_1_43.2.2.2.2
                        · exact absurd c_22 (by decide)
                  · have e_ := e_.symm
                    subst e_
                    refine lv_if_eq (tgt := 77) hx hb dB_36_1_43.1.1.1 (by decide) (fun c_23 => ?_) (fun c_23 => ?_)
                    · have _ := c_23
                      refine lv_bipush (v := (-12)) hx hb dB_36_1_43.2.2.2.1 (by decide) ?_
                      rw [hQ]
                      exact W.iret (v := (-12)) hx hb hr (fun t ht hW => ⟨⟨(-12), (), rfl, ⟨by unfold cpyI hasI; (repeat' (first | with_reducible refine if_n (by omega) ?_ | with_reducible refine if_ns (by omega) ?_ | with_reducible refine if_nz (by omega) ?_ | with_reducible exact if_p (by omega) (by omega) | with_reducible exact if_ps (by omega) (by omega) | with_reducible exact if_pz (by omega) (by omega))) <;> omega, by omega⟩, trivial⟩, hS.F ht⟩) hS.2.2 dB_36_1_43.2.2.2.2
                    · exact absurd c_23 (by decide)
                · have t_15 : ¬ (0 : Int32).toInt ≤ y_14.toInt := fun h => c_15 (Int32.le_iff_toInt_le.mpr h)
                  refine lv_bipush (v := (-11)) hx hb dB_36_1_42.2.1.1.2 (by decide) ?_
                  rw [hQ]
                  exact W.iret (v := (-11)) hx hb hr (fun t ht hW => ⟨⟨(-11), (), rfl, ⟨by unfold cpyI hasI; (repeat' (first | with_reducible refine if_n (by omega) ?_ | with_reducible refine if_ns (by omega) ?_ | with_reducible refine if_nz (by omega) ?_ | with_reducible exact if_p (by omega) (by omega) | with_reducible exact if_ps (by omega) (by omega) | with_reducible exact if_pz (by omega) (by omega))) <;> omega, by omega⟩, trivial⟩, hS.F ht⟩) hS.2.2 dB_36_1_42.2.1.2.1
            · exact absurd c_9 (by decide)
          · have e_ := e_.symm
            subst e_
            refine lv_if_ne (tgt := 29) hx hb dB_36_1_41.2.2.1.1 (by decide) (fun c_24 => ?_) (fun c_24 => ?_)
            · exact absurd c_24 (by decide)
            · have _ := c_24
              refine lv_bipush (v := (-12)) hx hb dB_36_1_41.2.2.1.2 (by decide) ?_
              rw [hQ]
              exact W.iret (v := (-12)) hx hb hr (fun t ht hW => ⟨⟨(-12), (), rfl, ⟨by unfold cpyI hasI; (repeat' (first | with_reducible refine if_n (by omega) ?_ | with_reducible refine if_ns (by omega) ?_ | with_reducible refine if_nz (by omega) ?_ | with_reducible exact if_p (by omega) (by omega) | with_reducible exact if_ps (by omega) (by omega) | with_reducible exact if_pz (by omega) (by omega))) <;> omega, by omega⟩, trivial⟩, hS.F ht⟩) hS.2.2 dB_36_1_41.2.2.2.1
      · have e_ := e_.symm
        subst e_
        refine lv_if_eq (tgt := 26) hx hb dB_36_1_41.2.1.1.1 (by decide) (fun c_25 => ?_) (fun c_25 => ?_)
        · have _ := c_25
          refine lv_bipush (v := (-12)) hx hb dB_36_1_41.2.2.1.2 (by decide) ?_
          rw [hQ]
          exact W.iret (v := (-12)) hx hb hr (fun t ht hW => ⟨⟨(-12), (), rfl, ⟨by unfold cpyI hasI; (repeat' (first | with_reducible refine if_n (by omega) ?_ | with_reducible refine if_ns (by omega) ?_ | with_reducible refine if_nz (by omega) ?_ | with_reducible exact if_p (by omega) (by omega) | with_reducible exact if_ps (by omega) (by omega) | with_reducible exact if_pz (by omega) (by omega))) <;> omega, by omega⟩, trivial⟩, hS.F ht⟩) hS.2.2 dB_36_1_41.2.2.2.1
        · exact absurd c_25 (by decide)
    · exact absurd c_3 (by decide)
  · have e_ := e_.symm
    subst e_
    refine lv_if_ne (tgt := 10) hx hb dB_36_1_41.1.1.2.1 (by decide) (fun c_26 => ?_) (fun c_26 => ?_)
    · exact absurd c_26 (by decide)
    · have _ := c_26
      refine lv_bipush (v := (-11)) hx hb dB_36_1_41.1.1.2.2 (by decide) ?_
      rw [hQ]
      exact W.iret (v := (-11)) hx hb hr (fun t ht hW => ⟨⟨(-11), (), rfl, ⟨by unfold cpyI hasI; (repeat' (first | with_reducible refine if_n (by omega) ?_ | with_reducible refine if_ns (by omega) ?_ | with_reducible refine if_nz (by omega) ?_ | with_reducible exact if_p (by omega) (by omega) | with_reducible exact if_ps (by omega) (by omega) | with_reducible exact if_pz (by omega) (by omega))) <;> omega, by omega⟩, trivial⟩, hS.F ht⟩) hS.2.2 dB_36_1_41.1.2.1.1
end
