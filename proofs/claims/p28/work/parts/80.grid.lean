/-- twelve rows of twelve numbers -/
noncomputable def gro (c : ClassId) (r : Nat → Nat) (M : Nat → Nat → Int32) : va_W := (List.range 12).map (fun k => (r k, .inl (c, 12, .inl (M k))))
/-- the outer row -/
noncomputable def gf_ (r : Nat → Nat) : Nat → Option Nat := fun i => if i < 12 then some (r i) else none
theorem gro_len {c : ClassId} {r : Nat → Nat} {M : Nat → Nat → Int32} : (gro c r M).length = 12 := by
  unfold gro
  rw [List.length_map, List.length_range]
theorem gro_get {c : ClassId} {r : Nat → Nat} {M : Nat → Nat → Int32} {k : Nat} (hk : k < 12) : (gro c r M)[k]? = some (r k, .inl (c, 12, .inl (M k))) := by
  unfold gro
  rw [List.getElem?_map, List.getElem?_range hk]
  rfl
theorem gro_at {X Y : va_W} {c : ClassId} {r : Nat → Nat} {M : Nat → Nat → Int32} {k : Nat} (hk : k < 12) : (X ++ (gro c r M ++ Y))[X.length + k]? = some (r k, .inl (c, 12, .inl (M k))) := by
  rw [List.getElem?_append_right (by omega), show X.length + k - X.length = k by omega, List.getElem?_append_left (by rw [gro_len]; exact hk)]
  exact gro_get hk
theorem gro_set {X Y : va_W} {c : ClassId} {r : Nat → Nat} {M : Nat → Nat → Int32} {k : Nat} {g : Nat → Int32} (hk : k < 12) : (X ++ (gro c r M ++ Y)).set (X.length + k) (r k, .inl (c, 12, .inl g)) = X ++ (gro c r (va_up M k g) ++ Y) := by
  rw [List.set_append_right _ _ (by omega), show X.length + k - X.length = k by omega, List.set_append_left _ _ (by rw [gro_len]; exact hk)]
  congr 2
  apply List.ext_getElem?
  intro i
  by_cases hi : i < 12
  · rw [gro_get hi]
    by_cases e : i = k
    · subst e
      rw [List.getElem?_set_self (by rw [gro_len]; exact hi), va_up_self]
    · rw [List.getElem?_set_ne (fun h => e h.symm), gro_get hi, va_up_ne _ _ e]
  · rw [List.getElem?_eq_none (by rw [List.length_set, gro_len]; omega), List.getElem?_eq_none (by rw [gro_len]; omega)]
theorem gf_at {r : Nat → Nat} {i : Int32} (h : vp_in i 12) : va_rf (gf_ r i.toNatClampNeg) = .ref (r i.toNatClampNeg) := by
  unfold gf_
  rw [if_pos (in_lt h)]
  rfl
section GRW
variable {p : Program} {l : Launch} {e : Env} {R : Room} {s : State} {m : MethodId} {args : Array Value} {below : List Frame} {meth : Method} {c : Code} {H : Heap} {locs : List Loc} {cells slots : Nat} {Q : State → Prop}
variable {cc : ByteArray} {pc : Nat} {ls : Array Slot} {rest : List Value} {D : va_G} {cl : List vw_C} {A : Nat → Prop} {a : Nat} {tys : List (ClassId × FieldType)} {ws : va_W} {H0 : Heap}
theorem va_alda (hexec : p.tables.exec = Jvm.exec) (hb : c.code = cc) {cA : ClassId} (hG : ArrOfT s cA (.array .int)) (hP : va_P D cl ws H) (q0 : Nat) {n : Nat} {f : Nat → Option Nat} (ha : ws[q0]? = some (a, .inl (cA, n, .inr (.inr (.inr (.inr f)))))) {i : Int32} (hin : vp_in i n) (hdg : decode cc pc = .ok (.aaload, 1))
    (kk : W p l e R s m args below meth c H locs cells slots Q (F0 m (pc + 1) ls (va_rf (f i.toNatClampNeg) :: rest))) : W p l e R s m args below meth c H locs cells slots Q (F0 m pc ls (.int i :: .ref a :: rest)) := by
  have hlt : i.toNatClampNeg < n := in_lt hin
  exact W.aald (v := va_rf (f i.toNatClampNeg)) (ty := .array .int) hexec hb (hP q0 _ ha) (hG n (fun j => va_rf (f j))) rfl (fun q => by cases q) (by show ¬ (i < 0 ∨ (arrV _ _ _).slots.size ≤ _); rw [arrV_size]; exact hin) (by show (arrV _ _ _).slots[_]? = _; rw [arrV_read _ _ hlt]) rfl rfl hdg kk
theorem va_gld {X Y : va_W} {cA : ClassId} {r : Nat → Nat} {M : Nat → Nat → Int32} {k : Nat} (hexec : p.tables.exec = Jvm.exec) (hb : c.code = cc) (hK : va_K D cl tys s) (hP : va_P D cl (X ++ (gro cA r M ++ Y)) H) (t0 : Nat) (ht : tys[t0]? = some (cA, .int)) (hk : k < 12) {i : Int32} (hin : vp_in i 12) (hdg : decode cc pc = .ok (.iaload, 1))
    (kk : W p l e R s m args below meth c H locs cells slots Q (F0 m (pc + 1) ls (.int (M k i.toNatClampNeg) :: rest))) : W p l e R s m args below meth c H locs cells slots Q (F0 m pc ls (.int i :: .ref (r k) :: rest)) :=
  va_iald hexec hb hK hP (X.length + k) t0 (gro_at hk) ht hin hdg kk
theorem va_gst {X Y : va_W} {cA : ClassId} {r : Nat → Nat} {M : Nat → Nat → Int32} {k : Nat} (hexec : p.tables.exec = Jvm.exec) (hb : c.code = cc) (hK : va_K D cl tys s) (hP : va_P D cl (X ++ (gro cA r M ++ Y)) H) (hD : va_D A (X ++ (gro cA r M ++ Y))) (hS : va_S A H0 H locs) (t0 : Nat) (ht : tys[t0]? = some (cA, .int)) (hk : k < 12) {i x : Int32} (hin : vp_in i 12) (hdg : decode cc pc = .ok (.iastore, 1))
    (kk : ∀ (H1 : Heap) (locs1 : List Loc), va_P D cl (X ++ (gro cA r (va_up M k (upd (M k) i.toNatClampNeg x)) ++ Y)) H1 → va_D A (X ++ (gro cA r (va_up M k (upd (M k) i.toNatClampNeg x)) ++ Y)) → va_S A H0 H1 locs1 → W p l e R s m args below meth c H1 locs1 cells slots Q (F0 m (pc + 1) ls rest)) : W p l e R s m args below meth c H locs cells slots Q (F0 m pc ls (.int x :: .int i :: .ref (r k) :: rest)) := by
  refine va_iast hexec hb hK hP hD hS (X.length + k) t0 (gro_at hk) ht hin hdg (fun H1 locs1 hP1 hD1 hS1 => ?_)
  rw [gro_set hk] at hP1 hD1
  exact kk H1 locs1 hP1 hD1 hS1
end GRW
