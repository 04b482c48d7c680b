/-! ===== rows for contracts with ranges and loops ===== -/
/-- a contract's proof, its end named Q -/
theorem ofQ {l : Launch} {y : MethodName} {ws ws' : List Cond} {rm : Room} {Pc : Array Value → State → Prop} {Qc : Array Value → State → Outcome → State → Prop} {mc ms : Nat} {free : Addr → Prop} {cc : ByteArray} {maxL : Nat} {ret : Option FieldType}
    (hy : plainName y.cls = true) (hw : ws = Cond.code y cc maxL ret :: ws')
    (body : ∀ p e s m args below meth c s₁ (Q : State → Prop), Q = MQ below Qc args s mc ms free → BodyLoose p l y (headSpec ws rm) cc maxL ret e s m args below meth c s₁ → c.maxLocals = maxL → Pc args s →
      W p l e rm s m args below meth c s.heap [] 0 0 Q (entryFrame m args maxL)) : Met l y ws rm Pc Qc mc ms free :=
  Met.ofW hy hw (fun p e s m args below meth c s₁ B hml hv => body p e s m args below meth c s₁ _ rfl B hml hv)
/-- the first n numbers of a row lie between two bounds -/
noncomputable def rng (f : Nat → Int32) (n : Nat) (lo hi : Int) : Prop := ∀ j : Nat, j < n → lo ≤ (f j).toInt ∧ (f j).toInt ≤ hi
theorem rng_upd {f : Nat → Int32} {n : Nat} {lo hi : Int} {k : Nat} {x : Int32} (h : rng f n lo hi) (h1 : lo ≤ x.toInt) (h2 : x.toInt ≤ hi) : rng (upd f k x) n lo hi := fun j hj => by
  by_cases e : j = k
  · subst e
    rw [pk_us]
    exact ⟨h1, h2⟩
  · rw [pk_un e]
    exact h j hj
theorem rng_zero {n : Nat} {lo hi : Int} (h1 : lo ≤ 0) (h2 : 0 ≤ hi) : rng (fun _ => 0) n lo hi := fun j _ => by
  have z : (0 : Int32).toInt = 0 := by decide
  show lo ≤ (0 : Int32).toInt ∧ (0 : Int32).toInt ≤ hi
  exact ⟨by omega, by omega⟩
theorem in_lt {i : Int32} {n : Nat} (h : vp_in i n) : i.toNatClampNeg < n := Nat.not_le.mp fun q => h (Or.inr q)
theorem in_I {i : Int32} {n : Nat} (h1 : 0 ≤ i.toInt) (h2 : i.toInt < n) : vp_in i n := vp_in_iff.mpr ⟨h1, h2⟩
theorem addI {a b : Int32} (h1 : -2147483648 ≤ a.toInt + b.toInt) (h2 : a.toInt + b.toInt ≤ 2147483647) : (a + b).toInt = a.toInt + b.toInt := by
  rw [Int32.toInt_add]
  exact Int.bmod_eq_of_le (by omega) (by omega)
theorem subI {a b : Int32} (h1 : -2147483648 ≤ a.toInt - b.toInt) (h2 : a.toInt - b.toInt ≤ 2147483647) : (a - b).toInt = a.toInt - b.toInt := by
  rw [Int32.toInt_sub]
  exact Int.bmod_eq_of_le (by omega) (by omega)
theorem mulI {a b : Int32} (h1 : -2147483648 ≤ a.toInt * b.toInt) (h2 : a.toInt * b.toInt ≤ 2147483647) : (a * b).toInt = a.toInt * b.toInt := by
  rw [Int32.toInt_mul]
  exact Int.bmod_eq_of_le (by omega) (by omega)
theorem clI {i : Int32} (h : 0 ≤ i.toInt) : ((i.toNatClampNeg : Nat) : Int) = i.toInt := by
  show ((i.toInt.toNat : Nat) : Int) = i.toInt
  omega
theorem negI {a : Int32} (h : -2147483647 ≤ a.toInt) : (-a).toInt = -a.toInt := by
  rw [Int32.toInt_neg]
  have h2 := Int32.toInt_lt a
  exact Int.bmod_eq_of_le (by omega) (by omega)
/-- 1 << p for a place's number -/
theorem shl1 {x : Int32} (h0 : 0 ≤ x.toInt) (h1 : x.toInt ≤ 12) : 1 ≤ ((1 : Int32) <<< (x &&& 31)).toInt ∧ ((1 : Int32) <<< (x &&& 31)).toInt ≤ 4096 := by
  have h : x.toInt = 0 ∨ x.toInt = 1 ∨ x.toInt = 2 ∨ x.toInt = 3 ∨ x.toInt = 4 ∨ x.toInt = 5 ∨ x.toInt = 6 ∨ x.toInt = 7 ∨ x.toInt = 8 ∨ x.toInt = 9 ∨ x.toInt = 10 ∨ x.toInt = 11 ∨ x.toInt = 12 := by omega
  rcases h with h | h | h | h | h | h | h | h | h | h | h | h | h
  · obtain rfl : x = 0 := Int32.toInt_inj.mp h
    decide
  · obtain rfl : x = 1 := Int32.toInt_inj.mp h
    decide
  · obtain rfl : x = 2 := Int32.toInt_inj.mp h
    decide
  · obtain rfl : x = 3 := Int32.toInt_inj.mp h
    decide
  · obtain rfl : x = 4 := Int32.toInt_inj.mp h
    decide
  · obtain rfl : x = 5 := Int32.toInt_inj.mp h
    decide
  · obtain rfl : x = 6 := Int32.toInt_inj.mp h
    decide
  · obtain rfl : x = 7 := Int32.toInt_inj.mp h
    decide
  · obtain rfl : x = 8 := Int32.toInt_inj.mp h
    decide
  · obtain rfl : x = 9 := Int32.toInt_inj.mp h
    decide
  · obtain rfl : x = 10 := Int32.toInt_inj.mp h
    decide
  · obtain rfl : x = 11 := Int32.toInt_inj.mp h
    decide
  · obtain rfl : x = 12 := Int32.toInt_inj.mp h
    decide
theorem b01 {a : Int32} (h : a.toInt = 0 ∨ a.toInt = 1) : a = 0 ∨ a = 1 := by
  rcases h with h | h
  · exact Or.inl (Int32.toInt_inj.mp h)
  · exact Or.inr (Int32.toInt_inj.mp h)
theorem or01 {a b : Int32} (ha : a.toInt = 0 ∨ a.toInt = 1) (hb : b.toInt = 0 ∨ b.toInt = 1) : (a ||| b).toInt = 0 ∨ (a ||| b).toInt = 1 := by
  rcases b01 ha with rfl | rfl <;> rcases b01 hb with rfl | rfl <;> decide
theorem and01 {a b : Int32} (ha : a.toInt = 0 ∨ a.toInt = 1) (hb : b.toInt = 0 ∨ b.toInt = 1) : (a &&& b).toInt = 0 ∨ (a &&& b).toInt = 1 := by
  rcases b01 ha with rfl | rfl <;> rcases b01 hb with rfl | rfl <;> decide
theorem nar_b {v : Int32} (h : v.toInt = 0 ∨ v.toInt = 1) : narrow .boolean (.int v) = .int v := by
  rcases b01 h with rfl | rfl <;> decide
theorem mulC {a b : Int32} {k : Int} (h : a.toInt = k) (h1 : -2147483648 ≤ k * b.toInt) (h2 : k * b.toInt ≤ 2147483647) : (a * b).toInt = k * b.toInt := by
  rw [Int32.toInt_mul, h]
  exact Int.bmod_eq_of_le (by omega) (by omega)
theorem mulD {a b : Int32} {k : Int} (h : b.toInt = k) (h1 : -2147483648 ≤ k * a.toInt) (h2 : k * a.toInt ≤ 2147483647) : (a * b).toInt = k * a.toInt := by
  rw [Int32.toInt_mul, h, Int.mul_comm]
  exact Int.bmod_eq_of_le (by omega) (by omega)
/-- the row of kept nets: a line's numbers by their places mod 5 -/
noncomputable def oc (k : Nat) (x : Int) : Prop := ((k % 5 = 1 ∨ k % 5 = 2) → 0 ≤ x ∧ x ≤ 11) ∧ (k % 5 = 3 → 0 ≤ x ∧ x ≤ 2000) ∧ (k % 5 = 4 → (0 ≤ x ∧ x ≤ 100) ∨ (1000 ≤ x ∧ x ≤ 1100))
noncomputable def orng (f : Nat → Int32) (n : Nat) : Prop := ∀ j : Nat, j < n → oc j (f j).toInt
theorem orng_upd {f : Nat → Int32} {n k : Nat} {x : Int32} (h : orng f n) (hx : oc k x.toInt) : orng (upd f k x) n := fun j hj => by
  by_cases e : j = k
  · subst e
    rw [pk_us]
    exact hx
  · rw [pk_un e]
    exact h j hj
theorem orng_zero {n : Nat} : orng (fun _ => 0) n := fun j _ => by
  have z : (0 : Int32).toInt = 0 := by decide
  show oc j (0 : Int32).toInt
  unfold oc
  omega
/-- x % 1000 of a price that is kept -/
theorem rem1000 {x : Int32} (h : (0 ≤ x.toInt ∧ x.toInt ≤ 100) ∨ (1000 ≤ x.toInt ∧ x.toInt ≤ 1100)) : 0 ≤ (x - x / 1000 * 1000).toInt ∧ (x - x / 1000 * 1000).toInt ≤ 100 := by
  obtain ⟨j, hj, rfl⟩ := nI_of (x := x) (fun h => by
    have := Int32.lt_iff_toInt_lt.mp h
    have z : (0 : Int32).toInt = 0 := by decide
    omega)
  have e : (1000 : Int32) = nI 1000 := rfl
  rw [nI_toInt hj] at h
  rw [e, pk_rem hj (by decide) (by decide), nI_toInt (by omega)]
  omega
theorem addL {a b : Int64} (h1 : -9223372036854775808 ≤ a.toInt + b.toInt) (h2 : a.toInt + b.toInt ≤ 9223372036854775807) : (a + b).toInt = a.toInt + b.toInt := by
  rw [Int64.toInt_add]
  exact Int.bmod_eq_of_le (by omega) (by omega)
theorem va_recvX {s : State} {H : Heap} {D : va_G} {cl : List vw_C} {a q0 ci n : Nat} {C : String} {T : u_T} {fs : List Value} {ws : va_W} {tys : List (ClassId × FieldType)} (hK : va_K D cl tys s) (hP : va_P D cl ws H) (hc : cl[ci]? = some (C, T, n)) (he : ws[q0]? = some (a, .inr (ci, fs))) : ∃ cell : Cell, H[a]? = some cell ∧ cell.vm.isStatics = false ∧ s.vm.findClass C = some cell.cls := va_recv hK hP hc he
/-! ===== cells cut out, put in order, named: each list of cells written once ===== -/
theorem fm_map {f : Nat → Option (Nat × va_E)} : ∀ (is : List Nat) (wc : va_W), is.map f = wc.map some → is.filterMap f = wc := by
  intro is
  induction is with
  | nil =>
    intro wc h
    cases wc with
    | nil => rfl
    | cons c wc => exact absurd (congrArg List.length h) (by simp)
  | cons i is ih =>
    intro wc h
    cases wc with
    | nil => exact absurd (congrArg List.length h) (by simp)
    | cons c wc =>
      have h1 : f i :: is.map f = some c :: wc.map some := h
      injection h1 with h2 h3
      rw [List.filterMap_cons, h2]
      show c :: is.filterMap f = c :: wc
      rw [ih wc h3]
theorem pd_K {D : va_G} {cl : List vw_C} {H : Heap} {A : Nat → Prop} {G : Prop} (L : va_W) (hP : va_P D cl L H) (hD : va_D A L) (k : va_P D cl L H → va_D A L → G) : G := k hP hD
theorem pd_P {D : va_G} {cl : List vw_C} {H : Heap} {A : Nat → Prop} {G : Prop} {X pl : va_W} (hP : va_P D cl (X ++ pl) H) (hD : va_D A (X ++ pl)) (cx : va_W) (is : List Nat) (hn : va_nd is = true) (hs : is.map (fun i => X[i]?) = cx.map some) (k : va_P D cl (cx ++ pl) H → va_D A (cx ++ pl) → G) : G := k (hP.part is hs) (hD.part is hn hs)
theorem pd_S {D : va_G} {cl : List vw_C} {H : Heap} {A : Nat → Prop} {G : Prop} {ws : va_W} (hP : va_P D cl ws H) (hD : va_D A ws) (wc : va_W) (is : List Nat) (hn : va_nd is = true) (hs : is.map (fun i => ws[i]?) = wc.map some) (k : va_P D cl wc H → va_D A wc → G) : G := k (hP.sub is (fm_map is wc hs)) (hD.sub is hn hs)
theorem ct_P {D : va_G} {cl : List vw_C} {H H0 : Heap} {locs : List Loc} {A : Nat → Prop} {G : Prop} {X pl : va_W} (hP : va_P D cl (X ++ pl) H) (hD : va_D A (X ++ pl)) (hS : va_S A H0 H locs) (hA : ∀ q, H0.size ≤ q → A q) (cx : va_W) (is : List Nat) (hn : va_nd is = true) (hs : is.map (fun i => X[i]?) = cx.map some) (k : va_P D cl (cx ++ pl) H → va_D (fun _ => True) (cx ++ pl) → (∀ q, va_A (cx ++ pl) H.size q → A q) → is.map (fun i => X[i]?) = cx.map some → G) : G :=
  k (hP.part is hs) ((hD.part is hn hs).weaken (fun _ _ _ _ => trivial)) (va_freeP hD hS hA is hs) hs
theorem ct_S {D : va_G} {cl : List vw_C} {H H0 : Heap} {locs : List Loc} {A : Nat → Prop} {G : Prop} {ws : va_W} (hP : va_P D cl ws H) (hD : va_D A ws) (hS : va_S A H0 H locs) (hA : ∀ q, H0.size ≤ q → A q) (wc : va_W) (is : List Nat) (hn : va_nd is = true) (hs : is.map (fun i => ws[i]?) = wc.map some) (k : va_P D cl wc H → va_D (fun _ => True) wc → (∀ q, va_A wc H.size q → A q) → is.map (fun i => ws[i]?) = wc.map some → G) : G :=
  k (hP.sub is (fm_map is wc hs)) ((hD.sub is hn hs).weaken (fun _ _ _ _ => trivial)) (va_free hD hS hA is hs) hs
theorem ct_R {D : va_G} {cl : List vw_C} {H : Heap} {A : Nat → Prop} {G : Prop} {ws : va_W} (hP : va_P D cl ws H) (hD : va_D A ws) (wc : va_W) (is : List Nat) (hn : va_nd is = true) (hs : is.map (fun i => ws[i]?) = wc.map some) (k : va_P D cl wc H → va_D (fun _ => True) wc → G) : G :=
  k (hP.sub is (fm_map is wc hs)) ((hD.sub is hn hs).weaken (fun _ _ _ _ => trivial))
