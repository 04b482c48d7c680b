set_option maxHeartbeats 8000000 in
set_option maxRecDepth 100000 in
theorem law_loop {p : Program} {e : Env} {s : State} {m : MethodId} {below : List Frame} {meth : Method} {c : Code} (l : Launch) {b L : Nat} {xs : Nat → Int32} (C0 : lw_At p s m meth c b L xs) (hL : L ≤ 3584) {D : va_G} {cy : Nat → ClassId} (hK : kk_ D cy s) (hG : ArrOfT s (cy 6) (.array .int)) {xo mo : Nat} : ∀ (n : Nat) (i : Int32) (cells slots : Nat), (L : Int) - i.toInt < n → 0 ≤ i.toInt → i.toInt ≤ L → 7 * (cells : Int) ≤ 721 + 6 * i.toInt → 7 * (slots : Int) ≤ 54061 + 207 * i.toInt → lawQ p l e s m below meth c b D cy xo mo i 18 cells slots := by
  obtain ⟨hx, hb, hr, hml, hown, hts, hX, hbl, hlocks, hgv⟩ := id C0
  have hown : s.vm.findClass RL = some m.cls := hown
  have hA : ∀ q : Nat, s.heap.size ≤ q → (fun q : Nat => s.heap.size ≤ q) q := fun _ h => h
  have hbA : ¬ (fun q : Nat => s.heap.size ≤ q) b := Nat.not_le.mpr hbl
  have hLt : (Int32.ofNat L).toInt = (L : Int) := nI_toInt (n := L) (by omega)
  have z7 : (7 : Int32).toInt = 7 := by decide
  intro n
  induction n with
  | zero =>
    intro i cells slots hm hi0 hiL hcc hss
    exact absurd hm (by omega)
  | succ n ih =>
    intro i cells slots hm hi0 hiL hcc hss
    have cont : i.toInt + 7 ≤ L → lawQ p l e s m below meth c b D cy xo mo i 1333 (cells + 6) (slots + 207) := fun hi7 => law_next C0 (i2 := i + 7) (by exact addI (by omega) (by omega)) (ih (i + 7) _ _ (by rw [addI (by omega) (by omega)]; omega) (by rw [addI (by omega) (by omega)]; omega) (by rw [addI (by omega) (by omega)]; omega) (by rw [addI (by omega) (by omega)]; omega) (by rw [addI (by omega) (by omega)]; omega))
    refine law_head C0 hL hi0 hiL (by omega) (by omega) (fun hi7 j hj => ?_)
    have hj33 : j = 0 ∨ j = 1 ∨ j = 2 ∨ j = 3 ∨ j = 4 ∨ j = 5 ∨ j = 6 ∨ j = 7 ∨ j = 8 ∨ j = 9 ∨ j = 10 ∨ j = 11 ∨ j = 12 ∨ j = 13 ∨ j = 14 ∨ j = 15 ∨ j = 16 ∨ j = 17 ∨ j = 18 ∨ j = 19 ∨ j = 20 ∨ j = 21 ∨ j = 22 ∨ j = 23 ∨ j = 24 ∨ j = 25 ∨ j = 26 ∨ j = 27 ∨ j = 28 ∨ j = 29 ∨ j = 30 ∨ j = 31 ∨ j = 32 ∨ 33 ≤ j := by omega
    rcases hj33 with rfl | rfl | rfl | rfl | rfl | rfl | rfl | rfl | rfl | rfl | rfl | rfl | rfl | rfl | rfl | rfl | rfl | rfl | rfl | rfl | rfl | rfl | rfl | rfl | rfl | rfl | rfl | rfl | rfl | rfl | rfl | rfl | rfl | hj33
    · exact ⟨180, lw_c0, law_0 l C0 hK hG hi0 hi7 hL (by omega) (by omega) (cont hi7)⟩
    · exact ⟨193, lw_c1, law_1 l C0 hK hG hi0 hi7 hL (by omega) (by omega) (cont hi7)⟩
    · exact ⟨256, lw_c2, law_2 l C0 hK hG hi0 hi7 hL (by omega) (by omega) (cont hi7)⟩
    · exact ⟨289, lw_c3, law_3 l C0 hK hG hi0 hi7 hL (by omega) (by omega) (cont hi7)⟩
    · exact ⟨322, lw_c4, law_4 l C0 hK hG hi0 hi7 hL (by omega) (by omega) (cont hi7)⟩
    · exact ⟨355, lw_c5, law_5 l C0 hK hG hi0 hi7 hL (by omega) (by omega) (cont hi7)⟩
    · exact ⟨368, lw_c6, law_6 l C0 hK hG hi0 hi7 hL (by omega) (by omega) (cont hi7)⟩
    · exact ⟨401, lw_c7, law_7 l C0 hK hG hi0 hi7 hL (by omega) (by omega) (cont hi7)⟩
    · exact ⟨434, lw_c8, law_8 l C0 hK hG hi0 hi7 hL (by omega) (by omega) (cont hi7)⟩
    · exact ⟨467, lw_c9, law_9 l C0 hK hG hi0 hi7 hL (by omega) (by omega) (cont hi7)⟩
    · exact ⟨510, lw_c10, law_10 l C0 hK hG hi0 hi7 hL (by omega) (by omega) (cont hi7)⟩
    · exact ⟨553, lw_c11, law_11 l C0 hK hG hi0 hi7 hL (by omega) (by omega) (cont hi7)⟩
    · exact ⟨586, lw_c12, law_12 l C0 hK hG hi0 hi7 hL (by omega) (by omega) (cont hi7)⟩
    · exact ⟨629, lw_c13, law_13 l C0 hK hG hi0 hi7 hL (by omega) (by omega) (cont hi7)⟩
    · exact ⟨672, lw_c14, law_14 l C0 hK hG hi0 hi7 hL (by omega) (by omega) (cont hi7)⟩
    · exact ⟨715, lw_c15, law_15 l C0 hK hG hi0 hi7 hL (by omega) (by omega) (cont hi7)⟩
    · exact ⟨758, lw_c16, law_16 l C0 hK hG hi0 hi7 hL (by omega) (by omega) (cont hi7)⟩
    · exact ⟨791, lw_c17, law_17 l C0 hK hG hi0 hi7 hL (by omega) (by omega) (cont hi7)⟩
    · exact ⟨824, lw_c18, law_18 l C0 hK hG hi0 hi7 hL (by omega) (by omega) (cont hi7)⟩
    · exact ⟨837, lw_c19, law_19 l C0 hK hG hi0 hi7 hL (by omega) (by omega) (cont hi7)⟩
    · exact ⟨850, lw_c20, law_20 l C0 hK hG hi0 hi7 hL (by omega) (by omega) (cont hi7)⟩
    · exact ⟨873, lw_c21, law_21 l C0 hK hG hi0 hi7 hL (by omega) (by omega) (cont hi7)⟩
    · exact ⟨896, lw_c22, law_22 l C0 hK hG hi0 hi7 hL (by omega) (by omega) (cont hi7)⟩
    · exact ⟨929, lw_c23, law_23 l C0 hK hG hi0 hi7 hL (by omega) (by omega) (cont hi7)⟩
    · exact ⟨952, lw_c24, law_24 l C0 hK hG hi0 hi7 hL (by omega) (by omega) (cont hi7)⟩
    · exact ⟨995, lw_c25, law_25 l C0 hK hG hi0 hi7 hL (by omega) (by omega) (cont hi7)⟩
    · exact ⟨1038, lw_c26, law_26 l C0 hK hG hi0 hi7 hL (by omega) (by omega) (cont hi7)⟩
    · exact ⟨1133, lw_c27, law_27 l C0 hK hG hi0 hi7 hL (by omega) (by omega) (cont hi7)⟩
    · exact ⟨1208, lw_c28, law_28 l C0 hK hG hi0 hi7 hL (by omega) (by omega) (cont hi7)⟩
    · exact ⟨1261, lw_c29, law_29 l C0 hK hG hi0 hi7 hL (by omega) (by omega) (cont hi7)⟩
    · exact ⟨1284, lw_c30, law_30 l C0 hK hG hi0 hi7 hL (by omega) (by omega) (cont hi7)⟩
    · exact ⟨1307, lw_c31, law_31 l C0 hK hG hi0 hi7 hL (by omega) (by omega) (cont hi7)⟩
    · exact ⟨1320, lw_c32, law_32 l C0 hK hG hi0 hi7 hL (by omega) (by omega) (cont hi7)⟩
    · exact ⟨1333, lw_cx hj33 hj, law_up (cont hi7)⟩
