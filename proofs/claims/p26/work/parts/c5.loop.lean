set_option maxHeartbeats 8000000 in
set_option maxRecDepth 100000 in
theorem law_loop {p : Program} {e : Env} {s : State} {m : MethodId} {below : List Frame} {meth : Method} {c : Code} (l : Launch) {b L : Nat} {xs : Nat → Int32} (C0 : lw_At p s m meth c b L xs) (hL : L ≤ 3584) {D : va_G} {cy : Nat → ClassId} (hK : kk_ D cy s) (hG : ArrOfT s (cy 6) (.array .int)) {xo mo : Nat} : ∀ (n : Nat) (i : Int32) (cells slots : Nat) (H : Heap) (locs : List Loc) (ls : Array Slot), (L : Int) - i.toInt < n → 0 ≤ i.toInt → i.toInt ≤ L → 7 * (cells : Int) ≤ 721 + 6 * i.toInt → 7 * (slots : Int) ≤ 54061 + 207 * i.toInt → lawI D cy (fun q : Nat => s.heap.size ≤ q) xo mo H → va_S (fun q : Nat => s.heap.size ≤ q) s.heap H locs → lv_has ls 4 [(3, .int i), (2, .ref mo), (1, .ref xo), (0, .ref b)] → W p l e room_1 s m #[Value.ref b] below meth c H locs cells slots (lw_Z below #[Value.ref b] s) (F0 m 18 ls []) := by
  obtain ⟨hx, hb, hr, hml, hown, hts, hX, hbl, hlocks, hgv⟩ := id C0
  have hown : s.vm.findClass RL = some m.cls := hown
  have hA : ∀ q : Nat, s.heap.size ≤ q → (fun q : Nat => s.heap.size ≤ q) q := fun _ h => h
  have hbA : ¬ (fun q : Nat => s.heap.size ≤ q) b := Nat.not_le.mpr hbl
  have hLt : (Int32.ofNat L).toInt = (L : Int) := nI_toInt (n := L) (by omega)
  have z7 : (7 : Int32).toInt = 7 := by decide
  intro n
  induction n with
  | zero =>
    intro i cells slots H locs ls hm hi0 hiL hcc hss hI hS hl
    exact absurd hm (by omega)
  | succ n ih =>
    intro i cells slots H locs ls hm hi0 hiL hcc hss hI hS hl
    refine lv_iload_n hx hb dL_law_18 rfl (lv_at hl 0 rfl) ?_
    refine lv_aload_n hx hb dL_law_19 rfl (lv_at hl 3 rfl) ?_
    refine va_slen hx hb hX hbl hbA hS dL_law_20 ?_
    refine lv_bipush (v := 7) hx hb dL_law_21 (by decide) ?_
    refine lv_isub hx hb dL_law_23 ?_
    refine lv_topi (fun y ey => ?_)
    have ty : y.toInt = (Int32.ofNat L).toInt - (7 : Int32).toInt := by rw [ey]; exact subI (by omega) (by omega)
    refine lv_icmp_gt (tgt := 1339) hx hb dL_law_24 (by decide) (fun k => ?_) (fun k => ?_)
    · refine lv_iconst (v := 1) hx hb dL_law_1339 (by decide) ?_
      refine va_forget (fun q hq => hS.2.2 q hq) ?_
      refine W.widen (k := 600000) (n := 7302250) (by omega) (by omega) ?_
      exact lw_ret hx hb hr hlocks dL_law_1340
    · have tk : ¬ y.toInt < i.toInt := fun h => k (Int32.lt_iff_toInt_lt.mpr h)
      have hi7 : i.toInt + 7 ≤ L := by omega
      have cont : ∀ (H : Heap) (locs : List Loc) (ls : Array Slot), lawI D cy (fun q : Nat => s.heap.size ≤ q) xo mo H → va_S (fun q : Nat => s.heap.size ≤ q) s.heap H locs → lv_has ls 4 [(3, .int i), (2, .ref mo), (1, .ref xo), (0, .ref b)] → W p l e room_1 s m #[Value.ref b] below meth c H locs (cells + 6) (slots + 207) (lw_Z below #[Value.ref b] s) (F0 m 1333 ls []) := fun H locs ls hI hS hl => by
        obtain ⟨i2, ei2⟩ : ∃ y : Int32, y = i + 7 := ⟨_, rfl⟩
        have ti2 : i2.toInt = i.toInt + (7 : Int32).toInt := by rw [ei2]; exact addI (by omega) (by omega)
        refine lv_iinc (v := i2) (lv' := [(3, .int i2), (2, .ref mo), (1, .ref xo), (0, .ref b)]) hx hb dL_law_1333 hl (k := 0) rfl (by rw [ei2]; rfl) (by decide) rfl (fun ls hl => ?_)
        refine lv_goto (tgt := 18) hx hb dL_law_1336 (by decide) ?_
        exact ih i2 _ _ H locs ls (by omega) (by omega) (by omega) (by omega) (by omega) hI hS hl
      refine lv_aload_n hx hb dL_law_27 rfl (lv_at hl 3 rfl) ?_
      refine lv_iload_n hx hb dL_law_28 rfl (lv_at hl 0 rfl) ?_
      refine va_sld hx hb hX hbl hbA hS (i := i) (in_I (by omega) (by omega)) dL_law_29 ?_
      refine lv_bipush (v := 63) hx hb dL_law_30 (by decide) ?_
      refine lv_iand hx hb dL_law_32 ?_
      obtain ⟨j, hj, ej⟩ := pk_andE (xs i.toNatClampNeg) (m := 63) 6 rfl
      refine lv_topv (v' := .int (nI j)) (congrArg Value.int ej) ?_
      have hj33 : j = 0 ∨ j = 1 ∨ j = 2 ∨ j = 3 ∨ j = 4 ∨ j = 5 ∨ j = 6 ∨ j = 7 ∨ j = 8 ∨ j = 9 ∨ j = 10 ∨ j = 11 ∨ j = 12 ∨ j = 13 ∨ j = 14 ∨ j = 15 ∨ j = 16 ∨ j = 17 ∨ j = 18 ∨ j = 19 ∨ j = 20 ∨ j = 21 ∨ j = 22 ∨ j = 23 ∨ j = 24 ∨ j = 25 ∨ j = 26 ∨ j = 27 ∨ j = 28 ∨ j = 29 ∨ j = 30 ∨ j = 31 ∨ j = 32 ∨ 33 ≤ j := by omega
      rcases hj33 with rfl | rfl | rfl | rfl | rfl | rfl | rfl | rfl | rfl | rfl | rfl | rfl | rfl | rfl | rfl | rfl | rfl | rfl | rfl | rfl | rfl | rfl | rfl | rfl | rfl | rfl | rfl | rfl | rfl | rfl | rfl | rfl | rfl | hj33
      · refine lv_tableIn (off := 147) (tgt := 180) hx hb dL_law_33 (by decide) (by decide) (by decide) (by decide) ?_
        exact law_0 l C0 hK hG hi0 hi7 hL (by omega) (by omega) cont hI hS hl
      · refine lv_tableIn (off := 160) (tgt := 193) hx hb dL_law_33 (by decide) (by decide) (by decide) (by decide) ?_
        exact law_1 l C0 hK hG hi0 hi7 hL (by omega) (by omega) cont hI hS hl
      · refine lv_tableIn (off := 223) (tgt := 256) hx hb dL_law_33 (by decide) (by decide) (by decide) (by decide) ?_
        exact law_2 l C0 hK hG hi0 hi7 hL (by omega) (by omega) cont hI hS hl
      · refine lv_tableIn (off := 256) (tgt := 289) hx hb dL_law_33 (by decide) (by decide) (by decide) (by decide) ?_
        exact law_3 l C0 hK hG hi0 hi7 hL (by omega) (by omega) cont hI hS hl
      · refine lv_tableIn (off := 289) (tgt := 322) hx hb dL_law_33 (by decide) (by decide) (by decide) (by decide) ?_
        exact law_4 l C0 hK hG hi0 hi7 hL (by omega) (by omega) cont hI hS hl
      · refine lv_tableIn (off := 322) (tgt := 355) hx hb dL_law_33 (by decide) (by decide) (by decide) (by decide) ?_
        exact law_5 l C0 hK hG hi0 hi7 hL (by omega) (by omega) cont hI hS hl
      · refine lv_tableIn (off := 335) (tgt := 368) hx hb dL_law_33 (by decide) (by decide) (by decide) (by decide) ?_
        exact law_6 l C0 hK hG hi0 hi7 hL (by omega) (by omega) cont hI hS hl
      · refine lv_tableIn (off := 368) (tgt := 401) hx hb dL_law_33 (by decide) (by decide) (by decide) (by decide) ?_
        exact law_7 l C0 hK hG hi0 hi7 hL (by omega) (by omega) cont hI hS hl
      · refine lv_tableIn (off := 401) (tgt := 434) hx hb dL_law_33 (by decide) (by decide) (by decide) (by decide) ?_
        exact law_8 l C0 hK hG hi0 hi7 hL (by omega) (by omega) cont hI hS hl
      · refine lv_tableIn (off := 434) (tgt := 467) hx hb dL_law_33 (by decide) (by decide) (by decide) (by decide) ?_
        exact law_9 l C0 hK hG hi0 hi7 hL (by omega) (by omega) cont hI hS hl
      · refine lv_tableIn (off := 477) (tgt := 510) hx hb dL_law_33 (by decide) (by decide) (by decide) (by decide) ?_
        exact law_10 l C0 hK hG hi0 hi7 hL (by omega) (by omega) cont hI hS hl
      · refine lv_tableIn (off := 520) (tgt := 553) hx hb dL_law_33 (by decide) (by decide) (by decide) (by decide) ?_
        exact law_11 l C0 hK hG hi0 hi7 hL (by omega) (by omega) cont hI hS hl
      · refine lv_tableIn (off := 553) (tgt := 586) hx hb dL_law_33 (by decide) (by decide) (by decide) (by decide) ?_
        exact law_12 l C0 hK hG hi0 hi7 hL (by omega) (by omega) cont hI hS hl
      · refine lv_tableIn (off := 596) (tgt := 629) hx hb dL_law_33 (by decide) (by decide) (by decide) (by decide) ?_
        exact law_13 l C0 hK hG hi0 hi7 hL (by omega) (by omega) cont hI hS hl
      · refine lv_tableIn (off := 639) (tgt := 672) hx hb dL_law_33 (by decide) (by decide) (by decide) (by decide) ?_
        exact law_14 l C0 hK hG hi0 hi7 hL (by omega) (by omega) cont hI hS hl
      · refine lv_tableIn (off := 682) (tgt := 715) hx hb dL_law_33 (by decide) (by decide) (by decide) (by decide) ?_
        exact law_15 l C0 hK hG hi0 hi7 hL (by omega) (by omega) cont hI hS hl
      · refine lv_tableIn (off := 725) (tgt := 758) hx hb dL_law_33 (by decide) (by decide) (by decide) (by decide) ?_
        exact law_16 l C0 hK hG hi0 hi7 hL (by omega) (by omega) cont hI hS hl
      · refine lv_tableIn (off := 758) (tgt := 791) hx hb dL_law_33 (by decide) (by decide) (by decide) (by decide) ?_
        exact law_17 l C0 hK hG hi0 hi7 hL (by omega) (by omega) cont hI hS hl
      · refine lv_tableIn (off := 791) (tgt := 824) hx hb dL_law_33 (by decide) (by decide) (by decide) (by decide) ?_
        exact law_18 l C0 hK hG hi0 hi7 hL (by omega) (by omega) cont hI hS hl
      · refine lv_tableIn (off := 804) (tgt := 837) hx hb dL_law_33 (by decide) (by decide) (by decide) (by decide) ?_
        exact law_19 l C0 hK hG hi0 hi7 hL (by omega) (by omega) cont hI hS hl
      · refine lv_tableIn (off := 817) (tgt := 850) hx hb dL_law_33 (by decide) (by decide) (by decide) (by decide) ?_
        exact law_20 l C0 hK hG hi0 hi7 hL (by omega) (by omega) cont hI hS hl
      · refine lv_tableIn (off := 840) (tgt := 873) hx hb dL_law_33 (by decide) (by decide) (by decide) (by decide) ?_
        exact law_21 l C0 hK hG hi0 hi7 hL (by omega) (by omega) cont hI hS hl
      · refine lv_tableIn (off := 863) (tgt := 896) hx hb dL_law_33 (by decide) (by decide) (by decide) (by decide) ?_
        exact law_22 l C0 hK hG hi0 hi7 hL (by omega) (by omega) cont hI hS hl
      · refine lv_tableIn (off := 896) (tgt := 929) hx hb dL_law_33 (by decide) (by decide) (by decide) (by decide) ?_
        exact law_23 l C0 hK hG hi0 hi7 hL (by omega) (by omega) cont hI hS hl
      · refine lv_tableIn (off := 919) (tgt := 952) hx hb dL_law_33 (by decide) (by decide) (by decide) (by decide) ?_
        exact law_24 l C0 hK hG hi0 hi7 hL (by omega) (by omega) cont hI hS hl
      · refine lv_tableIn (off := 962) (tgt := 995) hx hb dL_law_33 (by decide) (by decide) (by decide) (by decide) ?_
        exact law_25 l C0 hK hG hi0 hi7 hL (by omega) (by omega) cont hI hS hl
      · refine lv_tableIn (off := 1005) (tgt := 1038) hx hb dL_law_33 (by decide) (by decide) (by decide) (by decide) ?_
        exact law_26 l C0 hK hG hi0 hi7 hL (by omega) (by omega) cont hI hS hl
      · refine lv_tableIn (off := 1100) (tgt := 1133) hx hb dL_law_33 (by decide) (by decide) (by decide) (by decide) ?_
        exact law_27 l C0 hK hG hi0 hi7 hL (by omega) (by omega) cont hI hS hl
      · refine lv_tableIn (off := 1175) (tgt := 1208) hx hb dL_law_33 (by decide) (by decide) (by decide) (by decide) ?_
        exact law_28 l C0 hK hG hi0 hi7 hL (by omega) (by omega) cont hI hS hl
      · refine lv_tableIn (off := 1228) (tgt := 1261) hx hb dL_law_33 (by decide) (by decide) (by decide) (by decide) ?_
        exact law_29 l C0 hK hG hi0 hi7 hL (by omega) (by omega) cont hI hS hl
      · refine lv_tableIn (off := 1251) (tgt := 1284) hx hb dL_law_33 (by decide) (by decide) (by decide) (by decide) ?_
        exact law_30 l C0 hK hG hi0 hi7 hL (by omega) (by omega) cont hI hS hl
      · refine lv_tableIn (off := 1274) (tgt := 1307) hx hb dL_law_33 (by decide) (by decide) (by decide) (by decide) ?_
        exact law_31 l C0 hK hG hi0 hi7 hL (by omega) (by omega) cont hI hS hl
      · refine lv_tableIn (off := 1287) (tgt := 1320) hx hb dL_law_33 (by decide) (by decide) (by decide) (by decide) ?_
        exact law_32 l C0 hK hG hi0 hi7 hL (by omega) (by omega) cont hI hS hl
      · refine lv_tableOut (tgt := 1333) hx hb dL_law_33 (Or.inr (by rw [nI_toInt (by omega)]; omega)) (by decide) ?_
        refine W.widen (k := cells + 6) (n := slots + 207) (by omega) (by omega) ?_
        exact cont H locs ls hI hS hl
