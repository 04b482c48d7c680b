/-! ===== an instruction by its bytes ===== -/
noncomputable def dk_At (c : ByteArray) (p b : Nat) : Prop := ∃ x : UInt8, c.data.toList[p]? = some x ∧ x.toNat = b
/-- the bytes of a row begin with these -/
noncomputable def dk_bw : List UInt8 → List Nat → Bool
  | _, [] => true
  | [], _ :: _ => false
  | x :: l, n :: w => x.toNat == n && dk_bw l w
theorem dk_get : ∀ (w : List Nat) (l : List UInt8) (j b : Nat), dk_bw l w = true → w[j]? = some b → ∃ x : UInt8, l[j]? = some x ∧ x.toNat = b := by
  intro w
  induction w with
  | nil =>
    intro l j b _ h
    exact absurd h (by simp)
  | cons n w ih =>
    intro l j b h hj
    cases l with
    | nil => exact absurd h (by simp [dk_bw])
    | cons x l =>
      have h' : (x.toNat == n) = true ∧ dk_bw l w = true := by
        have h2 : (x.toNat == n && dk_bw l w) = true := h
        exact Bool.and_eq_true_iff.mp h2
      cases j with
      | zero =>
        have e : n = b := Option.some.inj hj
        exact ⟨x, rfl, (eq_of_beq h'.1).trans e⟩
      | succ j => exact ih l j b h'.2 hj
theorem dk_at {c : ByteArray} {o : Nat} {w : List Nat} (h : dk_bw (c.data.toList.drop o) w = true) (j b : Nat) (hj : w[j]? = some b) : dk_At c (o + j) b := by
  obtain ⟨x, hx, hb⟩ := dk_get w _ j b h hj
  rw [List.getElem?_drop] at hx
  exact ⟨x, hx, hb⟩
theorem dk_bind {α β : Type} {r : Decoder α} {k : α → Decoder β} {c : ByteArray} {p n : Nat} {a : α} {R : Except DecodeError (β × Nat)} (h : Reader.runAt r c p = .ok (a, n)) (hk : Reader.runAt (k a) c n = R) : Reader.runAt (r >>= k) c p = R := by
  have e : Reader.runAt (r >>= k) c p = Except.bind (Reader.runAt r c p) (fun q => Reader.runAt (k q.1) c q.2) := rfl
  rw [e, h]
  exact hk
theorem dk_u1 {c : ByteArray} {p b : Nat} (h : dk_At c p b) : Reader.runAt (Reader.u1 : Decoder Nat) c p = .ok (b, p + 1) := by
  obtain ⟨x, hx, hb⟩ := h
  obtain ⟨hl, e⟩ := List.getElem?_eq_some_iff.mp hx
  have hs : p < c.size := hl
  have he : (c[p]'hs).toNat = b := by
    rw [← hb, ← e]
    rfl
  subst he
  have e1 : (dite (p < c.size) (fun h => (do set (p + 1); pure (c[p]'h).toNat : Decoder Nat)) (fun _ => throw (HasTruncated.truncated p))) = (do set (p + 1); pure (c[p]'hs).toNat : Decoder Nat) := dif_pos hs
  exact congrArg (fun r : Decoder Nat => Reader.runAt r c p) e1
theorem dk_u2 {c : ByteArray} {p x y : Nat} (h1 : dk_At c p x) (h2 : dk_At c (p + 1) y) : Reader.runAt (Reader.u2 : Decoder Nat) c p = .ok (x * 256 + y, p + 2) := dk_bind (dk_u1 h1) (dk_bind (dk_u1 h2) rfl)
theorem dk_s1 {c : ByteArray} {p x : Nat} (h1 : dk_At c p x) : Reader.runAt (Reader.s1 : Decoder Int) c p = .ok (Reader.signed 8 x, p + 1) := by
  have e : Reader.runAt (Reader.s1 : Decoder Int) c p = Except.bind (Reader.runAt (Reader.u1 : Decoder Nat) c p) (fun q => .ok (Reader.signed 8 q.1, q.2)) := rfl
  rw [e, dk_u1 h1]
  rfl
theorem dk_s2 {c : ByteArray} {p x y : Nat} (h1 : dk_At c p x) (h2 : dk_At c (p + 1) y) : Reader.runAt (Reader.s2 : Decoder Int) c p = .ok (Reader.signed 16 (x * 256 + y), p + 2) := by
  have e : Reader.runAt (Reader.s2 : Decoder Int) c p = Except.bind (Reader.runAt (Reader.u2 : Decoder Nat) c p) (fun q => .ok (Reader.signed 16 q.1, q.2)) := rfl
  rw [e, dk_u2 h1 h2]
  rfl
theorem dk_fin {c : ByteArray} {p m : Nat} {i : Instr} (h : Reader.runAt (Decoder.instr p) c p = .ok (i, p + m)) : decode c p = .ok (i, m) := by
  have e : decode c p = Except.bind (Reader.runAt (Decoder.instr p) c p) (fun q => .ok (q.1, q.2 - p)) := rfl
  rw [e, h]
  show Except.ok (i, p + m - p) = Except.ok (i, m)
  rw [Nat.add_sub_cancel_left]
theorem dk_2 {c : ByteArray} {p : Nat} (h0 : dk_At c p 2) : decode c p = .ok (.iconst (-1), 1) := dk_fin (dk_bind (dk_u1 h0) rfl)
theorem dk_3 {c : ByteArray} {p : Nat} (h0 : dk_At c p 3) : decode c p = .ok (.iconst 0, 1) := dk_fin (dk_bind (dk_u1 h0) rfl)
theorem dk_4 {c : ByteArray} {p : Nat} (h0 : dk_At c p 4) : decode c p = .ok (.iconst 1, 1) := dk_fin (dk_bind (dk_u1 h0) rfl)
theorem dk_5 {c : ByteArray} {p : Nat} (h0 : dk_At c p 5) : decode c p = .ok (.iconst 2, 1) := dk_fin (dk_bind (dk_u1 h0) rfl)
theorem dk_6 {c : ByteArray} {p : Nat} (h0 : dk_At c p 6) : decode c p = .ok (.iconst 3, 1) := dk_fin (dk_bind (dk_u1 h0) rfl)
theorem dk_7 {c : ByteArray} {p : Nat} (h0 : dk_At c p 7) : decode c p = .ok (.iconst 4, 1) := dk_fin (dk_bind (dk_u1 h0) rfl)
theorem dk_8 {c : ByteArray} {p : Nat} (h0 : dk_At c p 8) : decode c p = .ok (.iconst 5, 1) := dk_fin (dk_bind (dk_u1 h0) rfl)
theorem dk_9 {c : ByteArray} {p : Nat} (h0 : dk_At c p 9) : decode c p = .ok (.lconst 0, 1) := dk_fin (dk_bind (dk_u1 h0) rfl)
theorem dk_10 {c : ByteArray} {p : Nat} (h0 : dk_At c p 10) : decode c p = .ok (.lconst 1, 1) := dk_fin (dk_bind (dk_u1 h0) rfl)
theorem dk_16 {c : ByteArray} {p x : Nat} {v : Int} (h0 : dk_At c p 16) (h1 : dk_At c (p + 1) x) (hn : Reader.signed 8 x = v) : decode c p = .ok (.bipush v, 2) := by
  subst hn
  exact dk_fin (dk_bind (dk_u1 h0) (dk_bind (r := Reader.s1) (k := fun x => pure (Instr.bipush x)) (dk_s1 h1) rfl))
theorem dk_17 {c : ByteArray} {p x y : Nat} {v : Int} (h0 : dk_At c p 17) (h1 : dk_At c (p + 1) x) (h2 : dk_At c (p + 2) y) (hn : Reader.signed 16 (x * 256 + y) = v) : decode c p = .ok (.sipush v, 3) := by
  subst hn
  exact dk_fin (dk_bind (dk_u1 h0) (dk_bind (r := Reader.s2) (k := fun x => pure (Instr.sipush x)) (dk_s2 h1 h2) rfl))
theorem dk_18 {c : ByteArray} {p x : Nat} (h0 : dk_At c p 18) (h1 : dk_At c (p + 1) x) : decode c p = .ok (.ldc x, 2) := dk_fin (dk_bind (dk_u1 h0) (dk_bind (r := Reader.u1) (k := fun x => pure (Instr.ldc x)) (dk_u1 h1) rfl))
theorem dk_19 {c : ByteArray} {p x y n : Nat} (h0 : dk_At c p 19) (h1 : dk_At c (p + 1) x) (h2 : dk_At c (p + 2) y) (hn : x * 256 + y = n) : decode c p = .ok (.ldc_w n, 3) := by
  subst hn
  exact dk_fin (dk_bind (dk_u1 h0) (dk_bind (r := Reader.u2) (k := fun x => pure (Instr.ldc_w x)) (dk_u2 h1 h2) rfl))
theorem dk_20 {c : ByteArray} {p x y n : Nat} (h0 : dk_At c p 20) (h1 : dk_At c (p + 1) x) (h2 : dk_At c (p + 2) y) (hn : x * 256 + y = n) : decode c p = .ok (.ldc2_w n, 3) := by
  subst hn
  exact dk_fin (dk_bind (dk_u1 h0) (dk_bind (r := Reader.u2) (k := fun x => pure (Instr.ldc2_w x)) (dk_u2 h1 h2) rfl))
theorem dk_21 {c : ByteArray} {p x : Nat} (h0 : dk_At c p 21) (h1 : dk_At c (p + 1) x) : decode c p = .ok (.iload x, 2) := dk_fin (dk_bind (dk_u1 h0) (dk_bind (r := Reader.u1) (k := fun x => pure (Instr.iload x)) (dk_u1 h1) rfl))
theorem dk_22 {c : ByteArray} {p x : Nat} (h0 : dk_At c p 22) (h1 : dk_At c (p + 1) x) : decode c p = .ok (.lload x, 2) := dk_fin (dk_bind (dk_u1 h0) (dk_bind (r := Reader.u1) (k := fun x => pure (Instr.lload x)) (dk_u1 h1) rfl))
theorem dk_25 {c : ByteArray} {p x : Nat} (h0 : dk_At c p 25) (h1 : dk_At c (p + 1) x) : decode c p = .ok (.aload x, 2) := dk_fin (dk_bind (dk_u1 h0) (dk_bind (r := Reader.u1) (k := fun x => pure (Instr.aload x)) (dk_u1 h1) rfl))
theorem dk_26 {c : ByteArray} {p : Nat} (h0 : dk_At c p 26) : decode c p = .ok (.iload_n 0, 1) := dk_fin (dk_bind (dk_u1 h0) rfl)
theorem dk_27 {c : ByteArray} {p : Nat} (h0 : dk_At c p 27) : decode c p = .ok (.iload_n 1, 1) := dk_fin (dk_bind (dk_u1 h0) rfl)
theorem dk_28 {c : ByteArray} {p : Nat} (h0 : dk_At c p 28) : decode c p = .ok (.iload_n 2, 1) := dk_fin (dk_bind (dk_u1 h0) rfl)
theorem dk_29 {c : ByteArray} {p : Nat} (h0 : dk_At c p 29) : decode c p = .ok (.iload_n 3, 1) := dk_fin (dk_bind (dk_u1 h0) rfl)
theorem dk_30 {c : ByteArray} {p : Nat} (h0 : dk_At c p 30) : decode c p = .ok (.lload_n 0, 1) := dk_fin (dk_bind (dk_u1 h0) rfl)
theorem dk_31 {c : ByteArray} {p : Nat} (h0 : dk_At c p 31) : decode c p = .ok (.lload_n 1, 1) := dk_fin (dk_bind (dk_u1 h0) rfl)
theorem dk_32 {c : ByteArray} {p : Nat} (h0 : dk_At c p 32) : decode c p = .ok (.lload_n 2, 1) := dk_fin (dk_bind (dk_u1 h0) rfl)
theorem dk_33 {c : ByteArray} {p : Nat} (h0 : dk_At c p 33) : decode c p = .ok (.lload_n 3, 1) := dk_fin (dk_bind (dk_u1 h0) rfl)
theorem dk_42 {c : ByteArray} {p : Nat} (h0 : dk_At c p 42) : decode c p = .ok (.aload_n 0, 1) := dk_fin (dk_bind (dk_u1 h0) rfl)
theorem dk_43 {c : ByteArray} {p : Nat} (h0 : dk_At c p 43) : decode c p = .ok (.aload_n 1, 1) := dk_fin (dk_bind (dk_u1 h0) rfl)
theorem dk_44 {c : ByteArray} {p : Nat} (h0 : dk_At c p 44) : decode c p = .ok (.aload_n 2, 1) := dk_fin (dk_bind (dk_u1 h0) rfl)
theorem dk_45 {c : ByteArray} {p : Nat} (h0 : dk_At c p 45) : decode c p = .ok (.aload_n 3, 1) := dk_fin (dk_bind (dk_u1 h0) rfl)
theorem dk_46 {c : ByteArray} {p : Nat} (h0 : dk_At c p 46) : decode c p = .ok (.iaload, 1) := dk_fin (dk_bind (dk_u1 h0) rfl)
theorem dk_47 {c : ByteArray} {p : Nat} (h0 : dk_At c p 47) : decode c p = .ok (.laload, 1) := dk_fin (dk_bind (dk_u1 h0) rfl)
theorem dk_50 {c : ByteArray} {p : Nat} (h0 : dk_At c p 50) : decode c p = .ok (.aaload, 1) := dk_fin (dk_bind (dk_u1 h0) rfl)
theorem dk_51 {c : ByteArray} {p : Nat} (h0 : dk_At c p 51) : decode c p = .ok (.baload, 1) := dk_fin (dk_bind (dk_u1 h0) rfl)
theorem dk_54 {c : ByteArray} {p x : Nat} (h0 : dk_At c p 54) (h1 : dk_At c (p + 1) x) : decode c p = .ok (.istore x, 2) := dk_fin (dk_bind (dk_u1 h0) (dk_bind (r := Reader.u1) (k := fun x => pure (Instr.istore x)) (dk_u1 h1) rfl))
theorem dk_55 {c : ByteArray} {p x : Nat} (h0 : dk_At c p 55) (h1 : dk_At c (p + 1) x) : decode c p = .ok (.lstore x, 2) := dk_fin (dk_bind (dk_u1 h0) (dk_bind (r := Reader.u1) (k := fun x => pure (Instr.lstore x)) (dk_u1 h1) rfl))
theorem dk_58 {c : ByteArray} {p x : Nat} (h0 : dk_At c p 58) (h1 : dk_At c (p + 1) x) : decode c p = .ok (.astore x, 2) := dk_fin (dk_bind (dk_u1 h0) (dk_bind (r := Reader.u1) (k := fun x => pure (Instr.astore x)) (dk_u1 h1) rfl))
theorem dk_59 {c : ByteArray} {p : Nat} (h0 : dk_At c p 59) : decode c p = .ok (.istore_n 0, 1) := dk_fin (dk_bind (dk_u1 h0) rfl)
theorem dk_60 {c : ByteArray} {p : Nat} (h0 : dk_At c p 60) : decode c p = .ok (.istore_n 1, 1) := dk_fin (dk_bind (dk_u1 h0) rfl)
theorem dk_61 {c : ByteArray} {p : Nat} (h0 : dk_At c p 61) : decode c p = .ok (.istore_n 2, 1) := dk_fin (dk_bind (dk_u1 h0) rfl)
theorem dk_62 {c : ByteArray} {p : Nat} (h0 : dk_At c p 62) : decode c p = .ok (.istore_n 3, 1) := dk_fin (dk_bind (dk_u1 h0) rfl)
theorem dk_76 {c : ByteArray} {p : Nat} (h0 : dk_At c p 76) : decode c p = .ok (.astore_n 1, 1) := dk_fin (dk_bind (dk_u1 h0) rfl)
theorem dk_77 {c : ByteArray} {p : Nat} (h0 : dk_At c p 77) : decode c p = .ok (.astore_n 2, 1) := dk_fin (dk_bind (dk_u1 h0) rfl)
theorem dk_78 {c : ByteArray} {p : Nat} (h0 : dk_At c p 78) : decode c p = .ok (.astore_n 3, 1) := dk_fin (dk_bind (dk_u1 h0) rfl)
theorem dk_79 {c : ByteArray} {p : Nat} (h0 : dk_At c p 79) : decode c p = .ok (.iastore, 1) := dk_fin (dk_bind (dk_u1 h0) rfl)
theorem dk_80 {c : ByteArray} {p : Nat} (h0 : dk_At c p 80) : decode c p = .ok (.lastore, 1) := dk_fin (dk_bind (dk_u1 h0) rfl)
theorem dk_83 {c : ByteArray} {p : Nat} (h0 : dk_At c p 83) : decode c p = .ok (.aastore, 1) := dk_fin (dk_bind (dk_u1 h0) rfl)
theorem dk_84 {c : ByteArray} {p : Nat} (h0 : dk_At c p 84) : decode c p = .ok (.bastore, 1) := dk_fin (dk_bind (dk_u1 h0) rfl)
theorem dk_87 {c : ByteArray} {p : Nat} (h0 : dk_At c p 87) : decode c p = .ok (.pop, 1) := dk_fin (dk_bind (dk_u1 h0) rfl)
theorem dk_88 {c : ByteArray} {p : Nat} (h0 : dk_At c p 88) : decode c p = .ok (.pop2, 1) := dk_fin (dk_bind (dk_u1 h0) rfl)
theorem dk_89 {c : ByteArray} {p : Nat} (h0 : dk_At c p 89) : decode c p = .ok (.dup, 1) := dk_fin (dk_bind (dk_u1 h0) rfl)
theorem dk_92 {c : ByteArray} {p : Nat} (h0 : dk_At c p 92) : decode c p = .ok (.dup2, 1) := dk_fin (dk_bind (dk_u1 h0) rfl)
theorem dk_96 {c : ByteArray} {p : Nat} (h0 : dk_At c p 96) : decode c p = .ok (.iadd, 1) := dk_fin (dk_bind (dk_u1 h0) rfl)
theorem dk_97 {c : ByteArray} {p : Nat} (h0 : dk_At c p 97) : decode c p = .ok (.ladd, 1) := dk_fin (dk_bind (dk_u1 h0) rfl)
theorem dk_100 {c : ByteArray} {p : Nat} (h0 : dk_At c p 100) : decode c p = .ok (.isub, 1) := dk_fin (dk_bind (dk_u1 h0) rfl)
theorem dk_101 {c : ByteArray} {p : Nat} (h0 : dk_At c p 101) : decode c p = .ok (.lsub, 1) := dk_fin (dk_bind (dk_u1 h0) rfl)
theorem dk_104 {c : ByteArray} {p : Nat} (h0 : dk_At c p 104) : decode c p = .ok (.imul, 1) := dk_fin (dk_bind (dk_u1 h0) rfl)
theorem dk_105 {c : ByteArray} {p : Nat} (h0 : dk_At c p 105) : decode c p = .ok (.lmul, 1) := dk_fin (dk_bind (dk_u1 h0) rfl)
theorem dk_112 {c : ByteArray} {p : Nat} (h0 : dk_At c p 112) : decode c p = .ok (.irem, 1) := dk_fin (dk_bind (dk_u1 h0) rfl)
theorem dk_116 {c : ByteArray} {p : Nat} (h0 : dk_At c p 116) : decode c p = .ok (.ineg, 1) := dk_fin (dk_bind (dk_u1 h0) rfl)
theorem dk_120 {c : ByteArray} {p : Nat} (h0 : dk_At c p 120) : decode c p = .ok (.ishl, 1) := dk_fin (dk_bind (dk_u1 h0) rfl)
theorem dk_121 {c : ByteArray} {p : Nat} (h0 : dk_At c p 121) : decode c p = .ok (.lshl, 1) := dk_fin (dk_bind (dk_u1 h0) rfl)
theorem dk_122 {c : ByteArray} {p : Nat} (h0 : dk_At c p 122) : decode c p = .ok (.ishr, 1) := dk_fin (dk_bind (dk_u1 h0) rfl)
theorem dk_124 {c : ByteArray} {p : Nat} (h0 : dk_At c p 124) : decode c p = .ok (.iushr, 1) := dk_fin (dk_bind (dk_u1 h0) rfl)
theorem dk_126 {c : ByteArray} {p : Nat} (h0 : dk_At c p 126) : decode c p = .ok (.iand, 1) := dk_fin (dk_bind (dk_u1 h0) rfl)
theorem dk_127 {c : ByteArray} {p : Nat} (h0 : dk_At c p 127) : decode c p = .ok (.land, 1) := dk_fin (dk_bind (dk_u1 h0) rfl)
theorem dk_128 {c : ByteArray} {p : Nat} (h0 : dk_At c p 128) : decode c p = .ok (.ior, 1) := dk_fin (dk_bind (dk_u1 h0) rfl)
theorem dk_129 {c : ByteArray} {p : Nat} (h0 : dk_At c p 129) : decode c p = .ok (.lor, 1) := dk_fin (dk_bind (dk_u1 h0) rfl)
theorem dk_130 {c : ByteArray} {p : Nat} (h0 : dk_At c p 130) : decode c p = .ok (.ixor, 1) := dk_fin (dk_bind (dk_u1 h0) rfl)
theorem dk_132 {c : ByteArray} {p x y : Nat} {v : Int} (h0 : dk_At c p 132) (h1 : dk_At c (p + 1) x) (h2 : dk_At c (p + 2) y) (hn : Reader.signed 8 y = v) : decode c p = .ok (.iinc x v, 3) := by
  subst hn
  exact dk_fin (dk_bind (dk_u1 h0) (dk_bind (r := Reader.u1) (k := fun a => Reader.s1 >>= fun b => pure (Instr.iinc a b)) (dk_u1 h1) (dk_bind (r := Reader.s1) (k := fun b => pure (Instr.iinc x b)) (dk_s1 h2) rfl)))
theorem dk_133 {c : ByteArray} {p : Nat} (h0 : dk_At c p 133) : decode c p = .ok (.i2l, 1) := dk_fin (dk_bind (dk_u1 h0) rfl)
theorem dk_136 {c : ByteArray} {p : Nat} (h0 : dk_At c p 136) : decode c p = .ok (.l2i, 1) := dk_fin (dk_bind (dk_u1 h0) rfl)
theorem dk_147 {c : ByteArray} {p : Nat} (h0 : dk_At c p 147) : decode c p = .ok (.i2s, 1) := dk_fin (dk_bind (dk_u1 h0) rfl)
theorem dk_148 {c : ByteArray} {p : Nat} (h0 : dk_At c p 148) : decode c p = .ok (.lcmp, 1) := dk_fin (dk_bind (dk_u1 h0) rfl)
theorem dk_153 {c : ByteArray} {p x y : Nat} {v : Int} (h0 : dk_At c p 153) (h1 : dk_At c (p + 1) x) (h2 : dk_At c (p + 2) y) (hn : Reader.signed 16 (x * 256 + y) = v) : decode c p = .ok (.ifCond .eq v, 3) := by
  subst hn
  exact dk_fin (dk_bind (dk_u1 h0) (dk_bind (r := Reader.s2) (k := fun x => pure (Instr.ifCond .eq x)) (dk_s2 h1 h2) rfl))
theorem dk_154 {c : ByteArray} {p x y : Nat} {v : Int} (h0 : dk_At c p 154) (h1 : dk_At c (p + 1) x) (h2 : dk_At c (p + 2) y) (hn : Reader.signed 16 (x * 256 + y) = v) : decode c p = .ok (.ifCond .ne v, 3) := by
  subst hn
  exact dk_fin (dk_bind (dk_u1 h0) (dk_bind (r := Reader.s2) (k := fun x => pure (Instr.ifCond .ne x)) (dk_s2 h1 h2) rfl))
theorem dk_155 {c : ByteArray} {p x y : Nat} {v : Int} (h0 : dk_At c p 155) (h1 : dk_At c (p + 1) x) (h2 : dk_At c (p + 2) y) (hn : Reader.signed 16 (x * 256 + y) = v) : decode c p = .ok (.ifCond .lt v, 3) := by
  subst hn
  exact dk_fin (dk_bind (dk_u1 h0) (dk_bind (r := Reader.s2) (k := fun x => pure (Instr.ifCond .lt x)) (dk_s2 h1 h2) rfl))
theorem dk_156 {c : ByteArray} {p x y : Nat} {v : Int} (h0 : dk_At c p 156) (h1 : dk_At c (p + 1) x) (h2 : dk_At c (p + 2) y) (hn : Reader.signed 16 (x * 256 + y) = v) : decode c p = .ok (.ifCond .ge v, 3) := by
  subst hn
  exact dk_fin (dk_bind (dk_u1 h0) (dk_bind (r := Reader.s2) (k := fun x => pure (Instr.ifCond .ge x)) (dk_s2 h1 h2) rfl))
theorem dk_157 {c : ByteArray} {p x y : Nat} {v : Int} (h0 : dk_At c p 157) (h1 : dk_At c (p + 1) x) (h2 : dk_At c (p + 2) y) (hn : Reader.signed 16 (x * 256 + y) = v) : decode c p = .ok (.ifCond .gt v, 3) := by
  subst hn
  exact dk_fin (dk_bind (dk_u1 h0) (dk_bind (r := Reader.s2) (k := fun x => pure (Instr.ifCond .gt x)) (dk_s2 h1 h2) rfl))
theorem dk_158 {c : ByteArray} {p x y : Nat} {v : Int} (h0 : dk_At c p 158) (h1 : dk_At c (p + 1) x) (h2 : dk_At c (p + 2) y) (hn : Reader.signed 16 (x * 256 + y) = v) : decode c p = .ok (.ifCond .le v, 3) := by
  subst hn
  exact dk_fin (dk_bind (dk_u1 h0) (dk_bind (r := Reader.s2) (k := fun x => pure (Instr.ifCond .le x)) (dk_s2 h1 h2) rfl))
theorem dk_159 {c : ByteArray} {p x y : Nat} {v : Int} (h0 : dk_At c p 159) (h1 : dk_At c (p + 1) x) (h2 : dk_At c (p + 2) y) (hn : Reader.signed 16 (x * 256 + y) = v) : decode c p = .ok (.if_icmp .eq v, 3) := by
  subst hn
  exact dk_fin (dk_bind (dk_u1 h0) (dk_bind (r := Reader.s2) (k := fun x => pure (Instr.if_icmp .eq x)) (dk_s2 h1 h2) rfl))
theorem dk_160 {c : ByteArray} {p x y : Nat} {v : Int} (h0 : dk_At c p 160) (h1 : dk_At c (p + 1) x) (h2 : dk_At c (p + 2) y) (hn : Reader.signed 16 (x * 256 + y) = v) : decode c p = .ok (.if_icmp .ne v, 3) := by
  subst hn
  exact dk_fin (dk_bind (dk_u1 h0) (dk_bind (r := Reader.s2) (k := fun x => pure (Instr.if_icmp .ne x)) (dk_s2 h1 h2) rfl))
theorem dk_161 {c : ByteArray} {p x y : Nat} {v : Int} (h0 : dk_At c p 161) (h1 : dk_At c (p + 1) x) (h2 : dk_At c (p + 2) y) (hn : Reader.signed 16 (x * 256 + y) = v) : decode c p = .ok (.if_icmp .lt v, 3) := by
  subst hn
  exact dk_fin (dk_bind (dk_u1 h0) (dk_bind (r := Reader.s2) (k := fun x => pure (Instr.if_icmp .lt x)) (dk_s2 h1 h2) rfl))
theorem dk_162 {c : ByteArray} {p x y : Nat} {v : Int} (h0 : dk_At c p 162) (h1 : dk_At c (p + 1) x) (h2 : dk_At c (p + 2) y) (hn : Reader.signed 16 (x * 256 + y) = v) : decode c p = .ok (.if_icmp .ge v, 3) := by
  subst hn
  exact dk_fin (dk_bind (dk_u1 h0) (dk_bind (r := Reader.s2) (k := fun x => pure (Instr.if_icmp .ge x)) (dk_s2 h1 h2) rfl))
theorem dk_163 {c : ByteArray} {p x y : Nat} {v : Int} (h0 : dk_At c p 163) (h1 : dk_At c (p + 1) x) (h2 : dk_At c (p + 2) y) (hn : Reader.signed 16 (x * 256 + y) = v) : decode c p = .ok (.if_icmp .gt v, 3) := by
  subst hn
  exact dk_fin (dk_bind (dk_u1 h0) (dk_bind (r := Reader.s2) (k := fun x => pure (Instr.if_icmp .gt x)) (dk_s2 h1 h2) rfl))
theorem dk_164 {c : ByteArray} {p x y : Nat} {v : Int} (h0 : dk_At c p 164) (h1 : dk_At c (p + 1) x) (h2 : dk_At c (p + 2) y) (hn : Reader.signed 16 (x * 256 + y) = v) : decode c p = .ok (.if_icmp .le v, 3) := by
  subst hn
  exact dk_fin (dk_bind (dk_u1 h0) (dk_bind (r := Reader.s2) (k := fun x => pure (Instr.if_icmp .le x)) (dk_s2 h1 h2) rfl))
theorem dk_167 {c : ByteArray} {p x y : Nat} {v : Int} (h0 : dk_At c p 167) (h1 : dk_At c (p + 1) x) (h2 : dk_At c (p + 2) y) (hn : Reader.signed 16 (x * 256 + y) = v) : decode c p = .ok (.goto v, 3) := by
  subst hn
  exact dk_fin (dk_bind (dk_u1 h0) (dk_bind (r := Reader.s2) (k := fun x => pure (Instr.goto x)) (dk_s2 h1 h2) rfl))
theorem dk_172 {c : ByteArray} {p : Nat} (h0 : dk_At c p 172) : decode c p = .ok (.ireturn, 1) := dk_fin (dk_bind (dk_u1 h0) rfl)
theorem dk_173 {c : ByteArray} {p : Nat} (h0 : dk_At c p 173) : decode c p = .ok (.lreturn, 1) := dk_fin (dk_bind (dk_u1 h0) rfl)
theorem dk_177 {c : ByteArray} {p : Nat} (h0 : dk_At c p 177) : decode c p = .ok (.return_, 1) := dk_fin (dk_bind (dk_u1 h0) rfl)
theorem dk_180 {c : ByteArray} {p x y n : Nat} (h0 : dk_At c p 180) (h1 : dk_At c (p + 1) x) (h2 : dk_At c (p + 2) y) (hn : x * 256 + y = n) : decode c p = .ok (.getfield n, 3) := by
  subst hn
  exact dk_fin (dk_bind (dk_u1 h0) (dk_bind (r := Reader.u2) (k := fun x => pure (Instr.getfield x)) (dk_u2 h1 h2) rfl))
theorem dk_181 {c : ByteArray} {p x y n : Nat} (h0 : dk_At c p 181) (h1 : dk_At c (p + 1) x) (h2 : dk_At c (p + 2) y) (hn : x * 256 + y = n) : decode c p = .ok (.putfield n, 3) := by
  subst hn
  exact dk_fin (dk_bind (dk_u1 h0) (dk_bind (r := Reader.u2) (k := fun x => pure (Instr.putfield x)) (dk_u2 h1 h2) rfl))
theorem dk_182 {c : ByteArray} {p x y n : Nat} (h0 : dk_At c p 182) (h1 : dk_At c (p + 1) x) (h2 : dk_At c (p + 2) y) (hn : x * 256 + y = n) : decode c p = .ok (.invokevirtual n, 3) := by
  subst hn
  exact dk_fin (dk_bind (dk_u1 h0) (dk_bind (r := Reader.u2) (k := fun x => pure (Instr.invokevirtual x)) (dk_u2 h1 h2) rfl))
theorem dk_183 {c : ByteArray} {p x y n : Nat} (h0 : dk_At c p 183) (h1 : dk_At c (p + 1) x) (h2 : dk_At c (p + 2) y) (hn : x * 256 + y = n) : decode c p = .ok (.invokespecial n, 3) := by
  subst hn
  exact dk_fin (dk_bind (dk_u1 h0) (dk_bind (r := Reader.u2) (k := fun x => pure (Instr.invokespecial x)) (dk_u2 h1 h2) rfl))
theorem dk_184 {c : ByteArray} {p x y n : Nat} (h0 : dk_At c p 184) (h1 : dk_At c (p + 1) x) (h2 : dk_At c (p + 2) y) (hn : x * 256 + y = n) : decode c p = .ok (.invokestatic n, 3) := by
  subst hn
  exact dk_fin (dk_bind (dk_u1 h0) (dk_bind (r := Reader.u2) (k := fun x => pure (Instr.invokestatic x)) (dk_u2 h1 h2) rfl))
theorem dk_187 {c : ByteArray} {p x y n : Nat} (h0 : dk_At c p 187) (h1 : dk_At c (p + 1) x) (h2 : dk_At c (p + 2) y) (hn : x * 256 + y = n) : decode c p = .ok (.new n, 3) := by
  subst hn
  exact dk_fin (dk_bind (dk_u1 h0) (dk_bind (r := Reader.u2) (k := fun x => pure (Instr.new x)) (dk_u2 h1 h2) rfl))
theorem dk_189 {c : ByteArray} {p x y n : Nat} (h0 : dk_At c p 189) (h1 : dk_At c (p + 1) x) (h2 : dk_At c (p + 2) y) (hn : x * 256 + y = n) : decode c p = .ok (.anewarray n, 3) := by
  subst hn
  exact dk_fin (dk_bind (dk_u1 h0) (dk_bind (r := Reader.u2) (k := fun x => pure (Instr.anewarray x)) (dk_u2 h1 h2) rfl))
theorem dk_190 {c : ByteArray} {p : Nat} (h0 : dk_At c p 190) : decode c p = .ok (.arraylength, 1) := dk_fin (dk_bind (dk_u1 h0) rfl)
theorem dk_198 {c : ByteArray} {p x y : Nat} {v : Int} (h0 : dk_At c p 198) (h1 : dk_At c (p + 1) x) (h2 : dk_At c (p + 2) y) (hn : Reader.signed 16 (x * 256 + y) = v) : decode c p = .ok (.ifnull v, 3) := by
  subst hn
  exact dk_fin (dk_bind (dk_u1 h0) (dk_bind (r := Reader.s2) (k := fun x => pure (Instr.ifnull x)) (dk_s2 h1 h2) rfl))
theorem dk_199 {c : ByteArray} {p x y : Nat} {v : Int} (h0 : dk_At c p 199) (h1 : dk_At c (p + 1) x) (h2 : dk_At c (p + 2) y) (hn : Reader.signed 16 (x * 256 + y) = v) : decode c p = .ok (.ifnonnull v, 3) := by
  subst hn
  exact dk_fin (dk_bind (dk_u1 h0) (dk_bind (r := Reader.s2) (k := fun x => pure (Instr.ifnonnull x)) (dk_s2 h1 h2) rfl))
