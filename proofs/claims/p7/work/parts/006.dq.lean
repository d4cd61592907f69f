/-! instructions by their bytes -/
theorem rd_bind {α β : Type} {r : Jvm.ClassFile.Decoder α} {f : α → Jvm.ClassFile.Decoder β} {c : ByteArray} {p q : Nat} {a : α} (h : r c p = .ok (a, q)) : (r >>= f) c p = f a c q := by
  show Except.bind (r c p) (fun x => f x.1 c x.2) = f a c q
  rw [h]
  rfl
theorem rd_cut {l : List UInt8} {p k : Nat} {b : UInt8} {bs : List UInt8} (h : (l.drop p).take (k + 1) = b :: bs) : l[p]? = some b ∧ (l.drop (p + 1)).take k = bs := by
  have e : (l.drop p)[0]? = l[p]? := by rw [List.getElem?_drop]; rfl
  have e2 : l.drop (p + 1) = (l.drop p).drop 1 := by rw [List.drop_drop]
  rw [e2, ← e]
  cases hd : l.drop p with
  | nil => rw [hd] at h; cases h
  | cons x xs =>
    rw [hd] at h
    injection h with h1 h2
    subst h1
    exact ⟨rfl, h2⟩
theorem rd_u1 {c : ByteArray} {p : Nat} {b : UInt8} (h : c.data.toList[p]? = some b) : (Jvm.ClassFile.Reader.u1 : Jvm.ClassFile.Decoder Nat) c p = .ok (b.toNat, p + 1) := by
  obtain ⟨hp, hb⟩ := List.getElem?_eq_some_iff.mp h
  have hs : p < c.size := hp
  have e : c[p] = b := hb
  show (if h : p < c.size then (do set (p + 1); pure c[p].toNat) else (throw (Jvm.ClassFile.HasTruncated.truncated p)) : Jvm.ClassFile.Decoder Nat) c p = _
  rw [dif_pos hs, ← e]
  rfl
theorem rd_u2 {c : ByteArray} {p : Nat} {a b : UInt8} (h : (c.data.toList.drop p).take 2 = [a, b]) : (Jvm.ClassFile.Reader.u2 : Jvm.ClassFile.Decoder Nat) c p = .ok (a.toNat * 256 + b.toNat, p + 2) := by
  have h1 := rd_cut h
  have h2 := rd_cut h1.2
  show ((Jvm.ClassFile.Reader.u1 : Jvm.ClassFile.Decoder Nat) >>= fun x => (Jvm.ClassFile.Reader.u1 : Jvm.ClassFile.Decoder Nat) >>= fun y => pure (x * 256 + y)) c p = _
  rw [rd_bind (rd_u1 h1.1), rd_bind (rd_u1 h2.1)]
  rfl
theorem rd_s1 {c : ByteArray} {p : Nat} {a : UInt8} (h : c.data.toList[p]? = some a) : (Jvm.ClassFile.Reader.s1 : Jvm.ClassFile.Decoder Int) c p = .ok (Jvm.ClassFile.Reader.signed 8 a.toNat, p + 1) := by
  show Except.bind ((Jvm.ClassFile.Reader.u1 : Jvm.ClassFile.Decoder Nat) c p) (fun x => Except.ok (Jvm.ClassFile.Reader.signed 8 x.1, x.2)) = _
  rw [rd_u1 h]
  rfl
theorem rd_s2 {c : ByteArray} {p : Nat} {a b : UInt8} (h : (c.data.toList.drop p).take 2 = [a, b]) : (Jvm.ClassFile.Reader.s2 : Jvm.ClassFile.Decoder Int) c p = .ok (Jvm.ClassFile.Reader.signed 16 (a.toNat * 256 + b.toNat), p + 2) := by
  show Except.bind ((Jvm.ClassFile.Reader.u2 : Jvm.ClassFile.Decoder Nat) c p) (fun x => Except.ok (Jvm.ClassFile.Reader.signed 16 x.1, x.2)) = _
  rw [rd_u2 h]
  rfl
theorem rd_dec {c : ByteArray} {p n q : Nat} {b : UInt8} {i : Instr} {F : Nat → Jvm.ClassFile.Decoder Instr} (hF : Jvm.ClassFile.Decoder.instr p = (Jvm.ClassFile.Reader.u1 >>= F)) (h : c.data.toList[p]? = some b) (hn : b.toNat = n) (e : F n c (p + 1) = .ok (i, q)) : decode c p = .ok (i, q - p) := by
  show Except.bind (Jvm.ClassFile.Decoder.instr p c p) (fun x => Except.ok (x.1, x.2 - p)) = _
  rw [hF, rd_bind (rd_u1 h), hn, e]
  rfl
theorem rd_ops (p : Nat) : ∃ F : Nat → Jvm.ClassFile.Decoder Instr, Jvm.ClassFile.Decoder.instr p = (Jvm.ClassFile.Reader.u1 >>= F) ∧ F 2 = (pure (.iconst (-1)) : Jvm.ClassFile.Decoder Instr) ∧ F 3 = (pure (.iconst 0) : Jvm.ClassFile.Decoder Instr) ∧ F 4 = (pure (.iconst 1) : Jvm.ClassFile.Decoder Instr) ∧ F 5 = (pure (.iconst 2) : Jvm.ClassFile.Decoder Instr) ∧ F 6 = (pure (.iconst 3) : Jvm.ClassFile.Decoder Instr) ∧ F 7 = (pure (.iconst 4) : Jvm.ClassFile.Decoder Instr) ∧ F 8 = (pure (.iconst 5) : Jvm.ClassFile.Decoder Instr) ∧ F 9 = (pure (.lconst 0) : Jvm.ClassFile.Decoder Instr) ∧ F 10 = (pure (.lconst 1) : Jvm.ClassFile.Decoder Instr) ∧ F 16 = (Jvm.ClassFile.Reader.s1 >>= fun x => pure (.bipush x) : Jvm.ClassFile.Decoder Instr) ∧ F 17 = (Jvm.ClassFile.Reader.s2 >>= fun x => pure (.sipush x) : Jvm.ClassFile.Decoder Instr) ∧ F 18 = (Jvm.ClassFile.Reader.u1 >>= fun x => pure (.ldc x) : Jvm.ClassFile.Decoder Instr) ∧ F 19 = (Jvm.ClassFile.Reader.u2 >>= fun x => pure (.ldc_w x) : Jvm.ClassFile.Decoder Instr) ∧ F 20 = (Jvm.ClassFile.Reader.u2 >>= fun x => pure (.ldc2_w x) : Jvm.ClassFile.Decoder Instr) ∧ F 21 = (Jvm.ClassFile.Reader.u1 >>= fun x => pure (.iload x) : Jvm.ClassFile.Decoder Instr) ∧ F 22 = (Jvm.ClassFile.Reader.u1 >>= fun x => pure (.lload x) : Jvm.ClassFile.Decoder Instr) ∧ F 26 = (pure (.iload_n 0) : Jvm.ClassFile.Decoder Instr) ∧ F 27 = (pure (.iload_n 1) : Jvm.ClassFile.Decoder Instr) ∧ F 28 = (pure (.iload_n 2) : Jvm.ClassFile.Decoder Instr) ∧ F 29 = (pure (.iload_n 3) : Jvm.ClassFile.Decoder Instr) ∧ F 30 = (pure (.lload_n 0) : Jvm.ClassFile.Decoder Instr) ∧ F 31 = (pure (.lload_n 1) : Jvm.ClassFile.Decoder Instr) ∧ F 32 = (pure (.lload_n 2) : Jvm.ClassFile.Decoder Instr) ∧ F 33 = (pure (.lload_n 3) : Jvm.ClassFile.Decoder Instr) ∧ F 42 = (pure (.aload_n 0) : Jvm.ClassFile.Decoder Instr) ∧ F 43 = (pure (.aload_n 1) : Jvm.ClassFile.Decoder Instr) ∧ F 44 = (pure (.aload_n 2) : Jvm.ClassFile.Decoder Instr) ∧ F 45 = (pure (.aload_n 3) : Jvm.ClassFile.Decoder Instr) ∧ F 46 = (pure (.iaload) : Jvm.ClassFile.Decoder Instr) ∧ F 47 = (pure (.laload) : Jvm.ClassFile.Decoder Instr) ∧ F 51 = (pure (.baload) : Jvm.ClassFile.Decoder Instr) ∧ F 52 = (pure (.caload) : Jvm.ClassFile.Decoder Instr) ∧ F 54 = (Jvm.ClassFile.Reader.u1 >>= fun x => pure (.istore x) : Jvm.ClassFile.Decoder Instr) ∧ F 55 = (Jvm.ClassFile.Reader.u1 >>= fun x => pure (.lstore x) : Jvm.ClassFile.Decoder Instr) ∧ F 59 = (pure (.istore_n 0) : Jvm.ClassFile.Decoder Instr) ∧ F 60 = (pure (.istore_n 1) : Jvm.ClassFile.Decoder Instr) ∧ F 61 = (pure (.istore_n 2) : Jvm.ClassFile.Decoder Instr) ∧ F 62 = (pure (.istore_n 3) : Jvm.ClassFile.Decoder Instr) ∧ F 64 = (pure (.lstore_n 1) : Jvm.ClassFile.Decoder Instr) ∧ F 65 = (pure (.lstore_n 2) : Jvm.ClassFile.Decoder Instr) ∧ F 66 = (pure (.lstore_n 3) : Jvm.ClassFile.Decoder Instr) ∧ F 76 = (pure (.astore_n 1) : Jvm.ClassFile.Decoder Instr) ∧ F 77 = (pure (.astore_n 2) : Jvm.ClassFile.Decoder Instr) ∧ F 79 = (pure (.iastore) : Jvm.ClassFile.Decoder Instr) ∧ F 80 = (pure (.lastore) : Jvm.ClassFile.Decoder Instr) ∧ F 84 = (pure (.bastore) : Jvm.ClassFile.Decoder Instr) ∧ F 85 = (pure (.castore) : Jvm.ClassFile.Decoder Instr) ∧ F 87 = (pure (.pop) : Jvm.ClassFile.Decoder Instr) ∧ F 88 = (pure (.pop2) : Jvm.ClassFile.Decoder Instr) ∧ F 89 = (pure (.dup) : Jvm.ClassFile.Decoder Instr) ∧ F 92 = (pure (.dup2) : Jvm.ClassFile.Decoder Instr) ∧ F 96 = (pure (.iadd) : Jvm.ClassFile.Decoder Instr) ∧ F 97 = (pure (.ladd) : Jvm.ClassFile.Decoder Instr) ∧ F 100 = (pure (.isub) : Jvm.ClassFile.Decoder Instr) ∧ F 101 = (pure (.lsub) : Jvm.ClassFile.Decoder Instr) ∧ F 104 = (pure (.imul) : Jvm.ClassFile.Decoder Instr) ∧ F 105 = (pure (.lmul) : Jvm.ClassFile.Decoder Instr) ∧ F 108 = (pure (.idiv) : Jvm.ClassFile.Decoder Instr) ∧ F 109 = (pure (.ldiv) : Jvm.ClassFile.Decoder Instr) ∧ F 112 = (pure (.irem) : Jvm.ClassFile.Decoder Instr) ∧ F 113 = (pure (.lrem) : Jvm.ClassFile.Decoder Instr) ∧ F 116 = (pure (.ineg) : Jvm.ClassFile.Decoder Instr) ∧ F 120 = (pure (.ishl) : Jvm.ClassFile.Decoder Instr) ∧ F 121 = (pure (.lshl) : Jvm.ClassFile.Decoder Instr) ∧ F 122 = (pure (.ishr) : Jvm.ClassFile.Decoder Instr) ∧ F 124 = (pure (.iushr) : Jvm.ClassFile.Decoder Instr) ∧ F 126 = (pure (.iand) : Jvm.ClassFile.Decoder Instr) ∧ F 127 = (pure (.land) : Jvm.ClassFile.Decoder Instr) ∧ F 128 = (pure (.ior) : Jvm.ClassFile.Decoder Instr) ∧ F 129 = (pure (.lor) : Jvm.ClassFile.Decoder Instr) ∧ F 132 = (Jvm.ClassFile.Reader.u1 >>= fun x => Jvm.ClassFile.Reader.s1 >>= fun y => pure (.iinc x y) : Jvm.ClassFile.Decoder Instr) ∧ F 133 = (pure (.i2l) : Jvm.ClassFile.Decoder Instr) ∧ F 136 = (pure (.l2i) : Jvm.ClassFile.Decoder Instr) ∧ F 145 = (pure (.i2b) : Jvm.ClassFile.Decoder Instr) ∧ F 146 = (pure (.i2c) : Jvm.ClassFile.Decoder Instr) ∧ F 147 = (pure (.i2s) : Jvm.ClassFile.Decoder Instr) ∧ F 148 = (pure (.lcmp) : Jvm.ClassFile.Decoder Instr) ∧ F 153 = (Jvm.ClassFile.Reader.s2 >>= fun x => pure (.ifCond .eq x) : Jvm.ClassFile.Decoder Instr) ∧ F 154 = (Jvm.ClassFile.Reader.s2 >>= fun x => pure (.ifCond .ne x) : Jvm.ClassFile.Decoder Instr) ∧ F 155 = (Jvm.ClassFile.Reader.s2 >>= fun x => pure (.ifCond .lt x) : Jvm.ClassFile.Decoder Instr) ∧ F 156 = (Jvm.ClassFile.Reader.s2 >>= fun x => pure (.ifCond .ge x) : Jvm.ClassFile.Decoder Instr) ∧ F 157 = (Jvm.ClassFile.Reader.s2 >>= fun x => pure (.ifCond .gt x) : Jvm.ClassFile.Decoder Instr) ∧ F 158 = (Jvm.ClassFile.Reader.s2 >>= fun x => pure (.ifCond .le x) : Jvm.ClassFile.Decoder Instr) ∧ F 159 = (Jvm.ClassFile.Reader.s2 >>= fun x => pure (.if_icmp .eq x) : Jvm.ClassFile.Decoder Instr) ∧ F 160 = (Jvm.ClassFile.Reader.s2 >>= fun x => pure (.if_icmp .ne x) : Jvm.ClassFile.Decoder Instr) ∧ F 161 = (Jvm.ClassFile.Reader.s2 >>= fun x => pure (.if_icmp .lt x) : Jvm.ClassFile.Decoder Instr) ∧ F 162 = (Jvm.ClassFile.Reader.s2 >>= fun x => pure (.if_icmp .ge x) : Jvm.ClassFile.Decoder Instr) ∧ F 163 = (Jvm.ClassFile.Reader.s2 >>= fun x => pure (.if_icmp .gt x) : Jvm.ClassFile.Decoder Instr) ∧ F 164 = (Jvm.ClassFile.Reader.s2 >>= fun x => pure (.if_icmp .le x) : Jvm.ClassFile.Decoder Instr) ∧ F 167 = (Jvm.ClassFile.Reader.s2 >>= fun x => pure (.goto x) : Jvm.ClassFile.Decoder Instr) ∧ F 172 = (pure (.ireturn) : Jvm.ClassFile.Decoder Instr) ∧ F 173 = (pure (.lreturn) : Jvm.ClassFile.Decoder Instr) ∧ F 176 = (pure (.areturn) : Jvm.ClassFile.Decoder Instr) ∧ F 177 = (pure (.return_) : Jvm.ClassFile.Decoder Instr) ∧ F 178 = (Jvm.ClassFile.Reader.u2 >>= fun x => pure (.getstatic x) : Jvm.ClassFile.Decoder Instr) ∧ F 180 = (Jvm.ClassFile.Reader.u2 >>= fun x => pure (.getfield x) : Jvm.ClassFile.Decoder Instr) ∧ F 181 = (Jvm.ClassFile.Reader.u2 >>= fun x => pure (.putfield x) : Jvm.ClassFile.Decoder Instr) ∧ F 182 = (Jvm.ClassFile.Reader.u2 >>= fun x => pure (.invokevirtual x) : Jvm.ClassFile.Decoder Instr) ∧ F 183 = (Jvm.ClassFile.Reader.u2 >>= fun x => pure (.invokespecial x) : Jvm.ClassFile.Decoder Instr) ∧ F 184 = (Jvm.ClassFile.Reader.u2 >>= fun x => pure (.invokestatic x) : Jvm.ClassFile.Decoder Instr) ∧ F 187 = (Jvm.ClassFile.Reader.u2 >>= fun x => pure (.new x) : Jvm.ClassFile.Decoder Instr) ∧ F 190 = (pure (.arraylength) : Jvm.ClassFile.Decoder Instr) := ⟨_, rfl, rfl, rfl, rfl, rfl, rfl, rfl, rfl, rfl, rfl, rfl, rfl, rfl, rfl, rfl, rfl, rfl, rfl, rfl, rfl, rfl, rfl, rfl, rfl, rfl, rfl, rfl, rfl, rfl, rfl, rfl, rfl, rfl, rfl, rfl, rfl, rfl, rfl, rfl, rfl, rfl, rfl, rfl, rfl, rfl, rfl, rfl, rfl, rfl, rfl, rfl, rfl, rfl, rfl, rfl, rfl, rfl, rfl, rfl, rfl, rfl, rfl, rfl, rfl, rfl, rfl, rfl, rfl, rfl, rfl, rfl, rfl, rfl, rfl, rfl, rfl, rfl, rfl, rfl, rfl, rfl, rfl, rfl, rfl, rfl, rfl, rfl, rfl, rfl, rfl, rfl, rfl, rfl, rfl, rfl, rfl, rfl, rfl, rfl, rfl, rfl, rfl, rfl⟩
theorem dq_2 {c : ByteArray} {p : Nat} (h : (c.data.toList.drop p).take 1 = [2]) : decode c p = .ok (.iconst (-1), 1) := by
  obtain ⟨F, hF, hs⟩ := rd_ops p
  have h1 := rd_cut h
  have e := rd_dec (q := p + 1) hF h1.1 (show (2 : UInt8).toNat = 2 by decide) (by rw [hs.1]; rfl)
  rw [e, Nat.add_sub_cancel_left]
theorem dq_3 {c : ByteArray} {p : Nat} (h : (c.data.toList.drop p).take 1 = [3]) : decode c p = .ok (.iconst 0, 1) := by
  obtain ⟨F, hF, hs⟩ := rd_ops p
  have h1 := rd_cut h
  have e := rd_dec (q := p + 1) hF h1.1 (show (3 : UInt8).toNat = 3 by decide) (by rw [hs.2.1]; rfl)
  rw [e, Nat.add_sub_cancel_left]
theorem dq_4 {c : ByteArray} {p : Nat} (h : (c.data.toList.drop p).take 1 = [4]) : decode c p = .ok (.iconst 1, 1) := by
  obtain ⟨F, hF, hs⟩ := rd_ops p
  have h1 := rd_cut h
  have e := rd_dec (q := p + 1) hF h1.1 (show (4 : UInt8).toNat = 4 by decide) (by rw [hs.2.2.1]; rfl)
  rw [e, Nat.add_sub_cancel_left]
theorem dq_5 {c : ByteArray} {p : Nat} (h : (c.data.toList.drop p).take 1 = [5]) : decode c p = .ok (.iconst 2, 1) := by
  obtain ⟨F, hF, hs⟩ := rd_ops p
  have h1 := rd_cut h
  have e := rd_dec (q := p + 1) hF h1.1 (show (5 : UInt8).toNat = 5 by decide) (by rw [hs.2.2.2.1]; rfl)
  rw [e, Nat.add_sub_cancel_left]
theorem dq_6 {c : ByteArray} {p : Nat} (h : (c.data.toList.drop p).take 1 = [6]) : decode c p = .ok (.iconst 3, 1) := by
  obtain ⟨F, hF, hs⟩ := rd_ops p
  have h1 := rd_cut h
  have e := rd_dec (q := p + 1) hF h1.1 (show (6 : UInt8).toNat = 6 by decide) (by rw [hs.2.2.2.2.1]; rfl)
  rw [e, Nat.add_sub_cancel_left]
theorem dq_7 {c : ByteArray} {p : Nat} (h : (c.data.toList.drop p).take 1 = [7]) : decode c p = .ok (.iconst 4, 1) := by
  obtain ⟨F, hF, hs⟩ := rd_ops p
  have h1 := rd_cut h
  have e := rd_dec (q := p + 1) hF h1.1 (show (7 : UInt8).toNat = 7 by decide) (by rw [hs.2.2.2.2.2.1]; rfl)
  rw [e, Nat.add_sub_cancel_left]
theorem dq_8 {c : ByteArray} {p : Nat} (h : (c.data.toList.drop p).take 1 = [8]) : decode c p = .ok (.iconst 5, 1) := by
  obtain ⟨F, hF, hs⟩ := rd_ops p
  have h1 := rd_cut h
  have e := rd_dec (q := p + 1) hF h1.1 (show (8 : UInt8).toNat = 8 by decide) (by rw [hs.2.2.2.2.2.2.1]; rfl)
  rw [e, Nat.add_sub_cancel_left]
theorem dq_9 {c : ByteArray} {p : Nat} (h : (c.data.toList.drop p).take 1 = [9]) : decode c p = .ok (.lconst 0, 1) := by
  obtain ⟨F, hF, hs⟩ := rd_ops p
  have h1 := rd_cut h
  have e := rd_dec (q := p + 1) hF h1.1 (show (9 : UInt8).toNat = 9 by decide) (by rw [hs.2.2.2.2.2.2.2.1]; rfl)
  rw [e, Nat.add_sub_cancel_left]
theorem dq_10 {c : ByteArray} {p : Nat} (h : (c.data.toList.drop p).take 1 = [10]) : decode c p = .ok (.lconst 1, 1) := by
  obtain ⟨F, hF, hs⟩ := rd_ops p
  have h1 := rd_cut h
  have e := rd_dec (q := p + 1) hF h1.1 (show (10 : UInt8).toNat = 10 by decide) (by rw [hs.2.2.2.2.2.2.2.2.1]; rfl)
  rw [e, Nat.add_sub_cancel_left]
theorem dq_16 {c : ByteArray} {p : Nat} {k : Int} {a : UInt8} (h : (c.data.toList.drop p).take 2 = [16, a]) (hk : Jvm.ClassFile.Reader.signed 8 a.toNat = k) : decode c p = .ok (.bipush k, 2) := by
  obtain ⟨F, hF, hs⟩ := rd_ops p
  have h1 := rd_cut h
  have h2 := rd_cut h1.2
  have e := rd_dec (q := p + 2) hF h1.1 (show (16 : UInt8).toNat = 16 by decide) (by rw [hs.2.2.2.2.2.2.2.2.2.1, rd_bind (rd_s1 h2.1)]; rfl)
  rw [e, hk, Nat.add_sub_cancel_left]
theorem dq_17 {c : ByteArray} {p : Nat} {k : Int} {a b : UInt8} (h : (c.data.toList.drop p).take 3 = [17, a, b]) (hk : Jvm.ClassFile.Reader.signed 16 (a.toNat * 256 + b.toNat) = k) : decode c p = .ok (.sipush k, 3) := by
  obtain ⟨F, hF, hs⟩ := rd_ops p
  have h1 := rd_cut h
  have e := rd_dec (q := p + 3) hF h1.1 (show (17 : UInt8).toNat = 17 by decide) (by rw [hs.2.2.2.2.2.2.2.2.2.2.1, rd_bind (rd_s2 h1.2)]; rfl)
  rw [e, hk, Nat.add_sub_cancel_left]
theorem dq_18 {c : ByteArray} {p k : Nat} {a : UInt8} (h : (c.data.toList.drop p).take 2 = [18, a]) (hk : a.toNat = k) : decode c p = .ok (.ldc k, 2) := by
  obtain ⟨F, hF, hs⟩ := rd_ops p
  have h1 := rd_cut h
  have h2 := rd_cut h1.2
  have e := rd_dec (q := p + 2) hF h1.1 (show (18 : UInt8).toNat = 18 by decide) (by rw [hs.2.2.2.2.2.2.2.2.2.2.2.1, rd_bind (rd_u1 h2.1)]; rfl)
  rw [e, hk, Nat.add_sub_cancel_left]
theorem dq_19 {c : ByteArray} {p : Nat} {k : Nat} {a b : UInt8} (h : (c.data.toList.drop p).take 3 = [19, a, b]) (hk : a.toNat * 256 + b.toNat = k) : decode c p = .ok (.ldc_w k, 3) := by
  obtain ⟨F, hF, hs⟩ := rd_ops p
  have h1 := rd_cut h
  have e := rd_dec (q := p + 3) hF h1.1 (show (19 : UInt8).toNat = 19 by decide) (by rw [hs.2.2.2.2.2.2.2.2.2.2.2.2.1, rd_bind (rd_u2 h1.2)]; rfl)
  rw [e, hk, Nat.add_sub_cancel_left]
theorem dq_20 {c : ByteArray} {p : Nat} {k : Nat} {a b : UInt8} (h : (c.data.toList.drop p).take 3 = [20, a, b]) (hk : a.toNat * 256 + b.toNat = k) : decode c p = .ok (.ldc2_w k, 3) := by
  obtain ⟨F, hF, hs⟩ := rd_ops p
  have h1 := rd_cut h
  have e := rd_dec (q := p + 3) hF h1.1 (show (20 : UInt8).toNat = 20 by decide) (by rw [hs.2.2.2.2.2.2.2.2.2.2.2.2.2.1, rd_bind (rd_u2 h1.2)]; rfl)
  rw [e, hk, Nat.add_sub_cancel_left]
theorem dq_21 {c : ByteArray} {p k : Nat} {a : UInt8} (h : (c.data.toList.drop p).take 2 = [21, a]) (hk : a.toNat = k) : decode c p = .ok (.iload k, 2) := by
  obtain ⟨F, hF, hs⟩ := rd_ops p
  have h1 := rd_cut h
  have h2 := rd_cut h1.2
  have e := rd_dec (q := p + 2) hF h1.1 (show (21 : UInt8).toNat = 21 by decide) (by rw [hs.2.2.2.2.2.2.2.2.2.2.2.2.2.2.1, rd_bind (rd_u1 h2.1)]; rfl)
  rw [e, hk, Nat.add_sub_cancel_left]
theorem dq_22 {c : ByteArray} {p k : Nat} {a : UInt8} (h : (c.data.toList.drop p).take 2 = [22, a]) (hk : a.toNat = k) : decode c p = .ok (.lload k, 2) := by
  obtain ⟨F, hF, hs⟩ := rd_ops p
  have h1 := rd_cut h
  have h2 := rd_cut h1.2
  have e := rd_dec (q := p + 2) hF h1.1 (show (22 : UInt8).toNat = 22 by decide) (by rw [hs.2.2.2.2.2.2.2.2.2.2.2.2.2.2.2.1, rd_bind (rd_u1 h2.1)]; rfl)
  rw [e, hk, Nat.add_sub_cancel_left]
theorem dq_26 {c : ByteArray} {p : Nat} (h : (c.data.toList.drop p).take 1 = [26]) : decode c p = .ok (.iload_n 0, 1) := by
  obtain ⟨F, hF, hs⟩ := rd_ops p
  have h1 := rd_cut h
  have e := rd_dec (q := p + 1) hF h1.1 (show (26 : UInt8).toNat = 26 by decide) (by rw [hs.2.2.2.2.2.2.2.2.2.2.2.2.2.2.2.2.1]; rfl)
  rw [e, Nat.add_sub_cancel_left]
theorem dq_27 {c : ByteArray} {p : Nat} (h : (c.data.toList.drop p).take 1 = [27]) : decode c p = .ok (.iload_n 1, 1) := by
  obtain ⟨F, hF, hs⟩ := rd_ops p
  have h1 := rd_cut h
  have e := rd_dec (q := p + 1) hF h1.1 (show (27 : UInt8).toNat = 27 by decide) (by rw [hs.2.2.2.2.2.2.2.2.2.2.2.2.2.2.2.2.2.1]; rfl)
  rw [e, Nat.add_sub_cancel_left]
theorem dq_28 {c : ByteArray} {p : Nat} (h : (c.data.toList.drop p).take 1 = [28]) : decode c p = .ok (.iload_n 2, 1) := by
  obtain ⟨F, hF, hs⟩ := rd_ops p
  have h1 := rd_cut h
  have e := rd_dec (q := p + 1) hF h1.1 (show (28 : UInt8).toNat = 28 by decide) (by rw [hs.2.2.2.2.2.2.2.2.2.2.2.2.2.2.2.2.2.2.1]; rfl)
  rw [e, Nat.add_sub_cancel_left]
theorem dq_29 {c : ByteArray} {p : Nat} (h : (c.data.toList.drop p).take 1 = [29]) : decode c p = .ok (.iload_n 3, 1) := by
  obtain ⟨F, hF, hs⟩ := rd_ops p
  have h1 := rd_cut h
  have e := rd_dec (q := p + 1) hF h1.1 (show (29 : UInt8).toNat = 29 by decide) (by rw [hs.2.2.2.2.2.2.2.2.2.2.2.2.2.2.2.2.2.2.2.1]; rfl)
  rw [e, Nat.add_sub_cancel_left]
theorem dq_30 {c : ByteArray} {p : Nat} (h : (c.data.toList.drop p).take 1 = [30]) : decode c p = .ok (.lload_n 0, 1) := by
  obtain ⟨F, hF, hs⟩ := rd_ops p
  have h1 := rd_cut h
  have e := rd_dec (q := p + 1) hF h1.1 (show (30 : UInt8).toNat = 30 by decide) (by rw [hs.2.2.2.2.2.2.2.2.2.2.2.2.2.2.2.2.2.2.2.2.1]; rfl)
  rw [e, Nat.add_sub_cancel_left]
theorem dq_31 {c : ByteArray} {p : Nat} (h : (c.data.toList.drop p).take 1 = [31]) : decode c p = .ok (.lload_n 1, 1) := by
  obtain ⟨F, hF, hs⟩ := rd_ops p
  have h1 := rd_cut h
  have e := rd_dec (q := p + 1) hF h1.1 (show (31 : UInt8).toNat = 31 by decide) (by rw [hs.2.2.2.2.2.2.2.2.2.2.2.2.2.2.2.2.2.2.2.2.2.1]; rfl)
  rw [e, Nat.add_sub_cancel_left]
theorem dq_32 {c : ByteArray} {p : Nat} (h : (c.data.toList.drop p).take 1 = [32]) : decode c p = .ok (.lload_n 2, 1) := by
  obtain ⟨F, hF, hs⟩ := rd_ops p
  have h1 := rd_cut h
  have e := rd_dec (q := p + 1) hF h1.1 (show (32 : UInt8).toNat = 32 by decide) (by rw [hs.2.2.2.2.2.2.2.2.2.2.2.2.2.2.2.2.2.2.2.2.2.2.1]; rfl)
  rw [e, Nat.add_sub_cancel_left]
theorem dq_33 {c : ByteArray} {p : Nat} (h : (c.data.toList.drop p).take 1 = [33]) : decode c p = .ok (.lload_n 3, 1) := by
  obtain ⟨F, hF, hs⟩ := rd_ops p
  have h1 := rd_cut h
  have e := rd_dec (q := p + 1) hF h1.1 (show (33 : UInt8).toNat = 33 by decide) (by rw [hs.2.2.2.2.2.2.2.2.2.2.2.2.2.2.2.2.2.2.2.2.2.2.2.1]; rfl)
  rw [e, Nat.add_sub_cancel_left]
theorem dq_42 {c : ByteArray} {p : Nat} (h : (c.data.toList.drop p).take 1 = [42]) : decode c p = .ok (.aload_n 0, 1) := by
  obtain ⟨F, hF, hs⟩ := rd_ops p
  have h1 := rd_cut h
  have e := rd_dec (q := p + 1) hF h1.1 (show (42 : UInt8).toNat = 42 by decide) (by rw [hs.2.2.2.2.2.2.2.2.2.2.2.2.2.2.2.2.2.2.2.2.2.2.2.2.1]; rfl)
  rw [e, Nat.add_sub_cancel_left]
theorem dq_43 {c : ByteArray} {p : Nat} (h : (c.data.toList.drop p).take 1 = [43]) : decode c p = .ok (.aload_n 1, 1) := by
  obtain ⟨F, hF, hs⟩ := rd_ops p
  have h1 := rd_cut h
  have e := rd_dec (q := p + 1) hF h1.1 (show (43 : UInt8).toNat = 43 by decide) (by rw [hs.2.2.2.2.2.2.2.2.2.2.2.2.2.2.2.2.2.2.2.2.2.2.2.2.2.1]; rfl)
  rw [e, Nat.add_sub_cancel_left]
theorem dq_44 {c : ByteArray} {p : Nat} (h : (c.data.toList.drop p).take 1 = [44]) : decode c p = .ok (.aload_n 2, 1) := by
  obtain ⟨F, hF, hs⟩ := rd_ops p
  have h1 := rd_cut h
  have e := rd_dec (q := p + 1) hF h1.1 (show (44 : UInt8).toNat = 44 by decide) (by rw [hs.2.2.2.2.2.2.2.2.2.2.2.2.2.2.2.2.2.2.2.2.2.2.2.2.2.2.1]; rfl)
  rw [e, Nat.add_sub_cancel_left]
theorem dq_45 {c : ByteArray} {p : Nat} (h : (c.data.toList.drop p).take 1 = [45]) : decode c p = .ok (.aload_n 3, 1) := by
  obtain ⟨F, hF, hs⟩ := rd_ops p
  have h1 := rd_cut h
  have e := rd_dec (q := p + 1) hF h1.1 (show (45 : UInt8).toNat = 45 by decide) (by rw [hs.2.2.2.2.2.2.2.2.2.2.2.2.2.2.2.2.2.2.2.2.2.2.2.2.2.2.2.1]; rfl)
  rw [e, Nat.add_sub_cancel_left]
theorem dq_46 {c : ByteArray} {p : Nat} (h : (c.data.toList.drop p).take 1 = [46]) : decode c p = .ok (.iaload, 1) := by
  obtain ⟨F, hF, hs⟩ := rd_ops p
  have h1 := rd_cut h
  have e := rd_dec (q := p + 1) hF h1.1 (show (46 : UInt8).toNat = 46 by decide) (by rw [hs.2.2.2.2.2.2.2.2.2.2.2.2.2.2.2.2.2.2.2.2.2.2.2.2.2.2.2.2.1]; rfl)
  rw [e, Nat.add_sub_cancel_left]
theorem dq_47 {c : ByteArray} {p : Nat} (h : (c.data.toList.drop p).take 1 = [47]) : decode c p = .ok (.laload, 1) := by
  obtain ⟨F, hF, hs⟩ := rd_ops p
  have h1 := rd_cut h
  have e := rd_dec (q := p + 1) hF h1.1 (show (47 : UInt8).toNat = 47 by decide) (by rw [hs.2.2.2.2.2.2.2.2.2.2.2.2.2.2.2.2.2.2.2.2.2.2.2.2.2.2.2.2.2.1]; rfl)
  rw [e, Nat.add_sub_cancel_left]
theorem dq_51 {c : ByteArray} {p : Nat} (h : (c.data.toList.drop p).take 1 = [51]) : decode c p = .ok (.baload, 1) := by
  obtain ⟨F, hF, hs⟩ := rd_ops p
  have h1 := rd_cut h
  have e := rd_dec (q := p + 1) hF h1.1 (show (51 : UInt8).toNat = 51 by decide) (by rw [hs.2.2.2.2.2.2.2.2.2.2.2.2.2.2.2.2.2.2.2.2.2.2.2.2.2.2.2.2.2.2.1]; rfl)
  rw [e, Nat.add_sub_cancel_left]
theorem dq_52 {c : ByteArray} {p : Nat} (h : (c.data.toList.drop p).take 1 = [52]) : decode c p = .ok (.caload, 1) := by
  obtain ⟨F, hF, hs⟩ := rd_ops p
  have h1 := rd_cut h
  have e := rd_dec (q := p + 1) hF h1.1 (show (52 : UInt8).toNat = 52 by decide) (by rw [hs.2.2.2.2.2.2.2.2.2.2.2.2.2.2.2.2.2.2.2.2.2.2.2.2.2.2.2.2.2.2.2.1]; rfl)
  rw [e, Nat.add_sub_cancel_left]
theorem dq_54 {c : ByteArray} {p k : Nat} {a : UInt8} (h : (c.data.toList.drop p).take 2 = [54, a]) (hk : a.toNat = k) : decode c p = .ok (.istore k, 2) := by
  obtain ⟨F, hF, hs⟩ := rd_ops p
  have h1 := rd_cut h
  have h2 := rd_cut h1.2
  have e := rd_dec (q := p + 2) hF h1.1 (show (54 : UInt8).toNat = 54 by decide) (by rw [hs.2.2.2.2.2.2.2.2.2.2.2.2.2.2.2.2.2.2.2.2.2.2.2.2.2.2.2.2.2.2.2.2.1, rd_bind (rd_u1 h2.1)]; rfl)
  rw [e, hk, Nat.add_sub_cancel_left]
theorem dq_55 {c : ByteArray} {p k : Nat} {a : UInt8} (h : (c.data.toList.drop p).take 2 = [55, a]) (hk : a.toNat = k) : decode c p = .ok (.lstore k, 2) := by
  obtain ⟨F, hF, hs⟩ := rd_ops p
  have h1 := rd_cut h
  have h2 := rd_cut h1.2
  have e := rd_dec (q := p + 2) hF h1.1 (show (55 : UInt8).toNat = 55 by decide) (by rw [hs.2.2.2.2.2.2.2.2.2.2.2.2.2.2.2.2.2.2.2.2.2.2.2.2.2.2.2.2.2.2.2.2.2.1, rd_bind (rd_u1 h2.1)]; rfl)
  rw [e, hk, Nat.add_sub_cancel_left]
theorem dq_59 {c : ByteArray} {p : Nat} (h : (c.data.toList.drop p).take 1 = [59]) : decode c p = .ok (.istore_n 0, 1) := by
  obtain ⟨F, hF, hs⟩ := rd_ops p
  have h1 := rd_cut h
  have e := rd_dec (q := p + 1) hF h1.1 (show (59 : UInt8).toNat = 59 by decide) (by rw [hs.2.2.2.2.2.2.2.2.2.2.2.2.2.2.2.2.2.2.2.2.2.2.2.2.2.2.2.2.2.2.2.2.2.2.1]; rfl)
  rw [e, Nat.add_sub_cancel_left]
theorem dq_60 {c : ByteArray} {p : Nat} (h : (c.data.toList.drop p).take 1 = [60]) : decode c p = .ok (.istore_n 1, 1) := by
  obtain ⟨F, hF, hs⟩ := rd_ops p
  have h1 := rd_cut h
  have e := rd_dec (q := p + 1) hF h1.1 (show (60 : UInt8).toNat = 60 by decide) (by rw [hs.2.2.2.2.2.2.2.2.2.2.2.2.2.2.2.2.2.2.2.2.2.2.2.2.2.2.2.2.2.2.2.2.2.2.2.1]; rfl)
  rw [e, Nat.add_sub_cancel_left]
theorem dq_61 {c : ByteArray} {p : Nat} (h : (c.data.toList.drop p).take 1 = [61]) : decode c p = .ok (.istore_n 2, 1) := by
  obtain ⟨F, hF, hs⟩ := rd_ops p
  have h1 := rd_cut h
  have e := rd_dec (q := p + 1) hF h1.1 (show (61 : UInt8).toNat = 61 by decide) (by rw [hs.2.2.2.2.2.2.2.2.2.2.2.2.2.2.2.2.2.2.2.2.2.2.2.2.2.2.2.2.2.2.2.2.2.2.2.2.1]; rfl)
  rw [e, Nat.add_sub_cancel_left]
theorem dq_62 {c : ByteArray} {p : Nat} (h : (c.data.toList.drop p).take 1 = [62]) : decode c p = .ok (.istore_n 3, 1) := by
  obtain ⟨F, hF, hs⟩ := rd_ops p
  have h1 := rd_cut h
  have e := rd_dec (q := p + 1) hF h1.1 (show (62 : UInt8).toNat = 62 by decide) (by rw [hs.2.2.2.2.2.2.2.2.2.2.2.2.2.2.2.2.2.2.2.2.2.2.2.2.2.2.2.2.2.2.2.2.2.2.2.2.2.1]; rfl)
  rw [e, Nat.add_sub_cancel_left]
theorem dq_64 {c : ByteArray} {p : Nat} (h : (c.data.toList.drop p).take 1 = [64]) : decode c p = .ok (.lstore_n 1, 1) := by
  obtain ⟨F, hF, hs⟩ := rd_ops p
  have h1 := rd_cut h
  have e := rd_dec (q := p + 1) hF h1.1 (show (64 : UInt8).toNat = 64 by decide) (by rw [hs.2.2.2.2.2.2.2.2.2.2.2.2.2.2.2.2.2.2.2.2.2.2.2.2.2.2.2.2.2.2.2.2.2.2.2.2.2.2.1]; rfl)
  rw [e, Nat.add_sub_cancel_left]
theorem dq_65 {c : ByteArray} {p : Nat} (h : (c.data.toList.drop p).take 1 = [65]) : decode c p = .ok (.lstore_n 2, 1) := by
  obtain ⟨F, hF, hs⟩ := rd_ops p
  have h1 := rd_cut h
  have e := rd_dec (q := p + 1) hF h1.1 (show (65 : UInt8).toNat = 65 by decide) (by rw [hs.2.2.2.2.2.2.2.2.2.2.2.2.2.2.2.2.2.2.2.2.2.2.2.2.2.2.2.2.2.2.2.2.2.2.2.2.2.2.2.1]; rfl)
  rw [e, Nat.add_sub_cancel_left]
theorem dq_66 {c : ByteArray} {p : Nat} (h : (c.data.toList.drop p).take 1 = [66]) : decode c p = .ok (.lstore_n 3, 1) := by
  obtain ⟨F, hF, hs⟩ := rd_ops p
  have h1 := rd_cut h
  have e := rd_dec (q := p + 1) hF h1.1 (show (66 : UInt8).toNat = 66 by decide) (by rw [hs.2.2.2.2.2.2.2.2.2.2.2.2.2.2.2.2.2.2.2.2.2.2.2.2.2.2.2.2.2.2.2.2.2.2.2.2.2.2.2.2.1]; rfl)
  rw [e, Nat.add_sub_cancel_left]
theorem dq_76 {c : ByteArray} {p : Nat} (h : (c.data.toList.drop p).take 1 = [76]) : decode c p = .ok (.astore_n 1, 1) := by
  obtain ⟨F, hF, hs⟩ := rd_ops p
  have h1 := rd_cut h
  have e := rd_dec (q := p + 1) hF h1.1 (show (76 : UInt8).toNat = 76 by decide) (by rw [hs.2.2.2.2.2.2.2.2.2.2.2.2.2.2.2.2.2.2.2.2.2.2.2.2.2.2.2.2.2.2.2.2.2.2.2.2.2.2.2.2.2.1]; rfl)
  rw [e, Nat.add_sub_cancel_left]
theorem dq_77 {c : ByteArray} {p : Nat} (h : (c.data.toList.drop p).take 1 = [77]) : decode c p = .ok (.astore_n 2, 1) := by
  obtain ⟨F, hF, hs⟩ := rd_ops p
  have h1 := rd_cut h
  have e := rd_dec (q := p + 1) hF h1.1 (show (77 : UInt8).toNat = 77 by decide) (by rw [hs.2.2.2.2.2.2.2.2.2.2.2.2.2.2.2.2.2.2.2.2.2.2.2.2.2.2.2.2.2.2.2.2.2.2.2.2.2.2.2.2.2.2.1]; rfl)
  rw [e, Nat.add_sub_cancel_left]
theorem dq_79 {c : ByteArray} {p : Nat} (h : (c.data.toList.drop p).take 1 = [79]) : decode c p = .ok (.iastore, 1) := by
  obtain ⟨F, hF, hs⟩ := rd_ops p
  have h1 := rd_cut h
  have e := rd_dec (q := p + 1) hF h1.1 (show (79 : UInt8).toNat = 79 by decide) (by rw [hs.2.2.2.2.2.2.2.2.2.2.2.2.2.2.2.2.2.2.2.2.2.2.2.2.2.2.2.2.2.2.2.2.2.2.2.2.2.2.2.2.2.2.2.1]; rfl)
  rw [e, Nat.add_sub_cancel_left]
theorem dq_80 {c : ByteArray} {p : Nat} (h : (c.data.toList.drop p).take 1 = [80]) : decode c p = .ok (.lastore, 1) := by
  obtain ⟨F, hF, hs⟩ := rd_ops p
  have h1 := rd_cut h
  have e := rd_dec (q := p + 1) hF h1.1 (show (80 : UInt8).toNat = 80 by decide) (by rw [hs.2.2.2.2.2.2.2.2.2.2.2.2.2.2.2.2.2.2.2.2.2.2.2.2.2.2.2.2.2.2.2.2.2.2.2.2.2.2.2.2.2.2.2.2.1]; rfl)
  rw [e, Nat.add_sub_cancel_left]
theorem dq_84 {c : ByteArray} {p : Nat} (h : (c.data.toList.drop p).take 1 = [84]) : decode c p = .ok (.bastore, 1) := by
  obtain ⟨F, hF, hs⟩ := rd_ops p
  have h1 := rd_cut h
  have e := rd_dec (q := p + 1) hF h1.1 (show (84 : UInt8).toNat = 84 by decide) (by rw [hs.2.2.2.2.2.2.2.2.2.2.2.2.2.2.2.2.2.2.2.2.2.2.2.2.2.2.2.2.2.2.2.2.2.2.2.2.2.2.2.2.2.2.2.2.2.1]; rfl)
  rw [e, Nat.add_sub_cancel_left]
theorem dq_85 {c : ByteArray} {p : Nat} (h : (c.data.toList.drop p).take 1 = [85]) : decode c p = .ok (.castore, 1) := by
  obtain ⟨F, hF, hs⟩ := rd_ops p
  have h1 := rd_cut h
  have e := rd_dec (q := p + 1) hF h1.1 (show (85 : UInt8).toNat = 85 by decide) (by rw [hs.2.2.2.2.2.2.2.2.2.2.2.2.2.2.2.2.2.2.2.2.2.2.2.2.2.2.2.2.2.2.2.2.2.2.2.2.2.2.2.2.2.2.2.2.2.2.1]; rfl)
  rw [e, Nat.add_sub_cancel_left]
theorem dq_87 {c : ByteArray} {p : Nat} (h : (c.data.toList.drop p).take 1 = [87]) : decode c p = .ok (.pop, 1) := by
  obtain ⟨F, hF, hs⟩ := rd_ops p
  have h1 := rd_cut h
  have e := rd_dec (q := p + 1) hF h1.1 (show (87 : UInt8).toNat = 87 by decide) (by rw [hs.2.2.2.2.2.2.2.2.2.2.2.2.2.2.2.2.2.2.2.2.2.2.2.2.2.2.2.2.2.2.2.2.2.2.2.2.2.2.2.2.2.2.2.2.2.2.2.1]; rfl)
  rw [e, Nat.add_sub_cancel_left]
theorem dq_88 {c : ByteArray} {p : Nat} (h : (c.data.toList.drop p).take 1 = [88]) : decode c p = .ok (.pop2, 1) := by
  obtain ⟨F, hF, hs⟩ := rd_ops p
  have h1 := rd_cut h
  have e := rd_dec (q := p + 1) hF h1.1 (show (88 : UInt8).toNat = 88 by decide) (by rw [hs.2.2.2.2.2.2.2.2.2.2.2.2.2.2.2.2.2.2.2.2.2.2.2.2.2.2.2.2.2.2.2.2.2.2.2.2.2.2.2.2.2.2.2.2.2.2.2.2.1]; rfl)
  rw [e, Nat.add_sub_cancel_left]
theorem dq_89 {c : ByteArray} {p : Nat} (h : (c.data.toList.drop p).take 1 = [89]) : decode c p = .ok (.dup, 1) := by
  obtain ⟨F, hF, hs⟩ := rd_ops p
  have h1 := rd_cut h
  have e := rd_dec (q := p + 1) hF h1.1 (show (89 : UInt8).toNat = 89 by decide) (by rw [hs.2.2.2.2.2.2.2.2.2.2.2.2.2.2.2.2.2.2.2.2.2.2.2.2.2.2.2.2.2.2.2.2.2.2.2.2.2.2.2.2.2.2.2.2.2.2.2.2.2.1]; rfl)
  rw [e, Nat.add_sub_cancel_left]
theorem dq_92 {c : ByteArray} {p : Nat} (h : (c.data.toList.drop p).take 1 = [92]) : decode c p = .ok (.dup2, 1) := by
  obtain ⟨F, hF, hs⟩ := rd_ops p
  have h1 := rd_cut h
  have e := rd_dec (q := p + 1) hF h1.1 (show (92 : UInt8).toNat = 92 by decide) (by rw [hs.2.2.2.2.2.2.2.2.2.2.2.2.2.2.2.2.2.2.2.2.2.2.2.2.2.2.2.2.2.2.2.2.2.2.2.2.2.2.2.2.2.2.2.2.2.2.2.2.2.2.1]; rfl)
  rw [e, Nat.add_sub_cancel_left]
theorem dq_96 {c : ByteArray} {p : Nat} (h : (c.data.toList.drop p).take 1 = [96]) : decode c p = .ok (.iadd, 1) := by
  obtain ⟨F, hF, hs⟩ := rd_ops p
  have h1 := rd_cut h
  have e := rd_dec (q := p + 1) hF h1.1 (show (96 : UInt8).toNat = 96 by decide) (by rw [hs.2.2.2.2.2.2.2.2.2.2.2.2.2.2.2.2.2.2.2.2.2.2.2.2.2.2.2.2.2.2.2.2.2.2.2.2.2.2.2.2.2.2.2.2.2.2.2.2.2.2.2.1]; rfl)
  rw [e, Nat.add_sub_cancel_left]
theorem dq_97 {c : ByteArray} {p : Nat} (h : (c.data.toList.drop p).take 1 = [97]) : decode c p = .ok (.ladd, 1) := by
  obtain ⟨F, hF, hs⟩ := rd_ops p
  have h1 := rd_cut h
  have e := rd_dec (q := p + 1) hF h1.1 (show (97 : UInt8).toNat = 97 by decide) (by rw [hs.2.2.2.2.2.2.2.2.2.2.2.2.2.2.2.2.2.2.2.2.2.2.2.2.2.2.2.2.2.2.2.2.2.2.2.2.2.2.2.2.2.2.2.2.2.2.2.2.2.2.2.2.1]; rfl)
  rw [e, Nat.add_sub_cancel_left]
theorem dq_100 {c : ByteArray} {p : Nat} (h : (c.data.toList.drop p).take 1 = [100]) : decode c p = .ok (.isub, 1) := by
  obtain ⟨F, hF, hs⟩ := rd_ops p
  have h1 := rd_cut h
  have e := rd_dec (q := p + 1) hF h1.1 (show (100 : UInt8).toNat = 100 by decide) (by rw [hs.2.2.2.2.2.2.2.2.2.2.2.2.2.2.2.2.2.2.2.2.2.2.2.2.2.2.2.2.2.2.2.2.2.2.2.2.2.2.2.2.2.2.2.2.2.2.2.2.2.2.2.2.2.1]; rfl)
  rw [e, Nat.add_sub_cancel_left]
theorem dq_101 {c : ByteArray} {p : Nat} (h : (c.data.toList.drop p).take 1 = [101]) : decode c p = .ok (.lsub, 1) := by
  obtain ⟨F, hF, hs⟩ := rd_ops p
  have h1 := rd_cut h
  have e := rd_dec (q := p + 1) hF h1.1 (show (101 : UInt8).toNat = 101 by decide) (by rw [hs.2.2.2.2.2.2.2.2.2.2.2.2.2.2.2.2.2.2.2.2.2.2.2.2.2.2.2.2.2.2.2.2.2.2.2.2.2.2.2.2.2.2.2.2.2.2.2.2.2.2.2.2.2.2.1]; rfl)
  rw [e, Nat.add_sub_cancel_left]
theorem dq_104 {c : ByteArray} {p : Nat} (h : (c.data.toList.drop p).take 1 = [104]) : decode c p = .ok (.imul, 1) := by
  obtain ⟨F, hF, hs⟩ := rd_ops p
  have h1 := rd_cut h
  have e := rd_dec (q := p + 1) hF h1.1 (show (104 : UInt8).toNat = 104 by decide) (by rw [hs.2.2.2.2.2.2.2.2.2.2.2.2.2.2.2.2.2.2.2.2.2.2.2.2.2.2.2.2.2.2.2.2.2.2.2.2.2.2.2.2.2.2.2.2.2.2.2.2.2.2.2.2.2.2.2.1]; rfl)
  rw [e, Nat.add_sub_cancel_left]
theorem dq_105 {c : ByteArray} {p : Nat} (h : (c.data.toList.drop p).take 1 = [105]) : decode c p = .ok (.lmul, 1) := by
  obtain ⟨F, hF, hs⟩ := rd_ops p
  have h1 := rd_cut h
  have e := rd_dec (q := p + 1) hF h1.1 (show (105 : UInt8).toNat = 105 by decide) (by rw [hs.2.2.2.2.2.2.2.2.2.2.2.2.2.2.2.2.2.2.2.2.2.2.2.2.2.2.2.2.2.2.2.2.2.2.2.2.2.2.2.2.2.2.2.2.2.2.2.2.2.2.2.2.2.2.2.2.1]; rfl)
  rw [e, Nat.add_sub_cancel_left]
theorem dq_108 {c : ByteArray} {p : Nat} (h : (c.data.toList.drop p).take 1 = [108]) : decode c p = .ok (.idiv, 1) := by
  obtain ⟨F, hF, hs⟩ := rd_ops p
  have h1 := rd_cut h
  have e := rd_dec (q := p + 1) hF h1.1 (show (108 : UInt8).toNat = 108 by decide) (by rw [hs.2.2.2.2.2.2.2.2.2.2.2.2.2.2.2.2.2.2.2.2.2.2.2.2.2.2.2.2.2.2.2.2.2.2.2.2.2.2.2.2.2.2.2.2.2.2.2.2.2.2.2.2.2.2.2.2.2.1]; rfl)
  rw [e, Nat.add_sub_cancel_left]
theorem dq_109 {c : ByteArray} {p : Nat} (h : (c.data.toList.drop p).take 1 = [109]) : decode c p = .ok (.ldiv, 1) := by
  obtain ⟨F, hF, hs⟩ := rd_ops p
  have h1 := rd_cut h
  have e := rd_dec (q := p + 1) hF h1.1 (show (109 : UInt8).toNat = 109 by decide) (by rw [hs.2.2.2.2.2.2.2.2.2.2.2.2.2.2.2.2.2.2.2.2.2.2.2.2.2.2.2.2.2.2.2.2.2.2.2.2.2.2.2.2.2.2.2.2.2.2.2.2.2.2.2.2.2.2.2.2.2.2.1]; rfl)
  rw [e, Nat.add_sub_cancel_left]
theorem dq_112 {c : ByteArray} {p : Nat} (h : (c.data.toList.drop p).take 1 = [112]) : decode c p = .ok (.irem, 1) := by
  obtain ⟨F, hF, hs⟩ := rd_ops p
  have h1 := rd_cut h
  have e := rd_dec (q := p + 1) hF h1.1 (show (112 : UInt8).toNat = 112 by decide) (by rw [hs.2.2.2.2.2.2.2.2.2.2.2.2.2.2.2.2.2.2.2.2.2.2.2.2.2.2.2.2.2.2.2.2.2.2.2.2.2.2.2.2.2.2.2.2.2.2.2.2.2.2.2.2.2.2.2.2.2.2.2.1]; rfl)
  rw [e, Nat.add_sub_cancel_left]
theorem dq_113 {c : ByteArray} {p : Nat} (h : (c.data.toList.drop p).take 1 = [113]) : decode c p = .ok (.lrem, 1) := by
  obtain ⟨F, hF, hs⟩ := rd_ops p
  have h1 := rd_cut h
  have e := rd_dec (q := p + 1) hF h1.1 (show (113 : UInt8).toNat = 113 by decide) (by rw [hs.2.2.2.2.2.2.2.2.2.2.2.2.2.2.2.2.2.2.2.2.2.2.2.2.2.2.2.2.2.2.2.2.2.2.2.2.2.2.2.2.2.2.2.2.2.2.2.2.2.2.2.2.2.2.2.2.2.2.2.2.1]; rfl)
  rw [e, Nat.add_sub_cancel_left]
theorem dq_116 {c : ByteArray} {p : Nat} (h : (c.data.toList.drop p).take 1 = [116]) : decode c p = .ok (.ineg, 1) := by
  obtain ⟨F, hF, hs⟩ := rd_ops p
  have h1 := rd_cut h
  have e := rd_dec (q := p + 1) hF h1.1 (show (116 : UInt8).toNat = 116 by decide) (by rw [hs.2.2.2.2.2.2.2.2.2.2.2.2.2.2.2.2.2.2.2.2.2.2.2.2.2.2.2.2.2.2.2.2.2.2.2.2.2.2.2.2.2.2.2.2.2.2.2.2.2.2.2.2.2.2.2.2.2.2.2.2.2.1]; rfl)
  rw [e, Nat.add_sub_cancel_left]
theorem dq_120 {c : ByteArray} {p : Nat} (h : (c.data.toList.drop p).take 1 = [120]) : decode c p = .ok (.ishl, 1) := by
  obtain ⟨F, hF, hs⟩ := rd_ops p
  have h1 := rd_cut h
  have e := rd_dec (q := p + 1) hF h1.1 (show (120 : UInt8).toNat = 120 by decide) (by rw [hs.2.2.2.2.2.2.2.2.2.2.2.2.2.2.2.2.2.2.2.2.2.2.2.2.2.2.2.2.2.2.2.2.2.2.2.2.2.2.2.2.2.2.2.2.2.2.2.2.2.2.2.2.2.2.2.2.2.2.2.2.2.2.1]; rfl)
  rw [e, Nat.add_sub_cancel_left]
theorem dq_121 {c : ByteArray} {p : Nat} (h : (c.data.toList.drop p).take 1 = [121]) : decode c p = .ok (.lshl, 1) := by
  obtain ⟨F, hF, hs⟩ := rd_ops p
  have h1 := rd_cut h
  have e := rd_dec (q := p + 1) hF h1.1 (show (121 : UInt8).toNat = 121 by decide) (by rw [hs.2.2.2.2.2.2.2.2.2.2.2.2.2.2.2.2.2.2.2.2.2.2.2.2.2.2.2.2.2.2.2.2.2.2.2.2.2.2.2.2.2.2.2.2.2.2.2.2.2.2.2.2.2.2.2.2.2.2.2.2.2.2.2.1]; rfl)
  rw [e, Nat.add_sub_cancel_left]
theorem dq_122 {c : ByteArray} {p : Nat} (h : (c.data.toList.drop p).take 1 = [122]) : decode c p = .ok (.ishr, 1) := by
  obtain ⟨F, hF, hs⟩ := rd_ops p
  have h1 := rd_cut h
  have e := rd_dec (q := p + 1) hF h1.1 (show (122 : UInt8).toNat = 122 by decide) (by rw [hs.2.2.2.2.2.2.2.2.2.2.2.2.2.2.2.2.2.2.2.2.2.2.2.2.2.2.2.2.2.2.2.2.2.2.2.2.2.2.2.2.2.2.2.2.2.2.2.2.2.2.2.2.2.2.2.2.2.2.2.2.2.2.2.2.1]; rfl)
  rw [e, Nat.add_sub_cancel_left]
theorem dq_124 {c : ByteArray} {p : Nat} (h : (c.data.toList.drop p).take 1 = [124]) : decode c p = .ok (.iushr, 1) := by
  obtain ⟨F, hF, hs⟩ := rd_ops p
  have h1 := rd_cut h
  have e := rd_dec (q := p + 1) hF h1.1 (show (124 : UInt8).toNat = 124 by decide) (by rw [hs.2.2.2.2.2.2.2.2.2.2.2.2.2.2.2.2.2.2.2.2.2.2.2.2.2.2.2.2.2.2.2.2.2.2.2.2.2.2.2.2.2.2.2.2.2.2.2.2.2.2.2.2.2.2.2.2.2.2.2.2.2.2.2.2.2.1]; rfl)
  rw [e, Nat.add_sub_cancel_left]
theorem dq_126 {c : ByteArray} {p : Nat} (h : (c.data.toList.drop p).take 1 = [126]) : decode c p = .ok (.iand, 1) := by
  obtain ⟨F, hF, hs⟩ := rd_ops p
  have h1 := rd_cut h
  have e := rd_dec (q := p + 1) hF h1.1 (show (126 : UInt8).toNat = 126 by decide) (by rw [hs.2.2.2.2.2.2.2.2.2.2.2.2.2.2.2.2.2.2.2.2.2.2.2.2.2.2.2.2.2.2.2.2.2.2.2.2.2.2.2.2.2.2.2.2.2.2.2.2.2.2.2.2.2.2.2.2.2.2.2.2.2.2.2.2.2.2.1]; rfl)
  rw [e, Nat.add_sub_cancel_left]
theorem dq_127 {c : ByteArray} {p : Nat} (h : (c.data.toList.drop p).take 1 = [127]) : decode c p = .ok (.land, 1) := by
  obtain ⟨F, hF, hs⟩ := rd_ops p
  have h1 := rd_cut h
  have e := rd_dec (q := p + 1) hF h1.1 (show (127 : UInt8).toNat = 127 by decide) (by rw [hs.2.2.2.2.2.2.2.2.2.2.2.2.2.2.2.2.2.2.2.2.2.2.2.2.2.2.2.2.2.2.2.2.2.2.2.2.2.2.2.2.2.2.2.2.2.2.2.2.2.2.2.2.2.2.2.2.2.2.2.2.2.2.2.2.2.2.2.1]; rfl)
  rw [e, Nat.add_sub_cancel_left]
theorem dq_128 {c : ByteArray} {p : Nat} (h : (c.data.toList.drop p).take 1 = [128]) : decode c p = .ok (.ior, 1) := by
  obtain ⟨F, hF, hs⟩ := rd_ops p
  have h1 := rd_cut h
  have e := rd_dec (q := p + 1) hF h1.1 (show (128 : UInt8).toNat = 128 by decide) (by rw [hs.2.2.2.2.2.2.2.2.2.2.2.2.2.2.2.2.2.2.2.2.2.2.2.2.2.2.2.2.2.2.2.2.2.2.2.2.2.2.2.2.2.2.2.2.2.2.2.2.2.2.2.2.2.2.2.2.2.2.2.2.2.2.2.2.2.2.2.2.1]; rfl)
  rw [e, Nat.add_sub_cancel_left]
theorem dq_129 {c : ByteArray} {p : Nat} (h : (c.data.toList.drop p).take 1 = [129]) : decode c p = .ok (.lor, 1) := by
  obtain ⟨F, hF, hs⟩ := rd_ops p
  have h1 := rd_cut h
  have e := rd_dec (q := p + 1) hF h1.1 (show (129 : UInt8).toNat = 129 by decide) (by rw [hs.2.2.2.2.2.2.2.2.2.2.2.2.2.2.2.2.2.2.2.2.2.2.2.2.2.2.2.2.2.2.2.2.2.2.2.2.2.2.2.2.2.2.2.2.2.2.2.2.2.2.2.2.2.2.2.2.2.2.2.2.2.2.2.2.2.2.2.2.2.1]; rfl)
  rw [e, Nat.add_sub_cancel_left]
theorem dq_132 {c : ByteArray} {p k : Nat} {j : Int} {a b : UInt8} (h : (c.data.toList.drop p).take 3 = [132, a, b]) (hk : a.toNat = k) (hj : Jvm.ClassFile.Reader.signed 8 b.toNat = j) : decode c p = .ok (.iinc k j, 3) := by
  obtain ⟨F, hF, hs⟩ := rd_ops p
  have h1 := rd_cut h
  have h2 := rd_cut h1.2
  have h3 := rd_cut h2.2
  have e := rd_dec (q := p + 3) hF h1.1 (show (132 : UInt8).toNat = 132 by decide) (by rw [hs.2.2.2.2.2.2.2.2.2.2.2.2.2.2.2.2.2.2.2.2.2.2.2.2.2.2.2.2.2.2.2.2.2.2.2.2.2.2.2.2.2.2.2.2.2.2.2.2.2.2.2.2.2.2.2.2.2.2.2.2.2.2.2.2.2.2.2.2.2.2.1, rd_bind (rd_u1 h2.1), rd_bind (rd_s1 h3.1)]; rfl)
  rw [e, hk, hj, Nat.add_sub_cancel_left]
theorem dq_133 {c : ByteArray} {p : Nat} (h : (c.data.toList.drop p).take 1 = [133]) : decode c p = .ok (.i2l, 1) := by
  obtain ⟨F, hF, hs⟩ := rd_ops p
  have h1 := rd_cut h
  have e := rd_dec (q := p + 1) hF h1.1 (show (133 : UInt8).toNat = 133 by decide) (by rw [hs.2.2.2.2.2.2.2.2.2.2.2.2.2.2.2.2.2.2.2.2.2.2.2.2.2.2.2.2.2.2.2.2.2.2.2.2.2.2.2.2.2.2.2.2.2.2.2.2.2.2.2.2.2.2.2.2.2.2.2.2.2.2.2.2.2.2.2.2.2.2.2.1]; rfl)
  rw [e, Nat.add_sub_cancel_left]
theorem dq_136 {c : ByteArray} {p : Nat} (h : (c.data.toList.drop p).take 1 = [136]) : decode c p = .ok (.l2i, 1) := by
  obtain ⟨F, hF, hs⟩ := rd_ops p
  have h1 := rd_cut h
  have e := rd_dec (q := p + 1) hF h1.1 (show (136 : UInt8).toNat = 136 by decide) (by rw [hs.2.2.2.2.2.2.2.2.2.2.2.2.2.2.2.2.2.2.2.2.2.2.2.2.2.2.2.2.2.2.2.2.2.2.2.2.2.2.2.2.2.2.2.2.2.2.2.2.2.2.2.2.2.2.2.2.2.2.2.2.2.2.2.2.2.2.2.2.2.2.2.2.1]; rfl)
  rw [e, Nat.add_sub_cancel_left]
theorem dq_145 {c : ByteArray} {p : Nat} (h : (c.data.toList.drop p).take 1 = [145]) : decode c p = .ok (.i2b, 1) := by
  obtain ⟨F, hF, hs⟩ := rd_ops p
  have h1 := rd_cut h
  have e := rd_dec (q := p + 1) hF h1.1 (show (145 : UInt8).toNat = 145 by decide) (by rw [hs.2.2.2.2.2.2.2.2.2.2.2.2.2.2.2.2.2.2.2.2.2.2.2.2.2.2.2.2.2.2.2.2.2.2.2.2.2.2.2.2.2.2.2.2.2.2.2.2.2.2.2.2.2.2.2.2.2.2.2.2.2.2.2.2.2.2.2.2.2.2.2.2.2.1]; rfl)
  rw [e, Nat.add_sub_cancel_left]
theorem dq_146 {c : ByteArray} {p : Nat} (h : (c.data.toList.drop p).take 1 = [146]) : decode c p = .ok (.i2c, 1) := by
  obtain ⟨F, hF, hs⟩ := rd_ops p
  have h1 := rd_cut h
  have e := rd_dec (q := p + 1) hF h1.1 (show (146 : UInt8).toNat = 146 by decide) (by rw [hs.2.2.2.2.2.2.2.2.2.2.2.2.2.2.2.2.2.2.2.2.2.2.2.2.2.2.2.2.2.2.2.2.2.2.2.2.2.2.2.2.2.2.2.2.2.2.2.2.2.2.2.2.2.2.2.2.2.2.2.2.2.2.2.2.2.2.2.2.2.2.2.2.2.2.1]; rfl)
  rw [e, Nat.add_sub_cancel_left]
theorem dq_147 {c : ByteArray} {p : Nat} (h : (c.data.toList.drop p).take 1 = [147]) : decode c p = .ok (.i2s, 1) := by
  obtain ⟨F, hF, hs⟩ := rd_ops p
  have h1 := rd_cut h
  have e := rd_dec (q := p + 1) hF h1.1 (show (147 : UInt8).toNat = 147 by decide) (by rw [hs.2.2.2.2.2.2.2.2.2.2.2.2.2.2.2.2.2.2.2.2.2.2.2.2.2.2.2.2.2.2.2.2.2.2.2.2.2.2.2.2.2.2.2.2.2.2.2.2.2.2.2.2.2.2.2.2.2.2.2.2.2.2.2.2.2.2.2.2.2.2.2.2.2.2.2.1]; rfl)
  rw [e, Nat.add_sub_cancel_left]
theorem dq_148 {c : ByteArray} {p : Nat} (h : (c.data.toList.drop p).take 1 = [148]) : decode c p = .ok (.lcmp, 1) := by
  obtain ⟨F, hF, hs⟩ := rd_ops p
  have h1 := rd_cut h
  have e := rd_dec (q := p + 1) hF h1.1 (show (148 : UInt8).toNat = 148 by decide) (by rw [hs.2.2.2.2.2.2.2.2.2.2.2.2.2.2.2.2.2.2.2.2.2.2.2.2.2.2.2.2.2.2.2.2.2.2.2.2.2.2.2.2.2.2.2.2.2.2.2.2.2.2.2.2.2.2.2.2.2.2.2.2.2.2.2.2.2.2.2.2.2.2.2.2.2.2.2.2.1]; rfl)
  rw [e, Nat.add_sub_cancel_left]
theorem dq_153 {c : ByteArray} {p : Nat} {k : Int} {a b : UInt8} (h : (c.data.toList.drop p).take 3 = [153, a, b]) (hk : Jvm.ClassFile.Reader.signed 16 (a.toNat * 256 + b.toNat) = k) : decode c p = .ok (.ifCond .eq k, 3) := by
  obtain ⟨F, hF, hs⟩ := rd_ops p
  have h1 := rd_cut h
  have e := rd_dec (q := p + 3) hF h1.1 (show (153 : UInt8).toNat = 153 by decide) (by rw [hs.2.2.2.2.2.2.2.2.2.2.2.2.2.2.2.2.2.2.2.2.2.2.2.2.2.2.2.2.2.2.2.2.2.2.2.2.2.2.2.2.2.2.2.2.2.2.2.2.2.2.2.2.2.2.2.2.2.2.2.2.2.2.2.2.2.2.2.2.2.2.2.2.2.2.2.2.2.1, rd_bind (rd_s2 h1.2)]; rfl)
  rw [e, hk, Nat.add_sub_cancel_left]
theorem dq_154 {c : ByteArray} {p : Nat} {k : Int} {a b : UInt8} (h : (c.data.toList.drop p).take 3 = [154, a, b]) (hk : Jvm.ClassFile.Reader.signed 16 (a.toNat * 256 + b.toNat) = k) : decode c p = .ok (.ifCond .ne k, 3) := by
  obtain ⟨F, hF, hs⟩ := rd_ops p
  have h1 := rd_cut h
  have e := rd_dec (q := p + 3) hF h1.1 (show (154 : UInt8).toNat = 154 by decide) (by rw [hs.2.2.2.2.2.2.2.2.2.2.2.2.2.2.2.2.2.2.2.2.2.2.2.2.2.2.2.2.2.2.2.2.2.2.2.2.2.2.2.2.2.2.2.2.2.2.2.2.2.2.2.2.2.2.2.2.2.2.2.2.2.2.2.2.2.2.2.2.2.2.2.2.2.2.2.2.2.2.1, rd_bind (rd_s2 h1.2)]; rfl)
  rw [e, hk, Nat.add_sub_cancel_left]
theorem dq_155 {c : ByteArray} {p : Nat} {k : Int} {a b : UInt8} (h : (c.data.toList.drop p).take 3 = [155, a, b]) (hk : Jvm.ClassFile.Reader.signed 16 (a.toNat * 256 + b.toNat) = k) : decode c p = .ok (.ifCond .lt k, 3) := by
  obtain ⟨F, hF, hs⟩ := rd_ops p
  have h1 := rd_cut h
  have e := rd_dec (q := p + 3) hF h1.1 (show (155 : UInt8).toNat = 155 by decide) (by rw [hs.2.2.2.2.2.2.2.2.2.2.2.2.2.2.2.2.2.2.2.2.2.2.2.2.2.2.2.2.2.2.2.2.2.2.2.2.2.2.2.2.2.2.2.2.2.2.2.2.2.2.2.2.2.2.2.2.2.2.2.2.2.2.2.2.2.2.2.2.2.2.2.2.2.2.2.2.2.2.2.1, rd_bind (rd_s2 h1.2)]; rfl)
  rw [e, hk, Nat.add_sub_cancel_left]
theorem dq_156 {c : ByteArray} {p : Nat} {k : Int} {a b : UInt8} (h : (c.data.toList.drop p).take 3 = [156, a, b]) (hk : Jvm.ClassFile.Reader.signed 16 (a.toNat * 256 + b.toNat) = k) : decode c p = .ok (.ifCond .ge k, 3) := by
  obtain ⟨F, hF, hs⟩ := rd_ops p
  have h1 := rd_cut h
  have e := rd_dec (q := p + 3) hF h1.1 (show (156 : UInt8).toNat = 156 by decide) (by rw [hs.2.2.2.2.2.2.2.2.2.2.2.2.2.2.2.2.2.2.2.2.2.2.2.2.2.2.2.2.2.2.2.2.2.2.2.2.2.2.2.2.2.2.2.2.2.2.2.2.2.2.2.2.2.2.2.2.2.2.2.2.2.2.2.2.2.2.2.2.2.2.2.2.2.2.2.2.2.2.2.2.1, rd_bind (rd_s2 h1.2)]; rfl)
  rw [e, hk, Nat.add_sub_cancel_left]
theorem dq_157 {c : ByteArray} {p : Nat} {k : Int} {a b : UInt8} (h : (c.data.toList.drop p).take 3 = [157, a, b]) (hk : Jvm.ClassFile.Reader.signed 16 (a.toNat * 256 + b.toNat) = k) : decode c p = .ok (.ifCond .gt k, 3) := by
  obtain ⟨F, hF, hs⟩ := rd_ops p
  have h1 := rd_cut h
  have e := rd_dec (q := p + 3) hF h1.1 (show (157 : UInt8).toNat = 157 by decide) (by rw [hs.2.2.2.2.2.2.2.2.2.2.2.2.2.2.2.2.2.2.2.2.2.2.2.2.2.2.2.2.2.2.2.2.2.2.2.2.2.2.2.2.2.2.2.2.2.2.2.2.2.2.2.2.2.2.2.2.2.2.2.2.2.2.2.2.2.2.2.2.2.2.2.2.2.2.2.2.2.2.2.2.2.1, rd_bind (rd_s2 h1.2)]; rfl)
  rw [e, hk, Nat.add_sub_cancel_left]
theorem dq_158 {c : ByteArray} {p : Nat} {k : Int} {a b : UInt8} (h : (c.data.toList.drop p).take 3 = [158, a, b]) (hk : Jvm.ClassFile.Reader.signed 16 (a.toNat * 256 + b.toNat) = k) : decode c p = .ok (.ifCond .le k, 3) := by
  obtain ⟨F, hF, hs⟩ := rd_ops p
  have h1 := rd_cut h
  have e := rd_dec (q := p + 3) hF h1.1 (show (158 : UInt8).toNat = 158 by decide) (by rw [hs.2.2.2.2.2.2.2.2.2.2.2.2.2.2.2.2.2.2.2.2.2.2.2.2.2.2.2.2.2.2.2.2.2.2.2.2.2.2.2.2.2.2.2.2.2.2.2.2.2.2.2.2.2.2.2.2.2.2.2.2.2.2.2.2.2.2.2.2.2.2.2.2.2.2.2.2.2.2.2.2.2.2.1, rd_bind (rd_s2 h1.2)]; rfl)
  rw [e, hk, Nat.add_sub_cancel_left]
theorem dq_159 {c : ByteArray} {p : Nat} {k : Int} {a b : UInt8} (h : (c.data.toList.drop p).take 3 = [159, a, b]) (hk : Jvm.ClassFile.Reader.signed 16 (a.toNat * 256 + b.toNat) = k) : decode c p = .ok (.if_icmp .eq k, 3) := by
  obtain ⟨F, hF, hs⟩ := rd_ops p
  have h1 := rd_cut h
  have e := rd_dec (q := p + 3) hF h1.1 (show (159 : UInt8).toNat = 159 by decide) (by rw [hs.2.2.2.2.2.2.2.2.2.2.2.2.2.2.2.2.2.2.2.2.2.2.2.2.2.2.2.2.2.2.2.2.2.2.2.2.2.2.2.2.2.2.2.2.2.2.2.2.2.2.2.2.2.2.2.2.2.2.2.2.2.2.2.2.2.2.2.2.2.2.2.2.2.2.2.2.2.2.2.2.2.2.2.1, rd_bind (rd_s2 h1.2)]; rfl)
  rw [e, hk, Nat.add_sub_cancel_left]
theorem dq_160 {c : ByteArray} {p : Nat} {k : Int} {a b : UInt8} (h : (c.data.toList.drop p).take 3 = [160, a, b]) (hk : Jvm.ClassFile.Reader.signed 16 (a.toNat * 256 + b.toNat) = k) : decode c p = .ok (.if_icmp .ne k, 3) := by
  obtain ⟨F, hF, hs⟩ := rd_ops p
  have h1 := rd_cut h
  have e := rd_dec (q := p + 3) hF h1.1 (show (160 : UInt8).toNat = 160 by decide) (by rw [hs.2.2.2.2.2.2.2.2.2.2.2.2.2.2.2.2.2.2.2.2.2.2.2.2.2.2.2.2.2.2.2.2.2.2.2.2.2.2.2.2.2.2.2.2.2.2.2.2.2.2.2.2.2.2.2.2.2.2.2.2.2.2.2.2.2.2.2.2.2.2.2.2.2.2.2.2.2.2.2.2.2.2.2.2.1, rd_bind (rd_s2 h1.2)]; rfl)
  rw [e, hk, Nat.add_sub_cancel_left]
theorem dq_161 {c : ByteArray} {p : Nat} {k : Int} {a b : UInt8} (h : (c.data.toList.drop p).take 3 = [161, a, b]) (hk : Jvm.ClassFile.Reader.signed 16 (a.toNat * 256 + b.toNat) = k) : decode c p = .ok (.if_icmp .lt k, 3) := by
  obtain ⟨F, hF, hs⟩ := rd_ops p
  have h1 := rd_cut h
  have e := rd_dec (q := p + 3) hF h1.1 (show (161 : UInt8).toNat = 161 by decide) (by rw [hs.2.2.2.2.2.2.2.2.2.2.2.2.2.2.2.2.2.2.2.2.2.2.2.2.2.2.2.2.2.2.2.2.2.2.2.2.2.2.2.2.2.2.2.2.2.2.2.2.2.2.2.2.2.2.2.2.2.2.2.2.2.2.2.2.2.2.2.2.2.2.2.2.2.2.2.2.2.2.2.2.2.2.2.2.2.1, rd_bind (rd_s2 h1.2)]; rfl)
  rw [e, hk, Nat.add_sub_cancel_left]
theorem dq_162 {c : ByteArray} {p : Nat} {k : Int} {a b : UInt8} (h : (c.data.toList.drop p).take 3 = [162, a, b]) (hk : Jvm.ClassFile.Reader.signed 16 (a.toNat * 256 + b.toNat) = k) : decode c p = .ok (.if_icmp .ge k, 3) := by
  obtain ⟨F, hF, hs⟩ := rd_ops p
  have h1 := rd_cut h
  have e := rd_dec (q := p + 3) hF h1.1 (show (162 : UInt8).toNat = 162 by decide) (by rw [hs.2.2.2.2.2.2.2.2.2.2.2.2.2.2.2.2.2.2.2.2.2.2.2.2.2.2.2.2.2.2.2.2.2.2.2.2.2.2.2.2.2.2.2.2.2.2.2.2.2.2.2.2.2.2.2.2.2.2.2.2.2.2.2.2.2.2.2.2.2.2.2.2.2.2.2.2.2.2.2.2.2.2.2.2.2.2.1, rd_bind (rd_s2 h1.2)]; rfl)
  rw [e, hk, Nat.add_sub_cancel_left]
theorem dq_163 {c : ByteArray} {p : Nat} {k : Int} {a b : UInt8} (h : (c.data.toList.drop p).take 3 = [163, a, b]) (hk : Jvm.ClassFile.Reader.signed 16 (a.toNat * 256 + b.toNat) = k) : decode c p = .ok (.if_icmp .gt k, 3) := by
  obtain ⟨F, hF, hs⟩ := rd_ops p
  have h1 := rd_cut h
  have e := rd_dec (q := p + 3) hF h1.1 (show (163 : UInt8).toNat = 163 by decide) (by rw [hs.2.2.2.2.2.2.2.2.2.2.2.2.2.2.2.2.2.2.2.2.2.2.2.2.2.2.2.2.2.2.2.2.2.2.2.2.2.2.2.2.2.2.2.2.2.2.2.2.2.2.2.2.2.2.2.2.2.2.2.2.2.2.2.2.2.2.2.2.2.2.2.2.2.2.2.2.2.2.2.2.2.2.2.2.2.2.2.1, rd_bind (rd_s2 h1.2)]; rfl)
  rw [e, hk, Nat.add_sub_cancel_left]
theorem dq_164 {c : ByteArray} {p : Nat} {k : Int} {a b : UInt8} (h : (c.data.toList.drop p).take 3 = [164, a, b]) (hk : Jvm.ClassFile.Reader.signed 16 (a.toNat * 256 + b.toNat) = k) : decode c p = .ok (.if_icmp .le k, 3) := by
  obtain ⟨F, hF, hs⟩ := rd_ops p
  have h1 := rd_cut h
  have e := rd_dec (q := p + 3) hF h1.1 (show (164 : UInt8).toNat = 164 by decide) (by rw [hs.2.2.2.2.2.2.2.2.2.2.2.2.2.2.2.2.2.2.2.2.2.2.2.2.2.2.2.2.2.2.2.2.2.2.2.2.2.2.2.2.2.2.2.2.2.2.2.2.2.2.2.2.2.2.2.2.2.2.2.2.2.2.2.2.2.2.2.2.2.2.2.2.2.2.2.2.2.2.2.2.2.2.2.2.2.2.2.2.1, rd_bind (rd_s2 h1.2)]; rfl)
  rw [e, hk, Nat.add_sub_cancel_left]
theorem dq_167 {c : ByteArray} {p : Nat} {k : Int} {a b : UInt8} (h : (c.data.toList.drop p).take 3 = [167, a, b]) (hk : Jvm.ClassFile.Reader.signed 16 (a.toNat * 256 + b.toNat) = k) : decode c p = .ok (.goto k, 3) := by
  obtain ⟨F, hF, hs⟩ := rd_ops p
  have h1 := rd_cut h
  have e := rd_dec (q := p + 3) hF h1.1 (show (167 : UInt8).toNat = 167 by decide) (by rw [hs.2.2.2.2.2.2.2.2.2.2.2.2.2.2.2.2.2.2.2.2.2.2.2.2.2.2.2.2.2.2.2.2.2.2.2.2.2.2.2.2.2.2.2.2.2.2.2.2.2.2.2.2.2.2.2.2.2.2.2.2.2.2.2.2.2.2.2.2.2.2.2.2.2.2.2.2.2.2.2.2.2.2.2.2.2.2.2.2.2.1, rd_bind (rd_s2 h1.2)]; rfl)
  rw [e, hk, Nat.add_sub_cancel_left]
theorem dq_172 {c : ByteArray} {p : Nat} (h : (c.data.toList.drop p).take 1 = [172]) : decode c p = .ok (.ireturn, 1) := by
  obtain ⟨F, hF, hs⟩ := rd_ops p
  have h1 := rd_cut h
  have e := rd_dec (q := p + 1) hF h1.1 (show (172 : UInt8).toNat = 172 by decide) (by rw [hs.2.2.2.2.2.2.2.2.2.2.2.2.2.2.2.2.2.2.2.2.2.2.2.2.2.2.2.2.2.2.2.2.2.2.2.2.2.2.2.2.2.2.2.2.2.2.2.2.2.2.2.2.2.2.2.2.2.2.2.2.2.2.2.2.2.2.2.2.2.2.2.2.2.2.2.2.2.2.2.2.2.2.2.2.2.2.2.2.2.2.1]; rfl)
  rw [e, Nat.add_sub_cancel_left]
theorem dq_173 {c : ByteArray} {p : Nat} (h : (c.data.toList.drop p).take 1 = [173]) : decode c p = .ok (.lreturn, 1) := by
  obtain ⟨F, hF, hs⟩ := rd_ops p
  have h1 := rd_cut h
  have e := rd_dec (q := p + 1) hF h1.1 (show (173 : UInt8).toNat = 173 by decide) (by rw [hs.2.2.2.2.2.2.2.2.2.2.2.2.2.2.2.2.2.2.2.2.2.2.2.2.2.2.2.2.2.2.2.2.2.2.2.2.2.2.2.2.2.2.2.2.2.2.2.2.2.2.2.2.2.2.2.2.2.2.2.2.2.2.2.2.2.2.2.2.2.2.2.2.2.2.2.2.2.2.2.2.2.2.2.2.2.2.2.2.2.2.2.1]; rfl)
  rw [e, Nat.add_sub_cancel_left]
theorem dq_176 {c : ByteArray} {p : Nat} (h : (c.data.toList.drop p).take 1 = [176]) : decode c p = .ok (.areturn, 1) := by
  obtain ⟨F, hF, hs⟩ := rd_ops p
  have h1 := rd_cut h
  have e := rd_dec (q := p + 1) hF h1.1 (show (176 : UInt8).toNat = 176 by decide) (by rw [hs.2.2.2.2.2.2.2.2.2.2.2.2.2.2.2.2.2.2.2.2.2.2.2.2.2.2.2.2.2.2.2.2.2.2.2.2.2.2.2.2.2.2.2.2.2.2.2.2.2.2.2.2.2.2.2.2.2.2.2.2.2.2.2.2.2.2.2.2.2.2.2.2.2.2.2.2.2.2.2.2.2.2.2.2.2.2.2.2.2.2.2.2.1]; rfl)
  rw [e, Nat.add_sub_cancel_left]
theorem dq_177 {c : ByteArray} {p : Nat} (h : (c.data.toList.drop p).take 1 = [177]) : decode c p = .ok (.return_, 1) := by
  obtain ⟨F, hF, hs⟩ := rd_ops p
  have h1 := rd_cut h
  have e := rd_dec (q := p + 1) hF h1.1 (show (177 : UInt8).toNat = 177 by decide) (by rw [hs.2.2.2.2.2.2.2.2.2.2.2.2.2.2.2.2.2.2.2.2.2.2.2.2.2.2.2.2.2.2.2.2.2.2.2.2.2.2.2.2.2.2.2.2.2.2.2.2.2.2.2.2.2.2.2.2.2.2.2.2.2.2.2.2.2.2.2.2.2.2.2.2.2.2.2.2.2.2.2.2.2.2.2.2.2.2.2.2.2.2.2.2.2.1]; rfl)
  rw [e, Nat.add_sub_cancel_left]
theorem dq_178 {c : ByteArray} {p : Nat} {k : Nat} {a b : UInt8} (h : (c.data.toList.drop p).take 3 = [178, a, b]) (hk : a.toNat * 256 + b.toNat = k) : decode c p = .ok (.getstatic k, 3) := by
  obtain ⟨F, hF, hs⟩ := rd_ops p
  have h1 := rd_cut h
  have e := rd_dec (q := p + 3) hF h1.1 (show (178 : UInt8).toNat = 178 by decide) (by rw [hs.2.2.2.2.2.2.2.2.2.2.2.2.2.2.2.2.2.2.2.2.2.2.2.2.2.2.2.2.2.2.2.2.2.2.2.2.2.2.2.2.2.2.2.2.2.2.2.2.2.2.2.2.2.2.2.2.2.2.2.2.2.2.2.2.2.2.2.2.2.2.2.2.2.2.2.2.2.2.2.2.2.2.2.2.2.2.2.2.2.2.2.2.2.2.1, rd_bind (rd_u2 h1.2)]; rfl)
  rw [e, hk, Nat.add_sub_cancel_left]
theorem dq_180 {c : ByteArray} {p : Nat} {k : Nat} {a b : UInt8} (h : (c.data.toList.drop p).take 3 = [180, a, b]) (hk : a.toNat * 256 + b.toNat = k) : decode c p = .ok (.getfield k, 3) := by
  obtain ⟨F, hF, hs⟩ := rd_ops p
  have h1 := rd_cut h
  have e := rd_dec (q := p + 3) hF h1.1 (show (180 : UInt8).toNat = 180 by decide) (by rw [hs.2.2.2.2.2.2.2.2.2.2.2.2.2.2.2.2.2.2.2.2.2.2.2.2.2.2.2.2.2.2.2.2.2.2.2.2.2.2.2.2.2.2.2.2.2.2.2.2.2.2.2.2.2.2.2.2.2.2.2.2.2.2.2.2.2.2.2.2.2.2.2.2.2.2.2.2.2.2.2.2.2.2.2.2.2.2.2.2.2.2.2.2.2.2.2.1, rd_bind (rd_u2 h1.2)]; rfl)
  rw [e, hk, Nat.add_sub_cancel_left]
theorem dq_181 {c : ByteArray} {p : Nat} {k : Nat} {a b : UInt8} (h : (c.data.toList.drop p).take 3 = [181, a, b]) (hk : a.toNat * 256 + b.toNat = k) : decode c p = .ok (.putfield k, 3) := by
  obtain ⟨F, hF, hs⟩ := rd_ops p
  have h1 := rd_cut h
  have e := rd_dec (q := p + 3) hF h1.1 (show (181 : UInt8).toNat = 181 by decide) (by rw [hs.2.2.2.2.2.2.2.2.2.2.2.2.2.2.2.2.2.2.2.2.2.2.2.2.2.2.2.2.2.2.2.2.2.2.2.2.2.2.2.2.2.2.2.2.2.2.2.2.2.2.2.2.2.2.2.2.2.2.2.2.2.2.2.2.2.2.2.2.2.2.2.2.2.2.2.2.2.2.2.2.2.2.2.2.2.2.2.2.2.2.2.2.2.2.2.2.1, rd_bind (rd_u2 h1.2)]; rfl)
  rw [e, hk, Nat.add_sub_cancel_left]
theorem dq_182 {c : ByteArray} {p : Nat} {k : Nat} {a b : UInt8} (h : (c.data.toList.drop p).take 3 = [182, a, b]) (hk : a.toNat * 256 + b.toNat = k) : decode c p = .ok (.invokevirtual k, 3) := by
  obtain ⟨F, hF, hs⟩ := rd_ops p
  have h1 := rd_cut h
  have e := rd_dec (q := p + 3) hF h1.1 (show (182 : UInt8).toNat = 182 by decide) (by rw [hs.2.2.2.2.2.2.2.2.2.2.2.2.2.2.2.2.2.2.2.2.2.2.2.2.2.2.2.2.2.2.2.2.2.2.2.2.2.2.2.2.2.2.2.2.2.2.2.2.2.2.2.2.2.2.2.2.2.2.2.2.2.2.2.2.2.2.2.2.2.2.2.2.2.2.2.2.2.2.2.2.2.2.2.2.2.2.2.2.2.2.2.2.2.2.2.2.2.1, rd_bind (rd_u2 h1.2)]; rfl)
  rw [e, hk, Nat.add_sub_cancel_left]
theorem dq_183 {c : ByteArray} {p : Nat} {k : Nat} {a b : UInt8} (h : (c.data.toList.drop p).take 3 = [183, a, b]) (hk : a.toNat * 256 + b.toNat = k) : decode c p = .ok (.invokespecial k, 3) := by
  obtain ⟨F, hF, hs⟩ := rd_ops p
  have h1 := rd_cut h
  have e := rd_dec (q := p + 3) hF h1.1 (show (183 : UInt8).toNat = 183 by decide) (by rw [hs.2.2.2.2.2.2.2.2.2.2.2.2.2.2.2.2.2.2.2.2.2.2.2.2.2.2.2.2.2.2.2.2.2.2.2.2.2.2.2.2.2.2.2.2.2.2.2.2.2.2.2.2.2.2.2.2.2.2.2.2.2.2.2.2.2.2.2.2.2.2.2.2.2.2.2.2.2.2.2.2.2.2.2.2.2.2.2.2.2.2.2.2.2.2.2.2.2.2.1, rd_bind (rd_u2 h1.2)]; rfl)
  rw [e, hk, Nat.add_sub_cancel_left]
theorem dq_184 {c : ByteArray} {p : Nat} {k : Nat} {a b : UInt8} (h : (c.data.toList.drop p).take 3 = [184, a, b]) (hk : a.toNat * 256 + b.toNat = k) : decode c p = .ok (.invokestatic k, 3) := by
  obtain ⟨F, hF, hs⟩ := rd_ops p
  have h1 := rd_cut h
  have e := rd_dec (q := p + 3) hF h1.1 (show (184 : UInt8).toNat = 184 by decide) (by rw [hs.2.2.2.2.2.2.2.2.2.2.2.2.2.2.2.2.2.2.2.2.2.2.2.2.2.2.2.2.2.2.2.2.2.2.2.2.2.2.2.2.2.2.2.2.2.2.2.2.2.2.2.2.2.2.2.2.2.2.2.2.2.2.2.2.2.2.2.2.2.2.2.2.2.2.2.2.2.2.2.2.2.2.2.2.2.2.2.2.2.2.2.2.2.2.2.2.2.2.2.1, rd_bind (rd_u2 h1.2)]; rfl)
  rw [e, hk, Nat.add_sub_cancel_left]
theorem dq_187 {c : ByteArray} {p : Nat} {k : Nat} {a b : UInt8} (h : (c.data.toList.drop p).take 3 = [187, a, b]) (hk : a.toNat * 256 + b.toNat = k) : decode c p = .ok (.new k, 3) := by
  obtain ⟨F, hF, hs⟩ := rd_ops p
  have h1 := rd_cut h
  have e := rd_dec (q := p + 3) hF h1.1 (show (187 : UInt8).toNat = 187 by decide) (by rw [hs.2.2.2.2.2.2.2.2.2.2.2.2.2.2.2.2.2.2.2.2.2.2.2.2.2.2.2.2.2.2.2.2.2.2.2.2.2.2.2.2.2.2.2.2.2.2.2.2.2.2.2.2.2.2.2.2.2.2.2.2.2.2.2.2.2.2.2.2.2.2.2.2.2.2.2.2.2.2.2.2.2.2.2.2.2.2.2.2.2.2.2.2.2.2.2.2.2.2.2.2.1, rd_bind (rd_u2 h1.2)]; rfl)
  rw [e, hk, Nat.add_sub_cancel_left]
theorem dq_190 {c : ByteArray} {p : Nat} (h : (c.data.toList.drop p).take 1 = [190]) : decode c p = .ok (.arraylength, 1) := by
  obtain ⟨F, hF, hs⟩ := rd_ops p
  have h1 := rd_cut h
  have e := rd_dec (q := p + 1) hF h1.1 (show (190 : UInt8).toNat = 190 by decide) (by rw [hs.2.2.2.2.2.2.2.2.2.2.2.2.2.2.2.2.2.2.2.2.2.2.2.2.2.2.2.2.2.2.2.2.2.2.2.2.2.2.2.2.2.2.2.2.2.2.2.2.2.2.2.2.2.2.2.2.2.2.2.2.2.2.2.2.2.2.2.2.2.2.2.2.2.2.2.2.2.2.2.2.2.2.2.2.2.2.2.2.2.2.2.2.2.2.2.2.2.2.2.2.2]; rfl)
  rw [e, Nat.add_sub_cancel_left]
