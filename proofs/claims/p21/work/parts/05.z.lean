/-! Instructions read off a method's bytes in one walk. -/
theorem dk_u1 {code : ByteArray} {p : Nat} {x : UInt8} {t : List UInt8} (h : code.data.toList.drop p = x :: t) : (Reader.u1 : Decoder Nat) code p = .ok (x.toNat, p + 1) := by
  obtain ⟨⟨L⟩⟩ := code
  have h : L.drop p = x :: t := h
  have h0 : (L.drop p)[0]? = some x := by rw [h]; rfl
  rw [List.getElem?_drop, Nat.add_zero] at h0
  obtain ⟨hp, hx⟩ := List.getElem?_eq_some_iff.mp h0
  have hp' : p < (ByteArray.mk ⟨L⟩).size := hp
  have e : (Reader.u1 : Decoder Nat) (ByteArray.mk ⟨L⟩) p = (if h : p < (ByteArray.mk ⟨L⟩).size then Except.ok ((ByteArray.mk ⟨L⟩)[p].toNat, p + 1) else Except.error (HasTruncated.truncated p)) := by
    by_cases c : p < (ByteArray.mk ⟨L⟩).size
    · rw [dif_pos c]
      show (dite (p < (ByteArray.mk ⟨L⟩).size) _ _ : Decoder Nat) _ _ = _
      rw [dif_pos c]
      rfl
    · exact absurd hp' c
  rw [e, dif_pos hp']
  exact congrArg (fun y : UInt8 => Except.ok (y.toNat, p + 1)) hx
theorem dk_dr {L t : List UInt8} {p : Nat} {x : UInt8} (h : L.drop p = x :: t) : L.drop (p + 1) = t := by
  rw [← List.drop_drop, h]
  rfl
section DK
variable {code : ByteArray} {p pc n x : Nat} {t : List UInt8}
theorem dk_u2 {a b : UInt8} (h : code.data.toList.drop p = a :: b :: t) : (Reader.u2 : Decoder Nat) code p = .ok (a.toNat * 256 + b.toNat, p + 2) := by
  have h1 := dk_u1 h
  have h2 := dk_u1 (dk_dr h)
  show Except.bind ((Reader.u1 : Decoder Nat) code p) (fun z => Except.bind ((Reader.u1 : Decoder Nat) code z.2) (fun y => Except.ok (z.1 * 256 + y.1, y.2))) = _
  rw [h1]
  show Except.bind ((Reader.u1 : Decoder Nat) code (p + 1)) _ = _
  rw [h2]
  rfl
theorem dk_s1 {v q : Nat} (h : (Reader.u1 : Decoder Nat) code p = .ok (v, q)) : (Reader.s1 : Decoder Int) code p = .ok (Reader.signed 8 v, q) := by
  show Except.bind ((Reader.u1 : Decoder Nat) code p) (fun z => Except.ok (Reader.signed 8 z.1, z.2)) = _
  rw [h]
  rfl
theorem dk_s2 {v q : Nat} (h : (Reader.u2 : Decoder Nat) code p = .ok (v, q)) : (Reader.s2 : Decoder Int) code p = .ok (Reader.signed 16 v, q) := by
  show Except.bind ((Reader.u2 : Decoder Nat) code p) (fun z => Except.ok (Reader.signed 16 z.1, z.2)) = _
  rw [h]
  rfl
theorem dk_bp {α : Type} {r : Decoder α} {f : α → Instr} {v : α} {q : Nat} (h : r code p = .ok (v, q)) : (r >>= fun m => Pure.pure (f m) : Decoder Instr) code p = .ok (f v, q) := by
  show Except.bind (r code p) (fun z => Except.ok (f z.1, z.2)) = _
  rw [h]
  rfl
theorem dk_dec {F : Nat → Decoder Instr} {op : Nat} {i : Instr} {q : Nat} (e : Decoder.instr pc = (Reader.u1 >>= F)) (h1 : (Reader.u1 : Decoder Nat) code pc = .ok (op, pc + 1)) (h2 : F op code (pc + 1) = .ok (i, q)) (hn : q - pc = n) : decode code pc = .ok (i, n) := by
  have g : (Decoder.instr pc) code pc = .ok (i, q) := by
    rw [e]
    show Except.bind ((Reader.u1 : Decoder Nat) code pc) (fun z => F z.1 code z.2) = _
    rw [h1]
    exact h2
  unfold decode
  show Except.bind ((Decoder.instr pc) code pc) (fun z => Except.ok (z.1, z.2 - pc)) = _
  rw [g, ← hn]
  rfl
def dk_2 (t : List UInt8) (m : Nat) : Bool := match t with
  | a :: b :: _ => Nat.beq (a.toNat * 256 + b.toNat) m
  | _ => false
def dk_z (t : List UInt8) (m : Int) : Bool := match t with
  | a :: b :: _ => decide (Reader.signed 16 (a.toNat * 256 + b.toNat) = m)
  | _ => false
def dk_1 (t : List UInt8) (m : Nat) : Bool := match t with
  | a :: _ => Nat.beq a.toNat m
  | _ => false
def dk_y (t : List UInt8) (m : Int) : Bool := match t with
  | a :: _ => decide (Reader.signed 8 a.toNat = m)
  | _ => false
def dk_i (t : List UInt8) (m : Nat) (c : Int) : Bool := match t with
  | a :: b :: _ => Nat.beq a.toNat m && decide (Reader.signed 8 b.toNat = c)
  | _ => false
def dk_o : ClassFile.Cond → Nat
  | .eq => 0
  | .ne => 1
  | .lt => 2
  | .ge => 3
  | .gt => 4
  | .le => 5
set_option maxRecDepth 8000 in
def dk_c (i : Instr) (n x : Nat) (t : List UInt8) : Bool := match i with
  | .iaload => Nat.beq x 46 && Nat.beq n 1
  | .baload => Nat.beq x 51 && Nat.beq n 1
  | .aaload => Nat.beq x 50 && Nat.beq n 1
  | .iastore => Nat.beq x 79 && Nat.beq n 1
  | .bastore => Nat.beq x 84 && Nat.beq n 1
  | .iadd => Nat.beq x 96 && Nat.beq n 1
  | .isub => Nat.beq x 100 && Nat.beq n 1
  | .imul => Nat.beq x 104 && Nat.beq n 1
  | .idiv => Nat.beq x 108 && Nat.beq n 1
  | .irem => Nat.beq x 112 && Nat.beq n 1
  | .ladd => Nat.beq x 97 && Nat.beq n 1
  | .lmul => Nat.beq x 105 && Nat.beq n 1
  | .ldiv => Nat.beq x 109 && Nat.beq n 1
  | .lrem => Nat.beq x 113 && Nat.beq n 1
  | .lcmp => Nat.beq x 148 && Nat.beq n 1
  | .i2l => Nat.beq x 133 && Nat.beq n 1
  | .l2i => Nat.beq x 136 && Nat.beq n 1
  | .i2b => Nat.beq x 145 && Nat.beq n 1
  | .pop => Nat.beq x 87 && Nat.beq n 1
  | .pop2 => Nat.beq x 88 && Nat.beq n 1
  | .dup => Nat.beq x 89 && Nat.beq n 1
  | .dup2 => Nat.beq x 92 && Nat.beq n 1
  | .iand => Nat.beq x 126 && Nat.beq n 1
  | .ior => Nat.beq x 128 && Nat.beq n 1
  | .ixor => Nat.beq x 130 && Nat.beq n 1
  | .ishl => Nat.beq x 120 && Nat.beq n 1
  | .ishr => Nat.beq x 122 && Nat.beq n 1
  | .ineg => Nat.beq x 116 && Nat.beq n 1
  | .arraylength => Nat.beq x 190 && Nat.beq n 1
  | .ireturn => Nat.beq x 172 && Nat.beq n 1
  | .lreturn => Nat.beq x 173 && Nat.beq n 1
  | .return_ => Nat.beq x 177 && Nat.beq n 1
  | .iload_n k => Nat.beq x (26 + k.val) && Nat.beq n 1
  | .lload_n k => Nat.beq x (30 + k.val) && Nat.beq n 1
  | .aload_n k => Nat.beq x (42 + k.val) && Nat.beq n 1
  | .istore_n k => Nat.beq x (59 + k.val) && Nat.beq n 1
  | .lstore_n k => Nat.beq x (63 + k.val) && Nat.beq n 1
  | .astore_n k => Nat.beq x (75 + k.val) && Nat.beq n 1
  | .iconst c => Nat.beq n 1 && (Nat.ble 2 x && (Nat.ble x 8 && decide ((x : Int) - 3 = c)))
  | .lconst c => Nat.beq x (9 + c.val) && Nat.beq n 1
  | .iload m => (Nat.beq x 21 && Nat.beq n 2) && dk_1 t m
  | .lload m => (Nat.beq x 22 && Nat.beq n 2) && dk_1 t m
  | .aload m => (Nat.beq x 25 && Nat.beq n 2) && dk_1 t m
  | .istore m => (Nat.beq x 54 && Nat.beq n 2) && dk_1 t m
  | .lstore m => (Nat.beq x 55 && Nat.beq n 2) && dk_1 t m
  | .astore m => (Nat.beq x 58 && Nat.beq n 2) && dk_1 t m
  | .ldc m => (Nat.beq x 18 && Nat.beq n 2) && dk_1 t m
  | .bipush m => (Nat.beq x 16 && Nat.beq n 2) && dk_y t m
  | .sipush m => (Nat.beq x 17 && Nat.beq n 3) && dk_z t m
  | .ldc_w m => (Nat.beq x 19 && Nat.beq n 3) && dk_2 t m
  | .ldc2_w m => (Nat.beq x 20 && Nat.beq n 3) && dk_2 t m
  | .getstatic m => (Nat.beq x 178 && Nat.beq n 3) && dk_2 t m
  | .putstatic m => (Nat.beq x 179 && Nat.beq n 3) && dk_2 t m
  | .getfield m => (Nat.beq x 180 && Nat.beq n 3) && dk_2 t m
  | .putfield m => (Nat.beq x 181 && Nat.beq n 3) && dk_2 t m
  | .invokevirtual m => (Nat.beq x 182 && Nat.beq n 3) && dk_2 t m
  | .invokespecial m => (Nat.beq x 183 && Nat.beq n 3) && dk_2 t m
  | .invokestatic m => (Nat.beq x 184 && Nat.beq n 3) && dk_2 t m
  | .new m => (Nat.beq x 187 && Nat.beq n 3) && dk_2 t m
  | .ifCond c m => (Nat.beq x (153 + dk_o c) && Nat.beq n 3) && dk_z t m
  | .if_icmp c m => (Nat.beq x (159 + dk_o c) && Nat.beq n 3) && dk_z t m
  | .goto m => (Nat.beq x 167 && Nat.beq n 3) && dk_z t m
  | .iinc m c => (Nat.beq x 132 && Nat.beq n 3) && dk_i t m c
  | _ => false
set_option maxRecDepth 8000 in
theorem dk_F (pc : Nat) : ∃ F : Nat → Decoder Instr, Decoder.instr pc = (Reader.u1 >>= F) ∧ (F 46 = Pure.pure Instr.iaload) ∧ (F 51 = Pure.pure Instr.baload) ∧ (F 50 = Pure.pure Instr.aaload) ∧ (F 79 = Pure.pure Instr.iastore) ∧ (F 84 = Pure.pure Instr.bastore) ∧ (F 96 = Pure.pure Instr.iadd) ∧ (F 100 = Pure.pure Instr.isub) ∧ (F 104 = Pure.pure Instr.imul) ∧ (F 108 = Pure.pure Instr.idiv) ∧ (F 112 = Pure.pure Instr.irem) ∧ (F 97 = Pure.pure Instr.ladd) ∧ (F 105 = Pure.pure Instr.lmul) ∧ (F 109 = Pure.pure Instr.ldiv) ∧ (F 113 = Pure.pure Instr.lrem) ∧ (F 148 = Pure.pure Instr.lcmp) ∧ (F 133 = Pure.pure Instr.i2l) ∧ (F 136 = Pure.pure Instr.l2i) ∧ (F 145 = Pure.pure Instr.i2b) ∧ (F 87 = Pure.pure Instr.pop) ∧ (F 88 = Pure.pure Instr.pop2) ∧ (F 89 = Pure.pure Instr.dup) ∧ (F 92 = Pure.pure Instr.dup2) ∧ (F 126 = Pure.pure Instr.iand) ∧ (F 128 = Pure.pure Instr.ior) ∧ (F 130 = Pure.pure Instr.ixor) ∧ (F 120 = Pure.pure Instr.ishl) ∧ (F 122 = Pure.pure Instr.ishr) ∧ (F 116 = Pure.pure Instr.ineg) ∧ (F 190 = Pure.pure Instr.arraylength) ∧ (F 172 = Pure.pure Instr.ireturn) ∧ (F 173 = Pure.pure Instr.lreturn) ∧ (F 177 = Pure.pure Instr.return_) ∧ (F 26 = Pure.pure (Instr.iload_n 0)) ∧ (F 27 = Pure.pure (Instr.iload_n 1)) ∧ (F 28 = Pure.pure (Instr.iload_n 2)) ∧ (F 29 = Pure.pure (Instr.iload_n 3)) ∧ (F 30 = Pure.pure (Instr.lload_n 0)) ∧ (F 31 = Pure.pure (Instr.lload_n 1)) ∧ (F 32 = Pure.pure (Instr.lload_n 2)) ∧ (F 33 = Pure.pure (Instr.lload_n 3)) ∧ (F 42 = Pure.pure (Instr.aload_n 0)) ∧ (F 43 = Pure.pure (Instr.aload_n 1)) ∧ (F 44 = Pure.pure (Instr.aload_n 2)) ∧ (F 45 = Pure.pure (Instr.aload_n 3)) ∧ (F 59 = Pure.pure (Instr.istore_n 0)) ∧ (F 60 = Pure.pure (Instr.istore_n 1)) ∧ (F 61 = Pure.pure (Instr.istore_n 2)) ∧ (F 62 = Pure.pure (Instr.istore_n 3)) ∧ (F 63 = Pure.pure (Instr.lstore_n 0)) ∧ (F 64 = Pure.pure (Instr.lstore_n 1)) ∧ (F 65 = Pure.pure (Instr.lstore_n 2)) ∧ (F 66 = Pure.pure (Instr.lstore_n 3)) ∧ (F 75 = Pure.pure (Instr.astore_n 0)) ∧ (F 76 = Pure.pure (Instr.astore_n 1)) ∧ (F 77 = Pure.pure (Instr.astore_n 2)) ∧ (F 78 = Pure.pure (Instr.astore_n 3)) ∧ (F 2 = Pure.pure (Instr.iconst (-1))) ∧ (F 3 = Pure.pure (Instr.iconst 0)) ∧ (F 4 = Pure.pure (Instr.iconst 1)) ∧ (F 5 = Pure.pure (Instr.iconst 2)) ∧ (F 6 = Pure.pure (Instr.iconst 3)) ∧ (F 7 = Pure.pure (Instr.iconst 4)) ∧ (F 8 = Pure.pure (Instr.iconst 5)) ∧ (F 9 = Pure.pure (Instr.lconst 0)) ∧ (F 10 = Pure.pure (Instr.lconst 1)) ∧ (F 21 = Reader.u1 >>= fun m => Pure.pure (Instr.iload m)) ∧ (F 22 = Reader.u1 >>= fun m => Pure.pure (Instr.lload m)) ∧ (F 25 = Reader.u1 >>= fun m => Pure.pure (Instr.aload m)) ∧ (F 54 = Reader.u1 >>= fun m => Pure.pure (Instr.istore m)) ∧ (F 55 = Reader.u1 >>= fun m => Pure.pure (Instr.lstore m)) ∧ (F 58 = Reader.u1 >>= fun m => Pure.pure (Instr.astore m)) ∧ (F 18 = Reader.u1 >>= fun m => Pure.pure (Instr.ldc m)) ∧ (F 16 = Reader.s1 >>= fun m => Pure.pure (Instr.bipush m)) ∧ (F 17 = Reader.s2 >>= fun m => Pure.pure (Instr.sipush m)) ∧ (F 19 = Reader.u2 >>= fun m => Pure.pure (Instr.ldc_w m)) ∧ (F 20 = Reader.u2 >>= fun m => Pure.pure (Instr.ldc2_w m)) ∧ (F 178 = Reader.u2 >>= fun m => Pure.pure (Instr.getstatic m)) ∧ (F 179 = Reader.u2 >>= fun m => Pure.pure (Instr.putstatic m)) ∧ (F 180 = Reader.u2 >>= fun m => Pure.pure (Instr.getfield m)) ∧ (F 181 = Reader.u2 >>= fun m => Pure.pure (Instr.putfield m)) ∧ (F 182 = Reader.u2 >>= fun m => Pure.pure (Instr.invokevirtual m)) ∧ (F 183 = Reader.u2 >>= fun m => Pure.pure (Instr.invokespecial m)) ∧ (F 184 = Reader.u2 >>= fun m => Pure.pure (Instr.invokestatic m)) ∧ (F 187 = Reader.u2 >>= fun m => Pure.pure (Instr.new m)) ∧ (F 153 = Reader.s2 >>= fun m => Pure.pure (Instr.ifCond .eq m)) ∧ (F 159 = Reader.s2 >>= fun m => Pure.pure (Instr.if_icmp .eq m)) ∧ (F 154 = Reader.s2 >>= fun m => Pure.pure (Instr.ifCond .ne m)) ∧ (F 160 = Reader.s2 >>= fun m => Pure.pure (Instr.if_icmp .ne m)) ∧ (F 155 = Reader.s2 >>= fun m => Pure.pure (Instr.ifCond .lt m)) ∧ (F 161 = Reader.s2 >>= fun m => Pure.pure (Instr.if_icmp .lt m)) ∧ (F 156 = Reader.s2 >>= fun m => Pure.pure (Instr.ifCond .ge m)) ∧ (F 162 = Reader.s2 >>= fun m => Pure.pure (Instr.if_icmp .ge m)) ∧ (F 157 = Reader.s2 >>= fun m => Pure.pure (Instr.ifCond .gt m)) ∧ (F 163 = Reader.s2 >>= fun m => Pure.pure (Instr.if_icmp .gt m)) ∧ (F 158 = Reader.s2 >>= fun m => Pure.pure (Instr.ifCond .le m)) ∧ (F 164 = Reader.s2 >>= fun m => Pure.pure (Instr.if_icmp .le m)) ∧ (F 167 = Reader.s2 >>= fun m => Pure.pure (Instr.goto m)) ∧ (F 132 = Reader.u1 >>= fun a => Reader.s1 >>= fun b => Pure.pure (Instr.iinc a b)) :=
  ⟨_, rfl, rfl, rfl, rfl, rfl, rfl, rfl, rfl, rfl, rfl, rfl, rfl, rfl, rfl, rfl, rfl, rfl, rfl, rfl, rfl, rfl, rfl, rfl, rfl, rfl, rfl, rfl, rfl, rfl, rfl, rfl, rfl, rfl, rfl, rfl, rfl, rfl, rfl, rfl, rfl, rfl, rfl, rfl, rfl, rfl, rfl, rfl, rfl, rfl, rfl, rfl, rfl, rfl, rfl, rfl, rfl, rfl, rfl, rfl, rfl, rfl, rfl, rfl, rfl, rfl, rfl, rfl, rfl, rfl, rfl, rfl, rfl, rfl, rfl, rfl, rfl, rfl, rfl, rfl, rfl, rfl, rfl, rfl, rfl, rfl, rfl, rfl, rfl, rfl, rfl, rfl, rfl, rfl, rfl, rfl, rfl, rfl, rfl, rfl⟩
theorem dk_an {a b : Bool} (h : (a && b) = true) : a = true ∧ b = true := by
  cases a
  · cases h
  · exact ⟨rfl, h⟩
theorem dk_or {a b : Bool} (h : (a || b) = true) : a = true ∨ b = true := by
  cases a
  · exact Or.inr h
  · exact Or.inl rfl
section DF
variable {F : Nat → Decoder Instr} {x8 : UInt8}
theorem dk_n0 {op : Nat} {i : Instr} (e : Decoder.instr pc = (Reader.u1 >>= F)) (h : code.data.toList.drop pc = x8 :: t) (f : F op = Pure.pure i) (c : (Nat.beq x8.toNat op && Nat.beq n 1) = true) : decode code pc = .ok (i, n) := by
  obtain ⟨c1, c2⟩ := dk_an c
  have c1 := Nat.eq_of_beq_eq_true c1
  have c2 := Nat.eq_of_beq_eq_true c2
  have g := dk_u1 h
  rw [c1] at g
  exact dk_dec e g (q := pc + 1) (by rw [f]; rfl) (by omega)
theorem dk_n1 {op : Nat} {i : Nat → Instr} {m : Nat} (e : Decoder.instr pc = (Reader.u1 >>= F)) (h : code.data.toList.drop pc = x8 :: t) (f : F op = (Reader.u1 >>= fun m => Pure.pure (i m))) (c : ((Nat.beq x8.toNat op && Nat.beq n 2) && dk_1 t m) = true) : decode code pc = .ok (i m, n) := by
  obtain ⟨c, c3⟩ := dk_an c
  obtain ⟨c1, c2⟩ := dk_an c
  have c1 := Nat.eq_of_beq_eq_true c1
  have c2 := Nat.eq_of_beq_eq_true c2
  have g := dk_u1 h
  rw [c1] at g
  have h := dk_dr h
  match t, h, c3 with
  | [], _, c3 => exact absurd c3 Bool.false_ne_true
  | a :: t, h, c3 =>
    have c3 : a.toNat = m := Nat.eq_of_beq_eq_true c3
    rw [← c3]
    exact dk_dec e g (q := pc + 1 + 1) (by rw [f]; exact dk_bp (f := i) (dk_u1 h)) (by omega)
theorem dk_n1s {op : Nat} {i : Int → Instr} {m : Int} (e : Decoder.instr pc = (Reader.u1 >>= F)) (h : code.data.toList.drop pc = x8 :: t) (f : F op = (Reader.s1 >>= fun m => Pure.pure (i m))) (c : ((Nat.beq x8.toNat op && Nat.beq n 2) && dk_y t m) = true) : decode code pc = .ok (i m, n) := by
  obtain ⟨c, c3⟩ := dk_an c
  obtain ⟨c1, c2⟩ := dk_an c
  have c1 := Nat.eq_of_beq_eq_true c1
  have c2 := Nat.eq_of_beq_eq_true c2
  have g := dk_u1 h
  rw [c1] at g
  have h := dk_dr h
  match t, h, c3 with
  | [], _, c3 => exact absurd c3 Bool.false_ne_true
  | a :: t, h, c3 =>
    have c3 : Reader.signed 8 a.toNat = m := of_decide_eq_true c3
    rw [← c3]
    exact dk_dec e g (q := pc + 1 + 1) (by rw [f]; exact dk_bp (f := i) (dk_s1 (dk_u1 h))) (by omega)
theorem dk_n2 {op : Nat} {i : Nat → Instr} {m : Nat} (e : Decoder.instr pc = (Reader.u1 >>= F)) (h : code.data.toList.drop pc = x8 :: t) (f : F op = (Reader.u2 >>= fun m => Pure.pure (i m))) (c : ((Nat.beq x8.toNat op && Nat.beq n 3) && dk_2 t m) = true) : decode code pc = .ok (i m, n) := by
  obtain ⟨c, c3⟩ := dk_an c
  obtain ⟨c1, c2⟩ := dk_an c
  have c1 := Nat.eq_of_beq_eq_true c1
  have c2 := Nat.eq_of_beq_eq_true c2
  have g := dk_u1 h
  rw [c1] at g
  have h := dk_dr h
  match t, h, c3 with
  | [], _, c3 => exact absurd c3 Bool.false_ne_true
  | [_], _, c3 => exact absurd c3 Bool.false_ne_true
  | a :: b :: t, h, c3 =>
    have c3 : a.toNat * 256 + b.toNat = m := Nat.eq_of_beq_eq_true c3
    rw [← c3]
    exact dk_dec e g (q := pc + 1 + 2) (by rw [f]; exact dk_bp (f := i) (dk_u2 h)) (by omega)
theorem dk_n2s {op : Nat} {i : Int → Instr} {m : Int} (e : Decoder.instr pc = (Reader.u1 >>= F)) (h : code.data.toList.drop pc = x8 :: t) (f : F op = (Reader.s2 >>= fun m => Pure.pure (i m))) (c : ((Nat.beq x8.toNat op && Nat.beq n 3) && dk_z t m) = true) : decode code pc = .ok (i m, n) := by
  obtain ⟨c, c3⟩ := dk_an c
  obtain ⟨c1, c2⟩ := dk_an c
  have c1 := Nat.eq_of_beq_eq_true c1
  have c2 := Nat.eq_of_beq_eq_true c2
  have g := dk_u1 h
  rw [c1] at g
  have h := dk_dr h
  match t, h, c3 with
  | [], _, c3 => exact absurd c3 Bool.false_ne_true
  | [_], _, c3 => exact absurd c3 Bool.false_ne_true
  | a :: b :: t, h, c3 =>
    have c3 : Reader.signed 16 (a.toNat * 256 + b.toNat) = m := of_decide_eq_true c3
    rw [← c3]
    exact dk_dec e g (q := pc + 1 + 2) (by rw [f]; exact dk_bp (f := i) (dk_s2 (dk_u2 h))) (by omega)
theorem dk_ni {m : Nat} {k : Int} (e : Decoder.instr pc = (Reader.u1 >>= F)) (h : code.data.toList.drop pc = x8 :: t) (f : F 132 = (Reader.u1 >>= fun a => Reader.s1 >>= fun b => Pure.pure (Instr.iinc a b))) (c : ((Nat.beq x8.toNat 132 && Nat.beq n 3) && dk_i t m k) = true) : decode code pc = .ok (.iinc m k, n) := by
  obtain ⟨c, c3⟩ := dk_an c
  obtain ⟨c1, c2⟩ := dk_an c
  have c1 := Nat.eq_of_beq_eq_true c1
  have c2 := Nat.eq_of_beq_eq_true c2
  have g := dk_u1 h
  rw [c1] at g
  have h := dk_dr h
  match t, h, c3 with
  | [], _, c3 => exact absurd c3 Bool.false_ne_true
  | [_], _, c3 => exact absurd c3 Bool.false_ne_true
  | a :: b :: t, h, c3 =>
    obtain ⟨c3, c4⟩ := dk_an c3
    have c3 : a.toNat = m := Nat.eq_of_beq_eq_true c3
    have c4 : Reader.signed 8 b.toNat = k := of_decide_eq_true c4
    rw [← c3, ← c4]
    refine dk_dec e g (q := pc + 1 + 1 + 1) ?_ (by omega)
    rw [f]
    show Except.bind ((Reader.u1 : Decoder Nat) code (pc + 1)) (fun z => (Reader.s1 >>= fun b => Pure.pure (Instr.iinc z.1 b) : Decoder Instr) code z.2) = _
    rw [dk_u1 h]
    exact dk_bp (f := Instr.iinc a.toNat) (dk_s1 (dk_u1 (dk_dr h)))
end DF
set_option maxRecDepth 8000 in
theorem dk_ok {x8 : UInt8} (h : code.data.toList.drop pc = x8 :: t) {i : Instr} (c : dk_c i n x8.toNat t = true) : decode code pc = .ok (i, n) := by
  obtain ⟨F, e, f46, f51, f50, f79, f84, f96, f100, f104, f108, f112, f97, f105, f109, f113, f148, f133, f136, f145, f87, f88, f89, f92, f126, f128, f130, f120, f122, f116, f190, f172, f173, f177, f26, f27, f28, f29, f30, f31, f32, f33, f42, f43, f44, f45, f59, f60, f61, f62, f63, f64, f65, f66, f75, f76, f77, f78, f2, f3, f4, f5, f6, f7, f8, f9, f10, f21, f22, f25, f54, f55, f58, f18, f16, f17, f19, f20, f178, f179, f180, f181, f182, f183, f184, f187, f153, f159, f154, f160, f155, f161, f156, f162, f157, f163, f158, f164, f167, f132⟩ := dk_F pc
  unfold dk_c at c
  split at c
  · exact dk_n0 e h f46 c
  · exact dk_n0 e h f51 c
  · exact dk_n0 e h f50 c
  · exact dk_n0 e h f79 c
  · exact dk_n0 e h f84 c
  · exact dk_n0 e h f96 c
  · exact dk_n0 e h f100 c
  · exact dk_n0 e h f104 c
  · exact dk_n0 e h f108 c
  · exact dk_n0 e h f112 c
  · exact dk_n0 e h f97 c
  · exact dk_n0 e h f105 c
  · exact dk_n0 e h f109 c
  · exact dk_n0 e h f113 c
  · exact dk_n0 e h f148 c
  · exact dk_n0 e h f133 c
  · exact dk_n0 e h f136 c
  · exact dk_n0 e h f145 c
  · exact dk_n0 e h f87 c
  · exact dk_n0 e h f88 c
  · exact dk_n0 e h f89 c
  · exact dk_n0 e h f92 c
  · exact dk_n0 e h f126 c
  · exact dk_n0 e h f128 c
  · exact dk_n0 e h f130 c
  · exact dk_n0 e h f120 c
  · exact dk_n0 e h f122 c
  · exact dk_n0 e h f116 c
  · exact dk_n0 e h f190 c
  · exact dk_n0 e h f172 c
  · exact dk_n0 e h f173 c
  · exact dk_n0 e h f177 c
  · rename_i k
    obtain ⟨k, hk⟩ := k
    match k, hk, c with
    | 0, _, c => exact dk_n0 e h f26 c
    | 1, _, c => exact dk_n0 e h f27 c
    | 2, _, c => exact dk_n0 e h f28 c
    | 3, _, c => exact dk_n0 e h f29 c
    | k + 4, hk, _ => omega
  · rename_i k
    obtain ⟨k, hk⟩ := k
    match k, hk, c with
    | 0, _, c => exact dk_n0 e h f30 c
    | 1, _, c => exact dk_n0 e h f31 c
    | 2, _, c => exact dk_n0 e h f32 c
    | 3, _, c => exact dk_n0 e h f33 c
    | k + 4, hk, _ => omega
  · rename_i k
    obtain ⟨k, hk⟩ := k
    match k, hk, c with
    | 0, _, c => exact dk_n0 e h f42 c
    | 1, _, c => exact dk_n0 e h f43 c
    | 2, _, c => exact dk_n0 e h f44 c
    | 3, _, c => exact dk_n0 e h f45 c
    | k + 4, hk, _ => omega
  · rename_i k
    obtain ⟨k, hk⟩ := k
    match k, hk, c with
    | 0, _, c => exact dk_n0 e h f59 c
    | 1, _, c => exact dk_n0 e h f60 c
    | 2, _, c => exact dk_n0 e h f61 c
    | 3, _, c => exact dk_n0 e h f62 c
    | k + 4, hk, _ => omega
  · rename_i k
    obtain ⟨k, hk⟩ := k
    match k, hk, c with
    | 0, _, c => exact dk_n0 e h f63 c
    | 1, _, c => exact dk_n0 e h f64 c
    | 2, _, c => exact dk_n0 e h f65 c
    | 3, _, c => exact dk_n0 e h f66 c
    | k + 4, hk, _ => omega
  · rename_i k
    obtain ⟨k, hk⟩ := k
    match k, hk, c with
    | 0, _, c => exact dk_n0 e h f75 c
    | 1, _, c => exact dk_n0 e h f76 c
    | 2, _, c => exact dk_n0 e h f77 c
    | 3, _, c => exact dk_n0 e h f78 c
    | k + 4, hk, _ => omega
  · rename_i k
    obtain ⟨c1, c⟩ := dk_an c
    obtain ⟨c2, c⟩ := dk_an c
    obtain ⟨c3, c⟩ := dk_an c
    have c2 := Nat.le_of_ble_eq_true c2
    have c3 := Nat.le_of_ble_eq_true c3
    have c := of_decide_eq_true c
    have g : ∀ op, x8.toNat = op → (Nat.beq x8.toNat op && Nat.beq n 1) = true := fun op z => by rw [z, c1, Nat.beq_refl]; rfl
    rw [← c]
    have : x8.toNat = 2 ∨ x8.toNat = 3 ∨ x8.toNat = 4 ∨ x8.toNat = 5 ∨ x8.toNat = 6 ∨ x8.toNat = 7 ∨ x8.toNat = 8 := by omega
    rcases this with z | z | z | z | z | z | z
    · rw [z]; exact dk_n0 e h f2 (g _ z)
    · rw [z]; exact dk_n0 e h f3 (g _ z)
    · rw [z]; exact dk_n0 e h f4 (g _ z)
    · rw [z]; exact dk_n0 e h f5 (g _ z)
    · rw [z]; exact dk_n0 e h f6 (g _ z)
    · rw [z]; exact dk_n0 e h f7 (g _ z)
    · rw [z]; exact dk_n0 e h f8 (g _ z)
  · rename_i k
    obtain ⟨k, hk⟩ := k
    match k, hk, c with
    | 0, _, c => exact dk_n0 e h f9 c
    | 1, _, c => exact dk_n0 e h f10 c
    | k + 2, hk, _ => omega
  · exact dk_n1 e h f21 c
  · exact dk_n1 e h f22 c
  · exact dk_n1 e h f25 c
  · exact dk_n1 e h f54 c
  · exact dk_n1 e h f55 c
  · exact dk_n1 e h f58 c
  · exact dk_n1 e h f18 c
  · exact dk_n1s e h f16 c
  · exact dk_n2s e h f17 c
  · exact dk_n2 e h f19 c
  · exact dk_n2 e h f20 c
  · exact dk_n2 e h f178 c
  · exact dk_n2 e h f179 c
  · exact dk_n2 e h f180 c
  · exact dk_n2 e h f181 c
  · exact dk_n2 e h f182 c
  · exact dk_n2 e h f183 c
  · exact dk_n2 e h f184 c
  · exact dk_n2 e h f187 c
  · rename_i k m
    cases k
    · exact dk_n2s e h f153 c
    · exact dk_n2s e h f154 c
    · exact dk_n2s e h f155 c
    · exact dk_n2s e h f156 c
    · exact dk_n2s e h f157 c
    · exact dk_n2s e h f158 c
  · rename_i k m
    cases k
    · exact dk_n2s e h f159 c
    · exact dk_n2s e h f160 c
    · exact dk_n2s e h f161 c
    · exact dk_n2s e h f162 c
    · exact dk_n2s e h f163 c
    · exact dk_n2s e h f164 c
  · exact dk_n2s e h f167 c
  · exact dk_ni e h f132 c
  · cases c
end DK
def dk_go (code : ByteArray) : Nat → List UInt8 → List (Nat × Instr × Nat) → Bool
  | _, _, [] => true
  | pc, l, q :: r => Nat.ble pc q.1 && (match l.drop (q.1 - pc) with
    | [] => false
    | x :: t => (dk_c q.2.1 q.2.2 x.toNat t || decide (decode code q.1 = .ok q.2)) && dk_go code q.1 (x :: t) r)
theorem dk_all {code : ByteArray} : ∀ (qs : List (Nat × Instr × Nat)) (pc : Nat) (l : List UInt8), code.data.toList.drop pc = l → dk_go code pc l qs = true → ∀ q ∈ qs, decode code q.1 = .ok q.2 := by
  intro qs
  induction qs with
  | nil => exact fun _ _ _ _ q hq => absurd hq List.not_mem_nil
  | cons q r ih =>
    intro pc l hl h
    unfold dk_go at h
    obtain ⟨h1, h⟩ := dk_an h
    have h1 := Nat.le_of_ble_eq_true h1
    have hd : code.data.toList.drop q.1 = l.drop (q.1 - pc) := by
      rw [← hl, List.drop_drop]
      congr 1
      omega
    split at h
    · cases h
    · rename_i x t he
      obtain ⟨h2, h3⟩ := dk_an h
      rw [he] at hd
      refine List.forall_mem_cons.mpr ⟨?_, ih q.1 _ hd h3⟩
      rcases dk_or h2 with h2 | h2
      · exact dk_ok hd h2
      · exact of_decide_eq_true h2
theorem dk_use {code : ByteArray} {T : List (Nat × List (Nat × Instr × Nat))} (p : Nat) (h : dk_go code p (code.data.toList.drop p) (T.flatMap (fun u => u.2)) = true) : ∀ u ∈ T, ∀ q ∈ u.2, decode code q.1 = .ok q.2 :=
  fun u hu q hq => dk_all _ _ _ rfl h q (List.mem_flatMap.mpr ⟨u, hu, hq⟩)
