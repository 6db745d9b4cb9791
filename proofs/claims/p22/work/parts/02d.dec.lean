/-! decode, opcode by opcode: what the first byte says, and where the operands lie -/
def dk_has (p k : Nat) (m : Jvm.ClassFile.Decoder Instr) : Prop := ∃ f : Nat → Jvm.ClassFile.Decoder Instr, Jvm.ClassFile.Decoder.instr p = ((Jvm.ClassFile.Reader.u1 : Jvm.ClassFile.Decoder Nat) >>= f) ∧ f k = m
theorem dk_u1 {c : ByteArray} {p : Nat} {b : UInt8} (h : c.data.toList[p]? = some b) : (Jvm.ClassFile.Reader.u1 : Jvm.ClassFile.Decoder Nat) c p = .ok (b.toNat, p + 1) := by
  obtain ⟨⟨l⟩⟩ := c
  obtain ⟨hp, he⟩ := List.getElem?_eq_some_iff.mp h
  have hq : p < (ByteArray.mk ⟨l⟩).size := hp
  have e : (Jvm.ClassFile.Reader.u1 : Jvm.ClassFile.Decoder Nat) (ByteArray.mk ⟨l⟩) p = (if h : p < (ByteArray.mk ⟨l⟩).size then (do set (p + 1); pure (ByteArray.mk ⟨l⟩)[p].toNat : Jvm.ClassFile.Decoder Nat) else throw (Jvm.ClassFile.HasTruncated.truncated p)) (ByteArray.mk ⟨l⟩) p := rfl
  rw [e, dif_pos hq]
  show Except.ok ((ByteArray.mk ⟨l⟩)[p].toNat, p + 1) = _
  rw [show (ByteArray.mk ⟨l⟩)[p] = b from he]
theorem dk_bind {α β : Type} {x : Jvm.ClassFile.Decoder α} {g : α → Jvm.ClassFile.Decoder β} {c : ByteArray} {p q : Nat} {a : α} (h : x c p = .ok (a, q)) : (x >>= g) c p = g a c q := by
  show StateT.bind (x c) (fun a => g a c) p = _
  unfold StateT.bind
  rw [h]
  rfl
theorem dk_map {α β : Type} {x : Jvm.ClassFile.Decoder α} {g : α → β} {c : ByteArray} {p q : Nat} {a : α} (h : x c p = .ok (a, q)) : (g <$> x) c p = .ok (g a, q) := by
  show StateT.map g (x c) p = _
  unfold StateT.map
  rw [h]
  rfl
theorem dk_u2 {c : ByteArray} {p : Nat} {a b : UInt8} (h1 : c.data.toList[p]? = some a) (h2 : c.data.toList[p + 1]? = some b) : (Jvm.ClassFile.Reader.u2 : Jvm.ClassFile.Decoder Nat) c p = .ok (a.toNat * 256 + b.toNat, p + 2) := by
  show ((Jvm.ClassFile.Reader.u1 : Jvm.ClassFile.Decoder Nat) >>= fun hi => (Jvm.ClassFile.Reader.u1 : Jvm.ClassFile.Decoder Nat) >>= fun lo => pure (hi * 256 + lo)) c p = _
  rw [dk_bind (dk_u1 h1), dk_bind (dk_u1 h2)]
  rfl
theorem dz_run {c : ByteArray} {p k : Nat} {m : Jvm.ClassFile.Decoder Instr} (hk : dk_has p k m) {b : UInt8} (h : c.data.toList[p]? = some b) (hb : b.toNat = k) {i : Instr} {n : Nat} (hm : m c (p + 1) = .ok (i, p + n)) : decode c p = .ok (i, n) := by
  obtain ⟨f, e1, e2⟩ := hk
  have e3 : Jvm.ClassFile.Decoder.instr p c p = .ok (i, p + n) := by
    rw [e1, dk_bind (dk_u1 h), hb, e2]; exact hm
  show (Jvm.ClassFile.Decoder.instr p c p >>= fun x => (pure (x.1, x.2 - p) : Except Jvm.ClassFile.DecodeError (Instr × Nat))) = _
  rw [e3]
  show Except.ok (i, p + n - p) = _
  rw [Nat.add_sub_cancel_left]
def ck0 (l : List UInt8) (p k : Nat) : Bool := match l.drop p with
  | a :: _ => Nat.beq a.toNat k
  | _ => false
def ck1 (l : List UInt8) (p k n : Nat) : Bool := match l.drop p with
  | a :: b :: _ => Nat.beq a.toNat k && Nat.beq b.toNat n
  | _ => false
def ck2 (l : List UInt8) (p k n : Nat) : Bool := match l.drop p with
  | a :: b :: d :: _ => Nat.beq a.toNat k && Nat.beq (b.toNat * 256 + d.toNat) n
  | _ => false
def cs1 (l : List UInt8) (p k : Nat) (v : Int) : Bool := match l.drop p with
  | a :: b :: _ => Nat.beq a.toNat k && decide (Jvm.ClassFile.Reader.signed 8 b.toNat = v)
  | _ => false
def cs2 (l : List UInt8) (p k : Nat) (v : Int) : Bool := match l.drop p with
  | a :: b :: d :: _ => Nat.beq a.toNat k && decide (Jvm.ClassFile.Reader.signed 16 (b.toNat * 256 + d.toNat) = v)
  | _ => false
def cii (l : List UInt8) (p n : Nat) (v : Int) : Bool := match l.drop p with
  | a :: b :: d :: _ => Nat.beq a.toNat 132 && (Nat.beq b.toNat n && decide (Jvm.ClassFile.Reader.signed 8 d.toNat = v))
  | _ => false
theorem dk_0 {l t : List UInt8} {p : Nat} {a : UInt8} (e : l.drop p = a :: t) : l[p]? = some a := by
  have h : (l.drop p)[0]? = some a := by rw [e]; rfl
  rw [List.getElem?_drop] at h; exact h
theorem dk_1 {l t : List UInt8} {p : Nat} {a b : UInt8} (e : l.drop p = a :: b :: t) : l[p + 1]? = some b := by
  have h : (l.drop p)[1]? = some b := by rw [e]; rfl
  rw [List.getElem?_drop] at h; exact h
theorem dk_2 {l t : List UInt8} {p : Nat} {a b d : UInt8} (e : l.drop p = a :: b :: d :: t) : l[p + 1 + 1]? = some d := by
  have h : (l.drop p)[2]? = some d := by rw [e]; rfl
  rw [List.getElem?_drop] at h; exact h
theorem dz0 {c : ByteArray} {p k : Nat} {i : Instr} (hk : ∀ p, dk_has p k (pure i)) (h : ck0 c.data.toList p k = true) : decode c p = .ok (i, 1) := by
  unfold ck0 at h
  split at h
  · rename_i a t e
    exact dz_run (hk p) (dk_0 e) (Nat.eq_of_beq_eq_true h) rfl
  · cases h
theorem dzu1 {c : ByteArray} {p k n : Nat} {I : Nat → Instr} (hk : ∀ p, dk_has p k ((Jvm.ClassFile.Reader.u1 : Jvm.ClassFile.Decoder Nat) >>= fun x => pure (I x))) (h : ck1 c.data.toList p k n = true) : decode c p = .ok (I n, 2) := by
  unfold ck1 at h
  split at h
  · rename_i a b t e
    obtain ⟨h1, h2⟩ := Bool.and_eq_true_iff.mp h
    refine dz_run (hk p) (dk_0 e) (Nat.eq_of_beq_eq_true h1) ?_
    rw [dk_bind (dk_u1 (dk_1 e)), Nat.eq_of_beq_eq_true h2]
    rfl
  · cases h
theorem dzs1 {c : ByteArray} {p k : Nat} {v : Int} {I : Int → Instr} (hk : ∀ p, dk_has p k ((Jvm.ClassFile.Reader.s1 : Jvm.ClassFile.Decoder Int) >>= fun x => pure (I x))) (h : cs1 c.data.toList p k v = true) : decode c p = .ok (I v, 2) := by
  unfold cs1 at h
  split at h
  · rename_i a b t e
    obtain ⟨h1, h2⟩ := Bool.and_eq_true_iff.mp h
    refine dz_run (hk p) (dk_0 e) (Nat.eq_of_beq_eq_true h1) ?_
    have h3 : (Jvm.ClassFile.Reader.s1 : Jvm.ClassFile.Decoder Int) c (p + 1) = .ok (v, p + 1 + 1) := by
      show ((Jvm.ClassFile.Reader.signed 8) <$> (Jvm.ClassFile.Reader.u1 : Jvm.ClassFile.Decoder Nat)) c (p + 1) = _
      rw [dk_map (dk_u1 (dk_1 e)), of_decide_eq_true h2]
    rw [dk_bind h3]
    rfl
  · cases h
theorem dzu2 {c : ByteArray} {p k n : Nat} {I : Nat → Instr} (hk : ∀ p, dk_has p k ((Jvm.ClassFile.Reader.u2 : Jvm.ClassFile.Decoder Nat) >>= fun x => pure (I x))) (h : ck2 c.data.toList p k n = true) : decode c p = .ok (I n, 3) := by
  unfold ck2 at h
  split at h
  · rename_i a b d t e
    obtain ⟨h1, h2⟩ := Bool.and_eq_true_iff.mp h
    refine dz_run (hk p) (dk_0 e) (Nat.eq_of_beq_eq_true h1) ?_
    rw [dk_bind (dk_u2 (dk_1 e) (dk_2 e)), Nat.eq_of_beq_eq_true h2]
    rfl
  · cases h
theorem dzs2 {c : ByteArray} {p k : Nat} {v : Int} {I : Int → Instr} (hk : ∀ p, dk_has p k ((Jvm.ClassFile.Reader.s2 : Jvm.ClassFile.Decoder Int) >>= fun x => pure (I x))) (h : cs2 c.data.toList p k v = true) : decode c p = .ok (I v, 3) := by
  unfold cs2 at h
  split at h
  · rename_i a b d t e
    obtain ⟨h1, h2⟩ := Bool.and_eq_true_iff.mp h
    refine dz_run (hk p) (dk_0 e) (Nat.eq_of_beq_eq_true h1) ?_
    have h3 : (Jvm.ClassFile.Reader.s2 : Jvm.ClassFile.Decoder Int) c (p + 1) = .ok (v, p + 1 + 2) := by
      show ((Jvm.ClassFile.Reader.signed 16) <$> (Jvm.ClassFile.Reader.u2 : Jvm.ClassFile.Decoder Nat)) c (p + 1) = _
      rw [dk_map (dk_u2 (dk_1 e) (dk_2 e)), of_decide_eq_true h2]
    rw [dk_bind h3]
    rfl
  · cases h
theorem ok_132 (p : Nat) : dk_has p 132 ((Jvm.ClassFile.Reader.u1 : Jvm.ClassFile.Decoder Nat) >>= fun x => (Jvm.ClassFile.Reader.s1 : Jvm.ClassFile.Decoder Int) >>= fun y => pure (Instr.iinc x y)) := ⟨_, rfl, rfl⟩
theorem dzii {c : ByteArray} {p n : Nat} {v : Int} (h : cii c.data.toList p n v = true) : decode c p = .ok (.iinc n v, 3) := by
  unfold cii at h
  split at h
  · rename_i a b d t e
    obtain ⟨h1, h2⟩ := Bool.and_eq_true_iff.mp h
    obtain ⟨h2, h4⟩ := Bool.and_eq_true_iff.mp h2
    refine dz_run (ok_132 p) (dk_0 e) (Nat.eq_of_beq_eq_true h1) ?_
    have h3 : (Jvm.ClassFile.Reader.s1 : Jvm.ClassFile.Decoder Int) c (p + 1 + 1) = .ok (v, p + 1 + 1 + 1) := by
      show ((Jvm.ClassFile.Reader.signed 8) <$> (Jvm.ClassFile.Reader.u1 : Jvm.ClassFile.Decoder Nat)) c (p + 1 + 1) = _
      rw [dk_map (dk_u1 (dk_2 e)), of_decide_eq_true h4]
    rw [dk_bind (dk_u1 (dk_1 e)), Nat.eq_of_beq_eq_true h2, dk_bind h3]
    rfl
  · cases h
theorem ok_2 (p : Nat) : dk_has p 2 (pure (Instr.iconst (-1))) := ⟨_, rfl, rfl⟩
theorem ok_3 (p : Nat) : dk_has p 3 (pure (Instr.iconst 0)) := ⟨_, rfl, rfl⟩
theorem ok_4 (p : Nat) : dk_has p 4 (pure (Instr.iconst 1)) := ⟨_, rfl, rfl⟩
theorem ok_5 (p : Nat) : dk_has p 5 (pure (Instr.iconst 2)) := ⟨_, rfl, rfl⟩
theorem ok_6 (p : Nat) : dk_has p 6 (pure (Instr.iconst 3)) := ⟨_, rfl, rfl⟩
theorem ok_7 (p : Nat) : dk_has p 7 (pure (Instr.iconst 4)) := ⟨_, rfl, rfl⟩
theorem ok_8 (p : Nat) : dk_has p 8 (pure (Instr.iconst 5)) := ⟨_, rfl, rfl⟩
theorem ok_16 (p : Nat) : dk_has p 16 ((Jvm.ClassFile.Reader.s1 : Jvm.ClassFile.Decoder Int) >>= fun x => pure (Instr.bipush x)) := ⟨_, rfl, rfl⟩
theorem ok_17 (p : Nat) : dk_has p 17 ((Jvm.ClassFile.Reader.s2 : Jvm.ClassFile.Decoder Int) >>= fun x => pure (Instr.sipush x)) := ⟨_, rfl, rfl⟩
theorem ok_18 (p : Nat) : dk_has p 18 ((Jvm.ClassFile.Reader.u1 : Jvm.ClassFile.Decoder Nat) >>= fun x => pure (Instr.ldc x)) := ⟨_, rfl, rfl⟩
theorem ok_21 (p : Nat) : dk_has p 21 ((Jvm.ClassFile.Reader.u1 : Jvm.ClassFile.Decoder Nat) >>= fun x => pure (Instr.iload x)) := ⟨_, rfl, rfl⟩
theorem ok_26 (p : Nat) : dk_has p 26 (pure (Instr.iload_n 0)) := ⟨_, rfl, rfl⟩
theorem ok_27 (p : Nat) : dk_has p 27 (pure (Instr.iload_n 1)) := ⟨_, rfl, rfl⟩
theorem ok_28 (p : Nat) : dk_has p 28 (pure (Instr.iload_n 2)) := ⟨_, rfl, rfl⟩
theorem ok_29 (p : Nat) : dk_has p 29 (pure (Instr.iload_n 3)) := ⟨_, rfl, rfl⟩
theorem ok_42 (p : Nat) : dk_has p 42 (pure (Instr.aload_n 0)) := ⟨_, rfl, rfl⟩
theorem ok_43 (p : Nat) : dk_has p 43 (pure (Instr.aload_n 1)) := ⟨_, rfl, rfl⟩
theorem ok_44 (p : Nat) : dk_has p 44 (pure (Instr.aload_n 2)) := ⟨_, rfl, rfl⟩
theorem ok_45 (p : Nat) : dk_has p 45 (pure (Instr.aload_n 3)) := ⟨_, rfl, rfl⟩
theorem ok_46 (p : Nat) : dk_has p 46 (pure (Instr.iaload)) := ⟨_, rfl, rfl⟩
theorem ok_50 (p : Nat) : dk_has p 50 (pure (Instr.aaload)) := ⟨_, rfl, rfl⟩
theorem ok_54 (p : Nat) : dk_has p 54 ((Jvm.ClassFile.Reader.u1 : Jvm.ClassFile.Decoder Nat) >>= fun x => pure (Instr.istore x)) := ⟨_, rfl, rfl⟩
theorem ok_58 (p : Nat) : dk_has p 58 ((Jvm.ClassFile.Reader.u1 : Jvm.ClassFile.Decoder Nat) >>= fun x => pure (Instr.astore x)) := ⟨_, rfl, rfl⟩
theorem ok_60 (p : Nat) : dk_has p 60 (pure (Instr.istore_n 1)) := ⟨_, rfl, rfl⟩
theorem ok_61 (p : Nat) : dk_has p 61 (pure (Instr.istore_n 2)) := ⟨_, rfl, rfl⟩
theorem ok_62 (p : Nat) : dk_has p 62 (pure (Instr.istore_n 3)) := ⟨_, rfl, rfl⟩
theorem ok_76 (p : Nat) : dk_has p 76 (pure (Instr.astore_n 1)) := ⟨_, rfl, rfl⟩
theorem ok_77 (p : Nat) : dk_has p 77 (pure (Instr.astore_n 2)) := ⟨_, rfl, rfl⟩
theorem ok_78 (p : Nat) : dk_has p 78 (pure (Instr.astore_n 3)) := ⟨_, rfl, rfl⟩
theorem ok_79 (p : Nat) : dk_has p 79 (pure (Instr.iastore)) := ⟨_, rfl, rfl⟩
theorem ok_80 (p : Nat) : dk_has p 80 (pure (Instr.lastore)) := ⟨_, rfl, rfl⟩
theorem ok_83 (p : Nat) : dk_has p 83 (pure (Instr.aastore)) := ⟨_, rfl, rfl⟩
theorem ok_87 (p : Nat) : dk_has p 87 (pure (Instr.pop)) := ⟨_, rfl, rfl⟩
theorem ok_89 (p : Nat) : dk_has p 89 (pure (Instr.dup)) := ⟨_, rfl, rfl⟩
theorem ok_92 (p : Nat) : dk_has p 92 (pure (Instr.dup2)) := ⟨_, rfl, rfl⟩
theorem ok_96 (p : Nat) : dk_has p 96 (pure (Instr.iadd)) := ⟨_, rfl, rfl⟩
theorem ok_100 (p : Nat) : dk_has p 100 (pure (Instr.isub)) := ⟨_, rfl, rfl⟩
theorem ok_104 (p : Nat) : dk_has p 104 (pure (Instr.imul)) := ⟨_, rfl, rfl⟩
theorem ok_112 (p : Nat) : dk_has p 112 (pure (Instr.irem)) := ⟨_, rfl, rfl⟩
theorem ok_116 (p : Nat) : dk_has p 116 (pure (Instr.ineg)) := ⟨_, rfl, rfl⟩
theorem ok_120 (p : Nat) : dk_has p 120 (pure (Instr.ishl)) := ⟨_, rfl, rfl⟩
theorem ok_122 (p : Nat) : dk_has p 122 (pure (Instr.ishr)) := ⟨_, rfl, rfl⟩
theorem ok_126 (p : Nat) : dk_has p 126 (pure (Instr.iand)) := ⟨_, rfl, rfl⟩
theorem ok_128 (p : Nat) : dk_has p 128 (pure (Instr.ior)) := ⟨_, rfl, rfl⟩
theorem ok_133 (p : Nat) : dk_has p 133 (pure (Instr.i2l)) := ⟨_, rfl, rfl⟩
theorem ok_153 (p : Nat) : dk_has p 153 ((Jvm.ClassFile.Reader.s2 : Jvm.ClassFile.Decoder Int) >>= fun x => pure (Instr.ifCond .eq x)) := ⟨_, rfl, rfl⟩
theorem ok_154 (p : Nat) : dk_has p 154 ((Jvm.ClassFile.Reader.s2 : Jvm.ClassFile.Decoder Int) >>= fun x => pure (Instr.ifCond .ne x)) := ⟨_, rfl, rfl⟩
theorem ok_155 (p : Nat) : dk_has p 155 ((Jvm.ClassFile.Reader.s2 : Jvm.ClassFile.Decoder Int) >>= fun x => pure (Instr.ifCond .lt x)) := ⟨_, rfl, rfl⟩
theorem ok_156 (p : Nat) : dk_has p 156 ((Jvm.ClassFile.Reader.s2 : Jvm.ClassFile.Decoder Int) >>= fun x => pure (Instr.ifCond .ge x)) := ⟨_, rfl, rfl⟩
theorem ok_158 (p : Nat) : dk_has p 158 ((Jvm.ClassFile.Reader.s2 : Jvm.ClassFile.Decoder Int) >>= fun x => pure (Instr.ifCond .le x)) := ⟨_, rfl, rfl⟩
theorem ok_159 (p : Nat) : dk_has p 159 ((Jvm.ClassFile.Reader.s2 : Jvm.ClassFile.Decoder Int) >>= fun x => pure (Instr.if_icmp .eq x)) := ⟨_, rfl, rfl⟩
theorem ok_160 (p : Nat) : dk_has p 160 ((Jvm.ClassFile.Reader.s2 : Jvm.ClassFile.Decoder Int) >>= fun x => pure (Instr.if_icmp .ne x)) := ⟨_, rfl, rfl⟩
theorem ok_161 (p : Nat) : dk_has p 161 ((Jvm.ClassFile.Reader.s2 : Jvm.ClassFile.Decoder Int) >>= fun x => pure (Instr.if_icmp .lt x)) := ⟨_, rfl, rfl⟩
theorem ok_162 (p : Nat) : dk_has p 162 ((Jvm.ClassFile.Reader.s2 : Jvm.ClassFile.Decoder Int) >>= fun x => pure (Instr.if_icmp .ge x)) := ⟨_, rfl, rfl⟩
theorem ok_163 (p : Nat) : dk_has p 163 ((Jvm.ClassFile.Reader.s2 : Jvm.ClassFile.Decoder Int) >>= fun x => pure (Instr.if_icmp .gt x)) := ⟨_, rfl, rfl⟩
theorem ok_164 (p : Nat) : dk_has p 164 ((Jvm.ClassFile.Reader.s2 : Jvm.ClassFile.Decoder Int) >>= fun x => pure (Instr.if_icmp .le x)) := ⟨_, rfl, rfl⟩
theorem ok_167 (p : Nat) : dk_has p 167 ((Jvm.ClassFile.Reader.s2 : Jvm.ClassFile.Decoder Int) >>= fun x => pure (Instr.goto x)) := ⟨_, rfl, rfl⟩
theorem ok_172 (p : Nat) : dk_has p 172 (pure (Instr.ireturn)) := ⟨_, rfl, rfl⟩
theorem ok_177 (p : Nat) : dk_has p 177 (pure (Instr.return_)) := ⟨_, rfl, rfl⟩
theorem ok_180 (p : Nat) : dk_has p 180 ((Jvm.ClassFile.Reader.u2 : Jvm.ClassFile.Decoder Nat) >>= fun x => pure (Instr.getfield x)) := ⟨_, rfl, rfl⟩
theorem ok_181 (p : Nat) : dk_has p 181 ((Jvm.ClassFile.Reader.u2 : Jvm.ClassFile.Decoder Nat) >>= fun x => pure (Instr.putfield x)) := ⟨_, rfl, rfl⟩
theorem ok_182 (p : Nat) : dk_has p 182 ((Jvm.ClassFile.Reader.u2 : Jvm.ClassFile.Decoder Nat) >>= fun x => pure (Instr.invokevirtual x)) := ⟨_, rfl, rfl⟩
theorem ok_183 (p : Nat) : dk_has p 183 ((Jvm.ClassFile.Reader.u2 : Jvm.ClassFile.Decoder Nat) >>= fun x => pure (Instr.invokespecial x)) := ⟨_, rfl, rfl⟩
theorem ok_184 (p : Nat) : dk_has p 184 ((Jvm.ClassFile.Reader.u2 : Jvm.ClassFile.Decoder Nat) >>= fun x => pure (Instr.invokestatic x)) := ⟨_, rfl, rfl⟩
theorem ok_187 (p : Nat) : dk_has p 187 ((Jvm.ClassFile.Reader.u2 : Jvm.ClassFile.Decoder Nat) >>= fun x => pure (Instr.new x)) := ⟨_, rfl, rfl⟩
theorem ok_189 (p : Nat) : dk_has p 189 ((Jvm.ClassFile.Reader.u2 : Jvm.ClassFile.Decoder Nat) >>= fun x => pure (Instr.anewarray x)) := ⟨_, rfl, rfl⟩
theorem ok_190 (p : Nat) : dk_has p 190 (pure (Instr.arraylength)) := ⟨_, rfl, rfl⟩
theorem ok_191 (p : Nat) : dk_has p 191 (pure (Instr.athrow)) := ⟨_, rfl, rfl⟩
