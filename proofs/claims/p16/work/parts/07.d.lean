/-! A METHOD'S BYTES ARE READ ONCE: the commonest instructions by their bytes, the others by decode -/
noncomputable def dy_at (code : ByteArray) (p b : Nat) : Prop := ∃ h : p < code.size, (code[p]'h).toNat = b
theorem dy_u1 {code : ByteArray} {p b : Nat} (h : dy_at code p b) : (Jvm.ClassFile.Reader.u1 : Jvm.ClassFile.Decoder Nat) code p = .ok (b, p + 1) := by
  obtain ⟨h, e⟩ := h
  subst e
  show (dite (p < code.size) (fun h => (do set (p + 1); pure (code[p]'h).toNat : Jvm.ClassFile.Decoder Nat)) (fun _ => throw (Jvm.ClassFile.HasTruncated.truncated p))) code p = _
  rw [dif_pos h]
  rfl
theorem dy_bind {α β : Type} {m : Jvm.ClassFile.Decoder α} {f : α → Jvm.ClassFile.Decoder β} {code : ByteArray} {p p1 : Nat} {x : α} (h : m code p = .ok (x, p1)) : (m >>= f) code p = f x code p1 := by
  show (Except.bind (m code p) (fun q => f q.1 code q.2)) = _
  rw [h]
  rfl
theorem dy_map {α β : Type} {m : Jvm.ClassFile.Decoder α} {f : α → β} {code : ByteArray} {p p1 : Nat} {x : α} (h : m code p = .ok (x, p1)) : (f <$> m) code p = .ok (f x, p1) := by
  show (Except.bind (m code p) (fun q => Except.ok (f q.1, q.2))) = _
  rw [h]
  rfl
theorem dy_u2 {code : ByteArray} {p b c : Nat} (h : dy_at code p b) (h2 : dy_at code (p + 1) c) : (Jvm.ClassFile.Reader.u2 : Jvm.ClassFile.Decoder Nat) code p = .ok (b * 256 + c, p + 2) := by
  unfold Jvm.ClassFile.Reader.u2
  rw [dy_bind (dy_u1 h), dy_bind (dy_u1 h2)]
  rfl
theorem dy_s1 {code : ByteArray} {p b : Nat} (h : dy_at code p b) : (Jvm.ClassFile.Reader.s1 : Jvm.ClassFile.Decoder Int) code p = .ok (Jvm.ClassFile.Reader.signed 8 b, p + 1) := by
  unfold Jvm.ClassFile.Reader.s1
  exact dy_map (dy_u1 h)
theorem dy_s2 {code : ByteArray} {p b c : Nat} (h : dy_at code p b) (h2 : dy_at code (p + 1) c) : (Jvm.ClassFile.Reader.s2 : Jvm.ClassFile.Decoder Int) code p = .ok (Jvm.ClassFile.Reader.signed 16 (b * 256 + c), p + 2) := by
  unfold Jvm.ClassFile.Reader.s2
  exact dy_map (dy_u2 h h2)
theorem dy_dec {code : ByteArray} {pc n : Nat} {i : Instr} (h : Jvm.ClassFile.Decoder.instr pc code pc = .ok (i, pc + n)) : decode code pc = .ok (i, n) := by
  show (Except.bind (Jvm.ClassFile.Decoder.instr pc code pc) (fun q => Except.ok (q.1, q.2 - pc))) = _
  rw [h]
  show Except.ok (i, pc + n - pc) = _
  rw [Nat.add_sub_cancel_left]
section DQ
variable {code : ByteArray} {pc : Nat}
set_option maxRecDepth 30000 in
theorem dq_iload_n0 (h : dy_at code pc 26) : decode code pc = .ok (.iload_n 0, 1) := dy_dec (by unfold Jvm.ClassFile.Decoder.instr; rw [dy_bind (dy_u1 h)]; rfl)
set_option maxRecDepth 30000 in
theorem dq_iload_n1 (h : dy_at code pc 27) : decode code pc = .ok (.iload_n 1, 1) := dy_dec (by unfold Jvm.ClassFile.Decoder.instr; rw [dy_bind (dy_u1 h)]; rfl)
set_option maxRecDepth 30000 in
theorem dq_iload_n2 (h : dy_at code pc 28) : decode code pc = .ok (.iload_n 2, 1) := dy_dec (by unfold Jvm.ClassFile.Decoder.instr; rw [dy_bind (dy_u1 h)]; rfl)
set_option maxRecDepth 30000 in
theorem dq_iload_n3 (h : dy_at code pc 29) : decode code pc = .ok (.iload_n 3, 1) := dy_dec (by unfold Jvm.ClassFile.Decoder.instr; rw [dy_bind (dy_u1 h)]; rfl)
theorem dq_iload_n (k : Fin 4) (h : dy_at code pc (26 + k.val)) : decode code pc = .ok (.iload_n k, 1) := by
  obtain ⟨v, hv⟩ := k
  rcases (show v = 0 ∨ v = 1 ∨ v = 2 ∨ v = 3 by omega) with e | e | e | e <;> subst e
  · exact dq_iload_n0 h
  · exact dq_iload_n1 h
  · exact dq_iload_n2 h
  · exact dq_iload_n3 h
set_option maxRecDepth 30000 in
theorem dq_aload_n0 (h : dy_at code pc 42) : decode code pc = .ok (.aload_n 0, 1) := dy_dec (by unfold Jvm.ClassFile.Decoder.instr; rw [dy_bind (dy_u1 h)]; rfl)
set_option maxRecDepth 30000 in
theorem dq_aload_n1 (h : dy_at code pc 43) : decode code pc = .ok (.aload_n 1, 1) := dy_dec (by unfold Jvm.ClassFile.Decoder.instr; rw [dy_bind (dy_u1 h)]; rfl)
set_option maxRecDepth 30000 in
theorem dq_aload_n2 (h : dy_at code pc 44) : decode code pc = .ok (.aload_n 2, 1) := dy_dec (by unfold Jvm.ClassFile.Decoder.instr; rw [dy_bind (dy_u1 h)]; rfl)
set_option maxRecDepth 30000 in
theorem dq_aload_n3 (h : dy_at code pc 45) : decode code pc = .ok (.aload_n 3, 1) := dy_dec (by unfold Jvm.ClassFile.Decoder.instr; rw [dy_bind (dy_u1 h)]; rfl)
theorem dq_aload_n (k : Fin 4) (h : dy_at code pc (42 + k.val)) : decode code pc = .ok (.aload_n k, 1) := by
  obtain ⟨v, hv⟩ := k
  rcases (show v = 0 ∨ v = 1 ∨ v = 2 ∨ v = 3 by omega) with e | e | e | e <;> subst e
  · exact dq_aload_n0 h
  · exact dq_aload_n1 h
  · exact dq_aload_n2 h
  · exact dq_aload_n3 h
set_option maxRecDepth 30000 in
theorem dq_istore_n0 (h : dy_at code pc 59) : decode code pc = .ok (.istore_n 0, 1) := dy_dec (by unfold Jvm.ClassFile.Decoder.instr; rw [dy_bind (dy_u1 h)]; rfl)
set_option maxRecDepth 30000 in
theorem dq_istore_n1 (h : dy_at code pc 60) : decode code pc = .ok (.istore_n 1, 1) := dy_dec (by unfold Jvm.ClassFile.Decoder.instr; rw [dy_bind (dy_u1 h)]; rfl)
set_option maxRecDepth 30000 in
theorem dq_istore_n2 (h : dy_at code pc 61) : decode code pc = .ok (.istore_n 2, 1) := dy_dec (by unfold Jvm.ClassFile.Decoder.instr; rw [dy_bind (dy_u1 h)]; rfl)
set_option maxRecDepth 30000 in
theorem dq_istore_n3 (h : dy_at code pc 62) : decode code pc = .ok (.istore_n 3, 1) := dy_dec (by unfold Jvm.ClassFile.Decoder.instr; rw [dy_bind (dy_u1 h)]; rfl)
theorem dq_istore_n (k : Fin 4) (h : dy_at code pc (59 + k.val)) : decode code pc = .ok (.istore_n k, 1) := by
  obtain ⟨v, hv⟩ := k
  rcases (show v = 0 ∨ v = 1 ∨ v = 2 ∨ v = 3 by omega) with e | e | e | e <;> subst e
  · exact dq_istore_n0 h
  · exact dq_istore_n1 h
  · exact dq_istore_n2 h
  · exact dq_istore_n3 h
set_option maxRecDepth 30000 in
theorem dq_lload_n0 (h : dy_at code pc 30) : decode code pc = .ok (.lload_n 0, 1) := dy_dec (by unfold Jvm.ClassFile.Decoder.instr; rw [dy_bind (dy_u1 h)]; rfl)
set_option maxRecDepth 30000 in
theorem dq_lload_n1 (h : dy_at code pc 31) : decode code pc = .ok (.lload_n 1, 1) := dy_dec (by unfold Jvm.ClassFile.Decoder.instr; rw [dy_bind (dy_u1 h)]; rfl)
set_option maxRecDepth 30000 in
theorem dq_lload_n2 (h : dy_at code pc 32) : decode code pc = .ok (.lload_n 2, 1) := dy_dec (by unfold Jvm.ClassFile.Decoder.instr; rw [dy_bind (dy_u1 h)]; rfl)
set_option maxRecDepth 30000 in
theorem dq_lload_n3 (h : dy_at code pc 33) : decode code pc = .ok (.lload_n 3, 1) := dy_dec (by unfold Jvm.ClassFile.Decoder.instr; rw [dy_bind (dy_u1 h)]; rfl)
theorem dq_lload_n (k : Fin 4) (h : dy_at code pc (30 + k.val)) : decode code pc = .ok (.lload_n k, 1) := by
  obtain ⟨v, hv⟩ := k
  rcases (show v = 0 ∨ v = 1 ∨ v = 2 ∨ v = 3 by omega) with e | e | e | e <;> subst e
  · exact dq_lload_n0 h
  · exact dq_lload_n1 h
  · exact dq_lload_n2 h
  · exact dq_lload_n3 h
set_option maxRecDepth 30000 in
theorem dq_lstore_n0 (h : dy_at code pc 63) : decode code pc = .ok (.lstore_n 0, 1) := dy_dec (by unfold Jvm.ClassFile.Decoder.instr; rw [dy_bind (dy_u1 h)]; rfl)
set_option maxRecDepth 30000 in
theorem dq_lstore_n1 (h : dy_at code pc 64) : decode code pc = .ok (.lstore_n 1, 1) := dy_dec (by unfold Jvm.ClassFile.Decoder.instr; rw [dy_bind (dy_u1 h)]; rfl)
set_option maxRecDepth 30000 in
theorem dq_lstore_n2 (h : dy_at code pc 65) : decode code pc = .ok (.lstore_n 2, 1) := dy_dec (by unfold Jvm.ClassFile.Decoder.instr; rw [dy_bind (dy_u1 h)]; rfl)
set_option maxRecDepth 30000 in
theorem dq_lstore_n3 (h : dy_at code pc 66) : decode code pc = .ok (.lstore_n 3, 1) := dy_dec (by unfold Jvm.ClassFile.Decoder.instr; rw [dy_bind (dy_u1 h)]; rfl)
theorem dq_lstore_n (k : Fin 4) (h : dy_at code pc (63 + k.val)) : decode code pc = .ok (.lstore_n k, 1) := by
  obtain ⟨v, hv⟩ := k
  rcases (show v = 0 ∨ v = 1 ∨ v = 2 ∨ v = 3 by omega) with e | e | e | e <;> subst e
  · exact dq_lstore_n0 h
  · exact dq_lstore_n1 h
  · exact dq_lstore_n2 h
  · exact dq_lstore_n3 h
set_option maxRecDepth 30000 in
theorem dq_iconst2 (h : dy_at code pc 2) : decode code pc = .ok (.iconst (-1), 1) := dy_dec (by unfold Jvm.ClassFile.Decoder.instr; rw [dy_bind (dy_u1 h)]; rfl)
set_option maxRecDepth 30000 in
theorem dq_iconst3 (h : dy_at code pc 3) : decode code pc = .ok (.iconst 0, 1) := dy_dec (by unfold Jvm.ClassFile.Decoder.instr; rw [dy_bind (dy_u1 h)]; rfl)
set_option maxRecDepth 30000 in
theorem dq_iconst4 (h : dy_at code pc 4) : decode code pc = .ok (.iconst 1, 1) := dy_dec (by unfold Jvm.ClassFile.Decoder.instr; rw [dy_bind (dy_u1 h)]; rfl)
set_option maxRecDepth 30000 in
theorem dq_iconst5 (h : dy_at code pc 5) : decode code pc = .ok (.iconst 2, 1) := dy_dec (by unfold Jvm.ClassFile.Decoder.instr; rw [dy_bind (dy_u1 h)]; rfl)
set_option maxRecDepth 30000 in
theorem dq_iconst6 (h : dy_at code pc 6) : decode code pc = .ok (.iconst 3, 1) := dy_dec (by unfold Jvm.ClassFile.Decoder.instr; rw [dy_bind (dy_u1 h)]; rfl)
set_option maxRecDepth 30000 in
theorem dq_iconst7 (h : dy_at code pc 7) : decode code pc = .ok (.iconst 4, 1) := dy_dec (by unfold Jvm.ClassFile.Decoder.instr; rw [dy_bind (dy_u1 h)]; rfl)
set_option maxRecDepth 30000 in
theorem dq_iconst8 (h : dy_at code pc 8) : decode code pc = .ok (.iconst 5, 1) := dy_dec (by unfold Jvm.ClassFile.Decoder.instr; rw [dy_bind (dy_u1 h)]; rfl)
theorem dq_iconst {b : Nat} {n : Int} (h : dy_at code pc b) (hn : n = (b : Int) - 3) (h0 : 2 ≤ b) (h1 : b ≤ 8) : decode code pc = .ok (.iconst n, 1) := by
  rcases (show b = 2 ∨ b = 3 ∨ b = 4 ∨ b = 5 ∨ b = 6 ∨ b = 7 ∨ b = 8 by omega) with e | e | e | e | e | e | e <;> subst e <;> subst hn
  · exact dq_iconst2 h
  · exact dq_iconst3 h
  · exact dq_iconst4 h
  · exact dq_iconst5 h
  · exact dq_iconst6 h
  · exact dq_iconst7 h
  · exact dq_iconst8 h
set_option maxRecDepth 30000 in
theorem dq_iaload (h : dy_at code pc 46) : decode code pc = .ok (.iaload, 1) := dy_dec (by unfold Jvm.ClassFile.Decoder.instr; rw [dy_bind (dy_u1 h)]; rfl)
set_option maxRecDepth 30000 in
theorem dq_iastore (h : dy_at code pc 79) : decode code pc = .ok (.iastore, 1) := dy_dec (by unfold Jvm.ClassFile.Decoder.instr; rw [dy_bind (dy_u1 h)]; rfl)
set_option maxRecDepth 30000 in
theorem dq_iadd (h : dy_at code pc 96) : decode code pc = .ok (.iadd, 1) := dy_dec (by unfold Jvm.ClassFile.Decoder.instr; rw [dy_bind (dy_u1 h)]; rfl)
set_option maxRecDepth 30000 in
theorem dq_isub (h : dy_at code pc 100) : decode code pc = .ok (.isub, 1) := dy_dec (by unfold Jvm.ClassFile.Decoder.instr; rw [dy_bind (dy_u1 h)]; rfl)
set_option maxRecDepth 30000 in
theorem dq_imul (h : dy_at code pc 104) : decode code pc = .ok (.imul, 1) := dy_dec (by unfold Jvm.ClassFile.Decoder.instr; rw [dy_bind (dy_u1 h)]; rfl)
set_option maxRecDepth 30000 in
theorem dq_iand (h : dy_at code pc 126) : decode code pc = .ok (.iand, 1) := dy_dec (by unfold Jvm.ClassFile.Decoder.instr; rw [dy_bind (dy_u1 h)]; rfl)
set_option maxRecDepth 30000 in
theorem dq_ior (h : dy_at code pc 128) : decode code pc = .ok (.ior, 1) := dy_dec (by unfold Jvm.ClassFile.Decoder.instr; rw [dy_bind (dy_u1 h)]; rfl)
set_option maxRecDepth 30000 in
theorem dq_ireturn (h : dy_at code pc 172) : decode code pc = .ok (.ireturn, 1) := dy_dec (by unfold Jvm.ClassFile.Decoder.instr; rw [dy_bind (dy_u1 h)]; rfl)
set_option maxRecDepth 30000 in
theorem dq_dup (h : dy_at code pc 89) : decode code pc = .ok (.dup, 1) := dy_dec (by unfold Jvm.ClassFile.Decoder.instr; rw [dy_bind (dy_u1 h)]; rfl)
set_option maxRecDepth 30000 in
theorem dq_pop (h : dy_at code pc 87) : decode code pc = .ok (.pop, 1) := dy_dec (by unfold Jvm.ClassFile.Decoder.instr; rw [dy_bind (dy_u1 h)]; rfl)
set_option maxRecDepth 30000 in
theorem dq_return_ (h : dy_at code pc 177) : decode code pc = .ok (.return_, 1) := dy_dec (by unfold Jvm.ClassFile.Decoder.instr; rw [dy_bind (dy_u1 h)]; rfl)
set_option maxRecDepth 30000 in
theorem dq_laload (h : dy_at code pc 47) : decode code pc = .ok (.laload, 1) := dy_dec (by unfold Jvm.ClassFile.Decoder.instr; rw [dy_bind (dy_u1 h)]; rfl)
set_option maxRecDepth 30000 in
theorem dq_land (h : dy_at code pc 127) : decode code pc = .ok (.land, 1) := dy_dec (by unfold Jvm.ClassFile.Decoder.instr; rw [dy_bind (dy_u1 h)]; rfl)
set_option maxRecDepth 30000 in
theorem dq_iload {b : Nat} (h : dy_at code pc 21) (h1 : dy_at code (pc + 1) b) : decode code pc = .ok (Instr.iload b, 2) := dy_dec (by unfold Jvm.ClassFile.Decoder.instr; rw [dy_bind (dy_u1 h)]; show (Jvm.ClassFile.Reader.u1 >>= fun x => pure (Instr.iload x) : Jvm.ClassFile.Decoder Instr) code (pc + 1) = _; rw [dy_bind (dy_u1 h1)]; rfl)
set_option maxRecDepth 30000 in
theorem dq_istore {b : Nat} (h : dy_at code pc 54) (h1 : dy_at code (pc + 1) b) : decode code pc = .ok (Instr.istore b, 2) := dy_dec (by unfold Jvm.ClassFile.Decoder.instr; rw [dy_bind (dy_u1 h)]; show (Jvm.ClassFile.Reader.u1 >>= fun x => pure (Instr.istore x) : Jvm.ClassFile.Decoder Instr) code (pc + 1) = _; rw [dy_bind (dy_u1 h1)]; rfl)
set_option maxRecDepth 30000 in
theorem dq_aload {b : Nat} (h : dy_at code pc 25) (h1 : dy_at code (pc + 1) b) : decode code pc = .ok (Instr.aload b, 2) := dy_dec (by unfold Jvm.ClassFile.Decoder.instr; rw [dy_bind (dy_u1 h)]; show (Jvm.ClassFile.Reader.u1 >>= fun x => pure (Instr.aload x) : Jvm.ClassFile.Decoder Instr) code (pc + 1) = _; rw [dy_bind (dy_u1 h1)]; rfl)
set_option maxRecDepth 30000 in
theorem dq_lload {b : Nat} (h : dy_at code pc 22) (h1 : dy_at code (pc + 1) b) : decode code pc = .ok (Instr.lload b, 2) := dy_dec (by unfold Jvm.ClassFile.Decoder.instr; rw [dy_bind (dy_u1 h)]; show (Jvm.ClassFile.Reader.u1 >>= fun x => pure (Instr.lload x) : Jvm.ClassFile.Decoder Instr) code (pc + 1) = _; rw [dy_bind (dy_u1 h1)]; rfl)
set_option maxRecDepth 30000 in
theorem dq_lstore {b : Nat} (h : dy_at code pc 55) (h1 : dy_at code (pc + 1) b) : decode code pc = .ok (Instr.lstore b, 2) := dy_dec (by unfold Jvm.ClassFile.Decoder.instr; rw [dy_bind (dy_u1 h)]; show (Jvm.ClassFile.Reader.u1 >>= fun x => pure (Instr.lstore x) : Jvm.ClassFile.Decoder Instr) code (pc + 1) = _; rw [dy_bind (dy_u1 h1)]; rfl)
set_option maxRecDepth 30000 in
theorem dq_ldc {b : Nat} (h : dy_at code pc 18) (h1 : dy_at code (pc + 1) b) : decode code pc = .ok (Instr.ldc b, 2) := dy_dec (by unfold Jvm.ClassFile.Decoder.instr; rw [dy_bind (dy_u1 h)]; show (Jvm.ClassFile.Reader.u1 >>= fun x => pure (Instr.ldc x) : Jvm.ClassFile.Decoder Instr) code (pc + 1) = _; rw [dy_bind (dy_u1 h1)]; rfl)
set_option maxRecDepth 30000 in
theorem dq_bipush {b : Nat} (h : dy_at code pc 16) (h1 : dy_at code (pc + 1) b) : decode code pc = .ok (Instr.bipush (Jvm.ClassFile.Reader.signed 8 b), 2) := dy_dec (by unfold Jvm.ClassFile.Decoder.instr; rw [dy_bind (dy_u1 h)]; show (Jvm.ClassFile.Reader.s1 >>= fun x => pure (Instr.bipush x) : Jvm.ClassFile.Decoder Instr) code (pc + 1) = _; rw [dy_bind (dy_s1 h1)]; rfl)
set_option maxRecDepth 30000 in
theorem dq_sipush {b c : Nat} (h : dy_at code pc 17) (h1 : dy_at code (pc + 1) b) (h2 : dy_at code (pc + 2) c) : decode code pc = .ok (Instr.sipush (Jvm.ClassFile.Reader.signed 16 (b * 256 + c)), 3) := dy_dec (by unfold Jvm.ClassFile.Decoder.instr; rw [dy_bind (dy_u1 h)]; show (Jvm.ClassFile.Reader.s2 >>= fun x => pure (Instr.sipush x) : Jvm.ClassFile.Decoder Instr) code (pc + 1) = _; rw [dy_bind (dy_s2 h1 h2)]; rfl)
set_option maxRecDepth 30000 in
theorem dq_getfield {b c : Nat} (h : dy_at code pc 180) (h1 : dy_at code (pc + 1) b) (h2 : dy_at code (pc + 2) c) : decode code pc = .ok (Instr.getfield (b * 256 + c), 3) := dy_dec (by unfold Jvm.ClassFile.Decoder.instr; rw [dy_bind (dy_u1 h)]; show (Jvm.ClassFile.Reader.u2 >>= fun x => pure (Instr.getfield x) : Jvm.ClassFile.Decoder Instr) code (pc + 1) = _; rw [dy_bind (dy_u2 h1 h2)]; rfl)
set_option maxRecDepth 30000 in
theorem dq_putfield {b c : Nat} (h : dy_at code pc 181) (h1 : dy_at code (pc + 1) b) (h2 : dy_at code (pc + 2) c) : decode code pc = .ok (Instr.putfield (b * 256 + c), 3) := dy_dec (by unfold Jvm.ClassFile.Decoder.instr; rw [dy_bind (dy_u1 h)]; show (Jvm.ClassFile.Reader.u2 >>= fun x => pure (Instr.putfield x) : Jvm.ClassFile.Decoder Instr) code (pc + 1) = _; rw [dy_bind (dy_u2 h1 h2)]; rfl)
set_option maxRecDepth 30000 in
theorem dq_invokevirtual {b c : Nat} (h : dy_at code pc 182) (h1 : dy_at code (pc + 1) b) (h2 : dy_at code (pc + 2) c) : decode code pc = .ok (Instr.invokevirtual (b * 256 + c), 3) := dy_dec (by unfold Jvm.ClassFile.Decoder.instr; rw [dy_bind (dy_u1 h)]; show (Jvm.ClassFile.Reader.u2 >>= fun x => pure (Instr.invokevirtual x) : Jvm.ClassFile.Decoder Instr) code (pc + 1) = _; rw [dy_bind (dy_u2 h1 h2)]; rfl)
set_option maxRecDepth 30000 in
theorem dq_invokespecial {b c : Nat} (h : dy_at code pc 183) (h1 : dy_at code (pc + 1) b) (h2 : dy_at code (pc + 2) c) : decode code pc = .ok (Instr.invokespecial (b * 256 + c), 3) := dy_dec (by unfold Jvm.ClassFile.Decoder.instr; rw [dy_bind (dy_u1 h)]; show (Jvm.ClassFile.Reader.u2 >>= fun x => pure (Instr.invokespecial x) : Jvm.ClassFile.Decoder Instr) code (pc + 1) = _; rw [dy_bind (dy_u2 h1 h2)]; rfl)
set_option maxRecDepth 30000 in
theorem dq_invokestatic {b c : Nat} (h : dy_at code pc 184) (h1 : dy_at code (pc + 1) b) (h2 : dy_at code (pc + 2) c) : decode code pc = .ok (Instr.invokestatic (b * 256 + c), 3) := dy_dec (by unfold Jvm.ClassFile.Decoder.instr; rw [dy_bind (dy_u1 h)]; show (Jvm.ClassFile.Reader.u2 >>= fun x => pure (Instr.invokestatic x) : Jvm.ClassFile.Decoder Instr) code (pc + 1) = _; rw [dy_bind (dy_u2 h1 h2)]; rfl)
set_option maxRecDepth 30000 in
theorem dq_ldc2_w {b c : Nat} (h : dy_at code pc 20) (h1 : dy_at code (pc + 1) b) (h2 : dy_at code (pc + 2) c) : decode code pc = .ok (Instr.ldc2_w (b * 256 + c), 3) := dy_dec (by unfold Jvm.ClassFile.Decoder.instr; rw [dy_bind (dy_u1 h)]; show (Jvm.ClassFile.Reader.u2 >>= fun x => pure (Instr.ldc2_w x) : Jvm.ClassFile.Decoder Instr) code (pc + 1) = _; rw [dy_bind (dy_u2 h1 h2)]; rfl)
set_option maxRecDepth 30000 in
theorem dq_goto {b c : Nat} (h : dy_at code pc 167) (h1 : dy_at code (pc + 1) b) (h2 : dy_at code (pc + 2) c) : decode code pc = .ok (Instr.goto (Jvm.ClassFile.Reader.signed 16 (b * 256 + c)), 3) := dy_dec (by unfold Jvm.ClassFile.Decoder.instr; rw [dy_bind (dy_u1 h)]; show (Jvm.ClassFile.Reader.s2 >>= fun x => pure (Instr.goto x) : Jvm.ClassFile.Decoder Instr) code (pc + 1) = _; rw [dy_bind (dy_s2 h1 h2)]; rfl)
set_option maxRecDepth 30000 in
theorem dq_ifCond_eq {b c : Nat} (h : dy_at code pc 153) (h1 : dy_at code (pc + 1) b) (h2 : dy_at code (pc + 2) c) : decode code pc = .ok (Instr.ifCond .eq (Jvm.ClassFile.Reader.signed 16 (b * 256 + c)), 3) := dy_dec (by unfold Jvm.ClassFile.Decoder.instr; rw [dy_bind (dy_u1 h)]; show (Jvm.ClassFile.Reader.s2 >>= fun x => pure (Instr.ifCond .eq x) : Jvm.ClassFile.Decoder Instr) code (pc + 1) = _; rw [dy_bind (dy_s2 h1 h2)]; rfl)
set_option maxRecDepth 30000 in
theorem dq_ifCond_ne {b c : Nat} (h : dy_at code pc 154) (h1 : dy_at code (pc + 1) b) (h2 : dy_at code (pc + 2) c) : decode code pc = .ok (Instr.ifCond .ne (Jvm.ClassFile.Reader.signed 16 (b * 256 + c)), 3) := dy_dec (by unfold Jvm.ClassFile.Decoder.instr; rw [dy_bind (dy_u1 h)]; show (Jvm.ClassFile.Reader.s2 >>= fun x => pure (Instr.ifCond .ne x) : Jvm.ClassFile.Decoder Instr) code (pc + 1) = _; rw [dy_bind (dy_s2 h1 h2)]; rfl)
set_option maxRecDepth 30000 in
theorem dq_ifCond_lt {b c : Nat} (h : dy_at code pc 155) (h1 : dy_at code (pc + 1) b) (h2 : dy_at code (pc + 2) c) : decode code pc = .ok (Instr.ifCond .lt (Jvm.ClassFile.Reader.signed 16 (b * 256 + c)), 3) := dy_dec (by unfold Jvm.ClassFile.Decoder.instr; rw [dy_bind (dy_u1 h)]; show (Jvm.ClassFile.Reader.s2 >>= fun x => pure (Instr.ifCond .lt x) : Jvm.ClassFile.Decoder Instr) code (pc + 1) = _; rw [dy_bind (dy_s2 h1 h2)]; rfl)
set_option maxRecDepth 30000 in
theorem dq_ifCond_ge {b c : Nat} (h : dy_at code pc 156) (h1 : dy_at code (pc + 1) b) (h2 : dy_at code (pc + 2) c) : decode code pc = .ok (Instr.ifCond .ge (Jvm.ClassFile.Reader.signed 16 (b * 256 + c)), 3) := dy_dec (by unfold Jvm.ClassFile.Decoder.instr; rw [dy_bind (dy_u1 h)]; show (Jvm.ClassFile.Reader.s2 >>= fun x => pure (Instr.ifCond .ge x) : Jvm.ClassFile.Decoder Instr) code (pc + 1) = _; rw [dy_bind (dy_s2 h1 h2)]; rfl)
set_option maxRecDepth 30000 in
theorem dq_ifCond_gt {b c : Nat} (h : dy_at code pc 157) (h1 : dy_at code (pc + 1) b) (h2 : dy_at code (pc + 2) c) : decode code pc = .ok (Instr.ifCond .gt (Jvm.ClassFile.Reader.signed 16 (b * 256 + c)), 3) := dy_dec (by unfold Jvm.ClassFile.Decoder.instr; rw [dy_bind (dy_u1 h)]; show (Jvm.ClassFile.Reader.s2 >>= fun x => pure (Instr.ifCond .gt x) : Jvm.ClassFile.Decoder Instr) code (pc + 1) = _; rw [dy_bind (dy_s2 h1 h2)]; rfl)
set_option maxRecDepth 30000 in
theorem dq_ifCond_le {b c : Nat} (h : dy_at code pc 158) (h1 : dy_at code (pc + 1) b) (h2 : dy_at code (pc + 2) c) : decode code pc = .ok (Instr.ifCond .le (Jvm.ClassFile.Reader.signed 16 (b * 256 + c)), 3) := dy_dec (by unfold Jvm.ClassFile.Decoder.instr; rw [dy_bind (dy_u1 h)]; show (Jvm.ClassFile.Reader.s2 >>= fun x => pure (Instr.ifCond .le x) : Jvm.ClassFile.Decoder Instr) code (pc + 1) = _; rw [dy_bind (dy_s2 h1 h2)]; rfl)
set_option maxRecDepth 30000 in
theorem dq_if_icmp_eq {b c : Nat} (h : dy_at code pc 159) (h1 : dy_at code (pc + 1) b) (h2 : dy_at code (pc + 2) c) : decode code pc = .ok (Instr.if_icmp .eq (Jvm.ClassFile.Reader.signed 16 (b * 256 + c)), 3) := dy_dec (by unfold Jvm.ClassFile.Decoder.instr; rw [dy_bind (dy_u1 h)]; show (Jvm.ClassFile.Reader.s2 >>= fun x => pure (Instr.if_icmp .eq x) : Jvm.ClassFile.Decoder Instr) code (pc + 1) = _; rw [dy_bind (dy_s2 h1 h2)]; rfl)
set_option maxRecDepth 30000 in
theorem dq_if_icmp_ne {b c : Nat} (h : dy_at code pc 160) (h1 : dy_at code (pc + 1) b) (h2 : dy_at code (pc + 2) c) : decode code pc = .ok (Instr.if_icmp .ne (Jvm.ClassFile.Reader.signed 16 (b * 256 + c)), 3) := dy_dec (by unfold Jvm.ClassFile.Decoder.instr; rw [dy_bind (dy_u1 h)]; show (Jvm.ClassFile.Reader.s2 >>= fun x => pure (Instr.if_icmp .ne x) : Jvm.ClassFile.Decoder Instr) code (pc + 1) = _; rw [dy_bind (dy_s2 h1 h2)]; rfl)
set_option maxRecDepth 30000 in
theorem dq_if_icmp_lt {b c : Nat} (h : dy_at code pc 161) (h1 : dy_at code (pc + 1) b) (h2 : dy_at code (pc + 2) c) : decode code pc = .ok (Instr.if_icmp .lt (Jvm.ClassFile.Reader.signed 16 (b * 256 + c)), 3) := dy_dec (by unfold Jvm.ClassFile.Decoder.instr; rw [dy_bind (dy_u1 h)]; show (Jvm.ClassFile.Reader.s2 >>= fun x => pure (Instr.if_icmp .lt x) : Jvm.ClassFile.Decoder Instr) code (pc + 1) = _; rw [dy_bind (dy_s2 h1 h2)]; rfl)
set_option maxRecDepth 30000 in
theorem dq_if_icmp_ge {b c : Nat} (h : dy_at code pc 162) (h1 : dy_at code (pc + 1) b) (h2 : dy_at code (pc + 2) c) : decode code pc = .ok (Instr.if_icmp .ge (Jvm.ClassFile.Reader.signed 16 (b * 256 + c)), 3) := dy_dec (by unfold Jvm.ClassFile.Decoder.instr; rw [dy_bind (dy_u1 h)]; show (Jvm.ClassFile.Reader.s2 >>= fun x => pure (Instr.if_icmp .ge x) : Jvm.ClassFile.Decoder Instr) code (pc + 1) = _; rw [dy_bind (dy_s2 h1 h2)]; rfl)
set_option maxRecDepth 30000 in
theorem dq_if_icmp_gt {b c : Nat} (h : dy_at code pc 163) (h1 : dy_at code (pc + 1) b) (h2 : dy_at code (pc + 2) c) : decode code pc = .ok (Instr.if_icmp .gt (Jvm.ClassFile.Reader.signed 16 (b * 256 + c)), 3) := dy_dec (by unfold Jvm.ClassFile.Decoder.instr; rw [dy_bind (dy_u1 h)]; show (Jvm.ClassFile.Reader.s2 >>= fun x => pure (Instr.if_icmp .gt x) : Jvm.ClassFile.Decoder Instr) code (pc + 1) = _; rw [dy_bind (dy_s2 h1 h2)]; rfl)
set_option maxRecDepth 30000 in
theorem dq_if_icmp_le {b c : Nat} (h : dy_at code pc 164) (h1 : dy_at code (pc + 1) b) (h2 : dy_at code (pc + 2) c) : decode code pc = .ok (Instr.if_icmp .le (Jvm.ClassFile.Reader.signed 16 (b * 256 + c)), 3) := dy_dec (by unfold Jvm.ClassFile.Decoder.instr; rw [dy_bind (dy_u1 h)]; show (Jvm.ClassFile.Reader.s2 >>= fun x => pure (Instr.if_icmp .le x) : Jvm.ClassFile.Decoder Instr) code (pc + 1) = _; rw [dy_bind (dy_s2 h1 h2)]; rfl)
set_option maxRecDepth 30000 in
theorem dq_iinc {b c : Nat} (h : dy_at code pc 132) (h1 : dy_at code (pc + 1) b) (h2 : dy_at code (pc + 2) c) : decode code pc = .ok (.iinc b (Jvm.ClassFile.Reader.signed 8 c), 3) := dy_dec (by unfold Jvm.ClassFile.Decoder.instr; rw [dy_bind (dy_u1 h)]; show (Jvm.ClassFile.Reader.u1 >>= fun x => Jvm.ClassFile.Reader.s1 >>= fun y => pure (Instr.iinc x y) : Jvm.ClassFile.Decoder Instr) code (pc + 1) = _; rw [dy_bind (dy_u1 h1), dy_bind (dy_s1 h2)]; rfl)
end DQ
/-! what the bytes from a place on say -/
noncomputable def co_i (c : ClassFile.Cond) : Nat := match c with
  | .eq => 0
  | .ne => 1
  | .lt => 2
  | .ge => 3
  | .gt => 4
  | .le => 5
noncomputable def ey1 (k len : Nat) (bs : List UInt8) : Bool := match bs with
  | a :: _ => Nat.beq a.toNat k && Nat.beq len 1
  | _ => false
noncomputable def ey1c (n : Int) (len : Nat) (bs : List UInt8) : Bool := match bs with
  | a :: _ => decide (n = (a.toNat : Int) - 3) && Nat.ble 2 a.toNat && Nat.ble a.toNat 8 && Nat.beq len 1
  | _ => false
noncomputable def ey2 (k v len : Nat) (bs : List UInt8) : Bool := match bs with
  | a :: b :: _ => Nat.beq a.toNat k && Nat.beq b.toNat v && Nat.beq len 2
  | _ => false
noncomputable def ey2s (k : Nat) (v : Int) (len : Nat) (bs : List UInt8) : Bool := match bs with
  | a :: b :: _ => Nat.beq a.toNat k && decide (Jvm.ClassFile.Reader.signed 8 b.toNat = v) && Nat.beq len 2
  | _ => false
noncomputable def ey3 (k v len : Nat) (bs : List UInt8) : Bool := match bs with
  | a :: b :: c :: _ => Nat.beq a.toNat k && Nat.beq (b.toNat * 256 + c.toNat) v && Nat.beq len 3
  | _ => false
noncomputable def ey3s (k : Nat) (v : Int) (len : Nat) (bs : List UInt8) : Bool := match bs with
  | a :: b :: c :: _ => Nat.beq a.toNat k && decide (Jvm.ClassFile.Reader.signed 16 (b.toNat * 256 + c.toNat) = v) && Nat.beq len 3
  | _ => false
noncomputable def ey3i (n : Nat) (v : Int) (len : Nat) (bs : List UInt8) : Bool := match bs with
  | a :: b :: c :: _ => Nat.beq a.toNat 132 && Nat.beq b.toNat n && decide (Jvm.ClassFile.Reader.signed 8 c.toNat = v) && Nat.beq len 3
  | _ => false
section DE
variable {code : ByteArray} {pc : Nat} {bs : List UInt8}
theorem dy_dr {x : UInt8} (hb : x :: bs = code.data.toList.drop pc) : dy_at code pc x.toNat ∧ bs = code.data.toList.drop (pc + 1) := by
  have hl : pc < code.data.toList.length := by
    rcases Nat.lt_or_ge pc code.data.toList.length with z | z
    · exact z
    · rw [List.drop_eq_nil_of_le z] at hb
      cases hb
  rw [List.drop_eq_getElem_cons hl] at hb
  injection hb with h1 h2
  refine ⟨⟨hl, ?_⟩, h2⟩
  rw [h1]
  rfl
theorem ey1_ok {k len : Nat} (h : ey1 k len bs = true) (hb : bs = code.data.toList.drop pc) : dy_at code pc k ∧ len = 1 := by
  unfold ey1 at h
  split at h
  · simp only [Bool.and_eq_true] at h
    have d := dy_dr hb
    exact ⟨Nat.eq_of_beq_eq_true h.1 ▸ d.1, Nat.eq_of_beq_eq_true h.2⟩
  · cases h
theorem ey1c_ok {n : Int} {len : Nat} (h : ey1c n len bs = true) (hb : bs = code.data.toList.drop pc) : decode code pc = .ok (.iconst n, len) := by
  unfold ey1c at h
  split at h
  · simp only [Bool.and_eq_true, decide_eq_true_eq] at h
    have d := dy_dr hb
    rw [Nat.eq_of_beq_eq_true h.2]
    exact dq_iconst d.1 h.1.1.1 (Nat.le_of_ble_eq_true h.1.1.2) (Nat.le_of_ble_eq_true h.1.2)
  · cases h
theorem ey2_ok {k v len : Nat} (h : ey2 k v len bs = true) (hb : bs = code.data.toList.drop pc) : dy_at code pc k ∧ dy_at code (pc + 1) v ∧ len = 2 := by
  unfold ey2 at h
  split at h
  · simp only [Bool.and_eq_true] at h
    have d := dy_dr hb
    have d2 := dy_dr d.2
    exact ⟨Nat.eq_of_beq_eq_true h.1.1 ▸ d.1, Nat.eq_of_beq_eq_true h.1.2 ▸ d2.1, Nat.eq_of_beq_eq_true h.2⟩
  · cases h
theorem ey2s_ok {k len : Nat} {v : Int} (h : ey2s k v len bs = true) (hb : bs = code.data.toList.drop pc) : ∃ b : Nat, dy_at code pc k ∧ dy_at code (pc + 1) b ∧ Jvm.ClassFile.Reader.signed 8 b = v ∧ len = 2 := by
  unfold ey2s at h
  split at h
  · simp only [Bool.and_eq_true, decide_eq_true_eq] at h
    have d := dy_dr hb
    have d2 := dy_dr d.2
    exact ⟨_, Nat.eq_of_beq_eq_true h.1.1 ▸ d.1, d2.1, h.1.2, Nat.eq_of_beq_eq_true h.2⟩
  · cases h
theorem ey3_ok {k v len : Nat} (h : ey3 k v len bs = true) (hb : bs = code.data.toList.drop pc) : ∃ b c : Nat, dy_at code pc k ∧ dy_at code (pc + 1) b ∧ dy_at code (pc + 2) c ∧ b * 256 + c = v ∧ len = 3 := by
  unfold ey3 at h
  split at h
  · simp only [Bool.and_eq_true] at h
    have d := dy_dr hb
    have d2 := dy_dr d.2
    have d3 := dy_dr d2.2
    exact ⟨_, _, Nat.eq_of_beq_eq_true h.1.1 ▸ d.1, d2.1, d3.1, Nat.eq_of_beq_eq_true h.1.2, Nat.eq_of_beq_eq_true h.2⟩
  · cases h
theorem ey3s_ok {k len : Nat} {v : Int} (h : ey3s k v len bs = true) (hb : bs = code.data.toList.drop pc) : ∃ b c : Nat, dy_at code pc k ∧ dy_at code (pc + 1) b ∧ dy_at code (pc + 2) c ∧ Jvm.ClassFile.Reader.signed 16 (b * 256 + c) = v ∧ len = 3 := by
  unfold ey3s at h
  split at h
  · simp only [Bool.and_eq_true, decide_eq_true_eq] at h
    have d := dy_dr hb
    have d2 := dy_dr d.2
    have d3 := dy_dr d2.2
    exact ⟨_, _, Nat.eq_of_beq_eq_true h.1.1 ▸ d.1, d2.1, d3.1, h.1.2, Nat.eq_of_beq_eq_true h.2⟩
  · cases h
theorem ey3i_ok {n len : Nat} {v : Int} (h : ey3i n v len bs = true) (hb : bs = code.data.toList.drop pc) : decode code pc = .ok (.iinc n v, len) := by
  unfold ey3i at h
  split at h
  · simp only [Bool.and_eq_true, decide_eq_true_eq] at h
    have d := dy_dr hb
    have d2 := dy_dr d.2
    have d3 := dy_dr d2.2
    rw [Nat.eq_of_beq_eq_true h.2, ← h.1.2]
    exact dq_iinc (Nat.eq_of_beq_eq_true h.1.1.1 ▸ d.1) (Nat.eq_of_beq_eq_true h.1.1.2 ▸ d2.1) d3.1
  · cases h
end DE
noncomputable def dyk (i : Instr) (len : Nat) (bs : List UInt8) : Bool := match i with
  | .iload_n k => ey1 (26 + k.val) len bs
  | .aload_n k => ey1 (42 + k.val) len bs
  | .istore_n k => ey1 (59 + k.val) len bs
  | .lload_n k => ey1 (30 + k.val) len bs
  | .lstore_n k => ey1 (63 + k.val) len bs
  | .iconst n => ey1c n len bs
  | .iaload => ey1 46 len bs
  | .iastore => ey1 79 len bs
  | .iadd => ey1 96 len bs
  | .isub => ey1 100 len bs
  | .imul => ey1 104 len bs
  | .iand => ey1 126 len bs
  | .ior => ey1 128 len bs
  | .ireturn => ey1 172 len bs
  | .dup => ey1 89 len bs
  | .pop => ey1 87 len bs
  | .return_ => ey1 177 len bs
  | .laload => ey1 47 len bs
  | .land => ey1 127 len bs
  | .iload v => ey2 21 v len bs
  | .istore v => ey2 54 v len bs
  | .aload v => ey2 25 v len bs
  | .lload v => ey2 22 v len bs
  | .lstore v => ey2 55 v len bs
  | .ldc v => ey2 18 v len bs
  | .bipush v => ey2s 16 v len bs
  | .sipush v => ey3s 17 v len bs
  | .getfield v => ey3 180 v len bs
  | .putfield v => ey3 181 v len bs
  | .invokevirtual v => ey3 182 v len bs
  | .invokespecial v => ey3 183 v len bs
  | .invokestatic v => ey3 184 v len bs
  | .ldc2_w v => ey3 20 v len bs
  | .goto v => ey3s 167 v len bs
  | .ifCond .eq v => ey3s 153 v len bs
  | .ifCond .ne v => ey3s 154 v len bs
  | .ifCond .lt v => ey3s 155 v len bs
  | .ifCond .ge v => ey3s 156 v len bs
  | .ifCond .gt v => ey3s 157 v len bs
  | .ifCond .le v => ey3s 158 v len bs
  | .if_icmp .eq v => ey3s 159 v len bs
  | .if_icmp .ne v => ey3s 160 v len bs
  | .if_icmp .lt v => ey3s 161 v len bs
  | .if_icmp .ge v => ey3s 162 v len bs
  | .if_icmp .gt v => ey3s 163 v len bs
  | .if_icmp .le v => ey3s 164 v len bs
  | .iinc n v => ey3i n v len bs
  | _ => false
theorem dyk_ok {code : ByteArray} {pc len : Nat} {bs : List UInt8} {i : Instr} (h : dyk i len bs = true) (hb : bs = code.data.toList.drop pc) : decode code pc = .ok (i, len) := by
  unfold dyk at h
  split at h
  · obtain ⟨h1, e⟩ := ey1_ok h hb; rw [e]; exact dq_iload_n _ h1
  · obtain ⟨h1, e⟩ := ey1_ok h hb; rw [e]; exact dq_aload_n _ h1
  · obtain ⟨h1, e⟩ := ey1_ok h hb; rw [e]; exact dq_istore_n _ h1
  · obtain ⟨h1, e⟩ := ey1_ok h hb; rw [e]; exact dq_lload_n _ h1
  · obtain ⟨h1, e⟩ := ey1_ok h hb; rw [e]; exact dq_lstore_n _ h1
  · exact ey1c_ok h hb
  · obtain ⟨h1, e⟩ := ey1_ok h hb; rw [e]; exact dq_iaload h1
  · obtain ⟨h1, e⟩ := ey1_ok h hb; rw [e]; exact dq_iastore h1
  · obtain ⟨h1, e⟩ := ey1_ok h hb; rw [e]; exact dq_iadd h1
  · obtain ⟨h1, e⟩ := ey1_ok h hb; rw [e]; exact dq_isub h1
  · obtain ⟨h1, e⟩ := ey1_ok h hb; rw [e]; exact dq_imul h1
  · obtain ⟨h1, e⟩ := ey1_ok h hb; rw [e]; exact dq_iand h1
  · obtain ⟨h1, e⟩ := ey1_ok h hb; rw [e]; exact dq_ior h1
  · obtain ⟨h1, e⟩ := ey1_ok h hb; rw [e]; exact dq_ireturn h1
  · obtain ⟨h1, e⟩ := ey1_ok h hb; rw [e]; exact dq_dup h1
  · obtain ⟨h1, e⟩ := ey1_ok h hb; rw [e]; exact dq_pop h1
  · obtain ⟨h1, e⟩ := ey1_ok h hb; rw [e]; exact dq_return_ h1
  · obtain ⟨h1, e⟩ := ey1_ok h hb; rw [e]; exact dq_laload h1
  · obtain ⟨h1, e⟩ := ey1_ok h hb; rw [e]; exact dq_land h1
  · obtain ⟨h1, h2, e⟩ := ey2_ok h hb; rw [e]; exact dq_iload h1 h2
  · obtain ⟨h1, h2, e⟩ := ey2_ok h hb; rw [e]; exact dq_istore h1 h2
  · obtain ⟨h1, h2, e⟩ := ey2_ok h hb; rw [e]; exact dq_aload h1 h2
  · obtain ⟨h1, h2, e⟩ := ey2_ok h hb; rw [e]; exact dq_lload h1 h2
  · obtain ⟨h1, h2, e⟩ := ey2_ok h hb; rw [e]; exact dq_lstore h1 h2
  · obtain ⟨h1, h2, e⟩ := ey2_ok h hb; rw [e]; exact dq_ldc h1 h2
  · obtain ⟨b, h1, h2, e1, e⟩ := ey2s_ok h hb; rw [e, ← e1]; exact dq_bipush h1 h2
  · obtain ⟨b, c, h1, h2, h3, e1, e⟩ := ey3s_ok h hb; rw [e, ← e1]; exact dq_sipush h1 h2 h3
  · obtain ⟨b, c, h1, h2, h3, e1, e⟩ := ey3_ok h hb; rw [e, ← e1]; exact dq_getfield h1 h2 h3
  · obtain ⟨b, c, h1, h2, h3, e1, e⟩ := ey3_ok h hb; rw [e, ← e1]; exact dq_putfield h1 h2 h3
  · obtain ⟨b, c, h1, h2, h3, e1, e⟩ := ey3_ok h hb; rw [e, ← e1]; exact dq_invokevirtual h1 h2 h3
  · obtain ⟨b, c, h1, h2, h3, e1, e⟩ := ey3_ok h hb; rw [e, ← e1]; exact dq_invokespecial h1 h2 h3
  · obtain ⟨b, c, h1, h2, h3, e1, e⟩ := ey3_ok h hb; rw [e, ← e1]; exact dq_invokestatic h1 h2 h3
  · obtain ⟨b, c, h1, h2, h3, e1, e⟩ := ey3_ok h hb; rw [e, ← e1]; exact dq_ldc2_w h1 h2 h3
  · obtain ⟨b, c, h1, h2, h3, e1, e⟩ := ey3s_ok h hb; rw [e, ← e1]; exact dq_goto h1 h2 h3
  · obtain ⟨b, c, h1, h2, h3, e1, e⟩ := ey3s_ok h hb; rw [e, ← e1]; exact dq_ifCond_eq h1 h2 h3
  · obtain ⟨b, c, h1, h2, h3, e1, e⟩ := ey3s_ok h hb; rw [e, ← e1]; exact dq_ifCond_ne h1 h2 h3
  · obtain ⟨b, c, h1, h2, h3, e1, e⟩ := ey3s_ok h hb; rw [e, ← e1]; exact dq_ifCond_lt h1 h2 h3
  · obtain ⟨b, c, h1, h2, h3, e1, e⟩ := ey3s_ok h hb; rw [e, ← e1]; exact dq_ifCond_ge h1 h2 h3
  · obtain ⟨b, c, h1, h2, h3, e1, e⟩ := ey3s_ok h hb; rw [e, ← e1]; exact dq_ifCond_gt h1 h2 h3
  · obtain ⟨b, c, h1, h2, h3, e1, e⟩ := ey3s_ok h hb; rw [e, ← e1]; exact dq_ifCond_le h1 h2 h3
  · obtain ⟨b, c, h1, h2, h3, e1, e⟩ := ey3s_ok h hb; rw [e, ← e1]; exact dq_if_icmp_eq h1 h2 h3
  · obtain ⟨b, c, h1, h2, h3, e1, e⟩ := ey3s_ok h hb; rw [e, ← e1]; exact dq_if_icmp_ne h1 h2 h3
  · obtain ⟨b, c, h1, h2, h3, e1, e⟩ := ey3s_ok h hb; rw [e, ← e1]; exact dq_if_icmp_lt h1 h2 h3
  · obtain ⟨b, c, h1, h2, h3, e1, e⟩ := ey3s_ok h hb; rw [e, ← e1]; exact dq_if_icmp_ge h1 h2 h3
  · obtain ⟨b, c, h1, h2, h3, e1, e⟩ := ey3s_ok h hb; rw [e, ← e1]; exact dq_if_icmp_gt h1 h2 h3
  · obtain ⟨b, c, h1, h2, h3, e1, e⟩ := ey3s_ok h hb; rw [e, ← e1]; exact dq_if_icmp_le h1 h2 h3
  · exact ey3i_ok h hb
  · cases h
noncomputable def mm_cks (mi : Nat) (f : Nat → Option mm_R) : Nat → Nat → List UInt8 → Bool
  | 0, _, _ => true
  | _ + 1, _, [] => false
  | n + 1, pc, b :: bs => (match f pc with
    | none => true
    | some q => (dyk q.1 q.2.1 (b :: bs) || decide (decode (mm_cc mi) pc = .ok (q.1, q.2.1))) && mm_cx mi pc q) && mm_cks mi f n (pc + 1) bs
theorem mm_ckm {mi : Nat} {f : Nat → Option mm_R} : ∀ (n pc : Nat) (bs : List UInt8), bs = (mm_cc mi).data.toList.drop pc → mm_cks mi f n pc bs = true → mm_ckp mi f pc n = true
  | 0, _, _, _, _ => rfl
  | _ + 1, _, [], _, h => by
    have h : false = true := h
    cases h
  | n + 1, pc, b :: bs, hb, h => by
    simp only [mm_cks, Bool.and_eq_true] at h
    have h2 := mm_ckm n (pc + 1) bs (dy_dr hb).2 h.2
    show (mm_cko mi f pc && mm_ckp mi f (pc + 1) n) = true
    rw [h2, Bool.and_true]
    have h1 := h.1
    unfold mm_cko
    cases e : f pc with
    | none => rfl
    | some q =>
      rw [e] at h1
      simp only [Bool.and_eq_true, Bool.or_eq_true] at h1
      show mm_ck mi pc q = true
      unfold mm_ck
      rw [Bool.and_eq_true]
      refine ⟨?_, h1.2⟩
      rcases h1.1 with z | z
      · exact decide_eq_true (dyk_ok z hb)
      · exact z
theorem mm_ckn {mi n pc : Nat} {f : Nat → Option mm_R} (h : mm_cks mi f n pc ((mm_cc mi).data.toList.drop pc) = true) : mm_ckp mi f pc n = true := mm_ckm n pc _ rfl h
