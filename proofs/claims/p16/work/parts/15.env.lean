/-! what the start gives, carried along -/
theorem rl_ao {u U : State} (hvm : u.vm.Alike U.vm) (h : (Cond.arrayOver (.array .int)).before #[] u = true) : (Cond.arrayOver (.array .int)).before #[] U = true := by
  obtain ⟨comp, c, k, h1, h2, h3, h4, h5⟩ := Jvm.Stand.arrayOver_specB h
  obtain ⟨k', hk', he⟩ := hvm.2.2 _ _ h3
  have hi : (U.vm.classes.findIdx? fun (x : Class) => match x.kind with | .array component _ => component == comp | _ => false) = some c := by
    have e1 := va_idx_bare U.vm comp
    have e2 := va_idx_bare u.vm comp
    first | rw [← hvm.bare_eq] at e1 | rw [hvm.bare_eq] at e1
    exact (e1.symm.trans e2).trans h2
  have hkind : k'.kind = .array comp (.array .int) := by rw [he]; exact h4
  have f1 : U.vm.findClass (FieldType.array .int).toString = some comp := by rw [hvm.findClass]; exact h1
  have f2 : U.vm.findClass ("[" ++ (FieldType.array .int).toString) = some c := by rw [hvm.findClass]; exact h5
  unfold Cond.before Cond.holds
  simp only [Cond.value]
  rw [f1, Option.bind_some]
  refine (congrArg (fun o : Option Nat => (o.bind (fun c => (U.vm.classes[c]?).map fun (k : Class) => match k.kind with | .array _ ty => decide (ty = FieldType.array .int) && decide (U.vm.findClass ("[" ++ (FieldType.array .int).toString) = some c) | _ => false) == some true)) hi).trans ?_
  simp [hk', hkind, f2]
theorem ng_warm {s U : State} (hW : s.WarmedH U.vm) (h : ∀ w ∈ ng_ws, va_Nw w s) : ∀ w ∈ ng_ws, va_Nw w U := by
  unfold ng_ws at h ⊢
  simp only [List.forall_mem_cons] at h ⊢
  obtain ⟨h1, h2, h3, h4, h5, -⟩ := h
  exact ⟨va_Nw.warmD hW h1, va_Nw.warmD hW h2, va_Nw.warmD hW h3, va_Nw.warmC hW h4, va_Nw.warmC hW h5, fun _ z => absurd z List.not_mem_nil⟩
theorem rl_E.warm {E : Nat → Nat} {X : mm_X} {B : Nat} {s U : State} {H : Heap} (hW : s.WarmedH U.vm) (h : rl_E E X B s H) : rl_E E X B U H := by
  obtain ⟨h1, h2, h3, h4, h5⟩ := h
  refine ⟨fun d hd => ?_, fun x => (h2 x).moved hW.alike, fun a g1 g2 => (h3 a g1 g2).moved hW.alike, rl_ao hW.alike h4, ⟨h5.1.moved hW.alike, h5.2.1.moved hW.alike, ng_warm hW h5.2.2.1, h5.2.2.2.1.imp (fun _ z => z.warm hW), h5.2.2.2.2.1.imp (fun _ z => z.warm hW), h5.2.2.2.2.2.moved hW.alike⟩⟩
  have h9 := h1 d hd
  unfold mm_nc at h9 ⊢
  split at h9
  · exact va_Nw.warmF hW h9
  · exact va_Nw.warmM hW h9
theorem rl_E.kept {E : Nat → Nat} {X : mm_X} {B : Nat} {U : State} {H H1 : Heap} (h : rl_E E X B U H) (hq : ∀ a : Nat, a < H.size → ¬ rl_A B a → H1[a]? = H[a]?) : rl_E E X B U H1 :=
  ⟨h.1, fun x => (h.2.1 x).kept hq, fun a g1 g2 => (h.2.2.1 a g1 g2).kept hq, h.2.2.2.1, ⟨h.2.2.2.2.1.kept hq, h.2.2.2.2.2.1.kept hq, h.2.2.2.2.2.2⟩⟩
/-- what is returned, and how -/
noncomputable def sn_ret (mi pc : Nat) (r : Option Value) : Prop := match r with
  | none => decode (mm_cc mi) pc = .ok (.return_, 1) ∧ mm_rt mi = none
  | some (.int x) => decode (mm_cc mi) pc = .ok (.ireturn, 1) ∧ (mm_rt mi = some .int ∨ (mm_rt mi = some .boolean ∧ (x = 0 ∨ x = 1)))
  | some (.long _) => decode (mm_cc mi) pc = .ok (.lreturn, 1) ∧ mm_rt mi = some .long
  | _ => False
theorem mm_pop_S : ∀ {n : Nat} {as st : List Value} {K : List Value → List Value → Prop}, mm_pop n as st K False → ∃ bs r, bs.length = n ∧ st = bs.reverse ++ r ∧ K (bs ++ as) r
  | 0, as, st, _, h => ⟨[], st, rfl, rfl, h⟩
  | _ + 1, _, [], _, h => h.elim
  | n + 1, as, v :: t, K, h => by
    obtain ⟨bs, r, h1, h2, h3⟩ := mm_pop_S (n := n) (as := v :: as) (st := t) (K := K) h
    exact ⟨bs ++ [v], r, by simp [h1], by simp [h2], by simpa using h3⟩
theorem fF_pI (st : List Value) : mm_pI st (fun _ _ => False) False = False := by unfold mm_pI; split <;> rfl
theorem fF_pL (st : List Value) : mm_pL st (fun _ _ => False) False = False := by unfold mm_pL; split <;> rfl
theorem fF_pR (st : List Value) : mm_pR st (fun _ _ => False) False = False := by unfold mm_pR; split <;> rfl
theorem fF_p1 (st : List Value) : mm_p1 st (fun _ _ => False) False = False := by unfold mm_p1; split <;> rfl
theorem fF_gI (v : Value) : mm_gI v (fun _ => False) False = False := by unfold mm_gI; split <;> rfl
theorem fF_gL (v w : Value) : mm_gL v w (fun _ => False) False = False := by unfold mm_gL; split <;> rfl
theorem fF_gR (v : Value) : mm_gR v (fun _ => False) False = False := by unfold mm_gR; split <;> rfl
theorem fF_gO (v : Option Nat) : mm_gO v (fun _ => False) False = False := by unfold mm_gO; split <;> rfl
theorem fF_b (b : Bool) : mm_b b False False = False := by cases b <;> rfl
theorem fF_e (st : List Value) : mm_e st False False = False := by unfold mm_e; split <;> rfl
theorem fF_c (c : ClassFile.Cond) (x y : Int32) : mm_cnd c x y False False = False := by cases c <;> simp [mm_cnd]
theorem fF_i (c : Prop) [Decidable c] : (if c then False else False) = False := by split <;> rfl
set_option maxHeartbeats 2000000 in
theorem mm_inr {X : mm_X} {q : mm_R} {pc : Nat} {ls st : List Value} {M : mm_M} {G : (Nat × List Value × List Value) ⊕ (Option Value) → Prop} (h : mm_stepK X q pc ls st M (fun o => match o with | .inl _ => False | .inr z => G z) False) :
    (q.1 = .return_ ∧ st = [] ∧ G (.inr none)) ∨ (q.1 = .ireturn ∧ ∃ x, st = [.int x] ∧ G (.inr (some (.int x))) ∧ (q.2.2.1 = 0 ∨ x = 0 ∨ x = 1)) ∨ (q.1 = .lreturn ∧ ∃ x, st = [.long x] ∧ G (.inr (some (.long x)))) ∨
    (∃ idx, (q.1 = .invokevirtual idx ∨ (q.1 = .invokespecial idx ∧ Nat.beq q.2.2.1 999 = false) ∨ (q.1 = .invokestatic idx ∧ Nat.beq q.2.2.1 996 = false ∧ Nat.beq q.2.2.1 997 = false)) ∧ ∃ as rest, st = as.reverse ++ rest ∧ as.length = q.2.2.2.1 ∧ G (.inl (q.2.2.1, as, rest))) := by
  obtain ⟨i, len, a, b, ps⟩ := q
  cases i with
  | return_ =>
    obtain ⟨rfl, h⟩ := mm_e_P h
    exact Or.inl ⟨rfl, rfl, h⟩
  | ireturn =>
    obtain ⟨x, r, rfl, h⟩ := mm_pI_P h
    obtain ⟨rfl, h⟩ := mm_e_P h
    refine Or.inr (Or.inl ⟨rfl, x, rfl, ?_⟩)
    match a, h with
    | 0, h => exact ⟨h, Or.inl rfl⟩
    | _ + 1, h => exact ⟨(mm_pif h).2, Or.inr (mm_pif h).1⟩
  | lreturn =>
    obtain ⟨x, r, rfl, h⟩ := mm_pL_P h
    obtain ⟨rfl, h⟩ := mm_e_P h
    exact Or.inr (Or.inr (Or.inl ⟨rfl, x, rfl, h⟩))
  | invokevirtual n =>
    obtain ⟨bs, r, h1, h2, h3⟩ := mm_pop_S h
    exact Or.inr (Or.inr (Or.inr ⟨n, Or.inl rfl, bs, r, h2, h1, by simpa using h3⟩))
  | invokestatic n =>
    rcases mm_b_E h with ⟨-, h⟩ | ⟨g1, h⟩
    · have h9 : mm_pI st (fun _ st => mm_pI st (fun _ st => mm_b (Nat.ble (st.map fun v => v.category).sum 100) False False) False) False := h
      simp only [fF_b, fF_pI] at h9
    · rcases mm_b_E h with ⟨-, h⟩ | ⟨g2, h⟩
      · have h9 : mm_pI st (fun _ st => mm_pI st (fun _ st => mm_b (Nat.ble (st.map fun v => v.category).sum 100) False False) False) False := h
        simp only [fF_b, fF_pI] at h9
      · obtain ⟨bs, r, h1, h2, h3⟩ := mm_pop_S h
        exact Or.inr (Or.inr (Or.inr ⟨n, Or.inr (Or.inr ⟨rfl, g1, g2⟩), bs, r, h2, h1, by simpa using h3⟩))
  | invokespecial n =>
    rcases mm_b_E h with ⟨h1, h⟩ | ⟨h1, h⟩
    · have h9 : mm_pR st (fun _ st => mm_e st False False) False := h
      simp only [fF_e, fF_pR] at h9
    · obtain ⟨bs, r, g1, g2, g3⟩ := mm_pop_S h
      exact Or.inr (Or.inr (Or.inr ⟨n, Or.inr (Or.inl ⟨rfl, h1⟩), bs, r, g2, g1, by simpa using g3⟩))
  | getfield n =>
    have h9 : mm_pR st (fun x r => mm_b (mm_isObj M x a) (match (generalizing := false) ps with
      | 0 :: _ => False
      | 1 :: _ => False
      | 2 :: _ => False
      | 3 :: _ => mm_gO (M.2.2.2 x b) (fun _ => False) False
      | _ => False) False) False := h
    obtain ⟨ad, r, -, h9⟩ := mm_pR_P h9
    obtain ⟨-, h9⟩ := mm_b_P h9
    exfalso
    split at h9
    · exact h9
    · exact h9
    · exact h9
    · rw [fF_gO] at h9; exact h9
    · exact h9
  | putfield n =>
    have h9 : (match (generalizing := false) ps with
      | 0 :: _ => mm_pI st (fun x st => mm_pR st (fun y st => mm_b (mm_isObj M y a) False False) False) False
      | 1 :: _ => mm_pI st (fun x st => mm_pR st (fun y st => mm_b (mm_isObj M y a) (if x = 0 ∨ x = 1 then False else False) False) False) False
      | 2 :: _ => mm_pL st (fun x st => mm_pR st (fun y st => mm_b (mm_isObj M y a) False False) False) False
      | 3 :: _ => mm_pR st (fun x st => mm_pR st (fun y st => mm_b (mm_isObj M y a) (mm_b (Nat.blt x M.1.1.1) False False) False) False) False
      | _ => False) := h
    exfalso
    split at h9
    · simp only [fF_b, fF_pR, fF_pI] at h9
    · simp only [fF_i, fF_b, fF_pR, fF_pI] at h9
    · simp only [fF_b, fF_pR, fF_pL] at h9
    · simp only [fF_b, fF_pR] at h9
    · exact h9
  | _ => exact absurd h (by
      first
        | exact id
        | (simp only [mm_stepK, fF_pI, fF_pL, fF_pR, fF_p1, fF_gI, fF_gL, fF_gR, fF_gO, fF_b, fF_e, fF_c, fF_i]; exact id))
theorem mm_stepK_eq (X : mm_X) (q : mm_R) (pc : Nat) (ls st : List Value) (M : mm_M) {α : Type} (K : mm_O → α) (bad : α) : mm_stepK X q pc ls st M K bad = (match mm_step X q pc ls st M with | some o => K o | none => bad) := by
  have h := mm_stepK_n X q pc ls st M (fun v : Option mm_O => match v with | some o => K o | none => bad) some none
  exact h.symm
