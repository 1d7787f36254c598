/-! THE SCRIPT is the law's alone: a run that has no reference to it doesn't depend on it -/
noncomputable def ns_L (l : List Value) : Prop := ∀ v ∈ l, v ≠ .ref mm_ext
noncomputable def ns_H (M : mm_M) : Prop := ∀ a i, M.2.2.2 a i ≠ some mm_ext
noncomputable def ns_P (o : mm_O) : Prop := match o with
  | .inl (_, ls, st, M1) => ns_L ls ∧ ns_L st ∧ ns_H M1
  | .inr (.inl (_, as, rest)) => ns_L as ∧ ns_L rest
  | .inr (.inr r) => ∀ v, r = some v → v ≠ .ref mm_ext
theorem ns_ni {x : Int32} : Value.int x ≠ .ref mm_ext := fun z => nomatch z
theorem ns_nl {x : Int64} : Value.long x ≠ .ref mm_ext := fun z => nomatch z
theorem ns_nn : Value.null ≠ .ref mm_ext := fun z => nomatch z
theorem ns_t {v : Value} {l : List Value} (h : ns_L (v :: l)) : ns_L l := fun w hw => h w (List.mem_cons_of_mem _ hw)
theorem ns_c {v : Value} {l : List Value} (hv : v ≠ .ref mm_ext) (h : ns_L l) : ns_L (v :: l) := fun w hw => (List.mem_cons.mp hw).elim (fun e => by rw [e]; exact hv) (h w)
theorem ns_i {x : Int32} {l : List Value} (h : ns_L l) : ns_L (.int x :: l) := ns_c (fun z => nomatch z) h
theorem ns_l {x : Int64} {l : List Value} (h : ns_L l) : ns_L (.long x :: l) := ns_c (fun z => nomatch z) h
theorem ns_r {x : Nat} {l : List Value} (hx : x ≠ mm_ext) (h : ns_L l) : ns_L (.ref x :: l) := ns_c (fun z => hx (by cases z; rfl)) h
theorem ns_hd {x : Nat} {l : List Value} (h : ns_L (.ref x :: l)) : x ≠ mm_ext := fun e => h _ List.mem_cons_self (by rw [e])
theorem ns_at {l : List Value} (h : ns_L l) (k : Nat) {x : Nat} (e : mm_at l k = .ref x) : x ≠ mm_ext := by
  have key : ∀ (l : List Value) (k : Nat), mm_at l k = .null ∨ mm_at l k ∈ l := by
    intro l
    induction l with
    | nil => intro k; cases k <;> exact Or.inl rfl
    | cons a t ih =>
      intro k
      cases k with
      | zero => exact Or.inr List.mem_cons_self
      | succ k => exact (ih k).imp id (fun z => List.mem_cons_of_mem _ z)
  rcases key l k with z | z
  · rw [z] at e; cases e
  · intro hx
    exact h _ z (by rw [e, hx])
theorem ns_set {v : Value} (hv : v ≠ .ref mm_ext) : ∀ {l : List Value} (k : Nat), ns_L l → ns_L (mm_set l k v)
  | [], _, h => h
  | _ :: _, 0, h => ns_c hv (ns_t h)
  | w :: t, k + 1, h => ns_c (h w List.mem_cons_self) (ns_set hv k (ns_t h))
theorem ns_pI {st : List Value} {K : Int32 → List Value → Prop} (h : ∀ x r, st = .int x :: r → K x r) : mm_pI st K True := by unfold mm_pI; split; exact h _ _ rfl; trivial
theorem ns_pL {st : List Value} {K : Int64 → List Value → Prop} (h : ∀ x r, st = .long x :: r → K x r) : mm_pL st K True := by unfold mm_pL; split; exact h _ _ rfl; trivial
theorem ns_pR {st : List Value} {K : Nat → List Value → Prop} (h : ∀ x r, st = .ref x :: r → K x r) : mm_pR st K True := by unfold mm_pR; split; exact h _ _ rfl; trivial
theorem ns_p1 {st : List Value} {K : Value → List Value → Prop} (h : ∀ x r, st = x :: r → K x r) : mm_p1 st K True := by unfold mm_p1; split; exact h _ _ rfl; exact h _ _ rfl; trivial
theorem ns_gR {v : Value} {K : Nat → Prop} (h : ∀ x, v = .ref x → K x) : mm_gR v K True := by unfold mm_gR; split; exact h _ rfl; trivial
theorem ns_gO {v : Option Nat} {K : Nat → Prop} (h : ∀ x, v = some x → K x) : mm_gO v K True := by unfold mm_gO; split; exact h _ rfl; trivial
theorem ns_b {b : Bool} {k : Prop} (h : b = true → k) : mm_b b k True := by cases b; trivial; exact h rfl
theorem ns_bb {b : Bool} {k j : Prop} (h : k) (h2 : j) : mm_b b k j := by cases b <;> assumption
theorem ns_n {c : Prop} [Decidable c] {e : Prop} (h : ¬ c → e) : if c then True else e := by
  by_cases hc : c
  · rw [if_pos hc]; trivial
  · rw [if_neg hc]; exact h hc
theorem ns_pop {K : List Value → List Value → Prop} : ∀ {n : Nat} {as st : List Value}, ns_L as → ns_L st → (∀ x r, ns_L x → ns_L r → K x r) → mm_pop n as st K True
  | 0, _, _, h1, h2, h => h _ _ h1 h2
  | _ + 1, _, [], _, _, _ => trivial
  | n + 1, as, v :: r, h1, h2, h => ns_pop (n := n) (ns_c (h2 v List.mem_cons_self) h1) (ns_t h2) h
theorem ns_setR {M : mm_M} {a i x : Nat} (h : ns_H M) (hx : x ≠ mm_ext) : ns_H (mm_setR M a i (some x)) := by
  intro b j z
  have z2 : (if b = a ∧ j = i then some x else M.2.2.2 b j) = some mm_ext := z
  by_cases hh : b = a ∧ j = i
  · rw [if_pos hh] at z2; cases z2; exact hx rfl
  · rw [if_neg hh] at z2; exact h b j z2
set_option maxHeartbeats 4000000 in
theorem ns_step (X : mm_X) (q : mm_R) (pc mi : Nat) (ls st : List Value) (M : mm_M) (hck : mm_ck mi pc q = true) (h1 : ns_L ls) (h2 : ns_L st) (h3 : ns_H M) : mm_stepK X q pc ls st M ns_P True := by
  obtain ⟨i, len, a, b, ps⟩ := q
  cases i with
  | aload k => exact ns_gR fun x e => ⟨h1, ns_r (ns_at h1 _ e) h2, h3⟩
  | aload_n k => exact ns_gR fun x e => ⟨h1, ns_r (ns_at h1 _ e) h2, h3⟩
  | iload k => exact mo_gI fun x => ⟨h1, ns_i h2, h3⟩
  | iload_n k => exact mo_gI fun x => ⟨h1, ns_i h2, h3⟩
  | lload k => exact mo_gL fun x => mo_b ⟨h1, ns_l h2, h3⟩ trivial
  | lload_n k => exact mo_gL fun x => mo_b ⟨h1, ns_l h2, h3⟩ trivial
  | istore k => exact ns_pI fun x r e => mo_b ⟨ns_set ns_ni _ h1, ns_t (e ▸ h2), h3⟩ trivial
  | istore_n k => exact ns_pI fun x r e => mo_b ⟨ns_set ns_ni _ h1, ns_t (e ▸ h2), h3⟩ trivial
  | astore k => exact ns_pR fun x r e => mo_b ⟨ns_set (h2 _ (by rw [e]; exact List.mem_cons_self)) _ h1, ns_t (e ▸ h2), h3⟩ trivial
  | astore_n k => exact ns_pR fun x r e => mo_b ⟨ns_set (h2 _ (by rw [e]; exact List.mem_cons_self)) _ h1, ns_t (e ▸ h2), h3⟩ trivial
  | lstore k => exact ns_pL fun x r e => mo_b ⟨ns_set ns_nn _ (ns_set ns_nl _ h1), ns_t (e ▸ h2), h3⟩ trivial
  | lstore_n k => exact ns_pL fun x r e => mo_b ⟨ns_set ns_nn _ (ns_set ns_nl _ h1), ns_t (e ▸ h2), h3⟩ trivial
  | iinc k n => exact mo_gI fun x => mo_b ⟨ns_set ns_ni _ h1, h2, h3⟩ trivial
  | iconst n => exact ⟨h1, ns_i h2, h3⟩
  | bipush n => exact ⟨h1, ns_i h2, h3⟩
  | sipush n => exact ⟨h1, ns_i h2, h3⟩
  | ldc n => exact ⟨h1, ns_i h2, h3⟩
  | ldc_w n => exact ⟨h1, ns_i h2, h3⟩
  | lconst n => exact ⟨h1, ns_l h2, h3⟩
  | ldc2_w n => exact ⟨h1, ns_l h2, h3⟩
  | idiv => exact ns_pI fun y r e => ns_pI fun x r2 e2 => ns_n fun _ => ⟨h1, ns_i (ns_t (e2 ▸ ns_t (e ▸ h2))), h3⟩
  | irem => exact ns_pI fun y r e => ns_pI fun x r2 e2 => ns_n fun _ => ⟨h1, ns_i (ns_t (e2 ▸ ns_t (e ▸ h2))), h3⟩
  | ldiv => exact ns_pL fun y r e => ns_pL fun x r2 e2 => ns_n fun _ => ⟨h1, ns_l (ns_t (e2 ▸ ns_t (e ▸ h2))), h3⟩
  | lcmp => exact ns_pL fun y r e => ns_pL fun x r2 e2 => ⟨h1, ns_i (ns_t (e2 ▸ ns_t (e ▸ h2))), h3⟩
  | i2l => exact ns_pI fun y r e => ⟨h1, ns_l (ns_t (e ▸ h2)), h3⟩
  | l2i => exact ns_pL fun y r e => ⟨h1, ns_i (ns_t (e ▸ h2)), h3⟩
  | i2b => exact ns_pI fun y r e => ⟨h1, ns_i (ns_t (e ▸ h2)), h3⟩
  | dup =>
    have h : mm_p1 st (fun v st => ns_P (.inl (pc + len, ls, v :: v :: st, M))) True := ns_p1 fun v r e => by
      subst e
      exact ⟨h1, ns_c (h2 v List.mem_cons_self) h2, h3⟩
    exact h
  | pop =>
    have h : mm_p1 st (fun _ st => ns_P (.inl (pc + len, ls, st, M))) True := ns_p1 fun v r e => ⟨h1, ns_t (e ▸ h2), h3⟩
    exact h
  | dup2 =>
    have h : mm_p1 st (fun v st => mm_p1 st (fun w st => ns_P (.inl (pc + len, ls, v :: w :: v :: w :: st, M))) True) True := ns_p1 fun v r e => ns_p1 fun w r2 e2 => by
      subst e
      subst e2
      exact ⟨h1, ns_c (h2 v List.mem_cons_self) (ns_c (h2 w (List.mem_cons_of_mem _ List.mem_cons_self)) h2), h3⟩
    exact h
  | pop2 => exact ns_pL fun y r e => ⟨h1, ns_t (e ▸ h2), h3⟩
  | goto n => exact ⟨h1, h2, h3⟩
  | ifCond c n => exact ns_pI fun x r e => mo_c ⟨h1, ns_t (e ▸ h2), h3⟩ ⟨h1, ns_t (e ▸ h2), h3⟩
  | if_icmp c n => exact ns_pI fun y r e => ns_pI fun x r2 e2 => mo_c ⟨h1, ns_t (e2 ▸ ns_t (e ▸ h2)), h3⟩ ⟨h1, ns_t (e2 ▸ ns_t (e ▸ h2)), h3⟩
  | tableswitch d lo hi os => exact ns_pI fun x r e => mo_i ⟨h1, ns_t (e ▸ h2), h3⟩ (mo_gO fun t => ⟨h1, ns_t (e ▸ h2), h3⟩)
  | iaload => exact ns_pI fun i r e => ns_pR fun x r2 e2 => mo_b (ns_n fun _ => ⟨h1, ns_i (ns_t (e2 ▸ ns_t (e ▸ h2))), h3⟩) (mo_b (ns_n fun _ => ⟨h1, ns_i (ns_t (e2 ▸ ns_t (e ▸ h2))), h3⟩) trivial)
  | laload => exact ns_pI fun i r e => ns_pR fun x r2 e2 => mo_b (ns_n fun _ => ⟨h1, ns_l (ns_t (e2 ▸ ns_t (e ▸ h2))), h3⟩) trivial
  | baload => exact ns_pI fun i r e => ns_pR fun x r2 e2 => mo_b (ns_n fun _ => ⟨h1, ns_i (ns_t (e2 ▸ ns_t (e ▸ h2))), h3⟩) trivial
  | aaload => exact ns_pI fun i r e => ns_pR fun x r2 e2 => mo_b (ns_n fun _ => ns_gO fun y ey => ⟨h1, ns_r (fun z => h3 _ _ (z ▸ ey)) (ns_t (e2 ▸ ns_t (e ▸ h2))), h3⟩) trivial
  | iastore => exact ns_pI fun x r e => ns_pI fun i r2 e2 => ns_pR fun y r3 e3 => mo_b (ns_n fun _ => ⟨h1, ns_t (e3 ▸ ns_t (e2 ▸ ns_t (e ▸ h2))), h3⟩) trivial
  | lastore => exact ns_pL fun x r e => ns_pI fun i r2 e2 => ns_pR fun y r3 e3 => mo_b (ns_n fun _ => ⟨h1, ns_t (e3 ▸ ns_t (e2 ▸ ns_t (e ▸ h2))), h3⟩) trivial
  | bastore => exact ns_pI fun x r e => ns_pI fun i r2 e2 => ns_pR fun y r3 e3 => mo_b (ns_n fun _ => ⟨h1, ns_t (e3 ▸ ns_t (e2 ▸ ns_t (e ▸ h2))), h3⟩) (mo_b (ns_n fun _ => ⟨h1, ns_t (e3 ▸ ns_t (e2 ▸ ns_t (e ▸ h2))), h3⟩) trivial)
  | arraylength => exact ns_pR fun x r e => mo_b ⟨h1, ns_i (ns_t (e ▸ h2)), h3⟩ (mo_b ⟨h1, ns_i (ns_t (e ▸ h2)), h3⟩ trivial)
  | getfield n =>
    clear hck
    refine ns_pR fun x r e => mo_b ?_ trivial
    show (match ps with
      | 0 :: _ => ns_P (.inl (pc + len, ls, .int (M.2.1 x b) :: r, M))
      | 1 :: _ => ns_P (.inl (pc + len, ls, .int (M.2.1 x b) :: r, M))
      | 2 :: _ => ns_P (.inl (pc + len, ls, .long (M.2.2.1 x b) :: r, M))
      | 3 :: _ => mm_gO (M.2.2.2 x b) (fun y => ns_P (.inl (pc + len, ls, .ref y :: r, M))) True
      | _ => True)
    split
    · exact ⟨h1, ns_i (ns_t (e ▸ h2)), h3⟩
    · exact ⟨h1, ns_i (ns_t (e ▸ h2)), h3⟩
    · exact ⟨h1, ns_l (ns_t (e ▸ h2)), h3⟩
    · exact ns_gO fun y ey => ⟨h1, ns_r (fun z => h3 _ _ (z ▸ ey)) (ns_t (e ▸ h2)), h3⟩
    · trivial
  | putfield n =>
    clear hck
    show (match ps with
      | 0 :: _ => mm_pI st (fun x st => mm_pR st (fun y st => mm_b (mm_isObj M y a) (ns_P (.inl (pc + len, ls, st, mm_setI M y b x))) True) True) True
      | 1 :: _ => mm_pI st (fun x st => mm_pR st (fun y st => mm_b (mm_isObj M y a) (if x = 0 ∨ x = 1 then ns_P (.inl (pc + len, ls, st, mm_setI M y b x)) else True) True) True) True
      | 2 :: _ => mm_pL st (fun x st => mm_pR st (fun y st => mm_b (mm_isObj M y a) (ns_P (.inl (pc + len, ls, st, mm_setL M y b x))) True) True) True
      | 3 :: _ => mm_pR st (fun x st => mm_pR st (fun y st => mm_b (mm_isObj M y a) (mm_b (Nat.blt x M.1.1.1) (ns_P (.inl (pc + len, ls, st, mm_setR M y b (some x)))) True) True) True) True
      | _ => True)
    split
    · exact ns_pI fun x r e => ns_pR fun y r2 e2 => mo_b ⟨h1, ns_t (e2 ▸ ns_t (e ▸ h2)), h3⟩ trivial
    · exact ns_pI fun x r e => ns_pR fun y r2 e2 => mo_b (mo_i ⟨h1, ns_t (e2 ▸ ns_t (e ▸ h2)), h3⟩ trivial) trivial
    · exact ns_pL fun x r e => ns_pR fun y r2 e2 => mo_b ⟨h1, ns_t (e2 ▸ ns_t (e ▸ h2)), h3⟩ trivial
    · exact ns_pR fun x r e => ns_pR fun y r2 e2 => mo_b (mo_b ⟨h1, ns_t (e2 ▸ ns_t (e ▸ h2)), ns_setR h3 (ns_hd (e ▸ h2))⟩ trivial) trivial
    · trivial
  | getstatic n =>
    refine ⟨h1, ns_r ?_ h2, h3⟩
    unfold mm_ck at hck
    rw [Bool.and_eq_true] at hck
    have hcx := hck.2
    simp only [mm_cx, Bool.and_eq_true, decide_eq_true_eq] at hcx
    have h9 := hcx.1.1.2
    show mm_ext + a ≠ mm_ext
    omega
  | new n => exact ns_b fun g => ⟨h1, ns_r (by rw [Bool.and_eq_true] at g; have := Nat.le_of_ble_eq_true g.2; have he : mm_ext = 1000000 := rfl; omega) h2, h3⟩
  | newarray n => exact ns_pI fun x r e => ns_n fun _ => ns_b fun g => ⟨h1, ns_r (by rw [Bool.and_eq_true] at g; have := Nat.le_of_ble_eq_true g.2; have he : mm_ext = 1000000 := rfl; omega) (ns_t (e ▸ h2)), h3⟩
  | multianewarray n d => exact ns_pI fun x r e => ns_pI fun y r2 e2 => ns_n fun hn => ns_b fun g => ⟨h1, ns_r (by rw [Bool.and_eq_true] at g; have := Nat.le_of_ble_eq_true g.2; have he : mm_ext = 1000000 := rfl; omega) (ns_t (e2 ▸ ns_t (e ▸ h2))), by
      intro b2 j z
      rw [Bool.and_eq_true] at g
      have g2 := Nat.le_of_ble_eq_true g.2
      have he : mm_ext = 1000000 := rfl
      have hle : y.toNatClampNeg ≤ 1000 := Nat.not_lt.mp fun q => hn (Or.inr (Or.inl q))
      have z2 : mm_refs y.toNatClampNeg M.1.1.1 0 (M.1.1.1 + 1) M.2.2.2 b2 j = some mm_ext := z
      rw [mm_refs_1] at z2
      by_cases hh : b2 = M.1.1.1 ∧ 0 ≤ j ∧ j < 0 + y.toNatClampNeg
      · rw [if_pos hh] at z2
        have := Option.some.inj z2
        omega
      · rw [if_neg hh] at z2
        exact h3 _ _ z2⟩
  | invokevirtual n => exact ns_pop (fun _ h => absurd h List.not_mem_nil) h2 fun x r g1 g2 => ⟨g1, g2⟩
  | invokespecial n =>
    have hh : mm_pR st (fun _ st => mm_e st (ns_P (.inl (pc + len, ls, st, M))) True) True := ns_pR fun x r e => by
      subst e
      have h : mm_e r (ns_P (.inl (pc + len, ls, r, M))) True := mo_e ⟨h1, ns_t h2, h3⟩
      exact h
    exact mo_b hh (ns_pop (fun _ h => absurd h List.not_mem_nil) h2 fun x r g1 g2 => ⟨g1, g2⟩)
  | invokestatic n => exact mo_b (ns_pI fun y r e => ns_pI fun x r2 e2 => mo_b ⟨h1, ns_i (ns_t (e2 ▸ ns_t (e ▸ h2))), h3⟩ trivial) (mo_b (ns_pI fun y r e => ns_pI fun x r2 e2 => mo_b ⟨h1, ns_i (ns_t (e2 ▸ ns_t (e ▸ h2))), h3⟩ trivial) (ns_pop (fun _ h => absurd h List.not_mem_nil) h2 fun x r g1 g2 => ⟨g1, g2⟩))
  | ireturn =>
    clear hck
    refine mo_pI fun x r => mo_e ?_
    show (match a with
      | 0 => ns_P (.inr (.inr (some (.int x))))
      | _ => if x = 0 ∨ x = 1 then ns_P (.inr (.inr (some (.int x)))) else True)
    have hr : ns_P (.inr (.inr (some (.int x)))) := fun v z => by cases z; exact fun z => nomatch z
    split
    · exact hr
    · exact mo_i hr trivial
  | lreturn => exact mo_pL fun x r => mo_e (fun v z => by cases z; exact fun z => nomatch z)
  | return_ => exact mo_e (fun v z => nomatch z)
  | _ =>
    first
      | trivial
      | exact ns_pI fun y r e => ns_pI fun x r2 e2 => ⟨h1, ns_i (ns_t (e2 ▸ ns_t (e ▸ h2))), h3⟩
      | exact ns_pL fun y r e => ns_pL fun x r2 e2 => ⟨h1, ns_l (ns_t (e2 ▸ ns_t (e ▸ h2))), h3⟩
      | exact ns_pI fun y r e => ns_pL fun x r2 e2 => ⟨h1, ns_l (ns_t (e2 ▸ ns_t (e ▸ h2))), h3⟩
theorem ns_step1 {X : mm_X} {q : mm_R} {pc mi : Nat} {ls st : List Value} {M : mm_M} {o : mm_O} (hck : mm_ck mi pc q = true) (h1 : ns_L ls) (h2 : ns_L st) (h3 : ns_H M) (h : mm_step X q pc ls st M = some o) : ns_P o := by
  have g := ns_step X q pc mi ls st M hck h1 h2 h3
  rw [mm_stepK_eq, h] at g
  exact g
/-- rows but the script are the same -/
noncomputable def ns_X (X Y : mm_X) : Prop := ∀ e, e ≠ 0 → X e = Y e
theorem ns_same {X Y : mm_X} (hX : ns_X X Y) (q : mm_R) (pc : Nat) (ls st : List Value) (M : mm_M) (h2 : ns_L st) : mm_step X q pc ls st M = mm_step Y q pc ls st M := by
  obtain ⟨i, len, a, b, ps⟩ := q
  have hx : ∀ {x : Nat} {r : List Value}, ns_L (.ref x :: r) → Nat.ble mm_ext x = true → X (x - mm_ext) = Y (x - mm_ext) := fun h g => hX _ (by have := ns_hd h; have := Nat.le_of_ble_eq_true g; omega)
  cases i with
  | iaload =>
    unfold mm_step
    simp only [mm_stepK]
    match st, h2 with
    | .int i :: .ref x :: r, h2 =>
      simp only [mm_pI, mm_pR]
      cases g : Nat.ble mm_ext x with
      | true => simp only [mm_b]; rw [hx (ns_t h2) g]
      | false => simp only [mm_b]
    | [], _ => rfl
    | [.int i], _ => rfl
    | .int i :: .int x :: r, _ => rfl
    | .int i :: .long x :: r, _ => rfl
    | .int i :: .float x :: r, _ => rfl
    | .int i :: .double x :: r, _ => rfl
    | .int i :: .null :: r, _ => rfl
    | .int i :: .retAddr x :: r, _ => rfl
    | .ref i :: _, _ => rfl
    | .long i :: _, _ => rfl
    | .float i :: _, _ => rfl
    | .double i :: _, _ => rfl
    | .null :: _, _ => rfl
    | .retAddr i :: _, _ => rfl
  | arraylength =>
    unfold mm_step
    simp only [mm_stepK]
    match st, h2 with
    | .ref x :: r, h2 =>
      simp only [mm_pR]
      cases g : Nat.ble mm_ext x with
      | true => simp only [mm_b]; rw [hx h2 g]
      | false => simp only [mm_b]
    | [], _ => rfl
    | .int i :: _, _ => rfl
    | .long i :: _, _ => rfl
    | .float i :: _, _ => rfl
    | .double i :: _, _ => rfl
    | .null :: _, _ => rfl
    | .retAddr i :: _, _ => rfl
  | _ => rfl
theorem ns_sl {as : List Value} (h : ns_L as) : ns_L (mm_sl as) := by
  induction as with
  | nil => exact h
  | cons v t ih =>
    cases v with
    | long x => exact ns_c (fun z => nomatch z) (ns_c (fun z => nomatch z) (ih (ns_t h)))
    | _ => exact ns_c (h _ List.mem_cons_self) (ih (ns_t h))
theorem ns_entry {y : Nat} {as : List Value} (h : ns_L as) : ns_L (mm_entry y as) := fun v hv => (List.mem_append.mp hv).elim (ns_sl h v) (fun z => by rw [(List.mem_replicate.mp z).2]; exact fun w => nomatch w)
theorem ns_look {M M1 : mm_M} {as : List Value} {r : Option Value} (h : mm_look M as = some (r, M1)) : M1.2.2.2 = M.2.2.2 ∧ ∀ v, r = some v → v ≠ .ref mm_ext := by
  obtain ⟨x, f, w, o, p, -, -, -, -, -, -, h⟩ := mm_look_I h
  rcases h with ⟨-, rfl, rfl⟩ | ⟨-, -, q, -, -, -, rfl, rfl⟩ | ⟨-, -, rfl, rfl⟩ <;> exact ⟨rfl, fun v z => by cases z; exact ns_ni⟩
theorem ns_app {a b : List Value} (h1 : ns_L a) (h2 : ns_L b) : ns_L (a ++ b) := fun v hv => (List.mem_append.mp hv).elim (h1 v) (h2 v)
/-- THE SAME RUN with another script -/
theorem ns_run {X Y : mm_X} (hX : ns_X X Y) : ∀ {n d mi pc : Nat} {ls st : List Value} {M MF : mm_M} {r : Option Value}, ns_L ls → ns_L st → ns_H M → mm_run X n d mi pc ls st M = some (r, MF) → mm_run Y n d mi pc ls st M = some (r, MF) ∧ ns_H MF ∧ ∀ v, r = some v → v ≠ .ref mm_ext
  | 0, _, _, _, _, _, _, _, _, _, _, _, h => nomatch h
  | n + 1, d, mi, pc, ls, st, M, MF, r, h1, h2, h3, h => by
    obtain ⟨q, o, hc, hs, ho⟩ := mm_run_1 h
    have hP := ns_step1 (mm_ck_all mi pc q hc) h1 h2 h3 hs
    have hs2 : mm_step Y q pc ls st M = some o := by rw [← ns_same hX q pc ls st M h2]; exact hs
    unfold mm_run
    rw [hc]
    simp only []
    rw [mm_stepK_eq, hs2]
    match o, ho, hP with
    | .inl (pc', ls', st', M'), ho, hP => exact ns_run hX hP.1 hP.2.1 hP.2.2 ho
    | .inr (.inr r'), ho, hP =>
      obtain ⟨rfl, rfl⟩ := ho
      exact ⟨rfl, h3, hP⟩
    | .inr (.inl (y, as, rest)), ho, hP =>
      obtain ⟨d', r1, M1, rfl, h8, hcal, hnext⟩ := ho
      have e8 : Nat.ble (mm_w8 rest) 8 = true := Nat.ble_eq_true_of_le h8
      simp only [e8]
      by_cases hy : y = 998
      · rw [if_pos hy] at hcal
        subst hy
        obtain ⟨g1, g2⟩ := ns_look hcal
        have e1 : Nat.beq 998 998 = true := rfl
        simp only [e1, cond_true, hcal]
        refine ns_run hX h1 (ns_app (fun v hv => ?_) hP.2) (fun a i => by rw [g1]; exact h3 a i) hnext
        cases r1 with
        | none => cases hv
        | some w => rw [List.mem_singleton.mp hv]; exact g2 w rfl
      · rw [if_neg hy] at hcal
        have e1 : Nat.beq y 998 = false := by
          cases hb : Nat.beq y 998 with
          | false => rfl
          | true => exact absurd (Nat.eq_of_beq_eq_true hb) hy
        obtain ⟨g0, g1, g2⟩ := ns_run hX (ns_entry hP.1) (fun _ z => absurd z List.not_mem_nil) h3 hcal.2
        simp only [e1, cond_false, hcal.1, cond_true, g0]
        refine ns_run hX h1 (ns_app (fun v hv => ?_) hP.2) g1 hnext
        cases r1 with
        | none => cases hv
        | some w => rw [List.mem_singleton.mp hv]; exact g2 w rfl
