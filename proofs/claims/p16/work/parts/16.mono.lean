/-! cells and slots only grow -/
noncomputable def mo_P (M : mm_M) (o : mm_O) : Prop := match o with
  | .inl (_, _, _, M1) => M.1.2.1 ≤ M1.1.2.1 ∧ M.1.2.2.1 ≤ M1.1.2.2.1
  | .inr _ => True
theorem mo_pI {st : List Value} {K : Int32 → List Value → Prop} (h : ∀ x r, K x r) : mm_pI st K True := by unfold mm_pI; split; exact h _ _; trivial
theorem mo_pL {st : List Value} {K : Int64 → List Value → Prop} (h : ∀ x r, K x r) : mm_pL st K True := by unfold mm_pL; split; exact h _ _; trivial
theorem mo_pR {st : List Value} {K : Nat → List Value → Prop} (h : ∀ x r, K x r) : mm_pR st K True := by unfold mm_pR; split; exact h _ _; trivial
theorem mo_p1 {st : List Value} {K : Value → List Value → Prop} (h : ∀ x r, K x r) : mm_p1 st K True := by unfold mm_p1; split; exact h _ _; exact h _ _; trivial
theorem mo_gI {v : Value} {K : Int32 → Prop} (h : ∀ x, K x) : mm_gI v K True := by unfold mm_gI; split; exact h _; trivial
theorem mo_gL {v w : Value} {K : Int64 → Prop} (h : ∀ x, K x) : mm_gL v w K True := by unfold mm_gL; split; exact h _; trivial
theorem mo_gR {v : Value} {K : Nat → Prop} (h : ∀ x, K x) : mm_gR v K True := by unfold mm_gR; split; exact h _; trivial
theorem mo_gO {v : Option Nat} {K : Nat → Prop} (h : ∀ x, K x) : mm_gO v K True := by unfold mm_gO; split; exact h _; trivial
theorem mo_b {b : Bool} {k j : Prop} (h : k) (h2 : j) : mm_b b k j := by cases b <;> assumption
theorem mo_e {st : List Value} {k : Prop} (h : k) : mm_e st k True := by unfold mm_e; split; exact h; trivial
theorem mo_c {c : ClassFile.Cond} {x y : Int32} {t e : Prop} (h : t) (h2 : e) : mm_cnd c x y t e := by cases c <;> simp only [mm_cnd] <;> split <;> assumption
theorem mo_i {c : Prop} [Decidable c] {t e : Prop} (h : t) (h2 : e) : if c then t else e := by split <;> assumption
theorem mo_pop {K : List Value → List Value → Prop} (h : ∀ x r, K x r) : ∀ {n : Nat} {as st : List Value}, mm_pop n as st K True
  | 0, _, _ => h _ _
  | _ + 1, _, [] => trivial
  | n + 1, as, v :: r => mo_pop h (n := n) (as := v :: as) (st := r)
theorem mo_r (M : mm_M) : M.1.2.1 ≤ M.1.2.1 ∧ M.1.2.2.1 ≤ M.1.2.2.1 := ⟨Nat.le_refl _, Nat.le_refl _⟩
theorem mo_new (M : mm_M) (c n k : Nat) : M.1.2.1 ≤ (mm_new M c n k).1.2.1 ∧ M.1.2.2.1 ≤ (mm_new M c n k).1.2.2.1 := ⟨Nat.le_add_right _ _, Nat.le_add_right _ _⟩
theorem mo_multi (M : mm_M) (n k : Nat) : M.1.2.1 ≤ (mm_multi M n k).1.2.1 ∧ M.1.2.2.1 ≤ (mm_multi M n k).1.2.2.1 := by
  obtain ⟨-, g2, g3, -⟩ := mm_rows_1 n k (mm_new M 104 n n)
  have e2 : (mm_multi M n k).1.2.1 = M.1.2.1 + 1 + n := g2
  have e3 : (mm_multi M n k).1.2.2.1 = M.1.2.2.1 + n + n * k := g3
  rw [e2, e3]
  exact ⟨by omega, by omega⟩
set_option maxHeartbeats 4000000 in
theorem mo_step (X : mm_X) (q : mm_R) (pc : Nat) (ls st : List Value) (M : mm_M) : mm_stepK X q pc ls st M (mo_P M) True := by
  obtain ⟨i, len, a, b, ps⟩ := q
  cases i with
  | getfield n =>
    refine mo_pR fun x r => mo_b ?_ trivial
    show (match ps with
      | 0 :: _ => mo_P M _
      | 1 :: _ => mo_P M _
      | 2 :: _ => mo_P M _
      | 3 :: _ => mm_gO (M.2.2.2 x b) (fun y => mo_P M (.inl (pc + len, ls, .ref y :: r, M))) True
      | _ => True)
    split <;> first | exact mo_r M | exact mo_gO (fun _ => mo_r M) | trivial
  | putfield n =>
    show (match ps with
      | 0 :: _ => mm_pI st (fun x st => mm_pR st (fun y st => mm_b (mm_isObj M y a) (mo_P M (.inl (pc + len, ls, st, mm_setI M y b x))) True) True) True
      | 1 :: _ => mm_pI st (fun x st => mm_pR st (fun y st => mm_b (mm_isObj M y a) (if x = 0 ∨ x = 1 then mo_P M (.inl (pc + len, ls, st, mm_setI M y b x)) else True) True) True) True
      | 2 :: _ => mm_pL st (fun x st => mm_pR st (fun y st => mm_b (mm_isObj M y a) (mo_P M (.inl (pc + len, ls, st, mm_setL M y b x))) True) True) True
      | 3 :: _ => mm_pR st (fun x st => mm_pR st (fun y st => mm_b (mm_isObj M y a) (mm_b (Nat.blt x M.1.1.1) (mo_P M (.inl (pc + len, ls, st, mm_setR M y b (some x)))) True) True) True) True
      | _ => True)
    split
    · exact mo_pI fun _ _ => mo_pR fun _ _ => mo_b (mo_r M) trivial
    · exact mo_pI fun _ _ => mo_pR fun _ _ => mo_b (mo_i (mo_r M) trivial) trivial
    · exact mo_pL fun _ _ => mo_pR fun _ _ => mo_b (mo_r M) trivial
    · exact mo_pR fun _ _ => mo_pR fun _ _ => mo_b (mo_b (mo_r M) trivial) trivial
    · trivial
  | ireturn =>
    refine mo_pI fun x r => mo_e ?_
    show (match a with
      | 0 => mo_P M (.inr (.inr (some (.int x))))
      | _ => if x = 0 ∨ x = 1 then mo_P M (.inr (.inr (some (.int x)))) else True)
    split
    · trivial
    · exact mo_i trivial trivial
  | dup2 =>
    have h : mm_p1 st (fun v st => mm_p1 st (fun w st => mo_P M (.inl (pc + len, ls, v :: w :: v :: w :: st, M))) True) True := mo_p1 fun _ _ => mo_p1 fun _ _ => mo_r M
    exact h
  | new n => exact mo_b (mo_new M _ _ _) trivial
  | newarray n => exact mo_pI fun _ _ => mo_i trivial (mo_b (mo_new M _ _ _) trivial)
  | multianewarray n d => exact mo_pI fun _ _ => mo_pI fun _ _ => mo_i trivial (mo_b (mo_multi M _ _) trivial)
  | _ =>
    first
      | trivial
      | exact mo_r M
      | exact mo_gR fun _ => mo_r M
      | exact mo_gI fun _ => mo_r M
      | exact mo_gI fun _ => mo_b (mo_r M) trivial
      | exact mo_gL fun _ => mo_b (mo_r M) trivial
      | exact mo_pI fun _ _ => mo_b (mo_r M) trivial
      | exact mo_pR fun _ _ => mo_b (mo_r M) trivial
      | exact mo_pL fun _ _ => mo_b (mo_r M) trivial
      | exact mo_pI fun _ _ => mo_pI fun _ _ => mo_r M
      | exact mo_pL fun _ _ => mo_pL fun _ _ => mo_r M
      | exact mo_pI fun _ _ => mo_pL fun _ _ => mo_r M
      | exact mo_pI fun _ _ => mo_pI fun _ _ => mo_i trivial (mo_r M)
      | exact mo_pL fun _ _ => mo_pL fun _ _ => mo_i trivial (mo_r M)
      | exact mo_pI fun _ _ => mo_r M
      | exact mo_pL fun _ _ => mo_r M
      | exact mo_p1 fun _ _ => mo_r M
      | exact mo_p1 fun _ _ => mo_p1 fun _ _ => mo_r M
      | exact mo_pI fun _ _ => mo_c (mo_r M) (mo_r M)
      | exact mo_pI fun _ _ => mo_pI fun _ _ => mo_c (mo_r M) (mo_r M)
      | exact mo_pI fun _ _ => mo_i (mo_r M) (mo_gO fun _ => mo_r M)
      | exact mo_pI fun _ _ => mo_pR fun _ _ => mo_b (mo_i trivial (mo_r M)) (mo_b (mo_i trivial (mo_r M)) trivial)
      | exact mo_pI fun _ _ => mo_pR fun _ _ => mo_b (mo_i trivial (mo_r M)) trivial
      | exact mo_pI fun _ _ => mo_pR fun _ _ => mo_b (mo_i trivial (mo_gO fun _ => mo_r M)) trivial
      | exact mo_pI fun _ _ => mo_pI fun _ _ => mo_pR fun _ _ => mo_b (mo_i trivial (mo_r M)) trivial
      | exact mo_pL fun _ _ => mo_pI fun _ _ => mo_pR fun _ _ => mo_b (mo_i trivial (mo_r M)) trivial
      | exact mo_pI fun _ _ => mo_pI fun _ _ => mo_pR fun _ _ => mo_b (mo_i trivial (mo_r M)) (mo_b (mo_i trivial (mo_r M)) trivial)
      | exact mo_pR fun _ _ => mo_b (mo_r M) (mo_b (mo_r M) trivial)
      | exact mo_pop fun _ _ => trivial
      | exact mo_b (mo_pR fun _ _ => mo_e (mo_r M)) (mo_pop fun _ _ => trivial)
      | exact mo_b (mo_pI fun _ _ => mo_pI fun _ _ => mo_b (mo_r M) trivial) (mo_b (mo_pI fun _ _ => mo_pI fun _ _ => mo_b (mo_r M) trivial) (mo_pop fun _ _ => trivial))
      | exact mo_pL fun _ _ => mo_e trivial
      | exact mo_e trivial
theorem mo_step1 {X : mm_X} {q : mm_R} {pc : Nat} {ls st : List Value} {M : mm_M} {o : mm_O} (h : mm_step X q pc ls st M = some o) : mo_P M o := by
  have h1 := mo_step X q pc ls st M
  rw [mm_stepK_eq, h] at h1
  exact h1
theorem mo_look {M M1 : mm_M} {as : List Value} {r : Option Value} (h : mm_look M as = some (r, M1)) : M1.1.2.1 = M.1.2.1 + 1 ∧ M1.1.2.2.1 = M.1.2.2.1 + 6 := by
  obtain ⟨x, f, w, o, p, -, -, -, -, -, -, h⟩ := mm_look_I h
  rcases h with ⟨-, -, rfl⟩ | ⟨-, -, q, -, -, -, -, rfl⟩ | ⟨-, -, -, rfl⟩ <;> exact ⟨rfl, rfl⟩
/-- a run's first step, opened -/
theorem mm_run_1 {X : mm_X} {n d mi pc : Nat} {ls st : List Value} {M MF : mm_M} {r : Option Value} (h : mm_run X (n + 1) d mi pc ls st M = some (r, MF)) : ∃ q o, mm_code mi pc = some q ∧ mm_step X q pc ls st M = some o ∧ (match o with
    | .inl (pc', ls', st', M') => mm_run X n d mi pc' ls' st' M' = some (r, MF)
    | .inr (.inr r') => r' = r ∧ M = MF
    | .inr (.inl (y, as, rest)) => ∃ d' r1 M1, d = d' + 1 ∧ mm_w8 rest ≤ 8 ∧ (if y = 998 then mm_look M as = some (r1, M1) else mm_rc M y as = true ∧ mm_run X n d' y 0 (mm_entry y as) [] M = some (r1, M1)) ∧ mm_run X n (d' + 1) mi (pc + 3) ls (r1.toList ++ rest) M1 = some (r, MF)) := by
  unfold mm_run at h
  cases hc : mm_code mi pc with
  | none => rw [hc] at h; cases h
  | some q =>
    rw [hc] at h
    simp only [] at h
    rw [mm_stepK_eq] at h
    cases hs : mm_step X q pc ls st M with
    | none => rw [hs] at h; cases h
    | some o =>
      rw [hs] at h
      refine ⟨q, o, rfl, hs, ?_⟩
      match o, h with
      | .inl (pc', ls', st', M'), h => exact h
      | .inr (.inr r'), h => cases h; exact ⟨rfl, rfl⟩
      | .inr (.inl (y, as, rest)), h =>
        match d, h with
        | 0, h => cases h
        | d' + 1, h =>
          cases hw : Nat.ble (mm_w8 rest) 8 with
          | false =>
            simp only [hw] at h
            cases h
          | true =>
            simp only [hw] at h
            refine ⟨d', ?_⟩
            by_cases hy : y = 998
            · subst hy
              have e1 : Nat.beq 998 998 = true := rfl
              simp only [e1, cond_true] at h
              cases hl : mm_look M as with
              | none => rw [hl] at h; cases h
              | some z =>
                obtain ⟨r1, M1⟩ := z
                rw [hl] at h
                exact ⟨r1, M1, rfl, Nat.le_of_ble_eq_true hw, by rw [if_pos rfl], h⟩
            · have e1 : Nat.beq y 998 = false := by
                cases hb : Nat.beq y 998 with
                | false => rfl
                | true => exact absurd (Nat.eq_of_beq_eq_true hb) hy
              simp only [e1, cond_false] at h
              cases hr : mm_rc M y as with
              | false => simp only [hr, cond_false] at h; cases h
              | true =>
                simp only [hr, cond_true] at h
                cases hl : mm_run X n d' y 0 (mm_entry y as) [] M with
                | none => rw [hl] at h; cases h
                | some z =>
                  obtain ⟨r1, M1⟩ := z
                  rw [hl] at h
                  exact ⟨r1, M1, rfl, Nat.le_of_ble_eq_true hw, by rw [if_neg hy]; exact ⟨rfl, rfl⟩, h⟩
theorem mm_mono {X : mm_X} : ∀ {n d mi pc : Nat} {ls st : List Value} {M MF : mm_M} {r : Option Value}, mm_run X n d mi pc ls st M = some (r, MF) → M.1.2.1 ≤ MF.1.2.1 ∧ M.1.2.2.1 ≤ MF.1.2.2.1
  | 0, _, _, _, _, _, _, _, _, h => nomatch h
  | n + 1, d, mi, pc, ls, st, M, MF, r, h => by
    obtain ⟨q, o, -, hs, ho⟩ := mm_run_1 h
    have hm := mo_step1 hs
    match o, hs, ho, hm with
    | .inl (pc', ls', st', M'), _, ho, hm =>
      have h2 := mm_mono ho
      have h3 : M.1.2.1 ≤ M'.1.2.1 ∧ M.1.2.2.1 ≤ M'.1.2.2.1 := hm
      omega
    | .inr (.inr r'), _, ho, _ => rw [ho.2]; exact mo_r MF
    | .inr (.inl (y, as, rest)), _, ho, _ =>
      obtain ⟨d', r1, M1, -, -, h1, h2⟩ := ho
      have h3 := mm_mono h2
      by_cases hy : y = 998
      · rw [if_pos hy] at h1
        have := mo_look h1
        omega
      · rw [if_neg hy] at h1
        have := mm_mono h1.2
        omega
