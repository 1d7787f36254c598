/-! THE FRESH MEMORY -/
noncomputable def fr_1a : mm_M := mm_new mm_M0 10 0 13
noncomputable def fr_A : mm_M := fr_m (fr_r 600 39 109 [.ref 0] fr_1a)
noncomputable def fr_2a : mm_M := mm_new fr_A 11 0 78
noncomputable def fr_B : mm_M := fr_m (fr_r 2000 39 146 [.ref 77] fr_2a)
noncomputable def cr_M : mm_M := mm_new fr_B 101 1 1
/-! the fresh memory, and those after runs that are the same for every script -/
theorem fr_Ar : (fr_r 600 39 109 [.ref 0] fr_1a).map (fun z => z.1) = some none := by decide +kernel
theorem fr_Br : (fr_r 2000 39 146 [.ref 77] fr_2a).map (fun z => z.1) = some none := by decide +kernel
theorem fr_Ae : fr_m (fr_r 600 39 109 [.ref 0] fr_1a) = fr_A := rfl
theorem fr_Be : fr_m (fr_r 2000 39 146 [.ref 77] fr_2a) = fr_B := rfl
theorem fr_0H : ns_H mm_M0 := fun a i z => nomatch z
theorem ns_new {M : mm_M} {c n k : Nat} (h : ns_H M) : ns_H (mm_new M c n k) := h
theorem fr_AH : ns_H fr_A := fr_H fr_Ar rfl (ns_new fr_0H) rfl
theorem fr_BH : ns_H fr_B := fr_H fr_Br rfl (ns_new fr_AH) rfl
theorem cr_M_H : ns_H cr_M := ns_new fr_BH
/-! A CHECKED RUN: each int written is nought, or within its bounds and not in a row that stays nought -/
noncomputable def cw_n (a : Nat) : Bool := Nat.beq a 7 || Nat.beq a 8 || Nat.beq a 9 || Nat.beq a 52 || Nat.beq a 53 || Nat.beq a 61 || Nat.beq a 62 || Nat.beq a 68 || Nat.beq a 69 || Nat.beq a 73 || Nat.beq a 74 || Nat.beq a 81 || Nat.beq a 82 || Nat.beq a 83 || Nat.beq a 84
noncomputable def cw_o (a i : Nat) (v : Int32) : Bool := decide (v = 0) || (!cw_n a && decide (g_lo a i ≤ v.toInt) && decide (v.toInt ≤ g_hi a i))
noncomputable def cw_w (q : mm_R) (st : List Value) : Bool := match q.1 with
  | .iastore => (match st with
    | .int x :: .int i :: .ref a :: _ => cw_o a i.toNatClampNeg x
    | _ => true)
  | .bastore => (match st with
    | .int x :: .int i :: .ref a :: _ => cw_o a i.toNatClampNeg (x &&& 1) && cw_o a i.toNatClampNeg x.toInt8.toInt32
    | _ => true)
  | .putfield _ => (match st with
    | .int x :: .ref a :: _ => cw_o a q.2.2.2.1 x
    | _ => true)
  | _ => true
noncomputable def CK (M : mm_M) : Prop := ∀ a i, cw_o a i (M.2.1 a i) = true
noncomputable def cw_P (o : mm_O) : Prop := match o with
  | .inl (_, _, _, M') => CK M'
  | _ => True
theorem CK_I {M : mm_M} {a i : Nat} {x : Int32} (h : CK M) (hx : cw_o a i x = true) : CK (mm_setI M a i x) := fun b j => by
  show cw_o b j (if b = a ∧ j = i then x else M.2.1 b j) = true
  by_cases e : b = a ∧ j = i
  · rw [if_pos e, e.1, e.2]; exact hx
  · rw [if_neg e]; exact h b j
theorem cw_pI {st : List Value} {K : Int32 → List Value → Prop} (h : ∀ x r, st = .int x :: r → K x r) : mm_pI st K True := by
  unfold mm_pI
  split
  · exact h _ _ rfl
  · trivial
theorem cw_pR {st : List Value} {K : Nat → List Value → Prop} (h : ∀ x r, st = .ref x :: r → K x r) : mm_pR st K True := by
  unfold mm_pR
  split
  · exact h _ _ rfl
  · trivial
theorem CK_rows : ∀ (n k : Nat) (M : mm_M), (mm_rows n k M).2 = M.2
  | 0, _, _ => rfl
  | n + 1, k, M => CK_rows n k (mm_new M 100 k k)
theorem CK_multi {M : mm_M} {n k : Nat} (h : CK M) : CK (mm_multi M n k) := h
set_option maxHeartbeats 4000000 in
theorem cw_step (X : mm_X) (q : mm_R) (pc : Nat) (ls st : List Value) (M : mm_M) (hw : cw_w q st = true) (h : CK M) : mm_stepK X q pc ls st M cw_P True := by
  obtain ⟨i, len, a, b, ps⟩ := q
  cases i with
  | getfield n =>
    clear hw
    refine mo_pR fun x r => mo_b ?_ trivial
    show (match ps with
      | 0 :: _ => cw_P (.inl (pc + len, ls, .int (M.2.1 x b) :: r, M))
      | 1 :: _ => cw_P (.inl (pc + len, ls, .int (M.2.1 x b) :: r, M))
      | 2 :: _ => cw_P (.inl (pc + len, ls, .long (M.2.2.1 x b) :: r, M))
      | 3 :: _ => mm_gO (M.2.2.2 x b) (fun y => cw_P (.inl (pc + len, ls, .ref y :: r, M))) True
      | _ => True)
    split <;> first | exact h | exact mo_gO (fun _ => h) | trivial
  | putfield n =>
    have hw2 : ∀ x y r, st = .int x :: .ref y :: r → cw_o y b x = true := by
      intro x y r e
      subst e
      exact hw
    clear hw
    show (match ps with
      | 0 :: _ => mm_pI st (fun x st => mm_pR st (fun y st => mm_b (mm_isObj M y a) (cw_P (.inl (pc + len, ls, st, mm_setI M y b x))) True) True) True
      | 1 :: _ => mm_pI st (fun x st => mm_pR st (fun y st => mm_b (mm_isObj M y a) (if x = 0 ∨ x = 1 then cw_P (.inl (pc + len, ls, st, mm_setI M y b x)) else True) True) True) True
      | 2 :: _ => mm_pL st (fun x st => mm_pR st (fun y st => mm_b (mm_isObj M y a) (cw_P (.inl (pc + len, ls, st, mm_setL M y b x))) True) True) True
      | 3 :: _ => mm_pR st (fun x st => mm_pR st (fun y st => mm_b (mm_isObj M y a) (mm_b (Nat.blt x M.1.1.1) (cw_P (.inl (pc + len, ls, st, mm_setR M y b (some x)))) True) True) True) True
      | _ => True)
    split
    · exact cw_pI fun x r e => cw_pR fun y r2 e2 => mo_b (CK_I h (hw2 x y r2 (by rw [e, e2]))) trivial
    · exact cw_pI fun x r e => cw_pR fun y r2 e2 => mo_b (mo_i (CK_I h (hw2 x y r2 (by rw [e, e2]))) trivial) trivial
    · exact mo_pL fun _ _ => mo_pR fun _ _ => mo_b h trivial
    · exact mo_pR fun _ _ => mo_pR fun _ _ => mo_b (mo_b h trivial) trivial
    · trivial
  | ireturn =>
    clear hw
    refine mo_pI fun x r => mo_e ?_
    show (match a with
      | 0 => cw_P (.inr (.inr (some (.int x))))
      | _ => if x = 0 ∨ x = 1 then cw_P (.inr (.inr (some (.int x)))) else True)
    split
    · trivial
    · exact mo_i trivial trivial
  | dup2 =>
    have h : mm_p1 st (fun v st => mm_p1 st (fun w st => cw_P (.inl (pc + len, ls, v :: w :: v :: w :: st, M))) True) True := mo_p1 fun _ _ => mo_p1 fun _ _ => h
    exact h
  | iastore => exact cw_pI fun _ _ e => cw_pI fun _ _ e2 => cw_pR fun _ _ e3 => mo_b (mo_i trivial (by subst e3; subst e2; subst e; exact CK_I h hw)) trivial
  | bastore =>
    refine cw_pI fun x r e => cw_pI fun i r2 e2 => cw_pR fun y r3 e3 => ?_
    subst e3; subst e2; subst e
    have hw2 : (cw_o y i.toNatClampNeg (x &&& 1) && cw_o y i.toNatClampNeg x.toInt8.toInt32) = true := hw
    rw [Bool.and_eq_true] at hw2
    exact mo_b (mo_i trivial (CK_I h hw2.1)) (mo_b (mo_i trivial (CK_I h hw2.2)) trivial)
  | new n => exact mo_b h trivial
  | newarray n => exact mo_pI fun _ _ => mo_i trivial (mo_b h trivial)
  | multianewarray n d => exact mo_pI fun _ _ => mo_pI fun _ _ => mo_i trivial (mo_b (CK_multi h) trivial)
  | _ =>
    first
      | trivial
      | exact h
      | exact mo_gR fun _ => h
      | exact mo_gI fun _ => h
      | exact mo_gI fun _ => mo_b h trivial
      | exact mo_gL fun _ => mo_b h trivial
      | exact mo_pI fun _ _ => mo_b h trivial
      | exact mo_pR fun _ _ => mo_b h trivial
      | exact mo_pL fun _ _ => mo_b h trivial
      | exact mo_pI fun _ _ => mo_pI fun _ _ => h
      | exact mo_pL fun _ _ => mo_pL fun _ _ => h
      | exact mo_pI fun _ _ => mo_pL fun _ _ => h
      | exact mo_pI fun _ _ => mo_pI fun _ _ => mo_i trivial h
      | exact mo_pL fun _ _ => mo_pL fun _ _ => mo_i trivial h
      | exact mo_pI fun _ _ => h
      | exact mo_pL fun _ _ => h
      | exact mo_p1 fun _ _ => h
      | exact mo_pI fun _ _ => mo_c h h
      | exact mo_pI fun _ _ => mo_pI fun _ _ => mo_c h h
      | exact mo_pI fun _ _ => mo_i h (mo_gO fun _ => h)
      | exact mo_pI fun _ _ => mo_pR fun _ _ => mo_b (mo_i trivial h) (mo_b (mo_i trivial h) trivial)
      | exact mo_pI fun _ _ => mo_pR fun _ _ => mo_b (mo_i trivial h) trivial
      | exact mo_pI fun _ _ => mo_pR fun _ _ => mo_b (mo_i trivial (mo_gO fun _ => h)) trivial
      | exact mo_pL fun _ _ => mo_pI fun _ _ => mo_pR fun _ _ => mo_b (mo_i trivial h) trivial
      | exact mo_pR fun _ _ => mo_b h (mo_b h trivial)
      | exact mo_pop fun _ _ => trivial
      | exact mo_b (mo_pR fun _ _ => mo_e h) (mo_pop fun _ _ => trivial)
      | exact mo_b (mo_pI fun _ _ => mo_pI fun _ _ => mo_b h trivial) (mo_b (mo_pI fun _ _ => mo_pI fun _ _ => mo_b h trivial) (mo_pop fun _ _ => trivial))
      | exact mo_pL fun _ _ => mo_e trivial
      | exact mo_e trivial
noncomputable def cw_run (X : mm_X) : Nat → Nat → Nat → Nat → List Value → List Value → mm_M → Option (Option Value × mm_M)
  | 0, _, _, _, _, _, _ => none
  | n + 1, d, mi, pc, ls, st, M => match mm_code mi pc with
    | none => none
    | some q => bif cw_w q st then mm_stepK X q pc ls st M (fun o => match o with
      | .inl (pc', ls', st', M') => cw_run X n d mi pc' ls' st' M'
      | .inr (.inr r) => some (r, M)
      | .inr (.inl (y, as, rest)) => match d, Nat.ble (mm_w8 rest) 8 with
        | d' + 1, true => match (bif Nat.beq y 998 then none else bif mm_rc M y as then cw_run X n d' y 0 (mm_entry y as) [] M else none) with
          | none => none
          | some (r, M') => cw_run X n (d' + 1) mi (pc + 3) ls (r.toList ++ rest) M'
        | _, _ => none) none else none
set_option maxHeartbeats 4000000 in
theorem cw_run_1 {X : mm_X} : ∀ {n d mi pc : Nat} {ls st : List Value} {M : mm_M} {z : Option Value × mm_M}, cw_run X n d mi pc ls st M = some z → mm_run X n d mi pc ls st M = some z ∧ (CK M → CK z.2)
  | 0, _, _, _, _, _, _, _, h => nomatch h
  | n + 1, d, mi, pc, ls, st, M, z, h => by
    unfold cw_run at h
    unfold mm_run
    cases hc : mm_code mi pc with
    | none => rw [hc] at h; cases h
    | some q =>
      rw [hc] at h
      simp only [] at h ⊢
      cases hw : cw_w q st with
      | false => rw [hw] at h; cases h
      | true =>
        rw [hw, cond_true] at h
        have hP : CK M → mm_stepK X q pc ls st M cw_P True := cw_step X q pc ls st M hw
        rw [mm_stepK_eq] at h hP ⊢
        cases hs : mm_step X q pc ls st M with
        | none => rw [hs] at h; cases h
        | some o =>
          rw [hs] at h hP
          match o, h, hP with
          | .inl (pc', ls', st', M'), h, hP =>
            have g := cw_run_1 h
            exact ⟨g.1, fun k => g.2 (hP k)⟩
          | .inr (.inr r'), h, hP =>
            cases h
            exact ⟨rfl, fun k => k⟩
          | .inr (.inl (y, as, rest)), h, hP =>
            match d, h with
            | 0, h => cases h
            | d' + 1, h =>
              cases hb : Nat.ble (mm_w8 rest) 8 with
              | false =>
                simp only [hb] at h
                cases h
              | true =>
                simp only [hb] at h ⊢
                cases e1 : Nat.beq y 998 with
                | true => rw [e1, cond_true] at h; cases h
                | false =>
                  rw [e1, cond_false] at h
                  rw [cond_false]
                  cases hr : mm_rc M y as with
                  | false => rw [hr, cond_false] at h; cases h
                  | true =>
                    rw [hr, cond_true] at h
                    rw [cond_true]
                    cases hk : cw_run X n d' y 0 (mm_entry y as) [] M with
                    | none => rw [hk] at h; cases h
                    | some w =>
                      obtain ⟨r1, M1⟩ := w
                      rw [hk] at h
                      have g1 := cw_run_1 hk
                      have g2 := cw_run_1 h
                      rw [g1.1]
                      exact ⟨g2.1, fun k => g2.2 (g1.2 k)⟩
noncomputable def cw_r (n d y : Nat) (as : List Value) (M : mm_M) : Option (Option Value × mm_M) := cw_run (fr_X 0 (fun _ => 0)) n d y 0 (mm_entry y as) [] M
theorem CK_m {n d y : Nat} {as : List Value} {M : mm_M} (h : (cw_r n d y as M).isSome = true) (h0 : CK M) : CK (fr_m (fr_r n d y as M)) := by
  cases hr : cw_r n d y as M with
  | none => rw [hr] at h; cases h
  | some z =>
    have g := cw_run_1 hr
    have e : fr_r n d y as M = some z := g.1
    rw [e]
    exact g.2 h0
theorem bl_f {i k : Nat} (h : k ≤ i) : Nat.blt i k = false := by
  cases e : Nat.blt i k with
  | false => rfl
  | true => exact absurd (Nat.le_of_ble_eq_true e) (by omega)
theorem g_lo_i {a i : Nat} (h : 100 ≤ i) : g_lo a i = g_lo a 100 := by
  unfold g_lo
  simp only [bl_f (show 1 ≤ i by omega), bl_f (show 1 ≤ 100 by decide), bl_f (show 2 ≤ i by omega), bl_f (show 2 ≤ 100 by decide), bl_f (show 3 ≤ i by omega), bl_f (show 3 ≤ 100 by decide), bl_f (show 4 ≤ i by omega), bl_f (show 4 ≤ 100 by decide), bl_f (show 5 ≤ i by omega), bl_f (show 5 ≤ 100 by decide), bl_f (show 6 ≤ i by omega), bl_f (show 6 ≤ 100 by decide), bl_f (show 7 ≤ i by omega), bl_f (show 7 ≤ 100 by decide), bl_f (show 9 ≤ i by omega), bl_f (show 9 ≤ 100 by decide), bl_f (show 10 ≤ i by omega), bl_f (show 10 ≤ 100 by decide), bl_f (show 11 ≤ i by omega), bl_f (show 11 ≤ 100 by decide), bl_f (show 12 ≤ i by omega), bl_f (show 12 ≤ 100 by decide), bl_f (show 13 ≤ i by omega), bl_f (show 13 ≤ 100 by decide), bl_f (show 14 ≤ i by omega), bl_f (show 14 ≤ 100 by decide), bl_f (show 15 ≤ i by omega), bl_f (show 15 ≤ 100 by decide), bl_f (show 17 ≤ i by omega), bl_f (show 17 ≤ 100 by decide), bl_f (show 28 ≤ i by omega), bl_f (show 28 ≤ 100 by decide), bl_f (show 30 ≤ i by omega), bl_f (show 30 ≤ 100 by decide), bl_f (show 43 ≤ i by omega), bl_f (show 43 ≤ 100 by decide), bl_f (show 45 ≤ i by omega), bl_f (show 45 ≤ 100 by decide), bl_f (show 52 ≤ i by omega), bl_f (show 52 ≤ 100 by decide), bl_f (show 53 ≤ i by omega), bl_f (show 53 ≤ 100 by decide), bl_f (show 57 ≤ i by omega), bl_f (show 57 ≤ 100 by decide), bl_f (show 60 ≤ i by omega), bl_f (show 60 ≤ 100 by decide), bl_f (show 65 ≤ i by omega), bl_f (show 65 ≤ 100 by decide), bl_f (show 70 ≤ i by omega), bl_f (show 70 ≤ 100 by decide), cond_false]
theorem g_lo_a {a i : Nat} (h : 126 ≤ a) : g_lo a i = -2147483648 := by
  unfold g_lo
  simp only [bl_f (show 1 ≤ a by omega), bl_f (show 2 ≤ a by omega), bl_f (show 6 ≤ a by omega), bl_f (show 7 ≤ a by omega), bl_f (show 9 ≤ a by omega), bl_f (show 16 ≤ a by omega), bl_f (show 17 ≤ a by omega), bl_f (show 19 ≤ a by omega), bl_f (show 27 ≤ a by omega), bl_f (show 28 ≤ a by omega), bl_f (show 29 ≤ a by omega), bl_f (show 30 ≤ a by omega), bl_f (show 33 ≤ a by omega), bl_f (show 34 ≤ a by omega), bl_f (show 36 ≤ a by omega), bl_f (show 39 ≤ a by omega), bl_f (show 40 ≤ a by omega), bl_f (show 42 ≤ a by omega), bl_f (show 43 ≤ a by omega), bl_f (show 44 ≤ a by omega), bl_f (show 45 ≤ a by omega), bl_f (show 49 ≤ a by omega), bl_f (show 50 ≤ a by omega), bl_f (show 51 ≤ a by omega), bl_f (show 55 ≤ a by omega), bl_f (show 56 ≤ a by omega), bl_f (show 57 ≤ a by omega), bl_f (show 58 ≤ a by omega), bl_f (show 59 ≤ a by omega), bl_f (show 60 ≤ a by omega), bl_f (show 64 ≤ a by omega), bl_f (show 65 ≤ a by omega), bl_f (show 66 ≤ a by omega), bl_f (show 67 ≤ a by omega), bl_f (show 68 ≤ a by omega), bl_f (show 70 ≤ a by omega), bl_f (show 72 ≤ a by omega), bl_f (show 73 ≤ a by omega), bl_f (show 75 ≤ a by omega), bl_f (show 77 ≤ a by omega), bl_f (show 78 ≤ a by omega), bl_f (show 79 ≤ a by omega), bl_f (show 81 ≤ a by omega), bl_f (show 85 ≤ a by omega), bl_f (show 86 ≤ a by omega), bl_f (show 87 ≤ a by omega), bl_f (show 90 ≤ a by omega), bl_f (show 92 ≤ a by omega), bl_f (show 94 ≤ a by omega), bl_f (show 95 ≤ a by omega), bl_f (show 99 ≤ a by omega), bl_f (show 102 ≤ a by omega), bl_f (show 105 ≤ a by omega), bl_f (show 106 ≤ a by omega), bl_f (show 108 ≤ a by omega), bl_f (show 114 ≤ a by omega), bl_f (show 115 ≤ a by omega), bl_f (show 120 ≤ a by omega), bl_f (show 121 ≤ a by omega), bl_f (show 125 ≤ a by omega), cond_false]
theorem g_hi_i {a i : Nat} (h : 100 ≤ i) : g_hi a i = g_hi a 100 := by
  unfold g_hi
  simp only [bl_f (show 1 ≤ i by omega), bl_f (show 1 ≤ 100 by decide), bl_f (show 2 ≤ i by omega), bl_f (show 2 ≤ 100 by decide), bl_f (show 3 ≤ i by omega), bl_f (show 3 ≤ 100 by decide), bl_f (show 4 ≤ i by omega), bl_f (show 4 ≤ 100 by decide), bl_f (show 5 ≤ i by omega), bl_f (show 5 ≤ 100 by decide), bl_f (show 6 ≤ i by omega), bl_f (show 6 ≤ 100 by decide), bl_f (show 7 ≤ i by omega), bl_f (show 7 ≤ 100 by decide), bl_f (show 8 ≤ i by omega), bl_f (show 8 ≤ 100 by decide), bl_f (show 9 ≤ i by omega), bl_f (show 9 ≤ 100 by decide), bl_f (show 10 ≤ i by omega), bl_f (show 10 ≤ 100 by decide), bl_f (show 11 ≤ i by omega), bl_f (show 11 ≤ 100 by decide), bl_f (show 12 ≤ i by omega), bl_f (show 12 ≤ 100 by decide), bl_f (show 13 ≤ i by omega), bl_f (show 13 ≤ 100 by decide), bl_f (show 14 ≤ i by omega), bl_f (show 14 ≤ 100 by decide), bl_f (show 15 ≤ i by omega), bl_f (show 15 ≤ 100 by decide), bl_f (show 16 ≤ i by omega), bl_f (show 16 ≤ 100 by decide), bl_f (show 17 ≤ i by omega), bl_f (show 17 ≤ 100 by decide), bl_f (show 28 ≤ i by omega), bl_f (show 28 ≤ 100 by decide), bl_f (show 29 ≤ i by omega), bl_f (show 29 ≤ 100 by decide), bl_f (show 30 ≤ i by omega), bl_f (show 30 ≤ 100 by decide), bl_f (show 43 ≤ i by omega), bl_f (show 43 ≤ 100 by decide), bl_f (show 44 ≤ i by omega), bl_f (show 44 ≤ 100 by decide), bl_f (show 45 ≤ i by omega), bl_f (show 45 ≤ 100 by decide), bl_f (show 52 ≤ i by omega), bl_f (show 52 ≤ 100 by decide), bl_f (show 53 ≤ i by omega), bl_f (show 53 ≤ 100 by decide), bl_f (show 57 ≤ i by omega), bl_f (show 57 ≤ 100 by decide), bl_f (show 58 ≤ i by omega), bl_f (show 58 ≤ 100 by decide), bl_f (show 60 ≤ i by omega), bl_f (show 60 ≤ 100 by decide), bl_f (show 65 ≤ i by omega), bl_f (show 65 ≤ 100 by decide), bl_f (show 66 ≤ i by omega), bl_f (show 66 ≤ 100 by decide), bl_f (show 67 ≤ i by omega), bl_f (show 67 ≤ 100 by decide), bl_f (show 68 ≤ i by omega), bl_f (show 68 ≤ 100 by decide), bl_f (show 69 ≤ i by omega), bl_f (show 69 ≤ 100 by decide), bl_f (show 70 ≤ i by omega), bl_f (show 70 ≤ 100 by decide), cond_false]
theorem g_hi_a {a i : Nat} (h : 126 ≤ a) : g_hi a i = 2147483647 := by
  unfold g_hi
  simp only [bl_f (show 1 ≤ a by omega), bl_f (show 2 ≤ a by omega), bl_f (show 6 ≤ a by omega), bl_f (show 7 ≤ a by omega), bl_f (show 8 ≤ a by omega), bl_f (show 9 ≤ a by omega), bl_f (show 16 ≤ a by omega), bl_f (show 17 ≤ a by omega), bl_f (show 19 ≤ a by omega), bl_f (show 25 ≤ a by omega), bl_f (show 26 ≤ a by omega), bl_f (show 27 ≤ a by omega), bl_f (show 28 ≤ a by omega), bl_f (show 29 ≤ a by omega), bl_f (show 30 ≤ a by omega), bl_f (show 33 ≤ a by omega), bl_f (show 34 ≤ a by omega), bl_f (show 35 ≤ a by omega), bl_f (show 36 ≤ a by omega), bl_f (show 39 ≤ a by omega), bl_f (show 40 ≤ a by omega), bl_f (show 42 ≤ a by omega), bl_f (show 43 ≤ a by omega), bl_f (show 44 ≤ a by omega), bl_f (show 45 ≤ a by omega), bl_f (show 49 ≤ a by omega), bl_f (show 50 ≤ a by omega), bl_f (show 51 ≤ a by omega), bl_f (show 52 ≤ a by omega), bl_f (show 53 ≤ a by omega), bl_f (show 54 ≤ a by omega), bl_f (show 55 ≤ a by omega), bl_f (show 56 ≤ a by omega), bl_f (show 57 ≤ a by omega), bl_f (show 58 ≤ a by omega), bl_f (show 59 ≤ a by omega), bl_f (show 60 ≤ a by omega), bl_f (show 61 ≤ a by omega), bl_f (show 62 ≤ a by omega), bl_f (show 63 ≤ a by omega), bl_f (show 64 ≤ a by omega), bl_f (show 65 ≤ a by omega), bl_f (show 66 ≤ a by omega), bl_f (show 67 ≤ a by omega), bl_f (show 68 ≤ a by omega), bl_f (show 69 ≤ a by omega), bl_f (show 70 ≤ a by omega), bl_f (show 72 ≤ a by omega), bl_f (show 73 ≤ a by omega), bl_f (show 74 ≤ a by omega), bl_f (show 75 ≤ a by omega), bl_f (show 77 ≤ a by omega), bl_f (show 78 ≤ a by omega), bl_f (show 79 ≤ a by omega), bl_f (show 81 ≤ a by omega), bl_f (show 82 ≤ a by omega), bl_f (show 83 ≤ a by omega), bl_f (show 84 ≤ a by omega), bl_f (show 85 ≤ a by omega), bl_f (show 86 ≤ a by omega), bl_f (show 87 ≤ a by omega), bl_f (show 90 ≤ a by omega), bl_f (show 91 ≤ a by omega), bl_f (show 92 ≤ a by omega), bl_f (show 94 ≤ a by omega), bl_f (show 95 ≤ a by omega), bl_f (show 99 ≤ a by omega), bl_f (show 100 ≤ a by omega), bl_f (show 101 ≤ a by omega), bl_f (show 102 ≤ a by omega), bl_f (show 103 ≤ a by omega), bl_f (show 105 ≤ a by omega), bl_f (show 106 ≤ a by omega), bl_f (show 108 ≤ a by omega), bl_f (show 109 ≤ a by omega), bl_f (show 110 ≤ a by omega), bl_f (show 111 ≤ a by omega), bl_f (show 112 ≤ a by omega), bl_f (show 113 ≤ a by omega), bl_f (show 114 ≤ a by omega), bl_f (show 115 ≤ a by omega), bl_f (show 116 ≤ a by omega), bl_f (show 117 ≤ a by omega), bl_f (show 118 ≤ a by omega), bl_f (show 119 ≤ a by omega), bl_f (show 120 ≤ a by omega), bl_f (show 121 ≤ a by omega), bl_f (show 123 ≤ a by omega), bl_f (show 124 ≤ a by omega), bl_f (show 125 ≤ a by omega), cond_false]
theorem g_rf_i {a i : Nat} (h : 80 ≤ i) : g_rf a i = g_rf a 80 := by
  unfold g_rf
  simp only [bl_f (show 1 ≤ i by omega), bl_f (show 1 ≤ 80 by decide), bl_f (show 2 ≤ i by omega), bl_f (show 2 ≤ 80 by decide), bl_f (show 3 ≤ i by omega), bl_f (show 3 ≤ 80 by decide), bl_f (show 4 ≤ i by omega), bl_f (show 4 ≤ 80 by decide), bl_f (show 5 ≤ i by omega), bl_f (show 5 ≤ 80 by decide), bl_f (show 6 ≤ i by omega), bl_f (show 6 ≤ 80 by decide), bl_f (show 7 ≤ i by omega), bl_f (show 7 ≤ 80 by decide), bl_f (show 8 ≤ i by omega), bl_f (show 8 ≤ 80 by decide), bl_f (show 9 ≤ i by omega), bl_f (show 9 ≤ 80 by decide), bl_f (show 10 ≤ i by omega), bl_f (show 10 ≤ 80 by decide), bl_f (show 11 ≤ i by omega), bl_f (show 11 ≤ 80 by decide), bl_f (show 12 ≤ i by omega), bl_f (show 12 ≤ 80 by decide), bl_f (show 13 ≤ i by omega), bl_f (show 13 ≤ 80 by decide), bl_f (show 17 ≤ i by omega), bl_f (show 17 ≤ 80 by decide), bl_f (show 18 ≤ i by omega), bl_f (show 18 ≤ 80 by decide), bl_f (show 19 ≤ i by omega), bl_f (show 19 ≤ 80 by decide), bl_f (show 20 ≤ i by omega), bl_f (show 20 ≤ 80 by decide), bl_f (show 21 ≤ i by omega), bl_f (show 21 ≤ 80 by decide), bl_f (show 22 ≤ i by omega), bl_f (show 22 ≤ 80 by decide), bl_f (show 23 ≤ i by omega), bl_f (show 23 ≤ 80 by decide), bl_f (show 24 ≤ i by omega), bl_f (show 24 ≤ 80 by decide), bl_f (show 25 ≤ i by omega), bl_f (show 25 ≤ 80 by decide), bl_f (show 26 ≤ i by omega), bl_f (show 26 ≤ 80 by decide), bl_f (show 27 ≤ i by omega), bl_f (show 27 ≤ 80 by decide), bl_f (show 28 ≤ i by omega), bl_f (show 28 ≤ 80 by decide), bl_f (show 30 ≤ i by omega), bl_f (show 30 ≤ 80 by decide), bl_f (show 31 ≤ i by omega), bl_f (show 31 ≤ 80 by decide), bl_f (show 32 ≤ i by omega), bl_f (show 32 ≤ 80 by decide), bl_f (show 33 ≤ i by omega), bl_f (show 33 ≤ 80 by decide), bl_f (show 34 ≤ i by omega), bl_f (show 34 ≤ 80 by decide), bl_f (show 35 ≤ i by omega), bl_f (show 35 ≤ 80 by decide), bl_f (show 36 ≤ i by omega), bl_f (show 36 ≤ 80 by decide), bl_f (show 37 ≤ i by omega), bl_f (show 37 ≤ 80 by decide), bl_f (show 38 ≤ i by omega), bl_f (show 38 ≤ 80 by decide), bl_f (show 39 ≤ i by omega), bl_f (show 39 ≤ 80 by decide), bl_f (show 40 ≤ i by omega), bl_f (show 40 ≤ 80 by decide), bl_f (show 41 ≤ i by omega), bl_f (show 41 ≤ 80 by decide), bl_f (show 45 ≤ i by omega), bl_f (show 45 ≤ 80 by decide), bl_f (show 46 ≤ i by omega), bl_f (show 46 ≤ 80 by decide), bl_f (show 47 ≤ i by omega), bl_f (show 47 ≤ 80 by decide), bl_f (show 48 ≤ i by omega), bl_f (show 48 ≤ 80 by decide), bl_f (show 49 ≤ i by omega), bl_f (show 49 ≤ 80 by decide), bl_f (show 50 ≤ i by omega), bl_f (show 50 ≤ 80 by decide), bl_f (show 51 ≤ i by omega), bl_f (show 51 ≤ 80 by decide), bl_f (show 52 ≤ i by omega), bl_f (show 52 ≤ 80 by decide), bl_f (show 53 ≤ i by omega), bl_f (show 53 ≤ 80 by decide), bl_f (show 54 ≤ i by omega), bl_f (show 54 ≤ 80 by decide), bl_f (show 55 ≤ i by omega), bl_f (show 55 ≤ 80 by decide), bl_f (show 56 ≤ i by omega), bl_f (show 56 ≤ 80 by decide), bl_f (show 57 ≤ i by omega), bl_f (show 57 ≤ 80 by decide), bl_f (show 60 ≤ i by omega), bl_f (show 60 ≤ 80 by decide), bl_f (show 61 ≤ i by omega), bl_f (show 61 ≤ 80 by decide), bl_f (show 62 ≤ i by omega), bl_f (show 62 ≤ 80 by decide), bl_f (show 63 ≤ i by omega), bl_f (show 63 ≤ 80 by decide), bl_f (show 64 ≤ i by omega), bl_f (show 64 ≤ 80 by decide), bl_f (show 65 ≤ i by omega), bl_f (show 65 ≤ 80 by decide), bl_f (show 70 ≤ i by omega), bl_f (show 70 ≤ 80 by decide), bl_f (show 71 ≤ i by omega), bl_f (show 71 ≤ 80 by decide), bl_f (show 72 ≤ i by omega), bl_f (show 72 ≤ 80 by decide), bl_f (show 73 ≤ i by omega), bl_f (show 73 ≤ 80 by decide), bl_f (show 74 ≤ i by omega), bl_f (show 74 ≤ 80 by decide), bl_f (show 75 ≤ i by omega), bl_f (show 75 ≤ 80 by decide), bl_f (show 76 ≤ i by omega), bl_f (show 76 ≤ 80 by decide), bl_f (show 77 ≤ i by omega), bl_f (show 77 ≤ 80 by decide), bl_f (show 78 ≤ i by omega), bl_f (show 78 ≤ 80 by decide), cond_false]
theorem g_rf_a {a i : Nat} (h : 126 ≤ a) : g_rf a i = none := by
  unfold g_rf
  simp only [bl_f (show 1 ≤ a by omega), bl_f (show 2 ≤ a by omega), bl_f (show 6 ≤ a by omega), bl_f (show 7 ≤ a by omega), bl_f (show 11 ≤ a by omega), bl_f (show 12 ≤ a by omega), bl_f (show 17 ≤ a by omega), bl_f (show 18 ≤ a by omega), bl_f (show 19 ≤ a by omega), bl_f (show 28 ≤ a by omega), bl_f (show 29 ≤ a by omega), bl_f (show 36 ≤ a by omega), bl_f (show 37 ≤ a by omega), bl_f (show 39 ≤ a by omega), bl_f (show 40 ≤ a by omega), bl_f (show 42 ≤ a by omega), bl_f (show 43 ≤ a by omega), bl_f (show 49 ≤ a by omega), bl_f (show 50 ≤ a by omega), bl_f (show 58 ≤ a by omega), bl_f (show 59 ≤ a by omega), bl_f (show 67 ≤ a by omega), bl_f (show 68 ≤ a by omega), bl_f (show 72 ≤ a by omega), bl_f (show 73 ≤ a by omega), bl_f (show 77 ≤ a by omega), bl_f (show 78 ≤ a by omega), bl_f (show 126 ≤ a by omega), cond_false]
noncomputable def bx_c (a i : Nat) : Bool := (Nat.beq a 49 && Nat.beq i 0) || (Nat.beq a 58 && Nat.beq i 0) || (Nat.beq a 77 && Nat.beq i 11) || (Nat.beq a 77 && Nat.beq i 14)
noncomputable def bx_b : Bool := (List.range 126).all fun a => (List.range 101).all fun i => bx_c a i || (decide (g_lo a i ≤ 0) && decide (0 ≤ g_hi a i))
theorem bx_t : bx_b = true := by decide +kernel
theorem bx_1 {a i : Nat} (ha : a < 126) (hi : i < 101) : (bx_c a i || (decide (g_lo a i ≤ 0) && decide (0 ≤ g_hi a i))) = true := List.all_eq_true.mp (List.all_eq_true.mp bx_t a (List.mem_range.mpr ha)) i (List.mem_range.mpr hi)
theorem bx_0 (a i : Nat) : bx_c a i = true ∨ (g_lo a i ≤ 0 ∧ 0 ≤ g_hi a i) := by
  by_cases ha : a < 126
  · by_cases hi : i < 101
    · have h := bx_1 ha hi
      rw [Bool.or_eq_true, Bool.and_eq_true, decide_eq_true_eq, decide_eq_true_eq] at h
      exact h
    · have h := bx_1 (i := 100) ha (by omega)
      rw [Bool.or_eq_true, Bool.and_eq_true, decide_eq_true_eq, decide_eq_true_eq] at h
      rcases h with h | h
      · exfalso
        revert h
        unfold bx_c
        rw [show Nat.beq 100 0 = false from rfl, show Nat.beq 100 11 = false from rfl, show Nat.beq 100 14 = false from rfl]
        simp only [Bool.and_false, Bool.or_false]
        exact fun z => nomatch z
      · right
        rw [g_lo_i (by omega), g_hi_i (by omega)]
        exact h
  · right
    rw [g_lo_a (by omega), g_hi_a (by omega)]
    omega
theorem CK_0 : CK mm_M0 := fun _ _ => rfl
theorem CK_new {M : mm_M} {c n k : Nat} (h : CK M) : CK (mm_new M c n k) := h
theorem cw_A : (cw_r 600 39 109 [.ref 0] fr_1a).isSome = true := by decide +kernel
theorem cw_B : (cw_r 2000 39 146 [.ref 77] fr_2a).isSome = true := by decide +kernel
theorem CK_A : CK fr_A := CK_m cw_A (CK_new CK_0)
theorem CK_B : CK fr_B := CK_m cw_B (CK_new CK_A)
theorem CK_M : CK cr_M := CK_new CK_B
noncomputable def fs_t (M : mm_M) : Bool := Nat.beq M.1.1.1 126 && (List.range 126).all fun a => Nat.beq (M.1.1.2.1 a) (g_ty a) && Nat.beq (M.1.1.2.2 a) (g_ln a)
noncomputable def fs_r (M : mm_M) : Bool := (List.range 126).all fun a => (List.range 81).all fun i => match g_rf a i with
  | none => true
  | some v => decide (M.2.2.2 a i = some v)
noncomputable def fs_c (M : mm_M) : Bool := decide (M.2.1 79 69 = 32) && (decide (g_lo 49 0 ≤ (M.2.1 49 0).toInt ∧ (M.2.1 49 0).toInt ≤ g_hi 49 0) && decide (g_lo 58 0 ≤ (M.2.1 58 0).toInt ∧ (M.2.1 58 0).toInt ≤ g_hi 58 0) && decide (g_lo 77 11 ≤ (M.2.1 77 11).toInt ∧ (M.2.1 77 11).toInt ≤ g_hi 77 11) && decide (g_lo 77 14 ≤ (M.2.1 77 14).toInt ∧ (M.2.1 77 14).toInt ≤ g_hi 77 14)) && (decide (M.2.1 77 13 = 0) && decide (M.2.1 77 29 = 0) && decide (M.2.1 77 58 = 0) && decide (M.2.1 77 57 = 0)) && ((List.range 6).all fun j => decide (M.2.1 100 j = 0)) && (decide (0 ≤ (M.2.1 77 28).toInt) && decide ((M.2.1 77 7).toInt ≤ (M.2.1 77 6).toInt) && decide ((M.2.1 1 1).toInt = (M.2.1 77 1).toInt))
noncomputable def fs_q (M : mm_M) : Bool := decide (M.2.2.2 0 8 = some 49) && decide (M.2.2.2 0 9 = some 58) && decide (M.2.2.2 0 10 = some 67) && decide (M.2.2.2 0 11 = some 72)
noncomputable def fs_k (M : mm_M) : Bool := Nat.ble M.1.2.1 126 && Nat.ble M.1.2.2.1 7628
theorem fs_tM : fs_t cr_M = true := by decide +kernel
theorem fs_cM : fs_c cr_M = true := by decide +kernel
theorem fs_qM : fs_q cr_M = true := by decide +kernel
theorem fs_kM : fs_k cr_M = true := by decide +kernel
theorem fs_rM : fs_r cr_M = true := by decide +kernel
theorem fs_G {M : mm_M} (hC : CK M) (ht : fs_t M = true) (hr : fs_r M = true) (hc : fs_c M = true) : g_G M := by
  unfold fs_t at ht
  unfold fs_c at hc
  simp only [Bool.and_eq_true, decide_eq_true_eq] at ht hc
  obtain ⟨⟨⟨⟨c0, ⟨⟨c1, c2⟩, c3⟩, c4⟩, -⟩, -⟩, -⟩ := hc
  refine ⟨⟨Nat.eq_of_beq_eq_true ht.1, fun a ha => ?_, fun a i v hv => ?_⟩, fun a i => ?_, c0⟩
  · have z := List.all_eq_true.mp ht.2 a (List.mem_range.mpr ha)
    rw [Bool.and_eq_true] at z
    exact ⟨Nat.eq_of_beq_eq_true z.1, Nat.eq_of_beq_eq_true z.2⟩
  · have ha : a < 126 := by
      by_cases g : a < 126
      · exact g
      · rw [g_rf_a (by omega)] at hv; cases hv
    by_cases hi : i < 81
    · have z := List.all_eq_true.mp (List.all_eq_true.mp hr a (List.mem_range.mpr ha)) i (List.mem_range.mpr hi)
      rw [hv] at z
      simp only [decide_eq_true_eq] at z
      exact z
    · exfalso
      have z : (List.range 126).all (fun a => (g_rf a 80).isNone) = true := by decide +kernel
      have z2 := List.all_eq_true.mp z a (List.mem_range.mpr ha)
      rw [g_rf_i (by omega)] at hv
      rw [hv] at z2
      cases z2
  · have z := hC a i
    unfold cw_o at z
    rw [Bool.or_eq_true, Bool.and_eq_true, Bool.and_eq_true, decide_eq_true_eq, decide_eq_true_eq, decide_eq_true_eq] at z
    rcases z with z | z
    · rcases bx_0 a i with y | y
      · unfold bx_c at y
        simp only [Bool.or_eq_true, Bool.and_eq_true] at y
        rcases y with ((y | y) | y) | y
        · rw [Nat.eq_of_beq_eq_true y.1, Nat.eq_of_beq_eq_true y.2]; exact c1
        · rw [Nat.eq_of_beq_eq_true y.1, Nat.eq_of_beq_eq_true y.2]; exact c2
        · rw [Nat.eq_of_beq_eq_true y.1, Nat.eq_of_beq_eq_true y.2]; exact c3
        · rw [Nat.eq_of_beq_eq_true y.1, Nat.eq_of_beq_eq_true y.2]; exact c4
      · rw [z]; exact y
    · exact ⟨z.1.2, z.2⟩
theorem fs_n {M : mm_M} (hC : CK M) {a : Nat} (h : cw_n a = true) (i : Nat) : (M.2.1 a i).toInt = 0 := by
  have z := hC a i
  unfold cw_o at z
  rw [Bool.or_eq_true, decide_eq_true_eq, h] at z
  rcases z with z | z
  · rw [z]; rfl
  · cases z
theorem fs_L {M : mm_M} (hC : CK M) (ht : fs_t M = true) (hr : fs_r M = true) (hc : fs_c M = true) (hq : fs_q M = true) : LI M := by
  have hG := fs_G hC ht hr hc
  unfold fs_c at hc
  unfold fs_q at hq
  simp only [Bool.and_eq_true, decide_eq_true_eq] at hc hq
  obtain ⟨⟨⟨⟨-, -⟩, ⟨⟨c1, c2⟩, c3⟩, c4⟩, c5⟩, ⟨c6, c7⟩, c8⟩ := hc
  obtain ⟨⟨⟨q1, q2⟩, q3⟩, q4⟩ := hq
  have n0 : (0 : Int32).toInt = 0 := rfl
  refine ⟨hG, ⟨fun i => ?_, fun i => ?_, fun i => ?_, ⟨49, 58, 67, 72, Or.inl rfl, Or.inr rfl, Or.inl rfl, Or.inr rfl, q1, q2, q3, q4⟩⟩, ⟨fun i => ?_, fun w _ hl => ?_, NJ_0 (by rw [c2]; rfl), PS_0 (fun j hj => ?_) c6, KQ_0 (by rw [c3]; rfl) (by rw [c4]; rfl)⟩, c7, c8⟩
  · rw [fs_n hC (a := 52) rfl, fs_n hC (a := 53) rfl, fs_n hC (a := 61) rfl, fs_n hC (a := 62) rfl]; omega
  · rw [fs_n hC (a := 7) rfl, fs_n hC (a := 8) rfl, fs_n hC (a := 9) rfl]; omega
  · rw [fs_n hC (a := 68) rfl, fs_n hC (a := 69) rfl, fs_n hC (a := 73) rfl, fs_n hC (a := 74) rfl]; omega
  · rw [fs_n hC (a := 81) rfl, fs_n hC (a := 82) rfl, fs_n hC (a := 83) rfl, fs_n hC (a := 84) rfl]; omega
  · rw [c1, n0] at hl; omega
  · have z := List.all_eq_true.mp c5 j (List.mem_range.mpr hj)
    rw [decide_eq_true_eq] at z
    exact z
theorem LI_M : LI cr_M := fs_L CK_M fs_tM fs_rM fs_cM fs_qM
theorem w9_c : ((List.range 70).all (fun i => decide (cr_M.2.1 79 i = x_w79.getD i 0)) && decide (cr_M.2.1 1 1 = 0)) = true := by decide +kernel
theorem LI3_M : LI3 cr_M := by
  have h := w9_c
  rw [Bool.and_eq_true, decide_eq_true_eq] at h
  refine ⟨LI_M, TP_0 (by rw [h.2]; decide), fun i hi => ?_⟩
  have z := List.all_eq_true.mp h.1 i (List.mem_range.mpr hi)
  rw [decide_eq_true_eq] at z
  rw [z]
  rfl
theorem ne_c : (decide (cr_M.2.2.2 0 8 ≠ cr_M.2.2.2 0 9) && decide (cr_M.2.1 0 12 = cr_M.2.1 77 28)) = true := by decide +kernel
theorem LI4_M : LI4 cr_M := by
  have h := ne_c
  rw [Bool.and_eq_true, decide_eq_true_eq, decide_eq_true_eq] at h
  exact ⟨LI3_M, h.1, by rw [h.2]⟩
theorem al_c : (decide (cr_M.2.2.2 0 8 = some 49) && decide ((cr_M.2.1 49 0).toInt = 10) && decide ((cr_M.2.1 49 2).toInt = 0) && decide ((cr_M.2.1 49 3).toInt = 0) && decide ((cr_M.2.1 77 11).toInt = 10) && decide ((cr_M.2.1 77 12).toInt = 0) && decide ((cr_M.2.1 77 13).toInt = 0) && decide (cr_M.2.1 17 4 = cr_M.2.1 77 41) && (List.range 10).all (fun j => decide (cr_M.2.1 88 j = fr_S.getD j 0 ∧ cr_M.2.1 89 j = fr_P.getD j 0))) = true := by decide +kernel
theorem AL_M : TPl cr_M x_s0 ∧ PLk2 cr_M x_s0 := by
  have h := al_c
  simp only [Bool.and_eq_true, decide_eq_true_eq] at h
  obtain ⟨⟨⟨⟨⟨⟨⟨⟨h1, h2⟩, h3⟩, h4⟩, h5⟩, h6⟩, h7⟩, h8⟩, h9⟩ := h
  refine ⟨⟨49, Or.inl rfl, h1, ⟨⟨x_G_0, h2, h3, h4, fun r k _ _ g => ?_, fun r k _ _ g => ?_⟩, CW_0⟩⟩, ⟨⟨x_G_0, h5, h6, h7, fun r k _ _ g => ?_, fun r k _ _ g => ?_⟩, CWk_0⟩⟩
  · have g : (k : Int) < 0 := g
    omega
  · have g : (k : Int) < 0 := g
    omega
  · have g : (k : Int) < 0 := g
    omega
  · have g : (k : Int) < 0 := g
    omega
theorem LI7_M : LI7 cr_M := by
  have h := al_c
  simp only [Bool.and_eq_true, decide_eq_true_eq] at h
  obtain ⟨⟨⟨⟨⟨⟨⟨⟨h1, h2⟩, h3⟩, h4⟩, h5⟩, h6⟩, h7⟩, h8⟩, h9⟩ := h
  refine ⟨⟨⟨LI4_M, ⟨x_s0, AL_M⟩⟩, by rw [h8]⟩, fun j hj => ?_⟩
  have z := List.all_eq_true.mp h9 j (List.mem_range.mpr hj)
  rw [decide_eq_true_eq] at z
  exact z
theorem nn_c : decide (cr_M.2.1 6 0 = cr_M.2.1 77 29) = true := by decide +kernel
theorem LI8_M : LI8 cr_M := ⟨LI7_M, by rw [of_decide_eq_true nn_c]⟩
theorem n0_c : decide ((cr_M.2.1 6 0).toInt = 0) = true := by decide +kernel
theorem LI9_M : LI9 cr_M := by
  have e := of_decide_eq_true n0_c
  refine ⟨LI8_M, x_s0, AL_M, ?_, ?_⟩
  · rw [e]; exact fun k hk => by omega
  · rw [e]; exact fun k hk => by omega
