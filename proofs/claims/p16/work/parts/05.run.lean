/-! THE RUN: a method from pc on, d the calls that may still be open above it -/
noncomputable def mm_sl : List Value → List Value
  | [] => []
  | .long x :: t => .long x :: .null :: mm_sl t
  | v :: t => v :: mm_sl t
noncomputable def mm_entry (y : Nat) (as : List Value) : List Value := mm_sl as ++ List.replicate (mm_mx y - (mm_sl as).length) .null
noncomputable def mm_w8 (st : List Value) : Nat := (st.map fun v => v.category).sum
noncomputable def mm_okv : List Value → Bool
  | [] => true
  | .int _ :: t => mm_okv t
  | .long _ :: t => mm_okv t
  | .ref _ :: t => mm_okv t
  | _ => false
/-- the object that an instance method is called on is of its class -/
noncomputable def mm_rc (M : mm_M) (y : Nat) (as : List Value) : Bool := mm_okv as && Nat.ble (mm_sl as).length (mm_mx y) && bif Nat.beq (mm_kc y) 99 then true else (match as with
  | .ref a :: _ => mm_isObj M a (mm_kc y)
  | _ => false)
noncomputable def mm_mark (M : mm_M) : mm_M := ((M.1.1, (M.1.2.1 + 1, M.1.2.2.1 + 6, 1)), M.2)
/-- the law's look: 1 where FIELD isn't one, 2 where WHAT isn't, else 0 and what was told -/
noncomputable def mm_look (M : mm_M) (as : List Value) : Option (Option Value × mm_M) := match as with
  | [.ref x, .int f, .int w, .ref o] => match mm_isObj M x 10 && mm_isObj M o 101 && Nat.beq (M.1.1.2.2 o) 1, M.2.2.2 x 8 with
    | true, some p => bif mm_isObj M p 5 then (if f < 0 then some (some (.int 1), mm_mark M) else if M.2.1 p 2 ≤ f then some (some (.int 1), mm_mark M)
        else if w = 0 ∨ w = 1 ∨ w = 2 ∨ w = 3 then (match M.2.2.2 p (6 + w.toNatClampNeg) with
          | some q => bif mm_isObj M q 100 && Nat.blt f.toNatClampNeg (M.1.1.2.2 q) then some (some (.int 0), mm_setL (mm_mark M) o 0 (M.2.1 q f.toNatClampNeg).toInt64) else none
          | none => none)
        else some (some (.int 2), mm_mark M)) else none
    | _, _ => none
  | _ => none
theorem mm_look_I {M M1 : mm_M} {as : List Value} {r : Option Value} (h : mm_look M as = some (r, M1)) : ∃ x f w o p, as = [.ref x, .int f, .int w, .ref o] ∧ mm_isObj M x 10 = true ∧ mm_isObj M o 101 = true ∧ M.1.1.2.2 o = 1 ∧ M.2.2.2 x 8 = some p ∧ mm_isObj M p 5 = true ∧ (((f < 0 ∨ M.2.1 p 2 ≤ f) ∧ r = some (.int 1) ∧ M1 = mm_mark M) ∨ ((¬ f < 0 ∧ ¬ M.2.1 p 2 ≤ f) ∧ (w = 0 ∨ w = 1 ∨ w = 2 ∨ w = 3) ∧ ∃ q, M.2.2.2 p (6 + w.toNatClampNeg) = some q ∧ mm_isObj M q 100 = true ∧ f.toNatClampNeg < M.1.1.2.2 q ∧ r = some (.int 0) ∧ M1 = mm_setL (mm_mark M) o 0 (M.2.1 q f.toNatClampNeg).toInt64) ∨ ((¬ f < 0 ∧ ¬ M.2.1 p 2 ≤ f) ∧ ¬ (w = 0 ∨ w = 1 ∨ w = 2 ∨ w = 3) ∧ r = some (.int 2) ∧ M1 = mm_mark M)) := by
  unfold mm_look at h
  split at h
  · rename_i x f w o
    split at h
    · rename_i p h1 h2
      rw [Bool.and_eq_true, Bool.and_eq_true] at h1
      cases h3 : mm_isObj M p 5 with
      | false => rw [h3] at h; cases h
      | true =>
        rw [h3, cond_true] at h
        refine ⟨x, f, w, o, p, rfl, h1.1.1, h1.1.2, Nat.eq_of_beq_eq_true h1.2, h2, h3, ?_⟩
        by_cases g1 : f < 0
        · rw [if_pos g1] at h
          cases h
          exact Or.inl ⟨Or.inl g1, rfl, rfl⟩
        · rw [if_neg g1] at h
          by_cases g2 : M.2.1 p 2 ≤ f
          · rw [if_pos g2] at h
            cases h
            exact Or.inl ⟨Or.inr g2, rfl, rfl⟩
          · rw [if_neg g2] at h
            by_cases g3 : w = 0 ∨ w = 1 ∨ w = 2 ∨ w = 3
            · rw [if_pos g3] at h
              cases hq : M.2.2.2 p (6 + w.toNatClampNeg) with
              | none => rw [hq] at h; cases h
              | some q =>
                rw [hq] at h
                simp only [] at h
                cases g4 : (mm_isObj M q 100 && Nat.blt f.toNatClampNeg (M.1.1.2.2 q)) with
                | false => rw [g4, cond_false] at h; cases h
                | true =>
                  rw [g4, cond_true] at h
                  cases h
                  rw [Bool.and_eq_true] at g4
                  exact Or.inr (Or.inl ⟨⟨g1, g2⟩, g3, q, rfl, g4.1, Nat.le_of_ble_eq_true g4.2, rfl, rfl⟩)
            · rw [if_neg g3] at h
              cases h
              exact Or.inr (Or.inr ⟨⟨g1, g2⟩, g3, rfl, rfl⟩)
    · cases h
  · cases h
noncomputable def mm_run (X : mm_X) : Nat → Nat → Nat → Nat → List Value → List Value → mm_M → Option (Option Value × mm_M)
  | 0, _, _, _, _, _, _ => none
  | n + 1, d, mi, pc, ls, st, M => match mm_code mi pc with
    | none => none
    | some q => mm_stepK X q pc ls st M (fun o => match o with
      | .inl (pc', ls', st', M') => mm_run X n d mi pc' ls' st' M'
      | .inr (.inr r) => some (r, M)
      | .inr (.inl (y, as, rest)) => match d, Nat.ble (mm_w8 rest) 8 with
        | d' + 1, true => match (bif Nat.beq y 998 then mm_look M as else bif mm_rc M y as then mm_run X n d' y 0 (mm_entry y as) [] M else none) with
          | none => none
          | some (r, M') => mm_run X n (d' + 1) mi (pc + 3) ls (r.toList ++ rest) M'
        | _, _ => none) none
/-- TOTAL: it ends, and then Q -/
noncomputable def mm_T (X : mm_X) (d mi pc : Nat) (ls st : List Value) (M : mm_M) (Q : Option Value → mm_M → Prop) : Prop := ∃ n r M', mm_run X n d mi pc ls st M = some (r, M') ∧ Q r M'
