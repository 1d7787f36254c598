section
/-! THE RUN: a method from pc on, d the calls that may still be open above it -/
noncomputable def mm_sl : List Value → List Value
  | [] => []
  | .long x :: t => .long x :: .null :: mm_sl t
  | v :: t => v :: mm_sl t
noncomputable def mm_entry (y : Nat) (as : List Value) : List Value := mm_sl as ++ List.replicate (mm_mx y - (mm_sl as).length) .null
noncomputable def mm_w8 (st : List Value) : Nat := (st.map fun v => v.category).sum
noncomputable def mm_okv : List Value → Bool
  | [] => true
  | .int _ :: t => mm_okv t
  | .long _ :: t => mm_okv t
  | .ref _ :: t => mm_okv t
  | _ => false
/-- the object that an instance method is called on is of its class -/
noncomputable def mm_rc (M : mm_M) (y : Nat) (as : List Value) : Bool := mm_okv as && Nat.ble (mm_sl as).length (mm_mx y) && bif Nat.beq (mm_kc y) 99 then true else (match as with
  | .ref a :: _ => mm_isObj M a (mm_kc y)
  | _ => false)
noncomputable def mm_mark (M : mm_M) : mm_M := ((M.1.1, (M.1.2.1 + 1, M.1.2.2.1 + 6, 1)), M.2)
/-- the law's look: 1 where FIELD isn't one, 2 where WHAT isn't, else 0 and what was told -/
noncomputable def mm_look (M : mm_M) (as : List Value) : Option (Option Value × mm_M) := match as with
  | [.ref x, .int f, .int w, .ref o] => match mm_isObj M x 10 && mm_isObj M o 101 && Nat.beq (M.1.1.2.2 o) 1, M.2.2.2 x 8 with
    | true, some p => bif mm_isObj M p 5 then (if f < 0 then some (some (.int 1), mm_mark M) else if M.2.1 p 2 ≤ f then some (some (.int 1), mm_mark M)
        else if w = 0 ∨ w = 1 ∨ w = 2 ∨ w = 3 then (match M.2.2.2 p (6 + w.toNatClampNeg) with
          | some q => bif mm_isObj M q 100 && Nat.blt f.toNatClampNeg (M.1.1.2.2 q) then some (some (.int 0), mm_setL (mm_mark M) o 0 (M.2.1 q f.toNatClampNeg).toInt64) else none
          | none => none)
        else some (some (.int 2), mm_mark M)) else none
    | _, _ => none
  | _ => none
theorem mm_look_I {M M1 : mm_M} {as : List Value} {r : Option Value} (h : mm_look M as = some (r, M1)) : ∃ x f w o p, as = [.ref x, .int f, .int w, .ref o] ∧ mm_isObj M x 10 = true ∧ mm_isObj M o 101 = true ∧ M.1.1.2.2 o = 1 ∧ M.2.2.2 x 8 = some p ∧ mm_isObj M p 5 = true ∧ (((f < 0 ∨ M.2.1 p 2 ≤ f) ∧ r = some (.int 1) ∧ M1 = mm_mark M) ∨ ((¬ f < 0 ∧ ¬ M.2.1 p 2 ≤ f) ∧ (w = 0 ∨ w = 1 ∨ w = 2 ∨ w = 3) ∧ ∃ q, M.2.2.2 p (6 + w.toNatClampNeg) = some q ∧ mm_isObj M q 100 = true ∧ f.toNatClampNeg < M.1.1.2.2 q ∧ r = some (.int 0) ∧ M1 = mm_setL (mm_mark M) o 0 (M.2.1 q f.toNatClampNeg).toInt64) ∨ ((¬ f < 0 ∧ ¬ M.2.1 p 2 ≤ f) ∧ ¬ (w = 0 ∨ w = 1 ∨ w = 2 ∨ w = 3) ∧ r = some (.int 2) ∧ M1 = mm_mark M)) := by
  unfold mm_look at h
  split at h
  · rename_i x f w o
    split at h
    · rename_i p h1 h2
      rw [Bool.and_eq_true, Bool.and_eq_true] at h1
      cases h3 : mm_isObj M p 5 with
      | false => rw [h3] at h; cases h
      | true =>
        rw [h3, cond_true] at h
        refine ⟨x, f, w, o, p, rfl, h1.1.1, h1.1.2, Nat.eq_of_beq_eq_true h1.2, h2, h3, ?_⟩
        by_cases g1 : f < 0
        · rw [if_pos g1] at h
          cases h
          exact Or.inl ⟨Or.inl g1, rfl, rfl⟩
        · rw [if_neg g1] at h
          by_cases g2 : M.2.1 p 2 ≤ f
          · rw [if_pos g2] at h
            cases h
            exact Or.inl ⟨Or.inr g2, rfl, rfl⟩
          · rw [if_neg g2] at h
            by_cases g3 : w = 0 ∨ w = 1 ∨ w = 2 ∨ w = 3
            · rw [if_pos g3] at h
              cases hq : M.2.2.2 p (6 + w.toNatClampNeg) with
              | none => rw [hq] at h; cases h
              | some q =>
                rw [hq] at h
                simp only [] at h
                cases g4 : (mm_isObj M q 100 && Nat.blt f.toNatClampNeg (M.1.1.2.2 q)) with
                | false => rw [g4, cond_false] at h; cases h
                | true =>
                  rw [g4, cond_true] at h
                  cases h
                  rw [Bool.and_eq_true] at g4
                  exact Or.inr (Or.inl ⟨⟨g1, g2⟩, g3, q, rfl, g4.1, Nat.le_of_ble_eq_true g4.2, rfl, rfl⟩)
            · rw [if_neg g3] at h
              cases h
              exact Or.inr (Or.inr ⟨⟨g1, g2⟩, g3, rfl, rfl⟩)
    · cases h
  · cases h
noncomputable def mm_run (X : mm_X) : Nat → Nat → Nat → Nat → List Value → List Value → mm_M → Option (Option Value × mm_M)
  | 0, _, _, _, _, _, _ => none
  | n + 1, d, mi, pc, ls, st, M => match mm_code mi pc with
    | none => none
    | some q => mm_stepK X q pc ls st M (fun o => match o with
      | .inl (pc', ls', st', M') => mm_run X n d mi pc' ls' st' M'
      | .inr (.inr r) => some (r, M)
      | .inr (.inl (y, as, rest)) => match d, Nat.ble (mm_w8 rest) 8 with
        | d' + 1, true => match (bif Nat.beq y 998 then mm_look M as else bif mm_rc M y as then mm_run X n d' y 0 (mm_entry y as) [] M else none) with
          | none => none
          | some (r, M') => mm_run X n (d' + 1) mi (pc + 3) ls (r.toList ++ rest) M'
        | _, _ => none) none
/-- TOTAL: it ends, and then Q -/
noncomputable def mm_T (X : mm_X) (d mi pc : Nat) (ls st : List Value) (M : mm_M) (Q : Option Value → mm_M → Prop) : Prop := ∃ n r M', mm_run X n d mi pc ls st M = some (r, M') ∧ Q r M'
end
section
/-! THE SMALL MACHINE'S CELLS IN THE HEAP: cell a lies at B + a; rows from outside at E 0 .. E 3 -/
noncomputable def mm_ad (B : Nat) (E : Nat → Nat) (a : Nat) : Nat := if mm_ext ≤ a then E (a - mm_ext) else B + a
noncomputable def mm_tr (B : Nat) (E : Nat → Nat) (v : Value) : Value := match v with
  | .ref a => .ref (mm_ad B E a)
  | w => w
noncomputable def mm_tk (t : FieldType) : Nat := match t with
  | .int => 0
  | .boolean => 1
  | .long => 2
  | _ => 3
/-- the kind of field k of the class c -/
noncomputable def mm_fk (c k : Nat) : Nat := mm_tk (mm_ty c k)
/-- field k of the object a of the class c -/
noncomputable def rl_V (B : Nat) (M : mm_M) (c a k : Nat) : Value := match mm_fk c k with
  | 0 => .int (M.2.1 a k)
  | 1 => .int (M.2.1 a k)
  | 2 => .long (M.2.2.1 a k)
  | _ => va_rf ((M.2.2.2 a k).map (B + ·))
noncomputable def rl_at (D : va_G) (U : State) (B : Nat) (M : mm_M) (H : Heap) (a : Nat) : Prop :=
  (M.1.1.2.1 a = 100 → ∃ cA, ArrOfT U cA .int ∧ H[B + a]? = some (arrV cA (M.1.1.2.2 a) (fun j => .int (M.2.1 a j)))) ∧
  (M.1.1.2.1 a = 101 → ∃ cA, ArrOfT U cA .long ∧ H[B + a]? = some (arrV cA (M.1.1.2.2 a) (fun j => .long (M.2.2.1 a j)))) ∧
  (M.1.1.2.1 a = 102 → ∃ cA, ArrOfT U cA .boolean ∧ H[B + a]? = some (arrV cA (M.1.1.2.2 a) (fun j => .int (M.2.1 a j)))) ∧
  (M.1.1.2.1 a = 103 → ∃ cA, ArrOfT U cA .byte ∧ H[B + a]? = some (arrV cA (M.1.1.2.2 a) (fun j => .int (M.2.1 a j)))) ∧
  (M.1.1.2.1 a = 104 → ∃ cA, ArrOfT U cA (.array .int) ∧ H[B + a]? = some (arrV cA (M.1.1.2.2 a) (fun j => va_rf ((M.2.2.2 a j).map (B + ·))))) ∧
  (M.1.1.2.1 a < mm_ncl → t_OB (B + a) (D.1 (M.1.1.2.1 a)) (mm_tn (M.1.1.2.1 a)) (D.2 (M.1.1.2.1 a)) H (rl_V B M (M.1.1.2.1 a) a))
noncomputable def rl (D : va_G) (U : State) (B : Nat) (M : mm_M) (H : Heap) : Prop :=
  (B + M.1.1.1 ≤ H.size ∧ (M.1.2.2.2 = 0 → H.size = B + M.1.1.1) ∧ M.1.1.1 ≤ mm_ext) ∧ (∀ a, a < M.1.1.1 → rl_at D U B M H a) ∧ (∀ a i, M.1.1.1 ≤ a → M.2.1 a i = 0 ∧ M.2.2.1 a i = 0 ∧ M.2.2.2 a i = none) ∧ ∀ a i y, M.2.2.2 a i = some y → y < M.1.1.1
theorem rl_at.moved {D : va_G} {u U : State} {B : Nat} {M : mm_M} {H : Heap} {a : Nat} (hvm : u.vm.Alike U.vm) (h : rl_at D u B M H a) : rl_at D U B M H a := by
  obtain ⟨h1, h2, h3, h4, h5, h6⟩ := h
  refine ⟨fun q => ?_, fun q => ?_, fun q => ?_, fun q => ?_, fun q => ?_, h6⟩
  · obtain ⟨c, e1, e2⟩ := h1 q; exact ⟨c, arrOfT_moved hvm e1, e2⟩
  · obtain ⟨c, e1, e2⟩ := h2 q; exact ⟨c, arrOfT_moved hvm e1, e2⟩
  · obtain ⟨c, e1, e2⟩ := h3 q; exact ⟨c, arrOfT_moved hvm e1, e2⟩
  · obtain ⟨c, e1, e2⟩ := h4 q; exact ⟨c, arrOfT_moved hvm e1, e2⟩
  · obtain ⟨c, e1, e2⟩ := h5 q; exact ⟨c, arrOfT_moved hvm e1, e2⟩
theorem rl.moved {D : va_G} {u U : State} {B : Nat} {M : mm_M} {H : Heap} (hvm : u.vm.Alike U.vm) (h : rl D u B M H) : rl D U B M H := ⟨h.1, fun a ha => (h.2.1 a ha).moved hvm, h.2.2⟩
theorem rl_at.kept {D : va_G} {U : State} {B : Nat} {M : mm_M} {H H1 : Heap} {a : Nat} (h : rl_at D U B M H a) (hq : H1[B + a]? = H[B + a]?) : rl_at D U B M H1 a := by
  obtain ⟨h1, h2, h3, h4, h5, h6⟩ := h
  refine ⟨fun q => ?_, fun q => ?_, fun q => ?_, fun q => ?_, fun q => ?_, fun hh => (h6 hh).kept hq⟩
  · obtain ⟨c, e1, e2⟩ := h1 q; exact ⟨c, e1, hq.trans e2⟩
  · obtain ⟨c, e1, e2⟩ := h2 q; exact ⟨c, e1, hq.trans e2⟩
  · obtain ⟨c, e1, e2⟩ := h3 q; exact ⟨c, e1, hq.trans e2⟩
  · obtain ⟨c, e1, e2⟩ := h4 q; exact ⟨c, e1, hq.trans e2⟩
  · obtain ⟨c, e1, e2⟩ := h5 q; exact ⟨c, e1, hq.trans e2⟩
/-- the cell a is the same in two memories -/
theorem rl_at.to {D : va_G} {U : State} {B : Nat} {M M1 : mm_M} {H : Heap} {a : Nat} (h : rl_at D U B M H a) (ht : M1.1.1.2.1 a = M.1.1.2.1 a) (hl : M1.1.1.2.2 a = M.1.1.2.2 a) (hi : ∀ j, M1.2.1 a j = M.2.1 a j) (hj : ∀ j, M1.2.2.1 a j = M.2.2.1 a j) (hr : ∀ j, M1.2.2.2 a j = M.2.2.2 a j) : rl_at D U B M1 H a := by
  have e1 : M1.2.1 a = M.2.1 a := funext hi
  have e2 : M1.2.2.1 a = M.2.2.1 a := funext hj
  have e3 : M1.2.2.2 a = M.2.2.2 a := funext hr
  have ev : ∀ c : Nat, rl_V B M1 c a = rl_V B M c a := fun c => by funext k; unfold rl_V; rw [e1, e2, e3]
  unfold rl_at
  rw [ht, hl, e1, e2, e3]
  obtain ⟨h1, h2, h3, h4, h5, h6⟩ := h
  exact ⟨h1, h2, h3, h4, h5, fun hq => by rw [ev]; exact h6 hq⟩
/-! locals -/
theorem mm_set_len : ∀ (ls : List Value) (k : Nat) (v : Value), (mm_set ls k v).length = ls.length
  | [], _, _ => rfl
  | _ :: _, 0, _ => rfl
  | _ :: t, k + 1, v => by simp [mm_set, mm_set_len t k v]
theorem mm_at_set : ∀ (ls : List Value) (i : Nat) (v : Value) (k : Nat), mm_at (mm_set ls i v) k = if k = i ∧ i < ls.length then v else mm_at ls k
  | [], i, v, k => by simp [mm_set, mm_at]
  | w :: t, 0, v, 0 => by simp [mm_set, mm_at]
  | w :: t, 0, v, k + 1 => by simp [mm_set, mm_at]
  | w :: t, i + 1, v, 0 => by simp [mm_set, mm_at]
  | w :: t, i + 1, v, k + 1 => by simp [mm_set, mm_at, mm_at_set t i v k]
noncomputable def mm_cl1 (B : Nat) (E : Nat → Nat) (n k : Nat) (v w : Value) : Option (Nat × Value) := match v, w with
  | .int x, _ => some (k, .int x)
  | .ref a, _ => some (k, .ref (mm_ad B E a))
  | .long x, .null => if k + 1 < n then some (k, .long x) else none
  | _, _ => none
noncomputable def mm_cl (B : Nat) (E : Nat → Nat) (ls : List Value) : List (Nat × Value) := (List.range ls.length).filterMap (fun k => mm_cl1 B E ls.length k (mm_at ls k) (mm_at ls (k + 1)))
theorem mm_cl_mem {B : Nat} {E : Nat → Nat} {ls : List Value} {q : Nat × Value} : q ∈ mm_cl B E ls ↔ q.1 < ls.length ∧ mm_cl1 B E ls.length q.1 (mm_at ls q.1) (mm_at ls (q.1 + 1)) = some q := by
  unfold mm_cl
  rw [List.mem_filterMap]
  constructor
  · rintro ⟨k, hk, h⟩
    have hk' := List.mem_range.mp hk
    have e : k = q.1 := by
      unfold mm_cl1 at h
      split at h
      · cases h; rfl
      · cases h; rfl
      · split at h
        · cases h; rfl
        · cases h
      · cases h
    subst e
    exact ⟨hk', h⟩
  · rintro ⟨h1, h2⟩
    exact ⟨q.1, List.mem_range.mpr h1, h2⟩
noncomputable def lvR (B : Nat) (E : Nat → Nat) (lsA : Array Slot) (nL : Nat) (ls : List Value) : Prop := ls.length = nL ∧ lv_has lsA nL (mm_cl B E ls)
theorem lvR.i {B : Nat} {E : Nat → Nat} {lsA : Array Slot} {nL : Nat} {ls : List Value} (h : lvR B E lsA nL ls) {k : Nat} {x : Int32} (hk : mm_at ls k = .int x) : lsA[k]? = some (.val (.int x)) := by
  refine h.2.2.2 (k, .int x) (mm_cl_mem.mpr ⟨?_, by simp only [hk]; rfl⟩)
  rcases Nat.lt_or_ge k ls.length with q | q
  · exact q
  · have : ∀ (l : List Value) (j : Nat), l.length ≤ j → mm_at l j = .null := by
      intro l
      induction l with
      | nil => intro j _; cases j <;> rfl
      | cons a t ih => intro j hj; cases j with
        | zero => simp at hj
        | succ j => exact ih j (by simpa using hj)
    rw [this ls k q] at hk
    cases hk
theorem lvR.r {B : Nat} {E : Nat → Nat} {lsA : Array Slot} {nL : Nat} {ls : List Value} (h : lvR B E lsA nL ls) {k : Nat} {x : Nat} (hk : mm_at ls k = .ref x) : lsA[k]? = some (.val (.ref (mm_ad B E x))) := by
  refine h.2.2.2 (k, .ref (mm_ad B E x)) (mm_cl_mem.mpr ⟨?_, by simp only [hk]; rfl⟩)
  rcases Nat.lt_or_ge k ls.length with q | q
  · exact q
  · have : ∀ (l : List Value) (j : Nat), l.length ≤ j → mm_at l j = .null := by
      intro l
      induction l with
      | nil => intro j _; cases j <;> rfl
      | cons a t ih => intro j hj; cases j with
        | zero => simp at hj
        | succ j => exact ih j (by simpa using hj)
    rw [this ls k q] at hk
    cases hk
end
section
/-! WHAT THE TABLES MUST SAY OF A ROW OF CODE: decided row by row -/
noncomputable def ws_all : List Cond := lw_tbl.filter goodWord
noncomputable def mm_sn (a : Nat) : String := match a with
  | 1 => "LANGUAGE_WORDS"
  | 2 => "SUMS_CODES"
  | _ => "PAIRS_CODES"
noncomputable def mm_ac (t : ArrayType) : Nat := match t with
  | .int => 100
  | .long => 101
  | .boolean => 102
  | .byte => 103
  | _ => 0
/-- the words behind the numbers of a link -/
noncomputable def mm_lc (o : Nat) (d : Nat × Nat × Nat × Nat) : Cond := match d with
  | (0, i, c, k) => .fieldLink (mm_on o) i (mm_tf c k).1 (mm_tf c k).2.1 (mm_tf c k).2.2.1
  | (1, i, y, _) => .methodLink (mm_on o) i (mm_y y)
  | (2, i, c, _) => .classLink (mm_on o) i (mm_on c)
  | (3, i, a, _) => .constant (mm_on o) i (mm_i a 0)
  | (23, i, a, _) => .constant (mm_on o) i (mm_i a 1)
  | (4, i, a, _) => .constantLong (mm_on o) i (mm_l a 0)
  | (24, i, a, _) => .constantLong (mm_on o) i (mm_l a 1)
  | (5, i, _, _) => .methodLink (mm_on o) i objectInit
  | (7, i, _, _) => .methodLink (mm_on o) i yL_look
  | (10, i, _, _) => .methodLink (mm_on o) i Lib.Math.min.name
  | (11, i, _, _) => .methodLink (mm_on o) i Lib.Math.max.name
  | (_, i, _, _) => .classLink (mm_on o) i "[[I"
theorem mm_lc_good (o : Nat) (d : Nat × Nat × Nat × Nat) : goodWord (mm_lc o d) = true := by
  unfold mm_lc
  split <;> rfl
noncomputable def mm_nc (d : Nat × Nat × Nat × Nat) : Cond := match d with
  | (8, o, i, a) => .fieldLinkNest (mm_on o) i "NotchedCards" (mm_sn a) "[I" "NotchedCards"
  | (_, o, i, y) => .methodLinkNest (mm_on o) i (mm_y y) "NotchedCards"
noncomputable def mm_cF (mi idx a b : Nat) (ps : List Nat) (put : Bool) : Bool := match ps with
  | [kd, pl] => Nat.blt a mm_ncl && Nat.blt b (mm_tn a) && decide ((mm_ln (mm_ow mi))[pl]? = some (0, idx, a, b)) && Nat.beq kd (mm_fk a b) && (!put || !(mm_tf a b).2.2.2 || (mm_ii mi && Nat.beq a (mm_ow mi)))
  | _ => false
noncomputable def mm_cT (pc : Nat) : List Int → List Nat → Bool
  | [], [] => true
  | o :: os, t :: ts => decide ((pc : Int) + o = (t : Int)) && mm_cT pc os ts
  | _, _ => false
noncomputable def mm_cL (mi pl : Nat) (d : Nat × Nat × Nat × Nat) : Bool := decide ((mm_ln (mm_ow mi))[pl]? = some d)
/-- a call's link: by the class's own links, or a nest mate's -/
noncomputable def mm_cM (mi idx a : Nat) (ps : List Nat) : Bool := match ps with
  | [pl, 0] => mm_cL mi pl (1, idx, a, 0)
  | [pl, 1] => decide (nn_0[pl]? = some (9, mm_ow mi, idx, a))
  | _ => false
noncomputable def mm_cx (mi pc : Nat) (q : mm_R) : Bool :=
  let len := q.2.1
  let a := q.2.2.1
  let b := q.2.2.2.1
  let ps := q.2.2.2.2
  match q.1 with
  | .aload _ | .iload _ | .lload _ | .istore _ | .astore _ | .lstore _ => decide (len = 2)
  | .iinc _ n => decide (len = 3) && decide (Int32.ofInt n = mm_i a b)
  | .iconst n => decide (len = 1) && decide (Int32.ofInt n = mm_i a b)
  | .bipush n => decide (len = 2) && decide ((Int8.ofInt n).toInt32 = mm_i a b)
  | .sipush n => decide (len = 3) && decide ((Int16.ofInt n).toInt32 = mm_i a b)
  | .lconst n => decide (len = 1) && decide (Int64.ofNat (n : Nat) = mm_l a b)
  | .ldc idx => decide (len = 2) && (match ps with | [pl] => (Nat.beq b 0 && mm_cL mi pl (3, idx, a, 0)) || (Nat.beq b 1 && mm_cL mi pl (23, idx, a, 0)) | _ => false)
  | .ldc_w idx => decide (len = 3) && (match ps with | [pl] => (Nat.beq b 0 && mm_cL mi pl (3, idx, a, 0)) || (Nat.beq b 1 && mm_cL mi pl (23, idx, a, 0)) | _ => false)
  | .ldc2_w idx => decide (len = 3) && (match ps with | [pl] => (Nat.beq b 0 && mm_cL mi pl (4, idx, a, 0)) || (Nat.beq b 1 && mm_cL mi pl (24, idx, a, 0)) | _ => false)
  | .goto off => decide (len = 3) && decide ((pc : Int) + off = (a : Int))
  | .ifCond _ off => decide (len = 3) && decide ((pc : Int) + off = (a : Int))
  | .if_icmp _ off => decide (len = 3) && decide ((pc : Int) + off = (a : Int))
  | .tableswitch d _ _ os => decide ((pc : Int) + d = (a : Int)) && mm_cT pc os.toList ps
  | .getfield idx => decide (len = 3) && mm_cF mi idx a b ps false
  | .putfield idx => decide (len = 3) && mm_cF mi idx a b ps true
  | .getstatic idx => decide (len = 3) && decide (1 ≤ a) && decide (a ≤ 3) && (match ps with | [pl] => decide (nn_0[pl]? = some (8, mm_ow mi, idx, a)) | _ => false)
  | .new idx => decide (len = 3) && (match ps with | [pl] => Nat.blt a mm_ncl && mm_cL mi pl (2, idx, a, 0) && Nat.beq b (mm_tn a) | _ => false)
  | .newarray t => decide (len = 2) && decide (a = mm_ac t) && decide (a ≠ 0)
  | .multianewarray idx d => decide (len = 4) && decide (d = 2) && (match ps with | [pl] => mm_cL mi pl (6, idx, 0, 0) | _ => false)
  | .invokevirtual idx => decide (len = 3) && Nat.blt a mm_nm && !Nat.beq a 0 && !Nat.beq (mm_kc a) 99 && !mm_ii a && mm_cM mi idx a ps && Nat.beq b (mm_pn a + 1)
  | .invokespecial idx => decide (len = 3) && (bif Nat.beq a 999 then (match ps with | [pl, 0] => mm_cL mi pl (5, idx, 0, 0) | _ => false) else Nat.blt a mm_nm && !Nat.beq a 0 && !Nat.beq (mm_kc a) 99 && mm_ii a && mm_cM mi idx a ps && Nat.beq b (mm_pn a + 1))
  | .invokestatic idx => decide (len = 3) && (bif Nat.beq a 996 then (match ps with | [pl, 0] => mm_cL mi pl (10, idx, 0, 0) | _ => false) else bif Nat.beq a 997 then (match ps with | [pl, 0] => mm_cL mi pl (11, idx, 0, 0) | _ => false) else bif Nat.beq a 998 then (match ps with | [pl, 0] => mm_cL mi pl (7, idx, 0, 0) | _ => false) && Nat.beq b 4 && Nat.beq (mm_ow mi) 12 else Nat.blt a mm_nm && !Nat.beq a 0 && Nat.beq (mm_kc a) 99 && mm_cM mi idx a ps && Nat.beq b (mm_pn a))
  | .ireturn => decide (len = 1) && decide ((a = 0 ∧ mm_rt mi = some .int) ∨ (a = 1 ∧ mm_rt mi = some .boolean))
  | .lreturn => decide (len = 1) && decide (mm_rt mi = some .long)
  | .return_ => decide (len = 1) && decide (mm_rt mi = none)
  | _ => decide (len = 1)
noncomputable def mm_ck (mi pc : Nat) (q : mm_R) : Bool := decide (decode (mm_cc mi) pc = .ok (q.1, q.2.1)) && mm_cx mi pc q
noncomputable def mm_cko (mi : Nat) (f : Nat → Option mm_R) (pc : Nat) : Bool := match f pc with
  | none => true
  | some q => mm_ck mi pc q
/-- a piece of a method, from lo on, n bytes -/
noncomputable def mm_ckp (mi : Nat) (f : Nat → Option mm_R) : Nat → Nat → Bool
  | _, 0 => true
  | lo, n + 1 => mm_cko mi f lo && mm_ckp mi f (lo + 1) n
theorem mm_ckp_at {mi : Nat} {f : Nat → Option mm_R} : ∀ {n lo : Nat}, mm_ckp mi f lo n = true → ∀ pc q, lo ≤ pc → pc < lo + n → f pc = some q → mm_ck mi pc q = true
  | 0, lo, _, pc, q, h1, h2, _ => absurd h2 (by omega)
  | n + 1, lo, h, pc, q, h1, h2, h3 => by
    simp only [mm_ckp, Bool.and_eq_true] at h
    rcases Nat.eq_or_lt_of_le h1 with e | e
    · subst e
      have h4 := h.1
      unfold mm_cko at h4
      rw [h3] at h4
      exact h4
    · exact mm_ckp_at h.2 pc q e (by omega) h3
/-- a method's own words -/
noncomputable def mm_mw (mi : Nat) : List Cond := .code (mm_y mi) (mm_cc mi) (mm_mx mi) (mm_rt mi) :: .initialized (mm_on (mm_ow mi)) :: (bif Nat.beq (mm_kc mi) 99 then [.static (mm_y mi)] else .instanceMethod (mm_y mi) :: (bif mm_ii mi then [] else [.selects (mm_on (mm_ow mi)) (mm_y mi) (mm_y mi)]))
/-- what is decided of a method by numbers -/
noncomputable def mm_m1 (mi : Nat) : Bool := (Nat.beq (mm_kc mi) 99 || (Nat.beq (mm_kc mi) (mm_ow mi) && Nat.blt (mm_ow mi) mm_ncl)) && (!mm_ii mi || decide (mm_rt mi = none)) && Nat.ble (mm_mx mi) 20
noncomputable def mm_all (P : Nat → Prop) : Nat → Nat → Prop
  | _, 0 => True
  | lo, n + 1 => P lo ∧ mm_all P (lo + 1) n
theorem mm_all_at {P : Nat → Prop} : ∀ {n lo : Nat}, mm_all P lo n → ∀ i, lo ≤ i → i < lo + n → P i
  | 0, _, _, _, h1, h2 => absurd h2 (by omega)
  | _ + 1, lo, h, i, h1, h2 => by
    rcases Nat.eq_or_lt_of_le h1 with e | e
    · subst e; exact h.1
    · exact mm_all_at h.2 i e (by omega)
theorem tb_of {a b : List Cond} {w : Cond} (h : w ∈ b) : w ∈ a ++ b := List.mem_append_right _ h
end
section
/-! A METHOD'S BYTES ARE READ ONCE: the commonest instructions by their bytes, the others by decode -/
noncomputable def dy_at (code : ByteArray) (p b : Nat) : Prop := ∃ h : p < code.size, (code[p]'h).toNat = b
theorem dy_u1 {code : ByteArray} {p b : Nat} (h : dy_at code p b) : (Jvm.ClassFile.Reader.u1 : Jvm.ClassFile.Decoder Nat) code p = .ok (b, p + 1) := by
  obtain ⟨h, e⟩ := h
  subst e
  show (dite (p < code.size) (fun h => (do set (p + 1); pure (code[p]'h).toNat : Jvm.ClassFile.Decoder Nat)) (fun _ => throw (Jvm.ClassFile.HasTruncated.truncated p))) code p = _
  rw [dif_pos h]
  rfl
theorem dy_bind {α β : Type} {m : Jvm.ClassFile.Decoder α} {f : α → Jvm.ClassFile.Decoder β} {code : ByteArray} {p p1 : Nat} {x : α} (h : m code p = .ok (x, p1)) : (m >>= f) code p = f x code p1 := by
  show (Except.bind (m code p) (fun q => f q.1 code q.2)) = _
  rw [h]
  rfl
theorem dy_map {α β : Type} {m : Jvm.ClassFile.Decoder α} {f : α → β} {code : ByteArray} {p p1 : Nat} {x : α} (h : m code p = .ok (x, p1)) : (f <$> m) code p = .ok (f x, p1) := by
  show (Except.bind (m code p) (fun q => Except.ok (f q.1, q.2))) = _
  rw [h]
  rfl
theorem dy_u2 {code : ByteArray} {p b c : Nat} (h : dy_at code p b) (h2 : dy_at code (p + 1) c) : (Jvm.ClassFile.Reader.u2 : Jvm.ClassFile.Decoder Nat) code p = .ok (b * 256 + c, p + 2) := by
  unfold Jvm.ClassFile.Reader.u2
  rw [dy_bind (dy_u1 h), dy_bind (dy_u1 h2)]
  rfl
theorem dy_s1 {code : ByteArray} {p b : Nat} (h : dy_at code p b) : (Jvm.ClassFile.Reader.s1 : Jvm.ClassFile.Decoder Int) code p = .ok (Jvm.ClassFile.Reader.signed 8 b, p + 1) := by
  unfold Jvm.ClassFile.Reader.s1
  exact dy_map (dy_u1 h)
theorem dy_s2 {code : ByteArray} {p b c : Nat} (h : dy_at code p b) (h2 : dy_at code (p + 1) c) : (Jvm.ClassFile.Reader.s2 : Jvm.ClassFile.Decoder Int) code p = .ok (Jvm.ClassFile.Reader.signed 16 (b * 256 + c), p + 2) := by
  unfold Jvm.ClassFile.Reader.s2
  exact dy_map (dy_u2 h h2)
theorem dy_dec {code : ByteArray} {pc n : Nat} {i : Instr} (h : Jvm.ClassFile.Decoder.instr pc code pc = .ok (i, pc + n)) : decode code pc = .ok (i, n) := by
  show (Except.bind (Jvm.ClassFile.Decoder.instr pc code pc) (fun q => Except.ok (q.1, q.2 - pc))) = _
  rw [h]
  show Except.ok (i, pc + n - pc) = _
  rw [Nat.add_sub_cancel_left]
section DQ
variable {code : ByteArray} {pc : Nat}
set_option maxRecDepth 30000 in
theorem dq_iload_n0 (h : dy_at code pc 26) : decode code pc = .ok (.iload_n 0, 1) := dy_dec (by unfold Jvm.ClassFile.Decoder.instr; rw [dy_bind (dy_u1 h)]; rfl)
set_option maxRecDepth 30000 in
theorem dq_iload_n1 (h : dy_at code pc 27) : decode code pc = .ok (.iload_n 1, 1) := dy_dec (by unfold Jvm.ClassFile.Decoder.instr; rw [dy_bind (dy_u1 h)]; rfl)
set_option maxRecDepth 30000 in
theorem dq_iload_n2 (h : dy_at code pc 28) : decode code pc = .ok (.iload_n 2, 1) := dy_dec (by unfold Jvm.ClassFile.Decoder.instr; rw [dy_bind (dy_u1 h)]; rfl)
set_option maxRecDepth 30000 in
theorem dq_iload_n3 (h : dy_at code pc 29) : decode code pc = .ok (.iload_n 3, 1) := dy_dec (by unfold Jvm.ClassFile.Decoder.instr; rw [dy_bind (dy_u1 h)]; rfl)
theorem dq_iload_n (k : Fin 4) (h : dy_at code pc (26 + k.val)) : decode code pc = .ok (.iload_n k, 1) := by
  obtain ⟨v, hv⟩ := k
  rcases (show v = 0 ∨ v = 1 ∨ v = 2 ∨ v = 3 by omega) with e | e | e | e <;> subst e
  · exact dq_iload_n0 h
  · exact dq_iload_n1 h
  · exact dq_iload_n2 h
  · exact dq_iload_n3 h
set_option maxRecDepth 30000 in
theorem dq_aload_n0 (h : dy_at code pc 42) : decode code pc = .ok (.aload_n 0, 1) := dy_dec (by unfold Jvm.ClassFile.Decoder.instr; rw [dy_bind (dy_u1 h)]; rfl)
set_option maxRecDepth 30000 in
theorem dq_aload_n1 (h : dy_at code pc 43) : decode code pc = .ok (.aload_n 1, 1) := dy_dec (by unfold Jvm.ClassFile.Decoder.instr; rw [dy_bind (dy_u1 h)]; rfl)
set_option maxRecDepth 30000 in
theorem dq_aload_n2 (h : dy_at code pc 44) : decode code pc = .ok (.aload_n 2, 1) := dy_dec (by unfold Jvm.ClassFile.Decoder.instr; rw [dy_bind (dy_u1 h)]; rfl)
set_option maxRecDepth 30000 in
theorem dq_aload_n3 (h : dy_at code pc 45) : decode code pc = .ok (.aload_n 3, 1) := dy_dec (by unfold Jvm.ClassFile.Decoder.instr; rw [dy_bind (dy_u1 h)]; rfl)
theorem dq_aload_n (k : Fin 4) (h : dy_at code pc (42 + k.val)) : decode code pc = .ok (.aload_n k, 1) := by
  obtain ⟨v, hv⟩ := k
  rcases (show v = 0 ∨ v = 1 ∨ v = 2 ∨ v = 3 by omega) with e | e | e | e <;> subst e
  · exact dq_aload_n0 h
  · exact dq_aload_n1 h
  · exact dq_aload_n2 h
  · exact dq_aload_n3 h
set_option maxRecDepth 30000 in
theorem dq_istore_n0 (h : dy_at code pc 59) : decode code pc = .ok (.istore_n 0, 1) := dy_dec (by unfold Jvm.ClassFile.Decoder.instr; rw [dy_bind (dy_u1 h)]; rfl)
set_option maxRecDepth 30000 in
theorem dq_istore_n1 (h : dy_at code pc 60) : decode code pc = .ok (.istore_n 1, 1) := dy_dec (by unfold Jvm.ClassFile.Decoder.instr; rw [dy_bind (dy_u1 h)]; rfl)
set_option maxRecDepth 30000 in
theorem dq_istore_n2 (h : dy_at code pc 61) : decode code pc = .ok (.istore_n 2, 1) := dy_dec (by unfold Jvm.ClassFile.Decoder.instr; rw [dy_bind (dy_u1 h)]; rfl)
set_option maxRecDepth 30000 in
theorem dq_istore_n3 (h : dy_at code pc 62) : decode code pc = .ok (.istore_n 3, 1) := dy_dec (by unfold Jvm.ClassFile.Decoder.instr; rw [dy_bind (dy_u1 h)]; rfl)
theorem dq_istore_n (k : Fin 4) (h : dy_at code pc (59 + k.val)) : decode code pc = .ok (.istore_n k, 1) := by
  obtain ⟨v, hv⟩ := k
  rcases (show v = 0 ∨ v = 1 ∨ v = 2 ∨ v = 3 by omega) with e | e | e | e <;> subst e
  · exact dq_istore_n0 h
  · exact dq_istore_n1 h
  · exact dq_istore_n2 h
  · exact dq_istore_n3 h
set_option maxRecDepth 30000 in
theorem dq_lload_n0 (h : dy_at code pc 30) : decode code pc = .ok (.lload_n 0, 1) := dy_dec (by unfold Jvm.ClassFile.Decoder.instr; rw [dy_bind (dy_u1 h)]; rfl)
set_option maxRecDepth 30000 in
theorem dq_lload_n1 (h : dy_at code pc 31) : decode code pc = .ok (.lload_n 1, 1) := dy_dec (by unfold Jvm.ClassFile.Decoder.instr; rw [dy_bind (dy_u1 h)]; rfl)
set_option maxRecDepth 30000 in
theorem dq_lload_n2 (h : dy_at code pc 32) : decode code pc = .ok (.lload_n 2, 1) := dy_dec (by unfold Jvm.ClassFile.Decoder.instr; rw [dy_bind (dy_u1 h)]; rfl)
set_option maxRecDepth 30000 in
theorem dq_lload_n3 (h : dy_at code pc 33) : decode code pc = .ok (.lload_n 3, 1) := dy_dec (by unfold Jvm.ClassFile.Decoder.instr; rw [dy_bind (dy_u1 h)]; rfl)
theorem dq_lload_n (k : Fin 4) (h : dy_at code pc (30 + k.val)) : decode code pc = .ok (.lload_n k, 1) := by
  obtain ⟨v, hv⟩ := k
  rcases (show v = 0 ∨ v = 1 ∨ v = 2 ∨ v = 3 by omega) with e | e | e | e <;> subst e
  · exact dq_lload_n0 h
  · exact dq_lload_n1 h
  · exact dq_lload_n2 h
  · exact dq_lload_n3 h
set_option maxRecDepth 30000 in
theorem dq_lstore_n0 (h : dy_at code pc 63) : decode code pc = .ok (.lstore_n 0, 1) := dy_dec (by unfold Jvm.ClassFile.Decoder.instr; rw [dy_bind (dy_u1 h)]; rfl)
set_option maxRecDepth 30000 in
theorem dq_lstore_n1 (h : dy_at code pc 64) : decode code pc = .ok (.lstore_n 1, 1) := dy_dec (by unfold Jvm.ClassFile.Decoder.instr; rw [dy_bind (dy_u1 h)]; rfl)
set_option maxRecDepth 30000 in
theorem dq_lstore_n2 (h : dy_at code pc 65) : decode code pc = .ok (.lstore_n 2, 1) := dy_dec (by unfold Jvm.ClassFile.Decoder.instr; rw [dy_bind (dy_u1 h)]; rfl)
set_option maxRecDepth 30000 in
theorem dq_lstore_n3 (h : dy_at code pc 66) : decode code pc = .ok (.lstore_n 3, 1) := dy_dec (by unfold Jvm.ClassFile.Decoder.instr; rw [dy_bind (dy_u1 h)]; rfl)
theorem dq_lstore_n (k : Fin 4) (h : dy_at code pc (63 + k.val)) : decode code pc = .ok (.lstore_n k, 1) := by
  obtain ⟨v, hv⟩ := k
  rcases (show v = 0 ∨ v = 1 ∨ v = 2 ∨ v = 3 by omega) with e | e | e | e <;> subst e
  · exact dq_lstore_n0 h
  · exact dq_lstore_n1 h
  · exact dq_lstore_n2 h
  · exact dq_lstore_n3 h
set_option maxRecDepth 30000 in
theorem dq_iconst2 (h : dy_at code pc 2) : decode code pc = .ok (.iconst (-1), 1) := dy_dec (by unfold Jvm.ClassFile.Decoder.instr; rw [dy_bind (dy_u1 h)]; rfl)
set_option maxRecDepth 30000 in
theorem dq_iconst3 (h : dy_at code pc 3) : decode code pc = .ok (.iconst 0, 1) := dy_dec (by unfold Jvm.ClassFile.Decoder.instr; rw [dy_bind (dy_u1 h)]; rfl)
set_option maxRecDepth 30000 in
theorem dq_iconst4 (h : dy_at code pc 4) : decode code pc = .ok (.iconst 1, 1) := dy_dec (by unfold Jvm.ClassFile.Decoder.instr; rw [dy_bind (dy_u1 h)]; rfl)
set_option maxRecDepth 30000 in
theorem dq_iconst5 (h : dy_at code pc 5) : decode code pc = .ok (.iconst 2, 1) := dy_dec (by unfold Jvm.ClassFile.Decoder.instr; rw [dy_bind (dy_u1 h)]; rfl)
set_option maxRecDepth 30000 in
theorem dq_iconst6 (h : dy_at code pc 6) : decode code pc = .ok (.iconst 3, 1) := dy_dec (by unfold Jvm.ClassFile.Decoder.instr; rw [dy_bind (dy_u1 h)]; rfl)
set_option maxRecDepth 30000 in
theorem dq_iconst7 (h : dy_at code pc 7) : decode code pc = .ok (.iconst 4, 1) := dy_dec (by unfold Jvm.ClassFile.Decoder.instr; rw [dy_bind (dy_u1 h)]; rfl)
set_option maxRecDepth 30000 in
theorem dq_iconst8 (h : dy_at code pc 8) : decode code pc = .ok (.iconst 5, 1) := dy_dec (by unfold Jvm.ClassFile.Decoder.instr; rw [dy_bind (dy_u1 h)]; rfl)
theorem dq_iconst {b : Nat} {n : Int} (h : dy_at code pc b) (hn : n = (b : Int) - 3) (h0 : 2 ≤ b) (h1 : b ≤ 8) : decode code pc = .ok (.iconst n, 1) := by
  rcases (show b = 2 ∨ b = 3 ∨ b = 4 ∨ b = 5 ∨ b = 6 ∨ b = 7 ∨ b = 8 by omega) with e | e | e | e | e | e | e <;> subst e <;> subst hn
  · exact dq_iconst2 h
  · exact dq_iconst3 h
  · exact dq_iconst4 h
  · exact dq_iconst5 h
  · exact dq_iconst6 h
  · exact dq_iconst7 h
  · exact dq_iconst8 h
set_option maxRecDepth 30000 in
theorem dq_iaload (h : dy_at code pc 46) : decode code pc = .ok (.iaload, 1) := dy_dec (by unfold Jvm.ClassFile.Decoder.instr; rw [dy_bind (dy_u1 h)]; rfl)
set_option maxRecDepth 30000 in
theorem dq_iastore (h : dy_at code pc 79) : decode code pc = .ok (.iastore, 1) := dy_dec (by unfold Jvm.ClassFile.Decoder.instr; rw [dy_bind (dy_u1 h)]; rfl)
set_option maxRecDepth 30000 in
theorem dq_iadd (h : dy_at code pc 96) : decode code pc = .ok (.iadd, 1) := dy_dec (by unfold Jvm.ClassFile.Decoder.instr; rw [dy_bind (dy_u1 h)]; rfl)
set_option maxRecDepth 30000 in
theorem dq_isub (h : dy_at code pc 100) : decode code pc = .ok (.isub, 1) := dy_dec (by unfold Jvm.ClassFile.Decoder.instr; rw [dy_bind (dy_u1 h)]; rfl)
set_option maxRecDepth 30000 in
theorem dq_imul (h : dy_at code pc 104) : decode code pc = .ok (.imul, 1) := dy_dec (by unfold Jvm.ClassFile.Decoder.instr; rw [dy_bind (dy_u1 h)]; rfl)
set_option maxRecDepth 30000 in
theorem dq_iand (h : dy_at code pc 126) : decode code pc = .ok (.iand, 1) := dy_dec (by unfold Jvm.ClassFile.Decoder.instr; rw [dy_bind (dy_u1 h)]; rfl)
set_option maxRecDepth 30000 in
theorem dq_ior (h : dy_at code pc 128) : decode code pc = .ok (.ior, 1) := dy_dec (by unfold Jvm.ClassFile.Decoder.instr; rw [dy_bind (dy_u1 h)]; rfl)
set_option maxRecDepth 30000 in
theorem dq_ireturn (h : dy_at code pc 172) : decode code pc = .ok (.ireturn, 1) := dy_dec (by unfold Jvm.ClassFile.Decoder.instr; rw [dy_bind (dy_u1 h)]; rfl)
set_option maxRecDepth 30000 in
theorem dq_dup (h : dy_at code pc 89) : decode code pc = .ok (.dup, 1) := dy_dec (by unfold Jvm.ClassFile.Decoder.instr; rw [dy_bind (dy_u1 h)]; rfl)
set_option maxRecDepth 30000 in
theorem dq_pop (h : dy_at code pc 87) : decode code pc = .ok (.pop, 1) := dy_dec (by unfold Jvm.ClassFile.Decoder.instr; rw [dy_bind (dy_u1 h)]; rfl)
set_option maxRecDepth 30000 in
theorem dq_return_ (h : dy_at code pc 177) : decode code pc = .ok (.return_, 1) := dy_dec (by unfold Jvm.ClassFile.Decoder.instr; rw [dy_bind (dy_u1 h)]; rfl)
set_option maxRecDepth 30000 in
theorem dq_laload (h : dy_at code pc 47) : decode code pc = .ok (.laload, 1) := dy_dec (by unfold Jvm.ClassFile.Decoder.instr; rw [dy_bind (dy_u1 h)]; rfl)
set_option maxRecDepth 30000 in
theorem dq_land (h : dy_at code pc 127) : decode code pc = .ok (.land, 1) := dy_dec (by unfold Jvm.ClassFile.Decoder.instr; rw [dy_bind (dy_u1 h)]; rfl)
set_option maxRecDepth 30000 in
theorem dq_iload {b : Nat} (h : dy_at code pc 21) (h1 : dy_at code (pc + 1) b) : decode code pc = .ok (Instr.iload b, 2) := dy_dec (by unfold Jvm.ClassFile.Decoder.instr; rw [dy_bind (dy_u1 h)]; show (Jvm.ClassFile.Reader.u1 >>= fun x => pure (Instr.iload x) : Jvm.ClassFile.Decoder Instr) code (pc + 1) = _; rw [dy_bind (dy_u1 h1)]; rfl)
set_option maxRecDepth 30000 in
theorem dq_istore {b : Nat} (h : dy_at code pc 54) (h1 : dy_at code (pc + 1) b) : decode code pc = .ok (Instr.istore b, 2) := dy_dec (by unfold Jvm.ClassFile.Decoder.instr; rw [dy_bind (dy_u1 h)]; show (Jvm.ClassFile.Reader.u1 >>= fun x => pure (Instr.istore x) : Jvm.ClassFile.Decoder Instr) code (pc + 1) = _; rw [dy_bind (dy_u1 h1)]; rfl)
set_option maxRecDepth 30000 in
theorem dq_aload {b : Nat} (h : dy_at code pc 25) (h1 : dy_at code (pc + 1) b) : decode code pc = .ok (Instr.aload b, 2) := dy_dec (by unfold Jvm.ClassFile.Decoder.instr; rw [dy_bind (dy_u1 h)]; show (Jvm.ClassFile.Reader.u1 >>= fun x => pure (Instr.aload x) : Jvm.ClassFile.Decoder Instr) code (pc + 1) = _; rw [dy_bind (dy_u1 h1)]; rfl)
set_option maxRecDepth 30000 in
theorem dq_lload {b : Nat} (h : dy_at code pc 22) (h1 : dy_at code (pc + 1) b) : decode code pc = .ok (Instr.lload b, 2) := dy_dec (by unfold Jvm.ClassFile.Decoder.instr; rw [dy_bind (dy_u1 h)]; show (Jvm.ClassFile.Reader.u1 >>= fun x => pure (Instr.lload x) : Jvm.ClassFile.Decoder Instr) code (pc + 1) = _; rw [dy_bind (dy_u1 h1)]; rfl)
set_option maxRecDepth 30000 in
theorem dq_lstore {b : Nat} (h : dy_at code pc 55) (h1 : dy_at code (pc + 1) b) : decode code pc = .ok (Instr.lstore b, 2) := dy_dec (by unfold Jvm.ClassFile.Decoder.instr; rw [dy_bind (dy_u1 h)]; show (Jvm.ClassFile.Reader.u1 >>= fun x => pure (Instr.lstore x) : Jvm.ClassFile.Decoder Instr) code (pc + 1) = _; rw [dy_bind (dy_u1 h1)]; rfl)
set_option maxRecDepth 30000 in
theorem dq_ldc {b : Nat} (h : dy_at code pc 18) (h1 : dy_at code (pc + 1) b) : decode code pc = .ok (Instr.ldc b, 2) := dy_dec (by unfold Jvm.ClassFile.Decoder.instr; rw [dy_bind (dy_u1 h)]; show (Jvm.ClassFile.Reader.u1 >>= fun x => pure (Instr.ldc x) : Jvm.ClassFile.Decoder Instr) code (pc + 1) = _; rw [dy_bind (dy_u1 h1)]; rfl)
set_option maxRecDepth 30000 in
theorem dq_bipush {b : Nat} (h : dy_at code pc 16) (h1 : dy_at code (pc + 1) b) : decode code pc = .ok (Instr.bipush (Jvm.ClassFile.Reader.signed 8 b), 2) := dy_dec (by unfold Jvm.ClassFile.Decoder.instr; rw [dy_bind (dy_u1 h)]; show (Jvm.ClassFile.Reader.s1 >>= fun x => pure (Instr.bipush x) : Jvm.ClassFile.Decoder Instr) code (pc + 1) = _; rw [dy_bind (dy_s1 h1)]; rfl)
set_option maxRecDepth 30000 in
theorem dq_sipush {b c : Nat} (h : dy_at code pc 17) (h1 : dy_at code (pc + 1) b) (h2 : dy_at code (pc + 2) c) : decode code pc = .ok (Instr.sipush (Jvm.ClassFile.Reader.signed 16 (b * 256 + c)), 3) := dy_dec (by unfold Jvm.ClassFile.Decoder.instr; rw [dy_bind (dy_u1 h)]; show (Jvm.ClassFile.Reader.s2 >>= fun x => pure (Instr.sipush x) : Jvm.ClassFile.Decoder Instr) code (pc + 1) = _; rw [dy_bind (dy_s2 h1 h2)]; rfl)
set_option maxRecDepth 30000 in
theorem dq_getfield {b c : Nat} (h : dy_at code pc 180) (h1 : dy_at code (pc + 1) b) (h2 : dy_at code (pc + 2) c) : decode code pc = .ok (Instr.getfield (b * 256 + c), 3) := dy_dec (by unfold Jvm.ClassFile.Decoder.instr; rw [dy_bind (dy_u1 h)]; show (Jvm.ClassFile.Reader.u2 >>= fun x => pure (Instr.getfield x) : Jvm.ClassFile.Decoder Instr) code (pc + 1) = _; rw [dy_bind (dy_u2 h1 h2)]; rfl)
set_option maxRecDepth 30000 in
theorem dq_putfield {b c : Nat} (h : dy_at code pc 181) (h1 : dy_at code (pc + 1) b) (h2 : dy_at code (pc + 2) c) : decode code pc = .ok (Instr.putfield (b * 256 + c), 3) := dy_dec (by unfold Jvm.ClassFile.Decoder.instr; rw [dy_bind (dy_u1 h)]; show (Jvm.ClassFile.Reader.u2 >>= fun x => pure (Instr.putfield x) : Jvm.ClassFile.Decoder Instr) code (pc + 1) = _; rw [dy_bind (dy_u2 h1 h2)]; rfl)
set_option maxRecDepth 30000 in
theorem dq_invokevirtual {b c : Nat} (h : dy_at code pc 182) (h1 : dy_at code (pc + 1) b) (h2 : dy_at code (pc + 2) c) : decode code pc = .ok (Instr.invokevirtual (b * 256 + c), 3) := dy_dec (by unfold Jvm.ClassFile.Decoder.instr; rw [dy_bind (dy_u1 h)]; show (Jvm.ClassFile.Reader.u2 >>= fun x => pure (Instr.invokevirtual x) : Jvm.ClassFile.Decoder Instr) code (pc + 1) = _; rw [dy_bind (dy_u2 h1 h2)]; rfl)
set_option maxRecDepth 30000 in
theorem dq_invokespecial {b c : Nat} (h : dy_at code pc 183) (h1 : dy_at code (pc + 1) b) (h2 : dy_at code (pc + 2) c) : decode code pc = .ok (Instr.invokespecial (b * 256 + c), 3) := dy_dec (by unfold Jvm.ClassFile.Decoder.instr; rw [dy_bind (dy_u1 h)]; show (Jvm.ClassFile.Reader.u2 >>= fun x => pure (Instr.invokespecial x) : Jvm.ClassFile.Decoder Instr) code (pc + 1) = _; rw [dy_bind (dy_u2 h1 h2)]; rfl)
set_option maxRecDepth 30000 in
theorem dq_invokestatic {b c : Nat} (h : dy_at code pc 184) (h1 : dy_at code (pc + 1) b) (h2 : dy_at code (pc + 2) c) : decode code pc = .ok (Instr.invokestatic (b * 256 + c), 3) := dy_dec (by unfold Jvm.ClassFile.Decoder.instr; rw [dy_bind (dy_u1 h)]; show (Jvm.ClassFile.Reader.u2 >>= fun x => pure (Instr.invokestatic x) : Jvm.ClassFile.Decoder Instr) code (pc + 1) = _; rw [dy_bind (dy_u2 h1 h2)]; rfl)
set_option maxRecDepth 30000 in
theorem dq_ldc2_w {b c : Nat} (h : dy_at code pc 20) (h1 : dy_at code (pc + 1) b) (h2 : dy_at code (pc + 2) c) : decode code pc = .ok (Instr.ldc2_w (b * 256 + c), 3) := dy_dec (by unfold Jvm.ClassFile.Decoder.instr; rw [dy_bind (dy_u1 h)]; show (Jvm.ClassFile.Reader.u2 >>= fun x => pure (Instr.ldc2_w x) : Jvm.ClassFile.Decoder Instr) code (pc + 1) = _; rw [dy_bind (dy_u2 h1 h2)]; rfl)
set_option maxRecDepth 30000 in
theorem dq_goto {b c : Nat} (h : dy_at code pc 167) (h1 : dy_at code (pc + 1) b) (h2 : dy_at code (pc + 2) c) : decode code pc = .ok (Instr.goto (Jvm.ClassFile.Reader.signed 16 (b * 256 + c)), 3) := dy_dec (by unfold Jvm.ClassFile.Decoder.instr; rw [dy_bind (dy_u1 h)]; show (Jvm.ClassFile.Reader.s2 >>= fun x => pure (Instr.goto x) : Jvm.ClassFile.Decoder Instr) code (pc + 1) = _; rw [dy_bind (dy_s2 h1 h2)]; rfl)
set_option maxRecDepth 30000 in
theorem dq_ifCond_eq {b c : Nat} (h : dy_at code pc 153) (h1 : dy_at code (pc + 1) b) (h2 : dy_at code (pc + 2) c) : decode code pc = .ok (Instr.ifCond .eq (Jvm.ClassFile.Reader.signed 16 (b * 256 + c)), 3) := dy_dec (by unfold Jvm.ClassFile.Decoder.instr; rw [dy_bind (dy_u1 h)]; show (Jvm.ClassFile.Reader.s2 >>= fun x => pure (Instr.ifCond .eq x) : Jvm.ClassFile.Decoder Instr) code (pc + 1) = _; rw [dy_bind (dy_s2 h1 h2)]; rfl)
set_option maxRecDepth 30000 in
theorem dq_ifCond_ne {b c : Nat} (h : dy_at code pc 154) (h1 : dy_at code (pc + 1) b) (h2 : dy_at code (pc + 2) c) : decode code pc = .ok (Instr.ifCond .ne (Jvm.ClassFile.Reader.signed 16 (b * 256 + c)), 3) := dy_dec (by unfold Jvm.ClassFile.Decoder.instr; rw [dy_bind (dy_u1 h)]; show (Jvm.ClassFile.Reader.s2 >>= fun x => pure (Instr.ifCond .ne x) : Jvm.ClassFile.Decoder Instr) code (pc + 1) = _; rw [dy_bind (dy_s2 h1 h2)]; rfl)
set_option maxRecDepth 30000 in
theorem dq_ifCond_lt {b c : Nat} (h : dy_at code pc 155) (h1 : dy_at code (pc + 1) b) (h2 : dy_at code (pc + 2) c) : decode code pc = .ok (Instr.ifCond .lt (Jvm.ClassFile.Reader.signed 16 (b * 256 + c)), 3) := dy_dec (by unfold Jvm.ClassFile.Decoder.instr; rw [dy_bind (dy_u1 h)]; show (Jvm.ClassFile.Reader.s2 >>= fun x => pure (Instr.ifCond .lt x) : Jvm.ClassFile.Decoder Instr) code (pc + 1) = _; rw [dy_bind (dy_s2 h1 h2)]; rfl)
set_option maxRecDepth 30000 in
theorem dq_ifCond_ge {b c : Nat} (h : dy_at code pc 156) (h1 : dy_at code (pc + 1) b) (h2 : dy_at code (pc + 2) c) : decode code pc = .ok (Instr.ifCond .ge (Jvm.ClassFile.Reader.signed 16 (b * 256 + c)), 3) := dy_dec (by unfold Jvm.ClassFile.Decoder.instr; rw [dy_bind (dy_u1 h)]; show (Jvm.ClassFile.Reader.s2 >>= fun x => pure (Instr.ifCond .ge x) : Jvm.ClassFile.Decoder Instr) code (pc + 1) = _; rw [dy_bind (dy_s2 h1 h2)]; rfl)
set_option maxRecDepth 30000 in
theorem dq_ifCond_gt {b c : Nat} (h : dy_at code pc 157) (h1 : dy_at code (pc + 1) b) (h2 : dy_at code (pc + 2) c) : decode code pc = .ok (Instr.ifCond .gt (Jvm.ClassFile.Reader.signed 16 (b * 256 + c)), 3) := dy_dec (by unfold Jvm.ClassFile.Decoder.instr; rw [dy_bind (dy_u1 h)]; show (Jvm.ClassFile.Reader.s2 >>= fun x => pure (Instr.ifCond .gt x) : Jvm.ClassFile.Decoder Instr) code (pc + 1) = _; rw [dy_bind (dy_s2 h1 h2)]; rfl)
set_option maxRecDepth 30000 in
theorem dq_ifCond_le {b c : Nat} (h : dy_at code pc 158) (h1 : dy_at code (pc + 1) b) (h2 : dy_at code (pc + 2) c) : decode code pc = .ok (Instr.ifCond .le (Jvm.ClassFile.Reader.signed 16 (b * 256 + c)), 3) := dy_dec (by unfold Jvm.ClassFile.Decoder.instr; rw [dy_bind (dy_u1 h)]; show (Jvm.ClassFile.Reader.s2 >>= fun x => pure (Instr.ifCond .le x) : Jvm.ClassFile.Decoder Instr) code (pc + 1) = _; rw [dy_bind (dy_s2 h1 h2)]; rfl)
set_option maxRecDepth 30000 in
theorem dq_if_icmp_eq {b c : Nat} (h : dy_at code pc 159) (h1 : dy_at code (pc + 1) b) (h2 : dy_at code (pc + 2) c) : decode code pc = .ok (Instr.if_icmp .eq (Jvm.ClassFile.Reader.signed 16 (b * 256 + c)), 3) := dy_dec (by unfold Jvm.ClassFile.Decoder.instr; rw [dy_bind (dy_u1 h)]; show (Jvm.ClassFile.Reader.s2 >>= fun x => pure (Instr.if_icmp .eq x) : Jvm.ClassFile.Decoder Instr) code (pc + 1) = _; rw [dy_bind (dy_s2 h1 h2)]; rfl)
set_option maxRecDepth 30000 in
theorem dq_if_icmp_ne {b c : Nat} (h : dy_at code pc 160) (h1 : dy_at code (pc + 1) b) (h2 : dy_at code (pc + 2) c) : decode code pc = .ok (Instr.if_icmp .ne (Jvm.ClassFile.Reader.signed 16 (b * 256 + c)), 3) := dy_dec (by unfold Jvm.ClassFile.Decoder.instr; rw [dy_bind (dy_u1 h)]; show (Jvm.ClassFile.Reader.s2 >>= fun x => pure (Instr.if_icmp .ne x) : Jvm.ClassFile.Decoder Instr) code (pc + 1) = _; rw [dy_bind (dy_s2 h1 h2)]; rfl)
set_option maxRecDepth 30000 in
theorem dq_if_icmp_lt {b c : Nat} (h : dy_at code pc 161) (h1 : dy_at code (pc + 1) b) (h2 : dy_at code (pc + 2) c) : decode code pc = .ok (Instr.if_icmp .lt (Jvm.ClassFile.Reader.signed 16 (b * 256 + c)), 3) := dy_dec (by unfold Jvm.ClassFile.Decoder.instr; rw [dy_bind (dy_u1 h)]; show (Jvm.ClassFile.Reader.s2 >>= fun x => pure (Instr.if_icmp .lt x) : Jvm.ClassFile.Decoder Instr) code (pc + 1) = _; rw [dy_bind (dy_s2 h1 h2)]; rfl)
set_option maxRecDepth 30000 in
theorem dq_if_icmp_ge {b c : Nat} (h : dy_at code pc 162) (h1 : dy_at code (pc + 1) b) (h2 : dy_at code (pc + 2) c) : decode code pc = .ok (Instr.if_icmp .ge (Jvm.ClassFile.Reader.signed 16 (b * 256 + c)), 3) := dy_dec (by unfold Jvm.ClassFile.Decoder.instr; rw [dy_bind (dy_u1 h)]; show (Jvm.ClassFile.Reader.s2 >>= fun x => pure (Instr.if_icmp .ge x) : Jvm.ClassFile.Decoder Instr) code (pc + 1) = _; rw [dy_bind (dy_s2 h1 h2)]; rfl)
set_option maxRecDepth 30000 in
theorem dq_if_icmp_gt {b c : Nat} (h : dy_at code pc 163) (h1 : dy_at code (pc + 1) b) (h2 : dy_at code (pc + 2) c) : decode code pc = .ok (Instr.if_icmp .gt (Jvm.ClassFile.Reader.signed 16 (b * 256 + c)), 3) := dy_dec (by unfold Jvm.ClassFile.Decoder.instr; rw [dy_bind (dy_u1 h)]; show (Jvm.ClassFile.Reader.s2 >>= fun x => pure (Instr.if_icmp .gt x) : Jvm.ClassFile.Decoder Instr) code (pc + 1) = _; rw [dy_bind (dy_s2 h1 h2)]; rfl)
set_option maxRecDepth 30000 in
theorem dq_if_icmp_le {b c : Nat} (h : dy_at code pc 164) (h1 : dy_at code (pc + 1) b) (h2 : dy_at code (pc + 2) c) : decode code pc = .ok (Instr.if_icmp .le (Jvm.ClassFile.Reader.signed 16 (b * 256 + c)), 3) := dy_dec (by unfold Jvm.ClassFile.Decoder.instr; rw [dy_bind (dy_u1 h)]; show (Jvm.ClassFile.Reader.s2 >>= fun x => pure (Instr.if_icmp .le x) : Jvm.ClassFile.Decoder Instr) code (pc + 1) = _; rw [dy_bind (dy_s2 h1 h2)]; rfl)
set_option maxRecDepth 30000 in
theorem dq_iinc {b c : Nat} (h : dy_at code pc 132) (h1 : dy_at code (pc + 1) b) (h2 : dy_at code (pc + 2) c) : decode code pc = .ok (.iinc b (Jvm.ClassFile.Reader.signed 8 c), 3) := dy_dec (by unfold Jvm.ClassFile.Decoder.instr; rw [dy_bind (dy_u1 h)]; show (Jvm.ClassFile.Reader.u1 >>= fun x => Jvm.ClassFile.Reader.s1 >>= fun y => pure (Instr.iinc x y) : Jvm.ClassFile.Decoder Instr) code (pc + 1) = _; rw [dy_bind (dy_u1 h1), dy_bind (dy_s1 h2)]; rfl)
end DQ
/-! what the bytes from a place on say -/
noncomputable def co_i (c : ClassFile.Cond) : Nat := match c with
  | .eq => 0
  | .ne => 1
  | .lt => 2
  | .ge => 3
  | .gt => 4
  | .le => 5
noncomputable def ey1 (k len : Nat) (bs : List UInt8) : Bool := match bs with
  | a :: _ => Nat.beq a.toNat k && Nat.beq len 1
  | _ => false
noncomputable def ey1c (n : Int) (len : Nat) (bs : List UInt8) : Bool := match bs with
  | a :: _ => decide (n = (a.toNat : Int) - 3) && Nat.ble 2 a.toNat && Nat.ble a.toNat 8 && Nat.beq len 1
  | _ => false
noncomputable def ey2 (k v len : Nat) (bs : List UInt8) : Bool := match bs with
  | a :: b :: _ => Nat.beq a.toNat k && Nat.beq b.toNat v && Nat.beq len 2
  | _ => false
noncomputable def ey2s (k : Nat) (v : Int) (len : Nat) (bs : List UInt8) : Bool := match bs with
  | a :: b :: _ => Nat.beq a.toNat k && decide (Jvm.ClassFile.Reader.signed 8 b.toNat = v) && Nat.beq len 2
  | _ => false
noncomputable def ey3 (k v len : Nat) (bs : List UInt8) : Bool := match bs with
  | a :: b :: c :: _ => Nat.beq a.toNat k && Nat.beq (b.toNat * 256 + c.toNat) v && Nat.beq len 3
  | _ => false
noncomputable def ey3s (k : Nat) (v : Int) (len : Nat) (bs : List UInt8) : Bool := match bs with
  | a :: b :: c :: _ => Nat.beq a.toNat k && decide (Jvm.ClassFile.Reader.signed 16 (b.toNat * 256 + c.toNat) = v) && Nat.beq len 3
  | _ => false
noncomputable def ey3i (n : Nat) (v : Int) (len : Nat) (bs : List UInt8) : Bool := match bs with
  | a :: b :: c :: _ => Nat.beq a.toNat 132 && Nat.beq b.toNat n && decide (Jvm.ClassFile.Reader.signed 8 c.toNat = v) && Nat.beq len 3
  | _ => false
section DE
variable {code : ByteArray} {pc : Nat} {bs : List UInt8}
theorem dy_dr {x : UInt8} (hb : x :: bs = code.data.toList.drop pc) : dy_at code pc x.toNat ∧ bs = code.data.toList.drop (pc + 1) := by
  have hl : pc < code.data.toList.length := by
    rcases Nat.lt_or_ge pc code.data.toList.length with z | z
    · exact z
    · rw [List.drop_eq_nil_of_le z] at hb
      cases hb
  rw [List.drop_eq_getElem_cons hl] at hb
  injection hb with h1 h2
  refine ⟨⟨hl, ?_⟩, h2⟩
  rw [h1]
  rfl
theorem ey1_ok {k len : Nat} (h : ey1 k len bs = true) (hb : bs = code.data.toList.drop pc) : dy_at code pc k ∧ len = 1 := by
  unfold ey1 at h
  split at h
  · simp only [Bool.and_eq_true] at h
    have d := dy_dr hb
    exact ⟨Nat.eq_of_beq_eq_true h.1 ▸ d.1, Nat.eq_of_beq_eq_true h.2⟩
  · cases h
theorem ey1c_ok {n : Int} {len : Nat} (h : ey1c n len bs = true) (hb : bs = code.data.toList.drop pc) : decode code pc = .ok (.iconst n, len) := by
  unfold ey1c at h
  split at h
  · simp only [Bool.and_eq_true, decide_eq_true_eq] at h
    have d := dy_dr hb
    rw [Nat.eq_of_beq_eq_true h.2]
    exact dq_iconst d.1 h.1.1.1 (Nat.le_of_ble_eq_true h.1.1.2) (Nat.le_of_ble_eq_true h.1.2)
  · cases h
theorem ey2_ok {k v len : Nat} (h : ey2 k v len bs = true) (hb : bs = code.data.toList.drop pc) : dy_at code pc k ∧ dy_at code (pc + 1) v ∧ len = 2 := by
  unfold ey2 at h
  split at h
  · simp only [Bool.and_eq_true] at h
    have d := dy_dr hb
    have d2 := dy_dr d.2
    exact ⟨Nat.eq_of_beq_eq_true h.1.1 ▸ d.1, Nat.eq_of_beq_eq_true h.1.2 ▸ d2.1, Nat.eq_of_beq_eq_true h.2⟩
  · cases h
theorem ey2s_ok {k len : Nat} {v : Int} (h : ey2s k v len bs = true) (hb : bs = code.data.toList.drop pc) : ∃ b : Nat, dy_at code pc k ∧ dy_at code (pc + 1) b ∧ Jvm.ClassFile.Reader.signed 8 b = v ∧ len = 2 := by
  unfold ey2s at h
  split at h
  · simp only [Bool.and_eq_true, decide_eq_true_eq] at h
    have d := dy_dr hb
    have d2 := dy_dr d.2
    exact ⟨_, Nat.eq_of_beq_eq_true h.1.1 ▸ d.1, d2.1, h.1.2, Nat.eq_of_beq_eq_true h.2⟩
  · cases h
theorem ey3_ok {k v len : Nat} (h : ey3 k v len bs = true) (hb : bs = code.data.toList.drop pc) : ∃ b c : Nat, dy_at code pc k ∧ dy_at code (pc + 1) b ∧ dy_at code (pc + 2) c ∧ b * 256 + c = v ∧ len = 3 := by
  unfold ey3 at h
  split at h
  · simp only [Bool.and_eq_true] at h
    have d := dy_dr hb
    have d2 := dy_dr d.2
    have d3 := dy_dr d2.2
    exact ⟨_, _, Nat.eq_of_beq_eq_true h.1.1 ▸ d.1, d2.1, d3.1, Nat.eq_of_beq_eq_true h.1.2, Nat.eq_of_beq_eq_true h.2⟩
  · cases h
theorem ey3s_ok {k len : Nat} {v : Int} (h : ey3s k v len bs = true) (hb : bs = code.data.toList.drop pc) : ∃ b c : Nat, dy_at code pc k ∧ dy_at code (pc + 1) b ∧ dy_at code (pc + 2) c ∧ Jvm.ClassFile.Reader.signed 16 (b * 256 + c) = v ∧ len = 3 := by
  unfold ey3s at h
  split at h
  · simp only [Bool.and_eq_true, decide_eq_true_eq] at h
    have d := dy_dr hb
    have d2 := dy_dr d.2
    have d3 := dy_dr d2.2
    exact ⟨_, _, Nat.eq_of_beq_eq_true h.1.1 ▸ d.1, d2.1, d3.1, h.1.2, Nat.eq_of_beq_eq_true h.2⟩
  · cases h
theorem ey3i_ok {n len : Nat} {v : Int} (h : ey3i n v len bs = true) (hb : bs = code.data.toList.drop pc) : decode code pc = .ok (.iinc n v, len) := by
  unfold ey3i at h
  split at h
  · simp only [Bool.and_eq_true, decide_eq_true_eq] at h
    have d := dy_dr hb
    have d2 := dy_dr d.2
    have d3 := dy_dr d2.2
    rw [Nat.eq_of_beq_eq_true h.2, ← h.1.2]
    exact dq_iinc (Nat.eq_of_beq_eq_true h.1.1.1 ▸ d.1) (Nat.eq_of_beq_eq_true h.1.1.2 ▸ d2.1) d3.1
  · cases h
end DE
noncomputable def dyk (i : Instr) (len : Nat) (bs : List UInt8) : Bool := match i with
  | .iload_n k => ey1 (26 + k.val) len bs
  | .aload_n k => ey1 (42 + k.val) len bs
  | .istore_n k => ey1 (59 + k.val) len bs
  | .lload_n k => ey1 (30 + k.val) len bs
  | .lstore_n k => ey1 (63 + k.val) len bs
  | .iconst n => ey1c n len bs
  | .iaload => ey1 46 len bs
  | .iastore => ey1 79 len bs
  | .iadd => ey1 96 len bs
  | .isub => ey1 100 len bs
  | .imul => ey1 104 len bs
  | .iand => ey1 126 len bs
  | .ior => ey1 128 len bs
  | .ireturn => ey1 172 len bs
  | .dup => ey1 89 len bs
  | .pop => ey1 87 len bs
  | .return_ => ey1 177 len bs
  | .laload => ey1 47 len bs
  | .land => ey1 127 len bs
  | .iload v => ey2 21 v len bs
  | .istore v => ey2 54 v len bs
  | .aload v => ey2 25 v len bs
  | .lload v => ey2 22 v len bs
  | .lstore v => ey2 55 v len bs
  | .ldc v => ey2 18 v len bs
  | .bipush v => ey2s 16 v len bs
  | .sipush v => ey3s 17 v len bs
  | .getfield v => ey3 180 v len bs
  | .putfield v => ey3 181 v len bs
  | .invokevirtual v => ey3 182 v len bs
  | .invokespecial v => ey3 183 v len bs
  | .invokestatic v => ey3 184 v len bs
  | .ldc2_w v => ey3 20 v len bs
  | .goto v => ey3s 167 v len bs
  | .ifCond .eq v => ey3s 153 v len bs
  | .ifCond .ne v => ey3s 154 v len bs
  | .ifCond .lt v => ey3s 155 v len bs
  | .ifCond .ge v => ey3s 156 v len bs
  | .ifCond .gt v => ey3s 157 v len bs
  | .ifCond .le v => ey3s 158 v len bs
  | .if_icmp .eq v => ey3s 159 v len bs
  | .if_icmp .ne v => ey3s 160 v len bs
  | .if_icmp .lt v => ey3s 161 v len bs
  | .if_icmp .ge v => ey3s 162 v len bs
  | .if_icmp .gt v => ey3s 163 v len bs
  | .if_icmp .le v => ey3s 164 v len bs
  | .iinc n v => ey3i n v len bs
  | _ => false
theorem dyk_ok {code : ByteArray} {pc len : Nat} {bs : List UInt8} {i : Instr} (h : dyk i len bs = true) (hb : bs = code.data.toList.drop pc) : decode code pc = .ok (i, len) := by
  unfold dyk at h
  split at h
  · obtain ⟨h1, e⟩ := ey1_ok h hb; rw [e]; exact dq_iload_n _ h1
  · obtain ⟨h1, e⟩ := ey1_ok h hb; rw [e]; exact dq_aload_n _ h1
  · obtain ⟨h1, e⟩ := ey1_ok h hb; rw [e]; exact dq_istore_n _ h1
  · obtain ⟨h1, e⟩ := ey1_ok h hb; rw [e]; exact dq_lload_n _ h1
  · obtain ⟨h1, e⟩ := ey1_ok h hb; rw [e]; exact dq_lstore_n _ h1
  · exact ey1c_ok h hb
  · obtain ⟨h1, e⟩ := ey1_ok h hb; rw [e]; exact dq_iaload h1
  · obtain ⟨h1, e⟩ := ey1_ok h hb; rw [e]; exact dq_iastore h1
  · obtain ⟨h1, e⟩ := ey1_ok h hb; rw [e]; exact dq_iadd h1
  · obtain ⟨h1, e⟩ := ey1_ok h hb; rw [e]; exact dq_isub h1
  · obtain ⟨h1, e⟩ := ey1_ok h hb; rw [e]; exact dq_imul h1
  · obtain ⟨h1, e⟩ := ey1_ok h hb; rw [e]; exact dq_iand h1
  · obtain ⟨h1, e⟩ := ey1_ok h hb; rw [e]; exact dq_ior h1
  · obtain ⟨h1, e⟩ := ey1_ok h hb; rw [e]; exact dq_ireturn h1
  · obtain ⟨h1, e⟩ := ey1_ok h hb; rw [e]; exact dq_dup h1
  · obtain ⟨h1, e⟩ := ey1_ok h hb; rw [e]; exact dq_pop h1
  · obtain ⟨h1, e⟩ := ey1_ok h hb; rw [e]; exact dq_return_ h1
  · obtain ⟨h1, e⟩ := ey1_ok h hb; rw [e]; exact dq_laload h1
  · obtain ⟨h1, e⟩ := ey1_ok h hb; rw [e]; exact dq_land h1
  · obtain ⟨h1, h2, e⟩ := ey2_ok h hb; rw [e]; exact dq_iload h1 h2
  · obtain ⟨h1, h2, e⟩ := ey2_ok h hb; rw [e]; exact dq_istore h1 h2
  · obtain ⟨h1, h2, e⟩ := ey2_ok h hb; rw [e]; exact dq_aload h1 h2
  · obtain ⟨h1, h2, e⟩ := ey2_ok h hb; rw [e]; exact dq_lload h1 h2
  · obtain ⟨h1, h2, e⟩ := ey2_ok h hb; rw [e]; exact dq_lstore h1 h2
  · obtain ⟨h1, h2, e⟩ := ey2_ok h hb; rw [e]; exact dq_ldc h1 h2
  · obtain ⟨b, h1, h2, e1, e⟩ := ey2s_ok h hb; rw [e, ← e1]; exact dq_bipush h1 h2
  · obtain ⟨b, c, h1, h2, h3, e1, e⟩ := ey3s_ok h hb; rw [e, ← e1]; exact dq_sipush h1 h2 h3
  · obtain ⟨b, c, h1, h2, h3, e1, e⟩ := ey3_ok h hb; rw [e, ← e1]; exact dq_getfield h1 h2 h3
  · obtain ⟨b, c, h1, h2, h3, e1, e⟩ := ey3_ok h hb; rw [e, ← e1]; exact dq_putfield h1 h2 h3
  · obtain ⟨b, c, h1, h2, h3, e1, e⟩ := ey3_ok h hb; rw [e, ← e1]; exact dq_invokevirtual h1 h2 h3
  · obtain ⟨b, c, h1, h2, h3, e1, e⟩ := ey3_ok h hb; rw [e, ← e1]; exact dq_invokespecial h1 h2 h3
  · obtain ⟨b, c, h1, h2, h3, e1, e⟩ := ey3_ok h hb; rw [e, ← e1]; exact dq_invokestatic h1 h2 h3
  · obtain ⟨b, c, h1, h2, h3, e1, e⟩ := ey3_ok h hb; rw [e, ← e1]; exact dq_ldc2_w h1 h2 h3
  · obtain ⟨b, c, h1, h2, h3, e1, e⟩ := ey3s_ok h hb; rw [e, ← e1]; exact dq_goto h1 h2 h3
  · obtain ⟨b, c, h1, h2, h3, e1, e⟩ := ey3s_ok h hb; rw [e, ← e1]; exact dq_ifCond_eq h1 h2 h3
  · obtain ⟨b, c, h1, h2, h3, e1, e⟩ := ey3s_ok h hb; rw [e, ← e1]; exact dq_ifCond_ne h1 h2 h3
  · obtain ⟨b, c, h1, h2, h3, e1, e⟩ := ey3s_ok h hb; rw [e, ← e1]; exact dq_ifCond_lt h1 h2 h3
  · obtain ⟨b, c, h1, h2, h3, e1, e⟩ := ey3s_ok h hb; rw [e, ← e1]; exact dq_ifCond_ge h1 h2 h3
  · obtain ⟨b, c, h1, h2, h3, e1, e⟩ := ey3s_ok h hb; rw [e, ← e1]; exact dq_ifCond_gt h1 h2 h3
  · obtain ⟨b, c, h1, h2, h3, e1, e⟩ := ey3s_ok h hb; rw [e, ← e1]; exact dq_ifCond_le h1 h2 h3
  · obtain ⟨b, c, h1, h2, h3, e1, e⟩ := ey3s_ok h hb; rw [e, ← e1]; exact dq_if_icmp_eq h1 h2 h3
  · obtain ⟨b, c, h1, h2, h3, e1, e⟩ := ey3s_ok h hb; rw [e, ← e1]; exact dq_if_icmp_ne h1 h2 h3
  · obtain ⟨b, c, h1, h2, h3, e1, e⟩ := ey3s_ok h hb; rw [e, ← e1]; exact dq_if_icmp_lt h1 h2 h3
  · obtain ⟨b, c, h1, h2, h3, e1, e⟩ := ey3s_ok h hb; rw [e, ← e1]; exact dq_if_icmp_ge h1 h2 h3
  · obtain ⟨b, c, h1, h2, h3, e1, e⟩ := ey3s_ok h hb; rw [e, ← e1]; exact dq_if_icmp_gt h1 h2 h3
  · obtain ⟨b, c, h1, h2, h3, e1, e⟩ := ey3s_ok h hb; rw [e, ← e1]; exact dq_if_icmp_le h1 h2 h3
  · exact ey3i_ok h hb
  · cases h
noncomputable def mm_cks (mi : Nat) (f : Nat → Option mm_R) : Nat → Nat → List UInt8 → Bool
  | 0, _, _ => true
  | _ + 1, _, [] => false
  | n + 1, pc, b :: bs => (match f pc with
    | none => true
    | some q => (dyk q.1 q.2.1 (b :: bs) || decide (decode (mm_cc mi) pc = .ok (q.1, q.2.1))) && mm_cx mi pc q) && mm_cks mi f n (pc + 1) bs
theorem mm_ckm {mi : Nat} {f : Nat → Option mm_R} : ∀ (n pc : Nat) (bs : List UInt8), bs = (mm_cc mi).data.toList.drop pc → mm_cks mi f n pc bs = true → mm_ckp mi f pc n = true
  | 0, _, _, _, _ => rfl
  | _ + 1, _, [], _, h => by
    have h : false = true := h
    cases h
  | n + 1, pc, b :: bs, hb, h => by
    simp only [mm_cks, Bool.and_eq_true] at h
    have h2 := mm_ckm n (pc + 1) bs (dy_dr hb).2 h.2
    show (mm_cko mi f pc && mm_ckp mi f (pc + 1) n) = true
    rw [h2, Bool.and_true]
    have h1 := h.1
    unfold mm_cko
    cases e : f pc with
    | none => rfl
    | some q =>
      rw [e] at h1
      simp only [Bool.and_eq_true, Bool.or_eq_true] at h1
      show mm_ck mi pc q = true
      unfold mm_ck
      rw [Bool.and_eq_true]
      refine ⟨?_, h1.2⟩
      rcases h1.1 with z | z
      · exact decide_eq_true (dyk_ok z hb)
      · exact z
theorem mm_ckn {mi n pc : Nat} {f : Nat → Option mm_R} (h : mm_cks mi f n pc ((mm_cc mi).data.toList.drop pc) = true) : mm_ckp mi f pc n = true := mm_ckm n pc _ rfl h
end
section
theorem ck_L_law_0 : mm_ckp 0 kd_L_law 0 100 = true := mm_ckn (by decide +kernel)
theorem ck_L_law_1 : mm_ckp 0 kd_L_law 100 100 = true := mm_ckn (by decide +kernel)
theorem ck_L_law_2 : mm_ckp 0 kd_L_law 200 100 = true := mm_ckn (by decide +kernel)
theorem ck_L_law_3 : mm_ckp 0 kd_L_law 300 100 = true := mm_ckn (by decide +kernel)
theorem ck_L_law_4 : mm_ckp 0 kd_L_law 400 100 = true := mm_ckn (by decide +kernel)
theorem ck_L_law_5 : mm_ckp 0 kd_L_law 500 100 = true := mm_ckn (by decide +kernel)
theorem ck_L_law_6 : mm_ckp 0 kd_L_law 600 100 = true := mm_ckn (by decide +kernel)
theorem ck_L_law_7 : mm_ckp 0 kd_L_law 700 100 = true := mm_ckn (by decide +kernel)
theorem ck_L_law_8 : mm_ckp 0 kd_L_law 800 100 = true := mm_ckn (by decide +kernel)
theorem ck_L_law_9 : mm_ckp 0 kd_L_law 900 100 = true := mm_ckn (by decide +kernel)
theorem ck_L_law_10 : mm_ckp 0 kd_L_law 1000 100 = true := mm_ckn (by decide +kernel)
theorem ck_L_law_11 : mm_ckp 0 kd_L_law 1100 100 = true := mm_ckn (by decide +kernel)
theorem ck_L_law_12 : mm_ckp 0 kd_L_law 1200 100 = true := mm_ckn (by decide +kernel)
theorem ck_L_law_13 : mm_ckp 0 kd_L_law 1300 22 = true := mm_ckn (by decide +kernel)
theorem ck_X0_init_0 : mm_ckp 1 kd_X0_init 0 21 = true := mm_ckn (by decide +kernel)
theorem ck_X0_find_0 : mm_ckp 2 kd_X0_find 0 100 = true := mm_ckn (by decide +kernel)
theorem ck_X0_find_1 : mm_ckp 2 kd_X0_find 100 48 = true := mm_ckn (by decide +kernel)
theorem ck_X0_cardsCutAt_0 : mm_ckp 3 kd_X0_cardsCutAt 0 37 = true := mm_ckn (by decide +kernel)
theorem ck_X0_othersAt_0 : mm_ckp 4 kd_X0_othersAt 0 49 = true := mm_ckn (by decide +kernel)
theorem ck_X0_choose_0 : mm_ckp 5 kd_X0_choose 0 70 = true := mm_ckn (by decide +kernel)
theorem ck_X0_weigh_0 : mm_ckp 6 kd_X0_weigh 0 60 = true := mm_ckn (by decide +kernel)
theorem ck_X1_init_0 : mm_ckp 7 kd_X1_init 0 47 = true := mm_ckn (by decide +kernel)
theorem ck_X1_replay_0 : mm_ckp 8 kd_X1_replay 0 53 = true := mm_ckn (by decide +kernel)
theorem ck_X1_forget_0 : mm_ckp 9 kd_X1_forget 0 79 = true := mm_ckn (by decide +kernel)
theorem ck_X1_markStruck_0 : mm_ckp 10 kd_X1_markStruck 0 82 = true := mm_ckn (by decide +kernel)
theorem ck_X1_apply_0 : mm_ckp 11 kd_X1_apply 0 100 = true := mm_ckn (by decide +kernel)
theorem ck_X1_apply_1 : mm_ckp 11 kd_X1_apply 100 99 = true := mm_ckn (by decide +kernel)
theorem ck_X1_valueOf_0 : mm_ckp 12 kd_X1_valueOf 0 12 = true := mm_ckn (by decide +kernel)
theorem ck_X1_hasWord_0 : mm_ckp 13 kd_X1_hasWord 0 19 = true := mm_ckn (by decide +kernel)
theorem ck_X1_isCutAt_0 : mm_ckp 14 kd_X1_isCutAt 0 19 = true := mm_ckn (by decide +kernel)
theorem ck_X2_init_0 : mm_ckp 15 kd_X2_init 0 21 = true := mm_ckn (by decide +kernel)
theorem ck_X2_findSets_0 : mm_ckp 16 kd_X2_findSets 0 100 = true := mm_ckn (by decide +kernel)
theorem ck_X2_findSets_1 : mm_ckp 16 kd_X2_findSets 100 56 = true := mm_ckn (by decide +kernel)
theorem ck_X2_chooseFrom_0 : mm_ckp 17 kd_X2_chooseFrom 0 91 = true := mm_ckn (by decide +kernel)
theorem ck_X2_findValues_0 : mm_ckp 18 kd_X2_findValues 0 100 = true := mm_ckn (by decide +kernel)
theorem ck_X2_findValues_1 : mm_ckp 18 kd_X2_findValues 100 31 = true := mm_ckn (by decide +kernel)
theorem ck_X3_init_0 : mm_ckp 19 kd_X3_init 0 41 = true := mm_ckn (by decide +kernel)
theorem ck_X3_add_0 : mm_ckp 20 kd_X3_add 0 70 = true := mm_ckn (by decide +kernel)
theorem ck_X4_init_0 : mm_ckp 21 kd_X4_init 0 41 = true := mm_ckn (by decide +kernel)
theorem ck_X4_clear_0 : mm_ckp 22 kd_X4_clear 0 27 = true := mm_ckn (by decide +kernel)
theorem ck_X4_append_0 : mm_ckp 23 kd_X4_append 0 36 = true := mm_ckn (by decide +kernel)
theorem ck_X4_lay_0 : mm_ckp 24 kd_X4_lay 0 63 = true := mm_ckn (by decide +kernel)
theorem ck_X4_mirrored_0 : mm_ckp 25 kd_X4_mirrored 0 30 = true := mm_ckn (by decide +kernel)
theorem ck_X4_isDropping_0 : mm_ckp 26 kd_X4_isDropping 0 19 = true := mm_ckn (by decide +kernel)
theorem ck_X4_dropping_0 : mm_ckp 27 kd_X4_dropping 0 56 = true := mm_ckn (by decide +kernel)
theorem ck_X4_deal_0 : mm_ckp 28 kd_X4_deal 0 96 = true := mm_ckn (by decide +kernel)
theorem ck_X5_init_0 : mm_ckp 29 kd_X5_init 0 75 = true := mm_ckn (by decide +kernel)
theorem ck_X5_read_0 : mm_ckp 30 kd_X5_read 0 78 = true := mm_ckn (by decide +kernel)
theorem ck_X5_readLine_0 : mm_ckp 31 kd_X5_readLine 0 65 = true := mm_ckn (by decide +kernel)
theorem ck_X5_readHoles_0 : mm_ckp 32 kd_X5_readHoles 0 44 = true := mm_ckn (by decide +kernel)
theorem ck_X5_readField_0 : mm_ckp 33 kd_X5_readField 0 100 = true := mm_ckn (by decide +kernel)
theorem ck_X5_readField_1 : mm_ckp 33 kd_X5_readField 100 88 = true := mm_ckn (by decide +kernel)
theorem ck_X5_isNewName_0 : mm_ckp 34 kd_X5_isNewName 0 46 = true := mm_ckn (by decide +kernel)
theorem ck_X5_kindAt_0 : mm_ckp 35 kd_X5_kindAt 0 48 = true := mm_ckn (by decide +kernel)
theorem ck_X5_readStretch_0 : mm_ckp 36 kd_X5_readStretch 0 100 = true := mm_ckn (by decide +kernel)
theorem ck_X5_readStretch_1 : mm_ckp 36 kd_X5_readStretch 100 4 = true := mm_ckn (by decide +kernel)
theorem ck_X5_readDecimal_0 : mm_ckp 37 kd_X5_readDecimal 0 54 = true := mm_ckn (by decide +kernel)
theorem ck_X5_readChosen_0 : mm_ckp 38 kd_X5_readChosen 0 41 = true := mm_ckn (by decide +kernel)
theorem ck_X5_isFree_0 : mm_ckp 39 kd_X5_isFree 0 29 = true := mm_ckn (by decide +kernel)
theorem ck_X5_keepHoles_0 : mm_ckp 40 kd_X5_keepHoles 0 31 = true := mm_ckn (by decide +kernel)
theorem ck_X5_readWord_0 : mm_ckp 41 kd_X5_readWord 0 100 = true := mm_ckn (by decide +kernel)
theorem ck_X5_readWord_1 : mm_ckp 41 kd_X5_readWord 100 28 = true := mm_ckn (by decide +kernel)
end
section
theorem ck_X5_readCode_0 : mm_ckp 42 kd_X5_readCode 0 100 = true := mm_ckn (by decide +kernel)
theorem ck_X5_readCode_1 : mm_ckp 42 kd_X5_readCode 100 54 = true := mm_ckn (by decide +kernel)
theorem ck_X5_isField_0 : mm_ckp 43 kd_X5_isField 0 18 = true := mm_ckn (by decide +kernel)
theorem ck_X5_isWord_0 : mm_ckp 44 kd_X5_isWord 0 18 = true := mm_ckn (by decide +kernel)
theorem ck_X5_isLaid_0 : mm_ckp 45 kd_X5_isLaid 0 16 = true := mm_ckn (by decide +kernel)
theorem ck_X5_isValue_0 : mm_ckp 46 kd_X5_isValue 0 36 = true := mm_ckn (by decide +kernel)
theorem ck_X5_width_0 : mm_ckp 47 kd_X5_width 0 16 = true := mm_ckn (by decide +kernel)
theorem ck_X5_spanOf_0 : mm_ckp 48 kd_X5_spanOf 0 16 = true := mm_ckn (by decide +kernel)
theorem ck_X5_codeOf_0 : mm_ckp 49 kd_X5_codeOf 0 77 = true := mm_ckn (by decide +kernel)
theorem ck_X5_isCodeOf_0 : mm_ckp 50 kd_X5_isCodeOf 0 40 = true := mm_ckn (by decide +kernel)
theorem ck_X5_wordsOf_0 : mm_ckp 51 kd_X5_wordsOf 0 36 = true := mm_ckn (by decide +kernel)
theorem ck_X5_fieldNamed_0 : mm_ckp 52 kd_X5_fieldNamed 0 13 = true := mm_ckn (by decide +kernel)
theorem ck_X5_wordNamed_0 : mm_ckp 53 kd_X5_wordNamed 0 13 = true := mm_ckn (by decide +kernel)
theorem ck_X5_find_0 : mm_ckp 54 kd_X5_find 0 30 = true := mm_ckn (by decide +kernel)
theorem ck_X6_init_0 : mm_ckp 55 kd_X6_init 0 37 = true := mm_ckn (by decide +kernel)
theorem ck_X6_clear_0 : mm_ckp 56 kd_X6_clear 0 11 = true := mm_ckn (by decide +kernel)
theorem ck_X6_read_0 : mm_ckp 57 kd_X6_read 0 27 = true := mm_ckn (by decide +kernel)
theorem ck_X6_readEither_0 : mm_ckp 58 kd_X6_readEither 0 66 = true := mm_ckn (by decide +kernel)
theorem ck_X6_readBoth_0 : mm_ckp 59 kd_X6_readBoth 0 66 = true := mm_ckn (by decide +kernel)
theorem ck_X6_readPart_0 : mm_ckp 60 kd_X6_readPart 0 93 = true := mm_ckn (by decide +kernel)
theorem ck_X6_readInner_0 : mm_ckp 61 kd_X6_readInner 0 43 = true := mm_ckn (by decide +kernel)
theorem ck_X6_readName_0 : mm_ckp 62 kd_X6_readName 0 100 = true := mm_ckn (by decide +kernel)
theorem ck_X6_readName_1 : mm_ckp 62 kd_X6_readName 100 54 = true := mm_ckn (by decide +kernel)
theorem ck_X6_passKnot_0 : mm_ckp 63 kd_X6_passKnot 0 31 = true := mm_ckn (by decide +kernel)
theorem ck_X6_layDown_0 : mm_ckp 64 kd_X6_layDown 0 50 = true := mm_ckn (by decide +kernel)
theorem ck_X6_answer_0 : mm_ckp 65 kd_X6_answer 0 100 = true := mm_ckn (by decide +kernel)
theorem ck_X6_answer_1 : mm_ckp 65 kd_X6_answer 100 100 = true := mm_ckn (by decide +kernel)
theorem ck_X6_answer_2 : mm_ckp 65 kd_X6_answer 200 12 = true := mm_ckn (by decide +kernel)
theorem ck_X6_cardsByHoles_0 : mm_ckp 66 kd_X6_cardsByHoles 0 99 = true := mm_ckn (by decide +kernel)
theorem ck_X6_cardsInTruth_0 : mm_ckp 67 kd_X6_cardsInTruth 0 100 = true := mm_ckn (by decide +kernel)
theorem ck_X7_init_0 : mm_ckp 68 kd_X7_init 0 53 = true := mm_ckn (by decide +kernel)
theorem ck_X7_take_0 : mm_ckp 69 kd_X7_take 0 100 = true := mm_ckn (by decide +kernel)
theorem ck_X7_take_1 : mm_ckp 69 kd_X7_take 100 3 = true := mm_ckn (by decide +kernel)
theorem ck_X7_fewestMoves_0 : mm_ckp 70 kd_X7_fewestMoves 0 94 = true := mm_ckn (by decide +kernel)
theorem ck_X7_findRow_0 : mm_ckp 71 kd_X7_findRow 0 100 = true := mm_ckn (by decide +kernel)
theorem ck_X7_findRow_1 : mm_ckp 71 kd_X7_findRow 100 44 = true := mm_ckn (by decide +kernel)
theorem ck_X7_firstRow_0 : mm_ckp 72 kd_X7_firstRow 0 75 = true := mm_ckn (by decide +kernel)
theorem ck_X7_isParting_0 : mm_ckp 73 kd_X7_isParting 0 100 = true := mm_ckn (by decide +kernel)
theorem ck_X7_isParting_1 : mm_ckp 73 kd_X7_isParting 100 55 = true := mm_ckn (by decide +kernel)
theorem ck_X7_isOrdered_0 : mm_ckp 74 kd_X7_isOrdered 0 92 = true := mm_ckn (by decide +kernel)
theorem ck_X7_holeOfPass_0 : mm_ckp 75 kd_X7_holeOfPass 0 19 = true := mm_ckn (by decide +kernel)
theorem ck_X8_init_0 : mm_ckp 76 kd_X8_init 0 46 = true := mm_ckn (by decide +kernel)
theorem ck_X8_append_0 : mm_ckp 77 kd_X8_append 0 49 = true := mm_ckn (by decide +kernel)
theorem ck_X8_begin_0 : mm_ckp 78 kd_X8_begin 0 45 = true := mm_ckn (by decide +kernel)
theorem ck_X8_split_0 : mm_ckp 79 kd_X8_split 0 100 = true := mm_ckn (by decide +kernel)
theorem ck_X8_split_1 : mm_ckp 79 kd_X8_split 100 4 = true := mm_ckn (by decide +kernel)
theorem ck_X8_splitLetters_0 : mm_ckp 80 kd_X8_splitLetters 0 100 = true := mm_ckn (by decide +kernel)
theorem ck_X8_splitDigits_0 : mm_ckp 81 kd_X8_splitDigits 0 59 = true := mm_ckn (by decide +kernel)
theorem ck_X8_add_0 : mm_ckp 82 kd_X8_add 0 53 = true := mm_ckn (by decide +kernel)
theorem ck_X8_advance_0 : mm_ckp 83 kd_X8_advance 0 63 = true := mm_ckn (by decide +kernel)
theorem ck_X8_fail_0 : mm_ckp 84 kd_X8_fail 0 15 = true := mm_ckn (by decide +kernel)
theorem ck_X8_failAt_0 : mm_ckp 85 kd_X8_failAt 0 12 = true := mm_ckn (by decide +kernel)
theorem ck_X8_isAt_0 : mm_ckp 86 kd_X8_isAt 0 22 = true := mm_ckn (by decide +kernel)
theorem ck_X8_isEnded_0 : mm_ckp 87 kd_X8_isEnded 0 21 = true := mm_ckn (by decide +kernel)
theorem ck_X8_isNumber_0 : mm_ckp 88 kd_X8_isNumber 0 44 = true := mm_ckn (by decide +kernel)
theorem ck_X8_passWord_0 : mm_ckp 89 kd_X8_passWord 0 20 = true := mm_ckn (by decide +kernel)
theorem ck_X8_passSign_0 : mm_ckp 90 kd_X8_passSign 0 20 = true := mm_ckn (by decide +kernel)
theorem ck_X8_signAt_0 : mm_ckp 91 kd_X8_signAt 0 28 = true := mm_ckn (by decide +kernel)
theorem ck_X8_isBlank_0 : mm_ckp 92 kd_X8_isBlank 0 18 = true := mm_ckn (by decide +kernel)
theorem ck_X8_isLetter_0 : mm_ckp 93 kd_X8_isLetter 0 18 = true := mm_ckn (by decide +kernel)
theorem ck_X8_isDigit_0 : mm_ckp 94 kd_X8_isDigit 0 18 = true := mm_ckn (by decide +kernel)
theorem ck_X8_isSign_0 : mm_ckp 95 kd_X8_isSign 0 30 = true := mm_ckn (by decide +kernel)
theorem ck_X8_isOfLanguage_0 : mm_ckp 96 kd_X8_isOfLanguage 0 35 = true := mm_ckn (by decide +kernel)
theorem ck_X9_init_0 : mm_ckp 97 kd_X9_init 0 61 = true := mm_ckn (by decide +kernel)
theorem ck_X9_read_0 : mm_ckp 98 kd_X9_read 0 29 = true := mm_ckn (by decide +kernel)
theorem ck_X9_readSteps_0 : mm_ckp 99 kd_X9_readSteps 0 40 = true := mm_ckn (by decide +kernel)
theorem ck_X9_readStep_0 : mm_ckp 100 kd_X9_readStep 0 100 = true := mm_ckn (by decide +kernel)
theorem ck_X9_readStep_1 : mm_ckp 100 kd_X9_readStep 100 44 = true := mm_ckn (by decide +kernel)
theorem ck_X9_readPass_0 : mm_ckp 101 kd_X9_readPass 0 100 = true := mm_ckn (by decide +kernel)
theorem ck_X9_readPass_1 : mm_ckp 101 kd_X9_readPass 100 33 = true := mm_ckn (by decide +kernel)
theorem ck_X9_readPack_0 : mm_ckp 102 kd_X9_readPack 0 65 = true := mm_ckn (by decide +kernel)
theorem ck_X9_readNeedle_0 : mm_ckp 103 kd_X9_readNeedle 0 100 = true := mm_ckn (by decide +kernel)
theorem ck_X9_readNeedle_1 : mm_ckp 103 kd_X9_readNeedle 100 46 = true := mm_ckn (by decide +kernel)
theorem ck_X9_readJoin_0 : mm_ckp 104 kd_X9_readJoin 0 64 = true := mm_ckn (by decide +kernel)
theorem ck_X9_readAgain_0 : mm_ckp 105 kd_X9_readAgain 0 86 = true := mm_ckn (by decide +kernel)
theorem ck_X9_isDoneBy_0 : mm_ckp 106 kd_X9_isDoneBy 0 39 = true := mm_ckn (by decide +kernel)
theorem ck_X9_doSteps_0 : mm_ckp 107 kd_X9_doSteps 0 87 = true := mm_ckn (by decide +kernel)
theorem ck_X9_doStep_0 : mm_ckp 108 kd_X9_doStep 0 100 = true := mm_ckn (by decide +kernel)
end
section
theorem ck_X9_doStep_1 : mm_ckp 108 kd_X9_doStep 100 34 = true := mm_ckn (by decide +kernel)
theorem ck_X10_init_0 : mm_ckp 109 kd_X10_init 0 100 = true := mm_ckn (by decide +kernel)
theorem ck_X10_init_1 : mm_ckp 109 kd_X10_init 100 42 = true := mm_ckn (by decide +kernel)
theorem ck_X10_feed_0 : mm_ckp 110 kd_X10_feed 0 65 = true := mm_ckn (by decide +kernel)
theorem ck_X10_plan_0 : mm_ckp 111 kd_X10_plan 0 83 = true := mm_ckn (by decide +kernel)
theorem ck_X10_work_0 : mm_ckp 112 kd_X10_work 0 80 = true := mm_ckn (by decide +kernel)
theorem ck_X10_question_0 : mm_ckp 113 kd_X10_question 0 60 = true := mm_ckn (by decide +kernel)
theorem ck_X10_fault_0 : mm_ckp 114 kd_X10_fault 0 29 = true := mm_ckn (by decide +kernel)
theorem ck_X10_named_0 : mm_ckp 115 kd_X10_named 0 31 = true := mm_ckn (by decide +kernel)
theorem ck_X10_code_0 : mm_ckp 116 kd_X10_code 0 10 = true := mm_ckn (by decide +kernel)
theorem ck_X10_coded_0 : mm_ckp 117 kd_X10_coded 0 36 = true := mm_ckn (by decide +kernel)
theorem ck_X10_card_0 : mm_ckp 118 kd_X10_card 0 40 = true := mm_ckn (by decide +kernel)
theorem ck_X10_set_0 : mm_ckp 119 kd_X10_set 0 34 = true := mm_ckn (by decide +kernel)
theorem ck_X10_put_0 : mm_ckp 120 kd_X10_put 0 33 = true := mm_ckn (by decide +kernel)
theorem ck_X10_tear_0 : mm_ckp 121 kd_X10_tear 0 45 = true := mm_ckn (by decide +kernel)
theorem ck_X10_recode_0 : mm_ckp 122 kd_X10_recode 0 37 = true := mm_ckn (by decide +kernel)
theorem ck_X10_strike_0 : mm_ckp 123 kd_X10_strike 0 29 = true := mm_ckn (by decide +kernel)
theorem ck_X10_notched_0 : mm_ckp 124 kd_X10_notched 0 35 = true := mm_ckn (by decide +kernel)
theorem ck_X10_truly_0 : mm_ckp 125 kd_X10_truly 0 75 = true := mm_ckn (by decide +kernel)
theorem ck_X10_turn_0 : mm_ckp 126 kd_X10_turn 0 27 = true := mm_ckn (by decide +kernel)
theorem ck_X10_turned_0 : mm_ckp 127 kd_X10_turned 0 8 = true := mm_ckn (by decide +kernel)
theorem ck_X10_pack_0 : mm_ckp 128 kd_X10_pack 0 38 = true := mm_ckn (by decide +kernel)
theorem ck_X10_drops_0 : mm_ckp 129 kd_X10_drops 0 55 = true := mm_ckn (by decide +kernel)
theorem ck_X10_gather_0 : mm_ckp 130 kd_X10_gather 0 37 = true := mm_ckn (by decide +kernel)
theorem ck_X10_ask_0 : mm_ckp 131 kd_X10_ask 0 100 = true := mm_ckn (by decide +kernel)
theorem ck_X10_ask_1 : mm_ckp 131 kd_X10_ask 100 23 = true := mm_ckn (by decide +kernel)
theorem ck_X10_likely_0 : mm_ckp 132 kd_X10_likely 0 100 = true := mm_ckn (by decide +kernel)
theorem ck_X10_likely_1 : mm_ckp 132 kd_X10_likely 100 50 = true := mm_ckn (by decide +kernel)
theorem ck_X10_falsely_0 : mm_ckp 133 kd_X10_falsely 0 85 = true := mm_ckn (by decide +kernel)
theorem ck_X10_best_0 : mm_ckp 134 kd_X10_best 0 47 = true := mm_ckn (by decide +kernel)
theorem ck_X10_means_0 : mm_ckp 135 kd_X10_means 0 100 = true := mm_ckn (by decide +kernel)
theorem ck_X10_means_1 : mm_ckp 135 kd_X10_means 100 50 = true := mm_ckn (by decide +kernel)
theorem ck_X10_behind_0 : mm_ckp 136 kd_X10_behind 0 64 = true := mm_ckn (by decide +kernel)
theorem ck_X10_sort_0 : mm_ckp 137 kd_X10_sort 0 100 = true := mm_ckn (by decide +kernel)
theorem ck_X10_sort_1 : mm_ckp 137 kd_X10_sort 100 54 = true := mm_ckn (by decide +kernel)
theorem ck_X10_count_0 : mm_ckp 138 kd_X10_count 0 100 = true := mm_ckn (by decide +kernel)
theorem ck_X10_count_1 : mm_ckp 138 kd_X10_count 100 11 = true := mm_ckn (by decide +kernel)
theorem ck_X10_isBy_0 : mm_ckp 139 kd_X10_isBy 0 21 = true := mm_ckn (by decide +kernel)
theorem ck_X10_isCard_0 : mm_ckp 140 kd_X10_isCard 0 18 = true := mm_ckn (by decide +kernel)
theorem ck_X10_know_0 : mm_ckp 141 kd_X10_know 0 17 = true := mm_ckn (by decide +kernel)
theorem ck_X10_knowAll_0 : mm_ckp 142 kd_X10_knowAll 0 23 = true := mm_ckn (by decide +kernel)
theorem ck_X10_isPack_0 : mm_ckp 143 kd_X10_isPack 0 16 = true := mm_ckn (by decide +kernel)
theorem ck_X10_span_0 : mm_ckp 144 kd_X10_span 0 12 = true := mm_ckn (by decide +kernel)
theorem ck_X10_ways_0 : mm_ckp 145 kd_X10_ways 0 42 = true := mm_ckn (by decide +kernel)
theorem ck_X11_init_0 : mm_ckp 146 kd_X11_init 0 100 = true := mm_ckn (by decide +kernel)
theorem ck_X11_init_1 : mm_ckp 146 kd_X11_init 100 100 = true := mm_ckn (by decide +kernel)
theorem ck_X11_init_2 : mm_ckp 146 kd_X11_init 200 100 = true := mm_ckn (by decide +kernel)
theorem ck_X11_init_3 : mm_ckp 146 kd_X11_init 300 100 = true := mm_ckn (by decide +kernel)
theorem ck_X11_init_4 : mm_ckp 146 kd_X11_init 400 100 = true := mm_ckn (by decide +kernel)
theorem ck_X11_init_5 : mm_ckp 146 kd_X11_init 500 100 = true := mm_ckn (by decide +kernel)
theorem ck_X11_init_6 : mm_ckp 146 kd_X11_init 600 100 = true := mm_ckn (by decide +kernel)
theorem ck_X11_init_7 : mm_ckp 146 kd_X11_init 700 100 = true := mm_ckn (by decide +kernel)
theorem ck_X11_init_8 : mm_ckp 146 kd_X11_init 800 100 = true := mm_ckn (by decide +kernel)
theorem ck_X11_init_9 : mm_ckp 146 kd_X11_init 900 14 = true := mm_ckn (by decide +kernel)
theorem ck_X11_feed_0 : mm_ckp 147 kd_X11_feed 0 100 = true := mm_ckn (by decide +kernel)
theorem ck_X11_feed_1 : mm_ckp 147 kd_X11_feed 100 29 = true := mm_ckn (by decide +kernel)
theorem ck_X11_isIn_0 : mm_ckp 148 kd_X11_isIn 0 16 = true := mm_ckn (by decide +kernel)
theorem ck_X11_isOf_0 : mm_ckp 149 kd_X11_isOf 0 16 = true := mm_ckn (by decide +kernel)
theorem ck_X11_many_0 : mm_ckp 150 kd_X11_many 0 34 = true := mm_ckn (by decide +kernel)
theorem ck_X11_wrong_0 : mm_ckp 151 kd_X11_wrong 0 15 = true := mm_ckn (by decide +kernel)
theorem ck_X11_wordAt_0 : mm_ckp 152 kd_X11_wordAt 0 100 = true := mm_ckn (by decide +kernel)
theorem ck_X11_wordAt_1 : mm_ckp 152 kd_X11_wordAt 100 28 = true := mm_ckn (by decide +kernel)
theorem ck_X11_isSmall_0 : mm_ckp 153 kd_X11_isSmall 0 36 = true := mm_ckn (by decide +kernel)
theorem ck_X11_isDigit_0 : mm_ckp 154 kd_X11_isDigit 0 36 = true := mm_ckn (by decide +kernel)
theorem ck_X11_take_0 : mm_ckp 155 kd_X11_take 0 100 = true := mm_ckn (by decide +kernel)
theorem ck_X11_take_1 : mm_ckp 155 kd_X11_take 100 100 = true := mm_ckn (by decide +kernel)
theorem ck_X11_take_2 : mm_ckp 155 kd_X11_take 200 100 = true := mm_ckn (by decide +kernel)
theorem ck_X11_take_3 : mm_ckp 155 kd_X11_take 300 45 = true := mm_ckn (by decide +kernel)
theorem ck_X11_packed_0 : mm_ckp 156 kd_X11_packed 0 47 = true := mm_ckn (by decide +kernel)
theorem ck_X11_isKey_0 : mm_ckp 157 kd_X11_isKey 0 22 = true := mm_ckn (by decide +kernel)
theorem ck_X11_isSign_0 : mm_ckp 158 kd_X11_isSign 0 22 = true := mm_ckn (by decide +kernel)
theorem ck_X11_signRead_0 : mm_ckp 159 kd_X11_signRead 0 20 = true := mm_ckn (by decide +kernel)
theorem ck_X11_keyRead_0 : mm_ckp 160 kd_X11_keyRead 0 20 = true := mm_ckn (by decide +kernel)
theorem ck_X11_numberRead_0 : mm_ckp 161 kd_X11_numberRead 0 44 = true := mm_ckn (by decide +kernel)
theorem ck_X11_begins_0 : mm_ckp 162 kd_X11_begins 0 45 = true := mm_ckn (by decide +kernel)
theorem ck_X11_plain_0 : mm_ckp 163 kd_X11_plain 0 22 = true := mm_ckn (by decide +kernel)
end
section
theorem ck_X11_keep_0 : mm_ckp 164 kd_X11_keep 0 100 = true := mm_ckn (by decide +kernel)
theorem ck_X11_keep_1 : mm_ckp 164 kd_X11_keep 100 100 = true := mm_ckn (by decide +kernel)
theorem ck_X11_keep_2 : mm_ckp 164 kd_X11_keep 200 19 = true := mm_ckn (by decide +kernel)
theorem ck_X11_fieldRead_0 : mm_ckp 165 kd_X11_fieldRead 0 33 = true := mm_ckn (by decide +kernel)
theorem ck_X11_isNamed_0 : mm_ckp 166 kd_X11_isNamed 0 45 = true := mm_ckn (by decide +kernel)
theorem ck_X11_between_0 : mm_ckp 167 kd_X11_between 0 26 = true := mm_ckn (by decide +kernel)
theorem ck_X11_newName_0 : mm_ckp 168 kd_X11_newName 0 39 = true := mm_ckn (by decide +kernel)
theorem ck_X11_fieldLine_0 : mm_ckp 169 kd_X11_fieldLine 0 100 = true := mm_ckn (by decide +kernel)
theorem ck_X11_fieldLine_1 : mm_ckp 169 kd_X11_fieldLine 100 100 = true := mm_ckn (by decide +kernel)
theorem ck_X11_fieldLine_2 : mm_ckp 169 kd_X11_fieldLine 200 100 = true := mm_ckn (by decide +kernel)
theorem ck_X11_fieldLine_3 : mm_ckp 169 kd_X11_fieldLine 300 84 = true := mm_ckn (by decide +kernel)
theorem ck_X11_wordLine_0 : mm_ckp 170 kd_X11_wordLine 0 100 = true := mm_ckn (by decide +kernel)
theorem ck_X11_wordLine_1 : mm_ckp 170 kd_X11_wordLine 100 100 = true := mm_ckn (by decide +kernel)
theorem ck_X11_wordLine_2 : mm_ckp 170 kd_X11_wordLine 200 98 = true := mm_ckn (by decide +kernel)
theorem ck_X11_lineRead_0 : mm_ckp 171 kd_X11_lineRead 0 100 = true := mm_ckn (by decide +kernel)
theorem ck_X11_lineRead_1 : mm_ckp 171 kd_X11_lineRead 100 16 = true := mm_ckn (by decide +kernel)
theorem ck_X11_plan_0 : mm_ckp 172 kd_X11_plan 0 59 = true := mm_ckn (by decide +kernel)
theorem ck_X11_fault_0 : mm_ckp 173 kd_X11_fault 0 30 = true := mm_ckn (by decide +kernel)
theorem ck_X11_fieldOf_0 : mm_ckp 174 kd_X11_fieldOf 0 30 = true := mm_ckn (by decide +kernel)
theorem ck_X11_wordOf_0 : mm_ckp 175 kd_X11_wordOf 0 30 = true := mm_ckn (by decide +kernel)
theorem ck_X11_named_0 : mm_ckp 176 kd_X11_named 0 32 = true := mm_ckn (by decide +kernel)
theorem ck_X11_isField_0 : mm_ckp 177 kd_X11_isField 0 18 = true := mm_ckn (by decide +kernel)
theorem ck_X11_isValued_0 : mm_ckp 178 kd_X11_isValued 0 24 = true := mm_ckn (by decide +kernel)
theorem ck_X11_isWord_0 : mm_ckp 179 kd_X11_isWord 0 18 = true := mm_ckn (by decide +kernel)
theorem ck_X11_fails_0 : mm_ckp 180 kd_X11_fails 0 7 = true := mm_ckn (by decide +kernel)
theorem ck_X11_look_0 : mm_ckp 181 kd_X11_look 0 86 = true := mm_ckn (by decide +kernel)
theorem ck_X11_codeOf_0 : mm_ckp 182 kd_X11_codeOf 0 50 = true := mm_ckn (by decide +kernel)
theorem ck_X11_isValue_0 : mm_ckp 183 kd_X11_isValue 0 28 = true := mm_ckn (by decide +kernel)
theorem ck_X11_code_0 : mm_ckp 184 kd_X11_code 0 25 = true := mm_ckn (by decide +kernel)
theorem ck_X11_isKnowing_0 : mm_ckp 185 kd_X11_isKnowing 0 18 = true := mm_ckn (by decide +kernel)
theorem ck_X11_isCard_0 : mm_ckp 186 kd_X11_isCard 0 18 = true := mm_ckn (by decide +kernel)
theorem ck_X11_wide_0 : mm_ckp 187 kd_X11_wide 0 15 = true := mm_ckn (by decide +kernel)
theorem ck_X11_know_0 : mm_ckp 188 kd_X11_know 0 100 = true := mm_ckn (by decide +kernel)
theorem ck_X11_know_1 : mm_ckp 188 kd_X11_know 100 77 = true := mm_ckn (by decide +kernel)
theorem ck_X11_happens_0 : mm_ckp 189 kd_X11_happens 0 100 = true := mm_ckn (by decide +kernel)
theorem ck_X11_happens_1 : mm_ckp 189 kd_X11_happens 100 100 = true := mm_ckn (by decide +kernel)
theorem ck_X11_happens_2 : mm_ckp 189 kd_X11_happens 200 3 = true := mm_ckn (by decide +kernel)
theorem ck_X11_tells_0 : mm_ckp 190 kd_X11_tells 0 58 = true := mm_ckn (by decide +kernel)
theorem ck_X11_coded_0 : mm_ckp 191 kd_X11_coded 0 35 = true := mm_ckn (by decide +kernel)
theorem ck_X11_card_0 : mm_ckp 192 kd_X11_card 0 58 = true := mm_ckn (by decide +kernel)
theorem ck_X11_set_0 : mm_ckp 193 kd_X11_set 0 45 = true := mm_ckn (by decide +kernel)
theorem ck_X11_put_0 : mm_ckp 194 kd_X11_put 0 44 = true := mm_ckn (by decide +kernel)
theorem ck_X11_tear_0 : mm_ckp 195 kd_X11_tear 0 56 = true := mm_ckn (by decide +kernel)
theorem ck_X11_sizeOf_0 : mm_ckp 196 kd_X11_sizeOf 0 16 = true := mm_ckn (by decide +kernel)
theorem ck_X11_recode_0 : mm_ckp 197 kd_X11_recode 0 72 = true := mm_ckn (by decide +kernel)
theorem ck_X11_strike_0 : mm_ckp 198 kd_X11_strike 0 40 = true := mm_ckn (by decide +kernel)
theorem ck_X11_notched_0 : mm_ckp 199 kd_X11_notched 0 37 = true := mm_ckn (by decide +kernel)
theorem ck_X11_wordsOf_0 : mm_ckp 200 kd_X11_wordsOf 0 40 = true := mm_ckn (by decide +kernel)
theorem ck_X11_truly_0 : mm_ckp 201 kd_X11_truly 0 74 = true := mm_ckn (by decide +kernel)
theorem ck_X11_turn_0 : mm_ckp 202 kd_X11_turn 0 29 = true := mm_ckn (by decide +kernel)
theorem ck_X11_turned_0 : mm_ckp 203 kd_X11_turned 0 10 = true := mm_ckn (by decide +kernel)
theorem ck_X11_isPack_0 : mm_ckp 204 kd_X11_isPack 0 16 = true := mm_ckn (by decide +kernel)
theorem ck_X11_pack_0 : mm_ckp 205 kd_X11_pack 0 42 = true := mm_ckn (by decide +kernel)
theorem ck_X11_falls_0 : mm_ckp 206 kd_X11_falls 0 69 = true := mm_ckn (by decide +kernel)
theorem ck_X11_drops_0 : mm_ckp 207 kd_X11_drops 0 91 = true := mm_ckn (by decide +kernel)
theorem ck_X11_gather_0 : mm_ckp 208 kd_X11_gather 0 69 = true := mm_ckn (by decide +kernel)
theorem ck_X11_comes_0 : mm_ckp 209 kd_X11_comes 0 28 = true := mm_ckn (by decide +kernel)
theorem ck_X11_packRead_0 : mm_ckp 210 kd_X11_packRead 0 52 = true := mm_ckn (by decide +kernel)
theorem ck_X11_holeRead_0 : mm_ckp 211 kd_X11_holeRead 0 100 = true := mm_ckn (by decide +kernel)
theorem ck_X11_holeRead_1 : mm_ckp 211 kd_X11_holeRead 100 50 = true := mm_ckn (by decide +kernel)
theorem ck_X11_passRead_0 : mm_ckp 212 kd_X11_passRead 0 100 = true := mm_ckn (by decide +kernel)
theorem ck_X11_passRead_1 : mm_ckp 212 kd_X11_passRead 100 66 = true := mm_ckn (by decide +kernel)
theorem ck_X11_joinRead_0 : mm_ckp 213 kd_X11_joinRead 0 78 = true := mm_ckn (by decide +kernel)
theorem ck_X11_actRead_0 : mm_ckp 214 kd_X11_actRead 0 100 = true := mm_ckn (by decide +kernel)
theorem ck_X11_actRead_1 : mm_ckp 214 kd_X11_actRead 100 100 = true := mm_ckn (by decide +kernel)
theorem ck_X11_actRead_2 : mm_ckp 214 kd_X11_actRead 200 70 = true := mm_ckn (by decide +kernel)
theorem ck_X11_passes_0 : mm_ckp 215 kd_X11_passes 0 100 = true := mm_ckn (by decide +kernel)
theorem ck_X11_passes_1 : mm_ckp 215 kd_X11_passes 100 83 = true := mm_ckn (by decide +kernel)
theorem ck_X11_joins_0 : mm_ckp 216 kd_X11_joins 0 54 = true := mm_ckn (by decide +kernel)
theorem ck_X11_does_0 : mm_ckp 217 kd_X11_does 0 100 = true := mm_ckn (by decide +kernel)
end
section
theorem ck_X11_does_1 : mm_ckp 217 kd_X11_does 100 100 = true := mm_ckn (by decide +kernel)
theorem ck_X11_does_2 : mm_ckp 217 kd_X11_does 200 8 = true := mm_ckn (by decide +kernel)
theorem ck_X11_work_0 : mm_ckp 218 kd_X11_work 0 54 = true := mm_ckn (by decide +kernel)
theorem ck_X11_weight_0 : mm_ckp 219 kd_X11_weight 0 29 = true := mm_ckn (by decide +kernel)
theorem ck_X11_grown_0 : mm_ckp 220 kd_X11_grown 0 73 = true := mm_ckn (by decide +kernel)
theorem ck_X11_drop_0 : mm_ckp 221 kd_X11_drop 0 20 = true := mm_ckn (by decide +kernel)
theorem ck_X11_bind_0 : mm_ckp 222 kd_X11_bind 0 78 = true := mm_ckn (by decide +kernel)
theorem ck_X11_counts1_0 : mm_ckp 223 kd_X11_counts1 0 27 = true := mm_ckn (by decide +kernel)
theorem ck_X11_leafRead_0 : mm_ckp 224 kd_X11_leafRead 0 100 = true := mm_ckn (by decide +kernel)
theorem ck_X11_leafRead_1 : mm_ckp 224 kd_X11_leafRead 100 100 = true := mm_ckn (by decide +kernel)
theorem ck_X11_leafRead_2 : mm_ckp 224 kd_X11_leafRead 200 53 = true := mm_ckn (by decide +kernel)
theorem ck_X11_signs_0 : mm_ckp 225 kd_X11_signs 0 100 = true := mm_ckn (by decide +kernel)
theorem ck_X11_signs_1 : mm_ckp 225 kd_X11_signs 100 35 = true := mm_ckn (by decide +kernel)
theorem ck_X11_question_0 : mm_ckp 226 kd_X11_question 0 100 = true := mm_ckn (by decide +kernel)
theorem ck_X11_question_1 : mm_ckp 226 kd_X11_question 100 77 = true := mm_ckn (by decide +kernel)
theorem ck_X11_answers_0 : mm_ckp 227 kd_X11_answers 0 100 = true := mm_ckn (by decide +kernel)
theorem ck_X11_answers_1 : mm_ckp 227 kd_X11_answers 100 100 = true := mm_ckn (by decide +kernel)
theorem ck_X11_answers_2 : mm_ckp 227 kd_X11_answers 200 100 = true := mm_ckn (by decide +kernel)
theorem ck_X11_answers_3 : mm_ckp 227 kd_X11_answers 300 2 = true := mm_ckn (by decide +kernel)
theorem ck_X11_ask_0 : mm_ckp 228 kd_X11_ask 0 100 = true := mm_ckn (by decide +kernel)
theorem ck_X11_ask_1 : mm_ckp 228 kd_X11_ask 100 42 = true := mm_ckn (by decide +kernel)
theorem ck_X11_choose_0 : mm_ckp 229 kd_X11_choose 0 42 = true := mm_ckn (by decide +kernel)
theorem ck_X11_hasWord_0 : mm_ckp 230 kd_X11_hasWord 0 20 = true := mm_ckn (by decide +kernel)
theorem ck_X11_inField_0 : mm_ckp 231 kd_X11_inField 0 23 = true := mm_ckn (by decide +kernel)
theorem ck_X11_likely_0 : mm_ckp 232 kd_X11_likely 0 100 = true := mm_ckn (by decide +kernel)
theorem ck_X11_likely_1 : mm_ckp 232 kd_X11_likely 100 33 = true := mm_ckn (by decide +kernel)
theorem ck_X11_falseBy_0 : mm_ckp 233 kd_X11_falseBy 0 62 = true := mm_ckn (by decide +kernel)
theorem ck_X11_falsely_0 : mm_ckp 234 kd_X11_falsely 0 40 = true := mm_ckn (by decide +kernel)
theorem ck_X11_shared_0 : mm_ckp 235 kd_X11_shared 0 51 = true := mm_ckn (by decide +kernel)
theorem ck_X11_best_0 : mm_ckp 236 kd_X11_best 0 100 = true := mm_ckn (by decide +kernel)
theorem ck_X11_best_1 : mm_ckp 236 kd_X11_best 100 100 = true := mm_ckn (by decide +kernel)
theorem ck_X11_best_2 : mm_ckp 236 kd_X11_best 200 100 = true := mm_ckn (by decide +kernel)
theorem ck_X11_best_3 : mm_ckp 236 kd_X11_best 300 15 = true := mm_ckn (by decide +kernel)
theorem ck_X11_means_0 : mm_ckp 237 kd_X11_means 0 92 = true := mm_ckn (by decide +kernel)
theorem ck_X11_meansWords_0 : mm_ckp 238 kd_X11_meansWords 0 100 = true := mm_ckn (by decide +kernel)
theorem ck_X11_meansWords_1 : mm_ckp 238 kd_X11_meansWords 100 100 = true := mm_ckn (by decide +kernel)
theorem ck_X11_meansWords_2 : mm_ckp 238 kd_X11_meansWords 200 38 = true := mm_ckn (by decide +kernel)
theorem ck_X11_meansValue_0 : mm_ckp 239 kd_X11_meansValue 0 100 = true := mm_ckn (by decide +kernel)
theorem ck_X11_meansValue_1 : mm_ckp 239 kd_X11_meansValue 100 29 = true := mm_ckn (by decide +kernel)
theorem ck_X11_valueOf_0 : mm_ckp 240 kd_X11_valueOf 0 12 = true := mm_ckn (by decide +kernel)
theorem ck_X11_behind_0 : mm_ckp 241 kd_X11_behind 0 100 = true := mm_ckn (by decide +kernel)
theorem ck_X11_behind_1 : mm_ckp 241 kd_X11_behind 100 80 = true := mm_ckn (by decide +kernel)
theorem ck_X11_sorts_0 : mm_ckp 242 kd_X11_sorts 0 100 = true := mm_ckn (by decide +kernel)
theorem ck_X11_sorts_1 : mm_ckp 242 kd_X11_sorts 100 100 = true := mm_ckn (by decide +kernel)
theorem ck_X11_sorts_2 : mm_ckp 242 kd_X11_sorts 200 64 = true := mm_ckn (by decide +kernel)
theorem ck_X11_nextRow_0 : mm_ckp 243 kd_X11_nextRow 0 100 = true := mm_ckn (by decide +kernel)
theorem ck_X11_nextRow_1 : mm_ckp 243 kd_X11_nextRow 100 39 = true := mm_ckn (by decide +kernel)
theorem ck_X11_sort_0 : mm_ckp 244 kd_X11_sort 0 100 = true := mm_ckn (by decide +kernel)
theorem ck_X11_sort_1 : mm_ckp 244 kd_X11_sort 100 100 = true := mm_ckn (by decide +kernel)
theorem ck_X11_sort_2 : mm_ckp 244 kd_X11_sort 200 32 = true := mm_ckn (by decide +kernel)
theorem ck_X11_count_0 : mm_ckp 245 kd_X11_count 0 94 = true := mm_ckn (by decide +kernel)
theorem ck_J6_bitCount_0f7a4_0 : mm_ckp 246 kd_J6_bitCount_0f7a4 0 53 = true := mm_ckn (by decide +kernel)
theorem ck_J13_bitCount_95d88_0 : mm_ckp 247 kd_J13_bitCount_95d88 0 61 = true := mm_ckn (by decide +kernel)
theorem ck_X10_look_0 : mm_ckp 248 kd_X10_look 0 92 = true := mm_ckn (by decide +kernel)
end
section
set_option maxRecDepth 20000 in
theorem tb_0 : ∀ w ∈ k2_sels lw_privs, w ∈ lw_tbl := fun w h => List.mem_append_left _ h
set_option maxRecDepth 20000 in
theorem tb_1 : ∀ w ∈ tables_1_1, w ∈ lw_tbl := fun w h => tb_of (List.mem_append_left _ h)
set_option maxRecDepth 20000 in
theorem tb_2 : ∀ w ∈ tables_1_2, w ∈ lw_tbl := fun w h => tb_of (tb_of (List.mem_append_left _ h))
set_option maxRecDepth 20000 in
theorem tb_3 : ∀ w ∈ tables_1_3, w ∈ lw_tbl := fun w h => tb_of (tb_of (tb_of (List.mem_append_left _ h)))
set_option maxRecDepth 20000 in
theorem tb_4 : ∀ w ∈ tables_1_4, w ∈ lw_tbl := fun w h => tb_of (tb_of (tb_of (tb_of (List.mem_append_left _ h))))
set_option maxRecDepth 20000 in
theorem tb_5 : ∀ w ∈ tables_1_5, w ∈ lw_tbl := fun w h => tb_of (tb_of (tb_of (tb_of (tb_of (List.mem_append_left _ h)))))
set_option maxRecDepth 20000 in
theorem tb_6 : ∀ w ∈ tables_1_6, w ∈ lw_tbl := fun w h => tb_of (tb_of (tb_of (tb_of (tb_of (tb_of (List.mem_append_left _ h))))))
set_option maxRecDepth 20000 in
theorem tb_7 : ∀ w ∈ tables_1_7, w ∈ lw_tbl := fun w h => tb_of (tb_of (tb_of (tb_of (tb_of (tb_of (tb_of (List.mem_append_left _ h)))))))
set_option maxRecDepth 20000 in
theorem tb_8 : ∀ w ∈ tables_1_8, w ∈ lw_tbl := fun w h => tb_of (tb_of (tb_of (tb_of (tb_of (tb_of (tb_of (tb_of h)))))))
set_option maxRecDepth 20000 in
theorem mw_1 : ∀ w ∈ mm_mw 1, w ∈ lw_tbl := (List.forall_mem_cons.mpr ⟨(tb_1 _ (List.mem_of_getElem? (i := 222) rfl)), (List.forall_mem_cons.mpr ⟨(tb_1 _ (List.mem_of_getElem? (i := 7) rfl)), (List.forall_mem_cons.mpr ⟨(tb_1 _ (List.mem_of_getElem? (i := 221) rfl)), (fun _ h => absurd h List.not_mem_nil)⟩)⟩)⟩)
set_option maxRecDepth 20000 in
theorem mw_2 : ∀ w ∈ mm_mw 2, w ∈ lw_tbl := (List.forall_mem_cons.mpr ⟨(tb_5 _ (List.mem_of_getElem? (i := 17) rfl)), (List.forall_mem_cons.mpr ⟨(tb_1 _ (List.mem_of_getElem? (i := 7) rfl)), (List.forall_mem_cons.mpr ⟨(tb_5 _ (List.mem_of_getElem? (i := 15) rfl)), (List.forall_mem_cons.mpr ⟨(tb_5 _ (List.mem_of_getElem? (i := 16) rfl)), (fun _ h => absurd h List.not_mem_nil)⟩)⟩)⟩)⟩)
set_option maxRecDepth 20000 in
theorem mw_3 : ∀ w ∈ mm_mw 3, w ∈ lw_tbl := (List.forall_mem_cons.mpr ⟨(tb_5 _ (List.mem_of_getElem? (i := 23) rfl)), (List.forall_mem_cons.mpr ⟨(tb_1 _ (List.mem_of_getElem? (i := 7) rfl)), (List.forall_mem_cons.mpr ⟨(tb_5 _ (List.mem_of_getElem? (i := 22) rfl)), (fun _ h => absurd h List.not_mem_nil)⟩)⟩)⟩)
set_option maxRecDepth 20000 in
theorem mw_4 : ∀ w ∈ mm_mw 4, w ∈ lw_tbl := (List.forall_mem_cons.mpr ⟨(tb_5 _ (List.mem_of_getElem? (i := 26) rfl)), (List.forall_mem_cons.mpr ⟨(tb_1 _ (List.mem_of_getElem? (i := 7) rfl)), (List.forall_mem_cons.mpr ⟨(tb_5 _ (List.mem_of_getElem? (i := 25) rfl)), (fun _ h => absurd h List.not_mem_nil)⟩)⟩)⟩)
set_option maxRecDepth 20000 in
theorem mw_5 : ∀ w ∈ mm_mw 5, w ∈ lw_tbl := (List.forall_mem_cons.mpr ⟨(tb_5 _ (List.mem_of_getElem? (i := 30) rfl)), (List.forall_mem_cons.mpr ⟨(tb_1 _ (List.mem_of_getElem? (i := 7) rfl)), (List.forall_mem_cons.mpr ⟨(tb_5 _ (List.mem_of_getElem? (i := 28) rfl)), (List.forall_mem_cons.mpr ⟨(tb_5 _ (List.mem_of_getElem? (i := 29) rfl)), (fun _ h => absurd h List.not_mem_nil)⟩)⟩)⟩)⟩)
set_option maxRecDepth 20000 in
theorem mw_6 : ∀ w ∈ mm_mw 6, w ∈ lw_tbl := (List.forall_mem_cons.mpr ⟨(tb_5 _ (List.mem_of_getElem? (i := 35) rfl)), (List.forall_mem_cons.mpr ⟨(tb_1 _ (List.mem_of_getElem? (i := 7) rfl)), (List.forall_mem_cons.mpr ⟨(tb_5 _ (List.mem_of_getElem? (i := 33) rfl)), (List.forall_mem_cons.mpr ⟨(tb_5 _ (List.mem_of_getElem? (i := 34) rfl)), (fun _ h => absurd h List.not_mem_nil)⟩)⟩)⟩)⟩)
set_option maxRecDepth 20000 in
theorem mw_7 : ∀ w ∈ mm_mw 7, w ∈ lw_tbl := (List.forall_mem_cons.mpr ⟨(tb_1 _ (List.mem_of_getElem? (i := 116) rfl)), (List.forall_mem_cons.mpr ⟨(tb_1 _ (List.mem_of_getElem? (i := 4) rfl)), (List.forall_mem_cons.mpr ⟨(tb_1 _ (List.mem_of_getElem? (i := 115) rfl)), (fun _ h => absurd h List.not_mem_nil)⟩)⟩)⟩)
set_option maxRecDepth 20000 in
theorem mw_8 : ∀ w ∈ mm_mw 8, w ∈ lw_tbl := (List.forall_mem_cons.mpr ⟨(tb_3 _ (List.mem_of_getElem? (i := 149) rfl)), (List.forall_mem_cons.mpr ⟨(tb_1 _ (List.mem_of_getElem? (i := 4) rfl)), (List.forall_mem_cons.mpr ⟨(tb_3 _ (List.mem_of_getElem? (i := 147) rfl)), (List.forall_mem_cons.mpr ⟨(tb_3 _ (List.mem_of_getElem? (i := 148) rfl)), (fun _ h => absurd h List.not_mem_nil)⟩)⟩)⟩)⟩)
set_option maxRecDepth 20000 in
theorem mw_9 : ∀ w ∈ mm_mw 9, w ∈ lw_tbl := (List.forall_mem_cons.mpr ⟨(tb_3 _ (List.mem_of_getElem? (i := 153) rfl)), (List.forall_mem_cons.mpr ⟨(tb_1 _ (List.mem_of_getElem? (i := 4) rfl)), (List.forall_mem_cons.mpr ⟨(tb_3 _ (List.mem_of_getElem? (i := 151) rfl)), (List.forall_mem_cons.mpr ⟨(tb_3 _ (List.mem_of_getElem? (i := 152) rfl)), (fun _ h => absurd h List.not_mem_nil)⟩)⟩)⟩)⟩)
set_option maxRecDepth 20000 in
theorem mw_10 : ∀ w ∈ mm_mw 10, w ∈ lw_tbl := (List.forall_mem_cons.mpr ⟨(tb_3 _ (List.mem_of_getElem? (i := 157) rfl)), (List.forall_mem_cons.mpr ⟨(tb_1 _ (List.mem_of_getElem? (i := 4) rfl)), (List.forall_mem_cons.mpr ⟨(tb_3 _ (List.mem_of_getElem? (i := 155) rfl)), (List.forall_mem_cons.mpr ⟨(tb_3 _ (List.mem_of_getElem? (i := 156) rfl)), (fun _ h => absurd h List.not_mem_nil)⟩)⟩)⟩)⟩)
set_option maxRecDepth 20000 in
theorem mw_11 : ∀ w ∈ mm_mw 11, w ∈ lw_tbl := (List.forall_mem_cons.mpr ⟨(tb_3 _ (List.mem_of_getElem? (i := 162) rfl)), (List.forall_mem_cons.mpr ⟨(tb_1 _ (List.mem_of_getElem? (i := 4) rfl)), (List.forall_mem_cons.mpr ⟨(tb_3 _ (List.mem_of_getElem? (i := 160) rfl)), (List.forall_mem_cons.mpr ⟨(tb_3 _ (List.mem_of_getElem? (i := 161) rfl)), (fun _ h => absurd h List.not_mem_nil)⟩)⟩)⟩)⟩)
set_option maxRecDepth 20000 in
theorem mw_12 : ∀ w ∈ mm_mw 12, w ∈ lw_tbl := (List.forall_mem_cons.mpr ⟨(tb_4 _ (List.mem_of_getElem? (i := 170) rfl)), (List.forall_mem_cons.mpr ⟨(tb_1 _ (List.mem_of_getElem? (i := 4) rfl)), (List.forall_mem_cons.mpr ⟨(tb_4 _ (List.mem_of_getElem? (i := 168) rfl)), (List.forall_mem_cons.mpr ⟨(tb_4 _ (List.mem_of_getElem? (i := 169) rfl)), (fun _ h => absurd h List.not_mem_nil)⟩)⟩)⟩)⟩)
set_option maxRecDepth 20000 in
theorem mw_13 : ∀ w ∈ mm_mw 13, w ∈ lw_tbl := (List.forall_mem_cons.mpr ⟨(tb_4 _ (List.mem_of_getElem? (i := 215) rfl)), (List.forall_mem_cons.mpr ⟨(tb_1 _ (List.mem_of_getElem? (i := 4) rfl)), (List.forall_mem_cons.mpr ⟨(tb_4 _ (List.mem_of_getElem? (i := 213) rfl)), (List.forall_mem_cons.mpr ⟨(tb_4 _ (List.mem_of_getElem? (i := 214) rfl)), (fun _ h => absurd h List.not_mem_nil)⟩)⟩)⟩)⟩)
set_option maxRecDepth 20000 in
theorem mw_14 : ∀ w ∈ mm_mw 14, w ∈ lw_tbl := (List.forall_mem_cons.mpr ⟨(tb_4 _ (List.mem_of_getElem? (i := 225) rfl)), (List.forall_mem_cons.mpr ⟨(tb_1 _ (List.mem_of_getElem? (i := 4) rfl)), (List.forall_mem_cons.mpr ⟨(tb_4 _ (List.mem_of_getElem? (i := 223) rfl)), (List.forall_mem_cons.mpr ⟨(tb_4 _ (List.mem_of_getElem? (i := 224) rfl)), (fun _ h => absurd h List.not_mem_nil)⟩)⟩)⟩)⟩)
set_option maxRecDepth 20000 in
theorem mw_15 : ∀ w ∈ mm_mw 15, w ∈ lw_tbl := (List.forall_mem_cons.mpr ⟨(tb_2 _ (List.mem_of_getElem? (i := 4) rfl)), (List.forall_mem_cons.mpr ⟨(tb_1 _ (List.mem_of_getElem? (i := 8) rfl)), (List.forall_mem_cons.mpr ⟨(tb_2 _ (List.mem_of_getElem? (i := 3) rfl)), (fun _ h => absurd h List.not_mem_nil)⟩)⟩)⟩)
set_option maxRecDepth 20000 in
theorem mw_16 : ∀ w ∈ mm_mw 16, w ∈ lw_tbl := (List.forall_mem_cons.mpr ⟨(tb_5 _ (List.mem_of_getElem? (i := 43) rfl)), (List.forall_mem_cons.mpr ⟨(tb_1 _ (List.mem_of_getElem? (i := 8) rfl)), (List.forall_mem_cons.mpr ⟨(tb_5 _ (List.mem_of_getElem? (i := 41) rfl)), (List.forall_mem_cons.mpr ⟨(tb_5 _ (List.mem_of_getElem? (i := 42) rfl)), (fun _ h => absurd h List.not_mem_nil)⟩)⟩)⟩)⟩)
set_option maxRecDepth 20000 in
theorem mw_17 : ∀ w ∈ mm_mw 17, w ∈ lw_tbl := (List.forall_mem_cons.mpr ⟨(tb_5 _ (List.mem_of_getElem? (i := 50) rfl)), (List.forall_mem_cons.mpr ⟨(tb_1 _ (List.mem_of_getElem? (i := 8) rfl)), (List.forall_mem_cons.mpr ⟨(tb_5 _ (List.mem_of_getElem? (i := 48) rfl)), (List.forall_mem_cons.mpr ⟨(tb_5 _ (List.mem_of_getElem? (i := 49) rfl)), (fun _ h => absurd h List.not_mem_nil)⟩)⟩)⟩)⟩)
set_option maxRecDepth 20000 in
theorem mw_18 : ∀ w ∈ mm_mw 18, w ∈ lw_tbl := (List.forall_mem_cons.mpr ⟨(tb_5 _ (List.mem_of_getElem? (i := 56) rfl)), (List.forall_mem_cons.mpr ⟨(tb_1 _ (List.mem_of_getElem? (i := 8) rfl)), (List.forall_mem_cons.mpr ⟨(tb_5 _ (List.mem_of_getElem? (i := 54) rfl)), (List.forall_mem_cons.mpr ⟨(tb_5 _ (List.mem_of_getElem? (i := 55) rfl)), (fun _ h => absurd h List.not_mem_nil)⟩)⟩)⟩)⟩)
set_option maxRecDepth 20000 in
theorem mw_19 : ∀ w ∈ mm_mw 19, w ∈ lw_tbl := (List.forall_mem_cons.mpr ⟨(tb_1 _ (List.mem_of_getElem? (i := 89) rfl)), (List.forall_mem_cons.mpr ⟨(tb_1 _ (List.mem_of_getElem? (i := 3) rfl)), (List.forall_mem_cons.mpr ⟨(tb_1 _ (List.mem_of_getElem? (i := 88) rfl)), (fun _ h => absurd h List.not_mem_nil)⟩)⟩)⟩)
set_option maxRecDepth 20000 in
theorem mw_20 : ∀ w ∈ mm_mw 20, w ∈ lw_tbl := (List.forall_mem_cons.mpr ⟨(tb_4 _ (List.mem_of_getElem? (i := 125) rfl)), (List.forall_mem_cons.mpr ⟨(tb_1 _ (List.mem_of_getElem? (i := 3) rfl)), (List.forall_mem_cons.mpr ⟨(tb_4 _ (List.mem_of_getElem? (i := 123) rfl)), (List.forall_mem_cons.mpr ⟨(tb_4 _ (List.mem_of_getElem? (i := 124) rfl)), (fun _ h => absurd h List.not_mem_nil)⟩)⟩)⟩)⟩)
set_option maxRecDepth 20000 in
theorem mw_21 : ∀ w ∈ mm_mw 21, w ∈ lw_tbl := (List.forall_mem_cons.mpr ⟨(tb_1 _ (List.mem_of_getElem? (i := 150) rfl)), (List.forall_mem_cons.mpr ⟨(tb_1 _ (List.mem_of_getElem? (i := 5) rfl)), (List.forall_mem_cons.mpr ⟨(tb_1 _ (List.mem_of_getElem? (i := 149) rfl)), (fun _ h => absurd h List.not_mem_nil)⟩)⟩)⟩)
set_option maxRecDepth 20000 in
theorem mw_22 : ∀ w ∈ mm_mw 22, w ∈ lw_tbl := (List.forall_mem_cons.mpr ⟨(tb_3 _ (List.mem_of_getElem? (i := 137) rfl)), (List.forall_mem_cons.mpr ⟨(tb_1 _ (List.mem_of_getElem? (i := 5) rfl)), (List.forall_mem_cons.mpr ⟨(tb_3 _ (List.mem_of_getElem? (i := 135) rfl)), (List.forall_mem_cons.mpr ⟨(tb_3 _ (List.mem_of_getElem? (i := 136) rfl)), (fun _ h => absurd h List.not_mem_nil)⟩)⟩)⟩)⟩)
set_option maxRecDepth 20000 in
theorem mw_23 : ∀ w ∈ mm_mw 23, w ∈ lw_tbl := (List.forall_mem_cons.mpr ⟨(tb_4 _ (List.mem_of_getElem? (i := 28) rfl)), (List.forall_mem_cons.mpr ⟨(tb_1 _ (List.mem_of_getElem? (i := 5) rfl)), (List.forall_mem_cons.mpr ⟨(tb_4 _ (List.mem_of_getElem? (i := 26) rfl)), (List.forall_mem_cons.mpr ⟨(tb_4 _ (List.mem_of_getElem? (i := 27) rfl)), (fun _ h => absurd h List.not_mem_nil)⟩)⟩)⟩)⟩)
set_option maxRecDepth 20000 in
theorem mw_24 : ∀ w ∈ mm_mw 24, w ∈ lw_tbl := (List.forall_mem_cons.mpr ⟨(tb_4 _ (List.mem_of_getElem? (i := 1) rfl)), (List.forall_mem_cons.mpr ⟨(tb_1 _ (List.mem_of_getElem? (i := 5) rfl)), (List.forall_mem_cons.mpr ⟨(tb_3 _ (List.mem_of_getElem? (i := 239) rfl)), (List.forall_mem_cons.mpr ⟨(tb_4 _ (List.mem_of_getElem? (i := 0) rfl)), (fun _ h => absurd h List.not_mem_nil)⟩)⟩)⟩)⟩)
set_option maxRecDepth 20000 in
theorem mw_25 : ∀ w ∈ mm_mw 25, w ∈ lw_tbl := (List.forall_mem_cons.mpr ⟨(tb_4 _ (List.mem_of_getElem? (i := 4) rfl)), (List.forall_mem_cons.mpr ⟨(tb_1 _ (List.mem_of_getElem? (i := 5) rfl)), (List.forall_mem_cons.mpr ⟨(tb_4 _ (List.mem_of_getElem? (i := 3) rfl)), (fun _ h => absurd h List.not_mem_nil)⟩)⟩)⟩)
set_option maxRecDepth 20000 in
theorem mw_26 : ∀ w ∈ mm_mw 26, w ∈ lw_tbl := (List.forall_mem_cons.mpr ⟨(tb_4 _ (List.mem_of_getElem? (i := 24) rfl)), (List.forall_mem_cons.mpr ⟨(tb_1 _ (List.mem_of_getElem? (i := 5) rfl)), (List.forall_mem_cons.mpr ⟨(tb_4 _ (List.mem_of_getElem? (i := 22) rfl)), (List.forall_mem_cons.mpr ⟨(tb_4 _ (List.mem_of_getElem? (i := 23) rfl)), (fun _ h => absurd h List.not_mem_nil)⟩)⟩)⟩)⟩)
set_option maxRecDepth 20000 in
theorem mw_27 : ∀ w ∈ mm_mw 27, w ∈ lw_tbl := (List.forall_mem_cons.mpr ⟨(tb_4 _ (List.mem_of_getElem? (i := 194) rfl)), (List.forall_mem_cons.mpr ⟨(tb_1 _ (List.mem_of_getElem? (i := 5) rfl)), (List.forall_mem_cons.mpr ⟨(tb_4 _ (List.mem_of_getElem? (i := 192) rfl)), (List.forall_mem_cons.mpr ⟨(tb_4 _ (List.mem_of_getElem? (i := 193) rfl)), (fun _ h => absurd h List.not_mem_nil)⟩)⟩)⟩)⟩)
set_option maxRecDepth 20000 in
theorem mw_28 : ∀ w ∈ mm_mw 28, w ∈ lw_tbl := (List.forall_mem_cons.mpr ⟨(tb_4 _ (List.mem_of_getElem? (i := 20) rfl)), (List.forall_mem_cons.mpr ⟨(tb_1 _ (List.mem_of_getElem? (i := 5) rfl)), (List.forall_mem_cons.mpr ⟨(tb_4 _ (List.mem_of_getElem? (i := 18) rfl)), (List.forall_mem_cons.mpr ⟨(tb_4 _ (List.mem_of_getElem? (i := 19) rfl)), (fun _ h => absurd h List.not_mem_nil)⟩)⟩)⟩)⟩)
set_option maxRecDepth 20000 in
theorem mw_29 : ∀ w ∈ mm_mw 29, w ∈ lw_tbl := (List.forall_mem_cons.mpr ⟨(tb_2 _ (List.mem_of_getElem? (i := 73) rfl)), (List.forall_mem_cons.mpr ⟨(tb_1 _ (List.mem_of_getElem? (i := 10) rfl)), (List.forall_mem_cons.mpr ⟨(tb_2 _ (List.mem_of_getElem? (i := 72) rfl)), (fun _ h => absurd h List.not_mem_nil)⟩)⟩)⟩)
set_option maxRecDepth 20000 in
theorem mw_30 : ∀ w ∈ mm_mw 30, w ∈ lw_tbl := (List.forall_mem_cons.mpr ⟨(tb_3 _ (List.mem_of_getElem? (i := 30) rfl)), (List.forall_mem_cons.mpr ⟨(tb_1 _ (List.mem_of_getElem? (i := 10) rfl)), (List.forall_mem_cons.mpr ⟨(tb_3 _ (List.mem_of_getElem? (i := 28) rfl)), (List.forall_mem_cons.mpr ⟨(tb_3 _ (List.mem_of_getElem? (i := 29) rfl)), (fun _ h => absurd h List.not_mem_nil)⟩)⟩)⟩)⟩)
set_option maxRecDepth 20000 in
theorem mw_31 : ∀ w ∈ mm_mw 31, w ∈ lw_tbl := (List.forall_mem_cons.mpr ⟨(tb_3 _ (List.mem_of_getElem? (i := 34) rfl)), (List.forall_mem_cons.mpr ⟨(tb_1 _ (List.mem_of_getElem? (i := 10) rfl)), (List.forall_mem_cons.mpr ⟨(tb_3 _ (List.mem_of_getElem? (i := 32) rfl)), (List.forall_mem_cons.mpr ⟨(tb_3 _ (List.mem_of_getElem? (i := 33) rfl)), (fun _ h => absurd h List.not_mem_nil)⟩)⟩)⟩)⟩)
set_option maxRecDepth 20000 in
theorem mw_32 : ∀ w ∈ mm_mw 32, w ∈ lw_tbl := (List.forall_mem_cons.mpr ⟨(tb_3 _ (List.mem_of_getElem? (i := 43) rfl)), (List.forall_mem_cons.mpr ⟨(tb_1 _ (List.mem_of_getElem? (i := 10) rfl)), (List.forall_mem_cons.mpr ⟨(tb_3 _ (List.mem_of_getElem? (i := 41) rfl)), (List.forall_mem_cons.mpr ⟨(tb_3 _ (List.mem_of_getElem? (i := 42) rfl)), (fun _ h => absurd h List.not_mem_nil)⟩)⟩)⟩)⟩)
set_option maxRecDepth 20000 in
theorem mw_33 : ∀ w ∈ mm_mw 33, w ∈ lw_tbl := (List.forall_mem_cons.mpr ⟨(tb_3 _ (List.mem_of_getElem? (i := 58) rfl)), (List.forall_mem_cons.mpr ⟨(tb_1 _ (List.mem_of_getElem? (i := 10) rfl)), (List.forall_mem_cons.mpr ⟨(tb_3 _ (List.mem_of_getElem? (i := 56) rfl)), (List.forall_mem_cons.mpr ⟨(tb_3 _ (List.mem_of_getElem? (i := 57) rfl)), (fun _ h => absurd h List.not_mem_nil)⟩)⟩)⟩)⟩)
set_option maxRecDepth 20000 in
theorem mw_34 : ∀ w ∈ mm_mw 34, w ∈ lw_tbl := (List.forall_mem_cons.mpr ⟨(tb_3 _ (List.mem_of_getElem? (i := 62) rfl)), (List.forall_mem_cons.mpr ⟨(tb_1 _ (List.mem_of_getElem? (i := 10) rfl)), (List.forall_mem_cons.mpr ⟨(tb_3 _ (List.mem_of_getElem? (i := 60) rfl)), (List.forall_mem_cons.mpr ⟨(tb_3 _ (List.mem_of_getElem? (i := 61) rfl)), (fun _ h => absurd h List.not_mem_nil)⟩)⟩)⟩)⟩)
set_option maxRecDepth 20000 in
theorem mw_35 : ∀ w ∈ mm_mw 35, w ∈ lw_tbl := (List.forall_mem_cons.mpr ⟨(tb_3 _ (List.mem_of_getElem? (i := 76) rfl)), (List.forall_mem_cons.mpr ⟨(tb_1 _ (List.mem_of_getElem? (i := 10) rfl)), (List.forall_mem_cons.mpr ⟨(tb_3 _ (List.mem_of_getElem? (i := 75) rfl)), (fun _ h => absurd h List.not_mem_nil)⟩)⟩)⟩)
set_option maxRecDepth 20000 in
theorem mw_36 : ∀ w ∈ mm_mw 36, w ∈ lw_tbl := (List.forall_mem_cons.mpr ⟨(tb_3 _ (List.mem_of_getElem? (i := 99) rfl)), (List.forall_mem_cons.mpr ⟨(tb_1 _ (List.mem_of_getElem? (i := 10) rfl)), (List.forall_mem_cons.mpr ⟨(tb_3 _ (List.mem_of_getElem? (i := 97) rfl)), (List.forall_mem_cons.mpr ⟨(tb_3 _ (List.mem_of_getElem? (i := 98) rfl)), (fun _ h => absurd h List.not_mem_nil)⟩)⟩)⟩)⟩)
set_option maxRecDepth 20000 in
theorem mw_37 : ∀ w ∈ mm_mw 37, w ∈ lw_tbl := (List.forall_mem_cons.mpr ⟨(tb_3 _ (List.mem_of_getElem? (i := 84) rfl)), (List.forall_mem_cons.mpr ⟨(tb_1 _ (List.mem_of_getElem? (i := 10) rfl)), (List.forall_mem_cons.mpr ⟨(tb_3 _ (List.mem_of_getElem? (i := 82) rfl)), (List.forall_mem_cons.mpr ⟨(tb_3 _ (List.mem_of_getElem? (i := 83) rfl)), (fun _ h => absurd h List.not_mem_nil)⟩)⟩)⟩)⟩)
set_option maxRecDepth 20000 in
theorem mw_38 : ∀ w ∈ mm_mw 38, w ∈ lw_tbl := (List.forall_mem_cons.mpr ⟨(tb_3 _ (List.mem_of_getElem? (i := 104) rfl)), (List.forall_mem_cons.mpr ⟨(tb_1 _ (List.mem_of_getElem? (i := 10) rfl)), (List.forall_mem_cons.mpr ⟨(tb_3 _ (List.mem_of_getElem? (i := 102) rfl)), (List.forall_mem_cons.mpr ⟨(tb_3 _ (List.mem_of_getElem? (i := 103) rfl)), (fun _ h => absurd h List.not_mem_nil)⟩)⟩)⟩)⟩)
set_option maxRecDepth 20000 in
theorem mw_39 : ∀ w ∈ mm_mw 39, w ∈ lw_tbl := (List.forall_mem_cons.mpr ⟨(tb_3 _ (List.mem_of_getElem? (i := 88) rfl)), (List.forall_mem_cons.mpr ⟨(tb_1 _ (List.mem_of_getElem? (i := 10) rfl)), (List.forall_mem_cons.mpr ⟨(tb_3 _ (List.mem_of_getElem? (i := 86) rfl)), (List.forall_mem_cons.mpr ⟨(tb_3 _ (List.mem_of_getElem? (i := 87) rfl)), (fun _ h => absurd h List.not_mem_nil)⟩)⟩)⟩)⟩)
set_option maxRecDepth 20000 in
theorem mw_40 : ∀ w ∈ mm_mw 40, w ∈ lw_tbl := (List.forall_mem_cons.mpr ⟨(tb_3 _ (List.mem_of_getElem? (i := 95) rfl)), (List.forall_mem_cons.mpr ⟨(tb_1 _ (List.mem_of_getElem? (i := 10) rfl)), (List.forall_mem_cons.mpr ⟨(tb_3 _ (List.mem_of_getElem? (i := 93) rfl)), (List.forall_mem_cons.mpr ⟨(tb_3 _ (List.mem_of_getElem? (i := 94) rfl)), (fun _ h => absurd h List.not_mem_nil)⟩)⟩)⟩)⟩)
set_option maxRecDepth 20000 in
theorem mw_41 : ∀ w ∈ mm_mw 41, w ∈ lw_tbl := (List.forall_mem_cons.mpr ⟨(tb_3 _ (List.mem_of_getElem? (i := 113) rfl)), (List.forall_mem_cons.mpr ⟨(tb_1 _ (List.mem_of_getElem? (i := 10) rfl)), (List.forall_mem_cons.mpr ⟨(tb_3 _ (List.mem_of_getElem? (i := 111) rfl)), (List.forall_mem_cons.mpr ⟨(tb_3 _ (List.mem_of_getElem? (i := 112) rfl)), (fun _ h => absurd h List.not_mem_nil)⟩)⟩)⟩)⟩)
set_option maxRecDepth 20000 in
theorem mw_42 : ∀ w ∈ mm_mw 42, w ∈ lw_tbl := (List.forall_mem_cons.mpr ⟨(tb_3 _ (List.mem_of_getElem? (i := 125) rfl)), (List.forall_mem_cons.mpr ⟨(tb_1 _ (List.mem_of_getElem? (i := 10) rfl)), (List.forall_mem_cons.mpr ⟨(tb_3 _ (List.mem_of_getElem? (i := 123) rfl)), (List.forall_mem_cons.mpr ⟨(tb_3 _ (List.mem_of_getElem? (i := 124) rfl)), (fun _ h => absurd h List.not_mem_nil)⟩)⟩)⟩)⟩)
set_option maxRecDepth 20000 in
theorem mw_43 : ∀ w ∈ mm_mw 43, w ∈ lw_tbl := (List.forall_mem_cons.mpr ⟨(tb_3 _ (List.mem_of_getElem? (i := 117) rfl)), (List.forall_mem_cons.mpr ⟨(tb_1 _ (List.mem_of_getElem? (i := 10) rfl)), (List.forall_mem_cons.mpr ⟨(tb_3 _ (List.mem_of_getElem? (i := 115) rfl)), (List.forall_mem_cons.mpr ⟨(tb_3 _ (List.mem_of_getElem? (i := 116) rfl)), (fun _ h => absurd h List.not_mem_nil)⟩)⟩)⟩)⟩)
set_option maxRecDepth 20000 in
theorem mw_44 : ∀ w ∈ mm_mw 44, w ∈ lw_tbl := (List.forall_mem_cons.mpr ⟨(tb_3 _ (List.mem_of_getElem? (i := 216) rfl)), (List.forall_mem_cons.mpr ⟨(tb_1 _ (List.mem_of_getElem? (i := 10) rfl)), (List.forall_mem_cons.mpr ⟨(tb_3 _ (List.mem_of_getElem? (i := 214) rfl)), (List.forall_mem_cons.mpr ⟨(tb_3 _ (List.mem_of_getElem? (i := 215) rfl)), (fun _ h => absurd h List.not_mem_nil)⟩)⟩)⟩)⟩)
set_option maxRecDepth 20000 in
theorem mw_45 : ∀ w ∈ mm_mw 45, w ∈ lw_tbl := (List.forall_mem_cons.mpr ⟨(tb_3 _ (List.mem_of_getElem? (i := 121) rfl)), (List.forall_mem_cons.mpr ⟨(tb_1 _ (List.mem_of_getElem? (i := 10) rfl)), (List.forall_mem_cons.mpr ⟨(tb_3 _ (List.mem_of_getElem? (i := 119) rfl)), (List.forall_mem_cons.mpr ⟨(tb_3 _ (List.mem_of_getElem? (i := 120) rfl)), (fun _ h => absurd h List.not_mem_nil)⟩)⟩)⟩)⟩)
set_option maxRecDepth 20000 in
theorem mw_46 : ∀ w ∈ mm_mw 46, w ∈ lw_tbl := (List.forall_mem_cons.mpr ⟨(tb_3 _ (List.mem_of_getElem? (i := 170) rfl)), (List.forall_mem_cons.mpr ⟨(tb_1 _ (List.mem_of_getElem? (i := 10) rfl)), (List.forall_mem_cons.mpr ⟨(tb_3 _ (List.mem_of_getElem? (i := 168) rfl)), (List.forall_mem_cons.mpr ⟨(tb_3 _ (List.mem_of_getElem? (i := 169) rfl)), (fun _ h => absurd h List.not_mem_nil)⟩)⟩)⟩)⟩)
set_option maxRecDepth 20000 in
theorem mw_47 : ∀ w ∈ mm_mw 47, w ∈ lw_tbl := (List.forall_mem_cons.mpr ⟨(tb_3 _ (List.mem_of_getElem? (i := 108) rfl)), (List.forall_mem_cons.mpr ⟨(tb_1 _ (List.mem_of_getElem? (i := 10) rfl)), (List.forall_mem_cons.mpr ⟨(tb_3 _ (List.mem_of_getElem? (i := 106) rfl)), (List.forall_mem_cons.mpr ⟨(tb_3 _ (List.mem_of_getElem? (i := 107) rfl)), (fun _ h => absurd h List.not_mem_nil)⟩)⟩)⟩)⟩)
set_option maxRecDepth 20000 in
theorem mw_48 : ∀ w ∈ mm_mw 48, w ∈ lw_tbl := (List.forall_mem_cons.mpr ⟨(tb_4 _ (List.mem_of_getElem? (i := 238) rfl)), (List.forall_mem_cons.mpr ⟨(tb_1 _ (List.mem_of_getElem? (i := 10) rfl)), (List.forall_mem_cons.mpr ⟨(tb_4 _ (List.mem_of_getElem? (i := 236) rfl)), (List.forall_mem_cons.mpr ⟨(tb_4 _ (List.mem_of_getElem? (i := 237) rfl)), (fun _ h => absurd h List.not_mem_nil)⟩)⟩)⟩)⟩)
set_option maxRecDepth 20000 in
theorem mw_49 : ∀ w ∈ mm_mw 49, w ∈ lw_tbl := (List.forall_mem_cons.mpr ⟨(tb_3 _ (List.mem_of_getElem? (i := 166) rfl)), (List.forall_mem_cons.mpr ⟨(tb_1 _ (List.mem_of_getElem? (i := 10) rfl)), (List.forall_mem_cons.mpr ⟨(tb_3 _ (List.mem_of_getElem? (i := 164) rfl)), (List.forall_mem_cons.mpr ⟨(tb_3 _ (List.mem_of_getElem? (i := 165) rfl)), (fun _ h => absurd h List.not_mem_nil)⟩)⟩)⟩)⟩)
set_option maxRecDepth 20000 in
theorem mw_50 : ∀ w ∈ mm_mw 50, w ∈ lw_tbl := (List.forall_mem_cons.mpr ⟨(tb_4 _ (List.mem_of_getElem? (i := 141) rfl)), (List.forall_mem_cons.mpr ⟨(tb_1 _ (List.mem_of_getElem? (i := 10) rfl)), (List.forall_mem_cons.mpr ⟨(tb_4 _ (List.mem_of_getElem? (i := 139) rfl)), (List.forall_mem_cons.mpr ⟨(tb_4 _ (List.mem_of_getElem? (i := 140) rfl)), (fun _ h => absurd h List.not_mem_nil)⟩)⟩)⟩)⟩)
set_option maxRecDepth 20000 in
theorem mw_51 : ∀ w ∈ mm_mw 51, w ∈ lw_tbl := (List.forall_mem_cons.mpr ⟨(tb_4 _ (List.mem_of_getElem? (i := 166) rfl)), (List.forall_mem_cons.mpr ⟨(tb_1 _ (List.mem_of_getElem? (i := 10) rfl)), (List.forall_mem_cons.mpr ⟨(tb_4 _ (List.mem_of_getElem? (i := 164) rfl)), (List.forall_mem_cons.mpr ⟨(tb_4 _ (List.mem_of_getElem? (i := 165) rfl)), (fun _ h => absurd h List.not_mem_nil)⟩)⟩)⟩)⟩)
set_option maxRecDepth 20000 in
theorem mw_52 : ∀ w ∈ mm_mw 52, w ∈ lw_tbl := (List.forall_mem_cons.mpr ⟨(tb_3 _ (List.mem_of_getElem? (i := 66) rfl)), (List.forall_mem_cons.mpr ⟨(tb_1 _ (List.mem_of_getElem? (i := 10) rfl)), (List.forall_mem_cons.mpr ⟨(tb_3 _ (List.mem_of_getElem? (i := 64) rfl)), (List.forall_mem_cons.mpr ⟨(tb_3 _ (List.mem_of_getElem? (i := 65) rfl)), (fun _ h => absurd h List.not_mem_nil)⟩)⟩)⟩)⟩)
set_option maxRecDepth 20000 in
theorem mw_53 : ∀ w ∈ mm_mw 53, w ∈ lw_tbl := (List.forall_mem_cons.mpr ⟨(tb_3 _ (List.mem_of_getElem? (i := 73) rfl)), (List.forall_mem_cons.mpr ⟨(tb_1 _ (List.mem_of_getElem? (i := 10) rfl)), (List.forall_mem_cons.mpr ⟨(tb_3 _ (List.mem_of_getElem? (i := 71) rfl)), (List.forall_mem_cons.mpr ⟨(tb_3 _ (List.mem_of_getElem? (i := 72) rfl)), (fun _ h => absurd h List.not_mem_nil)⟩)⟩)⟩)⟩)
set_option maxRecDepth 20000 in
theorem mw_54 : ∀ w ∈ mm_mw 54, w ∈ lw_tbl := (List.forall_mem_cons.mpr ⟨(tb_3 _ (List.mem_of_getElem? (i := 69) rfl)), (List.forall_mem_cons.mpr ⟨(tb_1 _ (List.mem_of_getElem? (i := 10) rfl)), (List.forall_mem_cons.mpr ⟨(tb_3 _ (List.mem_of_getElem? (i := 68) rfl)), (fun _ h => absurd h List.not_mem_nil)⟩)⟩)⟩)
set_option maxRecDepth 20000 in
theorem mw_55 : ∀ w ∈ mm_mw 55, w ∈ lw_tbl := (List.forall_mem_cons.mpr ⟨(tb_2 _ (List.mem_of_getElem? (i := 142) rfl)), (List.forall_mem_cons.mpr ⟨(tb_1 _ (List.mem_of_getElem? (i := 11) rfl)), (List.forall_mem_cons.mpr ⟨(tb_2 _ (List.mem_of_getElem? (i := 141) rfl)), (fun _ h => absurd h List.not_mem_nil)⟩)⟩)⟩)
set_option maxRecDepth 20000 in
theorem mw_56 : ∀ w ∈ mm_mw 56, w ∈ lw_tbl := (List.forall_mem_cons.mpr ⟨(tb_3 _ (List.mem_of_getElem? (i := 133) rfl)), (List.forall_mem_cons.mpr ⟨(tb_1 _ (List.mem_of_getElem? (i := 11) rfl)), (List.forall_mem_cons.mpr ⟨(tb_3 _ (List.mem_of_getElem? (i := 131) rfl)), (List.forall_mem_cons.mpr ⟨(tb_3 _ (List.mem_of_getElem? (i := 132) rfl)), (fun _ h => absurd h List.not_mem_nil)⟩)⟩)⟩)⟩)
set_option maxRecDepth 20000 in
theorem mw_57 : ∀ w ∈ mm_mw 57, w ∈ lw_tbl := (List.forall_mem_cons.mpr ⟨(tb_4 _ (List.mem_of_getElem? (i := 37) rfl)), (List.forall_mem_cons.mpr ⟨(tb_1 _ (List.mem_of_getElem? (i := 11) rfl)), (List.forall_mem_cons.mpr ⟨(tb_4 _ (List.mem_of_getElem? (i := 35) rfl)), (List.forall_mem_cons.mpr ⟨(tb_4 _ (List.mem_of_getElem? (i := 36) rfl)), (fun _ h => absurd h List.not_mem_nil)⟩)⟩)⟩)⟩)
set_option maxRecDepth 20000 in
theorem mw_58 : ∀ w ∈ mm_mw 58, w ∈ lw_tbl := (List.forall_mem_cons.mpr ⟨(tb_4 _ (List.mem_of_getElem? (i := 42) rfl)), (List.forall_mem_cons.mpr ⟨(tb_1 _ (List.mem_of_getElem? (i := 11) rfl)), (List.forall_mem_cons.mpr ⟨(tb_4 _ (List.mem_of_getElem? (i := 40) rfl)), (List.forall_mem_cons.mpr ⟨(tb_4 _ (List.mem_of_getElem? (i := 41) rfl)), (fun _ h => absurd h List.not_mem_nil)⟩)⟩)⟩)⟩)
set_option maxRecDepth 20000 in
theorem mw_59 : ∀ w ∈ mm_mw 59, w ∈ lw_tbl := (List.forall_mem_cons.mpr ⟨(tb_4 _ (List.mem_of_getElem? (i := 46) rfl)), (List.forall_mem_cons.mpr ⟨(tb_1 _ (List.mem_of_getElem? (i := 11) rfl)), (List.forall_mem_cons.mpr ⟨(tb_4 _ (List.mem_of_getElem? (i := 44) rfl)), (List.forall_mem_cons.mpr ⟨(tb_4 _ (List.mem_of_getElem? (i := 45) rfl)), (fun _ h => absurd h List.not_mem_nil)⟩)⟩)⟩)⟩)
set_option maxRecDepth 20000 in
theorem mw_60 : ∀ w ∈ mm_mw 60, w ∈ lw_tbl := (List.forall_mem_cons.mpr ⟨(tb_4 _ (List.mem_of_getElem? (i := 50) rfl)), (List.forall_mem_cons.mpr ⟨(tb_1 _ (List.mem_of_getElem? (i := 11) rfl)), (List.forall_mem_cons.mpr ⟨(tb_4 _ (List.mem_of_getElem? (i := 48) rfl)), (List.forall_mem_cons.mpr ⟨(tb_4 _ (List.mem_of_getElem? (i := 49) rfl)), (fun _ h => absurd h List.not_mem_nil)⟩)⟩)⟩)⟩)
set_option maxRecDepth 20000 in
theorem mw_61 : ∀ w ∈ mm_mw 61, w ∈ lw_tbl := (List.forall_mem_cons.mpr ⟨(tb_4 _ (List.mem_of_getElem? (i := 62) rfl)), (List.forall_mem_cons.mpr ⟨(tb_1 _ (List.mem_of_getElem? (i := 11) rfl)), (List.forall_mem_cons.mpr ⟨(tb_4 _ (List.mem_of_getElem? (i := 60) rfl)), (List.forall_mem_cons.mpr ⟨(tb_4 _ (List.mem_of_getElem? (i := 61) rfl)), (fun _ h => absurd h List.not_mem_nil)⟩)⟩)⟩)⟩)
set_option maxRecDepth 20000 in
theorem mw_62 : ∀ w ∈ mm_mw 62, w ∈ lw_tbl := (List.forall_mem_cons.mpr ⟨(tb_4 _ (List.mem_of_getElem? (i := 67) rfl)), (List.forall_mem_cons.mpr ⟨(tb_1 _ (List.mem_of_getElem? (i := 11) rfl)), (List.forall_mem_cons.mpr ⟨(tb_4 _ (List.mem_of_getElem? (i := 65) rfl)), (List.forall_mem_cons.mpr ⟨(tb_4 _ (List.mem_of_getElem? (i := 66) rfl)), (fun _ h => absurd h List.not_mem_nil)⟩)⟩)⟩)⟩)
set_option maxRecDepth 20000 in
theorem mw_63 : ∀ w ∈ mm_mw 63, w ∈ lw_tbl := (List.forall_mem_cons.mpr ⟨(tb_4 _ (List.mem_of_getElem? (i := 56) rfl)), (List.forall_mem_cons.mpr ⟨(tb_1 _ (List.mem_of_getElem? (i := 11) rfl)), (List.forall_mem_cons.mpr ⟨(tb_4 _ (List.mem_of_getElem? (i := 54) rfl)), (List.forall_mem_cons.mpr ⟨(tb_4 _ (List.mem_of_getElem? (i := 55) rfl)), (fun _ h => absurd h List.not_mem_nil)⟩)⟩)⟩)⟩)
set_option maxRecDepth 20000 in
theorem mw_64 : ∀ w ∈ mm_mw 64, w ∈ lw_tbl := (List.forall_mem_cons.mpr ⟨(tb_4 _ (List.mem_of_getElem? (i := 75) rfl)), (List.forall_mem_cons.mpr ⟨(tb_1 _ (List.mem_of_getElem? (i := 11) rfl)), (List.forall_mem_cons.mpr ⟨(tb_4 _ (List.mem_of_getElem? (i := 73) rfl)), (List.forall_mem_cons.mpr ⟨(tb_4 _ (List.mem_of_getElem? (i := 74) rfl)), (fun _ h => absurd h List.not_mem_nil)⟩)⟩)⟩)⟩)
set_option maxRecDepth 20000 in
theorem mw_65 : ∀ w ∈ mm_mw 65, w ∈ lw_tbl := (List.forall_mem_cons.mpr ⟨(tb_4 _ (List.mem_of_getElem? (i := 206) rfl)), (List.forall_mem_cons.mpr ⟨(tb_1 _ (List.mem_of_getElem? (i := 11) rfl)), (List.forall_mem_cons.mpr ⟨(tb_4 _ (List.mem_of_getElem? (i := 204) rfl)), (List.forall_mem_cons.mpr ⟨(tb_4 _ (List.mem_of_getElem? (i := 205) rfl)), (fun _ h => absurd h List.not_mem_nil)⟩)⟩)⟩)⟩)
set_option maxRecDepth 20000 in
theorem mw_66 : ∀ w ∈ mm_mw 66, w ∈ lw_tbl := (List.forall_mem_cons.mpr ⟨(tb_4 _ (List.mem_of_getElem? (i := 220) rfl)), (List.forall_mem_cons.mpr ⟨(tb_1 _ (List.mem_of_getElem? (i := 11) rfl)), (List.forall_mem_cons.mpr ⟨(tb_4 _ (List.mem_of_getElem? (i := 218) rfl)), (List.forall_mem_cons.mpr ⟨(tb_4 _ (List.mem_of_getElem? (i := 219) rfl)), (fun _ h => absurd h List.not_mem_nil)⟩)⟩)⟩)⟩)
set_option maxRecDepth 20000 in
theorem mw_67 : ∀ w ∈ mm_mw 67, w ∈ lw_tbl := (List.forall_mem_cons.mpr ⟨(tb_4 _ (List.mem_of_getElem? (i := 211) rfl)), (List.forall_mem_cons.mpr ⟨(tb_1 _ (List.mem_of_getElem? (i := 11) rfl)), (List.forall_mem_cons.mpr ⟨(tb_4 _ (List.mem_of_getElem? (i := 209) rfl)), (List.forall_mem_cons.mpr ⟨(tb_4 _ (List.mem_of_getElem? (i := 210) rfl)), (fun _ h => absurd h List.not_mem_nil)⟩)⟩)⟩)⟩)
set_option maxRecDepth 20000 in
theorem mw_68 : ∀ w ∈ mm_mw 68, w ∈ lw_tbl := (List.forall_mem_cons.mpr ⟨(tb_2 _ (List.mem_of_getElem? (i := 35) rfl)), (List.forall_mem_cons.mpr ⟨(tb_1 _ (List.mem_of_getElem? (i := 9) rfl)), (List.forall_mem_cons.mpr ⟨(tb_2 _ (List.mem_of_getElem? (i := 34) rfl)), (fun _ h => absurd h List.not_mem_nil)⟩)⟩)⟩)
set_option maxRecDepth 20000 in
theorem mw_69 : ∀ w ∈ mm_mw 69, w ∈ lw_tbl := (List.forall_mem_cons.mpr ⟨(tb_5 _ (List.mem_of_getElem? (i := 65) rfl)), (List.forall_mem_cons.mpr ⟨(tb_1 _ (List.mem_of_getElem? (i := 9) rfl)), (List.forall_mem_cons.mpr ⟨(tb_5 _ (List.mem_of_getElem? (i := 63) rfl)), (List.forall_mem_cons.mpr ⟨(tb_5 _ (List.mem_of_getElem? (i := 64) rfl)), (fun _ h => absurd h List.not_mem_nil)⟩)⟩)⟩)⟩)
set_option maxRecDepth 20000 in
theorem mw_70 : ∀ w ∈ mm_mw 70, w ∈ lw_tbl := (List.forall_mem_cons.mpr ⟨(tb_5 _ (List.mem_of_getElem? (i := 72) rfl)), (List.forall_mem_cons.mpr ⟨(tb_1 _ (List.mem_of_getElem? (i := 9) rfl)), (List.forall_mem_cons.mpr ⟨(tb_5 _ (List.mem_of_getElem? (i := 70) rfl)), (List.forall_mem_cons.mpr ⟨(tb_5 _ (List.mem_of_getElem? (i := 71) rfl)), (fun _ h => absurd h List.not_mem_nil)⟩)⟩)⟩)⟩)
set_option maxRecDepth 20000 in
theorem mw_71 : ∀ w ∈ mm_mw 71, w ∈ lw_tbl := (List.forall_mem_cons.mpr ⟨(tb_5 _ (List.mem_of_getElem? (i := 81) rfl)), (List.forall_mem_cons.mpr ⟨(tb_1 _ (List.mem_of_getElem? (i := 9) rfl)), (List.forall_mem_cons.mpr ⟨(tb_5 _ (List.mem_of_getElem? (i := 79) rfl)), (List.forall_mem_cons.mpr ⟨(tb_5 _ (List.mem_of_getElem? (i := 80) rfl)), (fun _ h => absurd h List.not_mem_nil)⟩)⟩)⟩)⟩)
set_option maxRecDepth 20000 in
theorem mw_72 : ∀ w ∈ mm_mw 72, w ∈ lw_tbl := (List.forall_mem_cons.mpr ⟨(tb_5 _ (List.mem_of_getElem? (i := 85) rfl)), (List.forall_mem_cons.mpr ⟨(tb_1 _ (List.mem_of_getElem? (i := 9) rfl)), (List.forall_mem_cons.mpr ⟨(tb_5 _ (List.mem_of_getElem? (i := 83) rfl)), (List.forall_mem_cons.mpr ⟨(tb_5 _ (List.mem_of_getElem? (i := 84) rfl)), (fun _ h => absurd h List.not_mem_nil)⟩)⟩)⟩)⟩)
set_option maxRecDepth 20000 in
theorem mw_73 : ∀ w ∈ mm_mw 73, w ∈ lw_tbl := (List.forall_mem_cons.mpr ⟨(tb_5 _ (List.mem_of_getElem? (i := 90) rfl)), (List.forall_mem_cons.mpr ⟨(tb_1 _ (List.mem_of_getElem? (i := 9) rfl)), (List.forall_mem_cons.mpr ⟨(tb_5 _ (List.mem_of_getElem? (i := 88) rfl)), (List.forall_mem_cons.mpr ⟨(tb_5 _ (List.mem_of_getElem? (i := 89) rfl)), (fun _ h => absurd h List.not_mem_nil)⟩)⟩)⟩)⟩)
set_option maxRecDepth 20000 in
theorem mw_74 : ∀ w ∈ mm_mw 74, w ∈ lw_tbl := (List.forall_mem_cons.mpr ⟨(tb_5 _ (List.mem_of_getElem? (i := 94) rfl)), (List.forall_mem_cons.mpr ⟨(tb_1 _ (List.mem_of_getElem? (i := 9) rfl)), (List.forall_mem_cons.mpr ⟨(tb_5 _ (List.mem_of_getElem? (i := 92) rfl)), (List.forall_mem_cons.mpr ⟨(tb_5 _ (List.mem_of_getElem? (i := 93) rfl)), (fun _ h => absurd h List.not_mem_nil)⟩)⟩)⟩)⟩)
set_option maxRecDepth 20000 in
theorem mw_75 : ∀ w ∈ mm_mw 75, w ∈ lw_tbl := (List.forall_mem_cons.mpr ⟨(tb_5 _ (List.mem_of_getElem? (i := 98) rfl)), (List.forall_mem_cons.mpr ⟨(tb_1 _ (List.mem_of_getElem? (i := 9) rfl)), (List.forall_mem_cons.mpr ⟨(tb_5 _ (List.mem_of_getElem? (i := 96) rfl)), (List.forall_mem_cons.mpr ⟨(tb_5 _ (List.mem_of_getElem? (i := 97) rfl)), (fun _ h => absurd h List.not_mem_nil)⟩)⟩)⟩)⟩)
set_option maxRecDepth 20000 in
theorem mw_76 : ∀ w ∈ mm_mw 76, w ∈ lw_tbl := (List.forall_mem_cons.mpr ⟨(tb_1 _ (List.mem_of_getElem? (i := 33) rfl)), (List.forall_mem_cons.mpr ⟨(tb_1 _ (List.mem_of_getElem? (i := 2) rfl)), (List.forall_mem_cons.mpr ⟨(tb_1 _ (List.mem_of_getElem? (i := 32) rfl)), (fun _ h => absurd h List.not_mem_nil)⟩)⟩)⟩)
set_option maxRecDepth 20000 in
theorem mw_77 : ∀ w ∈ mm_mw 77, w ∈ lw_tbl := (List.forall_mem_cons.mpr ⟨(tb_2 _ (List.mem_of_getElem? (i := 211) rfl)), (List.forall_mem_cons.mpr ⟨(tb_1 _ (List.mem_of_getElem? (i := 2) rfl)), (List.forall_mem_cons.mpr ⟨(tb_2 _ (List.mem_of_getElem? (i := 209) rfl)), (List.forall_mem_cons.mpr ⟨(tb_2 _ (List.mem_of_getElem? (i := 210) rfl)), (fun _ h => absurd h List.not_mem_nil)⟩)⟩)⟩)⟩)
set_option maxRecDepth 20000 in
theorem mw_78 : ∀ w ∈ mm_mw 78, w ∈ lw_tbl := (List.forall_mem_cons.mpr ⟨(tb_2 _ (List.mem_of_getElem? (i := 219) rfl)), (List.forall_mem_cons.mpr ⟨(tb_1 _ (List.mem_of_getElem? (i := 2) rfl)), (List.forall_mem_cons.mpr ⟨(tb_2 _ (List.mem_of_getElem? (i := 217) rfl)), (List.forall_mem_cons.mpr ⟨(tb_2 _ (List.mem_of_getElem? (i := 218) rfl)), (fun _ h => absurd h List.not_mem_nil)⟩)⟩)⟩)⟩)
set_option maxRecDepth 20000 in
theorem mw_79 : ∀ w ∈ mm_mw 79, w ∈ lw_tbl := (List.forall_mem_cons.mpr ⟨(tb_2 _ (List.mem_of_getElem? (i := 223) rfl)), (List.forall_mem_cons.mpr ⟨(tb_1 _ (List.mem_of_getElem? (i := 2) rfl)), (List.forall_mem_cons.mpr ⟨(tb_2 _ (List.mem_of_getElem? (i := 221) rfl)), (List.forall_mem_cons.mpr ⟨(tb_2 _ (List.mem_of_getElem? (i := 222) rfl)), (fun _ h => absurd h List.not_mem_nil)⟩)⟩)⟩)⟩)
set_option maxRecDepth 20000 in
theorem mw_80 : ∀ w ∈ mm_mw 80, w ∈ lw_tbl := (List.forall_mem_cons.mpr ⟨(tb_2 _ (List.mem_of_getElem? (i := 234) rfl)), (List.forall_mem_cons.mpr ⟨(tb_1 _ (List.mem_of_getElem? (i := 2) rfl)), (List.forall_mem_cons.mpr ⟨(tb_2 _ (List.mem_of_getElem? (i := 232) rfl)), (List.forall_mem_cons.mpr ⟨(tb_2 _ (List.mem_of_getElem? (i := 233) rfl)), (fun _ h => absurd h List.not_mem_nil)⟩)⟩)⟩)⟩)
set_option maxRecDepth 20000 in
theorem mw_81 : ∀ w ∈ mm_mw 81, w ∈ lw_tbl := (List.forall_mem_cons.mpr ⟨(tb_3 _ (List.mem_of_getElem? (i := 10) rfl)), (List.forall_mem_cons.mpr ⟨(tb_1 _ (List.mem_of_getElem? (i := 2) rfl)), (List.forall_mem_cons.mpr ⟨(tb_3 _ (List.mem_of_getElem? (i := 8) rfl)), (List.forall_mem_cons.mpr ⟨(tb_3 _ (List.mem_of_getElem? (i := 9) rfl)), (fun _ h => absurd h List.not_mem_nil)⟩)⟩)⟩)⟩)
set_option maxRecDepth 20000 in
theorem mw_82 : ∀ w ∈ mm_mw 82, w ∈ lw_tbl := (List.forall_mem_cons.mpr ⟨(tb_2 _ (List.mem_of_getElem? (i := 238) rfl)), (List.forall_mem_cons.mpr ⟨(tb_1 _ (List.mem_of_getElem? (i := 2) rfl)), (List.forall_mem_cons.mpr ⟨(tb_2 _ (List.mem_of_getElem? (i := 236) rfl)), (List.forall_mem_cons.mpr ⟨(tb_2 _ (List.mem_of_getElem? (i := 237) rfl)), (fun _ h => absurd h List.not_mem_nil)⟩)⟩)⟩)⟩)
set_option maxRecDepth 20000 in
theorem mw_83 : ∀ w ∈ mm_mw 83, w ∈ lw_tbl := (List.forall_mem_cons.mpr ⟨(tb_3 _ (List.mem_of_getElem? (i := 26) rfl)), (List.forall_mem_cons.mpr ⟨(tb_1 _ (List.mem_of_getElem? (i := 2) rfl)), (List.forall_mem_cons.mpr ⟨(tb_3 _ (List.mem_of_getElem? (i := 24) rfl)), (List.forall_mem_cons.mpr ⟨(tb_3 _ (List.mem_of_getElem? (i := 25) rfl)), (fun _ h => absurd h List.not_mem_nil)⟩)⟩)⟩)⟩)
set_option maxRecDepth 20000 in
theorem mw_84 : ∀ w ∈ mm_mw 84, w ∈ lw_tbl := (List.forall_mem_cons.mpr ⟨(tb_3 _ (List.mem_of_getElem? (i := 47) rfl)), (List.forall_mem_cons.mpr ⟨(tb_1 _ (List.mem_of_getElem? (i := 2) rfl)), (List.forall_mem_cons.mpr ⟨(tb_3 _ (List.mem_of_getElem? (i := 45) rfl)), (List.forall_mem_cons.mpr ⟨(tb_3 _ (List.mem_of_getElem? (i := 46) rfl)), (fun _ h => absurd h List.not_mem_nil)⟩)⟩)⟩)⟩)
set_option maxRecDepth 20000 in
theorem mw_85 : ∀ w ∈ mm_mw 85, w ∈ lw_tbl := (List.forall_mem_cons.mpr ⟨(tb_3 _ (List.mem_of_getElem? (i := 229) rfl)), (List.forall_mem_cons.mpr ⟨(tb_1 _ (List.mem_of_getElem? (i := 2) rfl)), (List.forall_mem_cons.mpr ⟨(tb_3 _ (List.mem_of_getElem? (i := 227) rfl)), (List.forall_mem_cons.mpr ⟨(tb_3 _ (List.mem_of_getElem? (i := 228) rfl)), (fun _ h => absurd h List.not_mem_nil)⟩)⟩)⟩)⟩)
set_option maxRecDepth 20000 in
theorem mw_86 : ∀ w ∈ mm_mw 86, w ∈ lw_tbl := (List.forall_mem_cons.mpr ⟨(tb_3 _ (List.mem_of_getElem? (i := 39) rfl)), (List.forall_mem_cons.mpr ⟨(tb_1 _ (List.mem_of_getElem? (i := 2) rfl)), (List.forall_mem_cons.mpr ⟨(tb_3 _ (List.mem_of_getElem? (i := 37) rfl)), (List.forall_mem_cons.mpr ⟨(tb_3 _ (List.mem_of_getElem? (i := 38) rfl)), (fun _ h => absurd h List.not_mem_nil)⟩)⟩)⟩)⟩)
set_option maxRecDepth 20000 in
theorem mw_87 : ∀ w ∈ mm_mw 87, w ∈ lw_tbl := (List.forall_mem_cons.mpr ⟨(tb_3 _ (List.mem_of_getElem? (i := 237) rfl)), (List.forall_mem_cons.mpr ⟨(tb_1 _ (List.mem_of_getElem? (i := 2) rfl)), (List.forall_mem_cons.mpr ⟨(tb_3 _ (List.mem_of_getElem? (i := 235) rfl)), (List.forall_mem_cons.mpr ⟨(tb_3 _ (List.mem_of_getElem? (i := 236) rfl)), (fun _ h => absurd h List.not_mem_nil)⟩)⟩)⟩)⟩)
set_option maxRecDepth 20000 in
theorem mw_88 : ∀ w ∈ mm_mw 88, w ∈ lw_tbl := (List.forall_mem_cons.mpr ⟨(tb_3 _ (List.mem_of_getElem? (i := 52) rfl)), (List.forall_mem_cons.mpr ⟨(tb_1 _ (List.mem_of_getElem? (i := 2) rfl)), (List.forall_mem_cons.mpr ⟨(tb_3 _ (List.mem_of_getElem? (i := 50) rfl)), (List.forall_mem_cons.mpr ⟨(tb_3 _ (List.mem_of_getElem? (i := 51) rfl)), (fun _ h => absurd h List.not_mem_nil)⟩)⟩)⟩)⟩)
set_option maxRecDepth 20000 in
theorem mw_89 : ∀ w ∈ mm_mw 89, w ∈ lw_tbl := (List.forall_mem_cons.mpr ⟨(tb_3 _ (List.mem_of_getElem? (i := 205) rfl)), (List.forall_mem_cons.mpr ⟨(tb_1 _ (List.mem_of_getElem? (i := 2) rfl)), (List.forall_mem_cons.mpr ⟨(tb_3 _ (List.mem_of_getElem? (i := 203) rfl)), (List.forall_mem_cons.mpr ⟨(tb_3 _ (List.mem_of_getElem? (i := 204) rfl)), (fun _ h => absurd h List.not_mem_nil)⟩)⟩)⟩)⟩)
set_option maxRecDepth 20000 in
theorem mw_90 : ∀ w ∈ mm_mw 90, w ∈ lw_tbl := (List.forall_mem_cons.mpr ⟨(tb_3 _ (List.mem_of_getElem? (i := 129) rfl)), (List.forall_mem_cons.mpr ⟨(tb_1 _ (List.mem_of_getElem? (i := 2) rfl)), (List.forall_mem_cons.mpr ⟨(tb_3 _ (List.mem_of_getElem? (i := 127) rfl)), (List.forall_mem_cons.mpr ⟨(tb_3 _ (List.mem_of_getElem? (i := 128) rfl)), (fun _ h => absurd h List.not_mem_nil)⟩)⟩)⟩)⟩)
set_option maxRecDepth 20000 in
theorem mw_91 : ∀ w ∈ mm_mw 91, w ∈ lw_tbl := (List.forall_mem_cons.mpr ⟨(tb_2 _ (List.mem_of_getElem? (i := 227) rfl)), (List.forall_mem_cons.mpr ⟨(tb_1 _ (List.mem_of_getElem? (i := 2) rfl)), (List.forall_mem_cons.mpr ⟨(tb_2 _ (List.mem_of_getElem? (i := 225) rfl)), (List.forall_mem_cons.mpr ⟨(tb_2 _ (List.mem_of_getElem? (i := 226) rfl)), (fun _ h => absurd h List.not_mem_nil)⟩)⟩)⟩)⟩)
set_option maxRecDepth 20000 in
theorem mw_92 : ∀ w ∈ mm_mw 92, w ∈ lw_tbl := (List.forall_mem_cons.mpr ⟨(tb_3 _ (List.mem_of_getElem? (i := 16) rfl)), (List.forall_mem_cons.mpr ⟨(tb_1 _ (List.mem_of_getElem? (i := 2) rfl)), (List.forall_mem_cons.mpr ⟨(tb_3 _ (List.mem_of_getElem? (i := 15) rfl)), (fun _ h => absurd h List.not_mem_nil)⟩)⟩)⟩)
set_option maxRecDepth 20000 in
theorem mw_93 : ∀ w ∈ mm_mw 93, w ∈ lw_tbl := (List.forall_mem_cons.mpr ⟨(tb_2 _ (List.mem_of_getElem? (i := 230) rfl)), (List.forall_mem_cons.mpr ⟨(tb_1 _ (List.mem_of_getElem? (i := 2) rfl)), (List.forall_mem_cons.mpr ⟨(tb_2 _ (List.mem_of_getElem? (i := 229) rfl)), (fun _ h => absurd h List.not_mem_nil)⟩)⟩)⟩)
set_option maxRecDepth 20000 in
theorem mw_94 : ∀ w ∈ mm_mw 94, w ∈ lw_tbl := (List.forall_mem_cons.mpr ⟨(tb_3 _ (List.mem_of_getElem? (i := 6) rfl)), (List.forall_mem_cons.mpr ⟨(tb_1 _ (List.mem_of_getElem? (i := 2) rfl)), (List.forall_mem_cons.mpr ⟨(tb_3 _ (List.mem_of_getElem? (i := 5) rfl)), (fun _ h => absurd h List.not_mem_nil)⟩)⟩)⟩)
set_option maxRecDepth 20000 in
theorem mw_95 : ∀ w ∈ mm_mw 95, w ∈ lw_tbl := (List.forall_mem_cons.mpr ⟨(tb_3 _ (List.mem_of_getElem? (i := 19) rfl)), (List.forall_mem_cons.mpr ⟨(tb_1 _ (List.mem_of_getElem? (i := 2) rfl)), (List.forall_mem_cons.mpr ⟨(tb_3 _ (List.mem_of_getElem? (i := 18) rfl)), (fun _ h => absurd h List.not_mem_nil)⟩)⟩)⟩)
set_option maxRecDepth 20000 in
theorem mw_96 : ∀ w ∈ mm_mw 96, w ∈ lw_tbl := (List.forall_mem_cons.mpr ⟨(tb_3 _ (List.mem_of_getElem? (i := 1) rfl)), (List.forall_mem_cons.mpr ⟨(tb_1 _ (List.mem_of_getElem? (i := 2) rfl)), (List.forall_mem_cons.mpr ⟨(tb_3 _ (List.mem_of_getElem? (i := 0) rfl)), (fun _ h => absurd h List.not_mem_nil)⟩)⟩)⟩)
set_option maxRecDepth 20000 in
theorem mw_97 : ∀ w ∈ mm_mw 97, w ∈ lw_tbl := (List.forall_mem_cons.mpr ⟨(tb_1 _ (List.mem_of_getElem? (i := 180) rfl)), (List.forall_mem_cons.mpr ⟨(tb_1 _ (List.mem_of_getElem? (i := 6) rfl)), (List.forall_mem_cons.mpr ⟨(tb_1 _ (List.mem_of_getElem? (i := 179) rfl)), (fun _ h => absurd h List.not_mem_nil)⟩)⟩)⟩)
set_option maxRecDepth 20000 in
theorem mw_98 : ∀ w ∈ mm_mw 98, w ∈ lw_tbl := (List.forall_mem_cons.mpr ⟨(tb_3 _ (List.mem_of_getElem? (i := 179) rfl)), (List.forall_mem_cons.mpr ⟨(tb_1 _ (List.mem_of_getElem? (i := 6) rfl)), (List.forall_mem_cons.mpr ⟨(tb_3 _ (List.mem_of_getElem? (i := 177) rfl)), (List.forall_mem_cons.mpr ⟨(tb_3 _ (List.mem_of_getElem? (i := 178) rfl)), (fun _ h => absurd h List.not_mem_nil)⟩)⟩)⟩)⟩)
set_option maxRecDepth 20000 in
theorem mw_99 : ∀ w ∈ mm_mw 99, w ∈ lw_tbl := (List.forall_mem_cons.mpr ⟨(tb_3 _ (List.mem_of_getElem? (i := 183) rfl)), (List.forall_mem_cons.mpr ⟨(tb_1 _ (List.mem_of_getElem? (i := 6) rfl)), (List.forall_mem_cons.mpr ⟨(tb_3 _ (List.mem_of_getElem? (i := 181) rfl)), (List.forall_mem_cons.mpr ⟨(tb_3 _ (List.mem_of_getElem? (i := 182) rfl)), (fun _ h => absurd h List.not_mem_nil)⟩)⟩)⟩)⟩)
set_option maxRecDepth 20000 in
theorem mw_100 : ∀ w ∈ mm_mw 100, w ∈ lw_tbl := (List.forall_mem_cons.mpr ⟨(tb_3 _ (List.mem_of_getElem? (i := 187) rfl)), (List.forall_mem_cons.mpr ⟨(tb_1 _ (List.mem_of_getElem? (i := 6) rfl)), (List.forall_mem_cons.mpr ⟨(tb_3 _ (List.mem_of_getElem? (i := 185) rfl)), (List.forall_mem_cons.mpr ⟨(tb_3 _ (List.mem_of_getElem? (i := 186) rfl)), (fun _ h => absurd h List.not_mem_nil)⟩)⟩)⟩)⟩)
set_option maxRecDepth 20000 in
theorem mw_101 : ∀ w ∈ mm_mw 101, w ∈ lw_tbl := (List.forall_mem_cons.mpr ⟨(tb_3 _ (List.mem_of_getElem? (i := 196) rfl)), (List.forall_mem_cons.mpr ⟨(tb_1 _ (List.mem_of_getElem? (i := 6) rfl)), (List.forall_mem_cons.mpr ⟨(tb_3 _ (List.mem_of_getElem? (i := 194) rfl)), (List.forall_mem_cons.mpr ⟨(tb_3 _ (List.mem_of_getElem? (i := 195) rfl)), (fun _ h => absurd h List.not_mem_nil)⟩)⟩)⟩)⟩)
set_option maxRecDepth 20000 in
theorem mw_102 : ∀ w ∈ mm_mw 102, w ∈ lw_tbl := (List.forall_mem_cons.mpr ⟨(tb_3 _ (List.mem_of_getElem? (i := 200) rfl)), (List.forall_mem_cons.mpr ⟨(tb_1 _ (List.mem_of_getElem? (i := 6) rfl)), (List.forall_mem_cons.mpr ⟨(tb_3 _ (List.mem_of_getElem? (i := 198) rfl)), (List.forall_mem_cons.mpr ⟨(tb_3 _ (List.mem_of_getElem? (i := 199) rfl)), (fun _ h => absurd h List.not_mem_nil)⟩)⟩)⟩)⟩)
set_option maxRecDepth 20000 in
theorem mw_103 : ∀ w ∈ mm_mw 103, w ∈ lw_tbl := (List.forall_mem_cons.mpr ⟨(tb_3 _ (List.mem_of_getElem? (i := 211) rfl)), (List.forall_mem_cons.mpr ⟨(tb_1 _ (List.mem_of_getElem? (i := 6) rfl)), (List.forall_mem_cons.mpr ⟨(tb_3 _ (List.mem_of_getElem? (i := 209) rfl)), (List.forall_mem_cons.mpr ⟨(tb_3 _ (List.mem_of_getElem? (i := 210) rfl)), (fun _ h => absurd h List.not_mem_nil)⟩)⟩)⟩)⟩)
set_option maxRecDepth 20000 in
theorem mw_104 : ∀ w ∈ mm_mw 104, w ∈ lw_tbl := (List.forall_mem_cons.mpr ⟨(tb_3 _ (List.mem_of_getElem? (i := 225) rfl)), (List.forall_mem_cons.mpr ⟨(tb_1 _ (List.mem_of_getElem? (i := 6) rfl)), (List.forall_mem_cons.mpr ⟨(tb_3 _ (List.mem_of_getElem? (i := 223) rfl)), (List.forall_mem_cons.mpr ⟨(tb_3 _ (List.mem_of_getElem? (i := 224) rfl)), (fun _ h => absurd h List.not_mem_nil)⟩)⟩)⟩)⟩)
set_option maxRecDepth 20000 in
theorem mw_105 : ∀ w ∈ mm_mw 105, w ∈ lw_tbl := (List.forall_mem_cons.mpr ⟨(tb_3 _ (List.mem_of_getElem? (i := 233) rfl)), (List.forall_mem_cons.mpr ⟨(tb_1 _ (List.mem_of_getElem? (i := 6) rfl)), (List.forall_mem_cons.mpr ⟨(tb_3 _ (List.mem_of_getElem? (i := 231) rfl)), (List.forall_mem_cons.mpr ⟨(tb_3 _ (List.mem_of_getElem? (i := 232) rfl)), (fun _ h => absurd h List.not_mem_nil)⟩)⟩)⟩)⟩)
set_option maxRecDepth 20000 in
theorem mw_106 : ∀ w ∈ mm_mw 106, w ∈ lw_tbl := (List.forall_mem_cons.mpr ⟨(tb_4 _ (List.mem_of_getElem? (i := 8) rfl)), (List.forall_mem_cons.mpr ⟨(tb_1 _ (List.mem_of_getElem? (i := 6) rfl)), (List.forall_mem_cons.mpr ⟨(tb_4 _ (List.mem_of_getElem? (i := 6) rfl)), (List.forall_mem_cons.mpr ⟨(tb_4 _ (List.mem_of_getElem? (i := 7) rfl)), (fun _ h => absurd h List.not_mem_nil)⟩)⟩)⟩)⟩)
set_option maxRecDepth 20000 in
theorem mw_107 : ∀ w ∈ mm_mw 107, w ∈ lw_tbl := (List.forall_mem_cons.mpr ⟨(tb_4 _ (List.mem_of_getElem? (i := 12) rfl)), (List.forall_mem_cons.mpr ⟨(tb_1 _ (List.mem_of_getElem? (i := 6) rfl)), (List.forall_mem_cons.mpr ⟨(tb_4 _ (List.mem_of_getElem? (i := 10) rfl)), (List.forall_mem_cons.mpr ⟨(tb_4 _ (List.mem_of_getElem? (i := 11) rfl)), (fun _ h => absurd h List.not_mem_nil)⟩)⟩)⟩)⟩)
set_option maxRecDepth 20000 in
theorem mw_108 : ∀ w ∈ mm_mw 108, w ∈ lw_tbl := (List.forall_mem_cons.mpr ⟨(tb_4 _ (List.mem_of_getElem? (i := 16) rfl)), (List.forall_mem_cons.mpr ⟨(tb_1 _ (List.mem_of_getElem? (i := 6) rfl)), (List.forall_mem_cons.mpr ⟨(tb_4 _ (List.mem_of_getElem? (i := 14) rfl)), (List.forall_mem_cons.mpr ⟨(tb_4 _ (List.mem_of_getElem? (i := 15) rfl)), (fun _ h => absurd h List.not_mem_nil)⟩)⟩)⟩)⟩)
set_option maxRecDepth 20000 in
theorem mw_109 : ∀ w ∈ mm_mw 109, w ∈ lw_tbl := (List.forall_mem_cons.mpr ⟨(tb_1 _ (List.mem_of_getElem? (i := 25) rfl)), (List.forall_mem_cons.mpr ⟨(tb_1 _ (List.mem_of_getElem? (i := 1) rfl)), (List.forall_mem_cons.mpr ⟨(tb_1 _ (List.mem_of_getElem? (i := 24) rfl)), (fun _ h => absurd h List.not_mem_nil)⟩)⟩)⟩)
set_option maxRecDepth 20000 in
theorem mw_110 : ∀ w ∈ mm_mw 110, w ∈ lw_tbl := (List.forall_mem_cons.mpr ⟨(tb_2 _ (List.mem_of_getElem? (i := 207) rfl)), (List.forall_mem_cons.mpr ⟨(tb_1 _ (List.mem_of_getElem? (i := 1) rfl)), (List.forall_mem_cons.mpr ⟨(tb_2 _ (List.mem_of_getElem? (i := 205) rfl)), (List.forall_mem_cons.mpr ⟨(tb_2 _ (List.mem_of_getElem? (i := 206) rfl)), (fun _ h => absurd h List.not_mem_nil)⟩)⟩)⟩)⟩)
set_option maxRecDepth 20000 in
theorem mw_111 : ∀ w ∈ mm_mw 111, w ∈ lw_tbl := (List.forall_mem_cons.mpr ⟨(tb_2 _ (List.mem_of_getElem? (i := 215) rfl)), (List.forall_mem_cons.mpr ⟨(tb_1 _ (List.mem_of_getElem? (i := 1) rfl)), (List.forall_mem_cons.mpr ⟨(tb_2 _ (List.mem_of_getElem? (i := 213) rfl)), (List.forall_mem_cons.mpr ⟨(tb_2 _ (List.mem_of_getElem? (i := 214) rfl)), (fun _ h => absurd h List.not_mem_nil)⟩)⟩)⟩)⟩)
set_option maxRecDepth 20000 in
theorem mw_112 : ∀ w ∈ mm_mw 112, w ∈ lw_tbl := (List.forall_mem_cons.mpr ⟨(tb_3 _ (List.mem_of_getElem? (i := 141) rfl)), (List.forall_mem_cons.mpr ⟨(tb_1 _ (List.mem_of_getElem? (i := 1) rfl)), (List.forall_mem_cons.mpr ⟨(tb_3 _ (List.mem_of_getElem? (i := 139) rfl)), (List.forall_mem_cons.mpr ⟨(tb_3 _ (List.mem_of_getElem? (i := 140) rfl)), (fun _ h => absurd h List.not_mem_nil)⟩)⟩)⟩)⟩)
set_option maxRecDepth 20000 in
theorem mw_113 : ∀ w ∈ mm_mw 113, w ∈ lw_tbl := (List.forall_mem_cons.mpr ⟨(tb_4 _ (List.mem_of_getElem? (i := 33) rfl)), (List.forall_mem_cons.mpr ⟨(tb_1 _ (List.mem_of_getElem? (i := 1) rfl)), (List.forall_mem_cons.mpr ⟨(tb_4 _ (List.mem_of_getElem? (i := 31) rfl)), (List.forall_mem_cons.mpr ⟨(tb_4 _ (List.mem_of_getElem? (i := 32) rfl)), (fun _ h => absurd h List.not_mem_nil)⟩)⟩)⟩)⟩)
set_option maxRecDepth 20000 in
theorem mw_114 : ∀ w ∈ mm_mw 114, w ∈ lw_tbl := (List.forall_mem_cons.mpr ⟨(tb_4 _ (List.mem_of_getElem? (i := 83) rfl)), (List.forall_mem_cons.mpr ⟨(tb_1 _ (List.mem_of_getElem? (i := 1) rfl)), (List.forall_mem_cons.mpr ⟨(tb_4 _ (List.mem_of_getElem? (i := 81) rfl)), (List.forall_mem_cons.mpr ⟨(tb_4 _ (List.mem_of_getElem? (i := 82) rfl)), (fun _ h => absurd h List.not_mem_nil)⟩)⟩)⟩)⟩)
set_option maxRecDepth 20000 in
theorem mw_115 : ∀ w ∈ mm_mw 115, w ∈ lw_tbl := (List.forall_mem_cons.mpr ⟨(tb_4 _ (List.mem_of_getElem? (i := 87) rfl)), (List.forall_mem_cons.mpr ⟨(tb_1 _ (List.mem_of_getElem? (i := 1) rfl)), (List.forall_mem_cons.mpr ⟨(tb_4 _ (List.mem_of_getElem? (i := 85) rfl)), (List.forall_mem_cons.mpr ⟨(tb_4 _ (List.mem_of_getElem? (i := 86) rfl)), (fun _ h => absurd h List.not_mem_nil)⟩)⟩)⟩)⟩)
set_option maxRecDepth 20000 in
theorem mw_116 : ∀ w ∈ mm_mw 116, w ∈ lw_tbl := (List.forall_mem_cons.mpr ⟨(tb_4 _ (List.mem_of_getElem? (i := 93) rfl)), (List.forall_mem_cons.mpr ⟨(tb_1 _ (List.mem_of_getElem? (i := 1) rfl)), (List.forall_mem_cons.mpr ⟨(tb_4 _ (List.mem_of_getElem? (i := 91) rfl)), (List.forall_mem_cons.mpr ⟨(tb_4 _ (List.mem_of_getElem? (i := 92) rfl)), (fun _ h => absurd h List.not_mem_nil)⟩)⟩)⟩)⟩)
set_option maxRecDepth 20000 in
theorem mw_117 : ∀ w ∈ mm_mw 117, w ∈ lw_tbl := (List.forall_mem_cons.mpr ⟨(tb_4 _ (List.mem_of_getElem? (i := 98) rfl)), (List.forall_mem_cons.mpr ⟨(tb_1 _ (List.mem_of_getElem? (i := 1) rfl)), (List.forall_mem_cons.mpr ⟨(tb_4 _ (List.mem_of_getElem? (i := 96) rfl)), (List.forall_mem_cons.mpr ⟨(tb_4 _ (List.mem_of_getElem? (i := 97) rfl)), (fun _ h => absurd h List.not_mem_nil)⟩)⟩)⟩)⟩)
set_option maxRecDepth 20000 in
theorem mw_118 : ∀ w ∈ mm_mw 118, w ∈ lw_tbl := (List.forall_mem_cons.mpr ⟨(tb_4 _ (List.mem_of_getElem? (i := 111) rfl)), (List.forall_mem_cons.mpr ⟨(tb_1 _ (List.mem_of_getElem? (i := 1) rfl)), (List.forall_mem_cons.mpr ⟨(tb_4 _ (List.mem_of_getElem? (i := 109) rfl)), (List.forall_mem_cons.mpr ⟨(tb_4 _ (List.mem_of_getElem? (i := 110) rfl)), (fun _ h => absurd h List.not_mem_nil)⟩)⟩)⟩)⟩)
set_option maxRecDepth 20000 in
theorem mw_119 : ∀ w ∈ mm_mw 119, w ∈ lw_tbl := (List.forall_mem_cons.mpr ⟨(tb_4 _ (List.mem_of_getElem? (i := 116) rfl)), (List.forall_mem_cons.mpr ⟨(tb_1 _ (List.mem_of_getElem? (i := 1) rfl)), (List.forall_mem_cons.mpr ⟨(tb_4 _ (List.mem_of_getElem? (i := 114) rfl)), (List.forall_mem_cons.mpr ⟨(tb_4 _ (List.mem_of_getElem? (i := 115) rfl)), (fun _ h => absurd h List.not_mem_nil)⟩)⟩)⟩)⟩)
set_option maxRecDepth 20000 in
theorem mw_120 : ∀ w ∈ mm_mw 120, w ∈ lw_tbl := (List.forall_mem_cons.mpr ⟨(tb_4 _ (List.mem_of_getElem? (i := 129) rfl)), (List.forall_mem_cons.mpr ⟨(tb_1 _ (List.mem_of_getElem? (i := 1) rfl)), (List.forall_mem_cons.mpr ⟨(tb_4 _ (List.mem_of_getElem? (i := 127) rfl)), (List.forall_mem_cons.mpr ⟨(tb_4 _ (List.mem_of_getElem? (i := 128) rfl)), (fun _ h => absurd h List.not_mem_nil)⟩)⟩)⟩)⟩)
set_option maxRecDepth 20000 in
theorem mw_121 : ∀ w ∈ mm_mw 121, w ∈ lw_tbl := (List.forall_mem_cons.mpr ⟨(tb_4 _ (List.mem_of_getElem? (i := 133) rfl)), (List.forall_mem_cons.mpr ⟨(tb_1 _ (List.mem_of_getElem? (i := 1) rfl)), (List.forall_mem_cons.mpr ⟨(tb_4 _ (List.mem_of_getElem? (i := 131) rfl)), (List.forall_mem_cons.mpr ⟨(tb_4 _ (List.mem_of_getElem? (i := 132) rfl)), (fun _ h => absurd h List.not_mem_nil)⟩)⟩)⟩)⟩)
set_option maxRecDepth 20000 in
theorem mw_122 : ∀ w ∈ mm_mw 122, w ∈ lw_tbl := (List.forall_mem_cons.mpr ⟨(tb_4 _ (List.mem_of_getElem? (i := 137) rfl)), (List.forall_mem_cons.mpr ⟨(tb_1 _ (List.mem_of_getElem? (i := 1) rfl)), (List.forall_mem_cons.mpr ⟨(tb_4 _ (List.mem_of_getElem? (i := 135) rfl)), (List.forall_mem_cons.mpr ⟨(tb_4 _ (List.mem_of_getElem? (i := 136) rfl)), (fun _ h => absurd h List.not_mem_nil)⟩)⟩)⟩)⟩)
set_option maxRecDepth 20000 in
theorem mw_123 : ∀ w ∈ mm_mw 123, w ∈ lw_tbl := (List.forall_mem_cons.mpr ⟨(tb_4 _ (List.mem_of_getElem? (i := 151) rfl)), (List.forall_mem_cons.mpr ⟨(tb_1 _ (List.mem_of_getElem? (i := 1) rfl)), (List.forall_mem_cons.mpr ⟨(tb_4 _ (List.mem_of_getElem? (i := 149) rfl)), (List.forall_mem_cons.mpr ⟨(tb_4 _ (List.mem_of_getElem? (i := 150) rfl)), (fun _ h => absurd h List.not_mem_nil)⟩)⟩)⟩)⟩)
set_option maxRecDepth 20000 in
theorem mw_124 : ∀ w ∈ mm_mw 124, w ∈ lw_tbl := (List.forall_mem_cons.mpr ⟨(tb_4 _ (List.mem_of_getElem? (i := 155) rfl)), (List.forall_mem_cons.mpr ⟨(tb_1 _ (List.mem_of_getElem? (i := 1) rfl)), (List.forall_mem_cons.mpr ⟨(tb_4 _ (List.mem_of_getElem? (i := 153) rfl)), (List.forall_mem_cons.mpr ⟨(tb_4 _ (List.mem_of_getElem? (i := 154) rfl)), (fun _ h => absurd h List.not_mem_nil)⟩)⟩)⟩)⟩)
set_option maxRecDepth 20000 in
theorem mw_125 : ∀ w ∈ mm_mw 125, w ∈ lw_tbl := (List.forall_mem_cons.mpr ⟨(tb_4 _ (List.mem_of_getElem? (i := 160) rfl)), (List.forall_mem_cons.mpr ⟨(tb_1 _ (List.mem_of_getElem? (i := 1) rfl)), (List.forall_mem_cons.mpr ⟨(tb_4 _ (List.mem_of_getElem? (i := 158) rfl)), (List.forall_mem_cons.mpr ⟨(tb_4 _ (List.mem_of_getElem? (i := 159) rfl)), (fun _ h => absurd h List.not_mem_nil)⟩)⟩)⟩)⟩)
set_option maxRecDepth 20000 in
theorem mw_126 : ∀ w ∈ mm_mw 126, w ∈ lw_tbl := (List.forall_mem_cons.mpr ⟨(tb_4 _ (List.mem_of_getElem? (i := 174) rfl)), (List.forall_mem_cons.mpr ⟨(tb_1 _ (List.mem_of_getElem? (i := 1) rfl)), (List.forall_mem_cons.mpr ⟨(tb_4 _ (List.mem_of_getElem? (i := 172) rfl)), (List.forall_mem_cons.mpr ⟨(tb_4 _ (List.mem_of_getElem? (i := 173) rfl)), (fun _ h => absurd h List.not_mem_nil)⟩)⟩)⟩)⟩)
set_option maxRecDepth 20000 in
theorem mw_127 : ∀ w ∈ mm_mw 127, w ∈ lw_tbl := (List.forall_mem_cons.mpr ⟨(tb_4 _ (List.mem_of_getElem? (i := 178) rfl)), (List.forall_mem_cons.mpr ⟨(tb_1 _ (List.mem_of_getElem? (i := 1) rfl)), (List.forall_mem_cons.mpr ⟨(tb_4 _ (List.mem_of_getElem? (i := 176) rfl)), (List.forall_mem_cons.mpr ⟨(tb_4 _ (List.mem_of_getElem? (i := 177) rfl)), (fun _ h => absurd h List.not_mem_nil)⟩)⟩)⟩)⟩)
set_option maxRecDepth 20000 in
theorem mw_128 : ∀ w ∈ mm_mw 128, w ∈ lw_tbl := (List.forall_mem_cons.mpr ⟨(tb_4 _ (List.mem_of_getElem? (i := 182) rfl)), (List.forall_mem_cons.mpr ⟨(tb_1 _ (List.mem_of_getElem? (i := 1) rfl)), (List.forall_mem_cons.mpr ⟨(tb_4 _ (List.mem_of_getElem? (i := 180) rfl)), (List.forall_mem_cons.mpr ⟨(tb_4 _ (List.mem_of_getElem? (i := 181) rfl)), (fun _ h => absurd h List.not_mem_nil)⟩)⟩)⟩)⟩)
set_option maxRecDepth 20000 in
theorem mw_129 : ∀ w ∈ mm_mw 129, w ∈ lw_tbl := (List.forall_mem_cons.mpr ⟨(tb_4 _ (List.mem_of_getElem? (i := 189) rfl)), (List.forall_mem_cons.mpr ⟨(tb_1 _ (List.mem_of_getElem? (i := 1) rfl)), (List.forall_mem_cons.mpr ⟨(tb_4 _ (List.mem_of_getElem? (i := 187) rfl)), (List.forall_mem_cons.mpr ⟨(tb_4 _ (List.mem_of_getElem? (i := 188) rfl)), (fun _ h => absurd h List.not_mem_nil)⟩)⟩)⟩)⟩)
set_option maxRecDepth 20000 in
theorem mw_130 : ∀ w ∈ mm_mw 130, w ∈ lw_tbl := (List.forall_mem_cons.mpr ⟨(tb_4 _ (List.mem_of_getElem? (i := 198) rfl)), (List.forall_mem_cons.mpr ⟨(tb_1 _ (List.mem_of_getElem? (i := 1) rfl)), (List.forall_mem_cons.mpr ⟨(tb_4 _ (List.mem_of_getElem? (i := 196) rfl)), (List.forall_mem_cons.mpr ⟨(tb_4 _ (List.mem_of_getElem? (i := 197) rfl)), (fun _ h => absurd h List.not_mem_nil)⟩)⟩)⟩)⟩)
set_option maxRecDepth 20000 in
theorem mw_131 : ∀ w ∈ mm_mw 131, w ∈ lw_tbl := (List.forall_mem_cons.mpr ⟨(tb_4 _ (List.mem_of_getElem? (i := 202) rfl)), (List.forall_mem_cons.mpr ⟨(tb_1 _ (List.mem_of_getElem? (i := 1) rfl)), (List.forall_mem_cons.mpr ⟨(tb_4 _ (List.mem_of_getElem? (i := 200) rfl)), (List.forall_mem_cons.mpr ⟨(tb_4 _ (List.mem_of_getElem? (i := 201) rfl)), (fun _ h => absurd h List.not_mem_nil)⟩)⟩)⟩)⟩)
set_option maxRecDepth 20000 in
theorem mw_132 : ∀ w ∈ mm_mw 132, w ∈ lw_tbl := (List.forall_mem_cons.mpr ⟨(tb_4 _ (List.mem_of_getElem? (i := 229) rfl)), (List.forall_mem_cons.mpr ⟨(tb_1 _ (List.mem_of_getElem? (i := 1) rfl)), (List.forall_mem_cons.mpr ⟨(tb_4 _ (List.mem_of_getElem? (i := 227) rfl)), (List.forall_mem_cons.mpr ⟨(tb_4 _ (List.mem_of_getElem? (i := 228) rfl)), (fun _ h => absurd h List.not_mem_nil)⟩)⟩)⟩)⟩)
set_option maxRecDepth 20000 in
theorem mw_133 : ∀ w ∈ mm_mw 133, w ∈ lw_tbl := (List.forall_mem_cons.mpr ⟨(tb_5 _ (List.mem_of_getElem? (i := 8) rfl)), (List.forall_mem_cons.mpr ⟨(tb_1 _ (List.mem_of_getElem? (i := 1) rfl)), (List.forall_mem_cons.mpr ⟨(tb_5 _ (List.mem_of_getElem? (i := 6) rfl)), (List.forall_mem_cons.mpr ⟨(tb_5 _ (List.mem_of_getElem? (i := 7) rfl)), (fun _ h => absurd h List.not_mem_nil)⟩)⟩)⟩)⟩)
set_option maxRecDepth 20000 in
theorem mw_134 : ∀ w ∈ mm_mw 134, w ∈ lw_tbl := (List.forall_mem_cons.mpr ⟨(tb_5 _ (List.mem_of_getElem? (i := 13) rfl)), (List.forall_mem_cons.mpr ⟨(tb_1 _ (List.mem_of_getElem? (i := 1) rfl)), (List.forall_mem_cons.mpr ⟨(tb_5 _ (List.mem_of_getElem? (i := 11) rfl)), (List.forall_mem_cons.mpr ⟨(tb_5 _ (List.mem_of_getElem? (i := 12) rfl)), (fun _ h => absurd h List.not_mem_nil)⟩)⟩)⟩)⟩)
set_option maxRecDepth 20000 in
theorem mw_135 : ∀ w ∈ mm_mw 135, w ∈ lw_tbl := (List.forall_mem_cons.mpr ⟨(tb_5 _ (List.mem_of_getElem? (i := 39) rfl)), (List.forall_mem_cons.mpr ⟨(tb_1 _ (List.mem_of_getElem? (i := 1) rfl)), (List.forall_mem_cons.mpr ⟨(tb_5 _ (List.mem_of_getElem? (i := 37) rfl)), (List.forall_mem_cons.mpr ⟨(tb_5 _ (List.mem_of_getElem? (i := 38) rfl)), (fun _ h => absurd h List.not_mem_nil)⟩)⟩)⟩)⟩)
set_option maxRecDepth 20000 in
theorem mw_136 : ∀ w ∈ mm_mw 136, w ∈ lw_tbl := (List.forall_mem_cons.mpr ⟨(tb_5 _ (List.mem_of_getElem? (i := 61) rfl)), (List.forall_mem_cons.mpr ⟨(tb_1 _ (List.mem_of_getElem? (i := 1) rfl)), (List.forall_mem_cons.mpr ⟨(tb_5 _ (List.mem_of_getElem? (i := 59) rfl)), (List.forall_mem_cons.mpr ⟨(tb_5 _ (List.mem_of_getElem? (i := 60) rfl)), (fun _ h => absurd h List.not_mem_nil)⟩)⟩)⟩)⟩)
set_option maxRecDepth 20000 in
theorem mw_137 : ∀ w ∈ mm_mw 137, w ∈ lw_tbl := (List.forall_mem_cons.mpr ⟨(tb_5 _ (List.mem_of_getElem? (i := 77) rfl)), (List.forall_mem_cons.mpr ⟨(tb_1 _ (List.mem_of_getElem? (i := 1) rfl)), (List.forall_mem_cons.mpr ⟨(tb_5 _ (List.mem_of_getElem? (i := 75) rfl)), (List.forall_mem_cons.mpr ⟨(tb_5 _ (List.mem_of_getElem? (i := 76) rfl)), (fun _ h => absurd h List.not_mem_nil)⟩)⟩)⟩)⟩)
set_option maxRecDepth 20000 in
theorem mw_138 : ∀ w ∈ mm_mw 138, w ∈ lw_tbl := (List.forall_mem_cons.mpr ⟨(tb_5 _ (List.mem_of_getElem? (i := 102) rfl)), (List.forall_mem_cons.mpr ⟨(tb_1 _ (List.mem_of_getElem? (i := 1) rfl)), (List.forall_mem_cons.mpr ⟨(tb_5 _ (List.mem_of_getElem? (i := 100) rfl)), (List.forall_mem_cons.mpr ⟨(tb_5 _ (List.mem_of_getElem? (i := 101) rfl)), (fun _ h => absurd h List.not_mem_nil)⟩)⟩)⟩)⟩)
set_option maxRecDepth 20000 in
theorem mw_139 : ∀ w ∈ mm_mw 139, w ∈ lw_tbl := (List.forall_mem_cons.mpr ⟨(tb_4 _ (List.mem_of_getElem? (i := 102) rfl)), (List.forall_mem_cons.mpr ⟨(tb_1 _ (List.mem_of_getElem? (i := 1) rfl)), (List.forall_mem_cons.mpr ⟨(tb_4 _ (List.mem_of_getElem? (i := 101) rfl)), (List.forall_mem_cons.mpr ⟨(tb_0 _ (List.mem_of_getElem? (i := 1) rfl)), (fun _ h => absurd h List.not_mem_nil)⟩)⟩)⟩)⟩)
set_option maxRecDepth 20000 in
theorem mw_140 : ∀ w ∈ mm_mw 140, w ∈ lw_tbl := (List.forall_mem_cons.mpr ⟨(tb_4 _ (List.mem_of_getElem? (i := 120) rfl)), (List.forall_mem_cons.mpr ⟨(tb_1 _ (List.mem_of_getElem? (i := 1) rfl)), (List.forall_mem_cons.mpr ⟨(tb_4 _ (List.mem_of_getElem? (i := 119) rfl)), (List.forall_mem_cons.mpr ⟨(tb_0 _ (List.mem_of_getElem? (i := 3) rfl)), (fun _ h => absurd h List.not_mem_nil)⟩)⟩)⟩)⟩)
set_option maxRecDepth 20000 in
theorem mw_141 : ∀ w ∈ mm_mw 141, w ∈ lw_tbl := (List.forall_mem_cons.mpr ⟨(tb_4 _ (List.mem_of_getElem? (i := 107) rfl)), (List.forall_mem_cons.mpr ⟨(tb_1 _ (List.mem_of_getElem? (i := 1) rfl)), (List.forall_mem_cons.mpr ⟨(tb_4 _ (List.mem_of_getElem? (i := 106) rfl)), (List.forall_mem_cons.mpr ⟨(tb_0 _ (List.mem_of_getElem? (i := 2) rfl)), (fun _ h => absurd h List.not_mem_nil)⟩)⟩)⟩)⟩)
set_option maxRecDepth 20000 in
theorem mw_142 : ∀ w ∈ mm_mw 142, w ∈ lw_tbl := (List.forall_mem_cons.mpr ⟨(tb_3 _ (List.mem_of_getElem? (i := 145) rfl)), (List.forall_mem_cons.mpr ⟨(tb_1 _ (List.mem_of_getElem? (i := 1) rfl)), (List.forall_mem_cons.mpr ⟨(tb_3 _ (List.mem_of_getElem? (i := 144) rfl)), (List.forall_mem_cons.mpr ⟨(tb_0 _ (List.mem_of_getElem? (i := 0) rfl)), (fun _ h => absurd h List.not_mem_nil)⟩)⟩)⟩)⟩)
set_option maxRecDepth 20000 in
theorem mw_143 : ∀ w ∈ mm_mw 143, w ∈ lw_tbl := (List.forall_mem_cons.mpr ⟨(tb_4 _ (List.mem_of_getElem? (i := 185) rfl)), (List.forall_mem_cons.mpr ⟨(tb_1 _ (List.mem_of_getElem? (i := 1) rfl)), (List.forall_mem_cons.mpr ⟨(tb_4 _ (List.mem_of_getElem? (i := 184) rfl)), (fun _ h => absurd h List.not_mem_nil)⟩)⟩)⟩)
set_option maxRecDepth 20000 in
theorem mw_144 : ∀ w ∈ mm_mw 144, w ∈ lw_tbl := (List.forall_mem_cons.mpr ⟨(tb_3 _ (List.mem_of_getElem? (i := 91) rfl)), (List.forall_mem_cons.mpr ⟨(tb_1 _ (List.mem_of_getElem? (i := 1) rfl)), (List.forall_mem_cons.mpr ⟨(tb_3 _ (List.mem_of_getElem? (i := 90) rfl)), (fun _ h => absurd h List.not_mem_nil)⟩)⟩)⟩)
set_option maxRecDepth 20000 in
theorem mw_145 : ∀ w ∈ mm_mw 145, w ∈ lw_tbl := (List.forall_mem_cons.mpr ⟨(tb_4 _ (List.mem_of_getElem? (i := 233) rfl)), (List.forall_mem_cons.mpr ⟨(tb_1 _ (List.mem_of_getElem? (i := 1) rfl)), (List.forall_mem_cons.mpr ⟨(tb_4 _ (List.mem_of_getElem? (i := 232) rfl)), (fun _ h => absurd h List.not_mem_nil)⟩)⟩)⟩)
set_option maxRecDepth 20000 in
theorem mw_146 : ∀ w ∈ mm_mw 146, w ∈ lw_tbl := (List.forall_mem_cons.mpr ⟨(tb_5 _ (List.mem_of_getElem? (i := 198) rfl)), (List.forall_mem_cons.mpr ⟨(tb_1 _ (List.mem_of_getElem? (i := 12) rfl)), (List.forall_mem_cons.mpr ⟨(tb_5 _ (List.mem_of_getElem? (i := 197) rfl)), (fun _ h => absurd h List.not_mem_nil)⟩)⟩)⟩)
set_option maxRecDepth 20000 in
theorem mw_147 : ∀ w ∈ mm_mw 147, w ∈ lw_tbl := (List.forall_mem_cons.mpr ⟨(tb_6 _ (List.mem_of_getElem? (i := 206) rfl)), (List.forall_mem_cons.mpr ⟨(tb_1 _ (List.mem_of_getElem? (i := 12) rfl)), (List.forall_mem_cons.mpr ⟨(tb_6 _ (List.mem_of_getElem? (i := 204) rfl)), (List.forall_mem_cons.mpr ⟨(tb_6 _ (List.mem_of_getElem? (i := 205) rfl)), (fun _ h => absurd h List.not_mem_nil)⟩)⟩)⟩)⟩)
set_option maxRecDepth 20000 in
theorem mw_148 : ∀ w ∈ mm_mw 148, w ∈ lw_tbl := (List.forall_mem_cons.mpr ⟨(tb_8 _ (List.mem_of_getElem? (i := 35) rfl)), (List.forall_mem_cons.mpr ⟨(tb_1 _ (List.mem_of_getElem? (i := 12) rfl)), (List.forall_mem_cons.mpr ⟨(tb_8 _ (List.mem_of_getElem? (i := 34) rfl)), (fun _ h => absurd h List.not_mem_nil)⟩)⟩)⟩)
set_option maxRecDepth 20000 in
theorem mw_149 : ∀ w ∈ mm_mw 149, w ∈ lw_tbl := (List.forall_mem_cons.mpr ⟨(tb_7 _ (List.mem_of_getElem? (i := 32) rfl)), (List.forall_mem_cons.mpr ⟨(tb_1 _ (List.mem_of_getElem? (i := 12) rfl)), (List.forall_mem_cons.mpr ⟨(tb_7 _ (List.mem_of_getElem? (i := 31) rfl)), (fun _ h => absurd h List.not_mem_nil)⟩)⟩)⟩)
set_option maxRecDepth 20000 in
theorem mw_150 : ∀ w ∈ mm_mw 150, w ∈ lw_tbl := (List.forall_mem_cons.mpr ⟨(tb_7 _ (List.mem_of_getElem? (i := 144) rfl)), (List.forall_mem_cons.mpr ⟨(tb_1 _ (List.mem_of_getElem? (i := 12) rfl)), (List.forall_mem_cons.mpr ⟨(tb_7 _ (List.mem_of_getElem? (i := 143) rfl)), (fun _ h => absurd h List.not_mem_nil)⟩)⟩)⟩)
set_option maxRecDepth 20000 in
theorem mw_151 : ∀ w ∈ mm_mw 151, w ∈ lw_tbl := (List.forall_mem_cons.mpr ⟨(tb_7 _ (List.mem_of_getElem? (i := 2) rfl)), (List.forall_mem_cons.mpr ⟨(tb_1 _ (List.mem_of_getElem? (i := 12) rfl)), (List.forall_mem_cons.mpr ⟨(tb_7 _ (List.mem_of_getElem? (i := 1) rfl)), (List.forall_mem_cons.mpr ⟨(tb_0 _ (List.mem_of_getElem? (i := 14) rfl)), (fun _ h => absurd h List.not_mem_nil)⟩)⟩)⟩)⟩)
set_option maxRecDepth 20000 in
theorem mw_152 : ∀ w ∈ mm_mw 152, w ∈ lw_tbl := (List.forall_mem_cons.mpr ⟨(tb_6 _ (List.mem_of_getElem? (i := 226) rfl)), (List.forall_mem_cons.mpr ⟨(tb_1 _ (List.mem_of_getElem? (i := 12) rfl)), (List.forall_mem_cons.mpr ⟨(tb_6 _ (List.mem_of_getElem? (i := 225) rfl)), (List.forall_mem_cons.mpr ⟨(tb_0 _ (List.mem_of_getElem? (i := 10) rfl)), (fun _ h => absurd h List.not_mem_nil)⟩)⟩)⟩)⟩)
set_option maxRecDepth 20000 in
theorem mw_153 : ∀ w ∈ mm_mw 153, w ∈ lw_tbl := (List.forall_mem_cons.mpr ⟨(tb_6 _ (List.mem_of_getElem? (i := 222) rfl)), (List.forall_mem_cons.mpr ⟨(tb_1 _ (List.mem_of_getElem? (i := 12) rfl)), (List.forall_mem_cons.mpr ⟨(tb_6 _ (List.mem_of_getElem? (i := 221) rfl)), (List.forall_mem_cons.mpr ⟨(tb_0 _ (List.mem_of_getElem? (i := 9) rfl)), (fun _ h => absurd h List.not_mem_nil)⟩)⟩)⟩)⟩)
set_option maxRecDepth 20000 in
theorem mw_154 : ∀ w ∈ mm_mw 154, w ∈ lw_tbl := (List.forall_mem_cons.mpr ⟨(tb_6 _ (List.mem_of_getElem? (i := 234) rfl)), (List.forall_mem_cons.mpr ⟨(tb_1 _ (List.mem_of_getElem? (i := 12) rfl)), (List.forall_mem_cons.mpr ⟨(tb_6 _ (List.mem_of_getElem? (i := 233) rfl)), (List.forall_mem_cons.mpr ⟨(tb_0 _ (List.mem_of_getElem? (i := 12) rfl)), (fun _ h => absurd h List.not_mem_nil)⟩)⟩)⟩)⟩)
set_option maxRecDepth 20000 in
theorem mw_155 : ∀ w ∈ mm_mw 155, w ∈ lw_tbl := (List.forall_mem_cons.mpr ⟨(tb_6 _ (List.mem_of_getElem? (i := 218) rfl)), (List.forall_mem_cons.mpr ⟨(tb_1 _ (List.mem_of_getElem? (i := 12) rfl)), (List.forall_mem_cons.mpr ⟨(tb_6 _ (List.mem_of_getElem? (i := 217) rfl)), (List.forall_mem_cons.mpr ⟨(tb_0 _ (List.mem_of_getElem? (i := 8) rfl)), (fun _ h => absurd h List.not_mem_nil)⟩)⟩)⟩)⟩)
set_option maxRecDepth 20000 in
theorem mw_156 : ∀ w ∈ mm_mw 156, w ∈ lw_tbl := (List.forall_mem_cons.mpr ⟨(tb_6 _ (List.mem_of_getElem? (i := 230) rfl)), (List.forall_mem_cons.mpr ⟨(tb_1 _ (List.mem_of_getElem? (i := 12) rfl)), (List.forall_mem_cons.mpr ⟨(tb_6 _ (List.mem_of_getElem? (i := 229) rfl)), (List.forall_mem_cons.mpr ⟨(tb_0 _ (List.mem_of_getElem? (i := 11) rfl)), (fun _ h => absurd h List.not_mem_nil)⟩)⟩)⟩)⟩)
set_option maxRecDepth 20000 in
theorem mw_157 : ∀ w ∈ mm_mw 157, w ∈ lw_tbl := (List.forall_mem_cons.mpr ⟨(tb_7 _ (List.mem_of_getElem? (i := 212) rfl)), (List.forall_mem_cons.mpr ⟨(tb_1 _ (List.mem_of_getElem? (i := 12) rfl)), (List.forall_mem_cons.mpr ⟨(tb_7 _ (List.mem_of_getElem? (i := 211) rfl)), (List.forall_mem_cons.mpr ⟨(tb_0 _ (List.mem_of_getElem? (i := 44) rfl)), (fun _ h => absurd h List.not_mem_nil)⟩)⟩)⟩)⟩)
set_option maxRecDepth 20000 in
theorem mw_158 : ∀ w ∈ mm_mw 158, w ∈ lw_tbl := (List.forall_mem_cons.mpr ⟨(tb_7 _ (List.mem_of_getElem? (i := 36) rfl)), (List.forall_mem_cons.mpr ⟨(tb_1 _ (List.mem_of_getElem? (i := 12) rfl)), (List.forall_mem_cons.mpr ⟨(tb_7 _ (List.mem_of_getElem? (i := 35) rfl)), (List.forall_mem_cons.mpr ⟨(tb_0 _ (List.mem_of_getElem? (i := 21) rfl)), (fun _ h => absurd h List.not_mem_nil)⟩)⟩)⟩)⟩)
set_option maxRecDepth 20000 in
theorem mw_159 : ∀ w ∈ mm_mw 159, w ∈ lw_tbl := (List.forall_mem_cons.mpr ⟨(tb_7 _ (List.mem_of_getElem? (i := 40) rfl)), (List.forall_mem_cons.mpr ⟨(tb_1 _ (List.mem_of_getElem? (i := 12) rfl)), (List.forall_mem_cons.mpr ⟨(tb_7 _ (List.mem_of_getElem? (i := 39) rfl)), (List.forall_mem_cons.mpr ⟨(tb_0 _ (List.mem_of_getElem? (i := 22) rfl)), (fun _ h => absurd h List.not_mem_nil)⟩)⟩)⟩)⟩)
set_option maxRecDepth 20000 in
theorem mw_160 : ∀ w ∈ mm_mw 160, w ∈ lw_tbl := (List.forall_mem_cons.mpr ⟨(tb_7 _ (List.mem_of_getElem? (i := 208) rfl)), (List.forall_mem_cons.mpr ⟨(tb_1 _ (List.mem_of_getElem? (i := 12) rfl)), (List.forall_mem_cons.mpr ⟨(tb_7 _ (List.mem_of_getElem? (i := 207) rfl)), (List.forall_mem_cons.mpr ⟨(tb_0 _ (List.mem_of_getElem? (i := 43) rfl)), (fun _ h => absurd h List.not_mem_nil)⟩)⟩)⟩)⟩)
set_option maxRecDepth 20000 in
theorem mw_161 : ∀ w ∈ mm_mw 161, w ∈ lw_tbl := (List.forall_mem_cons.mpr ⟨(tb_7 _ (List.mem_of_getElem? (i := 6) rfl)), (List.forall_mem_cons.mpr ⟨(tb_1 _ (List.mem_of_getElem? (i := 12) rfl)), (List.forall_mem_cons.mpr ⟨(tb_7 _ (List.mem_of_getElem? (i := 5) rfl)), (List.forall_mem_cons.mpr ⟨(tb_0 _ (List.mem_of_getElem? (i := 15) rfl)), (fun _ h => absurd h List.not_mem_nil)⟩)⟩)⟩)⟩)
set_option maxRecDepth 20000 in
theorem mw_162 : ∀ w ∈ mm_mw 162, w ∈ lw_tbl := (List.forall_mem_cons.mpr ⟨(tb_6 _ (List.mem_of_getElem? (i := 214) rfl)), (List.forall_mem_cons.mpr ⟨(tb_1 _ (List.mem_of_getElem? (i := 12) rfl)), (List.forall_mem_cons.mpr ⟨(tb_6 _ (List.mem_of_getElem? (i := 213) rfl)), (List.forall_mem_cons.mpr ⟨(tb_0 _ (List.mem_of_getElem? (i := 7) rfl)), (fun _ h => absurd h List.not_mem_nil)⟩)⟩)⟩)⟩)
set_option maxRecDepth 20000 in
theorem mw_163 : ∀ w ∈ mm_mw 163, w ∈ lw_tbl := (List.forall_mem_cons.mpr ⟨(tb_5 _ (List.mem_of_getElem? (i := 203) rfl)), (List.forall_mem_cons.mpr ⟨(tb_1 _ (List.mem_of_getElem? (i := 12) rfl)), (List.forall_mem_cons.mpr ⟨(tb_5 _ (List.mem_of_getElem? (i := 202) rfl)), (List.forall_mem_cons.mpr ⟨(tb_0 _ (List.mem_of_getElem? (i := 5) rfl)), (fun _ h => absurd h List.not_mem_nil)⟩)⟩)⟩)⟩)
set_option maxRecDepth 20000 in
theorem mw_164 : ∀ w ∈ mm_mw 164, w ∈ lw_tbl := (List.forall_mem_cons.mpr ⟨(tb_5 _ (List.mem_of_getElem? (i := 207) rfl)), (List.forall_mem_cons.mpr ⟨(tb_1 _ (List.mem_of_getElem? (i := 12) rfl)), (List.forall_mem_cons.mpr ⟨(tb_5 _ (List.mem_of_getElem? (i := 206) rfl)), (List.forall_mem_cons.mpr ⟨(tb_0 _ (List.mem_of_getElem? (i := 6) rfl)), (fun _ h => absurd h List.not_mem_nil)⟩)⟩)⟩)⟩)
set_option maxRecDepth 20000 in
theorem mw_165 : ∀ w ∈ mm_mw 165, w ∈ lw_tbl := (List.forall_mem_cons.mpr ⟨(tb_7 _ (List.mem_of_getElem? (i := 22) rfl)), (List.forall_mem_cons.mpr ⟨(tb_1 _ (List.mem_of_getElem? (i := 12) rfl)), (List.forall_mem_cons.mpr ⟨(tb_7 _ (List.mem_of_getElem? (i := 21) rfl)), (List.forall_mem_cons.mpr ⟨(tb_0 _ (List.mem_of_getElem? (i := 19) rfl)), (fun _ h => absurd h List.not_mem_nil)⟩)⟩)⟩)⟩)
set_option maxRecDepth 20000 in
theorem mw_166 : ∀ w ∈ mm_mw 166, w ∈ lw_tbl := (List.forall_mem_cons.mpr ⟨(tb_7 _ (List.mem_of_getElem? (i := 18) rfl)), (List.forall_mem_cons.mpr ⟨(tb_1 _ (List.mem_of_getElem? (i := 12) rfl)), (List.forall_mem_cons.mpr ⟨(tb_7 _ (List.mem_of_getElem? (i := 17) rfl)), (List.forall_mem_cons.mpr ⟨(tb_0 _ (List.mem_of_getElem? (i := 18) rfl)), (fun _ h => absurd h List.not_mem_nil)⟩)⟩)⟩)⟩)
set_option maxRecDepth 20000 in
theorem mw_167 : ∀ w ∈ mm_mw 167, w ∈ lw_tbl := (List.forall_mem_cons.mpr ⟨(tb_7 _ (List.mem_of_getElem? (i := 25) rfl)), (List.forall_mem_cons.mpr ⟨(tb_1 _ (List.mem_of_getElem? (i := 12) rfl)), (List.forall_mem_cons.mpr ⟨(tb_7 _ (List.mem_of_getElem? (i := 24) rfl)), (fun _ h => absurd h List.not_mem_nil)⟩)⟩)⟩)
set_option maxRecDepth 20000 in
theorem mw_168 : ∀ w ∈ mm_mw 168, w ∈ lw_tbl := (List.forall_mem_cons.mpr ⟨(tb_7 _ (List.mem_of_getElem? (i := 14) rfl)), (List.forall_mem_cons.mpr ⟨(tb_1 _ (List.mem_of_getElem? (i := 12) rfl)), (List.forall_mem_cons.mpr ⟨(tb_7 _ (List.mem_of_getElem? (i := 13) rfl)), (List.forall_mem_cons.mpr ⟨(tb_0 _ (List.mem_of_getElem? (i := 17) rfl)), (fun _ h => absurd h List.not_mem_nil)⟩)⟩)⟩)⟩)
set_option maxRecDepth 20000 in
theorem mw_169 : ∀ w ∈ mm_mw 169, w ∈ lw_tbl := (List.forall_mem_cons.mpr ⟨(tb_7 _ (List.mem_of_getElem? (i := 10) rfl)), (List.forall_mem_cons.mpr ⟨(tb_1 _ (List.mem_of_getElem? (i := 12) rfl)), (List.forall_mem_cons.mpr ⟨(tb_7 _ (List.mem_of_getElem? (i := 9) rfl)), (List.forall_mem_cons.mpr ⟨(tb_0 _ (List.mem_of_getElem? (i := 16) rfl)), (fun _ h => absurd h List.not_mem_nil)⟩)⟩)⟩)⟩)
set_option maxRecDepth 20000 in
theorem mw_170 : ∀ w ∈ mm_mw 170, w ∈ lw_tbl := (List.forall_mem_cons.mpr ⟨(tb_7 _ (List.mem_of_getElem? (i := 29) rfl)), (List.forall_mem_cons.mpr ⟨(tb_1 _ (List.mem_of_getElem? (i := 12) rfl)), (List.forall_mem_cons.mpr ⟨(tb_7 _ (List.mem_of_getElem? (i := 28) rfl)), (List.forall_mem_cons.mpr ⟨(tb_0 _ (List.mem_of_getElem? (i := 20) rfl)), (fun _ h => absurd h List.not_mem_nil)⟩)⟩)⟩)⟩)
set_option maxRecDepth 20000 in
theorem mw_171 : ∀ w ∈ mm_mw 171, w ∈ lw_tbl := (List.forall_mem_cons.mpr ⟨(tb_6 _ (List.mem_of_getElem? (i := 238) rfl)), (List.forall_mem_cons.mpr ⟨(tb_1 _ (List.mem_of_getElem? (i := 12) rfl)), (List.forall_mem_cons.mpr ⟨(tb_6 _ (List.mem_of_getElem? (i := 237) rfl)), (List.forall_mem_cons.mpr ⟨(tb_0 _ (List.mem_of_getElem? (i := 13) rfl)), (fun _ h => absurd h List.not_mem_nil)⟩)⟩)⟩)⟩)
set_option maxRecDepth 20000 in
theorem mw_172 : ∀ w ∈ mm_mw 172, w ∈ lw_tbl := (List.forall_mem_cons.mpr ⟨(tb_6 _ (List.mem_of_getElem? (i := 210) rfl)), (List.forall_mem_cons.mpr ⟨(tb_1 _ (List.mem_of_getElem? (i := 12) rfl)), (List.forall_mem_cons.mpr ⟨(tb_6 _ (List.mem_of_getElem? (i := 208) rfl)), (List.forall_mem_cons.mpr ⟨(tb_6 _ (List.mem_of_getElem? (i := 209) rfl)), (fun _ h => absurd h List.not_mem_nil)⟩)⟩)⟩)⟩)
set_option maxRecDepth 20000 in
theorem mw_173 : ∀ w ∈ mm_mw 173, w ∈ lw_tbl := (List.forall_mem_cons.mpr ⟨(tb_7 _ (List.mem_of_getElem? (i := 44) rfl)), (List.forall_mem_cons.mpr ⟨(tb_1 _ (List.mem_of_getElem? (i := 12) rfl)), (List.forall_mem_cons.mpr ⟨(tb_7 _ (List.mem_of_getElem? (i := 42) rfl)), (List.forall_mem_cons.mpr ⟨(tb_7 _ (List.mem_of_getElem? (i := 43) rfl)), (fun _ h => absurd h List.not_mem_nil)⟩)⟩)⟩)⟩)
set_option maxRecDepth 20000 in
theorem mw_174 : ∀ w ∈ mm_mw 174, w ∈ lw_tbl := (List.forall_mem_cons.mpr ⟨(tb_7 _ (List.mem_of_getElem? (i := 52) rfl)), (List.forall_mem_cons.mpr ⟨(tb_1 _ (List.mem_of_getElem? (i := 12) rfl)), (List.forall_mem_cons.mpr ⟨(tb_7 _ (List.mem_of_getElem? (i := 51) rfl)), (List.forall_mem_cons.mpr ⟨(tb_0 _ (List.mem_of_getElem? (i := 23) rfl)), (fun _ h => absurd h List.not_mem_nil)⟩)⟩)⟩)⟩)
set_option maxRecDepth 20000 in
theorem mw_175 : ∀ w ∈ mm_mw 175, w ∈ lw_tbl := (List.forall_mem_cons.mpr ⟨(tb_7 _ (List.mem_of_getElem? (i := 56) rfl)), (List.forall_mem_cons.mpr ⟨(tb_1 _ (List.mem_of_getElem? (i := 12) rfl)), (List.forall_mem_cons.mpr ⟨(tb_7 _ (List.mem_of_getElem? (i := 55) rfl)), (List.forall_mem_cons.mpr ⟨(tb_0 _ (List.mem_of_getElem? (i := 24) rfl)), (fun _ h => absurd h List.not_mem_nil)⟩)⟩)⟩)⟩)
set_option maxRecDepth 20000 in
theorem mw_176 : ∀ w ∈ mm_mw 176, w ∈ lw_tbl := (List.forall_mem_cons.mpr ⟨(tb_7 _ (List.mem_of_getElem? (i := 48) rfl)), (List.forall_mem_cons.mpr ⟨(tb_1 _ (List.mem_of_getElem? (i := 12) rfl)), (List.forall_mem_cons.mpr ⟨(tb_7 _ (List.mem_of_getElem? (i := 46) rfl)), (List.forall_mem_cons.mpr ⟨(tb_7 _ (List.mem_of_getElem? (i := 47) rfl)), (fun _ h => absurd h List.not_mem_nil)⟩)⟩)⟩)⟩)
set_option maxRecDepth 20000 in
theorem mw_177 : ∀ w ∈ mm_mw 177, w ∈ lw_tbl := (List.forall_mem_cons.mpr ⟨(tb_7 _ (List.mem_of_getElem? (i := 64) rfl)), (List.forall_mem_cons.mpr ⟨(tb_1 _ (List.mem_of_getElem? (i := 12) rfl)), (List.forall_mem_cons.mpr ⟨(tb_7 _ (List.mem_of_getElem? (i := 63) rfl)), (List.forall_mem_cons.mpr ⟨(tb_0 _ (List.mem_of_getElem? (i := 25) rfl)), (fun _ h => absurd h List.not_mem_nil)⟩)⟩)⟩)⟩)
set_option maxRecDepth 20000 in
theorem mw_178 : ∀ w ∈ mm_mw 178, w ∈ lw_tbl := (List.forall_mem_cons.mpr ⟨(tb_7 _ (List.mem_of_getElem? (i := 80) rfl)), (List.forall_mem_cons.mpr ⟨(tb_1 _ (List.mem_of_getElem? (i := 12) rfl)), (List.forall_mem_cons.mpr ⟨(tb_7 _ (List.mem_of_getElem? (i := 79) rfl)), (List.forall_mem_cons.mpr ⟨(tb_0 _ (List.mem_of_getElem? (i := 28) rfl)), (fun _ h => absurd h List.not_mem_nil)⟩)⟩)⟩)⟩)
set_option maxRecDepth 20000 in
theorem mw_179 : ∀ w ∈ mm_mw 179, w ∈ lw_tbl := (List.forall_mem_cons.mpr ⟨(tb_7 _ (List.mem_of_getElem? (i := 96) rfl)), (List.forall_mem_cons.mpr ⟨(tb_1 _ (List.mem_of_getElem? (i := 12) rfl)), (List.forall_mem_cons.mpr ⟨(tb_7 _ (List.mem_of_getElem? (i := 95) rfl)), (List.forall_mem_cons.mpr ⟨(tb_0 _ (List.mem_of_getElem? (i := 31) rfl)), (fun _ h => absurd h List.not_mem_nil)⟩)⟩)⟩)⟩)
set_option maxRecDepth 20000 in
theorem mw_180 : ∀ w ∈ mm_mw 180, w ∈ lw_tbl := (List.forall_mem_cons.mpr ⟨(tb_7 _ (List.mem_of_getElem? (i := 68) rfl)), (List.forall_mem_cons.mpr ⟨(tb_1 _ (List.mem_of_getElem? (i := 12) rfl)), (List.forall_mem_cons.mpr ⟨(tb_7 _ (List.mem_of_getElem? (i := 67) rfl)), (List.forall_mem_cons.mpr ⟨(tb_0 _ (List.mem_of_getElem? (i := 26) rfl)), (fun _ h => absurd h List.not_mem_nil)⟩)⟩)⟩)⟩)
set_option maxRecDepth 20000 in
theorem mw_181 : ∀ w ∈ mm_mw 181, w ∈ lw_tbl := (List.forall_mem_cons.mpr ⟨(tb_7 _ (List.mem_of_getElem? (i := 60) rfl)), (List.forall_mem_cons.mpr ⟨(tb_1 _ (List.mem_of_getElem? (i := 12) rfl)), (List.forall_mem_cons.mpr ⟨(tb_7 _ (List.mem_of_getElem? (i := 58) rfl)), (List.forall_mem_cons.mpr ⟨(tb_7 _ (List.mem_of_getElem? (i := 59) rfl)), (fun _ h => absurd h List.not_mem_nil)⟩)⟩)⟩)⟩)
set_option maxRecDepth 20000 in
theorem mw_182 : ∀ w ∈ mm_mw 182, w ∈ lw_tbl := (List.forall_mem_cons.mpr ⟨(tb_7 _ (List.mem_of_getElem? (i := 84) rfl)), (List.forall_mem_cons.mpr ⟨(tb_1 _ (List.mem_of_getElem? (i := 12) rfl)), (List.forall_mem_cons.mpr ⟨(tb_7 _ (List.mem_of_getElem? (i := 83) rfl)), (List.forall_mem_cons.mpr ⟨(tb_0 _ (List.mem_of_getElem? (i := 29) rfl)), (fun _ h => absurd h List.not_mem_nil)⟩)⟩)⟩)⟩)
set_option maxRecDepth 20000 in
theorem mw_183 : ∀ w ∈ mm_mw 183, w ∈ lw_tbl := (List.forall_mem_cons.mpr ⟨(tb_7 _ (List.mem_of_getElem? (i := 76) rfl)), (List.forall_mem_cons.mpr ⟨(tb_1 _ (List.mem_of_getElem? (i := 12) rfl)), (List.forall_mem_cons.mpr ⟨(tb_7 _ (List.mem_of_getElem? (i := 75) rfl)), (List.forall_mem_cons.mpr ⟨(tb_0 _ (List.mem_of_getElem? (i := 27) rfl)), (fun _ h => absurd h List.not_mem_nil)⟩)⟩)⟩)⟩)
set_option maxRecDepth 20000 in
theorem mw_184 : ∀ w ∈ mm_mw 184, w ∈ lw_tbl := (List.forall_mem_cons.mpr ⟨(tb_7 _ (List.mem_of_getElem? (i := 72) rfl)), (List.forall_mem_cons.mpr ⟨(tb_1 _ (List.mem_of_getElem? (i := 12) rfl)), (List.forall_mem_cons.mpr ⟨(tb_7 _ (List.mem_of_getElem? (i := 70) rfl)), (List.forall_mem_cons.mpr ⟨(tb_7 _ (List.mem_of_getElem? (i := 71) rfl)), (fun _ h => absurd h List.not_mem_nil)⟩)⟩)⟩)⟩)
set_option maxRecDepth 20000 in
theorem mw_185 : ∀ w ∈ mm_mw 185, w ∈ lw_tbl := (List.forall_mem_cons.mpr ⟨(tb_7 _ (List.mem_of_getElem? (i := 92) rfl)), (List.forall_mem_cons.mpr ⟨(tb_1 _ (List.mem_of_getElem? (i := 12) rfl)), (List.forall_mem_cons.mpr ⟨(tb_7 _ (List.mem_of_getElem? (i := 91) rfl)), (List.forall_mem_cons.mpr ⟨(tb_0 _ (List.mem_of_getElem? (i := 30) rfl)), (fun _ h => absurd h List.not_mem_nil)⟩)⟩)⟩)⟩)
set_option maxRecDepth 20000 in
theorem mw_186 : ∀ w ∈ mm_mw 186, w ∈ lw_tbl := (List.forall_mem_cons.mpr ⟨(tb_7 _ (List.mem_of_getElem? (i := 121) rfl)), (List.forall_mem_cons.mpr ⟨(tb_1 _ (List.mem_of_getElem? (i := 12) rfl)), (List.forall_mem_cons.mpr ⟨(tb_7 _ (List.mem_of_getElem? (i := 120) rfl)), (List.forall_mem_cons.mpr ⟨(tb_0 _ (List.mem_of_getElem? (i := 35) rfl)), (fun _ h => absurd h List.not_mem_nil)⟩)⟩)⟩)⟩)
set_option maxRecDepth 20000 in
theorem mw_187 : ∀ w ∈ mm_mw 187, w ∈ lw_tbl := (List.forall_mem_cons.mpr ⟨(tb_7 _ (List.mem_of_getElem? (i := 109) rfl)), (List.forall_mem_cons.mpr ⟨(tb_1 _ (List.mem_of_getElem? (i := 12) rfl)), (List.forall_mem_cons.mpr ⟨(tb_7 _ (List.mem_of_getElem? (i := 108) rfl)), (List.forall_mem_cons.mpr ⟨(tb_0 _ (List.mem_of_getElem? (i := 34) rfl)), (fun _ h => absurd h List.not_mem_nil)⟩)⟩)⟩)⟩)
set_option maxRecDepth 20000 in
theorem mw_188 : ∀ w ∈ mm_mw 188, w ∈ lw_tbl := (List.forall_mem_cons.mpr ⟨(tb_7 _ (List.mem_of_getElem? (i := 100) rfl)), (List.forall_mem_cons.mpr ⟨(tb_1 _ (List.mem_of_getElem? (i := 12) rfl)), (List.forall_mem_cons.mpr ⟨(tb_7 _ (List.mem_of_getElem? (i := 99) rfl)), (List.forall_mem_cons.mpr ⟨(tb_0 _ (List.mem_of_getElem? (i := 32) rfl)), (fun _ h => absurd h List.not_mem_nil)⟩)⟩)⟩)⟩)
set_option maxRecDepth 20000 in
theorem mw_189 : ∀ w ∈ mm_mw 189, w ∈ lw_tbl := (List.forall_mem_cons.mpr ⟨(tb_7 _ (List.mem_of_getElem? (i := 104) rfl)), (List.forall_mem_cons.mpr ⟨(tb_1 _ (List.mem_of_getElem? (i := 12) rfl)), (List.forall_mem_cons.mpr ⟨(tb_7 _ (List.mem_of_getElem? (i := 103) rfl)), (List.forall_mem_cons.mpr ⟨(tb_0 _ (List.mem_of_getElem? (i := 33) rfl)), (fun _ h => absurd h List.not_mem_nil)⟩)⟩)⟩)⟩)
set_option maxRecDepth 20000 in
theorem mw_190 : ∀ w ∈ mm_mw 190, w ∈ lw_tbl := (List.forall_mem_cons.mpr ⟨(tb_7 _ (List.mem_of_getElem? (i := 125) rfl)), (List.forall_mem_cons.mpr ⟨(tb_1 _ (List.mem_of_getElem? (i := 12) rfl)), (List.forall_mem_cons.mpr ⟨(tb_7 _ (List.mem_of_getElem? (i := 124) rfl)), (List.forall_mem_cons.mpr ⟨(tb_0 _ (List.mem_of_getElem? (i := 36) rfl)), (fun _ h => absurd h List.not_mem_nil)⟩)⟩)⟩)⟩)
set_option maxRecDepth 20000 in
theorem mw_191 : ∀ w ∈ mm_mw 191, w ∈ lw_tbl := (List.forall_mem_cons.mpr ⟨(tb_7 _ (List.mem_of_getElem? (i := 88) rfl)), (List.forall_mem_cons.mpr ⟨(tb_1 _ (List.mem_of_getElem? (i := 12) rfl)), (List.forall_mem_cons.mpr ⟨(tb_7 _ (List.mem_of_getElem? (i := 86) rfl)), (List.forall_mem_cons.mpr ⟨(tb_7 _ (List.mem_of_getElem? (i := 87) rfl)), (fun _ h => absurd h List.not_mem_nil)⟩)⟩)⟩)⟩)
set_option maxRecDepth 20000 in
theorem mw_192 : ∀ w ∈ mm_mw 192, w ∈ lw_tbl := (List.forall_mem_cons.mpr ⟨(tb_7 _ (List.mem_of_getElem? (i := 113) rfl)), (List.forall_mem_cons.mpr ⟨(tb_1 _ (List.mem_of_getElem? (i := 12) rfl)), (List.forall_mem_cons.mpr ⟨(tb_7 _ (List.mem_of_getElem? (i := 111) rfl)), (List.forall_mem_cons.mpr ⟨(tb_7 _ (List.mem_of_getElem? (i := 112) rfl)), (fun _ h => absurd h List.not_mem_nil)⟩)⟩)⟩)⟩)
set_option maxRecDepth 20000 in
theorem mw_193 : ∀ w ∈ mm_mw 193, w ∈ lw_tbl := (List.forall_mem_cons.mpr ⟨(tb_7 _ (List.mem_of_getElem? (i := 117) rfl)), (List.forall_mem_cons.mpr ⟨(tb_1 _ (List.mem_of_getElem? (i := 12) rfl)), (List.forall_mem_cons.mpr ⟨(tb_7 _ (List.mem_of_getElem? (i := 115) rfl)), (List.forall_mem_cons.mpr ⟨(tb_7 _ (List.mem_of_getElem? (i := 116) rfl)), (fun _ h => absurd h List.not_mem_nil)⟩)⟩)⟩)⟩)
set_option maxRecDepth 20000 in
theorem mw_194 : ∀ w ∈ mm_mw 194, w ∈ lw_tbl := (List.forall_mem_cons.mpr ⟨(tb_7 _ (List.mem_of_getElem? (i := 129) rfl)), (List.forall_mem_cons.mpr ⟨(tb_1 _ (List.mem_of_getElem? (i := 12) rfl)), (List.forall_mem_cons.mpr ⟨(tb_7 _ (List.mem_of_getElem? (i := 127) rfl)), (List.forall_mem_cons.mpr ⟨(tb_7 _ (List.mem_of_getElem? (i := 128) rfl)), (fun _ h => absurd h List.not_mem_nil)⟩)⟩)⟩)⟩)
set_option maxRecDepth 20000 in
theorem mw_195 : ∀ w ∈ mm_mw 195, w ∈ lw_tbl := (List.forall_mem_cons.mpr ⟨(tb_7 _ (List.mem_of_getElem? (i := 133) rfl)), (List.forall_mem_cons.mpr ⟨(tb_1 _ (List.mem_of_getElem? (i := 12) rfl)), (List.forall_mem_cons.mpr ⟨(tb_7 _ (List.mem_of_getElem? (i := 131) rfl)), (List.forall_mem_cons.mpr ⟨(tb_7 _ (List.mem_of_getElem? (i := 132) rfl)), (fun _ h => absurd h List.not_mem_nil)⟩)⟩)⟩)⟩)
set_option maxRecDepth 20000 in
theorem mw_196 : ∀ w ∈ mm_mw 196, w ∈ lw_tbl := (List.forall_mem_cons.mpr ⟨(tb_7 _ (List.mem_of_getElem? (i := 141) rfl)), (List.forall_mem_cons.mpr ⟨(tb_1 _ (List.mem_of_getElem? (i := 12) rfl)), (List.forall_mem_cons.mpr ⟨(tb_7 _ (List.mem_of_getElem? (i := 140) rfl)), (List.forall_mem_cons.mpr ⟨(tb_0 _ (List.mem_of_getElem? (i := 37) rfl)), (fun _ h => absurd h List.not_mem_nil)⟩)⟩)⟩)⟩)
set_option maxRecDepth 20000 in
theorem mw_197 : ∀ w ∈ mm_mw 197, w ∈ lw_tbl := (List.forall_mem_cons.mpr ⟨(tb_7 _ (List.mem_of_getElem? (i := 137) rfl)), (List.forall_mem_cons.mpr ⟨(tb_1 _ (List.mem_of_getElem? (i := 12) rfl)), (List.forall_mem_cons.mpr ⟨(tb_7 _ (List.mem_of_getElem? (i := 135) rfl)), (List.forall_mem_cons.mpr ⟨(tb_7 _ (List.mem_of_getElem? (i := 136) rfl)), (fun _ h => absurd h List.not_mem_nil)⟩)⟩)⟩)⟩)
set_option maxRecDepth 20000 in
theorem mw_198 : ∀ w ∈ mm_mw 198, w ∈ lw_tbl := (List.forall_mem_cons.mpr ⟨(tb_7 _ (List.mem_of_getElem? (i := 148) rfl)), (List.forall_mem_cons.mpr ⟨(tb_1 _ (List.mem_of_getElem? (i := 12) rfl)), (List.forall_mem_cons.mpr ⟨(tb_7 _ (List.mem_of_getElem? (i := 146) rfl)), (List.forall_mem_cons.mpr ⟨(tb_7 _ (List.mem_of_getElem? (i := 147) rfl)), (fun _ h => absurd h List.not_mem_nil)⟩)⟩)⟩)⟩)
set_option maxRecDepth 20000 in
theorem mw_199 : ∀ w ∈ mm_mw 199, w ∈ lw_tbl := (List.forall_mem_cons.mpr ⟨(tb_7 _ (List.mem_of_getElem? (i := 152) rfl)), (List.forall_mem_cons.mpr ⟨(tb_1 _ (List.mem_of_getElem? (i := 12) rfl)), (List.forall_mem_cons.mpr ⟨(tb_7 _ (List.mem_of_getElem? (i := 150) rfl)), (List.forall_mem_cons.mpr ⟨(tb_7 _ (List.mem_of_getElem? (i := 151) rfl)), (fun _ h => absurd h List.not_mem_nil)⟩)⟩)⟩)⟩)
set_option maxRecDepth 20000 in
theorem mw_200 : ∀ w ∈ mm_mw 200, w ∈ lw_tbl := (List.forall_mem_cons.mpr ⟨(tb_7 _ (List.mem_of_getElem? (i := 160) rfl)), (List.forall_mem_cons.mpr ⟨(tb_1 _ (List.mem_of_getElem? (i := 12) rfl)), (List.forall_mem_cons.mpr ⟨(tb_7 _ (List.mem_of_getElem? (i := 159) rfl)), (List.forall_mem_cons.mpr ⟨(tb_0 _ (List.mem_of_getElem? (i := 38) rfl)), (fun _ h => absurd h List.not_mem_nil)⟩)⟩)⟩)⟩)
set_option maxRecDepth 20000 in
theorem mw_201 : ∀ w ∈ mm_mw 201, w ∈ lw_tbl := (List.forall_mem_cons.mpr ⟨(tb_7 _ (List.mem_of_getElem? (i := 156) rfl)), (List.forall_mem_cons.mpr ⟨(tb_1 _ (List.mem_of_getElem? (i := 12) rfl)), (List.forall_mem_cons.mpr ⟨(tb_7 _ (List.mem_of_getElem? (i := 154) rfl)), (List.forall_mem_cons.mpr ⟨(tb_7 _ (List.mem_of_getElem? (i := 155) rfl)), (fun _ h => absurd h List.not_mem_nil)⟩)⟩)⟩)⟩)
set_option maxRecDepth 20000 in
theorem mw_202 : ∀ w ∈ mm_mw 202, w ∈ lw_tbl := (List.forall_mem_cons.mpr ⟨(tb_7 _ (List.mem_of_getElem? (i := 164) rfl)), (List.forall_mem_cons.mpr ⟨(tb_1 _ (List.mem_of_getElem? (i := 12) rfl)), (List.forall_mem_cons.mpr ⟨(tb_7 _ (List.mem_of_getElem? (i := 162) rfl)), (List.forall_mem_cons.mpr ⟨(tb_7 _ (List.mem_of_getElem? (i := 163) rfl)), (fun _ h => absurd h List.not_mem_nil)⟩)⟩)⟩)⟩)
set_option maxRecDepth 20000 in
theorem mw_203 : ∀ w ∈ mm_mw 203, w ∈ lw_tbl := (List.forall_mem_cons.mpr ⟨(tb_7 _ (List.mem_of_getElem? (i := 168) rfl)), (List.forall_mem_cons.mpr ⟨(tb_1 _ (List.mem_of_getElem? (i := 12) rfl)), (List.forall_mem_cons.mpr ⟨(tb_7 _ (List.mem_of_getElem? (i := 166) rfl)), (List.forall_mem_cons.mpr ⟨(tb_7 _ (List.mem_of_getElem? (i := 167) rfl)), (fun _ h => absurd h List.not_mem_nil)⟩)⟩)⟩)⟩)
set_option maxRecDepth 20000 in
theorem mw_204 : ∀ w ∈ mm_mw 204, w ∈ lw_tbl := (List.forall_mem_cons.mpr ⟨(tb_7 _ (List.mem_of_getElem? (i := 175) rfl)), (List.forall_mem_cons.mpr ⟨(tb_1 _ (List.mem_of_getElem? (i := 12) rfl)), (List.forall_mem_cons.mpr ⟨(tb_7 _ (List.mem_of_getElem? (i := 174) rfl)), (fun _ h => absurd h List.not_mem_nil)⟩)⟩)⟩)
set_option maxRecDepth 20000 in
theorem mw_205 : ∀ w ∈ mm_mw 205, w ∈ lw_tbl := (List.forall_mem_cons.mpr ⟨(tb_7 _ (List.mem_of_getElem? (i := 172) rfl)), (List.forall_mem_cons.mpr ⟨(tb_1 _ (List.mem_of_getElem? (i := 12) rfl)), (List.forall_mem_cons.mpr ⟨(tb_7 _ (List.mem_of_getElem? (i := 170) rfl)), (List.forall_mem_cons.mpr ⟨(tb_7 _ (List.mem_of_getElem? (i := 171) rfl)), (fun _ h => absurd h List.not_mem_nil)⟩)⟩)⟩)⟩)
set_option maxRecDepth 20000 in
theorem mw_206 : ∀ w ∈ mm_mw 206, w ∈ lw_tbl := (List.forall_mem_cons.mpr ⟨(tb_7 _ (List.mem_of_getElem? (i := 183) rfl)), (List.forall_mem_cons.mpr ⟨(tb_1 _ (List.mem_of_getElem? (i := 12) rfl)), (List.forall_mem_cons.mpr ⟨(tb_7 _ (List.mem_of_getElem? (i := 182) rfl)), (List.forall_mem_cons.mpr ⟨(tb_0 _ (List.mem_of_getElem? (i := 39) rfl)), (fun _ h => absurd h List.not_mem_nil)⟩)⟩)⟩)⟩)
set_option maxRecDepth 20000 in
theorem mw_207 : ∀ w ∈ mm_mw 207, w ∈ lw_tbl := (List.forall_mem_cons.mpr ⟨(tb_7 _ (List.mem_of_getElem? (i := 179) rfl)), (List.forall_mem_cons.mpr ⟨(tb_1 _ (List.mem_of_getElem? (i := 12) rfl)), (List.forall_mem_cons.mpr ⟨(tb_7 _ (List.mem_of_getElem? (i := 177) rfl)), (List.forall_mem_cons.mpr ⟨(tb_7 _ (List.mem_of_getElem? (i := 178) rfl)), (fun _ h => absurd h List.not_mem_nil)⟩)⟩)⟩)⟩)
set_option maxRecDepth 20000 in
theorem mw_208 : ∀ w ∈ mm_mw 208, w ∈ lw_tbl := (List.forall_mem_cons.mpr ⟨(tb_7 _ (List.mem_of_getElem? (i := 187) rfl)), (List.forall_mem_cons.mpr ⟨(tb_1 _ (List.mem_of_getElem? (i := 12) rfl)), (List.forall_mem_cons.mpr ⟨(tb_7 _ (List.mem_of_getElem? (i := 185) rfl)), (List.forall_mem_cons.mpr ⟨(tb_7 _ (List.mem_of_getElem? (i := 186) rfl)), (fun _ h => absurd h List.not_mem_nil)⟩)⟩)⟩)⟩)
set_option maxRecDepth 20000 in
theorem mw_209 : ∀ w ∈ mm_mw 209, w ∈ lw_tbl := (List.forall_mem_cons.mpr ⟨(tb_7 _ (List.mem_of_getElem? (i := 232) rfl)), (List.forall_mem_cons.mpr ⟨(tb_1 _ (List.mem_of_getElem? (i := 12) rfl)), (List.forall_mem_cons.mpr ⟨(tb_7 _ (List.mem_of_getElem? (i := 231) rfl)), (List.forall_mem_cons.mpr ⟨(tb_0 _ (List.mem_of_getElem? (i := 49) rfl)), (fun _ h => absurd h List.not_mem_nil)⟩)⟩)⟩)⟩)
set_option maxRecDepth 20000 in
theorem mw_210 : ∀ w ∈ mm_mw 210, w ∈ lw_tbl := (List.forall_mem_cons.mpr ⟨(tb_7 _ (List.mem_of_getElem? (i := 203) rfl)), (List.forall_mem_cons.mpr ⟨(tb_1 _ (List.mem_of_getElem? (i := 12) rfl)), (List.forall_mem_cons.mpr ⟨(tb_7 _ (List.mem_of_getElem? (i := 202) rfl)), (List.forall_mem_cons.mpr ⟨(tb_0 _ (List.mem_of_getElem? (i := 42) rfl)), (fun _ h => absurd h List.not_mem_nil)⟩)⟩)⟩)⟩)
set_option maxRecDepth 20000 in
theorem mw_211 : ∀ w ∈ mm_mw 211, w ∈ lw_tbl := (List.forall_mem_cons.mpr ⟨(tb_7 _ (List.mem_of_getElem? (i := 216) rfl)), (List.forall_mem_cons.mpr ⟨(tb_1 _ (List.mem_of_getElem? (i := 12) rfl)), (List.forall_mem_cons.mpr ⟨(tb_7 _ (List.mem_of_getElem? (i := 215) rfl)), (List.forall_mem_cons.mpr ⟨(tb_0 _ (List.mem_of_getElem? (i := 45) rfl)), (fun _ h => absurd h List.not_mem_nil)⟩)⟩)⟩)⟩)
set_option maxRecDepth 20000 in
theorem mw_212 : ∀ w ∈ mm_mw 212, w ∈ lw_tbl := (List.forall_mem_cons.mpr ⟨(tb_7 _ (List.mem_of_getElem? (i := 199) rfl)), (List.forall_mem_cons.mpr ⟨(tb_1 _ (List.mem_of_getElem? (i := 12) rfl)), (List.forall_mem_cons.mpr ⟨(tb_7 _ (List.mem_of_getElem? (i := 198) rfl)), (List.forall_mem_cons.mpr ⟨(tb_0 _ (List.mem_of_getElem? (i := 41) rfl)), (fun _ h => absurd h List.not_mem_nil)⟩)⟩)⟩)⟩)
set_option maxRecDepth 20000 in
theorem mw_213 : ∀ w ∈ mm_mw 213, w ∈ lw_tbl := (List.forall_mem_cons.mpr ⟨(tb_7 _ (List.mem_of_getElem? (i := 220) rfl)), (List.forall_mem_cons.mpr ⟨(tb_1 _ (List.mem_of_getElem? (i := 12) rfl)), (List.forall_mem_cons.mpr ⟨(tb_7 _ (List.mem_of_getElem? (i := 219) rfl)), (List.forall_mem_cons.mpr ⟨(tb_0 _ (List.mem_of_getElem? (i := 46) rfl)), (fun _ h => absurd h List.not_mem_nil)⟩)⟩)⟩)⟩)
set_option maxRecDepth 20000 in
theorem mw_214 : ∀ w ∈ mm_mw 214, w ∈ lw_tbl := (List.forall_mem_cons.mpr ⟨(tb_7 _ (List.mem_of_getElem? (i := 195) rfl)), (List.forall_mem_cons.mpr ⟨(tb_1 _ (List.mem_of_getElem? (i := 12) rfl)), (List.forall_mem_cons.mpr ⟨(tb_7 _ (List.mem_of_getElem? (i := 194) rfl)), (List.forall_mem_cons.mpr ⟨(tb_0 _ (List.mem_of_getElem? (i := 40) rfl)), (fun _ h => absurd h List.not_mem_nil)⟩)⟩)⟩)⟩)
set_option maxRecDepth 20000 in
theorem mw_215 : ∀ w ∈ mm_mw 215, w ∈ lw_tbl := (List.forall_mem_cons.mpr ⟨(tb_7 _ (List.mem_of_getElem? (i := 228) rfl)), (List.forall_mem_cons.mpr ⟨(tb_1 _ (List.mem_of_getElem? (i := 12) rfl)), (List.forall_mem_cons.mpr ⟨(tb_7 _ (List.mem_of_getElem? (i := 227) rfl)), (List.forall_mem_cons.mpr ⟨(tb_0 _ (List.mem_of_getElem? (i := 48) rfl)), (fun _ h => absurd h List.not_mem_nil)⟩)⟩)⟩)⟩)
set_option maxRecDepth 20000 in
theorem mw_216 : ∀ w ∈ mm_mw 216, w ∈ lw_tbl := (List.forall_mem_cons.mpr ⟨(tb_7 _ (List.mem_of_getElem? (i := 236) rfl)), (List.forall_mem_cons.mpr ⟨(tb_1 _ (List.mem_of_getElem? (i := 12) rfl)), (List.forall_mem_cons.mpr ⟨(tb_7 _ (List.mem_of_getElem? (i := 235) rfl)), (List.forall_mem_cons.mpr ⟨(tb_0 _ (List.mem_of_getElem? (i := 50) rfl)), (fun _ h => absurd h List.not_mem_nil)⟩)⟩)⟩)⟩)
set_option maxRecDepth 20000 in
theorem mw_217 : ∀ w ∈ mm_mw 217, w ∈ lw_tbl := (List.forall_mem_cons.mpr ⟨(tb_7 _ (List.mem_of_getElem? (i := 224) rfl)), (List.forall_mem_cons.mpr ⟨(tb_1 _ (List.mem_of_getElem? (i := 12) rfl)), (List.forall_mem_cons.mpr ⟨(tb_7 _ (List.mem_of_getElem? (i := 223) rfl)), (List.forall_mem_cons.mpr ⟨(tb_0 _ (List.mem_of_getElem? (i := 47) rfl)), (fun _ h => absurd h List.not_mem_nil)⟩)⟩)⟩)⟩)
set_option maxRecDepth 20000 in
theorem mw_218 : ∀ w ∈ mm_mw 218, w ∈ lw_tbl := (List.forall_mem_cons.mpr ⟨(tb_7 _ (List.mem_of_getElem? (i := 191) rfl)), (List.forall_mem_cons.mpr ⟨(tb_1 _ (List.mem_of_getElem? (i := 12) rfl)), (List.forall_mem_cons.mpr ⟨(tb_7 _ (List.mem_of_getElem? (i := 189) rfl)), (List.forall_mem_cons.mpr ⟨(tb_7 _ (List.mem_of_getElem? (i := 190) rfl)), (fun _ h => absurd h List.not_mem_nil)⟩)⟩)⟩)⟩)
set_option maxRecDepth 20000 in
theorem mw_219 : ∀ w ∈ mm_mw 219, w ∈ lw_tbl := (List.forall_mem_cons.mpr ⟨(tb_8 _ (List.mem_of_getElem? (i := 20) rfl)), (List.forall_mem_cons.mpr ⟨(tb_1 _ (List.mem_of_getElem? (i := 12) rfl)), (List.forall_mem_cons.mpr ⟨(tb_8 _ (List.mem_of_getElem? (i := 19) rfl)), (List.forall_mem_cons.mpr ⟨(tb_0 _ (List.mem_of_getElem? (i := 55) rfl)), (fun _ h => absurd h List.not_mem_nil)⟩)⟩)⟩)⟩)
set_option maxRecDepth 20000 in
theorem mw_220 : ∀ w ∈ mm_mw 220, w ∈ lw_tbl := (List.forall_mem_cons.mpr ⟨(tb_8 _ (List.mem_of_getElem? (i := 12) rfl)), (List.forall_mem_cons.mpr ⟨(tb_1 _ (List.mem_of_getElem? (i := 12) rfl)), (List.forall_mem_cons.mpr ⟨(tb_8 _ (List.mem_of_getElem? (i := 11) rfl)), (List.forall_mem_cons.mpr ⟨(tb_0 _ (List.mem_of_getElem? (i := 53) rfl)), (fun _ h => absurd h List.not_mem_nil)⟩)⟩)⟩)⟩)
set_option maxRecDepth 20000 in
theorem mw_221 : ∀ w ∈ mm_mw 221, w ∈ lw_tbl := (List.forall_mem_cons.mpr ⟨(tb_8 _ (List.mem_of_getElem? (i := 28) rfl)), (List.forall_mem_cons.mpr ⟨(tb_1 _ (List.mem_of_getElem? (i := 12) rfl)), (List.forall_mem_cons.mpr ⟨(tb_8 _ (List.mem_of_getElem? (i := 27) rfl)), (List.forall_mem_cons.mpr ⟨(tb_0 _ (List.mem_of_getElem? (i := 57) rfl)), (fun _ h => absurd h List.not_mem_nil)⟩)⟩)⟩)⟩)
set_option maxRecDepth 20000 in
theorem mw_222 : ∀ w ∈ mm_mw 222, w ∈ lw_tbl := (List.forall_mem_cons.mpr ⟨(tb_8 _ (List.mem_of_getElem? (i := 24) rfl)), (List.forall_mem_cons.mpr ⟨(tb_1 _ (List.mem_of_getElem? (i := 12) rfl)), (List.forall_mem_cons.mpr ⟨(tb_8 _ (List.mem_of_getElem? (i := 23) rfl)), (List.forall_mem_cons.mpr ⟨(tb_0 _ (List.mem_of_getElem? (i := 56) rfl)), (fun _ h => absurd h List.not_mem_nil)⟩)⟩)⟩)⟩)
set_option maxRecDepth 20000 in
theorem mw_223 : ∀ w ∈ mm_mw 223, w ∈ lw_tbl := (List.forall_mem_cons.mpr ⟨(tb_8 _ (List.mem_of_getElem? (i := 8) rfl)), (List.forall_mem_cons.mpr ⟨(tb_1 _ (List.mem_of_getElem? (i := 12) rfl)), (List.forall_mem_cons.mpr ⟨(tb_8 _ (List.mem_of_getElem? (i := 7) rfl)), (List.forall_mem_cons.mpr ⟨(tb_0 _ (List.mem_of_getElem? (i := 52) rfl)), (fun _ h => absurd h List.not_mem_nil)⟩)⟩)⟩)⟩)
set_option maxRecDepth 20000 in
theorem mw_224 : ∀ w ∈ mm_mw 224, w ∈ lw_tbl := (List.forall_mem_cons.mpr ⟨(tb_8 _ (List.mem_of_getElem? (i := 4) rfl)), (List.forall_mem_cons.mpr ⟨(tb_1 _ (List.mem_of_getElem? (i := 12) rfl)), (List.forall_mem_cons.mpr ⟨(tb_8 _ (List.mem_of_getElem? (i := 3) rfl)), (List.forall_mem_cons.mpr ⟨(tb_0 _ (List.mem_of_getElem? (i := 51) rfl)), (fun _ h => absurd h List.not_mem_nil)⟩)⟩)⟩)⟩)
set_option maxRecDepth 20000 in
theorem mw_225 : ∀ w ∈ mm_mw 225, w ∈ lw_tbl := (List.forall_mem_cons.mpr ⟨(tb_8 _ (List.mem_of_getElem? (i := 16) rfl)), (List.forall_mem_cons.mpr ⟨(tb_1 _ (List.mem_of_getElem? (i := 12) rfl)), (List.forall_mem_cons.mpr ⟨(tb_8 _ (List.mem_of_getElem? (i := 15) rfl)), (List.forall_mem_cons.mpr ⟨(tb_0 _ (List.mem_of_getElem? (i := 54) rfl)), (fun _ h => absurd h List.not_mem_nil)⟩)⟩)⟩)⟩)
set_option maxRecDepth 20000 in
theorem mw_226 : ∀ w ∈ mm_mw 226, w ∈ lw_tbl := (List.forall_mem_cons.mpr ⟨(tb_8 _ (List.mem_of_getElem? (i := 0) rfl)), (List.forall_mem_cons.mpr ⟨(tb_1 _ (List.mem_of_getElem? (i := 12) rfl)), (List.forall_mem_cons.mpr ⟨(tb_7 _ (List.mem_of_getElem? (i := 238) rfl)), (List.forall_mem_cons.mpr ⟨(tb_7 _ (List.mem_of_getElem? (i := 239) rfl)), (fun _ h => absurd h List.not_mem_nil)⟩)⟩)⟩)⟩)
set_option maxRecDepth 20000 in
theorem mw_227 : ∀ w ∈ mm_mw 227, w ∈ lw_tbl := (List.forall_mem_cons.mpr ⟨(tb_8 _ (List.mem_of_getElem? (i := 39) rfl)), (List.forall_mem_cons.mpr ⟨(tb_1 _ (List.mem_of_getElem? (i := 12) rfl)), (List.forall_mem_cons.mpr ⟨(tb_8 _ (List.mem_of_getElem? (i := 38) rfl)), (List.forall_mem_cons.mpr ⟨(tb_0 _ (List.mem_of_getElem? (i := 58) rfl)), (fun _ h => absurd h List.not_mem_nil)⟩)⟩)⟩)⟩)
set_option maxRecDepth 20000 in
theorem mw_228 : ∀ w ∈ mm_mw 228, w ∈ lw_tbl := (List.forall_mem_cons.mpr ⟨(tb_8 _ (List.mem_of_getElem? (i := 32) rfl)), (List.forall_mem_cons.mpr ⟨(tb_1 _ (List.mem_of_getElem? (i := 12) rfl)), (List.forall_mem_cons.mpr ⟨(tb_8 _ (List.mem_of_getElem? (i := 30) rfl)), (List.forall_mem_cons.mpr ⟨(tb_8 _ (List.mem_of_getElem? (i := 31) rfl)), (fun _ h => absurd h List.not_mem_nil)⟩)⟩)⟩)⟩)
set_option maxRecDepth 20000 in
theorem mw_229 : ∀ w ∈ mm_mw 229, w ∈ lw_tbl := (List.forall_mem_cons.mpr ⟨(tb_8 _ (List.mem_of_getElem? (i := 46) rfl)), (List.forall_mem_cons.mpr ⟨(tb_1 _ (List.mem_of_getElem? (i := 12) rfl)), (List.forall_mem_cons.mpr ⟨(tb_8 _ (List.mem_of_getElem? (i := 45) rfl)), (fun _ h => absurd h List.not_mem_nil)⟩)⟩)⟩)
set_option maxRecDepth 20000 in
theorem mw_230 : ∀ w ∈ mm_mw 230, w ∈ lw_tbl := (List.forall_mem_cons.mpr ⟨(tb_8 _ (List.mem_of_getElem? (i := 50) rfl)), (List.forall_mem_cons.mpr ⟨(tb_1 _ (List.mem_of_getElem? (i := 12) rfl)), (List.forall_mem_cons.mpr ⟨(tb_8 _ (List.mem_of_getElem? (i := 49) rfl)), (List.forall_mem_cons.mpr ⟨(tb_0 _ (List.mem_of_getElem? (i := 59) rfl)), (fun _ h => absurd h List.not_mem_nil)⟩)⟩)⟩)⟩)
set_option maxRecDepth 20000 in
theorem mw_231 : ∀ w ∈ mm_mw 231, w ∈ lw_tbl := (List.forall_mem_cons.mpr ⟨(tb_8 _ (List.mem_of_getElem? (i := 54) rfl)), (List.forall_mem_cons.mpr ⟨(tb_1 _ (List.mem_of_getElem? (i := 12) rfl)), (List.forall_mem_cons.mpr ⟨(tb_8 _ (List.mem_of_getElem? (i := 53) rfl)), (List.forall_mem_cons.mpr ⟨(tb_0 _ (List.mem_of_getElem? (i := 60) rfl)), (fun _ h => absurd h List.not_mem_nil)⟩)⟩)⟩)⟩)
set_option maxRecDepth 20000 in
theorem mw_232 : ∀ w ∈ mm_mw 232, w ∈ lw_tbl := (List.forall_mem_cons.mpr ⟨(tb_8 _ (List.mem_of_getElem? (i := 43) rfl)), (List.forall_mem_cons.mpr ⟨(tb_1 _ (List.mem_of_getElem? (i := 12) rfl)), (List.forall_mem_cons.mpr ⟨(tb_8 _ (List.mem_of_getElem? (i := 41) rfl)), (List.forall_mem_cons.mpr ⟨(tb_8 _ (List.mem_of_getElem? (i := 42) rfl)), (fun _ h => absurd h List.not_mem_nil)⟩)⟩)⟩)⟩)
set_option maxRecDepth 20000 in
theorem mw_233 : ∀ w ∈ mm_mw 233, w ∈ lw_tbl := (List.forall_mem_cons.mpr ⟨(tb_8 _ (List.mem_of_getElem? (i := 62) rfl)), (List.forall_mem_cons.mpr ⟨(tb_1 _ (List.mem_of_getElem? (i := 12) rfl)), (List.forall_mem_cons.mpr ⟨(tb_8 _ (List.mem_of_getElem? (i := 61) rfl)), (List.forall_mem_cons.mpr ⟨(tb_0 _ (List.mem_of_getElem? (i := 61) rfl)), (fun _ h => absurd h List.not_mem_nil)⟩)⟩)⟩)⟩)
set_option maxRecDepth 20000 in
theorem mw_234 : ∀ w ∈ mm_mw 234, w ∈ lw_tbl := (List.forall_mem_cons.mpr ⟨(tb_8 _ (List.mem_of_getElem? (i := 58) rfl)), (List.forall_mem_cons.mpr ⟨(tb_1 _ (List.mem_of_getElem? (i := 12) rfl)), (List.forall_mem_cons.mpr ⟨(tb_8 _ (List.mem_of_getElem? (i := 56) rfl)), (List.forall_mem_cons.mpr ⟨(tb_8 _ (List.mem_of_getElem? (i := 57) rfl)), (fun _ h => absurd h List.not_mem_nil)⟩)⟩)⟩)⟩)
set_option maxRecDepth 20000 in
theorem mw_235 : ∀ w ∈ mm_mw 235, w ∈ lw_tbl := (List.forall_mem_cons.mpr ⟨(tb_8 _ (List.mem_of_getElem? (i := 70) rfl)), (List.forall_mem_cons.mpr ⟨(tb_1 _ (List.mem_of_getElem? (i := 12) rfl)), (List.forall_mem_cons.mpr ⟨(tb_8 _ (List.mem_of_getElem? (i := 69) rfl)), (List.forall_mem_cons.mpr ⟨(tb_0 _ (List.mem_of_getElem? (i := 62) rfl)), (fun _ h => absurd h List.not_mem_nil)⟩)⟩)⟩)⟩)
set_option maxRecDepth 20000 in
theorem mw_236 : ∀ w ∈ mm_mw 236, w ∈ lw_tbl := (List.forall_mem_cons.mpr ⟨(tb_8 _ (List.mem_of_getElem? (i := 66) rfl)), (List.forall_mem_cons.mpr ⟨(tb_1 _ (List.mem_of_getElem? (i := 12) rfl)), (List.forall_mem_cons.mpr ⟨(tb_8 _ (List.mem_of_getElem? (i := 64) rfl)), (List.forall_mem_cons.mpr ⟨(tb_8 _ (List.mem_of_getElem? (i := 65) rfl)), (fun _ h => absurd h List.not_mem_nil)⟩)⟩)⟩)⟩)
set_option maxRecDepth 20000 in
theorem mw_237 : ∀ w ∈ mm_mw 237, w ∈ lw_tbl := (List.forall_mem_cons.mpr ⟨(tb_8 _ (List.mem_of_getElem? (i := 74) rfl)), (List.forall_mem_cons.mpr ⟨(tb_1 _ (List.mem_of_getElem? (i := 12) rfl)), (List.forall_mem_cons.mpr ⟨(tb_8 _ (List.mem_of_getElem? (i := 72) rfl)), (List.forall_mem_cons.mpr ⟨(tb_8 _ (List.mem_of_getElem? (i := 73) rfl)), (fun _ h => absurd h List.not_mem_nil)⟩)⟩)⟩)⟩)
set_option maxRecDepth 20000 in
theorem mw_238 : ∀ w ∈ mm_mw 238, w ∈ lw_tbl := (List.forall_mem_cons.mpr ⟨(tb_8 _ (List.mem_of_getElem? (i := 78) rfl)), (List.forall_mem_cons.mpr ⟨(tb_1 _ (List.mem_of_getElem? (i := 12) rfl)), (List.forall_mem_cons.mpr ⟨(tb_8 _ (List.mem_of_getElem? (i := 77) rfl)), (List.forall_mem_cons.mpr ⟨(tb_0 _ (List.mem_of_getElem? (i := 63) rfl)), (fun _ h => absurd h List.not_mem_nil)⟩)⟩)⟩)⟩)
set_option maxRecDepth 20000 in
theorem mw_239 : ∀ w ∈ mm_mw 239, w ∈ lw_tbl := (List.forall_mem_cons.mpr ⟨(tb_8 _ (List.mem_of_getElem? (i := 82) rfl)), (List.forall_mem_cons.mpr ⟨(tb_1 _ (List.mem_of_getElem? (i := 12) rfl)), (List.forall_mem_cons.mpr ⟨(tb_8 _ (List.mem_of_getElem? (i := 81) rfl)), (List.forall_mem_cons.mpr ⟨(tb_0 _ (List.mem_of_getElem? (i := 64) rfl)), (fun _ h => absurd h List.not_mem_nil)⟩)⟩)⟩)⟩)
set_option maxRecDepth 20000 in
theorem mw_240 : ∀ w ∈ mm_mw 240, w ∈ lw_tbl := (List.forall_mem_cons.mpr ⟨(tb_8 _ (List.mem_of_getElem? (i := 90) rfl)), (List.forall_mem_cons.mpr ⟨(tb_1 _ (List.mem_of_getElem? (i := 12) rfl)), (List.forall_mem_cons.mpr ⟨(tb_8 _ (List.mem_of_getElem? (i := 89) rfl)), (List.forall_mem_cons.mpr ⟨(tb_0 _ (List.mem_of_getElem? (i := 65) rfl)), (fun _ h => absurd h List.not_mem_nil)⟩)⟩)⟩)⟩)
set_option maxRecDepth 20000 in
theorem mw_241 : ∀ w ∈ mm_mw 241, w ∈ lw_tbl := (List.forall_mem_cons.mpr ⟨(tb_8 _ (List.mem_of_getElem? (i := 86) rfl)), (List.forall_mem_cons.mpr ⟨(tb_1 _ (List.mem_of_getElem? (i := 12) rfl)), (List.forall_mem_cons.mpr ⟨(tb_8 _ (List.mem_of_getElem? (i := 84) rfl)), (List.forall_mem_cons.mpr ⟨(tb_8 _ (List.mem_of_getElem? (i := 85) rfl)), (fun _ h => absurd h List.not_mem_nil)⟩)⟩)⟩)⟩)
set_option maxRecDepth 20000 in
theorem mw_242 : ∀ w ∈ mm_mw 242, w ∈ lw_tbl := (List.forall_mem_cons.mpr ⟨(tb_8 _ (List.mem_of_getElem? (i := 98) rfl)), (List.forall_mem_cons.mpr ⟨(tb_1 _ (List.mem_of_getElem? (i := 12) rfl)), (List.forall_mem_cons.mpr ⟨(tb_8 _ (List.mem_of_getElem? (i := 97) rfl)), (List.forall_mem_cons.mpr ⟨(tb_0 _ (List.mem_of_getElem? (i := 66) rfl)), (fun _ h => absurd h List.not_mem_nil)⟩)⟩)⟩)⟩)
set_option maxRecDepth 20000 in
theorem mw_243 : ∀ w ∈ mm_mw 243, w ∈ lw_tbl := (List.forall_mem_cons.mpr ⟨(tb_8 _ (List.mem_of_getElem? (i := 102) rfl)), (List.forall_mem_cons.mpr ⟨(tb_1 _ (List.mem_of_getElem? (i := 12) rfl)), (List.forall_mem_cons.mpr ⟨(tb_8 _ (List.mem_of_getElem? (i := 101) rfl)), (List.forall_mem_cons.mpr ⟨(tb_0 _ (List.mem_of_getElem? (i := 67) rfl)), (fun _ h => absurd h List.not_mem_nil)⟩)⟩)⟩)⟩)
set_option maxRecDepth 20000 in
theorem mw_244 : ∀ w ∈ mm_mw 244, w ∈ lw_tbl := (List.forall_mem_cons.mpr ⟨(tb_8 _ (List.mem_of_getElem? (i := 94) rfl)), (List.forall_mem_cons.mpr ⟨(tb_1 _ (List.mem_of_getElem? (i := 12) rfl)), (List.forall_mem_cons.mpr ⟨(tb_8 _ (List.mem_of_getElem? (i := 92) rfl)), (List.forall_mem_cons.mpr ⟨(tb_8 _ (List.mem_of_getElem? (i := 93) rfl)), (fun _ h => absurd h List.not_mem_nil)⟩)⟩)⟩)⟩)
set_option maxRecDepth 20000 in
theorem mw_245 : ∀ w ∈ mm_mw 245, w ∈ lw_tbl := (List.forall_mem_cons.mpr ⟨(tb_8 _ (List.mem_of_getElem? (i := 106) rfl)), (List.forall_mem_cons.mpr ⟨(tb_1 _ (List.mem_of_getElem? (i := 12) rfl)), (List.forall_mem_cons.mpr ⟨(tb_8 _ (List.mem_of_getElem? (i := 104) rfl)), (List.forall_mem_cons.mpr ⟨(tb_8 _ (List.mem_of_getElem? (i := 105) rfl)), (fun _ h => absurd h List.not_mem_nil)⟩)⟩)⟩)⟩)
set_option maxRecDepth 20000 in
theorem mw_246 : ∀ w ∈ mm_mw 246, w ∈ lw_tbl := (List.forall_mem_cons.mpr ⟨(tb_4 _ (List.mem_of_getElem? (i := 144) rfl)), (List.forall_mem_cons.mpr ⟨(tb_1 _ (List.mem_of_getElem? (i := 19) rfl)), (List.forall_mem_cons.mpr ⟨(tb_4 _ (List.mem_of_getElem? (i := 143) rfl)), (fun _ h => absurd h List.not_mem_nil)⟩)⟩)⟩)
set_option maxRecDepth 20000 in
theorem mw_247 : ∀ w ∈ mm_mw 247, w ∈ lw_tbl := (List.forall_mem_cons.mpr ⟨(tb_5 _ (List.mem_of_getElem? (i := 1) rfl)), (List.forall_mem_cons.mpr ⟨(tb_1 _ (List.mem_of_getElem? (i := 20) rfl)), (List.forall_mem_cons.mpr ⟨(tb_5 _ (List.mem_of_getElem? (i := 0) rfl)), (fun _ h => absurd h List.not_mem_nil)⟩)⟩)⟩)
set_option maxRecDepth 20000 in
theorem mw_248 : ∀ w ∈ mm_mw 248, w ∈ lw_tbl := (List.forall_mem_cons.mpr ⟨(tb_5 _ (List.mem_of_getElem? (i := 111) rfl)), (List.forall_mem_cons.mpr ⟨(tb_1 _ (List.mem_of_getElem? (i := 1) rfl)), (List.forall_mem_cons.mpr ⟨(tb_5 _ (List.mem_of_getElem? (i := 109) rfl)), (List.forall_mem_cons.mpr ⟨(tb_5 _ (List.mem_of_getElem? (i := 110) rfl)), (fun _ h => absurd h List.not_mem_nil)⟩)⟩)⟩)⟩)
set_option maxRecDepth 20000 in
theorem lq_0_0 : mm_lc 0 (5, 3, 0, 0) ∈ lw_tbl := (tb_1 _ (List.mem_of_getElem? (i := 223) rfl))
set_option maxRecDepth 20000 in
theorem lq_0_1 : mm_lc 0 (0, 9, 0, 0) ∈ lw_tbl := (tb_1 _ (List.mem_of_getElem? (i := 224) rfl))
set_option maxRecDepth 20000 in
theorem lq_0_2 : mm_lc 0 (0, 15, 0, 1) ∈ lw_tbl := (tb_1 _ (List.mem_of_getElem? (i := 225) rfl))
set_option maxRecDepth 20000 in
theorem lq_0_3 : mm_lc 0 (0, 18, 5, 11) ∈ lw_tbl := (tb_2 _ (List.mem_of_getElem? (i := 105) rfl))
set_option maxRecDepth 20000 in
theorem lq_0_4 : mm_lc 0 (1, 23, 13, 0) ∈ lw_tbl := (tb_5 _ (List.mem_of_getElem? (i := 18) rfl))
set_option maxRecDepth 20000 in
theorem lq_0_5 : mm_lc 0 (1, 29, 47, 0) ∈ lw_tbl := (tb_5 _ (List.mem_of_getElem? (i := 19) rfl))
set_option maxRecDepth 20000 in
theorem lq_0_6 : mm_lc 0 (10, 33, 0, 0) ∈ lw_tbl := (tb_5 _ (List.mem_of_getElem? (i := 20) rfl))
set_option maxRecDepth 20000 in
theorem lq_0_7 : mm_lc 0 (0, 39, 5, 7) ∈ lw_tbl := (tb_2 _ (List.mem_of_getElem? (i := 91) rfl))
set_option maxRecDepth 20000 in
theorem lq_0_8 : mm_lc 0 (1, 42, 3, 0) ∈ lw_tbl := (tb_5 _ (List.mem_of_getElem? (i := 21) rfl))
set_option maxRecDepth 20000 in
theorem lq_0_9 : mm_lc 0 (1, 46, 4, 0) ∈ lw_tbl := (tb_5 _ (List.mem_of_getElem? (i := 24) rfl))
set_option maxRecDepth 20000 in
theorem lq_0_10 : mm_lc 0 (0, 50, 0, 2) ∈ lw_tbl := (tb_1 _ (List.mem_of_getElem? (i := 226) rfl))
set_option maxRecDepth 20000 in
theorem lq_0_11 : mm_lc 0 (0, 54, 5, 9) ∈ lw_tbl := (tb_2 _ (List.mem_of_getElem? (i := 99) rfl))
set_option maxRecDepth 20000 in
theorem lq_0_12 : mm_lc 0 (1, 57, 5, 0) ∈ lw_tbl := (tb_5 _ (List.mem_of_getElem? (i := 27) rfl))
set_option maxRecDepth 20000 in
theorem lq_0_13 : mm_lc 0 (0, 61, 1, 0) ∈ lw_tbl := (tb_1 _ (List.mem_of_getElem? (i := 120) rfl))
set_option maxRecDepth 20000 in
theorem lq_0_14 : mm_lc 0 (0, 65, 5, 3) ∈ lw_tbl := (tb_2 _ (List.mem_of_getElem? (i := 84) rfl))
set_option maxRecDepth 20000 in
theorem lq_0_15 : mm_lc 0 (0, 68, 1, 3) ∈ lw_tbl := (tb_1 _ (List.mem_of_getElem? (i := 128) rfl))
set_option maxRecDepth 20000 in
theorem lq_0_16 : mm_lc 0 (1, 71, 246, 0) ∈ lw_tbl := (tb_5 _ (List.mem_of_getElem? (i := 31) rfl))
set_option maxRecDepth 20000 in
theorem lq_0_17 : mm_lc 0 (1, 76, 6, 0) ∈ lw_tbl := (tb_5 _ (List.mem_of_getElem? (i := 32) rfl))
set_option maxRecDepth 20000 in
theorem lq_0_18 : mm_lc 0 (0, 80, 0, 3) ∈ lw_tbl := (tb_1 _ (List.mem_of_getElem? (i := 227) rfl))
set_option maxRecDepth 20000 in
theorem lq_0_19 : mm_lc 0 (0, 83, 0, 4) ∈ lw_tbl := (tb_1 _ (List.mem_of_getElem? (i := 228) rfl))
set_option maxRecDepth 20000 in
theorem lk_in_0 : ∀ d ∈ ln_0, mm_lc 0 d ∈ lw_tbl := (List.forall_mem_cons.mpr ⟨lq_0_0, (List.forall_mem_cons.mpr ⟨lq_0_1, (List.forall_mem_cons.mpr ⟨lq_0_2, (List.forall_mem_cons.mpr ⟨lq_0_3, (List.forall_mem_cons.mpr ⟨lq_0_4, (List.forall_mem_cons.mpr ⟨lq_0_5, (List.forall_mem_cons.mpr ⟨lq_0_6, (List.forall_mem_cons.mpr ⟨lq_0_7, (List.forall_mem_cons.mpr ⟨lq_0_8, (List.forall_mem_cons.mpr ⟨lq_0_9, (List.forall_mem_cons.mpr ⟨lq_0_10, (List.forall_mem_cons.mpr ⟨lq_0_11, (List.forall_mem_cons.mpr ⟨lq_0_12, (List.forall_mem_cons.mpr ⟨lq_0_13, (List.forall_mem_cons.mpr ⟨lq_0_14, (List.forall_mem_cons.mpr ⟨lq_0_15, (List.forall_mem_cons.mpr ⟨lq_0_16, (List.forall_mem_cons.mpr ⟨lq_0_17, (List.forall_mem_cons.mpr ⟨lq_0_18, (List.forall_mem_cons.mpr ⟨lq_0_19, (fun _ h => absurd h List.not_mem_nil)⟩)⟩)⟩)⟩)⟩)⟩)⟩)⟩)⟩)⟩)⟩)⟩)⟩)⟩)⟩)⟩)⟩)⟩)⟩)⟩)
set_option maxRecDepth 20000 in
theorem lq_1_0 : mm_lc 1 (5, 3, 0, 0) ∈ lw_tbl := (tb_1 _ (List.mem_of_getElem? (i := 117) rfl))
set_option maxRecDepth 20000 in
theorem lq_1_1 : mm_lc 1 (0, 9, 1, 0) ∈ lw_tbl := (tb_1 _ (List.mem_of_getElem? (i := 118) rfl))
set_option maxRecDepth 20000 in
theorem lq_1_2 : mm_lc 1 (0, 15, 1, 1) ∈ lw_tbl := (tb_1 _ (List.mem_of_getElem? (i := 123) rfl))
set_option maxRecDepth 20000 in
theorem lq_1_3 : mm_lc 1 (0, 19, 1, 2) ∈ lw_tbl := (tb_1 _ (List.mem_of_getElem? (i := 125) rfl))
set_option maxRecDepth 20000 in
theorem lq_1_4 : mm_lc 1 (0, 22, 1, 3) ∈ lw_tbl := (tb_1 _ (List.mem_of_getElem? (i := 126) rfl))
set_option maxRecDepth 20000 in
theorem lq_1_5 : mm_lc 1 (0, 25, 1, 4) ∈ lw_tbl := (tb_1 _ (List.mem_of_getElem? (i := 132) rfl))
set_option maxRecDepth 20000 in
theorem lq_1_6 : mm_lc 1 (1, 29, 9, 0) ∈ lw_tbl := (tb_3 _ (List.mem_of_getElem? (i := 150) rfl))
set_option maxRecDepth 20000 in
theorem lq_1_7 : mm_lc 1 (1, 33, 10, 0) ∈ lw_tbl := (tb_3 _ (List.mem_of_getElem? (i := 154) rfl))
set_option maxRecDepth 20000 in
theorem lq_1_8 : mm_lc 1 (1, 37, 11, 0) ∈ lw_tbl := (tb_3 _ (List.mem_of_getElem? (i := 159) rfl))
set_option maxRecDepth 20000 in
theorem lq_1_9 : mm_lc 1 (0, 41, 5, 12) ∈ lw_tbl := (tb_2 _ (List.mem_of_getElem? (i := 110) rfl))
set_option maxRecDepth 20000 in
theorem lq_1_10 : mm_lc 1 (10, 46, 0, 0) ∈ lw_tbl := (tb_3 _ (List.mem_of_getElem? (i := 158) rfl))
set_option maxRecDepth 20000 in
theorem lq_1_11 : mm_lc 1 (0, 52, 3, 1) ∈ lw_tbl := (tb_1 _ (List.mem_of_getElem? (i := 94) rfl))
set_option maxRecDepth 20000 in
theorem lq_1_12 : mm_lc 1 (0, 57, 3, 2) ∈ lw_tbl := (tb_1 _ (List.mem_of_getElem? (i := 96) rfl))
set_option maxRecDepth 20000 in
theorem lq_1_13 : mm_lc 1 (0, 60, 3, 3) ∈ lw_tbl := (tb_1 _ (List.mem_of_getElem? (i := 98) rfl))
set_option maxRecDepth 20000 in
theorem lq_1_14 : mm_lc 1 (0, 63, 3, 4) ∈ lw_tbl := (tb_1 _ (List.mem_of_getElem? (i := 100) rfl))
set_option maxRecDepth 20000 in
theorem lq_1_15 : mm_lc 1 (1, 66, 49, 0) ∈ lw_tbl := (tb_3 _ (List.mem_of_getElem? (i := 163) rfl))
set_option maxRecDepth 20000 in
theorem lq_1_16 : mm_lc 1 (24, 70, 1, 0) ∈ lw_tbl := (tb_3 _ (List.mem_of_getElem? (i := 175) rfl))
set_option maxRecDepth 20000 in
theorem lq_1_17 : mm_lc 1 (0, 72, 5, 7) ∈ lw_tbl := (tb_2 _ (List.mem_of_getElem? (i := 93) rfl))
set_option maxRecDepth 20000 in
theorem lq_1_18 : mm_lc 1 (0, 73, 5, 11) ∈ lw_tbl := (tb_2 _ (List.mem_of_getElem? (i := 107) rfl))
set_option maxRecDepth 20000 in
theorem lk_in_1 : ∀ d ∈ ln_1, mm_lc 1 d ∈ lw_tbl := (List.forall_mem_cons.mpr ⟨lq_1_0, (List.forall_mem_cons.mpr ⟨lq_1_1, (List.forall_mem_cons.mpr ⟨lq_1_2, (List.forall_mem_cons.mpr ⟨lq_1_3, (List.forall_mem_cons.mpr ⟨lq_1_4, (List.forall_mem_cons.mpr ⟨lq_1_5, (List.forall_mem_cons.mpr ⟨lq_1_6, (List.forall_mem_cons.mpr ⟨lq_1_7, (List.forall_mem_cons.mpr ⟨lq_1_8, (List.forall_mem_cons.mpr ⟨lq_1_9, (List.forall_mem_cons.mpr ⟨lq_1_10, (List.forall_mem_cons.mpr ⟨lq_1_11, (List.forall_mem_cons.mpr ⟨lq_1_12, (List.forall_mem_cons.mpr ⟨lq_1_13, (List.forall_mem_cons.mpr ⟨lq_1_14, (List.forall_mem_cons.mpr ⟨lq_1_15, (List.forall_mem_cons.mpr ⟨lq_1_16, (List.forall_mem_cons.mpr ⟨lq_1_17, (List.forall_mem_cons.mpr ⟨lq_1_18, (fun _ h => absurd h List.not_mem_nil)⟩)⟩)⟩)⟩)⟩)⟩)⟩)⟩)⟩)⟩)⟩)⟩)⟩)⟩)⟩)⟩)⟩)⟩)⟩)
set_option maxRecDepth 20000 in
theorem lq_2_0 : mm_lc 2 (5, 3, 0, 0) ∈ lw_tbl := (tb_2 _ (List.mem_of_getElem? (i := 5) rfl))
set_option maxRecDepth 20000 in
theorem lq_2_1 : mm_lc 2 (0, 9, 2, 0) ∈ lw_tbl := (tb_2 _ (List.mem_of_getElem? (i := 6) rfl))
set_option maxRecDepth 20000 in
theorem lq_2_2 : mm_lc 2 (0, 15, 2, 1) ∈ lw_tbl := (tb_2 _ (List.mem_of_getElem? (i := 7) rfl))
set_option maxRecDepth 20000 in
theorem lq_2_3 : mm_lc 2 (0, 19, 1, 0) ∈ lw_tbl := (tb_1 _ (List.mem_of_getElem? (i := 119) rfl))
set_option maxRecDepth 20000 in
theorem lq_2_4 : mm_lc 2 (1, 24, 48, 0) ∈ lw_tbl := (tb_5 _ (List.mem_of_getElem? (i := 44) rfl))
set_option maxRecDepth 20000 in
theorem lq_2_5 : mm_lc 2 (0, 30, 2, 2) ∈ lw_tbl := (tb_2 _ (List.mem_of_getElem? (i := 8) rfl))
set_option maxRecDepth 20000 in
theorem lq_2_6 : mm_lc 2 (0, 34, 5, 3) ∈ lw_tbl := (tb_2 _ (List.mem_of_getElem? (i := 83) rfl))
set_option maxRecDepth 20000 in
theorem lq_2_7 : mm_lc 2 (0, 36, 5, 11) ∈ lw_tbl := (tb_2 _ (List.mem_of_getElem? (i := 106) rfl))
set_option maxRecDepth 20000 in
theorem lq_2_8 : mm_lc 2 (0, 39, 1, 3) ∈ lw_tbl := (tb_1 _ (List.mem_of_getElem? (i := 127) rfl))
set_option maxRecDepth 20000 in
theorem lq_2_9 : mm_lc 2 (1, 40, 14, 0) ∈ lw_tbl := (tb_5 _ (List.mem_of_getElem? (i := 45) rfl))
set_option maxRecDepth 20000 in
theorem lq_2_10 : mm_lc 2 (0, 44, 2, 3) ∈ lw_tbl := (tb_2 _ (List.mem_of_getElem? (i := 9) rfl))
set_option maxRecDepth 20000 in
theorem lq_2_11 : mm_lc 2 (1, 47, 51, 0) ∈ lw_tbl := (tb_5 _ (List.mem_of_getElem? (i := 46) rfl))
set_option maxRecDepth 20000 in
theorem lq_2_12 : mm_lc 2 (0, 51, 2, 4) ∈ lw_tbl := (tb_2 _ (List.mem_of_getElem? (i := 10) rfl))
set_option maxRecDepth 20000 in
theorem lq_2_13 : mm_lc 2 (0, 54, 2, 5) ∈ lw_tbl := (tb_2 _ (List.mem_of_getElem? (i := 12) rfl))
set_option maxRecDepth 20000 in
theorem lq_2_14 : mm_lc 2 (0, 57, 2, 6) ∈ lw_tbl := (tb_2 _ (List.mem_of_getElem? (i := 14) rfl))
set_option maxRecDepth 20000 in
theorem lq_2_15 : mm_lc 2 (1, 60, 17, 0) ∈ lw_tbl := (tb_5 _ (List.mem_of_getElem? (i := 47) rfl))
set_option maxRecDepth 20000 in
theorem lq_2_16 : mm_lc 2 (24, 64, 1, 0) ∈ lw_tbl := (tb_5 _ (List.mem_of_getElem? (i := 51) rfl))
set_option maxRecDepth 20000 in
theorem lq_2_17 : mm_lc 2 (1, 66, 247, 0) ∈ lw_tbl := (tb_5 _ (List.mem_of_getElem? (i := 52) rfl))
set_option maxRecDepth 20000 in
theorem lq_2_18 : mm_lc 2 (0, 72, 5, 9) ∈ lw_tbl := (tb_2 _ (List.mem_of_getElem? (i := 100) rfl))
set_option maxRecDepth 20000 in
theorem lq_2_19 : mm_lc 2 (1, 75, 49, 0) ∈ lw_tbl := (tb_5 _ (List.mem_of_getElem? (i := 57) rfl))
set_option maxRecDepth 20000 in
theorem lk_in_2 : ∀ d ∈ ln_2, mm_lc 2 d ∈ lw_tbl := (List.forall_mem_cons.mpr ⟨lq_2_0, (List.forall_mem_cons.mpr ⟨lq_2_1, (List.forall_mem_cons.mpr ⟨lq_2_2, (List.forall_mem_cons.mpr ⟨lq_2_3, (List.forall_mem_cons.mpr ⟨lq_2_4, (List.forall_mem_cons.mpr ⟨lq_2_5, (List.forall_mem_cons.mpr ⟨lq_2_6, (List.forall_mem_cons.mpr ⟨lq_2_7, (List.forall_mem_cons.mpr ⟨lq_2_8, (List.forall_mem_cons.mpr ⟨lq_2_9, (List.forall_mem_cons.mpr ⟨lq_2_10, (List.forall_mem_cons.mpr ⟨lq_2_11, (List.forall_mem_cons.mpr ⟨lq_2_12, (List.forall_mem_cons.mpr ⟨lq_2_13, (List.forall_mem_cons.mpr ⟨lq_2_14, (List.forall_mem_cons.mpr ⟨lq_2_15, (List.forall_mem_cons.mpr ⟨lq_2_16, (List.forall_mem_cons.mpr ⟨lq_2_17, (List.forall_mem_cons.mpr ⟨lq_2_18, (List.forall_mem_cons.mpr ⟨lq_2_19, (fun _ h => absurd h List.not_mem_nil)⟩)⟩)⟩)⟩)⟩)⟩)⟩)⟩)⟩)⟩)⟩)⟩)⟩)⟩)⟩)⟩)⟩)⟩)⟩)⟩)
set_option maxRecDepth 20000 in
theorem lq_3_0 : mm_lc 3 (5, 3, 0, 0) ∈ lw_tbl := (tb_1 _ (List.mem_of_getElem? (i := 90) rfl))
set_option maxRecDepth 20000 in
theorem lq_3_1 : mm_lc 3 (0, 9, 3, 1) ∈ lw_tbl := (tb_1 _ (List.mem_of_getElem? (i := 93) rfl))
set_option maxRecDepth 20000 in
theorem lq_3_2 : mm_lc 3 (0, 15, 3, 2) ∈ lw_tbl := (tb_1 _ (List.mem_of_getElem? (i := 95) rfl))
set_option maxRecDepth 20000 in
theorem lq_3_3 : mm_lc 3 (0, 18, 3, 3) ∈ lw_tbl := (tb_1 _ (List.mem_of_getElem? (i := 97) rfl))
set_option maxRecDepth 20000 in
theorem lq_3_4 : mm_lc 3 (0, 21, 3, 4) ∈ lw_tbl := (tb_1 _ (List.mem_of_getElem? (i := 99) rfl))
set_option maxRecDepth 20000 in
theorem lq_3_5 : mm_lc 3 (0, 24, 3, 0) ∈ lw_tbl := (tb_1 _ (List.mem_of_getElem? (i := 91) rfl))
set_option maxRecDepth 20000 in
theorem lk_in_3 : ∀ d ∈ ln_3, mm_lc 3 d ∈ lw_tbl := (List.forall_mem_cons.mpr ⟨lq_3_0, (List.forall_mem_cons.mpr ⟨lq_3_1, (List.forall_mem_cons.mpr ⟨lq_3_2, (List.forall_mem_cons.mpr ⟨lq_3_3, (List.forall_mem_cons.mpr ⟨lq_3_4, (List.forall_mem_cons.mpr ⟨lq_3_5, (fun _ h => absurd h List.not_mem_nil)⟩)⟩)⟩)⟩)⟩)⟩)
set_option maxRecDepth 20000 in
theorem lq_4_0 : mm_lc 4 (5, 3, 0, 0) ∈ lw_tbl := (tb_1 _ (List.mem_of_getElem? (i := 151) rfl))
set_option maxRecDepth 20000 in
theorem lq_4_1 : mm_lc 4 (6, 9, 0, 0) ∈ lw_tbl := (tb_1 _ (List.mem_of_getElem? (i := 152) rfl))
set_option maxRecDepth 20000 in
theorem lq_4_2 : mm_lc 4 (0, 11, 4, 0) ∈ lw_tbl := (tb_1 _ (List.mem_of_getElem? (i := 154) rfl))
set_option maxRecDepth 20000 in
theorem lq_4_3 : mm_lc 4 (0, 16, 4, 1) ∈ lw_tbl := (tb_1 _ (List.mem_of_getElem? (i := 157) rfl))
set_option maxRecDepth 20000 in
theorem lq_4_4 : mm_lc 4 (0, 20, 4, 2) ∈ lw_tbl := (tb_1 _ (List.mem_of_getElem? (i := 160) rfl))
set_option maxRecDepth 20000 in
theorem lq_4_5 : mm_lc 4 (0, 23, 4, 3) ∈ lw_tbl := (tb_1 _ (List.mem_of_getElem? (i := 161) rfl))
set_option maxRecDepth 20000 in
theorem lq_4_6 : mm_lc 4 (0, 27, 4, 4) ∈ lw_tbl := (tb_1 _ (List.mem_of_getElem? (i := 163) rfl))
set_option maxRecDepth 20000 in
theorem lq_4_7 : mm_lc 4 (0, 31, 1, 0) ∈ lw_tbl := (tb_1 _ (List.mem_of_getElem? (i := 121) rfl))
set_option maxRecDepth 20000 in
theorem lq_4_8 : mm_lc 4 (1, 36, 25, 0) ∈ lw_tbl := (tb_4 _ (List.mem_of_getElem? (i := 2) rfl))
set_option maxRecDepth 20000 in
theorem lq_4_9 : mm_lc 4 (1, 40, 26, 0) ∈ lw_tbl := (tb_4 _ (List.mem_of_getElem? (i := 21) rfl))
set_option maxRecDepth 20000 in
theorem lq_4_10 : mm_lc 4 (1, 44, 23, 0) ∈ lw_tbl := (tb_4 _ (List.mem_of_getElem? (i := 25) rfl))
set_option maxRecDepth 20000 in
theorem lk_in_4 : ∀ d ∈ ln_4, mm_lc 4 d ∈ lw_tbl := (List.forall_mem_cons.mpr ⟨lq_4_0, (List.forall_mem_cons.mpr ⟨lq_4_1, (List.forall_mem_cons.mpr ⟨lq_4_2, (List.forall_mem_cons.mpr ⟨lq_4_3, (List.forall_mem_cons.mpr ⟨lq_4_4, (List.forall_mem_cons.mpr ⟨lq_4_5, (List.forall_mem_cons.mpr ⟨lq_4_6, (List.forall_mem_cons.mpr ⟨lq_4_7, (List.forall_mem_cons.mpr ⟨lq_4_8, (List.forall_mem_cons.mpr ⟨lq_4_9, (List.forall_mem_cons.mpr ⟨lq_4_10, (fun _ h => absurd h List.not_mem_nil)⟩)⟩)⟩)⟩)⟩)⟩)⟩)⟩)⟩)⟩)⟩)
set_option maxRecDepth 20000 in
theorem lq_5_0 : mm_lc 5 (5, 3, 0, 0) ∈ lw_tbl := (tb_2 _ (List.mem_of_getElem? (i := 74) rfl))
set_option maxRecDepth 20000 in
theorem lq_5_1 : mm_lc 5 (0, 9, 5, 0) ∈ lw_tbl := (tb_2 _ (List.mem_of_getElem? (i := 75) rfl))
set_option maxRecDepth 20000 in
theorem lq_5_2 : mm_lc 5 (0, 15, 5, 5) ∈ lw_tbl := (tb_2 _ (List.mem_of_getElem? (i := 87) rfl))
set_option maxRecDepth 20000 in
theorem lq_5_3 : mm_lc 5 (0, 19, 5, 6) ∈ lw_tbl := (tb_2 _ (List.mem_of_getElem? (i := 88) rfl))
set_option maxRecDepth 20000 in
theorem lq_5_4 : mm_lc 5 (0, 22, 5, 7) ∈ lw_tbl := (tb_2 _ (List.mem_of_getElem? (i := 90) rfl))
set_option maxRecDepth 20000 in
theorem lq_5_5 : mm_lc 5 (0, 25, 5, 8) ∈ lw_tbl := (tb_2 _ (List.mem_of_getElem? (i := 96) rfl))
set_option maxRecDepth 20000 in
theorem lq_5_6 : mm_lc 5 (0, 28, 5, 9) ∈ lw_tbl := (tb_2 _ (List.mem_of_getElem? (i := 98) rfl))
set_option maxRecDepth 20000 in
theorem lq_5_7 : mm_lc 5 (0, 31, 5, 10) ∈ lw_tbl := (tb_2 _ (List.mem_of_getElem? (i := 103) rfl))
set_option maxRecDepth 20000 in
theorem lq_5_8 : mm_lc 5 (0, 34, 5, 11) ∈ lw_tbl := (tb_2 _ (List.mem_of_getElem? (i := 104) rfl))
set_option maxRecDepth 20000 in
theorem lq_5_9 : mm_lc 5 (0, 37, 5, 12) ∈ lw_tbl := (tb_2 _ (List.mem_of_getElem? (i := 109) rfl))
set_option maxRecDepth 20000 in
theorem lq_5_10 : mm_lc 5 (0, 41, 5, 1) ∈ lw_tbl := (tb_2 _ (List.mem_of_getElem? (i := 78) rfl))
set_option maxRecDepth 20000 in
theorem lq_5_11 : mm_lc 5 (0, 44, 5, 2) ∈ lw_tbl := (tb_2 _ (List.mem_of_getElem? (i := 80) rfl))
set_option maxRecDepth 20000 in
theorem lq_5_12 : mm_lc 5 (0, 47, 5, 3) ∈ lw_tbl := (tb_2 _ (List.mem_of_getElem? (i := 82) rfl))
set_option maxRecDepth 20000 in
theorem lq_5_13 : mm_lc 5 (0, 50, 5, 4) ∈ lw_tbl := (tb_2 _ (List.mem_of_getElem? (i := 86) rfl))
set_option maxRecDepth 20000 in
theorem lq_5_14 : mm_lc 5 (0, 54, 8, 7) ∈ lw_tbl := (tb_1 _ (List.mem_of_getElem? (i := 43) rfl))
set_option maxRecDepth 20000 in
theorem lq_5_15 : mm_lc 5 (1, 59, 31, 0) ∈ lw_tbl := (tb_3 _ (List.mem_of_getElem? (i := 31) rfl))
set_option maxRecDepth 20000 in
theorem lq_5_16 : mm_lc 5 (1, 63, 90, 0) ∈ lw_tbl := (tb_3 _ (List.mem_of_getElem? (i := 126) rfl))
set_option maxRecDepth 20000 in
theorem lq_5_17 : mm_lc 5 (3, 67, 284563040, 0) ∈ lw_tbl := (tb_3 _ (List.mem_of_getElem? (i := 35) rfl))
set_option maxRecDepth 20000 in
theorem lq_5_18 : mm_lc 5 (1, 68, 86, 0) ∈ lw_tbl := (tb_3 _ (List.mem_of_getElem? (i := 36) rfl))
set_option maxRecDepth 20000 in
theorem lq_5_19 : mm_lc 5 (1, 72, 32, 0) ∈ lw_tbl := (tb_3 _ (List.mem_of_getElem? (i := 40) rfl))
set_option maxRecDepth 20000 in
theorem lq_5_20 : mm_lc 5 (3, 75, 210940032, 0) ∈ lw_tbl := (tb_3 _ (List.mem_of_getElem? (i := 54) rfl))
set_option maxRecDepth 20000 in
theorem lq_5_21 : mm_lc 5 (1, 76, 33, 0) ∈ lw_tbl := (tb_3 _ (List.mem_of_getElem? (i := 55) rfl))
set_option maxRecDepth 20000 in
theorem lq_5_22 : mm_lc 5 (3, 79, 788074496, 0) ∈ lw_tbl := (tb_3 _ (List.mem_of_getElem? (i := 109) rfl))
set_option maxRecDepth 20000 in
theorem lq_5_23 : mm_lc 5 (1, 80, 41, 0) ∈ lw_tbl := (tb_3 _ (List.mem_of_getElem? (i := 110) rfl))
set_option maxRecDepth 20000 in
theorem lq_5_24 : mm_lc 5 (1, 83, 84, 0) ∈ lw_tbl := (tb_3 _ (List.mem_of_getElem? (i := 44) rfl))
set_option maxRecDepth 20000 in
theorem lq_5_25 : mm_lc 5 (1, 86, 83, 0) ∈ lw_tbl := (tb_3 _ (List.mem_of_getElem? (i := 48) rfl))
set_option maxRecDepth 20000 in
theorem lq_5_26 : mm_lc 5 (1, 89, 88, 0) ∈ lw_tbl := (tb_3 _ (List.mem_of_getElem? (i := 49) rfl))
set_option maxRecDepth 20000 in
theorem lq_5_27 : mm_lc 5 (0, 93, 8, 8) ∈ lw_tbl := (tb_1 _ (List.mem_of_getElem? (i := 48) rfl))
set_option maxRecDepth 20000 in
theorem lq_5_28 : mm_lc 5 (1, 96, 34, 0) ∈ lw_tbl := (tb_3 _ (List.mem_of_getElem? (i := 59) rfl))
set_option maxRecDepth 20000 in
theorem lq_5_29 : mm_lc 5 (1, 99, 35, 0) ∈ lw_tbl := (tb_3 _ (List.mem_of_getElem? (i := 74) rfl))
set_option maxRecDepth 20000 in
theorem lq_5_30 : mm_lc 5 (1, 103, 37, 0) ∈ lw_tbl := (tb_3 _ (List.mem_of_getElem? (i := 81) rfl))
set_option maxRecDepth 20000 in
theorem lq_5_31 : mm_lc 5 (1, 107, 36, 0) ∈ lw_tbl := (tb_3 _ (List.mem_of_getElem? (i := 96) rfl))
set_option maxRecDepth 20000 in
theorem lq_5_32 : mm_lc 5 (1, 110, 38, 0) ∈ lw_tbl := (tb_3 _ (List.mem_of_getElem? (i := 101) rfl))
set_option maxRecDepth 20000 in
theorem lq_5_33 : mm_lc 5 (1, 117, 52, 0) ∈ lw_tbl := (tb_3 _ (List.mem_of_getElem? (i := 63) rfl))
set_option maxRecDepth 20000 in
theorem lq_5_34 : mm_lc 5 (1, 121, 53, 0) ∈ lw_tbl := (tb_3 _ (List.mem_of_getElem? (i := 70) rfl))
set_option maxRecDepth 20000 in
theorem lq_5_35 : mm_lc 5 (3, 124, 518160384, 0) ∈ lw_tbl := (tb_3 _ (List.mem_of_getElem? (i := 77) rfl))
set_option maxRecDepth 20000 in
theorem lq_5_36 : mm_lc 5 (3, 125, 659999744, 0) ∈ lw_tbl := (tb_3 _ (List.mem_of_getElem? (i := 78) rfl))
set_option maxRecDepth 20000 in
theorem lq_5_37 : mm_lc 5 (3, 126, 538233440, 0) ∈ lw_tbl := (tb_3 _ (List.mem_of_getElem? (i := 79) rfl))
set_option maxRecDepth 20000 in
theorem lq_5_38 : mm_lc 5 (3, 127, 404000768, 0) ∈ lw_tbl := (tb_3 _ (List.mem_of_getElem? (i := 80) rfl))
set_option maxRecDepth 20000 in
theorem lq_5_39 : mm_lc 5 (1, 128, 39, 0) ∈ lw_tbl := (tb_3 _ (List.mem_of_getElem? (i := 85) rfl))
set_option maxRecDepth 20000 in
theorem lq_5_40 : mm_lc 5 (10, 132, 0, 0) ∈ lw_tbl := (tb_3 _ (List.mem_of_getElem? (i := 100) rfl))
set_option maxRecDepth 20000 in
theorem lq_5_41 : mm_lc 5 (1, 138, 40, 0) ∈ lw_tbl := (tb_3 _ (List.mem_of_getElem? (i := 92) rfl))
set_option maxRecDepth 20000 in
theorem lq_5_42 : mm_lc 5 (1, 142, 47, 0) ∈ lw_tbl := (tb_3 _ (List.mem_of_getElem? (i := 105) rfl))
set_option maxRecDepth 20000 in
theorem lq_5_43 : mm_lc 5 (1, 145, 43, 0) ∈ lw_tbl := (tb_3 _ (List.mem_of_getElem? (i := 114) rfl))
set_option maxRecDepth 20000 in
theorem lq_5_44 : mm_lc 5 (1, 148, 45, 0) ∈ lw_tbl := (tb_3 _ (List.mem_of_getElem? (i := 118) rfl))
set_option maxRecDepth 20000 in
theorem lq_5_45 : mm_lc 5 (1, 151, 42, 0) ∈ lw_tbl := (tb_3 _ (List.mem_of_getElem? (i := 122) rfl))
set_option maxRecDepth 20000 in
theorem lq_5_46 : mm_lc 5 (1, 154, 46, 0) ∈ lw_tbl := (tb_3 _ (List.mem_of_getElem? (i := 167) rfl))
set_option maxRecDepth 20000 in
theorem lq_5_47 : mm_lc 5 (1, 163, 246, 0) ∈ lw_tbl := (tb_4 _ (List.mem_of_getElem? (i := 142) rfl))
set_option maxRecDepth 20000 in
theorem lq_5_48 : mm_lc 5 (1, 168, 54, 0) ∈ lw_tbl := (tb_3 _ (List.mem_of_getElem? (i := 67) rfl))
set_option maxRecDepth 20000 in
theorem lk_in_5 : ∀ d ∈ ln_5, mm_lc 5 d ∈ lw_tbl := (List.forall_mem_cons.mpr ⟨lq_5_0, (List.forall_mem_cons.mpr ⟨lq_5_1, (List.forall_mem_cons.mpr ⟨lq_5_2, (List.forall_mem_cons.mpr ⟨lq_5_3, (List.forall_mem_cons.mpr ⟨lq_5_4, (List.forall_mem_cons.mpr ⟨lq_5_5, (List.forall_mem_cons.mpr ⟨lq_5_6, (List.forall_mem_cons.mpr ⟨lq_5_7, (List.forall_mem_cons.mpr ⟨lq_5_8, (List.forall_mem_cons.mpr ⟨lq_5_9, (List.forall_mem_cons.mpr ⟨lq_5_10, (List.forall_mem_cons.mpr ⟨lq_5_11, (List.forall_mem_cons.mpr ⟨lq_5_12, (List.forall_mem_cons.mpr ⟨lq_5_13, (List.forall_mem_cons.mpr ⟨lq_5_14, (List.forall_mem_cons.mpr ⟨lq_5_15, (List.forall_mem_cons.mpr ⟨lq_5_16, (List.forall_mem_cons.mpr ⟨lq_5_17, (List.forall_mem_cons.mpr ⟨lq_5_18, (List.forall_mem_cons.mpr ⟨lq_5_19, (List.forall_mem_cons.mpr ⟨lq_5_20, (List.forall_mem_cons.mpr ⟨lq_5_21, (List.forall_mem_cons.mpr ⟨lq_5_22, (List.forall_mem_cons.mpr ⟨lq_5_23, (List.forall_mem_cons.mpr ⟨lq_5_24, (List.forall_mem_cons.mpr ⟨lq_5_25, (List.forall_mem_cons.mpr ⟨lq_5_26, (List.forall_mem_cons.mpr ⟨lq_5_27, (List.forall_mem_cons.mpr ⟨lq_5_28, (List.forall_mem_cons.mpr ⟨lq_5_29, (List.forall_mem_cons.mpr ⟨lq_5_30, (List.forall_mem_cons.mpr ⟨lq_5_31, (List.forall_mem_cons.mpr ⟨lq_5_32, (List.forall_mem_cons.mpr ⟨lq_5_33, (List.forall_mem_cons.mpr ⟨lq_5_34, (List.forall_mem_cons.mpr ⟨lq_5_35, (List.forall_mem_cons.mpr ⟨lq_5_36, (List.forall_mem_cons.mpr ⟨lq_5_37, (List.forall_mem_cons.mpr ⟨lq_5_38, (List.forall_mem_cons.mpr ⟨lq_5_39, (List.forall_mem_cons.mpr ⟨lq_5_40, (List.forall_mem_cons.mpr ⟨lq_5_41, (List.forall_mem_cons.mpr ⟨lq_5_42, (List.forall_mem_cons.mpr ⟨lq_5_43, (List.forall_mem_cons.mpr ⟨lq_5_44, (List.forall_mem_cons.mpr ⟨lq_5_45, (List.forall_mem_cons.mpr ⟨lq_5_46, (List.forall_mem_cons.mpr ⟨lq_5_47, (List.forall_mem_cons.mpr ⟨lq_5_48, (fun _ h => absurd h List.not_mem_nil)⟩)⟩)⟩)⟩)⟩)⟩)⟩)⟩)⟩)⟩)⟩)⟩)⟩)⟩)⟩)⟩)⟩)⟩)⟩)⟩)⟩)⟩)⟩)⟩)⟩)⟩)⟩)⟩)⟩)⟩)⟩)⟩)⟩)⟩)⟩)⟩)⟩)⟩)⟩)⟩)⟩)⟩)⟩)⟩)⟩)⟩)⟩)⟩)⟩)
set_option maxRecDepth 20000 in
theorem lq_6_0 : mm_lc 6 (5, 3, 0, 0) ∈ lw_tbl := (tb_2 _ (List.mem_of_getElem? (i := 143) rfl))
set_option maxRecDepth 20000 in
theorem lq_6_1 : mm_lc 6 (0, 9, 6, 0) ∈ lw_tbl := (tb_2 _ (List.mem_of_getElem? (i := 144) rfl))
set_option maxRecDepth 20000 in
theorem lq_6_2 : mm_lc 6 (0, 15, 6, 1) ∈ lw_tbl := (tb_2 _ (List.mem_of_getElem? (i := 145) rfl))
set_option maxRecDepth 20000 in
theorem lq_6_3 : mm_lc 6 (0, 18, 6, 2) ∈ lw_tbl := (tb_2 _ (List.mem_of_getElem? (i := 146) rfl))
set_option maxRecDepth 20000 in
theorem lq_6_4 : mm_lc 6 (0, 21, 6, 3) ∈ lw_tbl := (tb_2 _ (List.mem_of_getElem? (i := 147) rfl))
set_option maxRecDepth 20000 in
theorem lq_6_5 : mm_lc 6 (0, 24, 6, 4) ∈ lw_tbl := (tb_2 _ (List.mem_of_getElem? (i := 148) rfl))
set_option maxRecDepth 20000 in
theorem lq_6_6 : mm_lc 6 (0, 28, 6, 5) ∈ lw_tbl := (tb_2 _ (List.mem_of_getElem? (i := 150) rfl))
set_option maxRecDepth 20000 in
theorem lq_6_7 : mm_lc 6 (1, 31, 56, 0) ∈ lw_tbl := (tb_4 _ (List.mem_of_getElem? (i := 38) rfl))
set_option maxRecDepth 20000 in
theorem lq_6_8 : mm_lc 6 (1, 34, 58, 0) ∈ lw_tbl := (tb_4 _ (List.mem_of_getElem? (i := 39) rfl))
set_option maxRecDepth 20000 in
theorem lq_6_9 : mm_lc 6 (1, 38, 87, 0) ∈ lw_tbl := (tb_4 _ (List.mem_of_getElem? (i := 79) rfl))
set_option maxRecDepth 20000 in
theorem lq_6_10 : mm_lc 6 (1, 44, 59, 0) ∈ lw_tbl := (tb_4 _ (List.mem_of_getElem? (i := 43) rfl))
set_option maxRecDepth 20000 in
theorem lq_6_11 : mm_lc 6 (3, 47, 522190848, 0) ∈ lw_tbl := (tb_4 _ (List.mem_of_getElem? (i := 78) rfl))
set_option maxRecDepth 20000 in
theorem lq_6_12 : mm_lc 6 (1, 48, 86, 0) ∈ lw_tbl := (tb_4 _ (List.mem_of_getElem? (i := 52) rfl))
set_option maxRecDepth 20000 in
theorem lq_6_13 : mm_lc 6 (1, 52, 63, 0) ∈ lw_tbl := (tb_4 _ (List.mem_of_getElem? (i := 53) rfl))
set_option maxRecDepth 20000 in
theorem lq_6_14 : mm_lc 6 (1, 56, 64, 0) ∈ lw_tbl := (tb_4 _ (List.mem_of_getElem? (i := 72) rfl))
set_option maxRecDepth 20000 in
theorem lq_6_15 : mm_lc 6 (1, 60, 60, 0) ∈ lw_tbl := (tb_4 _ (List.mem_of_getElem? (i := 47) rfl))
set_option maxRecDepth 20000 in
theorem lq_6_16 : mm_lc 6 (3, 63, 48365568, 0) ∈ lw_tbl := (tb_4 _ (List.mem_of_getElem? (i := 77) rfl))
set_option maxRecDepth 20000 in
theorem lq_6_17 : mm_lc 6 (3, 64, 486146048, 0) ∈ lw_tbl := (tb_4 _ (List.mem_of_getElem? (i := 51) rfl))
set_option maxRecDepth 20000 in
theorem lq_6_18 : mm_lc 6 (0, 65, 8, 7) ∈ lw_tbl := (tb_1 _ (List.mem_of_getElem? (i := 45) rfl))
set_option maxRecDepth 20000 in
theorem lq_6_19 : mm_lc 6 (1, 68, 61, 0) ∈ lw_tbl := (tb_4 _ (List.mem_of_getElem? (i := 59) rfl))
set_option maxRecDepth 20000 in
theorem lq_6_20 : mm_lc 6 (1, 71, 62, 0) ∈ lw_tbl := (tb_4 _ (List.mem_of_getElem? (i := 64) rfl))
set_option maxRecDepth 20000 in
theorem lq_6_21 : mm_lc 6 (1, 75, 84, 0) ∈ lw_tbl := (tb_4 _ (List.mem_of_getElem? (i := 57) rfl))
set_option maxRecDepth 20000 in
theorem lq_6_22 : mm_lc 6 (1, 78, 83, 0) ∈ lw_tbl := (tb_4 _ (List.mem_of_getElem? (i := 58) rfl))
set_option maxRecDepth 20000 in
theorem lq_6_23 : mm_lc 6 (1, 81, 90, 0) ∈ lw_tbl := (tb_4 _ (List.mem_of_getElem? (i := 63) rfl))
set_option maxRecDepth 20000 in
theorem lq_6_24 : mm_lc 6 (0, 85, 8, 8) ∈ lw_tbl := (tb_1 _ (List.mem_of_getElem? (i := 49) rfl))
set_option maxRecDepth 20000 in
theorem lq_6_25 : mm_lc 6 (0, 88, 8, 9) ∈ lw_tbl := (tb_1 _ (List.mem_of_getElem? (i := 52) rfl))
set_option maxRecDepth 20000 in
theorem lq_6_26 : mm_lc 6 (1, 91, 52, 0) ∈ lw_tbl := (tb_4 _ (List.mem_of_getElem? (i := 68) rfl))
set_option maxRecDepth 20000 in
theorem lq_6_27 : mm_lc 6 (1, 97, 53, 0) ∈ lw_tbl := (tb_4 _ (List.mem_of_getElem? (i := 69) rfl))
set_option maxRecDepth 20000 in
theorem lq_6_28 : mm_lc 6 (1, 100, 45, 0) ∈ lw_tbl := (tb_4 _ (List.mem_of_getElem? (i := 70) rfl))
set_option maxRecDepth 20000 in
theorem lq_6_29 : mm_lc 6 (1, 103, 85, 0) ∈ lw_tbl := (tb_4 _ (List.mem_of_getElem? (i := 71) rfl))
set_option maxRecDepth 20000 in
theorem lq_6_30 : mm_lc 6 (0, 107, 5, 9) ∈ lw_tbl := (tb_2 _ (List.mem_of_getElem? (i := 102) rfl))
set_option maxRecDepth 20000 in
theorem lq_6_31 : mm_lc 6 (1, 110, 88, 0) ∈ lw_tbl := (tb_4 _ (List.mem_of_getElem? (i := 76) rfl))
set_option maxRecDepth 20000 in
theorem lq_6_32 : mm_lc 6 (1, 117, 67, 0) ∈ lw_tbl := (tb_4 _ (List.mem_of_getElem? (i := 208) rfl))
set_option maxRecDepth 20000 in
theorem lq_6_33 : mm_lc 6 (1, 121, 66, 0) ∈ lw_tbl := (tb_4 _ (List.mem_of_getElem? (i := 217) rfl))
set_option maxRecDepth 20000 in
theorem lq_6_34 : mm_lc 6 (0, 125, 1, 3) ∈ lw_tbl := (tb_1 _ (List.mem_of_getElem? (i := 131) rfl))
set_option maxRecDepth 20000 in
theorem lq_6_35 : mm_lc 6 (1, 131, 49, 0) ∈ lw_tbl := (tb_4 _ (List.mem_of_getElem? (i := 221) rfl))
set_option maxRecDepth 20000 in
theorem lq_6_36 : mm_lc 6 (1, 134, 14, 0) ∈ lw_tbl := (tb_4 _ (List.mem_of_getElem? (i := 222) rfl))
set_option maxRecDepth 20000 in
theorem lq_6_37 : mm_lc 6 (1, 138, 13, 0) ∈ lw_tbl := (tb_4 _ (List.mem_of_getElem? (i := 212) rfl))
set_option maxRecDepth 20000 in
theorem lq_6_38 : mm_lc 6 (1, 141, 12, 0) ∈ lw_tbl := (tb_4 _ (List.mem_of_getElem? (i := 216) rfl))
set_option maxRecDepth 20000 in
theorem lk_in_6 : ∀ d ∈ ln_6, mm_lc 6 d ∈ lw_tbl := (List.forall_mem_cons.mpr ⟨lq_6_0, (List.forall_mem_cons.mpr ⟨lq_6_1, (List.forall_mem_cons.mpr ⟨lq_6_2, (List.forall_mem_cons.mpr ⟨lq_6_3, (List.forall_mem_cons.mpr ⟨lq_6_4, (List.forall_mem_cons.mpr ⟨lq_6_5, (List.forall_mem_cons.mpr ⟨lq_6_6, (List.forall_mem_cons.mpr ⟨lq_6_7, (List.forall_mem_cons.mpr ⟨lq_6_8, (List.forall_mem_cons.mpr ⟨lq_6_9, (List.forall_mem_cons.mpr ⟨lq_6_10, (List.forall_mem_cons.mpr ⟨lq_6_11, (List.forall_mem_cons.mpr ⟨lq_6_12, (List.forall_mem_cons.mpr ⟨lq_6_13, (List.forall_mem_cons.mpr ⟨lq_6_14, (List.forall_mem_cons.mpr ⟨lq_6_15, (List.forall_mem_cons.mpr ⟨lq_6_16, (List.forall_mem_cons.mpr ⟨lq_6_17, (List.forall_mem_cons.mpr ⟨lq_6_18, (List.forall_mem_cons.mpr ⟨lq_6_19, (List.forall_mem_cons.mpr ⟨lq_6_20, (List.forall_mem_cons.mpr ⟨lq_6_21, (List.forall_mem_cons.mpr ⟨lq_6_22, (List.forall_mem_cons.mpr ⟨lq_6_23, (List.forall_mem_cons.mpr ⟨lq_6_24, (List.forall_mem_cons.mpr ⟨lq_6_25, (List.forall_mem_cons.mpr ⟨lq_6_26, (List.forall_mem_cons.mpr ⟨lq_6_27, (List.forall_mem_cons.mpr ⟨lq_6_28, (List.forall_mem_cons.mpr ⟨lq_6_29, (List.forall_mem_cons.mpr ⟨lq_6_30, (List.forall_mem_cons.mpr ⟨lq_6_31, (List.forall_mem_cons.mpr ⟨lq_6_32, (List.forall_mem_cons.mpr ⟨lq_6_33, (List.forall_mem_cons.mpr ⟨lq_6_34, (List.forall_mem_cons.mpr ⟨lq_6_35, (List.forall_mem_cons.mpr ⟨lq_6_36, (List.forall_mem_cons.mpr ⟨lq_6_37, (List.forall_mem_cons.mpr ⟨lq_6_38, (fun _ h => absurd h List.not_mem_nil)⟩)⟩)⟩)⟩)⟩)⟩)⟩)⟩)⟩)⟩)⟩)⟩)⟩)⟩)⟩)⟩)⟩)⟩)⟩)⟩)⟩)⟩)⟩)⟩)⟩)⟩)⟩)⟩)⟩)⟩)⟩)⟩)⟩)⟩)⟩)⟩)⟩)⟩)⟩)
set_option maxRecDepth 20000 in
theorem lq_7_0 : mm_lc 7 (5, 3, 0, 0) ∈ lw_tbl := (tb_2 _ (List.mem_of_getElem? (i := 36) rfl))
set_option maxRecDepth 20000 in
theorem lq_7_1 : mm_lc 7 (0, 9, 7, 2) ∈ lw_tbl := (tb_2 _ (List.mem_of_getElem? (i := 39) rfl))
set_option maxRecDepth 20000 in
theorem lq_7_2 : mm_lc 7 (0, 15, 7, 3) ∈ lw_tbl := (tb_2 _ (List.mem_of_getElem? (i := 40) rfl))
set_option maxRecDepth 20000 in
theorem lq_7_3 : mm_lc 7 (0, 18, 7, 4) ∈ lw_tbl := (tb_2 _ (List.mem_of_getElem? (i := 41) rfl))
set_option maxRecDepth 20000 in
theorem lq_7_4 : mm_lc 7 (0, 21, 7, 5) ∈ lw_tbl := (tb_2 _ (List.mem_of_getElem? (i := 42) rfl))
set_option maxRecDepth 20000 in
theorem lq_7_5 : mm_lc 7 (0, 24, 7, 6) ∈ lw_tbl := (tb_2 _ (List.mem_of_getElem? (i := 43) rfl))
set_option maxRecDepth 20000 in
theorem lq_7_6 : mm_lc 7 (0, 27, 7, 7) ∈ lw_tbl := (tb_2 _ (List.mem_of_getElem? (i := 44) rfl))
set_option maxRecDepth 20000 in
theorem lq_7_7 : mm_lc 7 (0, 30, 4, 1) ∈ lw_tbl := (tb_1 _ (List.mem_of_getElem? (i := 158) rfl))
set_option maxRecDepth 20000 in
theorem lq_7_8 : mm_lc 7 (0, 35, 7, 0) ∈ lw_tbl := (tb_2 _ (List.mem_of_getElem? (i := 37) rfl))
set_option maxRecDepth 20000 in
theorem lq_7_9 : mm_lc 7 (1, 39, 47, 0) ∈ lw_tbl := (tb_5 _ (List.mem_of_getElem? (i := 66) rfl))
set_option maxRecDepth 20000 in
theorem lq_7_10 : mm_lc 7 (10, 45, 0, 0) ∈ lw_tbl := (tb_5 _ (List.mem_of_getElem? (i := 67) rfl))
set_option maxRecDepth 20000 in
theorem lq_7_11 : mm_lc 7 (0, 51, 7, 1) ∈ lw_tbl := (tb_2 _ (List.mem_of_getElem? (i := 38) rfl))
set_option maxRecDepth 20000 in
theorem lq_7_12 : mm_lc 7 (0, 53, 4, 0) ∈ lw_tbl := (tb_1 _ (List.mem_of_getElem? (i := 155) rfl))
set_option maxRecDepth 20000 in
theorem lq_7_13 : mm_lc 7 (1, 57, 12, 0) ∈ lw_tbl := (tb_5 _ (List.mem_of_getElem? (i := 68) rfl))
set_option maxRecDepth 20000 in
theorem lq_7_14 : mm_lc 7 (0, 62, 4, 3) ∈ lw_tbl := (tb_1 _ (List.mem_of_getElem? (i := 162) rfl))
set_option maxRecDepth 20000 in
theorem lq_7_15 : mm_lc 7 (0, 66, 5, 7) ∈ lw_tbl := (tb_2 _ (List.mem_of_getElem? (i := 92) rfl))
set_option maxRecDepth 20000 in
theorem lq_7_16 : mm_lc 7 (11, 69, 0, 0) ∈ lw_tbl := (tb_5 _ (List.mem_of_getElem? (i := 73) rfl))
set_option maxRecDepth 20000 in
theorem lq_7_17 : mm_lc 7 (0, 72, 7, 8) ∈ lw_tbl := (tb_2 _ (List.mem_of_getElem? (i := 45) rfl))
set_option maxRecDepth 20000 in
theorem lq_7_18 : mm_lc 7 (1, 75, 72, 0) ∈ lw_tbl := (tb_5 _ (List.mem_of_getElem? (i := 82) rfl))
set_option maxRecDepth 20000 in
theorem lq_7_19 : mm_lc 7 (1, 78, 246, 0) ∈ lw_tbl := (tb_5 _ (List.mem_of_getElem? (i := 86) rfl))
set_option maxRecDepth 20000 in
theorem lq_7_20 : mm_lc 7 (0, 83, 7, 9) ∈ lw_tbl := (tb_2 _ (List.mem_of_getElem? (i := 47) rfl))
set_option maxRecDepth 20000 in
theorem lq_7_21 : mm_lc 7 (1, 86, 74, 0) ∈ lw_tbl := (tb_5 _ (List.mem_of_getElem? (i := 91) rfl))
set_option maxRecDepth 20000 in
theorem lq_7_22 : mm_lc 7 (1, 90, 73, 0) ∈ lw_tbl := (tb_5 _ (List.mem_of_getElem? (i := 87) rfl))
set_option maxRecDepth 20000 in
theorem lk_in_7 : ∀ d ∈ ln_7, mm_lc 7 d ∈ lw_tbl := (List.forall_mem_cons.mpr ⟨lq_7_0, (List.forall_mem_cons.mpr ⟨lq_7_1, (List.forall_mem_cons.mpr ⟨lq_7_2, (List.forall_mem_cons.mpr ⟨lq_7_3, (List.forall_mem_cons.mpr ⟨lq_7_4, (List.forall_mem_cons.mpr ⟨lq_7_5, (List.forall_mem_cons.mpr ⟨lq_7_6, (List.forall_mem_cons.mpr ⟨lq_7_7, (List.forall_mem_cons.mpr ⟨lq_7_8, (List.forall_mem_cons.mpr ⟨lq_7_9, (List.forall_mem_cons.mpr ⟨lq_7_10, (List.forall_mem_cons.mpr ⟨lq_7_11, (List.forall_mem_cons.mpr ⟨lq_7_12, (List.forall_mem_cons.mpr ⟨lq_7_13, (List.forall_mem_cons.mpr ⟨lq_7_14, (List.forall_mem_cons.mpr ⟨lq_7_15, (List.forall_mem_cons.mpr ⟨lq_7_16, (List.forall_mem_cons.mpr ⟨lq_7_17, (List.forall_mem_cons.mpr ⟨lq_7_18, (List.forall_mem_cons.mpr ⟨lq_7_19, (List.forall_mem_cons.mpr ⟨lq_7_20, (List.forall_mem_cons.mpr ⟨lq_7_21, (List.forall_mem_cons.mpr ⟨lq_7_22, (fun _ h => absurd h List.not_mem_nil)⟩)⟩)⟩)⟩)⟩)⟩)⟩)⟩)⟩)⟩)⟩)⟩)⟩)⟩)⟩)⟩)⟩)⟩)⟩)⟩)⟩)⟩)⟩)
set_option maxRecDepth 20000 in
theorem lq_8_0 : mm_lc 8 (5, 3, 0, 0) ∈ lw_tbl := (tb_1 _ (List.mem_of_getElem? (i := 34) rfl))
set_option maxRecDepth 20000 in
theorem lq_8_1 : mm_lc 8 (0, 9, 8, 0) ∈ lw_tbl := (tb_1 _ (List.mem_of_getElem? (i := 35) rfl))
set_option maxRecDepth 20000 in
theorem lq_8_2 : mm_lc 8 (0, 15, 8, 2) ∈ lw_tbl := (tb_1 _ (List.mem_of_getElem? (i := 38) rfl))
set_option maxRecDepth 20000 in
theorem lq_8_3 : mm_lc 8 (0, 19, 8, 3) ∈ lw_tbl := (tb_1 _ (List.mem_of_getElem? (i := 39) rfl))
set_option maxRecDepth 20000 in
theorem lq_8_4 : mm_lc 8 (0, 22, 8, 4) ∈ lw_tbl := (tb_1 _ (List.mem_of_getElem? (i := 40) rfl))
set_option maxRecDepth 20000 in
theorem lq_8_5 : mm_lc 8 (0, 25, 8, 11) ∈ lw_tbl := (tb_1 _ (List.mem_of_getElem? (i := 56) rfl))
set_option maxRecDepth 20000 in
theorem lq_8_6 : mm_lc 8 (0, 29, 8, 1) ∈ lw_tbl := (tb_1 _ (List.mem_of_getElem? (i := 37) rfl))
set_option maxRecDepth 20000 in
theorem lq_8_7 : mm_lc 8 (0, 32, 8, 10) ∈ lw_tbl := (tb_1 _ (List.mem_of_getElem? (i := 54) rfl))
set_option maxRecDepth 20000 in
theorem lq_8_8 : mm_lc 8 (1, 35, 79, 0) ∈ lw_tbl := (tb_2 _ (List.mem_of_getElem? (i := 220) rfl))
set_option maxRecDepth 20000 in
theorem lq_8_9 : mm_lc 8 (0, 39, 8, 6) ∈ lw_tbl := (tb_1 _ (List.mem_of_getElem? (i := 42) rfl))
set_option maxRecDepth 20000 in
theorem lq_8_10 : mm_lc 8 (1, 42, 83, 0) ∈ lw_tbl := (tb_3 _ (List.mem_of_getElem? (i := 23) rfl))
set_option maxRecDepth 20000 in
theorem lq_8_11 : mm_lc 8 (0, 45, 8, 5) ∈ lw_tbl := (tb_1 _ (List.mem_of_getElem? (i := 41) rfl))
set_option maxRecDepth 20000 in
theorem lq_8_12 : mm_lc 8 (1, 48, 91, 0) ∈ lw_tbl := (tb_2 _ (List.mem_of_getElem? (i := 224) rfl))
set_option maxRecDepth 20000 in
theorem lq_8_13 : mm_lc 8 (1, 52, 93, 0) ∈ lw_tbl := (tb_2 _ (List.mem_of_getElem? (i := 228) rfl))
set_option maxRecDepth 20000 in
theorem lq_8_14 : mm_lc 8 (1, 56, 80, 0) ∈ lw_tbl := (tb_2 _ (List.mem_of_getElem? (i := 231) rfl))
set_option maxRecDepth 20000 in
theorem lq_8_15 : mm_lc 8 (1, 60, 94, 0) ∈ lw_tbl := (tb_3 _ (List.mem_of_getElem? (i := 4) rfl))
set_option maxRecDepth 20000 in
theorem lq_8_16 : mm_lc 8 (1, 63, 81, 0) ∈ lw_tbl := (tb_3 _ (List.mem_of_getElem? (i := 7) rfl))
set_option maxRecDepth 20000 in
theorem lq_8_17 : mm_lc 8 (1, 66, 92, 0) ∈ lw_tbl := (tb_3 _ (List.mem_of_getElem? (i := 14) rfl))
set_option maxRecDepth 20000 in
theorem lq_8_18 : mm_lc 8 (1, 69, 95, 0) ∈ lw_tbl := (tb_3 _ (List.mem_of_getElem? (i := 17) rfl))
set_option maxRecDepth 20000 in
theorem lq_8_19 : mm_lc 8 (1, 72, 82, 0) ∈ lw_tbl := (tb_2 _ (List.mem_of_getElem? (i := 235) rfl))
set_option maxRecDepth 20000 in
theorem lq_8_20 : mm_lc 8 (11, 76, 0, 0) ∈ lw_tbl := (tb_3 _ (List.mem_of_getElem? (i := 20) rfl))
set_option maxRecDepth 20000 in
theorem lq_8_21 : mm_lc 8 (1, 81, 96, 0) ∈ lw_tbl := (tb_2 _ (List.mem_of_getElem? (i := 239) rfl))
set_option maxRecDepth 20000 in
theorem lq_8_22 : mm_lc 8 (10, 84, 0, 0) ∈ lw_tbl := (tb_3 _ (List.mem_of_getElem? (i := 11) rfl))
set_option maxRecDepth 20000 in
theorem lq_8_23 : mm_lc 8 (0, 87, 8, 7) ∈ lw_tbl := (tb_1 _ (List.mem_of_getElem? (i := 46) rfl))
set_option maxRecDepth 20000 in
theorem lq_8_24 : mm_lc 8 (0, 90, 8, 8) ∈ lw_tbl := (tb_1 _ (List.mem_of_getElem? (i := 50) rfl))
set_option maxRecDepth 20000 in
theorem lq_8_25 : mm_lc 8 (0, 93, 8, 9) ∈ lw_tbl := (tb_1 _ (List.mem_of_getElem? (i := 53) rfl))
set_option maxRecDepth 20000 in
theorem lq_8_26 : mm_lc 8 (1, 96, 84, 0) ∈ lw_tbl := (tb_3 _ (List.mem_of_getElem? (i := 53) rfl))
set_option maxRecDepth 20000 in
theorem lq_8_27 : mm_lc 8 (1, 99, 86, 0) ∈ lw_tbl := (tb_3 _ (List.mem_of_getElem? (i := 206) rfl))
set_option maxRecDepth 20000 in
theorem lk_in_8 : ∀ d ∈ ln_8, mm_lc 8 d ∈ lw_tbl := (List.forall_mem_cons.mpr ⟨lq_8_0, (List.forall_mem_cons.mpr ⟨lq_8_1, (List.forall_mem_cons.mpr ⟨lq_8_2, (List.forall_mem_cons.mpr ⟨lq_8_3, (List.forall_mem_cons.mpr ⟨lq_8_4, (List.forall_mem_cons.mpr ⟨lq_8_5, (List.forall_mem_cons.mpr ⟨lq_8_6, (List.forall_mem_cons.mpr ⟨lq_8_7, (List.forall_mem_cons.mpr ⟨lq_8_8, (List.forall_mem_cons.mpr ⟨lq_8_9, (List.forall_mem_cons.mpr ⟨lq_8_10, (List.forall_mem_cons.mpr ⟨lq_8_11, (List.forall_mem_cons.mpr ⟨lq_8_12, (List.forall_mem_cons.mpr ⟨lq_8_13, (List.forall_mem_cons.mpr ⟨lq_8_14, (List.forall_mem_cons.mpr ⟨lq_8_15, (List.forall_mem_cons.mpr ⟨lq_8_16, (List.forall_mem_cons.mpr ⟨lq_8_17, (List.forall_mem_cons.mpr ⟨lq_8_18, (List.forall_mem_cons.mpr ⟨lq_8_19, (List.forall_mem_cons.mpr ⟨lq_8_20, (List.forall_mem_cons.mpr ⟨lq_8_21, (List.forall_mem_cons.mpr ⟨lq_8_22, (List.forall_mem_cons.mpr ⟨lq_8_23, (List.forall_mem_cons.mpr ⟨lq_8_24, (List.forall_mem_cons.mpr ⟨lq_8_25, (List.forall_mem_cons.mpr ⟨lq_8_26, (List.forall_mem_cons.mpr ⟨lq_8_27, (fun _ h => absurd h List.not_mem_nil)⟩)⟩)⟩)⟩)⟩)⟩)⟩)⟩)⟩)⟩)⟩)⟩)⟩)⟩)⟩)⟩)⟩)⟩)⟩)⟩)⟩)⟩)⟩)⟩)⟩)⟩)⟩)⟩)
set_option maxRecDepth 20000 in
theorem lq_9_0 : mm_lc 9 (5, 3, 0, 0) ∈ lw_tbl := (tb_1 _ (List.mem_of_getElem? (i := 181) rfl))
set_option maxRecDepth 20000 in
theorem lq_9_1 : mm_lc 9 (0, 9, 9, 0) ∈ lw_tbl := (tb_1 _ (List.mem_of_getElem? (i := 182) rfl))
set_option maxRecDepth 20000 in
theorem lq_9_2 : mm_lc 9 (0, 15, 9, 1) ∈ lw_tbl := (tb_1 _ (List.mem_of_getElem? (i := 183) rfl))
set_option maxRecDepth 20000 in
theorem lq_9_3 : mm_lc 9 (0, 18, 9, 2) ∈ lw_tbl := (tb_1 _ (List.mem_of_getElem? (i := 184) rfl))
set_option maxRecDepth 20000 in
theorem lq_9_4 : mm_lc 9 (0, 21, 9, 3) ∈ lw_tbl := (tb_1 _ (List.mem_of_getElem? (i := 185) rfl))
set_option maxRecDepth 20000 in
theorem lq_9_5 : mm_lc 9 (0, 24, 9, 4) ∈ lw_tbl := (tb_1 _ (List.mem_of_getElem? (i := 186) rfl))
set_option maxRecDepth 20000 in
theorem lq_9_6 : mm_lc 9 (0, 28, 9, 5) ∈ lw_tbl := (tb_1 _ (List.mem_of_getElem? (i := 187) rfl))
set_option maxRecDepth 20000 in
theorem lq_9_7 : mm_lc 9 (0, 31, 9, 6) ∈ lw_tbl := (tb_1 _ (List.mem_of_getElem? (i := 188) rfl))
set_option maxRecDepth 20000 in
theorem lq_9_8 : mm_lc 9 (0, 34, 9, 7) ∈ lw_tbl := (tb_1 _ (List.mem_of_getElem? (i := 189) rfl))
set_option maxRecDepth 20000 in
theorem lq_9_9 : mm_lc 9 (1, 38, 99, 0) ∈ lw_tbl := (tb_3 _ (List.mem_of_getElem? (i := 180) rfl))
set_option maxRecDepth 20000 in
theorem lq_9_10 : mm_lc 9 (1, 42, 87, 0) ∈ lw_tbl := (tb_3 _ (List.mem_of_getElem? (i := 234) rfl))
set_option maxRecDepth 20000 in
theorem lq_9_11 : mm_lc 9 (0, 48, 8, 7) ∈ lw_tbl := (tb_1 _ (List.mem_of_getElem? (i := 44) rfl))
set_option maxRecDepth 20000 in
theorem lq_9_12 : mm_lc 9 (1, 51, 100, 0) ∈ lw_tbl := (tb_3 _ (List.mem_of_getElem? (i := 184) rfl))
set_option maxRecDepth 20000 in
theorem lq_9_13 : mm_lc 9 (0, 54, 8, 8) ∈ lw_tbl := (tb_1 _ (List.mem_of_getElem? (i := 47) rfl))
set_option maxRecDepth 20000 in
theorem lq_9_14 : mm_lc 9 (3, 57, 538561536, 0) ∈ lw_tbl := (tb_3 _ (List.mem_of_getElem? (i := 188) rfl))
set_option maxRecDepth 20000 in
theorem lq_9_15 : mm_lc 9 (3, 58, 351582208, 0) ∈ lw_tbl := (tb_3 _ (List.mem_of_getElem? (i := 189) rfl))
set_option maxRecDepth 20000 in
theorem lq_9_16 : mm_lc 9 (3, 59, 40936896, 0) ∈ lw_tbl := (tb_3 _ (List.mem_of_getElem? (i := 190) rfl))
set_option maxRecDepth 20000 in
theorem lq_9_17 : mm_lc 9 (1, 60, 84, 0) ∈ lw_tbl := (tb_3 _ (List.mem_of_getElem? (i := 191) rfl))
set_option maxRecDepth 20000 in
theorem lq_9_18 : mm_lc 9 (1, 64, 83, 0) ∈ lw_tbl := (tb_3 _ (List.mem_of_getElem? (i := 192) rfl))
set_option maxRecDepth 20000 in
theorem lq_9_19 : mm_lc 9 (1, 67, 101, 0) ∈ lw_tbl := (tb_3 _ (List.mem_of_getElem? (i := 193) rfl))
set_option maxRecDepth 20000 in
theorem lq_9_20 : mm_lc 9 (1, 70, 104, 0) ∈ lw_tbl := (tb_3 _ (List.mem_of_getElem? (i := 222) rfl))
set_option maxRecDepth 20000 in
theorem lq_9_21 : mm_lc 9 (1, 74, 105, 0) ∈ lw_tbl := (tb_3 _ (List.mem_of_getElem? (i := 230) rfl))
set_option maxRecDepth 20000 in
theorem lq_9_22 : mm_lc 9 (1, 78, 102, 0) ∈ lw_tbl := (tb_3 _ (List.mem_of_getElem? (i := 197) rfl))
set_option maxRecDepth 20000 in
theorem lq_9_23 : mm_lc 9 (3, 82, 686817280, 0) ∈ lw_tbl := (tb_3 _ (List.mem_of_getElem? (i := 201) rfl))
set_option maxRecDepth 20000 in
theorem lq_9_24 : mm_lc 9 (1, 83, 89, 0) ∈ lw_tbl := (tb_3 _ (List.mem_of_getElem? (i := 202) rfl))
set_option maxRecDepth 20000 in
theorem lq_9_25 : mm_lc 9 (3, 86, 93323264, 0) ∈ lw_tbl := (tb_3 _ (List.mem_of_getElem? (i := 207) rfl))
set_option maxRecDepth 20000 in
theorem lq_9_26 : mm_lc 9 (1, 87, 103, 0) ∈ lw_tbl := (tb_3 _ (List.mem_of_getElem? (i := 208) rfl))
set_option maxRecDepth 20000 in
theorem lq_9_27 : mm_lc 9 (1, 90, 90, 0) ∈ lw_tbl := (tb_3 _ (List.mem_of_getElem? (i := 221) rfl))
set_option maxRecDepth 20000 in
theorem lq_9_28 : mm_lc 9 (0, 94, 5, 0) ∈ lw_tbl := (tb_2 _ (List.mem_of_getElem? (i := 77) rfl))
set_option maxRecDepth 20000 in
theorem lq_9_29 : mm_lc 9 (1, 99, 53, 0) ∈ lw_tbl := (tb_3 _ (List.mem_of_getElem? (i := 212) rfl))
set_option maxRecDepth 20000 in
theorem lq_9_30 : mm_lc 9 (1, 103, 44, 0) ∈ lw_tbl := (tb_3 _ (List.mem_of_getElem? (i := 213) rfl))
set_option maxRecDepth 20000 in
theorem lq_9_31 : mm_lc 9 (0, 106, 1, 3) ∈ lw_tbl := (tb_1 _ (List.mem_of_getElem? (i := 129) rfl))
set_option maxRecDepth 20000 in
theorem lq_9_32 : mm_lc 9 (1, 111, 52, 0) ∈ lw_tbl := (tb_3 _ (List.mem_of_getElem? (i := 217) rfl))
set_option maxRecDepth 20000 in
theorem lq_9_33 : mm_lc 9 (1, 114, 43, 0) ∈ lw_tbl := (tb_3 _ (List.mem_of_getElem? (i := 218) rfl))
set_option maxRecDepth 20000 in
theorem lq_9_34 : mm_lc 9 (0, 117, 5, 7) ∈ lw_tbl := (tb_2 _ (List.mem_of_getElem? (i := 94) rfl))
set_option maxRecDepth 20000 in
theorem lq_9_35 : mm_lc 9 (1, 120, 47, 0) ∈ lw_tbl := (tb_3 _ (List.mem_of_getElem? (i := 219) rfl))
set_option maxRecDepth 20000 in
theorem lq_9_36 : mm_lc 9 (1, 123, 88, 0) ∈ lw_tbl := (tb_3 _ (List.mem_of_getElem? (i := 220) rfl))
set_option maxRecDepth 20000 in
theorem lq_9_37 : mm_lc 9 (0, 127, 8, 9) ∈ lw_tbl := (tb_1 _ (List.mem_of_getElem? (i := 51) rfl))
set_option maxRecDepth 20000 in
theorem lq_9_38 : mm_lc 9 (1, 130, 85, 0) ∈ lw_tbl := (tb_3 _ (List.mem_of_getElem? (i := 226) rfl))
set_option maxRecDepth 20000 in
theorem lq_9_39 : mm_lc 9 (0, 133, 9, 8) ∈ lw_tbl := (tb_1 _ (List.mem_of_getElem? (i := 190) rfl))
set_option maxRecDepth 20000 in
theorem lq_9_40 : mm_lc 9 (0, 136, 9, 9) ∈ lw_tbl := (tb_1 _ (List.mem_of_getElem? (i := 192) rfl))
set_option maxRecDepth 20000 in
theorem lq_9_41 : mm_lc 9 (0, 139, 9, 10) ∈ lw_tbl := (tb_1 _ (List.mem_of_getElem? (i := 194) rfl))
set_option maxRecDepth 20000 in
theorem lq_9_42 : mm_lc 9 (1, 143, 107, 0) ∈ lw_tbl := (tb_4 _ (List.mem_of_getElem? (i := 9) rfl))
set_option maxRecDepth 20000 in
theorem lq_9_43 : mm_lc 9 (1, 147, 108, 0) ∈ lw_tbl := (tb_4 _ (List.mem_of_getElem? (i := 13) rfl))
set_option maxRecDepth 20000 in
theorem lq_9_44 : mm_lc 9 (11, 151, 0, 0) ∈ lw_tbl := (tb_4 _ (List.mem_of_getElem? (i := 29) rfl))
set_option maxRecDepth 20000 in
theorem lq_9_45 : mm_lc 9 (1, 157, 28, 0) ∈ lw_tbl := (tb_4 _ (List.mem_of_getElem? (i := 17) rfl))
set_option maxRecDepth 20000 in
theorem lk_in_9 : ∀ d ∈ ln_9, mm_lc 9 d ∈ lw_tbl := (List.forall_mem_cons.mpr ⟨lq_9_0, (List.forall_mem_cons.mpr ⟨lq_9_1, (List.forall_mem_cons.mpr ⟨lq_9_2, (List.forall_mem_cons.mpr ⟨lq_9_3, (List.forall_mem_cons.mpr ⟨lq_9_4, (List.forall_mem_cons.mpr ⟨lq_9_5, (List.forall_mem_cons.mpr ⟨lq_9_6, (List.forall_mem_cons.mpr ⟨lq_9_7, (List.forall_mem_cons.mpr ⟨lq_9_8, (List.forall_mem_cons.mpr ⟨lq_9_9, (List.forall_mem_cons.mpr ⟨lq_9_10, (List.forall_mem_cons.mpr ⟨lq_9_11, (List.forall_mem_cons.mpr ⟨lq_9_12, (List.forall_mem_cons.mpr ⟨lq_9_13, (List.forall_mem_cons.mpr ⟨lq_9_14, (List.forall_mem_cons.mpr ⟨lq_9_15, (List.forall_mem_cons.mpr ⟨lq_9_16, (List.forall_mem_cons.mpr ⟨lq_9_17, (List.forall_mem_cons.mpr ⟨lq_9_18, (List.forall_mem_cons.mpr ⟨lq_9_19, (List.forall_mem_cons.mpr ⟨lq_9_20, (List.forall_mem_cons.mpr ⟨lq_9_21, (List.forall_mem_cons.mpr ⟨lq_9_22, (List.forall_mem_cons.mpr ⟨lq_9_23, (List.forall_mem_cons.mpr ⟨lq_9_24, (List.forall_mem_cons.mpr ⟨lq_9_25, (List.forall_mem_cons.mpr ⟨lq_9_26, (List.forall_mem_cons.mpr ⟨lq_9_27, (List.forall_mem_cons.mpr ⟨lq_9_28, (List.forall_mem_cons.mpr ⟨lq_9_29, (List.forall_mem_cons.mpr ⟨lq_9_30, (List.forall_mem_cons.mpr ⟨lq_9_31, (List.forall_mem_cons.mpr ⟨lq_9_32, (List.forall_mem_cons.mpr ⟨lq_9_33, (List.forall_mem_cons.mpr ⟨lq_9_34, (List.forall_mem_cons.mpr ⟨lq_9_35, (List.forall_mem_cons.mpr ⟨lq_9_36, (List.forall_mem_cons.mpr ⟨lq_9_37, (List.forall_mem_cons.mpr ⟨lq_9_38, (List.forall_mem_cons.mpr ⟨lq_9_39, (List.forall_mem_cons.mpr ⟨lq_9_40, (List.forall_mem_cons.mpr ⟨lq_9_41, (List.forall_mem_cons.mpr ⟨lq_9_42, (List.forall_mem_cons.mpr ⟨lq_9_43, (List.forall_mem_cons.mpr ⟨lq_9_44, (List.forall_mem_cons.mpr ⟨lq_9_45, (fun _ h => absurd h List.not_mem_nil)⟩)⟩)⟩)⟩)⟩)⟩)⟩)⟩)⟩)⟩)⟩)⟩)⟩)⟩)⟩)⟩)⟩)⟩)⟩)⟩)⟩)⟩)⟩)⟩)⟩)⟩)⟩)⟩)⟩)⟩)⟩)⟩)⟩)⟩)⟩)⟩)⟩)⟩)⟩)⟩)⟩)⟩)⟩)⟩)⟩)⟩)
set_option maxRecDepth 20000 in
theorem lq_10_0 : mm_lc 10 (5, 1, 0, 0) ∈ lw_tbl := (tb_1 _ (List.mem_of_getElem? (i := 26) rfl))
set_option maxRecDepth 20000 in
theorem lq_10_1 : mm_lc 10 (2, 7, 8, 0) ∈ lw_tbl := (tb_1 _ (List.mem_of_getElem? (i := 29) rfl))
set_option maxRecDepth 20000 in
theorem lq_10_2 : mm_lc 10 (0, 10, 10, 0) ∈ lw_tbl := (tb_2 _ (List.mem_of_getElem? (i := 164) rfl))
set_option maxRecDepth 20000 in
theorem lq_10_3 : mm_lc 10 (2, 16, 3, 0) ∈ lw_tbl := (tb_1 _ (List.mem_of_getElem? (i := 85) rfl))
set_option maxRecDepth 20000 in
theorem lq_10_4 : mm_lc 10 (0, 19, 10, 1) ∈ lw_tbl := (tb_2 _ (List.mem_of_getElem? (i := 165) rfl))
set_option maxRecDepth 20000 in
theorem lq_10_5 : mm_lc 10 (2, 23, 1, 0) ∈ lw_tbl := (tb_1 _ (List.mem_of_getElem? (i := 112) rfl))
set_option maxRecDepth 20000 in
theorem lq_10_6 : mm_lc 10 (0, 26, 10, 2) ∈ lw_tbl := (tb_2 _ (List.mem_of_getElem? (i := 166) rfl))
set_option maxRecDepth 20000 in
theorem lq_10_7 : mm_lc 10 (2, 30, 4, 0) ∈ lw_tbl := (tb_1 _ (List.mem_of_getElem? (i := 146) rfl))
set_option maxRecDepth 20000 in
theorem lq_10_8 : mm_lc 10 (0, 33, 10, 3) ∈ lw_tbl := (tb_2 _ (List.mem_of_getElem? (i := 167) rfl))
set_option maxRecDepth 20000 in
theorem lq_10_9 : mm_lc 10 (2, 37, 9, 0) ∈ lw_tbl := (tb_1 _ (List.mem_of_getElem? (i := 176) rfl))
set_option maxRecDepth 20000 in
theorem lq_10_10 : mm_lc 10 (0, 40, 10, 4) ∈ lw_tbl := (tb_2 _ (List.mem_of_getElem? (i := 168) rfl))
set_option maxRecDepth 20000 in
theorem lq_10_11 : mm_lc 10 (2, 44, 0, 0) ∈ lw_tbl := (tb_1 _ (List.mem_of_getElem? (i := 218) rfl))
set_option maxRecDepth 20000 in
theorem lq_10_12 : mm_lc 10 (0, 47, 10, 5) ∈ lw_tbl := (tb_2 _ (List.mem_of_getElem? (i := 169) rfl))
set_option maxRecDepth 20000 in
theorem lq_10_13 : mm_lc 10 (2, 51, 2, 0) ∈ lw_tbl := (tb_2 _ (List.mem_of_getElem? (i := 0) rfl))
set_option maxRecDepth 20000 in
theorem lq_10_14 : mm_lc 10 (0, 54, 10, 6) ∈ lw_tbl := (tb_2 _ (List.mem_of_getElem? (i := 170) rfl))
set_option maxRecDepth 20000 in
theorem lq_10_15 : mm_lc 10 (2, 58, 7, 0) ∈ lw_tbl := (tb_2 _ (List.mem_of_getElem? (i := 31) rfl))
set_option maxRecDepth 20000 in
theorem lq_10_16 : mm_lc 10 (0, 61, 10, 7) ∈ lw_tbl := (tb_2 _ (List.mem_of_getElem? (i := 171) rfl))
set_option maxRecDepth 20000 in
theorem lq_10_17 : mm_lc 10 (2, 65, 5, 0) ∈ lw_tbl := (tb_2 _ (List.mem_of_getElem? (i := 69) rfl))
set_option maxRecDepth 20000 in
theorem lq_10_18 : mm_lc 10 (0, 68, 10, 8) ∈ lw_tbl := (tb_2 _ (List.mem_of_getElem? (i := 172) rfl))
set_option maxRecDepth 20000 in
theorem lq_10_19 : mm_lc 10 (0, 72, 10, 9) ∈ lw_tbl := (tb_2 _ (List.mem_of_getElem? (i := 173) rfl))
set_option maxRecDepth 20000 in
theorem lq_10_20 : mm_lc 10 (2, 75, 6, 0) ∈ lw_tbl := (tb_2 _ (List.mem_of_getElem? (i := 138) rfl))
set_option maxRecDepth 20000 in
theorem lq_10_21 : mm_lc 10 (0, 78, 10, 10) ∈ lw_tbl := (tb_2 _ (List.mem_of_getElem? (i := 174) rfl))
set_option maxRecDepth 20000 in
theorem lq_10_22 : mm_lc 10 (0, 82, 10, 11) ∈ lw_tbl := (tb_2 _ (List.mem_of_getElem? (i := 175) rfl))
set_option maxRecDepth 20000 in
theorem lq_10_23 : mm_lc 10 (0, 85, 10, 12) ∈ lw_tbl := (tb_2 _ (List.mem_of_getElem? (i := 176) rfl))
set_option maxRecDepth 20000 in
theorem lq_10_24 : mm_lc 10 (0, 89, 8, 1) ∈ lw_tbl := (tb_1 _ (List.mem_of_getElem? (i := 36) rfl))
set_option maxRecDepth 20000 in
theorem lq_10_25 : mm_lc 10 (1, 92, 77, 0) ∈ lw_tbl := (tb_2 _ (List.mem_of_getElem? (i := 208) rfl))
set_option maxRecDepth 20000 in
theorem lq_10_26 : mm_lc 10 (1, 96, 78, 0) ∈ lw_tbl := (tb_2 _ (List.mem_of_getElem? (i := 216) rfl))
set_option maxRecDepth 20000 in
theorem lq_10_27 : mm_lc 10 (1, 100, 30, 0) ∈ lw_tbl := (tb_3 _ (List.mem_of_getElem? (i := 27) rfl))
set_option maxRecDepth 20000 in
theorem lq_10_28 : mm_lc 10 (0, 104, 3, 0) ∈ lw_tbl := (tb_1 _ (List.mem_of_getElem? (i := 92) rfl))
set_option maxRecDepth 20000 in
theorem lq_10_29 : mm_lc 10 (1, 107, 56, 0) ∈ lw_tbl := (tb_3 _ (List.mem_of_getElem? (i := 130) rfl))
set_option maxRecDepth 20000 in
theorem lq_10_30 : mm_lc 10 (1, 110, 22, 0) ∈ lw_tbl := (tb_3 _ (List.mem_of_getElem? (i := 134) rfl))
set_option maxRecDepth 20000 in
theorem lq_10_31 : mm_lc 10 (0, 111, 5, 1) ∈ lw_tbl := (tb_2 _ (List.mem_of_getElem? (i := 79) rfl))
set_option maxRecDepth 20000 in
theorem lq_10_32 : mm_lc 10 (1, 114, 142, 0) ∈ lw_tbl := (tb_3 _ (List.mem_of_getElem? (i := 142) rfl))
set_option maxRecDepth 20000 in
theorem lq_10_33 : mm_lc 10 (1, 117, 98, 0) ∈ lw_tbl := (tb_3 _ (List.mem_of_getElem? (i := 176) rfl))
set_option maxRecDepth 20000 in
theorem lq_10_34 : mm_lc 10 (0, 120, 5, 0) ∈ lw_tbl := (tb_2 _ (List.mem_of_getElem? (i := 76) rfl))
set_option maxRecDepth 20000 in
theorem lq_10_35 : mm_lc 10 (1, 123, 24, 0) ∈ lw_tbl := (tb_3 _ (List.mem_of_getElem? (i := 238) rfl))
set_option maxRecDepth 20000 in
theorem lq_10_36 : mm_lc 10 (1, 127, 106, 0) ∈ lw_tbl := (tb_4 _ (List.mem_of_getElem? (i := 5) rfl))
set_option maxRecDepth 20000 in
theorem lq_10_37 : mm_lc 10 (1, 131, 57, 0) ∈ lw_tbl := (tb_4 _ (List.mem_of_getElem? (i := 34) rfl))
set_option maxRecDepth 20000 in
theorem lq_10_38 : mm_lc 10 (0, 134, 6, 4) ∈ lw_tbl := (tb_2 _ (List.mem_of_getElem? (i := 149) rfl))
set_option maxRecDepth 20000 in
theorem lq_10_39 : mm_lc 10 (0, 137, 8, 10) ∈ lw_tbl := (tb_1 _ (List.mem_of_getElem? (i := 55) rfl))
set_option maxRecDepth 20000 in
theorem lq_10_40 : mm_lc 10 (0, 140, 8, 11) ∈ lw_tbl := (tb_1 _ (List.mem_of_getElem? (i := 57) rfl))
set_option maxRecDepth 20000 in
theorem lq_10_41 : mm_lc 10 (1, 143, 52, 0) ∈ lw_tbl := (tb_4 _ (List.mem_of_getElem? (i := 88) rfl))
set_option maxRecDepth 20000 in
theorem lq_10_42 : mm_lc 10 (1, 147, 53, 0) ∈ lw_tbl := (tb_4 _ (List.mem_of_getElem? (i := 89) rfl))
set_option maxRecDepth 20000 in
theorem lq_10_43 : mm_lc 10 (1, 178, 49, 0) ∈ lw_tbl := (tb_4 _ (List.mem_of_getElem? (i := 94) rfl))
set_option maxRecDepth 20000 in
theorem lq_10_44 : mm_lc 10 (1, 182, 139, 0) ∈ lw_tbl := (tb_4 _ (List.mem_of_getElem? (i := 99) rfl))
set_option maxRecDepth 20000 in
theorem lq_10_45 : mm_lc 10 (1, 185, 44, 0) ∈ lw_tbl := (tb_4 _ (List.mem_of_getElem? (i := 103) rfl))
set_option maxRecDepth 20000 in
theorem lq_10_46 : mm_lc 10 (1, 188, 141, 0) ∈ lw_tbl := (tb_4 _ (List.mem_of_getElem? (i := 104) rfl))
set_option maxRecDepth 20000 in
theorem lq_10_47 : mm_lc 10 (0, 191, 1, 3) ∈ lw_tbl := (tb_1 _ (List.mem_of_getElem? (i := 130) rfl))
set_option maxRecDepth 20000 in
theorem lq_10_48 : mm_lc 10 (1, 195, 23, 0) ∈ lw_tbl := (tb_4 _ (List.mem_of_getElem? (i := 112) rfl))
set_option maxRecDepth 20000 in
theorem lq_10_49 : mm_lc 10 (1, 198, 140, 0) ∈ lw_tbl := (tb_4 _ (List.mem_of_getElem? (i := 117) rfl))
set_option maxRecDepth 20000 in
theorem lq_10_50 : mm_lc 10 (1, 201, 46, 0) ∈ lw_tbl := (tb_4 _ (List.mem_of_getElem? (i := 121) rfl))
set_option maxRecDepth 20000 in
theorem lq_10_51 : mm_lc 10 (1, 205, 20, 0) ∈ lw_tbl := (tb_4 _ (List.mem_of_getElem? (i := 122) rfl))
set_option maxRecDepth 20000 in
theorem lq_10_52 : mm_lc 10 (1, 209, 50, 0) ∈ lw_tbl := (tb_4 _ (List.mem_of_getElem? (i := 138) rfl))
set_option maxRecDepth 20000 in
theorem lq_10_53 : mm_lc 10 (24, 212, 1, 0) ∈ lw_tbl := (tb_4 _ (List.mem_of_getElem? (i := 156) rfl))
set_option maxRecDepth 20000 in
theorem lq_10_54 : mm_lc 10 (0, 214, 1, 0) ∈ lw_tbl := (tb_1 _ (List.mem_of_getElem? (i := 122) rfl))
set_option maxRecDepth 20000 in
theorem lq_10_55 : mm_lc 10 (1, 150, 43, 0) ∈ lw_tbl := (tb_4 _ (List.mem_of_getElem? (i := 161) rfl))
set_option maxRecDepth 20000 in
theorem lq_10_56 : mm_lc 10 (1, 217, 45, 0) ∈ lw_tbl := (tb_4 _ (List.mem_of_getElem? (i := 162) rfl))
set_option maxRecDepth 20000 in
theorem lq_10_57 : mm_lc 10 (0, 220, 1, 1) ∈ lw_tbl := (tb_1 _ (List.mem_of_getElem? (i := 124) rfl))
set_option maxRecDepth 20000 in
theorem lq_10_58 : mm_lc 10 (1, 223, 51, 0) ∈ lw_tbl := (tb_4 _ (List.mem_of_getElem? (i := 163) rfl))
set_option maxRecDepth 20000 in
theorem lq_10_59 : mm_lc 10 (1, 226, 12, 0) ∈ lw_tbl := (tb_4 _ (List.mem_of_getElem? (i := 167) rfl))
set_option maxRecDepth 20000 in
theorem lq_10_60 : mm_lc 10 (0, 230, 4, 4) ∈ lw_tbl := (tb_1 _ (List.mem_of_getElem? (i := 164) rfl))
set_option maxRecDepth 20000 in
theorem lq_10_61 : mm_lc 10 (1, 233, 143, 0) ∈ lw_tbl := (tb_4 _ (List.mem_of_getElem? (i := 183) rfl))
set_option maxRecDepth 20000 in
theorem lq_10_62 : mm_lc 10 (0, 236, 4, 1) ∈ lw_tbl := (tb_1 _ (List.mem_of_getElem? (i := 159) rfl))
set_option maxRecDepth 20000 in
theorem lq_10_63 : mm_lc 10 (0, 239, 4, 0) ∈ lw_tbl := (tb_1 _ (List.mem_of_getElem? (i := 156) rfl))
set_option maxRecDepth 20000 in
theorem lq_10_64 : mm_lc 10 (1, 243, 144, 0) ∈ lw_tbl := (tb_4 _ (List.mem_of_getElem? (i := 190) rfl))
set_option maxRecDepth 20000 in
theorem lq_10_65 : mm_lc 10 (1, 246, 27, 0) ∈ lw_tbl := (tb_4 _ (List.mem_of_getElem? (i := 191) rfl))
set_option maxRecDepth 20000 in
theorem lq_10_66 : mm_lc 10 (1, 250, 65, 0) ∈ lw_tbl := (tb_4 _ (List.mem_of_getElem? (i := 203) rfl))
set_option maxRecDepth 20000 in
theorem lq_10_67 : mm_lc 10 (0, 254, 5, 11) ∈ lw_tbl := (tb_2 _ (List.mem_of_getElem? (i := 108) rfl))
set_option maxRecDepth 20000 in
theorem lq_10_68 : mm_lc 10 (0, 170, 5, 9) ∈ lw_tbl := (tb_2 _ (List.mem_of_getElem? (i := 101) rfl))
set_option maxRecDepth 20000 in
theorem lq_10_69 : mm_lc 10 (1, 257, 47, 0) ∈ lw_tbl := (tb_4 _ (List.mem_of_getElem? (i := 230) rfl))
set_option maxRecDepth 20000 in
theorem lq_10_70 : mm_lc 10 (1, 260, 145, 0) ∈ lw_tbl := (tb_4 _ (List.mem_of_getElem? (i := 231) rfl))
set_option maxRecDepth 20000 in
theorem lq_10_71 : mm_lc 10 (1, 263, 13, 0) ∈ lw_tbl := (tb_4 _ (List.mem_of_getElem? (i := 234) rfl))
set_option maxRecDepth 20000 in
theorem lq_10_72 : mm_lc 10 (1, 266, 48, 0) ∈ lw_tbl := (tb_4 _ (List.mem_of_getElem? (i := 235) rfl))
set_option maxRecDepth 20000 in
theorem lq_10_73 : mm_lc 10 (1, 270, 247, 0) ∈ lw_tbl := (tb_4 _ (List.mem_of_getElem? (i := 239) rfl))
set_option maxRecDepth 20000 in
theorem lq_10_74 : mm_lc 10 (1, 276, 14, 0) ∈ lw_tbl := (tb_5 _ (List.mem_of_getElem? (i := 9) rfl))
set_option maxRecDepth 20000 in
theorem lq_10_75 : mm_lc 10 (1, 280, 2, 0) ∈ lw_tbl := (tb_5 _ (List.mem_of_getElem? (i := 14) rfl))
set_option maxRecDepth 20000 in
theorem lq_10_76 : mm_lc 10 (1, 284, 16, 0) ∈ lw_tbl := (tb_5 _ (List.mem_of_getElem? (i := 40) rfl))
set_option maxRecDepth 20000 in
theorem lq_10_77 : mm_lc 10 (1, 288, 18, 0) ∈ lw_tbl := (tb_5 _ (List.mem_of_getElem? (i := 53) rfl))
set_option maxRecDepth 20000 in
theorem lq_10_78 : mm_lc 10 (0, 291, 2, 4) ∈ lw_tbl := (tb_2 _ (List.mem_of_getElem? (i := 11) rfl))
set_option maxRecDepth 20000 in
theorem lq_10_79 : mm_lc 10 (0, 294, 2, 5) ∈ lw_tbl := (tb_2 _ (List.mem_of_getElem? (i := 13) rfl))
set_option maxRecDepth 20000 in
theorem lq_10_80 : mm_lc 10 (0, 297, 2, 6) ∈ lw_tbl := (tb_2 _ (List.mem_of_getElem? (i := 15) rfl))
set_option maxRecDepth 20000 in
theorem lq_10_81 : mm_lc 10 (1, 300, 69, 0) ∈ lw_tbl := (tb_5 _ (List.mem_of_getElem? (i := 62) rfl))
set_option maxRecDepth 20000 in
theorem lq_10_82 : mm_lc 10 (1, 304, 70, 0) ∈ lw_tbl := (tb_5 _ (List.mem_of_getElem? (i := 69) rfl))
set_option maxRecDepth 20000 in
theorem lq_10_83 : mm_lc 10 (1, 308, 71, 0) ∈ lw_tbl := (tb_5 _ (List.mem_of_getElem? (i := 78) rfl))
set_option maxRecDepth 20000 in
theorem lq_10_84 : mm_lc 10 (0, 312, 7, 8) ∈ lw_tbl := (tb_2 _ (List.mem_of_getElem? (i := 46) rfl))
set_option maxRecDepth 20000 in
theorem lq_10_85 : mm_lc 10 (0, 164, 5, 7) ∈ lw_tbl := (tb_2 _ (List.mem_of_getElem? (i := 95) rfl))
set_option maxRecDepth 20000 in
theorem lq_10_86 : mm_lc 10 (1, 315, 75, 0) ∈ lw_tbl := (tb_5 _ (List.mem_of_getElem? (i := 95) rfl))
set_option maxRecDepth 20000 in
theorem lq_10_87 : mm_lc 10 (0, 318, 5, 2) ∈ lw_tbl := (tb_2 _ (List.mem_of_getElem? (i := 81) rfl))
set_option maxRecDepth 20000 in
theorem lq_10_88 : mm_lc 10 (0, 321, 5, 3) ∈ lw_tbl := (tb_2 _ (List.mem_of_getElem? (i := 85) rfl))
set_option maxRecDepth 20000 in
theorem lq_10_89 : mm_lc 10 (0, 323, 9, 9) ∈ lw_tbl := (tb_1 _ (List.mem_of_getElem? (i := 193) rfl))
set_option maxRecDepth 20000 in
theorem lq_10_90 : mm_lc 10 (0, 324, 9, 8) ∈ lw_tbl := (tb_1 _ (List.mem_of_getElem? (i := 191) rfl))
set_option maxRecDepth 20000 in
theorem lq_10_91 : mm_lc 10 (1, 327, 8, 0) ∈ lw_tbl := (tb_3 _ (List.mem_of_getElem? (i := 146) rfl))
set_option maxRecDepth 20000 in
theorem lq_10_92 : mm_lc 10 (0, 160, 5, 6) ∈ lw_tbl := (tb_2 _ (List.mem_of_getElem? (i := 89) rfl))
set_option maxRecDepth 20000 in
theorem lq_10_93 : mm_lc 10 (0, 167, 5, 8) ∈ lw_tbl := (tb_2 _ (List.mem_of_getElem? (i := 97) rfl))
set_option maxRecDepth 20000 in
theorem lk_in_10 : ∀ d ∈ ln_10, mm_lc 10 d ∈ lw_tbl := (List.forall_mem_cons.mpr ⟨lq_10_0, (List.forall_mem_cons.mpr ⟨lq_10_1, (List.forall_mem_cons.mpr ⟨lq_10_2, (List.forall_mem_cons.mpr ⟨lq_10_3, (List.forall_mem_cons.mpr ⟨lq_10_4, (List.forall_mem_cons.mpr ⟨lq_10_5, (List.forall_mem_cons.mpr ⟨lq_10_6, (List.forall_mem_cons.mpr ⟨lq_10_7, (List.forall_mem_cons.mpr ⟨lq_10_8, (List.forall_mem_cons.mpr ⟨lq_10_9, (List.forall_mem_cons.mpr ⟨lq_10_10, (List.forall_mem_cons.mpr ⟨lq_10_11, (List.forall_mem_cons.mpr ⟨lq_10_12, (List.forall_mem_cons.mpr ⟨lq_10_13, (List.forall_mem_cons.mpr ⟨lq_10_14, (List.forall_mem_cons.mpr ⟨lq_10_15, (List.forall_mem_cons.mpr ⟨lq_10_16, (List.forall_mem_cons.mpr ⟨lq_10_17, (List.forall_mem_cons.mpr ⟨lq_10_18, (List.forall_mem_cons.mpr ⟨lq_10_19, (List.forall_mem_cons.mpr ⟨lq_10_20, (List.forall_mem_cons.mpr ⟨lq_10_21, (List.forall_mem_cons.mpr ⟨lq_10_22, (List.forall_mem_cons.mpr ⟨lq_10_23, (List.forall_mem_cons.mpr ⟨lq_10_24, (List.forall_mem_cons.mpr ⟨lq_10_25, (List.forall_mem_cons.mpr ⟨lq_10_26, (List.forall_mem_cons.mpr ⟨lq_10_27, (List.forall_mem_cons.mpr ⟨lq_10_28, (List.forall_mem_cons.mpr ⟨lq_10_29, (List.forall_mem_cons.mpr ⟨lq_10_30, (List.forall_mem_cons.mpr ⟨lq_10_31, (List.forall_mem_cons.mpr ⟨lq_10_32, (List.forall_mem_cons.mpr ⟨lq_10_33, (List.forall_mem_cons.mpr ⟨lq_10_34, (List.forall_mem_cons.mpr ⟨lq_10_35, (List.forall_mem_cons.mpr ⟨lq_10_36, (List.forall_mem_cons.mpr ⟨lq_10_37, (List.forall_mem_cons.mpr ⟨lq_10_38, (List.forall_mem_cons.mpr ⟨lq_10_39, (List.forall_mem_cons.mpr ⟨lq_10_40, (List.forall_mem_cons.mpr ⟨lq_10_41, (List.forall_mem_cons.mpr ⟨lq_10_42, (List.forall_mem_cons.mpr ⟨lq_10_43, (List.forall_mem_cons.mpr ⟨lq_10_44, (List.forall_mem_cons.mpr ⟨lq_10_45, (List.forall_mem_cons.mpr ⟨lq_10_46, (List.forall_mem_cons.mpr ⟨lq_10_47, (List.forall_mem_cons.mpr ⟨lq_10_48, (List.forall_mem_cons.mpr ⟨lq_10_49, (List.forall_mem_cons.mpr ⟨lq_10_50, (List.forall_mem_cons.mpr ⟨lq_10_51, (List.forall_mem_cons.mpr ⟨lq_10_52, (List.forall_mem_cons.mpr ⟨lq_10_53, (List.forall_mem_cons.mpr ⟨lq_10_54, (List.forall_mem_cons.mpr ⟨lq_10_55, (List.forall_mem_cons.mpr ⟨lq_10_56, (List.forall_mem_cons.mpr ⟨lq_10_57, (List.forall_mem_cons.mpr ⟨lq_10_58, (List.forall_mem_cons.mpr ⟨lq_10_59, (List.forall_mem_cons.mpr ⟨lq_10_60, (List.forall_mem_cons.mpr ⟨lq_10_61, (List.forall_mem_cons.mpr ⟨lq_10_62, (List.forall_mem_cons.mpr ⟨lq_10_63, (List.forall_mem_cons.mpr ⟨lq_10_64, (List.forall_mem_cons.mpr ⟨lq_10_65, (List.forall_mem_cons.mpr ⟨lq_10_66, (List.forall_mem_cons.mpr ⟨lq_10_67, (List.forall_mem_cons.mpr ⟨lq_10_68, (List.forall_mem_cons.mpr ⟨lq_10_69, (List.forall_mem_cons.mpr ⟨lq_10_70, (List.forall_mem_cons.mpr ⟨lq_10_71, (List.forall_mem_cons.mpr ⟨lq_10_72, (List.forall_mem_cons.mpr ⟨lq_10_73, (List.forall_mem_cons.mpr ⟨lq_10_74, (List.forall_mem_cons.mpr ⟨lq_10_75, (List.forall_mem_cons.mpr ⟨lq_10_76, (List.forall_mem_cons.mpr ⟨lq_10_77, (List.forall_mem_cons.mpr ⟨lq_10_78, (List.forall_mem_cons.mpr ⟨lq_10_79, (List.forall_mem_cons.mpr ⟨lq_10_80, (List.forall_mem_cons.mpr ⟨lq_10_81, (List.forall_mem_cons.mpr ⟨lq_10_82, (List.forall_mem_cons.mpr ⟨lq_10_83, (List.forall_mem_cons.mpr ⟨lq_10_84, (List.forall_mem_cons.mpr ⟨lq_10_85, (List.forall_mem_cons.mpr ⟨lq_10_86, (List.forall_mem_cons.mpr ⟨lq_10_87, (List.forall_mem_cons.mpr ⟨lq_10_88, (List.forall_mem_cons.mpr ⟨lq_10_89, (List.forall_mem_cons.mpr ⟨lq_10_90, (List.forall_mem_cons.mpr ⟨lq_10_91, (List.forall_mem_cons.mpr ⟨lq_10_92, (List.forall_mem_cons.mpr ⟨lq_10_93, (fun _ h => absurd h List.not_mem_nil)⟩)⟩)⟩)⟩)⟩)⟩)⟩)⟩)⟩)⟩)⟩)⟩)⟩)⟩)⟩)⟩)⟩)⟩)⟩)⟩)⟩)⟩)⟩)⟩)⟩)⟩)⟩)⟩)⟩)⟩)⟩)⟩)⟩)⟩)⟩)⟩)⟩)⟩)⟩)⟩)⟩)⟩)⟩)⟩)⟩)⟩)⟩)⟩)⟩)⟩)⟩)⟩)⟩)⟩)⟩)⟩)⟩)⟩)⟩)⟩)⟩)⟩)⟩)⟩)⟩)⟩)⟩)⟩)⟩)⟩)⟩)⟩)⟩)⟩)⟩)⟩)⟩)⟩)⟩)⟩)⟩)⟩)⟩)⟩)⟩)⟩)⟩)⟩)⟩)⟩)⟩)⟩)⟩)⟩)
set_option maxRecDepth 20000 in
theorem lq_11_0 : mm_lc 11 (5, 1, 0, 0) ∈ lw_tbl := (tb_5 _ (List.mem_of_getElem? (i := 199) rfl))
set_option maxRecDepth 20000 in
theorem lq_11_1 : mm_lc 11 (0, 7, 11, 0) ∈ lw_tbl := (tb_5 _ (List.mem_of_getElem? (i := 208) rfl))
set_option maxRecDepth 20000 in
theorem lq_11_2 : mm_lc 11 (0, 13, 11, 3) ∈ lw_tbl := (tb_5 _ (List.mem_of_getElem? (i := 211) rfl))
set_option maxRecDepth 20000 in
theorem lq_11_3 : mm_lc 11 (0, 16, 11, 5) ∈ lw_tbl := (tb_5 _ (List.mem_of_getElem? (i := 213) rfl))
set_option maxRecDepth 20000 in
theorem lq_11_4 : mm_lc 11 (0, 20, 11, 17) ∈ lw_tbl := (tb_5 _ (List.mem_of_getElem? (i := 225) rfl))
set_option maxRecDepth 20000 in
theorem lq_11_5 : mm_lc 11 (0, 23, 11, 18) ∈ lw_tbl := (tb_5 _ (List.mem_of_getElem? (i := 226) rfl))
set_option maxRecDepth 20000 in
theorem lq_11_6 : mm_lc 11 (0, 26, 11, 19) ∈ lw_tbl := (tb_5 _ (List.mem_of_getElem? (i := 227) rfl))
set_option maxRecDepth 20000 in
theorem lq_11_7 : mm_lc 11 (0, 29, 11, 20) ∈ lw_tbl := (tb_5 _ (List.mem_of_getElem? (i := 228) rfl))
set_option maxRecDepth 20000 in
theorem lq_11_8 : mm_lc 11 (0, 32, 11, 21) ∈ lw_tbl := (tb_5 _ (List.mem_of_getElem? (i := 229) rfl))
set_option maxRecDepth 20000 in
theorem lq_11_9 : mm_lc 11 (0, 35, 11, 22) ∈ lw_tbl := (tb_5 _ (List.mem_of_getElem? (i := 230) rfl))
set_option maxRecDepth 20000 in
theorem lq_11_10 : mm_lc 11 (0, 38, 11, 23) ∈ lw_tbl := (tb_5 _ (List.mem_of_getElem? (i := 231) rfl))
set_option maxRecDepth 20000 in
theorem lq_11_11 : mm_lc 11 (0, 41, 11, 24) ∈ lw_tbl := (tb_5 _ (List.mem_of_getElem? (i := 232) rfl))
set_option maxRecDepth 20000 in
theorem lq_11_12 : mm_lc 11 (0, 45, 11, 26) ∈ lw_tbl := (tb_5 _ (List.mem_of_getElem? (i := 234) rfl))
set_option maxRecDepth 20000 in
theorem lq_11_13 : mm_lc 11 (0, 48, 11, 27) ∈ lw_tbl := (tb_5 _ (List.mem_of_getElem? (i := 235) rfl))
set_option maxRecDepth 20000 in
theorem lq_11_14 : mm_lc 11 (0, 51, 11, 30) ∈ lw_tbl := (tb_5 _ (List.mem_of_getElem? (i := 238) rfl))
set_option maxRecDepth 20000 in
theorem lq_11_15 : mm_lc 11 (0, 54, 11, 31) ∈ lw_tbl := (tb_5 _ (List.mem_of_getElem? (i := 239) rfl))
set_option maxRecDepth 20000 in
theorem lq_11_16 : mm_lc 11 (0, 57, 11, 32) ∈ lw_tbl := (tb_6 _ (List.mem_of_getElem? (i := 0) rfl))
set_option maxRecDepth 20000 in
theorem lq_11_17 : mm_lc 11 (0, 60, 11, 33) ∈ lw_tbl := (tb_6 _ (List.mem_of_getElem? (i := 1) rfl))
set_option maxRecDepth 20000 in
theorem lq_11_18 : mm_lc 11 (0, 63, 11, 34) ∈ lw_tbl := (tb_6 _ (List.mem_of_getElem? (i := 2) rfl))
set_option maxRecDepth 20000 in
theorem lq_11_19 : mm_lc 11 (0, 67, 11, 35) ∈ lw_tbl := (tb_6 _ (List.mem_of_getElem? (i := 3) rfl))
set_option maxRecDepth 20000 in
theorem lq_11_20 : mm_lc 11 (0, 70, 11, 36) ∈ lw_tbl := (tb_6 _ (List.mem_of_getElem? (i := 4) rfl))
set_option maxRecDepth 20000 in
theorem lq_11_21 : mm_lc 11 (0, 73, 11, 37) ∈ lw_tbl := (tb_6 _ (List.mem_of_getElem? (i := 5) rfl))
set_option maxRecDepth 20000 in
theorem lq_11_22 : mm_lc 11 (0, 76, 11, 38) ∈ lw_tbl := (tb_6 _ (List.mem_of_getElem? (i := 6) rfl))
set_option maxRecDepth 20000 in
theorem lq_11_23 : mm_lc 11 (0, 79, 11, 39) ∈ lw_tbl := (tb_6 _ (List.mem_of_getElem? (i := 7) rfl))
set_option maxRecDepth 20000 in
theorem lq_11_24 : mm_lc 11 (0, 82, 11, 40) ∈ lw_tbl := (tb_6 _ (List.mem_of_getElem? (i := 8) rfl))
set_option maxRecDepth 20000 in
theorem lq_11_25 : mm_lc 11 (0, 85, 11, 45) ∈ lw_tbl := (tb_6 _ (List.mem_of_getElem? (i := 13) rfl))
set_option maxRecDepth 20000 in
theorem lq_11_26 : mm_lc 11 (0, 88, 11, 46) ∈ lw_tbl := (tb_6 _ (List.mem_of_getElem? (i := 14) rfl))
set_option maxRecDepth 20000 in
theorem lq_11_27 : mm_lc 11 (0, 91, 11, 47) ∈ lw_tbl := (tb_6 _ (List.mem_of_getElem? (i := 15) rfl))
set_option maxRecDepth 20000 in
theorem lq_11_28 : mm_lc 11 (0, 94, 11, 48) ∈ lw_tbl := (tb_6 _ (List.mem_of_getElem? (i := 16) rfl))
set_option maxRecDepth 20000 in
theorem lq_11_29 : mm_lc 11 (0, 97, 11, 49) ∈ lw_tbl := (tb_6 _ (List.mem_of_getElem? (i := 17) rfl))
set_option maxRecDepth 20000 in
theorem lq_11_30 : mm_lc 11 (0, 100, 11, 50) ∈ lw_tbl := (tb_6 _ (List.mem_of_getElem? (i := 18) rfl))
set_option maxRecDepth 20000 in
theorem lq_11_31 : mm_lc 11 (0, 103, 11, 51) ∈ lw_tbl := (tb_6 _ (List.mem_of_getElem? (i := 19) rfl))
set_option maxRecDepth 20000 in
theorem lq_11_32 : mm_lc 11 (0, 106, 11, 53) ∈ lw_tbl := (tb_6 _ (List.mem_of_getElem? (i := 21) rfl))
set_option maxRecDepth 20000 in
theorem lq_11_33 : mm_lc 11 (0, 109, 11, 54) ∈ lw_tbl := (tb_6 _ (List.mem_of_getElem? (i := 22) rfl))
set_option maxRecDepth 20000 in
theorem lq_11_34 : mm_lc 11 (0, 112, 11, 55) ∈ lw_tbl := (tb_6 _ (List.mem_of_getElem? (i := 23) rfl))
set_option maxRecDepth 20000 in
theorem lq_11_35 : mm_lc 11 (0, 115, 11, 56) ∈ lw_tbl := (tb_6 _ (List.mem_of_getElem? (i := 24) rfl))
set_option maxRecDepth 20000 in
theorem lq_11_36 : mm_lc 11 (0, 118, 11, 60) ∈ lw_tbl := (tb_6 _ (List.mem_of_getElem? (i := 28) rfl))
set_option maxRecDepth 20000 in
theorem lq_11_37 : mm_lc 11 (0, 121, 11, 61) ∈ lw_tbl := (tb_6 _ (List.mem_of_getElem? (i := 29) rfl))
set_option maxRecDepth 20000 in
theorem lq_11_38 : mm_lc 11 (0, 124, 11, 62) ∈ lw_tbl := (tb_6 _ (List.mem_of_getElem? (i := 30) rfl))
set_option maxRecDepth 20000 in
theorem lq_11_39 : mm_lc 11 (0, 127, 11, 63) ∈ lw_tbl := (tb_6 _ (List.mem_of_getElem? (i := 31) rfl))
set_option maxRecDepth 20000 in
theorem lq_11_40 : mm_lc 11 (0, 130, 11, 64) ∈ lw_tbl := (tb_6 _ (List.mem_of_getElem? (i := 32) rfl))
set_option maxRecDepth 20000 in
theorem lq_11_41 : mm_lc 11 (0, 133, 11, 70) ∈ lw_tbl := (tb_6 _ (List.mem_of_getElem? (i := 38) rfl))
set_option maxRecDepth 20000 in
theorem lq_11_42 : mm_lc 11 (0, 136, 11, 71) ∈ lw_tbl := (tb_6 _ (List.mem_of_getElem? (i := 39) rfl))
set_option maxRecDepth 20000 in
theorem lq_11_43 : mm_lc 11 (0, 139, 11, 72) ∈ lw_tbl := (tb_6 _ (List.mem_of_getElem? (i := 40) rfl))
set_option maxRecDepth 20000 in
theorem lq_11_44 : mm_lc 11 (0, 142, 11, 73) ∈ lw_tbl := (tb_6 _ (List.mem_of_getElem? (i := 41) rfl))
set_option maxRecDepth 20000 in
theorem lq_11_45 : mm_lc 11 (0, 145, 11, 74) ∈ lw_tbl := (tb_6 _ (List.mem_of_getElem? (i := 42) rfl))
set_option maxRecDepth 20000 in
theorem lq_11_46 : mm_lc 11 (0, 148, 11, 75) ∈ lw_tbl := (tb_6 _ (List.mem_of_getElem? (i := 43) rfl))
set_option maxRecDepth 20000 in
theorem lq_11_47 : mm_lc 11 (0, 151, 11, 76) ∈ lw_tbl := (tb_6 _ (List.mem_of_getElem? (i := 44) rfl))
set_option maxRecDepth 20000 in
theorem lq_11_48 : mm_lc 11 (0, 154, 11, 77) ∈ lw_tbl := (tb_6 _ (List.mem_of_getElem? (i := 45) rfl))
set_option maxRecDepth 20000 in
theorem lq_11_49 : mm_lc 11 (1, 157, 163, 0) ∈ lw_tbl := (tb_5 _ (List.mem_of_getElem? (i := 200) rfl))
set_option maxRecDepth 20000 in
theorem lq_11_50 : mm_lc 11 (1, 160, 164, 0) ∈ lw_tbl := (tb_5 _ (List.mem_of_getElem? (i := 204) rfl))
set_option maxRecDepth 20000 in
theorem lq_11_51 : mm_lc 11 (0, 163, 11, 2) ∈ lw_tbl := (tb_5 _ (List.mem_of_getElem? (i := 210) rfl))
set_option maxRecDepth 20000 in
theorem lq_11_52 : mm_lc 11 (0, 166, 11, 1) ∈ lw_tbl := (tb_5 _ (List.mem_of_getElem? (i := 209) rfl))
set_option maxRecDepth 20000 in
theorem lq_11_53 : mm_lc 11 (1, 169, 149, 0) ∈ lw_tbl := (tb_7 _ (List.mem_of_getElem? (i := 30) rfl))
set_option maxRecDepth 20000 in
theorem lq_11_54 : mm_lc 11 (0, 173, 11, 4) ∈ lw_tbl := (tb_5 _ (List.mem_of_getElem? (i := 212) rfl))
set_option maxRecDepth 20000 in
theorem lq_11_55 : mm_lc 11 (0, 176, 11, 10) ∈ lw_tbl := (tb_5 _ (List.mem_of_getElem? (i := 218) rfl))
set_option maxRecDepth 20000 in
theorem lq_11_56 : mm_lc 11 (0, 179, 11, 6) ∈ lw_tbl := (tb_5 _ (List.mem_of_getElem? (i := 214) rfl))
set_option maxRecDepth 20000 in
theorem lq_11_57 : mm_lc 11 (0, 182, 11, 7) ∈ lw_tbl := (tb_5 _ (List.mem_of_getElem? (i := 215) rfl))
set_option maxRecDepth 20000 in
theorem lq_11_58 : mm_lc 11 (0, 185, 11, 8) ∈ lw_tbl := (tb_5 _ (List.mem_of_getElem? (i := 216) rfl))
set_option maxRecDepth 20000 in
theorem lq_11_59 : mm_lc 11 (1, 188, 153, 0) ∈ lw_tbl := (tb_6 _ (List.mem_of_getElem? (i := 219) rfl))
set_option maxRecDepth 20000 in
theorem lq_11_60 : mm_lc 11 (1, 192, 152, 0) ∈ lw_tbl := (tb_6 _ (List.mem_of_getElem? (i := 223) rfl))
set_option maxRecDepth 20000 in
theorem lq_11_61 : mm_lc 11 (0, 196, 11, 9) ∈ lw_tbl := (tb_5 _ (List.mem_of_getElem? (i := 217) rfl))
set_option maxRecDepth 20000 in
theorem lq_11_62 : mm_lc 11 (1, 199, 156, 0) ∈ lw_tbl := (tb_6 _ (List.mem_of_getElem? (i := 227) rfl))
set_option maxRecDepth 20000 in
theorem lq_11_63 : mm_lc 11 (1, 202, 154, 0) ∈ lw_tbl := (tb_6 _ (List.mem_of_getElem? (i := 231) rfl))
set_option maxRecDepth 20000 in
theorem lq_11_64 : mm_lc 11 (1, 205, 158, 0) ∈ lw_tbl := (tb_7 _ (List.mem_of_getElem? (i := 33) rfl))
set_option maxRecDepth 20000 in
theorem lq_11_65 : mm_lc 11 (1, 208, 151, 0) ∈ lw_tbl := (tb_6 _ (List.mem_of_getElem? (i := 239) rfl))
set_option maxRecDepth 20000 in
theorem lq_11_66 : mm_lc 11 (1, 211, 155, 0) ∈ lw_tbl := (tb_6 _ (List.mem_of_getElem? (i := 215) rfl))
set_option maxRecDepth 20000 in
theorem lq_11_67 : mm_lc 11 (1, 214, 157, 0) ∈ lw_tbl := (tb_7 _ (List.mem_of_getElem? (i := 209) rfl))
set_option maxRecDepth 20000 in
theorem lq_11_68 : mm_lc 11 (0, 217, 11, 14) ∈ lw_tbl := (tb_5 _ (List.mem_of_getElem? (i := 222) rfl))
set_option maxRecDepth 20000 in
theorem lq_11_69 : mm_lc 11 (0, 220, 11, 15) ∈ lw_tbl := (tb_5 _ (List.mem_of_getElem? (i := 223) rfl))
set_option maxRecDepth 20000 in
theorem lq_11_70 : mm_lc 11 (0, 223, 11, 16) ∈ lw_tbl := (tb_5 _ (List.mem_of_getElem? (i := 224) rfl))
set_option maxRecDepth 20000 in
theorem lq_11_71 : mm_lc 11 (0, 226, 11, 25) ∈ lw_tbl := (tb_5 _ (List.mem_of_getElem? (i := 233) rfl))
set_option maxRecDepth 20000 in
theorem lq_11_72 : mm_lc 11 (0, 230, 11, 11) ∈ lw_tbl := (tb_5 _ (List.mem_of_getElem? (i := 219) rfl))
set_option maxRecDepth 20000 in
theorem lq_11_73 : mm_lc 11 (0, 233, 11, 12) ∈ lw_tbl := (tb_5 _ (List.mem_of_getElem? (i := 220) rfl))
set_option maxRecDepth 20000 in
theorem lq_11_74 : mm_lc 11 (0, 236, 11, 13) ∈ lw_tbl := (tb_5 _ (List.mem_of_getElem? (i := 221) rfl))
set_option maxRecDepth 20000 in
theorem lq_11_75 : mm_lc 11 (0, 239, 11, 28) ∈ lw_tbl := (tb_5 _ (List.mem_of_getElem? (i := 236) rfl))
set_option maxRecDepth 20000 in
theorem lq_11_76 : mm_lc 11 (0, 242, 11, 29) ∈ lw_tbl := (tb_5 _ (List.mem_of_getElem? (i := 237) rfl))
set_option maxRecDepth 20000 in
theorem lq_11_77 : mm_lc 11 (0, 245, 11, 58) ∈ lw_tbl := (tb_6 _ (List.mem_of_getElem? (i := 26) rfl))
set_option maxRecDepth 20000 in
theorem lq_11_78 : mm_lc 11 (0, 248, 11, 57) ∈ lw_tbl := (tb_6 _ (List.mem_of_getElem? (i := 25) rfl))
set_option maxRecDepth 20000 in
theorem lq_11_79 : mm_lc 11 (0, 252, 11, 41) ∈ lw_tbl := (tb_6 _ (List.mem_of_getElem? (i := 9) rfl))
set_option maxRecDepth 20000 in
theorem lq_11_80 : mm_lc 11 (1, 255, 165, 0) ∈ lw_tbl := (tb_7 _ (List.mem_of_getElem? (i := 19) rfl))
set_option maxRecDepth 20000 in
theorem lq_11_81 : mm_lc 11 (1, 259, 166, 0) ∈ lw_tbl := (tb_7 _ (List.mem_of_getElem? (i := 15) rfl))
set_option maxRecDepth 20000 in
theorem lq_11_82 : mm_lc 11 (1, 262, 168, 0) ∈ lw_tbl := (tb_7 _ (List.mem_of_getElem? (i := 11) rfl))
set_option maxRecDepth 20000 in
theorem lq_11_83 : mm_lc 11 (1, 266, 161, 0) ∈ lw_tbl := (tb_7 _ (List.mem_of_getElem? (i := 3) rfl))
set_option maxRecDepth 20000 in
theorem lq_11_84 : mm_lc 11 (1, 270, 167, 0) ∈ lw_tbl := (tb_7 _ (List.mem_of_getElem? (i := 23) rfl))
set_option maxRecDepth 20000 in
theorem lq_11_85 : mm_lc 11 (1, 274, 169, 0) ∈ lw_tbl := (tb_7 _ (List.mem_of_getElem? (i := 7) rfl))
set_option maxRecDepth 20000 in
theorem lq_11_86 : mm_lc 11 (1, 277, 170, 0) ∈ lw_tbl := (tb_7 _ (List.mem_of_getElem? (i := 26) rfl))
set_option maxRecDepth 20000 in
theorem lq_11_87 : mm_lc 11 (1, 280, 159, 0) ∈ lw_tbl := (tb_7 _ (List.mem_of_getElem? (i := 37) rfl))
set_option maxRecDepth 20000 in
theorem lq_11_88 : mm_lc 11 (1, 283, 162, 0) ∈ lw_tbl := (tb_6 _ (List.mem_of_getElem? (i := 211) rfl))
set_option maxRecDepth 20000 in
theorem lq_11_89 : mm_lc 11 (1, 286, 171, 0) ∈ lw_tbl := (tb_6 _ (List.mem_of_getElem? (i := 235) rfl))
set_option maxRecDepth 20000 in
theorem lq_11_90 : mm_lc 11 (1, 290, 174, 0) ∈ lw_tbl := (tb_7 _ (List.mem_of_getElem? (i := 49) rfl))
set_option maxRecDepth 20000 in
theorem lq_11_91 : mm_lc 11 (1, 293, 175, 0) ∈ lw_tbl := (tb_7 _ (List.mem_of_getElem? (i := 53) rfl))
set_option maxRecDepth 20000 in
theorem lq_11_92 : mm_lc 11 (1, 296, 177, 0) ∈ lw_tbl := (tb_7 _ (List.mem_of_getElem? (i := 61) rfl))
set_option maxRecDepth 20000 in
theorem lq_11_93 : mm_lc 11 (1, 299, 180, 0) ∈ lw_tbl := (tb_7 _ (List.mem_of_getElem? (i := 65) rfl))
set_option maxRecDepth 20000 in
theorem lq_11_94 : mm_lc 11 (1, 302, 178, 0) ∈ lw_tbl := (tb_7 _ (List.mem_of_getElem? (i := 77) rfl))
set_option maxRecDepth 20000 in
theorem lq_11_95 : mm_lc 11 (1, 305, 183, 0) ∈ lw_tbl := (tb_7 _ (List.mem_of_getElem? (i := 73) rfl))
set_option maxRecDepth 20000 in
theorem lq_11_96 : mm_lc 11 (1, 308, 182, 0) ∈ lw_tbl := (tb_7 _ (List.mem_of_getElem? (i := 81) rfl))
set_option maxRecDepth 20000 in
theorem lq_11_97 : mm_lc 11 (1, 311, 189, 0) ∈ lw_tbl := (tb_7 _ (List.mem_of_getElem? (i := 101) rfl))
set_option maxRecDepth 20000 in
theorem lq_11_98 : mm_lc 11 (24, 315, 1, 0) ∈ lw_tbl := (tb_7 _ (List.mem_of_getElem? (i := 105) rfl))
set_option maxRecDepth 20000 in
theorem lq_11_99 : mm_lc 11 (1, 317, 187, 0) ∈ lw_tbl := (tb_7 _ (List.mem_of_getElem? (i := 106) rfl))
set_option maxRecDepth 20000 in
theorem lq_11_100 : mm_lc 11 (1, 320, 185, 0) ∈ lw_tbl := (tb_7 _ (List.mem_of_getElem? (i := 89) rfl))
set_option maxRecDepth 20000 in
theorem lq_11_101 : mm_lc 11 (1, 323, 179, 0) ∈ lw_tbl := (tb_7 _ (List.mem_of_getElem? (i := 93) rfl))
set_option maxRecDepth 20000 in
theorem lq_11_102 : mm_lc 11 (1, 326, 188, 0) ∈ lw_tbl := (tb_7 _ (List.mem_of_getElem? (i := 97) rfl))
set_option maxRecDepth 20000 in
theorem lq_11_103 : mm_lc 11 (1, 329, 186, 0) ∈ lw_tbl := (tb_7 _ (List.mem_of_getElem? (i := 118) rfl))
set_option maxRecDepth 20000 in
theorem lq_11_104 : mm_lc 11 (1, 332, 190, 0) ∈ lw_tbl := (tb_7 _ (List.mem_of_getElem? (i := 122) rfl))
set_option maxRecDepth 20000 in
theorem lq_11_105 : mm_lc 11 (1, 336, 196, 0) ∈ lw_tbl := (tb_7 _ (List.mem_of_getElem? (i := 138) rfl))
set_option maxRecDepth 20000 in
theorem lq_11_106 : mm_lc 11 (1, 339, 150, 0) ∈ lw_tbl := (tb_7 _ (List.mem_of_getElem? (i := 142) rfl))
set_option maxRecDepth 20000 in
theorem lq_11_107 : mm_lc 11 (1, 343, 200, 0) ∈ lw_tbl := (tb_7 _ (List.mem_of_getElem? (i := 157) rfl))
set_option maxRecDepth 20000 in
theorem lq_11_108 : mm_lc 11 (1, 346, 204, 0) ∈ lw_tbl := (tb_7 _ (List.mem_of_getElem? (i := 173) rfl))
set_option maxRecDepth 20000 in
theorem lq_11_109 : mm_lc 11 (1, 349, 206, 0) ∈ lw_tbl := (tb_7 _ (List.mem_of_getElem? (i := 180) rfl))
set_option maxRecDepth 20000 in
theorem lq_11_110 : mm_lc 11 (3, 353, 33554431, 0) ∈ lw_tbl := (tb_7 _ (List.mem_of_getElem? (i := 204) rfl))
set_option maxRecDepth 20000 in
theorem lq_11_111 : mm_lc 11 (1, 354, 210, 0) ∈ lw_tbl := (tb_7 _ (List.mem_of_getElem? (i := 200) rfl))
set_option maxRecDepth 20000 in
theorem lq_11_112 : mm_lc 11 (1, 358, 160, 0) ∈ lw_tbl := (tb_7 _ (List.mem_of_getElem? (i := 205) rfl))
set_option maxRecDepth 20000 in
theorem lq_11_113 : mm_lc 11 (1, 361, 211, 0) ∈ lw_tbl := (tb_7 _ (List.mem_of_getElem? (i := 213) rfl))
set_option maxRecDepth 20000 in
theorem lq_11_114 : mm_lc 11 (0, 364, 11, 52) ∈ lw_tbl := (tb_6 _ (List.mem_of_getElem? (i := 20) rfl))
set_option maxRecDepth 20000 in
theorem lq_11_115 : mm_lc 11 (0, 367, 11, 44) ∈ lw_tbl := (tb_6 _ (List.mem_of_getElem? (i := 12) rfl))
set_option maxRecDepth 20000 in
theorem lq_11_116 : mm_lc 11 (1, 370, 212, 0) ∈ lw_tbl := (tb_7 _ (List.mem_of_getElem? (i := 196) rfl))
set_option maxRecDepth 20000 in
theorem lq_11_117 : mm_lc 11 (1, 373, 213, 0) ∈ lw_tbl := (tb_7 _ (List.mem_of_getElem? (i := 217) rfl))
set_option maxRecDepth 20000 in
theorem lq_11_118 : mm_lc 11 (1, 376, 209, 0) ∈ lw_tbl := (tb_7 _ (List.mem_of_getElem? (i := 229) rfl))
set_option maxRecDepth 20000 in
theorem lq_11_119 : mm_lc 11 (0, 380, 11, 42) ∈ lw_tbl := (tb_6 _ (List.mem_of_getElem? (i := 10) rfl))
set_option maxRecDepth 20000 in
theorem lq_11_120 : mm_lc 11 (0, 383, 11, 43) ∈ lw_tbl := (tb_6 _ (List.mem_of_getElem? (i := 11) rfl))
set_option maxRecDepth 20000 in
theorem lq_11_121 : mm_lc 11 (1, 386, 215, 0) ∈ lw_tbl := (tb_7 _ (List.mem_of_getElem? (i := 225) rfl))
set_option maxRecDepth 20000 in
theorem lq_11_122 : mm_lc 11 (1, 388, 216, 0) ∈ lw_tbl := (tb_7 _ (List.mem_of_getElem? (i := 233) rfl))
set_option maxRecDepth 20000 in
theorem lq_11_123 : mm_lc 11 (1, 391, 214, 0) ∈ lw_tbl := (tb_7 _ (List.mem_of_getElem? (i := 192) rfl))
set_option maxRecDepth 20000 in
theorem lq_11_124 : mm_lc 11 (1, 394, 217, 0) ∈ lw_tbl := (tb_7 _ (List.mem_of_getElem? (i := 221) rfl))
set_option maxRecDepth 20000 in
theorem lq_11_125 : mm_lc 11 (0, 397, 11, 59) ∈ lw_tbl := (tb_6 _ (List.mem_of_getElem? (i := 27) rfl))
set_option maxRecDepth 20000 in
theorem lq_11_126 : mm_lc 11 (0, 400, 11, 66) ∈ lw_tbl := (tb_6 _ (List.mem_of_getElem? (i := 34) rfl))
set_option maxRecDepth 20000 in
theorem lq_11_127 : mm_lc 11 (0, 403, 11, 65) ∈ lw_tbl := (tb_6 _ (List.mem_of_getElem? (i := 33) rfl))
set_option maxRecDepth 20000 in
theorem lq_11_128 : mm_lc 11 (1, 406, 219, 0) ∈ lw_tbl := (tb_8 _ (List.mem_of_getElem? (i := 17) rfl))
set_option maxRecDepth 20000 in
theorem lq_11_129 : mm_lc 11 (1, 409, 221, 0) ∈ lw_tbl := (tb_8 _ (List.mem_of_getElem? (i := 25) rfl))
set_option maxRecDepth 20000 in
theorem lq_11_130 : mm_lc 11 (1, 412, 220, 0) ∈ lw_tbl := (tb_8 _ (List.mem_of_getElem? (i := 9) rfl))
set_option maxRecDepth 20000 in
theorem lq_11_131 : mm_lc 11 (0, 416, 11, 69) ∈ lw_tbl := (tb_6 _ (List.mem_of_getElem? (i := 37) rfl))
set_option maxRecDepth 20000 in
theorem lq_11_132 : mm_lc 11 (0, 419, 11, 67) ∈ lw_tbl := (tb_6 _ (List.mem_of_getElem? (i := 35) rfl))
set_option maxRecDepth 20000 in
theorem lq_11_133 : mm_lc 11 (1, 422, 223, 0) ∈ lw_tbl := (tb_8 _ (List.mem_of_getElem? (i := 5) rfl))
set_option maxRecDepth 20000 in
theorem lq_11_134 : mm_lc 11 (0, 425, 11, 68) ∈ lw_tbl := (tb_6 _ (List.mem_of_getElem? (i := 36) rfl))
set_option maxRecDepth 20000 in
theorem lq_11_135 : mm_lc 11 (1, 428, 222, 0) ∈ lw_tbl := (tb_8 _ (List.mem_of_getElem? (i := 21) rfl))
set_option maxRecDepth 20000 in
theorem lq_11_136 : mm_lc 11 (1, 431, 224, 0) ∈ lw_tbl := (tb_8 _ (List.mem_of_getElem? (i := 1) rfl))
set_option maxRecDepth 20000 in
theorem lq_11_137 : mm_lc 11 (1, 434, 225, 0) ∈ lw_tbl := (tb_8 _ (List.mem_of_getElem? (i := 13) rfl))
set_option maxRecDepth 20000 in
theorem lq_11_138 : mm_lc 11 (1, 437, 148, 0) ∈ lw_tbl := (tb_8 _ (List.mem_of_getElem? (i := 33) rfl))
set_option maxRecDepth 20000 in
theorem lq_11_139 : mm_lc 11 (1, 441, 227, 0) ∈ lw_tbl := (tb_8 _ (List.mem_of_getElem? (i := 36) rfl))
set_option maxRecDepth 20000 in
theorem lq_11_140 : mm_lc 11 (1, 445, 229, 0) ∈ lw_tbl := (tb_8 _ (List.mem_of_getElem? (i := 44) rfl))
set_option maxRecDepth 20000 in
theorem lq_11_141 : mm_lc 11 (1, 448, 230, 0) ∈ lw_tbl := (tb_8 _ (List.mem_of_getElem? (i := 47) rfl))
set_option maxRecDepth 20000 in
theorem lq_11_142 : mm_lc 11 (1, 451, 231, 0) ∈ lw_tbl := (tb_8 _ (List.mem_of_getElem? (i := 51) rfl))
set_option maxRecDepth 20000 in
theorem lq_11_143 : mm_lc 11 (1, 454, 233, 0) ∈ lw_tbl := (tb_8 _ (List.mem_of_getElem? (i := 59) rfl))
set_option maxRecDepth 20000 in
theorem lq_11_144 : mm_lc 11 (1, 458, 235, 0) ∈ lw_tbl := (tb_8 _ (List.mem_of_getElem? (i := 67) rfl))
set_option maxRecDepth 20000 in
theorem lq_11_145 : mm_lc 11 (1, 461, 238, 0) ∈ lw_tbl := (tb_8 _ (List.mem_of_getElem? (i := 75) rfl))
set_option maxRecDepth 20000 in
theorem lq_11_146 : mm_lc 11 (1, 464, 239, 0) ∈ lw_tbl := (tb_8 _ (List.mem_of_getElem? (i := 79) rfl))
set_option maxRecDepth 20000 in
theorem lq_11_147 : mm_lc 11 (1, 467, 240, 0) ∈ lw_tbl := (tb_8 _ (List.mem_of_getElem? (i := 87) rfl))
set_option maxRecDepth 20000 in
theorem lq_11_148 : mm_lc 11 (1, 470, 242, 0) ∈ lw_tbl := (tb_8 _ (List.mem_of_getElem? (i := 95) rfl))
set_option maxRecDepth 20000 in
theorem lq_11_149 : mm_lc 11 (1, 473, 243, 0) ∈ lw_tbl := (tb_8 _ (List.mem_of_getElem? (i := 99) rfl))
set_option maxRecDepth 20000 in
theorem lk_in_11 : ∀ d ∈ ln_11, mm_lc 11 d ∈ lw_tbl := (List.forall_mem_cons.mpr ⟨lq_11_0, (List.forall_mem_cons.mpr ⟨lq_11_1, (List.forall_mem_cons.mpr ⟨lq_11_2, (List.forall_mem_cons.mpr ⟨lq_11_3, (List.forall_mem_cons.mpr ⟨lq_11_4, (List.forall_mem_cons.mpr ⟨lq_11_5, (List.forall_mem_cons.mpr ⟨lq_11_6, (List.forall_mem_cons.mpr ⟨lq_11_7, (List.forall_mem_cons.mpr ⟨lq_11_8, (List.forall_mem_cons.mpr ⟨lq_11_9, (List.forall_mem_cons.mpr ⟨lq_11_10, (List.forall_mem_cons.mpr ⟨lq_11_11, (List.forall_mem_cons.mpr ⟨lq_11_12, (List.forall_mem_cons.mpr ⟨lq_11_13, (List.forall_mem_cons.mpr ⟨lq_11_14, (List.forall_mem_cons.mpr ⟨lq_11_15, (List.forall_mem_cons.mpr ⟨lq_11_16, (List.forall_mem_cons.mpr ⟨lq_11_17, (List.forall_mem_cons.mpr ⟨lq_11_18, (List.forall_mem_cons.mpr ⟨lq_11_19, (List.forall_mem_cons.mpr ⟨lq_11_20, (List.forall_mem_cons.mpr ⟨lq_11_21, (List.forall_mem_cons.mpr ⟨lq_11_22, (List.forall_mem_cons.mpr ⟨lq_11_23, (List.forall_mem_cons.mpr ⟨lq_11_24, (List.forall_mem_cons.mpr ⟨lq_11_25, (List.forall_mem_cons.mpr ⟨lq_11_26, (List.forall_mem_cons.mpr ⟨lq_11_27, (List.forall_mem_cons.mpr ⟨lq_11_28, (List.forall_mem_cons.mpr ⟨lq_11_29, (List.forall_mem_cons.mpr ⟨lq_11_30, (List.forall_mem_cons.mpr ⟨lq_11_31, (List.forall_mem_cons.mpr ⟨lq_11_32, (List.forall_mem_cons.mpr ⟨lq_11_33, (List.forall_mem_cons.mpr ⟨lq_11_34, (List.forall_mem_cons.mpr ⟨lq_11_35, (List.forall_mem_cons.mpr ⟨lq_11_36, (List.forall_mem_cons.mpr ⟨lq_11_37, (List.forall_mem_cons.mpr ⟨lq_11_38, (List.forall_mem_cons.mpr ⟨lq_11_39, (List.forall_mem_cons.mpr ⟨lq_11_40, (List.forall_mem_cons.mpr ⟨lq_11_41, (List.forall_mem_cons.mpr ⟨lq_11_42, (List.forall_mem_cons.mpr ⟨lq_11_43, (List.forall_mem_cons.mpr ⟨lq_11_44, (List.forall_mem_cons.mpr ⟨lq_11_45, (List.forall_mem_cons.mpr ⟨lq_11_46, (List.forall_mem_cons.mpr ⟨lq_11_47, (List.forall_mem_cons.mpr ⟨lq_11_48, (List.forall_mem_cons.mpr ⟨lq_11_49, (List.forall_mem_cons.mpr ⟨lq_11_50, (List.forall_mem_cons.mpr ⟨lq_11_51, (List.forall_mem_cons.mpr ⟨lq_11_52, (List.forall_mem_cons.mpr ⟨lq_11_53, (List.forall_mem_cons.mpr ⟨lq_11_54, (List.forall_mem_cons.mpr ⟨lq_11_55, (List.forall_mem_cons.mpr ⟨lq_11_56, (List.forall_mem_cons.mpr ⟨lq_11_57, (List.forall_mem_cons.mpr ⟨lq_11_58, (List.forall_mem_cons.mpr ⟨lq_11_59, (List.forall_mem_cons.mpr ⟨lq_11_60, (List.forall_mem_cons.mpr ⟨lq_11_61, (List.forall_mem_cons.mpr ⟨lq_11_62, (List.forall_mem_cons.mpr ⟨lq_11_63, (List.forall_mem_cons.mpr ⟨lq_11_64, (List.forall_mem_cons.mpr ⟨lq_11_65, (List.forall_mem_cons.mpr ⟨lq_11_66, (List.forall_mem_cons.mpr ⟨lq_11_67, (List.forall_mem_cons.mpr ⟨lq_11_68, (List.forall_mem_cons.mpr ⟨lq_11_69, (List.forall_mem_cons.mpr ⟨lq_11_70, (List.forall_mem_cons.mpr ⟨lq_11_71, (List.forall_mem_cons.mpr ⟨lq_11_72, (List.forall_mem_cons.mpr ⟨lq_11_73, (List.forall_mem_cons.mpr ⟨lq_11_74, (List.forall_mem_cons.mpr ⟨lq_11_75, (List.forall_mem_cons.mpr ⟨lq_11_76, (List.forall_mem_cons.mpr ⟨lq_11_77, (List.forall_mem_cons.mpr ⟨lq_11_78, (List.forall_mem_cons.mpr ⟨lq_11_79, (List.forall_mem_cons.mpr ⟨lq_11_80, (List.forall_mem_cons.mpr ⟨lq_11_81, (List.forall_mem_cons.mpr ⟨lq_11_82, (List.forall_mem_cons.mpr ⟨lq_11_83, (List.forall_mem_cons.mpr ⟨lq_11_84, (List.forall_mem_cons.mpr ⟨lq_11_85, (List.forall_mem_cons.mpr ⟨lq_11_86, (List.forall_mem_cons.mpr ⟨lq_11_87, (List.forall_mem_cons.mpr ⟨lq_11_88, (List.forall_mem_cons.mpr ⟨lq_11_89, (List.forall_mem_cons.mpr ⟨lq_11_90, (List.forall_mem_cons.mpr ⟨lq_11_91, (List.forall_mem_cons.mpr ⟨lq_11_92, (List.forall_mem_cons.mpr ⟨lq_11_93, (List.forall_mem_cons.mpr ⟨lq_11_94, (List.forall_mem_cons.mpr ⟨lq_11_95, (List.forall_mem_cons.mpr ⟨lq_11_96, (List.forall_mem_cons.mpr ⟨lq_11_97, (List.forall_mem_cons.mpr ⟨lq_11_98, (List.forall_mem_cons.mpr ⟨lq_11_99, (List.forall_mem_cons.mpr ⟨lq_11_100, (List.forall_mem_cons.mpr ⟨lq_11_101, (List.forall_mem_cons.mpr ⟨lq_11_102, (List.forall_mem_cons.mpr ⟨lq_11_103, (List.forall_mem_cons.mpr ⟨lq_11_104, (List.forall_mem_cons.mpr ⟨lq_11_105, (List.forall_mem_cons.mpr ⟨lq_11_106, (List.forall_mem_cons.mpr ⟨lq_11_107, (List.forall_mem_cons.mpr ⟨lq_11_108, (List.forall_mem_cons.mpr ⟨lq_11_109, (List.forall_mem_cons.mpr ⟨lq_11_110, (List.forall_mem_cons.mpr ⟨lq_11_111, (List.forall_mem_cons.mpr ⟨lq_11_112, (List.forall_mem_cons.mpr ⟨lq_11_113, (List.forall_mem_cons.mpr ⟨lq_11_114, (List.forall_mem_cons.mpr ⟨lq_11_115, (List.forall_mem_cons.mpr ⟨lq_11_116, (List.forall_mem_cons.mpr ⟨lq_11_117, (List.forall_mem_cons.mpr ⟨lq_11_118, (List.forall_mem_cons.mpr ⟨lq_11_119, (List.forall_mem_cons.mpr ⟨lq_11_120, (List.forall_mem_cons.mpr ⟨lq_11_121, (List.forall_mem_cons.mpr ⟨lq_11_122, (List.forall_mem_cons.mpr ⟨lq_11_123, (List.forall_mem_cons.mpr ⟨lq_11_124, (List.forall_mem_cons.mpr ⟨lq_11_125, (List.forall_mem_cons.mpr ⟨lq_11_126, (List.forall_mem_cons.mpr ⟨lq_11_127, (List.forall_mem_cons.mpr ⟨lq_11_128, (List.forall_mem_cons.mpr ⟨lq_11_129, (List.forall_mem_cons.mpr ⟨lq_11_130, (List.forall_mem_cons.mpr ⟨lq_11_131, (List.forall_mem_cons.mpr ⟨lq_11_132, (List.forall_mem_cons.mpr ⟨lq_11_133, (List.forall_mem_cons.mpr ⟨lq_11_134, (List.forall_mem_cons.mpr ⟨lq_11_135, (List.forall_mem_cons.mpr ⟨lq_11_136, (List.forall_mem_cons.mpr ⟨lq_11_137, (List.forall_mem_cons.mpr ⟨lq_11_138, (List.forall_mem_cons.mpr ⟨lq_11_139, (List.forall_mem_cons.mpr ⟨lq_11_140, (List.forall_mem_cons.mpr ⟨lq_11_141, (List.forall_mem_cons.mpr ⟨lq_11_142, (List.forall_mem_cons.mpr ⟨lq_11_143, (List.forall_mem_cons.mpr ⟨lq_11_144, (List.forall_mem_cons.mpr ⟨lq_11_145, (List.forall_mem_cons.mpr ⟨lq_11_146, (List.forall_mem_cons.mpr ⟨lq_11_147, (List.forall_mem_cons.mpr ⟨lq_11_148, (List.forall_mem_cons.mpr ⟨lq_11_149, (fun _ h => absurd h List.not_mem_nil)⟩)⟩)⟩)⟩)⟩)⟩)⟩)⟩)⟩)⟩)⟩)⟩)⟩)⟩)⟩)⟩)⟩)⟩)⟩)⟩)⟩)⟩)⟩)⟩)⟩)⟩)⟩)⟩)⟩)⟩)⟩)⟩)⟩)⟩)⟩)⟩)⟩)⟩)⟩)⟩)⟩)⟩)⟩)⟩)⟩)⟩)⟩)⟩)⟩)⟩)⟩)⟩)⟩)⟩)⟩)⟩)⟩)⟩)⟩)⟩)⟩)⟩)⟩)⟩)⟩)⟩)⟩)⟩)⟩)⟩)⟩)⟩)⟩)⟩)⟩)⟩)⟩)⟩)⟩)⟩)⟩)⟩)⟩)⟩)⟩)⟩)⟩)⟩)⟩)⟩)⟩)⟩)⟩)⟩)⟩)⟩)⟩)⟩)⟩)⟩)⟩)⟩)⟩)⟩)⟩)⟩)⟩)⟩)⟩)⟩)⟩)⟩)⟩)⟩)⟩)⟩)⟩)⟩)⟩)⟩)⟩)⟩)⟩)⟩)⟩)⟩)⟩)⟩)⟩)⟩)⟩)⟩)⟩)⟩)⟩)⟩)⟩)⟩)⟩)⟩)⟩)⟩)⟩)⟩)⟩)⟩)⟩)⟩)⟩)⟩)
set_option maxRecDepth 20000 in
theorem lq_12_0 : mm_lc 12 (2, 8, 10, 0) ∈ lw_tbl := (tb_1 _ (List.mem_of_getElem? (i := 21) rfl))
set_option maxRecDepth 20000 in
theorem lq_12_1 : mm_lc 12 (1, 17, 109, 0) ∈ lw_tbl := (tb_1 _ (List.mem_of_getElem? (i := 23) rfl))
set_option maxRecDepth 20000 in
theorem lq_12_2 : mm_lc 12 (2, 18, 11, 0) ∈ lw_tbl := (tb_5 _ (List.mem_of_getElem? (i := 194) rfl))
set_option maxRecDepth 20000 in
theorem lq_12_3 : mm_lc 12 (1, 20, 146, 0) ∈ lw_tbl := (tb_5 _ (List.mem_of_getElem? (i := 196) rfl))
set_option maxRecDepth 20000 in
theorem lq_12_4 : mm_lc 12 (1, 21, 110, 0) ∈ lw_tbl := (tb_2 _ (List.mem_of_getElem? (i := 204) rfl))
set_option maxRecDepth 20000 in
theorem lq_12_5 : mm_lc 12 (1, 25, 147, 0) ∈ lw_tbl := (tb_6 _ (List.mem_of_getElem? (i := 203) rfl))
set_option maxRecDepth 20000 in
theorem lq_12_6 : mm_lc 12 (1, 26, 111, 0) ∈ lw_tbl := (tb_2 _ (List.mem_of_getElem? (i := 212) rfl))
set_option maxRecDepth 20000 in
theorem lq_12_7 : mm_lc 12 (1, 30, 172, 0) ∈ lw_tbl := (tb_6 _ (List.mem_of_getElem? (i := 207) rfl))
set_option maxRecDepth 20000 in
theorem lq_12_8 : mm_lc 12 (1, 31, 112, 0) ∈ lw_tbl := (tb_3 _ (List.mem_of_getElem? (i := 138) rfl))
set_option maxRecDepth 20000 in
theorem lq_12_9 : mm_lc 12 (1, 34, 218, 0) ∈ lw_tbl := (tb_7 _ (List.mem_of_getElem? (i := 188) rfl))
set_option maxRecDepth 20000 in
theorem lq_12_10 : mm_lc 12 (1, 35, 113, 0) ∈ lw_tbl := (tb_4 _ (List.mem_of_getElem? (i := 30) rfl))
set_option maxRecDepth 20000 in
theorem lq_12_11 : mm_lc 12 (1, 38, 226, 0) ∈ lw_tbl := (tb_7 _ (List.mem_of_getElem? (i := 237) rfl))
set_option maxRecDepth 20000 in
theorem lq_12_12 : mm_lc 12 (1, 39, 114, 0) ∈ lw_tbl := (tb_4 _ (List.mem_of_getElem? (i := 80) rfl))
set_option maxRecDepth 20000 in
theorem lq_12_13 : mm_lc 12 (1, 42, 173, 0) ∈ lw_tbl := (tb_7 _ (List.mem_of_getElem? (i := 41) rfl))
set_option maxRecDepth 20000 in
theorem lq_12_14 : mm_lc 12 (1, 43, 115, 0) ∈ lw_tbl := (tb_4 _ (List.mem_of_getElem? (i := 84) rfl))
set_option maxRecDepth 20000 in
theorem lq_12_15 : mm_lc 12 (1, 46, 176, 0) ∈ lw_tbl := (tb_7 _ (List.mem_of_getElem? (i := 45) rfl))
set_option maxRecDepth 20000 in
theorem lq_12_16 : mm_lc 12 (7, 47, 0, 0) ∈ lw_tbl := (tb_5 _ (List.mem_of_getElem? (i := 103) rfl))
set_option maxRecDepth 20000 in
theorem lq_12_17 : mm_lc 12 (1, 52, 181, 0) ∈ lw_tbl := (tb_7 _ (List.mem_of_getElem? (i := 57) rfl))
set_option maxRecDepth 20000 in
theorem lq_12_18 : mm_lc 12 (1, 53, 116, 0) ∈ lw_tbl := (tb_4 _ (List.mem_of_getElem? (i := 90) rfl))
set_option maxRecDepth 20000 in
theorem lq_12_19 : mm_lc 12 (1, 57, 184, 0) ∈ lw_tbl := (tb_7 _ (List.mem_of_getElem? (i := 69) rfl))
set_option maxRecDepth 20000 in
theorem lq_12_20 : mm_lc 12 (1, 58, 117, 0) ∈ lw_tbl := (tb_4 _ (List.mem_of_getElem? (i := 95) rfl))
set_option maxRecDepth 20000 in
theorem lq_12_21 : mm_lc 12 (1, 61, 191, 0) ∈ lw_tbl := (tb_7 _ (List.mem_of_getElem? (i := 85) rfl))
set_option maxRecDepth 20000 in
theorem lq_12_22 : mm_lc 12 (1, 62, 118, 0) ∈ lw_tbl := (tb_4 _ (List.mem_of_getElem? (i := 108) rfl))
set_option maxRecDepth 20000 in
theorem lq_12_23 : mm_lc 12 (1, 66, 192, 0) ∈ lw_tbl := (tb_7 _ (List.mem_of_getElem? (i := 110) rfl))
set_option maxRecDepth 20000 in
theorem lq_12_24 : mm_lc 12 (1, 67, 119, 0) ∈ lw_tbl := (tb_4 _ (List.mem_of_getElem? (i := 113) rfl))
set_option maxRecDepth 20000 in
theorem lq_12_25 : mm_lc 12 (1, 71, 193, 0) ∈ lw_tbl := (tb_7 _ (List.mem_of_getElem? (i := 114) rfl))
set_option maxRecDepth 20000 in
theorem lq_12_26 : mm_lc 12 (1, 72, 120, 0) ∈ lw_tbl := (tb_4 _ (List.mem_of_getElem? (i := 126) rfl))
set_option maxRecDepth 20000 in
theorem lq_12_27 : mm_lc 12 (1, 75, 194, 0) ∈ lw_tbl := (tb_7 _ (List.mem_of_getElem? (i := 126) rfl))
set_option maxRecDepth 20000 in
theorem lq_12_28 : mm_lc 12 (1, 76, 121, 0) ∈ lw_tbl := (tb_4 _ (List.mem_of_getElem? (i := 130) rfl))
set_option maxRecDepth 20000 in
theorem lq_12_29 : mm_lc 12 (1, 80, 195, 0) ∈ lw_tbl := (tb_7 _ (List.mem_of_getElem? (i := 130) rfl))
set_option maxRecDepth 20000 in
theorem lq_12_30 : mm_lc 12 (1, 81, 122, 0) ∈ lw_tbl := (tb_4 _ (List.mem_of_getElem? (i := 134) rfl))
set_option maxRecDepth 20000 in
theorem lq_12_31 : mm_lc 12 (1, 84, 197, 0) ∈ lw_tbl := (tb_7 _ (List.mem_of_getElem? (i := 134) rfl))
set_option maxRecDepth 20000 in
theorem lq_12_32 : mm_lc 12 (1, 85, 123, 0) ∈ lw_tbl := (tb_4 _ (List.mem_of_getElem? (i := 148) rfl))
set_option maxRecDepth 20000 in
theorem lq_12_33 : mm_lc 12 (1, 88, 198, 0) ∈ lw_tbl := (tb_7 _ (List.mem_of_getElem? (i := 145) rfl))
set_option maxRecDepth 20000 in
theorem lq_12_34 : mm_lc 12 (1, 89, 124, 0) ∈ lw_tbl := (tb_4 _ (List.mem_of_getElem? (i := 152) rfl))
set_option maxRecDepth 20000 in
theorem lq_12_35 : mm_lc 12 (1, 92, 199, 0) ∈ lw_tbl := (tb_7 _ (List.mem_of_getElem? (i := 149) rfl))
set_option maxRecDepth 20000 in
theorem lq_12_36 : mm_lc 12 (1, 93, 125, 0) ∈ lw_tbl := (tb_4 _ (List.mem_of_getElem? (i := 157) rfl))
set_option maxRecDepth 20000 in
theorem lq_12_37 : mm_lc 12 (1, 96, 201, 0) ∈ lw_tbl := (tb_7 _ (List.mem_of_getElem? (i := 153) rfl))
set_option maxRecDepth 20000 in
theorem lq_12_38 : mm_lc 12 (1, 97, 126, 0) ∈ lw_tbl := (tb_4 _ (List.mem_of_getElem? (i := 171) rfl))
set_option maxRecDepth 20000 in
theorem lq_12_39 : mm_lc 12 (1, 101, 202, 0) ∈ lw_tbl := (tb_7 _ (List.mem_of_getElem? (i := 161) rfl))
set_option maxRecDepth 20000 in
theorem lq_12_40 : mm_lc 12 (1, 102, 127, 0) ∈ lw_tbl := (tb_4 _ (List.mem_of_getElem? (i := 175) rfl))
set_option maxRecDepth 20000 in
theorem lq_12_41 : mm_lc 12 (1, 105, 203, 0) ∈ lw_tbl := (tb_7 _ (List.mem_of_getElem? (i := 165) rfl))
set_option maxRecDepth 20000 in
theorem lq_12_42 : mm_lc 12 (1, 106, 128, 0) ∈ lw_tbl := (tb_4 _ (List.mem_of_getElem? (i := 179) rfl))
set_option maxRecDepth 20000 in
theorem lq_12_43 : mm_lc 12 (1, 109, 205, 0) ∈ lw_tbl := (tb_7 _ (List.mem_of_getElem? (i := 169) rfl))
set_option maxRecDepth 20000 in
theorem lq_12_44 : mm_lc 12 (4, 110, 4294967295, 0) ∈ lw_tbl := (tb_8 _ (List.mem_of_getElem? (i := 107) rfl))
set_option maxRecDepth 20000 in
theorem lq_12_45 : mm_lc 12 (1, 112, 129, 0) ∈ lw_tbl := (tb_4 _ (List.mem_of_getElem? (i := 186) rfl))
set_option maxRecDepth 20000 in
theorem lq_12_46 : mm_lc 12 (1, 116, 207, 0) ∈ lw_tbl := (tb_7 _ (List.mem_of_getElem? (i := 176) rfl))
set_option maxRecDepth 20000 in
theorem lq_12_47 : mm_lc 12 (1, 117, 130, 0) ∈ lw_tbl := (tb_4 _ (List.mem_of_getElem? (i := 195) rfl))
set_option maxRecDepth 20000 in
theorem lq_12_48 : mm_lc 12 (1, 120, 208, 0) ∈ lw_tbl := (tb_7 _ (List.mem_of_getElem? (i := 184) rfl))
set_option maxRecDepth 20000 in
theorem lq_12_49 : mm_lc 12 (1, 121, 131, 0) ∈ lw_tbl := (tb_4 _ (List.mem_of_getElem? (i := 199) rfl))
set_option maxRecDepth 20000 in
theorem lq_12_50 : mm_lc 12 (1, 124, 228, 0) ∈ lw_tbl := (tb_8 _ (List.mem_of_getElem? (i := 29) rfl))
set_option maxRecDepth 20000 in
theorem lq_12_51 : mm_lc 12 (1, 125, 132, 0) ∈ lw_tbl := (tb_4 _ (List.mem_of_getElem? (i := 226) rfl))
set_option maxRecDepth 20000 in
theorem lq_12_52 : mm_lc 12 (1, 129, 232, 0) ∈ lw_tbl := (tb_8 _ (List.mem_of_getElem? (i := 40) rfl))
set_option maxRecDepth 20000 in
theorem lq_12_53 : mm_lc 12 (1, 130, 133, 0) ∈ lw_tbl := (tb_5 _ (List.mem_of_getElem? (i := 5) rfl))
set_option maxRecDepth 20000 in
theorem lq_12_54 : mm_lc 12 (1, 133, 234, 0) ∈ lw_tbl := (tb_8 _ (List.mem_of_getElem? (i := 55) rfl))
set_option maxRecDepth 20000 in
theorem lq_12_55 : mm_lc 12 (1, 134, 134, 0) ∈ lw_tbl := (tb_5 _ (List.mem_of_getElem? (i := 10) rfl))
set_option maxRecDepth 20000 in
theorem lq_12_56 : mm_lc 12 (1, 137, 236, 0) ∈ lw_tbl := (tb_8 _ (List.mem_of_getElem? (i := 63) rfl))
set_option maxRecDepth 20000 in
theorem lq_12_57 : mm_lc 12 (1, 138, 135, 0) ∈ lw_tbl := (tb_5 _ (List.mem_of_getElem? (i := 36) rfl))
set_option maxRecDepth 20000 in
theorem lq_12_58 : mm_lc 12 (1, 141, 237, 0) ∈ lw_tbl := (tb_8 _ (List.mem_of_getElem? (i := 71) rfl))
set_option maxRecDepth 20000 in
theorem lq_12_59 : mm_lc 12 (1, 142, 136, 0) ∈ lw_tbl := (tb_5 _ (List.mem_of_getElem? (i := 58) rfl))
set_option maxRecDepth 20000 in
theorem lq_12_60 : mm_lc 12 (1, 145, 241, 0) ∈ lw_tbl := (tb_8 _ (List.mem_of_getElem? (i := 83) rfl))
set_option maxRecDepth 20000 in
theorem lq_12_61 : mm_lc 12 (1, 146, 137, 0) ∈ lw_tbl := (tb_5 _ (List.mem_of_getElem? (i := 74) rfl))
set_option maxRecDepth 20000 in
theorem lq_12_62 : mm_lc 12 (1, 149, 244, 0) ∈ lw_tbl := (tb_8 _ (List.mem_of_getElem? (i := 91) rfl))
set_option maxRecDepth 20000 in
theorem lq_12_63 : mm_lc 12 (1, 150, 138, 0) ∈ lw_tbl := (tb_5 _ (List.mem_of_getElem? (i := 99) rfl))
set_option maxRecDepth 20000 in
theorem lq_12_64 : mm_lc 12 (1, 153, 245, 0) ∈ lw_tbl := (tb_8 _ (List.mem_of_getElem? (i := 103) rfl))
set_option maxRecDepth 20000 in
theorem lk_in_12 : ∀ d ∈ ln_12, mm_lc 12 d ∈ lw_tbl := (List.forall_mem_cons.mpr ⟨lq_12_0, (List.forall_mem_cons.mpr ⟨lq_12_1, (List.forall_mem_cons.mpr ⟨lq_12_2, (List.forall_mem_cons.mpr ⟨lq_12_3, (List.forall_mem_cons.mpr ⟨lq_12_4, (List.forall_mem_cons.mpr ⟨lq_12_5, (List.forall_mem_cons.mpr ⟨lq_12_6, (List.forall_mem_cons.mpr ⟨lq_12_7, (List.forall_mem_cons.mpr ⟨lq_12_8, (List.forall_mem_cons.mpr ⟨lq_12_9, (List.forall_mem_cons.mpr ⟨lq_12_10, (List.forall_mem_cons.mpr ⟨lq_12_11, (List.forall_mem_cons.mpr ⟨lq_12_12, (List.forall_mem_cons.mpr ⟨lq_12_13, (List.forall_mem_cons.mpr ⟨lq_12_14, (List.forall_mem_cons.mpr ⟨lq_12_15, (List.forall_mem_cons.mpr ⟨lq_12_16, (List.forall_mem_cons.mpr ⟨lq_12_17, (List.forall_mem_cons.mpr ⟨lq_12_18, (List.forall_mem_cons.mpr ⟨lq_12_19, (List.forall_mem_cons.mpr ⟨lq_12_20, (List.forall_mem_cons.mpr ⟨lq_12_21, (List.forall_mem_cons.mpr ⟨lq_12_22, (List.forall_mem_cons.mpr ⟨lq_12_23, (List.forall_mem_cons.mpr ⟨lq_12_24, (List.forall_mem_cons.mpr ⟨lq_12_25, (List.forall_mem_cons.mpr ⟨lq_12_26, (List.forall_mem_cons.mpr ⟨lq_12_27, (List.forall_mem_cons.mpr ⟨lq_12_28, (List.forall_mem_cons.mpr ⟨lq_12_29, (List.forall_mem_cons.mpr ⟨lq_12_30, (List.forall_mem_cons.mpr ⟨lq_12_31, (List.forall_mem_cons.mpr ⟨lq_12_32, (List.forall_mem_cons.mpr ⟨lq_12_33, (List.forall_mem_cons.mpr ⟨lq_12_34, (List.forall_mem_cons.mpr ⟨lq_12_35, (List.forall_mem_cons.mpr ⟨lq_12_36, (List.forall_mem_cons.mpr ⟨lq_12_37, (List.forall_mem_cons.mpr ⟨lq_12_38, (List.forall_mem_cons.mpr ⟨lq_12_39, (List.forall_mem_cons.mpr ⟨lq_12_40, (List.forall_mem_cons.mpr ⟨lq_12_41, (List.forall_mem_cons.mpr ⟨lq_12_42, (List.forall_mem_cons.mpr ⟨lq_12_43, (List.forall_mem_cons.mpr ⟨lq_12_44, (List.forall_mem_cons.mpr ⟨lq_12_45, (List.forall_mem_cons.mpr ⟨lq_12_46, (List.forall_mem_cons.mpr ⟨lq_12_47, (List.forall_mem_cons.mpr ⟨lq_12_48, (List.forall_mem_cons.mpr ⟨lq_12_49, (List.forall_mem_cons.mpr ⟨lq_12_50, (List.forall_mem_cons.mpr ⟨lq_12_51, (List.forall_mem_cons.mpr ⟨lq_12_52, (List.forall_mem_cons.mpr ⟨lq_12_53, (List.forall_mem_cons.mpr ⟨lq_12_54, (List.forall_mem_cons.mpr ⟨lq_12_55, (List.forall_mem_cons.mpr ⟨lq_12_56, (List.forall_mem_cons.mpr ⟨lq_12_57, (List.forall_mem_cons.mpr ⟨lq_12_58, (List.forall_mem_cons.mpr ⟨lq_12_59, (List.forall_mem_cons.mpr ⟨lq_12_60, (List.forall_mem_cons.mpr ⟨lq_12_61, (List.forall_mem_cons.mpr ⟨lq_12_62, (List.forall_mem_cons.mpr ⟨lq_12_63, (List.forall_mem_cons.mpr ⟨lq_12_64, (fun _ h => absurd h List.not_mem_nil)⟩)⟩)⟩)⟩)⟩)⟩)⟩)⟩)⟩)⟩)⟩)⟩)⟩)⟩)⟩)⟩)⟩)⟩)⟩)⟩)⟩)⟩)⟩)⟩)⟩)⟩)⟩)⟩)⟩)⟩)⟩)⟩)⟩)⟩)⟩)⟩)⟩)⟩)⟩)⟩)⟩)⟩)⟩)⟩)⟩)⟩)⟩)⟩)⟩)⟩)⟩)⟩)⟩)⟩)⟩)⟩)⟩)⟩)⟩)⟩)⟩)⟩)⟩)⟩)⟩)
set_option maxRecDepth 20000 in
theorem lq_13_0 : mm_lc 13 (3, 265, 1431655765, 0) ∈ lw_tbl := (tb_4 _ (List.mem_of_getElem? (i := 145) rfl))
set_option maxRecDepth 20000 in
theorem lq_13_1 : mm_lc 13 (3, 266, 858993459, 0) ∈ lw_tbl := (tb_4 _ (List.mem_of_getElem? (i := 146) rfl))
set_option maxRecDepth 20000 in
theorem lq_13_2 : mm_lc 13 (3, 267, 252645135, 0) ∈ lw_tbl := (tb_4 _ (List.mem_of_getElem? (i := 147) rfl))
set_option maxRecDepth 20000 in
theorem lk_in_13 : ∀ d ∈ ln_13, mm_lc 13 d ∈ lw_tbl := (List.forall_mem_cons.mpr ⟨lq_13_0, (List.forall_mem_cons.mpr ⟨lq_13_1, (List.forall_mem_cons.mpr ⟨lq_13_2, (fun _ h => absurd h List.not_mem_nil)⟩)⟩)⟩)
set_option maxRecDepth 20000 in
theorem lq_14_0 : mm_lc 14 (4, 314, 6148914691236517205, 0) ∈ lw_tbl := (tb_5 _ (List.mem_of_getElem? (i := 2) rfl))
set_option maxRecDepth 20000 in
theorem lq_14_1 : mm_lc 14 (4, 316, 3689348814741910323, 0) ∈ lw_tbl := (tb_5 _ (List.mem_of_getElem? (i := 3) rfl))
set_option maxRecDepth 20000 in
theorem lq_14_2 : mm_lc 14 (4, 318, 1085102592571150095, 0) ∈ lw_tbl := (tb_5 _ (List.mem_of_getElem? (i := 4) rfl))
set_option maxRecDepth 20000 in
theorem lk_in_14 : ∀ d ∈ ln_14, mm_lc 14 d ∈ lw_tbl := (List.forall_mem_cons.mpr ⟨lq_14_0, (List.forall_mem_cons.mpr ⟨lq_14_1, (List.forall_mem_cons.mpr ⟨lq_14_2, (fun _ h => absurd h List.not_mem_nil)⟩)⟩)⟩)
set_option maxRecDepth 20000 in
theorem nn_in : ∀ d ∈ nn_0, mm_nc d ∈ lw_tbl := (List.forall_mem_cons.mpr ⟨(tb_3 _ (List.mem_of_getElem? (i := 89) rfl)), (List.forall_mem_cons.mpr ⟨(tb_3 _ (List.mem_of_getElem? (i := 171) rfl)), (List.forall_mem_cons.mpr ⟨(tb_3 _ (List.mem_of_getElem? (i := 173) rfl)), (List.forall_mem_cons.mpr ⟨(tb_4 _ (List.mem_of_getElem? (i := 207) rfl)), (List.forall_mem_cons.mpr ⟨(tb_3 _ (List.mem_of_getElem? (i := 2) rfl)), (List.forall_mem_cons.mpr ⟨(tb_1 _ (List.mem_of_getElem? (i := 31) rfl)), (List.forall_mem_cons.mpr ⟨(tb_1 _ (List.mem_of_getElem? (i := 87) rfl)), (List.forall_mem_cons.mpr ⟨(tb_1 _ (List.mem_of_getElem? (i := 114) rfl)), (List.forall_mem_cons.mpr ⟨(tb_1 _ (List.mem_of_getElem? (i := 148) rfl)), (List.forall_mem_cons.mpr ⟨(tb_1 _ (List.mem_of_getElem? (i := 178) rfl)), (List.forall_mem_cons.mpr ⟨(tb_1 _ (List.mem_of_getElem? (i := 220) rfl)), (List.forall_mem_cons.mpr ⟨(tb_2 _ (List.mem_of_getElem? (i := 2) rfl)), (List.forall_mem_cons.mpr ⟨(tb_2 _ (List.mem_of_getElem? (i := 33) rfl)), (List.forall_mem_cons.mpr ⟨(tb_2 _ (List.mem_of_getElem? (i := 71) rfl)), (List.forall_mem_cons.mpr ⟨(tb_2 _ (List.mem_of_getElem? (i := 140) rfl)), (fun _ h => absurd h List.not_mem_nil)⟩)⟩)⟩)⟩)⟩)⟩)⟩)⟩)⟩)⟩)⟩)⟩)⟩)⟩)⟩)
set_option maxRecDepth 20000 in
theorem uw_0 : ∀ w ∈ u_ws (mm_on 0) (mm_tf 0) (mm_tn 0), w ∈ lw_tbl := (List.forall_mem_cons.mpr ⟨(tb_1 _ (List.mem_of_getElem? (i := 229) rfl)), (List.forall_mem_cons.mpr ⟨(tb_1 _ (List.mem_of_getElem? (i := 231) rfl)), (List.forall_mem_cons.mpr ⟨(tb_1 _ (List.mem_of_getElem? (i := 233) rfl)), (List.forall_mem_cons.mpr ⟨(tb_1 _ (List.mem_of_getElem? (i := 235) rfl)), (List.forall_mem_cons.mpr ⟨(tb_1 _ (List.mem_of_getElem? (i := 237) rfl)), (fun _ h => absurd h List.not_mem_nil)⟩)⟩)⟩)⟩)⟩)
set_option maxRecDepth 20000 in
theorem ui_0 : Cond.instantiable (mm_on 0) (mm_tn 0) ∈ lw_tbl ∧ Cond.initialized (mm_on 0) ∈ lw_tbl := ⟨(tb_1 _ (List.mem_of_getElem? (i := 219) rfl)), (tb_1 _ (List.mem_of_getElem? (i := 7) rfl))⟩
set_option maxRecDepth 20000 in
theorem uw_1 : ∀ w ∈ u_ws (mm_on 1) (mm_tf 1) (mm_tn 1), w ∈ lw_tbl := (List.forall_mem_cons.mpr ⟨(tb_1 _ (List.mem_of_getElem? (i := 133) rfl)), (List.forall_mem_cons.mpr ⟨(tb_1 _ (List.mem_of_getElem? (i := 135) rfl)), (List.forall_mem_cons.mpr ⟨(tb_1 _ (List.mem_of_getElem? (i := 137) rfl)), (List.forall_mem_cons.mpr ⟨(tb_1 _ (List.mem_of_getElem? (i := 139) rfl)), (List.forall_mem_cons.mpr ⟨(tb_1 _ (List.mem_of_getElem? (i := 141) rfl)), (fun _ h => absurd h List.not_mem_nil)⟩)⟩)⟩)⟩)⟩)
set_option maxRecDepth 20000 in
theorem ui_1 : Cond.instantiable (mm_on 1) (mm_tn 1) ∈ lw_tbl ∧ Cond.initialized (mm_on 1) ∈ lw_tbl := ⟨(tb_1 _ (List.mem_of_getElem? (i := 113) rfl)), (tb_1 _ (List.mem_of_getElem? (i := 4) rfl))⟩
set_option maxRecDepth 20000 in
theorem uw_2 : ∀ w ∈ u_ws (mm_on 2) (mm_tf 2) (mm_tn 2), w ∈ lw_tbl := (List.forall_mem_cons.mpr ⟨(tb_2 _ (List.mem_of_getElem? (i := 16) rfl)), (List.forall_mem_cons.mpr ⟨(tb_2 _ (List.mem_of_getElem? (i := 18) rfl)), (List.forall_mem_cons.mpr ⟨(tb_2 _ (List.mem_of_getElem? (i := 20) rfl)), (List.forall_mem_cons.mpr ⟨(tb_2 _ (List.mem_of_getElem? (i := 22) rfl)), (List.forall_mem_cons.mpr ⟨(tb_2 _ (List.mem_of_getElem? (i := 24) rfl)), (List.forall_mem_cons.mpr ⟨(tb_2 _ (List.mem_of_getElem? (i := 26) rfl)), (List.forall_mem_cons.mpr ⟨(tb_2 _ (List.mem_of_getElem? (i := 28) rfl)), (fun _ h => absurd h List.not_mem_nil)⟩)⟩)⟩)⟩)⟩)⟩)⟩)
set_option maxRecDepth 20000 in
theorem ui_2 : Cond.instantiable (mm_on 2) (mm_tn 2) ∈ lw_tbl ∧ Cond.initialized (mm_on 2) ∈ lw_tbl := ⟨(tb_2 _ (List.mem_of_getElem? (i := 1) rfl)), (tb_1 _ (List.mem_of_getElem? (i := 8) rfl))⟩
set_option maxRecDepth 20000 in
theorem uw_3 : ∀ w ∈ u_ws (mm_on 3) (mm_tf 3) (mm_tn 3), w ∈ lw_tbl := (List.forall_mem_cons.mpr ⟨(tb_1 _ (List.mem_of_getElem? (i := 101) rfl)), (List.forall_mem_cons.mpr ⟨(tb_1 _ (List.mem_of_getElem? (i := 103) rfl)), (List.forall_mem_cons.mpr ⟨(tb_1 _ (List.mem_of_getElem? (i := 105) rfl)), (List.forall_mem_cons.mpr ⟨(tb_1 _ (List.mem_of_getElem? (i := 107) rfl)), (List.forall_mem_cons.mpr ⟨(tb_1 _ (List.mem_of_getElem? (i := 109) rfl)), (fun _ h => absurd h List.not_mem_nil)⟩)⟩)⟩)⟩)⟩)
set_option maxRecDepth 20000 in
theorem ui_3 : Cond.instantiable (mm_on 3) (mm_tn 3) ∈ lw_tbl ∧ Cond.initialized (mm_on 3) ∈ lw_tbl := ⟨(tb_1 _ (List.mem_of_getElem? (i := 86) rfl)), (tb_1 _ (List.mem_of_getElem? (i := 3) rfl))⟩
set_option maxRecDepth 20000 in
theorem uw_4 : ∀ w ∈ u_ws (mm_on 4) (mm_tf 4) (mm_tn 4), w ∈ lw_tbl := (List.forall_mem_cons.mpr ⟨(tb_1 _ (List.mem_of_getElem? (i := 165) rfl)), (List.forall_mem_cons.mpr ⟨(tb_1 _ (List.mem_of_getElem? (i := 167) rfl)), (List.forall_mem_cons.mpr ⟨(tb_1 _ (List.mem_of_getElem? (i := 169) rfl)), (List.forall_mem_cons.mpr ⟨(tb_1 _ (List.mem_of_getElem? (i := 171) rfl)), (List.forall_mem_cons.mpr ⟨(tb_1 _ (List.mem_of_getElem? (i := 173) rfl)), (fun _ h => absurd h List.not_mem_nil)⟩)⟩)⟩)⟩)⟩)
set_option maxRecDepth 20000 in
theorem ui_4 : Cond.instantiable (mm_on 4) (mm_tn 4) ∈ lw_tbl ∧ Cond.initialized (mm_on 4) ∈ lw_tbl := ⟨(tb_1 _ (List.mem_of_getElem? (i := 147) rfl)), (tb_1 _ (List.mem_of_getElem? (i := 5) rfl))⟩
set_option maxRecDepth 20000 in
theorem uw_5 : ∀ w ∈ u_ws (mm_on 5) (mm_tf 5) (mm_tn 5), w ∈ lw_tbl := (List.forall_mem_cons.mpr ⟨(tb_2 _ (List.mem_of_getElem? (i := 111) rfl)), (List.forall_mem_cons.mpr ⟨(tb_2 _ (List.mem_of_getElem? (i := 113) rfl)), (List.forall_mem_cons.mpr ⟨(tb_2 _ (List.mem_of_getElem? (i := 115) rfl)), (List.forall_mem_cons.mpr ⟨(tb_2 _ (List.mem_of_getElem? (i := 117) rfl)), (List.forall_mem_cons.mpr ⟨(tb_2 _ (List.mem_of_getElem? (i := 119) rfl)), (List.forall_mem_cons.mpr ⟨(tb_2 _ (List.mem_of_getElem? (i := 121) rfl)), (List.forall_mem_cons.mpr ⟨(tb_2 _ (List.mem_of_getElem? (i := 123) rfl)), (List.forall_mem_cons.mpr ⟨(tb_2 _ (List.mem_of_getElem? (i := 125) rfl)), (List.forall_mem_cons.mpr ⟨(tb_2 _ (List.mem_of_getElem? (i := 127) rfl)), (List.forall_mem_cons.mpr ⟨(tb_2 _ (List.mem_of_getElem? (i := 129) rfl)), (List.forall_mem_cons.mpr ⟨(tb_2 _ (List.mem_of_getElem? (i := 131) rfl)), (List.forall_mem_cons.mpr ⟨(tb_2 _ (List.mem_of_getElem? (i := 133) rfl)), (List.forall_mem_cons.mpr ⟨(tb_2 _ (List.mem_of_getElem? (i := 135) rfl)), (fun _ h => absurd h List.not_mem_nil)⟩)⟩)⟩)⟩)⟩)⟩)⟩)⟩)⟩)⟩)⟩)⟩)⟩)
set_option maxRecDepth 20000 in
theorem ui_5 : Cond.instantiable (mm_on 5) (mm_tn 5) ∈ lw_tbl ∧ Cond.initialized (mm_on 5) ∈ lw_tbl := ⟨(tb_2 _ (List.mem_of_getElem? (i := 70) rfl)), (tb_1 _ (List.mem_of_getElem? (i := 10) rfl))⟩
set_option maxRecDepth 20000 in
theorem uw_6 : ∀ w ∈ u_ws (mm_on 6) (mm_tf 6) (mm_tn 6), w ∈ lw_tbl := (List.forall_mem_cons.mpr ⟨(tb_2 _ (List.mem_of_getElem? (i := 151) rfl)), (List.forall_mem_cons.mpr ⟨(tb_2 _ (List.mem_of_getElem? (i := 153) rfl)), (List.forall_mem_cons.mpr ⟨(tb_2 _ (List.mem_of_getElem? (i := 155) rfl)), (List.forall_mem_cons.mpr ⟨(tb_2 _ (List.mem_of_getElem? (i := 157) rfl)), (List.forall_mem_cons.mpr ⟨(tb_2 _ (List.mem_of_getElem? (i := 159) rfl)), (List.forall_mem_cons.mpr ⟨(tb_2 _ (List.mem_of_getElem? (i := 161) rfl)), (fun _ h => absurd h List.not_mem_nil)⟩)⟩)⟩)⟩)⟩)⟩)
set_option maxRecDepth 20000 in
theorem ui_6 : Cond.instantiable (mm_on 6) (mm_tn 6) ∈ lw_tbl ∧ Cond.initialized (mm_on 6) ∈ lw_tbl := ⟨(tb_2 _ (List.mem_of_getElem? (i := 139) rfl)), (tb_1 _ (List.mem_of_getElem? (i := 11) rfl))⟩
set_option maxRecDepth 20000 in
theorem uw_7 : ∀ w ∈ u_ws (mm_on 7) (mm_tf 7) (mm_tn 7), w ∈ lw_tbl := (List.forall_mem_cons.mpr ⟨(tb_2 _ (List.mem_of_getElem? (i := 48) rfl)), (List.forall_mem_cons.mpr ⟨(tb_2 _ (List.mem_of_getElem? (i := 50) rfl)), (List.forall_mem_cons.mpr ⟨(tb_2 _ (List.mem_of_getElem? (i := 52) rfl)), (List.forall_mem_cons.mpr ⟨(tb_2 _ (List.mem_of_getElem? (i := 54) rfl)), (List.forall_mem_cons.mpr ⟨(tb_2 _ (List.mem_of_getElem? (i := 56) rfl)), (List.forall_mem_cons.mpr ⟨(tb_2 _ (List.mem_of_getElem? (i := 58) rfl)), (List.forall_mem_cons.mpr ⟨(tb_2 _ (List.mem_of_getElem? (i := 60) rfl)), (List.forall_mem_cons.mpr ⟨(tb_2 _ (List.mem_of_getElem? (i := 62) rfl)), (List.forall_mem_cons.mpr ⟨(tb_2 _ (List.mem_of_getElem? (i := 64) rfl)), (List.forall_mem_cons.mpr ⟨(tb_2 _ (List.mem_of_getElem? (i := 66) rfl)), (fun _ h => absurd h List.not_mem_nil)⟩)⟩)⟩)⟩)⟩)⟩)⟩)⟩)⟩)⟩)
set_option maxRecDepth 20000 in
theorem ui_7 : Cond.instantiable (mm_on 7) (mm_tn 7) ∈ lw_tbl ∧ Cond.initialized (mm_on 7) ∈ lw_tbl := ⟨(tb_2 _ (List.mem_of_getElem? (i := 32) rfl)), (tb_1 _ (List.mem_of_getElem? (i := 9) rfl))⟩
set_option maxRecDepth 20000 in
theorem uw_8 : ∀ w ∈ u_ws (mm_on 8) (mm_tf 8) (mm_tn 8), w ∈ lw_tbl := (List.forall_mem_cons.mpr ⟨(tb_1 _ (List.mem_of_getElem? (i := 58) rfl)), (List.forall_mem_cons.mpr ⟨(tb_1 _ (List.mem_of_getElem? (i := 60) rfl)), (List.forall_mem_cons.mpr ⟨(tb_1 _ (List.mem_of_getElem? (i := 62) rfl)), (List.forall_mem_cons.mpr ⟨(tb_1 _ (List.mem_of_getElem? (i := 64) rfl)), (List.forall_mem_cons.mpr ⟨(tb_1 _ (List.mem_of_getElem? (i := 66) rfl)), (List.forall_mem_cons.mpr ⟨(tb_1 _ (List.mem_of_getElem? (i := 68) rfl)), (List.forall_mem_cons.mpr ⟨(tb_1 _ (List.mem_of_getElem? (i := 70) rfl)), (List.forall_mem_cons.mpr ⟨(tb_1 _ (List.mem_of_getElem? (i := 72) rfl)), (List.forall_mem_cons.mpr ⟨(tb_1 _ (List.mem_of_getElem? (i := 74) rfl)), (List.forall_mem_cons.mpr ⟨(tb_1 _ (List.mem_of_getElem? (i := 76) rfl)), (List.forall_mem_cons.mpr ⟨(tb_1 _ (List.mem_of_getElem? (i := 78) rfl)), (List.forall_mem_cons.mpr ⟨(tb_1 _ (List.mem_of_getElem? (i := 80) rfl)), (fun _ h => absurd h List.not_mem_nil)⟩)⟩)⟩)⟩)⟩)⟩)⟩)⟩)⟩)⟩)⟩)⟩)
set_option maxRecDepth 20000 in
theorem ui_8 : Cond.instantiable (mm_on 8) (mm_tn 8) ∈ lw_tbl ∧ Cond.initialized (mm_on 8) ∈ lw_tbl := ⟨(tb_1 _ (List.mem_of_getElem? (i := 30) rfl)), (tb_1 _ (List.mem_of_getElem? (i := 2) rfl))⟩
set_option maxRecDepth 20000 in
theorem uw_9 : ∀ w ∈ u_ws (mm_on 9) (mm_tf 9) (mm_tn 9), w ∈ lw_tbl := (List.forall_mem_cons.mpr ⟨(tb_1 _ (List.mem_of_getElem? (i := 195) rfl)), (List.forall_mem_cons.mpr ⟨(tb_1 _ (List.mem_of_getElem? (i := 197) rfl)), (List.forall_mem_cons.mpr ⟨(tb_1 _ (List.mem_of_getElem? (i := 199) rfl)), (List.forall_mem_cons.mpr ⟨(tb_1 _ (List.mem_of_getElem? (i := 201) rfl)), (List.forall_mem_cons.mpr ⟨(tb_1 _ (List.mem_of_getElem? (i := 203) rfl)), (List.forall_mem_cons.mpr ⟨(tb_1 _ (List.mem_of_getElem? (i := 205) rfl)), (List.forall_mem_cons.mpr ⟨(tb_1 _ (List.mem_of_getElem? (i := 207) rfl)), (List.forall_mem_cons.mpr ⟨(tb_1 _ (List.mem_of_getElem? (i := 209) rfl)), (List.forall_mem_cons.mpr ⟨(tb_1 _ (List.mem_of_getElem? (i := 211) rfl)), (List.forall_mem_cons.mpr ⟨(tb_1 _ (List.mem_of_getElem? (i := 213) rfl)), (List.forall_mem_cons.mpr ⟨(tb_1 _ (List.mem_of_getElem? (i := 215) rfl)), (fun _ h => absurd h List.not_mem_nil)⟩)⟩)⟩)⟩)⟩)⟩)⟩)⟩)⟩)⟩)⟩)
set_option maxRecDepth 20000 in
theorem ui_9 : Cond.instantiable (mm_on 9) (mm_tn 9) ∈ lw_tbl ∧ Cond.initialized (mm_on 9) ∈ lw_tbl := ⟨(tb_1 _ (List.mem_of_getElem? (i := 177) rfl)), (tb_1 _ (List.mem_of_getElem? (i := 6) rfl))⟩
set_option maxRecDepth 20000 in
theorem uw_10 : ∀ w ∈ u_ws (mm_on 10) (mm_tf 10) (mm_tn 10), w ∈ lw_tbl := (List.forall_mem_cons.mpr ⟨(tb_2 _ (List.mem_of_getElem? (i := 177) rfl)), (List.forall_mem_cons.mpr ⟨(tb_2 _ (List.mem_of_getElem? (i := 179) rfl)), (List.forall_mem_cons.mpr ⟨(tb_2 _ (List.mem_of_getElem? (i := 181) rfl)), (List.forall_mem_cons.mpr ⟨(tb_2 _ (List.mem_of_getElem? (i := 183) rfl)), (List.forall_mem_cons.mpr ⟨(tb_2 _ (List.mem_of_getElem? (i := 185) rfl)), (List.forall_mem_cons.mpr ⟨(tb_2 _ (List.mem_of_getElem? (i := 187) rfl)), (List.forall_mem_cons.mpr ⟨(tb_2 _ (List.mem_of_getElem? (i := 189) rfl)), (List.forall_mem_cons.mpr ⟨(tb_2 _ (List.mem_of_getElem? (i := 191) rfl)), (List.forall_mem_cons.mpr ⟨(tb_2 _ (List.mem_of_getElem? (i := 193) rfl)), (List.forall_mem_cons.mpr ⟨(tb_2 _ (List.mem_of_getElem? (i := 195) rfl)), (List.forall_mem_cons.mpr ⟨(tb_2 _ (List.mem_of_getElem? (i := 197) rfl)), (List.forall_mem_cons.mpr ⟨(tb_2 _ (List.mem_of_getElem? (i := 199) rfl)), (List.forall_mem_cons.mpr ⟨(tb_2 _ (List.mem_of_getElem? (i := 201) rfl)), (fun _ h => absurd h List.not_mem_nil)⟩)⟩)⟩)⟩)⟩)⟩)⟩)⟩)⟩)⟩)⟩)⟩)⟩)
set_option maxRecDepth 20000 in
theorem ui_10 : Cond.instantiable (mm_on 10) (mm_tn 10) ∈ lw_tbl ∧ Cond.initialized (mm_on 10) ∈ lw_tbl := ⟨(tb_1 _ (List.mem_of_getElem? (i := 22) rfl)), (tb_1 _ (List.mem_of_getElem? (i := 1) rfl))⟩
set_option maxRecDepth 20000 in
theorem uw_11 : ∀ w ∈ u_ws (mm_on 11) (mm_tf 11) (mm_tn 11), w ∈ lw_tbl := (List.forall_mem_cons.mpr ⟨(tb_6 _ (List.mem_of_getElem? (i := 46) rfl)), (List.forall_mem_cons.mpr ⟨(tb_6 _ (List.mem_of_getElem? (i := 48) rfl)), (List.forall_mem_cons.mpr ⟨(tb_6 _ (List.mem_of_getElem? (i := 50) rfl)), (List.forall_mem_cons.mpr ⟨(tb_6 _ (List.mem_of_getElem? (i := 52) rfl)), (List.forall_mem_cons.mpr ⟨(tb_6 _ (List.mem_of_getElem? (i := 54) rfl)), (List.forall_mem_cons.mpr ⟨(tb_6 _ (List.mem_of_getElem? (i := 56) rfl)), (List.forall_mem_cons.mpr ⟨(tb_6 _ (List.mem_of_getElem? (i := 58) rfl)), (List.forall_mem_cons.mpr ⟨(tb_6 _ (List.mem_of_getElem? (i := 60) rfl)), (List.forall_mem_cons.mpr ⟨(tb_6 _ (List.mem_of_getElem? (i := 62) rfl)), (List.forall_mem_cons.mpr ⟨(tb_6 _ (List.mem_of_getElem? (i := 64) rfl)), (List.forall_mem_cons.mpr ⟨(tb_6 _ (List.mem_of_getElem? (i := 66) rfl)), (List.forall_mem_cons.mpr ⟨(tb_6 _ (List.mem_of_getElem? (i := 68) rfl)), (List.forall_mem_cons.mpr ⟨(tb_6 _ (List.mem_of_getElem? (i := 70) rfl)), (List.forall_mem_cons.mpr ⟨(tb_6 _ (List.mem_of_getElem? (i := 72) rfl)), (List.forall_mem_cons.mpr ⟨(tb_6 _ (List.mem_of_getElem? (i := 74) rfl)), (List.forall_mem_cons.mpr ⟨(tb_6 _ (List.mem_of_getElem? (i := 76) rfl)), (List.forall_mem_cons.mpr ⟨(tb_6 _ (List.mem_of_getElem? (i := 78) rfl)), (List.forall_mem_cons.mpr ⟨(tb_6 _ (List.mem_of_getElem? (i := 80) rfl)), (List.forall_mem_cons.mpr ⟨(tb_6 _ (List.mem_of_getElem? (i := 82) rfl)), (List.forall_mem_cons.mpr ⟨(tb_6 _ (List.mem_of_getElem? (i := 84) rfl)), (List.forall_mem_cons.mpr ⟨(tb_6 _ (List.mem_of_getElem? (i := 86) rfl)), (List.forall_mem_cons.mpr ⟨(tb_6 _ (List.mem_of_getElem? (i := 88) rfl)), (List.forall_mem_cons.mpr ⟨(tb_6 _ (List.mem_of_getElem? (i := 90) rfl)), (List.forall_mem_cons.mpr ⟨(tb_6 _ (List.mem_of_getElem? (i := 92) rfl)), (List.forall_mem_cons.mpr ⟨(tb_6 _ (List.mem_of_getElem? (i := 94) rfl)), (List.forall_mem_cons.mpr ⟨(tb_6 _ (List.mem_of_getElem? (i := 96) rfl)), (List.forall_mem_cons.mpr ⟨(tb_6 _ (List.mem_of_getElem? (i := 98) rfl)), (List.forall_mem_cons.mpr ⟨(tb_6 _ (List.mem_of_getElem? (i := 100) rfl)), (List.forall_mem_cons.mpr ⟨(tb_6 _ (List.mem_of_getElem? (i := 102) rfl)), (List.forall_mem_cons.mpr ⟨(tb_6 _ (List.mem_of_getElem? (i := 104) rfl)), (List.forall_mem_cons.mpr ⟨(tb_6 _ (List.mem_of_getElem? (i := 106) rfl)), (List.forall_mem_cons.mpr ⟨(tb_6 _ (List.mem_of_getElem? (i := 108) rfl)), (List.forall_mem_cons.mpr ⟨(tb_6 _ (List.mem_of_getElem? (i := 110) rfl)), (List.forall_mem_cons.mpr ⟨(tb_6 _ (List.mem_of_getElem? (i := 112) rfl)), (List.forall_mem_cons.mpr ⟨(tb_6 _ (List.mem_of_getElem? (i := 114) rfl)), (List.forall_mem_cons.mpr ⟨(tb_6 _ (List.mem_of_getElem? (i := 116) rfl)), (List.forall_mem_cons.mpr ⟨(tb_6 _ (List.mem_of_getElem? (i := 118) rfl)), (List.forall_mem_cons.mpr ⟨(tb_6 _ (List.mem_of_getElem? (i := 120) rfl)), (List.forall_mem_cons.mpr ⟨(tb_6 _ (List.mem_of_getElem? (i := 122) rfl)), (List.forall_mem_cons.mpr ⟨(tb_6 _ (List.mem_of_getElem? (i := 124) rfl)), (List.forall_mem_cons.mpr ⟨(tb_6 _ (List.mem_of_getElem? (i := 126) rfl)), (List.forall_mem_cons.mpr ⟨(tb_6 _ (List.mem_of_getElem? (i := 128) rfl)), (List.forall_mem_cons.mpr ⟨(tb_6 _ (List.mem_of_getElem? (i := 130) rfl)), (List.forall_mem_cons.mpr ⟨(tb_6 _ (List.mem_of_getElem? (i := 132) rfl)), (List.forall_mem_cons.mpr ⟨(tb_6 _ (List.mem_of_getElem? (i := 134) rfl)), (List.forall_mem_cons.mpr ⟨(tb_6 _ (List.mem_of_getElem? (i := 136) rfl)), (List.forall_mem_cons.mpr ⟨(tb_6 _ (List.mem_of_getElem? (i := 138) rfl)), (List.forall_mem_cons.mpr ⟨(tb_6 _ (List.mem_of_getElem? (i := 140) rfl)), (List.forall_mem_cons.mpr ⟨(tb_6 _ (List.mem_of_getElem? (i := 142) rfl)), (List.forall_mem_cons.mpr ⟨(tb_6 _ (List.mem_of_getElem? (i := 144) rfl)), (List.forall_mem_cons.mpr ⟨(tb_6 _ (List.mem_of_getElem? (i := 146) rfl)), (List.forall_mem_cons.mpr ⟨(tb_6 _ (List.mem_of_getElem? (i := 148) rfl)), (List.forall_mem_cons.mpr ⟨(tb_6 _ (List.mem_of_getElem? (i := 150) rfl)), (List.forall_mem_cons.mpr ⟨(tb_6 _ (List.mem_of_getElem? (i := 152) rfl)), (List.forall_mem_cons.mpr ⟨(tb_6 _ (List.mem_of_getElem? (i := 154) rfl)), (List.forall_mem_cons.mpr ⟨(tb_6 _ (List.mem_of_getElem? (i := 156) rfl)), (List.forall_mem_cons.mpr ⟨(tb_6 _ (List.mem_of_getElem? (i := 158) rfl)), (List.forall_mem_cons.mpr ⟨(tb_6 _ (List.mem_of_getElem? (i := 160) rfl)), (List.forall_mem_cons.mpr ⟨(tb_6 _ (List.mem_of_getElem? (i := 162) rfl)), (List.forall_mem_cons.mpr ⟨(tb_6 _ (List.mem_of_getElem? (i := 164) rfl)), (List.forall_mem_cons.mpr ⟨(tb_6 _ (List.mem_of_getElem? (i := 166) rfl)), (List.forall_mem_cons.mpr ⟨(tb_6 _ (List.mem_of_getElem? (i := 168) rfl)), (List.forall_mem_cons.mpr ⟨(tb_6 _ (List.mem_of_getElem? (i := 170) rfl)), (List.forall_mem_cons.mpr ⟨(tb_6 _ (List.mem_of_getElem? (i := 172) rfl)), (List.forall_mem_cons.mpr ⟨(tb_6 _ (List.mem_of_getElem? (i := 174) rfl)), (List.forall_mem_cons.mpr ⟨(tb_6 _ (List.mem_of_getElem? (i := 176) rfl)), (List.forall_mem_cons.mpr ⟨(tb_6 _ (List.mem_of_getElem? (i := 178) rfl)), (List.forall_mem_cons.mpr ⟨(tb_6 _ (List.mem_of_getElem? (i := 180) rfl)), (List.forall_mem_cons.mpr ⟨(tb_6 _ (List.mem_of_getElem? (i := 182) rfl)), (List.forall_mem_cons.mpr ⟨(tb_6 _ (List.mem_of_getElem? (i := 184) rfl)), (List.forall_mem_cons.mpr ⟨(tb_6 _ (List.mem_of_getElem? (i := 186) rfl)), (List.forall_mem_cons.mpr ⟨(tb_6 _ (List.mem_of_getElem? (i := 188) rfl)), (List.forall_mem_cons.mpr ⟨(tb_6 _ (List.mem_of_getElem? (i := 190) rfl)), (List.forall_mem_cons.mpr ⟨(tb_6 _ (List.mem_of_getElem? (i := 192) rfl)), (List.forall_mem_cons.mpr ⟨(tb_6 _ (List.mem_of_getElem? (i := 194) rfl)), (List.forall_mem_cons.mpr ⟨(tb_6 _ (List.mem_of_getElem? (i := 196) rfl)), (List.forall_mem_cons.mpr ⟨(tb_6 _ (List.mem_of_getElem? (i := 198) rfl)), (List.forall_mem_cons.mpr ⟨(tb_6 _ (List.mem_of_getElem? (i := 200) rfl)), (fun _ h => absurd h List.not_mem_nil)⟩)⟩)⟩)⟩)⟩)⟩)⟩)⟩)⟩)⟩)⟩)⟩)⟩)⟩)⟩)⟩)⟩)⟩)⟩)⟩)⟩)⟩)⟩)⟩)⟩)⟩)⟩)⟩)⟩)⟩)⟩)⟩)⟩)⟩)⟩)⟩)⟩)⟩)⟩)⟩)⟩)⟩)⟩)⟩)⟩)⟩)⟩)⟩)⟩)⟩)⟩)⟩)⟩)⟩)⟩)⟩)⟩)⟩)⟩)⟩)⟩)⟩)⟩)⟩)⟩)⟩)⟩)⟩)⟩)⟩)⟩)⟩)⟩)⟩)⟩)⟩)⟩)⟩)
set_option maxRecDepth 20000 in
theorem ui_11 : Cond.instantiable (mm_on 11) (mm_tn 11) ∈ lw_tbl ∧ Cond.initialized (mm_on 11) ∈ lw_tbl := ⟨(tb_5 _ (List.mem_of_getElem? (i := 195) rfl)), (tb_1 _ (List.mem_of_getElem? (i := 12) rfl))⟩
set_option maxRecDepth 20000 in
theorem aw_i : Cond.arrayClass .int ∈ lw_tbl := (tb_1 _ (List.mem_of_getElem? (i := 84) rfl))
set_option maxRecDepth 20000 in
theorem aw_l : Cond.arrayClass .long ∈ lw_tbl := (tb_1 _ (List.mem_of_getElem? (i := 144) rfl))
set_option maxRecDepth 20000 in
theorem aw_z : Cond.arrayClass .boolean ∈ lw_tbl := (tb_1 _ (List.mem_of_getElem? (i := 145) rfl))
set_option maxRecDepth 20000 in
theorem aw_b : Cond.arrayClass .byte ∈ lw_tbl := (tb_1 _ (List.mem_of_getElem? (i := 83) rfl))
set_option maxRecDepth 20000 in
theorem aw_o : Cond.arrayOver (.array .int) ∈ lw_tbl := (tb_1 _ (List.mem_of_getElem? (i := 153) rfl))
set_option maxRecDepth 20000 in
theorem oi_1 : Cond.instanceMethod objectInit ∈ lw_tbl := (tb_1 _ (List.mem_of_getElem? (i := 27) rfl))
set_option maxRecDepth 20000 in
theorem oi_2 : Cond.code objectInit ⟨#[0xb1]⟩ 1 none ∈ lw_tbl := (tb_1 _ (List.mem_of_getElem? (i := 28) rfl))
set_option maxRecDepth 20000 in
theorem mt_min : Cond.static Lib.Math.min.name ∈ lw_tbl ∧ Cond.initialized "java/lang/Math" ∈ lw_tbl ∧ Cond.code Lib.Math.min.name Lib.Math.min.code 2 (some .int) ∈ lw_tbl := ⟨(tb_3 _ (List.mem_of_getElem? (i := 12) rfl)), (tb_1 _ (List.mem_of_getElem? (i := 13) rfl)), (tb_3 _ (List.mem_of_getElem? (i := 13) rfl))⟩
set_option maxRecDepth 20000 in
theorem mt_max : Cond.static Lib.Math.max.name ∈ lw_tbl ∧ Cond.initialized "java/lang/Math" ∈ lw_tbl ∧ Cond.code Lib.Math.max.name Lib.Math.max.code 2 (some .int) ∈ lw_tbl := ⟨(tb_3 _ (List.mem_of_getElem? (i := 21) rfl)), (tb_1 _ (List.mem_of_getElem? (i := 13) rfl)), (tb_3 _ (List.mem_of_getElem? (i := 22) rfl))⟩
end
section
theorem mm_blt_f {a b : Nat} (h : b ≤ a) : Nat.blt a b = false := by
  cases e : Nat.blt a b with
  | false => rfl
  | true => exact absurd (Nat.le_of_ble_eq_true e) (by omega)
theorem mm_sel {P : Nat → (Nat → Option mm_R) → Prop} {mi : Nat} (k : Nat) {f g : Nat → Option mm_R} (h1 : P mi f) (h2 : P mi g) : P mi (bif Nat.blt mi k then f else g) := by
  cases Nat.blt mi k <;> assumption
theorem mm_leaf {P : Nat → (Nat → Option mm_R) → Prop} {mi k : Nat} {f : Nat → Option mm_R} (h1 : P k f) (h2 : P mi (fun _ => none)) : P mi (bif Nat.beq mi k then f else (fun _ => none)) := by
  cases e : Nat.beq mi k with
  | false => exact h2
  | true => rw [Nat.eq_of_beq_eq_true e]; exact h1
theorem cm_L_law : ∀ pc q, kd_L_law pc = some q → mm_ck 0 pc q = true := fun pc q h => by
  rcases Nat.lt_or_ge pc 1322 with hl | hl
  · rcases Nat.lt_or_ge pc 100 with h0 | h0
    · exact mm_ckp_at ck_L_law_0 pc q (by omega) (by omega) h
    · rcases Nat.lt_or_ge pc 200 with h1 | h1
      · exact mm_ckp_at ck_L_law_1 pc q (by omega) (by omega) h
      · rcases Nat.lt_or_ge pc 300 with h2 | h2
        · exact mm_ckp_at ck_L_law_2 pc q (by omega) (by omega) h
        · rcases Nat.lt_or_ge pc 400 with h3 | h3
          · exact mm_ckp_at ck_L_law_3 pc q (by omega) (by omega) h
          · rcases Nat.lt_or_ge pc 500 with h4 | h4
            · exact mm_ckp_at ck_L_law_4 pc q (by omega) (by omega) h
            · rcases Nat.lt_or_ge pc 600 with h5 | h5
              · exact mm_ckp_at ck_L_law_5 pc q (by omega) (by omega) h
              · rcases Nat.lt_or_ge pc 700 with h6 | h6
                · exact mm_ckp_at ck_L_law_6 pc q (by omega) (by omega) h
                · rcases Nat.lt_or_ge pc 800 with h7 | h7
                  · exact mm_ckp_at ck_L_law_7 pc q (by omega) (by omega) h
                  · rcases Nat.lt_or_ge pc 900 with h8 | h8
                    · exact mm_ckp_at ck_L_law_8 pc q (by omega) (by omega) h
                    · rcases Nat.lt_or_ge pc 1000 with h9 | h9
                      · exact mm_ckp_at ck_L_law_9 pc q (by omega) (by omega) h
                      · rcases Nat.lt_or_ge pc 1100 with h10 | h10
                        · exact mm_ckp_at ck_L_law_10 pc q (by omega) (by omega) h
                        · rcases Nat.lt_or_ge pc 1200 with h11 | h11
                          · exact mm_ckp_at ck_L_law_11 pc q (by omega) (by omega) h
                          · rcases Nat.lt_or_ge pc 1300 with h12 | h12
                            · exact mm_ckp_at ck_L_law_12 pc q (by omega) (by omega) h
                            · exact mm_ckp_at ck_L_law_13 pc q (by omega) (by omega) h
  · exact absurd h (by unfold kd_L_law; rw [mm_blt_f hl]; exact fun z => nomatch z)

theorem cm_X0_init : ∀ pc q, kd_X0_init pc = some q → mm_ck 1 pc q = true := fun pc q h => by
  rcases Nat.lt_or_ge pc 21 with hl | hl
  · exact mm_ckp_at ck_X0_init_0 pc q (by omega) (by omega) h
  · exact absurd h (by unfold kd_X0_init; rw [mm_blt_f hl]; exact fun z => nomatch z)

theorem cm_X0_find : ∀ pc q, kd_X0_find pc = some q → mm_ck 2 pc q = true := fun pc q h => by
  rcases Nat.lt_or_ge pc 148 with hl | hl
  · rcases Nat.lt_or_ge pc 100 with h0 | h0
    · exact mm_ckp_at ck_X0_find_0 pc q (by omega) (by omega) h
    · exact mm_ckp_at ck_X0_find_1 pc q (by omega) (by omega) h
  · exact absurd h (by unfold kd_X0_find; rw [mm_blt_f hl]; exact fun z => nomatch z)

theorem cm_X0_cardsCutAt : ∀ pc q, kd_X0_cardsCutAt pc = some q → mm_ck 3 pc q = true := fun pc q h => by
  rcases Nat.lt_or_ge pc 37 with hl | hl
  · exact mm_ckp_at ck_X0_cardsCutAt_0 pc q (by omega) (by omega) h
  · exact absurd h (by unfold kd_X0_cardsCutAt; rw [mm_blt_f hl]; exact fun z => nomatch z)

theorem cm_X0_othersAt : ∀ pc q, kd_X0_othersAt pc = some q → mm_ck 4 pc q = true := fun pc q h => by
  rcases Nat.lt_or_ge pc 49 with hl | hl
  · exact mm_ckp_at ck_X0_othersAt_0 pc q (by omega) (by omega) h
  · exact absurd h (by unfold kd_X0_othersAt; rw [mm_blt_f hl]; exact fun z => nomatch z)

theorem cm_X0_choose : ∀ pc q, kd_X0_choose pc = some q → mm_ck 5 pc q = true := fun pc q h => by
  rcases Nat.lt_or_ge pc 70 with hl | hl
  · exact mm_ckp_at ck_X0_choose_0 pc q (by omega) (by omega) h
  · exact absurd h (by unfold kd_X0_choose; rw [mm_blt_f hl]; exact fun z => nomatch z)

theorem cm_X0_weigh : ∀ pc q, kd_X0_weigh pc = some q → mm_ck 6 pc q = true := fun pc q h => by
  rcases Nat.lt_or_ge pc 60 with hl | hl
  · exact mm_ckp_at ck_X0_weigh_0 pc q (by omega) (by omega) h
  · exact absurd h (by unfold kd_X0_weigh; rw [mm_blt_f hl]; exact fun z => nomatch z)

theorem cm_X1_init : ∀ pc q, kd_X1_init pc = some q → mm_ck 7 pc q = true := fun pc q h => by
  rcases Nat.lt_or_ge pc 47 with hl | hl
  · exact mm_ckp_at ck_X1_init_0 pc q (by omega) (by omega) h
  · exact absurd h (by unfold kd_X1_init; rw [mm_blt_f hl]; exact fun z => nomatch z)

theorem cm_X1_replay : ∀ pc q, kd_X1_replay pc = some q → mm_ck 8 pc q = true := fun pc q h => by
  rcases Nat.lt_or_ge pc 53 with hl | hl
  · exact mm_ckp_at ck_X1_replay_0 pc q (by omega) (by omega) h
  · exact absurd h (by unfold kd_X1_replay; rw [mm_blt_f hl]; exact fun z => nomatch z)

theorem cm_X1_forget : ∀ pc q, kd_X1_forget pc = some q → mm_ck 9 pc q = true := fun pc q h => by
  rcases Nat.lt_or_ge pc 79 with hl | hl
  · exact mm_ckp_at ck_X1_forget_0 pc q (by omega) (by omega) h
  · exact absurd h (by unfold kd_X1_forget; rw [mm_blt_f hl]; exact fun z => nomatch z)

theorem cm_X1_markStruck : ∀ pc q, kd_X1_markStruck pc = some q → mm_ck 10 pc q = true := fun pc q h => by
  rcases Nat.lt_or_ge pc 82 with hl | hl
  · exact mm_ckp_at ck_X1_markStruck_0 pc q (by omega) (by omega) h
  · exact absurd h (by unfold kd_X1_markStruck; rw [mm_blt_f hl]; exact fun z => nomatch z)

theorem cm_X1_apply : ∀ pc q, kd_X1_apply pc = some q → mm_ck 11 pc q = true := fun pc q h => by
  rcases Nat.lt_or_ge pc 199 with hl | hl
  · rcases Nat.lt_or_ge pc 100 with h0 | h0
    · exact mm_ckp_at ck_X1_apply_0 pc q (by omega) (by omega) h
    · exact mm_ckp_at ck_X1_apply_1 pc q (by omega) (by omega) h
  · exact absurd h (by unfold kd_X1_apply; rw [mm_blt_f hl]; exact fun z => nomatch z)

theorem cm_X1_valueOf : ∀ pc q, kd_X1_valueOf pc = some q → mm_ck 12 pc q = true := fun pc q h => by
  rcases Nat.lt_or_ge pc 12 with hl | hl
  · exact mm_ckp_at ck_X1_valueOf_0 pc q (by omega) (by omega) h
  · exact absurd h (by unfold kd_X1_valueOf; rw [mm_blt_f hl]; exact fun z => nomatch z)

theorem cm_X1_hasWord : ∀ pc q, kd_X1_hasWord pc = some q → mm_ck 13 pc q = true := fun pc q h => by
  rcases Nat.lt_or_ge pc 19 with hl | hl
  · exact mm_ckp_at ck_X1_hasWord_0 pc q (by omega) (by omega) h
  · exact absurd h (by unfold kd_X1_hasWord; rw [mm_blt_f hl]; exact fun z => nomatch z)

theorem cm_X1_isCutAt : ∀ pc q, kd_X1_isCutAt pc = some q → mm_ck 14 pc q = true := fun pc q h => by
  rcases Nat.lt_or_ge pc 19 with hl | hl
  · exact mm_ckp_at ck_X1_isCutAt_0 pc q (by omega) (by omega) h
  · exact absurd h (by unfold kd_X1_isCutAt; rw [mm_blt_f hl]; exact fun z => nomatch z)

theorem cm_X2_init : ∀ pc q, kd_X2_init pc = some q → mm_ck 15 pc q = true := fun pc q h => by
  rcases Nat.lt_or_ge pc 21 with hl | hl
  · exact mm_ckp_at ck_X2_init_0 pc q (by omega) (by omega) h
  · exact absurd h (by unfold kd_X2_init; rw [mm_blt_f hl]; exact fun z => nomatch z)

theorem cm_X2_findSets : ∀ pc q, kd_X2_findSets pc = some q → mm_ck 16 pc q = true := fun pc q h => by
  rcases Nat.lt_or_ge pc 156 with hl | hl
  · rcases Nat.lt_or_ge pc 100 with h0 | h0
    · exact mm_ckp_at ck_X2_findSets_0 pc q (by omega) (by omega) h
    · exact mm_ckp_at ck_X2_findSets_1 pc q (by omega) (by omega) h
  · exact absurd h (by unfold kd_X2_findSets; rw [mm_blt_f hl]; exact fun z => nomatch z)

theorem cm_X2_chooseFrom : ∀ pc q, kd_X2_chooseFrom pc = some q → mm_ck 17 pc q = true := fun pc q h => by
  rcases Nat.lt_or_ge pc 91 with hl | hl
  · exact mm_ckp_at ck_X2_chooseFrom_0 pc q (by omega) (by omega) h
  · exact absurd h (by unfold kd_X2_chooseFrom; rw [mm_blt_f hl]; exact fun z => nomatch z)

theorem cm_X2_findValues : ∀ pc q, kd_X2_findValues pc = some q → mm_ck 18 pc q = true := fun pc q h => by
  rcases Nat.lt_or_ge pc 131 with hl | hl
  · rcases Nat.lt_or_ge pc 100 with h0 | h0
    · exact mm_ckp_at ck_X2_findValues_0 pc q (by omega) (by omega) h
    · exact mm_ckp_at ck_X2_findValues_1 pc q (by omega) (by omega) h
  · exact absurd h (by unfold kd_X2_findValues; rw [mm_blt_f hl]; exact fun z => nomatch z)

theorem cm_X3_init : ∀ pc q, kd_X3_init pc = some q → mm_ck 19 pc q = true := fun pc q h => by
  rcases Nat.lt_or_ge pc 41 with hl | hl
  · exact mm_ckp_at ck_X3_init_0 pc q (by omega) (by omega) h
  · exact absurd h (by unfold kd_X3_init; rw [mm_blt_f hl]; exact fun z => nomatch z)

theorem cm_X3_add : ∀ pc q, kd_X3_add pc = some q → mm_ck 20 pc q = true := fun pc q h => by
  rcases Nat.lt_or_ge pc 70 with hl | hl
  · exact mm_ckp_at ck_X3_add_0 pc q (by omega) (by omega) h
  · exact absurd h (by unfold kd_X3_add; rw [mm_blt_f hl]; exact fun z => nomatch z)

theorem cm_X4_init : ∀ pc q, kd_X4_init pc = some q → mm_ck 21 pc q = true := fun pc q h => by
  rcases Nat.lt_or_ge pc 41 with hl | hl
  · exact mm_ckp_at ck_X4_init_0 pc q (by omega) (by omega) h
  · exact absurd h (by unfold kd_X4_init; rw [mm_blt_f hl]; exact fun z => nomatch z)

theorem cm_X4_clear : ∀ pc q, kd_X4_clear pc = some q → mm_ck 22 pc q = true := fun pc q h => by
  rcases Nat.lt_or_ge pc 27 with hl | hl
  · exact mm_ckp_at ck_X4_clear_0 pc q (by omega) (by omega) h
  · exact absurd h (by unfold kd_X4_clear; rw [mm_blt_f hl]; exact fun z => nomatch z)

theorem cm_X4_append : ∀ pc q, kd_X4_append pc = some q → mm_ck 23 pc q = true := fun pc q h => by
  rcases Nat.lt_or_ge pc 36 with hl | hl
  · exact mm_ckp_at ck_X4_append_0 pc q (by omega) (by omega) h
  · exact absurd h (by unfold kd_X4_append; rw [mm_blt_f hl]; exact fun z => nomatch z)

theorem cm_X4_lay : ∀ pc q, kd_X4_lay pc = some q → mm_ck 24 pc q = true := fun pc q h => by
  rcases Nat.lt_or_ge pc 63 with hl | hl
  · exact mm_ckp_at ck_X4_lay_0 pc q (by omega) (by omega) h
  · exact absurd h (by unfold kd_X4_lay; rw [mm_blt_f hl]; exact fun z => nomatch z)

theorem cm_X4_mirrored : ∀ pc q, kd_X4_mirrored pc = some q → mm_ck 25 pc q = true := fun pc q h => by
  rcases Nat.lt_or_ge pc 30 with hl | hl
  · exact mm_ckp_at ck_X4_mirrored_0 pc q (by omega) (by omega) h
  · exact absurd h (by unfold kd_X4_mirrored; rw [mm_blt_f hl]; exact fun z => nomatch z)

theorem cm_X4_isDropping : ∀ pc q, kd_X4_isDropping pc = some q → mm_ck 26 pc q = true := fun pc q h => by
  rcases Nat.lt_or_ge pc 19 with hl | hl
  · exact mm_ckp_at ck_X4_isDropping_0 pc q (by omega) (by omega) h
  · exact absurd h (by unfold kd_X4_isDropping; rw [mm_blt_f hl]; exact fun z => nomatch z)

theorem cm_X4_dropping : ∀ pc q, kd_X4_dropping pc = some q → mm_ck 27 pc q = true := fun pc q h => by
  rcases Nat.lt_or_ge pc 56 with hl | hl
  · exact mm_ckp_at ck_X4_dropping_0 pc q (by omega) (by omega) h
  · exact absurd h (by unfold kd_X4_dropping; rw [mm_blt_f hl]; exact fun z => nomatch z)

theorem cm_X4_deal : ∀ pc q, kd_X4_deal pc = some q → mm_ck 28 pc q = true := fun pc q h => by
  rcases Nat.lt_or_ge pc 96 with hl | hl
  · exact mm_ckp_at ck_X4_deal_0 pc q (by omega) (by omega) h
  · exact absurd h (by unfold kd_X4_deal; rw [mm_blt_f hl]; exact fun z => nomatch z)

theorem cm_X5_init : ∀ pc q, kd_X5_init pc = some q → mm_ck 29 pc q = true := fun pc q h => by
  rcases Nat.lt_or_ge pc 75 with hl | hl
  · exact mm_ckp_at ck_X5_init_0 pc q (by omega) (by omega) h
  · exact absurd h (by unfold kd_X5_init; rw [mm_blt_f hl]; exact fun z => nomatch z)

theorem cm_X5_read : ∀ pc q, kd_X5_read pc = some q → mm_ck 30 pc q = true := fun pc q h => by
  rcases Nat.lt_or_ge pc 78 with hl | hl
  · exact mm_ckp_at ck_X5_read_0 pc q (by omega) (by omega) h
  · exact absurd h (by unfold kd_X5_read; rw [mm_blt_f hl]; exact fun z => nomatch z)

theorem cm_X5_readLine : ∀ pc q, kd_X5_readLine pc = some q → mm_ck 31 pc q = true := fun pc q h => by
  rcases Nat.lt_or_ge pc 65 with hl | hl
  · exact mm_ckp_at ck_X5_readLine_0 pc q (by omega) (by omega) h
  · exact absurd h (by unfold kd_X5_readLine; rw [mm_blt_f hl]; exact fun z => nomatch z)

theorem cm_X5_readHoles : ∀ pc q, kd_X5_readHoles pc = some q → mm_ck 32 pc q = true := fun pc q h => by
  rcases Nat.lt_or_ge pc 44 with hl | hl
  · exact mm_ckp_at ck_X5_readHoles_0 pc q (by omega) (by omega) h
  · exact absurd h (by unfold kd_X5_readHoles; rw [mm_blt_f hl]; exact fun z => nomatch z)

theorem cm_X5_readField : ∀ pc q, kd_X5_readField pc = some q → mm_ck 33 pc q = true := fun pc q h => by
  rcases Nat.lt_or_ge pc 188 with hl | hl
  · rcases Nat.lt_or_ge pc 100 with h0 | h0
    · exact mm_ckp_at ck_X5_readField_0 pc q (by omega) (by omega) h
    · exact mm_ckp_at ck_X5_readField_1 pc q (by omega) (by omega) h
  · exact absurd h (by unfold kd_X5_readField; rw [mm_blt_f hl]; exact fun z => nomatch z)

theorem cm_X5_isNewName : ∀ pc q, kd_X5_isNewName pc = some q → mm_ck 34 pc q = true := fun pc q h => by
  rcases Nat.lt_or_ge pc 46 with hl | hl
  · exact mm_ckp_at ck_X5_isNewName_0 pc q (by omega) (by omega) h
  · exact absurd h (by unfold kd_X5_isNewName; rw [mm_blt_f hl]; exact fun z => nomatch z)

theorem cm_X5_kindAt : ∀ pc q, kd_X5_kindAt pc = some q → mm_ck 35 pc q = true := fun pc q h => by
  rcases Nat.lt_or_ge pc 48 with hl | hl
  · exact mm_ckp_at ck_X5_kindAt_0 pc q (by omega) (by omega) h
  · exact absurd h (by unfold kd_X5_kindAt; rw [mm_blt_f hl]; exact fun z => nomatch z)

theorem cm_X5_readStretch : ∀ pc q, kd_X5_readStretch pc = some q → mm_ck 36 pc q = true := fun pc q h => by
  rcases Nat.lt_or_ge pc 104 with hl | hl
  · rcases Nat.lt_or_ge pc 100 with h0 | h0
    · exact mm_ckp_at ck_X5_readStretch_0 pc q (by omega) (by omega) h
    · exact mm_ckp_at ck_X5_readStretch_1 pc q (by omega) (by omega) h
  · exact absurd h (by unfold kd_X5_readStretch; rw [mm_blt_f hl]; exact fun z => nomatch z)

theorem cm_X5_readDecimal : ∀ pc q, kd_X5_readDecimal pc = some q → mm_ck 37 pc q = true := fun pc q h => by
  rcases Nat.lt_or_ge pc 54 with hl | hl
  · exact mm_ckp_at ck_X5_readDecimal_0 pc q (by omega) (by omega) h
  · exact absurd h (by unfold kd_X5_readDecimal; rw [mm_blt_f hl]; exact fun z => nomatch z)

theorem cm_X5_readChosen : ∀ pc q, kd_X5_readChosen pc = some q → mm_ck 38 pc q = true := fun pc q h => by
  rcases Nat.lt_or_ge pc 41 with hl | hl
  · exact mm_ckp_at ck_X5_readChosen_0 pc q (by omega) (by omega) h
  · exact absurd h (by unfold kd_X5_readChosen; rw [mm_blt_f hl]; exact fun z => nomatch z)

theorem cm_X5_isFree : ∀ pc q, kd_X5_isFree pc = some q → mm_ck 39 pc q = true := fun pc q h => by
  rcases Nat.lt_or_ge pc 29 with hl | hl
  · exact mm_ckp_at ck_X5_isFree_0 pc q (by omega) (by omega) h
  · exact absurd h (by unfold kd_X5_isFree; rw [mm_blt_f hl]; exact fun z => nomatch z)

theorem cm_X5_keepHoles : ∀ pc q, kd_X5_keepHoles pc = some q → mm_ck 40 pc q = true := fun pc q h => by
  rcases Nat.lt_or_ge pc 31 with hl | hl
  · exact mm_ckp_at ck_X5_keepHoles_0 pc q (by omega) (by omega) h
  · exact absurd h (by unfold kd_X5_keepHoles; rw [mm_blt_f hl]; exact fun z => nomatch z)

theorem cm_X5_readWord : ∀ pc q, kd_X5_readWord pc = some q → mm_ck 41 pc q = true := fun pc q h => by
  rcases Nat.lt_or_ge pc 128 with hl | hl
  · rcases Nat.lt_or_ge pc 100 with h0 | h0
    · exact mm_ckp_at ck_X5_readWord_0 pc q (by omega) (by omega) h
    · exact mm_ckp_at ck_X5_readWord_1 pc q (by omega) (by omega) h
  · exact absurd h (by unfold kd_X5_readWord; rw [mm_blt_f hl]; exact fun z => nomatch z)

theorem cm_X5_readCode : ∀ pc q, kd_X5_readCode pc = some q → mm_ck 42 pc q = true := fun pc q h => by
  rcases Nat.lt_or_ge pc 154 with hl | hl
  · rcases Nat.lt_or_ge pc 100 with h0 | h0
    · exact mm_ckp_at ck_X5_readCode_0 pc q (by omega) (by omega) h
    · exact mm_ckp_at ck_X5_readCode_1 pc q (by omega) (by omega) h
  · exact absurd h (by unfold kd_X5_readCode; rw [mm_blt_f hl]; exact fun z => nomatch z)

theorem cm_X5_isField : ∀ pc q, kd_X5_isField pc = some q → mm_ck 43 pc q = true := fun pc q h => by
  rcases Nat.lt_or_ge pc 18 with hl | hl
  · exact mm_ckp_at ck_X5_isField_0 pc q (by omega) (by omega) h
  · exact absurd h (by unfold kd_X5_isField; rw [mm_blt_f hl]; exact fun z => nomatch z)

theorem cm_X5_isWord : ∀ pc q, kd_X5_isWord pc = some q → mm_ck 44 pc q = true := fun pc q h => by
  rcases Nat.lt_or_ge pc 18 with hl | hl
  · exact mm_ckp_at ck_X5_isWord_0 pc q (by omega) (by omega) h
  · exact absurd h (by unfold kd_X5_isWord; rw [mm_blt_f hl]; exact fun z => nomatch z)

theorem cm_X5_isLaid : ∀ pc q, kd_X5_isLaid pc = some q → mm_ck 45 pc q = true := fun pc q h => by
  rcases Nat.lt_or_ge pc 16 with hl | hl
  · exact mm_ckp_at ck_X5_isLaid_0 pc q (by omega) (by omega) h
  · exact absurd h (by unfold kd_X5_isLaid; rw [mm_blt_f hl]; exact fun z => nomatch z)

theorem cm_X5_isValue : ∀ pc q, kd_X5_isValue pc = some q → mm_ck 46 pc q = true := fun pc q h => by
  rcases Nat.lt_or_ge pc 36 with hl | hl
  · exact mm_ckp_at ck_X5_isValue_0 pc q (by omega) (by omega) h
  · exact absurd h (by unfold kd_X5_isValue; rw [mm_blt_f hl]; exact fun z => nomatch z)

theorem cm_X5_width : ∀ pc q, kd_X5_width pc = some q → mm_ck 47 pc q = true := fun pc q h => by
  rcases Nat.lt_or_ge pc 16 with hl | hl
  · exact mm_ckp_at ck_X5_width_0 pc q (by omega) (by omega) h
  · exact absurd h (by unfold kd_X5_width; rw [mm_blt_f hl]; exact fun z => nomatch z)

theorem cm_X5_spanOf : ∀ pc q, kd_X5_spanOf pc = some q → mm_ck 48 pc q = true := fun pc q h => by
  rcases Nat.lt_or_ge pc 16 with hl | hl
  · exact mm_ckp_at ck_X5_spanOf_0 pc q (by omega) (by omega) h
  · exact absurd h (by unfold kd_X5_spanOf; rw [mm_blt_f hl]; exact fun z => nomatch z)

theorem cm_X5_codeOf : ∀ pc q, kd_X5_codeOf pc = some q → mm_ck 49 pc q = true := fun pc q h => by
  rcases Nat.lt_or_ge pc 77 with hl | hl
  · exact mm_ckp_at ck_X5_codeOf_0 pc q (by omega) (by omega) h
  · exact absurd h (by unfold kd_X5_codeOf; rw [mm_blt_f hl]; exact fun z => nomatch z)

theorem cm_X5_isCodeOf : ∀ pc q, kd_X5_isCodeOf pc = some q → mm_ck 50 pc q = true := fun pc q h => by
  rcases Nat.lt_or_ge pc 40 with hl | hl
  · exact mm_ckp_at ck_X5_isCodeOf_0 pc q (by omega) (by omega) h
  · exact absurd h (by unfold kd_X5_isCodeOf; rw [mm_blt_f hl]; exact fun z => nomatch z)

theorem cm_X5_wordsOf : ∀ pc q, kd_X5_wordsOf pc = some q → mm_ck 51 pc q = true := fun pc q h => by
  rcases Nat.lt_or_ge pc 36 with hl | hl
  · exact mm_ckp_at ck_X5_wordsOf_0 pc q (by omega) (by omega) h
  · exact absurd h (by unfold kd_X5_wordsOf; rw [mm_blt_f hl]; exact fun z => nomatch z)

theorem cm_X5_fieldNamed : ∀ pc q, kd_X5_fieldNamed pc = some q → mm_ck 52 pc q = true := fun pc q h => by
  rcases Nat.lt_or_ge pc 13 with hl | hl
  · exact mm_ckp_at ck_X5_fieldNamed_0 pc q (by omega) (by omega) h
  · exact absurd h (by unfold kd_X5_fieldNamed; rw [mm_blt_f hl]; exact fun z => nomatch z)

theorem cm_X5_wordNamed : ∀ pc q, kd_X5_wordNamed pc = some q → mm_ck 53 pc q = true := fun pc q h => by
  rcases Nat.lt_or_ge pc 13 with hl | hl
  · exact mm_ckp_at ck_X5_wordNamed_0 pc q (by omega) (by omega) h
  · exact absurd h (by unfold kd_X5_wordNamed; rw [mm_blt_f hl]; exact fun z => nomatch z)

theorem cm_X5_find : ∀ pc q, kd_X5_find pc = some q → mm_ck 54 pc q = true := fun pc q h => by
  rcases Nat.lt_or_ge pc 30 with hl | hl
  · exact mm_ckp_at ck_X5_find_0 pc q (by omega) (by omega) h
  · exact absurd h (by unfold kd_X5_find; rw [mm_blt_f hl]; exact fun z => nomatch z)

theorem cm_X6_init : ∀ pc q, kd_X6_init pc = some q → mm_ck 55 pc q = true := fun pc q h => by
  rcases Nat.lt_or_ge pc 37 with hl | hl
  · exact mm_ckp_at ck_X6_init_0 pc q (by omega) (by omega) h
  · exact absurd h (by unfold kd_X6_init; rw [mm_blt_f hl]; exact fun z => nomatch z)

theorem cm_X6_clear : ∀ pc q, kd_X6_clear pc = some q → mm_ck 56 pc q = true := fun pc q h => by
  rcases Nat.lt_or_ge pc 11 with hl | hl
  · exact mm_ckp_at ck_X6_clear_0 pc q (by omega) (by omega) h
  · exact absurd h (by unfold kd_X6_clear; rw [mm_blt_f hl]; exact fun z => nomatch z)

theorem cm_X6_read : ∀ pc q, kd_X6_read pc = some q → mm_ck 57 pc q = true := fun pc q h => by
  rcases Nat.lt_or_ge pc 27 with hl | hl
  · exact mm_ckp_at ck_X6_read_0 pc q (by omega) (by omega) h
  · exact absurd h (by unfold kd_X6_read; rw [mm_blt_f hl]; exact fun z => nomatch z)

theorem cm_X6_readEither : ∀ pc q, kd_X6_readEither pc = some q → mm_ck 58 pc q = true := fun pc q h => by
  rcases Nat.lt_or_ge pc 66 with hl | hl
  · exact mm_ckp_at ck_X6_readEither_0 pc q (by omega) (by omega) h
  · exact absurd h (by unfold kd_X6_readEither; rw [mm_blt_f hl]; exact fun z => nomatch z)

theorem cm_X6_readBoth : ∀ pc q, kd_X6_readBoth pc = some q → mm_ck 59 pc q = true := fun pc q h => by
  rcases Nat.lt_or_ge pc 66 with hl | hl
  · exact mm_ckp_at ck_X6_readBoth_0 pc q (by omega) (by omega) h
  · exact absurd h (by unfold kd_X6_readBoth; rw [mm_blt_f hl]; exact fun z => nomatch z)

theorem cm_X6_readPart : ∀ pc q, kd_X6_readPart pc = some q → mm_ck 60 pc q = true := fun pc q h => by
  rcases Nat.lt_or_ge pc 93 with hl | hl
  · exact mm_ckp_at ck_X6_readPart_0 pc q (by omega) (by omega) h
  · exact absurd h (by unfold kd_X6_readPart; rw [mm_blt_f hl]; exact fun z => nomatch z)

theorem cm_X6_readInner : ∀ pc q, kd_X6_readInner pc = some q → mm_ck 61 pc q = true := fun pc q h => by
  rcases Nat.lt_or_ge pc 43 with hl | hl
  · exact mm_ckp_at ck_X6_readInner_0 pc q (by omega) (by omega) h
  · exact absurd h (by unfold kd_X6_readInner; rw [mm_blt_f hl]; exact fun z => nomatch z)

theorem cm_X6_readName : ∀ pc q, kd_X6_readName pc = some q → mm_ck 62 pc q = true := fun pc q h => by
  rcases Nat.lt_or_ge pc 154 with hl | hl
  · rcases Nat.lt_or_ge pc 100 with h0 | h0
    · exact mm_ckp_at ck_X6_readName_0 pc q (by omega) (by omega) h
    · exact mm_ckp_at ck_X6_readName_1 pc q (by omega) (by omega) h
  · exact absurd h (by unfold kd_X6_readName; rw [mm_blt_f hl]; exact fun z => nomatch z)

theorem cm_X6_passKnot : ∀ pc q, kd_X6_passKnot pc = some q → mm_ck 63 pc q = true := fun pc q h => by
  rcases Nat.lt_or_ge pc 31 with hl | hl
  · exact mm_ckp_at ck_X6_passKnot_0 pc q (by omega) (by omega) h
  · exact absurd h (by unfold kd_X6_passKnot; rw [mm_blt_f hl]; exact fun z => nomatch z)

theorem cm_X6_layDown : ∀ pc q, kd_X6_layDown pc = some q → mm_ck 64 pc q = true := fun pc q h => by
  rcases Nat.lt_or_ge pc 50 with hl | hl
  · exact mm_ckp_at ck_X6_layDown_0 pc q (by omega) (by omega) h
  · exact absurd h (by unfold kd_X6_layDown; rw [mm_blt_f hl]; exact fun z => nomatch z)

theorem cm_X6_answer : ∀ pc q, kd_X6_answer pc = some q → mm_ck 65 pc q = true := fun pc q h => by
  rcases Nat.lt_or_ge pc 212 with hl | hl
  · rcases Nat.lt_or_ge pc 100 with h0 | h0
    · exact mm_ckp_at ck_X6_answer_0 pc q (by omega) (by omega) h
    · rcases Nat.lt_or_ge pc 200 with h1 | h1
      · exact mm_ckp_at ck_X6_answer_1 pc q (by omega) (by omega) h
      · exact mm_ckp_at ck_X6_answer_2 pc q (by omega) (by omega) h
  · exact absurd h (by unfold kd_X6_answer; rw [mm_blt_f hl]; exact fun z => nomatch z)

theorem cm_X6_cardsByHoles : ∀ pc q, kd_X6_cardsByHoles pc = some q → mm_ck 66 pc q = true := fun pc q h => by
  rcases Nat.lt_or_ge pc 99 with hl | hl
  · exact mm_ckp_at ck_X6_cardsByHoles_0 pc q (by omega) (by omega) h
  · exact absurd h (by unfold kd_X6_cardsByHoles; rw [mm_blt_f hl]; exact fun z => nomatch z)

theorem cm_X6_cardsInTruth : ∀ pc q, kd_X6_cardsInTruth pc = some q → mm_ck 67 pc q = true := fun pc q h => by
  rcases Nat.lt_or_ge pc 100 with hl | hl
  · exact mm_ckp_at ck_X6_cardsInTruth_0 pc q (by omega) (by omega) h
  · exact absurd h (by unfold kd_X6_cardsInTruth; rw [mm_blt_f hl]; exact fun z => nomatch z)

theorem cm_X7_init : ∀ pc q, kd_X7_init pc = some q → mm_ck 68 pc q = true := fun pc q h => by
  rcases Nat.lt_or_ge pc 53 with hl | hl
  · exact mm_ckp_at ck_X7_init_0 pc q (by omega) (by omega) h
  · exact absurd h (by unfold kd_X7_init; rw [mm_blt_f hl]; exact fun z => nomatch z)

theorem cm_X7_take : ∀ pc q, kd_X7_take pc = some q → mm_ck 69 pc q = true := fun pc q h => by
  rcases Nat.lt_or_ge pc 103 with hl | hl
  · rcases Nat.lt_or_ge pc 100 with h0 | h0
    · exact mm_ckp_at ck_X7_take_0 pc q (by omega) (by omega) h
    · exact mm_ckp_at ck_X7_take_1 pc q (by omega) (by omega) h
  · exact absurd h (by unfold kd_X7_take; rw [mm_blt_f hl]; exact fun z => nomatch z)

theorem cm_X7_fewestMoves : ∀ pc q, kd_X7_fewestMoves pc = some q → mm_ck 70 pc q = true := fun pc q h => by
  rcases Nat.lt_or_ge pc 94 with hl | hl
  · exact mm_ckp_at ck_X7_fewestMoves_0 pc q (by omega) (by omega) h
  · exact absurd h (by unfold kd_X7_fewestMoves; rw [mm_blt_f hl]; exact fun z => nomatch z)

theorem cm_X7_findRow : ∀ pc q, kd_X7_findRow pc = some q → mm_ck 71 pc q = true := fun pc q h => by
  rcases Nat.lt_or_ge pc 144 with hl | hl
  · rcases Nat.lt_or_ge pc 100 with h0 | h0
    · exact mm_ckp_at ck_X7_findRow_0 pc q (by omega) (by omega) h
    · exact mm_ckp_at ck_X7_findRow_1 pc q (by omega) (by omega) h
  · exact absurd h (by unfold kd_X7_findRow; rw [mm_blt_f hl]; exact fun z => nomatch z)

theorem cm_X7_firstRow : ∀ pc q, kd_X7_firstRow pc = some q → mm_ck 72 pc q = true := fun pc q h => by
  rcases Nat.lt_or_ge pc 75 with hl | hl
  · exact mm_ckp_at ck_X7_firstRow_0 pc q (by omega) (by omega) h
  · exact absurd h (by unfold kd_X7_firstRow; rw [mm_blt_f hl]; exact fun z => nomatch z)

theorem cm_X7_isParting : ∀ pc q, kd_X7_isParting pc = some q → mm_ck 73 pc q = true := fun pc q h => by
  rcases Nat.lt_or_ge pc 155 with hl | hl
  · rcases Nat.lt_or_ge pc 100 with h0 | h0
    · exact mm_ckp_at ck_X7_isParting_0 pc q (by omega) (by omega) h
    · exact mm_ckp_at ck_X7_isParting_1 pc q (by omega) (by omega) h
  · exact absurd h (by unfold kd_X7_isParting; rw [mm_blt_f hl]; exact fun z => nomatch z)

theorem cm_X7_isOrdered : ∀ pc q, kd_X7_isOrdered pc = some q → mm_ck 74 pc q = true := fun pc q h => by
  rcases Nat.lt_or_ge pc 92 with hl | hl
  · exact mm_ckp_at ck_X7_isOrdered_0 pc q (by omega) (by omega) h
  · exact absurd h (by unfold kd_X7_isOrdered; rw [mm_blt_f hl]; exact fun z => nomatch z)

theorem cm_X7_holeOfPass : ∀ pc q, kd_X7_holeOfPass pc = some q → mm_ck 75 pc q = true := fun pc q h => by
  rcases Nat.lt_or_ge pc 19 with hl | hl
  · exact mm_ckp_at ck_X7_holeOfPass_0 pc q (by omega) (by omega) h
  · exact absurd h (by unfold kd_X7_holeOfPass; rw [mm_blt_f hl]; exact fun z => nomatch z)

theorem cm_X8_init : ∀ pc q, kd_X8_init pc = some q → mm_ck 76 pc q = true := fun pc q h => by
  rcases Nat.lt_or_ge pc 46 with hl | hl
  · exact mm_ckp_at ck_X8_init_0 pc q (by omega) (by omega) h
  · exact absurd h (by unfold kd_X8_init; rw [mm_blt_f hl]; exact fun z => nomatch z)

theorem cm_X8_append : ∀ pc q, kd_X8_append pc = some q → mm_ck 77 pc q = true := fun pc q h => by
  rcases Nat.lt_or_ge pc 49 with hl | hl
  · exact mm_ckp_at ck_X8_append_0 pc q (by omega) (by omega) h
  · exact absurd h (by unfold kd_X8_append; rw [mm_blt_f hl]; exact fun z => nomatch z)

theorem cm_X8_begin : ∀ pc q, kd_X8_begin pc = some q → mm_ck 78 pc q = true := fun pc q h => by
  rcases Nat.lt_or_ge pc 45 with hl | hl
  · exact mm_ckp_at ck_X8_begin_0 pc q (by omega) (by omega) h
  · exact absurd h (by unfold kd_X8_begin; rw [mm_blt_f hl]; exact fun z => nomatch z)

theorem cm_X8_split : ∀ pc q, kd_X8_split pc = some q → mm_ck 79 pc q = true := fun pc q h => by
  rcases Nat.lt_or_ge pc 104 with hl | hl
  · rcases Nat.lt_or_ge pc 100 with h0 | h0
    · exact mm_ckp_at ck_X8_split_0 pc q (by omega) (by omega) h
    · exact mm_ckp_at ck_X8_split_1 pc q (by omega) (by omega) h
  · exact absurd h (by unfold kd_X8_split; rw [mm_blt_f hl]; exact fun z => nomatch z)

theorem cm_X8_splitLetters : ∀ pc q, kd_X8_splitLetters pc = some q → mm_ck 80 pc q = true := fun pc q h => by
  rcases Nat.lt_or_ge pc 100 with hl | hl
  · exact mm_ckp_at ck_X8_splitLetters_0 pc q (by omega) (by omega) h
  · exact absurd h (by unfold kd_X8_splitLetters; rw [mm_blt_f hl]; exact fun z => nomatch z)

theorem cm_X8_splitDigits : ∀ pc q, kd_X8_splitDigits pc = some q → mm_ck 81 pc q = true := fun pc q h => by
  rcases Nat.lt_or_ge pc 59 with hl | hl
  · exact mm_ckp_at ck_X8_splitDigits_0 pc q (by omega) (by omega) h
  · exact absurd h (by unfold kd_X8_splitDigits; rw [mm_blt_f hl]; exact fun z => nomatch z)

theorem cm_X8_add : ∀ pc q, kd_X8_add pc = some q → mm_ck 82 pc q = true := fun pc q h => by
  rcases Nat.lt_or_ge pc 53 with hl | hl
  · exact mm_ckp_at ck_X8_add_0 pc q (by omega) (by omega) h
  · exact absurd h (by unfold kd_X8_add; rw [mm_blt_f hl]; exact fun z => nomatch z)

theorem cm_X8_advance : ∀ pc q, kd_X8_advance pc = some q → mm_ck 83 pc q = true := fun pc q h => by
  rcases Nat.lt_or_ge pc 63 with hl | hl
  · exact mm_ckp_at ck_X8_advance_0 pc q (by omega) (by omega) h
  · exact absurd h (by unfold kd_X8_advance; rw [mm_blt_f hl]; exact fun z => nomatch z)

theorem cm_X8_fail : ∀ pc q, kd_X8_fail pc = some q → mm_ck 84 pc q = true := fun pc q h => by
  rcases Nat.lt_or_ge pc 15 with hl | hl
  · exact mm_ckp_at ck_X8_fail_0 pc q (by omega) (by omega) h
  · exact absurd h (by unfold kd_X8_fail; rw [mm_blt_f hl]; exact fun z => nomatch z)

theorem cm_X8_failAt : ∀ pc q, kd_X8_failAt pc = some q → mm_ck 85 pc q = true := fun pc q h => by
  rcases Nat.lt_or_ge pc 12 with hl | hl
  · exact mm_ckp_at ck_X8_failAt_0 pc q (by omega) (by omega) h
  · exact absurd h (by unfold kd_X8_failAt; rw [mm_blt_f hl]; exact fun z => nomatch z)

theorem cm_X8_isAt : ∀ pc q, kd_X8_isAt pc = some q → mm_ck 86 pc q = true := fun pc q h => by
  rcases Nat.lt_or_ge pc 22 with hl | hl
  · exact mm_ckp_at ck_X8_isAt_0 pc q (by omega) (by omega) h
  · exact absurd h (by unfold kd_X8_isAt; rw [mm_blt_f hl]; exact fun z => nomatch z)

theorem cm_X8_isEnded : ∀ pc q, kd_X8_isEnded pc = some q → mm_ck 87 pc q = true := fun pc q h => by
  rcases Nat.lt_or_ge pc 21 with hl | hl
  · exact mm_ckp_at ck_X8_isEnded_0 pc q (by omega) (by omega) h
  · exact absurd h (by unfold kd_X8_isEnded; rw [mm_blt_f hl]; exact fun z => nomatch z)

theorem cm_X8_isNumber : ∀ pc q, kd_X8_isNumber pc = some q → mm_ck 88 pc q = true := fun pc q h => by
  rcases Nat.lt_or_ge pc 44 with hl | hl
  · exact mm_ckp_at ck_X8_isNumber_0 pc q (by omega) (by omega) h
  · exact absurd h (by unfold kd_X8_isNumber; rw [mm_blt_f hl]; exact fun z => nomatch z)

theorem cm_X8_passWord : ∀ pc q, kd_X8_passWord pc = some q → mm_ck 89 pc q = true := fun pc q h => by
  rcases Nat.lt_or_ge pc 20 with hl | hl
  · exact mm_ckp_at ck_X8_passWord_0 pc q (by omega) (by omega) h
  · exact absurd h (by unfold kd_X8_passWord; rw [mm_blt_f hl]; exact fun z => nomatch z)

theorem cm_X8_passSign : ∀ pc q, kd_X8_passSign pc = some q → mm_ck 90 pc q = true := fun pc q h => by
  rcases Nat.lt_or_ge pc 20 with hl | hl
  · exact mm_ckp_at ck_X8_passSign_0 pc q (by omega) (by omega) h
  · exact absurd h (by unfold kd_X8_passSign; rw [mm_blt_f hl]; exact fun z => nomatch z)

theorem cm_X8_signAt : ∀ pc q, kd_X8_signAt pc = some q → mm_ck 91 pc q = true := fun pc q h => by
  rcases Nat.lt_or_ge pc 28 with hl | hl
  · exact mm_ckp_at ck_X8_signAt_0 pc q (by omega) (by omega) h
  · exact absurd h (by unfold kd_X8_signAt; rw [mm_blt_f hl]; exact fun z => nomatch z)

theorem cm_X8_isBlank : ∀ pc q, kd_X8_isBlank pc = some q → mm_ck 92 pc q = true := fun pc q h => by
  rcases Nat.lt_or_ge pc 18 with hl | hl
  · exact mm_ckp_at ck_X8_isBlank_0 pc q (by omega) (by omega) h
  · exact absurd h (by unfold kd_X8_isBlank; rw [mm_blt_f hl]; exact fun z => nomatch z)

theorem cm_X8_isLetter : ∀ pc q, kd_X8_isLetter pc = some q → mm_ck 93 pc q = true := fun pc q h => by
  rcases Nat.lt_or_ge pc 18 with hl | hl
  · exact mm_ckp_at ck_X8_isLetter_0 pc q (by omega) (by omega) h
  · exact absurd h (by unfold kd_X8_isLetter; rw [mm_blt_f hl]; exact fun z => nomatch z)

theorem cm_X8_isDigit : ∀ pc q, kd_X8_isDigit pc = some q → mm_ck 94 pc q = true := fun pc q h => by
  rcases Nat.lt_or_ge pc 18 with hl | hl
  · exact mm_ckp_at ck_X8_isDigit_0 pc q (by omega) (by omega) h
  · exact absurd h (by unfold kd_X8_isDigit; rw [mm_blt_f hl]; exact fun z => nomatch z)

theorem cm_X8_isSign : ∀ pc q, kd_X8_isSign pc = some q → mm_ck 95 pc q = true := fun pc q h => by
  rcases Nat.lt_or_ge pc 30 with hl | hl
  · exact mm_ckp_at ck_X8_isSign_0 pc q (by omega) (by omega) h
  · exact absurd h (by unfold kd_X8_isSign; rw [mm_blt_f hl]; exact fun z => nomatch z)

theorem cm_X8_isOfLanguage : ∀ pc q, kd_X8_isOfLanguage pc = some q → mm_ck 96 pc q = true := fun pc q h => by
  rcases Nat.lt_or_ge pc 35 with hl | hl
  · exact mm_ckp_at ck_X8_isOfLanguage_0 pc q (by omega) (by omega) h
  · exact absurd h (by unfold kd_X8_isOfLanguage; rw [mm_blt_f hl]; exact fun z => nomatch z)

theorem cm_X9_init : ∀ pc q, kd_X9_init pc = some q → mm_ck 97 pc q = true := fun pc q h => by
  rcases Nat.lt_or_ge pc 61 with hl | hl
  · exact mm_ckp_at ck_X9_init_0 pc q (by omega) (by omega) h
  · exact absurd h (by unfold kd_X9_init; rw [mm_blt_f hl]; exact fun z => nomatch z)

theorem cm_X9_read : ∀ pc q, kd_X9_read pc = some q → mm_ck 98 pc q = true := fun pc q h => by
  rcases Nat.lt_or_ge pc 29 with hl | hl
  · exact mm_ckp_at ck_X9_read_0 pc q (by omega) (by omega) h
  · exact absurd h (by unfold kd_X9_read; rw [mm_blt_f hl]; exact fun z => nomatch z)

theorem cm_X9_readSteps : ∀ pc q, kd_X9_readSteps pc = some q → mm_ck 99 pc q = true := fun pc q h => by
  rcases Nat.lt_or_ge pc 40 with hl | hl
  · exact mm_ckp_at ck_X9_readSteps_0 pc q (by omega) (by omega) h
  · exact absurd h (by unfold kd_X9_readSteps; rw [mm_blt_f hl]; exact fun z => nomatch z)

theorem cm_X9_readStep : ∀ pc q, kd_X9_readStep pc = some q → mm_ck 100 pc q = true := fun pc q h => by
  rcases Nat.lt_or_ge pc 144 with hl | hl
  · rcases Nat.lt_or_ge pc 100 with h0 | h0
    · exact mm_ckp_at ck_X9_readStep_0 pc q (by omega) (by omega) h
    · exact mm_ckp_at ck_X9_readStep_1 pc q (by omega) (by omega) h
  · exact absurd h (by unfold kd_X9_readStep; rw [mm_blt_f hl]; exact fun z => nomatch z)

theorem cm_X9_readPass : ∀ pc q, kd_X9_readPass pc = some q → mm_ck 101 pc q = true := fun pc q h => by
  rcases Nat.lt_or_ge pc 133 with hl | hl
  · rcases Nat.lt_or_ge pc 100 with h0 | h0
    · exact mm_ckp_at ck_X9_readPass_0 pc q (by omega) (by omega) h
    · exact mm_ckp_at ck_X9_readPass_1 pc q (by omega) (by omega) h
  · exact absurd h (by unfold kd_X9_readPass; rw [mm_blt_f hl]; exact fun z => nomatch z)

theorem cm_X9_readPack : ∀ pc q, kd_X9_readPack pc = some q → mm_ck 102 pc q = true := fun pc q h => by
  rcases Nat.lt_or_ge pc 65 with hl | hl
  · exact mm_ckp_at ck_X9_readPack_0 pc q (by omega) (by omega) h
  · exact absurd h (by unfold kd_X9_readPack; rw [mm_blt_f hl]; exact fun z => nomatch z)

theorem cm_X9_readNeedle : ∀ pc q, kd_X9_readNeedle pc = some q → mm_ck 103 pc q = true := fun pc q h => by
  rcases Nat.lt_or_ge pc 146 with hl | hl
  · rcases Nat.lt_or_ge pc 100 with h0 | h0
    · exact mm_ckp_at ck_X9_readNeedle_0 pc q (by omega) (by omega) h
    · exact mm_ckp_at ck_X9_readNeedle_1 pc q (by omega) (by omega) h
  · exact absurd h (by unfold kd_X9_readNeedle; rw [mm_blt_f hl]; exact fun z => nomatch z)

theorem cm_X9_readJoin : ∀ pc q, kd_X9_readJoin pc = some q → mm_ck 104 pc q = true := fun pc q h => by
  rcases Nat.lt_or_ge pc 64 with hl | hl
  · exact mm_ckp_at ck_X9_readJoin_0 pc q (by omega) (by omega) h
  · exact absurd h (by unfold kd_X9_readJoin; rw [mm_blt_f hl]; exact fun z => nomatch z)

theorem cm_X9_readAgain : ∀ pc q, kd_X9_readAgain pc = some q → mm_ck 105 pc q = true := fun pc q h => by
  rcases Nat.lt_or_ge pc 86 with hl | hl
  · exact mm_ckp_at ck_X9_readAgain_0 pc q (by omega) (by omega) h
  · exact absurd h (by unfold kd_X9_readAgain; rw [mm_blt_f hl]; exact fun z => nomatch z)

theorem cm_X9_isDoneBy : ∀ pc q, kd_X9_isDoneBy pc = some q → mm_ck 106 pc q = true := fun pc q h => by
  rcases Nat.lt_or_ge pc 39 with hl | hl
  · exact mm_ckp_at ck_X9_isDoneBy_0 pc q (by omega) (by omega) h
  · exact absurd h (by unfold kd_X9_isDoneBy; rw [mm_blt_f hl]; exact fun z => nomatch z)

theorem cm_X9_doSteps : ∀ pc q, kd_X9_doSteps pc = some q → mm_ck 107 pc q = true := fun pc q h => by
  rcases Nat.lt_or_ge pc 87 with hl | hl
  · exact mm_ckp_at ck_X9_doSteps_0 pc q (by omega) (by omega) h
  · exact absurd h (by unfold kd_X9_doSteps; rw [mm_blt_f hl]; exact fun z => nomatch z)

theorem cm_X9_doStep : ∀ pc q, kd_X9_doStep pc = some q → mm_ck 108 pc q = true := fun pc q h => by
  rcases Nat.lt_or_ge pc 134 with hl | hl
  · rcases Nat.lt_or_ge pc 100 with h0 | h0
    · exact mm_ckp_at ck_X9_doStep_0 pc q (by omega) (by omega) h
    · exact mm_ckp_at ck_X9_doStep_1 pc q (by omega) (by omega) h
  · exact absurd h (by unfold kd_X9_doStep; rw [mm_blt_f hl]; exact fun z => nomatch z)

theorem cm_X10_init : ∀ pc q, kd_X10_init pc = some q → mm_ck 109 pc q = true := fun pc q h => by
  rcases Nat.lt_or_ge pc 142 with hl | hl
  · rcases Nat.lt_or_ge pc 100 with h0 | h0
    · exact mm_ckp_at ck_X10_init_0 pc q (by omega) (by omega) h
    · exact mm_ckp_at ck_X10_init_1 pc q (by omega) (by omega) h
  · exact absurd h (by unfold kd_X10_init; rw [mm_blt_f hl]; exact fun z => nomatch z)

theorem cm_X10_feed : ∀ pc q, kd_X10_feed pc = some q → mm_ck 110 pc q = true := fun pc q h => by
  rcases Nat.lt_or_ge pc 65 with hl | hl
  · exact mm_ckp_at ck_X10_feed_0 pc q (by omega) (by omega) h
  · exact absurd h (by unfold kd_X10_feed; rw [mm_blt_f hl]; exact fun z => nomatch z)

theorem cm_X10_plan : ∀ pc q, kd_X10_plan pc = some q → mm_ck 111 pc q = true := fun pc q h => by
  rcases Nat.lt_or_ge pc 83 with hl | hl
  · exact mm_ckp_at ck_X10_plan_0 pc q (by omega) (by omega) h
  · exact absurd h (by unfold kd_X10_plan; rw [mm_blt_f hl]; exact fun z => nomatch z)

theorem cm_X10_work : ∀ pc q, kd_X10_work pc = some q → mm_ck 112 pc q = true := fun pc q h => by
  rcases Nat.lt_or_ge pc 80 with hl | hl
  · exact mm_ckp_at ck_X10_work_0 pc q (by omega) (by omega) h
  · exact absurd h (by unfold kd_X10_work; rw [mm_blt_f hl]; exact fun z => nomatch z)

theorem cm_X10_question : ∀ pc q, kd_X10_question pc = some q → mm_ck 113 pc q = true := fun pc q h => by
  rcases Nat.lt_or_ge pc 60 with hl | hl
  · exact mm_ckp_at ck_X10_question_0 pc q (by omega) (by omega) h
  · exact absurd h (by unfold kd_X10_question; rw [mm_blt_f hl]; exact fun z => nomatch z)

theorem cm_X10_fault : ∀ pc q, kd_X10_fault pc = some q → mm_ck 114 pc q = true := fun pc q h => by
  rcases Nat.lt_or_ge pc 29 with hl | hl
  · exact mm_ckp_at ck_X10_fault_0 pc q (by omega) (by omega) h
  · exact absurd h (by unfold kd_X10_fault; rw [mm_blt_f hl]; exact fun z => nomatch z)

theorem cm_X10_named : ∀ pc q, kd_X10_named pc = some q → mm_ck 115 pc q = true := fun pc q h => by
  rcases Nat.lt_or_ge pc 31 with hl | hl
  · exact mm_ckp_at ck_X10_named_0 pc q (by omega) (by omega) h
  · exact absurd h (by unfold kd_X10_named; rw [mm_blt_f hl]; exact fun z => nomatch z)

theorem cm_X10_code : ∀ pc q, kd_X10_code pc = some q → mm_ck 116 pc q = true := fun pc q h => by
  rcases Nat.lt_or_ge pc 10 with hl | hl
  · exact mm_ckp_at ck_X10_code_0 pc q (by omega) (by omega) h
  · exact absurd h (by unfold kd_X10_code; rw [mm_blt_f hl]; exact fun z => nomatch z)

theorem cm_X10_coded : ∀ pc q, kd_X10_coded pc = some q → mm_ck 117 pc q = true := fun pc q h => by
  rcases Nat.lt_or_ge pc 36 with hl | hl
  · exact mm_ckp_at ck_X10_coded_0 pc q (by omega) (by omega) h
  · exact absurd h (by unfold kd_X10_coded; rw [mm_blt_f hl]; exact fun z => nomatch z)

theorem cm_X10_card : ∀ pc q, kd_X10_card pc = some q → mm_ck 118 pc q = true := fun pc q h => by
  rcases Nat.lt_or_ge pc 40 with hl | hl
  · exact mm_ckp_at ck_X10_card_0 pc q (by omega) (by omega) h
  · exact absurd h (by unfold kd_X10_card; rw [mm_blt_f hl]; exact fun z => nomatch z)

theorem cm_X10_set : ∀ pc q, kd_X10_set pc = some q → mm_ck 119 pc q = true := fun pc q h => by
  rcases Nat.lt_or_ge pc 34 with hl | hl
  · exact mm_ckp_at ck_X10_set_0 pc q (by omega) (by omega) h
  · exact absurd h (by unfold kd_X10_set; rw [mm_blt_f hl]; exact fun z => nomatch z)

theorem cm_X10_put : ∀ pc q, kd_X10_put pc = some q → mm_ck 120 pc q = true := fun pc q h => by
  rcases Nat.lt_or_ge pc 33 with hl | hl
  · exact mm_ckp_at ck_X10_put_0 pc q (by omega) (by omega) h
  · exact absurd h (by unfold kd_X10_put; rw [mm_blt_f hl]; exact fun z => nomatch z)

theorem cm_X10_tear : ∀ pc q, kd_X10_tear pc = some q → mm_ck 121 pc q = true := fun pc q h => by
  rcases Nat.lt_or_ge pc 45 with hl | hl
  · exact mm_ckp_at ck_X10_tear_0 pc q (by omega) (by omega) h
  · exact absurd h (by unfold kd_X10_tear; rw [mm_blt_f hl]; exact fun z => nomatch z)

theorem cm_X10_recode : ∀ pc q, kd_X10_recode pc = some q → mm_ck 122 pc q = true := fun pc q h => by
  rcases Nat.lt_or_ge pc 37 with hl | hl
  · exact mm_ckp_at ck_X10_recode_0 pc q (by omega) (by omega) h
  · exact absurd h (by unfold kd_X10_recode; rw [mm_blt_f hl]; exact fun z => nomatch z)

theorem cm_X10_strike : ∀ pc q, kd_X10_strike pc = some q → mm_ck 123 pc q = true := fun pc q h => by
  rcases Nat.lt_or_ge pc 29 with hl | hl
  · exact mm_ckp_at ck_X10_strike_0 pc q (by omega) (by omega) h
  · exact absurd h (by unfold kd_X10_strike; rw [mm_blt_f hl]; exact fun z => nomatch z)

theorem cm_X10_notched : ∀ pc q, kd_X10_notched pc = some q → mm_ck 124 pc q = true := fun pc q h => by
  rcases Nat.lt_or_ge pc 35 with hl | hl
  · exact mm_ckp_at ck_X10_notched_0 pc q (by omega) (by omega) h
  · exact absurd h (by unfold kd_X10_notched; rw [mm_blt_f hl]; exact fun z => nomatch z)

theorem cm_X10_truly : ∀ pc q, kd_X10_truly pc = some q → mm_ck 125 pc q = true := fun pc q h => by
  rcases Nat.lt_or_ge pc 75 with hl | hl
  · exact mm_ckp_at ck_X10_truly_0 pc q (by omega) (by omega) h
  · exact absurd h (by unfold kd_X10_truly; rw [mm_blt_f hl]; exact fun z => nomatch z)

theorem cm_X10_turn : ∀ pc q, kd_X10_turn pc = some q → mm_ck 126 pc q = true := fun pc q h => by
  rcases Nat.lt_or_ge pc 27 with hl | hl
  · exact mm_ckp_at ck_X10_turn_0 pc q (by omega) (by omega) h
  · exact absurd h (by unfold kd_X10_turn; rw [mm_blt_f hl]; exact fun z => nomatch z)

theorem cm_X10_turned : ∀ pc q, kd_X10_turned pc = some q → mm_ck 127 pc q = true := fun pc q h => by
  rcases Nat.lt_or_ge pc 8 with hl | hl
  · exact mm_ckp_at ck_X10_turned_0 pc q (by omega) (by omega) h
  · exact absurd h (by unfold kd_X10_turned; rw [mm_blt_f hl]; exact fun z => nomatch z)

theorem cm_X10_pack : ∀ pc q, kd_X10_pack pc = some q → mm_ck 128 pc q = true := fun pc q h => by
  rcases Nat.lt_or_ge pc 38 with hl | hl
  · exact mm_ckp_at ck_X10_pack_0 pc q (by omega) (by omega) h
  · exact absurd h (by unfold kd_X10_pack; rw [mm_blt_f hl]; exact fun z => nomatch z)

theorem cm_X10_drops : ∀ pc q, kd_X10_drops pc = some q → mm_ck 129 pc q = true := fun pc q h => by
  rcases Nat.lt_or_ge pc 55 with hl | hl
  · exact mm_ckp_at ck_X10_drops_0 pc q (by omega) (by omega) h
  · exact absurd h (by unfold kd_X10_drops; rw [mm_blt_f hl]; exact fun z => nomatch z)

theorem cm_X10_gather : ∀ pc q, kd_X10_gather pc = some q → mm_ck 130 pc q = true := fun pc q h => by
  rcases Nat.lt_or_ge pc 37 with hl | hl
  · exact mm_ckp_at ck_X10_gather_0 pc q (by omega) (by omega) h
  · exact absurd h (by unfold kd_X10_gather; rw [mm_blt_f hl]; exact fun z => nomatch z)

theorem cm_X10_ask : ∀ pc q, kd_X10_ask pc = some q → mm_ck 131 pc q = true := fun pc q h => by
  rcases Nat.lt_or_ge pc 123 with hl | hl
  · rcases Nat.lt_or_ge pc 100 with h0 | h0
    · exact mm_ckp_at ck_X10_ask_0 pc q (by omega) (by omega) h
    · exact mm_ckp_at ck_X10_ask_1 pc q (by omega) (by omega) h
  · exact absurd h (by unfold kd_X10_ask; rw [mm_blt_f hl]; exact fun z => nomatch z)

theorem cm_X10_likely : ∀ pc q, kd_X10_likely pc = some q → mm_ck 132 pc q = true := fun pc q h => by
  rcases Nat.lt_or_ge pc 150 with hl | hl
  · rcases Nat.lt_or_ge pc 100 with h0 | h0
    · exact mm_ckp_at ck_X10_likely_0 pc q (by omega) (by omega) h
    · exact mm_ckp_at ck_X10_likely_1 pc q (by omega) (by omega) h
  · exact absurd h (by unfold kd_X10_likely; rw [mm_blt_f hl]; exact fun z => nomatch z)

theorem cm_X10_falsely : ∀ pc q, kd_X10_falsely pc = some q → mm_ck 133 pc q = true := fun pc q h => by
  rcases Nat.lt_or_ge pc 85 with hl | hl
  · exact mm_ckp_at ck_X10_falsely_0 pc q (by omega) (by omega) h
  · exact absurd h (by unfold kd_X10_falsely; rw [mm_blt_f hl]; exact fun z => nomatch z)

theorem cm_X10_best : ∀ pc q, kd_X10_best pc = some q → mm_ck 134 pc q = true := fun pc q h => by
  rcases Nat.lt_or_ge pc 47 with hl | hl
  · exact mm_ckp_at ck_X10_best_0 pc q (by omega) (by omega) h
  · exact absurd h (by unfold kd_X10_best; rw [mm_blt_f hl]; exact fun z => nomatch z)

theorem cm_X10_means : ∀ pc q, kd_X10_means pc = some q → mm_ck 135 pc q = true := fun pc q h => by
  rcases Nat.lt_or_ge pc 150 with hl | hl
  · rcases Nat.lt_or_ge pc 100 with h0 | h0
    · exact mm_ckp_at ck_X10_means_0 pc q (by omega) (by omega) h
    · exact mm_ckp_at ck_X10_means_1 pc q (by omega) (by omega) h
  · exact absurd h (by unfold kd_X10_means; rw [mm_blt_f hl]; exact fun z => nomatch z)

theorem cm_X10_behind : ∀ pc q, kd_X10_behind pc = some q → mm_ck 136 pc q = true := fun pc q h => by
  rcases Nat.lt_or_ge pc 64 with hl | hl
  · exact mm_ckp_at ck_X10_behind_0 pc q (by omega) (by omega) h
  · exact absurd h (by unfold kd_X10_behind; rw [mm_blt_f hl]; exact fun z => nomatch z)

theorem cm_X10_sort : ∀ pc q, kd_X10_sort pc = some q → mm_ck 137 pc q = true := fun pc q h => by
  rcases Nat.lt_or_ge pc 154 with hl | hl
  · rcases Nat.lt_or_ge pc 100 with h0 | h0
    · exact mm_ckp_at ck_X10_sort_0 pc q (by omega) (by omega) h
    · exact mm_ckp_at ck_X10_sort_1 pc q (by omega) (by omega) h
  · exact absurd h (by unfold kd_X10_sort; rw [mm_blt_f hl]; exact fun z => nomatch z)

theorem cm_X10_count : ∀ pc q, kd_X10_count pc = some q → mm_ck 138 pc q = true := fun pc q h => by
  rcases Nat.lt_or_ge pc 111 with hl | hl
  · rcases Nat.lt_or_ge pc 100 with h0 | h0
    · exact mm_ckp_at ck_X10_count_0 pc q (by omega) (by omega) h
    · exact mm_ckp_at ck_X10_count_1 pc q (by omega) (by omega) h
  · exact absurd h (by unfold kd_X10_count; rw [mm_blt_f hl]; exact fun z => nomatch z)

theorem cm_X10_isBy : ∀ pc q, kd_X10_isBy pc = some q → mm_ck 139 pc q = true := fun pc q h => by
  rcases Nat.lt_or_ge pc 21 with hl | hl
  · exact mm_ckp_at ck_X10_isBy_0 pc q (by omega) (by omega) h
  · exact absurd h (by unfold kd_X10_isBy; rw [mm_blt_f hl]; exact fun z => nomatch z)

theorem cm_X10_isCard : ∀ pc q, kd_X10_isCard pc = some q → mm_ck 140 pc q = true := fun pc q h => by
  rcases Nat.lt_or_ge pc 18 with hl | hl
  · exact mm_ckp_at ck_X10_isCard_0 pc q (by omega) (by omega) h
  · exact absurd h (by unfold kd_X10_isCard; rw [mm_blt_f hl]; exact fun z => nomatch z)

theorem cm_X10_know : ∀ pc q, kd_X10_know pc = some q → mm_ck 141 pc q = true := fun pc q h => by
  rcases Nat.lt_or_ge pc 17 with hl | hl
  · exact mm_ckp_at ck_X10_know_0 pc q (by omega) (by omega) h
  · exact absurd h (by unfold kd_X10_know; rw [mm_blt_f hl]; exact fun z => nomatch z)

theorem cm_X10_knowAll : ∀ pc q, kd_X10_knowAll pc = some q → mm_ck 142 pc q = true := fun pc q h => by
  rcases Nat.lt_or_ge pc 23 with hl | hl
  · exact mm_ckp_at ck_X10_knowAll_0 pc q (by omega) (by omega) h
  · exact absurd h (by unfold kd_X10_knowAll; rw [mm_blt_f hl]; exact fun z => nomatch z)

theorem cm_X10_isPack : ∀ pc q, kd_X10_isPack pc = some q → mm_ck 143 pc q = true := fun pc q h => by
  rcases Nat.lt_or_ge pc 16 with hl | hl
  · exact mm_ckp_at ck_X10_isPack_0 pc q (by omega) (by omega) h
  · exact absurd h (by unfold kd_X10_isPack; rw [mm_blt_f hl]; exact fun z => nomatch z)

theorem cm_X10_span : ∀ pc q, kd_X10_span pc = some q → mm_ck 144 pc q = true := fun pc q h => by
  rcases Nat.lt_or_ge pc 12 with hl | hl
  · exact mm_ckp_at ck_X10_span_0 pc q (by omega) (by omega) h
  · exact absurd h (by unfold kd_X10_span; rw [mm_blt_f hl]; exact fun z => nomatch z)

theorem cm_X10_ways : ∀ pc q, kd_X10_ways pc = some q → mm_ck 145 pc q = true := fun pc q h => by
  rcases Nat.lt_or_ge pc 42 with hl | hl
  · exact mm_ckp_at ck_X10_ways_0 pc q (by omega) (by omega) h
  · exact absurd h (by unfold kd_X10_ways; rw [mm_blt_f hl]; exact fun z => nomatch z)

theorem cm_X11_init : ∀ pc q, kd_X11_init pc = some q → mm_ck 146 pc q = true := fun pc q h => by
  rcases Nat.lt_or_ge pc 914 with hl | hl
  · rcases Nat.lt_or_ge pc 100 with h0 | h0
    · exact mm_ckp_at ck_X11_init_0 pc q (by omega) (by omega) h
    · rcases Nat.lt_or_ge pc 200 with h1 | h1
      · exact mm_ckp_at ck_X11_init_1 pc q (by omega) (by omega) h
      · rcases Nat.lt_or_ge pc 300 with h2 | h2
        · exact mm_ckp_at ck_X11_init_2 pc q (by omega) (by omega) h
        · rcases Nat.lt_or_ge pc 400 with h3 | h3
          · exact mm_ckp_at ck_X11_init_3 pc q (by omega) (by omega) h
          · rcases Nat.lt_or_ge pc 500 with h4 | h4
            · exact mm_ckp_at ck_X11_init_4 pc q (by omega) (by omega) h
            · rcases Nat.lt_or_ge pc 600 with h5 | h5
              · exact mm_ckp_at ck_X11_init_5 pc q (by omega) (by omega) h
              · rcases Nat.lt_or_ge pc 700 with h6 | h6
                · exact mm_ckp_at ck_X11_init_6 pc q (by omega) (by omega) h
                · rcases Nat.lt_or_ge pc 800 with h7 | h7
                  · exact mm_ckp_at ck_X11_init_7 pc q (by omega) (by omega) h
                  · rcases Nat.lt_or_ge pc 900 with h8 | h8
                    · exact mm_ckp_at ck_X11_init_8 pc q (by omega) (by omega) h
                    · exact mm_ckp_at ck_X11_init_9 pc q (by omega) (by omega) h
  · exact absurd h (by unfold kd_X11_init; rw [mm_blt_f hl]; exact fun z => nomatch z)

theorem cm_X11_feed : ∀ pc q, kd_X11_feed pc = some q → mm_ck 147 pc q = true := fun pc q h => by
  rcases Nat.lt_or_ge pc 129 with hl | hl
  · rcases Nat.lt_or_ge pc 100 with h0 | h0
    · exact mm_ckp_at ck_X11_feed_0 pc q (by omega) (by omega) h
    · exact mm_ckp_at ck_X11_feed_1 pc q (by omega) (by omega) h
  · exact absurd h (by unfold kd_X11_feed; rw [mm_blt_f hl]; exact fun z => nomatch z)

theorem cm_X11_isIn : ∀ pc q, kd_X11_isIn pc = some q → mm_ck 148 pc q = true := fun pc q h => by
  rcases Nat.lt_or_ge pc 16 with hl | hl
  · exact mm_ckp_at ck_X11_isIn_0 pc q (by omega) (by omega) h
  · exact absurd h (by unfold kd_X11_isIn; rw [mm_blt_f hl]; exact fun z => nomatch z)

theorem cm_X11_isOf : ∀ pc q, kd_X11_isOf pc = some q → mm_ck 149 pc q = true := fun pc q h => by
  rcases Nat.lt_or_ge pc 16 with hl | hl
  · exact mm_ckp_at ck_X11_isOf_0 pc q (by omega) (by omega) h
  · exact absurd h (by unfold kd_X11_isOf; rw [mm_blt_f hl]; exact fun z => nomatch z)

theorem cm_X11_many : ∀ pc q, kd_X11_many pc = some q → mm_ck 150 pc q = true := fun pc q h => by
  rcases Nat.lt_or_ge pc 34 with hl | hl
  · exact mm_ckp_at ck_X11_many_0 pc q (by omega) (by omega) h
  · exact absurd h (by unfold kd_X11_many; rw [mm_blt_f hl]; exact fun z => nomatch z)

theorem cm_X11_wrong : ∀ pc q, kd_X11_wrong pc = some q → mm_ck 151 pc q = true := fun pc q h => by
  rcases Nat.lt_or_ge pc 15 with hl | hl
  · exact mm_ckp_at ck_X11_wrong_0 pc q (by omega) (by omega) h
  · exact absurd h (by unfold kd_X11_wrong; rw [mm_blt_f hl]; exact fun z => nomatch z)

theorem cm_X11_wordAt : ∀ pc q, kd_X11_wordAt pc = some q → mm_ck 152 pc q = true := fun pc q h => by
  rcases Nat.lt_or_ge pc 128 with hl | hl
  · rcases Nat.lt_or_ge pc 100 with h0 | h0
    · exact mm_ckp_at ck_X11_wordAt_0 pc q (by omega) (by omega) h
    · exact mm_ckp_at ck_X11_wordAt_1 pc q (by omega) (by omega) h
  · exact absurd h (by unfold kd_X11_wordAt; rw [mm_blt_f hl]; exact fun z => nomatch z)

theorem cm_X11_isSmall : ∀ pc q, kd_X11_isSmall pc = some q → mm_ck 153 pc q = true := fun pc q h => by
  rcases Nat.lt_or_ge pc 36 with hl | hl
  · exact mm_ckp_at ck_X11_isSmall_0 pc q (by omega) (by omega) h
  · exact absurd h (by unfold kd_X11_isSmall; rw [mm_blt_f hl]; exact fun z => nomatch z)

theorem cm_X11_isDigit : ∀ pc q, kd_X11_isDigit pc = some q → mm_ck 154 pc q = true := fun pc q h => by
  rcases Nat.lt_or_ge pc 36 with hl | hl
  · exact mm_ckp_at ck_X11_isDigit_0 pc q (by omega) (by omega) h
  · exact absurd h (by unfold kd_X11_isDigit; rw [mm_blt_f hl]; exact fun z => nomatch z)

theorem cm_X11_take : ∀ pc q, kd_X11_take pc = some q → mm_ck 155 pc q = true := fun pc q h => by
  rcases Nat.lt_or_ge pc 345 with hl | hl
  · rcases Nat.lt_or_ge pc 100 with h0 | h0
    · exact mm_ckp_at ck_X11_take_0 pc q (by omega) (by omega) h
    · rcases Nat.lt_or_ge pc 200 with h1 | h1
      · exact mm_ckp_at ck_X11_take_1 pc q (by omega) (by omega) h
      · rcases Nat.lt_or_ge pc 300 with h2 | h2
        · exact mm_ckp_at ck_X11_take_2 pc q (by omega) (by omega) h
        · exact mm_ckp_at ck_X11_take_3 pc q (by omega) (by omega) h
  · exact absurd h (by unfold kd_X11_take; rw [mm_blt_f hl]; exact fun z => nomatch z)

theorem cm_X11_packed : ∀ pc q, kd_X11_packed pc = some q → mm_ck 156 pc q = true := fun pc q h => by
  rcases Nat.lt_or_ge pc 47 with hl | hl
  · exact mm_ckp_at ck_X11_packed_0 pc q (by omega) (by omega) h
  · exact absurd h (by unfold kd_X11_packed; rw [mm_blt_f hl]; exact fun z => nomatch z)

theorem cm_X11_isKey : ∀ pc q, kd_X11_isKey pc = some q → mm_ck 157 pc q = true := fun pc q h => by
  rcases Nat.lt_or_ge pc 22 with hl | hl
  · exact mm_ckp_at ck_X11_isKey_0 pc q (by omega) (by omega) h
  · exact absurd h (by unfold kd_X11_isKey; rw [mm_blt_f hl]; exact fun z => nomatch z)

theorem cm_X11_isSign : ∀ pc q, kd_X11_isSign pc = some q → mm_ck 158 pc q = true := fun pc q h => by
  rcases Nat.lt_or_ge pc 22 with hl | hl
  · exact mm_ckp_at ck_X11_isSign_0 pc q (by omega) (by omega) h
  · exact absurd h (by unfold kd_X11_isSign; rw [mm_blt_f hl]; exact fun z => nomatch z)

theorem cm_X11_signRead : ∀ pc q, kd_X11_signRead pc = some q → mm_ck 159 pc q = true := fun pc q h => by
  rcases Nat.lt_or_ge pc 20 with hl | hl
  · exact mm_ckp_at ck_X11_signRead_0 pc q (by omega) (by omega) h
  · exact absurd h (by unfold kd_X11_signRead; rw [mm_blt_f hl]; exact fun z => nomatch z)

theorem cm_X11_keyRead : ∀ pc q, kd_X11_keyRead pc = some q → mm_ck 160 pc q = true := fun pc q h => by
  rcases Nat.lt_or_ge pc 20 with hl | hl
  · exact mm_ckp_at ck_X11_keyRead_0 pc q (by omega) (by omega) h
  · exact absurd h (by unfold kd_X11_keyRead; rw [mm_blt_f hl]; exact fun z => nomatch z)

theorem cm_X11_numberRead : ∀ pc q, kd_X11_numberRead pc = some q → mm_ck 161 pc q = true := fun pc q h => by
  rcases Nat.lt_or_ge pc 44 with hl | hl
  · exact mm_ckp_at ck_X11_numberRead_0 pc q (by omega) (by omega) h
  · exact absurd h (by unfold kd_X11_numberRead; rw [mm_blt_f hl]; exact fun z => nomatch z)

theorem cm_X11_begins : ∀ pc q, kd_X11_begins pc = some q → mm_ck 162 pc q = true := fun pc q h => by
  rcases Nat.lt_or_ge pc 45 with hl | hl
  · exact mm_ckp_at ck_X11_begins_0 pc q (by omega) (by omega) h
  · exact absurd h (by unfold kd_X11_begins; rw [mm_blt_f hl]; exact fun z => nomatch z)

theorem cm_X11_plain : ∀ pc q, kd_X11_plain pc = some q → mm_ck 163 pc q = true := fun pc q h => by
  rcases Nat.lt_or_ge pc 22 with hl | hl
  · exact mm_ckp_at ck_X11_plain_0 pc q (by omega) (by omega) h
  · exact absurd h (by unfold kd_X11_plain; rw [mm_blt_f hl]; exact fun z => nomatch z)

theorem cm_X11_keep : ∀ pc q, kd_X11_keep pc = some q → mm_ck 164 pc q = true := fun pc q h => by
  rcases Nat.lt_or_ge pc 219 with hl | hl
  · rcases Nat.lt_or_ge pc 100 with h0 | h0
    · exact mm_ckp_at ck_X11_keep_0 pc q (by omega) (by omega) h
    · rcases Nat.lt_or_ge pc 200 with h1 | h1
      · exact mm_ckp_at ck_X11_keep_1 pc q (by omega) (by omega) h
      · exact mm_ckp_at ck_X11_keep_2 pc q (by omega) (by omega) h
  · exact absurd h (by unfold kd_X11_keep; rw [mm_blt_f hl]; exact fun z => nomatch z)

theorem cm_X11_fieldRead : ∀ pc q, kd_X11_fieldRead pc = some q → mm_ck 165 pc q = true := fun pc q h => by
  rcases Nat.lt_or_ge pc 33 with hl | hl
  · exact mm_ckp_at ck_X11_fieldRead_0 pc q (by omega) (by omega) h
  · exact absurd h (by unfold kd_X11_fieldRead; rw [mm_blt_f hl]; exact fun z => nomatch z)

theorem cm_X11_isNamed : ∀ pc q, kd_X11_isNamed pc = some q → mm_ck 166 pc q = true := fun pc q h => by
  rcases Nat.lt_or_ge pc 45 with hl | hl
  · exact mm_ckp_at ck_X11_isNamed_0 pc q (by omega) (by omega) h
  · exact absurd h (by unfold kd_X11_isNamed; rw [mm_blt_f hl]; exact fun z => nomatch z)

theorem cm_X11_between : ∀ pc q, kd_X11_between pc = some q → mm_ck 167 pc q = true := fun pc q h => by
  rcases Nat.lt_or_ge pc 26 with hl | hl
  · exact mm_ckp_at ck_X11_between_0 pc q (by omega) (by omega) h
  · exact absurd h (by unfold kd_X11_between; rw [mm_blt_f hl]; exact fun z => nomatch z)

theorem cm_X11_newName : ∀ pc q, kd_X11_newName pc = some q → mm_ck 168 pc q = true := fun pc q h => by
  rcases Nat.lt_or_ge pc 39 with hl | hl
  · exact mm_ckp_at ck_X11_newName_0 pc q (by omega) (by omega) h
  · exact absurd h (by unfold kd_X11_newName; rw [mm_blt_f hl]; exact fun z => nomatch z)

theorem cm_X11_fieldLine : ∀ pc q, kd_X11_fieldLine pc = some q → mm_ck 169 pc q = true := fun pc q h => by
  rcases Nat.lt_or_ge pc 384 with hl | hl
  · rcases Nat.lt_or_ge pc 100 with h0 | h0
    · exact mm_ckp_at ck_X11_fieldLine_0 pc q (by omega) (by omega) h
    · rcases Nat.lt_or_ge pc 200 with h1 | h1
      · exact mm_ckp_at ck_X11_fieldLine_1 pc q (by omega) (by omega) h
      · rcases Nat.lt_or_ge pc 300 with h2 | h2
        · exact mm_ckp_at ck_X11_fieldLine_2 pc q (by omega) (by omega) h
        · exact mm_ckp_at ck_X11_fieldLine_3 pc q (by omega) (by omega) h
  · exact absurd h (by unfold kd_X11_fieldLine; rw [mm_blt_f hl]; exact fun z => nomatch z)

theorem cm_X11_wordLine : ∀ pc q, kd_X11_wordLine pc = some q → mm_ck 170 pc q = true := fun pc q h => by
  rcases Nat.lt_or_ge pc 298 with hl | hl
  · rcases Nat.lt_or_ge pc 100 with h0 | h0
    · exact mm_ckp_at ck_X11_wordLine_0 pc q (by omega) (by omega) h
    · rcases Nat.lt_or_ge pc 200 with h1 | h1
      · exact mm_ckp_at ck_X11_wordLine_1 pc q (by omega) (by omega) h
      · exact mm_ckp_at ck_X11_wordLine_2 pc q (by omega) (by omega) h
  · exact absurd h (by unfold kd_X11_wordLine; rw [mm_blt_f hl]; exact fun z => nomatch z)

theorem cm_X11_lineRead : ∀ pc q, kd_X11_lineRead pc = some q → mm_ck 171 pc q = true := fun pc q h => by
  rcases Nat.lt_or_ge pc 116 with hl | hl
  · rcases Nat.lt_or_ge pc 100 with h0 | h0
    · exact mm_ckp_at ck_X11_lineRead_0 pc q (by omega) (by omega) h
    · exact mm_ckp_at ck_X11_lineRead_1 pc q (by omega) (by omega) h
  · exact absurd h (by unfold kd_X11_lineRead; rw [mm_blt_f hl]; exact fun z => nomatch z)

theorem cm_X11_plan : ∀ pc q, kd_X11_plan pc = some q → mm_ck 172 pc q = true := fun pc q h => by
  rcases Nat.lt_or_ge pc 59 with hl | hl
  · exact mm_ckp_at ck_X11_plan_0 pc q (by omega) (by omega) h
  · exact absurd h (by unfold kd_X11_plan; rw [mm_blt_f hl]; exact fun z => nomatch z)

theorem cm_X11_fault : ∀ pc q, kd_X11_fault pc = some q → mm_ck 173 pc q = true := fun pc q h => by
  rcases Nat.lt_or_ge pc 30 with hl | hl
  · exact mm_ckp_at ck_X11_fault_0 pc q (by omega) (by omega) h
  · exact absurd h (by unfold kd_X11_fault; rw [mm_blt_f hl]; exact fun z => nomatch z)

theorem cm_X11_fieldOf : ∀ pc q, kd_X11_fieldOf pc = some q → mm_ck 174 pc q = true := fun pc q h => by
  rcases Nat.lt_or_ge pc 30 with hl | hl
  · exact mm_ckp_at ck_X11_fieldOf_0 pc q (by omega) (by omega) h
  · exact absurd h (by unfold kd_X11_fieldOf; rw [mm_blt_f hl]; exact fun z => nomatch z)

theorem cm_X11_wordOf : ∀ pc q, kd_X11_wordOf pc = some q → mm_ck 175 pc q = true := fun pc q h => by
  rcases Nat.lt_or_ge pc 30 with hl | hl
  · exact mm_ckp_at ck_X11_wordOf_0 pc q (by omega) (by omega) h
  · exact absurd h (by unfold kd_X11_wordOf; rw [mm_blt_f hl]; exact fun z => nomatch z)

theorem cm_X11_named : ∀ pc q, kd_X11_named pc = some q → mm_ck 176 pc q = true := fun pc q h => by
  rcases Nat.lt_or_ge pc 32 with hl | hl
  · exact mm_ckp_at ck_X11_named_0 pc q (by omega) (by omega) h
  · exact absurd h (by unfold kd_X11_named; rw [mm_blt_f hl]; exact fun z => nomatch z)

theorem cm_X11_isField : ∀ pc q, kd_X11_isField pc = some q → mm_ck 177 pc q = true := fun pc q h => by
  rcases Nat.lt_or_ge pc 18 with hl | hl
  · exact mm_ckp_at ck_X11_isField_0 pc q (by omega) (by omega) h
  · exact absurd h (by unfold kd_X11_isField; rw [mm_blt_f hl]; exact fun z => nomatch z)

theorem cm_X11_isValued : ∀ pc q, kd_X11_isValued pc = some q → mm_ck 178 pc q = true := fun pc q h => by
  rcases Nat.lt_or_ge pc 24 with hl | hl
  · exact mm_ckp_at ck_X11_isValued_0 pc q (by omega) (by omega) h
  · exact absurd h (by unfold kd_X11_isValued; rw [mm_blt_f hl]; exact fun z => nomatch z)

theorem cm_X11_isWord : ∀ pc q, kd_X11_isWord pc = some q → mm_ck 179 pc q = true := fun pc q h => by
  rcases Nat.lt_or_ge pc 18 with hl | hl
  · exact mm_ckp_at ck_X11_isWord_0 pc q (by omega) (by omega) h
  · exact absurd h (by unfold kd_X11_isWord; rw [mm_blt_f hl]; exact fun z => nomatch z)

theorem cm_X11_fails : ∀ pc q, kd_X11_fails pc = some q → mm_ck 180 pc q = true := fun pc q h => by
  rcases Nat.lt_or_ge pc 7 with hl | hl
  · exact mm_ckp_at ck_X11_fails_0 pc q (by omega) (by omega) h
  · exact absurd h (by unfold kd_X11_fails; rw [mm_blt_f hl]; exact fun z => nomatch z)

theorem cm_X11_look : ∀ pc q, kd_X11_look pc = some q → mm_ck 181 pc q = true := fun pc q h => by
  rcases Nat.lt_or_ge pc 86 with hl | hl
  · exact mm_ckp_at ck_X11_look_0 pc q (by omega) (by omega) h
  · exact absurd h (by unfold kd_X11_look; rw [mm_blt_f hl]; exact fun z => nomatch z)

theorem cm_X11_codeOf : ∀ pc q, kd_X11_codeOf pc = some q → mm_ck 182 pc q = true := fun pc q h => by
  rcases Nat.lt_or_ge pc 50 with hl | hl
  · exact mm_ckp_at ck_X11_codeOf_0 pc q (by omega) (by omega) h
  · exact absurd h (by unfold kd_X11_codeOf; rw [mm_blt_f hl]; exact fun z => nomatch z)

theorem cm_X11_isValue : ∀ pc q, kd_X11_isValue pc = some q → mm_ck 183 pc q = true := fun pc q h => by
  rcases Nat.lt_or_ge pc 28 with hl | hl
  · exact mm_ckp_at ck_X11_isValue_0 pc q (by omega) (by omega) h
  · exact absurd h (by unfold kd_X11_isValue; rw [mm_blt_f hl]; exact fun z => nomatch z)

theorem cm_X11_code : ∀ pc q, kd_X11_code pc = some q → mm_ck 184 pc q = true := fun pc q h => by
  rcases Nat.lt_or_ge pc 25 with hl | hl
  · exact mm_ckp_at ck_X11_code_0 pc q (by omega) (by omega) h
  · exact absurd h (by unfold kd_X11_code; rw [mm_blt_f hl]; exact fun z => nomatch z)

theorem cm_X11_isKnowing : ∀ pc q, kd_X11_isKnowing pc = some q → mm_ck 185 pc q = true := fun pc q h => by
  rcases Nat.lt_or_ge pc 18 with hl | hl
  · exact mm_ckp_at ck_X11_isKnowing_0 pc q (by omega) (by omega) h
  · exact absurd h (by unfold kd_X11_isKnowing; rw [mm_blt_f hl]; exact fun z => nomatch z)

theorem cm_X11_isCard : ∀ pc q, kd_X11_isCard pc = some q → mm_ck 186 pc q = true := fun pc q h => by
  rcases Nat.lt_or_ge pc 18 with hl | hl
  · exact mm_ckp_at ck_X11_isCard_0 pc q (by omega) (by omega) h
  · exact absurd h (by unfold kd_X11_isCard; rw [mm_blt_f hl]; exact fun z => nomatch z)

theorem cm_X11_wide : ∀ pc q, kd_X11_wide pc = some q → mm_ck 187 pc q = true := fun pc q h => by
  rcases Nat.lt_or_ge pc 15 with hl | hl
  · exact mm_ckp_at ck_X11_wide_0 pc q (by omega) (by omega) h
  · exact absurd h (by unfold kd_X11_wide; rw [mm_blt_f hl]; exact fun z => nomatch z)

theorem cm_X11_know : ∀ pc q, kd_X11_know pc = some q → mm_ck 188 pc q = true := fun pc q h => by
  rcases Nat.lt_or_ge pc 177 with hl | hl
  · rcases Nat.lt_or_ge pc 100 with h0 | h0
    · exact mm_ckp_at ck_X11_know_0 pc q (by omega) (by omega) h
    · exact mm_ckp_at ck_X11_know_1 pc q (by omega) (by omega) h
  · exact absurd h (by unfold kd_X11_know; rw [mm_blt_f hl]; exact fun z => nomatch z)

theorem cm_X11_happens : ∀ pc q, kd_X11_happens pc = some q → mm_ck 189 pc q = true := fun pc q h => by
  rcases Nat.lt_or_ge pc 203 with hl | hl
  · rcases Nat.lt_or_ge pc 100 with h0 | h0
    · exact mm_ckp_at ck_X11_happens_0 pc q (by omega) (by omega) h
    · rcases Nat.lt_or_ge pc 200 with h1 | h1
      · exact mm_ckp_at ck_X11_happens_1 pc q (by omega) (by omega) h
      · exact mm_ckp_at ck_X11_happens_2 pc q (by omega) (by omega) h
  · exact absurd h (by unfold kd_X11_happens; rw [mm_blt_f hl]; exact fun z => nomatch z)

theorem cm_X11_tells : ∀ pc q, kd_X11_tells pc = some q → mm_ck 190 pc q = true := fun pc q h => by
  rcases Nat.lt_or_ge pc 58 with hl | hl
  · exact mm_ckp_at ck_X11_tells_0 pc q (by omega) (by omega) h
  · exact absurd h (by unfold kd_X11_tells; rw [mm_blt_f hl]; exact fun z => nomatch z)

theorem cm_X11_coded : ∀ pc q, kd_X11_coded pc = some q → mm_ck 191 pc q = true := fun pc q h => by
  rcases Nat.lt_or_ge pc 35 with hl | hl
  · exact mm_ckp_at ck_X11_coded_0 pc q (by omega) (by omega) h
  · exact absurd h (by unfold kd_X11_coded; rw [mm_blt_f hl]; exact fun z => nomatch z)

theorem cm_X11_card : ∀ pc q, kd_X11_card pc = some q → mm_ck 192 pc q = true := fun pc q h => by
  rcases Nat.lt_or_ge pc 58 with hl | hl
  · exact mm_ckp_at ck_X11_card_0 pc q (by omega) (by omega) h
  · exact absurd h (by unfold kd_X11_card; rw [mm_blt_f hl]; exact fun z => nomatch z)

theorem cm_X11_set : ∀ pc q, kd_X11_set pc = some q → mm_ck 193 pc q = true := fun pc q h => by
  rcases Nat.lt_or_ge pc 45 with hl | hl
  · exact mm_ckp_at ck_X11_set_0 pc q (by omega) (by omega) h
  · exact absurd h (by unfold kd_X11_set; rw [mm_blt_f hl]; exact fun z => nomatch z)

theorem cm_X11_put : ∀ pc q, kd_X11_put pc = some q → mm_ck 194 pc q = true := fun pc q h => by
  rcases Nat.lt_or_ge pc 44 with hl | hl
  · exact mm_ckp_at ck_X11_put_0 pc q (by omega) (by omega) h
  · exact absurd h (by unfold kd_X11_put; rw [mm_blt_f hl]; exact fun z => nomatch z)

theorem cm_X11_tear : ∀ pc q, kd_X11_tear pc = some q → mm_ck 195 pc q = true := fun pc q h => by
  rcases Nat.lt_or_ge pc 56 with hl | hl
  · exact mm_ckp_at ck_X11_tear_0 pc q (by omega) (by omega) h
  · exact absurd h (by unfold kd_X11_tear; rw [mm_blt_f hl]; exact fun z => nomatch z)

theorem cm_X11_sizeOf : ∀ pc q, kd_X11_sizeOf pc = some q → mm_ck 196 pc q = true := fun pc q h => by
  rcases Nat.lt_or_ge pc 16 with hl | hl
  · exact mm_ckp_at ck_X11_sizeOf_0 pc q (by omega) (by omega) h
  · exact absurd h (by unfold kd_X11_sizeOf; rw [mm_blt_f hl]; exact fun z => nomatch z)

theorem cm_X11_recode : ∀ pc q, kd_X11_recode pc = some q → mm_ck 197 pc q = true := fun pc q h => by
  rcases Nat.lt_or_ge pc 72 with hl | hl
  · exact mm_ckp_at ck_X11_recode_0 pc q (by omega) (by omega) h
  · exact absurd h (by unfold kd_X11_recode; rw [mm_blt_f hl]; exact fun z => nomatch z)

theorem cm_X11_strike : ∀ pc q, kd_X11_strike pc = some q → mm_ck 198 pc q = true := fun pc q h => by
  rcases Nat.lt_or_ge pc 40 with hl | hl
  · exact mm_ckp_at ck_X11_strike_0 pc q (by omega) (by omega) h
  · exact absurd h (by unfold kd_X11_strike; rw [mm_blt_f hl]; exact fun z => nomatch z)

theorem cm_X11_notched : ∀ pc q, kd_X11_notched pc = some q → mm_ck 199 pc q = true := fun pc q h => by
  rcases Nat.lt_or_ge pc 37 with hl | hl
  · exact mm_ckp_at ck_X11_notched_0 pc q (by omega) (by omega) h
  · exact absurd h (by unfold kd_X11_notched; rw [mm_blt_f hl]; exact fun z => nomatch z)

theorem cm_X11_wordsOf : ∀ pc q, kd_X11_wordsOf pc = some q → mm_ck 200 pc q = true := fun pc q h => by
  rcases Nat.lt_or_ge pc 40 with hl | hl
  · exact mm_ckp_at ck_X11_wordsOf_0 pc q (by omega) (by omega) h
  · exact absurd h (by unfold kd_X11_wordsOf; rw [mm_blt_f hl]; exact fun z => nomatch z)

theorem cm_X11_truly : ∀ pc q, kd_X11_truly pc = some q → mm_ck 201 pc q = true := fun pc q h => by
  rcases Nat.lt_or_ge pc 74 with hl | hl
  · exact mm_ckp_at ck_X11_truly_0 pc q (by omega) (by omega) h
  · exact absurd h (by unfold kd_X11_truly; rw [mm_blt_f hl]; exact fun z => nomatch z)

theorem cm_X11_turn : ∀ pc q, kd_X11_turn pc = some q → mm_ck 202 pc q = true := fun pc q h => by
  rcases Nat.lt_or_ge pc 29 with hl | hl
  · exact mm_ckp_at ck_X11_turn_0 pc q (by omega) (by omega) h
  · exact absurd h (by unfold kd_X11_turn; rw [mm_blt_f hl]; exact fun z => nomatch z)

theorem cm_X11_turned : ∀ pc q, kd_X11_turned pc = some q → mm_ck 203 pc q = true := fun pc q h => by
  rcases Nat.lt_or_ge pc 10 with hl | hl
  · exact mm_ckp_at ck_X11_turned_0 pc q (by omega) (by omega) h
  · exact absurd h (by unfold kd_X11_turned; rw [mm_blt_f hl]; exact fun z => nomatch z)

theorem cm_X11_isPack : ∀ pc q, kd_X11_isPack pc = some q → mm_ck 204 pc q = true := fun pc q h => by
  rcases Nat.lt_or_ge pc 16 with hl | hl
  · exact mm_ckp_at ck_X11_isPack_0 pc q (by omega) (by omega) h
  · exact absurd h (by unfold kd_X11_isPack; rw [mm_blt_f hl]; exact fun z => nomatch z)

theorem cm_X11_pack : ∀ pc q, kd_X11_pack pc = some q → mm_ck 205 pc q = true := fun pc q h => by
  rcases Nat.lt_or_ge pc 42 with hl | hl
  · exact mm_ckp_at ck_X11_pack_0 pc q (by omega) (by omega) h
  · exact absurd h (by unfold kd_X11_pack; rw [mm_blt_f hl]; exact fun z => nomatch z)

theorem cm_X11_falls : ∀ pc q, kd_X11_falls pc = some q → mm_ck 206 pc q = true := fun pc q h => by
  rcases Nat.lt_or_ge pc 69 with hl | hl
  · exact mm_ckp_at ck_X11_falls_0 pc q (by omega) (by omega) h
  · exact absurd h (by unfold kd_X11_falls; rw [mm_blt_f hl]; exact fun z => nomatch z)

theorem cm_X11_drops : ∀ pc q, kd_X11_drops pc = some q → mm_ck 207 pc q = true := fun pc q h => by
  rcases Nat.lt_or_ge pc 91 with hl | hl
  · exact mm_ckp_at ck_X11_drops_0 pc q (by omega) (by omega) h
  · exact absurd h (by unfold kd_X11_drops; rw [mm_blt_f hl]; exact fun z => nomatch z)

theorem cm_X11_gather : ∀ pc q, kd_X11_gather pc = some q → mm_ck 208 pc q = true := fun pc q h => by
  rcases Nat.lt_or_ge pc 69 with hl | hl
  · exact mm_ckp_at ck_X11_gather_0 pc q (by omega) (by omega) h
  · exact absurd h (by unfold kd_X11_gather; rw [mm_blt_f hl]; exact fun z => nomatch z)

theorem cm_X11_comes : ∀ pc q, kd_X11_comes pc = some q → mm_ck 209 pc q = true := fun pc q h => by
  rcases Nat.lt_or_ge pc 28 with hl | hl
  · exact mm_ckp_at ck_X11_comes_0 pc q (by omega) (by omega) h
  · exact absurd h (by unfold kd_X11_comes; rw [mm_blt_f hl]; exact fun z => nomatch z)

theorem cm_X11_packRead : ∀ pc q, kd_X11_packRead pc = some q → mm_ck 210 pc q = true := fun pc q h => by
  rcases Nat.lt_or_ge pc 52 with hl | hl
  · exact mm_ckp_at ck_X11_packRead_0 pc q (by omega) (by omega) h
  · exact absurd h (by unfold kd_X11_packRead; rw [mm_blt_f hl]; exact fun z => nomatch z)

theorem cm_X11_holeRead : ∀ pc q, kd_X11_holeRead pc = some q → mm_ck 211 pc q = true := fun pc q h => by
  rcases Nat.lt_or_ge pc 150 with hl | hl
  · rcases Nat.lt_or_ge pc 100 with h0 | h0
    · exact mm_ckp_at ck_X11_holeRead_0 pc q (by omega) (by omega) h
    · exact mm_ckp_at ck_X11_holeRead_1 pc q (by omega) (by omega) h
  · exact absurd h (by unfold kd_X11_holeRead; rw [mm_blt_f hl]; exact fun z => nomatch z)

theorem cm_X11_passRead : ∀ pc q, kd_X11_passRead pc = some q → mm_ck 212 pc q = true := fun pc q h => by
  rcases Nat.lt_or_ge pc 166 with hl | hl
  · rcases Nat.lt_or_ge pc 100 with h0 | h0
    · exact mm_ckp_at ck_X11_passRead_0 pc q (by omega) (by omega) h
    · exact mm_ckp_at ck_X11_passRead_1 pc q (by omega) (by omega) h
  · exact absurd h (by unfold kd_X11_passRead; rw [mm_blt_f hl]; exact fun z => nomatch z)

theorem cm_X11_joinRead : ∀ pc q, kd_X11_joinRead pc = some q → mm_ck 213 pc q = true := fun pc q h => by
  rcases Nat.lt_or_ge pc 78 with hl | hl
  · exact mm_ckp_at ck_X11_joinRead_0 pc q (by omega) (by omega) h
  · exact absurd h (by unfold kd_X11_joinRead; rw [mm_blt_f hl]; exact fun z => nomatch z)

theorem cm_X11_actRead : ∀ pc q, kd_X11_actRead pc = some q → mm_ck 214 pc q = true := fun pc q h => by
  rcases Nat.lt_or_ge pc 270 with hl | hl
  · rcases Nat.lt_or_ge pc 100 with h0 | h0
    · exact mm_ckp_at ck_X11_actRead_0 pc q (by omega) (by omega) h
    · rcases Nat.lt_or_ge pc 200 with h1 | h1
      · exact mm_ckp_at ck_X11_actRead_1 pc q (by omega) (by omega) h
      · exact mm_ckp_at ck_X11_actRead_2 pc q (by omega) (by omega) h
  · exact absurd h (by unfold kd_X11_actRead; rw [mm_blt_f hl]; exact fun z => nomatch z)

theorem cm_X11_passes : ∀ pc q, kd_X11_passes pc = some q → mm_ck 215 pc q = true := fun pc q h => by
  rcases Nat.lt_or_ge pc 183 with hl | hl
  · rcases Nat.lt_or_ge pc 100 with h0 | h0
    · exact mm_ckp_at ck_X11_passes_0 pc q (by omega) (by omega) h
    · exact mm_ckp_at ck_X11_passes_1 pc q (by omega) (by omega) h
  · exact absurd h (by unfold kd_X11_passes; rw [mm_blt_f hl]; exact fun z => nomatch z)

theorem cm_X11_joins : ∀ pc q, kd_X11_joins pc = some q → mm_ck 216 pc q = true := fun pc q h => by
  rcases Nat.lt_or_ge pc 54 with hl | hl
  · exact mm_ckp_at ck_X11_joins_0 pc q (by omega) (by omega) h
  · exact absurd h (by unfold kd_X11_joins; rw [mm_blt_f hl]; exact fun z => nomatch z)

theorem cm_X11_does : ∀ pc q, kd_X11_does pc = some q → mm_ck 217 pc q = true := fun pc q h => by
  rcases Nat.lt_or_ge pc 208 with hl | hl
  · rcases Nat.lt_or_ge pc 100 with h0 | h0
    · exact mm_ckp_at ck_X11_does_0 pc q (by omega) (by omega) h
    · rcases Nat.lt_or_ge pc 200 with h1 | h1
      · exact mm_ckp_at ck_X11_does_1 pc q (by omega) (by omega) h
      · exact mm_ckp_at ck_X11_does_2 pc q (by omega) (by omega) h
  · exact absurd h (by unfold kd_X11_does; rw [mm_blt_f hl]; exact fun z => nomatch z)

theorem cm_X11_work : ∀ pc q, kd_X11_work pc = some q → mm_ck 218 pc q = true := fun pc q h => by
  rcases Nat.lt_or_ge pc 54 with hl | hl
  · exact mm_ckp_at ck_X11_work_0 pc q (by omega) (by omega) h
  · exact absurd h (by unfold kd_X11_work; rw [mm_blt_f hl]; exact fun z => nomatch z)

theorem cm_X11_weight : ∀ pc q, kd_X11_weight pc = some q → mm_ck 219 pc q = true := fun pc q h => by
  rcases Nat.lt_or_ge pc 29 with hl | hl
  · exact mm_ckp_at ck_X11_weight_0 pc q (by omega) (by omega) h
  · exact absurd h (by unfold kd_X11_weight; rw [mm_blt_f hl]; exact fun z => nomatch z)

theorem cm_X11_grown : ∀ pc q, kd_X11_grown pc = some q → mm_ck 220 pc q = true := fun pc q h => by
  rcases Nat.lt_or_ge pc 73 with hl | hl
  · exact mm_ckp_at ck_X11_grown_0 pc q (by omega) (by omega) h
  · exact absurd h (by unfold kd_X11_grown; rw [mm_blt_f hl]; exact fun z => nomatch z)

theorem cm_X11_drop : ∀ pc q, kd_X11_drop pc = some q → mm_ck 221 pc q = true := fun pc q h => by
  rcases Nat.lt_or_ge pc 20 with hl | hl
  · exact mm_ckp_at ck_X11_drop_0 pc q (by omega) (by omega) h
  · exact absurd h (by unfold kd_X11_drop; rw [mm_blt_f hl]; exact fun z => nomatch z)

theorem cm_X11_bind : ∀ pc q, kd_X11_bind pc = some q → mm_ck 222 pc q = true := fun pc q h => by
  rcases Nat.lt_or_ge pc 78 with hl | hl
  · exact mm_ckp_at ck_X11_bind_0 pc q (by omega) (by omega) h
  · exact absurd h (by unfold kd_X11_bind; rw [mm_blt_f hl]; exact fun z => nomatch z)

theorem cm_X11_counts1 : ∀ pc q, kd_X11_counts1 pc = some q → mm_ck 223 pc q = true := fun pc q h => by
  rcases Nat.lt_or_ge pc 27 with hl | hl
  · exact mm_ckp_at ck_X11_counts1_0 pc q (by omega) (by omega) h
  · exact absurd h (by unfold kd_X11_counts1; rw [mm_blt_f hl]; exact fun z => nomatch z)

theorem cm_X11_leafRead : ∀ pc q, kd_X11_leafRead pc = some q → mm_ck 224 pc q = true := fun pc q h => by
  rcases Nat.lt_or_ge pc 253 with hl | hl
  · rcases Nat.lt_or_ge pc 100 with h0 | h0
    · exact mm_ckp_at ck_X11_leafRead_0 pc q (by omega) (by omega) h
    · rcases Nat.lt_or_ge pc 200 with h1 | h1
      · exact mm_ckp_at ck_X11_leafRead_1 pc q (by omega) (by omega) h
      · exact mm_ckp_at ck_X11_leafRead_2 pc q (by omega) (by omega) h
  · exact absurd h (by unfold kd_X11_leafRead; rw [mm_blt_f hl]; exact fun z => nomatch z)

theorem cm_X11_signs : ∀ pc q, kd_X11_signs pc = some q → mm_ck 225 pc q = true := fun pc q h => by
  rcases Nat.lt_or_ge pc 135 with hl | hl
  · rcases Nat.lt_or_ge pc 100 with h0 | h0
    · exact mm_ckp_at ck_X11_signs_0 pc q (by omega) (by omega) h
    · exact mm_ckp_at ck_X11_signs_1 pc q (by omega) (by omega) h
  · exact absurd h (by unfold kd_X11_signs; rw [mm_blt_f hl]; exact fun z => nomatch z)

theorem cm_X11_question : ∀ pc q, kd_X11_question pc = some q → mm_ck 226 pc q = true := fun pc q h => by
  rcases Nat.lt_or_ge pc 177 with hl | hl
  · rcases Nat.lt_or_ge pc 100 with h0 | h0
    · exact mm_ckp_at ck_X11_question_0 pc q (by omega) (by omega) h
    · exact mm_ckp_at ck_X11_question_1 pc q (by omega) (by omega) h
  · exact absurd h (by unfold kd_X11_question; rw [mm_blt_f hl]; exact fun z => nomatch z)

theorem cm_X11_answers : ∀ pc q, kd_X11_answers pc = some q → mm_ck 227 pc q = true := fun pc q h => by
  rcases Nat.lt_or_ge pc 302 with hl | hl
  · rcases Nat.lt_or_ge pc 100 with h0 | h0
    · exact mm_ckp_at ck_X11_answers_0 pc q (by omega) (by omega) h
    · rcases Nat.lt_or_ge pc 200 with h1 | h1
      · exact mm_ckp_at ck_X11_answers_1 pc q (by omega) (by omega) h
      · rcases Nat.lt_or_ge pc 300 with h2 | h2
        · exact mm_ckp_at ck_X11_answers_2 pc q (by omega) (by omega) h
        · exact mm_ckp_at ck_X11_answers_3 pc q (by omega) (by omega) h
  · exact absurd h (by unfold kd_X11_answers; rw [mm_blt_f hl]; exact fun z => nomatch z)

theorem cm_X11_ask : ∀ pc q, kd_X11_ask pc = some q → mm_ck 228 pc q = true := fun pc q h => by
  rcases Nat.lt_or_ge pc 142 with hl | hl
  · rcases Nat.lt_or_ge pc 100 with h0 | h0
    · exact mm_ckp_at ck_X11_ask_0 pc q (by omega) (by omega) h
    · exact mm_ckp_at ck_X11_ask_1 pc q (by omega) (by omega) h
  · exact absurd h (by unfold kd_X11_ask; rw [mm_blt_f hl]; exact fun z => nomatch z)

theorem cm_X11_choose : ∀ pc q, kd_X11_choose pc = some q → mm_ck 229 pc q = true := fun pc q h => by
  rcases Nat.lt_or_ge pc 42 with hl | hl
  · exact mm_ckp_at ck_X11_choose_0 pc q (by omega) (by omega) h
  · exact absurd h (by unfold kd_X11_choose; rw [mm_blt_f hl]; exact fun z => nomatch z)

theorem cm_X11_hasWord : ∀ pc q, kd_X11_hasWord pc = some q → mm_ck 230 pc q = true := fun pc q h => by
  rcases Nat.lt_or_ge pc 20 with hl | hl
  · exact mm_ckp_at ck_X11_hasWord_0 pc q (by omega) (by omega) h
  · exact absurd h (by unfold kd_X11_hasWord; rw [mm_blt_f hl]; exact fun z => nomatch z)

theorem cm_X11_inField : ∀ pc q, kd_X11_inField pc = some q → mm_ck 231 pc q = true := fun pc q h => by
  rcases Nat.lt_or_ge pc 23 with hl | hl
  · exact mm_ckp_at ck_X11_inField_0 pc q (by omega) (by omega) h
  · exact absurd h (by unfold kd_X11_inField; rw [mm_blt_f hl]; exact fun z => nomatch z)

theorem cm_X11_likely : ∀ pc q, kd_X11_likely pc = some q → mm_ck 232 pc q = true := fun pc q h => by
  rcases Nat.lt_or_ge pc 133 with hl | hl
  · rcases Nat.lt_or_ge pc 100 with h0 | h0
    · exact mm_ckp_at ck_X11_likely_0 pc q (by omega) (by omega) h
    · exact mm_ckp_at ck_X11_likely_1 pc q (by omega) (by omega) h
  · exact absurd h (by unfold kd_X11_likely; rw [mm_blt_f hl]; exact fun z => nomatch z)

theorem cm_X11_falseBy : ∀ pc q, kd_X11_falseBy pc = some q → mm_ck 233 pc q = true := fun pc q h => by
  rcases Nat.lt_or_ge pc 62 with hl | hl
  · exact mm_ckp_at ck_X11_falseBy_0 pc q (by omega) (by omega) h
  · exact absurd h (by unfold kd_X11_falseBy; rw [mm_blt_f hl]; exact fun z => nomatch z)

theorem cm_X11_falsely : ∀ pc q, kd_X11_falsely pc = some q → mm_ck 234 pc q = true := fun pc q h => by
  rcases Nat.lt_or_ge pc 40 with hl | hl
  · exact mm_ckp_at ck_X11_falsely_0 pc q (by omega) (by omega) h
  · exact absurd h (by unfold kd_X11_falsely; rw [mm_blt_f hl]; exact fun z => nomatch z)

theorem cm_X11_shared : ∀ pc q, kd_X11_shared pc = some q → mm_ck 235 pc q = true := fun pc q h => by
  rcases Nat.lt_or_ge pc 51 with hl | hl
  · exact mm_ckp_at ck_X11_shared_0 pc q (by omega) (by omega) h
  · exact absurd h (by unfold kd_X11_shared; rw [mm_blt_f hl]; exact fun z => nomatch z)

theorem cm_X11_best : ∀ pc q, kd_X11_best pc = some q → mm_ck 236 pc q = true := fun pc q h => by
  rcases Nat.lt_or_ge pc 315 with hl | hl
  · rcases Nat.lt_or_ge pc 100 with h0 | h0
    · exact mm_ckp_at ck_X11_best_0 pc q (by omega) (by omega) h
    · rcases Nat.lt_or_ge pc 200 with h1 | h1
      · exact mm_ckp_at ck_X11_best_1 pc q (by omega) (by omega) h
      · rcases Nat.lt_or_ge pc 300 with h2 | h2
        · exact mm_ckp_at ck_X11_best_2 pc q (by omega) (by omega) h
        · exact mm_ckp_at ck_X11_best_3 pc q (by omega) (by omega) h
  · exact absurd h (by unfold kd_X11_best; rw [mm_blt_f hl]; exact fun z => nomatch z)

theorem cm_X11_means : ∀ pc q, kd_X11_means pc = some q → mm_ck 237 pc q = true := fun pc q h => by
  rcases Nat.lt_or_ge pc 92 with hl | hl
  · exact mm_ckp_at ck_X11_means_0 pc q (by omega) (by omega) h
  · exact absurd h (by unfold kd_X11_means; rw [mm_blt_f hl]; exact fun z => nomatch z)

theorem cm_X11_meansWords : ∀ pc q, kd_X11_meansWords pc = some q → mm_ck 238 pc q = true := fun pc q h => by
  rcases Nat.lt_or_ge pc 238 with hl | hl
  · rcases Nat.lt_or_ge pc 100 with h0 | h0
    · exact mm_ckp_at ck_X11_meansWords_0 pc q (by omega) (by omega) h
    · rcases Nat.lt_or_ge pc 200 with h1 | h1
      · exact mm_ckp_at ck_X11_meansWords_1 pc q (by omega) (by omega) h
      · exact mm_ckp_at ck_X11_meansWords_2 pc q (by omega) (by omega) h
  · exact absurd h (by unfold kd_X11_meansWords; rw [mm_blt_f hl]; exact fun z => nomatch z)

theorem cm_X11_meansValue : ∀ pc q, kd_X11_meansValue pc = some q → mm_ck 239 pc q = true := fun pc q h => by
  rcases Nat.lt_or_ge pc 129 with hl | hl
  · rcases Nat.lt_or_ge pc 100 with h0 | h0
    · exact mm_ckp_at ck_X11_meansValue_0 pc q (by omega) (by omega) h
    · exact mm_ckp_at ck_X11_meansValue_1 pc q (by omega) (by omega) h
  · exact absurd h (by unfold kd_X11_meansValue; rw [mm_blt_f hl]; exact fun z => nomatch z)

theorem cm_X11_valueOf : ∀ pc q, kd_X11_valueOf pc = some q → mm_ck 240 pc q = true := fun pc q h => by
  rcases Nat.lt_or_ge pc 12 with hl | hl
  · exact mm_ckp_at ck_X11_valueOf_0 pc q (by omega) (by omega) h
  · exact absurd h (by unfold kd_X11_valueOf; rw [mm_blt_f hl]; exact fun z => nomatch z)

theorem cm_X11_behind : ∀ pc q, kd_X11_behind pc = some q → mm_ck 241 pc q = true := fun pc q h => by
  rcases Nat.lt_or_ge pc 180 with hl | hl
  · rcases Nat.lt_or_ge pc 100 with h0 | h0
    · exact mm_ckp_at ck_X11_behind_0 pc q (by omega) (by omega) h
    · exact mm_ckp_at ck_X11_behind_1 pc q (by omega) (by omega) h
  · exact absurd h (by unfold kd_X11_behind; rw [mm_blt_f hl]; exact fun z => nomatch z)

theorem cm_X11_sorts : ∀ pc q, kd_X11_sorts pc = some q → mm_ck 242 pc q = true := fun pc q h => by
  rcases Nat.lt_or_ge pc 264 with hl | hl
  · rcases Nat.lt_or_ge pc 100 with h0 | h0
    · exact mm_ckp_at ck_X11_sorts_0 pc q (by omega) (by omega) h
    · rcases Nat.lt_or_ge pc 200 with h1 | h1
      · exact mm_ckp_at ck_X11_sorts_1 pc q (by omega) (by omega) h
      · exact mm_ckp_at ck_X11_sorts_2 pc q (by omega) (by omega) h
  · exact absurd h (by unfold kd_X11_sorts; rw [mm_blt_f hl]; exact fun z => nomatch z)

theorem cm_X11_nextRow : ∀ pc q, kd_X11_nextRow pc = some q → mm_ck 243 pc q = true := fun pc q h => by
  rcases Nat.lt_or_ge pc 139 with hl | hl
  · rcases Nat.lt_or_ge pc 100 with h0 | h0
    · exact mm_ckp_at ck_X11_nextRow_0 pc q (by omega) (by omega) h
    · exact mm_ckp_at ck_X11_nextRow_1 pc q (by omega) (by omega) h
  · exact absurd h (by unfold kd_X11_nextRow; rw [mm_blt_f hl]; exact fun z => nomatch z)

theorem cm_X11_sort : ∀ pc q, kd_X11_sort pc = some q → mm_ck 244 pc q = true := fun pc q h => by
  rcases Nat.lt_or_ge pc 232 with hl | hl
  · rcases Nat.lt_or_ge pc 100 with h0 | h0
    · exact mm_ckp_at ck_X11_sort_0 pc q (by omega) (by omega) h
    · rcases Nat.lt_or_ge pc 200 with h1 | h1
      · exact mm_ckp_at ck_X11_sort_1 pc q (by omega) (by omega) h
      · exact mm_ckp_at ck_X11_sort_2 pc q (by omega) (by omega) h
  · exact absurd h (by unfold kd_X11_sort; rw [mm_blt_f hl]; exact fun z => nomatch z)

theorem cm_X11_count : ∀ pc q, kd_X11_count pc = some q → mm_ck 245 pc q = true := fun pc q h => by
  rcases Nat.lt_or_ge pc 94 with hl | hl
  · exact mm_ckp_at ck_X11_count_0 pc q (by omega) (by omega) h
  · exact absurd h (by unfold kd_X11_count; rw [mm_blt_f hl]; exact fun z => nomatch z)

theorem cm_J6_bitCount_0f7a4 : ∀ pc q, kd_J6_bitCount_0f7a4 pc = some q → mm_ck 246 pc q = true := fun pc q h => by
  rcases Nat.lt_or_ge pc 53 with hl | hl
  · exact mm_ckp_at ck_J6_bitCount_0f7a4_0 pc q (by omega) (by omega) h
  · exact absurd h (by unfold kd_J6_bitCount_0f7a4; rw [mm_blt_f hl]; exact fun z => nomatch z)

theorem cm_J13_bitCount_95d88 : ∀ pc q, kd_J13_bitCount_95d88 pc = some q → mm_ck 247 pc q = true := fun pc q h => by
  rcases Nat.lt_or_ge pc 61 with hl | hl
  · exact mm_ckp_at ck_J13_bitCount_95d88_0 pc q (by omega) (by omega) h
  · exact absurd h (by unfold kd_J13_bitCount_95d88; rw [mm_blt_f hl]; exact fun z => nomatch z)

theorem cm_X10_look : ∀ pc q, kd_X10_look pc = some q → mm_ck 248 pc q = true := fun pc q h => by
  rcases Nat.lt_or_ge pc 92 with hl | hl
  · exact mm_ckp_at ck_X10_look_0 pc q (by omega) (by omega) h
  · exact absurd h (by unfold kd_X10_look; rw [mm_blt_f hl]; exact fun z => nomatch z)
noncomputable def ck_P (mi : Nat) (f : Nat → Option mm_R) : Prop := ∀ pc q, f pc = some q → mm_ck mi pc q = true
theorem mm_ck_all (mi : Nat) : ck_P mi (mm_code mi) := by
  have hn : ck_P mi (fun _ => none) := fun _ _ h => nomatch h
  exact (mm_sel 124 (mm_sel 62 (mm_sel 31 (mm_sel 15 (mm_sel 7 (mm_sel 3 (mm_sel 1 (mm_leaf cm_L_law hn) (mm_sel 2 (mm_leaf cm_X0_init hn) (mm_leaf cm_X0_find hn))) (mm_sel 5 (mm_sel 4 (mm_leaf cm_X0_cardsCutAt hn) (mm_leaf cm_X0_othersAt hn)) (mm_sel 6 (mm_leaf cm_X0_choose hn) (mm_leaf cm_X0_weigh hn)))) (mm_sel 11 (mm_sel 9 (mm_sel 8 (mm_leaf cm_X1_init hn) (mm_leaf cm_X1_replay hn)) (mm_sel 10 (mm_leaf cm_X1_forget hn) (mm_leaf cm_X1_markStruck hn))) (mm_sel 13 (mm_sel 12 (mm_leaf cm_X1_apply hn) (mm_leaf cm_X1_valueOf hn)) (mm_sel 14 (mm_leaf cm_X1_hasWord hn) (mm_leaf cm_X1_isCutAt hn))))) (mm_sel 23 (mm_sel 19 (mm_sel 17 (mm_sel 16 (mm_leaf cm_X2_init hn) (mm_leaf cm_X2_findSets hn)) (mm_sel 18 (mm_leaf cm_X2_chooseFrom hn) (mm_leaf cm_X2_findValues hn))) (mm_sel 21 (mm_sel 20 (mm_leaf cm_X3_init hn) (mm_leaf cm_X3_add hn)) (mm_sel 22 (mm_leaf cm_X4_init hn) (mm_leaf cm_X4_clear hn)))) (mm_sel 27 (mm_sel 25 (mm_sel 24 (mm_leaf cm_X4_append hn) (mm_leaf cm_X4_lay hn)) (mm_sel 26 (mm_leaf cm_X4_mirrored hn) (mm_leaf cm_X4_isDropping hn))) (mm_sel 29 (mm_sel 28 (mm_leaf cm_X4_dropping hn) (mm_leaf cm_X4_deal hn)) (mm_sel 30 (mm_leaf cm_X5_init hn) (mm_leaf cm_X5_read hn)))))) (mm_sel 46 (mm_sel 38 (mm_sel 34 (mm_sel 32 (mm_leaf cm_X5_readLine hn) (mm_sel 33 (mm_leaf cm_X5_readHoles hn) (mm_leaf cm_X5_readField hn))) (mm_sel 36 (mm_sel 35 (mm_leaf cm_X5_isNewName hn) (mm_leaf cm_X5_kindAt hn)) (mm_sel 37 (mm_leaf cm_X5_readStretch hn) (mm_leaf cm_X5_readDecimal hn)))) (mm_sel 42 (mm_sel 40 (mm_sel 39 (mm_leaf cm_X5_readChosen hn) (mm_leaf cm_X5_isFree hn)) (mm_sel 41 (mm_leaf cm_X5_keepHoles hn) (mm_leaf cm_X5_readWord hn))) (mm_sel 44 (mm_sel 43 (mm_leaf cm_X5_readCode hn) (mm_leaf cm_X5_isField hn)) (mm_sel 45 (mm_leaf cm_X5_isWord hn) (mm_leaf cm_X5_isLaid hn))))) (mm_sel 54 (mm_sel 50 (mm_sel 48 (mm_sel 47 (mm_leaf cm_X5_isValue hn) (mm_leaf cm_X5_width hn)) (mm_sel 49 (mm_leaf cm_X5_spanOf hn) (mm_leaf cm_X5_codeOf hn))) (mm_sel 52 (mm_sel 51 (mm_leaf cm_X5_isCodeOf hn) (mm_leaf cm_X5_wordsOf hn)) (mm_sel 53 (mm_leaf cm_X5_fieldNamed hn) (mm_leaf cm_X5_wordNamed hn)))) (mm_sel 58 (mm_sel 56 (mm_sel 55 (mm_leaf cm_X5_find hn) (mm_leaf cm_X6_init hn)) (mm_sel 57 (mm_leaf cm_X6_clear hn) (mm_leaf cm_X6_read hn))) (mm_sel 60 (mm_sel 59 (mm_leaf cm_X6_readEither hn) (mm_leaf cm_X6_readBoth hn)) (mm_sel 61 (mm_leaf cm_X6_readPart hn) (mm_leaf cm_X6_readInner hn))))))) (mm_sel 93 (mm_sel 77 (mm_sel 69 (mm_sel 65 (mm_sel 63 (mm_leaf cm_X6_readName hn) (mm_sel 64 (mm_leaf cm_X6_passKnot hn) (mm_leaf cm_X6_layDown hn))) (mm_sel 67 (mm_sel 66 (mm_leaf cm_X6_answer hn) (mm_leaf cm_X6_cardsByHoles hn)) (mm_sel 68 (mm_leaf cm_X6_cardsInTruth hn) (mm_leaf cm_X7_init hn)))) (mm_sel 73 (mm_sel 71 (mm_sel 70 (mm_leaf cm_X7_take hn) (mm_leaf cm_X7_fewestMoves hn)) (mm_sel 72 (mm_leaf cm_X7_findRow hn) (mm_leaf cm_X7_firstRow hn))) (mm_sel 75 (mm_sel 74 (mm_leaf cm_X7_isParting hn) (mm_leaf cm_X7_isOrdered hn)) (mm_sel 76 (mm_leaf cm_X7_holeOfPass hn) (mm_leaf cm_X8_init hn))))) (mm_sel 85 (mm_sel 81 (mm_sel 79 (mm_sel 78 (mm_leaf cm_X8_append hn) (mm_leaf cm_X8_begin hn)) (mm_sel 80 (mm_leaf cm_X8_split hn) (mm_leaf cm_X8_splitLetters hn))) (mm_sel 83 (mm_sel 82 (mm_leaf cm_X8_splitDigits hn) (mm_leaf cm_X8_add hn)) (mm_sel 84 (mm_leaf cm_X8_advance hn) (mm_leaf cm_X8_fail hn)))) (mm_sel 89 (mm_sel 87 (mm_sel 86 (mm_leaf cm_X8_failAt hn) (mm_leaf cm_X8_isAt hn)) (mm_sel 88 (mm_leaf cm_X8_isEnded hn) (mm_leaf cm_X8_isNumber hn))) (mm_sel 91 (mm_sel 90 (mm_leaf cm_X8_passWord hn) (mm_leaf cm_X8_passSign hn)) (mm_sel 92 (mm_leaf cm_X8_signAt hn) (mm_leaf cm_X8_isBlank hn)))))) (mm_sel 108 (mm_sel 100 (mm_sel 96 (mm_sel 94 (mm_leaf cm_X8_isLetter hn) (mm_sel 95 (mm_leaf cm_X8_isDigit hn) (mm_leaf cm_X8_isSign hn))) (mm_sel 98 (mm_sel 97 (mm_leaf cm_X8_isOfLanguage hn) (mm_leaf cm_X9_init hn)) (mm_sel 99 (mm_leaf cm_X9_read hn) (mm_leaf cm_X9_readSteps hn)))) (mm_sel 104 (mm_sel 102 (mm_sel 101 (mm_leaf cm_X9_readStep hn) (mm_leaf cm_X9_readPass hn)) (mm_sel 103 (mm_leaf cm_X9_readPack hn) (mm_leaf cm_X9_readNeedle hn))) (mm_sel 106 (mm_sel 105 (mm_leaf cm_X9_readJoin hn) (mm_leaf cm_X9_readAgain hn)) (mm_sel 107 (mm_leaf cm_X9_isDoneBy hn) (mm_leaf cm_X9_doSteps hn))))) (mm_sel 116 (mm_sel 112 (mm_sel 110 (mm_sel 109 (mm_leaf cm_X9_doStep hn) (mm_leaf cm_X10_init hn)) (mm_sel 111 (mm_leaf cm_X10_feed hn) (mm_leaf cm_X10_plan hn))) (mm_sel 114 (mm_sel 113 (mm_leaf cm_X10_work hn) (mm_leaf cm_X10_question hn)) (mm_sel 115 (mm_leaf cm_X10_fault hn) (mm_leaf cm_X10_named hn)))) (mm_sel 120 (mm_sel 118 (mm_sel 117 (mm_leaf cm_X10_code hn) (mm_leaf cm_X10_coded hn)) (mm_sel 119 (mm_leaf cm_X10_card hn) (mm_leaf cm_X10_set hn))) (mm_sel 122 (mm_sel 121 (mm_leaf cm_X10_put hn) (mm_leaf cm_X10_tear hn)) (mm_sel 123 (mm_leaf cm_X10_recode hn) (mm_leaf cm_X10_strike hn)))))))) (mm_sel 186 (mm_sel 155 (mm_sel 139 (mm_sel 131 (mm_sel 127 (mm_sel 125 (mm_leaf cm_X10_notched hn) (mm_sel 126 (mm_leaf cm_X10_truly hn) (mm_leaf cm_X10_turn hn))) (mm_sel 129 (mm_sel 128 (mm_leaf cm_X10_turned hn) (mm_leaf cm_X10_pack hn)) (mm_sel 130 (mm_leaf cm_X10_drops hn) (mm_leaf cm_X10_gather hn)))) (mm_sel 135 (mm_sel 133 (mm_sel 132 (mm_leaf cm_X10_ask hn) (mm_leaf cm_X10_likely hn)) (mm_sel 134 (mm_leaf cm_X10_falsely hn) (mm_leaf cm_X10_best hn))) (mm_sel 137 (mm_sel 136 (mm_leaf cm_X10_means hn) (mm_leaf cm_X10_behind hn)) (mm_sel 138 (mm_leaf cm_X10_sort hn) (mm_leaf cm_X10_count hn))))) (mm_sel 147 (mm_sel 143 (mm_sel 141 (mm_sel 140 (mm_leaf cm_X10_isBy hn) (mm_leaf cm_X10_isCard hn)) (mm_sel 142 (mm_leaf cm_X10_know hn) (mm_leaf cm_X10_knowAll hn))) (mm_sel 145 (mm_sel 144 (mm_leaf cm_X10_isPack hn) (mm_leaf cm_X10_span hn)) (mm_sel 146 (mm_leaf cm_X10_ways hn) (mm_leaf cm_X11_init hn)))) (mm_sel 151 (mm_sel 149 (mm_sel 148 (mm_leaf cm_X11_feed hn) (mm_leaf cm_X11_isIn hn)) (mm_sel 150 (mm_leaf cm_X11_isOf hn) (mm_leaf cm_X11_many hn))) (mm_sel 153 (mm_sel 152 (mm_leaf cm_X11_wrong hn) (mm_leaf cm_X11_wordAt hn)) (mm_sel 154 (mm_leaf cm_X11_isSmall hn) (mm_leaf cm_X11_isDigit hn)))))) (mm_sel 170 (mm_sel 162 (mm_sel 158 (mm_sel 156 (mm_leaf cm_X11_take hn) (mm_sel 157 (mm_leaf cm_X11_packed hn) (mm_leaf cm_X11_isKey hn))) (mm_sel 160 (mm_sel 159 (mm_leaf cm_X11_isSign hn) (mm_leaf cm_X11_signRead hn)) (mm_sel 161 (mm_leaf cm_X11_keyRead hn) (mm_leaf cm_X11_numberRead hn)))) (mm_sel 166 (mm_sel 164 (mm_sel 163 (mm_leaf cm_X11_begins hn) (mm_leaf cm_X11_plain hn)) (mm_sel 165 (mm_leaf cm_X11_keep hn) (mm_leaf cm_X11_fieldRead hn))) (mm_sel 168 (mm_sel 167 (mm_leaf cm_X11_isNamed hn) (mm_leaf cm_X11_between hn)) (mm_sel 169 (mm_leaf cm_X11_newName hn) (mm_leaf cm_X11_fieldLine hn))))) (mm_sel 178 (mm_sel 174 (mm_sel 172 (mm_sel 171 (mm_leaf cm_X11_wordLine hn) (mm_leaf cm_X11_lineRead hn)) (mm_sel 173 (mm_leaf cm_X11_plan hn) (mm_leaf cm_X11_fault hn))) (mm_sel 176 (mm_sel 175 (mm_leaf cm_X11_fieldOf hn) (mm_leaf cm_X11_wordOf hn)) (mm_sel 177 (mm_leaf cm_X11_named hn) (mm_leaf cm_X11_isField hn)))) (mm_sel 182 (mm_sel 180 (mm_sel 179 (mm_leaf cm_X11_isValued hn) (mm_leaf cm_X11_isWord hn)) (mm_sel 181 (mm_leaf cm_X11_fails hn) (mm_leaf cm_X11_look hn))) (mm_sel 184 (mm_sel 183 (mm_leaf cm_X11_codeOf hn) (mm_leaf cm_X11_isValue hn)) (mm_sel 185 (mm_leaf cm_X11_code hn) (mm_leaf cm_X11_isKnowing hn))))))) (mm_sel 217 (mm_sel 201 (mm_sel 193 (mm_sel 189 (mm_sel 187 (mm_leaf cm_X11_isCard hn) (mm_sel 188 (mm_leaf cm_X11_wide hn) (mm_leaf cm_X11_know hn))) (mm_sel 191 (mm_sel 190 (mm_leaf cm_X11_happens hn) (mm_leaf cm_X11_tells hn)) (mm_sel 192 (mm_leaf cm_X11_coded hn) (mm_leaf cm_X11_card hn)))) (mm_sel 197 (mm_sel 195 (mm_sel 194 (mm_leaf cm_X11_set hn) (mm_leaf cm_X11_put hn)) (mm_sel 196 (mm_leaf cm_X11_tear hn) (mm_leaf cm_X11_sizeOf hn))) (mm_sel 199 (mm_sel 198 (mm_leaf cm_X11_recode hn) (mm_leaf cm_X11_strike hn)) (mm_sel 200 (mm_leaf cm_X11_notched hn) (mm_leaf cm_X11_wordsOf hn))))) (mm_sel 209 (mm_sel 205 (mm_sel 203 (mm_sel 202 (mm_leaf cm_X11_truly hn) (mm_leaf cm_X11_turn hn)) (mm_sel 204 (mm_leaf cm_X11_turned hn) (mm_leaf cm_X11_isPack hn))) (mm_sel 207 (mm_sel 206 (mm_leaf cm_X11_pack hn) (mm_leaf cm_X11_falls hn)) (mm_sel 208 (mm_leaf cm_X11_drops hn) (mm_leaf cm_X11_gather hn)))) (mm_sel 213 (mm_sel 211 (mm_sel 210 (mm_leaf cm_X11_comes hn) (mm_leaf cm_X11_packRead hn)) (mm_sel 212 (mm_leaf cm_X11_holeRead hn) (mm_leaf cm_X11_passRead hn))) (mm_sel 215 (mm_sel 214 (mm_leaf cm_X11_joinRead hn) (mm_leaf cm_X11_actRead hn)) (mm_sel 216 (mm_leaf cm_X11_passes hn) (mm_leaf cm_X11_joins hn)))))) (mm_sel 233 (mm_sel 225 (mm_sel 221 (mm_sel 219 (mm_sel 218 (mm_leaf cm_X11_does hn) (mm_leaf cm_X11_work hn)) (mm_sel 220 (mm_leaf cm_X11_weight hn) (mm_leaf cm_X11_grown hn))) (mm_sel 223 (mm_sel 222 (mm_leaf cm_X11_drop hn) (mm_leaf cm_X11_bind hn)) (mm_sel 224 (mm_leaf cm_X11_counts1 hn) (mm_leaf cm_X11_leafRead hn)))) (mm_sel 229 (mm_sel 227 (mm_sel 226 (mm_leaf cm_X11_signs hn) (mm_leaf cm_X11_question hn)) (mm_sel 228 (mm_leaf cm_X11_answers hn) (mm_leaf cm_X11_ask hn))) (mm_sel 231 (mm_sel 230 (mm_leaf cm_X11_choose hn) (mm_leaf cm_X11_hasWord hn)) (mm_sel 232 (mm_leaf cm_X11_inField hn) (mm_leaf cm_X11_likely hn))))) (mm_sel 241 (mm_sel 237 (mm_sel 235 (mm_sel 234 (mm_leaf cm_X11_falseBy hn) (mm_leaf cm_X11_falsely hn)) (mm_sel 236 (mm_leaf cm_X11_shared hn) (mm_leaf cm_X11_best hn))) (mm_sel 239 (mm_sel 238 (mm_leaf cm_X11_means hn) (mm_leaf cm_X11_meansWords hn)) (mm_sel 240 (mm_leaf cm_X11_meansValue hn) (mm_leaf cm_X11_valueOf hn)))) (mm_sel 245 (mm_sel 243 (mm_sel 242 (mm_leaf cm_X11_behind hn) (mm_leaf cm_X11_sorts hn)) (mm_sel 244 (mm_leaf cm_X11_nextRow hn) (mm_leaf cm_X11_sort hn))) (mm_sel 247 (mm_sel 246 (mm_leaf cm_X11_count hn) (mm_leaf cm_J6_bitCount_0f7a4 hn)) (mm_sel 248 (mm_leaf cm_J13_bitCount_95d88 hn) (mm_leaf cm_X10_look hn)))))))))
end
section
/-! SOUNDNESS of a step: what the small machine does, the machine does -/
noncomputable def rl_A (B : Nat) : Nat → Prop := fun q => B ≤ q
/-- what a throw of look's wants of the start -/
noncomputable def lk_I : String := "java/lang/IndexOutOfBoundsException"
noncomputable def lk_N : String := "java/util/NoSuchElementException"
noncomputable def ng_ws : List Cond := [.declares (Bundle.initS "java/lang/RuntimeException"), .declares (Bundle.initS "java/lang/Exception"), .declares (Bundle.initS Bundle.tN), .castable lk_I lk_I, .castable lk_N lk_N]
noncomputable def rl_L (B : Nat) (U : State) (H : Heap) : Prop := vx_Zq Bundle.tN "UNASSIGNED_STACK" Bundle.steD (rl_A B) U H ∧ vx_Zq Bundle.tN "SUPPRESSED_SENTINEL" Bundle.listD (rl_A B) U H ∧ (∀ w ∈ ng_ws, va_Nw w U) ∧ (∃ a, vk_R RX10 155 "no such field" a U) ∧ (∃ a, vk_R RX10 175 "no such what" a U) ∧ va_Nc lk_N lk_I U
noncomputable def rl_E (E : Nat → Nat) (X : mm_X) (B : Nat) (U : State) (H : Heap) : Prop :=
  (∀ d ∈ nn_0, va_Nw (mm_nc d) U) ∧ (∀ e, va_T .int (E e) (X e).1 (fun j => .int ((X e).2 j)) (rl_A B) U H) ∧ (∀ a, 1 ≤ a → a ≤ 3 → va_Z "NotchedCards" (mm_sn a) "[I" (.ref (E a)) (rl_A B) U H) ∧ (Cond.arrayOver (.array .int)).before #[] U = true ∧ rl_L B U H
noncomputable def sn_I (D : va_G) (B : Nat) (s : State) (c0 s0 : Nat) (M : mm_M) (H : Heap) (locs : List Loc) (cells slots : Nat) : Prop :=
  rl D s B M H ∧ va_S (rl_A B) s.heap H locs ∧ c0 + cells = M.1.2.1 ∧ s0 + slots = M.1.2.2.1
noncomputable def sn_C (D : va_G) (E : Nat → Nat) (X : mm_X) (B : Nat) (p : Program) (s : State) (m : MethodId) (args : Array Value) (meth : Method) (c : Code) (mi : Nat) : Prop :=
  p.tables.exec = Jvm.exec ∧ c.code = mm_cc mi ∧ c.maxLocals = mm_mx mi ∧ s.vm.findClass (mm_on (mm_ow mi)) = some m.cls ∧ (∀ w ∈ lw_tbl, goodWord w = true → w.before args s = true) ∧ (mm_ii mi = true → meth.name = "<init>") ∧ va_K D vwCl [] s ∧ rl_E E X B s s.heap ∧ B ≤ s.heap.size ∧ mi < mm_nm
theorem mm_pI_P {st : List Value} {K : Int32 → List Value → Prop} (h : mm_pI st K False) : ∃ x r, st = .int x :: r ∧ K x r := by
  unfold mm_pI at h; split at h
  · exact ⟨_, _, rfl, h⟩
  · exact h.elim
theorem mm_pL_P {st : List Value} {K : Int64 → List Value → Prop} (h : mm_pL st K False) : ∃ x r, st = .long x :: r ∧ K x r := by
  unfold mm_pL at h; split at h
  · exact ⟨_, _, rfl, h⟩
  · exact h.elim
theorem mm_pR_P {st : List Value} {K : Nat → List Value → Prop} (h : mm_pR st K False) : ∃ x r, st = .ref x :: r ∧ K x r := by
  unfold mm_pR at h; split at h
  · exact ⟨_, _, rfl, h⟩
  · exact h.elim
theorem mm_p1_P {st : List Value} {K : Value → List Value → Prop} (h : mm_p1 st K False) : ∃ v r, st = v :: r ∧ (∀ (B : Nat) (E : Nat → Nat), (mm_tr B E v).category = 1) ∧ K v r := by
  unfold mm_p1 at h; split at h
  · exact ⟨_, _, rfl, fun _ _ => rfl, h⟩
  · exact ⟨_, _, rfl, fun _ _ => rfl, h⟩
  · exact h.elim
theorem mm_gI_P {v : Value} {K : Int32 → Prop} (h : mm_gI v K False) : ∃ x, v = .int x ∧ K x := by
  unfold mm_gI at h; split at h
  · exact ⟨_, rfl, h⟩
  · exact h.elim
theorem mm_gL_P {v w : Value} {K : Int64 → Prop} (h : mm_gL v w K False) : ∃ x, v = .long x ∧ w = .null ∧ K x := by
  unfold mm_gL at h; split at h
  · exact ⟨_, rfl, rfl, h⟩
  · exact h.elim
theorem mm_gR_P {v : Value} {K : Nat → Prop} (h : mm_gR v K False) : ∃ x, v = .ref x ∧ K x := by
  unfold mm_gR at h; split at h
  · exact ⟨_, rfl, h⟩
  · exact h.elim
theorem mm_gO_P {v : Option Nat} {K : Nat → Prop} (h : mm_gO v K False) : ∃ x, v = some x ∧ K x := by
  unfold mm_gO at h; split at h
  · exact ⟨_, rfl, h⟩
  · exact h.elim
theorem mm_b_P {b : Bool} {k : Prop} (h : mm_b b k False) : b = true ∧ k := by
  unfold mm_b at h; split at h
  · exact ⟨rfl, h⟩
  · exact h.elim
theorem mm_b_E {b : Bool} {k k2 : Prop} (h : mm_b b k k2) : (b = true ∧ k) ∨ (b = false ∧ k2) := by
  unfold mm_b at h; split at h
  · exact Or.inl ⟨rfl, h⟩
  · exact Or.inr ⟨rfl, h⟩
theorem mm_e_P {st : List Value} {k : Prop} (h : mm_e st k False) : st = [] ∧ k := by
  unfold mm_e at h; split at h
  · exact ⟨rfl, h⟩
  · exact h.elim
theorem mm_nif {c : Prop} [Decidable c] {k : Prop} (h : if c then False else k) : ¬ c ∧ k := by
  by_cases hc : c
  · rw [if_pos hc] at h; exact h.elim
  · rw [if_neg hc] at h; exact ⟨hc, h⟩
theorem mm_pif {c : Prop} [Decidable c] {k : Prop} (h : if c then k else False) : c ∧ k := by
  by_cases hc : c
  · rw [if_pos hc] at h; exact ⟨hc, h⟩
  · rw [if_neg hc] at h; exact h.elim
theorem mm_isObj_P {M : mm_M} {a c : Nat} (h : mm_isObj M a c = true) : a < M.1.1.1 ∧ M.1.1.2.1 a = c := by
  unfold mm_isObj at h
  rw [Bool.and_eq_true] at h
  exact ⟨Nat.le_of_ble_eq_true h.1, Nat.eq_of_beq_eq_true h.2⟩
theorem rl.ext {D : va_G} {U : State} {B : Nat} {M : mm_M} {H : Heap} (h : rl D U B M H) {a : Nat} (ha : a < M.1.1.1) (E : Nat → Nat) : mm_ad B E a = B + a := by
  unfold mm_ad
  rw [if_neg (by have := h.1.2.2; omega)]
/-- the local k -/
theorem lvR.l {B : Nat} {E : Nat → Nat} {lsA : Array Slot} {nL : Nat} {ls : List Value} (h : lvR B E lsA nL ls) {k : Nat} {x : Int64} (hk : mm_at ls k = .long x) (h2 : mm_at ls (k + 1) = .null) (h3 : k + 1 < ls.length) : lsA[k]? = some (.val (.long x)) := by
  refine h.2.2.2 (k, .long x) (mm_cl_mem.mpr ⟨by show k < ls.length; omega, ?_⟩)
  simp only [hk, h2]
  unfold mm_cl1
  simp only [if_pos h3]
theorem mm_cl1_inv {B : Nat} {E : Nat → Nat} {n k : Nat} {v w : Value} {q : Nat × Value} (h : mm_cl1 B E n k v w = some q) : (∃ x, v = .int x ∧ q = (k, .int x)) ∨ (∃ a, v = .ref a ∧ q = (k, .ref (mm_ad B E a))) ∨ ∃ x, v = .long x ∧ w = .null ∧ k + 1 < n ∧ q = (k, .long x) := by
  cases v with
  | int x => exact Or.inl ⟨x, rfl, (Option.some.inj h).symm⟩
  | ref a => exact Or.inr (Or.inl ⟨a, rfl, (Option.some.inj h).symm⟩)
  | long x =>
    cases w with
    | null =>
      by_cases hc : k + 1 < n
      · have h2 : (if k + 1 < n then some (k, Value.long x) else none) = some q := h
        rw [if_pos hc] at h2
        exact Or.inr (Or.inr ⟨x, rfl, rfl, hc, (Option.some.inj h2).symm⟩)
      · have h2 : (if k + 1 < n then some (k, Value.long x) else none) = some q := h
        rw [if_neg hc] at h2
        cases h2
    | _ => cases h
  | _ => cases h
theorem mm_cl1_mk {B : Nat} {E : Nat → Nat} {n k : Nat} {v w : Value} {q : Nat × Value} (h : (∃ x, v = .int x ∧ q = (k, .int x)) ∨ (∃ a, v = .ref a ∧ q = (k, .ref (mm_ad B E a))) ∨ ∃ x, v = .long x ∧ w = .null ∧ k + 1 < n ∧ q = (k, .long x)) : mm_cl1 B E n k v w = some q := by
  rcases h with ⟨x, rfl, rfl⟩ | ⟨a, rfl, rfl⟩ | ⟨x, rfl, rfl, hc, rfl⟩
  · rfl
  · rfl
  · show (if k + 1 < n then some (k, Value.long x) else none) = _
    rw [if_pos hc]
theorem lvR.set1 {B : Nat} {E : Nat → Nat} {ls : List Value} {i : Nat} {v : Value} (hi : i < ls.length) (hv : (∃ x, v = .int x) ∨ ∃ x, v = .ref x) : ∀ q ∈ mm_cl B E (mm_set ls i v), q ∈ (i, mm_tr B E v) :: (mm_cl B E ls).filter (fun q => !(q.1 == i) && !(q.1 + 1 == i && q.2.category == 2)) := by
  intro q hq
  obtain ⟨h1, h2⟩ := mm_cl_mem.mp hq
  rw [mm_set_len] at h1 h2
  simp only [mm_at_set] at h2
  by_cases e : q.1 = i
  · rw [if_pos ⟨e, hi⟩] at h2
    refine List.mem_cons.mpr (Or.inl ?_)
    rcases hv with ⟨x, rfl⟩ | ⟨x, rfl⟩
    · rcases mm_cl1_inv h2 with ⟨y, e1, e2⟩ | ⟨y, e1, e2⟩ | ⟨y, e1, -, -, e2⟩
      · cases e1; rw [e2, e]; rfl
      · cases e1
      · cases e1
    · rcases mm_cl1_inv h2 with ⟨y, e1, e2⟩ | ⟨y, e1, e2⟩ | ⟨y, e1, -, -, e2⟩
      · cases e1
      · cases e1; rw [e2, e]; rfl
      · cases e1
  · rw [if_neg (fun z => e z.1)] at h2
    refine List.mem_cons_of_mem _ (List.mem_filter.mpr ?_)
    by_cases e2 : q.1 + 1 = i
    · rw [if_pos ⟨e2, hi⟩] at h2
      rcases mm_cl1_inv h2 with ⟨y, e1, e3⟩ | ⟨y, e1, e3⟩ | ⟨y, e1, e4, -, e3⟩
      · exact ⟨mm_cl_mem.mpr ⟨h1, mm_cl1_mk (Or.inl ⟨y, e1, e3⟩)⟩, by rw [e3]; simp [e, Value.category]⟩
      · exact ⟨mm_cl_mem.mpr ⟨h1, mm_cl1_mk (Or.inr (Or.inl ⟨y, e1, e3⟩))⟩, by rw [e3]; simp [e, Value.category]⟩
      · rcases hv with ⟨x, rfl⟩ | ⟨x, rfl⟩ <;> cases e4
    · rw [if_neg (fun z => e2 z.1)] at h2
      exact ⟨mm_cl_mem.mpr ⟨h1, h2⟩, by simp [e, e2]⟩
theorem lvR.set2 {B : Nat} {E : Nat → Nat} {ls : List Value} {i : Nat} {x : Int64} (hi : i + 1 < ls.length) : ∀ q ∈ mm_cl B E (mm_set (mm_set ls i (.long x)) (i + 1) .null), q ∈ (i, Value.long x) :: (mm_cl B E ls).filter (fun q => !(q.1 == i) && (!(q.1 == i + 1) && !(q.1 + 1 == i && q.2.category == 2))) := by
  intro q hq
  obtain ⟨h1, h2⟩ := mm_cl_mem.mp hq
  simp only [mm_set_len] at h1 h2
  simp only [mm_at_set, mm_set_len] at h2
  by_cases e : q.1 = i
  · rw [if_neg (by omega), if_pos ⟨e, by omega⟩, if_pos ⟨by omega, by omega⟩] at h2
    rcases mm_cl1_inv h2 with ⟨y, e1, e2⟩ | ⟨y, e1, e2⟩ | ⟨y, e1, -, -, e2⟩
    · cases e1
    · cases e1
    · cases e1; exact List.mem_cons.mpr (Or.inl (by rw [e2, e]))
  · by_cases e1 : q.1 = i + 1
    · rw [if_pos ⟨e1, by omega⟩] at h2
      rcases mm_cl1_inv h2 with ⟨y, e1, e2⟩ | ⟨y, e1, e2⟩ | ⟨y, e1, -, -, e2⟩ <;> cases e1
    · rw [if_neg (by omega), if_neg (by omega)] at h2
      refine List.mem_cons_of_mem _ (List.mem_filter.mpr ?_)
      by_cases e2 : q.1 + 1 = i
      · rw [if_neg (by omega), if_pos ⟨e2, by omega⟩] at h2
        rcases mm_cl1_inv h2 with ⟨y, e4, e3⟩ | ⟨y, e4, e3⟩ | ⟨y, e4, e5, -, e3⟩
        · exact ⟨mm_cl_mem.mpr ⟨h1, mm_cl1_mk (Or.inl ⟨y, e4, e3⟩)⟩, by rw [e3]; simp [e, e1, Value.category]⟩
        · exact ⟨mm_cl_mem.mpr ⟨h1, mm_cl1_mk (Or.inr (Or.inl ⟨y, e4, e3⟩))⟩, by rw [e3]; simp [e, e1, Value.category]⟩
        · cases e5
      · rw [if_neg (by omega), if_neg (by omega)] at h2
        exact ⟨mm_cl_mem.mpr ⟨h1, h2⟩, by simp [e, e1, e2]⟩
theorem lvR.of {B : Nat} {E : Nat → Nat} {lsA : Array Slot} {nL : Nat} {ls : List Value} {l : List (Nat × Value)} (hn : ls.length = nL) (h : lv_has lsA nL l) (hm : ∀ q ∈ mm_cl B E ls, q ∈ l) : lvR B E lsA nL ls := ⟨hn, h.1, h.2.1, fun q hq => h.2.2 q (hm q hq)⟩
end
section
/-! CLASSES: what holds of each class's tables -/
noncomputable def mm_dv (n : Nat) : Value := match n with
  | 0 => .int 0
  | 1 => .int 0
  | 2 => .long 0
  | _ => .null
noncomputable def mm_rf (t : FieldType) : Bool := match t with
  | .object _ => true
  | .array _ => true
  | _ => false
noncomputable def mm_fo : Nat → (Nat → Bool) → Bool
  | 0, _ => true
  | n + 1, f => mm_fo n f && f n
theorem mm_fo_at {f : Nat → Bool} : ∀ {n : Nat}, mm_fo n f = true → ∀ k, k < n → f k = true
  | 0, _, _, h => absurd h (Nat.not_lt_zero _)
  | n + 1, h, k, hk => by
    simp only [mm_fo, Bool.and_eq_true] at h
    rcases Nat.eq_or_lt_of_le (Nat.le_of_lt_succ hk) with e | e
    · subst e; exact h.2
    · exact mm_fo_at h.1 k e
theorem tn_0 (k : Nat) : (TX0 k).1 = RX0 := by
  unfold TX0; split <;> rfl
theorem tn_1 (k : Nat) : (TX1 k).1 = RX1 := by
  unfold TX1; split <;> rfl
theorem tn_2 (k : Nat) : (TX2 k).1 = RX2 := by
  unfold TX2; split <;> rfl
theorem tn_3 (k : Nat) : (TX3 k).1 = RX3 := by
  unfold TX3; split <;> rfl
theorem tn_4 (k : Nat) : (TX4 k).1 = RX4 := by
  unfold TX4; split <;> rfl
theorem tn_5 (k : Nat) : (TX5 k).1 = RX5 := by
  unfold TX5; split <;> rfl
theorem tn_6 (k : Nat) : (TX6 k).1 = RX6 := by
  unfold TX6; split <;> rfl
theorem tn_7 (k : Nat) : (TX7 k).1 = RX7 := by
  unfold TX7; split <;> rfl
theorem tn_8 (k : Nat) : (TX8 k).1 = RX8 := by
  unfold TX8; split <;> rfl
theorem tn_9 (k : Nat) : (TX9 k).1 = RX9 := by
  unfold TX9; split <;> rfl
theorem tn_10 (k : Nat) : (TX10 k).1 = RX10 := by
  unfold TX10; split <;> rfl
theorem tn_11 (k : Nat) : (TX11 k).1 = RX11 := by
  unfold TX11; split <;> rfl
noncomputable def cl_ok (c : Nat) : Prop := (∀ k, k < mm_tn c → parseFieldDescriptor (mm_tf c k).2.2.1 = some (mm_ty c k)) ∧ (∀ a, a < mm_tn c → ∀ b, b < mm_tn c → a ≠ b → (mm_tf c a).2.1 ≠ (mm_tf c b).2.1) ∧ vwCl[c]? = some (mm_on c, mm_tf c, mm_tn c) ∧ (∀ w ∈ u_ws (mm_on c) (mm_tf c) (mm_tn c), w ∈ lw_tbl) ∧ (Cond.instantiable (mm_on c) (mm_tn c) ∈ lw_tbl ∧ Cond.initialized (mm_on c) ∈ lw_tbl) ∧
  mm_fo (mm_tn c) (fun k => decide (defaultValue (mm_ty c k) = mm_dv (mm_fk c k)) && (!Nat.beq (mm_fk c k) 3 || mm_rf (mm_ty c k))) = true ∧ (∀ k, k < mm_tn c → (mm_tf c k).1 = mm_on c)
theorem cl_all : mm_all cl_ok 0 12 := ⟨⟨tyX0_ok, nmX0, rfl, uw_0, ui_0, by decide +kernel, fun k _ => by unfold mm_tf; exact (tn_0 k)⟩, ⟨tyX1_ok, nmX1, rfl, uw_1, ui_1, by decide +kernel, fun k _ => by unfold mm_tf; exact (tn_1 k)⟩, ⟨tyX2_ok, nmX2, rfl, uw_2, ui_2, by decide +kernel, fun k _ => by unfold mm_tf; exact (tn_2 k)⟩, ⟨tyX3_ok, nmX3, rfl, uw_3, ui_3, by decide +kernel, fun k _ => by unfold mm_tf; exact (tn_3 k)⟩, ⟨tyX4_ok, nmX4, rfl, uw_4, ui_4, by decide +kernel, fun k _ => by unfold mm_tf; exact (tn_4 k)⟩, ⟨tyX5_ok, nmX5, rfl, uw_5, ui_5, by decide +kernel, fun k _ => by unfold mm_tf; exact (tn_5 k)⟩, ⟨tyX6_ok, nmX6, rfl, uw_6, ui_6, by decide +kernel, fun k _ => by unfold mm_tf; exact (tn_6 k)⟩, ⟨tyX7_ok, nmX7, rfl, uw_7, ui_7, by decide +kernel, fun k _ => by unfold mm_tf; exact (tn_7 k)⟩, ⟨tyX8_ok, nmX8, rfl, uw_8, ui_8, by decide +kernel, fun k _ => by unfold mm_tf; exact (tn_8 k)⟩, ⟨tyX9_ok, nmX9, rfl, uw_9, ui_9, by decide +kernel, fun k _ => by unfold mm_tf; exact (tn_9 k)⟩, ⟨tyX10_ok, nmX10, rfl, uw_10, ui_10, by decide +kernel, fun k _ => by unfold mm_tf; exact (tn_10 k)⟩, ⟨tyX11_ok, nmX11, rfl, uw_11, ui_11, by decide +kernel, fun k _ => by unfold mm_tf; exact (tn_11 k)⟩, trivial⟩
theorem cl_at {c : Nat} (h : c < mm_ncl) : cl_ok c := mm_all_at cl_all c (Nat.zero_le _) (by simpa [mm_ncl] using h)
theorem u_ws_good (C : String) (T : u_T) (N : Nat) : ∀ w ∈ u_ws C T N, goodWord w = true := by
  intro w hw
  obtain ⟨k, -, rfl⟩ := List.mem_map.mp hw
  unfold u_lay
  split <;> rfl
theorem mm_tk_0 {t : FieldType} (h : mm_tk t = 0) : t = .int := by cases t <;> first | rfl | cases h
theorem mm_tk_1 {t : FieldType} (h : mm_tk t = 1) : t = .boolean := by cases t <;> first | rfl | cases h
theorem mm_tk_2 {t : FieldType} (h : mm_tk t = 2) : t = .long := by cases t <;> first | rfl | cases h
/-! a change of one cell -/
theorem rl.upd {D : va_G} {U : State} {B : Nat} {M M1 : mm_M} {H H1 : Heap} {a : Nat} (h : rl D U B M H) (ha : a < M.1.1.1) (hs : M1.1 = M.1) (hz : H1.size = H.size) (ho : ∀ q : Nat, q ≠ B + a → H1[q]? = H[q]?) (hc : ∀ b, b ≠ a → (∀ j, M1.2.1 b j = M.2.1 b j) ∧ (∀ j, M1.2.2.1 b j = M.2.2.1 b j) ∧ ∀ j, M1.2.2.2 b j = M.2.2.2 b j) (hcl : ∀ b i y, M1.2.2.2 b i = some y → y < M.1.1.1) (hn : rl_at D U B M1 H1 a) : rl D U B M1 H1 := by
  refine ⟨?_, fun b hb => ?_, fun b i hb => ?_, fun b i y hy => ?_⟩
  · rw [hs, hz]; exact h.1
  · by_cases e : b = a
    · subst e; exact hn
    · obtain ⟨h1, h2, h3⟩ := hc b e
      rw [hs] at hb
      exact ((h.2.1 b hb).kept (ho (B + b) (by omega))).to (by rw [hs]) (by rw [hs]) h1 h2 h3
  · rw [hs] at hb
    obtain ⟨h1, h2, h3⟩ := hc b (by omega)
    rw [h1, h2, h3]
    exact h.2.2.1 b i hb
  · rw [hs]; exact hcl b i y hy
theorem mm_setI_o (M : mm_M) (a i : Nat) (x : Int32) {b : Nat} (h : b ≠ a) : (∀ j, (mm_setI M a i x).2.1 b j = M.2.1 b j) ∧ (∀ j, (mm_setI M a i x).2.2.1 b j = M.2.2.1 b j) ∧ ∀ j, (mm_setI M a i x).2.2.2 b j = M.2.2.2 b j := ⟨fun j => if_neg (fun z => h z.1), fun _ => rfl, fun _ => rfl⟩
theorem mm_setL_o (M : mm_M) (a i : Nat) (x : Int64) {b : Nat} (h : b ≠ a) : (∀ j, (mm_setL M a i x).2.1 b j = M.2.1 b j) ∧ (∀ j, (mm_setL M a i x).2.2.1 b j = M.2.2.1 b j) ∧ ∀ j, (mm_setL M a i x).2.2.2 b j = M.2.2.2 b j := ⟨fun _ => rfl, fun j => if_neg (fun z => h z.1), fun _ => rfl⟩
theorem mm_setR_o (M : mm_M) (a i : Nat) (x : Option Nat) {b : Nat} (h : b ≠ a) : (∀ j, (mm_setR M a i x).2.1 b j = M.2.1 b j) ∧ (∀ j, (mm_setR M a i x).2.2.1 b j = M.2.2.1 b j) ∧ ∀ j, (mm_setR M a i x).2.2.2 b j = M.2.2.2 b j := ⟨fun _ => rfl, fun _ => rfl, fun j => if_neg (fun z => h z.1)⟩
theorem mm_setI_at (M : mm_M) (a i : Nat) (x : Int32) (j : Nat) : (mm_setI M a i x).2.1 a j = if j = i then x else M.2.1 a j := by
  show (if a = a ∧ j = i then x else M.2.1 a j) = _
  by_cases h : j = i
  · rw [if_pos ⟨rfl, h⟩, if_pos h]
  · rw [if_neg (fun z => h z.2), if_neg h]
theorem mm_setL_at (M : mm_M) (a i : Nat) (x : Int64) (j : Nat) : (mm_setL M a i x).2.2.1 a j = if j = i then x else M.2.2.1 a j := by
  show (if a = a ∧ j = i then x else M.2.2.1 a j) = _
  by_cases h : j = i
  · rw [if_pos ⟨rfl, h⟩, if_pos h]
  · rw [if_neg (fun z => h z.2), if_neg h]
theorem mm_setR_at (M : mm_M) (a i : Nat) (x : Option Nat) (j : Nat) : (mm_setR M a i x).2.2.2 a j = if j = i then x else M.2.2.2 a j := by
  show (if a = a ∧ j = i then x else M.2.2.2 a j) = _
  by_cases h : j = i
  · rw [if_pos ⟨rfl, h⟩, if_pos h]
  · rw [if_neg (fun z => h z.2), if_neg h]
/-- an object's cell, made out of its fields -/
theorem rl_at.obj {D : va_G} {U : State} {B : Nat} {M : mm_M} {H : Heap} {a c : Nat} (ht : M.1.1.2.1 a = c) (hc : c < mm_ncl) (h : t_OB (B + a) (D.1 c) (mm_tn c) (D.2 c) H (rl_V B M c a)) : rl_at D U B M H a := by
  have hn : mm_ncl = 12 := rfl
  subst ht
  refine ⟨fun q => ?_, fun q => ?_, fun q => ?_, fun q => ?_, fun q => ?_, fun _ => h⟩ <;> omega
theorem rl_at.ints {D : va_G} {U : State} {B : Nat} {M : mm_M} {H : Heap} {a : Nat} (ht : M.1.1.2.1 a = 100) (h : ∃ cA, ArrOfT U cA .int ∧ H[B + a]? = some (arrV cA (M.1.1.2.2 a) (fun j => .int (M.2.1 a j)))) : rl_at D U B M H a := by
  have hn : mm_ncl = 12 := rfl
  exact ⟨fun _ => h, fun q => by omega, fun q => by omega, fun q => by omega, fun q => by omega, fun q => by omega⟩
theorem rl_at.longs {D : va_G} {U : State} {B : Nat} {M : mm_M} {H : Heap} {a : Nat} (ht : M.1.1.2.1 a = 101) (h : ∃ cA, ArrOfT U cA .long ∧ H[B + a]? = some (arrV cA (M.1.1.2.2 a) (fun j => .long (M.2.2.1 a j)))) : rl_at D U B M H a := by
  have hn : mm_ncl = 12 := rfl
  exact ⟨fun q => by omega, fun _ => h, fun q => by omega, fun q => by omega, fun q => by omega, fun q => by omega⟩
theorem rl_at.bools {D : va_G} {U : State} {B : Nat} {M : mm_M} {H : Heap} {a : Nat} (ht : M.1.1.2.1 a = 102) (h : ∃ cA, ArrOfT U cA .boolean ∧ H[B + a]? = some (arrV cA (M.1.1.2.2 a) (fun j => .int (M.2.1 a j)))) : rl_at D U B M H a := by
  have hn : mm_ncl = 12 := rfl
  exact ⟨fun q => by omega, fun q => by omega, fun _ => h, fun q => by omega, fun q => by omega, fun q => by omega⟩
theorem rl_at.bytes {D : va_G} {U : State} {B : Nat} {M : mm_M} {H : Heap} {a : Nat} (ht : M.1.1.2.1 a = 103) (h : ∃ cA, ArrOfT U cA .byte ∧ H[B + a]? = some (arrV cA (M.1.1.2.2 a) (fun j => .int (M.2.1 a j)))) : rl_at D U B M H a := by
  have hn : mm_ncl = 12 := rfl
  exact ⟨fun q => by omega, fun q => by omega, fun q => by omega, fun _ => h, fun q => by omega, fun q => by omega⟩
theorem rl_at.rows {D : va_G} {U : State} {B : Nat} {M : mm_M} {H : Heap} {a : Nat} (ht : M.1.1.2.1 a = 104) (h : ∃ cA, ArrOfT U cA (.array .int) ∧ H[B + a]? = some (arrV cA (M.1.1.2.2 a) (fun j => va_rf ((M.2.2.2 a j).map (B + ·))))) : rl_at D U B M H a := by
  have hn : mm_ncl = 12 := rfl
  exact ⟨fun q => by omega, fun q => by omega, fun q => by omega, fun q => by omega, fun _ => h, fun q => by omega⟩
/-- a new cell behind the others -/
theorem rl.push {D : va_G} {U : State} {B : Nat} {M M1 : mm_M} {H H1 : Heap} (h : rl D U B M H) (hsz : M1.1.1.1 = M.1.1.1 + 1) (hfx : M1.1.2.2.2 = M.1.2.2.2) (hlim : M.1.1.1 < 999000) (hx : M.1.2.2.2 = 0) (hz : H1.size = H.size + 1) (ho : ∀ q : Nat, q < H.size → H1[q]? = H[q]?) (ht : ∀ b, b < M.1.1.1 → M1.1.1.2.1 b = M.1.1.2.1 b ∧ M1.1.1.2.2 b = M.1.1.2.2 b) (hm : M1.2 = M.2) (hn : rl_at D U B M1 H1 M.1.1.1) : rl D U B M1 H1 := by
  obtain ⟨⟨h1, h2, h3⟩, h4, h5, h6⟩ := h
  have hs := h2 hx
  have he : mm_ext = 1000000 := rfl
  refine ⟨⟨by omega, fun _ => by omega, by omega⟩, fun b hb => ?_, fun b i hb => ?_, fun b i y hy => ?_⟩
  · rcases Nat.eq_or_lt_of_le (show b ≤ M.1.1.1 by omega) with e | e
    · rw [e]; exact hn
    · exact ((h4 b e).kept (ho (B + b) (by omega))).to (ht b e).1 (ht b e).2 (fun j => by rw [hm]) (fun j => by rw [hm]) (fun j => by rw [hm])
  · rw [hm]; exact h5 b i (by omega)
  · rw [hm] at hy; have := h6 b i y hy; omega
end
section
/-! the heap's instructions, over the small machine's cells -/
section SNO
variable {p : Program} {l : Launch} {e : Env} {R : Room} {s : State} {m : MethodId} {args : Array Value} {below : List Frame} {meth : Method} {c : Code} {H : Heap} {locs : List Loc} {cells slots : Nat} {Q : State → Prop}
variable {D : va_G} {E : Nat → Nat} {X : mm_X} {B c0 s0 : Nat} {mi pc : Nat} {lsA : Array Slot} {rest : List Value} {M : mm_M}
theorem sn_cls {k : Nat} (hC : sn_C D E X B p s m args meth c mi) (hk : k < mm_ncl) : (∀ w ∈ u_ws (mm_on k) (mm_tf k) (mm_tn k), w.before args s = true) ∧ u_Kn s (mm_on k) (mm_tf k) (mm_tn k) (D.1 k) (D.2 k) := by
  obtain ⟨-, -, -, -, hts, -, hK, -, -⟩ := hC
  obtain ⟨-, -, h3, h4, -⟩ := cl_at hk
  exact ⟨fun w hw => hts w (h4 w hw) (u_ws_good _ _ _ w hw), hK.1 k _ h3⟩
theorem sn_get {a k j idx : Nat} (hC : sn_C D E X B p s m args meth c mi) (hI : sn_I D B s c0 s0 M H locs cells slots) (ha : a < M.1.1.1) (ht : M.1.1.2.1 a = k) (hk : k < mm_ncl) (hj : j < mm_tn k) (hlink : mm_lc (mm_ow mi) (0, idx, k, j) ∈ lw_tbl) (hd : decode (mm_cc mi) pc = .ok (.getfield idx, 3))
    (kk : W p l e R s m args below meth c H locs cells slots Q (F0 m (pc + 3) lsA (rl_V B M k a j :: rest))) : W p l e R s m args below meth c H locs cells slots Q (F0 m pc lsA (.ref (B + a) :: rest)) := by
  subst ht
  obtain ⟨hu, hS, hfc, kC, hkC, hkind⟩ := sn_cls hC hk
  obtain ⟨hx, hb, -, hown, hts, -⟩ := hC
  obtain ⟨cell, q1, q2, q3, q4⟩ := (hI.1.2.1 a ha).2.2.2.2.2 hk
  obtain ⟨cf, kf, fi, f, hi, hsl⟩ := hS j hj
  refine W.getf hx hb hown (hts _ hlink rfl) hi (u_facts hfc hkC (u_lays hu (fun _ h => h) hj) hi).1 q1 (by rw [q3]; exact fun h => by cases h) (v := rl_V B M _ a j) ?_ rfl rfl hd kk
  rw [hsl, q4 j hj]
theorem sn_put {a k j idx : Nat} {v : Value} {M1 : mm_M} (hC : sn_C D E X B p s m args meth c mi) (hI : sn_I D B s c0 s0 M H locs cells slots) (ha : a < M.1.1.1) (ht : M.1.1.2.1 a = k) (hk : k < mm_ncl) (hj : j < mm_tn k) (hlink : mm_lc (mm_ow mi) (0, idx, k, j) ∈ lw_tbl) (hfin : (mm_tf k j).2.2.2 = false ∨ (mm_ii mi = true ∧ k = mm_ow mi)) (hn : narrow (mm_ty k j) v = v) (hfit : fits (mm_ty k j) v = true) (hs1 : M1.1 = M.1) (hc : ∀ b, b ≠ a → (∀ i, M1.2.1 b i = M.2.1 b i) ∧ (∀ i, M1.2.2.1 b i = M.2.2.1 b i) ∧ ∀ i, M1.2.2.2 b i = M.2.2.2 b i) (hcl : ∀ b i y, M1.2.2.2 b i = some y → y < M.1.1.1) (hv : ∀ i, i < mm_tn k → updV (rl_V B M k a) j v i = rl_V B M1 k a i) (hd : decode (mm_cc mi) pc = .ok (.putfield idx, 3))
    (kk : ∀ (H1 : Heap) (locs1 : List Loc), sn_I D B s c0 s0 M1 H1 locs1 cells slots → W p l e R s m args below meth c H1 locs1 cells slots Q (F0 m (pc + 3) lsA rest)) : W p l e R s m args below meth c H locs cells slots Q (F0 m pc lsA (v :: .ref (B + a) :: rest)) := by
  subst ht
  obtain ⟨hu, hKn⟩ := sn_cls hC hk
  have hap : ∀ x y, x < mm_tn (M.1.1.2.1 a) → y < mm_tn (M.1.1.2.1 a) → x ≠ y → D.2 (M.1.1.2.1 a) x ≠ D.2 (M.1.1.2.1 a) y := va_apart (own := "") (D := D) (cl := vwCl) (tys := []) hu (fun _ h => h) (mm_ty (M.1.1.2.1 a)) (cl_at hk).1 (cl_at hk).2.1 hC.2.2.2.2.2.2.1 (cl_at hk).2.2.1
  obtain ⟨hS, hfc, kC, hkC, hkind⟩ := hKn
  obtain ⟨hx, hb, -, hown, hts, hii, -⟩ := hC
  obtain ⟨cell, q1, q2, q3, q4⟩ := (hI.1.2.1 a ha).2.2.2.2.2 hk
  obtain ⟨cf, kf, fi, f, hi, hsl⟩ := hS j hj
  have hst := (u_facts hfc hkC (u_lays hu (fun _ h => h) hj) hi).1
  have hpd := (cl_at hk).1 j hj
  obtain ⟨hI1, hI2, hI3, hI4⟩ := hI
  have fin : ∀ H1 : Heap, H1[B + a]? = some (cell.setSlot (D.2 (M.1.1.2.1 a) j) v) → H1.size = H.size → (∀ q, q ≠ B + a → H1[q]? = H[q]?) → sn_I D B s c0 s0 M1 H1 (locs ++ [⟨B + a, D.2 (M.1.1.2.1 a) j⟩]) cells slots := by
    intro H1 e1 e2 e3
    refine ⟨hI1.upd ha hs1 e2 e3 hc hcl ?_, hI2.put e2 e3 (Nat.le_add_right B a), by rw [hs1]; exact hI3, by rw [hs1]; exact hI4⟩
    exact rl_at.obj (c := M.1.1.2.1 a) (by rw [hs1]) hk (t_OB.to (V := updV (rl_V B M (M.1.1.2.1 a) a) j v) ⟨_, e1, q2, q3, t_set q4 hap hj v⟩ hv)
  by_cases hf : (mm_tf (M.1.1.2.1 a) j).2.2.2 = false
  · have hlay := hu _ (u_in_lay hj)
    unfold u_lay at hlay
    rw [if_neg (by rw [hf]; decide)] at hlay
    have h6 := u_store hfc hkC hkind hlay hi hpd hn hfit
    refine W.putK hx hb (f := f) ⟨hown, hts _ hlink rfl, ⟨_, _, _, hi⟩, hst⟩ (by rw [q2]; exact h6) q1 q3 (by rw [hsl]; exact k2_hasslot (q4 j hj)) rfl rfl hd fun H1 e1 e2 e3 => ?_
    rw [hsl] at e1 ⊢
    exact kk H1 _ (fin H1 e1 e2 e3)
  · rcases hfin with h | ⟨h1, h2⟩
    · exact absurd h hf
    · have hcf : m.cls = cf := by
        have h3 := (State.fieldFound?_spec hi).1
        have h5 : (mm_tf (M.1.1.2.1 a) j).1 = mm_on (M.1.1.2.1 a) := (cl_at hk).2.2.2.2.2.2 j hj
        have hlay := hu _ (u_in_lay hj)
        unfold u_lay at hlay
        rw [if_pos (by simpa using hf)] at hlay
        obtain ⟨c', k', cf', kf', fi', fd', r1, r2, hi', -, -, -, hcf', -⟩ := Cond.laysFinal_spec hlay
        cases hi.symm.trans hi'
        have hr : s.vm.findClass (mm_on (M.1.1.2.1 a)) = some m.cls := by rw [h2]; exact hown
        first
          | (rw [h5] at hcf'; exact (Option.some.inj (hr.symm.trans hcf')))
          | (cases hr.symm.trans r1; first | exact hcf' | exact hcf'.symm | simp_all)
      have h7 := u_fits hfc hkC hkind (u_lays hu (fun _ h => h) hj) hi hpd hn hfit
      refine W.putFinK hx hb hown (hts _ hlink rfl) hi hst hcf (hii h1) (by rw [q2]; exact h7) q1 q3 (by rw [hsl]; exact k2_hasslot (q4 j hj)) rfl rfl hd fun H1 e1 e2 e3 => ?_
      rw [hsl] at e1 ⊢
      exact kk H1 _ (fin H1 e1 e2 e3)
theorem sn_iald {a : Nat} {i : Int32} (hC : sn_C D E X B p s m args meth c mi) (hI : sn_I D B s c0 s0 M H locs cells slots) (ha : a < M.1.1.1) (ht : M.1.1.2.1 a = 100) (hin : ¬ (i < 0 ∨ M.1.1.2.2 a ≤ i.toNatClampNeg)) (hd : decode (mm_cc mi) pc = .ok (.iaload, 1))
    (kk : W p l e R s m args below meth c H locs cells slots Q (F0 m (pc + 1) lsA (.int (M.2.1 a i.toNatClampNeg) :: rest))) : W p l e R s m args below meth c H locs cells slots Q (F0 m pc lsA (.int i :: .ref (B + a) :: rest)) := by
  obtain ⟨cA, hA, hc⟩ := (hI.1.2.1 a ha).1 ht
  have hlt : i.toNatClampNeg < M.1.1.2.2 a := Nat.not_le.mp fun q => hin (Or.inr q)
  exact W.iald (v := .int (M.2.1 a i.toNatClampNeg)) hC.1 hC.2.1 hc (hA _ _) (fun q => by cases q) (by rw [arrV_size]; exact hin) (by rw [arrV_read _ _ hlt]) rfl rfl hd kk
theorem sn_lald {a : Nat} {i : Int32} (hC : sn_C D E X B p s m args meth c mi) (hI : sn_I D B s c0 s0 M H locs cells slots) (ha : a < M.1.1.1) (ht : M.1.1.2.1 a = 101) (hin : ¬ (i < 0 ∨ M.1.1.2.2 a ≤ i.toNatClampNeg)) (hd : decode (mm_cc mi) pc = .ok (.laload, 1))
    (kk : W p l e R s m args below meth c H locs cells slots Q (F0 m (pc + 1) lsA (.long (M.2.2.1 a i.toNatClampNeg) :: rest))) : W p l e R s m args below meth c H locs cells slots Q (F0 m pc lsA (.int i :: .ref (B + a) :: rest)) := by
  obtain ⟨cA, hA, hc⟩ := (hI.1.2.1 a ha).2.1 ht
  have hlt : i.toNatClampNeg < M.1.1.2.2 a := Nat.not_le.mp fun q => hin (Or.inr q)
  exact W.lald (v := .long (M.2.2.1 a i.toNatClampNeg)) hC.1 hC.2.1 hc (hA _ _) (fun q => by cases q) (by rw [arrV_size]; exact hin) (by rw [arrV_read _ _ hlt]) rfl rfl hd kk
theorem sn_zald {a : Nat} {i : Int32} (hC : sn_C D E X B p s m args meth c mi) (hI : sn_I D B s c0 s0 M H locs cells slots) (ha : a < M.1.1.1) (ht : M.1.1.2.1 a = 102) (hin : ¬ (i < 0 ∨ M.1.1.2.2 a ≤ i.toNatClampNeg)) (hd : decode (mm_cc mi) pc = .ok (.baload, 1))
    (kk : W p l e R s m args below meth c H locs cells slots Q (F0 m (pc + 1) lsA (.int (M.2.1 a i.toNatClampNeg) :: rest))) : W p l e R s m args below meth c H locs cells slots Q (F0 m pc lsA (.int i :: .ref (B + a) :: rest)) := by
  obtain ⟨cA, hA, hc⟩ := (hI.1.2.1 a ha).2.2.1 ht
  have hlt : i.toNatClampNeg < M.1.1.2.2 a := Nat.not_le.mp fun q => hin (Or.inr q)
  exact W.zald (v := .int (M.2.1 a i.toNatClampNeg)) hC.1 hC.2.1 hc (hA _ _) (fun q => by cases q) (by rw [arrV_size]; exact hin) (by rw [arrV_read _ _ hlt]) rfl rfl hd kk
theorem sn_bald {a : Nat} {i : Int32} (hC : sn_C D E X B p s m args meth c mi) (hI : sn_I D B s c0 s0 M H locs cells slots) (ha : a < M.1.1.1) (ht : M.1.1.2.1 a = 103) (hin : ¬ (i < 0 ∨ M.1.1.2.2 a ≤ i.toNatClampNeg)) (hd : decode (mm_cc mi) pc = .ok (.baload, 1))
    (kk : W p l e R s m args below meth c H locs cells slots Q (F0 m (pc + 1) lsA (.int (M.2.1 a i.toNatClampNeg) :: rest))) : W p l e R s m args below meth c H locs cells slots Q (F0 m pc lsA (.int i :: .ref (B + a) :: rest)) := by
  obtain ⟨cA, hA, hc⟩ := (hI.1.2.1 a ha).2.2.2.1 ht
  have hlt : i.toNatClampNeg < M.1.1.2.2 a := Nat.not_le.mp fun q => hin (Or.inr q)
  exact W.bald (v := .int (M.2.1 a i.toNatClampNeg)) hC.1 hC.2.1 hc (hA _ _) (fun q => by cases q) (by rw [arrV_size]; exact hin) (by rw [arrV_read _ _ hlt]) rfl rfl hd kk
theorem sn_aald {a : Nat} {i : Int32} (hC : sn_C D E X B p s m args meth c mi) (hI : sn_I D B s c0 s0 M H locs cells slots) (ha : a < M.1.1.1) (ht : M.1.1.2.1 a = 104) (hin : ¬ (i < 0 ∨ M.1.1.2.2 a ≤ i.toNatClampNeg)) (hd : decode (mm_cc mi) pc = .ok (.aaload, 1))
    (kk : W p l e R s m args below meth c H locs cells slots Q (F0 m (pc + 1) lsA (va_rf ((M.2.2.2 a i.toNatClampNeg).map (B + ·)) :: rest))) : W p l e R s m args below meth c H locs cells slots Q (F0 m pc lsA (.int i :: .ref (B + a) :: rest)) := by
  obtain ⟨cA, hA, hc⟩ := (hI.1.2.1 a ha).2.2.2.2.1 ht
  have hlt : i.toNatClampNeg < M.1.1.2.2 a := Nat.not_le.mp fun q => hin (Or.inr q)
  exact W.aald (v := va_rf ((M.2.2.2 a i.toNatClampNeg).map (B + ·))) hC.1 hC.2.1 hc (hA _ _) rfl (fun q => by cases q) (by rw [arrV_size]; exact hin) (by rw [arrV_read _ _ hlt]) rfl rfl hd kk
theorem sn_iast {a : Nat} {i : Int32} {x : Int32} (hC : sn_C D E X B p s m args meth c mi) (hI : sn_I D B s c0 s0 M H locs cells slots) (ha : a < M.1.1.1) (ht : M.1.1.2.1 a = 100) (hin : ¬ (i < 0 ∨ M.1.1.2.2 a ≤ i.toNatClampNeg)) (hd : decode (mm_cc mi) pc = .ok (.iastore, 1))
    (kk : ∀ (H1 : Heap) (locs1 : List Loc), sn_I D B s c0 s0 (mm_setI M a i.toNatClampNeg x) H1 locs1 cells slots → W p l e R s m args below meth c H1 locs1 cells slots Q (F0 m (pc + 1) lsA rest)) : W p l e R s m args below meth c H locs cells slots Q (F0 m pc lsA (.int x :: .int i :: .ref (B + a) :: rest)) := by
  obtain ⟨cA, hA, hc⟩ := (hI.1.2.1 a ha).1 ht
  refine W.iast hC.1 hC.2.1 hc (hA _ _) (fun q => by cases q) (by rw [arrV_size]; exact hin) rfl rfl hd fun H1 e1 e2 e3 => ?_
  refine kk H1 _ ⟨hI.1.upd ha rfl e2 e3 (fun b hb => mm_setI_o M a _ _ hb) hI.1.2.2.2 (rl_at.ints ht ⟨cA, hA, ?_⟩), hI.2.1.put e2 e3 (Nat.le_add_right B a), hI.2.2.1, hI.2.2.2⟩
  rw [e1, arrV_store]
  refine congrArg some (congrArg (arrV cA _) (funext fun j => ?_))
  show _ = Value.int ((mm_setI M a i.toNatClampNeg x).2.1 a j)
  rw [mm_setI_at]
  by_cases hj : j = i.toNatClampNeg
  · rw [if_pos hj]; simp [updV, hj, narrow]
  · rw [if_neg hj]; simp [updV, hj]
theorem sn_last {a : Nat} {i : Int32} {x : Int64} (hC : sn_C D E X B p s m args meth c mi) (hI : sn_I D B s c0 s0 M H locs cells slots) (ha : a < M.1.1.1) (ht : M.1.1.2.1 a = 101) (hin : ¬ (i < 0 ∨ M.1.1.2.2 a ≤ i.toNatClampNeg)) (hd : decode (mm_cc mi) pc = .ok (.lastore, 1))
    (kk : ∀ (H1 : Heap) (locs1 : List Loc), sn_I D B s c0 s0 (mm_setL M a i.toNatClampNeg x) H1 locs1 cells slots → W p l e R s m args below meth c H1 locs1 cells slots Q (F0 m (pc + 1) lsA rest)) : W p l e R s m args below meth c H locs cells slots Q (F0 m pc lsA (.long x :: .int i :: .ref (B + a) :: rest)) := by
  obtain ⟨cA, hA, hc⟩ := (hI.1.2.1 a ha).2.1 ht
  refine W.last hC.1 hC.2.1 hc (hA _ _) (fun q => by cases q) (by rw [arrV_size]; exact hin) rfl rfl hd fun H1 e1 e2 e3 => ?_
  refine kk H1 _ ⟨hI.1.upd ha rfl e2 e3 (fun b hb => mm_setL_o M a _ _ hb) hI.1.2.2.2 (rl_at.longs ht ⟨cA, hA, ?_⟩), hI.2.1.put e2 e3 (Nat.le_add_right B a), hI.2.2.1, hI.2.2.2⟩
  rw [e1, arrV_store]
  refine congrArg some (congrArg (arrV cA _) (funext fun j => ?_))
  show _ = Value.long ((mm_setL M a i.toNatClampNeg x).2.2.1 a j)
  rw [mm_setL_at]
  by_cases hj : j = i.toNatClampNeg
  · rw [if_pos hj]; simp [updV, hj, narrow]
  · rw [if_neg hj]; simp [updV, hj]
theorem sn_zast {a : Nat} {i : Int32} {x : Int32} (hC : sn_C D E X B p s m args meth c mi) (hI : sn_I D B s c0 s0 M H locs cells slots) (ha : a < M.1.1.1) (ht : M.1.1.2.1 a = 102) (hin : ¬ (i < 0 ∨ M.1.1.2.2 a ≤ i.toNatClampNeg)) (hd : decode (mm_cc mi) pc = .ok (.bastore, 1))
    (kk : ∀ (H1 : Heap) (locs1 : List Loc), sn_I D B s c0 s0 (mm_setI M a i.toNatClampNeg (x &&& 1)) H1 locs1 cells slots → W p l e R s m args below meth c H1 locs1 cells slots Q (F0 m (pc + 1) lsA rest)) : W p l e R s m args below meth c H locs cells slots Q (F0 m pc lsA (.int x :: .int i :: .ref (B + a) :: rest)) := by
  obtain ⟨cA, hA, hc⟩ := (hI.1.2.1 a ha).2.2.1 ht
  refine W.zast hC.1 hC.2.1 hc (hA _ _) (fun q => by cases q) (by rw [arrV_size]; exact hin) rfl rfl hd fun H1 e1 e2 e3 => ?_
  refine kk H1 _ ⟨hI.1.upd ha rfl e2 e3 (fun b hb => mm_setI_o M a _ _ hb) hI.1.2.2.2 (rl_at.bools ht ⟨cA, hA, ?_⟩), hI.2.1.put e2 e3 (Nat.le_add_right B a), hI.2.2.1, hI.2.2.2⟩
  rw [e1, arrV_store]
  refine congrArg some (congrArg (arrV cA _) (funext fun j => ?_))
  show _ = Value.int ((mm_setI M a i.toNatClampNeg (x &&& 1)).2.1 a j)
  rw [mm_setI_at]
  by_cases hj : j = i.toNatClampNeg
  · rw [if_pos hj]; simp [updV, hj, narrow]
  · rw [if_neg hj]; simp [updV, hj]
theorem sn_bast {a : Nat} {i : Int32} {x : Int32} (hC : sn_C D E X B p s m args meth c mi) (hI : sn_I D B s c0 s0 M H locs cells slots) (ha : a < M.1.1.1) (ht : M.1.1.2.1 a = 103) (hin : ¬ (i < 0 ∨ M.1.1.2.2 a ≤ i.toNatClampNeg)) (hd : decode (mm_cc mi) pc = .ok (.bastore, 1))
    (kk : ∀ (H1 : Heap) (locs1 : List Loc), sn_I D B s c0 s0 (mm_setI M a i.toNatClampNeg x.toInt8.toInt32) H1 locs1 cells slots → W p l e R s m args below meth c H1 locs1 cells slots Q (F0 m (pc + 1) lsA rest)) : W p l e R s m args below meth c H locs cells slots Q (F0 m pc lsA (.int x :: .int i :: .ref (B + a) :: rest)) := by
  obtain ⟨cA, hA, hc⟩ := (hI.1.2.1 a ha).2.2.2.1 ht
  refine W.bast hC.1 hC.2.1 hc (hA _ _) (fun q => by cases q) (by rw [arrV_size]; exact hin) rfl rfl hd fun H1 e1 e2 e3 => ?_
  refine kk H1 _ ⟨hI.1.upd ha rfl e2 e3 (fun b hb => mm_setI_o M a _ _ hb) hI.1.2.2.2 (rl_at.bytes ht ⟨cA, hA, ?_⟩), hI.2.1.put e2 e3 (Nat.le_add_right B a), hI.2.2.1, hI.2.2.2⟩
  rw [e1, arrV_store]
  refine congrArg some (congrArg (arrV cA _) (funext fun j => ?_))
  show _ = Value.int ((mm_setI M a i.toNatClampNeg x.toInt8.toInt32).2.1 a j)
  rw [mm_setI_at]
  by_cases hj : j = i.toNatClampNeg
  · rw [if_pos hj]; simp [updV, hj, narrow]
  · rw [if_neg hj]; simp [updV, hj]
theorem sn_alen {a : Nat} (hC : sn_C D E X B p s m args meth c mi) (hI : sn_I D B s c0 s0 M H locs cells slots) (ha : a < M.1.1.1) (h1 : 100 ≤ M.1.1.2.1 a) (h2 : M.1.1.2.1 a ≤ 104) (hd : decode (mm_cc mi) pc = .ok (.arraylength, 1))
    (kk : W p l e R s m args below meth c H locs cells slots Q (F0 m (pc + 1) lsA (.int (Int32.ofNat (M.1.1.2.2 a)) :: rest))) : W p l e R s m args below meth c H locs cells slots Q (F0 m pc lsA (.ref (B + a) :: rest)) := by
  obtain ⟨g1, g2, g3, g4, g5, -⟩ := hI.1.2.1 a ha
  rcases (show M.1.1.2.1 a = 100 ∨ M.1.1.2.1 a = 101 ∨ M.1.1.2.1 a = 102 ∨ M.1.1.2.1 a = 103 ∨ M.1.1.2.1 a = 104 by omega) with h | h | h | h | h
  · obtain ⟨cA, hA, hc⟩ := g1 h
    exact W.alen (n := Int32.ofNat (M.1.1.2.2 a)) hC.1 hC.2.1 hc (hA _ _) (by rw [arrV_size] <;> rfl) rfl rfl hd kk
  · obtain ⟨cA, hA, hc⟩ := g2 h
    exact W.alen (n := Int32.ofNat (M.1.1.2.2 a)) hC.1 hC.2.1 hc (hA _ _) (by rw [arrV_size] <;> rfl) rfl rfl hd kk
  · obtain ⟨cA, hA, hc⟩ := g3 h
    exact W.alen (n := Int32.ofNat (M.1.1.2.2 a)) hC.1 hC.2.1 hc (hA _ _) (by rw [arrV_size] <;> rfl) rfl rfl hd kk
  · obtain ⟨cA, hA, hc⟩ := g4 h
    exact W.alen (n := Int32.ofNat (M.1.1.2.2 a)) hC.1 hC.2.1 hc (hA _ _) (by rw [arrV_size] <;> rfl) rfl rfl hd kk
  · obtain ⟨cA, hA, hc⟩ := g5 h
    exact W.alen (n := Int32.ofNat (M.1.1.2.2 a)) hC.1 hC.2.1 hc (hA _ _) (by rw [arrV_size] <;> rfl) rfl rfl hd kk
/-- rows from outside -/
theorem sn_xald {x : Nat} {i : Int32} (hC : sn_C D E X B p s m args meth c mi) (hI : sn_I D B s c0 s0 M H locs cells slots) (hin : ¬ (i < 0 ∨ (X x).1 ≤ i.toNatClampNeg)) (hd : decode (mm_cc mi) pc = .ok (.iaload, 1))
    (kk : W p l e R s m args below meth c H locs cells slots Q (F0 m (pc + 1) lsA (.int ((X x).2 i.toNatClampNeg) :: rest))) : W p l e R s m args below meth c H locs cells slots Q (F0 m pc lsA (.int i :: .ref (E x) :: rest)) :=
  va_ti hC.1 hC.2.1 (hC.2.2.2.2.2.2.2.1.2.1 x) hI.2.1 hin rfl hd kk
theorem sn_xlen {x : Nat} (hC : sn_C D E X B p s m args meth c mi) (hI : sn_I D B s c0 s0 M H locs cells slots) (hd : decode (mm_cc mi) pc = .ok (.arraylength, 1))
    (kk : W p l e R s m args below meth c H locs cells slots Q (F0 m (pc + 1) lsA (.int (Int32.ofNat (X x).1) :: rest))) : W p l e R s m args below meth c H locs cells slots Q (F0 m pc lsA (.ref (E x) :: rest)) := by
  obtain ⟨cell, h1, h2, h3, h4, h5, h6, h7⟩ := hC.2.2.2.2.2.2.2.1.2.1 x
  exact W.alen (n := Int32.ofNat (X x).1) hC.1 hC.2.1 (by rw [hI.2.1.2.1 _ (Array.getElem?_eq_some_iff.mp h1).1 h7]; exact h1) h2 h5 rfl rfl hd kk
theorem sn_gets {x idx : Nat} (hC : sn_C D E X B p s m args meth c mi) (hI : sn_I D B s c0 s0 M H locs cells slots) (h1 : 1 ≤ x) (h3 : x ≤ 3) (hn : (8, mm_ow mi, idx, x) ∈ nn_0) (hd : decode (mm_cc mi) pc = .ok (.getstatic idx, 3))
    (kk : W p l e R s m args below meth c H locs cells slots Q (F0 m (pc + 3) lsA (.ref (E x) :: rest))) : W p l e R s m args below meth c H locs cells slots Q (F0 m pc lsA rest) := by
  have hE := hC.2.2.2.2.2.2.2.1
  exact va_getsN hC.1 hC.2.1 (hE.2.2.1 x h1 h3) hI.2.1 hC.2.2.2.1 (va_Nw.use rfl (hE.1 _ hn)) (fun _ h => h) hd kk
theorem sn_new {k idx : Nat} (hC : sn_C D E X B p s m args meth c mi) (hI : sn_I D B s c0 s0 M H locs cells slots) (hk : k < mm_ncl) (hlink : mm_lc (mm_ow mi) (2, idx, k, 0) ∈ lw_tbl) (hx : M.1.2.2.2 = 0) (hlim : M.1.1.1 < 900000) (hcells : M.1.2.1 + 1 ≤ c0 + R.cells) (hslots : M.1.2.2.1 + mm_tn k ≤ s0 + R.slots) (hd : decode (mm_cc mi) pc = .ok (.new idx, 3))
    (kk : ∀ H1 : Heap, sn_I D B s c0 s0 (mm_new M k 0 (mm_tn k)) H1 locs (cells + 1) (slots + mm_tn k) → W p l e R s m args below meth c H1 locs (cells + 1) (slots + mm_tn k) Q (F0 m (pc + 3) lsA (.ref (B + M.1.1.1) :: rest))) : W p l e R s m args below meth c H locs cells slots Q (F0 m pc lsA rest) := by
  obtain ⟨hu, hKn⟩ := sn_cls hC hk
  obtain ⟨hx1, hb, -, hown, hts, -⟩ := hC
  obtain ⟨f1, -, -, -, ⟨f2, f3⟩, f4, -⟩ := cl_at hk
  have hS0 := hI.1.1.2.1 hx
  refine W.newcK hx1 hb hown (hts _ hlink rfl) (hts _ f2 rfl) (hts _ f3 rfl) rfl hd (by have := hI.2.2.1; omega) (by have := hI.2.2.2; omega) hKn.2.1 hS0 fun H1 kC hkC e1 z1 o1 => ?_
  refine kk H1 ⟨hI.1.push rfl rfl (by omega) hx (by omega) (fun q hq => o1 q (by omega)) (fun b hb2 => ⟨if_neg (by omega), if_neg (by omega)⟩) rfl ?_, ⟨by have := hI.2.1.1; omega, fun q h1 h2 => (o1 q (by have := hI.2.1.1; omega)).trans (hI.2.1.2.1 q h1 h2), hI.2.1.2.2⟩, by show c0 + (cells + 1) = M.1.2.1 + 1; have := hI.2.2.1; omega, by show s0 + (slots + mm_tn k) = M.1.2.2.1 + mm_tn k; have := hI.2.2.2; omega⟩
  refine rl_at.obj (c := k) (if_pos rfl) hk ((u_born (mm_ty k) hu (fun _ h => h) hKn hkC e1 f1).to fun j hj => ?_)
  have h5 := mm_fo_at f4 j hj
  simp only [Bool.and_eq_true, decide_eq_true_eq] at h5
  rw [h5.1]
  obtain ⟨z1, z2, z3⟩ := hI.1.2.2.1 M.1.1.1 j (Nat.le_refl _)
  show mm_dv (mm_fk k j) = match mm_fk k j with
    | 0 => Value.int (M.2.1 M.1.1.1 j)
    | 1 => Value.int (M.2.1 M.1.1.1 j)
    | 2 => Value.long (M.2.2.1 M.1.1.1 j)
    | _ => va_rf ((M.2.2.2 M.1.1.1 j).map (B + ·))
  rw [z1, z2, z3]
  generalize mm_fk k j = n
  match n with
  | 0 => rfl
  | 1 => rfl
  | 2 => rfl
  | _ + 3 => rfl
theorem sn_newa {n : Int32} {t : ArrayType} (hC : sn_C D E X B p s m args meth c mi) (hI : sn_I D B s c0 s0 M H locs cells slots) (ht : mm_ac t ≠ 0) (hn : ¬ (n < 0 ∨ 1000 < n.toNatClampNeg)) (hx : M.1.2.2.2 = 0) (hlim : M.1.1.1 < 900000) (hcells : M.1.2.1 + 1 ≤ c0 + R.cells) (hslots : M.1.2.2.1 + n.toNatClampNeg ≤ s0 + R.slots) (hd : decode (mm_cc mi) pc = .ok (.newarray t, 2))
    (kk : ∀ H1 : Heap, sn_I D B s c0 s0 (mm_new M (mm_ac t) n.toNatClampNeg n.toNatClampNeg) H1 locs (cells + 1) (slots + n.toNatClampNeg) → W p l e R s m args below meth c H1 locs (cells + 1) (slots + n.toNatClampNeg) Q (F0 m (pc + 2) lsA (.ref (B + M.1.1.1) :: rest))) : W p l e R s m args below meth c H locs cells slots Q (F0 m pc lsA (.int n :: rest)) := by
  have hS0 := hI.1.1.2.1 hx
  obtain ⟨hx1, hb, -, hown, hts, -⟩ := hC
  have harr : (Cond.arrayClass (newarray.typeOf t)).before args s = true := by
    cases t <;> first | exact absurd rfl ht | exact hts _ aw_i rfl | exact hts _ aw_l rfl | exact hts _ aw_z rfl | exact hts _ aw_b rfl
  have hle : n.toNatClampNeg ≤ 1000 := Nat.not_lt.mp fun q => hn (Or.inr q)
  have hcb : n.toNatClampNeg * componentBytes (newarray.typeOf t) ≤ 536870912 := by
    have : componentBytes (newarray.typeOf t) ≤ 8 := by cases t <;> decide
    exact Nat.le_trans (Nat.mul_le_mul hle this) (by decide)
  refine W.newaK hx1 hb harr rfl hd rfl (fun q => hn (Or.inl q)) rfl hcb (by have := hI.2.2.1; omega) (by have := hI.2.2.2; omega) hS0 fun H1 cA e1 z1 o1 hA => ?_
  refine kk H1 ⟨hI.1.push rfl rfl (by omega) hx (by omega) (fun q hq => o1 q (by omega)) (fun b hb2 => ⟨if_neg (by omega), if_neg (by omega)⟩) rfl ?_, ⟨by have := hI.2.1.1; omega, fun q h1 h2 => (o1 q (by have := hI.2.1.1; omega)).trans (hI.2.1.2.1 q h1 h2), hI.2.1.2.2⟩, by show c0 + (cells + 1) = M.1.2.1 + 1; have := hI.2.2.1; omega, by show s0 + (slots + n.toNatClampNeg) = M.1.2.2.1 + n.toNatClampNeg; have := hI.2.2.2; omega⟩
  have hz := hI.1.2.2.1 M.1.1.1
  have hl : (mm_new M (mm_ac t) n.toNatClampNeg n.toNatClampNeg).1.1.2.2 M.1.1.1 = n.toNatClampNeg := if_pos rfl
  have hi : (fun j => Value.int ((mm_new M (mm_ac t) n.toNatClampNeg n.toNatClampNeg).2.1 M.1.1.1 j)) = fun _ => Value.int 0 := funext fun j => congrArg Value.int (hz j (Nat.le_refl _)).1
  have hj : (fun j => Value.long ((mm_new M (mm_ac t) n.toNatClampNeg n.toNatClampNeg).2.2.1 M.1.1.1 j)) = fun _ => Value.long 0 := funext fun j => congrArg Value.long (hz j (Nat.le_refl _)).2.1
  cases t with
  | int => exact rl_at.ints (if_pos rfl) ⟨cA, hA, by rw [hl, hi]; exact e1⟩
  | long => exact rl_at.longs (if_pos rfl) ⟨cA, hA, by rw [hl, hj]; exact e1⟩
  | boolean => exact rl_at.bools (if_pos rfl) ⟨cA, hA, by rw [hl, hi]; exact e1⟩
  | byte => exact rl_at.bytes (if_pos rfl) ⟨cA, hA, by rw [hl, hi]; exact e1⟩
  | _ => exact absurd rfl ht
end SNO
end
section
/-! new int[n][k] -/
theorem mm_rows_1 : ∀ (n k : Nat) (M : mm_M), (mm_rows n k M).1.1.1 = M.1.1.1 + n ∧ (mm_rows n k M).1.2.1 = M.1.2.1 + n ∧ (mm_rows n k M).1.2.2.1 = M.1.2.2.1 + n * k ∧ (mm_rows n k M).1.2.2.2 = M.1.2.2.2 ∧ (mm_rows n k M).2 = M.2 ∧ (∀ b, b < M.1.1.1 → (mm_rows n k M).1.1.2.1 b = M.1.1.2.1 b ∧ (mm_rows n k M).1.1.2.2 b = M.1.1.2.2 b) ∧ ∀ b, M.1.1.1 ≤ b → b < M.1.1.1 + n → (mm_rows n k M).1.1.2.1 b = 100 ∧ (mm_rows n k M).1.1.2.2 b = k
  | 0, k, M => ⟨rfl, rfl, by simp [mm_rows], rfl, rfl, fun _ _ => ⟨rfl, rfl⟩, fun b h1 h2 => absurd h2 (by omega)⟩
  | n + 1, k, M => by
    obtain ⟨h1, h2, h3, h4, h5, h6, h7⟩ := mm_rows_1 n k (mm_new M 100 k k)
    have e1 : (mm_new M 100 k k).1.1.1 = M.1.1.1 + 1 := rfl
    have e2 : (mm_new M 100 k k).1.2.1 = M.1.2.1 + 1 := rfl
    have e3 : (mm_new M 100 k k).1.2.2.1 = M.1.2.2.1 + k := rfl
    rw [e1] at h1 h6 h7
    rw [e2] at h2
    rw [e3] at h3
    refine ⟨by show (mm_rows n k _).1.1.1 = _; omega, by show (mm_rows n k _).1.2.1 = _; omega, ?_, h4, h5, fun b hb => ?_, fun b hb1 hb2 => ?_⟩
    · show (mm_rows n k _).1.2.2.1 = _
      rw [h3, Nat.succ_mul]; omega
    · obtain ⟨g1, g2⟩ := h6 b (by omega)
      exact ⟨g1.trans (if_neg (by omega)), g2.trans (if_neg (by omega))⟩
    · by_cases e : b = M.1.1.1
      · subst e
        obtain ⟨g1, g2⟩ := h6 M.1.1.1 (by omega)
        exact ⟨g1.trans (if_pos rfl), g2.trans (if_pos rfl)⟩
      · exact h7 b (by omega) (by omega)
theorem mm_refs_1 : ∀ (n a i q : Nat) (f : Nat → Nat → Option Nat) (b j : Nat), mm_refs n a i q f b j = if b = a ∧ i ≤ j ∧ j < i + n then some (q + (j - i)) else f b j
  | 0, a, i, q, f, b, j => by
    show f b j = _
    rw [if_neg (by omega)]
  | n + 1, a, i, q, f, b, j => by
    show mm_refs n a (i + 1) (q + 1) (mm_u f a i (some q)) b j = _
    rw [mm_refs_1 n a (i + 1) (q + 1) _ b j]
    by_cases h : b = a ∧ i + 1 ≤ j ∧ j < i + 1 + n
    · rw [if_pos h, if_pos ⟨h.1, by omega, by omega⟩]
      congr 1; omega
    · rw [if_neg h]
      unfold mm_u
      by_cases h2 : b = a ∧ j = i
      · rw [if_pos h2, if_pos ⟨h2.1, by omega, by omega⟩]
        congr 1; omega
      · rw [if_neg h2, if_neg (by omega)]
section SNM
variable {p : Program} {l : Launch} {e : Env} {R : Room} {s : State} {m : MethodId} {args : Array Value} {below : List Frame} {meth : Method} {c : Code} {H : Heap} {locs : List Loc} {cells slots : Nat} {Q : State → Prop}
variable {D : va_G} {E : Nat → Nat} {X : mm_X} {B c0 s0 : Nat} {mi pc : Nat} {lsA : Array Slot} {rest : List Value} {M : mm_M}
theorem sn_multi {n k : Int32} {idx : Nat} (hC : sn_C D E X B p s m args meth c mi) (hI : sn_I D B s c0 s0 M H locs cells slots) (hn : ¬ (n < 0 ∨ 1000 < n.toNatClampNeg ∨ k < 0 ∨ 1000 < k.toNatClampNeg)) (hlink : mm_lc (mm_ow mi) (6, idx, 0, 0) ∈ lw_tbl) (hx : M.1.2.2.2 = 0) (hlim : M.1.1.1 < 900000) (hcells : M.1.2.1 + 1 + n.toNatClampNeg ≤ c0 + R.cells) (hslots : M.1.2.2.1 + n.toNatClampNeg + n.toNatClampNeg * k.toNatClampNeg ≤ s0 + R.slots) (hd : decode (mm_cc mi) pc = .ok (.multianewarray idx 2, 4))
    (kk : ∀ H1 : Heap, sn_I D B s c0 s0 (mm_multi M n.toNatClampNeg k.toNatClampNeg) H1 locs (cells + 1 + n.toNatClampNeg) (slots + n.toNatClampNeg + n.toNatClampNeg * k.toNatClampNeg) → W p l e R s m args below meth c H1 locs (cells + 1 + n.toNatClampNeg) (slots + n.toNatClampNeg + n.toNatClampNeg * k.toNatClampNeg) Q (F0 m (pc + 4) lsA (.ref (B + M.1.1.1) :: rest))) : W p l e R s m args below meth c H locs cells slots Q (F0 m pc lsA (.int k :: .int n :: rest)) := by
  have hS0 := hI.1.1.2.1 hx
  have hE := hC.2.2.2.2.2.2.2.1
  obtain ⟨hx1, hb, -, hown, hts, -⟩ := hC
  have hn1 : ¬ n < 0 := fun q => hn (Or.inl q)
  have hn2 : n.toNatClampNeg ≤ 1000 := Nat.not_lt.mp fun q => hn (Or.inr (Or.inl q))
  have hn3 : ¬ k < 0 := fun q => hn (Or.inr (Or.inr (Or.inl q)))
  have hn4 : k.toNatClampNeg ≤ 1000 := Nat.not_lt.mp fun q => hn (Or.inr (Or.inr (Or.inr q)))
  intro T hT Xs
  obtain ⟨vm₁, cA, comp, -, fA, fC, hO, hIn, X', step⟩ := Xs.multianewarray2F hx1 (ty := .int) (index := idx) hown (hts _ hlink rfl) hE.2.2.2.1 (hts _ aw_i rfl) (g := F0 m pc lsA (.int k :: .int n :: rest)) rfl (by rw [hb]; exact hd) rfl hn1 hn3 (by omega) (by show k.toNatClampNeg * 4 ≤ _; omega) (by omega) rfl rfl (by have := hI.2.2.1; omega) (by have := hI.2.2.2; omega)
  generalize hF : Jvm.Free.Multi.fill (T.setVm vm₁) cA comp n.toNatClampNeg k.toNatClampNeg (defaultValue .int) n.toNatClampNeg = F at X' step
  have hTh : (T.setVm vm₁).heap = H := hT
  obtain ⟨f1, f2, -, -⟩ := Jvm.Free.Multi.fill_facts (T.setVm vm₁) cA comp n.toNatClampNeg k.toNatClampNeg (defaultValue .int) n.toNatClampNeg
  rw [hF, hTh] at f1 f2
  have hold : ∀ x : Nat, x < H.size → F.heap[x]? = H[x]? := fun x hx => by
    have := Jvm.Free.Multi.fill_old (T.setVm vm₁) cA comp n.toNatClampNeg k.toNatClampNeg (defaultValue .int) (a := x) (by rw [hTh]; exact hx) n.toNatClampNeg
    rw [hF, hTh] at this
    exact this
  have hrow : ∀ j : Nat, j < n.toNatClampNeg → F.heap[H.size + 1 + j]? = some (arrV comp k.toNatClampNeg (fun _ => .int 0)) := fun j hj => by
    have := Jvm.Free.Multi.fill_inner (T.setVm vm₁) cA comp n.toNatClampNeg k.toNatClampNeg (defaultValue .int) n.toNatClampNeg j hj
    rw [hF, hTh] at this
    rw [this, ← arrV_new]
    rfl
  rw [vr_outer cA n.toNatClampNeg H.size n.toNatClampNeg] at f2
  have hAr : ArrOfT s cA (.array .int) := fun N9 z9 => by
    obtain ⟨-, k9, hk9, cm9, hkk9⟩ := (hO 0 0 0).1
    exact ⟨(fun q hq => by cases hq), k9, hk9, cm9, hkk9⟩
  have hAi : ArrOfT s comp .int := fun N9 z9 => by
    obtain ⟨-, k9, hk9, cm9, hkk9⟩ := (hIn 0 (.int 0)).1
    exact ⟨(fun q hq => by cases hq), k9, hk9, cm9, hkk9⟩
  generalize n.toNatClampNeg = N at *
  generalize k.toNatClampNeg = K at *
  obtain ⟨r1, r2, r3, r4, r5, r6, r7⟩ := mm_rows_1 N K (mm_new M 104 N N)
  have q1 : (mm_new M 104 N N).1.1.1 = M.1.1.1 + 1 := rfl
  rw [q1] at r1 r6 r7
  have q2 : (mm_new M 104 N N).1.2.1 = M.1.2.1 + 1 := rfl
  have q3 : (mm_new M 104 N N).1.2.2.1 = M.1.2.2.1 + N := rfl
  rw [q2] at r2
  rw [q3] at r3
  have s1 : (mm_multi M N K).1 = (mm_rows N K (mm_new M 104 N N)).1 := rfl
  have hrl : rl D s B (mm_multi M N K) F.heap := by
    obtain ⟨⟨h1, h2, h3⟩, h4, h5, h6⟩ := hI.1
    have he : mm_ext = 1000000 := rfl
    have hold2 : ∀ b, b < M.1.1.1 → rl_at D s B (mm_multi M N K) F.heap b := fun b hb2 => by
      refine ((h4 b hb2).kept (hold (B + b) (by omega))).to ?_ ?_ (fun _ => rfl) (fun _ => rfl) (fun j => ?_)
      · rw [s1, (r6 b (by omega)).1]; exact if_neg (by omega)
      · rw [s1, (r6 b (by omega)).2]; exact if_neg (by omega)
      · show mm_refs N M.1.1.1 0 (M.1.1.1 + 1) M.2.2.2 b j = _
        rw [mm_refs_1, if_neg (by omega)]
    refine ⟨⟨by rw [s1]; omega, fun _ => by rw [s1]; omega, by rw [s1]; omega⟩, fun b hb2 => ?_, fun b i hb2 => ?_, fun b i y hy => ?_⟩
    · rw [s1, r1] at hb2
      rcases Nat.lt_trichotomy b M.1.1.1 with h | h | h
      · exact hold2 b h
      · subst h
        refine rl_at.rows ?_ ⟨cA, hAr, ?_⟩
        · rw [s1, (r6 M.1.1.1 (by omega)).1]; exact if_pos rfl
        · rw [show (mm_multi M N K).1.1.2.2 M.1.1.1 = N from by rw [s1, (r6 M.1.1.1 (by omega)).2]; exact if_pos rfl]
          rw [← hS0, f2]
          refine congrArg some (congrArg (arrV cA _) (funext fun j => ?_))
          show _ = va_rf ((mm_refs N M.1.1.1 0 (M.1.1.1 + 1) M.2.2.2 M.1.1.1 j).map (B + ·))
          rw [mm_refs_1]
          by_cases hj : j < N
          · rw [if_pos hj, if_pos ⟨rfl, by omega, by omega⟩]
            show va_rf _ = va_rf (some (B + (M.1.1.1 + 1 + (j - 0))))
            congr 2; omega
          · rw [if_neg hj, if_neg (by omega), (h5 M.1.1.1 j (Nat.le_refl _)).2.2]
            rfl
      · refine rl_at.ints ?_ ⟨comp, hAi, ?_⟩
        · rw [s1]; exact (r7 b (by omega) (by omega)).1
        · rw [show (mm_multi M N K).1.1.2.2 b = K from by rw [s1]; exact (r7 b (by omega) (by omega)).2]
          have := hrow (b - M.1.1.1 - 1) (by omega)
          rw [show H.size + 1 + (b - M.1.1.1 - 1) = B + b by omega] at this
          rw [this]
          refine congrArg some (congrArg (arrV comp _) (funext fun j => ?_))
          show _ = Value.int (M.2.1 b j)
          rw [(h5 b j (by omega)).1]
    · rw [s1, r1] at hb2
      obtain ⟨z1, z2, z3⟩ := h5 b i (by omega)
      refine ⟨z1, z2, ?_⟩
      show mm_refs N M.1.1.1 0 (M.1.1.1 + 1) M.2.2.2 b i = none
      rw [mm_refs_1, if_neg (by omega)]
      exact z3
    · rw [s1, r1]
      have hy2 : mm_refs N M.1.1.1 0 (M.1.1.1 + 1) M.2.2.2 b i = some y := hy
      rw [mm_refs_1] at hy2
      by_cases hh : b = M.1.1.1 ∧ 0 ≤ i ∧ i < 0 + N
      · rw [if_pos hh] at hy2
        have := Option.some.inj hy2
        omega
      · rw [if_neg hh] at hy2
        have := h6 b i y hy2
        omega
  obtain ⟨t, a1, b1⟩ := kk F.heap ⟨hrl, ⟨by have := hI.2.1.1; omega, fun x h1 h2 => (hold x (by have := hI.2.1.1; omega)).trans (hI.2.1.2.1 x h1 h2), hI.2.1.2.2⟩, by rw [s1]; have := hI.2.2.1; omega, by rw [s1, r3]; have := hI.2.2.2; omega⟩ F rfl X'
  refine ⟨t, step t ?_, b1⟩
  have e : T.heap.size = B + M.1.1.1 := by rw [hT]; exact hS0
  rw [e]
  exact a1
end SNM
end
section
/-! shifts: only the amount's low bits count -/
theorem i32_smod (y : BitVec 32) : (y.smod 32).toNat = y.toNat % 32 := by
  have h32 : BitVec.msb (32 : BitVec 32) = false := by decide
  cases hm : y.msb
  · simp only [BitVec.smod, hm, h32]
    show (y.umod 32).toNat = _
    rw [BitVec.umod_eq, BitVec.toNat_umod]
    rfl
  · have hlt : y.toNat < 2 ^ 32 := y.isLt
    have hge : 2 ^ 31 ≤ y.toNat := by
      have := BitVec.msb_eq_decide y
      rw [hm] at this
      simpa using (of_decide_eq_true this.symm)
    simp only [BitVec.smod, hm, h32]
    have e1 : (y.neg.umod 32).toNat = (2 ^ 32 - y.toNat) % 32 := by
      rw [BitVec.umod_eq, BitVec.toNat_umod]
      show (-y).toNat % 32 = _
      rw [BitVec.toNat_neg]
      have h9 : (2 ^ 32 - y.toNat) % 2 ^ 32 = 2 ^ 32 - y.toNat := Nat.mod_eq_of_lt (by omega)
      rw [h9]
    by_cases h0 : y.neg.umod 32 = BitVec.zero 32
    · rw [if_pos h0, e1]
      have h1 := congrArg BitVec.toNat h0
      rw [e1] at h1
      have h2 : (BitVec.zero 32).toNat = 0 := rfl
      rw [h2] at h1
      omega
    · rw [if_neg h0]
      have h1 : ¬ (y.neg.umod 32).toNat = 0 := fun z => h0 (BitVec.eq_of_toNat_eq (by rw [z]; rfl))
      show ((32 : BitVec 32) - y.neg.umod 32).toNat = _
      rw [BitVec.toNat_sub]
      have h3 : (32 : BitVec 32).toNat = 32 := rfl
      rw [e1, h3]
      rw [e1] at h1
      omega
theorem i32_and31 (y : Int32) : ((y &&& 31).toBitVec.smod 32).toNat = (y.toBitVec.smod 32).toNat := by
  rw [i32_smod, i32_smod]
  have : (y &&& 31).toBitVec.toNat = y.toBitVec.toNat % 32 := by
    show (y.toBitVec &&& (31 : Int32).toBitVec).toNat = _
    rw [BitVec.toNat_and, show (31 : Int32).toBitVec.toNat = 2 ^ 5 - 1 from by decide, Nat.and_two_pow_sub_one_eq_mod]
  rw [this, Nat.mod_mod]
theorem i32_ishl (x y : Int32) : x <<< y = x <<< (y &&& 31) := by
  apply Int32.toBitVec_inj.mp
  show x.toBitVec <<< (y.toBitVec.smod 32) = x.toBitVec <<< ((y &&& 31).toBitVec.smod 32)
  rw [BitVec.shiftLeft_eq', BitVec.shiftLeft_eq', i32_and31]
theorem i32_ishr (x y : Int32) : x >>> y = x >>> (y &&& 31) := by
  apply Int32.toBitVec_inj.mp
  show x.toBitVec.sshiftRight' (y.toBitVec.smod 32) = x.toBitVec.sshiftRight' ((y &&& 31).toBitVec.smod 32)
  unfold BitVec.sshiftRight'
  rw [i32_and31]
end
section
/-! ONE STEP is sound -/
theorem mm_cnd_P {c : ClassFile.Cond} {x y : Int32} {t e : Prop} (h : mm_cnd c x y t e) : (c = .eq ∧ ((x = y ∧ t) ∨ (¬ x = y ∧ e))) ∨ (c = .ne ∧ ((¬ x = y ∧ t) ∨ (x = y ∧ e))) ∨ (c = .lt ∧ ((x < y ∧ t) ∨ (¬ x < y ∧ e))) ∨ (c = .ge ∧ ((y ≤ x ∧ t) ∨ (¬ y ≤ x ∧ e))) ∨ (c = .gt ∧ ((y < x ∧ t) ∨ (¬ y < x ∧ e))) ∨ (c = .le ∧ ((x ≤ y ∧ t) ∨ (¬ x ≤ y ∧ e))) := by
  cases c <;> simp only [mm_cnd] at h <;> split at h <;> rename_i hc <;> simp [hc, h]
theorem mm_cT_at {pc : Nat} : ∀ {os : List Int} {ts : List Nat}, mm_cT pc os ts = true → ∀ {i t : Nat}, ts[i]? = some t → ∃ o, os[i]? = some o ∧ (pc : Int) + o = (t : Int)
  | [], [], _, i, t, h => by simp at h
  | o :: os, t :: ts, h, 0, t', h2 => by
    simp only [mm_cT, Bool.and_eq_true, decide_eq_true_eq] at h
    cases h2
    exact ⟨o, rfl, h.1⟩
  | o :: os, t :: ts, h, i + 1, t', h2 => by
    simp only [mm_cT, Bool.and_eq_true, decide_eq_true_eq] at h
    exact mm_cT_at h.2 (by simpa using h2)
  | [], _ :: _, h, _, _, _ => by simp [mm_cT] at h
  | _ :: _, [], h, _, _, _ => by simp [mm_cT] at h
theorem mm_pop_P : ∀ {n : Nat} {as st : List Value} {K : List Value → List Value → Prop}, mm_pop n as st K False → ∃ x r, K x r
  | 0, _, _, _, h => ⟨_, _, h⟩
  | _ + 1, _, [], _, h => h.elim
  | n + 1, _, _ :: _, _, h => mm_pop_P (n := n) h
theorem rl_V_I {B : Nat} {M : mm_M} {c a k : Nat} {x : Int32} (h : mm_fk c k = 0 ∨ mm_fk c k = 1) (i : Nat) : updV (rl_V B M c a) k (.int x) i = rl_V B (mm_setI M a k x) c a i := by
  unfold updV rl_V
  rw [mm_setI_at]
  by_cases e : i = k
  · subst e
    rw [if_pos rfl, if_pos rfl]
    rcases h with h | h <;> (rw [h]; rfl)
  · rw [if_neg e, if_neg e]
    rfl
theorem rl_V_L {B : Nat} {M : mm_M} {c a k : Nat} {x : Int64} (h : mm_fk c k = 2) (i : Nat) : updV (rl_V B M c a) k (.long x) i = rl_V B (mm_setL M a k x) c a i := by
  unfold updV rl_V
  rw [mm_setL_at]
  by_cases e : i = k
  · subst e
    rw [if_pos rfl, if_pos rfl, h]
    rfl
  · rw [if_neg e, if_neg e]
    rfl
theorem rl_V_R {B : Nat} {M : mm_M} {c a k : Nat} {x : Nat} (h : mm_fk c k = 3) (i : Nat) : updV (rl_V B M c a) k (.ref (B + x)) i = rl_V B (mm_setR M a k (some x)) c a i := by
  unfold updV rl_V
  rw [mm_setR_at]
  by_cases e : i = k
  · subst e
    rw [if_pos rfl, if_pos rfl, h]
    rfl
  · rw [if_neg e, if_neg e]
    rfl
theorem lk_at (o : Nat) (ho : o < 15) : ∀ d ∈ mm_ln o, mm_lc o d ∈ lw_tbl := mm_all_at (P := fun o => ∀ d ∈ mm_ln o, mm_lc o d ∈ lw_tbl) (lo := 0) (n := 15) ⟨lk_in_0, lk_in_1, lk_in_2, lk_in_3, lk_in_4, lk_in_5, lk_in_6, lk_in_7, lk_in_8, lk_in_9, lk_in_10, lk_in_11, lk_in_12, lk_in_13, lk_in_14, trivial⟩ o (Nat.zero_le _) (by omega)
theorem ow_all : mm_fo mm_nm (fun mi => Nat.blt (mm_ow mi) 15) = true := by decide +kernel
theorem ow_lt {mi : Nat} (h : mi < mm_nm) : mm_ow mi < 15 := Nat.le_of_ble_eq_true (mm_fo_at ow_all mi h)
theorem mm_tr_cat (B : Nat) (E : Nat → Nat) (v : Value) : (mm_tr B E v).category = v.category := by cases v <;> rfl
theorem mm_tr_sum (B : Nat) (E : Nat → Nat) (st : List Value) : ((st.map (mm_tr B E)).map fun v => v.category).sum = (st.map fun v => v.category).sum := by
  rw [List.map_map]
  congr 1
  exact List.map_congr_left (fun v _ => mm_tr_cat B E v)
theorem sn_sum (B : Nat) (E : Nat → Nat) (st : List Value) (h : (st.map fun v => v.category).sum ≤ 100) : ((st.map (mm_tr B E)).map fun v => v.category).sum ≤ 100 := by rw [mm_tr_sum]; exact h
section SNS
variable {p : Program} {l : Launch} {e : Env} {R : Room} {s : State} {m : MethodId} {args : Array Value} {below : List Frame} {meth : Method} {c : Code} {H : Heap} {locs : List Loc} {cells slots : Nat} {Q : State → Prop}
variable {D : va_G} {E : Nat → Nat} {X : mm_X} {B c0 s0 : Nat} {mi pc : Nat} {lsA : Array Slot} {ls st : List Value} {M : mm_M}
theorem sn_lk {pl : Nat} {d : Nat × Nat × Nat × Nat} (hm : mi < mm_nm) (h : (mm_ln (mm_ow mi))[pl]? = some d) : mm_lc (mm_ow mi) d ∈ lw_tbl := lk_at _ (ow_lt hm) d (List.mem_of_getElem? h)
set_option maxHeartbeats 4000000 in
theorem sn_one {q : mm_R} (hC : sn_C D E X B p s m args meth c mi) (hrow : mm_code mi pc = some q) (hI : sn_I D B s c0 s0 M H locs cells slots) (hl : lvR B E lsA (mm_mx mi) ls) (hR1 : 1 ≤ R.frames) (hR2 : 120 ≤ R.locals) (KW : mm_O → Prop) (hk : mm_stepK X q pc ls st M KW False)
    (hgo : ∀ pc' ls' st' M', KW (.inl (pc', ls', st', M')) → (M'.1.2.1 ≤ c0 + R.cells ∧ M'.1.2.2.1 ≤ s0 + R.slots) ∧ ∀ H' locs' lsA' cells' slots', sn_I D B s c0 s0 M' H' locs' cells' slots' → lvR B E lsA' (mm_mx mi) ls' → W p l e R s m args below meth c H' locs' cells' slots' Q (F0 m pc' lsA' (st'.map (mm_tr B E))))
    (hot : ∀ o, KW (.inr o) → W p l e R s m args below meth c H locs cells slots Q (F0 m pc lsA (st.map (mm_tr B E)))) : W p l e R s m args below meth c H locs cells slots Q (F0 m pc lsA (st.map (mm_tr B E))) := by
  have hck := mm_ck_all mi pc q hrow
  obtain ⟨i, len, a, b, ps⟩ := q
  unfold mm_ck at hck
  rw [Bool.and_eq_true, decide_eq_true_eq] at hck
  obtain ⟨hd, hcx⟩ := hck
  have hx := hC.1
  have hb := hC.2.1
  have hown := hC.2.2.2.1
  have hts := hC.2.2.2.2.1
  have hnm := hC.2.2.2.2.2.2.2.2.2
  cases i with
  | aload k =>
    have hlen : len = 2 := of_decide_eq_true hcx
    subst hlen
    obtain ⟨x, h1, hk⟩ := mm_gR_P hk
    exact lv_aload hx hb hd (hl.r h1) ((hgo _ _ _ _ hk).2 _ _ _ _ _ hI hl)
  | aload_n k =>
    have hlen : len = 1 := of_decide_eq_true hcx
    subst hlen
    obtain ⟨x, h1, hk⟩ := mm_gR_P hk
    exact lv_aload_n hx hb hd rfl (hl.r h1) ((hgo _ _ _ _ hk).2 _ _ _ _ _ hI hl)
  | iload k =>
    have hlen : len = 2 := of_decide_eq_true hcx
    subst hlen
    obtain ⟨x, h1, hk⟩ := mm_gI_P hk
    exact lv_iload hx hb hd (hl.i h1) ((hgo _ _ _ _ hk).2 _ _ _ _ _ hI hl)
  | iload_n k =>
    have hlen : len = 1 := of_decide_eq_true hcx
    subst hlen
    obtain ⟨x, h1, hk⟩ := mm_gI_P hk
    exact lv_iload_n hx hb hd rfl (hl.i h1) ((hgo _ _ _ _ hk).2 _ _ _ _ _ hI hl)
  | lload k =>
    have hlen : len = 2 := of_decide_eq_true hcx
    subst hlen
    obtain ⟨x, h1, h2, hk⟩ := mm_gL_P hk
    obtain ⟨h3, hk⟩ := mm_b_P hk
    exact lv_lload hx hb hd (hl.l h1 h2 (Nat.le_of_ble_eq_true h3)) ((hgo _ _ _ _ hk).2 _ _ _ _ _ hI hl)
  | lload_n k =>
    have hlen : len = 1 := of_decide_eq_true hcx
    subst hlen
    obtain ⟨x, h1, h2, hk⟩ := mm_gL_P hk
    obtain ⟨h3, hk⟩ := mm_b_P hk
    exact lv_lload_n hx hb hd rfl (hl.l h1 h2 (Nat.le_of_ble_eq_true h3)) ((hgo _ _ _ _ hk).2 _ _ _ _ _ hI hl)
  | istore k =>
    have hlen : len = 2 := of_decide_eq_true hcx
    subst hlen
    obtain ⟨x, r, rfl, hk⟩ := mm_pI_P hk
    obtain ⟨h3, hk⟩ := mm_b_P hk
    have h4 := Nat.le_of_ble_eq_true h3
    exact lv_istore hx hb hd hl.2 (by rw [← hl.1]; exact h4) rfl (fun ls2 hl2 => (hgo _ _ _ _ hk).2 _ _ _ _ _ hI (lvR.of (by rw [mm_set_len]; exact hl.1) hl2 (lvR.set1 h4 (Or.inl ⟨_, rfl⟩))))
  | istore_n k =>
    have hlen : len = 1 := of_decide_eq_true hcx
    subst hlen
    obtain ⟨x, r, rfl, hk⟩ := mm_pI_P hk
    obtain ⟨h3, hk⟩ := mm_b_P hk
    have h4 := Nat.le_of_ble_eq_true h3
    exact lv_istore_n hx hb hd rfl hl.2 (by rw [← hl.1]; exact h4) rfl (fun ls2 hl2 => (hgo _ _ _ _ hk).2 _ _ _ _ _ hI (lvR.of (by rw [mm_set_len]; exact hl.1) hl2 (lvR.set1 h4 (Or.inl ⟨_, rfl⟩))))
  | astore k =>
    have hlen : len = 2 := of_decide_eq_true hcx
    subst hlen
    obtain ⟨x, r, rfl, hk⟩ := mm_pR_P hk
    obtain ⟨h3, hk⟩ := mm_b_P hk
    have h4 := Nat.le_of_ble_eq_true h3
    exact lv_astore hx hb hd hl.2 (by rw [← hl.1]; exact h4) rfl (fun ls2 hl2 => (hgo _ _ _ _ hk).2 _ _ _ _ _ hI (lvR.of (by rw [mm_set_len]; exact hl.1) hl2 (lvR.set1 h4 (Or.inr ⟨_, rfl⟩))))
  | astore_n k =>
    have hlen : len = 1 := of_decide_eq_true hcx
    subst hlen
    obtain ⟨x, r, rfl, hk⟩ := mm_pR_P hk
    obtain ⟨h3, hk⟩ := mm_b_P hk
    have h4 := Nat.le_of_ble_eq_true h3
    exact lv_astore_n hx hb hd rfl hl.2 (by rw [← hl.1]; exact h4) rfl (fun ls2 hl2 => (hgo _ _ _ _ hk).2 _ _ _ _ _ hI (lvR.of (by rw [mm_set_len]; exact hl.1) hl2 (lvR.set1 h4 (Or.inr ⟨_, rfl⟩))))
  | lstore k =>
    have hlen : len = 2 := of_decide_eq_true hcx
    subst hlen
    obtain ⟨x, r, rfl, hk⟩ := mm_pL_P hk
    obtain ⟨h3, hk⟩ := mm_b_P hk
    have h4 := Nat.le_of_ble_eq_true h3
    exact lv_lstore hx hb hd hl.2 (by rw [← hl.1]; exact h4) rfl (fun ls2 hl2 => (hgo _ _ _ _ hk).2 _ _ _ _ _ hI (lvR.of (by rw [mm_set_len, mm_set_len]; exact hl.1) hl2 (lvR.set2 h4)))
  | lstore_n k =>
    have hlen : len = 1 := of_decide_eq_true hcx
    subst hlen
    obtain ⟨x, r, rfl, hk⟩ := mm_pL_P hk
    obtain ⟨h3, hk⟩ := mm_b_P hk
    have h4 := Nat.le_of_ble_eq_true h3
    exact lv_lstore_n hx hb hd rfl hl.2 (by rw [← hl.1]; exact h4) rfl (fun ls2 hl2 => (hgo _ _ _ _ hk).2 _ _ _ _ _ hI (lvR.of (by rw [mm_set_len, mm_set_len]; exact hl.1) hl2 (lvR.set2 h4)))
  | iinc k n =>
    simp only [mm_cx, Bool.and_eq_true, decide_eq_true_eq] at hcx
    obtain ⟨hlen, hcx⟩ := hcx
    subst hlen
    obtain ⟨x, h1, hk⟩ := mm_gI_P hk
    obtain ⟨h3, hk⟩ := mm_b_P hk
    have h4 := Nat.le_of_ble_eq_true h3
    have hm : (k, Value.int x) ∈ mm_cl B E ls := mm_cl_mem.mpr ⟨h4, mm_cl1_mk (Or.inl ⟨x, h1, rfl⟩)⟩
    obtain ⟨j, hj⟩ := List.getElem?_of_mem hm
    exact lv_iinc hx hb hd hl.2 (k := j) hj (v := x + mm_i a b) (by rw [hcx]) (by rw [← hl.1]; exact h4) rfl (fun ls2 hl2 => (hgo _ _ _ _ hk).2 _ _ _ _ _ hI (lvR.of (by rw [mm_set_len]; exact hl.1) hl2 (lvR.set1 h4 (Or.inl ⟨_, rfl⟩))))
  | iconst n =>
    simp only [mm_cx, Bool.and_eq_true, decide_eq_true_eq] at hcx
    obtain ⟨hlen, hcx⟩ := hcx
    subst hlen
    exact lv_iconst hx hb hd hcx ((hgo _ _ _ _ hk).2 _ _ _ _ _ hI hl)
  | bipush n =>
    simp only [mm_cx, Bool.and_eq_true, decide_eq_true_eq] at hcx
    obtain ⟨hlen, hcx⟩ := hcx
    subst hlen
    exact lv_bipush hx hb hd hcx ((hgo _ _ _ _ hk).2 _ _ _ _ _ hI hl)
  | sipush n =>
    simp only [mm_cx, Bool.and_eq_true, decide_eq_true_eq] at hcx
    obtain ⟨hlen, hcx⟩ := hcx
    subst hlen
    exact lv_sipush hx hb hd hcx ((hgo _ _ _ _ hk).2 _ _ _ _ _ hI hl)
  | lconst n =>
    simp only [mm_cx, Bool.and_eq_true, decide_eq_true_eq] at hcx
    obtain ⟨hlen, hcx⟩ := hcx
    subst hlen
    exact lv_lconst hx hb hd hcx ((hgo _ _ _ _ hk).2 _ _ _ _ _ hI hl)
  | ldc n =>
    simp only [mm_cx, Bool.and_eq_true, decide_eq_true_eq] at hcx
    obtain ⟨hlen, hcx⟩ := hcx
    subst hlen
    split at hcx
    · simp only [Bool.or_eq_true, Bool.and_eq_true, mm_cL, decide_eq_true_eq] at hcx
      rcases hcx with ⟨h1, h2⟩ | ⟨h1, h2⟩
      · have h3 := Nat.eq_of_beq_eq_true h1
        subst h3
        exact lv_ldc hx hb hown (hts _ (sn_lk hnm h2) rfl) hd ((hgo _ _ _ _ hk).2 _ _ _ _ _ hI hl)
      · have h3 := Nat.eq_of_beq_eq_true h1
        subst h3
        exact lv_ldc hx hb hown (hts _ (sn_lk hnm h2) rfl) hd ((hgo _ _ _ _ hk).2 _ _ _ _ _ hI hl)
    · cases hcx
  | ldc_w n =>
    simp only [mm_cx, Bool.and_eq_true, decide_eq_true_eq] at hcx
    obtain ⟨hlen, hcx⟩ := hcx
    subst hlen
    split at hcx
    · simp only [Bool.or_eq_true, Bool.and_eq_true, mm_cL, decide_eq_true_eq] at hcx
      rcases hcx with ⟨h1, h2⟩ | ⟨h1, h2⟩
      · have h3 := Nat.eq_of_beq_eq_true h1
        subst h3
        exact lv_ldcw hx hb hown (hts _ (sn_lk hnm h2) rfl) hd ((hgo _ _ _ _ hk).2 _ _ _ _ _ hI hl)
      · have h3 := Nat.eq_of_beq_eq_true h1
        subst h3
        exact lv_ldcw hx hb hown (hts _ (sn_lk hnm h2) rfl) hd ((hgo _ _ _ _ hk).2 _ _ _ _ _ hI hl)
    · cases hcx
  | ldc2_w n =>
    simp only [mm_cx, Bool.and_eq_true, decide_eq_true_eq] at hcx
    obtain ⟨hlen, hcx⟩ := hcx
    subst hlen
    split at hcx
    · simp only [Bool.or_eq_true, Bool.and_eq_true, mm_cL, decide_eq_true_eq] at hcx
      rcases hcx with ⟨h1, h2⟩ | ⟨h1, h2⟩
      · have h3 := Nat.eq_of_beq_eq_true h1
        subst h3
        exact lv_ldc2 hx hb hown (hts _ (sn_lk hnm h2) rfl) hd ((hgo _ _ _ _ hk).2 _ _ _ _ _ hI hl)
      · have h3 := Nat.eq_of_beq_eq_true h1
        subst h3
        exact lv_ldc2 hx hb hown (hts _ (sn_lk hnm h2) rfl) hd ((hgo _ _ _ _ hk).2 _ _ _ _ _ hI hl)
    · cases hcx
  | iadd =>
    have hlen : len = 1 := of_decide_eq_true hcx
    subst hlen
    obtain ⟨y, r, rfl, hk⟩ := mm_pI_P hk
    obtain ⟨x, r, rfl, hk⟩ := mm_pI_P hk
    exact lv_iadd hx hb hd ((hgo _ _ _ _ hk).2 _ _ _ _ _ hI hl)
  | isub =>
    have hlen : len = 1 := of_decide_eq_true hcx
    subst hlen
    obtain ⟨y, r, rfl, hk⟩ := mm_pI_P hk
    obtain ⟨x, r, rfl, hk⟩ := mm_pI_P hk
    exact lv_isub hx hb hd ((hgo _ _ _ _ hk).2 _ _ _ _ _ hI hl)
  | imul =>
    have hlen : len = 1 := of_decide_eq_true hcx
    subst hlen
    obtain ⟨y, r, rfl, hk⟩ := mm_pI_P hk
    obtain ⟨x, r, rfl, hk⟩ := mm_pI_P hk
    exact lv_imul hx hb hd ((hgo _ _ _ _ hk).2 _ _ _ _ _ hI hl)
  | iand =>
    have hlen : len = 1 := of_decide_eq_true hcx
    subst hlen
    obtain ⟨y, r, rfl, hk⟩ := mm_pI_P hk
    obtain ⟨x, r, rfl, hk⟩ := mm_pI_P hk
    exact lv_iand hx hb hd ((hgo _ _ _ _ hk).2 _ _ _ _ _ hI hl)
  | ior =>
    have hlen : len = 1 := of_decide_eq_true hcx
    subst hlen
    obtain ⟨y, r, rfl, hk⟩ := mm_pI_P hk
    obtain ⟨x, r, rfl, hk⟩ := mm_pI_P hk
    exact lv_ior hx hb hd ((hgo _ _ _ _ hk).2 _ _ _ _ _ hI hl)
  | ixor =>
    have hlen : len = 1 := of_decide_eq_true hcx
    subst hlen
    obtain ⟨y, r, rfl, hk⟩ := mm_pI_P hk
    obtain ⟨x, r, rfl, hk⟩ := mm_pI_P hk
    exact lv_ixor hx hb hd ((hgo _ _ _ _ hk).2 _ _ _ _ _ hI hl)
  | ishl =>
    have hlen : len = 1 := of_decide_eq_true hcx
    subst hlen
    obtain ⟨y, r, rfl, hk⟩ := mm_pI_P hk
    obtain ⟨x, r, rfl, hk⟩ := mm_pI_P hk
    refine lv_ishl hx hb hd ?_
    rw [← i32_ishl]
    exact (hgo _ _ _ _ hk).2 _ _ _ _ _ hI hl
  | ishr =>
    have hlen : len = 1 := of_decide_eq_true hcx
    subst hlen
    obtain ⟨y, r, rfl, hk⟩ := mm_pI_P hk
    obtain ⟨x, r, rfl, hk⟩ := mm_pI_P hk
    refine lv_ishr hx hb hd ?_
    rw [← i32_ishr]
    exact (hgo _ _ _ _ hk).2 _ _ _ _ _ hI hl
  | iushr =>
    have hlen : len = 1 := of_decide_eq_true hcx
    subst hlen
    obtain ⟨y, r, rfl, hk⟩ := mm_pI_P hk
    obtain ⟨x, r, rfl, hk⟩ := mm_pI_P hk
    exact lv_iushr hx hb hd rfl ((hgo _ _ _ _ hk).2 _ _ _ _ _ hI hl)
  | ladd =>
    have hlen : len = 1 := of_decide_eq_true hcx
    subst hlen
    obtain ⟨y, r, rfl, hk⟩ := mm_pL_P hk
    obtain ⟨x, r, rfl, hk⟩ := mm_pL_P hk
    exact lv_ladd hx hb hd ((hgo _ _ _ _ hk).2 _ _ _ _ _ hI hl)
  | lsub =>
    have hlen : len = 1 := of_decide_eq_true hcx
    subst hlen
    obtain ⟨y, r, rfl, hk⟩ := mm_pL_P hk
    obtain ⟨x, r, rfl, hk⟩ := mm_pL_P hk
    exact lv_lsub hx hb hd ((hgo _ _ _ _ hk).2 _ _ _ _ _ hI hl)
  | lmul =>
    have hlen : len = 1 := of_decide_eq_true hcx
    subst hlen
    obtain ⟨y, r, rfl, hk⟩ := mm_pL_P hk
    obtain ⟨x, r, rfl, hk⟩ := mm_pL_P hk
    exact lv_lmul hx hb hd ((hgo _ _ _ _ hk).2 _ _ _ _ _ hI hl)
  | land =>
    have hlen : len = 1 := of_decide_eq_true hcx
    subst hlen
    obtain ⟨y, r, rfl, hk⟩ := mm_pL_P hk
    obtain ⟨x, r, rfl, hk⟩ := mm_pL_P hk
    exact lv_land hx hb hd ((hgo _ _ _ _ hk).2 _ _ _ _ _ hI hl)
  | lor =>
    have hlen : len = 1 := of_decide_eq_true hcx
    subst hlen
    obtain ⟨y, r, rfl, hk⟩ := mm_pL_P hk
    obtain ⟨x, r, rfl, hk⟩ := mm_pL_P hk
    exact lv_lor hx hb hd ((hgo _ _ _ _ hk).2 _ _ _ _ _ hI hl)
  | lxor =>
    have hlen : len = 1 := of_decide_eq_true hcx
    subst hlen
    obtain ⟨y, r, rfl, hk⟩ := mm_pL_P hk
    obtain ⟨x, r, rfl, hk⟩ := mm_pL_P hk
    exact lv_lxor hx hb hd ((hgo _ _ _ _ hk).2 _ _ _ _ _ hI hl)
  | lshl =>
    have hlen : len = 1 := of_decide_eq_true hcx
    subst hlen
    obtain ⟨y, r, rfl, hk⟩ := mm_pI_P hk
    obtain ⟨x, r, rfl, hk⟩ := mm_pL_P hk
    exact lv_lshl hx hb hd rfl ((hgo _ _ _ _ hk).2 _ _ _ _ _ hI hl)
  | lshr =>
    have hlen : len = 1 := of_decide_eq_true hcx
    subst hlen
    obtain ⟨y, r, rfl, hk⟩ := mm_pI_P hk
    obtain ⟨x, r, rfl, hk⟩ := mm_pL_P hk
    exact lv_lshr hx hb hd rfl ((hgo _ _ _ _ hk).2 _ _ _ _ _ hI hl)
  | lushr =>
    have hlen : len = 1 := of_decide_eq_true hcx
    subst hlen
    obtain ⟨y, r, rfl, hk⟩ := mm_pI_P hk
    obtain ⟨x, r, rfl, hk⟩ := mm_pL_P hk
    exact lv_lushr hx hb hd rfl ((hgo _ _ _ _ hk).2 _ _ _ _ _ hI hl)
  | lcmp =>
    have hlen : len = 1 := of_decide_eq_true hcx
    subst hlen
    obtain ⟨y, r, rfl, hk⟩ := mm_pL_P hk
    obtain ⟨x, r, rfl, hk⟩ := mm_pL_P hk
    exact W.lcmp hx hb hd ((hgo _ _ _ _ hk).2 _ _ _ _ _ hI hl)
  | idiv =>
    have hlen : len = 1 := of_decide_eq_true hcx
    subst hlen
    obtain ⟨y, r, rfl, hk⟩ := mm_pI_P hk
    obtain ⟨x, r, rfl, hk⟩ := mm_pI_P hk
    obtain ⟨h0, hk⟩ := mm_nif hk
    exact lv_idiv hx hb hd h0 ((hgo _ _ _ _ hk).2 _ _ _ _ _ hI hl)
  | irem =>
    have hlen : len = 1 := of_decide_eq_true hcx
    subst hlen
    obtain ⟨y, r, rfl, hk⟩ := mm_pI_P hk
    obtain ⟨x, r, rfl, hk⟩ := mm_pI_P hk
    obtain ⟨h0, hk⟩ := mm_nif hk
    exact lv_irem hx hb hd h0 ((hgo _ _ _ _ hk).2 _ _ _ _ _ hI hl)
  | ldiv =>
    have hlen : len = 1 := of_decide_eq_true hcx
    subst hlen
    obtain ⟨y, r, rfl, hk⟩ := mm_pL_P hk
    obtain ⟨x, r, rfl, hk⟩ := mm_pL_P hk
    obtain ⟨h0, hk⟩ := mm_nif hk
    exact lv_ldiv hx hb hd h0 ((hgo _ _ _ _ hk).2 _ _ _ _ _ hI hl)
  | i2l =>
    have hlen : len = 1 := of_decide_eq_true hcx
    subst hlen
    obtain ⟨x, r, rfl, hk⟩ := mm_pI_P hk
    exact lv_i2l hx hb hd rfl ((hgo _ _ _ _ hk).2 _ _ _ _ _ hI hl)
  | l2i =>
    have hlen : len = 1 := of_decide_eq_true hcx
    subst hlen
    obtain ⟨x, r, rfl, hk⟩ := mm_pL_P hk
    exact lv_l2i hx hb hd rfl ((hgo _ _ _ _ hk).2 _ _ _ _ _ hI hl)
  | i2b =>
    have hlen : len = 1 := of_decide_eq_true hcx
    subst hlen
    obtain ⟨x, r, rfl, hk⟩ := mm_pI_P hk
    exact lv_i2b hx hb hd rfl ((hgo _ _ _ _ hk).2 _ _ _ _ _ hI hl)
  | dup =>
    have hlen : len = 1 := of_decide_eq_true hcx
    subst hlen
    have hk1 : mm_p1 st (fun v st => KW (.inl (pc + 1, ls, v :: v :: st, M))) False := hk
    obtain ⟨v, r, rfl, hv, hk⟩ := mm_p1_P hk1
    exact lv_dup hx hb hd (hv B E) ((hgo _ _ _ _ hk).2 _ _ _ _ _ hI hl)
  | pop =>
    have hlen : len = 1 := of_decide_eq_true hcx
    subst hlen
    have hk1 : mm_p1 st (fun _ st => KW (.inl (pc + 1, ls, st, M))) False := hk
    obtain ⟨v, r, rfl, hv, hk⟩ := mm_p1_P hk1
    exact lv_pop hx hb hd (hv B E) ((hgo _ _ _ _ hk).2 _ _ _ _ _ hI hl)
  | dup2 =>
    have hlen : len = 1 := of_decide_eq_true hcx
    subst hlen
    have hk1 : mm_p1 st (fun v st => mm_p1 st (fun w st => KW (.inl (pc + 1, ls, v :: w :: v :: w :: st, M))) False) False := hk
    obtain ⟨v, r, rfl, hv, hk⟩ := mm_p1_P hk1
    obtain ⟨w, r, rfl, hw, hk⟩ := mm_p1_P hk
    exact lv_dup2_11 hx hb hd (hv B E) (hw B E) ((hgo _ _ _ _ hk).2 _ _ _ _ _ hI hl)
  | pop2 =>
    have hlen : len = 1 := of_decide_eq_true hcx
    subst hlen
    obtain ⟨x, r, rfl, hk⟩ := mm_pL_P hk
    exact lv_pop2_2 hx hb hd rfl ((hgo _ _ _ _ hk).2 _ _ _ _ _ hI hl)
  | goto off =>
    simp only [mm_cx, Bool.and_eq_true, decide_eq_true_eq] at hcx
    obtain ⟨hlen, hcx⟩ := hcx
    subst hlen
    exact lv_goto hx hb hd hcx ((hgo _ _ _ _ hk).2 _ _ _ _ _ hI hl)
  | ifCond cd off =>
    simp only [mm_cx, Bool.and_eq_true, decide_eq_true_eq] at hcx
    obtain ⟨hlen, hcx⟩ := hcx
    subst hlen
    obtain ⟨x, r, rfl, hk⟩ := mm_pI_P hk
    rcases mm_cnd_P hk with ⟨rfl, h1⟩ | ⟨rfl, h1⟩ | ⟨rfl, h1⟩ | ⟨rfl, h1⟩ | ⟨rfl, h1⟩ | ⟨rfl, h1⟩
    · exact lv_if_eq hx hb hd hcx (fun hh => (hgo _ _ _ _ (h1.elim (fun z => z.2) (fun z => absurd hh z.1))).2 _ _ _ _ _ hI hl) (fun hh => (hgo _ _ _ _ (h1.elim (fun z => absurd z.1 hh) (fun z => z.2))).2 _ _ _ _ _ hI hl)
    · exact lv_if_ne hx hb hd hcx (fun hh => (hgo _ _ _ _ (h1.elim (fun z => z.2) (fun z => absurd z.1 hh))).2 _ _ _ _ _ hI hl) (fun hh => (hgo _ _ _ _ (h1.elim (fun z => absurd hh z.1) (fun z => z.2))).2 _ _ _ _ _ hI hl)
    · exact lv_if_lt hx hb hd hcx (fun hh => (hgo _ _ _ _ (h1.elim (fun z => z.2) (fun z => absurd hh z.1))).2 _ _ _ _ _ hI hl) (fun hh => (hgo _ _ _ _ (h1.elim (fun z => absurd z.1 hh) (fun z => z.2))).2 _ _ _ _ _ hI hl)
    · exact lv_if_ge hx hb hd hcx (fun hh => (hgo _ _ _ _ (h1.elim (fun z => z.2) (fun z => absurd hh z.1))).2 _ _ _ _ _ hI hl) (fun hh => (hgo _ _ _ _ (h1.elim (fun z => absurd z.1 hh) (fun z => z.2))).2 _ _ _ _ _ hI hl)
    · exact lv_if_gt hx hb hd hcx (fun hh => (hgo _ _ _ _ (h1.elim (fun z => z.2) (fun z => absurd hh z.1))).2 _ _ _ _ _ hI hl) (fun hh => (hgo _ _ _ _ (h1.elim (fun z => absurd z.1 hh) (fun z => z.2))).2 _ _ _ _ _ hI hl)
    · exact lv_if_le hx hb hd hcx (fun hh => (hgo _ _ _ _ (h1.elim (fun z => z.2) (fun z => absurd hh z.1))).2 _ _ _ _ _ hI hl) (fun hh => (hgo _ _ _ _ (h1.elim (fun z => absurd z.1 hh) (fun z => z.2))).2 _ _ _ _ _ hI hl)
  | if_icmp cd off =>
    simp only [mm_cx, Bool.and_eq_true, decide_eq_true_eq] at hcx
    obtain ⟨hlen, hcx⟩ := hcx
    subst hlen
    obtain ⟨y, r, rfl, hk⟩ := mm_pI_P hk
    obtain ⟨x, r, rfl, hk⟩ := mm_pI_P hk
    rcases mm_cnd_P hk with ⟨rfl, h1⟩ | ⟨rfl, h1⟩ | ⟨rfl, h1⟩ | ⟨rfl, h1⟩ | ⟨rfl, h1⟩ | ⟨rfl, h1⟩
    · exact lv_icmp_eq hx hb hd hcx (fun hh => (hgo _ _ _ _ (h1.elim (fun z => z.2) (fun z => absurd hh z.1))).2 _ _ _ _ _ hI hl) (fun hh => (hgo _ _ _ _ (h1.elim (fun z => absurd z.1 hh) (fun z => z.2))).2 _ _ _ _ _ hI hl)
    · exact lv_icmp_ne hx hb hd hcx (fun hh => (hgo _ _ _ _ (h1.elim (fun z => z.2) (fun z => absurd z.1 hh))).2 _ _ _ _ _ hI hl) (fun hh => (hgo _ _ _ _ (h1.elim (fun z => absurd hh z.1) (fun z => z.2))).2 _ _ _ _ _ hI hl)
    · exact lv_icmp_lt hx hb hd hcx (fun hh => (hgo _ _ _ _ (h1.elim (fun z => z.2) (fun z => absurd hh z.1))).2 _ _ _ _ _ hI hl) (fun hh => (hgo _ _ _ _ (h1.elim (fun z => absurd z.1 hh) (fun z => z.2))).2 _ _ _ _ _ hI hl)
    · exact lv_icmp_ge hx hb hd hcx (fun hh => (hgo _ _ _ _ (h1.elim (fun z => z.2) (fun z => absurd hh z.1))).2 _ _ _ _ _ hI hl) (fun hh => (hgo _ _ _ _ (h1.elim (fun z => absurd z.1 hh) (fun z => z.2))).2 _ _ _ _ _ hI hl)
    · exact lv_icmp_gt hx hb hd hcx (fun hh => (hgo _ _ _ _ (h1.elim (fun z => z.2) (fun z => absurd hh z.1))).2 _ _ _ _ _ hI hl) (fun hh => (hgo _ _ _ _ (h1.elim (fun z => absurd z.1 hh) (fun z => z.2))).2 _ _ _ _ _ hI hl)
    · exact lv_icmp_le hx hb hd hcx (fun hh => (hgo _ _ _ _ (h1.elim (fun z => z.2) (fun z => absurd hh z.1))).2 _ _ _ _ _ hI hl) (fun hh => (hgo _ _ _ _ (h1.elim (fun z => absurd z.1 hh) (fun z => z.2))).2 _ _ _ _ _ hI hl)
  | tableswitch df lo hi os =>
    simp only [mm_cx, Bool.and_eq_true, decide_eq_true_eq] at hcx
    obtain ⟨x, r, rfl, hk⟩ := mm_pI_P hk
    have hk1 : if x.toInt < lo ∨ hi < x.toInt then KW (.inl (a, ls, r, M)) else mm_gO (ps[(x.toInt - lo).toNat]?) (fun t => KW (.inl (t, ls, r, M))) False := hk
    by_cases h : x.toInt < lo ∨ hi < x.toInt
    · rw [if_pos h] at hk1
      exact lv_tableOut hx hb hd h hcx.1 ((hgo _ _ _ _ hk1).2 _ _ _ _ _ hI hl)
    · rw [if_neg h] at hk1
      obtain ⟨t, h1, hk3⟩ := mm_gO_P hk1
      obtain ⟨o, h2, h3⟩ := mm_cT_at hcx.2 h1
      exact lv_tableIn hx hb hd (fun z => h (Or.inl z)) (fun z => h (Or.inr z)) (by rw [← Array.getElem?_toList]; exact h2) h3 ((hgo _ _ _ _ hk3).2 _ _ _ _ _ hI hl)
  | iaload =>
    have hlen : len = 1 := of_decide_eq_true hcx
    subst hlen
    obtain ⟨i, r, rfl, hk⟩ := mm_pI_P hk
    obtain ⟨ad, r, rfl, hk⟩ := mm_pR_P hk
    rcases mm_b_E hk with ⟨h1, hk⟩ | ⟨h1, hk⟩
    · obtain ⟨h2, hk⟩ := mm_nif hk
      have e1 : mm_ad B E ad = E (ad - mm_ext) := if_pos (Nat.le_of_ble_eq_true h1)
      show W p l e R s m args below meth c H locs cells slots Q (F0 m pc lsA (.int i :: .ref (mm_ad B E ad) :: r.map (mm_tr B E)))
      rw [e1]
      exact sn_xald hC hI h2 hd ((hgo _ _ _ _ hk).2 _ _ _ _ _ hI hl)
    · obtain ⟨h2, hk⟩ := mm_b_P hk
      obtain ⟨h3, hk⟩ := mm_nif hk
      obtain ⟨g1, g2⟩ := mm_isObj_P h2
      show W p l e R s m args below meth c H locs cells slots Q (F0 m pc lsA (.int i :: .ref (mm_ad B E ad) :: r.map (mm_tr B E)))
      rw [hI.1.ext g1 E]
      exact sn_iald hC hI g1 g2 h3 hd ((hgo _ _ _ _ hk).2 _ _ _ _ _ hI hl)
  | laload =>
    have hlen : len = 1 := of_decide_eq_true hcx
    subst hlen
    obtain ⟨i, r, rfl, hk⟩ := mm_pI_P hk
    obtain ⟨ad, r, rfl, hk⟩ := mm_pR_P hk
    obtain ⟨h2, hk⟩ := mm_b_P hk
    obtain ⟨h3, hk⟩ := mm_nif hk
    obtain ⟨g1, g2⟩ := mm_isObj_P h2
    show W p l e R s m args below meth c H locs cells slots Q (F0 m pc lsA (.int i :: .ref (mm_ad B E ad) :: r.map (mm_tr B E)))
    rw [hI.1.ext g1 E]
    exact sn_lald hC hI g1 g2 h3 hd ((hgo _ _ _ _ hk).2 _ _ _ _ _ hI hl)
  | baload =>
    have hlen : len = 1 := of_decide_eq_true hcx
    subst hlen
    obtain ⟨i, r, rfl, hk⟩ := mm_pI_P hk
    obtain ⟨ad, r, rfl, hk⟩ := mm_pR_P hk
    obtain ⟨h2, hk⟩ := mm_b_P hk
    obtain ⟨h3, hk⟩ := mm_nif hk
    rw [Bool.or_eq_true] at h2
    show W p l e R s m args below meth c H locs cells slots Q (F0 m pc lsA (.int i :: .ref (mm_ad B E ad) :: r.map (mm_tr B E)))
    rcases h2 with h2 | h2
    · obtain ⟨g1, g2⟩ := mm_isObj_P h2
      rw [hI.1.ext g1 E]
      exact sn_zald hC hI g1 g2 h3 hd ((hgo _ _ _ _ hk).2 _ _ _ _ _ hI hl)
    · obtain ⟨g1, g2⟩ := mm_isObj_P h2
      rw [hI.1.ext g1 E]
      exact sn_bald hC hI g1 g2 h3 hd ((hgo _ _ _ _ hk).2 _ _ _ _ _ hI hl)
  | aaload =>
    have hlen : len = 1 := of_decide_eq_true hcx
    subst hlen
    obtain ⟨i, r, rfl, hk⟩ := mm_pI_P hk
    obtain ⟨ad, r, rfl, hk⟩ := mm_pR_P hk
    obtain ⟨h2, hk⟩ := mm_b_P hk
    obtain ⟨h3, hk⟩ := mm_nif hk
    obtain ⟨y, h4, hk⟩ := mm_gO_P hk
    obtain ⟨g1, g2⟩ := mm_isObj_P h2
    show W p l e R s m args below meth c H locs cells slots Q (F0 m pc lsA (.int i :: .ref (mm_ad B E ad) :: r.map (mm_tr B E)))
    rw [hI.1.ext g1 E]
    refine sn_aald hC hI g1 g2 h3 hd ?_
    rw [h4]
    have h5 : y < M.1.1.1 := hI.1.2.2.2 _ _ _ h4
    have h6 := (hgo _ _ _ _ hk).2 _ _ _ _ _ hI hl
    have e2 : mm_tr B E (.ref y) = .ref (B + y) := by show Value.ref (mm_ad B E y) = _; rw [hI.1.ext h5 E]
    simp only [List.map_cons, e2] at h6
    exact h6
  | iastore =>
    have hlen : len = 1 := of_decide_eq_true hcx
    subst hlen
    obtain ⟨x, r, rfl, hk⟩ := mm_pI_P hk
    obtain ⟨i, r, rfl, hk⟩ := mm_pI_P hk
    obtain ⟨ad, r, rfl, hk⟩ := mm_pR_P hk
    obtain ⟨h2, hk⟩ := mm_b_P hk
    obtain ⟨h3, hk⟩ := mm_nif hk
    obtain ⟨g1, g2⟩ := mm_isObj_P h2
    show W p l e R s m args below meth c H locs cells slots Q (F0 m pc lsA (.int x :: .int i :: .ref (mm_ad B E ad) :: r.map (mm_tr B E)))
    rw [hI.1.ext g1 E]
    exact sn_iast hC hI g1 g2 h3 hd (fun H1 locs1 hI1 => (hgo _ _ _ _ hk).2 _ _ _ _ _ hI1 hl)
  | lastore =>
    have hlen : len = 1 := of_decide_eq_true hcx
    subst hlen
    obtain ⟨x, r, rfl, hk⟩ := mm_pL_P hk
    obtain ⟨i, r, rfl, hk⟩ := mm_pI_P hk
    obtain ⟨ad, r, rfl, hk⟩ := mm_pR_P hk
    obtain ⟨h2, hk⟩ := mm_b_P hk
    obtain ⟨h3, hk⟩ := mm_nif hk
    obtain ⟨g1, g2⟩ := mm_isObj_P h2
    show W p l e R s m args below meth c H locs cells slots Q (F0 m pc lsA (.long x :: .int i :: .ref (mm_ad B E ad) :: r.map (mm_tr B E)))
    rw [hI.1.ext g1 E]
    exact sn_last hC hI g1 g2 h3 hd (fun H1 locs1 hI1 => (hgo _ _ _ _ hk).2 _ _ _ _ _ hI1 hl)
  | bastore =>
    have hlen : len = 1 := of_decide_eq_true hcx
    subst hlen
    obtain ⟨x, r, rfl, hk⟩ := mm_pI_P hk
    obtain ⟨i, r, rfl, hk⟩ := mm_pI_P hk
    obtain ⟨ad, r, rfl, hk⟩ := mm_pR_P hk
    show W p l e R s m args below meth c H locs cells slots Q (F0 m pc lsA (.int x :: .int i :: .ref (mm_ad B E ad) :: r.map (mm_tr B E)))
    rcases mm_b_E hk with ⟨h2, hk⟩ | ⟨-, hk⟩
    · obtain ⟨h3, hk⟩ := mm_nif hk
      obtain ⟨g1, g2⟩ := mm_isObj_P h2
      rw [hI.1.ext g1 E]
      exact sn_zast hC hI g1 g2 h3 hd (fun H1 locs1 hI1 => (hgo _ _ _ _ hk).2 _ _ _ _ _ hI1 hl)
    · obtain ⟨h2, hk⟩ := mm_b_P hk
      obtain ⟨h3, hk⟩ := mm_nif hk
      obtain ⟨g1, g2⟩ := mm_isObj_P h2
      rw [hI.1.ext g1 E]
      exact sn_bast hC hI g1 g2 h3 hd (fun H1 locs1 hI1 => (hgo _ _ _ _ hk).2 _ _ _ _ _ hI1 hl)
  | arraylength =>
    have hlen : len = 1 := of_decide_eq_true hcx
    subst hlen
    obtain ⟨ad, r, rfl, hk⟩ := mm_pR_P hk
    rcases mm_b_E hk with ⟨h1, hk⟩ | ⟨h1, hk⟩
    · have e1 : mm_ad B E ad = E (ad - mm_ext) := if_pos (Nat.le_of_ble_eq_true h1)
      show W p l e R s m args below meth c H locs cells slots Q (F0 m pc lsA (.ref (mm_ad B E ad) :: r.map (mm_tr B E)))
      rw [e1]
      exact sn_xlen hC hI hd ((hgo _ _ _ _ hk).2 _ _ _ _ _ hI hl)
    · obtain ⟨h2, hk⟩ := mm_b_P hk
      simp only [Bool.and_eq_true] at h2
      have g1 := Nat.le_of_ble_eq_true h2.1.1
      show W p l e R s m args below meth c H locs cells slots Q (F0 m pc lsA (.ref (mm_ad B E ad) :: r.map (mm_tr B E)))
      rw [hI.1.ext g1 E]
      exact sn_alen hC hI g1 (Nat.le_of_ble_eq_true h2.1.2) (Nat.le_of_ble_eq_true h2.2) hd ((hgo _ _ _ _ hk).2 _ _ _ _ _ hI hl)
  | getfield n =>
    simp only [mm_cx, Bool.and_eq_true, decide_eq_true_eq] at hcx
    obtain ⟨hlen, hcx⟩ := hcx
    subst hlen
    unfold mm_cF at hcx
    obtain ⟨ad, r, rfl, hk⟩ := mm_pR_P hk
    obtain ⟨h2, hk⟩ := mm_b_P hk
    obtain ⟨g1, g2⟩ := mm_isObj_P h2
    show W p l e R s m args below meth c H locs cells slots Q (F0 m pc lsA (.ref (mm_ad B E ad) :: r.map (mm_tr B E)))
    rw [hI.1.ext g1 E]
    match ps, hcx, hk with
    | [kd, pl], hcx, hk =>
      simp only [Bool.and_eq_true, decide_eq_true_eq] at hcx
      obtain ⟨⟨⟨⟨c1, c2⟩, c3⟩, c4⟩, -⟩ := hcx
      have c1 := Nat.le_of_ble_eq_true c1
      have c2 := Nat.le_of_ble_eq_true c2
      have c4 := Nat.eq_of_beq_eq_true c4
      refine sn_get hC hI g1 g2 c1 c2 (sn_lk hnm c3) hd ?_
      unfold rl_V
      rw [← c4]
      match kd, hk with
      | 0, hk => exact (hgo _ _ _ _ hk).2 _ _ _ _ _ hI hl
      | 1, hk => exact (hgo _ _ _ _ hk).2 _ _ _ _ _ hI hl
      | 2, hk => exact (hgo _ _ _ _ hk).2 _ _ _ _ _ hI hl
      | 3, hk =>
        obtain ⟨y, h4, hk⟩ := mm_gO_P hk
        have h5 : y < M.1.1.1 := hI.1.2.2.2 _ _ _ h4
        have h6 := (hgo _ _ _ _ hk).2 _ _ _ _ _ hI hl
        have e2 : mm_tr B E (.ref y) = .ref (B + y) := by show Value.ref (mm_ad B E y) = _; rw [hI.1.ext h5 E]
        simp only [List.map_cons, e2] at h6
        have h7 : M.2.2.2 ad b = some y := h4
        rw [h7]
        exact h6
      | _ + 4, hk => exact hk.elim
    | [], hcx, _ => cases hcx
    | [_], hcx, _ => cases hcx
    | _ :: _ :: _ :: _, hcx, _ => cases hcx
  | putfield n =>
    simp only [mm_cx, Bool.and_eq_true, decide_eq_true_eq] at hcx
    obtain ⟨hlen, hcx⟩ := hcx
    subst hlen
    unfold mm_cF at hcx
    match ps, hcx, hk with
    | [kd, pl], hcx, hk =>
      simp only [Bool.and_eq_true, decide_eq_true_eq] at hcx
      obtain ⟨⟨⟨⟨c1, c2⟩, c3⟩, c4⟩, c5⟩ := hcx
      have c1 := Nat.le_of_ble_eq_true c1
      have c2 := Nat.le_of_ble_eq_true c2
      have c4 := Nat.eq_of_beq_eq_true c4
      have hfin : (mm_tf a b).2.2.2 = false ∨ (mm_ii mi = true ∧ a = mm_ow mi) := by
        simp only [Bool.not_true, Bool.false_or, Bool.or_eq_true, Bool.not_eq_true', Bool.and_eq_true] at c5
        rcases c5 with h | h
        · exact Or.inl h
        · exact Or.inr ⟨h.1, Nat.eq_of_beq_eq_true h.2⟩
      match kd, hk, c4 with
      | 0, hk, c4 =>
        obtain ⟨x, r, rfl, hk⟩ := mm_pI_P hk
        obtain ⟨ad, r, rfl, hk⟩ := mm_pR_P hk
        obtain ⟨h2, hk⟩ := mm_b_P hk
        obtain ⟨g1, g2⟩ := mm_isObj_P h2
        show W p l e R s m args below meth c H locs cells slots Q (F0 m pc lsA (.int x :: .ref (mm_ad B E ad) :: r.map (mm_tr B E)))
        rw [hI.1.ext g1 E]
        have ht : mm_ty a b = .int := mm_tk_0 c4.symm
        exact sn_put (M1 := mm_setI M ad b x) hC hI g1 g2 c1 c2 (sn_lk hnm c3) hfin (by rw [ht]; rfl) (by rw [ht]; rfl) rfl (fun _ h => mm_setI_o M ad b x h) hI.1.2.2.2 (fun j _ => rl_V_I (Or.inl c4.symm) j) hd (fun H1 locs1 hI1 => (hgo _ _ _ _ hk).2 _ _ _ _ _ hI1 hl)
      | 1, hk, c4 =>
        obtain ⟨x, r, rfl, hk⟩ := mm_pI_P hk
        obtain ⟨ad, r, rfl, hk⟩ := mm_pR_P hk
        obtain ⟨h2, hk⟩ := mm_b_P hk
        obtain ⟨h3, hk⟩ := mm_pif hk
        obtain ⟨g1, g2⟩ := mm_isObj_P h2
        show W p l e R s m args below meth c H locs cells slots Q (F0 m pc lsA (.int x :: .ref (mm_ad B E ad) :: r.map (mm_tr B E)))
        rw [hI.1.ext g1 E]
        have ht : mm_ty a b = .boolean := mm_tk_1 c4.symm
        exact sn_put (M1 := mm_setI M ad b x) hC hI g1 g2 c1 c2 (sn_lk hnm c3) hfin (by rw [ht]; rcases h3 with rfl | rfl <;> decide) (by rw [ht]; rcases h3 with rfl | rfl <;> decide) rfl (fun _ h => mm_setI_o M ad b x h) hI.1.2.2.2 (fun j _ => rl_V_I (Or.inr c4.symm) j) hd (fun H1 locs1 hI1 => (hgo _ _ _ _ hk).2 _ _ _ _ _ hI1 hl)
      | 2, hk, c4 =>
        obtain ⟨x, r, rfl, hk⟩ := mm_pL_P hk
        obtain ⟨ad, r, rfl, hk⟩ := mm_pR_P hk
        obtain ⟨h2, hk⟩ := mm_b_P hk
        obtain ⟨g1, g2⟩ := mm_isObj_P h2
        show W p l e R s m args below meth c H locs cells slots Q (F0 m pc lsA (.long x :: .ref (mm_ad B E ad) :: r.map (mm_tr B E)))
        rw [hI.1.ext g1 E]
        have ht : mm_ty a b = .long := mm_tk_2 c4.symm
        exact sn_put (M1 := mm_setL M ad b x) hC hI g1 g2 c1 c2 (sn_lk hnm c3) hfin (by rw [ht]; rfl) (by rw [ht]; rfl) rfl (fun _ h => mm_setL_o M ad b x h) hI.1.2.2.2 (fun j _ => rl_V_L c4.symm j) hd (fun H1 locs1 hI1 => (hgo _ _ _ _ hk).2 _ _ _ _ _ hI1 hl)
      | 3, hk, c4 =>
        obtain ⟨x, r, rfl, hk⟩ := mm_pR_P hk
        obtain ⟨ad, r, rfl, hk⟩ := mm_pR_P hk
        obtain ⟨h2, hk⟩ := mm_b_P hk
        obtain ⟨h3, hk⟩ := mm_b_P hk
        obtain ⟨g1, g2⟩ := mm_isObj_P h2
        have h3 := Nat.le_of_ble_eq_true h3
        show W p l e R s m args below meth c H locs cells slots Q (F0 m pc lsA (.ref (mm_ad B E x) :: .ref (mm_ad B E ad) :: r.map (mm_tr B E)))
        rw [hI.1.ext g1 E, hI.1.ext h3 E]
        have ht : mm_rf (mm_ty a b) = true := by
          have h5 := mm_fo_at (cl_at c1).2.2.2.2.2.1 b c2
          simp only [Bool.and_eq_true, Bool.or_eq_true, Bool.not_eq_true'] at h5
          rcases h5.2 with h | h
          · rw [← c4] at h; cases h
          · exact h
        have hnf : narrow (mm_ty a b) (.ref (B + x)) = .ref (B + x) ∧ fits (mm_ty a b) (.ref (B + x)) = true := by
          generalize mm_ty a b = t at ht
          cases t <;> first | exact ⟨rfl, rfl⟩ | cases ht
        exact sn_put (M1 := mm_setR M ad b (some x)) hC hI g1 g2 c1 c2 (sn_lk hnm c3) hfin hnf.1 hnf.2 rfl (fun _ h => mm_setR_o M ad b _ h) (fun b2 i2 y hy => by
          have hy2 : (if b2 = ad ∧ i2 = b then some x else M.2.2.2 b2 i2) = some y := hy
          by_cases hh : b2 = ad ∧ i2 = b
          · rw [if_pos hh] at hy2; cases hy2; exact h3
          · rw [if_neg hh] at hy2; exact hI.1.2.2.2 _ _ _ hy2) (fun j _ => rl_V_R c4.symm j) hd (fun H1 locs1 hI1 => (hgo _ _ _ _ hk).2 _ _ _ _ _ hI1 hl)
      | _ + 4, hk, _ => exact hk.elim
    | [], hcx, _ => cases hcx
    | [_], hcx, _ => cases hcx
    | _ :: _ :: _ :: _, hcx, _ => cases hcx
  | getstatic n =>
    simp only [mm_cx, Bool.and_eq_true, decide_eq_true_eq] at hcx
    obtain ⟨⟨⟨hlen, h1⟩, h3⟩, hcx⟩ := hcx
    subst hlen
    split at hcx
    · have h4 := of_decide_eq_true hcx
      have e1 : mm_ad B E (mm_ext + a) = E a := by unfold mm_ad; rw [if_pos (Nat.le_add_right _ _), Nat.add_sub_cancel_left]
      refine sn_gets hC hI h1 h3 (List.mem_of_getElem? h4) hd ?_
      have h6 := (hgo _ _ _ _ hk).2 _ _ _ _ _ hI hl
      have e2 : mm_tr B E (.ref (mm_ext + a)) = .ref (E a) := congrArg Value.ref e1
      simp only [List.map_cons, e2] at h6
      exact h6
    · cases hcx
  | new n =>
    simp only [mm_cx, Bool.and_eq_true, decide_eq_true_eq] at hcx
    obtain ⟨hlen, hcx⟩ := hcx
    subst hlen
    obtain ⟨h1, hk⟩ := mm_b_P hk
    rw [Bool.and_eq_true] at h1
    have h2 := Nat.eq_of_beq_eq_true h1.1
    have h3 := Nat.le_of_ble_eq_true h1.2
    split at hcx
    · simp only [Bool.and_eq_true, mm_cL, decide_eq_true_eq] at hcx
      obtain ⟨⟨c1, c2⟩, c3⟩ := hcx
      have c1 := Nat.le_of_ble_eq_true c1
      have c3 := Nat.eq_of_beq_eq_true c3
      subst c3
      obtain ⟨⟨r1, r2⟩, h6⟩ := hgo _ _ _ _ hk
      refine sn_new hC hI c1 (sn_lk hnm c2) h2 h3 r1 r2 hd (fun H1 hI1 => ?_)
      have h7 := h6 _ _ lsA _ _ hI1 hl
      have e2 : mm_tr B E (.ref M.1.1.1) = .ref (B + M.1.1.1) := by show Value.ref (mm_ad B E M.1.1.1) = _; unfold mm_ad; rw [if_neg (by have : mm_ext = 1000000 := rfl; omega)]
      simp only [List.map_cons, e2] at h7
      exact h7
    · cases hcx
  | newarray t =>
    simp only [mm_cx, Bool.and_eq_true, decide_eq_true_eq] at hcx
    obtain ⟨⟨hlen, h4⟩, h5⟩ := hcx
    subst hlen
    subst h4
    obtain ⟨n, r, rfl, hk⟩ := mm_pI_P hk
    obtain ⟨h0, hk⟩ := mm_nif hk
    obtain ⟨h1, hk⟩ := mm_b_P hk
    rw [Bool.and_eq_true] at h1
    have h2 := Nat.eq_of_beq_eq_true h1.1
    have h3 := Nat.le_of_ble_eq_true h1.2
    obtain ⟨⟨r1, r2⟩, h6⟩ := hgo _ _ _ _ hk
    refine sn_newa hC hI h5 h0 h2 h3 r1 r2 hd (fun H1 hI1 => ?_)
    have h7 := h6 _ _ lsA _ _ hI1 hl
    have e2 : mm_tr B E (.ref M.1.1.1) = .ref (B + M.1.1.1) := by show Value.ref (mm_ad B E M.1.1.1) = _; unfold mm_ad; rw [if_neg (by have : mm_ext = 1000000 := rfl; omega)]
    simp only [List.map_cons, e2] at h7
    exact h7
  | multianewarray n dd =>
    simp only [mm_cx, Bool.and_eq_true, decide_eq_true_eq] at hcx
    obtain ⟨⟨hlen, h4⟩, hcx⟩ := hcx
    subst hlen
    subst h4
    split at hcx
    · have c2 := of_decide_eq_true hcx
      obtain ⟨k, r, rfl, hk⟩ := mm_pI_P hk
      obtain ⟨n9, r, rfl, hk⟩ := mm_pI_P hk
      obtain ⟨h0, hk⟩ := mm_nif hk
      obtain ⟨h1, hk⟩ := mm_b_P hk
      rw [Bool.and_eq_true] at h1
      have h2 := Nat.eq_of_beq_eq_true h1.1
      have h3 := Nat.le_of_ble_eq_true h1.2
      obtain ⟨⟨r1, r2⟩, h6⟩ := hgo _ _ _ _ hk
      obtain ⟨-, g2, g3, -⟩ := mm_rows_1 n9.toNatClampNeg k.toNatClampNeg (mm_new M 104 n9.toNatClampNeg n9.toNatClampNeg)
      have g4 : (mm_multi M n9.toNatClampNeg k.toNatClampNeg).1.2.1 = M.1.2.1 + 1 + n9.toNatClampNeg := g2
      have g5 : (mm_multi M n9.toNatClampNeg k.toNatClampNeg).1.2.2.1 = M.1.2.2.1 + n9.toNatClampNeg + n9.toNatClampNeg * k.toNatClampNeg := g3
      rw [g4] at r1
      rw [g5] at r2
      refine sn_multi hC hI h0 (sn_lk hnm c2) h2 h3 r1 r2 hd (fun H1 hI1 => ?_)
      have h7 := h6 _ _ lsA _ _ hI1 hl
      have e2 : mm_tr B E (.ref M.1.1.1) = .ref (B + M.1.1.1) := by show Value.ref (mm_ad B E M.1.1.1) = _; unfold mm_ad; rw [if_neg (by have : mm_ext = 1000000 := rfl; omega)]
      simp only [List.map_cons, e2] at h7
      exact h7
    · cases hcx
  | invokevirtual n =>
    obtain ⟨as, r, hk⟩ := mm_pop_P hk
    exact hot _ hk
  | invokestatic n =>
    rcases mm_b_E hk with ⟨h1, hkA⟩ | ⟨h1, hkA⟩
    · simp only [mm_cx, Bool.and_eq_true, decide_eq_true_eq] at hcx
      obtain ⟨hlen, hcx⟩ := hcx
      subst hlen
      have h1 : Nat.beq a 996 = true := h1
      rw [h1] at hcx
      simp only [cond_true] at hcx
      split at hcx
      · have c2 := of_decide_eq_true hcx
        clear hk
        obtain ⟨y, r, rfl, hk1⟩ := mm_pI_P hkA
        obtain ⟨x, r, rfl, hk2⟩ := mm_pI_P hk1
        obtain ⟨h3, hk3⟩ := mm_b_P hk2
        have h4 := sn_sum B E r (Nat.le_of_ble_eq_true h3)
        obtain ⟨⟨r1, r2⟩, h6⟩ := hgo _ _ _ _ hk3
        exact va_mmin hx hb (by rw [hC.2.2.1]; exact hl.2.1.symm) hown (hts _ (sn_lk hnm c2) rfl) (hts _ mt_min.1 rfl) (hts _ mt_min.2.1 rfl) (hts _ mt_min.2.2 rfl) hR1 (by omega) (by have := hI.2.2.1; omega) (by have := hI.2.2.2; omega) hd (h6 _ _ _ _ _ hI hl)
      · cases hcx
    · rcases mm_b_E hkA with ⟨h2, hkB⟩ | ⟨h2, hkB⟩
      · simp only [mm_cx, Bool.and_eq_true, decide_eq_true_eq] at hcx
        obtain ⟨hlen, hcx⟩ := hcx
        subst hlen
        have h1 : Nat.beq a 996 = false := h1
        have h2 : Nat.beq a 997 = true := h2
        rw [h1, h2] at hcx
        simp only [cond_true, cond_false] at hcx
        split at hcx
        · have c2 := of_decide_eq_true hcx
          clear hk hkA
          obtain ⟨y, r, rfl, hk1⟩ := mm_pI_P hkB
          obtain ⟨x, r, rfl, hk2⟩ := mm_pI_P hk1
          obtain ⟨h3, hk3⟩ := mm_b_P hk2
          have h4 := sn_sum B E r (Nat.le_of_ble_eq_true h3)
          obtain ⟨⟨r1, r2⟩, h6⟩ := hgo _ _ _ _ hk3
          exact va_mmax hx hb (by rw [hC.2.2.1]; exact hl.2.1.symm) hown (hts _ (sn_lk hnm c2) rfl) (hts _ mt_max.1 rfl) (hts _ mt_max.2.1 rfl) (hts _ mt_max.2.2 rfl) hR1 (by omega) (by have := hI.2.2.1; omega) (by have := hI.2.2.2; omega) hd (h6 _ _ _ _ _ hI hl)
        · cases hcx
      · obtain ⟨as, r, hk⟩ := mm_pop_P hkB
        exact hot _ hk
  | invokespecial n =>
    rcases mm_b_E hk with ⟨h1, hk⟩ | ⟨h1, hk⟩
    · simp only [mm_cx, Bool.and_eq_true, decide_eq_true_eq] at hcx
      obtain ⟨hlen, hcx⟩ := hcx
      subst hlen
      have h1 : Nat.beq a 999 = true := h1
      rw [h1] at hcx
      simp only [cond_true] at hcx
      split at hcx
      · have c2 := of_decide_eq_true hcx
        obtain ⟨ad, r, rfl, hk⟩ := mm_pR_P hk
        obtain ⟨rfl, hk⟩ := mm_e_P hk
        refine W.objInit hx hb hown (hts _ (sn_lk hnm c2) rfl) (hts _ oi_1 rfl) (hts _ oi_2 rfl) (g := F0 m pc lsA [.ref (mm_ad B E ad)]) rfl (by rw [hC.2.2.1]; exact hl.2.1) (a := mm_ad B E ad) (rest := []) rfl hd hR1 (by show 2 * 0 + 0 + 12 ≤ R.locals; omega) ?_
        exact (hgo _ _ _ _ hk).2 _ _ _ _ _ hI hl
      · cases hcx
    · obtain ⟨as, r, hk⟩ := mm_pop_P hk
      exact hot _ hk
  | ireturn =>
    obtain ⟨x, r, rfl, hk⟩ := mm_pI_P hk
    obtain ⟨rfl, hk⟩ := mm_e_P hk
    match a, hk with
    | 0, hk => exact hot _ hk
    | _ + 1, hk => exact hot _ (mm_pif hk).2
  | lreturn =>
    obtain ⟨x, r, rfl, hk⟩ := mm_pL_P hk
    obtain ⟨rfl, hk⟩ := mm_e_P hk
    exact hot _ hk
  | return_ =>
    obtain ⟨rfl, hk⟩ := mm_e_P hk
    exact hot _ hk
  | _ => exact hk.elim
end SNS
end
section
/-! what holds of each method but the law -/
noncomputable def me_ok (y : Nat) : Prop := (∀ w ∈ mm_mw y, w ∈ lw_tbl) ∧ (mm_y y).cls = mm_on (mm_ow y) ∧ (mm_ii y = true → (mm_y y).name = "<init>") ∧ (parseMethodDescriptor (mm_y y).desc).map (fun d => d.parameters.length) = some (mm_pn y)
theorem pd_0 : (parseMethodDescriptor "()V").map (fun d => d.parameters.length) = some 0 := by decide +kernel
theorem me_1 : me_ok 1 := ⟨mw_1, rfl, (fun _ => rfl), pd_0⟩
theorem pd_1 : (parseMethodDescriptor "(LNotchedCards$Plan;LNotchedCards$Known;II)I").map (fun d => d.parameters.length) = some 4 := by decide +kernel
theorem me_2 : me_ok 2 := ⟨mw_2, rfl, (fun h => nomatch h), pd_1⟩
theorem pd_2 : (parseMethodDescriptor "(LNotchedCards$Known;II)I").map (fun d => d.parameters.length) = some 3 := by decide +kernel
theorem me_3 : me_ok 3 := ⟨mw_3, rfl, (fun h => nomatch h), pd_2⟩
theorem me_4 : me_ok 4 := ⟨mw_4, rfl, (fun h => nomatch h), pd_1⟩
theorem pd_3 : (parseMethodDescriptor "(IIIII)V").map (fun d => d.parameters.length) = some 5 := by decide +kernel
theorem me_5 : me_ok 5 := ⟨mw_5, rfl, (fun h => nomatch h), pd_3⟩
theorem pd_4 : (parseMethodDescriptor "(III)V").map (fun d => d.parameters.length) = some 3 := by decide +kernel
theorem me_6 : me_ok 6 := ⟨mw_6, rfl, (fun h => nomatch h), pd_4⟩
theorem me_7 : me_ok 7 := ⟨mw_7, rfl, (fun _ => rfl), pd_0⟩
theorem pd_5 : (parseMethodDescriptor "(LNotchedCards$Plan;LNotchedCards$Notes;I)V").map (fun d => d.parameters.length) = some 3 := by decide +kernel
theorem me_8 : me_ok 8 := ⟨mw_8, rfl, (fun h => nomatch h), pd_5⟩
theorem pd_6 : (parseMethodDescriptor "(LNotchedCards$Plan;)V").map (fun d => d.parameters.length) = some 1 := by decide +kernel
theorem me_9 : me_ok 9 := ⟨mw_9, rfl, (fun h => nomatch h), pd_6⟩
theorem pd_7 : (parseMethodDescriptor "(LNotchedCards$Notes;I)V").map (fun d => d.parameters.length) = some 2 := by decide +kernel
theorem me_10 : me_ok 10 := ⟨mw_10, rfl, (fun h => nomatch h), pd_7⟩
theorem me_11 : me_ok 11 := ⟨mw_11, rfl, (fun h => nomatch h), pd_5⟩
theorem pd_8 : (parseMethodDescriptor "(II)I").map (fun d => d.parameters.length) = some 2 := by decide +kernel
theorem me_12 : me_ok 12 := ⟨mw_12, rfl, (fun h => nomatch h), pd_8⟩
theorem pd_9 : (parseMethodDescriptor "(II)Z").map (fun d => d.parameters.length) = some 2 := by decide +kernel
theorem me_13 : me_ok 13 := ⟨mw_13, rfl, (fun h => nomatch h), pd_9⟩
theorem pd_10 : (parseMethodDescriptor "(IJ)Z").map (fun d => d.parameters.length) = some 2 := by decide +kernel
theorem me_14 : me_ok 14 := ⟨mw_14, rfl, (fun h => nomatch h), pd_10⟩
theorem me_15 : me_ok 15 := ⟨mw_15, rfl, (fun _ => rfl), pd_0⟩
theorem pd_11 : (parseMethodDescriptor "(LNotchedCards$Plan;LNotchedCards$Known;III)V").map (fun d => d.parameters.length) = some 5 := by decide +kernel
theorem me_16 : me_ok 16 := ⟨mw_16, rfl, (fun h => nomatch h), pd_11⟩
theorem pd_12 : (parseMethodDescriptor "(IIJ)V").map (fun d => d.parameters.length) = some 3 := by decide +kernel
theorem me_17 : me_ok 17 := ⟨mw_17, rfl, (fun h => nomatch h), pd_12⟩
theorem me_18 : me_ok 18 := ⟨mw_18, rfl, (fun h => nomatch h), pd_11⟩
theorem me_19 : me_ok 19 := ⟨mw_19, rfl, (fun _ => rfl), pd_0⟩
theorem pd_13 : (parseMethodDescriptor "(IIII)I").map (fun d => d.parameters.length) = some 4 := by decide +kernel
theorem me_20 : me_ok 20 := ⟨mw_20, rfl, (fun h => nomatch h), pd_13⟩
theorem me_21 : me_ok 21 := ⟨mw_21, rfl, (fun _ => rfl), pd_0⟩
theorem me_22 : me_ok 22 := ⟨mw_22, rfl, (fun h => nomatch h), pd_0⟩
theorem pd_14 : (parseMethodDescriptor "(II)V").map (fun d => d.parameters.length) = some 2 := by decide +kernel
theorem me_23 : me_ok 23 := ⟨mw_23, rfl, (fun h => nomatch h), pd_14⟩
theorem pd_15 : (parseMethodDescriptor "(LNotchedCards$Known;I)V").map (fun d => d.parameters.length) = some 2 := by decide +kernel
theorem me_24 : me_ok 24 := ⟨mw_24, rfl, (fun h => nomatch h), pd_15⟩
theorem pd_16 : (parseMethodDescriptor "(JI)J").map (fun d => d.parameters.length) = some 2 := by decide +kernel
theorem me_25 : me_ok 25 := ⟨mw_25, rfl, (fun h => nomatch h), pd_16⟩
theorem me_26 : me_ok 26 := ⟨mw_26, rfl, (fun h => nomatch h), pd_10⟩
theorem pd_17 : (parseMethodDescriptor "(IJ)I").map (fun d => d.parameters.length) = some 2 := by decide +kernel
theorem me_27 : me_ok 27 := ⟨mw_27, rfl, (fun h => nomatch h), pd_17⟩
theorem pd_18 : (parseMethodDescriptor "(IIIJ)V").map (fun d => d.parameters.length) = some 4 := by decide +kernel
theorem me_28 : me_ok 28 := ⟨mw_28, rfl, (fun h => nomatch h), pd_18⟩
theorem me_29 : me_ok 29 := ⟨mw_29, rfl, (fun _ => rfl), pd_0⟩
theorem pd_19 : (parseMethodDescriptor "(LNotchedCards$Text;)Z").map (fun d => d.parameters.length) = some 1 := by decide +kernel
theorem me_30 : me_ok 30 := ⟨mw_30, rfl, (fun h => nomatch h), pd_19⟩
theorem me_31 : me_ok 31 := ⟨mw_31, rfl, (fun h => nomatch h), pd_19⟩
theorem me_32 : me_ok 32 := ⟨mw_32, rfl, (fun h => nomatch h), pd_19⟩
theorem me_33 : me_ok 33 := ⟨mw_33, rfl, (fun h => nomatch h), pd_19⟩
theorem me_34 : me_ok 34 := ⟨mw_34, rfl, (fun h => nomatch h), pd_19⟩
theorem pd_20 : (parseMethodDescriptor "(LNotchedCards$Text;)I").map (fun d => d.parameters.length) = some 1 := by decide +kernel
theorem me_35 : me_ok 35 := ⟨mw_35, rfl, (fun h => nomatch h), pd_20⟩
theorem pd_21 : (parseMethodDescriptor "(LNotchedCards$Text;I)Z").map (fun d => d.parameters.length) = some 2 := by decide +kernel
theorem me_36 : me_ok 36 := ⟨mw_36, rfl, (fun h => nomatch h), pd_21⟩
theorem me_37 : me_ok 37 := ⟨mw_37, rfl, (fun h => nomatch h), pd_21⟩
theorem me_38 : me_ok 38 := ⟨mw_38, rfl, (fun h => nomatch h), pd_19⟩
theorem pd_22 : (parseMethodDescriptor "(LNotchedCards$Text;II)Z").map (fun d => d.parameters.length) = some 3 := by decide +kernel
theorem me_39 : me_ok 39 := ⟨mw_39, rfl, (fun h => nomatch h), pd_22⟩
theorem me_40 : me_ok 40 := ⟨mw_40, rfl, (fun h => nomatch h), pd_4⟩
theorem me_41 : me_ok 41 := ⟨mw_41, rfl, (fun h => nomatch h), pd_19⟩
theorem me_42 : me_ok 42 := ⟨mw_42, rfl, (fun h => nomatch h), pd_21⟩
theorem pd_23 : (parseMethodDescriptor "(I)Z").map (fun d => d.parameters.length) = some 1 := by decide +kernel
theorem me_43 : me_ok 43 := ⟨mw_43, rfl, (fun h => nomatch h), pd_23⟩
theorem me_44 : me_ok 44 := ⟨mw_44, rfl, (fun h => nomatch h), pd_23⟩
theorem me_45 : me_ok 45 := ⟨mw_45, rfl, (fun h => nomatch h), pd_23⟩
theorem me_46 : me_ok 46 := ⟨mw_46, rfl, (fun h => nomatch h), pd_9⟩
theorem pd_24 : (parseMethodDescriptor "(I)I").map (fun d => d.parameters.length) = some 1 := by decide +kernel
theorem me_47 : me_ok 47 := ⟨mw_47, rfl, (fun h => nomatch h), pd_24⟩
theorem pd_25 : (parseMethodDescriptor "(I)J").map (fun d => d.parameters.length) = some 1 := by decide +kernel
theorem me_48 : me_ok 48 := ⟨mw_48, rfl, (fun h => nomatch h), pd_25⟩
theorem pd_26 : (parseMethodDescriptor "(II)J").map (fun d => d.parameters.length) = some 2 := by decide +kernel
theorem me_49 : me_ok 49 := ⟨mw_49, rfl, (fun h => nomatch h), pd_26⟩
theorem me_50 : me_ok 50 := ⟨mw_50, rfl, (fun h => nomatch h), pd_9⟩
theorem me_51 : me_ok 51 := ⟨mw_51, rfl, (fun h => nomatch h), pd_24⟩
theorem me_52 : me_ok 52 := ⟨mw_52, rfl, (fun h => nomatch h), pd_24⟩
theorem me_53 : me_ok 53 := ⟨mw_53, rfl, (fun h => nomatch h), pd_24⟩
theorem pd_27 : (parseMethodDescriptor "([III)I").map (fun d => d.parameters.length) = some 3 := by decide +kernel
theorem me_54 : me_ok 54 := ⟨mw_54, rfl, (fun h => nomatch h), pd_27⟩
theorem me_55 : me_ok 55 := ⟨mw_55, rfl, (fun _ => rfl), pd_0⟩
theorem me_56 : me_ok 56 := ⟨mw_56, rfl, (fun h => nomatch h), pd_0⟩
theorem pd_28 : (parseMethodDescriptor "(LNotchedCards$Text;LNotchedCards$Plan;)Z").map (fun d => d.parameters.length) = some 2 := by decide +kernel
theorem me_57 : me_ok 57 := ⟨mw_57, rfl, (fun h => nomatch h), pd_28⟩
theorem pd_29 : (parseMethodDescriptor "(LNotchedCards$Text;LNotchedCards$Plan;I)Z").map (fun d => d.parameters.length) = some 3 := by decide +kernel
theorem me_58 : me_ok 58 := ⟨mw_58, rfl, (fun h => nomatch h), pd_29⟩
theorem me_59 : me_ok 59 := ⟨mw_59, rfl, (fun h => nomatch h), pd_29⟩
theorem me_60 : me_ok 60 := ⟨mw_60, rfl, (fun h => nomatch h), pd_29⟩
theorem me_61 : me_ok 61 := ⟨mw_61, rfl, (fun h => nomatch h), pd_29⟩
theorem me_62 : me_ok 62 := ⟨mw_62, rfl, (fun h => nomatch h), pd_28⟩
theorem me_63 : me_ok 63 := ⟨mw_63, rfl, (fun h => nomatch h), pd_19⟩
theorem me_64 : me_ok 64 := ⟨mw_64, rfl, (fun h => nomatch h), pd_4⟩
theorem pd_30 : (parseMethodDescriptor "(LNotchedCards$Plan;LNotchedCards$Known;IZ)I").map (fun d => d.parameters.length) = some 4 := by decide +kernel
theorem me_65 : me_ok 65 := ⟨mw_65, rfl, (fun h => nomatch h), pd_30⟩
theorem me_66 : me_ok 66 := ⟨mw_66, rfl, (fun h => nomatch h), pd_1⟩
theorem me_67 : me_ok 67 := ⟨mw_67, rfl, (fun h => nomatch h), pd_2⟩
theorem me_68 : me_ok 68 := ⟨mw_68, rfl, (fun _ => rfl), pd_0⟩
theorem pd_31 : (parseMethodDescriptor "(LNotchedCards$Packs;ILNotchedCards$Plan;LNotchedCards$Known;I)V").map (fun d => d.parameters.length) = some 5 := by decide +kernel
theorem me_69 : me_ok 69 := ⟨mw_69, rfl, (fun h => nomatch h), pd_31⟩
theorem pd_32 : (parseMethodDescriptor "()I").map (fun d => d.parameters.length) = some 0 := by decide +kernel
theorem me_70 : me_ok 70 := ⟨mw_70, rfl, (fun h => nomatch h), pd_32⟩
theorem pd_33 : (parseMethodDescriptor "()Z").map (fun d => d.parameters.length) = some 0 := by decide +kernel
theorem me_71 : me_ok 71 := ⟨mw_71, rfl, (fun h => nomatch h), pd_33⟩
theorem me_72 : me_ok 72 := ⟨mw_72, rfl, (fun h => nomatch h), pd_24⟩
theorem me_73 : me_ok 73 := ⟨mw_73, rfl, (fun h => nomatch h), pd_9⟩
theorem me_74 : me_ok 74 := ⟨mw_74, rfl, (fun h => nomatch h), pd_23⟩
theorem me_75 : me_ok 75 := ⟨mw_75, rfl, (fun h => nomatch h), pd_24⟩
theorem me_76 : me_ok 76 := ⟨mw_76, rfl, (fun _ => rfl), pd_0⟩
theorem pd_34 : (parseMethodDescriptor "(I)V").map (fun d => d.parameters.length) = some 1 := by decide +kernel
theorem me_77 : me_ok 77 := ⟨mw_77, rfl, (fun h => nomatch h), pd_34⟩
theorem me_78 : me_ok 78 := ⟨mw_78, rfl, (fun h => nomatch h), pd_23⟩
theorem me_79 : me_ok 79 := ⟨mw_79, rfl, (fun h => nomatch h), pd_34⟩
theorem me_80 : me_ok 80 := ⟨mw_80, rfl, (fun h => nomatch h), pd_8⟩
theorem me_81 : me_ok 81 := ⟨mw_81, rfl, (fun h => nomatch h), pd_8⟩
theorem me_82 : me_ok 82 := ⟨mw_82, rfl, (fun h => nomatch h), pd_4⟩
theorem me_83 : me_ok 83 := ⟨mw_83, rfl, (fun h => nomatch h), pd_0⟩
theorem me_84 : me_ok 84 := ⟨mw_84, rfl, (fun h => nomatch h), pd_23⟩
theorem me_85 : me_ok 85 := ⟨mw_85, rfl, (fun h => nomatch h), pd_9⟩
theorem me_86 : me_ok 86 := ⟨mw_86, rfl, (fun h => nomatch h), pd_23⟩
theorem me_87 : me_ok 87 := ⟨mw_87, rfl, (fun h => nomatch h), pd_33⟩
theorem me_88 : me_ok 88 := ⟨mw_88, rfl, (fun h => nomatch h), pd_9⟩
theorem me_89 : me_ok 89 := ⟨mw_89, rfl, (fun h => nomatch h), pd_23⟩
theorem pd_35 : (parseMethodDescriptor "(C)Z").map (fun d => d.parameters.length) = some 1 := by decide +kernel
theorem me_90 : me_ok 90 := ⟨mw_90, rfl, (fun h => nomatch h), pd_35⟩
theorem me_91 : me_ok 91 := ⟨mw_91, rfl, (fun h => nomatch h), pd_24⟩
theorem me_92 : me_ok 92 := ⟨mw_92, rfl, (fun h => nomatch h), pd_23⟩
theorem me_93 : me_ok 93 := ⟨mw_93, rfl, (fun h => nomatch h), pd_23⟩
theorem me_94 : me_ok 94 := ⟨mw_94, rfl, (fun h => nomatch h), pd_23⟩
theorem me_95 : me_ok 95 := ⟨mw_95, rfl, (fun h => nomatch h), pd_23⟩
theorem me_96 : me_ok 96 := ⟨mw_96, rfl, (fun h => nomatch h), pd_23⟩
theorem me_97 : me_ok 97 := ⟨mw_97, rfl, (fun _ => rfl), pd_0⟩
theorem pd_36 : (parseMethodDescriptor "(LNotchedCards$Text;LNotchedCards$Plan;LNotchedCards$Known;)Z").map (fun d => d.parameters.length) = some 3 := by decide +kernel
theorem me_98 : me_ok 98 := ⟨mw_98, rfl, (fun h => nomatch h), pd_36⟩
theorem pd_37 : (parseMethodDescriptor "(LNotchedCards$Text;LNotchedCards$Plan;LNotchedCards$Known;I)Z").map (fun d => d.parameters.length) = some 4 := by decide +kernel
theorem me_99 : me_ok 99 := ⟨mw_99, rfl, (fun h => nomatch h), pd_37⟩
theorem me_100 : me_ok 100 := ⟨mw_100, rfl, (fun h => nomatch h), pd_37⟩
theorem me_101 : me_ok 101 := ⟨mw_101, rfl, (fun h => nomatch h), pd_37⟩
theorem pd_38 : (parseMethodDescriptor "(LNotchedCards$Text;[II)Z").map (fun d => d.parameters.length) = some 3 := by decide +kernel
theorem me_102 : me_ok 102 := ⟨mw_102, rfl, (fun h => nomatch h), pd_38⟩
theorem me_103 : me_ok 103 := ⟨mw_103, rfl, (fun h => nomatch h), pd_37⟩
theorem me_104 : me_ok 104 := ⟨mw_104, rfl, (fun h => nomatch h), pd_21⟩
theorem pd_39 : (parseMethodDescriptor "(LNotchedCards$Text;LNotchedCards$Plan;LNotchedCards$Known;II)Z").map (fun d => d.parameters.length) = some 5 := by decide +kernel
theorem me_105 : me_ok 105 := ⟨mw_105, rfl, (fun h => nomatch h), pd_39⟩
theorem pd_40 : (parseMethodDescriptor "(LNotchedCards$Packs;)Z").map (fun d => d.parameters.length) = some 1 := by decide +kernel
theorem me_106 : me_ok 106 := ⟨mw_106, rfl, (fun h => nomatch h), pd_40⟩
theorem pd_41 : (parseMethodDescriptor "(LNotchedCards$Packs;III)V").map (fun d => d.parameters.length) = some 4 := by decide +kernel
theorem me_107 : me_ok 107 := ⟨mw_107, rfl, (fun h => nomatch h), pd_41⟩
theorem pd_42 : (parseMethodDescriptor "(LNotchedCards$Packs;II)V").map (fun d => d.parameters.length) = some 3 := by decide +kernel
theorem me_108 : me_ok 108 := ⟨mw_108, rfl, (fun h => nomatch h), pd_42⟩
theorem me_109 : me_ok 109 := ⟨mw_109, rfl, (fun _ => rfl), pd_0⟩
theorem pd_43 : (parseMethodDescriptor "(IIIII)I").map (fun d => d.parameters.length) = some 5 := by decide +kernel
theorem me_110 : me_ok 110 := ⟨mw_110, rfl, (fun h => nomatch h), pd_43⟩
theorem me_111 : me_ok 111 := ⟨mw_111, rfl, (fun h => nomatch h), pd_24⟩
theorem me_112 : me_ok 112 := ⟨mw_112, rfl, (fun h => nomatch h), pd_24⟩
theorem me_113 : me_ok 113 := ⟨mw_113, rfl, (fun h => nomatch h), pd_24⟩
theorem me_114 : me_ok 114 := ⟨mw_114, rfl, (fun h => nomatch h), pd_24⟩
theorem me_115 : me_ok 115 := ⟨mw_115, rfl, (fun h => nomatch h), pd_8⟩
theorem me_116 : me_ok 116 := ⟨mw_116, rfl, (fun h => nomatch h), pd_26⟩
theorem me_117 : me_ok 117 := ⟨mw_117, rfl, (fun h => nomatch h), pd_26⟩
theorem me_118 : me_ok 118 := ⟨mw_118, rfl, (fun h => nomatch h), pd_32⟩
theorem pd_44 : (parseMethodDescriptor "(III)I").map (fun d => d.parameters.length) = some 3 := by decide +kernel
theorem me_119 : me_ok 119 := ⟨mw_119, rfl, (fun h => nomatch h), pd_44⟩
theorem me_120 : me_ok 120 := ⟨mw_120, rfl, (fun h => nomatch h), pd_8⟩
theorem pd_45 : (parseMethodDescriptor "(IIZ)I").map (fun d => d.parameters.length) = some 3 := by decide +kernel
theorem me_121 : me_ok 121 := ⟨mw_121, rfl, (fun h => nomatch h), pd_45⟩
theorem me_122 : me_ok 122 := ⟨mw_122, rfl, (fun h => nomatch h), pd_8⟩
theorem me_123 : me_ok 123 := ⟨mw_123, rfl, (fun h => nomatch h), pd_24⟩
theorem me_124 : me_ok 124 := ⟨mw_124, rfl, (fun h => nomatch h), pd_26⟩
theorem me_125 : me_ok 125 := ⟨mw_125, rfl, (fun h => nomatch h), pd_44⟩
theorem me_126 : me_ok 126 := ⟨mw_126, rfl, (fun h => nomatch h), pd_23⟩
theorem me_127 : me_ok 127 := ⟨mw_127, rfl, (fun h => nomatch h), pd_32⟩
theorem me_128 : me_ok 128 := ⟨mw_128, rfl, (fun h => nomatch h), pd_8⟩
theorem me_129 : me_ok 129 := ⟨mw_129, rfl, (fun h => nomatch h), pd_17⟩
theorem me_130 : me_ok 130 := ⟨mw_130, rfl, (fun h => nomatch h), pd_32⟩
theorem me_131 : me_ok 131 := ⟨mw_131, rfl, (fun h => nomatch h), pd_8⟩
theorem pd_46 : (parseMethodDescriptor "(III)J").map (fun d => d.parameters.length) = some 3 := by decide +kernel
theorem me_132 : me_ok 132 := ⟨mw_132, rfl, (fun h => nomatch h), pd_46⟩
theorem me_133 : me_ok 133 := ⟨mw_133, rfl, (fun h => nomatch h), pd_8⟩
theorem me_134 : me_ok 134 := ⟨mw_134, rfl, (fun h => nomatch h), pd_8⟩
theorem me_135 : me_ok 135 := ⟨mw_135, rfl, (fun h => nomatch h), pd_43⟩
theorem me_136 : me_ok 136 := ⟨mw_136, rfl, (fun h => nomatch h), pd_8⟩
theorem me_137 : me_ok 137 := ⟨mw_137, rfl, (fun h => nomatch h), pd_44⟩
theorem me_138 : me_ok 138 := ⟨mw_138, rfl, (fun h => nomatch h), pd_24⟩
theorem me_139 : me_ok 139 := ⟨mw_139, rfl, (fun h => nomatch h), pd_23⟩
theorem me_140 : me_ok 140 := ⟨mw_140, rfl, (fun h => nomatch h), pd_23⟩
theorem me_141 : me_ok 141 := ⟨mw_141, rfl, (fun h => nomatch h), pd_34⟩
theorem me_142 : me_ok 142 := ⟨mw_142, rfl, (fun h => nomatch h), pd_0⟩
theorem me_143 : me_ok 143 := ⟨mw_143, rfl, (fun h => nomatch h), pd_23⟩
theorem me_144 : me_ok 144 := ⟨mw_144, rfl, (fun h => nomatch h), pd_26⟩
theorem me_145 : me_ok 145 := ⟨mw_145, rfl, (fun h => nomatch h), pd_26⟩
theorem me_146 : me_ok 146 := ⟨mw_146, rfl, (fun _ => rfl), pd_0⟩
theorem me_147 : me_ok 147 := ⟨mw_147, rfl, (fun h => nomatch h), pd_43⟩
theorem pd_47 : (parseMethodDescriptor "(III)Z").map (fun d => d.parameters.length) = some 3 := by decide +kernel
theorem me_148 : me_ok 148 := ⟨mw_148, rfl, (fun h => nomatch h), pd_47⟩
theorem pd_48 : (parseMethodDescriptor "(JI)Z").map (fun d => d.parameters.length) = some 2 := by decide +kernel
theorem me_149 : me_ok 149 := ⟨mw_149, rfl, (fun h => nomatch h), pd_48⟩
theorem pd_49 : (parseMethodDescriptor "(J)I").map (fun d => d.parameters.length) = some 1 := by decide +kernel
theorem me_150 : me_ok 150 := ⟨mw_150, rfl, (fun h => nomatch h), pd_49⟩
theorem me_151 : me_ok 151 := ⟨mw_151, rfl, (fun h => nomatch h), pd_23⟩
theorem me_152 : me_ok 152 := ⟨mw_152, rfl, (fun h => nomatch h), pd_8⟩
theorem me_153 : me_ok 153 := ⟨mw_153, rfl, (fun h => nomatch h), pd_23⟩
theorem me_154 : me_ok 154 := ⟨mw_154, rfl, (fun h => nomatch h), pd_23⟩
theorem me_155 : me_ok 155 := ⟨mw_155, rfl, (fun h => nomatch h), pd_0⟩
theorem me_156 : me_ok 156 := ⟨mw_156, rfl, (fun h => nomatch h), pd_8⟩
theorem me_157 : me_ok 157 := ⟨mw_157, rfl, (fun h => nomatch h), pd_23⟩
theorem me_158 : me_ok 158 := ⟨mw_158, rfl, (fun h => nomatch h), pd_23⟩
theorem me_159 : me_ok 159 := ⟨mw_159, rfl, (fun h => nomatch h), pd_23⟩
theorem me_160 : me_ok 160 := ⟨mw_160, rfl, (fun h => nomatch h), pd_23⟩
theorem me_161 : me_ok 161 := ⟨mw_161, rfl, (fun h => nomatch h), pd_9⟩
theorem me_162 : me_ok 162 := ⟨mw_162, rfl, (fun h => nomatch h), pd_23⟩
theorem me_163 : me_ok 163 := ⟨mw_163, rfl, (fun h => nomatch h), pd_0⟩
theorem me_164 : me_ok 164 := ⟨mw_164, rfl, (fun h => nomatch h), pd_0⟩
theorem me_165 : me_ok 165 := ⟨mw_165, rfl, (fun h => nomatch h), pd_24⟩
theorem me_166 : me_ok 166 := ⟨mw_166, rfl, (fun h => nomatch h), pd_23⟩
theorem me_167 : me_ok 167 := ⟨mw_167, rfl, (fun h => nomatch h), pd_26⟩
theorem me_168 : me_ok 168 := ⟨mw_168, rfl, (fun h => nomatch h), pd_33⟩
theorem me_169 : me_ok 169 := ⟨mw_169, rfl, (fun h => nomatch h), pd_33⟩
theorem me_170 : me_ok 170 := ⟨mw_170, rfl, (fun h => nomatch h), pd_33⟩
theorem pd_50 : (parseMethodDescriptor "(Z)Z").map (fun d => d.parameters.length) = some 1 := by decide +kernel
theorem me_171 : me_ok 171 := ⟨mw_171, rfl, (fun h => nomatch h), pd_50⟩
theorem me_172 : me_ok 172 := ⟨mw_172, rfl, (fun h => nomatch h), pd_24⟩
theorem me_173 : me_ok 173 := ⟨mw_173, rfl, (fun h => nomatch h), pd_24⟩
theorem me_174 : me_ok 174 := ⟨mw_174, rfl, (fun h => nomatch h), pd_24⟩
theorem me_175 : me_ok 175 := ⟨mw_175, rfl, (fun h => nomatch h), pd_24⟩
theorem me_176 : me_ok 176 := ⟨mw_176, rfl, (fun h => nomatch h), pd_8⟩
theorem me_177 : me_ok 177 := ⟨mw_177, rfl, (fun h => nomatch h), pd_23⟩
theorem me_178 : me_ok 178 := ⟨mw_178, rfl, (fun h => nomatch h), pd_23⟩
theorem me_179 : me_ok 179 := ⟨mw_179, rfl, (fun h => nomatch h), pd_23⟩
theorem me_180 : me_ok 180 := ⟨mw_180, rfl, (fun h => nomatch h), pd_24⟩
theorem me_181 : me_ok 181 := ⟨mw_181, rfl, (fun h => nomatch h), pd_8⟩
theorem me_182 : me_ok 182 := ⟨mw_182, rfl, (fun h => nomatch h), pd_26⟩
theorem me_183 : me_ok 183 := ⟨mw_183, rfl, (fun h => nomatch h), pd_9⟩
theorem me_184 : me_ok 184 := ⟨mw_184, rfl, (fun h => nomatch h), pd_26⟩
theorem me_185 : me_ok 185 := ⟨mw_185, rfl, (fun h => nomatch h), pd_23⟩
theorem me_186 : me_ok 186 := ⟨mw_186, rfl, (fun h => nomatch h), pd_23⟩
theorem me_187 : me_ok 187 := ⟨mw_187, rfl, (fun h => nomatch h), pd_26⟩
theorem me_188 : me_ok 188 := ⟨mw_188, rfl, (fun h => nomatch h), pd_34⟩
theorem me_189 : me_ok 189 := ⟨mw_189, rfl, (fun h => nomatch h), pd_34⟩
theorem me_190 : me_ok 190 := ⟨mw_190, rfl, (fun h => nomatch h), pd_13⟩
theorem me_191 : me_ok 191 := ⟨mw_191, rfl, (fun h => nomatch h), pd_26⟩
theorem me_192 : me_ok 192 := ⟨mw_192, rfl, (fun h => nomatch h), pd_32⟩
theorem me_193 : me_ok 193 := ⟨mw_193, rfl, (fun h => nomatch h), pd_44⟩
theorem me_194 : me_ok 194 := ⟨mw_194, rfl, (fun h => nomatch h), pd_8⟩
theorem me_195 : me_ok 195 := ⟨mw_195, rfl, (fun h => nomatch h), pd_45⟩
theorem me_196 : me_ok 196 := ⟨mw_196, rfl, (fun h => nomatch h), pd_24⟩
theorem me_197 : me_ok 197 := ⟨mw_197, rfl, (fun h => nomatch h), pd_8⟩
theorem me_198 : me_ok 198 := ⟨mw_198, rfl, (fun h => nomatch h), pd_24⟩
theorem me_199 : me_ok 199 := ⟨mw_199, rfl, (fun h => nomatch h), pd_26⟩
theorem me_200 : me_ok 200 := ⟨mw_200, rfl, (fun h => nomatch h), pd_24⟩
theorem me_201 : me_ok 201 := ⟨mw_201, rfl, (fun h => nomatch h), pd_44⟩
theorem me_202 : me_ok 202 := ⟨mw_202, rfl, (fun h => nomatch h), pd_23⟩
theorem me_203 : me_ok 203 := ⟨mw_203, rfl, (fun h => nomatch h), pd_32⟩
theorem me_204 : me_ok 204 := ⟨mw_204, rfl, (fun h => nomatch h), pd_23⟩
theorem me_205 : me_ok 205 := ⟨mw_205, rfl, (fun h => nomatch h), pd_8⟩
theorem me_206 : me_ok 206 := ⟨mw_206, rfl, (fun h => nomatch h), pd_10⟩
theorem me_207 : me_ok 207 := ⟨mw_207, rfl, (fun h => nomatch h), pd_17⟩
theorem me_208 : me_ok 208 := ⟨mw_208, rfl, (fun h => nomatch h), pd_32⟩
theorem me_209 : me_ok 209 := ⟨mw_209, rfl, (fun h => nomatch h), pd_14⟩
theorem me_210 : me_ok 210 := ⟨mw_210, rfl, (fun h => nomatch h), pd_32⟩
theorem me_211 : me_ok 211 := ⟨mw_211, rfl, (fun h => nomatch h), pd_23⟩
theorem me_212 : me_ok 212 := ⟨mw_212, rfl, (fun h => nomatch h), pd_23⟩
theorem me_213 : me_ok 213 := ⟨mw_213, rfl, (fun h => nomatch h), pd_23⟩
theorem me_214 : me_ok 214 := ⟨mw_214, rfl, (fun h => nomatch h), pd_33⟩
theorem me_215 : me_ok 215 := ⟨mw_215, rfl, (fun h => nomatch h), pd_34⟩
theorem me_216 : me_ok 216 := ⟨mw_216, rfl, (fun h => nomatch h), pd_34⟩
theorem me_217 : me_ok 217 := ⟨mw_217, rfl, (fun h => nomatch h), pd_32⟩
theorem me_218 : me_ok 218 := ⟨mw_218, rfl, (fun h => nomatch h), pd_24⟩
theorem me_219 : me_ok 219 := ⟨mw_219, rfl, (fun h => nomatch h), pd_24⟩
theorem me_220 : me_ok 220 := ⟨mw_220, rfl, (fun h => nomatch h), pd_4⟩
theorem me_221 : me_ok 221 := ⟨mw_221, rfl, (fun h => nomatch h), pd_32⟩
theorem me_222 : me_ok 222 := ⟨mw_222, rfl, (fun h => nomatch h), pd_34⟩
theorem me_223 : me_ok 223 := ⟨mw_223, rfl, (fun h => nomatch h), pd_33⟩
theorem me_224 : me_ok 224 := ⟨mw_224, rfl, (fun h => nomatch h), pd_33⟩
theorem me_225 : me_ok 225 := ⟨mw_225, rfl, (fun h => nomatch h), pd_33⟩
theorem me_226 : me_ok 226 := ⟨mw_226, rfl, (fun h => nomatch h), pd_24⟩
theorem pd_51 : (parseMethodDescriptor "(IZ)Z").map (fun d => d.parameters.length) = some 2 := by decide +kernel
theorem me_227 : me_ok 227 := ⟨mw_227, rfl, (fun h => nomatch h), pd_51⟩
theorem me_228 : me_ok 228 := ⟨mw_228, rfl, (fun h => nomatch h), pd_8⟩
theorem me_229 : me_ok 229 := ⟨mw_229, rfl, (fun h => nomatch h), pd_26⟩
theorem me_230 : me_ok 230 := ⟨mw_230, rfl, (fun h => nomatch h), pd_9⟩
theorem me_231 : me_ok 231 := ⟨mw_231, rfl, (fun h => nomatch h), pd_26⟩
theorem me_232 : me_ok 232 := ⟨mw_232, rfl, (fun h => nomatch h), pd_46⟩
theorem me_233 : me_ok 233 := ⟨mw_233, rfl, (fun h => nomatch h), pd_17⟩
theorem me_234 : me_ok 234 := ⟨mw_234, rfl, (fun h => nomatch h), pd_8⟩
theorem me_235 : me_ok 235 := ⟨mw_235, rfl, (fun h => nomatch h), pd_17⟩
theorem me_236 : me_ok 236 := ⟨mw_236, rfl, (fun h => nomatch h), pd_8⟩
theorem me_237 : me_ok 237 := ⟨mw_237, rfl, (fun h => nomatch h), pd_43⟩
theorem me_238 : me_ok 238 := ⟨mw_238, rfl, (fun h => nomatch h), pd_13⟩
theorem me_239 : me_ok 239 := ⟨mw_239, rfl, (fun h => nomatch h), pd_13⟩
theorem me_240 : me_ok 240 := ⟨mw_240, rfl, (fun h => nomatch h), pd_8⟩
theorem me_241 : me_ok 241 := ⟨mw_241, rfl, (fun h => nomatch h), pd_8⟩
theorem me_242 : me_ok 242 := ⟨mw_242, rfl, (fun h => nomatch h), pd_47⟩
theorem me_243 : me_ok 243 := ⟨mw_243, rfl, (fun h => nomatch h), pd_9⟩
theorem me_244 : me_ok 244 := ⟨mw_244, rfl, (fun h => nomatch h), pd_44⟩
theorem me_245 : me_ok 245 := ⟨mw_245, rfl, (fun h => nomatch h), pd_24⟩
theorem me_246 : me_ok 246 := ⟨mw_246, rfl, (fun h => nomatch h), pd_24⟩
theorem me_247 : me_ok 247 := ⟨mw_247, rfl, (fun h => nomatch h), pd_49⟩
theorem me_248 : me_ok 248 := ⟨mw_248, rfl, (fun h => nomatch h), pd_8⟩
theorem mec_0 : mm_all me_ok 1 50 := ⟨me_1, me_2, me_3, me_4, me_5, me_6, me_7, me_8, me_9, me_10, me_11, me_12, me_13, me_14, me_15, me_16, me_17, me_18, me_19, me_20, me_21, me_22, me_23, me_24, me_25, me_26, me_27, me_28, me_29, me_30, me_31, me_32, me_33, me_34, me_35, me_36, me_37, me_38, me_39, me_40, me_41, me_42, me_43, me_44, me_45, me_46, me_47, me_48, me_49, me_50, trivial⟩
theorem mec_1 : mm_all me_ok 51 50 := ⟨me_51, me_52, me_53, me_54, me_55, me_56, me_57, me_58, me_59, me_60, me_61, me_62, me_63, me_64, me_65, me_66, me_67, me_68, me_69, me_70, me_71, me_72, me_73, me_74, me_75, me_76, me_77, me_78, me_79, me_80, me_81, me_82, me_83, me_84, me_85, me_86, me_87, me_88, me_89, me_90, me_91, me_92, me_93, me_94, me_95, me_96, me_97, me_98, me_99, me_100, trivial⟩
theorem mec_2 : mm_all me_ok 101 50 := ⟨me_101, me_102, me_103, me_104, me_105, me_106, me_107, me_108, me_109, me_110, me_111, me_112, me_113, me_114, me_115, me_116, me_117, me_118, me_119, me_120, me_121, me_122, me_123, me_124, me_125, me_126, me_127, me_128, me_129, me_130, me_131, me_132, me_133, me_134, me_135, me_136, me_137, me_138, me_139, me_140, me_141, me_142, me_143, me_144, me_145, me_146, me_147, me_148, me_149, me_150, trivial⟩
theorem mec_3 : mm_all me_ok 151 50 := ⟨me_151, me_152, me_153, me_154, me_155, me_156, me_157, me_158, me_159, me_160, me_161, me_162, me_163, me_164, me_165, me_166, me_167, me_168, me_169, me_170, me_171, me_172, me_173, me_174, me_175, me_176, me_177, me_178, me_179, me_180, me_181, me_182, me_183, me_184, me_185, me_186, me_187, me_188, me_189, me_190, me_191, me_192, me_193, me_194, me_195, me_196, me_197, me_198, me_199, me_200, trivial⟩
theorem mec_4 : mm_all me_ok 201 48 := ⟨me_201, me_202, me_203, me_204, me_205, me_206, me_207, me_208, me_209, me_210, me_211, me_212, me_213, me_214, me_215, me_216, me_217, me_218, me_219, me_220, me_221, me_222, me_223, me_224, me_225, me_226, me_227, me_228, me_229, me_230, me_231, me_232, me_233, me_234, me_235, me_236, me_237, me_238, me_239, me_240, me_241, me_242, me_243, me_244, me_245, me_246, me_247, me_248, trivial⟩
theorem me_at {y : Nat} (h0 : y ≠ 0) (h : y < mm_nm) : me_ok y := by
  have hn : mm_nm = 249 := rfl
  rcases Nat.lt_or_ge y 51 with h0 | h0
  · exact mm_all_at mec_0 y (by omega) (by omega)
  rcases Nat.lt_or_ge y 101 with h1 | h1
  · exact mm_all_at mec_1 y (by omega) (by omega)
  rcases Nat.lt_or_ge y 151 with h2 | h2
  · exact mm_all_at mec_2 y (by omega) (by omega)
  rcases Nat.lt_or_ge y 201 with h3 | h3
  · exact mm_all_at mec_3 y (by omega) (by omega)
  exact mm_all_at mec_4 y (by omega) (by omega)

theorem m1_all : mm_fo mm_nm mm_m1 = true := by decide +kernel
noncomputable def on_ok (o : Nat) : Prop := plainName (mm_on o) = true ∧ mm_on o ≠ "java/lang/invoke/MethodHandle" ∧ mm_on o ≠ "java/lang/invoke/VarHandle"
theorem on_all : mm_all on_ok 0 15 := ⟨⟨by decide +kernel, by decide +kernel, by decide +kernel⟩, ⟨by decide +kernel, by decide +kernel, by decide +kernel⟩, ⟨by decide +kernel, by decide +kernel, by decide +kernel⟩, ⟨by decide +kernel, by decide +kernel, by decide +kernel⟩, ⟨by decide +kernel, by decide +kernel, by decide +kernel⟩, ⟨by decide +kernel, by decide +kernel, by decide +kernel⟩, ⟨by decide +kernel, by decide +kernel, by decide +kernel⟩, ⟨by decide +kernel, by decide +kernel, by decide +kernel⟩, ⟨by decide +kernel, by decide +kernel, by decide +kernel⟩, ⟨by decide +kernel, by decide +kernel, by decide +kernel⟩, ⟨by decide +kernel, by decide +kernel, by decide +kernel⟩, ⟨by decide +kernel, by decide +kernel, by decide +kernel⟩, ⟨by decide +kernel, by decide +kernel, by decide +kernel⟩, ⟨by decide +kernel, by decide +kernel, by decide +kernel⟩, ⟨by decide +kernel, by decide +kernel, by decide +kernel⟩, trivial⟩
theorem on_at {o : Nat} (h : o < 15) : on_ok o := mm_all_at on_all o (Nat.zero_le _) (by omega)
end
section
/-! what the start gives, carried along -/
theorem rl_ao {u U : State} (hvm : u.vm.Alike U.vm) (h : (Cond.arrayOver (.array .int)).before #[] u = true) : (Cond.arrayOver (.array .int)).before #[] U = true := by
  obtain ⟨comp, c, k, h1, h2, h3, h4, h5⟩ := Jvm.Stand.arrayOver_specB h
  obtain ⟨k', hk', he⟩ := hvm.2.2 _ _ h3
  have hi : (U.vm.classes.findIdx? fun (x : Class) => match x.kind with | .array component _ => component == comp | _ => false) = some c := by
    have e1 := va_idx_bare U.vm comp
    have e2 := va_idx_bare u.vm comp
    first | rw [← hvm.bare_eq] at e1 | rw [hvm.bare_eq] at e1
    exact (e1.symm.trans e2).trans h2
  have hkind : k'.kind = .array comp (.array .int) := by rw [he]; exact h4
  have f1 : U.vm.findClass (FieldType.array .int).toString = some comp := by rw [hvm.findClass]; exact h1
  have f2 : U.vm.findClass ("[" ++ (FieldType.array .int).toString) = some c := by rw [hvm.findClass]; exact h5
  unfold Cond.before Cond.holds
  simp only [Cond.value]
  rw [f1, Option.bind_some]
  refine (congrArg (fun o : Option Nat => (o.bind (fun c => (U.vm.classes[c]?).map fun (k : Class) => match k.kind with | .array _ ty => decide (ty = FieldType.array .int) && decide (U.vm.findClass ("[" ++ (FieldType.array .int).toString) = some c) | _ => false) == some true)) hi).trans ?_
  simp [hk', hkind, f2]
theorem ng_warm {s U : State} (hW : s.WarmedH U.vm) (h : ∀ w ∈ ng_ws, va_Nw w s) : ∀ w ∈ ng_ws, va_Nw w U := by
  unfold ng_ws at h ⊢
  simp only [List.forall_mem_cons] at h ⊢
  obtain ⟨h1, h2, h3, h4, h5, -⟩ := h
  exact ⟨va_Nw.warmD hW h1, va_Nw.warmD hW h2, va_Nw.warmD hW h3, va_Nw.warmC hW h4, va_Nw.warmC hW h5, fun _ z => absurd z List.not_mem_nil⟩
theorem rl_E.warm {E : Nat → Nat} {X : mm_X} {B : Nat} {s U : State} {H : Heap} (hW : s.WarmedH U.vm) (h : rl_E E X B s H) : rl_E E X B U H := by
  obtain ⟨h1, h2, h3, h4, h5⟩ := h
  refine ⟨fun d hd => ?_, fun x => (h2 x).moved hW.alike, fun a g1 g2 => (h3 a g1 g2).moved hW.alike, rl_ao hW.alike h4, ⟨h5.1.moved hW.alike, h5.2.1.moved hW.alike, ng_warm hW h5.2.2.1, h5.2.2.2.1.imp (fun _ z => z.warm hW), h5.2.2.2.2.1.imp (fun _ z => z.warm hW), h5.2.2.2.2.2.moved hW.alike⟩⟩
  have h9 := h1 d hd
  unfold mm_nc at h9 ⊢
  split at h9
  · exact va_Nw.warmF hW h9
  · exact va_Nw.warmM hW h9
theorem rl_E.kept {E : Nat → Nat} {X : mm_X} {B : Nat} {U : State} {H H1 : Heap} (h : rl_E E X B U H) (hq : ∀ a : Nat, a < H.size → ¬ rl_A B a → H1[a]? = H[a]?) : rl_E E X B U H1 :=
  ⟨h.1, fun x => (h.2.1 x).kept hq, fun a g1 g2 => (h.2.2.1 a g1 g2).kept hq, h.2.2.2.1, ⟨h.2.2.2.2.1.kept hq, h.2.2.2.2.2.1.kept hq, h.2.2.2.2.2.2⟩⟩
/-- what is returned, and how -/
noncomputable def sn_ret (mi pc : Nat) (r : Option Value) : Prop := match r with
  | none => decode (mm_cc mi) pc = .ok (.return_, 1) ∧ mm_rt mi = none
  | some (.int x) => decode (mm_cc mi) pc = .ok (.ireturn, 1) ∧ (mm_rt mi = some .int ∨ (mm_rt mi = some .boolean ∧ (x = 0 ∨ x = 1)))
  | some (.long _) => decode (mm_cc mi) pc = .ok (.lreturn, 1) ∧ mm_rt mi = some .long
  | _ => False
theorem mm_pop_S : ∀ {n : Nat} {as st : List Value} {K : List Value → List Value → Prop}, mm_pop n as st K False → ∃ bs r, bs.length = n ∧ st = bs.reverse ++ r ∧ K (bs ++ as) r
  | 0, as, st, _, h => ⟨[], st, rfl, rfl, h⟩
  | _ + 1, _, [], _, h => h.elim
  | n + 1, as, v :: t, K, h => by
    obtain ⟨bs, r, h1, h2, h3⟩ := mm_pop_S (n := n) (as := v :: as) (st := t) (K := K) h
    exact ⟨bs ++ [v], r, by simp [h1], by simp [h2], by simpa using h3⟩
theorem fF_pI (st : List Value) : mm_pI st (fun _ _ => False) False = False := by unfold mm_pI; split <;> rfl
theorem fF_pL (st : List Value) : mm_pL st (fun _ _ => False) False = False := by unfold mm_pL; split <;> rfl
theorem fF_pR (st : List Value) : mm_pR st (fun _ _ => False) False = False := by unfold mm_pR; split <;> rfl
theorem fF_p1 (st : List Value) : mm_p1 st (fun _ _ => False) False = False := by unfold mm_p1; split <;> rfl
theorem fF_gI (v : Value) : mm_gI v (fun _ => False) False = False := by unfold mm_gI; split <;> rfl
theorem fF_gL (v w : Value) : mm_gL v w (fun _ => False) False = False := by unfold mm_gL; split <;> rfl
theorem fF_gR (v : Value) : mm_gR v (fun _ => False) False = False := by unfold mm_gR; split <;> rfl
theorem fF_gO (v : Option Nat) : mm_gO v (fun _ => False) False = False := by unfold mm_gO; split <;> rfl
theorem fF_b (b : Bool) : mm_b b False False = False := by cases b <;> rfl
theorem fF_e (st : List Value) : mm_e st False False = False := by unfold mm_e; split <;> rfl
theorem fF_c (c : ClassFile.Cond) (x y : Int32) : mm_cnd c x y False False = False := by cases c <;> simp [mm_cnd]
theorem fF_i (c : Prop) [Decidable c] : (if c then False else False) = False := by split <;> rfl
set_option maxHeartbeats 2000000 in
theorem mm_inr {X : mm_X} {q : mm_R} {pc : Nat} {ls st : List Value} {M : mm_M} {G : (Nat × List Value × List Value) ⊕ (Option Value) → Prop} (h : mm_stepK X q pc ls st M (fun o => match o with | .inl _ => False | .inr z => G z) False) :
    (q.1 = .return_ ∧ st = [] ∧ G (.inr none)) ∨ (q.1 = .ireturn ∧ ∃ x, st = [.int x] ∧ G (.inr (some (.int x))) ∧ (q.2.2.1 = 0 ∨ x = 0 ∨ x = 1)) ∨ (q.1 = .lreturn ∧ ∃ x, st = [.long x] ∧ G (.inr (some (.long x)))) ∨
    (∃ idx, (q.1 = .invokevirtual idx ∨ (q.1 = .invokespecial idx ∧ Nat.beq q.2.2.1 999 = false) ∨ (q.1 = .invokestatic idx ∧ Nat.beq q.2.2.1 996 = false ∧ Nat.beq q.2.2.1 997 = false)) ∧ ∃ as rest, st = as.reverse ++ rest ∧ as.length = q.2.2.2.1 ∧ G (.inl (q.2.2.1, as, rest))) := by
  obtain ⟨i, len, a, b, ps⟩ := q
  cases i with
  | return_ =>
    obtain ⟨rfl, h⟩ := mm_e_P h
    exact Or.inl ⟨rfl, rfl, h⟩
  | ireturn =>
    obtain ⟨x, r, rfl, h⟩ := mm_pI_P h
    obtain ⟨rfl, h⟩ := mm_e_P h
    refine Or.inr (Or.inl ⟨rfl, x, rfl, ?_⟩)
    match a, h with
    | 0, h => exact ⟨h, Or.inl rfl⟩
    | _ + 1, h => exact ⟨(mm_pif h).2, Or.inr (mm_pif h).1⟩
  | lreturn =>
    obtain ⟨x, r, rfl, h⟩ := mm_pL_P h
    obtain ⟨rfl, h⟩ := mm_e_P h
    exact Or.inr (Or.inr (Or.inl ⟨rfl, x, rfl, h⟩))
  | invokevirtual n =>
    obtain ⟨bs, r, h1, h2, h3⟩ := mm_pop_S h
    exact Or.inr (Or.inr (Or.inr ⟨n, Or.inl rfl, bs, r, h2, h1, by simpa using h3⟩))
  | invokestatic n =>
    rcases mm_b_E h with ⟨-, h⟩ | ⟨g1, h⟩
    · have h9 : mm_pI st (fun _ st => mm_pI st (fun _ st => mm_b (Nat.ble (st.map fun v => v.category).sum 100) False False) False) False := h
      simp only [fF_b, fF_pI] at h9
    · rcases mm_b_E h with ⟨-, h⟩ | ⟨g2, h⟩
      · have h9 : mm_pI st (fun _ st => mm_pI st (fun _ st => mm_b (Nat.ble (st.map fun v => v.category).sum 100) False False) False) False := h
        simp only [fF_b, fF_pI] at h9
      · obtain ⟨bs, r, h1, h2, h3⟩ := mm_pop_S h
        exact Or.inr (Or.inr (Or.inr ⟨n, Or.inr (Or.inr ⟨rfl, g1, g2⟩), bs, r, h2, h1, by simpa using h3⟩))
  | invokespecial n =>
    rcases mm_b_E h with ⟨h1, h⟩ | ⟨h1, h⟩
    · have h9 : mm_pR st (fun _ st => mm_e st False False) False := h
      simp only [fF_e, fF_pR] at h9
    · obtain ⟨bs, r, g1, g2, g3⟩ := mm_pop_S h
      exact Or.inr (Or.inr (Or.inr ⟨n, Or.inr (Or.inl ⟨rfl, h1⟩), bs, r, g2, g1, by simpa using g3⟩))
  | getfield n =>
    have h9 : mm_pR st (fun x r => mm_b (mm_isObj M x a) (match (generalizing := false) ps with
      | 0 :: _ => False
      | 1 :: _ => False
      | 2 :: _ => False
      | 3 :: _ => mm_gO (M.2.2.2 x b) (fun _ => False) False
      | _ => False) False) False := h
    obtain ⟨ad, r, -, h9⟩ := mm_pR_P h9
    obtain ⟨-, h9⟩ := mm_b_P h9
    exfalso
    split at h9
    · exact h9
    · exact h9
    · exact h9
    · rw [fF_gO] at h9; exact h9
    · exact h9
  | putfield n =>
    have h9 : (match (generalizing := false) ps with
      | 0 :: _ => mm_pI st (fun x st => mm_pR st (fun y st => mm_b (mm_isObj M y a) False False) False) False
      | 1 :: _ => mm_pI st (fun x st => mm_pR st (fun y st => mm_b (mm_isObj M y a) (if x = 0 ∨ x = 1 then False else False) False) False) False
      | 2 :: _ => mm_pL st (fun x st => mm_pR st (fun y st => mm_b (mm_isObj M y a) False False) False) False
      | 3 :: _ => mm_pR st (fun x st => mm_pR st (fun y st => mm_b (mm_isObj M y a) (mm_b (Nat.blt x M.1.1.1) False False) False) False) False
      | _ => False) := h
    exfalso
    split at h9
    · simp only [fF_b, fF_pR, fF_pI] at h9
    · simp only [fF_i, fF_b, fF_pR, fF_pI] at h9
    · simp only [fF_b, fF_pR, fF_pL] at h9
    · simp only [fF_b, fF_pR] at h9
    · exact h9
  | _ => exact absurd h (by
      first
        | exact id
        | (simp only [mm_stepK, fF_pI, fF_pL, fF_pR, fF_p1, fF_gI, fF_gL, fF_gR, fF_gO, fF_b, fF_e, fF_c, fF_i]; exact id))
theorem mm_stepK_eq (X : mm_X) (q : mm_R) (pc : Nat) (ls st : List Value) (M : mm_M) {α : Type} (K : mm_O → α) (bad : α) : mm_stepK X q pc ls st M K bad = (match mm_step X q pc ls st M with | some o => K o | none => bad) := by
  have h := mm_stepK_n X q pc ls st M (fun v : Option mm_O => match v with | some o => K o | none => bad) some none
  exact h.symm
end
section
/-! cells and slots only grow -/
noncomputable def mo_P (M : mm_M) (o : mm_O) : Prop := match o with
  | .inl (_, _, _, M1) => M.1.2.1 ≤ M1.1.2.1 ∧ M.1.2.2.1 ≤ M1.1.2.2.1
  | .inr _ => True
theorem mo_pI {st : List Value} {K : Int32 → List Value → Prop} (h : ∀ x r, K x r) : mm_pI st K True := by unfold mm_pI; split; exact h _ _; trivial
theorem mo_pL {st : List Value} {K : Int64 → List Value → Prop} (h : ∀ x r, K x r) : mm_pL st K True := by unfold mm_pL; split; exact h _ _; trivial
theorem mo_pR {st : List Value} {K : Nat → List Value → Prop} (h : ∀ x r, K x r) : mm_pR st K True := by unfold mm_pR; split; exact h _ _; trivial
theorem mo_p1 {st : List Value} {K : Value → List Value → Prop} (h : ∀ x r, K x r) : mm_p1 st K True := by unfold mm_p1; split; exact h _ _; exact h _ _; trivial
theorem mo_gI {v : Value} {K : Int32 → Prop} (h : ∀ x, K x) : mm_gI v K True := by unfold mm_gI; split; exact h _; trivial
theorem mo_gL {v w : Value} {K : Int64 → Prop} (h : ∀ x, K x) : mm_gL v w K True := by unfold mm_gL; split; exact h _; trivial
theorem mo_gR {v : Value} {K : Nat → Prop} (h : ∀ x, K x) : mm_gR v K True := by unfold mm_gR; split; exact h _; trivial
theorem mo_gO {v : Option Nat} {K : Nat → Prop} (h : ∀ x, K x) : mm_gO v K True := by unfold mm_gO; split; exact h _; trivial
theorem mo_b {b : Bool} {k j : Prop} (h : k) (h2 : j) : mm_b b k j := by cases b <;> assumption
theorem mo_e {st : List Value} {k : Prop} (h : k) : mm_e st k True := by unfold mm_e; split; exact h; trivial
theorem mo_c {c : ClassFile.Cond} {x y : Int32} {t e : Prop} (h : t) (h2 : e) : mm_cnd c x y t e := by cases c <;> simp only [mm_cnd] <;> split <;> assumption
theorem mo_i {c : Prop} [Decidable c] {t e : Prop} (h : t) (h2 : e) : if c then t else e := by split <;> assumption
theorem mo_pop {K : List Value → List Value → Prop} (h : ∀ x r, K x r) : ∀ {n : Nat} {as st : List Value}, mm_pop n as st K True
  | 0, _, _ => h _ _
  | _ + 1, _, [] => trivial
  | n + 1, as, v :: r => mo_pop h (n := n) (as := v :: as) (st := r)
theorem mo_r (M : mm_M) : M.1.2.1 ≤ M.1.2.1 ∧ M.1.2.2.1 ≤ M.1.2.2.1 := ⟨Nat.le_refl _, Nat.le_refl _⟩
theorem mo_new (M : mm_M) (c n k : Nat) : M.1.2.1 ≤ (mm_new M c n k).1.2.1 ∧ M.1.2.2.1 ≤ (mm_new M c n k).1.2.2.1 := ⟨Nat.le_add_right _ _, Nat.le_add_right _ _⟩
theorem mo_multi (M : mm_M) (n k : Nat) : M.1.2.1 ≤ (mm_multi M n k).1.2.1 ∧ M.1.2.2.1 ≤ (mm_multi M n k).1.2.2.1 := by
  obtain ⟨-, g2, g3, -⟩ := mm_rows_1 n k (mm_new M 104 n n)
  have e2 : (mm_multi M n k).1.2.1 = M.1.2.1 + 1 + n := g2
  have e3 : (mm_multi M n k).1.2.2.1 = M.1.2.2.1 + n + n * k := g3
  rw [e2, e3]
  exact ⟨by omega, by omega⟩
set_option maxHeartbeats 4000000 in
theorem mo_step (X : mm_X) (q : mm_R) (pc : Nat) (ls st : List Value) (M : mm_M) : mm_stepK X q pc ls st M (mo_P M) True := by
  obtain ⟨i, len, a, b, ps⟩ := q
  cases i with
  | getfield n =>
    refine mo_pR fun x r => mo_b ?_ trivial
    show (match ps with
      | 0 :: _ => mo_P M _
      | 1 :: _ => mo_P M _
      | 2 :: _ => mo_P M _
      | 3 :: _ => mm_gO (M.2.2.2 x b) (fun y => mo_P M (.inl (pc + len, ls, .ref y :: r, M))) True
      | _ => True)
    split <;> first | exact mo_r M | exact mo_gO (fun _ => mo_r M) | trivial
  | putfield n =>
    show (match ps with
      | 0 :: _ => mm_pI st (fun x st => mm_pR st (fun y st => mm_b (mm_isObj M y a) (mo_P M (.inl (pc + len, ls, st, mm_setI M y b x))) True) True) True
      | 1 :: _ => mm_pI st (fun x st => mm_pR st (fun y st => mm_b (mm_isObj M y a) (if x = 0 ∨ x = 1 then mo_P M (.inl (pc + len, ls, st, mm_setI M y b x)) else True) True) True) True
      | 2 :: _ => mm_pL st (fun x st => mm_pR st (fun y st => mm_b (mm_isObj M y a) (mo_P M (.inl (pc + len, ls, st, mm_setL M y b x))) True) True) True
      | 3 :: _ => mm_pR st (fun x st => mm_pR st (fun y st => mm_b (mm_isObj M y a) (mm_b (Nat.blt x M.1.1.1) (mo_P M (.inl (pc + len, ls, st, mm_setR M y b (some x)))) True) True) True) True
      | _ => True)
    split
    · exact mo_pI fun _ _ => mo_pR fun _ _ => mo_b (mo_r M) trivial
    · exact mo_pI fun _ _ => mo_pR fun _ _ => mo_b (mo_i (mo_r M) trivial) trivial
    · exact mo_pL fun _ _ => mo_pR fun _ _ => mo_b (mo_r M) trivial
    · exact mo_pR fun _ _ => mo_pR fun _ _ => mo_b (mo_b (mo_r M) trivial) trivial
    · trivial
  | ireturn =>
    refine mo_pI fun x r => mo_e ?_
    show (match a with
      | 0 => mo_P M (.inr (.inr (some (.int x))))
      | _ => if x = 0 ∨ x = 1 then mo_P M (.inr (.inr (some (.int x)))) else True)
    split
    · trivial
    · exact mo_i trivial trivial
  | dup2 =>
    have h : mm_p1 st (fun v st => mm_p1 st (fun w st => mo_P M (.inl (pc + len, ls, v :: w :: v :: w :: st, M))) True) True := mo_p1 fun _ _ => mo_p1 fun _ _ => mo_r M
    exact h
  | new n => exact mo_b (mo_new M _ _ _) trivial
  | newarray n => exact mo_pI fun _ _ => mo_i trivial (mo_b (mo_new M _ _ _) trivial)
  | multianewarray n d => exact mo_pI fun _ _ => mo_pI fun _ _ => mo_i trivial (mo_b (mo_multi M _ _) trivial)
  | _ =>
    first
      | trivial
      | exact mo_r M
      | exact mo_gR fun _ => mo_r M
      | exact mo_gI fun _ => mo_r M
      | exact mo_gI fun _ => mo_b (mo_r M) trivial
      | exact mo_gL fun _ => mo_b (mo_r M) trivial
      | exact mo_pI fun _ _ => mo_b (mo_r M) trivial
      | exact mo_pR fun _ _ => mo_b (mo_r M) trivial
      | exact mo_pL fun _ _ => mo_b (mo_r M) trivial
      | exact mo_pI fun _ _ => mo_pI fun _ _ => mo_r M
      | exact mo_pL fun _ _ => mo_pL fun _ _ => mo_r M
      | exact mo_pI fun _ _ => mo_pL fun _ _ => mo_r M
      | exact mo_pI fun _ _ => mo_pI fun _ _ => mo_i trivial (mo_r M)
      | exact mo_pL fun _ _ => mo_pL fun _ _ => mo_i trivial (mo_r M)
      | exact mo_pI fun _ _ => mo_r M
      | exact mo_pL fun _ _ => mo_r M
      | exact mo_p1 fun _ _ => mo_r M
      | exact mo_p1 fun _ _ => mo_p1 fun _ _ => mo_r M
      | exact mo_pI fun _ _ => mo_c (mo_r M) (mo_r M)
      | exact mo_pI fun _ _ => mo_pI fun _ _ => mo_c (mo_r M) (mo_r M)
      | exact mo_pI fun _ _ => mo_i (mo_r M) (mo_gO fun _ => mo_r M)
      | exact mo_pI fun _ _ => mo_pR fun _ _ => mo_b (mo_i trivial (mo_r M)) (mo_b (mo_i trivial (mo_r M)) trivial)
      | exact mo_pI fun _ _ => mo_pR fun _ _ => mo_b (mo_i trivial (mo_r M)) trivial
      | exact mo_pI fun _ _ => mo_pR fun _ _ => mo_b (mo_i trivial (mo_gO fun _ => mo_r M)) trivial
      | exact mo_pI fun _ _ => mo_pI fun _ _ => mo_pR fun _ _ => mo_b (mo_i trivial (mo_r M)) trivial
      | exact mo_pL fun _ _ => mo_pI fun _ _ => mo_pR fun _ _ => mo_b (mo_i trivial (mo_r M)) trivial
      | exact mo_pI fun _ _ => mo_pI fun _ _ => mo_pR fun _ _ => mo_b (mo_i trivial (mo_r M)) (mo_b (mo_i trivial (mo_r M)) trivial)
      | exact mo_pR fun _ _ => mo_b (mo_r M) (mo_b (mo_r M) trivial)
      | exact mo_pop fun _ _ => trivial
      | exact mo_b (mo_pR fun _ _ => mo_e (mo_r M)) (mo_pop fun _ _ => trivial)
      | exact mo_b (mo_pI fun _ _ => mo_pI fun _ _ => mo_b (mo_r M) trivial) (mo_b (mo_pI fun _ _ => mo_pI fun _ _ => mo_b (mo_r M) trivial) (mo_pop fun _ _ => trivial))
      | exact mo_pL fun _ _ => mo_e trivial
      | exact mo_e trivial
theorem mo_step1 {X : mm_X} {q : mm_R} {pc : Nat} {ls st : List Value} {M : mm_M} {o : mm_O} (h : mm_step X q pc ls st M = some o) : mo_P M o := by
  have h1 := mo_step X q pc ls st M
  rw [mm_stepK_eq, h] at h1
  exact h1
theorem mo_look {M M1 : mm_M} {as : List Value} {r : Option Value} (h : mm_look M as = some (r, M1)) : M1.1.2.1 = M.1.2.1 + 1 ∧ M1.1.2.2.1 = M.1.2.2.1 + 6 := by
  obtain ⟨x, f, w, o, p, -, -, -, -, -, -, h⟩ := mm_look_I h
  rcases h with ⟨-, -, rfl⟩ | ⟨-, -, q, -, -, -, -, rfl⟩ | ⟨-, -, -, rfl⟩ <;> exact ⟨rfl, rfl⟩
/-- a run's first step, opened -/
theorem mm_run_1 {X : mm_X} {n d mi pc : Nat} {ls st : List Value} {M MF : mm_M} {r : Option Value} (h : mm_run X (n + 1) d mi pc ls st M = some (r, MF)) : ∃ q o, mm_code mi pc = some q ∧ mm_step X q pc ls st M = some o ∧ (match o with
    | .inl (pc', ls', st', M') => mm_run X n d mi pc' ls' st' M' = some (r, MF)
    | .inr (.inr r') => r' = r ∧ M = MF
    | .inr (.inl (y, as, rest)) => ∃ d' r1 M1, d = d' + 1 ∧ mm_w8 rest ≤ 8 ∧ (if y = 998 then mm_look M as = some (r1, M1) else mm_rc M y as = true ∧ mm_run X n d' y 0 (mm_entry y as) [] M = some (r1, M1)) ∧ mm_run X n (d' + 1) mi (pc + 3) ls (r1.toList ++ rest) M1 = some (r, MF)) := by
  unfold mm_run at h
  cases hc : mm_code mi pc with
  | none => rw [hc] at h; cases h
  | some q =>
    rw [hc] at h
    simp only [] at h
    rw [mm_stepK_eq] at h
    cases hs : mm_step X q pc ls st M with
    | none => rw [hs] at h; cases h
    | some o =>
      rw [hs] at h
      refine ⟨q, o, rfl, hs, ?_⟩
      match o, h with
      | .inl (pc', ls', st', M'), h => exact h
      | .inr (.inr r'), h => cases h; exact ⟨rfl, rfl⟩
      | .inr (.inl (y, as, rest)), h =>
        match d, h with
        | 0, h => cases h
        | d' + 1, h =>
          cases hw : Nat.ble (mm_w8 rest) 8 with
          | false =>
            simp only [hw] at h
            cases h
          | true =>
            simp only [hw] at h
            refine ⟨d', ?_⟩
            by_cases hy : y = 998
            · subst hy
              have e1 : Nat.beq 998 998 = true := rfl
              simp only [e1, cond_true] at h
              cases hl : mm_look M as with
              | none => rw [hl] at h; cases h
              | some z =>
                obtain ⟨r1, M1⟩ := z
                rw [hl] at h
                exact ⟨r1, M1, rfl, Nat.le_of_ble_eq_true hw, by rw [if_pos rfl], h⟩
            · have e1 : Nat.beq y 998 = false := by
                cases hb : Nat.beq y 998 with
                | false => rfl
                | true => exact absurd (Nat.eq_of_beq_eq_true hb) hy
              simp only [e1, cond_false] at h
              cases hr : mm_rc M y as with
              | false => simp only [hr, cond_false] at h; cases h
              | true =>
                simp only [hr, cond_true] at h
                cases hl : mm_run X n d' y 0 (mm_entry y as) [] M with
                | none => rw [hl] at h; cases h
                | some z =>
                  obtain ⟨r1, M1⟩ := z
                  rw [hl] at h
                  exact ⟨r1, M1, rfl, Nat.le_of_ble_eq_true hw, by rw [if_neg hy]; exact ⟨rfl, rfl⟩, h⟩
theorem mm_mono {X : mm_X} : ∀ {n d mi pc : Nat} {ls st : List Value} {M MF : mm_M} {r : Option Value}, mm_run X n d mi pc ls st M = some (r, MF) → M.1.2.1 ≤ MF.1.2.1 ∧ M.1.2.2.1 ≤ MF.1.2.2.1
  | 0, _, _, _, _, _, _, _, _, h => nomatch h
  | n + 1, d, mi, pc, ls, st, M, MF, r, h => by
    obtain ⟨q, o, -, hs, ho⟩ := mm_run_1 h
    have hm := mo_step1 hs
    match o, hs, ho, hm with
    | .inl (pc', ls', st', M'), _, ho, hm =>
      have h2 := mm_mono ho
      have h3 : M.1.2.1 ≤ M'.1.2.1 ∧ M.1.2.2.1 ≤ M'.1.2.2.1 := hm
      omega
    | .inr (.inr r'), _, ho, _ => rw [ho.2]; exact mo_r MF
    | .inr (.inl (y, as, rest)), _, ho, _ =>
      obtain ⟨d', r1, M1, -, -, h1, h2⟩ := ho
      have h3 := mm_mono h2
      by_cases hy : y = 998
      · rw [if_pos hy] at h1
        have := mo_look h1
        omega
      · rw [if_neg hy] at h1
        have := mm_mono h1.2
        omega
end
section
/-! A RUN is sound; a method's contract out of a run -/
noncomputable def ws_y (y : Nat) : List Cond := .code (mm_y y) (mm_cc y) (mm_mx y) (mm_rt y) :: ws_all
noncomputable def rm_d (d mc ms : Nat) : Room := { frames := d + 20, cells := mc, slots := ms, locals := 64 * d + 400 }
noncomputable def sn_Pc (D : va_G) (E : Nat → Nat) (X : mm_X) (B : Nat) (M : mm_M) (as : List Value) : Array Value → State → Prop := fun v U => v = (as.map (mm_tr B E)).toArray ∧ rl D U B M U.heap ∧ rl_E E X B U U.heap ∧ va_K D vwCl [] U ∧ B ≤ U.heap.size
noncomputable def sn_Qc (D : va_G) (E : Nat → Nat) (B : Nat) (r : Option Value) (M1 : mm_M) : Array Value → State → Outcome → State → Prop := fun _ st o t => o = .returned (r.map (mm_tr B E)) ∧ rl D t B M1 t.heap ∧ (∀ q : Nat, q < B → t.heap[q]? = st.heap[q]?) ∧ st.heap.size ≤ t.heap.size
theorem sn_blind {D : va_G} {E : Nat → Nat} {X : mm_X} {B : Nat} {M : mm_M} {as : List Value} : FrameBlind (sn_Pc D E X B M as) := fun a U g mk h => ⟨h.1, h.2.1.moved (U := U.calling g mk a) (Vm.Alike.refl U.vm), h.2.2.1.warm (U := U.calling g mk a) (State.WarmedH.refl U), va_K.moved (u := U) (U := U.calling g mk a) (Vm.Alike.refl U.vm) h.2.2.2.1, h.2.2.2.2⟩
theorem ws_good {w : Cond} (h : w ∈ ws_all) : w ∈ lw_tbl ∧ goodWord w = true := List.mem_filter.mp h
theorem ws_in {w : Cond} (h : w ∈ lw_tbl) (hg : goodWord w = true) : w ∈ ws_all := List.mem_filter.mpr ⟨h, hg⟩
/-- the contract of look's, still to be given -/
noncomputable def lk_C (l : Launch) : Prop := ∀ (D : va_G) (E : Nat → Nat) (X : mm_X) (B : Nat) (M M1 : mm_M) (as : List Value) (r : Option Value), mm_look M as = some (r, M1) → Met l yL_look (.codeWith yL_look cL_look 5 (some .int) [(0, 10, 13, 13), (0, 10, 17, 15)] :: ws_all) (rm_d 10 1 6) (sn_Pc D E X B M as) (sn_Qc D E B r M1) 1 6 (rl_A B)
section SNR
variable {p : Program} {l : Launch} {e : Env} {R : Room} {s : State} {m : MethodId} {args : Array Value} {below : List Frame} {meth : Method} {c : Code} {H : Heap} {locs : List Loc} {cells slots : Nat} {Q : State → Prop}
variable {D : va_G} {E : Nat → Nat} {X : mm_X} {B c0 s0 : Nat} {mi pc : Nat} {lsA : Array Slot} {M : mm_M}
theorem sn_pre (hC : sn_C D E X B p s m args meth c mi) (hI : sn_I D B s c0 s0 M H locs cells slots) (as : List Value) : ∀ U : State, U.heap = H → s.WarmedH U.vm → sn_Pc D E X B M as (as.map (mm_tr B E)).toArray U := by
  intro U hU hW
  obtain ⟨-, -, -, -, -, -, hK, hE, hB, -⟩ := hC
  refine ⟨rfl, by rw [hU]; exact hI.1.moved hW.alike, ?_, va_K.moved hW.alike hK, by rw [hU]; have := hI.2.1.1; omega⟩
  rw [hU]
  exact (hE.kept hI.2.1.2.1).warm hW
theorem sn_after {mc ms : Nat} {st0 rest : List Value} {a : Array Value} {r1 : Option Value} {M1 : mm_M} (hr : va_Run p l e R s m args below meth c H locs cells slots mc ms (F0 m pc lsA st0) rest (sn_Qc D E B r1 M1 a) (rl_A B)) (hI : sn_I D B s c0 s0 M H locs cells slots) (hB : B ≤ s.heap.size) (hmc : M.1.2.1 + mc = M1.1.2.1) (hms : M.1.2.2.1 + ms = M1.1.2.2.1)
    (kk : ∀ (H1 : Heap) (locs1 : List Loc), sn_I D B s c0 s0 M1 H1 locs1 (cells + mc) (slots + ms) → W p l e R s m args below meth c H1 locs1 (cells + mc) (slots + ms) Q (F0 m (pc + 3) lsA ((r1.map (mm_tr B E)).toList ++ rest))) : W p l e R s m args below meth c H locs cells slots Q (F0 m pc lsA st0) := by
  intro T hT Xs
  obtain ⟨v, st₀, t, T', L, h0, X', hL, e1, e2, ⟨hv, hrl, hlow, hsz⟩, st⟩ := hr T hT Xs
  cases hv
  rw [h0] at hlow hsz
  have hI1 : sn_I D B s c0 s0 M1 T'.heap (locs ++ L) (cells + mc) (slots + ms) := by
    refine ⟨?_, ⟨?_, ?_, ?_⟩, ?_, ?_⟩
    · rw [e1]
      refine hrl.moved ?_
      rw [← e2]
      exact X'.warmed.alike.symm
    · rw [e1]; exact Nat.le_trans hI.2.1.1 hsz
    · intro q h1 h2
      rw [e1, hlow q (Nat.not_le.mp h2)]
      exact hI.2.1.2.1 q h1 h2
    · intro q hq
      rcases List.mem_append.mp hq with h | h
      · exact hI.2.1.2.2 q h
      · exact hL q h
    · have := hI.2.2.1; omega
    · have := hI.2.2.2; omega
  obtain ⟨t2, a1, b1⟩ := kk T'.heap (locs ++ L) hI1 T' rfl X'
  exact ⟨t2, st t2 a1, b1⟩
theorem mm_w8_le (m : MethodId) (pc : Nat) (lsA : Array Slot) (st0 : List Value) {rest : List Value} (h : mm_w8 rest ≤ 8) : 2 * (F0 m pc lsA st0).monitorRoom + ((rest.map (mm_tr B E)).map fun v => v.category).sum ≤ 8 := lv_room (by rw [mm_tr_sum]; exact h)
/-- at a method's entry the locals are the arguments -/
theorem sn_entry {y : Nat} {as : List Value} (hok : mm_okv as = true) (hlen : (mm_sl as).length ≤ mm_mx y) : (lg_sl (as.map (mm_tr B E))).length = (mm_sl as).length ∧ lvR B E ((lg_sl (as.map (mm_tr B E)) ++ List.replicate (mm_mx y - (lg_sl (as.map (mm_tr B E))).length) Slot.unset).toArray) (mm_mx y) (mm_entry y as) := by
  have hlg : ∀ as : List Value, mm_okv as = true → (lg_sl (as.map (mm_tr B E))).length = (mm_sl as).length := by
    intro as
    induction as with
    | nil => intro _; rfl
    | cons v t ih =>
      intro h
      cases v with
      | int x => simp only [List.map_cons, mm_tr, mm_sl]; rw [show lg_sl (Value.int x :: t.map (mm_tr B E)) = .val (.int x) :: lg_sl (t.map (mm_tr B E)) from rfl, List.length_cons, List.length_cons, ih h]
      | long x => simp only [List.map_cons, mm_tr, mm_sl]; rw [show lg_sl (Value.long x :: t.map (mm_tr B E)) = .val (.long x) :: .second :: lg_sl (t.map (mm_tr B E)) from rfl, List.length_cons, List.length_cons, List.length_cons, List.length_cons, ih h]
      | ref x => simp only [List.map_cons, mm_tr, mm_sl]; rw [show lg_sl (Value.ref (mm_ad B E x) :: t.map (mm_tr B E)) = .val (.ref (mm_ad B E x)) :: lg_sl (t.map (mm_tr B E)) from rfl, List.length_cons, List.length_cons, ih h]
      | _ => cases h
  refine ⟨hlg as hok, lvR.of ?_ (lv_entry (as.map (mm_tr B E)) (by rw [hlg as hok]; exact hlen)) ?_⟩
  · unfold mm_entry; rw [List.length_append, List.length_replicate]; omega
  · have hat : ∀ (n k : Nat), mm_at (List.replicate n Value.null) k = .null := by
      intro n
      induction n with
      | zero => intro k; rfl
      | succ n ih => intro k; cases k with
        | zero => rfl
        | succ k => exact ih k
    have key : ∀ (as : List Value) (n j k : Nat) (v : Value), mm_okv as = true → (mm_at (mm_sl as ++ List.replicate n .null) k = v) → ((∃ x, v = .int x) ∨ (∃ x, v = .ref x) ∨ ∃ x, v = .long x) → (j + k, mm_tr B E v) ∈ lv_args j (as.map (mm_tr B E)) := by
      intro as
      induction as with
      | nil =>
        intro n j k v _ hv hh
        have : mm_at ([] ++ List.replicate n Value.null) k = .null := hat n k
        rw [show mm_sl [] = [] from rfl, this] at hv
        rcases hh with ⟨x, rfl⟩ | ⟨x, rfl⟩ | ⟨x, rfl⟩ <;> cases hv
      | cons w t ih =>
        intro n j k v hok hv hh
        cases w with
        | int x =>
          cases k with
          | zero => cases hv; exact List.mem_cons_self
          | succ k =>
            refine List.mem_cons_of_mem _ ?_
            have := ih n (j + 1) k v hok hv hh
            rwa [show j + 1 + k = j + (k + 1) by omega] at this
        | ref x =>
          cases k with
          | zero => cases hv; exact List.mem_cons_self
          | succ k =>
            refine List.mem_cons_of_mem _ ?_
            have := ih n (j + 1) k v hok hv hh
            rwa [show j + 1 + k = j + (k + 1) by omega] at this
        | long x =>
          cases k with
          | zero => cases hv; exact List.mem_cons_self
          | succ k =>
            cases k with
            | zero =>
              have hv2 : Value.null = v := hv
              rcases hh with ⟨x, rfl⟩ | ⟨x, rfl⟩ | ⟨x, rfl⟩ <;> cases hv2
            | succ k =>
              refine List.mem_cons_of_mem _ ?_
              have := ih n (j + 2) k v hok hv hh
              rwa [show j + 2 + k = j + (k + 1 + 1) by omega] at this
        | _ => cases hok
    intro q hq
    obtain ⟨h1, h2⟩ := mm_cl_mem.mp hq
    rcases mm_cl1_inv h2 with ⟨x, e1, e2⟩ | ⟨x, e1, e2⟩ | ⟨x, e1, -, -, e2⟩
    · have := key as _ 0 q.1 _ hok e1 (Or.inl ⟨x, rfl⟩)
      rw [Nat.zero_add] at this
      rw [e2]; exact this
    · have := key as _ 0 q.1 _ hok e1 (Or.inr (Or.inl ⟨x, rfl⟩))
      rw [Nat.zero_add] at this
      rw [e2]; exact this
    · have := key as _ 0 q.1 _ hok e1 (Or.inr (Or.inr ⟨x, rfl⟩))
      rw [Nat.zero_add] at this
      rw [e2]; exact this
end SNR
theorem ow_12a : mm_fo mm_nm (fun y => Nat.beq y 0 || !Nat.beq (mm_ow y) 12) = true := by decide +kernel
theorem ow_12 {y : Nat} (h0 : y ≠ 0) (h : y < mm_nm) : mm_ow y ≠ 12 := by
  intro z
  have h1 := mm_fo_at ow_12a y h
  rw [z] at h1
  simp only [Bool.or_eq_true] at h1
  rcases h1 with h1 | h1
  · exact h0 (Nat.eq_of_beq_eq_true h1)
  · cases h1
/-- what a run gives, for every caller -/
noncomputable def sn_R (l : Launch) (X : mm_X) (n : Nat) : Prop := ∀ (d mi pc : Nat) (ls st : List Value) (M MF : mm_M) (r : Option Value), mm_run X n d mi pc ls st M = some (r, MF) → ∀ {p : Program} {e : Env} {R : Room} {s : State} {m : MethodId} {args : Array Value} {below : List Frame} {meth : Method} {c : Code} {H : Heap} {locs : List Loc} {cells slots : Nat} {Q : State → Prop} {D : va_G} {E : Nat → Nat} {B c0 s0 : Nat} {lsA : Array Slot},
  (mm_ow mi = 12 → 15 ≤ d ∧ lk_C l) → sn_C D E X B p s m args meth c mi → sn_I D B s c0 s0 M H locs cells slots → lvR B E lsA (mm_mx mi) ls → (d + 20 ≤ R.frames ∧ 64 * d + 400 ≤ R.locals ∧ MF.1.2.1 ≤ c0 + R.cells ∧ MF.1.2.2.1 ≤ s0 + R.slots) →
  (∀ (pc' : Nat) (H' : Heap) (locs' : List Loc) (lsA' : Array Slot) (cells' slots' : Nat), sn_ret mi pc' r → sn_I D B s c0 s0 MF H' locs' cells' slots' → W p l e R s m args below meth c H' locs' cells' slots' Q (F0 m pc' lsA' (r.map (mm_tr B E)).toList)) →
  W p l e R s m args below meth c H locs cells slots Q (F0 m pc lsA (st.map (mm_tr B E)))
set_option maxHeartbeats 2000000 in
/-- a method's contract -/
theorem sn_met {l : Launch} {X : mm_X} {n d y : Nat} {M M1 : mm_M} {as : List Value} {r : Option Value} (ih : sn_R l X n) (hy0 : y ≠ 0) (hy : y < mm_nm) (hrc : mm_rc M y as = true) (h : mm_run X n d y 0 (mm_entry y as) [] M = some (r, M1)) (D : va_G) (E : Nat → Nat) (B : Nat) :
    Met l (mm_y y) (ws_y y) (rm_d d (M1.1.2.1 - M.1.2.1) (M1.1.2.2.1 - M.1.2.2.1)) (sn_Pc D E X B M as) (sn_Qc D E B r M1) (M1.1.2.1 - M.1.2.1) (M1.1.2.2.1 - M.1.2.2.1) (rl_A B) := by
  obtain ⟨hmw, hcls, hii, -⟩ := me_at hy0 hy
  have hon := on_at (ow_lt hy)
  have hmono := mm_mono h
  refine Met.ofW (cc := mm_cc y) (maxL := mm_mx y) (ret := mm_rt y) (by rw [hcls]; exact hon.1) rfl ?_
  intro p e s m args below meth c s₁ Bd hml hv
  obtain ⟨rfl, hrl, hE, hK, hB⟩ := hv
  have hts0 := atoms_spec (ws := ws_y y) Bd.pre
  have hts : ∀ w ∈ lw_tbl, goodWord w = true → w.before (as.map (mm_tr B E)).toArray s = true := fun w h1 h2 => hts0 w (List.mem_cons_of_mem _ (ws_in h1 h2))
  have hown : s.vm.findClass (mm_on (mm_ow y)) = some m.cls := by rw [← hcls]; exact findClass_of_methodNamed Bd.named
  have hnm : meth.name = (mm_y y).name := (name_of_methodNamed Bd.named Bd.method).1
  have hC : sn_C D E X B p s m (as.map (mm_tr B E)).toArray meth c y := ⟨Bd.exec, Bd.bytes, hml, hown, hts, fun h9 => hnm.trans (hii h9), hK, hE, hB, hy⟩
  unfold mm_rc at hrc
  rw [Bool.and_eq_true, Bool.and_eq_true] at hrc
  obtain ⟨hl1, hl2⟩ := sn_entry (B := B) (E := E) (y := y) hrc.1.1 (Nat.le_of_ble_eq_true hrc.1.2)
  rw [lg_entry_eq]
  have hlocks := Bd.notSynchronized
  have hr := Bd.returns
  refine ih d y 0 _ [] M M1 r h (fun z => absurd z (ow_12 hy0 hy)) hC (c0 := M.1.2.1) (s0 := M.1.2.2.1) (cells := 0) (slots := 0) ⟨hrl, va_S.rf, rfl, rfl⟩ hl2 ⟨Nat.le_refl _, Nat.le_refl _, by show _ ≤ _ + (M1.1.2.1 - M.1.2.1); omega, by show _ ≤ _ + (M1.1.2.2.1 - M.1.2.2.1); omega⟩ ?_
  intro pc' H' locs' lsA' cells' slots' hret hI
  refine W.widen (k := M1.1.2.1 - M.1.2.1) (n := M1.1.2.2.1 - M.1.2.2.1) (by have := hI.2.2.1; omega) (by have := hI.2.2.2; omega) ?_
  have hq : ∀ t : State, t.heap = H' → s.WarmedH t.vm → sn_Qc D E B r M1 (as.map (mm_tr B E)).toArray s (.returned (r.map (mm_tr B E))) t := fun t ht hW => ⟨rfl, by rw [ht]; exact hI.1.moved hW.alike, fun q hq => by rw [ht]; exact hI.2.1.2.1 q (by omega) (Nat.not_le.mpr hq), by rw [ht]; exact hI.2.1.1⟩
  match r, hret, hq with
  | none, hret, hq => exact W.vret Bd.exec Bd.bytes (hr.trans hret.2) hq hI.2.1.2.2 hret.1
  | some (.int x), hret, hq =>
    rcases hret.2 with h1 | ⟨h1, h2⟩
    · exact W.iret Bd.exec Bd.bytes (hr.trans h1) hq hI.2.1.2.2 hret.1
    · exact W.zret Bd.exec Bd.bytes (hr.trans h1) (by rcases h2 with rfl | rfl <;> decide) hq hI.2.1.2.2 hret.1
  | some (.long x), hret, hq => exact W.lret Bd.exec Bd.bytes (hr.trans hret.2) hq hI.2.1.2.2 hret.1
  | some (.ref _), hret, _ => exact hret.elim
  | some .null, hret, _ => exact hret.elim
  | some (.float _), hret, _ => exact hret.elim
  | some (.double _), hret, _ => exact hret.elim
  | some (.retAddr _), hret, _ => exact hret.elim
section SNQ
variable {p : Program} {l : Launch} {e : Env} {R : Room} {s : State} {m : MethodId} {args : Array Value} {below : List Frame} {meth : Method} {c : Code} {H : Heap} {locs : List Loc} {cells slots : Nat} {Q : State → Prop}
variable {D : va_G} {E : Nat → Nat} {X : mm_X} {B c0 s0 : Nat} {mi pc : Nat} {lsA : Array Slot} {M : mm_M}
theorem mw_good (y : Nat) : ∀ w ∈ mm_mw y, goodWord w = true := by
  intro w hw
  unfold mm_mw at hw
  rcases List.mem_cons.mp hw with rfl | hw
  · rfl
  · rcases List.mem_cons.mp hw with rfl | hw
    · rfl
    · cases hk : Nat.beq (mm_kc y) 99 with
      | true =>
        rw [hk] at hw
        rw [List.mem_singleton.mp hw]
        rfl
      | false =>
        rw [hk] at hw
        rcases List.mem_cons.mp hw with rfl | hw
        · rfl
        · cases hi : mm_ii y with
          | true => rw [hi] at hw; exact absurd hw List.not_mem_nil
          | false =>
            rw [hi] at hw
            rw [List.mem_singleton.mp hw]
            rfl
/-- a callee's words, for its caller -/
theorem sn_words {y : Nat} (hC : sn_C D E X B p s m args meth c mi) (hy0 : y ≠ 0) (hy : y < mm_nm) : (∀ w ∈ ws_y y, ∀ (a' : Array Value) (U : State), s.WarmedH U.vm → w.before a' U = true) ∧ (Cond.code (mm_y y) (mm_cc y) (mm_mx y) (mm_rt y)).before args s = true ∧ (Cond.initialized (mm_y y).cls).before args s = true ∧ ((mm_y y).cls ≠ "java/lang/invoke/MethodHandle" ∧ (mm_y y).cls ≠ "java/lang/invoke/VarHandle") ∧ (∀ sig, parseMethodDescriptor (mm_y y).desc = some sig → mm_pn y = sig.parameters.length) := by
  obtain ⟨hmw, hcls, -, hp⟩ := me_at hy0 hy
  have hon := on_at (ow_lt hy)
  have hts := hC.2.2.2.2.1
  have hcode := hmw _ List.mem_cons_self
  refine ⟨fun w hw a' U hW => ?_, hts _ hcode rfl, ?_, by rw [hcls]; exact hon.2, fun sig hs => ?_⟩
  · rcases List.mem_cons.mp hw with rfl | hw
    · exact word_at hW (good_of_word (w := Cond.code (mm_y y) (mm_cc y) (mm_mx y) (mm_rt y)) rfl) (hts _ hcode rfl)
    · exact word_at hW (good_of_word (ws_good hw).2) (hts _ (ws_good hw).1 (ws_good hw).2)
  · rw [hcls]; exact hts _ (hmw _ (List.mem_cons_of_mem _ List.mem_cons_self)) rfl
  · rw [hs] at hp
    exact (Option.some.inj hp).symm
theorem mx_20 {y : Nat} (hy : y < mm_nm) : mm_mx y ≤ 20 := by
  have h := mm_fo_at m1_all y hy
  unfold mm_m1 at h
  rw [Bool.and_eq_true] at h
  exact Nat.le_of_ble_eq_true h.2
theorem kc_own {y : Nat} (hy : y < mm_nm) (h : Nat.beq (mm_kc y) 99 = false) : mm_kc y = mm_ow y ∧ mm_ow y < mm_ncl := by
  have h1 := mm_fo_at m1_all y hy
  unfold mm_m1 at h1
  rw [Bool.and_eq_true, Bool.and_eq_true, h, Bool.false_or, Bool.and_eq_true] at h1
  exact ⟨Nat.eq_of_beq_eq_true h1.1.1.1, Nat.le_of_ble_eq_true h1.1.1.2⟩
theorem sn_tl (r1 : Option Value) (rest : List Value) : (r1.toList ++ rest).map (mm_tr B E) = (r1.map (mm_tr B E)).toList ++ rest.map (mm_tr B E) := by
  rw [List.map_append]
  cases r1 <;> rfl
/-- the object that a method is called on -/
theorem sn_recv {a y : Nat} (hC : sn_C D E X B p s m args meth c mi) (hI : sn_I D B s c0 s0 M H locs cells slots) (hy : y < mm_nm) (hk : Nat.beq (mm_kc y) 99 = false) (ho : mm_isObj M a (mm_kc y) = true) : ∃ cellB : Cell, H[B + a]? = some cellB ∧ cellB.vm.isStatics = false ∧ s.vm.findClass (mm_on (mm_ow y)) = some cellB.cls := by
  obtain ⟨e1, e2⟩ := kc_own hy hk
  obtain ⟨g1, g2⟩ := mm_isObj_P ho
  rw [e1] at g2
  obtain ⟨-, hKn⟩ := sn_cls hC e2
  obtain ⟨cell, q1, q2, q3, -⟩ := (hI.1.2.1 a g1).2.2.2.2.2 (by rw [g2]; exact e2)
  rw [g2] at q2
  exact ⟨cell, q1, by rw [q3]; rfl, by rw [q2]; exact hKn.2.1⟩
set_option maxHeartbeats 4000000 in
/-- A CALL -/
theorem sn_call {q : mm_R} {idx : Nat} {as rest : List Value} {n d : Nat} {r1 : Option Value} {M1 : mm_M} (ih : sn_R l X n) (hC : sn_C D E X B p s m args meth c mi) (hI : sn_I D B s c0 s0 M H locs cells slots) (hsz : lsA.size = mm_mx mi) (hck : mm_ck mi pc q = true) (hq : q.1 = .invokevirtual idx ∨ (q.1 = .invokespecial idx ∧ Nat.beq q.2.2.1 999 = false) ∨ (q.1 = .invokestatic idx ∧ Nat.beq q.2.2.1 996 = false ∧ Nat.beq q.2.2.1 997 = false)) (hlen : as.length = q.2.2.2.1) (h8 : mm_w8 rest ≤ 8) (hn8 : ¬ q.2.2.1 = 998) (hrc : mm_rc M q.2.2.1 as = true) (hrun : mm_run X n d q.2.2.1 0 (mm_entry q.2.2.1 as) [] M = some (r1, M1))
    (hR : d + 1 + 20 ≤ R.frames ∧ 64 * (d + 1) + 400 ≤ R.locals ∧ M1.1.2.1 ≤ c0 + R.cells ∧ M1.1.2.2.1 ≤ s0 + R.slots)
    (kk : ∀ (H1 : Heap) (locs1 : List Loc) (cells1 slots1 : Nat), sn_I D B s c0 s0 M1 H1 locs1 cells1 slots1 → W p l e R s m args below meth c H1 locs1 cells1 slots1 Q (F0 m (pc + 3) lsA ((r1.toList ++ rest).map (mm_tr B E)))) : W p l e R s m args below meth c H locs cells slots Q (F0 m pc lsA ((as.reverse ++ rest).map (mm_tr B E))) := by
  obtain ⟨i, len, y, b, ps⟩ := q
  unfold mm_ck at hck
  rw [Bool.and_eq_true, decide_eq_true_eq] at hck
  obtain ⟨hd, hcx⟩ := hck
  have hx := hC.1
  have hb := hC.2.1
  have hml := hC.2.2.1
  have hown := hC.2.2.2.1
  have hts := hC.2.2.2.2.1
  have hE := hC.2.2.2.2.2.2.2.1
  have hB := hC.2.2.2.2.2.2.2.2.1
  have hnm := hC.2.2.2.2.2.2.2.2.2
  have hmono := mm_mono hrun
  have hS : CallFix p m c (mm_cc mi) (mm_mx mi) s args ws_all (mm_on (mm_ow mi)) := ⟨hx, hb, hml, hown, fun w hw => hts w (ws_good hw).1 (ws_good hw).2⟩
  have hmc : M.1.2.1 + (M1.1.2.1 - M.1.2.1) = M1.1.2.1 := by omega
  have hms : M.1.2.2.1 + (M1.1.2.2.1 - M.1.2.2.1) = M1.1.2.2.1 := by omega
  have hfit : cells + (M1.1.2.1 - M.1.2.1) ≤ R.cells ∧ slots + (M1.1.2.2.1 - M.1.2.2.1) ≤ R.slots := by
    have h1 := hI.2.2.1
    have h2 := hI.2.2.2
    omega
  have hk2 : ∀ (H1 : Heap) (locs1 : List Loc), sn_I D B s c0 s0 M1 H1 locs1 (cells + (M1.1.2.1 - M.1.2.1)) (slots + (M1.1.2.2.1 - M.1.2.2.1)) → W p l e R s m args below meth c H1 locs1 (cells + (M1.1.2.1 - M.1.2.1)) (slots + (M1.1.2.2.1 - M.1.2.2.1)) Q (F0 m (pc + 3) lsA ((r1.map (mm_tr B E)).toList ++ rest.map (mm_tr B E))) := by
    intro H1 locs1 h9
    have h10 := kk H1 locs1 _ _ h9
    rw [sn_tl] at h10
    exact h10
  have hcall : ∀ {y : Nat}, y ≠ 0 → y < mm_nm → mm_rc M y as = true → mm_run X n d y 0 (mm_entry y as) [] M = some (r1, M1) →
      Met l (mm_y y) (ws_y y) (rm_d d (M1.1.2.1 - M.1.2.1) (M1.1.2.2.1 - M.1.2.2.1)) (sn_Pc D E X B M as) (sn_Qc D E B r1 M1) (M1.1.2.1 - M.1.2.1) (M1.1.2.2.1 - M.1.2.2.1) (rl_A B) ∧ (d + 20 + 1 ≤ R.frames ∧ 8 + (mm_mx y + 11) + (64 * d + 400) ≤ R.locals) := fun h0 h1 h2 h3 => ⟨sn_met ih h0 h1 h2 h3 D E B, by have := mx_20 h1; omega⟩
  have hpre := sn_pre hC hI as
  rcases hq with hq | ⟨hq, h999⟩ | ⟨hq, h996, h997⟩
  · -- invokevirtual
    simp only at hq
    subst hq
    simp only [mm_cx, Bool.and_eq_true, decide_eq_true_eq, Bool.not_eq_true'] at hcx
    obtain ⟨⟨⟨⟨⟨⟨hl3, c1⟩, c2⟩, c3⟩, c4⟩, c5⟩, c6⟩ := hcx
    subst hl3
    have c1 := Nat.le_of_ble_eq_true c1
    have c2 : y ≠ 0 := fun z => by rw [z] at c2; cases c2
    have c6 := Nat.eq_of_beq_eq_true c6
    obtain ⟨hMt, hR1, hR2⟩ := hcall c2 c1 hrc hrun
    obtain ⟨hw1, hw2, hw3, hw4, hw5⟩ := sn_words hC c2 c1
    obtain ⟨hmw, hcls, -, -⟩ := me_at c2 c1
    have hrc2 := hrc
    unfold mm_rc at hrc2
    rw [Bool.and_eq_true] at hrc2
    have hrc3 := hrc2.2
    rw [c3, cond_false] at hrc3
    match as, hlen, hrc3, hMt, hpre with
    | .ref a :: t, hlen, hrc3, hMt, hpre =>
      have hrec := sn_recv hC hI c1 c3 hrc3
      have e1 : mm_tr B E (.ref a) = .ref (B + a) := by show Value.ref (mm_ad B E a) = _; rw [hI.1.ext (mm_isObj_P hrc3).1 E]
      have hin := hts _ (hmw (Cond.instanceMethod (mm_y y)) (by unfold mm_mw; rw [c3]; exact List.mem_cons_of_mem _ (List.mem_cons_of_mem _ List.mem_cons_self))) rfl
      have hse := hts _ (hmw (Cond.selects (mm_on (mm_ow y)) (mm_y y) (mm_y y)) (by unfold mm_mw; rw [c3, c4]; exact List.mem_cons_of_mem _ (List.mem_cons_of_mem _ (List.mem_cons_of_mem _ List.mem_cons_self)))) rfl
      have hst : (((Value.ref a :: t).reverse ++ rest).map (mm_tr B E)) = (t.map (mm_tr B E)).reverse ++ .ref (B + a) :: rest.map (mm_tr B E) := by
        rw [List.reverse_cons, List.append_assoc, List.map_append, List.map_reverse]
        simp only [List.map_append, List.map_cons, List.singleton_append, e1]
      have hpv : PreV s H (mm_on (mm_ow y)) (B + a) (sn_Pc D E X B M (.ref a :: t)) (t.map (mm_tr B E)) := ⟨sn_blind, hrec, fun U hU hW => by have h9 := hpre U hU hW; simp only [List.map_cons, e1] at h9; exact h9⟩
      have hlen2 : (t.map (mm_tr B E)).length = mm_pn y := by rw [List.length_map]; simp only [List.length_cons] at hlen; omega
      rw [hst]
      unfold mm_cM at c5
      split at c5
      · have c7 := of_decide_eq_true c5
        exact sn_after (va_runV (C := mm_on (mm_ow y)) (bytes := mm_cc y) (maxL := mm_mx y) (ret := mm_rt y) hS hMt ⟨⟨rfl, rfl, hR1, hR2, hw1, List.mem_cons_self, hw2, hw3, hw4, hw5, hts _ (sn_lk hnm c7) rfl⟩, hin, hse⟩ hpv rfl hlen2 hsz rfl (mm_w8_le m pc lsA _ h8) hd hfit) hI hB hmc hms hk2
      · have c7 := of_decide_eq_true c5
        exact sn_after (va_runVN (C := mm_on (mm_ow y)) (host := "NotchedCards") (bytes := mm_cc y) (maxL := mm_mx y) (ret := mm_rt y) hS hMt ⟨⟨⟨rfl, rfl, hR1, hR2, hw1, List.mem_cons_self⟩, hw2, hw3, hw4, hw5, va_Nw.use rfl (hE.1 _ (List.mem_of_getElem? c7))⟩, hin, hse⟩ hpv rfl hlen2 hsz rfl (mm_w8_le m pc lsA _ h8) hd hfit) hI hB hmc hms hk2
      · cases c5
    | [], _, hrc3, _, _ => cases hrc3
    | .int _ :: _, _, hrc3, _, _ => cases hrc3
    | .long _ :: _, _, hrc3, _, _ => cases hrc3
    | .float _ :: _, _, hrc3, _, _ => cases hrc3
    | .double _ :: _, _, hrc3, _, _ => cases hrc3
    | .null :: _, _, hrc3, _, _ => cases hrc3
    | .retAddr _ :: _, _, hrc3, _, _ => cases hrc3
  · -- invokespecial: a constructor
    simp only at hq
    subst hq
    simp only [mm_cx, Bool.and_eq_true, decide_eq_true_eq] at hcx
    obtain ⟨hl3, hcx⟩ := hcx
    subst hl3
    have h999 : Nat.beq y 999 = false := h999
    rw [h999, cond_false] at hcx
    simp only [Bool.and_eq_true, Bool.not_eq_true'] at hcx
    obtain ⟨⟨⟨⟨⟨c1, c2⟩, c3⟩, c4⟩, c5⟩, c6⟩ := hcx
    have c1 := Nat.le_of_ble_eq_true c1
    have c2 : y ≠ 0 := fun z => by rw [z] at c2; cases c2
    have c6 := Nat.eq_of_beq_eq_true c6
    obtain ⟨hMt, hR1, hR2⟩ := hcall c2 c1 hrc hrun
    obtain ⟨hw1, hw2, hw3, hw4, hw5⟩ := sn_words hC c2 c1
    obtain ⟨hmw, hcls, hii, -⟩ := me_at c2 c1
    have hrt : mm_rt y = none := by
      have h1 := mm_fo_at m1_all y c1
      unfold mm_m1 at h1
      rw [Bool.and_eq_true, Bool.and_eq_true, c4] at h1
      simpa using h1.1.2
    have hrc2 := hrc
    unfold mm_rc at hrc2
    rw [Bool.and_eq_true] at hrc2
    have hrc3 := hrc2.2
    rw [c3, cond_false] at hrc3
    unfold ws_y at hMt hw1
    rw [hrt] at hMt hw1 hw2
    match as, hlen, hrc3, hMt, hpre with
    | .ref a :: t, hlen, hrc3, hMt, hpre =>
      have e1 : mm_tr B E (.ref a) = .ref (B + a) := by show Value.ref (mm_ad B E a) = _; rw [hI.1.ext (mm_isObj_P hrc3).1 E]
      have hin := hts _ (hmw (Cond.instanceMethod (mm_y y)) (by unfold mm_mw; rw [c3]; exact List.mem_cons_of_mem _ (List.mem_cons_of_mem _ List.mem_cons_self))) rfl
      have hst : (((Value.ref a :: t).reverse ++ rest).map (mm_tr B E)) = (t.map (mm_tr B E)).reverse ++ .ref (B + a) :: rest.map (mm_tr B E) := by
        rw [List.reverse_cons, List.append_assoc, List.map_append, List.map_reverse]
        simp only [List.map_append, List.map_cons, List.singleton_append, e1]
      have hpv : PreS s H (sn_Pc D E X B M (.ref a :: t)) (.ref (B + a) :: t.map (mm_tr B E)) := ⟨sn_blind, fun U hU hW => by have h9 := hpre U hU hW; simp only [List.map_cons, e1] at h9; exact h9⟩
      have hlen2 : (t.map (mm_tr B E)).length = mm_pn y := by rw [List.length_map]; simp only [List.length_cons] at hlen; omega
      rw [hst]
      unfold mm_cM at c5
      split at c5
      · have c7 := of_decide_eq_true c5
        exact sn_after (va_runI (bytes := mm_cc y) (maxL := mm_mx y) hS hMt ⟨⟨rfl, rfl, hR1, hR2, hw1, List.mem_cons_self, hw2, hw3, hw4, hw5, hts _ (sn_lk hnm c7) rfl⟩, hii c4, hin⟩ hpv rfl hlen2 hsz rfl (mm_w8_le m pc lsA _ h8) hd hfit) hI hB hmc hms hk2
      · have c7 := of_decide_eq_true c5
        exact sn_after (va_runIN (host := "NotchedCards") (bytes := mm_cc y) (maxL := mm_mx y) hS hMt ⟨⟨⟨rfl, rfl, hR1, hR2, hw1, List.mem_cons_self⟩, hw2, hw3, hw4, hw5, va_Nw.use rfl (hE.1 _ (List.mem_of_getElem? c7))⟩, hii c4, hin⟩ hpv rfl hlen2 hsz rfl (mm_w8_le m pc lsA _ h8) hd hfit) hI hB hmc hms hk2
      · cases c5
    | [], _, hrc3, _, _ => cases hrc3
    | .int _ :: _, _, hrc3, _, _ => cases hrc3
    | .long _ :: _, _, hrc3, _, _ => cases hrc3
    | .float _ :: _, _, hrc3, _, _ => cases hrc3
    | .double _ :: _, _, hrc3, _, _ => cases hrc3
    | .null :: _, _, hrc3, _, _ => cases hrc3
    | .retAddr _ :: _, _, hrc3, _, _ => cases hrc3
  · -- invokestatic
    simp only at hq
    subst hq
    simp only [mm_cx, Bool.and_eq_true, decide_eq_true_eq] at hcx
    obtain ⟨hl3, hcx⟩ := hcx
    subst hl3
    have h996 : Nat.beq y 996 = false := h996
    have h997 : Nat.beq y 997 = false := h997
    have h998 : Nat.beq y 998 = false := by
      cases hbb : Nat.beq y 998 with
      | false => rfl
      | true => exact absurd (Nat.eq_of_beq_eq_true hbb) hn8
    rw [h996, h997, h998] at hcx
    simp only [cond_false, Bool.and_eq_true, Bool.not_eq_true'] at hcx
    obtain ⟨⟨⟨⟨c1, c2⟩, c3⟩, c5⟩, c6⟩ := hcx
    have c1 := Nat.le_of_ble_eq_true c1
    have c2 : y ≠ 0 := fun z => by rw [z] at c2; cases c2
    have c6 := Nat.eq_of_beq_eq_true c6
    obtain ⟨hMt, hR1, hR2⟩ := hcall c2 c1 hrc hrun
    obtain ⟨hw1, hw2, hw3, hw4, hw5⟩ := sn_words hC c2 c1
    obtain ⟨hmw, hcls, -, -⟩ := me_at c2 c1
    have hst9 := hts _ (hmw (Cond.static (mm_y y)) (by unfold mm_mw; rw [c3]; exact List.mem_cons_of_mem _ (List.mem_cons_of_mem _ List.mem_cons_self))) rfl
    have hst : ((as.reverse ++ rest).map (mm_tr B E)) = (as.map (mm_tr B E)).reverse ++ rest.map (mm_tr B E) := by
      rw [List.map_append, List.map_reverse]
    have hpv : PreS s H (sn_Pc D E X B M as) (as.map (mm_tr B E)) := ⟨sn_blind, hpre⟩
    have hlen2 : (as.map (mm_tr B E)).length = mm_pn y := by rw [List.length_map, hlen]; exact c6
    rw [hst]
    unfold mm_cM at c5
    split at c5
    · have c7 := of_decide_eq_true c5
      exact sn_after (va_runS (bytes := mm_cc y) (maxL := mm_mx y) (ret := mm_rt y) hS hMt ⟨⟨rfl, rfl, hR1, hR2, hw1, List.mem_cons_self, hw2, hw3, hw4, hw5, hts _ (sn_lk hnm c7) rfl⟩, hst9⟩ hpv rfl hlen2 hsz rfl (mm_w8_le m pc lsA _ h8) hd hfit) hI hB hmc hms hk2
    · have c7 := of_decide_eq_true c5
      exact sn_after (va_runSN (host := "NotchedCards") (bytes := mm_cc y) (maxL := mm_mx y) (ret := mm_rt y) hS hMt ⟨⟨⟨rfl, rfl, hR1, hR2, hw1, List.mem_cons_self⟩, hw2, hw3, hw4, hw5, va_Nw.use rfl (hE.1 _ (List.mem_of_getElem? c7))⟩, hst9, trivial⟩ hpv rfl hlen2 hsz rfl (mm_w8_le m pc lsA _ h8) hd hfit) hI hB hmc hms hk2
    · cases c5
end SNQ
end
section
/-! EVERY RUN is sound -/
set_option maxRecDepth 20000 in
theorem lk_w1 : Cond.codeWith yL_look cL_look 5 (some .int) [(0, 10, 13, 13), (0, 10, 17, 15)] ∈ lw_tbl := tb_5 _ (List.mem_of_getElem? (i := 105) rfl)
set_option maxRecDepth 20000 in
theorem lk_w2 : Cond.static yL_look ∈ lw_tbl := tb_5 _ (List.mem_of_getElem? (i := 104) rfl)
theorem lk_w3 : Cond.initialized RL ∈ lw_tbl := tb_1 _ (List.mem_of_getElem? (i := 0) rfl)
theorem lk_pd : (parseMethodDescriptor yL_look.desc).map (fun d => d.parameters.length) = some 4 := by decide +kernel
theorem lk_gw : goodWord (Cond.codeWith yL_look cL_look 5 (some .int) [(0, 10, 13, 13), (0, 10, 17, 15)]) = true := rfl
section SNA
variable {p : Program} {l : Launch} {e : Env} {R : Room} {s : State} {m : MethodId} {args : Array Value} {below : List Frame} {meth : Method} {c : Code} {H : Heap} {locs : List Loc} {cells slots : Nat} {Q : State → Prop}
variable {D : va_G} {E : Nat → Nat} {X : mm_X} {B c0 s0 : Nat} {mi pc : Nat} {lsA : Array Slot} {M : mm_M}
theorem sn_lookc {idx : Nat} {as rest : List Value} {r1 : Option Value} {M1 : mm_M} (hlk : lk_C l) (hC : sn_C D E X B p s m args meth c mi) (hI : sn_I D B s c0 s0 M H locs cells slots) (hsz : lsA.size = mm_mx mi) (hd : decode (mm_cc mi) pc = .ok (.invokestatic idx, 3)) (hln : mm_lc (mm_ow mi) (7, idx, 0, 0) ∈ lw_tbl) (hlen : as.length = 4) (h8 : mm_w8 rest ≤ 8) (hrun : mm_look M as = some (r1, M1))
    (hR : 35 ≤ R.frames ∧ 1300 ≤ R.locals ∧ M1.1.2.1 ≤ c0 + R.cells ∧ M1.1.2.2.1 ≤ s0 + R.slots)
    (kk : ∀ (H1 : Heap) (locs1 : List Loc) (cells1 slots1 : Nat), sn_I D B s c0 s0 M1 H1 locs1 cells1 slots1 → W p l e R s m args below meth c H1 locs1 cells1 slots1 Q (F0 m (pc + 3) lsA ((r1.toList ++ rest).map (mm_tr B E)))) : W p l e R s m args below meth c H locs cells slots Q (F0 m pc lsA ((as.reverse ++ rest).map (mm_tr B E))) := by
  have hts := hC.2.2.2.2.1
  have hB := hC.2.2.2.2.2.2.2.2.1
  have hS : CallFix p m c (mm_cc mi) (mm_mx mi) s args ws_all (mm_on (mm_ow mi)) := ⟨hC.1, hC.2.1, hC.2.2.1, hC.2.2.2.1, fun w hw => hts w (ws_good hw).1 (ws_good hw).2⟩
  obtain ⟨g1, g2⟩ := mo_look hrun
  have hst : ((as.reverse ++ rest).map (mm_tr B E)) = (as.map (mm_tr B E)).reverse ++ rest.map (mm_tr B E) := by rw [List.map_append, List.map_reverse]
  rw [hst]
  refine sn_after (vx_runSW (hh := [(0, 10, 13, 13), (0, 10, 17, 15)]) (bytes := cL_look) (maxL := 5) (ret := some .int) (n := 4) (rest := rest.map (mm_tr B E)) hS (hlk D E X B M M1 as r1 hrun) ⟨⟨rfl, rfl, by show 10 + 20 + 1 ≤ R.frames; omega, by show 8 + (5 + 11) + (64 * 10 + 400) ≤ R.locals; omega, fun w hw a' U hW => ?_, List.mem_cons_self⟩, hts _ lk_w1 lk_gw, hts _ lk_w3 rfl, ⟨by decide +kernel, by decide +kernel⟩, fun sig hs => ?_, hts _ hln rfl, hts _ lk_w2 rfl⟩ ⟨sn_blind, sn_pre hC hI as⟩ rfl (by rw [List.length_map]; exact hlen) hsz rfl (mm_w8_le m pc lsA _ h8) hd ⟨by have := hI.2.2.1; omega, by have := hI.2.2.2; omega⟩) hI hB (by omega) (by omega) ?_
  · rcases List.mem_cons.mp hw with rfl | hw
    · exact word_at hW (good_of_word lk_gw) (hts _ lk_w1 lk_gw)
    · exact word_at hW (good_of_word (ws_good hw).2) (hts _ (ws_good hw).1 (ws_good hw).2)
  · have h2 := lk_pd
    rw [hs] at h2
    exact (Option.some.inj h2).symm
  · intro H1 locs1 h9
    have h10 := kk H1 locs1 _ _ h9
    rw [sn_tl] at h10
    exact h10
end SNA
set_option maxHeartbeats 2000000 in
theorem sn_run {l : Launch} {X : mm_X} : ∀ n : Nat, sn_R l X n := by
  intro n
  induction n with
  | zero => intro d mi pc ls st M MF r h; cases h
  | succ n ih =>
    intro d mi pc ls st M MF r h p e R s m args below meth c H locs cells slots Q D E B c0 s0 lsA h12 hC hI hl hR hfin
    obtain ⟨q, o, hrow, hs, ho⟩ := mm_run_1 h
    have hck := mm_ck_all mi pc q hrow
    refine sn_one hC hrow hI hl (by omega) (by omega) (fun o' => o' = o) (by rw [mm_stepK_eq, hs]) ?_ ?_
    · intro pc' ls' st' M' eo
      subst eo
      have hm := mm_mono ho
      exact ⟨⟨by omega, by omega⟩, fun H' locs' lsA' cells' slots' hI' hl' => ih d mi pc' ls' st' M' MF r ho h12 hC hI' hl' hR hfin⟩
    · intro z eo
      subst eo
      have hz : mm_stepK X q pc ls st M (fun o => match o with | .inl _ => False | .inr z' => z' = z) False := by rw [mm_stepK_eq, hs]
      have hdec : decode (mm_cc mi) pc = .ok (q.1, q.2.1) ∧ mm_cx mi pc q = true := by
        unfold mm_ck at hck
        rw [Bool.and_eq_true, decide_eq_true_eq] at hck
        exact hck
      rcases mm_inr hz with ⟨h1, h2, h3⟩ | ⟨h1, x, h2, h3, h4⟩ | ⟨h1, x, h2, h3⟩ | ⟨idx, h1, as, rest, h2, h3, h4⟩
      · subst h3
        obtain ⟨rfl, rfl⟩ := ho
        obtain ⟨i, len, a, b, ps⟩ := q
        simp only at h1
        subst h1
        subst h2
        obtain ⟨hd, hcx⟩ := hdec
        simp only [mm_cx, Bool.and_eq_true, decide_eq_true_eq] at hcx
        obtain ⟨rfl, hrt⟩ := hcx
        exact hfin pc H locs lsA cells slots ⟨hd, hrt⟩ hI
      · subst h3
        obtain ⟨rfl, rfl⟩ := ho
        obtain ⟨i, len, a, b, ps⟩ := q
        simp only at h1
        subst h1
        subst h2
        obtain ⟨hd, hcx⟩ := hdec
        simp only [mm_cx, Bool.and_eq_true, decide_eq_true_eq] at hcx
        obtain ⟨rfl, hrt⟩ := hcx
        refine hfin pc H locs lsA cells slots ⟨hd, ?_⟩ hI
        rcases hrt with ⟨-, hrt⟩ | ⟨ha, hrt⟩
        · exact Or.inl hrt
        · refine Or.inr ⟨hrt, ?_⟩
          rcases h4 with h4 | h4
          · have h4 : a = 0 := h4
            omega
          · exact h4
      · subst h3
        obtain ⟨rfl, rfl⟩ := ho
        obtain ⟨i, len, a, b, ps⟩ := q
        simp only at h1
        subst h1
        subst h2
        obtain ⟨hd, hcx⟩ := hdec
        simp only [mm_cx, Bool.and_eq_true, decide_eq_true_eq] at hcx
        obtain ⟨rfl, hrt⟩ := hcx
        exact hfin pc H locs lsA cells slots ⟨hd, hrt⟩ hI
      · subst h4
        obtain ⟨d', r1, M1, hdd, h8, hcal, hnext⟩ := ho
        subst hdd
        subst h2
        have hm := mm_mono hnext
        by_cases hy : q.2.2.1 = 998
        · rw [if_pos hy] at hcal
          obtain ⟨i, len, a, b, ps⟩ := q
          simp only at hy h1 h3
          subst hy
          obtain ⟨hd, hcx⟩ := hdec
          rcases h1 with h1 | ⟨h1, -⟩ | ⟨h1, -, -⟩
          · subst h1
            simp only [mm_cx, Bool.and_eq_true] at hcx
            have := hcx.1.1.1.1.1.2
            cases this
          · subst h1
            simp only [mm_cx, Bool.and_eq_true, decide_eq_true_eq] at hcx
            have e9 : Nat.beq 998 999 = false := rfl
            rw [e9, cond_false] at hcx
            simp only [Bool.and_eq_true] at hcx
            have := hcx.2.1.1.1.1.1
            cases this
          · subst h1
            simp only [mm_cx, Bool.and_eq_true, decide_eq_true_eq] at hcx
            obtain ⟨rfl, hcx⟩ := hcx
            have e6 : Nat.beq 998 996 = false := rfl
            have e7 : Nat.beq 998 997 = false := rfl
            have e8 : Nat.beq 998 998 = true := rfl
            rw [e6, e7, e8] at hcx
            simp only [cond_false, cond_true, Bool.and_eq_true] at hcx
            obtain ⟨⟨hps, hb4⟩, how⟩ := hcx
            have hb4 := Nat.eq_of_beq_eq_true hb4
            have how := Nat.eq_of_beq_eq_true how
            obtain ⟨hd15, hlk⟩ := h12 how
            split at hps
            · have c2 := of_decide_eq_true hps
              exact sn_lookc hlk hC hI (by rw [← hl.2.1]) hd (sn_lk hC.2.2.2.2.2.2.2.2.2 c2) (by rw [h3]; exact hb4) h8 hcal ⟨by omega, by omega, by omega, by omega⟩ (fun H1 locs1 cells1 slots1 hI1 => ih (d' + 1) mi (pc + 3) ls (r1.toList ++ rest) M1 MF r hnext h12 hC hI1 hl hR hfin)
            · cases hps
        · rw [if_neg hy] at hcal
          exact sn_call ih hC hI (by rw [← hl.2.1]) hck h1 h3 h8 hy hcal.1 hcal.2 ⟨by omega, by omega, by omega, by omega⟩ (fun H1 locs1 cells1 slots1 hI1 => ih (d' + 1) mi (pc + 3) ls (r1.toList ++ rest) M1 MF r hnext h12 hC hI1 hl hR hfin)
end
section
/-! THE SCRIPT is the law's alone: a run that has no reference to it doesn't depend on it -/
noncomputable def ns_L (l : List Value) : Prop := ∀ v ∈ l, v ≠ .ref mm_ext
noncomputable def ns_H (M : mm_M) : Prop := ∀ a i, M.2.2.2 a i ≠ some mm_ext
noncomputable def ns_P (o : mm_O) : Prop := match o with
  | .inl (_, ls, st, M1) => ns_L ls ∧ ns_L st ∧ ns_H M1
  | .inr (.inl (_, as, rest)) => ns_L as ∧ ns_L rest
  | .inr (.inr r) => ∀ v, r = some v → v ≠ .ref mm_ext
theorem ns_ni {x : Int32} : Value.int x ≠ .ref mm_ext := fun z => nomatch z
theorem ns_nl {x : Int64} : Value.long x ≠ .ref mm_ext := fun z => nomatch z
theorem ns_nn : Value.null ≠ .ref mm_ext := fun z => nomatch z
theorem ns_t {v : Value} {l : List Value} (h : ns_L (v :: l)) : ns_L l := fun w hw => h w (List.mem_cons_of_mem _ hw)
theorem ns_c {v : Value} {l : List Value} (hv : v ≠ .ref mm_ext) (h : ns_L l) : ns_L (v :: l) := fun w hw => (List.mem_cons.mp hw).elim (fun e => by rw [e]; exact hv) (h w)
theorem ns_i {x : Int32} {l : List Value} (h : ns_L l) : ns_L (.int x :: l) := ns_c (fun z => nomatch z) h
theorem ns_l {x : Int64} {l : List Value} (h : ns_L l) : ns_L (.long x :: l) := ns_c (fun z => nomatch z) h
theorem ns_r {x : Nat} {l : List Value} (hx : x ≠ mm_ext) (h : ns_L l) : ns_L (.ref x :: l) := ns_c (fun z => hx (by cases z; rfl)) h
theorem ns_hd {x : Nat} {l : List Value} (h : ns_L (.ref x :: l)) : x ≠ mm_ext := fun e => h _ List.mem_cons_self (by rw [e])
theorem ns_at {l : List Value} (h : ns_L l) (k : Nat) {x : Nat} (e : mm_at l k = .ref x) : x ≠ mm_ext := by
  have key : ∀ (l : List Value) (k : Nat), mm_at l k = .null ∨ mm_at l k ∈ l := by
    intro l
    induction l with
    | nil => intro k; cases k <;> exact Or.inl rfl
    | cons a t ih =>
      intro k
      cases k with
      | zero => exact Or.inr List.mem_cons_self
      | succ k => exact (ih k).imp id (fun z => List.mem_cons_of_mem _ z)
  rcases key l k with z | z
  · rw [z] at e; cases e
  · intro hx
    exact h _ z (by rw [e, hx])
theorem ns_set {v : Value} (hv : v ≠ .ref mm_ext) : ∀ {l : List Value} (k : Nat), ns_L l → ns_L (mm_set l k v)
  | [], _, h => h
  | _ :: _, 0, h => ns_c hv (ns_t h)
  | w :: t, k + 1, h => ns_c (h w List.mem_cons_self) (ns_set hv k (ns_t h))
theorem ns_pI {st : List Value} {K : Int32 → List Value → Prop} (h : ∀ x r, st = .int x :: r → K x r) : mm_pI st K True := by unfold mm_pI; split; exact h _ _ rfl; trivial
theorem ns_pL {st : List Value} {K : Int64 → List Value → Prop} (h : ∀ x r, st = .long x :: r → K x r) : mm_pL st K True := by unfold mm_pL; split; exact h _ _ rfl; trivial
theorem ns_pR {st : List Value} {K : Nat → List Value → Prop} (h : ∀ x r, st = .ref x :: r → K x r) : mm_pR st K True := by unfold mm_pR; split; exact h _ _ rfl; trivial
theorem ns_p1 {st : List Value} {K : Value → List Value → Prop} (h : ∀ x r, st = x :: r → K x r) : mm_p1 st K True := by unfold mm_p1; split; exact h _ _ rfl; exact h _ _ rfl; trivial
theorem ns_gR {v : Value} {K : Nat → Prop} (h : ∀ x, v = .ref x → K x) : mm_gR v K True := by unfold mm_gR; split; exact h _ rfl; trivial
theorem ns_gO {v : Option Nat} {K : Nat → Prop} (h : ∀ x, v = some x → K x) : mm_gO v K True := by unfold mm_gO; split; exact h _ rfl; trivial
theorem ns_b {b : Bool} {k : Prop} (h : b = true → k) : mm_b b k True := by cases b; trivial; exact h rfl
theorem ns_bb {b : Bool} {k j : Prop} (h : k) (h2 : j) : mm_b b k j := by cases b <;> assumption
theorem ns_n {c : Prop} [Decidable c] {e : Prop} (h : ¬ c → e) : if c then True else e := by
  by_cases hc : c
  · rw [if_pos hc]; trivial
  · rw [if_neg hc]; exact h hc
theorem ns_pop {K : List Value → List Value → Prop} : ∀ {n : Nat} {as st : List Value}, ns_L as → ns_L st → (∀ x r, ns_L x → ns_L r → K x r) → mm_pop n as st K True
  | 0, _, _, h1, h2, h => h _ _ h1 h2
  | _ + 1, _, [], _, _, _ => trivial
  | n + 1, as, v :: r, h1, h2, h => ns_pop (n := n) (ns_c (h2 v List.mem_cons_self) h1) (ns_t h2) h
theorem ns_setR {M : mm_M} {a i x : Nat} (h : ns_H M) (hx : x ≠ mm_ext) : ns_H (mm_setR M a i (some x)) := by
  intro b j z
  have z2 : (if b = a ∧ j = i then some x else M.2.2.2 b j) = some mm_ext := z
  by_cases hh : b = a ∧ j = i
  · rw [if_pos hh] at z2; cases z2; exact hx rfl
  · rw [if_neg hh] at z2; exact h b j z2
set_option maxHeartbeats 4000000 in
theorem ns_step (X : mm_X) (q : mm_R) (pc mi : Nat) (ls st : List Value) (M : mm_M) (hck : mm_ck mi pc q = true) (h1 : ns_L ls) (h2 : ns_L st) (h3 : ns_H M) : mm_stepK X q pc ls st M ns_P True := by
  obtain ⟨i, len, a, b, ps⟩ := q
  cases i with
  | aload k => exact ns_gR fun x e => ⟨h1, ns_r (ns_at h1 _ e) h2, h3⟩
  | aload_n k => exact ns_gR fun x e => ⟨h1, ns_r (ns_at h1 _ e) h2, h3⟩
  | iload k => exact mo_gI fun x => ⟨h1, ns_i h2, h3⟩
  | iload_n k => exact mo_gI fun x => ⟨h1, ns_i h2, h3⟩
  | lload k => exact mo_gL fun x => mo_b ⟨h1, ns_l h2, h3⟩ trivial
  | lload_n k => exact mo_gL fun x => mo_b ⟨h1, ns_l h2, h3⟩ trivial
  | istore k => exact ns_pI fun x r e => mo_b ⟨ns_set ns_ni _ h1, ns_t (e ▸ h2), h3⟩ trivial
  | istore_n k => exact ns_pI fun x r e => mo_b ⟨ns_set ns_ni _ h1, ns_t (e ▸ h2), h3⟩ trivial
  | astore k => exact ns_pR fun x r e => mo_b ⟨ns_set (h2 _ (by rw [e]; exact List.mem_cons_self)) _ h1, ns_t (e ▸ h2), h3⟩ trivial
  | astore_n k => exact ns_pR fun x r e => mo_b ⟨ns_set (h2 _ (by rw [e]; exact List.mem_cons_self)) _ h1, ns_t (e ▸ h2), h3⟩ trivial
  | lstore k => exact ns_pL fun x r e => mo_b ⟨ns_set ns_nn _ (ns_set ns_nl _ h1), ns_t (e ▸ h2), h3⟩ trivial
  | lstore_n k => exact ns_pL fun x r e => mo_b ⟨ns_set ns_nn _ (ns_set ns_nl _ h1), ns_t (e ▸ h2), h3⟩ trivial
  | iinc k n => exact mo_gI fun x => mo_b ⟨ns_set ns_ni _ h1, h2, h3⟩ trivial
  | iconst n => exact ⟨h1, ns_i h2, h3⟩
  | bipush n => exact ⟨h1, ns_i h2, h3⟩
  | sipush n => exact ⟨h1, ns_i h2, h3⟩
  | ldc n => exact ⟨h1, ns_i h2, h3⟩
  | ldc_w n => exact ⟨h1, ns_i h2, h3⟩
  | lconst n => exact ⟨h1, ns_l h2, h3⟩
  | ldc2_w n => exact ⟨h1, ns_l h2, h3⟩
  | idiv => exact ns_pI fun y r e => ns_pI fun x r2 e2 => ns_n fun _ => ⟨h1, ns_i (ns_t (e2 ▸ ns_t (e ▸ h2))), h3⟩
  | irem => exact ns_pI fun y r e => ns_pI fun x r2 e2 => ns_n fun _ => ⟨h1, ns_i (ns_t (e2 ▸ ns_t (e ▸ h2))), h3⟩
  | ldiv => exact ns_pL fun y r e => ns_pL fun x r2 e2 => ns_n fun _ => ⟨h1, ns_l (ns_t (e2 ▸ ns_t (e ▸ h2))), h3⟩
  | lcmp => exact ns_pL fun y r e => ns_pL fun x r2 e2 => ⟨h1, ns_i (ns_t (e2 ▸ ns_t (e ▸ h2))), h3⟩
  | i2l => exact ns_pI fun y r e => ⟨h1, ns_l (ns_t (e ▸ h2)), h3⟩
  | l2i => exact ns_pL fun y r e => ⟨h1, ns_i (ns_t (e ▸ h2)), h3⟩
  | i2b => exact ns_pI fun y r e => ⟨h1, ns_i (ns_t (e ▸ h2)), h3⟩
  | dup =>
    have h : mm_p1 st (fun v st => ns_P (.inl (pc + len, ls, v :: v :: st, M))) True := ns_p1 fun v r e => by
      subst e
      exact ⟨h1, ns_c (h2 v List.mem_cons_self) h2, h3⟩
    exact h
  | pop =>
    have h : mm_p1 st (fun _ st => ns_P (.inl (pc + len, ls, st, M))) True := ns_p1 fun v r e => ⟨h1, ns_t (e ▸ h2), h3⟩
    exact h
  | dup2 =>
    have h : mm_p1 st (fun v st => mm_p1 st (fun w st => ns_P (.inl (pc + len, ls, v :: w :: v :: w :: st, M))) True) True := ns_p1 fun v r e => ns_p1 fun w r2 e2 => by
      subst e
      subst e2
      exact ⟨h1, ns_c (h2 v List.mem_cons_self) (ns_c (h2 w (List.mem_cons_of_mem _ List.mem_cons_self)) h2), h3⟩
    exact h
  | pop2 => exact ns_pL fun y r e => ⟨h1, ns_t (e ▸ h2), h3⟩
  | goto n => exact ⟨h1, h2, h3⟩
  | ifCond c n => exact ns_pI fun x r e => mo_c ⟨h1, ns_t (e ▸ h2), h3⟩ ⟨h1, ns_t (e ▸ h2), h3⟩
  | if_icmp c n => exact ns_pI fun y r e => ns_pI fun x r2 e2 => mo_c ⟨h1, ns_t (e2 ▸ ns_t (e ▸ h2)), h3⟩ ⟨h1, ns_t (e2 ▸ ns_t (e ▸ h2)), h3⟩
  | tableswitch d lo hi os => exact ns_pI fun x r e => mo_i ⟨h1, ns_t (e ▸ h2), h3⟩ (mo_gO fun t => ⟨h1, ns_t (e ▸ h2), h3⟩)
  | iaload => exact ns_pI fun i r e => ns_pR fun x r2 e2 => mo_b (ns_n fun _ => ⟨h1, ns_i (ns_t (e2 ▸ ns_t (e ▸ h2))), h3⟩) (mo_b (ns_n fun _ => ⟨h1, ns_i (ns_t (e2 ▸ ns_t (e ▸ h2))), h3⟩) trivial)
  | laload => exact ns_pI fun i r e => ns_pR fun x r2 e2 => mo_b (ns_n fun _ => ⟨h1, ns_l (ns_t (e2 ▸ ns_t (e ▸ h2))), h3⟩) trivial
  | baload => exact ns_pI fun i r e => ns_pR fun x r2 e2 => mo_b (ns_n fun _ => ⟨h1, ns_i (ns_t (e2 ▸ ns_t (e ▸ h2))), h3⟩) trivial
  | aaload => exact ns_pI fun i r e => ns_pR fun x r2 e2 => mo_b (ns_n fun _ => ns_gO fun y ey => ⟨h1, ns_r (fun z => h3 _ _ (z ▸ ey)) (ns_t (e2 ▸ ns_t (e ▸ h2))), h3⟩) trivial
  | iastore => exact ns_pI fun x r e => ns_pI fun i r2 e2 => ns_pR fun y r3 e3 => mo_b (ns_n fun _ => ⟨h1, ns_t (e3 ▸ ns_t (e2 ▸ ns_t (e ▸ h2))), h3⟩) trivial
  | lastore => exact ns_pL fun x r e => ns_pI fun i r2 e2 => ns_pR fun y r3 e3 => mo_b (ns_n fun _ => ⟨h1, ns_t (e3 ▸ ns_t (e2 ▸ ns_t (e ▸ h2))), h3⟩) trivial
  | bastore => exact ns_pI fun x r e => ns_pI fun i r2 e2 => ns_pR fun y r3 e3 => mo_b (ns_n fun _ => ⟨h1, ns_t (e3 ▸ ns_t (e2 ▸ ns_t (e ▸ h2))), h3⟩) (mo_b (ns_n fun _ => ⟨h1, ns_t (e3 ▸ ns_t (e2 ▸ ns_t (e ▸ h2))), h3⟩) trivial)
  | arraylength => exact ns_pR fun x r e => mo_b ⟨h1, ns_i (ns_t (e ▸ h2)), h3⟩ (mo_b ⟨h1, ns_i (ns_t (e ▸ h2)), h3⟩ trivial)
  | getfield n =>
    clear hck
    refine ns_pR fun x r e => mo_b ?_ trivial
    show (match ps with
      | 0 :: _ => ns_P (.inl (pc + len, ls, .int (M.2.1 x b) :: r, M))
      | 1 :: _ => ns_P (.inl (pc + len, ls, .int (M.2.1 x b) :: r, M))
      | 2 :: _ => ns_P (.inl (pc + len, ls, .long (M.2.2.1 x b) :: r, M))
      | 3 :: _ => mm_gO (M.2.2.2 x b) (fun y => ns_P (.inl (pc + len, ls, .ref y :: r, M))) True
      | _ => True)
    split
    · exact ⟨h1, ns_i (ns_t (e ▸ h2)), h3⟩
    · exact ⟨h1, ns_i (ns_t (e ▸ h2)), h3⟩
    · exact ⟨h1, ns_l (ns_t (e ▸ h2)), h3⟩
    · exact ns_gO fun y ey => ⟨h1, ns_r (fun z => h3 _ _ (z ▸ ey)) (ns_t (e ▸ h2)), h3⟩
    · trivial
  | putfield n =>
    clear hck
    show (match ps with
      | 0 :: _ => mm_pI st (fun x st => mm_pR st (fun y st => mm_b (mm_isObj M y a) (ns_P (.inl (pc + len, ls, st, mm_setI M y b x))) True) True) True
      | 1 :: _ => mm_pI st (fun x st => mm_pR st (fun y st => mm_b (mm_isObj M y a) (if x = 0 ∨ x = 1 then ns_P (.inl (pc + len, ls, st, mm_setI M y b x)) else True) True) True) True
      | 2 :: _ => mm_pL st (fun x st => mm_pR st (fun y st => mm_b (mm_isObj M y a) (ns_P (.inl (pc + len, ls, st, mm_setL M y b x))) True) True) True
      | 3 :: _ => mm_pR st (fun x st => mm_pR st (fun y st => mm_b (mm_isObj M y a) (mm_b (Nat.blt x M.1.1.1) (ns_P (.inl (pc + len, ls, st, mm_setR M y b (some x)))) True) True) True) True
      | _ => True)
    split
    · exact ns_pI fun x r e => ns_pR fun y r2 e2 => mo_b ⟨h1, ns_t (e2 ▸ ns_t (e ▸ h2)), h3⟩ trivial
    · exact ns_pI fun x r e => ns_pR fun y r2 e2 => mo_b (mo_i ⟨h1, ns_t (e2 ▸ ns_t (e ▸ h2)), h3⟩ trivial) trivial
    · exact ns_pL fun x r e => ns_pR fun y r2 e2 => mo_b ⟨h1, ns_t (e2 ▸ ns_t (e ▸ h2)), h3⟩ trivial
    · exact ns_pR fun x r e => ns_pR fun y r2 e2 => mo_b (mo_b ⟨h1, ns_t (e2 ▸ ns_t (e ▸ h2)), ns_setR h3 (ns_hd (e ▸ h2))⟩ trivial) trivial
    · trivial
  | getstatic n =>
    refine ⟨h1, ns_r ?_ h2, h3⟩
    unfold mm_ck at hck
    rw [Bool.and_eq_true] at hck
    have hcx := hck.2
    simp only [mm_cx, Bool.and_eq_true, decide_eq_true_eq] at hcx
    have h9 := hcx.1.1.2
    show mm_ext + a ≠ mm_ext
    omega
  | new n => exact ns_b fun g => ⟨h1, ns_r (by rw [Bool.and_eq_true] at g; have := Nat.le_of_ble_eq_true g.2; have he : mm_ext = 1000000 := rfl; omega) h2, h3⟩
  | newarray n => exact ns_pI fun x r e => ns_n fun _ => ns_b fun g => ⟨h1, ns_r (by rw [Bool.and_eq_true] at g; have := Nat.le_of_ble_eq_true g.2; have he : mm_ext = 1000000 := rfl; omega) (ns_t (e ▸ h2)), h3⟩
  | multianewarray n d => exact ns_pI fun x r e => ns_pI fun y r2 e2 => ns_n fun hn => ns_b fun g => ⟨h1, ns_r (by rw [Bool.and_eq_true] at g; have := Nat.le_of_ble_eq_true g.2; have he : mm_ext = 1000000 := rfl; omega) (ns_t (e2 ▸ ns_t (e ▸ h2))), by
      intro b2 j z
      rw [Bool.and_eq_true] at g
      have g2 := Nat.le_of_ble_eq_true g.2
      have he : mm_ext = 1000000 := rfl
      have hle : y.toNatClampNeg ≤ 1000 := Nat.not_lt.mp fun q => hn (Or.inr (Or.inl q))
      have z2 : mm_refs y.toNatClampNeg M.1.1.1 0 (M.1.1.1 + 1) M.2.2.2 b2 j = some mm_ext := z
      rw [mm_refs_1] at z2
      by_cases hh : b2 = M.1.1.1 ∧ 0 ≤ j ∧ j < 0 + y.toNatClampNeg
      · rw [if_pos hh] at z2
        have := Option.some.inj z2
        omega
      · rw [if_neg hh] at z2
        exact h3 _ _ z2⟩
  | invokevirtual n => exact ns_pop (fun _ h => absurd h List.not_mem_nil) h2 fun x r g1 g2 => ⟨g1, g2⟩
  | invokespecial n =>
    have hh : mm_pR st (fun _ st => mm_e st (ns_P (.inl (pc + len, ls, st, M))) True) True := ns_pR fun x r e => by
      subst e
      have h : mm_e r (ns_P (.inl (pc + len, ls, r, M))) True := mo_e ⟨h1, ns_t h2, h3⟩
      exact h
    exact mo_b hh (ns_pop (fun _ h => absurd h List.not_mem_nil) h2 fun x r g1 g2 => ⟨g1, g2⟩)
  | invokestatic n => exact mo_b (ns_pI fun y r e => ns_pI fun x r2 e2 => mo_b ⟨h1, ns_i (ns_t (e2 ▸ ns_t (e ▸ h2))), h3⟩ trivial) (mo_b (ns_pI fun y r e => ns_pI fun x r2 e2 => mo_b ⟨h1, ns_i (ns_t (e2 ▸ ns_t (e ▸ h2))), h3⟩ trivial) (ns_pop (fun _ h => absurd h List.not_mem_nil) h2 fun x r g1 g2 => ⟨g1, g2⟩))
  | ireturn =>
    clear hck
    refine mo_pI fun x r => mo_e ?_
    show (match a with
      | 0 => ns_P (.inr (.inr (some (.int x))))
      | _ => if x = 0 ∨ x = 1 then ns_P (.inr (.inr (some (.int x)))) else True)
    have hr : ns_P (.inr (.inr (some (.int x)))) := fun v z => by cases z; exact fun z => nomatch z
    split
    · exact hr
    · exact mo_i hr trivial
  | lreturn => exact mo_pL fun x r => mo_e (fun v z => by cases z; exact fun z => nomatch z)
  | return_ => exact mo_e (fun v z => nomatch z)
  | _ =>
    first
      | trivial
      | exact ns_pI fun y r e => ns_pI fun x r2 e2 => ⟨h1, ns_i (ns_t (e2 ▸ ns_t (e ▸ h2))), h3⟩
      | exact ns_pL fun y r e => ns_pL fun x r2 e2 => ⟨h1, ns_l (ns_t (e2 ▸ ns_t (e ▸ h2))), h3⟩
      | exact ns_pI fun y r e => ns_pL fun x r2 e2 => ⟨h1, ns_l (ns_t (e2 ▸ ns_t (e ▸ h2))), h3⟩
theorem ns_step1 {X : mm_X} {q : mm_R} {pc mi : Nat} {ls st : List Value} {M : mm_M} {o : mm_O} (hck : mm_ck mi pc q = true) (h1 : ns_L ls) (h2 : ns_L st) (h3 : ns_H M) (h : mm_step X q pc ls st M = some o) : ns_P o := by
  have g := ns_step X q pc mi ls st M hck h1 h2 h3
  rw [mm_stepK_eq, h] at g
  exact g
/-- rows but the script are the same -/
noncomputable def ns_X (X Y : mm_X) : Prop := ∀ e, e ≠ 0 → X e = Y e
theorem ns_same {X Y : mm_X} (hX : ns_X X Y) (q : mm_R) (pc : Nat) (ls st : List Value) (M : mm_M) (h2 : ns_L st) : mm_step X q pc ls st M = mm_step Y q pc ls st M := by
  obtain ⟨i, len, a, b, ps⟩ := q
  have hx : ∀ {x : Nat} {r : List Value}, ns_L (.ref x :: r) → Nat.ble mm_ext x = true → X (x - mm_ext) = Y (x - mm_ext) := fun h g => hX _ (by have := ns_hd h; have := Nat.le_of_ble_eq_true g; omega)
  cases i with
  | iaload =>
    unfold mm_step
    simp only [mm_stepK]
    match st, h2 with
    | .int i :: .ref x :: r, h2 =>
      simp only [mm_pI, mm_pR]
      cases g : Nat.ble mm_ext x with
      | true => simp only [mm_b]; rw [hx (ns_t h2) g]
      | false => simp only [mm_b]
    | [], _ => rfl
    | [.int i], _ => rfl
    | .int i :: .int x :: r, _ => rfl
    | .int i :: .long x :: r, _ => rfl
    | .int i :: .float x :: r, _ => rfl
    | .int i :: .double x :: r, _ => rfl
    | .int i :: .null :: r, _ => rfl
    | .int i :: .retAddr x :: r, _ => rfl
    | .ref i :: _, _ => rfl
    | .long i :: _, _ => rfl
    | .float i :: _, _ => rfl
    | .double i :: _, _ => rfl
    | .null :: _, _ => rfl
    | .retAddr i :: _, _ => rfl
  | arraylength =>
    unfold mm_step
    simp only [mm_stepK]
    match st, h2 with
    | .ref x :: r, h2 =>
      simp only [mm_pR]
      cases g : Nat.ble mm_ext x with
      | true => simp only [mm_b]; rw [hx h2 g]
      | false => simp only [mm_b]
    | [], _ => rfl
    | .int i :: _, _ => rfl
    | .long i :: _, _ => rfl
    | .float i :: _, _ => rfl
    | .double i :: _, _ => rfl
    | .null :: _, _ => rfl
    | .retAddr i :: _, _ => rfl
  | _ => rfl
theorem ns_sl {as : List Value} (h : ns_L as) : ns_L (mm_sl as) := by
  induction as with
  | nil => exact h
  | cons v t ih =>
    cases v with
    | long x => exact ns_c (fun z => nomatch z) (ns_c (fun z => nomatch z) (ih (ns_t h)))
    | _ => exact ns_c (h _ List.mem_cons_self) (ih (ns_t h))
theorem ns_entry {y : Nat} {as : List Value} (h : ns_L as) : ns_L (mm_entry y as) := fun v hv => (List.mem_append.mp hv).elim (ns_sl h v) (fun z => by rw [(List.mem_replicate.mp z).2]; exact fun w => nomatch w)
theorem ns_look {M M1 : mm_M} {as : List Value} {r : Option Value} (h : mm_look M as = some (r, M1)) : M1.2.2.2 = M.2.2.2 ∧ ∀ v, r = some v → v ≠ .ref mm_ext := by
  obtain ⟨x, f, w, o, p, -, -, -, -, -, -, h⟩ := mm_look_I h
  rcases h with ⟨-, rfl, rfl⟩ | ⟨-, -, q, -, -, -, rfl, rfl⟩ | ⟨-, -, rfl, rfl⟩ <;> exact ⟨rfl, fun v z => by cases z; exact ns_ni⟩
theorem ns_app {a b : List Value} (h1 : ns_L a) (h2 : ns_L b) : ns_L (a ++ b) := fun v hv => (List.mem_append.mp hv).elim (h1 v) (h2 v)
/-- THE SAME RUN with another script -/
theorem ns_run {X Y : mm_X} (hX : ns_X X Y) : ∀ {n d mi pc : Nat} {ls st : List Value} {M MF : mm_M} {r : Option Value}, ns_L ls → ns_L st → ns_H M → mm_run X n d mi pc ls st M = some (r, MF) → mm_run Y n d mi pc ls st M = some (r, MF) ∧ ns_H MF ∧ ∀ v, r = some v → v ≠ .ref mm_ext
  | 0, _, _, _, _, _, _, _, _, _, _, _, h => nomatch h
  | n + 1, d, mi, pc, ls, st, M, MF, r, h1, h2, h3, h => by
    obtain ⟨q, o, hc, hs, ho⟩ := mm_run_1 h
    have hP := ns_step1 (mm_ck_all mi pc q hc) h1 h2 h3 hs
    have hs2 : mm_step Y q pc ls st M = some o := by rw [← ns_same hX q pc ls st M h2]; exact hs
    unfold mm_run
    rw [hc]
    simp only []
    rw [mm_stepK_eq, hs2]
    match o, ho, hP with
    | .inl (pc', ls', st', M'), ho, hP => exact ns_run hX hP.1 hP.2.1 hP.2.2 ho
    | .inr (.inr r'), ho, hP =>
      obtain ⟨rfl, rfl⟩ := ho
      exact ⟨rfl, h3, hP⟩
    | .inr (.inl (y, as, rest)), ho, hP =>
      obtain ⟨d', r1, M1, rfl, h8, hcal, hnext⟩ := ho
      have e8 : Nat.ble (mm_w8 rest) 8 = true := Nat.ble_eq_true_of_le h8
      simp only [e8]
      by_cases hy : y = 998
      · rw [if_pos hy] at hcal
        subst hy
        obtain ⟨g1, g2⟩ := ns_look hcal
        have e1 : Nat.beq 998 998 = true := rfl
        simp only [e1, cond_true, hcal]
        refine ns_run hX h1 (ns_app (fun v hv => ?_) hP.2) (fun a i => by rw [g1]; exact h3 a i) hnext
        cases r1 with
        | none => cases hv
        | some w => rw [List.mem_singleton.mp hv]; exact g2 w rfl
      · rw [if_neg hy] at hcal
        have e1 : Nat.beq y 998 = false := by
          cases hb : Nat.beq y 998 with
          | false => rfl
          | true => exact absurd (Nat.eq_of_beq_eq_true hb) hy
        obtain ⟨g0, g1, g2⟩ := ns_run hX (ns_entry hP.1) (fun _ z => absurd z List.not_mem_nil) h3 hcal.2
        simp only [e1, cond_false, hcal.1, cond_true, g0]
        refine ns_run hX h1 (ns_app (fun v hv => ?_) hP.2) g1 hnext
        cases r1 with
        | none => cases hv
        | some w => rw [List.mem_singleton.mp hv]; exact g2 w rfl
end
section
/-! TOTAL RUNS, a step at a time -/
theorem mm_run_2 {X : mm_X} {n d mi pc : Nat} {ls st : List Value} {M MF : mm_M} {r : Option Value} {q : mm_R} {o : mm_O} (h : match o with
    | .inl (pc', ls', st', M') => mm_run X n d mi pc' ls' st' M' = some (r, MF)
    | .inr (.inr r') => r' = r ∧ M = MF
    | .inr (.inl (y, as, rest)) => ∃ d' r1 M1, d = d' + 1 ∧ mm_w8 rest ≤ 8 ∧ (if y = 998 then mm_look M as = some (r1, M1) else mm_rc M y as = true ∧ mm_run X n d' y 0 (mm_entry y as) [] M = some (r1, M1)) ∧ mm_run X n (d' + 1) mi (pc + 3) ls (r1.toList ++ rest) M1 = some (r, MF)) (hc : mm_code mi pc = some q) (hs : mm_step X q pc ls st M = some o) : mm_run X (n + 1) d mi pc ls st M = some (r, MF) := by
  unfold mm_run
  rw [hc]
  simp only []
  rw [mm_stepK_eq, hs]
  clear hs
  match o, h with
  | .inl (pc', ls', st', M'), h => exact h
  | .inr (.inr r'), h => obtain ⟨rfl, rfl⟩ := h; rfl
  | .inr (.inl (y, as, rest)), h =>
    obtain ⟨d', r1, M1, rfl, h8, hcal, hnext⟩ := h
    have e8 : Nat.ble (mm_w8 rest) 8 = true := Nat.ble_eq_true_of_le h8
    simp only [e8]
    by_cases hy : y = 998
    · rw [if_pos hy] at hcal
      subst hy
      have e1 : Nat.beq 998 998 = true := rfl
      simp only [e1, cond_true, hcal]
      exact hnext
    · rw [if_neg hy] at hcal
      have e1 : Nat.beq y 998 = false := by
        cases hb : Nat.beq y 998 with
        | false => rfl
        | true => exact absurd (Nat.eq_of_beq_eq_true hb) hy
      simp only [e1, cond_false, hcal.1, cond_true, hcal.2]
      exact hnext
theorem mm_up {X : mm_X} : ∀ {n k d mi pc : Nat} {ls st : List Value} {M MF : mm_M} {r : Option Value}, n ≤ k → mm_run X n d mi pc ls st M = some (r, MF) → mm_run X k d mi pc ls st M = some (r, MF)
  | 0, _, _, _, _, _, _, _, _, _, _, h => nomatch h
  | n + 1, 0, _, _, _, _, _, _, _, _, hk, _ => absurd hk (by omega)
  | n + 1, k + 1, d, mi, pc, ls, st, M, MF, r, hk, h => by
    obtain ⟨q, o, hc, hs, ho⟩ := mm_run_1 h
    have hk' : n ≤ k := by omega
    refine mm_run_2 ?_ hc hs
    clear hs
    match o, ho with
    | .inl (pc', ls', st', M'), ho => exact mm_up hk' ho
    | .inr (.inr r'), ho => exact ho
    | .inr (.inl (y, as, rest)), ho =>
      obtain ⟨d', r1, M1, rfl, h8, hcal, hnext⟩ := ho
      refine ⟨d', r1, M1, rfl, h8, ?_, mm_up hk' hnext⟩
      by_cases hy : y = 998
      · rw [if_pos hy] at hcal ⊢
        exact hcal
      · rw [if_neg hy] at hcal ⊢
        exact ⟨hcal.1, mm_up hk' hcal.2⟩
noncomputable def tt_C (X : mm_X) (d mi pc : Nat) (ls : List Value) (M : mm_M) (Q : Option Value → mm_M → Prop) (y : Nat) (as rest : List Value) : Prop := ∃ d', d = d' + 1 ∧ mm_w8 rest ≤ 8 ∧ (if y = 998 then ∃ r1 M1, mm_look M as = some (r1, M1) ∧ mm_T X d mi (pc + 3) ls (r1.toList ++ rest) M1 Q else mm_rc M y as = true ∧ mm_T X d' y 0 (mm_entry y as) [] M (fun r1 M1 => mm_T X d mi (pc + 3) ls (r1.toList ++ rest) M1 Q))
noncomputable def tt_K (X : mm_X) (d mi pc : Nat) (ls : List Value) (M : mm_M) (Q : Option Value → mm_M → Prop) (o : mm_O) : Prop := match o with
  | .inl (pc', ls', st', M') => mm_T X d mi pc' ls' st' M' Q
  | .inr (.inr r) => Q r M
  | .inr (.inl (y, as, rest)) => tt_C X d mi pc ls M Q y as rest
theorem tt_1 {X : mm_X} {d mi pc : Nat} {ls st : List Value} {M : mm_M} {Q : Option Value → mm_M → Prop} {q : mm_R} (hc : mm_code mi pc = some q) (h : mm_stepK X q pc ls st M (tt_K X d mi pc ls M Q) False) : mm_T X d mi pc ls st M Q := by
  rw [mm_stepK_eq] at h
  cases hs : mm_step X q pc ls st M with
  | none => rw [hs] at h; exact h.elim
  | some o =>
    rw [hs] at h
    match o, h, hs with
    | .inl (pc', ls', st', M'), h, hs =>
      obtain ⟨n, r, MF, h1, h2⟩ := h
      exact ⟨n + 1, r, MF, mm_run_2 (o := .inl (pc', ls', st', M')) h1 hc hs, h2⟩
    | .inr (.inr r'), h, hs => exact ⟨1, r', M, mm_run_2 (o := .inr (.inr r')) ⟨rfl, rfl⟩ hc hs, h⟩
    | .inr (.inl (y, as, rest)), h, hs =>
      obtain ⟨d', rfl, h8, h⟩ := h
      by_cases hy : y = 998
      · rw [if_pos hy] at h
        obtain ⟨r1, M1, hl, n, r, MF, h1, h2⟩ := h
        exact ⟨n + 1, r, MF, mm_run_2 (o := .inr (.inl (y, as, rest))) ⟨d', r1, M1, rfl, h8, by rw [if_pos hy]; exact hl, h1⟩ hc hs, h2⟩
      · rw [if_neg hy] at h
        obtain ⟨hrc, n1, r1, M1, g1, n, r, MF, h1, h2⟩ := h
        exact ⟨max n1 n + 1, r, MF, mm_run_2 (o := .inr (.inl (y, as, rest))) ⟨d', r1, M1, rfl, h8, by rw [if_neg hy]; exact ⟨hrc, mm_up (Nat.le_max_left _ _) g1⟩, mm_up (Nat.le_max_right _ _) h1⟩ hc hs, h2⟩
theorem tt_imp {X : mm_X} {d mi pc : Nat} {ls st : List Value} {M : mm_M} {Q Q2 : Option Value → mm_M → Prop} (h : mm_T X d mi pc ls st M Q) (hq : ∀ r M1, Q r M1 → Q2 r M1) : mm_T X d mi pc ls st M Q2 := by
  obtain ⟨n, r, MF, h1, h2⟩ := h
  exact ⟨n, r, MF, h1, hq _ _ h2⟩
section TT
variable {X : mm_X} {d mi pc : Nat} {ls st : List Value} {M : mm_M} {Q : Option Value → mm_M → Prop} {len a b : Nat} {ps : List Nat}
theorem tt_call {y : Nat} {as rest ls0 : List Value} (h8 : mm_w8 rest ≤ 8) (hy : Nat.beq y 998 = false) (hrc : mm_rc M y as = true) (he : mm_entry y as = ls0) (h : mm_T X d y 0 ls0 [] M (fun r1 M1 => mm_T X (d + 1) mi (pc + 3) ls (r1.toList ++ rest) M1 Q)) : tt_C X (d + 1) mi pc ls M Q y as rest := by
  refine ⟨d, rfl, h8, ?_⟩
  rw [if_neg (fun z => by rw [z] at hy; cases hy), he]
  exact ⟨hrc, h⟩
theorem tt_look {as rest : List Value} {r1 : Option Value} {M1 : mm_M} (h8 : mm_w8 rest ≤ 8) (hl : mm_look M as = some (r1, M1)) (h : mm_T X (d + 1) mi (pc + 3) ls (r1.toList ++ rest) M1 Q) : tt_C X (d + 1) mi pc ls M Q 998 as rest := by
  refine ⟨d, rfl, h8, ?_⟩
  rw [if_pos rfl]
  exact ⟨r1, M1, hl, h⟩
/-- fields -/
theorem tt_gI {i x : Nat} {v : Int32} (hc : mm_code mi pc = some (.getfield i, len, a, b, 0 :: ps)) (ho : mm_isObj M x a = true) (hv : M.2.1 x b = v) (h : mm_T X d mi (pc + len) ls (.int v :: st) M Q) : mm_T X d mi pc ls (.ref x :: st) M Q := by
  refine tt_1 hc ?_
  show mm_b (mm_isObj M x a) (mm_T X d mi (pc + len) ls (.int (M.2.1 x b) :: st) M Q) False
  rw [ho, hv]; exact h
theorem tt_gZ {i x : Nat} {v : Int32} (hc : mm_code mi pc = some (.getfield i, len, a, b, 1 :: ps)) (ho : mm_isObj M x a = true) (hv : M.2.1 x b = v) (h : mm_T X d mi (pc + len) ls (.int v :: st) M Q) : mm_T X d mi pc ls (.ref x :: st) M Q := by
  refine tt_1 hc ?_
  show mm_b (mm_isObj M x a) (mm_T X d mi (pc + len) ls (.int (M.2.1 x b) :: st) M Q) False
  rw [ho, hv]; exact h
theorem tt_gJ {i x : Nat} {v : Int64} (hc : mm_code mi pc = some (.getfield i, len, a, b, 2 :: ps)) (ho : mm_isObj M x a = true) (hv : M.2.2.1 x b = v) (h : mm_T X d mi (pc + len) ls (.long v :: st) M Q) : mm_T X d mi pc ls (.ref x :: st) M Q := by
  refine tt_1 hc ?_
  show mm_b (mm_isObj M x a) (mm_T X d mi (pc + len) ls (.long (M.2.2.1 x b) :: st) M Q) False
  rw [ho, hv]; exact h
theorem tt_gR {i x v : Nat} (hc : mm_code mi pc = some (.getfield i, len, a, b, 3 :: ps)) (ho : mm_isObj M x a = true) (hv : M.2.2.2 x b = some v) (h : mm_T X d mi (pc + len) ls (.ref v :: st) M Q) : mm_T X d mi pc ls (.ref x :: st) M Q := by
  refine tt_1 hc ?_
  show mm_b (mm_isObj M x a) (mm_gO (M.2.2.2 x b) (fun v => mm_T X d mi (pc + len) ls (.ref v :: st) M Q) False) False
  rw [ho, hv]; exact h
theorem tt_pI {i x : Nat} {v : Int32} (hc : mm_code mi pc = some (.putfield i, len, a, b, 0 :: ps)) (ho : mm_isObj M x a = true) (h : mm_T X d mi (pc + len) ls st (mm_setI M x b v) Q) : mm_T X d mi pc ls (.int v :: .ref x :: st) M Q := by
  refine tt_1 hc ?_
  show mm_b (mm_isObj M x a) (mm_T X d mi (pc + len) ls st (mm_setI M x b v) Q) False
  rw [ho]; exact h
theorem tt_pZ {i x : Nat} {v : Int32} (hc : mm_code mi pc = some (.putfield i, len, a, b, 1 :: ps)) (ho : mm_isObj M x a = true) (hv : v = 0 ∨ v = 1) (h : mm_T X d mi (pc + len) ls st (mm_setI M x b v) Q) : mm_T X d mi pc ls (.int v :: .ref x :: st) M Q := by
  refine tt_1 hc ?_
  show mm_b (mm_isObj M x a) (if v = 0 ∨ v = 1 then (mm_T X d mi (pc + len) ls st (mm_setI M x b v) Q) else False) False
  rw [ho, if_pos hv]; exact h
theorem tt_pJ {i x : Nat} {v : Int64} (hc : mm_code mi pc = some (.putfield i, len, a, b, 2 :: ps)) (ho : mm_isObj M x a = true) (h : mm_T X d mi (pc + len) ls st (mm_setL M x b v) Q) : mm_T X d mi pc ls (.long v :: .ref x :: st) M Q := by
  refine tt_1 hc ?_
  show mm_b (mm_isObj M x a) (mm_T X d mi (pc + len) ls st (mm_setL M x b v) Q) False
  rw [ho]; exact h
/-- rows -/
theorem tt_ial {x : Nat} {i v : Int32} (hc : mm_code mi pc = some (.iaload, len, a, b, ps)) (hx : Nat.ble mm_ext x = false) (ho : mm_isObj M x 100 = true) (hi : ¬ (i < 0 ∨ M.1.1.2.2 x ≤ i.toNatClampNeg)) (hv : M.2.1 x i.toNatClampNeg = v) (h : mm_T X d mi (pc + len) ls (.int v :: st) M Q) : mm_T X d mi pc ls (.int i :: .ref x :: st) M Q := by
  refine tt_1 hc ?_
  show mm_b (Nat.ble mm_ext x) _ (mm_b (mm_isObj M x 100) (if i < 0 ∨ M.1.1.2.2 x ≤ i.toNatClampNeg then False else (mm_T X d mi (pc + len) ls (.int (M.2.1 x i.toNatClampNeg) :: st) M Q)) False)
  rw [hx, ho]
  show (if i < 0 ∨ M.1.1.2.2 x ≤ i.toNatClampNeg then False else (mm_T X d mi (pc + len) ls (.int (M.2.1 x i.toNatClampNeg) :: st) M Q))
  rw [if_neg hi, hv]; exact h
theorem tt_xal {e : Nat} {i v : Int32} (hc : mm_code mi pc = some (.iaload, len, a, b, ps)) (hi : ¬ (i < 0 ∨ (X e).1 ≤ i.toNatClampNeg)) (hv : (X e).2 i.toNatClampNeg = v) (h : mm_T X d mi (pc + len) ls (.int v :: st) M Q) : mm_T X d mi pc ls (.int i :: .ref (mm_ext + e) :: st) M Q := by
  refine tt_1 hc ?_
  have hx : Nat.ble mm_ext (mm_ext + e) = true := Nat.ble_eq_true_of_le (by omega)
  show mm_b (Nat.ble mm_ext (mm_ext + e)) (if i < 0 ∨ (X (mm_ext + e - mm_ext)).1 ≤ i.toNatClampNeg then False else (mm_T X d mi (pc + len) ls (.int ((X (mm_ext + e - mm_ext)).2 i.toNatClampNeg) :: st) M Q)) _
  rw [hx]
  show (if i < 0 ∨ (X (mm_ext + e - mm_ext)).1 ≤ i.toNatClampNeg then False else (mm_T X d mi (pc + len) ls (.int ((X (mm_ext + e - mm_ext)).2 i.toNatClampNeg) :: st) M Q))
  rw [show mm_ext + e - mm_ext = e by omega, if_neg hi, hv]; exact h
theorem tt_len {x n : Nat} (hc : mm_code mi pc = some (.arraylength, len, a, b, ps)) (hx : Nat.ble mm_ext x = false) (ho : (Nat.blt x M.1.1.1 && Nat.ble 100 (M.1.1.2.1 x) && Nat.ble (M.1.1.2.1 x) 104) = true) (hv : M.1.1.2.2 x = n) (h : mm_T X d mi (pc + len) ls (.int (Int32.ofNat n) :: st) M Q) : mm_T X d mi pc ls (.ref x :: st) M Q := by
  refine tt_1 hc ?_
  show mm_b (Nat.ble mm_ext x) _ (mm_b (Nat.blt x M.1.1.1 && Nat.ble 100 (M.1.1.2.1 x) && Nat.ble (M.1.1.2.1 x) 104) (mm_T X d mi (pc + len) ls (.int (Int32.ofNat (M.1.1.2.2 x)) :: st) M Q) False)
  rw [hx, ho, hv]; exact h
/-- a branch -/
theorem tt_if {c : ClassFile.Cond} {o : Int} {x : Int32} (hc : mm_code mi pc = some (.ifCond c o, len, a, b, ps)) (h : mm_cnd c x 0 (mm_T X d mi a ls st M Q) (mm_T X d mi (pc + len) ls st M Q)) : mm_T X d mi pc ls (.int x :: st) M Q := tt_1 hc h
theorem tt_ic {c : ClassFile.Cond} {o : Int} {x y : Int32} (hc : mm_code mi pc = some (.if_icmp c o, len, a, b, ps)) (h : mm_cnd c x y (mm_T X d mi a ls st M Q) (mm_T X d mi (pc + len) ls st M Q)) : mm_T X d mi pc ls (.int y :: .int x :: st) M Q := tt_1 hc h
end TT
end
section
/-! A STEP OF EACH KIND, told by its answer -/
section TO
variable {X : mm_X} {d mi pc : Nat} {ls st : List Value} {M : mm_M} {Q : Option Value → mm_M → Prop} {len a b : Nat} {ps : List Nat}
theorem to_a {k x : Nat} (hc : mm_code mi pc = some (.aload k, len, a, b, ps)) (hv : mm_at ls k = .ref x) (h : mm_T X d mi (pc + len) ls (.ref x :: st) M Q) : mm_T X d mi pc ls st M Q := tt_1 hc (by
  show mm_gR (mm_at ls k) (fun x => mm_T X d mi (pc + len) ls (.ref x :: st) M Q) False
  rw [hv]; exact h)
theorem to_an {k : Fin 4} {x : Nat} (hc : mm_code mi pc = some (.aload_n k, len, a, b, ps)) (hv : mm_at ls k = .ref x) (h : mm_T X d mi (pc + len) ls (.ref x :: st) M Q) : mm_T X d mi pc ls st M Q := tt_1 hc (by
  show mm_gR (mm_at ls k) (fun x => mm_T X d mi (pc + len) ls (.ref x :: st) M Q) False
  rw [hv]; exact h)
theorem to_i {k : Nat} {x : Int32} (hc : mm_code mi pc = some (.iload k, len, a, b, ps)) (hv : mm_at ls k = .int x) (h : mm_T X d mi (pc + len) ls (.int x :: st) M Q) : mm_T X d mi pc ls st M Q := tt_1 hc (by
  show mm_gI (mm_at ls k) (fun x => mm_T X d mi (pc + len) ls (.int x :: st) M Q) False
  rw [hv]; exact h)
theorem to_in {k : Fin 4} {x : Int32} (hc : mm_code mi pc = some (.iload_n k, len, a, b, ps)) (hv : mm_at ls k = .int x) (h : mm_T X d mi (pc + len) ls (.int x :: st) M Q) : mm_T X d mi pc ls st M Q := tt_1 hc (by
  show mm_gI (mm_at ls k) (fun x => mm_T X d mi (pc + len) ls (.int x :: st) M Q) False
  rw [hv]; exact h)
theorem to_l {k : Nat} {x : Int64} (hc : mm_code mi pc = some (.lload k, len, a, b, ps)) (hv : mm_at ls k = .long x) (hw : mm_at ls (k + 1) = .null) (hn : Nat.blt (k + 1) ls.length = true) (h : mm_T X d mi (pc + len) ls (.long x :: st) M Q) : mm_T X d mi pc ls st M Q := tt_1 hc (by
  show mm_gL (mm_at ls k) (mm_at ls (k + 1)) (fun x => mm_b (Nat.blt (k + 1) ls.length) (mm_T X d mi (pc + len) ls (.long x :: st) M Q) False) False
  rw [hv, hw, hn]; exact h)
theorem to_ln {k : Fin 4} {x : Int64} (hc : mm_code mi pc = some (.lload_n k, len, a, b, ps)) (hv : mm_at ls k = .long x) (hw : mm_at ls (k + 1) = .null) (hn : Nat.blt (k + 1) ls.length = true) (h : mm_T X d mi (pc + len) ls (.long x :: st) M Q) : mm_T X d mi pc ls st M Q := tt_1 hc (by
  show mm_gL (mm_at ls k) (mm_at ls (k + 1)) (fun x => mm_b (Nat.blt (k + 1) ls.length) (mm_T X d mi (pc + len) ls (.long x :: st) M Q) False) False
  rw [hv, hw, hn]; exact h)
theorem to_is {k : Nat} {x : Int32} {ls2 : List Value} (hc : mm_code mi pc = some (.istore k, len, a, b, ps)) (hn : Nat.blt k ls.length = true) (hs : mm_set ls k (.int x) = ls2) (h : mm_T X d mi (pc + len) ls2 st M Q) : mm_T X d mi pc ls (.int x :: st) M Q := tt_1 hc (by
  show mm_b (Nat.blt k ls.length) (mm_T X d mi (pc + len) (mm_set ls k (.int x)) st M Q) False
  rw [hn, hs]; exact h)
theorem to_isn {k : Fin 4} {x : Int32} {ls2 : List Value} (hc : mm_code mi pc = some (.istore_n k, len, a, b, ps)) (hn : Nat.blt k ls.length = true) (hs : mm_set ls k (.int x) = ls2) (h : mm_T X d mi (pc + len) ls2 st M Q) : mm_T X d mi pc ls (.int x :: st) M Q := tt_1 hc (by
  show mm_b (Nat.blt k ls.length) (mm_T X d mi (pc + len) (mm_set ls k (.int x)) st M Q) False
  rw [hn, hs]; exact h)
theorem to_as {k x : Nat} {ls2 : List Value} (hc : mm_code mi pc = some (.astore k, len, a, b, ps)) (hn : Nat.blt k ls.length = true) (hs : mm_set ls k (.ref x) = ls2) (h : mm_T X d mi (pc + len) ls2 st M Q) : mm_T X d mi pc ls (.ref x :: st) M Q := tt_1 hc (by
  show mm_b (Nat.blt k ls.length) (mm_T X d mi (pc + len) (mm_set ls k (.ref x)) st M Q) False
  rw [hn, hs]; exact h)
theorem to_asn {k : Fin 4} {x : Nat} {ls2 : List Value} (hc : mm_code mi pc = some (.astore_n k, len, a, b, ps)) (hn : Nat.blt k ls.length = true) (hs : mm_set ls k (.ref x) = ls2) (h : mm_T X d mi (pc + len) ls2 st M Q) : mm_T X d mi pc ls (.ref x :: st) M Q := tt_1 hc (by
  show mm_b (Nat.blt k ls.length) (mm_T X d mi (pc + len) (mm_set ls k (.ref x)) st M Q) False
  rw [hn, hs]; exact h)
theorem to_ls {k : Nat} {x : Int64} {ls2 : List Value} (hc : mm_code mi pc = some (.lstore k, len, a, b, ps)) (hn : Nat.blt (k + 1) ls.length = true) (hs : mm_set (mm_set ls k (.long x)) (k + 1) .null = ls2) (h : mm_T X d mi (pc + len) ls2 st M Q) : mm_T X d mi pc ls (.long x :: st) M Q := tt_1 hc (by
  show mm_b (Nat.blt (k + 1) ls.length) (mm_T X d mi (pc + len) (mm_set (mm_set ls k (.long x)) (k + 1) .null) st M Q) False
  rw [hn, hs]; exact h)
theorem to_lsn {k : Fin 4} {x : Int64} {ls2 : List Value} (hc : mm_code mi pc = some (.lstore_n k, len, a, b, ps)) (hn : Nat.blt (k + 1) ls.length = true) (hs : mm_set (mm_set ls k (.long x)) (k + 1) .null = ls2) (h : mm_T X d mi (pc + len) ls2 st M Q) : mm_T X d mi pc ls (.long x :: st) M Q := tt_1 hc (by
  show mm_b (Nat.blt (k + 1) ls.length) (mm_T X d mi (pc + len) (mm_set (mm_set ls k (.long x)) (k + 1) .null) st M Q) False
  rw [hn, hs]; exact h)
theorem to_inc {k : Nat} {n : Int} {x : Int32} {ls2 : List Value} (hc : mm_code mi pc = some (.iinc k n, len, a, b, ps)) (hv : mm_at ls k = .int x) (hn : Nat.blt k ls.length = true) (hs : mm_set ls k (.int (x + mm_i a b)) = ls2) (h : mm_T X d mi (pc + len) ls2 st M Q) : mm_T X d mi pc ls st M Q := tt_1 hc (by
  show mm_gI (mm_at ls k) (fun x => mm_b (Nat.blt k ls.length) (mm_T X d mi (pc + len) (mm_set ls k (.int (x + mm_i a b))) st M Q) False) False
  rw [hv]
  show mm_b (Nat.blt k ls.length) (mm_T X d mi (pc + len) (mm_set ls k (.int (x + mm_i a b))) st M Q) False
  rw [hn, hs]; exact h)
/-- a constant -/
noncomputable def mm_isC : Instr → Bool
  | .iconst _ => true
  | .bipush _ => true
  | .sipush _ => true
  | .ldc _ => true
  | .ldc_w _ => true
  | _ => false
theorem to_c {i : Instr} {x : Int32} (hc : mm_code mi pc = some (i, len, a, b, ps)) (hi : mm_isC i = true) (hv : mm_i a b = x) (h : mm_T X d mi (pc + len) ls (.int x :: st) M Q) : mm_T X d mi pc ls st M Q := tt_1 hc (by
  have h2 : mm_T X d mi (pc + len) ls (.int (mm_i a b) :: st) M Q := by rw [hv]; exact h
  cases i <;> first | exact h2 | cases hi)
noncomputable def mm_isCl : Instr → Bool
  | .lconst _ => true
  | .ldc2_w _ => true
  | _ => false
theorem to_cl {i : Instr} {x : Int64} (hc : mm_code mi pc = some (i, len, a, b, ps)) (hi : mm_isCl i = true) (hv : mm_l a b = x) (h : mm_T X d mi (pc + len) ls (.long x :: st) M Q) : mm_T X d mi pc ls st M Q := tt_1 hc (by
  have h2 : mm_T X d mi (pc + len) ls (.long (mm_l a b) :: st) M Q := by rw [hv]; exact h
  cases i <;> first | exact h2 | cases hi)
/-- two ints -/
noncomputable def mm_op2 : Instr → Int32 → Int32 → Option Int32
  | .iadd, x, y => some (x + y)
  | .isub, x, y => some (x - y)
  | .imul, x, y => some (x * y)
  | .iand, x, y => some (x &&& y)
  | .ior, x, y => some (x ||| y)
  | .ixor, x, y => some (x ^^^ y)
  | .ishl, x, y => some (x <<< y)
  | .ishr, x, y => some (x >>> y)
  | .iushr, x, y => some (x.toUInt32 >>> (y.toUInt32 &&& Int32.toUInt32 31)).toInt32
  | .idiv, x, y => if y = 0 then none else some (x / y)
  | .irem, x, y => if y = 0 then none else some (x - x / y * y)
  | _, _, _ => none
theorem to_2 {i : Instr} {x y v : Int32} (hc : mm_code mi pc = some (i, len, a, b, ps)) (hv : mm_op2 i x y = some v) (h : mm_T X d mi (pc + len) ls (.int v :: st) M Q) : mm_T X d mi pc ls (.int y :: .int x :: st) M Q := tt_1 hc (by
  cases i with
  | iadd => cases hv; exact h
  | isub => cases hv; exact h
  | imul => cases hv; exact h
  | iand => cases hv; exact h
  | ior => cases hv; exact h
  | ixor => cases hv; exact h
  | ishl => cases hv; exact h
  | ishr => cases hv; exact h
  | iushr => cases hv; exact h
  | idiv =>
    show (if y = 0 then False else mm_T X d mi (pc + len) ls (.int (x / y) :: st) M Q)
    have hv : (if y = 0 then none else some (x / y)) = some v := hv
    by_cases hy : y = 0
    · rw [if_pos hy] at hv; cases hv
    · rw [if_neg hy] at hv ⊢; cases hv; exact h
  | irem =>
    show (if y = 0 then False else mm_T X d mi (pc + len) ls (.int (x - x / y * y) :: st) M Q)
    have hv : (if y = 0 then none else some (x - x / y * y)) = some v := hv
    by_cases hy : y = 0
    · rw [if_pos hy] at hv; cases hv
    · rw [if_neg hy] at hv ⊢; cases hv; exact h
  | _ => cases hv)
noncomputable def mm_opL : Instr → Int64 → Int64 → Option Int64
  | .ladd, x, y => some (x + y)
  | .lsub, x, y => some (x - y)
  | .lmul, x, y => some (x * y)
  | .land, x, y => some (x &&& y)
  | .lor, x, y => some (x ||| y)
  | .lxor, x, y => some (x ^^^ y)
  | _, _, _ => none
theorem to_2l {i : Instr} {x y v : Int64} (hc : mm_code mi pc = some (i, len, a, b, ps)) (hv : mm_opL i x y = some v) (h : mm_T X d mi (pc + len) ls (.long v :: st) M Q) : mm_T X d mi pc ls (.long y :: .long x :: st) M Q := tt_1 hc (by
  cases i with
  | ladd => cases hv; exact h
  | lsub => cases hv; exact h
  | lmul => cases hv; exact h
  | land => cases hv; exact h
  | lor => cases hv; exact h
  | lxor => cases hv; exact h
  | _ => cases hv)
noncomputable def mm_opS : Instr → Int64 → Int32 → Option Int64
  | .lshl, x, y => some (x <<< (y.toInt64 &&& 63))
  | .lshr, x, y => some (x >>> (y.toInt64 &&& 63))
  | .lushr, x, y => some (x.toUInt64 >>> (y.toInt64.toUInt64 &&& Int64.toUInt64 63)).toInt64
  | _, _, _ => none
theorem to_2s {i : Instr} {x v : Int64} {y : Int32} (hc : mm_code mi pc = some (i, len, a, b, ps)) (hv : mm_opS i x y = some v) (h : mm_T X d mi (pc + len) ls (.long v :: st) M Q) : mm_T X d mi pc ls (.int y :: .long x :: st) M Q := tt_1 hc (by
  cases i with
  | lshl => cases hv; exact h
  | lshr => cases hv; exact h
  | lushr => cases hv; exact h
  | _ => cases hv)
theorem to_lc {x y : Int64} {v : Int32} (hc : mm_code mi pc = some (.lcmp, len, a, b, ps)) (hv : lg_cmp x y = v) (h : mm_T X d mi (pc + len) ls (.int v :: st) M Q) : mm_T X d mi pc ls (.long y :: .long x :: st) M Q := tt_1 hc (by
  show mm_T X d mi (pc + len) ls (.int (lg_cmp x y) :: st) M Q
  rw [hv]; exact h)
theorem to_i2l {x : Int32} {v : Int64} (hc : mm_code mi pc = some (.i2l, len, a, b, ps)) (hv : x.toInt64 = v) (h : mm_T X d mi (pc + len) ls (.long v :: st) M Q) : mm_T X d mi pc ls (.int x :: st) M Q := tt_1 hc (by
  show mm_T X d mi (pc + len) ls (.long x.toInt64 :: st) M Q
  rw [hv]; exact h)
theorem to_l2i {x : Int64} {v : Int32} (hc : mm_code mi pc = some (.l2i, len, a, b, ps)) (hv : x.toInt32 = v) (h : mm_T X d mi (pc + len) ls (.int v :: st) M Q) : mm_T X d mi pc ls (.long x :: st) M Q := tt_1 hc (by
  show mm_T X d mi (pc + len) ls (.int x.toInt32 :: st) M Q
  rw [hv]; exact h)
theorem to_i2b {x v : Int32} (hc : mm_code mi pc = some (.i2b, len, a, b, ps)) (hv : x.toInt8.toInt32 = v) (h : mm_T X d mi (pc + len) ls (.int v :: st) M Q) : mm_T X d mi pc ls (.int x :: st) M Q := tt_1 hc (by
  show mm_T X d mi (pc + len) ls (.int x.toInt8.toInt32 :: st) M Q
  rw [hv]; exact h)
theorem to_dupi {x : Int32} (hc : mm_code mi pc = some (.dup, len, a, b, ps)) (h : mm_T X d mi (pc + len) ls (.int x :: .int x :: st) M Q) : mm_T X d mi pc ls (.int x :: st) M Q := tt_1 hc h
theorem to_dupr {x : Nat} (hc : mm_code mi pc = some (.dup, len, a, b, ps)) (h : mm_T X d mi (pc + len) ls (.ref x :: .ref x :: st) M Q) : mm_T X d mi pc ls (.ref x :: st) M Q := tt_1 hc h
theorem to_dup2 {x : Int32} {y : Nat} (hc : mm_code mi pc = some (.dup2, len, a, b, ps)) (h : mm_T X d mi (pc + len) ls (.int x :: .ref y :: .int x :: .ref y :: st) M Q) : mm_T X d mi pc ls (.int x :: .ref y :: st) M Q := tt_1 hc h
theorem to_popi {x : Int32} (hc : mm_code mi pc = some (.pop, len, a, b, ps)) (h : mm_T X d mi (pc + len) ls st M Q) : mm_T X d mi pc ls (.int x :: st) M Q := tt_1 hc h
theorem to_popr {x : Nat} (hc : mm_code mi pc = some (.pop, len, a, b, ps)) (h : mm_T X d mi (pc + len) ls st M Q) : mm_T X d mi pc ls (.ref x :: st) M Q := tt_1 hc h
theorem to_go {o : Int} (hc : mm_code mi pc = some (.goto o, len, a, b, ps)) (h : mm_T X d mi a ls st M Q) : mm_T X d mi pc ls st M Q := tt_1 hc h
/-- a branch -/
noncomputable def mm_cd (c : ClassFile.Cond) (x y : Int32) : Bool := match c with
  | .eq => decide (x = y)
  | .ne => !decide (x = y)
  | .lt => decide (x < y)
  | .ge => decide (y ≤ x)
  | .gt => decide (y < x)
  | .le => decide (x ≤ y)
theorem mm_cd_t {c : ClassFile.Cond} {x y : Int32} {t e : Prop} (h : mm_cd c x y = true) (k : t) : mm_cnd c x y t e := by
  cases c <;> simp only [mm_cd, decide_eq_true_eq, Bool.not_eq_true', decide_eq_false_iff_not] at h <;> simp only [mm_cnd] <;> first | rw [if_pos h]; exact k | rw [if_neg h]; exact k
theorem mm_cd_f {c : ClassFile.Cond} {x y : Int32} {t e : Prop} (h : mm_cd c x y = false) (k : e) : mm_cnd c x y t e := by
  cases c <;> simp only [mm_cd, decide_eq_false_iff_not, Bool.not_eq_false', decide_eq_true_eq] at h <;> simp only [mm_cnd] <;> first | rw [if_neg h]; exact k | rw [if_pos h]; exact k
theorem to_ift {c : ClassFile.Cond} {o : Int} {x : Int32} (hc : mm_code mi pc = some (.ifCond c o, len, a, b, ps)) (hv : mm_cd c x 0 = true) (h : mm_T X d mi a ls st M Q) : mm_T X d mi pc ls (.int x :: st) M Q := tt_if hc (mm_cd_t hv h)
theorem to_iff {c : ClassFile.Cond} {o : Int} {x : Int32} (hc : mm_code mi pc = some (.ifCond c o, len, a, b, ps)) (hv : mm_cd c x 0 = false) (h : mm_T X d mi (pc + len) ls st M Q) : mm_T X d mi pc ls (.int x :: st) M Q := tt_if hc (mm_cd_f hv h)
theorem to_ict {c : ClassFile.Cond} {o : Int} {x y : Int32} (hc : mm_code mi pc = some (.if_icmp c o, len, a, b, ps)) (hv : mm_cd c x y = true) (h : mm_T X d mi a ls st M Q) : mm_T X d mi pc ls (.int y :: .int x :: st) M Q := tt_ic hc (mm_cd_t hv h)
theorem to_icf {c : ClassFile.Cond} {o : Int} {x y : Int32} (hc : mm_code mi pc = some (.if_icmp c o, len, a, b, ps)) (hv : mm_cd c x y = false) (h : mm_T X d mi (pc + len) ls st M Q) : mm_T X d mi pc ls (.int y :: .int x :: st) M Q := tt_ic hc (mm_cd_f hv h)
theorem to_swd {o lo hi : Int} {os : Array Int} {x : Int32} (hc : mm_code mi pc = some (.tableswitch o lo hi os, len, a, b, ps)) (hv : x.toInt < lo ∨ hi < x.toInt) (h : mm_T X d mi a ls st M Q) : mm_T X d mi pc ls (.int x :: st) M Q := tt_1 hc (by
  show (if x.toInt < lo ∨ hi < x.toInt then mm_T X d mi a ls st M Q else _)
  rw [if_pos hv]; exact h)
theorem to_sw {o lo hi : Int} {os : Array Int} {x : Int32} {t : Nat} (hc : mm_code mi pc = some (.tableswitch o lo hi os, len, a, b, ps)) (hv : ¬ (x.toInt < lo ∨ hi < x.toInt)) (ht : ps[(x.toInt - lo).toNat]? = some t) (h : mm_T X d mi t ls st M Q) : mm_T X d mi pc ls (.int x :: st) M Q := tt_1 hc (by
  show (if x.toInt < lo ∨ hi < x.toInt then mm_T X d mi a ls st M Q else mm_gO (ps[(x.toInt - lo).toNat]?) (fun t => mm_T X d mi t ls st M Q) False)
  rw [if_neg hv, ht]; exact h)
/-- rows -/
theorem to_lal {x : Nat} {i : Int32} {v : Int64} (hc : mm_code mi pc = some (.laload, len, a, b, ps)) (ho : mm_isObj M x 101 = true) (hi : ¬ (i < 0 ∨ M.1.1.2.2 x ≤ i.toNatClampNeg)) (hv : M.2.2.1 x i.toNatClampNeg = v) (h : mm_T X d mi (pc + len) ls (.long v :: st) M Q) : mm_T X d mi pc ls (.int i :: .ref x :: st) M Q := tt_1 hc (by
  show mm_b (mm_isObj M x 101) (if i < 0 ∨ M.1.1.2.2 x ≤ i.toNatClampNeg then False else (mm_T X d mi (pc + len) ls (.long (M.2.2.1 x i.toNatClampNeg) :: st) M Q)) False
  rw [ho]
  show (if i < 0 ∨ M.1.1.2.2 x ≤ i.toNatClampNeg then False else (mm_T X d mi (pc + len) ls (.long (M.2.2.1 x i.toNatClampNeg) :: st) M Q))
  rw [if_neg hi, hv]; exact h)
theorem to_bal {x : Nat} {i v : Int32} (hc : mm_code mi pc = some (.baload, len, a, b, ps)) (ho : (mm_isObj M x 102 || mm_isObj M x 103) = true) (hi : ¬ (i < 0 ∨ M.1.1.2.2 x ≤ i.toNatClampNeg)) (hv : M.2.1 x i.toNatClampNeg = v) (h : mm_T X d mi (pc + len) ls (.int v :: st) M Q) : mm_T X d mi pc ls (.int i :: .ref x :: st) M Q := tt_1 hc (by
  show mm_b (mm_isObj M x 102 || mm_isObj M x 103) (if i < 0 ∨ M.1.1.2.2 x ≤ i.toNatClampNeg then False else (mm_T X d mi (pc + len) ls (.int (M.2.1 x i.toNatClampNeg) :: st) M Q)) False
  rw [ho]
  show (if i < 0 ∨ M.1.1.2.2 x ≤ i.toNatClampNeg then False else (mm_T X d mi (pc + len) ls (.int (M.2.1 x i.toNatClampNeg) :: st) M Q))
  rw [if_neg hi, hv]; exact h)
theorem to_ias {x : Nat} {i v : Int32} {k : Nat} (hc : mm_code mi pc = some (.iastore, len, a, b, ps)) (ho : mm_isObj M x 100 = true) (hi : ¬ (i < 0 ∨ M.1.1.2.2 x ≤ i.toNatClampNeg)) (hk : i.toNatClampNeg = k) (h : mm_T X d mi (pc + len) ls st (mm_setI M x k v) Q) : mm_T X d mi pc ls (.int v :: .int i :: .ref x :: st) M Q := tt_1 hc (by
  show mm_b (mm_isObj M x 100) (if i < 0 ∨ M.1.1.2.2 x ≤ i.toNatClampNeg then False else (mm_T X d mi (pc + len) ls st (mm_setI M x i.toNatClampNeg v) Q)) False
  rw [ho]
  show (if i < 0 ∨ M.1.1.2.2 x ≤ i.toNatClampNeg then False else (mm_T X d mi (pc + len) ls st (mm_setI M x i.toNatClampNeg v) Q))
  rw [if_neg hi, hk]; exact h)
theorem to_bas {x : Nat} {i v w : Int32} {k : Nat} (hc : mm_code mi pc = some (.bastore, len, a, b, ps)) (h2 : mm_isObj M x 102 = false) (ho : mm_isObj M x 103 = true) (hi : ¬ (i < 0 ∨ M.1.1.2.2 x ≤ i.toNatClampNeg)) (hk : i.toNatClampNeg = k) (hw : v.toInt8.toInt32 = w) (h : mm_T X d mi (pc + len) ls st (mm_setI M x k w) Q) : mm_T X d mi pc ls (.int v :: .int i :: .ref x :: st) M Q := tt_1 hc (by
  show mm_b (mm_isObj M x 102) _ (mm_b (mm_isObj M x 103) (if i < 0 ∨ M.1.1.2.2 x ≤ i.toNatClampNeg then False else (mm_T X d mi (pc + len) ls st (mm_setI M x i.toNatClampNeg v.toInt8.toInt32) Q)) False)
  rw [h2, ho]
  show (if i < 0 ∨ M.1.1.2.2 x ≤ i.toNatClampNeg then False else (mm_T X d mi (pc + len) ls st (mm_setI M x i.toNatClampNeg v.toInt8.toInt32) Q))
  rw [if_neg hi, hk, hw]; exact h)
/-- returns -/
theorem to_r0 {v : Int32} (hc : mm_code mi pc = some (.ireturn, len, 0, b, ps)) (h : Q (some (.int v)) M) : mm_T X d mi pc ls [.int v] M Q := tt_1 hc h
theorem to_r1 {v : Int32} (hc : mm_code mi pc = some (.ireturn, len, 1, b, ps)) (hv : v = 0 ∨ v = 1) (h : Q (some (.int v)) M) : mm_T X d mi pc ls [.int v] M Q := tt_1 hc (by
  show (if v = 0 ∨ v = 1 then Q (some (.int v)) M else False)
  rw [if_pos hv]; exact h)
theorem to_rl {v : Int64} (hc : mm_code mi pc = some (.lreturn, len, a, b, ps)) (h : Q (some (.long v)) M) : mm_T X d mi pc ls [.long v] M Q := tt_1 hc h
theorem to_rv (hc : mm_code mi pc = some (.return_, len, a, b, ps)) (h : Q none M) : mm_T X d mi pc ls [] M Q := tt_1 hc h
/-- calls -/
theorem to_rc {y o : Nat} {t : List Value} (h1 : (mm_okv t && Nat.ble (mm_sl t).length (mm_mx y - 1)) = true) (h0 : Nat.ble 1 (mm_mx y) = true) (h2 : Nat.beq (mm_kc y) 99 = false) (h3 : mm_isObj M o (mm_kc y) = true) : mm_rc M y (.ref o :: t) = true := by
  rw [Bool.and_eq_true] at h1
  have e1 := Nat.le_of_ble_eq_true h1.2
  have e2 := Nat.le_of_ble_eq_true h0
  have e3 : Nat.ble (mm_sl (.ref o :: t)).length (mm_mx y) = true := Nat.ble_eq_true_of_le (show (mm_sl t).length + 1 ≤ mm_mx y by omega)
  unfold mm_rc
  rw [h2, cond_false, e3]
  show (mm_okv t && true && mm_isObj M o (mm_kc y)) = true
  rw [h1.1, h3]; rfl
theorem to_rcs {y : Nat} {t : List Value} (h1 : (mm_okv t && Nat.ble (mm_sl t).length (mm_mx y)) = true) (h2 : Nat.beq (mm_kc y) 99 = true) : mm_rc M y t = true := by
  unfold mm_rc
  rw [h1, h2]; rfl
/-- a method that is called, by its instruction -/
noncomputable def mm_isV : Instr → Bool
  | .invokevirtual _ => true
  | _ => false
theorem to_v {i : Instr} {y n : Nat} {as st0 rest ls0 : List Value} (hc : mm_code mi pc = some (i, len, y, n, ps)) (hi : mm_isV i = true) (hp : mm_pop n [] st0 (fun x r => (x, r)) ([], []) = (as, rest)) (hn : n ≤ st0.length) (h8 : mm_w8 rest ≤ 8) (hy : Nat.beq y 998 = false) (hrc : mm_rc M y as = true) (he : mm_entry y as = ls0) (h : mm_T X d y 0 ls0 [] M (fun r1 M1 => mm_T X (d + 1) mi (pc + 3) ls (r1.toList ++ rest) M1 Q)) : mm_T X (d + 1) mi pc ls st0 M Q := tt_1 hc (by
  have key : ∀ (n : Nat) (as0 st : List Value) (K : List Value → List Value → Prop), n ≤ st.length → K (mm_pop n as0 st (fun x r => (x, r)) ([], [])).1 (mm_pop n as0 st (fun x r => (x, r)) ([], [])).2 → mm_pop n as0 st K False := by
    intro n
    induction n with
    | zero => intro as0 st K _ hk; exact hk
    | succ n ih =>
      intro as0 st K hl hk
      match st, hl, hk with
      | v :: r, hl, hk => exact ih (v :: as0) r K (by simpa using hl) hk
  have h9 := tt_call (X := X) (d := d) (mi := mi) (pc := pc) (ls := ls) (Q := Q) h8 hy hrc he h
  cases i with
  | invokevirtual k => exact key n [] st0 (fun as st => tt_C X (d + 1) mi pc ls M Q y as st) hn (by rw [hp]; exact h9)
  | _ => cases hi)
end TO
section RD
variable {M : mm_M} {a i b j : Nat}
theorem rI_e {x : Int32} : (mm_setI M a i x).2.1 a i = x := by show (if a = a ∧ i = i then x else _) = x; rw [if_pos ⟨rfl, rfl⟩]
theorem rI_n {x v : Int32} (h : (Nat.beq b a && Nat.beq j i) = false) (hv : M.2.1 b j = v) : (mm_setI M a i x).2.1 b j = v := by
  show (if b = a ∧ j = i then x else M.2.1 b j) = v
  rw [if_neg (fun z => by rw [z.1, z.2] at h; simp at h)]; exact hv
end RD
end
section
/-! THE FRESH STATE, and what the runs on it want -/
noncomputable def mm_M0 : mm_M := (((0, fun _ => 0, fun _ => 0), (0, 0, 0)), (fun _ _ => 0, fun _ _ => 0, fun _ _ => none))
noncomputable def fr_W : List Int32 := [284563040, 210940032, 788074496, 518160384, 659999744, 538233440, 404000768, 538561536, 686817280, 93323264, 351582208, 40936896, 486146048, 48365568, 522190848]
noncomputable def fr_S : List Int32 := [0, 8, 4, 12, 2, 10, 6, 1, 9, 5]
noncomputable def fr_P : List Int32 := [3, 24, 20, 12, 18, 10, 6, 17, 9, 5]
noncomputable def fr_X (L : Nat) (xs : Nat → Int32) : mm_X := fun e => match e with
  | 0 => (L, xs)
  | 2 => (10, fun j => fr_S.getD j 0)
  | 3 => (10, fun j => fr_P.getD j 0)
  | _ => (15, fun j => fr_W.getD j 0)
theorem fr_ns (L : Nat) (xs : Nat → Int32) : ns_X (fr_X 0 (fun _ => 0)) (fr_X L xs) := by
  intro e h
  match e, h with
  | 0, h => exact absurd rfl h
  | 1, _ => rfl
  | 2, _ => rfl
  | 3, _ => rfl
  | n + 4, _ => rfl
noncomputable def fr_r (n d y : Nat) (as : List Value) (M : mm_M) : Option (Option Value × mm_M) := mm_run (fr_X 0 (fun _ => 0)) n d y 0 (mm_entry y as) [] M
noncomputable def fr_m (o : Option (Option Value × mm_M)) : mm_M := match o with
  | some (_, M) => M
  | none => mm_M0
/-- no reference to the script -/
noncomputable def fr_nl (as : List Value) : Bool := as.all (fun v => match v with
  | .ref a => !Nat.beq a mm_ext
  | _ => true)
theorem fr_nl_L {as : List Value} (h : fr_nl as = true) : ns_L as := by
  intro v hv z
  have h2 := List.all_eq_true.mp h v hv
  rw [z] at h2
  cases h2
theorem fr_run {n d y : Nat} {as : List Value} {M : mm_M} {v : Option Value} (L : Nat) (xs : Nat → Int32) (h : (fr_r n d y as M).map (fun z => z.1) = some v) (h1 : fr_nl as = true) (h2 : ns_H M) : mm_run (fr_X L xs) n d y 0 (mm_entry y as) [] M = some (v, fr_m (fr_r n d y as M)) ∧ ns_H (fr_m (fr_r n d y as M)) := by
  cases hr : fr_r n d y as M with
  | none => rw [hr] at h; cases h
  | some z =>
    obtain ⟨r, M1⟩ := z
    rw [hr] at h
    cases h
    obtain ⟨g1, g2, -⟩ := ns_run (fr_ns L xs) (ns_entry (fr_nl_L h1)) (fun _ z => absurd z List.not_mem_nil) h2 hr
    exact ⟨g1, g2⟩
theorem fr_call {n d y : Nat} {as : List Value} {M M1 : mm_M} {v : Option Value} {L : Nat} {xs : Nat → Int32} {Q : Option Value → mm_M → Prop} (h : (fr_r n d y as M).map (fun z => z.1) = some v) (h1 : fr_nl as = true) (h2 : ns_H M) (h3 : fr_m (fr_r n d y as M) = M1) (k : Q v M1) : mm_T (fr_X L xs) d y 0 (mm_entry y as) [] M Q := ⟨n, v, M1, by rw [← h3]; exact (fr_run L xs h h1 h2).1, k⟩
theorem fr_H {n d y : Nat} {as : List Value} {M M1 : mm_M} {v : Option Value} (h : (fr_r n d y as M).map (fun z => z.1) = some v) (h1 : fr_nl as = true) (h2 : ns_H M) (h3 : fr_m (fr_r n d y as M) = M1) : ns_H M1 := by rw [← h3]; exact (fr_run 0 (fun _ => 0) h h1 h2).2
/-! conditions -/
noncomputable def cd_P (c : ClassFile.Cond) (x y : Int) : Prop := match c with
  | .eq => x = y
  | .ne => x ≠ y
  | .lt => x < y
  | .ge => x ≥ y
  | .gt => x > y
  | .le => x ≤ y
theorem cd_iff {c : ClassFile.Cond} {x y : Int32} : mm_cd c x y = true ↔ cd_P c x.toInt y.toInt := by
  cases c <;> simp only [mm_cd, cd_P, decide_eq_true_eq, Bool.not_eq_true', decide_eq_false_iff_not, Int32.lt_iff_toInt_lt, Int32.le_iff_toInt_le, ← Int32.toInt_inj, ne_eq, ge_iff_le, gt_iff_lt]
theorem cd_of {c : ClassFile.Cond} {x y : Int32} (h : cd_P c x.toInt y.toInt) : mm_cd c x y = true := cd_iff.mpr h
theorem cd_no {c : ClassFile.Cond} {x y : Int32} (h : ¬ cd_P c x.toInt y.toInt) : mm_cd c x y = false := by
  cases hc : mm_cd c x y with
  | false => rfl
  | true => exact absurd (cd_iff.mp hc) h
theorem cd_ne {x y : Int32} (h : ¬ x = y) : x.toInt ≠ y.toInt := fun z => h (Int32.toInt_inj.mp z)
/-! the script, rows, look, Math.min -/
section OP
variable {X : mm_X} {d mi pc : Nat} {ls st : List Value} {M : mm_M} {Q : Option Value → mm_M → Prop} {len a b : Nat} {ps : List Nat}
theorem op_x {xs : Nat → Int32} {k : Nat} {i v : Int32} (hc : mm_code mi pc = some (.iaload, len, a, b, ps)) (hk : (decide (0 ≤ i) && Nat.beq i.toNatClampNeg k && Nat.blt k 6) = true) (hv : xs k = v) (h : mm_T (fr_X 6 xs) d mi (pc + len) ls (.int v :: st) M Q) : mm_T (fr_X 6 xs) d mi pc ls (.int i :: .ref mm_ext :: st) M Q := by
  rw [Bool.and_eq_true, Bool.and_eq_true, decide_eq_true_eq] at hk
  have e1 := Nat.eq_of_beq_eq_true hk.1.2
  have e2 := Nat.le_of_ble_eq_true hk.2
  have e3 := Int32.le_iff_toInt_le.mp hk.1.1
  refine tt_xal (e := 0) hc (fun z => ?_) (show xs i.toNatClampNeg = v by rw [e1]; exact hv) h
  rcases z with z | z
  · have := Int32.lt_iff_toInt_lt.mp z
    omega
  · have z2 : 6 ≤ i.toNatClampNeg := z
    omega
theorem op_j {x n : Nat} {i : Int32} (hn : M.1.1.2.2 x = n) (h : (decide (i < 0) || Nat.ble n i.toNatClampNeg) = false) : ¬ (i < 0 ∨ M.1.1.2.2 x ≤ i.toNatClampNeg) := by
  rw [Bool.or_eq_false_iff, decide_eq_false_iff_not] at h
  rintro (z | z)
  · exact h.1 z
  · rw [hn] at z
    rw [Nat.ble_eq_true_of_le z] at h
    cases h.2
theorem op_lk {f : Int32} {p : Nat} (h : M.2.1 p 2 = 0) : f < 0 ∨ M.2.1 p 2 ≤ f := by
  rw [h]
  rcases Int.lt_or_le f.toInt 0 with z | z
  · exact Or.inl (Int32.lt_iff_toInt_lt.mpr z)
  · exact Or.inr (Int32.le_iff_toInt_le.mpr z)
theorem op_look {x o p : Nat} {f w : Int32} (h1 : mm_isObj M x 10 = true) (h2 : mm_isObj M o 101 = true) (h3 : M.1.1.2.2 o = 1) (h4 : M.2.2.2 x 8 = some p) (h5 : mm_isObj M p 5 = true) (h6 : f < 0 ∨ M.2.1 p 2 ≤ f) : mm_look M [.ref x, .int f, .int w, .ref o] = some (some (.int 1), mm_mark M) := by
  have e9 : (mm_isObj M x 10 && mm_isObj M o 101 && Nat.beq (M.1.1.2.2 o) 1) = true := by rw [h1, h2, h3]; rfl
  simp only [mm_look, e9, h4, h5, cond_true]
  by_cases g : f < 0
  · rw [if_pos g]
  · rw [if_neg g, if_pos (h6.resolve_left g)]
set_option maxRecDepth 20000 in
theorem to_look {k x o : Nat} {f w : Int32} {rest : List Value} {M1 : mm_M} (hc : mm_code mi pc = some (.invokestatic k, len, 998, 4, ps)) (h8 : Nat.ble (mm_w8 rest) 8 = true) (hl : mm_look M [.ref x, .int f, .int w, .ref o] = some (some (.int 1), M1)) (h : mm_T X (d + 1) mi (pc + 3) ls (.int 1 :: rest) M1 Q) : mm_T X (d + 1) mi pc ls (.ref o :: .int w :: .int f :: .ref x :: rest) M Q := tt_1 hc (tt_look (Nat.le_of_ble_eq_true h8) hl h)
set_option maxRecDepth 20000 in
theorem to_min {k : Nat} {x y v : Int32} (hc : mm_code mi pc = some (.invokestatic k, len, 996, b, ps)) (h8 : Nat.ble (st.map fun v => v.category).sum 100 = true) (hv : (if y < x then y else x) = v) (h : mm_T X d mi (pc + len) ls (.int v :: st) M Q) : mm_T X d mi pc ls (.int y :: .int x :: st) M Q := tt_1 hc (by
  show mm_b (Nat.ble (st.map fun v => v.category).sum 100) (mm_T X d mi (pc + len) ls (.int (if y < x then y else x) :: st) M Q) False
  rw [h8, hv]; exact h)
theorem to_s {k y n : Nat} {as st0 rest ls0 : List Value} (hc : mm_code mi pc = some (.invokestatic k, len, y, n, ps)) (hp : mm_pop n [] st0 (fun x r => (x, r)) ([], []) = (as, rest)) (hn : n ≤ st0.length) (h8 : mm_w8 rest ≤ 8) (hy : (Nat.beq y 998 || Nat.beq y 997 || Nat.beq y 996) = false) (hrc : mm_rc M y as = true) (he : mm_entry y as = ls0) (h : mm_T X d y 0 ls0 [] M (fun r1 M1 => mm_T X (d + 1) mi (pc + 3) ls (r1.toList ++ rest) M1 Q)) : mm_T X (d + 1) mi pc ls st0 M Q := tt_1 hc (by
  have key : ∀ (n : Nat) (as0 st : List Value) (K : List Value → List Value → Prop), n ≤ st.length → K (mm_pop n as0 st (fun x r => (x, r)) ([], [])).1 (mm_pop n as0 st (fun x r => (x, r)) ([], [])).2 → mm_pop n as0 st K False := by
    intro n
    induction n with
    | zero => intro as0 st K _ hk; exact hk
    | succ n ih =>
      intro as0 st K hl hk
      match st, hl, hk with
      | v :: r, hl, hk => exact ih (v :: as0) r K (by simpa using hl) hk
  rw [Bool.or_eq_false_iff, Bool.or_eq_false_iff] at hy
  have h9 := tt_call (X := X) (d := d) (mi := mi) (pc := pc) (ls := ls) (Q := Q) h8 hy.1.1 hrc he h
  have h10 := key n [] st0 (fun as st => tt_C X (d + 1) mi pc ls M Q y as st) hn (by rw [hp]; exact h9)
  show mm_b (Nat.beq y 996) _ (mm_b (Nat.beq y 997) _ (mm_pop n [] st0 (fun as st => tt_C X (d + 1) mi pc ls M Q y as st) False))
  rw [hy.1.2, hy.2]
  exact h10)
end OP
/-- what the law is to answer -/
noncomputable def op_Q : Option Value → mm_M → Prop := fun r MF => r = some (.int 1) ∧ MF.1.2.1 ≤ 600002 ∧ MF.1.2.2.1 ≤ 7302231
noncomputable def op_b (M : mm_M) : Bool := Nat.ble (M.1.2.1 + 10) 600002 && Nat.ble (M.1.2.2.1 + 10) 7302231
theorem op_c {M : mm_M} (h : op_b M = true) : M.1.2.1 ≤ 600002 ∧ M.1.2.2.1 ≤ 7302231 := by
  unfold op_b at h
  rw [Bool.and_eq_true] at h
  have h1 := Nat.le_of_ble_eq_true h.1
  have h2 := Nat.le_of_ble_eq_true h.2
  omega
theorem op_cm {M : mm_M} (h : op_b M = true) : (mm_mark M).1.2.1 ≤ 600002 ∧ (mm_mark M).1.2.2.1 ≤ 7302231 := by
  unfold op_b at h
  rw [Bool.and_eq_true] at h
  have h1 := Nat.le_of_ble_eq_true h.1
  have h2 := Nat.le_of_ble_eq_true h.2
  show M.1.2.1 + 1 ≤ _ ∧ M.1.2.2.1 + 6 ≤ _
  omega
section OQ
variable {X : mm_X} {d mi pc : Nat} {ls st : List Value} {M : mm_M} {Q : Option Value → mm_M → Prop} {len a b : Nat} {ps : List Nat}
theorem to_new {i n : Nat} (hc : mm_code mi pc = some (.new i, len, a, b, ps)) (h1 : (Nat.beq M.1.2.2.2 0 && Nat.blt M.1.1.1 900000) = true) (hn : M.1.1.1 = n) (h : mm_T X d mi (pc + len) ls (.ref n :: st) (mm_new M a 0 b) Q) : mm_T X d mi pc ls st M Q := tt_1 hc (by
  show mm_b (Nat.beq M.1.2.2.2 0 && Nat.blt M.1.1.1 900000) (mm_T X d mi (pc + len) ls (.ref M.1.1.1 :: st) (mm_new M a 0 b) Q) False
  rw [h1, hn]; exact h)
theorem to_nar {t : ArrayType} {k : Int32} {n m : Nat} (hc : mm_code mi pc = some (.newarray t, len, a, b, ps)) (hk : ¬ (k < 0 ∨ 1000 < k.toNatClampNeg)) (h1 : (Nat.beq M.1.2.2.2 0 && Nat.blt M.1.1.1 900000) = true) (hn : M.1.1.1 = n) (hm : k.toNatClampNeg = m) (h : mm_T X d mi (pc + len) ls (.ref n :: st) (mm_new M a m m) Q) : mm_T X d mi pc ls (.int k :: st) M Q := tt_1 hc (by
  show (if k < 0 ∨ 1000 < k.toNatClampNeg then False else mm_b (Nat.beq M.1.2.2.2 0 && Nat.blt M.1.1.1 900000) (mm_T X d mi (pc + len) ls (.ref M.1.1.1 :: st) (mm_new M a k.toNatClampNeg k.toNatClampNeg) Q) False)
  rw [if_neg hk, h1, hn, hm]; exact h)
theorem to_xlen {e : Nat} {v : Int32} (hc : mm_code mi pc = some (.arraylength, len, a, b, ps)) (hv : Int32.ofNat (X e).1 = v) (h : mm_T X d mi (pc + len) ls (.int v :: st) M Q) : mm_T X d mi pc ls (.ref (mm_ext + e) :: st) M Q := tt_1 hc (by
  have hx : Nat.ble mm_ext (mm_ext + e) = true := Nat.ble_eq_true_of_le (by omega)
  show mm_b (Nat.ble mm_ext (mm_ext + e)) (mm_T X d mi (pc + len) ls (.int (Int32.ofNat (X (mm_ext + e - mm_ext)).1) :: st) M Q) _
  rw [hx, show mm_ext + e - mm_ext = e by omega, hv]; exact h)
theorem to_sp {k y n : Nat} {as st0 rest ls0 : List Value} (hc : mm_code mi pc = some (.invokespecial k, len, y, n, ps)) (hp : mm_pop n [] st0 (fun x r => (x, r)) ([], []) = (as, rest)) (hn : n ≤ st0.length) (h8 : mm_w8 rest ≤ 8) (hy : (Nat.beq y 998 || Nat.beq y 999) = false) (hrc : mm_rc M y as = true) (he : mm_entry y as = ls0) (h : mm_T X d y 0 ls0 [] M (fun r1 M1 => mm_T X (d + 1) mi (pc + 3) ls (r1.toList ++ rest) M1 Q)) : mm_T X (d + 1) mi pc ls st0 M Q := tt_1 hc (by
  have key : ∀ (n : Nat) (as0 st : List Value) (K : List Value → List Value → Prop), n ≤ st.length → K (mm_pop n as0 st (fun x r => (x, r)) ([], [])).1 (mm_pop n as0 st (fun x r => (x, r)) ([], [])).2 → mm_pop n as0 st K False := by
    intro n
    induction n with
    | zero => intro as0 st K _ hk; exact hk
    | succ n ih =>
      intro as0 st K hl hk
      match st, hl, hk with
      | v :: r, hl, hk => exact ih (v :: as0) r K (by simpa using hl) hk
  rw [Bool.or_eq_false_iff] at hy
  have h9 := tt_call (X := X) (d := d) (mi := mi) (pc := pc) (ls := ls) (Q := Q) h8 hy.1 hrc he h
  have h10 := key n [] st0 (fun as st => tt_C X (d + 1) mi pc ls M Q y as st) hn (by rw [hp]; exact h9)
  show mm_b (Nat.beq y 999) _ (mm_pop n [] st0 (fun as st => tt_C X (d + 1) mi pc ls M Q y as st) False)
  rw [hy.2]
  exact h10)
end OQ
theorem and_31 (x : Int32) : ∃ k : Nat, k < 32 ∧ x &&& 31 = Int32.ofNat k := by
  refine ⟨x.toBitVec.toNat % 32, Nat.mod_lt _ (by decide), ?_⟩
  apply Int32.toBitVec_inj.mp
  rw [Int32.toBitVec_and]
  apply BitVec.eq_of_toNat_eq
  rw [BitVec.toNat_and]
  have h1 : (Int32.toBitVec 31).toNat = 2 ^ 5 - 1 := rfl
  rw [h1, Nat.and_two_pow_sub_one_eq_mod]
  have h2 : (Int32.ofNat (x.toBitVec.toNat % 32)).toBitVec.toNat = (x.toBitVec.toNat % 32) % 2 ^ 32 := rfl
  rw [h2, Nat.mod_eq_of_lt (Nat.lt_trans (Nat.mod_lt _ (by decide)) (by decide))]
end
