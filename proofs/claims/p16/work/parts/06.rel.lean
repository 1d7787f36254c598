/-! THE SMALL MACHINE'S CELLS IN THE HEAP: cell a lies at B + a; rows from outside at E 0 .. E 3 -/
noncomputable def mm_ad (B : Nat) (E : Nat → Nat) (a : Nat) : Nat := if mm_ext ≤ a then E (a - mm_ext) else B + a
noncomputable def mm_tr (B : Nat) (E : Nat → Nat) (v : Value) : Value := match v with
  | .ref a => .ref (mm_ad B E a)
  | w => w
noncomputable def mm_tk (t : FieldType) : Nat := match t with
  | .int => 0
  | .boolean => 1
  | .long => 2
  | _ => 3
/-- the kind of field k of the class c -/
noncomputable def mm_fk (c k : Nat) : Nat := mm_tk (mm_ty c k)
/-- field k of the object a of the class c -/
noncomputable def rl_V (B : Nat) (M : mm_M) (c a k : Nat) : Value := match mm_fk c k with
  | 0 => .int (M.2.1 a k)
  | 1 => .int (M.2.1 a k)
  | 2 => .long (M.2.2.1 a k)
  | _ => va_rf ((M.2.2.2 a k).map (B + ·))
noncomputable def rl_at (D : va_G) (U : State) (B : Nat) (M : mm_M) (H : Heap) (a : Nat) : Prop :=
  (M.1.1.2.1 a = 100 → ∃ cA, ArrOfT U cA .int ∧ H[B + a]? = some (arrV cA (M.1.1.2.2 a) (fun j => .int (M.2.1 a j)))) ∧
  (M.1.1.2.1 a = 101 → ∃ cA, ArrOfT U cA .long ∧ H[B + a]? = some (arrV cA (M.1.1.2.2 a) (fun j => .long (M.2.2.1 a j)))) ∧
  (M.1.1.2.1 a = 102 → ∃ cA, ArrOfT U cA .boolean ∧ H[B + a]? = some (arrV cA (M.1.1.2.2 a) (fun j => .int (M.2.1 a j)))) ∧
  (M.1.1.2.1 a = 103 → ∃ cA, ArrOfT U cA .byte ∧ H[B + a]? = some (arrV cA (M.1.1.2.2 a) (fun j => .int (M.2.1 a j)))) ∧
  (M.1.1.2.1 a = 104 → ∃ cA, ArrOfT U cA (.array .int) ∧ H[B + a]? = some (arrV cA (M.1.1.2.2 a) (fun j => va_rf ((M.2.2.2 a j).map (B + ·))))) ∧
  (M.1.1.2.1 a < mm_ncl → t_OB (B + a) (D.1 (M.1.1.2.1 a)) (mm_tn (M.1.1.2.1 a)) (D.2 (M.1.1.2.1 a)) H (rl_V B M (M.1.1.2.1 a) a))
noncomputable def rl (D : va_G) (U : State) (B : Nat) (M : mm_M) (H : Heap) : Prop :=
  (B + M.1.1.1 ≤ H.size ∧ (M.1.2.2.2 = 0 → H.size = B + M.1.1.1) ∧ M.1.1.1 ≤ mm_ext) ∧ (∀ a, a < M.1.1.1 → rl_at D U B M H a) ∧ (∀ a i, M.1.1.1 ≤ a → M.2.1 a i = 0 ∧ M.2.2.1 a i = 0 ∧ M.2.2.2 a i = none) ∧ ∀ a i y, M.2.2.2 a i = some y → y < M.1.1.1
theorem rl_at.moved {D : va_G} {u U : State} {B : Nat} {M : mm_M} {H : Heap} {a : Nat} (hvm : u.vm.Alike U.vm) (h : rl_at D u B M H a) : rl_at D U B M H a := by
  obtain ⟨h1, h2, h3, h4, h5, h6⟩ := h
  refine ⟨fun q => ?_, fun q => ?_, fun q => ?_, fun q => ?_, fun q => ?_, h6⟩
  · obtain ⟨c, e1, e2⟩ := h1 q; exact ⟨c, arrOfT_moved hvm e1, e2⟩
  · obtain ⟨c, e1, e2⟩ := h2 q; exact ⟨c, arrOfT_moved hvm e1, e2⟩
  · obtain ⟨c, e1, e2⟩ := h3 q; exact ⟨c, arrOfT_moved hvm e1, e2⟩
  · obtain ⟨c, e1, e2⟩ := h4 q; exact ⟨c, arrOfT_moved hvm e1, e2⟩
  · obtain ⟨c, e1, e2⟩ := h5 q; exact ⟨c, arrOfT_moved hvm e1, e2⟩
theorem rl.moved {D : va_G} {u U : State} {B : Nat} {M : mm_M} {H : Heap} (hvm : u.vm.Alike U.vm) (h : rl D u B M H) : rl D U B M H := ⟨h.1, fun a ha => (h.2.1 a ha).moved hvm, h.2.2⟩
theorem rl_at.kept {D : va_G} {U : State} {B : Nat} {M : mm_M} {H H1 : Heap} {a : Nat} (h : rl_at D U B M H a) (hq : H1[B + a]? = H[B + a]?) : rl_at D U B M H1 a := by
  obtain ⟨h1, h2, h3, h4, h5, h6⟩ := h
  refine ⟨fun q => ?_, fun q => ?_, fun q => ?_, fun q => ?_, fun q => ?_, fun hh => (h6 hh).kept hq⟩
  · obtain ⟨c, e1, e2⟩ := h1 q; exact ⟨c, e1, hq.trans e2⟩
  · obtain ⟨c, e1, e2⟩ := h2 q; exact ⟨c, e1, hq.trans e2⟩
  · obtain ⟨c, e1, e2⟩ := h3 q; exact ⟨c, e1, hq.trans e2⟩
  · obtain ⟨c, e1, e2⟩ := h4 q; exact ⟨c, e1, hq.trans e2⟩
  · obtain ⟨c, e1, e2⟩ := h5 q; exact ⟨c, e1, hq.trans e2⟩
/-- the cell a is the same in two memories -/
theorem rl_at.to {D : va_G} {U : State} {B : Nat} {M M1 : mm_M} {H : Heap} {a : Nat} (h : rl_at D U B M H a) (ht : M1.1.1.2.1 a = M.1.1.2.1 a) (hl : M1.1.1.2.2 a = M.1.1.2.2 a) (hi : ∀ j, M1.2.1 a j = M.2.1 a j) (hj : ∀ j, M1.2.2.1 a j = M.2.2.1 a j) (hr : ∀ j, M1.2.2.2 a j = M.2.2.2 a j) : rl_at D U B M1 H a := by
  have e1 : M1.2.1 a = M.2.1 a := funext hi
  have e2 : M1.2.2.1 a = M.2.2.1 a := funext hj
  have e3 : M1.2.2.2 a = M.2.2.2 a := funext hr
  have ev : ∀ c : Nat, rl_V B M1 c a = rl_V B M c a := fun c => by funext k; unfold rl_V; rw [e1, e2, e3]
  unfold rl_at
  rw [ht, hl, e1, e2, e3]
  obtain ⟨h1, h2, h3, h4, h5, h6⟩ := h
  exact ⟨h1, h2, h3, h4, h5, fun hq => by rw [ev]; exact h6 hq⟩
/-! locals -/
theorem mm_set_len : ∀ (ls : List Value) (k : Nat) (v : Value), (mm_set ls k v).length = ls.length
  | [], _, _ => rfl
  | _ :: _, 0, _ => rfl
  | _ :: t, k + 1, v => by simp [mm_set, mm_set_len t k v]
theorem mm_at_set : ∀ (ls : List Value) (i : Nat) (v : Value) (k : Nat), mm_at (mm_set ls i v) k = if k = i ∧ i < ls.length then v else mm_at ls k
  | [], i, v, k => by simp [mm_set, mm_at]
  | w :: t, 0, v, 0 => by simp [mm_set, mm_at]
  | w :: t, 0, v, k + 1 => by simp [mm_set, mm_at]
  | w :: t, i + 1, v, 0 => by simp [mm_set, mm_at]
  | w :: t, i + 1, v, k + 1 => by simp [mm_set, mm_at, mm_at_set t i v k]
noncomputable def mm_cl1 (B : Nat) (E : Nat → Nat) (n k : Nat) (v w : Value) : Option (Nat × Value) := match v, w with
  | .int x, _ => some (k, .int x)
  | .ref a, _ => some (k, .ref (mm_ad B E a))
  | .long x, .null => if k + 1 < n then some (k, .long x) else none
  | _, _ => none
noncomputable def mm_cl (B : Nat) (E : Nat → Nat) (ls : List Value) : List (Nat × Value) := (List.range ls.length).filterMap (fun k => mm_cl1 B E ls.length k (mm_at ls k) (mm_at ls (k + 1)))
theorem mm_cl_mem {B : Nat} {E : Nat → Nat} {ls : List Value} {q : Nat × Value} : q ∈ mm_cl B E ls ↔ q.1 < ls.length ∧ mm_cl1 B E ls.length q.1 (mm_at ls q.1) (mm_at ls (q.1 + 1)) = some q := by
  unfold mm_cl
  rw [List.mem_filterMap]
  constructor
  · rintro ⟨k, hk, h⟩
    have hk' := List.mem_range.mp hk
    have e : k = q.1 := by
      unfold mm_cl1 at h
      split at h
      · cases h; rfl
      · cases h; rfl
      · split at h
        · cases h; rfl
        · cases h
      · cases h
    subst e
    exact ⟨hk', h⟩
  · rintro ⟨h1, h2⟩
    exact ⟨q.1, List.mem_range.mpr h1, h2⟩
noncomputable def lvR (B : Nat) (E : Nat → Nat) (lsA : Array Slot) (nL : Nat) (ls : List Value) : Prop := ls.length = nL ∧ lv_has lsA nL (mm_cl B E ls)
theorem lvR.i {B : Nat} {E : Nat → Nat} {lsA : Array Slot} {nL : Nat} {ls : List Value} (h : lvR B E lsA nL ls) {k : Nat} {x : Int32} (hk : mm_at ls k = .int x) : lsA[k]? = some (.val (.int x)) := by
  refine h.2.2.2 (k, .int x) (mm_cl_mem.mpr ⟨?_, by simp only [hk]; rfl⟩)
  rcases Nat.lt_or_ge k ls.length with q | q
  · exact q
  · have : ∀ (l : List Value) (j : Nat), l.length ≤ j → mm_at l j = .null := by
      intro l
      induction l with
      | nil => intro j _; cases j <;> rfl
      | cons a t ih => intro j hj; cases j with
        | zero => simp at hj
        | succ j => exact ih j (by simpa using hj)
    rw [this ls k q] at hk
    cases hk
theorem lvR.r {B : Nat} {E : Nat → Nat} {lsA : Array Slot} {nL : Nat} {ls : List Value} (h : lvR B E lsA nL ls) {k : Nat} {x : Nat} (hk : mm_at ls k = .ref x) : lsA[k]? = some (.val (.ref (mm_ad B E x))) := by
  refine h.2.2.2 (k, .ref (mm_ad B E x)) (mm_cl_mem.mpr ⟨?_, by simp only [hk]; rfl⟩)
  rcases Nat.lt_or_ge k ls.length with q | q
  · exact q
  · have : ∀ (l : List Value) (j : Nat), l.length ≤ j → mm_at l j = .null := by
      intro l
      induction l with
      | nil => intro j _; cases j <;> rfl
      | cons a t ih => intro j hj; cases j with
        | zero => simp at hj
        | succ j => exact ih j (by simpa using hj)
    rw [this ls k q] at hk
    cases hk
