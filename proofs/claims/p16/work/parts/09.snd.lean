/-! SOUNDNESS of a step: what the small machine does, the machine does -/
noncomputable def rl_A (B : Nat) : Nat → Prop := fun q => B ≤ q
/-- what a throw of look's wants of the start -/
noncomputable def lk_I : String := "java/lang/IndexOutOfBoundsException"
noncomputable def lk_N : String := "java/util/NoSuchElementException"
noncomputable def ng_ws : List Cond := [.declares (Bundle.initS "java/lang/RuntimeException"), .declares (Bundle.initS "java/lang/Exception"), .declares (Bundle.initS Bundle.tN), .castable lk_I lk_I, .castable lk_N lk_N]
noncomputable def rl_L (B : Nat) (U : State) (H : Heap) : Prop := vx_Zq Bundle.tN "UNASSIGNED_STACK" Bundle.steD (rl_A B) U H ∧ vx_Zq Bundle.tN "SUPPRESSED_SENTINEL" Bundle.listD (rl_A B) U H ∧ (∀ w ∈ ng_ws, va_Nw w U) ∧ (∃ a, vk_R RX10 155 "no such field" a U) ∧ (∃ a, vk_R RX10 175 "no such what" a U) ∧ va_Nc lk_N lk_I U
noncomputable def rl_E (E : Nat → Nat) (X : mm_X) (B : Nat) (U : State) (H : Heap) : Prop :=
  (∀ d ∈ nn_0, va_Nw (mm_nc d) U) ∧ (∀ e, va_T .int (E e) (X e).1 (fun j => .int ((X e).2 j)) (rl_A B) U H) ∧ (∀ a, 1 ≤ a → a ≤ 3 → va_Z "NotchedCards" (mm_sn a) "[I" (.ref (E a)) (rl_A B) U H) ∧ (Cond.arrayOver (.array .int)).before #[] U = true ∧ rl_L B U H
noncomputable def sn_I (D : va_G) (B : Nat) (s : State) (c0 s0 : Nat) (M : mm_M) (H : Heap) (locs : List Loc) (cells slots : Nat) : Prop :=
  rl D s B M H ∧ va_S (rl_A B) s.heap H locs ∧ c0 + cells = M.1.2.1 ∧ s0 + slots = M.1.2.2.1
noncomputable def sn_C (D : va_G) (E : Nat → Nat) (X : mm_X) (B : Nat) (p : Program) (s : State) (m : MethodId) (args : Array Value) (meth : Method) (c : Code) (mi : Nat) : Prop :=
  p.tables.exec = Jvm.exec ∧ c.code = mm_cc mi ∧ c.maxLocals = mm_mx mi ∧ s.vm.findClass (mm_on (mm_ow mi)) = some m.cls ∧ (∀ w ∈ lw_tbl, goodWord w = true → w.before args s = true) ∧ (mm_ii mi = true → meth.name = "<init>") ∧ va_K D vwCl [] s ∧ rl_E E X B s s.heap ∧ B ≤ s.heap.size ∧ mi < mm_nm
theorem mm_pI_P {st : List Value} {K : Int32 → List Value → Prop} (h : mm_pI st K False) : ∃ x r, st = .int x :: r ∧ K x r := by
  unfold mm_pI at h; split at h
  · exact ⟨_, _, rfl, h⟩
  · exact h.elim
theorem mm_pL_P {st : List Value} {K : Int64 → List Value → Prop} (h : mm_pL st K False) : ∃ x r, st = .long x :: r ∧ K x r := by
  unfold mm_pL at h; split at h
  · exact ⟨_, _, rfl, h⟩
  · exact h.elim
theorem mm_pR_P {st : List Value} {K : Nat → List Value → Prop} (h : mm_pR st K False) : ∃ x r, st = .ref x :: r ∧ K x r := by
  unfold mm_pR at h; split at h
  · exact ⟨_, _, rfl, h⟩
  · exact h.elim
theorem mm_p1_P {st : List Value} {K : Value → List Value → Prop} (h : mm_p1 st K False) : ∃ v r, st = v :: r ∧ (∀ (B : Nat) (E : Nat → Nat), (mm_tr B E v).category = 1) ∧ K v r := by
  unfold mm_p1 at h; split at h
  · exact ⟨_, _, rfl, fun _ _ => rfl, h⟩
  · exact ⟨_, _, rfl, fun _ _ => rfl, h⟩
  · exact h.elim
theorem mm_gI_P {v : Value} {K : Int32 → Prop} (h : mm_gI v K False) : ∃ x, v = .int x ∧ K x := by
  unfold mm_gI at h; split at h
  · exact ⟨_, rfl, h⟩
  · exact h.elim
theorem mm_gL_P {v w : Value} {K : Int64 → Prop} (h : mm_gL v w K False) : ∃ x, v = .long x ∧ w = .null ∧ K x := by
  unfold mm_gL at h; split at h
  · exact ⟨_, rfl, rfl, h⟩
  · exact h.elim
theorem mm_gR_P {v : Value} {K : Nat → Prop} (h : mm_gR v K False) : ∃ x, v = .ref x ∧ K x := by
  unfold mm_gR at h; split at h
  · exact ⟨_, rfl, h⟩
  · exact h.elim
theorem mm_gO_P {v : Option Nat} {K : Nat → Prop} (h : mm_gO v K False) : ∃ x, v = some x ∧ K x := by
  unfold mm_gO at h; split at h
  · exact ⟨_, rfl, h⟩
  · exact h.elim
theorem mm_b_P {b : Bool} {k : Prop} (h : mm_b b k False) : b = true ∧ k := by
  unfold mm_b at h; split at h
  · exact ⟨rfl, h⟩
  · exact h.elim
theorem mm_b_E {b : Bool} {k k2 : Prop} (h : mm_b b k k2) : (b = true ∧ k) ∨ (b = false ∧ k2) := by
  unfold mm_b at h; split at h
  · exact Or.inl ⟨rfl, h⟩
  · exact Or.inr ⟨rfl, h⟩
theorem mm_e_P {st : List Value} {k : Prop} (h : mm_e st k False) : st = [] ∧ k := by
  unfold mm_e at h; split at h
  · exact ⟨rfl, h⟩
  · exact h.elim
theorem mm_nif {c : Prop} [Decidable c] {k : Prop} (h : if c then False else k) : ¬ c ∧ k := by
  by_cases hc : c
  · rw [if_pos hc] at h; exact h.elim
  · rw [if_neg hc] at h; exact ⟨hc, h⟩
theorem mm_pif {c : Prop} [Decidable c] {k : Prop} (h : if c then k else False) : c ∧ k := by
  by_cases hc : c
  · rw [if_pos hc] at h; exact ⟨hc, h⟩
  · rw [if_neg hc] at h; exact h.elim
theorem mm_isObj_P {M : mm_M} {a c : Nat} (h : mm_isObj M a c = true) : a < M.1.1.1 ∧ M.1.1.2.1 a = c := by
  unfold mm_isObj at h
  rw [Bool.and_eq_true] at h
  exact ⟨Nat.le_of_ble_eq_true h.1, Nat.eq_of_beq_eq_true h.2⟩
theorem rl.ext {D : va_G} {U : State} {B : Nat} {M : mm_M} {H : Heap} (h : rl D U B M H) {a : Nat} (ha : a < M.1.1.1) (E : Nat → Nat) : mm_ad B E a = B + a := by
  unfold mm_ad
  rw [if_neg (by have := h.1.2.2; omega)]
/-- the local k -/
theorem lvR.l {B : Nat} {E : Nat → Nat} {lsA : Array Slot} {nL : Nat} {ls : List Value} (h : lvR B E lsA nL ls) {k : Nat} {x : Int64} (hk : mm_at ls k = .long x) (h2 : mm_at ls (k + 1) = .null) (h3 : k + 1 < ls.length) : lsA[k]? = some (.val (.long x)) := by
  refine h.2.2.2 (k, .long x) (mm_cl_mem.mpr ⟨by show k < ls.length; omega, ?_⟩)
  simp only [hk, h2]
  unfold mm_cl1
  simp only [if_pos h3]
theorem mm_cl1_inv {B : Nat} {E : Nat → Nat} {n k : Nat} {v w : Value} {q : Nat × Value} (h : mm_cl1 B E n k v w = some q) : (∃ x, v = .int x ∧ q = (k, .int x)) ∨ (∃ a, v = .ref a ∧ q = (k, .ref (mm_ad B E a))) ∨ ∃ x, v = .long x ∧ w = .null ∧ k + 1 < n ∧ q = (k, .long x) := by
  cases v with
  | int x => exact Or.inl ⟨x, rfl, (Option.some.inj h).symm⟩
  | ref a => exact Or.inr (Or.inl ⟨a, rfl, (Option.some.inj h).symm⟩)
  | long x =>
    cases w with
    | null =>
      by_cases hc : k + 1 < n
      · have h2 : (if k + 1 < n then some (k, Value.long x) else none) = some q := h
        rw [if_pos hc] at h2
        exact Or.inr (Or.inr ⟨x, rfl, rfl, hc, (Option.some.inj h2).symm⟩)
      · have h2 : (if k + 1 < n then some (k, Value.long x) else none) = some q := h
        rw [if_neg hc] at h2
        cases h2
    | _ => cases h
  | _ => cases h
theorem mm_cl1_mk {B : Nat} {E : Nat → Nat} {n k : Nat} {v w : Value} {q : Nat × Value} (h : (∃ x, v = .int x ∧ q = (k, .int x)) ∨ (∃ a, v = .ref a ∧ q = (k, .ref (mm_ad B E a))) ∨ ∃ x, v = .long x ∧ w = .null ∧ k + 1 < n ∧ q = (k, .long x)) : mm_cl1 B E n k v w = some q := by
  rcases h with ⟨x, rfl, rfl⟩ | ⟨a, rfl, rfl⟩ | ⟨x, rfl, rfl, hc, rfl⟩
  · rfl
  · rfl
  · show (if k + 1 < n then some (k, Value.long x) else none) = _
    rw [if_pos hc]
theorem lvR.set1 {B : Nat} {E : Nat → Nat} {ls : List Value} {i : Nat} {v : Value} (hi : i < ls.length) (hv : (∃ x, v = .int x) ∨ ∃ x, v = .ref x) : ∀ q ∈ mm_cl B E (mm_set ls i v), q ∈ (i, mm_tr B E v) :: (mm_cl B E ls).filter (fun q => !(q.1 == i) && !(q.1 + 1 == i && q.2.category == 2)) := by
  intro q hq
  obtain ⟨h1, h2⟩ := mm_cl_mem.mp hq
  rw [mm_set_len] at h1 h2
  simp only [mm_at_set] at h2
  by_cases e : q.1 = i
  · rw [if_pos ⟨e, hi⟩] at h2
    refine List.mem_cons.mpr (Or.inl ?_)
    rcases hv with ⟨x, rfl⟩ | ⟨x, rfl⟩
    · rcases mm_cl1_inv h2 with ⟨y, e1, e2⟩ | ⟨y, e1, e2⟩ | ⟨y, e1, -, -, e2⟩
      · cases e1; rw [e2, e]; rfl
      · cases e1
      · cases e1
    · rcases mm_cl1_inv h2 with ⟨y, e1, e2⟩ | ⟨y, e1, e2⟩ | ⟨y, e1, -, -, e2⟩
      · cases e1
      · cases e1; rw [e2, e]; rfl
      · cases e1
  · rw [if_neg (fun z => e z.1)] at h2
    refine List.mem_cons_of_mem _ (List.mem_filter.mpr ?_)
    by_cases e2 : q.1 + 1 = i
    · rw [if_pos ⟨e2, hi⟩] at h2
      rcases mm_cl1_inv h2 with ⟨y, e1, e3⟩ | ⟨y, e1, e3⟩ | ⟨y, e1, e4, -, e3⟩
      · exact ⟨mm_cl_mem.mpr ⟨h1, mm_cl1_mk (Or.inl ⟨y, e1, e3⟩)⟩, by rw [e3]; simp [e, Value.category]⟩
      · exact ⟨mm_cl_mem.mpr ⟨h1, mm_cl1_mk (Or.inr (Or.inl ⟨y, e1, e3⟩))⟩, by rw [e3]; simp [e, Value.category]⟩
      · rcases hv with ⟨x, rfl⟩ | ⟨x, rfl⟩ <;> cases e4
    · rw [if_neg (fun z => e2 z.1)] at h2
      exact ⟨mm_cl_mem.mpr ⟨h1, h2⟩, by simp [e, e2]⟩
theorem lvR.set2 {B : Nat} {E : Nat → Nat} {ls : List Value} {i : Nat} {x : Int64} (hi : i + 1 < ls.length) : ∀ q ∈ mm_cl B E (mm_set (mm_set ls i (.long x)) (i + 1) .null), q ∈ (i, Value.long x) :: (mm_cl B E ls).filter (fun q => !(q.1 == i) && (!(q.1 == i + 1) && !(q.1 + 1 == i && q.2.category == 2))) := by
  intro q hq
  obtain ⟨h1, h2⟩ := mm_cl_mem.mp hq
  simp only [mm_set_len] at h1 h2
  simp only [mm_at_set, mm_set_len] at h2
  by_cases e : q.1 = i
  · rw [if_neg (by omega), if_pos ⟨e, by omega⟩, if_pos ⟨by omega, by omega⟩] at h2
    rcases mm_cl1_inv h2 with ⟨y, e1, e2⟩ | ⟨y, e1, e2⟩ | ⟨y, e1, -, -, e2⟩
    · cases e1
    · cases e1
    · cases e1; exact List.mem_cons.mpr (Or.inl (by rw [e2, e]))
  · by_cases e1 : q.1 = i + 1
    · rw [if_pos ⟨e1, by omega⟩] at h2
      rcases mm_cl1_inv h2 with ⟨y, e1, e2⟩ | ⟨y, e1, e2⟩ | ⟨y, e1, -, -, e2⟩ <;> cases e1
    · rw [if_neg (by omega), if_neg (by omega)] at h2
      refine List.mem_cons_of_mem _ (List.mem_filter.mpr ?_)
      by_cases e2 : q.1 + 1 = i
      · rw [if_neg (by omega), if_pos ⟨e2, by omega⟩] at h2
        rcases mm_cl1_inv h2 with ⟨y, e4, e3⟩ | ⟨y, e4, e3⟩ | ⟨y, e4, e5, -, e3⟩
        · exact ⟨mm_cl_mem.mpr ⟨h1, mm_cl1_mk (Or.inl ⟨y, e4, e3⟩)⟩, by rw [e3]; simp [e, e1, Value.category]⟩
        · exact ⟨mm_cl_mem.mpr ⟨h1, mm_cl1_mk (Or.inr (Or.inl ⟨y, e4, e3⟩))⟩, by rw [e3]; simp [e, e1, Value.category]⟩
        · cases e5
      · rw [if_neg (by omega), if_neg (by omega)] at h2
        exact ⟨mm_cl_mem.mpr ⟨h1, h2⟩, by simp [e, e1, e2]⟩
theorem lvR.of {B : Nat} {E : Nat → Nat} {lsA : Array Slot} {nL : Nat} {ls : List Value} {l : List (Nat × Value)} (hn : ls.length = nL) (h : lv_has lsA nL l) (hm : ∀ q ∈ mm_cl B E ls, q ∈ l) : lvR B E lsA nL ls := ⟨hn, h.1, h.2.1, fun q hq => h.2.2 q (hm q hq)⟩
