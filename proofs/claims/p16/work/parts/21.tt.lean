/-! TOTAL RUNS, a step at a time -/
theorem mm_run_2 {X : mm_X} {n d mi pc : Nat} {ls st : List Value} {M MF : mm_M} {r : Option Value} {q : mm_R} {o : mm_O} (h : match o with
    | .inl (pc', ls', st', M') => mm_run X n d mi pc' ls' st' M' = some (r, MF)
    | .inr (.inr r') => r' = r ∧ M = MF
    | .inr (.inl (y, as, rest)) => ∃ d' r1 M1, d = d' + 1 ∧ mm_w8 rest ≤ 8 ∧ (if y = 998 then mm_look M as = some (r1, M1) else mm_rc M y as = true ∧ mm_run X n d' y 0 (mm_entry y as) [] M = some (r1, M1)) ∧ mm_run X n (d' + 1) mi (pc + 3) ls (r1.toList ++ rest) M1 = some (r, MF)) (hc : mm_code mi pc = some q) (hs : mm_step X q pc ls st M = some o) : mm_run X (n + 1) d mi pc ls st M = some (r, MF) := by
  unfold mm_run
  rw [hc]
  simp only []
  rw [mm_stepK_eq, hs]
  clear hs
  match o, h with
  | .inl (pc', ls', st', M'), h => exact h
  | .inr (.inr r'), h => obtain ⟨rfl, rfl⟩ := h; rfl
  | .inr (.inl (y, as, rest)), h =>
    obtain ⟨d', r1, M1, rfl, h8, hcal, hnext⟩ := h
    have e8 : Nat.ble (mm_w8 rest) 8 = true := Nat.ble_eq_true_of_le h8
    simp only [e8]
    by_cases hy : y = 998
    · rw [if_pos hy] at hcal
      subst hy
      have e1 : Nat.beq 998 998 = true := rfl
      simp only [e1, cond_true, hcal]
      exact hnext
    · rw [if_neg hy] at hcal
      have e1 : Nat.beq y 998 = false := by
        cases hb : Nat.beq y 998 with
        | false => rfl
        | true => exact absurd (Nat.eq_of_beq_eq_true hb) hy
      simp only [e1, cond_false, hcal.1, cond_true, hcal.2]
      exact hnext
theorem mm_up {X : mm_X} : ∀ {n k d mi pc : Nat} {ls st : List Value} {M MF : mm_M} {r : Option Value}, n ≤ k → mm_run X n d mi pc ls st M = some (r, MF) → mm_run X k d mi pc ls st M = some (r, MF)
  | 0, _, _, _, _, _, _, _, _, _, _, h => nomatch h
  | n + 1, 0, _, _, _, _, _, _, _, _, hk, _ => absurd hk (by omega)
  | n + 1, k + 1, d, mi, pc, ls, st, M, MF, r, hk, h => by
    obtain ⟨q, o, hc, hs, ho⟩ := mm_run_1 h
    have hk' : n ≤ k := by omega
    refine mm_run_2 ?_ hc hs
    clear hs
    match o, ho with
    | .inl (pc', ls', st', M'), ho => exact mm_up hk' ho
    | .inr (.inr r'), ho => exact ho
    | .inr (.inl (y, as, rest)), ho =>
      obtain ⟨d', r1, M1, rfl, h8, hcal, hnext⟩ := ho
      refine ⟨d', r1, M1, rfl, h8, ?_, mm_up hk' hnext⟩
      by_cases hy : y = 998
      · rw [if_pos hy] at hcal ⊢
        exact hcal
      · rw [if_neg hy] at hcal ⊢
        exact ⟨hcal.1, mm_up hk' hcal.2⟩
noncomputable def tt_C (X : mm_X) (d mi pc : Nat) (ls : List Value) (M : mm_M) (Q : Option Value → mm_M → Prop) (y : Nat) (as rest : List Value) : Prop := ∃ d', d = d' + 1 ∧ mm_w8 rest ≤ 8 ∧ (if y = 998 then ∃ r1 M1, mm_look M as = some (r1, M1) ∧ mm_T X d mi (pc + 3) ls (r1.toList ++ rest) M1 Q else mm_rc M y as = true ∧ mm_T X d' y 0 (mm_entry y as) [] M (fun r1 M1 => mm_T X d mi (pc + 3) ls (r1.toList ++ rest) M1 Q))
noncomputable def tt_K (X : mm_X) (d mi pc : Nat) (ls : List Value) (M : mm_M) (Q : Option Value → mm_M → Prop) (o : mm_O) : Prop := match o with
  | .inl (pc', ls', st', M') => mm_T X d mi pc' ls' st' M' Q
  | .inr (.inr r) => Q r M
  | .inr (.inl (y, as, rest)) => tt_C X d mi pc ls M Q y as rest
theorem tt_1 {X : mm_X} {d mi pc : Nat} {ls st : List Value} {M : mm_M} {Q : Option Value → mm_M → Prop} {q : mm_R} (hc : mm_code mi pc = some q) (h : mm_stepK X q pc ls st M (tt_K X d mi pc ls M Q) False) : mm_T X d mi pc ls st M Q := by
  rw [mm_stepK_eq] at h
  cases hs : mm_step X q pc ls st M with
  | none => rw [hs] at h; exact h.elim
  | some o =>
    rw [hs] at h
    match o, h, hs with
    | .inl (pc', ls', st', M'), h, hs =>
      obtain ⟨n, r, MF, h1, h2⟩ := h
      exact ⟨n + 1, r, MF, mm_run_2 (o := .inl (pc', ls', st', M')) h1 hc hs, h2⟩
    | .inr (.inr r'), h, hs => exact ⟨1, r', M, mm_run_2 (o := .inr (.inr r')) ⟨rfl, rfl⟩ hc hs, h⟩
    | .inr (.inl (y, as, rest)), h, hs =>
      obtain ⟨d', rfl, h8, h⟩ := h
      by_cases hy : y = 998
      · rw [if_pos hy] at h
        obtain ⟨r1, M1, hl, n, r, MF, h1, h2⟩ := h
        exact ⟨n + 1, r, MF, mm_run_2 (o := .inr (.inl (y, as, rest))) ⟨d', r1, M1, rfl, h8, by rw [if_pos hy]; exact hl, h1⟩ hc hs, h2⟩
      · rw [if_neg hy] at h
        obtain ⟨hrc, n1, r1, M1, g1, n, r, MF, h1, h2⟩ := h
        exact ⟨max n1 n + 1, r, MF, mm_run_2 (o := .inr (.inl (y, as, rest))) ⟨d', r1, M1, rfl, h8, by rw [if_neg hy]; exact ⟨hrc, mm_up (Nat.le_max_left _ _) g1⟩, mm_up (Nat.le_max_right _ _) h1⟩ hc hs, h2⟩
theorem tt_imp {X : mm_X} {d mi pc : Nat} {ls st : List Value} {M : mm_M} {Q Q2 : Option Value → mm_M → Prop} (h : mm_T X d mi pc ls st M Q) (hq : ∀ r M1, Q r M1 → Q2 r M1) : mm_T X d mi pc ls st M Q2 := by
  obtain ⟨n, r, MF, h1, h2⟩ := h
  exact ⟨n, r, MF, h1, hq _ _ h2⟩
section TT
variable {X : mm_X} {d mi pc : Nat} {ls st : List Value} {M : mm_M} {Q : Option Value → mm_M → Prop} {len a b : Nat} {ps : List Nat}
theorem tt_call {y : Nat} {as rest ls0 : List Value} (h8 : mm_w8 rest ≤ 8) (hy : Nat.beq y 998 = false) (hrc : mm_rc M y as = true) (he : mm_entry y as = ls0) (h : mm_T X d y 0 ls0 [] M (fun r1 M1 => mm_T X (d + 1) mi (pc + 3) ls (r1.toList ++ rest) M1 Q)) : tt_C X (d + 1) mi pc ls M Q y as rest := by
  refine ⟨d, rfl, h8, ?_⟩
  rw [if_neg (fun z => by rw [z] at hy; cases hy), he]
  exact ⟨hrc, h⟩
theorem tt_look {as rest : List Value} {r1 : Option Value} {M1 : mm_M} (h8 : mm_w8 rest ≤ 8) (hl : mm_look M as = some (r1, M1)) (h : mm_T X (d + 1) mi (pc + 3) ls (r1.toList ++ rest) M1 Q) : tt_C X (d + 1) mi pc ls M Q 998 as rest := by
  refine ⟨d, rfl, h8, ?_⟩
  rw [if_pos rfl]
  exact ⟨r1, M1, hl, h⟩
/-- fields -/
theorem tt_gI {i x : Nat} {v : Int32} (hc : mm_code mi pc = some (.getfield i, len, a, b, 0 :: ps)) (ho : mm_isObj M x a = true) (hv : M.2.1 x b = v) (h : mm_T X d mi (pc + len) ls (.int v :: st) M Q) : mm_T X d mi pc ls (.ref x :: st) M Q := by
  refine tt_1 hc ?_
  show mm_b (mm_isObj M x a) (mm_T X d mi (pc + len) ls (.int (M.2.1 x b) :: st) M Q) False
  rw [ho, hv]; exact h
theorem tt_gZ {i x : Nat} {v : Int32} (hc : mm_code mi pc = some (.getfield i, len, a, b, 1 :: ps)) (ho : mm_isObj M x a = true) (hv : M.2.1 x b = v) (h : mm_T X d mi (pc + len) ls (.int v :: st) M Q) : mm_T X d mi pc ls (.ref x :: st) M Q := by
  refine tt_1 hc ?_
  show mm_b (mm_isObj M x a) (mm_T X d mi (pc + len) ls (.int (M.2.1 x b) :: st) M Q) False
  rw [ho, hv]; exact h
theorem tt_gJ {i x : Nat} {v : Int64} (hc : mm_code mi pc = some (.getfield i, len, a, b, 2 :: ps)) (ho : mm_isObj M x a = true) (hv : M.2.2.1 x b = v) (h : mm_T X d mi (pc + len) ls (.long v :: st) M Q) : mm_T X d mi pc ls (.ref x :: st) M Q := by
  refine tt_1 hc ?_
  show mm_b (mm_isObj M x a) (mm_T X d mi (pc + len) ls (.long (M.2.2.1 x b) :: st) M Q) False
  rw [ho, hv]; exact h
theorem tt_gR {i x v : Nat} (hc : mm_code mi pc = some (.getfield i, len, a, b, 3 :: ps)) (ho : mm_isObj M x a = true) (hv : M.2.2.2 x b = some v) (h : mm_T X d mi (pc + len) ls (.ref v :: st) M Q) : mm_T X d mi pc ls (.ref x :: st) M Q := by
  refine tt_1 hc ?_
  show mm_b (mm_isObj M x a) (mm_gO (M.2.2.2 x b) (fun v => mm_T X d mi (pc + len) ls (.ref v :: st) M Q) False) False
  rw [ho, hv]; exact h
theorem tt_pI {i x : Nat} {v : Int32} (hc : mm_code mi pc = some (.putfield i, len, a, b, 0 :: ps)) (ho : mm_isObj M x a = true) (h : mm_T X d mi (pc + len) ls st (mm_setI M x b v) Q) : mm_T X d mi pc ls (.int v :: .ref x :: st) M Q := by
  refine tt_1 hc ?_
  show mm_b (mm_isObj M x a) (mm_T X d mi (pc + len) ls st (mm_setI M x b v) Q) False
  rw [ho]; exact h
theorem tt_pZ {i x : Nat} {v : Int32} (hc : mm_code mi pc = some (.putfield i, len, a, b, 1 :: ps)) (ho : mm_isObj M x a = true) (hv : v = 0 ∨ v = 1) (h : mm_T X d mi (pc + len) ls st (mm_setI M x b v) Q) : mm_T X d mi pc ls (.int v :: .ref x :: st) M Q := by
  refine tt_1 hc ?_
  show mm_b (mm_isObj M x a) (if v = 0 ∨ v = 1 then (mm_T X d mi (pc + len) ls st (mm_setI M x b v) Q) else False) False
  rw [ho, if_pos hv]; exact h
theorem tt_pJ {i x : Nat} {v : Int64} (hc : mm_code mi pc = some (.putfield i, len, a, b, 2 :: ps)) (ho : mm_isObj M x a = true) (h : mm_T X d mi (pc + len) ls st (mm_setL M x b v) Q) : mm_T X d mi pc ls (.long v :: .ref x :: st) M Q := by
  refine tt_1 hc ?_
  show mm_b (mm_isObj M x a) (mm_T X d mi (pc + len) ls st (mm_setL M x b v) Q) False
  rw [ho]; exact h
/-- rows -/
theorem tt_ial {x : Nat} {i v : Int32} (hc : mm_code mi pc = some (.iaload, len, a, b, ps)) (hx : Nat.ble mm_ext x = false) (ho : mm_isObj M x 100 = true) (hi : ¬ (i < 0 ∨ M.1.1.2.2 x ≤ i.toNatClampNeg)) (hv : M.2.1 x i.toNatClampNeg = v) (h : mm_T X d mi (pc + len) ls (.int v :: st) M Q) : mm_T X d mi pc ls (.int i :: .ref x :: st) M Q := by
  refine tt_1 hc ?_
  show mm_b (Nat.ble mm_ext x) _ (mm_b (mm_isObj M x 100) (if i < 0 ∨ M.1.1.2.2 x ≤ i.toNatClampNeg then False else (mm_T X d mi (pc + len) ls (.int (M.2.1 x i.toNatClampNeg) :: st) M Q)) False)
  rw [hx, ho]
  show (if i < 0 ∨ M.1.1.2.2 x ≤ i.toNatClampNeg then False else (mm_T X d mi (pc + len) ls (.int (M.2.1 x i.toNatClampNeg) :: st) M Q))
  rw [if_neg hi, hv]; exact h
theorem tt_xal {e : Nat} {i v : Int32} (hc : mm_code mi pc = some (.iaload, len, a, b, ps)) (hi : ¬ (i < 0 ∨ (X e).1 ≤ i.toNatClampNeg)) (hv : (X e).2 i.toNatClampNeg = v) (h : mm_T X d mi (pc + len) ls (.int v :: st) M Q) : mm_T X d mi pc ls (.int i :: .ref (mm_ext + e) :: st) M Q := by
  refine tt_1 hc ?_
  have hx : Nat.ble mm_ext (mm_ext + e) = true := Nat.ble_eq_true_of_le (by omega)
  show mm_b (Nat.ble mm_ext (mm_ext + e)) (if i < 0 ∨ (X (mm_ext + e - mm_ext)).1 ≤ i.toNatClampNeg then False else (mm_T X d mi (pc + len) ls (.int ((X (mm_ext + e - mm_ext)).2 i.toNatClampNeg) :: st) M Q)) _
  rw [hx]
  show (if i < 0 ∨ (X (mm_ext + e - mm_ext)).1 ≤ i.toNatClampNeg then False else (mm_T X d mi (pc + len) ls (.int ((X (mm_ext + e - mm_ext)).2 i.toNatClampNeg) :: st) M Q))
  rw [show mm_ext + e - mm_ext = e by omega, if_neg hi, hv]; exact h
theorem tt_len {x n : Nat} (hc : mm_code mi pc = some (.arraylength, len, a, b, ps)) (hx : Nat.ble mm_ext x = false) (ho : (Nat.blt x M.1.1.1 && Nat.ble 100 (M.1.1.2.1 x) && Nat.ble (M.1.1.2.1 x) 104) = true) (hv : M.1.1.2.2 x = n) (h : mm_T X d mi (pc + len) ls (.int (Int32.ofNat n) :: st) M Q) : mm_T X d mi pc ls (.ref x :: st) M Q := by
  refine tt_1 hc ?_
  show mm_b (Nat.ble mm_ext x) _ (mm_b (Nat.blt x M.1.1.1 && Nat.ble 100 (M.1.1.2.1 x) && Nat.ble (M.1.1.2.1 x) 104) (mm_T X d mi (pc + len) ls (.int (Int32.ofNat (M.1.1.2.2 x)) :: st) M Q) False)
  rw [hx, ho, hv]; exact h
/-- a branch -/
theorem tt_if {c : ClassFile.Cond} {o : Int} {x : Int32} (hc : mm_code mi pc = some (.ifCond c o, len, a, b, ps)) (h : mm_cnd c x 0 (mm_T X d mi a ls st M Q) (mm_T X d mi (pc + len) ls st M Q)) : mm_T X d mi pc ls (.int x :: st) M Q := tt_1 hc h
theorem tt_ic {c : ClassFile.Cond} {o : Int} {x y : Int32} (hc : mm_code mi pc = some (.if_icmp c o, len, a, b, ps)) (h : mm_cnd c x y (mm_T X d mi a ls st M Q) (mm_T X d mi (pc + len) ls st M Q)) : mm_T X d mi pc ls (.int y :: .int x :: st) M Q := tt_1 hc h
end TT
