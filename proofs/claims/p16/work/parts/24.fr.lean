/-! THE FRESH STATE, and what the runs on it want -/
noncomputable def mm_M0 : mm_M := (((0, fun _ => 0, fun _ => 0), (0, 0, 0)), (fun _ _ => 0, fun _ _ => 0, fun _ _ => none))
noncomputable def fr_W : List Int32 := [284563040, 210940032, 788074496, 518160384, 659999744, 538233440, 404000768, 538561536, 686817280, 93323264, 351582208, 40936896, 486146048, 48365568, 522190848]
noncomputable def fr_S : List Int32 := [0, 8, 4, 12, 2, 10, 6, 1, 9, 5]
noncomputable def fr_P : List Int32 := [3, 24, 20, 12, 18, 10, 6, 17, 9, 5]
noncomputable def fr_X (L : Nat) (xs : Nat → Int32) : mm_X := fun e => match e with
  | 0 => (L, xs)
  | 2 => (10, fun j => fr_S.getD j 0)
  | 3 => (10, fun j => fr_P.getD j 0)
  | _ => (15, fun j => fr_W.getD j 0)
theorem fr_ns (L : Nat) (xs : Nat → Int32) : ns_X (fr_X 0 (fun _ => 0)) (fr_X L xs) := by
  intro e h
  match e, h with
  | 0, h => exact absurd rfl h
  | 1, _ => rfl
  | 2, _ => rfl
  | 3, _ => rfl
  | n + 4, _ => rfl
noncomputable def fr_r (n d y : Nat) (as : List Value) (M : mm_M) : Option (Option Value × mm_M) := mm_run (fr_X 0 (fun _ => 0)) n d y 0 (mm_entry y as) [] M
noncomputable def fr_m (o : Option (Option Value × mm_M)) : mm_M := match o with
  | some (_, M) => M
  | none => mm_M0
/-- no reference to the script -/
noncomputable def fr_nl (as : List Value) : Bool := as.all (fun v => match v with
  | .ref a => !Nat.beq a mm_ext
  | _ => true)
theorem fr_nl_L {as : List Value} (h : fr_nl as = true) : ns_L as := by
  intro v hv z
  have h2 := List.all_eq_true.mp h v hv
  rw [z] at h2
  cases h2
theorem fr_run {n d y : Nat} {as : List Value} {M : mm_M} {v : Option Value} (L : Nat) (xs : Nat → Int32) (h : (fr_r n d y as M).map (fun z => z.1) = some v) (h1 : fr_nl as = true) (h2 : ns_H M) : mm_run (fr_X L xs) n d y 0 (mm_entry y as) [] M = some (v, fr_m (fr_r n d y as M)) ∧ ns_H (fr_m (fr_r n d y as M)) := by
  cases hr : fr_r n d y as M with
  | none => rw [hr] at h; cases h
  | some z =>
    obtain ⟨r, M1⟩ := z
    rw [hr] at h
    cases h
    obtain ⟨g1, g2, -⟩ := ns_run (fr_ns L xs) (ns_entry (fr_nl_L h1)) (fun _ z => absurd z List.not_mem_nil) h2 hr
    exact ⟨g1, g2⟩
theorem fr_call {n d y : Nat} {as : List Value} {M M1 : mm_M} {v : Option Value} {L : Nat} {xs : Nat → Int32} {Q : Option Value → mm_M → Prop} (h : (fr_r n d y as M).map (fun z => z.1) = some v) (h1 : fr_nl as = true) (h2 : ns_H M) (h3 : fr_m (fr_r n d y as M) = M1) (k : Q v M1) : mm_T (fr_X L xs) d y 0 (mm_entry y as) [] M Q := ⟨n, v, M1, by rw [← h3]; exact (fr_run L xs h h1 h2).1, k⟩
theorem fr_H {n d y : Nat} {as : List Value} {M M1 : mm_M} {v : Option Value} (h : (fr_r n d y as M).map (fun z => z.1) = some v) (h1 : fr_nl as = true) (h2 : ns_H M) (h3 : fr_m (fr_r n d y as M) = M1) : ns_H M1 := by rw [← h3]; exact (fr_run 0 (fun _ => 0) h h1 h2).2
/-! conditions -/
noncomputable def cd_P (c : ClassFile.Cond) (x y : Int) : Prop := match c with
  | .eq => x = y
  | .ne => x ≠ y
  | .lt => x < y
  | .ge => x ≥ y
  | .gt => x > y
  | .le => x ≤ y
theorem cd_iff {c : ClassFile.Cond} {x y : Int32} : mm_cd c x y = true ↔ cd_P c x.toInt y.toInt := by
  cases c <;> simp only [mm_cd, cd_P, decide_eq_true_eq, Bool.not_eq_true', decide_eq_false_iff_not, Int32.lt_iff_toInt_lt, Int32.le_iff_toInt_le, ← Int32.toInt_inj, ne_eq, ge_iff_le, gt_iff_lt]
theorem cd_of {c : ClassFile.Cond} {x y : Int32} (h : cd_P c x.toInt y.toInt) : mm_cd c x y = true := cd_iff.mpr h
theorem cd_no {c : ClassFile.Cond} {x y : Int32} (h : ¬ cd_P c x.toInt y.toInt) : mm_cd c x y = false := by
  cases hc : mm_cd c x y with
  | false => rfl
  | true => exact absurd (cd_iff.mp hc) h
theorem cd_ne {x y : Int32} (h : ¬ x = y) : x.toInt ≠ y.toInt := fun z => h (Int32.toInt_inj.mp z)
/-! the script, rows, look, Math.min -/
section OP
variable {X : mm_X} {d mi pc : Nat} {ls st : List Value} {M : mm_M} {Q : Option Value → mm_M → Prop} {len a b : Nat} {ps : List Nat}
theorem op_x {xs : Nat → Int32} {k : Nat} {i v : Int32} (hc : mm_code mi pc = some (.iaload, len, a, b, ps)) (hk : (decide (0 ≤ i) && Nat.beq i.toNatClampNeg k && Nat.blt k 6) = true) (hv : xs k = v) (h : mm_T (fr_X 6 xs) d mi (pc + len) ls (.int v :: st) M Q) : mm_T (fr_X 6 xs) d mi pc ls (.int i :: .ref mm_ext :: st) M Q := by
  rw [Bool.and_eq_true, Bool.and_eq_true, decide_eq_true_eq] at hk
  have e1 := Nat.eq_of_beq_eq_true hk.1.2
  have e2 := Nat.le_of_ble_eq_true hk.2
  have e3 := Int32.le_iff_toInt_le.mp hk.1.1
  refine tt_xal (e := 0) hc (fun z => ?_) (show xs i.toNatClampNeg = v by rw [e1]; exact hv) h
  rcases z with z | z
  · have := Int32.lt_iff_toInt_lt.mp z
    omega
  · have z2 : 6 ≤ i.toNatClampNeg := z
    omega
theorem op_j {x n : Nat} {i : Int32} (hn : M.1.1.2.2 x = n) (h : (decide (i < 0) || Nat.ble n i.toNatClampNeg) = false) : ¬ (i < 0 ∨ M.1.1.2.2 x ≤ i.toNatClampNeg) := by
  rw [Bool.or_eq_false_iff, decide_eq_false_iff_not] at h
  rintro (z | z)
  · exact h.1 z
  · rw [hn] at z
    rw [Nat.ble_eq_true_of_le z] at h
    cases h.2
theorem op_lk {f : Int32} {p : Nat} (h : M.2.1 p 2 = 0) : f < 0 ∨ M.2.1 p 2 ≤ f := by
  rw [h]
  rcases Int.lt_or_le f.toInt 0 with z | z
  · exact Or.inl (Int32.lt_iff_toInt_lt.mpr z)
  · exact Or.inr (Int32.le_iff_toInt_le.mpr z)
theorem op_look {x o p : Nat} {f w : Int32} (h1 : mm_isObj M x 10 = true) (h2 : mm_isObj M o 101 = true) (h3 : M.1.1.2.2 o = 1) (h4 : M.2.2.2 x 8 = some p) (h5 : mm_isObj M p 5 = true) (h6 : f < 0 ∨ M.2.1 p 2 ≤ f) : mm_look M [.ref x, .int f, .int w, .ref o] = some (some (.int 1), mm_mark M) := by
  have e9 : (mm_isObj M x 10 && mm_isObj M o 101 && Nat.beq (M.1.1.2.2 o) 1) = true := by rw [h1, h2, h3]; rfl
  simp only [mm_look, e9, h4, h5, cond_true]
  by_cases g : f < 0
  · rw [if_pos g]
  · rw [if_neg g, if_pos (h6.resolve_left g)]
set_option maxRecDepth 20000 in
theorem to_look {k x o : Nat} {f w : Int32} {rest : List Value} {M1 : mm_M} (hc : mm_code mi pc = some (.invokestatic k, len, 998, 4, ps)) (h8 : Nat.ble (mm_w8 rest) 8 = true) (hl : mm_look M [.ref x, .int f, .int w, .ref o] = some (some (.int 1), M1)) (h : mm_T X (d + 1) mi (pc + 3) ls (.int 1 :: rest) M1 Q) : mm_T X (d + 1) mi pc ls (.ref o :: .int w :: .int f :: .ref x :: rest) M Q := tt_1 hc (tt_look (Nat.le_of_ble_eq_true h8) hl h)
set_option maxRecDepth 20000 in
theorem to_min {k : Nat} {x y v : Int32} (hc : mm_code mi pc = some (.invokestatic k, len, 996, b, ps)) (h8 : Nat.ble (st.map fun v => v.category).sum 100 = true) (hv : (if y < x then y else x) = v) (h : mm_T X d mi (pc + len) ls (.int v :: st) M Q) : mm_T X d mi pc ls (.int y :: .int x :: st) M Q := tt_1 hc (by
  show mm_b (Nat.ble (st.map fun v => v.category).sum 100) (mm_T X d mi (pc + len) ls (.int (if y < x then y else x) :: st) M Q) False
  rw [h8, hv]; exact h)
theorem to_s {k y n : Nat} {as st0 rest ls0 : List Value} (hc : mm_code mi pc = some (.invokestatic k, len, y, n, ps)) (hp : mm_pop n [] st0 (fun x r => (x, r)) ([], []) = (as, rest)) (hn : n ≤ st0.length) (h8 : mm_w8 rest ≤ 8) (hy : (Nat.beq y 998 || Nat.beq y 997 || Nat.beq y 996) = false) (hrc : mm_rc M y as = true) (he : mm_entry y as = ls0) (h : mm_T X d y 0 ls0 [] M (fun r1 M1 => mm_T X (d + 1) mi (pc + 3) ls (r1.toList ++ rest) M1 Q)) : mm_T X (d + 1) mi pc ls st0 M Q := tt_1 hc (by
  have key : ∀ (n : Nat) (as0 st : List Value) (K : List Value → List Value → Prop), n ≤ st.length → K (mm_pop n as0 st (fun x r => (x, r)) ([], [])).1 (mm_pop n as0 st (fun x r => (x, r)) ([], [])).2 → mm_pop n as0 st K False := by
    intro n
    induction n with
    | zero => intro as0 st K _ hk; exact hk
    | succ n ih =>
      intro as0 st K hl hk
      match st, hl, hk with
      | v :: r, hl, hk => exact ih (v :: as0) r K (by simpa using hl) hk
  rw [Bool.or_eq_false_iff, Bool.or_eq_false_iff] at hy
  have h9 := tt_call (X := X) (d := d) (mi := mi) (pc := pc) (ls := ls) (Q := Q) h8 hy.1.1 hrc he h
  have h10 := key n [] st0 (fun as st => tt_C X (d + 1) mi pc ls M Q y as st) hn (by rw [hp]; exact h9)
  show mm_b (Nat.beq y 996) _ (mm_b (Nat.beq y 997) _ (mm_pop n [] st0 (fun as st => tt_C X (d + 1) mi pc ls M Q y as st) False))
  rw [hy.1.2, hy.2]
  exact h10)
end OP
/-- what the law is to answer -/
noncomputable def op_Q : Option Value → mm_M → Prop := fun r MF => r = some (.int 1) ∧ MF.1.2.1 ≤ 600002 ∧ MF.1.2.2.1 ≤ 7302231
noncomputable def op_b (M : mm_M) : Bool := Nat.ble (M.1.2.1 + 10) 600002 && Nat.ble (M.1.2.2.1 + 10) 7302231
theorem op_c {M : mm_M} (h : op_b M = true) : M.1.2.1 ≤ 600002 ∧ M.1.2.2.1 ≤ 7302231 := by
  unfold op_b at h
  rw [Bool.and_eq_true] at h
  have h1 := Nat.le_of_ble_eq_true h.1
  have h2 := Nat.le_of_ble_eq_true h.2
  omega
theorem op_cm {M : mm_M} (h : op_b M = true) : (mm_mark M).1.2.1 ≤ 600002 ∧ (mm_mark M).1.2.2.1 ≤ 7302231 := by
  unfold op_b at h
  rw [Bool.and_eq_true] at h
  have h1 := Nat.le_of_ble_eq_true h.1
  have h2 := Nat.le_of_ble_eq_true h.2
  show M.1.2.1 + 1 ≤ _ ∧ M.1.2.2.1 + 6 ≤ _
  omega
section OQ
variable {X : mm_X} {d mi pc : Nat} {ls st : List Value} {M : mm_M} {Q : Option Value → mm_M → Prop} {len a b : Nat} {ps : List Nat}
theorem to_new {i n : Nat} (hc : mm_code mi pc = some (.new i, len, a, b, ps)) (h1 : (Nat.beq M.1.2.2.2 0 && Nat.blt M.1.1.1 900000) = true) (hn : M.1.1.1 = n) (h : mm_T X d mi (pc + len) ls (.ref n :: st) (mm_new M a 0 b) Q) : mm_T X d mi pc ls st M Q := tt_1 hc (by
  show mm_b (Nat.beq M.1.2.2.2 0 && Nat.blt M.1.1.1 900000) (mm_T X d mi (pc + len) ls (.ref M.1.1.1 :: st) (mm_new M a 0 b) Q) False
  rw [h1, hn]; exact h)
theorem to_nar {t : ArrayType} {k : Int32} {n m : Nat} (hc : mm_code mi pc = some (.newarray t, len, a, b, ps)) (hk : ¬ (k < 0 ∨ 1000 < k.toNatClampNeg)) (h1 : (Nat.beq M.1.2.2.2 0 && Nat.blt M.1.1.1 900000) = true) (hn : M.1.1.1 = n) (hm : k.toNatClampNeg = m) (h : mm_T X d mi (pc + len) ls (.ref n :: st) (mm_new M a m m) Q) : mm_T X d mi pc ls (.int k :: st) M Q := tt_1 hc (by
  show (if k < 0 ∨ 1000 < k.toNatClampNeg then False else mm_b (Nat.beq M.1.2.2.2 0 && Nat.blt M.1.1.1 900000) (mm_T X d mi (pc + len) ls (.ref M.1.1.1 :: st) (mm_new M a k.toNatClampNeg k.toNatClampNeg) Q) False)
  rw [if_neg hk, h1, hn, hm]; exact h)
theorem to_xlen {e : Nat} {v : Int32} (hc : mm_code mi pc = some (.arraylength, len, a, b, ps)) (hv : Int32.ofNat (X e).1 = v) (h : mm_T X d mi (pc + len) ls (.int v :: st) M Q) : mm_T X d mi pc ls (.ref (mm_ext + e) :: st) M Q := tt_1 hc (by
  have hx : Nat.ble mm_ext (mm_ext + e) = true := Nat.ble_eq_true_of_le (by omega)
  show mm_b (Nat.ble mm_ext (mm_ext + e)) (mm_T X d mi (pc + len) ls (.int (Int32.ofNat (X (mm_ext + e - mm_ext)).1) :: st) M Q) _
  rw [hx, show mm_ext + e - mm_ext = e by omega, hv]; exact h)
theorem to_sp {k y n : Nat} {as st0 rest ls0 : List Value} (hc : mm_code mi pc = some (.invokespecial k, len, y, n, ps)) (hp : mm_pop n [] st0 (fun x r => (x, r)) ([], []) = (as, rest)) (hn : n ≤ st0.length) (h8 : mm_w8 rest ≤ 8) (hy : (Nat.beq y 998 || Nat.beq y 999) = false) (hrc : mm_rc M y as = true) (he : mm_entry y as = ls0) (h : mm_T X d y 0 ls0 [] M (fun r1 M1 => mm_T X (d + 1) mi (pc + 3) ls (r1.toList ++ rest) M1 Q)) : mm_T X (d + 1) mi pc ls st0 M Q := tt_1 hc (by
  have key : ∀ (n : Nat) (as0 st : List Value) (K : List Value → List Value → Prop), n ≤ st.length → K (mm_pop n as0 st (fun x r => (x, r)) ([], [])).1 (mm_pop n as0 st (fun x r => (x, r)) ([], [])).2 → mm_pop n as0 st K False := by
    intro n
    induction n with
    | zero => intro as0 st K _ hk; exact hk
    | succ n ih =>
      intro as0 st K hl hk
      match st, hl, hk with
      | v :: r, hl, hk => exact ih (v :: as0) r K (by simpa using hl) hk
  rw [Bool.or_eq_false_iff] at hy
  have h9 := tt_call (X := X) (d := d) (mi := mi) (pc := pc) (ls := ls) (Q := Q) h8 hy.1 hrc he h
  have h10 := key n [] st0 (fun as st => tt_C X (d + 1) mi pc ls M Q y as st) hn (by rw [hp]; exact h9)
  show mm_b (Nat.beq y 999) _ (mm_pop n [] st0 (fun as st => tt_C X (d + 1) mi pc ls M Q y as st) False)
  rw [hy.2]
  exact h10)
end OQ
theorem and_31 (x : Int32) : ∃ k : Nat, k < 32 ∧ x &&& 31 = Int32.ofNat k := by
  refine ⟨x.toBitVec.toNat % 32, Nat.mod_lt _ (by decide), ?_⟩
  apply Int32.toBitVec_inj.mp
  rw [Int32.toBitVec_and]
  apply BitVec.eq_of_toNat_eq
  rw [BitVec.toNat_and]
  have h1 : (Int32.toBitVec 31).toNat = 2 ^ 5 - 1 := rfl
  rw [h1, Nat.and_two_pow_sub_one_eq_mod]
  have h2 : (Int32.ofNat (x.toBitVec.toNat % 32)).toBitVec.toNat = (x.toBitVec.toNat % 32) % 2 ^ 32 := rfl
  rw [h2, Nat.mod_eq_of_lt (Nat.lt_trans (Nat.mod_lt _ (by decide)) (by decide))]
