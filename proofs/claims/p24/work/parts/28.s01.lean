abbrev md_qq (q a i : Nat) : Prop := a = 1 ∧ 5 ≤ i ∨ 3 ≤ a ∧ a ≤ 5 ∨ q ≤ a ∧ a ≤ q + 4
abbrev md_f6q (q a i : Nat) : Prop := a = 1 ∧ 6 ≤ i ∧ i ≤ 11 ∨ a = q ∧ i = 4
abbrev md_q6q (q a i : Nat) : Prop := a = q ∧ i = 5 ∨ q + 1 ≤ a ∧ a ≤ q + 3
abbrev md_qa9 (q a i : Nat) : Prop := a = q + 4
/-! exact steps over longs, behind one name each -/
section SLE
variable {X : mm_X} {d mi pc : Nat} {ls st : List Value} {M : mm_M} {Q : Option Value → mm_M → Prop} {len a b : Nat} {ps : List Nat}
theorem s_opLE {i : Instr} {x y w : Int64} (hc : mm_code mi pc = some (i, len, a, b, ps)) (hw : mm_opL i x y = some w) (h : ∀ v : Int64, w = v → mm_T X d mi (pc + len) ls (.long v :: st) M Q) : mm_T X d mi pc ls (.long y :: .long x :: st) M Q := to_2l hc hw (h w rfl)
theorem s_opSE {i : Instr} {x w : Int64} {y : Int32} (hc : mm_code mi pc = some (i, len, a, b, ps)) (hw : mm_opS i x y = some w) (h : ∀ v : Int64, w = v → mm_T X d mi (pc + len) ls (.long v :: st) M Q) : mm_T X d mi pc ls (.int y :: .long x :: st) M Q := to_2s hc hw (h w rfl)
theorem s_l2iE {x : Int64} (hc : mm_code mi pc = some (.l2i, len, a, b, ps)) (h : ∀ v : Int32, x.toInt32 = v → mm_T X d mi (pc + len) ls (.int v :: st) M Q) : mm_T X d mi pc ls (.long x :: st) M Q := to_l2i hc rfl (h _ rfl)
end SLE
/-! a question: one reader. tu 0: a part is wanted, 1: a sign; br brackets open, cn knots so far -/
abbrev x_QR := (Int × Int) ⊕ Int
section XQ
variable (t : Nat → Int) (nn : Int) (s : x_S)
noncomputable def x_qv (a b : Int) (k : x_QR) : x_QR := if x_kind t nn b = 3 then (if x_val t nn b ≤ x_row s 5 (x_fn s 1 (x_val t nn a)) - 1 then k else .inl (2, b)) else .inl (1, b)
noncomputable def x_qn (a : Int) (k1 k2 : x_QR) : x_QR :=
  if x_kind t nn (x_ns t nn a) = 4 ∧ x_val t nn (x_ns t nn a) = 61 then (if 0 ≤ x_fn s 1 (x_val t nn a) ∧ ¬ x_row s 2 (x_fn s 1 (x_val t nn a)) = 3 then x_qv t nn s a (x_ns t nn (x_ns t nn a)) k1 else .inl (4, a))
  else (if 0 ≤ x_fn s 6 (x_val t nn a) then k2 else .inl (4, a))
noncomputable def x_q0 (br cn a : Int) (f : Int → Int → Int → Int → x_QR) : x_QR :=
  if x_kind t nn a = 4 ∧ x_val t nn a = 40 then (if br = 8 then .inl (2, a) else f 0 (br + 1) cn (x_ns t nn a))
  else if x_kind t nn a = 1 ∧ x_kx (x_val t nn a) = 14 then (if cn = 40 then .inl (2, a) else f 0 br (cn + 1) (x_ns t nn a))
  else if x_kind t nn a = 2 then (if cn = 40 then .inl (2, a) else x_qn t nn s a (f 1 br (cn + 1) (x_ns t nn (x_ns t nn (x_ns t nn a)))) (f 1 br (cn + 1) (x_ns t nn a)))
  else .inl (1, a)
noncomputable def x_q1 (br cn a : Int) (f : Int → Int → Int → Int → x_QR) : x_QR :=
  if x_kind t nn a = 0 ∧ br = 0 then .inr cn
  else if x_kind t nn a = 1 ∧ (x_kx (x_val t nn a) = 12 ∨ x_kx (x_val t nn a) = 13) then (if cn = 40 then .inl (2, a) else f 0 br (cn + 1) (x_ns t nn a))
  else if x_kind t nn a = 4 ∧ x_val t nn a = 41 ∧ 0 < br then f 1 (br - 1) cn (x_ns t nn a)
  else .inl (1, a)
noncomputable def x_q : Nat → Int → Int → Int → Int → x_QR
  | 0, _, _, _, _ => .inl (0, 0)
  | fu + 1, tu, br, cn, a => if tu = 0 then x_q0 t nn s br cn a (x_q fu) else x_q1 t nn br cn a (x_q fu)
noncomputable def x_qq (tu br cn a : Int) : x_QR := x_q t nn s (nn + 1 - a).toNat tu br cn a
end XQ
section XQL
variable {t : Nat → Int} {nn : Int} {s : x_S}
theorem x_ns_lt {a : Int} (h0 : 0 ≤ a) (h1 : a < nn) : a < x_ns t nn a ∧ x_ns t nn a ≤ nn := by
  have h2 := x_nx_b (t := t) (n := nn) (a := a) h0 (by omega)
  have h3 := x_le (P := x_bl) (t := t) (n := nn) (x := x_nx t nn a) (by omega) (by omega)
  unfold x_ns x_sk
  omega
theorem x_q0_c {br cn a : Int} {f g : Int → Int → Int → Int → x_QR} (h : ∀ tu br cn b : Int, a < b → b ≤ nn → f tu br cn b = g tu br cn b) (h0 : 0 ≤ a) (h1 : a ≤ nn) : x_q0 t nn s br cn a f = x_q0 t nn s br cn a g := by
  by_cases e : a < nn
  · have b1 := x_ns_lt (t := t) h0 e
    have b2 := x_ns_b (t := t) (n := nn) (a := x_ns t nn a) (by omega) (by omega)
    have b3 := x_ns_b (t := t) (n := nn) (a := x_ns t nn (x_ns t nn a)) (by omega) (by omega)
    unfold x_q0
    rw [h 0 (br + 1) cn (x_ns t nn a) (by omega) (by omega), h 0 br (cn + 1) (x_ns t nn a) (by omega) (by omega), h 1 br (cn + 1) (x_ns t nn a) (by omega) (by omega), h 1 br (cn + 1) (x_ns t nn (x_ns t nn (x_ns t nn a))) (by omega) (by omega)]
  · have k := (x_t0 (t := t) (n := nn) (a := a) (by omega)).1
    unfold x_q0
    rw [if_neg (by omega), if_neg (by omega), if_neg (by omega), if_neg (by omega), if_neg (by omega), if_neg (by omega)]
theorem x_q1_c {br cn a : Int} {f g : Int → Int → Int → Int → x_QR} (h : ∀ tu br cn b : Int, a < b → b ≤ nn → f tu br cn b = g tu br cn b) (h0 : 0 ≤ a) (h1 : a ≤ nn) : x_q1 t nn br cn a f = x_q1 t nn br cn a g := by
  by_cases e : a < nn
  · have b1 := x_ns_lt (t := t) h0 e
    unfold x_q1
    rw [h 0 br (cn + 1) (x_ns t nn a) (by omega) (by omega), h 1 (br - 1) cn (x_ns t nn a) (by omega) (by omega)]
  · have k := (x_t0 (t := t) (n := nn) (a := a) (by omega)).1
    unfold x_q1
    by_cases g0 : x_kind t nn a = 0 ∧ br = 0
    · rw [if_pos g0, if_pos g0]
    · rw [if_neg g0, if_neg g0, if_neg (by omega), if_neg (by omega), if_neg (by omega), if_neg (by omega)]
theorem x_q_f : ∀ (f1 f2 : Nat) (tu br cn a : Int), 0 ≤ a → a ≤ nn → (nn + 1 - a).toNat ≤ f1 → (nn + 1 - a).toNat ≤ f2 → x_q t nn s f1 tu br cn a = x_q t nn s f2 tu br cn a
  | 0, _, _, _, _, a, h0, h1, h2, _ => by omega
  | _ + 1, 0, _, _, _, a, h0, h1, _, h3 => by omega
  | f1 + 1, f2 + 1, tu, br, cn, a, h0, h1, h2, h3 => by
    have ih : ∀ tu br cn b : Int, a < b → b ≤ nn → x_q t nn s f1 tu br cn b = x_q t nn s f2 tu br cn b := fun tu br cn b hb hn => x_q_f f1 f2 tu br cn b (by omega) hn (by omega) (by omega)
    rw [x_q, x_q, x_q0_c ih h0 h1, x_q1_c ih h0 h1]
theorem x_qq_0 {br cn a : Int} (h0 : 0 ≤ a) (h1 : a ≤ nn) : x_qq t nn s 0 br cn a = x_q0 t nn s br cn a (x_qq t nn s) := by
  unfold x_qq
  rw [show (nn + 1 - a).toNat = (nn - a).toNat + 1 by omega, x_q, if_pos rfl]
  exact x_q0_c (fun tu br cn b hb hn => x_q_f _ _ tu br cn b (by omega) hn (by omega) (Nat.le_refl _)) h0 h1
theorem x_qq_1 {br cn a : Int} (h0 : 0 ≤ a) (h1 : a ≤ nn) : x_qq t nn s 1 br cn a = x_q1 t nn br cn a (x_qq t nn s) := by
  unfold x_qq
  rw [show (nn + 1 - a).toNat = (nn - a).toNat + 1 by omega, x_q, if_neg (by decide)]
  exact x_q1_c (fun tu br cn b hb hn => x_q_f _ _ tu br cn b (by omega) hn (by omega) (Nat.le_refl _)) h0 h1
section STEPS
variable {br cn a : Int}
theorem q_lp (h0 : 0 ≤ a) (h1 : a ≤ nn) (h : x_kind t nn a = 4 ∧ x_val t nn a = 40) (hb : ¬ br = 8) : x_qq t nn s 0 br cn a = x_qq t nn s 0 (br + 1) cn (x_ns t nn a) := by
  rw [x_qq_0 h0 h1]; unfold x_q0; rw [if_pos h, if_neg hb]
theorem q_lpx (h0 : 0 ≤ a) (h1 : a ≤ nn) (h : x_kind t nn a = 4 ∧ x_val t nn a = 40) (hb : br = 8) : x_qq t nn s 0 br cn a = .inl (2, a) := by
  rw [x_qq_0 h0 h1]; unfold x_q0; rw [if_pos h, if_pos hb]
theorem q_no (h0 : 0 ≤ a) (h1 : a ≤ nn) (h : x_kind t nn a = 1 ∧ x_kx (x_val t nn a) = 14) (hc : ¬ cn = 40) : x_qq t nn s 0 br cn a = x_qq t nn s 0 br (cn + 1) (x_ns t nn a) := by
  rw [x_qq_0 h0 h1]; unfold x_q0; rw [if_neg (by omega), if_pos h, if_neg hc]
theorem q_nox (h0 : 0 ≤ a) (h1 : a ≤ nn) (h : x_kind t nn a = 1 ∧ x_kx (x_val t nn a) = 14) (hc : cn = 40) : x_qq t nn s 0 br cn a = .inl (2, a) := by
  rw [x_qq_0 h0 h1]; unfold x_q0; rw [if_neg (by omega), if_pos h, if_pos hc]
theorem q_nm (h0 : 0 ≤ a) (h1 : a ≤ nn) (h : x_kind t nn a = 2) (hc : ¬ cn = 40) : x_qq t nn s 0 br cn a = x_qn t nn s a (x_qq t nn s 1 br (cn + 1) (x_ns t nn (x_ns t nn (x_ns t nn a)))) (x_qq t nn s 1 br (cn + 1) (x_ns t nn a)) := by
  rw [x_qq_0 h0 h1]; unfold x_q0; rw [if_neg (by omega), if_neg (by omega), if_pos h, if_neg hc]
theorem q_nmx (h0 : 0 ≤ a) (h1 : a ≤ nn) (h : x_kind t nn a = 2) (hc : cn = 40) : x_qq t nn s 0 br cn a = .inl (2, a) := by
  rw [x_qq_0 h0 h1]; unfold x_q0; rw [if_neg (by omega), if_neg (by omega), if_pos h, if_pos hc]
theorem q_0x (h0 : 0 ≤ a) (h1 : a ≤ nn) (h : ¬ (x_kind t nn a = 4 ∧ x_val t nn a = 40)) (h2 : ¬ (x_kind t nn a = 1 ∧ x_kx (x_val t nn a) = 14)) (h3 : ¬ x_kind t nn a = 2) : x_qq t nn s 0 br cn a = .inl (1, a) := by
  rw [x_qq_0 h0 h1]; unfold x_q0; rw [if_neg h, if_neg h2, if_neg h3]
theorem q_end (h0 : 0 ≤ a) (h1 : a ≤ nn) (h : x_kind t nn a = 0) (hb : br = 0) : x_qq t nn s 1 br cn a = .inr cn := by
  rw [x_qq_1 h0 h1]; unfold x_q1; rw [if_pos ⟨h, hb⟩]
theorem q_ao (h0 : 0 ≤ a) (h1 : a ≤ nn) (h : x_kind t nn a = 1) (h2 : x_kx (x_val t nn a) = 12 ∨ x_kx (x_val t nn a) = 13) (hc : ¬ cn = 40) : x_qq t nn s 1 br cn a = x_qq t nn s 0 br (cn + 1) (x_ns t nn a) := by
  rw [x_qq_1 h0 h1]; unfold x_q1; rw [if_neg (by omega), if_pos ⟨h, h2⟩, if_neg hc]
theorem q_aox (h0 : 0 ≤ a) (h1 : a ≤ nn) (h : x_kind t nn a = 1) (h2 : x_kx (x_val t nn a) = 12 ∨ x_kx (x_val t nn a) = 13) (hc : cn = 40) : x_qq t nn s 1 br cn a = .inl (2, a) := by
  rw [x_qq_1 h0 h1]; unfold x_q1; rw [if_neg (by omega), if_pos ⟨h, h2⟩, if_pos hc]
theorem q_rp (h0 : 0 ≤ a) (h1 : a ≤ nn) (h : x_kind t nn a = 4 ∧ x_val t nn a = 41) (hb : 0 < br) : x_qq t nn s 1 br cn a = x_qq t nn s 1 (br - 1) cn (x_ns t nn a) := by
  rw [x_qq_1 h0 h1]; unfold x_q1; rw [if_neg (by omega), if_neg (by omega), if_pos ⟨h.1, h.2, hb⟩]
theorem q_1x (h0 : 0 ≤ a) (h1 : a ≤ nn) (h : ¬ (x_kind t nn a = 0 ∧ br = 0)) (h2 : ¬ (x_kind t nn a = 1 ∧ (x_kx (x_val t nn a) = 12 ∨ x_kx (x_val t nn a) = 13))) (h3 : ¬ (x_kind t nn a = 4 ∧ x_val t nn a = 41 ∧ 0 < br)) : x_qq t nn s 1 br cn a = .inl (1, a) := by
  rw [x_qq_1 h0 h1]; unfold x_q1; rw [if_neg h, if_neg h2, if_neg h3]
variable {k1 k2 : x_QR}
theorem qn_w (h : ¬ (x_kind t nn (x_ns t nn a) = 4 ∧ x_val t nn (x_ns t nn a) = 61)) (h2 : 0 ≤ x_fn s 6 (x_val t nn a)) : x_qn t nn s a k1 k2 = k2 := by
  unfold x_qn; rw [if_neg h, if_pos h2]
theorem qn_wx (h : ¬ (x_kind t nn (x_ns t nn a) = 4 ∧ x_val t nn (x_ns t nn a) = 61)) (h2 : ¬ 0 ≤ x_fn s 6 (x_val t nn a)) : x_qn t nn s a k1 k2 = .inl (4, a) := by
  unfold x_qn; rw [if_neg h, if_neg h2]
theorem qn_vx (h : x_kind t nn (x_ns t nn a) = 4 ∧ x_val t nn (x_ns t nn a) = 61) (h2 : ¬ (0 ≤ x_fn s 1 (x_val t nn a) ∧ ¬ x_row s 2 (x_fn s 1 (x_val t nn a)) = 3)) : x_qn t nn s a k1 k2 = .inl (4, a) := by
  unfold x_qn; rw [if_pos h, if_neg h2]
theorem qn_v (h : x_kind t nn (x_ns t nn a) = 4 ∧ x_val t nn (x_ns t nn a) = 61) (h2 : 0 ≤ x_fn s 1 (x_val t nn a) ∧ ¬ x_row s 2 (x_fn s 1 (x_val t nn a)) = 3) (h3 : x_kind t nn (x_ns t nn (x_ns t nn a)) = 3) (h4 : x_val t nn (x_ns t nn (x_ns t nn a)) ≤ x_row s 5 (x_fn s 1 (x_val t nn a)) - 1) : x_qn t nn s a k1 k2 = k1 := by
  unfold x_qn; rw [if_pos h, if_pos h2]; unfold x_qv; rw [if_pos h3, if_pos h4]
theorem qn_v2 (h : x_kind t nn (x_ns t nn a) = 4 ∧ x_val t nn (x_ns t nn a) = 61) (h2 : 0 ≤ x_fn s 1 (x_val t nn a) ∧ ¬ x_row s 2 (x_fn s 1 (x_val t nn a)) = 3) (h3 : x_kind t nn (x_ns t nn (x_ns t nn a)) = 3) (h4 : ¬ x_val t nn (x_ns t nn (x_ns t nn a)) ≤ x_row s 5 (x_fn s 1 (x_val t nn a)) - 1) : x_qn t nn s a k1 k2 = .inl (2, x_ns t nn (x_ns t nn a)) := by
  unfold x_qn; rw [if_pos h, if_pos h2]; unfold x_qv; rw [if_pos h3, if_neg h4]
theorem qn_v1 (h : x_kind t nn (x_ns t nn a) = 4 ∧ x_val t nn (x_ns t nn a) = 61) (h2 : 0 ≤ x_fn s 1 (x_val t nn a) ∧ ¬ x_row s 2 (x_fn s 1 (x_val t nn a)) = 3) (h3 : ¬ x_kind t nn (x_ns t nn (x_ns t nn a)) = 3) : x_qn t nn s a k1 k2 = .inl (1, x_ns t nn (x_ns t nn a)) := by
  unfold x_qn; rw [if_pos h, if_pos h2]; unfold x_qv; rw [if_neg h3]
end STEPS
end XQL
theorem inl_e {R : x_QR} {x y x2 y2 : Int} (h1 : x = x2) (h2 : y = y2) (H : R = .inl (x2, y2)) : R = .inl (x, y) := by rw [h1, h2]; exact H
theorem q_v {t : Nat → Int} {nn : Int} {s : x_S} {tu br cn a br2 cn2 a2 : Int} (h0 : br = br2) (h1 : cn = cn2) (h2 : a = a2) : x_qq t nn s tu br cn a = x_qq t nn s tu br2 cn2 a2 := by rw [h0, h1, h2]
theorem x_kx_q (v : Int) : (x_kx v = 12 ↔ v = 48365568) ∧ (x_kx v = 13 ↔ v = 522190848) ∧ (x_kx v = 14 ↔ v = 486146048) := by
  refine ⟨⟨fun h => ?_, fun h => by rw [h]; rfl⟩, ⟨fun h => ?_, fun h => by rw [h]; rfl⟩, ⟨fun h => ?_, fun h => by rw [h]; rfl⟩⟩
  · rcases x_kx_c h (by decide) with z | z | z | z | z | z | z | z | z | z | z | z | z | z | z <;> omega
  · rcases x_kx_c h (by decide) with z | z | z | z | z | z | z | z | z | z | z | z | z | z | z <;> omega
  · rcases x_kx_c h (by decide) with z | z | z | z | z | z | z | z | z | z | z | z | z | z | z <;> omega
/-! rows of three; a word's place by its name -/
abbrev x_A := (Nat → Int) × (Nat → Int) × (Nat → Int)
noncomputable def x_A0 : x_A := (fun _ => 0, fun _ => 0, fun _ => 0)
theorem x_fn_b6 {s : x_S} {v : Int} (h : x_G s) : -1 ≤ x_fn s 6 v ∧ x_fn s 6 v < 12 ∧ (0 ≤ x_fn s 6 v → x_fn s 6 v < s.2.2.1) := by
  have := x_find_b (g := s.2.2.2.2 6) (v := v) (if 6 ≤ 5 then s.2.1 else s.2.2.1).toNat 0
  rw [if_neg (by decide)] at this
  have h2 := h.2.2.2.2.1
  have h3 := h.2.2.2.2.2.1
  unfold x_fn
  rw [if_neg (by decide)]
  omega
/-! a question with its knots: one reader. W: what waits (0 a bracket, 2 not, 3 and, 4 or), P: knots told so far, and how many -/
abbrev x_GP := x_A × Int
abbrev x_GR := (Int × Int) ⊕ x_GP
noncomputable def x_kn1 (P : x_GP) (k a b : Int) : x_GP := ((x_upZ P.1.1 P.2.toNat k, x_upZ P.1.2.1 P.2.toNat a, x_upZ P.1.2.2 P.2.toNat b), P.2 + 1)
noncomputable def x_wt (k : Int) : Int := if k = 2 then 3 else if k = 3 then 2 else if k = 4 then 1 else 0
noncomputable def x_bd (l : Int) : List Int → x_GP → List Int × x_GP
  | [], P => ([], P)
  | w :: ws, P => if l ≤ x_wt w then x_bd l ws (x_kn1 P w 0 0) else (w :: ws, P)
section XG
variable (t : Nat → Int) (nn : Int) (s : x_S)
noncomputable def x_hv (a b : Int) (k : x_GR) : x_GR := if x_kind t nn b = 3 then (if x_val t nn b ≤ x_row s 5 (x_fn s 1 (x_val t nn a)) - 1 then k else .inl (2, b)) else .inl (1, b)
noncomputable def x_hn (a : Int) (k1 k2 : x_GR) : x_GR :=
  if x_kind t nn (x_ns t nn a) = 4 ∧ x_val t nn (x_ns t nn a) = 61 then (if 0 ≤ x_fn s 1 (x_val t nn a) ∧ ¬ x_row s 2 (x_fn s 1 (x_val t nn a)) = 3 then x_hv t nn s a (x_ns t nn (x_ns t nn a)) k1 else .inl (4, a))
  else (if 0 ≤ x_fn s 6 (x_val t nn a) then k2 else .inl (4, a))
noncomputable def x_lvq (P : x_GP) (a : Int) : x_GP := x_kn1 P 0 (x_fn s 1 (x_val t nn a)) (x_val t nn (x_ns t nn (x_ns t nn a)))
noncomputable def x_lw (P : x_GP) (a : Int) : x_GP := x_kn1 P 1 (x_fn s 6 (x_val t nn a)) 0
noncomputable def x_g0 (br cn : Int) (W : List Int) (P : x_GP) (a : Int) (f : Int → Int → Int → List Int → x_GP → Int → x_GR) : x_GR :=
  if x_kind t nn a = 4 ∧ x_val t nn a = 40 then (if br = 8 then .inl (2, a) else f 0 (br + 1) cn (0 :: W) P (x_ns t nn a))
  else if x_kind t nn a = 1 ∧ x_kx (x_val t nn a) = 14 then (if cn = 40 then .inl (2, a) else f 0 br (cn + 1) (2 :: W) P (x_ns t nn a))
  else if x_kind t nn a = 2 then (if cn = 40 then .inl (2, a) else x_hn t nn s a (f 1 br (cn + 1) W (x_lvq t nn s P a) (x_ns t nn (x_ns t nn (x_ns t nn a)))) (f 1 br (cn + 1) W (x_lw t nn s P a) (x_ns t nn a)))
  else .inl (1, a)
noncomputable def x_g1 (br cn : Int) (W : List Int) (P : x_GP) (a : Int) (f : Int → Int → Int → List Int → x_GP → Int → x_GR) : x_GR :=
  if x_kind t nn a = 0 ∧ br = 0 then .inr (x_bd 1 W P).2
  else if x_kind t nn a = 1 ∧ x_kx (x_val t nn a) = 12 then (if cn = 40 then .inl (2, a) else f 0 br (cn + 1) (3 :: (x_bd 2 W P).1) (x_bd 2 W P).2 (x_ns t nn a))
  else if x_kind t nn a = 1 ∧ x_kx (x_val t nn a) = 13 then (if cn = 40 then .inl (2, a) else f 0 br (cn + 1) (4 :: (x_bd 1 W P).1) (x_bd 1 W P).2 (x_ns t nn a))
  else if x_kind t nn a = 4 ∧ x_val t nn a = 41 ∧ 0 < br then f 1 (br - 1) cn (x_bd 1 W P).1.tail (x_bd 1 W P).2 (x_ns t nn a)
  else .inl (1, a)
noncomputable def x_gm : Nat → Int → Int → Int → List Int → x_GP → Int → x_GR
  | 0, _, _, _, _, _, _ => .inl (0, 0)
  | fu + 1, tu, br, cn, W, P, a => if tu = 0 then x_g0 t nn s br cn W P a (x_gm fu) else x_g1 t nn br cn W P a (x_gm fu)
noncomputable def x_gg (tu br cn : Int) (W : List Int) (P : x_GP) (a : Int) : x_GR := x_gm t nn s (nn + 1 - a).toNat tu br cn W P a
end XG
section XGL
variable {t : Nat → Int} {nn : Int} {s : x_S}
theorem x_g0_c {br cn a : Int} {W : List Int} {P : x_GP} {f g : Int → Int → Int → List Int → x_GP → Int → x_GR} (h : ∀ (tu br cn : Int) (W : List Int) (P : x_GP) (b : Int), a < b → b ≤ nn → f tu br cn W P b = g tu br cn W P b) (h0 : 0 ≤ a) (h1 : a ≤ nn) : x_g0 t nn s br cn W P a f = x_g0 t nn s br cn W P a g := by
  by_cases e : a < nn
  · have b1 := x_ns_lt (t := t) h0 e
    have b2 := x_ns_b (t := t) (n := nn) (a := x_ns t nn a) (by omega) (by omega)
    have b3 := x_ns_b (t := t) (n := nn) (a := x_ns t nn (x_ns t nn a)) (by omega) (by omega)
    unfold x_g0
    rw [h 0 (br + 1) cn (0 :: W) P (x_ns t nn a) (by omega) (by omega), h 0 br (cn + 1) (2 :: W) P (x_ns t nn a) (by omega) (by omega), h 1 br (cn + 1) W (x_lw t nn s P a) (x_ns t nn a) (by omega) (by omega), h 1 br (cn + 1) W (x_lvq t nn s P a) (x_ns t nn (x_ns t nn (x_ns t nn a))) (by omega) (by omega)]
  · have k := (x_t0 (t := t) (n := nn) (a := a) (by omega)).1
    unfold x_g0
    rw [if_neg (by omega), if_neg (by omega), if_neg (by omega), if_neg (by omega), if_neg (by omega), if_neg (by omega)]
theorem x_g1_c {br cn a : Int} {W : List Int} {P : x_GP} {f g : Int → Int → Int → List Int → x_GP → Int → x_GR} (h : ∀ (tu br cn : Int) (W : List Int) (P : x_GP) (b : Int), a < b → b ≤ nn → f tu br cn W P b = g tu br cn W P b) (h0 : 0 ≤ a) (h1 : a ≤ nn) : x_g1 t nn br cn W P a f = x_g1 t nn br cn W P a g := by
  by_cases e : a < nn
  · have b1 := x_ns_lt (t := t) h0 e
    unfold x_g1
    rw [h 0 br (cn + 1) (3 :: (x_bd 2 W P).1) (x_bd 2 W P).2 (x_ns t nn a) (by omega) (by omega), h 0 br (cn + 1) (4 :: (x_bd 1 W P).1) (x_bd 1 W P).2 (x_ns t nn a) (by omega) (by omega), h 1 (br - 1) cn (x_bd 1 W P).1.tail (x_bd 1 W P).2 (x_ns t nn a) (by omega) (by omega)]
  · have k := (x_t0 (t := t) (n := nn) (a := a) (by omega)).1
    unfold x_g1
    by_cases g0 : x_kind t nn a = 0 ∧ br = 0
    · rw [if_pos g0, if_pos g0]
    · rw [if_neg g0, if_neg g0, if_neg (by omega), if_neg (by omega), if_neg (by omega), if_neg (by omega), if_neg (by omega), if_neg (by omega)]
theorem x_g_f : ∀ (f1 f2 : Nat) (tu br cn : Int) (W : List Int) (P : x_GP) (a : Int), 0 ≤ a → a ≤ nn → (nn + 1 - a).toNat ≤ f1 → (nn + 1 - a).toNat ≤ f2 → x_gm t nn s f1 tu br cn W P a = x_gm t nn s f2 tu br cn W P a
  | 0, _, _, _, _, _, _, a, h0, h1, h2, _ => by omega
  | _ + 1, 0, _, _, _, _, _, a, h0, h1, _, h3 => by omega
  | f1 + 1, f2 + 1, tu, br, cn, W, P, a, h0, h1, h2, h3 => by
    have ih : ∀ (tu br cn : Int) (W : List Int) (P : x_GP) (b : Int), a < b → b ≤ nn → x_gm t nn s f1 tu br cn W P b = x_gm t nn s f2 tu br cn W P b := fun tu br cn W P b hb hn => x_g_f f1 f2 tu br cn W P b (by omega) hn (by omega) (by omega)
    rw [x_gm, x_gm, x_g0_c ih h0 h1, x_g1_c ih h0 h1]
theorem x_gg_0 {br cn a : Int} {W : List Int} {P : x_GP} (h0 : 0 ≤ a) (h1 : a ≤ nn) : x_gg t nn s 0 br cn W P a = x_g0 t nn s br cn W P a (x_gg t nn s) := by
  unfold x_gg
  rw [show (nn + 1 - a).toNat = (nn - a).toNat + 1 by omega, x_gm, if_pos rfl]
  exact x_g0_c (fun tu br cn W P b hb hn => x_g_f _ _ tu br cn W P b (by omega) hn (by omega) (Nat.le_refl _)) h0 h1
theorem x_gg_1 {br cn a : Int} {W : List Int} {P : x_GP} (h0 : 0 ≤ a) (h1 : a ≤ nn) : x_gg t nn s 1 br cn W P a = x_g1 t nn br cn W P a (x_gg t nn s) := by
  unfold x_gg
  rw [show (nn + 1 - a).toNat = (nn - a).toNat + 1 by omega, x_gm, if_neg (by decide)]
  exact x_g1_c (fun tu br cn W P b hb hn => x_g_f _ _ tu br cn W P b (by omega) hn (by omega) (Nat.le_refl _)) h0 h1
section GSTEPS
variable {br cn a : Int} {W : List Int} {P : x_GP}
theorem g_lp (h0 : 0 ≤ a) (h1 : a ≤ nn) (h : x_kind t nn a = 4 ∧ x_val t nn a = 40) (hb : ¬ br = 8) : x_gg t nn s 0 br cn W P a = x_gg t nn s 0 (br + 1) cn (0 :: W) P (x_ns t nn a) := by
  rw [x_gg_0 h0 h1]; unfold x_g0; rw [if_pos h, if_neg hb]
theorem g_lpx (h0 : 0 ≤ a) (h1 : a ≤ nn) (h : x_kind t nn a = 4 ∧ x_val t nn a = 40) (hb : br = 8) : x_gg t nn s 0 br cn W P a = .inl (2, a) := by
  rw [x_gg_0 h0 h1]; unfold x_g0; rw [if_pos h, if_pos hb]
theorem g_noq (h0 : 0 ≤ a) (h1 : a ≤ nn) (h : x_kind t nn a = 1 ∧ x_kx (x_val t nn a) = 14) (hc : ¬ cn = 40) : x_gg t nn s 0 br cn W P a = x_gg t nn s 0 br (cn + 1) (2 :: W) P (x_ns t nn a) := by
  rw [x_gg_0 h0 h1]; unfold x_g0; rw [if_neg (by omega), if_pos h, if_neg hc]
theorem g_nox (h0 : 0 ≤ a) (h1 : a ≤ nn) (h : x_kind t nn a = 1 ∧ x_kx (x_val t nn a) = 14) (hc : cn = 40) : x_gg t nn s 0 br cn W P a = .inl (2, a) := by
  rw [x_gg_0 h0 h1]; unfold x_g0; rw [if_neg (by omega), if_pos h, if_pos hc]
theorem g_nm (h0 : 0 ≤ a) (h1 : a ≤ nn) (h : x_kind t nn a = 2) (hc : ¬ cn = 40) : x_gg t nn s 0 br cn W P a = x_hn t nn s a (x_gg t nn s 1 br (cn + 1) W (x_lvq t nn s P a) (x_ns t nn (x_ns t nn (x_ns t nn a)))) (x_gg t nn s 1 br (cn + 1) W (x_lw t nn s P a) (x_ns t nn a)) := by
  rw [x_gg_0 h0 h1]; unfold x_g0; rw [if_neg (by omega), if_neg (by omega), if_pos h, if_neg hc]
theorem g_nmx (h0 : 0 ≤ a) (h1 : a ≤ nn) (h : x_kind t nn a = 2) (hc : cn = 40) : x_gg t nn s 0 br cn W P a = .inl (2, a) := by
  rw [x_gg_0 h0 h1]; unfold x_g0; rw [if_neg (by omega), if_neg (by omega), if_pos h, if_pos hc]
theorem g_0x (h0 : 0 ≤ a) (h1 : a ≤ nn) (h : ¬ (x_kind t nn a = 4 ∧ x_val t nn a = 40)) (h2 : ¬ (x_kind t nn a = 1 ∧ x_kx (x_val t nn a) = 14)) (h3 : ¬ x_kind t nn a = 2) : x_gg t nn s 0 br cn W P a = .inl (1, a) := by
  rw [x_gg_0 h0 h1]; unfold x_g0; rw [if_neg h, if_neg h2, if_neg h3]
theorem g_end (h0 : 0 ≤ a) (h1 : a ≤ nn) (h : x_kind t nn a = 0) (hb : br = 0) : x_gg t nn s 1 br cn W P a = .inr (x_bd 1 W P).2 := by
  rw [x_gg_1 h0 h1]; unfold x_g1; rw [if_pos ⟨h, hb⟩]
theorem g_an (h0 : 0 ≤ a) (h1 : a ≤ nn) (h : x_kind t nn a = 1) (h2 : x_kx (x_val t nn a) = 12) (hc : ¬ cn = 40) : x_gg t nn s 1 br cn W P a = x_gg t nn s 0 br (cn + 1) (3 :: (x_bd 2 W P).1) (x_bd 2 W P).2 (x_ns t nn a) := by
  rw [x_gg_1 h0 h1]; unfold x_g1; rw [if_neg (by omega), if_pos ⟨h, h2⟩, if_neg hc]
theorem g_or (h0 : 0 ≤ a) (h1 : a ≤ nn) (h : x_kind t nn a = 1) (h2 : x_kx (x_val t nn a) = 13) (hc : ¬ cn = 40) : x_gg t nn s 1 br cn W P a = x_gg t nn s 0 br (cn + 1) (4 :: (x_bd 1 W P).1) (x_bd 1 W P).2 (x_ns t nn a) := by
  rw [x_gg_1 h0 h1]; unfold x_g1; rw [if_neg (by omega), if_neg (by omega), if_pos ⟨h, h2⟩, if_neg hc]
theorem g_aox (h0 : 0 ≤ a) (h1 : a ≤ nn) (h : x_kind t nn a = 1) (h2 : x_kx (x_val t nn a) = 12 ∨ x_kx (x_val t nn a) = 13) (hc : cn = 40) : x_gg t nn s 1 br cn W P a = .inl (2, a) := by
  rw [x_gg_1 h0 h1]; unfold x_g1; rw [if_neg (by omega)]
  rcases h2 with h2 | h2
  · rw [if_pos ⟨h, h2⟩, if_pos hc]
  · rw [if_neg (by omega), if_pos ⟨h, h2⟩, if_pos hc]
theorem g_rp (h0 : 0 ≤ a) (h1 : a ≤ nn) (h : x_kind t nn a = 4 ∧ x_val t nn a = 41) (hb : 0 < br) : x_gg t nn s 1 br cn W P a = x_gg t nn s 1 (br - 1) cn (x_bd 1 W P).1.tail (x_bd 1 W P).2 (x_ns t nn a) := by
  rw [x_gg_1 h0 h1]; unfold x_g1; rw [if_neg (by omega), if_neg (by omega), if_neg (by omega), if_pos ⟨h.1, h.2, hb⟩]
theorem g_1x (h0 : 0 ≤ a) (h1 : a ≤ nn) (h : ¬ (x_kind t nn a = 0 ∧ br = 0)) (h2 : ¬ (x_kind t nn a = 1 ∧ (x_kx (x_val t nn a) = 12 ∨ x_kx (x_val t nn a) = 13))) (h3 : ¬ (x_kind t nn a = 4 ∧ x_val t nn a = 41 ∧ 0 < br)) : x_gg t nn s 1 br cn W P a = .inl (1, a) := by
  rw [x_gg_1 h0 h1]; unfold x_g1; rw [if_neg h, if_neg (by omega), if_neg (by omega), if_neg h3]
/-! what binds at once -/
theorem bd_c {l : Int} {w : Int} (h : l ≤ x_wt w) : x_bd l (w :: W) P = x_bd l W (x_kn1 P w 0 0) := by
  rw [x_bd, if_pos h]
theorem g_eq1 {W2 : List Int} {P2 : x_GP} (h0 : 0 ≤ a) (h1 : a ≤ nn) (e : x_bd 1 W P = x_bd 1 W2 P2) (e2 : x_kind t nn a = 1 ∧ x_kx (x_val t nn a) = 12 → x_bd 2 W P = x_bd 2 W2 P2) : x_gg t nn s 1 br cn W P a = x_gg t nn s 1 br cn W2 P2 a := by
  rw [x_gg_1 h0 h1, x_gg_1 h0 h1]
  unfold x_g1
  rw [e]
  by_cases g : x_kind t nn a = 1 ∧ x_kx (x_val t nn a) = 12
  · rw [e2 g]
  · rw [if_neg g, if_neg g]
/-- a not, an and are bound at once -/
theorem g_b2 {w : Int} (h0 : 0 ≤ a) (h1 : a ≤ nn) (hw : w = 2 ∨ w = 3) : x_gg t nn s 1 br cn (w :: W) P a = x_gg t nn s 1 br cn W (x_kn1 P w 0 0) a := by
  have h : x_wt w = 3 ∨ x_wt w = 2 := by
    rcases hw with z | z <;> subst z
    · exact Or.inl rfl
    · exact Or.inr rfl
  exact g_eq1 h0 h1 (bd_c (by omega)) (fun _ => bd_c (by omega))
/-- an or ahead of all but an and -/
theorem g_b4 (h0 : 0 ≤ a) (h1 : a ≤ nn) (h : ¬ (x_kind t nn a = 1 ∧ x_kx (x_val t nn a) = 12)) : x_gg t nn s 1 br cn (4 :: W) P a = x_gg t nn s 1 br cn W (x_kn1 P 4 0 0) a :=
  g_eq1 h0 h1 (bd_c (by decide)) (fun z => absurd z h)
variable {k1 k2 : x_GR}
theorem hn_w (h : ¬ (x_kind t nn (x_ns t nn a) = 4 ∧ x_val t nn (x_ns t nn a) = 61)) (h2 : 0 ≤ x_fn s 6 (x_val t nn a)) : x_hn t nn s a k1 k2 = k2 := by
  unfold x_hn; rw [if_neg h, if_pos h2]
theorem hn_wx (h : ¬ (x_kind t nn (x_ns t nn a) = 4 ∧ x_val t nn (x_ns t nn a) = 61)) (h2 : ¬ 0 ≤ x_fn s 6 (x_val t nn a)) : x_hn t nn s a k1 k2 = .inl (4, a) := by
  unfold x_hn; rw [if_neg h, if_neg h2]
theorem hn_vx (h : x_kind t nn (x_ns t nn a) = 4 ∧ x_val t nn (x_ns t nn a) = 61) (h2 : ¬ (0 ≤ x_fn s 1 (x_val t nn a) ∧ ¬ x_row s 2 (x_fn s 1 (x_val t nn a)) = 3)) : x_hn t nn s a k1 k2 = .inl (4, a) := by
  unfold x_hn; rw [if_pos h, if_neg h2]
theorem hn_v (h : x_kind t nn (x_ns t nn a) = 4 ∧ x_val t nn (x_ns t nn a) = 61) (h2 : 0 ≤ x_fn s 1 (x_val t nn a) ∧ ¬ x_row s 2 (x_fn s 1 (x_val t nn a)) = 3) (h3 : x_kind t nn (x_ns t nn (x_ns t nn a)) = 3) (h4 : x_val t nn (x_ns t nn (x_ns t nn a)) ≤ x_row s 5 (x_fn s 1 (x_val t nn a)) - 1) : x_hn t nn s a k1 k2 = k1 := by
  unfold x_hn; rw [if_pos h, if_pos h2]; unfold x_hv; rw [if_pos h3, if_pos h4]
theorem hn_v2 (h : x_kind t nn (x_ns t nn a) = 4 ∧ x_val t nn (x_ns t nn a) = 61) (h2 : 0 ≤ x_fn s 1 (x_val t nn a) ∧ ¬ x_row s 2 (x_fn s 1 (x_val t nn a)) = 3) (h3 : x_kind t nn (x_ns t nn (x_ns t nn a)) = 3) (h4 : ¬ x_val t nn (x_ns t nn (x_ns t nn a)) ≤ x_row s 5 (x_fn s 1 (x_val t nn a)) - 1) : x_hn t nn s a k1 k2 = .inl (2, x_ns t nn (x_ns t nn a)) := by
  unfold x_hn; rw [if_pos h, if_pos h2]; unfold x_hv; rw [if_pos h3, if_neg h4]
theorem hn_v1 (h : x_kind t nn (x_ns t nn a) = 4 ∧ x_val t nn (x_ns t nn a) = 61) (h2 : 0 ≤ x_fn s 1 (x_val t nn a) ∧ ¬ x_row s 2 (x_fn s 1 (x_val t nn a)) = 3) (h3 : ¬ x_kind t nn (x_ns t nn (x_ns t nn a)) = 3) : x_hn t nn s a k1 k2 = .inl (1, x_ns t nn (x_ns t nn a)) := by
  unfold x_hn; rw [if_pos h, if_pos h2]; unfold x_hv; rw [if_neg h3]
end GSTEPS
end XGL
/-! the class's knots -/
noncomputable def LQc (M : mm_M) (q : Nat) (P : x_GP) : Prop := 0 ≤ P.2 ∧ (M.2.1 q 5).toInt = P.2 ∧ ∀ i : Nat, (i : Int) < P.2 → (M.2.1 (q + 1) i).toInt = P.1.1 i ∧ (M.2.1 (q + 2) i).toInt = P.1.2.1 i ∧ (M.2.1 (q + 3) i).toInt = P.1.2.2 i
noncomputable def x_wc : List Int → Int
  | [] => 0
  | w :: ws => (if w = 0 then 0 else 1) + x_wc ws
noncomputable def x_2s : Nat → List Int → List Int
  | 0, W => W
  | n + 1, W => 2 :: x_2s n W
noncomputable def x_P0 : x_GP := (x_A0, 0)
section LQS
variable {M M1 M2 M3 M4 : mm_M} {q : Nat} {P : x_GP} {W : List Int}
theorem x_wc_b : ∀ W : List Int, 0 ≤ x_wc W
  | [] => Int.le_refl _
  | w :: ws => by
    have ih := x_wc_b ws
    rw [x_wc]
    split <;> omega
theorem x_wc_1 {w : Int} (h : ¬ w = 0) : x_wc (w :: W) = 1 + x_wc W := by rw [x_wc, if_neg h]
theorem x_wc_0 : x_wc (0 :: W) = x_wc W := by rw [x_wc, if_pos rfl, Int.zero_add]
theorem x_wc_2 : ∀ n : Nat, x_wc (x_2s n W) = (n : Int) + x_wc W
  | 0 => by rw [x_2s]; omega
  | n + 1 => by
    rw [x_2s, x_wc_1 (by decide), x_wc_2 n]
    omega
theorem x_wc_2i {n : Int} (h : 0 ≤ n) : x_wc (x_2s n.toNat W) = n + x_wc W := by
  rw [x_wc_2]
  omega
theorem x_2s_s {n n2 : Int} (h0 : 0 ≤ n) (h : n2 = n + 1) : 2 :: x_2s n.toNat W = x_2s n2.toNat W := by
  rw [show n2.toNat = n.toNat + 1 by omega]
  rfl
theorem x_2s_0 {n : Int} (h : n ≤ 0) : x_2s n.toNat W = W := by
  rw [show n.toNat = 0 by omega]
  rfl
theorem LQc_f (h : ∀ a i : Nat, (a = q ∧ i = 5 ∨ q + 1 ≤ a ∧ a ≤ q + 3) → M1.2.1 a i = M.2.1 a i) (H : LQc M q P) : LQc M1 q P := by
  refine ⟨H.1, by rw [h q 5 (by omega)]; exact H.2.1, fun i hi => ?_⟩
  rw [h (q + 1) i (by omega), h (q + 2) i (by omega), h (q + 3) i (by omega)]
  exact H.2.2 i hi
theorem LQc_0 (h : (M.2.1 q 5).toInt = 0) : LQc M q x_P0 := ⟨Int.le_refl _, h, fun i hi => by
  have hi : (i : Int) < 0 := hi
  omega⟩
theorem LQc_k {k f s v : Int32} {j1 j2 j3 : Nat} (H : LQc M q P) (W1 : M1 = mm_setI M (q + 1) j1 k) (W2 : M2 = mm_setI M1 (q + 2) j2 f) (W3 : M3 = mm_setI M2 (q + 3) j3 s) (W4 : M4 = mm_setI M3 q 5 v) (h1 : (j1 : Int) = P.2) (h2 : (j2 : Int) = P.2) (h3 : (j3 : Int) = P.2) (hv : v.toInt = P.2 + 1) : LQc M4 q (x_kn1 P k.toInt f.toInt s.toInt) := by
  have h0 := H.1
  refine ⟨?_, ?_, fun i hi => ?_⟩
  · show 0 ≤ P.2 + 1
    omega
  · rw [W_e W4]
    exact hv
  · have hi : (i : Int) < P.2 + 1 := hi
    rw [show M4.2.1 (q + 1) i = M1.2.1 (q + 1) i from W_n W4 (by omega) (W_n W3 (by omega) (W_n W2 (by omega) rfl)), show M4.2.1 (q + 2) i = M2.2.1 (q + 2) i from W_n W4 (by omega) (W_n W3 (by omega) rfl), show M4.2.1 (q + 3) i = M3.2.1 (q + 3) i from W_n W4 (by omega) rfl]
    show _ = (if i = P.2.toNat then k.toInt else P.1.1 i) ∧ _ = (if i = P.2.toNat then f.toInt else P.1.2.1 i) ∧ _ = (if i = P.2.toNat then s.toInt else P.1.2.2 i)
    by_cases g : i = P.2.toNat
    · rw [if_pos g, if_pos g, if_pos g]
      refine ⟨?_, ?_, ?_⟩
      · rw [show i = j1 by omega, W_e W1]
      · rw [show i = j2 by omega, W_e W2]
      · rw [show i = j3 by omega, W_e W3]
    · have z := H.2.2 i (by omega)
      rw [if_neg g, if_neg g, if_neg g]
      refine ⟨?_, ?_, ?_⟩
      · rw [show M1.2.1 (q + 1) i = M.2.1 (q + 1) i from W_n W1 (by omega) rfl]
        exact z.1
      · rw [show M2.2.1 (q + 2) i = M.2.1 (q + 2) i from W_n W2 (by omega) (W_n W1 (by omega) rfl)]
        exact z.2.1
      · rw [show M3.2.1 (q + 3) i = M.2.1 (q + 3) i from W_n W3 (by omega) (W_n W2 (by omega) (W_n W1 (by omega) rfl))]
        exact z.2.2
theorem LQc_v {k f s k2 f2 s2 : Int} (h1 : k = k2) (h2 : f = f2) (h3 : s = s2) (H : LQc M q (x_kn1 P k f s)) : LQc M q (x_kn1 P k2 f2 s2) := by
  subst h1; subst h2; subst h3
  exact H
theorem x_kn1_2 {k a b : Int} : (x_kn1 P k a b).2 = P.2 + 1 := rfl
theorem bd_0 {l : Int} (h : 1 ≤ l) : x_bd l (0 :: W) P = (0 :: W, P) := by
  rw [x_bd, if_neg]
  show ¬ l ≤ 0
  omega
theorem bd_4 : x_bd 2 (4 :: W) P = (4 :: W, P) := by
  rw [x_bd, if_neg (by decide)]
end LQS
theorem g_v {t : Nat → Int} {nn : Int} {s : x_S} {tu tu2 br br2 cn cn2 a a2 : Int} {W W2 : List Int} {P : x_GP} (h : tu = tu2) (h1 : br = br2) (h2 : cn = cn2) (h3 : W = W2) (h4 : a = a2) : x_gg t nn s tu br cn W P a = x_gg t nn s tu2 br2 cn2 W2 P a2 := by rw [h, h1, h2, h3, h4]
theorem ginl {R : x_GR} {x y x2 y2 : Int} (h1 : x = x2) (h2 : y = y2) (H : R = .inl (x2, y2)) : R = .inl (x, y) := by rw [h1, h2]; exact H
/-! the reference's knots: where their parts are, by what is held -/
noncomputable def LST (f : Nat → Int) : List Int → Prop
  | [] => True
  | o :: os => f os.length = o ∧ LST f os
theorem LST_f {f g : Nat → Int} : ∀ l : List Int, (∀ i : Nat, i < l.length → g i = f i) → LST f l → LST g l
  | [], _, _ => trivial
  | o :: os, h, H => ⟨(h os.length (by rw [List.length_cons]; omega)).trans H.1, LST_f os (fun i hi => h i (by rw [List.length_cons]; omega)) H.2⟩
noncomputable def x_hd (k : Nat → Int) : Nat → List Int
  | 0 => []
  | n + 1 => if k n = 0 ∨ k n = 1 then (n : Int) :: x_hd k n else if k n = 2 then (n : Int) :: (x_hd k n).tail else (n : Int) :: (x_hd k n).tail.tail
theorem x_hd_c {k k2 : Nat → Int} : ∀ n : Nat, (∀ i : Nat, i < n → k2 i = k i) → x_hd k2 n = x_hd k n
  | 0, _ => rfl
  | n + 1, h => by rw [x_hd, x_hd, x_hd_c n (fun i hi => h i (by omega)), h n (by omega)]
noncomputable def x_h1 (l : List Int) : Int := l.headD 0
noncomputable def x_h2 (l : List Int) : Int := l.tail.headD 0
noncomputable def x_pt (H : List Int) (k p o f s : Int) : Prop := ((k = 0 ∨ k = 1) → p = f ∧ o = s) ∧ (k = 2 → p = x_h1 H) ∧ ((k = 3 ∨ k = 4) → p = x_h2 H ∧ o = x_h1 H)
noncomputable def LQK (b : Nat) (M : mm_M) (P : x_GP) : Prop := 0 ≤ P.2 ∧ ∀ i : Nat, (i : Int) < P.2 → (M.2.1 112 (b + i)).toInt = P.1.1 i ∧ x_pt (x_hd P.1.1 i) (P.1.1 i) (M.2.1 113 (b + i)).toInt (M.2.1 114 (b + i)).toInt (P.1.2.1 i) (P.1.2.2 i)
noncomputable def HLD (M : mm_M) (H : List Int) : Prop := LST (fun j => (M.2.1 116 j).toInt) H ∧ (H.length : Int) = (M.2.1 77 66).toInt
noncomputable def WTR (M : mm_M) (W : List Int) : Prop := LST (fun j => (M.2.1 115 j).toInt) W ∧ (W.length : Int) = (M.2.1 77 65).toInt
section LQR
variable {M M1 : mm_M} {P : x_GP} {W H : List Int} {b : Nat} {k f s : Int}
theorem x_kn1_hd (n : Nat) (h : n ≤ P.2.toNat) : x_hd (x_kn1 P k f s).1.1 n = x_hd P.1.1 n := x_hd_c n (fun i hi => by
  show (if i = P.2.toNat then k else P.1.1 i) = P.1.1 i
  rw [if_neg (by omega)])
theorem x_kn1_k : (x_kn1 P k f s).1.1 P.2.toNat = k := by
  show (if P.2.toNat = P.2.toNat then k else P.1.1 P.2.toNat) = k
  rw [if_pos rfl]
theorem x_hd_s (h0 : 0 ≤ P.2) : x_hd (x_kn1 P k f s).1.1 (x_kn1 P k f s).2.toNat = if k = 0 ∨ k = 1 then P.2 :: x_hd P.1.1 P.2.toNat else if k = 2 then P.2 :: (x_hd P.1.1 P.2.toNat).tail else P.2 :: (x_hd P.1.1 P.2.toNat).tail.tail := by
  rw [show (x_kn1 P k f s).2.toNat = P.2.toNat + 1 by show (P.2 + 1).toNat = _; omega, x_hd, x_kn1_hd _ (Nat.le_refl _), x_kn1_k, show ((P.2.toNat : Nat) : Int) = P.2 by omega]
theorem LQK_f (h : ∀ r i : Nat, 112 ≤ r ∧ r ≤ 114 → b ≤ i → M1.2.1 r i = M.2.1 r i) (L : LQK b M P) : LQK b M1 P := ⟨L.1, fun i hi => by
  rw [h 112 (b + i) (by omega) (by omega), h 113 (b + i) (by omega) (by omega), h 114 (b + i) (by omega) (by omega)]
  exact L.2 i hi⟩
theorem LQK_k (L : LQK b M P) (h : ∀ r i : Nat, 112 ≤ r ∧ r ≤ 114 → ¬ i = b + P.2.toNat → M1.2.1 r i = M.2.1 r i) (e : (M1.2.1 112 (b + P.2.toNat)).toInt = k) (c : x_pt (x_hd P.1.1 P.2.toNat) k (M1.2.1 113 (b + P.2.toNat)).toInt (M1.2.1 114 (b + P.2.toNat)).toInt f s) : LQK b M1 (x_kn1 P k f s) := by
  have h0 := L.1
  refine ⟨?_, fun i hi => ?_⟩
  · show 0 ≤ P.2 + 1
    omega
  · have hi : (i : Int) < P.2 + 1 := hi
    rw [x_kn1_hd i (by omega)]
    show _ = (if i = P.2.toNat then k else P.1.1 i) ∧ x_pt _ (if i = P.2.toNat then k else P.1.1 i) _ _ (if i = P.2.toNat then f else P.1.2.1 i) (if i = P.2.toNat then s else P.1.2.2 i)
    by_cases g : i = P.2.toNat
    · subst g
      rw [if_pos rfl, if_pos rfl, if_pos rfl]
      exact ⟨e, c⟩
    · rw [if_neg g, if_neg g, if_neg g, h 112 (b + i) (by omega) (by omega), h 113 (b + i) (by omega) (by omega), h 114 (b + i) (by omega) (by omega)]
      exact L.2 i (by omega)
theorem HLD_f (h : ∀ i : Nat, M1.2.1 116 i = M.2.1 116 i) (e : (M1.2.1 77 66).toInt = (M.2.1 77 66).toInt) (L : HLD M H) : HLD M1 H := ⟨LST_f H (fun i _ => by rw [h i]) L.1, by rw [e]; exact L.2⟩
theorem WTR_f (h : ∀ i : Nat, M1.2.1 115 i = M.2.1 115 i) (e : (M1.2.1 77 65).toInt = (M.2.1 77 65).toInt) (L : WTR M W) : WTR M1 W := ⟨LST_f W (fun i _ => by rw [h i]) L.1, by rw [e]; exact L.2⟩
/-- one more -/
theorem HLD_p {j : Nat} {v : Int32} {x : Int} (L : HLD M H) (hj : (j : Int) = (M.2.1 77 66).toInt) (h : ∀ i : Nat, ¬ i = j → M1.2.1 116 i = M.2.1 116 i) (e : M1.2.1 116 j = v) (hv : v.toInt = x) (e2 : (M1.2.1 77 66).toInt = (M.2.1 77 66).toInt + 1) : HLD M1 (x :: H) := by
  have l := L.2
  refine ⟨⟨?_, LST_f H (fun i hi => by rw [h i (by omega)]) L.1⟩, ?_⟩
  · show (M1.2.1 116 H.length).toInt = x
    rw [show H.length = j by omega, e]
    exact hv
  · rw [List.length_cons]
    omega
theorem WTR_p {j : Nat} {v : Int32} {x : Int} (L : WTR M W) (hj : (j : Int) = (M.2.1 77 65).toInt) (h : ∀ i : Nat, ¬ i = j → M1.2.1 115 i = M.2.1 115 i) (e : M1.2.1 115 j = v) (hv : v.toInt = x) (e2 : (M1.2.1 77 65).toInt = (M.2.1 77 65).toInt + 1) : WTR M1 (x :: W) := by
  have l := L.2
  refine ⟨⟨?_, LST_f W (fun i hi => by rw [h i (by omega)]) L.1⟩, ?_⟩
  · show (M1.2.1 115 W.length).toInt = x
    rw [show W.length = j by omega, e]
    exact hv
  · rw [List.length_cons]
    omega
/-- one less: the top -/
theorem HLD_t {c : Int} {v : Int32} (L : HLD M H) (hc : c = (M.2.1 77 66).toInt - 1) (h0 : 0 ≤ c) (w : M.2.1 116 c.toNat = v) (h : ∀ i : Nat, M1.2.1 116 i = M.2.1 116 i) (e : (M1.2.1 77 66).toInt = c) : HLD M1 H.tail ∧ v.toInt = x_h1 H := by
  cases H with
  | nil =>
    have l : ((0 : Nat) : Int) = (M.2.1 77 66).toInt := L.2
    omega
  | cons x xs =>
    have l := L.2
    rw [List.length_cons] at l
    refine ⟨⟨LST_f xs (fun i _ => by rw [h i]) L.1.2, ?_⟩, ?_⟩
    · show (xs.length : Int) = _
      omega
    · have z : (M.2.1 116 xs.length).toInt = x := L.1.1
      rw [show c.toNat = xs.length by omega] at w
      rw [← w]
      exact z
theorem WTR_t {c : Int} {v : Int32} (L : WTR M W) (hc : c = (M.2.1 77 65).toInt - 1) (h0 : 0 ≤ c) (w : M.2.1 115 c.toNat = v) : ∃ ws : List Int, W = v.toInt :: ws ∧ ∀ M1 : mm_M, (∀ i : Nat, M1.2.1 115 i = M.2.1 115 i) → (M1.2.1 77 65).toInt = c → WTR M1 ws := by
  cases W with
  | nil =>
    have l : ((0 : Nat) : Int) = (M.2.1 77 65).toInt := L.2
    omega
  | cons x xs =>
    have l := L.2
    rw [List.length_cons] at l
    have z : (M.2.1 115 xs.length).toInt = x := L.1.1
    rw [show c.toNat = xs.length by omega] at w
    refine ⟨xs, ?_, fun M1 h e => ⟨LST_f xs (fun i _ => by rw [h i]) L.1.2, by omega⟩⟩
    rw [← w, z]
theorem WTR_0 (h : (M.2.1 77 65).toInt = 0) : WTR M [] := ⟨trivial, by rw [h]; rfl⟩
theorem WTR_n (L : WTR M W) (h : (M.2.1 77 65).toInt ≤ 0) : W = [] := by
  cases W with
  | nil => rfl
  | cons x xs =>
    have l := L.2
    rw [List.length_cons] at l
    omega
theorem HLD_0 (h : (M.2.1 77 66).toInt = 0) : HLD M [] := ⟨trivial, by rw [h]; rfl⟩
theorem LQK_0 : LQK b M x_P0 := ⟨Int.le_refl _, fun i hi => by
  have hi : (i : Int) < 0 := hi
  omega⟩
theorem x_wt_c (v : Int) : (v = 2 → x_wt v = 3) ∧ (v = 3 → x_wt v = 2) ∧ (v = 4 → x_wt v = 1) ∧ (¬ v = 2 ∧ ¬ v = 3 ∧ ¬ v = 4 → x_wt v = 0) := by
  unfold x_wt
  refine ⟨fun h => by rw [if_pos h], fun h => by rw [if_neg (by omega), if_pos h], fun h => by rw [if_neg (by omega), if_neg (by omega), if_pos h], fun h => by rw [if_neg h.1, if_neg h.2.1, if_neg h.2.2]⟩
theorem bd_n {l w : Int} (h : ¬ l ≤ x_wt w) : x_bd l (w :: W) P = (w :: W, P) := by rw [x_bd, if_neg h]
theorem LQK_m {c : Nat} (h : ∀ r i : Nat, 112 ≤ r ∧ r ≤ 114 → (i : Int) < P.2 → M1.2.1 r (c + i) = M.2.1 r (b + i)) (L : LQK b M P) : LQK c M1 P := ⟨L.1, fun i hi => by
  rw [h 112 i (by omega) hi, h 113 i (by omega) hi, h 114 i (by omega) hi]
  exact L.2 i hi⟩
end LQR
/-- what the reference holds while it reads -/
noncomputable def GST (M : mm_M) (W : List Int) (P : x_GP) : Prop := WTR M W ∧ LQK 40 M P ∧ HLD M (x_hd P.1.1 P.2.toNat) ∧ (M.2.1 77 59).toInt = P.2
section GSTS
variable {M M1 : mm_M} {P : x_GP} {W ws : List Int} {E : List Int × x_GP} {l w k f s : Int}
theorem bxq_0 (e : x_bd l W P = E) (h : W = []) (G : GST M W P) : GST M E.1 E.2 := by
  subst h
  rw [← e]
  exact G
theorem bx_n (e : x_bd l W P = E) (h : W = w :: ws) (n : ¬ l ≤ x_wt w) (G : GST M W P) : GST M E.1 E.2 := by
  rw [← e, h, bd_n n]
  rw [h] at G
  exact G
theorem bx_s (e : x_bd l W P = E) (h : W = w :: ws) (y : l ≤ x_wt w) : x_bd l ws (x_kn1 P w 0 0) = E := by rw [← e, h, bd_c y]
theorem hd_l (h0 : 0 ≤ P.2) (hk : k = 0 ∨ k = 1) (H : HLD M (P.2 :: x_hd P.1.1 P.2.toNat)) : HLD M (x_hd (x_kn1 P k f s).1.1 (x_kn1 P k f s).2.toNat) := by
  rw [x_hd_s h0, if_pos hk]
  exact H
theorem hd_2 (h0 : 0 ≤ P.2) (hk : k = 2) (H : HLD M (P.2 :: (x_hd P.1.1 P.2.toNat).tail)) : HLD M (x_hd (x_kn1 P k f s).1.1 (x_kn1 P k f s).2.toNat) := by
  rw [x_hd_s h0, if_neg (by omega), if_pos hk]
  exact H
theorem hd_b (h0 : 0 ≤ P.2) (hk : k = 3 ∨ k = 4) (H : HLD M (P.2 :: (x_hd P.1.1 P.2.toNat).tail.tail)) : HLD M (x_hd (x_kn1 P k f s).1.1 (x_kn1 P k f s).2.toNat) := by
  rw [x_hd_s h0, if_neg (by omega), if_neg (by omega)]
  exact H
theorem GST_f (h : ∀ a i : Nat, (112 ≤ a ∧ a ≤ 114 ∧ 40 ≤ i ∨ 115 ≤ a ∧ a ≤ 116 ∨ a = 77 ∧ (i = 59 ∨ i = 65 ∨ i = 66)) → M1.2.1 a i = M.2.1 a i) (G : GST M W P) : GST M1 W P :=
  ⟨WTR_f (fun i => h 115 i (by omega)) (by rw [h 77 65 (by omega)]) G.1, LQK_f (fun r i hr hi => h r i (by omega)) G.2.1, HLD_f (fun i => h 116 i (by omega)) (by rw [h 77 66 (by omega)]) G.2.2.1, by rw [h 77 59 (by omega)]; exact G.2.2.2⟩
theorem WTR_d (L : WTR M W) (h1 : 1 ≤ (M.2.1 77 65).toInt) (h : ∀ i : Nat, M1.2.1 115 i = M.2.1 115 i) (e : (M1.2.1 77 65).toInt = (M.2.1 77 65).toInt - 1) : WTR M1 W.tail := by
  cases W with
  | nil =>
    have l : ((0 : Nat) : Int) = (M.2.1 77 65).toInt := L.2
    omega
  | cons x xs =>
    have l := L.2
    rw [List.length_cons] at l
    refine ⟨LST_f xs (fun i _ => by rw [h i]) L.1.2, ?_⟩
    show (xs.length : Int) = _
    omega
theorem GST_t (G : GST M W P) (h1 : 1 ≤ (M.2.1 77 65).toInt) (h : ∀ a i : Nat, (112 ≤ a ∧ a ≤ 114 ∧ 40 ≤ i ∨ 115 ≤ a ∧ a ≤ 116 ∨ a = 77 ∧ (i = 59 ∨ i = 66)) → M1.2.1 a i = M.2.1 a i) (e : (M1.2.1 77 65).toInt = (M.2.1 77 65).toInt - 1) : GST M1 W.tail P :=
  ⟨WTR_d G.1 h1 (fun i => h 115 i (by omega)) e, LQK_f (fun r i hr hi => h r i (by omega)) G.2.1, HLD_f (fun i => h 116 i (by omega)) (by rw [h 77 66 (by omega)]) G.2.2.1, by rw [h 77 59 (by omega)]; exact G.2.2.2⟩
theorem GST_p {j : Nat} {v : Int32} {x : Int} (G : GST M W P) (hj : (j : Int) = (M.2.1 77 65).toInt) (h5 : ∀ i : Nat, ¬ i = j → M1.2.1 115 i = M.2.1 115 i) (e : M1.2.1 115 j = v) (hv : v.toInt = x) (h : ∀ a i : Nat, (112 ≤ a ∧ a ≤ 114 ∧ 40 ≤ i ∨ a = 116 ∨ a = 77 ∧ (i = 59 ∨ i = 66)) → M1.2.1 a i = M.2.1 a i) (e2 : (M1.2.1 77 65).toInt = (M.2.1 77 65).toInt + 1) : GST M1 (x :: W) P :=
  ⟨WTR_p G.1 hj h5 e hv e2, LQK_f (fun r i hr hi => h r i (by omega)) G.2.1, HLD_f (fun i => h 116 i (by omega)) (by rw [h 77 66 (by omega)]) G.2.2.1, by rw [h 77 59 (by omega)]; exact G.2.2.2⟩
theorem GST_0 (h59 : (M.2.1 77 59).toInt = 0) (h65 : (M.2.1 77 65).toInt = 0) (h66 : (M.2.1 77 66).toInt = 0) : GST M [] x_P0 := ⟨WTR_0 h65, LQK_0, HLD_0 h66, h59⟩
theorem GST_l {k2 f2 s2 : Int} (G : GST M W P) (hk : k = 0 ∨ k = 1) (hw : WTR M1 W) (hl : LQK 40 M1 (x_kn1 P k f s)) (hh : HLD M1 (P.2 :: x_hd P.1.1 P.2.toNat)) (e : (M1.2.1 77 59).toInt = P.2 + 1) (h0 : k = k2) (h1 : f = f2) (h2 : s = s2) : GST M1 W (x_kn1 P k2 f2 s2) := by
  subst h0; subst h1; subst h2
  exact ⟨hw, hl, hd_l G.2.1.1 hk hh, e⟩
end GSTS
/-! a question that is read is well formed -/
noncomputable def x_bi : List Int → Nat
  | [] => 0
  | w :: ws => (if w = 3 ∨ w = 4 then 1 else 0) + x_bi ws
noncomputable def x_cz : List Int → Int
  | [] => 0
  | w :: ws => (if w = 0 then 1 else 0) + x_cz ws
noncomputable def x_inq (W : List Int) : Prop := ∀ w ∈ W, w = 0 ∨ w = 2 ∨ w = 3 ∨ w = 4
noncomputable def GK (s : x_S) (P : x_GP) (i : Nat) : Prop := (P.1.1 i = 0 ∧ 0 ≤ P.1.2.1 i ∧ P.1.2.1 i < s.2.1 ∧ ¬ x_row s 2 (P.1.2.1 i) = 3 ∧ 0 ≤ P.1.2.2 i ∧ P.1.2.2 i < x_row s 5 (P.1.2.1 i)) ∨ (P.1.1 i = 1 ∧ 0 ≤ P.1.2.1 i ∧ P.1.2.1 i < s.2.2.1) ∨ (P.1.1 i = 2 ∧ 1 ≤ (x_hd P.1.1 i).length) ∨ ((P.1.1 i = 3 ∨ P.1.1 i = 4) ∧ 2 ≤ (x_hd P.1.1 i).length)
noncomputable def WFP (s : x_S) (P : x_GP) (d : Nat) : Prop := 0 ≤ P.2 ∧ (∀ i : Nat, (i : Int) < P.2 → GK s P i) ∧ (x_hd P.1.1 P.2.toNat).length = d
section WFS
variable {s : x_S} {P : x_GP} {d : Nat} {k f v l : Int} {W : List Int}
theorem GK_c {i : Nat} (h : GK s P i) (hi : i < P.2.toNat) : GK s (x_kn1 P k f v) i := by
  have e1 : (x_kn1 P k f v).1.1 i = P.1.1 i := by
    show (if i = P.2.toNat then k else P.1.1 i) = P.1.1 i
    rw [if_neg (by omega)]
  have e2 : (x_kn1 P k f v).1.2.1 i = P.1.2.1 i := by
    show (if i = P.2.toNat then f else P.1.2.1 i) = P.1.2.1 i
    rw [if_neg (by omega)]
  have e3 : (x_kn1 P k f v).1.2.2 i = P.1.2.2 i := by
    show (if i = P.2.toNat then v else P.1.2.2 i) = P.1.2.2 i
    rw [if_neg (by omega)]
  unfold GK
  rw [e1, e2, e3, x_kn1_hd i (by omega)]
  exact h
theorem WFP_k (H : WFP s P d) {d2 : Nat} (g : GK s (x_kn1 P k f v) P.2.toNat) (e : (if k = 0 ∨ k = 1 then P.2 :: x_hd P.1.1 P.2.toNat else if k = 2 then P.2 :: (x_hd P.1.1 P.2.toNat).tail else P.2 :: (x_hd P.1.1 P.2.toNat).tail.tail).length = d2) : WFP s (x_kn1 P k f v) d2 := by
  obtain ⟨h0, h1, h2⟩ := H
  refine ⟨?_, fun i hi => ?_, ?_⟩
  · show 0 ≤ P.2 + 1
    omega
  · have hi : (i : Int) < P.2 + 1 := hi
    by_cases q : i = P.2.toNat
    · rw [q]; exact g
    · exact GK_c (h1 i (by omega)) (by omega)
  · rw [x_hd_s h0]
    exact e
theorem kn1_n : (x_kn1 P k f v).1.1 P.2.toNat = k ∧ (x_kn1 P k f v).1.2.1 P.2.toNat = f ∧ (x_kn1 P k f v).1.2.2 P.2.toNat = v := by
  refine ⟨x_kn1_k, ?_, ?_⟩
  · show (if P.2.toNat = P.2.toNat then f else P.1.2.1 P.2.toNat) = f
    rw [if_pos rfl]
  · show (if P.2.toNat = P.2.toNat then v else P.1.2.2 P.2.toNat) = v
    rw [if_pos rfl]
theorem WFP_v (H : WFP s P d) (g : 0 ≤ f ∧ f < s.2.1 ∧ ¬ x_row s 2 f = 3 ∧ 0 ≤ v ∧ v < x_row s 5 f) : WFP s (x_kn1 P 0 f v) (d + 1) := by
  refine WFP_k H (Or.inl ?_) ?_
  · rw [kn1_n.1, kn1_n.2.1, kn1_n.2.2]
    exact ⟨rfl, g⟩
  · rw [if_pos (Or.inl rfl), List.length_cons, H.2.2]
theorem WFP_w (H : WFP s P d) (g : 0 ≤ f ∧ f < s.2.2.1) : WFP s (x_kn1 P 1 f v) (d + 1) := by
  refine WFP_k H (Or.inr (Or.inl ?_)) ?_
  · rw [kn1_n.1, kn1_n.2.1]
    exact ⟨rfl, g⟩
  · rw [if_pos (Or.inr rfl), List.length_cons, H.2.2]
theorem WFP_2 (H : WFP s P (d + 1)) : WFP s (x_kn1 P 2 f v) (d + 1) := by
  have l := H.2.2
  refine WFP_k H (Or.inr (Or.inr (Or.inl ?_))) ?_
  · rw [kn1_n.1, x_kn1_hd _ (Nat.le_refl _)]
    exact ⟨rfl, by omega⟩
  · rw [if_neg (by decide), if_pos rfl, List.length_cons, List.length_tail]
    omega
theorem WFP_b (H : WFP s P (d + 2)) (hk : k = 3 ∨ k = 4) : WFP s (x_kn1 P k f v) (d + 1) := by
  have l := H.2.2
  refine WFP_k H (Or.inr (Or.inr (Or.inr ?_))) ?_
  · rw [kn1_n.1, x_kn1_hd _ (Nat.le_refl _)]
    exact ⟨hk, by omega⟩
  · rw [if_neg (by omega), if_neg (by omega), List.length_cons, List.length_tail, List.length_tail]
    omega
theorem in_c {w : Int} (h : x_inq (w :: W)) : (w = 0 ∨ w = 2 ∨ w = 3 ∨ w = 4) ∧ x_inq W := ⟨h w List.mem_cons_self, fun x hx => h x (List.mem_cons_of_mem _ hx)⟩
theorem in_p {w : Int} (h : x_inq W) (hw : w = 0 ∨ w = 2 ∨ w = 3 ∨ w = 4) : x_inq (w :: W) := fun x hx => by
  rcases List.mem_cons.mp hx with q | q
  · rw [q]; exact hw
  · exact h x q
theorem bd_w (hl : 1 ≤ l) : ∀ (W : List Int) (P : x_GP), x_inq W → WFP s P (x_bi W + 1) → WFP s (x_bd l W P).2 (x_bi (x_bd l W P).1 + 1) ∧ x_inq (x_bd l W P).1 ∧ x_cz (x_bd l W P).1 = x_cz W
  | [], P, h, H => ⟨H, h, rfl⟩
  | w :: ws, P, h, H => by
    have c := in_c h
    have t := x_wt_c w
    by_cases g : l ≤ x_wt w
    · rw [bd_c g]
      have z : ¬ w = 0 := fun e => by
        have := t.2.2.2 (by omega)
        omega
      have e : x_cz (w :: ws) = x_cz ws := by
        show (if w = 0 then 1 else 0) + x_cz ws = _
        rw [if_neg z]
        omega
      rw [e]
      refine bd_w hl ws _ c.2 ?_
      by_cases q : w = 2
      · have e2 : x_bi (w :: ws) = x_bi ws := by
          show (if w = 3 ∨ w = 4 then 1 else 0) + x_bi ws = _
          rw [if_neg (by omega)]
          omega
        rw [e2] at H
        rw [q]
        exact WFP_2 H
      · have e2 : x_bi (w :: ws) = x_bi ws + 1 := by
          show (if w = 3 ∨ w = 4 then 1 else 0) + x_bi ws = _
          rw [if_pos (by omega)]
          omega
        rw [e2] at H
        exact WFP_b H (by omega)
    · rw [bd_n g]
      exact ⟨H, h, rfl⟩
theorem bd_z : ∀ (W : List Int) (P : x_GP), x_inq W → x_cz W = 0 → (x_bd 1 W P).1 = []
  | [], _, _, _ => rfl
  | w :: ws, P, h, hz => by
    have c := in_c h
    have t := x_wt_c w
    have hz : (if w = 0 then 1 else 0) + x_cz ws = 0 := hz
    have b : ∀ V : List Int, 0 ≤ x_cz V := fun V => by
      induction V with
      | nil => exact Int.le_refl _
      | cons x xs ih =>
        show 0 ≤ (if x = 0 then 1 else 0) + x_cz xs
        split <;> omega
    have b0 := b ws
    have z : ¬ w = 0 := fun e => by
      rw [if_pos e] at hz
      omega
    rw [if_neg z] at hz
    rw [bd_c (by omega)]
    exact bd_z ws _ c.2 (by omega)
theorem bd_t : ∀ (W : List Int) (P : x_GP), x_inq W → 0 < x_cz W → ∃ ws : List Int, (x_bd 1 W P).1 = 0 :: ws
  | [], _, _, hz => by
    have hz : (0 : Int) < 0 := hz
    omega
  | w :: ws, P, h, hz => by
    have c := in_c h
    have t := x_wt_c w
    have hz : 0 < (if w = 0 then 1 else 0) + x_cz ws := hz
    by_cases z : w = 0
    · subst z
      exact ⟨ws, by rw [bd_n (by have := t.2.2.2 (by omega); omega)]⟩
    · rw [if_neg z] at hz
      rw [bd_c (by omega)]
      exact bd_t ws _ c.2 (by omega)
variable {t : Nat → Int} {nn a : Int} {k1 k2 : x_GR} {R : x_GP}
theorem hi_n (h : x_hn t nn s a k1 k2 = .inr R) : ((0 ≤ x_fn s 1 (x_val t nn a) ∧ ¬ x_row s 2 (x_fn s 1 (x_val t nn a)) = 3 ∧ x_kind t nn (x_ns t nn (x_ns t nn a)) = 3 ∧ x_val t nn (x_ns t nn (x_ns t nn a)) ≤ x_row s 5 (x_fn s 1 (x_val t nn a)) - 1) ∧ k1 = .inr R) ∨ (0 ≤ x_fn s 6 (x_val t nn a) ∧ k2 = .inr R) := by
  unfold x_hn at h
  split at h
  · split at h
    · rename_i q
      unfold x_hv at h
      split at h
      · rename_i q2
        split at h
        · rename_i q3
          exact Or.inl ⟨⟨q.1, q.2, q2, q3⟩, h⟩
        · cases h
      · cases h
    · cases h
  · split at h
    · rename_i q
      exact Or.inr ⟨q, h⟩
    · cases h
theorem g_wfq (G : x_G s) : ∀ (fu : Nat) (tu br cn : Int) (W : List Int) (P : x_GP) (a : Int), 0 ≤ a → a ≤ nn → (nn + 1 - a).toNat ≤ fu → (tu = 0 ∨ tu = 1) → x_inq W → x_cz W = br → WFP s P (x_bi W + tu.toNat) → x_gg t nn s tu br cn W P a = .inr R → WFP s R 1
  | 0, _, _, _, _, _, a, h0, h1, h2, _, _, _, _, _ => by omega
  | fu + 1, tu, br, cn, W, P, a, h0, h1, h2, ht, hW, hb, H, h => by
    by_cases e : a < nn
    · have b1 := x_ns_lt (t := t) h0 e
      have b2 := x_ns_b (t := t) (n := nn) (a := x_ns t nn a) (by omega) (by omega)
      have b3 := x_ns_b (t := t) (n := nn) (a := x_ns t nn (x_ns t nn a)) (by omega) (by omega)
      rcases ht with ht | ht <;> subst ht
      · rw [x_gg_0 h0 h1] at h
        have H : WFP s P (x_bi W) := H
        unfold x_g0 at h
        split at h
        · split at h
          · cases h
          · refine g_wfq G fu 0 (br + 1) cn (0 :: W) P _ (by omega) (by omega) (by omega) (Or.inl rfl) (in_p hW (Or.inl rfl)) ?_ ?_ h
            · show (if (0 : Int) = 0 then 1 else 0) + x_cz W = br + 1
              rw [if_pos rfl]
              omega
            · show WFP s P ((if (0 : Int) = 3 ∨ (0 : Int) = 4 then 1 else 0) + x_bi W)
              rw [if_neg (by decide), Nat.zero_add]
              exact H
        · split at h
          · split at h
            · cases h
            · refine g_wfq G fu 0 br (cn + 1) (2 :: W) P _ (by omega) (by omega) (by omega) (Or.inl rfl) (in_p hW (Or.inr (Or.inl rfl))) ?_ ?_ h
              · show (if (2 : Int) = 0 then 1 else 0) + x_cz W = br
                rw [if_neg (by decide)]
                omega
              · show WFP s P ((if (2 : Int) = 3 ∨ (2 : Int) = 4 then 1 else 0) + x_bi W)
                rw [if_neg (by decide), Nat.zero_add]
                exact H
          · split at h
            · split at h
              · cases h
              · rcases hi_n h with ⟨q, h⟩ | ⟨q, h⟩
                · have fb := (x_fn_b (s := s) (v := x_val t nn a) G).2.2 q.1
                  have vb := (x_val_b (t := t) (nn := nn) (a := x_ns t nn (x_ns t nn a)) q.2.2.1).1
                  exact g_wfq G fu 1 br (cn + 1) W _ _ (by omega) (by omega) (by omega) (Or.inr rfl) hW hb (WFP_v H ⟨q.1, fb, q.2.1, vb, by omega⟩) h
                · have fb := (x_fn_b6 (s := s) (v := x_val t nn a) G).2.2 q
                  exact g_wfq G fu 1 br (cn + 1) W _ _ (by omega) (by omega) (by omega) (Or.inr rfl) hW hb (WFP_w H ⟨q, fb⟩) h
            · cases h
      · rw [x_gg_1 h0 h1] at h
        have H : WFP s P (x_bi W + 1) := H
        have w1 := bd_w (l := 1) (by decide) W P hW H
        have w2 := bd_w (l := 2) (by decide) W P hW H
        unfold x_g1 at h
        split at h
        · rename_i q
          injection h with h
          have z := bd_z W P hW (by omega)
          have w3 := w1.1
          rw [z, h] at w3
          exact w3
        · split at h
          · split at h
            · cases h
            · refine g_wfq G fu 0 br (cn + 1) _ _ _ (by omega) (by omega) (by omega) (Or.inl rfl) (in_p w2.2.1 (Or.inr (Or.inr (Or.inl rfl)))) ?_ ?_ h
              · show (if (3 : Int) = 0 then 1 else 0) + x_cz _ = br
                rw [if_neg (by decide), w2.2.2]
                omega
              · show WFP s _ ((if (3 : Int) = 3 ∨ (3 : Int) = 4 then 1 else 0) + x_bi _)
                rw [if_pos (Or.inl rfl), Nat.add_comm]
                exact w2.1
          · split at h
            · split at h
              · cases h
              · refine g_wfq G fu 0 br (cn + 1) _ _ _ (by omega) (by omega) (by omega) (Or.inl rfl) (in_p w1.2.1 (Or.inr (Or.inr (Or.inr rfl)))) ?_ ?_ h
                · show (if (4 : Int) = 0 then 1 else 0) + x_cz _ = br
                  rw [if_neg (by decide), w1.2.2]
                  omega
                · show WFP s _ ((if (4 : Int) = 3 ∨ (4 : Int) = 4 then 1 else 0) + x_bi _)
                  rw [if_pos (Or.inr rfl), Nat.add_comm]
                  exact w1.1
            · split at h
              · rename_i q
                obtain ⟨ws, hws⟩ := bd_t W P hW (by omega)
                have w3 := w1
                rw [hws] at w3 h
                have c := in_c w3.2.1
                have cz : (if (0 : Int) = 0 then 1 else 0) + x_cz ws = x_cz W := w3.2.2
                rw [if_pos rfl] at cz
                refine g_wfq G fu 1 (br - 1) cn ws _ _ (by omega) (by omega) (by omega) (Or.inr rfl) c.2 (by omega) ?_ h
                have w4 : WFP s (x_bd 1 W P).2 ((if (0 : Int) = 3 ∨ (0 : Int) = 4 then 1 else 0) + x_bi ws + 1) := w3.1
                rw [if_neg (by decide), Nat.zero_add] at w4
                exact w4
              · cases h
    · have k0 := (x_t0 (t := t) (n := nn) (a := a) (by omega)).1
      rcases ht with ht | ht <;> subst ht
      · rw [x_gg_0 h0 h1] at h
        unfold x_g0 at h
        rw [if_neg (by omega), if_neg (by omega), if_neg (by omega)] at h
        cases h
      · rw [x_gg_1 h0 h1] at h
        have H : WFP s P (x_bi W + 1) := H
        have w1 := bd_w (l := 1) (by decide) W P hW H
        unfold x_g1 at h
        split at h
        · rename_i q
          injection h with h
          have z := bd_z W P hW (by omega)
          have w3 := w1.1
          rw [z, h] at w3
          exact w3
        · rw [if_neg (by omega), if_neg (by omega), if_neg (by omega)] at h
          cases h
theorem g_wf0 (G : x_G s) (h0 : 0 ≤ a) (h1 : a ≤ nn) (h : x_gg t nn s 0 0 0 [] x_P0 a = .inr R) : WFP s R 1 :=
  g_wfq G _ 0 0 0 [] x_P0 a h0 h1 (Nat.le_refl _) (Or.inl rfl) (fun w hw => absurd hw List.not_mem_nil) rfl ⟨Int.le_refl _, fun i hi => by have hi : (i : Int) < 0 := hi; omega, rfl⟩ h
end WFS
/-- what a question's reading answers (behind a name, that omega doesn't look into it) -/
noncomputable def QGN (h n r : Int) (G : x_GR) (A : x_GP → Prop) : Prop := 0 ≤ n ∧ n ≤ h → (∃ f p : Int, G = Sum.inl (f, p) ∧ r = -1) ∨ ∃ P : x_GP, G = Sum.inr P ∧ r = P.2 ∧ A P
noncomputable def QGR (r : Int) (G : x_GR) (A B : x_GP → Prop) : Prop := r < 0 ∨ ∃ P : x_GP, G = Sum.inr P ∧ r = P.2 ∧ A P ∧ B P
