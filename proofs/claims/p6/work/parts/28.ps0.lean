abbrev md_f63 (a i : Nat) : Prop := a = 1 ∧ 6 ≤ i ∧ i ≤ 11 ∨ (a = 67 ∨ a = 72) ∧ i = 4
abbrev md_q64 (a i : Nat) : Prop := (a = 67 ∨ a = 72) ∧ i = 5 ∨ 68 ≤ a ∧ a ≤ 70 ∨ 73 ≤ a ∧ a ≤ 75
/-! a question: one reader. tu 0: a part is wanted, 1: a sign; br brackets open, cn knots so far -/
abbrev x_QR := (Int × Int) ⊕ Int
section XQ
variable (t : Nat → Int) (nn : Int) (s : x_S)
noncomputable def x_qv (a b : Int) (k : x_QR) : x_QR := if x_kind t nn b = 3 then (if x_val t nn b ≤ x_row s 5 (x_fn s 1 (x_val t nn a)) - 1 then k else .inl (2, b)) else .inl (1, b)
noncomputable def x_qn (a : Int) (k1 k2 : x_QR) : x_QR :=
  if x_kind t nn (x_ns t nn a) = 4 ∧ x_val t nn (x_ns t nn a) = 61 then (if 0 ≤ x_fn s 1 (x_val t nn a) ∧ ¬ x_row s 2 (x_fn s 1 (x_val t nn a)) = 3 then x_qv t nn s a (x_ns t nn (x_ns t nn a)) k1 else .inl (4, a))
  else (if 0 ≤ x_fn s 6 (x_val t nn a) then k2 else .inl (4, a))
noncomputable def x_q0 (br cn a : Int) (f : Int → Int → Int → Int → x_QR) : x_QR :=
  if x_kind t nn a = 4 ∧ x_val t nn a = 40 then (if br = 8 then .inl (2, a) else f 0 (br + 1) cn (x_ns t nn a))
  else if x_kind t nn a = 1 ∧ x_kx (x_val t nn a) = 14 then (if cn = 40 then .inl (2, a) else f 0 br (cn + 1) (x_ns t nn a))
  else if x_kind t nn a = 2 then (if cn = 40 then .inl (2, a) else x_qn t nn s a (f 1 br (cn + 1) (x_ns t nn (x_ns t nn (x_ns t nn a)))) (f 1 br (cn + 1) (x_ns t nn a)))
  else .inl (1, a)
noncomputable def x_q1 (br cn a : Int) (f : Int → Int → Int → Int → x_QR) : x_QR :=
  if x_kind t nn a = 0 ∧ br = 0 then .inr cn
  else if x_kind t nn a = 1 ∧ (x_kx (x_val t nn a) = 12 ∨ x_kx (x_val t nn a) = 13) then (if cn = 40 then .inl (2, a) else f 0 br (cn + 1) (x_ns t nn a))
  else if x_kind t nn a = 4 ∧ x_val t nn a = 41 ∧ 0 < br then f 1 (br - 1) cn (x_ns t nn a)
  else .inl (1, a)
noncomputable def x_q : Nat → Int → Int → Int → Int → x_QR
  | 0, _, _, _, _ => .inl (0, 0)
  | fu + 1, tu, br, cn, a => if tu = 0 then x_q0 t nn s br cn a (x_q fu) else x_q1 t nn br cn a (x_q fu)
noncomputable def x_qq (tu br cn a : Int) : x_QR := x_q t nn s (nn + 1 - a).toNat tu br cn a
end XQ
section XQL
variable {t : Nat → Int} {nn : Int} {s : x_S}
theorem x_ns_lt {a : Int} (h0 : 0 ≤ a) (h1 : a < nn) : a < x_ns t nn a ∧ x_ns t nn a ≤ nn := by
  have h2 := x_nx_b (t := t) (n := nn) (a := a) h0 (by omega)
  have h3 := x_le (P := x_bl) (t := t) (n := nn) (x := x_nx t nn a) (by omega) (by omega)
  unfold x_ns x_sk
  omega
theorem x_q0_c {br cn a : Int} {f g : Int → Int → Int → Int → x_QR} (h : ∀ tu br cn b : Int, a < b → b ≤ nn → f tu br cn b = g tu br cn b) (h0 : 0 ≤ a) (h1 : a ≤ nn) : x_q0 t nn s br cn a f = x_q0 t nn s br cn a g := by
  by_cases e : a < nn
  · have b1 := x_ns_lt (t := t) h0 e
    have b2 := x_ns_b (t := t) (n := nn) (a := x_ns t nn a) (by omega) (by omega)
    have b3 := x_ns_b (t := t) (n := nn) (a := x_ns t nn (x_ns t nn a)) (by omega) (by omega)
    unfold x_q0
    rw [h 0 (br + 1) cn (x_ns t nn a) (by omega) (by omega), h 0 br (cn + 1) (x_ns t nn a) (by omega) (by omega), h 1 br (cn + 1) (x_ns t nn a) (by omega) (by omega), h 1 br (cn + 1) (x_ns t nn (x_ns t nn (x_ns t nn a))) (by omega) (by omega)]
  · have k := (x_t0 (t := t) (n := nn) (a := a) (by omega)).1
    unfold x_q0
    rw [if_neg (by omega), if_neg (by omega), if_neg (by omega), if_neg (by omega), if_neg (by omega), if_neg (by omega)]
theorem x_q1_c {br cn a : Int} {f g : Int → Int → Int → Int → x_QR} (h : ∀ tu br cn b : Int, a < b → b ≤ nn → f tu br cn b = g tu br cn b) (h0 : 0 ≤ a) (h1 : a ≤ nn) : x_q1 t nn br cn a f = x_q1 t nn br cn a g := by
  by_cases e : a < nn
  · have b1 := x_ns_lt (t := t) h0 e
    unfold x_q1
    rw [h 0 br (cn + 1) (x_ns t nn a) (by omega) (by omega), h 1 (br - 1) cn (x_ns t nn a) (by omega) (by omega)]
  · have k := (x_t0 (t := t) (n := nn) (a := a) (by omega)).1
    unfold x_q1
    by_cases g0 : x_kind t nn a = 0 ∧ br = 0
    · rw [if_pos g0, if_pos g0]
    · rw [if_neg g0, if_neg g0, if_neg (by omega), if_neg (by omega), if_neg (by omega), if_neg (by omega)]
theorem x_q_f : ∀ (f1 f2 : Nat) (tu br cn a : Int), 0 ≤ a → a ≤ nn → (nn + 1 - a).toNat ≤ f1 → (nn + 1 - a).toNat ≤ f2 → x_q t nn s f1 tu br cn a = x_q t nn s f2 tu br cn a
  | 0, _, _, _, _, a, h0, h1, h2, _ => by omega
  | _ + 1, 0, _, _, _, a, h0, h1, _, h3 => by omega
  | f1 + 1, f2 + 1, tu, br, cn, a, h0, h1, h2, h3 => by
    have ih : ∀ tu br cn b : Int, a < b → b ≤ nn → x_q t nn s f1 tu br cn b = x_q t nn s f2 tu br cn b := fun tu br cn b hb hn => x_q_f f1 f2 tu br cn b (by omega) hn (by omega) (by omega)
    rw [x_q, x_q, x_q0_c ih h0 h1, x_q1_c ih h0 h1]
theorem x_qq_0 {br cn a : Int} (h0 : 0 ≤ a) (h1 : a ≤ nn) : x_qq t nn s 0 br cn a = x_q0 t nn s br cn a (x_qq t nn s) := by
  unfold x_qq
  rw [show (nn + 1 - a).toNat = (nn - a).toNat + 1 by omega, x_q, if_pos rfl]
  exact x_q0_c (fun tu br cn b hb hn => x_q_f _ _ tu br cn b (by omega) hn (by omega) (Nat.le_refl _)) h0 h1
theorem x_qq_1 {br cn a : Int} (h0 : 0 ≤ a) (h1 : a ≤ nn) : x_qq t nn s 1 br cn a = x_q1 t nn br cn a (x_qq t nn s) := by
  unfold x_qq
  rw [show (nn + 1 - a).toNat = (nn - a).toNat + 1 by omega, x_q, if_neg (by decide)]
  exact x_q1_c (fun tu br cn b hb hn => x_q_f _ _ tu br cn b (by omega) hn (by omega) (Nat.le_refl _)) h0 h1
section STEPS
variable {br cn a : Int}
theorem q_lp (h0 : 0 ≤ a) (h1 : a ≤ nn) (h : x_kind t nn a = 4 ∧ x_val t nn a = 40) (hb : ¬ br = 8) : x_qq t nn s 0 br cn a = x_qq t nn s 0 (br + 1) cn (x_ns t nn a) := by
  rw [x_qq_0 h0 h1]; unfold x_q0; rw [if_pos h, if_neg hb]
theorem q_lpx (h0 : 0 ≤ a) (h1 : a ≤ nn) (h : x_kind t nn a = 4 ∧ x_val t nn a = 40) (hb : br = 8) : x_qq t nn s 0 br cn a = .inl (2, a) := by
  rw [x_qq_0 h0 h1]; unfold x_q0; rw [if_pos h, if_pos hb]
theorem q_no (h0 : 0 ≤ a) (h1 : a ≤ nn) (h : x_kind t nn a = 1 ∧ x_kx (x_val t nn a) = 14) (hc : ¬ cn = 40) : x_qq t nn s 0 br cn a = x_qq t nn s 0 br (cn + 1) (x_ns t nn a) := by
  rw [x_qq_0 h0 h1]; unfold x_q0; rw [if_neg (by omega), if_pos h, if_neg hc]
theorem q_nox (h0 : 0 ≤ a) (h1 : a ≤ nn) (h : x_kind t nn a = 1 ∧ x_kx (x_val t nn a) = 14) (hc : cn = 40) : x_qq t nn s 0 br cn a = .inl (2, a) := by
  rw [x_qq_0 h0 h1]; unfold x_q0; rw [if_neg (by omega), if_pos h, if_pos hc]
theorem q_nm (h0 : 0 ≤ a) (h1 : a ≤ nn) (h : x_kind t nn a = 2) (hc : ¬ cn = 40) : x_qq t nn s 0 br cn a = x_qn t nn s a (x_qq t nn s 1 br (cn + 1) (x_ns t nn (x_ns t nn (x_ns t nn a)))) (x_qq t nn s 1 br (cn + 1) (x_ns t nn a)) := by
  rw [x_qq_0 h0 h1]; unfold x_q0; rw [if_neg (by omega), if_neg (by omega), if_pos h, if_neg hc]
theorem q_nmx (h0 : 0 ≤ a) (h1 : a ≤ nn) (h : x_kind t nn a = 2) (hc : cn = 40) : x_qq t nn s 0 br cn a = .inl (2, a) := by
  rw [x_qq_0 h0 h1]; unfold x_q0; rw [if_neg (by omega), if_neg (by omega), if_pos h, if_pos hc]
theorem q_0x (h0 : 0 ≤ a) (h1 : a ≤ nn) (h : ¬ (x_kind t nn a = 4 ∧ x_val t nn a = 40)) (h2 : ¬ (x_kind t nn a = 1 ∧ x_kx (x_val t nn a) = 14)) (h3 : ¬ x_kind t nn a = 2) : x_qq t nn s 0 br cn a = .inl (1, a) := by
  rw [x_qq_0 h0 h1]; unfold x_q0; rw [if_neg h, if_neg h2, if_neg h3]
theorem q_end (h0 : 0 ≤ a) (h1 : a ≤ nn) (h : x_kind t nn a = 0) (hb : br = 0) : x_qq t nn s 1 br cn a = .inr cn := by
  rw [x_qq_1 h0 h1]; unfold x_q1; rw [if_pos ⟨h, hb⟩]
theorem q_ao (h0 : 0 ≤ a) (h1 : a ≤ nn) (h : x_kind t nn a = 1) (h2 : x_kx (x_val t nn a) = 12 ∨ x_kx (x_val t nn a) = 13) (hc : ¬ cn = 40) : x_qq t nn s 1 br cn a = x_qq t nn s 0 br (cn + 1) (x_ns t nn a) := by
  rw [x_qq_1 h0 h1]; unfold x_q1; rw [if_neg (by omega), if_pos ⟨h, h2⟩, if_neg hc]
theorem q_aox (h0 : 0 ≤ a) (h1 : a ≤ nn) (h : x_kind t nn a = 1) (h2 : x_kx (x_val t nn a) = 12 ∨ x_kx (x_val t nn a) = 13) (hc : cn = 40) : x_qq t nn s 1 br cn a = .inl (2, a) := by
  rw [x_qq_1 h0 h1]; unfold x_q1; rw [if_neg (by omega), if_pos ⟨h, h2⟩, if_pos hc]
theorem q_rp (h0 : 0 ≤ a) (h1 : a ≤ nn) (h : x_kind t nn a = 4 ∧ x_val t nn a = 41) (hb : 0 < br) : x_qq t nn s 1 br cn a = x_qq t nn s 1 (br - 1) cn (x_ns t nn a) := by
  rw [x_qq_1 h0 h1]; unfold x_q1; rw [if_neg (by omega), if_neg (by omega), if_pos ⟨h.1, h.2, hb⟩]
theorem q_1x (h0 : 0 ≤ a) (h1 : a ≤ nn) (h : ¬ (x_kind t nn a = 0 ∧ br = 0)) (h2 : ¬ (x_kind t nn a = 1 ∧ (x_kx (x_val t nn a) = 12 ∨ x_kx (x_val t nn a) = 13))) (h3 : ¬ (x_kind t nn a = 4 ∧ x_val t nn a = 41 ∧ 0 < br)) : x_qq t nn s 1 br cn a = .inl (1, a) := by
  rw [x_qq_1 h0 h1]; unfold x_q1; rw [if_neg h, if_neg h2, if_neg h3]
variable {k1 k2 : x_QR}
theorem qn_w (h : ¬ (x_kind t nn (x_ns t nn a) = 4 ∧ x_val t nn (x_ns t nn a) = 61)) (h2 : 0 ≤ x_fn s 6 (x_val t nn a)) : x_qn t nn s a k1 k2 = k2 := by
  unfold x_qn; rw [if_neg h, if_pos h2]
theorem qn_wx (h : ¬ (x_kind t nn (x_ns t nn a) = 4 ∧ x_val t nn (x_ns t nn a) = 61)) (h2 : ¬ 0 ≤ x_fn s 6 (x_val t nn a)) : x_qn t nn s a k1 k2 = .inl (4, a) := by
  unfold x_qn; rw [if_neg h, if_neg h2]
theorem qn_vx (h : x_kind t nn (x_ns t nn a) = 4 ∧ x_val t nn (x_ns t nn a) = 61) (h2 : ¬ (0 ≤ x_fn s 1 (x_val t nn a) ∧ ¬ x_row s 2 (x_fn s 1 (x_val t nn a)) = 3)) : x_qn t nn s a k1 k2 = .inl (4, a) := by
  unfold x_qn; rw [if_pos h, if_neg h2]
theorem qn_v (h : x_kind t nn (x_ns t nn a) = 4 ∧ x_val t nn (x_ns t nn a) = 61) (h2 : 0 ≤ x_fn s 1 (x_val t nn a) ∧ ¬ x_row s 2 (x_fn s 1 (x_val t nn a)) = 3) (h3 : x_kind t nn (x_ns t nn (x_ns t nn a)) = 3) (h4 : x_val t nn (x_ns t nn (x_ns t nn a)) ≤ x_row s 5 (x_fn s 1 (x_val t nn a)) - 1) : x_qn t nn s a k1 k2 = k1 := by
  unfold x_qn; rw [if_pos h, if_pos h2]; unfold x_qv; rw [if_pos h3, if_pos h4]
theorem qn_v2 (h : x_kind t nn (x_ns t nn a) = 4 ∧ x_val t nn (x_ns t nn a) = 61) (h2 : 0 ≤ x_fn s 1 (x_val t nn a) ∧ ¬ x_row s 2 (x_fn s 1 (x_val t nn a)) = 3) (h3 : x_kind t nn (x_ns t nn (x_ns t nn a)) = 3) (h4 : ¬ x_val t nn (x_ns t nn (x_ns t nn a)) ≤ x_row s 5 (x_fn s 1 (x_val t nn a)) - 1) : x_qn t nn s a k1 k2 = .inl (2, x_ns t nn (x_ns t nn a)) := by
  unfold x_qn; rw [if_pos h, if_pos h2]; unfold x_qv; rw [if_pos h3, if_neg h4]
theorem qn_v1 (h : x_kind t nn (x_ns t nn a) = 4 ∧ x_val t nn (x_ns t nn a) = 61) (h2 : 0 ≤ x_fn s 1 (x_val t nn a) ∧ ¬ x_row s 2 (x_fn s 1 (x_val t nn a)) = 3) (h3 : ¬ x_kind t nn (x_ns t nn (x_ns t nn a)) = 3) : x_qn t nn s a k1 k2 = .inl (1, x_ns t nn (x_ns t nn a)) := by
  unfold x_qn; rw [if_pos h, if_pos h2]; unfold x_qv; rw [if_neg h3]
end STEPS
end XQL
theorem inl_e {R : x_QR} {x y x2 y2 : Int} (h1 : x = x2) (h2 : y = y2) (H : R = .inl (x2, y2)) : R = .inl (x, y) := by rw [h1, h2]; exact H
theorem q_v {t : Nat → Int} {nn : Int} {s : x_S} {tu br cn a br2 cn2 a2 : Int} (h0 : br = br2) (h1 : cn = cn2) (h2 : a = a2) : x_qq t nn s tu br cn a = x_qq t nn s tu br2 cn2 a2 := by rw [h0, h1, h2]
theorem x_kx_q (v : Int) : (x_kx v = 12 ↔ v = 48365568) ∧ (x_kx v = 13 ↔ v = 522190848) ∧ (x_kx v = 14 ↔ v = 486146048) := by
  refine ⟨⟨fun h => ?_, fun h => by rw [h]; rfl⟩, ⟨fun h => ?_, fun h => by rw [h]; rfl⟩, ⟨fun h => ?_, fun h => by rw [h]; rfl⟩⟩
  · rcases x_kx_c h (by decide) with z | z | z | z | z | z | z | z | z | z | z | z | z | z | z <;> omega
  · rcases x_kx_c h (by decide) with z | z | z | z | z | z | z | z | z | z | z | z | z | z | z <;> omega
  · rcases x_kx_c h (by decide) with z | z | z | z | z | z | z | z | z | z | z | z | z | z | z <;> omega
