abbrev md_w30 (a i : Nat) : Prop := a = 1 ∧ 6 ≤ i ∧ i ≤ 11 ∨ a = 30
abbrev md_w31 (a i : Nat) : Prop := a = 1 ∧ 6 ≤ i ∧ i ≤ 11 ∨ a = 31
abbrev md_w32 (a i : Nat) : Prop := a = 1 ∧ 6 ≤ i ∧ i ≤ 11 ∨ a = 32
abbrev md_w103 (a i : Nat) : Prop := a = 1 ∧ 6 ≤ i ∧ i ≤ 11 ∨ a = 33
abbrev md_w101 (a i : Nat) : Prop := a = 1 ∧ 6 ≤ i ∧ i ≤ 11 ∨ 30 ≤ a ∧ a ≤ 33
abbrev md_w100 (a i : Nat) : Prop := a = 1 ∧ 6 ≤ i ∧ i ≤ 11 ∨ 28 ≤ a ∧ a ≤ 35
/-! a question: one reader. tu 0: a part is wanted, 1: a sign; br brackets open, cn knots so far -/
abbrev x_QR := (Int × Int) ⊕ Int
section XQ
variable (t : Nat → Int) (nn : Int) (s : x_S)
noncomputable def x_qv (a b : Int) (k : x_QR) : x_QR := if x_kind t nn b = 3 then (if x_val t nn b ≤ x_row s 5 (x_fn s 1 (x_val t nn a)) - 1 then k else .inl (2, b)) else .inl (1, b)
noncomputable def x_qn (a : Int) (k1 k2 : x_QR) : x_QR :=
  if x_kind t nn (x_ns t nn a) = 4 ∧ x_val t nn (x_ns t nn a) = 61 then (if 0 ≤ x_fn s 1 (x_val t nn a) ∧ ¬ x_row s 2 (x_fn s 1 (x_val t nn a)) = 3 then x_qv t nn s a (x_ns t nn (x_ns t nn a)) k1 else .inl (4, a))
  else (if 0 ≤ x_fn s 6 (x_val t nn a) then k2 else .inl (4, a))
noncomputable def x_q0 (br cn a : Int) (f : Int → Int → Int → Int → x_QR) : x_QR :=
  if x_kind t nn a = 4 ∧ x_val t nn a = 40 then (if br = 8 then .inl (2, a) else f 0 (br + 1) cn (x_ns t nn a))
  else if x_kind t nn a = 1 ∧ x_kx (x_val t nn a) = 14 then (if cn = 40 then .inl (2, a) else f 0 br (cn + 1) (x_ns t nn a))
  else if x_kind t nn a = 2 then (if cn = 40 then .inl (2, a) else x_qn t nn s a (f 1 br (cn + 1) (x_ns t nn (x_ns t nn (x_ns t nn a)))) (f 1 br (cn + 1) (x_ns t nn a)))
  else .inl (1, a)
noncomputable def x_q1 (br cn a : Int) (f : Int → Int → Int → Int → x_QR) : x_QR :=
  if x_kind t nn a = 0 ∧ br = 0 then .inr cn
  else if x_kind t nn a = 1 ∧ (x_kx (x_val t nn a) = 12 ∨ x_kx (x_val t nn a) = 13) then (if cn = 40 then .inl (2, a) else f 0 br (cn + 1) (x_ns t nn a))
  else if x_kind t nn a = 4 ∧ x_val t nn a = 41 ∧ 0 < br then f 1 (br - 1) cn (x_ns t nn a)
  else .inl (1, a)
noncomputable def x_q : Nat → Int → Int → Int → Int → x_QR
  | 0, _, _, _, _ => .inl (0, 0)
  | fu + 1, tu, br, cn, a => if tu = 0 then x_q0 t nn s br cn a (x_q fu) else x_q1 t nn br cn a (x_q fu)
noncomputable def x_qq (tu br cn a : Int) : x_QR := x_q t nn s (nn + 1 - a).toNat tu br cn a
end XQ
section XQL
variable {t : Nat → Int} {nn : Int} {s : x_S}
theorem x_ns_lt {a : Int} (h0 : 0 ≤ a) (h1 : a < nn) : a < x_ns t nn a ∧ x_ns t nn a ≤ nn := by
  have h2 := x_nx_b (t := t) (n := nn) (a := a) h0 (by omega)
  have h3 := x_le (P := x_bl) (t := t) (n := nn) (x := x_nx t nn a) (by omega) (by omega)
  unfold x_ns x_sk
  omega
theorem x_q0_c {br cn a : Int} {f g : Int → Int → Int → Int → x_QR} (h : ∀ tu br cn b : Int, a < b → b ≤ nn → f tu br cn b = g tu br cn b) (h0 : 0 ≤ a) (h1 : a ≤ nn) : x_q0 t nn s br cn a f = x_q0 t nn s br cn a g := by
  by_cases e : a < nn
  · have b1 := x_ns_lt (t := t) h0 e
    have b2 := x_ns_b (t := t) (n := nn) (a := x_ns t nn a) (by omega) (by omega)
    have b3 := x_ns_b (t := t) (n := nn) (a := x_ns t nn (x_ns t nn a)) (by omega) (by omega)
    unfold x_q0
    rw [h 0 (br + 1) cn (x_ns t nn a) (by omega) (by omega), h 0 br (cn + 1) (x_ns t nn a) (by omega) (by omega), h 1 br (cn + 1) (x_ns t nn a) (by omega) (by omega), h 1 br (cn + 1) (x_ns t nn (x_ns t nn (x_ns t nn a))) (by omega) (by omega)]
  · have k := (x_t0 (t := t) (n := nn) (a := a) (by omega)).1
    unfold x_q0
    rw [if_neg (by omega), if_neg (by omega), if_neg (by omega), if_neg (by omega), if_neg (by omega), if_neg (by omega)]
theorem x_q1_c {br cn a : Int} {f g : Int → Int → Int → Int → x_QR} (h : ∀ tu br cn b : Int, a < b → b ≤ nn → f tu br cn b = g tu br cn b) (h0 : 0 ≤ a) (h1 : a ≤ nn) : x_q1 t nn br cn a f = x_q1 t nn br cn a g := by
  by_cases e : a < nn
  · have b1 := x_ns_lt (t := t) h0 e
    unfold x_q1
    rw [h 0 br (cn + 1) (x_ns t nn a) (by omega) (by omega), h 1 (br - 1) cn (x_ns t nn a) (by omega) (by omega)]
  · have k := (x_t0 (t := t) (n := nn) (a := a) (by omega)).1
    unfold x_q1
    by_cases g0 : x_kind t nn a = 0 ∧ br = 0
    · rw [if_pos g0, if_pos g0]
    · rw [if_neg g0, if_neg g0, if_neg (by omega), if_neg (by omega), if_neg (by omega), if_neg (by omega)]
theorem x_q_f : ∀ (f1 f2 : Nat) (tu br cn a : Int), 0 ≤ a → a ≤ nn → (nn + 1 - a).toNat ≤ f1 → (nn + 1 - a).toNat ≤ f2 → x_q t nn s f1 tu br cn a = x_q t nn s f2 tu br cn a
  | 0, _, _, _, _, a, h0, h1, h2, _ => by omega
  | _ + 1, 0, _, _, _, a, h0, h1, _, h3 => by omega
  | f1 + 1, f2 + 1, tu, br, cn, a, h0, h1, h2, h3 => by
    have ih : ∀ tu br cn b : Int, a < b → b ≤ nn → x_q t nn s f1 tu br cn b = x_q t nn s f2 tu br cn b := fun tu br cn b hb hn => x_q_f f1 f2 tu br cn b (by omega) hn (by omega) (by omega)
    rw [x_q, x_q, x_q0_c ih h0 h1, x_q1_c ih h0 h1]
theorem x_qq_0 {br cn a : Int} (h0 : 0 ≤ a) (h1 : a ≤ nn) : x_qq t nn s 0 br cn a = x_q0 t nn s br cn a (x_qq t nn s) := by
  unfold x_qq
  rw [show (nn + 1 - a).toNat = (nn - a).toNat + 1 by omega, x_q, if_pos rfl]
  exact x_q0_c (fun tu br cn b hb hn => x_q_f _ _ tu br cn b (by omega) hn (by omega) (Nat.le_refl _)) h0 h1
theorem x_qq_1 {br cn a : Int} (h0 : 0 ≤ a) (h1 : a ≤ nn) : x_qq t nn s 1 br cn a = x_q1 t nn br cn a (x_qq t nn s) := by
  unfold x_qq
  rw [show (nn + 1 - a).toNat = (nn - a).toNat + 1 by omega, x_q, if_neg (by decide)]
  exact x_q1_c (fun tu br cn b hb hn => x_q_f _ _ tu br cn b (by omega) hn (by omega) (Nat.le_refl _)) h0 h1
section STEPS
variable {br cn a : Int}
theorem q_lp (h0 : 0 ≤ a) (h1 : a ≤ nn) (h : x_kind t nn a = 4 ∧ x_val t nn a = 40) (hb : ¬ br = 8) : x_qq t nn s 0 br cn a = x_qq t nn s 0 (br + 1) cn (x_ns t nn a) := by
  rw [x_qq_0 h0 h1]; unfold x_q0; rw [if_pos h, if_neg hb]
theorem q_lpx (h0 : 0 ≤ a) (h1 : a ≤ nn) (h : x_kind t nn a = 4 ∧ x_val t nn a = 40) (hb : br = 8) : x_qq t nn s 0 br cn a = .inl (2, a) := by
  rw [x_qq_0 h0 h1]; unfold x_q0; rw [if_pos h, if_pos hb]
theorem q_no (h0 : 0 ≤ a) (h1 : a ≤ nn) (h : x_kind t nn a = 1 ∧ x_kx (x_val t nn a) = 14) (hc : ¬ cn = 40) : x_qq t nn s 0 br cn a = x_qq t nn s 0 br (cn + 1) (x_ns t nn a) := by
  rw [x_qq_0 h0 h1]; unfold x_q0; rw [if_neg (by omega), if_pos h, if_neg hc]
theorem q_nox (h0 : 0 ≤ a) (h1 : a ≤ nn) (h : x_kind t nn a = 1 ∧ x_kx (x_val t nn a) = 14) (hc : cn = 40) : x_qq t nn s 0 br cn a = .inl (2, a) := by
  rw [x_qq_0 h0 h1]; unfold x_q0; rw [if_neg (by omega), if_pos h, if_pos hc]
theorem q_nm (h0 : 0 ≤ a) (h1 : a ≤ nn) (h : x_kind t nn a = 2) (hc : ¬ cn = 40) : x_qq t nn s 0 br cn a = x_qn t nn s a (x_qq t nn s 1 br (cn + 1) (x_ns t nn (x_ns t nn (x_ns t nn a)))) (x_qq t nn s 1 br (cn + 1) (x_ns t nn a)) := by
  rw [x_qq_0 h0 h1]; unfold x_q0; rw [if_neg (by omega), if_neg (by omega), if_pos h, if_neg hc]
theorem q_nmx (h0 : 0 ≤ a) (h1 : a ≤ nn) (h : x_kind t nn a = 2) (hc : cn = 40) : x_qq t nn s 0 br cn a = .inl (2, a) := by
  rw [x_qq_0 h0 h1]; unfold x_q0; rw [if_neg (by omega), if_neg (by omega), if_pos h, if_pos hc]
theorem q_0x (h0 : 0 ≤ a) (h1 : a ≤ nn) (h : ¬ (x_kind t nn a = 4 ∧ x_val t nn a = 40)) (h2 : ¬ (x_kind t nn a = 1 ∧ x_kx (x_val t nn a) = 14)) (h3 : ¬ x_kind t nn a = 2) : x_qq t nn s 0 br cn a = .inl (1, a) := by
  rw [x_qq_0 h0 h1]; unfold x_q0; rw [if_neg h, if_neg h2, if_neg h3]
theorem q_end (h0 : 0 ≤ a) (h1 : a ≤ nn) (h : x_kind t nn a = 0) (hb : br = 0) : x_qq t nn s 1 br cn a = .inr cn := by
  rw [x_qq_1 h0 h1]; unfold x_q1; rw [if_pos ⟨h, hb⟩]
theorem q_ao (h0 : 0 ≤ a) (h1 : a ≤ nn) (h : x_kind t nn a = 1) (h2 : x_kx (x_val t nn a) = 12 ∨ x_kx (x_val t nn a) = 13) (hc : ¬ cn = 40) : x_qq t nn s 1 br cn a = x_qq t nn s 0 br (cn + 1) (x_ns t nn a) := by
  rw [x_qq_1 h0 h1]; unfold x_q1; rw [if_neg (by omega), if_pos ⟨h, h2⟩, if_neg hc]
theorem q_aox (h0 : 0 ≤ a) (h1 : a ≤ nn) (h : x_kind t nn a = 1) (h2 : x_kx (x_val t nn a) = 12 ∨ x_kx (x_val t nn a) = 13) (hc : cn = 40) : x_qq t nn s 1 br cn a = .inl (2, a) := by
  rw [x_qq_1 h0 h1]; unfold x_q1; rw [if_neg (by omega), if_pos ⟨h, h2⟩, if_pos hc]
theorem q_rp (h0 : 0 ≤ a) (h1 : a ≤ nn) (h : x_kind t nn a = 4 ∧ x_val t nn a = 41) (hb : 0 < br) : x_qq t nn s 1 br cn a = x_qq t nn s 1 (br - 1) cn (x_ns t nn a) := by
  rw [x_qq_1 h0 h1]; unfold x_q1; rw [if_neg (by omega), if_neg (by omega), if_pos ⟨h.1, h.2, hb⟩]
theorem q_1x (h0 : 0 ≤ a) (h1 : a ≤ nn) (h : ¬ (x_kind t nn a = 0 ∧ br = 0)) (h2 : ¬ (x_kind t nn a = 1 ∧ (x_kx (x_val t nn a) = 12 ∨ x_kx (x_val t nn a) = 13))) (h3 : ¬ (x_kind t nn a = 4 ∧ x_val t nn a = 41 ∧ 0 < br)) : x_qq t nn s 1 br cn a = .inl (1, a) := by
  rw [x_qq_1 h0 h1]; unfold x_q1; rw [if_neg h, if_neg h2, if_neg h3]
variable {k1 k2 : x_QR}
theorem qn_w (h : ¬ (x_kind t nn (x_ns t nn a) = 4 ∧ x_val t nn (x_ns t nn a) = 61)) (h2 : 0 ≤ x_fn s 6 (x_val t nn a)) : x_qn t nn s a k1 k2 = k2 := by
  unfold x_qn; rw [if_neg h, if_pos h2]
theorem qn_wx (h : ¬ (x_kind t nn (x_ns t nn a) = 4 ∧ x_val t nn (x_ns t nn a) = 61)) (h2 : ¬ 0 ≤ x_fn s 6 (x_val t nn a)) : x_qn t nn s a k1 k2 = .inl (4, a) := by
  unfold x_qn; rw [if_neg h, if_neg h2]
theorem qn_vx (h : x_kind t nn (x_ns t nn a) = 4 ∧ x_val t nn (x_ns t nn a) = 61) (h2 : ¬ (0 ≤ x_fn s 1 (x_val t nn a) ∧ ¬ x_row s 2 (x_fn s 1 (x_val t nn a)) = 3)) : x_qn t nn s a k1 k2 = .inl (4, a) := by
  unfold x_qn; rw [if_pos h, if_neg h2]
theorem qn_v (h : x_kind t nn (x_ns t nn a) = 4 ∧ x_val t nn (x_ns t nn a) = 61) (h2 : 0 ≤ x_fn s 1 (x_val t nn a) ∧ ¬ x_row s 2 (x_fn s 1 (x_val t nn a)) = 3) (h3 : x_kind t nn (x_ns t nn (x_ns t nn a)) = 3) (h4 : x_val t nn (x_ns t nn (x_ns t nn a)) ≤ x_row s 5 (x_fn s 1 (x_val t nn a)) - 1) : x_qn t nn s a k1 k2 = k1 := by
  unfold x_qn; rw [if_pos h, if_pos h2]; unfold x_qv; rw [if_pos h3, if_pos h4]
theorem qn_v2 (h : x_kind t nn (x_ns t nn a) = 4 ∧ x_val t nn (x_ns t nn a) = 61) (h2 : 0 ≤ x_fn s 1 (x_val t nn a) ∧ ¬ x_row s 2 (x_fn s 1 (x_val t nn a)) = 3) (h3 : x_kind t nn (x_ns t nn (x_ns t nn a)) = 3) (h4 : ¬ x_val t nn (x_ns t nn (x_ns t nn a)) ≤ x_row s 5 (x_fn s 1 (x_val t nn a)) - 1) : x_qn t nn s a k1 k2 = .inl (2, x_ns t nn (x_ns t nn a)) := by
  unfold x_qn; rw [if_pos h, if_pos h2]; unfold x_qv; rw [if_pos h3, if_neg h4]
theorem qn_v1 (h : x_kind t nn (x_ns t nn a) = 4 ∧ x_val t nn (x_ns t nn a) = 61) (h2 : 0 ≤ x_fn s 1 (x_val t nn a) ∧ ¬ x_row s 2 (x_fn s 1 (x_val t nn a)) = 3) (h3 : ¬ x_kind t nn (x_ns t nn (x_ns t nn a)) = 3) : x_qn t nn s a k1 k2 = .inl (1, x_ns t nn (x_ns t nn a)) := by
  unfold x_qn; rw [if_pos h, if_pos h2]; unfold x_qv; rw [if_neg h3]
end STEPS
end XQL
theorem inl_e {R : x_QR} {x y x2 y2 : Int} (h1 : x = x2) (h2 : y = y2) (H : R = .inl (x2, y2)) : R = .inl (x, y) := by rw [h1, h2]; exact H
theorem q_v {t : Nat → Int} {nn : Int} {s : x_S} {tu br cn a br2 cn2 a2 : Int} (h0 : br = br2) (h1 : cn = cn2) (h2 : a = a2) : x_qq t nn s tu br cn a = x_qq t nn s tu br2 cn2 a2 := by rw [h0, h1, h2]
theorem x_kx_q (v : Int) : (x_kx v = 12 ↔ v = 48365568) ∧ (x_kx v = 13 ↔ v = 522190848) ∧ (x_kx v = 14 ↔ v = 486146048) := by
  refine ⟨⟨fun h => ?_, fun h => by rw [h]; rfl⟩, ⟨fun h => ?_, fun h => by rw [h]; rfl⟩, ⟨fun h => ?_, fun h => by rw [h]; rfl⟩⟩
  · rcases x_kx_c h (by decide) with z | z | z | z | z | z | z | z | z | z | z | z | z | z | z <;> omega
  · rcases x_kx_c h (by decide) with z | z | z | z | z | z | z | z | z | z | z | z | z | z | z <;> omega
  · rcases x_kx_c h (by decide) with z | z | z | z | z | z | z | z | z | z | z | z | z | z | z <;> omega
/-! a text of work: one reader. tu 0: a step, a closing bracket or the end is wanted, 1: a needle or ';'; n steps so far, op the steps that are open, A kinds (0 pass, 1 join, 2 again), times and ends -/
abbrev x_A := (Nat → Int) × (Nat → Int) × (Nat → Int)
abbrev x_WR := (Int × Int) ⊕ (Int × x_A)
noncomputable def x_k1 (A : x_A) (n k : Int) : x_A := (x_upZ A.1 n.toNat k, A.2.1, x_upZ A.2.2 n.toNat (n + 1))
noncomputable def x_kt (A : x_A) (n tm : Int) : x_A := (x_upZ A.1 n.toNat 2, x_upZ A.2.1 n.toNat tm, A.2.2)
noncomputable def x_ke (A : x_A) (o n : Int) : x_A := (A.1, A.2.1, x_upZ A.2.2 o.toNat n)
section XWK
variable (t : Nat → Int) (nn : Int) (s : x_S)
noncomputable def x_kp (a : Int) : Int := if x_kind t nn a = 2 ∧ x_val t nn a % 33554432 = 0 ∧ 1 ≤ x_val t nn a / 33554432 ∧ x_val t nn a / 33554432 ≤ 6 then x_val t nn a / 33554432 - 1 else -1
noncomputable def x_wp (a : Int) (k : Int → x_WR) : x_WR := if 0 ≤ x_kp t nn a then k (x_ns t nn a) else .inl (1, a)
noncomputable def x_wy2 (c a : Int) (k : Int → x_WR) : x_WR := if x_kind t nn a = 1 ∧ x_kx (x_val t nn a) = c then k (x_ns t nn a) else .inl (1, a)
noncomputable def x_wsg (c a : Int) (k : Int → x_WR) : x_WR := if x_kind t nn a = 4 ∧ x_val t nn a = c then k (x_ns t nn a) else .inl (1, a)
noncomputable def x_wnb (m a : Int) (k : Int → x_WR) : x_WR := if x_kind t nn a = 3 then (if x_val t nn a ≤ m then k (x_ns t nn a) else .inl (2, a)) else .inl (1, a)
noncomputable def x_wnd (a : Int) (k : Int → x_WR) : x_WR :=
  if x_kind t nn a = 2 then (if 0 ≤ x_fn s 6 (x_val t nn a) then k (x_ns t nn a)
    else if 0 ≤ x_fn s 1 (x_val t nn a) then x_wnb t nn (x_row s 4 (x_fn s 1 (x_val t nn a)) - x_row s 3 (x_fn s 1 (x_val t nn a))) (x_ns t nn a) k else .inl (4, a))
  else x_wnb t nn (s.1 - 1) a k
noncomputable def x_wps (a : Int) (k : Int → x_WR) : x_WR := x_wp t nn a (fun b => x_wy2 t nn 8 b (fun c => x_wp t nn c (fun d => x_wp t nn d (fun e => x_wy2 t nn 9 e (fun g => x_wnd t nn s g k)))))
noncomputable def x_wjn (a : Int) (k : Int → x_WR) : x_WR := x_wp t nn a (fun b => if 0 ≤ x_kp t nn b then (if x_kp t nn b = x_kp t nn a then .inl (3, b) else x_wsg t nn 59 (x_ns t nn b) k) else .inl (1, b))
noncomputable def x_wag (dp a : Int) (k : Int → Int → x_WR) : x_WR := x_wnb t nn 99 a (fun b => if x_kind t nn b = 4 ∧ x_val t nn b = 40 then (if dp = 5 then .inl (2, b) else k (x_val t nn a) (x_ns t nn b)) else .inl (1, b))
noncomputable def x_w0 (n : Int) (op : List Int) (A : x_A) (a : Int) (f : Int → Int → List Int → x_A → Int → x_WR) : x_WR :=
  if x_kind t nn a = 1 then
    (if x_kx (x_val t nn a) = 7 then (if n = 40 then .inl (2, a) else x_wps t nn s (x_ns t nn a) (f 1 (n + 1) op (x_k1 A n 0)))
    else if x_kx (x_val t nn a) = 10 then (if n = 40 then .inl (2, a) else x_wjn t nn (x_ns t nn a) (f 0 (n + 1) op (x_k1 A n 1)))
    else if x_kx (x_val t nn a) = 11 then (if n = 40 then .inl (2, a) else x_wag t nn op.length (x_ns t nn a) (fun tm => f 0 (n + 1) (n :: op) (x_kt A n tm)))
    else .inl (1, a))
  else match op with
    | [] => if x_kind t nn a = 0 then .inr (n, A) else .inl (1, a)
    | o :: os => x_wsg t nn 41 a (f 0 n os (x_ke A o n))
noncomputable def x_w1 (n : Int) (op : List Int) (A : x_A) (a : Int) (f : Int → Int → List Int → x_A → Int → x_WR) : x_WR :=
  if x_kind t nn a = 2 ∨ x_kind t nn a = 3 then x_wnd t nn s a (f 1 n op A) else x_wsg t nn 59 a (f 0 n op A)
noncomputable def x_wm : Nat → Int → Int → List Int → x_A → Int → x_WR
  | 0, _, _, _, _, _ => .inl (0, 0)
  | fu + 1, tu, n, op, A, a => if tu = 0 then x_w0 t nn s n op A a (x_wm fu) else x_w1 t nn s n op A a (x_wm fu)
noncomputable def x_ww (tu n : Int) (op : List Int) (A : x_A) (a : Int) : x_WR := x_wm t nn s (nn + 1 - a).toNat tu n op A a
end XWK
section XWL
variable {t : Nat → Int} {nn : Int} {s : x_S}
theorem x_lt_k {a : Int} (h1 : a ≤ nn) (h : ¬ x_kind t nn a = 0) : a < nn := by
  by_cases e : a < nn
  · exact e
  · exact absurd (x_t0 (t := t) (n := nn) (a := a) (by omega)).1 h
section XC
variable {a : Int} {k k2 : Int → x_WR}
theorem x_wp_c (h : ∀ b : Int, a < b → b ≤ nn → k b = k2 b) (h0 : 0 ≤ a) (h1 : a ≤ nn) : x_wp t nn a k = x_wp t nn a k2 := by
  unfold x_wp
  by_cases g : 0 ≤ x_kp t nn a
  · rw [if_pos g, if_pos g]
    have z : ¬ x_kind t nn a = 0 := fun z => by
      unfold x_kp at g
      rw [if_neg (by omega)] at g
      omega
    have b := x_ns_lt (t := t) h0 (x_lt_k (t := t) h1 z)
    exact h _ b.1 b.2
  · rw [if_neg g, if_neg g]
theorem x_wy2_c {c : Int} (h : ∀ b : Int, a < b → b ≤ nn → k b = k2 b) (h0 : 0 ≤ a) (h1 : a ≤ nn) : x_wy2 t nn c a k = x_wy2 t nn c a k2 := by
  unfold x_wy2
  by_cases g : x_kind t nn a = 1 ∧ x_kx (x_val t nn a) = c
  · rw [if_pos g, if_pos g]
    have b := x_ns_lt (t := t) h0 (x_lt_k (t := t) h1 (by omega))
    exact h _ b.1 b.2
  · rw [if_neg g, if_neg g]
theorem x_wsg_c {c : Int} (h : ∀ b : Int, a < b → b ≤ nn → k b = k2 b) (h0 : 0 ≤ a) (h1 : a ≤ nn) : x_wsg t nn c a k = x_wsg t nn c a k2 := by
  unfold x_wsg
  by_cases g : x_kind t nn a = 4 ∧ x_val t nn a = c
  · rw [if_pos g, if_pos g]
    have b := x_ns_lt (t := t) h0 (x_lt_k (t := t) h1 (by omega))
    exact h _ b.1 b.2
  · rw [if_neg g, if_neg g]
theorem x_wnb_c {m : Int} (h : ∀ b : Int, a < b → b ≤ nn → k b = k2 b) (h0 : 0 ≤ a) (h1 : a ≤ nn) : x_wnb t nn m a k = x_wnb t nn m a k2 := by
  unfold x_wnb
  by_cases g : x_kind t nn a = 3
  · rw [if_pos g, if_pos g]
    have b := x_ns_lt (t := t) h0 (x_lt_k (t := t) h1 (by omega))
    rw [h _ b.1 b.2]
  · rw [if_neg g, if_neg g]
theorem x_wnd_c (h : ∀ b : Int, a < b → b ≤ nn → k b = k2 b) (h0 : 0 ≤ a) (h1 : a ≤ nn) : x_wnd t nn s a k = x_wnd t nn s a k2 := by
  unfold x_wnd
  by_cases g : x_kind t nn a = 2
  · rw [if_pos g, if_pos g]
    have b := x_ns_lt (t := t) h0 (x_lt_k (t := t) h1 (by omega))
    rw [h _ b.1 b.2, x_wnb_c (fun c hc hn => h c (by omega) hn) (by omega) b.2]
  · rw [if_neg g, if_neg g]
    exact x_wnb_c h h0 h1
theorem x_wps_c (h : ∀ b : Int, a < b → b ≤ nn → k b = k2 b) (h0 : 0 ≤ a) (h1 : a ≤ nn) : x_wps t nn s a k = x_wps t nn s a k2 := by
  unfold x_wps
  exact x_wp_c (fun b hb bn => x_wy2_c (fun c hc cn => x_wp_c (fun d hd dn => x_wp_c (fun e he en => x_wy2_c (fun g hg gn => x_wnd_c (fun y hy yn => h y (by omega) yn) (by omega) gn) (by omega) en) (by omega) dn) (by omega) cn) (by omega) bn) h0 h1
theorem x_wjn_c (h : ∀ b : Int, a < b → b ≤ nn → k b = k2 b) (h0 : 0 ≤ a) (h1 : a ≤ nn) : x_wjn t nn a k = x_wjn t nn a k2 := by
  unfold x_wjn
  refine x_wp_c (fun b hb bn => ?_) h0 h1
  have q := x_ns_b (t := t) (n := nn) (a := b) (by omega) bn
  rw [x_wsg_c (a := x_ns t nn b) (k := k) (k2 := k2) (fun c hc cn => h c (by omega) cn) (by omega) (by omega)]
theorem x_wag_c {dp : Int} {k k2 : Int → Int → x_WR} (h : ∀ tm b : Int, a < b → b ≤ nn → k tm b = k2 tm b) (h0 : 0 ≤ a) (h1 : a ≤ nn) : x_wag t nn dp a k = x_wag t nn dp a k2 := by
  unfold x_wag
  refine x_wnb_c (fun b hb bn => ?_) h0 h1
  have q := x_ns_b (t := t) (n := nn) (a := b) (by omega) bn
  rw [h (x_val t nn a) (x_ns t nn b) (by omega) (by omega)]
end XC
theorem x_w0_c {n : Int} {op : List Int} {A : x_A} {a : Int} {f g : Int → Int → List Int → x_A → Int → x_WR} (h : ∀ (tu n : Int) (op : List Int) (A : x_A) (b : Int), a < b → b ≤ nn → f tu n op A b = g tu n op A b) (h0 : 0 ≤ a) (h1 : a ≤ nn) : x_w0 t nn s n op A a f = x_w0 t nn s n op A a g := by
  unfold x_w0
  by_cases e : x_kind t nn a = 1
  · rw [if_pos e, if_pos e]
    have b := x_ns_lt (t := t) h0 (x_lt_k (t := t) h1 (by omega))
    rw [x_wps_c (fun c hc cn => h 1 (n + 1) op (x_k1 A n 0) c (by omega) cn) (by omega) b.2, x_wjn_c (fun c hc cn => h 0 (n + 1) op (x_k1 A n 1) c (by omega) cn) (by omega) b.2, x_wag_c (fun tm c hc cn => h 0 (n + 1) (n :: op) (x_kt A n tm) c (by omega) cn) (by omega) b.2]
  · rw [if_neg e, if_neg e]
    cases op with
    | nil => rfl
    | cons o os => exact x_wsg_c (fun c hc cn => h 0 n os (x_ke A o n) c hc cn) h0 h1
theorem x_w1_c {n : Int} {op : List Int} {A : x_A} {a : Int} {f g : Int → Int → List Int → x_A → Int → x_WR} (h : ∀ (tu n : Int) (op : List Int) (A : x_A) (b : Int), a < b → b ≤ nn → f tu n op A b = g tu n op A b) (h0 : 0 ≤ a) (h1 : a ≤ nn) : x_w1 t nn s n op A a f = x_w1 t nn s n op A a g := by
  unfold x_w1
  rw [x_wnd_c (fun c hc cn => h 1 n op A c hc cn) h0 h1, x_wsg_c (fun c hc cn => h 0 n op A c hc cn) h0 h1]
theorem x_w_f : ∀ (f1 f2 : Nat) (tu n : Int) (op : List Int) (A : x_A) (a : Int), 0 ≤ a → a ≤ nn → (nn + 1 - a).toNat ≤ f1 → (nn + 1 - a).toNat ≤ f2 → x_wm t nn s f1 tu n op A a = x_wm t nn s f2 tu n op A a
  | 0, _, _, _, _, _, a, h0, h1, h2, _ => by omega
  | _ + 1, 0, _, _, _, _, a, h0, h1, _, h3 => by omega
  | f1 + 1, f2 + 1, tu, n, op, A, a, h0, h1, h2, h3 => by
    have ih : ∀ (tu n : Int) (op : List Int) (A : x_A) (b : Int), a < b → b ≤ nn → x_wm t nn s f1 tu n op A b = x_wm t nn s f2 tu n op A b := fun tu n op A b hb hn => x_w_f f1 f2 tu n op A b (by omega) hn (by omega) (by omega)
    rw [x_wm, x_wm, x_w0_c ih h0 h1, x_w1_c ih h0 h1]
theorem x_ww_0 {n : Int} {op : List Int} {A : x_A} {a : Int} (h0 : 0 ≤ a) (h1 : a ≤ nn) : x_ww t nn s 0 n op A a = x_w0 t nn s n op A a (x_ww t nn s) := by
  unfold x_ww
  rw [show (nn + 1 - a).toNat = (nn - a).toNat + 1 by omega, x_wm, if_pos rfl]
  exact x_w0_c (fun tu n op A b hb hn => x_w_f _ _ tu n op A b (by omega) hn (by omega) (Nat.le_refl _)) h0 h1
theorem x_ww_1 {n : Int} {op : List Int} {A : x_A} {a : Int} (h0 : 0 ≤ a) (h1 : a ≤ nn) : x_ww t nn s 1 n op A a = x_w1 t nn s n op A a (x_ww t nn s) := by
  unfold x_ww
  rw [show (nn + 1 - a).toNat = (nn - a).toNat + 1 by omega, x_wm, if_neg (by decide)]
  exact x_w1_c (fun tu n op A b hb hn => x_w_f _ _ tu n op A b (by omega) hn (by omega) (Nat.le_refl _)) h0 h1
end XWL
