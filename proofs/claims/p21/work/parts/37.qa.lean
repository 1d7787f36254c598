/-! a question with its knots: one reader. W: what waits (0 a bracket, 2 not, 3 and, 4 or), P: knots told so far, and how many -/
abbrev x_GP := x_A × Int
abbrev x_GR := (Int × Int) ⊕ x_GP
noncomputable def x_kn1 (P : x_GP) (k a b : Int) : x_GP := ((x_upZ P.1.1 P.2.toNat k, x_upZ P.1.2.1 P.2.toNat a, x_upZ P.1.2.2 P.2.toNat b), P.2 + 1)
noncomputable def x_wt (k : Int) : Int := if k = 2 then 3 else if k = 3 then 2 else if k = 4 then 1 else 0
noncomputable def x_bd (l : Int) : List Int → x_GP → List Int × x_GP
  | [], P => ([], P)
  | w :: ws, P => if l ≤ x_wt w then x_bd l ws (x_kn1 P w 0 0) else (w :: ws, P)
section XG
variable (t : Nat → Int) (nn : Int) (s : x_S)
noncomputable def x_hv (a b : Int) (k : x_GR) : x_GR := if x_kind t nn b = 3 then (if x_val t nn b ≤ x_row s 5 (x_fn s 1 (x_val t nn a)) - 1 then k else .inl (2, b)) else .inl (1, b)
noncomputable def x_hn (a : Int) (k1 k2 : x_GR) : x_GR :=
  if x_kind t nn (x_ns t nn a) = 4 ∧ x_val t nn (x_ns t nn a) = 61 then (if 0 ≤ x_fn s 1 (x_val t nn a) ∧ ¬ x_row s 2 (x_fn s 1 (x_val t nn a)) = 3 then x_hv t nn s a (x_ns t nn (x_ns t nn a)) k1 else .inl (4, a))
  else (if 0 ≤ x_fn s 6 (x_val t nn a) then k2 else .inl (4, a))
noncomputable def x_lvq (P : x_GP) (a : Int) : x_GP := x_kn1 P 0 (x_fn s 1 (x_val t nn a)) (x_val t nn (x_ns t nn (x_ns t nn a)))
noncomputable def x_lw (P : x_GP) (a : Int) : x_GP := x_kn1 P 1 (x_fn s 6 (x_val t nn a)) 0
noncomputable def x_g0 (br cn : Int) (W : List Int) (P : x_GP) (a : Int) (f : Int → Int → Int → List Int → x_GP → Int → x_GR) : x_GR :=
  if x_kind t nn a = 4 ∧ x_val t nn a = 40 then (if br = 8 then .inl (2, a) else f 0 (br + 1) cn (0 :: W) P (x_ns t nn a))
  else if x_kind t nn a = 1 ∧ x_kx (x_val t nn a) = 14 then (if cn = 40 then .inl (2, a) else f 0 br (cn + 1) (2 :: W) P (x_ns t nn a))
  else if x_kind t nn a = 2 then (if cn = 40 then .inl (2, a) else x_hn t nn s a (f 1 br (cn + 1) W (x_lvq t nn s P a) (x_ns t nn (x_ns t nn (x_ns t nn a)))) (f 1 br (cn + 1) W (x_lw t nn s P a) (x_ns t nn a)))
  else .inl (1, a)
noncomputable def x_g1 (br cn : Int) (W : List Int) (P : x_GP) (a : Int) (f : Int → Int → Int → List Int → x_GP → Int → x_GR) : x_GR :=
  if x_kind t nn a = 0 ∧ br = 0 then .inr (x_bd 1 W P).2
  else if x_kind t nn a = 1 ∧ x_kx (x_val t nn a) = 12 then (if cn = 40 then .inl (2, a) else f 0 br (cn + 1) (3 :: (x_bd 2 W P).1) (x_bd 2 W P).2 (x_ns t nn a))
  else if x_kind t nn a = 1 ∧ x_kx (x_val t nn a) = 13 then (if cn = 40 then .inl (2, a) else f 0 br (cn + 1) (4 :: (x_bd 1 W P).1) (x_bd 1 W P).2 (x_ns t nn a))
  else if x_kind t nn a = 4 ∧ x_val t nn a = 41 ∧ 0 < br then f 1 (br - 1) cn (x_bd 1 W P).1.tail (x_bd 1 W P).2 (x_ns t nn a)
  else .inl (1, a)
noncomputable def x_gm : Nat → Int → Int → Int → List Int → x_GP → Int → x_GR
  | 0, _, _, _, _, _, _ => .inl (0, 0)
  | fu + 1, tu, br, cn, W, P, a => if tu = 0 then x_g0 t nn s br cn W P a (x_gm fu) else x_g1 t nn br cn W P a (x_gm fu)
noncomputable def x_gg (tu br cn : Int) (W : List Int) (P : x_GP) (a : Int) : x_GR := x_gm t nn s (nn + 1 - a).toNat tu br cn W P a
end XG
section XGL
variable {t : Nat → Int} {nn : Int} {s : x_S}
theorem x_g0_c {br cn a : Int} {W : List Int} {P : x_GP} {f g : Int → Int → Int → List Int → x_GP → Int → x_GR} (h : ∀ (tu br cn : Int) (W : List Int) (P : x_GP) (b : Int), a < b → b ≤ nn → f tu br cn W P b = g tu br cn W P b) (h0 : 0 ≤ a) (h1 : a ≤ nn) : x_g0 t nn s br cn W P a f = x_g0 t nn s br cn W P a g := by
  by_cases e : a < nn
  · have b1 := x_ns_lt (t := t) h0 e
    have b2 := x_ns_b (t := t) (n := nn) (a := x_ns t nn a) (by omega) (by omega)
    have b3 := x_ns_b (t := t) (n := nn) (a := x_ns t nn (x_ns t nn a)) (by omega) (by omega)
    unfold x_g0
    rw [h 0 (br + 1) cn (0 :: W) P (x_ns t nn a) (by omega) (by omega), h 0 br (cn + 1) (2 :: W) P (x_ns t nn a) (by omega) (by omega), h 1 br (cn + 1) W (x_lw t nn s P a) (x_ns t nn a) (by omega) (by omega), h 1 br (cn + 1) W (x_lvq t nn s P a) (x_ns t nn (x_ns t nn (x_ns t nn a))) (by omega) (by omega)]
  · have k := (x_t0 (t := t) (n := nn) (a := a) (by omega)).1
    unfold x_g0
    rw [if_neg (by omega), if_neg (by omega), if_neg (by omega), if_neg (by omega), if_neg (by omega), if_neg (by omega)]
theorem x_g1_c {br cn a : Int} {W : List Int} {P : x_GP} {f g : Int → Int → Int → List Int → x_GP → Int → x_GR} (h : ∀ (tu br cn : Int) (W : List Int) (P : x_GP) (b : Int), a < b → b ≤ nn → f tu br cn W P b = g tu br cn W P b) (h0 : 0 ≤ a) (h1 : a ≤ nn) : x_g1 t nn br cn W P a f = x_g1 t nn br cn W P a g := by
  by_cases e : a < nn
  · have b1 := x_ns_lt (t := t) h0 e
    unfold x_g1
    rw [h 0 br (cn + 1) (3 :: (x_bd 2 W P).1) (x_bd 2 W P).2 (x_ns t nn a) (by omega) (by omega), h 0 br (cn + 1) (4 :: (x_bd 1 W P).1) (x_bd 1 W P).2 (x_ns t nn a) (by omega) (by omega), h 1 (br - 1) cn (x_bd 1 W P).1.tail (x_bd 1 W P).2 (x_ns t nn a) (by omega) (by omega)]
  · have k := (x_t0 (t := t) (n := nn) (a := a) (by omega)).1
    unfold x_g1
    by_cases g0 : x_kind t nn a = 0 ∧ br = 0
    · rw [if_pos g0, if_pos g0]
    · rw [if_neg g0, if_neg g0, if_neg (by omega), if_neg (by omega), if_neg (by omega), if_neg (by omega), if_neg (by omega), if_neg (by omega)]
theorem x_g_f : ∀ (f1 f2 : Nat) (tu br cn : Int) (W : List Int) (P : x_GP) (a : Int), 0 ≤ a → a ≤ nn → (nn + 1 - a).toNat ≤ f1 → (nn + 1 - a).toNat ≤ f2 → x_gm t nn s f1 tu br cn W P a = x_gm t nn s f2 tu br cn W P a
  | 0, _, _, _, _, _, _, a, h0, h1, h2, _ => by omega
  | _ + 1, 0, _, _, _, _, _, a, h0, h1, _, h3 => by omega
  | f1 + 1, f2 + 1, tu, br, cn, W, P, a, h0, h1, h2, h3 => by
    have ih : ∀ (tu br cn : Int) (W : List Int) (P : x_GP) (b : Int), a < b → b ≤ nn → x_gm t nn s f1 tu br cn W P b = x_gm t nn s f2 tu br cn W P b := fun tu br cn W P b hb hn => x_g_f f1 f2 tu br cn W P b (by omega) hn (by omega) (by omega)
    rw [x_gm, x_gm, x_g0_c ih h0 h1, x_g1_c ih h0 h1]
theorem x_gg_0 {br cn a : Int} {W : List Int} {P : x_GP} (h0 : 0 ≤ a) (h1 : a ≤ nn) : x_gg t nn s 0 br cn W P a = x_g0 t nn s br cn W P a (x_gg t nn s) := by
  unfold x_gg
  rw [show (nn + 1 - a).toNat = (nn - a).toNat + 1 by omega, x_gm, if_pos rfl]
  exact x_g0_c (fun tu br cn W P b hb hn => x_g_f _ _ tu br cn W P b (by omega) hn (by omega) (Nat.le_refl _)) h0 h1
theorem x_gg_1 {br cn a : Int} {W : List Int} {P : x_GP} (h0 : 0 ≤ a) (h1 : a ≤ nn) : x_gg t nn s 1 br cn W P a = x_g1 t nn br cn W P a (x_gg t nn s) := by
  unfold x_gg
  rw [show (nn + 1 - a).toNat = (nn - a).toNat + 1 by omega, x_gm, if_neg (by decide)]
  exact x_g1_c (fun tu br cn W P b hb hn => x_g_f _ _ tu br cn W P b (by omega) hn (by omega) (Nat.le_refl _)) h0 h1
section GSTEPS
variable {br cn a : Int} {W : List Int} {P : x_GP}
theorem g_lp (h0 : 0 ≤ a) (h1 : a ≤ nn) (h : x_kind t nn a = 4 ∧ x_val t nn a = 40) (hb : ¬ br = 8) : x_gg t nn s 0 br cn W P a = x_gg t nn s 0 (br + 1) cn (0 :: W) P (x_ns t nn a) := by
  rw [x_gg_0 h0 h1]; unfold x_g0; rw [if_pos h, if_neg hb]
theorem g_lpx (h0 : 0 ≤ a) (h1 : a ≤ nn) (h : x_kind t nn a = 4 ∧ x_val t nn a = 40) (hb : br = 8) : x_gg t nn s 0 br cn W P a = .inl (2, a) := by
  rw [x_gg_0 h0 h1]; unfold x_g0; rw [if_pos h, if_pos hb]
theorem g_noq (h0 : 0 ≤ a) (h1 : a ≤ nn) (h : x_kind t nn a = 1 ∧ x_kx (x_val t nn a) = 14) (hc : ¬ cn = 40) : x_gg t nn s 0 br cn W P a = x_gg t nn s 0 br (cn + 1) (2 :: W) P (x_ns t nn a) := by
  rw [x_gg_0 h0 h1]; unfold x_g0; rw [if_neg (by omega), if_pos h, if_neg hc]
theorem g_nox (h0 : 0 ≤ a) (h1 : a ≤ nn) (h : x_kind t nn a = 1 ∧ x_kx (x_val t nn a) = 14) (hc : cn = 40) : x_gg t nn s 0 br cn W P a = .inl (2, a) := by
  rw [x_gg_0 h0 h1]; unfold x_g0; rw [if_neg (by omega), if_pos h, if_pos hc]
theorem g_nm (h0 : 0 ≤ a) (h1 : a ≤ nn) (h : x_kind t nn a = 2) (hc : ¬ cn = 40) : x_gg t nn s 0 br cn W P a = x_hn t nn s a (x_gg t nn s 1 br (cn + 1) W (x_lvq t nn s P a) (x_ns t nn (x_ns t nn (x_ns t nn a)))) (x_gg t nn s 1 br (cn + 1) W (x_lw t nn s P a) (x_ns t nn a)) := by
  rw [x_gg_0 h0 h1]; unfold x_g0; rw [if_neg (by omega), if_neg (by omega), if_pos h, if_neg hc]
theorem g_nmx (h0 : 0 ≤ a) (h1 : a ≤ nn) (h : x_kind t nn a = 2) (hc : cn = 40) : x_gg t nn s 0 br cn W P a = .inl (2, a) := by
  rw [x_gg_0 h0 h1]; unfold x_g0; rw [if_neg (by omega), if_neg (by omega), if_pos h, if_pos hc]
theorem g_0x (h0 : 0 ≤ a) (h1 : a ≤ nn) (h : ¬ (x_kind t nn a = 4 ∧ x_val t nn a = 40)) (h2 : ¬ (x_kind t nn a = 1 ∧ x_kx (x_val t nn a) = 14)) (h3 : ¬ x_kind t nn a = 2) : x_gg t nn s 0 br cn W P a = .inl (1, a) := by
  rw [x_gg_0 h0 h1]; unfold x_g0; rw [if_neg h, if_neg h2, if_neg h3]
theorem g_end (h0 : 0 ≤ a) (h1 : a ≤ nn) (h : x_kind t nn a = 0) (hb : br = 0) : x_gg t nn s 1 br cn W P a = .inr (x_bd 1 W P).2 := by
  rw [x_gg_1 h0 h1]; unfold x_g1; rw [if_pos ⟨h, hb⟩]
theorem g_an (h0 : 0 ≤ a) (h1 : a ≤ nn) (h : x_kind t nn a = 1) (h2 : x_kx (x_val t nn a) = 12) (hc : ¬ cn = 40) : x_gg t nn s 1 br cn W P a = x_gg t nn s 0 br (cn + 1) (3 :: (x_bd 2 W P).1) (x_bd 2 W P).2 (x_ns t nn a) := by
  rw [x_gg_1 h0 h1]; unfold x_g1; rw [if_neg (by omega), if_pos ⟨h, h2⟩, if_neg hc]
theorem g_or (h0 : 0 ≤ a) (h1 : a ≤ nn) (h : x_kind t nn a = 1) (h2 : x_kx (x_val t nn a) = 13) (hc : ¬ cn = 40) : x_gg t nn s 1 br cn W P a = x_gg t nn s 0 br (cn + 1) (4 :: (x_bd 1 W P).1) (x_bd 1 W P).2 (x_ns t nn a) := by
  rw [x_gg_1 h0 h1]; unfold x_g1; rw [if_neg (by omega), if_neg (by omega), if_pos ⟨h, h2⟩, if_neg hc]
theorem g_aox (h0 : 0 ≤ a) (h1 : a ≤ nn) (h : x_kind t nn a = 1) (h2 : x_kx (x_val t nn a) = 12 ∨ x_kx (x_val t nn a) = 13) (hc : cn = 40) : x_gg t nn s 1 br cn W P a = .inl (2, a) := by
  rw [x_gg_1 h0 h1]; unfold x_g1; rw [if_neg (by omega)]
  rcases h2 with h2 | h2
  · rw [if_pos ⟨h, h2⟩, if_pos hc]
  · rw [if_neg (by omega), if_pos ⟨h, h2⟩, if_pos hc]
theorem g_rp (h0 : 0 ≤ a) (h1 : a ≤ nn) (h : x_kind t nn a = 4 ∧ x_val t nn a = 41) (hb : 0 < br) : x_gg t nn s 1 br cn W P a = x_gg t nn s 1 (br - 1) cn (x_bd 1 W P).1.tail (x_bd 1 W P).2 (x_ns t nn a) := by
  rw [x_gg_1 h0 h1]; unfold x_g1; rw [if_neg (by omega), if_neg (by omega), if_neg (by omega), if_pos ⟨h.1, h.2, hb⟩]
theorem g_1x (h0 : 0 ≤ a) (h1 : a ≤ nn) (h : ¬ (x_kind t nn a = 0 ∧ br = 0)) (h2 : ¬ (x_kind t nn a = 1 ∧ (x_kx (x_val t nn a) = 12 ∨ x_kx (x_val t nn a) = 13))) (h3 : ¬ (x_kind t nn a = 4 ∧ x_val t nn a = 41 ∧ 0 < br)) : x_gg t nn s 1 br cn W P a = .inl (1, a) := by
  rw [x_gg_1 h0 h1]; unfold x_g1; rw [if_neg h, if_neg (by omega), if_neg (by omega), if_neg h3]
/-! what binds at once -/
theorem bd_c {l : Int} {w : Int} (h : l ≤ x_wt w) : x_bd l (w :: W) P = x_bd l W (x_kn1 P w 0 0) := by
  rw [x_bd, if_pos h]
theorem g_eq1 {W2 : List Int} {P2 : x_GP} (h0 : 0 ≤ a) (h1 : a ≤ nn) (e : x_bd 1 W P = x_bd 1 W2 P2) (e2 : x_kind t nn a = 1 ∧ x_kx (x_val t nn a) = 12 → x_bd 2 W P = x_bd 2 W2 P2) : x_gg t nn s 1 br cn W P a = x_gg t nn s 1 br cn W2 P2 a := by
  rw [x_gg_1 h0 h1, x_gg_1 h0 h1]
  unfold x_g1
  rw [e]
  by_cases g : x_kind t nn a = 1 ∧ x_kx (x_val t nn a) = 12
  · rw [e2 g]
  · rw [if_neg g, if_neg g]
/-- a not, an and are bound at once -/
theorem g_b2 {w : Int} (h0 : 0 ≤ a) (h1 : a ≤ nn) (hw : w = 2 ∨ w = 3) : x_gg t nn s 1 br cn (w :: W) P a = x_gg t nn s 1 br cn W (x_kn1 P w 0 0) a := by
  have h : x_wt w = 3 ∨ x_wt w = 2 := by
    rcases hw with z | z <;> subst z
    · exact Or.inl rfl
    · exact Or.inr rfl
  exact g_eq1 h0 h1 (bd_c (by omega)) (fun _ => bd_c (by omega))
/-- an or ahead of all but an and -/
theorem g_b4 (h0 : 0 ≤ a) (h1 : a ≤ nn) (h : ¬ (x_kind t nn a = 1 ∧ x_kx (x_val t nn a) = 12)) : x_gg t nn s 1 br cn (4 :: W) P a = x_gg t nn s 1 br cn W (x_kn1 P 4 0 0) a :=
  g_eq1 h0 h1 (bd_c (by decide)) (fun z => absurd z h)
variable {k1 k2 : x_GR}
theorem hn_w (h : ¬ (x_kind t nn (x_ns t nn a) = 4 ∧ x_val t nn (x_ns t nn a) = 61)) (h2 : 0 ≤ x_fn s 6 (x_val t nn a)) : x_hn t nn s a k1 k2 = k2 := by
  unfold x_hn; rw [if_neg h, if_pos h2]
theorem hn_wx (h : ¬ (x_kind t nn (x_ns t nn a) = 4 ∧ x_val t nn (x_ns t nn a) = 61)) (h2 : ¬ 0 ≤ x_fn s 6 (x_val t nn a)) : x_hn t nn s a k1 k2 = .inl (4, a) := by
  unfold x_hn; rw [if_neg h, if_neg h2]
theorem hn_vx (h : x_kind t nn (x_ns t nn a) = 4 ∧ x_val t nn (x_ns t nn a) = 61) (h2 : ¬ (0 ≤ x_fn s 1 (x_val t nn a) ∧ ¬ x_row s 2 (x_fn s 1 (x_val t nn a)) = 3)) : x_hn t nn s a k1 k2 = .inl (4, a) := by
  unfold x_hn; rw [if_pos h, if_neg h2]
theorem hn_v (h : x_kind t nn (x_ns t nn a) = 4 ∧ x_val t nn (x_ns t nn a) = 61) (h2 : 0 ≤ x_fn s 1 (x_val t nn a) ∧ ¬ x_row s 2 (x_fn s 1 (x_val t nn a)) = 3) (h3 : x_kind t nn (x_ns t nn (x_ns t nn a)) = 3) (h4 : x_val t nn (x_ns t nn (x_ns t nn a)) ≤ x_row s 5 (x_fn s 1 (x_val t nn a)) - 1) : x_hn t nn s a k1 k2 = k1 := by
  unfold x_hn; rw [if_pos h, if_pos h2]; unfold x_hv; rw [if_pos h3, if_pos h4]
theorem hn_v2 (h : x_kind t nn (x_ns t nn a) = 4 ∧ x_val t nn (x_ns t nn a) = 61) (h2 : 0 ≤ x_fn s 1 (x_val t nn a) ∧ ¬ x_row s 2 (x_fn s 1 (x_val t nn a)) = 3) (h3 : x_kind t nn (x_ns t nn (x_ns t nn a)) = 3) (h4 : ¬ x_val t nn (x_ns t nn (x_ns t nn a)) ≤ x_row s 5 (x_fn s 1 (x_val t nn a)) - 1) : x_hn t nn s a k1 k2 = .inl (2, x_ns t nn (x_ns t nn a)) := by
  unfold x_hn; rw [if_pos h, if_pos h2]; unfold x_hv; rw [if_pos h3, if_neg h4]
theorem hn_v1 (h : x_kind t nn (x_ns t nn a) = 4 ∧ x_val t nn (x_ns t nn a) = 61) (h2 : 0 ≤ x_fn s 1 (x_val t nn a) ∧ ¬ x_row s 2 (x_fn s 1 (x_val t nn a)) = 3) (h3 : ¬ x_kind t nn (x_ns t nn (x_ns t nn a)) = 3) : x_hn t nn s a k1 k2 = .inl (1, x_ns t nn (x_ns t nn a)) := by
  unfold x_hn; rw [if_pos h, if_pos h2]; unfold x_hv; rw [if_neg h3]
end GSTEPS
end XGL
