abbrev md_w30 (a i : Nat) : Prop := a = 1 ∧ 6 ≤ i ∧ i ≤ 11 ∨ a = 30
abbrev md_w31 (a i : Nat) : Prop := a = 1 ∧ 6 ≤ i ∧ i ≤ 11 ∨ a = 31
abbrev md_w32 (a i : Nat) : Prop := a = 1 ∧ 6 ≤ i ∧ i ≤ 11 ∨ a = 32
abbrev md_w103 (a i : Nat) : Prop := a = 1 ∧ 6 ≤ i ∧ i ≤ 11 ∨ a = 33
abbrev md_w101 (a i : Nat) : Prop := a = 1 ∧ 6 ≤ i ∧ i ≤ 11 ∨ 30 ≤ a ∧ a ≤ 33
abbrev md_w100 (a i : Nat) : Prop := a = 1 ∧ 6 ≤ i ∧ i ≤ 11 ∨ 28 ≤ a ∧ a ≤ 35
/-! a text of work: one reader. tu 0: a step, a closing bracket or the end is wanted, 1: a needle or ';'; n steps so far, op the steps that are open, A kinds (0 pass, 1 join, 2 again), times and ends -/
abbrev x_A := (Nat → Int) × (Nat → Int) × (Nat → Int)
abbrev x_WR := (Int × Int) ⊕ (Int × x_A)
noncomputable def x_k1 (A : x_A) (n k : Int) : x_A := (x_upZ A.1 n.toNat k, A.2.1, x_upZ A.2.2 n.toNat (n + 1))
noncomputable def x_kt (A : x_A) (n tm : Int) : x_A := (x_upZ A.1 n.toNat 2, x_upZ A.2.1 n.toNat tm, A.2.2)
noncomputable def x_ke (A : x_A) (o n : Int) : x_A := (A.1, A.2.1, x_upZ A.2.2 o.toNat n)
section XWK
variable (t : Nat → Int) (nn : Int) (s : x_S)
noncomputable def x_kp (a : Int) : Int := if x_kind t nn a = 2 ∧ x_val t nn a % 33554432 = 0 ∧ 1 ≤ x_val t nn a / 33554432 ∧ x_val t nn a / 33554432 ≤ 6 then x_val t nn a / 33554432 - 1 else -1
noncomputable def x_wp (a : Int) (k : Int → x_WR) : x_WR := if 0 ≤ x_kp t nn a then k (x_ns t nn a) else .inl (1, a)
noncomputable def x_wy2 (c a : Int) (k : Int → x_WR) : x_WR := if x_kind t nn a = 1 ∧ x_kx (x_val t nn a) = c then k (x_ns t nn a) else .inl (1, a)
noncomputable def x_wsg (c a : Int) (k : Int → x_WR) : x_WR := if x_kind t nn a = 4 ∧ x_val t nn a = c then k (x_ns t nn a) else .inl (1, a)
noncomputable def x_wnb (m a : Int) (k : Int → x_WR) : x_WR := if x_kind t nn a = 3 then (if x_val t nn a ≤ m then k (x_ns t nn a) else .inl (2, a)) else .inl (1, a)
noncomputable def x_wnd (a : Int) (k : Int → x_WR) : x_WR :=
  if x_kind t nn a = 2 then (if 0 ≤ x_fn s 6 (x_val t nn a) then k (x_ns t nn a)
    else if 0 ≤ x_fn s 1 (x_val t nn a) then x_wnb t nn (x_row s 4 (x_fn s 1 (x_val t nn a)) - x_row s 3 (x_fn s 1 (x_val t nn a))) (x_ns t nn a) k else .inl (4, a))
  else x_wnb t nn (s.1 - 1) a k
noncomputable def x_wps (a : Int) (k : Int → x_WR) : x_WR := x_wp t nn a (fun b => x_wy2 t nn 8 b (fun c => x_wp t nn c (fun d => x_wp t nn d (fun e => x_wy2 t nn 9 e (fun g => x_wnd t nn s g k)))))
noncomputable def x_wjn (a : Int) (k : Int → x_WR) : x_WR := x_wp t nn a (fun b => if 0 ≤ x_kp t nn b then (if x_kp t nn b = x_kp t nn a then .inl (3, b) else x_wsg t nn 59 (x_ns t nn b) k) else .inl (1, b))
noncomputable def x_wag (dp a : Int) (k : Int → Int → x_WR) : x_WR := x_wnb t nn 99 a (fun b => if x_kind t nn b = 4 ∧ x_val t nn b = 40 then (if dp = 5 then .inl (2, b) else k (x_val t nn a) (x_ns t nn b)) else .inl (1, b))
noncomputable def x_w0 (n : Int) (op : List Int) (A : x_A) (a : Int) (f : Int → Int → List Int → x_A → Int → x_WR) : x_WR :=
  if x_kind t nn a = 1 then
    (if x_kx (x_val t nn a) = 7 then (if n = 40 then .inl (2, a) else x_wps t nn s (x_ns t nn a) (f 1 (n + 1) op (x_k1 A n 0)))
    else if x_kx (x_val t nn a) = 10 then (if n = 40 then .inl (2, a) else x_wjn t nn (x_ns t nn a) (f 0 (n + 1) op (x_k1 A n 1)))
    else if x_kx (x_val t nn a) = 11 then (if n = 40 then .inl (2, a) else x_wag t nn op.length (x_ns t nn a) (fun tm => f 0 (n + 1) (n :: op) (x_kt A n tm)))
    else .inl (1, a))
  else match op with
    | [] => if x_kind t nn a = 0 then .inr (n, A) else .inl (1, a)
    | o :: os => x_wsg t nn 41 a (f 0 n os (x_ke A o n))
noncomputable def x_w1 (n : Int) (op : List Int) (A : x_A) (a : Int) (f : Int → Int → List Int → x_A → Int → x_WR) : x_WR :=
  if x_kind t nn a = 2 ∨ x_kind t nn a = 3 then x_wnd t nn s a (f 1 n op A) else x_wsg t nn 59 a (f 0 n op A)
noncomputable def x_wm : Nat → Int → Int → List Int → x_A → Int → x_WR
  | 0, _, _, _, _, _ => .inl (0, 0)
  | fu + 1, tu, n, op, A, a => if tu = 0 then x_w0 t nn s n op A a (x_wm fu) else x_w1 t nn s n op A a (x_wm fu)
noncomputable def x_ww (tu n : Int) (op : List Int) (A : x_A) (a : Int) : x_WR := x_wm t nn s (nn + 1 - a).toNat tu n op A a
end XWK
section XWL
variable {t : Nat → Int} {nn : Int} {s : x_S}
theorem x_lt_k {a : Int} (h1 : a ≤ nn) (h : ¬ x_kind t nn a = 0) : a < nn := by
  by_cases e : a < nn
  · exact e
  · exact absurd (x_t0 (t := t) (n := nn) (a := a) (by omega)).1 h
section XC
variable {a : Int} {k k2 : Int → x_WR}
theorem x_wp_c (h : ∀ b : Int, a < b → b ≤ nn → k b = k2 b) (h0 : 0 ≤ a) (h1 : a ≤ nn) : x_wp t nn a k = x_wp t nn a k2 := by
  unfold x_wp
  by_cases g : 0 ≤ x_kp t nn a
  · rw [if_pos g, if_pos g]
    have z : ¬ x_kind t nn a = 0 := fun z => by
      unfold x_kp at g
      rw [if_neg (by omega)] at g
      omega
    have b := x_ns_lt (t := t) h0 (x_lt_k (t := t) h1 z)
    exact h _ b.1 b.2
  · rw [if_neg g, if_neg g]
theorem x_wy2_c {c : Int} (h : ∀ b : Int, a < b → b ≤ nn → k b = k2 b) (h0 : 0 ≤ a) (h1 : a ≤ nn) : x_wy2 t nn c a k = x_wy2 t nn c a k2 := by
  unfold x_wy2
  by_cases g : x_kind t nn a = 1 ∧ x_kx (x_val t nn a) = c
  · rw [if_pos g, if_pos g]
    have b := x_ns_lt (t := t) h0 (x_lt_k (t := t) h1 (by omega))
    exact h _ b.1 b.2
  · rw [if_neg g, if_neg g]
theorem x_wsg_c {c : Int} (h : ∀ b : Int, a < b → b ≤ nn → k b = k2 b) (h0 : 0 ≤ a) (h1 : a ≤ nn) : x_wsg t nn c a k = x_wsg t nn c a k2 := by
  unfold x_wsg
  by_cases g : x_kind t nn a = 4 ∧ x_val t nn a = c
  · rw [if_pos g, if_pos g]
    have b := x_ns_lt (t := t) h0 (x_lt_k (t := t) h1 (by omega))
    exact h _ b.1 b.2
  · rw [if_neg g, if_neg g]
theorem x_wnb_c {m : Int} (h : ∀ b : Int, a < b → b ≤ nn → k b = k2 b) (h0 : 0 ≤ a) (h1 : a ≤ nn) : x_wnb t nn m a k = x_wnb t nn m a k2 := by
  unfold x_wnb
  by_cases g : x_kind t nn a = 3
  · rw [if_pos g, if_pos g]
    have b := x_ns_lt (t := t) h0 (x_lt_k (t := t) h1 (by omega))
    rw [h _ b.1 b.2]
  · rw [if_neg g, if_neg g]
theorem x_wnd_c (h : ∀ b : Int, a < b → b ≤ nn → k b = k2 b) (h0 : 0 ≤ a) (h1 : a ≤ nn) : x_wnd t nn s a k = x_wnd t nn s a k2 := by
  unfold x_wnd
  by_cases g : x_kind t nn a = 2
  · rw [if_pos g, if_pos g]
    have b := x_ns_lt (t := t) h0 (x_lt_k (t := t) h1 (by omega))
    rw [h _ b.1 b.2, x_wnb_c (fun c hc hn => h c (by omega) hn) (by omega) b.2]
  · rw [if_neg g, if_neg g]
    exact x_wnb_c h h0 h1
theorem x_wps_c (h : ∀ b : Int, a < b → b ≤ nn → k b = k2 b) (h0 : 0 ≤ a) (h1 : a ≤ nn) : x_wps t nn s a k = x_wps t nn s a k2 := by
  unfold x_wps
  exact x_wp_c (fun b hb bn => x_wy2_c (fun c hc cn => x_wp_c (fun d hd dn => x_wp_c (fun e he en => x_wy2_c (fun g hg gn => x_wnd_c (fun y hy yn => h y (by omega) yn) (by omega) gn) (by omega) en) (by omega) dn) (by omega) cn) (by omega) bn) h0 h1
theorem x_wjn_c (h : ∀ b : Int, a < b → b ≤ nn → k b = k2 b) (h0 : 0 ≤ a) (h1 : a ≤ nn) : x_wjn t nn a k = x_wjn t nn a k2 := by
  unfold x_wjn
  refine x_wp_c (fun b hb bn => ?_) h0 h1
  have q := x_ns_b (t := t) (n := nn) (a := b) (by omega) bn
  rw [x_wsg_c (a := x_ns t nn b) (k := k) (k2 := k2) (fun c hc cn => h c (by omega) cn) (by omega) (by omega)]
theorem x_wag_c {dp : Int} {k k2 : Int → Int → x_WR} (h : ∀ tm b : Int, a < b → b ≤ nn → k tm b = k2 tm b) (h0 : 0 ≤ a) (h1 : a ≤ nn) : x_wag t nn dp a k = x_wag t nn dp a k2 := by
  unfold x_wag
  refine x_wnb_c (fun b hb bn => ?_) h0 h1
  have q := x_ns_b (t := t) (n := nn) (a := b) (by omega) bn
  rw [h (x_val t nn a) (x_ns t nn b) (by omega) (by omega)]
end XC
theorem x_w0_c {n : Int} {op : List Int} {A : x_A} {a : Int} {f g : Int → Int → List Int → x_A → Int → x_WR} (h : ∀ (tu n : Int) (op : List Int) (A : x_A) (b : Int), a < b → b ≤ nn → f tu n op A b = g tu n op A b) (h0 : 0 ≤ a) (h1 : a ≤ nn) : x_w0 t nn s n op A a f = x_w0 t nn s n op A a g := by
  unfold x_w0
  by_cases e : x_kind t nn a = 1
  · rw [if_pos e, if_pos e]
    have b := x_ns_lt (t := t) h0 (x_lt_k (t := t) h1 (by omega))
    rw [x_wps_c (fun c hc cn => h 1 (n + 1) op (x_k1 A n 0) c (by omega) cn) (by omega) b.2, x_wjn_c (fun c hc cn => h 0 (n + 1) op (x_k1 A n 1) c (by omega) cn) (by omega) b.2, x_wag_c (fun tm c hc cn => h 0 (n + 1) (n :: op) (x_kt A n tm) c (by omega) cn) (by omega) b.2]
  · rw [if_neg e, if_neg e]
    cases op with
    | nil => rfl
    | cons o os => exact x_wsg_c (fun c hc cn => h 0 n os (x_ke A o n) c hc cn) h0 h1
theorem x_w1_c {n : Int} {op : List Int} {A : x_A} {a : Int} {f g : Int → Int → List Int → x_A → Int → x_WR} (h : ∀ (tu n : Int) (op : List Int) (A : x_A) (b : Int), a < b → b ≤ nn → f tu n op A b = g tu n op A b) (h0 : 0 ≤ a) (h1 : a ≤ nn) : x_w1 t nn s n op A a f = x_w1 t nn s n op A a g := by
  unfold x_w1
  rw [x_wnd_c (fun c hc cn => h 1 n op A c hc cn) h0 h1, x_wsg_c (fun c hc cn => h 0 n op A c hc cn) h0 h1]
theorem x_w_f : ∀ (f1 f2 : Nat) (tu n : Int) (op : List Int) (A : x_A) (a : Int), 0 ≤ a → a ≤ nn → (nn + 1 - a).toNat ≤ f1 → (nn + 1 - a).toNat ≤ f2 → x_wm t nn s f1 tu n op A a = x_wm t nn s f2 tu n op A a
  | 0, _, _, _, _, _, a, h0, h1, h2, _ => by omega
  | _ + 1, 0, _, _, _, _, a, h0, h1, _, h3 => by omega
  | f1 + 1, f2 + 1, tu, n, op, A, a, h0, h1, h2, h3 => by
    have ih : ∀ (tu n : Int) (op : List Int) (A : x_A) (b : Int), a < b → b ≤ nn → x_wm t nn s f1 tu n op A b = x_wm t nn s f2 tu n op A b := fun tu n op A b hb hn => x_w_f f1 f2 tu n op A b (by omega) hn (by omega) (by omega)
    rw [x_wm, x_wm, x_w0_c ih h0 h1, x_w1_c ih h0 h1]
theorem x_ww_0 {n : Int} {op : List Int} {A : x_A} {a : Int} (h0 : 0 ≤ a) (h1 : a ≤ nn) : x_ww t nn s 0 n op A a = x_w0 t nn s n op A a (x_ww t nn s) := by
  unfold x_ww
  rw [show (nn + 1 - a).toNat = (nn - a).toNat + 1 by omega, x_wm, if_pos rfl]
  exact x_w0_c (fun tu n op A b hb hn => x_w_f _ _ tu n op A b (by omega) hn (by omega) (Nat.le_refl _)) h0 h1
theorem x_ww_1 {n : Int} {op : List Int} {A : x_A} {a : Int} (h0 : 0 ≤ a) (h1 : a ≤ nn) : x_ww t nn s 1 n op A a = x_w1 t nn s n op A a (x_ww t nn s) := by
  unfold x_ww
  rw [show (nn + 1 - a).toNat = (nn - a).toNat + 1 by omega, x_wm, if_neg (by decide)]
  exact x_w1_c (fun tu n op A b hb hn => x_w_f _ _ tu n op A b (by omega) hn (by omega) (Nat.le_refl _)) h0 h1
end XWL
