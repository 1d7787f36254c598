/-! a text of work: one reader. tu 0: a step, a closing bracket or the end is wanted, 1: a needle or ';'; n steps so far, op the steps that are open, A kinds (0 pass, 1 join, 2 again), times and ends -/
abbrev x_A := (Nat → Int) × (Nat → Int) × (Nat → Int)
abbrev x_WR := (Int × Int) ⊕ (Int × x_A)
noncomputable def x_k1 (A : x_A) (n k a : Int) : x_A := (x_upZ A.1 n.toNat k, x_upZ A.2.1 n.toNat a, x_upZ A.2.2 n.toNat (n + 1))
noncomputable def x_kt (A : x_A) (n tm : Int) : x_A := (x_upZ A.1 n.toNat 2, x_upZ A.2.1 n.toNat tm, A.2.2)
noncomputable def x_ke (A : x_A) (o n : Int) : x_A := (A.1, A.2.1, x_upZ A.2.2 o.toNat n)
section XWK
variable (t : Nat → Int) (nn : Int) (s : x_S)
noncomputable def x_kp (a : Int) : Int := if x_kind t nn a = 2 ∧ x_val t nn a % 33554432 = 0 ∧ 1 ≤ x_val t nn a / 33554432 ∧ x_val t nn a / 33554432 ≤ 6 then x_val t nn a / 33554432 - 1 else -1
noncomputable def x_wp (a : Int) (k : Int → x_WR) : x_WR := if 0 ≤ x_kp t nn a then k (x_ns t nn a) else .inl (1, a)
noncomputable def x_wy2 (c a : Int) (k : Int → x_WR) : x_WR := if x_kind t nn a = 1 ∧ x_kx (x_val t nn a) = c then k (x_ns t nn a) else .inl (1, a)
noncomputable def x_wsg (c a : Int) (k : Int → x_WR) : x_WR := if x_kind t nn a = 4 ∧ x_val t nn a = c then k (x_ns t nn a) else .inl (1, a)
noncomputable def x_wnb (m a : Int) (k : Int → x_WR) : x_WR := if x_kind t nn a = 3 then (if x_val t nn a ≤ m then k (x_ns t nn a) else .inl (2, a)) else .inl (1, a)
noncomputable def x_wnd (a : Int) (k : Int → x_WR) : x_WR :=
  if x_kind t nn a = 2 then (if 0 ≤ x_fn s 6 (x_val t nn a) then k (x_ns t nn a)
    else if 0 ≤ x_fn s 1 (x_val t nn a) then x_wnb t nn (x_row s 4 (x_fn s 1 (x_val t nn a)) - x_row s 3 (x_fn s 1 (x_val t nn a))) (x_ns t nn a) k else .inl (4, a))
  else x_wnb t nn (s.1 - 1) a k
noncomputable def x_wps (a : Int) (k : Int → x_WR) : x_WR := x_wp t nn a (fun b => x_wy2 t nn 8 b (fun c => x_wp t nn c (fun d => x_wp t nn d (fun e => x_wy2 t nn 9 e (fun g => x_wnd t nn s g k)))))
noncomputable def x_wjn (a : Int) (k : Int → x_WR) : x_WR := x_wp t nn a (fun b => if 0 ≤ x_kp t nn b then (if x_kp t nn b = x_kp t nn a then .inl (3, b) else x_wsg t nn 59 (x_ns t nn b) k) else .inl (1, b))
noncomputable def x_wag (dp a : Int) (k : Int → Int → x_WR) : x_WR := x_wnb t nn 99 a (fun b => if x_kind t nn b = 4 ∧ x_val t nn b = 40 then (if dp = 5 then .inl (2, b) else k (x_val t nn a) (x_ns t nn b)) else .inl (1, b))
noncomputable def x_w0 (n : Int) (op : List Int) (A : x_A) (a : Int) (f : Int → Int → List Int → x_A → Int → x_WR) : x_WR :=
  if x_kind t nn a = 1 then
    (if x_kx (x_val t nn a) = 7 then (if n = 40 then .inl (2, a) else x_wps t nn s (x_ns t nn a) (f 1 (n + 1) op (x_k1 A n 0 a)))
    else if x_kx (x_val t nn a) = 10 then (if n = 40 then .inl (2, a) else x_wjn t nn (x_ns t nn a) (f 0 (n + 1) op (x_k1 A n 1 a)))
    else if x_kx (x_val t nn a) = 11 then (if n = 40 then .inl (2, a) else x_wag t nn op.length (x_ns t nn a) (fun tm => f 0 (n + 1) (n :: op) (x_kt A n tm)))
    else .inl (1, a))
  else match op with
    | [] => if x_kind t nn a = 0 then .inr (n, A) else .inl (1, a)
    | o :: os => x_wsg t nn 41 a (f 0 n os (x_ke A o n))
noncomputable def x_w1 (n : Int) (op : List Int) (A : x_A) (a : Int) (f : Int → Int → List Int → x_A → Int → x_WR) : x_WR :=
  if x_kind t nn a = 2 ∨ x_kind t nn a = 3 then x_wnd t nn s a (f 1 n op A) else x_wsg t nn 59 a (f 0 n op A)
noncomputable def x_wm : Nat → Int → Int → List Int → x_A → Int → x_WR
  | 0, _, _, _, _, _ => .inl (0, 0)
  | fu + 1, tu, n, op, A, a => if tu = 0 then x_w0 t nn s n op A a (x_wm fu) else x_w1 t nn s n op A a (x_wm fu)
noncomputable def x_ww (tu n : Int) (op : List Int) (A : x_A) (a : Int) : x_WR := x_wm t nn s (nn + 1 - a).toNat tu n op A a
end XWK
section XWL
variable {t : Nat → Int} {nn : Int} {s : x_S}
theorem x_lt_k {a : Int} (h1 : a ≤ nn) (h : ¬ x_kind t nn a = 0) : a < nn := by
  by_cases e : a < nn
  · exact e
  · exact absurd (x_t0 (t := t) (n := nn) (a := a) (by omega)).1 h
section XC
variable {a : Int} {k k2 : Int → x_WR}
theorem x_wp_c (h : ∀ b : Int, a < b → b ≤ nn → k b = k2 b) (h0 : 0 ≤ a) (h1 : a ≤ nn) : x_wp t nn a k = x_wp t nn a k2 := by
  unfold x_wp
  by_cases g : 0 ≤ x_kp t nn a
  · rw [if_pos g, if_pos g]
    have z : ¬ x_kind t nn a = 0 := fun z => by
      unfold x_kp at g
      rw [if_neg (by omega)] at g
      omega
    have b := x_ns_lt (t := t) h0 (x_lt_k (t := t) h1 z)
    exact h _ b.1 b.2
  · rw [if_neg g, if_neg g]
theorem x_wy2_c {c : Int} (h : ∀ b : Int, a < b → b ≤ nn → k b = k2 b) (h0 : 0 ≤ a) (h1 : a ≤ nn) : x_wy2 t nn c a k = x_wy2 t nn c a k2 := by
  unfold x_wy2
  by_cases g : x_kind t nn a = 1 ∧ x_kx (x_val t nn a) = c
  · rw [if_pos g, if_pos g]
    have b := x_ns_lt (t := t) h0 (x_lt_k (t := t) h1 (by omega))
    exact h _ b.1 b.2
  · rw [if_neg g, if_neg g]
theorem x_wsg_c {c : Int} (h : ∀ b : Int, a < b → b ≤ nn → k b = k2 b) (h0 : 0 ≤ a) (h1 : a ≤ nn) : x_wsg t nn c a k = x_wsg t nn c a k2 := by
  unfold x_wsg
  by_cases g : x_kind t nn a = 4 ∧ x_val t nn a = c
  · rw [if_pos g, if_pos g]
    have b := x_ns_lt (t := t) h0 (x_lt_k (t := t) h1 (by omega))
    exact h _ b.1 b.2
  · rw [if_neg g, if_neg g]
theorem x_wnb_c {m : Int} (h : ∀ b : Int, a < b → b ≤ nn → k b = k2 b) (h0 : 0 ≤ a) (h1 : a ≤ nn) : x_wnb t nn m a k = x_wnb t nn m a k2 := by
  unfold x_wnb
  by_cases g : x_kind t nn a = 3
  · rw [if_pos g, if_pos g]
    have b := x_ns_lt (t := t) h0 (x_lt_k (t := t) h1 (by omega))
    rw [h _ b.1 b.2]
  · rw [if_neg g, if_neg g]
theorem x_wnd_c (h : ∀ b : Int, a < b → b ≤ nn → k b = k2 b) (h0 : 0 ≤ a) (h1 : a ≤ nn) : x_wnd t nn s a k = x_wnd t nn s a k2 := by
  unfold x_wnd
  by_cases g : x_kind t nn a = 2
  · rw [if_pos g, if_pos g]
    have b := x_ns_lt (t := t) h0 (x_lt_k (t := t) h1 (by omega))
    rw [h _ b.1 b.2, x_wnb_c (fun c hc hn => h c (by omega) hn) (by omega) b.2]
  · rw [if_neg g, if_neg g]
    exact x_wnb_c h h0 h1
theorem x_wps_c (h : ∀ b : Int, a < b → b ≤ nn → k b = k2 b) (h0 : 0 ≤ a) (h1 : a ≤ nn) : x_wps t nn s a k = x_wps t nn s a k2 := by
  unfold x_wps
  exact x_wp_c (fun b hb bn => x_wy2_c (fun c hc cn => x_wp_c (fun d hd dn => x_wp_c (fun e he en => x_wy2_c (fun g hg gn => x_wnd_c (fun y hy yn => h y (by omega) yn) (by omega) gn) (by omega) en) (by omega) dn) (by omega) cn) (by omega) bn) h0 h1
theorem x_wjn_c (h : ∀ b : Int, a < b → b ≤ nn → k b = k2 b) (h0 : 0 ≤ a) (h1 : a ≤ nn) : x_wjn t nn a k = x_wjn t nn a k2 := by
  unfold x_wjn
  refine x_wp_c (fun b hb bn => ?_) h0 h1
  have q := x_ns_b (t := t) (n := nn) (a := b) (by omega) bn
  rw [x_wsg_c (a := x_ns t nn b) (k := k) (k2 := k2) (fun c hc cn => h c (by omega) cn) (by omega) (by omega)]
theorem x_wag_c {dp : Int} {k k2 : Int → Int → x_WR} (h : ∀ tm b : Int, a < b → b ≤ nn → k tm b = k2 tm b) (h0 : 0 ≤ a) (h1 : a ≤ nn) : x_wag t nn dp a k = x_wag t nn dp a k2 := by
  unfold x_wag
  refine x_wnb_c (fun b hb bn => ?_) h0 h1
  have q := x_ns_b (t := t) (n := nn) (a := b) (by omega) bn
  rw [h (x_val t nn a) (x_ns t nn b) (by omega) (by omega)]
end XC
theorem x_w0_c {n : Int} {op : List Int} {A : x_A} {a : Int} {f g : Int → Int → List Int → x_A → Int → x_WR} (h : ∀ (tu n : Int) (op : List Int) (A : x_A) (b : Int), a < b → b ≤ nn → f tu n op A b = g tu n op A b) (h0 : 0 ≤ a) (h1 : a ≤ nn) : x_w0 t nn s n op A a f = x_w0 t nn s n op A a g := by
  unfold x_w0
  by_cases e : x_kind t nn a = 1
  · rw [if_pos e, if_pos e]
    have b := x_ns_lt (t := t) h0 (x_lt_k (t := t) h1 (by omega))
    rw [x_wps_c (fun c hc cn => h 1 (n + 1) op (x_k1 A n 0 a) c (by omega) cn) (by omega) b.2, x_wjn_c (fun c hc cn => h 0 (n + 1) op (x_k1 A n 1 a) c (by omega) cn) (by omega) b.2, x_wag_c (fun tm c hc cn => h 0 (n + 1) (n :: op) (x_kt A n tm) c (by omega) cn) (by omega) b.2]
  · rw [if_neg e, if_neg e]
    cases op with
    | nil => rfl
    | cons o os => exact x_wsg_c (fun c hc cn => h 0 n os (x_ke A o n) c hc cn) h0 h1
theorem x_w1_c {n : Int} {op : List Int} {A : x_A} {a : Int} {f g : Int → Int → List Int → x_A → Int → x_WR} (h : ∀ (tu n : Int) (op : List Int) (A : x_A) (b : Int), a < b → b ≤ nn → f tu n op A b = g tu n op A b) (h0 : 0 ≤ a) (h1 : a ≤ nn) : x_w1 t nn s n op A a f = x_w1 t nn s n op A a g := by
  unfold x_w1
  rw [x_wnd_c (fun c hc cn => h 1 n op A c hc cn) h0 h1, x_wsg_c (fun c hc cn => h 0 n op A c hc cn) h0 h1]
theorem x_w_f : ∀ (f1 f2 : Nat) (tu n : Int) (op : List Int) (A : x_A) (a : Int), 0 ≤ a → a ≤ nn → (nn + 1 - a).toNat ≤ f1 → (nn + 1 - a).toNat ≤ f2 → x_wm t nn s f1 tu n op A a = x_wm t nn s f2 tu n op A a
  | 0, _, _, _, _, _, a, h0, h1, h2, _ => by omega
  | _ + 1, 0, _, _, _, _, a, h0, h1, _, h3 => by omega
  | f1 + 1, f2 + 1, tu, n, op, A, a, h0, h1, h2, h3 => by
    have ih : ∀ (tu n : Int) (op : List Int) (A : x_A) (b : Int), a < b → b ≤ nn → x_wm t nn s f1 tu n op A b = x_wm t nn s f2 tu n op A b := fun tu n op A b hb hn => x_w_f f1 f2 tu n op A b (by omega) hn (by omega) (by omega)
    rw [x_wm, x_wm, x_w0_c ih h0 h1, x_w1_c ih h0 h1]
theorem x_ww_0 {n : Int} {op : List Int} {A : x_A} {a : Int} (h0 : 0 ≤ a) (h1 : a ≤ nn) : x_ww t nn s 0 n op A a = x_w0 t nn s n op A a (x_ww t nn s) := by
  unfold x_ww
  rw [show (nn + 1 - a).toNat = (nn - a).toNat + 1 by omega, x_wm, if_pos rfl]
  exact x_w0_c (fun tu n op A b hb hn => x_w_f _ _ tu n op A b (by omega) hn (by omega) (Nat.le_refl _)) h0 h1
theorem x_ww_1 {n : Int} {op : List Int} {A : x_A} {a : Int} (h0 : 0 ≤ a) (h1 : a ≤ nn) : x_ww t nn s 1 n op A a = x_w1 t nn s n op A a (x_ww t nn s) := by
  unfold x_ww
  rw [show (nn + 1 - a).toNat = (nn - a).toNat + 1 by omega, x_wm, if_neg (by decide)]
  exact x_w1_c (fun tu n op A b hb hn => x_w_f _ _ tu n op A b (by omega) hn (by omega) (Nat.le_refl _)) h0 h1
end XWL
/-! a card lies as it lies: where its notches are, whether it drops -/
noncomputable def x_pl (ho : Int) (o : Bool) (i : Nat) : Nat := if o = true then (ho - 1 - (i : Int)).toNat else i
noncomputable def x_dtr (X nd : Int64) (ho : Int) (o : Bool) : Nat → Bool
  | 0 => true
  | n + 1 => x_dtr X nd ho o n && (!x_on nd n || x_on X (x_pl ho o n))
noncomputable def x_ov (ov : Int32) (c : Int) : Bool := decide (((ov >>> Int32.ofInt c) &&& 1).toInt = 1)
noncomputable def x_dt (K : x_Kn) (ov : Int32) (ho : Int) (nd : Int64) (c : Int) : Bool := x_dtr (K.1 c.toNat) nd ho (x_ov ov c) ho.toNat
section XDT
variable {X nd : Int64} {ho : Int} {o : Bool}
theorem x_dtr_f : ∀ (n m : Nat), x_dtr X nd ho o n = false → x_dtr X nd ho o (n + m) = false
  | n, 0, h => h
  | n, m + 1, h => by
    rw [show n + (m + 1) = n + m + 1 by omega, x_dtr, x_dtr_f n m h]
    rfl
theorem x_dtr_a : ∀ n : Nat, x_dtr X nd ho o n = true ↔ ∀ i : Nat, i < n → x_on nd i = true → x_on X (x_pl ho o i) = true
  | 0 => ⟨fun _ i hi => by omega, fun _ => rfl⟩
  | n + 1 => by
    rw [x_dtr, Bool.and_eq_true, x_dtr_a n]
    constructor
    · intro h i hi g
      by_cases e : i = n
      · subst e
        have z := h.2
        rw [g] at z
        exact z
      · exact h.1 i (by omega) g
    · intro h
      refine ⟨fun i hi g => h i (by omega) g, ?_⟩
      cases g : x_on nd n
      · rfl
      · show (false || x_on X (x_pl ho o n)) = true
        rw [h n (by omega) g]
        rfl
/-- (places &&& needles) = needles, places told by their bits -/
theorem x_dt_e {P : Int64} (h0 : 0 ≤ ho) (h1 : ho ≤ 60) (hp : ∀ i : Nat, (i : Int) < ho → x_on P i = x_on X (x_pl ho o i)) (hn : ∀ i : Nat, x_on nd i = true → (i : Int) < ho) : P &&& nd = nd ↔ x_dtr X nd ho o ho.toNat = true := by
  rw [x_dtr_a]
  constructor
  · intro h i hi g
    have e : x_on (P &&& nd) i = x_on nd i := by rw [h]
    rw [x_on_and, g, Bool.and_true] at e
    rw [← hp i (by omega)]
    exact e
  · intro h
    refine x_on_ext (fun i _ => ?_)
    rw [x_on_and]
    cases g : x_on nd i
    · exact Bool.and_false _
    · have l := hn i g
      rw [hp i l, h i (by omega) g]
      rfl
end XDT
/-- the class turns a card's notches -/
noncomputable def x_mi (x : Int64) (h : Int) (m : Int64) : Prop := ∀ i : Nat, x_on m i = (decide ((i : Int) < h) && x_on x (h - 1 - (i : Int)).toNat)
theorem x_mi_0 {x : Int64} {h : Int} (hh : h = 0) : x_mi x h 0 := fun i => by
  rw [x_on_0, decide_eq_false (by omega)]
  rfl
theorem x_bit1 {x : Int64} {v : Int32} {h : Int} (hv : v.toInt = h) (h0 : 0 ≤ h) (h1 : h < 64) (i : Nat) : x_on ((x >>> (v.toInt64 &&& 63)) &&& 1) i = (decide (i = 0) && x_on x h.toNat) := by
  have ev : v = Int32.ofInt ((h.toNat : Nat) : Int) := by rw [show ((h.toNat : Nat) : Int) = h by omega, ← hv, Int32.ofInt_toInt]
  have e1 : x_on 1 i = decide (i = 0) := by
    unfold x_on
    rw [show (1 : Int64).toBitVec = 1#64 by decide, BitVec.getLsbD_one]
    exact Bool.true_and _
  rw [x_on_and, e1]
  by_cases g : i = 0
  · subst g
    have q := x_shr_64 (bits := x) (h := h.toNat) (by omega)
    rw [← ev] at q
    have q : (x >>> (v.toInt64 &&& 63)) &&& 1 = 1 ↔ x_on x h.toNat = true := q
    rw [decide_eq_true rfl, Bool.and_true, Bool.true_and, Bool.eq_iff_iff, ← q]
    constructor
    · intro a
      refine x_on_ext (fun j _ => ?_)
      rw [x_on_and]
      have f1 : x_on 1 j = decide (j = 0) := by
        unfold x_on
        rw [show (1 : Int64).toBitVec = 1#64 by decide, BitVec.getLsbD_one]
        exact Bool.true_and _
      rw [f1]
      by_cases gj : j = 0
      · subst gj
        rw [a]
        rfl
      · rw [decide_eq_false gj, Bool.and_false]
    · intro a
      have f := congrArg (fun u : Int64 => x_on u 0) a
      simp only [x_on_and] at f
      have f1 : x_on 1 0 = true := by decide
      rw [f1, Bool.and_true] at f
      exact f
  · rw [decide_eq_false g, Bool.and_false, Bool.false_and]
theorem x_mi_s {x m : Int64} {v : Int32} {h h2 : Int} (H : x_mi x h m) (h0 : 0 ≤ h) (h1 : h < 60) (hv : v.toInt = h) (e : h2 = h + 1) {b : Int32} (hb : b = 1) : x_mi x h2 ((m <<< (b.toInt64 &&& 63)) ||| ((x >>> (v.toInt64 &&& 63)) &&& 1)) := fun i => by
  have s1 : b.toInt64 &&& 63 = x_sh 1 := by rw [hb]; exact x_sh_e (by decide)
  rw [x_on_or, s1, x_on_shl (by decide) (by decide), x_bit1 hv h0 (by omega), e, show (1 : Int).toNat = 1 from rfl]
  by_cases g : i = 0
  · subst g
    rw [decide_eq_false (by omega), decide_eq_true rfl, decide_eq_true (by omega), show (h + 1 - 1 - ((0 : Nat) : Int)).toNat = h.toNat by omega]
    rfl
  · rw [decide_eq_false g, Bool.false_and, Bool.or_false, H (i - 1)]
    by_cases l : i < 64
    · rw [decide_eq_true (by omega), Bool.true_and, show (h - 1 - ((i - 1 : Nat) : Int)).toNat = (h + 1 - 1 - (i : Int)).toNat by omega]
      congr 1
      exact decide_eq_decide.mpr (by omega)
    · rw [decide_eq_false (by omega), Bool.false_and, decide_eq_false (by omega), Bool.false_and]
/-! packs: rows and sizes -/
abbrev x_P := (Int → Nat → Int) × (Int → Int)
noncomputable def x_ap9 (P : x_P) (p c : Int) : x_P := (fun q j => if q = p ∧ (j : Int) = P.2 p then c else P.1 q j, fun q => if q = p then P.2 p + 1 else P.2 q)
noncomputable def x_z9 (P : x_P) (p : Int) : x_P := (P.1, fun q => if q = p then 0 else P.2 q)
noncomputable def x_dlk (R : Nat → Int) (T : Int → Bool) (d l : Int) : Nat → Nat → x_P → x_P
  | 0, _, P => P
  | m + 1, k, P => x_dlk R T d l m (k + 1) (x_ap9 P (if T (R k) = true then d else l) (R k))
noncomputable def x_dl (P : x_P) (f d l : Int) (T : Int → Bool) : x_P := x_dlk (P.1 f) T d l (P.2 f).toNat 0 (x_z9 P f)
noncomputable def x_tot (P : x_P) : Int := P.2 0 + P.2 1 + P.2 2 + P.2 3 + P.2 4 + P.2 5
/-- sizes add up to n, cards are below ca -/
noncomputable def x_pg (P : x_P) (n ca : Int) : Prop := x_tot P = n ∧ ∀ p : Int, 0 ≤ p → p ≤ 5 → 0 ≤ P.2 p ∧ ∀ k : Nat, (k : Int) < P.2 p → 0 ≤ P.1 p k ∧ P.1 p k < ca
section XPK
variable {P : x_P} {n ca p c : Int}
theorem x_pg_6 (H : x_pg P n ca) : 0 ≤ P.2 0 ∧ 0 ≤ P.2 1 ∧ 0 ≤ P.2 2 ∧ 0 ≤ P.2 3 ∧ 0 ≤ P.2 4 ∧ 0 ≤ P.2 5 := ⟨(H.2 0 (by decide) (by decide)).1, (H.2 1 (by decide) (by decide)).1, (H.2 2 (by decide) (by decide)).1, (H.2 3 (by decide) (by decide)).1, (H.2 4 (by decide) (by decide)).1, (H.2 5 (by decide) (by decide)).1⟩
theorem x_p05 {p : Int} (h0 : 0 ≤ p) (h1 : p ≤ 5) : p = 0 ∨ p = 1 ∨ p = 2 ∨ p = 3 ∨ p = 4 ∨ p = 5 := by omega
theorem x_pg_le (H : x_pg P n ca) (h0 : 0 ≤ p) (h1 : p ≤ 5) : 0 ≤ P.2 p ∧ P.2 p ≤ n := by
  have z := x_pg_6 H
  have t := H.1
  unfold x_tot at t
  rcases x_p05 h0 h1 with e | e | e | e | e | e <;> subst e <;> omega
theorem x_tot_u {s : Int → Int} {v : Int} (h0 : 0 ≤ p) (h1 : p ≤ 5) (hs : ∀ q : Int, s q = if q = p then v else P.2 q) : s 0 + s 1 + s 2 + s 3 + s 4 + s 5 = x_tot P - P.2 p + v := by
  unfold x_tot
  rw [hs 0, hs 1, hs 2, hs 3, hs 4, hs 5]
  rcases x_p05 h0 h1 with e | e | e | e | e | e <;> subst e <;> simp only [show ¬ (0 : Int) = 1 by decide, show ¬ (0 : Int) = 2 by decide, show ¬ (0 : Int) = 3 by decide, show ¬ (0 : Int) = 4 by decide, show ¬ (0 : Int) = 5 by decide, show ¬ (1 : Int) = 0 by decide, show ¬ (1 : Int) = 2 by decide, show ¬ (1 : Int) = 3 by decide, show ¬ (1 : Int) = 4 by decide, show ¬ (1 : Int) = 5 by decide, show ¬ (2 : Int) = 0 by decide, show ¬ (2 : Int) = 1 by decide, show ¬ (2 : Int) = 3 by decide, show ¬ (2 : Int) = 4 by decide, show ¬ (2 : Int) = 5 by decide, show ¬ (3 : Int) = 0 by decide, show ¬ (3 : Int) = 1 by decide, show ¬ (3 : Int) = 2 by decide, show ¬ (3 : Int) = 4 by decide, show ¬ (3 : Int) = 5 by decide, show ¬ (4 : Int) = 0 by decide, show ¬ (4 : Int) = 1 by decide, show ¬ (4 : Int) = 2 by decide, show ¬ (4 : Int) = 3 by decide, show ¬ (4 : Int) = 5 by decide, show ¬ (5 : Int) = 0 by decide, show ¬ (5 : Int) = 1 by decide, show ¬ (5 : Int) = 2 by decide, show ¬ (5 : Int) = 3 by decide, show ¬ (5 : Int) = 4 by decide, if_true, if_false] <;> omega
theorem x_pg_a (H : x_pg P n ca) (h0 : 0 ≤ p) (h1 : p ≤ 5) (c0 : 0 ≤ c) (c1 : c < ca) {n2 : Int} (hn : n2 = n + 1) : x_pg (x_ap9 P p c) n2 ca := by
  refine ⟨?_, fun q q0 q1 => ?_⟩
  · have e := x_tot_u (P := P) (p := p) (s := (x_ap9 P p c).2) (v := P.2 p + 1) h0 h1 (fun q => rfl)
    have t := H.1
    show (x_ap9 P p c).2 0 + (x_ap9 P p c).2 1 + (x_ap9 P p c).2 2 + (x_ap9 P p c).2 3 + (x_ap9 P p c).2 4 + (x_ap9 P p c).2 5 = n2
    omega
  · have z := H.2 q q0 q1
    show 0 ≤ (if q = p then P.2 p + 1 else P.2 q) ∧ ∀ k : Nat, (k : Int) < (if q = p then P.2 p + 1 else P.2 q) → 0 ≤ (if q = p ∧ (k : Int) = P.2 p then c else P.1 q k) ∧ (if q = p ∧ (k : Int) = P.2 p then c else P.1 q k) < ca
    by_cases e : q = p
    · subst e
      rw [if_pos rfl]
      refine ⟨by omega, fun k hk => ?_⟩
      by_cases g : (k : Int) = P.2 q
      · rw [if_pos ⟨rfl, g⟩]
        exact ⟨c0, c1⟩
      · rw [if_neg (fun y => g y.2)]
        exact z.2 k (by omega)
    · rw [if_neg e]
      refine ⟨z.1, fun k hk => ?_⟩
      rw [if_neg (fun y => e y.1)]
      exact z.2 k hk
theorem x_pg_z (H : x_pg P n ca) (h0 : 0 ≤ p) (h1 : p ≤ 5) {n2 : Int} (hn : n2 = n - P.2 p) : x_pg (x_z9 P p) n2 ca := by
  refine ⟨?_, fun q q0 q1 => ?_⟩
  · have e := x_tot_u (P := P) (p := p) (s := (x_z9 P p).2) (v := 0) h0 h1 (fun q => rfl)
    have t := H.1
    show (x_z9 P p).2 0 + (x_z9 P p).2 1 + (x_z9 P p).2 2 + (x_z9 P p).2 3 + (x_z9 P p).2 4 + (x_z9 P p).2 5 = n2
    omega
  · have z := H.2 q q0 q1
    show 0 ≤ (if q = p then 0 else P.2 q) ∧ ∀ k : Nat, (k : Int) < (if q = p then 0 else P.2 q) → 0 ≤ P.1 q k ∧ P.1 q k < ca
    by_cases e : q = p
    · rw [if_pos e]
      exact ⟨Int.le_refl _, fun k hk => by omega⟩
    · rw [if_neg e]
      exact z
end XPK
/-- the class's packs -/
noncomputable def PKc (M : mm_M) (P : x_P) : Prop := ∀ p : Int, 0 ≤ p → p ≤ 5 → (M.2.1 25 p.toNat).toInt = P.2 p ∧ ∀ k : Nat, (k : Int) < P.2 p → (M.2.1 (19 + p.toNat) k).toInt = P.1 p k
/-- the reference's -/
noncomputable def PKr (M : mm_M) (P : x_P) : Prop := ∀ p : Int, 0 ≤ p → p ≤ 5 → (M.2.1 100 p.toNat).toInt = P.2 p ∧ ∀ k : Nat, (k : Int) < P.2 p → (M.2.1 99 (30 * p.toNat + k)).toInt = P.1 p k
section PKS
variable {M M1 M2 : mm_M} {P : x_P} {n ca p c : Int}
theorem PKc_f (q : ∀ a i : Nat, 19 ≤ a ∧ a ≤ 25 → M1.2.1 a i = M.2.1 a i) (H : PKc M P) : PKc M1 P := fun p h0 h1 => by
  have z := H p h0 h1
  rw [q 25 p.toNat (by omega)]
  refine ⟨z.1, fun k hk => ?_⟩
  rw [q (19 + p.toNat) k (by omega)]
  exact z.2 k hk
theorem PKr_f (q : ∀ a i : Nat, 99 ≤ a ∧ a ≤ 100 → M1.2.1 a i = M.2.1 a i) (H : PKr M P) : PKr M1 P := fun p h0 h1 => by
  have z := H p h0 h1
  rw [q 100 p.toNat (by omega)]
  refine ⟨z.1, fun k hk => ?_⟩
  rw [q 99 (30 * p.toNat + k) (by omega)]
  exact z.2 k hk
theorem PKc_u {v : Int32} (H : PKc M P) (h0 : 0 ≤ p) (h1 : p ≤ 5) (W : M.2.1 25 p.toNat = v) : v.toInt = P.2 p := by
  rw [← W]
  exact (H p h0 h1).1
theorem PKr_u {v : Int32} (H : PKr M P) (h0 : 0 ≤ p) (h1 : p ≤ 5) (W : M.2.1 100 p.toNat = v) : v.toInt = P.2 p := by
  rw [← W]
  exact (H p h0 h1).1
theorem PKc_r {v : Int32} {r : Nat} {k : Int} (H : PKc M P) (h0 : 0 ≤ p) (h1 : p ≤ 5) (hr : r = 19 + p.toNat) (k0 : 0 ≤ k) (hk : k < P.2 p) (W : M.2.1 r k.toNat = v) : v.toInt = P.1 p k.toNat := by
  rw [← W, hr]
  exact (H p h0 h1).2 k.toNat (by omega)
theorem PKr_r {v : Int32} {k i : Int} (H : PKr M P) (h0 : 0 ≤ p) (h1 : p ≤ 5) (k0 : 0 ≤ k) (hk : k < P.2 p) (hi : i = 30 * p + k) (W : M.2.1 99 i.toNat = v) : v.toInt = P.1 p k.toNat := by
  rw [← W, show i.toNat = 30 * p.toNat + k.toNat by omega]
  exact (H p h0 h1).2 k.toNat (by omega)
theorem PKc_a {v w : Int32} {r i j : Nat} (H : PKc M P) (h0 : 0 ≤ p) (h1 : p ≤ 5) (s0 : 0 ≤ P.2 p) (hr : r = 19 + p.toNat) (W1 : M1 = mm_setI M r i v) (W2 : M2 = mm_setI M1 25 j w) (hi : (i : Int) = P.2 p) (hj : j = p.toNat) (hv : v.toInt = c) (hw : w.toInt = P.2 p + 1) : PKc M2 (x_ap9 P p c) := fun q q0 q1 => by
  subst hj
  have z := H q q0 q1
  show _ = (if q = p then P.2 p + 1 else P.2 q) ∧ ∀ k : Nat, (k : Int) < (if q = p then P.2 p + 1 else P.2 q) → _ = (if q = p ∧ (k : Int) = P.2 p then c else P.1 q k)
  by_cases e : q = p
  · subst e
    rw [if_pos rfl]
    refine ⟨by rw [W_e W2]; exact hw, fun k hk => ?_⟩
    rw [show M2.2.1 (19 + q.toNat) k = M1.2.1 (19 + q.toNat) k from W_n W2 (by omega) rfl]
    by_cases g : (k : Int) = P.2 q
    · rw [if_pos ⟨rfl, g⟩, ← hr, show k = i by omega, W_e W1]
      exact hv
    · rw [if_neg (fun y => g y.2), show M1.2.1 (19 + q.toNat) k = M.2.1 (19 + q.toNat) k from W_n W1 (by omega) rfl]
      exact z.2 k (by omega)
  · rw [if_neg e]
    refine ⟨by rw [show M2.2.1 25 q.toNat = M.2.1 25 q.toNat from W_n W2 (by omega) (W_n W1 (by omega) rfl)]; exact z.1, fun k hk => ?_⟩
    rw [if_neg (fun y => e y.1), show M2.2.1 (19 + q.toNat) k = M.2.1 (19 + q.toNat) k from W_n W2 (by omega) (W_n W1 (by omega) rfl)]
    exact z.2 k hk
theorem PKr_a {v w : Int32} {i j : Nat} (H : PKr M P) (G : ∀ q : Int, 0 ≤ q → q ≤ 5 → 0 ≤ P.2 q ∧ P.2 q ≤ 30) (h0 : 0 ≤ p) (h1 : p ≤ 5) (s1 : P.2 p < 30) (W1 : M1 = mm_setI M 99 i v) (W2 : M2 = mm_setI M1 100 j w) (hi : (i : Int) = 30 * p + P.2 p) (hj : j = p.toNat) (hv : v.toInt = c) (hw : w.toInt = P.2 p + 1) : PKr M2 (x_ap9 P p c) := fun q q0 q1 => by
  subst hj
  have z := H q q0 q1
  have g6 := G q q0 q1
  have gp := G p h0 h1
  show _ = (if q = p then P.2 p + 1 else P.2 q) ∧ ∀ k : Nat, (k : Int) < (if q = p then P.2 p + 1 else P.2 q) → _ = (if q = p ∧ (k : Int) = P.2 p then c else P.1 q k)
  by_cases e : q = p
  · subst e
    rw [if_pos rfl]
    refine ⟨by rw [W_e W2]; exact hw, fun k hk => ?_⟩
    rw [show M2.2.1 99 (30 * q.toNat + k) = M1.2.1 99 (30 * q.toNat + k) from W_n W2 (by omega) rfl]
    by_cases g : (k : Int) = P.2 q
    · rw [if_pos ⟨rfl, g⟩, show 30 * q.toNat + k = i by omega, W_e W1]
      exact hv
    · rw [if_neg (fun y => g y.2), show M1.2.1 99 (30 * q.toNat + k) = M.2.1 99 (30 * q.toNat + k) from W_n W1 (by omega) rfl]
      exact z.2 k (by omega)
  · rw [if_neg e]
    refine ⟨by rw [show M2.2.1 100 q.toNat = M.2.1 100 q.toNat from W_n W2 (by omega) (W_n W1 (by omega) rfl)]; exact z.1, fun k hk => ?_⟩
    rw [if_neg (fun y => e y.1), show M2.2.1 99 (30 * q.toNat + k) = M.2.1 99 (30 * q.toNat + k) from W_n W2 (by omega) (W_n W1 (by omega) rfl)]
    exact z.2 k hk
theorem PKc_z {w : Int32} {j : Nat} (H : PKc M P) (h0 : 0 ≤ p) (h1 : p ≤ 5) (W : M1 = mm_setI M 25 j w) (hj : j = p.toNat) (hw : w.toInt = 0) : PKc M1 (x_z9 P p) := fun q q0 q1 => by
  subst hj
  have z := H q q0 q1
  show _ = (if q = p then 0 else P.2 q) ∧ ∀ k : Nat, (k : Int) < (if q = p then 0 else P.2 q) → _ = P.1 q k
  by_cases e : q = p
  · subst e
    rw [if_pos rfl]
    exact ⟨by rw [W_e W]; exact hw, fun k hk => by omega⟩
  · rw [if_neg e]
    refine ⟨by rw [show M1.2.1 25 q.toNat = M.2.1 25 q.toNat from W_n W (by omega) rfl]; exact z.1, fun k hk => ?_⟩
    rw [show M1.2.1 (19 + q.toNat) k = M.2.1 (19 + q.toNat) k from W_n W (by omega) rfl]
    exact z.2 k hk
theorem PKr_z {w : Int32} {j : Nat} (H : PKr M P) (h0 : 0 ≤ p) (h1 : p ≤ 5) (W : M1 = mm_setI M 100 j w) (hj : j = p.toNat) (hw : w.toInt = 0) : PKr M1 (x_z9 P p) := fun q q0 q1 => by
  subst hj
  have z := H q q0 q1
  show _ = (if q = p then 0 else P.2 q) ∧ ∀ k : Nat, (k : Int) < (if q = p then 0 else P.2 q) → _ = P.1 q k
  by_cases e : q = p
  · subst e
    rw [if_pos rfl]
    exact ⟨by rw [W_e W]; exact hw, fun k hk => by omega⟩
  · rw [if_neg e]
    refine ⟨by rw [show M1.2.1 100 q.toNat = M.2.1 100 q.toNat from W_n W (by omega) rfl]; exact z.1, fun k hk => ?_⟩
    rw [show M1.2.1 99 (30 * q.toNat + k) = M.2.1 99 (30 * q.toNat + k) from W_n W (by omega) rfl]
    exact z.2 k hk
end PKS
/-! dealing, step by step: what is left to deal from here is what was to deal -/
section DLS
variable {R : Nat → Int} {T : Int → Bool} {d l k k2 n : Int} {P P2 E : x_P}
theorem x_dlk_s (h0 : 0 ≤ k) (hk : k < n) (h2 : k2 = k + 1) (H : x_dlk R T d l (n - k).toNat k.toNat P = E) (e : P2 = x_ap9 P (if T (R k.toNat) = true then d else l) (R k.toNat)) : x_dlk R T d l (n - k2).toNat k2.toNat P2 = E := by
  rw [← H, show (n - k).toNat = (n - k2).toNat + 1 by omega, x_dlk, show k2.toNat = k.toNat + 1 by omega, e]
theorem x_dlk_x (hk : n ≤ k) (H : x_dlk R T d l (n - k).toNat k.toNat P = E) : P = E := by
  rw [← H, show (n - k).toNat = 0 by omega]
  rfl
theorem x_dlk_0 (hk : k = 0) : x_dlk R T d l (n - k).toNat k.toNat P = x_dlk R T d l n.toNat 0 P := by
  rw [hk, show n - 0 = n by omega]
  rfl
theorem x_ap9_v {p q c b : Int} (h1 : p = q) (h2 : c = b) : x_ap9 P p c = x_ap9 P q b := by rw [h1, h2]
end DLS
noncomputable def x_dpl (R : Nat → Int) (T : Int → Bool) : Nat → Nat → Int32 → Int32
  | 0, _, b => b
  | m + 1, k, b => x_dpl R T m (k + 1) (if T (R k) = true then b ||| ((1 : Int32) <<< Int32.ofInt (R k)) else b)
section DPS
variable {R : Nat → Int} {T : Int → Bool} {k k2 n : Int} {b b2 E : Int32}
theorem x_dpl_s (h0 : 0 ≤ k) (hk : k < n) (h2 : k2 = k + 1) (H : x_dpl R T (n - k).toNat k.toNat b = E) (e : b2 = if T (R k.toNat) = true then b ||| ((1 : Int32) <<< Int32.ofInt (R k.toNat)) else b) : x_dpl R T (n - k2).toNat k2.toNat b2 = E := by
  rw [← H, show (n - k).toNat = (n - k2).toNat + 1 by omega, x_dpl, show k2.toNat = k.toNat + 1 by omega, e]
theorem x_dpl_x (hk : n ≤ k) (H : x_dpl R T (n - k).toNat k.toNat b = E) : b = E := by
  rw [← H, show (n - k).toNat = 0 by omega]
  rfl
theorem x_dpl_0 (hk : k = 0) (hb : b = 0) : x_dpl R T (n - k).toNat k.toNat b = x_dpl R T n.toNat 0 0 := by
  rw [hk, hb, show n - 0 = n by omega]
  rfl
theorem x_dpl_y {c : Int} {w z : Int32} (t : T c = true) (hc : c = R k.toNat) (e1 : (1 : Int32) <<< w = z) (hw : w.toInt = c) (e2 : b ||| z = b2) : b2 = if T (R k.toNat) = true then b ||| ((1 : Int32) <<< Int32.ofInt (R k.toNat)) else b := by
  rw [← hc, if_pos t, ← e2, ← e1, x_i32 hw]
theorem x_dpl_n {c : Int} (t : ¬ T c = true) (hc : c = R k.toNat) (e : b2 = b) : b2 = if T (R k.toNat) = true then b ||| ((1 : Int32) <<< Int32.ofInt (R k.toNat)) else b := by
  rw [← hc, if_neg t, e]
theorem x_dpl_z {c : Int} {z : Int32} (t : ¬ T c = true) (hc : c = R k.toNat) (hz : z = 0) (e2 : b ||| z = b2) : b2 = if T (R k.toNat) = true then b ||| ((1 : Int32) <<< Int32.ofInt (R k.toNat)) else b := by
  rw [← hc, if_neg t, ← e2, hz, Int32.or_zero]
theorem x_dlk_d {P : x_P} {p c dd l : Int} {v : Int} (hc : v = c) (t : T c = true) (hp : p = dd) : x_ap9 P p v = x_ap9 P (if T c = true then dd else l) c := by
  rw [if_pos t, hp, hc]
theorem x_dlk_l {P : x_P} {p c dd l : Int} {v : Int} (hc : v = c) (t : ¬ T c = true) (hp : p = l) : x_ap9 P p v = x_ap9 P (if T c = true then dd else l) c := by
  rw [if_neg t, hp, hc]
end DPS
section XWS
variable {t : Nat → Int} {nn : Int} {s : x_S} {n a : Int} {op : List Int} {A : x_A}
theorem w_end (h0 : 0 ≤ a) (h1 : a ≤ nn) (h : x_kind t nn a = 0) : x_ww t nn s 0 n [] A a = .inr (n, A) := by
  rw [x_ww_0 h0 h1]; unfold x_w0; rw [if_neg (by omega), if_pos h]
theorem w_1x (h0 : 0 ≤ a) (h1 : a ≤ nn) (h : ¬ x_kind t nn a = 1) (h2 : ¬ x_kind t nn a = 0) : x_ww t nn s 0 n [] A a = .inl (1, a) := by
  rw [x_ww_0 h0 h1]; unfold x_w0; rw [if_neg h, if_neg h2]
theorem w_cl {o : Int} (h0 : 0 ≤ a) (h1 : a ≤ nn) (h : x_kind t nn a = 4 ∧ x_val t nn a = 41) : x_ww t nn s 0 n (o :: op) A a = x_ww t nn s 0 n op (x_ke A o n) (x_ns t nn a) := by
  rw [x_ww_0 h0 h1]; unfold x_w0; rw [if_neg (by omega)]; show x_wsg t nn 41 a _ = _; unfold x_wsg; rw [if_pos h]
theorem w_clx {o : Int} (h0 : 0 ≤ a) (h1 : a ≤ nn) (h : ¬ x_kind t nn a = 1) (h2 : ¬ (x_kind t nn a = 4 ∧ x_val t nn a = 41)) : x_ww t nn s 0 n (o :: op) A a = .inl (1, a) := by
  rw [x_ww_0 h0 h1]; unfold x_w0; rw [if_neg h]; show x_wsg t nn 41 a _ = _; unfold x_wsg; rw [if_neg h2]
theorem w_kx (h0 : 0 ≤ a) (h1 : a ≤ nn) (h : x_kind t nn a = 1) (h2 : ¬ (x_kx (x_val t nn a) = 7 ∨ x_kx (x_val t nn a) = 10 ∨ x_kx (x_val t nn a) = 11)) : x_ww t nn s 0 n op A a = .inl (1, a) := by
  rw [x_ww_0 h0 h1]; unfold x_w0; rw [if_pos h, if_neg (by omega), if_neg (by omega), if_neg (by omega)]
theorem w_40 (h0 : 0 ≤ a) (h1 : a ≤ nn) (h : x_kind t nn a = 1) (h2 : x_kx (x_val t nn a) = 7 ∨ x_kx (x_val t nn a) = 10 ∨ x_kx (x_val t nn a) = 11) (hn : n = 40) : x_ww t nn s 0 n op A a = .inl (2, a) := by
  rw [x_ww_0 h0 h1]; unfold x_w0; rw [if_pos h]
  rcases h2 with z | z | z
  · rw [if_pos z, if_pos hn]
  · rw [if_neg (by omega), if_pos z, if_pos hn]
  · rw [if_neg (by omega), if_neg (by omega), if_pos z, if_pos hn]
theorem w_ps (h0 : 0 ≤ a) (h1 : a ≤ nn) (h : x_kind t nn a = 1) (h2 : x_kx (x_val t nn a) = 7) (hn : ¬ n = 40) : x_ww t nn s 0 n op A a = x_wps t nn s (x_ns t nn a) (x_ww t nn s 1 (n + 1) op (x_k1 A n 0 a)) := by
  rw [x_ww_0 h0 h1]; unfold x_w0; rw [if_pos h, if_pos h2, if_neg hn]
theorem w_jn (h0 : 0 ≤ a) (h1 : a ≤ nn) (h : x_kind t nn a = 1) (h2 : x_kx (x_val t nn a) = 10) (hn : ¬ n = 40) : x_ww t nn s 0 n op A a = x_wjn t nn (x_ns t nn a) (x_ww t nn s 0 (n + 1) op (x_k1 A n 1 a)) := by
  rw [x_ww_0 h0 h1]; unfold x_w0; rw [if_pos h, if_neg (by omega), if_pos h2, if_neg hn]
theorem w_ag (h0 : 0 ≤ a) (h1 : a ≤ nn) (h : x_kind t nn a = 1) (h2 : x_kx (x_val t nn a) = 11) (hn : ¬ n = 40) : x_ww t nn s 0 n op A a = x_wag t nn op.length (x_ns t nn a) (fun tm => x_ww t nn s 0 (n + 1) (n :: op) (x_kt A n tm)) := by
  rw [x_ww_0 h0 h1]; unfold x_w0; rw [if_pos h, if_neg (by omega), if_neg (by omega), if_pos h2, if_neg hn]
theorem w1_n (h0 : 0 ≤ a) (h1 : a ≤ nn) (h : x_kind t nn a = 2 ∨ x_kind t nn a = 3) : x_ww t nn s 1 n op A a = x_wnd t nn s a (x_ww t nn s 1 n op A) := by
  rw [x_ww_1 h0 h1]; unfold x_w1; rw [if_pos h]
theorem w1_s (h0 : 0 ≤ a) (h1 : a ≤ nn) (h : x_kind t nn a = 4 ∧ x_val t nn a = 59) : x_ww t nn s 1 n op A a = x_ww t nn s 0 n op A (x_ns t nn a) := by
  rw [x_ww_1 h0 h1]; unfold x_w1; rw [if_neg (by omega)]; unfold x_wsg; rw [if_pos h]
theorem w1_x (h0 : 0 ≤ a) (h1 : a ≤ nn) (h : ¬ (x_kind t nn a = 2 ∨ x_kind t nn a = 3)) (h2 : ¬ (x_kind t nn a = 4 ∧ x_val t nn a = 59)) : x_ww t nn s 1 n op A a = .inl (1, a) := by
  rw [x_ww_1 h0 h1]; unfold x_w1; rw [if_neg h]; unfold x_wsg; rw [if_neg h2]
/-! pieces of a step -/
variable {k : Int → x_WR}
theorem p_wp (h : 0 ≤ x_kp t nn a) : x_wp t nn a k = k (x_ns t nn a) := by unfold x_wp; rw [if_pos h]
theorem p_wpx (h : x_kp t nn a = -1) : x_wp t nn a k = .inl (1, a) := by unfold x_wp; rw [if_neg (by omega)]
theorem p_wy {c : Int} (h : x_kind t nn a = 1 ∧ x_kx (x_val t nn a) = c) : x_wy2 t nn c a k = k (x_ns t nn a) := by unfold x_wy2; rw [if_pos h]
theorem p_wyx {c : Int} (h : ¬ (x_kind t nn a = 1 ∧ x_kx (x_val t nn a) = c)) : x_wy2 t nn c a k = .inl (1, a) := by unfold x_wy2; rw [if_neg h]
theorem p_ws {c : Int} (h : x_kind t nn a = 4 ∧ x_val t nn a = c) : x_wsg t nn c a k = k (x_ns t nn a) := by unfold x_wsg; rw [if_pos h]
theorem p_wsx {c : Int} (h : ¬ (x_kind t nn a = 4 ∧ x_val t nn a = c)) : x_wsg t nn c a k = .inl (1, a) := by unfold x_wsg; rw [if_neg h]
theorem p_nb {m : Int} (h : x_kind t nn a = 3) (h2 : x_val t nn a ≤ m) : x_wnb t nn m a k = k (x_ns t nn a) := by unfold x_wnb; rw [if_pos h, if_pos h2]
theorem p_nb2 {m : Int} (h : x_kind t nn a = 3) (h2 : ¬ x_val t nn a ≤ m) : x_wnb t nn m a k = .inl (2, a) := by unfold x_wnb; rw [if_pos h, if_neg h2]
theorem p_nb1 {m : Int} (h : ¬ x_kind t nn a = 3) : x_wnb t nn m a k = .inl (1, a) := by unfold x_wnb; rw [if_neg h]
theorem p_ndw (h : x_kind t nn a = 2) (h2 : 0 ≤ x_fn s 6 (x_val t nn a)) : x_wnd t nn s a k = k (x_ns t nn a) := by unfold x_wnd; rw [if_pos h, if_pos h2]
theorem p_ndf (h : x_kind t nn a = 2) (h2 : ¬ 0 ≤ x_fn s 6 (x_val t nn a)) (h3 : 0 ≤ x_fn s 1 (x_val t nn a)) : x_wnd t nn s a k = x_wnb t nn (x_row s 4 (x_fn s 1 (x_val t nn a)) - x_row s 3 (x_fn s 1 (x_val t nn a))) (x_ns t nn a) k := by unfold x_wnd; rw [if_pos h, if_neg h2, if_pos h3]
theorem p_ndx (h : x_kind t nn a = 2) (h2 : ¬ 0 ≤ x_fn s 6 (x_val t nn a)) (h3 : ¬ 0 ≤ x_fn s 1 (x_val t nn a)) : x_wnd t nn s a k = .inl (4, a) := by unfold x_wnd; rw [if_pos h, if_neg h2, if_neg h3]
theorem p_ndn (h : ¬ x_kind t nn a = 2) : x_wnd t nn s a k = x_wnb t nn (s.1 - 1) a k := by unfold x_wnd; rw [if_neg h]
theorem x_pk_b : -1 ≤ x_kp t nn a ∧ x_kp t nn a ≤ 5 := by
  unfold x_kp
  split <;> omega
theorem x_pk_y {l : Int} (h : x_kind t nn a = 2) (h1 : 1 ≤ l) (h2 : l ≤ 6) (hv : x_val t nn a = l * 33554432) : x_kp t nn a = l - 1 := by
  unfold x_kp
  rw [if_pos (by omega)]
  omega
theorem x_pk_n (h : ¬ (x_kind t nn a = 2 ∧ x_val t nn a % 33554432 = 0 ∧ 1 ≤ x_val t nn a / 33554432 ∧ x_val t nn a / 33554432 ≤ 6)) : x_kp t nn a = -1 := by
  unfold x_kp
  rw [if_neg h]
end XWS
theorem winl {R : x_WR} {x y x2 y2 : Int} (h1 : x = x2) (h2 : y = y2) (H : R = .inl (x2, y2)) : R = .inl (x, y) := by rw [h1, h2]; exact H
theorem w_v {t : Nat → Int} {nn : Int} {s : x_S} {tu n n2 a a2 : Int} {op : List Int} {A : x_A} (h1 : n = n2) (h2 : a = a2) : x_ww t nn s tu n op A a = x_ww t nn s tu n2 op A a2 := by rw [h1, h2]
theorem x_kx_w2 (v : Int) : (x_kx v = 7 ↔ v = 538561536) ∧ (x_kx v = 8 ↔ v = 686817280) ∧ (x_kx v = 9 ↔ v = 93323264) ∧ (x_kx v = 10 ↔ v = 351582208) ∧ (x_kx v = 11 ↔ v = 40936896) := by
  refine ⟨⟨fun h => ?_, fun h => by rw [h]; rfl⟩, ⟨fun h => ?_, fun h => by rw [h]; rfl⟩, ⟨fun h => ?_, fun h => by rw [h]; rfl⟩, ⟨fun h => ?_, fun h => by rw [h]; rfl⟩, ⟨fun h => ?_, fun h => by rw [h]; rfl⟩⟩
  · rcases x_kx_c h (by decide) with z | z | z | z | z | z | z | z | z | z | z | z | z | z | z <;> omega
  · rcases x_kx_c h (by decide) with z | z | z | z | z | z | z | z | z | z | z | z | z | z | z <;> omega
  · rcases x_kx_c h (by decide) with z | z | z | z | z | z | z | z | z | z | z | z | z | z | z <;> omega
  · rcases x_kx_c h (by decide) with z | z | z | z | z | z | z | z | z | z | z | z | z | z | z <;> omega
  · rcases x_kx_c h (by decide) with z | z | z | z | z | z | z | z | z | z | z | z | z | z | z <;> omega
/-! a block of steps, well bracketed -/
noncomputable def BLK (A : x_A) : Nat → Int → Int → Int → Prop
  | 0, b, e, _ => b = e
  | f + 1, b, e, o => b = e ∨ (b < e ∧ (((A.1 b.toNat = 0 ∨ A.1 b.toNat = 1) ∧ A.2.2 b.toNat = b + 1 ∧ BLK A f (b + 1) e o) ∨ (A.1 b.toNat = 2 ∧ o ≤ 4 ∧ 0 ≤ A.2.1 b.toNat ∧ A.2.1 b.toNat ≤ 99 ∧ BLK A f (b + 1) (A.2.2 b.toNat) (o + 1) ∧ BLK A f (A.2.2 b.toNat) e o)))
theorem BLK_le {A : x_A} : ∀ (f : Nat) (b e o : Int), BLK A f b e o → b ≤ e
  | 0, b, e, o, h => by
    have h : b = e := h
    omega
  | f + 1, b, e, o, h => by
    rcases h with h | h <;> omega
theorem BLK_m {A : x_A} : ∀ (f g : Nat) (b e o : Int), f ≤ g → BLK A f b e o → BLK A g b e o
  | 0, 0, b, e, o, _, h => h
  | 0, g + 1, b, e, o, _, h => Or.inl h
  | f + 1, 0, b, e, o, hg, _ => by omega
  | f + 1, g + 1, b, e, o, hg, h => by
    rcases h with h | ⟨h1, ⟨h2, h3, h4⟩ | ⟨h2, h3, h4, h5, h6, h7⟩⟩
    · exact Or.inl h
    · exact Or.inr ⟨h1, Or.inl ⟨h2, h3, BLK_m f g _ _ _ (by omega) h4⟩⟩
    · exact Or.inr ⟨h1, Or.inr ⟨h2, h3, h4, h5, BLK_m f g _ _ _ (by omega) h6, BLK_m f g _ _ _ (by omega) h7⟩⟩
/-- a block is one of the same steps, as other rows tell them alike -/
theorem BLK_q {A B : x_A} : ∀ (f : Nat) (b e o : Int), 0 ≤ b → (∀ i : Nat, b ≤ (i : Int) → (i : Int) < e → B.1 i = A.1 i ∧ B.2.1 i = A.2.1 i ∧ B.2.2 i = A.2.2 i) → BLK A f b e o → BLK B f b e o
  | 0, b, e, o, _, _, h => h
  | f + 1, b, e, o, h0, q, h => by
    rcases h with h | ⟨h1, ⟨h2, h3, h4⟩ | ⟨h2, h3, h4, h5, h6, h7⟩⟩
    · exact Or.inl h
    · have z := q b.toNat (by omega) (by omega)
      refine Or.inr ⟨h1, Or.inl ⟨by rw [z.1]; exact h2, by rw [z.2.2]; exact h3, BLK_q f _ _ _ (by omega) (fun i a1 a2 => q i (by omega) a2) h4⟩⟩
    · have z := q b.toNat (by omega) (by omega)
      have l6 := BLK_le _ _ _ _ h6
      have l7 := BLK_le _ _ _ _ h7
      refine Or.inr ⟨h1, Or.inr ⟨by rw [z.1]; exact h2, h3, by rw [z.2.1]; exact h4, by rw [z.2.1]; exact h5, ?_, ?_⟩⟩
      · rw [z.2.2]; exact BLK_q f _ _ _ (by omega) (fun i a1 a2 => q i (by omega) (by omega)) h6
      · rw [z.2.2]; exact BLK_q f _ _ _ (by omega) (fun i a1 a2 => q i (by omega) a2) h7
/-- one more behind it -/
theorem BLK_a {A : x_A} {g : Nat} : ∀ (f : Nat) (b c e o : Int), 0 ≤ b → BLK A f b c o → BLK A g c e o → c ≤ e → BLK A (f + g) b e o
  | 0, b, c, e, o, _, h, hg, _ => by
    have h : b = c := h
    rw [h, Nat.zero_add]
    exact hg
  | f + 1, b, c, e, o, h0, h, hg, hc => by
    rw [show f + 1 + g = f + g + 1 by omega]
    rcases h with h | ⟨h1, ⟨h2, h3, h4⟩ | ⟨h2, h3, h4, h5, h6, h7⟩⟩
    · rw [h]
      exact BLK_m g (f + g + 1) _ _ _ (by omega) hg
    · exact Or.inr ⟨by omega, Or.inl ⟨h2, h3, BLK_a f _ _ _ _ (by omega) h4 hg hc⟩⟩
    · have l6 := BLK_le _ _ _ _ h6
      exact Or.inr ⟨by omega, Or.inr ⟨h2, h3, h4, h5, BLK_m f (f + g) _ _ _ (by omega) h6, BLK_a f _ _ _ _ (by omega) h7 hg hc⟩⟩
noncomputable def BLKX (A : x_A) (b e o : Int) : Prop := ∃ f : Nat, BLK A f b e o
/-! the work is done: a machine over its steps; a, what is open (a step, how often still), steps done, passes -/
abbrev x_Q := Int × x_P
abbrev x_DS := Int × List (Int × Int) × Int × x_Q
abbrev x_DR := Int × Int × x_Q
noncomputable def x_d1 (A : x_A) (U : Int → x_Q → x_Q) (n : Int) (S : x_DS) : x_DS ⊕ x_DR :=
  if S.1 = n then .inr (0, S.2.2.1, S.2.2.2) else if S.2.2.1 = 3000 then .inr (1, S.2.2.1, S.2.2.2)
  else if A.1 S.1.toNat = 0 ∨ A.1 S.1.toNat = 1 then .inl (S.1 + 1, S.2.1, S.2.2.1 + 1, U S.1 S.2.2.2)
  else if A.2.1 S.1.toNat = 0 then .inl (A.2.2 S.1.toNat, S.2.1, S.2.2.1 + 1, S.2.2.2)
  else .inl (S.1 + 1, (S.1, A.2.1 S.1.toNat) :: S.2.1, S.2.2.1 + 1, S.2.2.2)
noncomputable def x_ds (A : x_A) (U : Int → x_Q → x_Q) (n : Int) (S : x_DS) : x_DS ⊕ x_DR := match S.2.1 with
  | [] => x_d1 A U n S
  | q :: r => if S.1 = A.2.2 q.1.toNat then (if 0 < q.2 - 1 then .inl (q.1 + 1, (q.1, q.2 - 1) :: r, S.2.2) else .inl (S.1, r, S.2.2)) else x_d1 A U n S
noncomputable def x_wrun (A : x_A) (U : Int → x_Q → x_Q) (n : Int) : Nat → x_DS → Option x_DR
  | 0, _ => none
  | f + 1, S => match x_ds A U n S with
    | .inl S2 => x_wrun A U n f S2
    | .inr R => some R
noncomputable def RUN (A : x_A) (U : Int → x_Q → x_Q) (n : Int) (S : x_DS) (R : x_DR) : Prop := ∃ f : Nat, x_wrun A U n f S = some R
section RUNS
variable {A : x_A} {U : Int → x_Q → x_Q} {n : Int} {S S2 : x_DS} {R R2 : x_DR}
theorem RUN_s (h : x_ds A U n S = .inl S2) (H : RUN A U n S2 R) : RUN A U n S R := by
  obtain ⟨f, hf⟩ := H
  refine ⟨f + 1, ?_⟩
  rw [x_wrun, h]
  exact hf
theorem RUN_e (h : x_ds A U n S = .inr R) : RUN A U n S R := by
  refine ⟨1, ?_⟩
  rw [x_wrun, h]
theorem x_wrun_u : ∀ (f g : Nat) (S : x_DS), x_wrun A U n f S = some R → x_wrun A U n g S = some R2 → R = R2
  | 0, _, _, h, _ => by
    rw [x_wrun] at h
    cases h
  | _ + 1, 0, _, _, h => by
    rw [x_wrun] at h
    cases h
  | f + 1, g + 1, S, h, h2 => by
    rw [x_wrun] at h h2
    cases e : x_ds A U n S with
    | inl S2 =>
      rw [e] at h h2
      exact x_wrun_u f g S2 h h2
    | inr Q =>
      rw [e] at h h2
      have a : Q = R := Option.some.inj h
      have b : Q = R2 := Option.some.inj h2
      rw [← a, ← b]
theorem RUN_u (h : RUN A U n S R) (h2 : RUN A U n S R2) : R = R2 := by
  obtain ⟨f, hf⟩ := h
  obtain ⟨g, hg⟩ := h2
  exact x_wrun_u f g S hf hg
noncomputable def x_ec (A : x_A) (n : Int) (k : List (Int × Int)) (to : Int) : Prop := match k with
  | [] => to = n
  | q :: _ => A.2.2 q.1.toNat = to
variable {a to dn : Int} {ps : x_Q} {k : List (Int × Int)}
theorem x_ds_1 (he : x_ec A n k to) (ha : a < to) : x_ds A U n (a, k, dn, ps) = x_d1 A U n (a, k, dn, ps) := by
  cases k with
  | nil => rfl
  | cons q r =>
    have he : A.2.2 q.1.toNat = to := he
    show (if a = A.2.2 q.1.toNat then _ else _) = _
    rw [if_neg (by omega)]
theorem r_sp (he : x_ec A n k to) (ha : a < to) (hn : to ≤ n) (hd : dn = 3000) : RUN A U n (a, k, dn, ps) (1, dn, ps) := by
  refine RUN_e ?_
  rw [x_ds_1 he ha]
  show (if a = n then _ else if dn = 3000 then _ else _) = _
  rw [if_neg (by omega), if_pos hd]
theorem r_st (he : x_ec A n k to) (ha : a < to) (hn : to ≤ n) (hd : ¬ dn = 3000) (hk : A.1 a.toNat = 0 ∨ A.1 a.toNat = 1) (H : RUN A U n (a + 1, k, dn + 1, U a ps) R) : RUN A U n (a, k, dn, ps) R := by
  refine RUN_s ?_ H
  rw [x_ds_1 he ha]
  show (if a = n then _ else if dn = 3000 then _ else if A.1 a.toNat = 0 ∨ A.1 a.toNat = 1 then _ else _) = _
  rw [if_neg (by omega), if_neg hd, if_pos hk]
theorem r_a0 (he : x_ec A n k to) (ha : a < to) (hn : to ≤ n) (hd : ¬ dn = 3000) (hk : A.1 a.toNat = 2) (ht : A.2.1 a.toNat = 0) (H : RUN A U n (A.2.2 a.toNat, k, dn + 1, ps) R) : RUN A U n (a, k, dn, ps) R := by
  refine RUN_s ?_ H
  rw [x_ds_1 he ha]
  show (if a = n then _ else if dn = 3000 then _ else if A.1 a.toNat = 0 ∨ A.1 a.toNat = 1 then _ else if A.2.1 a.toNat = 0 then _ else _) = _
  rw [if_neg (by omega), if_neg hd, if_neg (by omega), if_pos ht]
theorem r_a1 (he : x_ec A n k to) (ha : a < to) (hn : to ≤ n) (hd : ¬ dn = 3000) (hk : A.1 a.toNat = 2) (ht : ¬ A.2.1 a.toNat = 0) (H : RUN A U n (a + 1, (a, A.2.1 a.toNat) :: k, dn + 1, ps) R) : RUN A U n (a, k, dn, ps) R := by
  refine RUN_s ?_ H
  rw [x_ds_1 he ha]
  show (if a = n then _ else if dn = 3000 then _ else if A.1 a.toNat = 0 ∨ A.1 a.toNat = 1 then _ else if A.2.1 a.toNat = 0 then _ else _) = _
  rw [if_neg (by omega), if_neg hd, if_neg (by omega), if_neg ht]
variable {l lf : Int}
theorem r_lp (ha : a = A.2.2 l.toNat) (h : 0 < lf - 1) (H : RUN A U n (l + 1, (l, lf - 1) :: k, dn, ps) R) : RUN A U n (a, (l, lf) :: k, dn, ps) R := by
  refine RUN_s ?_ H
  show (if a = A.2.2 l.toNat then (if 0 < lf - 1 then _ else _) else _) = _
  rw [if_pos ha, if_pos h]
theorem r_lx (ha : a = A.2.2 l.toNat) (h : ¬ 0 < lf - 1) (H : RUN A U n (a, k, dn, ps) R) : RUN A U n (a, (l, lf) :: k, dn, ps) R := by
  refine RUN_s ?_ H
  show (if a = A.2.2 l.toNat then (if 0 < lf - 1 then _ else _) else _) = _
  rw [if_pos ha, if_neg h]
end RUNS
theorem w1_ny {t : Nat → Int} {nn : Int} {s : x_S} {n a c : Int} {op : List Int} {A : x_A} (h0 : 0 ≤ a) (h1 : a ≤ nn) (ok : ∀ k : Int → x_WR, x_wnd t nn s a k = k c) : x_ww t nn s 1 n op A a = x_ww t nn s 1 n op A c := by
  by_cases g : x_kind t nn a = 2 ∨ x_kind t nn a = 3
  · exact (w1_n h0 h1 g).trans (ok _)
  · exfalso
    have e := ok (fun _ => .inl (0, 0))
    rw [p_ndn (by omega), p_nb1 (by omega)] at e
    injection e with e
    injection e with e e2
    omega
theorem w1_nx {t : Nat → Int} {nn : Int} {s : x_S} {n a x y : Int} {op : List Int} {A : x_A} (h0 : 0 ≤ a) (h1 : a ≤ nn) (h2 : ¬ (x_kind t nn a = 4 ∧ x_val t nn a = 59)) (no : ∀ k : Int → x_WR, x_wnd t nn s a k = .inl (x, y)) : x_ww t nn s 1 n op A a = .inl (x, y) := by
  by_cases g : x_kind t nn a = 2 ∨ x_kind t nn a = 3
  · exact (w1_n h0 h1 g).trans (no _)
  · have e := no (fun _ => .inl (0, 0))
    rw [p_ndn (by omega), p_nb1 (by omega)] at e
    rw [w1_x h0 h1 g h2, e]
theorem i_shr25 {x v : Int32} (e : x >>> (25 : Int32) = v) : v.toInt = x.toInt / 33554432 := by
  rw [← e]
  show (x >>> (25 : Int32)).toBitVec.toInt = _
  rw [Int32.toBitVec_shiftRight]
  show (x.toBitVec.sshiftRight ((25 : Int32).toBitVec.smod 32).toNat).toInt = _
  rw [show ((25 : Int32).toBitVec.smod 32).toNat = 25 by decide, BitVec.toInt_sshiftRight, Int.shiftRight_eq_div_pow]
  rfl
theorem x_l25 : ∀ k : Fin 7, ((Int32.ofInt (k.val : Int)) <<< (25 : Int32)).toInt = (k.val : Int) * 33554432 := by decide +kernel
theorem i_shl25 {x v : Int32} (h0 : 0 ≤ x.toInt) (h1 : x.toInt ≤ 6) (e : x <<< (25 : Int32) = v) : v.toInt = x.toInt * 33554432 := by
  rw [← e]
  have q := x_l25 ⟨x.toInt.toNat, by omega⟩
  simp only [show ((x.toInt.toNat : Nat) : Int) = x.toInt by omega, Int32.ofInt_toInt] at q
  exact q
theorem i_and25 {x v : Int32} (e : x &&& (33554431 : Int32) = v) : v.toInt = x.toInt % 33554432 := by
  have e2 : v.toBitVec.toNat = x.toBitVec.toNat % 33554432 := by
    rw [← e, Int32.toBitVec_and, BitVec.toNat_and]
    show x.toBitVec.toNat &&& 33554431 = _
    rw [show (33554431 : Nat) = 2 ^ 25 - 1 from rfl, Nat.and_two_pow_sub_one_eq_mod]
  have a : v.toInt = if 2 * v.toBitVec.toNat < 2 ^ 32 then (v.toBitVec.toNat : Int) else (v.toBitVec.toNat : Int) - (2 ^ 32 : Nat) := BitVec.toInt_eq_toNat_cond v.toBitVec
  have b : x.toInt = if 2 * x.toBitVec.toNat < 2 ^ 32 then (x.toBitVec.toNat : Int) else (x.toBitVec.toNat : Int) - (2 ^ 32 : Nat) := BitVec.toInt_eq_toNat_cond x.toBitVec
  have c : x.toBitVec.toNat < 2 ^ 32 := x.toBitVec.isLt
  simp only [Nat.reducePow] at a b c
  rw [a, b, e2]
  split <;> split <;> omega
section WJ
variable {t : Nat → Int} {nn a : Int} {k : Int → x_WR}
theorem wj_1 (h : x_kp t nn a = -1) : x_wjn t nn a k = .inl (1, a) := by
  unfold x_wjn
  exact p_wpx h
theorem wj_2 (h : 0 ≤ x_kp t nn a) (h2 : x_kp t nn (x_ns t nn a) = -1) : x_wjn t nn a k = .inl (1, x_ns t nn a) := by
  unfold x_wjn
  rw [p_wp h, if_neg (by omega)]
theorem wj_3 (h : 0 ≤ x_kp t nn a) (h2 : 0 ≤ x_kp t nn (x_ns t nn a)) (h3 : x_kp t nn (x_ns t nn a) = x_kp t nn a) : x_wjn t nn a k = .inl (3, x_ns t nn a) := by
  unfold x_wjn
  rw [p_wp h, if_pos h2, if_pos h3]
theorem wj_4 (h : 0 ≤ x_kp t nn a) (h2 : 0 ≤ x_kp t nn (x_ns t nn a)) (h3 : ¬ x_kp t nn (x_ns t nn a) = x_kp t nn a) (h4 : ¬ (x_kind t nn (x_ns t nn (x_ns t nn a)) = 4 ∧ x_val t nn (x_ns t nn (x_ns t nn a)) = 59)) : x_wjn t nn a k = .inl (1, x_ns t nn (x_ns t nn a)) := by
  unfold x_wjn
  rw [p_wp h, if_pos h2, if_neg h3, p_wsx h4]
theorem wj_y (h : 0 ≤ x_kp t nn a) (h2 : 0 ≤ x_kp t nn (x_ns t nn a)) (h3 : ¬ x_kp t nn (x_ns t nn a) = x_kp t nn a) (h4 : x_kind t nn (x_ns t nn (x_ns t nn a)) = 4 ∧ x_val t nn (x_ns t nn (x_ns t nn a)) = 59) : x_wjn t nn a k = k (x_ns t nn (x_ns t nn (x_ns t nn a))) := by
  unfold x_wjn
  rw [p_wp h, if_pos h2, if_neg h3, p_ws h4]
end WJ
