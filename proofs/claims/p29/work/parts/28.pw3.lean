section SAAL
variable {X : mm_X} {d mi pc : Nat} {ls st : List Value} {M : mm_M} {Q : Option Value → mm_M → Prop} {len a b : Nat} {ps : List Nat} {x : Int32} {A : Int}
theorem s_aalE (hc : mm_code mi pc = some (.aaload, len, a, b, ps)) (hG : g_G M) (ex : x.toInt = A) (h0 : 0 ≤ A) (h1 : A < 6) (h : ∀ r : Nat, r = 19 + A.toNat → mm_T X d mi (pc + len) ls (.ref r :: st) M Q) : mm_T X d mi pc ls (.int x :: .ref 18 :: st) M Q := tt_1 hc (by
  show mm_b (mm_isObj M 18 104) (if x < 0 ∨ M.1.1.2.2 18 ≤ x.toNatClampNeg then False else mm_gO (M.2.2.2 18 x.toNatClampNeg) (fun v => mm_T X d mi (pc + len) ls (.ref v :: st) M Q) False) False
  rw [g_o hG rfl]
  show (if x < 0 ∨ M.1.1.2.2 18 ≤ x.toNatClampNeg then False else mm_gO (M.2.2.2 18 x.toNatClampNeg) (fun v => mm_T X d mi (pc + len) ls (.ref v :: st) M Q) False)
  rw [if_neg (by rw [g_l (n := 6) hG rfl rfl]; exact i_ix ex h0 h1), show x.toNatClampNeg = A.toNat by rw [← ex]; rfl]
  obtain ⟨k, hk, h6⟩ : ∃ k : Nat, A.toNat = k ∧ k < 6 := ⟨_, rfl, by omega⟩
  rw [hk] at h ⊢
  rcases (show k = 0 ∨ k = 1 ∨ k = 2 ∨ k = 3 ∨ k = 4 ∨ k = 5 by omega) with z | z | z | z | z | z <;> subst z
  · rw [g_r (v := 19) hG rfl]; exact h 19 rfl
  · rw [g_r (v := 20) hG rfl]; exact h 20 rfl
  · rw [g_r (v := 21) hG rfl]; exact h 21 rfl
  · rw [g_r (v := 22) hG rfl]; exact h 22 rfl
  · rw [g_r (v := 23) hG rfl]; exact h 23 rfl
  · rw [g_r (v := 24) hG rfl]; exact h 24 rfl)
end SAAL
theorem x_mi_v {x m : Int64} {a b : Int} (h : b = a) (H : x_mi x b m) : x_mi x a m := by rw [← h]; exact H
/-! the class lays the cards -/
noncomputable def PLC (M : mm_M) (K : x_Kn) (ov : Int32) (ho ca a : Int) : Prop := ∀ c : Nat, (c : Int) < a → (c : Int) < ca → ∀ i : Nat, (i : Int) < ho → x_on (M.2.2.1 27 c) i = x_on (K.1 c) (x_pl ho (x_ov ov c) i)
section PLCS
variable {M M1 : mm_M} {K : x_Kn} {ov : Int32} {ho ca a a2 : Int} {l m : Int64}
theorem PLC_0 (h : a = 0) : PLC M K ov ho ca a := fun c hc => by omega
theorem PLC_f (q : ∀ i : Nat, M1.2.2.1 27 i = M.2.2.1 27 i) (H : PLC M K ov ho ca a) : PLC M1 K ov ho ca a := fun c h1 h2 i hi => by
  rw [q c]
  exact H c h1 h2 i hi
theorem PLC_e (h : a2 ≤ a) (H : PLC M K ov ho ca a) : PLC M K ov ho ca a2 := fun c h1 h2 i hi => H c (by omega) h2 i hi
theorem PLC_o {ov2 : Int32} (e : ov2 = ov) (H : PLC M K ov ho ca a) : PLC M K ov2 ho ca a := by rw [e]; exact H
theorem PLC_n {j : Nat} (H : PLC M K ov ho ca a) (W : M1 = mm_setL M 27 j l) (h0 : 0 ≤ a) (hj : j = a.toNat) (h2 : a2 = a + 1) (hl : a < ca → l = K.1 a.toNat) (o : x_ov ov a = false) : PLC M1 K ov ho ca a2 := fun c h1 h3 i hi => by
  subst hj
  by_cases g : (c : Int) < a
  · rw [L_n W (by omega) rfl]
    exact H c g h3 i hi
  · have e : c = a.toNat := by omega
    subst e
    rw [L_e W, hl (by omega), show ((a.toNat : Nat) : Int) = a by omega, o]
    rfl
theorem PLC_y {j : Nat} (H : PLC M K ov ho ca a) (W : M1 = mm_setL M 27 j m) (h0 : 0 ≤ a) (hj : j = a.toNat) (h2 : a2 = a + 1) (hl : a < ca → l = K.1 a.toNat) (mi : x_mi l ho m) (o : x_ov ov a = true) : PLC M1 K ov ho ca a2 := fun c h1 h3 i hi => by
  subst hj
  by_cases g : (c : Int) < a
  · rw [L_n W (by omega) rfl]
    exact H c g h3 i hi
  · have e : c = a.toNat := by omega
    subst e
    rw [L_e W, mi i, hl (by omega), show ((a.toNat : Nat) : Int) = a by omega, o, decide_eq_true hi]
    rfl
theorem x_ov_y {c : Int} {w u v : Int32} (e1 : ov >>> w = u) (e2 : u &&& (1 : Int32) = v) (hw : w.toInt = c) (h : v.toInt = 1) : x_ov ov c = true := by
  unfold x_ov
  rw [← x_i32 hw, e1, e2]
  exact decide_eq_true h
theorem x_ov_n {c : Int} {w u v : Int32} (e1 : ov >>> w = u) (e2 : u &&& (1 : Int32) = v) (hw : w.toInt = c) (h : ¬ v.toInt = 1) : x_ov ov c = false := by
  unfold x_ov
  rw [← x_i32 hw, e1, e2]
  exact decide_eq_false h
end PLCS
theorem x_of_e {x : Int64} {v : Int32} {h : Int} (hv : v.toInt = h) (h0 : 0 ≤ h) (h1 : h < 64) : x_eq ((x >>> (v.toInt64 &&& 63)) &&& (1 : Int64)) 1 = 1 ↔ x_on x h.toNat = true := by
  have ev : v = Int32.ofInt ((h.toNat : Nat) : Int) := by rw [show ((h.toNat : Nat) : Int) = h by omega, ← hv, Int32.ofInt_toInt]
  rw [x_eq_1, ev]
  exact x_shr_64 (bits := x) (h := h.toNat) (by omega)
/-! the reference: a card falls -/
section FLS
variable {X nd : Int64} {ho h h2 v : Int} {o : Bool}
theorem x_fa_0 (hh : h = 0) : x_dtr X nd ho o h.toNat = true := by
  rw [hh]
  rfl
theorem x_fa_s (H : x_dtr X nd ho o h.toNat = true) (h0 : 0 ≤ h) (e : h2 = h + 1) (y : x_on nd h.toNat = true → x_on X (x_pl ho o h.toNat) = true) : x_dtr X nd ho o h2.toNat = true := by
  rw [show h2.toNat = h.toNat + 1 by omega, x_dtr, H]
  cases g : x_on nd h.toNat
  · rfl
  · show (false || x_on X (x_pl ho o h.toNat)) = true
    rw [y g]
    rfl
theorem x_fa_x (h0 : 0 ≤ h) (hh : h < ho) (a : x_on nd h.toNat = true) (b : ¬ x_on X (x_pl ho o h.toNat) = true) : ¬ x_dtr X nd ho o ho.toNat = true := fun z => b ((x_dtr_a _).mp z h.toNat (by omega) a)
theorem x_pl_t {n : Nat} (y : o = true) (hv : v = ho - 1 - (n : Int)) : v.toNat = x_pl ho o n := by
  unfold x_pl
  rw [if_pos y, hv]
theorem x_pl_f {n : Nat} (y : o = false) (hv : v = (n : Int)) : v.toNat = x_pl ho o n := by
  unfold x_pl
  rw [y, if_neg (by decide), hv]
  omega
end FLS
/-- the class's test of a card that lies -/
theorem PLC_t {M : mm_M} {K : x_Kn} {ov : Int32} {ho ca a c : Int} {l nd : Int64} (H : PLC M K ov ho ca a) (c0 : 0 ≤ c) (c1 : c < a) (c2 : c < ca) (h0 : 0 ≤ ho) (h1 : ho ≤ 60) (hn : ∀ i : Nat, x_on nd i = true → (i : Int) < ho) (w : M.2.2.1 27 c.toNat = l) : x_eq (l &&& nd) nd = 1 ↔ x_dt K ov ho nd c = true := by
  rw [x_eq_1, ← w]
  unfold x_dt
  refine x_dt_e h0 h1 (fun i hi => ?_) hn
  have z := H c.toNat (by omega) (by omega) i hi
  rw [show ((c.toNat : Nat) : Int) = c by omega] at z
  exact z
theorem x_fa_v {X nd : Int64} {ho h : Int} {o : Bool} (e : h = ho) (H : x_dtr X nd ho o h.toNat = true) : x_dtr X nd ho o ho.toNat = true := by rw [← e]; rw [← e] at H; exact H
/-! the reference's needles of a pass -/
noncomputable def x_wb (W : Int32) (k : Nat) : Bool := decide (((W >>> Int32.ofInt (k : Int)) &&& 1).toInt = 1)
noncomputable def x_nwl (C : Nat → Int64) (W : Int32) : Nat → Nat → Int64 → Int64
  | 0, _, acc => acc
  | m + 1, k, acc => x_nwl C W m (k + 1) (acc ||| (if x_wb W k = true then C k else 0))
section NWL
variable {C : Nat → Int64} {W : Int32} {k k2 n : Int} {acc acc2 E : Int64}
theorem x_nwl_s (h0 : 0 ≤ k) (hk : k < n) (h2 : k2 = k + 1) (H : x_nwl C W (n - k).toNat k.toNat acc = E) (e : acc2 = acc ||| (if x_wb W k.toNat = true then C k.toNat else 0)) : x_nwl C W (n - k2).toNat k2.toNat acc2 = E := by
  rw [← H, show (n - k).toNat = (n - k2).toNat + 1 by omega, x_nwl, show k2.toNat = k.toNat + 1 by omega, e]
theorem x_nwl_x (hk : n ≤ k) (H : x_nwl C W (n - k).toNat k.toNat acc = E) : acc = E := by
  rw [← H, show (n - k).toNat = 0 by omega]
  rfl
theorem x_nwl_0 (hk : k = 0) (H : x_nwl C W n.toNat 0 acc = E) : x_nwl C W (n - k).toNat k.toNat acc = E := by
  rw [← H, hk, show n - 0 = n by omega]
  rfl
theorem x_nwl_y {w u v : Int32} {l : Int64} (h0 : 0 ≤ k) (e1 : W >>> w = u) (e2 : u &&& (1 : Int32) = v) (hw : w.toInt = k) (h : v.toInt = 1) (hl : l = C k.toNat) : acc ||| l = acc ||| (if x_wb W k.toNat = true then C k.toNat else 0) := by
  have z : x_wb W k.toNat = true := by
    unfold x_wb
    rw [show ((k.toNat : Nat) : Int) = k by omega, ← x_i32 hw, e1, e2]
    exact decide_eq_true h
  rw [if_pos z, hl]
theorem x_nwl_n {w u v : Int32} (h0 : 0 ≤ k) (e1 : W >>> w = u) (e2 : u &&& (1 : Int32) = v) (hw : w.toInt = k) (h : ¬ v.toInt = 1) : acc ||| (0 : Int64) = acc ||| (if x_wb W k.toNat = true then C k.toNat else 0) := by
  have z : ¬ x_wb W k.toNat = true := by
    unfold x_wb
    rw [show ((k.toNat : Nat) : Int) = k by omega, ← x_i32 hw, e1, e2, decide_eq_true_eq]
    exact h
  rw [if_neg z]
end NWL
theorem PS_p {M : mm_M} {P : x_P} {n ca : Int} (H : PKr M P) (G : x_pg P n ca) (hn : n ≤ (M.2.1 77 28).toInt) : PS M := by
  have t := G.1
  unfold x_tot at t
  have a0 := (H 0 (by decide) (by decide)).1
  have a1 := (H 1 (by decide) (by decide)).1
  have a2 := (H 2 (by decide) (by decide)).1
  have a3 := (H 3 (by decide) (by decide)).1
  have a4 := (H 4 (by decide) (by decide)).1
  have a5 := (H 5 (by decide) (by decide)).1
  have b0 : (M.2.1 100 0).toInt = P.2 0 := a0
  have b1 : (M.2.1 100 1).toInt = P.2 1 := a1
  have b2 : (M.2.1 100 2).toInt = P.2 2 := a2
  have b3 : (M.2.1 100 3).toInt = P.2 3 := a3
  have b4 : (M.2.1 100 4).toInt = P.2 4 := a4
  have b5 : (M.2.1 100 5).toInt = P.2 5 := a5
  unfold PS PSm
  omega
/-! joining, the reference's way: the first pack is emptied last -/
noncomputable def x_jn (P9 P : x_P) (o t k ca : Int) : Prop := (∀ q : Int, ¬ q = t → P.2 q = P9.2 q ∧ ∀ j : Nat, P.1 q j = P9.1 q j) ∧ P.2 t = P9.2 t + k ∧ x_dlk (P9.1 o) (fun _ => true) t t (P9.2 o - k).toNat k.toNat (x_z9 P o) = x_dl P9 o t t (fun _ => true)
section XJN
variable {P9 P : x_P} {o t k k2 ca c : Int}
theorem x_jn_0 (hk : k = 0) : x_jn P9 P9 o t k ca := ⟨fun _ _ => ⟨rfl, fun _ => rfl⟩, by omega, by
  rw [hk, show P9.2 o - 0 = P9.2 o by omega]
  rfl⟩
theorem x_z9_ap (h : ¬ o = t) : x_z9 (x_ap9 P t c) o = x_ap9 (x_z9 P o) t c := by
  unfold x_z9 x_ap9
  refine Prod.ext ?_ ?_
  · funext q j
    show (if q = t ∧ (j : Int) = P.2 t then c else P.1 q j) = if q = t ∧ (j : Int) = (if t = o then 0 else P.2 t) then c else P.1 q j
    rw [if_neg (fun z : t = o => h z.symm)]
  · funext q
    show (if q = o then 0 else if q = t then P.2 t + 1 else P.2 q) = if q = t then (if t = o then 0 else P.2 t) + 1 else if q = o then 0 else P.2 q
    by_cases g : q = o
    · rw [if_pos g, if_neg (fun z => h (g.symm.trans z)), if_pos g]
    · rw [if_neg g, if_neg g, if_neg (fun z : t = o => h z.symm)]
theorem x_jn_s (H : x_jn P9 P o t k ca) (h : ¬ o = t) (h0 : 0 ≤ k) (hk : k < P9.2 o) (h2 : k2 = k + 1) (hc : c = P9.1 o k.toNat) : x_jn P9 (x_ap9 P t c) o t k2 ca := by
  obtain ⟨a, b, d⟩ := H
  refine ⟨fun q hq => ?_, ?_, ?_⟩
  · have z := a q hq
    show (if q = t then P.2 t + 1 else P.2 q) = P9.2 q ∧ ∀ j : Nat, (if q = t ∧ (j : Int) = P.2 t then c else P.1 q j) = P9.1 q j
    rw [if_neg hq]
    refine ⟨z.1, fun j => ?_⟩
    rw [if_neg (fun y => hq y.1)]
    exact z.2 j
  · show (if t = t then P.2 t + 1 else P.2 t) = P9.2 t + k2
    rw [if_pos rfl]
    omega
  · rw [x_z9_ap h]
    refine x_dlk_s h0 hk h2 d ?_
    rw [hc]
    show x_ap9 _ t _ = x_ap9 _ (if true = true then t else t) _
    rw [if_pos rfl]
theorem x_jn_x (H : x_jn P9 P o t k ca) (hk : P9.2 o ≤ k) : x_z9 P o = x_dl P9 o t t (fun _ => true) := x_dlk_x hk H.2.2
end XJN
theorem x_pg_2 {P : x_P} {n ca p q : Int} (H : x_pg P n ca) (h0 : 0 ≤ p) (h1 : p ≤ 5) (g0 : 0 ≤ q) (g1 : q ≤ 5) (h : ¬ p = q) : P.2 p + P.2 q ≤ n := by
  have z := x_pg_6 H
  have t := H.1
  unfold x_tot at t
  rcases x_p05 h0 h1 with e | e | e | e | e | e <;> subst e <;> rcases x_p05 g0 g1 with f | f | f | f | f | f <;> subst f <;> omega
theorem x_jn_g {P9 P : x_P} {o t k ca n : Int} (H : x_pg P9 n ca) (J : x_jn P9 P o t k ca) (o0 : 0 ≤ o) (o1 : o ≤ 5) (t0 : 0 ≤ t) (t1 : t ≤ 5) (h : ¬ o = t) (k0 : 0 ≤ k ∧ k < P9.2 o) (hn : n ≤ 30) : ∀ q : Int, 0 ≤ q → q ≤ 5 → 0 ≤ P.2 q ∧ P.2 q ≤ 30 := fun q q0 q1 => by
  have a := x_pg_le H q0 q1
  have b := x_pg_le H t0 t1
  have d := x_pg_2 H o0 o1 t0 t1 h
  by_cases e : q = t
  · subst e
    have z := J.2.1
    omega
  · have z := (J.1 q e).1
    omega
theorem x_true_dt {P : x_P} {f d : Int} {K : x_Kn} {ov : Int32} {ho : Int} : x_dl P f d d (x_dt K ov ho 0) = x_dl P f d d (fun _ => true) := by
  unfold x_dl
  have e : ∀ (m k : Nat) (Q : x_P), x_dlk (P.1 f) (x_dt K ov ho 0) d d m k Q = x_dlk (P.1 f) (fun _ => true) d d m k Q := fun m => by
    induction m with
    | zero => exact fun k Q => rfl
    | succ m ih =>
      intro k Q
      rw [x_dlk, x_dlk, ih]
      congr 2
      split <;> split <;> rfl
  exact e _ _ _
theorem fa_q {a c : Int} {K : x_Kn} {ov ov2 : Int32} {ho ho2 : Int} {nd : Int64} (h : a = 1 ↔ x_dt K ov2 ho2 nd c = true) (e1 : ov2 = ov) (e2 : ho2 = ho) : a = 1 ↔ x_dt K ov ho nd c = true := by
  subst e1; subst e2
  exact h
/-! the class's steps, as far as they are read; op are those still open -/
noncomputable def x_kw (k : Int) : Int := if k = 0 then 538561536 else if k = 1 then 351582208 else 40936896
abbrev x_D := Int × Int × Int × Int64
/-- what a pass, a join says of its packs and needles -/
noncomputable def PDc (D : Int → x_D) (M : mm_M) (A : x_A) (i : Nat) : Prop := (A.1 i = 0 → (M.2.1 30 i).toInt = (D (A.2.1 i)).1 ∧ (M.2.1 31 i).toInt = (D (A.2.1 i)).2.1 ∧ (M.2.1 32 i).toInt = (D (A.2.1 i)).2.2.1 ∧ M.2.2.1 33 i = (D (A.2.1 i)).2.2.2) ∧ (A.1 i = 1 → (M.2.1 30 i).toInt = (D (A.2.1 i)).1 ∧ (M.2.1 31 i).toInt = (D (A.2.1 i)).2.1)
theorem PDc_f {D : Int → x_D} {M M1 : mm_M} {A B : x_A} {i : Nat} (k : B.1 i = A.1 i) (t : B.2.1 i = A.2.1 i) (h : ∀ r, 30 ≤ r ∧ r ≤ 32 → M1.2.1 r i = M.2.1 r i) (l : M1.2.2.1 33 i = M.2.2.1 33 i) (H : PDc D M A i) : PDc D M1 B i := by
  unfold PDc
  rw [k, t, h 30 (by decide), h 31 (by decide), h 32 (by decide), l]
  exact H
theorem PDc_2 {D : Int → x_D} {M : mm_M} {A : x_A} {i : Nat} (k : A.1 i = 2) : PDc D M A i := ⟨fun z => absurd (k.symm.trans z) (by decide), fun z => absurd (k.symm.trans z) (by decide)⟩
noncomputable def WKc (D : Int → x_D) (M : mm_M) (A : x_A) (n : Int) (op : List Int) : Prop := ∀ i : Nat, (i : Int) < n → (A.1 i = 0 ∨ A.1 i = 1 ∨ A.1 i = 2) ∧ (M.2.1 29 i).toInt = x_kw (A.1 i) ∧ (A.1 i = 2 → (M.2.1 34 i).toInt = A.2.1 i) ∧ (¬ (i : Int) ∈ op → (M.2.1 35 i).toInt = A.2.2 i) ∧ PDc D M A i
theorem WKc_f {D : Int → x_D} {M M1 : mm_M} {A : x_A} {n : Int} {op : List Int} (h : ∀ a i, (29 ≤ a ∧ a ≤ 32 ∨ a = 34 ∨ a = 35) → M1.2.1 a i = M.2.1 a i) (l : ∀ i, M1.2.2.1 33 i = M.2.2.1 33 i) (H : WKc D M A n op) : WKc D M1 A n op := fun i hi => by
  have z := H i hi
  rw [h 29 i (by omega), h 34 i (by omega), h 35 i (by omega)]
  exact ⟨z.1, z.2.1, z.2.2.1, z.2.2.2.1, PDc_f rfl rfl (fun r hr => h r i (by omega)) (l i) z.2.2.2.2⟩
noncomputable def AGR (A B : x_A) (n : Int) : Prop := ∀ i : Nat, (i : Int) < n → B.1 i = A.1 i ∧ B.2.1 i = A.2.1 i ∧ B.2.2 i = A.2.2 i
theorem AGR_t {A B C : x_A} {n m : Int} (h : AGR A B n) (h2 : AGR B C m) (hm : n ≤ m) : AGR A C n := fun i hi => by
  have a := h i hi
  have b := h2 i (by omega)
  exact ⟨b.1.trans a.1, b.2.1.trans a.2.1, b.2.2.trans a.2.2⟩
theorem x_up_n {f : Nat → Int} {j i : Nat} {v : Int} (h : ¬ i = j) : x_upZ f j v i = f i := by
  unfold x_upZ
  rw [if_neg h]
theorem x_up_y {f : Nat → Int} {j : Nat} {v : Int} : x_upZ f j v j = v := by
  unfold x_upZ
  rw [if_pos rfl]
theorem AGR_1 {A : x_A} {n k a1 : Int} (h : 0 ≤ n) : AGR A (x_k1 A n k a1) n := fun i hi => ⟨x_up_n (by omega), x_up_n (by omega), x_up_n (by omega)⟩
theorem AGR_2 {A : x_A} {n tm : Int} (h : 0 ≤ n) : AGR A (x_kt A n tm) n := fun i hi => ⟨x_up_n (by omega), x_up_n (by omega), rfl⟩
section WQS
variable {D : Int → x_D} {t : Nat → Int} {nn : Int} {s : x_S} {E : x_WR} {M M1 : mm_M} {A B : x_A} {n n1 n2 o a : Int} {op : List Int}
noncomputable def WQ (D : Int → x_D) (t : Nat → Int) (nn : Int) (s : x_S) (E : x_WR) (M : mm_M) (A : x_A) (n : Int) (op : List Int) (o : Int) : Prop := ∃ B : x_A, WKc D M B (M.2.1 28 7).toInt op ∧ E = x_ww t nn s 0 (M.2.1 28 7).toInt op B (M.2.1 1 9).toInt ∧ AGR A B n ∧ BLKX B n (M.2.1 28 7).toInt o
noncomputable def WA (D : Int → x_D) (t : Nat → Int) (nn : Int) (s : x_S) (E : x_WR) (M : mm_M) (A : x_A) (n : Int) (op : List Int) (o : Int) : Prop := ∃ B : x_A, WKc D M B (M.2.1 28 7).toInt (n :: op) ∧ E = x_ww t nn s 0 (M.2.1 28 7).toInt op B (M.2.1 1 9).toInt ∧ AGR A B n ∧ (B.1 n.toNat = 2 ∧ 0 ≤ B.2.1 n.toNat ∧ B.2.1 n.toNat ≤ 99 ∧ B.2.2 n.toNat = (M.2.1 28 7).toInt) ∧ o ≤ 4 ∧ BLKX B (n + 1) (M.2.1 28 7).toInt (o + 1)
/-- nothing read yet -/
theorem WQ_0 (H : WKc D M A n op) (hn : (M.2.1 28 7).toInt = n) (ha : (M.2.1 1 9).toInt = a) (hE : E = x_ww t nn s 0 n op A a) : WQ D t nn s E M A n op o := by
  subst hn; subst ha
  exact ⟨A, H, hE, fun i _ => ⟨rfl, rfl, rfl⟩, 0, rfl⟩
/-- one more step -/
theorem WQ_s (h0 : 0 ≤ n) (h1 : n ≤ n1) (g : AGR A B n) (b : BLKX B n n1 o) (H : WQ D t nn s E M1 B n1 op o) : WQ D t nn s E M1 A n op o := by
  obtain ⟨C, c1, c2, c3, f2, c4⟩ := H
  obtain ⟨f, b⟩ := b
  refine ⟨C, c1, c2, AGR_t g c3 h1, f + f2, BLK_a f _ _ _ _ h0 (BLK_q f _ _ _ h0 (fun i _ hi => c3 i hi) b) c4 (BLK_le _ _ _ _ c4)⟩
/-- a pass, a join: the step's row of what comes next is written last -/
theorem WQ_p {v : Int32} {k a1 : Int} (hk : k = 0 ∨ k = 1) (h0 : 0 ≤ n) (H : WKc D M A n op) (hm : ∀ m ∈ op, m < n) (e29 : (M.2.1 29 n.toNat).toInt = x_kw k) (pd : PDc D M (x_k1 A n k a1) n.toNat) (e7 : (M.2.1 28 7).toInt = n + 1) (W : M1 = mm_setI M 35 n.toNat v) (hv : v.toInt = n + 1) (hE : E = x_ww t nn s 0 (n + 1) op (x_k1 A n k a1) (M.2.1 1 9).toInt) : WQ D t nn s E M1 A n op o := by
  have f7 : M1.2.1 28 7 = M.2.1 28 7 := W_n W (by omega) rfl
  have f9 : M1.2.1 1 9 = M.2.1 1 9 := W_n W (by omega) rfl
  refine ⟨x_k1 A n k a1, ?_, ?_, AGR_1 h0, 1, ?_⟩
  · rw [f7, e7]
    intro i hi
    rw [show M1.2.1 29 i = M.2.1 29 i from W_n W (by omega) rfl, show M1.2.1 34 i = M.2.1 34 i from W_n W (by omega) rfl]
    by_cases g : i = n.toNat
    · subst g
      have k1 : (x_k1 A n k a1).1 n.toNat = k := x_up_y
      have k2 : (x_k1 A n k a1).2.2 n.toNat = n + 1 := x_up_y
      have p := PDc_f (D := D) (M := M) (M1 := M1) (A := x_k1 A n k a1) (B := x_k1 A n k a1) (i := n.toNat) rfl rfl (fun r hr => W_n W (by omega) rfl) (W_j W rfl) pd
      rw [k1, k2]
      refine ⟨by omega, e29, fun z => by omega, fun _ => ?_, p⟩
      rw [show M1.2.1 35 n.toNat = v from W_e W]
      exact hv
    · have z := H i (by omega)
      have k1 : (x_k1 A n k a1).1 i = A.1 i := x_up_n g
      have k3 : (x_k1 A n k a1).2.1 i = A.2.1 i := x_up_n g
      have k2 : (x_k1 A n k a1).2.2 i = A.2.2 i := x_up_n g
      rw [k1, k2, k3, show M1.2.1 35 i = M.2.1 35 i from W_n W (fun z => g z.2) rfl]
      exact ⟨z.1, z.2.1, z.2.2.1, z.2.2.2.1, PDc_f k1 k3 (fun r hr => W_n W (by omega) rfl) (W_j W rfl) z.2.2.2.2⟩
  · rw [f7, f9, e7]; exact hE
  · rw [f7, e7]
    have k1 : (x_k1 A n k a1).1 n.toNat = k := x_up_y
    have k2 : (x_k1 A n k a1).2.2 n.toNat = n + 1 := x_up_y
    exact Or.inr ⟨by omega, Or.inl ⟨by rw [k1]; exact hk, k2, rfl⟩⟩
/-- an again is open: its times are told -/
theorem WKc_t {tm : Int} (h0 : 0 ≤ n) (H : WKc D M A n op) (e29 : (M.2.1 29 n.toNat).toInt = x_kw 2) (e34 : (M.2.1 34 n.toNat).toInt = tm) : WKc D M (x_kt A n tm) (n + 1) (n :: op) := fun i hi => by
  by_cases g : i = n.toNat
  · subst g
    have k1 : (x_kt A n tm).1 n.toNat = 2 := x_up_y
    have k2 : (x_kt A n tm).2.1 n.toNat = tm := x_up_y
    rw [k1, k2]
    exact ⟨by omega, e29, fun _ => e34, fun z => absurd (by rw [show ((n.toNat : Nat) : Int) = n by omega]; exact List.mem_cons_self) z, PDc_2 k1⟩
  · have z := H i (by omega)
    have k1 : (x_kt A n tm).1 i = A.1 i := x_up_n g
    have k2 : (x_kt A n tm).2.1 i = A.2.1 i := x_up_n g
    rw [k1, k2]
    exact ⟨z.1, z.2.1, z.2.2.1, fun w => z.2.2.2.1 (fun y => w (List.mem_cons_of_mem _ y)), PDc_f k1 k2 (fun r hr => rfl) rfl z.2.2.2.2⟩
/-- its bracket is closed -/
theorem WA_i {tm : Int} (h0 : 0 ≤ n) (ho : o ≤ 4) (ht : 0 ≤ tm) (ht2 : tm ≤ 99) (H : WQ D t nn s E M (x_kt A n tm) (n + 1) (n :: op) (o + 1)) (k0 : 0 ≤ (M.2.1 1 9).toInt) (k1 : (M.2.1 1 9).toInt ≤ nn) (hs : x_kind t nn (M.2.1 1 9).toInt = 4 ∧ x_val t nn (M.2.1 1 9).toInt = 41) (f : ∀ a i, (29 ≤ a ∧ a ≤ 32 ∨ a = 34 ∨ a = 35 ∨ a = 28 ∧ i = 7) → M1.2.1 a i = M.2.1 a i) (fl : ∀ i, M1.2.2.1 33 i = M.2.2.1 33 i) (h9 : (M1.2.1 1 9).toInt = x_ns t nn (M.2.1 1 9).toInt) : WA D t nn s E M1 A n op o := by
  obtain ⟨B, b1, b2, b3, g, b4⟩ := H
  have f7 : M1.2.1 28 7 = M.2.1 28 7 := f 28 7 (by omega)
  have q : ∀ i : Nat, ¬ i = n.toNat → (x_ke B n (M.2.1 28 7).toInt).2.2 i = B.2.2 i := fun i hi => x_up_n hi
  have e := b3 n.toNat (by omega)
  have k1 : (x_kt A n tm).1 n.toNat = 2 := x_up_y
  have k2 : (x_kt A n tm).2.1 n.toNat = tm := x_up_y
  refine ⟨x_ke B n (M.2.1 28 7).toInt, ?_, ?_, ?_, ⟨?_, ?_, ?_, ?_⟩, ho, g, ?_⟩
  · rw [f7]
    refine WKc_f (fun a i z => f a i (by omega)) fl (fun i hi => ?_)
    have z := b1 i hi
    refine ⟨z.1, z.2.1, z.2.2.1, fun w => ?_, PDc_f (A := B) rfl rfl (fun r hr => rfl) rfl z.2.2.2.2⟩
    rw [q i (fun y => w (by rw [y, show ((n.toNat : Nat) : Int) = n by omega]; exact List.mem_cons_self))]
    exact z.2.2.2.1 w
  · rw [f7, h9, b2]
    exact w_cl k0 (by omega) hs
  · intro i hi
    have z := b3 i (by omega)
    have y := AGR_2 (A := A) (tm := tm) h0 i hi
    exact ⟨z.1.trans y.1, z.2.1.trans y.2.1, (q i (by omega)).trans (z.2.2.trans y.2.2)⟩
  · show B.1 n.toNat = 2
    rw [e.1]; exact k1
  · show 0 ≤ B.2.1 n.toNat
    rw [e.2.1, k2]; exact ht
  · show B.2.1 n.toNat ≤ 99
    rw [e.2.1, k2]; exact ht2
  · rw [f7]; exact x_up_y
  · rw [f7]
    exact BLK_q (A := B) g _ _ _ (by omega) (fun i hi _ => ⟨rfl, rfl, q i (by omega)⟩) b4
/-- an again stands: its row of what comes next is written last -/
theorem WQ_a {v : Int32} (h0 : 0 ≤ n) (hn : n < (M.2.1 28 7).toInt) (H : WA D t nn s E M A n op o) (hm : ¬ n ∈ op) (W : M1 = mm_setI M 35 n.toNat v) (hv : v.toInt = (M.2.1 28 7).toInt) : WQ D t nn s E M1 A n op o := by
  obtain ⟨B, b1, b2, b3, ⟨c1, c2, c3, c4⟩, ho, g, b4⟩ := H
  have f7 : M1.2.1 28 7 = M.2.1 28 7 := W_n W (by omega) rfl
  have f9 : M1.2.1 1 9 = M.2.1 1 9 := W_n W (by omega) rfl
  refine ⟨B, ?_, ?_, b3, g + 1, ?_⟩
  · rw [f7]
    intro i hi
    have z := b1 i hi
    rw [show M1.2.1 29 i = M.2.1 29 i from W_n W (by omega) rfl, show M1.2.1 34 i = M.2.1 34 i from W_n W (by omega) rfl]
    refine ⟨z.1, z.2.1, z.2.2.1, fun w => ?_, PDc_f rfl rfl (fun r hr => W_n W (by omega) rfl) (W_j W rfl) z.2.2.2.2⟩
    by_cases e : i = n.toNat
    · subst e
      rw [show M1.2.1 35 n.toNat = v from W_e W, hv, c4]
    · rw [show M1.2.1 35 i = M.2.1 35 i from W_n W (fun z => e z.2) rfl]
      refine z.2.2.2.1 (fun y => ?_)
      rcases List.mem_cons.mp y with y | y
      · omega
      · exact w y
  · rw [f7, f9]; exact b2
  · rw [f7]
    refine Or.inr ⟨hn, Or.inr ⟨c1, ho, c2, c3, ?_, ?_⟩⟩
    · rw [c4]; exact b4
    · rw [c4]
      cases g with
      | zero => rfl
      | succ g => exact Or.inl rfl
end WQS
theorem WKc_w {D : Int → x_D} {M M1 : mm_M} {A : x_A} {n : Int} {op : List Int} {v : Int32} {j : Nat} (H : WKc D M A n op) (W : M1 = mm_setI M 29 j v) (hj : n ≤ (j : Int)) : WKc D M1 A n op := fun i hi => by
  have z := H i hi
  rw [show M1.2.1 29 i = M.2.1 29 i from W_n W (by omega) rfl, show M1.2.1 34 i = M.2.1 34 i from W_n W (by omega) rfl, show M1.2.1 35 i = M.2.1 35 i from W_n W (by omega) rfl]
  exact ⟨z.1, z.2.1, z.2.2.1, z.2.2.2.1, PDc_f rfl rfl (fun r hr => W_n W (by omega) rfl) (W_j W rfl) z.2.2.2.2⟩
theorem WKc_w2 {D : Int → x_D} {M M1 : mm_M} {A : x_A} {n : Int} {op : List Int} {v : Int32} {j : Nat} (H : WKc D M A n op) (W : M1 = mm_setI M 34 j v) (hj : n ≤ (j : Int)) : WKc D M1 A n op := fun i hi => by
  have z := H i hi
  rw [show M1.2.1 29 i = M.2.1 29 i from W_n W (by omega) rfl, show M1.2.1 34 i = M.2.1 34 i from W_n W (by omega) rfl, show M1.2.1 35 i = M.2.1 35 i from W_n W (by omega) rfl]
  exact ⟨z.1, z.2.1, z.2.2.1, z.2.2.2.1, PDc_f rfl rfl (fun r hr => W_n W (by omega) rfl) (W_j W rfl) z.2.2.2.2⟩
/-- rows of other steps stay -/
theorem WKc_o {D : Int → x_D} {M M1 : mm_M} {A : x_A} {n : Int} {op : List Int} (f : ∀ a i, (a = 29 ∨ a = 34 ∨ a = 35) → M1.2.1 a i = M.2.1 a i) (g : ∀ r i : Nat, 30 ≤ r ∧ r ≤ 32 → (i : Int) < n → M1.2.1 r i = M.2.1 r i) (l : ∀ i : Nat, (i : Int) < n → M1.2.2.1 33 i = M.2.2.1 33 i) (H : WKc D M A n op) : WKc D M1 A n op := fun i hi => by
  have z := H i hi
  rw [f 29 i (by omega), f 34 i (by omega), f 35 i (by omega)]
  exact ⟨z.1, z.2.1, z.2.2.1, z.2.2.2.1, PDc_f rfl rfl (fun r hr => g r i hr hi) (l i hi) z.2.2.2.2⟩
theorem WQ_e {D : Int → x_D} {t : Nat → Int} {nn : Int} {s : x_S} {E E2 : x_WR} {M : mm_M} {A : x_A} {n o : Int} {op : List Int} (e : E = E2) (H : WQ D t nn s E2 M A n op o) : WQ D t nn s E M A n op o := by rw [e]; exact H
noncomputable def x_A0 : x_A := (fun _ => 0, fun _ => 0, fun _ => 0)
noncomputable def WR98 (D : Int → x_D) (E : x_WR) (M : mm_M) : Prop := ∃ B : x_A, WKc D M B (M.2.1 28 7).toInt [] ∧ E = .inr ((M.2.1 28 7).toInt, B) ∧ BLKX B 0 (M.2.1 28 7).toInt 0
theorem WR_i {D : Int → x_D} {t : Nat → Int} {nn : Int} {s : x_S} {E : x_WR} {M : mm_M} (H : WQ D t nn s E M x_A0 0 [] 0) (k0 : 0 ≤ (M.2.1 1 9).toInt) (k1 : (M.2.1 1 9).toInt ≤ nn) (h : x_kind t nn (M.2.1 1 9).toInt = 0) : WR98 D E M := by
  obtain ⟨B, b1, b2, b3, b4⟩ := H
  exact ⟨B, b1, b2.trans (w_end k0 k1 h), b4⟩
theorem WR_x {D : Int → x_D} {t : Nat → Int} {nn : Int} {s : x_S} {E : x_WR} {M : mm_M} (H : WQ D t nn s E M x_A0 0 [] 0) (k0 : 0 ≤ (M.2.1 1 9).toInt) (k1 : (M.2.1 1 9).toInt ≤ nn) (h : ¬ x_kind t nn (M.2.1 1 9).toInt = 1) (h2 : ¬ x_kind t nn (M.2.1 1 9).toInt = 0) : E = .inl (1, (M.2.1 1 9).toInt) := by
  obtain ⟨B, b1, b2, b3, b4⟩ := H
  exact b2.trans (w_1x k0 k1 h h2)
section WAG
variable {t : Nat → Int} {nn dp a : Int} {k : Int → Int → x_WR}
theorem ag_1 (h : ¬ x_kind t nn a = 3) : x_wag t nn dp a k = .inl (1, a) := by
  unfold x_wag
  exact p_nb1 h
theorem ag_2 (h : x_kind t nn a = 3) (h2 : ¬ x_val t nn a ≤ 99) : x_wag t nn dp a k = .inl (2, a) := by
  unfold x_wag
  exact p_nb2 h h2
theorem ag_3 (h : x_kind t nn a = 3) (h2 : x_val t nn a ≤ 99) (h3 : ¬ (x_kind t nn (x_ns t nn a) = 4 ∧ x_val t nn (x_ns t nn a) = 40)) : x_wag t nn dp a k = .inl (1, x_ns t nn a) := by
  unfold x_wag
  rw [p_nb h h2, if_neg h3]
theorem ag_4 (h : x_kind t nn a = 3) (h2 : x_val t nn a ≤ 99) (h3 : x_kind t nn (x_ns t nn a) = 4 ∧ x_val t nn (x_ns t nn a) = 40) (hd : dp = 5) : x_wag t nn dp a k = .inl (2, x_ns t nn a) := by
  unfold x_wag
  rw [p_nb h h2, if_pos h3, if_pos hd]
theorem ag_y (h : x_kind t nn a = 3) (h2 : x_val t nn a ≤ 99) (h3 : x_kind t nn (x_ns t nn a) = 4 ∧ x_val t nn (x_ns t nn a) = 40) (hd : ¬ dp = 5) : x_wag t nn dp a k = k (x_val t nn a) (x_ns t nn (x_ns t nn a)) := by
  unfold x_wag
  rw [p_nb h h2, if_pos h3, if_neg hd]
end WAG
theorem W9_i {M M1 : mm_M} {j : Nat} {n : Int} {v : Int32} (h : j = n.toNat) (W : M1 = mm_setI M 35 j v) : M1 = mm_setI M 35 n.toNat v := by rw [← h]; exact W
theorem WA_e {D : Int → x_D} {t : Nat → Int} {nn : Int} {s : x_S} {E E2 : x_WR} {M : mm_M} {A : x_A} {n o : Int} {op : List Int} (e : E = E2) (H : WA D t nn s E2 M A n op o) : WA D t nn s E M A n op o := by rw [e]; exact H
theorem WC_x {D : Int → x_D} {t : Nat → Int} {nn : Int} {s : x_S} {E : x_WR} {M : mm_M} {A : x_A} {n m o : Int} {op : List Int} (H : WQ D t nn s E M A n (m :: op) o) (k0 : 0 ≤ (M.2.1 1 9).toInt) (k1 : (M.2.1 1 9).toInt ≤ nn) (h : ¬ x_kind t nn (M.2.1 1 9).toInt = 1) (h2 : ¬ (x_kind t nn (M.2.1 1 9).toInt = 4 ∧ x_val t nn (M.2.1 1 9).toInt = 41)) : E = .inl (1, (M.2.1 1 9).toInt) := by
  obtain ⟨B, b1, b2, b3, b4⟩ := H
  exact b2.trans (w_clx k0 k1 h h2)
/-! the reference's steps, as far as they are read -/
/-- what a pass, a join says: from, second, third, the needles' holes and words (C: the words' codes, cw of them) -/
noncomputable def PDr (D : Int → x_D) (C : Nat → Int64) (cw : Int) (M : mm_M) (A : x_A) (i : Nat) : Prop := (A.1 i = 0 → (M.2.1 102 i).toInt = (D (A.2.1 i)).1 ∧ (M.2.1 103 i).toInt = (D (A.2.1 i)).2.1 ∧ (M.2.1 104 i).toInt = (D (A.2.1 i)).2.2.1 ∧ x_nwl C (M.2.1 107 i) cw.toNat 0 (M.2.2.1 106 i) = (D (A.2.1 i)).2.2.2) ∧ (A.1 i = 1 → (M.2.1 102 i).toInt = (D (A.2.1 i)).1 ∧ (M.2.1 103 i).toInt = (D (A.2.1 i)).2.1)
theorem PDr_f {D : Int → x_D} {C : Nat → Int64} {cw : Int} {M M1 : mm_M} {A B : x_A} {i : Nat} (k : B.1 i = A.1 i) (t : B.2.1 i = A.2.1 i) (h : ∀ r, (102 ≤ r ∧ r ≤ 104 ∨ r = 107) → M1.2.1 r i = M.2.1 r i) (l : M1.2.2.1 106 i = M.2.2.1 106 i) (H : PDr D C cw M A i) : PDr D C cw M1 B i := by
  unfold PDr
  rw [k, t, h 102 (by decide), h 103 (by decide), h 104 (by decide), h 107 (by decide), l]
  exact H
theorem PDr_2 {D : Int → x_D} {C : Nat → Int64} {cw : Int} {M : mm_M} {A : x_A} {i : Nat} (k : A.1 i = 2) : PDr D C cw M A i := ⟨fun z => absurd (k.symm.trans z) (by decide), fun z => absurd (k.symm.trans z) (by decide)⟩
abbrev x_DC := (Int → x_D) × (Nat → Int64) × Int
noncomputable def WKr (D : x_DC) (M : mm_M) (A : x_A) (n : Int) (op : List Int) : Prop := ∀ i : Nat, (i : Int) < n → (A.1 i = 0 ∨ A.1 i = 1 ∨ A.1 i = 2) ∧ (M.2.1 101 i).toInt = A.1 i ∧ (A.1 i = 2 → (M.2.1 102 i).toInt = A.2.1 i) ∧ (A.1 i = 2 → ¬ (i : Int) ∈ op → (M.2.1 105 i).toInt = A.2.2 i) ∧ PDr D.1 D.2.1 D.2.2 M A i
noncomputable def OPR (f : Nat → Int) : List Int → Prop
  | [] => True
  | o :: os => f os.length = o ∧ OPR f os
theorem OPR_f {f g : Nat → Int} : ∀ op : List Int, (∀ i : Nat, i < op.length → g i = f i) → OPR f op → OPR g op
  | [], _, _ => trivial
  | o :: os, h, H => ⟨(h os.length (by rw [List.length_cons]; omega)).trans H.1, OPR_f os (fun i hi => h i (by rw [List.length_cons]; omega)) H.2⟩
noncomputable def orow (M : mm_M) (j : Nat) : Int := (M.2.1 108 j).toInt
section WSS
variable {D : x_DC} {t : Nat → Int} {nn : Int} {s : x_S} {E : x_WR} {M M1 : mm_M} {A B : x_A} {n a : Int} {op : List Int}
noncomputable def WS (D : x_DC) (t : Nat → Int) (nn : Int) (s : x_S) (E : x_WR) (M : mm_M) : Prop := ∃ (op : List Int) (A : x_A), WKr D M A (M.2.1 77 44).toInt op ∧ OPR (orow M) op ∧ (op.length : Int) = (M.2.1 77 52).toInt ∧ (∀ m ∈ op, 0 ≤ m ∧ m < (M.2.1 77 44).toInt) ∧ E = x_ww t nn s 0 (M.2.1 77 44).toInt op A (M.2.1 77 10).toInt
theorem w_nx (h0 : 0 ≤ a) (h1 : a ≤ nn) (h : ¬ x_kind t nn a = 1) (h2 : ¬ (x_kind t nn a = 0 ∧ (op.length : Int) = 0)) (h3 : ¬ ((x_kind t nn a = 4 ∧ x_val t nn a = 41) ∧ 0 < (op.length : Int))) : x_ww t nn s 0 n op A a = .inl (1, a) := by
  cases op with
  | nil => exact w_1x h0 h1 h (fun z => h2 ⟨z, rfl⟩)
  | cons o os => exact w_clx h0 h1 h (fun z => h3 ⟨z, by rw [List.length_cons]; omega⟩)
/-- the text is at its end -/
theorem WS_e (H : WS D t nn s E M) (k0 : 0 ≤ (M.2.1 77 10).toInt) (k1 : (M.2.1 77 10).toInt ≤ nn) (h : x_kind t nn (M.2.1 77 10).toInt = 0) (ho : (M.2.1 77 52).toInt ≤ 0) : ∃ B : x_A, WKr D M B (M.2.1 77 44).toInt [] ∧ E = .inr ((M.2.1 77 44).toInt, B) := by
  obtain ⟨op, B, b1, b2, b3, b4, b5⟩ := H
  cases op with
  | nil => exact ⟨B, b1, b5.trans (w_end k0 k1 h)⟩
  | cons o os =>
    exfalso
    rw [List.length_cons] at b3
    omega
theorem WS_0 (h44 : (M.2.1 77 44).toInt = 0) (h52 : (M.2.1 77 52).toInt = 0) (ha : (M.2.1 77 10).toInt = a) (hE : E = x_ww t nn s 0 0 [] x_A0 a) : WS D t nn s E M := by
  refine ⟨[], x_A0, ?_, trivial, ?_, ?_, ?_⟩
  · rw [h44]; exact fun i hi => by exfalso; omega
  · rw [h52]; rfl
  · exact fun m hm => absurd hm List.not_mem_nil
  · rw [h44, ha]; exact hE
/-- a bracket is closed -/
theorem WS_c {v w : Int32} {k : Nat} (H1 : WKr D M A n op) (H2 : OPR (orow M) op) (H3 : (op.length : Int) = (M.2.1 77 52).toInt) (H4 : ∀ m ∈ op, 0 ≤ m ∧ m < n) (hE : E = x_ww t nn s 0 n op A a) (k0 : 0 ≤ a) (k1 : a ≤ nn) (hs : x_kind t nn a = 4 ∧ x_val t nn a = 41) (ho : 0 < (M.2.1 77 52).toInt) (hk : (k : Int) = (M.2.1 77 52).toInt - 1) (hv : M.2.1 108 k = v) (f : ∀ r i : Nat, (101 ≤ r ∧ r ≤ 104 ∨ r = 107 ∨ r = 108) → M1.2.1 r i = M.2.1 r i) (fl : ∀ i, M1.2.2.1 106 i = M.2.2.1 106 i) (f5 : ∀ i : Nat, ¬ i = v.toInt.toNat → M1.2.1 105 i = M.2.1 105 i) (f5e : (M1.2.1 105 v.toInt.toNat).toInt = n) (e44 : (M1.2.1 77 44).toInt = n) (e52 : (M1.2.1 77 52).toInt = (M.2.1 77 52).toInt - 1) (e10 : (M1.2.1 77 10).toInt = x_ns t nn a) : WS D t nn s E M1 := by
  cases op with
  | nil =>
    exfalso
    have : ((0 : Nat) : Int) = (M.2.1 77 52).toInt := H3
    omega
  | cons o os =>
    rw [List.length_cons] at H3
    have ek : k = os.length := by omega
    have eo : v.toInt = o := by
      rw [← hv, ek]
      exact H2.1
    have ob := H4 o List.mem_cons_self
    refine ⟨os, x_ke A o n, ?_, ?_, ?_, ?_, ?_⟩
    · rw [e44]
      intro i hi
      have z := H1 i hi
      rw [f 101 i (by omega), f 102 i (by omega)]
      refine ⟨z.1, z.2.1, z.2.2.1, fun w1 w2 => ?_, PDr_f (A := A) rfl rfl (fun r hr => f r i (by omega)) (fl i) z.2.2.2.2⟩
      by_cases g : i = o.toNat
      · have k2 : (x_ke A o n).2.2 i = n := by rw [g]; exact x_up_y
        rw [k2, g, ← eo]
        exact f5e
      · have k2 : (x_ke A o n).2.2 i = A.2.2 i := x_up_n g
        rw [k2, f5 i (by rw [eo]; exact g)]
        refine z.2.2.2.1 w1 (fun y => ?_)
        rcases List.mem_cons.mp y with y | y
        · omega
        · exact w2 y
    · exact OPR_f os (fun i _ => by unfold orow; rw [f 108 i (by omega)]) H2.2
    · omega
    · rw [e44]; exact fun m hm => H4 m (List.mem_cons_of_mem _ hm)
    · rw [e44, e10, hE]
      exact w_cl k0 k1 hs
/-- a pass, a join -/
theorem WS_p {k a1 : Int} (hk : k = 0 ∨ k = 1) (h0 : 0 ≤ n) (H1 : WKr D M A n op) (H2 : OPR (orow M) op) (H3 : (op.length : Int) = (M.2.1 77 52).toInt) (H4 : ∀ m ∈ op, 0 ≤ m ∧ m < n) (f : ∀ r i : Nat, (101 ≤ r ∧ r ≤ 104 ∨ r = 107) → ¬ i = n.toNat → M1.2.1 r i = M.2.1 r i) (fl : ∀ i : Nat, ¬ i = n.toNat → M1.2.2.1 106 i = M.2.2.1 106 i) (pd : PDr D.1 D.2.1 D.2.2 M1 (x_k1 A n k a1) n.toNat) (f1 : (M1.2.1 101 n.toNat).toInt = k) (f2 : ∀ r i : Nat, (r = 105 ∨ r = 108) → M1.2.1 r i = M.2.1 r i) (e44 : (M1.2.1 77 44).toInt = n + 1) (e52 : (M1.2.1 77 52).toInt = (M.2.1 77 52).toInt) (hE : E = x_ww t nn s 0 (n + 1) op (x_k1 A n k a1) (M1.2.1 77 10).toInt) : WS D t nn s E M1 := by
  refine ⟨op, x_k1 A n k a1, ?_, OPR_f op (fun i _ => by unfold orow; rw [f2 108 i (by omega)]) H2, by omega, ?_, ?_⟩
  · rw [e44]
    intro i hi
    by_cases g : i = n.toNat
    · subst g
      have k1 : (x_k1 A n k a1).1 n.toNat = k := x_up_y
      rw [k1]
      exact ⟨by omega, f1, fun z => by omega, fun z => by omega, pd⟩
    · have z := H1 i (by omega)
      have k1 : (x_k1 A n k a1).1 i = A.1 i := x_up_n g
      have k3 : (x_k1 A n k a1).2.1 i = A.2.1 i := x_up_n g
      have k2 : (x_k1 A n k a1).2.2 i = A.2.2 i := x_up_n g
      rw [k1, k2, k3, f 101 i (by omega) g, f 102 i (by omega) g, f2 105 i (by omega)]
      exact ⟨z.1, z.2.1, z.2.2.1, z.2.2.2.1, PDr_f k1 k3 (fun r hr => f r i (by omega) g) (fl i g) z.2.2.2.2⟩
  · rw [e44]; exact fun m hm => by have := H4 m hm; omega
  · rw [e44]; exact hE
/-- an again is opened -/
theorem WS_a {tm : Int} (h0 : 0 ≤ n) (H1 : WKr D M A n op) (H2 : OPR (orow M) op) (H3 : (op.length : Int) = (M.2.1 77 52).toInt) (H4 : ∀ m ∈ op, 0 ≤ m ∧ m < n) (f : ∀ r i : Nat, (101 ≤ r ∧ r ≤ 104 ∨ r = 107) → ¬ i = n.toNat → M1.2.1 r i = M.2.1 r i) (fl : ∀ i : Nat, ¬ i = n.toNat → M1.2.2.1 106 i = M.2.2.1 106 i) (f1 : (M1.2.1 101 n.toNat).toInt = 2) (f2 : (M1.2.1 102 n.toNat).toInt = tm) (f5 : ∀ i : Nat, M1.2.1 105 i = M.2.1 105 i) (f8 : ∀ i : Nat, ¬ (i : Int) = (M.2.1 77 52).toInt → M1.2.1 108 i = M.2.1 108 i) (f8e : (M1.2.1 108 ((M.2.1 77 52).toInt).toNat).toInt = n) (e44 : (M1.2.1 77 44).toInt = n + 1) (e52 : (M1.2.1 77 52).toInt = (M.2.1 77 52).toInt + 1) (hE : E = x_ww t nn s 0 (n + 1) (n :: op) (x_kt A n tm) (M1.2.1 77 10).toInt) : WS D t nn s E M1 := by
  refine ⟨n :: op, x_kt A n tm, ?_, ⟨?_, OPR_f op (fun i hi => by unfold orow; rw [f8 i (by omega)]) H2⟩, by rw [List.length_cons]; omega, ?_, ?_⟩
  · rw [e44]
    intro i hi
    by_cases g : i = n.toNat
    · subst g
      have k1 : (x_kt A n tm).1 n.toNat = 2 := x_up_y
      have k2 : (x_kt A n tm).2.1 n.toNat = tm := x_up_y
      rw [k1, k2]
      exact ⟨by omega, f1, fun _ => f2, fun _ z => absurd (by rw [show ((n.toNat : Nat) : Int) = n by omega]; exact List.mem_cons_self) z, PDr_2 k1⟩
    · have z := H1 i (by omega)
      have k1 : (x_kt A n tm).1 i = A.1 i := x_up_n g
      have k2 : (x_kt A n tm).2.1 i = A.2.1 i := x_up_n g
      rw [k1, k2, f 101 i (by omega) g, f 102 i (by omega) g, f5 i]
      exact ⟨z.1, z.2.1, z.2.2.1, fun w1 w2 => z.2.2.2.1 w1 (fun y => w2 (List.mem_cons_of_mem _ y)), PDr_f k1 k2 (fun r hr => f r i (by omega) g) (fl i g) z.2.2.2.2⟩
  · show (M1.2.1 108 op.length).toInt = n
    rw [show op.length = ((M.2.1 77 52).toInt).toNat by omega]
    exact f8e
  · rw [e44]
    intro m hm
    rcases List.mem_cons.mp hm with y | y
    · omega
    · have := H4 m y
      omega
  · rw [e44]; exact hE
end WSS
theorem WS_eq {D : x_DC} {t : Nat → Int} {nn : Int} {s : x_S} {E E2 : x_WR} {M : mm_M} (e : E = E2) (H : WS D t nn s E2 M) : WS D t nn s E M := by rw [e]; exact H
/-! work: what was wanting -/
theorem x_fn_b6 {s : x_S} {v : Int} (h : x_G s) : -1 ≤ x_fn s 6 v ∧ x_fn s 6 v < 12 ∧ (0 ≤ x_fn s 6 v → x_fn s 6 v < s.2.2.1) := by
  have := x_find_b (g := s.2.2.2.2 6) (v := v) (if 6 ≤ 5 then s.2.1 else s.2.2.1).toNat 0
  rw [if_neg (by decide)] at this
  have h2 := h.2.2.2.2.1
  have h3 := h.2.2.2.2.2.1
  unfold x_fn
  rw [if_neg (by decide)]
  omega
theorem WQ_o {D : Int → x_D} {t : Nat → Int} {nn : Int} {s : x_S} {E : x_WR} {M : mm_M} {A : x_A} {n o o2 : Int} {op : List Int} (h : o2 = o) (H : WQ D t nn s E M A n op o) : WQ D t nn s E M A n op o2 := by rw [h]; exact H
