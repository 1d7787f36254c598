/-! the class's rows of cards and of others; the reference's next set -/
theorem x_shr_0 {bits : Int64} {h : Nat} (hh : h < 64) : ((bits >>> ((Int32.ofInt (h : Int)).toInt64 &&& 63)) &&& 1) = if x_on bits h = true then 1 else 0 := by
  refine x_on_ext (fun i hi => ?_)
  have q : (((Int32.ofInt (h : Int)).toInt64 &&& 63).toBitVec.smod 64).toNat = h := x_smod_64 ⟨h, hh⟩
  have o : x_on (1 : Int64) i = decide (i = 0) := by
    show (1#64).getLsbD i = _
    rw [BitVec.getLsbD_one]
    simp
  by_cases z : i = 0
  · subst z
    by_cases g : x_on bits h = true
    · rw [if_pos g, o, (show x_on ((bits >>> ((Int32.ofInt (h : Int)).toInt64 &&& 63)) &&& 1) 0 = true from by
        rw [(x_shr_64 hh).mpr g, o]; rfl)]
      rfl
    · rw [if_neg g, x_on_0, x_on_and, o]
      have n : ¬ (bits >>> ((Int32.ofInt (h : Int)).toInt64 &&& 63)) &&& 1 = 1 := fun z => g ((x_shr_64 hh).mp z)
      rw [Bool.eq_false_iff]
      intro t
      apply n
      refine x_on_ext (fun j hj => ?_)
      have oj : x_on (1 : Int64) j = decide (j = 0) := by
        show (1#64).getLsbD j = _
        rw [BitVec.getLsbD_one]
        simp
      rw [x_on_and, oj]
      by_cases zj : j = 0
      · rw [zj]
        rw [Bool.and_eq_true] at t
        rw [t.1]
        rfl
      · rw [decide_eq_false zj, Bool.and_false]
  · rw [x_on_and, o, decide_eq_false z, Bool.and_false]
    split
    · rw [o, decide_eq_false z]
    · rw [x_on_0]
theorem x_shr_i9 {bits : Int64} {v : Int32} {h : Int} (hv : v.toInt = h) (h0 : 0 ≤ h) (h1 : h < 64) : ((bits >>> (v.toInt64 &&& 63)) &&& 1) = if x_on bits h.toNat = true then 1 else 0 := by
  have ev : v = Int32.ofInt ((h.toNat : Nat) : Int) := by rw [show ((h.toNat : Nat) : Int) = h by omega, ← hv, Int32.ofInt_toInt]
  rw [ev]
  exact x_shr_0 (by omega)
/-- one card's bit -/
theorem cc_s {K : x_Kn} {y n n2 : Int} {v c z s r x : Int32} {bits : Int64} (H : x = x_btq (fun c => x_on (K.1 c) y.toNat) n.toNat) (h0 : 0 ≤ n) (h2 : n2 = n + 1) (e : bits = K.1 n.toNat) (hv : v.toInt = y) (y0 : 0 ≤ y) (y1 : y < 64) (e1 : ((bits >>> (v.toInt64 &&& 63)) &&& 1).toInt32 = z) (hc : c.toInt = n) (e2 : z <<< c = s) (e3 : x ||| s = r) : r = x_btq (fun c => x_on (K.1 c) y.toNat) n2.toNat := by
  rw [x_shr_i9 hv y0 y1, e] at e1
  by_cases g : x_on (K.1 n.toNat) y.toNat = true
  · rw [if_pos g, show (1 : Int64).toInt32 = (1 : Int32) by decide] at e1
    subst e1
    exact x_btq_s H h0 h2 (x_btq_y (f := fun c => x_on (K.1 c) y.toNat) h0 g e2 hc e3)
  · rw [if_neg g, show (0 : Int64).toInt32 = (0 : Int32) by decide] at e1
    subst e1
    rw [Int32.zero_shiftLeft] at e2
    exact x_btq_s H h0 h2 (x_btq_z (f := fun c => x_on (K.1 c) y.toNat) g e2.symm e3)
theorem cc_x {K : x_Kn} {y n : Int} {ca : Nat} {x : Int32} (H : x = x_btq (fun c => x_on (K.1 c) y.toNat) n.toNat) (h : n.toNat = ca) : x = x_cc9 K ca y := by
  rw [H, h]
  rfl
section OAS
variable {Q : x_Kn} {w h nw v v2 n n2 E : Int}
theorem x_oa_s (h0 : 0 ≤ v) (hv : v < nw) (h2 : v2 = v + 1) (H : x_oa9 Q w h (nw - v).toNat v.toNat n = E) (e : n2 = if x_ob Q w h v.toNat = true then n + 1 else n) : x_oa9 Q w h (nw - v2).toNat v2.toNat n2 = E := by
  rw [← H, show (nw - v).toNat = (nw - v2).toNat + 1 by omega, x_oa9, show v2.toNat = v.toNat + 1 by omega, e]
theorem x_oa_0 (hv : v = 0) (hn : n = 0) : x_oa9 Q w h (nw - v).toNat v.toNat n = x_oa9 Q w h nw.toNat 0 0 := by
  rw [hv, hn, show nw - 0 = nw by omega]
  rfl
theorem x_oa_x (hv : nw ≤ v) (H : x_oa9 Q w h (nw - v).toNat v.toNat n = x_oa9 Q w h nw.toNat 0 0) : n = x_oa9 Q w h nw.toNat 0 0 := by
  rw [← H, show (nw - v).toNat = 0 by omega]
  rfl
theorem x_ob_i {bits : Int64} {u : Int32} (hu : u.toInt = h) (h0 : 0 ≤ h) (h1 : h < 64) (k0 : 0 ≤ v) (e : bits = Q.2.2.2 v.toNat) : x_ob Q w h v.toNat = true ↔ ¬ v = w ∧ ¬ x_eq ((bits >>> (u.toInt64 &&& 63)) &&& 1) 0 = 1 := by
  rw [x_shr_i9 hu h0 h1, e, x_ob, Bool.and_eq_true, decide_eq_true_eq, show ((v.toNat : Nat) : Int) = v by omega, x_eq_1]
  by_cases g : x_on (Q.2.2.2 v.toNat) h.toNat = true
  · rw [if_pos g]
    exact ⟨fun z => ⟨z.1, by decide⟩, fun z => ⟨z.1, g⟩⟩
  · rw [if_neg g]
    exact ⟨fun z => absurd z.2 g, fun z => absurd rfl z.2⟩
theorem x_ob_w (k0 : 0 ≤ v) (e : v = w) : ¬ x_ob Q w h v.toNat = true := by
  rw [x_ob, Bool.and_eq_true, decide_eq_true_eq]
  exact fun z => z.1 (by omega)
end OAS
section SHS
variable {Q : x_Kn} {w nw v v2 n n2 E : Int} {h : Int64}
theorem x_sh_s (h0 : 0 ≤ v) (hv : v < nw) (h2 : v2 = v + 1) (H : x_sh9 Q w h (nw - v).toNat v.toNat n = E) (e : n2 = n + x_sw Q w h v.toNat) : x_sh9 Q w h (nw - v2).toNat v2.toNat n2 = E := by
  rw [← H, show (nw - v).toNat = (nw - v2).toNat + 1 by omega, x_sh9, show v2.toNat = v.toNat + 1 by omega, e]
theorem x_sh_0 (hv : v = 0) (hn : n = 0) : x_sh9 Q w h (nw - v).toNat v.toNat n = x_sh9 Q w h nw.toNat 0 0 := by
  rw [hv, hn, show nw - 0 = nw by omega]
  rfl
theorem x_sh_x (hv : nw ≤ v) (H : x_sh9 Q w h (nw - v).toNat v.toNat n = x_sh9 Q w h nw.toNat 0 0) : n = x_sh9 Q w h nw.toNat 0 0 := by
  rw [← H, show (nw - v).toNat = 0 by omega]
  rfl
theorem x_sw_w (k0 : 0 ≤ v) (e : v = w) (hn : n2 = n + 0) : n2 = n + x_sw Q w h v.toNat := by
  rw [x_sw, if_pos (by omega), hn]
theorem x_sw_v {r : Int} {bits : Int64} (k0 : 0 ≤ v) (e : ¬ v = w) (eb : bits = Q.2.2.2 v.toNat) (hr : r = ((x_ct (bits &&& h).toInt.toNat 62 : Nat) : Int)) (hn : n2 = n + r) : n2 = n + x_sw Q w h v.toNat := by
  rw [x_sw, if_neg (by omega), hn, hr, eb]
end SHS
/-! the best of all sets -/
noncomputable def x_fF (s : x_S) (w : Int) : Int := x_row s 3 (x_row s 7 w)
noncomputable def x_fW (s : x_S) (w : Int) : Int := x_row s 4 (x_row s 7 w) - x_row s 3 (x_row s 7 w) + 1
noncomputable def x_fK (s : x_S) (w : Int) : Nat := (x_row s 5 (x_row s 7 w)).toNat
noncomputable def x_fD (s : x_S) (Q : x_Kn) (ca w : Int) : (Nat → Int) → Int := x_D5 (x_wo9 Q w ca.toNat) (x_cu9 Q w ca.toNat (x_fF s w)) (x_fK s w)
noncomputable def x_fS (s : x_S) (Q : x_Kn) (w : Int) : (Nat → Int) → Int := x_S5 (fun i => x_oa9 Q w (x_fF s w + (i : Int)) s.2.2.1.toNat 0 0) (x_fK s w)
noncomputable def x_sbw (s : x_S) (w : Int) (y : Nat → Int) : Prop := x_sb (x_fK s w : Int) (x_fW s w) y
noncomputable def LSW (s : x_S) (Q : x_Kn) (ca w : Int) (V : (Nat → Int) → Prop) (b d e : Int) : Prop := LSTb (x_fD s Q ca w) (x_fS s Q w) (x_B5 (x_fK s w)) V b d e
noncomputable def x_QB (s : x_S) (Q : x_Kn) (ca w r : Int) : Prop := ∃ d e : Int, LSW s Q ca w (x_sbw s w) r d e
theorem x_QB_u {s : x_S} {Q : x_Kn} {ca w r r2 : Int} (h : x_QB s Q ca w r) (h2 : x_QB s Q ca w r2) : r = r2 := by
  obtain ⟨d, e, h⟩ := h
  obtain ⟨d2, e2, h2⟩ := h2
  exact LSTb_q h h2 (fun y _ => rfl) (fun y _ => rfl) (fun y _ => rfl)
noncomputable def x_best (s : x_S) (N : x_N) (sz ca n w r : Int) : Prop := if 0 ≤ n ∧ n ≤ sz ∧ 0 ≤ w ∧ w < s.2.2.1 then x_QB s (x_kn s N n.toNat) ca w r else r = -1
theorem x_best_u {s : x_S} {N : x_N} {sz ca n w r r2 : Int} (h : x_best s N sz ca n w r) (h2 : x_best s N sz ca n w r2) : r = r2 := by
  unfold x_best at h h2
  by_cases g : 0 ≤ n ∧ n ≤ sz ∧ 0 ≤ w ∧ w < s.2.2.1
  · rw [if_pos g] at h h2
    exact x_QB_u h h2
  · rw [if_neg g] at h h2
    omega
theorem x_best_y {s : x_S} {N : x_N} {sz ca n w r : Int} (g : 0 ≤ n ∧ n ≤ sz ∧ 0 ≤ w ∧ w < s.2.2.1) (h : x_QB s (x_kn s N n.toNat) ca w r) : x_best s N sz ca n w r := by
  unfold x_best
  rw [if_pos g]
  exact h
theorem x_best_n {s : x_S} {N : x_N} {sz ca n w r : Int} (g : ¬ (0 ≤ n ∧ n ≤ sz ∧ 0 ≤ w ∧ w < s.2.2.1)) (h : r = -1) : x_best s N sz ca n w r := by
  unfold x_best
  rw [if_neg g]
  exact h
/-- the class's end -/
theorem x_QB_c {M : mm_M} {s : x_S} {Q : x_Kn} {ca w k l r : Int} {y : Nat → Int} (H : LSM M (x_wo9 Q w ca.toNat) (x_cu9 Q w ca.toNat (x_fF s w)) (fun i => x_oa9 Q w (x_fF s w + (i : Int)) s.2.2.1.toNat 0 0) (x_fK s w) (fun x => False ∨ x_Cb (x_fK s w : Int) (x_fW s w) k l y x)) (hk : k = (x_fK s w : Int)) (hl : l = x_fW s w) (e : (M.2.1 36 2).toInt = r) : x_QB s Q ca w r := by
  subst hk
  subst hl
  subst e
  exact ⟨(M.2.1 36 3).toInt, (M.2.1 36 4).toInt, LSTb_c H (fun x => ⟨fun z => z.elim False.elim Cb_all.mp, fun z => Or.inr (Cb_all.mpr z)⟩)⟩
/-! the reference's sets -/
noncomputable def AR8 (M : mm_M) (m : Nat) : Int := (M.2.1 118 m).toInt
noncomputable def x_nxt (M : mm_M) (j : Int) (m : Nat) : Int := if (m : Int) < j then (M.2.1 118 m).toInt else (M.2.1 118 (j - 1).toNat).toInt + 1 + ((m : Int) - j)
noncomputable def x_VB (s : x_S) (w : Int) (a : Nat → Int) (x : Nat → Int) : Prop := x_sbw s w x ∧ x_lx (x_fK s w : Int) x a
noncomputable def x_VA (s : x_S) (w : Int) (a : Nat → Int) (x : Nat → Int) : Prop := x_sbw s w x ∧ (x_sm (x_fK s w : Int) x a ∨ x_lx (x_fK s w : Int) x a)
section REB
variable {M M1 : mm_M} {s : x_S} {Q : x_Kn} {ca w b d e b2 d2 e2 k : Int} {a a2 : Nat → Int}
theorem sb_cc {K : Nat} {W : Int} {x y : Nat → Int} (e : ∀ m : Nat, (m : Int) < (K : Int) → x m = y m) (H : x_sb (K : Int) W y) : x_sb (K : Int) W x := sb_c H e
theorem lx_cc {K : Int} {x a a2 : Nat → Int} (e : ∀ m : Nat, (m : Int) < K → a m = a2 m) : x_lx K x a ↔ x_lx K x a2 := by
  constructor
  · rintro ⟨j, h1, h2, h3⟩
    exact ⟨j, h1, by rw [← e j h1]; exact h2, fun m hm => (h3 m hm).trans (e m (by omega))⟩
  · rintro ⟨j, h1, h2, h3⟩
    exact ⟨j, h1, by rw [e j h1]; exact h2, fun m hm => (h3 m hm).trans (e m (by omega)).symm⟩
theorem LSW_b (e9 : ∀ m : Nat, (m : Int) < (x_fK s w : Int) → a m = a2 m) (H : LSW s Q ca w (x_VB s w a) b d e) : LSW s Q ca w (x_VB s w a2) b d e := LSTb_c H (fun x => and_congr Iff.rfl (lx_cc e9))
theorem sbw_c (e9 : ∀ m : Nat, (m : Int) < (x_fK s w : Int) → a2 m = a m) (H : x_sbw s w a) : x_sbw s w a2 := sb_c H e9
/-- the first set -/
theorem RB_0 (hk : k = (x_fK s w : Int)) (hW : k ≤ x_fW s w) (h : ∀ i : Nat, i < k.toNat → (M.2.1 118 i).toInt = (i : Int)) : x_sbw s w (AR8 M) := fun m hm => by
  have h1 := h m (by omega)
  refine ⟨?_, ?_, fun z => ?_⟩
  · show 0 ≤ (M.2.1 118 m).toInt
    omega
  · show (M.2.1 118 m).toInt < _
    omega
  · have h2 := h (m + 1) (by omega)
    show (M.2.1 118 m).toInt < (M.2.1 118 (m + 1)).toInt
    omega
theorem RL_0 (hk : k = (x_fK s w : Int)) (h : ∀ i : Nat, i < k.toNat → (M.2.1 118 i).toInt = (i : Int)) (hb : b = -1) : LSW s Q ca w (x_VB s w (AR8 M)) b d e := LSTb_0 (fun x z => lx_0 z.1 (fun m hm => h m (by omega)) z.2) hb
/-- a set's bits -/
theorem BR_0 {x : Int32} {n : Int} (hn : n = 0) (hx : x = 0) : x = x_br a n.toNat := by
  rw [hn, hx]
  rfl
theorem BR_s {x y z : Int32} {v : Int32} {n n2 : Int} (H : x = x_br a n.toNat) (h0 : 0 ≤ n) (h2 : n2 = n + 1) (e1 : (1 : Int32) <<< v = z) (hv : v.toInt = a n.toNat) (e2 : x ||| z = y) : y = x_br a n2.toNat := by
  rw [show n2.toNat = n.toNat + 1 by omega, x_br, ← e2, ← e1, H, x_i32 hv]
theorem BR_c {x : Int32} {n : Nat} (h : ∀ i : Nat, a2 i = a i) (H : x = x_br a n) : x = x_br a2 n := by
  rw [H]
  exact x_br_c n (fun m _ => (h m).symm)
theorem B5_n (H : x_sbw s w a) (hW : x_fW s w ≤ 24) : 0 ≤ x_B5 (x_fK s w) a := by
  have h : x_sb (x_fK s w : Int) (x_fW s w) a := H
  unfold x_B5
  rw [x_br_n h (by omega) _ (Nat.le_refl _)]
  omega
/-- a set is weighed: drops and shared by the wide code -/
theorem RW_D {x : Int32} {l : Int64} {r : Int} (H : x_sbw s w a) (hW : x_fW s w ≤ 24) (h0 : 0 ≤ x_fF s w ∧ x_fF s w ≤ 59) (h1 : x_fF s w + x_fW s w ≤ 60) (hca : ca.toNat ≤ 30) (hx : x = x_br a (x_fK s w)) (hl : l = x_wd x (x_fF s w)) (hr : r = x_fl9 Q w l ca.toNat 0 0) : r = x_fD s Q ca w a := by
  have z := x_D9_e (Q := Q) (w := w) (K := x_fK s w) H hW h0 h1 hca
  rw [hr, hl, hx]
  exact z
theorem RW_S {x : Int32} {l : Int64} {r : Int} (H : x_sbw s w a) (hW : x_fW s w ≤ 24) (h0 : 0 ≤ x_fF s w ∧ x_fF s w ≤ 59) (h1 : x_fF s w + x_fW s w ≤ 60) (hx : x = x_br a (x_fK s w)) (hl : l = x_wd x (x_fF s w)) (hr : r = x_sh9 Q w l s.2.2.1.toNat 0 0) : r = x_fS s Q w a := by
  have z := x_S9_e (Q := Q) (w := w) (K := x_fK s w) (nw := s.2.2.1.toNat) H hW h0 h1
  rw [hr, hl, hx]
  exact z
theorem RW_nn {x : Int32} {l : Int64} (H : x_sbw s w a) (hW : x_fW s w ≤ 24) (h0 : 0 ≤ x_fF s w ∧ x_fF s w ≤ 59) (h1 : x_fF s w + x_fW s w ≤ 60) (hx : x = x_br a (x_fK s w)) (hl : l = x_wd x (x_fF s w)) : 0 ≤ l.toInt := by
  rw [hl, hx]
  exact (x_on_nn (n := 60) (by decide) (x_wd_hi H hW h0 h1 (Nat.le_refl _))).1
theorem RL_y {x : Int32} {dr sr : Int} (H : LSW s Q ca w (x_VB s w a) b d e) (A : x_sbw s w a) (hW : x_fW s w ≤ 24) (hx : x = x_br a (x_fK s w)) (hd : dr = x_fD s Q ca w a) (hs : sr = x_fS s Q w a) (t : b = -1 ∨ dr < d ∨ dr = d ∧ (sr < e ∨ sr = e ∧ x.toInt < b)) (k1 : b2 = x.toInt) (k2 : d2 = dr) (k3 : e2 = sr) : LSW s Q ca w (x_VA s w a) b2 d2 e2 := by
  have eB : x.toInt = x_B5 (x_fK s w) a := by rw [hx]; rfl
  have z := LSTb_y (x := a) (b2 := b2) (d2 := d2) (s2 := e2) (K := (x_fK s w : Int)) H (fun v h => x_D5_c h) (fun v h => x_S5_c h) (fun v h => x_B5_c h) (by rw [← eB, ← (hd : dr = x_fD s Q ca w a), ← (hs : sr = x_fS s Q w a)]; exact t) (fun v hv => B5_n hv.1 hW) (k1.trans eB) (k2.trans hd) (k3.trans hs)
  exact LSTb_c z (fun v => ⟨fun h => h.elim (fun h => ⟨h.1, Or.inr h.2⟩) (fun h => ⟨sb_c A h, Or.inl h⟩), fun h => h.2.elim (fun g => Or.inr g) (fun g => Or.inl ⟨h.1, g⟩)⟩)
theorem RL_n {x : Int32} {dr sr : Int} (H : LSW s Q ca w (x_VB s w a) b d e) (A : x_sbw s w a) (hx : x = x_br a (x_fK s w)) (hd : dr = x_fD s Q ca w a) (hs : d < dr ∨ sr = x_fS s Q w a) (nb : ¬ b = -1) (t : d < dr ∨ d = dr ∧ (e < sr ∨ e = sr ∧ b ≤ x.toInt)) (k1 : b2 = b) (k2 : d2 = d) (k3 : e2 = e) : LSW s Q ca w (x_VA s w a) b2 d2 e2 := by
  have eB : x.toInt = x_B5 (x_fK s w) a := by rw [hx]; rfl
  have t2 : d < x_fD s Q ca w a ∨ d = x_fD s Q ca w a ∧ (e < x_fS s Q w a ∨ e = x_fS s Q w a ∧ b ≤ x_B5 (x_fK s w) a) := by
    rw [← eB, ← hd]
    rcases hs with hs | hs
    · exact Or.inl hs
    · rw [← hs]
      exact t
  have z := LSTb_n (x := a) (K := (x_fK s w : Int)) H (fun v h => x_D5_c h) (fun v h => x_S5_c h) (fun v h => x_B5_c h) nb t2
  rw [k1, k2, k3]
  exact LSTb_c z (fun v => ⟨fun h => h.elim (fun h => ⟨h.1, Or.inr h.2⟩) (fun h => ⟨sb_c A h, Or.inl h⟩), fun h => h.2.elim (fun g => Or.inr g) (fun g => Or.inl ⟨h.1, g⟩)⟩)
/-- the last set -/
theorem RL_x (hk : k = (x_fK s w : Int)) (H : LSW s Q ca w (x_VA s w a) b d e) (h : ∀ m : Nat, (m : Int) < k → a m = x_fW s w - k + (m : Int)) : x_QB s Q ca w b := by
  subst hk
  exact ⟨d, e, LSTb_c H (fun x => ⟨fun z => z.1, fun z => ⟨z, lx_e z h⟩⟩)⟩
/-- the next set -/
theorem NX_0 {i j : Int} (hk : k = (x_fK s w : Int)) (i0 : 0 ≤ i) (ik : i < k) (hj : j = i + 1) (A : x_sbw s w (AR8 M)) (hi : ∀ m : Nat, i < (m : Int) → (m : Int) < k → AR8 M m = x_fW s w - k + (m : Int)) (f : ∀ m : Nat, ¬ m = i.toNat → M1.2.1 118 m = M.2.1 118 m) (g : (M1.2.1 118 i.toNat).toInt = (M.2.1 118 i.toNat).toInt + 1) (ne : ¬ (M.2.1 118 i.toNat).toInt = x_fW s w - k + i) : x_sbw s w (x_nxt M1 j) ∧ ∀ x, (x_VA s w (AR8 M) x ↔ x_VB s w (x_nxt M1 j) x) := by
  subst hk
  subst hj
  have u0 : ∀ m : Nat, m < i.toNat → x_nxt M1 (i + 1) m = AR8 M m := fun m hm => by
    show (if (m : Int) < i + 1 then _ else _) = _
    rw [if_pos (by omega), f m (by omega)]
    rfl
  have u1 : ∀ m : Nat, i.toNat ≤ m → (m : Int) < (x_fK s w : Int) → x_nxt M1 (i + 1) m = AR8 M i.toNat + 1 + ((m : Int) - (i.toNat : Int)) := fun m hm _ => by
    show (if (m : Int) < i + 1 then _ else _) = (M.2.1 118 i.toNat).toInt + 1 + _
    by_cases q : (m : Int) < i + 1
    · rw [if_pos q, show m = i.toNat by omega, g]
      omega
    · rw [if_neg q, show i + 1 - 1 = i by omega, g]
      omega
  have A9 : x_sb (x_fK s w : Int) (x_fW s w) (AR8 M) := A
  have ai := A9 i.toNat (by omega)
  have mx := sb_mx A9 (m := i.toNat) (by omega)
  have ne2 : ¬ AR8 M i.toNat = x_fW s w - (x_fK s w : Int) + i := ne
  refine ⟨fun m hm => ?_, fun x => ?_⟩
  · by_cases q : m < i.toNat
    · have am := A9 m hm
      refine ⟨by rw [u0 m q]; exact am.1, by rw [u0 m q]; exact am.2.1, fun z => ?_⟩
      rw [u0 m q]
      by_cases q2 : m + 1 < i.toNat
      · rw [u0 (m + 1) q2]
        exact am.2.2 z
      · rw [u1 (m + 1) (by omega) (by omega), show i.toNat = m + 1 by omega]
        have := am.2.2 z
        omega
    · have e1 := u1 m (by omega) hm
      refine ⟨by omega, by omega, fun z => ?_⟩
      have e2 := u1 (m + 1) (by omega) (by omega)
      omega
  · constructor
    · rintro ⟨h1, h2⟩
      exact ⟨h1, (lx_n (a := AR8 M) (i := i.toNat) h1 (by omega) (fun m hm hk => hi m (by omega) hk) u0 u1).mpr h2⟩
    · rintro ⟨h1, h2⟩
      exact ⟨h1, (lx_n (a := AR8 M) (i := i.toNat) h1 (by omega) (fun m hm hk => hi m (by omega) hk) u0 u1).mp h2⟩
theorem NX_s {j j2 : Int} (h1 : 1 ≤ j) (hj : j2 = j + 1) (f : ∀ m : Nat, ¬ m = j.toNat → M1.2.1 118 m = M.2.1 118 m) (g : (M1.2.1 118 j.toNat).toInt = (M.2.1 118 (j - 1).toNat).toInt + 1) : x_nxt M1 j2 = x_nxt M j := by
  subst hj
  funext m
  show (if (m : Int) < j + 1 then _ else _) = (if (m : Int) < j then _ else _)
  by_cases q : (m : Int) < j
  · rw [if_pos q, if_pos (by omega), f m (by omega)]
  · rw [if_neg q]
    by_cases q2 : (m : Int) < j + 1
    · rw [if_pos q2, show m = j.toNat by omega, g]
      omega
    · rw [if_neg q2, show j + 1 - 1 = j by omega, g]
      omega
theorem NX_x {j : Int} (hk : k = (x_fK s w : Int)) (hj : k ≤ j) : ∀ m : Nat, (m : Int) < (x_fK s w : Int) → x_nxt M j m = AR8 M m := fun m hm => by
  show (if (m : Int) < j then _ else _) = _
  rw [if_pos (by omega)]
  rfl
end REB
/-! frames, starts -/
section REF
variable {M M1 : mm_M} {s : x_S} {Q : x_Kn} {ca w b d e k : Int} {a a2 : Nat → Int}
theorem AR_f (h : ∀ i : Nat, M1.2.1 118 i = M.2.1 118 i) : AR8 M1 = AR8 M := funext (fun i => congrArg Int32.toInt (h i))
theorem SA_f (h : ∀ i : Nat, M1.2.1 118 i = M.2.1 118 i) (H : x_sbw s w (AR8 M)) : x_sbw s w (AR8 M1) := by
  rw [AR_f h]
  exact H
theorem LA_f (h : ∀ i : Nat, M1.2.1 118 i = M.2.1 118 i) (H : LSW s Q ca w (x_VA s w (AR8 M)) b d e) : LSW s Q ca w (x_VA s w (AR8 M1)) b d e := by
  rw [AR_f h]
  exact H
theorem LSW_n (H : LSW s Q ca w (x_VA s w a) b d e) (h : ∀ x, x_VA s w a x ↔ x_VB s w a2 x) : LSW s Q ca w (x_VB s w a2) b d e := LSTb_c H h
theorem HI_s {i i2 W : Int} (H : ∀ m : Nat, i < (m : Int) → (m : Int) < k → AR8 M m = W - k + (m : Int)) (i0 : 0 ≤ i) (h2 : i2 = i - 1) (h : (M.2.1 118 i.toNat).toInt = W - k + i) : ∀ m : Nat, i2 < (m : Int) → (m : Int) < k → AR8 M m = W - k + (m : Int) := fun m h1 h3 => by
  by_cases q : (m : Int) = i
  · rw [show m = i.toNat by omega]
    show (M.2.1 118 i.toNat).toInt = _
    omega
  · exact H m (by omega) h3
theorem x_fK_e (h : 0 ≤ x_row s 5 (x_row s 7 w)) : ((x_fK s w : Nat) : Int) = x_row s 5 (x_row s 7 w) := by
  unfold x_fK
  omega
theorem CU9_e {f h hole : Int} {ca : Nat} {x r v : Int32} (hx : x = x_wo9 Q w ca) (hr : r = x_cc9 Q ca hole) (hh : hole = f + h) (h0 : 0 ≤ h) (e : x &&& r = v) : v = x_cu9 Q w ca f h.toNat := by
  rw [← e, hx, hr, hh, x_cu9, show ((h.toNat : Nat) : Int) = h by omega]
theorem OA9_e {f h hole r : Int} {nw : Nat} (hr : r = x_oa9 Q w hole nw 0 0) (hh : hole = f + h) (h0 : 0 ≤ h) : r = (fun i : Nat => x_oa9 Q w (f + (i : Int)) nw 0 0) h.toNat := by
  show r = x_oa9 Q w (f + ((h.toNat : Nat) : Int)) nw 0 0
  rw [hr, hh, show ((h.toNat : Nat) : Int) = h by omega]
theorem x_wo_b {x : Int32} (h : ca.toNat ≤ 30) (e : x = x_wo9 Q w ca.toNat) : 0 ≤ x.toInt ∧ x.toInt < 1073741824 := by
  rw [e]
  exact btq_le h
theorem x_wo_e9 {x : Int32} {n : Int} (H : x = x_btq (fun c => decide (x_hw Q c w = 0)) n.toNat) (h : n.toNat = ca.toNat) : x = x_wo9 Q w ca.toNat := by
  rw [H, h]
  rfl
end REF
section CLS
variable {M : mm_M} {wi : Int32} {cu : Nat → Int32} {sh : Nat → Int} {K : Nat} {W W2 c : Int} {y : Nat → Int} {V : (Nat → Int) → Prop}
theorem LSM_0 (h : ∀ x, ¬ V x) (e : (M.2.1 36 2).toInt = -1) : LSM M wi cu sh K V := LSTb_0 h e
theorem CU5_w (h : W2 ≤ W) (H : CU5 M cu sh W) : CU5 M cu sh W2 := fun i hi => H i (by omega)
theorem CH5_0 (h : (K : Int) ≤ c) : (0 : Int32) = x_bo y K (K - c.toNat) := by
  rw [show K - c.toNat = 0 by omega]
  rfl
theorem DD5_0 {dr : Int32} (h : (K : Int) ≤ c) (e : dr = wi) : dr = x_dd wi cu y K (K - c.toNat) := by
  rw [show K - c.toNat = 0 by omega]
  exact e
theorem SS5_0 {s : Int} (h : (K : Int) ≤ c) (e : s = 0) : s = x_ss sh y K (K - c.toNat) := by
  rw [show K - c.toNat = 0 by omega]
  exact e
end CLS
