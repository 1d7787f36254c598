abbrev md_k3 (a i : Nat) : Prop := 11 ≤ a ∧ a ≤ 16 ∨ 39 ≤ a ∧ a ≤ 41
/-! what a field's notches can mean -/
abbrev x_M3 := Int × Int × Int32
abbrev x_T3 := Int × Int32 × Int32
theorem l_and_l {x y : Int64} (hx : 0 ≤ x.toInt ∧ x.toInt < 4611686018427387904) : 0 ≤ (x &&& y).toInt ∧ (x &&& y).toInt < 4611686018427387904 := by
  rw [Int64.and_comm]
  have := l_and_r (x := y) hx.1
  omega
abbrev x_mc (h c : Int64) (t : Int) : Prop := h &&& c = c ∧ ((x_ct (h &&& (c ^^^ (-1 : Int64))).toInt.toNat 62 : Nat) : Int) ≤ t
theorem x_mc_y {h c : Int64} {t : Int} (e : x_eq (h &&& c) c = 1) (g : ((x_ct (h &&& (c ^^^ (-1 : Int64))).toInt.toNat 62 : Nat) : Int) ≤ t) : x_mc h c t := ⟨x_eq_1.mp e, g⟩
theorem x_mc_n {h c : Int64} {t : Int} (e : ¬ x_eq (h &&& c) c = 1) : ¬ x_mc h c t := fun z => e (x_eq_1.mpr z.1)
theorem x_mc_m {h c : Int64} {t : Int} (g : ¬ ((x_ct (h &&& (c ^^^ (-1 : Int64))).toInt.toNat 62 : Nat) : Int) ≤ t) : ¬ x_mc h c t := fun z => g z.2
noncomputable def x_mvl (s : x_S) (f t : Int) (h : Int64) : Nat → Nat → x_M3 → x_M3
  | 0, _, S => S
  | m + 1, v, S => x_mvl s f t h m (v + 1) (if x_mc h (x_cd s f v) t then (S.1 + 1, (v : Int), S.2.2 ||| ((1 : Int32) <<< Int32.ofInt (v : Int))) else S)
noncomputable def x_mvr (S : x_M3) (k : Int) : Int := if k = 0 then (if S.1 = 1 then S.2.1 else -1) else if k = 1 then S.2.2.toInt else S.1
noncomputable def x_mv9 (s : x_S) (f t : Int) (h : Int64) : x_M3 := x_mvl s f t h (x_row s 5 f).toNat 0 (0, -1, 0)
section XMV
variable {s : x_S} {f t v v2 n : Int} {h : Int64} {S S2 E : x_M3} {M M1 : mm_M}
theorem x_mvl_s (h0 : 0 ≤ v) (hv : v < n) (h2 : v2 = v + 1) (H : x_mvl s f t h (n - v).toNat v.toNat S = E) (e : S2 = if x_mc h (x_cd s f v) t then (S.1 + 1, v, S.2.2 ||| ((1 : Int32) <<< Int32.ofInt v)) else S) : x_mvl s f t h (n - v2).toNat v2.toNat S2 = E := by
  rw [← H, show (n - v).toNat = (n - v2).toNat + 1 by omega, x_mvl, show v2.toNat = v.toNat + 1 by omega, e, show ((v.toNat : Nat) : Int) = v by omega]
theorem x_mvl_n (no : ¬ x_mc h (x_cd s f v) t) (e : S2 = S) : S2 = if x_mc h (x_cd s f v) t then (S.1 + 1, v, S.2.2 ||| ((1 : Int32) <<< Int32.ofInt v)) else S := by
  rw [if_neg no]
  exact e
theorem x_mvl_y {w z : Int32} {a b : Int} (y : x_mc h (x_cd s f v) t) (ha : a = S.1 + 1) (hb : b = v) (e1 : (1 : Int32) <<< w = z) (hw : w.toInt = v) {q : Int32} (e2 : S.2.2 ||| z = q) : (a, b, q) = if x_mc h (x_cd s f v) t then (S.1 + 1, v, S.2.2 ||| ((1 : Int32) <<< Int32.ofInt v)) else S := by
  rw [if_pos y, ha, hb, ← e2, ← e1, x_i32 hw]
theorem x_mvl_x (hv : n ≤ v) (H : x_mvl s f t h (n - v).toNat v.toNat S = E) : S = E := by
  rw [← H, show (n - v).toNat = 0 by omega]
  rfl
theorem x_mvl_0 (hv : v = 0) : x_mvl s f t h (n - v).toNat v.toNat S = x_mvl s f t h n.toNat 0 S := by
  rw [hv, show n - 0 = n by omega]
  rfl
theorem x_mvl_i {a b : Int} {q : Int32} (hv : v = 0) (ha : a = 0) (hb : b = -1) (hq : q = 0) : x_mvl s f t h (n - v).toNat v.toNat (a, b, q) = x_mvl s f t h n.toNat 0 (0, -1, 0) := by
  subst ha; subst hb; subst hq
  exact x_mvl_0 hv
theorem x_mvl_w {w z q q0 : Int32} {a b a0 b0 : Int} (y : x_mc h (x_cd s f v) t) (ha : a = a0 + 1) (hb : b = v) (e1 : (1 : Int32) <<< w = z) (hw : w.toInt = v) (e2 : q0 ||| z = q) : ((a, b, q) : x_M3) = if x_mc h (x_cd s f v) t then (a0 + 1, v, q0 ||| ((1 : Int32) <<< Int32.ofInt v)) else (a0, b0, q0) := by
  rw [if_pos y, ha, hb, ← e2, ← e1, x_i32 hw]
noncomputable def MVc (M : mm_M) (S : x_M3) : Prop := (M.2.1 39 6).toInt = S.1 ∧ (M.2.1 39 4).toInt = (if S.1 = 1 then S.2.1 else -1) ∧ M.2.1 39 5 = S.2.2
theorem MVc_f (q : ∀ a i : Nat, a = 39 ∧ 4 ≤ i ∧ i ≤ 6 → M1.2.1 a i = M.2.1 a i) (H : MVc M S) : MVc M1 S := by
  unfold MVc
  rw [q 39 4 (by decide), q 39 5 (by decide), q 39 6 (by decide)]
  exact H
theorem MVc_s {w z : Int32} (H : MVc M S) (e6 : (M1.2.1 39 6).toInt = (M.2.1 39 6).toInt + 1) (e4 : (M.2.1 39 6).toInt = 0 → (M1.2.1 39 4).toInt = v) (e4n : ¬ (M.2.1 39 6).toInt = 0 → (M1.2.1 39 4).toInt = -1) (e1 : (1 : Int32) <<< w = z) (hw : w.toInt = v) (e5 : M.2.1 39 5 ||| z = M1.2.1 39 5) : MVc M1 (S.1 + 1, v, S.2.2 ||| ((1 : Int32) <<< Int32.ofInt v)) := by
  obtain ⟨a, b, c⟩ := H
  refine ⟨by rw [e6, a], ?_, by rw [← e5, c, ← e1, x_i32 hw]⟩
  show _ = if S.1 + 1 = 1 then v else -1
  rw [a] at e4 e4n
  by_cases g : S.1 = 0
  · rw [e4 g, if_pos (by omega)]
  · rw [e4n g, if_neg (by omega)]
noncomputable def MVL (M : mm_M) (s : x_S) (f t : Int) (h : Int64) (n v : Int) : Prop := ∃ S : x_M3, MVc M S ∧ x_mvl s f t h (n - v).toNat v.toNat S = x_mvl s f t h n.toNat 0 (0, -1, 0)
theorem MVL_0 (e6 : M.2.1 39 6 = 0) (e4 : M.2.1 39 4 = -1) (e5 : M.2.1 39 5 = 0) (hv : v = 0) : MVL M s f t h n v := ⟨(0, -1, 0), ⟨by rw [e6]; rfl, by rw [e4]; rfl, e5⟩, x_mvl_0 hv⟩
theorem MVL_n (H : MVL M s f t h n v) (q : ∀ a i : Nat, a = 39 ∧ 4 ≤ i ∧ i ≤ 6 → M1.2.1 a i = M.2.1 a i) (h0 : 0 ≤ v) (hv : v < n) (h2 : v2 = v + 1) (no : ¬ x_mc h (x_cd s f v) t) : MVL M1 s f t h n v2 := by
  obtain ⟨S, a, b⟩ := H
  exact ⟨S, MVc_f q a, x_mvl_s h0 hv h2 b (x_mvl_n no rfl)⟩
theorem MVL_y {w z : Int32} (H : MVL M s f t h n v) (h0 : 0 ≤ v) (hv : v < n) (h2 : v2 = v + 1) (y : x_mc h (x_cd s f v) t) (e6 : (M1.2.1 39 6).toInt = (M.2.1 39 6).toInt + 1) (e4 : (M.2.1 39 6).toInt = 0 → (M1.2.1 39 4).toInt = v) (e4n : ¬ (M.2.1 39 6).toInt = 0 → (M1.2.1 39 4).toInt = -1) (e1 : (1 : Int32) <<< w = z) (hw : w.toInt = v) (e5 : M.2.1 39 5 ||| z = M1.2.1 39 5) : MVL M1 s f t h n v2 := by
  obtain ⟨S, a, b⟩ := H
  exact ⟨_, MVc_s a e6 e4 e4n e1 hw e5, x_mvl_s h0 hv h2 b (by rw [if_pos y])⟩
theorem MVL_x (H : MVL M s f t h n v) (hv : n ≤ v) : MVc M (x_mvl s f t h n.toNat 0 (0, -1, 0)) := by
  obtain ⟨S, a, b⟩ := H
  rw [← x_mvl_x hv b]
  exact a
end XMV
/-! sets of words -/
noncomputable def x_mj (a b : x_T3) : x_T3 := (a.1 + b.1, a.2.1 &&& b.2.1, a.2.2 ||| b.2.2)
theorem x_mj_c (a b : x_T3) : x_mj a b = x_mj b a := by
  unfold x_mj
  rw [Int.add_comm, Int32.and_comm, Int32.or_comm]
theorem x_mj_a (a b c : x_T3) : x_mj (x_mj a b) c = x_mj a (x_mj b c) := by
  unfold x_mj
  rw [Int.add_assoc, Int32.and_assoc, Int32.or_assoc]
theorem x_mj_z (a : x_T3) : x_mj (0, -1, 0) a = a := by
  unfold x_mj
  show (0 + a.1, -1 &&& a.2.1, 0 ||| a.2.2) = a
  rw [Int.zero_add, Int32.neg_one_and, Int32.zero_or]
theorem x_mj_4 (a b c d : x_T3) : x_mj (x_mj (x_mj a b) c) d = x_mj (x_mj a c) (x_mj b d) := by
  rw [x_mj_a a b c, x_mj_c b c, ← x_mj_a a c b, x_mj_a (x_mj a c) b d]
noncomputable def x_lf (h : Int64) (t : Int) (cov : Int64) (b : Int32) : x_T3 := if ((x_ct (h &&& (cov ^^^ (-1 : Int64))).toInt.toNat 62 : Nat) : Int) ≤ t then (1, b, b) else (0, -1, 0)
noncomputable def x_mt (h : Int64) (t : Int) (C : Nat → Int64) : List Nat → Int64 → Int32 → x_T3
  | [], cov, b => x_lf h t cov b
  | w :: L, cov, b => x_mj (x_mt h t C L cov b) (x_mt h t C L (cov ||| C w) (b ||| ((1 : Int32) <<< Int32.ofInt (w : Int))))
noncomputable def x_mcv (C : Nat → Int64) : List Nat → Nat → Int64 → Int32 → Int64 × Int32
  | [], _, cov, b => (cov, b)
  | w :: L, s, cov, b => if s % 2 = 1 then x_mcv C L (s / 2) (cov ||| C w) (b ||| ((1 : Int32) <<< Int32.ofInt (w : Int))) else x_mcv C L (s / 2) cov b
noncomputable def x_sm (g : Nat → x_T3) : Nat → x_T3
  | 0 => (0, -1, 0)
  | n + 1 => x_mj (x_sm g n) (g n)
theorem x_sm_2 (g : Nat → x_T3) : ∀ n : Nat, x_sm g (2 * n) = x_mj (x_sm (fun k => g (2 * k)) n) (x_sm (fun k => g (2 * k + 1)) n)
  | 0 => (x_mj_z _).symm
  | n + 1 => by
    rw [show 2 * (n + 1) = 2 * n + 1 + 1 by omega, x_sm, x_sm, x_sm_2 g n, x_mj_4]
    rfl
noncomputable def x_lfs (h : Int64) (t : Int) (C : Nat → Int64) (L : List Nat) (cov : Int64) (b : Int32) (s : Nat) : x_T3 := x_lf h t (x_mcv C L s cov b).1 (x_mcv C L s cov b).2
theorem x_mt_sm (h : Int64) (t : Int) (C : Nat → Int64) : ∀ (L : List Nat) (cov : Int64) (b : Int32), x_mt h t C L cov b = x_sm (x_lfs h t C L cov b) (2 ^ L.length)
  | [], cov, b => (x_mj_z _).symm
  | w :: L, cov, b => by
    have e0 : (fun k => x_lfs h t C (w :: L) cov b (2 * k)) = x_lfs h t C L cov b := funext (fun k => by
      unfold x_lfs
      rw [x_mcv, if_neg (by omega), show 2 * k / 2 = k by omega])
    have e1 : (fun k => x_lfs h t C (w :: L) cov b (2 * k + 1)) = x_lfs h t C L (cov ||| C w) (b ||| ((1 : Int32) <<< Int32.ofInt (w : Int))) := funext (fun k => by
      unfold x_lfs
      rw [x_mcv, if_pos (by omega), show (2 * k + 1) / 2 = k by omega])
    rw [List.length_cons, Nat.pow_succ, Nat.mul_comm, x_sm_2, e0, e1, x_mt, x_mt_sm h t C L cov b, x_mt_sm h t C L]
theorem x_mt_b (h : Int64) (t : Int) (C : Nat → Int64) : ∀ (L : List Nat) (cov : Int64) (b : Int32), 0 ≤ (x_mt h t C L cov b).1 ∧ (x_mt h t C L cov b).1 ≤ ((2 ^ L.length : Nat) : Int)
  | [], cov, b => by
    show 0 ≤ (x_lf h t cov b).1 ∧ (x_lf h t cov b).1 ≤ 1
    unfold x_lf
    split <;> exact ⟨by first | (show (0 : Int) ≤ 1; decide) | (show (0 : Int) ≤ 0; decide), by first | (show (1 : Int) ≤ 1; decide) | (show (0 : Int) ≤ 1; decide)⟩
  | w :: L, cov, b => by
    have a := x_mt_b h t C L cov b
    have c := x_mt_b h t C L (cov ||| C w) (b ||| ((1 : Int32) <<< Int32.ofInt (w : Int)))
    have e : (x_mt h t C (w :: L) cov b).1 = (x_mt h t C L cov b).1 + (x_mt h t C L (cov ||| C w) (b ||| ((1 : Int32) <<< Int32.ofInt (w : Int)))).1 := rfl
    rw [List.length_cons, Nat.pow_succ, e]
    omega
theorem i_or_and {x y z : Int32} (hx : x &&& z = x) (hy : y &&& z = y) : (x ||| y) &&& z = x ||| y := by
  have e : (x ||| y) &&& z = (x &&& z) ||| (y &&& z) := Int32.toBitVec_inj.1 (BitVec.eq_of_getLsbD_eq (fun i _ => by
    rw [Int32.toBitVec_and, Int32.toBitVec_or, Int32.toBitVec_or, Int32.toBitVec_and, Int32.toBitVec_and, BitVec.getLsbD_and, BitVec.getLsbD_or, BitVec.getLsbD_or, BitVec.getLsbD_and, BitVec.getLsbD_and]
    cases x.toBitVec.getLsbD i <;> cases y.toBitVec.getLsbD i <;> cases z.toBitVec.getLsbD i <;> rfl))
  rw [e, hx, hy]
theorem x_mt_z {h : Int64} {t : Int} {C : Nat → Int64} {Z : Int32} : ∀ (L : List Nat) (cov : Int64) (b : Int32), b &&& Z = b → (∀ w ∈ L, ((1 : Int32) <<< Int32.ofInt (w : Int)) &&& Z = (1 : Int32) <<< Int32.ofInt (w : Int)) → ¬ (x_mt h t C L cov b).1 = 0 → (x_mt h t C L cov b).2.1 &&& Z = (x_mt h t C L cov b).2.1
  | [], cov, b, hb, _, hn => by
    have hn : ¬ (x_lf h t cov b).1 = 0 := hn
    show (x_lf h t cov b).2.1 &&& Z = (x_lf h t cov b).2.1
    unfold x_lf at hn ⊢
    split
    · exact hb
    · rename_i q
      rw [if_neg q] at hn
      exact absurd rfl hn
  | w :: L, cov, b, hb, hw, hn => by
    have a := x_mt_b h t C L cov b
    have c := x_mt_b h t C L (cov ||| C w) (b ||| ((1 : Int32) <<< Int32.ofInt (w : Int)))
    have hn : ¬ (x_mt h t C L cov b).1 + (x_mt h t C L (cov ||| C w) (b ||| ((1 : Int32) <<< Int32.ofInt (w : Int)))).1 = 0 := hn
    show ((x_mt h t C L cov b).2.1 &&& (x_mt h t C L (cov ||| C w) (b ||| ((1 : Int32) <<< Int32.ofInt (w : Int)))).2.1) &&& Z = (x_mt h t C L cov b).2.1 &&& (x_mt h t C L (cov ||| C w) (b ||| ((1 : Int32) <<< Int32.ofInt (w : Int)))).2.1
    by_cases g : (x_mt h t C L cov b).1 = 0
    · rw [Int32.and_assoc, x_mt_z L _ _ (i_or_and hb (hw w List.mem_cons_self)) (fun x hx => hw x (List.mem_cons_of_mem _ hx)) (by omega)]
    · rw [Int32.and_comm (x_mt h t C L cov b).2.1, Int32.and_assoc, x_mt_z L _ _ hb (fun x hx => hw x (List.mem_cons_of_mem _ hx)) g]
/-! the words of a field that lie in a card's notches -/
noncomputable def x_mw (s : x_S) (f : Int) (X : Int64) (C : Nat → Int64) : Nat → Nat → List Nat
  | 0, _ => []
  | m + 1, w => if s.2.2.2.2 7 w = f ∧ X &&& C w = C w then w :: x_mw s f X C m (w + 1) else x_mw s f X C m (w + 1)
noncomputable def x_mwf (s : x_S) (f : Int) (X : Int64) (C : Nat → Int64) : List Nat := x_mw s f X C s.2.2.1.toNat 0
theorem x_mw_e {s : x_S} {f : Int} {X : Int64} {C : Nat → Int64} : ∀ (m k : Nat), ∀ w ∈ x_mw s f X C m k, k ≤ w ∧ w < k + m ∧ s.2.2.2.2 7 w = f
  | 0, k, w, hw => absurd hw List.not_mem_nil
  | m + 1, k, w, hw => by
    rw [x_mw] at hw
    split at hw
    · rename_i q
      rcases List.mem_cons.mp hw with hw | hw
      · rw [hw]
        exact ⟨Nat.le_refl _, by omega, q.1⟩
      · have z := x_mw_e m (k + 1) w hw
        exact ⟨by omega, by omega, z.2.2⟩
    · have z := x_mw_e m (k + 1) w hw
      exact ⟨by omega, by omega, z.2.2⟩
theorem x_mw_l {s : x_S} {f : Int} {X : Int64} {C : Nat → Int64} : ∀ (m k : Nat), (x_mw s f X C m k).length ≤ m
  | 0, k => Nat.le_refl _
  | m + 1, k => by
    have z := x_mw_l (s := s) (f := f) (X := X) (C := C) m (k + 1)
    rw [x_mw]
    split
    · rw [List.length_cons]
      omega
    · omega
theorem x_mw_q {s : x_S} {f : Int} {X Y : Int64} {C : Nat → Int64} : ∀ (m k : Nat), (∀ w : Nat, k ≤ w → w < k + m → s.2.2.2.2 7 w = f → (X &&& C w = C w ↔ Y &&& C w = C w)) → x_mw s f X C m k = x_mw s f Y C m k
  | 0, k, _ => rfl
  | m + 1, k, q => by
    have ih := x_mw_q m (k + 1) (fun w h1 h2 h3 => q w (by omega) (by omega) h3)
    rw [x_mw, x_mw, ih]
    by_cases g : s.2.2.2.2 7 k = f
    · have z := q k (Nat.le_refl _) (by omega) g
      by_cases g2 : X &&& C k = C k
      · rw [if_pos ⟨g, g2⟩, if_pos ⟨g, z.mp g2⟩]
      · rw [if_neg (fun y => g2 y.2), if_neg (fun y => g2 (z.mpr y.2))]
    · rw [if_neg (fun y => g y.1), if_neg (fun y => g y.1)]
theorem x_sp_q {X c : Int64} {a b : Int} (h0 : 0 ≤ a) (h1 : a ≤ b) (h2 : b ≤ 59) (hc : ∀ i : Nat, x_on c i = true → a ≤ (i : Int) ∧ (i : Int) ≤ b) : (X &&& c = c) ↔ ((X &&& x_bw a b) &&& c = c) := by
  have e : x_bw a b &&& c = c := x_on_ext (fun i _ => by
    rw [x_on_and, x_on_bw h0 h1 h2]
    cases g : x_on c i
    · exact Bool.and_false _
    · rw [decide_eq_true (hc i g)]
      rfl)
  rw [Int64.and_assoc, e]
theorem x_mwf_q {s : x_S} {f : Int} {X : Int64} {C : Nat → Int64} (H : x_G s) (B : x_cb s C) : x_mwf s f X C = x_mwf s f (X &&& x_bw (x_row s 3 f) (x_row s 4 f)) C := by
  unfold x_mwf
  refine x_mw_q _ _ (fun w h1 h2 h3 => ?_)
  have w5 := H.2.2.2.2.1
  have wl : (w : Int) < s.2.2.1 := by omega
  have a9 := H.2.2.2.2.2.2.1 (w : Int) (by omega) wl
  have e7 : x_row s 7 (w : Int) = f := h3
  rw [e7] at a9
  have r := H.2.2.2.2.2.2.2 f a9.1 a9.2.1
  refine x_sp_q (by omega) (by omega) (by omega) (fun i hi => ?_)
  have z := B w wl i hi
  rw [e7] at z
  exact z
theorem x_w12 : ∀ w : Fin 12, ((1 : Int32) <<< Int32.ofInt (w.val : Int)) &&& 4095 = (1 : Int32) <<< Int32.ofInt (w.val : Int) := by decide +kernel
theorem i_and_or {x y z : Int32} (hx : x &&& y = x) : x &&& (y ||| z) = x := by
  have e : x &&& (y ||| z) = (x &&& y) ||| (x &&& y &&& z) := by
    rw [hx]
    refine Int32.toBitVec_inj.1 (BitVec.eq_of_getLsbD_eq (fun i _ => ?_))
    have q := congrArg (fun u : Int32 => u.toBitVec.getLsbD i) hx
    simp only [Int32.toBitVec_and, BitVec.getLsbD_and] at q
    rw [Int32.toBitVec_and, Int32.toBitVec_or, Int32.toBitVec_or, Int32.toBitVec_and, BitVec.getLsbD_and, BitVec.getLsbD_or, BitVec.getLsbD_or, BitVec.getLsbD_and]
    revert q
    cases x.toBitVec.getLsbD i <;> cases y.toBitVec.getLsbD i <;> cases z.toBitVec.getLsbD i <;> decide
  rw [e, hx]
  refine Int32.toBitVec_inj.1 (BitVec.eq_of_getLsbD_eq (fun i _ => ?_))
  rw [Int32.toBitVec_or, Int32.toBitVec_and, BitVec.getLsbD_or, BitVec.getLsbD_and]
  cases x.toBitVec.getLsbD i <;> cases z.toBitVec.getLsbD i <;> rfl
theorem x_wo_k {s : x_S} {f : Int} {x : Int32} : ∀ (m k : Nat) (acc : Int32), x &&& acc = x → x &&& x_wo s f m k acc = x
  | 0, _, _, h => h
  | m + 1, k, acc, h => by
    rw [x_wo]
    refine x_wo_k m (k + 1) _ ?_
    split
    · exact i_and_or h
    · exact h
theorem x_wo_w {s : x_S} {f : Int} {w : Nat} (hw : s.2.2.2.2 7 w = f) : ∀ (m k : Nat) (acc : Int32), k ≤ w → w < k + m → ((1 : Int32) <<< Int32.ofInt (w : Int)) &&& x_wo s f m k acc = (1 : Int32) <<< Int32.ofInt (w : Int)
  | 0, k, acc, h1, h2 => by omega
  | m + 1, k, acc, h1, h2 => by
    rw [x_wo]
    by_cases g : k = w
    · subst g
      rw [if_pos hw]
      refine x_wo_k m (k + 1) _ ?_
      rw [Int32.or_comm]
      exact i_and_or Int32.and_self
    · exact x_wo_w hw m (k + 1) _ (by omega) (by omega)
/-- sure, may be, how many -/
noncomputable def x_mres (T : x_T3) (W : Int32) (k : Int) : Int := if k = 0 then (if T.1 = 0 then 0 else (W &&& T.2.1).toInt) else if k = 1 then T.2.2.toInt else T.1
theorem x_mres_q {s : x_S} {f t k : Int} {h X : Int64} {C : Nat → Int64} (H : x_G s) : x_mres (x_mt h t C (x_mwf s f X C) 0 0) (x_wof s f) k = x_mres (x_mt h t C (x_mwf s f X C) 0 0) 4095 k := by
  unfold x_mres
  split
  · split
    · rfl
    · rename_i q
      have w6 := H.2.2.2.2.2.1
      have z1 := x_mt_z (h := h) (t := t) (C := C) (Z := x_wof s f) (x_mwf s f X C) 0 0 (by rw [Int32.zero_and]) (fun w hw => by
        have z := x_mw_e _ _ w hw
        exact x_wo_w z.2.2 _ _ _ z.1 z.2.1) q
      have z2 := x_mt_z (h := h) (t := t) (C := C) (Z := 4095) (x_mwf s f X C) 0 0 (by rw [Int32.zero_and]) (fun w hw => by
        have z := x_mw_e _ _ w hw
        exact x_w12 ⟨w, by omega⟩) q
      rw [Int32.and_comm, z1, Int32.and_comm, z2]
  · rfl
/-! the class's rows of words -/
noncomputable def ML (M : mm_M) (L : List Nat) (C : Nat → Int64) : Prop := ∀ j : Nat, j < L.length → (M.2.1 40 j).toInt = ((L.getD j 0 : Nat) : Int) ∧ M.2.2.1 41 j = C (L.getD j 0)
noncomputable def MLr (M : mm_M) (L : List Nat) : Prop := ∀ j : Nat, j < L.length → (M.2.1 119 j).toInt = ((L.getD j 0 : Nat) : Int)
theorem x_gd_l {L : List Nat} {w j : Nat} (h : j < L.length) : (L ++ [w]).getD j 0 = L.getD j 0 := by
  rw [List.getD_eq_getElem?_getD, List.getD_eq_getElem?_getD, List.getElem?_append_left h]
theorem x_gd_e {L : List Nat} {w : Nat} : (L ++ [w]).getD L.length 0 = w := by
  rw [List.getD_eq_getElem?_getD, List.getElem?_concat_length]
  rfl
theorem x_gd_m {L : List Nat} {j : Nat} (h : j < L.length) : L.getD j 0 ∈ L := by
  rw [List.getD_eq_getElem?_getD, List.getElem?_eq_getElem h]
  exact List.getElem_mem h
theorem x_dr_c {L : List Nat} {j : Nat} (h : j < L.length) : L.drop j = L.getD j 0 :: L.drop (j + 1) := by
  rw [List.drop_eq_getElem_cons h, List.getD_eq_getElem?_getD, List.getElem?_eq_getElem h]
  rfl
section MLS
variable {M M1 M2 : mm_M} {L : List Nat} {C : Nat → Int64} {s : x_S} {f n w w2 sz sz2 : Int} {X : Int64}
theorem ML_f (q : ∀ i : Nat, M1.2.1 40 i = M.2.1 40 i) (r : ∀ i : Nat, M1.2.2.1 41 i = M.2.2.1 41 i) (H : ML M L C) : ML M1 L C := fun j hj => by
  rw [q j, r j]
  exact H j hj
theorem MLr_f (q : ∀ i : Nat, M1.2.1 119 i = M.2.1 119 i) (H : MLr M L) : MLr M1 L := fun j hj => by
  rw [q j]
  exact H j hj
noncomputable def MWc (M : mm_M) (s : x_S) (f : Int) (X : Int64) (C : Nat → Int64) (w sz : Int) : Prop := ∃ L : List Nat, ML M L C ∧ (L.length : Int) = sz ∧ L ++ x_mw s f X C (s.2.2.1 - w).toNat w.toNat = x_mwf s f X C
noncomputable def MWr (M : mm_M) (s : x_S) (f : Int) (X : Int64) (C : Nat → Int64) (w sz : Int) : Prop := ∃ L : List Nat, MLr M L ∧ (L.length : Int) = sz ∧ L ++ x_mw s f X C (s.2.2.1 - w).toNat w.toNat = x_mwf s f X C
theorem MWc_0 (hw : w = 0) (hs : sz = 0) : MWc M s f X C w sz := ⟨[], fun j hj => absurd hj (Nat.not_lt_zero _), by rw [hs]; rfl, by rw [hw, show s.2.2.1 - 0 = s.2.2.1 by omega]; rfl⟩
theorem MWr_0 (hw : w = 0) (hs : sz = 0) : MWr M s f X C w sz := ⟨[], fun j hj => absurd hj (Nat.not_lt_zero _), by rw [hs]; rfl, by rw [hw, show s.2.2.1 - 0 = s.2.2.1 by omega]; rfl⟩
theorem x_mw_s0 (h0 : 0 ≤ w) (hw : w < s.2.2.1) (h2 : w2 = w + 1) : x_mw s f X C (s.2.2.1 - w).toNat w.toNat = if s.2.2.2.2 7 w.toNat = f ∧ X &&& C w.toNat = C w.toNat then w.toNat :: x_mw s f X C (s.2.2.1 - w2).toNat w2.toNat else x_mw s f X C (s.2.2.1 - w2).toNat w2.toNat := by
  rw [show (s.2.2.1 - w).toNat = (s.2.2.1 - w2).toNat + 1 by omega, x_mw, show w2.toNat = w.toNat + 1 by omega]
abbrev x_mwc (s : x_S) (f : Int) (X : Int64) (C : Nat → Int64) (w : Int) : Prop := x_row s 7 w = f ∧ X &&& C w.toNat = C w.toNat
theorem x_mw_s (h0 : 0 ≤ w) (hw : w < s.2.2.1) (h2 : w2 = w + 1) : x_mw s f X C (s.2.2.1 - w).toNat w.toNat = if x_mwc s f X C w then w.toNat :: x_mw s f X C (s.2.2.1 - w2).toNat w2.toNat else x_mw s f X C (s.2.2.1 - w2).toNat w2.toNat := x_mw_s0 h0 hw h2
theorem MWc_f (q : ∀ i : Nat, M1.2.1 40 i = M.2.1 40 i) (r : ∀ i : Nat, M1.2.2.1 41 i = M.2.2.1 41 i) (H : MWc M s f X C w sz) : MWc M1 s f X C w sz := by
  obtain ⟨L, a, b, c⟩ := H
  exact ⟨L, ML_f q r a, b, c⟩
theorem MWc_n (H : MWc M s f X C w sz) (q : ∀ i : Nat, M1.2.1 40 i = M.2.1 40 i) (r : ∀ i : Nat, M1.2.2.1 41 i = M.2.2.1 41 i) (h0 : 0 ≤ w) (hw : w < s.2.2.1) (h2 : w2 = w + 1) (hs : sz2 = sz) (no : ¬ x_mwc s f X C w) : MWc M1 s f X C w2 sz2 := by
  obtain ⟨L, a, b, c⟩ := H
  rw [x_mw_s h0 hw h2, if_neg no] at c
  exact ⟨L, ML_f q r a, by rw [hs]; exact b, c⟩
theorem MWr_n (H : MWr M s f X C w sz) (q : ∀ i : Nat, M1.2.1 119 i = M.2.1 119 i) (h0 : 0 ≤ w) (hw : w < s.2.2.1) (h2 : w2 = w + 1) (hs : sz2 = sz) (no : ¬ x_mwc s f X C w) : MWr M1 s f X C w2 sz2 := by
  obtain ⟨L, a, b, c⟩ := H
  rw [x_mw_s h0 hw h2, if_neg no] at c
  exact ⟨L, MLr_f q a, by rw [hs]; exact b, c⟩
theorem MWc_y {v : Int32} {l : Int64} {i j : Nat} (H : MWc M s f X C w sz) (W1 : M1 = mm_setI M 40 i v) (W2 : M2 = mm_setL M1 41 j l) (hi : (i : Int) = sz) (hj : j = i) (hv : v.toInt = w) (hl : l = C w.toNat) (h0 : 0 ≤ w) (hw : w < s.2.2.1) (h2 : w2 = w + 1) (hs : sz2 = sz + 1) (y : x_mwc s f X C w) : MWc M2 s f X C w2 sz2 := by
  obtain ⟨L, a, b, c⟩ := H
  rw [x_mw_s h0 hw h2, if_pos y] at c
  subst hj
  have ei : j = L.length := by omega
  subst ei
  refine ⟨L ++ [w.toNat], fun k hk => ?_, by rw [List.length_append, hs]; show ((L.length + 1 : Nat) : Int) = _; omega, by rw [List.append_assoc]; exact c⟩
  rw [List.length_append] at hk
  have hk : k < L.length + 1 := hk
  by_cases g : k = L.length
  · subst g
    rw [x_gd_e, W_l W2 (W_e W1), L_e W2]
    exact ⟨by omega, hl⟩
  · rw [x_gd_l (by omega)]
    have z := a k (by omega)
    exact ⟨by rw [W_l W2 (W_n W1 (fun z => g z.2) rfl)]; exact z.1, by rw [L_n W2 (fun z => g z.2) (W_j W1 rfl)]; exact z.2⟩
theorem MWr_y {v : Int32} {i : Nat} (H : MWr M s f X C w sz) (W1 : M1 = mm_setI M 119 i v) (hi : (i : Int) = sz) (hv : v.toInt = w) (h0 : 0 ≤ w) (hw : w < s.2.2.1) (h2 : w2 = w + 1) (hs : sz2 = sz + 1) (y : x_mwc s f X C w) : MWr M1 s f X C w2 sz2 := by
  obtain ⟨L, a, b, c⟩ := H
  rw [x_mw_s h0 hw h2, if_pos y] at c
  have ei : i = L.length := by omega
  subst ei
  refine ⟨L ++ [w.toNat], fun k hk => ?_, by rw [List.length_append, hs]; show ((L.length + 1 : Nat) : Int) = _; omega, by rw [List.append_assoc]; exact c⟩
  rw [List.length_append] at hk
  have hk : k < L.length + 1 := hk
  by_cases g : k = L.length
  · subst g
    rw [x_gd_e, W_e W1]
    omega
  · rw [x_gd_l (by omega), W_n W1 (fun z => g z.2) rfl]
    exact a k (by omega)
theorem MWc_x (H : MWc M s f X C w sz) (hw : s.2.2.1 ≤ w) : ML M (x_mwf s f X C) C ∧ ((x_mwf s f X C).length : Int) = sz := by
  obtain ⟨L, a, b, c⟩ := H
  rw [show (s.2.2.1 - w).toNat = 0 by omega, x_mw, List.append_nil] at c
  rw [← c]
  exact ⟨a, b⟩
theorem MWr_x (H : MWr M s f X C w sz) (hw : s.2.2.1 ≤ w) : MLr M (x_mwf s f X C) ∧ ((x_mwf s f X C).length : Int) = sz := by
  obtain ⟨L, a, b, c⟩ := H
  rw [show (s.2.2.1 - w).toNat = 0 by omega, x_mw, List.append_nil] at c
  rw [← c]
  exact ⟨a, b⟩
end MLS
/-! the class chooses sets -/
noncomputable def MT (O M : mm_M) (T : x_T3) : Prop := (M.2.1 39 6).toInt = (O.2.1 39 6).toInt + T.1 ∧ M.2.1 39 4 = O.2.1 39 4 &&& T.2.1 ∧ M.2.1 39 5 = O.2.1 39 5 ||| T.2.2
noncomputable def x_p2 (f : Int) : Int := ((2 ^ (12 - f).toNat : Nat) : Int)
theorem x_p2_1 {f : Int} : 1 ≤ x_p2 f := by
  unfold x_p2
  have := Nat.two_pow_pos (12 - f).toNat
  omega
theorem x_p2_s {f g : Int} (h : f ≤ 11) (hg : g = f + 1) : x_p2 f = x_p2 g + x_p2 g := by
  unfold x_p2
  rw [show (12 - f).toNat = (12 - g).toNat + 1 by omega, Nat.pow_succ]
  omega
theorem x_mt_p {h : Int64} {t : Int} {C : Nat → Int64} {L : List Nat} {cov : Int64} {b : Int32} {f : Int} (h0 : 0 ≤ f) (hl : L.length ≤ 12) : 0 ≤ (x_mt h t C (L.drop f.toNat) cov b).1 ∧ (x_mt h t C (L.drop f.toNat) cov b).1 ≤ x_p2 f := by
  have z := x_mt_b h t C (L.drop f.toNat) cov b
  have e : (L.drop f.toNat).length ≤ (12 - f).toNat := by
    rw [List.length_drop]
    omega
  have p : 2 ^ (L.drop f.toNat).length ≤ 2 ^ (12 - f).toNat := Nat.pow_le_pow_right (by decide) e
  unfold x_p2
  omega
section MTS
variable {O M M1 : mm_M} {A B : x_T3} {h : Int64} {t f f1 f2 : Int} {C : Nat → Int64} {L : List Nat} {v v1 : Int64} {c c2 : Int32}
theorem MT_j (a : MT O M A) (b : MT M M1 B) : MT O M1 (x_mj A B) := by
  obtain ⟨a1, a2, a3⟩ := a
  obtain ⟨b1, b2, b3⟩ := b
  refine ⟨?_, ?_, ?_⟩
  · show _ = _ + (A.1 + B.1)
    omega
  · show _ = _ &&& (A.2.1 &&& B.2.1)
    rw [b2, a2, Int32.and_assoc]
  · show _ = _ ||| (A.2.2 ||| B.2.2)
    rw [b3, a3, Int32.or_assoc]
theorem MT_n {w : Nat} (h0 : 0 ≤ f) (hl : f.toNat < L.length) (h1 : f1 = f + 1) (h2 : f2 = f + 1) (a : MT O M (x_mt h t C (L.drop f1.toNat) v c)) (b : MT M M1 (x_mt h t C (L.drop f2.toNat) v1 c2)) (hw : w = L.getD f.toNat 0) (ev : v1 = v ||| C w) (ec : c2 = c ||| ((1 : Int32) <<< Int32.ofInt (w : Int))) : MT O M1 (x_mt h t C (L.drop f.toNat) v c) := by
  subst hw; subst ev; subst ec; subst h1; subst h2
  rw [x_dr_c hl, x_mt, show f.toNat + 1 = (f + 1).toNat by omega]
  exact MT_j a b
theorem MT_e (h0 : L.length ≤ f.toNat) (H : MT O M1 (x_lf h t v c)) : MT O M1 (x_mt h t C (L.drop f.toNat) v c) := by
  rw [List.drop_of_length_le h0]
  exact H
theorem MT_y (y : ((x_ct (h &&& (v ^^^ (-1 : Int64))).toInt.toNat 62 : Nat) : Int) ≤ t) (e6 : (M1.2.1 39 6).toInt = (M.2.1 39 6).toInt + 1) (e4 : M.2.1 39 4 &&& c = M1.2.1 39 4) (e5 : M.2.1 39 5 ||| c = M1.2.1 39 5) : MT M M1 (x_lf h t v c) := by
  unfold x_lf
  rw [if_pos y]
  exact ⟨e6, e4.symm, e5.symm⟩
theorem MT_x (y : ¬ ((x_ct (h &&& (v ^^^ (-1 : Int64))).toInt.toNat 62 : Nat) : Int) ≤ t) : MT M M (x_lf h t v c) := by
  unfold x_lf
  rw [if_neg y]
  exact ⟨by show _ = _ + (0 : Int); omega, by show _ = _ &&& (-1 : Int32); rw [Int32.and_neg_one], by show _ = _ ||| (0 : Int32); rw [Int32.or_zero]⟩
theorem MT_f {T : x_T3} (q : ∀ a i : Nat, a = 39 ∧ 4 ≤ i ∧ i ≤ 6 → M1.2.1 a i = M.2.1 a i) (H : MT O M T) : MT O M1 T := by
  unfold MT
  rw [q 39 4 (by decide), q 39 5 (by decide), q 39 6 (by decide)]
  exact H
theorem l_op {x l : Int64} {w : Nat} (e : x = h &&& (v ^^^ (-1 : Int64))) (el : l = C w) (ev : v1 = v ||| C w) : x &&& (l ^^^ (-1 : Int64)) = h &&& (v1 ^^^ (-1 : Int64)) := by
  rw [e, el, ev]
  refine x_on_ext (fun i hi => ?_)
  rw [x_on_and, x_on_and, x_on_and, x_on_xor, x_on_xor, x_on_xor, x_on_m1 hi, x_on_or]
  cases x_on h i <;> cases x_on v i <;> cases x_on (C w) i <;> rfl
theorem l_op0 {x : Int64} (e : x = h) : x = h &&& ((0 : Int64) ^^^ (-1 : Int64)) := by
  rw [e, show ((0 : Int64) ^^^ (-1 : Int64)) = -1 by decide, Int64.and_neg_one]
noncomputable def MS (M : mm_M) (T : x_T3) (W : Int32) : Prop := (M.2.1 39 6).toInt = T.1 ∧ (M.2.1 39 4).toInt = (if T.1 = 0 then 0 else (W &&& T.2.1).toInt) ∧ M.2.1 39 5 = T.2.2
theorem MS_i {T : x_T3} {W : Int32} (H : MT O M T) (o6 : O.2.1 39 6 = 0) (o4 : O.2.1 39 4 = W) (o5 : O.2.1 39 5 = 0) (g : ¬ (M.2.1 39 6).toInt = 0) : MS M T W := by
  obtain ⟨a, b, d⟩ := H
  rw [o6] at a
  have a : (M.2.1 39 6).toInt = 0 + T.1 := a
  refine ⟨by omega, ?_, by rw [d, o5, Int32.zero_or]⟩
  rw [if_neg (by omega), b, o4]
theorem MS_z {T : x_T3} {W : Int32} (H : MT O M T) (o6 : O.2.1 39 6 = 0) (o5 : O.2.1 39 5 = 0) (g : (M.2.1 39 6).toInt = 0) (W4 : M1 = mm_setI M 39 4 (0 : Int32)) : MS M1 T W := by
  obtain ⟨a, b, d⟩ := H
  rw [o6] at a
  have a : (M.2.1 39 6).toInt = 0 + T.1 := a
  have e6 : M1.2.1 39 6 = M.2.1 39 6 := W_n W4 (by omega) rfl
  have e5 : M1.2.1 39 5 = M.2.1 39 5 := W_n W4 (by omega) rfl
  refine ⟨by rw [e6]; omega, ?_, by rw [e5, d, o5, Int32.zero_or]⟩
  rw [if_pos (by omega), W_e W4]
  rfl
end MTS
/-! the reference's sets, one after the other -/
section RSS
variable {h : Int64} {t : Int} {C : Nat → Int64} {L : List Nat}
noncomputable def x_sr (h : Int64) (t : Int) (C : Nat → Int64) (L : List Nat) (n a : Int) (x y : Int32) : Prop := n = (x_sm (x_lfs h t C L 0 0) a.toNat).1 ∧ x = 4095 &&& (x_sm (x_lfs h t C L 0 0) a.toNat).2.1 ∧ y = (x_sm (x_lfs h t C L 0 0) a.toNat).2.2
theorem x_sr_0 {n a : Int} {x y : Int32} (ha : a = 0) (hn : n = 0) (hx : x = 4095) (hy : y = 0) : x_sr h t C L n a x y := by
  subst ha; subst hn; subst hx; subst hy
  exact ⟨rfl, by show (4095 : Int32) = 4095 &&& (-1 : Int32); decide, rfl⟩
noncomputable def x_cr (C : Nat → Int64) (L : List Nat) (s i : Int) (cov : Int64) (b : Int32) : Prop := x_mcv C (L.drop i.toNat) (s.toNat / 2 ^ i.toNat) cov b = x_mcv C L s.toNat 0 0
theorem x_cr_0 {s i : Int} (hi : i = 0) : x_cr C L s i 0 0 := by
  subst hi
  unfold x_cr
  rw [show (0 : Int).toNat = 0 from rfl, Nat.pow_zero, Nat.div_one, List.drop_zero]
theorem x_cr_n {s i i2 : Int} {cov : Int64} {b : Int32} (H : x_cr C L s i cov b) (h0 : 0 ≤ i) (hl : i.toNat < L.length) (h2 : i2 = i + 1) (g : ¬ s.toNat / 2 ^ i.toNat % 2 = 1) : x_cr C L s i2 cov b := by
  unfold x_cr at H ⊢
  rw [x_dr_c hl, x_mcv, if_neg g] at H
  rw [show i2.toNat = i.toNat + 1 by omega, Nat.pow_succ, ← Nat.div_div_eq_div_mul]
  exact H
theorem x_cr_y {s i i2 : Int} {cov cov2 : Int64} {b b2 : Int32} {w : Nat} (H : x_cr C L s i cov b) (h0 : 0 ≤ i) (hl : i.toNat < L.length) (h2 : i2 = i + 1) (g : s.toNat / 2 ^ i.toNat % 2 = 1) (hw : w = L.getD i.toNat 0) (ec : cov2 = cov ||| C w) (eb : b2 = b ||| ((1 : Int32) <<< Int32.ofInt (w : Int))) : x_cr C L s i2 cov2 b2 := by
  subst hw; subst ec; subst eb
  unfold x_cr at H ⊢
  rw [x_dr_c hl, x_mcv, if_pos g] at H
  rw [show i2.toNat = i.toNat + 1 by omega, Nat.pow_succ, ← Nat.div_div_eq_div_mul]
  exact H
theorem x_cr_x {s i : Int} {cov : Int64} {b : Int32} (H : x_cr C L s i cov b) (hl : L.length ≤ i.toNat) : x_mcv C L s.toNat 0 0 = (cov, b) := by
  unfold x_cr at H
  rw [← H, List.drop_of_length_le hl]
  rfl
theorem x_sr_n {n a a2 i : Int} {x y : Int32} {cov : Int64} {b : Int32} (H : x_sr h t C L n a x y) (K : x_cr C L a i cov b) (hl : L.length ≤ i.toNat) (h0 : 0 ≤ a) (h2 : a2 = a + 1) (g : ¬ ((x_ct (h &&& (cov ^^^ (-1 : Int64))).toInt.toNat 62 : Nat) : Int) ≤ t) : x_sr h t C L n a2 x y := by
  have e : x_lfs h t C L 0 0 a.toNat = (0, -1, 0) := by
    unfold x_lfs
    rw [x_cr_x K hl]
    show x_lf h t cov b = _
    unfold x_lf
    rw [if_neg g]
  unfold x_sr
  rw [show a2.toNat = a.toNat + 1 by omega, x_sm, e, x_mj_c, x_mj_z]
  exact H
theorem x_sr_y {n n2 a a2 i : Int} {x y x2 y2 : Int32} {cov : Int64} {b : Int32} (H : x_sr h t C L n a x y) (K : x_cr C L a i cov b) (hl : L.length ≤ i.toNat) (h0 : 0 ≤ a) (h2 : a2 = a + 1) (g : ((x_ct (h &&& (cov ^^^ (-1 : Int64))).toInt.toNat 62 : Nat) : Int) ≤ t) (hn : n2 = n + 1) (hx : x &&& b = x2) (hy : y ||| b = y2) : x_sr h t C L n2 a2 x2 y2 := by
  have e : x_lfs h t C L 0 0 a.toNat = (1, b, b) := by
    unfold x_lfs
    rw [x_cr_x K hl]
    show x_lf h t cov b = _
    unfold x_lf
    rw [if_pos g]
  obtain ⟨a1, a3, a4⟩ := H
  unfold x_sr
  rw [show a2.toNat = a.toNat + 1 by omega, x_sm, e]
  refine ⟨by rw [hn, a1]; rfl, ?_, ?_⟩
  · rw [← hx, a3, Int32.and_assoc]
    rfl
  · rw [← hy, a4]
    rfl
theorem x_sr_e {n a : Int} {x y : Int32} (H : x_sr h t C L n a x y) (ha : a.toNat = 2 ^ L.length) : n = (x_mt h t C L 0 0).1 ∧ x = 4095 &&& (x_mt h t C L 0 0).2.1 ∧ y = (x_mt h t C L 0 0).2.2 := by
  unfold x_sr at H
  rw [ha, ← x_mt_sm] at H
  exact H
theorem x_sr_le {n a : Int} {x y : Int32} (H : x_sr h t C L n a x y) : 0 ≤ n ∧ n ≤ (a.toNat : Int) := by
  have q : ∀ m : Nat, 0 ≤ (x_sm (x_lfs h t C L 0 0) m).1 ∧ (x_sm (x_lfs h t C L 0 0) m).1 ≤ (m : Int) := fun m => by
    induction m with
    | zero => exact ⟨Int.le_refl _, Int.le_refl _⟩
    | succ m ih =>
      have b : 0 ≤ (x_lfs h t C L 0 0 m).1 ∧ (x_lfs h t C L 0 0 m).1 ≤ 1 := by
        unfold x_lfs x_lf
        split <;> exact ⟨by first | (show (0 : Int) ≤ 1; decide) | (show (0 : Int) ≤ 0; decide), by first | (show (1 : Int) ≤ 1; decide) | (show (0 : Int) ≤ 1; decide)⟩
      have e : (x_sm (x_lfs h t C L 0 0) (m + 1)).1 = (x_sm (x_lfs h t C L 0 0) m).1 + (x_lfs h t C L 0 0 m).1 := rfl
      omega
  rw [H.1]
  exact q _
end RSS
theorem x_l12 : ∀ k : Fin 13, ((1 : Int32) <<< (Int32.ofInt (k.val : Int))).toInt = ((2 ^ k.val : Nat) : Int) := by decide +kernel
theorem i_l12s {w v : Int32} (h0 : 0 ≤ w.toInt) (h1 : w.toInt ≤ 12) (e : (1 : Int32) <<< w = v) : v.toInt = ((2 ^ w.toInt.toNat : Nat) : Int) ∧ v.toInt ≤ 4096 ∧ 1 ≤ v.toInt := by
  have q := x_l12 ⟨w.toInt.toNat, by omega⟩
  simp only [show ((w.toInt.toNat : Nat) : Int) = w.toInt by omega, Int32.ofInt_toInt] at q
  rw [e] at q
  have p : 2 ^ w.toInt.toNat ≤ 2 ^ 12 := Nat.pow_le_pow_right (by decide) (by omega)
  have p1 := Nat.two_pow_pos w.toInt.toNat
  refine ⟨q, ?_, ?_⟩
  · rw [q]
    simp only [Nat.reducePow] at p
    omega
  · rw [q]
    omega
theorem i_bitn {s i u v : Int32} (h0 : 0 ≤ s.toInt) (h1 : 0 ≤ i.toInt) (h2 : i.toInt ≤ 31) (e : s >>> i = u) (e2 : u &&& (1 : Int32) = v) : v.toInt = ((s.toInt.toNat / 2 ^ i.toInt.toNat % 2 : Nat) : Int) := by
  have ei := (show ∀ j : Fin 32, ((Int32.ofInt (j.val : Int)).toBitVec.smod 32).toNat = j.val from by decide +kernel) ⟨i.toInt.toNat, by omega⟩
  simp only [show ((i.toInt.toNat : Nat) : Int) = i.toInt by omega, Int32.ofInt_toInt] at ei
  have es : s.toInt = (s.toBitVec.toNat : Int) := by
    have z := BitVec.toInt_eq_toNat_cond s.toBitVec
    have lt := s.toBitVec.isLt
    have h0 : 0 ≤ s.toBitVec.toInt := h0
    show s.toBitVec.toInt = _
    rw [z] at h0 ⊢
    split
    · rfl
    · rename_i q
      rw [if_neg q] at h0
      omega
  have eu : u.toInt = ((s.toInt.toNat / 2 ^ i.toInt.toNat : Nat) : Int) := by
    rw [← e]
    show (s >>> i).toBitVec.toInt = _
    rw [Int32.toBitVec_shiftRight]
    show (s.toBitVec.sshiftRight (i.toBitVec.smod 32).toNat).toInt = _
    rw [ei, BitVec.toInt_sshiftRight, Int.shiftRight_eq_div_pow]
    show s.toInt / _ = _
    rw [Int.natCast_ediv, show ((s.toInt.toNat : Nat) : Int) = s.toInt by omega]
  have eb : v.toBitVec.toNat = u.toBitVec.toNat % 2 := by
    rw [← e2, Int32.toBitVec_and, BitVec.toNat_and]
    show u.toBitVec.toNat &&& 1 = _
    rw [Nat.and_one_is_mod]
  have hu : u.toInt = (u.toBitVec.toNat : Int) := by
    have z := BitVec.toInt_eq_toNat_cond u.toBitVec
    have lt := u.toBitVec.isLt
    have h0 : 0 ≤ u.toBitVec.toInt := by
      show 0 ≤ u.toInt
      rw [eu]
      first | exact Int.natCast_nonneg _ | exact Int.ediv_nonneg (by omega) (by omega)
    show u.toBitVec.toInt = _
    rw [z] at h0 ⊢
    split
    · rfl
    · rename_i q
      rw [if_neg q] at h0
      omega
  have hv : v.toInt = (v.toBitVec.toNat : Int) := by
    show v.toBitVec.toInt = _
    rw [BitVec.toInt_eq_toNat_cond, if_pos (by omega)]
  rw [hv, eb]
  omega
/-! what means answers -/
noncomputable def x_hf (s : x_S) (K : x_Kn) (c f : Int) : Int64 := K.1 c.toNat &&& x_bw (x_row s 3 f) (x_row s 4 f)
noncomputable def x_meC (s : x_S) (N : x_N) (sz ca n c f t k : Int) : Int := if 0 ≤ n ∧ n ≤ sz ∧ 0 ≤ c ∧ c < ca ∧ 0 ≤ f ∧ f < s.2.1 ∧ 0 ≤ t ∧ t ≤ 9 ∧ 0 ≤ k ∧ k ≤ 2 then (if x_row s 2 f = 3 then x_mres (x_mt (x_hf s (x_kn s N n.toNat) c f) t (x_kn s N n.toNat).2.2.2 (x_mwf s f ((x_kn s N n.toNat).1 c.toNat) (x_kn s N n.toNat).2.2.2) 0 0) (x_wof s f) k else x_mvr (x_mv9 s f t (x_hf s (x_kn s N n.toNat) c f)) k) else -2
noncomputable def x_meR (s : x_S) (N : x_N) (sz ca n c f t k : Int) : Int := if 0 ≤ n ∧ n ≤ sz ∧ 0 ≤ c ∧ c < ca ∧ 0 ≤ f ∧ f < s.2.1 ∧ 0 ≤ t ∧ t ≤ 9 ∧ 0 ≤ k ∧ k ≤ 2 then (if x_row s 2 f = 3 then x_mres (x_mt (x_hf s (x_kn s N n.toNat) c f) t (x_kn s N n.toNat).2.2.2 (x_mwf s f (x_hf s (x_kn s N n.toNat) c f) (x_kn s N n.toNat).2.2.2) 0 0) 4095 k else x_mvr (x_mv9 s f t (x_hf s (x_kn s N n.toNat) c f)) k) else -2
theorem x_me_q {s : x_S} {N : x_N} {sz ca n c f t k : Int} (H : x_G s) (G : x_G8 s) (V : x_vn s ca N sz) (V8 : x_v8 s N sz) : x_meC s N sz ca n c f t k = x_meR s N sz ca n c f t k := by
  unfold x_meC x_meR
  split
  · rename_i g
    split
    · rw [x_mres_q H, x_mwf_q H (x_cb_kn H G V V8 g.1 g.2.1)]
      rfl
    · rfl
  · rfl
section XME
variable {s : x_S} {N : x_N} {sz ca n c f t k r : Int} {M : mm_M}
theorem x_meC_n (h : ¬ (0 ≤ n ∧ n ≤ sz ∧ 0 ≤ c ∧ c < ca ∧ 0 ≤ f ∧ f < s.2.1 ∧ 0 ≤ t ∧ t ≤ 9 ∧ 0 ≤ k ∧ k ≤ 2)) (hr : r = -2) : r = x_meC s N sz ca n c f t k := by
  unfold x_meC
  rw [if_neg h]
  exact hr
theorem x_meR_n (h : ¬ (0 ≤ n ∧ n ≤ sz ∧ 0 ≤ c ∧ c < ca ∧ 0 ≤ f ∧ f < s.2.1 ∧ 0 ≤ t ∧ t ≤ 9 ∧ 0 ≤ k ∧ k ≤ 2)) (hr : r = -2) : r = x_meR s N sz ca n c f t k := by
  unfold x_meR
  rw [if_neg h]
  exact hr
theorem MS_r {T : x_T3} {W : Int32} (H : MS M T W) (e : k = 0 ∧ r = (M.2.1 39 4).toInt ∨ k = 1 ∧ r = (M.2.1 39 5).toInt ∨ 2 ≤ k ∧ r = (M.2.1 39 6).toInt) : r = x_mres T W k := by
  obtain ⟨a, b, d⟩ := H
  unfold x_mres
  rcases e with ⟨e1, e2⟩ | ⟨e1, e2⟩ | ⟨e1, e2⟩
  · rw [if_pos e1, e2, b]
  · rw [if_neg (by omega), if_pos e1, e2, d]
  · rw [if_neg (by omega), if_neg (by omega), e2, a]
theorem MV_r {S : x_M3} (H : MVc M S) (e : k = 0 ∧ r = (M.2.1 39 4).toInt ∨ k = 1 ∧ r = (M.2.1 39 5).toInt ∨ 2 ≤ k ∧ r = (M.2.1 39 6).toInt) : r = x_mvr S k := by
  obtain ⟨a, b, d⟩ := H
  unfold x_mvr
  rcases e with ⟨e1, e2⟩ | ⟨e1, e2⟩ | ⟨e1, e2⟩
  · rw [if_pos e1, e2, b]
  · rw [if_neg (by omega), if_pos e1, e2, d]
  · rw [if_neg (by omega), if_neg (by omega), e2, a]
theorem x_meC_w (h : 0 ≤ n ∧ n ≤ sz ∧ 0 ≤ c ∧ c < ca ∧ 0 ≤ f ∧ f < s.2.1 ∧ 0 ≤ t ∧ t ≤ 9 ∧ 0 ≤ k ∧ k ≤ 2) (h3 : x_row s 2 f = 3) (e : r = x_mres (x_mt (x_hf s (x_kn s N n.toNat) c f) t (x_kn s N n.toNat).2.2.2 (x_mwf s f ((x_kn s N n.toNat).1 c.toNat) (x_kn s N n.toNat).2.2.2) 0 0) (x_wof s f) k) : r = x_meC s N sz ca n c f t k := by
  unfold x_meC
  rw [if_pos h, if_pos h3]
  exact e
theorem x_meC_v (h : 0 ≤ n ∧ n ≤ sz ∧ 0 ≤ c ∧ c < ca ∧ 0 ≤ f ∧ f < s.2.1 ∧ 0 ≤ t ∧ t ≤ 9 ∧ 0 ≤ k ∧ k ≤ 2) (h3 : ¬ x_row s 2 f = 3) (e : r = x_mvr (x_mv9 s f t (x_hf s (x_kn s N n.toNat) c f)) k) : r = x_meC s N sz ca n c f t k := by
  unfold x_meC
  rw [if_pos h, if_neg h3]
  exact e
theorem x_meR_w (h : 0 ≤ n ∧ n ≤ sz ∧ 0 ≤ c ∧ c < ca ∧ 0 ≤ f ∧ f < s.2.1 ∧ 0 ≤ t ∧ t ≤ 9 ∧ 0 ≤ k ∧ k ≤ 2) (h3 : x_row s 2 f = 3) (e : r = x_mres (x_mt (x_hf s (x_kn s N n.toNat) c f) t (x_kn s N n.toNat).2.2.2 (x_mwf s f (x_hf s (x_kn s N n.toNat) c f) (x_kn s N n.toNat).2.2.2) 0 0) 4095 k) : r = x_meR s N sz ca n c f t k := by
  unfold x_meR
  rw [if_pos h, if_pos h3]
  exact e
theorem x_meR_v (h : 0 ≤ n ∧ n ≤ sz ∧ 0 ≤ c ∧ c < ca ∧ 0 ≤ f ∧ f < s.2.1 ∧ 0 ≤ t ∧ t ≤ 9 ∧ 0 ≤ k ∧ k ≤ 2) (h3 : ¬ x_row s 2 f = 3) (e : r = x_mvr (x_mv9 s f t (x_hf s (x_kn s N n.toNat) c f)) k) : r = x_meR s N sz ca n c f t k := by
  unfold x_meR
  rw [if_pos h, if_neg h3]
  exact e
theorem x_mres_e {T : x_T3} {n : Int} {x y : Int32} (H : n = T.1 ∧ x = 4095 &&& T.2.1 ∧ y = T.2.2) (e : k = 0 ∧ n = 0 ∧ r = 0 ∨ k = 0 ∧ ¬ n = 0 ∧ r = x.toInt ∨ k = 1 ∧ r = y.toInt ∨ 2 ≤ k ∧ r = n) : r = x_mres T 4095 k := by
  obtain ⟨a, b, d⟩ := H
  unfold x_mres
  rcases e with ⟨e1, e2, e3⟩ | ⟨e1, e2, e3⟩ | ⟨e1, e2⟩ | ⟨e1, e2⟩
  · rw [if_pos e1, if_pos (by omega), e3]
  · rw [if_pos e1, if_neg (by omega), e3, b]
  · rw [if_neg (by omega), if_pos e1, e2, d]
  · rw [if_neg (by omega), if_neg (by omega), e2, a]
theorem x_mvr_e {S : x_M3} {a b : Int} {q : Int32} (H : (a, b, q) = S) (e : k = 0 ∧ a = 1 ∧ r = b ∨ k = 0 ∧ ¬ a = 1 ∧ r = -1 ∨ k = 1 ∧ r = q.toInt ∨ 2 ≤ k ∧ r = a) : r = x_mvr S k := by
  subst H
  unfold x_mvr
  rcases e with ⟨e1, e2, e3⟩ | ⟨e1, e2, e3⟩ | ⟨e1, e2⟩ | ⟨e1, e2⟩
  · rw [if_pos e1, if_pos e2, e3]
  · rw [if_pos e1, if_neg e2, e3]
  · rw [if_neg (by omega), if_pos e1, e2]
  · rw [if_neg (by omega), if_neg (by omega), e2]
end XME
