/-! the reference's knots: where their parts are, by what is held -/
noncomputable def LST (f : Nat → Int) : List Int → Prop
  | [] => True
  | o :: os => f os.length = o ∧ LST f os
theorem LST_f {f g : Nat → Int} : ∀ l : List Int, (∀ i : Nat, i < l.length → g i = f i) → LST f l → LST g l
  | [], _, _ => trivial
  | o :: os, h, H => ⟨(h os.length (by rw [List.length_cons]; omega)).trans H.1, LST_f os (fun i hi => h i (by rw [List.length_cons]; omega)) H.2⟩
noncomputable def x_hd (k : Nat → Int) : Nat → List Int
  | 0 => []
  | n + 1 => if k n = 0 ∨ k n = 1 then (n : Int) :: x_hd k n else if k n = 2 then (n : Int) :: (x_hd k n).tail else (n : Int) :: (x_hd k n).tail.tail
theorem x_hd_c {k k2 : Nat → Int} : ∀ n : Nat, (∀ i : Nat, i < n → k2 i = k i) → x_hd k2 n = x_hd k n
  | 0, _ => rfl
  | n + 1, h => by rw [x_hd, x_hd, x_hd_c n (fun i hi => h i (by omega)), h n (by omega)]
noncomputable def x_h1 (l : List Int) : Int := l.headD 0
noncomputable def x_h2 (l : List Int) : Int := l.tail.headD 0
noncomputable def x_pt (H : List Int) (k p o f s : Int) : Prop := ((k = 0 ∨ k = 1) → p = f ∧ o = s) ∧ (k = 2 → p = x_h1 H) ∧ ((k = 3 ∨ k = 4) → p = x_h2 H ∧ o = x_h1 H)
noncomputable def LQK (b : Nat) (M : mm_M) (P : x_GP) : Prop := 0 ≤ P.2 ∧ ∀ i : Nat, (i : Int) < P.2 → (M.2.1 112 (b + i)).toInt = P.1.1 i ∧ x_pt (x_hd P.1.1 i) (P.1.1 i) (M.2.1 113 (b + i)).toInt (M.2.1 114 (b + i)).toInt (P.1.2.1 i) (P.1.2.2 i)
noncomputable def HLD (M : mm_M) (H : List Int) : Prop := LST (fun j => (M.2.1 116 j).toInt) H ∧ (H.length : Int) = (M.2.1 77 66).toInt
noncomputable def WTR (M : mm_M) (W : List Int) : Prop := LST (fun j => (M.2.1 115 j).toInt) W ∧ (W.length : Int) = (M.2.1 77 65).toInt
section LQR
variable {M M1 : mm_M} {P : x_GP} {W H : List Int} {b : Nat} {k f s : Int}
theorem x_kn1_hd (n : Nat) (h : n ≤ P.2.toNat) : x_hd (x_kn1 P k f s).1.1 n = x_hd P.1.1 n := x_hd_c n (fun i hi => by
  show (if i = P.2.toNat then k else P.1.1 i) = P.1.1 i
  rw [if_neg (by omega)])
theorem x_kn1_k : (x_kn1 P k f s).1.1 P.2.toNat = k := by
  show (if P.2.toNat = P.2.toNat then k else P.1.1 P.2.toNat) = k
  rw [if_pos rfl]
theorem x_hd_s (h0 : 0 ≤ P.2) : x_hd (x_kn1 P k f s).1.1 (x_kn1 P k f s).2.toNat = if k = 0 ∨ k = 1 then P.2 :: x_hd P.1.1 P.2.toNat else if k = 2 then P.2 :: (x_hd P.1.1 P.2.toNat).tail else P.2 :: (x_hd P.1.1 P.2.toNat).tail.tail := by
  rw [show (x_kn1 P k f s).2.toNat = P.2.toNat + 1 by show (P.2 + 1).toNat = _; omega, x_hd, x_kn1_hd _ (Nat.le_refl _), x_kn1_k, show ((P.2.toNat : Nat) : Int) = P.2 by omega]
theorem LQK_f (h : ∀ r i : Nat, 112 ≤ r ∧ r ≤ 114 → b ≤ i → M1.2.1 r i = M.2.1 r i) (L : LQK b M P) : LQK b M1 P := ⟨L.1, fun i hi => by
  rw [h 112 (b + i) (by omega) (by omega), h 113 (b + i) (by omega) (by omega), h 114 (b + i) (by omega) (by omega)]
  exact L.2 i hi⟩
theorem LQK_k (L : LQK b M P) (h : ∀ r i : Nat, 112 ≤ r ∧ r ≤ 114 → ¬ i = b + P.2.toNat → M1.2.1 r i = M.2.1 r i) (e : (M1.2.1 112 (b + P.2.toNat)).toInt = k) (c : x_pt (x_hd P.1.1 P.2.toNat) k (M1.2.1 113 (b + P.2.toNat)).toInt (M1.2.1 114 (b + P.2.toNat)).toInt f s) : LQK b M1 (x_kn1 P k f s) := by
  have h0 := L.1
  refine ⟨?_, fun i hi => ?_⟩
  · show 0 ≤ P.2 + 1
    omega
  · have hi : (i : Int) < P.2 + 1 := hi
    rw [x_kn1_hd i (by omega)]
    show _ = (if i = P.2.toNat then k else P.1.1 i) ∧ x_pt _ (if i = P.2.toNat then k else P.1.1 i) _ _ (if i = P.2.toNat then f else P.1.2.1 i) (if i = P.2.toNat then s else P.1.2.2 i)
    by_cases g : i = P.2.toNat
    · subst g
      rw [if_pos rfl, if_pos rfl, if_pos rfl]
      exact ⟨e, c⟩
    · rw [if_neg g, if_neg g, if_neg g, h 112 (b + i) (by omega) (by omega), h 113 (b + i) (by omega) (by omega), h 114 (b + i) (by omega) (by omega)]
      exact L.2 i (by omega)
theorem HLD_f (h : ∀ i : Nat, M1.2.1 116 i = M.2.1 116 i) (e : (M1.2.1 77 66).toInt = (M.2.1 77 66).toInt) (L : HLD M H) : HLD M1 H := ⟨LST_f H (fun i _ => by rw [h i]) L.1, by rw [e]; exact L.2⟩
theorem WTR_f (h : ∀ i : Nat, M1.2.1 115 i = M.2.1 115 i) (e : (M1.2.1 77 65).toInt = (M.2.1 77 65).toInt) (L : WTR M W) : WTR M1 W := ⟨LST_f W (fun i _ => by rw [h i]) L.1, by rw [e]; exact L.2⟩
/-- one more -/
theorem HLD_p {j : Nat} {v : Int32} {x : Int} (L : HLD M H) (hj : (j : Int) = (M.2.1 77 66).toInt) (h : ∀ i : Nat, ¬ i = j → M1.2.1 116 i = M.2.1 116 i) (e : M1.2.1 116 j = v) (hv : v.toInt = x) (e2 : (M1.2.1 77 66).toInt = (M.2.1 77 66).toInt + 1) : HLD M1 (x :: H) := by
  have l := L.2
  refine ⟨⟨?_, LST_f H (fun i hi => by rw [h i (by omega)]) L.1⟩, ?_⟩
  · show (M1.2.1 116 H.length).toInt = x
    rw [show H.length = j by omega, e]
    exact hv
  · rw [List.length_cons]
    omega
theorem WTR_p {j : Nat} {v : Int32} {x : Int} (L : WTR M W) (hj : (j : Int) = (M.2.1 77 65).toInt) (h : ∀ i : Nat, ¬ i = j → M1.2.1 115 i = M.2.1 115 i) (e : M1.2.1 115 j = v) (hv : v.toInt = x) (e2 : (M1.2.1 77 65).toInt = (M.2.1 77 65).toInt + 1) : WTR M1 (x :: W) := by
  have l := L.2
  refine ⟨⟨?_, LST_f W (fun i hi => by rw [h i (by omega)]) L.1⟩, ?_⟩
  · show (M1.2.1 115 W.length).toInt = x
    rw [show W.length = j by omega, e]
    exact hv
  · rw [List.length_cons]
    omega
/-- one less: the top -/
theorem HLD_t {c : Int} {v : Int32} (L : HLD M H) (hc : c = (M.2.1 77 66).toInt - 1) (h0 : 0 ≤ c) (w : M.2.1 116 c.toNat = v) (h : ∀ i : Nat, M1.2.1 116 i = M.2.1 116 i) (e : (M1.2.1 77 66).toInt = c) : HLD M1 H.tail ∧ v.toInt = x_h1 H := by
  cases H with
  | nil =>
    have l : ((0 : Nat) : Int) = (M.2.1 77 66).toInt := L.2
    omega
  | cons x xs =>
    have l := L.2
    rw [List.length_cons] at l
    refine ⟨⟨LST_f xs (fun i _ => by rw [h i]) L.1.2, ?_⟩, ?_⟩
    · show (xs.length : Int) = _
      omega
    · have z : (M.2.1 116 xs.length).toInt = x := L.1.1
      rw [show c.toNat = xs.length by omega] at w
      rw [← w]
      exact z
theorem WTR_t {c : Int} {v : Int32} (L : WTR M W) (hc : c = (M.2.1 77 65).toInt - 1) (h0 : 0 ≤ c) (w : M.2.1 115 c.toNat = v) : ∃ ws : List Int, W = v.toInt :: ws ∧ ∀ M1 : mm_M, (∀ i : Nat, M1.2.1 115 i = M.2.1 115 i) → (M1.2.1 77 65).toInt = c → WTR M1 ws := by
  cases W with
  | nil =>
    have l : ((0 : Nat) : Int) = (M.2.1 77 65).toInt := L.2
    omega
  | cons x xs =>
    have l := L.2
    rw [List.length_cons] at l
    have z : (M.2.1 115 xs.length).toInt = x := L.1.1
    rw [show c.toNat = xs.length by omega] at w
    refine ⟨xs, ?_, fun M1 h e => ⟨LST_f xs (fun i _ => by rw [h i]) L.1.2, by omega⟩⟩
    rw [← w, z]
theorem WTR_0 (h : (M.2.1 77 65).toInt = 0) : WTR M [] := ⟨trivial, by rw [h]; rfl⟩
theorem WTR_n (L : WTR M W) (h : (M.2.1 77 65).toInt ≤ 0) : W = [] := by
  cases W with
  | nil => rfl
  | cons x xs =>
    have l := L.2
    rw [List.length_cons] at l
    omega
theorem HLD_0 (h : (M.2.1 77 66).toInt = 0) : HLD M [] := ⟨trivial, by rw [h]; rfl⟩
theorem LQK_0 : LQK b M x_P0 := ⟨Int.le_refl _, fun i hi => by
  have hi : (i : Int) < 0 := hi
  omega⟩
theorem x_wt_c (v : Int) : (v = 2 → x_wt v = 3) ∧ (v = 3 → x_wt v = 2) ∧ (v = 4 → x_wt v = 1) ∧ (¬ v = 2 ∧ ¬ v = 3 ∧ ¬ v = 4 → x_wt v = 0) := by
  unfold x_wt
  refine ⟨fun h => by rw [if_pos h], fun h => by rw [if_neg (by omega), if_pos h], fun h => by rw [if_neg (by omega), if_neg (by omega), if_pos h], fun h => by rw [if_neg h.1, if_neg h.2.1, if_neg h.2.2]⟩
theorem bd_n {l w : Int} (h : ¬ l ≤ x_wt w) : x_bd l (w :: W) P = (w :: W, P) := by rw [x_bd, if_neg h]
theorem LQK_m {c : Nat} (h : ∀ r i : Nat, 112 ≤ r ∧ r ≤ 114 → (i : Int) < P.2 → M1.2.1 r (c + i) = M.2.1 r (b + i)) (L : LQK b M P) : LQK c M1 P := ⟨L.1, fun i hi => by
  rw [h 112 i (by omega) hi, h 113 i (by omega) hi, h 114 i (by omega) hi]
  exact L.2 i hi⟩
end LQR
/-- what the reference holds while it reads -/
noncomputable def GST (M : mm_M) (W : List Int) (P : x_GP) : Prop := WTR M W ∧ LQK 40 M P ∧ HLD M (x_hd P.1.1 P.2.toNat) ∧ (M.2.1 77 59).toInt = P.2
section GSTS
variable {M M1 : mm_M} {P : x_GP} {W ws : List Int} {E : List Int × x_GP} {l w k f s : Int}
theorem bxq_0 (e : x_bd l W P = E) (h : W = []) (G : GST M W P) : GST M E.1 E.2 := by
  subst h
  rw [← e]
  exact G
theorem bx_n (e : x_bd l W P = E) (h : W = w :: ws) (n : ¬ l ≤ x_wt w) (G : GST M W P) : GST M E.1 E.2 := by
  rw [← e, h, bd_n n]
  rw [h] at G
  exact G
theorem bx_s (e : x_bd l W P = E) (h : W = w :: ws) (y : l ≤ x_wt w) : x_bd l ws (x_kn1 P w 0 0) = E := by rw [← e, h, bd_c y]
theorem hd_l (h0 : 0 ≤ P.2) (hk : k = 0 ∨ k = 1) (H : HLD M (P.2 :: x_hd P.1.1 P.2.toNat)) : HLD M (x_hd (x_kn1 P k f s).1.1 (x_kn1 P k f s).2.toNat) := by
  rw [x_hd_s h0, if_pos hk]
  exact H
theorem hd_2 (h0 : 0 ≤ P.2) (hk : k = 2) (H : HLD M (P.2 :: (x_hd P.1.1 P.2.toNat).tail)) : HLD M (x_hd (x_kn1 P k f s).1.1 (x_kn1 P k f s).2.toNat) := by
  rw [x_hd_s h0, if_neg (by omega), if_pos hk]
  exact H
theorem hd_b (h0 : 0 ≤ P.2) (hk : k = 3 ∨ k = 4) (H : HLD M (P.2 :: (x_hd P.1.1 P.2.toNat).tail.tail)) : HLD M (x_hd (x_kn1 P k f s).1.1 (x_kn1 P k f s).2.toNat) := by
  rw [x_hd_s h0, if_neg (by omega), if_neg (by omega)]
  exact H
theorem GST_f (h : ∀ a i : Nat, (112 ≤ a ∧ a ≤ 114 ∧ 40 ≤ i ∨ 115 ≤ a ∧ a ≤ 116 ∨ a = 77 ∧ (i = 59 ∨ i = 65 ∨ i = 66)) → M1.2.1 a i = M.2.1 a i) (G : GST M W P) : GST M1 W P :=
  ⟨WTR_f (fun i => h 115 i (by omega)) (by rw [h 77 65 (by omega)]) G.1, LQK_f (fun r i hr hi => h r i (by omega)) G.2.1, HLD_f (fun i => h 116 i (by omega)) (by rw [h 77 66 (by omega)]) G.2.2.1, by rw [h 77 59 (by omega)]; exact G.2.2.2⟩
theorem WTR_d (L : WTR M W) (h1 : 1 ≤ (M.2.1 77 65).toInt) (h : ∀ i : Nat, M1.2.1 115 i = M.2.1 115 i) (e : (M1.2.1 77 65).toInt = (M.2.1 77 65).toInt - 1) : WTR M1 W.tail := by
  cases W with
  | nil =>
    have l : ((0 : Nat) : Int) = (M.2.1 77 65).toInt := L.2
    omega
  | cons x xs =>
    have l := L.2
    rw [List.length_cons] at l
    refine ⟨LST_f xs (fun i _ => by rw [h i]) L.1.2, ?_⟩
    show (xs.length : Int) = _
    omega
theorem GST_t (G : GST M W P) (h1 : 1 ≤ (M.2.1 77 65).toInt) (h : ∀ a i : Nat, (112 ≤ a ∧ a ≤ 114 ∧ 40 ≤ i ∨ 115 ≤ a ∧ a ≤ 116 ∨ a = 77 ∧ (i = 59 ∨ i = 66)) → M1.2.1 a i = M.2.1 a i) (e : (M1.2.1 77 65).toInt = (M.2.1 77 65).toInt - 1) : GST M1 W.tail P :=
  ⟨WTR_d G.1 h1 (fun i => h 115 i (by omega)) e, LQK_f (fun r i hr hi => h r i (by omega)) G.2.1, HLD_f (fun i => h 116 i (by omega)) (by rw [h 77 66 (by omega)]) G.2.2.1, by rw [h 77 59 (by omega)]; exact G.2.2.2⟩
theorem GST_p {j : Nat} {v : Int32} {x : Int} (G : GST M W P) (hj : (j : Int) = (M.2.1 77 65).toInt) (h5 : ∀ i : Nat, ¬ i = j → M1.2.1 115 i = M.2.1 115 i) (e : M1.2.1 115 j = v) (hv : v.toInt = x) (h : ∀ a i : Nat, (112 ≤ a ∧ a ≤ 114 ∧ 40 ≤ i ∨ a = 116 ∨ a = 77 ∧ (i = 59 ∨ i = 66)) → M1.2.1 a i = M.2.1 a i) (e2 : (M1.2.1 77 65).toInt = (M.2.1 77 65).toInt + 1) : GST M1 (x :: W) P :=
  ⟨WTR_p G.1 hj h5 e hv e2, LQK_f (fun r i hr hi => h r i (by omega)) G.2.1, HLD_f (fun i => h 116 i (by omega)) (by rw [h 77 66 (by omega)]) G.2.2.1, by rw [h 77 59 (by omega)]; exact G.2.2.2⟩
theorem GST_0 (h59 : (M.2.1 77 59).toInt = 0) (h65 : (M.2.1 77 65).toInt = 0) (h66 : (M.2.1 77 66).toInt = 0) : GST M [] x_P0 := ⟨WTR_0 h65, LQK_0, HLD_0 h66, h59⟩
theorem GST_l {k2 f2 s2 : Int} (G : GST M W P) (hk : k = 0 ∨ k = 1) (hw : WTR M1 W) (hl : LQK 40 M1 (x_kn1 P k f s)) (hh : HLD M1 (P.2 :: x_hd P.1.1 P.2.toNat)) (e : (M1.2.1 77 59).toInt = P.2 + 1) (h0 : k = k2) (h1 : f = f2) (h2 : s = s2) : GST M1 W (x_kn1 P k2 f2 s2) := by
  subst h0; subst h1; subst h2
  exact ⟨hw, hl, hd_l G.2.1.1 hk hh, e⟩
end GSTS
