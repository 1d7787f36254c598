abbrev md_ad (a i : Nat) : Prop := a = 1 ∧ i = 5 ∨ 3 ≤ a ∧ a ≤ 5
abbrev md_av (a i : Nat) : Prop := a = 1 ∧ 6 ≤ i ∧ i ≤ 9
abbrev md_fl (a i : Nat) : Prop := a = 1 ∧ (i = 10 ∨ i = 11)
abbrev md_f33 (p a i : Nat) : Prop := a = 1 ∧ 6 ≤ i ∧ i ≤ 11 ∨ a = p ∧ 2 ≤ i ∨ p + 1 ≤ a ∧ a ≤ p + 5
abbrev md_c42e (p a i : Nat) : Prop := a = 1 ∧ 6 ≤ i ∧ i ≤ 11 ∨ a = p + 8
abbrev md_w41 (p a i : Nat) : Prop := a = 1 ∧ 6 ≤ i ∧ i ≤ 11 ∨ a = p ∧ i = 3 ∨ p + 6 ≤ a ∧ a ≤ p + 8
abbrev md_l31 (p a i : Nat) : Prop := a = 1 ∧ 6 ≤ i ∧ i ≤ 11 ∨ a = p ∧ ¬ i = 1 ∨ p + 1 ≤ a ∧ a ≤ p + 8
abbrev md_p90 (a i : Nat) : Prop := a = 1 ∧ 6 ≤ i ∧ i ≤ 11
abbrev md_r30 (p a i : Nat) : Prop := a = 1 ∧ 6 ≤ i ∧ i ≤ 11 ∨ p ≤ a ∧ a ≤ p + 8
abbrev md_fl170 (a i : Nat) : Prop := a = 77 ∧ (i = 4 ∨ i = 5 ∨ 7 ≤ i ∧ i ≤ 10 ∨ i = 15 ∨ i = 25) ∨ 80 ≤ a ∧ a ≤ 84 ∧ 8 ≤ i
abbrev md_w171 (a i : Nat) : Prop := a = 77 ∧ (i = 4 ∨ i = 5 ∨ 7 ≤ i ∧ i ≤ 10 ∨ i = 16) ∨ 85 ≤ a ∧ a ≤ 87 ∧ 12 ≤ i
abbrev md_l172 (a i : Nat) : Prop := a = 77 ∧ (i = 4 ∨ i = 5 ∨ 7 ≤ i ∧ i ≤ 10 ∨ 14 ≤ i ∧ i ≤ 16 ∨ i = 25) ∨ 80 ≤ a ∧ a ≤ 84 ∧ 8 ≤ i ∨ 85 ≤ a ∧ a ≤ 87 ∧ 12 ≤ i
abbrev md_ka (a i : Nat) : Prop := 12 ≤ a ∧ a ≤ 15
abbrev md_ks (a i : Nat) : Prop := a = 16
abbrev md_kr (a i : Nat) : Prop := 95 ≤ a ∧ a ≤ 98
/-! exact steps, and the class's text -/
section SE
variable {X : mm_X} {d mi pc : Nat} {ls st : List Value} {M : mm_M} {Q : Option Value → mm_M → Prop} {len a b : Nat} {ps : List Nat} {x y : Int32} {A B : Int}
theorem s_opE {i : Instr} {w : Int32} (hc : mm_code mi pc = some (i, len, a, b, ps)) (hw : mm_op2 i x y = some w) (h : ∀ v : Int32, w = v → mm_T X d mi (pc + len) ls (.int v :: st) M Q) : mm_T X d mi pc ls (.int y :: .int x :: st) M Q := to_2 hc hw (h w rfl)
theorem s_xalE {e n : Nat} (hc : mm_code mi pc = some (.iaload, len, a, b, ps)) (hX : g_X X) (he : (Nat.ble 1 e && Nat.ble e 3 && Nat.beq (g_xn e) n) = true) (ex : x.toInt = A) (h0 : 0 ≤ A) (h1 : A < (n : Int)) (h : ∀ v : Int32, (X e).2 A.toNat = v → mm_T X d mi (pc + len) ls (.int v :: st) M Q) : mm_T X d mi pc ls (.int x :: .ref (mm_ext + e) :: st) M Q := by
  rw [Bool.and_eq_true, Bool.and_eq_true] at he
  have hn := hX e (Nat.le_of_ble_eq_true he.1.1) (Nat.le_of_ble_eq_true he.1.2)
  rw [Nat.eq_of_beq_eq_true he.2] at hn
  exact tt_xal hc (by rw [hn]; exact i_ix ex h0 h1) rfl (h _ (by rw [show x.toNatClampNeg = A.toNat by rw [← ex]; rfl]))
end SE
noncomputable def g_W (X : mm_X) : Prop := ∀ j : Nat, j < 15 → (X 1).2 j = fr_W.getD j 0
theorem g_W_u {X : mm_X} {v : Int32} {A : Int} (H : g_W X) (k : Nat) (hk : k < 15) (e : A.toNat = k) (h : (X 1).2 A.toNat = v) : v.toInt = (fr_W.getD k 0).toInt := by
  rw [← h, e, H k hk]
/-- the bytes of the class's text are t's -/
noncomputable def TT (M : mm_M) (t : Nat → Int) (nn : Int) : Prop := ∀ k : Nat, (k : Int) < nn → (M.2.1 2 k &&& 255).toInt = t k
theorem TT_f {M M1 : mm_M} {t : Nat → Int} {nn : Int} (h : ∀ a i, a = 2 → M1.2.1 a i = M.2.1 a i) (H : TT M t nn) : TT M1 t nn := fun k hk => by rw [h 2 k rfl]; exact H k hk
theorem TT_u {M : mm_M} {t : Nat → Int} {nn A : Int} {v w : Int32} (H : TT M t nn) (h0 : 0 ≤ A) (h1 : A < nn) (hv : M.2.1 2 A.toNat = v) (hw : v &&& 255 = w) : w.toInt = t A.toNat := by
  rw [← hw, ← hv]
  exact H A.toNat (by omega)
theorem x_pk_6 {t : Nat → Int} {a j : Nat} (h : 6 ≤ j) : x_pk t a (j + 1) = x_pk t a j := by
  rw [x_pk, show x_pw j = 0 from by unfold x_pw; repeat' rw [if_neg (by omega)]]
  omega
section XC
variable {t : Nat → Int} {n a : Int}
theorem x_C_0 (h : n ≤ a) : x_C (x_kind t n a) (x_val t n a) 0 0 := Or.inl ⟨(x_t0 h).1, rfl, rfl⟩
theorem x_C_l5 (h : a < n) (hl : 97 ≤ t a.toNat ∧ t a.toNat ≤ 122) (h6 : 6 < x_e t n a - a) : x_C (x_kind t n a) (x_val t n a) 1 0 := by
  rw [(x_tl h hl).1, if_pos h6]
  exact Or.inr (Or.inr (Or.inr (Or.inr (Or.inr ⟨rfl, rfl, rfl⟩))))
theorem x_C_l1 {v : Int} (h : a < n) (hl : 97 ≤ t a.toNat ∧ t a.toNat ≤ 122) (h6 : x_e t n a - a ≤ 6) (hv : v = x_lv t n a) (hk : 0 ≤ x_kx v) : x_C (x_kind t n a) (x_val t n a) 4 v := by
  rw [(x_tl h hl).1, if_neg (by omega), if_pos (by rw [← hv]; exact hk), (x_tl h hl).2.1, ← hv]
  exact Or.inr (Or.inl ⟨rfl, rfl, rfl⟩)
theorem x_C_l2 {v : Int} (h : a < n) (hl : 97 ≤ t a.toNat ∧ t a.toNat ≤ 122) (h6 : x_e t n a - a ≤ 6) (hv : v = x_lv t n a) (hk : x_kx v < 0) : x_C (x_kind t n a) (x_val t n a) 3 v := by
  rw [(x_tl h hl).1, if_neg (by omega), if_neg (by rw [← hv]; omega), (x_tl h hl).2.1, ← hv]
  exact Or.inr (Or.inr (Or.inl ⟨rfl, rfl, rfl⟩))
theorem x_C_d (h : a < n) (hd : 48 ≤ t a.toNat ∧ t a.toNat ≤ 57) : x_C (x_kind t n a) (x_val t n a) 2 (x_num t n a 0) := by
  rw [(x_td h hd).1, (x_td h hd).2.1]
  exact Or.inr (Or.inr (Or.inr (Or.inl ⟨rfl, rfl, rfl⟩)))
theorem x_C_s {v : Int} (h : a < n) (hv : v = t a.toNat) (h1 : v = 59 ∨ v = 40 ∨ v = 41 ∨ v = 61) : x_C (x_kind t n a) (x_val t n a) v 0 := by
  have q := x_ts (t := t) h (by omega) (by omega)
  rw [q.1, q.2.1, if_pos (by omega), ← hv]
  exact Or.inr (Or.inr (Or.inr (Or.inr (Or.inl ⟨rfl, rfl, rfl, h1⟩))))
theorem x_C_b (h : a < n) (h1 : ¬ (97 ≤ t a.toNat ∧ t a.toNat ≤ 122)) (h2 : ¬ (48 ≤ t a.toNat ∧ t a.toNat ≤ 57)) (h3 : ¬ (t a.toNat = 59 ∨ t a.toNat = 40 ∨ t a.toNat = 41 ∨ t a.toNat = 61)) : x_C (x_kind t n a) (x_val t n a) 1 0 := by
  have q := x_ts (t := t) h h1 h2
  rw [q.1, if_neg h3]
  exact Or.inr (Or.inr (Or.inr (Or.inr (Or.inr ⟨rfl, rfl, rfl⟩))))
end XC
/-- a token was added -/
noncomputable def AD (M M1 : mm_M) (tok val pl : Int) : Prop := (M1.2.1 1 5).toInt = (M.2.1 1 5).toInt + 1 ∧ (M1.2.1 3 (M.2.1 1 5).toInt.toNat).toInt = tok ∧ (M1.2.1 4 (M.2.1 1 5).toInt.toNat).toInt = val ∧ (M1.2.1 5 (M.2.1 1 5).toInt.toNat).toInt = pl ∧ ∀ i, i ≠ (M.2.1 1 5).toInt.toNat → M1.2.1 3 i = M.2.1 3 i ∧ M1.2.1 4 i = M.2.1 4 i ∧ M1.2.1 5 i = M.2.1 5 i
theorem AD_k {M M1 M2 M3 M4 : mm_M} {x y z v : Int32} (W1 : M1 = mm_setI M 3 (M.2.1 1 5).toInt.toNat x) (W2 : M2 = mm_setI M1 4 (M.2.1 1 5).toInt.toNat y) (W3 : M3 = mm_setI M2 5 (M.2.1 1 5).toInt.toNat z) (W4 : M4 = mm_setI M3 1 5 v) (hv : v.toInt = (M.2.1 1 5).toInt + 1) : AD M M4 x.toInt y.toInt z.toInt := by
  refine ⟨?_, ?_, ?_, ?_, fun i hi => ⟨?_, ?_, ?_⟩⟩
  · rw [W_e W4, hv]
  · rw [W_n W4 (by omega) (W_n W3 (by omega) (W_n W2 (by omega) (W_e W1)))]
  · rw [W_n W4 (by omega) (W_n W3 (by omega) (W_e W2))]
  · rw [W_n W4 (by omega) (W_e W3)]
  · exact W_n W4 (by omega) (W_n W3 (by omega) (W_n W2 (by omega) (W_n W1 (by omega) rfl)))
  · exact W_n W4 (by omega) (W_n W3 (by omega) (W_n W2 (by omega) (W_n W1 (by omega) rfl)))
  · exact W_n W4 (by omega) (W_n W3 (by omega) (W_n W2 (by omega) (W_n W1 (by omega) rfl)))
/-- token i of the class's rows, of s in all -/
noncomputable def TE (M : mm_M) (t : Nat → Int) (nn s : Int) (i : Nat) : Prop := x_C (x_kind t nn (M.2.1 5 i).toInt) (x_val t nn (M.2.1 5 i).toInt) (M.2.1 3 i).toInt (M.2.1 4 i).toInt ∧ 0 ≤ (M.2.1 5 i).toInt ∧ (M.2.1 5 i).toInt ≤ nn ∧ ((i : Int) + 1 < s → (M.2.1 5 (i + 1)).toInt = x_ns t nn (M.2.1 5 i).toInt)
/-- the tokens of the text up to x stand in the rows -/
noncomputable def TB (M : mm_M) (t : Nat → Int) (nn x : Int) : Prop := 0 ≤ (M.2.1 1 5).toInt ∧ (M.2.1 1 5).toInt ≤ x ∧ (∀ i : Nat, (i : Int) < (M.2.1 1 5).toInt → TE M t nn (M.2.1 1 5).toInt i) ∧ ((M.2.1 1 5).toInt = 0 → x_sk t nn x = x_sk t nn 0) ∧ (0 < (M.2.1 1 5).toInt → x_sk t nn x = x_ns t nn (M.2.1 5 ((M.2.1 1 5).toInt - 1).toNat).toInt ∧ (M.2.1 5 0).toInt = x_sk t nn 0)
/-- all tokens stand in the rows -/
noncomputable def TA (M : mm_M) (t : Nat → Int) (nn : Int) : Prop := 1 ≤ (M.2.1 1 5).toInt ∧ (M.2.1 1 5).toInt ≤ 501 ∧ (∀ i : Nat, (i : Int) < (M.2.1 1 5).toInt → TE M t nn (M.2.1 1 5).toInt i) ∧ (M.2.1 5 0).toInt = x_sk t nn 0 ∧ (M.2.1 5 ((M.2.1 1 5).toInt - 1).toNat).toInt = nn
theorem TE_f {M M1 : mm_M} {t : Nat → Int} {nn s : Int} {i : Nat} (h : ∀ a i, 3 ≤ a ∧ a ≤ 5 → M1.2.1 a i = M.2.1 a i) (H : TE M t nn s i) : TE M1 t nn s i := by
  unfold TE at H ⊢
  rw [h 3 i (by decide), h 4 i (by decide), h 5 i (by decide), h 5 (i + 1) (by decide)]
  exact H
theorem TA_f {M M1 : mm_M} {t : Nat → Int} {nn : Int} (h : ∀ a i, (a = 1 ∧ i = 5 ∨ 3 ≤ a ∧ a ≤ 5) → M1.2.1 a i = M.2.1 a i) (H : TA M t nn) : TA M1 t nn := by
  unfold TA at H ⊢
  rw [h 1 5 (by decide), h 5 0 (by decide), h 5 _ (by omega)]
  exact ⟨H.1, H.2.1, fun i hi => TE_f (fun a i z => h a i (Or.inr z)) (H.2.2.1 i hi), H.2.2.2.1, H.2.2.2.2⟩
theorem TB_f {M M1 : mm_M} {t : Nat → Int} {nn x : Int} (h : ∀ a i, (a = 1 ∧ i = 5 ∨ 3 ≤ a ∧ a ≤ 5) → M1.2.1 a i = M.2.1 a i) (H : TB M t nn x) : TB M1 t nn x := by
  unfold TB at H ⊢
  rw [h 1 5 (by decide), h 5 0 (by decide), h 5 _ (by omega)]
  exact ⟨H.1, H.2.1, fun i hi => TE_f (fun a i z => h a i (Or.inr z)) (H.2.2.1 i hi), H.2.2.2.1, H.2.2.2.2⟩
theorem TB_0 {M : mm_M} {t : Nat → Int} {nn : Int} (h : (M.2.1 1 5).toInt = 0) : TB M t nn 0 := ⟨by omega, by omega, fun i hi => by exfalso; omega, fun _ => rfl, fun z => by exfalso; omega⟩
theorem TB_s {M : mm_M} {t : Nat → Int} {nn x y : Int} (H : TB M t nn x) (h0 : 0 ≤ x) (h1 : x < nn) (hb : t x.toNat = 10 ∨ t x.toNat = 32) (hy : y = x + 1) : TB M t nn y := by
  have e : x_sk t nn x = x_sk t nn y := by rw [hy]; exact x_go h0 h1 (x_bl_t hb)
  unfold TB at H ⊢
  rw [← e]
  exact ⟨H.1, by omega, H.2.2⟩
/-- one more entry -/
theorem TE_a {M M1 : mm_M} {t : Nat → Int} {nn x tok val : Int} (h0 : 0 ≤ x) (h1 : x ≤ nn) (hs : x_sk t nn x = x) (H : TB M t nn x) (A : AD M M1 tok val x) (hc : x_C (x_kind t nn x) (x_val t nn x) tok val) : (∀ i : Nat, (i : Int) < (M1.2.1 1 5).toInt → TE M1 t nn (M1.2.1 1 5).toInt i) ∧ (M1.2.1 5 0).toInt = x_sk t nn 0 ∧ (M1.2.1 5 ((M1.2.1 1 5).toInt - 1).toNat).toInt = x := by
  obtain ⟨a1, a2, a3, a4, a5⟩ := A
  obtain ⟨b0, b1, b2, b3, b4⟩ := H
  have es : ((M1.2.1 1 5).toInt - 1).toNat = (M.2.1 1 5).toInt.toNat := by rw [a1]; congr 1; omega
  refine ⟨fun i hi => ?_, ?_, by rw [es]; exact a4⟩
  · rw [a1] at hi ⊢
    by_cases g : (i : Int) = (M.2.1 1 5).toInt
    · have gi : i = (M.2.1 1 5).toInt.toNat := by omega
      unfold TE
      rw [gi, a2, a3, a4]
      exact ⟨hc, h0, h1, fun z => by exfalso; omega⟩
    · obtain ⟨c1, c2, c3, c4⟩ := b2 i (by omega)
      have q := a5 i (by omega)
      unfold TE
      rw [q.1, q.2.1, q.2.2]
      refine ⟨c1, c2, c3, fun z => ?_⟩
      by_cases g2 : (i : Int) + 1 = (M.2.1 1 5).toInt
      · have e2 : i + 1 = (M.2.1 1 5).toInt.toNat := by omega
        have e3 : ((M.2.1 1 5).toInt - 1).toNat = i := by omega
        rw [e2, a4, ← hs, (b4 (by omega)).1, e3]
      · rw [(a5 (i + 1) (by omega)).2.2]
        exact c4 (by omega)
  · by_cases g : (M.2.1 1 5).toInt = 0
    · have e : (M.2.1 1 5).toInt.toNat = 0 := by omega
      rw [e] at a4
      rw [a4, ← b3 g, hs]
    · rw [(a5 0 (by omega)).2.2]
      exact (b4 (by omega)).2
theorem TB_a {M M1 : mm_M} {t : Nat → Int} {nn x y : Int} (H : TB M t nn x) (h0 : 0 ≤ x) (h1 : x < nn) (hb : ¬ (t x.toNat = 10 ∨ t x.toNat = 32)) (A : ∃ tok val : Int, AD M M1 tok val x ∧ x_C (x_kind t nn x) (x_val t nn x) tok val) (hy : y = x_nx t nn x) : TB M1 t nn y := by
  obtain ⟨tok, val, A, hc⟩ := A
  have hs : x_sk t nn x = x := x_no h0 (Or.inr (x_bl_f hb))
  obtain ⟨k1, k2, k3⟩ := TE_a h0 (by omega) hs H A hc
  have b := x_nx_b (t := t) h0 (Int.le_of_lt h1)
  have a1 := A.1
  have b1 := H.2.1
  have b0 := H.1
  refine ⟨by omega, by omega, k1, fun z => by exfalso; omega, fun _ => ⟨?_, k2⟩⟩
  rw [k3, hy]
  rfl
theorem TA_e {M M1 : mm_M} {t : Nat → Int} {nn x : Int} (H : TB M t nn x) (h0 : 0 ≤ nn) (h5 : nn ≤ 500) (hx : x = nn) (A : AD M M1 0 0 nn) : TA M1 t nn := by
  subst hx
  obtain ⟨k1, k2, k3⟩ := TE_a h0 (Int.le_refl _) (x_no h0 (Or.inl (Int.le_refl _))) H A (x_C_0 (Int.le_refl _))
  have a1 := A.1
  have b1 := H.2.1
  have b0 := H.1
  exact ⟨by omega, by omega, k1, k2, k3⟩
/-- the text stands at a token -/
noncomputable def CS (M : mm_M) (t : Nat → Int) (nn : Int) : Prop := TA M t nn ∧ 0 ≤ (M.2.1 1 6).toInt ∧ (M.2.1 1 6).toInt < (M.2.1 1 5).toInt ∧ (M.2.1 1 7).toInt = (M.2.1 3 (M.2.1 1 6).toInt.toNat).toInt ∧ (M.2.1 1 8).toInt = (M.2.1 4 (M.2.1 1 6).toInt.toNat).toInt ∧ (M.2.1 1 9).toInt = (M.2.1 5 (M.2.1 1 6).toInt.toNat).toInt
theorem CS_f {M M1 : mm_M} {t : Nat → Int} {nn : Int} (h : ∀ a i, (a = 1 ∧ 5 ≤ i ∧ i ≤ 9 ∨ 3 ≤ a ∧ a ≤ 5) → M1.2.1 a i = M.2.1 a i) (H : CS M t nn) : CS M1 t nn := by
  have h1 := TA_f (M := M) (M1 := M1) (t := t) (nn := nn) (fun a i z => h a i (by omega)) H.1
  unfold CS at H ⊢
  rw [h 1 5 (by decide), h 1 6 (by decide), h 1 7 (by decide), h 1 8 (by decide), h 1 9 (by decide), h 3 _ (by omega), h 4 _ (by omega), h 5 _ (by omega)]
  exact ⟨h1, H.2⟩
theorem CS_c {M : mm_M} {t : Nat → Int} {nn : Int} (H : CS M t nn) : x_C (x_kind t nn (M.2.1 1 9).toInt) (x_val t nn (M.2.1 1 9).toInt) (M.2.1 1 7).toInt (M.2.1 1 8).toInt ∧ 0 ≤ (M.2.1 1 9).toInt ∧ (M.2.1 1 9).toInt ≤ nn := by
  obtain ⟨h1, h2, h3, h4, h5, h6⟩ := H
  have q := h1.2.2.1 (M.2.1 1 6).toInt.toNat (by omega)
  rw [h4, h5, h6]
  exact ⟨q.1, q.2.1, q.2.2.1⟩
section X80
variable {t : Nat → Int} {nn f x4 y : Int}
theorem x_pk_e {x3 s s31 c w r : Int32} (h0 : 0 ≤ f) (hx : f ≤ x4) (h6 : x4 - f < 6) (hp : x3.toInt = x_pk t f.toNat (x4 - f).toNat) (hl : ∀ i : Nat, i < (x4 - f).toNat → 97 ≤ t (f.toNat + i) ∧ t (f.toNat + i) ≤ 122) (hs : s.toInt = t x4.toNat) (hs1 : 97 ≤ s.toInt) (hs2 : s.toInt ≤ 122) (e31 : s &&& 31 = s31) (hc : c.toInt = 25 - 5 * (x4 - f)) (ew : s31 <<< c = w) (er : x3 ||| w = r) (hy : y = x4 + 1) : r.toInt = x_pk t f.toNat (y - f).toNat := by
  have ej : (y - f).toNat = (x4 - f).toNat + 1 := by omega
  have e4 : f.toNat + (x4 - f).toNat = x4.toNat := by omega
  rw [ej, ← er]
  refine x_pk_s hp (by omega) (fun i hi => ?_) ?_
  · by_cases g : i < (x4 - f).toNat
    · exact hl i g
    · have : i = (x4 - f).toNat := by omega
      rw [this, e4, ← hs]
      exact ⟨hs1, hs2⟩
  · rw [e4, ← hs, ← ew, ← e31]
    exact x_shl hs1 hs2 (by omega) (by omega)
theorem x_pk_z {x3 : Int32} (h6 : 6 ≤ x4 - f) (hp : x3.toInt = x_pk t f.toNat (x4 - f).toNat) (hy : y = x4 + 1) : x3.toInt = x_pk t f.toNat (y - f).toNat := by
  have ej : (y - f).toNat = (x4 - f).toNat + 1 := by omega
  rw [ej, x_pk_6 (by omega)]
  exact hp
theorem x_lt_e (h0 : 0 ≤ f) (hx : f ≤ x4) (hl : ∀ i : Nat, i < (x4 - f).toNat → 97 ≤ t (f.toNat + i) ∧ t (f.toNat + i) ≤ 122) (h : 97 ≤ t x4.toNat ∧ t x4.toNat ≤ 122) (hy : y = x4 + 1) : ∀ i : Nat, i < (y - f).toNat → 97 ≤ t (f.toNat + i) ∧ t (f.toNat + i) ≤ 122 := fun i hi => by
  by_cases g : i < (x4 - f).toNat
  · exact hl i g
  · have e4 : f.toNat + i = x4.toNat := by omega
    rw [e4]
    exact h
theorem x_ee_e {E : Int} (h0 : 0 ≤ x4) (h1 : x4 < nn) (h : 97 ≤ t x4.toNat ∧ t x4.toNat ≤ 122) (hy : y = x4 + 1) (g : x_e t nn x4 = E) : x_e t nn y = E := by
  rw [hy, ← g]
  exact (x_go h0 h1 (x_lt_t h)).symm
theorem x_ed_e {E : Int} (h0 : 0 ≤ x4) (h1 : x4 < nn) (h : 48 ≤ t x4.toNat ∧ t x4.toNat ≤ 57) (hy : y = x4 + 1) (g : x_end x_dg t nn x4 = E) : x_end x_dg t nn y = E := by
  rw [hy, ← g]
  exact (x_go h0 h1 (x_dg_t h)).symm
theorem x_nu_e {E v w : Int} (h0 : 0 ≤ x4) (h1 : x4 < nn) (h : 48 ≤ t x4.toNat ∧ t x4.toNat ≤ 57) (hy : y = x4 + 1) (hw : w = if v * 10 + t x4.toNat - 48 ≤ 100 then v * 10 + t x4.toNat - 48 else 100) (g : x_num t nn x4 v = E) : x_num t nn y w = E := by
  rw [hy, ← g]
  exact (x_num_go h0 h1 h hw).symm
end X80
section E80
variable {M N M1 : mm_M} {t : Nat → Int} {nn f : Int}
theorem E80_5 (sm : N = M) (ad : AD N M1 (1 : Int32).toInt (0 : Int32).toInt f) (h : f < nn) (hl : 97 ≤ t f.toNat ∧ t f.toNat ≤ 122) (h6 : 6 < x_e t nn f - f) : ∃ tok val : Int, AD M M1 tok val f ∧ x_C (x_kind t nn f) (x_val t nn f) tok val := ⟨1, 0, sm ▸ ad, x_C_l5 h hl h6⟩
theorem E80_1 {v : Int32} (sm : N = M) (ad : AD N M1 (4 : Int32).toInt v.toInt f) (h : f < nn) (hl : 97 ≤ t f.toNat ∧ t f.toNat ≤ 122) (h6 : x_e t nn f - f ≤ 6) (hv : v.toInt = x_lv t nn f) (hk : 0 ≤ x_kx v.toInt) : ∃ tok val : Int, AD M M1 tok val f ∧ x_C (x_kind t nn f) (x_val t nn f) tok val := ⟨4, v.toInt, sm ▸ ad, x_C_l1 h hl h6 hv hk⟩
theorem E80_2 {v : Int32} (sm : N = M) (ad : AD N M1 (3 : Int32).toInt v.toInt f) (h : f < nn) (hl : 97 ≤ t f.toNat ∧ t f.toNat ≤ 122) (h6 : x_e t nn f - f ≤ 6) (hv : v.toInt = x_lv t nn f) (hk : x_kx v.toInt < 0) : ∃ tok val : Int, AD M M1 tok val f ∧ x_C (x_kind t nn f) (x_val t nn f) tok val := ⟨3, v.toInt, sm ▸ ad, x_C_l2 h hl h6 hv hk⟩
theorem E81_2 {v : Int32} (sm : N = M) (ad : AD N M1 (2 : Int32).toInt v.toInt f) (h : f < nn) (hd : 48 ≤ t f.toNat ∧ t f.toNat ≤ 57) (hv : v.toInt = x_num t nn f 0) : ∃ tok val : Int, AD M M1 tok val f ∧ x_C (x_kind t nn f) (x_val t nn f) tok val := ⟨2, v.toInt, sm ▸ ad, hv ▸ x_C_d h hd⟩
theorem x_lv_e {x3 : Int32} {x4 : Int} (hp : x3.toInt = x_pk t f.toNat (x4 - f).toNat) (e : x4 = x_e t nn f) : x3.toInt = x_lv t nn f := by
  rw [hp, e]
  rfl
end E80
theorem FR_id {M M1 : mm_M} (F : FR md_0 M M1) : M1 = M := by
  obtain ⟨h1, h2, h3⟩ := F
  obtain ⟨a, b, c, e⟩ := M
  obtain ⟨a1, b1, c1, e1⟩ := M1
  have k1 : a1 = a := h1
  have k2 : e1 = e := h2
  have k3 : b1 = b := funext fun x => funext fun y => (h3 x y (Nat.not_lt_zero x)).1
  have k4 : c1 = c := funext fun x => funext fun y => (h3 x y (Nat.not_lt_zero x)).2
  rw [k1, k2, k3, k4]
section E83
variable {M M1 : mm_M} {t : Nat → Int} {nn : Int}
theorem CS_n (H : CS M t nn) (h5 : M1.2.1 1 5 = M.2.1 1 5) (h3 : ∀ a i, 3 ≤ a ∧ a ≤ 5 → M1.2.1 a i = M.2.1 a i) (h6 : (M1.2.1 1 6).toInt = (M.2.1 1 6).toInt + 1 ∧ (M.2.1 1 6).toInt + 1 < (M.2.1 1 5).toInt ∨ (M1.2.1 1 6).toInt = (M.2.1 1 6).toInt ∧ (M.2.1 1 5).toInt ≤ (M.2.1 1 6).toInt + 1) (h7 : (M1.2.1 1 7).toInt = (M.2.1 3 (M1.2.1 1 6).toInt.toNat).toInt) (h8 : (M1.2.1 1 8).toInt = (M.2.1 4 (M1.2.1 1 6).toInt.toNat).toInt) (h9 : (M1.2.1 1 9).toInt = (M.2.1 5 (M1.2.1 1 6).toInt.toNat).toInt) : CS M1 t nn ∧ (M1.2.1 1 9).toInt = x_ns t nn (M.2.1 1 9).toInt := by
  obtain ⟨h1, a0, a1, a7, a8, a9⟩ := H
  have hA : TA M1 t nn := TA_f (fun a i z => by
    rcases z with ⟨rfl, rfl⟩ | z
    · exact h5
    · exact h3 a i z) h1
  refine ⟨⟨hA, by omega, by rw [h5]; omega, by rw [h7, h3 3 _ (by omega)], by rw [h8, h3 4 _ (by omega)], by rw [h9, h3 5 _ (by omega)]⟩, ?_⟩
  rw [h9, a9]
  rcases h6 with ⟨k1, k2⟩ | ⟨k1, k2⟩
  · rw [k1, show ((M.2.1 1 6).toInt + 1).toNat = (M.2.1 1 6).toInt.toNat + 1 by omega]
    exact (h1.2.2.1 (M.2.1 1 6).toInt.toNat (by omega)).2.2.2 (by omega)
  · have e : (M.2.1 1 6).toInt.toNat = ((M.2.1 1 5).toInt - 1).toNat := by omega
    have hn : 0 ≤ nn := by
      have q := h1.2.2.1 (M.2.1 1 6).toInt.toNat (by omega)
      have := q.2.1
      have := q.2.2.1
      omega
    rw [k1, e, h1.2.2.2.2, x_ns_n hn]
theorem CS_b (H : TA M t nn) (h5 : M1.2.1 1 5 = M.2.1 1 5) (h3 : ∀ a i, 3 ≤ a ∧ a ≤ 5 → M1.2.1 a i = M.2.1 a i) (h6 : (M1.2.1 1 6).toInt = 0) (h7 : (M1.2.1 1 7).toInt = (M.2.1 3 (M1.2.1 1 6).toInt.toNat).toInt) (h8 : (M1.2.1 1 8).toInt = (M.2.1 4 (M1.2.1 1 6).toInt.toNat).toInt) (h9 : (M1.2.1 1 9).toInt = (M.2.1 5 (M1.2.1 1 6).toInt.toNat).toInt) : CS M1 t nn ∧ (M1.2.1 1 9).toInt = x_sk t nn 0 := by
  have hA : TA M1 t nn := TA_f (fun a i z => by
    rcases z with ⟨rfl, rfl⟩ | z
    · exact h5
    · exact h3 a i z) H
  have h1 := H.1
  refine ⟨⟨hA, by omega, by rw [h5]; omega, by rw [h7, h3 3 _ (by omega)], by rw [h8, h3 4 _ (by omega)], by rw [h9, h3 5 _ (by omega)]⟩, ?_⟩
  rw [h9, h6]
  exact H.2.2.2.1
end E83
theorem E79_a {M M1 : mm_M} {t : Nat → Int} {nn x : Int} {k v w : Int32} (ad : AD M M1 k.toInt v.toInt w.toInt) (hw : w.toInt = x) (hv : v.toInt = 0) (hc : x_C (x_kind t nn x) (x_val t nn x) k.toInt 0) : ∃ tok val : Int, AD M M1 tok val x ∧ x_C (x_kind t nn x) (x_val t nn x) tok val := ⟨k.toInt, 0, hw ▸ hv ▸ ad, hc⟩
section SL
variable {X : mm_X} {d mi pc : Nat} {ls st : List Value} {M : mm_M} {Q : Option Value → mm_M → Prop} {len a b : Nat} {ps : List Nat} {x y : Int64}
theorem lg_0 : lg_cmp x y = 0 ↔ x = y := by
  unfold lg_cmp
  by_cases h : x = y
  · subst h
    constructor
    · intro _; rfl
    · intro _; simp
  · constructor
    · intro z; revert z; simp; split <;> simp_all
    · intro z; exact absurd z h
theorem s_lcmpE (hc : mm_code mi pc = some (.lcmp, len, a, b, ps)) (h : ∀ v : Int32, (v.toInt = 0 ↔ x_eq x y = 1) → mm_T X d mi (pc + len) ls (.int v :: st) M Q) : mm_T X d mi pc ls (.long y :: .long x :: st) M Q := to_lc hc rfl (h _ (by
  rw [x_eq_1, ← lg_0, ← Int32.toInt_inj]
  rfl))
end SL
section FI
variable {g : Nat → Int} {v n x3 y E : Int}
theorem x_fi_e (h0 : 0 ≤ x3) (h1 : x3 < n) (h : g x3.toNat ≠ v) (hy : y = x3 + 1) (H : x_find g v (n - x3).toNat x3.toNat = E) : x_find g v (n - y).toNat y.toNat = E := by
  rw [← H, show (n - x3).toNat = (n - y).toNat + 1 by omega, x_find_go h, show y.toNat = x3.toNat + 1 by omega]
theorem x_fi_n (h1 : n ≤ x3) (H : x_find g v (n - x3).toNat x3.toNat = E) : E = -1 := by
  rw [← H, show (n - x3).toNat = 0 by omega]
  rfl
theorem x_fi_y (h0 : 0 ≤ x3) (h1 : x3 < n) (h : g x3.toNat = v) (H : x_find g v (n - x3).toNat x3.toNat = E) : E = x3 := by
  rw [← H, show (n - x3).toNat = (n - x3 - 1).toNat + 1 by omega, x_find_at h]
  omega
end FI
/-! the reference's tokens -/
noncomputable def TR (M : mm_M) (t : Nat → Int) (nn : Int) : Prop := ∀ k : Nat, (k : Int) < nn → (M.2.1 78 k).toInt = t k
theorem TR_f {M M1 : mm_M} {t : Nat → Int} {nn : Int} (h : ∀ a i, a = 78 → M1.2.1 a i = M.2.1 a i) (H : TR M t nn) : TR M1 t nn := fun k hk => by rw [h 78 k rfl]; exact H k hk
theorem TR_u {M : mm_M} {t : Nat → Int} {nn A B : Int} {v : Int32} (H : TR M t nn) (h0 : 0 ≤ A) (h1 : A < nn) (hv : M.2.1 78 A.toNat = v) (hB : A = B) : v.toInt = t B.toNat := by
  rw [← hB, ← hv]
  exact H A.toNat (by omega)
noncomputable def W9 (M : mm_M) : Prop := ∀ i : Nat, i < 70 → (M.2.1 79 i).toInt = x_w i
theorem W9_f {M M1 : mm_M} (h : ∀ a i, a = 79 → M1.2.1 a i = M.2.1 a i) (H : W9 M) : W9 M1 := fun k hk => by rw [h 79 k rfl]; exact H k hk
theorem W9_u {M : mm_M} {A B : Int} {v : Int32} (H : W9 M) (h0 : 0 ≤ A) (h1 : A < 70) (hv : M.2.1 79 A.toNat = v) (hB : A = B) : v.toInt = x_w B.toNat := by
  rw [← hB, ← hv]
  exact H A.toNat (by omega)
theorem x_off_u {k : Int} (h0 : 0 ≤ k) (h1 : k ≤ 14) : x_off (k + 1) = x_off k + x_len k + 1 ∧ 2 ≤ x_len k ∧ x_len k ≤ 5 ∧ 0 ≤ x_off k ∧ x_off k + x_len k ≤ 69 := by
  have q := x_off_s ⟨k.toNat, by omega⟩
  have e : ((k.toNat : Nat) : Int) = k := by omega
  simp only [e] at q
  exact ⟨q.1, q.2.1, q.2.2.1, q.2.2.2.1, q.2.2.2.2.1⟩
theorem x_off_w {k n : Int} {v : Int32} (h0 : 0 ≤ k) (h1 : k ≤ 14) (hn : 0 ≤ n) (hv : v.toInt = x_w (x_off k + n).toNat) : (n = x_len k → v.toInt = 32) ∧ (n < x_len k → v.toInt ≠ 32) := by
  have q := x_off_s ⟨k.toNat, by omega⟩
  have e : ((k.toNat : Nat) : Int) = k := by omega
  simp only [e] at q
  refine ⟨fun h => ?_, fun h => ?_⟩
  · rw [hv, h]
    exact q.2.2.2.2.2.1
  · rw [hv]
    have h5 := q.2.2.1
    have := q.2.2.2.2.2.2 ⟨n.toNat, by omega⟩
    have e2 : ((n.toNat : Nat) : Int) = n := by omega
    simp only [e2] at this
    exact this h
theorem x_off_15 {k : Int} : k = 15 → x_off k = 70 := fun h => by rw [h]; rfl
section X153
variable {t : Nat → Int} {a b k i : Int}
theorem x_sa_0 {s : Int} (h : s = (1 : Int) → x_len k = b - a) : s = 1 → x_len k = b - a ∧ ∀ j : Nat, (j : Int) < 0 → x_w (x_off k + j).toNat = t (a + j).toNat := fun z => ⟨h z, fun j hj => by exfalso; omega⟩
theorem x_sb_0 {s : Int} (h : s = 0 → x_len k ≠ b - a) : s = 0 → ¬ x_m t a b k := fun z m => h z m.1
theorem x_sa_s {s s2 y : Int} (h : s = 1 → x_len k = b - a ∧ ∀ j : Nat, (j : Int) < i → x_w (x_off k + j).toNat = t (a + j).toNat) (hs : s = 1) (h2 : s2 = 1 → x_w (x_off k + i).toNat = t (a + i).toNat) (hi : 0 ≤ i) (hy : y = i + 1) : s2 = 1 → x_len k = b - a ∧ ∀ j : Nat, (j : Int) < y → x_w (x_off k + j).toNat = t (a + j).toNat := fun z => ⟨(h hs).1, fun j hj => by
  by_cases g : (j : Int) < i
  · exact (h hs).2 j g
  · have e : (j : Int) = i := by omega
    rw [e]
    exact h2 z⟩
theorem x_sb_s {s2 : Int} (h2 : s2 = 0 → x_w (x_off k + i).toNat ≠ t (a + i).toNat) (hi : 0 ≤ i) (hl : i < x_len k) : s2 = 0 → ¬ x_m t a b k := fun z m => by
  have q := m.2 i.toNat (by omega)
  have e : ((i.toNat : Nat) : Int) = i := by omega
  rw [e] at q
  exact h2 z q
theorem x_no_s {y : Int} (h : ∀ q : Int, 0 ≤ q → q < k → ¬ x_m t a b q) (h2 : ¬ x_m t a b k) (hy : y = k + 1) : ∀ q : Int, 0 ≤ q → q < y → ¬ x_m t a b q := fun q h0 h1 => by
  by_cases g : q < k
  · exact h q h0 g
  · have e : q = k := by omega
    rw [e]
    exact h2
end X153
section X157
variable {t : Nat → Int} {a b x4 y : Int}
theorem x_pr_e {x s5 w r : Int32} (h0 : 0 ≤ a) (hx : a ≤ x4) (h6 : x4 < a + 6) (hl : ∀ i : Nat, i < (b - a).toNat → 97 ≤ t (a.toNat + i) ∧ t (a.toNat + i) ≤ 122) (hp : x.toInt = x_pr t a.toNat (b - a).toNat (x4 - a).toNat) (hw : x4 < b ∧ w.toInt = t x4.toNat - 96 ∨ b ≤ x4 ∧ w.toInt = 0) (e5 : x <<< (5 : Int32) = s5) (er : s5 ||| w = r) (hy : y = x4 + 1) : r.toInt = x_pr t a.toNat (b - a).toNat (y - a).toNat := by
  have ej : (y - a).toNat = (x4 - a).toNat + 1 := by omega
  have e4 : a.toNat + (x4 - a).toNat = x4.toNat := by omega
  rw [ej, ← er, ← e5]
  refine x_pr_s hl hp (by omega) ?_
  rw [e4]
  rcases hw with ⟨h1, h2⟩ | ⟨h1, h2⟩
  · rw [if_pos (by omega), h2]
  · rw [if_neg (by omega), h2]
theorem x_pr_x {x : Int32} (hp : x.toInt = x_pr t a.toNat (b - a).toNat (x4 - a).toNat) (h : x4 = a + 6) (hm : b - a ≤ 6) : x.toInt = x_pk t a.toNat (b - a).toNat := by
  rw [hp, show (x4 - a).toNat = 6 by omega]
  exact x_pr_6 (by omega)
end X157
section XR
variable {t : Nat → Int} {n a : Int}
theorem x_R_0 {w : Int} (h : n ≤ a) : x_R (x_kind t n a) (x_val t n a) 0 w := Or.inl ⟨(x_t0 h).1, rfl⟩
theorem x_R_k {r : Int} (h0 : 0 ≤ a) (h : a < n) (hl : 97 ≤ t a.toNat ∧ t a.toNat ≤ 122) (hr0 : 0 ≤ r) (hr : r ≤ 14) (hm : x_m t a (x_e t n a) r) : x_R (x_kind t n a) (x_val t n a) 1 r := by
  have q := x_m_pk h0 hr0 hr hm
  have e : x_kx (x_lv t n a) = r := q.2
  rw [(x_tl h hl).1, if_neg (by omega), if_pos (by omega), (x_tl h hl).2.1]
  exact Or.inr (Or.inl ⟨rfl, rfl, e.symm, hr0⟩)
theorem x_R_5 {w : Int} (h : a < n) (hl : 97 ≤ t a.toNat ∧ t a.toNat ≤ 122) (h6 : 6 < x_e t n a - a) : x_R (x_kind t n a) (x_val t n a) 5 w := by
  rw [(x_tl h hl).1, if_pos h6]
  exact Or.inr (Or.inr (Or.inr (Or.inr (Or.inr ⟨rfl, rfl⟩))))
theorem x_e_l (h0 : 0 ≤ a) : ∀ j : Nat, (j : Int) < x_e t n a - a → 97 ≤ t (a.toNat + j) ∧ t (a.toNat + j) ≤ 122 := fun j hj => by
  have := x_in (P := x_lt) (t := t) (n := n) (x := a) (k := a.toNat + j) h0 (by omega) (by show _ < x_e t n a; omega)
  exact of_decide_eq_true this
theorem x_R_2 {v : Int} (h0 : 0 ≤ a) (h : a < n) (hl : 97 ≤ t a.toNat ∧ t a.toNat ≤ 122) (h6 : x_e t n a - a ≤ 6) (hm : ∀ k : Int, 0 ≤ k → k < 15 → ¬ x_m t a (x_e t n a) k) (hv : v = x_pk t a.toNat (x_e t n a - a).toNat) : x_R (x_kind t n a) (x_val t n a) 2 v := by
  have hb := x_nx_b (t := t) (n := n) (a := a) h0 (Int.le_of_lt h)
  rw [(x_tl h hl).2.2] at hb
  have hk : ¬ 0 ≤ x_kx (x_lv t n a) := fun z => by
    have b := x_kx_b (v := x_lv t n a)
    exact hm _ z (by omega) (x_pk_m h0 (hb.2.2 h) h6 (x_e_l h0) z)
  rw [(x_tl h hl).1, if_neg (by omega), if_neg hk, (x_tl h hl).2.1]
  exact Or.inr (Or.inr (Or.inl ⟨rfl, rfl, hv⟩))
theorem x_R_d {w : Int} (h : a < n) (hd : 48 ≤ t a.toNat ∧ t a.toNat ≤ 57) (h0 : 0 ≤ w) (hw : (w ≤ 99 ∧ w = x_num t n a 0) ∨ (100 ≤ w ∧ x_num t n a 0 = 100)) : x_R (x_kind t n a) (x_val t n a) 3 w := by
  rw [(x_td h hd).1, (x_td h hd).2.1]
  refine Or.inr (Or.inr (Or.inr (Or.inl ⟨rfl, rfl, ?_, h0⟩)))
  omega
theorem x_R_s {v : Int} (h : a < n) (hv : v = t a.toNat) (h1 : v = 59 ∨ v = 40 ∨ v = 41 ∨ v = 61) : x_R (x_kind t n a) (x_val t n a) 4 v := by
  have q := x_ts (t := t) h (by omega) (by omega)
  rw [q.1, q.2.1, if_pos (by omega), ← hv]
  exact Or.inr (Or.inr (Or.inr (Or.inr (Or.inl ⟨rfl, rfl, rfl, h1⟩))))
theorem x_R_b {w : Int} (h : a < n) (h1 : ¬ (97 ≤ t a.toNat ∧ t a.toNat ≤ 122)) (h2 : ¬ (48 ≤ t a.toNat ∧ t a.toNat ≤ 57)) (h3 : ¬ (t a.toNat = 59 ∨ t a.toNat = 40 ∨ t a.toNat = 41 ∨ t a.toNat = 61)) : x_R (x_kind t n a) (x_val t n a) 5 w := by
  have q := x_ts (t := t) h h1 h2
  rw [q.1, if_neg h3]
  exact Or.inr (Or.inr (Or.inr (Or.inr (Or.inr ⟨rfl, rfl⟩))))
end XR
/-- the reference stands at a token -/
noncomputable def RS (M : mm_M) (t : Nat → Int) (nn : Int) : Prop := (M.2.1 77 6).toInt = nn ∧ 0 ≤ (M.2.1 77 10).toInt ∧ (M.2.1 77 10).toInt ≤ nn ∧ (M.2.1 77 7).toInt = x_nx t nn (M.2.1 77 10).toInt ∧ x_R (x_kind t nn (M.2.1 77 10).toInt) (x_val t nn (M.2.1 77 10).toInt) (M.2.1 77 8).toInt (M.2.1 77 9).toInt
theorem RS_f {M M1 : mm_M} {t : Nat → Int} {nn : Int} (h : ∀ a i, (a = 77 ∧ 6 ≤ i ∧ i ≤ 10) → M1.2.1 a i = M.2.1 a i) (H : RS M t nn) : RS M1 t nn := by
  unfold RS at H ⊢
  rw [h 77 6 (by decide), h 77 7 (by decide), h 77 8 (by decide), h 77 9 (by decide), h 77 10 (by decide)]
  exact H
theorem RS_m {M : mm_M} {t : Nat → Int} {nn p a kd wh : Int} (h6 : (M.2.1 77 6).toInt = nn) (ha : (M.2.1 77 10).toInt = a) (hs : a = x_sk t nn p) (h0 : 0 ≤ a) (h1 : a ≤ nn) (h7 : (M.2.1 77 7).toInt = x_nx t nn a) (h8 : (M.2.1 77 8).toInt = kd) (h9 : (M.2.1 77 9).toInt = wh) (hR : x_R (x_kind t nn a) (x_val t nn a) kd wh) : RS M t nn ∧ (M.2.1 77 10).toInt = x_sk t nn p := by
  refine ⟨⟨h6, by omega, by omega, by rw [ha]; exact h7, by rw [ha, h8, h9]; exact hR⟩, by rw [ha]; exact hs⟩
theorem x_sk_e {t : Nat → Int} {nn x y E : Int} (h0 : 0 ≤ x) (h1 : x < nn) (h : t x.toNat = 10 ∨ t x.toNat = 32) (hy : y = x + 1) (g : x_sk t nn x = E) : x_sk t nn y = E := by
  rw [hy, ← g]
  exact (x_go h0 h1 (x_bl_t h)).symm
theorem x_sk_x {t : Nat → Int} {nn x E : Int} (h0 : 0 ≤ x) (h : nn ≤ x ∨ ¬ (t x.toNat = 10 ∨ t x.toNat = 32)) (g : x_sk t nn x = E) : x = E := by
  rw [← g]
  exact (x_no h0 (h.imp id x_bl_f)).symm
/-- the number as the reference counts it -/
noncomputable def x_mn (w : Int) : Int := if w ≤ 99 then w else 100
theorem x_mn_e {t : Nat → Int} {nn x y w w2 E : Int} (h0 : 0 ≤ x) (h1 : x < nn) (h : 48 ≤ t x.toNat ∧ t x.toNat ≤ 57) (hy : y = x + 1) (hw0 : 0 ≤ w) (hw : (99 < w ∧ w2 = w) ∨ (w ≤ 99 ∧ w2 = 10 * w + t x.toNat - 48)) (g : x_num t nn x (x_mn w) = E) : x_num t nn y (x_mn w2) = E := by
  rw [hy, ← g]
  refine (x_num_go h0 h1 h ?_).symm
  unfold x_mn
  rcases hw with ⟨a1, a2⟩ | ⟨a1, a2⟩
  · rw [if_neg (show ¬ w2 ≤ 99 by omega), if_neg (show ¬ w ≤ 99 by omega), if_neg (by omega)]
  · rw [if_pos a1]
    by_cases g2 : w2 ≤ 99
    · rw [if_pos g2, if_pos (by omega)]; omega
    · rw [if_neg g2]
      by_cases g3 : w * 10 + t x.toNat - 48 ≤ 100
      · rw [if_pos g3]; omega
      · rw [if_neg g3]
theorem x_mn_x {t : Nat → Int} {nn x w E : Int} (h0 : 0 ≤ x) (h : nn ≤ x ∨ ¬ (48 ≤ t x.toNat ∧ t x.toNat ≤ 57)) (g : x_num t nn x (x_mn w) = E) : (w ≤ 99 ∧ w = E) ∨ (100 ≤ w ∧ E = 100) := by
  rw [x_num_no h0 h] at g
  unfold x_mn at g
  by_cases g2 : w ≤ 99
  · rw [if_pos g2] at g; exact Or.inl ⟨g2, g⟩
  · rw [if_neg g2] at g; exact Or.inr ⟨by omega, g.symm⟩
theorem x_lt_e2 {t : Nat → Int} {f f2 x4 y : Int} (h0 : 0 ≤ f) (hx : f ≤ x4) (hl : ∀ i : Nat, i < (x4 - f).toNat → 97 ≤ t (f.toNat + i) ∧ t (f.toNat + i) ≤ 122) (h : 97 ≤ t x4.toNat ∧ t x4.toNat ≤ 122) (hy : y = x4 + 1) (hf : f2 = f) : ∀ i : Nat, i < (y - f2).toNat → 97 ≤ t (f2.toNat + i) ∧ t (f2.toNat + i) ≤ 122 := by
  subst hf
  exact x_lt_e h0 hx hl h hy
/-! the class's plan -/
theorem x_find_c {g g2 : Nat → Int} {v : Int} : ∀ n k, (∀ i, k ≤ i → i < k + n → g i = g2 i) → x_find g v n k = x_find g2 v n k
  | 0, _, _ => rfl
  | n + 1, k, h => by rw [x_find, x_find, h k (Nat.le_refl _) (by omega), x_find_c n (k + 1) (fun i h1 h2 => h i (by omega) (by omega))]
noncomputable def PLc (M : mm_M) (p : Nat) (s : x_S) : Prop := x_G s ∧ (M.2.1 p 0).toInt = s.1 ∧ (M.2.1 p 2).toInt = s.2.1 ∧ (M.2.1 p 3).toInt = s.2.2.1 ∧ M.2.2.1 p 4 = s.2.2.2.1 ∧ (∀ r k : Nat, 1 ≤ r → r ≤ 5 → (k : Int) < s.2.1 → (M.2.1 (p + r) k).toInt = s.2.2.2.2 r k) ∧ (∀ r k : Nat, 6 ≤ r → r ≤ 7 → (k : Int) < s.2.2.1 → (M.2.1 (p + r) k).toInt = s.2.2.2.2 r k)
theorem PLc_f {M M1 : mm_M} {p : Nat} {s : x_S} (h : ∀ a i : Nat, (a = p ∧ (i = 0 ∨ i = 2 ∨ i = 3) ∨ p + 1 ≤ a ∧ a ≤ p + 5 ∧ (i : Int) < s.2.1 ∨ p + 6 ≤ a ∧ a ≤ p + 7 ∧ (i : Int) < s.2.2.1) → M1.2.1 a i = M.2.1 a i) (hl : M1.2.2.1 p 4 = M.2.2.1 p 4) (H : PLc M p s) : PLc M1 p s := by
  obtain ⟨h0, h1, h2, h3, h4, h5, h6⟩ := H
  exact ⟨h0, by rw [h p 0 (by omega)]; exact h1, by rw [h p 2 (by omega)]; exact h2, by rw [h p 3 (by omega)]; exact h3, by rw [hl]; exact h4, fun r k a b c => by rw [h (p + r) k (by omega)]; exact h5 r k a b c, fun r k a b c => by rw [h (p + r) k (by omega)]; exact h6 r k a b c⟩
theorem PLc_n {M : mm_M} {p : Nat} {s : x_S} {v : Int} {n : Int} (H : PLc M p s) (hn : n = s.2.1) : x_find (fun k => (M.2.1 (p + 1) k).toInt) v n.toNat 0 = x_fn s 1 v := by
  unfold x_fn
  rw [if_pos (by decide), hn]
  exact x_find_c _ 0 (fun i h1 h2 => H.2.2.2.2.2.1 1 i (by decide) (by decide) (by omega))
theorem PLc_w {M : mm_M} {p : Nat} {s : x_S} {v : Int} {n : Int} (H : PLc M p s) (hn : n = s.2.2.1) : x_find (fun k => (M.2.1 (p + 6) k).toInt) v n.toNat 0 = x_fn s 6 v := by
  unfold x_fn
  rw [if_neg (by decide), hn]
  exact x_find_c _ 0 (fun i h1 h2 => H.2.2.2.2.2.2 6 i (by decide) (by decide) (by omega))
theorem CS_u {M : mm_M} {t : Nat → Int} {nn a : Int} (H : CS M t nn) (e : (M.2.1 1 9).toInt = a) : x_C (x_kind t nn a) (x_val t nn a) (M.2.1 1 7).toInt (M.2.1 1 8).toInt ∧ 0 ≤ a ∧ a ≤ nn := e ▸ CS_c H
theorem x_kx_w (v : Int) : (x_kx v = 0 ↔ v = 284563040) ∧ (x_kx v = 1 ↔ v = 210940032) ∧ (x_kx v = 2 ↔ v = 788074496) := by
  refine ⟨⟨fun h => ?_, fun h => by rw [h]; rfl⟩, ⟨fun h => ?_, fun h => by rw [h]; rfl⟩, ⟨fun h => ?_, fun h => by rw [h]; rfl⟩⟩
  · rcases x_kx_c h (by decide) with z | z | z | z | z | z | z | z | z | z | z | z | z | z | z <;> omega
  · rcases x_kx_c h (by decide) with z | z | z | z | z | z | z | z | z | z | z | z | z | z | z <;> omega
  · rcases x_kx_c h (by decide) with z | z | z | z | z | z | z | z | z | z | z | z | z | z | z <;> omega
theorem x_kx_s (v : Int) : (x_kx v = 3 ↔ v = 518160384) ∧ (x_kx v = 4 ↔ v = 659999744) ∧ (x_kx v = 5 ↔ v = 538233440) ∧ (x_kx v = 6 ↔ v = 404000768) := by
  refine ⟨⟨fun h => ?_, fun h => by rw [h]; rfl⟩, ⟨fun h => ?_, fun h => by rw [h]; rfl⟩, ⟨fun h => ?_, fun h => by rw [h]; rfl⟩, ⟨fun h => ?_, fun h => by rw [h]; rfl⟩⟩
  · rcases x_kx_c h (by decide) with z | z | z | z | z | z | z | z | z | z | z | z | z | z | z <;> omega
  · rcases x_kx_c h (by decide) with z | z | z | z | z | z | z | z | z | z | z | z | z | z | z <;> omega
  · rcases x_kx_c h (by decide) with z | z | z | z | z | z | z | z | z | z | z | z | z | z | z <;> omega
  · rcases x_kx_c h (by decide) with z | z | z | z | z | z | z | z | z | z | z | z | z | z | z <;> omega
theorem x_free_e {M : mm_M} {p : Nat} {s : x_S} {v f l : Int32} (H : PLc M p s) (hv : v.toInt = l.toInt - f.toInt + 1) : x_eq (M.2.2.1 p 4 &&& (((1 : Int64) <<< (v.toInt64 &&& 63)) - 1) <<< (f.toInt64 &&& 63)) 0 = x_free s f.toInt l.toInt := by
  rw [H.2.2.2.2.1, x_sh_e hv, x_sh_e (rfl : f.toInt = f.toInt)]
  rfl
theorem x_fn_v {s : x_S} {r : Nat} {v w : Int} : v = w → x_fn s r v = x_fn s r w := fun h => by rw [h]
theorem x_or_e {M : mm_M} {p : Nat} {s : x_S} {v f : Int32} {f2 l2 : Int} (H : PLc M p s) (hv : v.toInt = l2 - f2 + 1) (hf : f.toInt = f2) : M.2.2.1 p 4 ||| (((1 : Int64) <<< (v.toInt64 &&& 63)) - 1) <<< (f.toInt64 &&& 63) = s.2.2.2.1 ||| x_bw f2 l2 := by
  rw [H.2.2.2.2.1, x_sh_e hv, x_sh_e hf]
  rfl
theorem PLc_p {M M1 M2 : mm_M} {p : Nat} {s : x_S} {v : Int32} {X : Int64} {nm kd f l c : Int} (H : PLc M p s) (WL : M1 = mm_setL M p 4 X) (W : M2 = mm_setI M1 p 2 v) (hX : X = s.2.2.2.1 ||| x_bw f l) (hv : v.toInt = s.2.1 + 1) (hF : s.2.1 ≤ 7) (r1 : (M.2.1 (p + 1) s.2.1.toNat).toInt = nm) (r2 : (M.2.1 (p + 2) s.2.1.toNat).toInt = kd) (r3 : (M.2.1 (p + 3) s.2.1.toNat).toInt = f) (r4 : (M.2.1 (p + 4) s.2.1.toNat).toInt = l) (r5 : (M.2.1 (p + 5) s.2.1.toNat).toInt = c) (h1 : 0 ≤ kd ∧ kd ≤ 3) (h2 : 0 ≤ f ∧ f ≤ l ∧ l ≤ 59 ∧ l - f ≤ 23) (h3 : 1 ≤ c ∧ c ≤ 24) (h4 : kd = 3 → c ≤ 4) : PLc M2 p (x_push s nm kd f l c) := by
  obtain ⟨a0, a1, a2, a3, a4, a5, a6⟩ := H
  have nf : ∀ a i : Nat, ¬ (a = p ∧ i = 2) → M2.2.1 a i = M.2.1 a i := fun a i h => W_n W h (W_l WL rfl)
  refine ⟨x_G_p a0 hF h1 h2 h3 h4, by rw [nf p 0 (by omega)]; exact a1, by rw [W_e W]; exact hv, by rw [nf p 3 (by omega)]; exact a3, ?_, fun r k g1 g2 g3 => ?_, fun r k g1 g2 g3 => ?_⟩
  · rw [W_j W (L_e WL), hX]
    rfl
  · rw [nf (p + r) k (by omega)]
    have g3 : (k : Int) < s.2.1 + 1 := g3
    show _ = if r ≤ 5 ∧ (k : Int) = s.2.1 then (if r = 1 then nm else if r = 2 then kd else if r = 3 then f else if r = 4 then l else c) else s.2.2.2.2 r k
    by_cases g : (k : Int) = s.2.1
    · have ek : k = s.2.1.toNat := by omega
      rw [if_pos ⟨g2, g⟩, ek]
      rcases (show r = 1 ∨ r = 2 ∨ r = 3 ∨ r = 4 ∨ r = 5 by omega) with rfl | rfl | rfl | rfl | rfl
      · exact r1
      · exact r2
      · exact r3
      · exact r4
      · exact r5
    · rw [if_neg (fun z => g z.2)]
      exact a5 r k g1 g2 (by omega)
  · rw [nf (p + r) k (by omega)]
    show _ = if r ≤ 5 ∧ (k : Int) = s.2.1 then _ else s.2.2.2.2 r k
    rw [if_neg (fun z => by omega)]
    exact a6 r k g1 g2 g3
theorem x_val_b {t : Nat → Int} {nn a : Int} : x_kind t nn a = 3 → 0 ≤ x_val t nn a ∧ x_val t nn a ≤ 100 := by
  intro h
  by_cases g : nn ≤ a
  · exact absurd h (by rw [(x_t0 g).1]; decide)
  · by_cases g2 : 97 ≤ t a.toNat ∧ t a.toNat ≤ 122
    · exfalso
      have q := (x_tl (t := t) (n := nn) (a := a) (by omega) g2).1
      rw [q] at h
      revert h
      split
      · omega
      · split <;> omega
    · by_cases g3 : 48 ≤ t a.toNat ∧ t a.toNat ≤ 57
      · rw [(x_td (t := t) (n := nn) (a := a) (by omega) g3).2.1]
        exact x_num_b (by decide) (by decide)
      · exfalso
        have q := (x_ts (t := t) (n := nn) (a := a) (by omega) g2 g3).1
        rw [q] at h
        revert h
        split <;> omega
