/-! a question that is read is well formed -/
noncomputable def x_bi : List Int → Nat
  | [] => 0
  | w :: ws => (if w = 3 ∨ w = 4 then 1 else 0) + x_bi ws
noncomputable def x_cz : List Int → Int
  | [] => 0
  | w :: ws => (if w = 0 then 1 else 0) + x_cz ws
noncomputable def x_inq (W : List Int) : Prop := ∀ w ∈ W, w = 0 ∨ w = 2 ∨ w = 3 ∨ w = 4
noncomputable def GK (s : x_S) (P : x_GP) (i : Nat) : Prop := (P.1.1 i = 0 ∧ 0 ≤ P.1.2.1 i ∧ P.1.2.1 i < s.2.1 ∧ ¬ x_row s 2 (P.1.2.1 i) = 3 ∧ 0 ≤ P.1.2.2 i ∧ P.1.2.2 i < x_row s 5 (P.1.2.1 i)) ∨ (P.1.1 i = 1 ∧ 0 ≤ P.1.2.1 i ∧ P.1.2.1 i < s.2.2.1) ∨ (P.1.1 i = 2 ∧ 1 ≤ (x_hd P.1.1 i).length) ∨ ((P.1.1 i = 3 ∨ P.1.1 i = 4) ∧ 2 ≤ (x_hd P.1.1 i).length)
noncomputable def WFP (s : x_S) (P : x_GP) (d : Nat) : Prop := 0 ≤ P.2 ∧ (∀ i : Nat, (i : Int) < P.2 → GK s P i) ∧ (x_hd P.1.1 P.2.toNat).length = d
section WFS
variable {s : x_S} {P : x_GP} {d : Nat} {k f v l : Int} {W : List Int}
theorem GK_c {i : Nat} (h : GK s P i) (hi : i < P.2.toNat) : GK s (x_kn1 P k f v) i := by
  have e1 : (x_kn1 P k f v).1.1 i = P.1.1 i := by
    show (if i = P.2.toNat then k else P.1.1 i) = P.1.1 i
    rw [if_neg (by omega)]
  have e2 : (x_kn1 P k f v).1.2.1 i = P.1.2.1 i := by
    show (if i = P.2.toNat then f else P.1.2.1 i) = P.1.2.1 i
    rw [if_neg (by omega)]
  have e3 : (x_kn1 P k f v).1.2.2 i = P.1.2.2 i := by
    show (if i = P.2.toNat then v else P.1.2.2 i) = P.1.2.2 i
    rw [if_neg (by omega)]
  unfold GK
  rw [e1, e2, e3, x_kn1_hd i (by omega)]
  exact h
theorem WFP_k (H : WFP s P d) {d2 : Nat} (g : GK s (x_kn1 P k f v) P.2.toNat) (e : (if k = 0 ∨ k = 1 then P.2 :: x_hd P.1.1 P.2.toNat else if k = 2 then P.2 :: (x_hd P.1.1 P.2.toNat).tail else P.2 :: (x_hd P.1.1 P.2.toNat).tail.tail).length = d2) : WFP s (x_kn1 P k f v) d2 := by
  obtain ⟨h0, h1, h2⟩ := H
  refine ⟨?_, fun i hi => ?_, ?_⟩
  · show 0 ≤ P.2 + 1
    omega
  · have hi : (i : Int) < P.2 + 1 := hi
    by_cases q : i = P.2.toNat
    · rw [q]; exact g
    · exact GK_c (h1 i (by omega)) (by omega)
  · rw [x_hd_s h0]
    exact e
theorem kn1_n : (x_kn1 P k f v).1.1 P.2.toNat = k ∧ (x_kn1 P k f v).1.2.1 P.2.toNat = f ∧ (x_kn1 P k f v).1.2.2 P.2.toNat = v := by
  refine ⟨x_kn1_k, ?_, ?_⟩
  · show (if P.2.toNat = P.2.toNat then f else P.1.2.1 P.2.toNat) = f
    rw [if_pos rfl]
  · show (if P.2.toNat = P.2.toNat then v else P.1.2.2 P.2.toNat) = v
    rw [if_pos rfl]
theorem WFP_v (H : WFP s P d) (g : 0 ≤ f ∧ f < s.2.1 ∧ ¬ x_row s 2 f = 3 ∧ 0 ≤ v ∧ v < x_row s 5 f) : WFP s (x_kn1 P 0 f v) (d + 1) := by
  refine WFP_k H (Or.inl ?_) ?_
  · rw [kn1_n.1, kn1_n.2.1, kn1_n.2.2]
    exact ⟨rfl, g⟩
  · rw [if_pos (Or.inl rfl), List.length_cons, H.2.2]
theorem WFP_w (H : WFP s P d) (g : 0 ≤ f ∧ f < s.2.2.1) : WFP s (x_kn1 P 1 f v) (d + 1) := by
  refine WFP_k H (Or.inr (Or.inl ?_)) ?_
  · rw [kn1_n.1, kn1_n.2.1]
    exact ⟨rfl, g⟩
  · rw [if_pos (Or.inr rfl), List.length_cons, H.2.2]
theorem WFP_2 (H : WFP s P (d + 1)) : WFP s (x_kn1 P 2 f v) (d + 1) := by
  have l := H.2.2
  refine WFP_k H (Or.inr (Or.inr (Or.inl ?_))) ?_
  · rw [kn1_n.1, x_kn1_hd _ (Nat.le_refl _)]
    exact ⟨rfl, by omega⟩
  · rw [if_neg (by decide), if_pos rfl, List.length_cons, List.length_tail]
    omega
theorem WFP_b (H : WFP s P (d + 2)) (hk : k = 3 ∨ k = 4) : WFP s (x_kn1 P k f v) (d + 1) := by
  have l := H.2.2
  refine WFP_k H (Or.inr (Or.inr (Or.inr ?_))) ?_
  · rw [kn1_n.1, x_kn1_hd _ (Nat.le_refl _)]
    exact ⟨hk, by omega⟩
  · rw [if_neg (by omega), if_neg (by omega), List.length_cons, List.length_tail, List.length_tail]
    omega
theorem in_c {w : Int} (h : x_inq (w :: W)) : (w = 0 ∨ w = 2 ∨ w = 3 ∨ w = 4) ∧ x_inq W := ⟨h w List.mem_cons_self, fun x hx => h x (List.mem_cons_of_mem _ hx)⟩
theorem in_p {w : Int} (h : x_inq W) (hw : w = 0 ∨ w = 2 ∨ w = 3 ∨ w = 4) : x_inq (w :: W) := fun x hx => by
  rcases List.mem_cons.mp hx with q | q
  · rw [q]; exact hw
  · exact h x q
theorem bd_w (hl : 1 ≤ l) : ∀ (W : List Int) (P : x_GP), x_inq W → WFP s P (x_bi W + 1) → WFP s (x_bd l W P).2 (x_bi (x_bd l W P).1 + 1) ∧ x_inq (x_bd l W P).1 ∧ x_cz (x_bd l W P).1 = x_cz W
  | [], P, h, H => ⟨H, h, rfl⟩
  | w :: ws, P, h, H => by
    have c := in_c h
    have t := x_wt_c w
    by_cases g : l ≤ x_wt w
    · rw [bd_c g]
      have z : ¬ w = 0 := fun e => by
        have := t.2.2.2 (by omega)
        omega
      have e : x_cz (w :: ws) = x_cz ws := by
        show (if w = 0 then 1 else 0) + x_cz ws = _
        rw [if_neg z]
        omega
      rw [e]
      refine bd_w hl ws _ c.2 ?_
      by_cases q : w = 2
      · have e2 : x_bi (w :: ws) = x_bi ws := by
          show (if w = 3 ∨ w = 4 then 1 else 0) + x_bi ws = _
          rw [if_neg (by omega)]
          omega
        rw [e2] at H
        rw [q]
        exact WFP_2 H
      · have e2 : x_bi (w :: ws) = x_bi ws + 1 := by
          show (if w = 3 ∨ w = 4 then 1 else 0) + x_bi ws = _
          rw [if_pos (by omega)]
          omega
        rw [e2] at H
        exact WFP_b H (by omega)
    · rw [bd_n g]
      exact ⟨H, h, rfl⟩
theorem bd_z : ∀ (W : List Int) (P : x_GP), x_inq W → x_cz W = 0 → (x_bd 1 W P).1 = []
  | [], _, _, _ => rfl
  | w :: ws, P, h, hz => by
    have c := in_c h
    have t := x_wt_c w
    have hz : (if w = 0 then 1 else 0) + x_cz ws = 0 := hz
    have b : ∀ V : List Int, 0 ≤ x_cz V := fun V => by
      induction V with
      | nil => exact Int.le_refl _
      | cons x xs ih =>
        show 0 ≤ (if x = 0 then 1 else 0) + x_cz xs
        split <;> omega
    have b0 := b ws
    have z : ¬ w = 0 := fun e => by
      rw [if_pos e] at hz
      omega
    rw [if_neg z] at hz
    rw [bd_c (by omega)]
    exact bd_z ws _ c.2 (by omega)
theorem bd_t : ∀ (W : List Int) (P : x_GP), x_inq W → 0 < x_cz W → ∃ ws : List Int, (x_bd 1 W P).1 = 0 :: ws
  | [], _, _, hz => by
    have hz : (0 : Int) < 0 := hz
    omega
  | w :: ws, P, h, hz => by
    have c := in_c h
    have t := x_wt_c w
    have hz : 0 < (if w = 0 then 1 else 0) + x_cz ws := hz
    by_cases z : w = 0
    · subst z
      exact ⟨ws, by rw [bd_n (by have := t.2.2.2 (by omega); omega)]⟩
    · rw [if_neg z] at hz
      rw [bd_c (by omega)]
      exact bd_t ws _ c.2 (by omega)
variable {t : Nat → Int} {nn a : Int} {k1 k2 : x_GR} {R : x_GP}
theorem hi_n (h : x_hn t nn s a k1 k2 = .inr R) : ((0 ≤ x_fn s 1 (x_val t nn a) ∧ ¬ x_row s 2 (x_fn s 1 (x_val t nn a)) = 3 ∧ x_kind t nn (x_ns t nn (x_ns t nn a)) = 3 ∧ x_val t nn (x_ns t nn (x_ns t nn a)) ≤ x_row s 5 (x_fn s 1 (x_val t nn a)) - 1) ∧ k1 = .inr R) ∨ (0 ≤ x_fn s 6 (x_val t nn a) ∧ k2 = .inr R) := by
  unfold x_hn at h
  split at h
  · split at h
    · rename_i q
      unfold x_hv at h
      split at h
      · rename_i q2
        split at h
        · rename_i q3
          exact Or.inl ⟨⟨q.1, q.2, q2, q3⟩, h⟩
        · cases h
      · cases h
    · cases h
  · split at h
    · rename_i q
      exact Or.inr ⟨q, h⟩
    · cases h
theorem g_wfq (G : x_G s) : ∀ (fu : Nat) (tu br cn : Int) (W : List Int) (P : x_GP) (a : Int), 0 ≤ a → a ≤ nn → (nn + 1 - a).toNat ≤ fu → (tu = 0 ∨ tu = 1) → x_inq W → x_cz W = br → WFP s P (x_bi W + tu.toNat) → x_gg t nn s tu br cn W P a = .inr R → WFP s R 1
  | 0, _, _, _, _, _, a, h0, h1, h2, _, _, _, _, _ => by omega
  | fu + 1, tu, br, cn, W, P, a, h0, h1, h2, ht, hW, hb, H, h => by
    by_cases e : a < nn
    · have b1 := x_ns_lt (t := t) h0 e
      have b2 := x_ns_b (t := t) (n := nn) (a := x_ns t nn a) (by omega) (by omega)
      have b3 := x_ns_b (t := t) (n := nn) (a := x_ns t nn (x_ns t nn a)) (by omega) (by omega)
      rcases ht with ht | ht <;> subst ht
      · rw [x_gg_0 h0 h1] at h
        have H : WFP s P (x_bi W) := H
        unfold x_g0 at h
        split at h
        · split at h
          · cases h
          · refine g_wfq G fu 0 (br + 1) cn (0 :: W) P _ (by omega) (by omega) (by omega) (Or.inl rfl) (in_p hW (Or.inl rfl)) ?_ ?_ h
            · show (if (0 : Int) = 0 then 1 else 0) + x_cz W = br + 1
              rw [if_pos rfl]
              omega
            · show WFP s P ((if (0 : Int) = 3 ∨ (0 : Int) = 4 then 1 else 0) + x_bi W)
              rw [if_neg (by decide), Nat.zero_add]
              exact H
        · split at h
          · split at h
            · cases h
            · refine g_wfq G fu 0 br (cn + 1) (2 :: W) P _ (by omega) (by omega) (by omega) (Or.inl rfl) (in_p hW (Or.inr (Or.inl rfl))) ?_ ?_ h
              · show (if (2 : Int) = 0 then 1 else 0) + x_cz W = br
                rw [if_neg (by decide)]
                omega
              · show WFP s P ((if (2 : Int) = 3 ∨ (2 : Int) = 4 then 1 else 0) + x_bi W)
                rw [if_neg (by decide), Nat.zero_add]
                exact H
          · split at h
            · split at h
              · cases h
              · rcases hi_n h with ⟨q, h⟩ | ⟨q, h⟩
                · have fb := (x_fn_b (s := s) (v := x_val t nn a) G).2.2 q.1
                  have vb := (x_val_b (t := t) (nn := nn) (a := x_ns t nn (x_ns t nn a)) q.2.2.1).1
                  exact g_wfq G fu 1 br (cn + 1) W _ _ (by omega) (by omega) (by omega) (Or.inr rfl) hW hb (WFP_v H ⟨q.1, fb, q.2.1, vb, by omega⟩) h
                · have fb := (x_fn_b6 (s := s) (v := x_val t nn a) G).2.2 q
                  exact g_wfq G fu 1 br (cn + 1) W _ _ (by omega) (by omega) (by omega) (Or.inr rfl) hW hb (WFP_w H ⟨q, fb⟩) h
            · cases h
      · rw [x_gg_1 h0 h1] at h
        have H : WFP s P (x_bi W + 1) := H
        have w1 := bd_w (l := 1) (by decide) W P hW H
        have w2 := bd_w (l := 2) (by decide) W P hW H
        unfold x_g1 at h
        split at h
        · rename_i q
          injection h with h
          have z := bd_z W P hW (by omega)
          have w3 := w1.1
          rw [z, h] at w3
          exact w3
        · split at h
          · split at h
            · cases h
            · refine g_wfq G fu 0 br (cn + 1) _ _ _ (by omega) (by omega) (by omega) (Or.inl rfl) (in_p w2.2.1 (Or.inr (Or.inr (Or.inl rfl)))) ?_ ?_ h
              · show (if (3 : Int) = 0 then 1 else 0) + x_cz _ = br
                rw [if_neg (by decide), w2.2.2]
                omega
              · show WFP s _ ((if (3 : Int) = 3 ∨ (3 : Int) = 4 then 1 else 0) + x_bi _)
                rw [if_pos (Or.inl rfl), Nat.add_comm]
                exact w2.1
          · split at h
            · split at h
              · cases h
              · refine g_wfq G fu 0 br (cn + 1) _ _ _ (by omega) (by omega) (by omega) (Or.inl rfl) (in_p w1.2.1 (Or.inr (Or.inr (Or.inr rfl)))) ?_ ?_ h
                · show (if (4 : Int) = 0 then 1 else 0) + x_cz _ = br
                  rw [if_neg (by decide), w1.2.2]
                  omega
                · show WFP s _ ((if (4 : Int) = 3 ∨ (4 : Int) = 4 then 1 else 0) + x_bi _)
                  rw [if_pos (Or.inr rfl), Nat.add_comm]
                  exact w1.1
            · split at h
              · rename_i q
                obtain ⟨ws, hws⟩ := bd_t W P hW (by omega)
                have w3 := w1
                rw [hws] at w3 h
                have c := in_c w3.2.1
                have cz : (if (0 : Int) = 0 then 1 else 0) + x_cz ws = x_cz W := w3.2.2
                rw [if_pos rfl] at cz
                refine g_wfq G fu 1 (br - 1) cn ws _ _ (by omega) (by omega) (by omega) (Or.inr rfl) c.2 (by omega) ?_ h
                have w4 : WFP s (x_bd 1 W P).2 ((if (0 : Int) = 3 ∨ (0 : Int) = 4 then 1 else 0) + x_bi ws + 1) := w3.1
                rw [if_neg (by decide), Nat.zero_add] at w4
                exact w4
              · cases h
    · have k0 := (x_t0 (t := t) (n := nn) (a := a) (by omega)).1
      rcases ht with ht | ht <;> subst ht
      · rw [x_gg_0 h0 h1] at h
        unfold x_g0 at h
        rw [if_neg (by omega), if_neg (by omega), if_neg (by omega)] at h
        cases h
      · rw [x_gg_1 h0 h1] at h
        have H : WFP s P (x_bi W + 1) := H
        have w1 := bd_w (l := 1) (by decide) W P hW H
        unfold x_g1 at h
        split at h
        · rename_i q
          injection h with h
          have z := bd_z W P hW (by omega)
          have w3 := w1.1
          rw [z, h] at w3
          exact w3
        · rw [if_neg (by omega), if_neg (by omega), if_neg (by omega)] at h
          cases h
theorem g_wf0 (G : x_G s) (h0 : 0 ≤ a) (h1 : a ≤ nn) (h : x_gg t nn s 0 0 0 [] x_P0 a = .inr R) : WFP s R 1 :=
  g_wfq G _ 0 0 0 [] x_P0 a h0 h1 (Nat.le_refl _) (Or.inl rfl) (fun w hw => absurd hw List.not_mem_nil) rfl ⟨Int.le_refl _, fun i hi => by have hi : (i : Int) < 0 := hi; omega, rfl⟩ h
end WFS
/-- what a question's reading answers (behind a name, that omega doesn't look into it) -/
noncomputable def QGN (h n r : Int) (G : x_GR) (A : x_GP → Prop) : Prop := 0 ≤ n ∧ n ≤ h → (∃ f p : Int, G = Sum.inl (f, p) ∧ r = -1) ∨ ∃ P : x_GP, G = Sum.inr P ∧ r = P.2 ∧ A P
noncomputable def QGR (r : Int) (G : x_GR) (A B : x_GP → Prop) : Prop := r < 0 ∨ ∃ P : x_GP, G = Sum.inr P ∧ r = P.2 ∧ A P ∧ B P
