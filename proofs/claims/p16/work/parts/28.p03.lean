section XRC
variable {t : Nat → Int} {nn : Int} {s : x_S} {f nm b told : Int} {k : x_K} {fu : Nat} {bits : Int64}
theorem x_rc_n1 (h : x_kind t nn b = 3) (h2 : ¬ (told < x_row s 5 f ∧ x_val t nn b ≤ x_row s 4 f - x_row s 3 f ∧ x_hit bits (x_row s 3 f + x_val t nn b) = 1)) : x_rc t nn s f nm k fu told bits b = none := by
  cases fu with
  | zero => rfl
  | succ n => rw [x_rc, if_pos h, if_neg h2]
theorem x_rc_n2 (h : ¬ x_kind t nn b = 3) (h2 : ¬ told = x_row s 5 f) : x_rc t nn s f nm k fu told bits b = none := by
  cases fu with
  | zero => rfl
  | succ n => rw [x_rc, if_neg h, if_neg h2]
theorem x_rc_y (hf : 0 < fu) (h : ¬ x_kind t nn b = 3) (h2 : told = x_row s 5 f) : x_rc t nn s f nm k fu told bits b = k b (x_pushw s nm f bits.toInt) := by
  cases fu with
  | zero => omega
  | succ n => rw [x_rc, if_neg h, if_pos h2]
theorem x_rc_s {fu2 : Nat} {told2 b2 : Int} {bits2 : Int64} {E : x_Res} (hf : fu = fu2 + 1) (h : x_kind t nn b = 3) (h2 : told < x_row s 5 f ∧ x_val t nn b ≤ x_row s 4 f - x_row s 3 f ∧ x_hit bits (x_row s 3 f + x_val t nn b) = 1) (ht : told2 = told + 1) (hb : b2 = x_ns t nn b) (hbits : bits2 = bits ||| x_bit (x_row s 3 f + x_val t nn b)) (H : x_rc t nn s f nm k fu told bits b = E) : x_rc t nn s f nm k fu2 told2 bits2 b2 = E := by
  rw [ht, hb, hbits, ← H, hf, x_rc, if_pos h, if_pos h2]
end XRC
theorem x_hit_e {v : Int32} {h : Int} {bits : Int64} : v.toInt = h → x_eq (bits &&& ((1 : Int64) <<< (v.toInt64 &&& 63))) 0 = x_hit bits h := fun e => by
  rw [x_sh_e e]
  rfl
theorem x_bit_e {v : Int32} {h : Int} (e : v.toInt = h) : (1 : Int64) <<< (v.toInt64 &&& 63) = x_bit h := by
  rw [x_sh_e e]
  rfl
section XW
variable {t : Nat → Int} {nn a : Int} {s : x_S} {k : x_K}
theorem x_word_n (h : ¬ (s.2.2.1 < 12 ∧ x_kind t nn a = 2 ∧ 0 ≤ x_fn s 1 (x_val t nn a) ∧ x_row s 2 (x_fn s 1 (x_val t nn a)) = 3 ∧ x_kind t nn (x_ns t nn a) = 2 ∧ x_fn s 1 (x_val t nn (x_ns t nn a)) = -1 ∧ x_fn s 6 (x_val t nn (x_ns t nn a)) = -1)) : x_word t nn s a k = none := by
  unfold x_word
  split
  · unfold x_wn
    split
    · exfalso; omega
    · rfl
  · rfl
theorem x_word_y {f : Int} (h : s.2.2.1 < 12 ∧ x_kind t nn a = 2 ∧ 0 ≤ x_fn s 1 (x_val t nn a) ∧ x_row s 2 (x_fn s 1 (x_val t nn a)) = 3 ∧ x_kind t nn (x_ns t nn a) = 2 ∧ x_fn s 1 (x_val t nn (x_ns t nn a)) = -1 ∧ x_fn s 6 (x_val t nn (x_ns t nn a)) = -1) (hf : f = x_fn s 1 (x_val t nn a)) : x_word t nn s a k = x_rc t nn s f (x_val t nn (x_ns t nn a)) k 6 0 0 (x_ns t nn (x_ns t nn a)) := by
  unfold x_word
  rw [if_pos ⟨h.1, h.2.1, h.2.2.1, h.2.2.2.1⟩]
  unfold x_wn
  rw [if_pos h.2.2.2.2, hf]
theorem x_row_v {r : Nat} {x y : Int} : x = y → x_row s r x = x_row s r y := fun h => by rw [h]
variable {L : Int}
theorem x_line_n (h : ¬ (x_kind t nn a = 1 ∧ 0 ≤ x_kx (x_val t nn a) ∧ x_kx (x_val t nn a) ≤ 2)) : x_line t nn L s a k = none := by
  unfold x_line
  rw [if_neg (by omega), if_neg (by omega), if_neg (by omega)]
theorem x_line_t (h : ¬ (x_kx (x_val t nn a) = 0 ↔ L = 0)) (hL : 0 ≤ L) : x_line t nn L s a k = none := by
  unfold x_line
  rw [if_neg (by omega)]
  by_cases g : L = 0
  · rw [if_neg (by omega), if_neg (by omega)]
  · rw [if_neg (by omega), if_neg (by omega)]
theorem x_line_h (h : x_kind t nn a = 1) (h1 : x_kx (x_val t nn a) = 0) (h2 : L = 0) : x_line t nn L s a k = x_holes t nn s (x_ns t nn a) k := by
  unfold x_line
  rw [if_pos ⟨h, h1, h2⟩]
theorem x_line_f (h : x_kind t nn a = 1) (h1 : x_kx (x_val t nn a) = 1) (h2 : 0 < L) : x_line t nn L s a k = x_field t nn s (x_ns t nn a) k := by
  unfold x_line
  rw [if_neg (by omega), if_pos ⟨h, h1, h2⟩]
theorem x_line_w (h : x_kind t nn a = 1) (h1 : x_kx (x_val t nn a) = 2) (h2 : 0 < L) : x_line t nn L s a k = x_word t nn s (x_ns t nn a) k := by
  unfold x_line
  rw [if_neg (by omega), if_neg (by omega), if_pos ⟨h, h1, h2⟩]
theorem x_holes_n (h : ¬ (x_kind t nn a = 3 ∧ 10 ≤ x_val t nn a ∧ x_val t nn a ≤ 60)) : x_holes t nn s a k = none := by
  unfold x_holes
  rw [if_neg h]
theorem x_holes_y (h : x_kind t nn a = 3 ∧ 10 ≤ x_val t nn a ∧ x_val t nn a ≤ 60) : x_holes t nn s a k = k (x_ns t nn a) (x_val t nn a, s.2) := by
  unfold x_holes
  rw [if_pos h]
theorem x_plan_e {fu : Nat} (hf : 0 < fu) (h : x_kind t nn a = 0) : x_plan t nn fu L s a = some (L, s) := by
  cases fu with
  | zero => omega
  | succ n => rw [x_plan, if_pos h]
noncomputable def x_kk (t : Nat → Int) (nn : Int) (fu : Nat) (L : Int) : x_K := fun a2 s2 => if x_kind t nn a2 = 4 ∧ x_val t nn a2 = 59 then x_plan t nn fu (L + 1) s2 (x_ns t nn a2) else none
theorem x_plan_l {fu fu2 : Nat} (hf : fu = fu2 + 1) (h : ¬ x_kind t nn a = 0) : x_plan t nn fu L s a = x_line t nn L s a (x_kk t nn fu2 L) := by
  rw [hf, x_plan, if_neg h]
  rfl
theorem x_kk_n {fu : Nat} (h : ¬ (x_kind t nn a = 4 ∧ x_val t nn a = 59)) : x_kk t nn fu L a s = none := by
  unfold x_kk
  rw [if_neg h]
theorem x_kk_y {fu : Nat} (h : x_kind t nn a = 4 ∧ x_val t nn a = 59) : x_kk t nn fu L a s = x_plan t nn fu (L + 1) s (x_ns t nn a) := by
  unfold x_kk
  rw [if_pos h]
end XW
theorem x_G_h {s : x_S} {v : Int} (H : x_G s) (h : 10 ≤ v ∧ v ≤ 60) : x_G (v, s.2) := ⟨h.1, h.2, H.2.2⟩
theorem x_G_0 : x_G x_s0 := ⟨by decide, by decide, by decide, by decide, by decide, by decide, fun k h0 h1 => by have h1 : k < 0 := h1; omega, fun k h0 h1 => by have h1 : k < 0 := h1; omega⟩
theorem PLc_r {M : mm_M} {p : Nat} {s : x_S} {k : Int} {v : Int32} (H : PLc M p s) (r : Nat) (h1 : 1 ≤ r) (h2 : r ≤ 5) (h0 : 0 ≤ k) (hk : k < s.2.1) (hv : M.2.1 (p + r) k.toNat = v) : v.toInt = x_row s r k := by
  rw [← hv]
  exact H.2.2.2.2.2.1 r k.toNat h1 h2 (by omega)
theorem PLc_h {M M1 : mm_M} {p : Nat} {s : x_S} {v : Int32} {w : Int} (H : PLc M p s) (W : M1 = mm_setI M p 0 v) (hv : v.toInt = w) (h : 10 ≤ w ∧ w ≤ 60) : PLc M1 p (w, s.2) := by
  obtain ⟨a0, a1, a2, a3, a4, a5, a6⟩ := H
  have nf : ∀ a i : Nat, ¬ (a = p ∧ i = 0) → M1.2.1 a i = M.2.1 a i := fun a i h => W_n W h rfl
  exact ⟨x_G_h a0 h, by rw [W_e W]; exact hv, by rw [nf p 2 (by omega)]; exact a2, by rw [nf p 3 (by omega)]; exact a3, by rw [W_j W rfl]; exact a4, fun r k g1 g2 g3 => by rw [nf (p + r) k (by omega)]; exact a5 r k g1 g2 g3, fun r k g1 g2 g3 => by rw [nf (p + r) k (by omega)]; exact a6 r k g1 g2 g3⟩
theorem PLc_wp {M M1 : mm_M} {p : Nat} {s : x_S} {v : Int32} {nm f b : Int} (H : PLc M p s) (W : M1 = mm_setI M p 3 v) (hv : v.toInt = s.2.2.1 + 1) (hW : s.2.2.1 ≤ 11) (hf : 0 ≤ f ∧ f < s.2.1 ∧ x_row s 2 f = 3) (r6 : (M.2.1 (p + 6) s.2.2.1.toNat).toInt = nm) (r7 : (M.2.1 (p + 7) s.2.2.1.toNat).toInt = f) : PLc M1 p (x_pushw s nm f b) := by
  obtain ⟨a0, a1, a2, a3, a4, a5, a6⟩ := H
  have nf : ∀ a i : Nat, ¬ (a = p ∧ i = 3) → M1.2.1 a i = M.2.1 a i := fun a i h => W_n W h rfl
  refine ⟨x_G_w a0 hW hf, by rw [nf p 0 (by omega)]; exact a1, by rw [nf p 2 (by omega)]; exact a2, by rw [W_e W]; exact hv, by rw [W_j W rfl]; exact a4, fun r k g1 g2 g3 => ?_, fun r k g1 g2 g3 => ?_⟩
  · rw [nf (p + r) k (by omega)]
    show _ = if 6 ≤ r ∧ (k : Int) = s.2.2.1 then _ else s.2.2.2.2 r k
    rw [if_neg (fun z => by omega)]
    exact a5 r k g1 g2 g3
  · rw [nf (p + r) k (by omega)]
    have g3 : (k : Int) < s.2.2.1 + 1 := g3
    show _ = if 6 ≤ r ∧ (k : Int) = s.2.2.1 then (if r = 6 then nm else if r = 7 then f else b) else s.2.2.2.2 r k
    by_cases g : (k : Int) = s.2.2.1
    · have ek : k = s.2.2.1.toNat := by omega
      rw [if_pos ⟨g1, g⟩, ek]
      rcases (show r = 6 ∨ r = 7 by omega) with rfl | rfl
      · exact r6
      · exact r7
    · rw [if_neg (fun z => g z.2)]
      exact a6 r k g1 g2 (by omega)
theorem PLc_0 {M : mm_M} {p : Nat} (h0 : (M.2.1 p 0).toInt = 10) (h2 : (M.2.1 p 2).toInt = 0) (h3 : (M.2.1 p 3).toInt = 0) (h4 : M.2.2.1 p 4 = 0) : PLc M p x_s0 := ⟨x_G_0, h0, h2, h3, h4, fun r k _ _ g => by have g : (k : Int) < 0 := g; omega, fun r k _ _ g => by have g : (k : Int) < 0 := g; omega⟩
/-! the words' codes: longs -/
noncomputable def CW (M : mm_M) (p : Nat) (s : x_S) : Prop := ∀ k : Nat, (k : Int) < s.2.2.1 → (M.2.2.1 (p + 8) k).toInt = s.2.2.2.2 8 k
noncomputable def CWr (M : mm_M) (s : x_S) : Prop := ∀ k : Nat, (k : Int) < s.2.2.1 → (M.2.2.1 87 (12 + k)).toInt = s.2.2.2.2 8 k
noncomputable def CWk (M : mm_M) (s : x_S) : Prop := ∀ k : Nat, (k : Int) < s.2.2.1 → (M.2.2.1 87 k).toInt = s.2.2.2.2 8 k
theorem CW_f {M M1 : mm_M} {p : Nat} {s : x_S} (h : ∀ k : Nat, (k : Int) < s.2.2.1 → M1.2.2.1 (p + 8) k = M.2.2.1 (p + 8) k) (H : CW M p s) : CW M1 p s := fun k hk => by rw [h k hk]; exact H k hk
theorem CWr_f {M M1 : mm_M} {s : x_S} (h : ∀ k : Nat, (k : Int) < s.2.2.1 → M1.2.2.1 87 (12 + k) = M.2.2.1 87 (12 + k)) (H : CWr M s) : CWr M1 s := fun k hk => by rw [h k hk]; exact H k hk
theorem CWk_f {M M1 : mm_M} {s : x_S} (h : ∀ k : Nat, (k : Int) < s.2.2.1 → M1.2.2.1 87 k = M.2.2.1 87 k) (H : CWk M s) : CWk M1 s := fun k hk => by rw [h k hk]; exact H k hk
theorem CW_0 {M : mm_M} {p : Nat} : CW M p x_s0 := fun k hk => by have hk : (k : Int) < 0 := hk; omega
theorem CWr_0 {M : mm_M} : CWr M x_s0 := fun k hk => by have hk : (k : Int) < 0 := hk; omega
theorem CWk_0 {M : mm_M} : CWk M x_s0 := fun k hk => by have hk : (k : Int) < 0 := hk; omega
theorem CW_p {M : mm_M} {p : Nat} {s : x_S} {nm kd f l c : Int} (H : CW M p s) : CW M p (x_push s nm kd f l c) := fun k hk => by
  show _ = if (8 : Nat) ≤ 5 ∧ (k : Int) = s.2.1 then (if (8 : Nat) = 1 then nm else if (8 : Nat) = 2 then kd else if (8 : Nat) = 3 then f else if (8 : Nat) = 4 then l else c) else s.2.2.2.2 8 k
  rw [if_neg (fun z => by omega)]
  exact H k hk
theorem CWr_p {M : mm_M} {s : x_S} {nm kd f l c : Int} (H : CWr M s) : CWr M (x_push s nm kd f l c) := fun k hk => by
  show _ = if (8 : Nat) ≤ 5 ∧ (k : Int) = s.2.1 then (if (8 : Nat) = 1 then nm else if (8 : Nat) = 2 then kd else if (8 : Nat) = 3 then f else if (8 : Nat) = 4 then l else c) else s.2.2.2.2 8 k
  rw [if_neg (fun z => by omega)]
  exact H k hk
theorem CW_wp {M M1 : mm_M} {p : Nat} {s : x_S} {v : Int32} {nm f b : Int} (H : CW M p s) (W : M1 = mm_setI M p 3 v) (e : (M.2.2.1 (p + 8) s.2.2.1.toNat).toInt = b) : CW M1 p (x_pushw s nm f b) := fun k hk => by
  rw [W_j W rfl]
  have hk : (k : Int) < s.2.2.1 + 1 := hk
  show _ = if 6 ≤ (8 : Nat) ∧ (k : Int) = s.2.2.1 then (if (8 : Nat) = 6 then nm else if (8 : Nat) = 7 then f else b) else s.2.2.2.2 8 k
  by_cases g : (k : Int) = s.2.2.1
  · rw [if_pos ⟨by decide, g⟩, show k = s.2.2.1.toNat by omega]
    exact e
  · rw [if_neg (fun z => g z.2)]
    exact H k (by omega)
theorem CWr_wp {M M1 M2 M3 M4 : mm_M} {s : x_S} {X : Int64} {v1 v2 v : Int32} {j j2 i3 : Nat} {nm f b : Int} (H : CWr M s) (W1 : M1 = mm_setI M 85 j v1) (W2 : M2 = mm_setI M1 86 j2 v2) (W3 : M3 = mm_setL M2 87 i3 X) (W4 : M4 = mm_setI M3 77 16 v) (h3 : (i3 : Int) = 12 + s.2.2.1) (e : X.toInt = b) : CWr M4 (x_pushw s nm f b) := fun k hk => by
  have hk : (k : Int) < s.2.2.1 + 1 := hk
  show _ = if 6 ≤ (8 : Nat) ∧ (k : Int) = s.2.2.1 then (if (8 : Nat) = 6 then nm else if (8 : Nat) = 7 then f else b) else s.2.2.2.2 8 k
  by_cases g : (k : Int) = s.2.2.1
  · rw [if_pos ⟨by decide, g⟩, show 12 + k = i3 by omega, W_j W4 (L_e W3)]
    exact e
  · rw [if_neg (fun z => g z.2), W_j W4 (L_n W3 (by omega) (W_j W2 (W_j W1 rfl)))]
    exact H k (by omega)
noncomputable def PLc2 (M : mm_M) (p : Nat) (s : x_S) : Prop := PLc M p s ∧ CW M p s
/-! the plan's loop, on the class's side -/
noncomputable def LOK (t : Nat → Int) (nn : Int) (R : x_Res) (k : x_K) (M : mm_M) (p : Nat) (L : Int) (sg : x_S) : Prop := (∃ s2 : x_S, R = k (M.2.1 1 9).toInt s2 ∧ PLc2 M p s2 ∧ (L = 0 → s2.2.1 + s2.2.2.1 = sg.2.1 + sg.2.2.1) ∧ (0 < L → s2.2.1 + s2.2.2.1 = sg.2.1 + sg.2.2.1 + 1)) ∨ R = none ∧ ¬ (x_kind t nn (M.2.1 1 9).toInt = 4 ∧ x_val t nn (M.2.1 1 9).toInt = 59)
noncomputable def IVc (t : Nat → Int) (nn : Int) (R : x_Res) (M : mm_M) (p : Nat) (L : Int) (b : Int) : Prop := ∃ sg : x_S, PLc2 M p sg ∧ x_plan t nn (23 - L).toNat L sg b = R ∧ (L = 0 → sg.2.1 + sg.2.2.1 = 0) ∧ (0 < L → L = 1 + sg.2.1 + sg.2.2.1)
noncomputable def ROK (R : x_Res) (M : mm_M) (p : Nat) : Prop := ∃ s2 : x_S, R = some ((M.2.1 p 1).toInt, s2) ∧ PLc2 M p s2
theorem IVc_0 {t : Nat → Int} {nn a b L : Int} {M : mm_M} {p : Nat} (H : PLc2 M p x_s0) (hb : b = a) (hL : L = 0) : IVc t nn (x_plan t nn 23 0 x_s0 a) M p L b := by
  subst hb
  subst hL
  exact ⟨x_s0, H, rfl, fun _ => rfl, fun z => absurd z (by decide)⟩
theorem IVc_s {t : Nat → Int} {nn b b2 b3 L L2 : Int} {R : x_Res} {M M1 : mm_M} {p : Nat} {sg : x_S} (hL : 0 ≤ L) (hL2 : L ≤ 22) (h : x_plan t nn (23 - L).toNat L sg b = R) (hn : ¬ x_kind t nn b = 0) (c0 : L = 0 → sg.2.1 + sg.2.2.1 = 0) (c1 : 0 < L → L = 1 + sg.2.1 + sg.2.2.1) (H : LOK t nn (x_line t nn L sg b (x_kk t nn (22 - L).toNat L)) (x_kk t nn (22 - L).toNat L) M p L sg) (hb : (M.2.1 1 9).toInt = b2) (hs : x_kind t nn b2 = 4 ∧ x_val t nn b2 = 59) (hb3 : b3 = x_ns t nn b2) (h2 : L2 = L + 1) (tr : ∀ s, PLc2 M p s → PLc2 M1 p s) : IVc t nn R M1 p L2 b3 := by
  rcases H with ⟨s2, e1, j1, d0, d1⟩ | ⟨e1, e2⟩
  · refine ⟨s2, tr s2 j1, ?_, fun z => by exfalso; omega, fun _ => ?_⟩
    · rw [← h, x_plan_l (fu2 := (22 - L).toNat) (by omega) hn, e1, hb, x_kk_y hs, hb3, h2]
      congr 1
      omega
    · by_cases g : L = 0
      · have := d0 g; have := c0 g; omega
      · have := d1 (by omega); have := c1 (by omega); omega
  · rw [hb] at e2
    exact absurd hs e2
theorem IVc_n {t : Nat → Int} {nn b b2 L : Int} {R : x_Res} {M : mm_M} {p : Nat} {sg : x_S} (hL : 0 ≤ L) (hL2 : L ≤ 22) (h : x_plan t nn (23 - L).toNat L sg b = R) (hn : ¬ x_kind t nn b = 0) (H : LOK t nn (x_line t nn L sg b (x_kk t nn (22 - L).toNat L)) (x_kk t nn (22 - L).toNat L) M p L sg) (hb : (M.2.1 1 9).toInt = b2) (hs : ¬ (x_kind t nn b2 = 4 ∧ x_val t nn b2 = 59)) : R = none := by
  rw [← h, x_plan_l (fu2 := (22 - L).toNat) (by omega) hn]
  rcases H with ⟨s2, e1, j1, d0, d1⟩ | ⟨e1, e2⟩
  · rw [e1, hb, x_kk_n hs]
  · exact e1
theorem IVc_l {t : Nat → Int} {nn b L : Int} {R : x_Res} {sg : x_S} (hL : 0 ≤ L) (hL2 : L ≤ 22) (h : x_plan t nn (23 - L).toNat L sg b = R) (hn : ¬ x_kind t nn b = 0) (H : x_line t nn L sg b (x_kk t nn (22 - L).toNat L) = none) : R = none := by
  rw [← h, x_plan_l (fu2 := (22 - L).toNat) (by omega) hn]
  exact H
theorem IVc_e {t : Nat → Int} {nn b L : Int} {R : x_Res} {M1 : mm_M} {p : Nat} {sg : x_S} (hL2 : L ≤ 22) (h : x_plan t nn (23 - L).toNat L sg b = R) (hn : x_kind t nn b = 0) (H : PLc2 M1 p sg) (hl : (M1.2.1 p 1).toInt = L) : ROK R M1 p := ⟨sg, by rw [hl, ← h]; exact x_plan_e (by omega) hn, H⟩
/-! the reference's plan -/
theorem RS_u {M : mm_M} {t : Nat → Int} {nn a : Int} (H : RS M t nn) (e : (M.2.1 77 10).toInt = a) : x_R (x_kind t nn a) (x_val t nn a) (M.2.1 77 8).toInt (M.2.1 77 9).toInt := e ▸ H.2.2.2.2
theorem RS_b {M : mm_M} {t : Nat → Int} {nn a : Int} (H : RS M t nn) (e : (M.2.1 77 10).toInt = a) : (M.2.1 77 6).toInt = nn ∧ (M.2.1 77 7).toInt ≤ nn ∧ (M.2.1 77 7).toInt = x_nx t nn a ∧ 0 ≤ a ∧ a ≤ nn := by
  have b := x_nx_b (t := t) (n := nn) (a := a) (by rw [← e]; exact H.2.1) (by rw [← e]; exact H.2.2.1)
  have h := H.2.2.2.1
  rw [e] at h
  exact ⟨H.1, by omega, h, by rw [← e]; exact H.2.1, by rw [← e]; exact H.2.2.1⟩
theorem RS_s {M M1 : mm_M} {t : Nat → Int} {nn a : Int} (h : (M1.2.1 77 10).toInt = x_sk t nn (M.2.1 77 7).toInt) (e : (M.2.1 77 7).toInt = x_nx t nn a) : (M1.2.1 77 10).toInt = x_ns t nn a := by
  rw [h, e]
  rfl
noncomputable def PLr (M : mm_M) (s : x_S) : Prop := x_G s ∧ (M.2.1 77 14).toInt = s.1 ∧ (M.2.1 77 15).toInt = s.2.1 ∧ (M.2.1 77 16).toInt = s.2.2.1 ∧ M.2.2.1 77 25 = s.2.2.2.1 ∧ (∀ r k : Nat, 1 ≤ r → r ≤ 5 → (k : Int) < s.2.1 → (M.2.1 (79 + r) (8 + k)).toInt = s.2.2.2.2 r k) ∧ (∀ r k : Nat, 6 ≤ r → r ≤ 7 → (k : Int) < s.2.2.1 → (M.2.1 (79 + r) (12 + k)).toInt = s.2.2.2.2 r k)
theorem PLr_f {M M1 : mm_M} {s : x_S} (h : ∀ a i : Nat, (a = 77 ∧ 14 ≤ i ∧ i ≤ 16 ∨ 80 ≤ a ∧ a ≤ 84 ∧ 8 ≤ i ∧ (i : Int) < s.2.1 + 8 ∨ 85 ≤ a ∧ a ≤ 86 ∧ 12 ≤ i ∧ (i : Int) < s.2.2.1 + 12) → M1.2.1 a i = M.2.1 a i) (hl : M1.2.2.1 77 25 = M.2.2.1 77 25) (H : PLr M s) : PLr M1 s := by
  obtain ⟨h0, h1, h2, h3, h4, h5, h6⟩ := H
  exact ⟨h0, by rw [h 77 14 (by omega)]; exact h1, by rw [h 77 15 (by omega)]; exact h2, by rw [h 77 16 (by omega)]; exact h3, by rw [hl]; exact h4, fun r k a b c => by rw [h (79 + r) (8 + k) (by omega)]; exact h5 r k a b c, fun r k a b c => by rw [h (79 + r) (12 + k) (by omega)]; exact h6 r k a b c⟩
theorem PLr_r {M : mm_M} {s : x_S} {i k : Int} {v : Int32} (H : PLr M s) (r : Nat) (a : Nat) (ha : a = 79 + r) (h1 : 1 ≤ r) (h2 : r ≤ 5) (h0 : 0 ≤ k) (hk : k < s.2.1) (hi : i = 8 + k) (hv : M.2.1 a i.toNat = v) : v.toInt = x_row s r k := by
  rw [← hv, ha, show i.toNat = 8 + k.toNat by omega]
  exact H.2.2.2.2.2.1 r k.toNat h1 h2 (by omega)
theorem PLr_w {M : mm_M} {s : x_S} {i k : Int} {v : Int32} (H : PLr M s) (r : Nat) (a : Nat) (ha : a = 79 + r) (h1 : 6 ≤ r) (h2 : r ≤ 7) (h0 : 0 ≤ k) (hk : k < s.2.2.1) (hi : i = 12 + k) (hv : M.2.1 a i.toNat = v) : v.toInt = x_row s r k := by
  rw [← hv, ha, show i.toNat = 12 + k.toNat by omega]
  exact H.2.2.2.2.2.2 r k.toNat h1 h2 (by omega)
theorem x_fn_1 {s : x_S} {v : Int} : x_fn s 1 v = x_find (s.2.2.2.2 1) v s.2.1.toNat 0 := rfl
theorem x_fn_6 {s : x_S} {v : Int} : x_fn s 6 v = x_find (s.2.2.2.2 6) v s.2.2.1.toNat 0 := rfl
theorem PLr_0 {M : mm_M} (h0 : (M.2.1 77 14).toInt = 10) (h2 : (M.2.1 77 15).toInt = 0) (h3 : (M.2.1 77 16).toInt = 0) (h4 : M.2.2.1 77 25 = 0) : PLr M x_s0 := ⟨x_G_0, h0, h2, h3, h4, fun r k _ _ g => by have g : (k : Int) < 0 := g; omega, fun r k _ _ g => by have g : (k : Int) < 0 := g; omega⟩
theorem PLr_h {M M1 : mm_M} {s : x_S} {v : Int32} {w : Int} (H : PLr M s) (W : M1 = mm_setI M 77 14 v) (hv : v.toInt = w) (h : 10 ≤ w ∧ w ≤ 60) : PLr M1 (w, s.2) := by
  obtain ⟨a0, a1, a2, a3, a4, a5, a6⟩ := H
  have nf : ∀ a i : Nat, ¬ (a = 77 ∧ i = 14) → M1.2.1 a i = M.2.1 a i := fun a i h => W_n W h rfl
  exact ⟨x_G_h a0 h, by rw [W_e W]; exact hv, by rw [nf 77 15 (by omega)]; exact a2, by rw [nf 77 16 (by omega)]; exact a3, by rw [W_j W rfl]; exact a4, fun r k g1 g2 g3 => by rw [nf (79 + r) (8 + k) (by omega)]; exact a5 r k g1 g2 g3, fun r k g1 g2 g3 => by rw [nf (79 + r) (12 + k) (by omega)]; exact a6 r k g1 g2 g3⟩
/-- a field more: taken first, then the five rows, then how many -/
theorem PLr_p {M M0 M1 M2 M3 M4 M5 M6 : mm_M} {s : x_S} {X : Int64} {v1 v2 v3 v4 v5 v : Int32} {j : Nat} {nm kd f l c : Int} (H : PLr M s) (W0 : M0 = mm_setL M 77 25 X) (W1 : M1 = mm_setI M0 80 j v1) (W2 : M2 = mm_setI M1 81 j v2) (W3 : M3 = mm_setI M2 82 j v3) (W4 : M4 = mm_setI M3 83 j v4) (W5 : M5 = mm_setI M4 84 j v5) (W6 : M6 = mm_setI M5 77 15 v) (hj : (j : Int) = 8 + s.2.1) (hX : X = s.2.2.2.1 ||| x_bw f l) (hv : v.toInt = s.2.1 + 1) (hF : s.2.1 ≤ 7) (r1 : v1.toInt = nm) (r2 : v2.toInt = kd) (r3 : v3.toInt = f) (r4 : v4.toInt = l) (r5 : v5.toInt = c) (h1 : 0 ≤ kd ∧ kd ≤ 3) (h2 : 0 ≤ f ∧ f ≤ l ∧ l ≤ 59 ∧ l - f ≤ 23) (h3 : 1 ≤ c ∧ c ≤ 24) (h4 : kd = 3 → c ≤ 4) : PLr M6 (x_push s nm kd f l c) := by
  obtain ⟨a0, a1, a2, a3, a4, a5, a6⟩ := H
  have nf : ∀ a i : Nat, ¬ (a = 77 ∧ i = 15) → ¬ (80 ≤ a ∧ a ≤ 84 ∧ i = j) → M6.2.1 a i = M.2.1 a i := fun a i h h' => W_n W6 h (W_n W5 (by omega) (W_n W4 (by omega) (W_n W3 (by omega) (W_n W2 (by omega) (W_n W1 (by omega) (W_l W0 rfl))))))
  refine ⟨x_G_p a0 hF h1 h2 h3 h4, by rw [nf 77 14 (by omega) (by omega)]; exact a1, by rw [W_e W6]; exact hv, by rw [nf 77 16 (by omega) (by omega)]; exact a3, ?_, fun r k g1 g2 g3 => ?_, fun r k g1 g2 g3 => ?_⟩
  · rw [W_j W6 (W_j W5 (W_j W4 (W_j W3 (W_j W2 (W_j W1 (L_e W0))))))]
    exact hX
  · have g3 : (k : Int) < s.2.1 + 1 := g3
    show _ = if r ≤ 5 ∧ (k : Int) = s.2.1 then (if r = 1 then nm else if r = 2 then kd else if r = 3 then f else if r = 4 then l else c) else s.2.2.2.2 r k
    by_cases g : (k : Int) = s.2.1
    · have ek : 8 + k = j := by omega
      rw [if_pos ⟨g2, g⟩, ek]
      rcases (show r = 1 ∨ r = 2 ∨ r = 3 ∨ r = 4 ∨ r = 5 by omega) with rfl | rfl | rfl | rfl | rfl
      · rw [W_n W6 (by omega) (W_n W5 (by omega) (W_n W4 (by omega) (W_n W3 (by omega) (W_n W2 (by omega) (W_e W1)))))]; exact r1
      · rw [W_n W6 (by omega) (W_n W5 (by omega) (W_n W4 (by omega) (W_n W3 (by omega) (W_e W2))))]; exact r2
      · rw [W_n W6 (by omega) (W_n W5 (by omega) (W_n W4 (by omega) (W_e W3)))]; exact r3
      · rw [W_n W6 (by omega) (W_n W5 (by omega) (W_e W4))]; exact r4
      · rw [W_n W6 (by omega) (W_e W5)]; exact r5
    · rw [if_neg (fun z => g z.2), nf (79 + r) (8 + k) (by omega) (by omega)]
      exact a5 r k g1 g2 (by omega)
  · rw [nf (79 + r) (12 + k) (by omega) (by omega)]
    show _ = if r ≤ 5 ∧ (k : Int) = s.2.1 then _ else s.2.2.2.2 r k
    rw [if_neg (fun z => by omega)]
    exact a6 r k g1 g2 g3
theorem PLr_wp {M M1 M2 M3 M4 : mm_M} {s : x_S} {X : Int64} {v1 v2 v : Int32} {j j2 i3 : Nat} {nm f b : Int} (H : PLr M s) (W1 : M1 = mm_setI M 85 j v1) (W2 : M2 = mm_setI M1 86 j2 v2) (W3 : M3 = mm_setL M2 87 i3 X) (W4 : M4 = mm_setI M3 77 16 v) (hj : (j : Int) = 12 + s.2.2.1) (hj2 : (j2 : Int) = 12 + s.2.2.1) (hv : v.toInt = s.2.2.1 + 1) (hW : s.2.2.1 ≤ 11) (hf : 0 ≤ f ∧ f < s.2.1 ∧ x_row s 2 f = 3) (r1 : v1.toInt = nm) (r2 : v2.toInt = f) : PLr M4 (x_pushw s nm f b) := by
  have ej : j2 = j := by omega
  subst ej
  obtain ⟨a0, a1, a2, a3, a4, a5, a6⟩ := H
  have nf : ∀ a i : Nat, ¬ (a = 77 ∧ i = 16) → ¬ (85 ≤ a ∧ a ≤ 86 ∧ i = j2) → M4.2.1 a i = M.2.1 a i := fun a i h h' => W_n W4 h (W_l W3 (W_n W2 (by omega) (W_n W1 (by omega) rfl)))
  refine ⟨x_G_w a0 hW hf, by rw [nf 77 14 (by omega) (by omega)]; exact a1, by rw [nf 77 15 (by omega) (by omega)]; exact a2, by rw [W_e W4]; exact hv, ?_, fun r k g1 g2 g3 => ?_, fun r k g1 g2 g3 => ?_⟩
  · rw [W_j W4 (L_n W3 (by omega) (W_j W2 (W_j W1 rfl)))]
    exact a4
  · rw [nf (79 + r) (8 + k) (by omega) (by omega)]
    show _ = if 6 ≤ r ∧ (k : Int) = s.2.2.1 then _ else s.2.2.2.2 r k
    rw [if_neg (fun z => by omega)]
    exact a5 r k g1 g2 g3
  · have g3 : (k : Int) < s.2.2.1 + 1 := g3
    show _ = if 6 ≤ r ∧ (k : Int) = s.2.2.1 then (if r = 6 then nm else if r = 7 then f else b) else s.2.2.2.2 r k
    by_cases g : (k : Int) = s.2.2.1
    · have ek : 12 + k = j2 := by omega
      rw [if_pos ⟨g1, g⟩, ek]
      rcases (show r = 6 ∨ r = 7 by omega) with rfl | rfl
      · rw [W_n W4 (by omega) (W_l W3 (W_n W2 (by omega) (W_e W1)))]; exact r1
      · rw [W_n W4 (by omega) (W_l W3 (W_e W2))]; exact r2
    · rw [if_neg (fun z => g z.2), nf (79 + r) (12 + k) (by omega) (by omega)]
      exact a6 r k g1 g2 (by omega)
theorem x_bw_s {b h h2 : Int} {acc : Int64} {v : Int32} {E : Int64} (hv : v.toInt = h) (h0 : 0 ≤ h) (h1 : h ≤ b) (h2e : h2 = h + 1) (H : x_bwr (b + 1 - h).toNat acc h.toNat = E) : x_bwr (b + 1 - h2).toNat (acc ||| ((1 : Int64) <<< (v.toInt64 &&& 63))) h2.toNat = E := by
  rw [← H, show (b + 1 - h).toNat = (b + 1 - h2).toNat + 1 by omega, x_bwr, show h2.toNat = h.toNat + 1 by omega, x_bit_e hv, show ((h.toNat : Nat) : Int) = h by omega]
theorem x_bw_x {b h : Int} {acc E : Int64} (h1 : b < h) (H : x_bwr (b + 1 - h).toNat acc h.toNat = E) : acc = E := by
  rw [← H, show (b + 1 - h).toNat = 0 by omega]
  rfl
theorem x_free_r {M : mm_M} {s : x_S} {X : Int64} {f l : Int} (H : PLr M s) (hX : X = x_bw f l) : x_eq (M.2.2.1 77 25 &&& X) 0 = x_free s f l := by
  rw [H.2.2.2.2.1, hX]
  rfl
theorem x_or_r {M : mm_M} {s : x_S} {X : Int64} {f l : Int} (H : PLr M s) (hX : X = x_bw f l) : M.2.2.1 77 25 ||| X = s.2.2.2.1 ||| x_bw f l := by
  rw [H.2.2.2.2.1, hX]
theorem x_bt : ∀ h : Fin 60, ∀ j : Fin 64, ((1 : Int64) <<< ((Int32.ofInt (h.val : Int)).toInt64 &&& 63)).toBitVec.getLsbD j.val = decide (j.val = h.val) := by decide +kernel
noncomputable def PLr2 (M : mm_M) (s : x_S) : Prop := PLr M s ∧ CWr M s
/-- the reference keeps the codes that it has read -/
noncomputable def KL (N M : mm_M) (b : Nat) : Prop := (∀ j : Nat, j < b → N.2.2.1 87 j = M.2.2.1 87 (12 + j)) ∧ ∀ i : Nat, 12 ≤ i → N.2.2.1 87 i = M.2.2.1 87 i
theorem KL_0 {N M : mm_M} (h : ∀ i : Nat, N.2.2.1 87 i = M.2.2.1 87 i) : KL N M 0 := ⟨fun _ z => absurd z (Nat.not_lt_zero _), fun i _ => h i⟩
theorem KL_f {N N1 M : mm_M} {b : Nat} (h : ∀ i : Nat, N1.2.2.1 87 i = N.2.2.1 87 i) (K : KL N M b) : KL N1 M b := ⟨fun j hj => by rw [h j]; exact K.1 j hj, fun i hi => by rw [h i]; exact K.2 i hi⟩
theorem KL_2 {N N1 N2 N3 M : mm_M} {b b2 i12 j1 j2 : Nat} {v1 v2 : Int32} {v3 : Int64} (K : KL N M b) (hb : b < 12) (h12 : i12 = 12 + b) (h2 : b2 = b + 1) (W1 : N1 = mm_setI N 85 j1 v1) (W2 : N2 = mm_setI N1 86 j2 v2) (e3 : N2.2.2.1 87 i12 = v3) (W3 : N3 = mm_setL N2 87 b v3) : KL N3 M b2 := by
  subst h12
  subst h2
  have nl : ∀ i : Nat, i ≠ b → N3.2.2.1 87 i = N.2.2.1 87 i := fun i h => L_n W3 (by omega) (W_j W2 (W_j W1 rfl))
  refine ⟨fun j hj => ?_, fun i hi => by rw [nl i (by omega)]; exact K.2 i hi⟩
  by_cases g : j = b
  · subst g
    rw [L_e W3, ← e3]
    exact (show N2.2.2.1 87 (12 + j) = N.2.2.1 87 (12 + j) from W_j W2 (W_j W1 rfl)).trans (K.2 (12 + j) (by omega))
  · rw [nl j g]
    exact K.1 j (by omega)
theorem CWk_e {N M : mm_M} {s : x_S} (K : KL N M 12) (hG : x_G s) (H : CWr M s) : CWk N s := fun k hk => by
  have w12 := hG.2.2.2.2.2.1
  rw [K.1 k (by omega)]
  exact H k hk
section LALE
variable {X : mm_X} {d mi pc : Nat} {ls st : List Value} {M : mm_M} {Q : Option Value → mm_M → Prop} {len a b : Nat} {ps : List Nat} {x : Int32} {A : Int}
theorem s_lalE {o n : Nat} (hc : mm_code mi pc = some (.laload, len, a, b, ps)) (hG : g_G M) (ho : (Nat.blt o 126 && Nat.beq (g_ty o) 101) = true) (hn : g_ln o = n) (ex : x.toInt = A) (h0 : 0 ≤ A) (h1 : A < (n : Int)) (h : ∀ v : Int64, M.2.2.1 o A.toNat = v → mm_T X d mi (pc + len) ls (.long v :: st) M Q) : mm_T X d mi pc ls (.int x :: .ref o :: st) M Q := by
  rw [Bool.and_eq_true] at ho
  have e : x.toNatClampNeg = A.toNat := by rw [← ex]; rfl
  exact to_lal hc (g_o hG (by rw [Bool.and_eq_true]; exact ho)) (by rw [g_l hG ho.1 hn]; exact i_ix ex h0 h1) (by rw [e]) (h _ rfl)
end LALE
/-! the reference's lines -/
noncomputable def FOr (R : x_Res) (k : x_K) (M : mm_M) (sg : x_S) : Prop := ∃ s2 : x_S, R = k (M.2.1 77 10).toInt s2 ∧ PLr2 M s2 ∧ s2.2.1 + s2.2.2.1 = sg.2.1 + sg.2.2.1 + 1
noncomputable def WOr (t : Nat → Int) (nn : Int) (R : x_Res) (k : x_K) (M : mm_M) (sg : x_S) : Prop := FOr R k M sg ∨ R = none ∧ ¬ (x_kind t nn (M.2.1 77 10).toInt = 4 ∧ x_val t nn (M.2.1 77 10).toInt = 59)
noncomputable def LOr (t : Nat → Int) (nn : Int) (R : x_Res) (fu : Nat) (L : Int) (M : mm_M) (sg : x_S) : Prop := ∃ s2 : x_S, R = x_plan t nn fu (L + 1) s2 (M.2.1 77 10).toInt ∧ PLr2 M s2 ∧ (L = 0 → s2.2.1 + s2.2.2.1 = sg.2.1 + sg.2.2.1) ∧ (0 < L → s2.2.1 + s2.2.2.1 = sg.2.1 + sg.2.2.1 + 1)
noncomputable def IVr (t : Nat → Int) (nn : Int) (R : x_Res) (M : mm_M) (L : Int) (b : Int) : Prop := ∃ sg : x_S, PLr2 M sg ∧ x_plan t nn (23 - L).toNat L sg b = R ∧ (L = 0 → sg.2.1 + sg.2.2.1 = 0) ∧ (0 < L → L = 1 + sg.2.1 + sg.2.2.1)
noncomputable def PAN (R : x_Res) (r : Int) : Prop := R = none ∧ r = -1 ∨ ∃ s2 : x_S, R = some (r, s2)
theorem PAN_u {R : x_Res} {r r2 : Int} (h : PAN R r) (h2 : PAN R r2) : r = r2 := by
  rcases h with ⟨a, b⟩ | ⟨s, a⟩ <;> rcases h2 with ⟨a2, b2⟩ | ⟨s2, a2⟩
  · rw [b, b2]
  · rw [a] at a2; exact absurd a2 (fun z => nomatch z)
  · rw [a] at a2; exact absurd a2 (fun z => nomatch z)
  · rw [a] at a2
    have := Option.some.inj a2
    exact congrArg Prod.fst this
section LN
variable {t : Nat → Int} {nn a b2 L : Int} {fu : Nat} {sg : x_S} {M M1 : mm_M} {R1 : x_Res}
theorem LOr_f (H : FOr R1 (x_kk t nn fu L) M sg) (hR : x_line t nn L sg a (x_kk t nn fu L) = R1) (hb : (M.2.1 77 10).toInt = b2) (hs : x_kind t nn b2 = 4 ∧ x_val t nn b2 = 59) (h1 : (M1.2.1 77 10).toInt = x_ns t nn b2) (hL : 0 < L) (tr : ∀ s, PLr2 M s → PLr2 M1 s) : LOr t nn (x_line t nn L sg a (x_kk t nn fu L)) fu L M1 sg := by
  obtain ⟨s2, e, j, c⟩ := H
  refine ⟨s2, ?_, tr s2 j, fun z => by exfalso; omega, fun _ => c⟩
  rw [hR, e, hb, x_kk_y hs, h1]
theorem LOr_fn (H : FOr R1 (x_kk t nn fu L) M sg) (hR : x_line t nn L sg a (x_kk t nn fu L) = R1) (hb : (M.2.1 77 10).toInt = b2) (hs : ¬ (x_kind t nn b2 = 4 ∧ x_val t nn b2 = 59)) : x_line t nn L sg a (x_kk t nn fu L) = none := by
  obtain ⟨s2, e, j, c⟩ := H
  rw [hR, e, hb, x_kk_n hs]
theorem LOr_w (H : WOr t nn R1 (x_kk t nn fu L) M sg) (hR : x_line t nn L sg a (x_kk t nn fu L) = R1) (hb : (M.2.1 77 10).toInt = b2) (hs : x_kind t nn b2 = 4 ∧ x_val t nn b2 = 59) (h1 : (M1.2.1 77 10).toInt = x_ns t nn b2) (hL : 0 < L) (tr : ∀ s, PLr2 M s → PLr2 M1 s) : LOr t nn (x_line t nn L sg a (x_kk t nn fu L)) fu L M1 sg := by
  rcases H with H | ⟨e1, e2⟩
  · exact LOr_f H hR hb hs h1 hL tr
  · rw [hb] at e2; exact absurd hs e2
theorem LOr_wn (H : WOr t nn R1 (x_kk t nn fu L) M sg) (hR : x_line t nn L sg a (x_kk t nn fu L) = R1) (hb : (M.2.1 77 10).toInt = b2) (hs : ¬ (x_kind t nn b2 = 4 ∧ x_val t nn b2 = 59)) : x_line t nn L sg a (x_kk t nn fu L) = none := by
  rcases H with H | ⟨e1, e2⟩
  · exact LOr_fn H hR hb hs
  · rw [hR, e1]
theorem LOr_h {s2 : x_S} (hR : x_line t nn L sg a (x_kk t nn fu L) = x_kk t nn fu L b2 s2) (hs : x_kind t nn b2 = 4 ∧ x_val t nn b2 = 59) (h1 : (M1.2.1 77 10).toInt = x_ns t nn b2) (hL : L = 0) (H : PLr2 M1 s2) (hc : s2.2.1 + s2.2.2.1 = sg.2.1 + sg.2.2.1) : LOr t nn (x_line t nn L sg a (x_kk t nn fu L)) fu L M1 sg := ⟨s2, by rw [hR, x_kk_y hs, h1], H, fun _ => hc, fun z => by exfalso; omega⟩
theorem LOr_hn {s2 : x_S} (hR : x_line t nn L sg a (x_kk t nn fu L) = x_kk t nn fu L b2 s2) (hs : ¬ (x_kind t nn b2 = 4 ∧ x_val t nn b2 = 59)) : x_line t nn L sg a (x_kk t nn fu L) = none := by rw [hR, x_kk_n hs]
theorem IVr_0 {b : Int} (H : PLr2 M x_s0) (hb : b = a) (hL : L = 0) : IVr t nn (x_plan t nn 23 0 x_s0 a) M L b := by
  subst hb
  subst hL
  exact ⟨x_s0, H, rfl, fun _ => rfl, fun z => absurd z (by decide)⟩
theorem IVr_s {R : x_Res} {b b3 L2 : Int} (hL : 0 ≤ L) (hL2 : L ≤ 22) (h : x_plan t nn (23 - L).toNat L sg b = R) (hn : ¬ x_kind t nn b = 0) (c0 : L = 0 → sg.2.1 + sg.2.2.1 = 0) (c1 : 0 < L → L = 1 + sg.2.1 + sg.2.2.1) (H : LOr t nn (x_line t nn L sg b (x_kk t nn (22 - L).toNat L)) (22 - L).toNat L M sg) (hb3 : b3 = (M.2.1 77 10).toInt) (h2 : L2 = L + 1) : IVr t nn R M L2 b3 := by
  obtain ⟨s2, e1, j1, d0, d1⟩ := H
  refine ⟨s2, j1, ?_, fun z => by exfalso; omega, fun _ => ?_⟩
  · rw [← h, x_plan_l (fu2 := (22 - L).toNat) (by omega) hn, e1, hb3, h2]
    congr 1
    omega
  · by_cases g : L = 0
    · have := d0 g; have := c0 g; omega
    · have := d1 (by omega); have := c1 (by omega); omega
theorem IVr_l {R : x_Res} {b : Int} (hL : 0 ≤ L) (hL2 : L ≤ 22) (h : x_plan t nn (23 - L).toNat L sg b = R) (hn : ¬ x_kind t nn b = 0) (H : x_line t nn L sg b (x_kk t nn (22 - L).toNat L) = none) : R = none := by
  rw [← h, x_plan_l (fu2 := (22 - L).toNat) (by omega) hn]
  exact H
theorem IVr_e {R : x_Res} {b r : Int} (hL2 : L ≤ 22) (h : x_plan t nn (23 - L).toNat L sg b = R) (hn : x_kind t nn b = 0) (hr : r = L) : PAN R r := Or.inr ⟨sg, by rw [hr, ← h]; exact x_plan_e (by omega) hn⟩
end LN
theorem x_bw_v {f l f2 l2 : Int} (h1 : f = f2) (h2 : l = l2) : x_bw f l = x_bw f2 l2 := by rw [h1, h2]
theorem x_smod_60 : ∀ h : Fin 60, (((Int32.ofInt (h.val : Int)).toInt64 &&& 63).toBitVec.smod 64).toNat = h.val := by decide +kernel
theorem x_bit_l {h : Nat} (hh : h < 60) (j : Nat) (hj : j < 64) : (x_bit (h : Int)).toBitVec.getLsbD j = decide (j = h) := x_bt ⟨h, hh⟩ ⟨j, hj⟩
theorem x_and_b {bits : Int64} {h : Nat} (hh : h < 60) : bits &&& x_bit (h : Int) = 0 ↔ bits.toBitVec.getLsbD h = false := by
  constructor
  · intro z
    have q : (bits &&& x_bit (h : Int)).toBitVec.getLsbD h = (0 : Int64).toBitVec.getLsbD h := by rw [z]
    rw [Int64.toBitVec_and, BitVec.getLsbD_and, x_bit_l hh h (by omega)] at q
    simpa using q
  · intro z
    apply Int64.toBitVec_inj.mp
    apply BitVec.eq_of_getLsbD_eq
    intro j hj
    rw [Int64.toBitVec_and, BitVec.getLsbD_and, x_bit_l hh j hj]
    by_cases g : j = h
    · rw [g, z]; simp
    · simp [g]
theorem x_shr_b {bits : Int64} {h : Nat} (hh : h < 60) : (bits >>> ((Int32.ofInt (h : Int)).toInt64 &&& 63)) &&& 1 = 1 ↔ bits.toBitVec.getLsbD h = true := by
  have e : ∀ j, j < 64 → ((bits >>> ((Int32.ofInt (h : Int)).toInt64 &&& 63)) &&& 1).toBitVec.getLsbD j = (bits.toBitVec.getLsbD h && decide (j = 0)) := fun j hj => by
    rw [Int64.toBitVec_and, BitVec.getLsbD_and, Int64.toBitVec_shiftRight]
    have q : (((Int32.ofInt (h : Int)).toInt64 &&& 63).toBitVec.smod 64).toNat = h := x_smod_60 ⟨h, hh⟩
    have o : (1 : Int64).toBitVec.getLsbD j = decide (j = 0) := by
      show (1#64).getLsbD j = _
      rw [BitVec.getLsbD_one]; simp
    show ((bits.toBitVec.sshiftRight (((Int32.ofInt (h : Int)).toInt64 &&& 63).toBitVec.smod 64).toNat).getLsbD j && (1 : Int64).toBitVec.getLsbD j) = _
    rw [q, o]
    by_cases g : j = 0
    · subst g
      rw [BitVec.getLsbD_sshiftRight]
      simp
      intro z; omega
    · simp [g]
  constructor
  · intro z
    have q := e 0 (by decide)
    rw [z] at q
    simpa using q.symm
  · intro z
    apply Int64.toBitVec_inj.mp
    apply BitVec.eq_of_getLsbD_eq
    intro j hj
    rw [e j hj, z]
    show _ = (1#64).getLsbD j
    rw [BitVec.getLsbD_one]; simp
theorem x_hit_r {bits : Int64} {h : Int} {v : Int32} : v.toInt = h → 0 ≤ h → h ≤ 59 → (x_eq ((bits >>> (v.toInt64 &&& 63)) &&& 1) 1 = 1 ↔ x_hit bits h = 0) := by
  intro hv h0 h1
  have ev : v = Int32.ofInt ((h.toNat : Nat) : Int) := by rw [show ((h.toNat : Nat) : Int) = h by omega, ← hv, Int32.ofInt_toInt]
  rw [x_eq_1, ev, x_shr_b (by omega : h.toNat < 60)]
  have k : x_hit bits h = 1 ↔ bits.toBitVec.getLsbD h.toNat = false := by
    unfold x_hit
    rw [x_eq_1, show h = ((h.toNat : Nat) : Int) by omega, x_and_b (by omega : h.toNat < 60)]
    rw [show ((h.toNat : Nat) : Int).toNat = h.toNat by omega]
  have b : 0 ≤ x_hit bits h ∧ x_hit bits h ≤ 1 := x_eq_b
  cases g : bits.toBitVec.getLsbD h.toNat with
  | true =>
    have : ¬ x_hit bits h = 1 := fun z => by rw [k.mp z] at g; exact absurd g (by decide)
    exact ⟨fun _ => by omega, fun _ => rfl⟩
  | false =>
    have := k.mpr g
    exact ⟨fun z => absurd z (by decide), fun z => by omega⟩
theorem x_hit_b {bits : Int64} {h : Int} : 0 ≤ x_hit bits h ∧ x_hit bits h ≤ 1 := x_eq_b
/-! the tape -/
theorem b_255 (z : Int32) : z.toInt8.toInt32 &&& 255 = z &&& 255 := by
  apply Int32.toBitVec_inj.mp
  apply BitVec.eq_of_getLsbD_eq
  intro j hj
  rw [Int32.toBitVec_and, Int32.toBitVec_and, BitVec.getLsbD_and, BitVec.getLsbD_and, Int8.toBitVec_toInt32, Int32.toBitVec_toInt8, BitVec.getLsbD_signExtend, BitVec.getLsbD_signExtend]
  by_cases g : j < 8
  · simp [g, hj]
  · have e : (255 : Int32).toBitVec.getLsbD j = false := by
      show (255#32).getLsbD j = false
      rw [BitVec.getLsbD_ofNat]
      have : Nat.testBit 255 j = false := Nat.testBit_lt_two_pow (Nat.lt_of_lt_of_le (by decide : 255 < 2 ^ 8) (Nat.pow_le_pow_right (by decide) (by omega)))
      rw [this, Bool.and_false]
    rw [e, Bool.and_false, Bool.and_false]
noncomputable def x_by (x : Int32) (j : Int) : Int32 := (x >>> Int32.ofInt (24 - 8 * j)) &&& 255
noncomputable def x_fb (a b c d e : Int32) (k : Nat) : Int32 := x_by (if k < 4 then a else if k < 8 then b else if k < 12 then c else if k < 16 then d else e) ((k % 4 : Nat) : Int)
theorem x_by_e {x v y z : Int32} {j : Int} (hv : v.toInt = 24 - 8 * j) (e1 : x >>> v = y) (e2 : y &&& 255 = z) : z = x_by x j := by
  rw [← e2, ← e1, x_i32 hv]
  rfl
theorem x_by_b {x v y : Int32} {j : Int} (hv : v.toInt = 24 - 8 * j) (e1 : x >>> v = y) : y.toInt8.toInt32.toInt8.toInt32 &&& 255 = x_by x j := by
  rw [b_255, b_255, ← e1, x_i32 hv]
  rfl
noncomputable def AP (M M1 : mm_M) (x : Int32) : Prop := (M1.2.1 1 1).toInt = (M.2.1 1 1).toInt + 4 ∧ (∀ k : Nat, (k : Int) < (M.2.1 1 1).toInt → M1.2.1 2 k = M.2.1 2 k) ∧ ∀ j : Nat, j < 4 → M1.2.1 2 ((M.2.1 1 1).toInt.toNat + j) &&& 255 = x_by x j
noncomputable def FD (M M1 : mm_M) (a b c d e : Int32) : Prop := (∀ k : Nat, (k : Int) < (M.2.1 1 1).toInt → M1.2.1 2 k = M.2.1 2 k) ∧ ((M.2.1 1 1).toInt ≤ 480 → ∀ k : Nat, k < 20 → M1.2.1 2 ((M.2.1 1 1).toInt.toNat + k) &&& 255 = x_fb a b c d e k)
noncomputable def FDr (M M1 : mm_M) (a b c d e : Int32) : Prop := (∀ k : Nat, (k : Int) < (M.2.1 77 1).toInt → M1.2.1 78 k = M.2.1 78 k) ∧ ((M.2.1 77 1).toInt ≤ 480 → ∀ k : Nat, k < 20 → M1.2.1 78 ((M.2.1 77 1).toInt.toNat + k) = x_fb a b c d e k)
theorem FD_0 {M : mm_M} {a b c d e : Int32} (h : 480 < (M.2.1 1 1).toInt) : FD M M a b c d e := ⟨fun _ _ => rfl, fun z => by exfalso; omega⟩
theorem FDr_0 {M M1 : mm_M} {a b c d e : Int32} (h : 480 < (M.2.1 77 1).toInt) (hs : ∀ k, M1.2.1 78 k = M.2.1 78 k) : FDr M M1 a b c d e := ⟨fun k _ => hs k, fun z => by exfalso; omega⟩
theorem FD_5 {M M1 M2 M3 M4 M5 : mm_M} {a b c d e : Int32} (h0 : 0 ≤ (M.2.1 1 1).toInt) (A1 : AP M M1 a) (A2 : AP M1 M2 b) (A3 : AP M2 M3 c) (A4 : AP M3 M4 d) (A5 : AP M4 M5 e) : FD M M5 a b c d e := by
  obtain ⟨p1, q1, r1⟩ := A1
  obtain ⟨p2, q2, r2⟩ := A2
  obtain ⟨p3, q3, r3⟩ := A3
  obtain ⟨p4, q4, r4⟩ := A4
  obtain ⟨p5, q5, r5⟩ := A5
  refine ⟨fun k hk => ?_, fun _ k hk => ?_⟩
  · rw [q5 k (by omega), q4 k (by omega), q3 k (by omega), q2 k (by omega), q1 k hk]
  · unfold x_fb
    by_cases g1 : k < 4
    · rw [if_pos g1, q5 _ (by omega), q4 _ (by omega), q3 _ (by omega), q2 _ (by omega), r1 k g1, show k % 4 = k by omega]
    · rw [if_neg g1]
      by_cases g2 : k < 8
      · have e1 : (M.2.1 1 1).toInt.toNat + k = (M1.2.1 1 1).toInt.toNat + (k - 4) := by omega
        rw [if_pos g2, q5 _ (by omega), q4 _ (by omega), q3 _ (by omega), e1, r2 (k - 4) (by omega), show k % 4 = k - 4 by omega]
      · rw [if_neg g2]
        by_cases g3 : k < 12
        · have e1 : (M.2.1 1 1).toInt.toNat + k = (M2.2.1 1 1).toInt.toNat + (k - 8) := by omega
          rw [if_pos g3, q5 _ (by omega), q4 _ (by omega), e1, r3 (k - 8) (by omega), show k % 4 = k - 8 by omega]
        · rw [if_neg g3]
          by_cases g4 : k < 16
          · have e1 : (M.2.1 1 1).toInt.toNat + k = (M3.2.1 1 1).toInt.toNat + (k - 12) := by omega
            rw [if_pos g4, q5 _ (by omega), e1, r4 (k - 12) (by omega), show k % 4 = k - 12 by omega]
          · have e1 : (M.2.1 1 1).toInt.toNat + k = (M4.2.1 1 1).toInt.toNat + (k - 16) := by omega
            rw [if_neg g4, e1, r5 (k - 16) (by omega), show k % 4 = k - 16 by omega]
theorem x_fb_i {a b c d e w z y v : Int32} {k : Int} (h0 : 0 ≤ k) (hv : v.toInt = 24 - 8 * (k % 4)) (e1 : w >>> v = y) (e2 : y &&& 255 = z) (hw : w = if k.toNat < 4 then a else if k.toNat < 8 then b else if k.toNat < 12 then c else if k.toNat < 16 then d else e) : z = x_fb a b c d e k.toNat := by
  unfold x_fb
  rw [← hw]
  exact x_by_e (by omega) e1 e2
section FB
variable {a b c d e : Int32} {k : Int}
theorem x_w_a (h0 : 0 ≤ k) (h : k < 4) : a = if k.toNat < 4 then a else if k.toNat < 8 then b else if k.toNat < 12 then c else if k.toNat < 16 then d else e := by rw [if_pos (by omega)]
theorem x_w_b (h0 : 4 ≤ k) (h : k < 8) : b = if k.toNat < 4 then a else if k.toNat < 8 then b else if k.toNat < 12 then c else if k.toNat < 16 then d else e := by rw [if_neg (by omega), if_pos (by omega)]
theorem x_w_c (h0 : 8 ≤ k) (h : k < 12) : c = if k.toNat < 4 then a else if k.toNat < 8 then b else if k.toNat < 12 then c else if k.toNat < 16 then d else e := by rw [if_neg (by omega), if_neg (by omega), if_pos (by omega)]
theorem x_w_d (h0 : 12 ≤ k) (h : k < 16) : d = if k.toNat < 4 then a else if k.toNat < 8 then b else if k.toNat < 12 then c else if k.toNat < 16 then d else e := by rw [if_neg (by omega), if_neg (by omega), if_neg (by omega), if_pos (by omega)]
theorem x_w_e (h0 : 16 ≤ k) : e = if k.toNat < 4 then a else if k.toNat < 8 then b else if k.toNat < 12 then c else if k.toNat < 16 then d else e := by rw [if_neg (by omega), if_neg (by omega), if_neg (by omega), if_neg (by omega)]
end FB
/-- the two tapes hold the same -/
noncomputable def TP (M : mm_M) : Prop := ∀ k : Nat, (k : Int) < (M.2.1 1 1).toInt → M.2.1 2 k &&& 255 = M.2.1 78 k
theorem TP_f {M M1 : mm_M} (h : ∀ a i : Nat, (a = 1 ∧ i = 1 ∨ a = 2 ∨ a = 78) → M1.2.1 a i = M.2.1 a i) (H : TP M) : TP M1 := fun k hk => by
  rw [h 1 1 (by omega)] at hk
  rw [h 2 k (by omega), h 78 k (by omega)]
  exact H k hk
theorem TP_0 {M : mm_M} (h : (M.2.1 1 1).toInt ≤ 0) : TP M := fun k hk => by exfalso; omega
theorem TP_s {M M1 : mm_M} (H : TP M) (h1 : (M1.2.1 1 1).toInt ≤ (M.2.1 1 1).toInt) (h : ∀ a i : Nat, (a = 2 ∨ a = 78) → M1.2.1 a i = M.2.1 a i) : TP M1 := fun k hk => by
  rw [h 2 k (by omega), h 78 k (by omega)]
  exact H k (by omega)
theorem TP_d {M M1 M2 : mm_M} {a b c d e : Int32} (H : TP M) (h0 : 0 ≤ (M.2.1 1 1).toInt) (he : (M.2.1 1 1).toInt = (M.2.1 77 1).toInt) (D : FD M M1 a b c d e) (hl : 480 < (M.2.1 1 1).toInt ∧ (M2.2.1 1 1).toInt = (M.2.1 1 1).toInt ∨ (M.2.1 1 1).toInt ≤ 480 ∧ (M2.2.1 1 1).toInt = (M.2.1 1 1).toInt + 20) (h78 : ∀ k, M1.2.1 78 k = M.2.1 78 k) (h77 : M1.2.1 77 1 = M.2.1 77 1) (D2 : FDr M1 M2 a b c d e) (h2 : ∀ k, M2.2.1 2 k = M1.2.1 2 k) : TP M2 := fun k hk => by
  rw [h2 k]
  obtain ⟨d1, d2⟩ := D
  obtain ⟨f1, f2⟩ := D2
  rw [h77] at f1 f2
  by_cases g : (k : Int) < (M.2.1 1 1).toInt
  · rw [d1 k g, f1 k (by omega), h78 k]
    exact H k g
  · have ek : k = (M.2.1 1 1).toInt.toNat + (k - (M.2.1 1 1).toInt.toNat) := by omega
    have e1 := d2 (by omega) (k - (M.2.1 1 1).toInt.toNat) (by omega)
    have e2 := f2 (by omega) (k - (M.2.1 1 1).toInt.toNat) (by omega)
    rw [show (M.2.1 77 1).toInt.toNat = (M.2.1 1 1).toInt.toNat by omega, ← ek] at e2
    rw [← ek] at e1
    rw [e1, e2]
section SB
variable {X : mm_X} {d mi pc : Nat} {ls st : List Value} {M : mm_M} {Q : Option Value → mm_M → Prop} {len a b : Nat} {ps : List Nat} {x y : Int32} {A : Int}
theorem s_basE {o n : Nat} (hc : mm_code mi pc = some (.bastore, len, a, b, ps)) (hG : g_G M) (ho : (Nat.blt o 126 && Nat.beq (g_ty o) 103) = true) (hn : g_ln o = n) (ex : x.toInt = A) (h0 : 0 ≤ A) (h1 : A < (n : Int)) (h : ∀ M1, M1 = mm_setI M o A.toNat y.toInt8.toInt32 → mm_T X d mi (pc + len) ls st M1 Q) : mm_T X d mi pc ls (.int y :: .int x :: .ref o :: st) M Q := by
  rw [Bool.and_eq_true] at ho
  have e103 := Nat.eq_of_beq_eq_true ho.2
  exact to_bas hc (g_no hG (by rw [ho.1, e103]; rfl)) (g_o hG (by rw [Bool.and_eq_true]; exact ho)) (by rw [g_l hG ho.1 hn]; exact i_ix ex h0 h1) (show x.toNatClampNeg = A.toNat by rw [← ex]; rfl) rfl (h _ rfl)
end SB
/-! two contracts of one call -/
theorem T_im {X : mm_X} {d mi pc : Nat} {ls st : List Value} {M : mm_M} {Q Q2 : Option Value → mm_M → Prop} (h : mm_T X d mi pc ls st M Q) (k : ∀ v M1, Q v M1 → Q2 v M1) : mm_T X d mi pc ls st M Q2 := by
  obtain ⟨n, r, M', e, q⟩ := h
  exact ⟨n, r, M', e, k r M' q⟩
theorem T_and {X : mm_X} {d mi pc : Nat} {ls st : List Value} {M : mm_M} {Q1 Q2 : Option Value → mm_M → Prop} (h1 : mm_T X d mi pc ls st M Q1) (h2 : mm_T X d mi pc ls st M Q2) : mm_T X d mi pc ls st M (fun v M1 => Q1 v M1 ∧ Q2 v M1) := by
  obtain ⟨n, r, M', e, q⟩ := h1
  obtain ⟨n2, r2, M2, e2, q2⟩ := h2
  have a := mm_up (Nat.le_max_left n n2) e
  have b := mm_up (Nat.le_max_right n n2) e2
  rw [a] at b
  have z := Option.some.inj b
  have z1 : r = r2 := congrArg Prod.fst z
  have z2 : M' = M2 := congrArg Prod.snd z
  subst z1
  subst z2
  exact ⟨_, r, M', a, q, q2⟩
theorem TP_T {M : mm_M} {nn : Int} (H : TP M) (h : nn ≤ (M.2.1 1 1).toInt) : TT M (fun k => (M.2.1 78 k).toInt) nn := fun k hk => congrArg Int32.toInt (H k (by omega))
theorem TR_t {M : mm_M} {nn : Int} : TR M (fun k => (M.2.1 78 k).toInt) nn := fun _ _ => rfl
theorem x_nn {n held : Int} : ∃ nn : Int, (0 ≤ n ∧ n ≤ held → n = nn) ∧ nn ≤ held := by
  by_cases h : n ≤ held
  · exact ⟨n, fun _ => rfl, h⟩
  · exact ⟨held, fun z => absurd z.2 h, Int.le_refl _⟩
theorem PAN_q {R : x_Res} {n h1 h2 r r2 : Int} (e : h1 = h2) (a : n < 0 ∨ h1 < n → r = -2) (a2 : n < 0 ∨ h2 < n → r2 = -2) (b : 0 ≤ n ∧ n ≤ h1 → PAN R r) (b2 : 0 ≤ n ∧ n ≤ h2 → PAN R r2) : r = r2 := by
  by_cases g : 0 ≤ n ∧ n ≤ h1
  · exact PAN_u (b g) (b2 (by omega))
  · rw [a (by omega), a2 (by omega)]
theorem TP_X {M : mm_M} {n : Int} (H : TP M) : ∃ (t : Nat → Int) (nn : Int), (0 ≤ n ∧ n ≤ (M.2.1 1 1).toInt → n = nn) ∧ TT M t nn ∧ TR M t nn := by
  obtain ⟨nn, h1, h2⟩ := x_nn (n := n) (held := (M.2.1 1 1).toInt)
  exact ⟨_, nn, h1, TP_T H h2, TR_t⟩
/-! the plan that stands -/
theorem W_rl {M M1 : mm_M} {a i b j : Nat} {v : Option Nat} {w : Int64} (W : M1 = mm_setR M a i v) (h : M.2.2.1 b j = w) : M1.2.2.1 b j = w := by
  subst W
  exact h
theorem Fx_nl {M M1 : mm_M} {P : Nat → Nat → Prop} {a i : Nat} {w : Int64} (F : FRX P M M1) (hn : ¬ P a i) (h : M.2.2.1 a i = w) : M1.2.2.1 a i = w := (F.2 a i hn).2.trans h
noncomputable def PLs (M : mm_M) (p : Nat) (s : x_S) : Prop := x_G s ∧ (M.2.1 p 0).toInt = s.1 ∧ (M.2.1 p 2).toInt = s.2.1 ∧ (M.2.1 p 3).toInt = s.2.2.1 ∧ (∀ r k : Nat, 1 ≤ r → r ≤ 5 → (k : Int) < s.2.1 → (M.2.1 (p + r) k).toInt = s.2.2.2.2 r k) ∧ (∀ r k : Nat, 6 ≤ r → r ≤ 7 → (k : Int) < s.2.2.1 → (M.2.1 (p + r) k).toInt = s.2.2.2.2 r k)
theorem PLs_c {M : mm_M} {p : Nat} {s : x_S} (H : PLc M p s) : PLs M p s := ⟨H.1, H.2.1, H.2.2.1, H.2.2.2.1, H.2.2.2.2.2.1, H.2.2.2.2.2.2⟩
theorem PLs_f {M M1 : mm_M} {p : Nat} {s : x_S} (h : ∀ a i : Nat, (p ≤ a ∧ a ≤ p + 7) → M1.2.1 a i = M.2.1 a i) (H : PLs M p s) : PLs M1 p s := by
  obtain ⟨h0, h1, h2, h3, h5, h6⟩ := H
  exact ⟨h0, by rw [h p 0 (by omega)]; exact h1, by rw [h p 2 (by omega)]; exact h2, by rw [h p 3 (by omega)]; exact h3, fun r k a b c => by rw [h (p + r) k (by omega)]; exact h5 r k a b c, fun r k a b c => by rw [h (p + r) k (by omega)]; exact h6 r k a b c⟩
noncomputable def PLs2 (M : mm_M) (p : Nat) (s : x_S) : Prop := PLs M p s ∧ CW M p s
theorem PLs2_c {M : mm_M} {p : Nat} {s : x_S} (H : PLc2 M p s) : PLs2 M p s := ⟨PLs_c H.1, H.2⟩
theorem PLs2_f {M M1 : mm_M} {p : Nat} {s : x_S} (h : ∀ a i : Nat, (p ≤ a ∧ a ≤ p + 8) → M1.2.1 a i = M.2.1 a i ∧ M1.2.2.1 a i = M.2.2.1 a i) (H : PLs2 M p s) : PLs2 M1 p s := ⟨PLs_f (fun a i z => (h a i (by omega)).1) H.1, CW_f (fun k _ => (h (p + 8) k (by omega)).2) H.2⟩
noncomputable def TPl (M : mm_M) (s : x_S) : Prop := ∃ p : Nat, (p = 49 ∨ p = 58) ∧ M.2.2.2 0 8 = some p ∧ PLs2 M p s
noncomputable def NE (M : mm_M) : Prop := M.2.2.2 0 8 ≠ M.2.2.2 0 9
noncomputable def PLk (M : mm_M) (s : x_S) : Prop := x_G s ∧ (M.2.1 77 11).toInt = s.1 ∧ (M.2.1 77 12).toInt = s.2.1 ∧ (M.2.1 77 13).toInt = s.2.2.1 ∧ (∀ r k : Nat, 1 ≤ r → r ≤ 5 → (k : Int) < s.2.1 → (M.2.1 (79 + r) k).toInt = s.2.2.2.2 r k) ∧ (∀ r k : Nat, 6 ≤ r → r ≤ 7 → (k : Int) < s.2.2.1 → (M.2.1 (79 + r) k).toInt = s.2.2.2.2 r k)
theorem PLk_f {M M1 : mm_M} {s : x_S} (h : ∀ a i : Nat, (a = 77 ∧ 11 ≤ i ∧ i ≤ 13 ∨ 80 ≤ a ∧ a ≤ 84 ∧ i < 8 ∨ 85 ≤ a ∧ a ≤ 86 ∧ i < 12) → M1.2.1 a i = M.2.1 a i) (H : PLk M s) : PLk M1 s := by
  obtain ⟨h0, h1, h2, h3, h5, h6⟩ := H
  have f8 := h0.2.2.2.1
  have w12 := h0.2.2.2.2.2.1
  exact ⟨h0, by rw [h 77 11 (by omega)]; exact h1, by rw [h 77 12 (by omega)]; exact h2, by rw [h 77 13 (by omega)]; exact h3, fun r k a b c => by rw [h (79 + r) k (by omega)]; exact h5 r k a b c, fun r k a b c => by rw [h (79 + r) k (by omega)]; exact h6 r k a b c⟩
noncomputable def PLk2 (M : mm_M) (s : x_S) : Prop := PLk M s ∧ CWk M s
theorem PLk2_f {M M1 : mm_M} {s : x_S} (h : ∀ a i : Nat, (a = 77 ∧ 11 ≤ i ∧ i ≤ 13 ∨ 80 ≤ a ∧ a ≤ 84 ∧ i < 8 ∨ 85 ≤ a ∧ a ≤ 86 ∧ i < 12) → M1.2.1 a i = M.2.1 a i) (hl : ∀ i : Nat, i < 12 → M1.2.2.1 87 i = M.2.2.1 87 i) (H : PLk2 M s) : PLk2 M1 s := by
  have w12 := H.1.1.2.2.2.2.2.1
  exact ⟨PLk_f h H.1, CWk_f (fun k hk => hl k (by omega)) H.2⟩
noncomputable def AL (M : mm_M) : Prop := ∃ s : x_S, TPl M s ∧ PLk2 M s
/-- the reference keeps what it has read -/
noncomputable def KP (N M : mm_M) (a b : Nat) : Prop := (∀ r j : Nat, 1 ≤ r → r ≤ 5 → j < a → N.2.1 (79 + r) j = M.2.1 (79 + r) (8 + j)) ∧ (∀ r j : Nat, 6 ≤ r → r ≤ 7 → j < b → N.2.1 (79 + r) j = M.2.1 (79 + r) (12 + j)) ∧ (∀ x i : Nat, (80 ≤ x ∧ x ≤ 84 ∧ 8 ≤ i ∨ 85 ≤ x ∧ x ≤ 86 ∧ 12 ≤ i) → N.2.1 x i = M.2.1 x i)
theorem KP_e {N M : mm_M} {s : x_S} (K : KP N M 8 12) (h1 : N.2.1 77 11 = M.2.1 77 14) (h2 : N.2.1 77 12 = M.2.1 77 15) (h3 : N.2.1 77 13 = M.2.1 77 16) (H : PLr M s) : PLk N s := by
  obtain ⟨g0, g1, g2, g3, -, g5, g6⟩ := H
  have f8 := g0.2.2.2.1
  have w12 := g0.2.2.2.2.2.1
  exact ⟨g0, by rw [h1]; exact g1, by rw [h2]; exact g2, by rw [h3]; exact g3, fun r k a b c => by rw [K.1 r k a b (by omega)]; exact g5 r k a b c, fun r k a b c => by rw [K.2.1 r k a b (by omega)]; exact g6 r k a b c⟩
theorem KP_0 {N M : mm_M} (h : ∀ a i : Nat, 80 ≤ a ∧ a ≤ 86 → N.2.1 a i = M.2.1 a i) : KP N M 0 0 := ⟨fun _ _ _ _ z => absurd z (Nat.not_lt_zero _), fun _ _ _ _ z => absurd z (Nat.not_lt_zero _), fun x i z => h x i (by omega)⟩
theorem KP_f {N N1 M : mm_M} {a b : Nat} (h : ∀ a i : Nat, 80 ≤ a ∧ a ≤ 86 → N1.2.1 a i = N.2.1 a i) (K : KP N M a b) : KP N1 M a b := ⟨fun r j g1 g2 g3 => by rw [h (79 + r) j (by omega)]; exact K.1 r j g1 g2 g3, fun r j g1 g2 g3 => by rw [h (79 + r) j (by omega)]; exact K.2.1 r j g1 g2 g3, fun x i z => by rw [h x i (by omega)]; exact K.2.2 x i z⟩
/-- one round of the first loop -/
theorem KP_5 {N N1 N2 N3 N4 N5 M : mm_M} {a a2 i8 : Nat} {v1 v2 v3 v4 v5 : Int32} (K : KP N M a 0) (ha : a < 8) (h8 : i8 = 8 + a) (h2 : a2 = a + 1) (e1 : N.2.1 80 i8 = v1) (W1 : N1 = mm_setI N 80 a v1) (e2 : N1.2.1 81 i8 = v2) (W2 : N2 = mm_setI N1 81 a v2) (e3 : N2.2.1 82 i8 = v3) (W3 : N3 = mm_setI N2 82 a v3) (e4 : N3.2.1 83 i8 = v4) (W4 : N4 = mm_setI N3 83 a v4) (e5 : N4.2.1 84 i8 = v5) (W5 : N5 = mm_setI N4 84 a v5) : KP N5 M a2 0 := by
  subst h8
  subst h2
  have nf : ∀ x i : Nat, ¬ (80 ≤ x ∧ x ≤ 84 ∧ i = a) → N5.2.1 x i = N.2.1 x i := fun x i h => W_n W5 (by omega) (W_n W4 (by omega) (W_n W3 (by omega) (W_n W2 (by omega) (W_n W1 (by omega) rfl))))
  refine ⟨fun r j g1 g2 g3 => ?_, fun _ _ _ _ z => absurd z (Nat.not_lt_zero _), fun x i z => by rw [nf x i (by omega)]; exact K.2.2 x i z⟩
  by_cases g : j = a
  · subst g
    rcases (show r = 1 ∨ r = 2 ∨ r = 3 ∨ r = 4 ∨ r = 5 by omega) with rfl | rfl | rfl | rfl | rfl
    · rw [W_n W5 (by omega) (W_n W4 (by omega) (W_n W3 (by omega) (W_n W2 (by omega) (W_e W1)))), ← K.2.2 80 (8 + j) (by omega)]; exact e1.symm
    · rw [W_n W5 (by omega) (W_n W4 (by omega) (W_n W3 (by omega) (W_e W2))), ← K.2.2 81 (8 + j) (by omega), ← e2]; exact W_n W1 (by omega) rfl
    · rw [W_n W5 (by omega) (W_n W4 (by omega) (W_e W3)), ← K.2.2 82 (8 + j) (by omega), ← e3]; exact W_n W2 (by omega) (W_n W1 (by omega) rfl)
    · rw [W_n W5 (by omega) (W_e W4), ← K.2.2 83 (8 + j) (by omega), ← e4]; exact W_n W3 (by omega) (W_n W2 (by omega) (W_n W1 (by omega) rfl))
    · rw [W_e W5, ← K.2.2 84 (8 + j) (by omega), ← e5]; exact W_n W4 (by omega) (W_n W3 (by omega) (W_n W2 (by omega) (W_n W1 (by omega) rfl)))
  · rw [nf (79 + r) j (by omega)]
    exact K.1 r j g1 g2 (by omega)
/-- one round of the second -/
theorem KP_2 {N N1 N2 N3 M : mm_M} {b b2 i12 i87 : Nat} {v1 v2 : Int32} {v3 : Int64} (K : KP N M 8 b) (hb : b < 12) (h12 : i12 = 12 + b) (h2 : b2 = b + 1) (e1 : N.2.1 85 i12 = v1) (W1 : N1 = mm_setI N 85 b v1) (e2 : N1.2.1 86 i12 = v2) (W2 : N2 = mm_setI N1 86 b v2) (W3 : N3 = mm_setL N2 87 i87 v3) : KP N3 M 8 b2 := by
  subst h12
  subst h2
  have nf : ∀ x i : Nat, ¬ (85 ≤ x ∧ x ≤ 86 ∧ i = b) → N3.2.1 x i = N.2.1 x i := fun x i h => W_l W3 (W_n W2 (by omega) (W_n W1 (by omega) rfl))
  refine ⟨fun r j g1 g2 g3 => by rw [nf (79 + r) j (by omega)]; exact K.1 r j g1 g2 g3, fun r j g1 g2 g3 => ?_, fun x i z => by rw [nf x i (by omega)]; exact K.2.2 x i z⟩
  by_cases g : j = b
  · subst g
    rcases (show r = 6 ∨ r = 7 by omega) with rfl | rfl
    · rw [W_l W3 (W_n W2 (by omega) (W_e W1)), ← K.2.2 85 (12 + j) (by omega)]; exact e1.symm
    · rw [W_l W3 (W_e W2), ← K.2.2 86 (12 + j) (by omega), ← e2]; exact W_n W1 (by omega) rfl
  · rw [nf (79 + r) j (by omega)]
    exact K.2.1 r j g1 g2 (by omega)
theorem TPl_f {M M1 : mm_M} {s : x_S} (h : ∀ a i : Nat, (49 ≤ a ∧ a ≤ 66) → M1.2.1 a i = M.2.1 a i ∧ M1.2.2.1 a i = M.2.2.1 a i) (hr : M1.2.2.2 0 8 = M.2.2.2 0 8) (H : TPl M s) : TPl M1 s := by
  obtain ⟨p, hp, e, H⟩ := H
  exact ⟨p, hp, by rw [hr]; exact e, PLs2_f (fun a i z => h a i (by omega)) H⟩
theorem AL_F {M M1 : mm_M} {P : Nat → Nat → Prop} (F : FR P M M1) (h : ∀ a i : Nat, (49 ≤ a ∧ a ≤ 66 ∨ a = 77 ∧ 11 ≤ i ∧ i ≤ 13 ∨ 80 ≤ a ∧ a ≤ 87) → ¬ P a i) (H : AL M) : AL M1 := by
  obtain ⟨s, h1, h2⟩ := H
  exact ⟨s, TPl_f (fun a i z => F.2.2 a i (h a i (by omega))) (by rw [F.2.1]) h1, PLk2_f (fun a i z => (F.2.2 a i (h a i (by omega))).1) (fun i _ => (F.2.2 87 i (h 87 i (by omega))).2) h2⟩
theorem AL_K {M M1 : mm_M} (K : M1.2.1 = M.2.1) (kr : M1.2.2.2 = M.2.2.2) (kl : ∀ a i : Nat, a ≠ 125 → M1.2.2.1 a i = M.2.2.1 a i) (H : AL M) : AL M1 := by
  obtain ⟨s, h1, h2⟩ := H
  exact ⟨s, TPl_f (fun a i z => ⟨by rw [K], kl a i (by omega)⟩) (by rw [kr]) h1, PLk2_f (fun a i z => by rw [K]) (fun i _ => kl 87 i (by decide)) h2⟩
theorem AL_X {M M1 : mm_M} {P : Nat → Nat → Prop} (F : FRX P M M1) (h : ∀ a i : Nat, (49 ≤ a ∧ a ≤ 66 ∨ a = 77 ∧ 11 ≤ i ∧ i ≤ 13 ∨ 80 ≤ a ∧ a ≤ 87) → ¬ P a i) (hr : M1.2.2.2 0 8 = M.2.2.2 0 8) (H : AL M) : AL M1 := by
  obtain ⟨s, h1, h2⟩ := H
  exact ⟨s, TPl_f (fun a i z => F.2 a i (h a i (by omega))) hr h1, PLk2_f (fun a i z => (F.2 a i (h a i (by omega))).1) (fun i _ => (F.2 87 i (h 87 i (by omega))).2) h2⟩
theorem NE_r {M M1 : mm_M} (h : M1.2.2.2 = M.2.2.2) (H : NE M) : NE M1 := by
  unfold NE at H ⊢
  rw [h]
  exact H
theorem NE_p {M : mm_M} {p pz q qz : Nat} (h : g_PQ M p pz q qz) (H : NE M) : p ≠ pz := fun z => H (by rw [h.1, h.2.1, z])
theorem NE_q {M M1 : mm_M} {p pz q qz : Nat} (h : g_PQ M p pz q qz) (h1 : g_QQ M1 p pz q qz) (H : NE M) : NE M1 := by
  unfold NE
  rcases h1 with h1 | h1
  · rw [h1.1, h1.2.1, ← h.1, ← h.2.1]; exact H
  · rw [h1.1, h1.2.1, ← h.1, ← h.2.1]; exact H
theorem QQ_8 {M M1 : mm_M} {p pz q qz : Nat} (h : g_PQ M p pz q qz) (h1 : g_QQ M1 p pz q qz) : M1.2.2.2 0 8 = M.2.2.2 0 8 := by
  rcases h1 with h1 | h1
  · rw [h1.1, h.1]
  · rw [h1.1, h.1]
/-- plan, on both sides -/
theorem AL_p {M M1 M2 : mm_M} {p pz q qz : Nat} {R : x_Res} {r r2 : Int} {P2 : Nat → Nat → Prop} (H : AL M) (hq : g_PQ M p pz q qz) (e : r = r2) (pf : r < 0 → ∀ s9 : x_S, PLs2 M p s9 → TPl M1 s9) (ps : 0 ≤ r → ∃ s2 : x_S, R = some (r, s2) ∧ TPl M1 s2) (hk : ∀ a i : Nat, 77 ≤ a → M1.2.1 a i = M.2.1 a i ∧ M1.2.2.1 a i = M.2.2.1 a i) (F : FR P2 M1 M2) (h2 : ∀ a i : Nat, (49 ≤ a ∧ a ≤ 66) → ¬ P2 a i) (kf : r2 < 0 → ∀ s9 : x_S, PLk2 M1 s9 → PLk2 M2 s9) (ks : 0 ≤ r2 → ∃ s2 : x_S, R = some (r2, s2) ∧ PLk2 M2 s2) : AL M2 := by
  have tr : ∀ s, TPl M1 s → TPl M2 s := fun s h => TPl_f (fun a i z => F.2.2 a i (h2 a i z)) (by rw [F.2.1]) h
  by_cases g : r < 0
  · obtain ⟨s, ⟨p2, hp2, e2, h1⟩, hk1⟩ := H
    have ep : p2 = p := by
      have := hq.1
      rw [e2] at this
      exact Option.some.inj this
    subst ep
    exact ⟨s, tr s (pf g s h1), kf (by omega) s (PLk2_f (fun a i z => (hk a i (by omega)).1) (fun i _ => (hk 87 i (by decide)).2) hk1)⟩
  · obtain ⟨s2, e1, t1⟩ := ps (by omega)
    obtain ⟨s3, e3, k3⟩ := ks (by omega)
    have es : s2 = s3 := by
      rw [e1] at e3
      exact congrArg Prod.snd (Option.some.inj e3)
    subst es
    exact ⟨s2, tr s2 t1, k3⟩
