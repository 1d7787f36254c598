theorem tg_90 : ∀ a i : Nat, (a < 0) → (a = 77 ∧ i = 2) := fun a i z => by omega
theorem tg_91 : ∀ a i : Nat, (a = 77 ∧ 11 ≤ i ∧ i ≤ 13 ∨ 80 ≤ a ∧ a ≤ 84 ∧ i < 8 ∨ 85 ≤ a ∧ a ≤ 86 ∧ i < 12) → ¬ (a = 77 ∧ i = 2) := fun a i z => by omega
theorem tg_92 : ∀ a i : Nat, (7 ≤ a ∧ a ≤ 9) → ¬ (a = 17 ∧ i = 4) := fun a i z => by omega
theorem tg_93 : ∀ a i : Nat, (a = 68 ∨ a = 69 ∨ a = 73 ∨ a = 74) → ¬ (a = 17 ∧ i = 4) := fun a i z => by omega
theorem tg_94 : ∀ a i : Nat, (81 ≤ a ∧ a ≤ 84) → ¬ (a = 77 ∧ i = 2) := fun a i z => by omega
theorem tg_95 : ∀ a i : Nat, 88 ≤ a ∧ a ≤ 89 → ¬ (a = 77 ∧ i = 2) := fun a i z => by omega
set_option maxRecDepth 4000 in
set_option maxHeartbeats 0 in
theorem U_175_0 {X : mm_X} {d : Nat} {M : mm_M} {Q : Option Value → mm_M → Prop} {n : Int32} {sg : x_S} (hX : g_X X) (hd : 0 ≤ d) (q1 : PLk M sg) (h : ∀ (r : Int32) (M1 : mm_M), g_G M1 → FR md_0 M M1 → (-1 ≤ r.toInt) → (r.toInt ≤ 7) → (r.toInt = x_fn sg 1 n.toInt) → Q (some (.int r)) M1) : ∀ nn9 : Nat, (∀ (N : mm_M) (x2 : Int32), g_G N → FR md_0 M N → (0 ≤ x2.toInt) → (x2.toInt ≤ 8) → (x2.toInt ≤ sg.2.1) → (PLk N sg) → (x_find (sg.2.2.2.2 1) n.toInt (sg.2.1 - x2.toInt).toNat (x2.toInt).toNat = x_fn sg 1 n.toInt) → 8 - x2.toInt < (nn9 : Int) → mm_T X d 174 2 [.ref 77, .int n, .int x2] [] N Q) := by
  intro nn9
  induction nn9 with
  | zero =>
    intro N x2 hG F0 g1 g2 g3 g4 g5 hm
    exfalso; omega
  | succ nn9 ih =>
    intro N x2 hG F0 g1 g2 g3 g4 g5 hm
    have z_1 := g4.2.1
    have z_2 := g4.2.2.1
    have z_3 := g4.2.2.2.1
    have z_4 := g4.1
    have z_5 := z_4.1
    have z_6 := z_4.2.1
    have z_7 := z_4.2.2.1
    have z_8 := z_4.2.2.2.1
    have z_9 := z_4.2.2.2.2.1
    have z_10 := z_4.2.2.2.2.2.1
    have b_11 := g_b hG (a := 77) (i := 11) (lo := 10) (hi := 60) rfl rfl
    have b_12 := g_b hG (a := 77) (i := 12) (lo := 0) (hi := 8) rfl rfl
    have b_13 := g_b hG (a := 77) (i := 13) (lo := 0) (hi := 12) rfl rfl
    refine to_in (pc := 2) rw_175_2 rfl (to_an (pc := 3) rw_175_3 rfl (tt_gI (pc := 4) rw_175_4 (g_o hG rfl) (v := (N.2.1 77 12)) rfl (b_cge (pc := 7) rw_175_7 (A := x2.toInt) (B := (N.2.1 77 12).toInt) rfl rfl (fun h14 => ?_) (fun h14 => ?_))))
    · refine to_c (pc := 28) rw_175_28 (x := (-1 : Int32)) rfl rfl (to_r0 (pc := 29) rw_175_29 ?_)
      have k_15 : (-1 : Int32).toInt = -1 := rfl
      have z_16 := x_fi_n (g := (sg.2.2.2.2 1)) (v := n.toInt) (n := sg.2.1) (x3 := x2.toInt) (by omega) g5
      exact h (-1 : Int32) N hG F0 (by omega) (by omega) (by omega)
    · refine to_an (pc := 10) rw_175_10 rfl (s_gR (pc := 11) rw_175_11 hG rfl (v := 80) rfl (to_in (pc := 14) rw_175_14 rfl (s_ial (pc := 15) rw_175_15 hG rfl (n := 16) rfl rfl (A := x2.toInt) rfl (by omega) (by omega) (lo := -2147483648) (hi := 2147483647) rfl rfl (fun v17 w_18 _ _ => ?_))))
      have z_19 := PLk_r g4 1 80 rfl (by decide) (by decide) (k := x2.toInt) (by omega) (by omega) w_18
      refine to_in (pc := 16) rw_175_16 rfl (b_cne (pc := 17) rw_175_17 (A := v17.toInt) (B := n.toInt) rfl rfl (fun h20 => ?_) (fun h20 => ?_))
      · refine s_inc (pc := 22) rw_175_22 (ls2 := fun v => [.ref 77, .int n, .int v]) rfl rfl (fun _ => rfl) (A := x2.toInt) (B := 1) rfl rfl (by omega) (fun v21 e22 => to_go (pc := 25) rw_175_25 ?_)
        exact ih N v21 hG F0 (by omega) (by omega) (by omega) g4 (x_fi_e (g := (sg.2.2.2.2 1)) (n := sg.2.1) (x3 := x2.toInt) (y := v21.toInt) (by omega) (by omega) (show ¬ x_row sg 1 x2.toInt = n.toInt by omega) (by omega) g5) (by omega)
      · refine to_in (pc := 20) rw_175_20 rfl (to_r0 (pc := 21) rw_175_21 ?_)
        have z_23 := x_fi_y (g := (sg.2.2.2.2 1)) (v := n.toInt) (n := sg.2.1) (x3 := x2.toInt) (by omega) (by omega) (show x_row sg 1 x2.toInt = n.toInt by omega) g5
        exact h x2 N hG F0 (by omega) (by omega) (by omega)
set_option maxRecDepth 4000 in
set_option maxHeartbeats 0 in
theorem E_175 {X : mm_X} {d : Nat} {M : mm_M} {Q : Option Value → mm_M → Prop} {n : Int32} {sg : x_S} (hX : g_X X) (hd : 0 ≤ d) (hG : g_G M) (q1 : PLk M sg) (h : ∀ (r : Int32) (M1 : mm_M), g_G M1 → FR md_0 M M1 → (-1 ≤ r.toInt) → (r.toInt ≤ 7) → (r.toInt = x_fn sg 1 n.toInt) → Q (some (.int r)) M1) : mm_T X d 174 0 [.ref 77, .int n, .null] [] M Q := by
  have F0 : FR md_0 M M := FR.rf
  have z_24 := q1.2.1
  have z_25 := q1.2.2.1
  have z_26 := q1.2.2.2.1
  have z_27 := q1.1
  have z_28 := z_27.1
  have z_29 := z_27.2.1
  have z_30 := z_27.2.2.1
  have z_31 := z_27.2.2.2.1
  have z_32 := z_27.2.2.2.2.1
  have z_33 := z_27.2.2.2.2.2.1
  have b_34 := g_b hG (a := 77) (i := 11) (lo := 10) (hi := 60) rfl rfl
  have b_35 := g_b hG (a := 77) (i := 12) (lo := 0) (hi := 8) rfl rfl
  have b_36 := g_b hG (a := 77) (i := 13) (lo := 0) (hi := 12) rfl rfl
  refine to_c (pc := 0) rw_175_0 (x := (0 : Int32)) rfl rfl (to_isn (pc := 1) rw_175_1 (ls2 := [.ref 77, .int n, .int (0 : Int32)]) rfl rfl ?_)
  have k_37 : (0 : Int32).toInt = 0 := rfl
  exact (U_175_0 (n := n) (sg := sg) hX hd q1 h ((8 - (0 : Int32).toInt).toNat + 1)) M (0 : Int32) hG F0 (by omega) (by omega) (by omega) q1 (by rw [show (sg.2.1 - (0 : Int32).toInt).toNat = (sg.2.1).toNat by rw [show (0 : Int32).toInt = 0 from rfl]; congr 1; omega]; rfl) (by omega)
set_option maxRecDepth 4000 in
set_option maxHeartbeats 0 in
theorem U_176_0 {X : mm_X} {d : Nat} {M : mm_M} {Q : Option Value → mm_M → Prop} {n : Int32} {sg : x_S} (hX : g_X X) (hd : 0 ≤ d) (q1 : PLk M sg) (h : ∀ (r : Int32) (M1 : mm_M), g_G M1 → FR md_0 M M1 → (-1 ≤ r.toInt) → (r.toInt ≤ 11) → (r.toInt = x_fn sg 6 n.toInt) → Q (some (.int r)) M1) : ∀ nn9 : Nat, (∀ (N : mm_M) (x2 : Int32), g_G N → FR md_0 M N → (0 ≤ x2.toInt) → (x2.toInt ≤ 12) → (x2.toInt ≤ sg.2.2.1) → (PLk N sg) → (x_find (sg.2.2.2.2 6) n.toInt (sg.2.2.1 - x2.toInt).toNat (x2.toInt).toNat = x_fn sg 6 n.toInt) → 12 - x2.toInt < (nn9 : Int) → mm_T X d 175 2 [.ref 77, .int n, .int x2] [] N Q) := by
  intro nn9
  induction nn9 with
  | zero =>
    intro N x2 hG F0 g1 g2 g3 g4 g5 hm
    exfalso; omega
  | succ nn9 ih =>
    intro N x2 hG F0 g1 g2 g3 g4 g5 hm
    have z_1 := g4.2.1
    have z_2 := g4.2.2.1
    have z_3 := g4.2.2.2.1
    have z_4 := g4.1
    have z_5 := z_4.1
    have z_6 := z_4.2.1
    have z_7 := z_4.2.2.1
    have z_8 := z_4.2.2.2.1
    have z_9 := z_4.2.2.2.2.1
    have z_10 := z_4.2.2.2.2.2.1
    have b_11 := g_b hG (a := 77) (i := 11) (lo := 10) (hi := 60) rfl rfl
    have b_12 := g_b hG (a := 77) (i := 12) (lo := 0) (hi := 8) rfl rfl
    have b_13 := g_b hG (a := 77) (i := 13) (lo := 0) (hi := 12) rfl rfl
    refine to_in (pc := 2) rw_176_2 rfl (to_an (pc := 3) rw_176_3 rfl (tt_gI (pc := 4) rw_176_4 (g_o hG rfl) (v := (N.2.1 77 13)) rfl (b_cge (pc := 7) rw_176_7 (A := x2.toInt) (B := (N.2.1 77 13).toInt) rfl rfl (fun h14 => ?_) (fun h14 => ?_))))
    · refine to_c (pc := 28) rw_176_28 (x := (-1 : Int32)) rfl rfl (to_r0 (pc := 29) rw_176_29 ?_)
      have k_15 : (-1 : Int32).toInt = -1 := rfl
      have z_16 := x_fi_n (g := (sg.2.2.2.2 6)) (v := n.toInt) (n := sg.2.2.1) (x3 := x2.toInt) (by omega) g5
      exact h (-1 : Int32) N hG F0 (by omega) (by omega) (by omega)
    · refine to_an (pc := 10) rw_176_10 rfl (s_gR (pc := 11) rw_176_11 hG rfl (v := 85) rfl (to_in (pc := 14) rw_176_14 rfl (s_ial (pc := 15) rw_176_15 hG rfl (n := 24) rfl rfl (A := x2.toInt) rfl (by omega) (by omega) (lo := -2147483648) (hi := 2147483647) rfl rfl (fun v17 w_18 _ _ => ?_))))
      have z_19 := PLk_w g4 6 85 rfl (by decide) (by decide) (k := x2.toInt) (by omega) (by omega) w_18
      refine to_in (pc := 16) rw_176_16 rfl (b_cne (pc := 17) rw_176_17 (A := v17.toInt) (B := n.toInt) rfl rfl (fun h20 => ?_) (fun h20 => ?_))
      · refine s_inc (pc := 22) rw_176_22 (ls2 := fun v => [.ref 77, .int n, .int v]) rfl rfl (fun _ => rfl) (A := x2.toInt) (B := 1) rfl rfl (by omega) (fun v21 e22 => to_go (pc := 25) rw_176_25 ?_)
        exact ih N v21 hG F0 (by omega) (by omega) (by omega) g4 (x_fi_e (g := (sg.2.2.2.2 6)) (n := sg.2.2.1) (x3 := x2.toInt) (y := v21.toInt) (by omega) (by omega) (show ¬ x_row sg 6 x2.toInt = n.toInt by omega) (by omega) g5) (by omega)
      · refine to_in (pc := 20) rw_176_20 rfl (to_r0 (pc := 21) rw_176_21 ?_)
        have z_23 := x_fi_y (g := (sg.2.2.2.2 6)) (v := n.toInt) (n := sg.2.2.1) (x3 := x2.toInt) (by omega) (by omega) (show x_row sg 6 x2.toInt = n.toInt by omega) g5
        exact h x2 N hG F0 (by omega) (by omega) (by omega)
set_option maxRecDepth 4000 in
set_option maxHeartbeats 0 in
theorem E_176 {X : mm_X} {d : Nat} {M : mm_M} {Q : Option Value → mm_M → Prop} {n : Int32} {sg : x_S} (hX : g_X X) (hd : 0 ≤ d) (hG : g_G M) (q1 : PLk M sg) (h : ∀ (r : Int32) (M1 : mm_M), g_G M1 → FR md_0 M M1 → (-1 ≤ r.toInt) → (r.toInt ≤ 11) → (r.toInt = x_fn sg 6 n.toInt) → Q (some (.int r)) M1) : mm_T X d 175 0 [.ref 77, .int n, .null] [] M Q := by
  have F0 : FR md_0 M M := FR.rf
  have z_24 := q1.2.1
  have z_25 := q1.2.2.1
  have z_26 := q1.2.2.2.1
  have z_27 := q1.1
  have z_28 := z_27.1
  have z_29 := z_27.2.1
  have z_30 := z_27.2.2.1
  have z_31 := z_27.2.2.2.1
  have z_32 := z_27.2.2.2.2.1
  have z_33 := z_27.2.2.2.2.2.1
  have b_34 := g_b hG (a := 77) (i := 11) (lo := 10) (hi := 60) rfl rfl
  have b_35 := g_b hG (a := 77) (i := 12) (lo := 0) (hi := 8) rfl rfl
  have b_36 := g_b hG (a := 77) (i := 13) (lo := 0) (hi := 12) rfl rfl
  refine to_c (pc := 0) rw_176_0 (x := (0 : Int32)) rfl rfl (to_isn (pc := 1) rw_176_1 (ls2 := [.ref 77, .int n, .int (0 : Int32)]) rfl rfl ?_)
  have k_37 : (0 : Int32).toInt = 0 := rfl
  exact (U_176_0 (n := n) (sg := sg) hX hd q1 h ((12 - (0 : Int32).toInt).toNat + 1)) M (0 : Int32) hG F0 (by omega) (by omega) (by omega) q1 (by rw [show (sg.2.2.1 - (0 : Int32).toInt).toNat = (sg.2.2.1).toNat by rw [show (0 : Int32).toInt = 0 from rfl]; congr 1; omega]; rfl) (by omega)
set_option maxRecDepth 4000 in
set_option maxHeartbeats 0 in
theorem E_177 {X : mm_X} {d : Nat} {M : mm_M} {Q : Option Value → mm_M → Prop} {w : Int32} {l : Int32} {sg : x_S} (hX : g_X X) (hd : 1 ≤ d) (hG : g_G M) (q1 : PLk M sg) (h : ∀ (r : Int32) (M1 : mm_M), g_G M1 → FR md_2 M M1 → (w.toInt = 0 → r.toInt = x_fn sg 1 l.toInt) → (w.toInt = 1 → r.toInt = x_fn sg 6 l.toInt) → (¬ w.toInt = 0 ∧ ¬ w.toInt = 1 → r.toInt = -1) → Q (some (.int r)) M1) : mm_T X d 176 0 [.ref 77, .int w, .int l] [] M Q := by
  have F0 : FR md_2 M M := FR.rf
  refine to_an (pc := 0) rw_177_0 rfl (to_c (pc := 1) rw_177_1 (x := (0 : Int32)) rfl rfl (s_pI (pc := 2) rw_177_2 hG rfl (fun M2 W1 => ?_)))
  have hG3 := g_wf hG W1 rfl rfl (by decide)
  have F4 := FR.w F0 W1 (show 77 = 77 ∧ 2 = 2 by decide)
  refine to_in (pc := 5) rw_177_5 rfl (b_ine (pc := 6) rw_177_6 (A := w.toInt) rfl (fun h5 => ?_) (fun h5 => ?_))
  · refine to_in (pc := 17) rw_177_17 rfl (to_c (pc := 18) rw_177_18 (x := (1 : Int32)) rfl rfl (b_cne (pc := 19) rw_177_19 (A := w.toInt) (B := 1) rfl rfl (fun h6 => ?_) (fun h6 => ?_)))
    · refine to_c (pc := 30) rw_177_30 (x := (-1 : Int32)) rfl rfl (to_r0 (pc := 31) rw_177_31 ?_)
      have k_7 : (-1 : Int32).toInt = -1 := rfl
      exact h (-1 : Int32) M2 hG3 F4 (by omega) (by omega) (by omega)
    · refine to_an (pc := 22) rw_177_22 rfl (to_in (pc := 23) rw_177_23 rfl (s_v (pc := 24) rw_177_24 (dp0 hd (by decide)) (ls0 := [.ref 77, .int l, .null]) rfl (Nat.le_of_ble_eq_true rfl) (Nat.le_of_ble_eq_true rfl) rfl (to_rc rfl rfl rfl (g_o hG3 rfl)) rfl ?_))
      have j_8 := (PLk_f (fun a i z => W_n W1 (tg_91 a i z) rfl) q1)
      refine E_176 hX (dp1 hd (by decide)) hG3 j_8 (n := l) (sg := sg) (fun r9 M15 hG11 F10 p_12 p_13 p_14 => ?_)
      have F16 := FR.c F4 F10 tg_90
      refine to_go (pc := 27) rw_177_27 (to_r0 (pc := 31) rw_177_31 ?_)
      exact h r9 M15 hG11 F16 (by omega) (by omega) (by omega)
  · refine to_an (pc := 9) rw_177_9 rfl (to_in (pc := 10) rw_177_10 rfl (s_v (pc := 11) rw_177_11 (dp0 hd (by decide)) (ls0 := [.ref 77, .int l, .null]) rfl (Nat.le_of_ble_eq_true rfl) (Nat.le_of_ble_eq_true rfl) rfl (to_rc rfl rfl rfl (g_o hG3 rfl)) rfl ?_))
    have j_17 := (PLk_f (fun a i z => W_n W1 (tg_91 a i z) rfl) q1)
    refine E_175 hX (dp1 hd (by decide)) hG3 j_17 (n := l) (sg := sg) (fun r18 M24 hG20 F19 p_21 p_22 p_23 => ?_)
    have F25 := FR.c F4 F19 tg_90
    refine to_go (pc := 14) rw_177_14 (to_r0 (pc := 31) rw_177_31 ?_)
    exact h r18 M24 hG20 F25 (by omega) (by omega) (by omega)
set_option maxRecDepth 4000 in
set_option maxHeartbeats 0 in
theorem E_115 {X : mm_X} {d : Nat} {M : mm_M} {Q : Option Value → mm_M → Prop} {w : Int32} {l : Int32} {p : Nat} {pz : Nat} {q : Nat} {qz : Nat} {sg : x_S} (hX : g_X X) (hd : 2 ≤ d) (hG : g_G M) (hp : p = 49 ∨ p = 58) (hpz : pz = 49 ∨ pz = 58) (hq : q = 67 ∨ q = 72) (hqz : qz = 67 ∨ qz = 72) (q1 : g_PQ M p pz q qz) (q2 : PLs M p sg) (h : ∀ (r : Int32) (M1 : mm_M), g_G M1 → FR md_0 M M1 → (w.toInt = 0 → r.toInt = x_fn sg 1 l.toInt) → (w.toInt = 1 → r.toInt = x_fn sg 6 l.toInt) → (¬ w.toInt = 0 ∧ ¬ w.toInt = 1 → r.toInt = -1) → Q (some (.int r)) M1) : mm_T X d 115 0 [.ref 0, .int w, .int l] [] M Q := by
  have F0 : FR md_0 M M := FR.rf
  have z_1 := q2.2.1
  have z_2 := q2.2.2.1
  have z_3 := q2.2.2.2.1
  have z_4 := q2.1
  have z_5 := z_4.1
  have z_6 := z_4.2.1
  have z_7 := z_4.2.2.1
  have z_8 := z_4.2.2.2.1
  have z_9 := z_4.2.2.2.2.1
  have z_10 := z_4.2.2.2.2.2.1
  have b_11 := g_b hG (a := p) (i := 2) (lo := 0) (hi := 8) (by rcases hp with rfl | rfl <;> rfl) (by rcases hp with rfl | rfl <;> rfl)
  have b_12 := g_b hG (a := p) (i := 3) (lo := 0) (hi := 12) (by rcases hp with rfl | rfl <;> rfl) (by rcases hp with rfl | rfl <;> rfl)
  refine to_in (pc := 0) rw_115_0 rfl (b_ine (pc := 1) rw_115_1 (A := w.toInt) rfl (fun h13 => ?_) (fun h13 => ?_))
  · refine to_in (pc := 13) rw_115_13 rfl (to_c (pc := 14) rw_115_14 (x := (1 : Int32)) rfl rfl (b_cne (pc := 15) rw_115_15 (A := w.toInt) (B := 1) rfl rfl (fun h14 => ?_) (fun h14 => ?_)))
    · refine to_c (pc := 29) rw_115_29 (x := (-1 : Int32)) rfl rfl (to_r0 (pc := 30) rw_115_30 ?_)
      have k_15 : (-1 : Int32).toInt = -1 := rfl
      exact h (-1 : Int32) M hG F0 (by omega) (by omega) (by omega)
    · refine to_an (pc := 18) rw_115_18 rfl (tt_gR (pc := 19) rw_115_19 (g_o hG rfl) q1.1 (to_in (pc := 22) rw_115_22 rfl (s_v (pc := 23) rw_115_23 (dp0 hd (by decide)) (ls0 := [.ref p, .int l]) rfl (Nat.le_of_ble_eq_true rfl) (Nat.le_of_ble_eq_true rfl) rfl (to_rc rfl rfl rfl (g_o hG (by rcases hp with rfl | rfl <;> rfl))) rfl (to_an (pc := 0) rw_53_0 rfl (s_gR (pc := 1) rw_53_1 hG (by rcases hp with rfl | rfl <;> rfl) (v := (p + 6)) (by rcases hp with rfl | rfl <;> rfl) (to_an (pc := 4) rw_53_4 rfl (tt_gI (pc := 5) rw_53_5 (g_o hG (by rcases hp with rfl | rfl <;> rfl)) (v := (M.2.1 p 3)) rfl (to_in (pc := 8) rw_53_8 rfl (s_s (pc := 9) rw_53_9 (dp1 hd (by decide)) (ls0 := [.ref (p + 6), .int (M.2.1 p 3), .int l, .null]) rfl (Nat.le_of_ble_eq_true rfl) (Nat.le_of_ble_eq_true rfl) rfl (to_rcs rfl rfl) rfl (E_54g hX (dp2 hd (by decide)) hG (by omega) (by omega) (by omega) (g := (p + 6)) (s := (M.2.1 p 3)) (x := l) (fun r16 M22 hG18 F17 p_19 p_20 p_21 => ?_)))))))))))
      have F23 := FR.c F0 F17 tg_29
      have z_24 := PLs_w (v := l.toInt) q2 (n := (M.2.1 p 3).toInt) (by omega)
      refine to_r0 (pc := 12) rw_53_12 (to_go (pc := 26) rw_115_26 (to_r0 (pc := 30) rw_115_30 ?_))
      exact h r16 M22 hG18 F23 (by omega) (by omega) (by omega)
  · refine to_an (pc := 4) rw_115_4 rfl (tt_gR (pc := 5) rw_115_5 (g_o hG rfl) q1.1 (to_in (pc := 8) rw_115_8 rfl (s_v (pc := 9) rw_115_9 (dp0 hd (by decide)) (ls0 := [.ref p, .int l]) rfl (Nat.le_of_ble_eq_true rfl) (Nat.le_of_ble_eq_true rfl) rfl (to_rc rfl rfl rfl (g_o hG (by rcases hp with rfl | rfl <;> rfl))) rfl (to_an (pc := 0) rw_52_0 rfl (s_gR (pc := 1) rw_52_1 hG (by rcases hp with rfl | rfl <;> rfl) (v := (p + 1)) (by rcases hp with rfl | rfl <;> rfl) (to_an (pc := 4) rw_52_4 rfl (tt_gI (pc := 5) rw_52_5 (g_o hG (by rcases hp with rfl | rfl <;> rfl)) (v := (M.2.1 p 2)) rfl (to_in (pc := 8) rw_52_8 rfl (s_s (pc := 9) rw_52_9 (dp1 hd (by decide)) (ls0 := [.ref (p + 1), .int (M.2.1 p 2), .int l, .null]) rfl (Nat.le_of_ble_eq_true rfl) (Nat.le_of_ble_eq_true rfl) rfl (to_rcs rfl rfl) rfl (E_54f hX (dp2 hd (by decide)) hG (by omega) (by omega) (by omega) (f := (p + 1)) (s := (M.2.1 p 2)) (x := l) (fun r25 M31 hG27 F26 p_28 p_29 p_30 => ?_)))))))))))
    have F32 := FR.c F0 F26 tg_29
    have z_33 := PLs_n (v := l.toInt) q2 (n := (M.2.1 p 2).toInt) (by omega)
    refine to_r0 (pc := 12) rw_52_12 (to_r0 (pc := 12) rw_115_12 ?_)
    exact h r25 M31 hG27 F32 (by omega) (by omega) (by omega)
set_option maxRecDepth 4000 in
set_option maxHeartbeats 0 in
theorem E_126 {X : mm_X} {d : Nat} {M : mm_M} {Q : Option Value → mm_M → Prop} {c : Int32} {p : Nat} {pz : Nat} {q : Nat} {qz : Nat} (hX : g_X X) (hd : 1 ≤ d) (hG : g_G M) (hp : p = 49 ∨ p = 58) (hpz : pz = 49 ∨ pz = 58) (hq : q = 67 ∨ q = 72) (hqz : qz = 67 ∨ qz = 72) (q1 : g_PQ M p pz q qz) (q2 : PI M) (q3 : NI M) (q4 : QI M) (h : ∀ (r : Int32) (M1 : mm_M), g_G M1 → FR md_17 M M1 → (0 ≤ r.toInt) → (r.toInt ≤ 1) → (r.toInt = 1 → 0 ≤ c.toInt ∧ c.toInt < (M.2.1 0 12).toInt) → (r.toInt = 0 → ¬ (0 ≤ c.toInt ∧ c.toInt < (M.2.1 0 12).toInt)) → PI M1 → NI M1 → QI M1 → (r.toInt = 0 → (M1.2.1 17 4).toInt = (M.2.1 17 4).toInt) → ((r.toInt = 1 → M1.2.1 17 4 = M.2.1 17 4 ^^^ ((1 : Int32) <<< c))) → Q (some (.int r)) M1) : mm_T X d 126 0 [.ref 0, .int c] [] M Q := by
  have F0 : FR md_17 M M := FR.rf
  refine to_an (pc := 0) rw_126_0 rfl (to_in (pc := 1) rw_126_1 rfl (s_v (pc := 2) rw_126_2 (dp0 hd (by decide)) (ls0 := [.ref 0, .int c]) rfl (Nat.le_of_ble_eq_true rfl) (Nat.le_of_ble_eq_true rfl) rfl (to_rc rfl rfl rfl (g_o hG rfl)) rfl (to_in (pc := 0) rw_140_0 rfl (b_ilt (pc := 1) rw_140_1 (A := c.toInt) rfl (fun h1 => ?_) (fun h1 => ?_)))))
  · refine to_c (pc := 16) rw_140_16 (x := (0 : Int32)) rfl rfl (s_r1 (pc := 17) rw_140_17 (A := 0) rfl (by decide) (b_ine_f (pc := 5) rw_126_5 (A := 0) rfl (by decide) (to_c (pc := 8) rw_126_8 (x := (0 : Int32)) rfl rfl (s_r1 (pc := 9) rw_126_9 (A := 0) rfl (by decide) ?_))))
    have k_2 : (0 : Int32).toInt = 0 := rfl
    exact h (0 : Int32) M hG F0 (by decide) (by decide) (by omega) (by omega) q2 q3 q4 (by omega) (fun z => absurd z (by decide))
  · refine to_in (pc := 4) rw_140_4 rfl (to_an (pc := 5) rw_140_5 rfl ?_)
    have b_3 := g_b hG (a := 0) (i := 12) (lo := 0) (hi := 30) rfl rfl
    refine tt_gI (pc := 6) rw_140_6 (g_o hG rfl) (v := (M.2.1 0 12)) rfl (b_cge (pc := 9) rw_140_9 (A := c.toInt) (B := (M.2.1 0 12).toInt) rfl rfl (fun h4 => ?_) (fun h4 => ?_))
    · refine to_c (pc := 16) rw_140_16 (x := (0 : Int32)) rfl rfl (s_r1 (pc := 17) rw_140_17 (A := 0) rfl (by decide) (b_ine_f (pc := 5) rw_126_5 (A := 0) rfl (by decide) (to_c (pc := 8) rw_126_8 (x := (0 : Int32)) rfl rfl (s_r1 (pc := 9) rw_126_9 (A := 0) rfl (by decide) ?_))))
      have k_5 : (0 : Int32).toInt = 0 := rfl
      exact h (0 : Int32) M hG F0 (by decide) (by decide) (by omega) (by omega) q2 q3 q4 (by omega) (fun z => absurd z (by decide))
    · refine to_c (pc := 12) rw_140_12 (x := (1 : Int32)) rfl rfl (to_go (pc := 13) rw_140_13 (s_r1 (pc := 17) rw_140_17 (A := 1) rfl (by decide) (b_ine_t (pc := 5) rw_126_5 (A := 1) rfl (by decide) (to_an (pc := 10) rw_126_10 rfl (s_gR (pc := 11) rw_126_11 hG rfl (v := 17) rfl (to_dupr (pc := 14) rw_126_14 (tt_gI (pc := 15) rw_126_15 (g_o hG rfl) (v := (M.2.1 17 4)) rfl (to_c (pc := 18) rw_126_18 (x := (1 : Int32)) rfl rfl (to_in (pc := 19) rw_126_19 rfl (s_opE (pc := 20) rw_126_20 (w := (1 : Int32) <<< c) rfl (fun v6 e7 => s_opE (pc := 21) rw_126_21 (w := (M.2.1 17 4) ^^^ v6) rfl (fun v8 e9 => ?_))))))))))))
      refine s_pI (pc := 22) rw_126_22 hG rfl (fun M11 W10 => ?_)
      have hG12 := g_wf hG W10 rfl rfl (by decide)
      have F13 := FR.w F0 W10 (show 17 = 17 by decide)
      refine to_c (pc := 25) rw_126_25 (x := (1 : Int32)) rfl rfl (s_r1 (pc := 26) rw_126_26 (A := 1) rfl (by decide) ?_)
      have k_14 : (1 : Int32).toInt = 1 := rfl
      have j_15 := (PI_f (fun a i z => W_n W10 (by /-r17,4-/ omega) rfl) q2)
      have j_16 := (NI_f (fun a i z => W_n W10 (tg_92 a i z) rfl) q3)
      have j_17 := (QI_f (fun a i z => W_n W10 (tg_93 a i z) rfl) q4)
      have c_18 : M11.2.1 17 4 = v8 := (W_e W10)
      have t_19 : (M11.2.1 17 4).toInt = v8.toInt := congrArg Int32.toInt c_18
      exact h (1 : Int32) M11 hG12 F13 (by decide) (by decide) (by omega) (by omega) j_15 j_16 j_17 (by omega) (fun _ => (c_18).trans (by rw [← e9, ← e7]))
set_option maxRecDepth 4000 in
set_option maxHeartbeats 0 in
theorem E_203 {X : mm_X} {d : Nat} {M : mm_M} {Q : Option Value → mm_M → Prop} {c : Int32} (hX : g_X X) (hd : 1 ≤ d) (hG : g_G M) (h : ∀ (r : Int32) (M1 : mm_M), g_G M1 → FR md_tu M M1 → (0 ≤ r.toInt) → (r.toInt ≤ 1) → (r.toInt = 1 → 0 ≤ c.toInt ∧ c.toInt < (M.2.1 77 28).toInt) → (r.toInt = 0 → ¬ (0 ≤ c.toInt ∧ c.toInt < (M.2.1 77 28).toInt)) → (r.toInt = 0 → (M1.2.1 77 41).toInt = (M.2.1 77 41).toInt) → ((r.toInt = 1 → M1.2.1 77 41 = M.2.1 77 41 ^^^ ((1 : Int32) <<< c))) → Q (some (.int r)) M1) : mm_T X d 202 0 [.ref 77, .int c] [] M Q := by
  have F0 : FR md_tu M M := FR.rf
  refine to_an (pc := 0) rw_203_0 rfl (to_c (pc := 1) rw_203_1 (x := (0 : Int32)) rfl rfl (s_pI (pc := 2) rw_203_2 hG rfl (fun M2 W1 => ?_)))
  have hG3 := g_wf hG W1 rfl rfl (by decide)
  have F4 := FR.w F0 W1 (show 77 = 77 ∧ (2 = 2 ∨ 2 = 41) by decide)
  refine to_an (pc := 5) rw_203_5 rfl (to_in (pc := 6) rw_203_6 rfl (s_v (pc := 7) rw_203_7 (dp0 hd (by decide)) (ls0 := [.ref 77, .int c]) rfl (Nat.le_of_ble_eq_true rfl) (Nat.le_of_ble_eq_true rfl) rfl (to_rc rfl rfl rfl (g_o hG3 rfl)) rfl (to_in (pc := 0) rw_187_0 rfl (b_ilt (pc := 1) rw_187_1 (A := c.toInt) rfl (fun h5 => ?_) (fun h5 => ?_)))))
  · refine to_c (pc := 16) rw_187_16 (x := (0 : Int32)) rfl rfl (s_r1 (pc := 17) rw_187_17 (A := 0) rfl (by decide) (b_ine_f (pc := 10) rw_203_10 (A := 0) rfl (by decide) (to_c (pc := 13) rw_203_13 (x := (0 : Int32)) rfl rfl (s_r1 (pc := 14) rw_203_14 (A := 0) rfl (by decide) ?_))))
    have k_6 : (0 : Int32).toInt = 0 := rfl
    have c_7 : M2.2.1 77 41 = (M.2.1 77 41) := (W_n W1 (by decide) rfl)
    have t_8 : (M2.2.1 77 41).toInt = (M.2.1 77 41).toInt := congrArg Int32.toInt c_7
    exact h (0 : Int32) M2 hG3 F4 (by decide) (by decide) (by omega) (by omega) (by omega) (fun z => absurd z (by decide))
  · refine to_in (pc := 4) rw_187_4 rfl (to_an (pc := 5) rw_187_5 rfl ?_)
    have c_9 : M2.2.1 77 28 = (M.2.1 77 28) := (W_n W1 (by decide) rfl)
    have b_10 := g_b hG (a := 77) (i := 28) (lo := 0) (hi := 30) rfl rfl
    refine tt_gI (pc := 6) rw_187_6 (g_o hG3 rfl) (v := (M.2.1 77 28)) c_9 (b_cge (pc := 9) rw_187_9 (A := c.toInt) (B := (M.2.1 77 28).toInt) rfl rfl (fun h11 => ?_) (fun h11 => ?_))
    · refine to_c (pc := 16) rw_187_16 (x := (0 : Int32)) rfl rfl (s_r1 (pc := 17) rw_187_17 (A := 0) rfl (by decide) (b_ine_f (pc := 10) rw_203_10 (A := 0) rfl (by decide) (to_c (pc := 13) rw_203_13 (x := (0 : Int32)) rfl rfl (s_r1 (pc := 14) rw_203_14 (A := 0) rfl (by decide) ?_))))
      have k_12 : (0 : Int32).toInt = 0 := rfl
      have c_13 : M2.2.1 77 41 = (M.2.1 77 41) := (W_n W1 (by decide) rfl)
      have t_14 : (M2.2.1 77 41).toInt = (M.2.1 77 41).toInt := congrArg Int32.toInt c_13
      exact h (0 : Int32) M2 hG3 F4 (by decide) (by decide) (by omega) (by omega) (by omega) (fun z => absurd z (by decide))
    · refine to_c (pc := 12) rw_187_12 (x := (1 : Int32)) rfl rfl (to_go (pc := 13) rw_187_13 (s_r1 (pc := 17) rw_187_17 (A := 1) rfl (by decide) (b_ine_t (pc := 10) rw_203_10 (A := 1) rfl (by decide) (to_an (pc := 15) rw_203_15 rfl (to_dupr (pc := 16) rw_203_16 ?_)))))
      have c_15 : M2.2.1 77 41 = (M.2.1 77 41) := (W_n W1 (by decide) rfl)
      refine tt_gI (pc := 17) rw_203_17 (g_o hG3 rfl) (v := (M.2.1 77 41)) c_15 (to_c (pc := 20) rw_203_20 (x := (1 : Int32)) rfl rfl (to_in (pc := 21) rw_203_21 rfl (s_opE (pc := 22) rw_203_22 (w := (1 : Int32) <<< c) rfl (fun v16 e17 => s_opE (pc := 23) rw_203_23 (w := (M.2.1 77 41) ^^^ v16) rfl (fun v18 e19 => s_pI (pc := 24) rw_203_24 hG3 rfl (fun M21 W20 => ?_))))))
      have hG22 := g_wf hG3 W20 rfl rfl (by decide)
      have F23 := FR.w F4 W20 (show 77 = 77 ∧ (41 = 2 ∨ 41 = 41) by decide)
      refine to_c (pc := 27) rw_203_27 (x := (1 : Int32)) rfl rfl (s_r1 (pc := 28) rw_203_28 (A := 1) rfl (by decide) ?_)
      have k_24 : (1 : Int32).toInt = 1 := rfl
      have c_25 : M21.2.1 77 41 = v18 := (W_e W20)
      have t_26 : (M21.2.1 77 41).toInt = v18.toInt := congrArg Int32.toInt c_25
      exact h (1 : Int32) M21 hG22 F23 (by decide) (by decide) (by omega) (by omega) (by omega) (fun _ => (c_25).trans (by rw [← e19, ← e17]))
set_option maxRecDepth 4000 in
set_option maxHeartbeats 0 in
theorem E_116 {X : mm_X} {d : Nat} {M : mm_M} {Q : Option Value → mm_M → Prop} {f : Int32} {v : Int32} {p : Nat} {pz : Nat} {q : Nat} {qz : Nat} {sg : x_S} (hX : g_X X) (hd : 3 ≤ d) (hG : g_G M) (hp : p = 49 ∨ p = 58) (hpz : pz = 49 ∨ pz = 58) (hq : q = 67 ∨ q = 72) (hqz : qz = 67 ∨ qz = 72) (q1 : g_PQ M p pz q qz) (q2 : PLs M p sg) (q3 : g_W2 X) (h : ∀ (r : Int64) (M1 : mm_M), g_G M1 → FR md_0 M M1 → (r = x_cd sg f.toInt v.toInt) → Q (some (.long r)) M1) : mm_T X d 116 0 [.ref 0, .int f, .int v] [] M Q := by
  have F0 : FR md_0 M M := FR.rf
  have z_1 := q2.2.1
  have z_2 := q2.2.2.1
  have z_3 := q2.2.2.2.1
  have z_4 := q2.1
  have z_5 := z_4.1
  have z_6 := z_4.2.1
  have z_7 := z_4.2.2.1
  have z_8 := z_4.2.2.2.1
  have z_9 := z_4.2.2.2.2.1
  have z_10 := z_4.2.2.2.2.2.1
  have b_11 := g_b hG (a := p) (i := 2) (lo := 0) (hi := 8) (by rcases hp with rfl | rfl <;> rfl) (by rcases hp with rfl | rfl <;> rfl)
  have b_12 := g_b hG (a := p) (i := 3) (lo := 0) (hi := 12) (by rcases hp with rfl | rfl <;> rfl) (by rcases hp with rfl | rfl <;> rfl)
  refine to_an (pc := 0) rw_116_0 rfl (tt_gR (pc := 1) rw_116_1 (g_o hG rfl) q1.1 (to_in (pc := 4) rw_116_4 rfl (to_in (pc := 5) rw_116_5 rfl (s_v (pc := 6) rw_116_6 (dp0 hd (by decide)) (ls0 := [.ref p, .int f, .int v, .null, .null]) rfl (Nat.le_of_ble_eq_true rfl) (Nat.le_of_ble_eq_true rfl) rfl (to_rc rfl rfl rfl (g_o hG (by rcases hp with rfl | rfl <;> rfl))) rfl (to_an (pc := 0) rw_49_0 rfl (to_in (pc := 1) rw_49_1 rfl (to_in (pc := 2) rw_49_2 rfl (s_v (pc := 3) rw_49_3 (dp1 hd (by decide)) (ls0 := [.ref p, .int f, .int v]) rfl (Nat.le_of_ble_eq_true rfl) (Nat.le_of_ble_eq_true rfl) rfl (to_rc rfl rfl rfl (g_o hG (by rcases hp with rfl | rfl <;> rfl))) rfl (to_an (pc := 0) rw_46_0 rfl (to_in (pc := 1) rw_46_1 rfl (s_v (pc := 2) rw_46_2 (dp2 hd (by decide)) (ls0 := [.ref p, .int f]) rfl (Nat.le_of_ble_eq_true rfl) (Nat.le_of_ble_eq_true rfl) rfl (to_rc rfl rfl rfl (g_o hG (by rcases hp with rfl | rfl <;> rfl))) rfl ?_)))))))))))
  refine to_in (pc := 0) rw_43_0 rfl (b_ilt (pc := 1) rw_43_1 (A := f.toInt) rfl (fun h13 => ?_) (fun h13 => ?_))
  · refine to_c (pc := 16) rw_43_16 (x := (0 : Int32)) rfl rfl (s_r1 (pc := 17) rw_43_17 (A := 0) rfl (by decide) (b_ieq_t (pc := 5) rw_46_5 (A := 0) rfl (by decide) (to_c (pc := 34) rw_46_34 (x := (0 : Int32)) rfl rfl (s_r1 (pc := 35) rw_46_35 (A := 0) rfl (by decide) (b_ine_f (pc := 6) rw_49_6 (A := 0) rfl (by decide) (to_cl (pc := 9) rw_49_9 rfl (x := (0 : Int64)) rfl (to_rl (pc := 10) rw_49_10 (to_rl (pc := 9) rw_116_9 ?_))))))))
    exact h (0 : Int64) M hG F0 (x_cd_0 (by omega))
  · refine to_in (pc := 4) rw_43_4 rfl (to_an (pc := 5) rw_43_5 rfl (tt_gI (pc := 6) rw_43_6 (g_o hG (by rcases hp with rfl | rfl <;> rfl)) (v := (M.2.1 p 2)) rfl (b_cge (pc := 9) rw_43_9 (A := f.toInt) (B := (M.2.1 p 2).toInt) rfl rfl (fun h14 => ?_) (fun h14 => ?_))))
    · refine to_c (pc := 16) rw_43_16 (x := (0 : Int32)) rfl rfl (s_r1 (pc := 17) rw_43_17 (A := 0) rfl (by decide) (b_ieq_t (pc := 5) rw_46_5 (A := 0) rfl (by decide) (to_c (pc := 34) rw_46_34 (x := (0 : Int32)) rfl rfl (s_r1 (pc := 35) rw_46_35 (A := 0) rfl (by decide) (b_ine_f (pc := 6) rw_49_6 (A := 0) rfl (by decide) (to_cl (pc := 9) rw_49_9 rfl (x := (0 : Int64)) rfl (to_rl (pc := 10) rw_49_10 (to_rl (pc := 9) rw_116_9 ?_))))))))
      exact h (0 : Int64) M hG F0 (x_cd_0 (by omega))
    · refine to_c (pc := 12) rw_43_12 (x := (1 : Int32)) rfl rfl (to_go (pc := 13) rw_43_13 (s_r1 (pc := 17) rw_43_17 (A := 1) rfl (by decide) (b_ieq_f (pc := 5) rw_46_5 (A := 1) rfl (by decide) (to_an (pc := 8) rw_46_8 rfl (to_in (pc := 9) rw_46_9 rfl (s_v (pc := 10) rw_46_10 (dp2 hd (by decide)) (ls0 := [.ref p, .int f]) rfl (Nat.le_of_ble_eq_true rfl) (Nat.le_of_ble_eq_true rfl) rfl (to_rc rfl rfl rfl (g_o hG (by rcases hp with rfl | rfl <;> rfl))) rfl (to_an (pc := 0) rw_45_0 rfl (s_gR (pc := 1) rw_45_1 hG (by rcases hp with rfl | rfl <;> rfl) (v := (p + 2)) (by rcases hp with rfl | rfl <;> rfl) (to_in (pc := 4) rw_45_4 rfl (s_ial (pc := 5) rw_45_5 hG (by rcases hp with rfl | rfl <;> rfl) (n := 8) (by rcases hp with rfl | rfl <;> rfl) (by rcases hp with rfl | rfl <;> rfl) (A := f.toInt) rfl (by omega) (by omega) (lo := 0) (hi := 3) (by rcases hp with rfl | rfl <;> rfl) (by rcases hp with rfl | rfl <;> rfl) (fun v15 w_16 _ _ => ?_)))))))))))
      have z_17 := PLs_r q2 2 (by decide) (by decide) (k := f.toInt) (by omega) (by omega) w_16
      refine to_c (pc := 6) rw_45_6 (x := (3 : Int32)) rfl rfl (b_cne (pc := 7) rw_45_7 (A := v15.toInt) (B := 3) rfl rfl (fun h18 => ?_) (fun h18 => ?_))
      · refine to_c (pc := 14) rw_45_14 (x := (0 : Int32)) rfl rfl (s_r1 (pc := 15) rw_45_15 (A := 0) rfl (by decide) (b_ine_f (pc := 13) rw_46_13 (A := 0) rfl (by decide) (to_in (pc := 16) rw_46_16 rfl (b_ilt (pc := 17) rw_46_17 (A := v.toInt) rfl (fun h19 => ?_) (fun h19 => ?_)))))
        · refine to_c (pc := 34) rw_46_34 (x := (0 : Int32)) rfl rfl (s_r1 (pc := 35) rw_46_35 (A := 0) rfl (by decide) (b_ine_f (pc := 6) rw_49_6 (A := 0) rfl (by decide) (to_cl (pc := 9) rw_49_9 rfl (x := (0 : Int64)) rfl (to_rl (pc := 10) rw_49_10 (to_rl (pc := 9) rw_116_9 ?_)))))
          exact h (0 : Int64) M hG F0 (x_cd_0 (by omega))
        · refine to_in (pc := 20) rw_46_20 rfl (to_an (pc := 21) rw_46_21 rfl (s_gR (pc := 22) rw_46_22 hG (by rcases hp with rfl | rfl <;> rfl) (v := (p + 5)) (by rcases hp with rfl | rfl <;> rfl) (to_in (pc := 25) rw_46_25 rfl (s_ial (pc := 26) rw_46_26 hG (by rcases hp with rfl | rfl <;> rfl) (n := 8) (by rcases hp with rfl | rfl <;> rfl) (by rcases hp with rfl | rfl <;> rfl) (A := f.toInt) rfl (by omega) (by omega) (lo := 0) (hi := 24) (by rcases hp with rfl | rfl <;> rfl) (by rcases hp with rfl | rfl <;> rfl) (fun v20 w_21 _ _ => ?_)))))
          have z_22 := PLs_r q2 5 (by decide) (by decide) (k := f.toInt) (by omega) (by omega) w_21
          refine b_cge (pc := 27) rw_46_27 (A := v.toInt) (B := v20.toInt) rfl rfl (fun h23 => ?_) (fun h23 => ?_)
          · refine to_c (pc := 34) rw_46_34 (x := (0 : Int32)) rfl rfl (s_r1 (pc := 35) rw_46_35 (A := 0) rfl (by decide) (b_ine_f (pc := 6) rw_49_6 (A := 0) rfl (by decide) (to_cl (pc := 9) rw_49_9 rfl (x := (0 : Int64)) rfl (to_rl (pc := 10) rw_49_10 (to_rl (pc := 9) rw_116_9 ?_)))))
            exact h (0 : Int64) M hG F0 (x_cd_0 (by omega))
          · refine to_c (pc := 30) rw_46_30 (x := (1 : Int32)) rfl rfl (to_go (pc := 31) rw_46_31 (s_r1 (pc := 35) rw_46_35 (A := 1) rfl (by decide) (b_ine_t (pc := 6) rw_49_6 (A := 1) rfl (by decide) (to_cl (pc := 11) rw_49_11 rfl (x := (1 : Int64)) rfl (to_in (pc := 12) rw_49_12 rfl (to_2s (pc := 13) rw_49_13 (v := ((1 : Int64) <<< (v.toInt64 &&& 63))) rfl (to_lsn (pc := 14) rw_49_14 (ls2 := [.ref p, .int f, .int v, .long ((1 : Int64) <<< (v.toInt64 &&& 63)), .null]) rfl rfl (to_an (pc := 15) rw_49_15 rfl (s_gR (pc := 16) rw_49_16 hG (by rcases hp with rfl | rfl <;> rfl) (v := (p + 2)) (by rcases hp with rfl | rfl <;> rfl) (to_in (pc := 19) rw_49_19 rfl (s_ialk (pc := 20) rw_49_20 hG (by rcases hp with rfl | rfl <;> rfl) (n := 8) (by rcases hp with rfl | rfl <;> rfl) (by rcases hp with rfl | rfl <;> rfl) (A := f.toInt) rfl (by omega) (by omega) (v := v15) w_16 ?_)))))))))))
            refine to_c (pc := 21) rw_49_21 (x := (1 : Int32)) rfl rfl (b_cne (pc := 22) rw_49_22 (A := v15.toInt) (B := 1) rfl rfl (fun h26 => ?_) (fun h26 => ?_))
            · refine to_an (pc := 43) rw_49_43 rfl (s_gR (pc := 44) rw_49_44 hG (by rcases hp with rfl | rfl <;> rfl) (v := (p + 2)) (by rcases hp with rfl | rfl <;> rfl) (to_in (pc := 47) rw_49_47 rfl (s_ialk (pc := 48) rw_49_48 hG (by rcases hp with rfl | rfl <;> rfl) (n := 8) (by rcases hp with rfl | rfl <;> rfl) (by rcases hp with rfl | rfl <;> rfl) (A := f.toInt) rfl (by omega) (by omega) (v := v15) w_16 (to_c (pc := 49) rw_49_49 (x := (2 : Int32)) rfl rfl (b_cne (pc := 50) rw_49_50 (A := v15.toInt) (B := 2) rfl rfl (fun h29 => ?_) (fun h29 => ?_))))))
              · refine to_ln (pc := 68) rw_49_68 rfl rfl rfl (to_an (pc := 69) rw_49_69 rfl (s_gR (pc := 70) rw_49_70 hG (by rcases hp with rfl | rfl <;> rfl) (v := (p + 3)) (by rcases hp with rfl | rfl <;> rfl) (to_in (pc := 73) rw_49_73 rfl (s_ial (pc := 74) rw_49_74 hG (by rcases hp with rfl | rfl <;> rfl) (n := 8) (by rcases hp with rfl | rfl <;> rfl) (by rcases hp with rfl | rfl <;> rfl) (A := f.toInt) rfl (by omega) (by omega) (lo := 0) (hi := 59) (by rcases hp with rfl | rfl <;> rfl) (by rcases hp with rfl | rfl <;> rfl) (fun v30 w_31 _ _ => ?_)))))
                have z_32 := PLs_r q2 3 (by decide) (by decide) (k := f.toInt) (by omega) (by omega) w_31
                refine to_2s (pc := 75) rw_49_75 (v := (((1 : Int64) <<< (v.toInt64 &&& 63)) <<< (v30.toInt64 &&& 63))) rfl (to_rl (pc := 76) rw_49_76 (to_rl (pc := 9) rw_116_9 ?_))
                exact h (((1 : Int64) <<< (v.toInt64 &&& 63)) <<< (v30.toInt64 &&& 63)) M hG F0 (x_cd_b (by omega) (by omega) (by omega) (by omega) (by omega))
              · refine to_in (pc := 53) rw_49_53 rfl (s_gs (pc := 54) rw_49_54 (s_xlen (pc := 57) rw_49_57 hX (e := 3) (n := 10) rfl (v := (10 : Int32)) rfl (b_cge (pc := 58) rw_49_58 (A := v.toInt) (B := 10) rfl rfl (fun h33 => ?_) (fun h33 => ?_))))
                · refine to_ln (pc := 68) rw_49_68 rfl rfl rfl (to_an (pc := 69) rw_49_69 rfl (s_gR (pc := 70) rw_49_70 hG (by rcases hp with rfl | rfl <;> rfl) (v := (p + 3)) (by rcases hp with rfl | rfl <;> rfl) (to_in (pc := 73) rw_49_73 rfl (s_ial (pc := 74) rw_49_74 hG (by rcases hp with rfl | rfl <;> rfl) (n := 8) (by rcases hp with rfl | rfl <;> rfl) (by rcases hp with rfl | rfl <;> rfl) (A := f.toInt) rfl (by omega) (by omega) (lo := 0) (hi := 59) (by rcases hp with rfl | rfl <;> rfl) (by rcases hp with rfl | rfl <;> rfl) (fun v34 w_35 _ _ => ?_)))))
                  have z_36 := PLs_r q2 3 (by decide) (by decide) (k := f.toInt) (by omega) (by omega) w_35
                  refine to_2s (pc := 75) rw_49_75 (v := (((1 : Int64) <<< (v.toInt64 &&& 63)) <<< (v34.toInt64 &&& 63))) rfl (to_rl (pc := 76) rw_49_76 (to_rl (pc := 9) rw_116_9 ?_))
                  exact h (((1 : Int64) <<< (v.toInt64 &&& 63)) <<< (v34.toInt64 &&& 63)) M hG F0 (x_cd_b (by omega) (by omega) (by omega) (by omega) (by omega))
                · refine s_gs (pc := 61) rw_49_61 (to_in (pc := 64) rw_49_64 rfl (s_xalE (pc := 65) rw_49_65 hX (e := 3) (n := 10) rfl (A := v.toInt) rfl (by omega) (by omega) (fun v37 w_38 => ?_)))
                  have z_39 := ((q3 (v.toInt).toNat (by omega)).2.symm.trans w_38)
                  refine to_i2l (pc := 66) rw_49_66 (v := (v37.toInt64)) rfl (to_lsn (pc := 67) rw_49_67 (ls2 := [.ref p, .int f, .int v, .long (v37.toInt64), .null]) rfl rfl (to_ln (pc := 68) rw_49_68 rfl rfl rfl (to_an (pc := 69) rw_49_69 rfl (s_gR (pc := 70) rw_49_70 hG (by rcases hp with rfl | rfl <;> rfl) (v := (p + 3)) (by rcases hp with rfl | rfl <;> rfl) (to_in (pc := 73) rw_49_73 rfl (s_ial (pc := 74) rw_49_74 hG (by rcases hp with rfl | rfl <;> rfl) (n := 8) (by rcases hp with rfl | rfl <;> rfl) (by rcases hp with rfl | rfl <;> rfl) (A := f.toInt) rfl (by omega) (by omega) (lo := 0) (hi := 59) (by rcases hp with rfl | rfl <;> rfl) (by rcases hp with rfl | rfl <;> rfl) (fun v40 w_41 _ _ => ?_)))))))
                  have z_42 := PLs_r q2 3 (by decide) (by decide) (k := f.toInt) (by omega) (by omega) w_41
                  refine to_2s (pc := 75) rw_49_75 (v := ((v37.toInt64) <<< (v40.toInt64 &&& 63))) rfl (to_rl (pc := 76) rw_49_76 (to_rl (pc := 9) rw_116_9 ?_))
                  exact h ((v37.toInt64) <<< (v40.toInt64 &&& 63)) M hG F0 (x_cd_p (by omega) (by omega) (by omega) z_39)
            · refine to_in (pc := 25) rw_49_25 rfl (s_gs (pc := 26) rw_49_26 (s_xlen (pc := 29) rw_49_29 hX (e := 2) (n := 10) rfl (v := (10 : Int32)) rfl (b_cge (pc := 30) rw_49_30 (A := v.toInt) (B := 10) rfl rfl (fun h43 => ?_) (fun h43 => ?_))))
              · refine to_an (pc := 43) rw_49_43 rfl (s_gR (pc := 44) rw_49_44 hG (by rcases hp with rfl | rfl <;> rfl) (v := (p + 2)) (by rcases hp with rfl | rfl <;> rfl) (to_in (pc := 47) rw_49_47 rfl (s_ialk (pc := 48) rw_49_48 hG (by rcases hp with rfl | rfl <;> rfl) (n := 8) (by rcases hp with rfl | rfl <;> rfl) (by rcases hp with rfl | rfl <;> rfl) (A := f.toInt) rfl (by omega) (by omega) (v := v15) w_16 (to_c (pc := 49) rw_49_49 (x := (2 : Int32)) rfl rfl (b_cne_t (pc := 50) rw_49_50 (A := v15.toInt) (B := 2) rfl rfl (by omega) (to_ln (pc := 68) rw_49_68 rfl rfl rfl (to_an (pc := 69) rw_49_69 rfl (s_gR (pc := 70) rw_49_70 hG (by rcases hp with rfl | rfl <;> rfl) (v := (p + 3)) (by rcases hp with rfl | rfl <;> rfl) (to_in (pc := 73) rw_49_73 rfl (s_ial (pc := 74) rw_49_74 hG (by rcases hp with rfl | rfl <;> rfl) (n := 8) (by rcases hp with rfl | rfl <;> rfl) (by rcases hp with rfl | rfl <;> rfl) (A := f.toInt) rfl (by omega) (by omega) (lo := 0) (hi := 59) (by rcases hp with rfl | rfl <;> rfl) (by rcases hp with rfl | rfl <;> rfl) (fun v46 w_47 _ _ => ?_)))))))))))
                have z_48 := PLs_r q2 3 (by decide) (by decide) (k := f.toInt) (by omega) (by omega) w_47
                refine to_2s (pc := 75) rw_49_75 (v := (((1 : Int64) <<< (v.toInt64 &&& 63)) <<< (v46.toInt64 &&& 63))) rfl (to_rl (pc := 76) rw_49_76 (to_rl (pc := 9) rw_116_9 ?_))
                exact h (((1 : Int64) <<< (v.toInt64 &&& 63)) <<< (v46.toInt64 &&& 63)) M hG F0 (x_cd_b (by omega) (by omega) (by omega) (by omega) (by omega))
              · refine s_gs (pc := 33) rw_49_33 (to_in (pc := 36) rw_49_36 rfl (s_xalE (pc := 37) rw_49_37 hX (e := 2) (n := 10) rfl (A := v.toInt) rfl (by omega) (by omega) (fun v49 w_50 => ?_)))
                have z_51 := ((q3 (v.toInt).toNat (by omega)).1.symm.trans w_50)
                refine to_i2l (pc := 38) rw_49_38 (v := (v49.toInt64)) rfl (to_lsn (pc := 39) rw_49_39 (ls2 := [.ref p, .int f, .int v, .long (v49.toInt64), .null]) rfl rfl (to_go (pc := 40) rw_49_40 (to_ln (pc := 68) rw_49_68 rfl rfl rfl (to_an (pc := 69) rw_49_69 rfl (s_gR (pc := 70) rw_49_70 hG (by rcases hp with rfl | rfl <;> rfl) (v := (p + 3)) (by rcases hp with rfl | rfl <;> rfl) (to_in (pc := 73) rw_49_73 rfl (s_ial (pc := 74) rw_49_74 hG (by rcases hp with rfl | rfl <;> rfl) (n := 8) (by rcases hp with rfl | rfl <;> rfl) (by rcases hp with rfl | rfl <;> rfl) (A := f.toInt) rfl (by omega) (by omega) (lo := 0) (hi := 59) (by rcases hp with rfl | rfl <;> rfl) (by rcases hp with rfl | rfl <;> rfl) (fun v52 w_53 _ _ => ?_))))))))
                have z_54 := PLs_r q2 3 (by decide) (by decide) (k := f.toInt) (by omega) (by omega) w_53
                refine to_2s (pc := 75) rw_49_75 (v := ((v49.toInt64) <<< (v52.toInt64 &&& 63))) rfl (to_rl (pc := 76) rw_49_76 (to_rl (pc := 9) rw_116_9 ?_))
                exact h ((v49.toInt64) <<< (v52.toInt64 &&& 63)) M hG F0 (x_cd_s (by omega) (by omega) (by omega) z_51)
      · refine to_c (pc := 10) rw_45_10 (x := (1 : Int32)) rfl rfl (to_go (pc := 11) rw_45_11 (s_r1 (pc := 15) rw_45_15 (A := 1) rfl (by decide) (b_ine_t (pc := 13) rw_46_13 (A := 1) rfl (by decide) (to_c (pc := 34) rw_46_34 (x := (0 : Int32)) rfl rfl (s_r1 (pc := 35) rw_46_35 (A := 0) rfl (by decide) (b_ine_f (pc := 6) rw_49_6 (A := 0) rfl (by decide) (to_cl (pc := 9) rw_49_9 rfl (x := (0 : Int64)) rfl (to_rl (pc := 10) rw_49_10 (to_rl (pc := 9) rw_116_9 ?_)))))))))
        exact h (0 : Int64) M hG F0 (x_cd_0 (by omega))
set_option maxRecDepth 4000 in
set_option maxHeartbeats 0 in
theorem E_185 {X : mm_X} {d : Nat} {M : mm_M} {Q : Option Value → mm_M → Prop} {f : Int32} {v : Int32} {sg : x_S} (hX : g_X X) (hd : 3 ≤ d) (hG : g_G M) (q1 : FA M) (q2 : PLk M sg) (q3 : W8 M) (h : ∀ (r : Int64) (M1 : mm_M), g_G M1 → FR md_2 M M1 → (r = x_cd sg f.toInt v.toInt) → Q (some (.long r)) M1) : mm_T X d 184 0 [.ref 77, .int f, .int v] [] M Q := by
  have F0 : FR md_2 M M := FR.rf
  have z_1 := q2.2.1
  have z_2 := q2.2.2.1
  have z_3 := q2.2.2.2.1
  have z_4 := q2.1
  have z_5 := z_4.1
  have z_6 := z_4.2.1
  have z_7 := z_4.2.2.1
  have z_8 := z_4.2.2.2.1
  have z_9 := z_4.2.2.2.2.1
  have z_10 := z_4.2.2.2.2.2.1
  have b_11 := g_b hG (a := 77) (i := 11) (lo := 10) (hi := 60) rfl rfl
  have b_12 := g_b hG (a := 77) (i := 12) (lo := 0) (hi := 8) rfl rfl
  have b_13 := g_b hG (a := 77) (i := 13) (lo := 0) (hi := 12) rfl rfl
  refine to_an (pc := 0) rw_185_0 rfl (to_c (pc := 1) rw_185_1 (x := (0 : Int32)) rfl rfl (s_pI (pc := 2) rw_185_2 hG rfl (fun M15 W14 => ?_)))
  have hG16 := g_wf hG W14 rfl rfl (by decide)
  have F17 := FR.w F0 W14 (show 77 = 77 ∧ 2 = 2 by decide)
  refine to_an (pc := 5) rw_185_5 rfl (to_in (pc := 6) rw_185_6 rfl (to_in (pc := 7) rw_185_7 rfl (s_v (pc := 8) rw_185_8 (dp0 hd (by decide)) (ls0 := [.ref 77, .int f, .int v]) rfl (Nat.le_of_ble_eq_true rfl) (Nat.le_of_ble_eq_true rfl) rfl (to_rc rfl rfl rfl (g_o hG16 rfl)) rfl (to_an (pc := 0) rw_184_0 rfl (to_in (pc := 1) rw_184_1 rfl (s_v (pc := 2) rw_184_2 (dp1 hd (by decide)) (ls0 := [.ref 77, .int f]) rfl (Nat.le_of_ble_eq_true rfl) (Nat.le_of_ble_eq_true rfl) rfl (to_rc rfl rfl rfl (g_o hG16 rfl)) rfl (to_an (pc := 0) rw_179_0 rfl (to_in (pc := 1) rw_179_1 rfl (s_v (pc := 2) rw_179_2 (dp2 hd (by decide)) (ls0 := [.ref 77, .int f]) rfl (Nat.le_of_ble_eq_true rfl) (Nat.le_of_ble_eq_true rfl) rfl (to_rc rfl rfl rfl (g_o hG16 rfl)) rfl (to_in (pc := 0) rw_178_0 rfl (b_ilt (pc := 1) rw_178_1 (A := f.toInt) rfl (fun h18 => ?_) (fun h18 => ?_))))))))))))
  · refine to_c (pc := 16) rw_178_16 (x := (0 : Int32)) rfl rfl (s_r1 (pc := 17) rw_178_17 (A := 0) rfl (by decide) (b_ieq_t (pc := 5) rw_179_5 (A := 0) rfl (by decide) (to_c (pc := 22) rw_179_22 (x := (0 : Int32)) rfl rfl (s_r1 (pc := 23) rw_179_23 (A := 0) rfl (by decide) (b_ieq_t (pc := 5) rw_184_5 (A := 0) rfl (by decide) (to_c (pc := 26) rw_184_26 (x := (0 : Int32)) rfl rfl (s_r1 (pc := 27) rw_184_27 (A := 0) rfl (by decide) (b_ieq_t (pc := 11) rw_185_11 (A := 0) rfl (by decide) (to_cl (pc := 23) rw_185_23 rfl (x := (0 : Int64)) rfl (to_rl (pc := 24) rw_185_24 ?_))))))))))
    exact h (0 : Int64) M15 hG16 F17 (x_cd_0 (by omega))
  · refine to_in (pc := 4) rw_178_4 rfl (to_an (pc := 5) rw_178_5 rfl ?_)
    have c_19 : M15.2.1 77 12 = (M.2.1 77 12) := (W_n W14 (by decide) rfl)
    refine tt_gI (pc := 6) rw_178_6 (g_o hG16 rfl) (v := (M.2.1 77 12)) c_19 (b_cge (pc := 9) rw_178_9 (A := f.toInt) (B := (M.2.1 77 12).toInt) rfl rfl (fun h20 => ?_) (fun h20 => ?_))
    · refine to_c (pc := 16) rw_178_16 (x := (0 : Int32)) rfl rfl (s_r1 (pc := 17) rw_178_17 (A := 0) rfl (by decide) (b_ieq_t (pc := 5) rw_179_5 (A := 0) rfl (by decide) (to_c (pc := 22) rw_179_22 (x := (0 : Int32)) rfl rfl (s_r1 (pc := 23) rw_179_23 (A := 0) rfl (by decide) (b_ieq_t (pc := 5) rw_184_5 (A := 0) rfl (by decide) (to_c (pc := 26) rw_184_26 (x := (0 : Int32)) rfl rfl (s_r1 (pc := 27) rw_184_27 (A := 0) rfl (by decide) (b_ieq_t (pc := 11) rw_185_11 (A := 0) rfl (by decide) (to_cl (pc := 23) rw_185_23 rfl (x := (0 : Int64)) rfl (to_rl (pc := 24) rw_185_24 ?_))))))))))
      exact h (0 : Int64) M15 hG16 F17 (x_cd_0 (by omega))
    · refine to_c (pc := 12) rw_178_12 (x := (1 : Int32)) rfl rfl (to_go (pc := 13) rw_178_13 (s_r1 (pc := 17) rw_178_17 (A := 1) rfl (by decide) (b_ieq_f (pc := 5) rw_179_5 (A := 1) rfl (by decide) (to_an (pc := 8) rw_179_8 rfl (s_gR (pc := 9) rw_179_9 hG16 rfl (v := 81) rfl (to_in (pc := 12) rw_179_12 rfl (s_ial (pc := 13) rw_179_13 hG16 rfl (n := 16) rfl rfl (A := f.toInt) rfl (by omega) (by omega) (lo := 0) (hi := 3) rfl rfl (fun v21 w_22 _ _ => ?_))))))))
      have j_23 := (PLk_f (fun a i z => W_n W14 (tg_91 a i z) rfl) q2)
      have z_24 := PLk_r j_23 2 81 rfl (by decide) (by decide) (k := f.toInt) (by omega) (by omega) w_22
      have t_25 := congrArg Int32.toInt w_22
      have j_27 := (FA_f (fun a i z => W_n W14 (tg_94 a i z) rfl) q1)
      have j_26 := FA_u j_27 (f.toInt).toNat
      refine to_c (pc := 14) rw_179_14 (x := (3 : Int32)) rfl rfl (b_ceq (pc := 15) rw_179_15 (A := v21.toInt) (B := 3) rfl rfl (fun h28 => ?_) (fun h28 => ?_))
      · refine to_c (pc := 22) rw_179_22 (x := (0 : Int32)) rfl rfl (s_r1 (pc := 23) rw_179_23 (A := 0) rfl (by decide) (b_ieq_t (pc := 5) rw_184_5 (A := 0) rfl (by decide) (to_c (pc := 26) rw_184_26 (x := (0 : Int32)) rfl rfl (s_r1 (pc := 27) rw_184_27 (A := 0) rfl (by decide) (b_ieq_t (pc := 11) rw_185_11 (A := 0) rfl (by decide) (to_cl (pc := 23) rw_185_23 rfl (x := (0 : Int64)) rfl (to_rl (pc := 24) rw_185_24 ?_)))))))
        exact h (0 : Int64) M15 hG16 F17 (x_cd_0 (by omega))
      · refine to_c (pc := 18) rw_179_18 (x := (1 : Int32)) rfl rfl (to_go (pc := 19) rw_179_19 (s_r1 (pc := 23) rw_179_23 (A := 1) rfl (by decide) (b_ieq_f (pc := 5) rw_184_5 (A := 1) rfl (by decide) (to_in (pc := 8) rw_184_8 rfl (b_ilt (pc := 9) rw_184_9 (A := v.toInt) rfl (fun h29 => ?_) (fun h29 => ?_))))))
        · refine to_c (pc := 26) rw_184_26 (x := (0 : Int32)) rfl rfl (s_r1 (pc := 27) rw_184_27 (A := 0) rfl (by decide) (b_ieq_t (pc := 11) rw_185_11 (A := 0) rfl (by decide) (to_cl (pc := 23) rw_185_23 rfl (x := (0 : Int64)) rfl (to_rl (pc := 24) rw_185_24 ?_))))
          exact h (0 : Int64) M15 hG16 F17 (x_cd_0 (by omega))
        · refine to_in (pc := 12) rw_184_12 rfl (to_an (pc := 13) rw_184_13 rfl (s_gR (pc := 14) rw_184_14 hG16 rfl (v := 84) rfl (to_in (pc := 17) rw_184_17 rfl (s_ial (pc := 18) rw_184_18 hG16 rfl (n := 16) rfl rfl (A := f.toInt) rfl (by omega) (by omega) (lo := 0) (hi := 24) rfl rfl (fun v30 w_31 _ _ => ?_)))))
          have z_32 := PLk_r j_23 5 84 rfl (by decide) (by decide) (k := f.toInt) (by omega) (by omega) w_31
          have t_33 := congrArg Int32.toInt w_31
          refine b_cge (pc := 19) rw_184_19 (A := v.toInt) (B := v30.toInt) rfl rfl (fun h34 => ?_) (fun h34 => ?_)
          · refine to_c (pc := 26) rw_184_26 (x := (0 : Int32)) rfl rfl (s_r1 (pc := 27) rw_184_27 (A := 0) rfl (by decide) (b_ieq_t (pc := 11) rw_185_11 (A := 0) rfl (by decide) (to_cl (pc := 23) rw_185_23 rfl (x := (0 : Int64)) rfl (to_rl (pc := 24) rw_185_24 ?_))))
            exact h (0 : Int64) M15 hG16 F17 (x_cd_0 (by omega))
          · refine to_c (pc := 22) rw_184_22 (x := (1 : Int32)) rfl rfl (to_go (pc := 23) rw_184_23 (s_r1 (pc := 27) rw_184_27 (A := 1) rfl (by decide) (b_ieq_f (pc := 11) rw_185_11 (A := 1) rfl (by decide) (to_an (pc := 14) rw_185_14 rfl (to_in (pc := 15) rw_185_15 rfl (to_in (pc := 16) rw_185_16 rfl (s_v (pc := 17) rw_185_17 (dp0 hd (by decide)) (ls0 := [.ref 77, .int f, .int v]) rfl (Nat.le_of_ble_eq_true rfl) (Nat.le_of_ble_eq_true rfl) rfl (to_rc rfl rfl rfl (g_o hG16 rfl)) rfl (to_an (pc := 0) rw_183_0 rfl (s_gR (pc := 1) rw_183_1 hG16 rfl (v := 81) rfl (to_in (pc := 4) rw_183_4 rfl (s_ialk (pc := 5) rw_183_5 hG16 rfl (n := 16) rfl rfl (A := f.toInt) rfl (by omega) (by omega) (v := v21) w_22 ?_)))))))))))
            refine b_ine (pc := 6) rw_183_6 (A := v21.toInt) rfl (fun h37 => ?_) (fun h37 => ?_)
            · refine to_an (pc := 15) rw_183_15 rfl (s_gR (pc := 16) rw_183_16 hG16 rfl (v := 81) rfl (to_in (pc := 19) rw_183_19 rfl (s_ialk (pc := 20) rw_183_20 hG16 rfl (n := 16) rfl rfl (A := f.toInt) rfl (by omega) (by omega) (v := v21) w_22 (to_c (pc := 21) rw_183_21 (x := (1 : Int32)) rfl rfl (b_cne (pc := 22) rw_183_22 (A := v21.toInt) (B := 1) rfl rfl (fun h40 => ?_) (fun h40 => ?_))))))
              · refine to_an (pc := 35) rw_183_35 rfl (s_gR (pc := 36) rw_183_36 hG16 rfl (v := 89) rfl (to_in (pc := 39) rw_183_39 rfl (s_ial (pc := 40) rw_183_40 hG16 rfl (n := 10) rfl rfl (A := v.toInt) rfl (by omega) (by omega) (lo := -2147483648) (hi := 2147483647) rfl rfl (fun v41 w_42 _ _ => ?_))))
                have j_43 := (W8_f (fun a i z => W_n W14 (tg_95 a i z) rfl) q3)
                have z_44 := ((j_43 (v.toInt).toNat (by omega)).2.symm.trans w_42)
                refine to_i2l (pc := 41) rw_183_41 (v := (v41.toInt64)) rfl (to_an (pc := 42) rw_183_42 rfl (s_gR (pc := 43) rw_183_43 hG16 rfl (v := 82) rfl (to_in (pc := 46) rw_183_46 rfl (s_ial (pc := 47) rw_183_47 hG16 rfl (n := 16) rfl rfl (A := f.toInt) rfl (by omega) (by omega) (lo := 0) (hi := 59) rfl rfl (fun v45 w_46 _ _ => ?_)))))
                have z_47 := PLk_r j_23 3 82 rfl (by decide) (by decide) (k := f.toInt) (by omega) (by omega) w_46
                have t_48 := congrArg Int32.toInt w_46
                refine to_2s (pc := 48) rw_183_48 (v := ((v41.toInt64) <<< (v45.toInt64 &&& 63))) rfl (to_rl (pc := 49) rw_183_49 (to_go (pc := 20) rw_185_20 (to_rl (pc := 24) rw_185_24 ?_)))
                exact h ((v41.toInt64) <<< (v45.toInt64 &&& 63)) M15 hG16 F17 (x_cd_p (by omega) (by omega) (by omega) z_44)
              · refine to_an (pc := 25) rw_183_25 rfl (s_gR (pc := 26) rw_183_26 hG16 rfl (v := 88) rfl (to_in (pc := 29) rw_183_29 rfl (s_ial (pc := 30) rw_183_30 hG16 rfl (n := 10) rfl rfl (A := v.toInt) rfl (by omega) (by omega) (lo := -2147483648) (hi := 2147483647) rfl rfl (fun v49 w_50 _ _ => ?_))))
                have j_51 := (W8_f (fun a i z => W_n W14 (tg_95 a i z) rfl) q3)
                have z_52 := ((j_51 (v.toInt).toNat (by omega)).1.symm.trans w_50)
                refine to_i2l (pc := 31) rw_183_31 (v := (v49.toInt64)) rfl (to_go (pc := 32) rw_183_32 (to_an (pc := 42) rw_183_42 rfl (s_gR (pc := 43) rw_183_43 hG16 rfl (v := 82) rfl (to_in (pc := 46) rw_183_46 rfl (s_ial (pc := 47) rw_183_47 hG16 rfl (n := 16) rfl rfl (A := f.toInt) rfl (by omega) (by omega) (lo := 0) (hi := 59) rfl rfl (fun v53 w_54 _ _ => ?_))))))
                have z_55 := PLk_r j_23 3 82 rfl (by decide) (by decide) (k := f.toInt) (by omega) (by omega) w_54
                have t_56 := congrArg Int32.toInt w_54
                refine to_2s (pc := 48) rw_183_48 (v := ((v49.toInt64) <<< (v53.toInt64 &&& 63))) rfl (to_rl (pc := 49) rw_183_49 (to_go (pc := 20) rw_185_20 (to_rl (pc := 24) rw_185_24 ?_)))
                exact h ((v49.toInt64) <<< (v53.toInt64 &&& 63)) M15 hG16 F17 (x_cd_s (by omega) (by omega) (by omega) z_52)
            · refine to_cl (pc := 9) rw_183_9 rfl (x := (1 : Int64)) rfl (to_in (pc := 10) rw_183_10 rfl (to_2s (pc := 11) rw_183_11 (v := ((1 : Int64) <<< (v.toInt64 &&& 63))) rfl (to_go (pc := 12) rw_183_12 (to_an (pc := 42) rw_183_42 rfl (s_gR (pc := 43) rw_183_43 hG16 rfl (v := 82) rfl (to_in (pc := 46) rw_183_46 rfl (s_ial (pc := 47) rw_183_47 hG16 rfl (n := 16) rfl rfl (A := f.toInt) rfl (by omega) (by omega) (lo := 0) (hi := 59) rfl rfl (fun v57 w_58 _ _ => ?_))))))))
              have z_59 := PLk_r j_23 3 82 rfl (by decide) (by decide) (k := f.toInt) (by omega) (by omega) w_58
              have t_60 := congrArg Int32.toInt w_58
              refine to_2s (pc := 48) rw_183_48 (v := (((1 : Int64) <<< (v.toInt64 &&& 63)) <<< (v57.toInt64 &&& 63))) rfl (to_rl (pc := 49) rw_183_49 (to_go (pc := 20) rw_185_20 (to_rl (pc := 24) rw_185_24 ?_)))
              exact h (((1 : Int64) <<< (v.toInt64 &&& 63)) <<< (v57.toInt64 &&& 63)) M15 hG16 F17 (x_cd_b (by omega) (by omega) (by omega) (by omega) (by omega))
set_option maxRecDepth 4000 in
set_option maxHeartbeats 0 in
theorem E_182 {X : mm_X} {d : Nat} {M : mm_M} {Q : Option Value → mm_M → Prop} {f : Int32} {w : Int32} {sg : x_S} (hX : g_X X) (hd : 1 ≤ d) (hG : g_G M) (q1 : PLk M sg) (h : ∀ (r : Int32) (M1 : mm_M), g_G M1 → FR md_2 M M1 → (f.toInt < 0 ∨ sg.2.1 ≤ f.toInt → (M1.2.1 77 2).toInt = 1) → (¬ (f.toInt < 0 ∨ sg.2.1 ≤ f.toInt) ∧ 0 ≤ w.toInt ∧ w.toInt ≤ 3 → (M1.2.1 77 2).toInt = 0 ∧ r.toInt = x_row sg (2 + (w.toInt).toNat) f.toInt) → (¬ (f.toInt < 0 ∨ sg.2.1 ≤ f.toInt) ∧ ¬ (0 ≤ w.toInt ∧ w.toInt ≤ 3) → (M1.2.1 77 2).toInt = 2) → Q (some (.int r)) M1) : mm_T X d 181 0 [.ref 77, .int f, .int w] [] M Q := by
  have F0 : FR md_2 M M := FR.rf
  have z_1 := q1.2.1
  have z_2 := q1.2.2.1
  have z_3 := q1.2.2.2.1
  have z_4 := q1.1
  have z_5 := z_4.1
  have z_6 := z_4.2.1
  have z_7 := z_4.2.2.1
  have z_8 := z_4.2.2.2.1
  have z_9 := z_4.2.2.2.2.1
  have z_10 := z_4.2.2.2.2.2.1
  have b_11 := g_b hG (a := 77) (i := 11) (lo := 10) (hi := 60) rfl rfl
  have b_12 := g_b hG (a := 77) (i := 12) (lo := 0) (hi := 8) rfl rfl
  have b_13 := g_b hG (a := 77) (i := 13) (lo := 0) (hi := 12) rfl rfl
  refine to_an (pc := 0) rw_182_0 rfl (to_c (pc := 1) rw_182_1 (x := (0 : Int32)) rfl rfl (s_pI (pc := 2) rw_182_2 hG rfl (fun M15 W14 => ?_)))
  have hG16 := g_wf hG W14 rfl rfl (by decide)
  have F17 := FR.w F0 W14 (show 77 = 77 ∧ 2 = 2 by decide)
  refine to_an (pc := 5) rw_182_5 rfl (to_in (pc := 6) rw_182_6 rfl (s_v (pc := 7) rw_182_7 (dp0 hd (by decide)) (ls0 := [.ref 77, .int f]) rfl (Nat.le_of_ble_eq_true rfl) (Nat.le_of_ble_eq_true rfl) rfl (to_rc rfl rfl rfl (g_o hG16 rfl)) rfl (to_in (pc := 0) rw_178_0 rfl (b_ilt (pc := 1) rw_178_1 (A := f.toInt) rfl (fun h18 => ?_) (fun h18 => ?_)))))
  · refine to_c (pc := 16) rw_178_16 (x := (0 : Int32)) rfl rfl (s_r1 (pc := 17) rw_178_17 (A := 0) rfl (by decide) (b_ine_f (pc := 10) rw_182_10 (A := 0) rfl (by decide) (to_an (pc := 13) rw_182_13 rfl (to_c (pc := 14) rw_182_14 (x := (1 : Int32)) rfl rfl (s_v (pc := 15) rw_182_15 (dp0 hd (by decide)) (ls0 := [.ref 77, .int (1 : Int32)]) rfl (Nat.le_of_ble_eq_true rfl) (Nat.le_of_ble_eq_true rfl) rfl (to_rc rfl rfl rfl (g_o hG16 rfl)) rfl (to_an (pc := 0) rw_181_0 rfl (to_in (pc := 1) rw_181_1 rfl (s_pI (pc := 2) rw_181_2 hG16 rfl (fun M20 W19 => ?_)))))))))
    have hG21 := g_wf hG16 W19 rfl rfl (by decide)
    have F22 := FR.w F17 W19 (show 77 = 77 ∧ 2 = 2 by decide)
    refine to_c (pc := 5) rw_181_5 (x := (0 : Int32)) rfl rfl (to_r0 (pc := 6) rw_181_6 (to_r0 (pc := 18) rw_182_18 ?_))
    have k_23 : (0 : Int32).toInt = 0 := rfl
    have c_24 : M20.2.1 77 2 = (1 : Int32) := (W_e W19)
    have k_25 : (1 : Int32).toInt = 1 := rfl
    have t_26 : (M20.2.1 77 2).toInt = (1 : Int32).toInt := congrArg Int32.toInt c_24
    exact h (0 : Int32) M20 hG21 F22 (by omega) (by omega) (by omega)
  · refine to_in (pc := 4) rw_178_4 rfl (to_an (pc := 5) rw_178_5 rfl ?_)
    have c_27 : M15.2.1 77 12 = (M.2.1 77 12) := (W_n W14 (by decide) rfl)
    refine tt_gI (pc := 6) rw_178_6 (g_o hG16 rfl) (v := (M.2.1 77 12)) c_27 (b_cge (pc := 9) rw_178_9 (A := f.toInt) (B := (M.2.1 77 12).toInt) rfl rfl (fun h28 => ?_) (fun h28 => ?_))
    · refine to_c (pc := 16) rw_178_16 (x := (0 : Int32)) rfl rfl (s_r1 (pc := 17) rw_178_17 (A := 0) rfl (by decide) (b_ine_f (pc := 10) rw_182_10 (A := 0) rfl (by decide) (to_an (pc := 13) rw_182_13 rfl (to_c (pc := 14) rw_182_14 (x := (1 : Int32)) rfl rfl (s_v (pc := 15) rw_182_15 (dp0 hd (by decide)) (ls0 := [.ref 77, .int (1 : Int32)]) rfl (Nat.le_of_ble_eq_true rfl) (Nat.le_of_ble_eq_true rfl) rfl (to_rc rfl rfl rfl (g_o hG16 rfl)) rfl (to_an (pc := 0) rw_181_0 rfl (to_in (pc := 1) rw_181_1 rfl (s_pI (pc := 2) rw_181_2 hG16 rfl (fun M30 W29 => ?_)))))))))
      have hG31 := g_wf hG16 W29 rfl rfl (by decide)
      have F32 := FR.w F17 W29 (show 77 = 77 ∧ 2 = 2 by decide)
      refine to_c (pc := 5) rw_181_5 (x := (0 : Int32)) rfl rfl (to_r0 (pc := 6) rw_181_6 (to_r0 (pc := 18) rw_182_18 ?_))
      have k_33 : (0 : Int32).toInt = 0 := rfl
      have c_34 : M30.2.1 77 2 = (1 : Int32) := (W_e W29)
      have k_35 : (1 : Int32).toInt = 1 := rfl
      have t_36 : (M30.2.1 77 2).toInt = (1 : Int32).toInt := congrArg Int32.toInt c_34
      exact h (0 : Int32) M30 hG31 F32 (by omega) (by omega) (by omega)
    · refine to_c (pc := 12) rw_178_12 (x := (1 : Int32)) rfl rfl (to_go (pc := 13) rw_178_13 (s_r1 (pc := 17) rw_178_17 (A := 1) rfl (by decide) (b_ine_t (pc := 10) rw_182_10 (A := 1) rfl (by decide) (to_in (pc := 19) rw_182_19 rfl ?_))))
      rcases (show w.toInt = 0 ∨ w.toInt = 1 ∨ w.toInt = 2 ∨ w.toInt = 3 ∨ (w.toInt < 0 ∨ 3 < w.toInt) by omega) with h37 | h37 | h37 | h37 | h37
      · refine s_sw (pc := 20) rw_182_20 (A := w.toInt) (k := 0) (t := 52) rfl h37 (by decide) rfl (to_an (pc := 52) rw_182_52 rfl (s_gR (pc := 53) rw_182_53 hG16 rfl (v := 81) rfl (to_in (pc := 56) rw_182_56 rfl (s_ial (pc := 57) rw_182_57 hG16 rfl (n := 16) rfl rfl (A := f.toInt) rfl (by omega) (by omega) (lo := 0) (hi := 3) rfl rfl (fun v38 w_39 _ _ => ?_)))))
        have j_40 := (PLk_f (fun a i z => W_n W14 (tg_91 a i z) rfl) q1)
        have z_41 := PLk_r j_40 2 81 rfl (by decide) (by decide) (k := f.toInt) (by omega) (by omega) w_39
        have z_42 := (show x_row sg 2 f.toInt = x_row sg (2 + (w.toInt).toNat) f.toInt by rw [show 2 + (w.toInt).toNat = 2 by omega])
        refine to_r0 (pc := 58) rw_182_58 ?_
        have c_43 : M15.2.1 77 2 = (0 : Int32) := (W_e W14)
        have k_44 : (0 : Int32).toInt = 0 := rfl
        have t_45 : (M15.2.1 77 2).toInt = (0 : Int32).toInt := congrArg Int32.toInt c_43
        exact h v38 M15 hG16 F17 (by omega) (by omega) (by omega)
      · refine s_sw (pc := 20) rw_182_20 (A := w.toInt) (k := 1) (t := 59) rfl h37 (by decide) rfl (to_an (pc := 59) rw_182_59 rfl (s_gR (pc := 60) rw_182_60 hG16 rfl (v := 82) rfl (to_in (pc := 63) rw_182_63 rfl (s_ial (pc := 64) rw_182_64 hG16 rfl (n := 16) rfl rfl (A := f.toInt) rfl (by omega) (by omega) (lo := 0) (hi := 59) rfl rfl (fun v46 w_47 _ _ => ?_)))))
        have j_48 := (PLk_f (fun a i z => W_n W14 (tg_91 a i z) rfl) q1)
        have z_49 := PLk_r j_48 3 82 rfl (by decide) (by decide) (k := f.toInt) (by omega) (by omega) w_47
        have z_50 := (show x_row sg 3 f.toInt = x_row sg (2 + (w.toInt).toNat) f.toInt by rw [show 2 + (w.toInt).toNat = 3 by omega])
        refine to_r0 (pc := 65) rw_182_65 ?_
        have c_51 : M15.2.1 77 2 = (0 : Int32) := (W_e W14)
        have k_52 : (0 : Int32).toInt = 0 := rfl
        have t_53 : (M15.2.1 77 2).toInt = (0 : Int32).toInt := congrArg Int32.toInt c_51
        exact h v46 M15 hG16 F17 (by omega) (by omega) (by omega)
      · refine s_sw (pc := 20) rw_182_20 (A := w.toInt) (k := 2) (t := 66) rfl h37 (by decide) rfl (to_an (pc := 66) rw_182_66 rfl (s_gR (pc := 67) rw_182_67 hG16 rfl (v := 83) rfl (to_in (pc := 70) rw_182_70 rfl (s_ial (pc := 71) rw_182_71 hG16 rfl (n := 16) rfl rfl (A := f.toInt) rfl (by omega) (by omega) (lo := 0) (hi := 63) rfl rfl (fun v54 w_55 _ _ => ?_)))))
        have j_56 := (PLk_f (fun a i z => W_n W14 (tg_91 a i z) rfl) q1)
        have z_57 := PLk_r j_56 4 83 rfl (by decide) (by decide) (k := f.toInt) (by omega) (by omega) w_55
        have z_58 := (show x_row sg 4 f.toInt = x_row sg (2 + (w.toInt).toNat) f.toInt by rw [show 2 + (w.toInt).toNat = 4 by omega])
        refine to_r0 (pc := 72) rw_182_72 ?_
        have c_59 : M15.2.1 77 2 = (0 : Int32) := (W_e W14)
        have k_60 : (0 : Int32).toInt = 0 := rfl
        have t_61 : (M15.2.1 77 2).toInt = (0 : Int32).toInt := congrArg Int32.toInt c_59
        exact h v54 M15 hG16 F17 (by omega) (by omega) (by omega)
      · refine s_sw (pc := 20) rw_182_20 (A := w.toInt) (k := 3) (t := 73) rfl h37 (by decide) rfl (to_an (pc := 73) rw_182_73 rfl (s_gR (pc := 74) rw_182_74 hG16 rfl (v := 84) rfl (to_in (pc := 77) rw_182_77 rfl (s_ial (pc := 78) rw_182_78 hG16 rfl (n := 16) rfl rfl (A := f.toInt) rfl (by omega) (by omega) (lo := 0) (hi := 24) rfl rfl (fun v62 w_63 _ _ => ?_)))))
        have j_64 := (PLk_f (fun a i z => W_n W14 (tg_91 a i z) rfl) q1)
        have z_65 := PLk_r j_64 5 84 rfl (by decide) (by decide) (k := f.toInt) (by omega) (by omega) w_63
        have z_66 := (show x_row sg 5 f.toInt = x_row sg (2 + (w.toInt).toNat) f.toInt by rw [show 2 + (w.toInt).toNat = 5 by omega])
        refine to_r0 (pc := 79) rw_182_79 ?_
        have c_67 : M15.2.1 77 2 = (0 : Int32) := (W_e W14)
        have k_68 : (0 : Int32).toInt = 0 := rfl
        have t_69 : (M15.2.1 77 2).toInt = (0 : Int32).toInt := congrArg Int32.toInt c_67
        exact h v62 M15 hG16 F17 (by omega) (by omega) (by omega)
      · refine s_swd (pc := 20) rw_182_20 (A := w.toInt) rfl h37 (to_an (pc := 80) rw_182_80 rfl (to_c (pc := 81) rw_182_81 (x := (2 : Int32)) rfl rfl (s_v (pc := 82) rw_182_82 (dp0 hd (by decide)) (ls0 := [.ref 77, .int (2 : Int32)]) rfl (Nat.le_of_ble_eq_true rfl) (Nat.le_of_ble_eq_true rfl) rfl (to_rc rfl rfl rfl (g_o hG16 rfl)) rfl (to_an (pc := 0) rw_181_0 rfl (to_in (pc := 1) rw_181_1 rfl (s_pI (pc := 2) rw_181_2 hG16 rfl (fun M71 W70 => ?_)))))))
        have hG72 := g_wf hG16 W70 rfl rfl (by decide)
        have F73 := FR.w F17 W70 (show 77 = 77 ∧ 2 = 2 by decide)
        refine to_c (pc := 5) rw_181_5 (x := (0 : Int32)) rfl rfl (to_r0 (pc := 6) rw_181_6 (to_r0 (pc := 85) rw_182_85 ?_))
        have k_74 : (0 : Int32).toInt = 0 := rfl
        have c_75 : M71.2.1 77 2 = (2 : Int32) := (W_e W70)
        have k_76 : (2 : Int32).toInt = 2 := rfl
        have t_77 : (M71.2.1 77 2).toInt = (2 : Int32).toInt := congrArg Int32.toInt c_75
        exact h (0 : Int32) M71 hG72 F73 (by omega) (by omega) (by omega)
