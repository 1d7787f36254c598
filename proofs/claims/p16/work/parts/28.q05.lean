theorem tg_28 {M M1 : mm_M} (F : FR (fun a i : Nat => a < 0) M M1) : ∀ a i : Nat, (a = 1 ∧ 5 ≤ i ∧ i ≤ 9 ∨ 3 ≤ a ∧ a ≤ 5) → M1.2.1 a i = M.2.1 a i := fun a i z => F_n F (show ¬ (a < 0) by omega) rfl
theorem tg_29 : ∀ a i : Nat, (a < 0) → (a < 0) := fun a i z => by omega
theorem tg_30 : ∀ a i : Nat, (a < 0) → (a = 1 ∧ (i = 10 ∨ i = 11)) := fun a i z => by omega
theorem tg_31 : ∀ a i : Nat, (a = 1 ∧ 6 ≤ i ∧ i ≤ 9) → (a = 1 ∧ 6 ≤ i ∧ i ≤ 11) := fun a i z => by omega
theorem tg_32 : ∀ a i : Nat, (a = 1 ∧ 5 ≤ i ∧ i ≤ 9 ∨ 3 ≤ a ∧ a ≤ 5) → ¬ (a = 1 ∧ i = 11) := fun a i z => by omega
theorem tg_33 : ∀ a i : Nat, (a = 1 ∧ 5 ≤ i ∧ i ≤ 9 ∨ 3 ≤ a ∧ a ≤ 5) → ¬ (a = 1 ∧ i = 10) := fun a i z => by omega
set_option maxRecDepth 4000 in
set_option maxHeartbeats 0 in
theorem E_86 {X : mm_X} {d : Nat} {M : mm_M} {Q : Option Value → mm_M → Prop} {x : Int32} {t : Nat → Int} {nn : Int} {a : Int} (hX : g_X X) (hd : 0 ≤ d) (hG : g_G M) (q1 : CS M t nn) (q2 : (M.2.1 1 9).toInt = a) (h : ∀ (r : Int32) (M1 : mm_M), g_G M1 → FR md_0 M M1 → (0 ≤ r.toInt) → (r.toInt ≤ 1) → (r.toInt = 1 → x_kind t nn a = 1 ∧ x_val t nn a = x.toInt) → (r.toInt = 0 → ¬ (x_kind t nn a = 1 ∧ x_val t nn a = x.toInt)) → Q (some (.int r)) M1) : mm_T X d 86 0 [.ref 1, .int x] [] M Q := by
  have F0 : FR md_0 M M := FR.rf
  have c_1 := CS_u q1 (a := a) (by omega)
  unfold x_C at c_1
  refine to_an (pc := 0) rw_86_0 rfl (tt_gI (pc := 1) rw_86_1 (g_o hG rfl) (v := (M.2.1 1 7)) rfl (to_c (pc := 4) rw_86_4 (x := (4 : Int32)) rfl rfl (b_cne (pc := 5) rw_86_5 (A := (M.2.1 1 7).toInt) (B := 4) rfl rfl (fun h2 => ?_) (fun h2 => ?_))))
  · refine to_c (pc := 20) rw_86_20 (x := (0 : Int32)) rfl rfl (s_r1 (pc := 21) rw_86_21 (A := 0) rfl (by decide) ?_)
    have k_3 : (0 : Int32).toInt = 0 := rfl
    exact h (0 : Int32) M hG F0 (by decide) (by decide) (by omega) (by omega)
  · refine to_an (pc := 8) rw_86_8 rfl (tt_gI (pc := 9) rw_86_9 (g_o hG rfl) (v := (M.2.1 1 8)) rfl (to_in (pc := 12) rw_86_12 rfl (b_cne (pc := 13) rw_86_13 (A := (M.2.1 1 8).toInt) (B := x.toInt) rfl rfl (fun h4 => ?_) (fun h4 => ?_))))
    · refine to_c (pc := 20) rw_86_20 (x := (0 : Int32)) rfl rfl (s_r1 (pc := 21) rw_86_21 (A := 0) rfl (by decide) ?_)
      have k_5 : (0 : Int32).toInt = 0 := rfl
      exact h (0 : Int32) M hG F0 (by decide) (by decide) (by omega) (by omega)
    · refine to_c (pc := 16) rw_86_16 (x := (1 : Int32)) rfl rfl (to_go (pc := 17) rw_86_17 (s_r1 (pc := 21) rw_86_21 (A := 1) rfl (by decide) ?_))
      have k_6 : (1 : Int32).toInt = 1 := rfl
      exact h (1 : Int32) M hG F0 (by decide) (by decide) (by omega) (by omega)
set_option maxRecDepth 4000 in
set_option maxHeartbeats 0 in
theorem E_88 {X : mm_X} {d : Nat} {M : mm_M} {Q : Option Value → mm_M → Prop} {l : Int32} {m : Int32} {t : Nat → Int} {nn : Int} {a : Int} (hX : g_X X) (hd : 1 ≤ d) (hG : g_G M) (q1 : CS M t nn) (q2 : (M.2.1 1 9).toInt = a) (h : ∀ (r : Int32) (M1 : mm_M), g_G M1 → FR md_fl M M1 → (0 ≤ r.toInt) → (r.toInt ≤ 1) → (r.toInt = 1 → x_kind t nn a = 3 ∧ x_val t nn a = (M.2.1 1 8).toInt ∧ l.toInt ≤ x_val t nn a ∧ x_val t nn a ≤ m.toInt) → (r.toInt = 0 → ¬ (x_kind t nn a = 3 ∧ l.toInt ≤ x_val t nn a ∧ x_val t nn a ≤ m.toInt)) → Q (some (.int r)) M1) : mm_T X d 88 0 [.ref 1, .int l, .int m] [] M Q := by
  have F0 : FR md_fl M M := FR.rf
  have c_1 := CS_u q1 (a := a) (by omega)
  unfold x_C at c_1
  refine to_an (pc := 0) rw_88_0 rfl (tt_gI (pc := 1) rw_88_1 (g_o hG rfl) (v := (M.2.1 1 7)) rfl (to_c (pc := 4) rw_88_4 (x := (2 : Int32)) rfl rfl (b_ceq (pc := 5) rw_88_5 (A := (M.2.1 1 7).toInt) (B := 2) rfl rfl (fun h2 => ?_) (fun h2 => ?_))))
  · refine to_an (pc := 14) rw_88_14 rfl (tt_gI (pc := 15) rw_88_15 (g_o hG rfl) (v := (M.2.1 1 8)) rfl (to_in (pc := 18) rw_88_18 rfl (b_clt (pc := 19) rw_88_19 (A := (M.2.1 1 8).toInt) (B := l.toInt) rfl rfl (fun h3 => ?_) (fun h3 => ?_))))
    · refine to_an (pc := 30) rw_88_30 rfl (to_c (pc := 31) rw_88_31 (x := (2 : Int32)) rfl rfl (s_v (pc := 32) rw_88_32 (dp0 hd (by decide)) (ls0 := [.ref 1, .int (2 : Int32)]) rfl (Nat.le_of_ble_eq_true rfl) (Nat.le_of_ble_eq_true rfl) rfl (to_rc rfl rfl rfl (g_o hG rfl)) rfl (to_an (pc := 0) rw_84_0 rfl (to_in (pc := 1) rw_84_1 rfl (s_pI (pc := 2) rw_84_2 hG rfl (fun M5 W4 => ?_))))))
      have hG6 := g_wf hG W4 rfl rfl (by decide)
      have F7 := FR.w F0 W4 (show 1 = 1 ∧ (10 = 10 ∨ 10 = 11) by decide)
      refine to_an (pc := 5) rw_84_5 rfl (to_an (pc := 6) rw_84_6 rfl ?_)
      have c_8 : M5.2.1 1 9 = (M.2.1 1 9) := (W_n W4 (by decide) rfl)
      refine tt_gI (pc := 7) rw_84_7 (g_o hG6 rfl) (v := (M.2.1 1 9)) c_8 (s_pI (pc := 10) rw_84_10 hG6 rfl (fun M10 W9 => ?_))
      have hG11 := g_wf hG6 W9 rfl rfl (by decide)
      have F12 := FR.w F7 W9 (show 1 = 1 ∧ (11 = 10 ∨ 11 = 11) by decide)
      refine to_c (pc := 13) rw_84_13 (x := (0 : Int32)) rfl rfl (s_r1 (pc := 14) rw_84_14 (A := 0) rfl (by decide) (b_ieq_t (pc := 35) rw_88_35 (A := 0) rfl (by decide) (to_c (pc := 42) rw_88_42 (x := (0 : Int32)) rfl rfl (s_r1 (pc := 43) rw_88_43 (A := 0) rfl (by decide) ?_))))
      have k_13 : (0 : Int32).toInt = 0 := rfl
      exact h (0 : Int32) M10 hG11 F12 (by decide) (by decide) (by omega) (by omega)
    · refine to_an (pc := 22) rw_88_22 rfl (tt_gI (pc := 23) rw_88_23 (g_o hG rfl) (v := (M.2.1 1 8)) rfl (to_in (pc := 26) rw_88_26 rfl (b_cle (pc := 27) rw_88_27 (A := (M.2.1 1 8).toInt) (B := m.toInt) rfl rfl (fun h14 => ?_) (fun h14 => ?_))))
      · refine to_c (pc := 38) rw_88_38 (x := (1 : Int32)) rfl rfl (to_go (pc := 39) rw_88_39 (s_r1 (pc := 43) rw_88_43 (A := 1) rfl (by decide) ?_))
        have k_15 : (1 : Int32).toInt = 1 := rfl
        exact h (1 : Int32) M hG F0 (by decide) (by decide) (by omega) (by omega)
      · refine to_an (pc := 30) rw_88_30 rfl (to_c (pc := 31) rw_88_31 (x := (2 : Int32)) rfl rfl (s_v (pc := 32) rw_88_32 (dp0 hd (by decide)) (ls0 := [.ref 1, .int (2 : Int32)]) rfl (Nat.le_of_ble_eq_true rfl) (Nat.le_of_ble_eq_true rfl) rfl (to_rc rfl rfl rfl (g_o hG rfl)) rfl (to_an (pc := 0) rw_84_0 rfl (to_in (pc := 1) rw_84_1 rfl (s_pI (pc := 2) rw_84_2 hG rfl (fun M17 W16 => ?_))))))
        have hG18 := g_wf hG W16 rfl rfl (by decide)
        have F19 := FR.w F0 W16 (show 1 = 1 ∧ (10 = 10 ∨ 10 = 11) by decide)
        refine to_an (pc := 5) rw_84_5 rfl (to_an (pc := 6) rw_84_6 rfl ?_)
        have c_20 : M17.2.1 1 9 = (M.2.1 1 9) := (W_n W16 (by decide) rfl)
        refine tt_gI (pc := 7) rw_84_7 (g_o hG18 rfl) (v := (M.2.1 1 9)) c_20 (s_pI (pc := 10) rw_84_10 hG18 rfl (fun M22 W21 => ?_))
        have hG23 := g_wf hG18 W21 rfl rfl (by decide)
        have F24 := FR.w F19 W21 (show 1 = 1 ∧ (11 = 10 ∨ 11 = 11) by decide)
        refine to_c (pc := 13) rw_84_13 (x := (0 : Int32)) rfl rfl (s_r1 (pc := 14) rw_84_14 (A := 0) rfl (by decide) (b_ieq_t (pc := 35) rw_88_35 (A := 0) rfl (by decide) (to_c (pc := 42) rw_88_42 (x := (0 : Int32)) rfl rfl (s_r1 (pc := 43) rw_88_43 (A := 0) rfl (by decide) ?_))))
        have k_25 : (0 : Int32).toInt = 0 := rfl
        exact h (0 : Int32) M22 hG23 F24 (by decide) (by decide) (by omega) (by omega)
  · refine to_an (pc := 8) rw_88_8 rfl (to_c (pc := 9) rw_88_9 (x := (1 : Int32)) rfl rfl (s_v (pc := 10) rw_88_10 (dp0 hd (by decide)) (ls0 := [.ref 1, .int (1 : Int32)]) rfl (Nat.le_of_ble_eq_true rfl) (Nat.le_of_ble_eq_true rfl) rfl (to_rc rfl rfl rfl (g_o hG rfl)) rfl (to_an (pc := 0) rw_84_0 rfl (to_in (pc := 1) rw_84_1 rfl (s_pI (pc := 2) rw_84_2 hG rfl (fun M27 W26 => ?_))))))
    have hG28 := g_wf hG W26 rfl rfl (by decide)
    have F29 := FR.w F0 W26 (show 1 = 1 ∧ (10 = 10 ∨ 10 = 11) by decide)
    refine to_an (pc := 5) rw_84_5 rfl (to_an (pc := 6) rw_84_6 rfl ?_)
    have c_30 : M27.2.1 1 9 = (M.2.1 1 9) := (W_n W26 (by decide) rfl)
    refine tt_gI (pc := 7) rw_84_7 (g_o hG28 rfl) (v := (M.2.1 1 9)) c_30 (s_pI (pc := 10) rw_84_10 hG28 rfl (fun M32 W31 => ?_))
    have hG33 := g_wf hG28 W31 rfl rfl (by decide)
    have F34 := FR.w F29 W31 (show 1 = 1 ∧ (11 = 10 ∨ 11 = 11) by decide)
    refine to_c (pc := 13) rw_84_13 (x := (0 : Int32)) rfl rfl (s_r1 (pc := 14) rw_84_14 (A := 0) rfl (by decide) (s_r1 (pc := 13) rw_88_13 (A := 0) rfl (by decide) ?_))
    have k_35 : (0 : Int32).toInt = 0 := rfl
    exact h (0 : Int32) M32 hG33 F34 (by decide) (by decide) (by omega) (by omega)
set_option maxRecDepth 4000 in
set_option maxHeartbeats 0 in
theorem U_54f_0 {X : mm_X} {d : Nat} {M : mm_M} {Q : Option Value → mm_M → Prop} {f : Nat} {s : Int32} {x : Int32} (hX : g_X X) (hd : 0 ≤ d) (hf : f = 50 ∨ f = 59) (q1 : 0 ≤ s.toInt) (q2 : s.toInt ≤ 8) (h : ∀ (r : Int32) (M1 : mm_M), g_G M1 → FR md_0 M M1 → (-1 ≤ r.toInt) → (r.toInt ≤ 7) → (r.toInt = x_find (fun k => (M.2.1 f k).toInt) x.toInt (s.toInt).toNat 0) → Q (some (.int r)) M1) : ∀ nn9 : Nat, (∀ (N : mm_M) (x3 : Int32), g_G N → FR md_0 M N → (0 ≤ x3.toInt) → (x3.toInt ≤ 8) → (x3.toInt ≤ s.toInt) → (N = M) → (x_find (fun k => (M.2.1 f k).toInt) x.toInt (s.toInt - x3.toInt).toNat (x3.toInt).toNat = x_find (fun k => (M.2.1 f k).toInt) x.toInt (s.toInt).toNat 0) → 8 - x3.toInt < (nn9 : Int) → mm_T X d 54 2 [.ref f, .int s, .int x, .int x3] [] N Q) := by
  intro nn9
  induction nn9 with
  | zero =>
    intro N x3 hG F0 g1 g2 g3 g4 g5 hm
    exfalso; omega
  | succ nn9 ih =>
    intro N x3 hG F0 g1 g2 g3 g4 g5 hm
    refine to_in (pc := 2) rw_54_2 rfl (to_in (pc := 3) rw_54_3 rfl (b_cge (pc := 4) rw_54_4 (A := x3.toInt) (B := s.toInt) rfl rfl (fun h1 => ?_) (fun h1 => ?_)))
    · refine to_c (pc := 28) rw_54_28 (x := (-1 : Int32)) rfl rfl (to_r0 (pc := 29) rw_54_29 ?_)
      have k_2 : (-1 : Int32).toInt = -1 := rfl
      have z_3 := x_fi_n (g := (fun k => (M.2.1 f k).toInt)) (v := x.toInt) (n := s.toInt) (x3 := x3.toInt) (by omega) g5
      exact h (-1 : Int32) N hG F0 (by omega) (by omega) (by omega)
    · refine to_in (pc := 7) rw_54_7 rfl (to_an (pc := 8) rw_54_8 rfl (s_len (pc := 9) rw_54_9 hG (by rcases hf with rfl | rfl <;> rfl) (by rcases hf with rfl | rfl <;> rfl) (n := 8) (by rcases hf with rfl | rfl <;> rfl) (v := (8 : Int32)) rfl (b_cge_f (pc := 10) rw_54_10 (A := x3.toInt) (B := 8) rfl rfl (by omega) (to_an (pc := 13) rw_54_13 rfl (to_in (pc := 14) rw_54_14 rfl (s_ial (pc := 15) rw_54_15 hG (by rcases hf with rfl | rfl <;> rfl) (n := 8) (by rcases hf with rfl | rfl <;> rfl) (by rcases hf with rfl | rfl <;> rfl) (A := x3.toInt) rfl (by omega) (by omega) (lo := -2147483648) (hi := 2147483647) (by rcases hf with rfl | rfl <;> rfl) (by rcases hf with rfl | rfl <;> rfl) (fun v4 w_5 _ _ => to_in (pc := 16) rw_54_16 rfl (b_cne (pc := 17) rw_54_17 (A := v4.toInt) (B := x.toInt) rfl rfl (fun h6 => ?_) (fun h6 => ?_)))))))))
      · refine s_inc (pc := 22) rw_54_22 (ls2 := fun v => [.ref f, .int s, .int x, .int v]) rfl rfl (fun _ => rfl) (A := x3.toInt) (B := 1) rfl rfl (by omega) (fun v7 e8 => to_go (pc := 25) rw_54_25 ?_)
        exact ih N v7 hG F0 (by omega) (by omega) (by omega) g4 (x_fi_e (g := (fun k => (M.2.1 f k).toInt)) (x3 := x3.toInt) (y := v7.toInt) (by omega) (by omega) (by rw [← g4]; rw [show (N.2.1 f (x3.toInt).toNat) = _ from w_5]; omega) (by omega) g5) (by omega)
      · refine to_in (pc := 20) rw_54_20 rfl (to_r0 (pc := 21) rw_54_21 ?_)
        have z_9 := x_fi_y (g := (fun k => (M.2.1 f k).toInt)) (v := x.toInt) (n := s.toInt) (x3 := x3.toInt) (by omega) (by omega) (by rw [← g4]; rw [show (N.2.1 f (x3.toInt).toNat) = _ from w_5]; omega) g5
        exact h x3 N hG F0 (by omega) (by omega) (by omega)
set_option maxRecDepth 4000 in
set_option maxHeartbeats 0 in
theorem E_54f {X : mm_X} {d : Nat} {M : mm_M} {Q : Option Value → mm_M → Prop} {f : Nat} {s : Int32} {x : Int32} (hX : g_X X) (hd : 0 ≤ d) (hG : g_G M) (hf : f = 50 ∨ f = 59) (q1 : 0 ≤ s.toInt) (q2 : s.toInt ≤ 8) (h : ∀ (r : Int32) (M1 : mm_M), g_G M1 → FR md_0 M M1 → (-1 ≤ r.toInt) → (r.toInt ≤ 7) → (r.toInt = x_find (fun k => (M.2.1 f k).toInt) x.toInt (s.toInt).toNat 0) → Q (some (.int r)) M1) : mm_T X d 54 0 [.ref f, .int s, .int x, .null] [] M Q := by
  have F0 : FR md_0 M M := FR.rf
  refine to_c (pc := 0) rw_54_0 (x := (0 : Int32)) rfl rfl (to_isn (pc := 1) rw_54_1 (ls2 := [.ref f, .int s, .int x, .int (0 : Int32)]) rfl rfl ?_)
  have k_10 : (0 : Int32).toInt = 0 := rfl
  exact (U_54f_0 (f := f) (s := s) (x := x) hX hd hf q1 q2 h ((8 - (0 : Int32).toInt).toNat + 1)) M (0 : Int32) hG F0 (by omega) (by omega) (by omega) rfl (by rw [show (s.toInt - (0 : Int32).toInt).toNat = s.toInt.toNat by rw [show (0 : Int32).toInt = 0 from rfl]; congr 1; omega]; rfl) (by omega)
set_option maxRecDepth 4000 in
set_option maxHeartbeats 0 in
theorem U_54g_0 {X : mm_X} {d : Nat} {M : mm_M} {Q : Option Value → mm_M → Prop} {g : Nat} {s : Int32} {x : Int32} (hX : g_X X) (hd : 0 ≤ d) (hg : g = 55 ∨ g = 64) (q1 : 0 ≤ s.toInt) (q2 : s.toInt ≤ 12) (h : ∀ (r : Int32) (M1 : mm_M), g_G M1 → FR md_0 M M1 → (-1 ≤ r.toInt) → (r.toInt ≤ 11) → (r.toInt = x_find (fun k => (M.2.1 g k).toInt) x.toInt (s.toInt).toNat 0) → Q (some (.int r)) M1) : ∀ nn9 : Nat, (∀ (N : mm_M) (x3 : Int32), g_G N → FR md_0 M N → (0 ≤ x3.toInt) → (x3.toInt ≤ 12) → (x3.toInt ≤ s.toInt) → (N = M) → (x_find (fun k => (M.2.1 g k).toInt) x.toInt (s.toInt - x3.toInt).toNat (x3.toInt).toNat = x_find (fun k => (M.2.1 g k).toInt) x.toInt (s.toInt).toNat 0) → 12 - x3.toInt < (nn9 : Int) → mm_T X d 54 2 [.ref g, .int s, .int x, .int x3] [] N Q) := by
  intro nn9
  induction nn9 with
  | zero =>
    intro N x3 hG F0 g1 g2 g3 g4 g5 hm
    exfalso; omega
  | succ nn9 ih =>
    intro N x3 hG F0 g1 g2 g3 g4 g5 hm
    refine to_in (pc := 2) rw_54_2 rfl (to_in (pc := 3) rw_54_3 rfl (b_cge (pc := 4) rw_54_4 (A := x3.toInt) (B := s.toInt) rfl rfl (fun h1 => ?_) (fun h1 => ?_)))
    · refine to_c (pc := 28) rw_54_28 (x := (-1 : Int32)) rfl rfl (to_r0 (pc := 29) rw_54_29 ?_)
      have k_2 : (-1 : Int32).toInt = -1 := rfl
      have z_3 := x_fi_n (g := (fun k => (M.2.1 g k).toInt)) (v := x.toInt) (n := s.toInt) (x3 := x3.toInt) (by omega) g5
      exact h (-1 : Int32) N hG F0 (by omega) (by omega) (by omega)
    · refine to_in (pc := 7) rw_54_7 rfl (to_an (pc := 8) rw_54_8 rfl (s_len (pc := 9) rw_54_9 hG (by rcases hg with rfl | rfl <;> rfl) (by rcases hg with rfl | rfl <;> rfl) (n := 12) (by rcases hg with rfl | rfl <;> rfl) (v := (12 : Int32)) rfl (b_cge_f (pc := 10) rw_54_10 (A := x3.toInt) (B := 12) rfl rfl (by omega) (to_an (pc := 13) rw_54_13 rfl (to_in (pc := 14) rw_54_14 rfl (s_ial (pc := 15) rw_54_15 hG (by rcases hg with rfl | rfl <;> rfl) (n := 12) (by rcases hg with rfl | rfl <;> rfl) (by rcases hg with rfl | rfl <;> rfl) (A := x3.toInt) rfl (by omega) (by omega) (lo := -2147483648) (hi := 2147483647) (by rcases hg with rfl | rfl <;> rfl) (by rcases hg with rfl | rfl <;> rfl) (fun v4 w_5 _ _ => to_in (pc := 16) rw_54_16 rfl (b_cne (pc := 17) rw_54_17 (A := v4.toInt) (B := x.toInt) rfl rfl (fun h6 => ?_) (fun h6 => ?_)))))))))
      · refine s_inc (pc := 22) rw_54_22 (ls2 := fun v => [.ref g, .int s, .int x, .int v]) rfl rfl (fun _ => rfl) (A := x3.toInt) (B := 1) rfl rfl (by omega) (fun v7 e8 => to_go (pc := 25) rw_54_25 ?_)
        exact ih N v7 hG F0 (by omega) (by omega) (by omega) g4 (x_fi_e (g := (fun k => (M.2.1 g k).toInt)) (x3 := x3.toInt) (y := v7.toInt) (by omega) (by omega) (by rw [← g4]; rw [show (N.2.1 g (x3.toInt).toNat) = _ from w_5]; omega) (by omega) g5) (by omega)
      · refine to_in (pc := 20) rw_54_20 rfl (to_r0 (pc := 21) rw_54_21 ?_)
        have z_9 := x_fi_y (g := (fun k => (M.2.1 g k).toInt)) (v := x.toInt) (n := s.toInt) (x3 := x3.toInt) (by omega) (by omega) (by rw [← g4]; rw [show (N.2.1 g (x3.toInt).toNat) = _ from w_5]; omega) g5
        exact h x3 N hG F0 (by omega) (by omega) (by omega)
set_option maxRecDepth 4000 in
set_option maxHeartbeats 0 in
theorem E_54g {X : mm_X} {d : Nat} {M : mm_M} {Q : Option Value → mm_M → Prop} {g : Nat} {s : Int32} {x : Int32} (hX : g_X X) (hd : 0 ≤ d) (hG : g_G M) (hg : g = 55 ∨ g = 64) (q1 : 0 ≤ s.toInt) (q2 : s.toInt ≤ 12) (h : ∀ (r : Int32) (M1 : mm_M), g_G M1 → FR md_0 M M1 → (-1 ≤ r.toInt) → (r.toInt ≤ 11) → (r.toInt = x_find (fun k => (M.2.1 g k).toInt) x.toInt (s.toInt).toNat 0) → Q (some (.int r)) M1) : mm_T X d 54 0 [.ref g, .int s, .int x, .null] [] M Q := by
  have F0 : FR md_0 M M := FR.rf
  refine to_c (pc := 0) rw_54_0 (x := (0 : Int32)) rfl rfl (to_isn (pc := 1) rw_54_1 (ls2 := [.ref g, .int s, .int x, .int (0 : Int32)]) rfl rfl ?_)
  have k_10 : (0 : Int32).toInt = 0 := rfl
  exact (U_54g_0 (g := g) (s := s) (x := x) hX hd hg q1 q2 h ((12 - (0 : Int32).toInt).toNat + 1)) M (0 : Int32) hG F0 (by omega) (by omega) (by omega) rfl (by rw [show (s.toInt - (0 : Int32).toInt).toNat = s.toInt.toNat by rw [show (0 : Int32).toInt = 0 from rfl]; congr 1; omega]; rfl) (by omega)
set_option maxRecDepth 4000 in
set_option maxHeartbeats 0 in
theorem E_35 {X : mm_X} {d : Nat} {M : mm_M} {Q : Option Value → mm_M → Prop} {t : Nat → Int} {nn : Int} {a : Int} (hX : g_X X) (hd : 1 ≤ d) (hG : g_G M) (q1 : CS M t nn) (q2 : (M.2.1 1 9).toInt = a) (h : ∀ (r : Int32) (M1 : mm_M), g_G M1 → FR md_0 M M1 → (-1 ≤ r.toInt) → (r.toInt ≤ 3) → (r.toInt = -1 → ¬ (x_kind t nn a = 1 ∧ 3 ≤ x_kx (x_val t nn a) ∧ x_kx (x_val t nn a) ≤ 6)) → (0 ≤ r.toInt → x_kind t nn a = 1 ∧ x_kx (x_val t nn a) = r.toInt + 3) → Q (some (.int r)) M1) : mm_T X d 35 0 [.ref 1] [] M Q := by
  have F0 : FR md_0 M M := FR.rf
  have z_1 := x_kx_s (x_val t nn a)
  refine to_an (pc := 0) rw_35_0 rfl (to_c (pc := 1) rw_35_1 (x := (518160384 : Int32)) rfl rfl (s_v (pc := 3) rw_35_3 (dp0 hd (by decide)) (ls0 := [.ref 1, .int (518160384 : Int32)]) rfl (Nat.le_of_ble_eq_true rfl) (Nat.le_of_ble_eq_true rfl) rfl (to_rc rfl rfl rfl (g_o hG rfl)) rfl ?_))
  have k_2 : (518160384 : Int32).toInt = 518160384 := rfl
  refine E_86 hX (dp1 hd (by decide)) hG q1 (by omega) (x := (518160384 : Int32)) (t := t) (nn := nn) (a := a) (fun r3 M10 hG5 F4 p_6 p_7 p_8 p_9 => ?_)
  have F11 := FR.c F0 F4 tg_29
  rcases (show r3.toInt = 0 ∨ r3.toInt = 1 by omega) with h12 | h12
  · skip
    have p_13 := p_9 (by omega)
    clear p_8 p_9
    refine b_ieq_t (pc := 6) rw_35_6 (A := r3.toInt) rfl (by omega) (to_an (pc := 11) rw_35_11 rfl (to_c (pc := 12) rw_35_12 (x := (659999744 : Int32)) rfl rfl (s_v (pc := 14) rw_35_14 (dp0 hd (by decide)) (ls0 := [.ref 1, .int (659999744 : Int32)]) rfl (Nat.le_of_ble_eq_true rfl) (Nat.le_of_ble_eq_true rfl) rfl (to_rc rfl rfl rfl (g_o hG5 rfl)) rfl ?_)))
    have k_14 : (659999744 : Int32).toInt = 659999744 := rfl
    have j_15 := (CS_f (tg_28 F4) q1)
    have c_16 : M10.2.1 1 9 = (M.2.1 1 9) := (F_n F4 (show ¬ (1 < 0) by decide) rfl)
    have t_17 : (M10.2.1 1 9).toInt = (M.2.1 1 9).toInt := congrArg Int32.toInt c_16
    refine E_86 hX (dp1 hd (by decide)) hG5 j_15 (by omega) (x := (659999744 : Int32)) (t := t) (nn := nn) (a := a) (fun r18 M25 hG20 F19 p_21 p_22 p_23 p_24 => ?_)
    have F26 := FR.c F11 F19 tg_29
    rcases (show r18.toInt = 0 ∨ r18.toInt = 1 by omega) with h27 | h27
    · skip
      have p_28 := p_24 (by omega)
      clear p_23 p_24
      refine b_ieq_t (pc := 17) rw_35_17 (A := r18.toInt) rfl (by omega) (to_an (pc := 22) rw_35_22 rfl (to_c (pc := 23) rw_35_23 (x := (538233440 : Int32)) rfl rfl (s_v (pc := 25) rw_35_25 (dp0 hd (by decide)) (ls0 := [.ref 1, .int (538233440 : Int32)]) rfl (Nat.le_of_ble_eq_true rfl) (Nat.le_of_ble_eq_true rfl) rfl (to_rc rfl rfl rfl (g_o hG20 rfl)) rfl ?_)))
      have k_29 : (538233440 : Int32).toInt = 538233440 := rfl
      have j_30 := (CS_f (tg_28 F19) j_15)
      have c_31 : M25.2.1 1 9 = (M.2.1 1 9) := (F_n F19 (show ¬ (1 < 0) by decide) c_16)
      have t_32 : (M25.2.1 1 9).toInt = (M.2.1 1 9).toInt := congrArg Int32.toInt c_31
      refine E_86 hX (dp1 hd (by decide)) hG20 j_30 (by omega) (x := (538233440 : Int32)) (t := t) (nn := nn) (a := a) (fun r33 M40 hG35 F34 p_36 p_37 p_38 p_39 => ?_)
      have F41 := FR.c F26 F34 tg_29
      rcases (show r33.toInt = 0 ∨ r33.toInt = 1 by omega) with h42 | h42
      · skip
        have p_43 := p_39 (by omega)
        clear p_38 p_39
        refine b_ieq_t (pc := 28) rw_35_28 (A := r33.toInt) rfl (by omega) (to_an (pc := 33) rw_35_33 rfl (to_c (pc := 34) rw_35_34 (x := (404000768 : Int32)) rfl rfl (s_v (pc := 36) rw_35_36 (dp0 hd (by decide)) (ls0 := [.ref 1, .int (404000768 : Int32)]) rfl (Nat.le_of_ble_eq_true rfl) (Nat.le_of_ble_eq_true rfl) rfl (to_rc rfl rfl rfl (g_o hG35 rfl)) rfl ?_)))
        have k_44 : (404000768 : Int32).toInt = 404000768 := rfl
        have j_45 := (CS_f (tg_28 F34) j_30)
        have c_46 : M40.2.1 1 9 = (M.2.1 1 9) := (F_n F34 (show ¬ (1 < 0) by decide) c_31)
        have t_47 : (M40.2.1 1 9).toInt = (M.2.1 1 9).toInt := congrArg Int32.toInt c_46
        refine E_86 hX (dp1 hd (by decide)) hG35 j_45 (by omega) (x := (404000768 : Int32)) (t := t) (nn := nn) (a := a) (fun r48 M55 hG50 F49 p_51 p_52 p_53 p_54 => ?_)
        have F56 := FR.c F41 F49 tg_29
        rcases (show r48.toInt = 0 ∨ r48.toInt = 1 by omega) with h57 | h57
        · skip
          have p_58 := p_54 (by omega)
          clear p_53 p_54
          refine b_ieq_t (pc := 39) rw_35_39 (A := r48.toInt) rfl (by omega) (to_c (pc := 46) rw_35_46 (x := (-1 : Int32)) rfl rfl (to_r0 (pc := 47) rw_35_47 ?_))
          have k_59 : (-1 : Int32).toInt = -1 := rfl
          exact h (-1 : Int32) M55 hG50 F56 (by omega) (by omega) (by omega) (by omega)
        · skip
          have p_60 := p_53 (by omega)
          clear p_53 p_54
          refine b_ieq_f (pc := 39) rw_35_39 (A := r48.toInt) rfl (by omega) (to_c (pc := 42) rw_35_42 (x := (3 : Int32)) rfl rfl (to_go (pc := 43) rw_35_43 (to_r0 (pc := 47) rw_35_47 ?_)))
          have k_61 : (3 : Int32).toInt = 3 := rfl
          exact h (3 : Int32) M55 hG50 F56 (by omega) (by omega) (by omega) (by omega)
      · skip
        have p_62 := p_38 (by omega)
        clear p_38 p_39
        refine b_ieq_f (pc := 28) rw_35_28 (A := r33.toInt) rfl (by omega) (to_c (pc := 31) rw_35_31 (x := (2 : Int32)) rfl rfl (to_r0 (pc := 32) rw_35_32 ?_))
        have k_63 : (2 : Int32).toInt = 2 := rfl
        exact h (2 : Int32) M40 hG35 F41 (by omega) (by omega) (by omega) (by omega)
    · skip
      have p_64 := p_23 (by omega)
      clear p_23 p_24
      refine b_ieq_f (pc := 17) rw_35_17 (A := r18.toInt) rfl (by omega) (to_c (pc := 20) rw_35_20 (x := (1 : Int32)) rfl rfl (to_r0 (pc := 21) rw_35_21 ?_))
      have k_65 : (1 : Int32).toInt = 1 := rfl
      exact h (1 : Int32) M25 hG20 F26 (by omega) (by omega) (by omega) (by omega)
  · skip
    have p_66 := p_8 (by omega)
    clear p_8 p_9
    refine b_ieq_f (pc := 6) rw_35_6 (A := r3.toInt) rfl (by omega) (to_c (pc := 9) rw_35_9 (x := (0 : Int32)) rfl rfl (to_r0 (pc := 10) rw_35_10 ?_))
    have k_67 : (0 : Int32).toInt = 0 := rfl
    exact h (0 : Int32) M10 hG5 F11 (by omega) (by omega) (by omega) (by omega)
set_option maxRecDepth 4000 in
set_option maxHeartbeats 0 in
theorem E_34 {X : mm_X} {d : Nat} {M : mm_M} {Q : Option Value → mm_M → Prop} {p : Nat} {t : Nat → Int} {nn : Int} {a : Int} {sg : x_S} (hX : g_X X) (hd : 2 ≤ d) (hG : g_G M) (hp : p = 49 ∨ p = 58) (q1 : CS M t nn) (q2 : (M.2.1 1 9).toInt = a) (q3 : PLc M p sg) (h : ∀ (r : Int32) (M1 : mm_M), g_G M1 → FR md_fl M M1 → (0 ≤ r.toInt) → (r.toInt ≤ 1) → (r.toInt = 1 → x_kind t nn a = 2 ∧ x_fn sg 1 (x_val t nn a) = -1 ∧ x_fn sg 6 (x_val t nn a) = -1) → (r.toInt = 1 → x_val t nn a = (M.2.1 1 8).toInt) → (r.toInt = 0 → ¬ (x_kind t nn a = 2 ∧ x_fn sg 1 (x_val t nn a) = -1 ∧ x_fn sg 6 (x_val t nn a) = -1)) → Q (some (.int r)) M1) : mm_T X d 34 0 [.ref p, .ref 1] [] M Q := by
  have F0 : FR md_fl M M := FR.rf
  have c_1 := CS_u q1 (a := a) (by omega)
  unfold x_C at c_1
  have z_2 := q3.2.1
  have z_3 := q3.2.2.1
  have z_4 := q3.2.2.2.1
  have z_5 := q3.1
  have z_6 := z_5.1
  have z_7 := z_5.2.1
  have z_8 := z_5.2.2.1
  have z_9 := z_5.2.2.2.1
  have z_10 := z_5.2.2.2.2.1
  have z_11 := z_5.2.2.2.2.2.1
  have b_12 := g_b hG (a := p) (i := 2) (lo := 0) (hi := 8) (by rcases hp with rfl | rfl <;> rfl) (by rcases hp with rfl | rfl <;> rfl)
  have b_13 := g_b hG (a := p) (i := 3) (lo := 0) (hi := 12) (by rcases hp with rfl | rfl <;> rfl) (by rcases hp with rfl | rfl <;> rfl)
  refine to_an (pc := 0) rw_34_0 rfl (tt_gI (pc := 1) rw_34_1 (g_o hG rfl) (v := (M.2.1 1 7)) rfl (to_c (pc := 4) rw_34_4 (x := (3 : Int32)) rfl rfl (b_ceq (pc := 5) rw_34_5 (A := (M.2.1 1 7).toInt) (B := 3) rfl rfl (fun h14 => ?_) (fun h14 => ?_))))
  · refine to_an (pc := 14) rw_34_14 rfl (to_an (pc := 15) rw_34_15 rfl (tt_gI (pc := 16) rw_34_16 (g_o hG rfl) (v := (M.2.1 1 8)) rfl (s_v (pc := 19) rw_34_19 (dp0 hd (by decide)) (ls0 := [.ref p, .int (M.2.1 1 8)]) rfl (Nat.le_of_ble_eq_true rfl) (Nat.le_of_ble_eq_true rfl) rfl (to_rc rfl rfl rfl (g_o hG (by rcases hp with rfl | rfl <;> rfl))) rfl (to_an (pc := 0) rw_52_0 rfl (s_gR (pc := 1) rw_52_1 hG (by rcases hp with rfl | rfl <;> rfl) (v := (p + 1)) (by rcases hp with rfl | rfl <;> rfl) (to_an (pc := 4) rw_52_4 rfl (tt_gI (pc := 5) rw_52_5 (g_o hG (by rcases hp with rfl | rfl <;> rfl)) (v := (M.2.1 p 2)) rfl (to_in (pc := 8) rw_52_8 rfl (s_s (pc := 9) rw_52_9 (dp1 hd (by decide)) (ls0 := [.ref (p + 1), .int (M.2.1 p 2), .int (M.2.1 1 8), .null]) rfl (Nat.le_of_ble_eq_true rfl) (Nat.le_of_ble_eq_true rfl) rfl (to_rcs rfl rfl) rfl (E_54f hX (dp2 hd (by decide)) hG (by omega) (by omega) (by omega) (f := (p + 1)) (s := (M.2.1 p 2)) (x := (M.2.1 1 8)) (fun r15 M21 hG17 F16 p_18 p_19 p_20 => ?_)))))))))))
    have F22 := FR.c F0 F16 tg_30
    have z_23 := PLc_n (v := (M.2.1 1 8).toInt) q3 (n := (M.2.1 p 2).toInt) (by omega)
    refine to_r0 (pc := 12) rw_52_12 (to_c (pc := 22) rw_34_22 (x := (-1 : Int32)) rfl rfl (b_cne (pc := 23) rw_34_23 (A := r15.toInt) (B := -1) rfl rfl (fun h24 => ?_) (fun h24 => ?_)))
    · refine to_an (pc := 38) rw_34_38 rfl (to_c (pc := 39) rw_34_39 (x := (3 : Int32)) rfl rfl (s_v (pc := 40) rw_34_40 (dp0 hd (by decide)) (ls0 := [.ref 1, .int (3 : Int32)]) rfl (Nat.le_of_ble_eq_true rfl) (Nat.le_of_ble_eq_true rfl) rfl (to_rc rfl rfl rfl (g_o hG17 rfl)) rfl (to_an (pc := 0) rw_84_0 rfl (to_in (pc := 1) rw_84_1 rfl (s_pI (pc := 2) rw_84_2 hG17 rfl (fun M26 W25 => ?_))))))
      have hG27 := g_wf hG17 W25 rfl rfl (by decide)
      have F28 := FR.w F22 W25 (show 1 = 1 ∧ (10 = 10 ∨ 10 = 11) by decide)
      refine to_an (pc := 5) rw_84_5 rfl (to_an (pc := 6) rw_84_6 rfl ?_)
      have c_29 : M26.2.1 1 9 = (M.2.1 1 9) := (W_n W25 (by decide) (F_n F16 (show ¬ (1 < 0) by decide) rfl))
      refine tt_gI (pc := 7) rw_84_7 (g_o hG27 rfl) (v := (M.2.1 1 9)) c_29 (s_pI (pc := 10) rw_84_10 hG27 rfl (fun M31 W30 => ?_))
      have hG32 := g_wf hG27 W30 rfl rfl (by decide)
      have F33 := FR.w F28 W30 (show 1 = 1 ∧ (11 = 10 ∨ 11 = 11) by decide)
      refine to_c (pc := 13) rw_84_13 (x := (0 : Int32)) rfl rfl (s_r1 (pc := 14) rw_84_14 (A := 0) rfl (by decide) (s_r1 (pc := 43) rw_34_43 (A := 0) rfl (by decide) ?_))
      have k_34 : (0 : Int32).toInt = 0 := rfl
      have z_35 := x_fn_v (s := sg) (r := 1) (v := (M.2.1 1 8).toInt) (w := x_val t nn a)
      have z_36 := x_fn_v (s := sg) (r := 6) (v := (M.2.1 1 8).toInt) (w := x_val t nn a)
      exact h (0 : Int32) M31 hG32 F33 (by decide) (by decide) (by omega) (by omega) (by omega)
    · refine to_an (pc := 26) rw_34_26 rfl (to_an (pc := 27) rw_34_27 rfl ?_)
      have c_37 : M21.2.1 1 8 = (M.2.1 1 8) := (F_n F16 (show ¬ (1 < 0) by decide) rfl)
      refine tt_gI (pc := 28) rw_34_28 (g_o hG17 rfl) (v := (M.2.1 1 8)) c_37 (s_v (pc := 31) rw_34_31 (dp0 hd (by decide)) (ls0 := [.ref p, .int (M.2.1 1 8)]) rfl (Nat.le_of_ble_eq_true rfl) (Nat.le_of_ble_eq_true rfl) rfl (to_rc rfl rfl rfl (g_o hG17 (by rcases hp with rfl | rfl <;> rfl))) rfl (to_an (pc := 0) rw_53_0 rfl (s_gR (pc := 1) rw_53_1 hG17 (by rcases hp with rfl | rfl <;> rfl) (v := (p + 6)) (by rcases hp with rfl | rfl <;> rfl) (to_an (pc := 4) rw_53_4 rfl ?_))))
      have c_38 : M21.2.1 p 3 = (M.2.1 p 3) := (F_n F16 (show ¬ (p < 0) by omega) rfl)
      refine tt_gI (pc := 5) rw_53_5 (g_o hG17 (by rcases hp with rfl | rfl <;> rfl)) (v := (M.2.1 p 3)) c_38 (to_in (pc := 8) rw_53_8 rfl (s_s (pc := 9) rw_53_9 (dp1 hd (by decide)) (ls0 := [.ref (p + 6), .int (M.2.1 p 3), .int (M.2.1 1 8), .null]) rfl (Nat.le_of_ble_eq_true rfl) (Nat.le_of_ble_eq_true rfl) rfl (to_rcs rfl rfl) rfl ?_))
      have j_39 := (PLc_f (fun a i z => F_n F16 (show ¬ (a < 0) by omega) rfl) (F_nl F16 (show ¬ (p < 0) by omega) rfl) q3)
      refine E_54g hX (dp2 hd (by decide)) hG17 (by omega) (by omega) (by omega) (g := (p + 6)) (s := (M.2.1 p 3)) (x := (M.2.1 1 8)) (fun r40 M46 hG42 F41 p_43 p_44 p_45 => ?_)
      have F47 := FR.c F22 F41 tg_30
      have z_48 := PLc_w (v := (M.2.1 1 8).toInt) j_39 (n := (M.2.1 p 3).toInt) (by omega)
      refine to_r0 (pc := 12) rw_53_12 (to_c (pc := 34) rw_34_34 (x := (-1 : Int32)) rfl rfl (b_ceq (pc := 35) rw_34_35 (A := r40.toInt) (B := -1) rfl rfl (fun h49 => ?_) (fun h49 => ?_)))
      · refine to_c (pc := 44) rw_34_44 (x := (1 : Int32)) rfl rfl (s_r1 (pc := 45) rw_34_45 (A := 1) rfl (by decide) ?_)
        have k_50 : (1 : Int32).toInt = 1 := rfl
        have z_51 := x_fn_v (s := sg) (r := 1) (v := (M.2.1 1 8).toInt) (w := x_val t nn a)
        have z_52 := x_fn_v (s := sg) (r := 6) (v := (M.2.1 1 8).toInt) (w := x_val t nn a)
        exact h (1 : Int32) M46 hG42 F47 (by decide) (by decide) (by omega) (by omega) (by omega)
      · refine to_an (pc := 38) rw_34_38 rfl (to_c (pc := 39) rw_34_39 (x := (3 : Int32)) rfl rfl (s_v (pc := 40) rw_34_40 (dp0 hd (by decide)) (ls0 := [.ref 1, .int (3 : Int32)]) rfl (Nat.le_of_ble_eq_true rfl) (Nat.le_of_ble_eq_true rfl) rfl (to_rc rfl rfl rfl (g_o hG42 rfl)) rfl (to_an (pc := 0) rw_84_0 rfl (to_in (pc := 1) rw_84_1 rfl (s_pI (pc := 2) rw_84_2 hG42 rfl (fun M54 W53 => ?_))))))
        have hG55 := g_wf hG42 W53 rfl rfl (by decide)
        have F56 := FR.w F47 W53 (show 1 = 1 ∧ (10 = 10 ∨ 10 = 11) by decide)
        refine to_an (pc := 5) rw_84_5 rfl (to_an (pc := 6) rw_84_6 rfl ?_)
        have c_57 : M54.2.1 1 9 = (M.2.1 1 9) := (W_n W53 (by decide) (F_n F41 (show ¬ (1 < 0) by decide) (F_n F16 (show ¬ (1 < 0) by decide) rfl)))
        refine tt_gI (pc := 7) rw_84_7 (g_o hG55 rfl) (v := (M.2.1 1 9)) c_57 (s_pI (pc := 10) rw_84_10 hG55 rfl (fun M59 W58 => ?_))
        have hG60 := g_wf hG55 W58 rfl rfl (by decide)
        have F61 := FR.w F56 W58 (show 1 = 1 ∧ (11 = 10 ∨ 11 = 11) by decide)
        refine to_c (pc := 13) rw_84_13 (x := (0 : Int32)) rfl rfl (s_r1 (pc := 14) rw_84_14 (A := 0) rfl (by decide) (s_r1 (pc := 43) rw_34_43 (A := 0) rfl (by decide) ?_))
        have k_62 : (0 : Int32).toInt = 0 := rfl
        have z_63 := x_fn_v (s := sg) (r := 1) (v := (M.2.1 1 8).toInt) (w := x_val t nn a)
        have z_64 := x_fn_v (s := sg) (r := 6) (v := (M.2.1 1 8).toInt) (w := x_val t nn a)
        exact h (0 : Int32) M59 hG60 F61 (by decide) (by decide) (by omega) (by omega) (by omega)
  · refine to_an (pc := 8) rw_34_8 rfl (to_c (pc := 9) rw_34_9 (x := (1 : Int32)) rfl rfl (s_v (pc := 10) rw_34_10 (dp0 hd (by decide)) (ls0 := [.ref 1, .int (1 : Int32)]) rfl (Nat.le_of_ble_eq_true rfl) (Nat.le_of_ble_eq_true rfl) rfl (to_rc rfl rfl rfl (g_o hG rfl)) rfl (to_an (pc := 0) rw_84_0 rfl (to_in (pc := 1) rw_84_1 rfl (s_pI (pc := 2) rw_84_2 hG rfl (fun M66 W65 => ?_))))))
    have hG67 := g_wf hG W65 rfl rfl (by decide)
    have F68 := FR.w F0 W65 (show 1 = 1 ∧ (10 = 10 ∨ 10 = 11) by decide)
    refine to_an (pc := 5) rw_84_5 rfl (to_an (pc := 6) rw_84_6 rfl ?_)
    have c_69 : M66.2.1 1 9 = (M.2.1 1 9) := (W_n W65 (by decide) rfl)
    refine tt_gI (pc := 7) rw_84_7 (g_o hG67 rfl) (v := (M.2.1 1 9)) c_69 (s_pI (pc := 10) rw_84_10 hG67 rfl (fun M71 W70 => ?_))
    have hG72 := g_wf hG67 W70 rfl rfl (by decide)
    have F73 := FR.w F68 W70 (show 1 = 1 ∧ (11 = 10 ∨ 11 = 11) by decide)
    refine to_c (pc := 13) rw_84_13 (x := (0 : Int32)) rfl rfl (s_r1 (pc := 14) rw_84_14 (A := 0) rfl (by decide) (s_r1 (pc := 13) rw_34_13 (A := 0) rfl (by decide) ?_))
    have k_74 : (0 : Int32).toInt = 0 := rfl
    have z_75 := x_fn_v (s := sg) (r := 1) (v := (M.2.1 1 8).toInt) (w := x_val t nn a)
    have z_76 := x_fn_v (s := sg) (r := 6) (v := (M.2.1 1 8).toInt) (w := x_val t nn a)
    exact h (0 : Int32) M71 hG72 F73 (by decide) (by decide) (by omega) (by omega) (by omega)
set_option maxRecDepth 4000 in
set_option maxHeartbeats 0 in
theorem E_39 {X : mm_X} {d : Nat} {M : mm_M} {Q : Option Value → mm_M → Prop} {p : Nat} {f : Int32} {l : Int32} {t : Nat → Int} {nn : Int} {a : Int} {sg : x_S} (hX : g_X X) (hd : 1 ≤ d) (hG : g_G M) (hp : p = 49 ∨ p = 58) (q1 : CS M t nn) (q2 : (M.2.1 1 9).toInt = a) (q3 : PLc M p sg) (q4 : 0 ≤ f.toInt) (q5 : f.toInt ≤ 63) (q6 : f.toInt ≤ l.toInt) (q7 : 0 ≤ l.toInt) (q8 : l.toInt ≤ 63) (h : ∀ (r : Int32) (M1 : mm_M), g_G M1 → FR md_fl M M1 → (0 ≤ r.toInt) → (r.toInt ≤ 1) → (r.toInt = 1 → x_free sg f.toInt l.toInt = 1) → (r.toInt = 0 → ¬ x_free sg f.toInt l.toInt = 1) → Q (some (.int r)) M1) : mm_T X d 39 0 [.ref p, .ref 1, .int f, .int l] [] M Q := by
  have F0 : FR md_fl M M := FR.rf
  refine to_an (pc := 0) rw_39_0 rfl (tt_gJ (pc := 1) rw_39_1 (g_o hG (by rcases hp with rfl | rfl <;> rfl)) (v := (M.2.2.1 p 4)) rfl (to_in (pc := 4) rw_39_4 rfl (to_in (pc := 5) rw_39_5 rfl (s_s (pc := 6) rw_39_6 (dp0 hd (by decide)) (ls0 := [.int f, .int l]) rfl (Nat.le_of_ble_eq_true rfl) (Nat.le_of_ble_eq_true rfl) rfl (to_rcs rfl rfl) rfl (to_cl (pc := 0) rw_144_0 rfl (x := (1 : Int64)) rfl (to_in (pc := 1) rw_144_1 rfl (to_in (pc := 2) rw_144_2 rfl (s_sub (pc := 3) rw_144_3 (A := l.toInt) (B := f.toInt) rfl rfl (by omega) (fun v1 e2 => to_c (pc := 4) rw_144_4 (x := (1 : Int32)) rfl rfl (s_add (pc := 5) rw_144_5 (A := v1.toInt) (B := 1) rfl rfl (by omega) (fun v3 e4 => to_2s (pc := 6) rw_144_6 (v := ((1 : Int64) <<< (v3.toInt64 &&& 63))) rfl ?_)))))))))))
  refine to_cl (pc := 7) rw_144_7 rfl (x := (1 : Int64)) rfl (to_2l (pc := 8) rw_144_8 (v := (((1 : Int64) <<< (v3.toInt64 &&& 63)) - (1 : Int64))) rfl (to_in (pc := 9) rw_144_9 rfl (to_2s (pc := 10) rw_144_10 (v := ((((1 : Int64) <<< (v3.toInt64 &&& 63)) - (1 : Int64)) <<< (f.toInt64 &&& 63))) rfl (to_rl (pc := 11) rw_144_11 (to_2l (pc := 9) rw_39_9 (v := ((M.2.2.1 p 4) &&& ((((1 : Int64) <<< (v3.toInt64 &&& 63)) - (1 : Int64)) <<< (f.toInt64 &&& 63)))) rfl (to_cl (pc := 10) rw_39_10 rfl (x := (0 : Int64)) rfl (s_lcmpE (pc := 11) rw_39_11 (fun v5 e6 => ?_))))))))
  have b_7 := x_eq_b (x := ((M.2.2.1 p 4) &&& ((((1 : Int64) <<< (v3.toInt64 &&& 63)) - (1 : Int64)) <<< (f.toInt64 &&& 63)))) (y := (0 : Int64))
  have z_8 := x_free_e (v := v3) (f := f) (l := l) q3 (by omega)
  refine b_ieq (pc := 12) rw_39_12 (A := v5.toInt) rfl (fun h9 => ?_) (fun h9 => ?_)
  · refine to_c (pc := 23) rw_39_23 (x := (1 : Int32)) rfl rfl (to_go (pc := 24) rw_39_24 (s_r1 (pc := 28) rw_39_28 (A := 1) rfl (by decide) ?_))
    have k_10 : (1 : Int32).toInt = 1 := rfl
    exact h (1 : Int32) M hG F0 (by decide) (by decide) (by omega) (by omega)
  · refine to_an (pc := 15) rw_39_15 rfl (to_c (pc := 16) rw_39_16 (x := (3 : Int32)) rfl rfl (s_v (pc := 17) rw_39_17 (dp0 hd (by decide)) (ls0 := [.ref 1, .int (3 : Int32)]) rfl (Nat.le_of_ble_eq_true rfl) (Nat.le_of_ble_eq_true rfl) rfl (to_rc rfl rfl rfl (g_o hG rfl)) rfl (to_an (pc := 0) rw_84_0 rfl (to_in (pc := 1) rw_84_1 rfl (s_pI (pc := 2) rw_84_2 hG rfl (fun M12 W11 => ?_))))))
    have hG13 := g_wf hG W11 rfl rfl (by decide)
    have F14 := FR.w F0 W11 (show 1 = 1 ∧ (10 = 10 ∨ 10 = 11) by decide)
    refine to_an (pc := 5) rw_84_5 rfl (to_an (pc := 6) rw_84_6 rfl ?_)
    have c_15 : M12.2.1 1 9 = (M.2.1 1 9) := (W_n W11 (by decide) rfl)
    refine tt_gI (pc := 7) rw_84_7 (g_o hG13 rfl) (v := (M.2.1 1 9)) c_15 (s_pI (pc := 10) rw_84_10 hG13 rfl (fun M17 W16 => ?_))
    have hG18 := g_wf hG13 W16 rfl rfl (by decide)
    have F19 := FR.w F14 W16 (show 1 = 1 ∧ (11 = 10 ∨ 11 = 11) by decide)
    refine to_c (pc := 13) rw_84_13 (x := (0 : Int32)) rfl rfl (s_r1 (pc := 14) rw_84_14 (A := 0) rfl (by decide) (b_ieq_t (pc := 20) rw_39_20 (A := 0) rfl (by decide) (to_c (pc := 27) rw_39_27 (x := (0 : Int32)) rfl rfl (s_r1 (pc := 28) rw_39_28 (A := 0) rfl (by decide) ?_))))
    have k_20 : (0 : Int32).toInt = 0 := rfl
    exact h (0 : Int32) M17 hG18 F19 (by decide) (by decide) (by omega) (by omega)
set_option maxRecDepth 4000 in
set_option maxHeartbeats 0 in
theorem E_90 {X : mm_X} {d : Nat} {M : mm_M} {Q : Option Value → mm_M → Prop} {c : Int32} {t : Nat → Int} {nn : Int} {a : Int} (hX : g_X X) (hd : 1 ≤ d) (hG : g_G M) (q1 : CS M t nn) (q2 : (M.2.1 1 9).toInt = a) (q3 : c.toInt = 59) (h : ∀ (r : Int32) (M1 : mm_M), g_G M1 → FR md_p90 M M1 → (0 ≤ r.toInt) → (r.toInt ≤ 1) → CS M1 t nn → (r.toInt = 1 → (x_kind t nn a = 4 ∧ x_val t nn a = 59) ∧ (M1.2.1 1 9).toInt = x_ns t nn a) → (r.toInt = 0 → ¬ (x_kind t nn a = 4 ∧ x_val t nn a = 59)) → Q (some (.int r)) M1) : mm_T X d 90 0 [.ref 1, .int c] [] M Q := by
  have F0 : FR md_p90 M M := FR.rf
  have c_1 := CS_u q1 (a := a) (by omega)
  unfold x_C at c_1
  refine to_an (pc := 0) rw_90_0 rfl (tt_gI (pc := 1) rw_90_1 (g_o hG rfl) (v := (M.2.1 1 7)) rfl (to_in (pc := 4) rw_90_4 rfl (b_ceq (pc := 5) rw_90_5 (A := (M.2.1 1 7).toInt) (B := c.toInt) rfl rfl (fun h2 => ?_) (fun h2 => ?_))))
  · refine to_an (pc := 14) rw_90_14 rfl (s_v (pc := 15) rw_90_15 (dp0 hd (by decide)) (ls0 := [.ref 1]) rfl (Nat.le_of_ble_eq_true rfl) (Nat.le_of_ble_eq_true rfl) rfl (to_rc rfl rfl rfl (g_o hG rfl)) rfl (E_83 hX (dp1 hd (by decide)) hG q1 (by omega) (t := t) (nn := nn) (a := a) (fun M7 hG4 F3 p_5 p_6 => ?_)))
    have F8 := FR.c F0 F3 tg_31
    refine to_c (pc := 18) rw_90_18 (x := (1 : Int32)) rfl rfl (s_r1 (pc := 19) rw_90_19 (A := 1) rfl (by decide) ?_)
    have k_9 : (1 : Int32).toInt = 1 := rfl
    exact h (1 : Int32) M7 hG4 F8 (by decide) (by decide) p_5 (by omega) (by omega)
  · refine to_an (pc := 8) rw_90_8 rfl (to_c (pc := 9) rw_90_9 (x := (1 : Int32)) rfl rfl (s_v (pc := 10) rw_90_10 (dp0 hd (by decide)) (ls0 := [.ref 1, .int (1 : Int32)]) rfl (Nat.le_of_ble_eq_true rfl) (Nat.le_of_ble_eq_true rfl) rfl (to_rc rfl rfl rfl (g_o hG rfl)) rfl (to_an (pc := 0) rw_84_0 rfl (to_in (pc := 1) rw_84_1 rfl (s_pI (pc := 2) rw_84_2 hG rfl (fun M11 W10 => ?_))))))
    have hG12 := g_wf hG W10 rfl rfl (by decide)
    have F13 := FR.w F0 W10 (show 1 = 1 ∧ 6 ≤ 10 ∧ 10 ≤ 11 by decide)
    refine to_an (pc := 5) rw_84_5 rfl (to_an (pc := 6) rw_84_6 rfl ?_)
    have c_14 : M11.2.1 1 9 = (M.2.1 1 9) := (W_n W10 (by decide) rfl)
    refine tt_gI (pc := 7) rw_84_7 (g_o hG12 rfl) (v := (M.2.1 1 9)) c_14 (s_pI (pc := 10) rw_84_10 hG12 rfl (fun M16 W15 => ?_))
    have hG17 := g_wf hG12 W15 rfl rfl (by decide)
    have F18 := FR.w F13 W15 (show 1 = 1 ∧ 6 ≤ 11 ∧ 11 ≤ 11 by decide)
    refine to_c (pc := 13) rw_84_13 (x := (0 : Int32)) rfl rfl (s_r1 (pc := 14) rw_84_14 (A := 0) rfl (by decide) (s_r1 (pc := 13) rw_90_13 (A := 0) rfl (by decide) ?_))
    have k_19 : (0 : Int32).toInt = 0 := rfl
    have j_20 := (CS_f (fun a i z => W_n W15 (tg_32 a i z) rfl) (CS_f (fun a i z => W_n W10 (tg_33 a i z) rfl) q1))
    have c_21 : M16.2.1 1 9 = (M.2.1 1 9) := (W_n W15 (by decide) c_14)
    have t_22 : (M16.2.1 1 9).toInt = (M.2.1 1 9).toInt := congrArg Int32.toInt c_21
    exact h (0 : Int32) M16 hG17 F18 (by decide) (by decide) j_20 (by omega) (by omega)
