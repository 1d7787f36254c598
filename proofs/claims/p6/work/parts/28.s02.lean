theorem tg_109 {M M1 : mm_M} (F : FR (fun a i : Nat => a = 1 ∧ 6 ≤ i ∧ i ≤ 11 ∨ (a = 67 ∨ a = 72) ∧ i = 4) M M1) : ∀ a i : Nat, (a = 68 ∨ a = 69 ∨ a = 73 ∨ a = 74) → M1.2.1 a i = M.2.1 a i := fun a i z => F_n F (show ¬ (a = 1 ∧ 6 ≤ i ∧ i ≤ 11 ∨ (a = 67 ∨ a = 72) ∧ i = 4) by omega) rfl
theorem tg_110 {M M1 : mm_M} (F : FR (fun a i : Nat => (a = 67 ∨ a = 72) ∧ i = 5 ∨ 68 ≤ a ∧ a ≤ 70 ∨ 73 ≤ a ∧ a ≤ 75) M M1) : ∀ a i : Nat, (a = 1 ∧ 5 ≤ i ∧ i ≤ 9 ∨ 3 ≤ a ∧ a ≤ 5) → M1.2.1 a i = M.2.1 a i := fun a i z => F_n F (show ¬ ((a = 67 ∨ a = 72) ∧ i = 5 ∨ 68 ≤ a ∧ a ≤ 70 ∨ 73 ≤ a ∧ a ≤ 75) by omega) rfl
theorem tg_111 {M M1 : mm_M} (F : FR (fun a i : Nat => a = 1 ∧ (i = 10 ∨ i = 11)) M M1) : ∀ a i : Nat, (a = 68 ∨ a = 69 ∨ a = 73 ∨ a = 74) → M1.2.1 a i = M.2.1 a i := fun a i z => F_n F (show ¬ (a = 1 ∧ (i = 10 ∨ i = 11)) by omega) rfl
theorem tg_112 {M M1 : mm_M} (F : FR (fun a i : Nat => a = 1 ∧ 6 ≤ i ∧ i ≤ 9) M M1) : ∀ a i : Nat, (a = 68 ∨ a = 69 ∨ a = 73 ∨ a = 74) → M1.2.1 a i = M.2.1 a i := fun a i z => F_n F (show ¬ (a = 1 ∧ 6 ≤ i ∧ i ≤ 9) by omega) rfl
theorem tg_113 : ∀ a i : Nat, (a = 1 ∧ 6 ≤ i ∧ i ≤ 9) → (a = 1 ∧ 6 ≤ i ∧ i ≤ 11 ∨ (a = 67 ∨ a = 72) ∧ i = 4) := fun a i z => by omega
theorem tg_114 : ∀ a i : Nat, (a = 1 ∧ 6 ≤ i ∧ i ≤ 11 ∨ (a = 67 ∨ a = 72) ∧ i = 4) → (a = 1 ∧ 5 ≤ i ∨ 3 ≤ a ∧ a ≤ 5 ∨ 67 ≤ a ∧ a ≤ 76) := fun a i z => by omega
theorem tg_115 : ∀ a i : Nat, (a < 0) → (a = 1 ∧ 5 ≤ i ∨ 3 ≤ a ∧ a ≤ 5 ∨ 67 ≤ a ∧ a ≤ 76) := fun a i z => by omega
theorem tg_116 : ∀ a i : Nat, ((a = 67 ∨ a = 72) ∧ i = 5 ∨ 68 ≤ a ∧ a ≤ 70 ∨ 73 ≤ a ∧ a ≤ 75) → (a = 1 ∧ 5 ≤ i ∨ 3 ≤ a ∧ a ≤ 5 ∨ 67 ≤ a ∧ a ≤ 76) := fun a i z => by omega
theorem tg_117 : ∀ a i : Nat, (a = 1 ∧ 6 ≤ i ∧ i ≤ 9) → (a = 1 ∧ 5 ≤ i ∨ 3 ≤ a ∧ a ≤ 5 ∨ 67 ≤ a ∧ a ≤ 76) := fun a i z => by omega
theorem tg_118 : ∀ a i : Nat, (a = 1 ∧ (i = 10 ∨ i = 11)) → (a = 1 ∧ 5 ≤ i ∨ 3 ≤ a ∧ a ≤ 5 ∨ 67 ≤ a ∧ a ≤ 76) := fun a i z => by omega
theorem tg_119 : ∀ a i : Nat, (a = 68 ∨ a = 69 ∨ a = 73 ∨ a = 74) → ¬ (a = 1 ∧ i = 11) := fun a i z => by omega
theorem tg_120 : ∀ a i : Nat, (a = 68 ∨ a = 69 ∨ a = 73 ∨ a = 74) → ¬ (a = 1 ∧ i = 10) := fun a i z => by omega
set_option maxRecDepth 4000 in
set_option maxHeartbeats 0 in
theorem E_64 {X : mm_X} {d : Nat} {M : mm_M} {Q : Option Value → mm_M → Prop} {q : Nat} {k : Int32} {f : Int32} {s : Int32} (hX : g_X X) (hd : 0 ≤ d) (hG : g_G M) (hq : q = 67 ∨ q = 72) (q1 : 0 ≤ k.toInt) (q2 : k.toInt ≤ 4) (q3 : 0 ≤ f.toInt) (q4 : f.toInt ≤ 11) (q5 : k.toInt = 0 → f.toInt ≤ 7) (q6 : QI M) (h : ∀ (M1 : mm_M), g_G M1 → FR md_q64 M M1 → QI M1 → Q (none) M1) : mm_T X d 64 0 [.ref q, .int k, .int f, .int s] [] M Q := by
  have F0 : FR md_q64 M M := FR.rf
  refine to_an (pc := 0) rw_64_0 rfl ?_
  have b_1 := g_b hG (a := q) (i := 5) (lo := 0) (hi := 40) (by rcases hq with rfl | rfl <;> rfl) (by rcases hq with rfl | rfl <;> rfl)
  refine tt_gI (pc := 1) rw_64_1 (g_o hG (by rcases hq with rfl | rfl <;> rfl)) (v := (M.2.1 q 5)) rfl (to_c (pc := 4) rw_64_4 (x := (40 : Int32)) rfl rfl (b_cge (pc := 6) rw_64_6 (A := (M.2.1 q 5).toInt) (B := 40) rfl rfl (fun h2 => ?_) (fun h2 => ?_)))
  · refine to_rv (pc := 49) rw_64_49 ?_
    exact h M hG F0 q6
  · refine to_an (pc := 9) rw_64_9 rfl (s_gR (pc := 10) rw_64_10 hG (by rcases hq with rfl | rfl <;> rfl) (v := (q + 1)) (by rcases hq with rfl | rfl <;> rfl) (to_an (pc := 13) rw_64_13 rfl (tt_gI (pc := 14) rw_64_14 (g_o hG (by rcases hq with rfl | rfl <;> rfl)) (v := (M.2.1 q 5)) rfl (to_in (pc := 17) rw_64_17 rfl (s_ias (pc := 18) rw_64_18 hG (by rcases hq with rfl | rfl <;> rfl) (n := 40) (by rcases hq with rfl | rfl <;> rfl) (A := (M.2.1 q 5).toInt) rfl (by omega) (by omega) (fun M4 W3 => ?_))))))
    have hG5 := g_w hG W3 (A := k.toInt) rfl (lo := 0) (hi := 4) (by rcases hq with rfl | rfl <;> rfl) (by rcases hq with rfl | rfl <;> rfl) (by omega) (by omega)
    have F6 := FR.w F0 W3 (show ((q + 1) = 67 ∨ (q + 1) = 72) ∧ ((M.2.1 q 5).toInt).toNat = 5 ∨ 68 ≤ (q + 1) ∧ (q + 1) ≤ 70 ∨ 73 ≤ (q + 1) ∧ (q + 1) ≤ 75 by omega)
    refine to_an (pc := 19) rw_64_19 rfl (s_gR (pc := 20) rw_64_20 hG5 (by rcases hq with rfl | rfl <;> rfl) (v := (q + 2)) (by rcases hq with rfl | rfl <;> rfl) (to_an (pc := 23) rw_64_23 rfl ?_))
    have c_7 : M4.2.1 q 5 = (M.2.1 q 5) := (W_n W3 (by omega) rfl)
    refine tt_gI (pc := 24) rw_64_24 (g_o hG5 (by rcases hq with rfl | rfl <;> rfl)) (v := (M.2.1 q 5)) c_7 (to_in (pc := 27) rw_64_27 rfl (s_ias (pc := 28) rw_64_28 hG5 (by rcases hq with rfl | rfl <;> rfl) (n := 40) (by rcases hq with rfl | rfl <;> rfl) (A := (M.2.1 q 5).toInt) rfl (by omega) (by omega) (fun M9 W8 => ?_)))
    have hG10 := g_w hG5 W8 (A := f.toInt) rfl (lo := 0) (hi := 11) (by rcases hq with rfl | rfl <;> rfl) (by rcases hq with rfl | rfl <;> rfl) (by omega) (by omega)
    have F11 := FR.w F6 W8 (show ((q + 2) = 67 ∨ (q + 2) = 72) ∧ ((M.2.1 q 5).toInt).toNat = 5 ∨ 68 ≤ (q + 2) ∧ (q + 2) ≤ 70 ∨ 73 ≤ (q + 2) ∧ (q + 2) ≤ 75 by omega)
    have j_12 := QI_k q6 hq W3 W8 q5
    refine to_an (pc := 29) rw_64_29 rfl (s_gR (pc := 30) rw_64_30 hG10 (by rcases hq with rfl | rfl <;> rfl) (v := (q + 3)) (by rcases hq with rfl | rfl <;> rfl) (to_an (pc := 33) rw_64_33 rfl ?_))
    have c_13 : M9.2.1 q 5 = (M.2.1 q 5) := (W_n W8 (by omega) c_7)
    refine tt_gI (pc := 34) rw_64_34 (g_o hG10 (by rcases hq with rfl | rfl <;> rfl)) (v := (M.2.1 q 5)) c_13 (to_in (pc := 37) rw_64_37 rfl (s_ias (pc := 38) rw_64_38 hG10 (by rcases hq with rfl | rfl <;> rfl) (n := 40) (by rcases hq with rfl | rfl <;> rfl) (A := (M.2.1 q 5).toInt) rfl (by omega) (by omega) (fun M15 W14 => ?_)))
    have hG16 := g_wf hG10 W14 (by rcases hq with rfl | rfl <;> rfl) (by rcases hq with rfl | rfl <;> rfl) (by omega)
    have F17 := FR.w F11 W14 (show ((q + 3) = 67 ∨ (q + 3) = 72) ∧ ((M.2.1 q 5).toInt).toNat = 5 ∨ 68 ≤ (q + 3) ∧ (q + 3) ≤ 70 ∨ 73 ≤ (q + 3) ∧ (q + 3) ≤ 75 by omega)
    refine to_an (pc := 39) rw_64_39 rfl (to_dupr (pc := 40) rw_64_40 ?_)
    have c_18 : M15.2.1 q 5 = (M.2.1 q 5) := (W_n W14 (by omega) c_13)
    refine tt_gI (pc := 41) rw_64_41 (g_o hG16 (by rcases hq with rfl | rfl <;> rfl)) (v := (M.2.1 q 5)) c_18 (to_c (pc := 44) rw_64_44 (x := (1 : Int32)) rfl rfl (s_add (pc := 45) rw_64_45 (A := (M.2.1 q 5).toInt) (B := 1) rfl rfl (by omega) (fun v19 e20 => s_pI (pc := 46) rw_64_46 hG16 (by rcases hq with rfl | rfl <;> rfl) (fun M22 W21 => ?_))))
    have hG23 := g_w hG16 W21 (A := v19.toInt) rfl (lo := 0) (hi := 40) (by rcases hq with rfl | rfl <;> rfl) (by rcases hq with rfl | rfl <;> rfl) (by omega) (by omega)
    have F24 := FR.w F17 W21 (show (q = 67 ∨ q = 72) ∧ 5 = 5 ∨ 68 ≤ q ∧ q ≤ 70 ∨ 73 ≤ q ∧ q ≤ 75 by omega)
    refine to_rv (pc := 49) rw_64_49 ?_
    have j_25 := (QI_f (fun a i z => W_n W21 (by omega) rfl) (QI_f (fun a i z => W_n W14 (by omega) rfl) j_12))
    exact h M22 hG23 F24 j_25
set_option maxRecDepth 4000 in
set_option maxHeartbeats 0 in
theorem E_63 {X : mm_X} {d : Nat} {M : mm_M} {Q : Option Value → mm_M → Prop} {q : Nat} {t : Nat → Int} {nn : Int} {a : Int} (hX : g_X X) (hd : 1 ≤ d) (hG : g_G M) (hq : q = 67 ∨ q = 72) (q1 : CS M t nn) (q2 : (M.2.1 1 9).toInt = a) (h : ∀ (r : Int32) (M1 : mm_M), g_G M1 → FR md_f63 M M1 → (0 ≤ r.toInt) → (r.toInt ≤ 1) → CS M1 t nn → (r.toInt = 1 → (M.2.1 q 4).toInt < 40 ∧ (M1.2.1 q 4).toInt = (M.2.1 q 4).toInt + 1 ∧ (M1.2.1 1 9).toInt = x_ns t nn a) → (r.toInt = 0 → (M.2.1 q 4).toInt = 40 ∧ (M1.2.1 q 4).toInt = (M.2.1 q 4).toInt ∧ (M1.2.1 1 10).toInt = 2 ∧ (M1.2.1 1 11).toInt = a) → Q (some (.int r)) M1) : mm_T X d 63 0 [.ref q, .ref 1] [] M Q := by
  have F0 : FR md_f63 M M := FR.rf
  have c_1 := CS_u q1 (a := a) (by omega)
  unfold x_C at c_1
  have b_2 := g_b hG (a := q) (i := 4) (lo := 0) (hi := 40) (by rcases hq with rfl | rfl <;> rfl) (by rcases hq with rfl | rfl <;> rfl)
  refine to_an (pc := 0) rw_63_0 rfl (tt_gI (pc := 1) rw_63_1 (g_o hG (by rcases hq with rfl | rfl <;> rfl)) (v := (M.2.1 q 4)) rfl (to_c (pc := 4) rw_63_4 (x := (40 : Int32)) rfl rfl (b_clt (pc := 6) rw_63_6 (A := (M.2.1 q 4).toInt) (B := 40) rfl rfl (fun h3 => ?_) (fun h3 => ?_))))
  · refine to_an (pc := 15) rw_63_15 rfl (to_dupr (pc := 16) rw_63_16 (tt_gI (pc := 17) rw_63_17 (g_o hG (by rcases hq with rfl | rfl <;> rfl)) (v := (M.2.1 q 4)) rfl (to_c (pc := 20) rw_63_20 (x := (1 : Int32)) rfl rfl (s_add (pc := 21) rw_63_21 (A := (M.2.1 q 4).toInt) (B := 1) rfl rfl (by omega) (fun v4 e5 => s_pI (pc := 22) rw_63_22 hG (by rcases hq with rfl | rfl <;> rfl) (fun M7 W6 => ?_))))))
    have hG8 := g_w hG W6 (A := v4.toInt) rfl (lo := 0) (hi := 40) (by rcases hq with rfl | rfl <;> rfl) (by rcases hq with rfl | rfl <;> rfl) (by omega) (by omega)
    have F9 := FR.w F0 W6 (show q = 1 ∧ 6 ≤ 4 ∧ 4 ≤ 11 ∨ (q = 67 ∨ q = 72) ∧ 4 = 4 by omega)
    refine to_an (pc := 25) rw_63_25 rfl (s_v (pc := 26) rw_63_26 (dp0 hd (by decide)) (ls0 := [.ref 1]) rfl (Nat.le_of_ble_eq_true rfl) (Nat.le_of_ble_eq_true rfl) rfl (to_rc rfl rfl rfl (g_o hG8 rfl)) rfl ?_)
    have j_10 := (CS_f (fun a i z => W_n W6 (by omega) rfl) q1)
    have c_11 : M7.2.1 1 9 = (M.2.1 1 9) := (W_n W6 (by omega) rfl)
    have t_12 : (M7.2.1 1 9).toInt = (M.2.1 1 9).toInt := congrArg Int32.toInt c_11
    refine E_83 hX (dp1 hd (by decide)) hG8 j_10 (by omega) (t := t) (nn := nn) (a := a) (fun M17 hG14 F13 p_15 p_16 => ?_)
    have F18 := FR.c F9 F13 tg_113
    refine to_c (pc := 29) rw_63_29 (x := (1 : Int32)) rfl rfl (s_r1 (pc := 30) rw_63_30 (A := 1) rfl (by decide) ?_)
    have k_19 : (1 : Int32).toInt = 1 := rfl
    have c_20 : M17.2.1 q 4 = v4 := (F_n F13 (show ¬ (q = 1 ∧ 6 ≤ 4 ∧ 4 ≤ 9) by omega) (W_e W6))
    have t_21 : (M17.2.1 q 4).toInt = v4.toInt := congrArg Int32.toInt c_20
    have c_22 : M17.2.1 1 10 = (M.2.1 1 10) := (F_n F13 (show ¬ (1 = 1 ∧ 6 ≤ 10 ∧ 10 ≤ 9) by decide) (W_n W6 (by omega) rfl))
    have t_23 : (M17.2.1 1 10).toInt = (M.2.1 1 10).toInt := congrArg Int32.toInt c_22
    have c_24 : M17.2.1 1 11 = (M.2.1 1 11) := (F_n F13 (show ¬ (1 = 1 ∧ 6 ≤ 11 ∧ 11 ≤ 9) by decide) (W_n W6 (by omega) rfl))
    have t_25 : (M17.2.1 1 11).toInt = (M.2.1 1 11).toInt := congrArg Int32.toInt c_24
    exact h (1 : Int32) M17 hG14 F18 (by decide) (by decide) p_15 (by omega) (by omega)
  · refine to_an (pc := 9) rw_63_9 rfl (to_c (pc := 10) rw_63_10 (x := (2 : Int32)) rfl rfl (s_v (pc := 11) rw_63_11 (dp0 hd (by decide)) (ls0 := [.ref 1, .int (2 : Int32)]) rfl (Nat.le_of_ble_eq_true rfl) (Nat.le_of_ble_eq_true rfl) rfl (to_rc rfl rfl rfl (g_o hG rfl)) rfl (to_an (pc := 0) rw_84_0 rfl (to_in (pc := 1) rw_84_1 rfl (s_pI (pc := 2) rw_84_2 hG rfl (fun M27 W26 => ?_))))))
    have hG28 := g_wf hG W26 rfl rfl (by decide)
    have F29 := FR.w F0 W26 (show 1 = 1 ∧ 6 ≤ 10 ∧ 10 ≤ 11 ∨ (1 = 67 ∨ 1 = 72) ∧ 10 = 4 by decide)
    refine to_an (pc := 5) rw_84_5 rfl (to_an (pc := 6) rw_84_6 rfl ?_)
    have c_30 : M27.2.1 1 9 = (M.2.1 1 9) := (W_n W26 (by decide) rfl)
    refine tt_gI (pc := 7) rw_84_7 (g_o hG28 rfl) (v := (M.2.1 1 9)) c_30 (s_pI (pc := 10) rw_84_10 hG28 rfl (fun M32 W31 => ?_))
    have hG33 := g_wf hG28 W31 rfl rfl (by decide)
    have F34 := FR.w F29 W31 (show 1 = 1 ∧ 6 ≤ 11 ∧ 11 ≤ 11 ∨ (1 = 67 ∨ 1 = 72) ∧ 11 = 4 by decide)
    refine to_c (pc := 13) rw_84_13 (x := (0 : Int32)) rfl rfl (s_r1 (pc := 14) rw_84_14 (A := 0) rfl (by decide) (s_r1 (pc := 14) rw_63_14 (A := 0) rfl (by decide) ?_))
    have k_35 : (0 : Int32).toInt = 0 := rfl
    have j_36 := (CS_f (fun a i z => W_n W31 (tg_32 a i z) rfl) (CS_f (fun a i z => W_n W26 (tg_33 a i z) rfl) q1))
    have c_37 : M32.2.1 q 4 = (M.2.1 q 4) := (W_n W31 (by omega) (W_n W26 (by omega) rfl))
    have t_38 : (M32.2.1 q 4).toInt = (M.2.1 q 4).toInt := congrArg Int32.toInt c_37
    have c_39 : M32.2.1 1 9 = (M.2.1 1 9) := (W_n W31 (by decide) c_30)
    have t_40 : (M32.2.1 1 9).toInt = (M.2.1 1 9).toInt := congrArg Int32.toInt c_39
    have c_41 : M32.2.1 1 10 = (2 : Int32) := (W_n W31 (by decide) (W_e W26))
    have k_42 : (2 : Int32).toInt = 2 := rfl
    have t_43 : (M32.2.1 1 10).toInt = (2 : Int32).toInt := congrArg Int32.toInt c_41
    have c_44 : M32.2.1 1 11 = (M.2.1 1 9) := (W_e W31)
    have t_45 : (M32.2.1 1 11).toInt = (M.2.1 1 9).toInt := congrArg Int32.toInt c_44
    exact h (0 : Int32) M32 hG33 F34 (by decide) (by decide) j_36 (by omega) (by omega)
set_option maxRecDepth 4000 in
set_option maxHeartbeats 0 in
theorem E_90s {X : mm_X} {d : Nat} {M : mm_M} {Q : Option Value → mm_M → Prop} {c : Int32} {t : Nat → Int} {nn : Int} {a : Int} (hX : g_X X) (hd : 1 ≤ d) (hG : g_G M) (q1 : CS M t nn) (q2 : (M.2.1 1 9).toInt = a) (q3 : c.toInt = 40 ∨ c.toInt = 41 ∨ c.toInt = 61 ∨ c.toInt = 59) (h : ∀ (r : Int32) (M1 : mm_M), g_G M1 → FR md_p90 M M1 → (0 ≤ r.toInt) → (r.toInt ≤ 1) → CS M1 t nn → (r.toInt = 1 → (x_kind t nn a = 4 ∧ x_val t nn a = c.toInt) ∧ (M1.2.1 1 9).toInt = x_ns t nn a) → (r.toInt = 0 → ¬ (x_kind t nn a = 4 ∧ x_val t nn a = c.toInt)) → (r.toInt = 0 → (M1.2.1 1 10).toInt = 1 ∧ (M1.2.1 1 11).toInt = a) → (r.toInt = 1 → (M1.2.1 1 10).toInt = (M.2.1 1 10).toInt ∧ (M1.2.1 1 11).toInt = (M.2.1 1 11).toInt) → Q (some (.int r)) M1) : mm_T X d 90 0 [.ref 1, .int c] [] M Q := by
  have F0 : FR md_p90 M M := FR.rf
  have c_1 := CS_u q1 (a := a) (by omega)
  unfold x_C at c_1
  refine to_an (pc := 0) rw_90_0 rfl (tt_gI (pc := 1) rw_90_1 (g_o hG rfl) (v := (M.2.1 1 7)) rfl (to_in (pc := 4) rw_90_4 rfl (b_ceq (pc := 5) rw_90_5 (A := (M.2.1 1 7).toInt) (B := c.toInt) rfl rfl (fun h2 => ?_) (fun h2 => ?_))))
  · refine to_an (pc := 14) rw_90_14 rfl (s_v (pc := 15) rw_90_15 (dp0 hd (by decide)) (ls0 := [.ref 1]) rfl (Nat.le_of_ble_eq_true rfl) (Nat.le_of_ble_eq_true rfl) rfl (to_rc rfl rfl rfl (g_o hG rfl)) rfl (E_83 hX (dp1 hd (by decide)) hG q1 (by omega) (t := t) (nn := nn) (a := a) (fun M7 hG4 F3 p_5 p_6 => ?_)))
    have F8 := FR.c F0 F3 tg_31
    refine to_c (pc := 18) rw_90_18 (x := (1 : Int32)) rfl rfl (s_r1 (pc := 19) rw_90_19 (A := 1) rfl (by decide) ?_)
    have k_9 : (1 : Int32).toInt = 1 := rfl
    have c_10 : M7.2.1 1 10 = (M.2.1 1 10) := (F_n F3 (show ¬ (1 = 1 ∧ 6 ≤ 10 ∧ 10 ≤ 9) by decide) rfl)
    have t_11 : (M7.2.1 1 10).toInt = (M.2.1 1 10).toInt := congrArg Int32.toInt c_10
    have c_12 : M7.2.1 1 11 = (M.2.1 1 11) := (F_n F3 (show ¬ (1 = 1 ∧ 6 ≤ 11 ∧ 11 ≤ 9) by decide) rfl)
    have t_13 : (M7.2.1 1 11).toInt = (M.2.1 1 11).toInt := congrArg Int32.toInt c_12
    exact h (1 : Int32) M7 hG4 F8 (by decide) (by decide) p_5 (by omega) (by omega) (by omega) (by omega)
  · refine to_an (pc := 8) rw_90_8 rfl (to_c (pc := 9) rw_90_9 (x := (1 : Int32)) rfl rfl (s_v (pc := 10) rw_90_10 (dp0 hd (by decide)) (ls0 := [.ref 1, .int (1 : Int32)]) rfl (Nat.le_of_ble_eq_true rfl) (Nat.le_of_ble_eq_true rfl) rfl (to_rc rfl rfl rfl (g_o hG rfl)) rfl (to_an (pc := 0) rw_84_0 rfl (to_in (pc := 1) rw_84_1 rfl (s_pI (pc := 2) rw_84_2 hG rfl (fun M15 W14 => ?_))))))
    have hG16 := g_wf hG W14 rfl rfl (by decide)
    have F17 := FR.w F0 W14 (show 1 = 1 ∧ 6 ≤ 10 ∧ 10 ≤ 11 by decide)
    refine to_an (pc := 5) rw_84_5 rfl (to_an (pc := 6) rw_84_6 rfl ?_)
    have c_18 : M15.2.1 1 9 = (M.2.1 1 9) := (W_n W14 (by decide) rfl)
    refine tt_gI (pc := 7) rw_84_7 (g_o hG16 rfl) (v := (M.2.1 1 9)) c_18 (s_pI (pc := 10) rw_84_10 hG16 rfl (fun M20 W19 => ?_))
    have hG21 := g_wf hG16 W19 rfl rfl (by decide)
    have F22 := FR.w F17 W19 (show 1 = 1 ∧ 6 ≤ 11 ∧ 11 ≤ 11 by decide)
    refine to_c (pc := 13) rw_84_13 (x := (0 : Int32)) rfl rfl (s_r1 (pc := 14) rw_84_14 (A := 0) rfl (by decide) (s_r1 (pc := 13) rw_90_13 (A := 0) rfl (by decide) ?_))
    have k_23 : (0 : Int32).toInt = 0 := rfl
    have j_24 := (CS_f (fun a i z => W_n W19 (tg_32 a i z) rfl) (CS_f (fun a i z => W_n W14 (tg_33 a i z) rfl) q1))
    have c_25 : M20.2.1 1 9 = (M.2.1 1 9) := (W_n W19 (by decide) c_18)
    have t_26 : (M20.2.1 1 9).toInt = (M.2.1 1 9).toInt := congrArg Int32.toInt c_25
    have c_27 : M20.2.1 1 10 = (1 : Int32) := (W_n W19 (by decide) (W_e W14))
    have k_28 : (1 : Int32).toInt = 1 := rfl
    have t_29 : (M20.2.1 1 10).toInt = (1 : Int32).toInt := congrArg Int32.toInt c_27
    have c_30 : M20.2.1 1 11 = (M.2.1 1 9) := (W_e W19)
    have t_31 : (M20.2.1 1 11).toInt = (M.2.1 1 9).toInt := congrArg Int32.toInt c_30
    exact h (0 : Int32) M20 hG21 F22 (by decide) (by decide) j_24 (by omega) (by omega) (by omega) (by omega)
set_option maxRecDepth 4000 in
set_option maxHeartbeats 0 in
theorem E_62 {X : mm_X} {d : Nat} {M : mm_M} {Q : Option Value → mm_M → Prop} {q : Nat} {p : Nat} {t : Nat → Int} {nn : Int} {a : Int} {sg : x_S} {b : Int} (hX : g_X X) (hd : 2 ≤ d) (hG : g_G M) (hq : q = 67 ∨ q = 72) (hp : p = 49 ∨ p = 58) (q1 : QI M) (q2 : CS M t nn) (q3 : (M.2.1 1 9).toInt = a) (q4 : PLs M p sg) (q5 : ¬ (x_kind t nn a = 4 ∧ x_val t nn a = 40)) (q6 : ¬ (x_kind t nn a = 1 ∧ x_kx (x_val t nn a) = 14)) (h : ∀ (r : Int32) (M1 : mm_M), g_G M1 → FR md_qt M M1 → (0 ≤ r.toInt) → (r.toInt ≤ 1) → QI M1 → CS M1 t nn → (r.toInt = 1 → (M.2.1 q 4).toInt < (M1.2.1 q 4).toInt) → ((r.toInt = 1 → x_qq t nn sg 0 b (M.2.1 q 4).toInt a = x_qq t nn sg 1 b (M1.2.1 q 4).toInt (M1.2.1 1 9).toInt)) → ((r.toInt = 0 → x_qq t nn sg 0 b (M.2.1 q 4).toInt a = Sum.inl ((M1.2.1 1 10).toInt, (M1.2.1 1 11).toInt))) → Q (some (.int r)) M1) : mm_T X d 62 0 [.ref q, .ref 1, .ref p, .null, .null, .null, .null] [] M Q := by
  have F0 : FR md_qt M M := FR.rf
  have c_1 := CS_u q2 (a := a) (by omega)
  unfold x_C at c_1
  have z_2 := q4.2.1
  have z_3 := q4.2.2.1
  have z_4 := q4.2.2.2.1
  have z_5 := q4.1
  have z_6 := z_5.1
  have z_7 := z_5.2.1
  have z_8 := z_5.2.2.1
  have z_9 := z_5.2.2.2.1
  have z_10 := z_5.2.2.2.2.1
  have z_11 := z_5.2.2.2.2.2.1
  have b_12 := g_b hG (a := p) (i := 2) (lo := 0) (hi := 8) (by rcases hp with rfl | rfl <;> rfl) (by rcases hp with rfl | rfl <;> rfl)
  have b_13 := g_b hG (a := p) (i := 3) (lo := 0) (hi := 12) (by rcases hp with rfl | rfl <;> rfl) (by rcases hp with rfl | rfl <;> rfl)
  have b_14 := g_b hG (a := q) (i := 4) (lo := 0) (hi := 40) (by rcases hq with rfl | rfl <;> rfl) (by rcases hq with rfl | rfl <;> rfl)
  have z_15 := CS_u q2 (a := a) (by omega)
  refine to_an (pc := 0) rw_62_0 rfl (tt_gI (pc := 1) rw_62_1 (g_o hG rfl) (v := (M.2.1 1 7)) rfl (to_c (pc := 4) rw_62_4 (x := (3 : Int32)) rfl rfl (b_ceq (pc := 5) rw_62_5 (A := (M.2.1 1 7).toInt) (B := 3) rfl rfl (fun h16 => ?_) (fun h16 => ?_))))
  · refine to_an (pc := 14) rw_62_14 rfl (tt_gI (pc := 15) rw_62_15 (g_o hG rfl) (v := (M.2.1 1 8)) rfl (to_isn (pc := 18) rw_62_18 (ls2 := [.ref q, .ref 1, .ref p, .int (M.2.1 1 8), .null, .null, .null]) rfl rfl (to_an (pc := 19) rw_62_19 rfl (tt_gI (pc := 20) rw_62_20 (g_o hG rfl) (v := (M.2.1 1 9)) rfl (to_is (pc := 23) rw_62_23 (ls2 := [.ref q, .ref 1, .ref p, .int (M.2.1 1 8), .int (M.2.1 1 9), .null, .null]) rfl rfl (to_an (pc := 25) rw_62_25 rfl (to_an (pc := 26) rw_62_26 rfl (s_v (pc := 27) rw_62_27 (dp0 hd (by decide)) (ls0 := [.ref q, .ref 1]) rfl (Nat.le_of_ble_eq_true rfl) (Nat.le_of_ble_eq_true rfl) rfl (to_rc rfl rfl rfl (g_o hG (by rcases hq with rfl | rfl <;> rfl))) rfl (E_63 hX (dp1 hd (by decide)) hG hq q2 (by omega) (q := q) (t := t) (nn := nn) (a := a) (fun r17 M25 hG19 F18 p_20 p_21 p_22 p_23 p_24 => ?_))))))))))
    have F26 := FR.c F0 F18 tg_114
    have b_27 := g_b hG19 (a := q) (i := 4) (lo := 0) (hi := 40) (by rcases hq with rfl | rfl <;> rfl) (by rcases hq with rfl | rfl <;> rfl)
    rcases (show r17.toInt = 0 ∨ r17.toInt = 1 by omega) with h28 | h28
    · skip
      have p_29 := p_24 (by omega)
      clear p_23 p_24
      refine b_ine_f (pc := 30) rw_62_30 (A := r17.toInt) rfl (by omega) (to_c (pc := 33) rw_62_33 (x := (0 : Int32)) rfl rfl (s_r1 (pc := 34) rw_62_34 (A := 0) rfl (by decide) ?_))
      have k_30 : (0 : Int32).toInt = 0 := rfl
      have j_31 := (QI_f (tg_109 F18) q1)
      exact h (0 : Int32) M25 hG19 F26 (by decide) (by decide) j_31 p_22 (by omega) (fun z => absurd z (by decide)) (fun _ => by first | exact inl_e (by omega) (by omega) (q_0x (by omega) (by omega) q5 q6 (by omega)) | exact inl_e (by omega) (by omega) (q_nmx (by omega) (by omega) (by omega) (by omega)) | exact inl_e (by omega) (by omega) ((q_nm (by omega) (by omega) (by omega) (by omega)).trans (qn_wx (by omega) (by omega))) | exact inl_e (by omega) (by omega) ((q_nm (by omega) (by omega) (by omega) (by omega)).trans (qn_vx (by omega) (by omega))) | exact inl_e (by omega) (by omega) ((q_nm (by omega) (by omega) (by omega) (by omega)).trans (qn_v2 (by omega) (by omega) (by omega) (by omega))) | exact inl_e (by omega) (by omega) ((q_nm (by omega) (by omega) (by omega) (by omega)).trans (qn_v1 (by omega) (by omega) (by omega))) | exact (if g9 : x_kind t nn (x_ns t nn (x_ns t nn a)) = 3 then inl_e (by omega) (by omega) ((q_nm (by omega) (by omega) (by omega) (by omega)).trans (qn_v2 (by omega) (by omega) g9 (by omega))) else inl_e (by omega) (by omega) ((q_nm (by omega) (by omega) (by omega) (by omega)).trans (qn_v1 (by omega) (by omega) g9))))
    · skip
      have p_32 := p_23 (by omega)
      clear p_23 p_24
      have c_33 := CS_u p_22 (a := (x_ns t nn a)) (by omega)
      unfold x_C at c_33
      refine b_ine_t (pc := 30) rw_62_30 (A := r17.toInt) rfl (by omega) (to_an (pc := 35) rw_62_35 rfl (tt_gI (pc := 36) rw_62_36 (g_o hG19 rfl) (v := (M25.2.1 1 7)) rfl (to_c (pc := 39) rw_62_39 (x := (61 : Int32)) rfl rfl (b_cne (pc := 41) rw_62_41 (A := (M25.2.1 1 7).toInt) (B := 61) rfl rfl (fun h34 => ?_) (fun h34 => ?_)))))
      · refine to_c (pc := 48) rw_62_48 (x := (0 : Int32)) rfl rfl (to_is (pc := 49) rw_62_49 (ls2 := [.ref q, .ref 1, .ref p, .int (M.2.1 1 8), .int (M.2.1 1 9), .int (0 : Int32), .null]) rfl rfl (to_i (pc := 51) rw_62_51 rfl (b_ieq_t (pc := 53) rw_62_53 (A := 0) rfl (by decide) (to_an (pc := 64) rw_62_64 rfl (to_in (pc := 65) rw_62_65 rfl (s_v (pc := 66) rw_62_66 (dp0 hd (by decide)) (ls0 := [.ref p, .int (M.2.1 1 8)]) rfl (Nat.le_of_ble_eq_true rfl) (Nat.le_of_ble_eq_true rfl) rfl (to_rc rfl rfl rfl (g_o hG19 (by rcases hp with rfl | rfl <;> rfl))) rfl (to_an (pc := 0) rw_53_0 rfl (s_gR (pc := 1) rw_53_1 hG19 (by rcases hp with rfl | rfl <;> rfl) (v := (p + 6)) (by rcases hp with rfl | rfl <;> rfl) (to_an (pc := 4) rw_53_4 rfl ?_)))))))))
        have c_35 : M25.2.1 p 3 = (M.2.1 p 3) := (F_n F18 (show ¬ (p = 1 ∧ 6 ≤ 3 ∧ 3 ≤ 11 ∨ (p = 67 ∨ p = 72) ∧ 3 = 4) by omega) rfl)
        refine tt_gI (pc := 5) rw_53_5 (g_o hG19 (by rcases hp with rfl | rfl <;> rfl)) (v := (M.2.1 p 3)) c_35 (to_in (pc := 8) rw_53_8 rfl (s_s (pc := 9) rw_53_9 (dp1 hd (by decide)) (ls0 := [.ref (p + 6), .int (M.2.1 p 3), .int (M.2.1 1 8), .null]) rfl (Nat.le_of_ble_eq_true rfl) (Nat.le_of_ble_eq_true rfl) rfl (to_rcs rfl rfl) rfl ?_))
        have j_36 := (PLs_f (fun a i z => F_n F18 (show ¬ (a = 1 ∧ 6 ≤ i ∧ i ≤ 11 ∨ (a = 67 ∨ a = 72) ∧ i = 4) by omega) rfl) q4)
        refine E_54g hX (dp2 hd (by decide)) hG19 (by omega) (by omega) (by omega) (g := (p + 6)) (s := (M.2.1 p 3)) (x := (M.2.1 1 8)) (fun r37 M43 hG39 F38 p_40 p_41 p_42 => ?_)
        have F44 := FR.c F26 F38 tg_115
        have z_45 := PLs_w (v := (M.2.1 1 8).toInt) j_36 (n := (M.2.1 p 3).toInt) (by omega)
        have z_46 := x_fn_v (s := sg) (r := 6) (v := (M.2.1 1 8).toInt) (w := x_val t nn a)
        refine to_r0 (pc := 12) rw_53_12 (to_is (pc := 69) rw_62_69 (ls2 := [.ref q, .ref 1, .ref p, .int (M.2.1 1 8), .int (M.2.1 1 9), .int (0 : Int32), .int r37]) rfl rfl (to_i (pc := 71) rw_62_71 rfl (to_c (pc := 73) rw_62_73 (x := (-1 : Int32)) rfl rfl (b_ceq (pc := 74) rw_62_74 (A := r37.toInt) (B := -1) rfl rfl (fun h47 => ?_) (fun h47 => ?_)))))
        · refine to_an (pc := 91) rw_62_91 rfl (to_c (pc := 92) rw_62_92 (x := (4 : Int32)) rfl rfl (to_i (pc := 93) rw_62_93 rfl (s_v (pc := 95) rw_62_95 (dp0 hd (by decide)) (ls0 := [.ref 1, .int (4 : Int32), .int (M.2.1 1 9)]) rfl (Nat.le_of_ble_eq_true rfl) (Nat.le_of_ble_eq_true rfl) rfl (to_rc rfl rfl rfl (g_o hG39 rfl)) rfl (to_an (pc := 0) rw_85_0 rfl (to_in (pc := 1) rw_85_1 rfl (s_pI (pc := 2) rw_85_2 hG39 rfl (fun M49 W48 => ?_)))))))
          have hG50 := g_wf hG39 W48 rfl rfl (by decide)
          have F51 := FR.w F44 W48 (show 1 = 1 ∧ 5 ≤ 10 ∨ 3 ≤ 1 ∧ 1 ≤ 5 ∨ 67 ≤ 1 ∧ 1 ≤ 76 by decide)
          refine to_an (pc := 5) rw_85_5 rfl (to_in (pc := 6) rw_85_6 rfl (s_pI (pc := 7) rw_85_7 hG50 rfl (fun M53 W52 => ?_)))
          have hG54 := g_wf hG50 W52 rfl rfl (by decide)
          have F55 := FR.w F51 W52 (show 1 = 1 ∧ 5 ≤ 11 ∨ 3 ≤ 1 ∧ 1 ≤ 5 ∨ 67 ≤ 1 ∧ 1 ≤ 76 by decide)
          refine to_c (pc := 10) rw_85_10 (x := (0 : Int32)) rfl rfl (s_r1 (pc := 11) rw_85_11 (A := 0) rfl (by decide) (s_r1 (pc := 98) rw_62_98 (A := 0) rfl (by decide) ?_))
          have k_56 : (0 : Int32).toInt = 0 := rfl
          have j_57 := (QI_f (fun a i z => W_n W52 (tg_119 a i z) rfl) (QI_f (fun a i z => W_n W48 (tg_120 a i z) rfl) (QI_f (tg_100 F38) (QI_f (tg_109 F18) q1))))
          have j_58 := (CS_f (fun a i z => W_n W52 (tg_32 a i z) rfl) (CS_f (fun a i z => W_n W48 (tg_33 a i z) rfl) (CS_f (tg_28 F38) p_22)))
          have c_59 : M53.2.1 q 4 = (M25.2.1 q 4) := (W_n W52 (by omega) (W_n W48 (by omega) (F_n F38 (show ¬ (q < 0) by omega) rfl)))
          have t_60 : (M53.2.1 q 4).toInt = (M25.2.1 q 4).toInt := congrArg Int32.toInt c_59
          have c_61 : M53.2.1 1 10 = (4 : Int32) := (W_n W52 (by decide) (W_e W48))
          have k_62 : (4 : Int32).toInt = 4 := rfl
          have t_63 : (M53.2.1 1 10).toInt = (4 : Int32).toInt := congrArg Int32.toInt c_61
          have c_64 : M53.2.1 1 11 = (M.2.1 1 9) := (W_e W52)
          have t_65 : (M53.2.1 1 11).toInt = (M.2.1 1 9).toInt := congrArg Int32.toInt c_64
          exact h (0 : Int32) M53 hG54 F55 (by decide) (by decide) j_57 j_58 (by omega) (fun z => absurd z (by decide)) (fun _ => by first | exact inl_e (by omega) (by omega) (q_0x (by omega) (by omega) q5 q6 (by omega)) | exact inl_e (by omega) (by omega) (q_nmx (by omega) (by omega) (by omega) (by omega)) | exact inl_e (by omega) (by omega) ((q_nm (by omega) (by omega) (by omega) (by omega)).trans (qn_wx (by omega) (by omega))) | exact inl_e (by omega) (by omega) ((q_nm (by omega) (by omega) (by omega) (by omega)).trans (qn_vx (by omega) (by omega))) | exact inl_e (by omega) (by omega) ((q_nm (by omega) (by omega) (by omega) (by omega)).trans (qn_v2 (by omega) (by omega) (by omega) (by omega))) | exact inl_e (by omega) (by omega) ((q_nm (by omega) (by omega) (by omega) (by omega)).trans (qn_v1 (by omega) (by omega) (by omega))) | exact (if g9 : x_kind t nn (x_ns t nn (x_ns t nn a)) = 3 then inl_e (by omega) (by omega) ((q_nm (by omega) (by omega) (by omega) (by omega)).trans (qn_v2 (by omega) (by omega) g9 (by omega))) else inl_e (by omega) (by omega) ((q_nm (by omega) (by omega) (by omega) (by omega)).trans (qn_v1 (by omega) (by omega) g9))))
        · refine to_i (pc := 77) rw_62_77 rfl (b_ieq_t (pc := 79) rw_62_79 (A := 0) rfl (by decide) (to_i (pc := 99) rw_62_99 rfl (b_ine_f (pc := 101) rw_62_101 (A := 0) rfl (by decide) (to_an (pc := 104) rw_62_104 rfl (to_c (pc := 105) rw_62_105 (x := (1 : Int32)) rfl rfl (to_i (pc := 106) rw_62_106 rfl (to_c (pc := 108) rw_62_108 (x := (0 : Int32)) rfl rfl (s_v (pc := 109) rw_62_109 (dp0 hd (by decide)) (ls0 := [.ref q, .int (1 : Int32), .int r37, .int (0 : Int32)]) rfl (Nat.le_of_ble_eq_true rfl) (Nat.le_of_ble_eq_true rfl) rfl (to_rc rfl rfl rfl (g_o hG39 (by rcases hq with rfl | rfl <;> rfl))) rfl ?_))))))))
          have k_66 : (1 : Int32).toInt = 1 := rfl
          have k_67 : (0 : Int32).toInt = 0 := rfl
          have j_68 := (QI_f (tg_100 F38) (QI_f (tg_109 F18) q1))
          refine E_64 hX (dp1 hd (by decide)) hG39 hq (by omega) (by omega) (by omega) (by omega) (by omega) j_68 (q := q) (k := (1 : Int32)) (f := r37) (s := (0 : Int32)) (fun M72 hG70 F69 p_71 => ?_)
          have F73 := FR.c F44 F69 tg_116
          refine to_c (pc := 112) rw_62_112 (x := (1 : Int32)) rfl rfl (s_r1 (pc := 113) rw_62_113 (A := 1) rfl (by decide) ?_)
          have j_74 := (CS_f (tg_110 F69) (CS_f (tg_28 F38) p_22))
          have c_75 : M72.2.1 q 4 = (M25.2.1 q 4) := (F_n F69 (show ¬ ((q = 67 ∨ q = 72) ∧ 4 = 5 ∨ 68 ≤ q ∧ q ≤ 70 ∨ 73 ≤ q ∧ q ≤ 75) by omega) (F_n F38 (show ¬ (q < 0) by omega) rfl))
          have t_76 : (M72.2.1 q 4).toInt = (M25.2.1 q 4).toInt := congrArg Int32.toInt c_75
          have c_77 : M72.2.1 1 9 = (M25.2.1 1 9) := (F_n F69 (show ¬ ((1 = 67 ∨ 1 = 72) ∧ 9 = 5 ∨ 68 ≤ 1 ∧ 1 ≤ 70 ∨ 73 ≤ 1 ∧ 1 ≤ 75) by decide) (F_n F38 (show ¬ (1 < 0) by decide) rfl))
          have t_78 : (M72.2.1 1 9).toInt = (M25.2.1 1 9).toInt := congrArg Int32.toInt c_77
          exact h (1 : Int32) M72 hG70 F73 (by decide) (by decide) p_71 j_74 (by omega) (fun _ => by rw [show (M72.2.1 q 4).toInt = (M.2.1 q 4).toInt + 1 by omega, show (M72.2.1 1 9).toInt = (x_ns t nn a) by omega]; exact (q_nm (by omega) (by omega) (by omega) (by omega)).trans (qn_w (by omega) (by omega))) (fun z => absurd z (by decide))
      · refine to_c (pc := 44) rw_62_44 (x := (1 : Int32)) rfl rfl (to_go (pc := 45) rw_62_45 (to_is (pc := 49) rw_62_49 (ls2 := [.ref q, .ref 1, .ref p, .int (M.2.1 1 8), .int (M.2.1 1 9), .int (1 : Int32), .null]) rfl rfl (to_i (pc := 51) rw_62_51 rfl (b_ieq_f (pc := 53) rw_62_53 (A := 1) rfl (by decide) (to_an (pc := 56) rw_62_56 rfl (to_in (pc := 57) rw_62_57 rfl (s_v (pc := 58) rw_62_58 (dp0 hd (by decide)) (ls0 := [.ref p, .int (M.2.1 1 8)]) rfl (Nat.le_of_ble_eq_true rfl) (Nat.le_of_ble_eq_true rfl) rfl (to_rc rfl rfl rfl (g_o hG19 (by rcases hp with rfl | rfl <;> rfl))) rfl (to_an (pc := 0) rw_52_0 rfl (s_gR (pc := 1) rw_52_1 hG19 (by rcases hp with rfl | rfl <;> rfl) (v := (p + 1)) (by rcases hp with rfl | rfl <;> rfl) (to_an (pc := 4) rw_52_4 rfl ?_))))))))))
        have c_79 : M25.2.1 p 2 = (M.2.1 p 2) := (F_n F18 (show ¬ (p = 1 ∧ 6 ≤ 2 ∧ 2 ≤ 11 ∨ (p = 67 ∨ p = 72) ∧ 2 = 4) by omega) rfl)
        refine tt_gI (pc := 5) rw_52_5 (g_o hG19 (by rcases hp with rfl | rfl <;> rfl)) (v := (M.2.1 p 2)) c_79 (to_in (pc := 8) rw_52_8 rfl (s_s (pc := 9) rw_52_9 (dp1 hd (by decide)) (ls0 := [.ref (p + 1), .int (M.2.1 p 2), .int (M.2.1 1 8), .null]) rfl (Nat.le_of_ble_eq_true rfl) (Nat.le_of_ble_eq_true rfl) rfl (to_rcs rfl rfl) rfl ?_))
        have j_80 := (PLs_f (fun a i z => F_n F18 (show ¬ (a = 1 ∧ 6 ≤ i ∧ i ≤ 11 ∨ (a = 67 ∨ a = 72) ∧ i = 4) by omega) rfl) q4)
        refine E_54f hX (dp2 hd (by decide)) hG19 (by omega) (by omega) (by omega) (f := (p + 1)) (s := (M.2.1 p 2)) (x := (M.2.1 1 8)) (fun r81 M87 hG83 F82 p_84 p_85 p_86 => ?_)
        have F88 := FR.c F26 F82 tg_115
        have z_89 := PLs_n (v := (M.2.1 1 8).toInt) j_80 (n := (M.2.1 p 2).toInt) (by omega)
        have z_90 := x_fn_v (s := sg) (r := 1) (v := (M.2.1 1 8).toInt) (w := x_val t nn a)
        have z_91 := x_fn_b (s := sg) (v := x_val t nn a) j_80.1
        refine to_r0 (pc := 12) rw_52_12 (to_go (pc := 61) rw_62_61 (to_is (pc := 69) rw_62_69 (ls2 := [.ref q, .ref 1, .ref p, .int (M.2.1 1 8), .int (M.2.1 1 9), .int (1 : Int32), .int r81]) rfl rfl (to_i (pc := 71) rw_62_71 rfl (to_c (pc := 73) rw_62_73 (x := (-1 : Int32)) rfl rfl (b_ceq (pc := 74) rw_62_74 (A := r81.toInt) (B := -1) rfl rfl (fun h92 => ?_) (fun h92 => ?_))))))
        · refine to_an (pc := 91) rw_62_91 rfl (to_c (pc := 92) rw_62_92 (x := (4 : Int32)) rfl rfl (to_i (pc := 93) rw_62_93 rfl (s_v (pc := 95) rw_62_95 (dp0 hd (by decide)) (ls0 := [.ref 1, .int (4 : Int32), .int (M.2.1 1 9)]) rfl (Nat.le_of_ble_eq_true rfl) (Nat.le_of_ble_eq_true rfl) rfl (to_rc rfl rfl rfl (g_o hG83 rfl)) rfl (to_an (pc := 0) rw_85_0 rfl (to_in (pc := 1) rw_85_1 rfl (s_pI (pc := 2) rw_85_2 hG83 rfl (fun M94 W93 => ?_)))))))
          have hG95 := g_wf hG83 W93 rfl rfl (by decide)
          have F96 := FR.w F88 W93 (show 1 = 1 ∧ 5 ≤ 10 ∨ 3 ≤ 1 ∧ 1 ≤ 5 ∨ 67 ≤ 1 ∧ 1 ≤ 76 by decide)
          refine to_an (pc := 5) rw_85_5 rfl (to_in (pc := 6) rw_85_6 rfl (s_pI (pc := 7) rw_85_7 hG95 rfl (fun M98 W97 => ?_)))
          have hG99 := g_wf hG95 W97 rfl rfl (by decide)
          have F100 := FR.w F96 W97 (show 1 = 1 ∧ 5 ≤ 11 ∨ 3 ≤ 1 ∧ 1 ≤ 5 ∨ 67 ≤ 1 ∧ 1 ≤ 76 by decide)
          refine to_c (pc := 10) rw_85_10 (x := (0 : Int32)) rfl rfl (s_r1 (pc := 11) rw_85_11 (A := 0) rfl (by decide) (s_r1 (pc := 98) rw_62_98 (A := 0) rfl (by decide) ?_))
          have k_101 : (0 : Int32).toInt = 0 := rfl
          have j_102 := (QI_f (fun a i z => W_n W97 (tg_119 a i z) rfl) (QI_f (fun a i z => W_n W93 (tg_120 a i z) rfl) (QI_f (tg_100 F82) (QI_f (tg_109 F18) q1))))
          have j_103 := (CS_f (fun a i z => W_n W97 (tg_32 a i z) rfl) (CS_f (fun a i z => W_n W93 (tg_33 a i z) rfl) (CS_f (tg_28 F82) p_22)))
          have c_104 : M98.2.1 q 4 = (M25.2.1 q 4) := (W_n W97 (by omega) (W_n W93 (by omega) (F_n F82 (show ¬ (q < 0) by omega) rfl)))
          have t_105 : (M98.2.1 q 4).toInt = (M25.2.1 q 4).toInt := congrArg Int32.toInt c_104
          have c_106 : M98.2.1 1 10 = (4 : Int32) := (W_n W97 (by decide) (W_e W93))
          have k_107 : (4 : Int32).toInt = 4 := rfl
          have t_108 : (M98.2.1 1 10).toInt = (4 : Int32).toInt := congrArg Int32.toInt c_106
          have c_109 : M98.2.1 1 11 = (M.2.1 1 9) := (W_e W97)
          have t_110 : (M98.2.1 1 11).toInt = (M.2.1 1 9).toInt := congrArg Int32.toInt c_109
          exact h (0 : Int32) M98 hG99 F100 (by decide) (by decide) j_102 j_103 (by omega) (fun z => absurd z (by decide)) (fun _ => by first | exact inl_e (by omega) (by omega) (q_0x (by omega) (by omega) q5 q6 (by omega)) | exact inl_e (by omega) (by omega) (q_nmx (by omega) (by omega) (by omega) (by omega)) | exact inl_e (by omega) (by omega) ((q_nm (by omega) (by omega) (by omega) (by omega)).trans (qn_wx (by omega) (by omega))) | exact inl_e (by omega) (by omega) ((q_nm (by omega) (by omega) (by omega) (by omega)).trans (qn_vx (by omega) (by omega))) | exact inl_e (by omega) (by omega) ((q_nm (by omega) (by omega) (by omega) (by omega)).trans (qn_v2 (by omega) (by omega) (by omega) (by omega))) | exact inl_e (by omega) (by omega) ((q_nm (by omega) (by omega) (by omega) (by omega)).trans (qn_v1 (by omega) (by omega) (by omega))) | exact (if g9 : x_kind t nn (x_ns t nn (x_ns t nn a)) = 3 then inl_e (by omega) (by omega) ((q_nm (by omega) (by omega) (by omega) (by omega)).trans (qn_v2 (by omega) (by omega) g9 (by omega))) else inl_e (by omega) (by omega) ((q_nm (by omega) (by omega) (by omega) (by omega)).trans (qn_v1 (by omega) (by omega) g9))))
        · refine to_i (pc := 77) rw_62_77 rfl (b_ieq_f (pc := 79) rw_62_79 (A := 1) rfl (by decide) (to_an (pc := 82) rw_62_82 rfl (to_i (pc := 83) rw_62_83 rfl (s_v (pc := 85) rw_62_85 (dp0 hd (by decide)) (ls0 := [.ref p, .int r81]) rfl (Nat.le_of_ble_eq_true rfl) (Nat.le_of_ble_eq_true rfl) rfl (to_rc rfl rfl rfl (g_o hG83 (by rcases hp with rfl | rfl <;> rfl))) rfl (to_an (pc := 0) rw_45_0 rfl (s_gR (pc := 1) rw_45_1 hG83 (by rcases hp with rfl | rfl <;> rfl) (v := (p + 2)) (by rcases hp with rfl | rfl <;> rfl) (to_in (pc := 4) rw_45_4 rfl (s_ial (pc := 5) rw_45_5 hG83 (by rcases hp with rfl | rfl <;> rfl) (n := 8) (by rcases hp with rfl | rfl <;> rfl) (by rcases hp with rfl | rfl <;> rfl) (A := r81.toInt) rfl (by omega) (by omega) (lo := 0) (hi := 3) (by rcases hp with rfl | rfl <;> rfl) (by rcases hp with rfl | rfl <;> rfl) (fun v111 w_112 _ _ => ?_)))))))))
          have j_113 := (PLs_f (fun a i z => F_n F82 (show ¬ (a < 0) by omega) rfl) j_80)
          have z_114 := PLs_r j_113 2 (by decide) (by decide) (k := r81.toInt) (by omega) (by omega) w_112
          have z_115 := x_row_v (s := sg) (r := 2) (x := r81.toInt) (y := x_fn sg 1 (x_val t nn a)) (by omega)
          refine to_c (pc := 6) rw_45_6 (x := (3 : Int32)) rfl rfl (b_cne (pc := 7) rw_45_7 (A := v111.toInt) (B := 3) rfl rfl (fun h116 => ?_) (fun h116 => ?_))
          · refine to_c (pc := 14) rw_45_14 (x := (0 : Int32)) rfl rfl (s_r1 (pc := 15) rw_45_15 (A := 0) rfl (by decide) (b_ieq_t (pc := 88) rw_62_88 (A := 0) rfl (by decide) (to_i (pc := 99) rw_62_99 rfl (b_ine_t (pc := 101) rw_62_101 (A := 1) rfl (by decide) (to_an (pc := 114) rw_62_114 rfl (s_v (pc := 115) rw_62_115 (dp0 hd (by decide)) (ls0 := [.ref 1]) rfl (Nat.le_of_ble_eq_true rfl) (Nat.le_of_ble_eq_true rfl) rfl (to_rc rfl rfl rfl (g_o hG83 rfl)) rfl ?_))))))
            have j_117 := (CS_f (tg_28 F82) p_22)
            have c_118 : M87.2.1 1 9 = (M25.2.1 1 9) := (F_n F82 (show ¬ (1 < 0) by decide) rfl)
            have t_119 : (M87.2.1 1 9).toInt = (M25.2.1 1 9).toInt := congrArg Int32.toInt c_118
            refine E_83 hX (dp1 hd (by decide)) hG83 j_117 (by omega) (t := t) (nn := nn) (a := (x_ns t nn a)) (fun M124 hG121 F120 p_122 p_123 => ?_)
            have F125 := FR.c F88 F120 tg_117
            refine to_an (pc := 118) rw_62_118 rfl (to_c (pc := 119) rw_62_119 (x := (0 : Int32)) rfl rfl (to_an (pc := 120) rw_62_120 rfl (s_gR (pc := 121) rw_62_121 hG121 (by rcases hp with rfl | rfl <;> rfl) (v := (p + 5)) (by rcases hp with rfl | rfl <;> rfl) (to_i (pc := 124) rw_62_124 rfl (s_ial (pc := 126) rw_62_126 hG121 (by rcases hp with rfl | rfl <;> rfl) (n := 8) (by rcases hp with rfl | rfl <;> rfl) (by rcases hp with rfl | rfl <;> rfl) (A := r81.toInt) rfl (by omega) (by omega) (lo := 0) (hi := 24) (by rcases hp with rfl | rfl <;> rfl) (by rcases hp with rfl | rfl <;> rfl) (fun v126 w_127 _ _ => ?_))))))
            have j_128 := (PLs_f (fun a i z => F_n F120 (show ¬ (a = 1 ∧ 6 ≤ i ∧ i ≤ 9) by omega) rfl) j_113)
            have z_129 := PLs_r j_128 5 (by decide) (by decide) (k := r81.toInt) (by omega) (by omega) w_127
            have z_130 := x_row_v (s := sg) (r := 5) (x := r81.toInt) (y := x_fn sg 1 (x_val t nn a)) (by omega)
            have z_131 := j_128.1.2.2.2.2.2.2.2 (x_fn sg 1 (x_val t nn a)) (by omega) (by omega)
            refine to_c (pc := 127) rw_62_127 (x := (1 : Int32)) rfl rfl (s_sub (pc := 128) rw_62_128 (A := v126.toInt) (B := 1) rfl rfl (by omega) (fun v132 e133 => s_v (pc := 129) rw_62_129 (dp0 hd (by decide)) (ls0 := [.ref 1, .int (0 : Int32), .int v132]) rfl (Nat.le_of_ble_eq_true rfl) (Nat.le_of_ble_eq_true rfl) rfl (to_rc rfl rfl rfl (g_o hG121 rfl)) rfl ?_))
            have k_134 : (0 : Int32).toInt = 0 := rfl
            have c_135 : M124.2.1 1 10 = (M25.2.1 1 10) := (F_n F120 (show ¬ (1 = 1 ∧ 6 ≤ 10 ∧ 10 ≤ 9) by decide) (F_n F82 (show ¬ (1 < 0) by decide) rfl))
            have t_136 : (M124.2.1 1 10).toInt = (M25.2.1 1 10).toInt := congrArg Int32.toInt c_135
            have c_137 : M124.2.1 1 11 = (M25.2.1 1 11) := (F_n F120 (show ¬ (1 = 1 ∧ 6 ≤ 11 ∧ 11 ≤ 9) by decide) (F_n F82 (show ¬ (1 < 0) by decide) rfl))
            have t_138 : (M124.2.1 1 11).toInt = (M25.2.1 1 11).toInt := congrArg Int32.toInt c_137
            refine E_88f hX (dp1 hd (by decide)) hG121 p_122 (by omega) (l := (0 : Int32)) (m := v132) (t := t) (nn := nn) (a := (x_ns t nn (x_ns t nn a))) (fun r139 M150 hG141 F140 p_142 p_143 p_144 p_145 p_146 p_147 p_148 p_149 => ?_)
            have F151 := FR.c F125 F140 tg_118
            rcases (show r139.toInt = 0 ∨ r139.toInt = 1 by omega) with h152 | h152
            · skip
              have p_153 := p_145 (by omega)
              have p_154 := p_146 (by omega)
              clear p_144 p_145 p_146 p_149
              have z_155 := x_val_b (t := t) (nn := nn) (a := (x_ns t nn (x_ns t nn a)))
              refine b_ine_f (pc := 132) rw_62_132 (A := r139.toInt) rfl (by omega) (to_c (pc := 135) rw_62_135 (x := (0 : Int32)) rfl rfl (s_r1 (pc := 136) rw_62_136 (A := 0) rfl (by decide) ?_))
              have j_156 := (QI_f (tg_111 F140) (QI_f (tg_112 F120) (QI_f (tg_100 F82) (QI_f (tg_109 F18) q1))))
              have j_157 := (CS_f (tg_34 F140) p_122)
              have c_158 : M150.2.1 q 4 = (M25.2.1 q 4) := (F_n F140 (show ¬ (q = 1 ∧ (4 = 10 ∨ 4 = 11)) by omega) (F_n F120 (show ¬ (q = 1 ∧ 6 ≤ 4 ∧ 4 ≤ 9) by omega) (F_n F82 (show ¬ (q < 0) by omega) rfl)))
              have t_159 : (M150.2.1 q 4).toInt = (M25.2.1 q 4).toInt := congrArg Int32.toInt c_158
              exact h (0 : Int32) M150 hG141 F151 (by decide) (by decide) j_156 j_157 (by omega) (fun z => absurd z (by decide)) (fun _ => by first | exact inl_e (by omega) (by omega) (q_0x (by omega) (by omega) q5 q6 (by omega)) | exact inl_e (by omega) (by omega) (q_nmx (by omega) (by omega) (by omega) (by omega)) | exact inl_e (by omega) (by omega) ((q_nm (by omega) (by omega) (by omega) (by omega)).trans (qn_wx (by omega) (by omega))) | exact inl_e (by omega) (by omega) ((q_nm (by omega) (by omega) (by omega) (by omega)).trans (qn_vx (by omega) (by omega))) | exact inl_e (by omega) (by omega) ((q_nm (by omega) (by omega) (by omega) (by omega)).trans (qn_v2 (by omega) (by omega) (by omega) (by omega))) | exact inl_e (by omega) (by omega) ((q_nm (by omega) (by omega) (by omega) (by omega)).trans (qn_v1 (by omega) (by omega) (by omega))) | exact (if g9 : x_kind t nn (x_ns t nn (x_ns t nn a)) = 3 then inl_e (by omega) (by omega) ((q_nm (by omega) (by omega) (by omega) (by omega)).trans (qn_v2 (by omega) (by omega) g9 (by omega))) else inl_e (by omega) (by omega) ((q_nm (by omega) (by omega) (by omega) (by omega)).trans (qn_v1 (by omega) (by omega) g9))))
            · skip
              have p_160 := p_144 (by omega)
              have p_161 := p_149 (by omega)
              clear p_144 p_145 p_146 p_149
              have c_162 : M150.2.1 1 8 = (M124.2.1 1 8) := (F_n F140 (show ¬ (1 = 1 ∧ (8 = 10 ∨ 8 = 11)) by decide) rfl)
              have z_163 := x_val_b (t := t) (nn := nn) (a := (x_ns t nn (x_ns t nn a))) (by omega)
              refine b_ine_t (pc := 132) rw_62_132 (A := r139.toInt) rfl (by omega) (to_an (pc := 137) rw_62_137 rfl (to_c (pc := 138) rw_62_138 (x := (0 : Int32)) rfl rfl (to_i (pc := 139) rw_62_139 rfl (to_an (pc := 141) rw_62_141 rfl (tt_gI (pc := 142) rw_62_142 (g_o hG141 rfl) (v := (M124.2.1 1 8)) c_162 (s_v (pc := 145) rw_62_145 (dp0 hd (by decide)) (ls0 := [.ref q, .int (0 : Int32), .int r81, .int (M124.2.1 1 8)]) rfl (Nat.le_of_ble_eq_true rfl) (Nat.le_of_ble_eq_true rfl) rfl (to_rc rfl rfl rfl (g_o hG141 (by rcases hq with rfl | rfl <;> rfl))) rfl ?_))))))
              have j_164 := (QI_f (tg_111 F140) (QI_f (tg_112 F120) (QI_f (tg_100 F82) (QI_f (tg_109 F18) q1))))
              refine E_64 hX (dp1 hd (by decide)) hG141 hq (by omega) (by omega) (by omega) (by omega) (by omega) j_164 (q := q) (k := (0 : Int32)) (f := r81) (s := (M124.2.1 1 8)) (fun M168 hG166 F165 p_167 => ?_)
              have F169 := FR.c F151 F165 tg_116
              refine to_an (pc := 148) rw_62_148 rfl (s_v (pc := 149) rw_62_149 (dp0 hd (by decide)) (ls0 := [.ref 1]) rfl (Nat.le_of_ble_eq_true rfl) (Nat.le_of_ble_eq_true rfl) rfl (to_rc rfl rfl rfl (g_o hG166 rfl)) rfl ?_)
              have j_170 := (CS_f (tg_110 F165) (CS_f (tg_34 F140) p_122))
              have c_171 : M168.2.1 1 9 = (M124.2.1 1 9) := (F_n F165 (show ¬ ((1 = 67 ∨ 1 = 72) ∧ 9 = 5 ∨ 68 ≤ 1 ∧ 1 ≤ 70 ∨ 73 ≤ 1 ∧ 1 ≤ 75) by decide) (F_n F140 (show ¬ (1 = 1 ∧ (9 = 10 ∨ 9 = 11)) by decide) rfl))
              have t_172 : (M168.2.1 1 9).toInt = (M124.2.1 1 9).toInt := congrArg Int32.toInt c_171
              refine E_83 hX (dp1 hd (by decide)) hG166 j_170 (by omega) (t := t) (nn := nn) (a := (x_ns t nn (x_ns t nn a))) (fun M177 hG174 F173 p_175 p_176 => ?_)
              have F178 := FR.c F169 F173 tg_117
              refine to_c (pc := 152) rw_62_152 (x := (1 : Int32)) rfl rfl (s_r1 (pc := 153) rw_62_153 (A := 1) rfl (by decide) ?_)
              have k_179 : (1 : Int32).toInt = 1 := rfl
              have j_180 := (QI_f (tg_112 F173) p_167)
              have c_181 : M177.2.1 q 4 = (M25.2.1 q 4) := (F_n F173 (show ¬ (q = 1 ∧ 6 ≤ 4 ∧ 4 ≤ 9) by omega) (F_n F165 (show ¬ ((q = 67 ∨ q = 72) ∧ 4 = 5 ∨ 68 ≤ q ∧ q ≤ 70 ∨ 73 ≤ q ∧ q ≤ 75) by omega) (F_n F140 (show ¬ (q = 1 ∧ (4 = 10 ∨ 4 = 11)) by omega) (F_n F120 (show ¬ (q = 1 ∧ 6 ≤ 4 ∧ 4 ≤ 9) by omega) (F_n F82 (show ¬ (q < 0) by omega) rfl)))))
              have t_182 : (M177.2.1 q 4).toInt = (M25.2.1 q 4).toInt := congrArg Int32.toInt c_181
              exact h (1 : Int32) M177 hG174 F178 (by decide) (by decide) j_180 p_175 (by omega) (fun _ => by rw [show (M177.2.1 q 4).toInt = (M.2.1 q 4).toInt + 1 by omega, show (M177.2.1 1 9).toInt = (x_ns t nn (x_ns t nn (x_ns t nn a))) by omega]; exact (q_nm (by omega) (by omega) (by omega) (by omega)).trans (qn_v (by omega) (by omega) (by omega) (by omega))) (fun z => absurd z (by decide))
          · refine to_c (pc := 10) rw_45_10 (x := (1 : Int32)) rfl rfl (to_go (pc := 11) rw_45_11 (s_r1 (pc := 15) rw_45_15 (A := 1) rfl (by decide) (b_ieq_f (pc := 88) rw_62_88 (A := 1) rfl (by decide) (to_an (pc := 91) rw_62_91 rfl (to_c (pc := 92) rw_62_92 (x := (4 : Int32)) rfl rfl (to_i (pc := 93) rw_62_93 rfl (s_v (pc := 95) rw_62_95 (dp0 hd (by decide)) (ls0 := [.ref 1, .int (4 : Int32), .int (M.2.1 1 9)]) rfl (Nat.le_of_ble_eq_true rfl) (Nat.le_of_ble_eq_true rfl) rfl (to_rc rfl rfl rfl (g_o hG83 rfl)) rfl (to_an (pc := 0) rw_85_0 rfl (to_in (pc := 1) rw_85_1 rfl (s_pI (pc := 2) rw_85_2 hG83 rfl (fun M184 W183 => ?_)))))))))))
            have hG185 := g_wf hG83 W183 rfl rfl (by decide)
            have F186 := FR.w F88 W183 (show 1 = 1 ∧ 5 ≤ 10 ∨ 3 ≤ 1 ∧ 1 ≤ 5 ∨ 67 ≤ 1 ∧ 1 ≤ 76 by decide)
            refine to_an (pc := 5) rw_85_5 rfl (to_in (pc := 6) rw_85_6 rfl (s_pI (pc := 7) rw_85_7 hG185 rfl (fun M188 W187 => ?_)))
            have hG189 := g_wf hG185 W187 rfl rfl (by decide)
            have F190 := FR.w F186 W187 (show 1 = 1 ∧ 5 ≤ 11 ∨ 3 ≤ 1 ∧ 1 ≤ 5 ∨ 67 ≤ 1 ∧ 1 ≤ 76 by decide)
            refine to_c (pc := 10) rw_85_10 (x := (0 : Int32)) rfl rfl (s_r1 (pc := 11) rw_85_11 (A := 0) rfl (by decide) (s_r1 (pc := 98) rw_62_98 (A := 0) rfl (by decide) ?_))
            have k_191 : (0 : Int32).toInt = 0 := rfl
            have j_192 := (QI_f (fun a i z => W_n W187 (tg_119 a i z) rfl) (QI_f (fun a i z => W_n W183 (tg_120 a i z) rfl) (QI_f (tg_100 F82) (QI_f (tg_109 F18) q1))))
            have j_193 := (CS_f (fun a i z => W_n W187 (tg_32 a i z) rfl) (CS_f (fun a i z => W_n W183 (tg_33 a i z) rfl) (CS_f (tg_28 F82) p_22)))
            have c_194 : M188.2.1 q 4 = (M25.2.1 q 4) := (W_n W187 (by omega) (W_n W183 (by omega) (F_n F82 (show ¬ (q < 0) by omega) rfl)))
            have t_195 : (M188.2.1 q 4).toInt = (M25.2.1 q 4).toInt := congrArg Int32.toInt c_194
            have c_196 : M188.2.1 1 10 = (4 : Int32) := (W_n W187 (by decide) (W_e W183))
            have k_197 : (4 : Int32).toInt = 4 := rfl
            have t_198 : (M188.2.1 1 10).toInt = (4 : Int32).toInt := congrArg Int32.toInt c_196
            have c_199 : M188.2.1 1 11 = (M.2.1 1 9) := (W_e W187)
            have t_200 : (M188.2.1 1 11).toInt = (M.2.1 1 9).toInt := congrArg Int32.toInt c_199
            exact h (0 : Int32) M188 hG189 F190 (by decide) (by decide) j_192 j_193 (by omega) (fun z => absurd z (by decide)) (fun _ => by first | exact inl_e (by omega) (by omega) (q_0x (by omega) (by omega) q5 q6 (by omega)) | exact inl_e (by omega) (by omega) (q_nmx (by omega) (by omega) (by omega) (by omega)) | exact inl_e (by omega) (by omega) ((q_nm (by omega) (by omega) (by omega) (by omega)).trans (qn_wx (by omega) (by omega))) | exact inl_e (by omega) (by omega) ((q_nm (by omega) (by omega) (by omega) (by omega)).trans (qn_vx (by omega) (by omega))) | exact inl_e (by omega) (by omega) ((q_nm (by omega) (by omega) (by omega) (by omega)).trans (qn_v2 (by omega) (by omega) (by omega) (by omega))) | exact inl_e (by omega) (by omega) ((q_nm (by omega) (by omega) (by omega) (by omega)).trans (qn_v1 (by omega) (by omega) (by omega))) | exact (if g9 : x_kind t nn (x_ns t nn (x_ns t nn a)) = 3 then inl_e (by omega) (by omega) ((q_nm (by omega) (by omega) (by omega) (by omega)).trans (qn_v2 (by omega) (by omega) g9 (by omega))) else inl_e (by omega) (by omega) ((q_nm (by omega) (by omega) (by omega) (by omega)).trans (qn_v1 (by omega) (by omega) g9))))
  · refine to_an (pc := 8) rw_62_8 rfl (to_c (pc := 9) rw_62_9 (x := (1 : Int32)) rfl rfl (s_v (pc := 10) rw_62_10 (dp0 hd (by decide)) (ls0 := [.ref 1, .int (1 : Int32)]) rfl (Nat.le_of_ble_eq_true rfl) (Nat.le_of_ble_eq_true rfl) rfl (to_rc rfl rfl rfl (g_o hG rfl)) rfl (to_an (pc := 0) rw_84_0 rfl (to_in (pc := 1) rw_84_1 rfl (s_pI (pc := 2) rw_84_2 hG rfl (fun M202 W201 => ?_))))))
    have hG203 := g_wf hG W201 rfl rfl (by decide)
    have F204 := FR.w F0 W201 (show 1 = 1 ∧ 5 ≤ 10 ∨ 3 ≤ 1 ∧ 1 ≤ 5 ∨ 67 ≤ 1 ∧ 1 ≤ 76 by decide)
    refine to_an (pc := 5) rw_84_5 rfl (to_an (pc := 6) rw_84_6 rfl ?_)
    have c_205 : M202.2.1 1 9 = (M.2.1 1 9) := (W_n W201 (by decide) rfl)
    refine tt_gI (pc := 7) rw_84_7 (g_o hG203 rfl) (v := (M.2.1 1 9)) c_205 (s_pI (pc := 10) rw_84_10 hG203 rfl (fun M207 W206 => ?_))
    have hG208 := g_wf hG203 W206 rfl rfl (by decide)
    have F209 := FR.w F204 W206 (show 1 = 1 ∧ 5 ≤ 11 ∨ 3 ≤ 1 ∧ 1 ≤ 5 ∨ 67 ≤ 1 ∧ 1 ≤ 76 by decide)
    refine to_c (pc := 13) rw_84_13 (x := (0 : Int32)) rfl rfl (s_r1 (pc := 14) rw_84_14 (A := 0) rfl (by decide) (s_r1 (pc := 13) rw_62_13 (A := 0) rfl (by decide) ?_))
    have k_210 : (0 : Int32).toInt = 0 := rfl
    have j_211 := (QI_f (fun a i z => W_n W206 (tg_119 a i z) rfl) (QI_f (fun a i z => W_n W201 (tg_120 a i z) rfl) q1))
    have j_212 := (CS_f (fun a i z => W_n W206 (tg_32 a i z) rfl) (CS_f (fun a i z => W_n W201 (tg_33 a i z) rfl) q2))
    have c_213 : M207.2.1 q 4 = (M.2.1 q 4) := (W_n W206 (by omega) (W_n W201 (by omega) rfl))
    have t_214 : (M207.2.1 q 4).toInt = (M.2.1 q 4).toInt := congrArg Int32.toInt c_213
    have c_215 : M207.2.1 1 10 = (1 : Int32) := (W_n W206 (by decide) (W_e W201))
    have k_216 : (1 : Int32).toInt = 1 := rfl
    have t_217 : (M207.2.1 1 10).toInt = (1 : Int32).toInt := congrArg Int32.toInt c_215
    have c_218 : M207.2.1 1 11 = (M.2.1 1 9) := (W_e W206)
    have t_219 : (M207.2.1 1 11).toInt = (M.2.1 1 9).toInt := congrArg Int32.toInt c_218
    exact h (0 : Int32) M207 hG208 F209 (by decide) (by decide) j_211 j_212 (by omega) (fun z => absurd z (by decide)) (fun _ => by first | exact inl_e (by omega) (by omega) (q_0x (by omega) (by omega) q5 q6 (by omega)) | exact inl_e (by omega) (by omega) (q_nmx (by omega) (by omega) (by omega) (by omega)) | exact inl_e (by omega) (by omega) ((q_nm (by omega) (by omega) (by omega) (by omega)).trans (qn_wx (by omega) (by omega))) | exact inl_e (by omega) (by omega) ((q_nm (by omega) (by omega) (by omega) (by omega)).trans (qn_vx (by omega) (by omega))) | exact inl_e (by omega) (by omega) ((q_nm (by omega) (by omega) (by omega) (by omega)).trans (qn_v2 (by omega) (by omega) (by omega) (by omega))) | exact inl_e (by omega) (by omega) ((q_nm (by omega) (by omega) (by omega) (by omega)).trans (qn_v1 (by omega) (by omega) (by omega))) | exact (if g9 : x_kind t nn (x_ns t nn (x_ns t nn a)) = 3 then inl_e (by omega) (by omega) ((q_nm (by omega) (by omega) (by omega) (by omega)).trans (qn_v2 (by omega) (by omega) g9 (by omega))) else inl_e (by omega) (by omega) ((q_nm (by omega) (by omega) (by omega) (by omega)).trans (qn_v1 (by omega) (by omega) g9))))
