theorem tg_143 {M M1 : mm_M} (F : FR (fun a i : Nat => a = 1 ∧ 5 ≤ i ∨ 3 ≤ a ∧ a ≤ 5 ∨ a = 67 ∨ a = 72) M M1) : ∀ a i : Nat, (a = 68 ∨ a = 69 ∨ a = 73 ∨ a = 74) → M1.2.1 a i = M.2.1 a i := fun a i z => F_n F (show ¬ (a = 1 ∧ 5 ≤ i ∨ 3 ≤ a ∧ a ≤ 5 ∨ a = 67 ∨ a = 72) by omega) rfl
theorem tg_144 {M M1 : mm_M} (F : FR (fun a i : Nat => a = 1 ∧ 5 ≤ i ∨ 3 ≤ a ∧ a ≤ 5) M M1) : ∀ a i : Nat, (a = 68 ∨ a = 69 ∨ a = 73 ∨ a = 74) → M1.2.1 a i = M.2.1 a i := fun a i z => F_n F (show ¬ (a = 1 ∧ 5 ≤ i ∨ 3 ≤ a ∧ a ≤ 5) by omega) rfl
theorem tg_145 : ∀ a i : Nat, (a = 1 ∧ 5 ≤ i ∨ 3 ≤ a ∧ a ≤ 5) → (a = 1 ∧ 5 ≤ i ∨ 3 ≤ a ∧ a ≤ 5 ∨ a = 67 ∨ a = 72) := fun a i z => by omega
theorem tg_146 : ∀ a i : Nat, (a = 1 ∧ 5 ≤ i ∨ 3 ≤ a ∧ a ≤ 5 ∨ a = 67 ∨ a = 72) → (a = 1 ∧ 5 ≤ i ∨ 3 ≤ a ∧ a ≤ 5 ∨ 67 ≤ a ∧ a ≤ 76) := fun a i z => by omega
theorem tg_147 : ∀ a i : Nat, (a < 0) → (a = 1 ∧ 5 ≤ i ∨ 3 ≤ a ∧ a ≤ 5 ∨ 67 ≤ a ∧ a ≤ 76) := fun a i z => by omega
theorem tg_148 : ∀ a i : Nat, (67 ≤ a ∧ a ≤ 76) → (a = 1 ∧ 5 ≤ i ∨ 3 ≤ a ∧ a ≤ 5 ∨ 67 ≤ a ∧ a ≤ 76) := fun a i z => by omega
theorem tg_149 : ∀ a i : Nat, (a = 1 ∧ 5 ≤ i ∨ 3 ≤ a ∧ a ≤ 5) → (a = 1 ∧ 5 ≤ i ∨ 3 ≤ a ∧ a ≤ 5 ∨ 67 ≤ a ∧ a ≤ 76) := fun a i z => by omega
theorem tg_150 : ∀ a i : Nat, (a = 1 ∧ 5 ≤ i ∨ 3 ≤ a ∧ a ≤ 5 ∨ 67 ≤ a ∧ a ≤ 76) → (a = 1 ∧ 5 ≤ i ∨ 3 ≤ a ∧ a ≤ 5 ∨ 67 ≤ a ∧ a ≤ 76) := fun a i z => by omega
theorem tg_151 : ∀ a i : Nat, (a = 68 ∨ a = 69 ∨ a = 73 ∨ a = 74) → ¬ (a = 1 ∧ i = 11) := fun a i z => by omega
theorem tg_152 : ∀ a i : Nat, (a = 68 ∨ a = 69 ∨ a = 73 ∨ a = 74) → ¬ (a = 1 ∧ i = 10) := fun a i z => by omega
set_option maxRecDepth 4000 in
set_option maxHeartbeats 0 in
theorem C_64 {X : mm_X} {d : Nat} {M : mm_M} {Q : Option Value → mm_M → Prop} {q : Nat} {k : Int32} {f : Int32} {s : Int32} (hX : g_X X) (hd : 0 ≤ d) (hG : g_G M) (hq : q = 67 ∨ q = 72) (q1 : 0 ≤ k.toInt) (q2 : k.toInt ≤ 4) (q3 : 0 ≤ f.toInt) (q4 : f.toInt ≤ 11) (q5 : k.toInt = 0 → f.toInt ≤ 7) (q6 : QI M) (h : ∀ (M1 : mm_M), g_G M1 → FR md_q M M1 → QI M1 → Q (none) M1) : mm_T X d 64 0 [.ref q, .int k, .int f, .int s] [] M Q := by
  have F0 : FR md_q M M := FR.rf
  refine to_an (pc := 0) rw_64_0 rfl ?_
  have b_1 := g_b hG (a := q) (i := 5) (lo := 0) (hi := 40) (by rcases hq with rfl | rfl <;> rfl) (by rcases hq with rfl | rfl <;> rfl)
  refine tt_gI (pc := 1) rw_64_1 (g_o hG (by rcases hq with rfl | rfl <;> rfl)) (v := (M.2.1 q 5)) rfl (to_c (pc := 4) rw_64_4 (x := (40 : Int32)) rfl rfl (b_cge (pc := 6) rw_64_6 (A := (M.2.1 q 5).toInt) (B := 40) rfl rfl (fun h2 => ?_) (fun h2 => ?_)))
  · refine to_rv (pc := 49) rw_64_49 ?_
    exact h M hG F0 q6
  · refine to_an (pc := 9) rw_64_9 rfl (s_gR (pc := 10) rw_64_10 hG (by rcases hq with rfl | rfl <;> rfl) (v := (q + 1)) (by rcases hq with rfl | rfl <;> rfl) (to_an (pc := 13) rw_64_13 rfl (tt_gI (pc := 14) rw_64_14 (g_o hG (by rcases hq with rfl | rfl <;> rfl)) (v := (M.2.1 q 5)) rfl (to_in (pc := 17) rw_64_17 rfl (s_ias (pc := 18) rw_64_18 hG (by rcases hq with rfl | rfl <;> rfl) (n := 40) (by rcases hq with rfl | rfl <;> rfl) (A := (M.2.1 q 5).toInt) rfl (by omega) (by omega) (fun M4 W3 => ?_))))))
    have hG5 := g_w hG W3 (A := k.toInt) rfl (lo := 0) (hi := 4) (by rcases hq with rfl | rfl <;> rfl) (by rcases hq with rfl | rfl <;> rfl) (by omega) (by omega)
    have F6 := FR.w F0 W3 (show 67 ≤ (q + 1) ∧ (q + 1) ≤ 76 by omega)
    refine to_an (pc := 19) rw_64_19 rfl (s_gR (pc := 20) rw_64_20 hG5 (by rcases hq with rfl | rfl <;> rfl) (v := (q + 2)) (by rcases hq with rfl | rfl <;> rfl) (to_an (pc := 23) rw_64_23 rfl ?_))
    have c_7 : M4.2.1 q 5 = (M.2.1 q 5) := (W_n W3 (by omega) rfl)
    refine tt_gI (pc := 24) rw_64_24 (g_o hG5 (by rcases hq with rfl | rfl <;> rfl)) (v := (M.2.1 q 5)) c_7 (to_in (pc := 27) rw_64_27 rfl (s_ias (pc := 28) rw_64_28 hG5 (by rcases hq with rfl | rfl <;> rfl) (n := 40) (by rcases hq with rfl | rfl <;> rfl) (A := (M.2.1 q 5).toInt) rfl (by omega) (by omega) (fun M9 W8 => ?_)))
    have hG10 := g_w hG5 W8 (A := f.toInt) rfl (lo := 0) (hi := 11) (by rcases hq with rfl | rfl <;> rfl) (by rcases hq with rfl | rfl <;> rfl) (by omega) (by omega)
    have F11 := FR.w F6 W8 (show 67 ≤ (q + 2) ∧ (q + 2) ≤ 76 by omega)
    have j_12 := QI_k q6 hq W3 W8 q5
    refine to_an (pc := 29) rw_64_29 rfl (s_gR (pc := 30) rw_64_30 hG10 (by rcases hq with rfl | rfl <;> rfl) (v := (q + 3)) (by rcases hq with rfl | rfl <;> rfl) (to_an (pc := 33) rw_64_33 rfl ?_))
    have c_13 : M9.2.1 q 5 = (M.2.1 q 5) := (W_n W8 (by omega) c_7)
    refine tt_gI (pc := 34) rw_64_34 (g_o hG10 (by rcases hq with rfl | rfl <;> rfl)) (v := (M.2.1 q 5)) c_13 (to_in (pc := 37) rw_64_37 rfl (s_ias (pc := 38) rw_64_38 hG10 (by rcases hq with rfl | rfl <;> rfl) (n := 40) (by rcases hq with rfl | rfl <;> rfl) (A := (M.2.1 q 5).toInt) rfl (by omega) (by omega) (fun M15 W14 => ?_)))
    have hG16 := g_wf hG10 W14 (by rcases hq with rfl | rfl <;> rfl) (by rcases hq with rfl | rfl <;> rfl) (by omega)
    have F17 := FR.w F11 W14 (show 67 ≤ (q + 3) ∧ (q + 3) ≤ 76 by omega)
    refine to_an (pc := 39) rw_64_39 rfl (to_dupr (pc := 40) rw_64_40 ?_)
    have c_18 : M15.2.1 q 5 = (M.2.1 q 5) := (W_n W14 (by omega) c_13)
    refine tt_gI (pc := 41) rw_64_41 (g_o hG16 (by rcases hq with rfl | rfl <;> rfl)) (v := (M.2.1 q 5)) c_18 (to_c (pc := 44) rw_64_44 (x := (1 : Int32)) rfl rfl (s_add (pc := 45) rw_64_45 (A := (M.2.1 q 5).toInt) (B := 1) rfl rfl (by omega) (fun v19 e20 => s_pI (pc := 46) rw_64_46 hG16 (by rcases hq with rfl | rfl <;> rfl) (fun M22 W21 => ?_))))
    have hG23 := g_w hG16 W21 (A := v19.toInt) rfl (lo := 0) (hi := 40) (by rcases hq with rfl | rfl <;> rfl) (by rcases hq with rfl | rfl <;> rfl) (by omega) (by omega)
    have F24 := FR.w F17 W21 (show 67 ≤ q ∧ q ≤ 76 by omega)
    refine to_rv (pc := 49) rw_64_49 ?_
    have j_25 := (QI_f (fun a i z => W_n W21 (by omega) rfl) (QI_f (fun a i z => W_n W14 (by omega) rfl) j_12))
    exact h M22 hG23 F24 j_25
set_option maxRecDepth 4000 in
set_option maxHeartbeats 0 in
theorem C_63 {X : mm_X} {d : Nat} {M : mm_M} {Q : Option Value → mm_M → Prop} {q : Nat} (hX : g_X X) (hd : 1 ≤ d) (hG : g_G M) (hq : q = 67 ∨ q = 72) (h : ∀ (r : Int32) (M1 : mm_M), g_G M1 → FR md_qk M M1 → (0 ≤ r.toInt) → (r.toInt ≤ 1) → Q (some (.int r)) M1) : mm_T X d 63 0 [.ref q, .ref 1] [] M Q := by
  have F0 : FR md_qk M M := FR.rf
  refine to_an (pc := 0) rw_63_0 rfl ?_
  have b_1 := g_b hG (a := q) (i := 4) (lo := 0) (hi := 40) (by rcases hq with rfl | rfl <;> rfl) (by rcases hq with rfl | rfl <;> rfl)
  refine tt_gI (pc := 1) rw_63_1 (g_o hG (by rcases hq with rfl | rfl <;> rfl)) (v := (M.2.1 q 4)) rfl (to_c (pc := 4) rw_63_4 (x := (40 : Int32)) rfl rfl (b_clt (pc := 6) rw_63_6 (A := (M.2.1 q 4).toInt) (B := 40) rfl rfl (fun h2 => ?_) (fun h2 => ?_)))
  · refine to_an (pc := 15) rw_63_15 rfl (to_dupr (pc := 16) rw_63_16 (tt_gI (pc := 17) rw_63_17 (g_o hG (by rcases hq with rfl | rfl <;> rfl)) (v := (M.2.1 q 4)) rfl (to_c (pc := 20) rw_63_20 (x := (1 : Int32)) rfl rfl (s_add (pc := 21) rw_63_21 (A := (M.2.1 q 4).toInt) (B := 1) rfl rfl (by omega) (fun v3 e4 => s_pI (pc := 22) rw_63_22 hG (by rcases hq with rfl | rfl <;> rfl) (fun M6 W5 => ?_))))))
    have hG7 := g_w hG W5 (A := v3.toInt) rfl (lo := 0) (hi := 40) (by rcases hq with rfl | rfl <;> rfl) (by rcases hq with rfl | rfl <;> rfl) (by omega) (by omega)
    have F8 := FR.w F0 W5 (show q = 1 ∧ 5 ≤ 4 ∨ 3 ≤ q ∧ q ≤ 5 ∨ q = 67 ∨ q = 72 by omega)
    refine to_an (pc := 25) rw_63_25 rfl (s_v (pc := 26) rw_63_26 (dp0 hd (by decide)) (ls0 := [.ref 1]) rfl (Nat.le_of_ble_eq_true rfl) (Nat.le_of_ble_eq_true rfl) rfl (to_rc rfl rfl rfl (g_o hG7 rfl)) rfl (C_83 hX (dp1 hd (by decide)) hG7  (fun M11 hG10 F9 => ?_)))
    have F12 := FR.c F8 F9 tg_145
    refine to_c (pc := 29) rw_63_29 (x := (1 : Int32)) rfl rfl (s_r1 (pc := 30) rw_63_30 (A := 1) rfl (by decide) ?_)
    have k_13 : (1 : Int32).toInt = 1 := rfl
    exact h (1 : Int32) M11 hG10 F12 (by decide) (by decide)
  · refine to_an (pc := 9) rw_63_9 rfl (to_c (pc := 10) rw_63_10 (x := (2 : Int32)) rfl rfl (s_v (pc := 11) rw_63_11 (dp0 hd (by decide)) (ls0 := [.ref 1, .int (2 : Int32)]) rfl (Nat.le_of_ble_eq_true rfl) (Nat.le_of_ble_eq_true rfl) rfl (to_rc rfl rfl rfl (g_o hG rfl)) rfl (to_an (pc := 0) rw_84_0 rfl (to_in (pc := 1) rw_84_1 rfl (s_pI (pc := 2) rw_84_2 hG rfl (fun M15 W14 => ?_))))))
    have hG16 := g_wf hG W14 rfl rfl (by decide)
    have F17 := FR.w F0 W14 (show 1 = 1 ∧ 5 ≤ 10 ∨ 3 ≤ 1 ∧ 1 ≤ 5 ∨ 1 = 67 ∨ 1 = 72 by decide)
    refine to_an (pc := 5) rw_84_5 rfl (to_an (pc := 6) rw_84_6 rfl ?_)
    have c_18 : M15.2.1 1 9 = (M.2.1 1 9) := (W_n W14 (by decide) rfl)
    refine tt_gI (pc := 7) rw_84_7 (g_o hG16 rfl) (v := (M.2.1 1 9)) c_18 (s_pI (pc := 10) rw_84_10 hG16 rfl (fun M20 W19 => ?_))
    have hG21 := g_wf hG16 W19 rfl rfl (by decide)
    have F22 := FR.w F17 W19 (show 1 = 1 ∧ 5 ≤ 11 ∨ 3 ≤ 1 ∧ 1 ≤ 5 ∨ 1 = 67 ∨ 1 = 72 by decide)
    refine to_c (pc := 13) rw_84_13 (x := (0 : Int32)) rfl rfl (s_r1 (pc := 14) rw_84_14 (A := 0) rfl (by decide) (s_r1 (pc := 14) rw_63_14 (A := 0) rfl (by decide) ?_))
    have k_23 : (0 : Int32).toInt = 0 := rfl
    exact h (0 : Int32) M20 hG21 F22 (by decide) (by decide)
set_option maxRecDepth 4000 in
set_option maxHeartbeats 0 in
theorem C_62 {X : mm_X} {d : Nat} {M : mm_M} {Q : Option Value → mm_M → Prop} {q : Nat} {p : Nat} (hX : g_X X) (hd : 2 ≤ d) (hG : g_G M) (hq : q = 67 ∨ q = 72) (hp : p = 49 ∨ p = 58) (q1 : QI M) (h : ∀ (r : Int32) (M1 : mm_M), g_G M1 → FR md_qt M M1 → (0 ≤ r.toInt) → (r.toInt ≤ 1) → QI M1 → Q (some (.int r)) M1) : mm_T X d 62 0 [.ref q, .ref 1, .ref p, .null, .null, .null, .null] [] M Q := by
  have F0 : FR md_qt M M := FR.rf
  refine to_an (pc := 0) rw_62_0 rfl (tt_gI (pc := 1) rw_62_1 (g_o hG rfl) (v := (M.2.1 1 7)) rfl (to_c (pc := 4) rw_62_4 (x := (3 : Int32)) rfl rfl (b_ceq (pc := 5) rw_62_5 (A := (M.2.1 1 7).toInt) (B := 3) rfl rfl (fun h1 => ?_) (fun h1 => ?_))))
  · refine to_an (pc := 14) rw_62_14 rfl (tt_gI (pc := 15) rw_62_15 (g_o hG rfl) (v := (M.2.1 1 8)) rfl (to_isn (pc := 18) rw_62_18 (ls2 := [.ref q, .ref 1, .ref p, .int (M.2.1 1 8), .null, .null, .null]) rfl rfl (to_an (pc := 19) rw_62_19 rfl (tt_gI (pc := 20) rw_62_20 (g_o hG rfl) (v := (M.2.1 1 9)) rfl (to_is (pc := 23) rw_62_23 (ls2 := [.ref q, .ref 1, .ref p, .int (M.2.1 1 8), .int (M.2.1 1 9), .null, .null]) rfl rfl (to_an (pc := 25) rw_62_25 rfl (to_an (pc := 26) rw_62_26 rfl (s_v (pc := 27) rw_62_27 (dp0 hd (by decide)) (ls0 := [.ref q, .ref 1]) rfl (Nat.le_of_ble_eq_true rfl) (Nat.le_of_ble_eq_true rfl) rfl (to_rc rfl rfl rfl (g_o hG (by rcases hq with rfl | rfl <;> rfl))) rfl (C_63 hX (dp1 hd (by decide)) hG hq (q := q) (fun r2 M7 hG4 F3 p_5 p_6 => ?_))))))))))
    have F8 := FR.c F0 F3 tg_146
    refine b_ine (pc := 30) rw_62_30 (A := r2.toInt) rfl (fun h9 => ?_) (fun h9 => ?_)
    · refine to_an (pc := 35) rw_62_35 rfl (tt_gI (pc := 36) rw_62_36 (g_o hG4 rfl) (v := (M7.2.1 1 7)) rfl (to_c (pc := 39) rw_62_39 (x := (61 : Int32)) rfl rfl (b_cne (pc := 41) rw_62_41 (A := (M7.2.1 1 7).toInt) (B := 61) rfl rfl (fun h10 => ?_) (fun h10 => ?_))))
      · refine to_c (pc := 48) rw_62_48 (x := (0 : Int32)) rfl rfl (to_is (pc := 49) rw_62_49 (ls2 := [.ref q, .ref 1, .ref p, .int (M.2.1 1 8), .int (M.2.1 1 9), .int (0 : Int32), .null]) rfl rfl (to_i (pc := 51) rw_62_51 rfl (b_ieq_t (pc := 53) rw_62_53 (A := 0) rfl (by decide) (to_an (pc := 64) rw_62_64 rfl (to_in (pc := 65) rw_62_65 rfl (s_v (pc := 66) rw_62_66 (dp0 hd (by decide)) (ls0 := [.ref p, .int (M.2.1 1 8)]) rfl (Nat.le_of_ble_eq_true rfl) (Nat.le_of_ble_eq_true rfl) rfl (to_rc rfl rfl rfl (g_o hG4 (by rcases hp with rfl | rfl <;> rfl))) rfl (to_an (pc := 0) rw_53_0 rfl (s_gR (pc := 1) rw_53_1 hG4 (by rcases hp with rfl | rfl <;> rfl) (v := (p + 6)) (by rcases hp with rfl | rfl <;> rfl) (to_an (pc := 4) rw_53_4 rfl ?_)))))))))
        have c_11 : M7.2.1 p 3 = (M.2.1 p 3) := (F_n F3 (show ¬ (p = 1 ∧ 5 ≤ 3 ∨ 3 ≤ p ∧ p ≤ 5 ∨ p = 67 ∨ p = 72) by omega) rfl)
        have b_12 := g_b hG (a := p) (i := 3) (lo := 0) (hi := 12) (by rcases hp with rfl | rfl <;> rfl) (by rcases hp with rfl | rfl <;> rfl)
        refine tt_gI (pc := 5) rw_53_5 (g_o hG4 (by rcases hp with rfl | rfl <;> rfl)) (v := (M.2.1 p 3)) c_11 (to_in (pc := 8) rw_53_8 rfl (s_s (pc := 9) rw_53_9 (dp1 hd (by decide)) (ls0 := [.ref (p + 6), .int (M.2.1 p 3), .int (M.2.1 1 8), .null]) rfl (Nat.le_of_ble_eq_true rfl) (Nat.le_of_ble_eq_true rfl) rfl (to_rcs rfl rfl) rfl (C_54g hX (dp2 hd (by decide)) hG4 (by omega) (g := (p + 6)) (s := (M.2.1 p 3)) (x := (M.2.1 1 8)) (fun r13 M18 hG15 F14 p_16 p_17 => ?_))))
        have F19 := FR.c F8 F14 tg_147
        refine to_r0 (pc := 12) rw_53_12 (to_is (pc := 69) rw_62_69 (ls2 := [.ref q, .ref 1, .ref p, .int (M.2.1 1 8), .int (M.2.1 1 9), .int (0 : Int32), .int r13]) rfl rfl (to_i (pc := 71) rw_62_71 rfl (to_c (pc := 73) rw_62_73 (x := (-1 : Int32)) rfl rfl (b_ceq (pc := 74) rw_62_74 (A := r13.toInt) (B := -1) rfl rfl (fun h20 => ?_) (fun h20 => ?_)))))
        · refine to_an (pc := 91) rw_62_91 rfl (to_c (pc := 92) rw_62_92 (x := (4 : Int32)) rfl rfl (to_i (pc := 93) rw_62_93 rfl (s_v (pc := 95) rw_62_95 (dp0 hd (by decide)) (ls0 := [.ref 1, .int (4 : Int32), .int (M.2.1 1 9)]) rfl (Nat.le_of_ble_eq_true rfl) (Nat.le_of_ble_eq_true rfl) rfl (to_rc rfl rfl rfl (g_o hG15 rfl)) rfl (to_an (pc := 0) rw_85_0 rfl (to_in (pc := 1) rw_85_1 rfl (s_pI (pc := 2) rw_85_2 hG15 rfl (fun M22 W21 => ?_)))))))
          have hG23 := g_wf hG15 W21 rfl rfl (by decide)
          have F24 := FR.w F19 W21 (show 1 = 1 ∧ 5 ≤ 10 ∨ 3 ≤ 1 ∧ 1 ≤ 5 ∨ 67 ≤ 1 ∧ 1 ≤ 76 by decide)
          refine to_an (pc := 5) rw_85_5 rfl (to_in (pc := 6) rw_85_6 rfl (s_pI (pc := 7) rw_85_7 hG23 rfl (fun M26 W25 => ?_)))
          have hG27 := g_wf hG23 W25 rfl rfl (by decide)
          have F28 := FR.w F24 W25 (show 1 = 1 ∧ 5 ≤ 11 ∨ 3 ≤ 1 ∧ 1 ≤ 5 ∨ 67 ≤ 1 ∧ 1 ≤ 76 by decide)
          refine to_c (pc := 10) rw_85_10 (x := (0 : Int32)) rfl rfl (s_r1 (pc := 11) rw_85_11 (A := 0) rfl (by decide) (s_r1 (pc := 98) rw_62_98 (A := 0) rfl (by decide) ?_))
          have k_29 : (0 : Int32).toInt = 0 := rfl
          have j_30 := (QI_f (fun a i z => W_n W25 (tg_151 a i z) rfl) (QI_f (fun a i z => W_n W21 (tg_152 a i z) rfl) (QI_f (tg_100 F14) (QI_f (tg_143 F3) q1))))
          exact h (0 : Int32) M26 hG27 F28 (by decide) (by decide) j_30
        · refine to_i (pc := 77) rw_62_77 rfl (b_ieq_t (pc := 79) rw_62_79 (A := 0) rfl (by decide) (to_i (pc := 99) rw_62_99 rfl (b_ine_f (pc := 101) rw_62_101 (A := 0) rfl (by decide) (to_an (pc := 104) rw_62_104 rfl (to_c (pc := 105) rw_62_105 (x := (1 : Int32)) rfl rfl (to_i (pc := 106) rw_62_106 rfl (to_c (pc := 108) rw_62_108 (x := (0 : Int32)) rfl rfl (s_v (pc := 109) rw_62_109 (dp0 hd (by decide)) (ls0 := [.ref q, .int (1 : Int32), .int r13, .int (0 : Int32)]) rfl (Nat.le_of_ble_eq_true rfl) (Nat.le_of_ble_eq_true rfl) rfl (to_rc rfl rfl rfl (g_o hG15 (by rcases hq with rfl | rfl <;> rfl))) rfl ?_))))))))
          have k_31 : (1 : Int32).toInt = 1 := rfl
          have k_32 : (0 : Int32).toInt = 0 := rfl
          have j_33 := (QI_f (tg_100 F14) (QI_f (tg_143 F3) q1))
          refine C_64 hX (dp1 hd (by decide)) hG15 hq (by omega) (by omega) (by omega) (by omega) (by omega) j_33 (q := q) (k := (1 : Int32)) (f := r13) (s := (0 : Int32)) (fun M37 hG35 F34 p_36 => ?_)
          have F38 := FR.c F19 F34 tg_148
          refine to_c (pc := 112) rw_62_112 (x := (1 : Int32)) rfl rfl (s_r1 (pc := 113) rw_62_113 (A := 1) rfl (by decide) ?_)
          exact h (1 : Int32) M37 hG35 F38 (by decide) (by decide) p_36
      · refine to_c (pc := 44) rw_62_44 (x := (1 : Int32)) rfl rfl (to_go (pc := 45) rw_62_45 (to_is (pc := 49) rw_62_49 (ls2 := [.ref q, .ref 1, .ref p, .int (M.2.1 1 8), .int (M.2.1 1 9), .int (1 : Int32), .null]) rfl rfl (to_i (pc := 51) rw_62_51 rfl (b_ieq_f (pc := 53) rw_62_53 (A := 1) rfl (by decide) (to_an (pc := 56) rw_62_56 rfl (to_in (pc := 57) rw_62_57 rfl (s_v (pc := 58) rw_62_58 (dp0 hd (by decide)) (ls0 := [.ref p, .int (M.2.1 1 8)]) rfl (Nat.le_of_ble_eq_true rfl) (Nat.le_of_ble_eq_true rfl) rfl (to_rc rfl rfl rfl (g_o hG4 (by rcases hp with rfl | rfl <;> rfl))) rfl (to_an (pc := 0) rw_52_0 rfl (s_gR (pc := 1) rw_52_1 hG4 (by rcases hp with rfl | rfl <;> rfl) (v := (p + 1)) (by rcases hp with rfl | rfl <;> rfl) (to_an (pc := 4) rw_52_4 rfl ?_))))))))))
        have c_39 : M7.2.1 p 2 = (M.2.1 p 2) := (F_n F3 (show ¬ (p = 1 ∧ 5 ≤ 2 ∨ 3 ≤ p ∧ p ≤ 5 ∨ p = 67 ∨ p = 72) by omega) rfl)
        have b_40 := g_b hG (a := p) (i := 2) (lo := 0) (hi := 8) (by rcases hp with rfl | rfl <;> rfl) (by rcases hp with rfl | rfl <;> rfl)
        refine tt_gI (pc := 5) rw_52_5 (g_o hG4 (by rcases hp with rfl | rfl <;> rfl)) (v := (M.2.1 p 2)) c_39 (to_in (pc := 8) rw_52_8 rfl (s_s (pc := 9) rw_52_9 (dp1 hd (by decide)) (ls0 := [.ref (p + 1), .int (M.2.1 p 2), .int (M.2.1 1 8), .null]) rfl (Nat.le_of_ble_eq_true rfl) (Nat.le_of_ble_eq_true rfl) rfl (to_rcs rfl rfl) rfl (C_54f hX (dp2 hd (by decide)) hG4 (by omega) (f := (p + 1)) (s := (M.2.1 p 2)) (x := (M.2.1 1 8)) (fun r41 M46 hG43 F42 p_44 p_45 => ?_))))
        have F47 := FR.c F8 F42 tg_147
        refine to_r0 (pc := 12) rw_52_12 (to_go (pc := 61) rw_62_61 (to_is (pc := 69) rw_62_69 (ls2 := [.ref q, .ref 1, .ref p, .int (M.2.1 1 8), .int (M.2.1 1 9), .int (1 : Int32), .int r41]) rfl rfl (to_i (pc := 71) rw_62_71 rfl (to_c (pc := 73) rw_62_73 (x := (-1 : Int32)) rfl rfl (b_ceq (pc := 74) rw_62_74 (A := r41.toInt) (B := -1) rfl rfl (fun h48 => ?_) (fun h48 => ?_))))))
        · refine to_an (pc := 91) rw_62_91 rfl (to_c (pc := 92) rw_62_92 (x := (4 : Int32)) rfl rfl (to_i (pc := 93) rw_62_93 rfl (s_v (pc := 95) rw_62_95 (dp0 hd (by decide)) (ls0 := [.ref 1, .int (4 : Int32), .int (M.2.1 1 9)]) rfl (Nat.le_of_ble_eq_true rfl) (Nat.le_of_ble_eq_true rfl) rfl (to_rc rfl rfl rfl (g_o hG43 rfl)) rfl (to_an (pc := 0) rw_85_0 rfl (to_in (pc := 1) rw_85_1 rfl (s_pI (pc := 2) rw_85_2 hG43 rfl (fun M50 W49 => ?_)))))))
          have hG51 := g_wf hG43 W49 rfl rfl (by decide)
          have F52 := FR.w F47 W49 (show 1 = 1 ∧ 5 ≤ 10 ∨ 3 ≤ 1 ∧ 1 ≤ 5 ∨ 67 ≤ 1 ∧ 1 ≤ 76 by decide)
          refine to_an (pc := 5) rw_85_5 rfl (to_in (pc := 6) rw_85_6 rfl (s_pI (pc := 7) rw_85_7 hG51 rfl (fun M54 W53 => ?_)))
          have hG55 := g_wf hG51 W53 rfl rfl (by decide)
          have F56 := FR.w F52 W53 (show 1 = 1 ∧ 5 ≤ 11 ∨ 3 ≤ 1 ∧ 1 ≤ 5 ∨ 67 ≤ 1 ∧ 1 ≤ 76 by decide)
          refine to_c (pc := 10) rw_85_10 (x := (0 : Int32)) rfl rfl (s_r1 (pc := 11) rw_85_11 (A := 0) rfl (by decide) (s_r1 (pc := 98) rw_62_98 (A := 0) rfl (by decide) ?_))
          have k_57 : (0 : Int32).toInt = 0 := rfl
          have j_58 := (QI_f (fun a i z => W_n W53 (tg_151 a i z) rfl) (QI_f (fun a i z => W_n W49 (tg_152 a i z) rfl) (QI_f (tg_100 F42) (QI_f (tg_143 F3) q1))))
          exact h (0 : Int32) M54 hG55 F56 (by decide) (by decide) j_58
        · refine to_i (pc := 77) rw_62_77 rfl (b_ieq_f (pc := 79) rw_62_79 (A := 1) rfl (by decide) (to_an (pc := 82) rw_62_82 rfl (to_i (pc := 83) rw_62_83 rfl (s_v (pc := 85) rw_62_85 (dp0 hd (by decide)) (ls0 := [.ref p, .int r41]) rfl (Nat.le_of_ble_eq_true rfl) (Nat.le_of_ble_eq_true rfl) rfl (to_rc rfl rfl rfl (g_o hG43 (by rcases hp with rfl | rfl <;> rfl))) rfl (to_an (pc := 0) rw_45_0 rfl (s_gR (pc := 1) rw_45_1 hG43 (by rcases hp with rfl | rfl <;> rfl) (v := (p + 2)) (by rcases hp with rfl | rfl <;> rfl) (to_in (pc := 4) rw_45_4 rfl (s_ial (pc := 5) rw_45_5 hG43 (by rcases hp with rfl | rfl <;> rfl) (n := 8) (by rcases hp with rfl | rfl <;> rfl) (by rcases hp with rfl | rfl <;> rfl) (A := r41.toInt) rfl (by omega) (by omega) (lo := 0) (hi := 3) (by rcases hp with rfl | rfl <;> rfl) (by rcases hp with rfl | rfl <;> rfl) (fun v59 w_60 _ _ => to_c (pc := 6) rw_45_6 (x := (3 : Int32)) rfl rfl (b_cne (pc := 7) rw_45_7 (A := v59.toInt) (B := 3) rfl rfl (fun h61 => ?_) (fun h61 => ?_)))))))))))
          · refine to_c (pc := 14) rw_45_14 (x := (0 : Int32)) rfl rfl (s_r1 (pc := 15) rw_45_15 (A := 0) rfl (by decide) (b_ieq_t (pc := 88) rw_62_88 (A := 0) rfl (by decide) (to_i (pc := 99) rw_62_99 rfl (b_ine_t (pc := 101) rw_62_101 (A := 1) rfl (by decide) (to_an (pc := 114) rw_62_114 rfl (s_v (pc := 115) rw_62_115 (dp0 hd (by decide)) (ls0 := [.ref 1]) rfl (Nat.le_of_ble_eq_true rfl) (Nat.le_of_ble_eq_true rfl) rfl (to_rc rfl rfl rfl (g_o hG43 rfl)) rfl (C_83 hX (dp1 hd (by decide)) hG43  (fun M64 hG63 F62 => ?_))))))))
            have F65 := FR.c F47 F62 tg_149
            refine to_an (pc := 118) rw_62_118 rfl (to_c (pc := 119) rw_62_119 (x := (0 : Int32)) rfl rfl (to_an (pc := 120) rw_62_120 rfl (s_gR (pc := 121) rw_62_121 hG63 (by rcases hp with rfl | rfl <;> rfl) (v := (p + 5)) (by rcases hp with rfl | rfl <;> rfl) (to_i (pc := 124) rw_62_124 rfl (s_ial (pc := 126) rw_62_126 hG63 (by rcases hp with rfl | rfl <;> rfl) (n := 8) (by rcases hp with rfl | rfl <;> rfl) (by rcases hp with rfl | rfl <;> rfl) (A := r41.toInt) rfl (by omega) (by omega) (lo := 0) (hi := 24) (by rcases hp with rfl | rfl <;> rfl) (by rcases hp with rfl | rfl <;> rfl) (fun v66 w_67 _ _ => to_c (pc := 127) rw_62_127 (x := (1 : Int32)) rfl rfl (s_sub (pc := 128) rw_62_128 (A := v66.toInt) (B := 1) rfl rfl (by omega) (fun v68 e69 => s_v (pc := 129) rw_62_129 (dp0 hd (by decide)) (ls0 := [.ref 1, .int (0 : Int32), .int v68]) rfl (Nat.le_of_ble_eq_true rfl) (Nat.le_of_ble_eq_true rfl) rfl (to_rc rfl rfl rfl (g_o hG63 rfl)) rfl (to_an (pc := 0) rw_88_0 rfl (tt_gI (pc := 1) rw_88_1 (g_o hG63 rfl) (v := (M64.2.1 1 7)) rfl (to_c (pc := 4) rw_88_4 (x := (2 : Int32)) rfl rfl ?_)))))))))))
            refine b_ceq (pc := 5) rw_88_5 (A := (M64.2.1 1 7).toInt) (B := 2) rfl rfl (fun h70 => ?_) (fun h70 => ?_)
            · refine to_an (pc := 14) rw_88_14 rfl (tt_gI (pc := 15) rw_88_15 (g_o hG63 rfl) (v := (M64.2.1 1 8)) rfl (to_in (pc := 18) rw_88_18 rfl (b_clt (pc := 19) rw_88_19 (A := (M64.2.1 1 8).toInt) (B := 0) rfl rfl (fun h71 => ?_) (fun h71 => ?_))))
              · refine to_an (pc := 30) rw_88_30 rfl (to_c (pc := 31) rw_88_31 (x := (2 : Int32)) rfl rfl (s_v (pc := 32) rw_88_32 (dp1 hd (by decide)) (ls0 := [.ref 1, .int (2 : Int32)]) rfl (Nat.le_of_ble_eq_true rfl) (Nat.le_of_ble_eq_true rfl) rfl (to_rc rfl rfl rfl (g_o hG63 rfl)) rfl (to_an (pc := 0) rw_84_0 rfl (to_in (pc := 1) rw_84_1 rfl (s_pI (pc := 2) rw_84_2 hG63 rfl (fun M73 W72 => ?_))))))
                have hG74 := g_wf hG63 W72 rfl rfl (by decide)
                have F75 := FR.w F65 W72 (show 1 = 1 ∧ 5 ≤ 10 ∨ 3 ≤ 1 ∧ 1 ≤ 5 ∨ 67 ≤ 1 ∧ 1 ≤ 76 by decide)
                refine to_an (pc := 5) rw_84_5 rfl (to_an (pc := 6) rw_84_6 rfl ?_)
                have c_76 : M73.2.1 1 9 = (M64.2.1 1 9) := (W_n W72 (by decide) rfl)
                refine tt_gI (pc := 7) rw_84_7 (g_o hG74 rfl) (v := (M64.2.1 1 9)) c_76 (s_pI (pc := 10) rw_84_10 hG74 rfl (fun M78 W77 => ?_))
                have hG79 := g_wf hG74 W77 rfl rfl (by decide)
                have F80 := FR.w F75 W77 (show 1 = 1 ∧ 5 ≤ 11 ∨ 3 ≤ 1 ∧ 1 ≤ 5 ∨ 67 ≤ 1 ∧ 1 ≤ 76 by decide)
                refine to_c (pc := 13) rw_84_13 (x := (0 : Int32)) rfl rfl (s_r1 (pc := 14) rw_84_14 (A := 0) rfl (by decide) (b_ieq_t (pc := 35) rw_88_35 (A := 0) rfl (by decide) (to_c (pc := 42) rw_88_42 (x := (0 : Int32)) rfl rfl (s_r1 (pc := 43) rw_88_43 (A := 0) rfl (by decide) (b_ine_f (pc := 132) rw_62_132 (A := 0) rfl (by decide) (to_c (pc := 135) rw_62_135 (x := (0 : Int32)) rfl rfl (s_r1 (pc := 136) rw_62_136 (A := 0) rfl (by decide) ?_)))))))
                have k_81 : (0 : Int32).toInt = 0 := rfl
                have j_82 := (QI_f (fun a i z => W_n W77 (tg_151 a i z) rfl) (QI_f (fun a i z => W_n W72 (tg_152 a i z) rfl) (QI_f (tg_144 F62) (QI_f (tg_100 F42) (QI_f (tg_143 F3) q1)))))
                exact h (0 : Int32) M78 hG79 F80 (by decide) (by decide) j_82
              · refine to_an (pc := 22) rw_88_22 rfl (tt_gI (pc := 23) rw_88_23 (g_o hG63 rfl) (v := (M64.2.1 1 8)) rfl (to_in (pc := 26) rw_88_26 rfl (b_cle (pc := 27) rw_88_27 (A := (M64.2.1 1 8).toInt) (B := v68.toInt) rfl rfl (fun h83 => ?_) (fun h83 => ?_))))
                · refine to_c (pc := 38) rw_88_38 (x := (1 : Int32)) rfl rfl (to_go (pc := 39) rw_88_39 (s_r1 (pc := 43) rw_88_43 (A := 1) rfl (by decide) (b_ine_t (pc := 132) rw_62_132 (A := 1) rfl (by decide) (to_an (pc := 137) rw_62_137 rfl (to_c (pc := 138) rw_62_138 (x := (0 : Int32)) rfl rfl (to_i (pc := 139) rw_62_139 rfl (to_an (pc := 141) rw_62_141 rfl (tt_gI (pc := 142) rw_62_142 (g_o hG63 rfl) (v := (M64.2.1 1 8)) rfl (s_v (pc := 145) rw_62_145 (dp0 hd (by decide)) (ls0 := [.ref q, .int (0 : Int32), .int r41, .int (M64.2.1 1 8)]) rfl (Nat.le_of_ble_eq_true rfl) (Nat.le_of_ble_eq_true rfl) rfl (to_rc rfl rfl rfl (g_o hG63 (by rcases hq with rfl | rfl <;> rfl))) rfl ?_)))))))))
                  have k_84 : (0 : Int32).toInt = 0 := rfl
                  have j_85 := (QI_f (tg_144 F62) (QI_f (tg_100 F42) (QI_f (tg_143 F3) q1)))
                  refine C_64 hX (dp1 hd (by decide)) hG63 hq (by omega) (by omega) (by omega) (by omega) (by omega) j_85 (q := q) (k := (0 : Int32)) (f := r41) (s := (M64.2.1 1 8)) (fun M89 hG87 F86 p_88 => ?_)
                  have F90 := FR.c F65 F86 tg_148
                  refine to_an (pc := 148) rw_62_148 rfl (s_v (pc := 149) rw_62_149 (dp0 hd (by decide)) (ls0 := [.ref 1]) rfl (Nat.le_of_ble_eq_true rfl) (Nat.le_of_ble_eq_true rfl) rfl (to_rc rfl rfl rfl (g_o hG87 rfl)) rfl (C_83 hX (dp1 hd (by decide)) hG87  (fun M93 hG92 F91 => ?_)))
                  have F94 := FR.c F90 F91 tg_149
                  refine to_c (pc := 152) rw_62_152 (x := (1 : Int32)) rfl rfl (s_r1 (pc := 153) rw_62_153 (A := 1) rfl (by decide) ?_)
                  have k_95 : (1 : Int32).toInt = 1 := rfl
                  have j_96 := (QI_f (tg_144 F91) p_88)
                  exact h (1 : Int32) M93 hG92 F94 (by decide) (by decide) j_96
                · refine to_an (pc := 30) rw_88_30 rfl (to_c (pc := 31) rw_88_31 (x := (2 : Int32)) rfl rfl (s_v (pc := 32) rw_88_32 (dp1 hd (by decide)) (ls0 := [.ref 1, .int (2 : Int32)]) rfl (Nat.le_of_ble_eq_true rfl) (Nat.le_of_ble_eq_true rfl) rfl (to_rc rfl rfl rfl (g_o hG63 rfl)) rfl (to_an (pc := 0) rw_84_0 rfl (to_in (pc := 1) rw_84_1 rfl (s_pI (pc := 2) rw_84_2 hG63 rfl (fun M98 W97 => ?_))))))
                  have hG99 := g_wf hG63 W97 rfl rfl (by decide)
                  have F100 := FR.w F65 W97 (show 1 = 1 ∧ 5 ≤ 10 ∨ 3 ≤ 1 ∧ 1 ≤ 5 ∨ 67 ≤ 1 ∧ 1 ≤ 76 by decide)
                  refine to_an (pc := 5) rw_84_5 rfl (to_an (pc := 6) rw_84_6 rfl ?_)
                  have c_101 : M98.2.1 1 9 = (M64.2.1 1 9) := (W_n W97 (by decide) rfl)
                  refine tt_gI (pc := 7) rw_84_7 (g_o hG99 rfl) (v := (M64.2.1 1 9)) c_101 (s_pI (pc := 10) rw_84_10 hG99 rfl (fun M103 W102 => ?_))
                  have hG104 := g_wf hG99 W102 rfl rfl (by decide)
                  have F105 := FR.w F100 W102 (show 1 = 1 ∧ 5 ≤ 11 ∨ 3 ≤ 1 ∧ 1 ≤ 5 ∨ 67 ≤ 1 ∧ 1 ≤ 76 by decide)
                  refine to_c (pc := 13) rw_84_13 (x := (0 : Int32)) rfl rfl (s_r1 (pc := 14) rw_84_14 (A := 0) rfl (by decide) (b_ieq_t (pc := 35) rw_88_35 (A := 0) rfl (by decide) (to_c (pc := 42) rw_88_42 (x := (0 : Int32)) rfl rfl (s_r1 (pc := 43) rw_88_43 (A := 0) rfl (by decide) (b_ine_f (pc := 132) rw_62_132 (A := 0) rfl (by decide) (to_c (pc := 135) rw_62_135 (x := (0 : Int32)) rfl rfl (s_r1 (pc := 136) rw_62_136 (A := 0) rfl (by decide) ?_)))))))
                  have k_106 : (0 : Int32).toInt = 0 := rfl
                  have j_107 := (QI_f (fun a i z => W_n W102 (tg_151 a i z) rfl) (QI_f (fun a i z => W_n W97 (tg_152 a i z) rfl) (QI_f (tg_144 F62) (QI_f (tg_100 F42) (QI_f (tg_143 F3) q1)))))
                  exact h (0 : Int32) M103 hG104 F105 (by decide) (by decide) j_107
            · refine to_an (pc := 8) rw_88_8 rfl (to_c (pc := 9) rw_88_9 (x := (1 : Int32)) rfl rfl (s_v (pc := 10) rw_88_10 (dp1 hd (by decide)) (ls0 := [.ref 1, .int (1 : Int32)]) rfl (Nat.le_of_ble_eq_true rfl) (Nat.le_of_ble_eq_true rfl) rfl (to_rc rfl rfl rfl (g_o hG63 rfl)) rfl (to_an (pc := 0) rw_84_0 rfl (to_in (pc := 1) rw_84_1 rfl (s_pI (pc := 2) rw_84_2 hG63 rfl (fun M109 W108 => ?_))))))
              have hG110 := g_wf hG63 W108 rfl rfl (by decide)
              have F111 := FR.w F65 W108 (show 1 = 1 ∧ 5 ≤ 10 ∨ 3 ≤ 1 ∧ 1 ≤ 5 ∨ 67 ≤ 1 ∧ 1 ≤ 76 by decide)
              refine to_an (pc := 5) rw_84_5 rfl (to_an (pc := 6) rw_84_6 rfl ?_)
              have c_112 : M109.2.1 1 9 = (M64.2.1 1 9) := (W_n W108 (by decide) rfl)
              refine tt_gI (pc := 7) rw_84_7 (g_o hG110 rfl) (v := (M64.2.1 1 9)) c_112 (s_pI (pc := 10) rw_84_10 hG110 rfl (fun M114 W113 => ?_))
              have hG115 := g_wf hG110 W113 rfl rfl (by decide)
              have F116 := FR.w F111 W113 (show 1 = 1 ∧ 5 ≤ 11 ∨ 3 ≤ 1 ∧ 1 ≤ 5 ∨ 67 ≤ 1 ∧ 1 ≤ 76 by decide)
              refine to_c (pc := 13) rw_84_13 (x := (0 : Int32)) rfl rfl (s_r1 (pc := 14) rw_84_14 (A := 0) rfl (by decide) (s_r1 (pc := 13) rw_88_13 (A := 0) rfl (by decide) (b_ine_f (pc := 132) rw_62_132 (A := 0) rfl (by decide) (to_c (pc := 135) rw_62_135 (x := (0 : Int32)) rfl rfl (s_r1 (pc := 136) rw_62_136 (A := 0) rfl (by decide) ?_)))))
              have k_117 : (0 : Int32).toInt = 0 := rfl
              have j_118 := (QI_f (fun a i z => W_n W113 (tg_151 a i z) rfl) (QI_f (fun a i z => W_n W108 (tg_152 a i z) rfl) (QI_f (tg_144 F62) (QI_f (tg_100 F42) (QI_f (tg_143 F3) q1)))))
              exact h (0 : Int32) M114 hG115 F116 (by decide) (by decide) j_118
          · refine to_c (pc := 10) rw_45_10 (x := (1 : Int32)) rfl rfl (to_go (pc := 11) rw_45_11 (s_r1 (pc := 15) rw_45_15 (A := 1) rfl (by decide) (b_ieq_f (pc := 88) rw_62_88 (A := 1) rfl (by decide) (to_an (pc := 91) rw_62_91 rfl (to_c (pc := 92) rw_62_92 (x := (4 : Int32)) rfl rfl (to_i (pc := 93) rw_62_93 rfl (s_v (pc := 95) rw_62_95 (dp0 hd (by decide)) (ls0 := [.ref 1, .int (4 : Int32), .int (M.2.1 1 9)]) rfl (Nat.le_of_ble_eq_true rfl) (Nat.le_of_ble_eq_true rfl) rfl (to_rc rfl rfl rfl (g_o hG43 rfl)) rfl (to_an (pc := 0) rw_85_0 rfl (to_in (pc := 1) rw_85_1 rfl (s_pI (pc := 2) rw_85_2 hG43 rfl (fun M120 W119 => ?_)))))))))))
            have hG121 := g_wf hG43 W119 rfl rfl (by decide)
            have F122 := FR.w F47 W119 (show 1 = 1 ∧ 5 ≤ 10 ∨ 3 ≤ 1 ∧ 1 ≤ 5 ∨ 67 ≤ 1 ∧ 1 ≤ 76 by decide)
            refine to_an (pc := 5) rw_85_5 rfl (to_in (pc := 6) rw_85_6 rfl (s_pI (pc := 7) rw_85_7 hG121 rfl (fun M124 W123 => ?_)))
            have hG125 := g_wf hG121 W123 rfl rfl (by decide)
            have F126 := FR.w F122 W123 (show 1 = 1 ∧ 5 ≤ 11 ∨ 3 ≤ 1 ∧ 1 ≤ 5 ∨ 67 ≤ 1 ∧ 1 ≤ 76 by decide)
            refine to_c (pc := 10) rw_85_10 (x := (0 : Int32)) rfl rfl (s_r1 (pc := 11) rw_85_11 (A := 0) rfl (by decide) (s_r1 (pc := 98) rw_62_98 (A := 0) rfl (by decide) ?_))
            have k_127 : (0 : Int32).toInt = 0 := rfl
            have j_128 := (QI_f (fun a i z => W_n W123 (tg_151 a i z) rfl) (QI_f (fun a i z => W_n W119 (tg_152 a i z) rfl) (QI_f (tg_100 F42) (QI_f (tg_143 F3) q1))))
            exact h (0 : Int32) M124 hG125 F126 (by decide) (by decide) j_128
    · refine to_c (pc := 33) rw_62_33 (x := (0 : Int32)) rfl rfl (s_r1 (pc := 34) rw_62_34 (A := 0) rfl (by decide) ?_)
      have k_129 : (0 : Int32).toInt = 0 := rfl
      have j_130 := (QI_f (tg_143 F3) q1)
      exact h (0 : Int32) M7 hG4 F8 (by decide) (by decide) j_130
  · refine to_an (pc := 8) rw_62_8 rfl (to_c (pc := 9) rw_62_9 (x := (1 : Int32)) rfl rfl (s_v (pc := 10) rw_62_10 (dp0 hd (by decide)) (ls0 := [.ref 1, .int (1 : Int32)]) rfl (Nat.le_of_ble_eq_true rfl) (Nat.le_of_ble_eq_true rfl) rfl (to_rc rfl rfl rfl (g_o hG rfl)) rfl (to_an (pc := 0) rw_84_0 rfl (to_in (pc := 1) rw_84_1 rfl (s_pI (pc := 2) rw_84_2 hG rfl (fun M132 W131 => ?_))))))
    have hG133 := g_wf hG W131 rfl rfl (by decide)
    have F134 := FR.w F0 W131 (show 1 = 1 ∧ 5 ≤ 10 ∨ 3 ≤ 1 ∧ 1 ≤ 5 ∨ 67 ≤ 1 ∧ 1 ≤ 76 by decide)
    refine to_an (pc := 5) rw_84_5 rfl (to_an (pc := 6) rw_84_6 rfl ?_)
    have c_135 : M132.2.1 1 9 = (M.2.1 1 9) := (W_n W131 (by decide) rfl)
    refine tt_gI (pc := 7) rw_84_7 (g_o hG133 rfl) (v := (M.2.1 1 9)) c_135 (s_pI (pc := 10) rw_84_10 hG133 rfl (fun M137 W136 => ?_))
    have hG138 := g_wf hG133 W136 rfl rfl (by decide)
    have F139 := FR.w F134 W136 (show 1 = 1 ∧ 5 ≤ 11 ∨ 3 ≤ 1 ∧ 1 ≤ 5 ∨ 67 ≤ 1 ∧ 1 ≤ 76 by decide)
    refine to_c (pc := 13) rw_84_13 (x := (0 : Int32)) rfl rfl (s_r1 (pc := 14) rw_84_14 (A := 0) rfl (by decide) (s_r1 (pc := 13) rw_62_13 (A := 0) rfl (by decide) ?_))
    have k_140 : (0 : Int32).toInt = 0 := rfl
    have j_141 := (QI_f (fun a i z => W_n W136 (tg_151 a i z) rfl) (QI_f (fun a i z => W_n W131 (tg_152 a i z) rfl) q1))
    exact h (0 : Int32) M137 hG138 F139 (by decide) (by decide) j_141
noncomputable def RC_58 (k : Int) : Prop := ∀ (X : mm_X) (d : Nat) (M : mm_M) (Q : Option Value → mm_M → Prop) (q : Nat) (p : Nat) (o : Int32), g_X X → (5 + 4 * (8 - o.toInt) ≤ (d : Int)) → g_G M → (q = 67 ∨ q = 72) → (p = 49 ∨ p = 58) → (0 ≤ o.toInt) → (o.toInt ≤ 8) → QI M → 8 - o.toInt < k → (∀ (r : Int32) (M1 : mm_M), g_G M1 → FR md_qt M M1 → (0 ≤ r.toInt) → (r.toInt ≤ 1) → QI M1 → Q (some (.int r)) M1) → mm_T X d 58 0 [.ref q, .ref 1, .ref p, .int o, .null] [] M Q
set_option maxRecDepth 4000 in
set_option maxHeartbeats 0 in
theorem C_61 {X : mm_X} {d : Nat} {M : mm_M} {Q : Option Value → mm_M → Prop} {q : Nat} {p : Nat} {o : Int32} (hX : g_X X) (hd : 2 + 4 * (8 - o.toInt) ≤ (d : Int)) (hG : g_G M) (hq : q = 67 ∨ q = 72) (hp : p = 49 ∨ p = 58) (q1 : 0 ≤ o.toInt) (q2 : o.toInt ≤ 8) (q3 : QI M) (hr : RC_58 (8 - o.toInt)) (h : ∀ (r : Int32) (M1 : mm_M), g_G M1 → FR md_qt M M1 → (0 ≤ r.toInt) → (r.toInt ≤ 1) → QI M1 → Q (some (.int r)) M1) : mm_T X d 61 0 [.ref q, .ref 1, .ref p, .int o] [] M Q := by
  have F0 : FR md_qt M M := FR.rf
  refine to_in (pc := 0) rw_61_0 rfl (to_c (pc := 1) rw_61_1 (x := (8 : Int32)) rfl rfl (b_clt (pc := 3) rw_61_3 (A := o.toInt) (B := 8) rfl rfl (fun h1 => ?_) (fun h1 => ?_)))
  · refine to_an (pc := 12) rw_61_12 rfl (s_v (pc := 13) rw_61_13 (by omega) (ls0 := [.ref 1]) rfl (Nat.le_of_ble_eq_true rfl) (Nat.le_of_ble_eq_true rfl) rfl (to_rc rfl rfl rfl (g_o hG rfl)) rfl (C_83 hX (by omega) hG  (fun M4 hG3 F2 => ?_)))
    have F5 := FR.c F0 F2 tg_149
    refine to_an (pc := 16) rw_61_16 rfl (to_an (pc := 17) rw_61_17 rfl (to_an (pc := 18) rw_61_18 rfl (to_in (pc := 19) rw_61_19 rfl (to_c (pc := 20) rw_61_20 (x := (1 : Int32)) rfl rfl (s_add (pc := 21) rw_61_21 (A := o.toInt) (B := 1) rfl rfl (by omega) (fun v6 e7 => s_v (pc := 22) rw_61_22 (by omega) (ls0 := [.ref q, .ref 1, .ref p, .int v6, .null]) rfl (Nat.le_of_ble_eq_true rfl) (Nat.le_of_ble_eq_true rfl) rfl (to_rc rfl rfl rfl (g_o hG3 (by rcases hq with rfl | rfl <;> rfl))) rfl ?_))))))
    have j_8 := (QI_f (tg_144 F2) q3)
    refine hr X _ _ _ q p v6 hX (by omega) hG3 hq hp (by omega) (by omega) j_8 (by omega) (fun r9 M15 hG11 F10 p_12 p_13 p_14 => ?_)
    have F16 := FR.c F5 F10 tg_150
    refine b_ieq (pc := 25) rw_61_25 (A := r9.toInt) rfl (fun h17 => ?_) (fun h17 => ?_)
    · refine to_c (pc := 41) rw_61_41 (x := (0 : Int32)) rfl rfl (s_r1 (pc := 42) rw_61_42 (A := 0) rfl (by decide) ?_)
      have k_18 : (0 : Int32).toInt = 0 := rfl
      exact h (0 : Int32) M15 hG11 F16 (by decide) (by decide) p_14
    · refine to_an (pc := 28) rw_61_28 rfl (to_c (pc := 29) rw_61_29 (x := (41 : Int32)) rfl rfl (s_v (pc := 31) rw_61_31 (by omega) (ls0 := [.ref 1, .int (41 : Int32)]) rfl (Nat.le_of_ble_eq_true rfl) (Nat.le_of_ble_eq_true rfl) rfl (to_rc rfl rfl rfl (g_o hG11 rfl)) rfl ?_))
      have k_19 : (41 : Int32).toInt = 41 := rfl
      refine C_90 hX (by omega) hG11 (x := (41 : Int32)) (fun r20 M26 hG22 F21 p_23 p_24 p_25 => ?_)
      have F27 := FR.c F16 F21 tg_149
      refine b_ieq (pc := 34) rw_61_34 (A := r20.toInt) rfl (fun h28 => ?_) (fun h28 => ?_)
      · refine to_c (pc := 41) rw_61_41 (x := (0 : Int32)) rfl rfl (s_r1 (pc := 42) rw_61_42 (A := 0) rfl (by decide) ?_)
        have k_29 : (0 : Int32).toInt = 0 := rfl
        have j_30 := (QI_f (tg_144 F21) p_14)
        exact h (0 : Int32) M26 hG22 F27 (by decide) (by decide) j_30
      · refine to_c (pc := 37) rw_61_37 (x := (1 : Int32)) rfl rfl (to_go (pc := 38) rw_61_38 (s_r1 (pc := 42) rw_61_42 (A := 1) rfl (by decide) ?_))
        have k_31 : (1 : Int32).toInt = 1 := rfl
        have j_32 := (QI_f (tg_144 F21) p_14)
        exact h (1 : Int32) M26 hG22 F27 (by decide) (by decide) j_32
  · refine to_an (pc := 6) rw_61_6 rfl (to_c (pc := 7) rw_61_7 (x := (2 : Int32)) rfl rfl (s_v (pc := 8) rw_61_8 (by omega) (ls0 := [.ref 1, .int (2 : Int32)]) rfl (Nat.le_of_ble_eq_true rfl) (Nat.le_of_ble_eq_true rfl) rfl (to_rc rfl rfl rfl (g_o hG rfl)) rfl (to_an (pc := 0) rw_84_0 rfl (to_in (pc := 1) rw_84_1 rfl (s_pI (pc := 2) rw_84_2 hG rfl (fun M34 W33 => ?_))))))
    have hG35 := g_wf hG W33 rfl rfl (by decide)
    have F36 := FR.w F0 W33 (show 1 = 1 ∧ 5 ≤ 10 ∨ 3 ≤ 1 ∧ 1 ≤ 5 ∨ 67 ≤ 1 ∧ 1 ≤ 76 by decide)
    refine to_an (pc := 5) rw_84_5 rfl (to_an (pc := 6) rw_84_6 rfl ?_)
    have c_37 : M34.2.1 1 9 = (M.2.1 1 9) := (W_n W33 (by decide) rfl)
    refine tt_gI (pc := 7) rw_84_7 (g_o hG35 rfl) (v := (M.2.1 1 9)) c_37 (s_pI (pc := 10) rw_84_10 hG35 rfl (fun M39 W38 => ?_))
    have hG40 := g_wf hG35 W38 rfl rfl (by decide)
    have F41 := FR.w F36 W38 (show 1 = 1 ∧ 5 ≤ 11 ∨ 3 ≤ 1 ∧ 1 ≤ 5 ∨ 67 ≤ 1 ∧ 1 ≤ 76 by decide)
    refine to_c (pc := 13) rw_84_13 (x := (0 : Int32)) rfl rfl (s_r1 (pc := 14) rw_84_14 (A := 0) rfl (by decide) (s_r1 (pc := 11) rw_61_11 (A := 0) rfl (by decide) ?_))
    have k_42 : (0 : Int32).toInt = 0 := rfl
    have j_43 := (QI_f (fun a i z => W_n W38 (tg_151 a i z) rfl) (QI_f (fun a i z => W_n W33 (tg_152 a i z) rfl) q3))
    exact h (0 : Int32) M39 hG40 F41 (by decide) (by decide) j_43
set_option maxRecDepth 4000 in
set_option maxHeartbeats 0 in
theorem T_60_0 {X : mm_X} {d : Nat} {M : mm_M} {Q : Option Value → mm_M → Prop} {q : Nat} {p : Nat} {o : Int32} (hX : g_X X) (hd : 3 + 4 * (8 - o.toInt) ≤ (d : Int)) (hq : q = 67 ∨ q = 72) (hp : p = 49 ∨ p = 58) (q1 : 0 ≤ o.toInt) (q2 : o.toInt ≤ 8) (q3 : QI M) (hr : RC_58 (8 - o.toInt)) (h : ∀ (r : Int32) (M1 : mm_M), g_G M1 → FR md_qt M M1 → (0 ≤ r.toInt) → (r.toInt ≤ 1) → QI M1 → Q (some (.int r)) M1) : ∀ nn9 : Nat, (∀ (N : mm_M) (u1 : Value) (u2 : Value) (u3 : Value) (x4 : Int32) (x5 : Int32) (x6 : Int32), g_G N → FR md_qt M N → (0 ≤ x6.toInt) → (x6.toInt ≤ 41) → (0 ≤ x4.toInt) → (x4.toInt ≤ 41) → (0 ≤ x5.toInt) → (x5.toInt ≤ 1) → (QI N) → 41 - x6.toInt < (nn9 : Int) → mm_T X d 60 65 [.ref q, u1, u2, u3, .int x4, .int x5, .int x6] [] N Q) := by
  intro nn9
  induction nn9 with
  | zero =>
    intro N u1 u2 u3 x4 x5 x6 hG F0 g1 g2 g3 g4 g5 g6 g7 hm
    exfalso; omega
  | succ nn9 ih =>
    intro N u1 u2 u3 x4 x5 x6 hG F0 g1 g2 g3 g4 g5 g6 g7 hm
    refine to_i (pc := 65) rw_60_65 rfl (to_i (pc := 67) rw_60_67 rfl (b_cge (pc := 69) rw_60_69 (A := x6.toInt) (B := x4.toInt) rfl rfl (fun h1 => ?_) (fun h1 => ?_)))
    · refine to_i (pc := 90) rw_60_90 rfl (s_r1 (pc := 92) rw_60_92 (A := x5.toInt) rfl (by omega) ?_)
      exact h x5 N hG F0 (by omega) (by omega) g7
    · refine to_i (pc := 72) rw_60_72 rfl (b_ieq (pc := 74) rw_60_74 (A := x5.toInt) rfl (fun h2 => ?_) (fun h2 => ?_))
      · refine to_i (pc := 90) rw_60_90 rfl (s_r1 (pc := 92) rw_60_92 (A := x5.toInt) rfl (by omega) ?_)
        exact h x5 N hG F0 (by omega) (by omega) g7
      · refine to_an (pc := 77) rw_60_77 rfl (to_c (pc := 78) rw_60_78 (x := (2 : Int32)) rfl rfl (to_c (pc := 79) rw_60_79 (x := (0 : Int32)) rfl rfl (to_c (pc := 80) rw_60_80 (x := (0 : Int32)) rfl rfl (s_v (pc := 81) rw_60_81 (by omega) (ls0 := [.ref q, .int (2 : Int32), .int (0 : Int32), .int (0 : Int32)]) rfl (Nat.le_of_ble_eq_true rfl) (Nat.le_of_ble_eq_true rfl) rfl (to_rc rfl rfl rfl (g_o hG (by rcases hq with rfl | rfl <;> rfl))) rfl ?_))))
        have k_3 : (2 : Int32).toInt = 2 := rfl
        have k_4 : (0 : Int32).toInt = 0 := rfl
        refine C_64 hX (by omega) hG hq (by omega) (by omega) (by omega) (by omega) (by omega) g7 (q := q) (k := (2 : Int32)) (f := (0 : Int32)) (s := (0 : Int32)) (fun M8 hG6 F5 p_7 => ?_)
        have F9 := FR.c F0 F5 tg_148
        refine s_inc (pc := 84) rw_60_84 (ls2 := fun v => [.ref q, u1, u2, u3, .int x4, .int x5, .int v]) rfl rfl (fun _ => rfl) (A := x6.toInt) (B := 1) rfl rfl (by omega) (fun v10 e11 => to_go (pc := 87) rw_60_87 ?_)
        exact ih M8 (u1) (u2) (u3) x4 x5 v10 hG6 F9 (by omega) (by omega) (by omega) (by omega) (by omega) (by omega) p_7 (by omega)
set_option maxRecDepth 4000 in
set_option maxHeartbeats 0 in
theorem T_60_1 {X : mm_X} {d : Nat} {M : mm_M} {Q : Option Value → mm_M → Prop} {q : Nat} {p : Nat} {o : Int32} (hX : g_X X) (hd : 3 + 4 * (8 - o.toInt) ≤ (d : Int)) (hq : q = 67 ∨ q = 72) (hp : p = 49 ∨ p = 58) (q1 : 0 ≤ o.toInt) (q2 : o.toInt ≤ 8) (q3 : QI M) (hr : RC_58 (8 - o.toInt)) (h : ∀ (r : Int32) (M1 : mm_M), g_G M1 → FR md_qt M M1 → (0 ≤ r.toInt) → (r.toInt ≤ 1) → QI M1 → Q (some (.int r)) M1) : ∀ nn9 : Nat, (∀ (N : mm_M) (x4 : Int32) (u5 : Value) (u6 : Value), g_G N → FR md_qt M N → (0 ≤ x4.toInt) → (x4.toInt ≤ 41) → (o.toInt = o.toInt) → (QI N) → 41 - x4.toInt < (nn9 : Int) → mm_T X d 60 3 [.ref q, .ref 1, .ref p, .int o, .int x4, u5, u6] [] N Q) := by
  intro nn9
  induction nn9 with
  | zero =>
    intro N x4 u5 u6 hG F0 g1 g2 g3 g4 hm
    exfalso; omega
  | succ nn9 ih =>
    intro N x4 u5 u6 hG F0 g1 g2 g3 g4 hm
    refine to_i (pc := 3) rw_60_3 rfl (to_c (pc := 5) rw_60_5 (x := (40 : Int32)) rfl rfl (b_cgt (pc := 7) rw_60_7 (A := x4.toInt) (B := 40) rfl rfl (fun h12 => ?_) (fun h12 => ?_)))
    · refine to_an (pc := 35) rw_60_35 rfl (tt_gI (pc := 36) rw_60_36 (g_o hG rfl) (v := (N.2.1 1 7)) rfl (to_c (pc := 39) rw_60_39 (x := (40 : Int32)) rfl rfl (b_cne (pc := 41) rw_60_41 (A := (N.2.1 1 7).toInt) (B := 40) rfl rfl (fun h13 => ?_) (fun h13 => ?_))))
      · refine to_an (pc := 54) rw_60_54 rfl (to_an (pc := 55) rw_60_55 rfl (to_an (pc := 56) rw_60_56 rfl (s_v (pc := 57) rw_60_57 (by omega) (ls0 := [.ref q, .ref 1, .ref p, .null, .null, .null, .null]) rfl (Nat.le_of_ble_eq_true rfl) (Nat.le_of_ble_eq_true rfl) rfl (to_rc rfl rfl rfl (g_o hG (by rcases hq with rfl | rfl <;> rfl))) rfl (C_62 hX (by omega) hG hq hp g4 (q := q) (p := p) (fun r14 M20 hG16 F15 p_17 p_18 p_19 => ?_)))))
        have F21 := FR.c F0 F15 tg_150
        refine to_is (pc := 60) rw_60_60 (ls2 := [.ref q, .ref 1, .ref p, .int o, .int x4, .int r14, u6]) rfl rfl (to_c (pc := 62) rw_60_62 (x := (0 : Int32)) rfl rfl (to_is (pc := 63) rw_60_63 (ls2 := [.ref q, .ref 1, .ref p, .int o, .int x4, .int r14, .int (0 : Int32)]) rfl rfl ?_))
        have k_22 : (0 : Int32).toInt = 0 := rfl
        exact (T_60_0 (q := q) (p := p) (o := o) hX hd hq hp q1 q2 q3 hr h ((41 - (0 : Int32).toInt).toNat + 1)) M20 (.ref 1) (.ref p) (.int o) x4 r14 (0 : Int32) hG16 F21 (by omega) (by omega) (by omega) (by omega) (by omega) (by omega) p_19 (by omega)
      · refine to_an (pc := 44) rw_60_44 rfl (to_an (pc := 45) rw_60_45 rfl (to_an (pc := 46) rw_60_46 rfl (to_in (pc := 47) rw_60_47 rfl (s_v (pc := 48) rw_60_48 (by omega) (ls0 := [.ref q, .ref 1, .ref p, .int o]) rfl (Nat.le_of_ble_eq_true rfl) (Nat.le_of_ble_eq_true rfl) rfl (to_rc rfl rfl rfl (g_o hG (by rcases hq with rfl | rfl <;> rfl))) rfl (C_61 hX (by omega) hG hq hp (by omega) (by omega) g4 hr (q := q) (p := p) (o := o) (fun r23 M29 hG25 F24 p_26 p_27 p_28 => ?_))))))
        have F30 := FR.c F0 F24 tg_150
        refine to_go (pc := 51) rw_60_51 (to_is (pc := 60) rw_60_60 (ls2 := [.ref q, .ref 1, .ref p, .int o, .int x4, .int r23, u6]) rfl rfl (to_c (pc := 62) rw_60_62 (x := (0 : Int32)) rfl rfl (to_is (pc := 63) rw_60_63 (ls2 := [.ref q, .ref 1, .ref p, .int o, .int x4, .int r23, .int (0 : Int32)]) rfl rfl ?_)))
        have k_31 : (0 : Int32).toInt = 0 := rfl
        exact (T_60_0 (q := q) (p := p) (o := o) hX hd hq hp q1 q2 q3 hr h ((41 - (0 : Int32).toInt).toNat + 1)) M29 (.ref 1) (.ref p) (.int o) x4 r23 (0 : Int32) hG25 F30 (by omega) (by omega) (by omega) (by omega) (by omega) (by omega) p_28 (by omega)
    · refine to_an (pc := 10) rw_60_10 rfl (to_c (pc := 11) rw_60_11 (x := (486146048 : Int32)) rfl rfl (s_v (pc := 13) rw_60_13 (by omega) (ls0 := [.ref 1, .int (486146048 : Int32)]) rfl (Nat.le_of_ble_eq_true rfl) (Nat.le_of_ble_eq_true rfl) rfl (to_rc rfl rfl rfl (g_o hG rfl)) rfl (to_an (pc := 0) rw_86_0 rfl (tt_gI (pc := 1) rw_86_1 (g_o hG rfl) (v := (N.2.1 1 7)) rfl (to_c (pc := 4) rw_86_4 (x := (4 : Int32)) rfl rfl (b_cne (pc := 5) rw_86_5 (A := (N.2.1 1 7).toInt) (B := 4) rfl rfl (fun h32 => ?_) (fun h32 => ?_)))))))
      · refine to_c (pc := 20) rw_86_20 (x := (0 : Int32)) rfl rfl (s_r1 (pc := 21) rw_86_21 (A := 0) rfl (by decide) (b_ieq_t (pc := 16) rw_60_16 (A := 0) rfl (by decide) (to_an (pc := 35) rw_60_35 rfl (tt_gI (pc := 36) rw_60_36 (g_o hG rfl) (v := (N.2.1 1 7)) rfl (to_c (pc := 39) rw_60_39 (x := (40 : Int32)) rfl rfl (b_cne (pc := 41) rw_60_41 (A := (N.2.1 1 7).toInt) (B := 40) rfl rfl (fun h33 => ?_) (fun h33 => ?_)))))))
        · refine to_an (pc := 54) rw_60_54 rfl (to_an (pc := 55) rw_60_55 rfl (to_an (pc := 56) rw_60_56 rfl (s_v (pc := 57) rw_60_57 (by omega) (ls0 := [.ref q, .ref 1, .ref p, .null, .null, .null, .null]) rfl (Nat.le_of_ble_eq_true rfl) (Nat.le_of_ble_eq_true rfl) rfl (to_rc rfl rfl rfl (g_o hG (by rcases hq with rfl | rfl <;> rfl))) rfl (C_62 hX (by omega) hG hq hp g4 (q := q) (p := p) (fun r34 M40 hG36 F35 p_37 p_38 p_39 => ?_)))))
          have F41 := FR.c F0 F35 tg_150
          refine to_is (pc := 60) rw_60_60 (ls2 := [.ref q, .ref 1, .ref p, .int o, .int x4, .int r34, u6]) rfl rfl (to_c (pc := 62) rw_60_62 (x := (0 : Int32)) rfl rfl (to_is (pc := 63) rw_60_63 (ls2 := [.ref q, .ref 1, .ref p, .int o, .int x4, .int r34, .int (0 : Int32)]) rfl rfl ?_))
          have k_42 : (0 : Int32).toInt = 0 := rfl
          exact (T_60_0 (q := q) (p := p) (o := o) hX hd hq hp q1 q2 q3 hr h ((41 - (0 : Int32).toInt).toNat + 1)) M40 (.ref 1) (.ref p) (.int o) x4 r34 (0 : Int32) hG36 F41 (by omega) (by omega) (by omega) (by omega) (by omega) (by omega) p_39 (by omega)
        · refine to_an (pc := 44) rw_60_44 rfl (to_an (pc := 45) rw_60_45 rfl (to_an (pc := 46) rw_60_46 rfl (to_in (pc := 47) rw_60_47 rfl (s_v (pc := 48) rw_60_48 (by omega) (ls0 := [.ref q, .ref 1, .ref p, .int o]) rfl (Nat.le_of_ble_eq_true rfl) (Nat.le_of_ble_eq_true rfl) rfl (to_rc rfl rfl rfl (g_o hG (by rcases hq with rfl | rfl <;> rfl))) rfl (C_61 hX (by omega) hG hq hp (by omega) (by omega) g4 hr (q := q) (p := p) (o := o) (fun r43 M49 hG45 F44 p_46 p_47 p_48 => ?_))))))
          have F50 := FR.c F0 F44 tg_150
          refine to_go (pc := 51) rw_60_51 (to_is (pc := 60) rw_60_60 (ls2 := [.ref q, .ref 1, .ref p, .int o, .int x4, .int r43, u6]) rfl rfl (to_c (pc := 62) rw_60_62 (x := (0 : Int32)) rfl rfl (to_is (pc := 63) rw_60_63 (ls2 := [.ref q, .ref 1, .ref p, .int o, .int x4, .int r43, .int (0 : Int32)]) rfl rfl ?_)))
          have k_51 : (0 : Int32).toInt = 0 := rfl
          exact (T_60_0 (q := q) (p := p) (o := o) hX hd hq hp q1 q2 q3 hr h ((41 - (0 : Int32).toInt).toNat + 1)) M49 (.ref 1) (.ref p) (.int o) x4 r43 (0 : Int32) hG45 F50 (by omega) (by omega) (by omega) (by omega) (by omega) (by omega) p_48 (by omega)
      · refine to_an (pc := 8) rw_86_8 rfl (tt_gI (pc := 9) rw_86_9 (g_o hG rfl) (v := (N.2.1 1 8)) rfl (to_in (pc := 12) rw_86_12 rfl (b_cne (pc := 13) rw_86_13 (A := (N.2.1 1 8).toInt) (B := 486146048) rfl rfl (fun h52 => ?_) (fun h52 => ?_))))
        · refine to_c (pc := 20) rw_86_20 (x := (0 : Int32)) rfl rfl (s_r1 (pc := 21) rw_86_21 (A := 0) rfl (by decide) (b_ieq_t (pc := 16) rw_60_16 (A := 0) rfl (by decide) (to_an (pc := 35) rw_60_35 rfl (tt_gI (pc := 36) rw_60_36 (g_o hG rfl) (v := (N.2.1 1 7)) rfl (to_c (pc := 39) rw_60_39 (x := (40 : Int32)) rfl rfl (b_cne_t (pc := 41) rw_60_41 (A := (N.2.1 1 7).toInt) (B := 40) rfl rfl (by omega) (to_an (pc := 54) rw_60_54 rfl (to_an (pc := 55) rw_60_55 rfl (to_an (pc := 56) rw_60_56 rfl (s_v (pc := 57) rw_60_57 (by omega) (ls0 := [.ref q, .ref 1, .ref p, .null, .null, .null, .null]) rfl (Nat.le_of_ble_eq_true rfl) (Nat.le_of_ble_eq_true rfl) rfl (to_rc rfl rfl rfl (g_o hG (by rcases hq with rfl | rfl <;> rfl))) rfl (C_62 hX (by omega) hG hq hp g4 (q := q) (p := p) (fun r53 M59 hG55 F54 p_56 p_57 p_58 => ?_))))))))))))
          have F60 := FR.c F0 F54 tg_150
          refine to_is (pc := 60) rw_60_60 (ls2 := [.ref q, .ref 1, .ref p, .int o, .int x4, .int r53, u6]) rfl rfl (to_c (pc := 62) rw_60_62 (x := (0 : Int32)) rfl rfl (to_is (pc := 63) rw_60_63 (ls2 := [.ref q, .ref 1, .ref p, .int o, .int x4, .int r53, .int (0 : Int32)]) rfl rfl ?_))
          have k_61 : (0 : Int32).toInt = 0 := rfl
          exact (T_60_0 (q := q) (p := p) (o := o) hX hd hq hp q1 q2 q3 hr h ((41 - (0 : Int32).toInt).toNat + 1)) M59 (.ref 1) (.ref p) (.int o) x4 r53 (0 : Int32) hG55 F60 (by omega) (by omega) (by omega) (by omega) (by omega) (by omega) p_58 (by omega)
        · refine to_c (pc := 16) rw_86_16 (x := (1 : Int32)) rfl rfl (to_go (pc := 17) rw_86_17 (s_r1 (pc := 21) rw_86_21 (A := 1) rfl (by decide) (b_ieq_f (pc := 16) rw_60_16 (A := 1) rfl (by decide) (to_an (pc := 19) rw_60_19 rfl (to_an (pc := 20) rw_60_20 rfl (s_v (pc := 21) rw_60_21 (by omega) (ls0 := [.ref q, .ref 1]) rfl (Nat.le_of_ble_eq_true rfl) (Nat.le_of_ble_eq_true rfl) rfl (to_rc rfl rfl rfl (g_o hG (by rcases hq with rfl | rfl <;> rfl))) rfl (C_63 hX (by omega) hG hq (q := q) (fun r62 M67 hG64 F63 p_65 p_66 => ?_))))))))
          have F68 := FR.c F0 F63 tg_146
          refine b_ine (pc := 24) rw_60_24 (A := r62.toInt) rfl (fun h69 => ?_) (fun h69 => ?_)
          · refine s_inc (pc := 29) rw_60_29 (ls2 := fun v => [.ref q, .ref 1, .ref p, .int o, .int v, u5, u6]) rfl rfl (fun _ => rfl) (A := x4.toInt) (B := 1) rfl rfl (by omega) (fun v70 e71 => to_go (pc := 32) rw_60_32 ?_)
            have j_72 := (QI_f (tg_143 F63) g4)
            exact ih M67 v70 (u5) (u6) hG64 F68 (by omega) (by omega) (by omega) j_72 (by omega)
          · refine to_c (pc := 27) rw_60_27 (x := (0 : Int32)) rfl rfl (s_r1 (pc := 28) rw_60_28 (A := 0) rfl (by decide) ?_)
            have k_73 : (0 : Int32).toInt = 0 := rfl
            have j_74 := (QI_f (tg_143 F63) g4)
            exact h (0 : Int32) M67 hG64 F68 (by decide) (by decide) j_74
set_option maxRecDepth 4000 in
set_option maxHeartbeats 0 in
theorem C_60 {X : mm_X} {d : Nat} {M : mm_M} {Q : Option Value → mm_M → Prop} {q : Nat} {p : Nat} {o : Int32} (hX : g_X X) (hd : 3 + 4 * (8 - o.toInt) ≤ (d : Int)) (hG : g_G M) (hq : q = 67 ∨ q = 72) (hp : p = 49 ∨ p = 58) (q1 : 0 ≤ o.toInt) (q2 : o.toInt ≤ 8) (q3 : QI M) (hr : RC_58 (8 - o.toInt)) (h : ∀ (r : Int32) (M1 : mm_M), g_G M1 → FR md_qt M M1 → (0 ≤ r.toInt) → (r.toInt ≤ 1) → QI M1 → Q (some (.int r)) M1) : mm_T X d 60 0 [.ref q, .ref 1, .ref p, .int o, .null, .null, .null] [] M Q := by
  have F0 : FR md_qt M M := FR.rf
  refine to_c (pc := 0) rw_60_0 (x := (0 : Int32)) rfl rfl (to_is (pc := 1) rw_60_1 (ls2 := [.ref q, .ref 1, .ref p, .int o, .int (0 : Int32), .null, .null]) rfl rfl ?_)
  have k_75 : (0 : Int32).toInt = 0 := rfl
  exact (T_60_1 (q := q) (p := p) (o := o) hX hd hq hp q1 q2 q3 hr h ((41 - (0 : Int32).toInt).toNat + 1)) M (0 : Int32) (.null) (.null) hG F0 (by omega) (by omega) (by omega) q3 (by omega)
set_option maxRecDepth 4000 in
set_option maxHeartbeats 0 in
theorem T_59_0 {X : mm_X} {d : Nat} {M : mm_M} {Q : Option Value → mm_M → Prop} {q : Nat} {p : Nat} {o : Int32} (hX : g_X X) (hd : 4 + 4 * (8 - o.toInt) ≤ (d : Int)) (hq : q = 67 ∨ q = 72) (hp : p = 49 ∨ p = 58) (q1 : 0 ≤ o.toInt) (q2 : o.toInt ≤ 8) (q3 : QI M) (hr : RC_58 (8 - o.toInt)) (h : ∀ (r : Int32) (M1 : mm_M), g_G M1 → FR md_qt M M1 → (0 ≤ r.toInt) → (r.toInt ≤ 1) → QI M1 → Q (some (.int r)) M1) : ∀ nn9 : Nat, (∀ (N : mm_M) (x4 : Int32), g_G N → FR md_qt M N → (0 ≤ x4.toInt) → (x4.toInt ≤ 41) → (o.toInt = o.toInt) → (QI N) → 41 - x4.toInt < (nn9 : Int) → mm_T X d 59 15 [.ref q, .ref 1, .ref p, .int o, .int x4] [] N Q) := by
  intro nn9
  induction nn9 with
  | zero =>
    intro N x4 hG F0 g1 g2 g3 g4 hm
    exfalso; omega
  | succ nn9 ih =>
    intro N x4 hG F0 g1 g2 g3 g4 hm
    refine to_i (pc := 15) rw_59_15 rfl (to_c (pc := 17) rw_59_17 (x := (40 : Int32)) rfl rfl (b_cgt (pc := 19) rw_59_19 (A := x4.toInt) (B := 40) rfl rfl (fun h1 => ?_) (fun h1 => ?_)))
    · refine to_c (pc := 64) rw_59_64 (x := (1 : Int32)) rfl rfl (s_r1 (pc := 65) rw_59_65 (A := 1) rfl (by decide) ?_)
      have k_2 : (1 : Int32).toInt = 1 := rfl
      exact h (1 : Int32) N hG F0 (by decide) (by decide) g4
    · refine to_an (pc := 22) rw_59_22 rfl (to_c (pc := 23) rw_59_23 (x := (48365568 : Int32)) rfl rfl (s_v (pc := 25) rw_59_25 (by omega) (ls0 := [.ref 1, .int (48365568 : Int32)]) rfl (Nat.le_of_ble_eq_true rfl) (Nat.le_of_ble_eq_true rfl) rfl (to_rc rfl rfl rfl (g_o hG rfl)) rfl (to_an (pc := 0) rw_86_0 rfl (tt_gI (pc := 1) rw_86_1 (g_o hG rfl) (v := (N.2.1 1 7)) rfl (to_c (pc := 4) rw_86_4 (x := (4 : Int32)) rfl rfl (b_cne (pc := 5) rw_86_5 (A := (N.2.1 1 7).toInt) (B := 4) rfl rfl (fun h3 => ?_) (fun h3 => ?_)))))))
      · refine to_c (pc := 20) rw_86_20 (x := (0 : Int32)) rfl rfl (s_r1 (pc := 21) rw_86_21 (A := 0) rfl (by decide) (b_ieq_t (pc := 28) rw_59_28 (A := 0) rfl (by decide) (to_c (pc := 64) rw_59_64 (x := (1 : Int32)) rfl rfl (s_r1 (pc := 65) rw_59_65 (A := 1) rfl (by decide) ?_))))
        have k_4 : (1 : Int32).toInt = 1 := rfl
        exact h (1 : Int32) N hG F0 (by decide) (by decide) g4
      · refine to_an (pc := 8) rw_86_8 rfl (tt_gI (pc := 9) rw_86_9 (g_o hG rfl) (v := (N.2.1 1 8)) rfl (to_in (pc := 12) rw_86_12 rfl (b_cne (pc := 13) rw_86_13 (A := (N.2.1 1 8).toInt) (B := 48365568) rfl rfl (fun h5 => ?_) (fun h5 => ?_))))
        · refine to_c (pc := 20) rw_86_20 (x := (0 : Int32)) rfl rfl (s_r1 (pc := 21) rw_86_21 (A := 0) rfl (by decide) (b_ieq_t (pc := 28) rw_59_28 (A := 0) rfl (by decide) (to_c (pc := 64) rw_59_64 (x := (1 : Int32)) rfl rfl (s_r1 (pc := 65) rw_59_65 (A := 1) rfl (by decide) ?_))))
          have k_6 : (1 : Int32).toInt = 1 := rfl
          exact h (1 : Int32) N hG F0 (by decide) (by decide) g4
        · refine to_c (pc := 16) rw_86_16 (x := (1 : Int32)) rfl rfl (to_go (pc := 17) rw_86_17 (s_r1 (pc := 21) rw_86_21 (A := 1) rfl (by decide) (b_ieq_f (pc := 28) rw_59_28 (A := 1) rfl (by decide) (to_an (pc := 31) rw_59_31 rfl (to_an (pc := 32) rw_59_32 rfl (s_v (pc := 33) rw_59_33 (by omega) (ls0 := [.ref q, .ref 1]) rfl (Nat.le_of_ble_eq_true rfl) (Nat.le_of_ble_eq_true rfl) rfl (to_rc rfl rfl rfl (g_o hG (by rcases hq with rfl | rfl <;> rfl))) rfl (C_63 hX (by omega) hG hq (q := q) (fun r7 M12 hG9 F8 p_10 p_11 => ?_))))))))
          have F13 := FR.c F0 F8 tg_146
          refine b_ieq (pc := 36) rw_59_36 (A := r7.toInt) rfl (fun h14 => ?_) (fun h14 => ?_)
          · refine to_c (pc := 49) rw_59_49 (x := (0 : Int32)) rfl rfl (s_r1 (pc := 50) rw_59_50 (A := 0) rfl (by decide) ?_)
            have k_15 : (0 : Int32).toInt = 0 := rfl
            have j_16 := (QI_f (tg_143 F8) g4)
            exact h (0 : Int32) M12 hG9 F13 (by decide) (by decide) j_16
          · refine to_an (pc := 39) rw_59_39 rfl (to_an (pc := 40) rw_59_40 rfl (to_an (pc := 41) rw_59_41 rfl (to_in (pc := 42) rw_59_42 rfl (s_v (pc := 43) rw_59_43 (by omega) (ls0 := [.ref q, .ref 1, .ref p, .int o, .null, .null, .null]) rfl (Nat.le_of_ble_eq_true rfl) (Nat.le_of_ble_eq_true rfl) rfl (to_rc rfl rfl rfl (g_o hG9 (by rcases hq with rfl | rfl <;> rfl))) rfl ?_))))
            have j_17 := (QI_f (tg_143 F8) g4)
            refine C_60 hX (by omega) hG9 hq hp (by omega) (by omega) j_17 hr (q := q) (p := p) (o := o) (fun r18 M24 hG20 F19 p_21 p_22 p_23 => ?_)
            have F25 := FR.c F13 F19 tg_150
            refine b_ine (pc := 46) rw_59_46 (A := r18.toInt) rfl (fun h26 => ?_) (fun h26 => ?_)
            · refine to_an (pc := 51) rw_59_51 rfl (to_c (pc := 52) rw_59_52 (x := (3 : Int32)) rfl rfl (to_c (pc := 53) rw_59_53 (x := (0 : Int32)) rfl rfl (to_c (pc := 54) rw_59_54 (x := (0 : Int32)) rfl rfl (s_v (pc := 55) rw_59_55 (by omega) (ls0 := [.ref q, .int (3 : Int32), .int (0 : Int32), .int (0 : Int32)]) rfl (Nat.le_of_ble_eq_true rfl) (Nat.le_of_ble_eq_true rfl) rfl (to_rc rfl rfl rfl (g_o hG20 (by rcases hq with rfl | rfl <;> rfl))) rfl ?_))))
              have k_27 : (3 : Int32).toInt = 3 := rfl
              have k_28 : (0 : Int32).toInt = 0 := rfl
              refine C_64 hX (by omega) hG20 hq (by omega) (by omega) (by omega) (by omega) (by omega) p_23 (q := q) (k := (3 : Int32)) (f := (0 : Int32)) (s := (0 : Int32)) (fun M32 hG30 F29 p_31 => ?_)
              have F33 := FR.c F25 F29 tg_148
              refine s_inc (pc := 58) rw_59_58 (ls2 := fun v => [.ref q, .ref 1, .ref p, .int o, .int v]) rfl rfl (fun _ => rfl) (A := x4.toInt) (B := 1) rfl rfl (by omega) (fun v34 e35 => to_go (pc := 61) rw_59_61 ?_)
              exact ih M32 v34 hG30 F33 (by omega) (by omega) (by omega) p_31 (by omega)
            · refine to_c (pc := 49) rw_59_49 (x := (0 : Int32)) rfl rfl (s_r1 (pc := 50) rw_59_50 (A := 0) rfl (by decide) ?_)
              have k_36 : (0 : Int32).toInt = 0 := rfl
              exact h (0 : Int32) M24 hG20 F25 (by decide) (by decide) p_23
set_option maxRecDepth 4000 in
set_option maxHeartbeats 0 in
theorem C_59 {X : mm_X} {d : Nat} {M : mm_M} {Q : Option Value → mm_M → Prop} {q : Nat} {p : Nat} {o : Int32} (hX : g_X X) (hd : 4 + 4 * (8 - o.toInt) ≤ (d : Int)) (hG : g_G M) (hq : q = 67 ∨ q = 72) (hp : p = 49 ∨ p = 58) (q1 : 0 ≤ o.toInt) (q2 : o.toInt ≤ 8) (q3 : QI M) (hr : RC_58 (8 - o.toInt)) (h : ∀ (r : Int32) (M1 : mm_M), g_G M1 → FR md_qt M M1 → (0 ≤ r.toInt) → (r.toInt ≤ 1) → QI M1 → Q (some (.int r)) M1) : mm_T X d 59 0 [.ref q, .ref 1, .ref p, .int o, .null] [] M Q := by
  have F0 : FR md_qt M M := FR.rf
  refine to_an (pc := 0) rw_59_0 rfl (to_an (pc := 1) rw_59_1 rfl (to_an (pc := 2) rw_59_2 rfl (to_in (pc := 3) rw_59_3 rfl (s_v (pc := 4) rw_59_4 (by omega) (ls0 := [.ref q, .ref 1, .ref p, .int o, .null, .null, .null]) rfl (Nat.le_of_ble_eq_true rfl) (Nat.le_of_ble_eq_true rfl) rfl (to_rc rfl rfl rfl (g_o hG (by rcases hq with rfl | rfl <;> rfl))) rfl (C_60 hX (by omega) hG hq hp (by omega) (by omega) q3 hr (q := q) (p := p) (o := o) (fun r37 M43 hG39 F38 p_40 p_41 p_42 => ?_))))))
  have F44 := FR.c F0 F38 tg_150
  refine b_ine (pc := 7) rw_59_7 (A := r37.toInt) rfl (fun h45 => ?_) (fun h45 => ?_)
  · refine to_c (pc := 12) rw_59_12 (x := (0 : Int32)) rfl rfl (to_is (pc := 13) rw_59_13 (ls2 := [.ref q, .ref 1, .ref p, .int o, .int (0 : Int32)]) rfl rfl ?_)
    have k_46 : (0 : Int32).toInt = 0 := rfl
    exact (T_59_0 (q := q) (p := p) (o := o) hX hd hq hp q1 q2 q3 hr h ((41 - (0 : Int32).toInt).toNat + 1)) M43 (0 : Int32) hG39 F44 (by omega) (by omega) (by omega) p_42 (by omega)
  · refine to_c (pc := 10) rw_59_10 (x := (0 : Int32)) rfl rfl (s_r1 (pc := 11) rw_59_11 (A := 0) rfl (by decide) ?_)
    have k_47 : (0 : Int32).toInt = 0 := rfl
    exact h (0 : Int32) M43 hG39 F44 (by decide) (by decide) p_42
set_option maxRecDepth 4000 in
set_option maxHeartbeats 0 in
theorem T_58_0 {X : mm_X} {d : Nat} {M : mm_M} {Q : Option Value → mm_M → Prop} {q : Nat} {p : Nat} {o : Int32} (hX : g_X X) (hd : 5 + 4 * (8 - o.toInt) ≤ (d : Int)) (hq : q = 67 ∨ q = 72) (hp : p = 49 ∨ p = 58) (q1 : 0 ≤ o.toInt) (q2 : o.toInt ≤ 8) (q3 : QI M) (hr : RC_58 (8 - o.toInt)) (h : ∀ (r : Int32) (M1 : mm_M), g_G M1 → FR md_qt M M1 → (0 ≤ r.toInt) → (r.toInt ≤ 1) → QI M1 → Q (some (.int r)) M1) : ∀ nn9 : Nat, (∀ (N : mm_M) (x4 : Int32), g_G N → FR md_qt M N → (0 ≤ x4.toInt) → (x4.toInt ≤ 41) → (o.toInt = o.toInt) → (QI N) → 41 - x4.toInt < (nn9 : Int) → mm_T X d 58 15 [.ref q, .ref 1, .ref p, .int o, .int x4] [] N Q) := by
  intro nn9
  induction nn9 with
  | zero =>
    intro N x4 hG F0 g1 g2 g3 g4 hm
    exfalso; omega
  | succ nn9 ih =>
    intro N x4 hG F0 g1 g2 g3 g4 hm
    refine to_i (pc := 15) rw_58_15 rfl (to_c (pc := 17) rw_58_17 (x := (40 : Int32)) rfl rfl (b_cgt (pc := 19) rw_58_19 (A := x4.toInt) (B := 40) rfl rfl (fun h1 => ?_) (fun h1 => ?_)))
    · refine to_c (pc := 64) rw_58_64 (x := (1 : Int32)) rfl rfl (s_r1 (pc := 65) rw_58_65 (A := 1) rfl (by decide) ?_)
      have k_2 : (1 : Int32).toInt = 1 := rfl
      exact h (1 : Int32) N hG F0 (by decide) (by decide) g4
    · refine to_an (pc := 22) rw_58_22 rfl (to_c (pc := 23) rw_58_23 (x := (522190848 : Int32)) rfl rfl (s_v (pc := 25) rw_58_25 (by omega) (ls0 := [.ref 1, .int (522190848 : Int32)]) rfl (Nat.le_of_ble_eq_true rfl) (Nat.le_of_ble_eq_true rfl) rfl (to_rc rfl rfl rfl (g_o hG rfl)) rfl (to_an (pc := 0) rw_86_0 rfl (tt_gI (pc := 1) rw_86_1 (g_o hG rfl) (v := (N.2.1 1 7)) rfl (to_c (pc := 4) rw_86_4 (x := (4 : Int32)) rfl rfl (b_cne (pc := 5) rw_86_5 (A := (N.2.1 1 7).toInt) (B := 4) rfl rfl (fun h3 => ?_) (fun h3 => ?_)))))))
      · refine to_c (pc := 20) rw_86_20 (x := (0 : Int32)) rfl rfl (s_r1 (pc := 21) rw_86_21 (A := 0) rfl (by decide) (b_ieq_t (pc := 28) rw_58_28 (A := 0) rfl (by decide) (to_c (pc := 64) rw_58_64 (x := (1 : Int32)) rfl rfl (s_r1 (pc := 65) rw_58_65 (A := 1) rfl (by decide) ?_))))
        have k_4 : (1 : Int32).toInt = 1 := rfl
        exact h (1 : Int32) N hG F0 (by decide) (by decide) g4
      · refine to_an (pc := 8) rw_86_8 rfl (tt_gI (pc := 9) rw_86_9 (g_o hG rfl) (v := (N.2.1 1 8)) rfl (to_in (pc := 12) rw_86_12 rfl (b_cne (pc := 13) rw_86_13 (A := (N.2.1 1 8).toInt) (B := 522190848) rfl rfl (fun h5 => ?_) (fun h5 => ?_))))
        · refine to_c (pc := 20) rw_86_20 (x := (0 : Int32)) rfl rfl (s_r1 (pc := 21) rw_86_21 (A := 0) rfl (by decide) (b_ieq_t (pc := 28) rw_58_28 (A := 0) rfl (by decide) (to_c (pc := 64) rw_58_64 (x := (1 : Int32)) rfl rfl (s_r1 (pc := 65) rw_58_65 (A := 1) rfl (by decide) ?_))))
          have k_6 : (1 : Int32).toInt = 1 := rfl
          exact h (1 : Int32) N hG F0 (by decide) (by decide) g4
        · refine to_c (pc := 16) rw_86_16 (x := (1 : Int32)) rfl rfl (to_go (pc := 17) rw_86_17 (s_r1 (pc := 21) rw_86_21 (A := 1) rfl (by decide) (b_ieq_f (pc := 28) rw_58_28 (A := 1) rfl (by decide) (to_an (pc := 31) rw_58_31 rfl (to_an (pc := 32) rw_58_32 rfl (s_v (pc := 33) rw_58_33 (by omega) (ls0 := [.ref q, .ref 1]) rfl (Nat.le_of_ble_eq_true rfl) (Nat.le_of_ble_eq_true rfl) rfl (to_rc rfl rfl rfl (g_o hG (by rcases hq with rfl | rfl <;> rfl))) rfl (C_63 hX (by omega) hG hq (q := q) (fun r7 M12 hG9 F8 p_10 p_11 => ?_))))))))
          have F13 := FR.c F0 F8 tg_146
          refine b_ieq (pc := 36) rw_58_36 (A := r7.toInt) rfl (fun h14 => ?_) (fun h14 => ?_)
          · refine to_c (pc := 49) rw_58_49 (x := (0 : Int32)) rfl rfl (s_r1 (pc := 50) rw_58_50 (A := 0) rfl (by decide) ?_)
            have k_15 : (0 : Int32).toInt = 0 := rfl
            have j_16 := (QI_f (tg_143 F8) g4)
            exact h (0 : Int32) M12 hG9 F13 (by decide) (by decide) j_16
          · refine to_an (pc := 39) rw_58_39 rfl (to_an (pc := 40) rw_58_40 rfl (to_an (pc := 41) rw_58_41 rfl (to_in (pc := 42) rw_58_42 rfl (s_v (pc := 43) rw_58_43 (by omega) (ls0 := [.ref q, .ref 1, .ref p, .int o, .null]) rfl (Nat.le_of_ble_eq_true rfl) (Nat.le_of_ble_eq_true rfl) rfl (to_rc rfl rfl rfl (g_o hG9 (by rcases hq with rfl | rfl <;> rfl))) rfl ?_))))
            have j_17 := (QI_f (tg_143 F8) g4)
            refine C_59 hX (by omega) hG9 hq hp (by omega) (by omega) j_17 hr (q := q) (p := p) (o := o) (fun r18 M24 hG20 F19 p_21 p_22 p_23 => ?_)
            have F25 := FR.c F13 F19 tg_150
            refine b_ine (pc := 46) rw_58_46 (A := r18.toInt) rfl (fun h26 => ?_) (fun h26 => ?_)
            · refine to_an (pc := 51) rw_58_51 rfl (to_c (pc := 52) rw_58_52 (x := (4 : Int32)) rfl rfl (to_c (pc := 53) rw_58_53 (x := (0 : Int32)) rfl rfl (to_c (pc := 54) rw_58_54 (x := (0 : Int32)) rfl rfl (s_v (pc := 55) rw_58_55 (by omega) (ls0 := [.ref q, .int (4 : Int32), .int (0 : Int32), .int (0 : Int32)]) rfl (Nat.le_of_ble_eq_true rfl) (Nat.le_of_ble_eq_true rfl) rfl (to_rc rfl rfl rfl (g_o hG20 (by rcases hq with rfl | rfl <;> rfl))) rfl ?_))))
              have k_27 : (4 : Int32).toInt = 4 := rfl
              have k_28 : (0 : Int32).toInt = 0 := rfl
              refine C_64 hX (by omega) hG20 hq (by omega) (by omega) (by omega) (by omega) (by omega) p_23 (q := q) (k := (4 : Int32)) (f := (0 : Int32)) (s := (0 : Int32)) (fun M32 hG30 F29 p_31 => ?_)
              have F33 := FR.c F25 F29 tg_148
              refine s_inc (pc := 58) rw_58_58 (ls2 := fun v => [.ref q, .ref 1, .ref p, .int o, .int v]) rfl rfl (fun _ => rfl) (A := x4.toInt) (B := 1) rfl rfl (by omega) (fun v34 e35 => to_go (pc := 61) rw_58_61 ?_)
              exact ih M32 v34 hG30 F33 (by omega) (by omega) (by omega) p_31 (by omega)
            · refine to_c (pc := 49) rw_58_49 (x := (0 : Int32)) rfl rfl (s_r1 (pc := 50) rw_58_50 (A := 0) rfl (by decide) ?_)
              have k_36 : (0 : Int32).toInt = 0 := rfl
              exact h (0 : Int32) M24 hG20 F25 (by decide) (by decide) p_23
set_option maxRecDepth 4000 in
set_option maxHeartbeats 0 in
theorem B_58 {X : mm_X} {d : Nat} {M : mm_M} {Q : Option Value → mm_M → Prop} {q : Nat} {p : Nat} {o : Int32} (hX : g_X X) (hd : 5 + 4 * (8 - o.toInt) ≤ (d : Int)) (hG : g_G M) (hq : q = 67 ∨ q = 72) (hp : p = 49 ∨ p = 58) (q1 : 0 ≤ o.toInt) (q2 : o.toInt ≤ 8) (q3 : QI M) (hr : RC_58 (8 - o.toInt)) (h : ∀ (r : Int32) (M1 : mm_M), g_G M1 → FR md_qt M M1 → (0 ≤ r.toInt) → (r.toInt ≤ 1) → QI M1 → Q (some (.int r)) M1) : mm_T X d 58 0 [.ref q, .ref 1, .ref p, .int o, .null] [] M Q := by
  have F0 : FR md_qt M M := FR.rf
  refine to_an (pc := 0) rw_58_0 rfl (to_an (pc := 1) rw_58_1 rfl (to_an (pc := 2) rw_58_2 rfl (to_in (pc := 3) rw_58_3 rfl (s_v (pc := 4) rw_58_4 (by omega) (ls0 := [.ref q, .ref 1, .ref p, .int o, .null]) rfl (Nat.le_of_ble_eq_true rfl) (Nat.le_of_ble_eq_true rfl) rfl (to_rc rfl rfl rfl (g_o hG (by rcases hq with rfl | rfl <;> rfl))) rfl (C_59 hX (by omega) hG hq hp (by omega) (by omega) q3 hr (q := q) (p := p) (o := o) (fun r37 M43 hG39 F38 p_40 p_41 p_42 => ?_))))))
  have F44 := FR.c F0 F38 tg_150
  refine b_ine (pc := 7) rw_58_7 (A := r37.toInt) rfl (fun h45 => ?_) (fun h45 => ?_)
  · refine to_c (pc := 12) rw_58_12 (x := (0 : Int32)) rfl rfl (to_is (pc := 13) rw_58_13 (ls2 := [.ref q, .ref 1, .ref p, .int o, .int (0 : Int32)]) rfl rfl ?_)
    have k_46 : (0 : Int32).toInt = 0 := rfl
    exact (T_58_0 (q := q) (p := p) (o := o) hX hd hq hp q1 q2 q3 hr h ((41 - (0 : Int32).toInt).toNat + 1)) M43 (0 : Int32) hG39 F44 (by omega) (by omega) (by omega) p_42 (by omega)
  · refine to_c (pc := 10) rw_58_10 (x := (0 : Int32)) rfl rfl (s_r1 (pc := 11) rw_58_11 (A := 0) rfl (by decide) ?_)
    have k_47 : (0 : Int32).toInt = 0 := rfl
    exact h (0 : Int32) M43 hG39 F44 (by decide) (by decide) p_42
theorem RC_58_all : ∀ nn : Nat, RC_58 (nn : Int) := by
  intro nn
  induction nn with
  | zero =>
    intro X d M Q q p o hX hd hG hq hp q1 q2 q3 hm h
    exfalso; omega
  | succ nn ih =>
    intro X d M Q q p o hX hd hG hq hp q1 q2 q3 hm h
    exact B_58 hX hd hG hq hp q1 q2 q3 (fun X2 d2 M2 Q2 q2 p2 o2 e71 e72 e73 hq2 hp2 q12 q22 q32 hm2 h2 => ih X2 d2 M2 Q2 q2 p2 o2 e71 e72 e73 hq2 hp2 q12 q22 q32 (by omega) h2) h
theorem C_58 {X : mm_X} {d : Nat} {M : mm_M} {Q : Option Value → mm_M → Prop} {q : Nat} {p : Nat} {o : Int32} (hX : g_X X) (hd : 5 + 4 * (8 - o.toInt) ≤ (d : Int)) (hG : g_G M) (hq : q = 67 ∨ q = 72) (hp : p = 49 ∨ p = 58) (q1 : 0 ≤ o.toInt) (q2 : o.toInt ≤ 8) (q3 : QI M) (h : ∀ (r : Int32) (M1 : mm_M), g_G M1 → FR md_qt M M1 → (0 ≤ r.toInt) → (r.toInt ≤ 1) → QI M1 → Q (some (.int r)) M1) : mm_T X d 58 0 [.ref q, .ref 1, .ref p, .int o, .null] [] M Q := RC_58_all ((8 - o.toInt).toNat + 1) X d M Q q p o hX hd hG hq hp q1 q2 q3 (by omega) h
set_option maxRecDepth 4000 in
set_option maxHeartbeats 0 in
theorem C_57 {X : mm_X} {d : Nat} {M : mm_M} {Q : Option Value → mm_M → Prop} {q : Nat} {p : Nat} (hX : g_X X) (hd : 38 ≤ d) (hG : g_G M) (hq : q = 67 ∨ q = 72) (hp : p = 49 ∨ p = 58) (q1 : QI M) (h : ∀ (r : Int32) (M1 : mm_M), g_G M1 → FR md_qt M M1 → (0 ≤ r.toInt) → (r.toInt ≤ 1) → QI M1 → Q (some (.int r)) M1) : mm_T X d 57 0 [.ref q, .ref 1, .ref p] [] M Q := by
  have F0 : FR md_qt M M := FR.rf
  refine to_an (pc := 0) rw_57_0 rfl (s_v (pc := 1) rw_57_1 (dp0 hd (by decide)) (ls0 := [.ref q]) rfl (Nat.le_of_ble_eq_true rfl) (Nat.le_of_ble_eq_true rfl) rfl (to_rc rfl rfl rfl (g_o hG (by rcases hq with rfl | rfl <;> rfl))) rfl (to_an (pc := 0) rw_56_0 rfl (to_c (pc := 1) rw_56_1 (x := (0 : Int32)) rfl rfl (s_pI (pc := 2) rw_56_2 hG (by rcases hq with rfl | rfl <;> rfl) (fun M2 W1 => ?_)))))
  have hG3 := g_w hG W1 (A := 0) rfl (lo := 0) (hi := 40) (by rcases hq with rfl | rfl <;> rfl) (by rcases hq with rfl | rfl <;> rfl) (by omega) (by omega)
  have F4 := FR.w F0 W1 (show q = 1 ∧ 5 ≤ 4 ∨ 3 ≤ q ∧ q ≤ 5 ∨ 67 ≤ q ∧ q ≤ 76 by omega)
  refine to_an (pc := 5) rw_56_5 rfl (to_c (pc := 6) rw_56_6 (x := (0 : Int32)) rfl rfl (s_pI (pc := 7) rw_56_7 hG3 (by rcases hq with rfl | rfl <;> rfl) (fun M6 W5 => ?_)))
  have hG7 := g_w hG3 W5 (A := 0) rfl (lo := 0) (hi := 40) (by rcases hq with rfl | rfl <;> rfl) (by rcases hq with rfl | rfl <;> rfl) (by omega) (by omega)
  have F8 := FR.w F4 W5 (show q = 1 ∧ 5 ≤ 5 ∨ 3 ≤ q ∧ q ≤ 5 ∨ 67 ≤ q ∧ q ≤ 76 by omega)
  refine to_rv (pc := 10) rw_56_10 (to_an (pc := 4) rw_57_4 rfl (to_an (pc := 5) rw_57_5 rfl (to_an (pc := 6) rw_57_6 rfl (to_c (pc := 7) rw_57_7 (x := (0 : Int32)) rfl rfl (s_v (pc := 8) rw_57_8 (dp0 hd (by decide)) (ls0 := [.ref q, .ref 1, .ref p, .int (0 : Int32), .null]) rfl (Nat.le_of_ble_eq_true rfl) (Nat.le_of_ble_eq_true rfl) rfl (to_rc rfl rfl rfl (g_o hG7 (by rcases hq with rfl | rfl <;> rfl))) rfl ?_)))))
  have k_9 : (0 : Int32).toInt = 0 := rfl
  have j_10 := (QI_f (fun a i z => W_n W5 (by omega) rfl) (QI_f (fun a i z => W_n W1 (by omega) rfl) q1))
  refine C_58 hX (by omega) hG7 hq hp (by omega) (by omega) j_10 (q := q) (p := p) (o := (0 : Int32)) (fun r11 M17 hG13 F12 p_14 p_15 p_16 => ?_)
  have F18 := FR.c F8 F12 tg_150
  refine b_ieq (pc := 11) rw_57_11 (A := r11.toInt) rfl (fun h19 => ?_) (fun h19 => ?_)
  · refine to_c (pc := 25) rw_57_25 (x := (0 : Int32)) rfl rfl (s_r1 (pc := 26) rw_57_26 (A := 0) rfl (by decide) ?_)
    exact h (0 : Int32) M17 hG13 F18 (by decide) (by decide) p_16
  · refine to_an (pc := 14) rw_57_14 rfl (s_v (pc := 15) rw_57_15 (dp0 hd (by decide)) (ls0 := [.ref 1]) rfl (Nat.le_of_ble_eq_true rfl) (Nat.le_of_ble_eq_true rfl) rfl (to_rc rfl rfl rfl (g_o hG13 rfl)) rfl (to_an (pc := 0) rw_87_0 rfl (tt_gI (pc := 1) rw_87_1 (g_o hG13 rfl) (v := (M17.2.1 1 7)) rfl (b_ieq (pc := 4) rw_87_4 (A := (M17.2.1 1 7).toInt) rfl (fun h20 => ?_) (fun h20 => ?_)))))
    · refine to_c (pc := 15) rw_87_15 (x := (1 : Int32)) rfl rfl (to_go (pc := 16) rw_87_16 (s_r1 (pc := 20) rw_87_20 (A := 1) rfl (by decide) (b_ieq_f (pc := 18) rw_57_18 (A := 1) rfl (by decide) (to_c (pc := 21) rw_57_21 (x := (1 : Int32)) rfl rfl (to_go (pc := 22) rw_57_22 (s_r1 (pc := 26) rw_57_26 (A := 1) rfl (by decide) ?_))))))
      have k_21 : (1 : Int32).toInt = 1 := rfl
      exact h (1 : Int32) M17 hG13 F18 (by decide) (by decide) p_16
    · refine to_an (pc := 7) rw_87_7 rfl (to_c (pc := 8) rw_87_8 (x := (1 : Int32)) rfl rfl (s_v (pc := 9) rw_87_9 (dp1 hd (by decide)) (ls0 := [.ref 1, .int (1 : Int32)]) rfl (Nat.le_of_ble_eq_true rfl) (Nat.le_of_ble_eq_true rfl) rfl (to_rc rfl rfl rfl (g_o hG13 rfl)) rfl (to_an (pc := 0) rw_84_0 rfl (to_in (pc := 1) rw_84_1 rfl (s_pI (pc := 2) rw_84_2 hG13 rfl (fun M23 W22 => ?_))))))
      have hG24 := g_wf hG13 W22 rfl rfl (by decide)
      have F25 := FR.w F18 W22 (show 1 = 1 ∧ 5 ≤ 10 ∨ 3 ≤ 1 ∧ 1 ≤ 5 ∨ 67 ≤ 1 ∧ 1 ≤ 76 by decide)
      refine to_an (pc := 5) rw_84_5 rfl (to_an (pc := 6) rw_84_6 rfl ?_)
      have c_26 : M23.2.1 1 9 = (M17.2.1 1 9) := (W_n W22 (by decide) rfl)
      refine tt_gI (pc := 7) rw_84_7 (g_o hG24 rfl) (v := (M17.2.1 1 9)) c_26 (s_pI (pc := 10) rw_84_10 hG24 rfl (fun M28 W27 => ?_))
      have hG29 := g_wf hG24 W27 rfl rfl (by decide)
      have F30 := FR.w F25 W27 (show 1 = 1 ∧ 5 ≤ 11 ∨ 3 ≤ 1 ∧ 1 ≤ 5 ∨ 67 ≤ 1 ∧ 1 ≤ 76 by decide)
      refine to_c (pc := 13) rw_84_13 (x := (0 : Int32)) rfl rfl (s_r1 (pc := 14) rw_84_14 (A := 0) rfl (by decide) (b_ieq_t (pc := 12) rw_87_12 (A := 0) rfl (by decide) (to_c (pc := 19) rw_87_19 (x := (0 : Int32)) rfl rfl (s_r1 (pc := 20) rw_87_20 (A := 0) rfl (by decide) (b_ieq_t (pc := 18) rw_57_18 (A := 0) rfl (by decide) (to_c (pc := 25) rw_57_25 (x := (0 : Int32)) rfl rfl (s_r1 (pc := 26) rw_57_26 (A := 0) rfl (by decide) ?_)))))))
      have j_31 := (QI_f (fun a i z => W_n W27 (tg_151 a i z) rfl) (QI_f (fun a i z => W_n W22 (tg_152 a i z) rfl) p_16))
      exact h (0 : Int32) M28 hG29 F30 (by decide) (by decide) j_31
