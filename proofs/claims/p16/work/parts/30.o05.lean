theorem tg_133 : ∀ a i : Nat, (a = 1 ∧ 5 ≤ i ∨ 3 ≤ a ∧ a ≤ 5) → (a = 1 ∧ 5 ≤ i ∨ 3 ≤ a ∧ a ≤ 5 ∨ 29 ≤ a ∧ a ≤ 35) := fun a i z => by omega
theorem tg_134 : ∀ a i : Nat, (a = 1 ∧ 5 ≤ i ∨ 3 ≤ a ∧ a ≤ 5) → (a = 1 ∧ 5 ≤ i ∨ 3 ≤ a ∧ a ≤ 5 ∨ a = 33) := fun a i z => by omega
theorem tg_135 : ∀ a i : Nat, (a < 0) → (a = 1 ∧ 5 ≤ i ∨ 3 ≤ a ∧ a ≤ 5 ∨ a = 33) := fun a i z => by omega
theorem tg_136 : ∀ a i : Nat, (a = 1 ∧ 5 ≤ i ∨ 3 ≤ a ∧ a ≤ 5 ∨ a = 33) → (a = 1 ∧ 5 ≤ i ∨ 3 ≤ a ∧ a ≤ 5 ∨ 29 ≤ a ∧ a ≤ 35) := fun a i z => by omega
theorem tg_137 : ∀ a i : Nat, (a = 1 ∧ 5 ≤ i ∨ 3 ≤ a ∧ a ≤ 5 ∨ 29 ≤ a ∧ a ≤ 35) → (a = 1 ∧ 5 ≤ i ∨ 3 ≤ a ∧ a ≤ 5 ∨ 29 ≤ a ∧ a ≤ 35) := fun a i z => by omega
theorem tg_138 : ∀ a i : Nat, (a = 1 ∧ 5 ≤ i ∨ 3 ≤ a ∧ a ≤ 5) → (a = 1 ∧ 5 ≤ i ∨ 3 ≤ a ∧ a ≤ 5 ∨ 28 ≤ a ∧ a ≤ 35) := fun a i z => by omega
theorem tg_139 : ∀ a i : Nat, (a = 1 ∧ 5 ≤ i ∨ 3 ≤ a ∧ a ≤ 5 ∨ 28 ≤ a ∧ a ≤ 35) → (a = 1 ∧ 5 ≤ i ∨ 3 ≤ a ∧ a ≤ 5 ∨ 28 ≤ a ∧ a ≤ 35) := fun a i z => by omega
theorem tg_140 : ∀ a i : Nat, (a = 1 ∧ 5 ≤ i ∨ 3 ≤ a ∧ a ≤ 5 ∨ 29 ≤ a ∧ a ≤ 35) → (a = 1 ∧ 5 ≤ i ∨ 3 ≤ a ∧ a ≤ 5 ∨ 28 ≤ a ∧ a ≤ 35) := fun a i z => by omega
theorem tg_141 : ∀ a i : Nat, (18 ≤ a ∧ a ≤ 35) → (18 ≤ a ∧ a ≤ 35) := fun a i z => by omega
theorem tg_142 : ∀ a i : Nat, (18 ≤ a ∧ a ≤ 27) → (18 ≤ a ∧ a ≤ 35) := fun a i z => by omega
set_option maxRecDepth 4000 in
set_option maxHeartbeats 0 in
theorem C_102 {X : mm_X} {d : Nat} {M : mm_M} {Q : Option Value → mm_M → Prop} {w : Nat} {s : Int32} (hX : g_X X) (hd : 1 ≤ d) (hG : g_G M) (hw : w = 30 ∨ w = 31 ∨ w = 32) (q1 : 0 ≤ s.toInt) (q2 : s.toInt ≤ 39) (h : ∀ (r : Int32) (M1 : mm_M), g_G M1 → FR md_wr M M1 → (0 ≤ r.toInt) → (r.toInt ≤ 1) → Q (some (.int r)) M1) : mm_T X d 102 0 [.ref 28, .ref 1, .ref w, .int s, .null] [] M Q := by
  have F0 : FR md_wr M M := FR.rf
  refine to_an (pc := 0) rw_102_0 rfl (tt_gI (pc := 1) rw_102_1 (g_o hG rfl) (v := (M.2.1 1 7)) rfl (to_c (pc := 4) rw_102_4 (x := (3 : Int32)) rfl rfl (b_cne (pc := 5) rw_102_5 (A := (M.2.1 1 7).toInt) (B := 3) rfl rfl (fun h1 => ?_) (fun h1 => ?_))))
  · refine to_c (pc := 18) rw_102_18 (x := (0 : Int32)) rfl rfl (to_is (pc := 19) rw_102_19 (ls2 := [.ref 28, .ref 1, .ref w, .int s, .int (0 : Int32)]) rfl rfl (to_i (pc := 21) rw_102_21 rfl (to_c (pc := 23) rw_102_23 (x := (1 : Int32)) rfl rfl (b_clt_t (pc := 24) rw_102_24 (A := 0) (B := 1) rfl rfl (by decide) (to_an (pc := 46) rw_102_46 rfl (to_c (pc := 47) rw_102_47 (x := (1 : Int32)) rfl rfl (s_v (pc := 48) rw_102_48 (dp0 hd (by decide)) (ls0 := [.ref 1, .int (1 : Int32)]) rfl (Nat.le_of_ble_eq_true rfl) (Nat.le_of_ble_eq_true rfl) rfl (to_rc rfl rfl rfl (g_o hG rfl)) rfl (to_an (pc := 0) rw_84_0 rfl (to_in (pc := 1) rw_84_1 rfl (s_pI (pc := 2) rw_84_2 hG rfl (fun M3 W2 => ?_)))))))))))
    have hG4 := g_wf hG W2 rfl rfl (by decide)
    have F5 := FR.w F0 W2 (show 1 = 1 ∧ 5 ≤ 10 ∨ 3 ≤ 1 ∧ 1 ≤ 5 ∨ 29 ≤ 1 ∧ 1 ≤ 35 by decide)
    refine to_an (pc := 5) rw_84_5 rfl (to_an (pc := 6) rw_84_6 rfl ?_)
    have c_6 : M3.2.1 1 9 = (M.2.1 1 9) := (W_n W2 (by decide) rfl)
    refine tt_gI (pc := 7) rw_84_7 (g_o hG4 rfl) (v := (M.2.1 1 9)) c_6 (s_pI (pc := 10) rw_84_10 hG4 rfl (fun M8 W7 => ?_))
    have hG9 := g_wf hG4 W7 rfl rfl (by decide)
    have F10 := FR.w F5 W7 (show 1 = 1 ∧ 5 ≤ 11 ∨ 3 ≤ 1 ∧ 1 ≤ 5 ∨ 29 ≤ 1 ∧ 1 ≤ 35 by decide)
    refine to_c (pc := 13) rw_84_13 (x := (0 : Int32)) rfl rfl (s_r1 (pc := 14) rw_84_14 (A := 0) rfl (by decide) (s_r1 (pc := 51) rw_102_51 (A := 0) rfl (by decide) ?_))
    have k_11 : (0 : Int32).toInt = 0 := rfl
    exact h (0 : Int32) M8 hG9 F10 (by decide) (by decide)
  · refine to_an (pc := 8) rw_102_8 rfl (tt_gI (pc := 9) rw_102_9 (g_o hG rfl) (v := (M.2.1 1 8)) rfl (to_c (pc := 12) rw_102_12 (x := (25 : Int32)) rfl rfl (s_any (pc := 14) rw_102_14 (fun _ _ => rfl) (fun v12 => to_go (pc := 15) rw_102_15 (to_is (pc := 19) rw_102_19 (ls2 := [.ref 28, .ref 1, .ref w, .int s, .int v12]) rfl rfl (to_i (pc := 21) rw_102_21 rfl (to_c (pc := 23) rw_102_23 (x := (1 : Int32)) rfl rfl (b_clt (pc := 24) rw_102_24 (A := v12.toInt) (B := 1) rfl rfl (fun h13 => ?_) (fun h13 => ?_)))))))))
    · refine to_an (pc := 46) rw_102_46 rfl (to_c (pc := 47) rw_102_47 (x := (1 : Int32)) rfl rfl (s_v (pc := 48) rw_102_48 (dp0 hd (by decide)) (ls0 := [.ref 1, .int (1 : Int32)]) rfl (Nat.le_of_ble_eq_true rfl) (Nat.le_of_ble_eq_true rfl) rfl (to_rc rfl rfl rfl (g_o hG rfl)) rfl (to_an (pc := 0) rw_84_0 rfl (to_in (pc := 1) rw_84_1 rfl (s_pI (pc := 2) rw_84_2 hG rfl (fun M15 W14 => ?_))))))
      have hG16 := g_wf hG W14 rfl rfl (by decide)
      have F17 := FR.w F0 W14 (show 1 = 1 ∧ 5 ≤ 10 ∨ 3 ≤ 1 ∧ 1 ≤ 5 ∨ 29 ≤ 1 ∧ 1 ≤ 35 by decide)
      refine to_an (pc := 5) rw_84_5 rfl (to_an (pc := 6) rw_84_6 rfl ?_)
      have c_18 : M15.2.1 1 9 = (M.2.1 1 9) := (W_n W14 (by decide) rfl)
      refine tt_gI (pc := 7) rw_84_7 (g_o hG16 rfl) (v := (M.2.1 1 9)) c_18 (s_pI (pc := 10) rw_84_10 hG16 rfl (fun M20 W19 => ?_))
      have hG21 := g_wf hG16 W19 rfl rfl (by decide)
      have F22 := FR.w F17 W19 (show 1 = 1 ∧ 5 ≤ 11 ∨ 3 ≤ 1 ∧ 1 ≤ 5 ∨ 29 ≤ 1 ∧ 1 ≤ 35 by decide)
      refine to_c (pc := 13) rw_84_13 (x := (0 : Int32)) rfl rfl (s_r1 (pc := 14) rw_84_14 (A := 0) rfl (by decide) (s_r1 (pc := 51) rw_102_51 (A := 0) rfl (by decide) ?_))
      have k_23 : (0 : Int32).toInt = 0 := rfl
      exact h (0 : Int32) M20 hG21 F22 (by decide) (by decide)
    · refine to_i (pc := 27) rw_102_27 rfl (to_c (pc := 29) rw_102_29 (x := (6 : Int32)) rfl rfl (b_cgt (pc := 31) rw_102_31 (A := v12.toInt) (B := 6) rfl rfl (fun h24 => ?_) (fun h24 => ?_)))
      · refine to_an (pc := 46) rw_102_46 rfl (to_c (pc := 47) rw_102_47 (x := (1 : Int32)) rfl rfl (s_v (pc := 48) rw_102_48 (dp0 hd (by decide)) (ls0 := [.ref 1, .int (1 : Int32)]) rfl (Nat.le_of_ble_eq_true rfl) (Nat.le_of_ble_eq_true rfl) rfl (to_rc rfl rfl rfl (g_o hG rfl)) rfl (to_an (pc := 0) rw_84_0 rfl (to_in (pc := 1) rw_84_1 rfl (s_pI (pc := 2) rw_84_2 hG rfl (fun M26 W25 => ?_))))))
        have hG27 := g_wf hG W25 rfl rfl (by decide)
        have F28 := FR.w F0 W25 (show 1 = 1 ∧ 5 ≤ 10 ∨ 3 ≤ 1 ∧ 1 ≤ 5 ∨ 29 ≤ 1 ∧ 1 ≤ 35 by decide)
        refine to_an (pc := 5) rw_84_5 rfl (to_an (pc := 6) rw_84_6 rfl ?_)
        have c_29 : M26.2.1 1 9 = (M.2.1 1 9) := (W_n W25 (by decide) rfl)
        refine tt_gI (pc := 7) rw_84_7 (g_o hG27 rfl) (v := (M.2.1 1 9)) c_29 (s_pI (pc := 10) rw_84_10 hG27 rfl (fun M31 W30 => ?_))
        have hG32 := g_wf hG27 W30 rfl rfl (by decide)
        have F33 := FR.w F28 W30 (show 1 = 1 ∧ 5 ≤ 11 ∨ 3 ≤ 1 ∧ 1 ≤ 5 ∨ 29 ≤ 1 ∧ 1 ≤ 35 by decide)
        refine to_c (pc := 13) rw_84_13 (x := (0 : Int32)) rfl rfl (s_r1 (pc := 14) rw_84_14 (A := 0) rfl (by decide) (s_r1 (pc := 51) rw_102_51 (A := 0) rfl (by decide) ?_))
        have k_34 : (0 : Int32).toInt = 0 := rfl
        exact h (0 : Int32) M31 hG32 F33 (by decide) (by decide)
      · refine to_an (pc := 34) rw_102_34 rfl (tt_gI (pc := 35) rw_102_35 (g_o hG rfl) (v := (M.2.1 1 8)) rfl (to_i (pc := 38) rw_102_38 rfl (to_c (pc := 40) rw_102_40 (x := (25 : Int32)) rfl rfl (s_any (pc := 42) rw_102_42 (fun _ _ => rfl) (fun v35 => b_ceq (pc := 43) rw_102_43 (A := (M.2.1 1 8).toInt) (B := v35.toInt) rfl rfl (fun h36 => ?_) (fun h36 => ?_))))))
        · refine to_an (pc := 52) rw_102_52 rfl (to_in (pc := 53) rw_102_53 rfl (to_i (pc := 54) rw_102_54 rfl (to_c (pc := 56) rw_102_56 (x := (1 : Int32)) rfl rfl (s_sub (pc := 57) rw_102_57 (A := v12.toInt) (B := 1) rfl rfl (by omega) (fun v37 e38 => s_ias (pc := 58) rw_102_58 hG (by rcases hw with rfl | rfl | rfl <;> rfl) (n := 40) (by rcases hw with rfl | rfl | rfl <;> rfl) (A := s.toInt) rfl (by omega) (by omega) (fun M40 W39 => ?_))))))
          have hG41 := g_w hG W39 (A := v37.toInt) rfl (lo := 0) (hi := 5) (by rcases hw with rfl | rfl | rfl <;> rfl) (by rcases hw with rfl | rfl | rfl <;> rfl) (by omega) (by omega)
          have F42 := FR.w F0 W39 (show w = 1 ∧ 5 ≤ (s.toInt).toNat ∨ 3 ≤ w ∧ w ≤ 5 ∨ 29 ≤ w ∧ w ≤ 35 by omega)
          refine to_an (pc := 59) rw_102_59 rfl (s_v (pc := 60) rw_102_60 (dp0 hd (by decide)) (ls0 := [.ref 1]) rfl (Nat.le_of_ble_eq_true rfl) (Nat.le_of_ble_eq_true rfl) rfl (to_rc rfl rfl rfl (g_o hG41 rfl)) rfl (C_83 hX (dp1 hd (by decide)) hG41  (fun M45 hG44 F43 => ?_)))
          have F46 := FR.c F42 F43 tg_133
          refine to_c (pc := 63) rw_102_63 (x := (1 : Int32)) rfl rfl (s_r1 (pc := 64) rw_102_64 (A := 1) rfl (by decide) ?_)
          have k_47 : (1 : Int32).toInt = 1 := rfl
          exact h (1 : Int32) M45 hG44 F46 (by decide) (by decide)
        · refine to_an (pc := 46) rw_102_46 rfl (to_c (pc := 47) rw_102_47 (x := (1 : Int32)) rfl rfl (s_v (pc := 48) rw_102_48 (dp0 hd (by decide)) (ls0 := [.ref 1, .int (1 : Int32)]) rfl (Nat.le_of_ble_eq_true rfl) (Nat.le_of_ble_eq_true rfl) rfl (to_rc rfl rfl rfl (g_o hG rfl)) rfl (to_an (pc := 0) rw_84_0 rfl (to_in (pc := 1) rw_84_1 rfl (s_pI (pc := 2) rw_84_2 hG rfl (fun M49 W48 => ?_))))))
          have hG50 := g_wf hG W48 rfl rfl (by decide)
          have F51 := FR.w F0 W48 (show 1 = 1 ∧ 5 ≤ 10 ∨ 3 ≤ 1 ∧ 1 ≤ 5 ∨ 29 ≤ 1 ∧ 1 ≤ 35 by decide)
          refine to_an (pc := 5) rw_84_5 rfl (to_an (pc := 6) rw_84_6 rfl ?_)
          have c_52 : M49.2.1 1 9 = (M.2.1 1 9) := (W_n W48 (by decide) rfl)
          refine tt_gI (pc := 7) rw_84_7 (g_o hG50 rfl) (v := (M.2.1 1 9)) c_52 (s_pI (pc := 10) rw_84_10 hG50 rfl (fun M54 W53 => ?_))
          have hG55 := g_wf hG50 W53 rfl rfl (by decide)
          have F56 := FR.w F51 W53 (show 1 = 1 ∧ 5 ≤ 11 ∨ 3 ≤ 1 ∧ 1 ≤ 5 ∨ 29 ≤ 1 ∧ 1 ≤ 35 by decide)
          refine to_c (pc := 13) rw_84_13 (x := (0 : Int32)) rfl rfl (s_r1 (pc := 14) rw_84_14 (A := 0) rfl (by decide) (s_r1 (pc := 51) rw_102_51 (A := 0) rfl (by decide) ?_))
          have k_57 : (0 : Int32).toInt = 0 := rfl
          exact h (0 : Int32) M54 hG55 F56 (by decide) (by decide)
set_option maxRecDepth 4000 in
set_option maxHeartbeats 0 in
theorem C_103 {X : mm_X} {d : Nat} {M : mm_M} {Q : Option Value → mm_M → Prop} {p : Nat} {s : Int32} (hX : g_X X) (hd : 2 ≤ d) (hG : g_G M) (hp : p = 49 ∨ p = 58) (q1 : 0 ≤ s.toInt) (q2 : s.toInt ≤ 39) (h : ∀ (r : Int32) (M1 : mm_M), g_G M1 → FR md_t3 M M1 → (0 ≤ r.toInt) → (r.toInt ≤ 1) → Q (some (.int r)) M1) : mm_T X d 103 0 [.ref 28, .ref 1, .ref p, .ref 11, .int s, .null, .null, .null, .null] [] M Q := by
  have F0 : FR md_t3 M M := FR.rf
  refine to_c (pc := 0) rw_103_0 (x := (0 : Int32)) rfl rfl (to_is (pc := 1) rw_103_1 (ls2 := [.ref 28, .ref 1, .ref p, .ref 11, .int s, .int (0 : Int32), .null, .null, .null]) rfl rfl (to_an (pc := 3) rw_103_3 rfl ?_))
  have b_1 := g_b hG (a := p) (i := 0) (lo := 10) (hi := 60) (by rcases hp with rfl | rfl <;> rfl) (by rcases hp with rfl | rfl <;> rfl)
  refine tt_gI (pc := 4) rw_103_4 (g_o hG (by rcases hp with rfl | rfl <;> rfl)) (v := (M.2.1 p 0)) rfl (to_c (pc := 7) rw_103_7 (x := (1 : Int32)) rfl rfl (s_sub (pc := 8) rw_103_8 (A := (M.2.1 p 0).toInt) (B := 1) rfl rfl (by omega) (fun v2 e3 => to_is (pc := 9) rw_103_9 (ls2 := [.ref 28, .ref 1, .ref p, .ref 11, .int s, .int (0 : Int32), .int v2, .null, .null]) rfl rfl (to_an (pc := 11) rw_103_11 rfl (tt_gI (pc := 12) rw_103_12 (g_o hG rfl) (v := (M.2.1 1 7)) rfl (to_c (pc := 15) rw_103_15 (x := (3 : Int32)) rfl rfl (b_cne (pc := 16) rw_103_16 (A := (M.2.1 1 7).toInt) (B := 3) rfl rfl (fun h4 => ?_) (fun h4 => ?_))))))))
  · refine to_an (pc := 109) rw_103_109 rfl (to_c (pc := 110) rw_103_110 (x := (0 : Int32)) rfl rfl (to_i (pc := 111) rw_103_111 rfl (s_v (pc := 113) rw_103_113 (dp0 hd (by decide)) (ls0 := [.ref 1, .int (0 : Int32), .int v2]) rfl (Nat.le_of_ble_eq_true rfl) (Nat.le_of_ble_eq_true rfl) rfl (to_rc rfl rfl rfl (g_o hG rfl)) rfl (to_an (pc := 0) rw_88_0 rfl (tt_gI (pc := 1) rw_88_1 (g_o hG rfl) (v := (M.2.1 1 7)) rfl (to_c (pc := 4) rw_88_4 (x := (2 : Int32)) rfl rfl (b_ceq (pc := 5) rw_88_5 (A := (M.2.1 1 7).toInt) (B := 2) rfl rfl (fun h5 => ?_) (fun h5 => ?_))))))))
    · refine to_an (pc := 14) rw_88_14 rfl (tt_gI (pc := 15) rw_88_15 (g_o hG rfl) (v := (M.2.1 1 8)) rfl (to_in (pc := 18) rw_88_18 rfl (b_clt (pc := 19) rw_88_19 (A := (M.2.1 1 8).toInt) (B := 0) rfl rfl (fun h6 => ?_) (fun h6 => ?_))))
      · refine to_an (pc := 30) rw_88_30 rfl (to_c (pc := 31) rw_88_31 (x := (2 : Int32)) rfl rfl (s_v (pc := 32) rw_88_32 (dp1 hd (by decide)) (ls0 := [.ref 1, .int (2 : Int32)]) rfl (Nat.le_of_ble_eq_true rfl) (Nat.le_of_ble_eq_true rfl) rfl (to_rc rfl rfl rfl (g_o hG rfl)) rfl (to_an (pc := 0) rw_84_0 rfl (to_in (pc := 1) rw_84_1 rfl (s_pI (pc := 2) rw_84_2 hG rfl (fun M8 W7 => ?_))))))
        have hG9 := g_wf hG W7 rfl rfl (by decide)
        have F10 := FR.w F0 W7 (show 1 = 1 ∧ 5 ≤ 10 ∨ 3 ≤ 1 ∧ 1 ≤ 5 ∨ 1 = 33 by decide)
        refine to_an (pc := 5) rw_84_5 rfl (to_an (pc := 6) rw_84_6 rfl ?_)
        have c_11 : M8.2.1 1 9 = (M.2.1 1 9) := (W_n W7 (by decide) rfl)
        refine tt_gI (pc := 7) rw_84_7 (g_o hG9 rfl) (v := (M.2.1 1 9)) c_11 (s_pI (pc := 10) rw_84_10 hG9 rfl (fun M13 W12 => ?_))
        have hG14 := g_wf hG9 W12 rfl rfl (by decide)
        have F15 := FR.w F10 W12 (show 1 = 1 ∧ 5 ≤ 11 ∨ 3 ≤ 1 ∧ 1 ≤ 5 ∨ 1 = 33 by decide)
        refine to_c (pc := 13) rw_84_13 (x := (0 : Int32)) rfl rfl (s_r1 (pc := 14) rw_84_14 (A := 0) rfl (by decide) (b_ieq_t (pc := 35) rw_88_35 (A := 0) rfl (by decide) (to_c (pc := 42) rw_88_42 (x := (0 : Int32)) rfl rfl (s_r1 (pc := 43) rw_88_43 (A := 0) rfl (by decide) (b_ine_f (pc := 116) rw_103_116 (A := 0) rfl (by decide) (to_c (pc := 119) rw_103_119 (x := (0 : Int32)) rfl rfl (s_r1 (pc := 120) rw_103_120 (A := 0) rfl (by decide) ?_)))))))
        have k_16 : (0 : Int32).toInt = 0 := rfl
        exact h (0 : Int32) M13 hG14 F15 (by decide) (by decide)
      · refine to_an (pc := 22) rw_88_22 rfl (tt_gI (pc := 23) rw_88_23 (g_o hG rfl) (v := (M.2.1 1 8)) rfl (to_in (pc := 26) rw_88_26 rfl (b_cle (pc := 27) rw_88_27 (A := (M.2.1 1 8).toInt) (B := v2.toInt) rfl rfl (fun h17 => ?_) (fun h17 => ?_))))
        · refine to_c (pc := 38) rw_88_38 (x := (1 : Int32)) rfl rfl (to_go (pc := 39) rw_88_39 (s_r1 (pc := 43) rw_88_43 (A := 1) rfl (by decide) (b_ine_t (pc := 116) rw_103_116 (A := 1) rfl (by decide) (to_an (pc := 121) rw_103_121 rfl (s_gR (pc := 122) rw_103_122 hG rfl (v := 33) rfl (to_i (pc := 125) rw_103_125 rfl (to_dup2 (pc := 127) rw_103_127 (s_lal (pc := 128) rw_103_128 hG rfl (n := 40) rfl (A := s.toInt) rfl (by omega) (by omega) (fun l18 => s_cl (pc := 129) rw_103_129 rfl (fun l19 => to_i (pc := 130) rw_103_130 rfl (to_an (pc := 132) rw_103_132 rfl ?_)))))))))))
          refine tt_gI (pc := 133) rw_103_133 (g_o hG rfl) (v := (M.2.1 1 8)) rfl (s_add (pc := 136) rw_103_136 (A := 0) (B := (M.2.1 1 8).toInt) rfl rfl (by omega) (fun v20 e21 => s_anyS (pc := 137) rw_103_137 (fun _ _ => rfl) (fun l22 => s_anyL (pc := 138) rw_103_138 (fun _ _ => rfl) (fun l23 => s_las (pc := 139) rw_103_139 hG rfl (n := 40) rfl (A := s.toInt) rfl (by omega) (by omega) (fun M25 W24 => ?_)))))
          have hG26 := g_wl hG W24
          have F27 := FR.wl F0 W24 (show 33 = 1 ∧ 5 ≤ (s.toInt).toNat ∨ 3 ≤ 33 ∧ 33 ≤ 5 ∨ 33 = 33 by omega)
          refine to_an (pc := 140) rw_103_140 rfl (s_v (pc := 141) rw_103_141 (dp0 hd (by decide)) (ls0 := [.ref 1]) rfl (Nat.le_of_ble_eq_true rfl) (Nat.le_of_ble_eq_true rfl) rfl (to_rc rfl rfl rfl (g_o hG26 rfl)) rfl (C_83 hX (dp1 hd (by decide)) hG26  (fun M30 hG29 F28 => ?_)))
          have F31 := FR.c F27 F28 tg_134
          refine to_c (pc := 144) rw_103_144 (x := (1 : Int32)) rfl rfl (s_r1 (pc := 145) rw_103_145 (A := 1) rfl (by decide) ?_)
          have k_32 : (1 : Int32).toInt = 1 := rfl
          exact h (1 : Int32) M30 hG29 F31 (by decide) (by decide)
        · refine to_an (pc := 30) rw_88_30 rfl (to_c (pc := 31) rw_88_31 (x := (2 : Int32)) rfl rfl (s_v (pc := 32) rw_88_32 (dp1 hd (by decide)) (ls0 := [.ref 1, .int (2 : Int32)]) rfl (Nat.le_of_ble_eq_true rfl) (Nat.le_of_ble_eq_true rfl) rfl (to_rc rfl rfl rfl (g_o hG rfl)) rfl (to_an (pc := 0) rw_84_0 rfl (to_in (pc := 1) rw_84_1 rfl (s_pI (pc := 2) rw_84_2 hG rfl (fun M34 W33 => ?_))))))
          have hG35 := g_wf hG W33 rfl rfl (by decide)
          have F36 := FR.w F0 W33 (show 1 = 1 ∧ 5 ≤ 10 ∨ 3 ≤ 1 ∧ 1 ≤ 5 ∨ 1 = 33 by decide)
          refine to_an (pc := 5) rw_84_5 rfl (to_an (pc := 6) rw_84_6 rfl ?_)
          have c_37 : M34.2.1 1 9 = (M.2.1 1 9) := (W_n W33 (by decide) rfl)
          refine tt_gI (pc := 7) rw_84_7 (g_o hG35 rfl) (v := (M.2.1 1 9)) c_37 (s_pI (pc := 10) rw_84_10 hG35 rfl (fun M39 W38 => ?_))
          have hG40 := g_wf hG35 W38 rfl rfl (by decide)
          have F41 := FR.w F36 W38 (show 1 = 1 ∧ 5 ≤ 11 ∨ 3 ≤ 1 ∧ 1 ≤ 5 ∨ 1 = 33 by decide)
          refine to_c (pc := 13) rw_84_13 (x := (0 : Int32)) rfl rfl (s_r1 (pc := 14) rw_84_14 (A := 0) rfl (by decide) (b_ieq_t (pc := 35) rw_88_35 (A := 0) rfl (by decide) (to_c (pc := 42) rw_88_42 (x := (0 : Int32)) rfl rfl (s_r1 (pc := 43) rw_88_43 (A := 0) rfl (by decide) (b_ine_f (pc := 116) rw_103_116 (A := 0) rfl (by decide) (to_c (pc := 119) rw_103_119 (x := (0 : Int32)) rfl rfl (s_r1 (pc := 120) rw_103_120 (A := 0) rfl (by decide) ?_)))))))
          have k_42 : (0 : Int32).toInt = 0 := rfl
          exact h (0 : Int32) M39 hG40 F41 (by decide) (by decide)
    · refine to_an (pc := 8) rw_88_8 rfl (to_c (pc := 9) rw_88_9 (x := (1 : Int32)) rfl rfl (s_v (pc := 10) rw_88_10 (dp1 hd (by decide)) (ls0 := [.ref 1, .int (1 : Int32)]) rfl (Nat.le_of_ble_eq_true rfl) (Nat.le_of_ble_eq_true rfl) rfl (to_rc rfl rfl rfl (g_o hG rfl)) rfl (to_an (pc := 0) rw_84_0 rfl (to_in (pc := 1) rw_84_1 rfl (s_pI (pc := 2) rw_84_2 hG rfl (fun M44 W43 => ?_))))))
      have hG45 := g_wf hG W43 rfl rfl (by decide)
      have F46 := FR.w F0 W43 (show 1 = 1 ∧ 5 ≤ 10 ∨ 3 ≤ 1 ∧ 1 ≤ 5 ∨ 1 = 33 by decide)
      refine to_an (pc := 5) rw_84_5 rfl (to_an (pc := 6) rw_84_6 rfl ?_)
      have c_47 : M44.2.1 1 9 = (M.2.1 1 9) := (W_n W43 (by decide) rfl)
      refine tt_gI (pc := 7) rw_84_7 (g_o hG45 rfl) (v := (M.2.1 1 9)) c_47 (s_pI (pc := 10) rw_84_10 hG45 rfl (fun M49 W48 => ?_))
      have hG50 := g_wf hG45 W48 rfl rfl (by decide)
      have F51 := FR.w F46 W48 (show 1 = 1 ∧ 5 ≤ 11 ∨ 3 ≤ 1 ∧ 1 ≤ 5 ∨ 1 = 33 by decide)
      refine to_c (pc := 13) rw_84_13 (x := (0 : Int32)) rfl rfl (s_r1 (pc := 14) rw_84_14 (A := 0) rfl (by decide) (s_r1 (pc := 13) rw_88_13 (A := 0) rfl (by decide) (b_ine_f (pc := 116) rw_103_116 (A := 0) rfl (by decide) (to_c (pc := 119) rw_103_119 (x := (0 : Int32)) rfl rfl (s_r1 (pc := 120) rw_103_120 (A := 0) rfl (by decide) ?_)))))
      have k_52 : (0 : Int32).toInt = 0 := rfl
      exact h (0 : Int32) M49 hG50 F51 (by decide) (by decide)
  · refine to_an (pc := 19) rw_103_19 rfl (to_an (pc := 20) rw_103_20 rfl (tt_gI (pc := 21) rw_103_21 (g_o hG rfl) (v := (M.2.1 1 8)) rfl (s_v (pc := 24) rw_103_24 (dp0 hd (by decide)) (ls0 := [.ref p, .int (M.2.1 1 8)]) rfl (Nat.le_of_ble_eq_true rfl) (Nat.le_of_ble_eq_true rfl) rfl (to_rc rfl rfl rfl (g_o hG (by rcases hp with rfl | rfl <;> rfl))) rfl (to_an (pc := 0) rw_53_0 rfl (s_gR (pc := 1) rw_53_1 hG (by rcases hp with rfl | rfl <;> rfl) (v := (p + 6)) (by rcases hp with rfl | rfl <;> rfl) (to_an (pc := 4) rw_53_4 rfl ?_))))))
    have b_53 := g_b hG (a := p) (i := 3) (lo := 0) (hi := 12) (by rcases hp with rfl | rfl <;> rfl) (by rcases hp with rfl | rfl <;> rfl)
    refine tt_gI (pc := 5) rw_53_5 (g_o hG (by rcases hp with rfl | rfl <;> rfl)) (v := (M.2.1 p 3)) rfl (to_in (pc := 8) rw_53_8 rfl (s_s (pc := 9) rw_53_9 (dp1 hd (by decide)) (ls0 := [.ref (p + 6), .int (M.2.1 p 3), .int (M.2.1 1 8), .null]) rfl (Nat.le_of_ble_eq_true rfl) (Nat.le_of_ble_eq_true rfl) rfl (to_rcs rfl rfl) rfl (C_54g hX (dp2 hd (by decide)) hG (by omega) (g := (p + 6)) (s := (M.2.1 p 3)) (x := (M.2.1 1 8)) (fun r54 M59 hG56 F55 p_57 p_58 => ?_))))
    have F60 := FR.c F0 F55 tg_135
    refine to_r0 (pc := 12) rw_53_12 (to_is (pc := 27) rw_103_27 (ls2 := [.ref 28, .ref 1, .ref p, .ref 11, .int s, .int (0 : Int32), .int v2, .int r54, .null]) rfl rfl (to_an (pc := 29) rw_103_29 rfl (to_i (pc := 30) rw_103_30 rfl (s_v (pc := 32) rw_103_32 (dp0 hd (by decide)) (ls0 := [.ref p, .int r54]) rfl (Nat.le_of_ble_eq_true rfl) (Nat.le_of_ble_eq_true rfl) rfl (to_rc rfl rfl rfl (g_o hG56 (by rcases hp with rfl | rfl <;> rfl))) rfl (to_in (pc := 0) rw_44_0 rfl (b_ilt (pc := 1) rw_44_1 (A := r54.toInt) rfl (fun h61 => ?_) (fun h61 => ?_)))))))
    · refine to_c (pc := 16) rw_44_16 (x := (0 : Int32)) rfl rfl (s_r1 (pc := 17) rw_44_17 (A := 0) rfl (by decide) (b_ieq_t (pc := 35) rw_103_35 (A := 0) rfl (by decide) (to_an (pc := 61) rw_103_61 rfl (to_an (pc := 62) rw_103_62 rfl ?_))))
      have c_62 : M59.2.1 1 8 = (M.2.1 1 8) := (F_n F55 (show ¬ (1 < 0) by decide) rfl)
      refine tt_gI (pc := 63) rw_103_63 (g_o hG56 rfl) (v := (M.2.1 1 8)) c_62 (s_v (pc := 66) rw_103_66 (dp0 hd (by decide)) (ls0 := [.ref p, .int (M.2.1 1 8)]) rfl (Nat.le_of_ble_eq_true rfl) (Nat.le_of_ble_eq_true rfl) rfl (to_rc rfl rfl rfl (g_o hG56 (by rcases hp with rfl | rfl <;> rfl))) rfl (to_an (pc := 0) rw_52_0 rfl (s_gR (pc := 1) rw_52_1 hG56 (by rcases hp with rfl | rfl <;> rfl) (v := (p + 1)) (by rcases hp with rfl | rfl <;> rfl) (to_an (pc := 4) rw_52_4 rfl ?_))))
      have c_63 : M59.2.1 p 2 = (M.2.1 p 2) := (F_n F55 (show ¬ (p < 0) by omega) rfl)
      have b_64 := g_b hG (a := p) (i := 2) (lo := 0) (hi := 8) (by rcases hp with rfl | rfl <;> rfl) (by rcases hp with rfl | rfl <;> rfl)
      refine tt_gI (pc := 5) rw_52_5 (g_o hG56 (by rcases hp with rfl | rfl <;> rfl)) (v := (M.2.1 p 2)) c_63 (to_in (pc := 8) rw_52_8 rfl (s_s (pc := 9) rw_52_9 (dp1 hd (by decide)) (ls0 := [.ref (p + 1), .int (M.2.1 p 2), .int (M.2.1 1 8), .null]) rfl (Nat.le_of_ble_eq_true rfl) (Nat.le_of_ble_eq_true rfl) rfl (to_rcs rfl rfl) rfl (C_54f hX (dp2 hd (by decide)) hG56 (by omega) (f := (p + 1)) (s := (M.2.1 p 2)) (x := (M.2.1 1 8)) (fun r65 M70 hG67 F66 p_68 p_69 => ?_))))
      have F71 := FR.c F60 F66 tg_135
      refine to_r0 (pc := 12) rw_52_12 (to_is (pc := 69) rw_103_69 (ls2 := [.ref 28, .ref 1, .ref p, .ref 11, .int s, .int (0 : Int32), .int v2, .int r54, .int r65]) rfl rfl (to_an (pc := 71) rw_103_71 rfl (to_i (pc := 72) rw_103_72 rfl (s_v (pc := 74) rw_103_74 (dp0 hd (by decide)) (ls0 := [.ref p, .int r65]) rfl (Nat.le_of_ble_eq_true rfl) (Nat.le_of_ble_eq_true rfl) rfl (to_rc rfl rfl rfl (g_o hG67 (by rcases hp with rfl | rfl <;> rfl))) rfl (to_in (pc := 0) rw_43_0 rfl (b_ilt (pc := 1) rw_43_1 (A := r65.toInt) rfl (fun h72 => ?_) (fun h72 => ?_)))))))
      · refine to_c (pc := 16) rw_43_16 (x := (0 : Int32)) rfl rfl (s_r1 (pc := 17) rw_43_17 (A := 0) rfl (by decide) (b_ine_f (pc := 77) rw_103_77 (A := 0) rfl (by decide) (to_an (pc := 80) rw_103_80 rfl (to_c (pc := 81) rw_103_81 (x := (4 : Int32)) rfl rfl (s_v (pc := 82) rw_103_82 (dp0 hd (by decide)) (ls0 := [.ref 1, .int (4 : Int32)]) rfl (Nat.le_of_ble_eq_true rfl) (Nat.le_of_ble_eq_true rfl) rfl (to_rc rfl rfl rfl (g_o hG67 rfl)) rfl (to_an (pc := 0) rw_84_0 rfl (to_in (pc := 1) rw_84_1 rfl (s_pI (pc := 2) rw_84_2 hG67 rfl (fun M74 W73 => ?_)))))))))
        have hG75 := g_wf hG67 W73 rfl rfl (by decide)
        have F76 := FR.w F71 W73 (show 1 = 1 ∧ 5 ≤ 10 ∨ 3 ≤ 1 ∧ 1 ≤ 5 ∨ 1 = 33 by decide)
        refine to_an (pc := 5) rw_84_5 rfl (to_an (pc := 6) rw_84_6 rfl ?_)
        have c_77 : M74.2.1 1 9 = (M.2.1 1 9) := (W_n W73 (by decide) (F_n F66 (show ¬ (1 < 0) by decide) (F_n F55 (show ¬ (1 < 0) by decide) rfl)))
        refine tt_gI (pc := 7) rw_84_7 (g_o hG75 rfl) (v := (M.2.1 1 9)) c_77 (s_pI (pc := 10) rw_84_10 hG75 rfl (fun M79 W78 => ?_))
        have hG80 := g_wf hG75 W78 rfl rfl (by decide)
        have F81 := FR.w F76 W78 (show 1 = 1 ∧ 5 ≤ 11 ∨ 3 ≤ 1 ∧ 1 ≤ 5 ∨ 1 = 33 by decide)
        refine to_c (pc := 13) rw_84_13 (x := (0 : Int32)) rfl rfl (s_r1 (pc := 14) rw_84_14 (A := 0) rfl (by decide) (s_r1 (pc := 85) rw_103_85 (A := 0) rfl (by decide) ?_))
        have k_82 : (0 : Int32).toInt = 0 := rfl
        exact h (0 : Int32) M79 hG80 F81 (by decide) (by decide)
      · refine to_in (pc := 4) rw_43_4 rfl (to_an (pc := 5) rw_43_5 rfl ?_)
        have c_83 : M70.2.1 p 2 = (M.2.1 p 2) := (F_n F66 (show ¬ (p < 0) by omega) c_63)
        refine tt_gI (pc := 6) rw_43_6 (g_o hG67 (by rcases hp with rfl | rfl <;> rfl)) (v := (M.2.1 p 2)) c_83 (b_cge (pc := 9) rw_43_9 (A := r65.toInt) (B := (M.2.1 p 2).toInt) rfl rfl (fun h84 => ?_) (fun h84 => ?_))
        · refine to_c (pc := 16) rw_43_16 (x := (0 : Int32)) rfl rfl (s_r1 (pc := 17) rw_43_17 (A := 0) rfl (by decide) (b_ine_f (pc := 77) rw_103_77 (A := 0) rfl (by decide) (to_an (pc := 80) rw_103_80 rfl (to_c (pc := 81) rw_103_81 (x := (4 : Int32)) rfl rfl (s_v (pc := 82) rw_103_82 (dp0 hd (by decide)) (ls0 := [.ref 1, .int (4 : Int32)]) rfl (Nat.le_of_ble_eq_true rfl) (Nat.le_of_ble_eq_true rfl) rfl (to_rc rfl rfl rfl (g_o hG67 rfl)) rfl (to_an (pc := 0) rw_84_0 rfl (to_in (pc := 1) rw_84_1 rfl (s_pI (pc := 2) rw_84_2 hG67 rfl (fun M86 W85 => ?_)))))))))
          have hG87 := g_wf hG67 W85 rfl rfl (by decide)
          have F88 := FR.w F71 W85 (show 1 = 1 ∧ 5 ≤ 10 ∨ 3 ≤ 1 ∧ 1 ≤ 5 ∨ 1 = 33 by decide)
          refine to_an (pc := 5) rw_84_5 rfl (to_an (pc := 6) rw_84_6 rfl ?_)
          have c_89 : M86.2.1 1 9 = (M.2.1 1 9) := (W_n W85 (by decide) (F_n F66 (show ¬ (1 < 0) by decide) (F_n F55 (show ¬ (1 < 0) by decide) rfl)))
          refine tt_gI (pc := 7) rw_84_7 (g_o hG87 rfl) (v := (M.2.1 1 9)) c_89 (s_pI (pc := 10) rw_84_10 hG87 rfl (fun M91 W90 => ?_))
          have hG92 := g_wf hG87 W90 rfl rfl (by decide)
          have F93 := FR.w F88 W90 (show 1 = 1 ∧ 5 ≤ 11 ∨ 3 ≤ 1 ∧ 1 ≤ 5 ∨ 1 = 33 by decide)
          refine to_c (pc := 13) rw_84_13 (x := (0 : Int32)) rfl rfl (s_r1 (pc := 14) rw_84_14 (A := 0) rfl (by decide) (s_r1 (pc := 85) rw_103_85 (A := 0) rfl (by decide) ?_))
          have k_94 : (0 : Int32).toInt = 0 := rfl
          exact h (0 : Int32) M91 hG92 F93 (by decide) (by decide)
        · refine to_c (pc := 12) rw_43_12 (x := (1 : Int32)) rfl rfl (to_go (pc := 13) rw_43_13 (s_r1 (pc := 17) rw_43_17 (A := 1) rfl (by decide) (b_ine_t (pc := 77) rw_103_77 (A := 1) rfl (by decide) (to_an (pc := 86) rw_103_86 rfl (s_gR (pc := 87) rw_103_87 hG67 (by rcases hp with rfl | rfl <;> rfl) (v := (p + 3)) (by rcases hp with rfl | rfl <;> rfl) (to_i (pc := 90) rw_103_90 rfl (s_ial (pc := 92) rw_103_92 hG67 (by rcases hp with rfl | rfl <;> rfl) (n := 8) (by rcases hp with rfl | rfl <;> rfl) (by rcases hp with rfl | rfl <;> rfl) (A := r65.toInt) rfl (by omega) (by omega) (lo := 0) (hi := 59) (by rcases hp with rfl | rfl <;> rfl) (by rcases hp with rfl | rfl <;> rfl) (fun v95 w_96 _ _ => to_is (pc := 93) rw_103_93 (ls2 := [.ref 28, .ref 1, .ref p, .ref 11, .int s, .int v95, .int v2, .int r54, .int r65]) rfl rfl (to_an (pc := 95) rw_103_95 rfl (to_i (pc := 96) rw_103_96 rfl (s_v (pc := 98) rw_103_98 (dp0 hd (by decide)) (ls0 := [.ref p, .int r65]) rfl (Nat.le_of_ble_eq_true rfl) (Nat.le_of_ble_eq_true rfl) rfl (to_rc rfl rfl rfl (g_o hG67 (by rcases hp with rfl | rfl <;> rfl))) rfl ?_)))))))))))
          refine to_an (pc := 0) rw_47_0 rfl (s_gR (pc := 1) rw_47_1 hG67 (by rcases hp with rfl | rfl <;> rfl) (v := (p + 4)) (by rcases hp with rfl | rfl <;> rfl) (to_in (pc := 4) rw_47_4 rfl (s_ial (pc := 5) rw_47_5 hG67 (by rcases hp with rfl | rfl <;> rfl) (n := 8) (by rcases hp with rfl | rfl <;> rfl) (by rcases hp with rfl | rfl <;> rfl) (A := r65.toInt) rfl (by omega) (by omega) (lo := 0) (hi := 63) (by rcases hp with rfl | rfl <;> rfl) (by rcases hp with rfl | rfl <;> rfl) (fun v97 w_98 _ _ => to_an (pc := 6) rw_47_6 rfl (s_gR (pc := 7) rw_47_7 hG67 (by rcases hp with rfl | rfl <;> rfl) (v := (p + 3)) (by rcases hp with rfl | rfl <;> rfl) (to_in (pc := 10) rw_47_10 rfl (s_ialk (pc := 11) rw_47_11 hG67 (by rcases hp with rfl | rfl <;> rfl) (n := 8) (by rcases hp with rfl | rfl <;> rfl) (by rcases hp with rfl | rfl <;> rfl) (A := r65.toInt) rfl (by omega) (by omega) (v := v95) w_96 (s_sub (pc := 12) rw_47_12 (A := v97.toInt) (B := v95.toInt) rfl rfl (by omega) (fun v101 e102 => to_c (pc := 13) rw_47_13 (x := (1 : Int32)) rfl rfl (s_add (pc := 14) rw_47_14 (A := v101.toInt) (B := 1) rfl rfl (by omega) (fun v103 e104 => to_r0 (pc := 15) rw_47_15 ?_)))))))))))
          refine to_c (pc := 101) rw_103_101 (x := (1 : Int32)) rfl rfl (s_sub (pc := 102) rw_103_102 (A := v103.toInt) (B := 1) rfl rfl (by omega) (fun v105 e106 => to_is (pc := 103) rw_103_103 (ls2 := [.ref 28, .ref 1, .ref p, .ref 11, .int s, .int v95, .int v105, .int r54, .int r65]) rfl rfl (to_an (pc := 105) rw_103_105 rfl (s_v (pc := 106) rw_103_106 (dp0 hd (by decide)) (ls0 := [.ref 1]) rfl (Nat.le_of_ble_eq_true rfl) (Nat.le_of_ble_eq_true rfl) rfl (to_rc rfl rfl rfl (g_o hG67 rfl)) rfl (C_83 hX (dp1 hd (by decide)) hG67  (fun M109 hG108 F107 => ?_))))))
          have F110 := FR.c F71 F107 tg_134
          refine to_an (pc := 109) rw_103_109 rfl (to_c (pc := 110) rw_103_110 (x := (0 : Int32)) rfl rfl (to_i (pc := 111) rw_103_111 rfl (s_v (pc := 113) rw_103_113 (dp0 hd (by decide)) (ls0 := [.ref 1, .int (0 : Int32), .int v105]) rfl (Nat.le_of_ble_eq_true rfl) (Nat.le_of_ble_eq_true rfl) rfl (to_rc rfl rfl rfl (g_o hG108 rfl)) rfl (to_an (pc := 0) rw_88_0 rfl (tt_gI (pc := 1) rw_88_1 (g_o hG108 rfl) (v := (M109.2.1 1 7)) rfl (to_c (pc := 4) rw_88_4 (x := (2 : Int32)) rfl rfl (b_ceq (pc := 5) rw_88_5 (A := (M109.2.1 1 7).toInt) (B := 2) rfl rfl (fun h111 => ?_) (fun h111 => ?_))))))))
          · refine to_an (pc := 14) rw_88_14 rfl (tt_gI (pc := 15) rw_88_15 (g_o hG108 rfl) (v := (M109.2.1 1 8)) rfl (to_in (pc := 18) rw_88_18 rfl (b_clt (pc := 19) rw_88_19 (A := (M109.2.1 1 8).toInt) (B := 0) rfl rfl (fun h112 => ?_) (fun h112 => ?_))))
            · refine to_an (pc := 30) rw_88_30 rfl (to_c (pc := 31) rw_88_31 (x := (2 : Int32)) rfl rfl (s_v (pc := 32) rw_88_32 (dp1 hd (by decide)) (ls0 := [.ref 1, .int (2 : Int32)]) rfl (Nat.le_of_ble_eq_true rfl) (Nat.le_of_ble_eq_true rfl) rfl (to_rc rfl rfl rfl (g_o hG108 rfl)) rfl (to_an (pc := 0) rw_84_0 rfl (to_in (pc := 1) rw_84_1 rfl (s_pI (pc := 2) rw_84_2 hG108 rfl (fun M114 W113 => ?_))))))
              have hG115 := g_wf hG108 W113 rfl rfl (by decide)
              have F116 := FR.w F110 W113 (show 1 = 1 ∧ 5 ≤ 10 ∨ 3 ≤ 1 ∧ 1 ≤ 5 ∨ 1 = 33 by decide)
              refine to_an (pc := 5) rw_84_5 rfl (to_an (pc := 6) rw_84_6 rfl ?_)
              have c_117 : M114.2.1 1 9 = (M109.2.1 1 9) := (W_n W113 (by decide) rfl)
              refine tt_gI (pc := 7) rw_84_7 (g_o hG115 rfl) (v := (M109.2.1 1 9)) c_117 (s_pI (pc := 10) rw_84_10 hG115 rfl (fun M119 W118 => ?_))
              have hG120 := g_wf hG115 W118 rfl rfl (by decide)
              have F121 := FR.w F116 W118 (show 1 = 1 ∧ 5 ≤ 11 ∨ 3 ≤ 1 ∧ 1 ≤ 5 ∨ 1 = 33 by decide)
              refine to_c (pc := 13) rw_84_13 (x := (0 : Int32)) rfl rfl (s_r1 (pc := 14) rw_84_14 (A := 0) rfl (by decide) (b_ieq_t (pc := 35) rw_88_35 (A := 0) rfl (by decide) (to_c (pc := 42) rw_88_42 (x := (0 : Int32)) rfl rfl (s_r1 (pc := 43) rw_88_43 (A := 0) rfl (by decide) (b_ine_f (pc := 116) rw_103_116 (A := 0) rfl (by decide) (to_c (pc := 119) rw_103_119 (x := (0 : Int32)) rfl rfl (s_r1 (pc := 120) rw_103_120 (A := 0) rfl (by decide) ?_)))))))
              have k_122 : (0 : Int32).toInt = 0 := rfl
              exact h (0 : Int32) M119 hG120 F121 (by decide) (by decide)
            · refine to_an (pc := 22) rw_88_22 rfl (tt_gI (pc := 23) rw_88_23 (g_o hG108 rfl) (v := (M109.2.1 1 8)) rfl (to_in (pc := 26) rw_88_26 rfl (b_cle (pc := 27) rw_88_27 (A := (M109.2.1 1 8).toInt) (B := v105.toInt) rfl rfl (fun h123 => ?_) (fun h123 => ?_))))
              · refine to_c (pc := 38) rw_88_38 (x := (1 : Int32)) rfl rfl (to_go (pc := 39) rw_88_39 (s_r1 (pc := 43) rw_88_43 (A := 1) rfl (by decide) (b_ine_t (pc := 116) rw_103_116 (A := 1) rfl (by decide) (to_an (pc := 121) rw_103_121 rfl (s_gR (pc := 122) rw_103_122 hG108 rfl (v := 33) rfl (to_i (pc := 125) rw_103_125 rfl (to_dup2 (pc := 127) rw_103_127 (s_lal (pc := 128) rw_103_128 hG108 rfl (n := 40) rfl (A := s.toInt) rfl (by omega) (by omega) (fun l124 => s_cl (pc := 129) rw_103_129 rfl (fun l125 => to_i (pc := 130) rw_103_130 rfl (to_an (pc := 132) rw_103_132 rfl ?_)))))))))))
                refine tt_gI (pc := 133) rw_103_133 (g_o hG108 rfl) (v := (M109.2.1 1 8)) rfl (s_add (pc := 136) rw_103_136 (A := v95.toInt) (B := (M109.2.1 1 8).toInt) rfl rfl (by omega) (fun v126 e127 => s_anyS (pc := 137) rw_103_137 (fun _ _ => rfl) (fun l128 => s_anyL (pc := 138) rw_103_138 (fun _ _ => rfl) (fun l129 => s_las (pc := 139) rw_103_139 hG108 rfl (n := 40) rfl (A := s.toInt) rfl (by omega) (by omega) (fun M131 W130 => ?_)))))
                have hG132 := g_wl hG108 W130
                have F133 := FR.wl F110 W130 (show 33 = 1 ∧ 5 ≤ (s.toInt).toNat ∨ 3 ≤ 33 ∧ 33 ≤ 5 ∨ 33 = 33 by omega)
                refine to_an (pc := 140) rw_103_140 rfl (s_v (pc := 141) rw_103_141 (dp0 hd (by decide)) (ls0 := [.ref 1]) rfl (Nat.le_of_ble_eq_true rfl) (Nat.le_of_ble_eq_true rfl) rfl (to_rc rfl rfl rfl (g_o hG132 rfl)) rfl (C_83 hX (dp1 hd (by decide)) hG132  (fun M136 hG135 F134 => ?_)))
                have F137 := FR.c F133 F134 tg_134
                refine to_c (pc := 144) rw_103_144 (x := (1 : Int32)) rfl rfl (s_r1 (pc := 145) rw_103_145 (A := 1) rfl (by decide) ?_)
                have k_138 : (1 : Int32).toInt = 1 := rfl
                exact h (1 : Int32) M136 hG135 F137 (by decide) (by decide)
              · refine to_an (pc := 30) rw_88_30 rfl (to_c (pc := 31) rw_88_31 (x := (2 : Int32)) rfl rfl (s_v (pc := 32) rw_88_32 (dp1 hd (by decide)) (ls0 := [.ref 1, .int (2 : Int32)]) rfl (Nat.le_of_ble_eq_true rfl) (Nat.le_of_ble_eq_true rfl) rfl (to_rc rfl rfl rfl (g_o hG108 rfl)) rfl (to_an (pc := 0) rw_84_0 rfl (to_in (pc := 1) rw_84_1 rfl (s_pI (pc := 2) rw_84_2 hG108 rfl (fun M140 W139 => ?_))))))
                have hG141 := g_wf hG108 W139 rfl rfl (by decide)
                have F142 := FR.w F110 W139 (show 1 = 1 ∧ 5 ≤ 10 ∨ 3 ≤ 1 ∧ 1 ≤ 5 ∨ 1 = 33 by decide)
                refine to_an (pc := 5) rw_84_5 rfl (to_an (pc := 6) rw_84_6 rfl ?_)
                have c_143 : M140.2.1 1 9 = (M109.2.1 1 9) := (W_n W139 (by decide) rfl)
                refine tt_gI (pc := 7) rw_84_7 (g_o hG141 rfl) (v := (M109.2.1 1 9)) c_143 (s_pI (pc := 10) rw_84_10 hG141 rfl (fun M145 W144 => ?_))
                have hG146 := g_wf hG141 W144 rfl rfl (by decide)
                have F147 := FR.w F142 W144 (show 1 = 1 ∧ 5 ≤ 11 ∨ 3 ≤ 1 ∧ 1 ≤ 5 ∨ 1 = 33 by decide)
                refine to_c (pc := 13) rw_84_13 (x := (0 : Int32)) rfl rfl (s_r1 (pc := 14) rw_84_14 (A := 0) rfl (by decide) (b_ieq_t (pc := 35) rw_88_35 (A := 0) rfl (by decide) (to_c (pc := 42) rw_88_42 (x := (0 : Int32)) rfl rfl (s_r1 (pc := 43) rw_88_43 (A := 0) rfl (by decide) (b_ine_f (pc := 116) rw_103_116 (A := 0) rfl (by decide) (to_c (pc := 119) rw_103_119 (x := (0 : Int32)) rfl rfl (s_r1 (pc := 120) rw_103_120 (A := 0) rfl (by decide) ?_)))))))
                have k_148 : (0 : Int32).toInt = 0 := rfl
                exact h (0 : Int32) M145 hG146 F147 (by decide) (by decide)
          · refine to_an (pc := 8) rw_88_8 rfl (to_c (pc := 9) rw_88_9 (x := (1 : Int32)) rfl rfl (s_v (pc := 10) rw_88_10 (dp1 hd (by decide)) (ls0 := [.ref 1, .int (1 : Int32)]) rfl (Nat.le_of_ble_eq_true rfl) (Nat.le_of_ble_eq_true rfl) rfl (to_rc rfl rfl rfl (g_o hG108 rfl)) rfl (to_an (pc := 0) rw_84_0 rfl (to_in (pc := 1) rw_84_1 rfl (s_pI (pc := 2) rw_84_2 hG108 rfl (fun M150 W149 => ?_))))))
            have hG151 := g_wf hG108 W149 rfl rfl (by decide)
            have F152 := FR.w F110 W149 (show 1 = 1 ∧ 5 ≤ 10 ∨ 3 ≤ 1 ∧ 1 ≤ 5 ∨ 1 = 33 by decide)
            refine to_an (pc := 5) rw_84_5 rfl (to_an (pc := 6) rw_84_6 rfl ?_)
            have c_153 : M150.2.1 1 9 = (M109.2.1 1 9) := (W_n W149 (by decide) rfl)
            refine tt_gI (pc := 7) rw_84_7 (g_o hG151 rfl) (v := (M109.2.1 1 9)) c_153 (s_pI (pc := 10) rw_84_10 hG151 rfl (fun M155 W154 => ?_))
            have hG156 := g_wf hG151 W154 rfl rfl (by decide)
            have F157 := FR.w F152 W154 (show 1 = 1 ∧ 5 ≤ 11 ∨ 3 ≤ 1 ∧ 1 ≤ 5 ∨ 1 = 33 by decide)
            refine to_c (pc := 13) rw_84_13 (x := (0 : Int32)) rfl rfl (s_r1 (pc := 14) rw_84_14 (A := 0) rfl (by decide) (s_r1 (pc := 13) rw_88_13 (A := 0) rfl (by decide) (b_ine_f (pc := 116) rw_103_116 (A := 0) rfl (by decide) (to_c (pc := 119) rw_103_119 (x := (0 : Int32)) rfl rfl (s_r1 (pc := 120) rw_103_120 (A := 0) rfl (by decide) ?_)))))
            have k_158 : (0 : Int32).toInt = 0 := rfl
            exact h (0 : Int32) M155 hG156 F157 (by decide) (by decide)
    · refine to_in (pc := 4) rw_44_4 rfl (to_an (pc := 5) rw_44_5 rfl ?_)
      have c_159 : M59.2.1 p 3 = (M.2.1 p 3) := (F_n F55 (show ¬ (p < 0) by omega) rfl)
      refine tt_gI (pc := 6) rw_44_6 (g_o hG56 (by rcases hp with rfl | rfl <;> rfl)) (v := (M.2.1 p 3)) c_159 (b_cge (pc := 9) rw_44_9 (A := r54.toInt) (B := (M.2.1 p 3).toInt) rfl rfl (fun h160 => ?_) (fun h160 => ?_))
      · refine to_c (pc := 16) rw_44_16 (x := (0 : Int32)) rfl rfl (s_r1 (pc := 17) rw_44_17 (A := 0) rfl (by decide) (b_ieq_t (pc := 35) rw_103_35 (A := 0) rfl (by decide) (to_an (pc := 61) rw_103_61 rfl (to_an (pc := 62) rw_103_62 rfl ?_))))
        have c_161 : M59.2.1 1 8 = (M.2.1 1 8) := (F_n F55 (show ¬ (1 < 0) by decide) rfl)
        refine tt_gI (pc := 63) rw_103_63 (g_o hG56 rfl) (v := (M.2.1 1 8)) c_161 (s_v (pc := 66) rw_103_66 (dp0 hd (by decide)) (ls0 := [.ref p, .int (M.2.1 1 8)]) rfl (Nat.le_of_ble_eq_true rfl) (Nat.le_of_ble_eq_true rfl) rfl (to_rc rfl rfl rfl (g_o hG56 (by rcases hp with rfl | rfl <;> rfl))) rfl (to_an (pc := 0) rw_52_0 rfl (s_gR (pc := 1) rw_52_1 hG56 (by rcases hp with rfl | rfl <;> rfl) (v := (p + 1)) (by rcases hp with rfl | rfl <;> rfl) (to_an (pc := 4) rw_52_4 rfl ?_))))
        have c_162 : M59.2.1 p 2 = (M.2.1 p 2) := (F_n F55 (show ¬ (p < 0) by omega) rfl)
        have b_163 := g_b hG (a := p) (i := 2) (lo := 0) (hi := 8) (by rcases hp with rfl | rfl <;> rfl) (by rcases hp with rfl | rfl <;> rfl)
        refine tt_gI (pc := 5) rw_52_5 (g_o hG56 (by rcases hp with rfl | rfl <;> rfl)) (v := (M.2.1 p 2)) c_162 (to_in (pc := 8) rw_52_8 rfl (s_s (pc := 9) rw_52_9 (dp1 hd (by decide)) (ls0 := [.ref (p + 1), .int (M.2.1 p 2), .int (M.2.1 1 8), .null]) rfl (Nat.le_of_ble_eq_true rfl) (Nat.le_of_ble_eq_true rfl) rfl (to_rcs rfl rfl) rfl (C_54f hX (dp2 hd (by decide)) hG56 (by omega) (f := (p + 1)) (s := (M.2.1 p 2)) (x := (M.2.1 1 8)) (fun r164 M169 hG166 F165 p_167 p_168 => ?_))))
        have F170 := FR.c F60 F165 tg_135
        refine to_r0 (pc := 12) rw_52_12 (to_is (pc := 69) rw_103_69 (ls2 := [.ref 28, .ref 1, .ref p, .ref 11, .int s, .int (0 : Int32), .int v2, .int r54, .int r164]) rfl rfl (to_an (pc := 71) rw_103_71 rfl (to_i (pc := 72) rw_103_72 rfl (s_v (pc := 74) rw_103_74 (dp0 hd (by decide)) (ls0 := [.ref p, .int r164]) rfl (Nat.le_of_ble_eq_true rfl) (Nat.le_of_ble_eq_true rfl) rfl (to_rc rfl rfl rfl (g_o hG166 (by rcases hp with rfl | rfl <;> rfl))) rfl (to_in (pc := 0) rw_43_0 rfl (b_ilt (pc := 1) rw_43_1 (A := r164.toInt) rfl (fun h171 => ?_) (fun h171 => ?_)))))))
        · refine to_c (pc := 16) rw_43_16 (x := (0 : Int32)) rfl rfl (s_r1 (pc := 17) rw_43_17 (A := 0) rfl (by decide) (b_ine_f (pc := 77) rw_103_77 (A := 0) rfl (by decide) (to_an (pc := 80) rw_103_80 rfl (to_c (pc := 81) rw_103_81 (x := (4 : Int32)) rfl rfl (s_v (pc := 82) rw_103_82 (dp0 hd (by decide)) (ls0 := [.ref 1, .int (4 : Int32)]) rfl (Nat.le_of_ble_eq_true rfl) (Nat.le_of_ble_eq_true rfl) rfl (to_rc rfl rfl rfl (g_o hG166 rfl)) rfl (to_an (pc := 0) rw_84_0 rfl (to_in (pc := 1) rw_84_1 rfl (s_pI (pc := 2) rw_84_2 hG166 rfl (fun M173 W172 => ?_)))))))))
          have hG174 := g_wf hG166 W172 rfl rfl (by decide)
          have F175 := FR.w F170 W172 (show 1 = 1 ∧ 5 ≤ 10 ∨ 3 ≤ 1 ∧ 1 ≤ 5 ∨ 1 = 33 by decide)
          refine to_an (pc := 5) rw_84_5 rfl (to_an (pc := 6) rw_84_6 rfl ?_)
          have c_176 : M173.2.1 1 9 = (M.2.1 1 9) := (W_n W172 (by decide) (F_n F165 (show ¬ (1 < 0) by decide) (F_n F55 (show ¬ (1 < 0) by decide) rfl)))
          refine tt_gI (pc := 7) rw_84_7 (g_o hG174 rfl) (v := (M.2.1 1 9)) c_176 (s_pI (pc := 10) rw_84_10 hG174 rfl (fun M178 W177 => ?_))
          have hG179 := g_wf hG174 W177 rfl rfl (by decide)
          have F180 := FR.w F175 W177 (show 1 = 1 ∧ 5 ≤ 11 ∨ 3 ≤ 1 ∧ 1 ≤ 5 ∨ 1 = 33 by decide)
          refine to_c (pc := 13) rw_84_13 (x := (0 : Int32)) rfl rfl (s_r1 (pc := 14) rw_84_14 (A := 0) rfl (by decide) (s_r1 (pc := 85) rw_103_85 (A := 0) rfl (by decide) ?_))
          have k_181 : (0 : Int32).toInt = 0 := rfl
          exact h (0 : Int32) M178 hG179 F180 (by decide) (by decide)
        · refine to_in (pc := 4) rw_43_4 rfl (to_an (pc := 5) rw_43_5 rfl ?_)
          have c_182 : M169.2.1 p 2 = (M.2.1 p 2) := (F_n F165 (show ¬ (p < 0) by omega) c_162)
          refine tt_gI (pc := 6) rw_43_6 (g_o hG166 (by rcases hp with rfl | rfl <;> rfl)) (v := (M.2.1 p 2)) c_182 (b_cge (pc := 9) rw_43_9 (A := r164.toInt) (B := (M.2.1 p 2).toInt) rfl rfl (fun h183 => ?_) (fun h183 => ?_))
          · refine to_c (pc := 16) rw_43_16 (x := (0 : Int32)) rfl rfl (s_r1 (pc := 17) rw_43_17 (A := 0) rfl (by decide) (b_ine_f (pc := 77) rw_103_77 (A := 0) rfl (by decide) (to_an (pc := 80) rw_103_80 rfl (to_c (pc := 81) rw_103_81 (x := (4 : Int32)) rfl rfl (s_v (pc := 82) rw_103_82 (dp0 hd (by decide)) (ls0 := [.ref 1, .int (4 : Int32)]) rfl (Nat.le_of_ble_eq_true rfl) (Nat.le_of_ble_eq_true rfl) rfl (to_rc rfl rfl rfl (g_o hG166 rfl)) rfl (to_an (pc := 0) rw_84_0 rfl (to_in (pc := 1) rw_84_1 rfl (s_pI (pc := 2) rw_84_2 hG166 rfl (fun M185 W184 => ?_)))))))))
            have hG186 := g_wf hG166 W184 rfl rfl (by decide)
            have F187 := FR.w F170 W184 (show 1 = 1 ∧ 5 ≤ 10 ∨ 3 ≤ 1 ∧ 1 ≤ 5 ∨ 1 = 33 by decide)
            refine to_an (pc := 5) rw_84_5 rfl (to_an (pc := 6) rw_84_6 rfl ?_)
            have c_188 : M185.2.1 1 9 = (M.2.1 1 9) := (W_n W184 (by decide) (F_n F165 (show ¬ (1 < 0) by decide) (F_n F55 (show ¬ (1 < 0) by decide) rfl)))
            refine tt_gI (pc := 7) rw_84_7 (g_o hG186 rfl) (v := (M.2.1 1 9)) c_188 (s_pI (pc := 10) rw_84_10 hG186 rfl (fun M190 W189 => ?_))
            have hG191 := g_wf hG186 W189 rfl rfl (by decide)
            have F192 := FR.w F187 W189 (show 1 = 1 ∧ 5 ≤ 11 ∨ 3 ≤ 1 ∧ 1 ≤ 5 ∨ 1 = 33 by decide)
            refine to_c (pc := 13) rw_84_13 (x := (0 : Int32)) rfl rfl (s_r1 (pc := 14) rw_84_14 (A := 0) rfl (by decide) (s_r1 (pc := 85) rw_103_85 (A := 0) rfl (by decide) ?_))
            have k_193 : (0 : Int32).toInt = 0 := rfl
            exact h (0 : Int32) M190 hG191 F192 (by decide) (by decide)
          · refine to_c (pc := 12) rw_43_12 (x := (1 : Int32)) rfl rfl (to_go (pc := 13) rw_43_13 (s_r1 (pc := 17) rw_43_17 (A := 1) rfl (by decide) (b_ine_t (pc := 77) rw_103_77 (A := 1) rfl (by decide) (to_an (pc := 86) rw_103_86 rfl (s_gR (pc := 87) rw_103_87 hG166 (by rcases hp with rfl | rfl <;> rfl) (v := (p + 3)) (by rcases hp with rfl | rfl <;> rfl) (to_i (pc := 90) rw_103_90 rfl (s_ial (pc := 92) rw_103_92 hG166 (by rcases hp with rfl | rfl <;> rfl) (n := 8) (by rcases hp with rfl | rfl <;> rfl) (by rcases hp with rfl | rfl <;> rfl) (A := r164.toInt) rfl (by omega) (by omega) (lo := 0) (hi := 59) (by rcases hp with rfl | rfl <;> rfl) (by rcases hp with rfl | rfl <;> rfl) (fun v194 w_195 _ _ => to_is (pc := 93) rw_103_93 (ls2 := [.ref 28, .ref 1, .ref p, .ref 11, .int s, .int v194, .int v2, .int r54, .int r164]) rfl rfl (to_an (pc := 95) rw_103_95 rfl (to_i (pc := 96) rw_103_96 rfl (s_v (pc := 98) rw_103_98 (dp0 hd (by decide)) (ls0 := [.ref p, .int r164]) rfl (Nat.le_of_ble_eq_true rfl) (Nat.le_of_ble_eq_true rfl) rfl (to_rc rfl rfl rfl (g_o hG166 (by rcases hp with rfl | rfl <;> rfl))) rfl ?_)))))))))))
            refine to_an (pc := 0) rw_47_0 rfl (s_gR (pc := 1) rw_47_1 hG166 (by rcases hp with rfl | rfl <;> rfl) (v := (p + 4)) (by rcases hp with rfl | rfl <;> rfl) (to_in (pc := 4) rw_47_4 rfl (s_ial (pc := 5) rw_47_5 hG166 (by rcases hp with rfl | rfl <;> rfl) (n := 8) (by rcases hp with rfl | rfl <;> rfl) (by rcases hp with rfl | rfl <;> rfl) (A := r164.toInt) rfl (by omega) (by omega) (lo := 0) (hi := 63) (by rcases hp with rfl | rfl <;> rfl) (by rcases hp with rfl | rfl <;> rfl) (fun v196 w_197 _ _ => to_an (pc := 6) rw_47_6 rfl (s_gR (pc := 7) rw_47_7 hG166 (by rcases hp with rfl | rfl <;> rfl) (v := (p + 3)) (by rcases hp with rfl | rfl <;> rfl) (to_in (pc := 10) rw_47_10 rfl (s_ialk (pc := 11) rw_47_11 hG166 (by rcases hp with rfl | rfl <;> rfl) (n := 8) (by rcases hp with rfl | rfl <;> rfl) (by rcases hp with rfl | rfl <;> rfl) (A := r164.toInt) rfl (by omega) (by omega) (v := v194) w_195 (s_sub (pc := 12) rw_47_12 (A := v196.toInt) (B := v194.toInt) rfl rfl (by omega) (fun v200 e201 => to_c (pc := 13) rw_47_13 (x := (1 : Int32)) rfl rfl (s_add (pc := 14) rw_47_14 (A := v200.toInt) (B := 1) rfl rfl (by omega) (fun v202 e203 => to_r0 (pc := 15) rw_47_15 ?_)))))))))))
            refine to_c (pc := 101) rw_103_101 (x := (1 : Int32)) rfl rfl (s_sub (pc := 102) rw_103_102 (A := v202.toInt) (B := 1) rfl rfl (by omega) (fun v204 e205 => to_is (pc := 103) rw_103_103 (ls2 := [.ref 28, .ref 1, .ref p, .ref 11, .int s, .int v194, .int v204, .int r54, .int r164]) rfl rfl (to_an (pc := 105) rw_103_105 rfl (s_v (pc := 106) rw_103_106 (dp0 hd (by decide)) (ls0 := [.ref 1]) rfl (Nat.le_of_ble_eq_true rfl) (Nat.le_of_ble_eq_true rfl) rfl (to_rc rfl rfl rfl (g_o hG166 rfl)) rfl (C_83 hX (dp1 hd (by decide)) hG166  (fun M208 hG207 F206 => ?_))))))
            have F209 := FR.c F170 F206 tg_134
            refine to_an (pc := 109) rw_103_109 rfl (to_c (pc := 110) rw_103_110 (x := (0 : Int32)) rfl rfl (to_i (pc := 111) rw_103_111 rfl (s_v (pc := 113) rw_103_113 (dp0 hd (by decide)) (ls0 := [.ref 1, .int (0 : Int32), .int v204]) rfl (Nat.le_of_ble_eq_true rfl) (Nat.le_of_ble_eq_true rfl) rfl (to_rc rfl rfl rfl (g_o hG207 rfl)) rfl (to_an (pc := 0) rw_88_0 rfl (tt_gI (pc := 1) rw_88_1 (g_o hG207 rfl) (v := (M208.2.1 1 7)) rfl (to_c (pc := 4) rw_88_4 (x := (2 : Int32)) rfl rfl (b_ceq (pc := 5) rw_88_5 (A := (M208.2.1 1 7).toInt) (B := 2) rfl rfl (fun h210 => ?_) (fun h210 => ?_))))))))
            · refine to_an (pc := 14) rw_88_14 rfl (tt_gI (pc := 15) rw_88_15 (g_o hG207 rfl) (v := (M208.2.1 1 8)) rfl (to_in (pc := 18) rw_88_18 rfl (b_clt (pc := 19) rw_88_19 (A := (M208.2.1 1 8).toInt) (B := 0) rfl rfl (fun h211 => ?_) (fun h211 => ?_))))
              · refine to_an (pc := 30) rw_88_30 rfl (to_c (pc := 31) rw_88_31 (x := (2 : Int32)) rfl rfl (s_v (pc := 32) rw_88_32 (dp1 hd (by decide)) (ls0 := [.ref 1, .int (2 : Int32)]) rfl (Nat.le_of_ble_eq_true rfl) (Nat.le_of_ble_eq_true rfl) rfl (to_rc rfl rfl rfl (g_o hG207 rfl)) rfl (to_an (pc := 0) rw_84_0 rfl (to_in (pc := 1) rw_84_1 rfl (s_pI (pc := 2) rw_84_2 hG207 rfl (fun M213 W212 => ?_))))))
                have hG214 := g_wf hG207 W212 rfl rfl (by decide)
                have F215 := FR.w F209 W212 (show 1 = 1 ∧ 5 ≤ 10 ∨ 3 ≤ 1 ∧ 1 ≤ 5 ∨ 1 = 33 by decide)
                refine to_an (pc := 5) rw_84_5 rfl (to_an (pc := 6) rw_84_6 rfl ?_)
                have c_216 : M213.2.1 1 9 = (M208.2.1 1 9) := (W_n W212 (by decide) rfl)
                refine tt_gI (pc := 7) rw_84_7 (g_o hG214 rfl) (v := (M208.2.1 1 9)) c_216 (s_pI (pc := 10) rw_84_10 hG214 rfl (fun M218 W217 => ?_))
                have hG219 := g_wf hG214 W217 rfl rfl (by decide)
                have F220 := FR.w F215 W217 (show 1 = 1 ∧ 5 ≤ 11 ∨ 3 ≤ 1 ∧ 1 ≤ 5 ∨ 1 = 33 by decide)
                refine to_c (pc := 13) rw_84_13 (x := (0 : Int32)) rfl rfl (s_r1 (pc := 14) rw_84_14 (A := 0) rfl (by decide) (b_ieq_t (pc := 35) rw_88_35 (A := 0) rfl (by decide) (to_c (pc := 42) rw_88_42 (x := (0 : Int32)) rfl rfl (s_r1 (pc := 43) rw_88_43 (A := 0) rfl (by decide) (b_ine_f (pc := 116) rw_103_116 (A := 0) rfl (by decide) (to_c (pc := 119) rw_103_119 (x := (0 : Int32)) rfl rfl (s_r1 (pc := 120) rw_103_120 (A := 0) rfl (by decide) ?_)))))))
                have k_221 : (0 : Int32).toInt = 0 := rfl
                exact h (0 : Int32) M218 hG219 F220 (by decide) (by decide)
              · refine to_an (pc := 22) rw_88_22 rfl (tt_gI (pc := 23) rw_88_23 (g_o hG207 rfl) (v := (M208.2.1 1 8)) rfl (to_in (pc := 26) rw_88_26 rfl (b_cle (pc := 27) rw_88_27 (A := (M208.2.1 1 8).toInt) (B := v204.toInt) rfl rfl (fun h222 => ?_) (fun h222 => ?_))))
                · refine to_c (pc := 38) rw_88_38 (x := (1 : Int32)) rfl rfl (to_go (pc := 39) rw_88_39 (s_r1 (pc := 43) rw_88_43 (A := 1) rfl (by decide) (b_ine_t (pc := 116) rw_103_116 (A := 1) rfl (by decide) (to_an (pc := 121) rw_103_121 rfl (s_gR (pc := 122) rw_103_122 hG207 rfl (v := 33) rfl (to_i (pc := 125) rw_103_125 rfl (to_dup2 (pc := 127) rw_103_127 (s_lal (pc := 128) rw_103_128 hG207 rfl (n := 40) rfl (A := s.toInt) rfl (by omega) (by omega) (fun l223 => s_cl (pc := 129) rw_103_129 rfl (fun l224 => to_i (pc := 130) rw_103_130 rfl (to_an (pc := 132) rw_103_132 rfl ?_)))))))))))
                  refine tt_gI (pc := 133) rw_103_133 (g_o hG207 rfl) (v := (M208.2.1 1 8)) rfl (s_add (pc := 136) rw_103_136 (A := v194.toInt) (B := (M208.2.1 1 8).toInt) rfl rfl (by omega) (fun v225 e226 => s_anyS (pc := 137) rw_103_137 (fun _ _ => rfl) (fun l227 => s_anyL (pc := 138) rw_103_138 (fun _ _ => rfl) (fun l228 => s_las (pc := 139) rw_103_139 hG207 rfl (n := 40) rfl (A := s.toInt) rfl (by omega) (by omega) (fun M230 W229 => ?_)))))
                  have hG231 := g_wl hG207 W229
                  have F232 := FR.wl F209 W229 (show 33 = 1 ∧ 5 ≤ (s.toInt).toNat ∨ 3 ≤ 33 ∧ 33 ≤ 5 ∨ 33 = 33 by omega)
                  refine to_an (pc := 140) rw_103_140 rfl (s_v (pc := 141) rw_103_141 (dp0 hd (by decide)) (ls0 := [.ref 1]) rfl (Nat.le_of_ble_eq_true rfl) (Nat.le_of_ble_eq_true rfl) rfl (to_rc rfl rfl rfl (g_o hG231 rfl)) rfl (C_83 hX (dp1 hd (by decide)) hG231  (fun M235 hG234 F233 => ?_)))
                  have F236 := FR.c F232 F233 tg_134
                  refine to_c (pc := 144) rw_103_144 (x := (1 : Int32)) rfl rfl (s_r1 (pc := 145) rw_103_145 (A := 1) rfl (by decide) ?_)
                  have k_237 : (1 : Int32).toInt = 1 := rfl
                  exact h (1 : Int32) M235 hG234 F236 (by decide) (by decide)
                · refine to_an (pc := 30) rw_88_30 rfl (to_c (pc := 31) rw_88_31 (x := (2 : Int32)) rfl rfl (s_v (pc := 32) rw_88_32 (dp1 hd (by decide)) (ls0 := [.ref 1, .int (2 : Int32)]) rfl (Nat.le_of_ble_eq_true rfl) (Nat.le_of_ble_eq_true rfl) rfl (to_rc rfl rfl rfl (g_o hG207 rfl)) rfl (to_an (pc := 0) rw_84_0 rfl (to_in (pc := 1) rw_84_1 rfl (s_pI (pc := 2) rw_84_2 hG207 rfl (fun M239 W238 => ?_))))))
                  have hG240 := g_wf hG207 W238 rfl rfl (by decide)
                  have F241 := FR.w F209 W238 (show 1 = 1 ∧ 5 ≤ 10 ∨ 3 ≤ 1 ∧ 1 ≤ 5 ∨ 1 = 33 by decide)
                  refine to_an (pc := 5) rw_84_5 rfl (to_an (pc := 6) rw_84_6 rfl ?_)
                  have c_242 : M239.2.1 1 9 = (M208.2.1 1 9) := (W_n W238 (by decide) rfl)
                  refine tt_gI (pc := 7) rw_84_7 (g_o hG240 rfl) (v := (M208.2.1 1 9)) c_242 (s_pI (pc := 10) rw_84_10 hG240 rfl (fun M244 W243 => ?_))
                  have hG245 := g_wf hG240 W243 rfl rfl (by decide)
                  have F246 := FR.w F241 W243 (show 1 = 1 ∧ 5 ≤ 11 ∨ 3 ≤ 1 ∧ 1 ≤ 5 ∨ 1 = 33 by decide)
                  refine to_c (pc := 13) rw_84_13 (x := (0 : Int32)) rfl rfl (s_r1 (pc := 14) rw_84_14 (A := 0) rfl (by decide) (b_ieq_t (pc := 35) rw_88_35 (A := 0) rfl (by decide) (to_c (pc := 42) rw_88_42 (x := (0 : Int32)) rfl rfl (s_r1 (pc := 43) rw_88_43 (A := 0) rfl (by decide) (b_ine_f (pc := 116) rw_103_116 (A := 0) rfl (by decide) (to_c (pc := 119) rw_103_119 (x := (0 : Int32)) rfl rfl (s_r1 (pc := 120) rw_103_120 (A := 0) rfl (by decide) ?_)))))))
                  have k_247 : (0 : Int32).toInt = 0 := rfl
                  exact h (0 : Int32) M244 hG245 F246 (by decide) (by decide)
            · refine to_an (pc := 8) rw_88_8 rfl (to_c (pc := 9) rw_88_9 (x := (1 : Int32)) rfl rfl (s_v (pc := 10) rw_88_10 (dp1 hd (by decide)) (ls0 := [.ref 1, .int (1 : Int32)]) rfl (Nat.le_of_ble_eq_true rfl) (Nat.le_of_ble_eq_true rfl) rfl (to_rc rfl rfl rfl (g_o hG207 rfl)) rfl (to_an (pc := 0) rw_84_0 rfl (to_in (pc := 1) rw_84_1 rfl (s_pI (pc := 2) rw_84_2 hG207 rfl (fun M249 W248 => ?_))))))
              have hG250 := g_wf hG207 W248 rfl rfl (by decide)
              have F251 := FR.w F209 W248 (show 1 = 1 ∧ 5 ≤ 10 ∨ 3 ≤ 1 ∧ 1 ≤ 5 ∨ 1 = 33 by decide)
              refine to_an (pc := 5) rw_84_5 rfl (to_an (pc := 6) rw_84_6 rfl ?_)
              have c_252 : M249.2.1 1 9 = (M208.2.1 1 9) := (W_n W248 (by decide) rfl)
              refine tt_gI (pc := 7) rw_84_7 (g_o hG250 rfl) (v := (M208.2.1 1 9)) c_252 (s_pI (pc := 10) rw_84_10 hG250 rfl (fun M254 W253 => ?_))
              have hG255 := g_wf hG250 W253 rfl rfl (by decide)
              have F256 := FR.w F251 W253 (show 1 = 1 ∧ 5 ≤ 11 ∨ 3 ≤ 1 ∧ 1 ≤ 5 ∨ 1 = 33 by decide)
              refine to_c (pc := 13) rw_84_13 (x := (0 : Int32)) rfl rfl (s_r1 (pc := 14) rw_84_14 (A := 0) rfl (by decide) (s_r1 (pc := 13) rw_88_13 (A := 0) rfl (by decide) (b_ine_f (pc := 116) rw_103_116 (A := 0) rfl (by decide) (to_c (pc := 119) rw_103_119 (x := (0 : Int32)) rfl rfl (s_r1 (pc := 120) rw_103_120 (A := 0) rfl (by decide) ?_)))))
              have k_257 : (0 : Int32).toInt = 0 := rfl
              exact h (0 : Int32) M254 hG255 F256 (by decide) (by decide)
      · refine to_c (pc := 12) rw_44_12 (x := (1 : Int32)) rfl rfl (to_go (pc := 13) rw_44_13 (s_r1 (pc := 17) rw_44_17 (A := 1) rfl (by decide) (b_ieq_f (pc := 35) rw_103_35 (A := 1) rfl (by decide) (to_an (pc := 38) rw_103_38 rfl (s_gR (pc := 39) rw_103_39 hG56 rfl (v := 33) rfl (to_i (pc := 42) rw_103_42 rfl (to_dup2 (pc := 44) rw_103_44 (s_lal (pc := 45) rw_103_45 hG56 rfl (n := 40) rfl (A := s.toInt) rfl (by omega) (by omega) (fun l258 => to_an (pc := 46) rw_103_46 rfl (s_gR (pc := 47) rw_103_47 hG56 rfl (v := 15) rfl (to_i (pc := 50) rw_103_50 rfl ?_)))))))))))
        refine s_lal (pc := 52) rw_103_52 hG56 rfl (n := 12) rfl (A := r54.toInt) rfl (by omega) (by omega) (fun l259 => s_anyL (pc := 53) rw_103_53 (fun _ _ => rfl) (fun l260 => s_las (pc := 54) rw_103_54 hG56 rfl (n := 40) rfl (A := s.toInt) rfl (by omega) (by omega) (fun M262 W261 => ?_)))
        have hG263 := g_wl hG56 W261
        have F264 := FR.wl F60 W261 (show 33 = 1 ∧ 5 ≤ (s.toInt).toNat ∨ 3 ≤ 33 ∧ 33 ≤ 5 ∨ 33 = 33 by omega)
        refine to_an (pc := 55) rw_103_55 rfl (s_v (pc := 56) rw_103_56 (dp0 hd (by decide)) (ls0 := [.ref 1]) rfl (Nat.le_of_ble_eq_true rfl) (Nat.le_of_ble_eq_true rfl) rfl (to_rc rfl rfl rfl (g_o hG263 rfl)) rfl (C_83 hX (dp1 hd (by decide)) hG263  (fun M267 hG266 F265 => ?_)))
        have F268 := FR.c F264 F265 tg_134
        refine to_c (pc := 59) rw_103_59 (x := (1 : Int32)) rfl rfl (s_r1 (pc := 60) rw_103_60 (A := 1) rfl (by decide) ?_)
        have k_269 : (1 : Int32).toInt = 1 := rfl
        exact h (1 : Int32) M267 hG266 F268 (by decide) (by decide)
set_option maxRecDepth 4000 in
set_option maxHeartbeats 0 in
theorem T_101_0 {X : mm_X} {d : Nat} {M : mm_M} {Q : Option Value → mm_M → Prop} {p : Nat} {s : Int32} (hX : g_X X) (hd : 3 ≤ d) (hp : p = 49 ∨ p = 58) (q1 : 0 ≤ s.toInt) (q2 : s.toInt ≤ 39) (h : ∀ (r : Int32) (M1 : mm_M), g_G M1 → FR md_wr M M1 → (0 ≤ r.toInt) → (r.toInt ≤ 1) → Q (some (.int r)) M1) : ∀ nn9 : Nat, (∀ (N : mm_M) (x5 : Int32), g_G N → FR md_wr M N → (0 ≤ x5.toInt) → (x5.toInt ≤ 500) → (0 ≤ s.toInt) → (s.toInt ≤ 39) → 500 - x5.toInt < (nn9 : Int) → mm_T X d 101 89 [.ref 28, .ref 1, .ref p, .ref 11, .int s, .int x5] [] N Q) := by
  intro nn9
  induction nn9 with
  | zero =>
    intro N x5 hG F0 g1 g2 g3 g4 hm
    exfalso; omega
  | succ nn9 ih =>
    intro N x5 hG F0 g1 g2 g3 g4 hm
    refine to_i (pc := 89) rw_101_89 rfl (to_c (pc := 91) rw_101_91 (x := (500 : Int32)) rfl rfl (b_cge (pc := 94) rw_101_94 (A := x5.toInt) (B := 500) rfl rfl (fun h1 => ?_) (fun h1 => ?_)))
    · refine to_an (pc := 126) rw_101_126 rfl (to_c (pc := 127) rw_101_127 (x := (59 : Int32)) rfl rfl (s_v (pc := 129) rw_101_129 (dp0 hd (by decide)) (ls0 := [.ref 1, .int (59 : Int32)]) rfl (Nat.le_of_ble_eq_true rfl) (Nat.le_of_ble_eq_true rfl) rfl (to_rc rfl rfl rfl (g_o hG rfl)) rfl ?_))
      have k_2 : (59 : Int32).toInt = 59 := rfl
      refine C_90 hX (dp1 hd (by decide)) hG (x := (59 : Int32)) (fun r3 M9 hG5 F4 p_6 p_7 p_8 => ?_)
      have F10 := FR.c F0 F4 tg_133
      refine s_r1 (pc := 132) rw_101_132 (A := r3.toInt) rfl (by omega) ?_
      exact h r3 M9 hG5 F10 (by omega) (by omega)
    · refine to_an (pc := 97) rw_101_97 rfl (tt_gI (pc := 98) rw_101_98 (g_o hG rfl) (v := (N.2.1 1 7)) rfl (to_c (pc := 101) rw_101_101 (x := (59 : Int32)) rfl rfl (b_ceq (pc := 103) rw_101_103 (A := (N.2.1 1 7).toInt) (B := 59) rfl rfl (fun h11 => ?_) (fun h11 => ?_))))
      · refine to_an (pc := 126) rw_101_126 rfl (to_c (pc := 127) rw_101_127 (x := (59 : Int32)) rfl rfl (s_v (pc := 129) rw_101_129 (dp0 hd (by decide)) (ls0 := [.ref 1, .int (59 : Int32)]) rfl (Nat.le_of_ble_eq_true rfl) (Nat.le_of_ble_eq_true rfl) rfl (to_rc rfl rfl rfl (g_o hG rfl)) rfl ?_))
        have k_12 : (59 : Int32).toInt = 59 := rfl
        refine C_90 hX (dp1 hd (by decide)) hG (x := (59 : Int32)) (fun r13 M19 hG15 F14 p_16 p_17 p_18 => ?_)
        have F20 := FR.c F0 F14 tg_133
        refine s_r1 (pc := 132) rw_101_132 (A := r13.toInt) rfl (by omega) ?_
        exact h r13 M19 hG15 F20 (by omega) (by omega)
      · refine to_an (pc := 106) rw_101_106 rfl (to_an (pc := 107) rw_101_107 rfl (to_an (pc := 108) rw_101_108 rfl (to_an (pc := 109) rw_101_109 rfl (to_i (pc := 110) rw_101_110 rfl (s_v (pc := 112) rw_101_112 (dp0 hd (by decide)) (ls0 := [.ref 28, .ref 1, .ref p, .ref 11, .int s, .null, .null, .null, .null]) rfl (Nat.le_of_ble_eq_true rfl) (Nat.le_of_ble_eq_true rfl) rfl (to_rc rfl rfl rfl (g_o hG rfl)) rfl (C_103 hX (dp1 hd (by decide)) hG hp (by omega) (by omega) (p := p) (s := s) (fun r21 M26 hG23 F22 p_24 p_25 => ?_)))))))
        have F27 := FR.c F0 F22 tg_136
        refine b_ine (pc := 115) rw_101_115 (A := r21.toInt) rfl (fun h28 => ?_) (fun h28 => ?_)
        · refine s_inc (pc := 120) rw_101_120 (ls2 := fun v => [.ref 28, .ref 1, .ref p, .ref 11, .int s, .int v]) rfl rfl (fun _ => rfl) (A := x5.toInt) (B := 1) rfl rfl (by omega) (fun v29 e30 => to_go (pc := 123) rw_101_123 ?_)
          exact ih M26 v29 hG23 F27 (by omega) (by omega) (by omega) (by omega) (by omega)
        · refine to_c (pc := 118) rw_101_118 (x := (0 : Int32)) rfl rfl (s_r1 (pc := 119) rw_101_119 (A := 0) rfl (by decide) ?_)
          have k_31 : (0 : Int32).toInt = 0 := rfl
          exact h (0 : Int32) M26 hG23 F27 (by decide) (by decide)
set_option maxRecDepth 4000 in
set_option maxHeartbeats 0 in
theorem C_101 {X : mm_X} {d : Nat} {M : mm_M} {Q : Option Value → mm_M → Prop} {p : Nat} {s : Int32} (hX : g_X X) (hd : 3 ≤ d) (hG : g_G M) (hp : p = 49 ∨ p = 58) (q1 : 0 ≤ s.toInt) (q2 : s.toInt ≤ 39) (h : ∀ (r : Int32) (M1 : mm_M), g_G M1 → FR md_wr M M1 → (0 ≤ r.toInt) → (r.toInt ≤ 1) → Q (some (.int r)) M1) : mm_T X d 101 0 [.ref 28, .ref 1, .ref p, .ref 11, .int s, .null] [] M Q := by
  have F0 : FR md_wr M M := FR.rf
  refine to_an (pc := 0) rw_101_0 rfl (to_an (pc := 1) rw_101_1 rfl (to_an (pc := 2) rw_101_2 rfl (s_gR (pc := 3) rw_101_3 hG rfl (v := 30) rfl (to_i (pc := 6) rw_101_6 rfl (s_v (pc := 8) rw_101_8 (dp0 hd (by decide)) (ls0 := [.ref 28, .ref 1, .ref 30, .int s, .null]) rfl (Nat.le_of_ble_eq_true rfl) (Nat.le_of_ble_eq_true rfl) rfl (to_rc rfl rfl rfl (g_o hG rfl)) rfl (C_102 hX (dp1 hd (by decide)) hG (by decide) (by omega) (by omega) (w := 30) (s := s) (fun r32 M37 hG34 F33 p_35 p_36 => ?_)))))))
  have F38 := FR.c F0 F33 tg_137
  refine b_ieq (pc := 11) rw_101_11 (A := r32.toInt) rfl (fun h39 => ?_) (fun h39 => ?_)
  · refine to_c (pc := 23) rw_101_23 (x := (0 : Int32)) rfl rfl (s_r1 (pc := 24) rw_101_24 (A := 0) rfl (by decide) ?_)
    have k_40 : (0 : Int32).toInt = 0 := rfl
    exact h (0 : Int32) M37 hG34 F38 (by decide) (by decide)
  · refine to_an (pc := 14) rw_101_14 rfl (to_c (pc := 15) rw_101_15 (x := (686817280 : Int32)) rfl rfl (s_v (pc := 17) rw_101_17 (dp0 hd (by decide)) (ls0 := [.ref 1, .int (686817280 : Int32)]) rfl (Nat.le_of_ble_eq_true rfl) (Nat.le_of_ble_eq_true rfl) rfl (to_rc rfl rfl rfl (g_o hG34 rfl)) rfl ?_))
    have k_41 : (686817280 : Int32).toInt = 686817280 := rfl
    refine C_89 hX (dp1 hd (by decide)) hG34 (x := (686817280 : Int32)) (fun r42 M47 hG44 F43 p_45 p_46 => ?_)
    have F48 := FR.c F38 F43 tg_133
    refine b_ine (pc := 20) rw_101_20 (A := r42.toInt) rfl (fun h49 => ?_) (fun h49 => ?_)
    · refine to_an (pc := 25) rw_101_25 rfl (to_an (pc := 26) rw_101_26 rfl (to_an (pc := 27) rw_101_27 rfl (s_gR (pc := 28) rw_101_28 hG44 rfl (v := 31) rfl (to_i (pc := 31) rw_101_31 rfl (s_v (pc := 33) rw_101_33 (dp0 hd (by decide)) (ls0 := [.ref 28, .ref 1, .ref 31, .int s, .null]) rfl (Nat.le_of_ble_eq_true rfl) (Nat.le_of_ble_eq_true rfl) rfl (to_rc rfl rfl rfl (g_o hG44 rfl)) rfl (C_102 hX (dp1 hd (by decide)) hG44 (by decide) (by omega) (by omega) (w := 31) (s := s) (fun r50 M55 hG52 F51 p_53 p_54 => ?_)))))))
      have F56 := FR.c F48 F51 tg_137
      refine b_ieq (pc := 36) rw_101_36 (A := r50.toInt) rfl (fun h57 => ?_) (fun h57 => ?_)
      · refine to_c (pc := 62) rw_101_62 (x := (0 : Int32)) rfl rfl (s_r1 (pc := 63) rw_101_63 (A := 0) rfl (by decide) ?_)
        have k_58 : (0 : Int32).toInt = 0 := rfl
        exact h (0 : Int32) M55 hG52 F56 (by decide) (by decide)
      · refine to_an (pc := 39) rw_101_39 rfl (to_an (pc := 40) rw_101_40 rfl (to_an (pc := 41) rw_101_41 rfl (s_gR (pc := 42) rw_101_42 hG52 rfl (v := 32) rfl (to_i (pc := 45) rw_101_45 rfl (s_v (pc := 47) rw_101_47 (dp0 hd (by decide)) (ls0 := [.ref 28, .ref 1, .ref 32, .int s, .null]) rfl (Nat.le_of_ble_eq_true rfl) (Nat.le_of_ble_eq_true rfl) rfl (to_rc rfl rfl rfl (g_o hG52 rfl)) rfl (C_102 hX (dp1 hd (by decide)) hG52 (by decide) (by omega) (by omega) (w := 32) (s := s) (fun r59 M64 hG61 F60 p_62 p_63 => ?_)))))))
        have F65 := FR.c F56 F60 tg_137
        refine b_ieq (pc := 50) rw_101_50 (A := r59.toInt) rfl (fun h66 => ?_) (fun h66 => ?_)
        · refine to_c (pc := 62) rw_101_62 (x := (0 : Int32)) rfl rfl (s_r1 (pc := 63) rw_101_63 (A := 0) rfl (by decide) ?_)
          have k_67 : (0 : Int32).toInt = 0 := rfl
          exact h (0 : Int32) M64 hG61 F65 (by decide) (by decide)
        · refine to_an (pc := 53) rw_101_53 rfl (to_c (pc := 54) rw_101_54 (x := (93323264 : Int32)) rfl rfl (s_v (pc := 56) rw_101_56 (dp0 hd (by decide)) (ls0 := [.ref 1, .int (93323264 : Int32)]) rfl (Nat.le_of_ble_eq_true rfl) (Nat.le_of_ble_eq_true rfl) rfl (to_rc rfl rfl rfl (g_o hG61 rfl)) rfl ?_))
          have k_68 : (93323264 : Int32).toInt = 93323264 := rfl
          refine C_89 hX (dp1 hd (by decide)) hG61 (x := (93323264 : Int32)) (fun r69 M74 hG71 F70 p_72 p_73 => ?_)
          have F75 := FR.c F65 F70 tg_133
          refine b_ine (pc := 59) rw_101_59 (A := r69.toInt) rfl (fun h76 => ?_) (fun h76 => ?_)
          · refine to_an (pc := 64) rw_101_64 rfl (s_gR (pc := 65) rw_101_65 hG71 rfl (v := 33) rfl (to_i (pc := 68) rw_101_68 rfl (s_cl (pc := 70) rw_101_70 rfl (fun l77 => s_las (pc := 71) rw_101_71 hG71 rfl (n := 40) rfl (A := s.toInt) rfl (by omega) (by omega) (fun M79 W78 => ?_)))))
            have hG80 := g_wl hG71 W78
            have F81 := FR.wl F75 W78 (show 33 = 1 ∧ 5 ≤ (s.toInt).toNat ∨ 3 ≤ 33 ∧ 33 ≤ 5 ∨ 29 ≤ 33 ∧ 33 ≤ 35 by omega)
            refine to_an (pc := 72) rw_101_72 rfl (to_an (pc := 73) rw_101_73 rfl (to_an (pc := 74) rw_101_74 rfl (to_an (pc := 75) rw_101_75 rfl (to_i (pc := 76) rw_101_76 rfl (s_v (pc := 78) rw_101_78 (dp0 hd (by decide)) (ls0 := [.ref 28, .ref 1, .ref p, .ref 11, .int s, .null, .null, .null, .null]) rfl (Nat.le_of_ble_eq_true rfl) (Nat.le_of_ble_eq_true rfl) rfl (to_rc rfl rfl rfl (g_o hG80 rfl)) rfl (C_103 hX (dp1 hd (by decide)) hG80 hp (by omega) (by omega) (p := p) (s := s) (fun r82 M87 hG84 F83 p_85 p_86 => ?_)))))))
            have F88 := FR.c F81 F83 tg_136
            refine b_ine (pc := 81) rw_101_81 (A := r82.toInt) rfl (fun h89 => ?_) (fun h89 => ?_)
            · refine to_c (pc := 86) rw_101_86 (x := (0 : Int32)) rfl rfl (to_is (pc := 87) rw_101_87 (ls2 := [.ref 28, .ref 1, .ref p, .ref 11, .int s, .int (0 : Int32)]) rfl rfl ?_)
              have k_90 : (0 : Int32).toInt = 0 := rfl
              exact (T_101_0 (p := p) (s := s) hX hd hp q1 q2 h ((500 - (0 : Int32).toInt).toNat + 1)) M87 (0 : Int32) hG84 F88 (by omega) (by omega) (by omega) (by omega) (by omega)
            · refine to_c (pc := 84) rw_101_84 (x := (0 : Int32)) rfl rfl (s_r1 (pc := 85) rw_101_85 (A := 0) rfl (by decide) ?_)
              have k_91 : (0 : Int32).toInt = 0 := rfl
              exact h (0 : Int32) M87 hG84 F88 (by decide) (by decide)
          · refine to_c (pc := 62) rw_101_62 (x := (0 : Int32)) rfl rfl (s_r1 (pc := 63) rw_101_63 (A := 0) rfl (by decide) ?_)
            have k_92 : (0 : Int32).toInt = 0 := rfl
            exact h (0 : Int32) M74 hG71 F75 (by decide) (by decide)
    · refine to_c (pc := 23) rw_101_23 (x := (0 : Int32)) rfl rfl (s_r1 (pc := 24) rw_101_24 (A := 0) rfl (by decide) ?_)
      have k_93 : (0 : Int32).toInt = 0 := rfl
      exact h (0 : Int32) M47 hG44 F48 (by decide) (by decide)
set_option maxRecDepth 4000 in
set_option maxHeartbeats 0 in
theorem C_104 {X : mm_X} {d : Nat} {M : mm_M} {Q : Option Value → mm_M → Prop} {s : Int32} (hX : g_X X) (hd : 2 ≤ d) (hG : g_G M) (q1 : 0 ≤ s.toInt) (q2 : s.toInt ≤ 39) (h : ∀ (r : Int32) (M1 : mm_M), g_G M1 → FR md_wr M M1 → (0 ≤ r.toInt) → (r.toInt ≤ 1) → Q (some (.int r)) M1) : mm_T X d 104 0 [.ref 28, .ref 1, .int s, .null] [] M Q := by
  have F0 : FR md_wr M M := FR.rf
  refine to_an (pc := 0) rw_104_0 rfl (to_an (pc := 1) rw_104_1 rfl (to_an (pc := 2) rw_104_2 rfl (s_gR (pc := 3) rw_104_3 hG rfl (v := 30) rfl (to_in (pc := 6) rw_104_6 rfl (s_v (pc := 7) rw_104_7 (dp0 hd (by decide)) (ls0 := [.ref 28, .ref 1, .ref 30, .int s, .null]) rfl (Nat.le_of_ble_eq_true rfl) (Nat.le_of_ble_eq_true rfl) rfl (to_rc rfl rfl rfl (g_o hG rfl)) rfl (C_102 hX (dp1 hd (by decide)) hG (by decide) (by omega) (by omega) (w := 30) (s := s) (fun r1 M6 hG3 F2 p_4 p_5 => ?_)))))))
  have F7 := FR.c F0 F2 tg_137
  refine b_ine (pc := 10) rw_104_10 (A := r1.toInt) rfl (fun h8 => ?_) (fun h8 => ?_)
  · refine to_an (pc := 15) rw_104_15 rfl (tt_gI (pc := 16) rw_104_16 (g_o hG3 rfl) (v := (M6.2.1 1 9)) rfl (to_isn (pc := 19) rw_104_19 (ls2 := [.ref 28, .ref 1, .int s, .int (M6.2.1 1 9)]) rfl rfl (to_an (pc := 20) rw_104_20 rfl (to_an (pc := 21) rw_104_21 rfl (to_an (pc := 22) rw_104_22 rfl (s_gR (pc := 23) rw_104_23 hG3 rfl (v := 31) rfl (to_in (pc := 26) rw_104_26 rfl (s_v (pc := 27) rw_104_27 (dp0 hd (by decide)) (ls0 := [.ref 28, .ref 1, .ref 31, .int s, .null]) rfl (Nat.le_of_ble_eq_true rfl) (Nat.le_of_ble_eq_true rfl) rfl (to_rc rfl rfl rfl (g_o hG3 rfl)) rfl (C_102 hX (dp1 hd (by decide)) hG3 (by decide) (by omega) (by omega) (w := 31) (s := s) (fun r9 M14 hG11 F10 p_12 p_13 => ?_))))))))))
    have F15 := FR.c F7 F10 tg_137
    refine b_ine (pc := 30) rw_104_30 (A := r9.toInt) rfl (fun h16 => ?_) (fun h16 => ?_)
    · refine to_an (pc := 35) rw_104_35 rfl (s_gR (pc := 36) rw_104_36 hG11 rfl (v := 30) rfl (to_in (pc := 39) rw_104_39 rfl (s_ial (pc := 40) rw_104_40 hG11 rfl (n := 40) rfl rfl (A := s.toInt) rfl (by omega) (by omega) (lo := 0) (hi := 5) rfl rfl (fun v17 w_18 _ _ => to_an (pc := 41) rw_104_41 rfl (s_gR (pc := 42) rw_104_42 hG11 rfl (v := 31) rfl (to_in (pc := 45) rw_104_45 rfl (s_ial (pc := 46) rw_104_46 hG11 rfl (n := 40) rfl rfl (A := s.toInt) rfl (by omega) (by omega) (lo := 0) (hi := 5) rfl rfl (fun v19 w_20 _ _ => b_cne (pc := 47) rw_104_47 (A := v17.toInt) (B := v19.toInt) rfl rfl (fun h21 => ?_) (fun h21 => ?_)))))))))
      · refine to_an (pc := 57) rw_104_57 rfl (to_c (pc := 58) rw_104_58 (x := (59 : Int32)) rfl rfl (s_v (pc := 60) rw_104_60 (dp0 hd (by decide)) (ls0 := [.ref 1, .int (59 : Int32)]) rfl (Nat.le_of_ble_eq_true rfl) (Nat.le_of_ble_eq_true rfl) rfl (to_rc rfl rfl rfl (g_o hG11 rfl)) rfl ?_))
        have k_22 : (59 : Int32).toInt = 59 := rfl
        refine C_90 hX (dp1 hd (by decide)) hG11 (x := (59 : Int32)) (fun r23 M29 hG25 F24 p_26 p_27 p_28 => ?_)
        have F30 := FR.c F15 F24 tg_133
        refine s_r1 (pc := 63) rw_104_63 (A := r23.toInt) rfl (by omega) ?_
        exact h r23 M29 hG25 F30 (by omega) (by omega)
      · refine to_an (pc := 50) rw_104_50 rfl (to_c (pc := 51) rw_104_51 (x := (3 : Int32)) rfl rfl (to_in (pc := 52) rw_104_52 rfl (s_v (pc := 53) rw_104_53 (dp0 hd (by decide)) (ls0 := [.ref 1, .int (3 : Int32), .int (M6.2.1 1 9)]) rfl (Nat.le_of_ble_eq_true rfl) (Nat.le_of_ble_eq_true rfl) rfl (to_rc rfl rfl rfl (g_o hG11 rfl)) rfl (to_an (pc := 0) rw_85_0 rfl (to_in (pc := 1) rw_85_1 rfl (s_pI (pc := 2) rw_85_2 hG11 rfl (fun M32 W31 => ?_)))))))
        have hG33 := g_wf hG11 W31 rfl rfl (by decide)
        have F34 := FR.w F15 W31 (show 1 = 1 ∧ 5 ≤ 10 ∨ 3 ≤ 1 ∧ 1 ≤ 5 ∨ 29 ≤ 1 ∧ 1 ≤ 35 by decide)
        refine to_an (pc := 5) rw_85_5 rfl (to_in (pc := 6) rw_85_6 rfl (s_pI (pc := 7) rw_85_7 hG33 rfl (fun M36 W35 => ?_)))
        have hG37 := g_wf hG33 W35 rfl rfl (by decide)
        have F38 := FR.w F34 W35 (show 1 = 1 ∧ 5 ≤ 11 ∨ 3 ≤ 1 ∧ 1 ≤ 5 ∨ 29 ≤ 1 ∧ 1 ≤ 35 by decide)
        refine to_c (pc := 10) rw_85_10 (x := (0 : Int32)) rfl rfl (s_r1 (pc := 11) rw_85_11 (A := 0) rfl (by decide) (s_r1 (pc := 56) rw_104_56 (A := 0) rfl (by decide) ?_))
        have k_39 : (0 : Int32).toInt = 0 := rfl
        exact h (0 : Int32) M36 hG37 F38 (by decide) (by decide)
    · refine to_c (pc := 33) rw_104_33 (x := (0 : Int32)) rfl rfl (s_r1 (pc := 34) rw_104_34 (A := 0) rfl (by decide) ?_)
      have k_40 : (0 : Int32).toInt = 0 := rfl
      exact h (0 : Int32) M14 hG11 F15 (by decide) (by decide)
  · refine to_c (pc := 13) rw_104_13 (x := (0 : Int32)) rfl rfl (s_r1 (pc := 14) rw_104_14 (A := 0) rfl (by decide) ?_)
    have k_41 : (0 : Int32).toInt = 0 := rfl
    exact h (0 : Int32) M6 hG3 F7 (by decide) (by decide)
noncomputable def RC_99 (k : Int) : Prop := ∀ (X : mm_X) (d : Nat) (M : mm_M) (Q : Option Value → mm_M → Prop) (p : Nat) (o : Int32), g_X X → (5 + 3 * (5 - o.toInt) ≤ (d : Int)) → g_G M → (p = 49 ∨ p = 58) → (0 ≤ o.toInt) → (o.toInt ≤ 5) → 5 - o.toInt < k → (∀ (r : Int32) (M1 : mm_M), g_G M1 → FR md_wt M M1 → (0 ≤ r.toInt) → (r.toInt ≤ 1) → Q (some (.int r)) M1) → mm_T X d 99 0 [.ref 28, .ref 1, .ref p, .ref 11, .int o, .null] [] M Q
set_option maxRecDepth 4000 in
set_option maxHeartbeats 0 in
theorem C_105 {X : mm_X} {d : Nat} {M : mm_M} {Q : Option Value → mm_M → Prop} {p : Nat} {o : Int32} {s : Int32} (hX : g_X X) (hd : 3 + 3 * (5 - o.toInt) ≤ (d : Int)) (hG : g_G M) (hp : p = 49 ∨ p = 58) (q1 : 0 ≤ o.toInt) (q2 : o.toInt ≤ 5) (q3 : 0 ≤ s.toInt) (q4 : s.toInt ≤ 39) (hr : RC_99 (5 - o.toInt)) (h : ∀ (r : Int32) (M1 : mm_M), g_G M1 → FR md_wt M M1 → (0 ≤ r.toInt) → (r.toInt ≤ 1) → Q (some (.int r)) M1) : mm_T X d 105 0 [.ref 28, .ref 1, .ref p, .ref 11, .int o, .int s] [] M Q := by
  have F0 : FR md_wt M M := FR.rf
  refine to_an (pc := 0) rw_105_0 rfl (to_c (pc := 1) rw_105_1 (x := (0 : Int32)) rfl rfl (to_c (pc := 2) rw_105_2 (x := (99 : Int32)) rfl rfl (s_v (pc := 4) rw_105_4 (by omega) (ls0 := [.ref 1, .int (0 : Int32), .int (99 : Int32)]) rfl (Nat.le_of_ble_eq_true rfl) (Nat.le_of_ble_eq_true rfl) rfl (to_rc rfl rfl rfl (g_o hG rfl)) rfl (to_an (pc := 0) rw_88_0 rfl (tt_gI (pc := 1) rw_88_1 (g_o hG rfl) (v := (M.2.1 1 7)) rfl (to_c (pc := 4) rw_88_4 (x := (2 : Int32)) rfl rfl (b_ceq (pc := 5) rw_88_5 (A := (M.2.1 1 7).toInt) (B := 2) rfl rfl (fun h1 => ?_) (fun h1 => ?_))))))))
  · refine to_an (pc := 14) rw_88_14 rfl (tt_gI (pc := 15) rw_88_15 (g_o hG rfl) (v := (M.2.1 1 8)) rfl (to_in (pc := 18) rw_88_18 rfl (b_clt (pc := 19) rw_88_19 (A := (M.2.1 1 8).toInt) (B := 0) rfl rfl (fun h2 => ?_) (fun h2 => ?_))))
    · refine to_an (pc := 30) rw_88_30 rfl (to_c (pc := 31) rw_88_31 (x := (2 : Int32)) rfl rfl (s_v (pc := 32) rw_88_32 (by omega) (ls0 := [.ref 1, .int (2 : Int32)]) rfl (Nat.le_of_ble_eq_true rfl) (Nat.le_of_ble_eq_true rfl) rfl (to_rc rfl rfl rfl (g_o hG rfl)) rfl (to_an (pc := 0) rw_84_0 rfl (to_in (pc := 1) rw_84_1 rfl (s_pI (pc := 2) rw_84_2 hG rfl (fun M4 W3 => ?_))))))
      have hG5 := g_wf hG W3 rfl rfl (by decide)
      have F6 := FR.w F0 W3 (show 1 = 1 ∧ 5 ≤ 10 ∨ 3 ≤ 1 ∧ 1 ≤ 5 ∨ 28 ≤ 1 ∧ 1 ≤ 35 by decide)
      refine to_an (pc := 5) rw_84_5 rfl (to_an (pc := 6) rw_84_6 rfl ?_)
      have c_7 : M4.2.1 1 9 = (M.2.1 1 9) := (W_n W3 (by decide) rfl)
      refine tt_gI (pc := 7) rw_84_7 (g_o hG5 rfl) (v := (M.2.1 1 9)) c_7 (s_pI (pc := 10) rw_84_10 hG5 rfl (fun M9 W8 => ?_))
      have hG10 := g_wf hG5 W8 rfl rfl (by decide)
      have F11 := FR.w F6 W8 (show 1 = 1 ∧ 5 ≤ 11 ∨ 3 ≤ 1 ∧ 1 ≤ 5 ∨ 28 ≤ 1 ∧ 1 ≤ 35 by decide)
      refine to_c (pc := 13) rw_84_13 (x := (0 : Int32)) rfl rfl (s_r1 (pc := 14) rw_84_14 (A := 0) rfl (by decide) (b_ieq_t (pc := 35) rw_88_35 (A := 0) rfl (by decide) (to_c (pc := 42) rw_88_42 (x := (0 : Int32)) rfl rfl (s_r1 (pc := 43) rw_88_43 (A := 0) rfl (by decide) (b_ine_f (pc := 7) rw_105_7 (A := 0) rfl (by decide) (to_c (pc := 10) rw_105_10 (x := (0 : Int32)) rfl rfl (s_r1 (pc := 11) rw_105_11 (A := 0) rfl (by decide) ?_)))))))
      have k_12 : (0 : Int32).toInt = 0 := rfl
      exact h (0 : Int32) M9 hG10 F11 (by decide) (by decide)
    · refine to_an (pc := 22) rw_88_22 rfl (tt_gI (pc := 23) rw_88_23 (g_o hG rfl) (v := (M.2.1 1 8)) rfl (to_in (pc := 26) rw_88_26 rfl (b_cle (pc := 27) rw_88_27 (A := (M.2.1 1 8).toInt) (B := 99) rfl rfl (fun h13 => ?_) (fun h13 => ?_))))
      · refine to_c (pc := 38) rw_88_38 (x := (1 : Int32)) rfl rfl (to_go (pc := 39) rw_88_39 (s_r1 (pc := 43) rw_88_43 (A := 1) rfl (by decide) (b_ine_t (pc := 7) rw_105_7 (A := 1) rfl (by decide) (to_an (pc := 12) rw_105_12 rfl (s_gR (pc := 13) rw_105_13 hG rfl (v := 34) rfl (to_i (pc := 16) rw_105_16 rfl (to_an (pc := 18) rw_105_18 rfl (tt_gI (pc := 19) rw_105_19 (g_o hG rfl) (v := (M.2.1 1 8)) rfl (s_ias (pc := 22) rw_105_22 hG rfl (n := 40) rfl (A := s.toInt) rfl (by omega) (by omega) (fun M15 W14 => ?_))))))))))
        have hG16 := g_w hG W14 (A := (M.2.1 1 8).toInt) rfl (lo := 0) (hi := 99) rfl rfl (by omega) (by decide)
        have F17 := FR.w F0 W14 (show 34 = 1 ∧ 5 ≤ (s.toInt).toNat ∨ 3 ≤ 34 ∧ 34 ≤ 5 ∨ 28 ≤ 34 ∧ 34 ≤ 35 by omega)
        refine to_an (pc := 23) rw_105_23 rfl (s_v (pc := 24) rw_105_24 (by omega) (ls0 := [.ref 1]) rfl (Nat.le_of_ble_eq_true rfl) (Nat.le_of_ble_eq_true rfl) rfl (to_rc rfl rfl rfl (g_o hG16 rfl)) rfl (C_83 hX (by omega) hG16  (fun M20 hG19 F18 => ?_)))
        have F21 := FR.c F17 F18 tg_138
        refine to_an (pc := 27) rw_105_27 rfl (tt_gI (pc := 28) rw_105_28 (g_o hG19 rfl) (v := (M20.2.1 1 7)) rfl (to_c (pc := 31) rw_105_31 (x := (40 : Int32)) rfl rfl (b_cne (pc := 33) rw_105_33 (A := (M20.2.1 1 7).toInt) (B := 40) rfl rfl (fun h22 => ?_) (fun h22 => ?_))))
        · refine to_an (pc := 48) rw_105_48 rfl (to_c (pc := 49) rw_105_49 (x := (40 : Int32)) rfl rfl (s_v (pc := 51) rw_105_51 (by omega) (ls0 := [.ref 1, .int (40 : Int32)]) rfl (Nat.le_of_ble_eq_true rfl) (Nat.le_of_ble_eq_true rfl) rfl (to_rc rfl rfl rfl (g_o hG19 rfl)) rfl ?_))
          have k_23 : (40 : Int32).toInt = 40 := rfl
          refine C_90 hX (by omega) hG19 (x := (40 : Int32)) (fun r24 M30 hG26 F25 p_27 p_28 p_29 => ?_)
          have F31 := FR.c F21 F25 tg_138
          refine b_ieq (pc := 54) rw_105_54 (A := r24.toInt) rfl (fun h32 => ?_) (fun h32 => ?_)
          · refine to_c (pc := 84) rw_105_84 (x := (0 : Int32)) rfl rfl (s_r1 (pc := 85) rw_105_85 (A := 0) rfl (by decide) ?_)
            have k_33 : (0 : Int32).toInt = 0 := rfl
            exact h (0 : Int32) M30 hG26 F31 (by decide) (by decide)
          · refine to_an (pc := 57) rw_105_57 rfl (to_an (pc := 58) rw_105_58 rfl (to_an (pc := 59) rw_105_59 rfl (to_an (pc := 60) rw_105_60 rfl (to_i (pc := 61) rw_105_61 rfl (to_c (pc := 63) rw_105_63 (x := (1 : Int32)) rfl rfl (s_add (pc := 64) rw_105_64 (A := o.toInt) (B := 1) rfl rfl (by omega) (fun v34 e35 => s_v (pc := 65) rw_105_65 (by omega) (ls0 := [.ref 28, .ref 1, .ref p, .ref 11, .int v34, .null]) rfl (Nat.le_of_ble_eq_true rfl) (Nat.le_of_ble_eq_true rfl) rfl (to_rc rfl rfl rfl (g_o hG26 rfl)) rfl (hr X _ _ _ p v34 hX (by omega) hG26 hp (by omega) (by omega) (by omega) (fun r36 M41 hG38 F37 p_39 p_40 => ?_)))))))))
            have F42 := FR.c F31 F37 tg_139
            refine b_ieq (pc := 68) rw_105_68 (A := r36.toInt) rfl (fun h43 => ?_) (fun h43 => ?_)
            · refine to_c (pc := 84) rw_105_84 (x := (0 : Int32)) rfl rfl (s_r1 (pc := 85) rw_105_85 (A := 0) rfl (by decide) ?_)
              have k_44 : (0 : Int32).toInt = 0 := rfl
              exact h (0 : Int32) M41 hG38 F42 (by decide) (by decide)
            · refine to_an (pc := 71) rw_105_71 rfl (to_c (pc := 72) rw_105_72 (x := (41 : Int32)) rfl rfl (s_v (pc := 74) rw_105_74 (by omega) (ls0 := [.ref 1, .int (41 : Int32)]) rfl (Nat.le_of_ble_eq_true rfl) (Nat.le_of_ble_eq_true rfl) rfl (to_rc rfl rfl rfl (g_o hG38 rfl)) rfl ?_))
              have k_45 : (41 : Int32).toInt = 41 := rfl
              refine C_90 hX (by omega) hG38 (x := (41 : Int32)) (fun r46 M52 hG48 F47 p_49 p_50 p_51 => ?_)
              have F53 := FR.c F42 F47 tg_138
              refine b_ieq (pc := 77) rw_105_77 (A := r46.toInt) rfl (fun h54 => ?_) (fun h54 => ?_)
              · refine to_c (pc := 84) rw_105_84 (x := (0 : Int32)) rfl rfl (s_r1 (pc := 85) rw_105_85 (A := 0) rfl (by decide) ?_)
                have k_55 : (0 : Int32).toInt = 0 := rfl
                exact h (0 : Int32) M52 hG48 F53 (by decide) (by decide)
              · refine to_c (pc := 80) rw_105_80 (x := (1 : Int32)) rfl rfl (to_go (pc := 81) rw_105_81 (s_r1 (pc := 85) rw_105_85 (A := 1) rfl (by decide) ?_))
                have k_56 : (1 : Int32).toInt = 1 := rfl
                exact h (1 : Int32) M52 hG48 F53 (by decide) (by decide)
        · refine to_i (pc := 36) rw_105_36 rfl (to_c (pc := 38) rw_105_38 (x := (5 : Int32)) rfl rfl (b_clt (pc := 39) rw_105_39 (A := o.toInt) (B := 5) rfl rfl (fun h57 => ?_) (fun h57 => ?_)))
          · refine to_an (pc := 48) rw_105_48 rfl (to_c (pc := 49) rw_105_49 (x := (40 : Int32)) rfl rfl (s_v (pc := 51) rw_105_51 (by omega) (ls0 := [.ref 1, .int (40 : Int32)]) rfl (Nat.le_of_ble_eq_true rfl) (Nat.le_of_ble_eq_true rfl) rfl (to_rc rfl rfl rfl (g_o hG19 rfl)) rfl ?_))
            have k_58 : (40 : Int32).toInt = 40 := rfl
            refine C_90 hX (by omega) hG19 (x := (40 : Int32)) (fun r59 M65 hG61 F60 p_62 p_63 p_64 => ?_)
            have F66 := FR.c F21 F60 tg_138
            refine b_ieq (pc := 54) rw_105_54 (A := r59.toInt) rfl (fun h67 => ?_) (fun h67 => ?_)
            · refine to_c (pc := 84) rw_105_84 (x := (0 : Int32)) rfl rfl (s_r1 (pc := 85) rw_105_85 (A := 0) rfl (by decide) ?_)
              have k_68 : (0 : Int32).toInt = 0 := rfl
              exact h (0 : Int32) M65 hG61 F66 (by decide) (by decide)
            · refine to_an (pc := 57) rw_105_57 rfl (to_an (pc := 58) rw_105_58 rfl (to_an (pc := 59) rw_105_59 rfl (to_an (pc := 60) rw_105_60 rfl (to_i (pc := 61) rw_105_61 rfl (to_c (pc := 63) rw_105_63 (x := (1 : Int32)) rfl rfl (s_add (pc := 64) rw_105_64 (A := o.toInt) (B := 1) rfl rfl (by omega) (fun v69 e70 => s_v (pc := 65) rw_105_65 (by omega) (ls0 := [.ref 28, .ref 1, .ref p, .ref 11, .int v69, .null]) rfl (Nat.le_of_ble_eq_true rfl) (Nat.le_of_ble_eq_true rfl) rfl (to_rc rfl rfl rfl (g_o hG61 rfl)) rfl (hr X _ _ _ p v69 hX (by omega) hG61 hp (by omega) (by omega) (by omega) (fun r71 M76 hG73 F72 p_74 p_75 => ?_)))))))))
              have F77 := FR.c F66 F72 tg_139
              refine b_ieq (pc := 68) rw_105_68 (A := r71.toInt) rfl (fun h78 => ?_) (fun h78 => ?_)
              · refine to_c (pc := 84) rw_105_84 (x := (0 : Int32)) rfl rfl (s_r1 (pc := 85) rw_105_85 (A := 0) rfl (by decide) ?_)
                have k_79 : (0 : Int32).toInt = 0 := rfl
                exact h (0 : Int32) M76 hG73 F77 (by decide) (by decide)
              · refine to_an (pc := 71) rw_105_71 rfl (to_c (pc := 72) rw_105_72 (x := (41 : Int32)) rfl rfl (s_v (pc := 74) rw_105_74 (by omega) (ls0 := [.ref 1, .int (41 : Int32)]) rfl (Nat.le_of_ble_eq_true rfl) (Nat.le_of_ble_eq_true rfl) rfl (to_rc rfl rfl rfl (g_o hG73 rfl)) rfl ?_))
                have k_80 : (41 : Int32).toInt = 41 := rfl
                refine C_90 hX (by omega) hG73 (x := (41 : Int32)) (fun r81 M87 hG83 F82 p_84 p_85 p_86 => ?_)
                have F88 := FR.c F77 F82 tg_138
                refine b_ieq (pc := 77) rw_105_77 (A := r81.toInt) rfl (fun h89 => ?_) (fun h89 => ?_)
                · refine to_c (pc := 84) rw_105_84 (x := (0 : Int32)) rfl rfl (s_r1 (pc := 85) rw_105_85 (A := 0) rfl (by decide) ?_)
                  have k_90 : (0 : Int32).toInt = 0 := rfl
                  exact h (0 : Int32) M87 hG83 F88 (by decide) (by decide)
                · refine to_c (pc := 80) rw_105_80 (x := (1 : Int32)) rfl rfl (to_go (pc := 81) rw_105_81 (s_r1 (pc := 85) rw_105_85 (A := 1) rfl (by decide) ?_))
                  have k_91 : (1 : Int32).toInt = 1 := rfl
                  exact h (1 : Int32) M87 hG83 F88 (by decide) (by decide)
          · refine to_an (pc := 42) rw_105_42 rfl (to_c (pc := 43) rw_105_43 (x := (2 : Int32)) rfl rfl (s_v (pc := 44) rw_105_44 (by omega) (ls0 := [.ref 1, .int (2 : Int32)]) rfl (Nat.le_of_ble_eq_true rfl) (Nat.le_of_ble_eq_true rfl) rfl (to_rc rfl rfl rfl (g_o hG19 rfl)) rfl (to_an (pc := 0) rw_84_0 rfl (to_in (pc := 1) rw_84_1 rfl (s_pI (pc := 2) rw_84_2 hG19 rfl (fun M93 W92 => ?_))))))
            have hG94 := g_wf hG19 W92 rfl rfl (by decide)
            have F95 := FR.w F21 W92 (show 1 = 1 ∧ 5 ≤ 10 ∨ 3 ≤ 1 ∧ 1 ≤ 5 ∨ 28 ≤ 1 ∧ 1 ≤ 35 by decide)
            refine to_an (pc := 5) rw_84_5 rfl (to_an (pc := 6) rw_84_6 rfl ?_)
            have c_96 : M93.2.1 1 9 = (M20.2.1 1 9) := (W_n W92 (by decide) rfl)
            refine tt_gI (pc := 7) rw_84_7 (g_o hG94 rfl) (v := (M20.2.1 1 9)) c_96 (s_pI (pc := 10) rw_84_10 hG94 rfl (fun M98 W97 => ?_))
            have hG99 := g_wf hG94 W97 rfl rfl (by decide)
            have F100 := FR.w F95 W97 (show 1 = 1 ∧ 5 ≤ 11 ∨ 3 ≤ 1 ∧ 1 ≤ 5 ∨ 28 ≤ 1 ∧ 1 ≤ 35 by decide)
            refine to_c (pc := 13) rw_84_13 (x := (0 : Int32)) rfl rfl (s_r1 (pc := 14) rw_84_14 (A := 0) rfl (by decide) (s_r1 (pc := 47) rw_105_47 (A := 0) rfl (by decide) ?_))
            have k_101 : (0 : Int32).toInt = 0 := rfl
            exact h (0 : Int32) M98 hG99 F100 (by decide) (by decide)
      · refine to_an (pc := 30) rw_88_30 rfl (to_c (pc := 31) rw_88_31 (x := (2 : Int32)) rfl rfl (s_v (pc := 32) rw_88_32 (by omega) (ls0 := [.ref 1, .int (2 : Int32)]) rfl (Nat.le_of_ble_eq_true rfl) (Nat.le_of_ble_eq_true rfl) rfl (to_rc rfl rfl rfl (g_o hG rfl)) rfl (to_an (pc := 0) rw_84_0 rfl (to_in (pc := 1) rw_84_1 rfl (s_pI (pc := 2) rw_84_2 hG rfl (fun M103 W102 => ?_))))))
        have hG104 := g_wf hG W102 rfl rfl (by decide)
        have F105 := FR.w F0 W102 (show 1 = 1 ∧ 5 ≤ 10 ∨ 3 ≤ 1 ∧ 1 ≤ 5 ∨ 28 ≤ 1 ∧ 1 ≤ 35 by decide)
        refine to_an (pc := 5) rw_84_5 rfl (to_an (pc := 6) rw_84_6 rfl ?_)
        have c_106 : M103.2.1 1 9 = (M.2.1 1 9) := (W_n W102 (by decide) rfl)
        refine tt_gI (pc := 7) rw_84_7 (g_o hG104 rfl) (v := (M.2.1 1 9)) c_106 (s_pI (pc := 10) rw_84_10 hG104 rfl (fun M108 W107 => ?_))
        have hG109 := g_wf hG104 W107 rfl rfl (by decide)
        have F110 := FR.w F105 W107 (show 1 = 1 ∧ 5 ≤ 11 ∨ 3 ≤ 1 ∧ 1 ≤ 5 ∨ 28 ≤ 1 ∧ 1 ≤ 35 by decide)
        refine to_c (pc := 13) rw_84_13 (x := (0 : Int32)) rfl rfl (s_r1 (pc := 14) rw_84_14 (A := 0) rfl (by decide) (b_ieq_t (pc := 35) rw_88_35 (A := 0) rfl (by decide) (to_c (pc := 42) rw_88_42 (x := (0 : Int32)) rfl rfl (s_r1 (pc := 43) rw_88_43 (A := 0) rfl (by decide) (b_ine_f (pc := 7) rw_105_7 (A := 0) rfl (by decide) (to_c (pc := 10) rw_105_10 (x := (0 : Int32)) rfl rfl (s_r1 (pc := 11) rw_105_11 (A := 0) rfl (by decide) ?_)))))))
        have k_111 : (0 : Int32).toInt = 0 := rfl
        exact h (0 : Int32) M108 hG109 F110 (by decide) (by decide)
  · refine to_an (pc := 8) rw_88_8 rfl (to_c (pc := 9) rw_88_9 (x := (1 : Int32)) rfl rfl (s_v (pc := 10) rw_88_10 (by omega) (ls0 := [.ref 1, .int (1 : Int32)]) rfl (Nat.le_of_ble_eq_true rfl) (Nat.le_of_ble_eq_true rfl) rfl (to_rc rfl rfl rfl (g_o hG rfl)) rfl (to_an (pc := 0) rw_84_0 rfl (to_in (pc := 1) rw_84_1 rfl (s_pI (pc := 2) rw_84_2 hG rfl (fun M113 W112 => ?_))))))
    have hG114 := g_wf hG W112 rfl rfl (by decide)
    have F115 := FR.w F0 W112 (show 1 = 1 ∧ 5 ≤ 10 ∨ 3 ≤ 1 ∧ 1 ≤ 5 ∨ 28 ≤ 1 ∧ 1 ≤ 35 by decide)
    refine to_an (pc := 5) rw_84_5 rfl (to_an (pc := 6) rw_84_6 rfl ?_)
    have c_116 : M113.2.1 1 9 = (M.2.1 1 9) := (W_n W112 (by decide) rfl)
    refine tt_gI (pc := 7) rw_84_7 (g_o hG114 rfl) (v := (M.2.1 1 9)) c_116 (s_pI (pc := 10) rw_84_10 hG114 rfl (fun M118 W117 => ?_))
    have hG119 := g_wf hG114 W117 rfl rfl (by decide)
    have F120 := FR.w F115 W117 (show 1 = 1 ∧ 5 ≤ 11 ∨ 3 ≤ 1 ∧ 1 ≤ 5 ∨ 28 ≤ 1 ∧ 1 ≤ 35 by decide)
    refine to_c (pc := 13) rw_84_13 (x := (0 : Int32)) rfl rfl (s_r1 (pc := 14) rw_84_14 (A := 0) rfl (by decide) (s_r1 (pc := 13) rw_88_13 (A := 0) rfl (by decide) (b_ine_f (pc := 7) rw_105_7 (A := 0) rfl (by decide) (to_c (pc := 10) rw_105_10 (x := (0 : Int32)) rfl rfl (s_r1 (pc := 11) rw_105_11 (A := 0) rfl (by decide) ?_)))))
    have k_121 : (0 : Int32).toInt = 0 := rfl
    exact h (0 : Int32) M118 hG119 F120 (by decide) (by decide)
set_option maxRecDepth 4000 in
set_option maxHeartbeats 0 in
theorem C_100 {X : mm_X} {d : Nat} {M : mm_M} {Q : Option Value → mm_M → Prop} {p : Nat} {o : Int32} (hX : g_X X) (hd : 4 + 3 * (5 - o.toInt) ≤ (d : Int)) (hG : g_G M) (hp : p = 49 ∨ p = 58) (q1 : 0 ≤ o.toInt) (q2 : o.toInt ≤ 5) (hr : RC_99 (5 - o.toInt)) (h : ∀ (r : Int32) (M1 : mm_M), g_G M1 → FR md_wt M M1 → (0 ≤ r.toInt) → (r.toInt ≤ 1) → Q (some (.int r)) M1) : mm_T X d 100 0 [.ref 28, .ref 1, .ref p, .ref 11, .int o, .null, .null, .null] [] M Q := by
  have F0 : FR md_wt M M := FR.rf
  refine to_an (pc := 0) rw_100_0 rfl (tt_gI (pc := 1) rw_100_1 (g_o hG rfl) (v := (M.2.1 1 8)) rfl (to_is (pc := 4) rw_100_4 (ls2 := [.ref 28, .ref 1, .ref p, .ref 11, .int o, .int (M.2.1 1 8), .null, .null]) rfl rfl (to_i (pc := 6) rw_100_6 rfl (to_c (pc := 8) rw_100_8 (x := (538561536 : Int32)) rfl rfl (b_ceq (pc := 10) rw_100_10 (A := (M.2.1 1 8).toInt) (B := 538561536) rfl rfl (fun h1 => ?_) (fun h1 => ?_))))))
  · refine to_an (pc := 33) rw_100_33 rfl ?_
    have b_2 := g_b hG (a := 28) (i := 7) (lo := 0) (hi := 40) rfl rfl
    refine tt_gI (pc := 34) rw_100_34 (g_o hG rfl) (v := (M.2.1 28 7)) rfl (to_c (pc := 37) rw_100_37 (x := (40 : Int32)) rfl rfl (b_clt (pc := 39) rw_100_39 (A := (M.2.1 28 7).toInt) (B := 40) rfl rfl (fun h3 => ?_) (fun h3 => ?_)))
    · refine to_an (pc := 48) rw_100_48 rfl (tt_gI (pc := 49) rw_100_49 (g_o hG rfl) (v := (M.2.1 28 7)) rfl (to_is (pc := 52) rw_100_52 (ls2 := [.ref 28, .ref 1, .ref p, .ref 11, .int o, .int (M.2.1 1 8), .int (M.2.1 28 7), .null]) rfl rfl (to_an (pc := 54) rw_100_54 rfl (to_dupr (pc := 55) rw_100_55 (tt_gI (pc := 56) rw_100_56 (g_o hG rfl) (v := (M.2.1 28 7)) rfl (to_c (pc := 59) rw_100_59 (x := (1 : Int32)) rfl rfl (s_add (pc := 60) rw_100_60 (A := (M.2.1 28 7).toInt) (B := 1) rfl rfl (by omega) (fun v4 e5 => s_pI (pc := 61) rw_100_61 hG rfl (fun M7 W6 => ?_)))))))))
      have hG8 := g_w hG W6 (A := v4.toInt) rfl (lo := 0) (hi := 40) rfl rfl (by omega) (by decide)
      have F9 := FR.w F0 W6 (show 28 = 1 ∧ 5 ≤ 7 ∨ 3 ≤ 28 ∧ 28 ≤ 5 ∨ 28 ≤ 28 ∧ 28 ≤ 35 by decide)
      refine to_an (pc := 64) rw_100_64 rfl (s_gR (pc := 65) rw_100_65 hG8 rfl (v := 29) rfl (to_i (pc := 68) rw_100_68 rfl (to_i (pc := 70) rw_100_70 rfl (s_ias (pc := 72) rw_100_72 hG8 rfl (n := 40) rfl (A := (M.2.1 28 7).toInt) rfl (by omega) (by omega) (fun M11 W10 => ?_)))))
      have hG12 := g_wf hG8 W10 rfl rfl (by decide)
      have F13 := FR.w F9 W10 (show 29 = 1 ∧ 5 ≤ ((M.2.1 28 7).toInt).toNat ∨ 3 ≤ 29 ∧ 29 ≤ 5 ∨ 28 ≤ 29 ∧ 29 ≤ 35 by omega)
      refine to_an (pc := 73) rw_100_73 rfl (s_v (pc := 74) rw_100_74 (by omega) (ls0 := [.ref 1]) rfl (Nat.le_of_ble_eq_true rfl) (Nat.le_of_ble_eq_true rfl) rfl (to_rc rfl rfl rfl (g_o hG12 rfl)) rfl (C_83 hX (by omega) hG12  (fun M16 hG15 F14 => ?_)))
      have F17 := FR.c F13 F14 tg_138
      refine to_i (pc := 77) rw_100_77 rfl (to_c (pc := 79) rw_100_79 (x := (538561536 : Int32)) rfl rfl (b_cne_f (pc := 81) rw_100_81 (A := (M.2.1 1 8).toInt) (B := 538561536) rfl rfl (by omega) (to_an (pc := 84) rw_100_84 rfl (to_an (pc := 85) rw_100_85 rfl (to_an (pc := 86) rw_100_86 rfl (to_an (pc := 87) rw_100_87 rfl (to_i (pc := 88) rw_100_88 rfl (s_v (pc := 90) rw_100_90 (by omega) (ls0 := [.ref 28, .ref 1, .ref p, .ref 11, .int (M.2.1 28 7), .null]) rfl (Nat.le_of_ble_eq_true rfl) (Nat.le_of_ble_eq_true rfl) rfl (to_rc rfl rfl rfl (g_o hG15 rfl)) rfl (C_101 hX (by omega) hG15 hp (by omega) (by omega) (p := p) (s := (M.2.1 28 7)) (fun r18 M23 hG20 F19 p_21 p_22 => ?_))))))))))
      have F24 := FR.c F17 F19 tg_140
      refine to_is (pc := 93) rw_100_93 (ls2 := [.ref 28, .ref 1, .ref p, .ref 11, .int o, .int (M.2.1 1 8), .int (M.2.1 28 7), .int r18]) rfl rfl (to_go (pc := 95) rw_100_95 (to_an (pc := 130) rw_100_130 rfl (s_gR (pc := 131) rw_100_131 hG20 rfl (v := 35) rfl (to_i (pc := 134) rw_100_134 rfl (to_an (pc := 136) rw_100_136 rfl ?_)))))
      have c_25 : M23.2.1 28 7 = v4 := (F_n F19 (show ¬ (28 = 1 ∧ 5 ≤ 7 ∨ 3 ≤ 28 ∧ 28 ≤ 5 ∨ 29 ≤ 28 ∧ 28 ≤ 35) by decide) (F_n F14 (show ¬ (28 = 1 ∧ 5 ≤ 7 ∨ 3 ≤ 28 ∧ 28 ≤ 5) by decide) (W_n W10 (fun z => absurd z.1 (by decide)) (W_e W6))))
      refine tt_gI (pc := 137) rw_100_137 (g_o hG20 rfl) (v := v4) c_25 (s_ias (pc := 140) rw_100_140 hG20 rfl (n := 40) rfl (A := (M.2.1 28 7).toInt) rfl (by omega) (by omega) (fun M27 W26 => ?_))
      have hG28 := g_w hG20 W26 (A := v4.toInt) rfl (lo := 0) (hi := 40) rfl rfl (by omega) (by decide)
      have F29 := FR.w F24 W26 (show 35 = 1 ∧ 5 ≤ ((M.2.1 28 7).toInt).toNat ∨ 3 ≤ 35 ∧ 35 ≤ 5 ∨ 28 ≤ 35 ∧ 35 ≤ 35 by omega)
      refine to_i (pc := 141) rw_100_141 rfl (s_r1 (pc := 143) rw_100_143 (A := r18.toInt) rfl (by omega) ?_)
      exact h r18 M27 hG28 F29 (by omega) (by omega)
    · refine to_an (pc := 42) rw_100_42 rfl (to_c (pc := 43) rw_100_43 (x := (2 : Int32)) rfl rfl (s_v (pc := 44) rw_100_44 (by omega) (ls0 := [.ref 1, .int (2 : Int32)]) rfl (Nat.le_of_ble_eq_true rfl) (Nat.le_of_ble_eq_true rfl) rfl (to_rc rfl rfl rfl (g_o hG rfl)) rfl (to_an (pc := 0) rw_84_0 rfl (to_in (pc := 1) rw_84_1 rfl (s_pI (pc := 2) rw_84_2 hG rfl (fun M31 W30 => ?_))))))
      have hG32 := g_wf hG W30 rfl rfl (by decide)
      have F33 := FR.w F0 W30 (show 1 = 1 ∧ 5 ≤ 10 ∨ 3 ≤ 1 ∧ 1 ≤ 5 ∨ 28 ≤ 1 ∧ 1 ≤ 35 by decide)
      refine to_an (pc := 5) rw_84_5 rfl (to_an (pc := 6) rw_84_6 rfl ?_)
      have c_34 : M31.2.1 1 9 = (M.2.1 1 9) := (W_n W30 (by decide) rfl)
      refine tt_gI (pc := 7) rw_84_7 (g_o hG32 rfl) (v := (M.2.1 1 9)) c_34 (s_pI (pc := 10) rw_84_10 hG32 rfl (fun M36 W35 => ?_))
      have hG37 := g_wf hG32 W35 rfl rfl (by decide)
      have F38 := FR.w F33 W35 (show 1 = 1 ∧ 5 ≤ 11 ∨ 3 ≤ 1 ∧ 1 ≤ 5 ∨ 28 ≤ 1 ∧ 1 ≤ 35 by decide)
      refine to_c (pc := 13) rw_84_13 (x := (0 : Int32)) rfl rfl (s_r1 (pc := 14) rw_84_14 (A := 0) rfl (by decide) (s_r1 (pc := 47) rw_100_47 (A := 0) rfl (by decide) ?_))
      have k_39 : (0 : Int32).toInt = 0 := rfl
      exact h (0 : Int32) M36 hG37 F38 (by decide) (by decide)
  · refine to_i (pc := 13) rw_100_13 rfl (to_c (pc := 15) rw_100_15 (x := (351582208 : Int32)) rfl rfl (b_ceq (pc := 17) rw_100_17 (A := (M.2.1 1 8).toInt) (B := 351582208) rfl rfl (fun h40 => ?_) (fun h40 => ?_)))
    · refine to_an (pc := 33) rw_100_33 rfl ?_
      have b_41 := g_b hG (a := 28) (i := 7) (lo := 0) (hi := 40) rfl rfl
      refine tt_gI (pc := 34) rw_100_34 (g_o hG rfl) (v := (M.2.1 28 7)) rfl (to_c (pc := 37) rw_100_37 (x := (40 : Int32)) rfl rfl (b_clt (pc := 39) rw_100_39 (A := (M.2.1 28 7).toInt) (B := 40) rfl rfl (fun h42 => ?_) (fun h42 => ?_)))
      · refine to_an (pc := 48) rw_100_48 rfl (tt_gI (pc := 49) rw_100_49 (g_o hG rfl) (v := (M.2.1 28 7)) rfl (to_is (pc := 52) rw_100_52 (ls2 := [.ref 28, .ref 1, .ref p, .ref 11, .int o, .int (M.2.1 1 8), .int (M.2.1 28 7), .null]) rfl rfl (to_an (pc := 54) rw_100_54 rfl (to_dupr (pc := 55) rw_100_55 (tt_gI (pc := 56) rw_100_56 (g_o hG rfl) (v := (M.2.1 28 7)) rfl (to_c (pc := 59) rw_100_59 (x := (1 : Int32)) rfl rfl (s_add (pc := 60) rw_100_60 (A := (M.2.1 28 7).toInt) (B := 1) rfl rfl (by omega) (fun v43 e44 => s_pI (pc := 61) rw_100_61 hG rfl (fun M46 W45 => ?_)))))))))
        have hG47 := g_w hG W45 (A := v43.toInt) rfl (lo := 0) (hi := 40) rfl rfl (by omega) (by decide)
        have F48 := FR.w F0 W45 (show 28 = 1 ∧ 5 ≤ 7 ∨ 3 ≤ 28 ∧ 28 ≤ 5 ∨ 28 ≤ 28 ∧ 28 ≤ 35 by decide)
        refine to_an (pc := 64) rw_100_64 rfl (s_gR (pc := 65) rw_100_65 hG47 rfl (v := 29) rfl (to_i (pc := 68) rw_100_68 rfl (to_i (pc := 70) rw_100_70 rfl (s_ias (pc := 72) rw_100_72 hG47 rfl (n := 40) rfl (A := (M.2.1 28 7).toInt) rfl (by omega) (by omega) (fun M50 W49 => ?_)))))
        have hG51 := g_wf hG47 W49 rfl rfl (by decide)
        have F52 := FR.w F48 W49 (show 29 = 1 ∧ 5 ≤ ((M.2.1 28 7).toInt).toNat ∨ 3 ≤ 29 ∧ 29 ≤ 5 ∨ 28 ≤ 29 ∧ 29 ≤ 35 by omega)
        refine to_an (pc := 73) rw_100_73 rfl (s_v (pc := 74) rw_100_74 (by omega) (ls0 := [.ref 1]) rfl (Nat.le_of_ble_eq_true rfl) (Nat.le_of_ble_eq_true rfl) rfl (to_rc rfl rfl rfl (g_o hG51 rfl)) rfl (C_83 hX (by omega) hG51  (fun M55 hG54 F53 => ?_)))
        have F56 := FR.c F52 F53 tg_138
        refine to_i (pc := 77) rw_100_77 rfl (to_c (pc := 79) rw_100_79 (x := (538561536 : Int32)) rfl rfl (b_cne_t (pc := 81) rw_100_81 (A := (M.2.1 1 8).toInt) (B := 538561536) rfl rfl (by omega) (to_i (pc := 98) rw_100_98 rfl (to_c (pc := 100) rw_100_100 (x := (351582208 : Int32)) rfl rfl (b_cne_f (pc := 102) rw_100_102 (A := (M.2.1 1 8).toInt) (B := 351582208) rfl rfl (by omega) (to_an (pc := 105) rw_100_105 rfl (to_an (pc := 106) rw_100_106 rfl (to_i (pc := 107) rw_100_107 rfl (s_v (pc := 109) rw_100_109 (by omega) (ls0 := [.ref 28, .ref 1, .int (M.2.1 28 7), .null]) rfl (Nat.le_of_ble_eq_true rfl) (Nat.le_of_ble_eq_true rfl) rfl (to_rc rfl rfl rfl (g_o hG54 rfl)) rfl (C_104 hX (by omega) hG54 (by omega) (by omega) (s := (M.2.1 28 7)) (fun r57 M62 hG59 F58 p_60 p_61 => ?_)))))))))))
        have F63 := FR.c F56 F58 tg_140
        refine to_is (pc := 112) rw_100_112 (ls2 := [.ref 28, .ref 1, .ref p, .ref 11, .int o, .int (M.2.1 1 8), .int (M.2.1 28 7), .int r57]) rfl rfl (to_go (pc := 114) rw_100_114 (to_an (pc := 130) rw_100_130 rfl (s_gR (pc := 131) rw_100_131 hG59 rfl (v := 35) rfl (to_i (pc := 134) rw_100_134 rfl (to_an (pc := 136) rw_100_136 rfl ?_)))))
        have c_64 : M62.2.1 28 7 = v43 := (F_n F58 (show ¬ (28 = 1 ∧ 5 ≤ 7 ∨ 3 ≤ 28 ∧ 28 ≤ 5 ∨ 29 ≤ 28 ∧ 28 ≤ 35) by decide) (F_n F53 (show ¬ (28 = 1 ∧ 5 ≤ 7 ∨ 3 ≤ 28 ∧ 28 ≤ 5) by decide) (W_n W49 (fun z => absurd z.1 (by decide)) (W_e W45))))
        refine tt_gI (pc := 137) rw_100_137 (g_o hG59 rfl) (v := v43) c_64 (s_ias (pc := 140) rw_100_140 hG59 rfl (n := 40) rfl (A := (M.2.1 28 7).toInt) rfl (by omega) (by omega) (fun M66 W65 => ?_))
        have hG67 := g_w hG59 W65 (A := v43.toInt) rfl (lo := 0) (hi := 40) rfl rfl (by omega) (by decide)
        have F68 := FR.w F63 W65 (show 35 = 1 ∧ 5 ≤ ((M.2.1 28 7).toInt).toNat ∨ 3 ≤ 35 ∧ 35 ≤ 5 ∨ 28 ≤ 35 ∧ 35 ≤ 35 by omega)
        refine to_i (pc := 141) rw_100_141 rfl (s_r1 (pc := 143) rw_100_143 (A := r57.toInt) rfl (by omega) ?_)
        exact h r57 M66 hG67 F68 (by omega) (by omega)
      · refine to_an (pc := 42) rw_100_42 rfl (to_c (pc := 43) rw_100_43 (x := (2 : Int32)) rfl rfl (s_v (pc := 44) rw_100_44 (by omega) (ls0 := [.ref 1, .int (2 : Int32)]) rfl (Nat.le_of_ble_eq_true rfl) (Nat.le_of_ble_eq_true rfl) rfl (to_rc rfl rfl rfl (g_o hG rfl)) rfl (to_an (pc := 0) rw_84_0 rfl (to_in (pc := 1) rw_84_1 rfl (s_pI (pc := 2) rw_84_2 hG rfl (fun M70 W69 => ?_))))))
        have hG71 := g_wf hG W69 rfl rfl (by decide)
        have F72 := FR.w F0 W69 (show 1 = 1 ∧ 5 ≤ 10 ∨ 3 ≤ 1 ∧ 1 ≤ 5 ∨ 28 ≤ 1 ∧ 1 ≤ 35 by decide)
        refine to_an (pc := 5) rw_84_5 rfl (to_an (pc := 6) rw_84_6 rfl ?_)
        have c_73 : M70.2.1 1 9 = (M.2.1 1 9) := (W_n W69 (by decide) rfl)
        refine tt_gI (pc := 7) rw_84_7 (g_o hG71 rfl) (v := (M.2.1 1 9)) c_73 (s_pI (pc := 10) rw_84_10 hG71 rfl (fun M75 W74 => ?_))
        have hG76 := g_wf hG71 W74 rfl rfl (by decide)
        have F77 := FR.w F72 W74 (show 1 = 1 ∧ 5 ≤ 11 ∨ 3 ≤ 1 ∧ 1 ≤ 5 ∨ 28 ≤ 1 ∧ 1 ≤ 35 by decide)
        refine to_c (pc := 13) rw_84_13 (x := (0 : Int32)) rfl rfl (s_r1 (pc := 14) rw_84_14 (A := 0) rfl (by decide) (s_r1 (pc := 47) rw_100_47 (A := 0) rfl (by decide) ?_))
        have k_78 : (0 : Int32).toInt = 0 := rfl
        exact h (0 : Int32) M75 hG76 F77 (by decide) (by decide)
    · refine to_i (pc := 20) rw_100_20 rfl (to_c (pc := 22) rw_100_22 (x := (40936896 : Int32)) rfl rfl (b_ceq (pc := 24) rw_100_24 (A := (M.2.1 1 8).toInt) (B := 40936896) rfl rfl (fun h79 => ?_) (fun h79 => ?_)))
      · refine to_an (pc := 33) rw_100_33 rfl ?_
        have b_80 := g_b hG (a := 28) (i := 7) (lo := 0) (hi := 40) rfl rfl
        refine tt_gI (pc := 34) rw_100_34 (g_o hG rfl) (v := (M.2.1 28 7)) rfl (to_c (pc := 37) rw_100_37 (x := (40 : Int32)) rfl rfl (b_clt (pc := 39) rw_100_39 (A := (M.2.1 28 7).toInt) (B := 40) rfl rfl (fun h81 => ?_) (fun h81 => ?_)))
        · refine to_an (pc := 48) rw_100_48 rfl (tt_gI (pc := 49) rw_100_49 (g_o hG rfl) (v := (M.2.1 28 7)) rfl (to_is (pc := 52) rw_100_52 (ls2 := [.ref 28, .ref 1, .ref p, .ref 11, .int o, .int (M.2.1 1 8), .int (M.2.1 28 7), .null]) rfl rfl (to_an (pc := 54) rw_100_54 rfl (to_dupr (pc := 55) rw_100_55 (tt_gI (pc := 56) rw_100_56 (g_o hG rfl) (v := (M.2.1 28 7)) rfl (to_c (pc := 59) rw_100_59 (x := (1 : Int32)) rfl rfl (s_add (pc := 60) rw_100_60 (A := (M.2.1 28 7).toInt) (B := 1) rfl rfl (by omega) (fun v82 e83 => s_pI (pc := 61) rw_100_61 hG rfl (fun M85 W84 => ?_)))))))))
          have hG86 := g_w hG W84 (A := v82.toInt) rfl (lo := 0) (hi := 40) rfl rfl (by omega) (by decide)
          have F87 := FR.w F0 W84 (show 28 = 1 ∧ 5 ≤ 7 ∨ 3 ≤ 28 ∧ 28 ≤ 5 ∨ 28 ≤ 28 ∧ 28 ≤ 35 by decide)
          refine to_an (pc := 64) rw_100_64 rfl (s_gR (pc := 65) rw_100_65 hG86 rfl (v := 29) rfl (to_i (pc := 68) rw_100_68 rfl (to_i (pc := 70) rw_100_70 rfl (s_ias (pc := 72) rw_100_72 hG86 rfl (n := 40) rfl (A := (M.2.1 28 7).toInt) rfl (by omega) (by omega) (fun M89 W88 => ?_)))))
          have hG90 := g_wf hG86 W88 rfl rfl (by decide)
          have F91 := FR.w F87 W88 (show 29 = 1 ∧ 5 ≤ ((M.2.1 28 7).toInt).toNat ∨ 3 ≤ 29 ∧ 29 ≤ 5 ∨ 28 ≤ 29 ∧ 29 ≤ 35 by omega)
          refine to_an (pc := 73) rw_100_73 rfl (s_v (pc := 74) rw_100_74 (by omega) (ls0 := [.ref 1]) rfl (Nat.le_of_ble_eq_true rfl) (Nat.le_of_ble_eq_true rfl) rfl (to_rc rfl rfl rfl (g_o hG90 rfl)) rfl (C_83 hX (by omega) hG90  (fun M94 hG93 F92 => ?_)))
          have F95 := FR.c F91 F92 tg_138
          refine to_i (pc := 77) rw_100_77 rfl (to_c (pc := 79) rw_100_79 (x := (538561536 : Int32)) rfl rfl (b_cne_t (pc := 81) rw_100_81 (A := (M.2.1 1 8).toInt) (B := 538561536) rfl rfl (by omega) (to_i (pc := 98) rw_100_98 rfl (to_c (pc := 100) rw_100_100 (x := (351582208 : Int32)) rfl rfl (b_cne_t (pc := 102) rw_100_102 (A := (M.2.1 1 8).toInt) (B := 351582208) rfl rfl (by omega) (to_an (pc := 117) rw_100_117 rfl (to_an (pc := 118) rw_100_118 rfl (to_an (pc := 119) rw_100_119 rfl (to_an (pc := 120) rw_100_120 rfl (to_i (pc := 121) rw_100_121 rfl (to_i (pc := 123) rw_100_123 rfl ?_)))))))))))
          refine s_v (pc := 125) rw_100_125 (by omega) (ls0 := [.ref 28, .ref 1, .ref p, .ref 11, .int o, .int (M.2.1 28 7)]) rfl (Nat.le_of_ble_eq_true rfl) (Nat.le_of_ble_eq_true rfl) rfl (to_rc rfl rfl rfl (g_o hG93 rfl)) rfl (C_105 hX (by omega) hG93 hp (by omega) (by omega) (by omega) (by omega) hr (p := p) (o := o) (s := (M.2.1 28 7)) (fun r96 M101 hG98 F97 p_99 p_100 => ?_))
          have F102 := FR.c F95 F97 tg_139
          refine to_is (pc := 128) rw_100_128 (ls2 := [.ref 28, .ref 1, .ref p, .ref 11, .int o, .int (M.2.1 1 8), .int (M.2.1 28 7), .int r96]) rfl rfl (to_an (pc := 130) rw_100_130 rfl (s_gR (pc := 131) rw_100_131 hG98 rfl (v := 35) rfl (to_i (pc := 134) rw_100_134 rfl (to_an (pc := 136) rw_100_136 rfl ?_))))
          have b_103 := g_b hG98 (a := 28) (i := 7) (lo := 0) (hi := 40) rfl rfl
          refine tt_gI (pc := 137) rw_100_137 (g_o hG98 rfl) (v := (M101.2.1 28 7)) rfl (s_ias (pc := 140) rw_100_140 hG98 rfl (n := 40) rfl (A := (M.2.1 28 7).toInt) rfl (by omega) (by omega) (fun M105 W104 => ?_))
          have hG106 := g_w hG98 W104 (A := (M101.2.1 28 7).toInt) rfl (lo := 0) (hi := 40) rfl rfl (by omega) (by decide)
          have F107 := FR.w F102 W104 (show 35 = 1 ∧ 5 ≤ ((M.2.1 28 7).toInt).toNat ∨ 3 ≤ 35 ∧ 35 ≤ 5 ∨ 28 ≤ 35 ∧ 35 ≤ 35 by omega)
          refine to_i (pc := 141) rw_100_141 rfl (s_r1 (pc := 143) rw_100_143 (A := r96.toInt) rfl (by omega) ?_)
          exact h r96 M105 hG106 F107 (by omega) (by omega)
        · refine to_an (pc := 42) rw_100_42 rfl (to_c (pc := 43) rw_100_43 (x := (2 : Int32)) rfl rfl (s_v (pc := 44) rw_100_44 (by omega) (ls0 := [.ref 1, .int (2 : Int32)]) rfl (Nat.le_of_ble_eq_true rfl) (Nat.le_of_ble_eq_true rfl) rfl (to_rc rfl rfl rfl (g_o hG rfl)) rfl (to_an (pc := 0) rw_84_0 rfl (to_in (pc := 1) rw_84_1 rfl (s_pI (pc := 2) rw_84_2 hG rfl (fun M109 W108 => ?_))))))
          have hG110 := g_wf hG W108 rfl rfl (by decide)
          have F111 := FR.w F0 W108 (show 1 = 1 ∧ 5 ≤ 10 ∨ 3 ≤ 1 ∧ 1 ≤ 5 ∨ 28 ≤ 1 ∧ 1 ≤ 35 by decide)
          refine to_an (pc := 5) rw_84_5 rfl (to_an (pc := 6) rw_84_6 rfl ?_)
          have c_112 : M109.2.1 1 9 = (M.2.1 1 9) := (W_n W108 (by decide) rfl)
          refine tt_gI (pc := 7) rw_84_7 (g_o hG110 rfl) (v := (M.2.1 1 9)) c_112 (s_pI (pc := 10) rw_84_10 hG110 rfl (fun M114 W113 => ?_))
          have hG115 := g_wf hG110 W113 rfl rfl (by decide)
          have F116 := FR.w F111 W113 (show 1 = 1 ∧ 5 ≤ 11 ∨ 3 ≤ 1 ∧ 1 ≤ 5 ∨ 28 ≤ 1 ∧ 1 ≤ 35 by decide)
          refine to_c (pc := 13) rw_84_13 (x := (0 : Int32)) rfl rfl (s_r1 (pc := 14) rw_84_14 (A := 0) rfl (by decide) (s_r1 (pc := 47) rw_100_47 (A := 0) rfl (by decide) ?_))
          have k_117 : (0 : Int32).toInt = 0 := rfl
          exact h (0 : Int32) M114 hG115 F116 (by decide) (by decide)
      · refine to_an (pc := 27) rw_100_27 rfl (to_c (pc := 28) rw_100_28 (x := (1 : Int32)) rfl rfl (s_v (pc := 29) rw_100_29 (by omega) (ls0 := [.ref 1, .int (1 : Int32)]) rfl (Nat.le_of_ble_eq_true rfl) (Nat.le_of_ble_eq_true rfl) rfl (to_rc rfl rfl rfl (g_o hG rfl)) rfl (to_an (pc := 0) rw_84_0 rfl (to_in (pc := 1) rw_84_1 rfl (s_pI (pc := 2) rw_84_2 hG rfl (fun M119 W118 => ?_))))))
        have hG120 := g_wf hG W118 rfl rfl (by decide)
        have F121 := FR.w F0 W118 (show 1 = 1 ∧ 5 ≤ 10 ∨ 3 ≤ 1 ∧ 1 ≤ 5 ∨ 28 ≤ 1 ∧ 1 ≤ 35 by decide)
        refine to_an (pc := 5) rw_84_5 rfl (to_an (pc := 6) rw_84_6 rfl ?_)
        have c_122 : M119.2.1 1 9 = (M.2.1 1 9) := (W_n W118 (by decide) rfl)
        refine tt_gI (pc := 7) rw_84_7 (g_o hG120 rfl) (v := (M.2.1 1 9)) c_122 (s_pI (pc := 10) rw_84_10 hG120 rfl (fun M124 W123 => ?_))
        have hG125 := g_wf hG120 W123 rfl rfl (by decide)
        have F126 := FR.w F121 W123 (show 1 = 1 ∧ 5 ≤ 11 ∨ 3 ≤ 1 ∧ 1 ≤ 5 ∨ 28 ≤ 1 ∧ 1 ≤ 35 by decide)
        refine to_c (pc := 13) rw_84_13 (x := (0 : Int32)) rfl rfl (s_r1 (pc := 14) rw_84_14 (A := 0) rfl (by decide) (s_r1 (pc := 32) rw_100_32 (A := 0) rfl (by decide) ?_))
        have k_127 : (0 : Int32).toInt = 0 := rfl
        exact h (0 : Int32) M124 hG125 F126 (by decide) (by decide)
set_option maxRecDepth 4000 in
set_option maxHeartbeats 0 in
theorem T_99_0 {X : mm_X} {d : Nat} {M : mm_M} {Q : Option Value → mm_M → Prop} {p : Nat} {o : Int32} (hX : g_X X) (hd : 5 + 3 * (5 - o.toInt) ≤ (d : Int)) (hp : p = 49 ∨ p = 58) (q1 : 0 ≤ o.toInt) (q2 : o.toInt ≤ 5) (hr : RC_99 (5 - o.toInt)) (h : ∀ (r : Int32) (M1 : mm_M), g_G M1 → FR md_wt M M1 → (0 ≤ r.toInt) → (r.toInt ≤ 1) → Q (some (.int r)) M1) : ∀ nn9 : Nat, (∀ (N : mm_M) (x5 : Int32), g_G N → FR md_wt M N → (0 ≤ x5.toInt) → (x5.toInt ≤ 41) → (o.toInt = o.toInt) → 41 - x5.toInt < (nn9 : Int) → mm_T X d 99 3 [.ref 28, .ref 1, .ref p, .ref 11, .int o, .int x5] [] N Q) := by
  intro nn9
  induction nn9 with
  | zero =>
    intro N x5 hG F0 g1 g2 g3 hm
    exfalso; omega
  | succ nn9 ih =>
    intro N x5 hG F0 g1 g2 g3 hm
    refine to_i (pc := 3) rw_99_3 rfl (to_c (pc := 5) rw_99_5 (x := (40 : Int32)) rfl rfl (b_cgt (pc := 7) rw_99_7 (A := x5.toInt) (B := 40) rfl rfl (fun h1 => ?_) (fun h1 => ?_)))
    · refine to_c (pc := 38) rw_99_38 (x := (1 : Int32)) rfl rfl (s_r1 (pc := 39) rw_99_39 (A := 1) rfl (by decide) ?_)
      have k_2 : (1 : Int32).toInt = 1 := rfl
      exact h (1 : Int32) N hG F0 (by decide) (by decide)
    · refine to_an (pc := 10) rw_99_10 rfl (tt_gI (pc := 11) rw_99_11 (g_o hG rfl) (v := (N.2.1 1 7)) rfl (to_c (pc := 14) rw_99_14 (x := (4 : Int32)) rfl rfl (b_cne (pc := 15) rw_99_15 (A := (N.2.1 1 7).toInt) (B := 4) rfl rfl (fun h3 => ?_) (fun h3 => ?_))))
      · refine to_c (pc := 38) rw_99_38 (x := (1 : Int32)) rfl rfl (s_r1 (pc := 39) rw_99_39 (A := 1) rfl (by decide) ?_)
        have k_4 : (1 : Int32).toInt = 1 := rfl
        exact h (1 : Int32) N hG F0 (by decide) (by decide)
      · refine to_an (pc := 18) rw_99_18 rfl (to_an (pc := 19) rw_99_19 rfl (to_an (pc := 20) rw_99_20 rfl (to_an (pc := 21) rw_99_21 rfl (to_i (pc := 22) rw_99_22 rfl (s_v (pc := 24) rw_99_24 (by omega) (ls0 := [.ref 28, .ref 1, .ref p, .ref 11, .int o, .null, .null, .null]) rfl (Nat.le_of_ble_eq_true rfl) (Nat.le_of_ble_eq_true rfl) rfl (to_rc rfl rfl rfl (g_o hG rfl)) rfl (C_100 hX (by omega) hG hp (by omega) (by omega) hr (p := p) (o := o) (fun r5 M10 hG7 F6 p_8 p_9 => ?_)))))))
        have F11 := FR.c F0 F6 tg_139
        refine b_ine (pc := 27) rw_99_27 (A := r5.toInt) rfl (fun h12 => ?_) (fun h12 => ?_)
        · refine s_inc (pc := 32) rw_99_32 (ls2 := fun v => [.ref 28, .ref 1, .ref p, .ref 11, .int o, .int v]) rfl rfl (fun _ => rfl) (A := x5.toInt) (B := 1) rfl rfl (by omega) (fun v13 e14 => to_go (pc := 35) rw_99_35 ?_)
          exact ih M10 v13 hG7 F11 (by omega) (by omega) (by omega) (by omega)
        · refine to_c (pc := 30) rw_99_30 (x := (0 : Int32)) rfl rfl (s_r1 (pc := 31) rw_99_31 (A := 0) rfl (by decide) ?_)
          have k_15 : (0 : Int32).toInt = 0 := rfl
          exact h (0 : Int32) M10 hG7 F11 (by decide) (by decide)
set_option maxRecDepth 4000 in
set_option maxHeartbeats 0 in
theorem B_99 {X : mm_X} {d : Nat} {M : mm_M} {Q : Option Value → mm_M → Prop} {p : Nat} {o : Int32} (hX : g_X X) (hd : 5 + 3 * (5 - o.toInt) ≤ (d : Int)) (hG : g_G M) (hp : p = 49 ∨ p = 58) (q1 : 0 ≤ o.toInt) (q2 : o.toInt ≤ 5) (hr : RC_99 (5 - o.toInt)) (h : ∀ (r : Int32) (M1 : mm_M), g_G M1 → FR md_wt M M1 → (0 ≤ r.toInt) → (r.toInt ≤ 1) → Q (some (.int r)) M1) : mm_T X d 99 0 [.ref 28, .ref 1, .ref p, .ref 11, .int o, .null] [] M Q := by
  have F0 : FR md_wt M M := FR.rf
  refine to_c (pc := 0) rw_99_0 (x := (0 : Int32)) rfl rfl (to_is (pc := 1) rw_99_1 (ls2 := [.ref 28, .ref 1, .ref p, .ref 11, .int o, .int (0 : Int32)]) rfl rfl ?_)
  have k_16 : (0 : Int32).toInt = 0 := rfl
  exact (T_99_0 (p := p) (o := o) hX hd hp q1 q2 hr h ((41 - (0 : Int32).toInt).toNat + 1)) M (0 : Int32) hG F0 (by omega) (by omega) (by omega) (by omega)
theorem RC_99_all : ∀ nn : Nat, RC_99 (nn : Int) := by
  intro nn
  induction nn with
  | zero =>
    intro X d M Q p o hX hd hG hp q1 q2 hm h
    exfalso; omega
  | succ nn ih =>
    intro X d M Q p o hX hd hG hp q1 q2 hm h
    exact B_99 hX hd hG hp q1 q2 (fun X2 d2 M2 Q2 p2 o2 e71 e72 e73 hp2 q12 q22 hm2 h2 => ih X2 d2 M2 Q2 p2 o2 e71 e72 e73 hp2 q12 q22 (by omega) h2) h
theorem C_99 {X : mm_X} {d : Nat} {M : mm_M} {Q : Option Value → mm_M → Prop} {p : Nat} {o : Int32} (hX : g_X X) (hd : 5 + 3 * (5 - o.toInt) ≤ (d : Int)) (hG : g_G M) (hp : p = 49 ∨ p = 58) (q1 : 0 ≤ o.toInt) (q2 : o.toInt ≤ 5) (h : ∀ (r : Int32) (M1 : mm_M), g_G M1 → FR md_wt M M1 → (0 ≤ r.toInt) → (r.toInt ≤ 1) → Q (some (.int r)) M1) : mm_T X d 99 0 [.ref 28, .ref 1, .ref p, .ref 11, .int o, .null] [] M Q := RC_99_all ((5 - o.toInt).toNat + 1) X d M Q p o hX hd hG hp q1 q2 (by omega) h
set_option maxRecDepth 4000 in
set_option maxHeartbeats 0 in
theorem C_98 {X : mm_X} {d : Nat} {M : mm_M} {Q : Option Value → mm_M → Prop} {p : Nat} (hX : g_X X) (hd : 21 ≤ d) (hG : g_G M) (hp : p = 49 ∨ p = 58) (h : ∀ (r : Int32) (M1 : mm_M), g_G M1 → FR md_wt M M1 → (0 ≤ r.toInt) → (r.toInt ≤ 1) → Q (some (.int r)) M1) : mm_T X d 98 0 [.ref 28, .ref 1, .ref p, .ref 11] [] M Q := by
  have F0 : FR md_wt M M := FR.rf
  refine to_an (pc := 0) rw_98_0 rfl (to_c (pc := 1) rw_98_1 (x := (0 : Int32)) rfl rfl (s_pI (pc := 2) rw_98_2 hG rfl (fun M2 W1 => ?_)))
  have hG3 := g_w hG W1 (A := 0) rfl (lo := 0) (hi := 40) rfl rfl (by omega) (by decide)
  have F4 := FR.w F0 W1 (show 28 = 1 ∧ 5 ≤ 7 ∨ 3 ≤ 28 ∧ 28 ≤ 5 ∨ 28 ≤ 28 ∧ 28 ≤ 35 by decide)
  refine to_an (pc := 5) rw_98_5 rfl (to_an (pc := 6) rw_98_6 rfl (to_an (pc := 7) rw_98_7 rfl (to_an (pc := 8) rw_98_8 rfl (to_c (pc := 9) rw_98_9 (x := (0 : Int32)) rfl rfl (s_v (pc := 10) rw_98_10 (dp0 hd (by decide)) (ls0 := [.ref 28, .ref 1, .ref p, .ref 11, .int (0 : Int32), .null]) rfl (Nat.le_of_ble_eq_true rfl) (Nat.le_of_ble_eq_true rfl) rfl (to_rc rfl rfl rfl (g_o hG3 rfl)) rfl ?_)))))
  have k_5 : (0 : Int32).toInt = 0 := rfl
  refine C_99 hX (by omega) hG3 hp (by omega) (by omega) (p := p) (o := (0 : Int32)) (fun r6 M11 hG8 F7 p_9 p_10 => ?_)
  have F12 := FR.c F4 F7 tg_139
  refine b_ieq (pc := 13) rw_98_13 (A := r6.toInt) rfl (fun h13 => ?_) (fun h13 => ?_)
  · refine to_c (pc := 27) rw_98_27 (x := (0 : Int32)) rfl rfl (s_r1 (pc := 28) rw_98_28 (A := 0) rfl (by decide) ?_)
    exact h (0 : Int32) M11 hG8 F12 (by decide) (by decide)
  · refine to_an (pc := 16) rw_98_16 rfl (s_v (pc := 17) rw_98_17 (dp0 hd (by decide)) (ls0 := [.ref 1]) rfl (Nat.le_of_ble_eq_true rfl) (Nat.le_of_ble_eq_true rfl) rfl (to_rc rfl rfl rfl (g_o hG8 rfl)) rfl (to_an (pc := 0) rw_87_0 rfl (tt_gI (pc := 1) rw_87_1 (g_o hG8 rfl) (v := (M11.2.1 1 7)) rfl (b_ieq (pc := 4) rw_87_4 (A := (M11.2.1 1 7).toInt) rfl (fun h14 => ?_) (fun h14 => ?_)))))
    · refine to_c (pc := 15) rw_87_15 (x := (1 : Int32)) rfl rfl (to_go (pc := 16) rw_87_16 (s_r1 (pc := 20) rw_87_20 (A := 1) rfl (by decide) (b_ieq_f (pc := 20) rw_98_20 (A := 1) rfl (by decide) (to_c (pc := 23) rw_98_23 (x := (1 : Int32)) rfl rfl (to_go (pc := 24) rw_98_24 (s_r1 (pc := 28) rw_98_28 (A := 1) rfl (by decide) ?_))))))
      have k_15 : (1 : Int32).toInt = 1 := rfl
      exact h (1 : Int32) M11 hG8 F12 (by decide) (by decide)
    · refine to_an (pc := 7) rw_87_7 rfl (to_c (pc := 8) rw_87_8 (x := (1 : Int32)) rfl rfl (s_v (pc := 9) rw_87_9 (dp1 hd (by decide)) (ls0 := [.ref 1, .int (1 : Int32)]) rfl (Nat.le_of_ble_eq_true rfl) (Nat.le_of_ble_eq_true rfl) rfl (to_rc rfl rfl rfl (g_o hG8 rfl)) rfl (to_an (pc := 0) rw_84_0 rfl (to_in (pc := 1) rw_84_1 rfl (s_pI (pc := 2) rw_84_2 hG8 rfl (fun M17 W16 => ?_))))))
      have hG18 := g_wf hG8 W16 rfl rfl (by decide)
      have F19 := FR.w F12 W16 (show 1 = 1 ∧ 5 ≤ 10 ∨ 3 ≤ 1 ∧ 1 ≤ 5 ∨ 28 ≤ 1 ∧ 1 ≤ 35 by decide)
      refine to_an (pc := 5) rw_84_5 rfl (to_an (pc := 6) rw_84_6 rfl ?_)
      have c_20 : M17.2.1 1 9 = (M11.2.1 1 9) := (W_n W16 (by decide) rfl)
      refine tt_gI (pc := 7) rw_84_7 (g_o hG18 rfl) (v := (M11.2.1 1 9)) c_20 (s_pI (pc := 10) rw_84_10 hG18 rfl (fun M22 W21 => ?_))
      have hG23 := g_wf hG18 W21 rfl rfl (by decide)
      have F24 := FR.w F19 W21 (show 1 = 1 ∧ 5 ≤ 11 ∨ 3 ≤ 1 ∧ 1 ≤ 5 ∨ 28 ≤ 1 ∧ 1 ≤ 35 by decide)
      refine to_c (pc := 13) rw_84_13 (x := (0 : Int32)) rfl rfl (s_r1 (pc := 14) rw_84_14 (A := 0) rfl (by decide) (b_ieq_t (pc := 12) rw_87_12 (A := 0) rfl (by decide) (to_c (pc := 19) rw_87_19 (x := (0 : Int32)) rfl rfl (s_r1 (pc := 20) rw_87_20 (A := 0) rfl (by decide) (b_ieq_t (pc := 20) rw_98_20 (A := 0) rfl (by decide) (to_c (pc := 27) rw_98_27 (x := (0 : Int32)) rfl rfl (s_r1 (pc := 28) rw_98_28 (A := 0) rfl (by decide) ?_)))))))
      exact h (0 : Int32) M22 hG23 F24 (by decide) (by decide)
noncomputable def RC_107 (k : Int) : Prop := ∀ (X : mm_X) (d : Nat) (M : mm_M) (Q : Option Value → mm_M → Prop) (f : Int32) (t : Int32) (o : Int32), g_X X → (3 + 2 * (6 - o.toInt) ≤ (d : Int)) → g_G M → (0 ≤ f.toInt) → (f.toInt ≤ 40) → (0 ≤ o.toInt) → (o.toInt ≤ 6) → 6 - o.toInt < k → (∀ (M1 : mm_M), g_G M1 → FR md_w M M1 → Q (none) M1) → mm_T X d 107 0 [.ref 28, .ref 17, .int f, .int t, .int o, .null] [] M Q
set_option maxRecDepth 4000 in
set_option maxHeartbeats 0 in
theorem T_108_0 {X : mm_X} {d : Nat} {M : mm_M} {Q : Option Value → mm_M → Prop} {s : Int32} {o : Int32} (hX : g_X X) (hd : 2 + 2 * (6 - o.toInt) ≤ (d : Int)) (q1 : 0 ≤ s.toInt) (q2 : s.toInt ≤ 39) (q3 : 0 ≤ o.toInt) (q4 : o.toInt ≤ 5) (hr : RC_107 (6 - o.toInt)) (h : ∀ (M1 : mm_M), g_G M1 → FR md_w M M1 → Q (none) M1) : ∀ nn9 : Nat, (∀ (N : mm_M) (x4 : Int32), g_G N → FR md_w M N → (0 ≤ x4.toInt) → (x4.toInt ≤ 99) → (0 ≤ s.toInt) → (s.toInt ≤ 39) → (o.toInt = o.toInt) → (0 ≤ o.toInt) → (o.toInt ≤ 5) → 99 - x4.toInt < (nn9 : Int) → mm_T X d 108 92 [.ref 28, .ref 17, .int s, .int o, .int x4] [] N Q) := by
  intro nn9
  induction nn9 with
  | zero =>
    intro N x4 hG F0 g1 g2 g3 g4 g5 g6 g7 hm
    exfalso; omega
  | succ nn9 ih =>
    intro N x4 hG F0 g1 g2 g3 g4 g5 g6 g7 hm
    refine to_i (pc := 92) rw_108_92 rfl (to_an (pc := 94) rw_108_94 rfl (s_gR (pc := 95) rw_108_95 hG rfl (v := 34) rfl (to_in (pc := 98) rw_108_98 rfl (s_ial (pc := 99) rw_108_99 hG rfl (n := 40) rfl rfl (A := s.toInt) rfl (by omega) (by omega) (lo := 0) (hi := 99) rfl rfl (fun v1 w_2 _ _ => b_cge (pc := 100) rw_108_100 (A := x4.toInt) (B := v1.toInt) rfl rfl (fun h3 => ?_) (fun h3 => ?_))))))
    · refine to_rv (pc := 133) rw_108_133 ?_
      exact h N hG F0 
    · refine to_an (pc := 103) rw_108_103 rfl ?_
      have b_4 := g_b hG (a := 28) (i := 10) (lo := 0) (hi := 1) rfl rfl
      refine tt_gZ (pc := 104) rw_108_104 (g_o hG rfl) (v := (N.2.1 28 10)) rfl (b_ine (pc := 107) rw_108_107 (A := (N.2.1 28 10).toInt) rfl (fun h5 => ?_) (fun h5 => ?_))
      · refine to_rv (pc := 133) rw_108_133 ?_
        exact h N hG F0 
      · refine to_an (pc := 110) rw_108_110 rfl (to_an (pc := 111) rw_108_111 rfl (to_in (pc := 112) rw_108_112 rfl (to_c (pc := 113) rw_108_113 (x := (1 : Int32)) rfl rfl (s_add (pc := 114) rw_108_114 (A := s.toInt) (B := 1) rfl rfl (by omega) (fun v6 e7 => to_an (pc := 115) rw_108_115 rfl (s_gR (pc := 116) rw_108_116 hG rfl (v := 35) rfl (to_in (pc := 119) rw_108_119 rfl (s_ial (pc := 120) rw_108_120 hG rfl (n := 40) rfl rfl (A := s.toInt) rfl (by omega) (by omega) (lo := 0) (hi := 40) rfl rfl (fun v8 w_9 _ _ => to_in (pc := 121) rw_108_121 rfl (to_c (pc := 122) rw_108_122 (x := (1 : Int32)) rfl rfl (s_add (pc := 123) rw_108_123 (A := o.toInt) (B := 1) rfl rfl (by omega) (fun v10 e11 => ?_))))))))))))
        refine s_v (pc := 124) rw_108_124 (by omega) (ls0 := [.ref 28, .ref 17, .int v6, .int v8, .int v10, .null]) rfl (Nat.le_of_ble_eq_true rfl) (Nat.le_of_ble_eq_true rfl) rfl (to_rc rfl rfl rfl (g_o hG rfl)) rfl (hr X _ _ _ v6 v8 v10 hX (by omega) hG (by omega) (by omega) (by omega) (by omega) (by omega) (fun M14 hG13 F12 => ?_))
        have F15 := FR.c F0 F12 tg_141
        refine s_inc (pc := 127) rw_108_127 (ls2 := fun v => [.ref 28, .ref 17, .int s, .int o, .int v]) rfl rfl (fun _ => rfl) (A := x4.toInt) (B := 1) rfl rfl (by omega) (fun v16 e17 => to_go (pc := 130) rw_108_130 ?_)
        exact ih M14 v16 hG13 F15 (by omega) (by omega) (by omega) (by omega) (by omega) (by omega) (by omega) (by omega)
set_option maxRecDepth 4000 in
set_option maxHeartbeats 0 in
theorem C_108 {X : mm_X} {d : Nat} {M : mm_M} {Q : Option Value → mm_M → Prop} {s : Int32} {o : Int32} (hX : g_X X) (hd : 2 + 2 * (6 - o.toInt) ≤ (d : Int)) (hG : g_G M) (q1 : 0 ≤ s.toInt) (q2 : s.toInt ≤ 39) (q3 : 0 ≤ o.toInt) (q4 : o.toInt ≤ 5) (hr : RC_107 (6 - o.toInt)) (h : ∀ (M1 : mm_M), g_G M1 → FR md_w M M1 → Q (none) M1) : mm_T X d 108 0 [.ref 28, .ref 17, .int s, .int o, .null] [] M Q := by
  have F0 : FR md_w M M := FR.rf
  refine to_an (pc := 0) rw_108_0 rfl (s_gR (pc := 1) rw_108_1 hG rfl (v := 29) rfl (to_in (pc := 4) rw_108_4 rfl (s_ial (pc := 5) rw_108_5 hG rfl (n := 40) rfl rfl (A := s.toInt) rfl (by omega) (by omega) (lo := -2147483648) (hi := 2147483647) rfl rfl (fun v18 w_19 _ _ => to_c (pc := 6) rw_108_6 (x := (538561536 : Int32)) rfl rfl (b_cne (pc := 8) rw_108_8 (A := v18.toInt) (B := 538561536) rfl rfl (fun h20 => ?_) (fun h20 => ?_))))))
  · refine to_an (pc := 52) rw_108_52 rfl (s_gR (pc := 53) rw_108_53 hG rfl (v := 29) rfl (to_in (pc := 56) rw_108_56 rfl (s_ialk (pc := 57) rw_108_57 hG rfl (n := 40) rfl rfl (A := s.toInt) rfl (by omega) (by omega) (v := v18) w_19 (to_c (pc := 58) rw_108_58 (x := (351582208 : Int32)) rfl rfl (b_cne (pc := 60) rw_108_60 (A := v18.toInt) (B := 351582208) rfl rfl (fun h23 => ?_) (fun h23 => ?_))))))
    · refine to_c (pc := 89) rw_108_89 (x := (0 : Int32)) rfl rfl (to_is (pc := 90) rw_108_90 (ls2 := [.ref 28, .ref 17, .int s, .int o, .int (0 : Int32)]) rfl rfl ?_)
      have k_24 : (0 : Int32).toInt = 0 := rfl
      exact (T_108_0 (s := s) (o := o) hX hd q1 q2 q3 q4 hr h ((99 - (0 : Int32).toInt).toNat + 1)) M (0 : Int32) hG F0 (by omega) (by omega) (by omega) (by omega) (by omega) (by omega) (by omega) (by omega)
    · refine to_an (pc := 63) rw_108_63 rfl (to_an (pc := 64) rw_108_64 rfl (s_gR (pc := 65) rw_108_65 hG rfl (v := 30) rfl (to_in (pc := 68) rw_108_68 rfl (s_ial (pc := 69) rw_108_69 hG rfl (n := 40) rfl rfl (A := s.toInt) rfl (by omega) (by omega) (lo := 0) (hi := 5) rfl rfl (fun v25 w_26 _ _ => to_an (pc := 70) rw_108_70 rfl (s_gR (pc := 71) rw_108_71 hG rfl (v := 31) rfl (to_in (pc := 74) rw_108_74 rfl (s_ial (pc := 75) rw_108_75 hG rfl (n := 40) rfl rfl (A := s.toInt) rfl (by omega) (by omega) (lo := 0) (hi := 5) rfl rfl (fun v27 w_28 _ _ => to_an (pc := 76) rw_108_76 rfl (s_gR (pc := 77) rw_108_77 hG rfl (v := 31) rfl (to_in (pc := 80) rw_108_80 rfl ?_)))))))))))
      refine s_ialk (pc := 81) rw_108_81 hG rfl (n := 40) rfl rfl (A := s.toInt) rfl (by omega) (by omega) (v := v27) w_28 (s_cl (pc := 82) rw_108_82 rfl (fun l31 => s_v (pc := 83) rw_108_83 (by omega) (ls0 := [.ref 17, .int v25, .int v27, .int v27, .long l31, .null, .null, .null]) rfl (Nat.le_of_ble_eq_true rfl) (Nat.le_of_ble_eq_true rfl) rfl (to_rc rfl rfl rfl (g_o hG rfl)) rfl (C_28 hX (by omega) hG (by omega) (by omega) (by omega) (by omega) (by omega) (by omega) (f := v25) (a := v27) (b := v27) (x := l31) (fun M34 hG33 F32 => ?_))))
      have F35 := FR.c F0 F32 tg_142
      refine to_go (pc := 86) rw_108_86 (to_rv (pc := 133) rw_108_133 ?_)
      exact h M34 hG33 F35 
  · refine to_an (pc := 11) rw_108_11 rfl (to_dupr (pc := 12) rw_108_12 (tt_gI (pc := 13) rw_108_13 (g_o hG rfl) (v := (M.2.1 28 9)) rfl (to_c (pc := 16) rw_108_16 (x := (1 : Int32)) rfl rfl (s_any (pc := 17) rw_108_17 (fun _ _ => rfl) (fun v36 => s_pI (pc := 18) rw_108_18 hG rfl (fun M38 W37 => ?_))))))
    have hG39 := g_wf hG W37 rfl rfl (by decide)
    have F40 := FR.w F0 W37 (show 18 ≤ 28 ∧ 28 ≤ 35 by decide)
    refine to_an (pc := 21) rw_108_21 rfl (to_an (pc := 22) rw_108_22 rfl (s_gR (pc := 23) rw_108_23 hG39 rfl (v := 30) rfl (to_in (pc := 26) rw_108_26 rfl (s_ial (pc := 27) rw_108_27 hG39 rfl (n := 40) rfl rfl (A := s.toInt) rfl (by omega) (by omega) (lo := 0) (hi := 5) rfl rfl (fun v41 w_42 _ _ => to_an (pc := 28) rw_108_28 rfl (s_gR (pc := 29) rw_108_29 hG39 rfl (v := 31) rfl (to_in (pc := 32) rw_108_32 rfl (s_ial (pc := 33) rw_108_33 hG39 rfl (n := 40) rfl rfl (A := s.toInt) rfl (by omega) (by omega) (lo := 0) (hi := 5) rfl rfl (fun v43 w_44 _ _ => to_an (pc := 34) rw_108_34 rfl (s_gR (pc := 35) rw_108_35 hG39 rfl (v := 32) rfl (to_in (pc := 38) rw_108_38 rfl ?_)))))))))))
    refine s_ial (pc := 39) rw_108_39 hG39 rfl (n := 40) rfl rfl (A := s.toInt) rfl (by omega) (by omega) (lo := 0) (hi := 5) rfl rfl (fun v45 w_46 _ _ => to_an (pc := 40) rw_108_40 rfl (s_gR (pc := 41) rw_108_41 hG39 rfl (v := 33) rfl (to_in (pc := 44) rw_108_44 rfl (s_lal (pc := 45) rw_108_45 hG39 rfl (n := 40) rfl (A := s.toInt) rfl (by omega) (by omega) (fun l47 => s_v (pc := 46) rw_108_46 (by omega) (ls0 := [.ref 17, .int v41, .int v43, .int v45, .long l47, .null, .null, .null]) rfl (Nat.le_of_ble_eq_true rfl) (Nat.le_of_ble_eq_true rfl) rfl (to_rc rfl rfl rfl (g_o hG39 rfl)) rfl (C_28 hX (by omega) hG39 (by omega) (by omega) (by omega) (by omega) (by omega) (by omega) (f := v41) (a := v43) (b := v45) (x := l47) (fun M50 hG49 F48 => ?_)))))))
    have F51 := FR.c F40 F48 tg_142
    refine to_go (pc := 49) rw_108_49 (to_rv (pc := 133) rw_108_133 ?_)
    exact h M50 hG49 F51 
set_option maxRecDepth 4000 in
set_option maxHeartbeats 0 in
theorem T_107_0 {X : mm_X} {d : Nat} {M : mm_M} {Q : Option Value → mm_M → Prop} {f : Int32} {t : Int32} {o : Int32} (hX : g_X X) (hd : 3 + 2 * (6 - o.toInt) ≤ (d : Int)) (q1 : 0 ≤ f.toInt) (q2 : f.toInt ≤ 40) (q3 : 0 ≤ o.toInt) (q4 : o.toInt ≤ 6) (hr : RC_107 (6 - o.toInt)) (h : ∀ (M1 : mm_M), g_G M1 → FR md_w M M1 → Q (none) M1) : ∀ nn9 : Nat, (∀ (N : mm_M) (u2 : Value) (x5 : Int32), g_G N → FR md_w M N → (0 ≤ x5.toInt) → (x5.toInt ≤ 40) → (o.toInt = o.toInt) → (0 ≤ o.toInt) → (o.toInt ≤ 5) → 40 - x5.toInt < (nn9 : Int) → mm_T X d 107 10 [.ref 28, .ref 17, u2, .int t, .int o, .int x5] [] N Q) := by
  intro nn9
  induction nn9 with
  | zero =>
    intro N u2 x5 hG F0 g1 g2 g3 g4 g5 hm
    exfalso; omega
  | succ nn9 ih =>
    intro N u2 x5 hG F0 g1 g2 g3 g4 g5 hm
    refine to_i (pc := 10) rw_107_10 rfl (to_in (pc := 12) rw_107_12 rfl (b_cge (pc := 13) rw_107_13 (A := x5.toInt) (B := t.toInt) rfl rfl (fun h1 => ?_) (fun h1 => ?_)))
    · refine to_rv (pc := 86) rw_107_86 ?_
      exact h N hG F0 
    · refine to_i (pc := 16) rw_107_16 rfl (to_c (pc := 18) rw_107_18 (x := (40 : Int32)) rfl rfl (b_cge (pc := 20) rw_107_20 (A := x5.toInt) (B := 40) rfl rfl (fun h2 => ?_) (fun h2 => ?_)))
      · refine to_rv (pc := 86) rw_107_86 ?_
        exact h N hG F0 
      · refine to_an (pc := 23) rw_107_23 rfl ?_
        have b_3 := g_b hG (a := 28) (i := 10) (lo := 0) (hi := 1) rfl rfl
        refine tt_gZ (pc := 24) rw_107_24 (g_o hG rfl) (v := (N.2.1 28 10)) rfl (b_ine (pc := 27) rw_107_27 (A := (N.2.1 28 10).toInt) rfl (fun h4 => ?_) (fun h4 => ?_))
        · refine to_rv (pc := 86) rw_107_86 ?_
          exact h N hG F0 
        · refine to_an (pc := 30) rw_107_30 rfl ?_
          have b_5 := g_b hG (a := 28) (i := 8) (lo := 0) (hi := 3000) rfl rfl
          refine tt_gI (pc := 31) rw_107_31 (g_o hG rfl) (v := (N.2.1 28 8)) rfl (to_c (pc := 34) rw_107_34 (x := (3000 : Int32)) rfl rfl (b_clt (pc := 37) rw_107_37 (A := (N.2.1 28 8).toInt) (B := 3000) rfl rfl (fun h6 => ?_) (fun h6 => ?_)))
          · refine to_an (pc := 48) rw_107_48 rfl (to_dupr (pc := 49) rw_107_49 (tt_gI (pc := 50) rw_107_50 (g_o hG rfl) (v := (N.2.1 28 8)) rfl (to_c (pc := 53) rw_107_53 (x := (1 : Int32)) rfl rfl (s_add (pc := 54) rw_107_54 (A := (N.2.1 28 8).toInt) (B := 1) rfl rfl (by omega) (fun v7 e8 => s_pI (pc := 55) rw_107_55 hG rfl (fun M10 W9 => ?_))))))
            have hG11 := g_w hG W9 (A := v7.toInt) rfl (lo := 0) (hi := 3000) rfl rfl (by omega) (by decide)
            have F12 := FR.w F0 W9 (show 18 ≤ 28 ∧ 28 ≤ 35 by decide)
            refine to_an (pc := 58) rw_107_58 rfl (to_an (pc := 59) rw_107_59 rfl (to_i (pc := 60) rw_107_60 rfl (to_i (pc := 62) rw_107_62 rfl (s_v (pc := 64) rw_107_64 (by omega) (ls0 := [.ref 28, .ref 17, .int x5, .int o, .null]) rfl (Nat.le_of_ble_eq_true rfl) (Nat.le_of_ble_eq_true rfl) rfl (to_rc rfl rfl rfl (g_o hG11 rfl)) rfl (C_108 hX (by omega) hG11 (by omega) (by omega) (by omega) (by omega) hr (s := x5) (o := o) (fun M15 hG14 F13 => ?_))))))
            have F16 := FR.c F12 F13 tg_141
            refine to_i (pc := 67) rw_107_67 rfl (to_c (pc := 69) rw_107_69 (x := (1 : Int32)) rfl rfl (s_add (pc := 70) rw_107_70 (A := x5.toInt) (B := 1) rfl rfl (by omega) (fun v17 e18 => to_an (pc := 71) rw_107_71 rfl (s_gR (pc := 72) rw_107_72 hG14 rfl (v := 35) rfl (to_i (pc := 75) rw_107_75 rfl (s_ial (pc := 77) rw_107_77 hG14 rfl (n := 40) rfl rfl (A := x5.toInt) rfl (by omega) (by omega) (lo := 0) (hi := 40) rfl rfl (fun v19 w_20 _ _ => s_max (pc := 78) rw_107_78 rfl (A := v17.toInt) (B := v19.toInt) rfl rfl (fun v21 _ _ _ => to_is (pc := 81) rw_107_81 (ls2 := [.ref 28, .ref 17, u2, .int t, .int o, .int v21]) rfl rfl (to_go (pc := 83) rw_107_83 ?_)))))))))
            exact ih M15 (u2) v21 hG14 F16 (by omega) (by omega) (by omega) (by omega) (by omega) (by omega)
          · refine to_an (pc := 40) rw_107_40 rfl (to_c (pc := 41) rw_107_41 (x := (1 : Int32)) rfl rfl (s_pZ (pc := 42) rw_107_42 hG rfl (A := 1) rfl (by omega) (fun M23 W22 => ?_)))
            have hG24 := g_w hG W22 (A := 1) rfl (lo := 0) (hi := 1) rfl rfl (by omega) (by decide)
            have F25 := FR.w F0 W22 (show 18 ≤ 28 ∧ 28 ≤ 35 by decide)
            refine to_go (pc := 45) rw_107_45 (to_i (pc := 67) rw_107_67 rfl (to_c (pc := 69) rw_107_69 (x := (1 : Int32)) rfl rfl (s_add (pc := 70) rw_107_70 (A := x5.toInt) (B := 1) rfl rfl (by omega) (fun v26 e27 => to_an (pc := 71) rw_107_71 rfl (s_gR (pc := 72) rw_107_72 hG24 rfl (v := 35) rfl (to_i (pc := 75) rw_107_75 rfl (s_ial (pc := 77) rw_107_77 hG24 rfl (n := 40) rfl rfl (A := x5.toInt) rfl (by omega) (by omega) (lo := 0) (hi := 40) rfl rfl (fun v28 w_29 _ _ => s_max (pc := 78) rw_107_78 rfl (A := v26.toInt) (B := v28.toInt) rfl rfl (fun v30 _ _ _ => to_is (pc := 81) rw_107_81 (ls2 := [.ref 28, .ref 17, u2, .int t, .int o, .int v30]) rfl rfl (to_go (pc := 83) rw_107_83 ?_))))))))))
            exact ih M23 (u2) v30 hG24 F25 (by omega) (by omega) (by omega) (by omega) (by omega) (by omega)
set_option maxRecDepth 4000 in
set_option maxHeartbeats 0 in
theorem B_107 {X : mm_X} {d : Nat} {M : mm_M} {Q : Option Value → mm_M → Prop} {f : Int32} {t : Int32} {o : Int32} (hX : g_X X) (hd : 3 + 2 * (6 - o.toInt) ≤ (d : Int)) (hG : g_G M) (q1 : 0 ≤ f.toInt) (q2 : f.toInt ≤ 40) (q3 : 0 ≤ o.toInt) (q4 : o.toInt ≤ 6) (hr : RC_107 (6 - o.toInt)) (h : ∀ (M1 : mm_M), g_G M1 → FR md_w M M1 → Q (none) M1) : mm_T X d 107 0 [.ref 28, .ref 17, .int f, .int t, .int o, .null] [] M Q := by
  have F0 : FR md_w M M := FR.rf
  refine to_i (pc := 0) rw_107_0 rfl (to_c (pc := 2) rw_107_2 (x := (5 : Int32)) rfl rfl (b_cle (pc := 3) rw_107_3 (A := o.toInt) (B := 5) rfl rfl (fun h31 => ?_) (fun h31 => ?_)))
  · refine to_in (pc := 7) rw_107_7 rfl (to_is (pc := 8) rw_107_8 (ls2 := [.ref 28, .ref 17, .int f, .int t, .int o, .int f]) rfl rfl ?_)
    exact (T_107_0 (f := f) (t := t) (o := o) hX hd q1 q2 q3 q4 hr h ((40 - f.toInt).toNat + 1)) M (.int f) f hG F0 (by omega) (by omega) (by omega) (by omega) (by omega) (by omega)
  · refine to_rv (pc := 6) rw_107_6 ?_
    exact h M hG F0 
theorem RC_107_all : ∀ nn : Nat, RC_107 (nn : Int) := by
  intro nn
  induction nn with
  | zero =>
    intro X d M Q f t o hX hd hG q1 q2 q3 q4 hm h
    exfalso; omega
  | succ nn ih =>
    intro X d M Q f t o hX hd hG q1 q2 q3 q4 hm h
    exact B_107 hX hd hG q1 q2 q3 q4 (fun X2 d2 M2 Q2 f2 t2 o2 e71 e72 e73 q12 q22 q32 q42 hm2 h2 => ih X2 d2 M2 Q2 f2 t2 o2 e71 e72 e73 q12 q22 q32 q42 (by omega) h2) h
theorem C_107 {X : mm_X} {d : Nat} {M : mm_M} {Q : Option Value → mm_M → Prop} {f : Int32} {t : Int32} {o : Int32} (hX : g_X X) (hd : 3 + 2 * (6 - o.toInt) ≤ (d : Int)) (hG : g_G M) (q1 : 0 ≤ f.toInt) (q2 : f.toInt ≤ 40) (q3 : 0 ≤ o.toInt) (q4 : o.toInt ≤ 6) (h : ∀ (M1 : mm_M), g_G M1 → FR md_w M M1 → Q (none) M1) : mm_T X d 107 0 [.ref 28, .ref 17, .int f, .int t, .int o, .null] [] M Q := RC_107_all ((6 - o.toInt).toNat + 1) X d M Q f t o hX hd hG q1 q2 q3 q4 (by omega) h
set_option maxRecDepth 4000 in
set_option maxHeartbeats 0 in
theorem C_106 {X : mm_X} {d : Nat} {M : mm_M} {Q : Option Value → mm_M → Prop} (hX : g_X X) (hd : 16 ≤ d) (hG : g_G M) (h : ∀ (r : Int32) (M1 : mm_M), g_G M1 → FR md_w M M1 → (0 ≤ r.toInt) → (r.toInt ≤ 1) → Q (some (.int r)) M1) : mm_T X d 106 0 [.ref 28, .ref 17] [] M Q := by
  have F0 : FR md_w M M := FR.rf
  refine to_an (pc := 0) rw_106_0 rfl (to_c (pc := 1) rw_106_1 (x := (0 : Int32)) rfl rfl (s_pI (pc := 2) rw_106_2 hG rfl (fun M2 W1 => ?_)))
  have hG3 := g_w hG W1 (A := 0) rfl (lo := 0) (hi := 3000) rfl rfl (by omega) (by decide)
  have F4 := FR.w F0 W1 (show 18 ≤ 28 ∧ 28 ≤ 35 by decide)
  refine to_an (pc := 5) rw_106_5 rfl (to_c (pc := 6) rw_106_6 (x := (0 : Int32)) rfl rfl (s_pI (pc := 7) rw_106_7 hG3 rfl (fun M6 W5 => ?_)))
  have hG7 := g_wf hG3 W5 rfl rfl (by decide)
  have F8 := FR.w F4 W5 (show 18 ≤ 28 ∧ 28 ≤ 35 by decide)
  refine to_an (pc := 10) rw_106_10 rfl (to_c (pc := 11) rw_106_11 (x := (0 : Int32)) rfl rfl (s_pZ (pc := 12) rw_106_12 hG7 rfl (A := 0) rfl (by omega) (fun M10 W9 => ?_)))
  have hG11 := g_w hG7 W9 (A := 0) rfl (lo := 0) (hi := 1) rfl rfl (by omega) (by decide)
  have F12 := FR.w F8 W9 (show 18 ≤ 28 ∧ 28 ≤ 35 by decide)
  refine to_an (pc := 15) rw_106_15 rfl (to_an (pc := 16) rw_106_16 rfl (to_c (pc := 17) rw_106_17 (x := (0 : Int32)) rfl rfl (to_an (pc := 18) rw_106_18 rfl ?_)))
  have c_13 : M10.2.1 28 7 = (M.2.1 28 7) := (W_n W9 (by decide) (W_n W5 (by decide) (W_n W1 (by decide) rfl)))
  have b_14 := g_b hG (a := 28) (i := 7) (lo := 0) (hi := 40) rfl rfl
  refine tt_gI (pc := 19) rw_106_19 (g_o hG11 rfl) (v := (M.2.1 28 7)) c_13 (to_c (pc := 22) rw_106_22 (x := (0 : Int32)) rfl rfl (s_v (pc := 23) rw_106_23 (dp0 hd (by decide)) (ls0 := [.ref 28, .ref 17, .int (0 : Int32), .int (M.2.1 28 7), .int (0 : Int32), .null]) rfl (Nat.le_of_ble_eq_true rfl) (Nat.le_of_ble_eq_true rfl) rfl (to_rc rfl rfl rfl (g_o hG11 rfl)) rfl ?_))
  have k_15 : (0 : Int32).toInt = 0 := rfl
  refine C_107 hX (by omega) hG11 (by omega) (by omega) (by omega) (by omega) (f := (0 : Int32)) (t := (M.2.1 28 7)) (o := (0 : Int32)) (fun M18 hG17 F16 => ?_)
  have F19 := FR.c F12 F16 tg_141
  refine to_an (pc := 26) rw_106_26 rfl ?_
  have b_20 := g_b hG17 (a := 28) (i := 10) (lo := 0) (hi := 1) rfl rfl
  refine tt_gZ (pc := 27) rw_106_27 (g_o hG17 rfl) (v := (M18.2.1 28 10)) rfl (b_ine (pc := 30) rw_106_30 (A := (M18.2.1 28 10).toInt) rfl (fun h21 => ?_) (fun h21 => ?_))
  · refine to_c (pc := 37) rw_106_37 (x := (0 : Int32)) rfl rfl (s_r1 (pc := 38) rw_106_38 (A := 0) rfl (by decide) ?_)
    exact h (0 : Int32) M18 hG17 F19 (by decide) (by decide)
  · refine to_c (pc := 33) rw_106_33 (x := (1 : Int32)) rfl rfl (to_go (pc := 34) rw_106_34 (s_r1 (pc := 38) rw_106_38 (A := 1) rfl (by decide) ?_))
    have k_22 : (1 : Int32).toInt = 1 := rfl
    exact h (1 : Int32) M18 hG17 F19 (by decide) (by decide)
