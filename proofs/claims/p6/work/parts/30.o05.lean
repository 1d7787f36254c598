theorem tg_229 : ∀ a i : Nat, (a = 1 ∧ 5 ≤ i ∨ 3 ≤ a ∧ a ≤ 5) → (a = 1 ∧ 5 ≤ i ∨ 3 ≤ a ∧ a ≤ 5 ∨ 29 ≤ a ∧ a ≤ 35) := fun a i z => by omega
theorem tg_230 : ∀ a i : Nat, (a = 1 ∧ 5 ≤ i ∨ 3 ≤ a ∧ a ≤ 5) → (a = 1 ∧ 5 ≤ i ∨ 3 ≤ a ∧ a ≤ 5 ∨ a = 33) := fun a i z => by omega
theorem tg_231 : ∀ a i : Nat, (a < 0) → (a = 1 ∧ 5 ≤ i ∨ 3 ≤ a ∧ a ≤ 5 ∨ a = 33) := fun a i z => by omega
theorem tg_232 : ∀ a i : Nat, (a = 1 ∧ 5 ≤ i ∨ 3 ≤ a ∧ a ≤ 5 ∨ a = 33) → (a = 1 ∧ 5 ≤ i ∨ 3 ≤ a ∧ a ≤ 5 ∨ 29 ≤ a ∧ a ≤ 35) := fun a i z => by omega
theorem tg_233 : ∀ a i : Nat, (a = 1 ∧ 5 ≤ i ∨ 3 ≤ a ∧ a ≤ 5 ∨ 29 ≤ a ∧ a ≤ 35) → (a = 1 ∧ 5 ≤ i ∨ 3 ≤ a ∧ a ≤ 5 ∨ 29 ≤ a ∧ a ≤ 35) := fun a i z => by omega
theorem tg_234 : ∀ a i : Nat, (a = 1 ∧ 5 ≤ i ∨ 3 ≤ a ∧ a ≤ 5) → (a = 1 ∧ 5 ≤ i ∨ 3 ≤ a ∧ a ≤ 5 ∨ 28 ≤ a ∧ a ≤ 35) := fun a i z => by omega
theorem tg_235 : ∀ a i : Nat, (a = 1 ∧ 5 ≤ i ∨ 3 ≤ a ∧ a ≤ 5 ∨ 28 ≤ a ∧ a ≤ 35) → (a = 1 ∧ 5 ≤ i ∨ 3 ≤ a ∧ a ≤ 5 ∨ 28 ≤ a ∧ a ≤ 35) := fun a i z => by omega
theorem tg_236 : ∀ a i : Nat, (a = 1 ∧ 5 ≤ i ∨ 3 ≤ a ∧ a ≤ 5 ∨ 29 ≤ a ∧ a ≤ 35) → (a = 1 ∧ 5 ≤ i ∨ 3 ≤ a ∧ a ≤ 5 ∨ 28 ≤ a ∧ a ≤ 35) := fun a i z => by omega
theorem tg_237 : ∀ a i : Nat, (18 ≤ a ∧ a ≤ 35) → (18 ≤ a ∧ a ≤ 35) := fun a i z => by omega
theorem tg_238 : ∀ a i : Nat, (18 ≤ a ∧ a ≤ 27) → (18 ≤ a ∧ a ≤ 35) := fun a i z => by omega
set_option maxRecDepth 4000 in
set_option maxHeartbeats 0 in
theorem C_102 {X : mm_X} {d : Nat} {M : mm_M} {Q : Option Value → mm_M → Prop} {w : Nat} {s : Int32} (hX : g_X X) (hd : 1 ≤ d) (hG : g_G M) (hw : w = 30 ∨ w = 31 ∨ w = 32) (q1 : 0 ≤ s.toInt) (q2 : s.toInt ≤ 39) (h : ∀ (r : Int32) (M1 : mm_M), g_G M1 → FR md_wr M M1 → (0 ≤ r.toInt) → (r.toInt ≤ 1) → (r.toInt = 1 → (M1.2.1 1 10).toInt = (M.2.1 1 10).toInt ∧ (M1.2.1 1 11).toInt = (M.2.1 1 11).toInt) → Q (some (.int r)) M1) : mm_T X d 102 0 [.ref 28, .ref 1, .ref w, .int s, .null] [] M Q := by
  have F0 : FR md_wr M M := FR.rf
  refine to_an (pc := 0) rw_102_0 rfl (tt_gI (pc := 1) rw_102_1 (g_o hG rfl) (v := (M.2.1 1 7)) rfl (to_c (pc := 4) rw_102_4 (x := (3 : Int32)) rfl rfl (b_cne (pc := 5) rw_102_5 (A := (M.2.1 1 7).toInt) (B := 3) rfl rfl (fun h1 => ?_) (fun h1 => ?_))))
  · refine to_c (pc := 18) rw_102_18 (x := (0 : Int32)) rfl rfl (to_is (pc := 19) rw_102_19 (ls2 := [.ref 28, .ref 1, .ref w, .int s, .int (0 : Int32)]) rfl rfl (to_i (pc := 21) rw_102_21 rfl (to_c (pc := 23) rw_102_23 (x := (1 : Int32)) rfl rfl (b_clt_t (pc := 24) rw_102_24 (A := 0) (B := 1) rfl rfl (by decide) (to_an (pc := 46) rw_102_46 rfl (to_c (pc := 47) rw_102_47 (x := (1 : Int32)) rfl rfl (s_v (pc := 48) rw_102_48 (dp0 hd (by decide)) (ls0 := [.ref 1, .int (1 : Int32)]) rfl (Nat.le_of_ble_eq_true rfl) (Nat.le_of_ble_eq_true rfl) rfl (to_rc rfl rfl rfl (g_o hG rfl)) rfl (to_an (pc := 0) rw_84_0 rfl (to_in (pc := 1) rw_84_1 rfl (s_pI (pc := 2) rw_84_2 hG rfl (fun M3 W2 => ?_)))))))))))
    have hG4 := g_wf hG W2 rfl rfl (by decide)
    have F5 := FR.w F0 W2 (show 1 = 1 ∧ 5 ≤ 10 ∨ 3 ≤ 1 ∧ 1 ≤ 5 ∨ 29 ≤ 1 ∧ 1 ≤ 35 by decide)
    refine to_an (pc := 5) rw_84_5 rfl (to_an (pc := 6) rw_84_6 rfl ?_)
    have c_6 : M3.2.1 1 9 = (M.2.1 1 9) := (W_n W2 (by decide) rfl)
    refine tt_gI (pc := 7) rw_84_7 (g_o hG4 rfl) (v := (M.2.1 1 9)) c_6 (s_pI (pc := 10) rw_84_10 hG4 rfl (fun M8 W7 => ?_))
    have hG9 := g_wf hG4 W7 rfl rfl (by decide)
    have F10 := FR.w F5 W7 (show 1 = 1 ∧ 5 ≤ 11 ∨ 3 ≤ 1 ∧ 1 ≤ 5 ∨ 29 ≤ 1 ∧ 1 ≤ 35 by decide)
    refine to_c (pc := 13) rw_84_13 (x := (0 : Int32)) rfl rfl (s_r1 (pc := 14) rw_84_14 (A := 0) rfl (by decide) (s_r1 (pc := 51) rw_102_51 (A := 0) rfl (by decide) ?_))
    have k_11 : (0 : Int32).toInt = 0 := rfl
    have c_12 : M8.2.1 1 10 = (1 : Int32) := (W_n W7 (by decide) (W_e W2))
    have k_13 : (1 : Int32).toInt = 1 := rfl
    have t_14 : (M8.2.1 1 10).toInt = (1 : Int32).toInt := congrArg Int32.toInt c_12
    have c_15 : M8.2.1 1 11 = (M.2.1 1 9) := (W_e W7)
    have t_16 : (M8.2.1 1 11).toInt = (M.2.1 1 9).toInt := congrArg Int32.toInt c_15
    exact h (0 : Int32) M8 hG9 F10 (by decide) (by decide) (by omega)
  · refine to_an (pc := 8) rw_102_8 rfl (tt_gI (pc := 9) rw_102_9 (g_o hG rfl) (v := (M.2.1 1 8)) rfl (to_c (pc := 12) rw_102_12 (x := (25 : Int32)) rfl rfl (s_any (pc := 14) rw_102_14 (fun _ _ => rfl) (fun v17 => to_go (pc := 15) rw_102_15 (to_is (pc := 19) rw_102_19 (ls2 := [.ref 28, .ref 1, .ref w, .int s, .int v17]) rfl rfl (to_i (pc := 21) rw_102_21 rfl (to_c (pc := 23) rw_102_23 (x := (1 : Int32)) rfl rfl (b_clt (pc := 24) rw_102_24 (A := v17.toInt) (B := 1) rfl rfl (fun h18 => ?_) (fun h18 => ?_)))))))))
    · refine to_an (pc := 46) rw_102_46 rfl (to_c (pc := 47) rw_102_47 (x := (1 : Int32)) rfl rfl (s_v (pc := 48) rw_102_48 (dp0 hd (by decide)) (ls0 := [.ref 1, .int (1 : Int32)]) rfl (Nat.le_of_ble_eq_true rfl) (Nat.le_of_ble_eq_true rfl) rfl (to_rc rfl rfl rfl (g_o hG rfl)) rfl (to_an (pc := 0) rw_84_0 rfl (to_in (pc := 1) rw_84_1 rfl (s_pI (pc := 2) rw_84_2 hG rfl (fun M20 W19 => ?_))))))
      have hG21 := g_wf hG W19 rfl rfl (by decide)
      have F22 := FR.w F0 W19 (show 1 = 1 ∧ 5 ≤ 10 ∨ 3 ≤ 1 ∧ 1 ≤ 5 ∨ 29 ≤ 1 ∧ 1 ≤ 35 by decide)
      refine to_an (pc := 5) rw_84_5 rfl (to_an (pc := 6) rw_84_6 rfl ?_)
      have c_23 : M20.2.1 1 9 = (M.2.1 1 9) := (W_n W19 (by decide) rfl)
      refine tt_gI (pc := 7) rw_84_7 (g_o hG21 rfl) (v := (M.2.1 1 9)) c_23 (s_pI (pc := 10) rw_84_10 hG21 rfl (fun M25 W24 => ?_))
      have hG26 := g_wf hG21 W24 rfl rfl (by decide)
      have F27 := FR.w F22 W24 (show 1 = 1 ∧ 5 ≤ 11 ∨ 3 ≤ 1 ∧ 1 ≤ 5 ∨ 29 ≤ 1 ∧ 1 ≤ 35 by decide)
      refine to_c (pc := 13) rw_84_13 (x := (0 : Int32)) rfl rfl (s_r1 (pc := 14) rw_84_14 (A := 0) rfl (by decide) (s_r1 (pc := 51) rw_102_51 (A := 0) rfl (by decide) ?_))
      have k_28 : (0 : Int32).toInt = 0 := rfl
      have c_29 : M25.2.1 1 10 = (1 : Int32) := (W_n W24 (by decide) (W_e W19))
      have k_30 : (1 : Int32).toInt = 1 := rfl
      have t_31 : (M25.2.1 1 10).toInt = (1 : Int32).toInt := congrArg Int32.toInt c_29
      have c_32 : M25.2.1 1 11 = (M.2.1 1 9) := (W_e W24)
      have t_33 : (M25.2.1 1 11).toInt = (M.2.1 1 9).toInt := congrArg Int32.toInt c_32
      exact h (0 : Int32) M25 hG26 F27 (by decide) (by decide) (by omega)
    · refine to_i (pc := 27) rw_102_27 rfl (to_c (pc := 29) rw_102_29 (x := (6 : Int32)) rfl rfl (b_cgt (pc := 31) rw_102_31 (A := v17.toInt) (B := 6) rfl rfl (fun h34 => ?_) (fun h34 => ?_)))
      · refine to_an (pc := 46) rw_102_46 rfl (to_c (pc := 47) rw_102_47 (x := (1 : Int32)) rfl rfl (s_v (pc := 48) rw_102_48 (dp0 hd (by decide)) (ls0 := [.ref 1, .int (1 : Int32)]) rfl (Nat.le_of_ble_eq_true rfl) (Nat.le_of_ble_eq_true rfl) rfl (to_rc rfl rfl rfl (g_o hG rfl)) rfl (to_an (pc := 0) rw_84_0 rfl (to_in (pc := 1) rw_84_1 rfl (s_pI (pc := 2) rw_84_2 hG rfl (fun M36 W35 => ?_))))))
        have hG37 := g_wf hG W35 rfl rfl (by decide)
        have F38 := FR.w F0 W35 (show 1 = 1 ∧ 5 ≤ 10 ∨ 3 ≤ 1 ∧ 1 ≤ 5 ∨ 29 ≤ 1 ∧ 1 ≤ 35 by decide)
        refine to_an (pc := 5) rw_84_5 rfl (to_an (pc := 6) rw_84_6 rfl ?_)
        have c_39 : M36.2.1 1 9 = (M.2.1 1 9) := (W_n W35 (by decide) rfl)
        refine tt_gI (pc := 7) rw_84_7 (g_o hG37 rfl) (v := (M.2.1 1 9)) c_39 (s_pI (pc := 10) rw_84_10 hG37 rfl (fun M41 W40 => ?_))
        have hG42 := g_wf hG37 W40 rfl rfl (by decide)
        have F43 := FR.w F38 W40 (show 1 = 1 ∧ 5 ≤ 11 ∨ 3 ≤ 1 ∧ 1 ≤ 5 ∨ 29 ≤ 1 ∧ 1 ≤ 35 by decide)
        refine to_c (pc := 13) rw_84_13 (x := (0 : Int32)) rfl rfl (s_r1 (pc := 14) rw_84_14 (A := 0) rfl (by decide) (s_r1 (pc := 51) rw_102_51 (A := 0) rfl (by decide) ?_))
        have k_44 : (0 : Int32).toInt = 0 := rfl
        have c_45 : M41.2.1 1 10 = (1 : Int32) := (W_n W40 (by decide) (W_e W35))
        have k_46 : (1 : Int32).toInt = 1 := rfl
        have t_47 : (M41.2.1 1 10).toInt = (1 : Int32).toInt := congrArg Int32.toInt c_45
        have c_48 : M41.2.1 1 11 = (M.2.1 1 9) := (W_e W40)
        have t_49 : (M41.2.1 1 11).toInt = (M.2.1 1 9).toInt := congrArg Int32.toInt c_48
        exact h (0 : Int32) M41 hG42 F43 (by decide) (by decide) (by omega)
      · refine to_an (pc := 34) rw_102_34 rfl (tt_gI (pc := 35) rw_102_35 (g_o hG rfl) (v := (M.2.1 1 8)) rfl (to_i (pc := 38) rw_102_38 rfl (to_c (pc := 40) rw_102_40 (x := (25 : Int32)) rfl rfl (s_any (pc := 42) rw_102_42 (fun _ _ => rfl) (fun v50 => b_ceq (pc := 43) rw_102_43 (A := (M.2.1 1 8).toInt) (B := v50.toInt) rfl rfl (fun h51 => ?_) (fun h51 => ?_))))))
        · refine to_an (pc := 52) rw_102_52 rfl (to_in (pc := 53) rw_102_53 rfl (to_i (pc := 54) rw_102_54 rfl (to_c (pc := 56) rw_102_56 (x := (1 : Int32)) rfl rfl (s_sub (pc := 57) rw_102_57 (A := v17.toInt) (B := 1) rfl rfl (by omega) (fun v52 e53 => s_ias (pc := 58) rw_102_58 hG (by rcases hw with rfl | rfl | rfl <;> rfl) (n := 40) (by rcases hw with rfl | rfl | rfl <;> rfl) (A := s.toInt) rfl (by omega) (by omega) (fun M55 W54 => ?_))))))
          have hG56 := g_w hG W54 (A := v52.toInt) rfl (lo := 0) (hi := 5) (by rcases hw with rfl | rfl | rfl <;> rfl) (by rcases hw with rfl | rfl | rfl <;> rfl) (by omega) (by omega)
          have F57 := FR.w F0 W54 (show w = 1 ∧ 5 ≤ (s.toInt).toNat ∨ 3 ≤ w ∧ w ≤ 5 ∨ 29 ≤ w ∧ w ≤ 35 by omega)
          refine to_an (pc := 59) rw_102_59 rfl (s_v (pc := 60) rw_102_60 (dp0 hd (by decide)) (ls0 := [.ref 1]) rfl (Nat.le_of_ble_eq_true rfl) (Nat.le_of_ble_eq_true rfl) rfl (to_rc rfl rfl rfl (g_o hG56 rfl)) rfl ?_)
          have c_58 : M55.2.1 1 10 = (M.2.1 1 10) := (W_n W54 (by omega) rfl)
          have t_59 : (M55.2.1 1 10).toInt = (M.2.1 1 10).toInt := congrArg Int32.toInt c_58
          have c_60 : M55.2.1 1 11 = (M.2.1 1 11) := (W_n W54 (by omega) rfl)
          have t_61 : (M55.2.1 1 11).toInt = (M.2.1 1 11).toInt := congrArg Int32.toInt c_60
          refine C_83 hX (dp1 hd (by decide)) hG56  (fun M65 hG63 F62 p_64 => ?_)
          have F66 := FR.c F57 F62 tg_229
          refine to_c (pc := 63) rw_102_63 (x := (1 : Int32)) rfl rfl (s_r1 (pc := 64) rw_102_64 (A := 1) rfl (by decide) ?_)
          have k_67 : (1 : Int32).toInt = 1 := rfl
          exact h (1 : Int32) M65 hG63 F66 (by decide) (by decide) (by omega)
        · refine to_an (pc := 46) rw_102_46 rfl (to_c (pc := 47) rw_102_47 (x := (1 : Int32)) rfl rfl (s_v (pc := 48) rw_102_48 (dp0 hd (by decide)) (ls0 := [.ref 1, .int (1 : Int32)]) rfl (Nat.le_of_ble_eq_true rfl) (Nat.le_of_ble_eq_true rfl) rfl (to_rc rfl rfl rfl (g_o hG rfl)) rfl (to_an (pc := 0) rw_84_0 rfl (to_in (pc := 1) rw_84_1 rfl (s_pI (pc := 2) rw_84_2 hG rfl (fun M69 W68 => ?_))))))
          have hG70 := g_wf hG W68 rfl rfl (by decide)
          have F71 := FR.w F0 W68 (show 1 = 1 ∧ 5 ≤ 10 ∨ 3 ≤ 1 ∧ 1 ≤ 5 ∨ 29 ≤ 1 ∧ 1 ≤ 35 by decide)
          refine to_an (pc := 5) rw_84_5 rfl (to_an (pc := 6) rw_84_6 rfl ?_)
          have c_72 : M69.2.1 1 9 = (M.2.1 1 9) := (W_n W68 (by decide) rfl)
          refine tt_gI (pc := 7) rw_84_7 (g_o hG70 rfl) (v := (M.2.1 1 9)) c_72 (s_pI (pc := 10) rw_84_10 hG70 rfl (fun M74 W73 => ?_))
          have hG75 := g_wf hG70 W73 rfl rfl (by decide)
          have F76 := FR.w F71 W73 (show 1 = 1 ∧ 5 ≤ 11 ∨ 3 ≤ 1 ∧ 1 ≤ 5 ∨ 29 ≤ 1 ∧ 1 ≤ 35 by decide)
          refine to_c (pc := 13) rw_84_13 (x := (0 : Int32)) rfl rfl (s_r1 (pc := 14) rw_84_14 (A := 0) rfl (by decide) (s_r1 (pc := 51) rw_102_51 (A := 0) rfl (by decide) ?_))
          have k_77 : (0 : Int32).toInt = 0 := rfl
          have c_78 : M74.2.1 1 10 = (1 : Int32) := (W_n W73 (by decide) (W_e W68))
          have k_79 : (1 : Int32).toInt = 1 := rfl
          have t_80 : (M74.2.1 1 10).toInt = (1 : Int32).toInt := congrArg Int32.toInt c_78
          have c_81 : M74.2.1 1 11 = (M.2.1 1 9) := (W_e W73)
          have t_82 : (M74.2.1 1 11).toInt = (M.2.1 1 9).toInt := congrArg Int32.toInt c_81
          exact h (0 : Int32) M74 hG75 F76 (by decide) (by decide) (by omega)
set_option maxRecDepth 4000 in
set_option maxHeartbeats 0 in
theorem C_103 {X : mm_X} {d : Nat} {M : mm_M} {Q : Option Value → mm_M → Prop} {p : Nat} {s : Int32} (hX : g_X X) (hd : 2 ≤ d) (hG : g_G M) (hp : p = 49 ∨ p = 58) (q1 : 0 ≤ s.toInt) (q2 : s.toInt ≤ 39) (h : ∀ (r : Int32) (M1 : mm_M), g_G M1 → FR md_t3 M M1 → (0 ≤ r.toInt) → (r.toInt ≤ 1) → (r.toInt = 1 → (M1.2.1 1 10).toInt = (M.2.1 1 10).toInt ∧ (M1.2.1 1 11).toInt = (M.2.1 1 11).toInt) → Q (some (.int r)) M1) : mm_T X d 103 0 [.ref 28, .ref 1, .ref p, .ref 11, .int s, .null, .null, .null, .null] [] M Q := by
  have F0 : FR md_t3 M M := FR.rf
  refine to_c (pc := 0) rw_103_0 (x := (0 : Int32)) rfl rfl (to_is (pc := 1) rw_103_1 (ls2 := [.ref 28, .ref 1, .ref p, .ref 11, .int s, .int (0 : Int32), .null, .null, .null]) rfl rfl (to_an (pc := 3) rw_103_3 rfl ?_))
  have b_1 := g_b hG (a := p) (i := 0) (lo := 10) (hi := 60) (by rcases hp with rfl | rfl <;> rfl) (by rcases hp with rfl | rfl <;> rfl)
  refine tt_gI (pc := 4) rw_103_4 (g_o hG (by rcases hp with rfl | rfl <;> rfl)) (v := (M.2.1 p 0)) rfl (to_c (pc := 7) rw_103_7 (x := (1 : Int32)) rfl rfl (s_sub (pc := 8) rw_103_8 (A := (M.2.1 p 0).toInt) (B := 1) rfl rfl (by omega) (fun v2 e3 => to_is (pc := 9) rw_103_9 (ls2 := [.ref 28, .ref 1, .ref p, .ref 11, .int s, .int (0 : Int32), .int v2, .null, .null]) rfl rfl (to_an (pc := 11) rw_103_11 rfl (tt_gI (pc := 12) rw_103_12 (g_o hG rfl) (v := (M.2.1 1 7)) rfl (to_c (pc := 15) rw_103_15 (x := (3 : Int32)) rfl rfl (b_cne (pc := 16) rw_103_16 (A := (M.2.1 1 7).toInt) (B := 3) rfl rfl (fun h4 => ?_) (fun h4 => ?_))))))))
  · refine to_an (pc := 109) rw_103_109 rfl (to_c (pc := 110) rw_103_110 (x := (0 : Int32)) rfl rfl (to_i (pc := 111) rw_103_111 rfl (s_v (pc := 113) rw_103_113 (dp0 hd (by decide)) (ls0 := [.ref 1, .int (0 : Int32), .int v2]) rfl (Nat.le_of_ble_eq_true rfl) (Nat.le_of_ble_eq_true rfl) rfl (to_rc rfl rfl rfl (g_o hG rfl)) rfl (to_an (pc := 0) rw_88_0 rfl (tt_gI (pc := 1) rw_88_1 (g_o hG rfl) (v := (M.2.1 1 7)) rfl (to_c (pc := 4) rw_88_4 (x := (2 : Int32)) rfl rfl (b_ceq (pc := 5) rw_88_5 (A := (M.2.1 1 7).toInt) (B := 2) rfl rfl (fun h5 => ?_) (fun h5 => ?_))))))))
    · refine to_an (pc := 14) rw_88_14 rfl (tt_gI (pc := 15) rw_88_15 (g_o hG rfl) (v := (M.2.1 1 8)) rfl (to_in (pc := 18) rw_88_18 rfl (b_clt (pc := 19) rw_88_19 (A := (M.2.1 1 8).toInt) (B := 0) rfl rfl (fun h6 => ?_) (fun h6 => ?_))))
      · refine to_an (pc := 30) rw_88_30 rfl (to_c (pc := 31) rw_88_31 (x := (2 : Int32)) rfl rfl (s_v (pc := 32) rw_88_32 (dp1 hd (by decide)) (ls0 := [.ref 1, .int (2 : Int32)]) rfl (Nat.le_of_ble_eq_true rfl) (Nat.le_of_ble_eq_true rfl) rfl (to_rc rfl rfl rfl (g_o hG rfl)) rfl (to_an (pc := 0) rw_84_0 rfl (to_in (pc := 1) rw_84_1 rfl (s_pI (pc := 2) rw_84_2 hG rfl (fun M8 W7 => ?_))))))
        have hG9 := g_wf hG W7 rfl rfl (by decide)
        have F10 := FR.w F0 W7 (show 1 = 1 ∧ 5 ≤ 10 ∨ 3 ≤ 1 ∧ 1 ≤ 5 ∨ 1 = 33 by decide)
        refine to_an (pc := 5) rw_84_5 rfl (to_an (pc := 6) rw_84_6 rfl ?_)
        have c_11 : M8.2.1 1 9 = (M.2.1 1 9) := (W_n W7 (by decide) rfl)
        refine tt_gI (pc := 7) rw_84_7 (g_o hG9 rfl) (v := (M.2.1 1 9)) c_11 (s_pI (pc := 10) rw_84_10 hG9 rfl (fun M13 W12 => ?_))
        have hG14 := g_wf hG9 W12 rfl rfl (by decide)
        have F15 := FR.w F10 W12 (show 1 = 1 ∧ 5 ≤ 11 ∨ 3 ≤ 1 ∧ 1 ≤ 5 ∨ 1 = 33 by decide)
        refine to_c (pc := 13) rw_84_13 (x := (0 : Int32)) rfl rfl (s_r1 (pc := 14) rw_84_14 (A := 0) rfl (by decide) (b_ieq_t (pc := 35) rw_88_35 (A := 0) rfl (by decide) (to_c (pc := 42) rw_88_42 (x := (0 : Int32)) rfl rfl (s_r1 (pc := 43) rw_88_43 (A := 0) rfl (by decide) (b_ine_f (pc := 116) rw_103_116 (A := 0) rfl (by decide) (to_c (pc := 119) rw_103_119 (x := (0 : Int32)) rfl rfl (s_r1 (pc := 120) rw_103_120 (A := 0) rfl (by decide) ?_)))))))
        have k_16 : (0 : Int32).toInt = 0 := rfl
        have c_17 : M13.2.1 1 10 = (2 : Int32) := (W_n W12 (by decide) (W_e W7))
        have k_18 : (2 : Int32).toInt = 2 := rfl
        have t_19 : (M13.2.1 1 10).toInt = (2 : Int32).toInt := congrArg Int32.toInt c_17
        have c_20 : M13.2.1 1 11 = (M.2.1 1 9) := (W_e W12)
        have t_21 : (M13.2.1 1 11).toInt = (M.2.1 1 9).toInt := congrArg Int32.toInt c_20
        exact h (0 : Int32) M13 hG14 F15 (by decide) (by decide) (by omega)
      · refine to_an (pc := 22) rw_88_22 rfl (tt_gI (pc := 23) rw_88_23 (g_o hG rfl) (v := (M.2.1 1 8)) rfl (to_in (pc := 26) rw_88_26 rfl (b_cle (pc := 27) rw_88_27 (A := (M.2.1 1 8).toInt) (B := v2.toInt) rfl rfl (fun h22 => ?_) (fun h22 => ?_))))
        · refine to_c (pc := 38) rw_88_38 (x := (1 : Int32)) rfl rfl (to_go (pc := 39) rw_88_39 (s_r1 (pc := 43) rw_88_43 (A := 1) rfl (by decide) (b_ine_t (pc := 116) rw_103_116 (A := 1) rfl (by decide) (to_an (pc := 121) rw_103_121 rfl (s_gR (pc := 122) rw_103_122 hG rfl (v := 33) rfl (to_i (pc := 125) rw_103_125 rfl (to_dup2 (pc := 127) rw_103_127 (s_lal (pc := 128) rw_103_128 hG rfl (n := 40) rfl (A := s.toInt) rfl (by omega) (by omega) (fun l23 => s_cl (pc := 129) rw_103_129 rfl (fun l24 => to_i (pc := 130) rw_103_130 rfl (to_an (pc := 132) rw_103_132 rfl ?_)))))))))))
          refine tt_gI (pc := 133) rw_103_133 (g_o hG rfl) (v := (M.2.1 1 8)) rfl (s_add (pc := 136) rw_103_136 (A := 0) (B := (M.2.1 1 8).toInt) rfl rfl (by omega) (fun v25 e26 => s_anyS (pc := 137) rw_103_137 (fun _ _ => rfl) (fun l27 => s_anyL (pc := 138) rw_103_138 (fun _ _ => rfl) (fun l28 => s_las (pc := 139) rw_103_139 hG rfl (n := 40) rfl (A := s.toInt) rfl (by omega) (by omega) (fun M30 W29 => ?_)))))
          have hG31 := g_wl hG W29
          have F32 := FR.wl F0 W29 (show 33 = 1 ∧ 5 ≤ (s.toInt).toNat ∨ 3 ≤ 33 ∧ 33 ≤ 5 ∨ 33 = 33 by omega)
          refine to_an (pc := 140) rw_103_140 rfl (s_v (pc := 141) rw_103_141 (dp0 hd (by decide)) (ls0 := [.ref 1]) rfl (Nat.le_of_ble_eq_true rfl) (Nat.le_of_ble_eq_true rfl) rfl (to_rc rfl rfl rfl (g_o hG31 rfl)) rfl ?_)
          have c_33 : M30.2.1 1 10 = (M.2.1 1 10) := (W_l W29 rfl)
          have t_34 : (M30.2.1 1 10).toInt = (M.2.1 1 10).toInt := congrArg Int32.toInt c_33
          have c_35 : M30.2.1 1 11 = (M.2.1 1 11) := (W_l W29 rfl)
          have t_36 : (M30.2.1 1 11).toInt = (M.2.1 1 11).toInt := congrArg Int32.toInt c_35
          refine C_83 hX (dp1 hd (by decide)) hG31  (fun M40 hG38 F37 p_39 => ?_)
          have F41 := FR.c F32 F37 tg_230
          refine to_c (pc := 144) rw_103_144 (x := (1 : Int32)) rfl rfl (s_r1 (pc := 145) rw_103_145 (A := 1) rfl (by decide) ?_)
          have k_42 : (1 : Int32).toInt = 1 := rfl
          exact h (1 : Int32) M40 hG38 F41 (by decide) (by decide) (by omega)
        · refine to_an (pc := 30) rw_88_30 rfl (to_c (pc := 31) rw_88_31 (x := (2 : Int32)) rfl rfl (s_v (pc := 32) rw_88_32 (dp1 hd (by decide)) (ls0 := [.ref 1, .int (2 : Int32)]) rfl (Nat.le_of_ble_eq_true rfl) (Nat.le_of_ble_eq_true rfl) rfl (to_rc rfl rfl rfl (g_o hG rfl)) rfl (to_an (pc := 0) rw_84_0 rfl (to_in (pc := 1) rw_84_1 rfl (s_pI (pc := 2) rw_84_2 hG rfl (fun M44 W43 => ?_))))))
          have hG45 := g_wf hG W43 rfl rfl (by decide)
          have F46 := FR.w F0 W43 (show 1 = 1 ∧ 5 ≤ 10 ∨ 3 ≤ 1 ∧ 1 ≤ 5 ∨ 1 = 33 by decide)
          refine to_an (pc := 5) rw_84_5 rfl (to_an (pc := 6) rw_84_6 rfl ?_)
          have c_47 : M44.2.1 1 9 = (M.2.1 1 9) := (W_n W43 (by decide) rfl)
          refine tt_gI (pc := 7) rw_84_7 (g_o hG45 rfl) (v := (M.2.1 1 9)) c_47 (s_pI (pc := 10) rw_84_10 hG45 rfl (fun M49 W48 => ?_))
          have hG50 := g_wf hG45 W48 rfl rfl (by decide)
          have F51 := FR.w F46 W48 (show 1 = 1 ∧ 5 ≤ 11 ∨ 3 ≤ 1 ∧ 1 ≤ 5 ∨ 1 = 33 by decide)
          refine to_c (pc := 13) rw_84_13 (x := (0 : Int32)) rfl rfl (s_r1 (pc := 14) rw_84_14 (A := 0) rfl (by decide) (b_ieq_t (pc := 35) rw_88_35 (A := 0) rfl (by decide) (to_c (pc := 42) rw_88_42 (x := (0 : Int32)) rfl rfl (s_r1 (pc := 43) rw_88_43 (A := 0) rfl (by decide) (b_ine_f (pc := 116) rw_103_116 (A := 0) rfl (by decide) (to_c (pc := 119) rw_103_119 (x := (0 : Int32)) rfl rfl (s_r1 (pc := 120) rw_103_120 (A := 0) rfl (by decide) ?_)))))))
          have k_52 : (0 : Int32).toInt = 0 := rfl
          have c_53 : M49.2.1 1 10 = (2 : Int32) := (W_n W48 (by decide) (W_e W43))
          have k_54 : (2 : Int32).toInt = 2 := rfl
          have t_55 : (M49.2.1 1 10).toInt = (2 : Int32).toInt := congrArg Int32.toInt c_53
          have c_56 : M49.2.1 1 11 = (M.2.1 1 9) := (W_e W48)
          have t_57 : (M49.2.1 1 11).toInt = (M.2.1 1 9).toInt := congrArg Int32.toInt c_56
          exact h (0 : Int32) M49 hG50 F51 (by decide) (by decide) (by omega)
    · refine to_an (pc := 8) rw_88_8 rfl (to_c (pc := 9) rw_88_9 (x := (1 : Int32)) rfl rfl (s_v (pc := 10) rw_88_10 (dp1 hd (by decide)) (ls0 := [.ref 1, .int (1 : Int32)]) rfl (Nat.le_of_ble_eq_true rfl) (Nat.le_of_ble_eq_true rfl) rfl (to_rc rfl rfl rfl (g_o hG rfl)) rfl (to_an (pc := 0) rw_84_0 rfl (to_in (pc := 1) rw_84_1 rfl (s_pI (pc := 2) rw_84_2 hG rfl (fun M59 W58 => ?_))))))
      have hG60 := g_wf hG W58 rfl rfl (by decide)
      have F61 := FR.w F0 W58 (show 1 = 1 ∧ 5 ≤ 10 ∨ 3 ≤ 1 ∧ 1 ≤ 5 ∨ 1 = 33 by decide)
      refine to_an (pc := 5) rw_84_5 rfl (to_an (pc := 6) rw_84_6 rfl ?_)
      have c_62 : M59.2.1 1 9 = (M.2.1 1 9) := (W_n W58 (by decide) rfl)
      refine tt_gI (pc := 7) rw_84_7 (g_o hG60 rfl) (v := (M.2.1 1 9)) c_62 (s_pI (pc := 10) rw_84_10 hG60 rfl (fun M64 W63 => ?_))
      have hG65 := g_wf hG60 W63 rfl rfl (by decide)
      have F66 := FR.w F61 W63 (show 1 = 1 ∧ 5 ≤ 11 ∨ 3 ≤ 1 ∧ 1 ≤ 5 ∨ 1 = 33 by decide)
      refine to_c (pc := 13) rw_84_13 (x := (0 : Int32)) rfl rfl (s_r1 (pc := 14) rw_84_14 (A := 0) rfl (by decide) (s_r1 (pc := 13) rw_88_13 (A := 0) rfl (by decide) (b_ine_f (pc := 116) rw_103_116 (A := 0) rfl (by decide) (to_c (pc := 119) rw_103_119 (x := (0 : Int32)) rfl rfl (s_r1 (pc := 120) rw_103_120 (A := 0) rfl (by decide) ?_)))))
      have k_67 : (0 : Int32).toInt = 0 := rfl
      have c_68 : M64.2.1 1 10 = (1 : Int32) := (W_n W63 (by decide) (W_e W58))
      have k_69 : (1 : Int32).toInt = 1 := rfl
      have t_70 : (M64.2.1 1 10).toInt = (1 : Int32).toInt := congrArg Int32.toInt c_68
      have c_71 : M64.2.1 1 11 = (M.2.1 1 9) := (W_e W63)
      have t_72 : (M64.2.1 1 11).toInt = (M.2.1 1 9).toInt := congrArg Int32.toInt c_71
      exact h (0 : Int32) M64 hG65 F66 (by decide) (by decide) (by omega)
  · refine to_an (pc := 19) rw_103_19 rfl (to_an (pc := 20) rw_103_20 rfl (tt_gI (pc := 21) rw_103_21 (g_o hG rfl) (v := (M.2.1 1 8)) rfl (s_v (pc := 24) rw_103_24 (dp0 hd (by decide)) (ls0 := [.ref p, .int (M.2.1 1 8)]) rfl (Nat.le_of_ble_eq_true rfl) (Nat.le_of_ble_eq_true rfl) rfl (to_rc rfl rfl rfl (g_o hG (by rcases hp with rfl | rfl <;> rfl))) rfl (to_an (pc := 0) rw_53_0 rfl (s_gR (pc := 1) rw_53_1 hG (by rcases hp with rfl | rfl <;> rfl) (v := (p + 6)) (by rcases hp with rfl | rfl <;> rfl) (to_an (pc := 4) rw_53_4 rfl ?_))))))
    have b_73 := g_b hG (a := p) (i := 3) (lo := 0) (hi := 12) (by rcases hp with rfl | rfl <;> rfl) (by rcases hp with rfl | rfl <;> rfl)
    refine tt_gI (pc := 5) rw_53_5 (g_o hG (by rcases hp with rfl | rfl <;> rfl)) (v := (M.2.1 p 3)) rfl (to_in (pc := 8) rw_53_8 rfl (s_s (pc := 9) rw_53_9 (dp1 hd (by decide)) (ls0 := [.ref (p + 6), .int (M.2.1 p 3), .int (M.2.1 1 8), .null]) rfl (Nat.le_of_ble_eq_true rfl) (Nat.le_of_ble_eq_true rfl) rfl (to_rcs rfl rfl) rfl (C_54g hX (dp2 hd (by decide)) hG (by omega) (g := (p + 6)) (s := (M.2.1 p 3)) (x := (M.2.1 1 8)) (fun r74 M79 hG76 F75 p_77 p_78 => ?_))))
    have F80 := FR.c F0 F75 tg_231
    refine to_r0 (pc := 12) rw_53_12 (to_is (pc := 27) rw_103_27 (ls2 := [.ref 28, .ref 1, .ref p, .ref 11, .int s, .int (0 : Int32), .int v2, .int r74, .null]) rfl rfl (to_an (pc := 29) rw_103_29 rfl (to_i (pc := 30) rw_103_30 rfl (s_v (pc := 32) rw_103_32 (dp0 hd (by decide)) (ls0 := [.ref p, .int r74]) rfl (Nat.le_of_ble_eq_true rfl) (Nat.le_of_ble_eq_true rfl) rfl (to_rc rfl rfl rfl (g_o hG76 (by rcases hp with rfl | rfl <;> rfl))) rfl (to_in (pc := 0) rw_44_0 rfl (b_ilt (pc := 1) rw_44_1 (A := r74.toInt) rfl (fun h81 => ?_) (fun h81 => ?_)))))))
    · refine to_c (pc := 16) rw_44_16 (x := (0 : Int32)) rfl rfl (s_r1 (pc := 17) rw_44_17 (A := 0) rfl (by decide) (b_ieq_t (pc := 35) rw_103_35 (A := 0) rfl (by decide) (to_an (pc := 61) rw_103_61 rfl (to_an (pc := 62) rw_103_62 rfl ?_))))
      have c_82 : M79.2.1 1 8 = (M.2.1 1 8) := (F_n F75 (show ¬ (1 < 0) by decide) rfl)
      refine tt_gI (pc := 63) rw_103_63 (g_o hG76 rfl) (v := (M.2.1 1 8)) c_82 (s_v (pc := 66) rw_103_66 (dp0 hd (by decide)) (ls0 := [.ref p, .int (M.2.1 1 8)]) rfl (Nat.le_of_ble_eq_true rfl) (Nat.le_of_ble_eq_true rfl) rfl (to_rc rfl rfl rfl (g_o hG76 (by rcases hp with rfl | rfl <;> rfl))) rfl (to_an (pc := 0) rw_52_0 rfl (s_gR (pc := 1) rw_52_1 hG76 (by rcases hp with rfl | rfl <;> rfl) (v := (p + 1)) (by rcases hp with rfl | rfl <;> rfl) (to_an (pc := 4) rw_52_4 rfl ?_))))
      have c_83 : M79.2.1 p 2 = (M.2.1 p 2) := (F_n F75 (show ¬ (p < 0) by omega) rfl)
      have b_84 := g_b hG (a := p) (i := 2) (lo := 0) (hi := 8) (by rcases hp with rfl | rfl <;> rfl) (by rcases hp with rfl | rfl <;> rfl)
      refine tt_gI (pc := 5) rw_52_5 (g_o hG76 (by rcases hp with rfl | rfl <;> rfl)) (v := (M.2.1 p 2)) c_83 (to_in (pc := 8) rw_52_8 rfl (s_s (pc := 9) rw_52_9 (dp1 hd (by decide)) (ls0 := [.ref (p + 1), .int (M.2.1 p 2), .int (M.2.1 1 8), .null]) rfl (Nat.le_of_ble_eq_true rfl) (Nat.le_of_ble_eq_true rfl) rfl (to_rcs rfl rfl) rfl (C_54f hX (dp2 hd (by decide)) hG76 (by omega) (f := (p + 1)) (s := (M.2.1 p 2)) (x := (M.2.1 1 8)) (fun r85 M90 hG87 F86 p_88 p_89 => ?_))))
      have F91 := FR.c F80 F86 tg_231
      refine to_r0 (pc := 12) rw_52_12 (to_is (pc := 69) rw_103_69 (ls2 := [.ref 28, .ref 1, .ref p, .ref 11, .int s, .int (0 : Int32), .int v2, .int r74, .int r85]) rfl rfl (to_an (pc := 71) rw_103_71 rfl (to_i (pc := 72) rw_103_72 rfl (s_v (pc := 74) rw_103_74 (dp0 hd (by decide)) (ls0 := [.ref p, .int r85]) rfl (Nat.le_of_ble_eq_true rfl) (Nat.le_of_ble_eq_true rfl) rfl (to_rc rfl rfl rfl (g_o hG87 (by rcases hp with rfl | rfl <;> rfl))) rfl (to_in (pc := 0) rw_43_0 rfl (b_ilt (pc := 1) rw_43_1 (A := r85.toInt) rfl (fun h92 => ?_) (fun h92 => ?_)))))))
      · refine to_c (pc := 16) rw_43_16 (x := (0 : Int32)) rfl rfl (s_r1 (pc := 17) rw_43_17 (A := 0) rfl (by decide) (b_ine_f (pc := 77) rw_103_77 (A := 0) rfl (by decide) (to_an (pc := 80) rw_103_80 rfl (to_c (pc := 81) rw_103_81 (x := (4 : Int32)) rfl rfl (s_v (pc := 82) rw_103_82 (dp0 hd (by decide)) (ls0 := [.ref 1, .int (4 : Int32)]) rfl (Nat.le_of_ble_eq_true rfl) (Nat.le_of_ble_eq_true rfl) rfl (to_rc rfl rfl rfl (g_o hG87 rfl)) rfl (to_an (pc := 0) rw_84_0 rfl (to_in (pc := 1) rw_84_1 rfl (s_pI (pc := 2) rw_84_2 hG87 rfl (fun M94 W93 => ?_)))))))))
        have hG95 := g_wf hG87 W93 rfl rfl (by decide)
        have F96 := FR.w F91 W93 (show 1 = 1 ∧ 5 ≤ 10 ∨ 3 ≤ 1 ∧ 1 ≤ 5 ∨ 1 = 33 by decide)
        refine to_an (pc := 5) rw_84_5 rfl (to_an (pc := 6) rw_84_6 rfl ?_)
        have c_97 : M94.2.1 1 9 = (M.2.1 1 9) := (W_n W93 (by decide) (F_n F86 (show ¬ (1 < 0) by decide) (F_n F75 (show ¬ (1 < 0) by decide) rfl)))
        refine tt_gI (pc := 7) rw_84_7 (g_o hG95 rfl) (v := (M.2.1 1 9)) c_97 (s_pI (pc := 10) rw_84_10 hG95 rfl (fun M99 W98 => ?_))
        have hG100 := g_wf hG95 W98 rfl rfl (by decide)
        have F101 := FR.w F96 W98 (show 1 = 1 ∧ 5 ≤ 11 ∨ 3 ≤ 1 ∧ 1 ≤ 5 ∨ 1 = 33 by decide)
        refine to_c (pc := 13) rw_84_13 (x := (0 : Int32)) rfl rfl (s_r1 (pc := 14) rw_84_14 (A := 0) rfl (by decide) (s_r1 (pc := 85) rw_103_85 (A := 0) rfl (by decide) ?_))
        have k_102 : (0 : Int32).toInt = 0 := rfl
        have c_103 : M99.2.1 1 10 = (4 : Int32) := (W_n W98 (by decide) (W_e W93))
        have k_104 : (4 : Int32).toInt = 4 := rfl
        have t_105 : (M99.2.1 1 10).toInt = (4 : Int32).toInt := congrArg Int32.toInt c_103
        have c_106 : M99.2.1 1 11 = (M.2.1 1 9) := (W_e W98)
        have t_107 : (M99.2.1 1 11).toInt = (M.2.1 1 9).toInt := congrArg Int32.toInt c_106
        exact h (0 : Int32) M99 hG100 F101 (by decide) (by decide) (by omega)
      · refine to_in (pc := 4) rw_43_4 rfl (to_an (pc := 5) rw_43_5 rfl ?_)
        have c_108 : M90.2.1 p 2 = (M.2.1 p 2) := (F_n F86 (show ¬ (p < 0) by omega) c_83)
        refine tt_gI (pc := 6) rw_43_6 (g_o hG87 (by rcases hp with rfl | rfl <;> rfl)) (v := (M.2.1 p 2)) c_108 (b_cge (pc := 9) rw_43_9 (A := r85.toInt) (B := (M.2.1 p 2).toInt) rfl rfl (fun h109 => ?_) (fun h109 => ?_))
        · refine to_c (pc := 16) rw_43_16 (x := (0 : Int32)) rfl rfl (s_r1 (pc := 17) rw_43_17 (A := 0) rfl (by decide) (b_ine_f (pc := 77) rw_103_77 (A := 0) rfl (by decide) (to_an (pc := 80) rw_103_80 rfl (to_c (pc := 81) rw_103_81 (x := (4 : Int32)) rfl rfl (s_v (pc := 82) rw_103_82 (dp0 hd (by decide)) (ls0 := [.ref 1, .int (4 : Int32)]) rfl (Nat.le_of_ble_eq_true rfl) (Nat.le_of_ble_eq_true rfl) rfl (to_rc rfl rfl rfl (g_o hG87 rfl)) rfl (to_an (pc := 0) rw_84_0 rfl (to_in (pc := 1) rw_84_1 rfl (s_pI (pc := 2) rw_84_2 hG87 rfl (fun M111 W110 => ?_)))))))))
          have hG112 := g_wf hG87 W110 rfl rfl (by decide)
          have F113 := FR.w F91 W110 (show 1 = 1 ∧ 5 ≤ 10 ∨ 3 ≤ 1 ∧ 1 ≤ 5 ∨ 1 = 33 by decide)
          refine to_an (pc := 5) rw_84_5 rfl (to_an (pc := 6) rw_84_6 rfl ?_)
          have c_114 : M111.2.1 1 9 = (M.2.1 1 9) := (W_n W110 (by decide) (F_n F86 (show ¬ (1 < 0) by decide) (F_n F75 (show ¬ (1 < 0) by decide) rfl)))
          refine tt_gI (pc := 7) rw_84_7 (g_o hG112 rfl) (v := (M.2.1 1 9)) c_114 (s_pI (pc := 10) rw_84_10 hG112 rfl (fun M116 W115 => ?_))
          have hG117 := g_wf hG112 W115 rfl rfl (by decide)
          have F118 := FR.w F113 W115 (show 1 = 1 ∧ 5 ≤ 11 ∨ 3 ≤ 1 ∧ 1 ≤ 5 ∨ 1 = 33 by decide)
          refine to_c (pc := 13) rw_84_13 (x := (0 : Int32)) rfl rfl (s_r1 (pc := 14) rw_84_14 (A := 0) rfl (by decide) (s_r1 (pc := 85) rw_103_85 (A := 0) rfl (by decide) ?_))
          have k_119 : (0 : Int32).toInt = 0 := rfl
          have c_120 : M116.2.1 1 10 = (4 : Int32) := (W_n W115 (by decide) (W_e W110))
          have k_121 : (4 : Int32).toInt = 4 := rfl
          have t_122 : (M116.2.1 1 10).toInt = (4 : Int32).toInt := congrArg Int32.toInt c_120
          have c_123 : M116.2.1 1 11 = (M.2.1 1 9) := (W_e W115)
          have t_124 : (M116.2.1 1 11).toInt = (M.2.1 1 9).toInt := congrArg Int32.toInt c_123
          exact h (0 : Int32) M116 hG117 F118 (by decide) (by decide) (by omega)
        · refine to_c (pc := 12) rw_43_12 (x := (1 : Int32)) rfl rfl (to_go (pc := 13) rw_43_13 (s_r1 (pc := 17) rw_43_17 (A := 1) rfl (by decide) (b_ine_t (pc := 77) rw_103_77 (A := 1) rfl (by decide) (to_an (pc := 86) rw_103_86 rfl (s_gR (pc := 87) rw_103_87 hG87 (by rcases hp with rfl | rfl <;> rfl) (v := (p + 3)) (by rcases hp with rfl | rfl <;> rfl) (to_i (pc := 90) rw_103_90 rfl (s_ial (pc := 92) rw_103_92 hG87 (by rcases hp with rfl | rfl <;> rfl) (n := 8) (by rcases hp with rfl | rfl <;> rfl) (by rcases hp with rfl | rfl <;> rfl) (A := r85.toInt) rfl (by omega) (by omega) (lo := 0) (hi := 59) (by rcases hp with rfl | rfl <;> rfl) (by rcases hp with rfl | rfl <;> rfl) (fun v125 w_126 _ _ => to_is (pc := 93) rw_103_93 (ls2 := [.ref 28, .ref 1, .ref p, .ref 11, .int s, .int v125, .int v2, .int r74, .int r85]) rfl rfl (to_an (pc := 95) rw_103_95 rfl (to_i (pc := 96) rw_103_96 rfl (s_v (pc := 98) rw_103_98 (dp0 hd (by decide)) (ls0 := [.ref p, .int r85]) rfl (Nat.le_of_ble_eq_true rfl) (Nat.le_of_ble_eq_true rfl) rfl (to_rc rfl rfl rfl (g_o hG87 (by rcases hp with rfl | rfl <;> rfl))) rfl ?_)))))))))))
          refine to_an (pc := 0) rw_47_0 rfl (s_gR (pc := 1) rw_47_1 hG87 (by rcases hp with rfl | rfl <;> rfl) (v := (p + 4)) (by rcases hp with rfl | rfl <;> rfl) (to_in (pc := 4) rw_47_4 rfl (s_ial (pc := 5) rw_47_5 hG87 (by rcases hp with rfl | rfl <;> rfl) (n := 8) (by rcases hp with rfl | rfl <;> rfl) (by rcases hp with rfl | rfl <;> rfl) (A := r85.toInt) rfl (by omega) (by omega) (lo := 0) (hi := 63) (by rcases hp with rfl | rfl <;> rfl) (by rcases hp with rfl | rfl <;> rfl) (fun v127 w_128 _ _ => to_an (pc := 6) rw_47_6 rfl (s_gR (pc := 7) rw_47_7 hG87 (by rcases hp with rfl | rfl <;> rfl) (v := (p + 3)) (by rcases hp with rfl | rfl <;> rfl) (to_in (pc := 10) rw_47_10 rfl (s_ialk (pc := 11) rw_47_11 hG87 (by rcases hp with rfl | rfl <;> rfl) (n := 8) (by rcases hp with rfl | rfl <;> rfl) (by rcases hp with rfl | rfl <;> rfl) (A := r85.toInt) rfl (by omega) (by omega) (v := v125) w_126 (s_sub (pc := 12) rw_47_12 (A := v127.toInt) (B := v125.toInt) rfl rfl (by omega) (fun v131 e132 => to_c (pc := 13) rw_47_13 (x := (1 : Int32)) rfl rfl (s_add (pc := 14) rw_47_14 (A := v131.toInt) (B := 1) rfl rfl (by omega) (fun v133 e134 => to_r0 (pc := 15) rw_47_15 ?_)))))))))))
          refine to_c (pc := 101) rw_103_101 (x := (1 : Int32)) rfl rfl (s_sub (pc := 102) rw_103_102 (A := v133.toInt) (B := 1) rfl rfl (by omega) (fun v135 e136 => to_is (pc := 103) rw_103_103 (ls2 := [.ref 28, .ref 1, .ref p, .ref 11, .int s, .int v125, .int v135, .int r74, .int r85]) rfl rfl (to_an (pc := 105) rw_103_105 rfl (s_v (pc := 106) rw_103_106 (dp0 hd (by decide)) (ls0 := [.ref 1]) rfl (Nat.le_of_ble_eq_true rfl) (Nat.le_of_ble_eq_true rfl) rfl (to_rc rfl rfl rfl (g_o hG87 rfl)) rfl ?_))))
          have c_137 : M90.2.1 1 10 = (M.2.1 1 10) := (F_n F86 (show ¬ (1 < 0) by decide) (F_n F75 (show ¬ (1 < 0) by decide) rfl))
          have t_138 : (M90.2.1 1 10).toInt = (M.2.1 1 10).toInt := congrArg Int32.toInt c_137
          have c_139 : M90.2.1 1 11 = (M.2.1 1 11) := (F_n F86 (show ¬ (1 < 0) by decide) (F_n F75 (show ¬ (1 < 0) by decide) rfl))
          have t_140 : (M90.2.1 1 11).toInt = (M.2.1 1 11).toInt := congrArg Int32.toInt c_139
          refine C_83 hX (dp1 hd (by decide)) hG87  (fun M144 hG142 F141 p_143 => ?_)
          have F145 := FR.c F91 F141 tg_230
          refine to_an (pc := 109) rw_103_109 rfl (to_c (pc := 110) rw_103_110 (x := (0 : Int32)) rfl rfl (to_i (pc := 111) rw_103_111 rfl (s_v (pc := 113) rw_103_113 (dp0 hd (by decide)) (ls0 := [.ref 1, .int (0 : Int32), .int v135]) rfl (Nat.le_of_ble_eq_true rfl) (Nat.le_of_ble_eq_true rfl) rfl (to_rc rfl rfl rfl (g_o hG142 rfl)) rfl (to_an (pc := 0) rw_88_0 rfl (tt_gI (pc := 1) rw_88_1 (g_o hG142 rfl) (v := (M144.2.1 1 7)) rfl (to_c (pc := 4) rw_88_4 (x := (2 : Int32)) rfl rfl (b_ceq (pc := 5) rw_88_5 (A := (M144.2.1 1 7).toInt) (B := 2) rfl rfl (fun h146 => ?_) (fun h146 => ?_))))))))
          · refine to_an (pc := 14) rw_88_14 rfl (tt_gI (pc := 15) rw_88_15 (g_o hG142 rfl) (v := (M144.2.1 1 8)) rfl (to_in (pc := 18) rw_88_18 rfl (b_clt (pc := 19) rw_88_19 (A := (M144.2.1 1 8).toInt) (B := 0) rfl rfl (fun h147 => ?_) (fun h147 => ?_))))
            · refine to_an (pc := 30) rw_88_30 rfl (to_c (pc := 31) rw_88_31 (x := (2 : Int32)) rfl rfl (s_v (pc := 32) rw_88_32 (dp1 hd (by decide)) (ls0 := [.ref 1, .int (2 : Int32)]) rfl (Nat.le_of_ble_eq_true rfl) (Nat.le_of_ble_eq_true rfl) rfl (to_rc rfl rfl rfl (g_o hG142 rfl)) rfl (to_an (pc := 0) rw_84_0 rfl (to_in (pc := 1) rw_84_1 rfl (s_pI (pc := 2) rw_84_2 hG142 rfl (fun M149 W148 => ?_))))))
              have hG150 := g_wf hG142 W148 rfl rfl (by decide)
              have F151 := FR.w F145 W148 (show 1 = 1 ∧ 5 ≤ 10 ∨ 3 ≤ 1 ∧ 1 ≤ 5 ∨ 1 = 33 by decide)
              refine to_an (pc := 5) rw_84_5 rfl (to_an (pc := 6) rw_84_6 rfl ?_)
              have c_152 : M149.2.1 1 9 = (M144.2.1 1 9) := (W_n W148 (by decide) rfl)
              refine tt_gI (pc := 7) rw_84_7 (g_o hG150 rfl) (v := (M144.2.1 1 9)) c_152 (s_pI (pc := 10) rw_84_10 hG150 rfl (fun M154 W153 => ?_))
              have hG155 := g_wf hG150 W153 rfl rfl (by decide)
              have F156 := FR.w F151 W153 (show 1 = 1 ∧ 5 ≤ 11 ∨ 3 ≤ 1 ∧ 1 ≤ 5 ∨ 1 = 33 by decide)
              refine to_c (pc := 13) rw_84_13 (x := (0 : Int32)) rfl rfl (s_r1 (pc := 14) rw_84_14 (A := 0) rfl (by decide) (b_ieq_t (pc := 35) rw_88_35 (A := 0) rfl (by decide) (to_c (pc := 42) rw_88_42 (x := (0 : Int32)) rfl rfl (s_r1 (pc := 43) rw_88_43 (A := 0) rfl (by decide) (b_ine_f (pc := 116) rw_103_116 (A := 0) rfl (by decide) (to_c (pc := 119) rw_103_119 (x := (0 : Int32)) rfl rfl (s_r1 (pc := 120) rw_103_120 (A := 0) rfl (by decide) ?_)))))))
              have k_157 : (0 : Int32).toInt = 0 := rfl
              have c_158 : M154.2.1 1 10 = (2 : Int32) := (W_n W153 (by decide) (W_e W148))
              have k_159 : (2 : Int32).toInt = 2 := rfl
              have t_160 : (M154.2.1 1 10).toInt = (2 : Int32).toInt := congrArg Int32.toInt c_158
              have c_161 : M154.2.1 1 11 = (M144.2.1 1 9) := (W_e W153)
              have t_162 : (M154.2.1 1 11).toInt = (M144.2.1 1 9).toInt := congrArg Int32.toInt c_161
              exact h (0 : Int32) M154 hG155 F156 (by decide) (by decide) (by omega)
            · refine to_an (pc := 22) rw_88_22 rfl (tt_gI (pc := 23) rw_88_23 (g_o hG142 rfl) (v := (M144.2.1 1 8)) rfl (to_in (pc := 26) rw_88_26 rfl (b_cle (pc := 27) rw_88_27 (A := (M144.2.1 1 8).toInt) (B := v135.toInt) rfl rfl (fun h163 => ?_) (fun h163 => ?_))))
              · refine to_c (pc := 38) rw_88_38 (x := (1 : Int32)) rfl rfl (to_go (pc := 39) rw_88_39 (s_r1 (pc := 43) rw_88_43 (A := 1) rfl (by decide) (b_ine_t (pc := 116) rw_103_116 (A := 1) rfl (by decide) (to_an (pc := 121) rw_103_121 rfl (s_gR (pc := 122) rw_103_122 hG142 rfl (v := 33) rfl (to_i (pc := 125) rw_103_125 rfl (to_dup2 (pc := 127) rw_103_127 (s_lal (pc := 128) rw_103_128 hG142 rfl (n := 40) rfl (A := s.toInt) rfl (by omega) (by omega) (fun l164 => s_cl (pc := 129) rw_103_129 rfl (fun l165 => to_i (pc := 130) rw_103_130 rfl (to_an (pc := 132) rw_103_132 rfl ?_)))))))))))
                refine tt_gI (pc := 133) rw_103_133 (g_o hG142 rfl) (v := (M144.2.1 1 8)) rfl (s_add (pc := 136) rw_103_136 (A := v125.toInt) (B := (M144.2.1 1 8).toInt) rfl rfl (by omega) (fun v166 e167 => s_anyS (pc := 137) rw_103_137 (fun _ _ => rfl) (fun l168 => s_anyL (pc := 138) rw_103_138 (fun _ _ => rfl) (fun l169 => s_las (pc := 139) rw_103_139 hG142 rfl (n := 40) rfl (A := s.toInt) rfl (by omega) (by omega) (fun M171 W170 => ?_)))))
                have hG172 := g_wl hG142 W170
                have F173 := FR.wl F145 W170 (show 33 = 1 ∧ 5 ≤ (s.toInt).toNat ∨ 3 ≤ 33 ∧ 33 ≤ 5 ∨ 33 = 33 by omega)
                refine to_an (pc := 140) rw_103_140 rfl (s_v (pc := 141) rw_103_141 (dp0 hd (by decide)) (ls0 := [.ref 1]) rfl (Nat.le_of_ble_eq_true rfl) (Nat.le_of_ble_eq_true rfl) rfl (to_rc rfl rfl rfl (g_o hG172 rfl)) rfl ?_)
                have c_174 : M171.2.1 1 10 = (M144.2.1 1 10) := (W_l W170 rfl)
                have t_175 : (M171.2.1 1 10).toInt = (M144.2.1 1 10).toInt := congrArg Int32.toInt c_174
                have c_176 : M171.2.1 1 11 = (M144.2.1 1 11) := (W_l W170 rfl)
                have t_177 : (M171.2.1 1 11).toInt = (M144.2.1 1 11).toInt := congrArg Int32.toInt c_176
                refine C_83 hX (dp1 hd (by decide)) hG172  (fun M181 hG179 F178 p_180 => ?_)
                have F182 := FR.c F173 F178 tg_230
                refine to_c (pc := 144) rw_103_144 (x := (1 : Int32)) rfl rfl (s_r1 (pc := 145) rw_103_145 (A := 1) rfl (by decide) ?_)
                have k_183 : (1 : Int32).toInt = 1 := rfl
                exact h (1 : Int32) M181 hG179 F182 (by decide) (by decide) (by omega)
              · refine to_an (pc := 30) rw_88_30 rfl (to_c (pc := 31) rw_88_31 (x := (2 : Int32)) rfl rfl (s_v (pc := 32) rw_88_32 (dp1 hd (by decide)) (ls0 := [.ref 1, .int (2 : Int32)]) rfl (Nat.le_of_ble_eq_true rfl) (Nat.le_of_ble_eq_true rfl) rfl (to_rc rfl rfl rfl (g_o hG142 rfl)) rfl (to_an (pc := 0) rw_84_0 rfl (to_in (pc := 1) rw_84_1 rfl (s_pI (pc := 2) rw_84_2 hG142 rfl (fun M185 W184 => ?_))))))
                have hG186 := g_wf hG142 W184 rfl rfl (by decide)
                have F187 := FR.w F145 W184 (show 1 = 1 ∧ 5 ≤ 10 ∨ 3 ≤ 1 ∧ 1 ≤ 5 ∨ 1 = 33 by decide)
                refine to_an (pc := 5) rw_84_5 rfl (to_an (pc := 6) rw_84_6 rfl ?_)
                have c_188 : M185.2.1 1 9 = (M144.2.1 1 9) := (W_n W184 (by decide) rfl)
                refine tt_gI (pc := 7) rw_84_7 (g_o hG186 rfl) (v := (M144.2.1 1 9)) c_188 (s_pI (pc := 10) rw_84_10 hG186 rfl (fun M190 W189 => ?_))
                have hG191 := g_wf hG186 W189 rfl rfl (by decide)
                have F192 := FR.w F187 W189 (show 1 = 1 ∧ 5 ≤ 11 ∨ 3 ≤ 1 ∧ 1 ≤ 5 ∨ 1 = 33 by decide)
                refine to_c (pc := 13) rw_84_13 (x := (0 : Int32)) rfl rfl (s_r1 (pc := 14) rw_84_14 (A := 0) rfl (by decide) (b_ieq_t (pc := 35) rw_88_35 (A := 0) rfl (by decide) (to_c (pc := 42) rw_88_42 (x := (0 : Int32)) rfl rfl (s_r1 (pc := 43) rw_88_43 (A := 0) rfl (by decide) (b_ine_f (pc := 116) rw_103_116 (A := 0) rfl (by decide) (to_c (pc := 119) rw_103_119 (x := (0 : Int32)) rfl rfl (s_r1 (pc := 120) rw_103_120 (A := 0) rfl (by decide) ?_)))))))
                have k_193 : (0 : Int32).toInt = 0 := rfl
                have c_194 : M190.2.1 1 10 = (2 : Int32) := (W_n W189 (by decide) (W_e W184))
                have k_195 : (2 : Int32).toInt = 2 := rfl
                have t_196 : (M190.2.1 1 10).toInt = (2 : Int32).toInt := congrArg Int32.toInt c_194
                have c_197 : M190.2.1 1 11 = (M144.2.1 1 9) := (W_e W189)
                have t_198 : (M190.2.1 1 11).toInt = (M144.2.1 1 9).toInt := congrArg Int32.toInt c_197
                exact h (0 : Int32) M190 hG191 F192 (by decide) (by decide) (by omega)
          · refine to_an (pc := 8) rw_88_8 rfl (to_c (pc := 9) rw_88_9 (x := (1 : Int32)) rfl rfl (s_v (pc := 10) rw_88_10 (dp1 hd (by decide)) (ls0 := [.ref 1, .int (1 : Int32)]) rfl (Nat.le_of_ble_eq_true rfl) (Nat.le_of_ble_eq_true rfl) rfl (to_rc rfl rfl rfl (g_o hG142 rfl)) rfl (to_an (pc := 0) rw_84_0 rfl (to_in (pc := 1) rw_84_1 rfl (s_pI (pc := 2) rw_84_2 hG142 rfl (fun M200 W199 => ?_))))))
            have hG201 := g_wf hG142 W199 rfl rfl (by decide)
            have F202 := FR.w F145 W199 (show 1 = 1 ∧ 5 ≤ 10 ∨ 3 ≤ 1 ∧ 1 ≤ 5 ∨ 1 = 33 by decide)
            refine to_an (pc := 5) rw_84_5 rfl (to_an (pc := 6) rw_84_6 rfl ?_)
            have c_203 : M200.2.1 1 9 = (M144.2.1 1 9) := (W_n W199 (by decide) rfl)
            refine tt_gI (pc := 7) rw_84_7 (g_o hG201 rfl) (v := (M144.2.1 1 9)) c_203 (s_pI (pc := 10) rw_84_10 hG201 rfl (fun M205 W204 => ?_))
            have hG206 := g_wf hG201 W204 rfl rfl (by decide)
            have F207 := FR.w F202 W204 (show 1 = 1 ∧ 5 ≤ 11 ∨ 3 ≤ 1 ∧ 1 ≤ 5 ∨ 1 = 33 by decide)
            refine to_c (pc := 13) rw_84_13 (x := (0 : Int32)) rfl rfl (s_r1 (pc := 14) rw_84_14 (A := 0) rfl (by decide) (s_r1 (pc := 13) rw_88_13 (A := 0) rfl (by decide) (b_ine_f (pc := 116) rw_103_116 (A := 0) rfl (by decide) (to_c (pc := 119) rw_103_119 (x := (0 : Int32)) rfl rfl (s_r1 (pc := 120) rw_103_120 (A := 0) rfl (by decide) ?_)))))
            have k_208 : (0 : Int32).toInt = 0 := rfl
            have c_209 : M205.2.1 1 10 = (1 : Int32) := (W_n W204 (by decide) (W_e W199))
            have k_210 : (1 : Int32).toInt = 1 := rfl
            have t_211 : (M205.2.1 1 10).toInt = (1 : Int32).toInt := congrArg Int32.toInt c_209
            have c_212 : M205.2.1 1 11 = (M144.2.1 1 9) := (W_e W204)
            have t_213 : (M205.2.1 1 11).toInt = (M144.2.1 1 9).toInt := congrArg Int32.toInt c_212
            exact h (0 : Int32) M205 hG206 F207 (by decide) (by decide) (by omega)
    · refine to_in (pc := 4) rw_44_4 rfl (to_an (pc := 5) rw_44_5 rfl ?_)
      have c_214 : M79.2.1 p 3 = (M.2.1 p 3) := (F_n F75 (show ¬ (p < 0) by omega) rfl)
      refine tt_gI (pc := 6) rw_44_6 (g_o hG76 (by rcases hp with rfl | rfl <;> rfl)) (v := (M.2.1 p 3)) c_214 (b_cge (pc := 9) rw_44_9 (A := r74.toInt) (B := (M.2.1 p 3).toInt) rfl rfl (fun h215 => ?_) (fun h215 => ?_))
      · refine to_c (pc := 16) rw_44_16 (x := (0 : Int32)) rfl rfl (s_r1 (pc := 17) rw_44_17 (A := 0) rfl (by decide) (b_ieq_t (pc := 35) rw_103_35 (A := 0) rfl (by decide) (to_an (pc := 61) rw_103_61 rfl (to_an (pc := 62) rw_103_62 rfl ?_))))
        have c_216 : M79.2.1 1 8 = (M.2.1 1 8) := (F_n F75 (show ¬ (1 < 0) by decide) rfl)
        refine tt_gI (pc := 63) rw_103_63 (g_o hG76 rfl) (v := (M.2.1 1 8)) c_216 (s_v (pc := 66) rw_103_66 (dp0 hd (by decide)) (ls0 := [.ref p, .int (M.2.1 1 8)]) rfl (Nat.le_of_ble_eq_true rfl) (Nat.le_of_ble_eq_true rfl) rfl (to_rc rfl rfl rfl (g_o hG76 (by rcases hp with rfl | rfl <;> rfl))) rfl (to_an (pc := 0) rw_52_0 rfl (s_gR (pc := 1) rw_52_1 hG76 (by rcases hp with rfl | rfl <;> rfl) (v := (p + 1)) (by rcases hp with rfl | rfl <;> rfl) (to_an (pc := 4) rw_52_4 rfl ?_))))
        have c_217 : M79.2.1 p 2 = (M.2.1 p 2) := (F_n F75 (show ¬ (p < 0) by omega) rfl)
        have b_218 := g_b hG (a := p) (i := 2) (lo := 0) (hi := 8) (by rcases hp with rfl | rfl <;> rfl) (by rcases hp with rfl | rfl <;> rfl)
        refine tt_gI (pc := 5) rw_52_5 (g_o hG76 (by rcases hp with rfl | rfl <;> rfl)) (v := (M.2.1 p 2)) c_217 (to_in (pc := 8) rw_52_8 rfl (s_s (pc := 9) rw_52_9 (dp1 hd (by decide)) (ls0 := [.ref (p + 1), .int (M.2.1 p 2), .int (M.2.1 1 8), .null]) rfl (Nat.le_of_ble_eq_true rfl) (Nat.le_of_ble_eq_true rfl) rfl (to_rcs rfl rfl) rfl (C_54f hX (dp2 hd (by decide)) hG76 (by omega) (f := (p + 1)) (s := (M.2.1 p 2)) (x := (M.2.1 1 8)) (fun r219 M224 hG221 F220 p_222 p_223 => ?_))))
        have F225 := FR.c F80 F220 tg_231
        refine to_r0 (pc := 12) rw_52_12 (to_is (pc := 69) rw_103_69 (ls2 := [.ref 28, .ref 1, .ref p, .ref 11, .int s, .int (0 : Int32), .int v2, .int r74, .int r219]) rfl rfl (to_an (pc := 71) rw_103_71 rfl (to_i (pc := 72) rw_103_72 rfl (s_v (pc := 74) rw_103_74 (dp0 hd (by decide)) (ls0 := [.ref p, .int r219]) rfl (Nat.le_of_ble_eq_true rfl) (Nat.le_of_ble_eq_true rfl) rfl (to_rc rfl rfl rfl (g_o hG221 (by rcases hp with rfl | rfl <;> rfl))) rfl (to_in (pc := 0) rw_43_0 rfl (b_ilt (pc := 1) rw_43_1 (A := r219.toInt) rfl (fun h226 => ?_) (fun h226 => ?_)))))))
        · refine to_c (pc := 16) rw_43_16 (x := (0 : Int32)) rfl rfl (s_r1 (pc := 17) rw_43_17 (A := 0) rfl (by decide) (b_ine_f (pc := 77) rw_103_77 (A := 0) rfl (by decide) (to_an (pc := 80) rw_103_80 rfl (to_c (pc := 81) rw_103_81 (x := (4 : Int32)) rfl rfl (s_v (pc := 82) rw_103_82 (dp0 hd (by decide)) (ls0 := [.ref 1, .int (4 : Int32)]) rfl (Nat.le_of_ble_eq_true rfl) (Nat.le_of_ble_eq_true rfl) rfl (to_rc rfl rfl rfl (g_o hG221 rfl)) rfl (to_an (pc := 0) rw_84_0 rfl (to_in (pc := 1) rw_84_1 rfl (s_pI (pc := 2) rw_84_2 hG221 rfl (fun M228 W227 => ?_)))))))))
          have hG229 := g_wf hG221 W227 rfl rfl (by decide)
          have F230 := FR.w F225 W227 (show 1 = 1 ∧ 5 ≤ 10 ∨ 3 ≤ 1 ∧ 1 ≤ 5 ∨ 1 = 33 by decide)
          refine to_an (pc := 5) rw_84_5 rfl (to_an (pc := 6) rw_84_6 rfl ?_)
          have c_231 : M228.2.1 1 9 = (M.2.1 1 9) := (W_n W227 (by decide) (F_n F220 (show ¬ (1 < 0) by decide) (F_n F75 (show ¬ (1 < 0) by decide) rfl)))
          refine tt_gI (pc := 7) rw_84_7 (g_o hG229 rfl) (v := (M.2.1 1 9)) c_231 (s_pI (pc := 10) rw_84_10 hG229 rfl (fun M233 W232 => ?_))
          have hG234 := g_wf hG229 W232 rfl rfl (by decide)
          have F235 := FR.w F230 W232 (show 1 = 1 ∧ 5 ≤ 11 ∨ 3 ≤ 1 ∧ 1 ≤ 5 ∨ 1 = 33 by decide)
          refine to_c (pc := 13) rw_84_13 (x := (0 : Int32)) rfl rfl (s_r1 (pc := 14) rw_84_14 (A := 0) rfl (by decide) (s_r1 (pc := 85) rw_103_85 (A := 0) rfl (by decide) ?_))
          have k_236 : (0 : Int32).toInt = 0 := rfl
          have c_237 : M233.2.1 1 10 = (4 : Int32) := (W_n W232 (by decide) (W_e W227))
          have k_238 : (4 : Int32).toInt = 4 := rfl
          have t_239 : (M233.2.1 1 10).toInt = (4 : Int32).toInt := congrArg Int32.toInt c_237
          have c_240 : M233.2.1 1 11 = (M.2.1 1 9) := (W_e W232)
          have t_241 : (M233.2.1 1 11).toInt = (M.2.1 1 9).toInt := congrArg Int32.toInt c_240
          exact h (0 : Int32) M233 hG234 F235 (by decide) (by decide) (by omega)
        · refine to_in (pc := 4) rw_43_4 rfl (to_an (pc := 5) rw_43_5 rfl ?_)
          have c_242 : M224.2.1 p 2 = (M.2.1 p 2) := (F_n F220 (show ¬ (p < 0) by omega) c_217)
          refine tt_gI (pc := 6) rw_43_6 (g_o hG221 (by rcases hp with rfl | rfl <;> rfl)) (v := (M.2.1 p 2)) c_242 (b_cge (pc := 9) rw_43_9 (A := r219.toInt) (B := (M.2.1 p 2).toInt) rfl rfl (fun h243 => ?_) (fun h243 => ?_))
          · refine to_c (pc := 16) rw_43_16 (x := (0 : Int32)) rfl rfl (s_r1 (pc := 17) rw_43_17 (A := 0) rfl (by decide) (b_ine_f (pc := 77) rw_103_77 (A := 0) rfl (by decide) (to_an (pc := 80) rw_103_80 rfl (to_c (pc := 81) rw_103_81 (x := (4 : Int32)) rfl rfl (s_v (pc := 82) rw_103_82 (dp0 hd (by decide)) (ls0 := [.ref 1, .int (4 : Int32)]) rfl (Nat.le_of_ble_eq_true rfl) (Nat.le_of_ble_eq_true rfl) rfl (to_rc rfl rfl rfl (g_o hG221 rfl)) rfl (to_an (pc := 0) rw_84_0 rfl (to_in (pc := 1) rw_84_1 rfl (s_pI (pc := 2) rw_84_2 hG221 rfl (fun M245 W244 => ?_)))))))))
            have hG246 := g_wf hG221 W244 rfl rfl (by decide)
            have F247 := FR.w F225 W244 (show 1 = 1 ∧ 5 ≤ 10 ∨ 3 ≤ 1 ∧ 1 ≤ 5 ∨ 1 = 33 by decide)
            refine to_an (pc := 5) rw_84_5 rfl (to_an (pc := 6) rw_84_6 rfl ?_)
            have c_248 : M245.2.1 1 9 = (M.2.1 1 9) := (W_n W244 (by decide) (F_n F220 (show ¬ (1 < 0) by decide) (F_n F75 (show ¬ (1 < 0) by decide) rfl)))
            refine tt_gI (pc := 7) rw_84_7 (g_o hG246 rfl) (v := (M.2.1 1 9)) c_248 (s_pI (pc := 10) rw_84_10 hG246 rfl (fun M250 W249 => ?_))
            have hG251 := g_wf hG246 W249 rfl rfl (by decide)
            have F252 := FR.w F247 W249 (show 1 = 1 ∧ 5 ≤ 11 ∨ 3 ≤ 1 ∧ 1 ≤ 5 ∨ 1 = 33 by decide)
            refine to_c (pc := 13) rw_84_13 (x := (0 : Int32)) rfl rfl (s_r1 (pc := 14) rw_84_14 (A := 0) rfl (by decide) (s_r1 (pc := 85) rw_103_85 (A := 0) rfl (by decide) ?_))
            have k_253 : (0 : Int32).toInt = 0 := rfl
            have c_254 : M250.2.1 1 10 = (4 : Int32) := (W_n W249 (by decide) (W_e W244))
            have k_255 : (4 : Int32).toInt = 4 := rfl
            have t_256 : (M250.2.1 1 10).toInt = (4 : Int32).toInt := congrArg Int32.toInt c_254
            have c_257 : M250.2.1 1 11 = (M.2.1 1 9) := (W_e W249)
            have t_258 : (M250.2.1 1 11).toInt = (M.2.1 1 9).toInt := congrArg Int32.toInt c_257
            exact h (0 : Int32) M250 hG251 F252 (by decide) (by decide) (by omega)
          · refine to_c (pc := 12) rw_43_12 (x := (1 : Int32)) rfl rfl (to_go (pc := 13) rw_43_13 (s_r1 (pc := 17) rw_43_17 (A := 1) rfl (by decide) (b_ine_t (pc := 77) rw_103_77 (A := 1) rfl (by decide) (to_an (pc := 86) rw_103_86 rfl (s_gR (pc := 87) rw_103_87 hG221 (by rcases hp with rfl | rfl <;> rfl) (v := (p + 3)) (by rcases hp with rfl | rfl <;> rfl) (to_i (pc := 90) rw_103_90 rfl (s_ial (pc := 92) rw_103_92 hG221 (by rcases hp with rfl | rfl <;> rfl) (n := 8) (by rcases hp with rfl | rfl <;> rfl) (by rcases hp with rfl | rfl <;> rfl) (A := r219.toInt) rfl (by omega) (by omega) (lo := 0) (hi := 59) (by rcases hp with rfl | rfl <;> rfl) (by rcases hp with rfl | rfl <;> rfl) (fun v259 w_260 _ _ => to_is (pc := 93) rw_103_93 (ls2 := [.ref 28, .ref 1, .ref p, .ref 11, .int s, .int v259, .int v2, .int r74, .int r219]) rfl rfl (to_an (pc := 95) rw_103_95 rfl (to_i (pc := 96) rw_103_96 rfl (s_v (pc := 98) rw_103_98 (dp0 hd (by decide)) (ls0 := [.ref p, .int r219]) rfl (Nat.le_of_ble_eq_true rfl) (Nat.le_of_ble_eq_true rfl) rfl (to_rc rfl rfl rfl (g_o hG221 (by rcases hp with rfl | rfl <;> rfl))) rfl ?_)))))))))))
            refine to_an (pc := 0) rw_47_0 rfl (s_gR (pc := 1) rw_47_1 hG221 (by rcases hp with rfl | rfl <;> rfl) (v := (p + 4)) (by rcases hp with rfl | rfl <;> rfl) (to_in (pc := 4) rw_47_4 rfl (s_ial (pc := 5) rw_47_5 hG221 (by rcases hp with rfl | rfl <;> rfl) (n := 8) (by rcases hp with rfl | rfl <;> rfl) (by rcases hp with rfl | rfl <;> rfl) (A := r219.toInt) rfl (by omega) (by omega) (lo := 0) (hi := 63) (by rcases hp with rfl | rfl <;> rfl) (by rcases hp with rfl | rfl <;> rfl) (fun v261 w_262 _ _ => to_an (pc := 6) rw_47_6 rfl (s_gR (pc := 7) rw_47_7 hG221 (by rcases hp with rfl | rfl <;> rfl) (v := (p + 3)) (by rcases hp with rfl | rfl <;> rfl) (to_in (pc := 10) rw_47_10 rfl (s_ialk (pc := 11) rw_47_11 hG221 (by rcases hp with rfl | rfl <;> rfl) (n := 8) (by rcases hp with rfl | rfl <;> rfl) (by rcases hp with rfl | rfl <;> rfl) (A := r219.toInt) rfl (by omega) (by omega) (v := v259) w_260 (s_sub (pc := 12) rw_47_12 (A := v261.toInt) (B := v259.toInt) rfl rfl (by omega) (fun v265 e266 => to_c (pc := 13) rw_47_13 (x := (1 : Int32)) rfl rfl (s_add (pc := 14) rw_47_14 (A := v265.toInt) (B := 1) rfl rfl (by omega) (fun v267 e268 => to_r0 (pc := 15) rw_47_15 ?_)))))))))))
            refine to_c (pc := 101) rw_103_101 (x := (1 : Int32)) rfl rfl (s_sub (pc := 102) rw_103_102 (A := v267.toInt) (B := 1) rfl rfl (by omega) (fun v269 e270 => to_is (pc := 103) rw_103_103 (ls2 := [.ref 28, .ref 1, .ref p, .ref 11, .int s, .int v259, .int v269, .int r74, .int r219]) rfl rfl (to_an (pc := 105) rw_103_105 rfl (s_v (pc := 106) rw_103_106 (dp0 hd (by decide)) (ls0 := [.ref 1]) rfl (Nat.le_of_ble_eq_true rfl) (Nat.le_of_ble_eq_true rfl) rfl (to_rc rfl rfl rfl (g_o hG221 rfl)) rfl ?_))))
            have c_271 : M224.2.1 1 10 = (M.2.1 1 10) := (F_n F220 (show ¬ (1 < 0) by decide) (F_n F75 (show ¬ (1 < 0) by decide) rfl))
            have t_272 : (M224.2.1 1 10).toInt = (M.2.1 1 10).toInt := congrArg Int32.toInt c_271
            have c_273 : M224.2.1 1 11 = (M.2.1 1 11) := (F_n F220 (show ¬ (1 < 0) by decide) (F_n F75 (show ¬ (1 < 0) by decide) rfl))
            have t_274 : (M224.2.1 1 11).toInt = (M.2.1 1 11).toInt := congrArg Int32.toInt c_273
            refine C_83 hX (dp1 hd (by decide)) hG221  (fun M278 hG276 F275 p_277 => ?_)
            have F279 := FR.c F225 F275 tg_230
            refine to_an (pc := 109) rw_103_109 rfl (to_c (pc := 110) rw_103_110 (x := (0 : Int32)) rfl rfl (to_i (pc := 111) rw_103_111 rfl (s_v (pc := 113) rw_103_113 (dp0 hd (by decide)) (ls0 := [.ref 1, .int (0 : Int32), .int v269]) rfl (Nat.le_of_ble_eq_true rfl) (Nat.le_of_ble_eq_true rfl) rfl (to_rc rfl rfl rfl (g_o hG276 rfl)) rfl (to_an (pc := 0) rw_88_0 rfl (tt_gI (pc := 1) rw_88_1 (g_o hG276 rfl) (v := (M278.2.1 1 7)) rfl (to_c (pc := 4) rw_88_4 (x := (2 : Int32)) rfl rfl (b_ceq (pc := 5) rw_88_5 (A := (M278.2.1 1 7).toInt) (B := 2) rfl rfl (fun h280 => ?_) (fun h280 => ?_))))))))
            · refine to_an (pc := 14) rw_88_14 rfl (tt_gI (pc := 15) rw_88_15 (g_o hG276 rfl) (v := (M278.2.1 1 8)) rfl (to_in (pc := 18) rw_88_18 rfl (b_clt (pc := 19) rw_88_19 (A := (M278.2.1 1 8).toInt) (B := 0) rfl rfl (fun h281 => ?_) (fun h281 => ?_))))
              · refine to_an (pc := 30) rw_88_30 rfl (to_c (pc := 31) rw_88_31 (x := (2 : Int32)) rfl rfl (s_v (pc := 32) rw_88_32 (dp1 hd (by decide)) (ls0 := [.ref 1, .int (2 : Int32)]) rfl (Nat.le_of_ble_eq_true rfl) (Nat.le_of_ble_eq_true rfl) rfl (to_rc rfl rfl rfl (g_o hG276 rfl)) rfl (to_an (pc := 0) rw_84_0 rfl (to_in (pc := 1) rw_84_1 rfl (s_pI (pc := 2) rw_84_2 hG276 rfl (fun M283 W282 => ?_))))))
                have hG284 := g_wf hG276 W282 rfl rfl (by decide)
                have F285 := FR.w F279 W282 (show 1 = 1 ∧ 5 ≤ 10 ∨ 3 ≤ 1 ∧ 1 ≤ 5 ∨ 1 = 33 by decide)
                refine to_an (pc := 5) rw_84_5 rfl (to_an (pc := 6) rw_84_6 rfl ?_)
                have c_286 : M283.2.1 1 9 = (M278.2.1 1 9) := (W_n W282 (by decide) rfl)
                refine tt_gI (pc := 7) rw_84_7 (g_o hG284 rfl) (v := (M278.2.1 1 9)) c_286 (s_pI (pc := 10) rw_84_10 hG284 rfl (fun M288 W287 => ?_))
                have hG289 := g_wf hG284 W287 rfl rfl (by decide)
                have F290 := FR.w F285 W287 (show 1 = 1 ∧ 5 ≤ 11 ∨ 3 ≤ 1 ∧ 1 ≤ 5 ∨ 1 = 33 by decide)
                refine to_c (pc := 13) rw_84_13 (x := (0 : Int32)) rfl rfl (s_r1 (pc := 14) rw_84_14 (A := 0) rfl (by decide) (b_ieq_t (pc := 35) rw_88_35 (A := 0) rfl (by decide) (to_c (pc := 42) rw_88_42 (x := (0 : Int32)) rfl rfl (s_r1 (pc := 43) rw_88_43 (A := 0) rfl (by decide) (b_ine_f (pc := 116) rw_103_116 (A := 0) rfl (by decide) (to_c (pc := 119) rw_103_119 (x := (0 : Int32)) rfl rfl (s_r1 (pc := 120) rw_103_120 (A := 0) rfl (by decide) ?_)))))))
                have k_291 : (0 : Int32).toInt = 0 := rfl
                have c_292 : M288.2.1 1 10 = (2 : Int32) := (W_n W287 (by decide) (W_e W282))
                have k_293 : (2 : Int32).toInt = 2 := rfl
                have t_294 : (M288.2.1 1 10).toInt = (2 : Int32).toInt := congrArg Int32.toInt c_292
                have c_295 : M288.2.1 1 11 = (M278.2.1 1 9) := (W_e W287)
                have t_296 : (M288.2.1 1 11).toInt = (M278.2.1 1 9).toInt := congrArg Int32.toInt c_295
                exact h (0 : Int32) M288 hG289 F290 (by decide) (by decide) (by omega)
              · refine to_an (pc := 22) rw_88_22 rfl (tt_gI (pc := 23) rw_88_23 (g_o hG276 rfl) (v := (M278.2.1 1 8)) rfl (to_in (pc := 26) rw_88_26 rfl (b_cle (pc := 27) rw_88_27 (A := (M278.2.1 1 8).toInt) (B := v269.toInt) rfl rfl (fun h297 => ?_) (fun h297 => ?_))))
                · refine to_c (pc := 38) rw_88_38 (x := (1 : Int32)) rfl rfl (to_go (pc := 39) rw_88_39 (s_r1 (pc := 43) rw_88_43 (A := 1) rfl (by decide) (b_ine_t (pc := 116) rw_103_116 (A := 1) rfl (by decide) (to_an (pc := 121) rw_103_121 rfl (s_gR (pc := 122) rw_103_122 hG276 rfl (v := 33) rfl (to_i (pc := 125) rw_103_125 rfl (to_dup2 (pc := 127) rw_103_127 (s_lal (pc := 128) rw_103_128 hG276 rfl (n := 40) rfl (A := s.toInt) rfl (by omega) (by omega) (fun l298 => s_cl (pc := 129) rw_103_129 rfl (fun l299 => to_i (pc := 130) rw_103_130 rfl (to_an (pc := 132) rw_103_132 rfl ?_)))))))))))
                  refine tt_gI (pc := 133) rw_103_133 (g_o hG276 rfl) (v := (M278.2.1 1 8)) rfl (s_add (pc := 136) rw_103_136 (A := v259.toInt) (B := (M278.2.1 1 8).toInt) rfl rfl (by omega) (fun v300 e301 => s_anyS (pc := 137) rw_103_137 (fun _ _ => rfl) (fun l302 => s_anyL (pc := 138) rw_103_138 (fun _ _ => rfl) (fun l303 => s_las (pc := 139) rw_103_139 hG276 rfl (n := 40) rfl (A := s.toInt) rfl (by omega) (by omega) (fun M305 W304 => ?_)))))
                  have hG306 := g_wl hG276 W304
                  have F307 := FR.wl F279 W304 (show 33 = 1 ∧ 5 ≤ (s.toInt).toNat ∨ 3 ≤ 33 ∧ 33 ≤ 5 ∨ 33 = 33 by omega)
                  refine to_an (pc := 140) rw_103_140 rfl (s_v (pc := 141) rw_103_141 (dp0 hd (by decide)) (ls0 := [.ref 1]) rfl (Nat.le_of_ble_eq_true rfl) (Nat.le_of_ble_eq_true rfl) rfl (to_rc rfl rfl rfl (g_o hG306 rfl)) rfl ?_)
                  have c_308 : M305.2.1 1 10 = (M278.2.1 1 10) := (W_l W304 rfl)
                  have t_309 : (M305.2.1 1 10).toInt = (M278.2.1 1 10).toInt := congrArg Int32.toInt c_308
                  have c_310 : M305.2.1 1 11 = (M278.2.1 1 11) := (W_l W304 rfl)
                  have t_311 : (M305.2.1 1 11).toInt = (M278.2.1 1 11).toInt := congrArg Int32.toInt c_310
                  refine C_83 hX (dp1 hd (by decide)) hG306  (fun M315 hG313 F312 p_314 => ?_)
                  have F316 := FR.c F307 F312 tg_230
                  refine to_c (pc := 144) rw_103_144 (x := (1 : Int32)) rfl rfl (s_r1 (pc := 145) rw_103_145 (A := 1) rfl (by decide) ?_)
                  have k_317 : (1 : Int32).toInt = 1 := rfl
                  exact h (1 : Int32) M315 hG313 F316 (by decide) (by decide) (by omega)
                · refine to_an (pc := 30) rw_88_30 rfl (to_c (pc := 31) rw_88_31 (x := (2 : Int32)) rfl rfl (s_v (pc := 32) rw_88_32 (dp1 hd (by decide)) (ls0 := [.ref 1, .int (2 : Int32)]) rfl (Nat.le_of_ble_eq_true rfl) (Nat.le_of_ble_eq_true rfl) rfl (to_rc rfl rfl rfl (g_o hG276 rfl)) rfl (to_an (pc := 0) rw_84_0 rfl (to_in (pc := 1) rw_84_1 rfl (s_pI (pc := 2) rw_84_2 hG276 rfl (fun M319 W318 => ?_))))))
                  have hG320 := g_wf hG276 W318 rfl rfl (by decide)
                  have F321 := FR.w F279 W318 (show 1 = 1 ∧ 5 ≤ 10 ∨ 3 ≤ 1 ∧ 1 ≤ 5 ∨ 1 = 33 by decide)
                  refine to_an (pc := 5) rw_84_5 rfl (to_an (pc := 6) rw_84_6 rfl ?_)
                  have c_322 : M319.2.1 1 9 = (M278.2.1 1 9) := (W_n W318 (by decide) rfl)
                  refine tt_gI (pc := 7) rw_84_7 (g_o hG320 rfl) (v := (M278.2.1 1 9)) c_322 (s_pI (pc := 10) rw_84_10 hG320 rfl (fun M324 W323 => ?_))
                  have hG325 := g_wf hG320 W323 rfl rfl (by decide)
                  have F326 := FR.w F321 W323 (show 1 = 1 ∧ 5 ≤ 11 ∨ 3 ≤ 1 ∧ 1 ≤ 5 ∨ 1 = 33 by decide)
                  refine to_c (pc := 13) rw_84_13 (x := (0 : Int32)) rfl rfl (s_r1 (pc := 14) rw_84_14 (A := 0) rfl (by decide) (b_ieq_t (pc := 35) rw_88_35 (A := 0) rfl (by decide) (to_c (pc := 42) rw_88_42 (x := (0 : Int32)) rfl rfl (s_r1 (pc := 43) rw_88_43 (A := 0) rfl (by decide) (b_ine_f (pc := 116) rw_103_116 (A := 0) rfl (by decide) (to_c (pc := 119) rw_103_119 (x := (0 : Int32)) rfl rfl (s_r1 (pc := 120) rw_103_120 (A := 0) rfl (by decide) ?_)))))))
                  have k_327 : (0 : Int32).toInt = 0 := rfl
                  have c_328 : M324.2.1 1 10 = (2 : Int32) := (W_n W323 (by decide) (W_e W318))
                  have k_329 : (2 : Int32).toInt = 2 := rfl
                  have t_330 : (M324.2.1 1 10).toInt = (2 : Int32).toInt := congrArg Int32.toInt c_328
                  have c_331 : M324.2.1 1 11 = (M278.2.1 1 9) := (W_e W323)
                  have t_332 : (M324.2.1 1 11).toInt = (M278.2.1 1 9).toInt := congrArg Int32.toInt c_331
                  exact h (0 : Int32) M324 hG325 F326 (by decide) (by decide) (by omega)
            · refine to_an (pc := 8) rw_88_8 rfl (to_c (pc := 9) rw_88_9 (x := (1 : Int32)) rfl rfl (s_v (pc := 10) rw_88_10 (dp1 hd (by decide)) (ls0 := [.ref 1, .int (1 : Int32)]) rfl (Nat.le_of_ble_eq_true rfl) (Nat.le_of_ble_eq_true rfl) rfl (to_rc rfl rfl rfl (g_o hG276 rfl)) rfl (to_an (pc := 0) rw_84_0 rfl (to_in (pc := 1) rw_84_1 rfl (s_pI (pc := 2) rw_84_2 hG276 rfl (fun M334 W333 => ?_))))))
              have hG335 := g_wf hG276 W333 rfl rfl (by decide)
              have F336 := FR.w F279 W333 (show 1 = 1 ∧ 5 ≤ 10 ∨ 3 ≤ 1 ∧ 1 ≤ 5 ∨ 1 = 33 by decide)
              refine to_an (pc := 5) rw_84_5 rfl (to_an (pc := 6) rw_84_6 rfl ?_)
              have c_337 : M334.2.1 1 9 = (M278.2.1 1 9) := (W_n W333 (by decide) rfl)
              refine tt_gI (pc := 7) rw_84_7 (g_o hG335 rfl) (v := (M278.2.1 1 9)) c_337 (s_pI (pc := 10) rw_84_10 hG335 rfl (fun M339 W338 => ?_))
              have hG340 := g_wf hG335 W338 rfl rfl (by decide)
              have F341 := FR.w F336 W338 (show 1 = 1 ∧ 5 ≤ 11 ∨ 3 ≤ 1 ∧ 1 ≤ 5 ∨ 1 = 33 by decide)
              refine to_c (pc := 13) rw_84_13 (x := (0 : Int32)) rfl rfl (s_r1 (pc := 14) rw_84_14 (A := 0) rfl (by decide) (s_r1 (pc := 13) rw_88_13 (A := 0) rfl (by decide) (b_ine_f (pc := 116) rw_103_116 (A := 0) rfl (by decide) (to_c (pc := 119) rw_103_119 (x := (0 : Int32)) rfl rfl (s_r1 (pc := 120) rw_103_120 (A := 0) rfl (by decide) ?_)))))
              have k_342 : (0 : Int32).toInt = 0 := rfl
              have c_343 : M339.2.1 1 10 = (1 : Int32) := (W_n W338 (by decide) (W_e W333))
              have k_344 : (1 : Int32).toInt = 1 := rfl
              have t_345 : (M339.2.1 1 10).toInt = (1 : Int32).toInt := congrArg Int32.toInt c_343
              have c_346 : M339.2.1 1 11 = (M278.2.1 1 9) := (W_e W338)
              have t_347 : (M339.2.1 1 11).toInt = (M278.2.1 1 9).toInt := congrArg Int32.toInt c_346
              exact h (0 : Int32) M339 hG340 F341 (by decide) (by decide) (by omega)
      · refine to_c (pc := 12) rw_44_12 (x := (1 : Int32)) rfl rfl (to_go (pc := 13) rw_44_13 (s_r1 (pc := 17) rw_44_17 (A := 1) rfl (by decide) (b_ieq_f (pc := 35) rw_103_35 (A := 1) rfl (by decide) (to_an (pc := 38) rw_103_38 rfl (s_gR (pc := 39) rw_103_39 hG76 rfl (v := 33) rfl (to_i (pc := 42) rw_103_42 rfl (to_dup2 (pc := 44) rw_103_44 (s_lal (pc := 45) rw_103_45 hG76 rfl (n := 40) rfl (A := s.toInt) rfl (by omega) (by omega) (fun l348 => to_an (pc := 46) rw_103_46 rfl (s_gR (pc := 47) rw_103_47 hG76 rfl (v := 15) rfl (to_i (pc := 50) rw_103_50 rfl ?_)))))))))))
        refine s_lal (pc := 52) rw_103_52 hG76 rfl (n := 12) rfl (A := r74.toInt) rfl (by omega) (by omega) (fun l349 => s_anyL (pc := 53) rw_103_53 (fun _ _ => rfl) (fun l350 => s_las (pc := 54) rw_103_54 hG76 rfl (n := 40) rfl (A := s.toInt) rfl (by omega) (by omega) (fun M352 W351 => ?_)))
        have hG353 := g_wl hG76 W351
        have F354 := FR.wl F80 W351 (show 33 = 1 ∧ 5 ≤ (s.toInt).toNat ∨ 3 ≤ 33 ∧ 33 ≤ 5 ∨ 33 = 33 by omega)
        refine to_an (pc := 55) rw_103_55 rfl (s_v (pc := 56) rw_103_56 (dp0 hd (by decide)) (ls0 := [.ref 1]) rfl (Nat.le_of_ble_eq_true rfl) (Nat.le_of_ble_eq_true rfl) rfl (to_rc rfl rfl rfl (g_o hG353 rfl)) rfl ?_)
        have c_355 : M352.2.1 1 10 = (M.2.1 1 10) := (W_l W351 (F_n F75 (show ¬ (1 < 0) by decide) rfl))
        have t_356 : (M352.2.1 1 10).toInt = (M.2.1 1 10).toInt := congrArg Int32.toInt c_355
        have c_357 : M352.2.1 1 11 = (M.2.1 1 11) := (W_l W351 (F_n F75 (show ¬ (1 < 0) by decide) rfl))
        have t_358 : (M352.2.1 1 11).toInt = (M.2.1 1 11).toInt := congrArg Int32.toInt c_357
        refine C_83 hX (dp1 hd (by decide)) hG353  (fun M362 hG360 F359 p_361 => ?_)
        have F363 := FR.c F354 F359 tg_230
        refine to_c (pc := 59) rw_103_59 (x := (1 : Int32)) rfl rfl (s_r1 (pc := 60) rw_103_60 (A := 1) rfl (by decide) ?_)
        have k_364 : (1 : Int32).toInt = 1 := rfl
        exact h (1 : Int32) M362 hG360 F363 (by decide) (by decide) (by omega)
set_option maxRecDepth 4000 in
set_option maxHeartbeats 0 in
theorem T_101_0 {X : mm_X} {d : Nat} {M : mm_M} {Q : Option Value → mm_M → Prop} {p : Nat} {s : Int32} (hX : g_X X) (hd : 3 ≤ d) (hp : p = 49 ∨ p = 58) (q1 : 0 ≤ s.toInt) (q2 : s.toInt ≤ 39) (h : ∀ (r : Int32) (M1 : mm_M), g_G M1 → FR md_wr M M1 → (0 ≤ r.toInt) → (r.toInt ≤ 1) → (r.toInt = 1 → (M1.2.1 1 10).toInt = (M.2.1 1 10).toInt ∧ (M1.2.1 1 11).toInt = (M.2.1 1 11).toInt) → Q (some (.int r)) M1) : ∀ nn9 : Nat, (∀ (N : mm_M) (x5 : Int32), g_G N → FR md_wr M N → (0 ≤ x5.toInt) → (x5.toInt ≤ 500) → (0 ≤ s.toInt) → (s.toInt ≤ 39) → ((N.2.1 1 10).toInt = (M.2.1 1 10).toInt ∧ (N.2.1 1 11).toInt = (M.2.1 1 11).toInt) → 500 - x5.toInt < (nn9 : Int) → mm_T X d 101 89 [.ref 28, .ref 1, .ref p, .ref 11, .int s, .int x5] [] N Q) := by
  intro nn9
  induction nn9 with
  | zero =>
    intro N x5 hG F0 g1 g2 g3 g4 g5 hm
    exfalso; omega
  | succ nn9 ih =>
    intro N x5 hG F0 g1 g2 g3 g4 g5 hm
    refine to_i (pc := 89) rw_101_89 rfl (to_c (pc := 91) rw_101_91 (x := (500 : Int32)) rfl rfl (b_cge (pc := 94) rw_101_94 (A := x5.toInt) (B := 500) rfl rfl (fun h1 => ?_) (fun h1 => ?_)))
    · refine to_an (pc := 126) rw_101_126 rfl (to_c (pc := 127) rw_101_127 (x := (59 : Int32)) rfl rfl (s_v (pc := 129) rw_101_129 (dp0 hd (by decide)) (ls0 := [.ref 1, .int (59 : Int32)]) rfl (Nat.le_of_ble_eq_true rfl) (Nat.le_of_ble_eq_true rfl) rfl (to_rc rfl rfl rfl (g_o hG rfl)) rfl ?_))
      have k_2 : (59 : Int32).toInt = 59 := rfl
      refine C_90 hX (dp1 hd (by decide)) hG (x := (59 : Int32)) (fun r3 M10 hG5 F4 p_6 p_7 p_8 p_9 => ?_)
      have F11 := FR.c F0 F4 tg_229
      refine s_r1 (pc := 132) rw_101_132 (A := r3.toInt) rfl (by omega) ?_
      exact h r3 M10 hG5 F11 (by omega) (by omega) (by omega)
    · refine to_an (pc := 97) rw_101_97 rfl (tt_gI (pc := 98) rw_101_98 (g_o hG rfl) (v := (N.2.1 1 7)) rfl (to_c (pc := 101) rw_101_101 (x := (59 : Int32)) rfl rfl (b_ceq (pc := 103) rw_101_103 (A := (N.2.1 1 7).toInt) (B := 59) rfl rfl (fun h12 => ?_) (fun h12 => ?_))))
      · refine to_an (pc := 126) rw_101_126 rfl (to_c (pc := 127) rw_101_127 (x := (59 : Int32)) rfl rfl (s_v (pc := 129) rw_101_129 (dp0 hd (by decide)) (ls0 := [.ref 1, .int (59 : Int32)]) rfl (Nat.le_of_ble_eq_true rfl) (Nat.le_of_ble_eq_true rfl) rfl (to_rc rfl rfl rfl (g_o hG rfl)) rfl ?_))
        have k_13 : (59 : Int32).toInt = 59 := rfl
        refine C_90 hX (dp1 hd (by decide)) hG (x := (59 : Int32)) (fun r14 M21 hG16 F15 p_17 p_18 p_19 p_20 => ?_)
        have F22 := FR.c F0 F15 tg_229
        refine s_r1 (pc := 132) rw_101_132 (A := r14.toInt) rfl (by omega) ?_
        exact h r14 M21 hG16 F22 (by omega) (by omega) (by omega)
      · refine to_an (pc := 106) rw_101_106 rfl (to_an (pc := 107) rw_101_107 rfl (to_an (pc := 108) rw_101_108 rfl (to_an (pc := 109) rw_101_109 rfl (to_i (pc := 110) rw_101_110 rfl (s_v (pc := 112) rw_101_112 (dp0 hd (by decide)) (ls0 := [.ref 28, .ref 1, .ref p, .ref 11, .int s, .null, .null, .null, .null]) rfl (Nat.le_of_ble_eq_true rfl) (Nat.le_of_ble_eq_true rfl) rfl (to_rc rfl rfl rfl (g_o hG rfl)) rfl (C_103 hX (dp1 hd (by decide)) hG hp (by omega) (by omega) (p := p) (s := s) (fun r23 M29 hG25 F24 p_26 p_27 p_28 => ?_)))))))
        have F30 := FR.c F0 F24 tg_232
        refine b_ine (pc := 115) rw_101_115 (A := r23.toInt) rfl (fun h31 => ?_) (fun h31 => ?_)
        · refine s_inc (pc := 120) rw_101_120 (ls2 := fun v => [.ref 28, .ref 1, .ref p, .ref 11, .int s, .int v]) rfl rfl (fun _ => rfl) (A := x5.toInt) (B := 1) rfl rfl (by omega) (fun v32 e33 => to_go (pc := 123) rw_101_123 ?_)
          exact ih M29 v32 hG25 F30 (by omega) (by omega) (by omega) (by omega) (by omega) (by omega)
        · refine to_c (pc := 118) rw_101_118 (x := (0 : Int32)) rfl rfl (s_r1 (pc := 119) rw_101_119 (A := 0) rfl (by decide) ?_)
          have k_34 : (0 : Int32).toInt = 0 := rfl
          exact h (0 : Int32) M29 hG25 F30 (by decide) (by decide) (by omega)
set_option maxRecDepth 4000 in
set_option maxHeartbeats 0 in
theorem C_101 {X : mm_X} {d : Nat} {M : mm_M} {Q : Option Value → mm_M → Prop} {p : Nat} {s : Int32} (hX : g_X X) (hd : 3 ≤ d) (hG : g_G M) (hp : p = 49 ∨ p = 58) (q1 : 0 ≤ s.toInt) (q2 : s.toInt ≤ 39) (h : ∀ (r : Int32) (M1 : mm_M), g_G M1 → FR md_wr M M1 → (0 ≤ r.toInt) → (r.toInt ≤ 1) → (r.toInt = 1 → (M1.2.1 1 10).toInt = (M.2.1 1 10).toInt ∧ (M1.2.1 1 11).toInt = (M.2.1 1 11).toInt) → Q (some (.int r)) M1) : mm_T X d 101 0 [.ref 28, .ref 1, .ref p, .ref 11, .int s, .null] [] M Q := by
  have F0 : FR md_wr M M := FR.rf
  refine to_an (pc := 0) rw_101_0 rfl (to_an (pc := 1) rw_101_1 rfl (to_an (pc := 2) rw_101_2 rfl (s_gR (pc := 3) rw_101_3 hG rfl (v := 30) rfl (to_i (pc := 6) rw_101_6 rfl (s_v (pc := 8) rw_101_8 (dp0 hd (by decide)) (ls0 := [.ref 28, .ref 1, .ref 30, .int s, .null]) rfl (Nat.le_of_ble_eq_true rfl) (Nat.le_of_ble_eq_true rfl) rfl (to_rc rfl rfl rfl (g_o hG rfl)) rfl (C_102 hX (dp1 hd (by decide)) hG (by decide) (by omega) (by omega) (w := 30) (s := s) (fun r35 M41 hG37 F36 p_38 p_39 p_40 => ?_)))))))
  have F42 := FR.c F0 F36 tg_233
  refine b_ieq (pc := 11) rw_101_11 (A := r35.toInt) rfl (fun h43 => ?_) (fun h43 => ?_)
  · refine to_c (pc := 23) rw_101_23 (x := (0 : Int32)) rfl rfl (s_r1 (pc := 24) rw_101_24 (A := 0) rfl (by decide) ?_)
    have k_44 : (0 : Int32).toInt = 0 := rfl
    exact h (0 : Int32) M41 hG37 F42 (by decide) (by decide) (by omega)
  · refine to_an (pc := 14) rw_101_14 rfl (to_c (pc := 15) rw_101_15 (x := (686817280 : Int32)) rfl rfl (s_v (pc := 17) rw_101_17 (dp0 hd (by decide)) (ls0 := [.ref 1, .int (686817280 : Int32)]) rfl (Nat.le_of_ble_eq_true rfl) (Nat.le_of_ble_eq_true rfl) rfl (to_rc rfl rfl rfl (g_o hG37 rfl)) rfl ?_))
    have k_45 : (686817280 : Int32).toInt = 686817280 := rfl
    refine C_89 hX (dp1 hd (by decide)) hG37 (x := (686817280 : Int32)) (fun r46 M52 hG48 F47 p_49 p_50 p_51 => ?_)
    have F53 := FR.c F42 F47 tg_229
    refine b_ine (pc := 20) rw_101_20 (A := r46.toInt) rfl (fun h54 => ?_) (fun h54 => ?_)
    · refine to_an (pc := 25) rw_101_25 rfl (to_an (pc := 26) rw_101_26 rfl (to_an (pc := 27) rw_101_27 rfl (s_gR (pc := 28) rw_101_28 hG48 rfl (v := 31) rfl (to_i (pc := 31) rw_101_31 rfl (s_v (pc := 33) rw_101_33 (dp0 hd (by decide)) (ls0 := [.ref 28, .ref 1, .ref 31, .int s, .null]) rfl (Nat.le_of_ble_eq_true rfl) (Nat.le_of_ble_eq_true rfl) rfl (to_rc rfl rfl rfl (g_o hG48 rfl)) rfl (C_102 hX (dp1 hd (by decide)) hG48 (by decide) (by omega) (by omega) (w := 31) (s := s) (fun r55 M61 hG57 F56 p_58 p_59 p_60 => ?_)))))))
      have F62 := FR.c F53 F56 tg_233
      refine b_ieq (pc := 36) rw_101_36 (A := r55.toInt) rfl (fun h63 => ?_) (fun h63 => ?_)
      · refine to_c (pc := 62) rw_101_62 (x := (0 : Int32)) rfl rfl (s_r1 (pc := 63) rw_101_63 (A := 0) rfl (by decide) ?_)
        have k_64 : (0 : Int32).toInt = 0 := rfl
        exact h (0 : Int32) M61 hG57 F62 (by decide) (by decide) (by omega)
      · refine to_an (pc := 39) rw_101_39 rfl (to_an (pc := 40) rw_101_40 rfl (to_an (pc := 41) rw_101_41 rfl (s_gR (pc := 42) rw_101_42 hG57 rfl (v := 32) rfl (to_i (pc := 45) rw_101_45 rfl (s_v (pc := 47) rw_101_47 (dp0 hd (by decide)) (ls0 := [.ref 28, .ref 1, .ref 32, .int s, .null]) rfl (Nat.le_of_ble_eq_true rfl) (Nat.le_of_ble_eq_true rfl) rfl (to_rc rfl rfl rfl (g_o hG57 rfl)) rfl (C_102 hX (dp1 hd (by decide)) hG57 (by decide) (by omega) (by omega) (w := 32) (s := s) (fun r65 M71 hG67 F66 p_68 p_69 p_70 => ?_)))))))
        have F72 := FR.c F62 F66 tg_233
        refine b_ieq (pc := 50) rw_101_50 (A := r65.toInt) rfl (fun h73 => ?_) (fun h73 => ?_)
        · refine to_c (pc := 62) rw_101_62 (x := (0 : Int32)) rfl rfl (s_r1 (pc := 63) rw_101_63 (A := 0) rfl (by decide) ?_)
          have k_74 : (0 : Int32).toInt = 0 := rfl
          exact h (0 : Int32) M71 hG67 F72 (by decide) (by decide) (by omega)
        · refine to_an (pc := 53) rw_101_53 rfl (to_c (pc := 54) rw_101_54 (x := (93323264 : Int32)) rfl rfl (s_v (pc := 56) rw_101_56 (dp0 hd (by decide)) (ls0 := [.ref 1, .int (93323264 : Int32)]) rfl (Nat.le_of_ble_eq_true rfl) (Nat.le_of_ble_eq_true rfl) rfl (to_rc rfl rfl rfl (g_o hG67 rfl)) rfl ?_))
          have k_75 : (93323264 : Int32).toInt = 93323264 := rfl
          refine C_89 hX (dp1 hd (by decide)) hG67 (x := (93323264 : Int32)) (fun r76 M82 hG78 F77 p_79 p_80 p_81 => ?_)
          have F83 := FR.c F72 F77 tg_229
          refine b_ine (pc := 59) rw_101_59 (A := r76.toInt) rfl (fun h84 => ?_) (fun h84 => ?_)
          · refine to_an (pc := 64) rw_101_64 rfl (s_gR (pc := 65) rw_101_65 hG78 rfl (v := 33) rfl (to_i (pc := 68) rw_101_68 rfl (s_cl (pc := 70) rw_101_70 rfl (fun l85 => s_las (pc := 71) rw_101_71 hG78 rfl (n := 40) rfl (A := s.toInt) rfl (by omega) (by omega) (fun M87 W86 => ?_)))))
            have hG88 := g_wl hG78 W86
            have F89 := FR.wl F83 W86 (show 33 = 1 ∧ 5 ≤ (s.toInt).toNat ∨ 3 ≤ 33 ∧ 33 ≤ 5 ∨ 29 ≤ 33 ∧ 33 ≤ 35 by omega)
            refine to_an (pc := 72) rw_101_72 rfl (to_an (pc := 73) rw_101_73 rfl (to_an (pc := 74) rw_101_74 rfl (to_an (pc := 75) rw_101_75 rfl (to_i (pc := 76) rw_101_76 rfl (s_v (pc := 78) rw_101_78 (dp0 hd (by decide)) (ls0 := [.ref 28, .ref 1, .ref p, .ref 11, .int s, .null, .null, .null, .null]) rfl (Nat.le_of_ble_eq_true rfl) (Nat.le_of_ble_eq_true rfl) rfl (to_rc rfl rfl rfl (g_o hG88 rfl)) rfl ?_)))))
            have c_90 : M87.2.1 1 10 = (M82.2.1 1 10) := (W_l W86 rfl)
            have t_91 : (M87.2.1 1 10).toInt = (M82.2.1 1 10).toInt := congrArg Int32.toInt c_90
            have c_92 : M87.2.1 1 11 = (M82.2.1 1 11) := (W_l W86 rfl)
            have t_93 : (M87.2.1 1 11).toInt = (M82.2.1 1 11).toInt := congrArg Int32.toInt c_92
            refine C_103 hX (dp1 hd (by decide)) hG88 hp (by omega) (by omega) (p := p) (s := s) (fun r94 M100 hG96 F95 p_97 p_98 p_99 => ?_)
            have F101 := FR.c F89 F95 tg_232
            refine b_ine (pc := 81) rw_101_81 (A := r94.toInt) rfl (fun h102 => ?_) (fun h102 => ?_)
            · refine to_c (pc := 86) rw_101_86 (x := (0 : Int32)) rfl rfl (to_is (pc := 87) rw_101_87 (ls2 := [.ref 28, .ref 1, .ref p, .ref 11, .int s, .int (0 : Int32)]) rfl rfl ?_)
              have k_103 : (0 : Int32).toInt = 0 := rfl
              exact (T_101_0 (p := p) (s := s) hX hd hp q1 q2 h ((500 - (0 : Int32).toInt).toNat + 1)) M100 (0 : Int32) hG96 F101 (by omega) (by omega) (by omega) (by omega) (by omega) (by omega)
            · refine to_c (pc := 84) rw_101_84 (x := (0 : Int32)) rfl rfl (s_r1 (pc := 85) rw_101_85 (A := 0) rfl (by decide) ?_)
              have k_104 : (0 : Int32).toInt = 0 := rfl
              exact h (0 : Int32) M100 hG96 F101 (by decide) (by decide) (by omega)
          · refine to_c (pc := 62) rw_101_62 (x := (0 : Int32)) rfl rfl (s_r1 (pc := 63) rw_101_63 (A := 0) rfl (by decide) ?_)
            have k_105 : (0 : Int32).toInt = 0 := rfl
            exact h (0 : Int32) M82 hG78 F83 (by decide) (by decide) (by omega)
    · refine to_c (pc := 23) rw_101_23 (x := (0 : Int32)) rfl rfl (s_r1 (pc := 24) rw_101_24 (A := 0) rfl (by decide) ?_)
      have k_106 : (0 : Int32).toInt = 0 := rfl
      exact h (0 : Int32) M52 hG48 F53 (by decide) (by decide) (by omega)
set_option maxRecDepth 4000 in
set_option maxHeartbeats 0 in
theorem C_104 {X : mm_X} {d : Nat} {M : mm_M} {Q : Option Value → mm_M → Prop} {s : Int32} (hX : g_X X) (hd : 2 ≤ d) (hG : g_G M) (q1 : 0 ≤ s.toInt) (q2 : s.toInt ≤ 39) (h : ∀ (r : Int32) (M1 : mm_M), g_G M1 → FR md_wr M M1 → (0 ≤ r.toInt) → (r.toInt ≤ 1) → (r.toInt = 1 → (M1.2.1 1 10).toInt = (M.2.1 1 10).toInt ∧ (M1.2.1 1 11).toInt = (M.2.1 1 11).toInt) → Q (some (.int r)) M1) : mm_T X d 104 0 [.ref 28, .ref 1, .int s, .null] [] M Q := by
  have F0 : FR md_wr M M := FR.rf
  refine to_an (pc := 0) rw_104_0 rfl (to_an (pc := 1) rw_104_1 rfl (to_an (pc := 2) rw_104_2 rfl (s_gR (pc := 3) rw_104_3 hG rfl (v := 30) rfl (to_in (pc := 6) rw_104_6 rfl (s_v (pc := 7) rw_104_7 (dp0 hd (by decide)) (ls0 := [.ref 28, .ref 1, .ref 30, .int s, .null]) rfl (Nat.le_of_ble_eq_true rfl) (Nat.le_of_ble_eq_true rfl) rfl (to_rc rfl rfl rfl (g_o hG rfl)) rfl (C_102 hX (dp1 hd (by decide)) hG (by decide) (by omega) (by omega) (w := 30) (s := s) (fun r1 M7 hG3 F2 p_4 p_5 p_6 => ?_)))))))
  have F8 := FR.c F0 F2 tg_233
  refine b_ine (pc := 10) rw_104_10 (A := r1.toInt) rfl (fun h9 => ?_) (fun h9 => ?_)
  · refine to_an (pc := 15) rw_104_15 rfl (tt_gI (pc := 16) rw_104_16 (g_o hG3 rfl) (v := (M7.2.1 1 9)) rfl (to_isn (pc := 19) rw_104_19 (ls2 := [.ref 28, .ref 1, .int s, .int (M7.2.1 1 9)]) rfl rfl (to_an (pc := 20) rw_104_20 rfl (to_an (pc := 21) rw_104_21 rfl (to_an (pc := 22) rw_104_22 rfl (s_gR (pc := 23) rw_104_23 hG3 rfl (v := 31) rfl (to_in (pc := 26) rw_104_26 rfl (s_v (pc := 27) rw_104_27 (dp0 hd (by decide)) (ls0 := [.ref 28, .ref 1, .ref 31, .int s, .null]) rfl (Nat.le_of_ble_eq_true rfl) (Nat.le_of_ble_eq_true rfl) rfl (to_rc rfl rfl rfl (g_o hG3 rfl)) rfl (C_102 hX (dp1 hd (by decide)) hG3 (by decide) (by omega) (by omega) (w := 31) (s := s) (fun r10 M16 hG12 F11 p_13 p_14 p_15 => ?_))))))))))
    have F17 := FR.c F8 F11 tg_233
    refine b_ine (pc := 30) rw_104_30 (A := r10.toInt) rfl (fun h18 => ?_) (fun h18 => ?_)
    · refine to_an (pc := 35) rw_104_35 rfl (s_gR (pc := 36) rw_104_36 hG12 rfl (v := 30) rfl (to_in (pc := 39) rw_104_39 rfl (s_ial (pc := 40) rw_104_40 hG12 rfl (n := 40) rfl rfl (A := s.toInt) rfl (by omega) (by omega) (lo := 0) (hi := 5) rfl rfl (fun v19 w_20 _ _ => to_an (pc := 41) rw_104_41 rfl (s_gR (pc := 42) rw_104_42 hG12 rfl (v := 31) rfl (to_in (pc := 45) rw_104_45 rfl (s_ial (pc := 46) rw_104_46 hG12 rfl (n := 40) rfl rfl (A := s.toInt) rfl (by omega) (by omega) (lo := 0) (hi := 5) rfl rfl (fun v21 w_22 _ _ => b_cne (pc := 47) rw_104_47 (A := v19.toInt) (B := v21.toInt) rfl rfl (fun h23 => ?_) (fun h23 => ?_)))))))))
      · refine to_an (pc := 57) rw_104_57 rfl (to_c (pc := 58) rw_104_58 (x := (59 : Int32)) rfl rfl (s_v (pc := 60) rw_104_60 (dp0 hd (by decide)) (ls0 := [.ref 1, .int (59 : Int32)]) rfl (Nat.le_of_ble_eq_true rfl) (Nat.le_of_ble_eq_true rfl) rfl (to_rc rfl rfl rfl (g_o hG12 rfl)) rfl ?_))
        have k_24 : (59 : Int32).toInt = 59 := rfl
        refine C_90 hX (dp1 hd (by decide)) hG12 (x := (59 : Int32)) (fun r25 M32 hG27 F26 p_28 p_29 p_30 p_31 => ?_)
        have F33 := FR.c F17 F26 tg_229
        refine s_r1 (pc := 63) rw_104_63 (A := r25.toInt) rfl (by omega) ?_
        exact h r25 M32 hG27 F33 (by omega) (by omega) (by omega)
      · refine to_an (pc := 50) rw_104_50 rfl (to_c (pc := 51) rw_104_51 (x := (3 : Int32)) rfl rfl (to_in (pc := 52) rw_104_52 rfl (s_v (pc := 53) rw_104_53 (dp0 hd (by decide)) (ls0 := [.ref 1, .int (3 : Int32), .int (M7.2.1 1 9)]) rfl (Nat.le_of_ble_eq_true rfl) (Nat.le_of_ble_eq_true rfl) rfl (to_rc rfl rfl rfl (g_o hG12 rfl)) rfl (to_an (pc := 0) rw_85_0 rfl (to_in (pc := 1) rw_85_1 rfl (s_pI (pc := 2) rw_85_2 hG12 rfl (fun M35 W34 => ?_)))))))
        have hG36 := g_wf hG12 W34 rfl rfl (by decide)
        have F37 := FR.w F17 W34 (show 1 = 1 ∧ 5 ≤ 10 ∨ 3 ≤ 1 ∧ 1 ≤ 5 ∨ 29 ≤ 1 ∧ 1 ≤ 35 by decide)
        refine to_an (pc := 5) rw_85_5 rfl (to_in (pc := 6) rw_85_6 rfl (s_pI (pc := 7) rw_85_7 hG36 rfl (fun M39 W38 => ?_)))
        have hG40 := g_wf hG36 W38 rfl rfl (by decide)
        have F41 := FR.w F37 W38 (show 1 = 1 ∧ 5 ≤ 11 ∨ 3 ≤ 1 ∧ 1 ≤ 5 ∨ 29 ≤ 1 ∧ 1 ≤ 35 by decide)
        refine to_c (pc := 10) rw_85_10 (x := (0 : Int32)) rfl rfl (s_r1 (pc := 11) rw_85_11 (A := 0) rfl (by decide) (s_r1 (pc := 56) rw_104_56 (A := 0) rfl (by decide) ?_))
        have k_42 : (0 : Int32).toInt = 0 := rfl
        have c_43 : M39.2.1 1 10 = (3 : Int32) := (W_n W38 (by decide) (W_e W34))
        have k_44 : (3 : Int32).toInt = 3 := rfl
        have t_45 : (M39.2.1 1 10).toInt = (3 : Int32).toInt := congrArg Int32.toInt c_43
        have c_46 : M39.2.1 1 11 = (M7.2.1 1 9) := (W_e W38)
        have t_47 : (M39.2.1 1 11).toInt = (M7.2.1 1 9).toInt := congrArg Int32.toInt c_46
        exact h (0 : Int32) M39 hG40 F41 (by decide) (by decide) (by omega)
    · refine to_c (pc := 33) rw_104_33 (x := (0 : Int32)) rfl rfl (s_r1 (pc := 34) rw_104_34 (A := 0) rfl (by decide) ?_)
      have k_48 : (0 : Int32).toInt = 0 := rfl
      exact h (0 : Int32) M16 hG12 F17 (by decide) (by decide) (by omega)
  · refine to_c (pc := 13) rw_104_13 (x := (0 : Int32)) rfl rfl (s_r1 (pc := 14) rw_104_14 (A := 0) rfl (by decide) ?_)
    have k_49 : (0 : Int32).toInt = 0 := rfl
    exact h (0 : Int32) M7 hG3 F8 (by decide) (by decide) (by omega)
noncomputable def RC_99 (k : Int) : Prop := ∀ (X : mm_X) (d : Nat) (M : mm_M) (Q : Option Value → mm_M → Prop) (p : Nat) (o : Int32), g_X X → (5 + 3 * (5 - o.toInt) ≤ (d : Int)) → g_G M → (p = 49 ∨ p = 58) → (0 ≤ o.toInt) → (o.toInt ≤ 5) → 5 - o.toInt < k → (∀ (r : Int32) (M1 : mm_M), g_G M1 → FR md_wt M M1 → (0 ≤ r.toInt) → (r.toInt ≤ 1) → (r.toInt = 1 → (M1.2.1 1 10).toInt = (M.2.1 1 10).toInt ∧ (M1.2.1 1 11).toInt = (M.2.1 1 11).toInt) → Q (some (.int r)) M1) → mm_T X d 99 0 [.ref 28, .ref 1, .ref p, .ref 11, .int o, .null] [] M Q
set_option maxRecDepth 4000 in
set_option maxHeartbeats 0 in
theorem C_105 {X : mm_X} {d : Nat} {M : mm_M} {Q : Option Value → mm_M → Prop} {p : Nat} {o : Int32} {s : Int32} (hX : g_X X) (hd : 3 + 3 * (5 - o.toInt) ≤ (d : Int)) (hG : g_G M) (hp : p = 49 ∨ p = 58) (q1 : 0 ≤ o.toInt) (q2 : o.toInt ≤ 5) (q3 : 0 ≤ s.toInt) (q4 : s.toInt ≤ 39) (hr : RC_99 (5 - o.toInt)) (h : ∀ (r : Int32) (M1 : mm_M), g_G M1 → FR md_wt M M1 → (0 ≤ r.toInt) → (r.toInt ≤ 1) → (r.toInt = 1 → (M1.2.1 1 10).toInt = (M.2.1 1 10).toInt ∧ (M1.2.1 1 11).toInt = (M.2.1 1 11).toInt) → Q (some (.int r)) M1) : mm_T X d 105 0 [.ref 28, .ref 1, .ref p, .ref 11, .int o, .int s] [] M Q := by
  have F0 : FR md_wt M M := FR.rf
  refine to_an (pc := 0) rw_105_0 rfl (to_c (pc := 1) rw_105_1 (x := (0 : Int32)) rfl rfl (to_c (pc := 2) rw_105_2 (x := (99 : Int32)) rfl rfl (s_v (pc := 4) rw_105_4 (by omega) (ls0 := [.ref 1, .int (0 : Int32), .int (99 : Int32)]) rfl (Nat.le_of_ble_eq_true rfl) (Nat.le_of_ble_eq_true rfl) rfl (to_rc rfl rfl rfl (g_o hG rfl)) rfl (to_an (pc := 0) rw_88_0 rfl (tt_gI (pc := 1) rw_88_1 (g_o hG rfl) (v := (M.2.1 1 7)) rfl (to_c (pc := 4) rw_88_4 (x := (2 : Int32)) rfl rfl (b_ceq (pc := 5) rw_88_5 (A := (M.2.1 1 7).toInt) (B := 2) rfl rfl (fun h1 => ?_) (fun h1 => ?_))))))))
  · refine to_an (pc := 14) rw_88_14 rfl (tt_gI (pc := 15) rw_88_15 (g_o hG rfl) (v := (M.2.1 1 8)) rfl (to_in (pc := 18) rw_88_18 rfl (b_clt (pc := 19) rw_88_19 (A := (M.2.1 1 8).toInt) (B := 0) rfl rfl (fun h2 => ?_) (fun h2 => ?_))))
    · refine to_an (pc := 30) rw_88_30 rfl (to_c (pc := 31) rw_88_31 (x := (2 : Int32)) rfl rfl (s_v (pc := 32) rw_88_32 (by omega) (ls0 := [.ref 1, .int (2 : Int32)]) rfl (Nat.le_of_ble_eq_true rfl) (Nat.le_of_ble_eq_true rfl) rfl (to_rc rfl rfl rfl (g_o hG rfl)) rfl (to_an (pc := 0) rw_84_0 rfl (to_in (pc := 1) rw_84_1 rfl (s_pI (pc := 2) rw_84_2 hG rfl (fun M4 W3 => ?_))))))
      have hG5 := g_wf hG W3 rfl rfl (by decide)
      have F6 := FR.w F0 W3 (show 1 = 1 ∧ 5 ≤ 10 ∨ 3 ≤ 1 ∧ 1 ≤ 5 ∨ 28 ≤ 1 ∧ 1 ≤ 35 by decide)
      refine to_an (pc := 5) rw_84_5 rfl (to_an (pc := 6) rw_84_6 rfl ?_)
      have c_7 : M4.2.1 1 9 = (M.2.1 1 9) := (W_n W3 (by decide) rfl)
      refine tt_gI (pc := 7) rw_84_7 (g_o hG5 rfl) (v := (M.2.1 1 9)) c_7 (s_pI (pc := 10) rw_84_10 hG5 rfl (fun M9 W8 => ?_))
      have hG10 := g_wf hG5 W8 rfl rfl (by decide)
      have F11 := FR.w F6 W8 (show 1 = 1 ∧ 5 ≤ 11 ∨ 3 ≤ 1 ∧ 1 ≤ 5 ∨ 28 ≤ 1 ∧ 1 ≤ 35 by decide)
      refine to_c (pc := 13) rw_84_13 (x := (0 : Int32)) rfl rfl (s_r1 (pc := 14) rw_84_14 (A := 0) rfl (by decide) (b_ieq_t (pc := 35) rw_88_35 (A := 0) rfl (by decide) (to_c (pc := 42) rw_88_42 (x := (0 : Int32)) rfl rfl (s_r1 (pc := 43) rw_88_43 (A := 0) rfl (by decide) (b_ine_f (pc := 7) rw_105_7 (A := 0) rfl (by decide) (to_c (pc := 10) rw_105_10 (x := (0 : Int32)) rfl rfl (s_r1 (pc := 11) rw_105_11 (A := 0) rfl (by decide) ?_)))))))
      have k_12 : (0 : Int32).toInt = 0 := rfl
      have c_13 : M9.2.1 1 10 = (2 : Int32) := (W_n W8 (by decide) (W_e W3))
      have k_14 : (2 : Int32).toInt = 2 := rfl
      have t_15 : (M9.2.1 1 10).toInt = (2 : Int32).toInt := congrArg Int32.toInt c_13
      have c_16 : M9.2.1 1 11 = (M.2.1 1 9) := (W_e W8)
      have t_17 : (M9.2.1 1 11).toInt = (M.2.1 1 9).toInt := congrArg Int32.toInt c_16
      exact h (0 : Int32) M9 hG10 F11 (by decide) (by decide) (by omega)
    · refine to_an (pc := 22) rw_88_22 rfl (tt_gI (pc := 23) rw_88_23 (g_o hG rfl) (v := (M.2.1 1 8)) rfl (to_in (pc := 26) rw_88_26 rfl (b_cle (pc := 27) rw_88_27 (A := (M.2.1 1 8).toInt) (B := 99) rfl rfl (fun h18 => ?_) (fun h18 => ?_))))
      · refine to_c (pc := 38) rw_88_38 (x := (1 : Int32)) rfl rfl (to_go (pc := 39) rw_88_39 (s_r1 (pc := 43) rw_88_43 (A := 1) rfl (by decide) (b_ine_t (pc := 7) rw_105_7 (A := 1) rfl (by decide) (to_an (pc := 12) rw_105_12 rfl (s_gR (pc := 13) rw_105_13 hG rfl (v := 34) rfl (to_i (pc := 16) rw_105_16 rfl (to_an (pc := 18) rw_105_18 rfl (tt_gI (pc := 19) rw_105_19 (g_o hG rfl) (v := (M.2.1 1 8)) rfl (s_ias (pc := 22) rw_105_22 hG rfl (n := 40) rfl (A := s.toInt) rfl (by omega) (by omega) (fun M20 W19 => ?_))))))))))
        have hG21 := g_w hG W19 (A := (M.2.1 1 8).toInt) rfl (lo := 0) (hi := 99) rfl rfl (by omega) (by decide)
        have F22 := FR.w F0 W19 (show 34 = 1 ∧ 5 ≤ (s.toInt).toNat ∨ 3 ≤ 34 ∧ 34 ≤ 5 ∨ 28 ≤ 34 ∧ 34 ≤ 35 by omega)
        refine to_an (pc := 23) rw_105_23 rfl (s_v (pc := 24) rw_105_24 (by omega) (ls0 := [.ref 1]) rfl (Nat.le_of_ble_eq_true rfl) (Nat.le_of_ble_eq_true rfl) rfl (to_rc rfl rfl rfl (g_o hG21 rfl)) rfl ?_)
        have c_23 : M20.2.1 1 10 = (M.2.1 1 10) := (W_n W19 (fun z => absurd z.1 (by decide)) rfl)
        have t_24 : (M20.2.1 1 10).toInt = (M.2.1 1 10).toInt := congrArg Int32.toInt c_23
        have c_25 : M20.2.1 1 11 = (M.2.1 1 11) := (W_n W19 (fun z => absurd z.1 (by decide)) rfl)
        have t_26 : (M20.2.1 1 11).toInt = (M.2.1 1 11).toInt := congrArg Int32.toInt c_25
        refine C_83 hX (by omega) hG21  (fun M30 hG28 F27 p_29 => ?_)
        have F31 := FR.c F22 F27 tg_234
        refine to_an (pc := 27) rw_105_27 rfl (tt_gI (pc := 28) rw_105_28 (g_o hG28 rfl) (v := (M30.2.1 1 7)) rfl (to_c (pc := 31) rw_105_31 (x := (40 : Int32)) rfl rfl (b_cne (pc := 33) rw_105_33 (A := (M30.2.1 1 7).toInt) (B := 40) rfl rfl (fun h32 => ?_) (fun h32 => ?_))))
        · refine to_an (pc := 48) rw_105_48 rfl (to_c (pc := 49) rw_105_49 (x := (40 : Int32)) rfl rfl (s_v (pc := 51) rw_105_51 (by omega) (ls0 := [.ref 1, .int (40 : Int32)]) rfl (Nat.le_of_ble_eq_true rfl) (Nat.le_of_ble_eq_true rfl) rfl (to_rc rfl rfl rfl (g_o hG28 rfl)) rfl ?_))
          have k_33 : (40 : Int32).toInt = 40 := rfl
          refine C_90 hX (by omega) hG28 (x := (40 : Int32)) (fun r34 M41 hG36 F35 p_37 p_38 p_39 p_40 => ?_)
          have F42 := FR.c F31 F35 tg_234
          refine b_ieq (pc := 54) rw_105_54 (A := r34.toInt) rfl (fun h43 => ?_) (fun h43 => ?_)
          · refine to_c (pc := 84) rw_105_84 (x := (0 : Int32)) rfl rfl (s_r1 (pc := 85) rw_105_85 (A := 0) rfl (by decide) ?_)
            have k_44 : (0 : Int32).toInt = 0 := rfl
            exact h (0 : Int32) M41 hG36 F42 (by decide) (by decide) (by omega)
          · refine to_an (pc := 57) rw_105_57 rfl (to_an (pc := 58) rw_105_58 rfl (to_an (pc := 59) rw_105_59 rfl (to_an (pc := 60) rw_105_60 rfl (to_i (pc := 61) rw_105_61 rfl (to_c (pc := 63) rw_105_63 (x := (1 : Int32)) rfl rfl (s_add (pc := 64) rw_105_64 (A := o.toInt) (B := 1) rfl rfl (by omega) (fun v45 e46 => s_v (pc := 65) rw_105_65 (by omega) (ls0 := [.ref 28, .ref 1, .ref p, .ref 11, .int v45, .null]) rfl (Nat.le_of_ble_eq_true rfl) (Nat.le_of_ble_eq_true rfl) rfl (to_rc rfl rfl rfl (g_o hG36 rfl)) rfl (hr X _ _ _ p v45 hX (by omega) hG36 hp (by omega) (by omega) (by omega) (fun r47 M53 hG49 F48 p_50 p_51 p_52 => ?_)))))))))
            have F54 := FR.c F42 F48 tg_235
            refine b_ieq (pc := 68) rw_105_68 (A := r47.toInt) rfl (fun h55 => ?_) (fun h55 => ?_)
            · refine to_c (pc := 84) rw_105_84 (x := (0 : Int32)) rfl rfl (s_r1 (pc := 85) rw_105_85 (A := 0) rfl (by decide) ?_)
              have k_56 : (0 : Int32).toInt = 0 := rfl
              exact h (0 : Int32) M53 hG49 F54 (by decide) (by decide) (by omega)
            · refine to_an (pc := 71) rw_105_71 rfl (to_c (pc := 72) rw_105_72 (x := (41 : Int32)) rfl rfl (s_v (pc := 74) rw_105_74 (by omega) (ls0 := [.ref 1, .int (41 : Int32)]) rfl (Nat.le_of_ble_eq_true rfl) (Nat.le_of_ble_eq_true rfl) rfl (to_rc rfl rfl rfl (g_o hG49 rfl)) rfl ?_))
              have k_57 : (41 : Int32).toInt = 41 := rfl
              refine C_90 hX (by omega) hG49 (x := (41 : Int32)) (fun r58 M65 hG60 F59 p_61 p_62 p_63 p_64 => ?_)
              have F66 := FR.c F54 F59 tg_234
              refine b_ieq (pc := 77) rw_105_77 (A := r58.toInt) rfl (fun h67 => ?_) (fun h67 => ?_)
              · refine to_c (pc := 84) rw_105_84 (x := (0 : Int32)) rfl rfl (s_r1 (pc := 85) rw_105_85 (A := 0) rfl (by decide) ?_)
                have k_68 : (0 : Int32).toInt = 0 := rfl
                exact h (0 : Int32) M65 hG60 F66 (by decide) (by decide) (by omega)
              · refine to_c (pc := 80) rw_105_80 (x := (1 : Int32)) rfl rfl (to_go (pc := 81) rw_105_81 (s_r1 (pc := 85) rw_105_85 (A := 1) rfl (by decide) ?_))
                have k_69 : (1 : Int32).toInt = 1 := rfl
                exact h (1 : Int32) M65 hG60 F66 (by decide) (by decide) (by omega)
        · refine to_i (pc := 36) rw_105_36 rfl (to_c (pc := 38) rw_105_38 (x := (5 : Int32)) rfl rfl (b_clt (pc := 39) rw_105_39 (A := o.toInt) (B := 5) rfl rfl (fun h70 => ?_) (fun h70 => ?_)))
          · refine to_an (pc := 48) rw_105_48 rfl (to_c (pc := 49) rw_105_49 (x := (40 : Int32)) rfl rfl (s_v (pc := 51) rw_105_51 (by omega) (ls0 := [.ref 1, .int (40 : Int32)]) rfl (Nat.le_of_ble_eq_true rfl) (Nat.le_of_ble_eq_true rfl) rfl (to_rc rfl rfl rfl (g_o hG28 rfl)) rfl ?_))
            have k_71 : (40 : Int32).toInt = 40 := rfl
            refine C_90 hX (by omega) hG28 (x := (40 : Int32)) (fun r72 M79 hG74 F73 p_75 p_76 p_77 p_78 => ?_)
            have F80 := FR.c F31 F73 tg_234
            refine b_ieq (pc := 54) rw_105_54 (A := r72.toInt) rfl (fun h81 => ?_) (fun h81 => ?_)
            · refine to_c (pc := 84) rw_105_84 (x := (0 : Int32)) rfl rfl (s_r1 (pc := 85) rw_105_85 (A := 0) rfl (by decide) ?_)
              have k_82 : (0 : Int32).toInt = 0 := rfl
              exact h (0 : Int32) M79 hG74 F80 (by decide) (by decide) (by omega)
            · refine to_an (pc := 57) rw_105_57 rfl (to_an (pc := 58) rw_105_58 rfl (to_an (pc := 59) rw_105_59 rfl (to_an (pc := 60) rw_105_60 rfl (to_i (pc := 61) rw_105_61 rfl (to_c (pc := 63) rw_105_63 (x := (1 : Int32)) rfl rfl (s_add (pc := 64) rw_105_64 (A := o.toInt) (B := 1) rfl rfl (by omega) (fun v83 e84 => s_v (pc := 65) rw_105_65 (by omega) (ls0 := [.ref 28, .ref 1, .ref p, .ref 11, .int v83, .null]) rfl (Nat.le_of_ble_eq_true rfl) (Nat.le_of_ble_eq_true rfl) rfl (to_rc rfl rfl rfl (g_o hG74 rfl)) rfl (hr X _ _ _ p v83 hX (by omega) hG74 hp (by omega) (by omega) (by omega) (fun r85 M91 hG87 F86 p_88 p_89 p_90 => ?_)))))))))
              have F92 := FR.c F80 F86 tg_235
              refine b_ieq (pc := 68) rw_105_68 (A := r85.toInt) rfl (fun h93 => ?_) (fun h93 => ?_)
              · refine to_c (pc := 84) rw_105_84 (x := (0 : Int32)) rfl rfl (s_r1 (pc := 85) rw_105_85 (A := 0) rfl (by decide) ?_)
                have k_94 : (0 : Int32).toInt = 0 := rfl
                exact h (0 : Int32) M91 hG87 F92 (by decide) (by decide) (by omega)
              · refine to_an (pc := 71) rw_105_71 rfl (to_c (pc := 72) rw_105_72 (x := (41 : Int32)) rfl rfl (s_v (pc := 74) rw_105_74 (by omega) (ls0 := [.ref 1, .int (41 : Int32)]) rfl (Nat.le_of_ble_eq_true rfl) (Nat.le_of_ble_eq_true rfl) rfl (to_rc rfl rfl rfl (g_o hG87 rfl)) rfl ?_))
                have k_95 : (41 : Int32).toInt = 41 := rfl
                refine C_90 hX (by omega) hG87 (x := (41 : Int32)) (fun r96 M103 hG98 F97 p_99 p_100 p_101 p_102 => ?_)
                have F104 := FR.c F92 F97 tg_234
                refine b_ieq (pc := 77) rw_105_77 (A := r96.toInt) rfl (fun h105 => ?_) (fun h105 => ?_)
                · refine to_c (pc := 84) rw_105_84 (x := (0 : Int32)) rfl rfl (s_r1 (pc := 85) rw_105_85 (A := 0) rfl (by decide) ?_)
                  have k_106 : (0 : Int32).toInt = 0 := rfl
                  exact h (0 : Int32) M103 hG98 F104 (by decide) (by decide) (by omega)
                · refine to_c (pc := 80) rw_105_80 (x := (1 : Int32)) rfl rfl (to_go (pc := 81) rw_105_81 (s_r1 (pc := 85) rw_105_85 (A := 1) rfl (by decide) ?_))
                  have k_107 : (1 : Int32).toInt = 1 := rfl
                  exact h (1 : Int32) M103 hG98 F104 (by decide) (by decide) (by omega)
          · refine to_an (pc := 42) rw_105_42 rfl (to_c (pc := 43) rw_105_43 (x := (2 : Int32)) rfl rfl (s_v (pc := 44) rw_105_44 (by omega) (ls0 := [.ref 1, .int (2 : Int32)]) rfl (Nat.le_of_ble_eq_true rfl) (Nat.le_of_ble_eq_true rfl) rfl (to_rc rfl rfl rfl (g_o hG28 rfl)) rfl (to_an (pc := 0) rw_84_0 rfl (to_in (pc := 1) rw_84_1 rfl (s_pI (pc := 2) rw_84_2 hG28 rfl (fun M109 W108 => ?_))))))
            have hG110 := g_wf hG28 W108 rfl rfl (by decide)
            have F111 := FR.w F31 W108 (show 1 = 1 ∧ 5 ≤ 10 ∨ 3 ≤ 1 ∧ 1 ≤ 5 ∨ 28 ≤ 1 ∧ 1 ≤ 35 by decide)
            refine to_an (pc := 5) rw_84_5 rfl (to_an (pc := 6) rw_84_6 rfl ?_)
            have c_112 : M109.2.1 1 9 = (M30.2.1 1 9) := (W_n W108 (by decide) rfl)
            refine tt_gI (pc := 7) rw_84_7 (g_o hG110 rfl) (v := (M30.2.1 1 9)) c_112 (s_pI (pc := 10) rw_84_10 hG110 rfl (fun M114 W113 => ?_))
            have hG115 := g_wf hG110 W113 rfl rfl (by decide)
            have F116 := FR.w F111 W113 (show 1 = 1 ∧ 5 ≤ 11 ∨ 3 ≤ 1 ∧ 1 ≤ 5 ∨ 28 ≤ 1 ∧ 1 ≤ 35 by decide)
            refine to_c (pc := 13) rw_84_13 (x := (0 : Int32)) rfl rfl (s_r1 (pc := 14) rw_84_14 (A := 0) rfl (by decide) (s_r1 (pc := 47) rw_105_47 (A := 0) rfl (by decide) ?_))
            have k_117 : (0 : Int32).toInt = 0 := rfl
            have c_118 : M114.2.1 1 10 = (2 : Int32) := (W_n W113 (by decide) (W_e W108))
            have k_119 : (2 : Int32).toInt = 2 := rfl
            have t_120 : (M114.2.1 1 10).toInt = (2 : Int32).toInt := congrArg Int32.toInt c_118
            have c_121 : M114.2.1 1 11 = (M30.2.1 1 9) := (W_e W113)
            have t_122 : (M114.2.1 1 11).toInt = (M30.2.1 1 9).toInt := congrArg Int32.toInt c_121
            exact h (0 : Int32) M114 hG115 F116 (by decide) (by decide) (by omega)
      · refine to_an (pc := 30) rw_88_30 rfl (to_c (pc := 31) rw_88_31 (x := (2 : Int32)) rfl rfl (s_v (pc := 32) rw_88_32 (by omega) (ls0 := [.ref 1, .int (2 : Int32)]) rfl (Nat.le_of_ble_eq_true rfl) (Nat.le_of_ble_eq_true rfl) rfl (to_rc rfl rfl rfl (g_o hG rfl)) rfl (to_an (pc := 0) rw_84_0 rfl (to_in (pc := 1) rw_84_1 rfl (s_pI (pc := 2) rw_84_2 hG rfl (fun M124 W123 => ?_))))))
        have hG125 := g_wf hG W123 rfl rfl (by decide)
        have F126 := FR.w F0 W123 (show 1 = 1 ∧ 5 ≤ 10 ∨ 3 ≤ 1 ∧ 1 ≤ 5 ∨ 28 ≤ 1 ∧ 1 ≤ 35 by decide)
        refine to_an (pc := 5) rw_84_5 rfl (to_an (pc := 6) rw_84_6 rfl ?_)
        have c_127 : M124.2.1 1 9 = (M.2.1 1 9) := (W_n W123 (by decide) rfl)
        refine tt_gI (pc := 7) rw_84_7 (g_o hG125 rfl) (v := (M.2.1 1 9)) c_127 (s_pI (pc := 10) rw_84_10 hG125 rfl (fun M129 W128 => ?_))
        have hG130 := g_wf hG125 W128 rfl rfl (by decide)
        have F131 := FR.w F126 W128 (show 1 = 1 ∧ 5 ≤ 11 ∨ 3 ≤ 1 ∧ 1 ≤ 5 ∨ 28 ≤ 1 ∧ 1 ≤ 35 by decide)
        refine to_c (pc := 13) rw_84_13 (x := (0 : Int32)) rfl rfl (s_r1 (pc := 14) rw_84_14 (A := 0) rfl (by decide) (b_ieq_t (pc := 35) rw_88_35 (A := 0) rfl (by decide) (to_c (pc := 42) rw_88_42 (x := (0 : Int32)) rfl rfl (s_r1 (pc := 43) rw_88_43 (A := 0) rfl (by decide) (b_ine_f (pc := 7) rw_105_7 (A := 0) rfl (by decide) (to_c (pc := 10) rw_105_10 (x := (0 : Int32)) rfl rfl (s_r1 (pc := 11) rw_105_11 (A := 0) rfl (by decide) ?_)))))))
        have k_132 : (0 : Int32).toInt = 0 := rfl
        have c_133 : M129.2.1 1 10 = (2 : Int32) := (W_n W128 (by decide) (W_e W123))
        have k_134 : (2 : Int32).toInt = 2 := rfl
        have t_135 : (M129.2.1 1 10).toInt = (2 : Int32).toInt := congrArg Int32.toInt c_133
        have c_136 : M129.2.1 1 11 = (M.2.1 1 9) := (W_e W128)
        have t_137 : (M129.2.1 1 11).toInt = (M.2.1 1 9).toInt := congrArg Int32.toInt c_136
        exact h (0 : Int32) M129 hG130 F131 (by decide) (by decide) (by omega)
  · refine to_an (pc := 8) rw_88_8 rfl (to_c (pc := 9) rw_88_9 (x := (1 : Int32)) rfl rfl (s_v (pc := 10) rw_88_10 (by omega) (ls0 := [.ref 1, .int (1 : Int32)]) rfl (Nat.le_of_ble_eq_true rfl) (Nat.le_of_ble_eq_true rfl) rfl (to_rc rfl rfl rfl (g_o hG rfl)) rfl (to_an (pc := 0) rw_84_0 rfl (to_in (pc := 1) rw_84_1 rfl (s_pI (pc := 2) rw_84_2 hG rfl (fun M139 W138 => ?_))))))
    have hG140 := g_wf hG W138 rfl rfl (by decide)
    have F141 := FR.w F0 W138 (show 1 = 1 ∧ 5 ≤ 10 ∨ 3 ≤ 1 ∧ 1 ≤ 5 ∨ 28 ≤ 1 ∧ 1 ≤ 35 by decide)
    refine to_an (pc := 5) rw_84_5 rfl (to_an (pc := 6) rw_84_6 rfl ?_)
    have c_142 : M139.2.1 1 9 = (M.2.1 1 9) := (W_n W138 (by decide) rfl)
    refine tt_gI (pc := 7) rw_84_7 (g_o hG140 rfl) (v := (M.2.1 1 9)) c_142 (s_pI (pc := 10) rw_84_10 hG140 rfl (fun M144 W143 => ?_))
    have hG145 := g_wf hG140 W143 rfl rfl (by decide)
    have F146 := FR.w F141 W143 (show 1 = 1 ∧ 5 ≤ 11 ∨ 3 ≤ 1 ∧ 1 ≤ 5 ∨ 28 ≤ 1 ∧ 1 ≤ 35 by decide)
    refine to_c (pc := 13) rw_84_13 (x := (0 : Int32)) rfl rfl (s_r1 (pc := 14) rw_84_14 (A := 0) rfl (by decide) (s_r1 (pc := 13) rw_88_13 (A := 0) rfl (by decide) (b_ine_f (pc := 7) rw_105_7 (A := 0) rfl (by decide) (to_c (pc := 10) rw_105_10 (x := (0 : Int32)) rfl rfl (s_r1 (pc := 11) rw_105_11 (A := 0) rfl (by decide) ?_)))))
    have k_147 : (0 : Int32).toInt = 0 := rfl
    have c_148 : M144.2.1 1 10 = (1 : Int32) := (W_n W143 (by decide) (W_e W138))
    have k_149 : (1 : Int32).toInt = 1 := rfl
    have t_150 : (M144.2.1 1 10).toInt = (1 : Int32).toInt := congrArg Int32.toInt c_148
    have c_151 : M144.2.1 1 11 = (M.2.1 1 9) := (W_e W143)
    have t_152 : (M144.2.1 1 11).toInt = (M.2.1 1 9).toInt := congrArg Int32.toInt c_151
    exact h (0 : Int32) M144 hG145 F146 (by decide) (by decide) (by omega)
set_option maxRecDepth 4000 in
set_option maxHeartbeats 0 in
theorem C_100 {X : mm_X} {d : Nat} {M : mm_M} {Q : Option Value → mm_M → Prop} {p : Nat} {o : Int32} (hX : g_X X) (hd : 4 + 3 * (5 - o.toInt) ≤ (d : Int)) (hG : g_G M) (hp : p = 49 ∨ p = 58) (q1 : 0 ≤ o.toInt) (q2 : o.toInt ≤ 5) (hr : RC_99 (5 - o.toInt)) (h : ∀ (r : Int32) (M1 : mm_M), g_G M1 → FR md_wt M M1 → (0 ≤ r.toInt) → (r.toInt ≤ 1) → (r.toInt = 1 → (M1.2.1 1 10).toInt = (M.2.1 1 10).toInt ∧ (M1.2.1 1 11).toInt = (M.2.1 1 11).toInt) → Q (some (.int r)) M1) : mm_T X d 100 0 [.ref 28, .ref 1, .ref p, .ref 11, .int o, .null, .null, .null] [] M Q := by
  have F0 : FR md_wt M M := FR.rf
  refine to_an (pc := 0) rw_100_0 rfl (tt_gI (pc := 1) rw_100_1 (g_o hG rfl) (v := (M.2.1 1 8)) rfl (to_is (pc := 4) rw_100_4 (ls2 := [.ref 28, .ref 1, .ref p, .ref 11, .int o, .int (M.2.1 1 8), .null, .null]) rfl rfl (to_i (pc := 6) rw_100_6 rfl (to_c (pc := 8) rw_100_8 (x := (538561536 : Int32)) rfl rfl (b_ceq (pc := 10) rw_100_10 (A := (M.2.1 1 8).toInt) (B := 538561536) rfl rfl (fun h1 => ?_) (fun h1 => ?_))))))
  · refine to_an (pc := 33) rw_100_33 rfl ?_
    have b_2 := g_b hG (a := 28) (i := 7) (lo := 0) (hi := 40) rfl rfl
    refine tt_gI (pc := 34) rw_100_34 (g_o hG rfl) (v := (M.2.1 28 7)) rfl (to_c (pc := 37) rw_100_37 (x := (40 : Int32)) rfl rfl (b_clt (pc := 39) rw_100_39 (A := (M.2.1 28 7).toInt) (B := 40) rfl rfl (fun h3 => ?_) (fun h3 => ?_)))
    · refine to_an (pc := 48) rw_100_48 rfl (tt_gI (pc := 49) rw_100_49 (g_o hG rfl) (v := (M.2.1 28 7)) rfl (to_is (pc := 52) rw_100_52 (ls2 := [.ref 28, .ref 1, .ref p, .ref 11, .int o, .int (M.2.1 1 8), .int (M.2.1 28 7), .null]) rfl rfl (to_an (pc := 54) rw_100_54 rfl (to_dupr (pc := 55) rw_100_55 (tt_gI (pc := 56) rw_100_56 (g_o hG rfl) (v := (M.2.1 28 7)) rfl (to_c (pc := 59) rw_100_59 (x := (1 : Int32)) rfl rfl (s_add (pc := 60) rw_100_60 (A := (M.2.1 28 7).toInt) (B := 1) rfl rfl (by omega) (fun v4 e5 => s_pI (pc := 61) rw_100_61 hG rfl (fun M7 W6 => ?_)))))))))
      have hG8 := g_w hG W6 (A := v4.toInt) rfl (lo := 0) (hi := 40) rfl rfl (by omega) (by decide)
      have F9 := FR.w F0 W6 (show 28 = 1 ∧ 5 ≤ 7 ∨ 3 ≤ 28 ∧ 28 ≤ 5 ∨ 28 ≤ 28 ∧ 28 ≤ 35 by decide)
      refine to_an (pc := 64) rw_100_64 rfl (s_gR (pc := 65) rw_100_65 hG8 rfl (v := 29) rfl (to_i (pc := 68) rw_100_68 rfl (to_i (pc := 70) rw_100_70 rfl (s_ias (pc := 72) rw_100_72 hG8 rfl (n := 40) rfl (A := (M.2.1 28 7).toInt) rfl (by omega) (by omega) (fun M11 W10 => ?_)))))
      have hG12 := g_wf hG8 W10 rfl rfl (by decide)
      have F13 := FR.w F9 W10 (show 29 = 1 ∧ 5 ≤ ((M.2.1 28 7).toInt).toNat ∨ 3 ≤ 29 ∧ 29 ≤ 5 ∨ 28 ≤ 29 ∧ 29 ≤ 35 by omega)
      refine to_an (pc := 73) rw_100_73 rfl (s_v (pc := 74) rw_100_74 (by omega) (ls0 := [.ref 1]) rfl (Nat.le_of_ble_eq_true rfl) (Nat.le_of_ble_eq_true rfl) rfl (to_rc rfl rfl rfl (g_o hG12 rfl)) rfl ?_)
      have c_14 : M11.2.1 1 10 = (M.2.1 1 10) := (W_n W10 (fun z => absurd z.1 (by decide)) (W_n W6 (by decide) rfl))
      have t_15 : (M11.2.1 1 10).toInt = (M.2.1 1 10).toInt := congrArg Int32.toInt c_14
      have c_16 : M11.2.1 1 11 = (M.2.1 1 11) := (W_n W10 (fun z => absurd z.1 (by decide)) (W_n W6 (by decide) rfl))
      have t_17 : (M11.2.1 1 11).toInt = (M.2.1 1 11).toInt := congrArg Int32.toInt c_16
      refine C_83 hX (by omega) hG12  (fun M21 hG19 F18 p_20 => ?_)
      have F22 := FR.c F13 F18 tg_234
      refine to_i (pc := 77) rw_100_77 rfl (to_c (pc := 79) rw_100_79 (x := (538561536 : Int32)) rfl rfl (b_cne_f (pc := 81) rw_100_81 (A := (M.2.1 1 8).toInt) (B := 538561536) rfl rfl (by omega) (to_an (pc := 84) rw_100_84 rfl (to_an (pc := 85) rw_100_85 rfl (to_an (pc := 86) rw_100_86 rfl (to_an (pc := 87) rw_100_87 rfl (to_i (pc := 88) rw_100_88 rfl (s_v (pc := 90) rw_100_90 (by omega) (ls0 := [.ref 28, .ref 1, .ref p, .ref 11, .int (M.2.1 28 7), .null]) rfl (Nat.le_of_ble_eq_true rfl) (Nat.le_of_ble_eq_true rfl) rfl (to_rc rfl rfl rfl (g_o hG19 rfl)) rfl (C_101 hX (by omega) hG19 hp (by omega) (by omega) (p := p) (s := (M.2.1 28 7)) (fun r23 M29 hG25 F24 p_26 p_27 p_28 => ?_))))))))))
      have F30 := FR.c F22 F24 tg_236
      refine to_is (pc := 93) rw_100_93 (ls2 := [.ref 28, .ref 1, .ref p, .ref 11, .int o, .int (M.2.1 1 8), .int (M.2.1 28 7), .int r23]) rfl rfl (to_go (pc := 95) rw_100_95 (to_an (pc := 130) rw_100_130 rfl (s_gR (pc := 131) rw_100_131 hG25 rfl (v := 35) rfl (to_i (pc := 134) rw_100_134 rfl (to_an (pc := 136) rw_100_136 rfl ?_)))))
      have c_31 : M29.2.1 28 7 = v4 := (F_n F24 (show ¬ (28 = 1 ∧ 5 ≤ 7 ∨ 3 ≤ 28 ∧ 28 ≤ 5 ∨ 29 ≤ 28 ∧ 28 ≤ 35) by decide) (F_n F18 (show ¬ (28 = 1 ∧ 5 ≤ 7 ∨ 3 ≤ 28 ∧ 28 ≤ 5) by decide) (W_n W10 (fun z => absurd z.1 (by decide)) (W_e W6))))
      refine tt_gI (pc := 137) rw_100_137 (g_o hG25 rfl) (v := v4) c_31 (s_ias (pc := 140) rw_100_140 hG25 rfl (n := 40) rfl (A := (M.2.1 28 7).toInt) rfl (by omega) (by omega) (fun M33 W32 => ?_))
      have hG34 := g_w hG25 W32 (A := v4.toInt) rfl (lo := 0) (hi := 40) rfl rfl (by omega) (by decide)
      have F35 := FR.w F30 W32 (show 35 = 1 ∧ 5 ≤ ((M.2.1 28 7).toInt).toNat ∨ 3 ≤ 35 ∧ 35 ≤ 5 ∨ 28 ≤ 35 ∧ 35 ≤ 35 by omega)
      refine to_i (pc := 141) rw_100_141 rfl (s_r1 (pc := 143) rw_100_143 (A := r23.toInt) rfl (by omega) ?_)
      have c_36 : M33.2.1 1 10 = (M29.2.1 1 10) := (W_n W32 (fun z => absurd z.1 (by decide)) rfl)
      have t_37 : (M33.2.1 1 10).toInt = (M29.2.1 1 10).toInt := congrArg Int32.toInt c_36
      have c_38 : M33.2.1 1 11 = (M29.2.1 1 11) := (W_n W32 (fun z => absurd z.1 (by decide)) rfl)
      have t_39 : (M33.2.1 1 11).toInt = (M29.2.1 1 11).toInt := congrArg Int32.toInt c_38
      exact h r23 M33 hG34 F35 (by omega) (by omega) (by omega)
    · refine to_an (pc := 42) rw_100_42 rfl (to_c (pc := 43) rw_100_43 (x := (2 : Int32)) rfl rfl (s_v (pc := 44) rw_100_44 (by omega) (ls0 := [.ref 1, .int (2 : Int32)]) rfl (Nat.le_of_ble_eq_true rfl) (Nat.le_of_ble_eq_true rfl) rfl (to_rc rfl rfl rfl (g_o hG rfl)) rfl (to_an (pc := 0) rw_84_0 rfl (to_in (pc := 1) rw_84_1 rfl (s_pI (pc := 2) rw_84_2 hG rfl (fun M41 W40 => ?_))))))
      have hG42 := g_wf hG W40 rfl rfl (by decide)
      have F43 := FR.w F0 W40 (show 1 = 1 ∧ 5 ≤ 10 ∨ 3 ≤ 1 ∧ 1 ≤ 5 ∨ 28 ≤ 1 ∧ 1 ≤ 35 by decide)
      refine to_an (pc := 5) rw_84_5 rfl (to_an (pc := 6) rw_84_6 rfl ?_)
      have c_44 : M41.2.1 1 9 = (M.2.1 1 9) := (W_n W40 (by decide) rfl)
      refine tt_gI (pc := 7) rw_84_7 (g_o hG42 rfl) (v := (M.2.1 1 9)) c_44 (s_pI (pc := 10) rw_84_10 hG42 rfl (fun M46 W45 => ?_))
      have hG47 := g_wf hG42 W45 rfl rfl (by decide)
      have F48 := FR.w F43 W45 (show 1 = 1 ∧ 5 ≤ 11 ∨ 3 ≤ 1 ∧ 1 ≤ 5 ∨ 28 ≤ 1 ∧ 1 ≤ 35 by decide)
      refine to_c (pc := 13) rw_84_13 (x := (0 : Int32)) rfl rfl (s_r1 (pc := 14) rw_84_14 (A := 0) rfl (by decide) (s_r1 (pc := 47) rw_100_47 (A := 0) rfl (by decide) ?_))
      have k_49 : (0 : Int32).toInt = 0 := rfl
      have c_50 : M46.2.1 1 10 = (2 : Int32) := (W_n W45 (by decide) (W_e W40))
      have k_51 : (2 : Int32).toInt = 2 := rfl
      have t_52 : (M46.2.1 1 10).toInt = (2 : Int32).toInt := congrArg Int32.toInt c_50
      have c_53 : M46.2.1 1 11 = (M.2.1 1 9) := (W_e W45)
      have t_54 : (M46.2.1 1 11).toInt = (M.2.1 1 9).toInt := congrArg Int32.toInt c_53
      exact h (0 : Int32) M46 hG47 F48 (by decide) (by decide) (by omega)
  · refine to_i (pc := 13) rw_100_13 rfl (to_c (pc := 15) rw_100_15 (x := (351582208 : Int32)) rfl rfl (b_ceq (pc := 17) rw_100_17 (A := (M.2.1 1 8).toInt) (B := 351582208) rfl rfl (fun h55 => ?_) (fun h55 => ?_)))
    · refine to_an (pc := 33) rw_100_33 rfl ?_
      have b_56 := g_b hG (a := 28) (i := 7) (lo := 0) (hi := 40) rfl rfl
      refine tt_gI (pc := 34) rw_100_34 (g_o hG rfl) (v := (M.2.1 28 7)) rfl (to_c (pc := 37) rw_100_37 (x := (40 : Int32)) rfl rfl (b_clt (pc := 39) rw_100_39 (A := (M.2.1 28 7).toInt) (B := 40) rfl rfl (fun h57 => ?_) (fun h57 => ?_)))
      · refine to_an (pc := 48) rw_100_48 rfl (tt_gI (pc := 49) rw_100_49 (g_o hG rfl) (v := (M.2.1 28 7)) rfl (to_is (pc := 52) rw_100_52 (ls2 := [.ref 28, .ref 1, .ref p, .ref 11, .int o, .int (M.2.1 1 8), .int (M.2.1 28 7), .null]) rfl rfl (to_an (pc := 54) rw_100_54 rfl (to_dupr (pc := 55) rw_100_55 (tt_gI (pc := 56) rw_100_56 (g_o hG rfl) (v := (M.2.1 28 7)) rfl (to_c (pc := 59) rw_100_59 (x := (1 : Int32)) rfl rfl (s_add (pc := 60) rw_100_60 (A := (M.2.1 28 7).toInt) (B := 1) rfl rfl (by omega) (fun v58 e59 => s_pI (pc := 61) rw_100_61 hG rfl (fun M61 W60 => ?_)))))))))
        have hG62 := g_w hG W60 (A := v58.toInt) rfl (lo := 0) (hi := 40) rfl rfl (by omega) (by decide)
        have F63 := FR.w F0 W60 (show 28 = 1 ∧ 5 ≤ 7 ∨ 3 ≤ 28 ∧ 28 ≤ 5 ∨ 28 ≤ 28 ∧ 28 ≤ 35 by decide)
        refine to_an (pc := 64) rw_100_64 rfl (s_gR (pc := 65) rw_100_65 hG62 rfl (v := 29) rfl (to_i (pc := 68) rw_100_68 rfl (to_i (pc := 70) rw_100_70 rfl (s_ias (pc := 72) rw_100_72 hG62 rfl (n := 40) rfl (A := (M.2.1 28 7).toInt) rfl (by omega) (by omega) (fun M65 W64 => ?_)))))
        have hG66 := g_wf hG62 W64 rfl rfl (by decide)
        have F67 := FR.w F63 W64 (show 29 = 1 ∧ 5 ≤ ((M.2.1 28 7).toInt).toNat ∨ 3 ≤ 29 ∧ 29 ≤ 5 ∨ 28 ≤ 29 ∧ 29 ≤ 35 by omega)
        refine to_an (pc := 73) rw_100_73 rfl (s_v (pc := 74) rw_100_74 (by omega) (ls0 := [.ref 1]) rfl (Nat.le_of_ble_eq_true rfl) (Nat.le_of_ble_eq_true rfl) rfl (to_rc rfl rfl rfl (g_o hG66 rfl)) rfl ?_)
        have c_68 : M65.2.1 1 10 = (M.2.1 1 10) := (W_n W64 (fun z => absurd z.1 (by decide)) (W_n W60 (by decide) rfl))
        have t_69 : (M65.2.1 1 10).toInt = (M.2.1 1 10).toInt := congrArg Int32.toInt c_68
        have c_70 : M65.2.1 1 11 = (M.2.1 1 11) := (W_n W64 (fun z => absurd z.1 (by decide)) (W_n W60 (by decide) rfl))
        have t_71 : (M65.2.1 1 11).toInt = (M.2.1 1 11).toInt := congrArg Int32.toInt c_70
        refine C_83 hX (by omega) hG66  (fun M75 hG73 F72 p_74 => ?_)
        have F76 := FR.c F67 F72 tg_234
        refine to_i (pc := 77) rw_100_77 rfl (to_c (pc := 79) rw_100_79 (x := (538561536 : Int32)) rfl rfl (b_cne_t (pc := 81) rw_100_81 (A := (M.2.1 1 8).toInt) (B := 538561536) rfl rfl (by omega) (to_i (pc := 98) rw_100_98 rfl (to_c (pc := 100) rw_100_100 (x := (351582208 : Int32)) rfl rfl (b_cne_f (pc := 102) rw_100_102 (A := (M.2.1 1 8).toInt) (B := 351582208) rfl rfl (by omega) (to_an (pc := 105) rw_100_105 rfl (to_an (pc := 106) rw_100_106 rfl (to_i (pc := 107) rw_100_107 rfl (s_v (pc := 109) rw_100_109 (by omega) (ls0 := [.ref 28, .ref 1, .int (M.2.1 28 7), .null]) rfl (Nat.le_of_ble_eq_true rfl) (Nat.le_of_ble_eq_true rfl) rfl (to_rc rfl rfl rfl (g_o hG73 rfl)) rfl (C_104 hX (by omega) hG73 (by omega) (by omega) (s := (M.2.1 28 7)) (fun r77 M83 hG79 F78 p_80 p_81 p_82 => ?_)))))))))))
        have F84 := FR.c F76 F78 tg_236
        refine to_is (pc := 112) rw_100_112 (ls2 := [.ref 28, .ref 1, .ref p, .ref 11, .int o, .int (M.2.1 1 8), .int (M.2.1 28 7), .int r77]) rfl rfl (to_go (pc := 114) rw_100_114 (to_an (pc := 130) rw_100_130 rfl (s_gR (pc := 131) rw_100_131 hG79 rfl (v := 35) rfl (to_i (pc := 134) rw_100_134 rfl (to_an (pc := 136) rw_100_136 rfl ?_)))))
        have c_85 : M83.2.1 28 7 = v58 := (F_n F78 (show ¬ (28 = 1 ∧ 5 ≤ 7 ∨ 3 ≤ 28 ∧ 28 ≤ 5 ∨ 29 ≤ 28 ∧ 28 ≤ 35) by decide) (F_n F72 (show ¬ (28 = 1 ∧ 5 ≤ 7 ∨ 3 ≤ 28 ∧ 28 ≤ 5) by decide) (W_n W64 (fun z => absurd z.1 (by decide)) (W_e W60))))
        refine tt_gI (pc := 137) rw_100_137 (g_o hG79 rfl) (v := v58) c_85 (s_ias (pc := 140) rw_100_140 hG79 rfl (n := 40) rfl (A := (M.2.1 28 7).toInt) rfl (by omega) (by omega) (fun M87 W86 => ?_))
        have hG88 := g_w hG79 W86 (A := v58.toInt) rfl (lo := 0) (hi := 40) rfl rfl (by omega) (by decide)
        have F89 := FR.w F84 W86 (show 35 = 1 ∧ 5 ≤ ((M.2.1 28 7).toInt).toNat ∨ 3 ≤ 35 ∧ 35 ≤ 5 ∨ 28 ≤ 35 ∧ 35 ≤ 35 by omega)
        refine to_i (pc := 141) rw_100_141 rfl (s_r1 (pc := 143) rw_100_143 (A := r77.toInt) rfl (by omega) ?_)
        have c_90 : M87.2.1 1 10 = (M83.2.1 1 10) := (W_n W86 (fun z => absurd z.1 (by decide)) rfl)
        have t_91 : (M87.2.1 1 10).toInt = (M83.2.1 1 10).toInt := congrArg Int32.toInt c_90
        have c_92 : M87.2.1 1 11 = (M83.2.1 1 11) := (W_n W86 (fun z => absurd z.1 (by decide)) rfl)
        have t_93 : (M87.2.1 1 11).toInt = (M83.2.1 1 11).toInt := congrArg Int32.toInt c_92
        exact h r77 M87 hG88 F89 (by omega) (by omega) (by omega)
      · refine to_an (pc := 42) rw_100_42 rfl (to_c (pc := 43) rw_100_43 (x := (2 : Int32)) rfl rfl (s_v (pc := 44) rw_100_44 (by omega) (ls0 := [.ref 1, .int (2 : Int32)]) rfl (Nat.le_of_ble_eq_true rfl) (Nat.le_of_ble_eq_true rfl) rfl (to_rc rfl rfl rfl (g_o hG rfl)) rfl (to_an (pc := 0) rw_84_0 rfl (to_in (pc := 1) rw_84_1 rfl (s_pI (pc := 2) rw_84_2 hG rfl (fun M95 W94 => ?_))))))
        have hG96 := g_wf hG W94 rfl rfl (by decide)
        have F97 := FR.w F0 W94 (show 1 = 1 ∧ 5 ≤ 10 ∨ 3 ≤ 1 ∧ 1 ≤ 5 ∨ 28 ≤ 1 ∧ 1 ≤ 35 by decide)
        refine to_an (pc := 5) rw_84_5 rfl (to_an (pc := 6) rw_84_6 rfl ?_)
        have c_98 : M95.2.1 1 9 = (M.2.1 1 9) := (W_n W94 (by decide) rfl)
        refine tt_gI (pc := 7) rw_84_7 (g_o hG96 rfl) (v := (M.2.1 1 9)) c_98 (s_pI (pc := 10) rw_84_10 hG96 rfl (fun M100 W99 => ?_))
        have hG101 := g_wf hG96 W99 rfl rfl (by decide)
        have F102 := FR.w F97 W99 (show 1 = 1 ∧ 5 ≤ 11 ∨ 3 ≤ 1 ∧ 1 ≤ 5 ∨ 28 ≤ 1 ∧ 1 ≤ 35 by decide)
        refine to_c (pc := 13) rw_84_13 (x := (0 : Int32)) rfl rfl (s_r1 (pc := 14) rw_84_14 (A := 0) rfl (by decide) (s_r1 (pc := 47) rw_100_47 (A := 0) rfl (by decide) ?_))
        have k_103 : (0 : Int32).toInt = 0 := rfl
        have c_104 : M100.2.1 1 10 = (2 : Int32) := (W_n W99 (by decide) (W_e W94))
        have k_105 : (2 : Int32).toInt = 2 := rfl
        have t_106 : (M100.2.1 1 10).toInt = (2 : Int32).toInt := congrArg Int32.toInt c_104
        have c_107 : M100.2.1 1 11 = (M.2.1 1 9) := (W_e W99)
        have t_108 : (M100.2.1 1 11).toInt = (M.2.1 1 9).toInt := congrArg Int32.toInt c_107
        exact h (0 : Int32) M100 hG101 F102 (by decide) (by decide) (by omega)
    · refine to_i (pc := 20) rw_100_20 rfl (to_c (pc := 22) rw_100_22 (x := (40936896 : Int32)) rfl rfl (b_ceq (pc := 24) rw_100_24 (A := (M.2.1 1 8).toInt) (B := 40936896) rfl rfl (fun h109 => ?_) (fun h109 => ?_)))
      · refine to_an (pc := 33) rw_100_33 rfl ?_
        have b_110 := g_b hG (a := 28) (i := 7) (lo := 0) (hi := 40) rfl rfl
        refine tt_gI (pc := 34) rw_100_34 (g_o hG rfl) (v := (M.2.1 28 7)) rfl (to_c (pc := 37) rw_100_37 (x := (40 : Int32)) rfl rfl (b_clt (pc := 39) rw_100_39 (A := (M.2.1 28 7).toInt) (B := 40) rfl rfl (fun h111 => ?_) (fun h111 => ?_)))
        · refine to_an (pc := 48) rw_100_48 rfl (tt_gI (pc := 49) rw_100_49 (g_o hG rfl) (v := (M.2.1 28 7)) rfl (to_is (pc := 52) rw_100_52 (ls2 := [.ref 28, .ref 1, .ref p, .ref 11, .int o, .int (M.2.1 1 8), .int (M.2.1 28 7), .null]) rfl rfl (to_an (pc := 54) rw_100_54 rfl (to_dupr (pc := 55) rw_100_55 (tt_gI (pc := 56) rw_100_56 (g_o hG rfl) (v := (M.2.1 28 7)) rfl (to_c (pc := 59) rw_100_59 (x := (1 : Int32)) rfl rfl (s_add (pc := 60) rw_100_60 (A := (M.2.1 28 7).toInt) (B := 1) rfl rfl (by omega) (fun v112 e113 => s_pI (pc := 61) rw_100_61 hG rfl (fun M115 W114 => ?_)))))))))
          have hG116 := g_w hG W114 (A := v112.toInt) rfl (lo := 0) (hi := 40) rfl rfl (by omega) (by decide)
          have F117 := FR.w F0 W114 (show 28 = 1 ∧ 5 ≤ 7 ∨ 3 ≤ 28 ∧ 28 ≤ 5 ∨ 28 ≤ 28 ∧ 28 ≤ 35 by decide)
          refine to_an (pc := 64) rw_100_64 rfl (s_gR (pc := 65) rw_100_65 hG116 rfl (v := 29) rfl (to_i (pc := 68) rw_100_68 rfl (to_i (pc := 70) rw_100_70 rfl (s_ias (pc := 72) rw_100_72 hG116 rfl (n := 40) rfl (A := (M.2.1 28 7).toInt) rfl (by omega) (by omega) (fun M119 W118 => ?_)))))
          have hG120 := g_wf hG116 W118 rfl rfl (by decide)
          have F121 := FR.w F117 W118 (show 29 = 1 ∧ 5 ≤ ((M.2.1 28 7).toInt).toNat ∨ 3 ≤ 29 ∧ 29 ≤ 5 ∨ 28 ≤ 29 ∧ 29 ≤ 35 by omega)
          refine to_an (pc := 73) rw_100_73 rfl (s_v (pc := 74) rw_100_74 (by omega) (ls0 := [.ref 1]) rfl (Nat.le_of_ble_eq_true rfl) (Nat.le_of_ble_eq_true rfl) rfl (to_rc rfl rfl rfl (g_o hG120 rfl)) rfl ?_)
          have c_122 : M119.2.1 1 10 = (M.2.1 1 10) := (W_n W118 (fun z => absurd z.1 (by decide)) (W_n W114 (by decide) rfl))
          have t_123 : (M119.2.1 1 10).toInt = (M.2.1 1 10).toInt := congrArg Int32.toInt c_122
          have c_124 : M119.2.1 1 11 = (M.2.1 1 11) := (W_n W118 (fun z => absurd z.1 (by decide)) (W_n W114 (by decide) rfl))
          have t_125 : (M119.2.1 1 11).toInt = (M.2.1 1 11).toInt := congrArg Int32.toInt c_124
          refine C_83 hX (by omega) hG120  (fun M129 hG127 F126 p_128 => ?_)
          have F130 := FR.c F121 F126 tg_234
          refine to_i (pc := 77) rw_100_77 rfl (to_c (pc := 79) rw_100_79 (x := (538561536 : Int32)) rfl rfl (b_cne_t (pc := 81) rw_100_81 (A := (M.2.1 1 8).toInt) (B := 538561536) rfl rfl (by omega) (to_i (pc := 98) rw_100_98 rfl (to_c (pc := 100) rw_100_100 (x := (351582208 : Int32)) rfl rfl (b_cne_t (pc := 102) rw_100_102 (A := (M.2.1 1 8).toInt) (B := 351582208) rfl rfl (by omega) (to_an (pc := 117) rw_100_117 rfl (to_an (pc := 118) rw_100_118 rfl (to_an (pc := 119) rw_100_119 rfl (to_an (pc := 120) rw_100_120 rfl (to_i (pc := 121) rw_100_121 rfl (to_i (pc := 123) rw_100_123 rfl ?_)))))))))))
          refine s_v (pc := 125) rw_100_125 (by omega) (ls0 := [.ref 28, .ref 1, .ref p, .ref 11, .int o, .int (M.2.1 28 7)]) rfl (Nat.le_of_ble_eq_true rfl) (Nat.le_of_ble_eq_true rfl) rfl (to_rc rfl rfl rfl (g_o hG127 rfl)) rfl (C_105 hX (by omega) hG127 hp (by omega) (by omega) (by omega) (by omega) hr (p := p) (o := o) (s := (M.2.1 28 7)) (fun r131 M137 hG133 F132 p_134 p_135 p_136 => ?_))
          have F138 := FR.c F130 F132 tg_235
          refine to_is (pc := 128) rw_100_128 (ls2 := [.ref 28, .ref 1, .ref p, .ref 11, .int o, .int (M.2.1 1 8), .int (M.2.1 28 7), .int r131]) rfl rfl (to_an (pc := 130) rw_100_130 rfl (s_gR (pc := 131) rw_100_131 hG133 rfl (v := 35) rfl (to_i (pc := 134) rw_100_134 rfl (to_an (pc := 136) rw_100_136 rfl ?_))))
          have b_139 := g_b hG133 (a := 28) (i := 7) (lo := 0) (hi := 40) rfl rfl
          refine tt_gI (pc := 137) rw_100_137 (g_o hG133 rfl) (v := (M137.2.1 28 7)) rfl (s_ias (pc := 140) rw_100_140 hG133 rfl (n := 40) rfl (A := (M.2.1 28 7).toInt) rfl (by omega) (by omega) (fun M141 W140 => ?_))
          have hG142 := g_w hG133 W140 (A := (M137.2.1 28 7).toInt) rfl (lo := 0) (hi := 40) rfl rfl (by omega) (by decide)
          have F143 := FR.w F138 W140 (show 35 = 1 ∧ 5 ≤ ((M.2.1 28 7).toInt).toNat ∨ 3 ≤ 35 ∧ 35 ≤ 5 ∨ 28 ≤ 35 ∧ 35 ≤ 35 by omega)
          refine to_i (pc := 141) rw_100_141 rfl (s_r1 (pc := 143) rw_100_143 (A := r131.toInt) rfl (by omega) ?_)
          have c_144 : M141.2.1 1 10 = (M137.2.1 1 10) := (W_n W140 (fun z => absurd z.1 (by decide)) rfl)
          have t_145 : (M141.2.1 1 10).toInt = (M137.2.1 1 10).toInt := congrArg Int32.toInt c_144
          have c_146 : M141.2.1 1 11 = (M137.2.1 1 11) := (W_n W140 (fun z => absurd z.1 (by decide)) rfl)
          have t_147 : (M141.2.1 1 11).toInt = (M137.2.1 1 11).toInt := congrArg Int32.toInt c_146
          exact h r131 M141 hG142 F143 (by omega) (by omega) (by omega)
        · refine to_an (pc := 42) rw_100_42 rfl (to_c (pc := 43) rw_100_43 (x := (2 : Int32)) rfl rfl (s_v (pc := 44) rw_100_44 (by omega) (ls0 := [.ref 1, .int (2 : Int32)]) rfl (Nat.le_of_ble_eq_true rfl) (Nat.le_of_ble_eq_true rfl) rfl (to_rc rfl rfl rfl (g_o hG rfl)) rfl (to_an (pc := 0) rw_84_0 rfl (to_in (pc := 1) rw_84_1 rfl (s_pI (pc := 2) rw_84_2 hG rfl (fun M149 W148 => ?_))))))
          have hG150 := g_wf hG W148 rfl rfl (by decide)
          have F151 := FR.w F0 W148 (show 1 = 1 ∧ 5 ≤ 10 ∨ 3 ≤ 1 ∧ 1 ≤ 5 ∨ 28 ≤ 1 ∧ 1 ≤ 35 by decide)
          refine to_an (pc := 5) rw_84_5 rfl (to_an (pc := 6) rw_84_6 rfl ?_)
          have c_152 : M149.2.1 1 9 = (M.2.1 1 9) := (W_n W148 (by decide) rfl)
          refine tt_gI (pc := 7) rw_84_7 (g_o hG150 rfl) (v := (M.2.1 1 9)) c_152 (s_pI (pc := 10) rw_84_10 hG150 rfl (fun M154 W153 => ?_))
          have hG155 := g_wf hG150 W153 rfl rfl (by decide)
          have F156 := FR.w F151 W153 (show 1 = 1 ∧ 5 ≤ 11 ∨ 3 ≤ 1 ∧ 1 ≤ 5 ∨ 28 ≤ 1 ∧ 1 ≤ 35 by decide)
          refine to_c (pc := 13) rw_84_13 (x := (0 : Int32)) rfl rfl (s_r1 (pc := 14) rw_84_14 (A := 0) rfl (by decide) (s_r1 (pc := 47) rw_100_47 (A := 0) rfl (by decide) ?_))
          have k_157 : (0 : Int32).toInt = 0 := rfl
          have c_158 : M154.2.1 1 10 = (2 : Int32) := (W_n W153 (by decide) (W_e W148))
          have k_159 : (2 : Int32).toInt = 2 := rfl
          have t_160 : (M154.2.1 1 10).toInt = (2 : Int32).toInt := congrArg Int32.toInt c_158
          have c_161 : M154.2.1 1 11 = (M.2.1 1 9) := (W_e W153)
          have t_162 : (M154.2.1 1 11).toInt = (M.2.1 1 9).toInt := congrArg Int32.toInt c_161
          exact h (0 : Int32) M154 hG155 F156 (by decide) (by decide) (by omega)
      · refine to_an (pc := 27) rw_100_27 rfl (to_c (pc := 28) rw_100_28 (x := (1 : Int32)) rfl rfl (s_v (pc := 29) rw_100_29 (by omega) (ls0 := [.ref 1, .int (1 : Int32)]) rfl (Nat.le_of_ble_eq_true rfl) (Nat.le_of_ble_eq_true rfl) rfl (to_rc rfl rfl rfl (g_o hG rfl)) rfl (to_an (pc := 0) rw_84_0 rfl (to_in (pc := 1) rw_84_1 rfl (s_pI (pc := 2) rw_84_2 hG rfl (fun M164 W163 => ?_))))))
        have hG165 := g_wf hG W163 rfl rfl (by decide)
        have F166 := FR.w F0 W163 (show 1 = 1 ∧ 5 ≤ 10 ∨ 3 ≤ 1 ∧ 1 ≤ 5 ∨ 28 ≤ 1 ∧ 1 ≤ 35 by decide)
        refine to_an (pc := 5) rw_84_5 rfl (to_an (pc := 6) rw_84_6 rfl ?_)
        have c_167 : M164.2.1 1 9 = (M.2.1 1 9) := (W_n W163 (by decide) rfl)
        refine tt_gI (pc := 7) rw_84_7 (g_o hG165 rfl) (v := (M.2.1 1 9)) c_167 (s_pI (pc := 10) rw_84_10 hG165 rfl (fun M169 W168 => ?_))
        have hG170 := g_wf hG165 W168 rfl rfl (by decide)
        have F171 := FR.w F166 W168 (show 1 = 1 ∧ 5 ≤ 11 ∨ 3 ≤ 1 ∧ 1 ≤ 5 ∨ 28 ≤ 1 ∧ 1 ≤ 35 by decide)
        refine to_c (pc := 13) rw_84_13 (x := (0 : Int32)) rfl rfl (s_r1 (pc := 14) rw_84_14 (A := 0) rfl (by decide) (s_r1 (pc := 32) rw_100_32 (A := 0) rfl (by decide) ?_))
        have k_172 : (0 : Int32).toInt = 0 := rfl
        have c_173 : M169.2.1 1 10 = (1 : Int32) := (W_n W168 (by decide) (W_e W163))
        have k_174 : (1 : Int32).toInt = 1 := rfl
        have t_175 : (M169.2.1 1 10).toInt = (1 : Int32).toInt := congrArg Int32.toInt c_173
        have c_176 : M169.2.1 1 11 = (M.2.1 1 9) := (W_e W168)
        have t_177 : (M169.2.1 1 11).toInt = (M.2.1 1 9).toInt := congrArg Int32.toInt c_176
        exact h (0 : Int32) M169 hG170 F171 (by decide) (by decide) (by omega)
set_option maxRecDepth 4000 in
set_option maxHeartbeats 0 in
theorem T_99_0 {X : mm_X} {d : Nat} {M : mm_M} {Q : Option Value → mm_M → Prop} {p : Nat} {o : Int32} (hX : g_X X) (hd : 5 + 3 * (5 - o.toInt) ≤ (d : Int)) (hp : p = 49 ∨ p = 58) (q1 : 0 ≤ o.toInt) (q2 : o.toInt ≤ 5) (hr : RC_99 (5 - o.toInt)) (h : ∀ (r : Int32) (M1 : mm_M), g_G M1 → FR md_wt M M1 → (0 ≤ r.toInt) → (r.toInt ≤ 1) → (r.toInt = 1 → (M1.2.1 1 10).toInt = (M.2.1 1 10).toInt ∧ (M1.2.1 1 11).toInt = (M.2.1 1 11).toInt) → Q (some (.int r)) M1) : ∀ nn9 : Nat, (∀ (N : mm_M) (x5 : Int32), g_G N → FR md_wt M N → (0 ≤ x5.toInt) → (x5.toInt ≤ 41) → (o.toInt = o.toInt) → ((N.2.1 1 10).toInt = (M.2.1 1 10).toInt ∧ (N.2.1 1 11).toInt = (M.2.1 1 11).toInt) → 41 - x5.toInt < (nn9 : Int) → mm_T X d 99 3 [.ref 28, .ref 1, .ref p, .ref 11, .int o, .int x5] [] N Q) := by
  intro nn9
  induction nn9 with
  | zero =>
    intro N x5 hG F0 g1 g2 g3 g4 hm
    exfalso; omega
  | succ nn9 ih =>
    intro N x5 hG F0 g1 g2 g3 g4 hm
    refine to_i (pc := 3) rw_99_3 rfl (to_c (pc := 5) rw_99_5 (x := (40 : Int32)) rfl rfl (b_cgt (pc := 7) rw_99_7 (A := x5.toInt) (B := 40) rfl rfl (fun h1 => ?_) (fun h1 => ?_)))
    · refine to_c (pc := 38) rw_99_38 (x := (1 : Int32)) rfl rfl (s_r1 (pc := 39) rw_99_39 (A := 1) rfl (by decide) ?_)
      have k_2 : (1 : Int32).toInt = 1 := rfl
      exact h (1 : Int32) N hG F0 (by decide) (by decide) (by omega)
    · refine to_an (pc := 10) rw_99_10 rfl (tt_gI (pc := 11) rw_99_11 (g_o hG rfl) (v := (N.2.1 1 7)) rfl (to_c (pc := 14) rw_99_14 (x := (4 : Int32)) rfl rfl (b_cne (pc := 15) rw_99_15 (A := (N.2.1 1 7).toInt) (B := 4) rfl rfl (fun h3 => ?_) (fun h3 => ?_))))
      · refine to_c (pc := 38) rw_99_38 (x := (1 : Int32)) rfl rfl (s_r1 (pc := 39) rw_99_39 (A := 1) rfl (by decide) ?_)
        have k_4 : (1 : Int32).toInt = 1 := rfl
        exact h (1 : Int32) N hG F0 (by decide) (by decide) (by omega)
      · refine to_an (pc := 18) rw_99_18 rfl (to_an (pc := 19) rw_99_19 rfl (to_an (pc := 20) rw_99_20 rfl (to_an (pc := 21) rw_99_21 rfl (to_i (pc := 22) rw_99_22 rfl (s_v (pc := 24) rw_99_24 (by omega) (ls0 := [.ref 28, .ref 1, .ref p, .ref 11, .int o, .null, .null, .null]) rfl (Nat.le_of_ble_eq_true rfl) (Nat.le_of_ble_eq_true rfl) rfl (to_rc rfl rfl rfl (g_o hG rfl)) rfl (C_100 hX (by omega) hG hp (by omega) (by omega) hr (p := p) (o := o) (fun r5 M11 hG7 F6 p_8 p_9 p_10 => ?_)))))))
        have F12 := FR.c F0 F6 tg_235
        refine b_ine (pc := 27) rw_99_27 (A := r5.toInt) rfl (fun h13 => ?_) (fun h13 => ?_)
        · refine s_inc (pc := 32) rw_99_32 (ls2 := fun v => [.ref 28, .ref 1, .ref p, .ref 11, .int o, .int v]) rfl rfl (fun _ => rfl) (A := x5.toInt) (B := 1) rfl rfl (by omega) (fun v14 e15 => to_go (pc := 35) rw_99_35 ?_)
          exact ih M11 v14 hG7 F12 (by omega) (by omega) (by omega) (by omega) (by omega)
        · refine to_c (pc := 30) rw_99_30 (x := (0 : Int32)) rfl rfl (s_r1 (pc := 31) rw_99_31 (A := 0) rfl (by decide) ?_)
          have k_16 : (0 : Int32).toInt = 0 := rfl
          exact h (0 : Int32) M11 hG7 F12 (by decide) (by decide) (by omega)
set_option maxRecDepth 4000 in
set_option maxHeartbeats 0 in
theorem B_99 {X : mm_X} {d : Nat} {M : mm_M} {Q : Option Value → mm_M → Prop} {p : Nat} {o : Int32} (hX : g_X X) (hd : 5 + 3 * (5 - o.toInt) ≤ (d : Int)) (hG : g_G M) (hp : p = 49 ∨ p = 58) (q1 : 0 ≤ o.toInt) (q2 : o.toInt ≤ 5) (hr : RC_99 (5 - o.toInt)) (h : ∀ (r : Int32) (M1 : mm_M), g_G M1 → FR md_wt M M1 → (0 ≤ r.toInt) → (r.toInt ≤ 1) → (r.toInt = 1 → (M1.2.1 1 10).toInt = (M.2.1 1 10).toInt ∧ (M1.2.1 1 11).toInt = (M.2.1 1 11).toInt) → Q (some (.int r)) M1) : mm_T X d 99 0 [.ref 28, .ref 1, .ref p, .ref 11, .int o, .null] [] M Q := by
  have F0 : FR md_wt M M := FR.rf
  refine to_c (pc := 0) rw_99_0 (x := (0 : Int32)) rfl rfl (to_is (pc := 1) rw_99_1 (ls2 := [.ref 28, .ref 1, .ref p, .ref 11, .int o, .int (0 : Int32)]) rfl rfl ?_)
  have k_17 : (0 : Int32).toInt = 0 := rfl
  exact (T_99_0 (p := p) (o := o) hX hd hp q1 q2 hr h ((41 - (0 : Int32).toInt).toNat + 1)) M (0 : Int32) hG F0 (by omega) (by omega) (by omega) (by omega) (by omega)
theorem RC_99_all : ∀ nn : Nat, RC_99 (nn : Int) := by
  intro nn
  induction nn with
  | zero =>
    intro X d M Q p o hX hd hG hp q1 q2 hm h
    exfalso; omega
  | succ nn ih =>
    intro X d M Q p o hX hd hG hp q1 q2 hm h
    exact B_99 hX hd hG hp q1 q2 (fun X2 d2 M2 Q2 p2 o2 e71 e72 e73 hp2 q12 q22 hm2 h2 => ih X2 d2 M2 Q2 p2 o2 e71 e72 e73 hp2 q12 q22 (by omega) h2) h
theorem C_99 {X : mm_X} {d : Nat} {M : mm_M} {Q : Option Value → mm_M → Prop} {p : Nat} {o : Int32} (hX : g_X X) (hd : 5 + 3 * (5 - o.toInt) ≤ (d : Int)) (hG : g_G M) (hp : p = 49 ∨ p = 58) (q1 : 0 ≤ o.toInt) (q2 : o.toInt ≤ 5) (h : ∀ (r : Int32) (M1 : mm_M), g_G M1 → FR md_wt M M1 → (0 ≤ r.toInt) → (r.toInt ≤ 1) → (r.toInt = 1 → (M1.2.1 1 10).toInt = (M.2.1 1 10).toInt ∧ (M1.2.1 1 11).toInt = (M.2.1 1 11).toInt) → Q (some (.int r)) M1) : mm_T X d 99 0 [.ref 28, .ref 1, .ref p, .ref 11, .int o, .null] [] M Q := RC_99_all ((5 - o.toInt).toNat + 1) X d M Q p o hX hd hG hp q1 q2 (by omega) h
set_option maxRecDepth 4000 in
set_option maxHeartbeats 0 in
theorem C_98 {X : mm_X} {d : Nat} {M : mm_M} {Q : Option Value → mm_M → Prop} {p : Nat} (hX : g_X X) (hd : 21 ≤ d) (hG : g_G M) (hp : p = 49 ∨ p = 58) (h : ∀ (r : Int32) (M1 : mm_M), g_G M1 → FR md_wt M M1 → (0 ≤ r.toInt) → (r.toInt ≤ 1) → (r.toInt = 1 → (M1.2.1 1 10).toInt = (M.2.1 1 10).toInt ∧ (M1.2.1 1 11).toInt = (M.2.1 1 11).toInt) → Q (some (.int r)) M1) : mm_T X d 98 0 [.ref 28, .ref 1, .ref p, .ref 11] [] M Q := by
  have F0 : FR md_wt M M := FR.rf
  refine to_an (pc := 0) rw_98_0 rfl (to_c (pc := 1) rw_98_1 (x := (0 : Int32)) rfl rfl (s_pI (pc := 2) rw_98_2 hG rfl (fun M2 W1 => ?_)))
  have hG3 := g_w hG W1 (A := 0) rfl (lo := 0) (hi := 40) rfl rfl (by omega) (by decide)
  have F4 := FR.w F0 W1 (show 28 = 1 ∧ 5 ≤ 7 ∨ 3 ≤ 28 ∧ 28 ≤ 5 ∨ 28 ≤ 28 ∧ 28 ≤ 35 by decide)
  refine to_an (pc := 5) rw_98_5 rfl (to_an (pc := 6) rw_98_6 rfl (to_an (pc := 7) rw_98_7 rfl (to_an (pc := 8) rw_98_8 rfl (to_c (pc := 9) rw_98_9 (x := (0 : Int32)) rfl rfl (s_v (pc := 10) rw_98_10 (dp0 hd (by decide)) (ls0 := [.ref 28, .ref 1, .ref p, .ref 11, .int (0 : Int32), .null]) rfl (Nat.le_of_ble_eq_true rfl) (Nat.le_of_ble_eq_true rfl) rfl (to_rc rfl rfl rfl (g_o hG3 rfl)) rfl ?_)))))
  have k_5 : (0 : Int32).toInt = 0 := rfl
  have c_6 : M2.2.1 1 10 = (M.2.1 1 10) := (W_n W1 (by decide) rfl)
  have t_7 : (M2.2.1 1 10).toInt = (M.2.1 1 10).toInt := congrArg Int32.toInt c_6
  have c_8 : M2.2.1 1 11 = (M.2.1 1 11) := (W_n W1 (by decide) rfl)
  have t_9 : (M2.2.1 1 11).toInt = (M.2.1 1 11).toInt := congrArg Int32.toInt c_8
  refine C_99 hX (by omega) hG3 hp (by omega) (by omega) (p := p) (o := (0 : Int32)) (fun r10 M16 hG12 F11 p_13 p_14 p_15 => ?_)
  have F17 := FR.c F4 F11 tg_235
  refine b_ieq (pc := 13) rw_98_13 (A := r10.toInt) rfl (fun h18 => ?_) (fun h18 => ?_)
  · refine to_c (pc := 27) rw_98_27 (x := (0 : Int32)) rfl rfl (s_r1 (pc := 28) rw_98_28 (A := 0) rfl (by decide) ?_)
    exact h (0 : Int32) M16 hG12 F17 (by decide) (by decide) (by omega)
  · refine to_an (pc := 16) rw_98_16 rfl (s_v (pc := 17) rw_98_17 (dp0 hd (by decide)) (ls0 := [.ref 1]) rfl (Nat.le_of_ble_eq_true rfl) (Nat.le_of_ble_eq_true rfl) rfl (to_rc rfl rfl rfl (g_o hG12 rfl)) rfl (to_an (pc := 0) rw_87_0 rfl (tt_gI (pc := 1) rw_87_1 (g_o hG12 rfl) (v := (M16.2.1 1 7)) rfl (b_ieq (pc := 4) rw_87_4 (A := (M16.2.1 1 7).toInt) rfl (fun h19 => ?_) (fun h19 => ?_)))))
    · refine to_c (pc := 15) rw_87_15 (x := (1 : Int32)) rfl rfl (to_go (pc := 16) rw_87_16 (s_r1 (pc := 20) rw_87_20 (A := 1) rfl (by decide) (b_ieq_f (pc := 20) rw_98_20 (A := 1) rfl (by decide) (to_c (pc := 23) rw_98_23 (x := (1 : Int32)) rfl rfl (to_go (pc := 24) rw_98_24 (s_r1 (pc := 28) rw_98_28 (A := 1) rfl (by decide) ?_))))))
      have k_20 : (1 : Int32).toInt = 1 := rfl
      exact h (1 : Int32) M16 hG12 F17 (by decide) (by decide) (by omega)
    · refine to_an (pc := 7) rw_87_7 rfl (to_c (pc := 8) rw_87_8 (x := (1 : Int32)) rfl rfl (s_v (pc := 9) rw_87_9 (dp1 hd (by decide)) (ls0 := [.ref 1, .int (1 : Int32)]) rfl (Nat.le_of_ble_eq_true rfl) (Nat.le_of_ble_eq_true rfl) rfl (to_rc rfl rfl rfl (g_o hG12 rfl)) rfl (to_an (pc := 0) rw_84_0 rfl (to_in (pc := 1) rw_84_1 rfl (s_pI (pc := 2) rw_84_2 hG12 rfl (fun M22 W21 => ?_))))))
      have hG23 := g_wf hG12 W21 rfl rfl (by decide)
      have F24 := FR.w F17 W21 (show 1 = 1 ∧ 5 ≤ 10 ∨ 3 ≤ 1 ∧ 1 ≤ 5 ∨ 28 ≤ 1 ∧ 1 ≤ 35 by decide)
      refine to_an (pc := 5) rw_84_5 rfl (to_an (pc := 6) rw_84_6 rfl ?_)
      have c_25 : M22.2.1 1 9 = (M16.2.1 1 9) := (W_n W21 (by decide) rfl)
      refine tt_gI (pc := 7) rw_84_7 (g_o hG23 rfl) (v := (M16.2.1 1 9)) c_25 (s_pI (pc := 10) rw_84_10 hG23 rfl (fun M27 W26 => ?_))
      have hG28 := g_wf hG23 W26 rfl rfl (by decide)
      have F29 := FR.w F24 W26 (show 1 = 1 ∧ 5 ≤ 11 ∨ 3 ≤ 1 ∧ 1 ≤ 5 ∨ 28 ≤ 1 ∧ 1 ≤ 35 by decide)
      refine to_c (pc := 13) rw_84_13 (x := (0 : Int32)) rfl rfl (s_r1 (pc := 14) rw_84_14 (A := 0) rfl (by decide) (b_ieq_t (pc := 12) rw_87_12 (A := 0) rfl (by decide) (to_c (pc := 19) rw_87_19 (x := (0 : Int32)) rfl rfl (s_r1 (pc := 20) rw_87_20 (A := 0) rfl (by decide) (b_ieq_t (pc := 20) rw_98_20 (A := 0) rfl (by decide) (to_c (pc := 27) rw_98_27 (x := (0 : Int32)) rfl rfl (s_r1 (pc := 28) rw_98_28 (A := 0) rfl (by decide) ?_)))))))
      have c_30 : M27.2.1 1 10 = (1 : Int32) := (W_n W26 (by decide) (W_e W21))
      have k_31 : (1 : Int32).toInt = 1 := rfl
      have t_32 : (M27.2.1 1 10).toInt = (1 : Int32).toInt := congrArg Int32.toInt c_30
      have c_33 : M27.2.1 1 11 = (M16.2.1 1 9) := (W_e W26)
      have t_34 : (M27.2.1 1 11).toInt = (M16.2.1 1 9).toInt := congrArg Int32.toInt c_33
      exact h (0 : Int32) M27 hG28 F29 (by decide) (by decide) (by omega)
noncomputable def RC_107 (k : Int) : Prop := ∀ (X : mm_X) (d : Nat) (M : mm_M) (Q : Option Value → mm_M → Prop) (f : Int32) (t : Int32) (o : Int32), g_X X → (3 + 2 * (6 - o.toInt) ≤ (d : Int)) → g_G M → (0 ≤ f.toInt) → (f.toInt ≤ 40) → (0 ≤ o.toInt) → (o.toInt ≤ 6) → 6 - o.toInt < k → (∀ (M1 : mm_M), g_G M1 → FR md_w M M1 → Q (none) M1) → mm_T X d 107 0 [.ref 28, .ref 17, .int f, .int t, .int o, .null] [] M Q
set_option maxRecDepth 4000 in
set_option maxHeartbeats 0 in
theorem T_108_0 {X : mm_X} {d : Nat} {M : mm_M} {Q : Option Value → mm_M → Prop} {s : Int32} {o : Int32} (hX : g_X X) (hd : 2 + 2 * (6 - o.toInt) ≤ (d : Int)) (q1 : 0 ≤ s.toInt) (q2 : s.toInt ≤ 39) (q3 : 0 ≤ o.toInt) (q4 : o.toInt ≤ 5) (hr : RC_107 (6 - o.toInt)) (h : ∀ (M1 : mm_M), g_G M1 → FR md_w M M1 → Q (none) M1) : ∀ nn9 : Nat, (∀ (N : mm_M) (x4 : Int32), g_G N → FR md_w M N → (0 ≤ x4.toInt) → (x4.toInt ≤ 99) → (0 ≤ s.toInt) → (s.toInt ≤ 39) → (o.toInt = o.toInt) → (0 ≤ o.toInt) → (o.toInt ≤ 5) → 99 - x4.toInt < (nn9 : Int) → mm_T X d 108 92 [.ref 28, .ref 17, .int s, .int o, .int x4] [] N Q) := by
  intro nn9
  induction nn9 with
  | zero =>
    intro N x4 hG F0 g1 g2 g3 g4 g5 g6 g7 hm
    exfalso; omega
  | succ nn9 ih =>
    intro N x4 hG F0 g1 g2 g3 g4 g5 g6 g7 hm
    refine to_i (pc := 92) rw_108_92 rfl (to_an (pc := 94) rw_108_94 rfl (s_gR (pc := 95) rw_108_95 hG rfl (v := 34) rfl (to_in (pc := 98) rw_108_98 rfl (s_ial (pc := 99) rw_108_99 hG rfl (n := 40) rfl rfl (A := s.toInt) rfl (by omega) (by omega) (lo := 0) (hi := 99) rfl rfl (fun v1 w_2 _ _ => b_cge (pc := 100) rw_108_100 (A := x4.toInt) (B := v1.toInt) rfl rfl (fun h3 => ?_) (fun h3 => ?_))))))
    · refine to_rv (pc := 133) rw_108_133 ?_
      exact h N hG F0 
    · refine to_an (pc := 103) rw_108_103 rfl ?_
      have b_4 := g_b hG (a := 28) (i := 10) (lo := 0) (hi := 1) rfl rfl
      refine tt_gZ (pc := 104) rw_108_104 (g_o hG rfl) (v := (N.2.1 28 10)) rfl (b_ine (pc := 107) rw_108_107 (A := (N.2.1 28 10).toInt) rfl (fun h5 => ?_) (fun h5 => ?_))
      · refine to_rv (pc := 133) rw_108_133 ?_
        exact h N hG F0 
      · refine to_an (pc := 110) rw_108_110 rfl (to_an (pc := 111) rw_108_111 rfl (to_in (pc := 112) rw_108_112 rfl (to_c (pc := 113) rw_108_113 (x := (1 : Int32)) rfl rfl (s_add (pc := 114) rw_108_114 (A := s.toInt) (B := 1) rfl rfl (by omega) (fun v6 e7 => to_an (pc := 115) rw_108_115 rfl (s_gR (pc := 116) rw_108_116 hG rfl (v := 35) rfl (to_in (pc := 119) rw_108_119 rfl (s_ial (pc := 120) rw_108_120 hG rfl (n := 40) rfl rfl (A := s.toInt) rfl (by omega) (by omega) (lo := 0) (hi := 40) rfl rfl (fun v8 w_9 _ _ => to_in (pc := 121) rw_108_121 rfl (to_c (pc := 122) rw_108_122 (x := (1 : Int32)) rfl rfl (s_add (pc := 123) rw_108_123 (A := o.toInt) (B := 1) rfl rfl (by omega) (fun v10 e11 => ?_))))))))))))
        refine s_v (pc := 124) rw_108_124 (by omega) (ls0 := [.ref 28, .ref 17, .int v6, .int v8, .int v10, .null]) rfl (Nat.le_of_ble_eq_true rfl) (Nat.le_of_ble_eq_true rfl) rfl (to_rc rfl rfl rfl (g_o hG rfl)) rfl (hr X _ _ _ v6 v8 v10 hX (by omega) hG (by omega) (by omega) (by omega) (by omega) (by omega) (fun M14 hG13 F12 => ?_))
        have F15 := FR.c F0 F12 tg_237
        refine s_inc (pc := 127) rw_108_127 (ls2 := fun v => [.ref 28, .ref 17, .int s, .int o, .int v]) rfl rfl (fun _ => rfl) (A := x4.toInt) (B := 1) rfl rfl (by omega) (fun v16 e17 => to_go (pc := 130) rw_108_130 ?_)
        exact ih M14 v16 hG13 F15 (by omega) (by omega) (by omega) (by omega) (by omega) (by omega) (by omega) (by omega)
set_option maxRecDepth 4000 in
set_option maxHeartbeats 0 in
theorem C_108 {X : mm_X} {d : Nat} {M : mm_M} {Q : Option Value → mm_M → Prop} {s : Int32} {o : Int32} (hX : g_X X) (hd : 2 + 2 * (6 - o.toInt) ≤ (d : Int)) (hG : g_G M) (q1 : 0 ≤ s.toInt) (q2 : s.toInt ≤ 39) (q3 : 0 ≤ o.toInt) (q4 : o.toInt ≤ 5) (hr : RC_107 (6 - o.toInt)) (h : ∀ (M1 : mm_M), g_G M1 → FR md_w M M1 → Q (none) M1) : mm_T X d 108 0 [.ref 28, .ref 17, .int s, .int o, .null] [] M Q := by
  have F0 : FR md_w M M := FR.rf
  refine to_an (pc := 0) rw_108_0 rfl (s_gR (pc := 1) rw_108_1 hG rfl (v := 29) rfl (to_in (pc := 4) rw_108_4 rfl (s_ial (pc := 5) rw_108_5 hG rfl (n := 40) rfl rfl (A := s.toInt) rfl (by omega) (by omega) (lo := -2147483648) (hi := 2147483647) rfl rfl (fun v18 w_19 _ _ => to_c (pc := 6) rw_108_6 (x := (538561536 : Int32)) rfl rfl (b_cne (pc := 8) rw_108_8 (A := v18.toInt) (B := 538561536) rfl rfl (fun h20 => ?_) (fun h20 => ?_))))))
  · refine to_an (pc := 52) rw_108_52 rfl (s_gR (pc := 53) rw_108_53 hG rfl (v := 29) rfl (to_in (pc := 56) rw_108_56 rfl (s_ialk (pc := 57) rw_108_57 hG rfl (n := 40) rfl rfl (A := s.toInt) rfl (by omega) (by omega) (v := v18) w_19 (to_c (pc := 58) rw_108_58 (x := (351582208 : Int32)) rfl rfl (b_cne (pc := 60) rw_108_60 (A := v18.toInt) (B := 351582208) rfl rfl (fun h23 => ?_) (fun h23 => ?_))))))
    · refine to_c (pc := 89) rw_108_89 (x := (0 : Int32)) rfl rfl (to_is (pc := 90) rw_108_90 (ls2 := [.ref 28, .ref 17, .int s, .int o, .int (0 : Int32)]) rfl rfl ?_)
      have k_24 : (0 : Int32).toInt = 0 := rfl
      exact (T_108_0 (s := s) (o := o) hX hd q1 q2 q3 q4 hr h ((99 - (0 : Int32).toInt).toNat + 1)) M (0 : Int32) hG F0 (by omega) (by omega) (by omega) (by omega) (by omega) (by omega) (by omega) (by omega)
    · refine to_an (pc := 63) rw_108_63 rfl (to_an (pc := 64) rw_108_64 rfl (s_gR (pc := 65) rw_108_65 hG rfl (v := 30) rfl (to_in (pc := 68) rw_108_68 rfl (s_ial (pc := 69) rw_108_69 hG rfl (n := 40) rfl rfl (A := s.toInt) rfl (by omega) (by omega) (lo := 0) (hi := 5) rfl rfl (fun v25 w_26 _ _ => to_an (pc := 70) rw_108_70 rfl (s_gR (pc := 71) rw_108_71 hG rfl (v := 31) rfl (to_in (pc := 74) rw_108_74 rfl (s_ial (pc := 75) rw_108_75 hG rfl (n := 40) rfl rfl (A := s.toInt) rfl (by omega) (by omega) (lo := 0) (hi := 5) rfl rfl (fun v27 w_28 _ _ => to_an (pc := 76) rw_108_76 rfl (s_gR (pc := 77) rw_108_77 hG rfl (v := 31) rfl (to_in (pc := 80) rw_108_80 rfl ?_)))))))))))
      refine s_ialk (pc := 81) rw_108_81 hG rfl (n := 40) rfl rfl (A := s.toInt) rfl (by omega) (by omega) (v := v27) w_28 (s_cl (pc := 82) rw_108_82 rfl (fun l31 => s_v (pc := 83) rw_108_83 (by omega) (ls0 := [.ref 17, .int v25, .int v27, .int v27, .long l31, .null, .null, .null]) rfl (Nat.le_of_ble_eq_true rfl) (Nat.le_of_ble_eq_true rfl) rfl (to_rc rfl rfl rfl (g_o hG rfl)) rfl (C_28 hX (by omega) hG (by omega) (by omega) (by omega) (by omega) (by omega) (by omega) (f := v25) (a := v27) (b := v27) (x := l31) (fun M34 hG33 F32 => ?_))))
      have F35 := FR.c F0 F32 tg_238
      refine to_go (pc := 86) rw_108_86 (to_rv (pc := 133) rw_108_133 ?_)
      exact h M34 hG33 F35 
  · refine to_an (pc := 11) rw_108_11 rfl (to_dupr (pc := 12) rw_108_12 (tt_gI (pc := 13) rw_108_13 (g_o hG rfl) (v := (M.2.1 28 9)) rfl (to_c (pc := 16) rw_108_16 (x := (1 : Int32)) rfl rfl (s_any (pc := 17) rw_108_17 (fun _ _ => rfl) (fun v36 => s_pI (pc := 18) rw_108_18 hG rfl (fun M38 W37 => ?_))))))
    have hG39 := g_wf hG W37 rfl rfl (by decide)
    have F40 := FR.w F0 W37 (show 18 ≤ 28 ∧ 28 ≤ 35 by decide)
    refine to_an (pc := 21) rw_108_21 rfl (to_an (pc := 22) rw_108_22 rfl (s_gR (pc := 23) rw_108_23 hG39 rfl (v := 30) rfl (to_in (pc := 26) rw_108_26 rfl (s_ial (pc := 27) rw_108_27 hG39 rfl (n := 40) rfl rfl (A := s.toInt) rfl (by omega) (by omega) (lo := 0) (hi := 5) rfl rfl (fun v41 w_42 _ _ => to_an (pc := 28) rw_108_28 rfl (s_gR (pc := 29) rw_108_29 hG39 rfl (v := 31) rfl (to_in (pc := 32) rw_108_32 rfl (s_ial (pc := 33) rw_108_33 hG39 rfl (n := 40) rfl rfl (A := s.toInt) rfl (by omega) (by omega) (lo := 0) (hi := 5) rfl rfl (fun v43 w_44 _ _ => to_an (pc := 34) rw_108_34 rfl (s_gR (pc := 35) rw_108_35 hG39 rfl (v := 32) rfl (to_in (pc := 38) rw_108_38 rfl ?_)))))))))))
    refine s_ial (pc := 39) rw_108_39 hG39 rfl (n := 40) rfl rfl (A := s.toInt) rfl (by omega) (by omega) (lo := 0) (hi := 5) rfl rfl (fun v45 w_46 _ _ => to_an (pc := 40) rw_108_40 rfl (s_gR (pc := 41) rw_108_41 hG39 rfl (v := 33) rfl (to_in (pc := 44) rw_108_44 rfl (s_lal (pc := 45) rw_108_45 hG39 rfl (n := 40) rfl (A := s.toInt) rfl (by omega) (by omega) (fun l47 => s_v (pc := 46) rw_108_46 (by omega) (ls0 := [.ref 17, .int v41, .int v43, .int v45, .long l47, .null, .null, .null]) rfl (Nat.le_of_ble_eq_true rfl) (Nat.le_of_ble_eq_true rfl) rfl (to_rc rfl rfl rfl (g_o hG39 rfl)) rfl (C_28 hX (by omega) hG39 (by omega) (by omega) (by omega) (by omega) (by omega) (by omega) (f := v41) (a := v43) (b := v45) (x := l47) (fun M50 hG49 F48 => ?_)))))))
    have F51 := FR.c F40 F48 tg_238
    refine to_go (pc := 49) rw_108_49 (to_rv (pc := 133) rw_108_133 ?_)
    exact h M50 hG49 F51 
set_option maxRecDepth 4000 in
set_option maxHeartbeats 0 in
theorem T_107_0 {X : mm_X} {d : Nat} {M : mm_M} {Q : Option Value → mm_M → Prop} {f : Int32} {t : Int32} {o : Int32} (hX : g_X X) (hd : 3 + 2 * (6 - o.toInt) ≤ (d : Int)) (q1 : 0 ≤ f.toInt) (q2 : f.toInt ≤ 40) (q3 : 0 ≤ o.toInt) (q4 : o.toInt ≤ 6) (hr : RC_107 (6 - o.toInt)) (h : ∀ (M1 : mm_M), g_G M1 → FR md_w M M1 → Q (none) M1) : ∀ nn9 : Nat, (∀ (N : mm_M) (u2 : Value) (x5 : Int32), g_G N → FR md_w M N → (0 ≤ x5.toInt) → (x5.toInt ≤ 40) → (o.toInt = o.toInt) → (0 ≤ o.toInt) → (o.toInt ≤ 5) → 40 - x5.toInt < (nn9 : Int) → mm_T X d 107 10 [.ref 28, .ref 17, u2, .int t, .int o, .int x5] [] N Q) := by
  intro nn9
  induction nn9 with
  | zero =>
    intro N u2 x5 hG F0 g1 g2 g3 g4 g5 hm
    exfalso; omega
  | succ nn9 ih =>
    intro N u2 x5 hG F0 g1 g2 g3 g4 g5 hm
    refine to_i (pc := 10) rw_107_10 rfl (to_in (pc := 12) rw_107_12 rfl (b_cge (pc := 13) rw_107_13 (A := x5.toInt) (B := t.toInt) rfl rfl (fun h1 => ?_) (fun h1 => ?_)))
    · refine to_rv (pc := 86) rw_107_86 ?_
      exact h N hG F0 
    · refine to_i (pc := 16) rw_107_16 rfl (to_c (pc := 18) rw_107_18 (x := (40 : Int32)) rfl rfl (b_cge (pc := 20) rw_107_20 (A := x5.toInt) (B := 40) rfl rfl (fun h2 => ?_) (fun h2 => ?_)))
      · refine to_rv (pc := 86) rw_107_86 ?_
        exact h N hG F0 
      · refine to_an (pc := 23) rw_107_23 rfl ?_
        have b_3 := g_b hG (a := 28) (i := 10) (lo := 0) (hi := 1) rfl rfl
        refine tt_gZ (pc := 24) rw_107_24 (g_o hG rfl) (v := (N.2.1 28 10)) rfl (b_ine (pc := 27) rw_107_27 (A := (N.2.1 28 10).toInt) rfl (fun h4 => ?_) (fun h4 => ?_))
        · refine to_rv (pc := 86) rw_107_86 ?_
          exact h N hG F0 
        · refine to_an (pc := 30) rw_107_30 rfl ?_
          have b_5 := g_b hG (a := 28) (i := 8) (lo := 0) (hi := 3000) rfl rfl
          refine tt_gI (pc := 31) rw_107_31 (g_o hG rfl) (v := (N.2.1 28 8)) rfl (to_c (pc := 34) rw_107_34 (x := (3000 : Int32)) rfl rfl (b_clt (pc := 37) rw_107_37 (A := (N.2.1 28 8).toInt) (B := 3000) rfl rfl (fun h6 => ?_) (fun h6 => ?_)))
          · refine to_an (pc := 48) rw_107_48 rfl (to_dupr (pc := 49) rw_107_49 (tt_gI (pc := 50) rw_107_50 (g_o hG rfl) (v := (N.2.1 28 8)) rfl (to_c (pc := 53) rw_107_53 (x := (1 : Int32)) rfl rfl (s_add (pc := 54) rw_107_54 (A := (N.2.1 28 8).toInt) (B := 1) rfl rfl (by omega) (fun v7 e8 => s_pI (pc := 55) rw_107_55 hG rfl (fun M10 W9 => ?_))))))
            have hG11 := g_w hG W9 (A := v7.toInt) rfl (lo := 0) (hi := 3000) rfl rfl (by omega) (by decide)
            have F12 := FR.w F0 W9 (show 18 ≤ 28 ∧ 28 ≤ 35 by decide)
            refine to_an (pc := 58) rw_107_58 rfl (to_an (pc := 59) rw_107_59 rfl (to_i (pc := 60) rw_107_60 rfl (to_i (pc := 62) rw_107_62 rfl (s_v (pc := 64) rw_107_64 (by omega) (ls0 := [.ref 28, .ref 17, .int x5, .int o, .null]) rfl (Nat.le_of_ble_eq_true rfl) (Nat.le_of_ble_eq_true rfl) rfl (to_rc rfl rfl rfl (g_o hG11 rfl)) rfl (C_108 hX (by omega) hG11 (by omega) (by omega) (by omega) (by omega) hr (s := x5) (o := o) (fun M15 hG14 F13 => ?_))))))
            have F16 := FR.c F12 F13 tg_237
            refine to_i (pc := 67) rw_107_67 rfl (to_c (pc := 69) rw_107_69 (x := (1 : Int32)) rfl rfl (s_add (pc := 70) rw_107_70 (A := x5.toInt) (B := 1) rfl rfl (by omega) (fun v17 e18 => to_an (pc := 71) rw_107_71 rfl (s_gR (pc := 72) rw_107_72 hG14 rfl (v := 35) rfl (to_i (pc := 75) rw_107_75 rfl (s_ial (pc := 77) rw_107_77 hG14 rfl (n := 40) rfl rfl (A := x5.toInt) rfl (by omega) (by omega) (lo := 0) (hi := 40) rfl rfl (fun v19 w_20 _ _ => s_max (pc := 78) rw_107_78 rfl (A := v17.toInt) (B := v19.toInt) rfl rfl (fun v21 _ _ _ => to_is (pc := 81) rw_107_81 (ls2 := [.ref 28, .ref 17, u2, .int t, .int o, .int v21]) rfl rfl (to_go (pc := 83) rw_107_83 ?_)))))))))
            exact ih M15 (u2) v21 hG14 F16 (by omega) (by omega) (by omega) (by omega) (by omega) (by omega)
          · refine to_an (pc := 40) rw_107_40 rfl (to_c (pc := 41) rw_107_41 (x := (1 : Int32)) rfl rfl (s_pZ (pc := 42) rw_107_42 hG rfl (A := 1) rfl (by omega) (fun M23 W22 => ?_)))
            have hG24 := g_w hG W22 (A := 1) rfl (lo := 0) (hi := 1) rfl rfl (by omega) (by decide)
            have F25 := FR.w F0 W22 (show 18 ≤ 28 ∧ 28 ≤ 35 by decide)
            refine to_go (pc := 45) rw_107_45 (to_i (pc := 67) rw_107_67 rfl (to_c (pc := 69) rw_107_69 (x := (1 : Int32)) rfl rfl (s_add (pc := 70) rw_107_70 (A := x5.toInt) (B := 1) rfl rfl (by omega) (fun v26 e27 => to_an (pc := 71) rw_107_71 rfl (s_gR (pc := 72) rw_107_72 hG24 rfl (v := 35) rfl (to_i (pc := 75) rw_107_75 rfl (s_ial (pc := 77) rw_107_77 hG24 rfl (n := 40) rfl rfl (A := x5.toInt) rfl (by omega) (by omega) (lo := 0) (hi := 40) rfl rfl (fun v28 w_29 _ _ => s_max (pc := 78) rw_107_78 rfl (A := v26.toInt) (B := v28.toInt) rfl rfl (fun v30 _ _ _ => to_is (pc := 81) rw_107_81 (ls2 := [.ref 28, .ref 17, u2, .int t, .int o, .int v30]) rfl rfl (to_go (pc := 83) rw_107_83 ?_))))))))))
            exact ih M23 (u2) v30 hG24 F25 (by omega) (by omega) (by omega) (by omega) (by omega) (by omega)
set_option maxRecDepth 4000 in
set_option maxHeartbeats 0 in
theorem B_107 {X : mm_X} {d : Nat} {M : mm_M} {Q : Option Value → mm_M → Prop} {f : Int32} {t : Int32} {o : Int32} (hX : g_X X) (hd : 3 + 2 * (6 - o.toInt) ≤ (d : Int)) (hG : g_G M) (q1 : 0 ≤ f.toInt) (q2 : f.toInt ≤ 40) (q3 : 0 ≤ o.toInt) (q4 : o.toInt ≤ 6) (hr : RC_107 (6 - o.toInt)) (h : ∀ (M1 : mm_M), g_G M1 → FR md_w M M1 → Q (none) M1) : mm_T X d 107 0 [.ref 28, .ref 17, .int f, .int t, .int o, .null] [] M Q := by
  have F0 : FR md_w M M := FR.rf
  refine to_i (pc := 0) rw_107_0 rfl (to_c (pc := 2) rw_107_2 (x := (5 : Int32)) rfl rfl (b_cle (pc := 3) rw_107_3 (A := o.toInt) (B := 5) rfl rfl (fun h31 => ?_) (fun h31 => ?_)))
  · refine to_in (pc := 7) rw_107_7 rfl (to_is (pc := 8) rw_107_8 (ls2 := [.ref 28, .ref 17, .int f, .int t, .int o, .int f]) rfl rfl ?_)
    exact (T_107_0 (f := f) (t := t) (o := o) hX hd q1 q2 q3 q4 hr h ((40 - f.toInt).toNat + 1)) M (.int f) f hG F0 (by omega) (by omega) (by omega) (by omega) (by omega) (by omega)
  · refine to_rv (pc := 6) rw_107_6 ?_
    exact h M hG F0 
theorem RC_107_all : ∀ nn : Nat, RC_107 (nn : Int) := by
  intro nn
  induction nn with
  | zero =>
    intro X d M Q f t o hX hd hG q1 q2 q3 q4 hm h
    exfalso; omega
  | succ nn ih =>
    intro X d M Q f t o hX hd hG q1 q2 q3 q4 hm h
    exact B_107 hX hd hG q1 q2 q3 q4 (fun X2 d2 M2 Q2 f2 t2 o2 e71 e72 e73 q12 q22 q32 q42 hm2 h2 => ih X2 d2 M2 Q2 f2 t2 o2 e71 e72 e73 q12 q22 q32 q42 (by omega) h2) h
theorem C_107 {X : mm_X} {d : Nat} {M : mm_M} {Q : Option Value → mm_M → Prop} {f : Int32} {t : Int32} {o : Int32} (hX : g_X X) (hd : 3 + 2 * (6 - o.toInt) ≤ (d : Int)) (hG : g_G M) (q1 : 0 ≤ f.toInt) (q2 : f.toInt ≤ 40) (q3 : 0 ≤ o.toInt) (q4 : o.toInt ≤ 6) (h : ∀ (M1 : mm_M), g_G M1 → FR md_w M M1 → Q (none) M1) : mm_T X d 107 0 [.ref 28, .ref 17, .int f, .int t, .int o, .null] [] M Q := RC_107_all ((6 - o.toInt).toNat + 1) X d M Q f t o hX hd hG q1 q2 q3 q4 (by omega) h
set_option maxRecDepth 4000 in
set_option maxHeartbeats 0 in
theorem C_106 {X : mm_X} {d : Nat} {M : mm_M} {Q : Option Value → mm_M → Prop} (hX : g_X X) (hd : 16 ≤ d) (hG : g_G M) (h : ∀ (r : Int32) (M1 : mm_M), g_G M1 → FR md_w M M1 → (0 ≤ r.toInt) → (r.toInt ≤ 1) → Q (some (.int r)) M1) : mm_T X d 106 0 [.ref 28, .ref 17] [] M Q := by
  have F0 : FR md_w M M := FR.rf
  refine to_an (pc := 0) rw_106_0 rfl (to_c (pc := 1) rw_106_1 (x := (0 : Int32)) rfl rfl (s_pI (pc := 2) rw_106_2 hG rfl (fun M2 W1 => ?_)))
  have hG3 := g_w hG W1 (A := 0) rfl (lo := 0) (hi := 3000) rfl rfl (by omega) (by decide)
  have F4 := FR.w F0 W1 (show 18 ≤ 28 ∧ 28 ≤ 35 by decide)
  refine to_an (pc := 5) rw_106_5 rfl (to_c (pc := 6) rw_106_6 (x := (0 : Int32)) rfl rfl (s_pI (pc := 7) rw_106_7 hG3 rfl (fun M6 W5 => ?_)))
  have hG7 := g_wf hG3 W5 rfl rfl (by decide)
  have F8 := FR.w F4 W5 (show 18 ≤ 28 ∧ 28 ≤ 35 by decide)
  refine to_an (pc := 10) rw_106_10 rfl (to_c (pc := 11) rw_106_11 (x := (0 : Int32)) rfl rfl (s_pZ (pc := 12) rw_106_12 hG7 rfl (A := 0) rfl (by omega) (fun M10 W9 => ?_)))
  have hG11 := g_w hG7 W9 (A := 0) rfl (lo := 0) (hi := 1) rfl rfl (by omega) (by decide)
  have F12 := FR.w F8 W9 (show 18 ≤ 28 ∧ 28 ≤ 35 by decide)
  refine to_an (pc := 15) rw_106_15 rfl (to_an (pc := 16) rw_106_16 rfl (to_c (pc := 17) rw_106_17 (x := (0 : Int32)) rfl rfl (to_an (pc := 18) rw_106_18 rfl ?_)))
  have c_13 : M10.2.1 28 7 = (M.2.1 28 7) := (W_n W9 (by decide) (W_n W5 (by decide) (W_n W1 (by decide) rfl)))
  have b_14 := g_b hG (a := 28) (i := 7) (lo := 0) (hi := 40) rfl rfl
  refine tt_gI (pc := 19) rw_106_19 (g_o hG11 rfl) (v := (M.2.1 28 7)) c_13 (to_c (pc := 22) rw_106_22 (x := (0 : Int32)) rfl rfl (s_v (pc := 23) rw_106_23 (dp0 hd (by decide)) (ls0 := [.ref 28, .ref 17, .int (0 : Int32), .int (M.2.1 28 7), .int (0 : Int32), .null]) rfl (Nat.le_of_ble_eq_true rfl) (Nat.le_of_ble_eq_true rfl) rfl (to_rc rfl rfl rfl (g_o hG11 rfl)) rfl ?_))
  have k_15 : (0 : Int32).toInt = 0 := rfl
  refine C_107 hX (by omega) hG11 (by omega) (by omega) (by omega) (by omega) (f := (0 : Int32)) (t := (M.2.1 28 7)) (o := (0 : Int32)) (fun M18 hG17 F16 => ?_)
  have F19 := FR.c F12 F16 tg_237
  refine to_an (pc := 26) rw_106_26 rfl ?_
  have b_20 := g_b hG17 (a := 28) (i := 10) (lo := 0) (hi := 1) rfl rfl
  refine tt_gZ (pc := 27) rw_106_27 (g_o hG17 rfl) (v := (M18.2.1 28 10)) rfl (b_ine (pc := 30) rw_106_30 (A := (M18.2.1 28 10).toInt) rfl (fun h21 => ?_) (fun h21 => ?_))
  · refine to_c (pc := 37) rw_106_37 (x := (0 : Int32)) rfl rfl (s_r1 (pc := 38) rw_106_38 (A := 0) rfl (by decide) ?_)
    exact h (0 : Int32) M18 hG17 F19 (by decide) (by decide)
  · refine to_c (pc := 33) rw_106_33 (x := (1 : Int32)) rfl rfl (to_go (pc := 34) rw_106_34 (s_r1 (pc := 38) rw_106_38 (A := 1) rfl (by decide) ?_))
    have k_22 : (1 : Int32).toInt = 1 := rfl
    exact h (1 : Int32) M18 hG17 F19 (by decide) (by decide)
