theorem tg_229 : ∀ a i : Nat, (a = 1 ∧ 5 ≤ i ∨ 3 ≤ a ∧ a ≤ 5) → (a = 1 ∧ 5 ≤ i ∨ 3 ≤ a ∧ a ≤ 5 ∨ 29 ≤ a ∧ a ≤ 35) := fun a i z => by omega
theorem tg_230 : ∀ a i : Nat, (a = 1 ∧ 5 ≤ i ∨ 3 ≤ a ∧ a ≤ 5) → (a = 1 ∧ 5 ≤ i ∨ 3 ≤ a ∧ a ≤ 5 ∨ a = 33) := fun a i z => by omega
theorem tg_231 : ∀ a i : Nat, (a < 0) → (a = 1 ∧ 5 ≤ i ∨ 3 ≤ a ∧ a ≤ 5 ∨ a = 33) := fun a i z => by omega
theorem tg_232 : ∀ a i : Nat, (a = 1 ∧ 5 ≤ i ∨ 3 ≤ a ∧ a ≤ 5 ∨ a = 33) → (a = 1 ∧ 5 ≤ i ∨ 3 ≤ a ∧ a ≤ 5 ∨ 29 ≤ a ∧ a ≤ 35) := fun a i z => by omega
theorem tg_233 : ∀ a i : Nat, (a = 1 ∧ 5 ≤ i ∨ 3 ≤ a ∧ a ≤ 5 ∨ 29 ≤ a ∧ a ≤ 35) → (a = 1 ∧ 5 ≤ i ∨ 3 ≤ a ∧ a ≤ 5 ∨ 29 ≤ a ∧ a ≤ 35) := fun a i z => by omega
theorem tg_234 : ∀ a i : Nat, (a = 1 ∧ 5 ≤ i ∨ 3 ≤ a ∧ a ≤ 5) → (a = 1 ∧ 5 ≤ i ∨ 3 ≤ a ∧ a ≤ 5 ∨ 28 ≤ a ∧ a ≤ 35) := fun a i z => by omega
theorem tg_235 : ∀ a i : Nat, (a = 1 ∧ 5 ≤ i ∨ 3 ≤ a ∧ a ≤ 5 ∨ 28 ≤ a ∧ a ≤ 35) → (a = 1 ∧ 5 ≤ i ∨ 3 ≤ a ∧ a ≤ 5 ∨ 28 ≤ a ∧ a ≤ 35) := fun a i z => by omega
theorem tg_236 : ∀ a i : Nat, (a = 1 ∧ 5 ≤ i ∨ 3 ≤ a ∧ a ≤ 5 ∨ 29 ≤ a ∧ a ≤ 35) → (a = 1 ∧ 5 ≤ i ∨ 3 ≤ a ∧ a ≤ 5 ∨ 28 ≤ a ∧ a ≤ 35) := fun a i z => by omega
theorem tg_237 : ∀ a i : Nat, (18 ≤ a ∧ a ≤ 35) → (18 ≤ a ∧ a ≤ 35) := fun a i z => by omega
theorem tg_238 : ∀ a i : Nat, (18 ≤ a ∧ a ≤ 27) → (18 ≤ a ∧ a ≤ 35) := fun a i z => by omega
set_option maxRecDepth 4000 in
set_option maxHeartbeats 0 in
theorem C_102 {X : mm_X} {d : Nat} {M : mm_M} {Q : Option Value → mm_M → Prop} {w : Nat} {s : Int32} (hX : g_X X) (hd : 1 ≤ d) (hG : g_G M) (hw : w = 30 ∨ w = 31 ∨ w = 32) (q1 : 0 ≤ s.toInt) (q2 : s.toInt ≤ 39) (h : ∀ (r : Int32) (M1 : mm_M), g_G M1 → FR md_wr M M1 → (0 ≤ r.toInt) → (r.toInt ≤ 1) → (r.toInt = 1 → (M1.2.1 1 10).toInt = (M.2.1 1 10).toInt ∧ (M1.2.1 1 11).toInt = (M.2.1 1 11).toInt) → Q (some (.int r)) M1) : mm_T X d 102 0 [.ref 28, .ref 1, .ref w, .int s, .null] [] M Q := by
  have F0 : FR md_wr M M := FR.rf
  refine to_an (pc := 0) rw_102_0 rfl (tt_gI (pc := 1) rw_102_1 (g_o hG rfl) (v := (M.2.1 1 7)) rfl (to_c (pc := 4) rw_102_4 (x := (3 : Int32)) rfl rfl (b_cne (pc := 5) rw_102_5 (A := (M.2.1 1 7).toInt) (B := 3) rfl rfl (fun h1 => ?_) (fun h1 => ?_))))
  · refine to_c (pc := 18) rw_102_18 (x := (0 : Int32)) rfl rfl (to_is (pc := 19) rw_102_19 (ls2 := [.ref 28, .ref 1, .ref w, .int s, .int (0 : Int32)]) rfl rfl (to_i (pc := 21) rw_102_21 rfl (to_c (pc := 23) rw_102_23 (x := (1 : Int32)) rfl rfl (b_clt_t (pc := 24) rw_102_24 (A := 0) (B := 1) rfl rfl (by decide) (to_an (pc := 46) rw_102_46 rfl (to_c (pc := 47) rw_102_47 (x := (1 : Int32)) rfl rfl (s_v (pc := 48) rw_102_48 (dp0 hd (by decide)) (ls0 := [.ref 1, .int (1 : Int32)]) rfl (Nat.le_of_ble_eq_true rfl) (Nat.le_of_ble_eq_true rfl) rfl (to_rc rfl rfl rfl (g_o hG rfl)) rfl (to_an (pc := 0) rw_84_0 rfl (to_in (pc := 1) rw_84_1 rfl (s_pI (pc := 2) rw_84_2 hG rfl (fun M3 W2 => ?_)))))))))))
    have hG4 := g_wf hG W2 rfl rfl (by decide)
    have F5 := FR.w F0 W2 (show 1 = 1 ∧ 5 ≤ 10 ∨ 3 ≤ 1 ∧ 1 ≤ 5 ∨ 29 ≤ 1 ∧ 1 ≤ 35 by decide)
    refine to_an (pc := 5) rw_84_5 rfl (to_an (pc := 6) rw_84_6 rfl ?_)
    have c_6 : M3.2.1 1 9 = (M.2.1 1 9) := (W_n W2 (by decide) rfl)
    refine tt_gI (pc := 7) rw_84_7 (g_o hG4 rfl) (v := (M.2.1 1 9)) c_6 (s_pI (pc := 10) rw_84_10 hG4 rfl (fun M8 W7 => ?_))
    have hG9 := g_wf hG4 W7 rfl rfl (by decide)
    have F10 := FR.w F5 W7 (show 1 = 1 ∧ 5 ≤ 11 ∨ 3 ≤ 1 ∧ 1 ≤ 5 ∨ 29 ≤ 1 ∧ 1 ≤ 35 by decide)
    refine to_c (pc := 13) rw_84_13 (x := (0 : Int32)) rfl rfl (s_r1 (pc := 14) rw_84_14 (A := 0) rfl (by decide) (s_r1 (pc := 51) rw_102_51 (A := 0) rfl (by decide) ?_))
    have k_11 : (0 : Int32).toInt = 0 := rfl
    have c_12 : M8.2.1 1 10 = (1 : Int32) := (W_n W7 (by decide) (W_e W2))
    have k_13 : (1 : Int32).toInt = 1 := rfl
    have t_14 : (M8.2.1 1 10).toInt = (1 : Int32).toInt := congrArg Int32.toInt c_12
    have c_15 : M8.2.1 1 11 = (M.2.1 1 9) := (W_e W7)
    have t_16 : (M8.2.1 1 11).toInt = (M.2.1 1 9).toInt := congrArg Int32.toInt c_15
    exact h (0 : Int32) M8 hG9 F10 (by decide) (by decide) (by omega)
  · refine to_an (pc := 8) rw_102_8 rfl (tt_gI (pc := 9) rw_102_9 (g_o hG rfl) (v := (M.2.1 1 8)) rfl (to_c (pc := 12) rw_102_12 (x := (25 : Int32)) rfl rfl (s_any (pc := 14) rw_102_14 (fun _ _ => rfl) (fun v17 => to_go (pc := 15) rw_102_15 (to_is (pc := 19) rw_102_19 (ls2 := [.ref 28, .ref 1, .ref w, .int s, .int v17]) rfl rfl (to_i (pc := 21) rw_102_21 rfl (to_c (pc := 23) rw_102_23 (x := (1 : Int32)) rfl rfl (b_clt (pc := 24) rw_102_24 (A := v17.toInt) (B := 1) rfl rfl (fun h18 => ?_) (fun h18 => ?_)))))))))
    · refine to_an (pc := 46) rw_102_46 rfl (to_c (pc := 47) rw_102_47 (x := (1 : Int32)) rfl rfl (s_v (pc := 48) rw_102_48 (dp0 hd (by decide)) (ls0 := [.ref 1, .int (1 : Int32)]) rfl (Nat.le_of_ble_eq_true rfl) (Nat.le_of_ble_eq_true rfl) rfl (to_rc rfl rfl rfl (g_o hG rfl)) rfl (to_an (pc := 0) rw_84_0 rfl (to_in (pc := 1) rw_84_1 rfl (s_pI (pc := 2) rw_84_2 hG rfl (fun M20 W19 => ?_))))))
      have hG21 := g_wf hG W19 rfl rfl (by decide)
      have F22 := FR.w F0 W19 (show 1 = 1 ∧ 5 ≤ 10 ∨ 3 ≤ 1 ∧ 1 ≤ 5 ∨ 29 ≤ 1 ∧ 1 ≤ 35 by decide)
      refine to_an (pc := 5) rw_84_5 rfl (to_an (pc := 6) rw_84_6 rfl ?_)
      have c_23 : M20.2.1 1 9 = (M.2.1 1 9) := (W_n W19 (by decide) rfl)
      refine tt_gI (pc := 7) rw_84_7 (g_o hG21 rfl) (v := (M.2.1 1 9)) c_23 (s_pI (pc := 10) rw_84_10 hG21 rfl (fun M25 W24 => ?_))
      have hG26 := g_wf hG21 W24 rfl rfl (by decide)
      have F27 := FR.w F22 W24 (show 1 = 1 ∧ 5 ≤ 11 ∨ 3 ≤ 1 ∧ 1 ≤ 5 ∨ 29 ≤ 1 ∧ 1 ≤ 35 by decide)
      refine to_c (pc := 13) rw_84_13 (x := (0 : Int32)) rfl rfl (s_r1 (pc := 14) rw_84_14 (A := 0) rfl (by decide) (s_r1 (pc := 51) rw_102_51 (A := 0) rfl (by decide) ?_))
      have k_28 : (0 : Int32).toInt = 0 := rfl
      have c_29 : M25.2.1 1 10 = (1 : Int32) := (W_n W24 (by decide) (W_e W19))
      have k_30 : (1 : Int32).toInt = 1 := rfl
      have t_31 : (M25.2.1 1 10).toInt = (1 : Int32).toInt := congrArg Int32.toInt c_29
      have c_32 : M25.2.1 1 11 = (M.2.1 1 9) := (W_e W24)
      have t_33 : (M25.2.1 1 11).toInt = (M.2.1 1 9).toInt := congrArg Int32.toInt c_32
      exact h (0 : Int32) M25 hG26 F27 (by decide) (by decide) (by omega)
    · refine to_i (pc := 27) rw_102_27 rfl (to_c (pc := 29) rw_102_29 (x := (6 : Int32)) rfl rfl (b_cgt (pc := 31) rw_102_31 (A := v17.toInt) (B := 6) rfl rfl (fun h34 => ?_) (fun h34 => ?_)))
      · refine to_an (pc := 46) rw_102_46 rfl (to_c (pc := 47) rw_102_47 (x := (1 : Int32)) rfl rfl (s_v (pc := 48) rw_102_48 (dp0 hd (by decide)) (ls0 := [.ref 1, .int (1 : Int32)]) rfl (Nat.le_of_ble_eq_true rfl) (Nat.le_of_ble_eq_true rfl) rfl (to_rc rfl rfl rfl (g_o hG rfl)) rfl (to_an (pc := 0) rw_84_0 rfl (to_in (pc := 1) rw_84_1 rfl (s_pI (pc := 2) rw_84_2 hG rfl (fun M36 W35 => ?_))))))
        have hG37 := g_wf hG W35 rfl rfl (by decide)
        have F38 := FR.w F0 W35 (show 1 = 1 ∧ 5 ≤ 10 ∨ 3 ≤ 1 ∧ 1 ≤ 5 ∨ 29 ≤ 1 ∧ 1 ≤ 35 by decide)
        refine to_an (pc := 5) rw_84_5 rfl (to_an (pc := 6) rw_84_6 rfl ?_)
        have c_39 : M36.2.1 1 9 = (M.2.1 1 9) := (W_n W35 (by decide) rfl)
        refine tt_gI (pc := 7) rw_84_7 (g_o hG37 rfl) (v := (M.2.1 1 9)) c_39 (s_pI (pc := 10) rw_84_10 hG37 rfl (fun M41 W40 => ?_))
        have hG42 := g_wf hG37 W40 rfl rfl (by decide)
        have F43 := FR.w F38 W40 (show 1 = 1 ∧ 5 ≤ 11 ∨ 3 ≤ 1 ∧ 1 ≤ 5 ∨ 29 ≤ 1 ∧ 1 ≤ 35 by decide)
        refine to_c (pc := 13) rw_84_13 (x := (0 : Int32)) rfl rfl (s_r1 (pc := 14) rw_84_14 (A := 0) rfl (by decide) (s_r1 (pc := 51) rw_102_51 (A := 0) rfl (by decide) ?_))
        have k_44 : (0 : Int32).toInt = 0 := rfl
        have c_45 : M41.2.1 1 10 = (1 : Int32) := (W_n W40 (by decide) (W_e W35))
        have k_46 : (1 : Int32).toInt = 1 := rfl
        have t_47 : (M41.2.1 1 10).toInt = (1 : Int32).toInt := congrArg Int32.toInt c_45
        have c_48 : M41.2.1 1 11 = (M.2.1 1 9) := (W_e W40)
        have t_49 : (M41.2.1 1 11).toInt = (M.2.1 1 9).toInt := congrArg Int32.toInt c_48
        exact h (0 : Int32) M41 hG42 F43 (by decide) (by decide) (by omega)
      · refine to_an (pc := 34) rw_102_34 rfl (tt_gI (pc := 35) rw_102_35 (g_o hG rfl) (v := (M.2.1 1 8)) rfl (to_i (pc := 38) rw_102_38 rfl (to_c (pc := 40) rw_102_40 (x := (25 : Int32)) rfl rfl (s_any (pc := 42) rw_102_42 (fun _ _ => rfl) (fun v50 => b_ceq (pc := 43) rw_102_43 (A := (M.2.1 1 8).toInt) (B := v50.toInt) rfl rfl (fun h51 => ?_) (fun h51 => ?_))))))
        · refine to_an (pc := 52) rw_102_52 rfl (to_in (pc := 53) rw_102_53 rfl (to_i (pc := 54) rw_102_54 rfl (to_c (pc := 56) rw_102_56 (x := (1 : Int32)) rfl rfl (s_sub (pc := 57) rw_102_57 (A := v17.toInt) (B := 1) rfl rfl (by omega) (fun v52 e53 => s_ias (pc := 58) rw_102_58 hG (by rcases hw with rfl | rfl | rfl <;> rfl) (n := 40) (by rcases hw with rfl | rfl | rfl <;> rfl) (A := s.toInt) rfl (by omega) (by omega) (fun M55 W54 => ?_))))))
          have hG56 := g_w hG W54 (A := v52.toInt) rfl (lo := 0) (hi := 5) (by rcases hw with rfl | rfl | rfl <;> rfl) (by rcases hw with rfl | rfl | rfl <;> rfl) (by omega) (by omega)
          have F57 := FR.w F0 W54 (show w = 1 ∧ 5 ≤ (s.toInt).toNat ∨ 3 ≤ w ∧ w ≤ 5 ∨ 29 ≤ w ∧ w ≤ 35 by omega)
          refine to_an (pc := 59) rw_102_59 rfl (s_v (pc := 60) rw_102_60 (dp0 hd (by decide)) (ls0 := [.ref 1]) rfl (Nat.le_of_ble_eq_true rfl) (Nat.le_of_ble_eq_true rfl) rfl (to_rc rfl rfl rfl (g_o hG56 rfl)) rfl (C_83 hX (dp1 hd (by decide)) hG56  (fun M60 hG59 F58 => ?_)))
          have F61 := FR.c F57 F58 tg_229
          refine to_c (pc := 63) rw_102_63 (x := (1 : Int32)) rfl rfl (s_r1 (pc := 64) rw_102_64 (A := 1) rfl (by decide) ?_)
          have k_62 : (1 : Int32).toInt = 1 := rfl
          exact h (1 : Int32) M60 hG59 F61 (by decide) (by decide) (by omega)
        · refine to_an (pc := 46) rw_102_46 rfl (to_c (pc := 47) rw_102_47 (x := (1 : Int32)) rfl rfl (s_v (pc := 48) rw_102_48 (dp0 hd (by decide)) (ls0 := [.ref 1, .int (1 : Int32)]) rfl (Nat.le_of_ble_eq_true rfl) (Nat.le_of_ble_eq_true rfl) rfl (to_rc rfl rfl rfl (g_o hG rfl)) rfl (to_an (pc := 0) rw_84_0 rfl (to_in (pc := 1) rw_84_1 rfl (s_pI (pc := 2) rw_84_2 hG rfl (fun M64 W63 => ?_))))))
          have hG65 := g_wf hG W63 rfl rfl (by decide)
          have F66 := FR.w F0 W63 (show 1 = 1 ∧ 5 ≤ 10 ∨ 3 ≤ 1 ∧ 1 ≤ 5 ∨ 29 ≤ 1 ∧ 1 ≤ 35 by decide)
          refine to_an (pc := 5) rw_84_5 rfl (to_an (pc := 6) rw_84_6 rfl ?_)
          have c_67 : M64.2.1 1 9 = (M.2.1 1 9) := (W_n W63 (by decide) rfl)
          refine tt_gI (pc := 7) rw_84_7 (g_o hG65 rfl) (v := (M.2.1 1 9)) c_67 (s_pI (pc := 10) rw_84_10 hG65 rfl (fun M69 W68 => ?_))
          have hG70 := g_wf hG65 W68 rfl rfl (by decide)
          have F71 := FR.w F66 W68 (show 1 = 1 ∧ 5 ≤ 11 ∨ 3 ≤ 1 ∧ 1 ≤ 5 ∨ 29 ≤ 1 ∧ 1 ≤ 35 by decide)
          refine to_c (pc := 13) rw_84_13 (x := (0 : Int32)) rfl rfl (s_r1 (pc := 14) rw_84_14 (A := 0) rfl (by decide) (s_r1 (pc := 51) rw_102_51 (A := 0) rfl (by decide) ?_))
          have k_72 : (0 : Int32).toInt = 0 := rfl
          have c_73 : M69.2.1 1 10 = (1 : Int32) := (W_n W68 (by decide) (W_e W63))
          have k_74 : (1 : Int32).toInt = 1 := rfl
          have t_75 : (M69.2.1 1 10).toInt = (1 : Int32).toInt := congrArg Int32.toInt c_73
          have c_76 : M69.2.1 1 11 = (M.2.1 1 9) := (W_e W68)
          have t_77 : (M69.2.1 1 11).toInt = (M.2.1 1 9).toInt := congrArg Int32.toInt c_76
          exact h (0 : Int32) M69 hG70 F71 (by decide) (by decide) (by omega)
set_option maxRecDepth 4000 in
set_option maxHeartbeats 0 in
theorem C_103 {X : mm_X} {d : Nat} {M : mm_M} {Q : Option Value → mm_M → Prop} {p : Nat} {s : Int32} (hX : g_X X) (hd : 2 ≤ d) (hG : g_G M) (hp : p = 49 ∨ p = 58) (q1 : 0 ≤ s.toInt) (q2 : s.toInt ≤ 39) (h : ∀ (r : Int32) (M1 : mm_M), g_G M1 → FR md_t3 M M1 → (0 ≤ r.toInt) → (r.toInt ≤ 1) → (r.toInt = 1 → (M1.2.1 1 10).toInt = (M.2.1 1 10).toInt ∧ (M1.2.1 1 11).toInt = (M.2.1 1 11).toInt) → Q (some (.int r)) M1) : mm_T X d 103 0 [.ref 28, .ref 1, .ref p, .ref 11, .int s, .null, .null, .null, .null] [] M Q := by
  have F0 : FR md_t3 M M := FR.rf
  refine to_c (pc := 0) rw_103_0 (x := (0 : Int32)) rfl rfl (to_is (pc := 1) rw_103_1 (ls2 := [.ref 28, .ref 1, .ref p, .ref 11, .int s, .int (0 : Int32), .null, .null, .null]) rfl rfl (to_an (pc := 3) rw_103_3 rfl ?_))
  have b_1 := g_b hG (a := p) (i := 0) (lo := 10) (hi := 60) (by rcases hp with rfl | rfl <;> rfl) (by rcases hp with rfl | rfl <;> rfl)
  refine tt_gI (pc := 4) rw_103_4 (g_o hG (by rcases hp with rfl | rfl <;> rfl)) (v := (M.2.1 p 0)) rfl (to_c (pc := 7) rw_103_7 (x := (1 : Int32)) rfl rfl (s_sub (pc := 8) rw_103_8 (A := (M.2.1 p 0).toInt) (B := 1) rfl rfl (by omega) (fun v2 e3 => to_is (pc := 9) rw_103_9 (ls2 := [.ref 28, .ref 1, .ref p, .ref 11, .int s, .int (0 : Int32), .int v2, .null, .null]) rfl rfl (to_an (pc := 11) rw_103_11 rfl (tt_gI (pc := 12) rw_103_12 (g_o hG rfl) (v := (M.2.1 1 7)) rfl (to_c (pc := 15) rw_103_15 (x := (3 : Int32)) rfl rfl (b_cne (pc := 16) rw_103_16 (A := (M.2.1 1 7).toInt) (B := 3) rfl rfl (fun h4 => ?_) (fun h4 => ?_))))))))
  · refine to_an (pc := 109) rw_103_109 rfl (to_c (pc := 110) rw_103_110 (x := (0 : Int32)) rfl rfl (to_i (pc := 111) rw_103_111 rfl (s_v (pc := 113) rw_103_113 (dp0 hd (by decide)) (ls0 := [.ref 1, .int (0 : Int32), .int v2]) rfl (Nat.le_of_ble_eq_true rfl) (Nat.le_of_ble_eq_true rfl) rfl (to_rc rfl rfl rfl (g_o hG rfl)) rfl (to_an (pc := 0) rw_88_0 rfl (tt_gI (pc := 1) rw_88_1 (g_o hG rfl) (v := (M.2.1 1 7)) rfl (to_c (pc := 4) rw_88_4 (x := (2 : Int32)) rfl rfl (b_ceq (pc := 5) rw_88_5 (A := (M.2.1 1 7).toInt) (B := 2) rfl rfl (fun h5 => ?_) (fun h5 => ?_))))))))
    · refine to_an (pc := 14) rw_88_14 rfl (tt_gI (pc := 15) rw_88_15 (g_o hG rfl) (v := (M.2.1 1 8)) rfl (to_in (pc := 18) rw_88_18 rfl (b_clt (pc := 19) rw_88_19 (A := (M.2.1 1 8).toInt) (B := 0) rfl rfl (fun h6 => ?_) (fun h6 => ?_))))
      · refine to_an (pc := 30) rw_88_30 rfl (to_c (pc := 31) rw_88_31 (x := (2 : Int32)) rfl rfl (s_v (pc := 32) rw_88_32 (dp1 hd (by decide)) (ls0 := [.ref 1, .int (2 : Int32)]) rfl (Nat.le_of_ble_eq_true rfl) (Nat.le_of_ble_eq_true rfl) rfl (to_rc rfl rfl rfl (g_o hG rfl)) rfl (to_an (pc := 0) rw_84_0 rfl (to_in (pc := 1) rw_84_1 rfl (s_pI (pc := 2) rw_84_2 hG rfl (fun M8 W7 => ?_))))))
        have hG9 := g_wf hG W7 rfl rfl (by decide)
        have F10 := FR.w F0 W7 (show 1 = 1 ∧ 5 ≤ 10 ∨ 3 ≤ 1 ∧ 1 ≤ 5 ∨ 1 = 33 by decide)
        refine to_an (pc := 5) rw_84_5 rfl (to_an (pc := 6) rw_84_6 rfl ?_)
        have c_11 : M8.2.1 1 9 = (M.2.1 1 9) := (W_n W7 (by decide) rfl)
        refine tt_gI (pc := 7) rw_84_7 (g_o hG9 rfl) (v := (M.2.1 1 9)) c_11 (s_pI (pc := 10) rw_84_10 hG9 rfl (fun M13 W12 => ?_))
        have hG14 := g_wf hG9 W12 rfl rfl (by decide)
        have F15 := FR.w F10 W12 (show 1 = 1 ∧ 5 ≤ 11 ∨ 3 ≤ 1 ∧ 1 ≤ 5 ∨ 1 = 33 by decide)
        refine to_c (pc := 13) rw_84_13 (x := (0 : Int32)) rfl rfl (s_r1 (pc := 14) rw_84_14 (A := 0) rfl (by decide) (b_ieq_t (pc := 35) rw_88_35 (A := 0) rfl (by decide) (to_c (pc := 42) rw_88_42 (x := (0 : Int32)) rfl rfl (s_r1 (pc := 43) rw_88_43 (A := 0) rfl (by decide) (b_ine_f (pc := 116) rw_103_116 (A := 0) rfl (by decide) (to_c (pc := 119) rw_103_119 (x := (0 : Int32)) rfl rfl (s_r1 (pc := 120) rw_103_120 (A := 0) rfl (by decide) ?_)))))))
        have k_16 : (0 : Int32).toInt = 0 := rfl
        have c_17 : M13.2.1 1 10 = (2 : Int32) := (W_n W12 (by decide) (W_e W7))
        have k_18 : (2 : Int32).toInt = 2 := rfl
        have t_19 : (M13.2.1 1 10).toInt = (2 : Int32).toInt := congrArg Int32.toInt c_17
        have c_20 : M13.2.1 1 11 = (M.2.1 1 9) := (W_e W12)
        have t_21 : (M13.2.1 1 11).toInt = (M.2.1 1 9).toInt := congrArg Int32.toInt c_20
        exact h (0 : Int32) M13 hG14 F15 (by decide) (by decide) (by omega)
      · refine to_an (pc := 22) rw_88_22 rfl (tt_gI (pc := 23) rw_88_23 (g_o hG rfl) (v := (M.2.1 1 8)) rfl (to_in (pc := 26) rw_88_26 rfl (b_cle (pc := 27) rw_88_27 (A := (M.2.1 1 8).toInt) (B := v2.toInt) rfl rfl (fun h22 => ?_) (fun h22 => ?_))))
        · refine to_c (pc := 38) rw_88_38 (x := (1 : Int32)) rfl rfl (to_go (pc := 39) rw_88_39 (s_r1 (pc := 43) rw_88_43 (A := 1) rfl (by decide) (b_ine_t (pc := 116) rw_103_116 (A := 1) rfl (by decide) (to_an (pc := 121) rw_103_121 rfl (s_gR (pc := 122) rw_103_122 hG rfl (v := 33) rfl (to_i (pc := 125) rw_103_125 rfl (to_dup2 (pc := 127) rw_103_127 (s_lal (pc := 128) rw_103_128 hG rfl (n := 40) rfl (A := s.toInt) rfl (by omega) (by omega) (fun l23 => s_cl (pc := 129) rw_103_129 rfl (fun l24 => to_i (pc := 130) rw_103_130 rfl (to_an (pc := 132) rw_103_132 rfl ?_)))))))))))
          refine tt_gI (pc := 133) rw_103_133 (g_o hG rfl) (v := (M.2.1 1 8)) rfl (s_add (pc := 136) rw_103_136 (A := 0) (B := (M.2.1 1 8).toInt) rfl rfl (by omega) (fun v25 e26 => s_anyS (pc := 137) rw_103_137 (fun _ _ => rfl) (fun l27 => s_anyL (pc := 138) rw_103_138 (fun _ _ => rfl) (fun l28 => s_las (pc := 139) rw_103_139 hG rfl (n := 40) rfl (A := s.toInt) rfl (by omega) (by omega) (fun M30 W29 => ?_)))))
          have hG31 := g_wl hG W29
          have F32 := FR.wl F0 W29 (show 33 = 1 ∧ 5 ≤ (s.toInt).toNat ∨ 3 ≤ 33 ∧ 33 ≤ 5 ∨ 33 = 33 by omega)
          refine to_an (pc := 140) rw_103_140 rfl (s_v (pc := 141) rw_103_141 (dp0 hd (by decide)) (ls0 := [.ref 1]) rfl (Nat.le_of_ble_eq_true rfl) (Nat.le_of_ble_eq_true rfl) rfl (to_rc rfl rfl rfl (g_o hG31 rfl)) rfl (C_83 hX (dp1 hd (by decide)) hG31  (fun M35 hG34 F33 => ?_)))
          have F36 := FR.c F32 F33 tg_230
          refine to_c (pc := 144) rw_103_144 (x := (1 : Int32)) rfl rfl (s_r1 (pc := 145) rw_103_145 (A := 1) rfl (by decide) ?_)
          have k_37 : (1 : Int32).toInt = 1 := rfl
          exact h (1 : Int32) M35 hG34 F36 (by decide) (by decide) (by omega)
        · refine to_an (pc := 30) rw_88_30 rfl (to_c (pc := 31) rw_88_31 (x := (2 : Int32)) rfl rfl (s_v (pc := 32) rw_88_32 (dp1 hd (by decide)) (ls0 := [.ref 1, .int (2 : Int32)]) rfl (Nat.le_of_ble_eq_true rfl) (Nat.le_of_ble_eq_true rfl) rfl (to_rc rfl rfl rfl (g_o hG rfl)) rfl (to_an (pc := 0) rw_84_0 rfl (to_in (pc := 1) rw_84_1 rfl (s_pI (pc := 2) rw_84_2 hG rfl (fun M39 W38 => ?_))))))
          have hG40 := g_wf hG W38 rfl rfl (by decide)
          have F41 := FR.w F0 W38 (show 1 = 1 ∧ 5 ≤ 10 ∨ 3 ≤ 1 ∧ 1 ≤ 5 ∨ 1 = 33 by decide)
          refine to_an (pc := 5) rw_84_5 rfl (to_an (pc := 6) rw_84_6 rfl ?_)
          have c_42 : M39.2.1 1 9 = (M.2.1 1 9) := (W_n W38 (by decide) rfl)
          refine tt_gI (pc := 7) rw_84_7 (g_o hG40 rfl) (v := (M.2.1 1 9)) c_42 (s_pI (pc := 10) rw_84_10 hG40 rfl (fun M44 W43 => ?_))
          have hG45 := g_wf hG40 W43 rfl rfl (by decide)
          have F46 := FR.w F41 W43 (show 1 = 1 ∧ 5 ≤ 11 ∨ 3 ≤ 1 ∧ 1 ≤ 5 ∨ 1 = 33 by decide)
          refine to_c (pc := 13) rw_84_13 (x := (0 : Int32)) rfl rfl (s_r1 (pc := 14) rw_84_14 (A := 0) rfl (by decide) (b_ieq_t (pc := 35) rw_88_35 (A := 0) rfl (by decide) (to_c (pc := 42) rw_88_42 (x := (0 : Int32)) rfl rfl (s_r1 (pc := 43) rw_88_43 (A := 0) rfl (by decide) (b_ine_f (pc := 116) rw_103_116 (A := 0) rfl (by decide) (to_c (pc := 119) rw_103_119 (x := (0 : Int32)) rfl rfl (s_r1 (pc := 120) rw_103_120 (A := 0) rfl (by decide) ?_)))))))
          have k_47 : (0 : Int32).toInt = 0 := rfl
          have c_48 : M44.2.1 1 10 = (2 : Int32) := (W_n W43 (by decide) (W_e W38))
          have k_49 : (2 : Int32).toInt = 2 := rfl
          have t_50 : (M44.2.1 1 10).toInt = (2 : Int32).toInt := congrArg Int32.toInt c_48
          have c_51 : M44.2.1 1 11 = (M.2.1 1 9) := (W_e W43)
          have t_52 : (M44.2.1 1 11).toInt = (M.2.1 1 9).toInt := congrArg Int32.toInt c_51
          exact h (0 : Int32) M44 hG45 F46 (by decide) (by decide) (by omega)
    · refine to_an (pc := 8) rw_88_8 rfl (to_c (pc := 9) rw_88_9 (x := (1 : Int32)) rfl rfl (s_v (pc := 10) rw_88_10 (dp1 hd (by decide)) (ls0 := [.ref 1, .int (1 : Int32)]) rfl (Nat.le_of_ble_eq_true rfl) (Nat.le_of_ble_eq_true rfl) rfl (to_rc rfl rfl rfl (g_o hG rfl)) rfl (to_an (pc := 0) rw_84_0 rfl (to_in (pc := 1) rw_84_1 rfl (s_pI (pc := 2) rw_84_2 hG rfl (fun M54 W53 => ?_))))))
      have hG55 := g_wf hG W53 rfl rfl (by decide)
      have F56 := FR.w F0 W53 (show 1 = 1 ∧ 5 ≤ 10 ∨ 3 ≤ 1 ∧ 1 ≤ 5 ∨ 1 = 33 by decide)
      refine to_an (pc := 5) rw_84_5 rfl (to_an (pc := 6) rw_84_6 rfl ?_)
      have c_57 : M54.2.1 1 9 = (M.2.1 1 9) := (W_n W53 (by decide) rfl)
      refine tt_gI (pc := 7) rw_84_7 (g_o hG55 rfl) (v := (M.2.1 1 9)) c_57 (s_pI (pc := 10) rw_84_10 hG55 rfl (fun M59 W58 => ?_))
      have hG60 := g_wf hG55 W58 rfl rfl (by decide)
      have F61 := FR.w F56 W58 (show 1 = 1 ∧ 5 ≤ 11 ∨ 3 ≤ 1 ∧ 1 ≤ 5 ∨ 1 = 33 by decide)
      refine to_c (pc := 13) rw_84_13 (x := (0 : Int32)) rfl rfl (s_r1 (pc := 14) rw_84_14 (A := 0) rfl (by decide) (s_r1 (pc := 13) rw_88_13 (A := 0) rfl (by decide) (b_ine_f (pc := 116) rw_103_116 (A := 0) rfl (by decide) (to_c (pc := 119) rw_103_119 (x := (0 : Int32)) rfl rfl (s_r1 (pc := 120) rw_103_120 (A := 0) rfl (by decide) ?_)))))
      have k_62 : (0 : Int32).toInt = 0 := rfl
      have c_63 : M59.2.1 1 10 = (1 : Int32) := (W_n W58 (by decide) (W_e W53))
      have k_64 : (1 : Int32).toInt = 1 := rfl
      have t_65 : (M59.2.1 1 10).toInt = (1 : Int32).toInt := congrArg Int32.toInt c_63
      have c_66 : M59.2.1 1 11 = (M.2.1 1 9) := (W_e W58)
      have t_67 : (M59.2.1 1 11).toInt = (M.2.1 1 9).toInt := congrArg Int32.toInt c_66
      exact h (0 : Int32) M59 hG60 F61 (by decide) (by decide) (by omega)
  · refine to_an (pc := 19) rw_103_19 rfl (to_an (pc := 20) rw_103_20 rfl (tt_gI (pc := 21) rw_103_21 (g_o hG rfl) (v := (M.2.1 1 8)) rfl (s_v (pc := 24) rw_103_24 (dp0 hd (by decide)) (ls0 := [.ref p, .int (M.2.1 1 8)]) rfl (Nat.le_of_ble_eq_true rfl) (Nat.le_of_ble_eq_true rfl) rfl (to_rc rfl rfl rfl (g_o hG (by rcases hp with rfl | rfl <;> rfl))) rfl (to_an (pc := 0) rw_53_0 rfl (s_gR (pc := 1) rw_53_1 hG (by rcases hp with rfl | rfl <;> rfl) (v := (p + 6)) (by rcases hp with rfl | rfl <;> rfl) (to_an (pc := 4) rw_53_4 rfl ?_))))))
    have b_68 := g_b hG (a := p) (i := 3) (lo := 0) (hi := 12) (by rcases hp with rfl | rfl <;> rfl) (by rcases hp with rfl | rfl <;> rfl)
    refine tt_gI (pc := 5) rw_53_5 (g_o hG (by rcases hp with rfl | rfl <;> rfl)) (v := (M.2.1 p 3)) rfl (to_in (pc := 8) rw_53_8 rfl (s_s (pc := 9) rw_53_9 (dp1 hd (by decide)) (ls0 := [.ref (p + 6), .int (M.2.1 p 3), .int (M.2.1 1 8), .null]) rfl (Nat.le_of_ble_eq_true rfl) (Nat.le_of_ble_eq_true rfl) rfl (to_rcs rfl rfl) rfl (C_54g hX (dp2 hd (by decide)) hG (by omega) (g := (p + 6)) (s := (M.2.1 p 3)) (x := (M.2.1 1 8)) (fun r69 M74 hG71 F70 p_72 p_73 => ?_))))
    have F75 := FR.c F0 F70 tg_231
    refine to_r0 (pc := 12) rw_53_12 (to_is (pc := 27) rw_103_27 (ls2 := [.ref 28, .ref 1, .ref p, .ref 11, .int s, .int (0 : Int32), .int v2, .int r69, .null]) rfl rfl (to_an (pc := 29) rw_103_29 rfl (to_i (pc := 30) rw_103_30 rfl (s_v (pc := 32) rw_103_32 (dp0 hd (by decide)) (ls0 := [.ref p, .int r69]) rfl (Nat.le_of_ble_eq_true rfl) (Nat.le_of_ble_eq_true rfl) rfl (to_rc rfl rfl rfl (g_o hG71 (by rcases hp with rfl | rfl <;> rfl))) rfl (to_in (pc := 0) rw_44_0 rfl (b_ilt (pc := 1) rw_44_1 (A := r69.toInt) rfl (fun h76 => ?_) (fun h76 => ?_)))))))
    · refine to_c (pc := 16) rw_44_16 (x := (0 : Int32)) rfl rfl (s_r1 (pc := 17) rw_44_17 (A := 0) rfl (by decide) (b_ieq_t (pc := 35) rw_103_35 (A := 0) rfl (by decide) (to_an (pc := 61) rw_103_61 rfl (to_an (pc := 62) rw_103_62 rfl ?_))))
      have c_77 : M74.2.1 1 8 = (M.2.1 1 8) := (F_n F70 (show ¬ (1 < 0) by decide) rfl)
      refine tt_gI (pc := 63) rw_103_63 (g_o hG71 rfl) (v := (M.2.1 1 8)) c_77 (s_v (pc := 66) rw_103_66 (dp0 hd (by decide)) (ls0 := [.ref p, .int (M.2.1 1 8)]) rfl (Nat.le_of_ble_eq_true rfl) (Nat.le_of_ble_eq_true rfl) rfl (to_rc rfl rfl rfl (g_o hG71 (by rcases hp with rfl | rfl <;> rfl))) rfl (to_an (pc := 0) rw_52_0 rfl (s_gR (pc := 1) rw_52_1 hG71 (by rcases hp with rfl | rfl <;> rfl) (v := (p + 1)) (by rcases hp with rfl | rfl <;> rfl) (to_an (pc := 4) rw_52_4 rfl ?_))))
      have c_78 : M74.2.1 p 2 = (M.2.1 p 2) := (F_n F70 (show ¬ (p < 0) by omega) rfl)
      have b_79 := g_b hG (a := p) (i := 2) (lo := 0) (hi := 8) (by rcases hp with rfl | rfl <;> rfl) (by rcases hp with rfl | rfl <;> rfl)
      refine tt_gI (pc := 5) rw_52_5 (g_o hG71 (by rcases hp with rfl | rfl <;> rfl)) (v := (M.2.1 p 2)) c_78 (to_in (pc := 8) rw_52_8 rfl (s_s (pc := 9) rw_52_9 (dp1 hd (by decide)) (ls0 := [.ref (p + 1), .int (M.2.1 p 2), .int (M.2.1 1 8), .null]) rfl (Nat.le_of_ble_eq_true rfl) (Nat.le_of_ble_eq_true rfl) rfl (to_rcs rfl rfl) rfl (C_54f hX (dp2 hd (by decide)) hG71 (by omega) (f := (p + 1)) (s := (M.2.1 p 2)) (x := (M.2.1 1 8)) (fun r80 M85 hG82 F81 p_83 p_84 => ?_))))
      have F86 := FR.c F75 F81 tg_231
      refine to_r0 (pc := 12) rw_52_12 (to_is (pc := 69) rw_103_69 (ls2 := [.ref 28, .ref 1, .ref p, .ref 11, .int s, .int (0 : Int32), .int v2, .int r69, .int r80]) rfl rfl (to_an (pc := 71) rw_103_71 rfl (to_i (pc := 72) rw_103_72 rfl (s_v (pc := 74) rw_103_74 (dp0 hd (by decide)) (ls0 := [.ref p, .int r80]) rfl (Nat.le_of_ble_eq_true rfl) (Nat.le_of_ble_eq_true rfl) rfl (to_rc rfl rfl rfl (g_o hG82 (by rcases hp with rfl | rfl <;> rfl))) rfl (to_in (pc := 0) rw_43_0 rfl (b_ilt (pc := 1) rw_43_1 (A := r80.toInt) rfl (fun h87 => ?_) (fun h87 => ?_)))))))
      · refine to_c (pc := 16) rw_43_16 (x := (0 : Int32)) rfl rfl (s_r1 (pc := 17) rw_43_17 (A := 0) rfl (by decide) (b_ine_f (pc := 77) rw_103_77 (A := 0) rfl (by decide) (to_an (pc := 80) rw_103_80 rfl (to_c (pc := 81) rw_103_81 (x := (4 : Int32)) rfl rfl (s_v (pc := 82) rw_103_82 (dp0 hd (by decide)) (ls0 := [.ref 1, .int (4 : Int32)]) rfl (Nat.le_of_ble_eq_true rfl) (Nat.le_of_ble_eq_true rfl) rfl (to_rc rfl rfl rfl (g_o hG82 rfl)) rfl (to_an (pc := 0) rw_84_0 rfl (to_in (pc := 1) rw_84_1 rfl (s_pI (pc := 2) rw_84_2 hG82 rfl (fun M89 W88 => ?_)))))))))
        have hG90 := g_wf hG82 W88 rfl rfl (by decide)
        have F91 := FR.w F86 W88 (show 1 = 1 ∧ 5 ≤ 10 ∨ 3 ≤ 1 ∧ 1 ≤ 5 ∨ 1 = 33 by decide)
        refine to_an (pc := 5) rw_84_5 rfl (to_an (pc := 6) rw_84_6 rfl ?_)
        have c_92 : M89.2.1 1 9 = (M.2.1 1 9) := (W_n W88 (by decide) (F_n F81 (show ¬ (1 < 0) by decide) (F_n F70 (show ¬ (1 < 0) by decide) rfl)))
        refine tt_gI (pc := 7) rw_84_7 (g_o hG90 rfl) (v := (M.2.1 1 9)) c_92 (s_pI (pc := 10) rw_84_10 hG90 rfl (fun M94 W93 => ?_))
        have hG95 := g_wf hG90 W93 rfl rfl (by decide)
        have F96 := FR.w F91 W93 (show 1 = 1 ∧ 5 ≤ 11 ∨ 3 ≤ 1 ∧ 1 ≤ 5 ∨ 1 = 33 by decide)
        refine to_c (pc := 13) rw_84_13 (x := (0 : Int32)) rfl rfl (s_r1 (pc := 14) rw_84_14 (A := 0) rfl (by decide) (s_r1 (pc := 85) rw_103_85 (A := 0) rfl (by decide) ?_))
        have k_97 : (0 : Int32).toInt = 0 := rfl
        have c_98 : M94.2.1 1 10 = (4 : Int32) := (W_n W93 (by decide) (W_e W88))
        have k_99 : (4 : Int32).toInt = 4 := rfl
        have t_100 : (M94.2.1 1 10).toInt = (4 : Int32).toInt := congrArg Int32.toInt c_98
        have c_101 : M94.2.1 1 11 = (M.2.1 1 9) := (W_e W93)
        have t_102 : (M94.2.1 1 11).toInt = (M.2.1 1 9).toInt := congrArg Int32.toInt c_101
        exact h (0 : Int32) M94 hG95 F96 (by decide) (by decide) (by omega)
      · refine to_in (pc := 4) rw_43_4 rfl (to_an (pc := 5) rw_43_5 rfl ?_)
        have c_103 : M85.2.1 p 2 = (M.2.1 p 2) := (F_n F81 (show ¬ (p < 0) by omega) c_78)
        refine tt_gI (pc := 6) rw_43_6 (g_o hG82 (by rcases hp with rfl | rfl <;> rfl)) (v := (M.2.1 p 2)) c_103 (b_cge (pc := 9) rw_43_9 (A := r80.toInt) (B := (M.2.1 p 2).toInt) rfl rfl (fun h104 => ?_) (fun h104 => ?_))
        · refine to_c (pc := 16) rw_43_16 (x := (0 : Int32)) rfl rfl (s_r1 (pc := 17) rw_43_17 (A := 0) rfl (by decide) (b_ine_f (pc := 77) rw_103_77 (A := 0) rfl (by decide) (to_an (pc := 80) rw_103_80 rfl (to_c (pc := 81) rw_103_81 (x := (4 : Int32)) rfl rfl (s_v (pc := 82) rw_103_82 (dp0 hd (by decide)) (ls0 := [.ref 1, .int (4 : Int32)]) rfl (Nat.le_of_ble_eq_true rfl) (Nat.le_of_ble_eq_true rfl) rfl (to_rc rfl rfl rfl (g_o hG82 rfl)) rfl (to_an (pc := 0) rw_84_0 rfl (to_in (pc := 1) rw_84_1 rfl (s_pI (pc := 2) rw_84_2 hG82 rfl (fun M106 W105 => ?_)))))))))
          have hG107 := g_wf hG82 W105 rfl rfl (by decide)
          have F108 := FR.w F86 W105 (show 1 = 1 ∧ 5 ≤ 10 ∨ 3 ≤ 1 ∧ 1 ≤ 5 ∨ 1 = 33 by decide)
          refine to_an (pc := 5) rw_84_5 rfl (to_an (pc := 6) rw_84_6 rfl ?_)
          have c_109 : M106.2.1 1 9 = (M.2.1 1 9) := (W_n W105 (by decide) (F_n F81 (show ¬ (1 < 0) by decide) (F_n F70 (show ¬ (1 < 0) by decide) rfl)))
          refine tt_gI (pc := 7) rw_84_7 (g_o hG107 rfl) (v := (M.2.1 1 9)) c_109 (s_pI (pc := 10) rw_84_10 hG107 rfl (fun M111 W110 => ?_))
          have hG112 := g_wf hG107 W110 rfl rfl (by decide)
          have F113 := FR.w F108 W110 (show 1 = 1 ∧ 5 ≤ 11 ∨ 3 ≤ 1 ∧ 1 ≤ 5 ∨ 1 = 33 by decide)
          refine to_c (pc := 13) rw_84_13 (x := (0 : Int32)) rfl rfl (s_r1 (pc := 14) rw_84_14 (A := 0) rfl (by decide) (s_r1 (pc := 85) rw_103_85 (A := 0) rfl (by decide) ?_))
          have k_114 : (0 : Int32).toInt = 0 := rfl
          have c_115 : M111.2.1 1 10 = (4 : Int32) := (W_n W110 (by decide) (W_e W105))
          have k_116 : (4 : Int32).toInt = 4 := rfl
          have t_117 : (M111.2.1 1 10).toInt = (4 : Int32).toInt := congrArg Int32.toInt c_115
          have c_118 : M111.2.1 1 11 = (M.2.1 1 9) := (W_e W110)
          have t_119 : (M111.2.1 1 11).toInt = (M.2.1 1 9).toInt := congrArg Int32.toInt c_118
          exact h (0 : Int32) M111 hG112 F113 (by decide) (by decide) (by omega)
        · refine to_c (pc := 12) rw_43_12 (x := (1 : Int32)) rfl rfl (to_go (pc := 13) rw_43_13 (s_r1 (pc := 17) rw_43_17 (A := 1) rfl (by decide) (b_ine_t (pc := 77) rw_103_77 (A := 1) rfl (by decide) (to_an (pc := 86) rw_103_86 rfl (s_gR (pc := 87) rw_103_87 hG82 (by rcases hp with rfl | rfl <;> rfl) (v := (p + 3)) (by rcases hp with rfl | rfl <;> rfl) (to_i (pc := 90) rw_103_90 rfl (s_ial (pc := 92) rw_103_92 hG82 (by rcases hp with rfl | rfl <;> rfl) (n := 8) (by rcases hp with rfl | rfl <;> rfl) (by rcases hp with rfl | rfl <;> rfl) (A := r80.toInt) rfl (by omega) (by omega) (lo := 0) (hi := 59) (by rcases hp with rfl | rfl <;> rfl) (by rcases hp with rfl | rfl <;> rfl) (fun v120 w_121 _ _ => to_is (pc := 93) rw_103_93 (ls2 := [.ref 28, .ref 1, .ref p, .ref 11, .int s, .int v120, .int v2, .int r69, .int r80]) rfl rfl (to_an (pc := 95) rw_103_95 rfl (to_i (pc := 96) rw_103_96 rfl (s_v (pc := 98) rw_103_98 (dp0 hd (by decide)) (ls0 := [.ref p, .int r80]) rfl (Nat.le_of_ble_eq_true rfl) (Nat.le_of_ble_eq_true rfl) rfl (to_rc rfl rfl rfl (g_o hG82 (by rcases hp with rfl | rfl <;> rfl))) rfl ?_)))))))))))
          refine to_an (pc := 0) rw_47_0 rfl (s_gR (pc := 1) rw_47_1 hG82 (by rcases hp with rfl | rfl <;> rfl) (v := (p + 4)) (by rcases hp with rfl | rfl <;> rfl) (to_in (pc := 4) rw_47_4 rfl (s_ial (pc := 5) rw_47_5 hG82 (by rcases hp with rfl | rfl <;> rfl) (n := 8) (by rcases hp with rfl | rfl <;> rfl) (by rcases hp with rfl | rfl <;> rfl) (A := r80.toInt) rfl (by omega) (by omega) (lo := 0) (hi := 63) (by rcases hp with rfl | rfl <;> rfl) (by rcases hp with rfl | rfl <;> rfl) (fun v122 w_123 _ _ => to_an (pc := 6) rw_47_6 rfl (s_gR (pc := 7) rw_47_7 hG82 (by rcases hp with rfl | rfl <;> rfl) (v := (p + 3)) (by rcases hp with rfl | rfl <;> rfl) (to_in (pc := 10) rw_47_10 rfl (s_ialk (pc := 11) rw_47_11 hG82 (by rcases hp with rfl | rfl <;> rfl) (n := 8) (by rcases hp with rfl | rfl <;> rfl) (by rcases hp with rfl | rfl <;> rfl) (A := r80.toInt) rfl (by omega) (by omega) (v := v120) w_121 (s_sub (pc := 12) rw_47_12 (A := v122.toInt) (B := v120.toInt) rfl rfl (by omega) (fun v126 e127 => to_c (pc := 13) rw_47_13 (x := (1 : Int32)) rfl rfl (s_add (pc := 14) rw_47_14 (A := v126.toInt) (B := 1) rfl rfl (by omega) (fun v128 e129 => to_r0 (pc := 15) rw_47_15 ?_)))))))))))
          refine to_c (pc := 101) rw_103_101 (x := (1 : Int32)) rfl rfl (s_sub (pc := 102) rw_103_102 (A := v128.toInt) (B := 1) rfl rfl (by omega) (fun v130 e131 => to_is (pc := 103) rw_103_103 (ls2 := [.ref 28, .ref 1, .ref p, .ref 11, .int s, .int v120, .int v130, .int r69, .int r80]) rfl rfl (to_an (pc := 105) rw_103_105 rfl (s_v (pc := 106) rw_103_106 (dp0 hd (by decide)) (ls0 := [.ref 1]) rfl (Nat.le_of_ble_eq_true rfl) (Nat.le_of_ble_eq_true rfl) rfl (to_rc rfl rfl rfl (g_o hG82 rfl)) rfl (C_83 hX (dp1 hd (by decide)) hG82  (fun M134 hG133 F132 => ?_))))))
          have F135 := FR.c F86 F132 tg_230
          refine to_an (pc := 109) rw_103_109 rfl (to_c (pc := 110) rw_103_110 (x := (0 : Int32)) rfl rfl (to_i (pc := 111) rw_103_111 rfl (s_v (pc := 113) rw_103_113 (dp0 hd (by decide)) (ls0 := [.ref 1, .int (0 : Int32), .int v130]) rfl (Nat.le_of_ble_eq_true rfl) (Nat.le_of_ble_eq_true rfl) rfl (to_rc rfl rfl rfl (g_o hG133 rfl)) rfl (to_an (pc := 0) rw_88_0 rfl (tt_gI (pc := 1) rw_88_1 (g_o hG133 rfl) (v := (M134.2.1 1 7)) rfl (to_c (pc := 4) rw_88_4 (x := (2 : Int32)) rfl rfl (b_ceq (pc := 5) rw_88_5 (A := (M134.2.1 1 7).toInt) (B := 2) rfl rfl (fun h136 => ?_) (fun h136 => ?_))))))))
          · refine to_an (pc := 14) rw_88_14 rfl (tt_gI (pc := 15) rw_88_15 (g_o hG133 rfl) (v := (M134.2.1 1 8)) rfl (to_in (pc := 18) rw_88_18 rfl (b_clt (pc := 19) rw_88_19 (A := (M134.2.1 1 8).toInt) (B := 0) rfl rfl (fun h137 => ?_) (fun h137 => ?_))))
            · refine to_an (pc := 30) rw_88_30 rfl (to_c (pc := 31) rw_88_31 (x := (2 : Int32)) rfl rfl (s_v (pc := 32) rw_88_32 (dp1 hd (by decide)) (ls0 := [.ref 1, .int (2 : Int32)]) rfl (Nat.le_of_ble_eq_true rfl) (Nat.le_of_ble_eq_true rfl) rfl (to_rc rfl rfl rfl (g_o hG133 rfl)) rfl (to_an (pc := 0) rw_84_0 rfl (to_in (pc := 1) rw_84_1 rfl (s_pI (pc := 2) rw_84_2 hG133 rfl (fun M139 W138 => ?_))))))
              have hG140 := g_wf hG133 W138 rfl rfl (by decide)
              have F141 := FR.w F135 W138 (show 1 = 1 ∧ 5 ≤ 10 ∨ 3 ≤ 1 ∧ 1 ≤ 5 ∨ 1 = 33 by decide)
              refine to_an (pc := 5) rw_84_5 rfl (to_an (pc := 6) rw_84_6 rfl ?_)
              have c_142 : M139.2.1 1 9 = (M134.2.1 1 9) := (W_n W138 (by decide) rfl)
              refine tt_gI (pc := 7) rw_84_7 (g_o hG140 rfl) (v := (M134.2.1 1 9)) c_142 (s_pI (pc := 10) rw_84_10 hG140 rfl (fun M144 W143 => ?_))
              have hG145 := g_wf hG140 W143 rfl rfl (by decide)
              have F146 := FR.w F141 W143 (show 1 = 1 ∧ 5 ≤ 11 ∨ 3 ≤ 1 ∧ 1 ≤ 5 ∨ 1 = 33 by decide)
              refine to_c (pc := 13) rw_84_13 (x := (0 : Int32)) rfl rfl (s_r1 (pc := 14) rw_84_14 (A := 0) rfl (by decide) (b_ieq_t (pc := 35) rw_88_35 (A := 0) rfl (by decide) (to_c (pc := 42) rw_88_42 (x := (0 : Int32)) rfl rfl (s_r1 (pc := 43) rw_88_43 (A := 0) rfl (by decide) (b_ine_f (pc := 116) rw_103_116 (A := 0) rfl (by decide) (to_c (pc := 119) rw_103_119 (x := (0 : Int32)) rfl rfl (s_r1 (pc := 120) rw_103_120 (A := 0) rfl (by decide) ?_)))))))
              have k_147 : (0 : Int32).toInt = 0 := rfl
              have c_148 : M144.2.1 1 10 = (2 : Int32) := (W_n W143 (by decide) (W_e W138))
              have k_149 : (2 : Int32).toInt = 2 := rfl
              have t_150 : (M144.2.1 1 10).toInt = (2 : Int32).toInt := congrArg Int32.toInt c_148
              have c_151 : M144.2.1 1 11 = (M134.2.1 1 9) := (W_e W143)
              have t_152 : (M144.2.1 1 11).toInt = (M134.2.1 1 9).toInt := congrArg Int32.toInt c_151
              exact h (0 : Int32) M144 hG145 F146 (by decide) (by decide) (by omega)
            · refine to_an (pc := 22) rw_88_22 rfl (tt_gI (pc := 23) rw_88_23 (g_o hG133 rfl) (v := (M134.2.1 1 8)) rfl (to_in (pc := 26) rw_88_26 rfl (b_cle (pc := 27) rw_88_27 (A := (M134.2.1 1 8).toInt) (B := v130.toInt) rfl rfl (fun h153 => ?_) (fun h153 => ?_))))
              · refine to_c (pc := 38) rw_88_38 (x := (1 : Int32)) rfl rfl (to_go (pc := 39) rw_88_39 (s_r1 (pc := 43) rw_88_43 (A := 1) rfl (by decide) (b_ine_t (pc := 116) rw_103_116 (A := 1) rfl (by decide) (to_an (pc := 121) rw_103_121 rfl (s_gR (pc := 122) rw_103_122 hG133 rfl (v := 33) rfl (to_i (pc := 125) rw_103_125 rfl (to_dup2 (pc := 127) rw_103_127 (s_lal (pc := 128) rw_103_128 hG133 rfl (n := 40) rfl (A := s.toInt) rfl (by omega) (by omega) (fun l154 => s_cl (pc := 129) rw_103_129 rfl (fun l155 => to_i (pc := 130) rw_103_130 rfl (to_an (pc := 132) rw_103_132 rfl ?_)))))))))))
                refine tt_gI (pc := 133) rw_103_133 (g_o hG133 rfl) (v := (M134.2.1 1 8)) rfl (s_add (pc := 136) rw_103_136 (A := v120.toInt) (B := (M134.2.1 1 8).toInt) rfl rfl (by omega) (fun v156 e157 => s_anyS (pc := 137) rw_103_137 (fun _ _ => rfl) (fun l158 => s_anyL (pc := 138) rw_103_138 (fun _ _ => rfl) (fun l159 => s_las (pc := 139) rw_103_139 hG133 rfl (n := 40) rfl (A := s.toInt) rfl (by omega) (by omega) (fun M161 W160 => ?_)))))
                have hG162 := g_wl hG133 W160
                have F163 := FR.wl F135 W160 (show 33 = 1 ∧ 5 ≤ (s.toInt).toNat ∨ 3 ≤ 33 ∧ 33 ≤ 5 ∨ 33 = 33 by omega)
                refine to_an (pc := 140) rw_103_140 rfl (s_v (pc := 141) rw_103_141 (dp0 hd (by decide)) (ls0 := [.ref 1]) rfl (Nat.le_of_ble_eq_true rfl) (Nat.le_of_ble_eq_true rfl) rfl (to_rc rfl rfl rfl (g_o hG162 rfl)) rfl (C_83 hX (dp1 hd (by decide)) hG162  (fun M166 hG165 F164 => ?_)))
                have F167 := FR.c F163 F164 tg_230
                refine to_c (pc := 144) rw_103_144 (x := (1 : Int32)) rfl rfl (s_r1 (pc := 145) rw_103_145 (A := 1) rfl (by decide) ?_)
                have k_168 : (1 : Int32).toInt = 1 := rfl
                exact h (1 : Int32) M166 hG165 F167 (by decide) (by decide) (by omega)
              · refine to_an (pc := 30) rw_88_30 rfl (to_c (pc := 31) rw_88_31 (x := (2 : Int32)) rfl rfl (s_v (pc := 32) rw_88_32 (dp1 hd (by decide)) (ls0 := [.ref 1, .int (2 : Int32)]) rfl (Nat.le_of_ble_eq_true rfl) (Nat.le_of_ble_eq_true rfl) rfl (to_rc rfl rfl rfl (g_o hG133 rfl)) rfl (to_an (pc := 0) rw_84_0 rfl (to_in (pc := 1) rw_84_1 rfl (s_pI (pc := 2) rw_84_2 hG133 rfl (fun M170 W169 => ?_))))))
                have hG171 := g_wf hG133 W169 rfl rfl (by decide)
                have F172 := FR.w F135 W169 (show 1 = 1 ∧ 5 ≤ 10 ∨ 3 ≤ 1 ∧ 1 ≤ 5 ∨ 1 = 33 by decide)
                refine to_an (pc := 5) rw_84_5 rfl (to_an (pc := 6) rw_84_6 rfl ?_)
                have c_173 : M170.2.1 1 9 = (M134.2.1 1 9) := (W_n W169 (by decide) rfl)
                refine tt_gI (pc := 7) rw_84_7 (g_o hG171 rfl) (v := (M134.2.1 1 9)) c_173 (s_pI (pc := 10) rw_84_10 hG171 rfl (fun M175 W174 => ?_))
                have hG176 := g_wf hG171 W174 rfl rfl (by decide)
                have F177 := FR.w F172 W174 (show 1 = 1 ∧ 5 ≤ 11 ∨ 3 ≤ 1 ∧ 1 ≤ 5 ∨ 1 = 33 by decide)
                refine to_c (pc := 13) rw_84_13 (x := (0 : Int32)) rfl rfl (s_r1 (pc := 14) rw_84_14 (A := 0) rfl (by decide) (b_ieq_t (pc := 35) rw_88_35 (A := 0) rfl (by decide) (to_c (pc := 42) rw_88_42 (x := (0 : Int32)) rfl rfl (s_r1 (pc := 43) rw_88_43 (A := 0) rfl (by decide) (b_ine_f (pc := 116) rw_103_116 (A := 0) rfl (by decide) (to_c (pc := 119) rw_103_119 (x := (0 : Int32)) rfl rfl (s_r1 (pc := 120) rw_103_120 (A := 0) rfl (by decide) ?_)))))))
                have k_178 : (0 : Int32).toInt = 0 := rfl
                have c_179 : M175.2.1 1 10 = (2 : Int32) := (W_n W174 (by decide) (W_e W169))
                have k_180 : (2 : Int32).toInt = 2 := rfl
                have t_181 : (M175.2.1 1 10).toInt = (2 : Int32).toInt := congrArg Int32.toInt c_179
                have c_182 : M175.2.1 1 11 = (M134.2.1 1 9) := (W_e W174)
                have t_183 : (M175.2.1 1 11).toInt = (M134.2.1 1 9).toInt := congrArg Int32.toInt c_182
                exact h (0 : Int32) M175 hG176 F177 (by decide) (by decide) (by omega)
          · refine to_an (pc := 8) rw_88_8 rfl (to_c (pc := 9) rw_88_9 (x := (1 : Int32)) rfl rfl (s_v (pc := 10) rw_88_10 (dp1 hd (by decide)) (ls0 := [.ref 1, .int (1 : Int32)]) rfl (Nat.le_of_ble_eq_true rfl) (Nat.le_of_ble_eq_true rfl) rfl (to_rc rfl rfl rfl (g_o hG133 rfl)) rfl (to_an (pc := 0) rw_84_0 rfl (to_in (pc := 1) rw_84_1 rfl (s_pI (pc := 2) rw_84_2 hG133 rfl (fun M185 W184 => ?_))))))
            have hG186 := g_wf hG133 W184 rfl rfl (by decide)
            have F187 := FR.w F135 W184 (show 1 = 1 ∧ 5 ≤ 10 ∨ 3 ≤ 1 ∧ 1 ≤ 5 ∨ 1 = 33 by decide)
            refine to_an (pc := 5) rw_84_5 rfl (to_an (pc := 6) rw_84_6 rfl ?_)
            have c_188 : M185.2.1 1 9 = (M134.2.1 1 9) := (W_n W184 (by decide) rfl)
            refine tt_gI (pc := 7) rw_84_7 (g_o hG186 rfl) (v := (M134.2.1 1 9)) c_188 (s_pI (pc := 10) rw_84_10 hG186 rfl (fun M190 W189 => ?_))
            have hG191 := g_wf hG186 W189 rfl rfl (by decide)
            have F192 := FR.w F187 W189 (show 1 = 1 ∧ 5 ≤ 11 ∨ 3 ≤ 1 ∧ 1 ≤ 5 ∨ 1 = 33 by decide)
            refine to_c (pc := 13) rw_84_13 (x := (0 : Int32)) rfl rfl (s_r1 (pc := 14) rw_84_14 (A := 0) rfl (by decide) (s_r1 (pc := 13) rw_88_13 (A := 0) rfl (by decide) (b_ine_f (pc := 116) rw_103_116 (A := 0) rfl (by decide) (to_c (pc := 119) rw_103_119 (x := (0 : Int32)) rfl rfl (s_r1 (pc := 120) rw_103_120 (A := 0) rfl (by decide) ?_)))))
            have k_193 : (0 : Int32).toInt = 0 := rfl
            have c_194 : M190.2.1 1 10 = (1 : Int32) := (W_n W189 (by decide) (W_e W184))
            have k_195 : (1 : Int32).toInt = 1 := rfl
            have t_196 : (M190.2.1 1 10).toInt = (1 : Int32).toInt := congrArg Int32.toInt c_194
            have c_197 : M190.2.1 1 11 = (M134.2.1 1 9) := (W_e W189)
            have t_198 : (M190.2.1 1 11).toInt = (M134.2.1 1 9).toInt := congrArg Int32.toInt c_197
            exact h (0 : Int32) M190 hG191 F192 (by decide) (by decide) (by omega)
    · refine to_in (pc := 4) rw_44_4 rfl (to_an (pc := 5) rw_44_5 rfl ?_)
      have c_199 : M74.2.1 p 3 = (M.2.1 p 3) := (F_n F70 (show ¬ (p < 0) by omega) rfl)
      refine tt_gI (pc := 6) rw_44_6 (g_o hG71 (by rcases hp with rfl | rfl <;> rfl)) (v := (M.2.1 p 3)) c_199 (b_cge (pc := 9) rw_44_9 (A := r69.toInt) (B := (M.2.1 p 3).toInt) rfl rfl (fun h200 => ?_) (fun h200 => ?_))
      · refine to_c (pc := 16) rw_44_16 (x := (0 : Int32)) rfl rfl (s_r1 (pc := 17) rw_44_17 (A := 0) rfl (by decide) (b_ieq_t (pc := 35) rw_103_35 (A := 0) rfl (by decide) (to_an (pc := 61) rw_103_61 rfl (to_an (pc := 62) rw_103_62 rfl ?_))))
        have c_201 : M74.2.1 1 8 = (M.2.1 1 8) := (F_n F70 (show ¬ (1 < 0) by decide) rfl)
        refine tt_gI (pc := 63) rw_103_63 (g_o hG71 rfl) (v := (M.2.1 1 8)) c_201 (s_v (pc := 66) rw_103_66 (dp0 hd (by decide)) (ls0 := [.ref p, .int (M.2.1 1 8)]) rfl (Nat.le_of_ble_eq_true rfl) (Nat.le_of_ble_eq_true rfl) rfl (to_rc rfl rfl rfl (g_o hG71 (by rcases hp with rfl | rfl <;> rfl))) rfl (to_an (pc := 0) rw_52_0 rfl (s_gR (pc := 1) rw_52_1 hG71 (by rcases hp with rfl | rfl <;> rfl) (v := (p + 1)) (by rcases hp with rfl | rfl <;> rfl) (to_an (pc := 4) rw_52_4 rfl ?_))))
        have c_202 : M74.2.1 p 2 = (M.2.1 p 2) := (F_n F70 (show ¬ (p < 0) by omega) rfl)
        have b_203 := g_b hG (a := p) (i := 2) (lo := 0) (hi := 8) (by rcases hp with rfl | rfl <;> rfl) (by rcases hp with rfl | rfl <;> rfl)
        refine tt_gI (pc := 5) rw_52_5 (g_o hG71 (by rcases hp with rfl | rfl <;> rfl)) (v := (M.2.1 p 2)) c_202 (to_in (pc := 8) rw_52_8 rfl (s_s (pc := 9) rw_52_9 (dp1 hd (by decide)) (ls0 := [.ref (p + 1), .int (M.2.1 p 2), .int (M.2.1 1 8), .null]) rfl (Nat.le_of_ble_eq_true rfl) (Nat.le_of_ble_eq_true rfl) rfl (to_rcs rfl rfl) rfl (C_54f hX (dp2 hd (by decide)) hG71 (by omega) (f := (p + 1)) (s := (M.2.1 p 2)) (x := (M.2.1 1 8)) (fun r204 M209 hG206 F205 p_207 p_208 => ?_))))
        have F210 := FR.c F75 F205 tg_231
        refine to_r0 (pc := 12) rw_52_12 (to_is (pc := 69) rw_103_69 (ls2 := [.ref 28, .ref 1, .ref p, .ref 11, .int s, .int (0 : Int32), .int v2, .int r69, .int r204]) rfl rfl (to_an (pc := 71) rw_103_71 rfl (to_i (pc := 72) rw_103_72 rfl (s_v (pc := 74) rw_103_74 (dp0 hd (by decide)) (ls0 := [.ref p, .int r204]) rfl (Nat.le_of_ble_eq_true rfl) (Nat.le_of_ble_eq_true rfl) rfl (to_rc rfl rfl rfl (g_o hG206 (by rcases hp with rfl | rfl <;> rfl))) rfl (to_in (pc := 0) rw_43_0 rfl (b_ilt (pc := 1) rw_43_1 (A := r204.toInt) rfl (fun h211 => ?_) (fun h211 => ?_)))))))
        · refine to_c (pc := 16) rw_43_16 (x := (0 : Int32)) rfl rfl (s_r1 (pc := 17) rw_43_17 (A := 0) rfl (by decide) (b_ine_f (pc := 77) rw_103_77 (A := 0) rfl (by decide) (to_an (pc := 80) rw_103_80 rfl (to_c (pc := 81) rw_103_81 (x := (4 : Int32)) rfl rfl (s_v (pc := 82) rw_103_82 (dp0 hd (by decide)) (ls0 := [.ref 1, .int (4 : Int32)]) rfl (Nat.le_of_ble_eq_true rfl) (Nat.le_of_ble_eq_true rfl) rfl (to_rc rfl rfl rfl (g_o hG206 rfl)) rfl (to_an (pc := 0) rw_84_0 rfl (to_in (pc := 1) rw_84_1 rfl (s_pI (pc := 2) rw_84_2 hG206 rfl (fun M213 W212 => ?_)))))))))
          have hG214 := g_wf hG206 W212 rfl rfl (by decide)
          have F215 := FR.w F210 W212 (show 1 = 1 ∧ 5 ≤ 10 ∨ 3 ≤ 1 ∧ 1 ≤ 5 ∨ 1 = 33 by decide)
          refine to_an (pc := 5) rw_84_5 rfl (to_an (pc := 6) rw_84_6 rfl ?_)
          have c_216 : M213.2.1 1 9 = (M.2.1 1 9) := (W_n W212 (by decide) (F_n F205 (show ¬ (1 < 0) by decide) (F_n F70 (show ¬ (1 < 0) by decide) rfl)))
          refine tt_gI (pc := 7) rw_84_7 (g_o hG214 rfl) (v := (M.2.1 1 9)) c_216 (s_pI (pc := 10) rw_84_10 hG214 rfl (fun M218 W217 => ?_))
          have hG219 := g_wf hG214 W217 rfl rfl (by decide)
          have F220 := FR.w F215 W217 (show 1 = 1 ∧ 5 ≤ 11 ∨ 3 ≤ 1 ∧ 1 ≤ 5 ∨ 1 = 33 by decide)
          refine to_c (pc := 13) rw_84_13 (x := (0 : Int32)) rfl rfl (s_r1 (pc := 14) rw_84_14 (A := 0) rfl (by decide) (s_r1 (pc := 85) rw_103_85 (A := 0) rfl (by decide) ?_))
          have k_221 : (0 : Int32).toInt = 0 := rfl
          have c_222 : M218.2.1 1 10 = (4 : Int32) := (W_n W217 (by decide) (W_e W212))
          have k_223 : (4 : Int32).toInt = 4 := rfl
          have t_224 : (M218.2.1 1 10).toInt = (4 : Int32).toInt := congrArg Int32.toInt c_222
          have c_225 : M218.2.1 1 11 = (M.2.1 1 9) := (W_e W217)
          have t_226 : (M218.2.1 1 11).toInt = (M.2.1 1 9).toInt := congrArg Int32.toInt c_225
          exact h (0 : Int32) M218 hG219 F220 (by decide) (by decide) (by omega)
        · refine to_in (pc := 4) rw_43_4 rfl (to_an (pc := 5) rw_43_5 rfl ?_)
          have c_227 : M209.2.1 p 2 = (M.2.1 p 2) := (F_n F205 (show ¬ (p < 0) by omega) c_202)
          refine tt_gI (pc := 6) rw_43_6 (g_o hG206 (by rcases hp with rfl | rfl <;> rfl)) (v := (M.2.1 p 2)) c_227 (b_cge (pc := 9) rw_43_9 (A := r204.toInt) (B := (M.2.1 p 2).toInt) rfl rfl (fun h228 => ?_) (fun h228 => ?_))
          · refine to_c (pc := 16) rw_43_16 (x := (0 : Int32)) rfl rfl (s_r1 (pc := 17) rw_43_17 (A := 0) rfl (by decide) (b_ine_f (pc := 77) rw_103_77 (A := 0) rfl (by decide) (to_an (pc := 80) rw_103_80 rfl (to_c (pc := 81) rw_103_81 (x := (4 : Int32)) rfl rfl (s_v (pc := 82) rw_103_82 (dp0 hd (by decide)) (ls0 := [.ref 1, .int (4 : Int32)]) rfl (Nat.le_of_ble_eq_true rfl) (Nat.le_of_ble_eq_true rfl) rfl (to_rc rfl rfl rfl (g_o hG206 rfl)) rfl (to_an (pc := 0) rw_84_0 rfl (to_in (pc := 1) rw_84_1 rfl (s_pI (pc := 2) rw_84_2 hG206 rfl (fun M230 W229 => ?_)))))))))
            have hG231 := g_wf hG206 W229 rfl rfl (by decide)
            have F232 := FR.w F210 W229 (show 1 = 1 ∧ 5 ≤ 10 ∨ 3 ≤ 1 ∧ 1 ≤ 5 ∨ 1 = 33 by decide)
            refine to_an (pc := 5) rw_84_5 rfl (to_an (pc := 6) rw_84_6 rfl ?_)
            have c_233 : M230.2.1 1 9 = (M.2.1 1 9) := (W_n W229 (by decide) (F_n F205 (show ¬ (1 < 0) by decide) (F_n F70 (show ¬ (1 < 0) by decide) rfl)))
            refine tt_gI (pc := 7) rw_84_7 (g_o hG231 rfl) (v := (M.2.1 1 9)) c_233 (s_pI (pc := 10) rw_84_10 hG231 rfl (fun M235 W234 => ?_))
            have hG236 := g_wf hG231 W234 rfl rfl (by decide)
            have F237 := FR.w F232 W234 (show 1 = 1 ∧ 5 ≤ 11 ∨ 3 ≤ 1 ∧ 1 ≤ 5 ∨ 1 = 33 by decide)
            refine to_c (pc := 13) rw_84_13 (x := (0 : Int32)) rfl rfl (s_r1 (pc := 14) rw_84_14 (A := 0) rfl (by decide) (s_r1 (pc := 85) rw_103_85 (A := 0) rfl (by decide) ?_))
            have k_238 : (0 : Int32).toInt = 0 := rfl
            have c_239 : M235.2.1 1 10 = (4 : Int32) := (W_n W234 (by decide) (W_e W229))
            have k_240 : (4 : Int32).toInt = 4 := rfl
            have t_241 : (M235.2.1 1 10).toInt = (4 : Int32).toInt := congrArg Int32.toInt c_239
            have c_242 : M235.2.1 1 11 = (M.2.1 1 9) := (W_e W234)
            have t_243 : (M235.2.1 1 11).toInt = (M.2.1 1 9).toInt := congrArg Int32.toInt c_242
            exact h (0 : Int32) M235 hG236 F237 (by decide) (by decide) (by omega)
          · refine to_c (pc := 12) rw_43_12 (x := (1 : Int32)) rfl rfl (to_go (pc := 13) rw_43_13 (s_r1 (pc := 17) rw_43_17 (A := 1) rfl (by decide) (b_ine_t (pc := 77) rw_103_77 (A := 1) rfl (by decide) (to_an (pc := 86) rw_103_86 rfl (s_gR (pc := 87) rw_103_87 hG206 (by rcases hp with rfl | rfl <;> rfl) (v := (p + 3)) (by rcases hp with rfl | rfl <;> rfl) (to_i (pc := 90) rw_103_90 rfl (s_ial (pc := 92) rw_103_92 hG206 (by rcases hp with rfl | rfl <;> rfl) (n := 8) (by rcases hp with rfl | rfl <;> rfl) (by rcases hp with rfl | rfl <;> rfl) (A := r204.toInt) rfl (by omega) (by omega) (lo := 0) (hi := 59) (by rcases hp with rfl | rfl <;> rfl) (by rcases hp with rfl | rfl <;> rfl) (fun v244 w_245 _ _ => to_is (pc := 93) rw_103_93 (ls2 := [.ref 28, .ref 1, .ref p, .ref 11, .int s, .int v244, .int v2, .int r69, .int r204]) rfl rfl (to_an (pc := 95) rw_103_95 rfl (to_i (pc := 96) rw_103_96 rfl (s_v (pc := 98) rw_103_98 (dp0 hd (by decide)) (ls0 := [.ref p, .int r204]) rfl (Nat.le_of_ble_eq_true rfl) (Nat.le_of_ble_eq_true rfl) rfl (to_rc rfl rfl rfl (g_o hG206 (by rcases hp with rfl | rfl <;> rfl))) rfl ?_)))))))))))
            refine to_an (pc := 0) rw_47_0 rfl (s_gR (pc := 1) rw_47_1 hG206 (by rcases hp with rfl | rfl <;> rfl) (v := (p + 4)) (by rcases hp with rfl | rfl <;> rfl) (to_in (pc := 4) rw_47_4 rfl (s_ial (pc := 5) rw_47_5 hG206 (by rcases hp with rfl | rfl <;> rfl) (n := 8) (by rcases hp with rfl | rfl <;> rfl) (by rcases hp with rfl | rfl <;> rfl) (A := r204.toInt) rfl (by omega) (by omega) (lo := 0) (hi := 63) (by rcases hp with rfl | rfl <;> rfl) (by rcases hp with rfl | rfl <;> rfl) (fun v246 w_247 _ _ => to_an (pc := 6) rw_47_6 rfl (s_gR (pc := 7) rw_47_7 hG206 (by rcases hp with rfl | rfl <;> rfl) (v := (p + 3)) (by rcases hp with rfl | rfl <;> rfl) (to_in (pc := 10) rw_47_10 rfl (s_ialk (pc := 11) rw_47_11 hG206 (by rcases hp with rfl | rfl <;> rfl) (n := 8) (by rcases hp with rfl | rfl <;> rfl) (by rcases hp with rfl | rfl <;> rfl) (A := r204.toInt) rfl (by omega) (by omega) (v := v244) w_245 (s_sub (pc := 12) rw_47_12 (A := v246.toInt) (B := v244.toInt) rfl rfl (by omega) (fun v250 e251 => to_c (pc := 13) rw_47_13 (x := (1 : Int32)) rfl rfl (s_add (pc := 14) rw_47_14 (A := v250.toInt) (B := 1) rfl rfl (by omega) (fun v252 e253 => to_r0 (pc := 15) rw_47_15 ?_)))))))))))
            refine to_c (pc := 101) rw_103_101 (x := (1 : Int32)) rfl rfl (s_sub (pc := 102) rw_103_102 (A := v252.toInt) (B := 1) rfl rfl (by omega) (fun v254 e255 => to_is (pc := 103) rw_103_103 (ls2 := [.ref 28, .ref 1, .ref p, .ref 11, .int s, .int v244, .int v254, .int r69, .int r204]) rfl rfl (to_an (pc := 105) rw_103_105 rfl (s_v (pc := 106) rw_103_106 (dp0 hd (by decide)) (ls0 := [.ref 1]) rfl (Nat.le_of_ble_eq_true rfl) (Nat.le_of_ble_eq_true rfl) rfl (to_rc rfl rfl rfl (g_o hG206 rfl)) rfl (C_83 hX (dp1 hd (by decide)) hG206  (fun M258 hG257 F256 => ?_))))))
            have F259 := FR.c F210 F256 tg_230
            refine to_an (pc := 109) rw_103_109 rfl (to_c (pc := 110) rw_103_110 (x := (0 : Int32)) rfl rfl (to_i (pc := 111) rw_103_111 rfl (s_v (pc := 113) rw_103_113 (dp0 hd (by decide)) (ls0 := [.ref 1, .int (0 : Int32), .int v254]) rfl (Nat.le_of_ble_eq_true rfl) (Nat.le_of_ble_eq_true rfl) rfl (to_rc rfl rfl rfl (g_o hG257 rfl)) rfl (to_an (pc := 0) rw_88_0 rfl (tt_gI (pc := 1) rw_88_1 (g_o hG257 rfl) (v := (M258.2.1 1 7)) rfl (to_c (pc := 4) rw_88_4 (x := (2 : Int32)) rfl rfl (b_ceq (pc := 5) rw_88_5 (A := (M258.2.1 1 7).toInt) (B := 2) rfl rfl (fun h260 => ?_) (fun h260 => ?_))))))))
            · refine to_an (pc := 14) rw_88_14 rfl (tt_gI (pc := 15) rw_88_15 (g_o hG257 rfl) (v := (M258.2.1 1 8)) rfl (to_in (pc := 18) rw_88_18 rfl (b_clt (pc := 19) rw_88_19 (A := (M258.2.1 1 8).toInt) (B := 0) rfl rfl (fun h261 => ?_) (fun h261 => ?_))))
              · refine to_an (pc := 30) rw_88_30 rfl (to_c (pc := 31) rw_88_31 (x := (2 : Int32)) rfl rfl (s_v (pc := 32) rw_88_32 (dp1 hd (by decide)) (ls0 := [.ref 1, .int (2 : Int32)]) rfl (Nat.le_of_ble_eq_true rfl) (Nat.le_of_ble_eq_true rfl) rfl (to_rc rfl rfl rfl (g_o hG257 rfl)) rfl (to_an (pc := 0) rw_84_0 rfl (to_in (pc := 1) rw_84_1 rfl (s_pI (pc := 2) rw_84_2 hG257 rfl (fun M263 W262 => ?_))))))
                have hG264 := g_wf hG257 W262 rfl rfl (by decide)
                have F265 := FR.w F259 W262 (show 1 = 1 ∧ 5 ≤ 10 ∨ 3 ≤ 1 ∧ 1 ≤ 5 ∨ 1 = 33 by decide)
                refine to_an (pc := 5) rw_84_5 rfl (to_an (pc := 6) rw_84_6 rfl ?_)
                have c_266 : M263.2.1 1 9 = (M258.2.1 1 9) := (W_n W262 (by decide) rfl)
                refine tt_gI (pc := 7) rw_84_7 (g_o hG264 rfl) (v := (M258.2.1 1 9)) c_266 (s_pI (pc := 10) rw_84_10 hG264 rfl (fun M268 W267 => ?_))
                have hG269 := g_wf hG264 W267 rfl rfl (by decide)
                have F270 := FR.w F265 W267 (show 1 = 1 ∧ 5 ≤ 11 ∨ 3 ≤ 1 ∧ 1 ≤ 5 ∨ 1 = 33 by decide)
                refine to_c (pc := 13) rw_84_13 (x := (0 : Int32)) rfl rfl (s_r1 (pc := 14) rw_84_14 (A := 0) rfl (by decide) (b_ieq_t (pc := 35) rw_88_35 (A := 0) rfl (by decide) (to_c (pc := 42) rw_88_42 (x := (0 : Int32)) rfl rfl (s_r1 (pc := 43) rw_88_43 (A := 0) rfl (by decide) (b_ine_f (pc := 116) rw_103_116 (A := 0) rfl (by decide) (to_c (pc := 119) rw_103_119 (x := (0 : Int32)) rfl rfl (s_r1 (pc := 120) rw_103_120 (A := 0) rfl (by decide) ?_)))))))
                have k_271 : (0 : Int32).toInt = 0 := rfl
                have c_272 : M268.2.1 1 10 = (2 : Int32) := (W_n W267 (by decide) (W_e W262))
                have k_273 : (2 : Int32).toInt = 2 := rfl
                have t_274 : (M268.2.1 1 10).toInt = (2 : Int32).toInt := congrArg Int32.toInt c_272
                have c_275 : M268.2.1 1 11 = (M258.2.1 1 9) := (W_e W267)
                have t_276 : (M268.2.1 1 11).toInt = (M258.2.1 1 9).toInt := congrArg Int32.toInt c_275
                exact h (0 : Int32) M268 hG269 F270 (by decide) (by decide) (by omega)
              · refine to_an (pc := 22) rw_88_22 rfl (tt_gI (pc := 23) rw_88_23 (g_o hG257 rfl) (v := (M258.2.1 1 8)) rfl (to_in (pc := 26) rw_88_26 rfl (b_cle (pc := 27) rw_88_27 (A := (M258.2.1 1 8).toInt) (B := v254.toInt) rfl rfl (fun h277 => ?_) (fun h277 => ?_))))
                · refine to_c (pc := 38) rw_88_38 (x := (1 : Int32)) rfl rfl (to_go (pc := 39) rw_88_39 (s_r1 (pc := 43) rw_88_43 (A := 1) rfl (by decide) (b_ine_t (pc := 116) rw_103_116 (A := 1) rfl (by decide) (to_an (pc := 121) rw_103_121 rfl (s_gR (pc := 122) rw_103_122 hG257 rfl (v := 33) rfl (to_i (pc := 125) rw_103_125 rfl (to_dup2 (pc := 127) rw_103_127 (s_lal (pc := 128) rw_103_128 hG257 rfl (n := 40) rfl (A := s.toInt) rfl (by omega) (by omega) (fun l278 => s_cl (pc := 129) rw_103_129 rfl (fun l279 => to_i (pc := 130) rw_103_130 rfl (to_an (pc := 132) rw_103_132 rfl ?_)))))))))))
                  refine tt_gI (pc := 133) rw_103_133 (g_o hG257 rfl) (v := (M258.2.1 1 8)) rfl (s_add (pc := 136) rw_103_136 (A := v244.toInt) (B := (M258.2.1 1 8).toInt) rfl rfl (by omega) (fun v280 e281 => s_anyS (pc := 137) rw_103_137 (fun _ _ => rfl) (fun l282 => s_anyL (pc := 138) rw_103_138 (fun _ _ => rfl) (fun l283 => s_las (pc := 139) rw_103_139 hG257 rfl (n := 40) rfl (A := s.toInt) rfl (by omega) (by omega) (fun M285 W284 => ?_)))))
                  have hG286 := g_wl hG257 W284
                  have F287 := FR.wl F259 W284 (show 33 = 1 ∧ 5 ≤ (s.toInt).toNat ∨ 3 ≤ 33 ∧ 33 ≤ 5 ∨ 33 = 33 by omega)
                  refine to_an (pc := 140) rw_103_140 rfl (s_v (pc := 141) rw_103_141 (dp0 hd (by decide)) (ls0 := [.ref 1]) rfl (Nat.le_of_ble_eq_true rfl) (Nat.le_of_ble_eq_true rfl) rfl (to_rc rfl rfl rfl (g_o hG286 rfl)) rfl (C_83 hX (dp1 hd (by decide)) hG286  (fun M290 hG289 F288 => ?_)))
                  have F291 := FR.c F287 F288 tg_230
                  refine to_c (pc := 144) rw_103_144 (x := (1 : Int32)) rfl rfl (s_r1 (pc := 145) rw_103_145 (A := 1) rfl (by decide) ?_)
                  have k_292 : (1 : Int32).toInt = 1 := rfl
                  exact h (1 : Int32) M290 hG289 F291 (by decide) (by decide) (by omega)
                · refine to_an (pc := 30) rw_88_30 rfl (to_c (pc := 31) rw_88_31 (x := (2 : Int32)) rfl rfl (s_v (pc := 32) rw_88_32 (dp1 hd (by decide)) (ls0 := [.ref 1, .int (2 : Int32)]) rfl (Nat.le_of_ble_eq_true rfl) (Nat.le_of_ble_eq_true rfl) rfl (to_rc rfl rfl rfl (g_o hG257 rfl)) rfl (to_an (pc := 0) rw_84_0 rfl (to_in (pc := 1) rw_84_1 rfl (s_pI (pc := 2) rw_84_2 hG257 rfl (fun M294 W293 => ?_))))))
                  have hG295 := g_wf hG257 W293 rfl rfl (by decide)
                  have F296 := FR.w F259 W293 (show 1 = 1 ∧ 5 ≤ 10 ∨ 3 ≤ 1 ∧ 1 ≤ 5 ∨ 1 = 33 by decide)
                  refine to_an (pc := 5) rw_84_5 rfl (to_an (pc := 6) rw_84_6 rfl ?_)
                  have c_297 : M294.2.1 1 9 = (M258.2.1 1 9) := (W_n W293 (by decide) rfl)
                  refine tt_gI (pc := 7) rw_84_7 (g_o hG295 rfl) (v := (M258.2.1 1 9)) c_297 (s_pI (pc := 10) rw_84_10 hG295 rfl (fun M299 W298 => ?_))
                  have hG300 := g_wf hG295 W298 rfl rfl (by decide)
                  have F301 := FR.w F296 W298 (show 1 = 1 ∧ 5 ≤ 11 ∨ 3 ≤ 1 ∧ 1 ≤ 5 ∨ 1 = 33 by decide)
                  refine to_c (pc := 13) rw_84_13 (x := (0 : Int32)) rfl rfl (s_r1 (pc := 14) rw_84_14 (A := 0) rfl (by decide) (b_ieq_t (pc := 35) rw_88_35 (A := 0) rfl (by decide) (to_c (pc := 42) rw_88_42 (x := (0 : Int32)) rfl rfl (s_r1 (pc := 43) rw_88_43 (A := 0) rfl (by decide) (b_ine_f (pc := 116) rw_103_116 (A := 0) rfl (by decide) (to_c (pc := 119) rw_103_119 (x := (0 : Int32)) rfl rfl (s_r1 (pc := 120) rw_103_120 (A := 0) rfl (by decide) ?_)))))))
                  have k_302 : (0 : Int32).toInt = 0 := rfl
                  have c_303 : M299.2.1 1 10 = (2 : Int32) := (W_n W298 (by decide) (W_e W293))
                  have k_304 : (2 : Int32).toInt = 2 := rfl
                  have t_305 : (M299.2.1 1 10).toInt = (2 : Int32).toInt := congrArg Int32.toInt c_303
                  have c_306 : M299.2.1 1 11 = (M258.2.1 1 9) := (W_e W298)
                  have t_307 : (M299.2.1 1 11).toInt = (M258.2.1 1 9).toInt := congrArg Int32.toInt c_306
                  exact h (0 : Int32) M299 hG300 F301 (by decide) (by decide) (by omega)
            · refine to_an (pc := 8) rw_88_8 rfl (to_c (pc := 9) rw_88_9 (x := (1 : Int32)) rfl rfl (s_v (pc := 10) rw_88_10 (dp1 hd (by decide)) (ls0 := [.ref 1, .int (1 : Int32)]) rfl (Nat.le_of_ble_eq_true rfl) (Nat.le_of_ble_eq_true rfl) rfl (to_rc rfl rfl rfl (g_o hG257 rfl)) rfl (to_an (pc := 0) rw_84_0 rfl (to_in (pc := 1) rw_84_1 rfl (s_pI (pc := 2) rw_84_2 hG257 rfl (fun M309 W308 => ?_))))))
              have hG310 := g_wf hG257 W308 rfl rfl (by decide)
              have F311 := FR.w F259 W308 (show 1 = 1 ∧ 5 ≤ 10 ∨ 3 ≤ 1 ∧ 1 ≤ 5 ∨ 1 = 33 by decide)
              refine to_an (pc := 5) rw_84_5 rfl (to_an (pc := 6) rw_84_6 rfl ?_)
              have c_312 : M309.2.1 1 9 = (M258.2.1 1 9) := (W_n W308 (by decide) rfl)
              refine tt_gI (pc := 7) rw_84_7 (g_o hG310 rfl) (v := (M258.2.1 1 9)) c_312 (s_pI (pc := 10) rw_84_10 hG310 rfl (fun M314 W313 => ?_))
              have hG315 := g_wf hG310 W313 rfl rfl (by decide)
              have F316 := FR.w F311 W313 (show 1 = 1 ∧ 5 ≤ 11 ∨ 3 ≤ 1 ∧ 1 ≤ 5 ∨ 1 = 33 by decide)
              refine to_c (pc := 13) rw_84_13 (x := (0 : Int32)) rfl rfl (s_r1 (pc := 14) rw_84_14 (A := 0) rfl (by decide) (s_r1 (pc := 13) rw_88_13 (A := 0) rfl (by decide) (b_ine_f (pc := 116) rw_103_116 (A := 0) rfl (by decide) (to_c (pc := 119) rw_103_119 (x := (0 : Int32)) rfl rfl (s_r1 (pc := 120) rw_103_120 (A := 0) rfl (by decide) ?_)))))
              have k_317 : (0 : Int32).toInt = 0 := rfl
              have c_318 : M314.2.1 1 10 = (1 : Int32) := (W_n W313 (by decide) (W_e W308))
              have k_319 : (1 : Int32).toInt = 1 := rfl
              have t_320 : (M314.2.1 1 10).toInt = (1 : Int32).toInt := congrArg Int32.toInt c_318
              have c_321 : M314.2.1 1 11 = (M258.2.1 1 9) := (W_e W313)
              have t_322 : (M314.2.1 1 11).toInt = (M258.2.1 1 9).toInt := congrArg Int32.toInt c_321
              exact h (0 : Int32) M314 hG315 F316 (by decide) (by decide) (by omega)
      · refine to_c (pc := 12) rw_44_12 (x := (1 : Int32)) rfl rfl (to_go (pc := 13) rw_44_13 (s_r1 (pc := 17) rw_44_17 (A := 1) rfl (by decide) (b_ieq_f (pc := 35) rw_103_35 (A := 1) rfl (by decide) (to_an (pc := 38) rw_103_38 rfl (s_gR (pc := 39) rw_103_39 hG71 rfl (v := 33) rfl (to_i (pc := 42) rw_103_42 rfl (to_dup2 (pc := 44) rw_103_44 (s_lal (pc := 45) rw_103_45 hG71 rfl (n := 40) rfl (A := s.toInt) rfl (by omega) (by omega) (fun l323 => to_an (pc := 46) rw_103_46 rfl (s_gR (pc := 47) rw_103_47 hG71 rfl (v := 15) rfl (to_i (pc := 50) rw_103_50 rfl ?_)))))))))))
        refine s_lal (pc := 52) rw_103_52 hG71 rfl (n := 12) rfl (A := r69.toInt) rfl (by omega) (by omega) (fun l324 => s_anyL (pc := 53) rw_103_53 (fun _ _ => rfl) (fun l325 => s_las (pc := 54) rw_103_54 hG71 rfl (n := 40) rfl (A := s.toInt) rfl (by omega) (by omega) (fun M327 W326 => ?_)))
        have hG328 := g_wl hG71 W326
        have F329 := FR.wl F75 W326 (show 33 = 1 ∧ 5 ≤ (s.toInt).toNat ∨ 3 ≤ 33 ∧ 33 ≤ 5 ∨ 33 = 33 by omega)
        refine to_an (pc := 55) rw_103_55 rfl (s_v (pc := 56) rw_103_56 (dp0 hd (by decide)) (ls0 := [.ref 1]) rfl (Nat.le_of_ble_eq_true rfl) (Nat.le_of_ble_eq_true rfl) rfl (to_rc rfl rfl rfl (g_o hG328 rfl)) rfl (C_83 hX (dp1 hd (by decide)) hG328  (fun M332 hG331 F330 => ?_)))
        have F333 := FR.c F329 F330 tg_230
        refine to_c (pc := 59) rw_103_59 (x := (1 : Int32)) rfl rfl (s_r1 (pc := 60) rw_103_60 (A := 1) rfl (by decide) ?_)
        have k_334 : (1 : Int32).toInt = 1 := rfl
        exact h (1 : Int32) M332 hG331 F333 (by decide) (by decide) (by omega)
set_option maxRecDepth 4000 in
set_option maxHeartbeats 0 in
theorem T_101_0 {X : mm_X} {d : Nat} {M : mm_M} {Q : Option Value → mm_M → Prop} {p : Nat} {s : Int32} (hX : g_X X) (hd : 3 ≤ d) (hp : p = 49 ∨ p = 58) (q1 : 0 ≤ s.toInt) (q2 : s.toInt ≤ 39) (h : ∀ (r : Int32) (M1 : mm_M), g_G M1 → FR md_wr M M1 → (0 ≤ r.toInt) → (r.toInt ≤ 1) → (r.toInt = 1 → (M1.2.1 1 10).toInt = (M.2.1 1 10).toInt ∧ (M1.2.1 1 11).toInt = (M.2.1 1 11).toInt) → Q (some (.int r)) M1) : ∀ nn9 : Nat, (∀ (N : mm_M) (x5 : Int32), g_G N → FR md_wr M N → (0 ≤ x5.toInt) → (x5.toInt ≤ 500) → (0 ≤ s.toInt) → (s.toInt ≤ 39) → ((N.2.1 1 10).toInt = (M.2.1 1 10).toInt ∧ (N.2.1 1 11).toInt = (M.2.1 1 11).toInt) → 500 - x5.toInt < (nn9 : Int) → mm_T X d 101 89 [.ref 28, .ref 1, .ref p, .ref 11, .int s, .int x5] [] N Q) := by
  intro nn9
  induction nn9 with
  | zero =>
    intro N x5 hG F0 g1 g2 g3 g4 g5 hm
    exfalso; omega
  | succ nn9 ih =>
    intro N x5 hG F0 g1 g2 g3 g4 g5 hm
    refine to_i (pc := 89) rw_101_89 rfl (to_c (pc := 91) rw_101_91 (x := (500 : Int32)) rfl rfl (b_cge (pc := 94) rw_101_94 (A := x5.toInt) (B := 500) rfl rfl (fun h1 => ?_) (fun h1 => ?_)))
    · refine to_an (pc := 126) rw_101_126 rfl (to_c (pc := 127) rw_101_127 (x := (59 : Int32)) rfl rfl (s_v (pc := 129) rw_101_129 (dp0 hd (by decide)) (ls0 := [.ref 1, .int (59 : Int32)]) rfl (Nat.le_of_ble_eq_true rfl) (Nat.le_of_ble_eq_true rfl) rfl (to_rc rfl rfl rfl (g_o hG rfl)) rfl ?_))
      have k_2 : (59 : Int32).toInt = 59 := rfl
      refine C_90 hX (dp1 hd (by decide)) hG (x := (59 : Int32)) (fun r3 M10 hG5 F4 p_6 p_7 p_8 p_9 => ?_)
      have F11 := FR.c F0 F4 tg_229
      refine s_r1 (pc := 132) rw_101_132 (A := r3.toInt) rfl (by omega) ?_
      exact h r3 M10 hG5 F11 (by omega) (by omega) (by omega)
    · refine to_an (pc := 97) rw_101_97 rfl (tt_gI (pc := 98) rw_101_98 (g_o hG rfl) (v := (N.2.1 1 7)) rfl (to_c (pc := 101) rw_101_101 (x := (59 : Int32)) rfl rfl (b_ceq (pc := 103) rw_101_103 (A := (N.2.1 1 7).toInt) (B := 59) rfl rfl (fun h12 => ?_) (fun h12 => ?_))))
      · refine to_an (pc := 126) rw_101_126 rfl (to_c (pc := 127) rw_101_127 (x := (59 : Int32)) rfl rfl (s_v (pc := 129) rw_101_129 (dp0 hd (by decide)) (ls0 := [.ref 1, .int (59 : Int32)]) rfl (Nat.le_of_ble_eq_true rfl) (Nat.le_of_ble_eq_true rfl) rfl (to_rc rfl rfl rfl (g_o hG rfl)) rfl ?_))
        have k_13 : (59 : Int32).toInt = 59 := rfl
        refine C_90 hX (dp1 hd (by decide)) hG (x := (59 : Int32)) (fun r14 M21 hG16 F15 p_17 p_18 p_19 p_20 => ?_)
        have F22 := FR.c F0 F15 tg_229
        refine s_r1 (pc := 132) rw_101_132 (A := r14.toInt) rfl (by omega) ?_
        exact h r14 M21 hG16 F22 (by omega) (by omega) (by omega)
      · refine to_an (pc := 106) rw_101_106 rfl (to_an (pc := 107) rw_101_107 rfl (to_an (pc := 108) rw_101_108 rfl (to_an (pc := 109) rw_101_109 rfl (to_i (pc := 110) rw_101_110 rfl (s_v (pc := 112) rw_101_112 (dp0 hd (by decide)) (ls0 := [.ref 28, .ref 1, .ref p, .ref 11, .int s, .null, .null, .null, .null]) rfl (Nat.le_of_ble_eq_true rfl) (Nat.le_of_ble_eq_true rfl) rfl (to_rc rfl rfl rfl (g_o hG rfl)) rfl (C_103 hX (dp1 hd (by decide)) hG hp (by omega) (by omega) (p := p) (s := s) (fun r23 M29 hG25 F24 p_26 p_27 p_28 => ?_)))))))
        have F30 := FR.c F0 F24 tg_232
        refine b_ine (pc := 115) rw_101_115 (A := r23.toInt) rfl (fun h31 => ?_) (fun h31 => ?_)
        · refine s_inc (pc := 120) rw_101_120 (ls2 := fun v => [.ref 28, .ref 1, .ref p, .ref 11, .int s, .int v]) rfl rfl (fun _ => rfl) (A := x5.toInt) (B := 1) rfl rfl (by omega) (fun v32 e33 => to_go (pc := 123) rw_101_123 ?_)
          exact ih M29 v32 hG25 F30 (by omega) (by omega) (by omega) (by omega) (by omega) (by omega)
        · refine to_c (pc := 118) rw_101_118 (x := (0 : Int32)) rfl rfl (s_r1 (pc := 119) rw_101_119 (A := 0) rfl (by decide) ?_)
          have k_34 : (0 : Int32).toInt = 0 := rfl
          exact h (0 : Int32) M29 hG25 F30 (by decide) (by decide) (by omega)
set_option maxRecDepth 4000 in
set_option maxHeartbeats 0 in
theorem C_101 {X : mm_X} {d : Nat} {M : mm_M} {Q : Option Value → mm_M → Prop} {p : Nat} {s : Int32} (hX : g_X X) (hd : 3 ≤ d) (hG : g_G M) (hp : p = 49 ∨ p = 58) (q1 : 0 ≤ s.toInt) (q2 : s.toInt ≤ 39) (h : ∀ (r : Int32) (M1 : mm_M), g_G M1 → FR md_wr M M1 → (0 ≤ r.toInt) → (r.toInt ≤ 1) → (r.toInt = 1 → (M1.2.1 1 10).toInt = (M.2.1 1 10).toInt ∧ (M1.2.1 1 11).toInt = (M.2.1 1 11).toInt) → Q (some (.int r)) M1) : mm_T X d 101 0 [.ref 28, .ref 1, .ref p, .ref 11, .int s, .null] [] M Q := by
  have F0 : FR md_wr M M := FR.rf
  refine to_an (pc := 0) rw_101_0 rfl (to_an (pc := 1) rw_101_1 rfl (to_an (pc := 2) rw_101_2 rfl (s_gR (pc := 3) rw_101_3 hG rfl (v := 30) rfl (to_i (pc := 6) rw_101_6 rfl (s_v (pc := 8) rw_101_8 (dp0 hd (by decide)) (ls0 := [.ref 28, .ref 1, .ref 30, .int s, .null]) rfl (Nat.le_of_ble_eq_true rfl) (Nat.le_of_ble_eq_true rfl) rfl (to_rc rfl rfl rfl (g_o hG rfl)) rfl (C_102 hX (dp1 hd (by decide)) hG (by decide) (by omega) (by omega) (w := 30) (s := s) (fun r35 M41 hG37 F36 p_38 p_39 p_40 => ?_)))))))
  have F42 := FR.c F0 F36 tg_233
  refine b_ieq (pc := 11) rw_101_11 (A := r35.toInt) rfl (fun h43 => ?_) (fun h43 => ?_)
  · refine to_c (pc := 23) rw_101_23 (x := (0 : Int32)) rfl rfl (s_r1 (pc := 24) rw_101_24 (A := 0) rfl (by decide) ?_)
    have k_44 : (0 : Int32).toInt = 0 := rfl
    exact h (0 : Int32) M41 hG37 F42 (by decide) (by decide) (by omega)
  · refine to_an (pc := 14) rw_101_14 rfl (to_c (pc := 15) rw_101_15 (x := (686817280 : Int32)) rfl rfl (s_v (pc := 17) rw_101_17 (dp0 hd (by decide)) (ls0 := [.ref 1, .int (686817280 : Int32)]) rfl (Nat.le_of_ble_eq_true rfl) (Nat.le_of_ble_eq_true rfl) rfl (to_rc rfl rfl rfl (g_o hG37 rfl)) rfl ?_))
    have k_45 : (686817280 : Int32).toInt = 686817280 := rfl
    refine C_89 hX (dp1 hd (by decide)) hG37 (x := (686817280 : Int32)) (fun r46 M52 hG48 F47 p_49 p_50 p_51 => ?_)
    have F53 := FR.c F42 F47 tg_229
    refine b_ine (pc := 20) rw_101_20 (A := r46.toInt) rfl (fun h54 => ?_) (fun h54 => ?_)
    · refine to_an (pc := 25) rw_101_25 rfl (to_an (pc := 26) rw_101_26 rfl (to_an (pc := 27) rw_101_27 rfl (s_gR (pc := 28) rw_101_28 hG48 rfl (v := 31) rfl (to_i (pc := 31) rw_101_31 rfl (s_v (pc := 33) rw_101_33 (dp0 hd (by decide)) (ls0 := [.ref 28, .ref 1, .ref 31, .int s, .null]) rfl (Nat.le_of_ble_eq_true rfl) (Nat.le_of_ble_eq_true rfl) rfl (to_rc rfl rfl rfl (g_o hG48 rfl)) rfl (C_102 hX (dp1 hd (by decide)) hG48 (by decide) (by omega) (by omega) (w := 31) (s := s) (fun r55 M61 hG57 F56 p_58 p_59 p_60 => ?_)))))))
      have F62 := FR.c F53 F56 tg_233
      refine b_ieq (pc := 36) rw_101_36 (A := r55.toInt) rfl (fun h63 => ?_) (fun h63 => ?_)
      · refine to_c (pc := 62) rw_101_62 (x := (0 : Int32)) rfl rfl (s_r1 (pc := 63) rw_101_63 (A := 0) rfl (by decide) ?_)
        have k_64 : (0 : Int32).toInt = 0 := rfl
        exact h (0 : Int32) M61 hG57 F62 (by decide) (by decide) (by omega)
      · refine to_an (pc := 39) rw_101_39 rfl (to_an (pc := 40) rw_101_40 rfl (to_an (pc := 41) rw_101_41 rfl (s_gR (pc := 42) rw_101_42 hG57 rfl (v := 32) rfl (to_i (pc := 45) rw_101_45 rfl (s_v (pc := 47) rw_101_47 (dp0 hd (by decide)) (ls0 := [.ref 28, .ref 1, .ref 32, .int s, .null]) rfl (Nat.le_of_ble_eq_true rfl) (Nat.le_of_ble_eq_true rfl) rfl (to_rc rfl rfl rfl (g_o hG57 rfl)) rfl (C_102 hX (dp1 hd (by decide)) hG57 (by decide) (by omega) (by omega) (w := 32) (s := s) (fun r65 M71 hG67 F66 p_68 p_69 p_70 => ?_)))))))
        have F72 := FR.c F62 F66 tg_233
        refine b_ieq (pc := 50) rw_101_50 (A := r65.toInt) rfl (fun h73 => ?_) (fun h73 => ?_)
        · refine to_c (pc := 62) rw_101_62 (x := (0 : Int32)) rfl rfl (s_r1 (pc := 63) rw_101_63 (A := 0) rfl (by decide) ?_)
          have k_74 : (0 : Int32).toInt = 0 := rfl
          exact h (0 : Int32) M71 hG67 F72 (by decide) (by decide) (by omega)
        · refine to_an (pc := 53) rw_101_53 rfl (to_c (pc := 54) rw_101_54 (x := (93323264 : Int32)) rfl rfl (s_v (pc := 56) rw_101_56 (dp0 hd (by decide)) (ls0 := [.ref 1, .int (93323264 : Int32)]) rfl (Nat.le_of_ble_eq_true rfl) (Nat.le_of_ble_eq_true rfl) rfl (to_rc rfl rfl rfl (g_o hG67 rfl)) rfl ?_))
          have k_75 : (93323264 : Int32).toInt = 93323264 := rfl
          refine C_89 hX (dp1 hd (by decide)) hG67 (x := (93323264 : Int32)) (fun r76 M82 hG78 F77 p_79 p_80 p_81 => ?_)
          have F83 := FR.c F72 F77 tg_229
          refine b_ine (pc := 59) rw_101_59 (A := r76.toInt) rfl (fun h84 => ?_) (fun h84 => ?_)
          · refine to_an (pc := 64) rw_101_64 rfl (s_gR (pc := 65) rw_101_65 hG78 rfl (v := 33) rfl (to_i (pc := 68) rw_101_68 rfl (s_cl (pc := 70) rw_101_70 rfl (fun l85 => s_las (pc := 71) rw_101_71 hG78 rfl (n := 40) rfl (A := s.toInt) rfl (by omega) (by omega) (fun M87 W86 => ?_)))))
            have hG88 := g_wl hG78 W86
            have F89 := FR.wl F83 W86 (show 33 = 1 ∧ 5 ≤ (s.toInt).toNat ∨ 3 ≤ 33 ∧ 33 ≤ 5 ∨ 29 ≤ 33 ∧ 33 ≤ 35 by omega)
            refine to_an (pc := 72) rw_101_72 rfl (to_an (pc := 73) rw_101_73 rfl (to_an (pc := 74) rw_101_74 rfl (to_an (pc := 75) rw_101_75 rfl (to_i (pc := 76) rw_101_76 rfl (s_v (pc := 78) rw_101_78 (dp0 hd (by decide)) (ls0 := [.ref 28, .ref 1, .ref p, .ref 11, .int s, .null, .null, .null, .null]) rfl (Nat.le_of_ble_eq_true rfl) (Nat.le_of_ble_eq_true rfl) rfl (to_rc rfl rfl rfl (g_o hG88 rfl)) rfl ?_)))))
            have c_90 : M87.2.1 1 10 = (M82.2.1 1 10) := (W_l W86 rfl)
            have t_91 : (M87.2.1 1 10).toInt = (M82.2.1 1 10).toInt := congrArg Int32.toInt c_90
            have c_92 : M87.2.1 1 11 = (M82.2.1 1 11) := (W_l W86 rfl)
            have t_93 : (M87.2.1 1 11).toInt = (M82.2.1 1 11).toInt := congrArg Int32.toInt c_92
            refine C_103 hX (dp1 hd (by decide)) hG88 hp (by omega) (by omega) (p := p) (s := s) (fun r94 M100 hG96 F95 p_97 p_98 p_99 => ?_)
            have F101 := FR.c F89 F95 tg_232
            refine b_ine (pc := 81) rw_101_81 (A := r94.toInt) rfl (fun h102 => ?_) (fun h102 => ?_)
            · refine to_c (pc := 86) rw_101_86 (x := (0 : Int32)) rfl rfl (to_is (pc := 87) rw_101_87 (ls2 := [.ref 28, .ref 1, .ref p, .ref 11, .int s, .int (0 : Int32)]) rfl rfl ?_)
              have k_103 : (0 : Int32).toInt = 0 := rfl
              exact (T_101_0 (p := p) (s := s) hX hd hp q1 q2 h ((500 - (0 : Int32).toInt).toNat + 1)) M100 (0 : Int32) hG96 F101 (by omega) (by omega) (by omega) (by omega) (by omega) (by omega)
            · refine to_c (pc := 84) rw_101_84 (x := (0 : Int32)) rfl rfl (s_r1 (pc := 85) rw_101_85 (A := 0) rfl (by decide) ?_)
              have k_104 : (0 : Int32).toInt = 0 := rfl
              exact h (0 : Int32) M100 hG96 F101 (by decide) (by decide) (by omega)
          · refine to_c (pc := 62) rw_101_62 (x := (0 : Int32)) rfl rfl (s_r1 (pc := 63) rw_101_63 (A := 0) rfl (by decide) ?_)
            have k_105 : (0 : Int32).toInt = 0 := rfl
            exact h (0 : Int32) M82 hG78 F83 (by decide) (by decide) (by omega)
    · refine to_c (pc := 23) rw_101_23 (x := (0 : Int32)) rfl rfl (s_r1 (pc := 24) rw_101_24 (A := 0) rfl (by decide) ?_)
      have k_106 : (0 : Int32).toInt = 0 := rfl
      exact h (0 : Int32) M52 hG48 F53 (by decide) (by decide) (by omega)
set_option maxRecDepth 4000 in
set_option maxHeartbeats 0 in
theorem C_104 {X : mm_X} {d : Nat} {M : mm_M} {Q : Option Value → mm_M → Prop} {s : Int32} (hX : g_X X) (hd : 2 ≤ d) (hG : g_G M) (q1 : 0 ≤ s.toInt) (q2 : s.toInt ≤ 39) (h : ∀ (r : Int32) (M1 : mm_M), g_G M1 → FR md_wr M M1 → (0 ≤ r.toInt) → (r.toInt ≤ 1) → (r.toInt = 1 → (M1.2.1 1 10).toInt = (M.2.1 1 10).toInt ∧ (M1.2.1 1 11).toInt = (M.2.1 1 11).toInt) → Q (some (.int r)) M1) : mm_T X d 104 0 [.ref 28, .ref 1, .int s, .null] [] M Q := by
  have F0 : FR md_wr M M := FR.rf
  refine to_an (pc := 0) rw_104_0 rfl (to_an (pc := 1) rw_104_1 rfl (to_an (pc := 2) rw_104_2 rfl (s_gR (pc := 3) rw_104_3 hG rfl (v := 30) rfl (to_in (pc := 6) rw_104_6 rfl (s_v (pc := 7) rw_104_7 (dp0 hd (by decide)) (ls0 := [.ref 28, .ref 1, .ref 30, .int s, .null]) rfl (Nat.le_of_ble_eq_true rfl) (Nat.le_of_ble_eq_true rfl) rfl (to_rc rfl rfl rfl (g_o hG rfl)) rfl (C_102 hX (dp1 hd (by decide)) hG (by decide) (by omega) (by omega) (w := 30) (s := s) (fun r1 M7 hG3 F2 p_4 p_5 p_6 => ?_)))))))
  have F8 := FR.c F0 F2 tg_233
  refine b_ine (pc := 10) rw_104_10 (A := r1.toInt) rfl (fun h9 => ?_) (fun h9 => ?_)
  · refine to_an (pc := 15) rw_104_15 rfl (tt_gI (pc := 16) rw_104_16 (g_o hG3 rfl) (v := (M7.2.1 1 9)) rfl (to_isn (pc := 19) rw_104_19 (ls2 := [.ref 28, .ref 1, .int s, .int (M7.2.1 1 9)]) rfl rfl (to_an (pc := 20) rw_104_20 rfl (to_an (pc := 21) rw_104_21 rfl (to_an (pc := 22) rw_104_22 rfl (s_gR (pc := 23) rw_104_23 hG3 rfl (v := 31) rfl (to_in (pc := 26) rw_104_26 rfl (s_v (pc := 27) rw_104_27 (dp0 hd (by decide)) (ls0 := [.ref 28, .ref 1, .ref 31, .int s, .null]) rfl (Nat.le_of_ble_eq_true rfl) (Nat.le_of_ble_eq_true rfl) rfl (to_rc rfl rfl rfl (g_o hG3 rfl)) rfl (C_102 hX (dp1 hd (by decide)) hG3 (by decide) (by omega) (by omega) (w := 31) (s := s) (fun r10 M16 hG12 F11 p_13 p_14 p_15 => ?_))))))))))
    have F17 := FR.c F8 F11 tg_233
    refine b_ine (pc := 30) rw_104_30 (A := r10.toInt) rfl (fun h18 => ?_) (fun h18 => ?_)
    · refine to_an (pc := 35) rw_104_35 rfl (s_gR (pc := 36) rw_104_36 hG12 rfl (v := 30) rfl (to_in (pc := 39) rw_104_39 rfl (s_ial (pc := 40) rw_104_40 hG12 rfl (n := 40) rfl rfl (A := s.toInt) rfl (by omega) (by omega) (lo := 0) (hi := 5) rfl rfl (fun v19 w_20 _ _ => to_an (pc := 41) rw_104_41 rfl (s_gR (pc := 42) rw_104_42 hG12 rfl (v := 31) rfl (to_in (pc := 45) rw_104_45 rfl (s_ial (pc := 46) rw_104_46 hG12 rfl (n := 40) rfl rfl (A := s.toInt) rfl (by omega) (by omega) (lo := 0) (hi := 5) rfl rfl (fun v21 w_22 _ _ => b_cne (pc := 47) rw_104_47 (A := v19.toInt) (B := v21.toInt) rfl rfl (fun h23 => ?_) (fun h23 => ?_)))))))))
      · refine to_an (pc := 57) rw_104_57 rfl (to_c (pc := 58) rw_104_58 (x := (59 : Int32)) rfl rfl (s_v (pc := 60) rw_104_60 (dp0 hd (by decide)) (ls0 := [.ref 1, .int (59 : Int32)]) rfl (Nat.le_of_ble_eq_true rfl) (Nat.le_of_ble_eq_true rfl) rfl (to_rc rfl rfl rfl (g_o hG12 rfl)) rfl ?_))
        have k_24 : (59 : Int32).toInt = 59 := rfl
        refine C_90 hX (dp1 hd (by decide)) hG12 (x := (59 : Int32)) (fun r25 M32 hG27 F26 p_28 p_29 p_30 p_31 => ?_)
        have F33 := FR.c F17 F26 tg_229
        refine s_r1 (pc := 63) rw_104_63 (A := r25.toInt) rfl (by omega) ?_
        exact h r25 M32 hG27 F33 (by omega) (by omega) (by omega)
      · refine to_an (pc := 50) rw_104_50 rfl (to_c (pc := 51) rw_104_51 (x := (3 : Int32)) rfl rfl (to_in (pc := 52) rw_104_52 rfl (s_v (pc := 53) rw_104_53 (dp0 hd (by decide)) (ls0 := [.ref 1, .int (3 : Int32), .int (M7.2.1 1 9)]) rfl (Nat.le_of_ble_eq_true rfl) (Nat.le_of_ble_eq_true rfl) rfl (to_rc rfl rfl rfl (g_o hG12 rfl)) rfl (to_an (pc := 0) rw_85_0 rfl (to_in (pc := 1) rw_85_1 rfl (s_pI (pc := 2) rw_85_2 hG12 rfl (fun M35 W34 => ?_)))))))
        have hG36 := g_wf hG12 W34 rfl rfl (by decide)
        have F37 := FR.w F17 W34 (show 1 = 1 ∧ 5 ≤ 10 ∨ 3 ≤ 1 ∧ 1 ≤ 5 ∨ 29 ≤ 1 ∧ 1 ≤ 35 by decide)
        refine to_an (pc := 5) rw_85_5 rfl (to_in (pc := 6) rw_85_6 rfl (s_pI (pc := 7) rw_85_7 hG36 rfl (fun M39 W38 => ?_)))
        have hG40 := g_wf hG36 W38 rfl rfl (by decide)
        have F41 := FR.w F37 W38 (show 1 = 1 ∧ 5 ≤ 11 ∨ 3 ≤ 1 ∧ 1 ≤ 5 ∨ 29 ≤ 1 ∧ 1 ≤ 35 by decide)
        refine to_c (pc := 10) rw_85_10 (x := (0 : Int32)) rfl rfl (s_r1 (pc := 11) rw_85_11 (A := 0) rfl (by decide) (s_r1 (pc := 56) rw_104_56 (A := 0) rfl (by decide) ?_))
        have k_42 : (0 : Int32).toInt = 0 := rfl
        have c_43 : M39.2.1 1 10 = (3 : Int32) := (W_n W38 (by decide) (W_e W34))
        have k_44 : (3 : Int32).toInt = 3 := rfl
        have t_45 : (M39.2.1 1 10).toInt = (3 : Int32).toInt := congrArg Int32.toInt c_43
        have c_46 : M39.2.1 1 11 = (M7.2.1 1 9) := (W_e W38)
        have t_47 : (M39.2.1 1 11).toInt = (M7.2.1 1 9).toInt := congrArg Int32.toInt c_46
        exact h (0 : Int32) M39 hG40 F41 (by decide) (by decide) (by omega)
    · refine to_c (pc := 33) rw_104_33 (x := (0 : Int32)) rfl rfl (s_r1 (pc := 34) rw_104_34 (A := 0) rfl (by decide) ?_)
      have k_48 : (0 : Int32).toInt = 0 := rfl
      exact h (0 : Int32) M16 hG12 F17 (by decide) (by decide) (by omega)
  · refine to_c (pc := 13) rw_104_13 (x := (0 : Int32)) rfl rfl (s_r1 (pc := 14) rw_104_14 (A := 0) rfl (by decide) ?_)
    have k_49 : (0 : Int32).toInt = 0 := rfl
    exact h (0 : Int32) M7 hG3 F8 (by decide) (by decide) (by omega)
noncomputable def RC_99 (k : Int) : Prop := ∀ (X : mm_X) (d : Nat) (M : mm_M) (Q : Option Value → mm_M → Prop) (p : Nat) (o : Int32), g_X X → (5 + 3 * (5 - o.toInt) ≤ (d : Int)) → g_G M → (p = 49 ∨ p = 58) → (0 ≤ o.toInt) → (o.toInt ≤ 5) → 5 - o.toInt < k → (∀ (r : Int32) (M1 : mm_M), g_G M1 → FR md_wt M M1 → (0 ≤ r.toInt) → (r.toInt ≤ 1) → (r.toInt = 1 → (M1.2.1 1 10).toInt = (M.2.1 1 10).toInt ∧ (M1.2.1 1 11).toInt = (M.2.1 1 11).toInt) → Q (some (.int r)) M1) → mm_T X d 99 0 [.ref 28, .ref 1, .ref p, .ref 11, .int o, .null] [] M Q
set_option maxRecDepth 4000 in
set_option maxHeartbeats 0 in
theorem C_105 {X : mm_X} {d : Nat} {M : mm_M} {Q : Option Value → mm_M → Prop} {p : Nat} {o : Int32} {s : Int32} (hX : g_X X) (hd : 3 + 3 * (5 - o.toInt) ≤ (d : Int)) (hG : g_G M) (hp : p = 49 ∨ p = 58) (q1 : 0 ≤ o.toInt) (q2 : o.toInt ≤ 5) (q3 : 0 ≤ s.toInt) (q4 : s.toInt ≤ 39) (hr : RC_99 (5 - o.toInt)) (h : ∀ (r : Int32) (M1 : mm_M), g_G M1 → FR md_wt M M1 → (0 ≤ r.toInt) → (r.toInt ≤ 1) → (r.toInt = 1 → (M1.2.1 1 10).toInt = (M.2.1 1 10).toInt ∧ (M1.2.1 1 11).toInt = (M.2.1 1 11).toInt) → Q (some (.int r)) M1) : mm_T X d 105 0 [.ref 28, .ref 1, .ref p, .ref 11, .int o, .int s] [] M Q := by
  have F0 : FR md_wt M M := FR.rf
  refine to_an (pc := 0) rw_105_0 rfl (to_c (pc := 1) rw_105_1 (x := (0 : Int32)) rfl rfl (to_c (pc := 2) rw_105_2 (x := (99 : Int32)) rfl rfl (s_v (pc := 4) rw_105_4 (by omega) (ls0 := [.ref 1, .int (0 : Int32), .int (99 : Int32)]) rfl (Nat.le_of_ble_eq_true rfl) (Nat.le_of_ble_eq_true rfl) rfl (to_rc rfl rfl rfl (g_o hG rfl)) rfl (to_an (pc := 0) rw_88_0 rfl (tt_gI (pc := 1) rw_88_1 (g_o hG rfl) (v := (M.2.1 1 7)) rfl (to_c (pc := 4) rw_88_4 (x := (2 : Int32)) rfl rfl (b_ceq (pc := 5) rw_88_5 (A := (M.2.1 1 7).toInt) (B := 2) rfl rfl (fun h1 => ?_) (fun h1 => ?_))))))))
  · refine to_an (pc := 14) rw_88_14 rfl (tt_gI (pc := 15) rw_88_15 (g_o hG rfl) (v := (M.2.1 1 8)) rfl (to_in (pc := 18) rw_88_18 rfl (b_clt (pc := 19) rw_88_19 (A := (M.2.1 1 8).toInt) (B := 0) rfl rfl (fun h2 => ?_) (fun h2 => ?_))))
    · refine to_an (pc := 30) rw_88_30 rfl (to_c (pc := 31) rw_88_31 (x := (2 : Int32)) rfl rfl (s_v (pc := 32) rw_88_32 (by omega) (ls0 := [.ref 1, .int (2 : Int32)]) rfl (Nat.le_of_ble_eq_true rfl) (Nat.le_of_ble_eq_true rfl) rfl (to_rc rfl rfl rfl (g_o hG rfl)) rfl (to_an (pc := 0) rw_84_0 rfl (to_in (pc := 1) rw_84_1 rfl (s_pI (pc := 2) rw_84_2 hG rfl (fun M4 W3 => ?_))))))
      have hG5 := g_wf hG W3 rfl rfl (by decide)
      have F6 := FR.w F0 W3 (show 1 = 1 ∧ 5 ≤ 10 ∨ 3 ≤ 1 ∧ 1 ≤ 5 ∨ 28 ≤ 1 ∧ 1 ≤ 35 by decide)
      refine to_an (pc := 5) rw_84_5 rfl (to_an (pc := 6) rw_84_6 rfl ?_)
      have c_7 : M4.2.1 1 9 = (M.2.1 1 9) := (W_n W3 (by decide) rfl)
      refine tt_gI (pc := 7) rw_84_7 (g_o hG5 rfl) (v := (M.2.1 1 9)) c_7 (s_pI (pc := 10) rw_84_10 hG5 rfl (fun M9 W8 => ?_))
      have hG10 := g_wf hG5 W8 rfl rfl (by decide)
      have F11 := FR.w F6 W8 (show 1 = 1 ∧ 5 ≤ 11 ∨ 3 ≤ 1 ∧ 1 ≤ 5 ∨ 28 ≤ 1 ∧ 1 ≤ 35 by decide)
      refine to_c (pc := 13) rw_84_13 (x := (0 : Int32)) rfl rfl (s_r1 (pc := 14) rw_84_14 (A := 0) rfl (by decide) (b_ieq_t (pc := 35) rw_88_35 (A := 0) rfl (by decide) (to_c (pc := 42) rw_88_42 (x := (0 : Int32)) rfl rfl (s_r1 (pc := 43) rw_88_43 (A := 0) rfl (by decide) (b_ine_f (pc := 7) rw_105_7 (A := 0) rfl (by decide) (to_c (pc := 10) rw_105_10 (x := (0 : Int32)) rfl rfl (s_r1 (pc := 11) rw_105_11 (A := 0) rfl (by decide) ?_)))))))
      have k_12 : (0 : Int32).toInt = 0 := rfl
      have c_13 : M9.2.1 1 10 = (2 : Int32) := (W_n W8 (by decide) (W_e W3))
      have k_14 : (2 : Int32).toInt = 2 := rfl
      have t_15 : (M9.2.1 1 10).toInt = (2 : Int32).toInt := congrArg Int32.toInt c_13
      have c_16 : M9.2.1 1 11 = (M.2.1 1 9) := (W_e W8)
      have t_17 : (M9.2.1 1 11).toInt = (M.2.1 1 9).toInt := congrArg Int32.toInt c_16
      exact h (0 : Int32) M9 hG10 F11 (by decide) (by decide) (by omega)
    · refine to_an (pc := 22) rw_88_22 rfl (tt_gI (pc := 23) rw_88_23 (g_o hG rfl) (v := (M.2.1 1 8)) rfl (to_in (pc := 26) rw_88_26 rfl (b_cle (pc := 27) rw_88_27 (A := (M.2.1 1 8).toInt) (B := 99) rfl rfl (fun h18 => ?_) (fun h18 => ?_))))
      · refine to_c (pc := 38) rw_88_38 (x := (1 : Int32)) rfl rfl (to_go (pc := 39) rw_88_39 (s_r1 (pc := 43) rw_88_43 (A := 1) rfl (by decide) (b_ine_t (pc := 7) rw_105_7 (A := 1) rfl (by decide) (to_an (pc := 12) rw_105_12 rfl (s_gR (pc := 13) rw_105_13 hG rfl (v := 34) rfl (to_i (pc := 16) rw_105_16 rfl (to_an (pc := 18) rw_105_18 rfl (tt_gI (pc := 19) rw_105_19 (g_o hG rfl) (v := (M.2.1 1 8)) rfl (s_ias (pc := 22) rw_105_22 hG rfl (n := 40) rfl (A := s.toInt) rfl (by omega) (by omega) (fun M20 W19 => ?_))))))))))
        have hG21 := g_w hG W19 (A := (M.2.1 1 8).toInt) rfl (lo := 0) (hi := 99) rfl rfl (by omega) (by decide)
        have F22 := FR.w F0 W19 (show 34 = 1 ∧ 5 ≤ (s.toInt).toNat ∨ 3 ≤ 34 ∧ 34 ≤ 5 ∨ 28 ≤ 34 ∧ 34 ≤ 35 by omega)
        refine to_an (pc := 23) rw_105_23 rfl (s_v (pc := 24) rw_105_24 (by omega) (ls0 := [.ref 1]) rfl (Nat.le_of_ble_eq_true rfl) (Nat.le_of_ble_eq_true rfl) rfl (to_rc rfl rfl rfl (g_o hG21 rfl)) rfl (C_83 hX (by omega) hG21  (fun M25 hG24 F23 => ?_)))
        have F26 := FR.c F22 F23 tg_234
        refine to_an (pc := 27) rw_105_27 rfl (tt_gI (pc := 28) rw_105_28 (g_o hG24 rfl) (v := (M25.2.1 1 7)) rfl (to_c (pc := 31) rw_105_31 (x := (40 : Int32)) rfl rfl (b_cne (pc := 33) rw_105_33 (A := (M25.2.1 1 7).toInt) (B := 40) rfl rfl (fun h27 => ?_) (fun h27 => ?_))))
        · refine to_an (pc := 48) rw_105_48 rfl (to_c (pc := 49) rw_105_49 (x := (40 : Int32)) rfl rfl (s_v (pc := 51) rw_105_51 (by omega) (ls0 := [.ref 1, .int (40 : Int32)]) rfl (Nat.le_of_ble_eq_true rfl) (Nat.le_of_ble_eq_true rfl) rfl (to_rc rfl rfl rfl (g_o hG24 rfl)) rfl ?_))
          have k_28 : (40 : Int32).toInt = 40 := rfl
          refine C_90 hX (by omega) hG24 (x := (40 : Int32)) (fun r29 M36 hG31 F30 p_32 p_33 p_34 p_35 => ?_)
          have F37 := FR.c F26 F30 tg_234
          refine b_ieq (pc := 54) rw_105_54 (A := r29.toInt) rfl (fun h38 => ?_) (fun h38 => ?_)
          · refine to_c (pc := 84) rw_105_84 (x := (0 : Int32)) rfl rfl (s_r1 (pc := 85) rw_105_85 (A := 0) rfl (by decide) ?_)
            have k_39 : (0 : Int32).toInt = 0 := rfl
            exact h (0 : Int32) M36 hG31 F37 (by decide) (by decide) (by omega)
          · refine to_an (pc := 57) rw_105_57 rfl (to_an (pc := 58) rw_105_58 rfl (to_an (pc := 59) rw_105_59 rfl (to_an (pc := 60) rw_105_60 rfl (to_i (pc := 61) rw_105_61 rfl (to_c (pc := 63) rw_105_63 (x := (1 : Int32)) rfl rfl (s_add (pc := 64) rw_105_64 (A := o.toInt) (B := 1) rfl rfl (by omega) (fun v40 e41 => s_v (pc := 65) rw_105_65 (by omega) (ls0 := [.ref 28, .ref 1, .ref p, .ref 11, .int v40, .null]) rfl (Nat.le_of_ble_eq_true rfl) (Nat.le_of_ble_eq_true rfl) rfl (to_rc rfl rfl rfl (g_o hG31 rfl)) rfl (hr X _ _ _ p v40 hX (by omega) hG31 hp (by omega) (by omega) (by omega) (fun r42 M48 hG44 F43 p_45 p_46 p_47 => ?_)))))))))
            have F49 := FR.c F37 F43 tg_235
            refine b_ieq (pc := 68) rw_105_68 (A := r42.toInt) rfl (fun h50 => ?_) (fun h50 => ?_)
            · refine to_c (pc := 84) rw_105_84 (x := (0 : Int32)) rfl rfl (s_r1 (pc := 85) rw_105_85 (A := 0) rfl (by decide) ?_)
              have k_51 : (0 : Int32).toInt = 0 := rfl
              exact h (0 : Int32) M48 hG44 F49 (by decide) (by decide) (by omega)
            · refine to_an (pc := 71) rw_105_71 rfl (to_c (pc := 72) rw_105_72 (x := (41 : Int32)) rfl rfl (s_v (pc := 74) rw_105_74 (by omega) (ls0 := [.ref 1, .int (41 : Int32)]) rfl (Nat.le_of_ble_eq_true rfl) (Nat.le_of_ble_eq_true rfl) rfl (to_rc rfl rfl rfl (g_o hG44 rfl)) rfl ?_))
              have k_52 : (41 : Int32).toInt = 41 := rfl
              refine C_90 hX (by omega) hG44 (x := (41 : Int32)) (fun r53 M60 hG55 F54 p_56 p_57 p_58 p_59 => ?_)
              have F61 := FR.c F49 F54 tg_234
              refine b_ieq (pc := 77) rw_105_77 (A := r53.toInt) rfl (fun h62 => ?_) (fun h62 => ?_)
              · refine to_c (pc := 84) rw_105_84 (x := (0 : Int32)) rfl rfl (s_r1 (pc := 85) rw_105_85 (A := 0) rfl (by decide) ?_)
                have k_63 : (0 : Int32).toInt = 0 := rfl
                exact h (0 : Int32) M60 hG55 F61 (by decide) (by decide) (by omega)
              · refine to_c (pc := 80) rw_105_80 (x := (1 : Int32)) rfl rfl (to_go (pc := 81) rw_105_81 (s_r1 (pc := 85) rw_105_85 (A := 1) rfl (by decide) ?_))
                have k_64 : (1 : Int32).toInt = 1 := rfl
                exact h (1 : Int32) M60 hG55 F61 (by decide) (by decide) (by omega)
        · refine to_i (pc := 36) rw_105_36 rfl (to_c (pc := 38) rw_105_38 (x := (5 : Int32)) rfl rfl (b_clt (pc := 39) rw_105_39 (A := o.toInt) (B := 5) rfl rfl (fun h65 => ?_) (fun h65 => ?_)))
          · refine to_an (pc := 48) rw_105_48 rfl (to_c (pc := 49) rw_105_49 (x := (40 : Int32)) rfl rfl (s_v (pc := 51) rw_105_51 (by omega) (ls0 := [.ref 1, .int (40 : Int32)]) rfl (Nat.le_of_ble_eq_true rfl) (Nat.le_of_ble_eq_true rfl) rfl (to_rc rfl rfl rfl (g_o hG24 rfl)) rfl ?_))
            have k_66 : (40 : Int32).toInt = 40 := rfl
            refine C_90 hX (by omega) hG24 (x := (40 : Int32)) (fun r67 M74 hG69 F68 p_70 p_71 p_72 p_73 => ?_)
            have F75 := FR.c F26 F68 tg_234
            refine b_ieq (pc := 54) rw_105_54 (A := r67.toInt) rfl (fun h76 => ?_) (fun h76 => ?_)
            · refine to_c (pc := 84) rw_105_84 (x := (0 : Int32)) rfl rfl (s_r1 (pc := 85) rw_105_85 (A := 0) rfl (by decide) ?_)
              have k_77 : (0 : Int32).toInt = 0 := rfl
              exact h (0 : Int32) M74 hG69 F75 (by decide) (by decide) (by omega)
            · refine to_an (pc := 57) rw_105_57 rfl (to_an (pc := 58) rw_105_58 rfl (to_an (pc := 59) rw_105_59 rfl (to_an (pc := 60) rw_105_60 rfl (to_i (pc := 61) rw_105_61 rfl (to_c (pc := 63) rw_105_63 (x := (1 : Int32)) rfl rfl (s_add (pc := 64) rw_105_64 (A := o.toInt) (B := 1) rfl rfl (by omega) (fun v78 e79 => s_v (pc := 65) rw_105_65 (by omega) (ls0 := [.ref 28, .ref 1, .ref p, .ref 11, .int v78, .null]) rfl (Nat.le_of_ble_eq_true rfl) (Nat.le_of_ble_eq_true rfl) rfl (to_rc rfl rfl rfl (g_o hG69 rfl)) rfl (hr X _ _ _ p v78 hX (by omega) hG69 hp (by omega) (by omega) (by omega) (fun r80 M86 hG82 F81 p_83 p_84 p_85 => ?_)))))))))
              have F87 := FR.c F75 F81 tg_235
              refine b_ieq (pc := 68) rw_105_68 (A := r80.toInt) rfl (fun h88 => ?_) (fun h88 => ?_)
              · refine to_c (pc := 84) rw_105_84 (x := (0 : Int32)) rfl rfl (s_r1 (pc := 85) rw_105_85 (A := 0) rfl (by decide) ?_)
                have k_89 : (0 : Int32).toInt = 0 := rfl
                exact h (0 : Int32) M86 hG82 F87 (by decide) (by decide) (by omega)
              · refine to_an (pc := 71) rw_105_71 rfl (to_c (pc := 72) rw_105_72 (x := (41 : Int32)) rfl rfl (s_v (pc := 74) rw_105_74 (by omega) (ls0 := [.ref 1, .int (41 : Int32)]) rfl (Nat.le_of_ble_eq_true rfl) (Nat.le_of_ble_eq_true rfl) rfl (to_rc rfl rfl rfl (g_o hG82 rfl)) rfl ?_))
                have k_90 : (41 : Int32).toInt = 41 := rfl
                refine C_90 hX (by omega) hG82 (x := (41 : Int32)) (fun r91 M98 hG93 F92 p_94 p_95 p_96 p_97 => ?_)
                have F99 := FR.c F87 F92 tg_234
                refine b_ieq (pc := 77) rw_105_77 (A := r91.toInt) rfl (fun h100 => ?_) (fun h100 => ?_)
                · refine to_c (pc := 84) rw_105_84 (x := (0 : Int32)) rfl rfl (s_r1 (pc := 85) rw_105_85 (A := 0) rfl (by decide) ?_)
                  have k_101 : (0 : Int32).toInt = 0 := rfl
                  exact h (0 : Int32) M98 hG93 F99 (by decide) (by decide) (by omega)
                · refine to_c (pc := 80) rw_105_80 (x := (1 : Int32)) rfl rfl (to_go (pc := 81) rw_105_81 (s_r1 (pc := 85) rw_105_85 (A := 1) rfl (by decide) ?_))
                  have k_102 : (1 : Int32).toInt = 1 := rfl
                  exact h (1 : Int32) M98 hG93 F99 (by decide) (by decide) (by omega)
          · refine to_an (pc := 42) rw_105_42 rfl (to_c (pc := 43) rw_105_43 (x := (2 : Int32)) rfl rfl (s_v (pc := 44) rw_105_44 (by omega) (ls0 := [.ref 1, .int (2 : Int32)]) rfl (Nat.le_of_ble_eq_true rfl) (Nat.le_of_ble_eq_true rfl) rfl (to_rc rfl rfl rfl (g_o hG24 rfl)) rfl (to_an (pc := 0) rw_84_0 rfl (to_in (pc := 1) rw_84_1 rfl (s_pI (pc := 2) rw_84_2 hG24 rfl (fun M104 W103 => ?_))))))
            have hG105 := g_wf hG24 W103 rfl rfl (by decide)
            have F106 := FR.w F26 W103 (show 1 = 1 ∧ 5 ≤ 10 ∨ 3 ≤ 1 ∧ 1 ≤ 5 ∨ 28 ≤ 1 ∧ 1 ≤ 35 by decide)
            refine to_an (pc := 5) rw_84_5 rfl (to_an (pc := 6) rw_84_6 rfl ?_)
            have c_107 : M104.2.1 1 9 = (M25.2.1 1 9) := (W_n W103 (by decide) rfl)
            refine tt_gI (pc := 7) rw_84_7 (g_o hG105 rfl) (v := (M25.2.1 1 9)) c_107 (s_pI (pc := 10) rw_84_10 hG105 rfl (fun M109 W108 => ?_))
            have hG110 := g_wf hG105 W108 rfl rfl (by decide)
            have F111 := FR.w F106 W108 (show 1 = 1 ∧ 5 ≤ 11 ∨ 3 ≤ 1 ∧ 1 ≤ 5 ∨ 28 ≤ 1 ∧ 1 ≤ 35 by decide)
            refine to_c (pc := 13) rw_84_13 (x := (0 : Int32)) rfl rfl (s_r1 (pc := 14) rw_84_14 (A := 0) rfl (by decide) (s_r1 (pc := 47) rw_105_47 (A := 0) rfl (by decide) ?_))
            have k_112 : (0 : Int32).toInt = 0 := rfl
            have c_113 : M109.2.1 1 10 = (2 : Int32) := (W_n W108 (by decide) (W_e W103))
            have k_114 : (2 : Int32).toInt = 2 := rfl
            have t_115 : (M109.2.1 1 10).toInt = (2 : Int32).toInt := congrArg Int32.toInt c_113
            have c_116 : M109.2.1 1 11 = (M25.2.1 1 9) := (W_e W108)
            have t_117 : (M109.2.1 1 11).toInt = (M25.2.1 1 9).toInt := congrArg Int32.toInt c_116
            exact h (0 : Int32) M109 hG110 F111 (by decide) (by decide) (by omega)
      · refine to_an (pc := 30) rw_88_30 rfl (to_c (pc := 31) rw_88_31 (x := (2 : Int32)) rfl rfl (s_v (pc := 32) rw_88_32 (by omega) (ls0 := [.ref 1, .int (2 : Int32)]) rfl (Nat.le_of_ble_eq_true rfl) (Nat.le_of_ble_eq_true rfl) rfl (to_rc rfl rfl rfl (g_o hG rfl)) rfl (to_an (pc := 0) rw_84_0 rfl (to_in (pc := 1) rw_84_1 rfl (s_pI (pc := 2) rw_84_2 hG rfl (fun M119 W118 => ?_))))))
        have hG120 := g_wf hG W118 rfl rfl (by decide)
        have F121 := FR.w F0 W118 (show 1 = 1 ∧ 5 ≤ 10 ∨ 3 ≤ 1 ∧ 1 ≤ 5 ∨ 28 ≤ 1 ∧ 1 ≤ 35 by decide)
        refine to_an (pc := 5) rw_84_5 rfl (to_an (pc := 6) rw_84_6 rfl ?_)
        have c_122 : M119.2.1 1 9 = (M.2.1 1 9) := (W_n W118 (by decide) rfl)
        refine tt_gI (pc := 7) rw_84_7 (g_o hG120 rfl) (v := (M.2.1 1 9)) c_122 (s_pI (pc := 10) rw_84_10 hG120 rfl (fun M124 W123 => ?_))
        have hG125 := g_wf hG120 W123 rfl rfl (by decide)
        have F126 := FR.w F121 W123 (show 1 = 1 ∧ 5 ≤ 11 ∨ 3 ≤ 1 ∧ 1 ≤ 5 ∨ 28 ≤ 1 ∧ 1 ≤ 35 by decide)
        refine to_c (pc := 13) rw_84_13 (x := (0 : Int32)) rfl rfl (s_r1 (pc := 14) rw_84_14 (A := 0) rfl (by decide) (b_ieq_t (pc := 35) rw_88_35 (A := 0) rfl (by decide) (to_c (pc := 42) rw_88_42 (x := (0 : Int32)) rfl rfl (s_r1 (pc := 43) rw_88_43 (A := 0) rfl (by decide) (b_ine_f (pc := 7) rw_105_7 (A := 0) rfl (by decide) (to_c (pc := 10) rw_105_10 (x := (0 : Int32)) rfl rfl (s_r1 (pc := 11) rw_105_11 (A := 0) rfl (by decide) ?_)))))))
        have k_127 : (0 : Int32).toInt = 0 := rfl
        have c_128 : M124.2.1 1 10 = (2 : Int32) := (W_n W123 (by decide) (W_e W118))
        have k_129 : (2 : Int32).toInt = 2 := rfl
        have t_130 : (M124.2.1 1 10).toInt = (2 : Int32).toInt := congrArg Int32.toInt c_128
        have c_131 : M124.2.1 1 11 = (M.2.1 1 9) := (W_e W123)
        have t_132 : (M124.2.1 1 11).toInt = (M.2.1 1 9).toInt := congrArg Int32.toInt c_131
        exact h (0 : Int32) M124 hG125 F126 (by decide) (by decide) (by omega)
  · refine to_an (pc := 8) rw_88_8 rfl (to_c (pc := 9) rw_88_9 (x := (1 : Int32)) rfl rfl (s_v (pc := 10) rw_88_10 (by omega) (ls0 := [.ref 1, .int (1 : Int32)]) rfl (Nat.le_of_ble_eq_true rfl) (Nat.le_of_ble_eq_true rfl) rfl (to_rc rfl rfl rfl (g_o hG rfl)) rfl (to_an (pc := 0) rw_84_0 rfl (to_in (pc := 1) rw_84_1 rfl (s_pI (pc := 2) rw_84_2 hG rfl (fun M134 W133 => ?_))))))
    have hG135 := g_wf hG W133 rfl rfl (by decide)
    have F136 := FR.w F0 W133 (show 1 = 1 ∧ 5 ≤ 10 ∨ 3 ≤ 1 ∧ 1 ≤ 5 ∨ 28 ≤ 1 ∧ 1 ≤ 35 by decide)
    refine to_an (pc := 5) rw_84_5 rfl (to_an (pc := 6) rw_84_6 rfl ?_)
    have c_137 : M134.2.1 1 9 = (M.2.1 1 9) := (W_n W133 (by decide) rfl)
    refine tt_gI (pc := 7) rw_84_7 (g_o hG135 rfl) (v := (M.2.1 1 9)) c_137 (s_pI (pc := 10) rw_84_10 hG135 rfl (fun M139 W138 => ?_))
    have hG140 := g_wf hG135 W138 rfl rfl (by decide)
    have F141 := FR.w F136 W138 (show 1 = 1 ∧ 5 ≤ 11 ∨ 3 ≤ 1 ∧ 1 ≤ 5 ∨ 28 ≤ 1 ∧ 1 ≤ 35 by decide)
    refine to_c (pc := 13) rw_84_13 (x := (0 : Int32)) rfl rfl (s_r1 (pc := 14) rw_84_14 (A := 0) rfl (by decide) (s_r1 (pc := 13) rw_88_13 (A := 0) rfl (by decide) (b_ine_f (pc := 7) rw_105_7 (A := 0) rfl (by decide) (to_c (pc := 10) rw_105_10 (x := (0 : Int32)) rfl rfl (s_r1 (pc := 11) rw_105_11 (A := 0) rfl (by decide) ?_)))))
    have k_142 : (0 : Int32).toInt = 0 := rfl
    have c_143 : M139.2.1 1 10 = (1 : Int32) := (W_n W138 (by decide) (W_e W133))
    have k_144 : (1 : Int32).toInt = 1 := rfl
    have t_145 : (M139.2.1 1 10).toInt = (1 : Int32).toInt := congrArg Int32.toInt c_143
    have c_146 : M139.2.1 1 11 = (M.2.1 1 9) := (W_e W138)
    have t_147 : (M139.2.1 1 11).toInt = (M.2.1 1 9).toInt := congrArg Int32.toInt c_146
    exact h (0 : Int32) M139 hG140 F141 (by decide) (by decide) (by omega)
set_option maxRecDepth 4000 in
set_option maxHeartbeats 0 in
theorem C_100 {X : mm_X} {d : Nat} {M : mm_M} {Q : Option Value → mm_M → Prop} {p : Nat} {o : Int32} (hX : g_X X) (hd : 4 + 3 * (5 - o.toInt) ≤ (d : Int)) (hG : g_G M) (hp : p = 49 ∨ p = 58) (q1 : 0 ≤ o.toInt) (q2 : o.toInt ≤ 5) (hr : RC_99 (5 - o.toInt)) (h : ∀ (r : Int32) (M1 : mm_M), g_G M1 → FR md_wt M M1 → (0 ≤ r.toInt) → (r.toInt ≤ 1) → (r.toInt = 1 → (M1.2.1 1 10).toInt = (M.2.1 1 10).toInt ∧ (M1.2.1 1 11).toInt = (M.2.1 1 11).toInt) → Q (some (.int r)) M1) : mm_T X d 100 0 [.ref 28, .ref 1, .ref p, .ref 11, .int o, .null, .null, .null] [] M Q := by
  have F0 : FR md_wt M M := FR.rf
  refine to_an (pc := 0) rw_100_0 rfl (tt_gI (pc := 1) rw_100_1 (g_o hG rfl) (v := (M.2.1 1 8)) rfl (to_is (pc := 4) rw_100_4 (ls2 := [.ref 28, .ref 1, .ref p, .ref 11, .int o, .int (M.2.1 1 8), .null, .null]) rfl rfl (to_i (pc := 6) rw_100_6 rfl (to_c (pc := 8) rw_100_8 (x := (538561536 : Int32)) rfl rfl (b_ceq (pc := 10) rw_100_10 (A := (M.2.1 1 8).toInt) (B := 538561536) rfl rfl (fun h1 => ?_) (fun h1 => ?_))))))
  · refine to_an (pc := 33) rw_100_33 rfl ?_
    have b_2 := g_b hG (a := 28) (i := 7) (lo := 0) (hi := 40) rfl rfl
    refine tt_gI (pc := 34) rw_100_34 (g_o hG rfl) (v := (M.2.1 28 7)) rfl (to_c (pc := 37) rw_100_37 (x := (40 : Int32)) rfl rfl (b_clt (pc := 39) rw_100_39 (A := (M.2.1 28 7).toInt) (B := 40) rfl rfl (fun h3 => ?_) (fun h3 => ?_)))
    · refine to_an (pc := 48) rw_100_48 rfl (tt_gI (pc := 49) rw_100_49 (g_o hG rfl) (v := (M.2.1 28 7)) rfl (to_is (pc := 52) rw_100_52 (ls2 := [.ref 28, .ref 1, .ref p, .ref 11, .int o, .int (M.2.1 1 8), .int (M.2.1 28 7), .null]) rfl rfl (to_an (pc := 54) rw_100_54 rfl (to_dupr (pc := 55) rw_100_55 (tt_gI (pc := 56) rw_100_56 (g_o hG rfl) (v := (M.2.1 28 7)) rfl (to_c (pc := 59) rw_100_59 (x := (1 : Int32)) rfl rfl (s_add (pc := 60) rw_100_60 (A := (M.2.1 28 7).toInt) (B := 1) rfl rfl (by omega) (fun v4 e5 => s_pI (pc := 61) rw_100_61 hG rfl (fun M7 W6 => ?_)))))))))
      have hG8 := g_w hG W6 (A := v4.toInt) rfl (lo := 0) (hi := 40) rfl rfl (by omega) (by decide)
      have F9 := FR.w F0 W6 (show 28 = 1 ∧ 5 ≤ 7 ∨ 3 ≤ 28 ∧ 28 ≤ 5 ∨ 28 ≤ 28 ∧ 28 ≤ 35 by decide)
      refine to_an (pc := 64) rw_100_64 rfl (s_gR (pc := 65) rw_100_65 hG8 rfl (v := 29) rfl (to_i (pc := 68) rw_100_68 rfl (to_i (pc := 70) rw_100_70 rfl (s_ias (pc := 72) rw_100_72 hG8 rfl (n := 40) rfl (A := (M.2.1 28 7).toInt) rfl (by omega) (by omega) (fun M11 W10 => ?_)))))
      have hG12 := g_wf hG8 W10 rfl rfl (by decide)
      have F13 := FR.w F9 W10 (show 29 = 1 ∧ 5 ≤ ((M.2.1 28 7).toInt).toNat ∨ 3 ≤ 29 ∧ 29 ≤ 5 ∨ 28 ≤ 29 ∧ 29 ≤ 35 by omega)
      refine to_an (pc := 73) rw_100_73 rfl (s_v (pc := 74) rw_100_74 (by omega) (ls0 := [.ref 1]) rfl (Nat.le_of_ble_eq_true rfl) (Nat.le_of_ble_eq_true rfl) rfl (to_rc rfl rfl rfl (g_o hG12 rfl)) rfl (C_83 hX (by omega) hG12  (fun M16 hG15 F14 => ?_)))
      have F17 := FR.c F13 F14 tg_234
      refine to_i (pc := 77) rw_100_77 rfl (to_c (pc := 79) rw_100_79 (x := (538561536 : Int32)) rfl rfl (b_cne_f (pc := 81) rw_100_81 (A := (M.2.1 1 8).toInt) (B := 538561536) rfl rfl (by omega) (to_an (pc := 84) rw_100_84 rfl (to_an (pc := 85) rw_100_85 rfl (to_an (pc := 86) rw_100_86 rfl (to_an (pc := 87) rw_100_87 rfl (to_i (pc := 88) rw_100_88 rfl (s_v (pc := 90) rw_100_90 (by omega) (ls0 := [.ref 28, .ref 1, .ref p, .ref 11, .int (M.2.1 28 7), .null]) rfl (Nat.le_of_ble_eq_true rfl) (Nat.le_of_ble_eq_true rfl) rfl (to_rc rfl rfl rfl (g_o hG15 rfl)) rfl (C_101 hX (by omega) hG15 hp (by omega) (by omega) (p := p) (s := (M.2.1 28 7)) (fun r18 M24 hG20 F19 p_21 p_22 p_23 => ?_))))))))))
      have F25 := FR.c F17 F19 tg_236
      refine to_is (pc := 93) rw_100_93 (ls2 := [.ref 28, .ref 1, .ref p, .ref 11, .int o, .int (M.2.1 1 8), .int (M.2.1 28 7), .int r18]) rfl rfl (to_go (pc := 95) rw_100_95 (to_an (pc := 130) rw_100_130 rfl (s_gR (pc := 131) rw_100_131 hG20 rfl (v := 35) rfl (to_i (pc := 134) rw_100_134 rfl (to_an (pc := 136) rw_100_136 rfl ?_)))))
      have c_26 : M24.2.1 28 7 = v4 := (F_n F19 (show ¬ (28 = 1 ∧ 5 ≤ 7 ∨ 3 ≤ 28 ∧ 28 ≤ 5 ∨ 29 ≤ 28 ∧ 28 ≤ 35) by decide) (F_n F14 (show ¬ (28 = 1 ∧ 5 ≤ 7 ∨ 3 ≤ 28 ∧ 28 ≤ 5) by decide) (W_n W10 (fun z => absurd z.1 (by decide)) (W_e W6))))
      refine tt_gI (pc := 137) rw_100_137 (g_o hG20 rfl) (v := v4) c_26 (s_ias (pc := 140) rw_100_140 hG20 rfl (n := 40) rfl (A := (M.2.1 28 7).toInt) rfl (by omega) (by omega) (fun M28 W27 => ?_))
      have hG29 := g_w hG20 W27 (A := v4.toInt) rfl (lo := 0) (hi := 40) rfl rfl (by omega) (by decide)
      have F30 := FR.w F25 W27 (show 35 = 1 ∧ 5 ≤ ((M.2.1 28 7).toInt).toNat ∨ 3 ≤ 35 ∧ 35 ≤ 5 ∨ 28 ≤ 35 ∧ 35 ≤ 35 by omega)
      refine to_i (pc := 141) rw_100_141 rfl (s_r1 (pc := 143) rw_100_143 (A := r18.toInt) rfl (by omega) ?_)
      have c_31 : M28.2.1 1 10 = (M24.2.1 1 10) := (W_n W27 (fun z => absurd z.1 (by decide)) rfl)
      have t_32 : (M28.2.1 1 10).toInt = (M24.2.1 1 10).toInt := congrArg Int32.toInt c_31
      have c_33 : M28.2.1 1 11 = (M24.2.1 1 11) := (W_n W27 (fun z => absurd z.1 (by decide)) rfl)
      have t_34 : (M28.2.1 1 11).toInt = (M24.2.1 1 11).toInt := congrArg Int32.toInt c_33
      exact h r18 M28 hG29 F30 (by omega) (by omega) (by omega)
    · refine to_an (pc := 42) rw_100_42 rfl (to_c (pc := 43) rw_100_43 (x := (2 : Int32)) rfl rfl (s_v (pc := 44) rw_100_44 (by omega) (ls0 := [.ref 1, .int (2 : Int32)]) rfl (Nat.le_of_ble_eq_true rfl) (Nat.le_of_ble_eq_true rfl) rfl (to_rc rfl rfl rfl (g_o hG rfl)) rfl (to_an (pc := 0) rw_84_0 rfl (to_in (pc := 1) rw_84_1 rfl (s_pI (pc := 2) rw_84_2 hG rfl (fun M36 W35 => ?_))))))
      have hG37 := g_wf hG W35 rfl rfl (by decide)
      have F38 := FR.w F0 W35 (show 1 = 1 ∧ 5 ≤ 10 ∨ 3 ≤ 1 ∧ 1 ≤ 5 ∨ 28 ≤ 1 ∧ 1 ≤ 35 by decide)
      refine to_an (pc := 5) rw_84_5 rfl (to_an (pc := 6) rw_84_6 rfl ?_)
      have c_39 : M36.2.1 1 9 = (M.2.1 1 9) := (W_n W35 (by decide) rfl)
      refine tt_gI (pc := 7) rw_84_7 (g_o hG37 rfl) (v := (M.2.1 1 9)) c_39 (s_pI (pc := 10) rw_84_10 hG37 rfl (fun M41 W40 => ?_))
      have hG42 := g_wf hG37 W40 rfl rfl (by decide)
      have F43 := FR.w F38 W40 (show 1 = 1 ∧ 5 ≤ 11 ∨ 3 ≤ 1 ∧ 1 ≤ 5 ∨ 28 ≤ 1 ∧ 1 ≤ 35 by decide)
      refine to_c (pc := 13) rw_84_13 (x := (0 : Int32)) rfl rfl (s_r1 (pc := 14) rw_84_14 (A := 0) rfl (by decide) (s_r1 (pc := 47) rw_100_47 (A := 0) rfl (by decide) ?_))
      have k_44 : (0 : Int32).toInt = 0 := rfl
      have c_45 : M41.2.1 1 10 = (2 : Int32) := (W_n W40 (by decide) (W_e W35))
      have k_46 : (2 : Int32).toInt = 2 := rfl
      have t_47 : (M41.2.1 1 10).toInt = (2 : Int32).toInt := congrArg Int32.toInt c_45
      have c_48 : M41.2.1 1 11 = (M.2.1 1 9) := (W_e W40)
      have t_49 : (M41.2.1 1 11).toInt = (M.2.1 1 9).toInt := congrArg Int32.toInt c_48
      exact h (0 : Int32) M41 hG42 F43 (by decide) (by decide) (by omega)
  · refine to_i (pc := 13) rw_100_13 rfl (to_c (pc := 15) rw_100_15 (x := (351582208 : Int32)) rfl rfl (b_ceq (pc := 17) rw_100_17 (A := (M.2.1 1 8).toInt) (B := 351582208) rfl rfl (fun h50 => ?_) (fun h50 => ?_)))
    · refine to_an (pc := 33) rw_100_33 rfl ?_
      have b_51 := g_b hG (a := 28) (i := 7) (lo := 0) (hi := 40) rfl rfl
      refine tt_gI (pc := 34) rw_100_34 (g_o hG rfl) (v := (M.2.1 28 7)) rfl (to_c (pc := 37) rw_100_37 (x := (40 : Int32)) rfl rfl (b_clt (pc := 39) rw_100_39 (A := (M.2.1 28 7).toInt) (B := 40) rfl rfl (fun h52 => ?_) (fun h52 => ?_)))
      · refine to_an (pc := 48) rw_100_48 rfl (tt_gI (pc := 49) rw_100_49 (g_o hG rfl) (v := (M.2.1 28 7)) rfl (to_is (pc := 52) rw_100_52 (ls2 := [.ref 28, .ref 1, .ref p, .ref 11, .int o, .int (M.2.1 1 8), .int (M.2.1 28 7), .null]) rfl rfl (to_an (pc := 54) rw_100_54 rfl (to_dupr (pc := 55) rw_100_55 (tt_gI (pc := 56) rw_100_56 (g_o hG rfl) (v := (M.2.1 28 7)) rfl (to_c (pc := 59) rw_100_59 (x := (1 : Int32)) rfl rfl (s_add (pc := 60) rw_100_60 (A := (M.2.1 28 7).toInt) (B := 1) rfl rfl (by omega) (fun v53 e54 => s_pI (pc := 61) rw_100_61 hG rfl (fun M56 W55 => ?_)))))))))
        have hG57 := g_w hG W55 (A := v53.toInt) rfl (lo := 0) (hi := 40) rfl rfl (by omega) (by decide)
        have F58 := FR.w F0 W55 (show 28 = 1 ∧ 5 ≤ 7 ∨ 3 ≤ 28 ∧ 28 ≤ 5 ∨ 28 ≤ 28 ∧ 28 ≤ 35 by decide)
        refine to_an (pc := 64) rw_100_64 rfl (s_gR (pc := 65) rw_100_65 hG57 rfl (v := 29) rfl (to_i (pc := 68) rw_100_68 rfl (to_i (pc := 70) rw_100_70 rfl (s_ias (pc := 72) rw_100_72 hG57 rfl (n := 40) rfl (A := (M.2.1 28 7).toInt) rfl (by omega) (by omega) (fun M60 W59 => ?_)))))
        have hG61 := g_wf hG57 W59 rfl rfl (by decide)
        have F62 := FR.w F58 W59 (show 29 = 1 ∧ 5 ≤ ((M.2.1 28 7).toInt).toNat ∨ 3 ≤ 29 ∧ 29 ≤ 5 ∨ 28 ≤ 29 ∧ 29 ≤ 35 by omega)
        refine to_an (pc := 73) rw_100_73 rfl (s_v (pc := 74) rw_100_74 (by omega) (ls0 := [.ref 1]) rfl (Nat.le_of_ble_eq_true rfl) (Nat.le_of_ble_eq_true rfl) rfl (to_rc rfl rfl rfl (g_o hG61 rfl)) rfl (C_83 hX (by omega) hG61  (fun M65 hG64 F63 => ?_)))
        have F66 := FR.c F62 F63 tg_234
        refine to_i (pc := 77) rw_100_77 rfl (to_c (pc := 79) rw_100_79 (x := (538561536 : Int32)) rfl rfl (b_cne_t (pc := 81) rw_100_81 (A := (M.2.1 1 8).toInt) (B := 538561536) rfl rfl (by omega) (to_i (pc := 98) rw_100_98 rfl (to_c (pc := 100) rw_100_100 (x := (351582208 : Int32)) rfl rfl (b_cne_f (pc := 102) rw_100_102 (A := (M.2.1 1 8).toInt) (B := 351582208) rfl rfl (by omega) (to_an (pc := 105) rw_100_105 rfl (to_an (pc := 106) rw_100_106 rfl (to_i (pc := 107) rw_100_107 rfl (s_v (pc := 109) rw_100_109 (by omega) (ls0 := [.ref 28, .ref 1, .int (M.2.1 28 7), .null]) rfl (Nat.le_of_ble_eq_true rfl) (Nat.le_of_ble_eq_true rfl) rfl (to_rc rfl rfl rfl (g_o hG64 rfl)) rfl (C_104 hX (by omega) hG64 (by omega) (by omega) (s := (M.2.1 28 7)) (fun r67 M73 hG69 F68 p_70 p_71 p_72 => ?_)))))))))))
        have F74 := FR.c F66 F68 tg_236
        refine to_is (pc := 112) rw_100_112 (ls2 := [.ref 28, .ref 1, .ref p, .ref 11, .int o, .int (M.2.1 1 8), .int (M.2.1 28 7), .int r67]) rfl rfl (to_go (pc := 114) rw_100_114 (to_an (pc := 130) rw_100_130 rfl (s_gR (pc := 131) rw_100_131 hG69 rfl (v := 35) rfl (to_i (pc := 134) rw_100_134 rfl (to_an (pc := 136) rw_100_136 rfl ?_)))))
        have c_75 : M73.2.1 28 7 = v53 := (F_n F68 (show ¬ (28 = 1 ∧ 5 ≤ 7 ∨ 3 ≤ 28 ∧ 28 ≤ 5 ∨ 29 ≤ 28 ∧ 28 ≤ 35) by decide) (F_n F63 (show ¬ (28 = 1 ∧ 5 ≤ 7 ∨ 3 ≤ 28 ∧ 28 ≤ 5) by decide) (W_n W59 (fun z => absurd z.1 (by decide)) (W_e W55))))
        refine tt_gI (pc := 137) rw_100_137 (g_o hG69 rfl) (v := v53) c_75 (s_ias (pc := 140) rw_100_140 hG69 rfl (n := 40) rfl (A := (M.2.1 28 7).toInt) rfl (by omega) (by omega) (fun M77 W76 => ?_))
        have hG78 := g_w hG69 W76 (A := v53.toInt) rfl (lo := 0) (hi := 40) rfl rfl (by omega) (by decide)
        have F79 := FR.w F74 W76 (show 35 = 1 ∧ 5 ≤ ((M.2.1 28 7).toInt).toNat ∨ 3 ≤ 35 ∧ 35 ≤ 5 ∨ 28 ≤ 35 ∧ 35 ≤ 35 by omega)
        refine to_i (pc := 141) rw_100_141 rfl (s_r1 (pc := 143) rw_100_143 (A := r67.toInt) rfl (by omega) ?_)
        have c_80 : M77.2.1 1 10 = (M73.2.1 1 10) := (W_n W76 (fun z => absurd z.1 (by decide)) rfl)
        have t_81 : (M77.2.1 1 10).toInt = (M73.2.1 1 10).toInt := congrArg Int32.toInt c_80
        have c_82 : M77.2.1 1 11 = (M73.2.1 1 11) := (W_n W76 (fun z => absurd z.1 (by decide)) rfl)
        have t_83 : (M77.2.1 1 11).toInt = (M73.2.1 1 11).toInt := congrArg Int32.toInt c_82
        exact h r67 M77 hG78 F79 (by omega) (by omega) (by omega)
      · refine to_an (pc := 42) rw_100_42 rfl (to_c (pc := 43) rw_100_43 (x := (2 : Int32)) rfl rfl (s_v (pc := 44) rw_100_44 (by omega) (ls0 := [.ref 1, .int (2 : Int32)]) rfl (Nat.le_of_ble_eq_true rfl) (Nat.le_of_ble_eq_true rfl) rfl (to_rc rfl rfl rfl (g_o hG rfl)) rfl (to_an (pc := 0) rw_84_0 rfl (to_in (pc := 1) rw_84_1 rfl (s_pI (pc := 2) rw_84_2 hG rfl (fun M85 W84 => ?_))))))
        have hG86 := g_wf hG W84 rfl rfl (by decide)
        have F87 := FR.w F0 W84 (show 1 = 1 ∧ 5 ≤ 10 ∨ 3 ≤ 1 ∧ 1 ≤ 5 ∨ 28 ≤ 1 ∧ 1 ≤ 35 by decide)
        refine to_an (pc := 5) rw_84_5 rfl (to_an (pc := 6) rw_84_6 rfl ?_)
        have c_88 : M85.2.1 1 9 = (M.2.1 1 9) := (W_n W84 (by decide) rfl)
        refine tt_gI (pc := 7) rw_84_7 (g_o hG86 rfl) (v := (M.2.1 1 9)) c_88 (s_pI (pc := 10) rw_84_10 hG86 rfl (fun M90 W89 => ?_))
        have hG91 := g_wf hG86 W89 rfl rfl (by decide)
        have F92 := FR.w F87 W89 (show 1 = 1 ∧ 5 ≤ 11 ∨ 3 ≤ 1 ∧ 1 ≤ 5 ∨ 28 ≤ 1 ∧ 1 ≤ 35 by decide)
        refine to_c (pc := 13) rw_84_13 (x := (0 : Int32)) rfl rfl (s_r1 (pc := 14) rw_84_14 (A := 0) rfl (by decide) (s_r1 (pc := 47) rw_100_47 (A := 0) rfl (by decide) ?_))
        have k_93 : (0 : Int32).toInt = 0 := rfl
        have c_94 : M90.2.1 1 10 = (2 : Int32) := (W_n W89 (by decide) (W_e W84))
        have k_95 : (2 : Int32).toInt = 2 := rfl
        have t_96 : (M90.2.1 1 10).toInt = (2 : Int32).toInt := congrArg Int32.toInt c_94
        have c_97 : M90.2.1 1 11 = (M.2.1 1 9) := (W_e W89)
        have t_98 : (M90.2.1 1 11).toInt = (M.2.1 1 9).toInt := congrArg Int32.toInt c_97
        exact h (0 : Int32) M90 hG91 F92 (by decide) (by decide) (by omega)
    · refine to_i (pc := 20) rw_100_20 rfl (to_c (pc := 22) rw_100_22 (x := (40936896 : Int32)) rfl rfl (b_ceq (pc := 24) rw_100_24 (A := (M.2.1 1 8).toInt) (B := 40936896) rfl rfl (fun h99 => ?_) (fun h99 => ?_)))
      · refine to_an (pc := 33) rw_100_33 rfl ?_
        have b_100 := g_b hG (a := 28) (i := 7) (lo := 0) (hi := 40) rfl rfl
        refine tt_gI (pc := 34) rw_100_34 (g_o hG rfl) (v := (M.2.1 28 7)) rfl (to_c (pc := 37) rw_100_37 (x := (40 : Int32)) rfl rfl (b_clt (pc := 39) rw_100_39 (A := (M.2.1 28 7).toInt) (B := 40) rfl rfl (fun h101 => ?_) (fun h101 => ?_)))
        · refine to_an (pc := 48) rw_100_48 rfl (tt_gI (pc := 49) rw_100_49 (g_o hG rfl) (v := (M.2.1 28 7)) rfl (to_is (pc := 52) rw_100_52 (ls2 := [.ref 28, .ref 1, .ref p, .ref 11, .int o, .int (M.2.1 1 8), .int (M.2.1 28 7), .null]) rfl rfl (to_an (pc := 54) rw_100_54 rfl (to_dupr (pc := 55) rw_100_55 (tt_gI (pc := 56) rw_100_56 (g_o hG rfl) (v := (M.2.1 28 7)) rfl (to_c (pc := 59) rw_100_59 (x := (1 : Int32)) rfl rfl (s_add (pc := 60) rw_100_60 (A := (M.2.1 28 7).toInt) (B := 1) rfl rfl (by omega) (fun v102 e103 => s_pI (pc := 61) rw_100_61 hG rfl (fun M105 W104 => ?_)))))))))
          have hG106 := g_w hG W104 (A := v102.toInt) rfl (lo := 0) (hi := 40) rfl rfl (by omega) (by decide)
          have F107 := FR.w F0 W104 (show 28 = 1 ∧ 5 ≤ 7 ∨ 3 ≤ 28 ∧ 28 ≤ 5 ∨ 28 ≤ 28 ∧ 28 ≤ 35 by decide)
          refine to_an (pc := 64) rw_100_64 rfl (s_gR (pc := 65) rw_100_65 hG106 rfl (v := 29) rfl (to_i (pc := 68) rw_100_68 rfl (to_i (pc := 70) rw_100_70 rfl (s_ias (pc := 72) rw_100_72 hG106 rfl (n := 40) rfl (A := (M.2.1 28 7).toInt) rfl (by omega) (by omega) (fun M109 W108 => ?_)))))
          have hG110 := g_wf hG106 W108 rfl rfl (by decide)
          have F111 := FR.w F107 W108 (show 29 = 1 ∧ 5 ≤ ((M.2.1 28 7).toInt).toNat ∨ 3 ≤ 29 ∧ 29 ≤ 5 ∨ 28 ≤ 29 ∧ 29 ≤ 35 by omega)
          refine to_an (pc := 73) rw_100_73 rfl (s_v (pc := 74) rw_100_74 (by omega) (ls0 := [.ref 1]) rfl (Nat.le_of_ble_eq_true rfl) (Nat.le_of_ble_eq_true rfl) rfl (to_rc rfl rfl rfl (g_o hG110 rfl)) rfl (C_83 hX (by omega) hG110  (fun M114 hG113 F112 => ?_)))
          have F115 := FR.c F111 F112 tg_234
          refine to_i (pc := 77) rw_100_77 rfl (to_c (pc := 79) rw_100_79 (x := (538561536 : Int32)) rfl rfl (b_cne_t (pc := 81) rw_100_81 (A := (M.2.1 1 8).toInt) (B := 538561536) rfl rfl (by omega) (to_i (pc := 98) rw_100_98 rfl (to_c (pc := 100) rw_100_100 (x := (351582208 : Int32)) rfl rfl (b_cne_t (pc := 102) rw_100_102 (A := (M.2.1 1 8).toInt) (B := 351582208) rfl rfl (by omega) (to_an (pc := 117) rw_100_117 rfl (to_an (pc := 118) rw_100_118 rfl (to_an (pc := 119) rw_100_119 rfl (to_an (pc := 120) rw_100_120 rfl (to_i (pc := 121) rw_100_121 rfl (to_i (pc := 123) rw_100_123 rfl ?_)))))))))))
          refine s_v (pc := 125) rw_100_125 (by omega) (ls0 := [.ref 28, .ref 1, .ref p, .ref 11, .int o, .int (M.2.1 28 7)]) rfl (Nat.le_of_ble_eq_true rfl) (Nat.le_of_ble_eq_true rfl) rfl (to_rc rfl rfl rfl (g_o hG113 rfl)) rfl (C_105 hX (by omega) hG113 hp (by omega) (by omega) (by omega) (by omega) hr (p := p) (o := o) (s := (M.2.1 28 7)) (fun r116 M122 hG118 F117 p_119 p_120 p_121 => ?_))
          have F123 := FR.c F115 F117 tg_235
          refine to_is (pc := 128) rw_100_128 (ls2 := [.ref 28, .ref 1, .ref p, .ref 11, .int o, .int (M.2.1 1 8), .int (M.2.1 28 7), .int r116]) rfl rfl (to_an (pc := 130) rw_100_130 rfl (s_gR (pc := 131) rw_100_131 hG118 rfl (v := 35) rfl (to_i (pc := 134) rw_100_134 rfl (to_an (pc := 136) rw_100_136 rfl ?_))))
          have b_124 := g_b hG118 (a := 28) (i := 7) (lo := 0) (hi := 40) rfl rfl
          refine tt_gI (pc := 137) rw_100_137 (g_o hG118 rfl) (v := (M122.2.1 28 7)) rfl (s_ias (pc := 140) rw_100_140 hG118 rfl (n := 40) rfl (A := (M.2.1 28 7).toInt) rfl (by omega) (by omega) (fun M126 W125 => ?_))
          have hG127 := g_w hG118 W125 (A := (M122.2.1 28 7).toInt) rfl (lo := 0) (hi := 40) rfl rfl (by omega) (by decide)
          have F128 := FR.w F123 W125 (show 35 = 1 ∧ 5 ≤ ((M.2.1 28 7).toInt).toNat ∨ 3 ≤ 35 ∧ 35 ≤ 5 ∨ 28 ≤ 35 ∧ 35 ≤ 35 by omega)
          refine to_i (pc := 141) rw_100_141 rfl (s_r1 (pc := 143) rw_100_143 (A := r116.toInt) rfl (by omega) ?_)
          have c_129 : M126.2.1 1 10 = (M122.2.1 1 10) := (W_n W125 (fun z => absurd z.1 (by decide)) rfl)
          have t_130 : (M126.2.1 1 10).toInt = (M122.2.1 1 10).toInt := congrArg Int32.toInt c_129
          have c_131 : M126.2.1 1 11 = (M122.2.1 1 11) := (W_n W125 (fun z => absurd z.1 (by decide)) rfl)
          have t_132 : (M126.2.1 1 11).toInt = (M122.2.1 1 11).toInt := congrArg Int32.toInt c_131
          exact h r116 M126 hG127 F128 (by omega) (by omega) (by omega)
        · refine to_an (pc := 42) rw_100_42 rfl (to_c (pc := 43) rw_100_43 (x := (2 : Int32)) rfl rfl (s_v (pc := 44) rw_100_44 (by omega) (ls0 := [.ref 1, .int (2 : Int32)]) rfl (Nat.le_of_ble_eq_true rfl) (Nat.le_of_ble_eq_true rfl) rfl (to_rc rfl rfl rfl (g_o hG rfl)) rfl (to_an (pc := 0) rw_84_0 rfl (to_in (pc := 1) rw_84_1 rfl (s_pI (pc := 2) rw_84_2 hG rfl (fun M134 W133 => ?_))))))
          have hG135 := g_wf hG W133 rfl rfl (by decide)
          have F136 := FR.w F0 W133 (show 1 = 1 ∧ 5 ≤ 10 ∨ 3 ≤ 1 ∧ 1 ≤ 5 ∨ 28 ≤ 1 ∧ 1 ≤ 35 by decide)
          refine to_an (pc := 5) rw_84_5 rfl (to_an (pc := 6) rw_84_6 rfl ?_)
          have c_137 : M134.2.1 1 9 = (M.2.1 1 9) := (W_n W133 (by decide) rfl)
          refine tt_gI (pc := 7) rw_84_7 (g_o hG135 rfl) (v := (M.2.1 1 9)) c_137 (s_pI (pc := 10) rw_84_10 hG135 rfl (fun M139 W138 => ?_))
          have hG140 := g_wf hG135 W138 rfl rfl (by decide)
          have F141 := FR.w F136 W138 (show 1 = 1 ∧ 5 ≤ 11 ∨ 3 ≤ 1 ∧ 1 ≤ 5 ∨ 28 ≤ 1 ∧ 1 ≤ 35 by decide)
          refine to_c (pc := 13) rw_84_13 (x := (0 : Int32)) rfl rfl (s_r1 (pc := 14) rw_84_14 (A := 0) rfl (by decide) (s_r1 (pc := 47) rw_100_47 (A := 0) rfl (by decide) ?_))
          have k_142 : (0 : Int32).toInt = 0 := rfl
          have c_143 : M139.2.1 1 10 = (2 : Int32) := (W_n W138 (by decide) (W_e W133))
          have k_144 : (2 : Int32).toInt = 2 := rfl
          have t_145 : (M139.2.1 1 10).toInt = (2 : Int32).toInt := congrArg Int32.toInt c_143
          have c_146 : M139.2.1 1 11 = (M.2.1 1 9) := (W_e W138)
          have t_147 : (M139.2.1 1 11).toInt = (M.2.1 1 9).toInt := congrArg Int32.toInt c_146
          exact h (0 : Int32) M139 hG140 F141 (by decide) (by decide) (by omega)
      · refine to_an (pc := 27) rw_100_27 rfl (to_c (pc := 28) rw_100_28 (x := (1 : Int32)) rfl rfl (s_v (pc := 29) rw_100_29 (by omega) (ls0 := [.ref 1, .int (1 : Int32)]) rfl (Nat.le_of_ble_eq_true rfl) (Nat.le_of_ble_eq_true rfl) rfl (to_rc rfl rfl rfl (g_o hG rfl)) rfl (to_an (pc := 0) rw_84_0 rfl (to_in (pc := 1) rw_84_1 rfl (s_pI (pc := 2) rw_84_2 hG rfl (fun M149 W148 => ?_))))))
        have hG150 := g_wf hG W148 rfl rfl (by decide)
        have F151 := FR.w F0 W148 (show 1 = 1 ∧ 5 ≤ 10 ∨ 3 ≤ 1 ∧ 1 ≤ 5 ∨ 28 ≤ 1 ∧ 1 ≤ 35 by decide)
        refine to_an (pc := 5) rw_84_5 rfl (to_an (pc := 6) rw_84_6 rfl ?_)
        have c_152 : M149.2.1 1 9 = (M.2.1 1 9) := (W_n W148 (by decide) rfl)
        refine tt_gI (pc := 7) rw_84_7 (g_o hG150 rfl) (v := (M.2.1 1 9)) c_152 (s_pI (pc := 10) rw_84_10 hG150 rfl (fun M154 W153 => ?_))
        have hG155 := g_wf hG150 W153 rfl rfl (by decide)
        have F156 := FR.w F151 W153 (show 1 = 1 ∧ 5 ≤ 11 ∨ 3 ≤ 1 ∧ 1 ≤ 5 ∨ 28 ≤ 1 ∧ 1 ≤ 35 by decide)
        refine to_c (pc := 13) rw_84_13 (x := (0 : Int32)) rfl rfl (s_r1 (pc := 14) rw_84_14 (A := 0) rfl (by decide) (s_r1 (pc := 32) rw_100_32 (A := 0) rfl (by decide) ?_))
        have k_157 : (0 : Int32).toInt = 0 := rfl
        have c_158 : M154.2.1 1 10 = (1 : Int32) := (W_n W153 (by decide) (W_e W148))
        have k_159 : (1 : Int32).toInt = 1 := rfl
        have t_160 : (M154.2.1 1 10).toInt = (1 : Int32).toInt := congrArg Int32.toInt c_158
        have c_161 : M154.2.1 1 11 = (M.2.1 1 9) := (W_e W153)
        have t_162 : (M154.2.1 1 11).toInt = (M.2.1 1 9).toInt := congrArg Int32.toInt c_161
        exact h (0 : Int32) M154 hG155 F156 (by decide) (by decide) (by omega)
set_option maxRecDepth 4000 in
set_option maxHeartbeats 0 in
theorem T_99_0 {X : mm_X} {d : Nat} {M : mm_M} {Q : Option Value → mm_M → Prop} {p : Nat} {o : Int32} (hX : g_X X) (hd : 5 + 3 * (5 - o.toInt) ≤ (d : Int)) (hp : p = 49 ∨ p = 58) (q1 : 0 ≤ o.toInt) (q2 : o.toInt ≤ 5) (hr : RC_99 (5 - o.toInt)) (h : ∀ (r : Int32) (M1 : mm_M), g_G M1 → FR md_wt M M1 → (0 ≤ r.toInt) → (r.toInt ≤ 1) → (r.toInt = 1 → (M1.2.1 1 10).toInt = (M.2.1 1 10).toInt ∧ (M1.2.1 1 11).toInt = (M.2.1 1 11).toInt) → Q (some (.int r)) M1) : ∀ nn9 : Nat, (∀ (N : mm_M) (x5 : Int32), g_G N → FR md_wt M N → (0 ≤ x5.toInt) → (x5.toInt ≤ 41) → (o.toInt = o.toInt) → ((N.2.1 1 10).toInt = (M.2.1 1 10).toInt ∧ (N.2.1 1 11).toInt = (M.2.1 1 11).toInt) → 41 - x5.toInt < (nn9 : Int) → mm_T X d 99 3 [.ref 28, .ref 1, .ref p, .ref 11, .int o, .int x5] [] N Q) := by
  intro nn9
  induction nn9 with
  | zero =>
    intro N x5 hG F0 g1 g2 g3 g4 hm
    exfalso; omega
  | succ nn9 ih =>
    intro N x5 hG F0 g1 g2 g3 g4 hm
    refine to_i (pc := 3) rw_99_3 rfl (to_c (pc := 5) rw_99_5 (x := (40 : Int32)) rfl rfl (b_cgt (pc := 7) rw_99_7 (A := x5.toInt) (B := 40) rfl rfl (fun h1 => ?_) (fun h1 => ?_)))
    · refine to_c (pc := 38) rw_99_38 (x := (1 : Int32)) rfl rfl (s_r1 (pc := 39) rw_99_39 (A := 1) rfl (by decide) ?_)
      have k_2 : (1 : Int32).toInt = 1 := rfl
      exact h (1 : Int32) N hG F0 (by decide) (by decide) (by omega)
    · refine to_an (pc := 10) rw_99_10 rfl (tt_gI (pc := 11) rw_99_11 (g_o hG rfl) (v := (N.2.1 1 7)) rfl (to_c (pc := 14) rw_99_14 (x := (4 : Int32)) rfl rfl (b_cne (pc := 15) rw_99_15 (A := (N.2.1 1 7).toInt) (B := 4) rfl rfl (fun h3 => ?_) (fun h3 => ?_))))
      · refine to_c (pc := 38) rw_99_38 (x := (1 : Int32)) rfl rfl (s_r1 (pc := 39) rw_99_39 (A := 1) rfl (by decide) ?_)
        have k_4 : (1 : Int32).toInt = 1 := rfl
        exact h (1 : Int32) N hG F0 (by decide) (by decide) (by omega)
      · refine to_an (pc := 18) rw_99_18 rfl (to_an (pc := 19) rw_99_19 rfl (to_an (pc := 20) rw_99_20 rfl (to_an (pc := 21) rw_99_21 rfl (to_i (pc := 22) rw_99_22 rfl (s_v (pc := 24) rw_99_24 (by omega) (ls0 := [.ref 28, .ref 1, .ref p, .ref 11, .int o, .null, .null, .null]) rfl (Nat.le_of_ble_eq_true rfl) (Nat.le_of_ble_eq_true rfl) rfl (to_rc rfl rfl rfl (g_o hG rfl)) rfl (C_100 hX (by omega) hG hp (by omega) (by omega) hr (p := p) (o := o) (fun r5 M11 hG7 F6 p_8 p_9 p_10 => ?_)))))))
        have F12 := FR.c F0 F6 tg_235
        refine b_ine (pc := 27) rw_99_27 (A := r5.toInt) rfl (fun h13 => ?_) (fun h13 => ?_)
        · refine s_inc (pc := 32) rw_99_32 (ls2 := fun v => [.ref 28, .ref 1, .ref p, .ref 11, .int o, .int v]) rfl rfl (fun _ => rfl) (A := x5.toInt) (B := 1) rfl rfl (by omega) (fun v14 e15 => to_go (pc := 35) rw_99_35 ?_)
          exact ih M11 v14 hG7 F12 (by omega) (by omega) (by omega) (by omega) (by omega)
        · refine to_c (pc := 30) rw_99_30 (x := (0 : Int32)) rfl rfl (s_r1 (pc := 31) rw_99_31 (A := 0) rfl (by decide) ?_)
          have k_16 : (0 : Int32).toInt = 0 := rfl
          exact h (0 : Int32) M11 hG7 F12 (by decide) (by decide) (by omega)
set_option maxRecDepth 4000 in
set_option maxHeartbeats 0 in
theorem B_99 {X : mm_X} {d : Nat} {M : mm_M} {Q : Option Value → mm_M → Prop} {p : Nat} {o : Int32} (hX : g_X X) (hd : 5 + 3 * (5 - o.toInt) ≤ (d : Int)) (hG : g_G M) (hp : p = 49 ∨ p = 58) (q1 : 0 ≤ o.toInt) (q2 : o.toInt ≤ 5) (hr : RC_99 (5 - o.toInt)) (h : ∀ (r : Int32) (M1 : mm_M), g_G M1 → FR md_wt M M1 → (0 ≤ r.toInt) → (r.toInt ≤ 1) → (r.toInt = 1 → (M1.2.1 1 10).toInt = (M.2.1 1 10).toInt ∧ (M1.2.1 1 11).toInt = (M.2.1 1 11).toInt) → Q (some (.int r)) M1) : mm_T X d 99 0 [.ref 28, .ref 1, .ref p, .ref 11, .int o, .null] [] M Q := by
  have F0 : FR md_wt M M := FR.rf
  refine to_c (pc := 0) rw_99_0 (x := (0 : Int32)) rfl rfl (to_is (pc := 1) rw_99_1 (ls2 := [.ref 28, .ref 1, .ref p, .ref 11, .int o, .int (0 : Int32)]) rfl rfl ?_)
  have k_17 : (0 : Int32).toInt = 0 := rfl
  exact (T_99_0 (p := p) (o := o) hX hd hp q1 q2 hr h ((41 - (0 : Int32).toInt).toNat + 1)) M (0 : Int32) hG F0 (by omega) (by omega) (by omega) (by omega) (by omega)
theorem RC_99_all : ∀ nn : Nat, RC_99 (nn : Int) := by
  intro nn
  induction nn with
  | zero =>
    intro X d M Q p o hX hd hG hp q1 q2 hm h
    exfalso; omega
  | succ nn ih =>
    intro X d M Q p o hX hd hG hp q1 q2 hm h
    exact B_99 hX hd hG hp q1 q2 (fun X2 d2 M2 Q2 p2 o2 e71 e72 e73 hp2 q12 q22 hm2 h2 => ih X2 d2 M2 Q2 p2 o2 e71 e72 e73 hp2 q12 q22 (by omega) h2) h
theorem C_99 {X : mm_X} {d : Nat} {M : mm_M} {Q : Option Value → mm_M → Prop} {p : Nat} {o : Int32} (hX : g_X X) (hd : 5 + 3 * (5 - o.toInt) ≤ (d : Int)) (hG : g_G M) (hp : p = 49 ∨ p = 58) (q1 : 0 ≤ o.toInt) (q2 : o.toInt ≤ 5) (h : ∀ (r : Int32) (M1 : mm_M), g_G M1 → FR md_wt M M1 → (0 ≤ r.toInt) → (r.toInt ≤ 1) → (r.toInt = 1 → (M1.2.1 1 10).toInt = (M.2.1 1 10).toInt ∧ (M1.2.1 1 11).toInt = (M.2.1 1 11).toInt) → Q (some (.int r)) M1) : mm_T X d 99 0 [.ref 28, .ref 1, .ref p, .ref 11, .int o, .null] [] M Q := RC_99_all ((5 - o.toInt).toNat + 1) X d M Q p o hX hd hG hp q1 q2 (by omega) h
set_option maxRecDepth 4000 in
set_option maxHeartbeats 0 in
theorem C_98 {X : mm_X} {d : Nat} {M : mm_M} {Q : Option Value → mm_M → Prop} {p : Nat} (hX : g_X X) (hd : 21 ≤ d) (hG : g_G M) (hp : p = 49 ∨ p = 58) (h : ∀ (r : Int32) (M1 : mm_M), g_G M1 → FR md_wt M M1 → (0 ≤ r.toInt) → (r.toInt ≤ 1) → (r.toInt = 1 → (M1.2.1 1 10).toInt = (M.2.1 1 10).toInt ∧ (M1.2.1 1 11).toInt = (M.2.1 1 11).toInt) → Q (some (.int r)) M1) : mm_T X d 98 0 [.ref 28, .ref 1, .ref p, .ref 11] [] M Q := by
  have F0 : FR md_wt M M := FR.rf
  refine to_an (pc := 0) rw_98_0 rfl (to_c (pc := 1) rw_98_1 (x := (0 : Int32)) rfl rfl (s_pI (pc := 2) rw_98_2 hG rfl (fun M2 W1 => ?_)))
  have hG3 := g_w hG W1 (A := 0) rfl (lo := 0) (hi := 40) rfl rfl (by omega) (by decide)
  have F4 := FR.w F0 W1 (show 28 = 1 ∧ 5 ≤ 7 ∨ 3 ≤ 28 ∧ 28 ≤ 5 ∨ 28 ≤ 28 ∧ 28 ≤ 35 by decide)
  refine to_an (pc := 5) rw_98_5 rfl (to_an (pc := 6) rw_98_6 rfl (to_an (pc := 7) rw_98_7 rfl (to_an (pc := 8) rw_98_8 rfl (to_c (pc := 9) rw_98_9 (x := (0 : Int32)) rfl rfl (s_v (pc := 10) rw_98_10 (dp0 hd (by decide)) (ls0 := [.ref 28, .ref 1, .ref p, .ref 11, .int (0 : Int32), .null]) rfl (Nat.le_of_ble_eq_true rfl) (Nat.le_of_ble_eq_true rfl) rfl (to_rc rfl rfl rfl (g_o hG3 rfl)) rfl ?_)))))
  have k_5 : (0 : Int32).toInt = 0 := rfl
  have c_6 : M2.2.1 1 10 = (M.2.1 1 10) := (W_n W1 (by decide) rfl)
  have t_7 : (M2.2.1 1 10).toInt = (M.2.1 1 10).toInt := congrArg Int32.toInt c_6
  have c_8 : M2.2.1 1 11 = (M.2.1 1 11) := (W_n W1 (by decide) rfl)
  have t_9 : (M2.2.1 1 11).toInt = (M.2.1 1 11).toInt := congrArg Int32.toInt c_8
  refine C_99 hX (by omega) hG3 hp (by omega) (by omega) (p := p) (o := (0 : Int32)) (fun r10 M16 hG12 F11 p_13 p_14 p_15 => ?_)
  have F17 := FR.c F4 F11 tg_235
  refine b_ieq (pc := 13) rw_98_13 (A := r10.toInt) rfl (fun h18 => ?_) (fun h18 => ?_)
  · refine to_c (pc := 27) rw_98_27 (x := (0 : Int32)) rfl rfl (s_r1 (pc := 28) rw_98_28 (A := 0) rfl (by decide) ?_)
    exact h (0 : Int32) M16 hG12 F17 (by decide) (by decide) (by omega)
  · refine to_an (pc := 16) rw_98_16 rfl (s_v (pc := 17) rw_98_17 (dp0 hd (by decide)) (ls0 := [.ref 1]) rfl (Nat.le_of_ble_eq_true rfl) (Nat.le_of_ble_eq_true rfl) rfl (to_rc rfl rfl rfl (g_o hG12 rfl)) rfl (to_an (pc := 0) rw_87_0 rfl (tt_gI (pc := 1) rw_87_1 (g_o hG12 rfl) (v := (M16.2.1 1 7)) rfl (b_ieq (pc := 4) rw_87_4 (A := (M16.2.1 1 7).toInt) rfl (fun h19 => ?_) (fun h19 => ?_)))))
    · refine to_c (pc := 15) rw_87_15 (x := (1 : Int32)) rfl rfl (to_go (pc := 16) rw_87_16 (s_r1 (pc := 20) rw_87_20 (A := 1) rfl (by decide) (b_ieq_f (pc := 20) rw_98_20 (A := 1) rfl (by decide) (to_c (pc := 23) rw_98_23 (x := (1 : Int32)) rfl rfl (to_go (pc := 24) rw_98_24 (s_r1 (pc := 28) rw_98_28 (A := 1) rfl (by decide) ?_))))))
      have k_20 : (1 : Int32).toInt = 1 := rfl
      exact h (1 : Int32) M16 hG12 F17 (by decide) (by decide) (by omega)
    · refine to_an (pc := 7) rw_87_7 rfl (to_c (pc := 8) rw_87_8 (x := (1 : Int32)) rfl rfl (s_v (pc := 9) rw_87_9 (dp1 hd (by decide)) (ls0 := [.ref 1, .int (1 : Int32)]) rfl (Nat.le_of_ble_eq_true rfl) (Nat.le_of_ble_eq_true rfl) rfl (to_rc rfl rfl rfl (g_o hG12 rfl)) rfl (to_an (pc := 0) rw_84_0 rfl (to_in (pc := 1) rw_84_1 rfl (s_pI (pc := 2) rw_84_2 hG12 rfl (fun M22 W21 => ?_))))))
      have hG23 := g_wf hG12 W21 rfl rfl (by decide)
      have F24 := FR.w F17 W21 (show 1 = 1 ∧ 5 ≤ 10 ∨ 3 ≤ 1 ∧ 1 ≤ 5 ∨ 28 ≤ 1 ∧ 1 ≤ 35 by decide)
      refine to_an (pc := 5) rw_84_5 rfl (to_an (pc := 6) rw_84_6 rfl ?_)
      have c_25 : M22.2.1 1 9 = (M16.2.1 1 9) := (W_n W21 (by decide) rfl)
      refine tt_gI (pc := 7) rw_84_7 (g_o hG23 rfl) (v := (M16.2.1 1 9)) c_25 (s_pI (pc := 10) rw_84_10 hG23 rfl (fun M27 W26 => ?_))
      have hG28 := g_wf hG23 W26 rfl rfl (by decide)
      have F29 := FR.w F24 W26 (show 1 = 1 ∧ 5 ≤ 11 ∨ 3 ≤ 1 ∧ 1 ≤ 5 ∨ 28 ≤ 1 ∧ 1 ≤ 35 by decide)
      refine to_c (pc := 13) rw_84_13 (x := (0 : Int32)) rfl rfl (s_r1 (pc := 14) rw_84_14 (A := 0) rfl (by decide) (b_ieq_t (pc := 12) rw_87_12 (A := 0) rfl (by decide) (to_c (pc := 19) rw_87_19 (x := (0 : Int32)) rfl rfl (s_r1 (pc := 20) rw_87_20 (A := 0) rfl (by decide) (b_ieq_t (pc := 20) rw_98_20 (A := 0) rfl (by decide) (to_c (pc := 27) rw_98_27 (x := (0 : Int32)) rfl rfl (s_r1 (pc := 28) rw_98_28 (A := 0) rfl (by decide) ?_)))))))
      have c_30 : M27.2.1 1 10 = (1 : Int32) := (W_n W26 (by decide) (W_e W21))
      have k_31 : (1 : Int32).toInt = 1 := rfl
      have t_32 : (M27.2.1 1 10).toInt = (1 : Int32).toInt := congrArg Int32.toInt c_30
      have c_33 : M27.2.1 1 11 = (M16.2.1 1 9) := (W_e W26)
      have t_34 : (M27.2.1 1 11).toInt = (M16.2.1 1 9).toInt := congrArg Int32.toInt c_33
      exact h (0 : Int32) M27 hG28 F29 (by decide) (by decide) (by omega)
noncomputable def RC_107 (k : Int) : Prop := ∀ (X : mm_X) (d : Nat) (M : mm_M) (Q : Option Value → mm_M → Prop) (f : Int32) (t : Int32) (o : Int32), g_X X → (3 + 2 * (6 - o.toInt) ≤ (d : Int)) → g_G M → (0 ≤ f.toInt) → (f.toInt ≤ 40) → (0 ≤ o.toInt) → (o.toInt ≤ 6) → 6 - o.toInt < k → (∀ (M1 : mm_M), g_G M1 → FR md_w M M1 → Q (none) M1) → mm_T X d 107 0 [.ref 28, .ref 17, .int f, .int t, .int o, .null] [] M Q
set_option maxRecDepth 4000 in
set_option maxHeartbeats 0 in
theorem T_108_0 {X : mm_X} {d : Nat} {M : mm_M} {Q : Option Value → mm_M → Prop} {s : Int32} {o : Int32} (hX : g_X X) (hd : 2 + 2 * (6 - o.toInt) ≤ (d : Int)) (q1 : 0 ≤ s.toInt) (q2 : s.toInt ≤ 39) (q3 : 0 ≤ o.toInt) (q4 : o.toInt ≤ 5) (hr : RC_107 (6 - o.toInt)) (h : ∀ (M1 : mm_M), g_G M1 → FR md_w M M1 → Q (none) M1) : ∀ nn9 : Nat, (∀ (N : mm_M) (x4 : Int32), g_G N → FR md_w M N → (0 ≤ x4.toInt) → (x4.toInt ≤ 99) → (0 ≤ s.toInt) → (s.toInt ≤ 39) → (o.toInt = o.toInt) → (0 ≤ o.toInt) → (o.toInt ≤ 5) → 99 - x4.toInt < (nn9 : Int) → mm_T X d 108 92 [.ref 28, .ref 17, .int s, .int o, .int x4] [] N Q) := by
  intro nn9
  induction nn9 with
  | zero =>
    intro N x4 hG F0 g1 g2 g3 g4 g5 g6 g7 hm
    exfalso; omega
  | succ nn9 ih =>
    intro N x4 hG F0 g1 g2 g3 g4 g5 g6 g7 hm
    refine to_i (pc := 92) rw_108_92 rfl (to_an (pc := 94) rw_108_94 rfl (s_gR (pc := 95) rw_108_95 hG rfl (v := 34) rfl (to_in (pc := 98) rw_108_98 rfl (s_ial (pc := 99) rw_108_99 hG rfl (n := 40) rfl rfl (A := s.toInt) rfl (by omega) (by omega) (lo := 0) (hi := 99) rfl rfl (fun v1 w_2 _ _ => b_cge (pc := 100) rw_108_100 (A := x4.toInt) (B := v1.toInt) rfl rfl (fun h3 => ?_) (fun h3 => ?_))))))
    · refine to_rv (pc := 133) rw_108_133 ?_
      exact h N hG F0 
    · refine to_an (pc := 103) rw_108_103 rfl ?_
      have b_4 := g_b hG (a := 28) (i := 10) (lo := 0) (hi := 1) rfl rfl
      refine tt_gZ (pc := 104) rw_108_104 (g_o hG rfl) (v := (N.2.1 28 10)) rfl (b_ine (pc := 107) rw_108_107 (A := (N.2.1 28 10).toInt) rfl (fun h5 => ?_) (fun h5 => ?_))
      · refine to_rv (pc := 133) rw_108_133 ?_
        exact h N hG F0 
      · refine to_an (pc := 110) rw_108_110 rfl (to_an (pc := 111) rw_108_111 rfl (to_in (pc := 112) rw_108_112 rfl (to_c (pc := 113) rw_108_113 (x := (1 : Int32)) rfl rfl (s_add (pc := 114) rw_108_114 (A := s.toInt) (B := 1) rfl rfl (by omega) (fun v6 e7 => to_an (pc := 115) rw_108_115 rfl (s_gR (pc := 116) rw_108_116 hG rfl (v := 35) rfl (to_in (pc := 119) rw_108_119 rfl (s_ial (pc := 120) rw_108_120 hG rfl (n := 40) rfl rfl (A := s.toInt) rfl (by omega) (by omega) (lo := 0) (hi := 40) rfl rfl (fun v8 w_9 _ _ => to_in (pc := 121) rw_108_121 rfl (to_c (pc := 122) rw_108_122 (x := (1 : Int32)) rfl rfl (s_add (pc := 123) rw_108_123 (A := o.toInt) (B := 1) rfl rfl (by omega) (fun v10 e11 => ?_))))))))))))
        refine s_v (pc := 124) rw_108_124 (by omega) (ls0 := [.ref 28, .ref 17, .int v6, .int v8, .int v10, .null]) rfl (Nat.le_of_ble_eq_true rfl) (Nat.le_of_ble_eq_true rfl) rfl (to_rc rfl rfl rfl (g_o hG rfl)) rfl (hr X _ _ _ v6 v8 v10 hX (by omega) hG (by omega) (by omega) (by omega) (by omega) (by omega) (fun M14 hG13 F12 => ?_))
        have F15 := FR.c F0 F12 tg_237
        refine s_inc (pc := 127) rw_108_127 (ls2 := fun v => [.ref 28, .ref 17, .int s, .int o, .int v]) rfl rfl (fun _ => rfl) (A := x4.toInt) (B := 1) rfl rfl (by omega) (fun v16 e17 => to_go (pc := 130) rw_108_130 ?_)
        exact ih M14 v16 hG13 F15 (by omega) (by omega) (by omega) (by omega) (by omega) (by omega) (by omega) (by omega)
set_option maxRecDepth 4000 in
set_option maxHeartbeats 0 in
theorem C_108 {X : mm_X} {d : Nat} {M : mm_M} {Q : Option Value → mm_M → Prop} {s : Int32} {o : Int32} (hX : g_X X) (hd : 2 + 2 * (6 - o.toInt) ≤ (d : Int)) (hG : g_G M) (q1 : 0 ≤ s.toInt) (q2 : s.toInt ≤ 39) (q3 : 0 ≤ o.toInt) (q4 : o.toInt ≤ 5) (hr : RC_107 (6 - o.toInt)) (h : ∀ (M1 : mm_M), g_G M1 → FR md_w M M1 → Q (none) M1) : mm_T X d 108 0 [.ref 28, .ref 17, .int s, .int o, .null] [] M Q := by
  have F0 : FR md_w M M := FR.rf
  refine to_an (pc := 0) rw_108_0 rfl (s_gR (pc := 1) rw_108_1 hG rfl (v := 29) rfl (to_in (pc := 4) rw_108_4 rfl (s_ial (pc := 5) rw_108_5 hG rfl (n := 40) rfl rfl (A := s.toInt) rfl (by omega) (by omega) (lo := -2147483648) (hi := 2147483647) rfl rfl (fun v18 w_19 _ _ => to_c (pc := 6) rw_108_6 (x := (538561536 : Int32)) rfl rfl (b_cne (pc := 8) rw_108_8 (A := v18.toInt) (B := 538561536) rfl rfl (fun h20 => ?_) (fun h20 => ?_))))))
  · refine to_an (pc := 52) rw_108_52 rfl (s_gR (pc := 53) rw_108_53 hG rfl (v := 29) rfl (to_in (pc := 56) rw_108_56 rfl (s_ialk (pc := 57) rw_108_57 hG rfl (n := 40) rfl rfl (A := s.toInt) rfl (by omega) (by omega) (v := v18) w_19 (to_c (pc := 58) rw_108_58 (x := (351582208 : Int32)) rfl rfl (b_cne (pc := 60) rw_108_60 (A := v18.toInt) (B := 351582208) rfl rfl (fun h23 => ?_) (fun h23 => ?_))))))
    · refine to_c (pc := 89) rw_108_89 (x := (0 : Int32)) rfl rfl (to_is (pc := 90) rw_108_90 (ls2 := [.ref 28, .ref 17, .int s, .int o, .int (0 : Int32)]) rfl rfl ?_)
      have k_24 : (0 : Int32).toInt = 0 := rfl
      exact (T_108_0 (s := s) (o := o) hX hd q1 q2 q3 q4 hr h ((99 - (0 : Int32).toInt).toNat + 1)) M (0 : Int32) hG F0 (by omega) (by omega) (by omega) (by omega) (by omega) (by omega) (by omega) (by omega)
    · refine to_an (pc := 63) rw_108_63 rfl (to_an (pc := 64) rw_108_64 rfl (s_gR (pc := 65) rw_108_65 hG rfl (v := 30) rfl (to_in (pc := 68) rw_108_68 rfl (s_ial (pc := 69) rw_108_69 hG rfl (n := 40) rfl rfl (A := s.toInt) rfl (by omega) (by omega) (lo := 0) (hi := 5) rfl rfl (fun v25 w_26 _ _ => to_an (pc := 70) rw_108_70 rfl (s_gR (pc := 71) rw_108_71 hG rfl (v := 31) rfl (to_in (pc := 74) rw_108_74 rfl (s_ial (pc := 75) rw_108_75 hG rfl (n := 40) rfl rfl (A := s.toInt) rfl (by omega) (by omega) (lo := 0) (hi := 5) rfl rfl (fun v27 w_28 _ _ => to_an (pc := 76) rw_108_76 rfl (s_gR (pc := 77) rw_108_77 hG rfl (v := 31) rfl (to_in (pc := 80) rw_108_80 rfl ?_)))))))))))
      refine s_ialk (pc := 81) rw_108_81 hG rfl (n := 40) rfl rfl (A := s.toInt) rfl (by omega) (by omega) (v := v27) w_28 (s_cl (pc := 82) rw_108_82 rfl (fun l31 => s_v (pc := 83) rw_108_83 (by omega) (ls0 := [.ref 17, .int v25, .int v27, .int v27, .long l31, .null, .null, .null]) rfl (Nat.le_of_ble_eq_true rfl) (Nat.le_of_ble_eq_true rfl) rfl (to_rc rfl rfl rfl (g_o hG rfl)) rfl (C_28 hX (by omega) hG (by omega) (by omega) (by omega) (by omega) (by omega) (by omega) (f := v25) (a := v27) (b := v27) (x := l31) (fun M34 hG33 F32 => ?_))))
      have F35 := FR.c F0 F32 tg_238
      refine to_go (pc := 86) rw_108_86 (to_rv (pc := 133) rw_108_133 ?_)
      exact h M34 hG33 F35 
  · refine to_an (pc := 11) rw_108_11 rfl (to_dupr (pc := 12) rw_108_12 (tt_gI (pc := 13) rw_108_13 (g_o hG rfl) (v := (M.2.1 28 9)) rfl (to_c (pc := 16) rw_108_16 (x := (1 : Int32)) rfl rfl (s_any (pc := 17) rw_108_17 (fun _ _ => rfl) (fun v36 => s_pI (pc := 18) rw_108_18 hG rfl (fun M38 W37 => ?_))))))
    have hG39 := g_wf hG W37 rfl rfl (by decide)
    have F40 := FR.w F0 W37 (show 18 ≤ 28 ∧ 28 ≤ 35 by decide)
    refine to_an (pc := 21) rw_108_21 rfl (to_an (pc := 22) rw_108_22 rfl (s_gR (pc := 23) rw_108_23 hG39 rfl (v := 30) rfl (to_in (pc := 26) rw_108_26 rfl (s_ial (pc := 27) rw_108_27 hG39 rfl (n := 40) rfl rfl (A := s.toInt) rfl (by omega) (by omega) (lo := 0) (hi := 5) rfl rfl (fun v41 w_42 _ _ => to_an (pc := 28) rw_108_28 rfl (s_gR (pc := 29) rw_108_29 hG39 rfl (v := 31) rfl (to_in (pc := 32) rw_108_32 rfl (s_ial (pc := 33) rw_108_33 hG39 rfl (n := 40) rfl rfl (A := s.toInt) rfl (by omega) (by omega) (lo := 0) (hi := 5) rfl rfl (fun v43 w_44 _ _ => to_an (pc := 34) rw_108_34 rfl (s_gR (pc := 35) rw_108_35 hG39 rfl (v := 32) rfl (to_in (pc := 38) rw_108_38 rfl ?_)))))))))))
    refine s_ial (pc := 39) rw_108_39 hG39 rfl (n := 40) rfl rfl (A := s.toInt) rfl (by omega) (by omega) (lo := 0) (hi := 5) rfl rfl (fun v45 w_46 _ _ => to_an (pc := 40) rw_108_40 rfl (s_gR (pc := 41) rw_108_41 hG39 rfl (v := 33) rfl (to_in (pc := 44) rw_108_44 rfl (s_lal (pc := 45) rw_108_45 hG39 rfl (n := 40) rfl (A := s.toInt) rfl (by omega) (by omega) (fun l47 => s_v (pc := 46) rw_108_46 (by omega) (ls0 := [.ref 17, .int v41, .int v43, .int v45, .long l47, .null, .null, .null]) rfl (Nat.le_of_ble_eq_true rfl) (Nat.le_of_ble_eq_true rfl) rfl (to_rc rfl rfl rfl (g_o hG39 rfl)) rfl (C_28 hX (by omega) hG39 (by omega) (by omega) (by omega) (by omega) (by omega) (by omega) (f := v41) (a := v43) (b := v45) (x := l47) (fun M50 hG49 F48 => ?_)))))))
    have F51 := FR.c F40 F48 tg_238
    refine to_go (pc := 49) rw_108_49 (to_rv (pc := 133) rw_108_133 ?_)
    exact h M50 hG49 F51 
set_option maxRecDepth 4000 in
set_option maxHeartbeats 0 in
theorem T_107_0 {X : mm_X} {d : Nat} {M : mm_M} {Q : Option Value → mm_M → Prop} {f : Int32} {t : Int32} {o : Int32} (hX : g_X X) (hd : 3 + 2 * (6 - o.toInt) ≤ (d : Int)) (q1 : 0 ≤ f.toInt) (q2 : f.toInt ≤ 40) (q3 : 0 ≤ o.toInt) (q4 : o.toInt ≤ 6) (hr : RC_107 (6 - o.toInt)) (h : ∀ (M1 : mm_M), g_G M1 → FR md_w M M1 → Q (none) M1) : ∀ nn9 : Nat, (∀ (N : mm_M) (u2 : Value) (x5 : Int32), g_G N → FR md_w M N → (0 ≤ x5.toInt) → (x5.toInt ≤ 40) → (o.toInt = o.toInt) → (0 ≤ o.toInt) → (o.toInt ≤ 5) → 40 - x5.toInt < (nn9 : Int) → mm_T X d 107 10 [.ref 28, .ref 17, u2, .int t, .int o, .int x5] [] N Q) := by
  intro nn9
  induction nn9 with
  | zero =>
    intro N u2 x5 hG F0 g1 g2 g3 g4 g5 hm
    exfalso; omega
  | succ nn9 ih =>
    intro N u2 x5 hG F0 g1 g2 g3 g4 g5 hm
    refine to_i (pc := 10) rw_107_10 rfl (to_in (pc := 12) rw_107_12 rfl (b_cge (pc := 13) rw_107_13 (A := x5.toInt) (B := t.toInt) rfl rfl (fun h1 => ?_) (fun h1 => ?_)))
    · refine to_rv (pc := 86) rw_107_86 ?_
      exact h N hG F0 
    · refine to_i (pc := 16) rw_107_16 rfl (to_c (pc := 18) rw_107_18 (x := (40 : Int32)) rfl rfl (b_cge (pc := 20) rw_107_20 (A := x5.toInt) (B := 40) rfl rfl (fun h2 => ?_) (fun h2 => ?_)))
      · refine to_rv (pc := 86) rw_107_86 ?_
        exact h N hG F0 
      · refine to_an (pc := 23) rw_107_23 rfl ?_
        have b_3 := g_b hG (a := 28) (i := 10) (lo := 0) (hi := 1) rfl rfl
        refine tt_gZ (pc := 24) rw_107_24 (g_o hG rfl) (v := (N.2.1 28 10)) rfl (b_ine (pc := 27) rw_107_27 (A := (N.2.1 28 10).toInt) rfl (fun h4 => ?_) (fun h4 => ?_))
        · refine to_rv (pc := 86) rw_107_86 ?_
          exact h N hG F0 
        · refine to_an (pc := 30) rw_107_30 rfl ?_
          have b_5 := g_b hG (a := 28) (i := 8) (lo := 0) (hi := 3000) rfl rfl
          refine tt_gI (pc := 31) rw_107_31 (g_o hG rfl) (v := (N.2.1 28 8)) rfl (to_c (pc := 34) rw_107_34 (x := (3000 : Int32)) rfl rfl (b_clt (pc := 37) rw_107_37 (A := (N.2.1 28 8).toInt) (B := 3000) rfl rfl (fun h6 => ?_) (fun h6 => ?_)))
          · refine to_an (pc := 48) rw_107_48 rfl (to_dupr (pc := 49) rw_107_49 (tt_gI (pc := 50) rw_107_50 (g_o hG rfl) (v := (N.2.1 28 8)) rfl (to_c (pc := 53) rw_107_53 (x := (1 : Int32)) rfl rfl (s_add (pc := 54) rw_107_54 (A := (N.2.1 28 8).toInt) (B := 1) rfl rfl (by omega) (fun v7 e8 => s_pI (pc := 55) rw_107_55 hG rfl (fun M10 W9 => ?_))))))
            have hG11 := g_w hG W9 (A := v7.toInt) rfl (lo := 0) (hi := 3000) rfl rfl (by omega) (by decide)
            have F12 := FR.w F0 W9 (show 18 ≤ 28 ∧ 28 ≤ 35 by decide)
            refine to_an (pc := 58) rw_107_58 rfl (to_an (pc := 59) rw_107_59 rfl (to_i (pc := 60) rw_107_60 rfl (to_i (pc := 62) rw_107_62 rfl (s_v (pc := 64) rw_107_64 (by omega) (ls0 := [.ref 28, .ref 17, .int x5, .int o, .null]) rfl (Nat.le_of_ble_eq_true rfl) (Nat.le_of_ble_eq_true rfl) rfl (to_rc rfl rfl rfl (g_o hG11 rfl)) rfl (C_108 hX (by omega) hG11 (by omega) (by omega) (by omega) (by omega) hr (s := x5) (o := o) (fun M15 hG14 F13 => ?_))))))
            have F16 := FR.c F12 F13 tg_237
            refine to_i (pc := 67) rw_107_67 rfl (to_c (pc := 69) rw_107_69 (x := (1 : Int32)) rfl rfl (s_add (pc := 70) rw_107_70 (A := x5.toInt) (B := 1) rfl rfl (by omega) (fun v17 e18 => to_an (pc := 71) rw_107_71 rfl (s_gR (pc := 72) rw_107_72 hG14 rfl (v := 35) rfl (to_i (pc := 75) rw_107_75 rfl (s_ial (pc := 77) rw_107_77 hG14 rfl (n := 40) rfl rfl (A := x5.toInt) rfl (by omega) (by omega) (lo := 0) (hi := 40) rfl rfl (fun v19 w_20 _ _ => s_max (pc := 78) rw_107_78 rfl (A := v17.toInt) (B := v19.toInt) rfl rfl (fun v21 _ _ _ => to_is (pc := 81) rw_107_81 (ls2 := [.ref 28, .ref 17, u2, .int t, .int o, .int v21]) rfl rfl (to_go (pc := 83) rw_107_83 ?_)))))))))
            exact ih M15 (u2) v21 hG14 F16 (by omega) (by omega) (by omega) (by omega) (by omega) (by omega)
          · refine to_an (pc := 40) rw_107_40 rfl (to_c (pc := 41) rw_107_41 (x := (1 : Int32)) rfl rfl (s_pZ (pc := 42) rw_107_42 hG rfl (A := 1) rfl (by omega) (fun M23 W22 => ?_)))
            have hG24 := g_w hG W22 (A := 1) rfl (lo := 0) (hi := 1) rfl rfl (by omega) (by decide)
            have F25 := FR.w F0 W22 (show 18 ≤ 28 ∧ 28 ≤ 35 by decide)
            refine to_go (pc := 45) rw_107_45 (to_i (pc := 67) rw_107_67 rfl (to_c (pc := 69) rw_107_69 (x := (1 : Int32)) rfl rfl (s_add (pc := 70) rw_107_70 (A := x5.toInt) (B := 1) rfl rfl (by omega) (fun v26 e27 => to_an (pc := 71) rw_107_71 rfl (s_gR (pc := 72) rw_107_72 hG24 rfl (v := 35) rfl (to_i (pc := 75) rw_107_75 rfl (s_ial (pc := 77) rw_107_77 hG24 rfl (n := 40) rfl rfl (A := x5.toInt) rfl (by omega) (by omega) (lo := 0) (hi := 40) rfl rfl (fun v28 w_29 _ _ => s_max (pc := 78) rw_107_78 rfl (A := v26.toInt) (B := v28.toInt) rfl rfl (fun v30 _ _ _ => to_is (pc := 81) rw_107_81 (ls2 := [.ref 28, .ref 17, u2, .int t, .int o, .int v30]) rfl rfl (to_go (pc := 83) rw_107_83 ?_))))))))))
            exact ih M23 (u2) v30 hG24 F25 (by omega) (by omega) (by omega) (by omega) (by omega) (by omega)
set_option maxRecDepth 4000 in
set_option maxHeartbeats 0 in
theorem B_107 {X : mm_X} {d : Nat} {M : mm_M} {Q : Option Value → mm_M → Prop} {f : Int32} {t : Int32} {o : Int32} (hX : g_X X) (hd : 3 + 2 * (6 - o.toInt) ≤ (d : Int)) (hG : g_G M) (q1 : 0 ≤ f.toInt) (q2 : f.toInt ≤ 40) (q3 : 0 ≤ o.toInt) (q4 : o.toInt ≤ 6) (hr : RC_107 (6 - o.toInt)) (h : ∀ (M1 : mm_M), g_G M1 → FR md_w M M1 → Q (none) M1) : mm_T X d 107 0 [.ref 28, .ref 17, .int f, .int t, .int o, .null] [] M Q := by
  have F0 : FR md_w M M := FR.rf
  refine to_i (pc := 0) rw_107_0 rfl (to_c (pc := 2) rw_107_2 (x := (5 : Int32)) rfl rfl (b_cle (pc := 3) rw_107_3 (A := o.toInt) (B := 5) rfl rfl (fun h31 => ?_) (fun h31 => ?_)))
  · refine to_in (pc := 7) rw_107_7 rfl (to_is (pc := 8) rw_107_8 (ls2 := [.ref 28, .ref 17, .int f, .int t, .int o, .int f]) rfl rfl ?_)
    exact (T_107_0 (f := f) (t := t) (o := o) hX hd q1 q2 q3 q4 hr h ((40 - f.toInt).toNat + 1)) M (.int f) f hG F0 (by omega) (by omega) (by omega) (by omega) (by omega) (by omega)
  · refine to_rv (pc := 6) rw_107_6 ?_
    exact h M hG F0 
theorem RC_107_all : ∀ nn : Nat, RC_107 (nn : Int) := by
  intro nn
  induction nn with
  | zero =>
    intro X d M Q f t o hX hd hG q1 q2 q3 q4 hm h
    exfalso; omega
  | succ nn ih =>
    intro X d M Q f t o hX hd hG q1 q2 q3 q4 hm h
    exact B_107 hX hd hG q1 q2 q3 q4 (fun X2 d2 M2 Q2 f2 t2 o2 e71 e72 e73 q12 q22 q32 q42 hm2 h2 => ih X2 d2 M2 Q2 f2 t2 o2 e71 e72 e73 q12 q22 q32 q42 (by omega) h2) h
theorem C_107 {X : mm_X} {d : Nat} {M : mm_M} {Q : Option Value → mm_M → Prop} {f : Int32} {t : Int32} {o : Int32} (hX : g_X X) (hd : 3 + 2 * (6 - o.toInt) ≤ (d : Int)) (hG : g_G M) (q1 : 0 ≤ f.toInt) (q2 : f.toInt ≤ 40) (q3 : 0 ≤ o.toInt) (q4 : o.toInt ≤ 6) (h : ∀ (M1 : mm_M), g_G M1 → FR md_w M M1 → Q (none) M1) : mm_T X d 107 0 [.ref 28, .ref 17, .int f, .int t, .int o, .null] [] M Q := RC_107_all ((6 - o.toInt).toNat + 1) X d M Q f t o hX hd hG q1 q2 q3 q4 (by omega) h
set_option maxRecDepth 4000 in
set_option maxHeartbeats 0 in
theorem C_106 {X : mm_X} {d : Nat} {M : mm_M} {Q : Option Value → mm_M → Prop} (hX : g_X X) (hd : 16 ≤ d) (hG : g_G M) (h : ∀ (r : Int32) (M1 : mm_M), g_G M1 → FR md_w M M1 → (0 ≤ r.toInt) → (r.toInt ≤ 1) → Q (some (.int r)) M1) : mm_T X d 106 0 [.ref 28, .ref 17] [] M Q := by
  have F0 : FR md_w M M := FR.rf
  refine to_an (pc := 0) rw_106_0 rfl (to_c (pc := 1) rw_106_1 (x := (0 : Int32)) rfl rfl (s_pI (pc := 2) rw_106_2 hG rfl (fun M2 W1 => ?_)))
  have hG3 := g_w hG W1 (A := 0) rfl (lo := 0) (hi := 3000) rfl rfl (by omega) (by decide)
  have F4 := FR.w F0 W1 (show 18 ≤ 28 ∧ 28 ≤ 35 by decide)
  refine to_an (pc := 5) rw_106_5 rfl (to_c (pc := 6) rw_106_6 (x := (0 : Int32)) rfl rfl (s_pI (pc := 7) rw_106_7 hG3 rfl (fun M6 W5 => ?_)))
  have hG7 := g_wf hG3 W5 rfl rfl (by decide)
  have F8 := FR.w F4 W5 (show 18 ≤ 28 ∧ 28 ≤ 35 by decide)
  refine to_an (pc := 10) rw_106_10 rfl (to_c (pc := 11) rw_106_11 (x := (0 : Int32)) rfl rfl (s_pZ (pc := 12) rw_106_12 hG7 rfl (A := 0) rfl (by omega) (fun M10 W9 => ?_)))
  have hG11 := g_w hG7 W9 (A := 0) rfl (lo := 0) (hi := 1) rfl rfl (by omega) (by decide)
  have F12 := FR.w F8 W9 (show 18 ≤ 28 ∧ 28 ≤ 35 by decide)
  refine to_an (pc := 15) rw_106_15 rfl (to_an (pc := 16) rw_106_16 rfl (to_c (pc := 17) rw_106_17 (x := (0 : Int32)) rfl rfl (to_an (pc := 18) rw_106_18 rfl ?_)))
  have c_13 : M10.2.1 28 7 = (M.2.1 28 7) := (W_n W9 (by decide) (W_n W5 (by decide) (W_n W1 (by decide) rfl)))
  have b_14 := g_b hG (a := 28) (i := 7) (lo := 0) (hi := 40) rfl rfl
  refine tt_gI (pc := 19) rw_106_19 (g_o hG11 rfl) (v := (M.2.1 28 7)) c_13 (to_c (pc := 22) rw_106_22 (x := (0 : Int32)) rfl rfl (s_v (pc := 23) rw_106_23 (dp0 hd (by decide)) (ls0 := [.ref 28, .ref 17, .int (0 : Int32), .int (M.2.1 28 7), .int (0 : Int32), .null]) rfl (Nat.le_of_ble_eq_true rfl) (Nat.le_of_ble_eq_true rfl) rfl (to_rc rfl rfl rfl (g_o hG11 rfl)) rfl ?_))
  have k_15 : (0 : Int32).toInt = 0 := rfl
  refine C_107 hX (by omega) hG11 (by omega) (by omega) (by omega) (by omega) (f := (0 : Int32)) (t := (M.2.1 28 7)) (o := (0 : Int32)) (fun M18 hG17 F16 => ?_)
  have F19 := FR.c F12 F16 tg_237
  refine to_an (pc := 26) rw_106_26 rfl ?_
  have b_20 := g_b hG17 (a := 28) (i := 10) (lo := 0) (hi := 1) rfl rfl
  refine tt_gZ (pc := 27) rw_106_27 (g_o hG17 rfl) (v := (M18.2.1 28 10)) rfl (b_ine (pc := 30) rw_106_30 (A := (M18.2.1 28 10).toInt) rfl (fun h21 => ?_) (fun h21 => ?_))
  · refine to_c (pc := 37) rw_106_37 (x := (0 : Int32)) rfl rfl (s_r1 (pc := 38) rw_106_38 (A := 0) rfl (by decide) ?_)
    exact h (0 : Int32) M18 hG17 F19 (by decide) (by decide)
  · refine to_c (pc := 33) rw_106_33 (x := (1 : Int32)) rfl rfl (to_go (pc := 34) rw_106_34 (s_r1 (pc := 38) rw_106_38 (A := 1) rfl (by decide) ?_))
    have k_22 : (1 : Int32).toInt = 1 := rfl
    exact h (1 : Int32) M18 hG17 F19 (by decide) (by decide)
