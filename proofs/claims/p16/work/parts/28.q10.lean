theorem tg_39 {M M1 : mm_M} {s : x_S} (F : FR (fun a i : Nat => a = 77 ∧ 7 ≤ i ∧ i ≤ 10) M M1) : ∀ a i : Nat, (a = 77 ∧ 14 ≤ i ∧ i ≤ 16 ∨ 80 ≤ a ∧ a ≤ 84 ∧ 8 ≤ i ∧ (i : Int) < s.2.1 + 8 ∨ 85 ≤ a ∧ a ≤ 86 ∧ 12 ≤ i ∧ (i : Int) < s.2.2.1 + 12) → M1.2.1 a i = M.2.1 a i := fun a i z => F_n F (show ¬ (a = 77 ∧ 7 ≤ i ∧ i ≤ 10) by omega) rfl
theorem tg_40 {M M1 : mm_M} (F : FR (fun a i : Nat => a = 77 ∧ (i = 4 ∨ i = 5)) M M1) : ∀ a i : Nat, (a = 77 ∧ 6 ≤ i ∧ i ≤ 10) → M1.2.1 a i = M.2.1 a i := fun a i z => F_n F (show ¬ (a = 77 ∧ (i = 4 ∨ i = 5)) by omega) rfl
theorem tg_41 {M M1 : mm_M} (F : FR (fun a i : Nat => a = 77 ∧ (i = 4 ∨ i = 5)) M M1) : ∀ a i : Nat, a = 78 → M1.2.1 a i = M.2.1 a i := fun a i z => F_n F (show ¬ (a = 77 ∧ (i = 4 ∨ i = 5)) by omega) rfl
theorem tg_42 {M M1 : mm_M} (F : FR (fun a i : Nat => a = 77 ∧ 7 ≤ i ∧ i ≤ 10) M M1) : ∀ a i : Nat, a = 78 → M1.2.1 a i = M.2.1 a i := fun a i z => F_n F (show ¬ (a = 77 ∧ 7 ≤ i ∧ i ≤ 10) by omega) rfl
theorem tg_43 {M M1 : mm_M} (F : FR (fun a i : Nat => a = 77 ∧ (i = 4 ∨ i = 5)) M M1) : ∀ a i : Nat, a = 79 → M1.2.1 a i = M.2.1 a i := fun a i z => F_n F (show ¬ (a = 77 ∧ (i = 4 ∨ i = 5)) by omega) rfl
theorem tg_44 {M M1 : mm_M} (F : FR (fun a i : Nat => a = 77 ∧ 7 ≤ i ∧ i ≤ 10) M M1) : ∀ a i : Nat, a = 79 → M1.2.1 a i = M.2.1 a i := fun a i z => F_n F (show ¬ (a = 77 ∧ 7 ≤ i ∧ i ≤ 10) by omega) rfl
theorem tg_45 {M M1 : mm_M} (F : FR (fun a i : Nat => a < 0) M M1) : ∀ a i : Nat, (a = 77 ∧ 6 ≤ i ∧ i ≤ 10) → M1.2.1 a i = M.2.1 a i := fun a i z => F_n F (show ¬ (a < 0) by omega) rfl
theorem tg_46 {M M1 : mm_M} (F : FR (fun a i : Nat => a < 0) M M1) : ∀ a i : Nat, a = 79 → M1.2.1 a i = M.2.1 a i := fun a i z => F_n F (show ¬ (a < 0) by omega) rfl
theorem tg_47 {M M1 : mm_M} {s : x_S} (F : FR (fun a i : Nat => a < 0) M M1) : ∀ a i : Nat, (a = 77 ∧ 14 ≤ i ∧ i ≤ 16 ∨ 80 ≤ a ∧ a ≤ 84 ∧ 8 ≤ i ∧ (i : Int) < s.2.1 + 8 ∨ 85 ≤ a ∧ a ≤ 86 ∧ 12 ≤ i ∧ (i : Int) < s.2.2.1 + 12) → M1.2.1 a i = M.2.1 a i := fun a i z => F_n F (show ¬ (a < 0) by omega) rfl
theorem tg_48 {M M1 : mm_M} {s : x_S} (F : FR (fun a i : Nat => a = 77 ∧ (i = 4 ∨ i = 5)) M M1) : ∀ a i : Nat, (a = 77 ∧ 14 ≤ i ∧ i ≤ 16 ∨ 80 ≤ a ∧ a ≤ 84 ∧ 8 ≤ i ∧ (i : Int) < s.2.1 + 8 ∨ 85 ≤ a ∧ a ≤ 86 ∧ 12 ≤ i ∧ (i : Int) < s.2.2.1 + 12) → M1.2.1 a i = M.2.1 a i := fun a i z => F_n F (show ¬ (a = 77 ∧ (i = 4 ∨ i = 5)) by omega) rfl
theorem tg_49 : ∀ a i : Nat, (a = 77 ∧ 7 ≤ i ∧ i ≤ 10) → (a = 77 ∧ (i = 4 ∨ i = 5 ∨ 7 ≤ i ∧ i ≤ 10 ∨ i = 15 ∨ i = 25) ∨ 80 ≤ a ∧ a ≤ 84 ∧ 8 ≤ i) := fun a i z => by omega
theorem tg_50 : ∀ a i : Nat, (a = 77 ∧ (i = 4 ∨ i = 5)) → (a = 77 ∧ (i = 4 ∨ i = 5 ∨ 7 ≤ i ∧ i ≤ 10 ∨ i = 15 ∨ i = 25) ∨ 80 ≤ a ∧ a ≤ 84 ∧ 8 ≤ i) := fun a i z => by omega
theorem tg_51 : ∀ a i : Nat, (a < 0) → (a = 77 ∧ (i = 4 ∨ i = 5 ∨ 7 ≤ i ∧ i ≤ 10 ∨ i = 15 ∨ i = 25) ∨ 80 ≤ a ∧ a ≤ 84 ∧ 8 ≤ i) := fun a i z => by omega
theorem tg_52 : ∀ a i : Nat, (a = 77 ∧ 6 ≤ i ∧ i ≤ 10) → ¬ (a = 77 ∧ i = 15) := fun a i z => by omega
theorem tg_53 : ∀ a i j : Nat, (a = 77 ∧ 6 ≤ i ∧ i ≤ 10) → ¬ (a = 84 ∧ i = j) := fun a i j z => by omega
theorem tg_54 : ∀ a i j : Nat, (a = 77 ∧ 6 ≤ i ∧ i ≤ 10) → ¬ (a = 83 ∧ i = j) := fun a i j z => by omega
theorem tg_55 : ∀ a i j : Nat, (a = 77 ∧ 6 ≤ i ∧ i ≤ 10) → ¬ (a = 82 ∧ i = j) := fun a i j z => by omega
theorem tg_56 : ∀ a i j : Nat, (a = 77 ∧ 6 ≤ i ∧ i ≤ 10) → ¬ (a = 81 ∧ i = j) := fun a i j z => by omega
theorem tg_57 : ∀ a i j : Nat, (a = 77 ∧ 6 ≤ i ∧ i ≤ 10) → ¬ (a = 80 ∧ i = j) := fun a i j z => by omega
set_option maxRecDepth 4000 in
set_option maxHeartbeats 0 in
theorem E_170 {X : mm_X} {d : Nat} {M : mm_M} {Q : Option Value → mm_M → Prop} {t : Nat → Int} {nn : Int} {a : Int} {sg : x_S} {k : x_K} (hX : g_X X) (hd : 3 ≤ d) (hG : g_G M) (q1 : RS M t nn) (q2 : (M.2.1 77 10).toInt = a) (q3 : 0 ≤ nn) (q4 : nn ≤ 500) (q5 : TR M t nn) (q6 : W9 M) (q7 : PLr M sg) (q8 : CWr M sg) (h : ∀ (r : Int32) (M1 : mm_M), g_G M1 → FR md_fl170 M M1 → (0 ≤ r.toInt) → (r.toInt ≤ 1) → RS M1 t nn → ((r.toInt = 0 → x_field t nn sg (x_ns t nn a) k = none)) → ((r.toInt = 1 → FOr (x_field t nn sg (x_ns t nn a) k) k M1 sg)) → Q (some (.int r)) M1) : mm_T X d 169 0 [.ref 77, .null, .null, .null, .null, .null, .null, .null, .null] [] M Q := by
  have F0 : FR md_fl170 M M := FR.rf
  have b_1 := g_b hG (a := 77) (i := 10) (lo := 0) (hi := 500) rfl rfl
  have z_2 := q7.2.1
  have z_3 := q7.2.2.1
  have z_4 := q7.2.2.2.1
  have z_5 := q7.1
  have z_6 := z_5.1
  have z_7 := z_5.2.1
  have z_8 := z_5.2.2.1
  have z_9 := z_5.2.2.2.1
  have z_10 := z_5.2.2.2.2.1
  have z_11 := z_5.2.2.2.2.2.1
  have b_12 := g_b hG (a := 77) (i := 14) (lo := 10) (hi := 60) rfl rfl
  have b_13 := g_b hG (a := 77) (i := 15) (lo := 0) (hi := 8) rfl rfl
  have b_14 := g_b hG (a := 77) (i := 16) (lo := 0) (hi := 12) rfl rfl
  refine to_an (pc := 0) rw_170_0 rfl (tt_gI (pc := 1) rw_170_1 (g_o hG rfl) (v := (M.2.1 77 15)) rfl (to_c (pc := 4) rw_170_4 (x := (8 : Int32)) rfl rfl (b_cne (pc := 6) rw_170_6 (A := (M.2.1 77 15).toInt) (B := 8) rfl rfl (fun h15 => ?_) (fun h15 => ?_))))
  · refine to_an (pc := 15) rw_170_15 rfl (s_v (pc := 16) rw_170_16 (dp0 hd (by decide)) (ls0 := [.ref 77]) rfl (Nat.le_of_ble_eq_true rfl) (Nat.le_of_ble_eq_true rfl) rfl (to_rc rfl rfl rfl (g_o hG rfl)) rfl ?_)
    have b_16 := g_b hG (a := 77) (i := 7) (lo := 0) (hi := 500) rfl rfl
    have b_17 := g_b hG (a := 77) (i := 6) (lo := 0) (hi := 500) rfl rfl
    have z_18 := RS_b q1 (a := a) (by omega)
    refine E_156 hX (dp1 hd (by decide)) hG (by omega) (by omega) (by omega) (by omega) q5 q6  (fun M25 hG20 F19 p_21 p_22 p_23 p_24 => ?_)
    have F26 := FR.c F0 F19 tg_49
    have b_27 := g_b hG20 (a := 77) (i := 7) (lo := 0) (hi := 500) rfl rfl
    have c_28 : M25.2.1 77 6 = (M.2.1 77 6) := (F_n F19 (show ¬ (77 = 77 ∧ 7 ≤ 6 ∧ 6 ≤ 10) by decide) rfl)
    have t_29 : (M25.2.1 77 6).toInt = (M.2.1 77 6).toInt := congrArg Int32.toInt c_28
    have b_30 := g_b hG20 (a := 77) (i := 8) (lo := 0) (hi := 5) rfl rfl
    have b_31 := g_b hG20 (a := 77) (i := 10) (lo := 0) (hi := 500) rfl rfl
    have z_32 := RS_s p_24.2 (a := a) (by omega)
    refine to_an (pc := 19) rw_170_19 rfl (s_v (pc := 20) rw_170_20 (dp0 hd (by decide)) (ls0 := [.ref 77]) rfl (Nat.le_of_ble_eq_true rfl) (Nat.le_of_ble_eq_true rfl) rfl (to_rc rfl rfl rfl (g_o hG20 rfl)) rfl ?_)
    have j_33 := (PLr_f (tg_39 F19) (F_nl F19 (show ¬ (77 = 77 ∧ 7 ≤ 25 ∧ 25 ≤ 10) by decide) rfl) q7)
    refine E_169 hX (dp1 hd (by decide)) hG20 p_24.1 (by omega) j_33 (t := t) (nn := nn) (a := (x_ns t nn a)) (sg := sg) (fun r34 M42 hG36 F35 p_37 p_38 p_39 p_40 p_41 => ?_)
    have F43 := FR.c F26 F35 tg_50
    rcases (show r34.toInt = 0 ∨ r34.toInt = 1 by omega) with h44 | h44
    · skip
      have p_45 := p_41 (by omega)
      clear p_39 p_40 p_41
      refine b_ine_f (pc := 23) rw_170_23 (A := r34.toInt) rfl (by omega) (to_c (pc := 26) rw_170_26 (x := (0 : Int32)) rfl rfl (s_r1 (pc := 27) rw_170_27 (A := 0) rfl (by decide) ?_))
      have k_46 : (0 : Int32).toInt = 0 := rfl
      have j_47 := (RS_f (tg_40 F35) p_24.1)
      exact h (0 : Int32) M42 hG36 F43 (by decide) (by decide) j_47 (fun _ => x_field_n (fun h9 => by unfold x_fC at h9; omega)) (fun z => absurd z (by decide))
    · skip
      have p_48 := p_39 (by omega)
      have p_49 := p_40 (by omega)
      clear p_39 p_40 p_41
      refine b_ine_t (pc := 23) rw_170_23 (A := r34.toInt) rfl (by omega) (to_c (pc := 28) rw_170_28 (x := (8 : Int32)) rfl rfl (to_an (pc := 30) rw_170_30 rfl ?_))
      have c_50 : M42.2.1 77 15 = (M.2.1 77 15) := (F_n F35 (show ¬ (77 = 77 ∧ (15 = 4 ∨ 15 = 5)) by decide) (F_n F19 (show ¬ (77 = 77 ∧ 7 ≤ 15 ∧ 15 ≤ 10) by decide) rfl))
      refine tt_gI (pc := 31) rw_170_31 (g_o hG36 rfl) (v := (M.2.1 77 15)) c_50 (s_add (pc := 34) rw_170_34 (A := 8) (B := (M.2.1 77 15).toInt) rfl rfl (by omega) (fun v51 e52 => to_isn (pc := 35) rw_170_35 (ls2 := [.ref 77, .int v51, .null, .null, .null, .null, .null, .null, .null]) rfl rfl (to_an (pc := 36) rw_170_36 rfl ?_)))
      have c_53 : M42.2.1 77 9 = (M25.2.1 77 9) := (F_n F35 (show ¬ (77 = 77 ∧ (9 = 4 ∨ 9 = 5)) by decide) rfl)
      refine tt_gI (pc := 37) rw_170_37 (g_o hG36 rfl) (v := (M25.2.1 77 9)) c_53 (to_isn (pc := 40) rw_170_40 (ls2 := [.ref 77, .int v51, .int (M25.2.1 77 9), .null, .null, .null, .null, .null, .null]) rfl rfl (to_an (pc := 41) rw_170_41 rfl (s_v (pc := 42) rw_170_42 (dp0 hd (by decide)) (ls0 := [.ref 77]) rfl (Nat.le_of_ble_eq_true rfl) (Nat.le_of_ble_eq_true rfl) rfl (to_rc rfl rfl rfl (g_o hG36 rfl)) rfl ?_)))
      have c_54 : M42.2.1 77 7 = (M25.2.1 77 7) := (F_n F35 (show ¬ (77 = 77 ∧ (7 = 4 ∨ 7 = 5)) by decide) rfl)
      have t_55 : (M42.2.1 77 7).toInt = (M25.2.1 77 7).toInt := congrArg Int32.toInt c_54
      have c_56 : M42.2.1 77 6 = (M.2.1 77 6) := (F_n F35 (show ¬ (77 = 77 ∧ (6 = 4 ∨ 6 = 5)) by decide) c_28)
      have t_57 : (M42.2.1 77 6).toInt = (M.2.1 77 6).toInt := congrArg Int32.toInt c_56
      have c_58 : M42.2.1 77 10 = (M25.2.1 77 10) := (F_n F35 (show ¬ (77 = 77 ∧ (10 = 4 ∨ 10 = 5)) by decide) rfl)
      have t_59 : (M42.2.1 77 10).toInt = (M25.2.1 77 10).toInt := congrArg Int32.toInt c_58
      have j_60 := (RS_f (tg_40 F35) p_24.1)
      have z_61 := RS_b j_60 (a := (x_ns t nn a)) (by omega)
      have j_62 := (TR_f (tg_41 F35) (TR_f (tg_42 F19) q5))
      have j_63 := (W9_f (tg_43 F35) (W9_f (tg_44 F19) q6))
      refine E_156 hX (dp1 hd (by decide)) hG36 (by omega) (by omega) (by omega) (by omega) j_62 j_63  (fun M70 hG65 F64 p_66 p_67 p_68 p_69 => ?_)
      have F71 := FR.c F43 F64 tg_49
      have b_72 := g_b hG65 (a := 77) (i := 7) (lo := 0) (hi := 500) rfl rfl
      have c_73 : M70.2.1 77 6 = (M.2.1 77 6) := (F_n F64 (show ¬ (77 = 77 ∧ 7 ≤ 6 ∧ 6 ≤ 10) by decide) c_56)
      have t_74 : (M70.2.1 77 6).toInt = (M.2.1 77 6).toInt := congrArg Int32.toInt c_73
      have b_75 := g_b hG65 (a := 77) (i := 8) (lo := 0) (hi := 5) rfl rfl
      have b_76 := g_b hG65 (a := 77) (i := 10) (lo := 0) (hi := 500) rfl rfl
      have z_77 := RS_s p_69.2 (a := (x_ns t nn a)) (by omega)
      have c_78 := RS_u p_69.1 (a := (x_ns t nn (x_ns t nn a))) (by omega)
      unfold x_R at c_78
      refine to_an (pc := 45) rw_170_45 rfl (tt_gI (pc := 46) rw_170_46 (g_o hG65 rfl) (v := (M70.2.1 77 8)) rfl (to_c (pc := 49) rw_170_49 (x := (1 : Int32)) rfl rfl (b_cne (pc := 50) rw_170_50 (A := (M70.2.1 77 8).toInt) (B := 1) rfl rfl (fun h79 => ?_) (fun h79 => ?_))))
      · refine to_an (pc := 70) rw_170_70 rfl (to_c (pc := 71) rw_170_71 (x := (1 : Int32)) rfl rfl (s_v (pc := 72) rw_170_72 (dp0 hd (by decide)) (ls0 := [.ref 77, .int (1 : Int32)]) rfl (Nat.le_of_ble_eq_true rfl) (Nat.le_of_ble_eq_true rfl) rfl (to_rc rfl rfl rfl (g_o hG65 rfl)) rfl (to_an (pc := 0) rw_152_0 rfl (to_in (pc := 1) rw_152_1 rfl (s_pI (pc := 2) rw_152_2 hG65 rfl (fun M81 W80 => ?_))))))
        have hG82 := g_wf hG65 W80 rfl rfl (by decide)
        have F83 := FR.w F71 W80 (show 77 = 77 ∧ (4 = 4 ∨ 4 = 5 ∨ 7 ≤ 4 ∧ 4 ≤ 10 ∨ 4 = 15 ∨ 4 = 25) ∨ 80 ≤ 77 ∧ 77 ≤ 84 ∧ 8 ≤ 4 by decide)
        refine to_an (pc := 5) rw_152_5 rfl (to_an (pc := 6) rw_152_6 rfl ?_)
        have c_84 : M81.2.1 77 10 = (M70.2.1 77 10) := (W_n W80 (by decide) rfl)
        refine tt_gI (pc := 7) rw_152_7 (g_o hG82 rfl) (v := (M70.2.1 77 10)) c_84 (s_pI (pc := 10) rw_152_10 hG82 rfl (fun M86 W85 => ?_))
        have hG87 := g_wf hG82 W85 rfl rfl (by decide)
        have F88 := FR.w F83 W85 (show 77 = 77 ∧ (5 = 4 ∨ 5 = 5 ∨ 7 ≤ 5 ∧ 5 ≤ 10 ∨ 5 = 15 ∨ 5 = 25) ∨ 80 ≤ 77 ∧ 77 ≤ 84 ∧ 8 ≤ 5 by decide)
        refine to_c (pc := 13) rw_152_13 (x := (0 : Int32)) rfl rfl (s_r1 (pc := 14) rw_152_14 (A := 0) rfl (by decide) (s_r1 (pc := 75) rw_170_75 (A := 0) rfl (by decide) ?_))
        have k_89 : (0 : Int32).toInt = 0 := rfl
        have j_90 := (RS_f (fun a i z => W_n W85 (tg_37 a i z) rfl) (RS_f (fun a i z => W_n W80 (tg_38 a i z) rfl) p_69.1))
        exact h (0 : Int32) M86 hG87 F88 (by decide) (by decide) j_90 (fun _ => x_field_n (fun h9 => by unfold x_fC at h9; omega)) (fun z => absurd z (by decide))
      · refine to_an (pc := 53) rw_170_53 rfl (tt_gI (pc := 54) rw_170_54 (g_o hG65 rfl) (v := (M70.2.1 77 9)) rfl (to_c (pc := 57) rw_170_57 (x := (3 : Int32)) rfl rfl (b_clt (pc := 58) rw_170_58 (A := (M70.2.1 77 9).toInt) (B := 3) rfl rfl (fun h91 => ?_) (fun h91 => ?_))))
        · refine to_an (pc := 70) rw_170_70 rfl (to_c (pc := 71) rw_170_71 (x := (1 : Int32)) rfl rfl (s_v (pc := 72) rw_170_72 (dp0 hd (by decide)) (ls0 := [.ref 77, .int (1 : Int32)]) rfl (Nat.le_of_ble_eq_true rfl) (Nat.le_of_ble_eq_true rfl) rfl (to_rc rfl rfl rfl (g_o hG65 rfl)) rfl (to_an (pc := 0) rw_152_0 rfl (to_in (pc := 1) rw_152_1 rfl (s_pI (pc := 2) rw_152_2 hG65 rfl (fun M93 W92 => ?_))))))
          have hG94 := g_wf hG65 W92 rfl rfl (by decide)
          have F95 := FR.w F71 W92 (show 77 = 77 ∧ (4 = 4 ∨ 4 = 5 ∨ 7 ≤ 4 ∧ 4 ≤ 10 ∨ 4 = 15 ∨ 4 = 25) ∨ 80 ≤ 77 ∧ 77 ≤ 84 ∧ 8 ≤ 4 by decide)
          refine to_an (pc := 5) rw_152_5 rfl (to_an (pc := 6) rw_152_6 rfl ?_)
          have c_96 : M93.2.1 77 10 = (M70.2.1 77 10) := (W_n W92 (by decide) rfl)
          refine tt_gI (pc := 7) rw_152_7 (g_o hG94 rfl) (v := (M70.2.1 77 10)) c_96 (s_pI (pc := 10) rw_152_10 hG94 rfl (fun M98 W97 => ?_))
          have hG99 := g_wf hG94 W97 rfl rfl (by decide)
          have F100 := FR.w F95 W97 (show 77 = 77 ∧ (5 = 4 ∨ 5 = 5 ∨ 7 ≤ 5 ∧ 5 ≤ 10 ∨ 5 = 15 ∨ 5 = 25) ∨ 80 ≤ 77 ∧ 77 ≤ 84 ∧ 8 ≤ 5 by decide)
          refine to_c (pc := 13) rw_152_13 (x := (0 : Int32)) rfl rfl (s_r1 (pc := 14) rw_152_14 (A := 0) rfl (by decide) (s_r1 (pc := 75) rw_170_75 (A := 0) rfl (by decide) ?_))
          have k_101 : (0 : Int32).toInt = 0 := rfl
          have j_102 := (RS_f (fun a i z => W_n W97 (tg_37 a i z) rfl) (RS_f (fun a i z => W_n W92 (tg_38 a i z) rfl) p_69.1))
          exact h (0 : Int32) M98 hG99 F100 (by decide) (by decide) j_102 (fun _ => x_field_n (fun h9 => by unfold x_fC at h9; omega)) (fun z => absurd z (by decide))
        · refine to_an (pc := 61) rw_170_61 rfl (tt_gI (pc := 62) rw_170_62 (g_o hG65 rfl) (v := (M70.2.1 77 9)) rfl (to_c (pc := 65) rw_170_65 (x := (6 : Int32)) rfl rfl (b_cle (pc := 67) rw_170_67 (A := (M70.2.1 77 9).toInt) (B := 6) rfl rfl (fun h103 => ?_) (fun h103 => ?_))))
          · have z_104 : x_kind t nn (x_ns t nn (x_ns t nn a)) = 1 ∧ (x_kx (x_val t nn (x_ns t nn (x_ns t nn a)))) = (M70.2.1 77 9).toInt := by omega
            clear c_78
            refine to_an (pc := 76) rw_170_76 rfl (tt_gI (pc := 77) rw_170_77 (g_o hG65 rfl) (v := (M70.2.1 77 9)) rfl (to_c (pc := 80) rw_170_80 (x := (3 : Int32)) rfl rfl (s_sub (pc := 81) rw_170_81 (A := (M70.2.1 77 9).toInt) (B := 3) rfl rfl (by omega) (fun v105 e106 => to_isn (pc := 82) rw_170_82 (ls2 := [.ref 77, .int v51, .int (M25.2.1 77 9), .int v105, .null, .null, .null, .null, .null]) rfl rfl (to_an (pc := 83) rw_170_83 rfl (s_v (pc := 84) rw_170_84 (dp0 hd (by decide)) (ls0 := [.ref 77]) rfl (Nat.le_of_ble_eq_true rfl) (Nat.le_of_ble_eq_true rfl) rfl (to_rc rfl rfl rfl (g_o hG65 rfl)) rfl ?_))))))
            have z_107 := RS_b p_69.1 (a := (x_ns t nn (x_ns t nn a))) (by omega)
            have j_108 := (TR_f (tg_42 F64) j_62)
            have j_109 := (W9_f (tg_44 F64) j_63)
            refine E_156 hX (dp1 hd (by decide)) hG65 (by omega) (by omega) (by omega) (by omega) j_108 j_109  (fun M116 hG111 F110 p_112 p_113 p_114 p_115 => ?_)
            have F117 := FR.c F71 F110 tg_49
            have b_118 := g_b hG111 (a := 77) (i := 7) (lo := 0) (hi := 500) rfl rfl
            have c_119 : M116.2.1 77 6 = (M.2.1 77 6) := (F_n F110 (show ¬ (77 = 77 ∧ 7 ≤ 6 ∧ 6 ≤ 10) by decide) c_73)
            have t_120 : (M116.2.1 77 6).toInt = (M.2.1 77 6).toInt := congrArg Int32.toInt c_119
            have b_121 := g_b hG111 (a := 77) (i := 8) (lo := 0) (hi := 5) rfl rfl
            have b_122 := g_b hG111 (a := 77) (i := 10) (lo := 0) (hi := 500) rfl rfl
            have z_123 := RS_s p_115.2 (a := (x_ns t nn (x_ns t nn a))) (by omega)
            refine to_in (pc := 87) rw_170_87 rfl (b_ieq (pc := 88) rw_170_88 (A := v105.toInt) rfl (fun h124 => ?_) (fun h124 => ?_))
            · refine to_c (pc := 96) rw_170_96 (x := (1 : Int32)) rfl rfl (to_go (pc := 97) rw_170_97 (to_is (pc := 101) rw_170_101 (ls2 := [.ref 77, .int v51, .int (M25.2.1 77 9), .int v105, .int (1 : Int32), .null, .null, .null, .null]) rfl rfl (to_in (pc := 103) rw_170_103 rfl (to_c (pc := 104) rw_170_104 (x := (1 : Int32)) rfl rfl (b_cne_t (pc := 105) rw_170_105 (A := v105.toInt) (B := 1) rfl rfl (by omega) (to_in (pc := 112) rw_170_112 rfl (to_c (pc := 113) rw_170_113 (x := (2 : Int32)) rfl rfl (b_cne_t (pc := 114) rw_170_114 (A := v105.toInt) (B := 2) rfl rfl (by omega) (to_c (pc := 121) rw_170_121 (x := (0 : Int32)) rfl rfl (to_is (pc := 122) rw_170_122 (ls2 := [.ref 77, .int v51, .int (M25.2.1 77 9), .int v105, .int (1 : Int32), .int (0 : Int32), .null, .null, .null]) rfl rfl (to_an (pc := 124) rw_170_124 rfl ?_)))))))))))
              refine to_c (pc := 125) rw_170_125 (x := (0 : Int32)) rfl rfl (to_an (pc := 126) rw_170_126 rfl ?_)
              have c_125 : M116.2.1 77 14 = (M.2.1 77 14) := (F_n F110 (show ¬ (77 = 77 ∧ 7 ≤ 14 ∧ 14 ≤ 10) by decide) (F_n F64 (show ¬ (77 = 77 ∧ 7 ≤ 14 ∧ 14 ≤ 10) by decide) (F_n F35 (show ¬ (77 = 77 ∧ (14 = 4 ∨ 14 = 5)) by decide) (F_n F19 (show ¬ (77 = 77 ∧ 7 ≤ 14 ∧ 14 ≤ 10) by decide) rfl))))
              refine tt_gI (pc := 127) rw_170_127 (g_o hG111 rfl) (v := (M.2.1 77 14)) c_125 (to_c (pc := 130) rw_170_130 (x := (1 : Int32)) rfl rfl (s_sub (pc := 131) rw_170_131 (A := (M.2.1 77 14).toInt) (B := 1) rfl rfl (by omega) (fun v126 e127 => to_i (pc := 132) rw_170_132 rfl (s_sub (pc := 134) rw_170_134 (A := v126.toInt) (B := 0) rfl rfl (by omega) (fun v128 e129 => s_v (pc := 135) rw_170_135 (dp0 hd (by decide)) (ls0 := [.ref 77, .int (0 : Int32), .int v128]) rfl (Nat.le_of_ble_eq_true rfl) (Nat.le_of_ble_eq_true rfl) rfl (to_rc rfl rfl rfl (g_o hG111 rfl)) rfl ?_)))))
              have k_130 : (0 : Int32).toInt = 0 := rfl
              refine E_162 hX (dp1 hd (by decide)) hG111 p_115.1 (by omega) (by omega) (l := (0 : Int32)) (m := v128) (t := t) (nn := nn) (a := (x_ns t nn (x_ns t nn (x_ns t nn a)))) (fun r131 M138 hG133 F132 p_134 p_135 p_136 p_137 => ?_)
              have F139 := FR.c F117 F132 tg_50
              rcases (show r131.toInt = 0 ∨ r131.toInt = 1 by omega) with h140 | h140
              · skip
                have p_141 := p_137 (by omega)
                clear p_136 p_137
                have z_142 := x_val_b (t := t) (nn := nn) (a := (x_ns t nn (x_ns t nn (x_ns t nn a))))
                refine b_ine_f (pc := 138) rw_170_138 (A := r131.toInt) rfl (by omega) (to_c (pc := 141) rw_170_141 (x := (0 : Int32)) rfl rfl (s_r1 (pc := 142) rw_170_142 (A := 0) rfl (by decide) ?_))
                have j_143 := (RS_f (tg_40 F132) p_115.1)
                exact h (0 : Int32) M138 hG133 F139 (by decide) (by decide) j_143 (fun _ => x_field_n (fun h9 => by unfold x_fC at h9; omega)) (fun z => absurd z (by decide))
              · skip
                have p_144 := p_136 (by omega)
                clear p_136 p_137
                have c_145 : M138.2.1 77 9 = (M116.2.1 77 9) := (F_n F132 (show ¬ (77 = 77 ∧ (9 = 4 ∨ 9 = 5)) by decide) rfl)
                have z_146 := x_val_b (t := t) (nn := nn) (a := (x_ns t nn (x_ns t nn (x_ns t nn a)))) (by omega)
                refine b_ine_t (pc := 138) rw_170_138 (A := r131.toInt) rfl (by omega) (to_an (pc := 143) rw_170_143 rfl (tt_gI (pc := 144) rw_170_144 (g_o hG133 rfl) (v := (M116.2.1 77 9)) c_145 (to_is (pc := 147) rw_170_147 (ls2 := [.ref 77, .int v51, .int (M25.2.1 77 9), .int v105, .int (1 : Int32), .int (0 : Int32), .int (M116.2.1 77 9), .null, .null]) rfl rfl (to_an (pc := 149) rw_170_149 rfl (tt_gJ (pc := 150) rw_170_150 (g_o hG133 rfl) (v := (M.2.2.1 77 25)) (F_nl F132 (show ¬ (77 = 77 ∧ (25 = 4 ∨ 25 = 5)) by decide) (F_nl F110 (show ¬ (77 = 77 ∧ 7 ≤ 25 ∧ 25 ≤ 10) by decide) (F_nl F64 (show ¬ (77 = 77 ∧ 7 ≤ 25 ∧ 25 ≤ 10) by decide) (F_nl F35 (show ¬ (77 = 77 ∧ (25 = 4 ∨ 25 = 5)) by decide) (F_nl F19 (show ¬ (77 = 77 ∧ 7 ≤ 25 ∧ 25 ≤ 10) by decide) rfl))))) (to_i (pc := 153) rw_170_153 rfl (to_i (pc := 155) rw_170_155 rfl (to_i (pc := 157) rw_170_157 rfl (s_add (pc := 159) rw_170_159 (A := (M116.2.1 77 9).toInt) (B := 0) rfl rfl (by omega) (fun v147 e148 => s_s (pc := 160) rw_170_160 (dp0 hd (by decide)) (ls0 := [.int (M116.2.1 77 9), .int v147, .null, .null, .null]) rfl (Nat.le_of_ble_eq_true rfl) (Nat.le_of_ble_eq_true rfl) rfl (to_rcs rfl rfl) rfl (E_168 hX (dp1 hd (by decide)) hG133 (by omega) (by omega) (by omega) (by omega) (by omega) (a := (M116.2.1 77 9)) (b := v147) (fun r149 M153 hG151 F150 p_152 => ?_))))))))))))
                have F154 := FR.c F139 F150 tg_51
                refine to_2l (pc := 163) rw_170_163 (v := ((M.2.2.1 77 25) &&& r149)) rfl (to_cl (pc := 164) rw_170_164 rfl (x := (0 : Int64)) rfl (s_lcmpE (pc := 165) rw_170_165 (fun v155 e156 => ?_)))
                have b_157 := x_eq_b (x := ((M.2.2.1 77 25) &&& r149)) (y := (0 : Int64))
                have z_158 := x_free_r q7 p_152
                have z_159 := x_free_v (s := sg) (f := (M116.2.1 77 9).toInt) (l := v147.toInt) (f2 := (x_val t nn (x_ns t nn (x_ns t nn (x_ns t nn a))))) (l2 := (x_val t nn (x_ns t nn (x_ns t nn (x_ns t nn a))))) (by omega) (by omega)
                refine b_ieq (pc := 166) rw_170_166 (A := v155.toInt) rfl (fun h160 => ?_) (fun h160 => ?_)
                · refine to_an (pc := 175) rw_170_175 rfl (s_v (pc := 176) rw_170_176 (dp0 hd (by decide)) (ls0 := [.ref 77]) rfl (Nat.le_of_ble_eq_true rfl) (Nat.le_of_ble_eq_true rfl) rfl (to_rc rfl rfl rfl (g_o hG151 rfl)) rfl ?_)
                  have c_161 : M153.2.1 77 7 = (M116.2.1 77 7) := (F_n F150 (show ¬ (77 < 0) by decide) (F_n F132 (show ¬ (77 = 77 ∧ (7 = 4 ∨ 7 = 5)) by decide) rfl))
                  have t_162 : (M153.2.1 77 7).toInt = (M116.2.1 77 7).toInt := congrArg Int32.toInt c_161
                  have c_163 : M153.2.1 77 6 = (M.2.1 77 6) := (F_n F150 (show ¬ (77 < 0) by decide) (F_n F132 (show ¬ (77 = 77 ∧ (6 = 4 ∨ 6 = 5)) by decide) c_119))
                  have t_164 : (M153.2.1 77 6).toInt = (M.2.1 77 6).toInt := congrArg Int32.toInt c_163
                  have c_165 : M153.2.1 77 10 = (M116.2.1 77 10) := (F_n F150 (show ¬ (77 < 0) by decide) (F_n F132 (show ¬ (77 = 77 ∧ (10 = 4 ∨ 10 = 5)) by decide) rfl))
                  have t_166 : (M153.2.1 77 10).toInt = (M116.2.1 77 10).toInt := congrArg Int32.toInt c_165
                  have j_167 := (RS_f (tg_45 F150) (RS_f (tg_40 F132) p_115.1))
                  have z_168 := RS_b j_167 (a := (x_ns t nn (x_ns t nn (x_ns t nn a)))) (by omega)
                  have j_169 := (TR_f (tg_9 F150) (TR_f (tg_41 F132) (TR_f (tg_42 F110) j_108)))
                  have j_170 := (W9_f (tg_46 F150) (W9_f (tg_43 F132) (W9_f (tg_44 F110) j_109)))
                  refine E_156 hX (dp1 hd (by decide)) hG151 (by omega) (by omega) (by omega) (by omega) j_169 j_170  (fun M177 hG172 F171 p_173 p_174 p_175 p_176 => ?_)
                  have F178 := FR.c F154 F171 tg_49
                  have b_179 := g_b hG172 (a := 77) (i := 7) (lo := 0) (hi := 500) rfl rfl
                  have c_180 : M177.2.1 77 6 = (M.2.1 77 6) := (F_n F171 (show ¬ (77 = 77 ∧ 7 ≤ 6 ∧ 6 ≤ 10) by decide) c_163)
                  have t_181 : (M177.2.1 77 6).toInt = (M.2.1 77 6).toInt := congrArg Int32.toInt c_180
                  have b_182 := g_b hG172 (a := 77) (i := 8) (lo := 0) (hi := 5) rfl rfl
                  have b_183 := g_b hG172 (a := 77) (i := 10) (lo := 0) (hi := 500) rfl rfl
                  have z_184 := RS_s p_176.2 (a := (x_ns t nn (x_ns t nn (x_ns t nn a)))) (by omega)
                  refine to_i (pc := 179) rw_170_179 rfl (to_i (pc := 181) rw_170_181 rfl (s_add (pc := 183) rw_170_183 (A := (M116.2.1 77 9).toInt) (B := 0) rfl rfl (by omega) (fun v185 e186 => to_is (pc := 184) rw_170_184 (ls2 := [.ref 77, .int v51, .int (M25.2.1 77 9), .int v105, .int (1 : Int32), .int (0 : Int32), .int (M116.2.1 77 9), .int v185, .null]) rfl rfl (to_c (pc := 186) rw_170_186 (x := (10 : Int32)) rfl rfl (to_is (pc := 188) rw_170_188 (ls2 := [.ref 77, .int v51, .int (M25.2.1 77 9), .int v105, .int (1 : Int32), .int (0 : Int32), .int (M116.2.1 77 9), .int v185, .int (10 : Int32)]) rfl rfl (to_i (pc := 190) rw_170_190 rfl (b_ieq_f (pc := 192) rw_170_192 (A := 1) rfl (by decide) (to_an (pc := 195) rw_170_195 rfl (to_in (pc := 196) rw_170_196 rfl (b_ine_f (pc := 197) rw_170_197 (A := v105.toInt) rfl (by omega) (to_i (pc := 200) rw_170_200 rfl ?_)))))))))))
                  refine to_c (pc := 202) rw_170_202 (x := (1 : Int32)) rfl rfl (s_add (pc := 203) rw_170_203 (A := (M116.2.1 77 9).toInt) (B := 1) rfl rfl (by omega) (fun v187 e188 => to_go (pc := 204) rw_170_204 (to_an (pc := 209) rw_170_209 rfl ?_)))
                  have c_189 : M177.2.1 77 14 = (M.2.1 77 14) := (F_n F171 (show ¬ (77 = 77 ∧ 7 ≤ 14 ∧ 14 ≤ 10) by decide) (F_n F150 (show ¬ (77 < 0) by decide) (F_n F132 (show ¬ (77 = 77 ∧ (14 = 4 ∨ 14 = 5)) by decide) c_125)))
                  refine tt_gI (pc := 210) rw_170_210 (g_o hG172 rfl) (v := (M.2.1 77 14)) c_189 (to_c (pc := 213) rw_170_213 (x := (1 : Int32)) rfl rfl (s_sub (pc := 214) rw_170_214 (A := (M.2.1 77 14).toInt) (B := 1) rfl rfl (by omega) (fun v190 e191 => s_v (pc := 215) rw_170_215 (dp0 hd (by decide)) (ls0 := [.ref 77, .int v187, .int v190]) rfl (Nat.le_of_ble_eq_true rfl) (Nat.le_of_ble_eq_true rfl) rfl (to_rc rfl rfl rfl (g_o hG172 rfl)) rfl (E_162 hX (dp1 hd (by decide)) hG172 p_176.1 (by omega) (by omega) (l := v187) (m := v190) (t := t) (nn := nn) (a := (x_ns t nn (x_ns t nn (x_ns t nn (x_ns t nn a))))) (fun r192 M199 hG194 F193 p_195 p_196 p_197 p_198 => ?_)))))
                  have F200 := FR.c F178 F193 tg_50
                  rcases (show r192.toInt = 0 ∨ r192.toInt = 1 by omega) with h201 | h201
                  · skip
                    have p_202 := p_198 (by omega)
                    clear p_197 p_198
                    have z_203 := x_val_b (t := t) (nn := nn) (a := (x_ns t nn (x_ns t nn (x_ns t nn (x_ns t nn a)))))
                    refine b_ine_f (pc := 218) rw_170_218 (A := r192.toInt) rfl (by omega) (to_c (pc := 221) rw_170_221 (x := (0 : Int32)) rfl rfl (s_r1 (pc := 222) rw_170_222 (A := 0) rfl (by decide) ?_))
                    have j_204 := (RS_f (tg_40 F193) p_176.1)
                    exact h (0 : Int32) M199 hG194 F200 (by decide) (by decide) j_204 (fun _ => x_field_n (fun h9 => by unfold x_fC at h9; omega)) (fun z => absurd z (by decide))
                  · skip
                    have p_205 := p_197 (by omega)
                    clear p_197 p_198
                    have c_206 : M199.2.1 77 9 = (M177.2.1 77 9) := (F_n F193 (show ¬ (77 = 77 ∧ (9 = 4 ∨ 9 = 5)) by decide) rfl)
                    have z_207 := x_val_b (t := t) (nn := nn) (a := (x_ns t nn (x_ns t nn (x_ns t nn (x_ns t nn a))))) (by omega)
                    refine b_ine_t (pc := 218) rw_170_218 (A := r192.toInt) rfl (by omega) (to_an (pc := 223) rw_170_223 rfl (tt_gI (pc := 224) rw_170_224 (g_o hG194 rfl) (v := (M177.2.1 77 9)) c_206 (to_is (pc := 227) rw_170_227 (ls2 := [.ref 77, .int v51, .int (M25.2.1 77 9), .int v105, .int (1 : Int32), .int (0 : Int32), .int (M116.2.1 77 9), .int (M177.2.1 77 9), .int (10 : Int32)]) rfl rfl (to_i (pc := 229) rw_170_229 rfl (to_i (pc := 231) rw_170_231 rfl (s_sub (pc := 233) rw_170_233 (A := (M177.2.1 77 9).toInt) (B := (M116.2.1 77 9).toInt) rfl rfl (by omega) (fun v208 e209 => to_c (pc := 234) rw_170_234 (x := (23 : Int32)) rfl rfl (b_cle (pc := 236) rw_170_236 (A := v208.toInt) (B := 23) rfl rfl (fun h210 => ?_) (fun h210 => ?_)))))))))
                    · refine to_an (pc := 245) rw_170_245 rfl (tt_gJ (pc := 246) rw_170_246 (g_o hG194 rfl) (v := (M.2.2.1 77 25)) (F_nl F193 (show ¬ (77 = 77 ∧ (25 = 4 ∨ 25 = 5)) by decide) (F_nl F171 (show ¬ (77 = 77 ∧ 7 ≤ 25 ∧ 25 ≤ 10) by decide) (F_nl F150 (show ¬ (77 < 0) by decide) (F_nl F132 (show ¬ (77 = 77 ∧ (25 = 4 ∨ 25 = 5)) by decide) (F_nl F110 (show ¬ (77 = 77 ∧ 7 ≤ 25 ∧ 25 ≤ 10) by decide) (F_nl F64 (show ¬ (77 = 77 ∧ 7 ≤ 25 ∧ 25 ≤ 10) by decide) (F_nl F35 (show ¬ (77 = 77 ∧ (25 = 4 ∨ 25 = 5)) by decide) (F_nl F19 (show ¬ (77 = 77 ∧ 7 ≤ 25 ∧ 25 ≤ 10) by decide) rfl)))))))) (to_i (pc := 249) rw_170_249 rfl (to_i (pc := 251) rw_170_251 rfl (s_s (pc := 253) rw_170_253 (dp0 hd (by decide)) (ls0 := [.int (M116.2.1 77 9), .int (M177.2.1 77 9), .null, .null, .null]) rfl (Nat.le_of_ble_eq_true rfl) (Nat.le_of_ble_eq_true rfl) rfl (to_rcs rfl rfl) rfl (E_168 hX (dp1 hd (by decide)) hG194 (by omega) (by omega) (by omega) (by omega) (by omega) (a := (M116.2.1 77 9)) (b := (M177.2.1 77 9)) (fun r211 M215 hG213 F212 p_214 => ?_))))))
                      have F216 := FR.c F200 F212 tg_51
                      refine to_2l (pc := 256) rw_170_256 (v := ((M.2.2.1 77 25) &&& r211)) rfl (to_cl (pc := 257) rw_170_257 rfl (x := (0 : Int64)) rfl (s_lcmpE (pc := 258) rw_170_258 (fun v217 e218 => ?_)))
                      have b_219 := x_eq_b (x := ((M.2.2.1 77 25) &&& r211)) (y := (0 : Int64))
                      have z_220 := x_free_r q7 p_214
                      have z_221 := x_free_v (s := sg) (f := (M116.2.1 77 9).toInt) (l := (M177.2.1 77 9).toInt) (f2 := (x_val t nn (x_ns t nn (x_ns t nn (x_ns t nn a))))) (l2 := (x_val t nn (x_ns t nn (x_ns t nn (x_ns t nn (x_ns t nn a)))))) (by omega) (by omega)
                      refine b_ieq (pc := 259) rw_170_259 (A := v217.toInt) rfl (fun h222 => ?_) (fun h222 => ?_)
                      · refine to_an (pc := 268) rw_170_268 rfl (s_v (pc := 269) rw_170_269 (dp0 hd (by decide)) (ls0 := [.ref 77]) rfl (Nat.le_of_ble_eq_true rfl) (Nat.le_of_ble_eq_true rfl) rfl (to_rc rfl rfl rfl (g_o hG213 rfl)) rfl ?_)
                        have c_223 : M215.2.1 77 7 = (M177.2.1 77 7) := (F_n F212 (show ¬ (77 < 0) by decide) (F_n F193 (show ¬ (77 = 77 ∧ (7 = 4 ∨ 7 = 5)) by decide) rfl))
                        have t_224 : (M215.2.1 77 7).toInt = (M177.2.1 77 7).toInt := congrArg Int32.toInt c_223
                        have c_225 : M215.2.1 77 6 = (M.2.1 77 6) := (F_n F212 (show ¬ (77 < 0) by decide) (F_n F193 (show ¬ (77 = 77 ∧ (6 = 4 ∨ 6 = 5)) by decide) c_180))
                        have t_226 : (M215.2.1 77 6).toInt = (M.2.1 77 6).toInt := congrArg Int32.toInt c_225
                        have c_227 : M215.2.1 77 10 = (M177.2.1 77 10) := (F_n F212 (show ¬ (77 < 0) by decide) (F_n F193 (show ¬ (77 = 77 ∧ (10 = 4 ∨ 10 = 5)) by decide) rfl))
                        have t_228 : (M215.2.1 77 10).toInt = (M177.2.1 77 10).toInt := congrArg Int32.toInt c_227
                        have j_229 := (RS_f (tg_45 F212) (RS_f (tg_40 F193) p_176.1))
                        have z_230 := RS_b j_229 (a := (x_ns t nn (x_ns t nn (x_ns t nn (x_ns t nn a))))) (by omega)
                        have j_231 := (TR_f (tg_9 F212) (TR_f (tg_41 F193) (TR_f (tg_42 F171) j_169)))
                        have j_232 := (W9_f (tg_46 F212) (W9_f (tg_43 F193) (W9_f (tg_44 F171) j_170)))
                        refine E_156 hX (dp1 hd (by decide)) hG213 (by omega) (by omega) (by omega) (by omega) j_231 j_232  (fun M239 hG234 F233 p_235 p_236 p_237 p_238 => ?_)
                        have F240 := FR.c F216 F233 tg_49
                        have b_241 := g_b hG234 (a := 77) (i := 7) (lo := 0) (hi := 500) rfl rfl
                        have c_242 : M239.2.1 77 6 = (M.2.1 77 6) := (F_n F233 (show ¬ (77 = 77 ∧ 7 ≤ 6 ∧ 6 ≤ 10) by decide) c_225)
                        have t_243 : (M239.2.1 77 6).toInt = (M.2.1 77 6).toInt := congrArg Int32.toInt c_242
                        have b_244 := g_b hG234 (a := 77) (i := 8) (lo := 0) (hi := 5) rfl rfl
                        have b_245 := g_b hG234 (a := 77) (i := 10) (lo := 0) (hi := 500) rfl rfl
                        have z_246 := RS_s p_238.2 (a := (x_ns t nn (x_ns t nn (x_ns t nn (x_ns t nn a))))) (by omega)
                        refine to_i (pc := 272) rw_170_272 rfl (to_i (pc := 274) rw_170_274 rfl (s_sub (pc := 276) rw_170_276 (A := (M177.2.1 77 9).toInt) (B := (M116.2.1 77 9).toInt) rfl rfl (by omega) (fun v247 e248 => to_c (pc := 277) rw_170_277 (x := (1 : Int32)) rfl rfl (s_add (pc := 278) rw_170_278 (A := v247.toInt) (B := 1) rfl rfl (by omega) (fun v249 e250 => to_is (pc := 279) rw_170_279 (ls2 := [.ref 77, .int v51, .int (M25.2.1 77 9), .int v105, .int (1 : Int32), .int (0 : Int32), .int (M116.2.1 77 9), .int (M177.2.1 77 9), .int v249]) rfl rfl (to_in (pc := 281) rw_170_281 rfl (to_c (pc := 282) rw_170_282 (x := (3 : Int32)) rfl rfl (b_cne_t (pc := 283) rw_170_283 (A := v105.toInt) (B := 3) rfl rfl (by omega) (to_an (pc := 318) rw_170_318 rfl (to_dupr (pc := 319) rw_170_319 (tt_gJ (pc := 320) rw_170_320 (g_o hG234 rfl) (v := (M.2.2.1 77 25)) (F_nl F233 (show ¬ (77 = 77 ∧ 7 ≤ 25 ∧ 25 ≤ 10) by decide) (F_nl F212 (show ¬ (77 < 0) by decide) (F_nl F193 (show ¬ (77 = 77 ∧ (25 = 4 ∨ 25 = 5)) by decide) (F_nl F171 (show ¬ (77 = 77 ∧ 7 ≤ 25 ∧ 25 ≤ 10) by decide) (F_nl F150 (show ¬ (77 < 0) by decide) (F_nl F132 (show ¬ (77 = 77 ∧ (25 = 4 ∨ 25 = 5)) by decide) (F_nl F110 (show ¬ (77 = 77 ∧ 7 ≤ 25 ∧ 25 ≤ 10) by decide) (F_nl F64 (show ¬ (77 = 77 ∧ 7 ≤ 25 ∧ 25 ≤ 10) by decide) (F_nl F35 (show ¬ (77 = 77 ∧ (25 = 4 ∨ 25 = 5)) by decide) (F_nl F19 (show ¬ (77 = 77 ∧ 7 ≤ 25 ∧ 25 ≤ 10) by decide) rfl)))))))))) ?_)))))))))))
                        refine to_i (pc := 323) rw_170_323 rfl (to_i (pc := 325) rw_170_325 rfl (s_s (pc := 327) rw_170_327 (dp0 hd (by decide)) (ls0 := [.int (M116.2.1 77 9), .int (M177.2.1 77 9), .null, .null, .null]) rfl (Nat.le_of_ble_eq_true rfl) (Nat.le_of_ble_eq_true rfl) rfl (to_rcs rfl rfl) rfl (E_168 hX (dp1 hd (by decide)) hG234 (by omega) (by omega) (by omega) (by omega) (by omega) (a := (M116.2.1 77 9)) (b := (M177.2.1 77 9)) (fun r251 M255 hG253 F252 p_254 => ?_))))
                        have F256 := FR.c F240 F252 tg_51
                        refine to_2l (pc := 330) rw_170_330 (v := ((M.2.2.1 77 25) ||| r251)) rfl ?_
                        have j_257 := (PLr_f (tg_47 F252) (F_nl F252 (show ¬ (77 < 0) by decide) rfl) (PLr_f (tg_39 F233) (F_nl F233 (show ¬ (77 = 77 ∧ 7 ≤ 25 ∧ 25 ≤ 10) by decide) rfl) (PLr_f (tg_47 F212) (F_nl F212 (show ¬ (77 < 0) by decide) rfl) (PLr_f (tg_48 F193) (F_nl F193 (show ¬ (77 = 77 ∧ (25 = 4 ∨ 25 = 5)) by decide) rfl) (PLr_f (tg_39 F171) (F_nl F171 (show ¬ (77 = 77 ∧ 7 ≤ 25 ∧ 25 ≤ 10) by decide) rfl) (PLr_f (tg_47 F150) (F_nl F150 (show ¬ (77 < 0) by decide) rfl) (PLr_f (tg_48 F132) (F_nl F132 (show ¬ (77 = 77 ∧ (25 = 4 ∨ 25 = 5)) by decide) rfl) (PLr_f (tg_39 F110) (F_nl F110 (show ¬ (77 = 77 ∧ 7 ≤ 25 ∧ 25 ≤ 10) by decide) rfl) (PLr_f (tg_39 F64) (F_nl F64 (show ¬ (77 = 77 ∧ 7 ≤ 25 ∧ 25 ≤ 10) by decide) rfl) (PLr_f (tg_48 F35) (F_nl F35 (show ¬ (77 = 77 ∧ (25 = 4 ∨ 25 = 5)) by decide) rfl) j_33))))))))))
                        refine s_pJ (pc := 331) rw_170_331 hG253 rfl (fun M259 W258 => ?_)
                        have hG260 := g_wl hG253 W258
                        have F261 := FR.wl F256 W258 (show 77 = 77 ∧ (25 = 4 ∨ 25 = 5 ∨ 7 ≤ 25 ∧ 25 ≤ 10 ∨ 25 = 15 ∨ 25 = 25) ∨ 80 ≤ 77 ∧ 77 ≤ 84 ∧ 8 ≤ 25 by decide)
                        refine to_an (pc := 334) rw_170_334 rfl (s_gR (pc := 335) rw_170_335 hG260 rfl (v := 80) rfl (to_in (pc := 338) rw_170_338 rfl (to_in (pc := 339) rw_170_339 rfl (s_ias (pc := 340) rw_170_340 hG260 rfl (n := 16) rfl (A := v51.toInt) rfl (by omega) (by omega) (fun M263 W262 => ?_)))))
                        have hG264 := g_wf hG260 W262 rfl rfl (by decide)
                        have F265 := FR.w F261 W262 (show 80 = 77 ∧ ((v51.toInt).toNat = 4 ∨ (v51.toInt).toNat = 5 ∨ 7 ≤ (v51.toInt).toNat ∧ (v51.toInt).toNat ≤ 10 ∨ (v51.toInt).toNat = 15 ∨ (v51.toInt).toNat = 25) ∨ 80 ≤ 80 ∧ 80 ≤ 84 ∧ 8 ≤ (v51.toInt).toNat by omega)
                        refine to_an (pc := 341) rw_170_341 rfl (s_gR (pc := 342) rw_170_342 hG264 rfl (v := 81) rfl (to_in (pc := 345) rw_170_345 rfl (to_in (pc := 346) rw_170_346 rfl (s_ias (pc := 347) rw_170_347 hG264 rfl (n := 16) rfl (A := v51.toInt) rfl (by omega) (by omega) (fun M267 W266 => ?_)))))
                        have hG268 := g_w hG264 W266 (A := v105.toInt) rfl (lo := 0) (hi := 3) rfl rfl (by omega) (by decide)
                        have F269 := FR.w F265 W266 (show 81 = 77 ∧ ((v51.toInt).toNat = 4 ∨ (v51.toInt).toNat = 5 ∨ 7 ≤ (v51.toInt).toNat ∧ (v51.toInt).toNat ≤ 10 ∨ (v51.toInt).toNat = 15 ∨ (v51.toInt).toNat = 25) ∨ 80 ≤ 81 ∧ 81 ≤ 84 ∧ 8 ≤ (v51.toInt).toNat by omega)
                        refine to_an (pc := 348) rw_170_348 rfl (s_gR (pc := 349) rw_170_349 hG268 rfl (v := 82) rfl (to_in (pc := 352) rw_170_352 rfl (to_i (pc := 353) rw_170_353 rfl (s_ias (pc := 355) rw_170_355 hG268 rfl (n := 16) rfl (A := v51.toInt) rfl (by omega) (by omega) (fun M271 W270 => ?_)))))
                        have hG272 := g_w hG268 W270 (A := (M116.2.1 77 9).toInt) rfl (lo := 0) (hi := 59) rfl rfl (by omega) (by decide)
                        have F273 := FR.w F269 W270 (show 82 = 77 ∧ ((v51.toInt).toNat = 4 ∨ (v51.toInt).toNat = 5 ∨ 7 ≤ (v51.toInt).toNat ∧ (v51.toInt).toNat ≤ 10 ∨ (v51.toInt).toNat = 15 ∨ (v51.toInt).toNat = 25) ∨ 80 ≤ 82 ∧ 82 ≤ 84 ∧ 8 ≤ (v51.toInt).toNat by omega)
                        refine to_an (pc := 356) rw_170_356 rfl (s_gR (pc := 357) rw_170_357 hG272 rfl (v := 83) rfl (to_in (pc := 360) rw_170_360 rfl (to_i (pc := 361) rw_170_361 rfl (s_ias (pc := 363) rw_170_363 hG272 rfl (n := 16) rfl (A := v51.toInt) rfl (by omega) (by omega) (fun M275 W274 => ?_)))))
                        have hG276 := g_w hG272 W274 (A := (M177.2.1 77 9).toInt) rfl (lo := 0) (hi := 63) rfl rfl (by omega) (by decide)
                        have F277 := FR.w F273 W274 (show 83 = 77 ∧ ((v51.toInt).toNat = 4 ∨ (v51.toInt).toNat = 5 ∨ 7 ≤ (v51.toInt).toNat ∧ (v51.toInt).toNat ≤ 10 ∨ (v51.toInt).toNat = 15 ∨ (v51.toInt).toNat = 25) ∨ 80 ≤ 83 ∧ 83 ≤ 84 ∧ 8 ≤ (v51.toInt).toNat by omega)
                        refine to_an (pc := 364) rw_170_364 rfl (s_gR (pc := 365) rw_170_365 hG276 rfl (v := 84) rfl (to_in (pc := 368) rw_170_368 rfl (to_i (pc := 369) rw_170_369 rfl (s_ias (pc := 371) rw_170_371 hG276 rfl (n := 16) rfl (A := v51.toInt) rfl (by omega) (by omega) (fun M279 W278 => ?_)))))
                        have hG280 := g_w hG276 W278 (A := v249.toInt) rfl (lo := 0) (hi := 24) rfl rfl (by omega) (by decide)
                        have F281 := FR.w F277 W278 (show 84 = 77 ∧ ((v51.toInt).toNat = 4 ∨ (v51.toInt).toNat = 5 ∨ 7 ≤ (v51.toInt).toNat ∧ (v51.toInt).toNat ≤ 10 ∨ (v51.toInt).toNat = 15 ∨ (v51.toInt).toNat = 25) ∨ 80 ≤ 84 ∧ 84 ≤ 84 ∧ 8 ≤ (v51.toInt).toNat by omega)
                        refine to_an (pc := 372) rw_170_372 rfl (to_dupr (pc := 373) rw_170_373 ?_)
                        have c_282 : M279.2.1 77 15 = (M.2.1 77 15) := (W_n W278 (fun z => absurd z.1 (by decide)) (W_n W274 (fun z => absurd z.1 (by decide)) (W_n W270 (fun z => absurd z.1 (by decide)) (W_n W266 (fun z => absurd z.1 (by decide)) (W_n W262 (fun z => absurd z.1 (by decide)) (W_l W258 (F_n F252 (show ¬ (77 < 0) by decide) (F_n F233 (show ¬ (77 = 77 ∧ 7 ≤ 15 ∧ 15 ≤ 10) by decide) (F_n F212 (show ¬ (77 < 0) by decide) (F_n F193 (show ¬ (77 = 77 ∧ (15 = 4 ∨ 15 = 5)) by decide) (F_n F171 (show ¬ (77 = 77 ∧ 7 ≤ 15 ∧ 15 ≤ 10) by decide) (F_n F150 (show ¬ (77 < 0) by decide) (F_n F132 (show ¬ (77 = 77 ∧ (15 = 4 ∨ 15 = 5)) by decide) (F_n F110 (show ¬ (77 = 77 ∧ 7 ≤ 15 ∧ 15 ≤ 10) by decide) (F_n F64 (show ¬ (77 = 77 ∧ 7 ≤ 15 ∧ 15 ≤ 10) by decide) c_50)))))))))))))))
                        refine tt_gI (pc := 374) rw_170_374 (g_o hG280 rfl) (v := (M.2.1 77 15)) c_282 (to_c (pc := 377) rw_170_377 (x := (1 : Int32)) rfl rfl (s_add (pc := 378) rw_170_378 (A := (M.2.1 77 15).toInt) (B := 1) rfl rfl (by omega) (fun v283 e284 => s_pI (pc := 379) rw_170_379 hG280 rfl (fun M286 W285 => ?_))))
                        have hG287 := g_w hG280 W285 (A := v283.toInt) rfl (lo := 0) (hi := 8) rfl rfl (by omega) (by decide)
                        have F288 := FR.w F281 W285 (show 77 = 77 ∧ (15 = 4 ∨ 15 = 5 ∨ 7 ≤ 15 ∧ 15 ≤ 10 ∨ 15 = 15 ∨ 15 = 25) ∨ 80 ≤ 77 ∧ 77 ≤ 84 ∧ 8 ≤ 15 by decide)
                        refine to_c (pc := 382) rw_170_382 (x := (1 : Int32)) rfl rfl (s_r1 (pc := 383) rw_170_383 (A := 1) rfl (by decide) ?_)
                        have k_289 : (1 : Int32).toInt = 1 := rfl
                        have j_290 := (RS_f (fun a i z => W_n W285 (tg_52 a i z) rfl) (RS_f (fun a i z => W_n W278 (tg_53 a i _ z) rfl) (RS_f (fun a i z => W_n W274 (tg_54 a i _ z) rfl) (RS_f (fun a i z => W_n W270 (tg_55 a i _ z) rfl) (RS_f (fun a i z => W_n W266 (tg_56 a i _ z) rfl) (RS_f (fun a i z => W_n W262 (tg_57 a i _ z) rfl) (RS_f (fun a i z => W_l W258 rfl) (RS_f (tg_45 F252) p_238.1))))))))
                        have c_291 : M286.2.1 77 10 = (M239.2.1 77 10) := (W_n W285 (by decide) (W_n W278 (fun z => absurd z.1 (by decide)) (W_n W274 (fun z => absurd z.1 (by decide)) (W_n W270 (fun z => absurd z.1 (by decide)) (W_n W266 (fun z => absurd z.1 (by decide)) (W_n W262 (fun z => absurd z.1 (by decide)) (W_l W258 (F_n F252 (show ¬ (77 < 0) by decide) rfl))))))))
                        have t_292 : (M286.2.1 77 10).toInt = (M239.2.1 77 10).toInt := congrArg Int32.toInt c_291
                        have z_293 : x_fC t nn sg (x_ns t nn a) := by unfold x_fC; omega
                        have z_294 := (x_or_r q7 (p_254.trans (x_bw_v (by omega) (by omega))) : _ = _ ||| x_bw (x_val t nn (x_ns t nn (x_ns t nn (x_ns t nn a)))) (x_val t nn (x_ns t nn (x_ns t nn (x_ns t nn (x_ns t nn a))))))
                        have z_295 := PLr_p (nm := (x_val t nn (x_ns t nn a))) (kd := 0) (f := (x_val t nn (x_ns t nn (x_ns t nn (x_ns t nn a))))) (l := (x_val t nn (x_ns t nn (x_ns t nn (x_ns t nn (x_ns t nn a)))))) (c := ((x_val t nn (x_ns t nn (x_ns t nn (x_ns t nn (x_ns t nn a))))) - (x_val t nn (x_ns t nn (x_ns t nn (x_ns t nn a)))) + 1)) j_257 W258 W262 W266 W270 W274 W278 W285 (by omega) z_294 (by omega) (by omega) (by omega) (by omega) (by omega) (by omega) (by omega) (by omega) (by omega) (by omega) (by omega)
                        have j_296 := (CWr_f (fun k hk9 => W_j W285 rfl) (CWr_f (fun k hk9 => W_j W278 rfl) (CWr_f (fun k hk9 => W_j W274 rfl) (CWr_f (fun k hk9 => W_j W270 rfl) (CWr_f (fun k hk9 => W_j W266 rfl) (CWr_f (fun k hk9 => W_j W262 rfl) (CWr_f (fun k hk9 => L_n W258 (by omega) rfl) (CWr_f (fun k hk9 => F_nl F252 (show ¬ (87 < 0) by decide) rfl) (CWr_f (fun k hk9 => F_nl F233 (show ¬ (87 = 77 ∧ 7 ≤ (12 + k) ∧ (12 + k) ≤ 10) by omega) rfl) (CWr_f (fun k hk9 => F_nl F212 (show ¬ (87 < 0) by decide) rfl) (CWr_f (fun k hk9 => F_nl F193 (show ¬ (87 = 77 ∧ ((12 + k) = 4 ∨ (12 + k) = 5)) by omega) rfl) (CWr_f (fun k hk9 => F_nl F171 (show ¬ (87 = 77 ∧ 7 ≤ (12 + k) ∧ (12 + k) ≤ 10) by omega) rfl) (CWr_f (fun k hk9 => F_nl F150 (show ¬ (87 < 0) by decide) rfl) (CWr_f (fun k hk9 => F_nl F132 (show ¬ (87 = 77 ∧ ((12 + k) = 4 ∨ (12 + k) = 5)) by omega) rfl) (CWr_f (fun k hk9 => F_nl F110 (show ¬ (87 = 77 ∧ 7 ≤ (12 + k) ∧ (12 + k) ≤ 10) by omega) rfl) (CWr_f (fun k hk9 => F_nl F64 (show ¬ (87 = 77 ∧ 7 ≤ (12 + k) ∧ (12 + k) ≤ 10) by omega) rfl) (CWr_f (fun k hk9 => F_nl F35 (show ¬ (87 = 77 ∧ ((12 + k) = 4 ∨ (12 + k) = 5)) by omega) rfl) (CWr_f (fun k hk9 => F_nl F19 (show ¬ (87 = 77 ∧ 7 ≤ (12 + k) ∧ (12 + k) ≤ 10) by omega) rfl) q8))))))))))))))))))
                        exact h (1 : Int32) M286 hG287 F288 (by decide) (by decide) j_290 (fun z => absurd z (by decide)) (fun _ => ⟨_, (by rw [show (M286.2.1 77 10).toInt = (x_ns t nn (x_ns t nn (x_ns t nn (x_ns t nn (x_ns t nn a))))) by omega]; exact x_field_0 z_293 (by omega)), ⟨z_295, CWr_p j_296⟩, (by show sg.2.1 + 1 + sg.2.2.1 = _; omega)⟩)
                      · refine to_an (pc := 262) rw_170_262 rfl (to_c (pc := 263) rw_170_263 (x := (3 : Int32)) rfl rfl (s_v (pc := 264) rw_170_264 (dp0 hd (by decide)) (ls0 := [.ref 77, .int (3 : Int32)]) rfl (Nat.le_of_ble_eq_true rfl) (Nat.le_of_ble_eq_true rfl) rfl (to_rc rfl rfl rfl (g_o hG213 rfl)) rfl (to_an (pc := 0) rw_152_0 rfl (to_in (pc := 1) rw_152_1 rfl (s_pI (pc := 2) rw_152_2 hG213 rfl (fun M298 W297 => ?_))))))
                        have hG299 := g_wf hG213 W297 rfl rfl (by decide)
                        have F300 := FR.w F216 W297 (show 77 = 77 ∧ (4 = 4 ∨ 4 = 5 ∨ 7 ≤ 4 ∧ 4 ≤ 10 ∨ 4 = 15 ∨ 4 = 25) ∨ 80 ≤ 77 ∧ 77 ≤ 84 ∧ 8 ≤ 4 by decide)
                        refine to_an (pc := 5) rw_152_5 rfl (to_an (pc := 6) rw_152_6 rfl ?_)
                        have c_301 : M298.2.1 77 10 = (M177.2.1 77 10) := (W_n W297 (by decide) (F_n F212 (show ¬ (77 < 0) by decide) (F_n F193 (show ¬ (77 = 77 ∧ (10 = 4 ∨ 10 = 5)) by decide) rfl)))
                        refine tt_gI (pc := 7) rw_152_7 (g_o hG299 rfl) (v := (M177.2.1 77 10)) c_301 (s_pI (pc := 10) rw_152_10 hG299 rfl (fun M303 W302 => ?_))
                        have hG304 := g_wf hG299 W302 rfl rfl (by decide)
                        have F305 := FR.w F300 W302 (show 77 = 77 ∧ (5 = 4 ∨ 5 = 5 ∨ 7 ≤ 5 ∧ 5 ≤ 10 ∨ 5 = 15 ∨ 5 = 25) ∨ 80 ≤ 77 ∧ 77 ≤ 84 ∧ 8 ≤ 5 by decide)
                        refine to_c (pc := 13) rw_152_13 (x := (0 : Int32)) rfl rfl (s_r1 (pc := 14) rw_152_14 (A := 0) rfl (by decide) (s_r1 (pc := 267) rw_170_267 (A := 0) rfl (by decide) ?_))
                        have j_306 := (RS_f (fun a i z => W_n W302 (tg_37 a i z) rfl) (RS_f (fun a i z => W_n W297 (tg_38 a i z) rfl) (RS_f (tg_45 F212) (RS_f (tg_40 F193) p_176.1))))
                        exact h (0 : Int32) M303 hG304 F305 (by decide) (by decide) j_306 (fun _ => x_field_n (fun h9 => by unfold x_fC at h9; omega)) (fun z => absurd z (by decide))
                    · refine to_an (pc := 239) rw_170_239 rfl (to_c (pc := 240) rw_170_240 (x := (2 : Int32)) rfl rfl (s_v (pc := 241) rw_170_241 (dp0 hd (by decide)) (ls0 := [.ref 77, .int (2 : Int32)]) rfl (Nat.le_of_ble_eq_true rfl) (Nat.le_of_ble_eq_true rfl) rfl (to_rc rfl rfl rfl (g_o hG194 rfl)) rfl (to_an (pc := 0) rw_152_0 rfl (to_in (pc := 1) rw_152_1 rfl (s_pI (pc := 2) rw_152_2 hG194 rfl (fun M308 W307 => ?_))))))
                      have hG309 := g_wf hG194 W307 rfl rfl (by decide)
                      have F310 := FR.w F200 W307 (show 77 = 77 ∧ (4 = 4 ∨ 4 = 5 ∨ 7 ≤ 4 ∧ 4 ≤ 10 ∨ 4 = 15 ∨ 4 = 25) ∨ 80 ≤ 77 ∧ 77 ≤ 84 ∧ 8 ≤ 4 by decide)
                      refine to_an (pc := 5) rw_152_5 rfl (to_an (pc := 6) rw_152_6 rfl ?_)
                      have c_311 : M308.2.1 77 10 = (M177.2.1 77 10) := (W_n W307 (by decide) (F_n F193 (show ¬ (77 = 77 ∧ (10 = 4 ∨ 10 = 5)) by decide) rfl))
                      refine tt_gI (pc := 7) rw_152_7 (g_o hG309 rfl) (v := (M177.2.1 77 10)) c_311 (s_pI (pc := 10) rw_152_10 hG309 rfl (fun M313 W312 => ?_))
                      have hG314 := g_wf hG309 W312 rfl rfl (by decide)
                      have F315 := FR.w F310 W312 (show 77 = 77 ∧ (5 = 4 ∨ 5 = 5 ∨ 7 ≤ 5 ∧ 5 ≤ 10 ∨ 5 = 15 ∨ 5 = 25) ∨ 80 ≤ 77 ∧ 77 ≤ 84 ∧ 8 ≤ 5 by decide)
                      refine to_c (pc := 13) rw_152_13 (x := (0 : Int32)) rfl rfl (s_r1 (pc := 14) rw_152_14 (A := 0) rfl (by decide) (s_r1 (pc := 244) rw_170_244 (A := 0) rfl (by decide) ?_))
                      have j_316 := (RS_f (fun a i z => W_n W312 (tg_37 a i z) rfl) (RS_f (fun a i z => W_n W307 (tg_38 a i z) rfl) (RS_f (tg_40 F193) p_176.1)))
                      exact h (0 : Int32) M313 hG314 F315 (by decide) (by decide) j_316 (fun _ => x_field_n (fun h9 => by unfold x_fC at h9; omega)) (fun z => absurd z (by decide))
                · refine to_an (pc := 169) rw_170_169 rfl (to_c (pc := 170) rw_170_170 (x := (3 : Int32)) rfl rfl (s_v (pc := 171) rw_170_171 (dp0 hd (by decide)) (ls0 := [.ref 77, .int (3 : Int32)]) rfl (Nat.le_of_ble_eq_true rfl) (Nat.le_of_ble_eq_true rfl) rfl (to_rc rfl rfl rfl (g_o hG151 rfl)) rfl (to_an (pc := 0) rw_152_0 rfl (to_in (pc := 1) rw_152_1 rfl (s_pI (pc := 2) rw_152_2 hG151 rfl (fun M318 W317 => ?_))))))
                  have hG319 := g_wf hG151 W317 rfl rfl (by decide)
                  have F320 := FR.w F154 W317 (show 77 = 77 ∧ (4 = 4 ∨ 4 = 5 ∨ 7 ≤ 4 ∧ 4 ≤ 10 ∨ 4 = 15 ∨ 4 = 25) ∨ 80 ≤ 77 ∧ 77 ≤ 84 ∧ 8 ≤ 4 by decide)
                  refine to_an (pc := 5) rw_152_5 rfl (to_an (pc := 6) rw_152_6 rfl ?_)
                  have c_321 : M318.2.1 77 10 = (M116.2.1 77 10) := (W_n W317 (by decide) (F_n F150 (show ¬ (77 < 0) by decide) (F_n F132 (show ¬ (77 = 77 ∧ (10 = 4 ∨ 10 = 5)) by decide) rfl)))
                  refine tt_gI (pc := 7) rw_152_7 (g_o hG319 rfl) (v := (M116.2.1 77 10)) c_321 (s_pI (pc := 10) rw_152_10 hG319 rfl (fun M323 W322 => ?_))
                  have hG324 := g_wf hG319 W322 rfl rfl (by decide)
                  have F325 := FR.w F320 W322 (show 77 = 77 ∧ (5 = 4 ∨ 5 = 5 ∨ 7 ≤ 5 ∧ 5 ≤ 10 ∨ 5 = 15 ∨ 5 = 25) ∨ 80 ≤ 77 ∧ 77 ≤ 84 ∧ 8 ≤ 5 by decide)
                  refine to_c (pc := 13) rw_152_13 (x := (0 : Int32)) rfl rfl (s_r1 (pc := 14) rw_152_14 (A := 0) rfl (by decide) (s_r1 (pc := 174) rw_170_174 (A := 0) rfl (by decide) ?_))
                  have j_326 := (RS_f (fun a i z => W_n W322 (tg_37 a i z) rfl) (RS_f (fun a i z => W_n W317 (tg_38 a i z) rfl) (RS_f (tg_45 F150) (RS_f (tg_40 F132) p_115.1))))
                  exact h (0 : Int32) M323 hG324 F325 (by decide) (by decide) j_326 (fun _ => x_field_n (fun h9 => by unfold x_fC at h9; omega)) (fun z => absurd z (by decide))
            · refine to_in (pc := 91) rw_170_91 rfl (to_c (pc := 92) rw_170_92 (x := (3 : Int32)) rfl rfl (b_cne (pc := 93) rw_170_93 (A := v105.toInt) (B := 3) rfl rfl (fun h327 => ?_) (fun h327 => ?_)))
              · refine to_c (pc := 100) rw_170_100 (x := (0 : Int32)) rfl rfl (to_is (pc := 101) rw_170_101 (ls2 := [.ref 77, .int v51, .int (M25.2.1 77 9), .int v105, .int (0 : Int32), .null, .null, .null, .null]) rfl rfl (to_in (pc := 103) rw_170_103 rfl (to_c (pc := 104) rw_170_104 (x := (1 : Int32)) rfl rfl (b_cne (pc := 105) rw_170_105 (A := v105.toInt) (B := 1) rfl rfl (fun h328 => ?_) (fun h328 => ?_)))))
                · refine to_in (pc := 112) rw_170_112 rfl (to_c (pc := 113) rw_170_113 (x := (2 : Int32)) rfl rfl (b_cne_f (pc := 114) rw_170_114 (A := v105.toInt) (B := 2) rfl rfl (by omega) (to_c (pc := 117) rw_170_117 (x := (4 : Int32)) rfl rfl (to_go (pc := 118) rw_170_118 (to_is (pc := 122) rw_170_122 (ls2 := [.ref 77, .int v51, .int (M25.2.1 77 9), .int v105, .int (0 : Int32), .int (4 : Int32), .null, .null, .null]) rfl rfl (to_an (pc := 124) rw_170_124 rfl (to_c (pc := 125) rw_170_125 (x := (0 : Int32)) rfl rfl (to_an (pc := 126) rw_170_126 rfl ?_))))))))
                  have c_329 : M116.2.1 77 14 = (M.2.1 77 14) := (F_n F110 (show ¬ (77 = 77 ∧ 7 ≤ 14 ∧ 14 ≤ 10) by decide) (F_n F64 (show ¬ (77 = 77 ∧ 7 ≤ 14 ∧ 14 ≤ 10) by decide) (F_n F35 (show ¬ (77 = 77 ∧ (14 = 4 ∨ 14 = 5)) by decide) (F_n F19 (show ¬ (77 = 77 ∧ 7 ≤ 14 ∧ 14 ≤ 10) by decide) rfl))))
                  refine tt_gI (pc := 127) rw_170_127 (g_o hG111 rfl) (v := (M.2.1 77 14)) c_329 (to_c (pc := 130) rw_170_130 (x := (1 : Int32)) rfl rfl (s_sub (pc := 131) rw_170_131 (A := (M.2.1 77 14).toInt) (B := 1) rfl rfl (by omega) (fun v330 e331 => to_i (pc := 132) rw_170_132 rfl (s_sub (pc := 134) rw_170_134 (A := v330.toInt) (B := 4) rfl rfl (by omega) (fun v332 e333 => s_v (pc := 135) rw_170_135 (dp0 hd (by decide)) (ls0 := [.ref 77, .int (0 : Int32), .int v332]) rfl (Nat.le_of_ble_eq_true rfl) (Nat.le_of_ble_eq_true rfl) rfl (to_rc rfl rfl rfl (g_o hG111 rfl)) rfl ?_)))))
                  have k_334 : (0 : Int32).toInt = 0 := rfl
                  refine E_162 hX (dp1 hd (by decide)) hG111 p_115.1 (by omega) (by omega) (l := (0 : Int32)) (m := v332) (t := t) (nn := nn) (a := (x_ns t nn (x_ns t nn (x_ns t nn a)))) (fun r335 M342 hG337 F336 p_338 p_339 p_340 p_341 => ?_)
                  have F343 := FR.c F117 F336 tg_50
                  rcases (show r335.toInt = 0 ∨ r335.toInt = 1 by omega) with h344 | h344
                  · skip
                    have p_345 := p_341 (by omega)
                    clear p_340 p_341
                    have z_346 := x_val_b (t := t) (nn := nn) (a := (x_ns t nn (x_ns t nn (x_ns t nn a))))
                    refine b_ine_f (pc := 138) rw_170_138 (A := r335.toInt) rfl (by omega) (to_c (pc := 141) rw_170_141 (x := (0 : Int32)) rfl rfl (s_r1 (pc := 142) rw_170_142 (A := 0) rfl (by decide) ?_))
                    have j_347 := (RS_f (tg_40 F336) p_115.1)
                    exact h (0 : Int32) M342 hG337 F343 (by decide) (by decide) j_347 (fun _ => x_field_n (fun h9 => by unfold x_fC at h9; omega)) (fun z => absurd z (by decide))
                  · skip
                    have p_348 := p_340 (by omega)
                    clear p_340 p_341
                    have c_349 : M342.2.1 77 9 = (M116.2.1 77 9) := (F_n F336 (show ¬ (77 = 77 ∧ (9 = 4 ∨ 9 = 5)) by decide) rfl)
                    have z_350 := x_val_b (t := t) (nn := nn) (a := (x_ns t nn (x_ns t nn (x_ns t nn a)))) (by omega)
                    refine b_ine_t (pc := 138) rw_170_138 (A := r335.toInt) rfl (by omega) (to_an (pc := 143) rw_170_143 rfl (tt_gI (pc := 144) rw_170_144 (g_o hG337 rfl) (v := (M116.2.1 77 9)) c_349 (to_is (pc := 147) rw_170_147 (ls2 := [.ref 77, .int v51, .int (M25.2.1 77 9), .int v105, .int (0 : Int32), .int (4 : Int32), .int (M116.2.1 77 9), .null, .null]) rfl rfl (to_an (pc := 149) rw_170_149 rfl (tt_gJ (pc := 150) rw_170_150 (g_o hG337 rfl) (v := (M.2.2.1 77 25)) (F_nl F336 (show ¬ (77 = 77 ∧ (25 = 4 ∨ 25 = 5)) by decide) (F_nl F110 (show ¬ (77 = 77 ∧ 7 ≤ 25 ∧ 25 ≤ 10) by decide) (F_nl F64 (show ¬ (77 = 77 ∧ 7 ≤ 25 ∧ 25 ≤ 10) by decide) (F_nl F35 (show ¬ (77 = 77 ∧ (25 = 4 ∨ 25 = 5)) by decide) (F_nl F19 (show ¬ (77 = 77 ∧ 7 ≤ 25 ∧ 25 ≤ 10) by decide) rfl))))) (to_i (pc := 153) rw_170_153 rfl (to_i (pc := 155) rw_170_155 rfl (to_i (pc := 157) rw_170_157 rfl (s_add (pc := 159) rw_170_159 (A := (M116.2.1 77 9).toInt) (B := 4) rfl rfl (by omega) (fun v351 e352 => s_s (pc := 160) rw_170_160 (dp0 hd (by decide)) (ls0 := [.int (M116.2.1 77 9), .int v351, .null, .null, .null]) rfl (Nat.le_of_ble_eq_true rfl) (Nat.le_of_ble_eq_true rfl) rfl (to_rcs rfl rfl) rfl (E_168 hX (dp1 hd (by decide)) hG337 (by omega) (by omega) (by omega) (by omega) (by omega) (a := (M116.2.1 77 9)) (b := v351) (fun r353 M357 hG355 F354 p_356 => ?_))))))))))))
                    have F358 := FR.c F343 F354 tg_51
                    refine to_2l (pc := 163) rw_170_163 (v := ((M.2.2.1 77 25) &&& r353)) rfl (to_cl (pc := 164) rw_170_164 rfl (x := (0 : Int64)) rfl (s_lcmpE (pc := 165) rw_170_165 (fun v359 e360 => ?_)))
                    have b_361 := x_eq_b (x := ((M.2.2.1 77 25) &&& r353)) (y := (0 : Int64))
                    have z_362 := x_free_r q7 p_356
                    have z_363 := x_free_v (s := sg) (f := (M116.2.1 77 9).toInt) (l := v351.toInt) (f2 := (x_val t nn (x_ns t nn (x_ns t nn (x_ns t nn a))))) (l2 := ((x_val t nn (x_ns t nn (x_ns t nn (x_ns t nn a)))) + ((x_kx (x_val t nn (x_ns t nn (x_ns t nn a)))) - 1))) (by omega) (by omega)
                    refine b_ieq (pc := 166) rw_170_166 (A := v359.toInt) rfl (fun h364 => ?_) (fun h364 => ?_)
                    · refine to_an (pc := 175) rw_170_175 rfl (s_v (pc := 176) rw_170_176 (dp0 hd (by decide)) (ls0 := [.ref 77]) rfl (Nat.le_of_ble_eq_true rfl) (Nat.le_of_ble_eq_true rfl) rfl (to_rc rfl rfl rfl (g_o hG355 rfl)) rfl ?_)
                      have c_365 : M357.2.1 77 7 = (M116.2.1 77 7) := (F_n F354 (show ¬ (77 < 0) by decide) (F_n F336 (show ¬ (77 = 77 ∧ (7 = 4 ∨ 7 = 5)) by decide) rfl))
                      have t_366 : (M357.2.1 77 7).toInt = (M116.2.1 77 7).toInt := congrArg Int32.toInt c_365
                      have c_367 : M357.2.1 77 6 = (M.2.1 77 6) := (F_n F354 (show ¬ (77 < 0) by decide) (F_n F336 (show ¬ (77 = 77 ∧ (6 = 4 ∨ 6 = 5)) by decide) c_119))
                      have t_368 : (M357.2.1 77 6).toInt = (M.2.1 77 6).toInt := congrArg Int32.toInt c_367
                      have c_369 : M357.2.1 77 10 = (M116.2.1 77 10) := (F_n F354 (show ¬ (77 < 0) by decide) (F_n F336 (show ¬ (77 = 77 ∧ (10 = 4 ∨ 10 = 5)) by decide) rfl))
                      have t_370 : (M357.2.1 77 10).toInt = (M116.2.1 77 10).toInt := congrArg Int32.toInt c_369
                      have j_371 := (RS_f (tg_45 F354) (RS_f (tg_40 F336) p_115.1))
                      have z_372 := RS_b j_371 (a := (x_ns t nn (x_ns t nn (x_ns t nn a)))) (by omega)
                      have j_373 := (TR_f (tg_9 F354) (TR_f (tg_41 F336) (TR_f (tg_42 F110) j_108)))
                      have j_374 := (W9_f (tg_46 F354) (W9_f (tg_43 F336) (W9_f (tg_44 F110) j_109)))
                      refine E_156 hX (dp1 hd (by decide)) hG355 (by omega) (by omega) (by omega) (by omega) j_373 j_374  (fun M381 hG376 F375 p_377 p_378 p_379 p_380 => ?_)
                      have F382 := FR.c F358 F375 tg_49
                      have b_383 := g_b hG376 (a := 77) (i := 7) (lo := 0) (hi := 500) rfl rfl
                      have c_384 : M381.2.1 77 6 = (M.2.1 77 6) := (F_n F375 (show ¬ (77 = 77 ∧ 7 ≤ 6 ∧ 6 ≤ 10) by decide) c_367)
                      have t_385 : (M381.2.1 77 6).toInt = (M.2.1 77 6).toInt := congrArg Int32.toInt c_384
                      have b_386 := g_b hG376 (a := 77) (i := 8) (lo := 0) (hi := 5) rfl rfl
                      have b_387 := g_b hG376 (a := 77) (i := 10) (lo := 0) (hi := 500) rfl rfl
                      have z_388 := RS_s p_380.2 (a := (x_ns t nn (x_ns t nn (x_ns t nn a)))) (by omega)
                      refine to_i (pc := 179) rw_170_179 rfl (to_i (pc := 181) rw_170_181 rfl (s_add (pc := 183) rw_170_183 (A := (M116.2.1 77 9).toInt) (B := 4) rfl rfl (by omega) (fun v389 e390 => to_is (pc := 184) rw_170_184 (ls2 := [.ref 77, .int v51, .int (M25.2.1 77 9), .int v105, .int (0 : Int32), .int (4 : Int32), .int (M116.2.1 77 9), .int v389, .null]) rfl rfl (to_c (pc := 186) rw_170_186 (x := (10 : Int32)) rfl rfl (to_is (pc := 188) rw_170_188 (ls2 := [.ref 77, .int v51, .int (M25.2.1 77 9), .int v105, .int (0 : Int32), .int (4 : Int32), .int (M116.2.1 77 9), .int v389, .int (10 : Int32)]) rfl rfl (to_i (pc := 190) rw_170_190 rfl (b_ieq_t (pc := 192) rw_170_192 (A := 0) rfl (by decide) (to_an (pc := 318) rw_170_318 rfl (to_dupr (pc := 319) rw_170_319 (tt_gJ (pc := 320) rw_170_320 (g_o hG376 rfl) (v := (M.2.2.1 77 25)) (F_nl F375 (show ¬ (77 = 77 ∧ 7 ≤ 25 ∧ 25 ≤ 10) by decide) (F_nl F354 (show ¬ (77 < 0) by decide) (F_nl F336 (show ¬ (77 = 77 ∧ (25 = 4 ∨ 25 = 5)) by decide) (F_nl F110 (show ¬ (77 = 77 ∧ 7 ≤ 25 ∧ 25 ≤ 10) by decide) (F_nl F64 (show ¬ (77 = 77 ∧ 7 ≤ 25 ∧ 25 ≤ 10) by decide) (F_nl F35 (show ¬ (77 = 77 ∧ (25 = 4 ∨ 25 = 5)) by decide) (F_nl F19 (show ¬ (77 = 77 ∧ 7 ≤ 25 ∧ 25 ≤ 10) by decide) rfl))))))) (to_i (pc := 323) rw_170_323 rfl ?_)))))))))))
                      refine to_i (pc := 325) rw_170_325 rfl (s_s (pc := 327) rw_170_327 (dp0 hd (by decide)) (ls0 := [.int (M116.2.1 77 9), .int v389, .null, .null, .null]) rfl (Nat.le_of_ble_eq_true rfl) (Nat.le_of_ble_eq_true rfl) rfl (to_rcs rfl rfl) rfl (E_168 hX (dp1 hd (by decide)) hG376 (by omega) (by omega) (by omega) (by omega) (by omega) (a := (M116.2.1 77 9)) (b := v389) (fun r391 M395 hG393 F392 p_394 => ?_)))
                      have F396 := FR.c F382 F392 tg_51
                      refine to_2l (pc := 330) rw_170_330 (v := ((M.2.2.1 77 25) ||| r391)) rfl ?_
                      have j_397 := (PLr_f (tg_47 F392) (F_nl F392 (show ¬ (77 < 0) by decide) rfl) (PLr_f (tg_39 F375) (F_nl F375 (show ¬ (77 = 77 ∧ 7 ≤ 25 ∧ 25 ≤ 10) by decide) rfl) (PLr_f (tg_47 F354) (F_nl F354 (show ¬ (77 < 0) by decide) rfl) (PLr_f (tg_48 F336) (F_nl F336 (show ¬ (77 = 77 ∧ (25 = 4 ∨ 25 = 5)) by decide) rfl) (PLr_f (tg_39 F110) (F_nl F110 (show ¬ (77 = 77 ∧ 7 ≤ 25 ∧ 25 ≤ 10) by decide) rfl) (PLr_f (tg_39 F64) (F_nl F64 (show ¬ (77 = 77 ∧ 7 ≤ 25 ∧ 25 ≤ 10) by decide) rfl) (PLr_f (tg_48 F35) (F_nl F35 (show ¬ (77 = 77 ∧ (25 = 4 ∨ 25 = 5)) by decide) rfl) j_33)))))))
                      refine s_pJ (pc := 331) rw_170_331 hG393 rfl (fun M399 W398 => ?_)
                      have hG400 := g_wl hG393 W398
                      have F401 := FR.wl F396 W398 (show 77 = 77 ∧ (25 = 4 ∨ 25 = 5 ∨ 7 ≤ 25 ∧ 25 ≤ 10 ∨ 25 = 15 ∨ 25 = 25) ∨ 80 ≤ 77 ∧ 77 ≤ 84 ∧ 8 ≤ 25 by decide)
                      refine to_an (pc := 334) rw_170_334 rfl (s_gR (pc := 335) rw_170_335 hG400 rfl (v := 80) rfl (to_in (pc := 338) rw_170_338 rfl (to_in (pc := 339) rw_170_339 rfl (s_ias (pc := 340) rw_170_340 hG400 rfl (n := 16) rfl (A := v51.toInt) rfl (by omega) (by omega) (fun M403 W402 => ?_)))))
                      have hG404 := g_wf hG400 W402 rfl rfl (by decide)
                      have F405 := FR.w F401 W402 (show 80 = 77 ∧ ((v51.toInt).toNat = 4 ∨ (v51.toInt).toNat = 5 ∨ 7 ≤ (v51.toInt).toNat ∧ (v51.toInt).toNat ≤ 10 ∨ (v51.toInt).toNat = 15 ∨ (v51.toInt).toNat = 25) ∨ 80 ≤ 80 ∧ 80 ≤ 84 ∧ 8 ≤ (v51.toInt).toNat by omega)
                      refine to_an (pc := 341) rw_170_341 rfl (s_gR (pc := 342) rw_170_342 hG404 rfl (v := 81) rfl (to_in (pc := 345) rw_170_345 rfl (to_in (pc := 346) rw_170_346 rfl (s_ias (pc := 347) rw_170_347 hG404 rfl (n := 16) rfl (A := v51.toInt) rfl (by omega) (by omega) (fun M407 W406 => ?_)))))
                      have hG408 := g_w hG404 W406 (A := v105.toInt) rfl (lo := 0) (hi := 3) rfl rfl (by omega) (by decide)
                      have F409 := FR.w F405 W406 (show 81 = 77 ∧ ((v51.toInt).toNat = 4 ∨ (v51.toInt).toNat = 5 ∨ 7 ≤ (v51.toInt).toNat ∧ (v51.toInt).toNat ≤ 10 ∨ (v51.toInt).toNat = 15 ∨ (v51.toInt).toNat = 25) ∨ 80 ≤ 81 ∧ 81 ≤ 84 ∧ 8 ≤ (v51.toInt).toNat by omega)
                      refine to_an (pc := 348) rw_170_348 rfl (s_gR (pc := 349) rw_170_349 hG408 rfl (v := 82) rfl (to_in (pc := 352) rw_170_352 rfl (to_i (pc := 353) rw_170_353 rfl (s_ias (pc := 355) rw_170_355 hG408 rfl (n := 16) rfl (A := v51.toInt) rfl (by omega) (by omega) (fun M411 W410 => ?_)))))
                      have hG412 := g_w hG408 W410 (A := (M116.2.1 77 9).toInt) rfl (lo := 0) (hi := 59) rfl rfl (by omega) (by decide)
                      have F413 := FR.w F409 W410 (show 82 = 77 ∧ ((v51.toInt).toNat = 4 ∨ (v51.toInt).toNat = 5 ∨ 7 ≤ (v51.toInt).toNat ∧ (v51.toInt).toNat ≤ 10 ∨ (v51.toInt).toNat = 15 ∨ (v51.toInt).toNat = 25) ∨ 80 ≤ 82 ∧ 82 ≤ 84 ∧ 8 ≤ (v51.toInt).toNat by omega)
                      refine to_an (pc := 356) rw_170_356 rfl (s_gR (pc := 357) rw_170_357 hG412 rfl (v := 83) rfl (to_in (pc := 360) rw_170_360 rfl (to_i (pc := 361) rw_170_361 rfl (s_ias (pc := 363) rw_170_363 hG412 rfl (n := 16) rfl (A := v51.toInt) rfl (by omega) (by omega) (fun M415 W414 => ?_)))))
                      have hG416 := g_w hG412 W414 (A := v389.toInt) rfl (lo := 0) (hi := 63) rfl rfl (by omega) (by decide)
                      have F417 := FR.w F413 W414 (show 83 = 77 ∧ ((v51.toInt).toNat = 4 ∨ (v51.toInt).toNat = 5 ∨ 7 ≤ (v51.toInt).toNat ∧ (v51.toInt).toNat ≤ 10 ∨ (v51.toInt).toNat = 15 ∨ (v51.toInt).toNat = 25) ∨ 80 ≤ 83 ∧ 83 ≤ 84 ∧ 8 ≤ (v51.toInt).toNat by omega)
                      refine to_an (pc := 364) rw_170_364 rfl (s_gR (pc := 365) rw_170_365 hG416 rfl (v := 84) rfl (to_in (pc := 368) rw_170_368 rfl (to_i (pc := 369) rw_170_369 rfl (s_ias (pc := 371) rw_170_371 hG416 rfl (n := 16) rfl (A := v51.toInt) rfl (by omega) (by omega) (fun M419 W418 => ?_)))))
                      have hG420 := g_w hG416 W418 (A := 10) rfl (lo := 0) (hi := 24) rfl rfl (by omega) (by decide)
                      have F421 := FR.w F417 W418 (show 84 = 77 ∧ ((v51.toInt).toNat = 4 ∨ (v51.toInt).toNat = 5 ∨ 7 ≤ (v51.toInt).toNat ∧ (v51.toInt).toNat ≤ 10 ∨ (v51.toInt).toNat = 15 ∨ (v51.toInt).toNat = 25) ∨ 80 ≤ 84 ∧ 84 ≤ 84 ∧ 8 ≤ (v51.toInt).toNat by omega)
                      refine to_an (pc := 372) rw_170_372 rfl (to_dupr (pc := 373) rw_170_373 ?_)
                      have c_422 : M419.2.1 77 15 = (M.2.1 77 15) := (W_n W418 (fun z => absurd z.1 (by decide)) (W_n W414 (fun z => absurd z.1 (by decide)) (W_n W410 (fun z => absurd z.1 (by decide)) (W_n W406 (fun z => absurd z.1 (by decide)) (W_n W402 (fun z => absurd z.1 (by decide)) (W_l W398 (F_n F392 (show ¬ (77 < 0) by decide) (F_n F375 (show ¬ (77 = 77 ∧ 7 ≤ 15 ∧ 15 ≤ 10) by decide) (F_n F354 (show ¬ (77 < 0) by decide) (F_n F336 (show ¬ (77 = 77 ∧ (15 = 4 ∨ 15 = 5)) by decide) (F_n F110 (show ¬ (77 = 77 ∧ 7 ≤ 15 ∧ 15 ≤ 10) by decide) (F_n F64 (show ¬ (77 = 77 ∧ 7 ≤ 15 ∧ 15 ≤ 10) by decide) c_50))))))))))))
                      refine tt_gI (pc := 374) rw_170_374 (g_o hG420 rfl) (v := (M.2.1 77 15)) c_422 (to_c (pc := 377) rw_170_377 (x := (1 : Int32)) rfl rfl (s_add (pc := 378) rw_170_378 (A := (M.2.1 77 15).toInt) (B := 1) rfl rfl (by omega) (fun v423 e424 => s_pI (pc := 379) rw_170_379 hG420 rfl (fun M426 W425 => ?_))))
                      have hG427 := g_w hG420 W425 (A := v423.toInt) rfl (lo := 0) (hi := 8) rfl rfl (by omega) (by decide)
                      have F428 := FR.w F421 W425 (show 77 = 77 ∧ (15 = 4 ∨ 15 = 5 ∨ 7 ≤ 15 ∧ 15 ≤ 10 ∨ 15 = 15 ∨ 15 = 25) ∨ 80 ≤ 77 ∧ 77 ≤ 84 ∧ 8 ≤ 15 by decide)
                      refine to_c (pc := 382) rw_170_382 (x := (1 : Int32)) rfl rfl (s_r1 (pc := 383) rw_170_383 (A := 1) rfl (by decide) ?_)
                      have k_429 : (1 : Int32).toInt = 1 := rfl
                      have j_430 := (RS_f (fun a i z => W_n W425 (tg_52 a i z) rfl) (RS_f (fun a i z => W_n W418 (tg_53 a i _ z) rfl) (RS_f (fun a i z => W_n W414 (tg_54 a i _ z) rfl) (RS_f (fun a i z => W_n W410 (tg_55 a i _ z) rfl) (RS_f (fun a i z => W_n W406 (tg_56 a i _ z) rfl) (RS_f (fun a i z => W_n W402 (tg_57 a i _ z) rfl) (RS_f (fun a i z => W_l W398 rfl) (RS_f (tg_45 F392) p_380.1))))))))
                      have c_431 : M426.2.1 77 10 = (M381.2.1 77 10) := (W_n W425 (by decide) (W_n W418 (fun z => absurd z.1 (by decide)) (W_n W414 (fun z => absurd z.1 (by decide)) (W_n W410 (fun z => absurd z.1 (by decide)) (W_n W406 (fun z => absurd z.1 (by decide)) (W_n W402 (fun z => absurd z.1 (by decide)) (W_l W398 (F_n F392 (show ¬ (77 < 0) by decide) rfl))))))))
                      have t_432 : (M426.2.1 77 10).toInt = (M381.2.1 77 10).toInt := congrArg Int32.toInt c_431
                      have z_433 : x_fC t nn sg (x_ns t nn a) := by unfold x_fC; omega
                      have k_434 : (10 : Int32).toInt = 10 := rfl
                      have z_435 := (x_or_r q7 (p_394.trans (x_bw_v (by omega) (by omega))) : _ = _ ||| x_bw (x_val t nn (x_ns t nn (x_ns t nn (x_ns t nn a)))) ((x_val t nn (x_ns t nn (x_ns t nn (x_ns t nn a)))) + ((x_kx (x_val t nn (x_ns t nn (x_ns t nn a)))) - 1)))
                      have z_436 := PLr_p (nm := (x_val t nn (x_ns t nn a))) (kd := ((x_kx (x_val t nn (x_ns t nn (x_ns t nn a)))) - 3)) (f := (x_val t nn (x_ns t nn (x_ns t nn (x_ns t nn a))))) (l := ((x_val t nn (x_ns t nn (x_ns t nn (x_ns t nn a)))) + ((x_kx (x_val t nn (x_ns t nn (x_ns t nn a)))) - 1))) (c := 10) j_397 W398 W402 W406 W410 W414 W418 W425 (by omega) z_435 (by omega) (by omega) (by omega) (by omega) (by omega) (by omega) (by omega) (by omega) (by omega) (by omega) (by omega)
                      have j_437 := (CWr_f (fun k hk9 => W_j W425 rfl) (CWr_f (fun k hk9 => W_j W418 rfl) (CWr_f (fun k hk9 => W_j W414 rfl) (CWr_f (fun k hk9 => W_j W410 rfl) (CWr_f (fun k hk9 => W_j W406 rfl) (CWr_f (fun k hk9 => W_j W402 rfl) (CWr_f (fun k hk9 => L_n W398 (by omega) rfl) (CWr_f (fun k hk9 => F_nl F392 (show ¬ (87 < 0) by decide) rfl) (CWr_f (fun k hk9 => F_nl F375 (show ¬ (87 = 77 ∧ 7 ≤ (12 + k) ∧ (12 + k) ≤ 10) by omega) rfl) (CWr_f (fun k hk9 => F_nl F354 (show ¬ (87 < 0) by decide) rfl) (CWr_f (fun k hk9 => F_nl F336 (show ¬ (87 = 77 ∧ ((12 + k) = 4 ∨ (12 + k) = 5)) by omega) rfl) (CWr_f (fun k hk9 => F_nl F110 (show ¬ (87 = 77 ∧ 7 ≤ (12 + k) ∧ (12 + k) ≤ 10) by omega) rfl) (CWr_f (fun k hk9 => F_nl F64 (show ¬ (87 = 77 ∧ 7 ≤ (12 + k) ∧ (12 + k) ≤ 10) by omega) rfl) (CWr_f (fun k hk9 => F_nl F35 (show ¬ (87 = 77 ∧ ((12 + k) = 4 ∨ (12 + k) = 5)) by omega) rfl) (CWr_f (fun k hk9 => F_nl F19 (show ¬ (87 = 77 ∧ 7 ≤ (12 + k) ∧ (12 + k) ≤ 10) by omega) rfl) q8)))))))))))))))
                      exact h (1 : Int32) M426 hG427 F428 (by decide) (by decide) j_430 (fun z => absurd z (by decide)) (fun _ => ⟨_, (by rw [show (M426.2.1 77 10).toInt = (x_ns t nn (x_ns t nn (x_ns t nn (x_ns t nn a)))) by omega]; exact x_field_d z_433 (by omega)), ⟨z_436, CWr_p j_437⟩, (by show sg.2.1 + 1 + sg.2.2.1 = _; omega)⟩)
                    · refine to_an (pc := 169) rw_170_169 rfl (to_c (pc := 170) rw_170_170 (x := (3 : Int32)) rfl rfl (s_v (pc := 171) rw_170_171 (dp0 hd (by decide)) (ls0 := [.ref 77, .int (3 : Int32)]) rfl (Nat.le_of_ble_eq_true rfl) (Nat.le_of_ble_eq_true rfl) rfl (to_rc rfl rfl rfl (g_o hG355 rfl)) rfl (to_an (pc := 0) rw_152_0 rfl (to_in (pc := 1) rw_152_1 rfl (s_pI (pc := 2) rw_152_2 hG355 rfl (fun M439 W438 => ?_))))))
                      have hG440 := g_wf hG355 W438 rfl rfl (by decide)
                      have F441 := FR.w F358 W438 (show 77 = 77 ∧ (4 = 4 ∨ 4 = 5 ∨ 7 ≤ 4 ∧ 4 ≤ 10 ∨ 4 = 15 ∨ 4 = 25) ∨ 80 ≤ 77 ∧ 77 ≤ 84 ∧ 8 ≤ 4 by decide)
                      refine to_an (pc := 5) rw_152_5 rfl (to_an (pc := 6) rw_152_6 rfl ?_)
                      have c_442 : M439.2.1 77 10 = (M116.2.1 77 10) := (W_n W438 (by decide) (F_n F354 (show ¬ (77 < 0) by decide) (F_n F336 (show ¬ (77 = 77 ∧ (10 = 4 ∨ 10 = 5)) by decide) rfl)))
                      refine tt_gI (pc := 7) rw_152_7 (g_o hG440 rfl) (v := (M116.2.1 77 10)) c_442 (s_pI (pc := 10) rw_152_10 hG440 rfl (fun M444 W443 => ?_))
                      have hG445 := g_wf hG440 W443 rfl rfl (by decide)
                      have F446 := FR.w F441 W443 (show 77 = 77 ∧ (5 = 4 ∨ 5 = 5 ∨ 7 ≤ 5 ∧ 5 ≤ 10 ∨ 5 = 15 ∨ 5 = 25) ∨ 80 ≤ 77 ∧ 77 ≤ 84 ∧ 8 ≤ 5 by decide)
                      refine to_c (pc := 13) rw_152_13 (x := (0 : Int32)) rfl rfl (s_r1 (pc := 14) rw_152_14 (A := 0) rfl (by decide) (s_r1 (pc := 174) rw_170_174 (A := 0) rfl (by decide) ?_))
                      have j_447 := (RS_f (fun a i z => W_n W443 (tg_37 a i z) rfl) (RS_f (fun a i z => W_n W438 (tg_38 a i z) rfl) (RS_f (tg_45 F354) (RS_f (tg_40 F336) p_115.1))))
                      exact h (0 : Int32) M444 hG445 F446 (by decide) (by decide) j_447 (fun _ => x_field_n (fun h9 => by unfold x_fC at h9; omega)) (fun z => absurd z (by decide))
                · refine to_c (pc := 108) rw_170_108 (x := (3 : Int32)) rfl rfl (to_go (pc := 109) rw_170_109 (to_is (pc := 122) rw_170_122 (ls2 := [.ref 77, .int v51, .int (M25.2.1 77 9), .int v105, .int (0 : Int32), .int (3 : Int32), .null, .null, .null]) rfl rfl (to_an (pc := 124) rw_170_124 rfl (to_c (pc := 125) rw_170_125 (x := (0 : Int32)) rfl rfl (to_an (pc := 126) rw_170_126 rfl ?_)))))
                  have c_448 : M116.2.1 77 14 = (M.2.1 77 14) := (F_n F110 (show ¬ (77 = 77 ∧ 7 ≤ 14 ∧ 14 ≤ 10) by decide) (F_n F64 (show ¬ (77 = 77 ∧ 7 ≤ 14 ∧ 14 ≤ 10) by decide) (F_n F35 (show ¬ (77 = 77 ∧ (14 = 4 ∨ 14 = 5)) by decide) (F_n F19 (show ¬ (77 = 77 ∧ 7 ≤ 14 ∧ 14 ≤ 10) by decide) rfl))))
                  refine tt_gI (pc := 127) rw_170_127 (g_o hG111 rfl) (v := (M.2.1 77 14)) c_448 (to_c (pc := 130) rw_170_130 (x := (1 : Int32)) rfl rfl (s_sub (pc := 131) rw_170_131 (A := (M.2.1 77 14).toInt) (B := 1) rfl rfl (by omega) (fun v449 e450 => to_i (pc := 132) rw_170_132 rfl (s_sub (pc := 134) rw_170_134 (A := v449.toInt) (B := 3) rfl rfl (by omega) (fun v451 e452 => s_v (pc := 135) rw_170_135 (dp0 hd (by decide)) (ls0 := [.ref 77, .int (0 : Int32), .int v451]) rfl (Nat.le_of_ble_eq_true rfl) (Nat.le_of_ble_eq_true rfl) rfl (to_rc rfl rfl rfl (g_o hG111 rfl)) rfl ?_)))))
                  have k_453 : (0 : Int32).toInt = 0 := rfl
                  refine E_162 hX (dp1 hd (by decide)) hG111 p_115.1 (by omega) (by omega) (l := (0 : Int32)) (m := v451) (t := t) (nn := nn) (a := (x_ns t nn (x_ns t nn (x_ns t nn a)))) (fun r454 M461 hG456 F455 p_457 p_458 p_459 p_460 => ?_)
                  have F462 := FR.c F117 F455 tg_50
                  rcases (show r454.toInt = 0 ∨ r454.toInt = 1 by omega) with h463 | h463
                  · skip
                    have p_464 := p_460 (by omega)
                    clear p_459 p_460
                    have z_465 := x_val_b (t := t) (nn := nn) (a := (x_ns t nn (x_ns t nn (x_ns t nn a))))
                    refine b_ine_f (pc := 138) rw_170_138 (A := r454.toInt) rfl (by omega) (to_c (pc := 141) rw_170_141 (x := (0 : Int32)) rfl rfl (s_r1 (pc := 142) rw_170_142 (A := 0) rfl (by decide) ?_))
                    have j_466 := (RS_f (tg_40 F455) p_115.1)
                    exact h (0 : Int32) M461 hG456 F462 (by decide) (by decide) j_466 (fun _ => x_field_n (fun h9 => by unfold x_fC at h9; omega)) (fun z => absurd z (by decide))
                  · skip
                    have p_467 := p_459 (by omega)
                    clear p_459 p_460
                    have c_468 : M461.2.1 77 9 = (M116.2.1 77 9) := (F_n F455 (show ¬ (77 = 77 ∧ (9 = 4 ∨ 9 = 5)) by decide) rfl)
                    have z_469 := x_val_b (t := t) (nn := nn) (a := (x_ns t nn (x_ns t nn (x_ns t nn a)))) (by omega)
                    refine b_ine_t (pc := 138) rw_170_138 (A := r454.toInt) rfl (by omega) (to_an (pc := 143) rw_170_143 rfl (tt_gI (pc := 144) rw_170_144 (g_o hG456 rfl) (v := (M116.2.1 77 9)) c_468 (to_is (pc := 147) rw_170_147 (ls2 := [.ref 77, .int v51, .int (M25.2.1 77 9), .int v105, .int (0 : Int32), .int (3 : Int32), .int (M116.2.1 77 9), .null, .null]) rfl rfl (to_an (pc := 149) rw_170_149 rfl (tt_gJ (pc := 150) rw_170_150 (g_o hG456 rfl) (v := (M.2.2.1 77 25)) (F_nl F455 (show ¬ (77 = 77 ∧ (25 = 4 ∨ 25 = 5)) by decide) (F_nl F110 (show ¬ (77 = 77 ∧ 7 ≤ 25 ∧ 25 ≤ 10) by decide) (F_nl F64 (show ¬ (77 = 77 ∧ 7 ≤ 25 ∧ 25 ≤ 10) by decide) (F_nl F35 (show ¬ (77 = 77 ∧ (25 = 4 ∨ 25 = 5)) by decide) (F_nl F19 (show ¬ (77 = 77 ∧ 7 ≤ 25 ∧ 25 ≤ 10) by decide) rfl))))) (to_i (pc := 153) rw_170_153 rfl (to_i (pc := 155) rw_170_155 rfl (to_i (pc := 157) rw_170_157 rfl (s_add (pc := 159) rw_170_159 (A := (M116.2.1 77 9).toInt) (B := 3) rfl rfl (by omega) (fun v470 e471 => s_s (pc := 160) rw_170_160 (dp0 hd (by decide)) (ls0 := [.int (M116.2.1 77 9), .int v470, .null, .null, .null]) rfl (Nat.le_of_ble_eq_true rfl) (Nat.le_of_ble_eq_true rfl) rfl (to_rcs rfl rfl) rfl (E_168 hX (dp1 hd (by decide)) hG456 (by omega) (by omega) (by omega) (by omega) (by omega) (a := (M116.2.1 77 9)) (b := v470) (fun r472 M476 hG474 F473 p_475 => ?_))))))))))))
                    have F477 := FR.c F462 F473 tg_51
                    refine to_2l (pc := 163) rw_170_163 (v := ((M.2.2.1 77 25) &&& r472)) rfl (to_cl (pc := 164) rw_170_164 rfl (x := (0 : Int64)) rfl (s_lcmpE (pc := 165) rw_170_165 (fun v478 e479 => ?_)))
                    have b_480 := x_eq_b (x := ((M.2.2.1 77 25) &&& r472)) (y := (0 : Int64))
                    have z_481 := x_free_r q7 p_475
                    have z_482 := x_free_v (s := sg) (f := (M116.2.1 77 9).toInt) (l := v470.toInt) (f2 := (x_val t nn (x_ns t nn (x_ns t nn (x_ns t nn a))))) (l2 := ((x_val t nn (x_ns t nn (x_ns t nn (x_ns t nn a)))) + ((x_kx (x_val t nn (x_ns t nn (x_ns t nn a)))) - 1))) (by omega) (by omega)
                    refine b_ieq (pc := 166) rw_170_166 (A := v478.toInt) rfl (fun h483 => ?_) (fun h483 => ?_)
                    · refine to_an (pc := 175) rw_170_175 rfl (s_v (pc := 176) rw_170_176 (dp0 hd (by decide)) (ls0 := [.ref 77]) rfl (Nat.le_of_ble_eq_true rfl) (Nat.le_of_ble_eq_true rfl) rfl (to_rc rfl rfl rfl (g_o hG474 rfl)) rfl ?_)
                      have c_484 : M476.2.1 77 7 = (M116.2.1 77 7) := (F_n F473 (show ¬ (77 < 0) by decide) (F_n F455 (show ¬ (77 = 77 ∧ (7 = 4 ∨ 7 = 5)) by decide) rfl))
                      have t_485 : (M476.2.1 77 7).toInt = (M116.2.1 77 7).toInt := congrArg Int32.toInt c_484
                      have c_486 : M476.2.1 77 6 = (M.2.1 77 6) := (F_n F473 (show ¬ (77 < 0) by decide) (F_n F455 (show ¬ (77 = 77 ∧ (6 = 4 ∨ 6 = 5)) by decide) c_119))
                      have t_487 : (M476.2.1 77 6).toInt = (M.2.1 77 6).toInt := congrArg Int32.toInt c_486
                      have c_488 : M476.2.1 77 10 = (M116.2.1 77 10) := (F_n F473 (show ¬ (77 < 0) by decide) (F_n F455 (show ¬ (77 = 77 ∧ (10 = 4 ∨ 10 = 5)) by decide) rfl))
                      have t_489 : (M476.2.1 77 10).toInt = (M116.2.1 77 10).toInt := congrArg Int32.toInt c_488
                      have j_490 := (RS_f (tg_45 F473) (RS_f (tg_40 F455) p_115.1))
                      have z_491 := RS_b j_490 (a := (x_ns t nn (x_ns t nn (x_ns t nn a)))) (by omega)
                      have j_492 := (TR_f (tg_9 F473) (TR_f (tg_41 F455) (TR_f (tg_42 F110) j_108)))
                      have j_493 := (W9_f (tg_46 F473) (W9_f (tg_43 F455) (W9_f (tg_44 F110) j_109)))
                      refine E_156 hX (dp1 hd (by decide)) hG474 (by omega) (by omega) (by omega) (by omega) j_492 j_493  (fun M500 hG495 F494 p_496 p_497 p_498 p_499 => ?_)
                      have F501 := FR.c F477 F494 tg_49
                      have b_502 := g_b hG495 (a := 77) (i := 7) (lo := 0) (hi := 500) rfl rfl
                      have c_503 : M500.2.1 77 6 = (M.2.1 77 6) := (F_n F494 (show ¬ (77 = 77 ∧ 7 ≤ 6 ∧ 6 ≤ 10) by decide) c_486)
                      have t_504 : (M500.2.1 77 6).toInt = (M.2.1 77 6).toInt := congrArg Int32.toInt c_503
                      have b_505 := g_b hG495 (a := 77) (i := 8) (lo := 0) (hi := 5) rfl rfl
                      have b_506 := g_b hG495 (a := 77) (i := 10) (lo := 0) (hi := 500) rfl rfl
                      have z_507 := RS_s p_499.2 (a := (x_ns t nn (x_ns t nn (x_ns t nn a)))) (by omega)
                      refine to_i (pc := 179) rw_170_179 rfl (to_i (pc := 181) rw_170_181 rfl (s_add (pc := 183) rw_170_183 (A := (M116.2.1 77 9).toInt) (B := 3) rfl rfl (by omega) (fun v508 e509 => to_is (pc := 184) rw_170_184 (ls2 := [.ref 77, .int v51, .int (M25.2.1 77 9), .int v105, .int (0 : Int32), .int (3 : Int32), .int (M116.2.1 77 9), .int v508, .null]) rfl rfl (to_c (pc := 186) rw_170_186 (x := (10 : Int32)) rfl rfl (to_is (pc := 188) rw_170_188 (ls2 := [.ref 77, .int v51, .int (M25.2.1 77 9), .int v105, .int (0 : Int32), .int (3 : Int32), .int (M116.2.1 77 9), .int v508, .int (10 : Int32)]) rfl rfl (to_i (pc := 190) rw_170_190 rfl (b_ieq_t (pc := 192) rw_170_192 (A := 0) rfl (by decide) (to_an (pc := 318) rw_170_318 rfl (to_dupr (pc := 319) rw_170_319 (tt_gJ (pc := 320) rw_170_320 (g_o hG495 rfl) (v := (M.2.2.1 77 25)) (F_nl F494 (show ¬ (77 = 77 ∧ 7 ≤ 25 ∧ 25 ≤ 10) by decide) (F_nl F473 (show ¬ (77 < 0) by decide) (F_nl F455 (show ¬ (77 = 77 ∧ (25 = 4 ∨ 25 = 5)) by decide) (F_nl F110 (show ¬ (77 = 77 ∧ 7 ≤ 25 ∧ 25 ≤ 10) by decide) (F_nl F64 (show ¬ (77 = 77 ∧ 7 ≤ 25 ∧ 25 ≤ 10) by decide) (F_nl F35 (show ¬ (77 = 77 ∧ (25 = 4 ∨ 25 = 5)) by decide) (F_nl F19 (show ¬ (77 = 77 ∧ 7 ≤ 25 ∧ 25 ≤ 10) by decide) rfl))))))) (to_i (pc := 323) rw_170_323 rfl ?_)))))))))))
                      refine to_i (pc := 325) rw_170_325 rfl (s_s (pc := 327) rw_170_327 (dp0 hd (by decide)) (ls0 := [.int (M116.2.1 77 9), .int v508, .null, .null, .null]) rfl (Nat.le_of_ble_eq_true rfl) (Nat.le_of_ble_eq_true rfl) rfl (to_rcs rfl rfl) rfl (E_168 hX (dp1 hd (by decide)) hG495 (by omega) (by omega) (by omega) (by omega) (by omega) (a := (M116.2.1 77 9)) (b := v508) (fun r510 M514 hG512 F511 p_513 => ?_)))
                      have F515 := FR.c F501 F511 tg_51
                      refine to_2l (pc := 330) rw_170_330 (v := ((M.2.2.1 77 25) ||| r510)) rfl ?_
                      have j_516 := (PLr_f (tg_47 F511) (F_nl F511 (show ¬ (77 < 0) by decide) rfl) (PLr_f (tg_39 F494) (F_nl F494 (show ¬ (77 = 77 ∧ 7 ≤ 25 ∧ 25 ≤ 10) by decide) rfl) (PLr_f (tg_47 F473) (F_nl F473 (show ¬ (77 < 0) by decide) rfl) (PLr_f (tg_48 F455) (F_nl F455 (show ¬ (77 = 77 ∧ (25 = 4 ∨ 25 = 5)) by decide) rfl) (PLr_f (tg_39 F110) (F_nl F110 (show ¬ (77 = 77 ∧ 7 ≤ 25 ∧ 25 ≤ 10) by decide) rfl) (PLr_f (tg_39 F64) (F_nl F64 (show ¬ (77 = 77 ∧ 7 ≤ 25 ∧ 25 ≤ 10) by decide) rfl) (PLr_f (tg_48 F35) (F_nl F35 (show ¬ (77 = 77 ∧ (25 = 4 ∨ 25 = 5)) by decide) rfl) j_33)))))))
                      refine s_pJ (pc := 331) rw_170_331 hG512 rfl (fun M518 W517 => ?_)
                      have hG519 := g_wl hG512 W517
                      have F520 := FR.wl F515 W517 (show 77 = 77 ∧ (25 = 4 ∨ 25 = 5 ∨ 7 ≤ 25 ∧ 25 ≤ 10 ∨ 25 = 15 ∨ 25 = 25) ∨ 80 ≤ 77 ∧ 77 ≤ 84 ∧ 8 ≤ 25 by decide)
                      refine to_an (pc := 334) rw_170_334 rfl (s_gR (pc := 335) rw_170_335 hG519 rfl (v := 80) rfl (to_in (pc := 338) rw_170_338 rfl (to_in (pc := 339) rw_170_339 rfl (s_ias (pc := 340) rw_170_340 hG519 rfl (n := 16) rfl (A := v51.toInt) rfl (by omega) (by omega) (fun M522 W521 => ?_)))))
                      have hG523 := g_wf hG519 W521 rfl rfl (by decide)
                      have F524 := FR.w F520 W521 (show 80 = 77 ∧ ((v51.toInt).toNat = 4 ∨ (v51.toInt).toNat = 5 ∨ 7 ≤ (v51.toInt).toNat ∧ (v51.toInt).toNat ≤ 10 ∨ (v51.toInt).toNat = 15 ∨ (v51.toInt).toNat = 25) ∨ 80 ≤ 80 ∧ 80 ≤ 84 ∧ 8 ≤ (v51.toInt).toNat by omega)
                      refine to_an (pc := 341) rw_170_341 rfl (s_gR (pc := 342) rw_170_342 hG523 rfl (v := 81) rfl (to_in (pc := 345) rw_170_345 rfl (to_in (pc := 346) rw_170_346 rfl (s_ias (pc := 347) rw_170_347 hG523 rfl (n := 16) rfl (A := v51.toInt) rfl (by omega) (by omega) (fun M526 W525 => ?_)))))
                      have hG527 := g_w hG523 W525 (A := v105.toInt) rfl (lo := 0) (hi := 3) rfl rfl (by omega) (by decide)
                      have F528 := FR.w F524 W525 (show 81 = 77 ∧ ((v51.toInt).toNat = 4 ∨ (v51.toInt).toNat = 5 ∨ 7 ≤ (v51.toInt).toNat ∧ (v51.toInt).toNat ≤ 10 ∨ (v51.toInt).toNat = 15 ∨ (v51.toInt).toNat = 25) ∨ 80 ≤ 81 ∧ 81 ≤ 84 ∧ 8 ≤ (v51.toInt).toNat by omega)
                      refine to_an (pc := 348) rw_170_348 rfl (s_gR (pc := 349) rw_170_349 hG527 rfl (v := 82) rfl (to_in (pc := 352) rw_170_352 rfl (to_i (pc := 353) rw_170_353 rfl (s_ias (pc := 355) rw_170_355 hG527 rfl (n := 16) rfl (A := v51.toInt) rfl (by omega) (by omega) (fun M530 W529 => ?_)))))
                      have hG531 := g_w hG527 W529 (A := (M116.2.1 77 9).toInt) rfl (lo := 0) (hi := 59) rfl rfl (by omega) (by decide)
                      have F532 := FR.w F528 W529 (show 82 = 77 ∧ ((v51.toInt).toNat = 4 ∨ (v51.toInt).toNat = 5 ∨ 7 ≤ (v51.toInt).toNat ∧ (v51.toInt).toNat ≤ 10 ∨ (v51.toInt).toNat = 15 ∨ (v51.toInt).toNat = 25) ∨ 80 ≤ 82 ∧ 82 ≤ 84 ∧ 8 ≤ (v51.toInt).toNat by omega)
                      refine to_an (pc := 356) rw_170_356 rfl (s_gR (pc := 357) rw_170_357 hG531 rfl (v := 83) rfl (to_in (pc := 360) rw_170_360 rfl (to_i (pc := 361) rw_170_361 rfl (s_ias (pc := 363) rw_170_363 hG531 rfl (n := 16) rfl (A := v51.toInt) rfl (by omega) (by omega) (fun M534 W533 => ?_)))))
                      have hG535 := g_w hG531 W533 (A := v508.toInt) rfl (lo := 0) (hi := 63) rfl rfl (by omega) (by decide)
                      have F536 := FR.w F532 W533 (show 83 = 77 ∧ ((v51.toInt).toNat = 4 ∨ (v51.toInt).toNat = 5 ∨ 7 ≤ (v51.toInt).toNat ∧ (v51.toInt).toNat ≤ 10 ∨ (v51.toInt).toNat = 15 ∨ (v51.toInt).toNat = 25) ∨ 80 ≤ 83 ∧ 83 ≤ 84 ∧ 8 ≤ (v51.toInt).toNat by omega)
                      refine to_an (pc := 364) rw_170_364 rfl (s_gR (pc := 365) rw_170_365 hG535 rfl (v := 84) rfl (to_in (pc := 368) rw_170_368 rfl (to_i (pc := 369) rw_170_369 rfl (s_ias (pc := 371) rw_170_371 hG535 rfl (n := 16) rfl (A := v51.toInt) rfl (by omega) (by omega) (fun M538 W537 => ?_)))))
                      have hG539 := g_w hG535 W537 (A := 10) rfl (lo := 0) (hi := 24) rfl rfl (by omega) (by decide)
                      have F540 := FR.w F536 W537 (show 84 = 77 ∧ ((v51.toInt).toNat = 4 ∨ (v51.toInt).toNat = 5 ∨ 7 ≤ (v51.toInt).toNat ∧ (v51.toInt).toNat ≤ 10 ∨ (v51.toInt).toNat = 15 ∨ (v51.toInt).toNat = 25) ∨ 80 ≤ 84 ∧ 84 ≤ 84 ∧ 8 ≤ (v51.toInt).toNat by omega)
                      refine to_an (pc := 372) rw_170_372 rfl (to_dupr (pc := 373) rw_170_373 ?_)
                      have c_541 : M538.2.1 77 15 = (M.2.1 77 15) := (W_n W537 (fun z => absurd z.1 (by decide)) (W_n W533 (fun z => absurd z.1 (by decide)) (W_n W529 (fun z => absurd z.1 (by decide)) (W_n W525 (fun z => absurd z.1 (by decide)) (W_n W521 (fun z => absurd z.1 (by decide)) (W_l W517 (F_n F511 (show ¬ (77 < 0) by decide) (F_n F494 (show ¬ (77 = 77 ∧ 7 ≤ 15 ∧ 15 ≤ 10) by decide) (F_n F473 (show ¬ (77 < 0) by decide) (F_n F455 (show ¬ (77 = 77 ∧ (15 = 4 ∨ 15 = 5)) by decide) (F_n F110 (show ¬ (77 = 77 ∧ 7 ≤ 15 ∧ 15 ≤ 10) by decide) (F_n F64 (show ¬ (77 = 77 ∧ 7 ≤ 15 ∧ 15 ≤ 10) by decide) c_50))))))))))))
                      refine tt_gI (pc := 374) rw_170_374 (g_o hG539 rfl) (v := (M.2.1 77 15)) c_541 (to_c (pc := 377) rw_170_377 (x := (1 : Int32)) rfl rfl (s_add (pc := 378) rw_170_378 (A := (M.2.1 77 15).toInt) (B := 1) rfl rfl (by omega) (fun v542 e543 => s_pI (pc := 379) rw_170_379 hG539 rfl (fun M545 W544 => ?_))))
                      have hG546 := g_w hG539 W544 (A := v542.toInt) rfl (lo := 0) (hi := 8) rfl rfl (by omega) (by decide)
                      have F547 := FR.w F540 W544 (show 77 = 77 ∧ (15 = 4 ∨ 15 = 5 ∨ 7 ≤ 15 ∧ 15 ≤ 10 ∨ 15 = 15 ∨ 15 = 25) ∨ 80 ≤ 77 ∧ 77 ≤ 84 ∧ 8 ≤ 15 by decide)
                      refine to_c (pc := 382) rw_170_382 (x := (1 : Int32)) rfl rfl (s_r1 (pc := 383) rw_170_383 (A := 1) rfl (by decide) ?_)
                      have k_548 : (1 : Int32).toInt = 1 := rfl
                      have j_549 := (RS_f (fun a i z => W_n W544 (tg_52 a i z) rfl) (RS_f (fun a i z => W_n W537 (tg_53 a i _ z) rfl) (RS_f (fun a i z => W_n W533 (tg_54 a i _ z) rfl) (RS_f (fun a i z => W_n W529 (tg_55 a i _ z) rfl) (RS_f (fun a i z => W_n W525 (tg_56 a i _ z) rfl) (RS_f (fun a i z => W_n W521 (tg_57 a i _ z) rfl) (RS_f (fun a i z => W_l W517 rfl) (RS_f (tg_45 F511) p_499.1))))))))
                      have c_550 : M545.2.1 77 10 = (M500.2.1 77 10) := (W_n W544 (by decide) (W_n W537 (fun z => absurd z.1 (by decide)) (W_n W533 (fun z => absurd z.1 (by decide)) (W_n W529 (fun z => absurd z.1 (by decide)) (W_n W525 (fun z => absurd z.1 (by decide)) (W_n W521 (fun z => absurd z.1 (by decide)) (W_l W517 (F_n F511 (show ¬ (77 < 0) by decide) rfl))))))))
                      have t_551 : (M545.2.1 77 10).toInt = (M500.2.1 77 10).toInt := congrArg Int32.toInt c_550
                      have z_552 : x_fC t nn sg (x_ns t nn a) := by unfold x_fC; omega
                      have k_553 : (10 : Int32).toInt = 10 := rfl
                      have z_554 := (x_or_r q7 (p_513.trans (x_bw_v (by omega) (by omega))) : _ = _ ||| x_bw (x_val t nn (x_ns t nn (x_ns t nn (x_ns t nn a)))) ((x_val t nn (x_ns t nn (x_ns t nn (x_ns t nn a)))) + ((x_kx (x_val t nn (x_ns t nn (x_ns t nn a)))) - 1)))
                      have z_555 := PLr_p (nm := (x_val t nn (x_ns t nn a))) (kd := ((x_kx (x_val t nn (x_ns t nn (x_ns t nn a)))) - 3)) (f := (x_val t nn (x_ns t nn (x_ns t nn (x_ns t nn a))))) (l := ((x_val t nn (x_ns t nn (x_ns t nn (x_ns t nn a)))) + ((x_kx (x_val t nn (x_ns t nn (x_ns t nn a)))) - 1))) (c := 10) j_516 W517 W521 W525 W529 W533 W537 W544 (by omega) z_554 (by omega) (by omega) (by omega) (by omega) (by omega) (by omega) (by omega) (by omega) (by omega) (by omega) (by omega)
                      have j_556 := (CWr_f (fun k hk9 => W_j W544 rfl) (CWr_f (fun k hk9 => W_j W537 rfl) (CWr_f (fun k hk9 => W_j W533 rfl) (CWr_f (fun k hk9 => W_j W529 rfl) (CWr_f (fun k hk9 => W_j W525 rfl) (CWr_f (fun k hk9 => W_j W521 rfl) (CWr_f (fun k hk9 => L_n W517 (by omega) rfl) (CWr_f (fun k hk9 => F_nl F511 (show ¬ (87 < 0) by decide) rfl) (CWr_f (fun k hk9 => F_nl F494 (show ¬ (87 = 77 ∧ 7 ≤ (12 + k) ∧ (12 + k) ≤ 10) by omega) rfl) (CWr_f (fun k hk9 => F_nl F473 (show ¬ (87 < 0) by decide) rfl) (CWr_f (fun k hk9 => F_nl F455 (show ¬ (87 = 77 ∧ ((12 + k) = 4 ∨ (12 + k) = 5)) by omega) rfl) (CWr_f (fun k hk9 => F_nl F110 (show ¬ (87 = 77 ∧ 7 ≤ (12 + k) ∧ (12 + k) ≤ 10) by omega) rfl) (CWr_f (fun k hk9 => F_nl F64 (show ¬ (87 = 77 ∧ 7 ≤ (12 + k) ∧ (12 + k) ≤ 10) by omega) rfl) (CWr_f (fun k hk9 => F_nl F35 (show ¬ (87 = 77 ∧ ((12 + k) = 4 ∨ (12 + k) = 5)) by omega) rfl) (CWr_f (fun k hk9 => F_nl F19 (show ¬ (87 = 77 ∧ 7 ≤ (12 + k) ∧ (12 + k) ≤ 10) by omega) rfl) q8)))))))))))))))
                      exact h (1 : Int32) M545 hG546 F547 (by decide) (by decide) j_549 (fun z => absurd z (by decide)) (fun _ => ⟨_, (by rw [show (M545.2.1 77 10).toInt = (x_ns t nn (x_ns t nn (x_ns t nn (x_ns t nn a)))) by omega]; exact x_field_d z_552 (by omega)), ⟨z_555, CWr_p j_556⟩, (by show sg.2.1 + 1 + sg.2.2.1 = _; omega)⟩)
                    · refine to_an (pc := 169) rw_170_169 rfl (to_c (pc := 170) rw_170_170 (x := (3 : Int32)) rfl rfl (s_v (pc := 171) rw_170_171 (dp0 hd (by decide)) (ls0 := [.ref 77, .int (3 : Int32)]) rfl (Nat.le_of_ble_eq_true rfl) (Nat.le_of_ble_eq_true rfl) rfl (to_rc rfl rfl rfl (g_o hG474 rfl)) rfl (to_an (pc := 0) rw_152_0 rfl (to_in (pc := 1) rw_152_1 rfl (s_pI (pc := 2) rw_152_2 hG474 rfl (fun M558 W557 => ?_))))))
                      have hG559 := g_wf hG474 W557 rfl rfl (by decide)
                      have F560 := FR.w F477 W557 (show 77 = 77 ∧ (4 = 4 ∨ 4 = 5 ∨ 7 ≤ 4 ∧ 4 ≤ 10 ∨ 4 = 15 ∨ 4 = 25) ∨ 80 ≤ 77 ∧ 77 ≤ 84 ∧ 8 ≤ 4 by decide)
                      refine to_an (pc := 5) rw_152_5 rfl (to_an (pc := 6) rw_152_6 rfl ?_)
                      have c_561 : M558.2.1 77 10 = (M116.2.1 77 10) := (W_n W557 (by decide) (F_n F473 (show ¬ (77 < 0) by decide) (F_n F455 (show ¬ (77 = 77 ∧ (10 = 4 ∨ 10 = 5)) by decide) rfl)))
                      refine tt_gI (pc := 7) rw_152_7 (g_o hG559 rfl) (v := (M116.2.1 77 10)) c_561 (s_pI (pc := 10) rw_152_10 hG559 rfl (fun M563 W562 => ?_))
                      have hG564 := g_wf hG559 W562 rfl rfl (by decide)
                      have F565 := FR.w F560 W562 (show 77 = 77 ∧ (5 = 4 ∨ 5 = 5 ∨ 7 ≤ 5 ∧ 5 ≤ 10 ∨ 5 = 15 ∨ 5 = 25) ∨ 80 ≤ 77 ∧ 77 ≤ 84 ∧ 8 ≤ 5 by decide)
                      refine to_c (pc := 13) rw_152_13 (x := (0 : Int32)) rfl rfl (s_r1 (pc := 14) rw_152_14 (A := 0) rfl (by decide) (s_r1 (pc := 174) rw_170_174 (A := 0) rfl (by decide) ?_))
                      have j_566 := (RS_f (fun a i z => W_n W562 (tg_37 a i z) rfl) (RS_f (fun a i z => W_n W557 (tg_38 a i z) rfl) (RS_f (tg_45 F473) (RS_f (tg_40 F455) p_115.1))))
                      exact h (0 : Int32) M563 hG564 F565 (by decide) (by decide) j_566 (fun _ => x_field_n (fun h9 => by unfold x_fC at h9; omega)) (fun z => absurd z (by decide))
              · refine to_c (pc := 96) rw_170_96 (x := (1 : Int32)) rfl rfl (to_go (pc := 97) rw_170_97 (to_is (pc := 101) rw_170_101 (ls2 := [.ref 77, .int v51, .int (M25.2.1 77 9), .int v105, .int (1 : Int32), .null, .null, .null, .null]) rfl rfl (to_in (pc := 103) rw_170_103 rfl (to_c (pc := 104) rw_170_104 (x := (1 : Int32)) rfl rfl (b_cne_t (pc := 105) rw_170_105 (A := v105.toInt) (B := 1) rfl rfl (by omega) (to_in (pc := 112) rw_170_112 rfl (to_c (pc := 113) rw_170_113 (x := (2 : Int32)) rfl rfl (b_cne_t (pc := 114) rw_170_114 (A := v105.toInt) (B := 2) rfl rfl (by omega) (to_c (pc := 121) rw_170_121 (x := (0 : Int32)) rfl rfl (to_is (pc := 122) rw_170_122 (ls2 := [.ref 77, .int v51, .int (M25.2.1 77 9), .int v105, .int (1 : Int32), .int (0 : Int32), .null, .null, .null]) rfl rfl (to_an (pc := 124) rw_170_124 rfl ?_)))))))))))
                refine to_c (pc := 125) rw_170_125 (x := (0 : Int32)) rfl rfl (to_an (pc := 126) rw_170_126 rfl ?_)
                have c_567 : M116.2.1 77 14 = (M.2.1 77 14) := (F_n F110 (show ¬ (77 = 77 ∧ 7 ≤ 14 ∧ 14 ≤ 10) by decide) (F_n F64 (show ¬ (77 = 77 ∧ 7 ≤ 14 ∧ 14 ≤ 10) by decide) (F_n F35 (show ¬ (77 = 77 ∧ (14 = 4 ∨ 14 = 5)) by decide) (F_n F19 (show ¬ (77 = 77 ∧ 7 ≤ 14 ∧ 14 ≤ 10) by decide) rfl))))
                refine tt_gI (pc := 127) rw_170_127 (g_o hG111 rfl) (v := (M.2.1 77 14)) c_567 (to_c (pc := 130) rw_170_130 (x := (1 : Int32)) rfl rfl (s_sub (pc := 131) rw_170_131 (A := (M.2.1 77 14).toInt) (B := 1) rfl rfl (by omega) (fun v568 e569 => to_i (pc := 132) rw_170_132 rfl (s_sub (pc := 134) rw_170_134 (A := v568.toInt) (B := 0) rfl rfl (by omega) (fun v570 e571 => s_v (pc := 135) rw_170_135 (dp0 hd (by decide)) (ls0 := [.ref 77, .int (0 : Int32), .int v570]) rfl (Nat.le_of_ble_eq_true rfl) (Nat.le_of_ble_eq_true rfl) rfl (to_rc rfl rfl rfl (g_o hG111 rfl)) rfl ?_)))))
                have k_572 : (0 : Int32).toInt = 0 := rfl
                refine E_162 hX (dp1 hd (by decide)) hG111 p_115.1 (by omega) (by omega) (l := (0 : Int32)) (m := v570) (t := t) (nn := nn) (a := (x_ns t nn (x_ns t nn (x_ns t nn a)))) (fun r573 M580 hG575 F574 p_576 p_577 p_578 p_579 => ?_)
                have F581 := FR.c F117 F574 tg_50
                rcases (show r573.toInt = 0 ∨ r573.toInt = 1 by omega) with h582 | h582
                · skip
                  have p_583 := p_579 (by omega)
                  clear p_578 p_579
                  have z_584 := x_val_b (t := t) (nn := nn) (a := (x_ns t nn (x_ns t nn (x_ns t nn a))))
                  refine b_ine_f (pc := 138) rw_170_138 (A := r573.toInt) rfl (by omega) (to_c (pc := 141) rw_170_141 (x := (0 : Int32)) rfl rfl (s_r1 (pc := 142) rw_170_142 (A := 0) rfl (by decide) ?_))
                  have j_585 := (RS_f (tg_40 F574) p_115.1)
                  exact h (0 : Int32) M580 hG575 F581 (by decide) (by decide) j_585 (fun _ => x_field_n (fun h9 => by unfold x_fC at h9; omega)) (fun z => absurd z (by decide))
                · skip
                  have p_586 := p_578 (by omega)
                  clear p_578 p_579
                  have c_587 : M580.2.1 77 9 = (M116.2.1 77 9) := (F_n F574 (show ¬ (77 = 77 ∧ (9 = 4 ∨ 9 = 5)) by decide) rfl)
                  have z_588 := x_val_b (t := t) (nn := nn) (a := (x_ns t nn (x_ns t nn (x_ns t nn a)))) (by omega)
                  refine b_ine_t (pc := 138) rw_170_138 (A := r573.toInt) rfl (by omega) (to_an (pc := 143) rw_170_143 rfl (tt_gI (pc := 144) rw_170_144 (g_o hG575 rfl) (v := (M116.2.1 77 9)) c_587 (to_is (pc := 147) rw_170_147 (ls2 := [.ref 77, .int v51, .int (M25.2.1 77 9), .int v105, .int (1 : Int32), .int (0 : Int32), .int (M116.2.1 77 9), .null, .null]) rfl rfl (to_an (pc := 149) rw_170_149 rfl (tt_gJ (pc := 150) rw_170_150 (g_o hG575 rfl) (v := (M.2.2.1 77 25)) (F_nl F574 (show ¬ (77 = 77 ∧ (25 = 4 ∨ 25 = 5)) by decide) (F_nl F110 (show ¬ (77 = 77 ∧ 7 ≤ 25 ∧ 25 ≤ 10) by decide) (F_nl F64 (show ¬ (77 = 77 ∧ 7 ≤ 25 ∧ 25 ≤ 10) by decide) (F_nl F35 (show ¬ (77 = 77 ∧ (25 = 4 ∨ 25 = 5)) by decide) (F_nl F19 (show ¬ (77 = 77 ∧ 7 ≤ 25 ∧ 25 ≤ 10) by decide) rfl))))) (to_i (pc := 153) rw_170_153 rfl (to_i (pc := 155) rw_170_155 rfl (to_i (pc := 157) rw_170_157 rfl (s_add (pc := 159) rw_170_159 (A := (M116.2.1 77 9).toInt) (B := 0) rfl rfl (by omega) (fun v589 e590 => s_s (pc := 160) rw_170_160 (dp0 hd (by decide)) (ls0 := [.int (M116.2.1 77 9), .int v589, .null, .null, .null]) rfl (Nat.le_of_ble_eq_true rfl) (Nat.le_of_ble_eq_true rfl) rfl (to_rcs rfl rfl) rfl (E_168 hX (dp1 hd (by decide)) hG575 (by omega) (by omega) (by omega) (by omega) (by omega) (a := (M116.2.1 77 9)) (b := v589) (fun r591 M595 hG593 F592 p_594 => ?_))))))))))))
                  have F596 := FR.c F581 F592 tg_51
                  refine to_2l (pc := 163) rw_170_163 (v := ((M.2.2.1 77 25) &&& r591)) rfl (to_cl (pc := 164) rw_170_164 rfl (x := (0 : Int64)) rfl (s_lcmpE (pc := 165) rw_170_165 (fun v597 e598 => ?_)))
                  have b_599 := x_eq_b (x := ((M.2.2.1 77 25) &&& r591)) (y := (0 : Int64))
                  have z_600 := x_free_r q7 p_594
                  have z_601 := x_free_v (s := sg) (f := (M116.2.1 77 9).toInt) (l := v589.toInt) (f2 := (x_val t nn (x_ns t nn (x_ns t nn (x_ns t nn a))))) (l2 := (x_val t nn (x_ns t nn (x_ns t nn (x_ns t nn a))))) (by omega) (by omega)
                  refine b_ieq (pc := 166) rw_170_166 (A := v597.toInt) rfl (fun h602 => ?_) (fun h602 => ?_)
                  · refine to_an (pc := 175) rw_170_175 rfl (s_v (pc := 176) rw_170_176 (dp0 hd (by decide)) (ls0 := [.ref 77]) rfl (Nat.le_of_ble_eq_true rfl) (Nat.le_of_ble_eq_true rfl) rfl (to_rc rfl rfl rfl (g_o hG593 rfl)) rfl ?_)
                    have c_603 : M595.2.1 77 7 = (M116.2.1 77 7) := (F_n F592 (show ¬ (77 < 0) by decide) (F_n F574 (show ¬ (77 = 77 ∧ (7 = 4 ∨ 7 = 5)) by decide) rfl))
                    have t_604 : (M595.2.1 77 7).toInt = (M116.2.1 77 7).toInt := congrArg Int32.toInt c_603
                    have c_605 : M595.2.1 77 6 = (M.2.1 77 6) := (F_n F592 (show ¬ (77 < 0) by decide) (F_n F574 (show ¬ (77 = 77 ∧ (6 = 4 ∨ 6 = 5)) by decide) c_119))
                    have t_606 : (M595.2.1 77 6).toInt = (M.2.1 77 6).toInt := congrArg Int32.toInt c_605
                    have c_607 : M595.2.1 77 10 = (M116.2.1 77 10) := (F_n F592 (show ¬ (77 < 0) by decide) (F_n F574 (show ¬ (77 = 77 ∧ (10 = 4 ∨ 10 = 5)) by decide) rfl))
                    have t_608 : (M595.2.1 77 10).toInt = (M116.2.1 77 10).toInt := congrArg Int32.toInt c_607
                    have j_609 := (RS_f (tg_45 F592) (RS_f (tg_40 F574) p_115.1))
                    have z_610 := RS_b j_609 (a := (x_ns t nn (x_ns t nn (x_ns t nn a)))) (by omega)
                    have j_611 := (TR_f (tg_9 F592) (TR_f (tg_41 F574) (TR_f (tg_42 F110) j_108)))
                    have j_612 := (W9_f (tg_46 F592) (W9_f (tg_43 F574) (W9_f (tg_44 F110) j_109)))
                    refine E_156 hX (dp1 hd (by decide)) hG593 (by omega) (by omega) (by omega) (by omega) j_611 j_612  (fun M619 hG614 F613 p_615 p_616 p_617 p_618 => ?_)
                    have F620 := FR.c F596 F613 tg_49
                    have b_621 := g_b hG614 (a := 77) (i := 7) (lo := 0) (hi := 500) rfl rfl
                    have c_622 : M619.2.1 77 6 = (M.2.1 77 6) := (F_n F613 (show ¬ (77 = 77 ∧ 7 ≤ 6 ∧ 6 ≤ 10) by decide) c_605)
                    have t_623 : (M619.2.1 77 6).toInt = (M.2.1 77 6).toInt := congrArg Int32.toInt c_622
                    have b_624 := g_b hG614 (a := 77) (i := 8) (lo := 0) (hi := 5) rfl rfl
                    have b_625 := g_b hG614 (a := 77) (i := 10) (lo := 0) (hi := 500) rfl rfl
                    have z_626 := RS_s p_618.2 (a := (x_ns t nn (x_ns t nn (x_ns t nn a)))) (by omega)
                    refine to_i (pc := 179) rw_170_179 rfl (to_i (pc := 181) rw_170_181 rfl (s_add (pc := 183) rw_170_183 (A := (M116.2.1 77 9).toInt) (B := 0) rfl rfl (by omega) (fun v627 e628 => to_is (pc := 184) rw_170_184 (ls2 := [.ref 77, .int v51, .int (M25.2.1 77 9), .int v105, .int (1 : Int32), .int (0 : Int32), .int (M116.2.1 77 9), .int v627, .null]) rfl rfl (to_c (pc := 186) rw_170_186 (x := (10 : Int32)) rfl rfl (to_is (pc := 188) rw_170_188 (ls2 := [.ref 77, .int v51, .int (M25.2.1 77 9), .int v105, .int (1 : Int32), .int (0 : Int32), .int (M116.2.1 77 9), .int v627, .int (10 : Int32)]) rfl rfl (to_i (pc := 190) rw_170_190 rfl (b_ieq_f (pc := 192) rw_170_192 (A := 1) rfl (by decide) (to_an (pc := 195) rw_170_195 rfl (to_in (pc := 196) rw_170_196 rfl (b_ine_t (pc := 197) rw_170_197 (A := v105.toInt) rfl (by omega) (to_i (pc := 207) rw_170_207 rfl ?_)))))))))))
                    refine to_an (pc := 209) rw_170_209 rfl ?_
                    have c_629 : M619.2.1 77 14 = (M.2.1 77 14) := (F_n F613 (show ¬ (77 = 77 ∧ 7 ≤ 14 ∧ 14 ≤ 10) by decide) (F_n F592 (show ¬ (77 < 0) by decide) (F_n F574 (show ¬ (77 = 77 ∧ (14 = 4 ∨ 14 = 5)) by decide) c_567)))
                    refine tt_gI (pc := 210) rw_170_210 (g_o hG614 rfl) (v := (M.2.1 77 14)) c_629 (to_c (pc := 213) rw_170_213 (x := (1 : Int32)) rfl rfl (s_sub (pc := 214) rw_170_214 (A := (M.2.1 77 14).toInt) (B := 1) rfl rfl (by omega) (fun v630 e631 => s_v (pc := 215) rw_170_215 (dp0 hd (by decide)) (ls0 := [.ref 77, .int (M116.2.1 77 9), .int v630]) rfl (Nat.le_of_ble_eq_true rfl) (Nat.le_of_ble_eq_true rfl) rfl (to_rc rfl rfl rfl (g_o hG614 rfl)) rfl (E_162 hX (dp1 hd (by decide)) hG614 p_618.1 (by omega) (by omega) (l := (M116.2.1 77 9)) (m := v630) (t := t) (nn := nn) (a := (x_ns t nn (x_ns t nn (x_ns t nn (x_ns t nn a))))) (fun r632 M639 hG634 F633 p_635 p_636 p_637 p_638 => ?_)))))
                    have F640 := FR.c F620 F633 tg_50
                    rcases (show r632.toInt = 0 ∨ r632.toInt = 1 by omega) with h641 | h641
                    · skip
                      have p_642 := p_638 (by omega)
                      clear p_637 p_638
                      have z_643 := x_val_b (t := t) (nn := nn) (a := (x_ns t nn (x_ns t nn (x_ns t nn (x_ns t nn a)))))
                      refine b_ine_f (pc := 218) rw_170_218 (A := r632.toInt) rfl (by omega) (to_c (pc := 221) rw_170_221 (x := (0 : Int32)) rfl rfl (s_r1 (pc := 222) rw_170_222 (A := 0) rfl (by decide) ?_))
                      have j_644 := (RS_f (tg_40 F633) p_618.1)
                      exact h (0 : Int32) M639 hG634 F640 (by decide) (by decide) j_644 (fun _ => x_field_n (fun h9 => by unfold x_fC at h9; omega)) (fun z => absurd z (by decide))
                    · skip
                      have p_645 := p_637 (by omega)
                      clear p_637 p_638
                      have c_646 : M639.2.1 77 9 = (M619.2.1 77 9) := (F_n F633 (show ¬ (77 = 77 ∧ (9 = 4 ∨ 9 = 5)) by decide) rfl)
                      have z_647 := x_val_b (t := t) (nn := nn) (a := (x_ns t nn (x_ns t nn (x_ns t nn (x_ns t nn a))))) (by omega)
                      refine b_ine_t (pc := 218) rw_170_218 (A := r632.toInt) rfl (by omega) (to_an (pc := 223) rw_170_223 rfl (tt_gI (pc := 224) rw_170_224 (g_o hG634 rfl) (v := (M619.2.1 77 9)) c_646 (to_is (pc := 227) rw_170_227 (ls2 := [.ref 77, .int v51, .int (M25.2.1 77 9), .int v105, .int (1 : Int32), .int (0 : Int32), .int (M116.2.1 77 9), .int (M619.2.1 77 9), .int (10 : Int32)]) rfl rfl (to_i (pc := 229) rw_170_229 rfl (to_i (pc := 231) rw_170_231 rfl (s_sub (pc := 233) rw_170_233 (A := (M619.2.1 77 9).toInt) (B := (M116.2.1 77 9).toInt) rfl rfl (by omega) (fun v648 e649 => to_c (pc := 234) rw_170_234 (x := (23 : Int32)) rfl rfl (b_cle (pc := 236) rw_170_236 (A := v648.toInt) (B := 23) rfl rfl (fun h650 => ?_) (fun h650 => ?_)))))))))
                      · refine to_an (pc := 245) rw_170_245 rfl (tt_gJ (pc := 246) rw_170_246 (g_o hG634 rfl) (v := (M.2.2.1 77 25)) (F_nl F633 (show ¬ (77 = 77 ∧ (25 = 4 ∨ 25 = 5)) by decide) (F_nl F613 (show ¬ (77 = 77 ∧ 7 ≤ 25 ∧ 25 ≤ 10) by decide) (F_nl F592 (show ¬ (77 < 0) by decide) (F_nl F574 (show ¬ (77 = 77 ∧ (25 = 4 ∨ 25 = 5)) by decide) (F_nl F110 (show ¬ (77 = 77 ∧ 7 ≤ 25 ∧ 25 ≤ 10) by decide) (F_nl F64 (show ¬ (77 = 77 ∧ 7 ≤ 25 ∧ 25 ≤ 10) by decide) (F_nl F35 (show ¬ (77 = 77 ∧ (25 = 4 ∨ 25 = 5)) by decide) (F_nl F19 (show ¬ (77 = 77 ∧ 7 ≤ 25 ∧ 25 ≤ 10) by decide) rfl)))))))) (to_i (pc := 249) rw_170_249 rfl (to_i (pc := 251) rw_170_251 rfl (s_s (pc := 253) rw_170_253 (dp0 hd (by decide)) (ls0 := [.int (M116.2.1 77 9), .int (M619.2.1 77 9), .null, .null, .null]) rfl (Nat.le_of_ble_eq_true rfl) (Nat.le_of_ble_eq_true rfl) rfl (to_rcs rfl rfl) rfl (E_168 hX (dp1 hd (by decide)) hG634 (by omega) (by omega) (by omega) (by omega) (by omega) (a := (M116.2.1 77 9)) (b := (M619.2.1 77 9)) (fun r651 M655 hG653 F652 p_654 => ?_))))))
                        have F656 := FR.c F640 F652 tg_51
                        refine to_2l (pc := 256) rw_170_256 (v := ((M.2.2.1 77 25) &&& r651)) rfl (to_cl (pc := 257) rw_170_257 rfl (x := (0 : Int64)) rfl (s_lcmpE (pc := 258) rw_170_258 (fun v657 e658 => ?_)))
                        have b_659 := x_eq_b (x := ((M.2.2.1 77 25) &&& r651)) (y := (0 : Int64))
                        have z_660 := x_free_r q7 p_654
                        have z_661 := x_free_v (s := sg) (f := (M116.2.1 77 9).toInt) (l := (M619.2.1 77 9).toInt) (f2 := (x_val t nn (x_ns t nn (x_ns t nn (x_ns t nn a))))) (l2 := (x_val t nn (x_ns t nn (x_ns t nn (x_ns t nn (x_ns t nn a)))))) (by omega) (by omega)
                        refine b_ieq (pc := 259) rw_170_259 (A := v657.toInt) rfl (fun h662 => ?_) (fun h662 => ?_)
                        · refine to_an (pc := 268) rw_170_268 rfl (s_v (pc := 269) rw_170_269 (dp0 hd (by decide)) (ls0 := [.ref 77]) rfl (Nat.le_of_ble_eq_true rfl) (Nat.le_of_ble_eq_true rfl) rfl (to_rc rfl rfl rfl (g_o hG653 rfl)) rfl ?_)
                          have c_663 : M655.2.1 77 7 = (M619.2.1 77 7) := (F_n F652 (show ¬ (77 < 0) by decide) (F_n F633 (show ¬ (77 = 77 ∧ (7 = 4 ∨ 7 = 5)) by decide) rfl))
                          have t_664 : (M655.2.1 77 7).toInt = (M619.2.1 77 7).toInt := congrArg Int32.toInt c_663
                          have c_665 : M655.2.1 77 6 = (M.2.1 77 6) := (F_n F652 (show ¬ (77 < 0) by decide) (F_n F633 (show ¬ (77 = 77 ∧ (6 = 4 ∨ 6 = 5)) by decide) c_622))
                          have t_666 : (M655.2.1 77 6).toInt = (M.2.1 77 6).toInt := congrArg Int32.toInt c_665
                          have c_667 : M655.2.1 77 10 = (M619.2.1 77 10) := (F_n F652 (show ¬ (77 < 0) by decide) (F_n F633 (show ¬ (77 = 77 ∧ (10 = 4 ∨ 10 = 5)) by decide) rfl))
                          have t_668 : (M655.2.1 77 10).toInt = (M619.2.1 77 10).toInt := congrArg Int32.toInt c_667
                          have j_669 := (RS_f (tg_45 F652) (RS_f (tg_40 F633) p_618.1))
                          have z_670 := RS_b j_669 (a := (x_ns t nn (x_ns t nn (x_ns t nn (x_ns t nn a))))) (by omega)
                          have j_671 := (TR_f (tg_9 F652) (TR_f (tg_41 F633) (TR_f (tg_42 F613) j_611)))
                          have j_672 := (W9_f (tg_46 F652) (W9_f (tg_43 F633) (W9_f (tg_44 F613) j_612)))
                          refine E_156 hX (dp1 hd (by decide)) hG653 (by omega) (by omega) (by omega) (by omega) j_671 j_672  (fun M679 hG674 F673 p_675 p_676 p_677 p_678 => ?_)
                          have F680 := FR.c F656 F673 tg_49
                          have b_681 := g_b hG674 (a := 77) (i := 7) (lo := 0) (hi := 500) rfl rfl
                          have c_682 : M679.2.1 77 6 = (M.2.1 77 6) := (F_n F673 (show ¬ (77 = 77 ∧ 7 ≤ 6 ∧ 6 ≤ 10) by decide) c_665)
                          have t_683 : (M679.2.1 77 6).toInt = (M.2.1 77 6).toInt := congrArg Int32.toInt c_682
                          have b_684 := g_b hG674 (a := 77) (i := 8) (lo := 0) (hi := 5) rfl rfl
                          have b_685 := g_b hG674 (a := 77) (i := 10) (lo := 0) (hi := 500) rfl rfl
                          have z_686 := RS_s p_678.2 (a := (x_ns t nn (x_ns t nn (x_ns t nn (x_ns t nn a))))) (by omega)
                          refine to_i (pc := 272) rw_170_272 rfl (to_i (pc := 274) rw_170_274 rfl (s_sub (pc := 276) rw_170_276 (A := (M619.2.1 77 9).toInt) (B := (M116.2.1 77 9).toInt) rfl rfl (by omega) (fun v687 e688 => to_c (pc := 277) rw_170_277 (x := (1 : Int32)) rfl rfl (s_add (pc := 278) rw_170_278 (A := v687.toInt) (B := 1) rfl rfl (by omega) (fun v689 e690 => to_is (pc := 279) rw_170_279 (ls2 := [.ref 77, .int v51, .int (M25.2.1 77 9), .int v105, .int (1 : Int32), .int (0 : Int32), .int (M116.2.1 77 9), .int (M619.2.1 77 9), .int v689]) rfl rfl (to_in (pc := 281) rw_170_281 rfl (to_c (pc := 282) rw_170_282 (x := (3 : Int32)) rfl rfl (b_cne_f (pc := 283) rw_170_283 (A := v105.toInt) (B := 3) rfl rfl (by omega) (to_an (pc := 286) rw_170_286 rfl (to_c (pc := 287) rw_170_287 (x := (1 : Int32)) rfl rfl (to_i (pc := 288) rw_170_288 rfl ?_)))))))))))
                          refine to_c (pc := 290) rw_170_290 (x := (4 : Int32)) rfl rfl (b_cge (pc := 291) rw_170_291 (A := v689.toInt) (B := 4) rfl rfl (fun h691 => ?_) (fun h691 => ?_))
                          · refine to_c (pc := 299) rw_170_299 (x := (4 : Int32)) rfl rfl (s_v (pc := 300) rw_170_300 (dp0 hd (by decide)) (ls0 := [.ref 77, .int (1 : Int32), .int (4 : Int32)]) rfl (Nat.le_of_ble_eq_true rfl) (Nat.le_of_ble_eq_true rfl) rfl (to_rc rfl rfl rfl (g_o hG674 rfl)) rfl ?_)
                            have k_692 : (1 : Int32).toInt = 1 := rfl
                            have k_693 : (4 : Int32).toInt = 4 := rfl
                            refine E_162 hX (dp1 hd (by decide)) hG674 p_678.1 (by omega) (by omega) (l := (1 : Int32)) (m := (4 : Int32)) (t := t) (nn := nn) (a := (x_ns t nn (x_ns t nn (x_ns t nn (x_ns t nn (x_ns t nn a)))))) (fun r694 M701 hG696 F695 p_697 p_698 p_699 p_700 => ?_)
                            have F702 := FR.c F680 F695 tg_50
                            rcases (show r694.toInt = 0 ∨ r694.toInt = 1 by omega) with h703 | h703
                            · skip
                              have p_704 := p_700 (by omega)
                              clear p_699 p_700
                              have z_705 := x_val_b (t := t) (nn := nn) (a := (x_ns t nn (x_ns t nn (x_ns t nn (x_ns t nn (x_ns t nn a))))))
                              refine b_ine_f (pc := 303) rw_170_303 (A := r694.toInt) rfl (by omega) (to_c (pc := 306) rw_170_306 (x := (0 : Int32)) rfl rfl (s_r1 (pc := 307) rw_170_307 (A := 0) rfl (by decide) ?_))
                              have j_706 := (RS_f (tg_40 F695) p_678.1)
                              exact h (0 : Int32) M701 hG696 F702 (by decide) (by decide) j_706 (fun _ => x_field_n (fun h9 => by unfold x_fC at h9; omega)) (fun z => absurd z (by decide))
                            · skip
                              have p_707 := p_699 (by omega)
                              clear p_699 p_700
                              have c_708 : M701.2.1 77 9 = (M679.2.1 77 9) := (F_n F695 (show ¬ (77 = 77 ∧ (9 = 4 ∨ 9 = 5)) by decide) rfl)
                              have z_709 := x_val_b (t := t) (nn := nn) (a := (x_ns t nn (x_ns t nn (x_ns t nn (x_ns t nn (x_ns t nn a)))))) (by omega)
                              refine b_ine_t (pc := 303) rw_170_303 (A := r694.toInt) rfl (by omega) (to_an (pc := 308) rw_170_308 rfl (tt_gI (pc := 309) rw_170_309 (g_o hG696 rfl) (v := (M679.2.1 77 9)) c_708 (to_is (pc := 312) rw_170_312 (ls2 := [.ref 77, .int v51, .int (M25.2.1 77 9), .int v105, .int (1 : Int32), .int (0 : Int32), .int (M116.2.1 77 9), .int (M619.2.1 77 9), .int (M679.2.1 77 9)]) rfl rfl (to_an (pc := 314) rw_170_314 rfl (s_v (pc := 315) rw_170_315 (dp0 hd (by decide)) (ls0 := [.ref 77]) rfl (Nat.le_of_ble_eq_true rfl) (Nat.le_of_ble_eq_true rfl) rfl (to_rc rfl rfl rfl (g_o hG696 rfl)) rfl ?_)))))
                              have c_710 : M701.2.1 77 7 = (M679.2.1 77 7) := (F_n F695 (show ¬ (77 = 77 ∧ (7 = 4 ∨ 7 = 5)) by decide) rfl)
                              have t_711 : (M701.2.1 77 7).toInt = (M679.2.1 77 7).toInt := congrArg Int32.toInt c_710
                              have c_712 : M701.2.1 77 6 = (M.2.1 77 6) := (F_n F695 (show ¬ (77 = 77 ∧ (6 = 4 ∨ 6 = 5)) by decide) c_682)
                              have t_713 : (M701.2.1 77 6).toInt = (M.2.1 77 6).toInt := congrArg Int32.toInt c_712
                              have c_714 : M701.2.1 77 10 = (M679.2.1 77 10) := (F_n F695 (show ¬ (77 = 77 ∧ (10 = 4 ∨ 10 = 5)) by decide) rfl)
                              have t_715 : (M701.2.1 77 10).toInt = (M679.2.1 77 10).toInt := congrArg Int32.toInt c_714
                              have j_716 := (RS_f (tg_40 F695) p_678.1)
                              have z_717 := RS_b j_716 (a := (x_ns t nn (x_ns t nn (x_ns t nn (x_ns t nn (x_ns t nn a)))))) (by omega)
                              have j_718 := (TR_f (tg_41 F695) (TR_f (tg_42 F673) j_671))
                              have j_719 := (W9_f (tg_43 F695) (W9_f (tg_44 F673) j_672))
                              refine E_156 hX (dp1 hd (by decide)) hG696 (by omega) (by omega) (by omega) (by omega) j_718 j_719  (fun M726 hG721 F720 p_722 p_723 p_724 p_725 => ?_)
                              have F727 := FR.c F702 F720 tg_49
                              have b_728 := g_b hG721 (a := 77) (i := 7) (lo := 0) (hi := 500) rfl rfl
                              have c_729 : M726.2.1 77 6 = (M.2.1 77 6) := (F_n F720 (show ¬ (77 = 77 ∧ 7 ≤ 6 ∧ 6 ≤ 10) by decide) c_712)
                              have t_730 : (M726.2.1 77 6).toInt = (M.2.1 77 6).toInt := congrArg Int32.toInt c_729
                              have b_731 := g_b hG721 (a := 77) (i := 8) (lo := 0) (hi := 5) rfl rfl
                              have b_732 := g_b hG721 (a := 77) (i := 10) (lo := 0) (hi := 500) rfl rfl
                              have z_733 := RS_s p_725.2 (a := (x_ns t nn (x_ns t nn (x_ns t nn (x_ns t nn (x_ns t nn a)))))) (by omega)
                              refine to_an (pc := 318) rw_170_318 rfl (to_dupr (pc := 319) rw_170_319 (tt_gJ (pc := 320) rw_170_320 (g_o hG721 rfl) (v := (M.2.2.1 77 25)) (F_nl F720 (show ¬ (77 = 77 ∧ 7 ≤ 25 ∧ 25 ≤ 10) by decide) (F_nl F695 (show ¬ (77 = 77 ∧ (25 = 4 ∨ 25 = 5)) by decide) (F_nl F673 (show ¬ (77 = 77 ∧ 7 ≤ 25 ∧ 25 ≤ 10) by decide) (F_nl F652 (show ¬ (77 < 0) by decide) (F_nl F633 (show ¬ (77 = 77 ∧ (25 = 4 ∨ 25 = 5)) by decide) (F_nl F613 (show ¬ (77 = 77 ∧ 7 ≤ 25 ∧ 25 ≤ 10) by decide) (F_nl F592 (show ¬ (77 < 0) by decide) (F_nl F574 (show ¬ (77 = 77 ∧ (25 = 4 ∨ 25 = 5)) by decide) (F_nl F110 (show ¬ (77 = 77 ∧ 7 ≤ 25 ∧ 25 ≤ 10) by decide) (F_nl F64 (show ¬ (77 = 77 ∧ 7 ≤ 25 ∧ 25 ≤ 10) by decide) (F_nl F35 (show ¬ (77 = 77 ∧ (25 = 4 ∨ 25 = 5)) by decide) (F_nl F19 (show ¬ (77 = 77 ∧ 7 ≤ 25 ∧ 25 ≤ 10) by decide) rfl)))))))))))) (to_i (pc := 323) rw_170_323 rfl (to_i (pc := 325) rw_170_325 rfl (s_s (pc := 327) rw_170_327 (dp0 hd (by decide)) (ls0 := [.int (M116.2.1 77 9), .int (M619.2.1 77 9), .null, .null, .null]) rfl (Nat.le_of_ble_eq_true rfl) (Nat.le_of_ble_eq_true rfl) rfl (to_rcs rfl rfl) rfl (E_168 hX (dp1 hd (by decide)) hG721 (by omega) (by omega) (by omega) (by omega) (by omega) (a := (M116.2.1 77 9)) (b := (M619.2.1 77 9)) (fun r734 M738 hG736 F735 p_737 => ?_)))))))
                              have F739 := FR.c F727 F735 tg_51
                              refine to_2l (pc := 330) rw_170_330 (v := ((M.2.2.1 77 25) ||| r734)) rfl ?_
                              have j_740 := (PLr_f (tg_47 F735) (F_nl F735 (show ¬ (77 < 0) by decide) rfl) (PLr_f (tg_39 F720) (F_nl F720 (show ¬ (77 = 77 ∧ 7 ≤ 25 ∧ 25 ≤ 10) by decide) rfl) (PLr_f (tg_48 F695) (F_nl F695 (show ¬ (77 = 77 ∧ (25 = 4 ∨ 25 = 5)) by decide) rfl) (PLr_f (tg_39 F673) (F_nl F673 (show ¬ (77 = 77 ∧ 7 ≤ 25 ∧ 25 ≤ 10) by decide) rfl) (PLr_f (tg_47 F652) (F_nl F652 (show ¬ (77 < 0) by decide) rfl) (PLr_f (tg_48 F633) (F_nl F633 (show ¬ (77 = 77 ∧ (25 = 4 ∨ 25 = 5)) by decide) rfl) (PLr_f (tg_39 F613) (F_nl F613 (show ¬ (77 = 77 ∧ 7 ≤ 25 ∧ 25 ≤ 10) by decide) rfl) (PLr_f (tg_47 F592) (F_nl F592 (show ¬ (77 < 0) by decide) rfl) (PLr_f (tg_48 F574) (F_nl F574 (show ¬ (77 = 77 ∧ (25 = 4 ∨ 25 = 5)) by decide) rfl) (PLr_f (tg_39 F110) (F_nl F110 (show ¬ (77 = 77 ∧ 7 ≤ 25 ∧ 25 ≤ 10) by decide) rfl) (PLr_f (tg_39 F64) (F_nl F64 (show ¬ (77 = 77 ∧ 7 ≤ 25 ∧ 25 ≤ 10) by decide) rfl) (PLr_f (tg_48 F35) (F_nl F35 (show ¬ (77 = 77 ∧ (25 = 4 ∨ 25 = 5)) by decide) rfl) j_33))))))))))))
                              refine s_pJ (pc := 331) rw_170_331 hG736 rfl (fun M742 W741 => ?_)
                              have hG743 := g_wl hG736 W741
                              have F744 := FR.wl F739 W741 (show 77 = 77 ∧ (25 = 4 ∨ 25 = 5 ∨ 7 ≤ 25 ∧ 25 ≤ 10 ∨ 25 = 15 ∨ 25 = 25) ∨ 80 ≤ 77 ∧ 77 ≤ 84 ∧ 8 ≤ 25 by decide)
                              refine to_an (pc := 334) rw_170_334 rfl (s_gR (pc := 335) rw_170_335 hG743 rfl (v := 80) rfl (to_in (pc := 338) rw_170_338 rfl (to_in (pc := 339) rw_170_339 rfl (s_ias (pc := 340) rw_170_340 hG743 rfl (n := 16) rfl (A := v51.toInt) rfl (by omega) (by omega) (fun M746 W745 => ?_)))))
                              have hG747 := g_wf hG743 W745 rfl rfl (by decide)
                              have F748 := FR.w F744 W745 (show 80 = 77 ∧ ((v51.toInt).toNat = 4 ∨ (v51.toInt).toNat = 5 ∨ 7 ≤ (v51.toInt).toNat ∧ (v51.toInt).toNat ≤ 10 ∨ (v51.toInt).toNat = 15 ∨ (v51.toInt).toNat = 25) ∨ 80 ≤ 80 ∧ 80 ≤ 84 ∧ 8 ≤ (v51.toInt).toNat by omega)
                              refine to_an (pc := 341) rw_170_341 rfl (s_gR (pc := 342) rw_170_342 hG747 rfl (v := 81) rfl (to_in (pc := 345) rw_170_345 rfl (to_in (pc := 346) rw_170_346 rfl (s_ias (pc := 347) rw_170_347 hG747 rfl (n := 16) rfl (A := v51.toInt) rfl (by omega) (by omega) (fun M750 W749 => ?_)))))
                              have hG751 := g_w hG747 W749 (A := v105.toInt) rfl (lo := 0) (hi := 3) rfl rfl (by omega) (by decide)
                              have F752 := FR.w F748 W749 (show 81 = 77 ∧ ((v51.toInt).toNat = 4 ∨ (v51.toInt).toNat = 5 ∨ 7 ≤ (v51.toInt).toNat ∧ (v51.toInt).toNat ≤ 10 ∨ (v51.toInt).toNat = 15 ∨ (v51.toInt).toNat = 25) ∨ 80 ≤ 81 ∧ 81 ≤ 84 ∧ 8 ≤ (v51.toInt).toNat by omega)
                              refine to_an (pc := 348) rw_170_348 rfl (s_gR (pc := 349) rw_170_349 hG751 rfl (v := 82) rfl (to_in (pc := 352) rw_170_352 rfl (to_i (pc := 353) rw_170_353 rfl (s_ias (pc := 355) rw_170_355 hG751 rfl (n := 16) rfl (A := v51.toInt) rfl (by omega) (by omega) (fun M754 W753 => ?_)))))
                              have hG755 := g_w hG751 W753 (A := (M116.2.1 77 9).toInt) rfl (lo := 0) (hi := 59) rfl rfl (by omega) (by decide)
                              have F756 := FR.w F752 W753 (show 82 = 77 ∧ ((v51.toInt).toNat = 4 ∨ (v51.toInt).toNat = 5 ∨ 7 ≤ (v51.toInt).toNat ∧ (v51.toInt).toNat ≤ 10 ∨ (v51.toInt).toNat = 15 ∨ (v51.toInt).toNat = 25) ∨ 80 ≤ 82 ∧ 82 ≤ 84 ∧ 8 ≤ (v51.toInt).toNat by omega)
                              refine to_an (pc := 356) rw_170_356 rfl (s_gR (pc := 357) rw_170_357 hG755 rfl (v := 83) rfl (to_in (pc := 360) rw_170_360 rfl (to_i (pc := 361) rw_170_361 rfl (s_ias (pc := 363) rw_170_363 hG755 rfl (n := 16) rfl (A := v51.toInt) rfl (by omega) (by omega) (fun M758 W757 => ?_)))))
                              have hG759 := g_w hG755 W757 (A := (M619.2.1 77 9).toInt) rfl (lo := 0) (hi := 63) rfl rfl (by omega) (by decide)
                              have F760 := FR.w F756 W757 (show 83 = 77 ∧ ((v51.toInt).toNat = 4 ∨ (v51.toInt).toNat = 5 ∨ 7 ≤ (v51.toInt).toNat ∧ (v51.toInt).toNat ≤ 10 ∨ (v51.toInt).toNat = 15 ∨ (v51.toInt).toNat = 25) ∨ 80 ≤ 83 ∧ 83 ≤ 84 ∧ 8 ≤ (v51.toInt).toNat by omega)
                              refine to_an (pc := 364) rw_170_364 rfl (s_gR (pc := 365) rw_170_365 hG759 rfl (v := 84) rfl (to_in (pc := 368) rw_170_368 rfl (to_i (pc := 369) rw_170_369 rfl (s_ias (pc := 371) rw_170_371 hG759 rfl (n := 16) rfl (A := v51.toInt) rfl (by omega) (by omega) (fun M762 W761 => ?_)))))
                              have hG763 := g_w hG759 W761 (A := (M679.2.1 77 9).toInt) rfl (lo := 0) (hi := 24) rfl rfl (by omega) (by decide)
                              have F764 := FR.w F760 W761 (show 84 = 77 ∧ ((v51.toInt).toNat = 4 ∨ (v51.toInt).toNat = 5 ∨ 7 ≤ (v51.toInt).toNat ∧ (v51.toInt).toNat ≤ 10 ∨ (v51.toInt).toNat = 15 ∨ (v51.toInt).toNat = 25) ∨ 80 ≤ 84 ∧ 84 ≤ 84 ∧ 8 ≤ (v51.toInt).toNat by omega)
                              refine to_an (pc := 372) rw_170_372 rfl (to_dupr (pc := 373) rw_170_373 ?_)
                              have c_765 : M762.2.1 77 15 = (M.2.1 77 15) := (W_n W761 (fun z => absurd z.1 (by decide)) (W_n W757 (fun z => absurd z.1 (by decide)) (W_n W753 (fun z => absurd z.1 (by decide)) (W_n W749 (fun z => absurd z.1 (by decide)) (W_n W745 (fun z => absurd z.1 (by decide)) (W_l W741 (F_n F735 (show ¬ (77 < 0) by decide) (F_n F720 (show ¬ (77 = 77 ∧ 7 ≤ 15 ∧ 15 ≤ 10) by decide) (F_n F695 (show ¬ (77 = 77 ∧ (15 = 4 ∨ 15 = 5)) by decide) (F_n F673 (show ¬ (77 = 77 ∧ 7 ≤ 15 ∧ 15 ≤ 10) by decide) (F_n F652 (show ¬ (77 < 0) by decide) (F_n F633 (show ¬ (77 = 77 ∧ (15 = 4 ∨ 15 = 5)) by decide) (F_n F613 (show ¬ (77 = 77 ∧ 7 ≤ 15 ∧ 15 ≤ 10) by decide) (F_n F592 (show ¬ (77 < 0) by decide) (F_n F574 (show ¬ (77 = 77 ∧ (15 = 4 ∨ 15 = 5)) by decide) (F_n F110 (show ¬ (77 = 77 ∧ 7 ≤ 15 ∧ 15 ≤ 10) by decide) (F_n F64 (show ¬ (77 = 77 ∧ 7 ≤ 15 ∧ 15 ≤ 10) by decide) c_50)))))))))))))))))
                              refine tt_gI (pc := 374) rw_170_374 (g_o hG763 rfl) (v := (M.2.1 77 15)) c_765 (to_c (pc := 377) rw_170_377 (x := (1 : Int32)) rfl rfl (s_add (pc := 378) rw_170_378 (A := (M.2.1 77 15).toInt) (B := 1) rfl rfl (by omega) (fun v766 e767 => s_pI (pc := 379) rw_170_379 hG763 rfl (fun M769 W768 => ?_))))
                              have hG770 := g_w hG763 W768 (A := v766.toInt) rfl (lo := 0) (hi := 8) rfl rfl (by omega) (by decide)
                              have F771 := FR.w F764 W768 (show 77 = 77 ∧ (15 = 4 ∨ 15 = 5 ∨ 7 ≤ 15 ∧ 15 ≤ 10 ∨ 15 = 15 ∨ 15 = 25) ∨ 80 ≤ 77 ∧ 77 ≤ 84 ∧ 8 ≤ 15 by decide)
                              refine to_c (pc := 382) rw_170_382 (x := (1 : Int32)) rfl rfl (s_r1 (pc := 383) rw_170_383 (A := 1) rfl (by decide) ?_)
                              have j_772 := (RS_f (fun a i z => W_n W768 (tg_52 a i z) rfl) (RS_f (fun a i z => W_n W761 (tg_53 a i _ z) rfl) (RS_f (fun a i z => W_n W757 (tg_54 a i _ z) rfl) (RS_f (fun a i z => W_n W753 (tg_55 a i _ z) rfl) (RS_f (fun a i z => W_n W749 (tg_56 a i _ z) rfl) (RS_f (fun a i z => W_n W745 (tg_57 a i _ z) rfl) (RS_f (fun a i z => W_l W741 rfl) (RS_f (tg_45 F735) p_725.1))))))))
                              have c_773 : M769.2.1 77 10 = (M726.2.1 77 10) := (W_n W768 (by decide) (W_n W761 (fun z => absurd z.1 (by decide)) (W_n W757 (fun z => absurd z.1 (by decide)) (W_n W753 (fun z => absurd z.1 (by decide)) (W_n W749 (fun z => absurd z.1 (by decide)) (W_n W745 (fun z => absurd z.1 (by decide)) (W_l W741 (F_n F735 (show ¬ (77 < 0) by decide) rfl))))))))
                              have t_774 : (M769.2.1 77 10).toInt = (M726.2.1 77 10).toInt := congrArg Int32.toInt c_773
                              have z_775 : x_fC t nn sg (x_ns t nn a) := by unfold x_fC; omega
                              have z_776 := (x_or_r q7 (p_737.trans (x_bw_v (by omega) (by omega))) : _ = _ ||| x_bw (x_val t nn (x_ns t nn (x_ns t nn (x_ns t nn a)))) (x_val t nn (x_ns t nn (x_ns t nn (x_ns t nn (x_ns t nn a))))))
                              have z_777 := PLr_p (nm := (x_val t nn (x_ns t nn a))) (kd := 3) (f := (x_val t nn (x_ns t nn (x_ns t nn (x_ns t nn a))))) (l := (x_val t nn (x_ns t nn (x_ns t nn (x_ns t nn (x_ns t nn a)))))) (c := (x_val t nn (x_ns t nn (x_ns t nn (x_ns t nn (x_ns t nn (x_ns t nn a))))))) j_740 W741 W745 W749 W753 W757 W761 W768 (by omega) z_776 (by omega) (by omega) (by omega) (by omega) (by omega) (by omega) (by omega) (by omega) (by omega) (by omega) (by omega)
                              have j_778 := (CWr_f (fun k hk9 => W_j W768 rfl) (CWr_f (fun k hk9 => W_j W761 rfl) (CWr_f (fun k hk9 => W_j W757 rfl) (CWr_f (fun k hk9 => W_j W753 rfl) (CWr_f (fun k hk9 => W_j W749 rfl) (CWr_f (fun k hk9 => W_j W745 rfl) (CWr_f (fun k hk9 => L_n W741 (by omega) rfl) (CWr_f (fun k hk9 => F_nl F735 (show ¬ (87 < 0) by decide) rfl) (CWr_f (fun k hk9 => F_nl F720 (show ¬ (87 = 77 ∧ 7 ≤ (12 + k) ∧ (12 + k) ≤ 10) by omega) rfl) (CWr_f (fun k hk9 => F_nl F695 (show ¬ (87 = 77 ∧ ((12 + k) = 4 ∨ (12 + k) = 5)) by omega) rfl) (CWr_f (fun k hk9 => F_nl F673 (show ¬ (87 = 77 ∧ 7 ≤ (12 + k) ∧ (12 + k) ≤ 10) by omega) rfl) (CWr_f (fun k hk9 => F_nl F652 (show ¬ (87 < 0) by decide) rfl) (CWr_f (fun k hk9 => F_nl F633 (show ¬ (87 = 77 ∧ ((12 + k) = 4 ∨ (12 + k) = 5)) by omega) rfl) (CWr_f (fun k hk9 => F_nl F613 (show ¬ (87 = 77 ∧ 7 ≤ (12 + k) ∧ (12 + k) ≤ 10) by omega) rfl) (CWr_f (fun k hk9 => F_nl F592 (show ¬ (87 < 0) by decide) rfl) (CWr_f (fun k hk9 => F_nl F574 (show ¬ (87 = 77 ∧ ((12 + k) = 4 ∨ (12 + k) = 5)) by omega) rfl) (CWr_f (fun k hk9 => F_nl F110 (show ¬ (87 = 77 ∧ 7 ≤ (12 + k) ∧ (12 + k) ≤ 10) by omega) rfl) (CWr_f (fun k hk9 => F_nl F64 (show ¬ (87 = 77 ∧ 7 ≤ (12 + k) ∧ (12 + k) ≤ 10) by omega) rfl) (CWr_f (fun k hk9 => F_nl F35 (show ¬ (87 = 77 ∧ ((12 + k) = 4 ∨ (12 + k) = 5)) by omega) rfl) (CWr_f (fun k hk9 => F_nl F19 (show ¬ (87 = 77 ∧ 7 ≤ (12 + k) ∧ (12 + k) ≤ 10) by omega) rfl) q8))))))))))))))))))))
                              exact h (1 : Int32) M769 hG770 F771 (by decide) (by decide) j_772 (fun z => absurd z (by decide)) (fun _ => ⟨_, (by rw [show (M769.2.1 77 10).toInt = (x_ns t nn (x_ns t nn (x_ns t nn (x_ns t nn (x_ns t nn (x_ns t nn a)))))) by omega]; exact x_field_3 z_775 (by omega)), ⟨z_777, CWr_p j_778⟩, (by show sg.2.1 + 1 + sg.2.2.1 = _; omega)⟩)
                          · refine to_i (pc := 294) rw_170_294 rfl (to_go (pc := 296) rw_170_296 (s_v (pc := 300) rw_170_300 (dp0 hd (by decide)) (ls0 := [.ref 77, .int (1 : Int32), .int v689]) rfl (Nat.le_of_ble_eq_true rfl) (Nat.le_of_ble_eq_true rfl) rfl (to_rc rfl rfl rfl (g_o hG674 rfl)) rfl ?_))
                            have k_779 : (1 : Int32).toInt = 1 := rfl
                            refine E_162 hX (dp1 hd (by decide)) hG674 p_678.1 (by omega) (by omega) (l := (1 : Int32)) (m := v689) (t := t) (nn := nn) (a := (x_ns t nn (x_ns t nn (x_ns t nn (x_ns t nn (x_ns t nn a)))))) (fun r780 M787 hG782 F781 p_783 p_784 p_785 p_786 => ?_)
                            have F788 := FR.c F680 F781 tg_50
                            rcases (show r780.toInt = 0 ∨ r780.toInt = 1 by omega) with h789 | h789
                            · skip
                              have p_790 := p_786 (by omega)
                              clear p_785 p_786
                              have z_791 := x_val_b (t := t) (nn := nn) (a := (x_ns t nn (x_ns t nn (x_ns t nn (x_ns t nn (x_ns t nn a))))))
                              refine b_ine_f (pc := 303) rw_170_303 (A := r780.toInt) rfl (by omega) (to_c (pc := 306) rw_170_306 (x := (0 : Int32)) rfl rfl (s_r1 (pc := 307) rw_170_307 (A := 0) rfl (by decide) ?_))
                              have j_792 := (RS_f (tg_40 F781) p_678.1)
                              exact h (0 : Int32) M787 hG782 F788 (by decide) (by decide) j_792 (fun _ => x_field_n (fun h9 => by unfold x_fC at h9; omega)) (fun z => absurd z (by decide))
                            · skip
                              have p_793 := p_785 (by omega)
                              clear p_785 p_786
                              have c_794 : M787.2.1 77 9 = (M679.2.1 77 9) := (F_n F781 (show ¬ (77 = 77 ∧ (9 = 4 ∨ 9 = 5)) by decide) rfl)
                              have z_795 := x_val_b (t := t) (nn := nn) (a := (x_ns t nn (x_ns t nn (x_ns t nn (x_ns t nn (x_ns t nn a)))))) (by omega)
                              refine b_ine_t (pc := 303) rw_170_303 (A := r780.toInt) rfl (by omega) (to_an (pc := 308) rw_170_308 rfl (tt_gI (pc := 309) rw_170_309 (g_o hG782 rfl) (v := (M679.2.1 77 9)) c_794 (to_is (pc := 312) rw_170_312 (ls2 := [.ref 77, .int v51, .int (M25.2.1 77 9), .int v105, .int (1 : Int32), .int (0 : Int32), .int (M116.2.1 77 9), .int (M619.2.1 77 9), .int (M679.2.1 77 9)]) rfl rfl (to_an (pc := 314) rw_170_314 rfl (s_v (pc := 315) rw_170_315 (dp0 hd (by decide)) (ls0 := [.ref 77]) rfl (Nat.le_of_ble_eq_true rfl) (Nat.le_of_ble_eq_true rfl) rfl (to_rc rfl rfl rfl (g_o hG782 rfl)) rfl ?_)))))
                              have c_796 : M787.2.1 77 7 = (M679.2.1 77 7) := (F_n F781 (show ¬ (77 = 77 ∧ (7 = 4 ∨ 7 = 5)) by decide) rfl)
                              have t_797 : (M787.2.1 77 7).toInt = (M679.2.1 77 7).toInt := congrArg Int32.toInt c_796
                              have c_798 : M787.2.1 77 6 = (M.2.1 77 6) := (F_n F781 (show ¬ (77 = 77 ∧ (6 = 4 ∨ 6 = 5)) by decide) c_682)
                              have t_799 : (M787.2.1 77 6).toInt = (M.2.1 77 6).toInt := congrArg Int32.toInt c_798
                              have c_800 : M787.2.1 77 10 = (M679.2.1 77 10) := (F_n F781 (show ¬ (77 = 77 ∧ (10 = 4 ∨ 10 = 5)) by decide) rfl)
                              have t_801 : (M787.2.1 77 10).toInt = (M679.2.1 77 10).toInt := congrArg Int32.toInt c_800
                              have j_802 := (RS_f (tg_40 F781) p_678.1)
                              have z_803 := RS_b j_802 (a := (x_ns t nn (x_ns t nn (x_ns t nn (x_ns t nn (x_ns t nn a)))))) (by omega)
                              have j_804 := (TR_f (tg_41 F781) (TR_f (tg_42 F673) j_671))
                              have j_805 := (W9_f (tg_43 F781) (W9_f (tg_44 F673) j_672))
                              refine E_156 hX (dp1 hd (by decide)) hG782 (by omega) (by omega) (by omega) (by omega) j_804 j_805  (fun M812 hG807 F806 p_808 p_809 p_810 p_811 => ?_)
                              have F813 := FR.c F788 F806 tg_49
                              have b_814 := g_b hG807 (a := 77) (i := 7) (lo := 0) (hi := 500) rfl rfl
                              have c_815 : M812.2.1 77 6 = (M.2.1 77 6) := (F_n F806 (show ¬ (77 = 77 ∧ 7 ≤ 6 ∧ 6 ≤ 10) by decide) c_798)
                              have t_816 : (M812.2.1 77 6).toInt = (M.2.1 77 6).toInt := congrArg Int32.toInt c_815
                              have b_817 := g_b hG807 (a := 77) (i := 8) (lo := 0) (hi := 5) rfl rfl
                              have b_818 := g_b hG807 (a := 77) (i := 10) (lo := 0) (hi := 500) rfl rfl
                              have z_819 := RS_s p_811.2 (a := (x_ns t nn (x_ns t nn (x_ns t nn (x_ns t nn (x_ns t nn a)))))) (by omega)
                              refine to_an (pc := 318) rw_170_318 rfl (to_dupr (pc := 319) rw_170_319 (tt_gJ (pc := 320) rw_170_320 (g_o hG807 rfl) (v := (M.2.2.1 77 25)) (F_nl F806 (show ¬ (77 = 77 ∧ 7 ≤ 25 ∧ 25 ≤ 10) by decide) (F_nl F781 (show ¬ (77 = 77 ∧ (25 = 4 ∨ 25 = 5)) by decide) (F_nl F673 (show ¬ (77 = 77 ∧ 7 ≤ 25 ∧ 25 ≤ 10) by decide) (F_nl F652 (show ¬ (77 < 0) by decide) (F_nl F633 (show ¬ (77 = 77 ∧ (25 = 4 ∨ 25 = 5)) by decide) (F_nl F613 (show ¬ (77 = 77 ∧ 7 ≤ 25 ∧ 25 ≤ 10) by decide) (F_nl F592 (show ¬ (77 < 0) by decide) (F_nl F574 (show ¬ (77 = 77 ∧ (25 = 4 ∨ 25 = 5)) by decide) (F_nl F110 (show ¬ (77 = 77 ∧ 7 ≤ 25 ∧ 25 ≤ 10) by decide) (F_nl F64 (show ¬ (77 = 77 ∧ 7 ≤ 25 ∧ 25 ≤ 10) by decide) (F_nl F35 (show ¬ (77 = 77 ∧ (25 = 4 ∨ 25 = 5)) by decide) (F_nl F19 (show ¬ (77 = 77 ∧ 7 ≤ 25 ∧ 25 ≤ 10) by decide) rfl)))))))))))) (to_i (pc := 323) rw_170_323 rfl (to_i (pc := 325) rw_170_325 rfl (s_s (pc := 327) rw_170_327 (dp0 hd (by decide)) (ls0 := [.int (M116.2.1 77 9), .int (M619.2.1 77 9), .null, .null, .null]) rfl (Nat.le_of_ble_eq_true rfl) (Nat.le_of_ble_eq_true rfl) rfl (to_rcs rfl rfl) rfl (E_168 hX (dp1 hd (by decide)) hG807 (by omega) (by omega) (by omega) (by omega) (by omega) (a := (M116.2.1 77 9)) (b := (M619.2.1 77 9)) (fun r820 M824 hG822 F821 p_823 => ?_)))))))
                              have F825 := FR.c F813 F821 tg_51
                              refine to_2l (pc := 330) rw_170_330 (v := ((M.2.2.1 77 25) ||| r820)) rfl ?_
                              have j_826 := (PLr_f (tg_47 F821) (F_nl F821 (show ¬ (77 < 0) by decide) rfl) (PLr_f (tg_39 F806) (F_nl F806 (show ¬ (77 = 77 ∧ 7 ≤ 25 ∧ 25 ≤ 10) by decide) rfl) (PLr_f (tg_48 F781) (F_nl F781 (show ¬ (77 = 77 ∧ (25 = 4 ∨ 25 = 5)) by decide) rfl) (PLr_f (tg_39 F673) (F_nl F673 (show ¬ (77 = 77 ∧ 7 ≤ 25 ∧ 25 ≤ 10) by decide) rfl) (PLr_f (tg_47 F652) (F_nl F652 (show ¬ (77 < 0) by decide) rfl) (PLr_f (tg_48 F633) (F_nl F633 (show ¬ (77 = 77 ∧ (25 = 4 ∨ 25 = 5)) by decide) rfl) (PLr_f (tg_39 F613) (F_nl F613 (show ¬ (77 = 77 ∧ 7 ≤ 25 ∧ 25 ≤ 10) by decide) rfl) (PLr_f (tg_47 F592) (F_nl F592 (show ¬ (77 < 0) by decide) rfl) (PLr_f (tg_48 F574) (F_nl F574 (show ¬ (77 = 77 ∧ (25 = 4 ∨ 25 = 5)) by decide) rfl) (PLr_f (tg_39 F110) (F_nl F110 (show ¬ (77 = 77 ∧ 7 ≤ 25 ∧ 25 ≤ 10) by decide) rfl) (PLr_f (tg_39 F64) (F_nl F64 (show ¬ (77 = 77 ∧ 7 ≤ 25 ∧ 25 ≤ 10) by decide) rfl) (PLr_f (tg_48 F35) (F_nl F35 (show ¬ (77 = 77 ∧ (25 = 4 ∨ 25 = 5)) by decide) rfl) j_33))))))))))))
                              refine s_pJ (pc := 331) rw_170_331 hG822 rfl (fun M828 W827 => ?_)
                              have hG829 := g_wl hG822 W827
                              have F830 := FR.wl F825 W827 (show 77 = 77 ∧ (25 = 4 ∨ 25 = 5 ∨ 7 ≤ 25 ∧ 25 ≤ 10 ∨ 25 = 15 ∨ 25 = 25) ∨ 80 ≤ 77 ∧ 77 ≤ 84 ∧ 8 ≤ 25 by decide)
                              refine to_an (pc := 334) rw_170_334 rfl (s_gR (pc := 335) rw_170_335 hG829 rfl (v := 80) rfl (to_in (pc := 338) rw_170_338 rfl (to_in (pc := 339) rw_170_339 rfl (s_ias (pc := 340) rw_170_340 hG829 rfl (n := 16) rfl (A := v51.toInt) rfl (by omega) (by omega) (fun M832 W831 => ?_)))))
                              have hG833 := g_wf hG829 W831 rfl rfl (by decide)
                              have F834 := FR.w F830 W831 (show 80 = 77 ∧ ((v51.toInt).toNat = 4 ∨ (v51.toInt).toNat = 5 ∨ 7 ≤ (v51.toInt).toNat ∧ (v51.toInt).toNat ≤ 10 ∨ (v51.toInt).toNat = 15 ∨ (v51.toInt).toNat = 25) ∨ 80 ≤ 80 ∧ 80 ≤ 84 ∧ 8 ≤ (v51.toInt).toNat by omega)
                              refine to_an (pc := 341) rw_170_341 rfl (s_gR (pc := 342) rw_170_342 hG833 rfl (v := 81) rfl (to_in (pc := 345) rw_170_345 rfl (to_in (pc := 346) rw_170_346 rfl (s_ias (pc := 347) rw_170_347 hG833 rfl (n := 16) rfl (A := v51.toInt) rfl (by omega) (by omega) (fun M836 W835 => ?_)))))
                              have hG837 := g_w hG833 W835 (A := v105.toInt) rfl (lo := 0) (hi := 3) rfl rfl (by omega) (by decide)
                              have F838 := FR.w F834 W835 (show 81 = 77 ∧ ((v51.toInt).toNat = 4 ∨ (v51.toInt).toNat = 5 ∨ 7 ≤ (v51.toInt).toNat ∧ (v51.toInt).toNat ≤ 10 ∨ (v51.toInt).toNat = 15 ∨ (v51.toInt).toNat = 25) ∨ 80 ≤ 81 ∧ 81 ≤ 84 ∧ 8 ≤ (v51.toInt).toNat by omega)
                              refine to_an (pc := 348) rw_170_348 rfl (s_gR (pc := 349) rw_170_349 hG837 rfl (v := 82) rfl (to_in (pc := 352) rw_170_352 rfl (to_i (pc := 353) rw_170_353 rfl (s_ias (pc := 355) rw_170_355 hG837 rfl (n := 16) rfl (A := v51.toInt) rfl (by omega) (by omega) (fun M840 W839 => ?_)))))
                              have hG841 := g_w hG837 W839 (A := (M116.2.1 77 9).toInt) rfl (lo := 0) (hi := 59) rfl rfl (by omega) (by decide)
                              have F842 := FR.w F838 W839 (show 82 = 77 ∧ ((v51.toInt).toNat = 4 ∨ (v51.toInt).toNat = 5 ∨ 7 ≤ (v51.toInt).toNat ∧ (v51.toInt).toNat ≤ 10 ∨ (v51.toInt).toNat = 15 ∨ (v51.toInt).toNat = 25) ∨ 80 ≤ 82 ∧ 82 ≤ 84 ∧ 8 ≤ (v51.toInt).toNat by omega)
                              refine to_an (pc := 356) rw_170_356 rfl (s_gR (pc := 357) rw_170_357 hG841 rfl (v := 83) rfl (to_in (pc := 360) rw_170_360 rfl (to_i (pc := 361) rw_170_361 rfl (s_ias (pc := 363) rw_170_363 hG841 rfl (n := 16) rfl (A := v51.toInt) rfl (by omega) (by omega) (fun M844 W843 => ?_)))))
                              have hG845 := g_w hG841 W843 (A := (M619.2.1 77 9).toInt) rfl (lo := 0) (hi := 63) rfl rfl (by omega) (by decide)
                              have F846 := FR.w F842 W843 (show 83 = 77 ∧ ((v51.toInt).toNat = 4 ∨ (v51.toInt).toNat = 5 ∨ 7 ≤ (v51.toInt).toNat ∧ (v51.toInt).toNat ≤ 10 ∨ (v51.toInt).toNat = 15 ∨ (v51.toInt).toNat = 25) ∨ 80 ≤ 83 ∧ 83 ≤ 84 ∧ 8 ≤ (v51.toInt).toNat by omega)
                              refine to_an (pc := 364) rw_170_364 rfl (s_gR (pc := 365) rw_170_365 hG845 rfl (v := 84) rfl (to_in (pc := 368) rw_170_368 rfl (to_i (pc := 369) rw_170_369 rfl (s_ias (pc := 371) rw_170_371 hG845 rfl (n := 16) rfl (A := v51.toInt) rfl (by omega) (by omega) (fun M848 W847 => ?_)))))
                              have hG849 := g_w hG845 W847 (A := (M679.2.1 77 9).toInt) rfl (lo := 0) (hi := 24) rfl rfl (by omega) (by decide)
                              have F850 := FR.w F846 W847 (show 84 = 77 ∧ ((v51.toInt).toNat = 4 ∨ (v51.toInt).toNat = 5 ∨ 7 ≤ (v51.toInt).toNat ∧ (v51.toInt).toNat ≤ 10 ∨ (v51.toInt).toNat = 15 ∨ (v51.toInt).toNat = 25) ∨ 80 ≤ 84 ∧ 84 ≤ 84 ∧ 8 ≤ (v51.toInt).toNat by omega)
                              refine to_an (pc := 372) rw_170_372 rfl (to_dupr (pc := 373) rw_170_373 ?_)
                              have c_851 : M848.2.1 77 15 = (M.2.1 77 15) := (W_n W847 (fun z => absurd z.1 (by decide)) (W_n W843 (fun z => absurd z.1 (by decide)) (W_n W839 (fun z => absurd z.1 (by decide)) (W_n W835 (fun z => absurd z.1 (by decide)) (W_n W831 (fun z => absurd z.1 (by decide)) (W_l W827 (F_n F821 (show ¬ (77 < 0) by decide) (F_n F806 (show ¬ (77 = 77 ∧ 7 ≤ 15 ∧ 15 ≤ 10) by decide) (F_n F781 (show ¬ (77 = 77 ∧ (15 = 4 ∨ 15 = 5)) by decide) (F_n F673 (show ¬ (77 = 77 ∧ 7 ≤ 15 ∧ 15 ≤ 10) by decide) (F_n F652 (show ¬ (77 < 0) by decide) (F_n F633 (show ¬ (77 = 77 ∧ (15 = 4 ∨ 15 = 5)) by decide) (F_n F613 (show ¬ (77 = 77 ∧ 7 ≤ 15 ∧ 15 ≤ 10) by decide) (F_n F592 (show ¬ (77 < 0) by decide) (F_n F574 (show ¬ (77 = 77 ∧ (15 = 4 ∨ 15 = 5)) by decide) (F_n F110 (show ¬ (77 = 77 ∧ 7 ≤ 15 ∧ 15 ≤ 10) by decide) (F_n F64 (show ¬ (77 = 77 ∧ 7 ≤ 15 ∧ 15 ≤ 10) by decide) c_50)))))))))))))))))
                              refine tt_gI (pc := 374) rw_170_374 (g_o hG849 rfl) (v := (M.2.1 77 15)) c_851 (to_c (pc := 377) rw_170_377 (x := (1 : Int32)) rfl rfl (s_add (pc := 378) rw_170_378 (A := (M.2.1 77 15).toInt) (B := 1) rfl rfl (by omega) (fun v852 e853 => s_pI (pc := 379) rw_170_379 hG849 rfl (fun M855 W854 => ?_))))
                              have hG856 := g_w hG849 W854 (A := v852.toInt) rfl (lo := 0) (hi := 8) rfl rfl (by omega) (by decide)
                              have F857 := FR.w F850 W854 (show 77 = 77 ∧ (15 = 4 ∨ 15 = 5 ∨ 7 ≤ 15 ∧ 15 ≤ 10 ∨ 15 = 15 ∨ 15 = 25) ∨ 80 ≤ 77 ∧ 77 ≤ 84 ∧ 8 ≤ 15 by decide)
                              refine to_c (pc := 382) rw_170_382 (x := (1 : Int32)) rfl rfl (s_r1 (pc := 383) rw_170_383 (A := 1) rfl (by decide) ?_)
                              have j_858 := (RS_f (fun a i z => W_n W854 (tg_52 a i z) rfl) (RS_f (fun a i z => W_n W847 (tg_53 a i _ z) rfl) (RS_f (fun a i z => W_n W843 (tg_54 a i _ z) rfl) (RS_f (fun a i z => W_n W839 (tg_55 a i _ z) rfl) (RS_f (fun a i z => W_n W835 (tg_56 a i _ z) rfl) (RS_f (fun a i z => W_n W831 (tg_57 a i _ z) rfl) (RS_f (fun a i z => W_l W827 rfl) (RS_f (tg_45 F821) p_811.1))))))))
                              have c_859 : M855.2.1 77 10 = (M812.2.1 77 10) := (W_n W854 (by decide) (W_n W847 (fun z => absurd z.1 (by decide)) (W_n W843 (fun z => absurd z.1 (by decide)) (W_n W839 (fun z => absurd z.1 (by decide)) (W_n W835 (fun z => absurd z.1 (by decide)) (W_n W831 (fun z => absurd z.1 (by decide)) (W_l W827 (F_n F821 (show ¬ (77 < 0) by decide) rfl))))))))
                              have t_860 : (M855.2.1 77 10).toInt = (M812.2.1 77 10).toInt := congrArg Int32.toInt c_859
                              have z_861 : x_fC t nn sg (x_ns t nn a) := by unfold x_fC; omega
                              have z_862 := (x_or_r q7 (p_823.trans (x_bw_v (by omega) (by omega))) : _ = _ ||| x_bw (x_val t nn (x_ns t nn (x_ns t nn (x_ns t nn a)))) (x_val t nn (x_ns t nn (x_ns t nn (x_ns t nn (x_ns t nn a))))))
                              have z_863 := PLr_p (nm := (x_val t nn (x_ns t nn a))) (kd := 3) (f := (x_val t nn (x_ns t nn (x_ns t nn (x_ns t nn a))))) (l := (x_val t nn (x_ns t nn (x_ns t nn (x_ns t nn (x_ns t nn a)))))) (c := (x_val t nn (x_ns t nn (x_ns t nn (x_ns t nn (x_ns t nn (x_ns t nn a))))))) j_826 W827 W831 W835 W839 W843 W847 W854 (by omega) z_862 (by omega) (by omega) (by omega) (by omega) (by omega) (by omega) (by omega) (by omega) (by omega) (by omega) (by omega)
                              have j_864 := (CWr_f (fun k hk9 => W_j W854 rfl) (CWr_f (fun k hk9 => W_j W847 rfl) (CWr_f (fun k hk9 => W_j W843 rfl) (CWr_f (fun k hk9 => W_j W839 rfl) (CWr_f (fun k hk9 => W_j W835 rfl) (CWr_f (fun k hk9 => W_j W831 rfl) (CWr_f (fun k hk9 => L_n W827 (by omega) rfl) (CWr_f (fun k hk9 => F_nl F821 (show ¬ (87 < 0) by decide) rfl) (CWr_f (fun k hk9 => F_nl F806 (show ¬ (87 = 77 ∧ 7 ≤ (12 + k) ∧ (12 + k) ≤ 10) by omega) rfl) (CWr_f (fun k hk9 => F_nl F781 (show ¬ (87 = 77 ∧ ((12 + k) = 4 ∨ (12 + k) = 5)) by omega) rfl) (CWr_f (fun k hk9 => F_nl F673 (show ¬ (87 = 77 ∧ 7 ≤ (12 + k) ∧ (12 + k) ≤ 10) by omega) rfl) (CWr_f (fun k hk9 => F_nl F652 (show ¬ (87 < 0) by decide) rfl) (CWr_f (fun k hk9 => F_nl F633 (show ¬ (87 = 77 ∧ ((12 + k) = 4 ∨ (12 + k) = 5)) by omega) rfl) (CWr_f (fun k hk9 => F_nl F613 (show ¬ (87 = 77 ∧ 7 ≤ (12 + k) ∧ (12 + k) ≤ 10) by omega) rfl) (CWr_f (fun k hk9 => F_nl F592 (show ¬ (87 < 0) by decide) rfl) (CWr_f (fun k hk9 => F_nl F574 (show ¬ (87 = 77 ∧ ((12 + k) = 4 ∨ (12 + k) = 5)) by omega) rfl) (CWr_f (fun k hk9 => F_nl F110 (show ¬ (87 = 77 ∧ 7 ≤ (12 + k) ∧ (12 + k) ≤ 10) by omega) rfl) (CWr_f (fun k hk9 => F_nl F64 (show ¬ (87 = 77 ∧ 7 ≤ (12 + k) ∧ (12 + k) ≤ 10) by omega) rfl) (CWr_f (fun k hk9 => F_nl F35 (show ¬ (87 = 77 ∧ ((12 + k) = 4 ∨ (12 + k) = 5)) by omega) rfl) (CWr_f (fun k hk9 => F_nl F19 (show ¬ (87 = 77 ∧ 7 ≤ (12 + k) ∧ (12 + k) ≤ 10) by omega) rfl) q8))))))))))))))))))))
                              exact h (1 : Int32) M855 hG856 F857 (by decide) (by decide) j_858 (fun z => absurd z (by decide)) (fun _ => ⟨_, (by rw [show (M855.2.1 77 10).toInt = (x_ns t nn (x_ns t nn (x_ns t nn (x_ns t nn (x_ns t nn (x_ns t nn a)))))) by omega]; exact x_field_3 z_861 (by omega)), ⟨z_863, CWr_p j_864⟩, (by show sg.2.1 + 1 + sg.2.2.1 = _; omega)⟩)
                        · refine to_an (pc := 262) rw_170_262 rfl (to_c (pc := 263) rw_170_263 (x := (3 : Int32)) rfl rfl (s_v (pc := 264) rw_170_264 (dp0 hd (by decide)) (ls0 := [.ref 77, .int (3 : Int32)]) rfl (Nat.le_of_ble_eq_true rfl) (Nat.le_of_ble_eq_true rfl) rfl (to_rc rfl rfl rfl (g_o hG653 rfl)) rfl (to_an (pc := 0) rw_152_0 rfl (to_in (pc := 1) rw_152_1 rfl (s_pI (pc := 2) rw_152_2 hG653 rfl (fun M866 W865 => ?_))))))
                          have hG867 := g_wf hG653 W865 rfl rfl (by decide)
                          have F868 := FR.w F656 W865 (show 77 = 77 ∧ (4 = 4 ∨ 4 = 5 ∨ 7 ≤ 4 ∧ 4 ≤ 10 ∨ 4 = 15 ∨ 4 = 25) ∨ 80 ≤ 77 ∧ 77 ≤ 84 ∧ 8 ≤ 4 by decide)
                          refine to_an (pc := 5) rw_152_5 rfl (to_an (pc := 6) rw_152_6 rfl ?_)
                          have c_869 : M866.2.1 77 10 = (M619.2.1 77 10) := (W_n W865 (by decide) (F_n F652 (show ¬ (77 < 0) by decide) (F_n F633 (show ¬ (77 = 77 ∧ (10 = 4 ∨ 10 = 5)) by decide) rfl)))
                          refine tt_gI (pc := 7) rw_152_7 (g_o hG867 rfl) (v := (M619.2.1 77 10)) c_869 (s_pI (pc := 10) rw_152_10 hG867 rfl (fun M871 W870 => ?_))
                          have hG872 := g_wf hG867 W870 rfl rfl (by decide)
                          have F873 := FR.w F868 W870 (show 77 = 77 ∧ (5 = 4 ∨ 5 = 5 ∨ 7 ≤ 5 ∧ 5 ≤ 10 ∨ 5 = 15 ∨ 5 = 25) ∨ 80 ≤ 77 ∧ 77 ≤ 84 ∧ 8 ≤ 5 by decide)
                          refine to_c (pc := 13) rw_152_13 (x := (0 : Int32)) rfl rfl (s_r1 (pc := 14) rw_152_14 (A := 0) rfl (by decide) (s_r1 (pc := 267) rw_170_267 (A := 0) rfl (by decide) ?_))
                          have j_874 := (RS_f (fun a i z => W_n W870 (tg_37 a i z) rfl) (RS_f (fun a i z => W_n W865 (tg_38 a i z) rfl) (RS_f (tg_45 F652) (RS_f (tg_40 F633) p_618.1))))
                          exact h (0 : Int32) M871 hG872 F873 (by decide) (by decide) j_874 (fun _ => x_field_n (fun h9 => by unfold x_fC at h9; omega)) (fun z => absurd z (by decide))
                      · refine to_an (pc := 239) rw_170_239 rfl (to_c (pc := 240) rw_170_240 (x := (2 : Int32)) rfl rfl (s_v (pc := 241) rw_170_241 (dp0 hd (by decide)) (ls0 := [.ref 77, .int (2 : Int32)]) rfl (Nat.le_of_ble_eq_true rfl) (Nat.le_of_ble_eq_true rfl) rfl (to_rc rfl rfl rfl (g_o hG634 rfl)) rfl (to_an (pc := 0) rw_152_0 rfl (to_in (pc := 1) rw_152_1 rfl (s_pI (pc := 2) rw_152_2 hG634 rfl (fun M876 W875 => ?_))))))
                        have hG877 := g_wf hG634 W875 rfl rfl (by decide)
                        have F878 := FR.w F640 W875 (show 77 = 77 ∧ (4 = 4 ∨ 4 = 5 ∨ 7 ≤ 4 ∧ 4 ≤ 10 ∨ 4 = 15 ∨ 4 = 25) ∨ 80 ≤ 77 ∧ 77 ≤ 84 ∧ 8 ≤ 4 by decide)
                        refine to_an (pc := 5) rw_152_5 rfl (to_an (pc := 6) rw_152_6 rfl ?_)
                        have c_879 : M876.2.1 77 10 = (M619.2.1 77 10) := (W_n W875 (by decide) (F_n F633 (show ¬ (77 = 77 ∧ (10 = 4 ∨ 10 = 5)) by decide) rfl))
                        refine tt_gI (pc := 7) rw_152_7 (g_o hG877 rfl) (v := (M619.2.1 77 10)) c_879 (s_pI (pc := 10) rw_152_10 hG877 rfl (fun M881 W880 => ?_))
                        have hG882 := g_wf hG877 W880 rfl rfl (by decide)
                        have F883 := FR.w F878 W880 (show 77 = 77 ∧ (5 = 4 ∨ 5 = 5 ∨ 7 ≤ 5 ∧ 5 ≤ 10 ∨ 5 = 15 ∨ 5 = 25) ∨ 80 ≤ 77 ∧ 77 ≤ 84 ∧ 8 ≤ 5 by decide)
                        refine to_c (pc := 13) rw_152_13 (x := (0 : Int32)) rfl rfl (s_r1 (pc := 14) rw_152_14 (A := 0) rfl (by decide) (s_r1 (pc := 244) rw_170_244 (A := 0) rfl (by decide) ?_))
                        have j_884 := (RS_f (fun a i z => W_n W880 (tg_37 a i z) rfl) (RS_f (fun a i z => W_n W875 (tg_38 a i z) rfl) (RS_f (tg_40 F633) p_618.1)))
                        exact h (0 : Int32) M881 hG882 F883 (by decide) (by decide) j_884 (fun _ => x_field_n (fun h9 => by unfold x_fC at h9; omega)) (fun z => absurd z (by decide))
                  · refine to_an (pc := 169) rw_170_169 rfl (to_c (pc := 170) rw_170_170 (x := (3 : Int32)) rfl rfl (s_v (pc := 171) rw_170_171 (dp0 hd (by decide)) (ls0 := [.ref 77, .int (3 : Int32)]) rfl (Nat.le_of_ble_eq_true rfl) (Nat.le_of_ble_eq_true rfl) rfl (to_rc rfl rfl rfl (g_o hG593 rfl)) rfl (to_an (pc := 0) rw_152_0 rfl (to_in (pc := 1) rw_152_1 rfl (s_pI (pc := 2) rw_152_2 hG593 rfl (fun M886 W885 => ?_))))))
                    have hG887 := g_wf hG593 W885 rfl rfl (by decide)
                    have F888 := FR.w F596 W885 (show 77 = 77 ∧ (4 = 4 ∨ 4 = 5 ∨ 7 ≤ 4 ∧ 4 ≤ 10 ∨ 4 = 15 ∨ 4 = 25) ∨ 80 ≤ 77 ∧ 77 ≤ 84 ∧ 8 ≤ 4 by decide)
                    refine to_an (pc := 5) rw_152_5 rfl (to_an (pc := 6) rw_152_6 rfl ?_)
                    have c_889 : M886.2.1 77 10 = (M116.2.1 77 10) := (W_n W885 (by decide) (F_n F592 (show ¬ (77 < 0) by decide) (F_n F574 (show ¬ (77 = 77 ∧ (10 = 4 ∨ 10 = 5)) by decide) rfl)))
                    refine tt_gI (pc := 7) rw_152_7 (g_o hG887 rfl) (v := (M116.2.1 77 10)) c_889 (s_pI (pc := 10) rw_152_10 hG887 rfl (fun M891 W890 => ?_))
                    have hG892 := g_wf hG887 W890 rfl rfl (by decide)
                    have F893 := FR.w F888 W890 (show 77 = 77 ∧ (5 = 4 ∨ 5 = 5 ∨ 7 ≤ 5 ∧ 5 ≤ 10 ∨ 5 = 15 ∨ 5 = 25) ∨ 80 ≤ 77 ∧ 77 ≤ 84 ∧ 8 ≤ 5 by decide)
                    refine to_c (pc := 13) rw_152_13 (x := (0 : Int32)) rfl rfl (s_r1 (pc := 14) rw_152_14 (A := 0) rfl (by decide) (s_r1 (pc := 174) rw_170_174 (A := 0) rfl (by decide) ?_))
                    have j_894 := (RS_f (fun a i z => W_n W890 (tg_37 a i z) rfl) (RS_f (fun a i z => W_n W885 (tg_38 a i z) rfl) (RS_f (tg_45 F592) (RS_f (tg_40 F574) p_115.1))))
                    exact h (0 : Int32) M891 hG892 F893 (by decide) (by decide) j_894 (fun _ => x_field_n (fun h9 => by unfold x_fC at h9; omega)) (fun z => absurd z (by decide))
          · refine to_an (pc := 70) rw_170_70 rfl (to_c (pc := 71) rw_170_71 (x := (1 : Int32)) rfl rfl (s_v (pc := 72) rw_170_72 (dp0 hd (by decide)) (ls0 := [.ref 77, .int (1 : Int32)]) rfl (Nat.le_of_ble_eq_true rfl) (Nat.le_of_ble_eq_true rfl) rfl (to_rc rfl rfl rfl (g_o hG65 rfl)) rfl (to_an (pc := 0) rw_152_0 rfl (to_in (pc := 1) rw_152_1 rfl (s_pI (pc := 2) rw_152_2 hG65 rfl (fun M896 W895 => ?_))))))
            have hG897 := g_wf hG65 W895 rfl rfl (by decide)
            have F898 := FR.w F71 W895 (show 77 = 77 ∧ (4 = 4 ∨ 4 = 5 ∨ 7 ≤ 4 ∧ 4 ≤ 10 ∨ 4 = 15 ∨ 4 = 25) ∨ 80 ≤ 77 ∧ 77 ≤ 84 ∧ 8 ≤ 4 by decide)
            refine to_an (pc := 5) rw_152_5 rfl (to_an (pc := 6) rw_152_6 rfl ?_)
            have c_899 : M896.2.1 77 10 = (M70.2.1 77 10) := (W_n W895 (by decide) rfl)
            refine tt_gI (pc := 7) rw_152_7 (g_o hG897 rfl) (v := (M70.2.1 77 10)) c_899 (s_pI (pc := 10) rw_152_10 hG897 rfl (fun M901 W900 => ?_))
            have hG902 := g_wf hG897 W900 rfl rfl (by decide)
            have F903 := FR.w F898 W900 (show 77 = 77 ∧ (5 = 4 ∨ 5 = 5 ∨ 7 ≤ 5 ∧ 5 ≤ 10 ∨ 5 = 15 ∨ 5 = 25) ∨ 80 ≤ 77 ∧ 77 ≤ 84 ∧ 8 ≤ 5 by decide)
            refine to_c (pc := 13) rw_152_13 (x := (0 : Int32)) rfl rfl (s_r1 (pc := 14) rw_152_14 (A := 0) rfl (by decide) (s_r1 (pc := 75) rw_170_75 (A := 0) rfl (by decide) ?_))
            have k_904 : (0 : Int32).toInt = 0 := rfl
            have j_905 := (RS_f (fun a i z => W_n W900 (tg_37 a i z) rfl) (RS_f (fun a i z => W_n W895 (tg_38 a i z) rfl) p_69.1))
            exact h (0 : Int32) M901 hG902 F903 (by decide) (by decide) j_905 (fun _ => x_field_n (fun h9 => by unfold x_fC at h9; omega)) (fun z => absurd z (by decide))
  · refine to_an (pc := 9) rw_170_9 rfl (to_c (pc := 10) rw_170_10 (x := (2 : Int32)) rfl rfl (s_v (pc := 11) rw_170_11 (dp0 hd (by decide)) (ls0 := [.ref 77, .int (2 : Int32)]) rfl (Nat.le_of_ble_eq_true rfl) (Nat.le_of_ble_eq_true rfl) rfl (to_rc rfl rfl rfl (g_o hG rfl)) rfl (to_an (pc := 0) rw_152_0 rfl (to_in (pc := 1) rw_152_1 rfl (s_pI (pc := 2) rw_152_2 hG rfl (fun M907 W906 => ?_))))))
    have hG908 := g_wf hG W906 rfl rfl (by decide)
    have F909 := FR.w F0 W906 (show 77 = 77 ∧ (4 = 4 ∨ 4 = 5 ∨ 7 ≤ 4 ∧ 4 ≤ 10 ∨ 4 = 15 ∨ 4 = 25) ∨ 80 ≤ 77 ∧ 77 ≤ 84 ∧ 8 ≤ 4 by decide)
    refine to_an (pc := 5) rw_152_5 rfl (to_an (pc := 6) rw_152_6 rfl ?_)
    have c_910 : M907.2.1 77 10 = (M.2.1 77 10) := (W_n W906 (by decide) rfl)
    refine tt_gI (pc := 7) rw_152_7 (g_o hG908 rfl) (v := (M.2.1 77 10)) c_910 (s_pI (pc := 10) rw_152_10 hG908 rfl (fun M912 W911 => ?_))
    have hG913 := g_wf hG908 W911 rfl rfl (by decide)
    have F914 := FR.w F909 W911 (show 77 = 77 ∧ (5 = 4 ∨ 5 = 5 ∨ 7 ≤ 5 ∧ 5 ≤ 10 ∨ 5 = 15 ∨ 5 = 25) ∨ 80 ≤ 77 ∧ 77 ≤ 84 ∧ 8 ≤ 5 by decide)
    refine to_c (pc := 13) rw_152_13 (x := (0 : Int32)) rfl rfl (s_r1 (pc := 14) rw_152_14 (A := 0) rfl (by decide) (s_r1 (pc := 14) rw_170_14 (A := 0) rfl (by decide) ?_))
    have k_915 : (0 : Int32).toInt = 0 := rfl
    have j_916 := (RS_f (fun a i z => W_n W911 (tg_37 a i z) rfl) (RS_f (fun a i z => W_n W906 (tg_38 a i z) rfl) q1))
    exact h (0 : Int32) M912 hG913 F914 (by decide) (by decide) j_916 (fun _ => x_field_n (fun h9 => by unfold x_fC at h9; omega)) (fun z => absurd z (by decide))
