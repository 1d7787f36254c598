section
theorem tg_39 {M M1 : mm_M} {s : x_S} (F : FR (fun a i : Nat => a = 77 ∧ 7 ≤ i ∧ i ≤ 10) M M1) : ∀ a i : Nat, (a = 77 ∧ 14 ≤ i ∧ i ≤ 16 ∨ 80 ≤ a ∧ a ≤ 84 ∧ 8 ≤ i ∧ (i : Int) < s.2.1 + 8 ∨ 85 ≤ a ∧ a ≤ 86 ∧ 12 ≤ i ∧ (i : Int) < s.2.2.1 + 12) → M1.2.1 a i = M.2.1 a i := fun a i z => F_n F (show ¬ (a = 77 ∧ 7 ≤ i ∧ i ≤ 10) by omega) rfl
theorem tg_40 {M M1 : mm_M} (F : FR (fun a i : Nat => a = 77 ∧ (i = 4 ∨ i = 5)) M M1) : ∀ a i : Nat, (a = 77 ∧ 6 ≤ i ∧ i ≤ 10) → M1.2.1 a i = M.2.1 a i := fun a i z => F_n F (show ¬ (a = 77 ∧ (i = 4 ∨ i = 5)) by omega) rfl
theorem tg_41 {M M1 : mm_M} (F : FR (fun a i : Nat => a = 77 ∧ (i = 4 ∨ i = 5)) M M1) : ∀ a i : Nat, a = 78 → M1.2.1 a i = M.2.1 a i := fun a i z => F_n F (show ¬ (a = 77 ∧ (i = 4 ∨ i = 5)) by omega) rfl
theorem tg_42 {M M1 : mm_M} (F : FR (fun a i : Nat => a = 77 ∧ 7 ≤ i ∧ i ≤ 10) M M1) : ∀ a i : Nat, a = 78 → M1.2.1 a i = M.2.1 a i := fun a i z => F_n F (show ¬ (a = 77 ∧ 7 ≤ i ∧ i ≤ 10) by omega) rfl
theorem tg_43 {M M1 : mm_M} (F : FR (fun a i : Nat => a = 77 ∧ (i = 4 ∨ i = 5)) M M1) : ∀ a i : Nat, a = 79 → M1.2.1 a i = M.2.1 a i := fun a i z => F_n F (show ¬ (a = 77 ∧ (i = 4 ∨ i = 5)) by omega) rfl
theorem tg_44 {M M1 : mm_M} (F : FR (fun a i : Nat => a = 77 ∧ 7 ≤ i ∧ i ≤ 10) M M1) : ∀ a i : Nat, a = 79 → M1.2.1 a i = M.2.1 a i := fun a i z => F_n F (show ¬ (a = 77 ∧ 7 ≤ i ∧ i ≤ 10) by omega) rfl
theorem tg_45 {M M1 : mm_M} (F : FR (fun a i : Nat => a < 0) M M1) : ∀ a i : Nat, (a = 77 ∧ 6 ≤ i ∧ i ≤ 10) → M1.2.1 a i = M.2.1 a i := fun a i z => F_n F (show ¬ (a < 0) by omega) rfl
theorem tg_46 {M M1 : mm_M} (F : FR (fun a i : Nat => a < 0) M M1) : ∀ a i : Nat, a = 79 → M1.2.1 a i = M.2.1 a i := fun a i z => F_n F (show ¬ (a < 0) by omega) rfl
theorem tg_47 {M M1 : mm_M} {s : x_S} (F : FR (fun a i : Nat => a < 0) M M1) : ∀ a i : Nat, (a = 77 ∧ 14 ≤ i ∧ i ≤ 16 ∨ 80 ≤ a ∧ a ≤ 84 ∧ 8 ≤ i ∧ (i : Int) < s.2.1 + 8 ∨ 85 ≤ a ∧ a ≤ 86 ∧ 12 ≤ i ∧ (i : Int) < s.2.2.1 + 12) → M1.2.1 a i = M.2.1 a i := fun a i z => F_n F (show ¬ (a < 0) by omega) rfl
theorem tg_48 {M M1 : mm_M} {s : x_S} (F : FR (fun a i : Nat => a = 77 ∧ (i = 4 ∨ i = 5)) M M1) : ∀ a i : Nat, (a = 77 ∧ 14 ≤ i ∧ i ≤ 16 ∨ 80 ≤ a ∧ a ≤ 84 ∧ 8 ≤ i ∧ (i : Int) < s.2.1 + 8 ∨ 85 ≤ a ∧ a ≤ 86 ∧ 12 ≤ i ∧ (i : Int) < s.2.2.1 + 12) → M1.2.1 a i = M.2.1 a i := fun a i z => F_n F (show ¬ (a = 77 ∧ (i = 4 ∨ i = 5)) by omega) rfl
theorem tg_49 : ∀ a i : Nat, (a = 77 ∧ 7 ≤ i ∧ i ≤ 10) → (a = 77 ∧ (i = 4 ∨ i = 5 ∨ 7 ≤ i ∧ i ≤ 10 ∨ i = 15 ∨ i = 25) ∨ 80 ≤ a ∧ a ≤ 84 ∧ 8 ≤ i) := fun a i z => by omega
theorem tg_50 : ∀ a i : Nat, (a = 77 ∧ (i = 4 ∨ i = 5)) → (a = 77 ∧ (i = 4 ∨ i = 5 ∨ 7 ≤ i ∧ i ≤ 10 ∨ i = 15 ∨ i = 25) ∨ 80 ≤ a ∧ a ≤ 84 ∧ 8 ≤ i) := fun a i z => by omega
theorem tg_51 : ∀ a i : Nat, (a < 0) → (a = 77 ∧ (i = 4 ∨ i = 5 ∨ 7 ≤ i ∧ i ≤ 10 ∨ i = 15 ∨ i = 25) ∨ 80 ≤ a ∧ a ≤ 84 ∧ 8 ≤ i) := fun a i z => by omega
theorem tg_52 : ∀ a i : Nat, (a = 77 ∧ 6 ≤ i ∧ i ≤ 10) → ¬ (a = 77 ∧ i = 15) := fun a i z => by omega
theorem tg_53 : ∀ a i j : Nat, (a = 77 ∧ 6 ≤ i ∧ i ≤ 10) → ¬ (a = 84 ∧ i = j) := fun a i j z => by omega
theorem tg_54 : ∀ a i j : Nat, (a = 77 ∧ 6 ≤ i ∧ i ≤ 10) → ¬ (a = 83 ∧ i = j) := fun a i j z => by omega
theorem tg_55 : ∀ a i j : Nat, (a = 77 ∧ 6 ≤ i ∧ i ≤ 10) → ¬ (a = 82 ∧ i = j) := fun a i j z => by omega
theorem tg_56 : ∀ a i j : Nat, (a = 77 ∧ 6 ≤ i ∧ i ≤ 10) → ¬ (a = 81 ∧ i = j) := fun a i j z => by omega
theorem tg_57 : ∀ a i j : Nat, (a = 77 ∧ 6 ≤ i ∧ i ≤ 10) → ¬ (a = 80 ∧ i = j) := fun a i j z => by omega
set_option maxRecDepth 4000 in
set_option maxHeartbeats 0 in
theorem E_170 {X : mm_X} {d : Nat} {M : mm_M} {Q : Option Value → mm_M → Prop} {t : Nat → Int} {nn : Int} {a : Int} {sg : x_S} {k : x_K} (hX : g_X X) (hd : 3 ≤ d) (hG : g_G M) (q1 : RS M t nn) (q2 : (M.2.1 77 10).toInt = a) (q3 : 0 ≤ nn) (q4 : nn ≤ 500) (q5 : TR M t nn) (q6 : W9 M) (q7 : PLr M sg) (q8 : CWr M sg) (h : ∀ (r : Int32) (M1 : mm_M), g_G M1 → FR md_fl170 M M1 → (0 ≤ r.toInt) → (r.toInt ≤ 1) → RS M1 t nn → ((r.toInt = 0 → x_field t nn sg (x_ns t nn a) k = none)) → ((r.toInt = 1 → FOr (x_field t nn sg (x_ns t nn a) k) k M1 sg)) → Q (some (.int r)) M1) : mm_T X d 169 0 [.ref 77, .null, .null, .null, .null, .null, .null, .null, .null] [] M Q := by
  have F0 : FR md_fl170 M M := FR.rf
  have b_1 := g_b hG (a := 77) (i := 10) (lo := 0) (hi := 500) rfl rfl
  have z_2 := q7.2.1
  have z_3 := q7.2.2.1
  have z_4 := q7.2.2.2.1
  have z_5 := q7.1
  have z_6 := z_5.1
  have z_7 := z_5.2.1
  have z_8 := z_5.2.2.1
  have z_9 := z_5.2.2.2.1
  have z_10 := z_5.2.2.2.2.1
  have z_11 := z_5.2.2.2.2.2.1
  have b_12 := g_b hG (a := 77) (i := 14) (lo := 10) (hi := 60) rfl rfl
  have b_13 := g_b hG (a := 77) (i := 15) (lo := 0) (hi := 8) rfl rfl
  have b_14 := g_b hG (a := 77) (i := 16) (lo := 0) (hi := 12) rfl rfl
  refine to_an (pc := 0) rw_170_0 rfl (tt_gI (pc := 1) rw_170_1 (g_o hG rfl) (v := (M.2.1 77 15)) rfl (to_c (pc := 4) rw_170_4 (x := (8 : Int32)) rfl rfl (b_cne (pc := 6) rw_170_6 (A := (M.2.1 77 15).toInt) (B := 8) rfl rfl (fun h15 => ?_) (fun h15 => ?_))))
  · refine to_an (pc := 15) rw_170_15 rfl (s_v (pc := 16) rw_170_16 (dp0 hd (by decide)) (ls0 := [.ref 77]) rfl (Nat.le_of_ble_eq_true rfl) (Nat.le_of_ble_eq_true rfl) rfl (to_rc rfl rfl rfl (g_o hG rfl)) rfl ?_)
    have b_16 := g_b hG (a := 77) (i := 7) (lo := 0) (hi := 500) rfl rfl
    have b_17 := g_b hG (a := 77) (i := 6) (lo := 0) (hi := 500) rfl rfl
    have z_18 := RS_b q1 (a := a) (by omega)
    refine E_156 hX (dp1 hd (by decide)) hG (by omega) (by omega) (by omega) (by omega) q5 q6  (fun M25 hG20 F19 p_21 p_22 p_23 p_24 => ?_)
    have F26 := FR.c F0 F19 tg_49
    have b_27 := g_b hG20 (a := 77) (i := 7) (lo := 0) (hi := 500) rfl rfl
    have c_28 : M25.2.1 77 6 = (M.2.1 77 6) := (F_n F19 (show ¬ (77 = 77 ∧ 7 ≤ 6 ∧ 6 ≤ 10) by decide) rfl)
    have t_29 : (M25.2.1 77 6).toInt = (M.2.1 77 6).toInt := congrArg Int32.toInt c_28
    have b_30 := g_b hG20 (a := 77) (i := 8) (lo := 0) (hi := 5) rfl rfl
    have b_31 := g_b hG20 (a := 77) (i := 10) (lo := 0) (hi := 500) rfl rfl
    have z_32 := RS_s p_24.2 (a := a) (by omega)
    refine to_an (pc := 19) rw_170_19 rfl (s_v (pc := 20) rw_170_20 (dp0 hd (by decide)) (ls0 := [.ref 77]) rfl (Nat.le_of_ble_eq_true rfl) (Nat.le_of_ble_eq_true rfl) rfl (to_rc rfl rfl rfl (g_o hG20 rfl)) rfl ?_)
    have j_33 := (PLr_f (tg_39 F19) (F_nl F19 (show ¬ (77 = 77 ∧ 7 ≤ 25 ∧ 25 ≤ 10) by decide) rfl) q7)
    refine E_169 hX (dp1 hd (by decide)) hG20 p_24.1 (by omega) j_33 (t := t) (nn := nn) (a := (x_ns t nn a)) (sg := sg) (fun r34 M42 hG36 F35 p_37 p_38 p_39 p_40 p_41 => ?_)
    have F43 := FR.c F26 F35 tg_50
    rcases (show r34.toInt = 0 ∨ r34.toInt = 1 by omega) with h44 | h44
    · skip
      have p_45 := p_41 (by omega)
      clear p_39 p_40 p_41
      refine b_ine_f (pc := 23) rw_170_23 (A := r34.toInt) rfl (by omega) (to_c (pc := 26) rw_170_26 (x := (0 : Int32)) rfl rfl (s_r1 (pc := 27) rw_170_27 (A := 0) rfl (by decide) ?_))
      have k_46 : (0 : Int32).toInt = 0 := rfl
      have j_47 := (RS_f (tg_40 F35) p_24.1)
      exact h (0 : Int32) M42 hG36 F43 (by decide) (by decide) j_47 (fun _ => x_field_n (fun h9 => by unfold x_fC at h9; omega)) (fun z => absurd z (by decide))
    · skip
      have p_48 := p_39 (by omega)
      have p_49 := p_40 (by omega)
      clear p_39 p_40 p_41
      refine b_ine_t (pc := 23) rw_170_23 (A := r34.toInt) rfl (by omega) (to_c (pc := 28) rw_170_28 (x := (8 : Int32)) rfl rfl (to_an (pc := 30) rw_170_30 rfl ?_))
      have c_50 : M42.2.1 77 15 = (M.2.1 77 15) := (F_n F35 (show ¬ (77 = 77 ∧ (15 = 4 ∨ 15 = 5)) by decide) (F_n F19 (show ¬ (77 = 77 ∧ 7 ≤ 15 ∧ 15 ≤ 10) by decide) rfl))
      refine tt_gI (pc := 31) rw_170_31 (g_o hG36 rfl) (v := (M.2.1 77 15)) c_50 (s_add (pc := 34) rw_170_34 (A := 8) (B := (M.2.1 77 15).toInt) rfl rfl (by omega) (fun v51 e52 => to_isn (pc := 35) rw_170_35 (ls2 := [.ref 77, .int v51, .null, .null, .null, .null, .null, .null, .null]) rfl rfl (to_an (pc := 36) rw_170_36 rfl ?_)))
      have c_53 : M42.2.1 77 9 = (M25.2.1 77 9) := (F_n F35 (show ¬ (77 = 77 ∧ (9 = 4 ∨ 9 = 5)) by decide) rfl)
      refine tt_gI (pc := 37) rw_170_37 (g_o hG36 rfl) (v := (M25.2.1 77 9)) c_53 (to_isn (pc := 40) rw_170_40 (ls2 := [.ref 77, .int v51, .int (M25.2.1 77 9), .null, .null, .null, .null, .null, .null]) rfl rfl (to_an (pc := 41) rw_170_41 rfl (s_v (pc := 42) rw_170_42 (dp0 hd (by decide)) (ls0 := [.ref 77]) rfl (Nat.le_of_ble_eq_true rfl) (Nat.le_of_ble_eq_true rfl) rfl (to_rc rfl rfl rfl (g_o hG36 rfl)) rfl ?_)))
      have c_54 : M42.2.1 77 7 = (M25.2.1 77 7) := (F_n F35 (show ¬ (77 = 77 ∧ (7 = 4 ∨ 7 = 5)) by decide) rfl)
      have t_55 : (M42.2.1 77 7).toInt = (M25.2.1 77 7).toInt := congrArg Int32.toInt c_54
      have c_56 : M42.2.1 77 6 = (M.2.1 77 6) := (F_n F35 (show ¬ (77 = 77 ∧ (6 = 4 ∨ 6 = 5)) by decide) c_28)
      have t_57 : (M42.2.1 77 6).toInt = (M.2.1 77 6).toInt := congrArg Int32.toInt c_56
      have c_58 : M42.2.1 77 10 = (M25.2.1 77 10) := (F_n F35 (show ¬ (77 = 77 ∧ (10 = 4 ∨ 10 = 5)) by decide) rfl)
      have t_59 : (M42.2.1 77 10).toInt = (M25.2.1 77 10).toInt := congrArg Int32.toInt c_58
      have j_60 := (RS_f (tg_40 F35) p_24.1)
      have z_61 := RS_b j_60 (a := (x_ns t nn a)) (by omega)
      have j_62 := (TR_f (tg_41 F35) (TR_f (tg_42 F19) q5))
      have j_63 := (W9_f (tg_43 F35) (W9_f (tg_44 F19) q6))
      refine E_156 hX (dp1 hd (by decide)) hG36 (by omega) (by omega) (by omega) (by omega) j_62 j_63  (fun M70 hG65 F64 p_66 p_67 p_68 p_69 => ?_)
      have F71 := FR.c F43 F64 tg_49
      have b_72 := g_b hG65 (a := 77) (i := 7) (lo := 0) (hi := 500) rfl rfl
      have c_73 : M70.2.1 77 6 = (M.2.1 77 6) := (F_n F64 (show ¬ (77 = 77 ∧ 7 ≤ 6 ∧ 6 ≤ 10) by decide) c_56)
      have t_74 : (M70.2.1 77 6).toInt = (M.2.1 77 6).toInt := congrArg Int32.toInt c_73
      have b_75 := g_b hG65 (a := 77) (i := 8) (lo := 0) (hi := 5) rfl rfl
      have b_76 := g_b hG65 (a := 77) (i := 10) (lo := 0) (hi := 500) rfl rfl
      have z_77 := RS_s p_69.2 (a := (x_ns t nn a)) (by omega)
      have c_78 := RS_u p_69.1 (a := (x_ns t nn (x_ns t nn a))) (by omega)
      unfold x_R at c_78
      refine to_an (pc := 45) rw_170_45 rfl (tt_gI (pc := 46) rw_170_46 (g_o hG65 rfl) (v := (M70.2.1 77 8)) rfl (to_c (pc := 49) rw_170_49 (x := (1 : Int32)) rfl rfl (b_cne (pc := 50) rw_170_50 (A := (M70.2.1 77 8).toInt) (B := 1) rfl rfl (fun h79 => ?_) (fun h79 => ?_))))
      · refine to_an (pc := 70) rw_170_70 rfl (to_c (pc := 71) rw_170_71 (x := (1 : Int32)) rfl rfl (s_v (pc := 72) rw_170_72 (dp0 hd (by decide)) (ls0 := [.ref 77, .int (1 : Int32)]) rfl (Nat.le_of_ble_eq_true rfl) (Nat.le_of_ble_eq_true rfl) rfl (to_rc rfl rfl rfl (g_o hG65 rfl)) rfl (to_an (pc := 0) rw_152_0 rfl (to_in (pc := 1) rw_152_1 rfl (s_pI (pc := 2) rw_152_2 hG65 rfl (fun M81 W80 => ?_))))))
        have hG82 := g_wf hG65 W80 rfl rfl (by decide)
        have F83 := FR.w F71 W80 (show 77 = 77 ∧ (4 = 4 ∨ 4 = 5 ∨ 7 ≤ 4 ∧ 4 ≤ 10 ∨ 4 = 15 ∨ 4 = 25) ∨ 80 ≤ 77 ∧ 77 ≤ 84 ∧ 8 ≤ 4 by decide)
        refine to_an (pc := 5) rw_152_5 rfl (to_an (pc := 6) rw_152_6 rfl ?_)
        have c_84 : M81.2.1 77 10 = (M70.2.1 77 10) := (W_n W80 (by decide) rfl)
        refine tt_gI (pc := 7) rw_152_7 (g_o hG82 rfl) (v := (M70.2.1 77 10)) c_84 (s_pI (pc := 10) rw_152_10 hG82 rfl (fun M86 W85 => ?_))
        have hG87 := g_wf hG82 W85 rfl rfl (by decide)
        have F88 := FR.w F83 W85 (show 77 = 77 ∧ (5 = 4 ∨ 5 = 5 ∨ 7 ≤ 5 ∧ 5 ≤ 10 ∨ 5 = 15 ∨ 5 = 25) ∨ 80 ≤ 77 ∧ 77 ≤ 84 ∧ 8 ≤ 5 by decide)
        refine to_c (pc := 13) rw_152_13 (x := (0 : Int32)) rfl rfl (s_r1 (pc := 14) rw_152_14 (A := 0) rfl (by decide) (s_r1 (pc := 75) rw_170_75 (A := 0) rfl (by decide) ?_))
        have k_89 : (0 : Int32).toInt = 0 := rfl
        have j_90 := (RS_f (fun a i z => W_n W85 (tg_37 a i z) rfl) (RS_f (fun a i z => W_n W80 (tg_38 a i z) rfl) p_69.1))
        exact h (0 : Int32) M86 hG87 F88 (by decide) (by decide) j_90 (fun _ => x_field_n (fun h9 => by unfold x_fC at h9; omega)) (fun z => absurd z (by decide))
      · refine to_an (pc := 53) rw_170_53 rfl (tt_gI (pc := 54) rw_170_54 (g_o hG65 rfl) (v := (M70.2.1 77 9)) rfl (to_c (pc := 57) rw_170_57 (x := (3 : Int32)) rfl rfl (b_clt (pc := 58) rw_170_58 (A := (M70.2.1 77 9).toInt) (B := 3) rfl rfl (fun h91 => ?_) (fun h91 => ?_))))
        · refine to_an (pc := 70) rw_170_70 rfl (to_c (pc := 71) rw_170_71 (x := (1 : Int32)) rfl rfl (s_v (pc := 72) rw_170_72 (dp0 hd (by decide)) (ls0 := [.ref 77, .int (1 : Int32)]) rfl (Nat.le_of_ble_eq_true rfl) (Nat.le_of_ble_eq_true rfl) rfl (to_rc rfl rfl rfl (g_o hG65 rfl)) rfl (to_an (pc := 0) rw_152_0 rfl (to_in (pc := 1) rw_152_1 rfl (s_pI (pc := 2) rw_152_2 hG65 rfl (fun M93 W92 => ?_))))))
          have hG94 := g_wf hG65 W92 rfl rfl (by decide)
          have F95 := FR.w F71 W92 (show 77 = 77 ∧ (4 = 4 ∨ 4 = 5 ∨ 7 ≤ 4 ∧ 4 ≤ 10 ∨ 4 = 15 ∨ 4 = 25) ∨ 80 ≤ 77 ∧ 77 ≤ 84 ∧ 8 ≤ 4 by decide)
          refine to_an (pc := 5) rw_152_5 rfl (to_an (pc := 6) rw_152_6 rfl ?_)
          have c_96 : M93.2.1 77 10 = (M70.2.1 77 10) := (W_n W92 (by decide) rfl)
          refine tt_gI (pc := 7) rw_152_7 (g_o hG94 rfl) (v := (M70.2.1 77 10)) c_96 (s_pI (pc := 10) rw_152_10 hG94 rfl (fun M98 W97 => ?_))
          have hG99 := g_wf hG94 W97 rfl rfl (by decide)
          have F100 := FR.w F95 W97 (show 77 = 77 ∧ (5 = 4 ∨ 5 = 5 ∨ 7 ≤ 5 ∧ 5 ≤ 10 ∨ 5 = 15 ∨ 5 = 25) ∨ 80 ≤ 77 ∧ 77 ≤ 84 ∧ 8 ≤ 5 by decide)
          refine to_c (pc := 13) rw_152_13 (x := (0 : Int32)) rfl rfl (s_r1 (pc := 14) rw_152_14 (A := 0) rfl (by decide) (s_r1 (pc := 75) rw_170_75 (A := 0) rfl (by decide) ?_))
          have k_101 : (0 : Int32).toInt = 0 := rfl
          have j_102 := (RS_f (fun a i z => W_n W97 (tg_37 a i z) rfl) (RS_f (fun a i z => W_n W92 (tg_38 a i z) rfl) p_69.1))
          exact h (0 : Int32) M98 hG99 F100 (by decide) (by decide) j_102 (fun _ => x_field_n (fun h9 => by unfold x_fC at h9; omega)) (fun z => absurd z (by decide))
        · refine to_an (pc := 61) rw_170_61 rfl (tt_gI (pc := 62) rw_170_62 (g_o hG65 rfl) (v := (M70.2.1 77 9)) rfl (to_c (pc := 65) rw_170_65 (x := (6 : Int32)) rfl rfl (b_cle (pc := 67) rw_170_67 (A := (M70.2.1 77 9).toInt) (B := 6) rfl rfl (fun h103 => ?_) (fun h103 => ?_))))
          · have z_104 : x_kind t nn (x_ns t nn (x_ns t nn a)) = 1 ∧ (x_kx (x_val t nn (x_ns t nn (x_ns t nn a)))) = (M70.2.1 77 9).toInt := by omega
            clear c_78
            refine to_an (pc := 76) rw_170_76 rfl (tt_gI (pc := 77) rw_170_77 (g_o hG65 rfl) (v := (M70.2.1 77 9)) rfl (to_c (pc := 80) rw_170_80 (x := (3 : Int32)) rfl rfl (s_sub (pc := 81) rw_170_81 (A := (M70.2.1 77 9).toInt) (B := 3) rfl rfl (by omega) (fun v105 e106 => to_isn (pc := 82) rw_170_82 (ls2 := [.ref 77, .int v51, .int (M25.2.1 77 9), .int v105, .null, .null, .null, .null, .null]) rfl rfl (to_an (pc := 83) rw_170_83 rfl (s_v (pc := 84) rw_170_84 (dp0 hd (by decide)) (ls0 := [.ref 77]) rfl (Nat.le_of_ble_eq_true rfl) (Nat.le_of_ble_eq_true rfl) rfl (to_rc rfl rfl rfl (g_o hG65 rfl)) rfl ?_))))))
            have z_107 := RS_b p_69.1 (a := (x_ns t nn (x_ns t nn a))) (by omega)
            have j_108 := (TR_f (tg_42 F64) j_62)
            have j_109 := (W9_f (tg_44 F64) j_63)
            refine E_156 hX (dp1 hd (by decide)) hG65 (by omega) (by omega) (by omega) (by omega) j_108 j_109  (fun M116 hG111 F110 p_112 p_113 p_114 p_115 => ?_)
            have F117 := FR.c F71 F110 tg_49
            have b_118 := g_b hG111 (a := 77) (i := 7) (lo := 0) (hi := 500) rfl rfl
            have c_119 : M116.2.1 77 6 = (M.2.1 77 6) := (F_n F110 (show ¬ (77 = 77 ∧ 7 ≤ 6 ∧ 6 ≤ 10) by decide) c_73)
            have t_120 : (M116.2.1 77 6).toInt = (M.2.1 77 6).toInt := congrArg Int32.toInt c_119
            have b_121 := g_b hG111 (a := 77) (i := 8) (lo := 0) (hi := 5) rfl rfl
            have b_122 := g_b hG111 (a := 77) (i := 10) (lo := 0) (hi := 500) rfl rfl
            have z_123 := RS_s p_115.2 (a := (x_ns t nn (x_ns t nn a))) (by omega)
            refine to_in (pc := 87) rw_170_87 rfl (b_ieq (pc := 88) rw_170_88 (A := v105.toInt) rfl (fun h124 => ?_) (fun h124 => ?_))
            · refine to_c (pc := 96) rw_170_96 (x := (1 : Int32)) rfl rfl (to_go (pc := 97) rw_170_97 (to_is (pc := 101) rw_170_101 (ls2 := [.ref 77, .int v51, .int (M25.2.1 77 9), .int v105, .int (1 : Int32), .null, .null, .null, .null]) rfl rfl (to_in (pc := 103) rw_170_103 rfl (to_c (pc := 104) rw_170_104 (x := (1 : Int32)) rfl rfl (b_cne_t (pc := 105) rw_170_105 (A := v105.toInt) (B := 1) rfl rfl (by omega) (to_in (pc := 112) rw_170_112 rfl (to_c (pc := 113) rw_170_113 (x := (2 : Int32)) rfl rfl (b_cne_t (pc := 114) rw_170_114 (A := v105.toInt) (B := 2) rfl rfl (by omega) (to_c (pc := 121) rw_170_121 (x := (0 : Int32)) rfl rfl (to_is (pc := 122) rw_170_122 (ls2 := [.ref 77, .int v51, .int (M25.2.1 77 9), .int v105, .int (1 : Int32), .int (0 : Int32), .null, .null, .null]) rfl rfl (to_an (pc := 124) rw_170_124 rfl ?_)))))))))))
              refine to_c (pc := 125) rw_170_125 (x := (0 : Int32)) rfl rfl (to_an (pc := 126) rw_170_126 rfl ?_)
              have c_125 : M116.2.1 77 14 = (M.2.1 77 14) := (F_n F110 (show ¬ (77 = 77 ∧ 7 ≤ 14 ∧ 14 ≤ 10) by decide) (F_n F64 (show ¬ (77 = 77 ∧ 7 ≤ 14 ∧ 14 ≤ 10) by decide) (F_n F35 (show ¬ (77 = 77 ∧ (14 = 4 ∨ 14 = 5)) by decide) (F_n F19 (show ¬ (77 = 77 ∧ 7 ≤ 14 ∧ 14 ≤ 10) by decide) rfl))))
              refine tt_gI (pc := 127) rw_170_127 (g_o hG111 rfl) (v := (M.2.1 77 14)) c_125 (to_c (pc := 130) rw_170_130 (x := (1 : Int32)) rfl rfl (s_sub (pc := 131) rw_170_131 (A := (M.2.1 77 14).toInt) (B := 1) rfl rfl (by omega) (fun v126 e127 => to_i (pc := 132) rw_170_132 rfl (s_sub (pc := 134) rw_170_134 (A := v126.toInt) (B := 0) rfl rfl (by omega) (fun v128 e129 => s_v (pc := 135) rw_170_135 (dp0 hd (by decide)) (ls0 := [.ref 77, .int (0 : Int32), .int v128]) rfl (Nat.le_of_ble_eq_true rfl) (Nat.le_of_ble_eq_true rfl) rfl (to_rc rfl rfl rfl (g_o hG111 rfl)) rfl ?_)))))
              have k_130 : (0 : Int32).toInt = 0 := rfl
              refine E_162 hX (dp1 hd (by decide)) hG111 p_115.1 (by omega) (by omega) (l := (0 : Int32)) (m := v128) (t := t) (nn := nn) (a := (x_ns t nn (x_ns t nn (x_ns t nn a)))) (fun r131 M138 hG133 F132 p_134 p_135 p_136 p_137 => ?_)
              have F139 := FR.c F117 F132 tg_50
              rcases (show r131.toInt = 0 ∨ r131.toInt = 1 by omega) with h140 | h140
              · skip
                have p_141 := p_137 (by omega)
                clear p_136 p_137
                have z_142 := x_val_b (t := t) (nn := nn) (a := (x_ns t nn (x_ns t nn (x_ns t nn a))))
                refine b_ine_f (pc := 138) rw_170_138 (A := r131.toInt) rfl (by omega) (to_c (pc := 141) rw_170_141 (x := (0 : Int32)) rfl rfl (s_r1 (pc := 142) rw_170_142 (A := 0) rfl (by decide) ?_))
                have j_143 := (RS_f (tg_40 F132) p_115.1)
                exact h (0 : Int32) M138 hG133 F139 (by decide) (by decide) j_143 (fun _ => x_field_n (fun h9 => by unfold x_fC at h9; omega)) (fun z => absurd z (by decide))
              · skip
                have p_144 := p_136 (by omega)
                clear p_136 p_137
                have c_145 : M138.2.1 77 9 = (M116.2.1 77 9) := (F_n F132 (show ¬ (77 = 77 ∧ (9 = 4 ∨ 9 = 5)) by decide) rfl)
                have z_146 := x_val_b (t := t) (nn := nn) (a := (x_ns t nn (x_ns t nn (x_ns t nn a)))) (by omega)
                refine b_ine_t (pc := 138) rw_170_138 (A := r131.toInt) rfl (by omega) (to_an (pc := 143) rw_170_143 rfl (tt_gI (pc := 144) rw_170_144 (g_o hG133 rfl) (v := (M116.2.1 77 9)) c_145 (to_is (pc := 147) rw_170_147 (ls2 := [.ref 77, .int v51, .int (M25.2.1 77 9), .int v105, .int (1 : Int32), .int (0 : Int32), .int (M116.2.1 77 9), .null, .null]) rfl rfl (to_an (pc := 149) rw_170_149 rfl (tt_gJ (pc := 150) rw_170_150 (g_o hG133 rfl) (v := (M.2.2.1 77 25)) (F_nl F132 (show ¬ (77 = 77 ∧ (25 = 4 ∨ 25 = 5)) by decide) (F_nl F110 (show ¬ (77 = 77 ∧ 7 ≤ 25 ∧ 25 ≤ 10) by decide) (F_nl F64 (show ¬ (77 = 77 ∧ 7 ≤ 25 ∧ 25 ≤ 10) by decide) (F_nl F35 (show ¬ (77 = 77 ∧ (25 = 4 ∨ 25 = 5)) by decide) (F_nl F19 (show ¬ (77 = 77 ∧ 7 ≤ 25 ∧ 25 ≤ 10) by decide) rfl))))) (to_i (pc := 153) rw_170_153 rfl (to_i (pc := 155) rw_170_155 rfl (to_i (pc := 157) rw_170_157 rfl (s_add (pc := 159) rw_170_159 (A := (M116.2.1 77 9).toInt) (B := 0) rfl rfl (by omega) (fun v147 e148 => s_s (pc := 160) rw_170_160 (dp0 hd (by decide)) (ls0 := [.int (M116.2.1 77 9), .int v147, .null, .null, .null]) rfl (Nat.le_of_ble_eq_true rfl) (Nat.le_of_ble_eq_true rfl) rfl (to_rcs rfl rfl) rfl (E_168 hX (dp1 hd (by decide)) hG133 (by omega) (by omega) (by omega) (by omega) (by omega) (a := (M116.2.1 77 9)) (b := v147) (fun r149 M153 hG151 F150 p_152 => ?_))))))))))))
                have F154 := FR.c F139 F150 tg_51
                refine to_2l (pc := 163) rw_170_163 (v := ((M.2.2.1 77 25) &&& r149)) rfl (to_cl (pc := 164) rw_170_164 rfl (x := (0 : Int64)) rfl (s_lcmpE (pc := 165) rw_170_165 (fun v155 e156 => ?_)))
                have b_157 := x_eq_b (x := ((M.2.2.1 77 25) &&& r149)) (y := (0 : Int64))
                have z_158 := x_free_r q7 p_152
                have z_159 := x_free_v (s := sg) (f := (M116.2.1 77 9).toInt) (l := v147.toInt) (f2 := (x_val t nn (x_ns t nn (x_ns t nn (x_ns t nn a))))) (l2 := (x_val t nn (x_ns t nn (x_ns t nn (x_ns t nn a))))) (by omega) (by omega)
                refine b_ieq (pc := 166) rw_170_166 (A := v155.toInt) rfl (fun h160 => ?_) (fun h160 => ?_)
                · refine to_an (pc := 175) rw_170_175 rfl (s_v (pc := 176) rw_170_176 (dp0 hd (by decide)) (ls0 := [.ref 77]) rfl (Nat.le_of_ble_eq_true rfl) (Nat.le_of_ble_eq_true rfl) rfl (to_rc rfl rfl rfl (g_o hG151 rfl)) rfl ?_)
                  have c_161 : M153.2.1 77 7 = (M116.2.1 77 7) := (F_n F150 (show ¬ (77 < 0) by decide) (F_n F132 (show ¬ (77 = 77 ∧ (7 = 4 ∨ 7 = 5)) by decide) rfl))
                  have t_162 : (M153.2.1 77 7).toInt = (M116.2.1 77 7).toInt := congrArg Int32.toInt c_161
                  have c_163 : M153.2.1 77 6 = (M.2.1 77 6) := (F_n F150 (show ¬ (77 < 0) by decide) (F_n F132 (show ¬ (77 = 77 ∧ (6 = 4 ∨ 6 = 5)) by decide) c_119))
                  have t_164 : (M153.2.1 77 6).toInt = (M.2.1 77 6).toInt := congrArg Int32.toInt c_163
                  have c_165 : M153.2.1 77 10 = (M116.2.1 77 10) := (F_n F150 (show ¬ (77 < 0) by decide) (F_n F132 (show ¬ (77 = 77 ∧ (10 = 4 ∨ 10 = 5)) by decide) rfl))
                  have t_166 : (M153.2.1 77 10).toInt = (M116.2.1 77 10).toInt := congrArg Int32.toInt c_165
                  have j_167 := (RS_f (tg_45 F150) (RS_f (tg_40 F132) p_115.1))
                  have z_168 := RS_b j_167 (a := (x_ns t nn (x_ns t nn (x_ns t nn a)))) (by omega)
                  have j_169 := (TR_f (tg_9 F150) (TR_f (tg_41 F132) (TR_f (tg_42 F110) j_108)))
                  have j_170 := (W9_f (tg_46 F150) (W9_f (tg_43 F132) (W9_f (tg_44 F110) j_109)))
                  refine E_156 hX (dp1 hd (by decide)) hG151 (by omega) (by omega) (by omega) (by omega) j_169 j_170  (fun M177 hG172 F171 p_173 p_174 p_175 p_176 => ?_)
                  have F178 := FR.c F154 F171 tg_49
                  have b_179 := g_b hG172 (a := 77) (i := 7) (lo := 0) (hi := 500) rfl rfl
                  have c_180 : M177.2.1 77 6 = (M.2.1 77 6) := (F_n F171 (show ¬ (77 = 77 ∧ 7 ≤ 6 ∧ 6 ≤ 10) by decide) c_163)
                  have t_181 : (M177.2.1 77 6).toInt = (M.2.1 77 6).toInt := congrArg Int32.toInt c_180
                  have b_182 := g_b hG172 (a := 77) (i := 8) (lo := 0) (hi := 5) rfl rfl
                  have b_183 := g_b hG172 (a := 77) (i := 10) (lo := 0) (hi := 500) rfl rfl
                  have z_184 := RS_s p_176.2 (a := (x_ns t nn (x_ns t nn (x_ns t nn a)))) (by omega)
                  refine to_i (pc := 179) rw_170_179 rfl (to_i (pc := 181) rw_170_181 rfl (s_add (pc := 183) rw_170_183 (A := (M116.2.1 77 9).toInt) (B := 0) rfl rfl (by omega) (fun v185 e186 => to_is (pc := 184) rw_170_184 (ls2 := [.ref 77, .int v51, .int (M25.2.1 77 9), .int v105, .int (1 : Int32), .int (0 : Int32), .int (M116.2.1 77 9), .int v185, .null]) rfl rfl (to_c (pc := 186) rw_170_186 (x := (10 : Int32)) rfl rfl (to_is (pc := 188) rw_170_188 (ls2 := [.ref 77, .int v51, .int (M25.2.1 77 9), .int v105, .int (1 : Int32), .int (0 : Int32), .int (M116.2.1 77 9), .int v185, .int (10 : Int32)]) rfl rfl (to_i (pc := 190) rw_170_190 rfl (b_ieq_f (pc := 192) rw_170_192 (A := 1) rfl (by decide) (to_an (pc := 195) rw_170_195 rfl (to_in (pc := 196) rw_170_196 rfl (b_ine_f (pc := 197) rw_170_197 (A := v105.toInt) rfl (by omega) (to_i (pc := 200) rw_170_200 rfl ?_)))))))))))
                  refine to_c (pc := 202) rw_170_202 (x := (1 : Int32)) rfl rfl (s_add (pc := 203) rw_170_203 (A := (M116.2.1 77 9).toInt) (B := 1) rfl rfl (by omega) (fun v187 e188 => to_go (pc := 204) rw_170_204 (to_an (pc := 209) rw_170_209 rfl ?_)))
                  have c_189 : M177.2.1 77 14 = (M.2.1 77 14) := (F_n F171 (show ¬ (77 = 77 ∧ 7 ≤ 14 ∧ 14 ≤ 10) by decide) (F_n F150 (show ¬ (77 < 0) by decide) (F_n F132 (show ¬ (77 = 77 ∧ (14 = 4 ∨ 14 = 5)) by decide) c_125)))
                  refine tt_gI (pc := 210) rw_170_210 (g_o hG172 rfl) (v := (M.2.1 77 14)) c_189 (to_c (pc := 213) rw_170_213 (x := (1 : Int32)) rfl rfl (s_sub (pc := 214) rw_170_214 (A := (M.2.1 77 14).toInt) (B := 1) rfl rfl (by omega) (fun v190 e191 => s_v (pc := 215) rw_170_215 (dp0 hd (by decide)) (ls0 := [.ref 77, .int v187, .int v190]) rfl (Nat.le_of_ble_eq_true rfl) (Nat.le_of_ble_eq_true rfl) rfl (to_rc rfl rfl rfl (g_o hG172 rfl)) rfl (E_162 hX (dp1 hd (by decide)) hG172 p_176.1 (by omega) (by omega) (l := v187) (m := v190) (t := t) (nn := nn) (a := (x_ns t nn (x_ns t nn (x_ns t nn (x_ns t nn a))))) (fun r192 M199 hG194 F193 p_195 p_196 p_197 p_198 => ?_)))))
                  have F200 := FR.c F178 F193 tg_50
                  rcases (show r192.toInt = 0 ∨ r192.toInt = 1 by omega) with h201 | h201
                  · skip
                    have p_202 := p_198 (by omega)
                    clear p_197 p_198
                    have z_203 := x_val_b (t := t) (nn := nn) (a := (x_ns t nn (x_ns t nn (x_ns t nn (x_ns t nn a)))))
                    refine b_ine_f (pc := 218) rw_170_218 (A := r192.toInt) rfl (by omega) (to_c (pc := 221) rw_170_221 (x := (0 : Int32)) rfl rfl (s_r1 (pc := 222) rw_170_222 (A := 0) rfl (by decide) ?_))
                    have j_204 := (RS_f (tg_40 F193) p_176.1)
                    exact h (0 : Int32) M199 hG194 F200 (by decide) (by decide) j_204 (fun _ => x_field_n (fun h9 => by unfold x_fC at h9; omega)) (fun z => absurd z (by decide))
                  · skip
                    have p_205 := p_197 (by omega)
                    clear p_197 p_198
                    have c_206 : M199.2.1 77 9 = (M177.2.1 77 9) := (F_n F193 (show ¬ (77 = 77 ∧ (9 = 4 ∨ 9 = 5)) by decide) rfl)
                    have z_207 := x_val_b (t := t) (nn := nn) (a := (x_ns t nn (x_ns t nn (x_ns t nn (x_ns t nn a))))) (by omega)
                    refine b_ine_t (pc := 218) rw_170_218 (A := r192.toInt) rfl (by omega) (to_an (pc := 223) rw_170_223 rfl (tt_gI (pc := 224) rw_170_224 (g_o hG194 rfl) (v := (M177.2.1 77 9)) c_206 (to_is (pc := 227) rw_170_227 (ls2 := [.ref 77, .int v51, .int (M25.2.1 77 9), .int v105, .int (1 : Int32), .int (0 : Int32), .int (M116.2.1 77 9), .int (M177.2.1 77 9), .int (10 : Int32)]) rfl rfl (to_i (pc := 229) rw_170_229 rfl (to_i (pc := 231) rw_170_231 rfl (s_sub (pc := 233) rw_170_233 (A := (M177.2.1 77 9).toInt) (B := (M116.2.1 77 9).toInt) rfl rfl (by omega) (fun v208 e209 => to_c (pc := 234) rw_170_234 (x := (23 : Int32)) rfl rfl (b_cle (pc := 236) rw_170_236 (A := v208.toInt) (B := 23) rfl rfl (fun h210 => ?_) (fun h210 => ?_)))))))))
                    · refine to_an (pc := 245) rw_170_245 rfl (tt_gJ (pc := 246) rw_170_246 (g_o hG194 rfl) (v := (M.2.2.1 77 25)) (F_nl F193 (show ¬ (77 = 77 ∧ (25 = 4 ∨ 25 = 5)) by decide) (F_nl F171 (show ¬ (77 = 77 ∧ 7 ≤ 25 ∧ 25 ≤ 10) by decide) (F_nl F150 (show ¬ (77 < 0) by decide) (F_nl F132 (show ¬ (77 = 77 ∧ (25 = 4 ∨ 25 = 5)) by decide) (F_nl F110 (show ¬ (77 = 77 ∧ 7 ≤ 25 ∧ 25 ≤ 10) by decide) (F_nl F64 (show ¬ (77 = 77 ∧ 7 ≤ 25 ∧ 25 ≤ 10) by decide) (F_nl F35 (show ¬ (77 = 77 ∧ (25 = 4 ∨ 25 = 5)) by decide) (F_nl F19 (show ¬ (77 = 77 ∧ 7 ≤ 25 ∧ 25 ≤ 10) by decide) rfl)))))))) (to_i (pc := 249) rw_170_249 rfl (to_i (pc := 251) rw_170_251 rfl (s_s (pc := 253) rw_170_253 (dp0 hd (by decide)) (ls0 := [.int (M116.2.1 77 9), .int (M177.2.1 77 9), .null, .null, .null]) rfl (Nat.le_of_ble_eq_true rfl) (Nat.le_of_ble_eq_true rfl) rfl (to_rcs rfl rfl) rfl (E_168 hX (dp1 hd (by decide)) hG194 (by omega) (by omega) (by omega) (by omega) (by omega) (a := (M116.2.1 77 9)) (b := (M177.2.1 77 9)) (fun r211 M215 hG213 F212 p_214 => ?_))))))
                      have F216 := FR.c F200 F212 tg_51
                      refine to_2l (pc := 256) rw_170_256 (v := ((M.2.2.1 77 25) &&& r211)) rfl (to_cl (pc := 257) rw_170_257 rfl (x := (0 : Int64)) rfl (s_lcmpE (pc := 258) rw_170_258 (fun v217 e218 => ?_)))
                      have b_219 := x_eq_b (x := ((M.2.2.1 77 25) &&& r211)) (y := (0 : Int64))
                      have z_220 := x_free_r q7 p_214
                      have z_221 := x_free_v (s := sg) (f := (M116.2.1 77 9).toInt) (l := (M177.2.1 77 9).toInt) (f2 := (x_val t nn (x_ns t nn (x_ns t nn (x_ns t nn a))))) (l2 := (x_val t nn (x_ns t nn (x_ns t nn (x_ns t nn (x_ns t nn a)))))) (by omega) (by omega)
                      refine b_ieq (pc := 259) rw_170_259 (A := v217.toInt) rfl (fun h222 => ?_) (fun h222 => ?_)
                      · refine to_an (pc := 268) rw_170_268 rfl (s_v (pc := 269) rw_170_269 (dp0 hd (by decide)) (ls0 := [.ref 77]) rfl (Nat.le_of_ble_eq_true rfl) (Nat.le_of_ble_eq_true rfl) rfl (to_rc rfl rfl rfl (g_o hG213 rfl)) rfl ?_)
                        have c_223 : M215.2.1 77 7 = (M177.2.1 77 7) := (F_n F212 (show ¬ (77 < 0) by decide) (F_n F193 (show ¬ (77 = 77 ∧ (7 = 4 ∨ 7 = 5)) by decide) rfl))
                        have t_224 : (M215.2.1 77 7).toInt = (M177.2.1 77 7).toInt := congrArg Int32.toInt c_223
                        have c_225 : M215.2.1 77 6 = (M.2.1 77 6) := (F_n F212 (show ¬ (77 < 0) by decide) (F_n F193 (show ¬ (77 = 77 ∧ (6 = 4 ∨ 6 = 5)) by decide) c_180))
                        have t_226 : (M215.2.1 77 6).toInt = (M.2.1 77 6).toInt := congrArg Int32.toInt c_225
                        have c_227 : M215.2.1 77 10 = (M177.2.1 77 10) := (F_n F212 (show ¬ (77 < 0) by decide) (F_n F193 (show ¬ (77 = 77 ∧ (10 = 4 ∨ 10 = 5)) by decide) rfl))
                        have t_228 : (M215.2.1 77 10).toInt = (M177.2.1 77 10).toInt := congrArg Int32.toInt c_227
                        have j_229 := (RS_f (tg_45 F212) (RS_f (tg_40 F193) p_176.1))
                        have z_230 := RS_b j_229 (a := (x_ns t nn (x_ns t nn (x_ns t nn (x_ns t nn a))))) (by omega)
                        have j_231 := (TR_f (tg_9 F212) (TR_f (tg_41 F193) (TR_f (tg_42 F171) j_169)))
                        have j_232 := (W9_f (tg_46 F212) (W9_f (tg_43 F193) (W9_f (tg_44 F171) j_170)))
                        refine E_156 hX (dp1 hd (by decide)) hG213 (by omega) (by omega) (by omega) (by omega) j_231 j_232  (fun M239 hG234 F233 p_235 p_236 p_237 p_238 => ?_)
                        have F240 := FR.c F216 F233 tg_49
                        have b_241 := g_b hG234 (a := 77) (i := 7) (lo := 0) (hi := 500) rfl rfl
                        have c_242 : M239.2.1 77 6 = (M.2.1 77 6) := (F_n F233 (show ¬ (77 = 77 ∧ 7 ≤ 6 ∧ 6 ≤ 10) by decide) c_225)
                        have t_243 : (M239.2.1 77 6).toInt = (M.2.1 77 6).toInt := congrArg Int32.toInt c_242
                        have b_244 := g_b hG234 (a := 77) (i := 8) (lo := 0) (hi := 5) rfl rfl
                        have b_245 := g_b hG234 (a := 77) (i := 10) (lo := 0) (hi := 500) rfl rfl
                        have z_246 := RS_s p_238.2 (a := (x_ns t nn (x_ns t nn (x_ns t nn (x_ns t nn a))))) (by omega)
                        refine to_i (pc := 272) rw_170_272 rfl (to_i (pc := 274) rw_170_274 rfl (s_sub (pc := 276) rw_170_276 (A := (M177.2.1 77 9).toInt) (B := (M116.2.1 77 9).toInt) rfl rfl (by omega) (fun v247 e248 => to_c (pc := 277) rw_170_277 (x := (1 : Int32)) rfl rfl (s_add (pc := 278) rw_170_278 (A := v247.toInt) (B := 1) rfl rfl (by omega) (fun v249 e250 => to_is (pc := 279) rw_170_279 (ls2 := [.ref 77, .int v51, .int (M25.2.1 77 9), .int v105, .int (1 : Int32), .int (0 : Int32), .int (M116.2.1 77 9), .int (M177.2.1 77 9), .int v249]) rfl rfl (to_in (pc := 281) rw_170_281 rfl (to_c (pc := 282) rw_170_282 (x := (3 : Int32)) rfl rfl (b_cne_t (pc := 283) rw_170_283 (A := v105.toInt) (B := 3) rfl rfl (by omega) (to_an (pc := 318) rw_170_318 rfl (to_dupr (pc := 319) rw_170_319 (tt_gJ (pc := 320) rw_170_320 (g_o hG234 rfl) (v := (M.2.2.1 77 25)) (F_nl F233 (show ¬ (77 = 77 ∧ 7 ≤ 25 ∧ 25 ≤ 10) by decide) (F_nl F212 (show ¬ (77 < 0) by decide) (F_nl F193 (show ¬ (77 = 77 ∧ (25 = 4 ∨ 25 = 5)) by decide) (F_nl F171 (show ¬ (77 = 77 ∧ 7 ≤ 25 ∧ 25 ≤ 10) by decide) (F_nl F150 (show ¬ (77 < 0) by decide) (F_nl F132 (show ¬ (77 = 77 ∧ (25 = 4 ∨ 25 = 5)) by decide) (F_nl F110 (show ¬ (77 = 77 ∧ 7 ≤ 25 ∧ 25 ≤ 10) by decide) (F_nl F64 (show ¬ (77 = 77 ∧ 7 ≤ 25 ∧ 25 ≤ 10) by decide) (F_nl F35 (show ¬ (77 = 77 ∧ (25 = 4 ∨ 25 = 5)) by decide) (F_nl F19 (show ¬ (77 = 77 ∧ 7 ≤ 25 ∧ 25 ≤ 10) by decide) rfl)))))))))) ?_)))))))))))
                        refine to_i (pc := 323) rw_170_323 rfl (to_i (pc := 325) rw_170_325 rfl (s_s (pc := 327) rw_170_327 (dp0 hd (by decide)) (ls0 := [.int (M116.2.1 77 9), .int (M177.2.1 77 9), .null, .null, .null]) rfl (Nat.le_of_ble_eq_true rfl) (Nat.le_of_ble_eq_true rfl) rfl (to_rcs rfl rfl) rfl (E_168 hX (dp1 hd (by decide)) hG234 (by omega) (by omega) (by omega) (by omega) (by omega) (a := (M116.2.1 77 9)) (b := (M177.2.1 77 9)) (fun r251 M255 hG253 F252 p_254 => ?_))))
                        have F256 := FR.c F240 F252 tg_51
                        refine to_2l (pc := 330) rw_170_330 (v := ((M.2.2.1 77 25) ||| r251)) rfl ?_
                        have j_257 := (PLr_f (tg_47 F252) (F_nl F252 (show ¬ (77 < 0) by decide) rfl) (PLr_f (tg_39 F233) (F_nl F233 (show ¬ (77 = 77 ∧ 7 ≤ 25 ∧ 25 ≤ 10) by decide) rfl) (PLr_f (tg_47 F212) (F_nl F212 (show ¬ (77 < 0) by decide) rfl) (PLr_f (tg_48 F193) (F_nl F193 (show ¬ (77 = 77 ∧ (25 = 4 ∨ 25 = 5)) by decide) rfl) (PLr_f (tg_39 F171) (F_nl F171 (show ¬ (77 = 77 ∧ 7 ≤ 25 ∧ 25 ≤ 10) by decide) rfl) (PLr_f (tg_47 F150) (F_nl F150 (show ¬ (77 < 0) by decide) rfl) (PLr_f (tg_48 F132) (F_nl F132 (show ¬ (77 = 77 ∧ (25 = 4 ∨ 25 = 5)) by decide) rfl) (PLr_f (tg_39 F110) (F_nl F110 (show ¬ (77 = 77 ∧ 7 ≤ 25 ∧ 25 ≤ 10) by decide) rfl) (PLr_f (tg_39 F64) (F_nl F64 (show ¬ (77 = 77 ∧ 7 ≤ 25 ∧ 25 ≤ 10) by decide) rfl) (PLr_f (tg_48 F35) (F_nl F35 (show ¬ (77 = 77 ∧ (25 = 4 ∨ 25 = 5)) by decide) rfl) j_33))))))))))
                        refine s_pJ (pc := 331) rw_170_331 hG253 rfl (fun M259 W258 => ?_)
                        have hG260 := g_wl hG253 W258
                        have F261 := FR.wl F256 W258 (show 77 = 77 ∧ (25 = 4 ∨ 25 = 5 ∨ 7 ≤ 25 ∧ 25 ≤ 10 ∨ 25 = 15 ∨ 25 = 25) ∨ 80 ≤ 77 ∧ 77 ≤ 84 ∧ 8 ≤ 25 by decide)
                        refine to_an (pc := 334) rw_170_334 rfl (s_gR (pc := 335) rw_170_335 hG260 rfl (v := 80) rfl (to_in (pc := 338) rw_170_338 rfl (to_in (pc := 339) rw_170_339 rfl (s_ias (pc := 340) rw_170_340 hG260 rfl (n := 16) rfl (A := v51.toInt) rfl (by omega) (by omega) (fun M263 W262 => ?_)))))
                        have hG264 := g_wf hG260 W262 rfl rfl (by decide)
                        have F265 := FR.w F261 W262 (show 80 = 77 ∧ ((v51.toInt).toNat = 4 ∨ (v51.toInt).toNat = 5 ∨ 7 ≤ (v51.toInt).toNat ∧ (v51.toInt).toNat ≤ 10 ∨ (v51.toInt).toNat = 15 ∨ (v51.toInt).toNat = 25) ∨ 80 ≤ 80 ∧ 80 ≤ 84 ∧ 8 ≤ (v51.toInt).toNat by omega)
                        refine to_an (pc := 341) rw_170_341 rfl (s_gR (pc := 342) rw_170_342 hG264 rfl (v := 81) rfl (to_in (pc := 345) rw_170_345 rfl (to_in (pc := 346) rw_170_346 rfl (s_ias (pc := 347) rw_170_347 hG264 rfl (n := 16) rfl (A := v51.toInt) rfl (by omega) (by omega) (fun M267 W266 => ?_)))))
                        have hG268 := g_w hG264 W266 (A := v105.toInt) rfl (lo := 0) (hi := 3) rfl rfl (by omega) (by decide)
                        have F269 := FR.w F265 W266 (show 81 = 77 ∧ ((v51.toInt).toNat = 4 ∨ (v51.toInt).toNat = 5 ∨ 7 ≤ (v51.toInt).toNat ∧ (v51.toInt).toNat ≤ 10 ∨ (v51.toInt).toNat = 15 ∨ (v51.toInt).toNat = 25) ∨ 80 ≤ 81 ∧ 81 ≤ 84 ∧ 8 ≤ (v51.toInt).toNat by omega)
                        refine to_an (pc := 348) rw_170_348 rfl (s_gR (pc := 349) rw_170_349 hG268 rfl (v := 82) rfl (to_in (pc := 352) rw_170_352 rfl (to_i (pc := 353) rw_170_353 rfl (s_ias (pc := 355) rw_170_355 hG268 rfl (n := 16) rfl (A := v51.toInt) rfl (by omega) (by omega) (fun M271 W270 => ?_)))))
                        have hG272 := g_w hG268 W270 (A := (M116.2.1 77 9).toInt) rfl (lo := 0) (hi := 59) rfl rfl (by omega) (by decide)
                        have F273 := FR.w F269 W270 (show 82 = 77 ∧ ((v51.toInt).toNat = 4 ∨ (v51.toInt).toNat = 5 ∨ 7 ≤ (v51.toInt).toNat ∧ (v51.toInt).toNat ≤ 10 ∨ (v51.toInt).toNat = 15 ∨ (v51.toInt).toNat = 25) ∨ 80 ≤ 82 ∧ 82 ≤ 84 ∧ 8 ≤ (v51.toInt).toNat by omega)
                        refine to_an (pc := 356) rw_170_356 rfl (s_gR (pc := 357) rw_170_357 hG272 rfl (v := 83) rfl (to_in (pc := 360) rw_170_360 rfl (to_i (pc := 361) rw_170_361 rfl (s_ias (pc := 363) rw_170_363 hG272 rfl (n := 16) rfl (A := v51.toInt) rfl (by omega) (by omega) (fun M275 W274 => ?_)))))
                        have hG276 := g_w hG272 W274 (A := (M177.2.1 77 9).toInt) rfl (lo := 0) (hi := 63) rfl rfl (by omega) (by decide)
                        have F277 := FR.w F273 W274 (show 83 = 77 ∧ ((v51.toInt).toNat = 4 ∨ (v51.toInt).toNat = 5 ∨ 7 ≤ (v51.toInt).toNat ∧ (v51.toInt).toNat ≤ 10 ∨ (v51.toInt).toNat = 15 ∨ (v51.toInt).toNat = 25) ∨ 80 ≤ 83 ∧ 83 ≤ 84 ∧ 8 ≤ (v51.toInt).toNat by omega)
                        refine to_an (pc := 364) rw_170_364 rfl (s_gR (pc := 365) rw_170_365 hG276 rfl (v := 84) rfl (to_in (pc := 368) rw_170_368 rfl (to_i (pc := 369) rw_170_369 rfl (s_ias (pc := 371) rw_170_371 hG276 rfl (n := 16) rfl (A := v51.toInt) rfl (by omega) (by omega) (fun M279 W278 => ?_)))))
                        have hG280 := g_w hG276 W278 (A := v249.toInt) rfl (lo := 0) (hi := 24) rfl rfl (by omega) (by decide)
                        have F281 := FR.w F277 W278 (show 84 = 77 ∧ ((v51.toInt).toNat = 4 ∨ (v51.toInt).toNat = 5 ∨ 7 ≤ (v51.toInt).toNat ∧ (v51.toInt).toNat ≤ 10 ∨ (v51.toInt).toNat = 15 ∨ (v51.toInt).toNat = 25) ∨ 80 ≤ 84 ∧ 84 ≤ 84 ∧ 8 ≤ (v51.toInt).toNat by omega)
                        refine to_an (pc := 372) rw_170_372 rfl (to_dupr (pc := 373) rw_170_373 ?_)
                        have c_282 : M279.2.1 77 15 = (M.2.1 77 15) := (W_n W278 (fun z => absurd z.1 (by decide)) (W_n W274 (fun z => absurd z.1 (by decide)) (W_n W270 (fun z => absurd z.1 (by decide)) (W_n W266 (fun z => absurd z.1 (by decide)) (W_n W262 (fun z => absurd z.1 (by decide)) (W_l W258 (F_n F252 (show ¬ (77 < 0) by decide) (F_n F233 (show ¬ (77 = 77 ∧ 7 ≤ 15 ∧ 15 ≤ 10) by decide) (F_n F212 (show ¬ (77 < 0) by decide) (F_n F193 (show ¬ (77 = 77 ∧ (15 = 4 ∨ 15 = 5)) by decide) (F_n F171 (show ¬ (77 = 77 ∧ 7 ≤ 15 ∧ 15 ≤ 10) by decide) (F_n F150 (show ¬ (77 < 0) by decide) (F_n F132 (show ¬ (77 = 77 ∧ (15 = 4 ∨ 15 = 5)) by decide) (F_n F110 (show ¬ (77 = 77 ∧ 7 ≤ 15 ∧ 15 ≤ 10) by decide) (F_n F64 (show ¬ (77 = 77 ∧ 7 ≤ 15 ∧ 15 ≤ 10) by decide) c_50)))))))))))))))
                        refine tt_gI (pc := 374) rw_170_374 (g_o hG280 rfl) (v := (M.2.1 77 15)) c_282 (to_c (pc := 377) rw_170_377 (x := (1 : Int32)) rfl rfl (s_add (pc := 378) rw_170_378 (A := (M.2.1 77 15).toInt) (B := 1) rfl rfl (by omega) (fun v283 e284 => s_pI (pc := 379) rw_170_379 hG280 rfl (fun M286 W285 => ?_))))
                        have hG287 := g_w hG280 W285 (A := v283.toInt) rfl (lo := 0) (hi := 8) rfl rfl (by omega) (by decide)
                        have F288 := FR.w F281 W285 (show 77 = 77 ∧ (15 = 4 ∨ 15 = 5 ∨ 7 ≤ 15 ∧ 15 ≤ 10 ∨ 15 = 15 ∨ 15 = 25) ∨ 80 ≤ 77 ∧ 77 ≤ 84 ∧ 8 ≤ 15 by decide)
                        refine to_c (pc := 382) rw_170_382 (x := (1 : Int32)) rfl rfl (s_r1 (pc := 383) rw_170_383 (A := 1) rfl (by decide) ?_)
                        have k_289 : (1 : Int32).toInt = 1 := rfl
                        have j_290 := (RS_f (fun a i z => W_n W285 (tg_52 a i z) rfl) (RS_f (fun a i z => W_n W278 (tg_53 a i _ z) rfl) (RS_f (fun a i z => W_n W274 (tg_54 a i _ z) rfl) (RS_f (fun a i z => W_n W270 (tg_55 a i _ z) rfl) (RS_f (fun a i z => W_n W266 (tg_56 a i _ z) rfl) (RS_f (fun a i z => W_n W262 (tg_57 a i _ z) rfl) (RS_f (fun a i z => W_l W258 rfl) (RS_f (tg_45 F252) p_238.1))))))))
                        have c_291 : M286.2.1 77 10 = (M239.2.1 77 10) := (W_n W285 (by decide) (W_n W278 (fun z => absurd z.1 (by decide)) (W_n W274 (fun z => absurd z.1 (by decide)) (W_n W270 (fun z => absurd z.1 (by decide)) (W_n W266 (fun z => absurd z.1 (by decide)) (W_n W262 (fun z => absurd z.1 (by decide)) (W_l W258 (F_n F252 (show ¬ (77 < 0) by decide) rfl))))))))
                        have t_292 : (M286.2.1 77 10).toInt = (M239.2.1 77 10).toInt := congrArg Int32.toInt c_291
                        have z_293 : x_fC t nn sg (x_ns t nn a) := by unfold x_fC; omega
                        have z_294 := (x_or_r q7 (p_254.trans (x_bw_v (by omega) (by omega))) : _ = _ ||| x_bw (x_val t nn (x_ns t nn (x_ns t nn (x_ns t nn a)))) (x_val t nn (x_ns t nn (x_ns t nn (x_ns t nn (x_ns t nn a))))))
                        have z_295 := PLr_p (nm := (x_val t nn (x_ns t nn a))) (kd := 0) (f := (x_val t nn (x_ns t nn (x_ns t nn (x_ns t nn a))))) (l := (x_val t nn (x_ns t nn (x_ns t nn (x_ns t nn (x_ns t nn a)))))) (c := ((x_val t nn (x_ns t nn (x_ns t nn (x_ns t nn (x_ns t nn a))))) - (x_val t nn (x_ns t nn (x_ns t nn (x_ns t nn a)))) + 1)) j_257 W258 W262 W266 W270 W274 W278 W285 (by omega) z_294 (by omega) (by omega) (by omega) (by omega) (by omega) (by omega) (by omega) (by omega) (by omega) (by omega) (by omega)
                        have j_296 := (CWr_f (fun k hk9 => W_j W285 rfl) (CWr_f (fun k hk9 => W_j W278 rfl) (CWr_f (fun k hk9 => W_j W274 rfl) (CWr_f (fun k hk9 => W_j W270 rfl) (CWr_f (fun k hk9 => W_j W266 rfl) (CWr_f (fun k hk9 => W_j W262 rfl) (CWr_f (fun k hk9 => L_n W258 (by omega) rfl) (CWr_f (fun k hk9 => F_nl F252 (show ¬ (87 < 0) by decide) rfl) (CWr_f (fun k hk9 => F_nl F233 (show ¬ (87 = 77 ∧ 7 ≤ (12 + k) ∧ (12 + k) ≤ 10) by omega) rfl) (CWr_f (fun k hk9 => F_nl F212 (show ¬ (87 < 0) by decide) rfl) (CWr_f (fun k hk9 => F_nl F193 (show ¬ (87 = 77 ∧ ((12 + k) = 4 ∨ (12 + k) = 5)) by omega) rfl) (CWr_f (fun k hk9 => F_nl F171 (show ¬ (87 = 77 ∧ 7 ≤ (12 + k) ∧ (12 + k) ≤ 10) by omega) rfl) (CWr_f (fun k hk9 => F_nl F150 (show ¬ (87 < 0) by decide) rfl) (CWr_f (fun k hk9 => F_nl F132 (show ¬ (87 = 77 ∧ ((12 + k) = 4 ∨ (12 + k) = 5)) by omega) rfl) (CWr_f (fun k hk9 => F_nl F110 (show ¬ (87 = 77 ∧ 7 ≤ (12 + k) ∧ (12 + k) ≤ 10) by omega) rfl) (CWr_f (fun k hk9 => F_nl F64 (show ¬ (87 = 77 ∧ 7 ≤ (12 + k) ∧ (12 + k) ≤ 10) by omega) rfl) (CWr_f (fun k hk9 => F_nl F35 (show ¬ (87 = 77 ∧ ((12 + k) = 4 ∨ (12 + k) = 5)) by omega) rfl) (CWr_f (fun k hk9 => F_nl F19 (show ¬ (87 = 77 ∧ 7 ≤ (12 + k) ∧ (12 + k) ≤ 10) by omega) rfl) q8))))))))))))))))))
                        exact h (1 : Int32) M286 hG287 F288 (by decide) (by decide) j_290 (fun z => absurd z (by decide)) (fun _ => ⟨_, (by rw [show (M286.2.1 77 10).toInt = (x_ns t nn (x_ns t nn (x_ns t nn (x_ns t nn (x_ns t nn a))))) by omega]; exact x_field_0 z_293 (by omega)), ⟨z_295, CWr_p j_296⟩, (by show sg.2.1 + 1 + sg.2.2.1 = _; omega)⟩)
                      · refine to_an (pc := 262) rw_170_262 rfl (to_c (pc := 263) rw_170_263 (x := (3 : Int32)) rfl rfl (s_v (pc := 264) rw_170_264 (dp0 hd (by decide)) (ls0 := [.ref 77, .int (3 : Int32)]) rfl (Nat.le_of_ble_eq_true rfl) (Nat.le_of_ble_eq_true rfl) rfl (to_rc rfl rfl rfl (g_o hG213 rfl)) rfl (to_an (pc := 0) rw_152_0 rfl (to_in (pc := 1) rw_152_1 rfl (s_pI (pc := 2) rw_152_2 hG213 rfl (fun M298 W297 => ?_))))))
                        have hG299 := g_wf hG213 W297 rfl rfl (by decide)
                        have F300 := FR.w F216 W297 (show 77 = 77 ∧ (4 = 4 ∨ 4 = 5 ∨ 7 ≤ 4 ∧ 4 ≤ 10 ∨ 4 = 15 ∨ 4 = 25) ∨ 80 ≤ 77 ∧ 77 ≤ 84 ∧ 8 ≤ 4 by decide)
                        refine to_an (pc := 5) rw_152_5 rfl (to_an (pc := 6) rw_152_6 rfl ?_)
                        have c_301 : M298.2.1 77 10 = (M177.2.1 77 10) := (W_n W297 (by decide) (F_n F212 (show ¬ (77 < 0) by decide) (F_n F193 (show ¬ (77 = 77 ∧ (10 = 4 ∨ 10 = 5)) by decide) rfl)))
                        refine tt_gI (pc := 7) rw_152_7 (g_o hG299 rfl) (v := (M177.2.1 77 10)) c_301 (s_pI (pc := 10) rw_152_10 hG299 rfl (fun M303 W302 => ?_))
                        have hG304 := g_wf hG299 W302 rfl rfl (by decide)
                        have F305 := FR.w F300 W302 (show 77 = 77 ∧ (5 = 4 ∨ 5 = 5 ∨ 7 ≤ 5 ∧ 5 ≤ 10 ∨ 5 = 15 ∨ 5 = 25) ∨ 80 ≤ 77 ∧ 77 ≤ 84 ∧ 8 ≤ 5 by decide)
                        refine to_c (pc := 13) rw_152_13 (x := (0 : Int32)) rfl rfl (s_r1 (pc := 14) rw_152_14 (A := 0) rfl (by decide) (s_r1 (pc := 267) rw_170_267 (A := 0) rfl (by decide) ?_))
                        have j_306 := (RS_f (fun a i z => W_n W302 (tg_37 a i z) rfl) (RS_f (fun a i z => W_n W297 (tg_38 a i z) rfl) (RS_f (tg_45 F212) (RS_f (tg_40 F193) p_176.1))))
                        exact h (0 : Int32) M303 hG304 F305 (by decide) (by decide) j_306 (fun _ => x_field_n (fun h9 => by unfold x_fC at h9; omega)) (fun z => absurd z (by decide))
                    · refine to_an (pc := 239) rw_170_239 rfl (to_c (pc := 240) rw_170_240 (x := (2 : Int32)) rfl rfl (s_v (pc := 241) rw_170_241 (dp0 hd (by decide)) (ls0 := [.ref 77, .int (2 : Int32)]) rfl (Nat.le_of_ble_eq_true rfl) (Nat.le_of_ble_eq_true rfl) rfl (to_rc rfl rfl rfl (g_o hG194 rfl)) rfl (to_an (pc := 0) rw_152_0 rfl (to_in (pc := 1) rw_152_1 rfl (s_pI (pc := 2) rw_152_2 hG194 rfl (fun M308 W307 => ?_))))))
                      have hG309 := g_wf hG194 W307 rfl rfl (by decide)
                      have F310 := FR.w F200 W307 (show 77 = 77 ∧ (4 = 4 ∨ 4 = 5 ∨ 7 ≤ 4 ∧ 4 ≤ 10 ∨ 4 = 15 ∨ 4 = 25) ∨ 80 ≤ 77 ∧ 77 ≤ 84 ∧ 8 ≤ 4 by decide)
                      refine to_an (pc := 5) rw_152_5 rfl (to_an (pc := 6) rw_152_6 rfl ?_)
                      have c_311 : M308.2.1 77 10 = (M177.2.1 77 10) := (W_n W307 (by decide) (F_n F193 (show ¬ (77 = 77 ∧ (10 = 4 ∨ 10 = 5)) by decide) rfl))
                      refine tt_gI (pc := 7) rw_152_7 (g_o hG309 rfl) (v := (M177.2.1 77 10)) c_311 (s_pI (pc := 10) rw_152_10 hG309 rfl (fun M313 W312 => ?_))
                      have hG314 := g_wf hG309 W312 rfl rfl (by decide)
                      have F315 := FR.w F310 W312 (show 77 = 77 ∧ (5 = 4 ∨ 5 = 5 ∨ 7 ≤ 5 ∧ 5 ≤ 10 ∨ 5 = 15 ∨ 5 = 25) ∨ 80 ≤ 77 ∧ 77 ≤ 84 ∧ 8 ≤ 5 by decide)
                      refine to_c (pc := 13) rw_152_13 (x := (0 : Int32)) rfl rfl (s_r1 (pc := 14) rw_152_14 (A := 0) rfl (by decide) (s_r1 (pc := 244) rw_170_244 (A := 0) rfl (by decide) ?_))
                      have j_316 := (RS_f (fun a i z => W_n W312 (tg_37 a i z) rfl) (RS_f (fun a i z => W_n W307 (tg_38 a i z) rfl) (RS_f (tg_40 F193) p_176.1)))
                      exact h (0 : Int32) M313 hG314 F315 (by decide) (by decide) j_316 (fun _ => x_field_n (fun h9 => by unfold x_fC at h9; omega)) (fun z => absurd z (by decide))
                · refine to_an (pc := 169) rw_170_169 rfl (to_c (pc := 170) rw_170_170 (x := (3 : Int32)) rfl rfl (s_v (pc := 171) rw_170_171 (dp0 hd (by decide)) (ls0 := [.ref 77, .int (3 : Int32)]) rfl (Nat.le_of_ble_eq_true rfl) (Nat.le_of_ble_eq_true rfl) rfl (to_rc rfl rfl rfl (g_o hG151 rfl)) rfl (to_an (pc := 0) rw_152_0 rfl (to_in (pc := 1) rw_152_1 rfl (s_pI (pc := 2) rw_152_2 hG151 rfl (fun M318 W317 => ?_))))))
                  have hG319 := g_wf hG151 W317 rfl rfl (by decide)
                  have F320 := FR.w F154 W317 (show 77 = 77 ∧ (4 = 4 ∨ 4 = 5 ∨ 7 ≤ 4 ∧ 4 ≤ 10 ∨ 4 = 15 ∨ 4 = 25) ∨ 80 ≤ 77 ∧ 77 ≤ 84 ∧ 8 ≤ 4 by decide)
                  refine to_an (pc := 5) rw_152_5 rfl (to_an (pc := 6) rw_152_6 rfl ?_)
                  have c_321 : M318.2.1 77 10 = (M116.2.1 77 10) := (W_n W317 (by decide) (F_n F150 (show ¬ (77 < 0) by decide) (F_n F132 (show ¬ (77 = 77 ∧ (10 = 4 ∨ 10 = 5)) by decide) rfl)))
                  refine tt_gI (pc := 7) rw_152_7 (g_o hG319 rfl) (v := (M116.2.1 77 10)) c_321 (s_pI (pc := 10) rw_152_10 hG319 rfl (fun M323 W322 => ?_))
                  have hG324 := g_wf hG319 W322 rfl rfl (by decide)
                  have F325 := FR.w F320 W322 (show 77 = 77 ∧ (5 = 4 ∨ 5 = 5 ∨ 7 ≤ 5 ∧ 5 ≤ 10 ∨ 5 = 15 ∨ 5 = 25) ∨ 80 ≤ 77 ∧ 77 ≤ 84 ∧ 8 ≤ 5 by decide)
                  refine to_c (pc := 13) rw_152_13 (x := (0 : Int32)) rfl rfl (s_r1 (pc := 14) rw_152_14 (A := 0) rfl (by decide) (s_r1 (pc := 174) rw_170_174 (A := 0) rfl (by decide) ?_))
                  have j_326 := (RS_f (fun a i z => W_n W322 (tg_37 a i z) rfl) (RS_f (fun a i z => W_n W317 (tg_38 a i z) rfl) (RS_f (tg_45 F150) (RS_f (tg_40 F132) p_115.1))))
                  exact h (0 : Int32) M323 hG324 F325 (by decide) (by decide) j_326 (fun _ => x_field_n (fun h9 => by unfold x_fC at h9; omega)) (fun z => absurd z (by decide))
            · refine to_in (pc := 91) rw_170_91 rfl (to_c (pc := 92) rw_170_92 (x := (3 : Int32)) rfl rfl (b_cne (pc := 93) rw_170_93 (A := v105.toInt) (B := 3) rfl rfl (fun h327 => ?_) (fun h327 => ?_)))
              · refine to_c (pc := 100) rw_170_100 (x := (0 : Int32)) rfl rfl (to_is (pc := 101) rw_170_101 (ls2 := [.ref 77, .int v51, .int (M25.2.1 77 9), .int v105, .int (0 : Int32), .null, .null, .null, .null]) rfl rfl (to_in (pc := 103) rw_170_103 rfl (to_c (pc := 104) rw_170_104 (x := (1 : Int32)) rfl rfl (b_cne (pc := 105) rw_170_105 (A := v105.toInt) (B := 1) rfl rfl (fun h328 => ?_) (fun h328 => ?_)))))
                · refine to_in (pc := 112) rw_170_112 rfl (to_c (pc := 113) rw_170_113 (x := (2 : Int32)) rfl rfl (b_cne_f (pc := 114) rw_170_114 (A := v105.toInt) (B := 2) rfl rfl (by omega) (to_c (pc := 117) rw_170_117 (x := (4 : Int32)) rfl rfl (to_go (pc := 118) rw_170_118 (to_is (pc := 122) rw_170_122 (ls2 := [.ref 77, .int v51, .int (M25.2.1 77 9), .int v105, .int (0 : Int32), .int (4 : Int32), .null, .null, .null]) rfl rfl (to_an (pc := 124) rw_170_124 rfl (to_c (pc := 125) rw_170_125 (x := (0 : Int32)) rfl rfl (to_an (pc := 126) rw_170_126 rfl ?_))))))))
                  have c_329 : M116.2.1 77 14 = (M.2.1 77 14) := (F_n F110 (show ¬ (77 = 77 ∧ 7 ≤ 14 ∧ 14 ≤ 10) by decide) (F_n F64 (show ¬ (77 = 77 ∧ 7 ≤ 14 ∧ 14 ≤ 10) by decide) (F_n F35 (show ¬ (77 = 77 ∧ (14 = 4 ∨ 14 = 5)) by decide) (F_n F19 (show ¬ (77 = 77 ∧ 7 ≤ 14 ∧ 14 ≤ 10) by decide) rfl))))
                  refine tt_gI (pc := 127) rw_170_127 (g_o hG111 rfl) (v := (M.2.1 77 14)) c_329 (to_c (pc := 130) rw_170_130 (x := (1 : Int32)) rfl rfl (s_sub (pc := 131) rw_170_131 (A := (M.2.1 77 14).toInt) (B := 1) rfl rfl (by omega) (fun v330 e331 => to_i (pc := 132) rw_170_132 rfl (s_sub (pc := 134) rw_170_134 (A := v330.toInt) (B := 4) rfl rfl (by omega) (fun v332 e333 => s_v (pc := 135) rw_170_135 (dp0 hd (by decide)) (ls0 := [.ref 77, .int (0 : Int32), .int v332]) rfl (Nat.le_of_ble_eq_true rfl) (Nat.le_of_ble_eq_true rfl) rfl (to_rc rfl rfl rfl (g_o hG111 rfl)) rfl ?_)))))
                  have k_334 : (0 : Int32).toInt = 0 := rfl
                  refine E_162 hX (dp1 hd (by decide)) hG111 p_115.1 (by omega) (by omega) (l := (0 : Int32)) (m := v332) (t := t) (nn := nn) (a := (x_ns t nn (x_ns t nn (x_ns t nn a)))) (fun r335 M342 hG337 F336 p_338 p_339 p_340 p_341 => ?_)
                  have F343 := FR.c F117 F336 tg_50
                  rcases (show r335.toInt = 0 ∨ r335.toInt = 1 by omega) with h344 | h344
                  · skip
                    have p_345 := p_341 (by omega)
                    clear p_340 p_341
                    have z_346 := x_val_b (t := t) (nn := nn) (a := (x_ns t nn (x_ns t nn (x_ns t nn a))))
                    refine b_ine_f (pc := 138) rw_170_138 (A := r335.toInt) rfl (by omega) (to_c (pc := 141) rw_170_141 (x := (0 : Int32)) rfl rfl (s_r1 (pc := 142) rw_170_142 (A := 0) rfl (by decide) ?_))
                    have j_347 := (RS_f (tg_40 F336) p_115.1)
                    exact h (0 : Int32) M342 hG337 F343 (by decide) (by decide) j_347 (fun _ => x_field_n (fun h9 => by unfold x_fC at h9; omega)) (fun z => absurd z (by decide))
                  · skip
                    have p_348 := p_340 (by omega)
                    clear p_340 p_341
                    have c_349 : M342.2.1 77 9 = (M116.2.1 77 9) := (F_n F336 (show ¬ (77 = 77 ∧ (9 = 4 ∨ 9 = 5)) by decide) rfl)
                    have z_350 := x_val_b (t := t) (nn := nn) (a := (x_ns t nn (x_ns t nn (x_ns t nn a)))) (by omega)
                    refine b_ine_t (pc := 138) rw_170_138 (A := r335.toInt) rfl (by omega) (to_an (pc := 143) rw_170_143 rfl (tt_gI (pc := 144) rw_170_144 (g_o hG337 rfl) (v := (M116.2.1 77 9)) c_349 (to_is (pc := 147) rw_170_147 (ls2 := [.ref 77, .int v51, .int (M25.2.1 77 9), .int v105, .int (0 : Int32), .int (4 : Int32), .int (M116.2.1 77 9), .null, .null]) rfl rfl (to_an (pc := 149) rw_170_149 rfl (tt_gJ (pc := 150) rw_170_150 (g_o hG337 rfl) (v := (M.2.2.1 77 25)) (F_nl F336 (show ¬ (77 = 77 ∧ (25 = 4 ∨ 25 = 5)) by decide) (F_nl F110 (show ¬ (77 = 77 ∧ 7 ≤ 25 ∧ 25 ≤ 10) by decide) (F_nl F64 (show ¬ (77 = 77 ∧ 7 ≤ 25 ∧ 25 ≤ 10) by decide) (F_nl F35 (show ¬ (77 = 77 ∧ (25 = 4 ∨ 25 = 5)) by decide) (F_nl F19 (show ¬ (77 = 77 ∧ 7 ≤ 25 ∧ 25 ≤ 10) by decide) rfl))))) (to_i (pc := 153) rw_170_153 rfl (to_i (pc := 155) rw_170_155 rfl (to_i (pc := 157) rw_170_157 rfl (s_add (pc := 159) rw_170_159 (A := (M116.2.1 77 9).toInt) (B := 4) rfl rfl (by omega) (fun v351 e352 => s_s (pc := 160) rw_170_160 (dp0 hd (by decide)) (ls0 := [.int (M116.2.1 77 9), .int v351, .null, .null, .null]) rfl (Nat.le_of_ble_eq_true rfl) (Nat.le_of_ble_eq_true rfl) rfl (to_rcs rfl rfl) rfl (E_168 hX (dp1 hd (by decide)) hG337 (by omega) (by omega) (by omega) (by omega) (by omega) (a := (M116.2.1 77 9)) (b := v351) (fun r353 M357 hG355 F354 p_356 => ?_))))))))))))
                    have F358 := FR.c F343 F354 tg_51
                    refine to_2l (pc := 163) rw_170_163 (v := ((M.2.2.1 77 25) &&& r353)) rfl (to_cl (pc := 164) rw_170_164 rfl (x := (0 : Int64)) rfl (s_lcmpE (pc := 165) rw_170_165 (fun v359 e360 => ?_)))
                    have b_361 := x_eq_b (x := ((M.2.2.1 77 25) &&& r353)) (y := (0 : Int64))
                    have z_362 := x_free_r q7 p_356
                    have z_363 := x_free_v (s := sg) (f := (M116.2.1 77 9).toInt) (l := v351.toInt) (f2 := (x_val t nn (x_ns t nn (x_ns t nn (x_ns t nn a))))) (l2 := ((x_val t nn (x_ns t nn (x_ns t nn (x_ns t nn a)))) + ((x_kx (x_val t nn (x_ns t nn (x_ns t nn a)))) - 1))) (by omega) (by omega)
                    refine b_ieq (pc := 166) rw_170_166 (A := v359.toInt) rfl (fun h364 => ?_) (fun h364 => ?_)
                    · refine to_an (pc := 175) rw_170_175 rfl (s_v (pc := 176) rw_170_176 (dp0 hd (by decide)) (ls0 := [.ref 77]) rfl (Nat.le_of_ble_eq_true rfl) (Nat.le_of_ble_eq_true rfl) rfl (to_rc rfl rfl rfl (g_o hG355 rfl)) rfl ?_)
                      have c_365 : M357.2.1 77 7 = (M116.2.1 77 7) := (F_n F354 (show ¬ (77 < 0) by decide) (F_n F336 (show ¬ (77 = 77 ∧ (7 = 4 ∨ 7 = 5)) by decide) rfl))
                      have t_366 : (M357.2.1 77 7).toInt = (M116.2.1 77 7).toInt := congrArg Int32.toInt c_365
                      have c_367 : M357.2.1 77 6 = (M.2.1 77 6) := (F_n F354 (show ¬ (77 < 0) by decide) (F_n F336 (show ¬ (77 = 77 ∧ (6 = 4 ∨ 6 = 5)) by decide) c_119))
                      have t_368 : (M357.2.1 77 6).toInt = (M.2.1 77 6).toInt := congrArg Int32.toInt c_367
                      have c_369 : M357.2.1 77 10 = (M116.2.1 77 10) := (F_n F354 (show ¬ (77 < 0) by decide) (F_n F336 (show ¬ (77 = 77 ∧ (10 = 4 ∨ 10 = 5)) by decide) rfl))
                      have t_370 : (M357.2.1 77 10).toInt = (M116.2.1 77 10).toInt := congrArg Int32.toInt c_369
                      have j_371 := (RS_f (tg_45 F354) (RS_f (tg_40 F336) p_115.1))
                      have z_372 := RS_b j_371 (a := (x_ns t nn (x_ns t nn (x_ns t nn a)))) (by omega)
                      have j_373 := (TR_f (tg_9 F354) (TR_f (tg_41 F336) (TR_f (tg_42 F110) j_108)))
                      have j_374 := (W9_f (tg_46 F354) (W9_f (tg_43 F336) (W9_f (tg_44 F110) j_109)))
                      refine E_156 hX (dp1 hd (by decide)) hG355 (by omega) (by omega) (by omega) (by omega) j_373 j_374  (fun M381 hG376 F375 p_377 p_378 p_379 p_380 => ?_)
                      have F382 := FR.c F358 F375 tg_49
                      have b_383 := g_b hG376 (a := 77) (i := 7) (lo := 0) (hi := 500) rfl rfl
                      have c_384 : M381.2.1 77 6 = (M.2.1 77 6) := (F_n F375 (show ¬ (77 = 77 ∧ 7 ≤ 6 ∧ 6 ≤ 10) by decide) c_367)
                      have t_385 : (M381.2.1 77 6).toInt = (M.2.1 77 6).toInt := congrArg Int32.toInt c_384
                      have b_386 := g_b hG376 (a := 77) (i := 8) (lo := 0) (hi := 5) rfl rfl
                      have b_387 := g_b hG376 (a := 77) (i := 10) (lo := 0) (hi := 500) rfl rfl
                      have z_388 := RS_s p_380.2 (a := (x_ns t nn (x_ns t nn (x_ns t nn a)))) (by omega)
                      refine to_i (pc := 179) rw_170_179 rfl (to_i (pc := 181) rw_170_181 rfl (s_add (pc := 183) rw_170_183 (A := (M116.2.1 77 9).toInt) (B := 4) rfl rfl (by omega) (fun v389 e390 => to_is (pc := 184) rw_170_184 (ls2 := [.ref 77, .int v51, .int (M25.2.1 77 9), .int v105, .int (0 : Int32), .int (4 : Int32), .int (M116.2.1 77 9), .int v389, .null]) rfl rfl (to_c (pc := 186) rw_170_186 (x := (10 : Int32)) rfl rfl (to_is (pc := 188) rw_170_188 (ls2 := [.ref 77, .int v51, .int (M25.2.1 77 9), .int v105, .int (0 : Int32), .int (4 : Int32), .int (M116.2.1 77 9), .int v389, .int (10 : Int32)]) rfl rfl (to_i (pc := 190) rw_170_190 rfl (b_ieq_t (pc := 192) rw_170_192 (A := 0) rfl (by decide) (to_an (pc := 318) rw_170_318 rfl (to_dupr (pc := 319) rw_170_319 (tt_gJ (pc := 320) rw_170_320 (g_o hG376 rfl) (v := (M.2.2.1 77 25)) (F_nl F375 (show ¬ (77 = 77 ∧ 7 ≤ 25 ∧ 25 ≤ 10) by decide) (F_nl F354 (show ¬ (77 < 0) by decide) (F_nl F336 (show ¬ (77 = 77 ∧ (25 = 4 ∨ 25 = 5)) by decide) (F_nl F110 (show ¬ (77 = 77 ∧ 7 ≤ 25 ∧ 25 ≤ 10) by decide) (F_nl F64 (show ¬ (77 = 77 ∧ 7 ≤ 25 ∧ 25 ≤ 10) by decide) (F_nl F35 (show ¬ (77 = 77 ∧ (25 = 4 ∨ 25 = 5)) by decide) (F_nl F19 (show ¬ (77 = 77 ∧ 7 ≤ 25 ∧ 25 ≤ 10) by decide) rfl))))))) (to_i (pc := 323) rw_170_323 rfl ?_)))))))))))
                      refine to_i (pc := 325) rw_170_325 rfl (s_s (pc := 327) rw_170_327 (dp0 hd (by decide)) (ls0 := [.int (M116.2.1 77 9), .int v389, .null, .null, .null]) rfl (Nat.le_of_ble_eq_true rfl) (Nat.le_of_ble_eq_true rfl) rfl (to_rcs rfl rfl) rfl (E_168 hX (dp1 hd (by decide)) hG376 (by omega) (by omega) (by omega) (by omega) (by omega) (a := (M116.2.1 77 9)) (b := v389) (fun r391 M395 hG393 F392 p_394 => ?_)))
                      have F396 := FR.c F382 F392 tg_51
                      refine to_2l (pc := 330) rw_170_330 (v := ((M.2.2.1 77 25) ||| r391)) rfl ?_
                      have j_397 := (PLr_f (tg_47 F392) (F_nl F392 (show ¬ (77 < 0) by decide) rfl) (PLr_f (tg_39 F375) (F_nl F375 (show ¬ (77 = 77 ∧ 7 ≤ 25 ∧ 25 ≤ 10) by decide) rfl) (PLr_f (tg_47 F354) (F_nl F354 (show ¬ (77 < 0) by decide) rfl) (PLr_f (tg_48 F336) (F_nl F336 (show ¬ (77 = 77 ∧ (25 = 4 ∨ 25 = 5)) by decide) rfl) (PLr_f (tg_39 F110) (F_nl F110 (show ¬ (77 = 77 ∧ 7 ≤ 25 ∧ 25 ≤ 10) by decide) rfl) (PLr_f (tg_39 F64) (F_nl F64 (show ¬ (77 = 77 ∧ 7 ≤ 25 ∧ 25 ≤ 10) by decide) rfl) (PLr_f (tg_48 F35) (F_nl F35 (show ¬ (77 = 77 ∧ (25 = 4 ∨ 25 = 5)) by decide) rfl) j_33)))))))
                      refine s_pJ (pc := 331) rw_170_331 hG393 rfl (fun M399 W398 => ?_)
                      have hG400 := g_wl hG393 W398
                      have F401 := FR.wl F396 W398 (show 77 = 77 ∧ (25 = 4 ∨ 25 = 5 ∨ 7 ≤ 25 ∧ 25 ≤ 10 ∨ 25 = 15 ∨ 25 = 25) ∨ 80 ≤ 77 ∧ 77 ≤ 84 ∧ 8 ≤ 25 by decide)
                      refine to_an (pc := 334) rw_170_334 rfl (s_gR (pc := 335) rw_170_335 hG400 rfl (v := 80) rfl (to_in (pc := 338) rw_170_338 rfl (to_in (pc := 339) rw_170_339 rfl (s_ias (pc := 340) rw_170_340 hG400 rfl (n := 16) rfl (A := v51.toInt) rfl (by omega) (by omega) (fun M403 W402 => ?_)))))
                      have hG404 := g_wf hG400 W402 rfl rfl (by decide)
                      have F405 := FR.w F401 W402 (show 80 = 77 ∧ ((v51.toInt).toNat = 4 ∨ (v51.toInt).toNat = 5 ∨ 7 ≤ (v51.toInt).toNat ∧ (v51.toInt).toNat ≤ 10 ∨ (v51.toInt).toNat = 15 ∨ (v51.toInt).toNat = 25) ∨ 80 ≤ 80 ∧ 80 ≤ 84 ∧ 8 ≤ (v51.toInt).toNat by omega)
                      refine to_an (pc := 341) rw_170_341 rfl (s_gR (pc := 342) rw_170_342 hG404 rfl (v := 81) rfl (to_in (pc := 345) rw_170_345 rfl (to_in (pc := 346) rw_170_346 rfl (s_ias (pc := 347) rw_170_347 hG404 rfl (n := 16) rfl (A := v51.toInt) rfl (by omega) (by omega) (fun M407 W406 => ?_)))))
                      have hG408 := g_w hG404 W406 (A := v105.toInt) rfl (lo := 0) (hi := 3) rfl rfl (by omega) (by decide)
                      have F409 := FR.w F405 W406 (show 81 = 77 ∧ ((v51.toInt).toNat = 4 ∨ (v51.toInt).toNat = 5 ∨ 7 ≤ (v51.toInt).toNat ∧ (v51.toInt).toNat ≤ 10 ∨ (v51.toInt).toNat = 15 ∨ (v51.toInt).toNat = 25) ∨ 80 ≤ 81 ∧ 81 ≤ 84 ∧ 8 ≤ (v51.toInt).toNat by omega)
                      refine to_an (pc := 348) rw_170_348 rfl (s_gR (pc := 349) rw_170_349 hG408 rfl (v := 82) rfl (to_in (pc := 352) rw_170_352 rfl (to_i (pc := 353) rw_170_353 rfl (s_ias (pc := 355) rw_170_355 hG408 rfl (n := 16) rfl (A := v51.toInt) rfl (by omega) (by omega) (fun M411 W410 => ?_)))))
                      have hG412 := g_w hG408 W410 (A := (M116.2.1 77 9).toInt) rfl (lo := 0) (hi := 59) rfl rfl (by omega) (by decide)
                      have F413 := FR.w F409 W410 (show 82 = 77 ∧ ((v51.toInt).toNat = 4 ∨ (v51.toInt).toNat = 5 ∨ 7 ≤ (v51.toInt).toNat ∧ (v51.toInt).toNat ≤ 10 ∨ (v51.toInt).toNat = 15 ∨ (v51.toInt).toNat = 25) ∨ 80 ≤ 82 ∧ 82 ≤ 84 ∧ 8 ≤ (v51.toInt).toNat by omega)
                      refine to_an (pc := 356) rw_170_356 rfl (s_gR (pc := 357) rw_170_357 hG412 rfl (v := 83) rfl (to_in (pc := 360) rw_170_360 rfl (to_i (pc := 361) rw_170_361 rfl (s_ias (pc := 363) rw_170_363 hG412 rfl (n := 16) rfl (A := v51.toInt) rfl (by omega) (by omega) (fun M415 W414 => ?_)))))
                      have hG416 := g_w hG412 W414 (A := v389.toInt) rfl (lo := 0) (hi := 63) rfl rfl (by omega) (by decide)
                      have F417 := FR.w F413 W414 (show 83 = 77 ∧ ((v51.toInt).toNat = 4 ∨ (v51.toInt).toNat = 5 ∨ 7 ≤ (v51.toInt).toNat ∧ (v51.toInt).toNat ≤ 10 ∨ (v51.toInt).toNat = 15 ∨ (v51.toInt).toNat = 25) ∨ 80 ≤ 83 ∧ 83 ≤ 84 ∧ 8 ≤ (v51.toInt).toNat by omega)
                      refine to_an (pc := 364) rw_170_364 rfl (s_gR (pc := 365) rw_170_365 hG416 rfl (v := 84) rfl (to_in (pc := 368) rw_170_368 rfl (to_i (pc := 369) rw_170_369 rfl (s_ias (pc := 371) rw_170_371 hG416 rfl (n := 16) rfl (A := v51.toInt) rfl (by omega) (by omega) (fun M419 W418 => ?_)))))
                      have hG420 := g_w hG416 W418 (A := 10) rfl (lo := 0) (hi := 24) rfl rfl (by omega) (by decide)
                      have F421 := FR.w F417 W418 (show 84 = 77 ∧ ((v51.toInt).toNat = 4 ∨ (v51.toInt).toNat = 5 ∨ 7 ≤ (v51.toInt).toNat ∧ (v51.toInt).toNat ≤ 10 ∨ (v51.toInt).toNat = 15 ∨ (v51.toInt).toNat = 25) ∨ 80 ≤ 84 ∧ 84 ≤ 84 ∧ 8 ≤ (v51.toInt).toNat by omega)
                      refine to_an (pc := 372) rw_170_372 rfl (to_dupr (pc := 373) rw_170_373 ?_)
                      have c_422 : M419.2.1 77 15 = (M.2.1 77 15) := (W_n W418 (fun z => absurd z.1 (by decide)) (W_n W414 (fun z => absurd z.1 (by decide)) (W_n W410 (fun z => absurd z.1 (by decide)) (W_n W406 (fun z => absurd z.1 (by decide)) (W_n W402 (fun z => absurd z.1 (by decide)) (W_l W398 (F_n F392 (show ¬ (77 < 0) by decide) (F_n F375 (show ¬ (77 = 77 ∧ 7 ≤ 15 ∧ 15 ≤ 10) by decide) (F_n F354 (show ¬ (77 < 0) by decide) (F_n F336 (show ¬ (77 = 77 ∧ (15 = 4 ∨ 15 = 5)) by decide) (F_n F110 (show ¬ (77 = 77 ∧ 7 ≤ 15 ∧ 15 ≤ 10) by decide) (F_n F64 (show ¬ (77 = 77 ∧ 7 ≤ 15 ∧ 15 ≤ 10) by decide) c_50))))))))))))
                      refine tt_gI (pc := 374) rw_170_374 (g_o hG420 rfl) (v := (M.2.1 77 15)) c_422 (to_c (pc := 377) rw_170_377 (x := (1 : Int32)) rfl rfl (s_add (pc := 378) rw_170_378 (A := (M.2.1 77 15).toInt) (B := 1) rfl rfl (by omega) (fun v423 e424 => s_pI (pc := 379) rw_170_379 hG420 rfl (fun M426 W425 => ?_))))
                      have hG427 := g_w hG420 W425 (A := v423.toInt) rfl (lo := 0) (hi := 8) rfl rfl (by omega) (by decide)
                      have F428 := FR.w F421 W425 (show 77 = 77 ∧ (15 = 4 ∨ 15 = 5 ∨ 7 ≤ 15 ∧ 15 ≤ 10 ∨ 15 = 15 ∨ 15 = 25) ∨ 80 ≤ 77 ∧ 77 ≤ 84 ∧ 8 ≤ 15 by decide)
                      refine to_c (pc := 382) rw_170_382 (x := (1 : Int32)) rfl rfl (s_r1 (pc := 383) rw_170_383 (A := 1) rfl (by decide) ?_)
                      have k_429 : (1 : Int32).toInt = 1 := rfl
                      have j_430 := (RS_f (fun a i z => W_n W425 (tg_52 a i z) rfl) (RS_f (fun a i z => W_n W418 (tg_53 a i _ z) rfl) (RS_f (fun a i z => W_n W414 (tg_54 a i _ z) rfl) (RS_f (fun a i z => W_n W410 (tg_55 a i _ z) rfl) (RS_f (fun a i z => W_n W406 (tg_56 a i _ z) rfl) (RS_f (fun a i z => W_n W402 (tg_57 a i _ z) rfl) (RS_f (fun a i z => W_l W398 rfl) (RS_f (tg_45 F392) p_380.1))))))))
                      have c_431 : M426.2.1 77 10 = (M381.2.1 77 10) := (W_n W425 (by decide) (W_n W418 (fun z => absurd z.1 (by decide)) (W_n W414 (fun z => absurd z.1 (by decide)) (W_n W410 (fun z => absurd z.1 (by decide)) (W_n W406 (fun z => absurd z.1 (by decide)) (W_n W402 (fun z => absurd z.1 (by decide)) (W_l W398 (F_n F392 (show ¬ (77 < 0) by decide) rfl))))))))
                      have t_432 : (M426.2.1 77 10).toInt = (M381.2.1 77 10).toInt := congrArg Int32.toInt c_431
                      have z_433 : x_fC t nn sg (x_ns t nn a) := by unfold x_fC; omega
                      have k_434 : (10 : Int32).toInt = 10 := rfl
                      have z_435 := (x_or_r q7 (p_394.trans (x_bw_v (by omega) (by omega))) : _ = _ ||| x_bw (x_val t nn (x_ns t nn (x_ns t nn (x_ns t nn a)))) ((x_val t nn (x_ns t nn (x_ns t nn (x_ns t nn a)))) + ((x_kx (x_val t nn (x_ns t nn (x_ns t nn a)))) - 1)))
                      have z_436 := PLr_p (nm := (x_val t nn (x_ns t nn a))) (kd := ((x_kx (x_val t nn (x_ns t nn (x_ns t nn a)))) - 3)) (f := (x_val t nn (x_ns t nn (x_ns t nn (x_ns t nn a))))) (l := ((x_val t nn (x_ns t nn (x_ns t nn (x_ns t nn a)))) + ((x_kx (x_val t nn (x_ns t nn (x_ns t nn a)))) - 1))) (c := 10) j_397 W398 W402 W406 W410 W414 W418 W425 (by omega) z_435 (by omega) (by omega) (by omega) (by omega) (by omega) (by omega) (by omega) (by omega) (by omega) (by omega) (by omega)
                      have j_437 := (CWr_f (fun k hk9 => W_j W425 rfl) (CWr_f (fun k hk9 => W_j W418 rfl) (CWr_f (fun k hk9 => W_j W414 rfl) (CWr_f (fun k hk9 => W_j W410 rfl) (CWr_f (fun k hk9 => W_j W406 rfl) (CWr_f (fun k hk9 => W_j W402 rfl) (CWr_f (fun k hk9 => L_n W398 (by omega) rfl) (CWr_f (fun k hk9 => F_nl F392 (show ¬ (87 < 0) by decide) rfl) (CWr_f (fun k hk9 => F_nl F375 (show ¬ (87 = 77 ∧ 7 ≤ (12 + k) ∧ (12 + k) ≤ 10) by omega) rfl) (CWr_f (fun k hk9 => F_nl F354 (show ¬ (87 < 0) by decide) rfl) (CWr_f (fun k hk9 => F_nl F336 (show ¬ (87 = 77 ∧ ((12 + k) = 4 ∨ (12 + k) = 5)) by omega) rfl) (CWr_f (fun k hk9 => F_nl F110 (show ¬ (87 = 77 ∧ 7 ≤ (12 + k) ∧ (12 + k) ≤ 10) by omega) rfl) (CWr_f (fun k hk9 => F_nl F64 (show ¬ (87 = 77 ∧ 7 ≤ (12 + k) ∧ (12 + k) ≤ 10) by omega) rfl) (CWr_f (fun k hk9 => F_nl F35 (show ¬ (87 = 77 ∧ ((12 + k) = 4 ∨ (12 + k) = 5)) by omega) rfl) (CWr_f (fun k hk9 => F_nl F19 (show ¬ (87 = 77 ∧ 7 ≤ (12 + k) ∧ (12 + k) ≤ 10) by omega) rfl) q8)))))))))))))))
                      exact h (1 : Int32) M426 hG427 F428 (by decide) (by decide) j_430 (fun z => absurd z (by decide)) (fun _ => ⟨_, (by rw [show (M426.2.1 77 10).toInt = (x_ns t nn (x_ns t nn (x_ns t nn (x_ns t nn a)))) by omega]; exact x_field_d z_433 (by omega)), ⟨z_436, CWr_p j_437⟩, (by show sg.2.1 + 1 + sg.2.2.1 = _; omega)⟩)
                    · refine to_an (pc := 169) rw_170_169 rfl (to_c (pc := 170) rw_170_170 (x := (3 : Int32)) rfl rfl (s_v (pc := 171) rw_170_171 (dp0 hd (by decide)) (ls0 := [.ref 77, .int (3 : Int32)]) rfl (Nat.le_of_ble_eq_true rfl) (Nat.le_of_ble_eq_true rfl) rfl (to_rc rfl rfl rfl (g_o hG355 rfl)) rfl (to_an (pc := 0) rw_152_0 rfl (to_in (pc := 1) rw_152_1 rfl (s_pI (pc := 2) rw_152_2 hG355 rfl (fun M439 W438 => ?_))))))
                      have hG440 := g_wf hG355 W438 rfl rfl (by decide)
                      have F441 := FR.w F358 W438 (show 77 = 77 ∧ (4 = 4 ∨ 4 = 5 ∨ 7 ≤ 4 ∧ 4 ≤ 10 ∨ 4 = 15 ∨ 4 = 25) ∨ 80 ≤ 77 ∧ 77 ≤ 84 ∧ 8 ≤ 4 by decide)
                      refine to_an (pc := 5) rw_152_5 rfl (to_an (pc := 6) rw_152_6 rfl ?_)
                      have c_442 : M439.2.1 77 10 = (M116.2.1 77 10) := (W_n W438 (by decide) (F_n F354 (show ¬ (77 < 0) by decide) (F_n F336 (show ¬ (77 = 77 ∧ (10 = 4 ∨ 10 = 5)) by decide) rfl)))
                      refine tt_gI (pc := 7) rw_152_7 (g_o hG440 rfl) (v := (M116.2.1 77 10)) c_442 (s_pI (pc := 10) rw_152_10 hG440 rfl (fun M444 W443 => ?_))
                      have hG445 := g_wf hG440 W443 rfl rfl (by decide)
                      have F446 := FR.w F441 W443 (show 77 = 77 ∧ (5 = 4 ∨ 5 = 5 ∨ 7 ≤ 5 ∧ 5 ≤ 10 ∨ 5 = 15 ∨ 5 = 25) ∨ 80 ≤ 77 ∧ 77 ≤ 84 ∧ 8 ≤ 5 by decide)
                      refine to_c (pc := 13) rw_152_13 (x := (0 : Int32)) rfl rfl (s_r1 (pc := 14) rw_152_14 (A := 0) rfl (by decide) (s_r1 (pc := 174) rw_170_174 (A := 0) rfl (by decide) ?_))
                      have j_447 := (RS_f (fun a i z => W_n W443 (tg_37 a i z) rfl) (RS_f (fun a i z => W_n W438 (tg_38 a i z) rfl) (RS_f (tg_45 F354) (RS_f (tg_40 F336) p_115.1))))
                      exact h (0 : Int32) M444 hG445 F446 (by decide) (by decide) j_447 (fun _ => x_field_n (fun h9 => by unfold x_fC at h9; omega)) (fun z => absurd z (by decide))
                · refine to_c (pc := 108) rw_170_108 (x := (3 : Int32)) rfl rfl (to_go (pc := 109) rw_170_109 (to_is (pc := 122) rw_170_122 (ls2 := [.ref 77, .int v51, .int (M25.2.1 77 9), .int v105, .int (0 : Int32), .int (3 : Int32), .null, .null, .null]) rfl rfl (to_an (pc := 124) rw_170_124 rfl (to_c (pc := 125) rw_170_125 (x := (0 : Int32)) rfl rfl (to_an (pc := 126) rw_170_126 rfl ?_)))))
                  have c_448 : M116.2.1 77 14 = (M.2.1 77 14) := (F_n F110 (show ¬ (77 = 77 ∧ 7 ≤ 14 ∧ 14 ≤ 10) by decide) (F_n F64 (show ¬ (77 = 77 ∧ 7 ≤ 14 ∧ 14 ≤ 10) by decide) (F_n F35 (show ¬ (77 = 77 ∧ (14 = 4 ∨ 14 = 5)) by decide) (F_n F19 (show ¬ (77 = 77 ∧ 7 ≤ 14 ∧ 14 ≤ 10) by decide) rfl))))
                  refine tt_gI (pc := 127) rw_170_127 (g_o hG111 rfl) (v := (M.2.1 77 14)) c_448 (to_c (pc := 130) rw_170_130 (x := (1 : Int32)) rfl rfl (s_sub (pc := 131) rw_170_131 (A := (M.2.1 77 14).toInt) (B := 1) rfl rfl (by omega) (fun v449 e450 => to_i (pc := 132) rw_170_132 rfl (s_sub (pc := 134) rw_170_134 (A := v449.toInt) (B := 3) rfl rfl (by omega) (fun v451 e452 => s_v (pc := 135) rw_170_135 (dp0 hd (by decide)) (ls0 := [.ref 77, .int (0 : Int32), .int v451]) rfl (Nat.le_of_ble_eq_true rfl) (Nat.le_of_ble_eq_true rfl) rfl (to_rc rfl rfl rfl (g_o hG111 rfl)) rfl ?_)))))
                  have k_453 : (0 : Int32).toInt = 0 := rfl
                  refine E_162 hX (dp1 hd (by decide)) hG111 p_115.1 (by omega) (by omega) (l := (0 : Int32)) (m := v451) (t := t) (nn := nn) (a := (x_ns t nn (x_ns t nn (x_ns t nn a)))) (fun r454 M461 hG456 F455 p_457 p_458 p_459 p_460 => ?_)
                  have F462 := FR.c F117 F455 tg_50
                  rcases (show r454.toInt = 0 ∨ r454.toInt = 1 by omega) with h463 | h463
                  · skip
                    have p_464 := p_460 (by omega)
                    clear p_459 p_460
                    have z_465 := x_val_b (t := t) (nn := nn) (a := (x_ns t nn (x_ns t nn (x_ns t nn a))))
                    refine b_ine_f (pc := 138) rw_170_138 (A := r454.toInt) rfl (by omega) (to_c (pc := 141) rw_170_141 (x := (0 : Int32)) rfl rfl (s_r1 (pc := 142) rw_170_142 (A := 0) rfl (by decide) ?_))
                    have j_466 := (RS_f (tg_40 F455) p_115.1)
                    exact h (0 : Int32) M461 hG456 F462 (by decide) (by decide) j_466 (fun _ => x_field_n (fun h9 => by unfold x_fC at h9; omega)) (fun z => absurd z (by decide))
                  · skip
                    have p_467 := p_459 (by omega)
                    clear p_459 p_460
                    have c_468 : M461.2.1 77 9 = (M116.2.1 77 9) := (F_n F455 (show ¬ (77 = 77 ∧ (9 = 4 ∨ 9 = 5)) by decide) rfl)
                    have z_469 := x_val_b (t := t) (nn := nn) (a := (x_ns t nn (x_ns t nn (x_ns t nn a)))) (by omega)
                    refine b_ine_t (pc := 138) rw_170_138 (A := r454.toInt) rfl (by omega) (to_an (pc := 143) rw_170_143 rfl (tt_gI (pc := 144) rw_170_144 (g_o hG456 rfl) (v := (M116.2.1 77 9)) c_468 (to_is (pc := 147) rw_170_147 (ls2 := [.ref 77, .int v51, .int (M25.2.1 77 9), .int v105, .int (0 : Int32), .int (3 : Int32), .int (M116.2.1 77 9), .null, .null]) rfl rfl (to_an (pc := 149) rw_170_149 rfl (tt_gJ (pc := 150) rw_170_150 (g_o hG456 rfl) (v := (M.2.2.1 77 25)) (F_nl F455 (show ¬ (77 = 77 ∧ (25 = 4 ∨ 25 = 5)) by decide) (F_nl F110 (show ¬ (77 = 77 ∧ 7 ≤ 25 ∧ 25 ≤ 10) by decide) (F_nl F64 (show ¬ (77 = 77 ∧ 7 ≤ 25 ∧ 25 ≤ 10) by decide) (F_nl F35 (show ¬ (77 = 77 ∧ (25 = 4 ∨ 25 = 5)) by decide) (F_nl F19 (show ¬ (77 = 77 ∧ 7 ≤ 25 ∧ 25 ≤ 10) by decide) rfl))))) (to_i (pc := 153) rw_170_153 rfl (to_i (pc := 155) rw_170_155 rfl (to_i (pc := 157) rw_170_157 rfl (s_add (pc := 159) rw_170_159 (A := (M116.2.1 77 9).toInt) (B := 3) rfl rfl (by omega) (fun v470 e471 => s_s (pc := 160) rw_170_160 (dp0 hd (by decide)) (ls0 := [.int (M116.2.1 77 9), .int v470, .null, .null, .null]) rfl (Nat.le_of_ble_eq_true rfl) (Nat.le_of_ble_eq_true rfl) rfl (to_rcs rfl rfl) rfl (E_168 hX (dp1 hd (by decide)) hG456 (by omega) (by omega) (by omega) (by omega) (by omega) (a := (M116.2.1 77 9)) (b := v470) (fun r472 M476 hG474 F473 p_475 => ?_))))))))))))
                    have F477 := FR.c F462 F473 tg_51
                    refine to_2l (pc := 163) rw_170_163 (v := ((M.2.2.1 77 25) &&& r472)) rfl (to_cl (pc := 164) rw_170_164 rfl (x := (0 : Int64)) rfl (s_lcmpE (pc := 165) rw_170_165 (fun v478 e479 => ?_)))
                    have b_480 := x_eq_b (x := ((M.2.2.1 77 25) &&& r472)) (y := (0 : Int64))
                    have z_481 := x_free_r q7 p_475
                    have z_482 := x_free_v (s := sg) (f := (M116.2.1 77 9).toInt) (l := v470.toInt) (f2 := (x_val t nn (x_ns t nn (x_ns t nn (x_ns t nn a))))) (l2 := ((x_val t nn (x_ns t nn (x_ns t nn (x_ns t nn a)))) + ((x_kx (x_val t nn (x_ns t nn (x_ns t nn a)))) - 1))) (by omega) (by omega)
                    refine b_ieq (pc := 166) rw_170_166 (A := v478.toInt) rfl (fun h483 => ?_) (fun h483 => ?_)
                    · refine to_an (pc := 175) rw_170_175 rfl (s_v (pc := 176) rw_170_176 (dp0 hd (by decide)) (ls0 := [.ref 77]) rfl (Nat.le_of_ble_eq_true rfl) (Nat.le_of_ble_eq_true rfl) rfl (to_rc rfl rfl rfl (g_o hG474 rfl)) rfl ?_)
                      have c_484 : M476.2.1 77 7 = (M116.2.1 77 7) := (F_n F473 (show ¬ (77 < 0) by decide) (F_n F455 (show ¬ (77 = 77 ∧ (7 = 4 ∨ 7 = 5)) by decide) rfl))
                      have t_485 : (M476.2.1 77 7).toInt = (M116.2.1 77 7).toInt := congrArg Int32.toInt c_484
                      have c_486 : M476.2.1 77 6 = (M.2.1 77 6) := (F_n F473 (show ¬ (77 < 0) by decide) (F_n F455 (show ¬ (77 = 77 ∧ (6 = 4 ∨ 6 = 5)) by decide) c_119))
                      have t_487 : (M476.2.1 77 6).toInt = (M.2.1 77 6).toInt := congrArg Int32.toInt c_486
                      have c_488 : M476.2.1 77 10 = (M116.2.1 77 10) := (F_n F473 (show ¬ (77 < 0) by decide) (F_n F455 (show ¬ (77 = 77 ∧ (10 = 4 ∨ 10 = 5)) by decide) rfl))
                      have t_489 : (M476.2.1 77 10).toInt = (M116.2.1 77 10).toInt := congrArg Int32.toInt c_488
                      have j_490 := (RS_f (tg_45 F473) (RS_f (tg_40 F455) p_115.1))
                      have z_491 := RS_b j_490 (a := (x_ns t nn (x_ns t nn (x_ns t nn a)))) (by omega)
                      have j_492 := (TR_f (tg_9 F473) (TR_f (tg_41 F455) (TR_f (tg_42 F110) j_108)))
                      have j_493 := (W9_f (tg_46 F473) (W9_f (tg_43 F455) (W9_f (tg_44 F110) j_109)))
                      refine E_156 hX (dp1 hd (by decide)) hG474 (by omega) (by omega) (by omega) (by omega) j_492 j_493  (fun M500 hG495 F494 p_496 p_497 p_498 p_499 => ?_)
                      have F501 := FR.c F477 F494 tg_49
                      have b_502 := g_b hG495 (a := 77) (i := 7) (lo := 0) (hi := 500) rfl rfl
                      have c_503 : M500.2.1 77 6 = (M.2.1 77 6) := (F_n F494 (show ¬ (77 = 77 ∧ 7 ≤ 6 ∧ 6 ≤ 10) by decide) c_486)
                      have t_504 : (M500.2.1 77 6).toInt = (M.2.1 77 6).toInt := congrArg Int32.toInt c_503
                      have b_505 := g_b hG495 (a := 77) (i := 8) (lo := 0) (hi := 5) rfl rfl
                      have b_506 := g_b hG495 (a := 77) (i := 10) (lo := 0) (hi := 500) rfl rfl
                      have z_507 := RS_s p_499.2 (a := (x_ns t nn (x_ns t nn (x_ns t nn a)))) (by omega)
                      refine to_i (pc := 179) rw_170_179 rfl (to_i (pc := 181) rw_170_181 rfl (s_add (pc := 183) rw_170_183 (A := (M116.2.1 77 9).toInt) (B := 3) rfl rfl (by omega) (fun v508 e509 => to_is (pc := 184) rw_170_184 (ls2 := [.ref 77, .int v51, .int (M25.2.1 77 9), .int v105, .int (0 : Int32), .int (3 : Int32), .int (M116.2.1 77 9), .int v508, .null]) rfl rfl (to_c (pc := 186) rw_170_186 (x := (10 : Int32)) rfl rfl (to_is (pc := 188) rw_170_188 (ls2 := [.ref 77, .int v51, .int (M25.2.1 77 9), .int v105, .int (0 : Int32), .int (3 : Int32), .int (M116.2.1 77 9), .int v508, .int (10 : Int32)]) rfl rfl (to_i (pc := 190) rw_170_190 rfl (b_ieq_t (pc := 192) rw_170_192 (A := 0) rfl (by decide) (to_an (pc := 318) rw_170_318 rfl (to_dupr (pc := 319) rw_170_319 (tt_gJ (pc := 320) rw_170_320 (g_o hG495 rfl) (v := (M.2.2.1 77 25)) (F_nl F494 (show ¬ (77 = 77 ∧ 7 ≤ 25 ∧ 25 ≤ 10) by decide) (F_nl F473 (show ¬ (77 < 0) by decide) (F_nl F455 (show ¬ (77 = 77 ∧ (25 = 4 ∨ 25 = 5)) by decide) (F_nl F110 (show ¬ (77 = 77 ∧ 7 ≤ 25 ∧ 25 ≤ 10) by decide) (F_nl F64 (show ¬ (77 = 77 ∧ 7 ≤ 25 ∧ 25 ≤ 10) by decide) (F_nl F35 (show ¬ (77 = 77 ∧ (25 = 4 ∨ 25 = 5)) by decide) (F_nl F19 (show ¬ (77 = 77 ∧ 7 ≤ 25 ∧ 25 ≤ 10) by decide) rfl))))))) (to_i (pc := 323) rw_170_323 rfl ?_)))))))))))
                      refine to_i (pc := 325) rw_170_325 rfl (s_s (pc := 327) rw_170_327 (dp0 hd (by decide)) (ls0 := [.int (M116.2.1 77 9), .int v508, .null, .null, .null]) rfl (Nat.le_of_ble_eq_true rfl) (Nat.le_of_ble_eq_true rfl) rfl (to_rcs rfl rfl) rfl (E_168 hX (dp1 hd (by decide)) hG495 (by omega) (by omega) (by omega) (by omega) (by omega) (a := (M116.2.1 77 9)) (b := v508) (fun r510 M514 hG512 F511 p_513 => ?_)))
                      have F515 := FR.c F501 F511 tg_51
                      refine to_2l (pc := 330) rw_170_330 (v := ((M.2.2.1 77 25) ||| r510)) rfl ?_
                      have j_516 := (PLr_f (tg_47 F511) (F_nl F511 (show ¬ (77 < 0) by decide) rfl) (PLr_f (tg_39 F494) (F_nl F494 (show ¬ (77 = 77 ∧ 7 ≤ 25 ∧ 25 ≤ 10) by decide) rfl) (PLr_f (tg_47 F473) (F_nl F473 (show ¬ (77 < 0) by decide) rfl) (PLr_f (tg_48 F455) (F_nl F455 (show ¬ (77 = 77 ∧ (25 = 4 ∨ 25 = 5)) by decide) rfl) (PLr_f (tg_39 F110) (F_nl F110 (show ¬ (77 = 77 ∧ 7 ≤ 25 ∧ 25 ≤ 10) by decide) rfl) (PLr_f (tg_39 F64) (F_nl F64 (show ¬ (77 = 77 ∧ 7 ≤ 25 ∧ 25 ≤ 10) by decide) rfl) (PLr_f (tg_48 F35) (F_nl F35 (show ¬ (77 = 77 ∧ (25 = 4 ∨ 25 = 5)) by decide) rfl) j_33)))))))
                      refine s_pJ (pc := 331) rw_170_331 hG512 rfl (fun M518 W517 => ?_)
                      have hG519 := g_wl hG512 W517
                      have F520 := FR.wl F515 W517 (show 77 = 77 ∧ (25 = 4 ∨ 25 = 5 ∨ 7 ≤ 25 ∧ 25 ≤ 10 ∨ 25 = 15 ∨ 25 = 25) ∨ 80 ≤ 77 ∧ 77 ≤ 84 ∧ 8 ≤ 25 by decide)
                      refine to_an (pc := 334) rw_170_334 rfl (s_gR (pc := 335) rw_170_335 hG519 rfl (v := 80) rfl (to_in (pc := 338) rw_170_338 rfl (to_in (pc := 339) rw_170_339 rfl (s_ias (pc := 340) rw_170_340 hG519 rfl (n := 16) rfl (A := v51.toInt) rfl (by omega) (by omega) (fun M522 W521 => ?_)))))
                      have hG523 := g_wf hG519 W521 rfl rfl (by decide)
                      have F524 := FR.w F520 W521 (show 80 = 77 ∧ ((v51.toInt).toNat = 4 ∨ (v51.toInt).toNat = 5 ∨ 7 ≤ (v51.toInt).toNat ∧ (v51.toInt).toNat ≤ 10 ∨ (v51.toInt).toNat = 15 ∨ (v51.toInt).toNat = 25) ∨ 80 ≤ 80 ∧ 80 ≤ 84 ∧ 8 ≤ (v51.toInt).toNat by omega)
                      refine to_an (pc := 341) rw_170_341 rfl (s_gR (pc := 342) rw_170_342 hG523 rfl (v := 81) rfl (to_in (pc := 345) rw_170_345 rfl (to_in (pc := 346) rw_170_346 rfl (s_ias (pc := 347) rw_170_347 hG523 rfl (n := 16) rfl (A := v51.toInt) rfl (by omega) (by omega) (fun M526 W525 => ?_)))))
                      have hG527 := g_w hG523 W525 (A := v105.toInt) rfl (lo := 0) (hi := 3) rfl rfl (by omega) (by decide)
                      have F528 := FR.w F524 W525 (show 81 = 77 ∧ ((v51.toInt).toNat = 4 ∨ (v51.toInt).toNat = 5 ∨ 7 ≤ (v51.toInt).toNat ∧ (v51.toInt).toNat ≤ 10 ∨ (v51.toInt).toNat = 15 ∨ (v51.toInt).toNat = 25) ∨ 80 ≤ 81 ∧ 81 ≤ 84 ∧ 8 ≤ (v51.toInt).toNat by omega)
                      refine to_an (pc := 348) rw_170_348 rfl (s_gR (pc := 349) rw_170_349 hG527 rfl (v := 82) rfl (to_in (pc := 352) rw_170_352 rfl (to_i (pc := 353) rw_170_353 rfl (s_ias (pc := 355) rw_170_355 hG527 rfl (n := 16) rfl (A := v51.toInt) rfl (by omega) (by omega) (fun M530 W529 => ?_)))))
                      have hG531 := g_w hG527 W529 (A := (M116.2.1 77 9).toInt) rfl (lo := 0) (hi := 59) rfl rfl (by omega) (by decide)
                      have F532 := FR.w F528 W529 (show 82 = 77 ∧ ((v51.toInt).toNat = 4 ∨ (v51.toInt).toNat = 5 ∨ 7 ≤ (v51.toInt).toNat ∧ (v51.toInt).toNat ≤ 10 ∨ (v51.toInt).toNat = 15 ∨ (v51.toInt).toNat = 25) ∨ 80 ≤ 82 ∧ 82 ≤ 84 ∧ 8 ≤ (v51.toInt).toNat by omega)
                      refine to_an (pc := 356) rw_170_356 rfl (s_gR (pc := 357) rw_170_357 hG531 rfl (v := 83) rfl (to_in (pc := 360) rw_170_360 rfl (to_i (pc := 361) rw_170_361 rfl (s_ias (pc := 363) rw_170_363 hG531 rfl (n := 16) rfl (A := v51.toInt) rfl (by omega) (by omega) (fun M534 W533 => ?_)))))
                      have hG535 := g_w hG531 W533 (A := v508.toInt) rfl (lo := 0) (hi := 63) rfl rfl (by omega) (by decide)
                      have F536 := FR.w F532 W533 (show 83 = 77 ∧ ((v51.toInt).toNat = 4 ∨ (v51.toInt).toNat = 5 ∨ 7 ≤ (v51.toInt).toNat ∧ (v51.toInt).toNat ≤ 10 ∨ (v51.toInt).toNat = 15 ∨ (v51.toInt).toNat = 25) ∨ 80 ≤ 83 ∧ 83 ≤ 84 ∧ 8 ≤ (v51.toInt).toNat by omega)
                      refine to_an (pc := 364) rw_170_364 rfl (s_gR (pc := 365) rw_170_365 hG535 rfl (v := 84) rfl (to_in (pc := 368) rw_170_368 rfl (to_i (pc := 369) rw_170_369 rfl (s_ias (pc := 371) rw_170_371 hG535 rfl (n := 16) rfl (A := v51.toInt) rfl (by omega) (by omega) (fun M538 W537 => ?_)))))
                      have hG539 := g_w hG535 W537 (A := 10) rfl (lo := 0) (hi := 24) rfl rfl (by omega) (by decide)
                      have F540 := FR.w F536 W537 (show 84 = 77 ∧ ((v51.toInt).toNat = 4 ∨ (v51.toInt).toNat = 5 ∨ 7 ≤ (v51.toInt).toNat ∧ (v51.toInt).toNat ≤ 10 ∨ (v51.toInt).toNat = 15 ∨ (v51.toInt).toNat = 25) ∨ 80 ≤ 84 ∧ 84 ≤ 84 ∧ 8 ≤ (v51.toInt).toNat by omega)
                      refine to_an (pc := 372) rw_170_372 rfl (to_dupr (pc := 373) rw_170_373 ?_)
                      have c_541 : M538.2.1 77 15 = (M.2.1 77 15) := (W_n W537 (fun z => absurd z.1 (by decide)) (W_n W533 (fun z => absurd z.1 (by decide)) (W_n W529 (fun z => absurd z.1 (by decide)) (W_n W525 (fun z => absurd z.1 (by decide)) (W_n W521 (fun z => absurd z.1 (by decide)) (W_l W517 (F_n F511 (show ¬ (77 < 0) by decide) (F_n F494 (show ¬ (77 = 77 ∧ 7 ≤ 15 ∧ 15 ≤ 10) by decide) (F_n F473 (show ¬ (77 < 0) by decide) (F_n F455 (show ¬ (77 = 77 ∧ (15 = 4 ∨ 15 = 5)) by decide) (F_n F110 (show ¬ (77 = 77 ∧ 7 ≤ 15 ∧ 15 ≤ 10) by decide) (F_n F64 (show ¬ (77 = 77 ∧ 7 ≤ 15 ∧ 15 ≤ 10) by decide) c_50))))))))))))
                      refine tt_gI (pc := 374) rw_170_374 (g_o hG539 rfl) (v := (M.2.1 77 15)) c_541 (to_c (pc := 377) rw_170_377 (x := (1 : Int32)) rfl rfl (s_add (pc := 378) rw_170_378 (A := (M.2.1 77 15).toInt) (B := 1) rfl rfl (by omega) (fun v542 e543 => s_pI (pc := 379) rw_170_379 hG539 rfl (fun M545 W544 => ?_))))
                      have hG546 := g_w hG539 W544 (A := v542.toInt) rfl (lo := 0) (hi := 8) rfl rfl (by omega) (by decide)
                      have F547 := FR.w F540 W544 (show 77 = 77 ∧ (15 = 4 ∨ 15 = 5 ∨ 7 ≤ 15 ∧ 15 ≤ 10 ∨ 15 = 15 ∨ 15 = 25) ∨ 80 ≤ 77 ∧ 77 ≤ 84 ∧ 8 ≤ 15 by decide)
                      refine to_c (pc := 382) rw_170_382 (x := (1 : Int32)) rfl rfl (s_r1 (pc := 383) rw_170_383 (A := 1) rfl (by decide) ?_)
                      have k_548 : (1 : Int32).toInt = 1 := rfl
                      have j_549 := (RS_f (fun a i z => W_n W544 (tg_52 a i z) rfl) (RS_f (fun a i z => W_n W537 (tg_53 a i _ z) rfl) (RS_f (fun a i z => W_n W533 (tg_54 a i _ z) rfl) (RS_f (fun a i z => W_n W529 (tg_55 a i _ z) rfl) (RS_f (fun a i z => W_n W525 (tg_56 a i _ z) rfl) (RS_f (fun a i z => W_n W521 (tg_57 a i _ z) rfl) (RS_f (fun a i z => W_l W517 rfl) (RS_f (tg_45 F511) p_499.1))))))))
                      have c_550 : M545.2.1 77 10 = (M500.2.1 77 10) := (W_n W544 (by decide) (W_n W537 (fun z => absurd z.1 (by decide)) (W_n W533 (fun z => absurd z.1 (by decide)) (W_n W529 (fun z => absurd z.1 (by decide)) (W_n W525 (fun z => absurd z.1 (by decide)) (W_n W521 (fun z => absurd z.1 (by decide)) (W_l W517 (F_n F511 (show ¬ (77 < 0) by decide) rfl))))))))
                      have t_551 : (M545.2.1 77 10).toInt = (M500.2.1 77 10).toInt := congrArg Int32.toInt c_550
                      have z_552 : x_fC t nn sg (x_ns t nn a) := by unfold x_fC; omega
                      have k_553 : (10 : Int32).toInt = 10 := rfl
                      have z_554 := (x_or_r q7 (p_513.trans (x_bw_v (by omega) (by omega))) : _ = _ ||| x_bw (x_val t nn (x_ns t nn (x_ns t nn (x_ns t nn a)))) ((x_val t nn (x_ns t nn (x_ns t nn (x_ns t nn a)))) + ((x_kx (x_val t nn (x_ns t nn (x_ns t nn a)))) - 1)))
                      have z_555 := PLr_p (nm := (x_val t nn (x_ns t nn a))) (kd := ((x_kx (x_val t nn (x_ns t nn (x_ns t nn a)))) - 3)) (f := (x_val t nn (x_ns t nn (x_ns t nn (x_ns t nn a))))) (l := ((x_val t nn (x_ns t nn (x_ns t nn (x_ns t nn a)))) + ((x_kx (x_val t nn (x_ns t nn (x_ns t nn a)))) - 1))) (c := 10) j_516 W517 W521 W525 W529 W533 W537 W544 (by omega) z_554 (by omega) (by omega) (by omega) (by omega) (by omega) (by omega) (by omega) (by omega) (by omega) (by omega) (by omega)
                      have j_556 := (CWr_f (fun k hk9 => W_j W544 rfl) (CWr_f (fun k hk9 => W_j W537 rfl) (CWr_f (fun k hk9 => W_j W533 rfl) (CWr_f (fun k hk9 => W_j W529 rfl) (CWr_f (fun k hk9 => W_j W525 rfl) (CWr_f (fun k hk9 => W_j W521 rfl) (CWr_f (fun k hk9 => L_n W517 (by omega) rfl) (CWr_f (fun k hk9 => F_nl F511 (show ¬ (87 < 0) by decide) rfl) (CWr_f (fun k hk9 => F_nl F494 (show ¬ (87 = 77 ∧ 7 ≤ (12 + k) ∧ (12 + k) ≤ 10) by omega) rfl) (CWr_f (fun k hk9 => F_nl F473 (show ¬ (87 < 0) by decide) rfl) (CWr_f (fun k hk9 => F_nl F455 (show ¬ (87 = 77 ∧ ((12 + k) = 4 ∨ (12 + k) = 5)) by omega) rfl) (CWr_f (fun k hk9 => F_nl F110 (show ¬ (87 = 77 ∧ 7 ≤ (12 + k) ∧ (12 + k) ≤ 10) by omega) rfl) (CWr_f (fun k hk9 => F_nl F64 (show ¬ (87 = 77 ∧ 7 ≤ (12 + k) ∧ (12 + k) ≤ 10) by omega) rfl) (CWr_f (fun k hk9 => F_nl F35 (show ¬ (87 = 77 ∧ ((12 + k) = 4 ∨ (12 + k) = 5)) by omega) rfl) (CWr_f (fun k hk9 => F_nl F19 (show ¬ (87 = 77 ∧ 7 ≤ (12 + k) ∧ (12 + k) ≤ 10) by omega) rfl) q8)))))))))))))))
                      exact h (1 : Int32) M545 hG546 F547 (by decide) (by decide) j_549 (fun z => absurd z (by decide)) (fun _ => ⟨_, (by rw [show (M545.2.1 77 10).toInt = (x_ns t nn (x_ns t nn (x_ns t nn (x_ns t nn a)))) by omega]; exact x_field_d z_552 (by omega)), ⟨z_555, CWr_p j_556⟩, (by show sg.2.1 + 1 + sg.2.2.1 = _; omega)⟩)
                    · refine to_an (pc := 169) rw_170_169 rfl (to_c (pc := 170) rw_170_170 (x := (3 : Int32)) rfl rfl (s_v (pc := 171) rw_170_171 (dp0 hd (by decide)) (ls0 := [.ref 77, .int (3 : Int32)]) rfl (Nat.le_of_ble_eq_true rfl) (Nat.le_of_ble_eq_true rfl) rfl (to_rc rfl rfl rfl (g_o hG474 rfl)) rfl (to_an (pc := 0) rw_152_0 rfl (to_in (pc := 1) rw_152_1 rfl (s_pI (pc := 2) rw_152_2 hG474 rfl (fun M558 W557 => ?_))))))
                      have hG559 := g_wf hG474 W557 rfl rfl (by decide)
                      have F560 := FR.w F477 W557 (show 77 = 77 ∧ (4 = 4 ∨ 4 = 5 ∨ 7 ≤ 4 ∧ 4 ≤ 10 ∨ 4 = 15 ∨ 4 = 25) ∨ 80 ≤ 77 ∧ 77 ≤ 84 ∧ 8 ≤ 4 by decide)
                      refine to_an (pc := 5) rw_152_5 rfl (to_an (pc := 6) rw_152_6 rfl ?_)
                      have c_561 : M558.2.1 77 10 = (M116.2.1 77 10) := (W_n W557 (by decide) (F_n F473 (show ¬ (77 < 0) by decide) (F_n F455 (show ¬ (77 = 77 ∧ (10 = 4 ∨ 10 = 5)) by decide) rfl)))
                      refine tt_gI (pc := 7) rw_152_7 (g_o hG559 rfl) (v := (M116.2.1 77 10)) c_561 (s_pI (pc := 10) rw_152_10 hG559 rfl (fun M563 W562 => ?_))
                      have hG564 := g_wf hG559 W562 rfl rfl (by decide)
                      have F565 := FR.w F560 W562 (show 77 = 77 ∧ (5 = 4 ∨ 5 = 5 ∨ 7 ≤ 5 ∧ 5 ≤ 10 ∨ 5 = 15 ∨ 5 = 25) ∨ 80 ≤ 77 ∧ 77 ≤ 84 ∧ 8 ≤ 5 by decide)
                      refine to_c (pc := 13) rw_152_13 (x := (0 : Int32)) rfl rfl (s_r1 (pc := 14) rw_152_14 (A := 0) rfl (by decide) (s_r1 (pc := 174) rw_170_174 (A := 0) rfl (by decide) ?_))
                      have j_566 := (RS_f (fun a i z => W_n W562 (tg_37 a i z) rfl) (RS_f (fun a i z => W_n W557 (tg_38 a i z) rfl) (RS_f (tg_45 F473) (RS_f (tg_40 F455) p_115.1))))
                      exact h (0 : Int32) M563 hG564 F565 (by decide) (by decide) j_566 (fun _ => x_field_n (fun h9 => by unfold x_fC at h9; omega)) (fun z => absurd z (by decide))
              · refine to_c (pc := 96) rw_170_96 (x := (1 : Int32)) rfl rfl (to_go (pc := 97) rw_170_97 (to_is (pc := 101) rw_170_101 (ls2 := [.ref 77, .int v51, .int (M25.2.1 77 9), .int v105, .int (1 : Int32), .null, .null, .null, .null]) rfl rfl (to_in (pc := 103) rw_170_103 rfl (to_c (pc := 104) rw_170_104 (x := (1 : Int32)) rfl rfl (b_cne_t (pc := 105) rw_170_105 (A := v105.toInt) (B := 1) rfl rfl (by omega) (to_in (pc := 112) rw_170_112 rfl (to_c (pc := 113) rw_170_113 (x := (2 : Int32)) rfl rfl (b_cne_t (pc := 114) rw_170_114 (A := v105.toInt) (B := 2) rfl rfl (by omega) (to_c (pc := 121) rw_170_121 (x := (0 : Int32)) rfl rfl (to_is (pc := 122) rw_170_122 (ls2 := [.ref 77, .int v51, .int (M25.2.1 77 9), .int v105, .int (1 : Int32), .int (0 : Int32), .null, .null, .null]) rfl rfl (to_an (pc := 124) rw_170_124 rfl ?_)))))))))))
                refine to_c (pc := 125) rw_170_125 (x := (0 : Int32)) rfl rfl (to_an (pc := 126) rw_170_126 rfl ?_)
                have c_567 : M116.2.1 77 14 = (M.2.1 77 14) := (F_n F110 (show ¬ (77 = 77 ∧ 7 ≤ 14 ∧ 14 ≤ 10) by decide) (F_n F64 (show ¬ (77 = 77 ∧ 7 ≤ 14 ∧ 14 ≤ 10) by decide) (F_n F35 (show ¬ (77 = 77 ∧ (14 = 4 ∨ 14 = 5)) by decide) (F_n F19 (show ¬ (77 = 77 ∧ 7 ≤ 14 ∧ 14 ≤ 10) by decide) rfl))))
                refine tt_gI (pc := 127) rw_170_127 (g_o hG111 rfl) (v := (M.2.1 77 14)) c_567 (to_c (pc := 130) rw_170_130 (x := (1 : Int32)) rfl rfl (s_sub (pc := 131) rw_170_131 (A := (M.2.1 77 14).toInt) (B := 1) rfl rfl (by omega) (fun v568 e569 => to_i (pc := 132) rw_170_132 rfl (s_sub (pc := 134) rw_170_134 (A := v568.toInt) (B := 0) rfl rfl (by omega) (fun v570 e571 => s_v (pc := 135) rw_170_135 (dp0 hd (by decide)) (ls0 := [.ref 77, .int (0 : Int32), .int v570]) rfl (Nat.le_of_ble_eq_true rfl) (Nat.le_of_ble_eq_true rfl) rfl (to_rc rfl rfl rfl (g_o hG111 rfl)) rfl ?_)))))
                have k_572 : (0 : Int32).toInt = 0 := rfl
                refine E_162 hX (dp1 hd (by decide)) hG111 p_115.1 (by omega) (by omega) (l := (0 : Int32)) (m := v570) (t := t) (nn := nn) (a := (x_ns t nn (x_ns t nn (x_ns t nn a)))) (fun r573 M580 hG575 F574 p_576 p_577 p_578 p_579 => ?_)
                have F581 := FR.c F117 F574 tg_50
                rcases (show r573.toInt = 0 ∨ r573.toInt = 1 by omega) with h582 | h582
                · skip
                  have p_583 := p_579 (by omega)
                  clear p_578 p_579
                  have z_584 := x_val_b (t := t) (nn := nn) (a := (x_ns t nn (x_ns t nn (x_ns t nn a))))
                  refine b_ine_f (pc := 138) rw_170_138 (A := r573.toInt) rfl (by omega) (to_c (pc := 141) rw_170_141 (x := (0 : Int32)) rfl rfl (s_r1 (pc := 142) rw_170_142 (A := 0) rfl (by decide) ?_))
                  have j_585 := (RS_f (tg_40 F574) p_115.1)
                  exact h (0 : Int32) M580 hG575 F581 (by decide) (by decide) j_585 (fun _ => x_field_n (fun h9 => by unfold x_fC at h9; omega)) (fun z => absurd z (by decide))
                · skip
                  have p_586 := p_578 (by omega)
                  clear p_578 p_579
                  have c_587 : M580.2.1 77 9 = (M116.2.1 77 9) := (F_n F574 (show ¬ (77 = 77 ∧ (9 = 4 ∨ 9 = 5)) by decide) rfl)
                  have z_588 := x_val_b (t := t) (nn := nn) (a := (x_ns t nn (x_ns t nn (x_ns t nn a)))) (by omega)
                  refine b_ine_t (pc := 138) rw_170_138 (A := r573.toInt) rfl (by omega) (to_an (pc := 143) rw_170_143 rfl (tt_gI (pc := 144) rw_170_144 (g_o hG575 rfl) (v := (M116.2.1 77 9)) c_587 (to_is (pc := 147) rw_170_147 (ls2 := [.ref 77, .int v51, .int (M25.2.1 77 9), .int v105, .int (1 : Int32), .int (0 : Int32), .int (M116.2.1 77 9), .null, .null]) rfl rfl (to_an (pc := 149) rw_170_149 rfl (tt_gJ (pc := 150) rw_170_150 (g_o hG575 rfl) (v := (M.2.2.1 77 25)) (F_nl F574 (show ¬ (77 = 77 ∧ (25 = 4 ∨ 25 = 5)) by decide) (F_nl F110 (show ¬ (77 = 77 ∧ 7 ≤ 25 ∧ 25 ≤ 10) by decide) (F_nl F64 (show ¬ (77 = 77 ∧ 7 ≤ 25 ∧ 25 ≤ 10) by decide) (F_nl F35 (show ¬ (77 = 77 ∧ (25 = 4 ∨ 25 = 5)) by decide) (F_nl F19 (show ¬ (77 = 77 ∧ 7 ≤ 25 ∧ 25 ≤ 10) by decide) rfl))))) (to_i (pc := 153) rw_170_153 rfl (to_i (pc := 155) rw_170_155 rfl (to_i (pc := 157) rw_170_157 rfl (s_add (pc := 159) rw_170_159 (A := (M116.2.1 77 9).toInt) (B := 0) rfl rfl (by omega) (fun v589 e590 => s_s (pc := 160) rw_170_160 (dp0 hd (by decide)) (ls0 := [.int (M116.2.1 77 9), .int v589, .null, .null, .null]) rfl (Nat.le_of_ble_eq_true rfl) (Nat.le_of_ble_eq_true rfl) rfl (to_rcs rfl rfl) rfl (E_168 hX (dp1 hd (by decide)) hG575 (by omega) (by omega) (by omega) (by omega) (by omega) (a := (M116.2.1 77 9)) (b := v589) (fun r591 M595 hG593 F592 p_594 => ?_))))))))))))
                  have F596 := FR.c F581 F592 tg_51
                  refine to_2l (pc := 163) rw_170_163 (v := ((M.2.2.1 77 25) &&& r591)) rfl (to_cl (pc := 164) rw_170_164 rfl (x := (0 : Int64)) rfl (s_lcmpE (pc := 165) rw_170_165 (fun v597 e598 => ?_)))
                  have b_599 := x_eq_b (x := ((M.2.2.1 77 25) &&& r591)) (y := (0 : Int64))
                  have z_600 := x_free_r q7 p_594
                  have z_601 := x_free_v (s := sg) (f := (M116.2.1 77 9).toInt) (l := v589.toInt) (f2 := (x_val t nn (x_ns t nn (x_ns t nn (x_ns t nn a))))) (l2 := (x_val t nn (x_ns t nn (x_ns t nn (x_ns t nn a))))) (by omega) (by omega)
                  refine b_ieq (pc := 166) rw_170_166 (A := v597.toInt) rfl (fun h602 => ?_) (fun h602 => ?_)
                  · refine to_an (pc := 175) rw_170_175 rfl (s_v (pc := 176) rw_170_176 (dp0 hd (by decide)) (ls0 := [.ref 77]) rfl (Nat.le_of_ble_eq_true rfl) (Nat.le_of_ble_eq_true rfl) rfl (to_rc rfl rfl rfl (g_o hG593 rfl)) rfl ?_)
                    have c_603 : M595.2.1 77 7 = (M116.2.1 77 7) := (F_n F592 (show ¬ (77 < 0) by decide) (F_n F574 (show ¬ (77 = 77 ∧ (7 = 4 ∨ 7 = 5)) by decide) rfl))
                    have t_604 : (M595.2.1 77 7).toInt = (M116.2.1 77 7).toInt := congrArg Int32.toInt c_603
                    have c_605 : M595.2.1 77 6 = (M.2.1 77 6) := (F_n F592 (show ¬ (77 < 0) by decide) (F_n F574 (show ¬ (77 = 77 ∧ (6 = 4 ∨ 6 = 5)) by decide) c_119))
                    have t_606 : (M595.2.1 77 6).toInt = (M.2.1 77 6).toInt := congrArg Int32.toInt c_605
                    have c_607 : M595.2.1 77 10 = (M116.2.1 77 10) := (F_n F592 (show ¬ (77 < 0) by decide) (F_n F574 (show ¬ (77 = 77 ∧ (10 = 4 ∨ 10 = 5)) by decide) rfl))
                    have t_608 : (M595.2.1 77 10).toInt = (M116.2.1 77 10).toInt := congrArg Int32.toInt c_607
                    have j_609 := (RS_f (tg_45 F592) (RS_f (tg_40 F574) p_115.1))
                    have z_610 := RS_b j_609 (a := (x_ns t nn (x_ns t nn (x_ns t nn a)))) (by omega)
                    have j_611 := (TR_f (tg_9 F592) (TR_f (tg_41 F574) (TR_f (tg_42 F110) j_108)))
                    have j_612 := (W9_f (tg_46 F592) (W9_f (tg_43 F574) (W9_f (tg_44 F110) j_109)))
                    refine E_156 hX (dp1 hd (by decide)) hG593 (by omega) (by omega) (by omega) (by omega) j_611 j_612  (fun M619 hG614 F613 p_615 p_616 p_617 p_618 => ?_)
                    have F620 := FR.c F596 F613 tg_49
                    have b_621 := g_b hG614 (a := 77) (i := 7) (lo := 0) (hi := 500) rfl rfl
                    have c_622 : M619.2.1 77 6 = (M.2.1 77 6) := (F_n F613 (show ¬ (77 = 77 ∧ 7 ≤ 6 ∧ 6 ≤ 10) by decide) c_605)
                    have t_623 : (M619.2.1 77 6).toInt = (M.2.1 77 6).toInt := congrArg Int32.toInt c_622
                    have b_624 := g_b hG614 (a := 77) (i := 8) (lo := 0) (hi := 5) rfl rfl
                    have b_625 := g_b hG614 (a := 77) (i := 10) (lo := 0) (hi := 500) rfl rfl
                    have z_626 := RS_s p_618.2 (a := (x_ns t nn (x_ns t nn (x_ns t nn a)))) (by omega)
                    refine to_i (pc := 179) rw_170_179 rfl (to_i (pc := 181) rw_170_181 rfl (s_add (pc := 183) rw_170_183 (A := (M116.2.1 77 9).toInt) (B := 0) rfl rfl (by omega) (fun v627 e628 => to_is (pc := 184) rw_170_184 (ls2 := [.ref 77, .int v51, .int (M25.2.1 77 9), .int v105, .int (1 : Int32), .int (0 : Int32), .int (M116.2.1 77 9), .int v627, .null]) rfl rfl (to_c (pc := 186) rw_170_186 (x := (10 : Int32)) rfl rfl (to_is (pc := 188) rw_170_188 (ls2 := [.ref 77, .int v51, .int (M25.2.1 77 9), .int v105, .int (1 : Int32), .int (0 : Int32), .int (M116.2.1 77 9), .int v627, .int (10 : Int32)]) rfl rfl (to_i (pc := 190) rw_170_190 rfl (b_ieq_f (pc := 192) rw_170_192 (A := 1) rfl (by decide) (to_an (pc := 195) rw_170_195 rfl (to_in (pc := 196) rw_170_196 rfl (b_ine_t (pc := 197) rw_170_197 (A := v105.toInt) rfl (by omega) (to_i (pc := 207) rw_170_207 rfl ?_)))))))))))
                    refine to_an (pc := 209) rw_170_209 rfl ?_
                    have c_629 : M619.2.1 77 14 = (M.2.1 77 14) := (F_n F613 (show ¬ (77 = 77 ∧ 7 ≤ 14 ∧ 14 ≤ 10) by decide) (F_n F592 (show ¬ (77 < 0) by decide) (F_n F574 (show ¬ (77 = 77 ∧ (14 = 4 ∨ 14 = 5)) by decide) c_567)))
                    refine tt_gI (pc := 210) rw_170_210 (g_o hG614 rfl) (v := (M.2.1 77 14)) c_629 (to_c (pc := 213) rw_170_213 (x := (1 : Int32)) rfl rfl (s_sub (pc := 214) rw_170_214 (A := (M.2.1 77 14).toInt) (B := 1) rfl rfl (by omega) (fun v630 e631 => s_v (pc := 215) rw_170_215 (dp0 hd (by decide)) (ls0 := [.ref 77, .int (M116.2.1 77 9), .int v630]) rfl (Nat.le_of_ble_eq_true rfl) (Nat.le_of_ble_eq_true rfl) rfl (to_rc rfl rfl rfl (g_o hG614 rfl)) rfl (E_162 hX (dp1 hd (by decide)) hG614 p_618.1 (by omega) (by omega) (l := (M116.2.1 77 9)) (m := v630) (t := t) (nn := nn) (a := (x_ns t nn (x_ns t nn (x_ns t nn (x_ns t nn a))))) (fun r632 M639 hG634 F633 p_635 p_636 p_637 p_638 => ?_)))))
                    have F640 := FR.c F620 F633 tg_50
                    rcases (show r632.toInt = 0 ∨ r632.toInt = 1 by omega) with h641 | h641
                    · skip
                      have p_642 := p_638 (by omega)
                      clear p_637 p_638
                      have z_643 := x_val_b (t := t) (nn := nn) (a := (x_ns t nn (x_ns t nn (x_ns t nn (x_ns t nn a)))))
                      refine b_ine_f (pc := 218) rw_170_218 (A := r632.toInt) rfl (by omega) (to_c (pc := 221) rw_170_221 (x := (0 : Int32)) rfl rfl (s_r1 (pc := 222) rw_170_222 (A := 0) rfl (by decide) ?_))
                      have j_644 := (RS_f (tg_40 F633) p_618.1)
                      exact h (0 : Int32) M639 hG634 F640 (by decide) (by decide) j_644 (fun _ => x_field_n (fun h9 => by unfold x_fC at h9; omega)) (fun z => absurd z (by decide))
                    · skip
                      have p_645 := p_637 (by omega)
                      clear p_637 p_638
                      have c_646 : M639.2.1 77 9 = (M619.2.1 77 9) := (F_n F633 (show ¬ (77 = 77 ∧ (9 = 4 ∨ 9 = 5)) by decide) rfl)
                      have z_647 := x_val_b (t := t) (nn := nn) (a := (x_ns t nn (x_ns t nn (x_ns t nn (x_ns t nn a))))) (by omega)
                      refine b_ine_t (pc := 218) rw_170_218 (A := r632.toInt) rfl (by omega) (to_an (pc := 223) rw_170_223 rfl (tt_gI (pc := 224) rw_170_224 (g_o hG634 rfl) (v := (M619.2.1 77 9)) c_646 (to_is (pc := 227) rw_170_227 (ls2 := [.ref 77, .int v51, .int (M25.2.1 77 9), .int v105, .int (1 : Int32), .int (0 : Int32), .int (M116.2.1 77 9), .int (M619.2.1 77 9), .int (10 : Int32)]) rfl rfl (to_i (pc := 229) rw_170_229 rfl (to_i (pc := 231) rw_170_231 rfl (s_sub (pc := 233) rw_170_233 (A := (M619.2.1 77 9).toInt) (B := (M116.2.1 77 9).toInt) rfl rfl (by omega) (fun v648 e649 => to_c (pc := 234) rw_170_234 (x := (23 : Int32)) rfl rfl (b_cle (pc := 236) rw_170_236 (A := v648.toInt) (B := 23) rfl rfl (fun h650 => ?_) (fun h650 => ?_)))))))))
                      · refine to_an (pc := 245) rw_170_245 rfl (tt_gJ (pc := 246) rw_170_246 (g_o hG634 rfl) (v := (M.2.2.1 77 25)) (F_nl F633 (show ¬ (77 = 77 ∧ (25 = 4 ∨ 25 = 5)) by decide) (F_nl F613 (show ¬ (77 = 77 ∧ 7 ≤ 25 ∧ 25 ≤ 10) by decide) (F_nl F592 (show ¬ (77 < 0) by decide) (F_nl F574 (show ¬ (77 = 77 ∧ (25 = 4 ∨ 25 = 5)) by decide) (F_nl F110 (show ¬ (77 = 77 ∧ 7 ≤ 25 ∧ 25 ≤ 10) by decide) (F_nl F64 (show ¬ (77 = 77 ∧ 7 ≤ 25 ∧ 25 ≤ 10) by decide) (F_nl F35 (show ¬ (77 = 77 ∧ (25 = 4 ∨ 25 = 5)) by decide) (F_nl F19 (show ¬ (77 = 77 ∧ 7 ≤ 25 ∧ 25 ≤ 10) by decide) rfl)))))))) (to_i (pc := 249) rw_170_249 rfl (to_i (pc := 251) rw_170_251 rfl (s_s (pc := 253) rw_170_253 (dp0 hd (by decide)) (ls0 := [.int (M116.2.1 77 9), .int (M619.2.1 77 9), .null, .null, .null]) rfl (Nat.le_of_ble_eq_true rfl) (Nat.le_of_ble_eq_true rfl) rfl (to_rcs rfl rfl) rfl (E_168 hX (dp1 hd (by decide)) hG634 (by omega) (by omega) (by omega) (by omega) (by omega) (a := (M116.2.1 77 9)) (b := (M619.2.1 77 9)) (fun r651 M655 hG653 F652 p_654 => ?_))))))
                        have F656 := FR.c F640 F652 tg_51
                        refine to_2l (pc := 256) rw_170_256 (v := ((M.2.2.1 77 25) &&& r651)) rfl (to_cl (pc := 257) rw_170_257 rfl (x := (0 : Int64)) rfl (s_lcmpE (pc := 258) rw_170_258 (fun v657 e658 => ?_)))
                        have b_659 := x_eq_b (x := ((M.2.2.1 77 25) &&& r651)) (y := (0 : Int64))
                        have z_660 := x_free_r q7 p_654
                        have z_661 := x_free_v (s := sg) (f := (M116.2.1 77 9).toInt) (l := (M619.2.1 77 9).toInt) (f2 := (x_val t nn (x_ns t nn (x_ns t nn (x_ns t nn a))))) (l2 := (x_val t nn (x_ns t nn (x_ns t nn (x_ns t nn (x_ns t nn a)))))) (by omega) (by omega)
                        refine b_ieq (pc := 259) rw_170_259 (A := v657.toInt) rfl (fun h662 => ?_) (fun h662 => ?_)
                        · refine to_an (pc := 268) rw_170_268 rfl (s_v (pc := 269) rw_170_269 (dp0 hd (by decide)) (ls0 := [.ref 77]) rfl (Nat.le_of_ble_eq_true rfl) (Nat.le_of_ble_eq_true rfl) rfl (to_rc rfl rfl rfl (g_o hG653 rfl)) rfl ?_)
                          have c_663 : M655.2.1 77 7 = (M619.2.1 77 7) := (F_n F652 (show ¬ (77 < 0) by decide) (F_n F633 (show ¬ (77 = 77 ∧ (7 = 4 ∨ 7 = 5)) by decide) rfl))
                          have t_664 : (M655.2.1 77 7).toInt = (M619.2.1 77 7).toInt := congrArg Int32.toInt c_663
                          have c_665 : M655.2.1 77 6 = (M.2.1 77 6) := (F_n F652 (show ¬ (77 < 0) by decide) (F_n F633 (show ¬ (77 = 77 ∧ (6 = 4 ∨ 6 = 5)) by decide) c_622))
                          have t_666 : (M655.2.1 77 6).toInt = (M.2.1 77 6).toInt := congrArg Int32.toInt c_665
                          have c_667 : M655.2.1 77 10 = (M619.2.1 77 10) := (F_n F652 (show ¬ (77 < 0) by decide) (F_n F633 (show ¬ (77 = 77 ∧ (10 = 4 ∨ 10 = 5)) by decide) rfl))
                          have t_668 : (M655.2.1 77 10).toInt = (M619.2.1 77 10).toInt := congrArg Int32.toInt c_667
                          have j_669 := (RS_f (tg_45 F652) (RS_f (tg_40 F633) p_618.1))
                          have z_670 := RS_b j_669 (a := (x_ns t nn (x_ns t nn (x_ns t nn (x_ns t nn a))))) (by omega)
                          have j_671 := (TR_f (tg_9 F652) (TR_f (tg_41 F633) (TR_f (tg_42 F613) j_611)))
                          have j_672 := (W9_f (tg_46 F652) (W9_f (tg_43 F633) (W9_f (tg_44 F613) j_612)))
                          refine E_156 hX (dp1 hd (by decide)) hG653 (by omega) (by omega) (by omega) (by omega) j_671 j_672  (fun M679 hG674 F673 p_675 p_676 p_677 p_678 => ?_)
                          have F680 := FR.c F656 F673 tg_49
                          have b_681 := g_b hG674 (a := 77) (i := 7) (lo := 0) (hi := 500) rfl rfl
                          have c_682 : M679.2.1 77 6 = (M.2.1 77 6) := (F_n F673 (show ¬ (77 = 77 ∧ 7 ≤ 6 ∧ 6 ≤ 10) by decide) c_665)
                          have t_683 : (M679.2.1 77 6).toInt = (M.2.1 77 6).toInt := congrArg Int32.toInt c_682
                          have b_684 := g_b hG674 (a := 77) (i := 8) (lo := 0) (hi := 5) rfl rfl
                          have b_685 := g_b hG674 (a := 77) (i := 10) (lo := 0) (hi := 500) rfl rfl
                          have z_686 := RS_s p_678.2 (a := (x_ns t nn (x_ns t nn (x_ns t nn (x_ns t nn a))))) (by omega)
                          refine to_i (pc := 272) rw_170_272 rfl (to_i (pc := 274) rw_170_274 rfl (s_sub (pc := 276) rw_170_276 (A := (M619.2.1 77 9).toInt) (B := (M116.2.1 77 9).toInt) rfl rfl (by omega) (fun v687 e688 => to_c (pc := 277) rw_170_277 (x := (1 : Int32)) rfl rfl (s_add (pc := 278) rw_170_278 (A := v687.toInt) (B := 1) rfl rfl (by omega) (fun v689 e690 => to_is (pc := 279) rw_170_279 (ls2 := [.ref 77, .int v51, .int (M25.2.1 77 9), .int v105, .int (1 : Int32), .int (0 : Int32), .int (M116.2.1 77 9), .int (M619.2.1 77 9), .int v689]) rfl rfl (to_in (pc := 281) rw_170_281 rfl (to_c (pc := 282) rw_170_282 (x := (3 : Int32)) rfl rfl (b_cne_f (pc := 283) rw_170_283 (A := v105.toInt) (B := 3) rfl rfl (by omega) (to_an (pc := 286) rw_170_286 rfl (to_c (pc := 287) rw_170_287 (x := (1 : Int32)) rfl rfl (to_i (pc := 288) rw_170_288 rfl ?_)))))))))))
                          refine to_c (pc := 290) rw_170_290 (x := (4 : Int32)) rfl rfl (b_cge (pc := 291) rw_170_291 (A := v689.toInt) (B := 4) rfl rfl (fun h691 => ?_) (fun h691 => ?_))
                          · refine to_c (pc := 299) rw_170_299 (x := (4 : Int32)) rfl rfl (s_v (pc := 300) rw_170_300 (dp0 hd (by decide)) (ls0 := [.ref 77, .int (1 : Int32), .int (4 : Int32)]) rfl (Nat.le_of_ble_eq_true rfl) (Nat.le_of_ble_eq_true rfl) rfl (to_rc rfl rfl rfl (g_o hG674 rfl)) rfl ?_)
                            have k_692 : (1 : Int32).toInt = 1 := rfl
                            have k_693 : (4 : Int32).toInt = 4 := rfl
                            refine E_162 hX (dp1 hd (by decide)) hG674 p_678.1 (by omega) (by omega) (l := (1 : Int32)) (m := (4 : Int32)) (t := t) (nn := nn) (a := (x_ns t nn (x_ns t nn (x_ns t nn (x_ns t nn (x_ns t nn a)))))) (fun r694 M701 hG696 F695 p_697 p_698 p_699 p_700 => ?_)
                            have F702 := FR.c F680 F695 tg_50
                            rcases (show r694.toInt = 0 ∨ r694.toInt = 1 by omega) with h703 | h703
                            · skip
                              have p_704 := p_700 (by omega)
                              clear p_699 p_700
                              have z_705 := x_val_b (t := t) (nn := nn) (a := (x_ns t nn (x_ns t nn (x_ns t nn (x_ns t nn (x_ns t nn a))))))
                              refine b_ine_f (pc := 303) rw_170_303 (A := r694.toInt) rfl (by omega) (to_c (pc := 306) rw_170_306 (x := (0 : Int32)) rfl rfl (s_r1 (pc := 307) rw_170_307 (A := 0) rfl (by decide) ?_))
                              have j_706 := (RS_f (tg_40 F695) p_678.1)
                              exact h (0 : Int32) M701 hG696 F702 (by decide) (by decide) j_706 (fun _ => x_field_n (fun h9 => by unfold x_fC at h9; omega)) (fun z => absurd z (by decide))
                            · skip
                              have p_707 := p_699 (by omega)
                              clear p_699 p_700
                              have c_708 : M701.2.1 77 9 = (M679.2.1 77 9) := (F_n F695 (show ¬ (77 = 77 ∧ (9 = 4 ∨ 9 = 5)) by decide) rfl)
                              have z_709 := x_val_b (t := t) (nn := nn) (a := (x_ns t nn (x_ns t nn (x_ns t nn (x_ns t nn (x_ns t nn a)))))) (by omega)
                              refine b_ine_t (pc := 303) rw_170_303 (A := r694.toInt) rfl (by omega) (to_an (pc := 308) rw_170_308 rfl (tt_gI (pc := 309) rw_170_309 (g_o hG696 rfl) (v := (M679.2.1 77 9)) c_708 (to_is (pc := 312) rw_170_312 (ls2 := [.ref 77, .int v51, .int (M25.2.1 77 9), .int v105, .int (1 : Int32), .int (0 : Int32), .int (M116.2.1 77 9), .int (M619.2.1 77 9), .int (M679.2.1 77 9)]) rfl rfl (to_an (pc := 314) rw_170_314 rfl (s_v (pc := 315) rw_170_315 (dp0 hd (by decide)) (ls0 := [.ref 77]) rfl (Nat.le_of_ble_eq_true rfl) (Nat.le_of_ble_eq_true rfl) rfl (to_rc rfl rfl rfl (g_o hG696 rfl)) rfl ?_)))))
                              have c_710 : M701.2.1 77 7 = (M679.2.1 77 7) := (F_n F695 (show ¬ (77 = 77 ∧ (7 = 4 ∨ 7 = 5)) by decide) rfl)
                              have t_711 : (M701.2.1 77 7).toInt = (M679.2.1 77 7).toInt := congrArg Int32.toInt c_710
                              have c_712 : M701.2.1 77 6 = (M.2.1 77 6) := (F_n F695 (show ¬ (77 = 77 ∧ (6 = 4 ∨ 6 = 5)) by decide) c_682)
                              have t_713 : (M701.2.1 77 6).toInt = (M.2.1 77 6).toInt := congrArg Int32.toInt c_712
                              have c_714 : M701.2.1 77 10 = (M679.2.1 77 10) := (F_n F695 (show ¬ (77 = 77 ∧ (10 = 4 ∨ 10 = 5)) by decide) rfl)
                              have t_715 : (M701.2.1 77 10).toInt = (M679.2.1 77 10).toInt := congrArg Int32.toInt c_714
                              have j_716 := (RS_f (tg_40 F695) p_678.1)
                              have z_717 := RS_b j_716 (a := (x_ns t nn (x_ns t nn (x_ns t nn (x_ns t nn (x_ns t nn a)))))) (by omega)
                              have j_718 := (TR_f (tg_41 F695) (TR_f (tg_42 F673) j_671))
                              have j_719 := (W9_f (tg_43 F695) (W9_f (tg_44 F673) j_672))
                              refine E_156 hX (dp1 hd (by decide)) hG696 (by omega) (by omega) (by omega) (by omega) j_718 j_719  (fun M726 hG721 F720 p_722 p_723 p_724 p_725 => ?_)
                              have F727 := FR.c F702 F720 tg_49
                              have b_728 := g_b hG721 (a := 77) (i := 7) (lo := 0) (hi := 500) rfl rfl
                              have c_729 : M726.2.1 77 6 = (M.2.1 77 6) := (F_n F720 (show ¬ (77 = 77 ∧ 7 ≤ 6 ∧ 6 ≤ 10) by decide) c_712)
                              have t_730 : (M726.2.1 77 6).toInt = (M.2.1 77 6).toInt := congrArg Int32.toInt c_729
                              have b_731 := g_b hG721 (a := 77) (i := 8) (lo := 0) (hi := 5) rfl rfl
                              have b_732 := g_b hG721 (a := 77) (i := 10) (lo := 0) (hi := 500) rfl rfl
                              have z_733 := RS_s p_725.2 (a := (x_ns t nn (x_ns t nn (x_ns t nn (x_ns t nn (x_ns t nn a)))))) (by omega)
                              refine to_an (pc := 318) rw_170_318 rfl (to_dupr (pc := 319) rw_170_319 (tt_gJ (pc := 320) rw_170_320 (g_o hG721 rfl) (v := (M.2.2.1 77 25)) (F_nl F720 (show ¬ (77 = 77 ∧ 7 ≤ 25 ∧ 25 ≤ 10) by decide) (F_nl F695 (show ¬ (77 = 77 ∧ (25 = 4 ∨ 25 = 5)) by decide) (F_nl F673 (show ¬ (77 = 77 ∧ 7 ≤ 25 ∧ 25 ≤ 10) by decide) (F_nl F652 (show ¬ (77 < 0) by decide) (F_nl F633 (show ¬ (77 = 77 ∧ (25 = 4 ∨ 25 = 5)) by decide) (F_nl F613 (show ¬ (77 = 77 ∧ 7 ≤ 25 ∧ 25 ≤ 10) by decide) (F_nl F592 (show ¬ (77 < 0) by decide) (F_nl F574 (show ¬ (77 = 77 ∧ (25 = 4 ∨ 25 = 5)) by decide) (F_nl F110 (show ¬ (77 = 77 ∧ 7 ≤ 25 ∧ 25 ≤ 10) by decide) (F_nl F64 (show ¬ (77 = 77 ∧ 7 ≤ 25 ∧ 25 ≤ 10) by decide) (F_nl F35 (show ¬ (77 = 77 ∧ (25 = 4 ∨ 25 = 5)) by decide) (F_nl F19 (show ¬ (77 = 77 ∧ 7 ≤ 25 ∧ 25 ≤ 10) by decide) rfl)))))))))))) (to_i (pc := 323) rw_170_323 rfl (to_i (pc := 325) rw_170_325 rfl (s_s (pc := 327) rw_170_327 (dp0 hd (by decide)) (ls0 := [.int (M116.2.1 77 9), .int (M619.2.1 77 9), .null, .null, .null]) rfl (Nat.le_of_ble_eq_true rfl) (Nat.le_of_ble_eq_true rfl) rfl (to_rcs rfl rfl) rfl (E_168 hX (dp1 hd (by decide)) hG721 (by omega) (by omega) (by omega) (by omega) (by omega) (a := (M116.2.1 77 9)) (b := (M619.2.1 77 9)) (fun r734 M738 hG736 F735 p_737 => ?_)))))))
                              have F739 := FR.c F727 F735 tg_51
                              refine to_2l (pc := 330) rw_170_330 (v := ((M.2.2.1 77 25) ||| r734)) rfl ?_
                              have j_740 := (PLr_f (tg_47 F735) (F_nl F735 (show ¬ (77 < 0) by decide) rfl) (PLr_f (tg_39 F720) (F_nl F720 (show ¬ (77 = 77 ∧ 7 ≤ 25 ∧ 25 ≤ 10) by decide) rfl) (PLr_f (tg_48 F695) (F_nl F695 (show ¬ (77 = 77 ∧ (25 = 4 ∨ 25 = 5)) by decide) rfl) (PLr_f (tg_39 F673) (F_nl F673 (show ¬ (77 = 77 ∧ 7 ≤ 25 ∧ 25 ≤ 10) by decide) rfl) (PLr_f (tg_47 F652) (F_nl F652 (show ¬ (77 < 0) by decide) rfl) (PLr_f (tg_48 F633) (F_nl F633 (show ¬ (77 = 77 ∧ (25 = 4 ∨ 25 = 5)) by decide) rfl) (PLr_f (tg_39 F613) (F_nl F613 (show ¬ (77 = 77 ∧ 7 ≤ 25 ∧ 25 ≤ 10) by decide) rfl) (PLr_f (tg_47 F592) (F_nl F592 (show ¬ (77 < 0) by decide) rfl) (PLr_f (tg_48 F574) (F_nl F574 (show ¬ (77 = 77 ∧ (25 = 4 ∨ 25 = 5)) by decide) rfl) (PLr_f (tg_39 F110) (F_nl F110 (show ¬ (77 = 77 ∧ 7 ≤ 25 ∧ 25 ≤ 10) by decide) rfl) (PLr_f (tg_39 F64) (F_nl F64 (show ¬ (77 = 77 ∧ 7 ≤ 25 ∧ 25 ≤ 10) by decide) rfl) (PLr_f (tg_48 F35) (F_nl F35 (show ¬ (77 = 77 ∧ (25 = 4 ∨ 25 = 5)) by decide) rfl) j_33))))))))))))
                              refine s_pJ (pc := 331) rw_170_331 hG736 rfl (fun M742 W741 => ?_)
                              have hG743 := g_wl hG736 W741
                              have F744 := FR.wl F739 W741 (show 77 = 77 ∧ (25 = 4 ∨ 25 = 5 ∨ 7 ≤ 25 ∧ 25 ≤ 10 ∨ 25 = 15 ∨ 25 = 25) ∨ 80 ≤ 77 ∧ 77 ≤ 84 ∧ 8 ≤ 25 by decide)
                              refine to_an (pc := 334) rw_170_334 rfl (s_gR (pc := 335) rw_170_335 hG743 rfl (v := 80) rfl (to_in (pc := 338) rw_170_338 rfl (to_in (pc := 339) rw_170_339 rfl (s_ias (pc := 340) rw_170_340 hG743 rfl (n := 16) rfl (A := v51.toInt) rfl (by omega) (by omega) (fun M746 W745 => ?_)))))
                              have hG747 := g_wf hG743 W745 rfl rfl (by decide)
                              have F748 := FR.w F744 W745 (show 80 = 77 ∧ ((v51.toInt).toNat = 4 ∨ (v51.toInt).toNat = 5 ∨ 7 ≤ (v51.toInt).toNat ∧ (v51.toInt).toNat ≤ 10 ∨ (v51.toInt).toNat = 15 ∨ (v51.toInt).toNat = 25) ∨ 80 ≤ 80 ∧ 80 ≤ 84 ∧ 8 ≤ (v51.toInt).toNat by omega)
                              refine to_an (pc := 341) rw_170_341 rfl (s_gR (pc := 342) rw_170_342 hG747 rfl (v := 81) rfl (to_in (pc := 345) rw_170_345 rfl (to_in (pc := 346) rw_170_346 rfl (s_ias (pc := 347) rw_170_347 hG747 rfl (n := 16) rfl (A := v51.toInt) rfl (by omega) (by omega) (fun M750 W749 => ?_)))))
                              have hG751 := g_w hG747 W749 (A := v105.toInt) rfl (lo := 0) (hi := 3) rfl rfl (by omega) (by decide)
                              have F752 := FR.w F748 W749 (show 81 = 77 ∧ ((v51.toInt).toNat = 4 ∨ (v51.toInt).toNat = 5 ∨ 7 ≤ (v51.toInt).toNat ∧ (v51.toInt).toNat ≤ 10 ∨ (v51.toInt).toNat = 15 ∨ (v51.toInt).toNat = 25) ∨ 80 ≤ 81 ∧ 81 ≤ 84 ∧ 8 ≤ (v51.toInt).toNat by omega)
                              refine to_an (pc := 348) rw_170_348 rfl (s_gR (pc := 349) rw_170_349 hG751 rfl (v := 82) rfl (to_in (pc := 352) rw_170_352 rfl (to_i (pc := 353) rw_170_353 rfl (s_ias (pc := 355) rw_170_355 hG751 rfl (n := 16) rfl (A := v51.toInt) rfl (by omega) (by omega) (fun M754 W753 => ?_)))))
                              have hG755 := g_w hG751 W753 (A := (M116.2.1 77 9).toInt) rfl (lo := 0) (hi := 59) rfl rfl (by omega) (by decide)
                              have F756 := FR.w F752 W753 (show 82 = 77 ∧ ((v51.toInt).toNat = 4 ∨ (v51.toInt).toNat = 5 ∨ 7 ≤ (v51.toInt).toNat ∧ (v51.toInt).toNat ≤ 10 ∨ (v51.toInt).toNat = 15 ∨ (v51.toInt).toNat = 25) ∨ 80 ≤ 82 ∧ 82 ≤ 84 ∧ 8 ≤ (v51.toInt).toNat by omega)
                              refine to_an (pc := 356) rw_170_356 rfl (s_gR (pc := 357) rw_170_357 hG755 rfl (v := 83) rfl (to_in (pc := 360) rw_170_360 rfl (to_i (pc := 361) rw_170_361 rfl (s_ias (pc := 363) rw_170_363 hG755 rfl (n := 16) rfl (A := v51.toInt) rfl (by omega) (by omega) (fun M758 W757 => ?_)))))
                              have hG759 := g_w hG755 W757 (A := (M619.2.1 77 9).toInt) rfl (lo := 0) (hi := 63) rfl rfl (by omega) (by decide)
                              have F760 := FR.w F756 W757 (show 83 = 77 ∧ ((v51.toInt).toNat = 4 ∨ (v51.toInt).toNat = 5 ∨ 7 ≤ (v51.toInt).toNat ∧ (v51.toInt).toNat ≤ 10 ∨ (v51.toInt).toNat = 15 ∨ (v51.toInt).toNat = 25) ∨ 80 ≤ 83 ∧ 83 ≤ 84 ∧ 8 ≤ (v51.toInt).toNat by omega)
                              refine to_an (pc := 364) rw_170_364 rfl (s_gR (pc := 365) rw_170_365 hG759 rfl (v := 84) rfl (to_in (pc := 368) rw_170_368 rfl (to_i (pc := 369) rw_170_369 rfl (s_ias (pc := 371) rw_170_371 hG759 rfl (n := 16) rfl (A := v51.toInt) rfl (by omega) (by omega) (fun M762 W761 => ?_)))))
                              have hG763 := g_w hG759 W761 (A := (M679.2.1 77 9).toInt) rfl (lo := 0) (hi := 24) rfl rfl (by omega) (by decide)
                              have F764 := FR.w F760 W761 (show 84 = 77 ∧ ((v51.toInt).toNat = 4 ∨ (v51.toInt).toNat = 5 ∨ 7 ≤ (v51.toInt).toNat ∧ (v51.toInt).toNat ≤ 10 ∨ (v51.toInt).toNat = 15 ∨ (v51.toInt).toNat = 25) ∨ 80 ≤ 84 ∧ 84 ≤ 84 ∧ 8 ≤ (v51.toInt).toNat by omega)
                              refine to_an (pc := 372) rw_170_372 rfl (to_dupr (pc := 373) rw_170_373 ?_)
                              have c_765 : M762.2.1 77 15 = (M.2.1 77 15) := (W_n W761 (fun z => absurd z.1 (by decide)) (W_n W757 (fun z => absurd z.1 (by decide)) (W_n W753 (fun z => absurd z.1 (by decide)) (W_n W749 (fun z => absurd z.1 (by decide)) (W_n W745 (fun z => absurd z.1 (by decide)) (W_l W741 (F_n F735 (show ¬ (77 < 0) by decide) (F_n F720 (show ¬ (77 = 77 ∧ 7 ≤ 15 ∧ 15 ≤ 10) by decide) (F_n F695 (show ¬ (77 = 77 ∧ (15 = 4 ∨ 15 = 5)) by decide) (F_n F673 (show ¬ (77 = 77 ∧ 7 ≤ 15 ∧ 15 ≤ 10) by decide) (F_n F652 (show ¬ (77 < 0) by decide) (F_n F633 (show ¬ (77 = 77 ∧ (15 = 4 ∨ 15 = 5)) by decide) (F_n F613 (show ¬ (77 = 77 ∧ 7 ≤ 15 ∧ 15 ≤ 10) by decide) (F_n F592 (show ¬ (77 < 0) by decide) (F_n F574 (show ¬ (77 = 77 ∧ (15 = 4 ∨ 15 = 5)) by decide) (F_n F110 (show ¬ (77 = 77 ∧ 7 ≤ 15 ∧ 15 ≤ 10) by decide) (F_n F64 (show ¬ (77 = 77 ∧ 7 ≤ 15 ∧ 15 ≤ 10) by decide) c_50)))))))))))))))))
                              refine tt_gI (pc := 374) rw_170_374 (g_o hG763 rfl) (v := (M.2.1 77 15)) c_765 (to_c (pc := 377) rw_170_377 (x := (1 : Int32)) rfl rfl (s_add (pc := 378) rw_170_378 (A := (M.2.1 77 15).toInt) (B := 1) rfl rfl (by omega) (fun v766 e767 => s_pI (pc := 379) rw_170_379 hG763 rfl (fun M769 W768 => ?_))))
                              have hG770 := g_w hG763 W768 (A := v766.toInt) rfl (lo := 0) (hi := 8) rfl rfl (by omega) (by decide)
                              have F771 := FR.w F764 W768 (show 77 = 77 ∧ (15 = 4 ∨ 15 = 5 ∨ 7 ≤ 15 ∧ 15 ≤ 10 ∨ 15 = 15 ∨ 15 = 25) ∨ 80 ≤ 77 ∧ 77 ≤ 84 ∧ 8 ≤ 15 by decide)
                              refine to_c (pc := 382) rw_170_382 (x := (1 : Int32)) rfl rfl (s_r1 (pc := 383) rw_170_383 (A := 1) rfl (by decide) ?_)
                              have j_772 := (RS_f (fun a i z => W_n W768 (tg_52 a i z) rfl) (RS_f (fun a i z => W_n W761 (tg_53 a i _ z) rfl) (RS_f (fun a i z => W_n W757 (tg_54 a i _ z) rfl) (RS_f (fun a i z => W_n W753 (tg_55 a i _ z) rfl) (RS_f (fun a i z => W_n W749 (tg_56 a i _ z) rfl) (RS_f (fun a i z => W_n W745 (tg_57 a i _ z) rfl) (RS_f (fun a i z => W_l W741 rfl) (RS_f (tg_45 F735) p_725.1))))))))
                              have c_773 : M769.2.1 77 10 = (M726.2.1 77 10) := (W_n W768 (by decide) (W_n W761 (fun z => absurd z.1 (by decide)) (W_n W757 (fun z => absurd z.1 (by decide)) (W_n W753 (fun z => absurd z.1 (by decide)) (W_n W749 (fun z => absurd z.1 (by decide)) (W_n W745 (fun z => absurd z.1 (by decide)) (W_l W741 (F_n F735 (show ¬ (77 < 0) by decide) rfl))))))))
                              have t_774 : (M769.2.1 77 10).toInt = (M726.2.1 77 10).toInt := congrArg Int32.toInt c_773
                              have z_775 : x_fC t nn sg (x_ns t nn a) := by unfold x_fC; omega
                              have z_776 := (x_or_r q7 (p_737.trans (x_bw_v (by omega) (by omega))) : _ = _ ||| x_bw (x_val t nn (x_ns t nn (x_ns t nn (x_ns t nn a)))) (x_val t nn (x_ns t nn (x_ns t nn (x_ns t nn (x_ns t nn a))))))
                              have z_777 := PLr_p (nm := (x_val t nn (x_ns t nn a))) (kd := 3) (f := (x_val t nn (x_ns t nn (x_ns t nn (x_ns t nn a))))) (l := (x_val t nn (x_ns t nn (x_ns t nn (x_ns t nn (x_ns t nn a)))))) (c := (x_val t nn (x_ns t nn (x_ns t nn (x_ns t nn (x_ns t nn (x_ns t nn a))))))) j_740 W741 W745 W749 W753 W757 W761 W768 (by omega) z_776 (by omega) (by omega) (by omega) (by omega) (by omega) (by omega) (by omega) (by omega) (by omega) (by omega) (by omega)
                              have j_778 := (CWr_f (fun k hk9 => W_j W768 rfl) (CWr_f (fun k hk9 => W_j W761 rfl) (CWr_f (fun k hk9 => W_j W757 rfl) (CWr_f (fun k hk9 => W_j W753 rfl) (CWr_f (fun k hk9 => W_j W749 rfl) (CWr_f (fun k hk9 => W_j W745 rfl) (CWr_f (fun k hk9 => L_n W741 (by omega) rfl) (CWr_f (fun k hk9 => F_nl F735 (show ¬ (87 < 0) by decide) rfl) (CWr_f (fun k hk9 => F_nl F720 (show ¬ (87 = 77 ∧ 7 ≤ (12 + k) ∧ (12 + k) ≤ 10) by omega) rfl) (CWr_f (fun k hk9 => F_nl F695 (show ¬ (87 = 77 ∧ ((12 + k) = 4 ∨ (12 + k) = 5)) by omega) rfl) (CWr_f (fun k hk9 => F_nl F673 (show ¬ (87 = 77 ∧ 7 ≤ (12 + k) ∧ (12 + k) ≤ 10) by omega) rfl) (CWr_f (fun k hk9 => F_nl F652 (show ¬ (87 < 0) by decide) rfl) (CWr_f (fun k hk9 => F_nl F633 (show ¬ (87 = 77 ∧ ((12 + k) = 4 ∨ (12 + k) = 5)) by omega) rfl) (CWr_f (fun k hk9 => F_nl F613 (show ¬ (87 = 77 ∧ 7 ≤ (12 + k) ∧ (12 + k) ≤ 10) by omega) rfl) (CWr_f (fun k hk9 => F_nl F592 (show ¬ (87 < 0) by decide) rfl) (CWr_f (fun k hk9 => F_nl F574 (show ¬ (87 = 77 ∧ ((12 + k) = 4 ∨ (12 + k) = 5)) by omega) rfl) (CWr_f (fun k hk9 => F_nl F110 (show ¬ (87 = 77 ∧ 7 ≤ (12 + k) ∧ (12 + k) ≤ 10) by omega) rfl) (CWr_f (fun k hk9 => F_nl F64 (show ¬ (87 = 77 ∧ 7 ≤ (12 + k) ∧ (12 + k) ≤ 10) by omega) rfl) (CWr_f (fun k hk9 => F_nl F35 (show ¬ (87 = 77 ∧ ((12 + k) = 4 ∨ (12 + k) = 5)) by omega) rfl) (CWr_f (fun k hk9 => F_nl F19 (show ¬ (87 = 77 ∧ 7 ≤ (12 + k) ∧ (12 + k) ≤ 10) by omega) rfl) q8))))))))))))))))))))
                              exact h (1 : Int32) M769 hG770 F771 (by decide) (by decide) j_772 (fun z => absurd z (by decide)) (fun _ => ⟨_, (by rw [show (M769.2.1 77 10).toInt = (x_ns t nn (x_ns t nn (x_ns t nn (x_ns t nn (x_ns t nn (x_ns t nn a)))))) by omega]; exact x_field_3 z_775 (by omega)), ⟨z_777, CWr_p j_778⟩, (by show sg.2.1 + 1 + sg.2.2.1 = _; omega)⟩)
                          · refine to_i (pc := 294) rw_170_294 rfl (to_go (pc := 296) rw_170_296 (s_v (pc := 300) rw_170_300 (dp0 hd (by decide)) (ls0 := [.ref 77, .int (1 : Int32), .int v689]) rfl (Nat.le_of_ble_eq_true rfl) (Nat.le_of_ble_eq_true rfl) rfl (to_rc rfl rfl rfl (g_o hG674 rfl)) rfl ?_))
                            have k_779 : (1 : Int32).toInt = 1 := rfl
                            refine E_162 hX (dp1 hd (by decide)) hG674 p_678.1 (by omega) (by omega) (l := (1 : Int32)) (m := v689) (t := t) (nn := nn) (a := (x_ns t nn (x_ns t nn (x_ns t nn (x_ns t nn (x_ns t nn a)))))) (fun r780 M787 hG782 F781 p_783 p_784 p_785 p_786 => ?_)
                            have F788 := FR.c F680 F781 tg_50
                            rcases (show r780.toInt = 0 ∨ r780.toInt = 1 by omega) with h789 | h789
                            · skip
                              have p_790 := p_786 (by omega)
                              clear p_785 p_786
                              have z_791 := x_val_b (t := t) (nn := nn) (a := (x_ns t nn (x_ns t nn (x_ns t nn (x_ns t nn (x_ns t nn a))))))
                              refine b_ine_f (pc := 303) rw_170_303 (A := r780.toInt) rfl (by omega) (to_c (pc := 306) rw_170_306 (x := (0 : Int32)) rfl rfl (s_r1 (pc := 307) rw_170_307 (A := 0) rfl (by decide) ?_))
                              have j_792 := (RS_f (tg_40 F781) p_678.1)
                              exact h (0 : Int32) M787 hG782 F788 (by decide) (by decide) j_792 (fun _ => x_field_n (fun h9 => by unfold x_fC at h9; omega)) (fun z => absurd z (by decide))
                            · skip
                              have p_793 := p_785 (by omega)
                              clear p_785 p_786
                              have c_794 : M787.2.1 77 9 = (M679.2.1 77 9) := (F_n F781 (show ¬ (77 = 77 ∧ (9 = 4 ∨ 9 = 5)) by decide) rfl)
                              have z_795 := x_val_b (t := t) (nn := nn) (a := (x_ns t nn (x_ns t nn (x_ns t nn (x_ns t nn (x_ns t nn a)))))) (by omega)
                              refine b_ine_t (pc := 303) rw_170_303 (A := r780.toInt) rfl (by omega) (to_an (pc := 308) rw_170_308 rfl (tt_gI (pc := 309) rw_170_309 (g_o hG782 rfl) (v := (M679.2.1 77 9)) c_794 (to_is (pc := 312) rw_170_312 (ls2 := [.ref 77, .int v51, .int (M25.2.1 77 9), .int v105, .int (1 : Int32), .int (0 : Int32), .int (M116.2.1 77 9), .int (M619.2.1 77 9), .int (M679.2.1 77 9)]) rfl rfl (to_an (pc := 314) rw_170_314 rfl (s_v (pc := 315) rw_170_315 (dp0 hd (by decide)) (ls0 := [.ref 77]) rfl (Nat.le_of_ble_eq_true rfl) (Nat.le_of_ble_eq_true rfl) rfl (to_rc rfl rfl rfl (g_o hG782 rfl)) rfl ?_)))))
                              have c_796 : M787.2.1 77 7 = (M679.2.1 77 7) := (F_n F781 (show ¬ (77 = 77 ∧ (7 = 4 ∨ 7 = 5)) by decide) rfl)
                              have t_797 : (M787.2.1 77 7).toInt = (M679.2.1 77 7).toInt := congrArg Int32.toInt c_796
                              have c_798 : M787.2.1 77 6 = (M.2.1 77 6) := (F_n F781 (show ¬ (77 = 77 ∧ (6 = 4 ∨ 6 = 5)) by decide) c_682)
                              have t_799 : (M787.2.1 77 6).toInt = (M.2.1 77 6).toInt := congrArg Int32.toInt c_798
                              have c_800 : M787.2.1 77 10 = (M679.2.1 77 10) := (F_n F781 (show ¬ (77 = 77 ∧ (10 = 4 ∨ 10 = 5)) by decide) rfl)
                              have t_801 : (M787.2.1 77 10).toInt = (M679.2.1 77 10).toInt := congrArg Int32.toInt c_800
                              have j_802 := (RS_f (tg_40 F781) p_678.1)
                              have z_803 := RS_b j_802 (a := (x_ns t nn (x_ns t nn (x_ns t nn (x_ns t nn (x_ns t nn a)))))) (by omega)
                              have j_804 := (TR_f (tg_41 F781) (TR_f (tg_42 F673) j_671))
                              have j_805 := (W9_f (tg_43 F781) (W9_f (tg_44 F673) j_672))
                              refine E_156 hX (dp1 hd (by decide)) hG782 (by omega) (by omega) (by omega) (by omega) j_804 j_805  (fun M812 hG807 F806 p_808 p_809 p_810 p_811 => ?_)
                              have F813 := FR.c F788 F806 tg_49
                              have b_814 := g_b hG807 (a := 77) (i := 7) (lo := 0) (hi := 500) rfl rfl
                              have c_815 : M812.2.1 77 6 = (M.2.1 77 6) := (F_n F806 (show ¬ (77 = 77 ∧ 7 ≤ 6 ∧ 6 ≤ 10) by decide) c_798)
                              have t_816 : (M812.2.1 77 6).toInt = (M.2.1 77 6).toInt := congrArg Int32.toInt c_815
                              have b_817 := g_b hG807 (a := 77) (i := 8) (lo := 0) (hi := 5) rfl rfl
                              have b_818 := g_b hG807 (a := 77) (i := 10) (lo := 0) (hi := 500) rfl rfl
                              have z_819 := RS_s p_811.2 (a := (x_ns t nn (x_ns t nn (x_ns t nn (x_ns t nn (x_ns t nn a)))))) (by omega)
                              refine to_an (pc := 318) rw_170_318 rfl (to_dupr (pc := 319) rw_170_319 (tt_gJ (pc := 320) rw_170_320 (g_o hG807 rfl) (v := (M.2.2.1 77 25)) (F_nl F806 (show ¬ (77 = 77 ∧ 7 ≤ 25 ∧ 25 ≤ 10) by decide) (F_nl F781 (show ¬ (77 = 77 ∧ (25 = 4 ∨ 25 = 5)) by decide) (F_nl F673 (show ¬ (77 = 77 ∧ 7 ≤ 25 ∧ 25 ≤ 10) by decide) (F_nl F652 (show ¬ (77 < 0) by decide) (F_nl F633 (show ¬ (77 = 77 ∧ (25 = 4 ∨ 25 = 5)) by decide) (F_nl F613 (show ¬ (77 = 77 ∧ 7 ≤ 25 ∧ 25 ≤ 10) by decide) (F_nl F592 (show ¬ (77 < 0) by decide) (F_nl F574 (show ¬ (77 = 77 ∧ (25 = 4 ∨ 25 = 5)) by decide) (F_nl F110 (show ¬ (77 = 77 ∧ 7 ≤ 25 ∧ 25 ≤ 10) by decide) (F_nl F64 (show ¬ (77 = 77 ∧ 7 ≤ 25 ∧ 25 ≤ 10) by decide) (F_nl F35 (show ¬ (77 = 77 ∧ (25 = 4 ∨ 25 = 5)) by decide) (F_nl F19 (show ¬ (77 = 77 ∧ 7 ≤ 25 ∧ 25 ≤ 10) by decide) rfl)))))))))))) (to_i (pc := 323) rw_170_323 rfl (to_i (pc := 325) rw_170_325 rfl (s_s (pc := 327) rw_170_327 (dp0 hd (by decide)) (ls0 := [.int (M116.2.1 77 9), .int (M619.2.1 77 9), .null, .null, .null]) rfl (Nat.le_of_ble_eq_true rfl) (Nat.le_of_ble_eq_true rfl) rfl (to_rcs rfl rfl) rfl (E_168 hX (dp1 hd (by decide)) hG807 (by omega) (by omega) (by omega) (by omega) (by omega) (a := (M116.2.1 77 9)) (b := (M619.2.1 77 9)) (fun r820 M824 hG822 F821 p_823 => ?_)))))))
                              have F825 := FR.c F813 F821 tg_51
                              refine to_2l (pc := 330) rw_170_330 (v := ((M.2.2.1 77 25) ||| r820)) rfl ?_
                              have j_826 := (PLr_f (tg_47 F821) (F_nl F821 (show ¬ (77 < 0) by decide) rfl) (PLr_f (tg_39 F806) (F_nl F806 (show ¬ (77 = 77 ∧ 7 ≤ 25 ∧ 25 ≤ 10) by decide) rfl) (PLr_f (tg_48 F781) (F_nl F781 (show ¬ (77 = 77 ∧ (25 = 4 ∨ 25 = 5)) by decide) rfl) (PLr_f (tg_39 F673) (F_nl F673 (show ¬ (77 = 77 ∧ 7 ≤ 25 ∧ 25 ≤ 10) by decide) rfl) (PLr_f (tg_47 F652) (F_nl F652 (show ¬ (77 < 0) by decide) rfl) (PLr_f (tg_48 F633) (F_nl F633 (show ¬ (77 = 77 ∧ (25 = 4 ∨ 25 = 5)) by decide) rfl) (PLr_f (tg_39 F613) (F_nl F613 (show ¬ (77 = 77 ∧ 7 ≤ 25 ∧ 25 ≤ 10) by decide) rfl) (PLr_f (tg_47 F592) (F_nl F592 (show ¬ (77 < 0) by decide) rfl) (PLr_f (tg_48 F574) (F_nl F574 (show ¬ (77 = 77 ∧ (25 = 4 ∨ 25 = 5)) by decide) rfl) (PLr_f (tg_39 F110) (F_nl F110 (show ¬ (77 = 77 ∧ 7 ≤ 25 ∧ 25 ≤ 10) by decide) rfl) (PLr_f (tg_39 F64) (F_nl F64 (show ¬ (77 = 77 ∧ 7 ≤ 25 ∧ 25 ≤ 10) by decide) rfl) (PLr_f (tg_48 F35) (F_nl F35 (show ¬ (77 = 77 ∧ (25 = 4 ∨ 25 = 5)) by decide) rfl) j_33))))))))))))
                              refine s_pJ (pc := 331) rw_170_331 hG822 rfl (fun M828 W827 => ?_)
                              have hG829 := g_wl hG822 W827
                              have F830 := FR.wl F825 W827 (show 77 = 77 ∧ (25 = 4 ∨ 25 = 5 ∨ 7 ≤ 25 ∧ 25 ≤ 10 ∨ 25 = 15 ∨ 25 = 25) ∨ 80 ≤ 77 ∧ 77 ≤ 84 ∧ 8 ≤ 25 by decide)
                              refine to_an (pc := 334) rw_170_334 rfl (s_gR (pc := 335) rw_170_335 hG829 rfl (v := 80) rfl (to_in (pc := 338) rw_170_338 rfl (to_in (pc := 339) rw_170_339 rfl (s_ias (pc := 340) rw_170_340 hG829 rfl (n := 16) rfl (A := v51.toInt) rfl (by omega) (by omega) (fun M832 W831 => ?_)))))
                              have hG833 := g_wf hG829 W831 rfl rfl (by decide)
                              have F834 := FR.w F830 W831 (show 80 = 77 ∧ ((v51.toInt).toNat = 4 ∨ (v51.toInt).toNat = 5 ∨ 7 ≤ (v51.toInt).toNat ∧ (v51.toInt).toNat ≤ 10 ∨ (v51.toInt).toNat = 15 ∨ (v51.toInt).toNat = 25) ∨ 80 ≤ 80 ∧ 80 ≤ 84 ∧ 8 ≤ (v51.toInt).toNat by omega)
                              refine to_an (pc := 341) rw_170_341 rfl (s_gR (pc := 342) rw_170_342 hG833 rfl (v := 81) rfl (to_in (pc := 345) rw_170_345 rfl (to_in (pc := 346) rw_170_346 rfl (s_ias (pc := 347) rw_170_347 hG833 rfl (n := 16) rfl (A := v51.toInt) rfl (by omega) (by omega) (fun M836 W835 => ?_)))))
                              have hG837 := g_w hG833 W835 (A := v105.toInt) rfl (lo := 0) (hi := 3) rfl rfl (by omega) (by decide)
                              have F838 := FR.w F834 W835 (show 81 = 77 ∧ ((v51.toInt).toNat = 4 ∨ (v51.toInt).toNat = 5 ∨ 7 ≤ (v51.toInt).toNat ∧ (v51.toInt).toNat ≤ 10 ∨ (v51.toInt).toNat = 15 ∨ (v51.toInt).toNat = 25) ∨ 80 ≤ 81 ∧ 81 ≤ 84 ∧ 8 ≤ (v51.toInt).toNat by omega)
                              refine to_an (pc := 348) rw_170_348 rfl (s_gR (pc := 349) rw_170_349 hG837 rfl (v := 82) rfl (to_in (pc := 352) rw_170_352 rfl (to_i (pc := 353) rw_170_353 rfl (s_ias (pc := 355) rw_170_355 hG837 rfl (n := 16) rfl (A := v51.toInt) rfl (by omega) (by omega) (fun M840 W839 => ?_)))))
                              have hG841 := g_w hG837 W839 (A := (M116.2.1 77 9).toInt) rfl (lo := 0) (hi := 59) rfl rfl (by omega) (by decide)
                              have F842 := FR.w F838 W839 (show 82 = 77 ∧ ((v51.toInt).toNat = 4 ∨ (v51.toInt).toNat = 5 ∨ 7 ≤ (v51.toInt).toNat ∧ (v51.toInt).toNat ≤ 10 ∨ (v51.toInt).toNat = 15 ∨ (v51.toInt).toNat = 25) ∨ 80 ≤ 82 ∧ 82 ≤ 84 ∧ 8 ≤ (v51.toInt).toNat by omega)
                              refine to_an (pc := 356) rw_170_356 rfl (s_gR (pc := 357) rw_170_357 hG841 rfl (v := 83) rfl (to_in (pc := 360) rw_170_360 rfl (to_i (pc := 361) rw_170_361 rfl (s_ias (pc := 363) rw_170_363 hG841 rfl (n := 16) rfl (A := v51.toInt) rfl (by omega) (by omega) (fun M844 W843 => ?_)))))
                              have hG845 := g_w hG841 W843 (A := (M619.2.1 77 9).toInt) rfl (lo := 0) (hi := 63) rfl rfl (by omega) (by decide)
                              have F846 := FR.w F842 W843 (show 83 = 77 ∧ ((v51.toInt).toNat = 4 ∨ (v51.toInt).toNat = 5 ∨ 7 ≤ (v51.toInt).toNat ∧ (v51.toInt).toNat ≤ 10 ∨ (v51.toInt).toNat = 15 ∨ (v51.toInt).toNat = 25) ∨ 80 ≤ 83 ∧ 83 ≤ 84 ∧ 8 ≤ (v51.toInt).toNat by omega)
                              refine to_an (pc := 364) rw_170_364 rfl (s_gR (pc := 365) rw_170_365 hG845 rfl (v := 84) rfl (to_in (pc := 368) rw_170_368 rfl (to_i (pc := 369) rw_170_369 rfl (s_ias (pc := 371) rw_170_371 hG845 rfl (n := 16) rfl (A := v51.toInt) rfl (by omega) (by omega) (fun M848 W847 => ?_)))))
                              have hG849 := g_w hG845 W847 (A := (M679.2.1 77 9).toInt) rfl (lo := 0) (hi := 24) rfl rfl (by omega) (by decide)
                              have F850 := FR.w F846 W847 (show 84 = 77 ∧ ((v51.toInt).toNat = 4 ∨ (v51.toInt).toNat = 5 ∨ 7 ≤ (v51.toInt).toNat ∧ (v51.toInt).toNat ≤ 10 ∨ (v51.toInt).toNat = 15 ∨ (v51.toInt).toNat = 25) ∨ 80 ≤ 84 ∧ 84 ≤ 84 ∧ 8 ≤ (v51.toInt).toNat by omega)
                              refine to_an (pc := 372) rw_170_372 rfl (to_dupr (pc := 373) rw_170_373 ?_)
                              have c_851 : M848.2.1 77 15 = (M.2.1 77 15) := (W_n W847 (fun z => absurd z.1 (by decide)) (W_n W843 (fun z => absurd z.1 (by decide)) (W_n W839 (fun z => absurd z.1 (by decide)) (W_n W835 (fun z => absurd z.1 (by decide)) (W_n W831 (fun z => absurd z.1 (by decide)) (W_l W827 (F_n F821 (show ¬ (77 < 0) by decide) (F_n F806 (show ¬ (77 = 77 ∧ 7 ≤ 15 ∧ 15 ≤ 10) by decide) (F_n F781 (show ¬ (77 = 77 ∧ (15 = 4 ∨ 15 = 5)) by decide) (F_n F673 (show ¬ (77 = 77 ∧ 7 ≤ 15 ∧ 15 ≤ 10) by decide) (F_n F652 (show ¬ (77 < 0) by decide) (F_n F633 (show ¬ (77 = 77 ∧ (15 = 4 ∨ 15 = 5)) by decide) (F_n F613 (show ¬ (77 = 77 ∧ 7 ≤ 15 ∧ 15 ≤ 10) by decide) (F_n F592 (show ¬ (77 < 0) by decide) (F_n F574 (show ¬ (77 = 77 ∧ (15 = 4 ∨ 15 = 5)) by decide) (F_n F110 (show ¬ (77 = 77 ∧ 7 ≤ 15 ∧ 15 ≤ 10) by decide) (F_n F64 (show ¬ (77 = 77 ∧ 7 ≤ 15 ∧ 15 ≤ 10) by decide) c_50)))))))))))))))))
                              refine tt_gI (pc := 374) rw_170_374 (g_o hG849 rfl) (v := (M.2.1 77 15)) c_851 (to_c (pc := 377) rw_170_377 (x := (1 : Int32)) rfl rfl (s_add (pc := 378) rw_170_378 (A := (M.2.1 77 15).toInt) (B := 1) rfl rfl (by omega) (fun v852 e853 => s_pI (pc := 379) rw_170_379 hG849 rfl (fun M855 W854 => ?_))))
                              have hG856 := g_w hG849 W854 (A := v852.toInt) rfl (lo := 0) (hi := 8) rfl rfl (by omega) (by decide)
                              have F857 := FR.w F850 W854 (show 77 = 77 ∧ (15 = 4 ∨ 15 = 5 ∨ 7 ≤ 15 ∧ 15 ≤ 10 ∨ 15 = 15 ∨ 15 = 25) ∨ 80 ≤ 77 ∧ 77 ≤ 84 ∧ 8 ≤ 15 by decide)
                              refine to_c (pc := 382) rw_170_382 (x := (1 : Int32)) rfl rfl (s_r1 (pc := 383) rw_170_383 (A := 1) rfl (by decide) ?_)
                              have j_858 := (RS_f (fun a i z => W_n W854 (tg_52 a i z) rfl) (RS_f (fun a i z => W_n W847 (tg_53 a i _ z) rfl) (RS_f (fun a i z => W_n W843 (tg_54 a i _ z) rfl) (RS_f (fun a i z => W_n W839 (tg_55 a i _ z) rfl) (RS_f (fun a i z => W_n W835 (tg_56 a i _ z) rfl) (RS_f (fun a i z => W_n W831 (tg_57 a i _ z) rfl) (RS_f (fun a i z => W_l W827 rfl) (RS_f (tg_45 F821) p_811.1))))))))
                              have c_859 : M855.2.1 77 10 = (M812.2.1 77 10) := (W_n W854 (by decide) (W_n W847 (fun z => absurd z.1 (by decide)) (W_n W843 (fun z => absurd z.1 (by decide)) (W_n W839 (fun z => absurd z.1 (by decide)) (W_n W835 (fun z => absurd z.1 (by decide)) (W_n W831 (fun z => absurd z.1 (by decide)) (W_l W827 (F_n F821 (show ¬ (77 < 0) by decide) rfl))))))))
                              have t_860 : (M855.2.1 77 10).toInt = (M812.2.1 77 10).toInt := congrArg Int32.toInt c_859
                              have z_861 : x_fC t nn sg (x_ns t nn a) := by unfold x_fC; omega
                              have z_862 := (x_or_r q7 (p_823.trans (x_bw_v (by omega) (by omega))) : _ = _ ||| x_bw (x_val t nn (x_ns t nn (x_ns t nn (x_ns t nn a)))) (x_val t nn (x_ns t nn (x_ns t nn (x_ns t nn (x_ns t nn a))))))
                              have z_863 := PLr_p (nm := (x_val t nn (x_ns t nn a))) (kd := 3) (f := (x_val t nn (x_ns t nn (x_ns t nn (x_ns t nn a))))) (l := (x_val t nn (x_ns t nn (x_ns t nn (x_ns t nn (x_ns t nn a)))))) (c := (x_val t nn (x_ns t nn (x_ns t nn (x_ns t nn (x_ns t nn (x_ns t nn a))))))) j_826 W827 W831 W835 W839 W843 W847 W854 (by omega) z_862 (by omega) (by omega) (by omega) (by omega) (by omega) (by omega) (by omega) (by omega) (by omega) (by omega) (by omega)
                              have j_864 := (CWr_f (fun k hk9 => W_j W854 rfl) (CWr_f (fun k hk9 => W_j W847 rfl) (CWr_f (fun k hk9 => W_j W843 rfl) (CWr_f (fun k hk9 => W_j W839 rfl) (CWr_f (fun k hk9 => W_j W835 rfl) (CWr_f (fun k hk9 => W_j W831 rfl) (CWr_f (fun k hk9 => L_n W827 (by omega) rfl) (CWr_f (fun k hk9 => F_nl F821 (show ¬ (87 < 0) by decide) rfl) (CWr_f (fun k hk9 => F_nl F806 (show ¬ (87 = 77 ∧ 7 ≤ (12 + k) ∧ (12 + k) ≤ 10) by omega) rfl) (CWr_f (fun k hk9 => F_nl F781 (show ¬ (87 = 77 ∧ ((12 + k) = 4 ∨ (12 + k) = 5)) by omega) rfl) (CWr_f (fun k hk9 => F_nl F673 (show ¬ (87 = 77 ∧ 7 ≤ (12 + k) ∧ (12 + k) ≤ 10) by omega) rfl) (CWr_f (fun k hk9 => F_nl F652 (show ¬ (87 < 0) by decide) rfl) (CWr_f (fun k hk9 => F_nl F633 (show ¬ (87 = 77 ∧ ((12 + k) = 4 ∨ (12 + k) = 5)) by omega) rfl) (CWr_f (fun k hk9 => F_nl F613 (show ¬ (87 = 77 ∧ 7 ≤ (12 + k) ∧ (12 + k) ≤ 10) by omega) rfl) (CWr_f (fun k hk9 => F_nl F592 (show ¬ (87 < 0) by decide) rfl) (CWr_f (fun k hk9 => F_nl F574 (show ¬ (87 = 77 ∧ ((12 + k) = 4 ∨ (12 + k) = 5)) by omega) rfl) (CWr_f (fun k hk9 => F_nl F110 (show ¬ (87 = 77 ∧ 7 ≤ (12 + k) ∧ (12 + k) ≤ 10) by omega) rfl) (CWr_f (fun k hk9 => F_nl F64 (show ¬ (87 = 77 ∧ 7 ≤ (12 + k) ∧ (12 + k) ≤ 10) by omega) rfl) (CWr_f (fun k hk9 => F_nl F35 (show ¬ (87 = 77 ∧ ((12 + k) = 4 ∨ (12 + k) = 5)) by omega) rfl) (CWr_f (fun k hk9 => F_nl F19 (show ¬ (87 = 77 ∧ 7 ≤ (12 + k) ∧ (12 + k) ≤ 10) by omega) rfl) q8))))))))))))))))))))
                              exact h (1 : Int32) M855 hG856 F857 (by decide) (by decide) j_858 (fun z => absurd z (by decide)) (fun _ => ⟨_, (by rw [show (M855.2.1 77 10).toInt = (x_ns t nn (x_ns t nn (x_ns t nn (x_ns t nn (x_ns t nn (x_ns t nn a)))))) by omega]; exact x_field_3 z_861 (by omega)), ⟨z_863, CWr_p j_864⟩, (by show sg.2.1 + 1 + sg.2.2.1 = _; omega)⟩)
                        · refine to_an (pc := 262) rw_170_262 rfl (to_c (pc := 263) rw_170_263 (x := (3 : Int32)) rfl rfl (s_v (pc := 264) rw_170_264 (dp0 hd (by decide)) (ls0 := [.ref 77, .int (3 : Int32)]) rfl (Nat.le_of_ble_eq_true rfl) (Nat.le_of_ble_eq_true rfl) rfl (to_rc rfl rfl rfl (g_o hG653 rfl)) rfl (to_an (pc := 0) rw_152_0 rfl (to_in (pc := 1) rw_152_1 rfl (s_pI (pc := 2) rw_152_2 hG653 rfl (fun M866 W865 => ?_))))))
                          have hG867 := g_wf hG653 W865 rfl rfl (by decide)
                          have F868 := FR.w F656 W865 (show 77 = 77 ∧ (4 = 4 ∨ 4 = 5 ∨ 7 ≤ 4 ∧ 4 ≤ 10 ∨ 4 = 15 ∨ 4 = 25) ∨ 80 ≤ 77 ∧ 77 ≤ 84 ∧ 8 ≤ 4 by decide)
                          refine to_an (pc := 5) rw_152_5 rfl (to_an (pc := 6) rw_152_6 rfl ?_)
                          have c_869 : M866.2.1 77 10 = (M619.2.1 77 10) := (W_n W865 (by decide) (F_n F652 (show ¬ (77 < 0) by decide) (F_n F633 (show ¬ (77 = 77 ∧ (10 = 4 ∨ 10 = 5)) by decide) rfl)))
                          refine tt_gI (pc := 7) rw_152_7 (g_o hG867 rfl) (v := (M619.2.1 77 10)) c_869 (s_pI (pc := 10) rw_152_10 hG867 rfl (fun M871 W870 => ?_))
                          have hG872 := g_wf hG867 W870 rfl rfl (by decide)
                          have F873 := FR.w F868 W870 (show 77 = 77 ∧ (5 = 4 ∨ 5 = 5 ∨ 7 ≤ 5 ∧ 5 ≤ 10 ∨ 5 = 15 ∨ 5 = 25) ∨ 80 ≤ 77 ∧ 77 ≤ 84 ∧ 8 ≤ 5 by decide)
                          refine to_c (pc := 13) rw_152_13 (x := (0 : Int32)) rfl rfl (s_r1 (pc := 14) rw_152_14 (A := 0) rfl (by decide) (s_r1 (pc := 267) rw_170_267 (A := 0) rfl (by decide) ?_))
                          have j_874 := (RS_f (fun a i z => W_n W870 (tg_37 a i z) rfl) (RS_f (fun a i z => W_n W865 (tg_38 a i z) rfl) (RS_f (tg_45 F652) (RS_f (tg_40 F633) p_618.1))))
                          exact h (0 : Int32) M871 hG872 F873 (by decide) (by decide) j_874 (fun _ => x_field_n (fun h9 => by unfold x_fC at h9; omega)) (fun z => absurd z (by decide))
                      · refine to_an (pc := 239) rw_170_239 rfl (to_c (pc := 240) rw_170_240 (x := (2 : Int32)) rfl rfl (s_v (pc := 241) rw_170_241 (dp0 hd (by decide)) (ls0 := [.ref 77, .int (2 : Int32)]) rfl (Nat.le_of_ble_eq_true rfl) (Nat.le_of_ble_eq_true rfl) rfl (to_rc rfl rfl rfl (g_o hG634 rfl)) rfl (to_an (pc := 0) rw_152_0 rfl (to_in (pc := 1) rw_152_1 rfl (s_pI (pc := 2) rw_152_2 hG634 rfl (fun M876 W875 => ?_))))))
                        have hG877 := g_wf hG634 W875 rfl rfl (by decide)
                        have F878 := FR.w F640 W875 (show 77 = 77 ∧ (4 = 4 ∨ 4 = 5 ∨ 7 ≤ 4 ∧ 4 ≤ 10 ∨ 4 = 15 ∨ 4 = 25) ∨ 80 ≤ 77 ∧ 77 ≤ 84 ∧ 8 ≤ 4 by decide)
                        refine to_an (pc := 5) rw_152_5 rfl (to_an (pc := 6) rw_152_6 rfl ?_)
                        have c_879 : M876.2.1 77 10 = (M619.2.1 77 10) := (W_n W875 (by decide) (F_n F633 (show ¬ (77 = 77 ∧ (10 = 4 ∨ 10 = 5)) by decide) rfl))
                        refine tt_gI (pc := 7) rw_152_7 (g_o hG877 rfl) (v := (M619.2.1 77 10)) c_879 (s_pI (pc := 10) rw_152_10 hG877 rfl (fun M881 W880 => ?_))
                        have hG882 := g_wf hG877 W880 rfl rfl (by decide)
                        have F883 := FR.w F878 W880 (show 77 = 77 ∧ (5 = 4 ∨ 5 = 5 ∨ 7 ≤ 5 ∧ 5 ≤ 10 ∨ 5 = 15 ∨ 5 = 25) ∨ 80 ≤ 77 ∧ 77 ≤ 84 ∧ 8 ≤ 5 by decide)
                        refine to_c (pc := 13) rw_152_13 (x := (0 : Int32)) rfl rfl (s_r1 (pc := 14) rw_152_14 (A := 0) rfl (by decide) (s_r1 (pc := 244) rw_170_244 (A := 0) rfl (by decide) ?_))
                        have j_884 := (RS_f (fun a i z => W_n W880 (tg_37 a i z) rfl) (RS_f (fun a i z => W_n W875 (tg_38 a i z) rfl) (RS_f (tg_40 F633) p_618.1)))
                        exact h (0 : Int32) M881 hG882 F883 (by decide) (by decide) j_884 (fun _ => x_field_n (fun h9 => by unfold x_fC at h9; omega)) (fun z => absurd z (by decide))
                  · refine to_an (pc := 169) rw_170_169 rfl (to_c (pc := 170) rw_170_170 (x := (3 : Int32)) rfl rfl (s_v (pc := 171) rw_170_171 (dp0 hd (by decide)) (ls0 := [.ref 77, .int (3 : Int32)]) rfl (Nat.le_of_ble_eq_true rfl) (Nat.le_of_ble_eq_true rfl) rfl (to_rc rfl rfl rfl (g_o hG593 rfl)) rfl (to_an (pc := 0) rw_152_0 rfl (to_in (pc := 1) rw_152_1 rfl (s_pI (pc := 2) rw_152_2 hG593 rfl (fun M886 W885 => ?_))))))
                    have hG887 := g_wf hG593 W885 rfl rfl (by decide)
                    have F888 := FR.w F596 W885 (show 77 = 77 ∧ (4 = 4 ∨ 4 = 5 ∨ 7 ≤ 4 ∧ 4 ≤ 10 ∨ 4 = 15 ∨ 4 = 25) ∨ 80 ≤ 77 ∧ 77 ≤ 84 ∧ 8 ≤ 4 by decide)
                    refine to_an (pc := 5) rw_152_5 rfl (to_an (pc := 6) rw_152_6 rfl ?_)
                    have c_889 : M886.2.1 77 10 = (M116.2.1 77 10) := (W_n W885 (by decide) (F_n F592 (show ¬ (77 < 0) by decide) (F_n F574 (show ¬ (77 = 77 ∧ (10 = 4 ∨ 10 = 5)) by decide) rfl)))
                    refine tt_gI (pc := 7) rw_152_7 (g_o hG887 rfl) (v := (M116.2.1 77 10)) c_889 (s_pI (pc := 10) rw_152_10 hG887 rfl (fun M891 W890 => ?_))
                    have hG892 := g_wf hG887 W890 rfl rfl (by decide)
                    have F893 := FR.w F888 W890 (show 77 = 77 ∧ (5 = 4 ∨ 5 = 5 ∨ 7 ≤ 5 ∧ 5 ≤ 10 ∨ 5 = 15 ∨ 5 = 25) ∨ 80 ≤ 77 ∧ 77 ≤ 84 ∧ 8 ≤ 5 by decide)
                    refine to_c (pc := 13) rw_152_13 (x := (0 : Int32)) rfl rfl (s_r1 (pc := 14) rw_152_14 (A := 0) rfl (by decide) (s_r1 (pc := 174) rw_170_174 (A := 0) rfl (by decide) ?_))
                    have j_894 := (RS_f (fun a i z => W_n W890 (tg_37 a i z) rfl) (RS_f (fun a i z => W_n W885 (tg_38 a i z) rfl) (RS_f (tg_45 F592) (RS_f (tg_40 F574) p_115.1))))
                    exact h (0 : Int32) M891 hG892 F893 (by decide) (by decide) j_894 (fun _ => x_field_n (fun h9 => by unfold x_fC at h9; omega)) (fun z => absurd z (by decide))
          · refine to_an (pc := 70) rw_170_70 rfl (to_c (pc := 71) rw_170_71 (x := (1 : Int32)) rfl rfl (s_v (pc := 72) rw_170_72 (dp0 hd (by decide)) (ls0 := [.ref 77, .int (1 : Int32)]) rfl (Nat.le_of_ble_eq_true rfl) (Nat.le_of_ble_eq_true rfl) rfl (to_rc rfl rfl rfl (g_o hG65 rfl)) rfl (to_an (pc := 0) rw_152_0 rfl (to_in (pc := 1) rw_152_1 rfl (s_pI (pc := 2) rw_152_2 hG65 rfl (fun M896 W895 => ?_))))))
            have hG897 := g_wf hG65 W895 rfl rfl (by decide)
            have F898 := FR.w F71 W895 (show 77 = 77 ∧ (4 = 4 ∨ 4 = 5 ∨ 7 ≤ 4 ∧ 4 ≤ 10 ∨ 4 = 15 ∨ 4 = 25) ∨ 80 ≤ 77 ∧ 77 ≤ 84 ∧ 8 ≤ 4 by decide)
            refine to_an (pc := 5) rw_152_5 rfl (to_an (pc := 6) rw_152_6 rfl ?_)
            have c_899 : M896.2.1 77 10 = (M70.2.1 77 10) := (W_n W895 (by decide) rfl)
            refine tt_gI (pc := 7) rw_152_7 (g_o hG897 rfl) (v := (M70.2.1 77 10)) c_899 (s_pI (pc := 10) rw_152_10 hG897 rfl (fun M901 W900 => ?_))
            have hG902 := g_wf hG897 W900 rfl rfl (by decide)
            have F903 := FR.w F898 W900 (show 77 = 77 ∧ (5 = 4 ∨ 5 = 5 ∨ 7 ≤ 5 ∧ 5 ≤ 10 ∨ 5 = 15 ∨ 5 = 25) ∨ 80 ≤ 77 ∧ 77 ≤ 84 ∧ 8 ≤ 5 by decide)
            refine to_c (pc := 13) rw_152_13 (x := (0 : Int32)) rfl rfl (s_r1 (pc := 14) rw_152_14 (A := 0) rfl (by decide) (s_r1 (pc := 75) rw_170_75 (A := 0) rfl (by decide) ?_))
            have k_904 : (0 : Int32).toInt = 0 := rfl
            have j_905 := (RS_f (fun a i z => W_n W900 (tg_37 a i z) rfl) (RS_f (fun a i z => W_n W895 (tg_38 a i z) rfl) p_69.1))
            exact h (0 : Int32) M901 hG902 F903 (by decide) (by decide) j_905 (fun _ => x_field_n (fun h9 => by unfold x_fC at h9; omega)) (fun z => absurd z (by decide))
  · refine to_an (pc := 9) rw_170_9 rfl (to_c (pc := 10) rw_170_10 (x := (2 : Int32)) rfl rfl (s_v (pc := 11) rw_170_11 (dp0 hd (by decide)) (ls0 := [.ref 77, .int (2 : Int32)]) rfl (Nat.le_of_ble_eq_true rfl) (Nat.le_of_ble_eq_true rfl) rfl (to_rc rfl rfl rfl (g_o hG rfl)) rfl (to_an (pc := 0) rw_152_0 rfl (to_in (pc := 1) rw_152_1 rfl (s_pI (pc := 2) rw_152_2 hG rfl (fun M907 W906 => ?_))))))
    have hG908 := g_wf hG W906 rfl rfl (by decide)
    have F909 := FR.w F0 W906 (show 77 = 77 ∧ (4 = 4 ∨ 4 = 5 ∨ 7 ≤ 4 ∧ 4 ≤ 10 ∨ 4 = 15 ∨ 4 = 25) ∨ 80 ≤ 77 ∧ 77 ≤ 84 ∧ 8 ≤ 4 by decide)
    refine to_an (pc := 5) rw_152_5 rfl (to_an (pc := 6) rw_152_6 rfl ?_)
    have c_910 : M907.2.1 77 10 = (M.2.1 77 10) := (W_n W906 (by decide) rfl)
    refine tt_gI (pc := 7) rw_152_7 (g_o hG908 rfl) (v := (M.2.1 77 10)) c_910 (s_pI (pc := 10) rw_152_10 hG908 rfl (fun M912 W911 => ?_))
    have hG913 := g_wf hG908 W911 rfl rfl (by decide)
    have F914 := FR.w F909 W911 (show 77 = 77 ∧ (5 = 4 ∨ 5 = 5 ∨ 7 ≤ 5 ∧ 5 ≤ 10 ∨ 5 = 15 ∨ 5 = 25) ∨ 80 ≤ 77 ∧ 77 ≤ 84 ∧ 8 ≤ 5 by decide)
    refine to_c (pc := 13) rw_152_13 (x := (0 : Int32)) rfl rfl (s_r1 (pc := 14) rw_152_14 (A := 0) rfl (by decide) (s_r1 (pc := 14) rw_170_14 (A := 0) rfl (by decide) ?_))
    have k_915 : (0 : Int32).toInt = 0 := rfl
    have j_916 := (RS_f (fun a i z => W_n W911 (tg_37 a i z) rfl) (RS_f (fun a i z => W_n W906 (tg_38 a i z) rfl) q1))
    exact h (0 : Int32) M912 hG913 F914 (by decide) (by decide) j_916 (fun _ => x_field_n (fun h9 => by unfold x_fC at h9; omega)) (fun z => absurd z (by decide))
end
section
theorem tg_58 : ∀ a i : Nat, (a = 77 ∧ 7 ≤ i ∧ i ≤ 10) → (a = 77 ∧ (i = 4 ∨ i = 5 ∨ 7 ≤ i ∧ i ≤ 10 ∨ i = 16) ∨ 85 ≤ a ∧ a ≤ 87 ∧ 12 ≤ i) := fun a i z => by omega
theorem tg_59 : ∀ a i : Nat, (a < 0) → (a = 77 ∧ (i = 4 ∨ i = 5 ∨ 7 ≤ i ∧ i ≤ 10 ∨ i = 16) ∨ 85 ≤ a ∧ a ≤ 87 ∧ 12 ≤ i) := fun a i z => by omega
theorem tg_60 : ∀ a i : Nat, (a = 77 ∧ (i = 4 ∨ i = 5)) → (a = 77 ∧ (i = 4 ∨ i = 5 ∨ 7 ≤ i ∧ i ≤ 10 ∨ i = 16) ∨ 85 ≤ a ∧ a ≤ 87 ∧ 12 ≤ i) := fun a i z => by omega
theorem tg_61 : ∀ a i : Nat, (a = 77 ∧ 6 ≤ i ∧ i ≤ 10) → ¬ (a = 77 ∧ i = 16) := fun a i z => by omega
theorem tg_62 : ∀ a i j : Nat, (a = 77 ∧ 6 ≤ i ∧ i ≤ 10) → ¬ (a = 86 ∧ i = j) := fun a i j z => by omega
theorem tg_63 : ∀ a i j : Nat, (a = 77 ∧ 6 ≤ i ∧ i ≤ 10) → ¬ (a = 85 ∧ i = j) := fun a i j z => by omega
set_option maxRecDepth 4000 in
set_option maxHeartbeats 0 in
theorem U_171_0 {X : mm_X} {d : Nat} {M : mm_M} {Q : Option Value → mm_M → Prop} {t : Nat → Int} {nn : Int} {a : Int} {sg : x_S} {k : x_K} (hX : g_X X) (hd : 3 ≤ d) (q1 : RS M t nn) (q2 : (M.2.1 77 10).toInt = a) (q3 : 0 ≤ nn) (q4 : nn ≤ 500) (q5 : TR M t nn) (q6 : W9 M) (q7 : PLr M sg) (q8 : CWr M sg) (h : ∀ (r : Int32) (M1 : mm_M), g_G M1 → FR md_w171 M M1 → (0 ≤ r.toInt) → (r.toInt ≤ 1) → RS M1 t nn → ((r.toInt = 0 → x_word t nn sg (x_ns t nn a) k = none)) → ((r.toInt = 1 → WOr t nn (x_word t nn sg (x_ns t nn a) k) k M1 sg)) → Q (some (.int r)) M1) : ∀ nn9 : Nat, (∀ (N : mm_M) (x1 : Int32) (x2 : Int32) (x3 : Int32) (y4 : Int64), g_G N → FR md_w171 M N → (0 ≤ x1.toInt) → (x1.toInt ≤ 7) → (x1.toInt < sg.2.1) → (x_row sg 2 x1.toInt = 3) → ((N.2.1 77 16).toInt ≤ 11) → (0 ≤ x3.toInt) → (x3.toInt ≤ 4) → (x3.toInt ≤ x_row sg 5 x1.toInt) → (0 ≤ nn) → (nn ≤ 500) → (RS N t nn) → (TR N t nn) → (W9 N) → (PLr N sg) → (CWr N sg) → (x_rc t nn sg x1.toInt x2.toInt k (6 - x3.toInt).toNat x3.toInt y4 (N.2.1 77 10).toInt = x_word t nn sg (x_ns t nn a) k) → 10 - x3.toInt < (nn9 : Int) → mm_T X d 170 106 [.ref 77, .int x1, .int x2, .int x3, .long y4, .null] [] N Q) := by
  intro nn9
  induction nn9 with
  | zero =>
    intro N x1 x2 x3 y4 hG F0 g1 g2 g3 g4 g5 g6 g7 g8 g9 g10 g11 g12 g13 g14 g15 g16 hm
    have b_1 := g_b hG (a := 77) (i := 16) (lo := 0) (hi := 12) rfl rfl
    exfalso; omega
  | succ nn9 ih =>
    intro N x1 x2 x3 y4 hG F0 g1 g2 g3 g4 g5 g6 g7 g8 g9 g10 g11 g12 g13 g14 g15 g16 hm
    have b_2 := g_b hG (a := 77) (i := 16) (lo := 0) (hi := 12) rfl rfl
    have z_3 := g14.2.1
    have z_4 := g14.2.2.1
    have z_5 := g14.2.2.2.1
    have z_6 := g14.1
    have z_7 := z_6.1
    have z_8 := z_6.2.1
    have z_9 := z_6.2.2.1
    have z_10 := z_6.2.2.2.1
    have z_11 := z_6.2.2.2.2.1
    have z_12 := z_6.2.2.2.2.2.1
    have b_13 := g_b hG (a := 77) (i := 14) (lo := 10) (hi := 60) rfl rfl
    have b_14 := g_b hG (a := 77) (i := 15) (lo := 0) (hi := 8) rfl rfl
    have z_15 := g14.1.2.2.2.2.2.2.2 x1.toInt (by omega) (by omega)
    have b_16 := g_b hG (a := 77) (i := 8) (lo := 0) (hi := 5) rfl rfl
    have b_17 := g_b hG (a := 77) (i := 10) (lo := 0) (hi := 500) rfl rfl
    have c_18 := RS_u g11 (a := (N.2.1 77 10).toInt) (by omega)
    unfold x_R at c_18
    refine to_an (pc := 106) rw_171_106 rfl (tt_gI (pc := 107) rw_171_107 (g_o hG rfl) (v := (N.2.1 77 8)) rfl (to_c (pc := 110) rw_171_110 (x := (3 : Int32)) rfl rfl (b_cne (pc := 111) rw_171_111 (A := (N.2.1 77 8).toInt) (B := 3) rfl rfl (fun h19 => ?_) (fun h19 => ?_))))
    · refine to_an (pc := 218) rw_171_218 rfl (to_c (pc := 219) rw_171_219 (x := (59 : Int32)) rfl rfl (s_v (pc := 221) rw_171_221 (dp0 hd (by decide)) (ls0 := [.ref 77, .int (59 : Int32)]) rfl (Nat.le_of_ble_eq_true rfl) (Nat.le_of_ble_eq_true rfl) rfl (to_rc rfl rfl rfl (g_o hG rfl)) rfl (to_an (pc := 0) rw_159_0 rfl (tt_gI (pc := 1) rw_159_1 (g_o hG rfl) (v := (N.2.1 77 8)) rfl (to_c (pc := 4) rw_159_4 (x := (4 : Int32)) rfl rfl (b_cne (pc := 5) rw_159_5 (A := (N.2.1 77 8).toInt) (B := 4) rfl rfl (fun h20 => ?_) (fun h20 => ?_)))))))
      · refine to_c (pc := 20) rw_159_20 (x := (0 : Int32)) rfl rfl (s_r1 (pc := 21) rw_159_21 (A := 0) rfl (by decide) (b_ieq_t (pc := 224) rw_171_224 (A := 0) rfl (by decide) (to_an (pc := 246) rw_171_246 rfl (s_gR (pc := 247) rw_171_247 hG rfl (v := 85) rfl (to_c (pc := 250) rw_171_250 (x := (12 : Int32)) rfl rfl (to_an (pc := 252) rw_171_252 rfl (tt_gI (pc := 253) rw_171_253 (g_o hG rfl) (v := (N.2.1 77 16)) rfl (s_add (pc := 256) rw_171_256 (A := 12) (B := (N.2.1 77 16).toInt) rfl rfl (by omega) (fun v21 e22 => to_in (pc := 257) rw_171_257 rfl (s_ias (pc := 258) rw_171_258 hG rfl (n := 24) rfl (A := v21.toInt) rfl (by omega) (by omega) (fun M24 W23 => ?_)))))))))))
        have hG25 := g_wf hG W23 rfl rfl (by decide)
        have F26 := FR.w F0 W23 (show 85 = 77 ∧ ((v21.toInt).toNat = 4 ∨ (v21.toInt).toNat = 5 ∨ 7 ≤ (v21.toInt).toNat ∧ (v21.toInt).toNat ≤ 10 ∨ (v21.toInt).toNat = 16) ∨ 85 ≤ 85 ∧ 85 ≤ 87 ∧ 12 ≤ (v21.toInt).toNat by omega)
        refine to_an (pc := 259) rw_171_259 rfl (s_gR (pc := 260) rw_171_260 hG25 rfl (v := 86) rfl (to_c (pc := 263) rw_171_263 (x := (12 : Int32)) rfl rfl (to_an (pc := 265) rw_171_265 rfl ?_)))
        have c_27 : M24.2.1 77 16 = (N.2.1 77 16) := (W_n W23 (fun z => absurd z.1 (by decide)) rfl)
        refine tt_gI (pc := 266) rw_171_266 (g_o hG25 rfl) (v := (N.2.1 77 16)) c_27 (s_add (pc := 269) rw_171_269 (A := 12) (B := (N.2.1 77 16).toInt) rfl rfl (by omega) (fun v28 e29 => to_in (pc := 270) rw_171_270 rfl (s_ias (pc := 271) rw_171_271 hG25 rfl (n := 24) rfl (A := v28.toInt) rfl (by omega) (by omega) (fun M31 W30 => ?_))))
        have hG32 := g_w hG25 W30 (A := x1.toInt) rfl (lo := 0) (hi := 7) rfl rfl (by omega) (by decide)
        have F33 := FR.w F26 W30 (show 86 = 77 ∧ ((v28.toInt).toNat = 4 ∨ (v28.toInt).toNat = 5 ∨ 7 ≤ (v28.toInt).toNat ∧ (v28.toInt).toNat ≤ 10 ∨ (v28.toInt).toNat = 16) ∨ 85 ≤ 86 ∧ 86 ≤ 87 ∧ 12 ≤ (v28.toInt).toNat by omega)
        refine to_an (pc := 272) rw_171_272 rfl (s_gR (pc := 273) rw_171_273 hG32 rfl (v := 87) rfl (to_c (pc := 276) rw_171_276 (x := (12 : Int32)) rfl rfl (to_an (pc := 278) rw_171_278 rfl ?_)))
        have c_34 : M31.2.1 77 16 = (N.2.1 77 16) := (W_n W30 (fun z => absurd z.1 (by decide)) c_27)
        refine tt_gI (pc := 279) rw_171_279 (g_o hG32 rfl) (v := (N.2.1 77 16)) c_34 (s_add (pc := 282) rw_171_282 (A := 12) (B := (N.2.1 77 16).toInt) rfl rfl (by omega) (fun v35 e36 => to_l (pc := 283) rw_171_283 rfl rfl rfl (s_las (pc := 285) rw_171_285 hG32 rfl (n := 24) rfl (A := v35.toInt) rfl (by omega) (by omega) (fun M38 W37 => ?_))))
        have hG39 := g_wl hG32 W37
        have F40 := FR.wl F33 W37 (show 87 = 77 ∧ ((v35.toInt).toNat = 4 ∨ (v35.toInt).toNat = 5 ∨ 7 ≤ (v35.toInt).toNat ∧ (v35.toInt).toNat ≤ 10 ∨ (v35.toInt).toNat = 16) ∨ 85 ≤ 87 ∧ 87 ≤ 87 ∧ 12 ≤ (v35.toInt).toNat by omega)
        refine to_an (pc := 286) rw_171_286 rfl (to_dupr (pc := 287) rw_171_287 ?_)
        have c_41 : M38.2.1 77 16 = (N.2.1 77 16) := (W_l W37 c_34)
        refine tt_gI (pc := 288) rw_171_288 (g_o hG39 rfl) (v := (N.2.1 77 16)) c_41 (to_c (pc := 291) rw_171_291 (x := (1 : Int32)) rfl rfl (s_add (pc := 292) rw_171_292 (A := (N.2.1 77 16).toInt) (B := 1) rfl rfl (by omega) (fun v42 e43 => s_pI (pc := 293) rw_171_293 hG39 rfl (fun M45 W44 => ?_))))
        have hG46 := g_w hG39 W44 (A := v42.toInt) rfl (lo := 0) (hi := 12) rfl rfl (by omega) (by decide)
        have F47 := FR.w F40 W44 (show 77 = 77 ∧ (16 = 4 ∨ 16 = 5 ∨ 7 ≤ 16 ∧ 16 ≤ 10 ∨ 16 = 16) ∨ 85 ≤ 77 ∧ 77 ≤ 87 ∧ 12 ≤ 16 by decide)
        refine to_c (pc := 296) rw_171_296 (x := (1 : Int32)) rfl rfl (s_r1 (pc := 297) rw_171_297 (A := 1) rfl (by decide) ?_)
        have k_48 : (1 : Int32).toInt = 1 := rfl
        have j_49 := (RS_f (fun a i z => W_n W44 (tg_61 a i z) rfl) (RS_f (fun a i z => W_l W37 rfl) (RS_f (fun a i z => W_n W30 (tg_62 a i _ z) rfl) (RS_f (fun a i z => W_n W23 (tg_63 a i _ z) rfl) g11))))
        have c_50 : M45.2.1 77 10 = (N.2.1 77 10) := (W_n W44 (by decide) (W_l W37 (W_n W30 (fun z => absurd z.1 (by decide)) (W_n W23 (fun z => absurd z.1 (by decide)) rfl))))
        have t_51 : (M45.2.1 77 10).toInt = (N.2.1 77 10).toInt := congrArg Int32.toInt c_50
        have z_52 := (⟨PLr_wp (nm := x2.toInt) (f := x1.toInt) (b := y4.toInt) g14 W23 W30 W37 W44 (by omega) (by omega) (by omega) (by omega) (by omega) (by omega) (by omega), CWr_wp g15 W23 W30 W37 W44 (by omega) rfl⟩ : PLr2 _ _)
        exact h (1 : Int32) M45 hG46 F47 (by decide) (by decide) j_49 (fun z => absurd z (by decide)) (fun _ => by unfold WOr FOr; rw [show (M45.2.1 77 10).toInt = (N.2.1 77 10).toInt by omega, ← g16]; first | exact Or.inl ⟨_, x_rc_y (by omega) (by omega) (by omega), z_52, (by show sg.2.1 + (sg.2.2.1 + 1) = _; omega)⟩ | exact Or.inr ⟨x_rc_n2 (by omega) (by omega), by omega⟩ | exact (if g9 : x3.toInt = x_row sg 5 x1.toInt then Or.inl ⟨_, x_rc_y (by omega) (by omega) g9, z_52, (by show sg.2.1 + (sg.2.2.1 + 1) = _; omega)⟩ else Or.inr ⟨x_rc_n2 (by omega) g9, by omega⟩))
      · refine to_an (pc := 8) rw_159_8 rfl (tt_gI (pc := 9) rw_159_9 (g_o hG rfl) (v := (N.2.1 77 9)) rfl (to_in (pc := 12) rw_159_12 rfl (b_cne (pc := 13) rw_159_13 (A := (N.2.1 77 9).toInt) (B := 59) rfl rfl (fun h53 => ?_) (fun h53 => ?_))))
        · refine to_c (pc := 20) rw_159_20 (x := (0 : Int32)) rfl rfl (s_r1 (pc := 21) rw_159_21 (A := 0) rfl (by decide) (b_ieq_t (pc := 224) rw_171_224 (A := 0) rfl (by decide) (to_an (pc := 246) rw_171_246 rfl (s_gR (pc := 247) rw_171_247 hG rfl (v := 85) rfl (to_c (pc := 250) rw_171_250 (x := (12 : Int32)) rfl rfl (to_an (pc := 252) rw_171_252 rfl (tt_gI (pc := 253) rw_171_253 (g_o hG rfl) (v := (N.2.1 77 16)) rfl (s_add (pc := 256) rw_171_256 (A := 12) (B := (N.2.1 77 16).toInt) rfl rfl (by omega) (fun v54 e55 => to_in (pc := 257) rw_171_257 rfl (s_ias (pc := 258) rw_171_258 hG rfl (n := 24) rfl (A := v54.toInt) rfl (by omega) (by omega) (fun M57 W56 => ?_)))))))))))
          have hG58 := g_wf hG W56 rfl rfl (by decide)
          have F59 := FR.w F0 W56 (show 85 = 77 ∧ ((v54.toInt).toNat = 4 ∨ (v54.toInt).toNat = 5 ∨ 7 ≤ (v54.toInt).toNat ∧ (v54.toInt).toNat ≤ 10 ∨ (v54.toInt).toNat = 16) ∨ 85 ≤ 85 ∧ 85 ≤ 87 ∧ 12 ≤ (v54.toInt).toNat by omega)
          refine to_an (pc := 259) rw_171_259 rfl (s_gR (pc := 260) rw_171_260 hG58 rfl (v := 86) rfl (to_c (pc := 263) rw_171_263 (x := (12 : Int32)) rfl rfl (to_an (pc := 265) rw_171_265 rfl ?_)))
          have c_60 : M57.2.1 77 16 = (N.2.1 77 16) := (W_n W56 (fun z => absurd z.1 (by decide)) rfl)
          refine tt_gI (pc := 266) rw_171_266 (g_o hG58 rfl) (v := (N.2.1 77 16)) c_60 (s_add (pc := 269) rw_171_269 (A := 12) (B := (N.2.1 77 16).toInt) rfl rfl (by omega) (fun v61 e62 => to_in (pc := 270) rw_171_270 rfl (s_ias (pc := 271) rw_171_271 hG58 rfl (n := 24) rfl (A := v61.toInt) rfl (by omega) (by omega) (fun M64 W63 => ?_))))
          have hG65 := g_w hG58 W63 (A := x1.toInt) rfl (lo := 0) (hi := 7) rfl rfl (by omega) (by decide)
          have F66 := FR.w F59 W63 (show 86 = 77 ∧ ((v61.toInt).toNat = 4 ∨ (v61.toInt).toNat = 5 ∨ 7 ≤ (v61.toInt).toNat ∧ (v61.toInt).toNat ≤ 10 ∨ (v61.toInt).toNat = 16) ∨ 85 ≤ 86 ∧ 86 ≤ 87 ∧ 12 ≤ (v61.toInt).toNat by omega)
          refine to_an (pc := 272) rw_171_272 rfl (s_gR (pc := 273) rw_171_273 hG65 rfl (v := 87) rfl (to_c (pc := 276) rw_171_276 (x := (12 : Int32)) rfl rfl (to_an (pc := 278) rw_171_278 rfl ?_)))
          have c_67 : M64.2.1 77 16 = (N.2.1 77 16) := (W_n W63 (fun z => absurd z.1 (by decide)) c_60)
          refine tt_gI (pc := 279) rw_171_279 (g_o hG65 rfl) (v := (N.2.1 77 16)) c_67 (s_add (pc := 282) rw_171_282 (A := 12) (B := (N.2.1 77 16).toInt) rfl rfl (by omega) (fun v68 e69 => to_l (pc := 283) rw_171_283 rfl rfl rfl (s_las (pc := 285) rw_171_285 hG65 rfl (n := 24) rfl (A := v68.toInt) rfl (by omega) (by omega) (fun M71 W70 => ?_))))
          have hG72 := g_wl hG65 W70
          have F73 := FR.wl F66 W70 (show 87 = 77 ∧ ((v68.toInt).toNat = 4 ∨ (v68.toInt).toNat = 5 ∨ 7 ≤ (v68.toInt).toNat ∧ (v68.toInt).toNat ≤ 10 ∨ (v68.toInt).toNat = 16) ∨ 85 ≤ 87 ∧ 87 ≤ 87 ∧ 12 ≤ (v68.toInt).toNat by omega)
          refine to_an (pc := 286) rw_171_286 rfl (to_dupr (pc := 287) rw_171_287 ?_)
          have c_74 : M71.2.1 77 16 = (N.2.1 77 16) := (W_l W70 c_67)
          refine tt_gI (pc := 288) rw_171_288 (g_o hG72 rfl) (v := (N.2.1 77 16)) c_74 (to_c (pc := 291) rw_171_291 (x := (1 : Int32)) rfl rfl (s_add (pc := 292) rw_171_292 (A := (N.2.1 77 16).toInt) (B := 1) rfl rfl (by omega) (fun v75 e76 => s_pI (pc := 293) rw_171_293 hG72 rfl (fun M78 W77 => ?_))))
          have hG79 := g_w hG72 W77 (A := v75.toInt) rfl (lo := 0) (hi := 12) rfl rfl (by omega) (by decide)
          have F80 := FR.w F73 W77 (show 77 = 77 ∧ (16 = 4 ∨ 16 = 5 ∨ 7 ≤ 16 ∧ 16 ≤ 10 ∨ 16 = 16) ∨ 85 ≤ 77 ∧ 77 ≤ 87 ∧ 12 ≤ 16 by decide)
          refine to_c (pc := 296) rw_171_296 (x := (1 : Int32)) rfl rfl (s_r1 (pc := 297) rw_171_297 (A := 1) rfl (by decide) ?_)
          have k_81 : (1 : Int32).toInt = 1 := rfl
          have j_82 := (RS_f (fun a i z => W_n W77 (tg_61 a i z) rfl) (RS_f (fun a i z => W_l W70 rfl) (RS_f (fun a i z => W_n W63 (tg_62 a i _ z) rfl) (RS_f (fun a i z => W_n W56 (tg_63 a i _ z) rfl) g11))))
          have c_83 : M78.2.1 77 10 = (N.2.1 77 10) := (W_n W77 (by decide) (W_l W70 (W_n W63 (fun z => absurd z.1 (by decide)) (W_n W56 (fun z => absurd z.1 (by decide)) rfl))))
          have t_84 : (M78.2.1 77 10).toInt = (N.2.1 77 10).toInt := congrArg Int32.toInt c_83
          have z_85 := (⟨PLr_wp (nm := x2.toInt) (f := x1.toInt) (b := y4.toInt) g14 W56 W63 W70 W77 (by omega) (by omega) (by omega) (by omega) (by omega) (by omega) (by omega), CWr_wp g15 W56 W63 W70 W77 (by omega) rfl⟩ : PLr2 _ _)
          exact h (1 : Int32) M78 hG79 F80 (by decide) (by decide) j_82 (fun z => absurd z (by decide)) (fun _ => by unfold WOr FOr; rw [show (M78.2.1 77 10).toInt = (N.2.1 77 10).toInt by omega, ← g16]; first | exact Or.inl ⟨_, x_rc_y (by omega) (by omega) (by omega), z_85, (by show sg.2.1 + (sg.2.2.1 + 1) = _; omega)⟩ | exact Or.inr ⟨x_rc_n2 (by omega) (by omega), by omega⟩ | exact (if g9 : x3.toInt = x_row sg 5 x1.toInt then Or.inl ⟨_, x_rc_y (by omega) (by omega) g9, z_85, (by show sg.2.1 + (sg.2.2.1 + 1) = _; omega)⟩ else Or.inr ⟨x_rc_n2 (by omega) g9, by omega⟩))
        · refine to_c (pc := 16) rw_159_16 (x := (1 : Int32)) rfl rfl (to_go (pc := 17) rw_159_17 (s_r1 (pc := 21) rw_159_21 (A := 1) rfl (by decide) (b_ieq_f (pc := 224) rw_171_224 (A := 1) rfl (by decide) (to_in (pc := 227) rw_171_227 rfl (to_an (pc := 228) rw_171_228 rfl (s_gR (pc := 229) rw_171_229 hG rfl (v := 84) rfl (to_c (pc := 232) rw_171_232 (x := (8 : Int32)) rfl rfl (to_in (pc := 234) rw_171_234 rfl (s_add (pc := 235) rw_171_235 (A := 8) (B := x1.toInt) rfl rfl (by omega) (fun v86 e87 => s_ial (pc := 236) rw_171_236 hG rfl (n := 16) rfl rfl (A := v86.toInt) rfl (by omega) (by omega) (lo := 0) (hi := 24) rfl rfl (fun v88 w_89 _ _ => ?_)))))))))))
          have z_90 := PLr_r g14 5 84 rfl (by decide) (by decide) (k := x1.toInt) (by omega) (by omega) (by omega) w_89
          refine b_cge (pc := 237) rw_171_237 (A := x3.toInt) (B := v88.toInt) rfl rfl (fun h91 => ?_) (fun h91 => ?_)
          · refine to_an (pc := 246) rw_171_246 rfl (s_gR (pc := 247) rw_171_247 hG rfl (v := 85) rfl (to_c (pc := 250) rw_171_250 (x := (12 : Int32)) rfl rfl (to_an (pc := 252) rw_171_252 rfl (tt_gI (pc := 253) rw_171_253 (g_o hG rfl) (v := (N.2.1 77 16)) rfl (s_add (pc := 256) rw_171_256 (A := 12) (B := (N.2.1 77 16).toInt) rfl rfl (by omega) (fun v92 e93 => to_in (pc := 257) rw_171_257 rfl (s_ias (pc := 258) rw_171_258 hG rfl (n := 24) rfl (A := v92.toInt) rfl (by omega) (by omega) (fun M95 W94 => ?_))))))))
            have hG96 := g_wf hG W94 rfl rfl (by decide)
            have F97 := FR.w F0 W94 (show 85 = 77 ∧ ((v92.toInt).toNat = 4 ∨ (v92.toInt).toNat = 5 ∨ 7 ≤ (v92.toInt).toNat ∧ (v92.toInt).toNat ≤ 10 ∨ (v92.toInt).toNat = 16) ∨ 85 ≤ 85 ∧ 85 ≤ 87 ∧ 12 ≤ (v92.toInt).toNat by omega)
            refine to_an (pc := 259) rw_171_259 rfl (s_gR (pc := 260) rw_171_260 hG96 rfl (v := 86) rfl (to_c (pc := 263) rw_171_263 (x := (12 : Int32)) rfl rfl (to_an (pc := 265) rw_171_265 rfl ?_)))
            have c_98 : M95.2.1 77 16 = (N.2.1 77 16) := (W_n W94 (fun z => absurd z.1 (by decide)) rfl)
            refine tt_gI (pc := 266) rw_171_266 (g_o hG96 rfl) (v := (N.2.1 77 16)) c_98 (s_add (pc := 269) rw_171_269 (A := 12) (B := (N.2.1 77 16).toInt) rfl rfl (by omega) (fun v99 e100 => to_in (pc := 270) rw_171_270 rfl (s_ias (pc := 271) rw_171_271 hG96 rfl (n := 24) rfl (A := v99.toInt) rfl (by omega) (by omega) (fun M102 W101 => ?_))))
            have hG103 := g_w hG96 W101 (A := x1.toInt) rfl (lo := 0) (hi := 7) rfl rfl (by omega) (by decide)
            have F104 := FR.w F97 W101 (show 86 = 77 ∧ ((v99.toInt).toNat = 4 ∨ (v99.toInt).toNat = 5 ∨ 7 ≤ (v99.toInt).toNat ∧ (v99.toInt).toNat ≤ 10 ∨ (v99.toInt).toNat = 16) ∨ 85 ≤ 86 ∧ 86 ≤ 87 ∧ 12 ≤ (v99.toInt).toNat by omega)
            refine to_an (pc := 272) rw_171_272 rfl (s_gR (pc := 273) rw_171_273 hG103 rfl (v := 87) rfl (to_c (pc := 276) rw_171_276 (x := (12 : Int32)) rfl rfl (to_an (pc := 278) rw_171_278 rfl ?_)))
            have c_105 : M102.2.1 77 16 = (N.2.1 77 16) := (W_n W101 (fun z => absurd z.1 (by decide)) c_98)
            refine tt_gI (pc := 279) rw_171_279 (g_o hG103 rfl) (v := (N.2.1 77 16)) c_105 (s_add (pc := 282) rw_171_282 (A := 12) (B := (N.2.1 77 16).toInt) rfl rfl (by omega) (fun v106 e107 => to_l (pc := 283) rw_171_283 rfl rfl rfl (s_las (pc := 285) rw_171_285 hG103 rfl (n := 24) rfl (A := v106.toInt) rfl (by omega) (by omega) (fun M109 W108 => ?_))))
            have hG110 := g_wl hG103 W108
            have F111 := FR.wl F104 W108 (show 87 = 77 ∧ ((v106.toInt).toNat = 4 ∨ (v106.toInt).toNat = 5 ∨ 7 ≤ (v106.toInt).toNat ∧ (v106.toInt).toNat ≤ 10 ∨ (v106.toInt).toNat = 16) ∨ 85 ≤ 87 ∧ 87 ≤ 87 ∧ 12 ≤ (v106.toInt).toNat by omega)
            refine to_an (pc := 286) rw_171_286 rfl (to_dupr (pc := 287) rw_171_287 ?_)
            have c_112 : M109.2.1 77 16 = (N.2.1 77 16) := (W_l W108 c_105)
            refine tt_gI (pc := 288) rw_171_288 (g_o hG110 rfl) (v := (N.2.1 77 16)) c_112 (to_c (pc := 291) rw_171_291 (x := (1 : Int32)) rfl rfl (s_add (pc := 292) rw_171_292 (A := (N.2.1 77 16).toInt) (B := 1) rfl rfl (by omega) (fun v113 e114 => s_pI (pc := 293) rw_171_293 hG110 rfl (fun M116 W115 => ?_))))
            have hG117 := g_w hG110 W115 (A := v113.toInt) rfl (lo := 0) (hi := 12) rfl rfl (by omega) (by decide)
            have F118 := FR.w F111 W115 (show 77 = 77 ∧ (16 = 4 ∨ 16 = 5 ∨ 7 ≤ 16 ∧ 16 ≤ 10 ∨ 16 = 16) ∨ 85 ≤ 77 ∧ 77 ≤ 87 ∧ 12 ≤ 16 by decide)
            refine to_c (pc := 296) rw_171_296 (x := (1 : Int32)) rfl rfl (s_r1 (pc := 297) rw_171_297 (A := 1) rfl (by decide) ?_)
            have k_119 : (1 : Int32).toInt = 1 := rfl
            have j_120 := (RS_f (fun a i z => W_n W115 (tg_61 a i z) rfl) (RS_f (fun a i z => W_l W108 rfl) (RS_f (fun a i z => W_n W101 (tg_62 a i _ z) rfl) (RS_f (fun a i z => W_n W94 (tg_63 a i _ z) rfl) g11))))
            have c_121 : M116.2.1 77 10 = (N.2.1 77 10) := (W_n W115 (by decide) (W_l W108 (W_n W101 (fun z => absurd z.1 (by decide)) (W_n W94 (fun z => absurd z.1 (by decide)) rfl))))
            have t_122 : (M116.2.1 77 10).toInt = (N.2.1 77 10).toInt := congrArg Int32.toInt c_121
            have z_123 := (⟨PLr_wp (nm := x2.toInt) (f := x1.toInt) (b := y4.toInt) g14 W94 W101 W108 W115 (by omega) (by omega) (by omega) (by omega) (by omega) (by omega) (by omega), CWr_wp g15 W94 W101 W108 W115 (by omega) rfl⟩ : PLr2 _ _)
            exact h (1 : Int32) M116 hG117 F118 (by decide) (by decide) j_120 (fun z => absurd z (by decide)) (fun _ => by unfold WOr FOr; rw [show (M116.2.1 77 10).toInt = (N.2.1 77 10).toInt by omega, ← g16]; first | exact Or.inl ⟨_, x_rc_y (by omega) (by omega) (by omega), z_123, (by show sg.2.1 + (sg.2.2.1 + 1) = _; omega)⟩ | exact Or.inr ⟨x_rc_n2 (by omega) (by omega), by omega⟩ | exact (if g9 : x3.toInt = x_row sg 5 x1.toInt then Or.inl ⟨_, x_rc_y (by omega) (by omega) g9, z_123, (by show sg.2.1 + (sg.2.2.1 + 1) = _; omega)⟩ else Or.inr ⟨x_rc_n2 (by omega) g9, by omega⟩))
          · refine to_an (pc := 240) rw_171_240 rfl (to_c (pc := 241) rw_171_241 (x := (5 : Int32)) rfl rfl (s_v (pc := 242) rw_171_242 (dp0 hd (by decide)) (ls0 := [.ref 77, .int (5 : Int32)]) rfl (Nat.le_of_ble_eq_true rfl) (Nat.le_of_ble_eq_true rfl) rfl (to_rc rfl rfl rfl (g_o hG rfl)) rfl (to_an (pc := 0) rw_152_0 rfl (to_in (pc := 1) rw_152_1 rfl (s_pI (pc := 2) rw_152_2 hG rfl (fun M125 W124 => ?_))))))
            have hG126 := g_wf hG W124 rfl rfl (by decide)
            have F127 := FR.w F0 W124 (show 77 = 77 ∧ (4 = 4 ∨ 4 = 5 ∨ 7 ≤ 4 ∧ 4 ≤ 10 ∨ 4 = 16) ∨ 85 ≤ 77 ∧ 77 ≤ 87 ∧ 12 ≤ 4 by decide)
            refine to_an (pc := 5) rw_152_5 rfl (to_an (pc := 6) rw_152_6 rfl ?_)
            have c_128 : M125.2.1 77 10 = (N.2.1 77 10) := (W_n W124 (by decide) rfl)
            refine tt_gI (pc := 7) rw_152_7 (g_o hG126 rfl) (v := (N.2.1 77 10)) c_128 (s_pI (pc := 10) rw_152_10 hG126 rfl (fun M130 W129 => ?_))
            have hG131 := g_wf hG126 W129 rfl rfl (by decide)
            have F132 := FR.w F127 W129 (show 77 = 77 ∧ (5 = 4 ∨ 5 = 5 ∨ 7 ≤ 5 ∧ 5 ≤ 10 ∨ 5 = 16) ∨ 85 ≤ 77 ∧ 77 ≤ 87 ∧ 12 ≤ 5 by decide)
            refine to_c (pc := 13) rw_152_13 (x := (0 : Int32)) rfl rfl (s_r1 (pc := 14) rw_152_14 (A := 0) rfl (by decide) (s_r1 (pc := 245) rw_171_245 (A := 0) rfl (by decide) ?_))
            have k_133 : (0 : Int32).toInt = 0 := rfl
            have j_134 := (RS_f (fun a i z => W_n W129 (tg_37 a i z) rfl) (RS_f (fun a i z => W_n W124 (tg_38 a i z) rfl) g11))
            exact h (0 : Int32) M130 hG131 F132 (by decide) (by decide) j_134 (fun _ => g16.symm.trans (by first | exact x_rc_n1 (by omega) (by omega) | exact x_rc_n2 (by omega) (by omega))) (fun z => absurd z (by decide))
    · refine to_in (pc := 114) rw_171_114 rfl (to_an (pc := 115) rw_171_115 rfl (s_gR (pc := 116) rw_171_116 hG rfl (v := 84) rfl (to_c (pc := 119) rw_171_119 (x := (8 : Int32)) rfl rfl (to_in (pc := 121) rw_171_121 rfl (s_add (pc := 122) rw_171_122 (A := 8) (B := x1.toInt) rfl rfl (by omega) (fun v135 e136 => s_ial (pc := 123) rw_171_123 hG rfl (n := 16) rfl rfl (A := v135.toInt) rfl (by omega) (by omega) (lo := 0) (hi := 24) rfl rfl (fun v137 w_138 _ _ => ?_)))))))
      have z_139 := PLr_r g14 5 84 rfl (by decide) (by decide) (k := x1.toInt) (by omega) (by omega) (by omega) w_138
      refine b_ceq (pc := 124) rw_171_124 (A := x3.toInt) (B := v137.toInt) rfl rfl (fun h140 => ?_) (fun h140 => ?_)
      · refine to_an (pc := 153) rw_171_153 rfl (to_c (pc := 154) rw_171_154 (x := (2 : Int32)) rfl rfl (s_v (pc := 155) rw_171_155 (dp0 hd (by decide)) (ls0 := [.ref 77, .int (2 : Int32)]) rfl (Nat.le_of_ble_eq_true rfl) (Nat.le_of_ble_eq_true rfl) rfl (to_rc rfl rfl rfl (g_o hG rfl)) rfl (to_an (pc := 0) rw_152_0 rfl (to_in (pc := 1) rw_152_1 rfl (s_pI (pc := 2) rw_152_2 hG rfl (fun M142 W141 => ?_))))))
        have hG143 := g_wf hG W141 rfl rfl (by decide)
        have F144 := FR.w F0 W141 (show 77 = 77 ∧ (4 = 4 ∨ 4 = 5 ∨ 7 ≤ 4 ∧ 4 ≤ 10 ∨ 4 = 16) ∨ 85 ≤ 77 ∧ 77 ≤ 87 ∧ 12 ≤ 4 by decide)
        refine to_an (pc := 5) rw_152_5 rfl (to_an (pc := 6) rw_152_6 rfl ?_)
        have c_145 : M142.2.1 77 10 = (N.2.1 77 10) := (W_n W141 (by decide) rfl)
        refine tt_gI (pc := 7) rw_152_7 (g_o hG143 rfl) (v := (N.2.1 77 10)) c_145 (s_pI (pc := 10) rw_152_10 hG143 rfl (fun M147 W146 => ?_))
        have hG148 := g_wf hG143 W146 rfl rfl (by decide)
        have F149 := FR.w F144 W146 (show 77 = 77 ∧ (5 = 4 ∨ 5 = 5 ∨ 7 ≤ 5 ∧ 5 ≤ 10 ∨ 5 = 16) ∨ 85 ≤ 77 ∧ 77 ≤ 87 ∧ 12 ≤ 5 by decide)
        refine to_c (pc := 13) rw_152_13 (x := (0 : Int32)) rfl rfl (s_r1 (pc := 14) rw_152_14 (A := 0) rfl (by decide) (s_r1 (pc := 158) rw_171_158 (A := 0) rfl (by decide) ?_))
        have k_150 : (0 : Int32).toInt = 0 := rfl
        have j_151 := (RS_f (fun a i z => W_n W146 (tg_37 a i z) rfl) (RS_f (fun a i z => W_n W141 (tg_38 a i z) rfl) g11))
        exact h (0 : Int32) M147 hG148 F149 (by decide) (by decide) j_151 (fun _ => g16.symm.trans (by first | exact x_rc_n1 (by omega) (by omega) | exact x_rc_n2 (by omega) (by omega))) (fun z => absurd z (by decide))
      · refine to_an (pc := 127) rw_171_127 rfl (tt_gI (pc := 128) rw_171_128 (g_o hG rfl) (v := (N.2.1 77 9)) rfl (to_an (pc := 131) rw_171_131 rfl (s_gR (pc := 132) rw_171_132 hG rfl (v := 83) rfl (to_c (pc := 135) rw_171_135 (x := (8 : Int32)) rfl rfl (to_in (pc := 137) rw_171_137 rfl (s_add (pc := 138) rw_171_138 (A := 8) (B := x1.toInt) rfl rfl (by omega) (fun v152 e153 => s_ial (pc := 139) rw_171_139 hG rfl (n := 16) rfl rfl (A := v152.toInt) rfl (by omega) (by omega) (lo := 0) (hi := 63) rfl rfl (fun v154 w_155 _ _ => ?_))))))))
        have z_156 := PLr_r g14 4 83 rfl (by decide) (by decide) (k := x1.toInt) (by omega) (by omega) (by omega) w_155
        refine to_an (pc := 140) rw_171_140 rfl (s_gR (pc := 141) rw_171_141 hG rfl (v := 82) rfl (to_c (pc := 144) rw_171_144 (x := (8 : Int32)) rfl rfl (to_in (pc := 146) rw_171_146 rfl (s_add (pc := 147) rw_171_147 (A := 8) (B := x1.toInt) rfl rfl (by omega) (fun v157 e158 => s_ial (pc := 148) rw_171_148 hG rfl (n := 16) rfl rfl (A := v157.toInt) rfl (by omega) (by omega) (lo := 0) (hi := 59) rfl rfl (fun v159 w_160 _ _ => ?_))))))
        have z_161 := PLr_r g14 3 82 rfl (by decide) (by decide) (k := x1.toInt) (by omega) (by omega) (by omega) w_160
        refine s_sub (pc := 149) rw_171_149 (A := v154.toInt) (B := v159.toInt) rfl rfl (by omega) (fun v162 e163 => b_cle (pc := 150) rw_171_150 (A := (N.2.1 77 9).toInt) (B := v162.toInt) rfl rfl (fun h164 => ?_) (fun h164 => ?_))
        · refine to_l (pc := 159) rw_171_159 rfl rfl rfl (to_an (pc := 161) rw_171_161 rfl (s_gR (pc := 162) rw_171_162 hG rfl (v := 82) rfl (to_c (pc := 165) rw_171_165 (x := (8 : Int32)) rfl rfl (to_in (pc := 167) rw_171_167 rfl (s_add (pc := 168) rw_171_168 (A := 8) (B := x1.toInt) rfl rfl (by omega) (fun v165 e166 => s_ial (pc := 169) rw_171_169 hG rfl (n := 16) rfl rfl (A := v165.toInt) rfl (by omega) (by omega) (lo := 0) (hi := 59) rfl rfl (fun v167 w_168 _ _ => ?_)))))))
          have z_169 := PLr_r g14 3 82 rfl (by decide) (by decide) (k := x1.toInt) (by omega) (by omega) (by omega) w_168
          refine to_an (pc := 170) rw_171_170 rfl (tt_gI (pc := 171) rw_171_171 (g_o hG rfl) (v := (N.2.1 77 9)) rfl ?_)
          have i_172 := i_of (x := (N.2.1 77 9))
          refine s_add (pc := 174) rw_171_174 (A := v167.toInt) (B := (N.2.1 77 9).toInt) rfl rfl (by omega) (fun v170 e171 => s_s (pc := 175) rw_171_175 (dp0 hd (by decide)) (ls0 := [.long y4, .null, .int v170]) rfl (Nat.le_of_ble_eq_true rfl) (Nat.le_of_ble_eq_true rfl) rfl (to_rcs rfl rfl) rfl (to_ln (pc := 0) rw_150_0 rfl rfl rfl (to_in (pc := 1) rw_150_1 rfl (to_2s (pc := 2) rw_150_2 (v := (y4 >>> (v170.toInt64 &&& 63))) rfl (to_cl (pc := 3) rw_150_3 rfl (x := (1 : Int64)) rfl (to_2l (pc := 4) rw_150_4 (v := ((y4 >>> (v170.toInt64 &&& 63)) &&& (1 : Int64))) rfl (to_cl (pc := 5) rw_150_5 rfl (x := (1 : Int64)) rfl (s_lcmpE (pc := 6) rw_150_6 (fun v173 e174 => ?_)))))))))
          have b_175 := x_eq_b (x := ((y4 >>> (v170.toInt64 &&& 63)) &&& (1 : Int64))) (y := (1 : Int64))
          have z_176 := x_hit_r (v := v170) (bits := y4) (h := x_row sg 3 x1.toInt + x_val t nn (N.2.1 77 10).toInt) (by omega) (by omega) (by omega)
          have z_177 := x_hit_b (bits := y4) (h := x_row sg 3 x1.toInt + x_val t nn (N.2.1 77 10).toInt)
          refine b_ine (pc := 7) rw_150_7 (A := v173.toInt) rfl (fun h178 => ?_) (fun h178 => ?_)
          · refine to_c (pc := 14) rw_150_14 (x := (0 : Int32)) rfl rfl (s_r1 (pc := 15) rw_150_15 (A := 0) rfl (by decide) (b_ieq_t (pc := 178) rw_171_178 (A := 0) rfl (by decide) (to_l (pc := 187) rw_171_187 rfl rfl rfl (to_cl (pc := 189) rw_171_189 rfl (x := (1 : Int64)) rfl (to_an (pc := 190) rw_171_190 rfl (s_gR (pc := 191) rw_171_191 hG rfl (v := 82) rfl (to_c (pc := 194) rw_171_194 (x := (8 : Int32)) rfl rfl (to_in (pc := 196) rw_171_196 rfl (s_add (pc := 197) rw_171_197 (A := 8) (B := x1.toInt) rfl rfl (by omega) (fun v179 e180 => s_ial (pc := 198) rw_171_198 hG rfl (n := 16) rfl rfl (A := v179.toInt) rfl (by omega) (by omega) (lo := 0) (hi := 59) rfl rfl (fun v181 w_182 _ _ => ?_)))))))))))
            have z_183 := PLr_r g14 3 82 rfl (by decide) (by decide) (k := x1.toInt) (by omega) (by omega) (by omega) w_182
            refine to_an (pc := 199) rw_171_199 rfl (tt_gI (pc := 200) rw_171_200 (g_o hG rfl) (v := (N.2.1 77 9)) rfl (s_add (pc := 203) rw_171_203 (A := v181.toInt) (B := (N.2.1 77 9).toInt) rfl rfl (by omega) (fun v184 e185 => to_2s (pc := 204) rw_171_204 (v := ((1 : Int64) <<< (v184.toInt64 &&& 63))) rfl (to_2l (pc := 205) rw_171_205 (v := (y4 ||| ((1 : Int64) <<< (v184.toInt64 &&& 63)))) rfl (to_ls (pc := 206) rw_171_206 (ls2 := [.ref 77, .int x1, .int x2, .int x3, .long (y4 ||| ((1 : Int64) <<< (v184.toInt64 &&& 63))), .null]) rfl rfl (s_inc (pc := 208) rw_171_208 (ls2 := fun v => [.ref 77, .int x1, .int x2, .int v, .long (y4 ||| ((1 : Int64) <<< (v184.toInt64 &&& 63))), .null]) rfl rfl (fun _ => rfl) (A := x3.toInt) (B := 1) rfl rfl (by omega) (fun v186 e187 => to_an (pc := 211) rw_171_211 rfl (s_v (pc := 212) rw_171_212 (dp0 hd (by decide)) (ls0 := [.ref 77]) rfl (Nat.le_of_ble_eq_true rfl) (Nat.le_of_ble_eq_true rfl) rfl (to_rc rfl rfl rfl (g_o hG rfl)) rfl ?_))))))))
            have b_188 := g_b hG (a := 77) (i := 7) (lo := 0) (hi := 500) rfl rfl
            have b_189 := g_b hG (a := 77) (i := 6) (lo := 0) (hi := 500) rfl rfl
            have z_190 := RS_b g11 (a := (N.2.1 77 10).toInt) (by omega)
            refine E_156 hX (dp1 hd (by decide)) hG (by omega) (by omega) (by omega) (by omega) g12 g13  (fun M197 hG192 F191 p_193 p_194 p_195 p_196 => ?_)
            have F198 := FR.c F0 F191 tg_58
            have b_199 := g_b hG192 (a := 77) (i := 7) (lo := 0) (hi := 500) rfl rfl
            have c_200 : M197.2.1 77 6 = (N.2.1 77 6) := (F_n F191 (show ¬ (77 = 77 ∧ 7 ≤ 6 ∧ 6 ≤ 10) by decide) rfl)
            have t_201 : (M197.2.1 77 6).toInt = (N.2.1 77 6).toInt := congrArg Int32.toInt c_200
            have b_202 := g_b hG192 (a := 77) (i := 8) (lo := 0) (hi := 5) rfl rfl
            have b_203 := g_b hG192 (a := 77) (i := 10) (lo := 0) (hi := 500) rfl rfl
            have z_204 := RS_s p_196.2 (a := (N.2.1 77 10).toInt) (by omega)
            refine to_go (pc := 215) rw_171_215 ?_
            have c_205 : M197.2.1 77 16 = (N.2.1 77 16) := (F_n F191 (show ¬ (77 = 77 ∧ 7 ≤ 16 ∧ 16 ≤ 10) by decide) rfl)
            have t_206 : (M197.2.1 77 16).toInt = (N.2.1 77 16).toInt := congrArg Int32.toInt c_205
            have j_207 := (TR_f (tg_42 F191) g12)
            have j_208 := (W9_f (tg_44 F191) g13)
            have j_209 := (PLr_f (tg_39 F191) (F_nl F191 (show ¬ (77 = 77 ∧ 7 ≤ 25 ∧ 25 ≤ 10) by decide) rfl) g14)
            have j_210 := (CWr_f (fun k hk9 => F_nl F191 (show ¬ (87 = 77 ∧ 7 ≤ (12 + k) ∧ (12 + k) ≤ 10) by omega) rfl) g15)
            exact ih M197 x1 x2 v186 (y4 ||| ((1 : Int64) <<< (v184.toInt64 &&& 63))) hG192 F198 (by omega) (by omega) (by omega) (by omega) (by omega) (by omega) (by omega) (by omega) (by omega) (by omega) p_196.1 j_207 j_208 j_209 j_210 (x_rc_s (fu := (6 - x3.toInt).toNat) (told := x3.toInt) (bits := y4) (b := (N.2.1 77 10).toInt) (by omega) (by omega) (by omega) (by omega) (by omega) (congrArg (fun z => y4 ||| z) (x_bit_e (v := v184) (by omega))) g16) (by omega)
          · refine to_c (pc := 10) rw_150_10 (x := (1 : Int32)) rfl rfl (to_go (pc := 11) rw_150_11 (s_r1 (pc := 15) rw_150_15 (A := 1) rfl (by decide) (b_ieq_f (pc := 178) rw_171_178 (A := 1) rfl (by decide) (to_an (pc := 181) rw_171_181 rfl (to_c (pc := 182) rw_171_182 (x := (3 : Int32)) rfl rfl (s_v (pc := 183) rw_171_183 (dp0 hd (by decide)) (ls0 := [.ref 77, .int (3 : Int32)]) rfl (Nat.le_of_ble_eq_true rfl) (Nat.le_of_ble_eq_true rfl) rfl (to_rc rfl rfl rfl (g_o hG rfl)) rfl (to_an (pc := 0) rw_152_0 rfl (to_in (pc := 1) rw_152_1 rfl (s_pI (pc := 2) rw_152_2 hG rfl (fun M212 W211 => ?_))))))))))
            have hG213 := g_wf hG W211 rfl rfl (by decide)
            have F214 := FR.w F0 W211 (show 77 = 77 ∧ (4 = 4 ∨ 4 = 5 ∨ 7 ≤ 4 ∧ 4 ≤ 10 ∨ 4 = 16) ∨ 85 ≤ 77 ∧ 77 ≤ 87 ∧ 12 ≤ 4 by decide)
            refine to_an (pc := 5) rw_152_5 rfl (to_an (pc := 6) rw_152_6 rfl ?_)
            have c_215 : M212.2.1 77 10 = (N.2.1 77 10) := (W_n W211 (by decide) rfl)
            refine tt_gI (pc := 7) rw_152_7 (g_o hG213 rfl) (v := (N.2.1 77 10)) c_215 (s_pI (pc := 10) rw_152_10 hG213 rfl (fun M217 W216 => ?_))
            have hG218 := g_wf hG213 W216 rfl rfl (by decide)
            have F219 := FR.w F214 W216 (show 77 = 77 ∧ (5 = 4 ∨ 5 = 5 ∨ 7 ≤ 5 ∧ 5 ≤ 10 ∨ 5 = 16) ∨ 85 ≤ 77 ∧ 77 ≤ 87 ∧ 12 ≤ 5 by decide)
            refine to_c (pc := 13) rw_152_13 (x := (0 : Int32)) rfl rfl (s_r1 (pc := 14) rw_152_14 (A := 0) rfl (by decide) (s_r1 (pc := 186) rw_171_186 (A := 0) rfl (by decide) ?_))
            have k_220 : (0 : Int32).toInt = 0 := rfl
            have j_221 := (RS_f (fun a i z => W_n W216 (tg_37 a i z) rfl) (RS_f (fun a i z => W_n W211 (tg_38 a i z) rfl) g11))
            exact h (0 : Int32) M217 hG218 F219 (by decide) (by decide) j_221 (fun _ => g16.symm.trans (by first | exact x_rc_n1 (by omega) (by omega) | exact x_rc_n2 (by omega) (by omega))) (fun z => absurd z (by decide))
        · refine to_an (pc := 153) rw_171_153 rfl (to_c (pc := 154) rw_171_154 (x := (2 : Int32)) rfl rfl (s_v (pc := 155) rw_171_155 (dp0 hd (by decide)) (ls0 := [.ref 77, .int (2 : Int32)]) rfl (Nat.le_of_ble_eq_true rfl) (Nat.le_of_ble_eq_true rfl) rfl (to_rc rfl rfl rfl (g_o hG rfl)) rfl (to_an (pc := 0) rw_152_0 rfl (to_in (pc := 1) rw_152_1 rfl (s_pI (pc := 2) rw_152_2 hG rfl (fun M223 W222 => ?_))))))
          have hG224 := g_wf hG W222 rfl rfl (by decide)
          have F225 := FR.w F0 W222 (show 77 = 77 ∧ (4 = 4 ∨ 4 = 5 ∨ 7 ≤ 4 ∧ 4 ≤ 10 ∨ 4 = 16) ∨ 85 ≤ 77 ∧ 77 ≤ 87 ∧ 12 ≤ 4 by decide)
          refine to_an (pc := 5) rw_152_5 rfl (to_an (pc := 6) rw_152_6 rfl ?_)
          have c_226 : M223.2.1 77 10 = (N.2.1 77 10) := (W_n W222 (by decide) rfl)
          refine tt_gI (pc := 7) rw_152_7 (g_o hG224 rfl) (v := (N.2.1 77 10)) c_226 (s_pI (pc := 10) rw_152_10 hG224 rfl (fun M228 W227 => ?_))
          have hG229 := g_wf hG224 W227 rfl rfl (by decide)
          have F230 := FR.w F225 W227 (show 77 = 77 ∧ (5 = 4 ∨ 5 = 5 ∨ 7 ≤ 5 ∧ 5 ≤ 10 ∨ 5 = 16) ∨ 85 ≤ 77 ∧ 77 ≤ 87 ∧ 12 ≤ 5 by decide)
          refine to_c (pc := 13) rw_152_13 (x := (0 : Int32)) rfl rfl (s_r1 (pc := 14) rw_152_14 (A := 0) rfl (by decide) (s_r1 (pc := 158) rw_171_158 (A := 0) rfl (by decide) ?_))
          have k_231 : (0 : Int32).toInt = 0 := rfl
          have j_232 := (RS_f (fun a i z => W_n W227 (tg_37 a i z) rfl) (RS_f (fun a i z => W_n W222 (tg_38 a i z) rfl) g11))
          exact h (0 : Int32) M228 hG229 F230 (by decide) (by decide) j_232 (fun _ => g16.symm.trans (by first | exact x_rc_n1 (by omega) (by omega) | exact x_rc_n2 (by omega) (by omega))) (fun z => absurd z (by decide))
set_option maxRecDepth 4000 in
set_option maxHeartbeats 0 in
theorem E_171 {X : mm_X} {d : Nat} {M : mm_M} {Q : Option Value → mm_M → Prop} {t : Nat → Int} {nn : Int} {a : Int} {sg : x_S} {k : x_K} (hX : g_X X) (hd : 3 ≤ d) (hG : g_G M) (q1 : RS M t nn) (q2 : (M.2.1 77 10).toInt = a) (q3 : 0 ≤ nn) (q4 : nn ≤ 500) (q5 : TR M t nn) (q6 : W9 M) (q7 : PLr M sg) (q8 : CWr M sg) (h : ∀ (r : Int32) (M1 : mm_M), g_G M1 → FR md_w171 M M1 → (0 ≤ r.toInt) → (r.toInt ≤ 1) → RS M1 t nn → ((r.toInt = 0 → x_word t nn sg (x_ns t nn a) k = none)) → ((r.toInt = 1 → WOr t nn (x_word t nn sg (x_ns t nn a) k) k M1 sg)) → Q (some (.int r)) M1) : mm_T X d 170 0 [.ref 77, .null, .null, .null, .null, .null] [] M Q := by
  have F0 : FR md_w171 M M := FR.rf
  have b_233 := g_b hG (a := 77) (i := 10) (lo := 0) (hi := 500) rfl rfl
  have z_234 := q7.2.1
  have z_235 := q7.2.2.1
  have z_236 := q7.2.2.2.1
  have z_237 := q7.1
  have z_238 := z_237.1
  have z_239 := z_237.2.1
  have z_240 := z_237.2.2.1
  have z_241 := z_237.2.2.2.1
  have z_242 := z_237.2.2.2.2.1
  have z_243 := z_237.2.2.2.2.2.1
  have b_244 := g_b hG (a := 77) (i := 14) (lo := 10) (hi := 60) rfl rfl
  have b_245 := g_b hG (a := 77) (i := 15) (lo := 0) (hi := 8) rfl rfl
  have b_246 := g_b hG (a := 77) (i := 16) (lo := 0) (hi := 12) rfl rfl
  have z_247 := x_fn_b (s := sg) (v := x_val t nn (x_ns t nn a)) q7.1
  refine to_an (pc := 0) rw_171_0 rfl (tt_gI (pc := 1) rw_171_1 (g_o hG rfl) (v := (M.2.1 77 16)) rfl (to_c (pc := 4) rw_171_4 (x := (12 : Int32)) rfl rfl (b_cne (pc := 6) rw_171_6 (A := (M.2.1 77 16).toInt) (B := 12) rfl rfl (fun h248 => ?_) (fun h248 => ?_))))
  · refine to_an (pc := 15) rw_171_15 rfl (s_v (pc := 16) rw_171_16 (dp0 hd (by decide)) (ls0 := [.ref 77]) rfl (Nat.le_of_ble_eq_true rfl) (Nat.le_of_ble_eq_true rfl) rfl (to_rc rfl rfl rfl (g_o hG rfl)) rfl ?_)
    have b_249 := g_b hG (a := 77) (i := 7) (lo := 0) (hi := 500) rfl rfl
    have b_250 := g_b hG (a := 77) (i := 6) (lo := 0) (hi := 500) rfl rfl
    have z_251 := RS_b q1 (a := a) (by omega)
    refine E_156 hX (dp1 hd (by decide)) hG (by omega) (by omega) (by omega) (by omega) q5 q6  (fun M258 hG253 F252 p_254 p_255 p_256 p_257 => ?_)
    have F259 := FR.c F0 F252 tg_58
    have b_260 := g_b hG253 (a := 77) (i := 7) (lo := 0) (hi := 500) rfl rfl
    have c_261 : M258.2.1 77 6 = (M.2.1 77 6) := (F_n F252 (show ¬ (77 = 77 ∧ 7 ≤ 6 ∧ 6 ≤ 10) by decide) rfl)
    have t_262 : (M258.2.1 77 6).toInt = (M.2.1 77 6).toInt := congrArg Int32.toInt c_261
    have b_263 := g_b hG253 (a := 77) (i := 8) (lo := 0) (hi := 5) rfl rfl
    have b_264 := g_b hG253 (a := 77) (i := 10) (lo := 0) (hi := 500) rfl rfl
    have z_265 := RS_s p_257.2 (a := a) (by omega)
    have c_266 := RS_u p_257.1 (a := (x_ns t nn a)) (by omega)
    unfold x_R at c_266
    refine to_an (pc := 19) rw_171_19 rfl (tt_gI (pc := 20) rw_171_20 (g_o hG253 rfl) (v := (M258.2.1 77 8)) rfl (to_c (pc := 23) rw_171_23 (x := (2 : Int32)) rfl rfl (b_ceq (pc := 24) rw_171_24 (A := (M258.2.1 77 8).toInt) (B := 2) rfl rfl (fun h267 => ?_) (fun h267 => ?_))))
    · refine to_an (pc := 33) rw_171_33 rfl (to_an (pc := 34) rw_171_34 rfl (tt_gI (pc := 35) rw_171_35 (g_o hG253 rfl) (v := (M258.2.1 77 9)) rfl (s_v (pc := 38) rw_171_38 (dp0 hd (by decide)) (ls0 := [.ref 77, .int (M258.2.1 77 9), .null]) rfl (Nat.le_of_ble_eq_true rfl) (Nat.le_of_ble_eq_true rfl) rfl (to_rc rfl rfl rfl (g_o hG253 rfl)) rfl ?_)))
      have j_268 := (PLr_f (tg_39 F252) (F_nl F252 (show ¬ (77 = 77 ∧ 7 ≤ 25 ∧ 25 ≤ 10) by decide) rfl) q7)
      refine E_166 hX (dp1 hd (by decide)) hG253 j_268 (n := (M258.2.1 77 9)) (sg := sg) (fun r269 M275 hG271 F270 p_272 p_273 p_274 => ?_)
      have F276 := FR.c F259 F270 tg_59
      have z_277 := x_fn_v (s := sg) (r := 1) (v := (M258.2.1 77 9).toInt) (w := x_val t nn (x_ns t nn a))
      refine to_isn (pc := 41) rw_171_41 (ls2 := [.ref 77, .int r269, .null, .null, .null, .null]) rfl rfl (to_in (pc := 42) rw_171_42 rfl (b_ilt (pc := 43) rw_171_43 (A := r269.toInt) rfl (fun h278 => ?_) (fun h278 => ?_)))
      · refine to_an (pc := 59) rw_171_59 rfl (to_c (pc := 60) rw_171_60 (x := (4 : Int32)) rfl rfl (s_v (pc := 61) rw_171_61 (dp0 hd (by decide)) (ls0 := [.ref 77, .int (4 : Int32)]) rfl (Nat.le_of_ble_eq_true rfl) (Nat.le_of_ble_eq_true rfl) rfl (to_rc rfl rfl rfl (g_o hG271 rfl)) rfl (to_an (pc := 0) rw_152_0 rfl (to_in (pc := 1) rw_152_1 rfl (s_pI (pc := 2) rw_152_2 hG271 rfl (fun M280 W279 => ?_))))))
        have hG281 := g_wf hG271 W279 rfl rfl (by decide)
        have F282 := FR.w F276 W279 (show 77 = 77 ∧ (4 = 4 ∨ 4 = 5 ∨ 7 ≤ 4 ∧ 4 ≤ 10 ∨ 4 = 16) ∨ 85 ≤ 77 ∧ 77 ≤ 87 ∧ 12 ≤ 4 by decide)
        refine to_an (pc := 5) rw_152_5 rfl (to_an (pc := 6) rw_152_6 rfl ?_)
        have c_283 : M280.2.1 77 10 = (M258.2.1 77 10) := (W_n W279 (by decide) (F_n F270 (show ¬ (77 < 0) by decide) rfl))
        refine tt_gI (pc := 7) rw_152_7 (g_o hG281 rfl) (v := (M258.2.1 77 10)) c_283 (s_pI (pc := 10) rw_152_10 hG281 rfl (fun M285 W284 => ?_))
        have hG286 := g_wf hG281 W284 rfl rfl (by decide)
        have F287 := FR.w F282 W284 (show 77 = 77 ∧ (5 = 4 ∨ 5 = 5 ∨ 7 ≤ 5 ∧ 5 ≤ 10 ∨ 5 = 16) ∨ 85 ≤ 77 ∧ 77 ≤ 87 ∧ 12 ≤ 5 by decide)
        refine to_c (pc := 13) rw_152_13 (x := (0 : Int32)) rfl rfl (s_r1 (pc := 14) rw_152_14 (A := 0) rfl (by decide) (s_r1 (pc := 64) rw_171_64 (A := 0) rfl (by decide) ?_))
        have k_288 : (0 : Int32).toInt = 0 := rfl
        have j_289 := (RS_f (fun a i z => W_n W284 (tg_37 a i z) rfl) (RS_f (fun a i z => W_n W279 (tg_38 a i z) rfl) (RS_f (tg_45 F270) p_257.1)))
        exact h (0 : Int32) M285 hG286 F287 (by decide) (by decide) j_289 (fun _ => x_word_n (by omega)) (fun z => absurd z (by decide))
      · refine to_an (pc := 46) rw_171_46 rfl (s_gR (pc := 47) rw_171_47 hG271 rfl (v := 81) rfl (to_c (pc := 50) rw_171_50 (x := (8 : Int32)) rfl rfl (to_in (pc := 52) rw_171_52 rfl (s_add (pc := 53) rw_171_53 (A := 8) (B := r269.toInt) rfl rfl (by omega) (fun v290 e291 => s_ial (pc := 54) rw_171_54 hG271 rfl (n := 16) rfl rfl (A := v290.toInt) rfl (by omega) (by omega) (lo := 0) (hi := 3) rfl rfl (fun v292 w_293 _ _ => ?_))))))
        have j_294 := (PLr_f (tg_47 F270) (F_nl F270 (show ¬ (77 < 0) by decide) rfl) j_268)
        have z_295 := PLr_r j_294 2 81 rfl (by decide) (by decide) (k := r269.toInt) (by omega) (by omega) (by omega) w_293
        have z_296 := x_row_v (s := sg) (r := 2) (x := r269.toInt) (y := x_fn sg 1 (x_val t nn (x_ns t nn a)))
        refine to_c (pc := 55) rw_171_55 (x := (3 : Int32)) rfl rfl (b_ceq (pc := 56) rw_171_56 (A := v292.toInt) (B := 3) rfl rfl (fun h297 => ?_) (fun h297 => ?_))
        · refine to_an (pc := 65) rw_171_65 rfl (s_v (pc := 66) rw_171_66 (dp0 hd (by decide)) (ls0 := [.ref 77]) rfl (Nat.le_of_ble_eq_true rfl) (Nat.le_of_ble_eq_true rfl) rfl (to_rc rfl rfl rfl (g_o hG271 rfl)) rfl ?_)
          have c_298 : M275.2.1 77 7 = (M258.2.1 77 7) := (F_n F270 (show ¬ (77 < 0) by decide) rfl)
          have t_299 : (M275.2.1 77 7).toInt = (M258.2.1 77 7).toInt := congrArg Int32.toInt c_298
          have c_300 : M275.2.1 77 6 = (M.2.1 77 6) := (F_n F270 (show ¬ (77 < 0) by decide) c_261)
          have t_301 : (M275.2.1 77 6).toInt = (M.2.1 77 6).toInt := congrArg Int32.toInt c_300
          have c_302 : M275.2.1 77 10 = (M258.2.1 77 10) := (F_n F270 (show ¬ (77 < 0) by decide) rfl)
          have t_303 : (M275.2.1 77 10).toInt = (M258.2.1 77 10).toInt := congrArg Int32.toInt c_302
          have j_304 := (RS_f (tg_45 F270) p_257.1)
          have z_305 := RS_b j_304 (a := (x_ns t nn a)) (by omega)
          have j_306 := (TR_f (tg_9 F270) (TR_f (tg_42 F252) q5))
          have j_307 := (W9_f (tg_46 F270) (W9_f (tg_44 F252) q6))
          refine E_156 hX (dp1 hd (by decide)) hG271 (by omega) (by omega) (by omega) (by omega) j_306 j_307  (fun M314 hG309 F308 p_310 p_311 p_312 p_313 => ?_)
          have F315 := FR.c F276 F308 tg_58
          have b_316 := g_b hG309 (a := 77) (i := 7) (lo := 0) (hi := 500) rfl rfl
          have c_317 : M314.2.1 77 6 = (M.2.1 77 6) := (F_n F308 (show ¬ (77 = 77 ∧ 7 ≤ 6 ∧ 6 ≤ 10) by decide) c_300)
          have t_318 : (M314.2.1 77 6).toInt = (M.2.1 77 6).toInt := congrArg Int32.toInt c_317
          have b_319 := g_b hG309 (a := 77) (i := 8) (lo := 0) (hi := 5) rfl rfl
          have b_320 := g_b hG309 (a := 77) (i := 10) (lo := 0) (hi := 500) rfl rfl
          have z_321 := RS_s p_313.2 (a := (x_ns t nn a)) (by omega)
          refine to_an (pc := 69) rw_171_69 rfl (s_v (pc := 70) rw_171_70 (dp0 hd (by decide)) (ls0 := [.ref 77]) rfl (Nat.le_of_ble_eq_true rfl) (Nat.le_of_ble_eq_true rfl) rfl (to_rc rfl rfl rfl (g_o hG309 rfl)) rfl ?_)
          have j_322 := (PLr_f (tg_39 F308) (F_nl F308 (show ¬ (77 = 77 ∧ 7 ≤ 25 ∧ 25 ≤ 10) by decide) rfl) j_294)
          refine E_169 hX (dp1 hd (by decide)) hG309 p_313.1 (by omega) j_322 (t := t) (nn := nn) (a := (x_ns t nn (x_ns t nn a))) (sg := sg) (fun r323 M331 hG325 F324 p_326 p_327 p_328 p_329 p_330 => ?_)
          have F332 := FR.c F315 F324 tg_60
          rcases (show r323.toInt = 0 ∨ r323.toInt = 1 by omega) with h333 | h333
          · skip
            have p_334 := p_330 (by omega)
            clear p_328 p_329 p_330
            refine b_ine_f (pc := 73) rw_171_73 (A := r323.toInt) rfl (by omega) (to_c (pc := 76) rw_171_76 (x := (0 : Int32)) rfl rfl (s_r1 (pc := 77) rw_171_77 (A := 0) rfl (by decide) ?_))
            have k_335 : (0 : Int32).toInt = 0 := rfl
            have j_336 := (RS_f (tg_40 F324) p_313.1)
            exact h (0 : Int32) M331 hG325 F332 (by decide) (by decide) j_336 (fun _ => x_word_n (by omega)) (fun z => absurd z (by decide))
          · skip
            have p_337 := p_328 (by omega)
            have p_338 := p_329 (by omega)
            clear p_328 p_329 p_330
            refine b_ine_t (pc := 73) rw_171_73 (A := r323.toInt) rfl (by omega) (to_an (pc := 78) rw_171_78 rfl ?_)
            have c_339 : M331.2.1 77 9 = (M314.2.1 77 9) := (F_n F324 (show ¬ (77 = 77 ∧ (9 = 4 ∨ 9 = 5)) by decide) rfl)
            refine tt_gI (pc := 79) rw_171_79 (g_o hG325 rfl) (v := (M314.2.1 77 9)) c_339 (to_isn (pc := 82) rw_171_82 (ls2 := [.ref 77, .int r269, .int (M314.2.1 77 9), .null, .null, .null]) rfl rfl (to_an (pc := 83) rw_171_83 rfl (s_v (pc := 84) rw_171_84 (dp0 hd (by decide)) (ls0 := [.ref 77]) rfl (Nat.le_of_ble_eq_true rfl) (Nat.le_of_ble_eq_true rfl) rfl (to_rc rfl rfl rfl (g_o hG325 rfl)) rfl ?_)))
            have c_340 : M331.2.1 77 7 = (M314.2.1 77 7) := (F_n F324 (show ¬ (77 = 77 ∧ (7 = 4 ∨ 7 = 5)) by decide) rfl)
            have t_341 : (M331.2.1 77 7).toInt = (M314.2.1 77 7).toInt := congrArg Int32.toInt c_340
            have c_342 : M331.2.1 77 6 = (M.2.1 77 6) := (F_n F324 (show ¬ (77 = 77 ∧ (6 = 4 ∨ 6 = 5)) by decide) c_317)
            have t_343 : (M331.2.1 77 6).toInt = (M.2.1 77 6).toInt := congrArg Int32.toInt c_342
            have c_344 : M331.2.1 77 10 = (M314.2.1 77 10) := (F_n F324 (show ¬ (77 = 77 ∧ (10 = 4 ∨ 10 = 5)) by decide) rfl)
            have t_345 : (M331.2.1 77 10).toInt = (M314.2.1 77 10).toInt := congrArg Int32.toInt c_344
            have j_346 := (RS_f (tg_40 F324) p_313.1)
            have z_347 := RS_b j_346 (a := (x_ns t nn (x_ns t nn a))) (by omega)
            have j_348 := (TR_f (tg_41 F324) (TR_f (tg_42 F308) j_306))
            have j_349 := (W9_f (tg_43 F324) (W9_f (tg_44 F308) j_307))
            refine E_156 hX (dp1 hd (by decide)) hG325 (by omega) (by omega) (by omega) (by omega) j_348 j_349  (fun M356 hG351 F350 p_352 p_353 p_354 p_355 => ?_)
            have F357 := FR.c F332 F350 tg_58
            have b_358 := g_b hG351 (a := 77) (i := 7) (lo := 0) (hi := 500) rfl rfl
            have c_359 : M356.2.1 77 6 = (M.2.1 77 6) := (F_n F350 (show ¬ (77 = 77 ∧ 7 ≤ 6 ∧ 6 ≤ 10) by decide) c_342)
            have t_360 : (M356.2.1 77 6).toInt = (M.2.1 77 6).toInt := congrArg Int32.toInt c_359
            have b_361 := g_b hG351 (a := 77) (i := 8) (lo := 0) (hi := 5) rfl rfl
            have b_362 := g_b hG351 (a := 77) (i := 10) (lo := 0) (hi := 500) rfl rfl
            have z_363 := RS_s p_355.2 (a := (x_ns t nn (x_ns t nn a))) (by omega)
            have c_364 := RS_u p_355.1 (a := (x_ns t nn (x_ns t nn (x_ns t nn a)))) (by omega)
            unfold x_R at c_364
            refine to_an (pc := 87) rw_171_87 rfl (tt_gI (pc := 88) rw_171_88 (g_o hG351 rfl) (v := (M356.2.1 77 8)) rfl (to_c (pc := 91) rw_171_91 (x := (3 : Int32)) rfl rfl (b_ceq (pc := 92) rw_171_92 (A := (M356.2.1 77 8).toInt) (B := 3) rfl rfl (fun h365 => ?_) (fun h365 => ?_))))
            · refine to_c (pc := 101) rw_171_101 (x := (0 : Int32)) rfl rfl (to_isn (pc := 102) rw_171_102 (ls2 := [.ref 77, .int r269, .int (M314.2.1 77 9), .int (0 : Int32), .null, .null]) rfl rfl (to_cl (pc := 103) rw_171_103 rfl (x := (0 : Int64)) rfl (to_ls (pc := 104) rw_171_104 (ls2 := [.ref 77, .int r269, .int (M314.2.1 77 9), .int (0 : Int32), .long (0 : Int64), .null]) rfl rfl ?_)))
              have k_366 : (0 : Int32).toInt = 0 := rfl
              have c_367 : M356.2.1 77 16 = (M.2.1 77 16) := (F_n F350 (show ¬ (77 = 77 ∧ 7 ≤ 16 ∧ 16 ≤ 10) by decide) (F_n F324 (show ¬ (77 = 77 ∧ (16 = 4 ∨ 16 = 5)) by decide) (F_n F308 (show ¬ (77 = 77 ∧ 7 ≤ 16 ∧ 16 ≤ 10) by decide) (F_n F270 (show ¬ (77 < 0) by decide) (F_n F252 (show ¬ (77 = 77 ∧ 7 ≤ 16 ∧ 16 ≤ 10) by decide) rfl)))))
              have t_368 : (M356.2.1 77 16).toInt = (M.2.1 77 16).toInt := congrArg Int32.toInt c_367
              have j_369 := (TR_f (tg_42 F350) j_348)
              have j_370 := (W9_f (tg_44 F350) j_349)
              have j_371 := (PLr_f (tg_39 F350) (F_nl F350 (show ¬ (77 = 77 ∧ 7 ≤ 25 ∧ 25 ≤ 10) by decide) rfl) (PLr_f (tg_48 F324) (F_nl F324 (show ¬ (77 = 77 ∧ (25 = 4 ∨ 25 = 5)) by decide) rfl) j_322))
              have j_372 := (CWr_f (fun k hk9 => F_nl F350 (show ¬ (87 = 77 ∧ 7 ≤ (12 + k) ∧ (12 + k) ≤ 10) by omega) rfl) (CWr_f (fun k hk9 => F_nl F324 (show ¬ (87 = 77 ∧ ((12 + k) = 4 ∨ (12 + k) = 5)) by omega) rfl) (CWr_f (fun k hk9 => F_nl F308 (show ¬ (87 = 77 ∧ 7 ≤ (12 + k) ∧ (12 + k) ≤ 10) by omega) rfl) (CWr_f (fun k hk9 => F_nl F270 (show ¬ (87 < 0) by decide) rfl) (CWr_f (fun k hk9 => F_nl F252 (show ¬ (87 = 77 ∧ 7 ≤ (12 + k) ∧ (12 + k) ≤ 10) by omega) rfl) q8)))))
              have z_373 := j_371.1.2.2.2.2.2.2.2 r269.toInt (by omega) (by omega)
              exact (U_171_0 (t := t) (nn := nn) (a := a) (sg := sg) (k := k) hX hd q1 q2 q3 q4 q5 q6 q7 q8 h ((10 - (0 : Int32).toInt).toNat + 1)) M356 r269 (M314.2.1 77 9) (0 : Int32) (0 : Int64) hG351 F357 (by omega) (by omega) (by omega) (by omega) (by omega) (by omega) (by omega) (by omega) (by omega) (by omega) p_355.1 j_369 j_370 j_371 j_372 (by rw [show (M314.2.1 77 9).toInt = x_val t nn (x_ns t nn (x_ns t nn a)) by omega, show (M356.2.1 77 10).toInt = (x_ns t nn (x_ns t nn (x_ns t nn a))) by omega]; exact (x_word_y (by omega) (by omega)).symm) (by omega)
            · refine to_an (pc := 95) rw_171_95 rfl (to_c (pc := 96) rw_171_96 (x := (1 : Int32)) rfl rfl (s_v (pc := 97) rw_171_97 (dp0 hd (by decide)) (ls0 := [.ref 77, .int (1 : Int32)]) rfl (Nat.le_of_ble_eq_true rfl) (Nat.le_of_ble_eq_true rfl) rfl (to_rc rfl rfl rfl (g_o hG351 rfl)) rfl (to_an (pc := 0) rw_152_0 rfl (to_in (pc := 1) rw_152_1 rfl (s_pI (pc := 2) rw_152_2 hG351 rfl (fun M375 W374 => ?_))))))
              have hG376 := g_wf hG351 W374 rfl rfl (by decide)
              have F377 := FR.w F357 W374 (show 77 = 77 ∧ (4 = 4 ∨ 4 = 5 ∨ 7 ≤ 4 ∧ 4 ≤ 10 ∨ 4 = 16) ∨ 85 ≤ 77 ∧ 77 ≤ 87 ∧ 12 ≤ 4 by decide)
              refine to_an (pc := 5) rw_152_5 rfl (to_an (pc := 6) rw_152_6 rfl ?_)
              have c_378 : M375.2.1 77 10 = (M356.2.1 77 10) := (W_n W374 (by decide) rfl)
              refine tt_gI (pc := 7) rw_152_7 (g_o hG376 rfl) (v := (M356.2.1 77 10)) c_378 (s_pI (pc := 10) rw_152_10 hG376 rfl (fun M380 W379 => ?_))
              have hG381 := g_wf hG376 W379 rfl rfl (by decide)
              have F382 := FR.w F377 W379 (show 77 = 77 ∧ (5 = 4 ∨ 5 = 5 ∨ 7 ≤ 5 ∧ 5 ≤ 10 ∨ 5 = 16) ∨ 85 ≤ 77 ∧ 77 ≤ 87 ∧ 12 ≤ 5 by decide)
              refine to_c (pc := 13) rw_152_13 (x := (0 : Int32)) rfl rfl (s_r1 (pc := 14) rw_152_14 (A := 0) rfl (by decide) (s_r1 (pc := 100) rw_171_100 (A := 0) rfl (by decide) ?_))
              have k_383 : (0 : Int32).toInt = 0 := rfl
              have j_384 := (RS_f (fun a i z => W_n W379 (tg_37 a i z) rfl) (RS_f (fun a i z => W_n W374 (tg_38 a i z) rfl) p_355.1))
              have z_385 := q7.1.2.2.2.2.2.2.2 r269.toInt (by omega) (by omega)
              exact h (0 : Int32) M380 hG381 F382 (by decide) (by decide) j_384 (fun _ => (x_word_y (f := r269.toInt) (by omega) (by omega)).trans (x_rc_n2 (by omega) (by omega))) (fun z => absurd z (by decide))
        · refine to_an (pc := 59) rw_171_59 rfl (to_c (pc := 60) rw_171_60 (x := (4 : Int32)) rfl rfl (s_v (pc := 61) rw_171_61 (dp0 hd (by decide)) (ls0 := [.ref 77, .int (4 : Int32)]) rfl (Nat.le_of_ble_eq_true rfl) (Nat.le_of_ble_eq_true rfl) rfl (to_rc rfl rfl rfl (g_o hG271 rfl)) rfl (to_an (pc := 0) rw_152_0 rfl (to_in (pc := 1) rw_152_1 rfl (s_pI (pc := 2) rw_152_2 hG271 rfl (fun M387 W386 => ?_))))))
          have hG388 := g_wf hG271 W386 rfl rfl (by decide)
          have F389 := FR.w F276 W386 (show 77 = 77 ∧ (4 = 4 ∨ 4 = 5 ∨ 7 ≤ 4 ∧ 4 ≤ 10 ∨ 4 = 16) ∨ 85 ≤ 77 ∧ 77 ≤ 87 ∧ 12 ≤ 4 by decide)
          refine to_an (pc := 5) rw_152_5 rfl (to_an (pc := 6) rw_152_6 rfl ?_)
          have c_390 : M387.2.1 77 10 = (M258.2.1 77 10) := (W_n W386 (by decide) (F_n F270 (show ¬ (77 < 0) by decide) rfl))
          refine tt_gI (pc := 7) rw_152_7 (g_o hG388 rfl) (v := (M258.2.1 77 10)) c_390 (s_pI (pc := 10) rw_152_10 hG388 rfl (fun M392 W391 => ?_))
          have hG393 := g_wf hG388 W391 rfl rfl (by decide)
          have F394 := FR.w F389 W391 (show 77 = 77 ∧ (5 = 4 ∨ 5 = 5 ∨ 7 ≤ 5 ∧ 5 ≤ 10 ∨ 5 = 16) ∨ 85 ≤ 77 ∧ 77 ≤ 87 ∧ 12 ≤ 5 by decide)
          refine to_c (pc := 13) rw_152_13 (x := (0 : Int32)) rfl rfl (s_r1 (pc := 14) rw_152_14 (A := 0) rfl (by decide) (s_r1 (pc := 64) rw_171_64 (A := 0) rfl (by decide) ?_))
          have k_395 : (0 : Int32).toInt = 0 := rfl
          have j_396 := (RS_f (fun a i z => W_n W391 (tg_37 a i z) rfl) (RS_f (fun a i z => W_n W386 (tg_38 a i z) rfl) (RS_f (tg_45 F270) p_257.1)))
          exact h (0 : Int32) M392 hG393 F394 (by decide) (by decide) j_396 (fun _ => x_word_n (by omega)) (fun z => absurd z (by decide))
    · refine to_an (pc := 27) rw_171_27 rfl (to_c (pc := 28) rw_171_28 (x := (1 : Int32)) rfl rfl (s_v (pc := 29) rw_171_29 (dp0 hd (by decide)) (ls0 := [.ref 77, .int (1 : Int32)]) rfl (Nat.le_of_ble_eq_true rfl) (Nat.le_of_ble_eq_true rfl) rfl (to_rc rfl rfl rfl (g_o hG253 rfl)) rfl (to_an (pc := 0) rw_152_0 rfl (to_in (pc := 1) rw_152_1 rfl (s_pI (pc := 2) rw_152_2 hG253 rfl (fun M398 W397 => ?_))))))
      have hG399 := g_wf hG253 W397 rfl rfl (by decide)
      have F400 := FR.w F259 W397 (show 77 = 77 ∧ (4 = 4 ∨ 4 = 5 ∨ 7 ≤ 4 ∧ 4 ≤ 10 ∨ 4 = 16) ∨ 85 ≤ 77 ∧ 77 ≤ 87 ∧ 12 ≤ 4 by decide)
      refine to_an (pc := 5) rw_152_5 rfl (to_an (pc := 6) rw_152_6 rfl ?_)
      have c_401 : M398.2.1 77 10 = (M258.2.1 77 10) := (W_n W397 (by decide) rfl)
      refine tt_gI (pc := 7) rw_152_7 (g_o hG399 rfl) (v := (M258.2.1 77 10)) c_401 (s_pI (pc := 10) rw_152_10 hG399 rfl (fun M403 W402 => ?_))
      have hG404 := g_wf hG399 W402 rfl rfl (by decide)
      have F405 := FR.w F400 W402 (show 77 = 77 ∧ (5 = 4 ∨ 5 = 5 ∨ 7 ≤ 5 ∧ 5 ≤ 10 ∨ 5 = 16) ∨ 85 ≤ 77 ∧ 77 ≤ 87 ∧ 12 ≤ 5 by decide)
      refine to_c (pc := 13) rw_152_13 (x := (0 : Int32)) rfl rfl (s_r1 (pc := 14) rw_152_14 (A := 0) rfl (by decide) (s_r1 (pc := 32) rw_171_32 (A := 0) rfl (by decide) ?_))
      have k_406 : (0 : Int32).toInt = 0 := rfl
      have j_407 := (RS_f (fun a i z => W_n W402 (tg_37 a i z) rfl) (RS_f (fun a i z => W_n W397 (tg_38 a i z) rfl) p_257.1))
      exact h (0 : Int32) M403 hG404 F405 (by decide) (by decide) j_407 (fun _ => x_word_n (by omega)) (fun z => absurd z (by decide))
  · refine to_an (pc := 9) rw_171_9 rfl (to_c (pc := 10) rw_171_10 (x := (2 : Int32)) rfl rfl (s_v (pc := 11) rw_171_11 (dp0 hd (by decide)) (ls0 := [.ref 77, .int (2 : Int32)]) rfl (Nat.le_of_ble_eq_true rfl) (Nat.le_of_ble_eq_true rfl) rfl (to_rc rfl rfl rfl (g_o hG rfl)) rfl (to_an (pc := 0) rw_152_0 rfl (to_in (pc := 1) rw_152_1 rfl (s_pI (pc := 2) rw_152_2 hG rfl (fun M409 W408 => ?_))))))
    have hG410 := g_wf hG W408 rfl rfl (by decide)
    have F411 := FR.w F0 W408 (show 77 = 77 ∧ (4 = 4 ∨ 4 = 5 ∨ 7 ≤ 4 ∧ 4 ≤ 10 ∨ 4 = 16) ∨ 85 ≤ 77 ∧ 77 ≤ 87 ∧ 12 ≤ 4 by decide)
    refine to_an (pc := 5) rw_152_5 rfl (to_an (pc := 6) rw_152_6 rfl ?_)
    have c_412 : M409.2.1 77 10 = (M.2.1 77 10) := (W_n W408 (by decide) rfl)
    refine tt_gI (pc := 7) rw_152_7 (g_o hG410 rfl) (v := (M.2.1 77 10)) c_412 (s_pI (pc := 10) rw_152_10 hG410 rfl (fun M414 W413 => ?_))
    have hG415 := g_wf hG410 W413 rfl rfl (by decide)
    have F416 := FR.w F411 W413 (show 77 = 77 ∧ (5 = 4 ∨ 5 = 5 ∨ 7 ≤ 5 ∧ 5 ≤ 10 ∨ 5 = 16) ∨ 85 ≤ 77 ∧ 77 ≤ 87 ∧ 12 ≤ 5 by decide)
    refine to_c (pc := 13) rw_152_13 (x := (0 : Int32)) rfl rfl (s_r1 (pc := 14) rw_152_14 (A := 0) rfl (by decide) (s_r1 (pc := 14) rw_171_14 (A := 0) rfl (by decide) ?_))
    have k_417 : (0 : Int32).toInt = 0 := rfl
    have j_418 := (RS_f (fun a i z => W_n W413 (tg_37 a i z) rfl) (RS_f (fun a i z => W_n W408 (tg_38 a i z) rfl) q1))
    exact h (0 : Int32) M414 hG415 F416 (by decide) (by decide) j_418 (fun _ => x_word_n (by omega)) (fun z => absurd z (by decide))
end
section
theorem tg_64 {M M1 : mm_M} (F : FR (fun a i : Nat => a = 77 ∧ (i = 4 ∨ i = 5 ∨ 7 ≤ i ∧ i ≤ 10 ∨ i = 16) ∨ 85 ≤ a ∧ a ≤ 87 ∧ 12 ≤ i) M M1) : ∀ a i : Nat, a = 78 → M1.2.1 a i = M.2.1 a i := fun a i z => F_n F (show ¬ (a = 77 ∧ (i = 4 ∨ i = 5 ∨ 7 ≤ i ∧ i ≤ 10 ∨ i = 16) ∨ 85 ≤ a ∧ a ≤ 87 ∧ 12 ≤ i) by omega) rfl
theorem tg_65 {M M1 : mm_M} (F : FR (fun a i : Nat => a = 77 ∧ (i = 4 ∨ i = 5 ∨ 7 ≤ i ∧ i ≤ 10 ∨ i = 16) ∨ 85 ≤ a ∧ a ≤ 87 ∧ 12 ≤ i) M M1) : ∀ a i : Nat, a = 79 → M1.2.1 a i = M.2.1 a i := fun a i z => F_n F (show ¬ (a = 77 ∧ (i = 4 ∨ i = 5 ∨ 7 ≤ i ∧ i ≤ 10 ∨ i = 16) ∨ 85 ≤ a ∧ a ≤ 87 ∧ 12 ≤ i) by omega) rfl
theorem tg_66 {M M1 : mm_M} (F : FR (fun a i : Nat => a = 77 ∧ (i = 4 ∨ i = 5 ∨ 7 ≤ i ∧ i ≤ 10 ∨ i = 15 ∨ i = 25) ∨ 80 ≤ a ∧ a ≤ 84 ∧ 8 ≤ i) M M1) : ∀ a i : Nat, a = 78 → M1.2.1 a i = M.2.1 a i := fun a i z => F_n F (show ¬ (a = 77 ∧ (i = 4 ∨ i = 5 ∨ 7 ≤ i ∧ i ≤ 10 ∨ i = 15 ∨ i = 25) ∨ 80 ≤ a ∧ a ≤ 84 ∧ 8 ≤ i) by omega) rfl
theorem tg_67 {M M1 : mm_M} (F : FR (fun a i : Nat => a = 77 ∧ (i = 4 ∨ i = 5 ∨ 7 ≤ i ∧ i ≤ 10 ∨ i = 15 ∨ i = 25) ∨ 80 ≤ a ∧ a ≤ 84 ∧ 8 ≤ i) M M1) : ∀ a i : Nat, a = 79 → M1.2.1 a i = M.2.1 a i := fun a i z => F_n F (show ¬ (a = 77 ∧ (i = 4 ∨ i = 5 ∨ 7 ≤ i ∧ i ≤ 10 ∨ i = 15 ∨ i = 25) ∨ 80 ≤ a ∧ a ≤ 84 ∧ 8 ≤ i) by omega) rfl
theorem tg_68 {M M1 : mm_M} {s : x_S} (F : FR (fun a i : Nat => a = 77 ∧ (i = 4 ∨ i = 5 ∨ 7 ≤ i ∧ i ≤ 10)) M M1) : ∀ a i : Nat, (a = 77 ∧ 14 ≤ i ∧ i ≤ 16 ∨ 80 ≤ a ∧ a ≤ 84 ∧ 8 ≤ i ∧ (i : Int) < s.2.1 + 8 ∨ 85 ≤ a ∧ a ≤ 86 ∧ 12 ≤ i ∧ (i : Int) < s.2.2.1 + 12) → M1.2.1 a i = M.2.1 a i := fun a i z => F_n F (show ¬ (a = 77 ∧ (i = 4 ∨ i = 5 ∨ 7 ≤ i ∧ i ≤ 10)) by omega) rfl
theorem tg_69 {M M1 : mm_M} (F : FR (fun a i : Nat => a = 77 ∧ (i = 4 ∨ i = 5 ∨ 7 ≤ i ∧ i ≤ 10 ∨ 14 ≤ i ∧ i ≤ 16 ∨ i = 25) ∨ 80 ≤ a ∧ a ≤ 84 ∧ 8 ≤ i ∨ 85 ≤ a ∧ a ≤ 87 ∧ 12 ≤ i) M M1) : ∀ a i : Nat, a = 78 → M1.2.1 a i = M.2.1 a i := fun a i z => F_n F (show ¬ (a = 77 ∧ (i = 4 ∨ i = 5 ∨ 7 ≤ i ∧ i ≤ 10 ∨ 14 ≤ i ∧ i ≤ 16 ∨ i = 25) ∨ 80 ≤ a ∧ a ≤ 84 ∧ 8 ≤ i ∨ 85 ≤ a ∧ a ≤ 87 ∧ 12 ≤ i) by omega) rfl
theorem tg_70 {M M1 : mm_M} (F : FR (fun a i : Nat => a = 77 ∧ (i = 4 ∨ i = 5 ∨ 7 ≤ i ∧ i ≤ 10 ∨ 14 ≤ i ∧ i ≤ 16 ∨ i = 25) ∨ 80 ≤ a ∧ a ≤ 84 ∧ 8 ≤ i ∨ 85 ≤ a ∧ a ≤ 87 ∧ 12 ≤ i) M M1) : ∀ a i : Nat, a = 79 → M1.2.1 a i = M.2.1 a i := fun a i z => F_n F (show ¬ (a = 77 ∧ (i = 4 ∨ i = 5 ∨ 7 ≤ i ∧ i ≤ 10 ∨ 14 ≤ i ∧ i ≤ 16 ∨ i = 25) ∨ 80 ≤ a ∧ a ≤ 84 ∧ 8 ≤ i ∨ 85 ≤ a ∧ a ≤ 87 ∧ 12 ≤ i) by omega) rfl
theorem tg_71 {M M1 : mm_M} (F : FR (fun a i : Nat => a = 77 ∧ (14 ≤ i ∧ i ≤ 16 ∨ i = 25)) M M1) : ∀ a i : Nat, (a = 77 ∧ 6 ≤ i ∧ i ≤ 10) → M1.2.1 a i = M.2.1 a i := fun a i z => F_n F (show ¬ (a = 77 ∧ (14 ≤ i ∧ i ≤ 16 ∨ i = 25)) by omega) rfl
theorem tg_72 {M M1 : mm_M} (F : FR (fun a i : Nat => a = 77 ∧ (14 ≤ i ∧ i ≤ 16 ∨ i = 25)) M M1) : ∀ a i : Nat, a = 78 → M1.2.1 a i = M.2.1 a i := fun a i z => F_n F (show ¬ (a = 77 ∧ (14 ≤ i ∧ i ≤ 16 ∨ i = 25)) by omega) rfl
theorem tg_73 {M M1 : mm_M} (F : FR (fun a i : Nat => a = 77 ∧ (i = 1 ∨ 4 ≤ i ∧ i ≤ 10)) M M1) : ∀ a i : Nat, a = 78 → M1.2.1 a i = M.2.1 a i := fun a i z => F_n F (show ¬ (a = 77 ∧ (i = 1 ∨ 4 ≤ i ∧ i ≤ 10)) by omega) rfl
theorem tg_74 {M M1 : mm_M} (F : FR (fun a i : Nat => a = 77 ∧ (14 ≤ i ∧ i ≤ 16 ∨ i = 25)) M M1) : ∀ a i : Nat, a = 79 → M1.2.1 a i = M.2.1 a i := fun a i z => F_n F (show ¬ (a = 77 ∧ (14 ≤ i ∧ i ≤ 16 ∨ i = 25)) by omega) rfl
theorem tg_75 {M M1 : mm_M} (F : FR (fun a i : Nat => a = 77 ∧ (i = 1 ∨ 4 ≤ i ∧ i ≤ 10)) M M1) : ∀ a i : Nat, a = 79 → M1.2.1 a i = M.2.1 a i := fun a i z => F_n F (show ¬ (a = 77 ∧ (i = 1 ∨ 4 ≤ i ∧ i ≤ 10)) by omega) rfl
theorem tg_76 : ∀ a i : Nat, (a = 77 ∧ (i = 4 ∨ i = 5 ∨ 7 ≤ i ∧ i ≤ 10 ∨ i = 16) ∨ 85 ≤ a ∧ a ≤ 87 ∧ 12 ≤ i) → (a = 77 ∧ (i = 4 ∨ i = 5 ∨ 7 ≤ i ∧ i ≤ 10 ∨ 14 ≤ i ∧ i ≤ 16 ∨ i = 25) ∨ 80 ≤ a ∧ a ≤ 84 ∧ 8 ≤ i ∨ 85 ≤ a ∧ a ≤ 87 ∧ 12 ≤ i) := fun a i z => by omega
theorem tg_77 : ∀ a i : Nat, (a = 77 ∧ (i = 4 ∨ i = 5 ∨ 7 ≤ i ∧ i ≤ 10)) → (a = 77 ∧ (i = 4 ∨ i = 5 ∨ 7 ≤ i ∧ i ≤ 10 ∨ 14 ≤ i ∧ i ≤ 16 ∨ i = 25) ∨ 80 ≤ a ∧ a ≤ 84 ∧ 8 ≤ i ∨ 85 ≤ a ∧ a ≤ 87 ∧ 12 ≤ i) := fun a i z => by omega
theorem tg_78 : ∀ a i : Nat, (a = 77 ∧ (i = 4 ∨ i = 5 ∨ 7 ≤ i ∧ i ≤ 10 ∨ i = 15 ∨ i = 25) ∨ 80 ≤ a ∧ a ≤ 84 ∧ 8 ≤ i) → (a = 77 ∧ (i = 4 ∨ i = 5 ∨ 7 ≤ i ∧ i ≤ 10 ∨ 14 ≤ i ∧ i ≤ 16 ∨ i = 25) ∨ 80 ≤ a ∧ a ≤ 84 ∧ 8 ≤ i ∨ 85 ≤ a ∧ a ≤ 87 ∧ 12 ≤ i) := fun a i z => by omega
theorem tg_79 : ∀ a i : Nat, (a = 77 ∧ 7 ≤ i ∧ i ≤ 10) → (a = 77 ∧ (i = 4 ∨ i = 5 ∨ 7 ≤ i ∧ i ≤ 10 ∨ 14 ≤ i ∧ i ≤ 16 ∨ i = 25) ∨ 80 ≤ a ∧ a ≤ 84 ∧ 8 ≤ i ∨ 85 ≤ a ∧ a ≤ 87 ∧ 12 ≤ i) := fun a i z => by omega
theorem tg_80 : ∀ a i : Nat, (a = 77 ∧ (i = 4 ∨ i = 5)) → (a = 77 ∧ (i = 4 ∨ i = 5 ∨ 7 ≤ i ∧ i ≤ 10 ∨ 14 ≤ i ∧ i ≤ 16 ∨ i = 25) ∨ 80 ≤ a ∧ a ≤ 84 ∧ 8 ≤ i ∨ 85 ≤ a ∧ a ≤ 87 ∧ 12 ≤ i) := fun a i z => by omega
theorem tg_81 : ∀ a i : Nat, (a = 77 ∧ (11 ≤ i ∧ i ≤ 13 ∨ i = 28 ∨ i = 29 ∨ i = 41 ∨ i = 57 ∨ i = 58) ∨ 80 ≤ a ∧ a ≤ 87 ∨ a = 100) → (a = 77 ∨ 79 < a ∧ a ≤ 87 ∨ a = 100) := fun a i z => by omega
theorem tg_82 : ∀ a i : Nat, (a = 77 ∧ (i = 4 ∨ i = 5 ∨ 7 ≤ i ∧ i ≤ 10 ∨ 14 ≤ i ∧ i ≤ 16 ∨ i = 25) ∨ 80 ≤ a ∧ a ≤ 84 ∧ 8 ≤ i ∨ 85 ≤ a ∧ a ≤ 87 ∧ 12 ≤ i) → (a = 77 ∨ 79 < a ∧ a ≤ 87 ∨ a = 100) := fun a i z => by omega
theorem tg_83 : ∀ a i : Nat, (a = 77 ∧ (i = 1 ∨ 4 ≤ i ∧ i ≤ 10)) → (a = 77 ∨ 79 < a ∧ a ≤ 87 ∨ a = 100) := fun a i z => by omega
theorem tg_84 : ∀ a i : Nat, (a = 77 ∧ (14 ≤ i ∧ i ≤ 16 ∨ i = 25)) → (a = 77 ∨ 79 < a ∧ a ≤ 87 ∨ a = 100) := fun a i z => by omega
theorem tg_85 : ∀ a i : Nat, (a = 77 ∧ 6 ≤ i ∧ i ≤ 10) → ¬ (a = 77 ∧ i = 14) := fun a i z => by omega
theorem tg_86 : ∀ a i : Nat, a = 78 → ¬ (a = 77 ∧ i = 14) := fun a i z => by omega
theorem tg_87 : ∀ a i : Nat, a = 79 → ¬ (a = 77 ∧ i = 14) := fun a i z => by omega
theorem tg_88 : ∀ a i : Nat, a = 78 → ¬ (a = 77 ∧ i = 2) := fun a i z => by omega
theorem tg_89 : ∀ a i : Nat, a = 79 → ¬ (a = 77 ∧ i = 2) := fun a i z => by omega
set_option maxRecDepth 4000 in
set_option maxHeartbeats 0 in
theorem E_172 {X : mm_X} {d : Nat} {M : mm_M} {Q : Option Value → mm_M → Prop} {x : Int32} {t : Nat → Int} {nn : Int} {a : Int} {sg : x_S} {L : Int} {fu : Nat} (hX : g_X X) (hd : 4 ≤ d) (hG : g_G M) (q1 : RS M t nn) (q2 : (M.2.1 77 10).toInt = a) (q3 : 0 ≤ nn) (q4 : nn ≤ 500) (q5 : TR M t nn) (q6 : W9 M) (q7 : PLr M sg) (q8 : CWr M sg) (q9 : 0 ≤ x.toInt) (q10 : x.toInt ≤ 1) (q11 : 0 ≤ L) (q12 : x.toInt = 1 → L = 0) (q13 : x.toInt = 0 → 0 < L) (h : ∀ (r : Int32) (M1 : mm_M), g_G M1 → FR md_l172 M M1 → (0 ≤ r.toInt) → (r.toInt ≤ 1) → RS M1 t nn → ((r.toInt = 0 → x_line t nn L sg a (x_kk t nn fu L) = none)) → ((r.toInt = 1 → LOr t nn (x_line t nn L sg a (x_kk t nn fu L)) fu L M1 sg)) → Q (some (.int r)) M1) : mm_T X d 171 0 [.ref 77, .int x] [] M Q := by
  have F0 : FR md_l172 M M := FR.rf
  have b_1 := g_b hG (a := 77) (i := 10) (lo := 0) (hi := 500) rfl rfl
  have z_2 := q7.2.1
  have z_3 := q7.2.2.1
  have z_4 := q7.2.2.2.1
  have z_5 := q7.1
  have z_6 := z_5.1
  have z_7 := z_5.2.1
  have z_8 := z_5.2.2.1
  have z_9 := z_5.2.2.2.1
  have z_10 := z_5.2.2.2.2.1
  have z_11 := z_5.2.2.2.2.2.1
  have b_12 := g_b hG (a := 77) (i := 14) (lo := 10) (hi := 60) rfl rfl
  have b_13 := g_b hG (a := 77) (i := 15) (lo := 0) (hi := 8) rfl rfl
  have b_14 := g_b hG (a := 77) (i := 16) (lo := 0) (hi := 12) rfl rfl
  have b_15 := g_b hG (a := 77) (i := 8) (lo := 0) (hi := 5) rfl rfl
  have c_16 := RS_u q1 (a := a) (by omega)
  unfold x_R at c_16
  refine to_an (pc := 0) rw_172_0 rfl (tt_gI (pc := 1) rw_172_1 (g_o hG rfl) (v := (M.2.1 77 8)) rfl (to_c (pc := 4) rw_172_4 (x := (1 : Int32)) rfl rfl (b_cne (pc := 5) rw_172_5 (A := (M.2.1 77 8).toInt) (B := 1) rfl rfl (fun h17 => ?_) (fun h17 => ?_))))
  · refine to_an (pc := 27) rw_172_27 rfl (to_c (pc := 28) rw_172_28 (x := (1 : Int32)) rfl rfl (s_v (pc := 29) rw_172_29 (dp0 hd (by decide)) (ls0 := [.ref 77, .int (1 : Int32)]) rfl (Nat.le_of_ble_eq_true rfl) (Nat.le_of_ble_eq_true rfl) rfl (to_rc rfl rfl rfl (g_o hG rfl)) rfl (to_an (pc := 0) rw_152_0 rfl (to_in (pc := 1) rw_152_1 rfl (s_pI (pc := 2) rw_152_2 hG rfl (fun M19 W18 => ?_))))))
    have hG20 := g_wf hG W18 rfl rfl (by decide)
    have F21 := FR.w F0 W18 (show 77 = 77 ∧ (4 = 4 ∨ 4 = 5 ∨ 7 ≤ 4 ∧ 4 ≤ 10 ∨ 14 ≤ 4 ∧ 4 ≤ 16 ∨ 4 = 25) ∨ 80 ≤ 77 ∧ 77 ≤ 84 ∧ 8 ≤ 4 ∨ 85 ≤ 77 ∧ 77 ≤ 87 ∧ 12 ≤ 4 by decide)
    refine to_an (pc := 5) rw_152_5 rfl (to_an (pc := 6) rw_152_6 rfl ?_)
    have c_22 : M19.2.1 77 10 = (M.2.1 77 10) := (W_n W18 (by decide) rfl)
    refine tt_gI (pc := 7) rw_152_7 (g_o hG20 rfl) (v := (M.2.1 77 10)) c_22 (s_pI (pc := 10) rw_152_10 hG20 rfl (fun M24 W23 => ?_))
    have hG25 := g_wf hG20 W23 rfl rfl (by decide)
    have F26 := FR.w F21 W23 (show 77 = 77 ∧ (5 = 4 ∨ 5 = 5 ∨ 7 ≤ 5 ∧ 5 ≤ 10 ∨ 14 ≤ 5 ∧ 5 ≤ 16 ∨ 5 = 25) ∨ 80 ≤ 77 ∧ 77 ≤ 84 ∧ 8 ≤ 5 ∨ 85 ≤ 77 ∧ 77 ≤ 87 ∧ 12 ≤ 5 by decide)
    refine to_c (pc := 13) rw_152_13 (x := (0 : Int32)) rfl rfl (s_r1 (pc := 14) rw_152_14 (A := 0) rfl (by decide) (s_r1 (pc := 32) rw_172_32 (A := 0) rfl (by decide) ?_))
    have k_27 : (0 : Int32).toInt = 0 := rfl
    have j_28 := (RS_f (fun a i z => W_n W23 (tg_37 a i z) rfl) (RS_f (fun a i z => W_n W18 (tg_38 a i z) rfl) q1))
    exact h (0 : Int32) M24 hG25 F26 (by decide) (by decide) j_28 (fun _ => by first | exact x_line_n (by omega) | exact x_line_t (by omega) (by omega) | exact (if g9 : x_kind t nn a = 1 then x_line_t (by omega) (by omega) else x_line_n (by omega)) | exact (x_line_h (by omega) (by omega) (by omega)).trans (x_holes_n (by omega))) (fun z => by exfalso; omega)
  · refine to_an (pc := 8) rw_172_8 rfl (tt_gI (pc := 9) rw_172_9 (g_o hG rfl) (v := (M.2.1 77 9)) rfl (to_c (pc := 12) rw_172_12 (x := (2 : Int32)) rfl rfl (b_cgt (pc := 13) rw_172_13 (A := (M.2.1 77 9).toInt) (B := 2) rfl rfl (fun h29 => ?_) (fun h29 => ?_))))
    · refine to_an (pc := 27) rw_172_27 rfl (to_c (pc := 28) rw_172_28 (x := (1 : Int32)) rfl rfl (s_v (pc := 29) rw_172_29 (dp0 hd (by decide)) (ls0 := [.ref 77, .int (1 : Int32)]) rfl (Nat.le_of_ble_eq_true rfl) (Nat.le_of_ble_eq_true rfl) rfl (to_rc rfl rfl rfl (g_o hG rfl)) rfl (to_an (pc := 0) rw_152_0 rfl (to_in (pc := 1) rw_152_1 rfl (s_pI (pc := 2) rw_152_2 hG rfl (fun M31 W30 => ?_))))))
      have hG32 := g_wf hG W30 rfl rfl (by decide)
      have F33 := FR.w F0 W30 (show 77 = 77 ∧ (4 = 4 ∨ 4 = 5 ∨ 7 ≤ 4 ∧ 4 ≤ 10 ∨ 14 ≤ 4 ∧ 4 ≤ 16 ∨ 4 = 25) ∨ 80 ≤ 77 ∧ 77 ≤ 84 ∧ 8 ≤ 4 ∨ 85 ≤ 77 ∧ 77 ≤ 87 ∧ 12 ≤ 4 by decide)
      refine to_an (pc := 5) rw_152_5 rfl (to_an (pc := 6) rw_152_6 rfl ?_)
      have c_34 : M31.2.1 77 10 = (M.2.1 77 10) := (W_n W30 (by decide) rfl)
      refine tt_gI (pc := 7) rw_152_7 (g_o hG32 rfl) (v := (M.2.1 77 10)) c_34 (s_pI (pc := 10) rw_152_10 hG32 rfl (fun M36 W35 => ?_))
      have hG37 := g_wf hG32 W35 rfl rfl (by decide)
      have F38 := FR.w F33 W35 (show 77 = 77 ∧ (5 = 4 ∨ 5 = 5 ∨ 7 ≤ 5 ∧ 5 ≤ 10 ∨ 14 ≤ 5 ∧ 5 ≤ 16 ∨ 5 = 25) ∨ 80 ≤ 77 ∧ 77 ≤ 84 ∧ 8 ≤ 5 ∨ 85 ≤ 77 ∧ 77 ≤ 87 ∧ 12 ≤ 5 by decide)
      refine to_c (pc := 13) rw_152_13 (x := (0 : Int32)) rfl rfl (s_r1 (pc := 14) rw_152_14 (A := 0) rfl (by decide) (s_r1 (pc := 32) rw_172_32 (A := 0) rfl (by decide) ?_))
      have k_39 : (0 : Int32).toInt = 0 := rfl
      have j_40 := (RS_f (fun a i z => W_n W35 (tg_37 a i z) rfl) (RS_f (fun a i z => W_n W30 (tg_38 a i z) rfl) q1))
      exact h (0 : Int32) M36 hG37 F38 (by decide) (by decide) j_40 (fun _ => by first | exact x_line_n (by omega) | exact x_line_t (by omega) (by omega) | exact (if g9 : x_kind t nn a = 1 then x_line_t (by omega) (by omega) else x_line_n (by omega)) | exact (x_line_h (by omega) (by omega) (by omega)).trans (x_holes_n (by omega))) (fun z => by exfalso; omega)
    · refine to_in (pc := 16) rw_172_16 rfl (b_ieq (pc := 17) rw_172_17 (A := x.toInt) rfl (fun h41 => ?_) (fun h41 => ?_))
      · refine to_an (pc := 33) rw_172_33 rfl (tt_gI (pc := 34) rw_172_34 (g_o hG rfl) (v := (M.2.1 77 9)) rfl (b_ine (pc := 37) rw_172_37 (A := (M.2.1 77 9).toInt) rfl (fun h42 => ?_) (fun h42 => ?_)))
        · refine to_an (pc := 82) rw_172_82 rfl (tt_gI (pc := 83) rw_172_83 (g_o hG rfl) (v := (M.2.1 77 9)) rfl (to_c (pc := 86) rw_172_86 (x := (1 : Int32)) rfl rfl (b_cne (pc := 87) rw_172_87 (A := (M.2.1 77 9).toInt) (B := 1) rfl rfl (fun h43 => ?_) (fun h43 => ?_))))
          · refine to_an (pc := 100) rw_172_100 rfl (s_v (pc := 101) rw_172_101 (dp0 hd (by decide)) (ls0 := [.ref 77, .null, .null, .null, .null, .null]) rfl (Nat.le_of_ble_eq_true rfl) (Nat.le_of_ble_eq_true rfl) rfl (to_rc rfl rfl rfl (g_o hG rfl)) rfl (E_171 hX (dp1 hd (by decide)) hG q1 (by omega) (by omega) (by omega) q5 q6 q7 q8 (t := t) (nn := nn) (a := a) (sg := sg) (k := (x_kk t nn fu L)) (fun r44 M52 hG46 F45 p_47 p_48 p_49 p_50 p_51 => ?_)))
            have F53 := FR.c F0 F45 tg_76
            rcases (show r44.toInt = 0 ∨ r44.toInt = 1 by omega) with h54 | h54
            · skip
              have p_55 := p_50 (by omega)
              clear p_50 p_51
              have b_56 := g_b hG46 (a := 77) (i := 10) (lo := 0) (hi := 500) rfl rfl
              have z_57 : x_line t nn L sg a (x_kk t nn fu L) = x_word t nn sg (x_ns t nn a) (x_kk t nn fu L) := x_line_w (by omega) (by omega) (by omega)
              refine b_ine_f (pc := 104) rw_172_104 (A := r44.toInt) rfl (by omega) (to_c (pc := 107) rw_172_107 (x := (0 : Int32)) rfl rfl (s_r1 (pc := 108) rw_172_108 (A := 0) rfl (by decide) ?_))
              have k_58 : (0 : Int32).toInt = 0 := rfl
              exact h (0 : Int32) M52 hG46 F53 (by decide) (by decide) p_49 (fun _ => z_57.trans p_55) (fun z => by exfalso; omega)
            · skip
              have p_59 := p_51 (by omega)
              clear p_50 p_51
              have b_60 := g_b hG46 (a := 77) (i := 10) (lo := 0) (hi := 500) rfl rfl
              have z_61 : x_line t nn L sg a (x_kk t nn fu L) = x_word t nn sg (x_ns t nn a) (x_kk t nn fu L) := x_line_w (by omega) (by omega) (by omega)
              refine b_ine_t (pc := 104) rw_172_104 (A := r44.toInt) rfl (by omega) (to_an (pc := 109) rw_172_109 rfl (to_c (pc := 110) rw_172_110 (x := (59 : Int32)) rfl rfl (s_v (pc := 112) rw_172_112 (dp0 hd (by decide)) (ls0 := [.ref 77, .int (59 : Int32)]) rfl (Nat.le_of_ble_eq_true rfl) (Nat.le_of_ble_eq_true rfl) rfl (to_rc rfl rfl rfl (g_o hG46 rfl)) rfl ?_)))
              have k_62 : (59 : Int32).toInt = 59 := rfl
              have j_63 := (TR_f (tg_64 F45) q5)
              have j_64 := (W9_f (tg_65 F45) q6)
              refine E_160 hX (dp1 hd (by decide)) hG46 p_49 (by omega) (by omega) (by omega) j_63 j_64 (by omega) (c := (59 : Int32)) (t := t) (nn := nn) (a := (M52.2.1 77 10).toInt) (fun r65 M73 hG67 F66 p_68 p_69 p_70 p_71 p_72 => ?_)
              have F74 := FR.c F53 F66 tg_77
              have b_75 := g_b hG67 (a := 77) (i := 10) (lo := 0) (hi := 500) rfl rfl
              rcases (show r65.toInt = 0 ∨ r65.toInt = 1 by omega) with h76 | h76
              · skip
                have p_77 := p_72 (by omega)
                clear p_71 p_72
                refine s_r1 (pc := 115) rw_172_115 (A := r65.toInt) rfl (by omega) ?_
                exact h r65 M73 hG67 F74 (by omega) (by omega) p_70 (fun _ => LOr_wn p_59 z_61 rfl (by omega)) (fun z => by exfalso; omega)
              · skip
                have p_78 := p_71 (by omega)
                clear p_71 p_72
                refine s_r1 (pc := 115) rw_172_115 (A := r65.toInt) rfl (by omega) ?_
                have tr_79 : ∀ s9 : x_S, PLr2 M52 s9 → PLr2 M73 s9 := fun s9 h9 => ⟨PLr_f (fun a i z => (F_n F66 (show ¬ (a = 77 ∧ (i = 4 ∨ i = 5 ∨ 7 ≤ i ∧ i ≤ 10)) by omega) rfl)) (F_nl F66 (show ¬ (77 = 77 ∧ (25 = 4 ∨ 25 = 5 ∨ 7 ≤ 25 ∧ 25 ≤ 10)) by decide) rfl) h9.1, CWr_f (fun k hk9 => (F_nl F66 (show ¬ (87 = 77 ∧ ((12 + k) = 4 ∨ (12 + k) = 5 ∨ 7 ≤ (12 + k) ∧ (12 + k) ≤ 10)) by omega) rfl)) h9.2⟩
                exact h r65 M73 hG67 F74 (by omega) (by omega) p_70 (fun z => by exfalso; omega) (fun _ => LOr_w p_59 z_61 rfl (by omega) (by omega) (by omega) tr_79)
          · refine to_an (pc := 90) rw_172_90 rfl (s_v (pc := 91) rw_172_91 (dp0 hd (by decide)) (ls0 := [.ref 77, .null, .null, .null, .null, .null, .null, .null, .null]) rfl (Nat.le_of_ble_eq_true rfl) (Nat.le_of_ble_eq_true rfl) rfl (to_rc rfl rfl rfl (g_o hG rfl)) rfl (E_170 hX (dp1 hd (by decide)) hG q1 (by omega) (by omega) (by omega) q5 q6 q7 q8 (t := t) (nn := nn) (a := a) (sg := sg) (k := (x_kk t nn fu L)) (fun r80 M88 hG82 F81 p_83 p_84 p_85 p_86 p_87 => ?_)))
            have F89 := FR.c F0 F81 tg_78
            rcases (show r80.toInt = 0 ∨ r80.toInt = 1 by omega) with h90 | h90
            · skip
              have p_91 := p_86 (by omega)
              clear p_86 p_87
              have b_92 := g_b hG82 (a := 77) (i := 10) (lo := 0) (hi := 500) rfl rfl
              have z_93 : x_line t nn L sg a (x_kk t nn fu L) = x_field t nn sg (x_ns t nn a) (x_kk t nn fu L) := x_line_f (by omega) (by omega) (by omega)
              refine b_ine_f (pc := 94) rw_172_94 (A := r80.toInt) rfl (by omega) (to_go (pc := 97) rw_172_97 (to_c (pc := 107) rw_172_107 (x := (0 : Int32)) rfl rfl (s_r1 (pc := 108) rw_172_108 (A := 0) rfl (by decide) ?_)))
              have k_94 : (0 : Int32).toInt = 0 := rfl
              exact h (0 : Int32) M88 hG82 F89 (by decide) (by decide) p_85 (fun _ => z_93.trans p_91) (fun z => by exfalso; omega)
            · skip
              have p_95 := p_87 (by omega)
              clear p_86 p_87
              have b_96 := g_b hG82 (a := 77) (i := 10) (lo := 0) (hi := 500) rfl rfl
              have z_97 : x_line t nn L sg a (x_kk t nn fu L) = x_field t nn sg (x_ns t nn a) (x_kk t nn fu L) := x_line_f (by omega) (by omega) (by omega)
              refine b_ine_t (pc := 94) rw_172_94 (A := r80.toInt) rfl (by omega) (to_an (pc := 109) rw_172_109 rfl (to_c (pc := 110) rw_172_110 (x := (59 : Int32)) rfl rfl (s_v (pc := 112) rw_172_112 (dp0 hd (by decide)) (ls0 := [.ref 77, .int (59 : Int32)]) rfl (Nat.le_of_ble_eq_true rfl) (Nat.le_of_ble_eq_true rfl) rfl (to_rc rfl rfl rfl (g_o hG82 rfl)) rfl ?_)))
              have k_98 : (59 : Int32).toInt = 59 := rfl
              have j_99 := (TR_f (tg_66 F81) q5)
              have j_100 := (W9_f (tg_67 F81) q6)
              refine E_160 hX (dp1 hd (by decide)) hG82 p_85 (by omega) (by omega) (by omega) j_99 j_100 (by omega) (c := (59 : Int32)) (t := t) (nn := nn) (a := (M88.2.1 77 10).toInt) (fun r101 M109 hG103 F102 p_104 p_105 p_106 p_107 p_108 => ?_)
              have F110 := FR.c F89 F102 tg_77
              have b_111 := g_b hG103 (a := 77) (i := 10) (lo := 0) (hi := 500) rfl rfl
              rcases (show r101.toInt = 0 ∨ r101.toInt = 1 by omega) with h112 | h112
              · skip
                have p_113 := p_108 (by omega)
                clear p_107 p_108
                refine s_r1 (pc := 115) rw_172_115 (A := r101.toInt) rfl (by omega) ?_
                exact h r101 M109 hG103 F110 (by omega) (by omega) p_106 (fun _ => LOr_fn p_95 z_97 rfl (by omega)) (fun z => by exfalso; omega)
              · skip
                have p_114 := p_107 (by omega)
                clear p_107 p_108
                refine s_r1 (pc := 115) rw_172_115 (A := r101.toInt) rfl (by omega) ?_
                have tr_115 : ∀ s9 : x_S, PLr2 M88 s9 → PLr2 M109 s9 := fun s9 h9 => ⟨PLr_f (fun a i z => (F_n F102 (show ¬ (a = 77 ∧ (i = 4 ∨ i = 5 ∨ 7 ≤ i ∧ i ≤ 10)) by omega) rfl)) (F_nl F102 (show ¬ (77 = 77 ∧ (25 = 4 ∨ 25 = 5 ∨ 7 ≤ 25 ∧ 25 ≤ 10)) by decide) rfl) h9.1, CWr_f (fun k hk9 => (F_nl F102 (show ¬ (87 = 77 ∧ ((12 + k) = 4 ∨ (12 + k) = 5 ∨ 7 ≤ (12 + k) ∧ (12 + k) ≤ 10)) by omega) rfl)) h9.2⟩
                exact h r101 M109 hG103 F110 (by omega) (by omega) p_106 (fun z => by exfalso; omega) (fun _ => LOr_f p_95 z_97 rfl (by omega) (by omega) (by omega) tr_115)
        · refine to_in (pc := 40) rw_172_40 rfl (b_ine_f (pc := 41) rw_172_41 (A := x.toInt) rfl (by omega) (to_an (pc := 44) rw_172_44 rfl (to_c (pc := 45) rw_172_45 (x := (3 : Int32)) rfl rfl (s_v (pc := 46) rw_172_46 (dp0 hd (by decide)) (ls0 := [.ref 77, .int (3 : Int32)]) rfl (Nat.le_of_ble_eq_true rfl) (Nat.le_of_ble_eq_true rfl) rfl (to_rc rfl rfl rfl (g_o hG rfl)) rfl (to_an (pc := 0) rw_152_0 rfl (to_in (pc := 1) rw_152_1 rfl (s_pI (pc := 2) rw_152_2 hG rfl (fun M117 W116 => ?_))))))))
          have hG118 := g_wf hG W116 rfl rfl (by decide)
          have F119 := FR.w F0 W116 (show 77 = 77 ∧ (4 = 4 ∨ 4 = 5 ∨ 7 ≤ 4 ∧ 4 ≤ 10 ∨ 14 ≤ 4 ∧ 4 ≤ 16 ∨ 4 = 25) ∨ 80 ≤ 77 ∧ 77 ≤ 84 ∧ 8 ≤ 4 ∨ 85 ≤ 77 ∧ 77 ≤ 87 ∧ 12 ≤ 4 by decide)
          refine to_an (pc := 5) rw_152_5 rfl (to_an (pc := 6) rw_152_6 rfl ?_)
          have c_120 : M117.2.1 77 10 = (M.2.1 77 10) := (W_n W116 (by decide) rfl)
          refine tt_gI (pc := 7) rw_152_7 (g_o hG118 rfl) (v := (M.2.1 77 10)) c_120 (s_pI (pc := 10) rw_152_10 hG118 rfl (fun M122 W121 => ?_))
          have hG123 := g_wf hG118 W121 rfl rfl (by decide)
          have F124 := FR.w F119 W121 (show 77 = 77 ∧ (5 = 4 ∨ 5 = 5 ∨ 7 ≤ 5 ∧ 5 ≤ 10 ∨ 14 ≤ 5 ∧ 5 ≤ 16 ∨ 5 = 25) ∨ 80 ≤ 77 ∧ 77 ≤ 84 ∧ 8 ≤ 5 ∨ 85 ≤ 77 ∧ 77 ≤ 87 ∧ 12 ≤ 5 by decide)
          refine to_c (pc := 13) rw_152_13 (x := (0 : Int32)) rfl rfl (s_r1 (pc := 14) rw_152_14 (A := 0) rfl (by decide) (s_r1 (pc := 49) rw_172_49 (A := 0) rfl (by decide) ?_))
          have k_125 : (0 : Int32).toInt = 0 := rfl
          have j_126 := (RS_f (fun a i z => W_n W121 (tg_37 a i z) rfl) (RS_f (fun a i z => W_n W116 (tg_38 a i z) rfl) q1))
          exact h (0 : Int32) M122 hG123 F124 (by decide) (by decide) j_126 (fun _ => by first | exact x_line_n (by omega) | exact x_line_t (by omega) (by omega) | exact (if g9 : x_kind t nn a = 1 then x_line_t (by omega) (by omega) else x_line_n (by omega)) | exact (x_line_h (by omega) (by omega) (by omega)).trans (x_holes_n (by omega))) (fun z => by exfalso; omega)
      · refine to_an (pc := 20) rw_172_20 rfl (tt_gI (pc := 21) rw_172_21 (g_o hG rfl) (v := (M.2.1 77 9)) rfl (b_ieq (pc := 24) rw_172_24 (A := (M.2.1 77 9).toInt) rfl (fun h127 => ?_) (fun h127 => ?_)))
        · refine to_an (pc := 33) rw_172_33 rfl (tt_gI (pc := 34) rw_172_34 (g_o hG rfl) (v := (M.2.1 77 9)) rfl (b_ine_f (pc := 37) rw_172_37 (A := (M.2.1 77 9).toInt) rfl (by omega) (to_in (pc := 40) rw_172_40 rfl (b_ine_t (pc := 41) rw_172_41 (A := x.toInt) rfl (by omega) (to_an (pc := 50) rw_172_50 rfl (s_v (pc := 51) rw_172_51 (dp0 hd (by decide)) (ls0 := [.ref 77]) rfl (Nat.le_of_ble_eq_true rfl) (Nat.le_of_ble_eq_true rfl) rfl (to_rc rfl rfl rfl (g_o hG rfl)) rfl ?_))))))
          have b_128 := g_b hG (a := 77) (i := 7) (lo := 0) (hi := 500) rfl rfl
          have b_129 := g_b hG (a := 77) (i := 6) (lo := 0) (hi := 500) rfl rfl
          have z_130 := RS_b q1 (a := a) (by omega)
          refine E_156 hX (dp1 hd (by decide)) hG (by omega) (by omega) (by omega) (by omega) q5 q6  (fun M137 hG132 F131 p_133 p_134 p_135 p_136 => ?_)
          have F138 := FR.c F0 F131 tg_79
          have b_139 := g_b hG132 (a := 77) (i := 7) (lo := 0) (hi := 500) rfl rfl
          have c_140 : M137.2.1 77 6 = (M.2.1 77 6) := (F_n F131 (show ¬ (77 = 77 ∧ 7 ≤ 6 ∧ 6 ≤ 10) by decide) rfl)
          have t_141 : (M137.2.1 77 6).toInt = (M.2.1 77 6).toInt := congrArg Int32.toInt c_140
          have b_142 := g_b hG132 (a := 77) (i := 8) (lo := 0) (hi := 5) rfl rfl
          have b_143 := g_b hG132 (a := 77) (i := 10) (lo := 0) (hi := 500) rfl rfl
          have z_144 := RS_s p_136.2 (a := a) (by omega)
          refine to_an (pc := 54) rw_172_54 rfl (to_c (pc := 55) rw_172_55 (x := (10 : Int32)) rfl rfl (to_c (pc := 57) rw_172_57 (x := (60 : Int32)) rfl rfl (s_v (pc := 59) rw_172_59 (dp0 hd (by decide)) (ls0 := [.ref 77, .int (10 : Int32), .int (60 : Int32)]) rfl (Nat.le_of_ble_eq_true rfl) (Nat.le_of_ble_eq_true rfl) rfl (to_rc rfl rfl rfl (g_o hG132 rfl)) rfl ?_)))
          have k_145 : (10 : Int32).toInt = 10 := rfl
          have k_146 : (60 : Int32).toInt = 60 := rfl
          refine E_162 hX (dp1 hd (by decide)) hG132 p_136.1 (by omega) (by omega) (l := (10 : Int32)) (m := (60 : Int32)) (t := t) (nn := nn) (a := (x_ns t nn a)) (fun r147 M154 hG149 F148 p_150 p_151 p_152 p_153 => ?_)
          have F155 := FR.c F138 F148 tg_80
          rcases (show r147.toInt = 0 ∨ r147.toInt = 1 by omega) with h156 | h156
          · skip
            have p_157 := p_153 (by omega)
            clear p_152 p_153
            have z_158 := x_val_b (t := t) (nn := nn) (a := (x_ns t nn a))
            refine b_ine_f (pc := 62) rw_172_62 (A := r147.toInt) rfl (by omega) (to_c (pc := 65) rw_172_65 (x := (0 : Int32)) rfl rfl (s_r1 (pc := 66) rw_172_66 (A := 0) rfl (by decide) ?_))
            have k_159 : (0 : Int32).toInt = 0 := rfl
            have j_160 := (RS_f (tg_40 F148) p_136.1)
            exact h (0 : Int32) M154 hG149 F155 (by decide) (by decide) j_160 (fun _ => by first | exact x_line_n (by omega) | exact x_line_t (by omega) (by omega) | exact (if g9 : x_kind t nn a = 1 then x_line_t (by omega) (by omega) else x_line_n (by omega)) | exact (x_line_h (by omega) (by omega) (by omega)).trans (x_holes_n (by omega))) (fun z => by exfalso; omega)
          · skip
            have p_161 := p_152 (by omega)
            clear p_152 p_153
            have c_162 : M154.2.1 77 9 = (M137.2.1 77 9) := (F_n F148 (show ¬ (77 = 77 ∧ (9 = 4 ∨ 9 = 5)) by decide) rfl)
            have z_163 := x_val_b (t := t) (nn := nn) (a := (x_ns t nn a)) (by omega)
            refine b_ine_t (pc := 62) rw_172_62 (A := r147.toInt) rfl (by omega) (to_an (pc := 67) rw_172_67 rfl (to_an (pc := 68) rw_172_68 rfl (tt_gI (pc := 69) rw_172_69 (g_o hG149 rfl) (v := (M137.2.1 77 9)) c_162 ?_)))
            have j_164 := (PLr_f (tg_48 F148) (F_nl F148 (show ¬ (77 = 77 ∧ (25 = 4 ∨ 25 = 5)) by decide) rfl) (PLr_f (tg_39 F131) (F_nl F131 (show ¬ (77 = 77 ∧ 7 ≤ 25 ∧ 25 ≤ 10) by decide) rfl) q7))
            refine s_pI (pc := 72) rw_172_72 hG149 rfl (fun M166 W165 => ?_)
            have hG167 := g_w hG149 W165 (A := (M137.2.1 77 9).toInt) rfl (lo := 10) (hi := 60) rfl rfl (by omega) (by decide)
            have F168 := FR.w F155 W165 (show 77 = 77 ∧ (14 = 4 ∨ 14 = 5 ∨ 7 ≤ 14 ∧ 14 ≤ 10 ∨ 14 ≤ 14 ∧ 14 ≤ 16 ∨ 14 = 25) ∨ 80 ≤ 77 ∧ 77 ≤ 84 ∧ 8 ≤ 14 ∨ 85 ≤ 77 ∧ 77 ≤ 87 ∧ 12 ≤ 14 by decide)
            have z_169 := PLr_h (w := x_val t nn (x_ns t nn a)) j_164 W165 (by omega) (by omega)
            refine to_an (pc := 75) rw_172_75 rfl (s_v (pc := 76) rw_172_76 (dp0 hd (by decide)) (ls0 := [.ref 77]) rfl (Nat.le_of_ble_eq_true rfl) (Nat.le_of_ble_eq_true rfl) rfl (to_rc rfl rfl rfl (g_o hG167 rfl)) rfl ?_)
            have c_170 : M166.2.1 77 7 = (M137.2.1 77 7) := (W_n W165 (by decide) (F_n F148 (show ¬ (77 = 77 ∧ (7 = 4 ∨ 7 = 5)) by decide) rfl))
            have t_171 : (M166.2.1 77 7).toInt = (M137.2.1 77 7).toInt := congrArg Int32.toInt c_170
            have c_172 : M166.2.1 77 6 = (M.2.1 77 6) := (W_n W165 (by decide) (F_n F148 (show ¬ (77 = 77 ∧ (6 = 4 ∨ 6 = 5)) by decide) c_140))
            have t_173 : (M166.2.1 77 6).toInt = (M.2.1 77 6).toInt := congrArg Int32.toInt c_172
            have c_174 : M166.2.1 77 10 = (M137.2.1 77 10) := (W_n W165 (by decide) (F_n F148 (show ¬ (77 = 77 ∧ (10 = 4 ∨ 10 = 5)) by decide) rfl))
            have t_175 : (M166.2.1 77 10).toInt = (M137.2.1 77 10).toInt := congrArg Int32.toInt c_174
            have j_176 := (RS_f (fun a i z => W_n W165 (tg_85 a i z) rfl) (RS_f (tg_40 F148) p_136.1))
            have z_177 := RS_b j_176 (a := (x_ns t nn a)) (by omega)
            have j_178 := (TR_f (fun a i z => W_n W165 (tg_86 a i z) rfl) (TR_f (tg_41 F148) (TR_f (tg_42 F131) q5)))
            have j_179 := (W9_f (fun a i z => W_n W165 (tg_87 a i z) rfl) (W9_f (tg_43 F148) (W9_f (tg_44 F131) q6)))
            refine E_156 hX (dp1 hd (by decide)) hG167 (by omega) (by omega) (by omega) (by omega) j_178 j_179  (fun M186 hG181 F180 p_182 p_183 p_184 p_185 => ?_)
            have F187 := FR.c F168 F180 tg_79
            have b_188 := g_b hG181 (a := 77) (i := 7) (lo := 0) (hi := 500) rfl rfl
            have c_189 : M186.2.1 77 6 = (M.2.1 77 6) := (F_n F180 (show ¬ (77 = 77 ∧ 7 ≤ 6 ∧ 6 ≤ 10) by decide) c_172)
            have t_190 : (M186.2.1 77 6).toInt = (M.2.1 77 6).toInt := congrArg Int32.toInt c_189
            have b_191 := g_b hG181 (a := 77) (i := 8) (lo := 0) (hi := 5) rfl rfl
            have b_192 := g_b hG181 (a := 77) (i := 10) (lo := 0) (hi := 500) rfl rfl
            have z_193 := RS_s p_185.2 (a := (x_ns t nn a)) (by omega)
            refine to_go (pc := 79) rw_172_79 (to_an (pc := 109) rw_172_109 rfl (to_c (pc := 110) rw_172_110 (x := (59 : Int32)) rfl rfl (s_v (pc := 112) rw_172_112 (dp0 hd (by decide)) (ls0 := [.ref 77, .int (59 : Int32)]) rfl (Nat.le_of_ble_eq_true rfl) (Nat.le_of_ble_eq_true rfl) rfl (to_rc rfl rfl rfl (g_o hG181 rfl)) rfl ?_)))
            have k_194 : (59 : Int32).toInt = 59 := rfl
            have j_195 := (TR_f (tg_42 F180) j_178)
            have j_196 := (W9_f (tg_44 F180) j_179)
            refine E_160 hX (dp1 hd (by decide)) hG181 p_185.1 (by omega) (by omega) (by omega) j_195 j_196 (by omega) (c := (59 : Int32)) (t := t) (nn := nn) (a := (x_ns t nn (x_ns t nn a))) (fun r197 M205 hG199 F198 p_200 p_201 p_202 p_203 p_204 => ?_)
            have F206 := FR.c F187 F198 tg_77
            have b_207 := g_b hG199 (a := 77) (i := 10) (lo := 0) (hi := 500) rfl rfl
            rcases (show r197.toInt = 0 ∨ r197.toInt = 1 by omega) with h208 | h208
            · skip
              have p_209 := p_204 (by omega)
              clear p_203 p_204
              refine s_r1 (pc := 115) rw_172_115 (A := r197.toInt) rfl (by omega) ?_
              have z_210 : x_line t nn L sg a (x_kk t nn fu L) = x_kk t nn fu L (x_ns t nn (x_ns t nn a)) (x_val t nn (x_ns t nn a), sg.2) := (x_line_h (by omega) (by omega) (by omega)).trans (x_holes_y (by omega))
              exact h r197 M205 hG199 F206 (by omega) (by omega) p_202 (fun _ => LOr_hn z_210 (by omega)) (fun z => by exfalso; omega)
            · skip
              have p_211 := p_203 (by omega)
              clear p_203 p_204
              refine s_r1 (pc := 115) rw_172_115 (A := r197.toInt) rfl (by omega) ?_
              have z_212 : x_line t nn L sg a (x_kk t nn fu L) = x_kk t nn fu L (x_ns t nn (x_ns t nn a)) (x_val t nn (x_ns t nn a), sg.2) := (x_line_h (by omega) (by omega) (by omega)).trans (x_holes_y (by omega))
              have j_213 := (PLr_f (tg_68 F198) (F_nl F198 (show ¬ (77 = 77 ∧ (25 = 4 ∨ 25 = 5 ∨ 7 ≤ 25 ∧ 25 ≤ 10)) by decide) rfl) (PLr_f (tg_39 F180) (F_nl F180 (show ¬ (77 = 77 ∧ 7 ≤ 25 ∧ 25 ≤ 10) by decide) rfl) z_169))
              have j_214 := (CWr_f (fun k hk9 => F_nl F198 (show ¬ (87 = 77 ∧ ((12 + k) = 4 ∨ (12 + k) = 5 ∨ 7 ≤ (12 + k) ∧ (12 + k) ≤ 10)) by omega) rfl) (CWr_f (fun k hk9 => F_nl F180 (show ¬ (87 = 77 ∧ 7 ≤ (12 + k) ∧ (12 + k) ≤ 10) by omega) rfl) (CWr_f (fun k hk9 => W_j W165 rfl) (CWr_f (fun k hk9 => F_nl F148 (show ¬ (87 = 77 ∧ ((12 + k) = 4 ∨ (12 + k) = 5)) by omega) rfl) (CWr_f (fun k hk9 => F_nl F131 (show ¬ (87 = 77 ∧ 7 ≤ (12 + k) ∧ (12 + k) ≤ 10) by omega) rfl) q8)))))
              exact h r197 M205 hG199 F206 (by omega) (by omega) p_202 (fun z => by exfalso; omega) (fun _ => LOr_h z_212 (by omega) (by omega) (by omega) ⟨j_213, j_214⟩ rfl)
        · refine to_an (pc := 27) rw_172_27 rfl (to_c (pc := 28) rw_172_28 (x := (1 : Int32)) rfl rfl (s_v (pc := 29) rw_172_29 (dp0 hd (by decide)) (ls0 := [.ref 77, .int (1 : Int32)]) rfl (Nat.le_of_ble_eq_true rfl) (Nat.le_of_ble_eq_true rfl) rfl (to_rc rfl rfl rfl (g_o hG rfl)) rfl (to_an (pc := 0) rw_152_0 rfl (to_in (pc := 1) rw_152_1 rfl (s_pI (pc := 2) rw_152_2 hG rfl (fun M216 W215 => ?_))))))
          have hG217 := g_wf hG W215 rfl rfl (by decide)
          have F218 := FR.w F0 W215 (show 77 = 77 ∧ (4 = 4 ∨ 4 = 5 ∨ 7 ≤ 4 ∧ 4 ≤ 10 ∨ 14 ≤ 4 ∧ 4 ≤ 16 ∨ 4 = 25) ∨ 80 ≤ 77 ∧ 77 ≤ 84 ∧ 8 ≤ 4 ∨ 85 ≤ 77 ∧ 77 ≤ 87 ∧ 12 ≤ 4 by decide)
          refine to_an (pc := 5) rw_152_5 rfl (to_an (pc := 6) rw_152_6 rfl ?_)
          have c_219 : M216.2.1 77 10 = (M.2.1 77 10) := (W_n W215 (by decide) rfl)
          refine tt_gI (pc := 7) rw_152_7 (g_o hG217 rfl) (v := (M.2.1 77 10)) c_219 (s_pI (pc := 10) rw_152_10 hG217 rfl (fun M221 W220 => ?_))
          have hG222 := g_wf hG217 W220 rfl rfl (by decide)
          have F223 := FR.w F218 W220 (show 77 = 77 ∧ (5 = 4 ∨ 5 = 5 ∨ 7 ≤ 5 ∧ 5 ≤ 10 ∨ 14 ≤ 5 ∧ 5 ≤ 16 ∨ 5 = 25) ∨ 80 ≤ 77 ∧ 77 ≤ 84 ∧ 8 ≤ 5 ∨ 85 ≤ 77 ∧ 77 ≤ 87 ∧ 12 ≤ 5 by decide)
          refine to_c (pc := 13) rw_152_13 (x := (0 : Int32)) rfl rfl (s_r1 (pc := 14) rw_152_14 (A := 0) rfl (by decide) (s_r1 (pc := 32) rw_172_32 (A := 0) rfl (by decide) ?_))
          have k_224 : (0 : Int32).toInt = 0 := rfl
          have j_225 := (RS_f (fun a i z => W_n W220 (tg_37 a i z) rfl) (RS_f (fun a i z => W_n W215 (tg_38 a i z) rfl) q1))
          exact h (0 : Int32) M221 hG222 F223 (by decide) (by decide) j_225 (fun _ => by first | exact x_line_n (by omega) | exact x_line_t (by omega) (by omega) | exact (if g9 : x_kind t nn a = 1 then x_line_t (by omega) (by omega) else x_line_n (by omega)) | exact (x_line_h (by omega) (by omega) (by omega)).trans (x_holes_n (by omega))) (fun z => by exfalso; omega)
set_option maxRecDepth 4000 in
set_option maxHeartbeats 0 in
theorem U_165_0 {X : mm_X} {d : Nat} {M : mm_M} {Q : Option Value → mm_M → Prop} (hX : g_X X) (hd : 0 ≤ d) (h : ∀ (M1 : mm_M), g_G M1 → FR md_ke M M1 → ((M1.2.1 77 28).toInt = 0) → ((M1.2.1 77 29).toInt = 0) → ((M1.2.1 77 41).toInt = 0) → (∀ s9 : x_S, PLr2 M s9 → PLk2 M1 s9) → Q (none) M1) : ∀ nn9 : Nat, (∀ (N : mm_M) (x1 : Int32), g_G N → FR md_ke M N → (0 ≤ x1.toInt) → (x1.toInt ≤ 6) → (KP N M 8 12) → (KL N M 12) → (N.2.1 77 11 = M.2.1 77 14) → (N.2.1 77 12 = M.2.1 77 15) → (N.2.1 77 13 = M.2.1 77 16) → ((N.2.1 77 28).toInt = 0) → ((N.2.1 77 29).toInt = 0) → ((N.2.1 77 41).toInt = 0) → (True) → 6 - x1.toInt < (nn9 : Int) → mm_T X d 164 199 [.ref 77, .int x1] [] N Q) := by
  intro nn9
  induction nn9 with
  | zero =>
    intro N x1 hG F0 g1 g2 g3 g4 g5 g6 g7 g8 g9 g10 g11 hm
    have b_1 := g_b hG (a := 77) (i := 28) (lo := 0) (hi := 30) rfl rfl
    have b_2 := g_b hG (a := 77) (i := 29) (lo := 0) (hi := 150) rfl rfl
    exfalso; omega
  | succ nn9 ih =>
    intro N x1 hG F0 g1 g2 g3 g4 g5 g6 g7 g8 g9 g10 g11 hm
    have b_3 := g_b hG (a := 77) (i := 28) (lo := 0) (hi := 30) rfl rfl
    have b_4 := g_b hG (a := 77) (i := 29) (lo := 0) (hi := 150) rfl rfl
    refine to_in (pc := 199) rw_165_199 rfl (to_c (pc := 200) rw_165_200 (x := (6 : Int32)) rfl rfl (b_cge (pc := 202) rw_165_202 (A := x1.toInt) (B := 6) rfl rfl (fun h5 => ?_) (fun h5 => ?_)))
    · refine to_rv (pc := 218) rw_165_218 ?_
      exact h N hG F0 (by omega) (by omega) (by omega) (fun s9 h9 => ⟨KP_e g3 g5 g6 g7 h9.1, CWk_e g4 h9.1.1 h9.2⟩)
    · refine to_an (pc := 205) rw_165_205 rfl (s_gR (pc := 206) rw_165_206 hG rfl (v := 100) rfl (to_in (pc := 209) rw_165_209 rfl (to_c (pc := 210) rw_165_210 (x := (0 : Int32)) rfl rfl (s_ias (pc := 211) rw_165_211 hG rfl (n := 6) rfl (A := x1.toInt) rfl (by omega) (by omega) (fun M7 W6 => ?_)))))
      have hG8 := g_w hG W6 (A := 0) rfl (lo := 0) (hi := 30) rfl rfl (by omega) (by decide)
      have F9 := FR.w F0 W6 (show 100 = 77 ∧ (11 ≤ (x1.toInt).toNat ∧ (x1.toInt).toNat ≤ 13 ∨ (x1.toInt).toNat = 28 ∨ (x1.toInt).toNat = 29 ∨ (x1.toInt).toNat = 41 ∨ (x1.toInt).toNat = 57 ∨ (x1.toInt).toNat = 58) ∨ 80 ≤ 100 ∧ 100 ≤ 87 ∨ 100 = 100 by omega)
      refine s_inc (pc := 212) rw_165_212 (ls2 := fun v => [.ref 77, .int v]) rfl rfl (fun _ => rfl) (A := x1.toInt) (B := 1) rfl rfl (by omega) (fun v10 e11 => to_go (pc := 215) rw_165_215 ?_)
      have c_12 : M7.2.1 77 11 = (N.2.1 77 11) := (W_n W6 (fun z => absurd z.1 (by decide)) rfl)
      have c_13 : M7.2.1 77 12 = (N.2.1 77 12) := (W_n W6 (fun z => absurd z.1 (by decide)) rfl)
      have c_14 : M7.2.1 77 13 = (N.2.1 77 13) := (W_n W6 (fun z => absurd z.1 (by decide)) rfl)
      have c_15 : M7.2.1 77 28 = (N.2.1 77 28) := (W_n W6 (fun z => absurd z.1 (by decide)) rfl)
      have t_16 : (M7.2.1 77 28).toInt = (N.2.1 77 28).toInt := congrArg Int32.toInt c_15
      have c_17 : M7.2.1 77 29 = (N.2.1 77 29) := (W_n W6 (fun z => absurd z.1 (by decide)) rfl)
      have t_18 : (M7.2.1 77 29).toInt = (N.2.1 77 29).toInt := congrArg Int32.toInt c_17
      have c_19 : M7.2.1 77 41 = (N.2.1 77 41) := (W_n W6 (fun z => absurd z.1 (by decide)) rfl)
      have t_20 : (M7.2.1 77 41).toInt = (N.2.1 77 41).toInt := congrArg Int32.toInt c_19
      exact ih M7 v10 hG8 F9 (by omega) (by omega) (KP_f (fun a i z => (W_n W6 (by /-r100-/ omega) rfl)) g3) (KL_f (fun i => (W_j W6 rfl)) g4) (c_12.trans g5) (c_13.trans g6) (c_14.trans g7) (by omega) (by omega) (by omega) trivial (by omega)
set_option maxRecDepth 4000 in
set_option maxHeartbeats 0 in
theorem U_165_1 {X : mm_X} {d : Nat} {M : mm_M} {Q : Option Value → mm_M → Prop} (hX : g_X X) (hd : 0 ≤ d) (h : ∀ (M1 : mm_M), g_G M1 → FR md_ke M M1 → ((M1.2.1 77 28).toInt = 0) → ((M1.2.1 77 29).toInt = 0) → ((M1.2.1 77 41).toInt = 0) → (∀ s9 : x_S, PLr2 M s9 → PLk2 M1 s9) → Q (none) M1) : ∀ nn9 : Nat, (∀ (N : mm_M) (x1 : Int32), g_G N → FR md_ke M N → (0 ≤ x1.toInt) → (x1.toInt ≤ 12) → (KP N M 8 (x1.toInt).toNat) → (KL N M (x1.toInt).toNat) → (N.2.1 77 11 = M.2.1 77 14) → (N.2.1 77 12 = M.2.1 77 15) → (N.2.1 77 13 = M.2.1 77 16) → 12 - x1.toInt < (nn9 : Int) → mm_T X d 164 115 [.ref 77, .int x1] [] N Q) := by
  intro nn9
  induction nn9 with
  | zero =>
    intro N x1 hG F0 g1 g2 g3 g4 g5 g6 g7 hm
    exfalso; omega
  | succ nn9 ih =>
    intro N x1 hG F0 g1 g2 g3 g4 g5 g6 g7 hm
    refine to_in (pc := 115) rw_165_115 rfl (to_c (pc := 116) rw_165_116 (x := (12 : Int32)) rfl rfl (b_cge (pc := 118) rw_165_118 (A := x1.toInt) (B := 12) rfl rfl (fun h21 => ?_) (fun h21 => ?_)))
    · refine to_an (pc := 172) rw_165_172 rfl (to_c (pc := 173) rw_165_173 (x := (0 : Int32)) rfl rfl (s_pI (pc := 174) rw_165_174 hG rfl (fun M23 W22 => ?_)))
      have hG24 := g_w hG W22 (A := 0) rfl (lo := 0) (hi := 30) rfl rfl (by omega) (by decide)
      have F25 := FR.w F0 W22 (show 77 = 77 ∧ (11 ≤ 28 ∧ 28 ≤ 13 ∨ 28 = 28 ∨ 28 = 29 ∨ 28 = 41 ∨ 28 = 57 ∨ 28 = 58) ∨ 80 ≤ 77 ∧ 77 ≤ 87 ∨ 77 = 100 by decide)
      refine to_an (pc := 177) rw_165_177 rfl (to_c (pc := 178) rw_165_178 (x := (0 : Int32)) rfl rfl (s_pI (pc := 179) rw_165_179 hG24 rfl (fun M27 W26 => ?_)))
      have hG28 := g_w hG24 W26 (A := 0) rfl (lo := 0) (hi := 150) rfl rfl (by omega) (by decide)
      have F29 := FR.w F25 W26 (show 77 = 77 ∧ (11 ≤ 29 ∧ 29 ≤ 13 ∨ 29 = 28 ∨ 29 = 29 ∨ 29 = 41 ∨ 29 = 57 ∨ 29 = 58) ∨ 80 ≤ 77 ∧ 77 ≤ 87 ∨ 77 = 100 by decide)
      refine to_an (pc := 182) rw_165_182 rfl (to_c (pc := 183) rw_165_183 (x := (0 : Int32)) rfl rfl (s_pI (pc := 184) rw_165_184 hG28 rfl (fun M31 W30 => ?_)))
      have hG32 := g_w hG28 W30 (A := 0) rfl (lo := 0) (hi := 40) rfl rfl (by omega) (by decide)
      have F33 := FR.w F29 W30 (show 77 = 77 ∧ (11 ≤ 58 ∧ 58 ≤ 13 ∨ 58 = 28 ∨ 58 = 29 ∨ 58 = 41 ∨ 58 = 57 ∨ 58 = 58) ∨ 80 ≤ 77 ∧ 77 ≤ 87 ∨ 77 = 100 by decide)
      refine to_an (pc := 187) rw_165_187 rfl (to_c (pc := 188) rw_165_188 (x := (0 : Int32)) rfl rfl (s_pZ (pc := 189) rw_165_189 hG32 rfl (A := 0) rfl (by omega) (fun M35 W34 => ?_)))
      have hG36 := g_w hG32 W34 (A := 0) rfl (lo := 0) (hi := 1) rfl rfl (by omega) (by decide)
      have F37 := FR.w F33 W34 (show 77 = 77 ∧ (11 ≤ 57 ∧ 57 ≤ 13 ∨ 57 = 28 ∨ 57 = 29 ∨ 57 = 41 ∨ 57 = 57 ∨ 57 = 58) ∨ 80 ≤ 77 ∧ 77 ≤ 87 ∨ 77 = 100 by decide)
      refine to_an (pc := 192) rw_165_192 rfl (to_c (pc := 193) rw_165_193 (x := (0 : Int32)) rfl rfl (s_pI (pc := 194) rw_165_194 hG36 rfl (fun M39 W38 => ?_)))
      have hG40 := g_wf hG36 W38 rfl rfl (by decide)
      have F41 := FR.w F37 W38 (show 77 = 77 ∧ (11 ≤ 41 ∧ 41 ≤ 13 ∨ 41 = 28 ∨ 41 = 29 ∨ 41 = 41 ∨ 41 = 57 ∨ 41 = 58) ∨ 80 ≤ 77 ∧ 77 ≤ 87 ∨ 77 = 100 by decide)
      refine to_c (pc := 197) rw_165_197 (x := (0 : Int32)) rfl rfl (to_isn (pc := 198) rw_165_198 (ls2 := [.ref 77, .int (0 : Int32)]) rfl rfl ?_)
      have k_42 : (0 : Int32).toInt = 0 := rfl
      have c_43 : M39.2.1 77 11 = (N.2.1 77 11) := (W_n W38 (by decide) (W_n W34 (by decide) (W_n W30 (by decide) (W_n W26 (by decide) (W_n W22 (by decide) rfl)))))
      have c_44 : M39.2.1 77 12 = (N.2.1 77 12) := (W_n W38 (by decide) (W_n W34 (by decide) (W_n W30 (by decide) (W_n W26 (by decide) (W_n W22 (by decide) rfl)))))
      have c_45 : M39.2.1 77 13 = (N.2.1 77 13) := (W_n W38 (by decide) (W_n W34 (by decide) (W_n W30 (by decide) (W_n W26 (by decide) (W_n W22 (by decide) rfl)))))
      have c_46 : M39.2.1 77 28 = (0 : Int32) := (W_n W38 (by decide) (W_n W34 (by decide) (W_n W30 (by decide) (W_n W26 (by decide) (W_e W22)))))
      have t_47 : (M39.2.1 77 28).toInt = (0 : Int32).toInt := congrArg Int32.toInt c_46
      have c_48 : M39.2.1 77 29 = (0 : Int32) := (W_n W38 (by decide) (W_n W34 (by decide) (W_n W30 (by decide) (W_e W26))))
      have t_49 : (M39.2.1 77 29).toInt = (0 : Int32).toInt := congrArg Int32.toInt c_48
      have c_50 : M39.2.1 77 41 = (0 : Int32) := (W_e W38)
      have t_51 : (M39.2.1 77 41).toInt = (0 : Int32).toInt := congrArg Int32.toInt c_50
      exact (U_165_0 hX hd  h ((6 - (0 : Int32).toInt).toNat + 1)) M39 (0 : Int32) hG40 F41 (by omega) (by omega) (KP_f (fun a i z => (W_n W38 (by /-r77,41-/ omega) (W_n W34 (by /-r77,57-/ omega) (W_n W30 (by /-r77,58-/ omega) (W_n W26 (by /-r77,29-/ omega) (W_n W22 (by /-r77,28-/ omega) rfl)))))) ((show (x1.toInt).toNat = 12 by omega) ▸ g3)) (KL_f (fun i => (W_j W38 (W_j W34 (W_j W30 (W_j W26 (W_j W22 rfl)))))) ((show (x1.toInt).toNat = 12 by omega) ▸ g4)) (c_43.trans g5) (c_44.trans g6) (c_45.trans g7) (by omega) (by omega) (by omega) trivial (by omega)
    · refine to_an (pc := 121) rw_165_121 rfl (s_gR (pc := 122) rw_165_122 hG rfl (v := 85) rfl (to_in (pc := 125) rw_165_125 rfl (to_an (pc := 126) rw_165_126 rfl (s_gR (pc := 127) rw_165_127 hG rfl (v := 85) rfl (to_c (pc := 130) rw_165_130 (x := (12 : Int32)) rfl rfl (to_in (pc := 132) rw_165_132 rfl (s_add (pc := 133) rw_165_133 (A := 12) (B := x1.toInt) rfl rfl (by omega) (fun v52 e53 => s_ial (pc := 134) rw_165_134 hG rfl (n := 24) rfl rfl (A := v52.toInt) rfl (by omega) (by omega) (lo := -2147483648) (hi := 2147483647) rfl rfl (fun v54 w_55 _ _ => s_ias (pc := 135) rw_165_135 hG rfl (n := 24) rfl (A := x1.toInt) rfl (by omega) (by omega) (fun M57 W56 => ?_))))))))))
      have hG58 := g_wf hG W56 rfl rfl (by decide)
      have F59 := FR.w F0 W56 (show 85 = 77 ∧ (11 ≤ (x1.toInt).toNat ∧ (x1.toInt).toNat ≤ 13 ∨ (x1.toInt).toNat = 28 ∨ (x1.toInt).toNat = 29 ∨ (x1.toInt).toNat = 41 ∨ (x1.toInt).toNat = 57 ∨ (x1.toInt).toNat = 58) ∨ 80 ≤ 85 ∧ 85 ≤ 87 ∨ 85 = 100 by omega)
      refine to_an (pc := 136) rw_165_136 rfl (s_gR (pc := 137) rw_165_137 hG58 rfl (v := 86) rfl (to_in (pc := 140) rw_165_140 rfl (to_an (pc := 141) rw_165_141 rfl (s_gR (pc := 142) rw_165_142 hG58 rfl (v := 86) rfl (to_c (pc := 145) rw_165_145 (x := (12 : Int32)) rfl rfl (to_in (pc := 147) rw_165_147 rfl (s_add (pc := 148) rw_165_148 (A := 12) (B := x1.toInt) rfl rfl (by omega) (fun v60 e61 => s_ial (pc := 149) rw_165_149 hG58 rfl (n := 24) rfl rfl (A := v60.toInt) rfl (by omega) (by omega) (lo := 0) (hi := 7) rfl rfl (fun v62 w_63 _ _ => s_ias (pc := 150) rw_165_150 hG58 rfl (n := 24) rfl (A := x1.toInt) rfl (by omega) (by omega) (fun M65 W64 => ?_))))))))))
      have hG66 := g_w hG58 W64 (A := v62.toInt) rfl (lo := 0) (hi := 7) rfl rfl (by omega) (by decide)
      have F67 := FR.w F59 W64 (show 86 = 77 ∧ (11 ≤ (x1.toInt).toNat ∧ (x1.toInt).toNat ≤ 13 ∨ (x1.toInt).toNat = 28 ∨ (x1.toInt).toNat = 29 ∨ (x1.toInt).toNat = 41 ∨ (x1.toInt).toNat = 57 ∨ (x1.toInt).toNat = 58) ∨ 80 ≤ 86 ∧ 86 ≤ 87 ∨ 86 = 100 by omega)
      refine to_an (pc := 151) rw_165_151 rfl (s_gR (pc := 152) rw_165_152 hG66 rfl (v := 87) rfl (to_in (pc := 155) rw_165_155 rfl (to_an (pc := 156) rw_165_156 rfl (s_gR (pc := 157) rw_165_157 hG66 rfl (v := 87) rfl (to_c (pc := 160) rw_165_160 (x := (12 : Int32)) rfl rfl (to_in (pc := 162) rw_165_162 rfl (s_add (pc := 163) rw_165_163 (A := 12) (B := x1.toInt) rfl rfl (by omega) (fun v68 e69 => s_lalE (pc := 164) rw_165_164 hG66 rfl (n := 24) rfl (A := v68.toInt) rfl (by omega) (by omega) (fun l70 w_71 => s_las (pc := 165) rw_165_165 hG66 rfl (n := 24) rfl (A := x1.toInt) rfl (by omega) (by omega) (fun M73 W72 => ?_))))))))))
      have hG74 := g_wl hG66 W72
      have F75 := FR.wl F67 W72 (show 87 = 77 ∧ (11 ≤ (x1.toInt).toNat ∧ (x1.toInt).toNat ≤ 13 ∨ (x1.toInt).toNat = 28 ∨ (x1.toInt).toNat = 29 ∨ (x1.toInt).toNat = 41 ∨ (x1.toInt).toNat = 57 ∨ (x1.toInt).toNat = 58) ∨ 80 ≤ 87 ∧ 87 ≤ 87 ∨ 87 = 100 by omega)
      refine s_inc (pc := 166) rw_165_166 (ls2 := fun v => [.ref 77, .int v]) rfl rfl (fun _ => rfl) (A := x1.toInt) (B := 1) rfl rfl (by omega) (fun v76 e77 => to_go (pc := 169) rw_165_169 ?_)
      have c_78 : M73.2.1 77 11 = (N.2.1 77 11) := (W_l W72 (W_n W64 (fun z => absurd z.1 (by decide)) (W_n W56 (fun z => absurd z.1 (by decide)) rfl)))
      have c_79 : M73.2.1 77 12 = (N.2.1 77 12) := (W_l W72 (W_n W64 (fun z => absurd z.1 (by decide)) (W_n W56 (fun z => absurd z.1 (by decide)) rfl)))
      have c_80 : M73.2.1 77 13 = (N.2.1 77 13) := (W_l W72 (W_n W64 (fun z => absurd z.1 (by decide)) (W_n W56 (fun z => absurd z.1 (by decide)) rfl)))
      exact ih M73 v76 hG74 F75 (by omega) (by omega) (KP_2 g3 (by omega) rfl (by omega) (show N.2.1 85 (12 + (x1.toInt).toNat) = v54 from (by rw [show 12 + (x1.toInt).toNat = (v52.toInt).toNat by omega]; exact w_55)) W56 (show M57.2.1 86 (12 + (x1.toInt).toNat) = v62 from (by rw [show 12 + (x1.toInt).toNat = (v60.toInt).toNat by omega]; exact w_63)) W64 W72) (KL_2 g4 (by omega) rfl (by omega) W56 W64 (show M65.2.2.1 87 (12 + (x1.toInt).toNat) = l70 from (by rw [show 12 + (x1.toInt).toNat = (v68.toInt).toNat by omega]; exact w_71)) W72) (c_78.trans g5) (c_79.trans g6) (c_80.trans g7) (by omega)
set_option maxRecDepth 4000 in
set_option maxHeartbeats 0 in
theorem U_165_2 {X : mm_X} {d : Nat} {M : mm_M} {Q : Option Value → mm_M → Prop} (hX : g_X X) (hd : 0 ≤ d) (h : ∀ (M1 : mm_M), g_G M1 → FR md_ke M M1 → ((M1.2.1 77 28).toInt = 0) → ((M1.2.1 77 29).toInt = 0) → ((M1.2.1 77 41).toInt = 0) → (∀ s9 : x_S, PLr2 M s9 → PLk2 M1 s9) → Q (none) M1) : ∀ nn9 : Nat, (∀ (N : mm_M) (x1 : Int32), g_G N → FR md_ke M N → (0 ≤ x1.toInt) → (x1.toInt ≤ 8) → (KP N M (x1.toInt).toNat 0) → (KL N M 0) → (N.2.1 77 11 = M.2.1 77 14) → (N.2.1 77 12 = M.2.1 77 15) → (N.2.1 77 13 = M.2.1 77 16) → 8 - x1.toInt < (nn9 : Int) → mm_T X d 164 26 [.ref 77, .int x1] [] N Q) := by
  intro nn9
  induction nn9 with
  | zero =>
    intro N x1 hG F0 g1 g2 g3 g4 g5 g6 g7 hm
    exfalso; omega
  | succ nn9 ih =>
    intro N x1 hG F0 g1 g2 g3 g4 g5 g6 g7 hm
    refine to_in (pc := 26) rw_165_26 rfl (to_c (pc := 27) rw_165_27 (x := (8 : Int32)) rfl rfl (b_cge (pc := 29) rw_165_29 (A := x1.toInt) (B := 8) rfl rfl (fun h81 => ?_) (fun h81 => ?_)))
    · refine to_c (pc := 113) rw_165_113 (x := (0 : Int32)) rfl rfl (to_isn (pc := 114) rw_165_114 (ls2 := [.ref 77, .int (0 : Int32)]) rfl rfl ?_)
      have k_82 : (0 : Int32).toInt = 0 := rfl
      exact (U_165_1 hX hd  h ((12 - (0 : Int32).toInt).toNat + 1)) N (0 : Int32) hG F0 (by omega) (by omega) ((show (x1.toInt).toNat = 8 by omega) ▸ g3) g4 g5 g6 g7 (by omega)
    · refine to_an (pc := 32) rw_165_32 rfl (s_gR (pc := 33) rw_165_33 hG rfl (v := 80) rfl (to_in (pc := 36) rw_165_36 rfl (to_an (pc := 37) rw_165_37 rfl (s_gR (pc := 38) rw_165_38 hG rfl (v := 80) rfl (to_c (pc := 41) rw_165_41 (x := (8 : Int32)) rfl rfl (to_in (pc := 43) rw_165_43 rfl (s_add (pc := 44) rw_165_44 (A := 8) (B := x1.toInt) rfl rfl (by omega) (fun v83 e84 => s_ial (pc := 45) rw_165_45 hG rfl (n := 16) rfl rfl (A := v83.toInt) rfl (by omega) (by omega) (lo := -2147483648) (hi := 2147483647) rfl rfl (fun v85 w_86 _ _ => s_ias (pc := 46) rw_165_46 hG rfl (n := 16) rfl (A := x1.toInt) rfl (by omega) (by omega) (fun M88 W87 => ?_))))))))))
      have hG89 := g_wf hG W87 rfl rfl (by decide)
      have F90 := FR.w F0 W87 (show 80 = 77 ∧ (11 ≤ (x1.toInt).toNat ∧ (x1.toInt).toNat ≤ 13 ∨ (x1.toInt).toNat = 28 ∨ (x1.toInt).toNat = 29 ∨ (x1.toInt).toNat = 41 ∨ (x1.toInt).toNat = 57 ∨ (x1.toInt).toNat = 58) ∨ 80 ≤ 80 ∧ 80 ≤ 87 ∨ 80 = 100 by omega)
      refine to_an (pc := 47) rw_165_47 rfl (s_gR (pc := 48) rw_165_48 hG89 rfl (v := 81) rfl (to_in (pc := 51) rw_165_51 rfl (to_an (pc := 52) rw_165_52 rfl (s_gR (pc := 53) rw_165_53 hG89 rfl (v := 81) rfl (to_c (pc := 56) rw_165_56 (x := (8 : Int32)) rfl rfl (to_in (pc := 58) rw_165_58 rfl (s_add (pc := 59) rw_165_59 (A := 8) (B := x1.toInt) rfl rfl (by omega) (fun v91 e92 => s_ial (pc := 60) rw_165_60 hG89 rfl (n := 16) rfl rfl (A := v91.toInt) rfl (by omega) (by omega) (lo := 0) (hi := 3) rfl rfl (fun v93 w_94 _ _ => s_ias (pc := 61) rw_165_61 hG89 rfl (n := 16) rfl (A := x1.toInt) rfl (by omega) (by omega) (fun M96 W95 => ?_))))))))))
      have hG97 := g_w hG89 W95 (A := v93.toInt) rfl (lo := 0) (hi := 3) rfl rfl (by omega) (by decide)
      have F98 := FR.w F90 W95 (show 81 = 77 ∧ (11 ≤ (x1.toInt).toNat ∧ (x1.toInt).toNat ≤ 13 ∨ (x1.toInt).toNat = 28 ∨ (x1.toInt).toNat = 29 ∨ (x1.toInt).toNat = 41 ∨ (x1.toInt).toNat = 57 ∨ (x1.toInt).toNat = 58) ∨ 80 ≤ 81 ∧ 81 ≤ 87 ∨ 81 = 100 by omega)
      refine to_an (pc := 62) rw_165_62 rfl (s_gR (pc := 63) rw_165_63 hG97 rfl (v := 82) rfl (to_in (pc := 66) rw_165_66 rfl (to_an (pc := 67) rw_165_67 rfl (s_gR (pc := 68) rw_165_68 hG97 rfl (v := 82) rfl (to_c (pc := 71) rw_165_71 (x := (8 : Int32)) rfl rfl (to_in (pc := 73) rw_165_73 rfl (s_add (pc := 74) rw_165_74 (A := 8) (B := x1.toInt) rfl rfl (by omega) (fun v99 e100 => s_ial (pc := 75) rw_165_75 hG97 rfl (n := 16) rfl rfl (A := v99.toInt) rfl (by omega) (by omega) (lo := 0) (hi := 59) rfl rfl (fun v101 w_102 _ _ => s_ias (pc := 76) rw_165_76 hG97 rfl (n := 16) rfl (A := x1.toInt) rfl (by omega) (by omega) (fun M104 W103 => ?_))))))))))
      have hG105 := g_w hG97 W103 (A := v101.toInt) rfl (lo := 0) (hi := 59) rfl rfl (by omega) (by decide)
      have F106 := FR.w F98 W103 (show 82 = 77 ∧ (11 ≤ (x1.toInt).toNat ∧ (x1.toInt).toNat ≤ 13 ∨ (x1.toInt).toNat = 28 ∨ (x1.toInt).toNat = 29 ∨ (x1.toInt).toNat = 41 ∨ (x1.toInt).toNat = 57 ∨ (x1.toInt).toNat = 58) ∨ 80 ≤ 82 ∧ 82 ≤ 87 ∨ 82 = 100 by omega)
      refine to_an (pc := 77) rw_165_77 rfl (s_gR (pc := 78) rw_165_78 hG105 rfl (v := 83) rfl (to_in (pc := 81) rw_165_81 rfl (to_an (pc := 82) rw_165_82 rfl (s_gR (pc := 83) rw_165_83 hG105 rfl (v := 83) rfl (to_c (pc := 86) rw_165_86 (x := (8 : Int32)) rfl rfl (to_in (pc := 88) rw_165_88 rfl (s_add (pc := 89) rw_165_89 (A := 8) (B := x1.toInt) rfl rfl (by omega) (fun v107 e108 => s_ial (pc := 90) rw_165_90 hG105 rfl (n := 16) rfl rfl (A := v107.toInt) rfl (by omega) (by omega) (lo := 0) (hi := 63) rfl rfl (fun v109 w_110 _ _ => s_ias (pc := 91) rw_165_91 hG105 rfl (n := 16) rfl (A := x1.toInt) rfl (by omega) (by omega) (fun M112 W111 => ?_))))))))))
      have hG113 := g_w hG105 W111 (A := v109.toInt) rfl (lo := 0) (hi := 63) rfl rfl (by omega) (by decide)
      have F114 := FR.w F106 W111 (show 83 = 77 ∧ (11 ≤ (x1.toInt).toNat ∧ (x1.toInt).toNat ≤ 13 ∨ (x1.toInt).toNat = 28 ∨ (x1.toInt).toNat = 29 ∨ (x1.toInt).toNat = 41 ∨ (x1.toInt).toNat = 57 ∨ (x1.toInt).toNat = 58) ∨ 80 ≤ 83 ∧ 83 ≤ 87 ∨ 83 = 100 by omega)
      refine to_an (pc := 92) rw_165_92 rfl (s_gR (pc := 93) rw_165_93 hG113 rfl (v := 84) rfl (to_in (pc := 96) rw_165_96 rfl (to_an (pc := 97) rw_165_97 rfl (s_gR (pc := 98) rw_165_98 hG113 rfl (v := 84) rfl (to_c (pc := 101) rw_165_101 (x := (8 : Int32)) rfl rfl (to_in (pc := 103) rw_165_103 rfl (s_add (pc := 104) rw_165_104 (A := 8) (B := x1.toInt) rfl rfl (by omega) (fun v115 e116 => s_ial (pc := 105) rw_165_105 hG113 rfl (n := 16) rfl rfl (A := v115.toInt) rfl (by omega) (by omega) (lo := 0) (hi := 24) rfl rfl (fun v117 w_118 _ _ => s_ias (pc := 106) rw_165_106 hG113 rfl (n := 16) rfl (A := x1.toInt) rfl (by omega) (by omega) (fun M120 W119 => ?_))))))))))
      have hG121 := g_w hG113 W119 (A := v117.toInt) rfl (lo := 0) (hi := 24) rfl rfl (by omega) (by decide)
      have F122 := FR.w F114 W119 (show 84 = 77 ∧ (11 ≤ (x1.toInt).toNat ∧ (x1.toInt).toNat ≤ 13 ∨ (x1.toInt).toNat = 28 ∨ (x1.toInt).toNat = 29 ∨ (x1.toInt).toNat = 41 ∨ (x1.toInt).toNat = 57 ∨ (x1.toInt).toNat = 58) ∨ 80 ≤ 84 ∧ 84 ≤ 87 ∨ 84 = 100 by omega)
      refine s_inc (pc := 107) rw_165_107 (ls2 := fun v => [.ref 77, .int v]) rfl rfl (fun _ => rfl) (A := x1.toInt) (B := 1) rfl rfl (by omega) (fun v123 e124 => to_go (pc := 110) rw_165_110 ?_)
      have c_125 : M120.2.1 77 11 = (N.2.1 77 11) := (W_n W119 (fun z => absurd z.1 (by decide)) (W_n W111 (fun z => absurd z.1 (by decide)) (W_n W103 (fun z => absurd z.1 (by decide)) (W_n W95 (fun z => absurd z.1 (by decide)) (W_n W87 (fun z => absurd z.1 (by decide)) rfl)))))
      have c_126 : M120.2.1 77 12 = (N.2.1 77 12) := (W_n W119 (fun z => absurd z.1 (by decide)) (W_n W111 (fun z => absurd z.1 (by decide)) (W_n W103 (fun z => absurd z.1 (by decide)) (W_n W95 (fun z => absurd z.1 (by decide)) (W_n W87 (fun z => absurd z.1 (by decide)) rfl)))))
      have c_127 : M120.2.1 77 13 = (N.2.1 77 13) := (W_n W119 (fun z => absurd z.1 (by decide)) (W_n W111 (fun z => absurd z.1 (by decide)) (W_n W103 (fun z => absurd z.1 (by decide)) (W_n W95 (fun z => absurd z.1 (by decide)) (W_n W87 (fun z => absurd z.1 (by decide)) rfl)))))
      exact ih M120 v123 hG121 F122 (by omega) (by omega) (KP_5 g3 (by omega) rfl (by omega) (show N.2.1 80 (8 + (x1.toInt).toNat) = v85 from (by rw [show 8 + (x1.toInt).toNat = (v83.toInt).toNat by omega]; exact w_86)) W87 (show M88.2.1 81 (8 + (x1.toInt).toNat) = v93 from (by rw [show 8 + (x1.toInt).toNat = (v91.toInt).toNat by omega]; exact w_94)) W95 (show M96.2.1 82 (8 + (x1.toInt).toNat) = v101 from (by rw [show 8 + (x1.toInt).toNat = (v99.toInt).toNat by omega]; exact w_102)) W103 (show M104.2.1 83 (8 + (x1.toInt).toNat) = v109 from (by rw [show 8 + (x1.toInt).toNat = (v107.toInt).toNat by omega]; exact w_110)) W111 (show M112.2.1 84 (8 + (x1.toInt).toNat) = v117 from (by rw [show 8 + (x1.toInt).toNat = (v115.toInt).toNat by omega]; exact w_118)) W119) (KL_f (fun i => (W_j W119 (W_j W111 (W_j W103 (W_j W95 (W_j W87 rfl)))))) g4) (c_125.trans g5) (c_126.trans g6) (c_127.trans g7) (by omega)
set_option maxRecDepth 4000 in
set_option maxHeartbeats 0 in
theorem E_165 {X : mm_X} {d : Nat} {M : mm_M} {Q : Option Value → mm_M → Prop} (hX : g_X X) (hd : 0 ≤ d) (hG : g_G M) (h : ∀ (M1 : mm_M), g_G M1 → FR md_ke M M1 → ((M1.2.1 77 28).toInt = 0) → ((M1.2.1 77 29).toInt = 0) → ((M1.2.1 77 41).toInt = 0) → (∀ s9 : x_S, PLr2 M s9 → PLk2 M1 s9) → Q (none) M1) : mm_T X d 164 0 [.ref 77, .null] [] M Q := by
  have F0 : FR md_ke M M := FR.rf
  refine to_an (pc := 0) rw_165_0 rfl (to_an (pc := 1) rw_165_1 rfl ?_)
  have b_128 := g_b hG (a := 77) (i := 14) (lo := 10) (hi := 60) rfl rfl
  refine tt_gI (pc := 2) rw_165_2 (g_o hG rfl) (v := (M.2.1 77 14)) rfl (s_pI (pc := 5) rw_165_5 hG rfl (fun M130 W129 => ?_))
  have hG131 := g_w hG W129 (A := (M.2.1 77 14).toInt) rfl (lo := 10) (hi := 60) rfl rfl (by omega) (by decide)
  have F132 := FR.w F0 W129 (show 77 = 77 ∧ (11 ≤ 11 ∧ 11 ≤ 13 ∨ 11 = 28 ∨ 11 = 29 ∨ 11 = 41 ∨ 11 = 57 ∨ 11 = 58) ∨ 80 ≤ 77 ∧ 77 ≤ 87 ∨ 77 = 100 by decide)
  refine to_an (pc := 8) rw_165_8 rfl (to_an (pc := 9) rw_165_9 rfl ?_)
  have c_133 : M130.2.1 77 15 = (M.2.1 77 15) := (W_n W129 (by decide) rfl)
  have b_134 := g_b hG (a := 77) (i := 15) (lo := 0) (hi := 8) rfl rfl
  refine tt_gI (pc := 10) rw_165_10 (g_o hG131 rfl) (v := (M.2.1 77 15)) c_133 (s_pI (pc := 13) rw_165_13 hG131 rfl (fun M136 W135 => ?_))
  have hG137 := g_w hG131 W135 (A := (M.2.1 77 15).toInt) rfl (lo := 0) (hi := 8) rfl rfl (by omega) (by decide)
  have F138 := FR.w F132 W135 (show 77 = 77 ∧ (11 ≤ 12 ∧ 12 ≤ 13 ∨ 12 = 28 ∨ 12 = 29 ∨ 12 = 41 ∨ 12 = 57 ∨ 12 = 58) ∨ 80 ≤ 77 ∧ 77 ≤ 87 ∨ 77 = 100 by decide)
  refine to_an (pc := 16) rw_165_16 rfl (to_an (pc := 17) rw_165_17 rfl ?_)
  have c_139 : M136.2.1 77 16 = (M.2.1 77 16) := (W_n W135 (by decide) (W_n W129 (by decide) rfl))
  have b_140 := g_b hG (a := 77) (i := 16) (lo := 0) (hi := 12) rfl rfl
  refine tt_gI (pc := 18) rw_165_18 (g_o hG137 rfl) (v := (M.2.1 77 16)) c_139 (s_pI (pc := 21) rw_165_21 hG137 rfl (fun M142 W141 => ?_))
  have hG143 := g_w hG137 W141 (A := (M.2.1 77 16).toInt) rfl (lo := 0) (hi := 12) rfl rfl (by omega) (by decide)
  have F144 := FR.w F138 W141 (show 77 = 77 ∧ (11 ≤ 13 ∧ 13 ≤ 13 ∨ 13 = 28 ∨ 13 = 29 ∨ 13 = 41 ∨ 13 = 57 ∨ 13 = 58) ∨ 80 ≤ 77 ∧ 77 ≤ 87 ∨ 77 = 100 by decide)
  refine to_c (pc := 24) rw_165_24 (x := (0 : Int32)) rfl rfl (to_isn (pc := 25) rw_165_25 (ls2 := [.ref 77, .int (0 : Int32)]) rfl rfl ?_)
  have k_145 : (0 : Int32).toInt = 0 := rfl
  have c_146 : M142.2.1 77 11 = (M.2.1 77 14) := (W_n W141 (by decide) (W_n W135 (by decide) (W_e W129)))
  have c_147 : M142.2.1 77 12 = (M.2.1 77 15) := (W_n W141 (by decide) (W_e W135))
  have c_148 : M142.2.1 77 13 = (M.2.1 77 16) := (W_e W141)
  exact (U_165_2 hX hd  h ((8 - (0 : Int32).toInt).toNat + 1)) M142 (0 : Int32) hG143 F144 (by omega) (by omega) (KP_0 (fun a i z => (W_n W141 (by /-r77,13-/ omega) (W_n W135 (by /-r77,12-/ omega) (W_n W129 (by /-r77,11-/ omega) rfl))))) (KL_0 (fun i => (W_j W141 (W_j W135 (W_j W129 rfl))))) c_146 c_147 c_148 (by omega)
set_option maxRecDepth 4000 in
set_option maxHeartbeats 0 in
theorem U_173_0 {X : mm_X} {d : Nat} {M : mm_M} {Q : Option Value → mm_M → Prop} {n : Int32} {t : Nat → Int} {nn : Int} (hX : g_X X) (hd : 5 ≤ d) (q1 : (M.2.1 77 7).toInt ≤ (M.2.1 77 6).toInt) (q2 : 0 ≤ n.toInt ∧ n.toInt ≤ (M.2.1 77 1).toInt → n.toInt = nn) (q3 : TR M t nn) (q4 : W9 M) (h : ∀ (r : Int32) (M1 : mm_M), g_G M1 → FR md_P M M1 → (n.toInt < 0 ∨ (M.2.1 77 1).toInt < n.toInt → r.toInt = -2) → ((0 ≤ n.toInt ∧ n.toInt ≤ (M.2.1 77 1).toInt → PAN (x_plan t nn 23 0 x_s0 (x_sk t nn 0)) r.toInt)) → (-2 ≤ r.toInt) → (r.toInt < 0 → (M1.2.1 77 28).toInt = (M.2.1 77 28).toInt ∧ (M1.2.1 77 29).toInt = (M.2.1 77 29).toInt ∧ (M1.2.1 77 41).toInt = (M.2.1 77 41).toInt) → (0 ≤ r.toInt → (M1.2.1 77 28).toInt = 0 ∧ (M1.2.1 77 29).toInt = 0 ∧ (M1.2.1 77 41).toInt = 0) → ((r.toInt < 0 → ∀ s9 : x_S, PLk2 M s9 → PLk2 M1 s9)) → ((0 ≤ r.toInt → ∃ s2 : x_S, x_plan t nn 23 0 x_s0 (x_sk t nn 0) = some (r.toInt, s2) ∧ PLk2 M1 s2)) → Q (some (.int r)) M1) : ∀ nn9 : Nat, (∀ (N : mm_M) (u1 : Value) (x2 : Int32), g_G N → FR md_P M N → (0 ≤ x2.toInt) → (x2.toInt ≤ 22) → (0 ≤ n.toInt) → (n.toInt ≤ (M.2.1 77 1).toInt) → (n.toInt = nn) → (0 ≤ nn) → (nn ≤ 500) → (RS N t nn) → (TR N t nn) → (W9 N) → ((N.2.1 77 28).toInt = (M.2.1 77 28).toInt) → ((N.2.1 77 29).toInt = (M.2.1 77 29).toInt) → ((N.2.1 77 41).toInt = (M.2.1 77 41).toInt) → (∀ s9 : x_S, PLk2 M s9 → PLk2 N s9) → (IVr t nn (x_plan t nn 23 0 x_s0 (x_sk t nn 0)) N x2.toInt (N.2.1 77 10).toInt) → 22 - x2.toInt < (nn9 : Int) → mm_T X d 172 22 [.ref 77, u1, .int x2] [] N Q) := by
  intro nn9
  induction nn9 with
  | zero =>
    intro N u1 x2 hG F0 g1 g2 g3 g4 g5 g6 g7 g8 g9 g10 g11 g12 g13 g14 g15 hm
    have b_1 := g_b hG (a := 77) (i := 28) (lo := 0) (hi := 30) rfl rfl
    have b_2 := g_b hG (a := 77) (i := 29) (lo := 0) (hi := 150) rfl rfl
    exfalso; omega
  | succ nn9 ih =>
    intro N u1 x2 hG F0 g1 g2 g3 g4 g5 g6 g7 g8 g9 g10 g11 g12 g13 g14 g15 hm
    have b_3 := g_b hG (a := 77) (i := 28) (lo := 0) (hi := 30) rfl rfl
    have b_4 := g_b hG (a := 77) (i := 29) (lo := 0) (hi := 150) rfl rfl
    obtain ⟨sg, i_1, i_2, i_3, i_4⟩ := g15
    have i_5 : x2.toInt ≤ 21 := by have q1 : sg.2.1 ≤ 8 := i_1.1.1.2.2.2.1; have q2 : sg.2.2.1 ≤ 12 := i_1.1.1.2.2.2.2.2.1; rcases (show x2.toInt = 0 ∨ 0 < x2.toInt by omega) with z | z; omega; have := i_4 z; omega
    refine to_an (pc := 22) rw_173_22 rfl ?_
    have b_5 := g_b hG (a := 77) (i := 8) (lo := 0) (hi := 5) rfl rfl
    have b_6 := g_b hG (a := 77) (i := 10) (lo := 0) (hi := 500) rfl rfl
    have c_7 := RS_u g8 (a := (N.2.1 77 10).toInt) (by omega)
    unfold x_R at c_7
    refine tt_gI (pc := 23) rw_173_23 (g_o hG rfl) (v := (N.2.1 77 8)) rfl (b_ieq (pc := 26) rw_173_26 (A := (N.2.1 77 8).toInt) rfl (fun h8 => ?_) (fun h8 => ?_))
    · refine to_an (pc := 53) rw_173_53 rfl (s_v (pc := 54) rw_173_54 (dp0 hd (by decide)) (ls0 := [.ref 77, .null]) rfl (Nat.le_of_ble_eq_true rfl) (Nat.le_of_ble_eq_true rfl) rfl (to_rc rfl rfl rfl (g_o hG rfl)) rfl (E_165 hX (dp1 hd (by decide)) hG  (fun M15 hG10 F9 p_11 p_12 p_13 p_14 => ?_)))
      have F16 := FR.c F0 F9 tg_81
      have b_17 := g_b hG10 (a := 77) (i := 28) (lo := 0) (hi := 30) rfl rfl
      have b_18 := g_b hG10 (a := 77) (i := 29) (lo := 0) (hi := 150) rfl rfl
      refine to_in (pc := 57) rw_173_57 rfl (to_r0 (pc := 58) rw_173_58 ?_)
      exact h x2 M15 hG10 F16 (by omega) (fun _ => IVr_e (by omega) i_2 (by omega) rfl) (by omega) (by omega) (by omega) (fun z => by exfalso; omega) (fun _ => ⟨sg, (by rw [← i_2]; exact x_plan_e (by omega) (by omega)), p_14 sg ⟨i_1.1, i_1.2⟩⟩)
    · refine to_an (pc := 29) rw_173_29 rfl (to_in (pc := 30) rw_173_30 rfl (b_ine (pc := 31) rw_173_31 (A := x2.toInt) rfl (fun h19 => ?_) (fun h19 => ?_)))
      · refine to_c (pc := 38) rw_173_38 (x := (0 : Int32)) rfl rfl (s_v (pc := 39) rw_173_39 (dp0 hd (by decide)) (ls0 := [.ref 77, .int (0 : Int32)]) rfl (Nat.le_of_ble_eq_true rfl) (Nat.le_of_ble_eq_true rfl) rfl (to_rc rfl rfl rfl (g_o hG rfl)) rfl ?_)
        have k_20 : (0 : Int32).toInt = 0 := rfl
        refine E_172 hX (dp1 hd (by decide)) hG g8 (by omega) (by omega) (by omega) g9 g10 i_1.1 i_1.2 (by omega) (by omega) (by omega) (by omega) (by omega) (x := (0 : Int32)) (t := t) (nn := nn) (a := (N.2.1 77 10).toInt) (sg := sg) (L := x2.toInt) (fu := (22 - x2.toInt).toNat) (fun r21 M29 hG23 F22 p_24 p_25 p_26 p_27 p_28 => ?_)
        have F30 := FR.c F0 F22 tg_82
        rcases (show r21.toInt = 0 ∨ r21.toInt = 1 by omega) with h31 | h31
        · skip
          have p_32 := p_27 (by omega)
          clear p_27 p_28
          refine b_ine_f (pc := 42) rw_173_42 (A := r21.toInt) rfl (by omega) (to_c (pc := 45) rw_173_45 (x := (-1 : Int32)) rfl rfl (to_r0 (pc := 46) rw_173_46 ?_))
          have k_33 : (-1 : Int32).toInt = -1 := rfl
          have c_34 : M29.2.1 77 28 = (N.2.1 77 28) := (F_n F22 (show ¬ (77 = 77 ∧ (28 = 4 ∨ 28 = 5 ∨ 7 ≤ 28 ∧ 28 ≤ 10 ∨ 14 ≤ 28 ∧ 28 ≤ 16 ∨ 28 = 25) ∨ 80 ≤ 77 ∧ 77 ≤ 84 ∧ 8 ≤ 28 ∨ 85 ≤ 77 ∧ 77 ≤ 87 ∧ 12 ≤ 28) by decide) rfl)
          have t_35 : (M29.2.1 77 28).toInt = (N.2.1 77 28).toInt := congrArg Int32.toInt c_34
          have c_36 : M29.2.1 77 29 = (N.2.1 77 29) := (F_n F22 (show ¬ (77 = 77 ∧ (29 = 4 ∨ 29 = 5 ∨ 7 ≤ 29 ∧ 29 ≤ 10 ∨ 14 ≤ 29 ∧ 29 ≤ 16 ∨ 29 = 25) ∨ 80 ≤ 77 ∧ 77 ≤ 84 ∧ 8 ≤ 29 ∨ 85 ≤ 77 ∧ 77 ≤ 87 ∧ 12 ≤ 29) by decide) rfl)
          have t_37 : (M29.2.1 77 29).toInt = (N.2.1 77 29).toInt := congrArg Int32.toInt c_36
          have c_38 : M29.2.1 77 41 = (N.2.1 77 41) := (F_n F22 (show ¬ (77 = 77 ∧ (41 = 4 ∨ 41 = 5 ∨ 7 ≤ 41 ∧ 41 ≤ 10 ∨ 14 ≤ 41 ∧ 41 ≤ 16 ∨ 41 = 25) ∨ 80 ≤ 77 ∧ 77 ≤ 84 ∧ 8 ≤ 41 ∨ 85 ≤ 77 ∧ 77 ≤ 87 ∧ 12 ≤ 41) by decide) rfl)
          have t_39 : (M29.2.1 77 41).toInt = (N.2.1 77 41).toInt := congrArg Int32.toInt c_38
          exact h (-1 : Int32) M29 hG23 F30 (by omega) (fun _ => Or.inl ⟨IVr_l (by omega) (by omega) i_2 (by omega) p_32, rfl⟩) (by omega) (by omega) (by omega) (fun _ => (fun s9 h9 => PLk2_f (fun a i z => (F_n F22 (show ¬ (a = 77 ∧ (i = 4 ∨ i = 5 ∨ 7 ≤ i ∧ i ≤ 10 ∨ 14 ≤ i ∧ i ≤ 16 ∨ i = 25) ∨ 80 ≤ a ∧ a ≤ 84 ∧ 8 ≤ i ∨ 85 ≤ a ∧ a ≤ 87 ∧ 12 ≤ i) by omega) rfl)) (fun i hi9 => (F_nl F22 (show ¬ (87 = 77 ∧ (i = 4 ∨ i = 5 ∨ 7 ≤ i ∧ i ≤ 10 ∨ 14 ≤ i ∧ i ≤ 16 ∨ i = 25) ∨ 80 ≤ 87 ∧ 87 ≤ 84 ∧ 8 ≤ i ∨ 85 ≤ 87 ∧ 87 ≤ 87 ∧ 12 ≤ i) by omega) rfl)) (g14 s9 h9))) (fun z => by exfalso; omega)
        · skip
          have p_40 := p_28 (by omega)
          clear p_27 p_28
          refine b_ine_t (pc := 42) rw_173_42 (A := r21.toInt) rfl (by omega) (s_inc (pc := 47) rw_173_47 (ls2 := fun v => [.ref 77, u1, .int v]) rfl rfl (fun _ => rfl) (A := x2.toInt) (B := 1) rfl rfl (by omega) (fun v41 e42 => to_go (pc := 50) rw_173_50 ?_))
          have j_43 := (TR_f (tg_69 F22) g9)
          have j_44 := (W9_f (tg_70 F22) g10)
          have c_45 : M29.2.1 77 28 = (N.2.1 77 28) := (F_n F22 (show ¬ (77 = 77 ∧ (28 = 4 ∨ 28 = 5 ∨ 7 ≤ 28 ∧ 28 ≤ 10 ∨ 14 ≤ 28 ∧ 28 ≤ 16 ∨ 28 = 25) ∨ 80 ≤ 77 ∧ 77 ≤ 84 ∧ 8 ≤ 28 ∨ 85 ≤ 77 ∧ 77 ≤ 87 ∧ 12 ≤ 28) by decide) rfl)
          have t_46 : (M29.2.1 77 28).toInt = (N.2.1 77 28).toInt := congrArg Int32.toInt c_45
          have c_47 : M29.2.1 77 29 = (N.2.1 77 29) := (F_n F22 (show ¬ (77 = 77 ∧ (29 = 4 ∨ 29 = 5 ∨ 7 ≤ 29 ∧ 29 ≤ 10 ∨ 14 ≤ 29 ∧ 29 ≤ 16 ∨ 29 = 25) ∨ 80 ≤ 77 ∧ 77 ≤ 84 ∧ 8 ≤ 29 ∨ 85 ≤ 77 ∧ 77 ≤ 87 ∧ 12 ≤ 29) by decide) rfl)
          have t_48 : (M29.2.1 77 29).toInt = (N.2.1 77 29).toInt := congrArg Int32.toInt c_47
          have c_49 : M29.2.1 77 41 = (N.2.1 77 41) := (F_n F22 (show ¬ (77 = 77 ∧ (41 = 4 ∨ 41 = 5 ∨ 7 ≤ 41 ∧ 41 ≤ 10 ∨ 14 ≤ 41 ∧ 41 ≤ 16 ∨ 41 = 25) ∨ 80 ≤ 77 ∧ 77 ≤ 84 ∧ 8 ≤ 41 ∨ 85 ≤ 77 ∧ 77 ≤ 87 ∧ 12 ≤ 41) by decide) rfl)
          have t_50 : (M29.2.1 77 41).toInt = (N.2.1 77 41).toInt := congrArg Int32.toInt c_49
          have b_51 := g_b hG23 (a := 77) (i := 10) (lo := 0) (hi := 500) rfl rfl
          exact ih M29 (u1) v41 hG23 F30 (by omega) (by omega) (by omega) (by omega) (by omega) (by omega) (by omega) p_26 j_43 j_44 (by omega) (by omega) (by omega) (fun s9 h9 => PLk2_f (fun a i z => (F_n F22 (show ¬ (a = 77 ∧ (i = 4 ∨ i = 5 ∨ 7 ≤ i ∧ i ≤ 10 ∨ 14 ≤ i ∧ i ≤ 16 ∨ i = 25) ∨ 80 ≤ a ∧ a ≤ 84 ∧ 8 ≤ i ∨ 85 ≤ a ∧ a ≤ 87 ∧ 12 ≤ i) by omega) rfl)) (fun i hi9 => (F_nl F22 (show ¬ (87 = 77 ∧ (i = 4 ∨ i = 5 ∨ 7 ≤ i ∧ i ≤ 10 ∨ 14 ≤ i ∧ i ≤ 16 ∨ i = 25) ∨ 80 ≤ 87 ∧ 87 ≤ 84 ∧ 8 ≤ i ∨ 85 ≤ 87 ∧ 87 ≤ 87 ∧ 12 ≤ i) by omega) rfl)) (g14 s9 h9)) (IVr_s (by omega) (by omega) i_2 (by omega) i_3 i_4 p_40 rfl (by omega)) (by omega)
      · refine to_c (pc := 34) rw_173_34 (x := (1 : Int32)) rfl rfl (to_go (pc := 35) rw_173_35 (s_v (pc := 39) rw_173_39 (dp0 hd (by decide)) (ls0 := [.ref 77, .int (1 : Int32)]) rfl (Nat.le_of_ble_eq_true rfl) (Nat.le_of_ble_eq_true rfl) rfl (to_rc rfl rfl rfl (g_o hG rfl)) rfl ?_))
        have k_52 : (1 : Int32).toInt = 1 := rfl
        refine E_172 hX (dp1 hd (by decide)) hG g8 (by omega) (by omega) (by omega) g9 g10 i_1.1 i_1.2 (by omega) (by omega) (by omega) (by omega) (by omega) (x := (1 : Int32)) (t := t) (nn := nn) (a := (N.2.1 77 10).toInt) (sg := sg) (L := x2.toInt) (fu := (22 - x2.toInt).toNat) (fun r53 M61 hG55 F54 p_56 p_57 p_58 p_59 p_60 => ?_)
        have F62 := FR.c F0 F54 tg_82
        rcases (show r53.toInt = 0 ∨ r53.toInt = 1 by omega) with h63 | h63
        · skip
          have p_64 := p_59 (by omega)
          clear p_59 p_60
          refine b_ine_f (pc := 42) rw_173_42 (A := r53.toInt) rfl (by omega) (to_c (pc := 45) rw_173_45 (x := (-1 : Int32)) rfl rfl (to_r0 (pc := 46) rw_173_46 ?_))
          have k_65 : (-1 : Int32).toInt = -1 := rfl
          have c_66 : M61.2.1 77 28 = (N.2.1 77 28) := (F_n F54 (show ¬ (77 = 77 ∧ (28 = 4 ∨ 28 = 5 ∨ 7 ≤ 28 ∧ 28 ≤ 10 ∨ 14 ≤ 28 ∧ 28 ≤ 16 ∨ 28 = 25) ∨ 80 ≤ 77 ∧ 77 ≤ 84 ∧ 8 ≤ 28 ∨ 85 ≤ 77 ∧ 77 ≤ 87 ∧ 12 ≤ 28) by decide) rfl)
          have t_67 : (M61.2.1 77 28).toInt = (N.2.1 77 28).toInt := congrArg Int32.toInt c_66
          have c_68 : M61.2.1 77 29 = (N.2.1 77 29) := (F_n F54 (show ¬ (77 = 77 ∧ (29 = 4 ∨ 29 = 5 ∨ 7 ≤ 29 ∧ 29 ≤ 10 ∨ 14 ≤ 29 ∧ 29 ≤ 16 ∨ 29 = 25) ∨ 80 ≤ 77 ∧ 77 ≤ 84 ∧ 8 ≤ 29 ∨ 85 ≤ 77 ∧ 77 ≤ 87 ∧ 12 ≤ 29) by decide) rfl)
          have t_69 : (M61.2.1 77 29).toInt = (N.2.1 77 29).toInt := congrArg Int32.toInt c_68
          have c_70 : M61.2.1 77 41 = (N.2.1 77 41) := (F_n F54 (show ¬ (77 = 77 ∧ (41 = 4 ∨ 41 = 5 ∨ 7 ≤ 41 ∧ 41 ≤ 10 ∨ 14 ≤ 41 ∧ 41 ≤ 16 ∨ 41 = 25) ∨ 80 ≤ 77 ∧ 77 ≤ 84 ∧ 8 ≤ 41 ∨ 85 ≤ 77 ∧ 77 ≤ 87 ∧ 12 ≤ 41) by decide) rfl)
          have t_71 : (M61.2.1 77 41).toInt = (N.2.1 77 41).toInt := congrArg Int32.toInt c_70
          exact h (-1 : Int32) M61 hG55 F62 (by omega) (fun _ => Or.inl ⟨IVr_l (by omega) (by omega) i_2 (by omega) p_64, rfl⟩) (by omega) (by omega) (by omega) (fun _ => (fun s9 h9 => PLk2_f (fun a i z => (F_n F54 (show ¬ (a = 77 ∧ (i = 4 ∨ i = 5 ∨ 7 ≤ i ∧ i ≤ 10 ∨ 14 ≤ i ∧ i ≤ 16 ∨ i = 25) ∨ 80 ≤ a ∧ a ≤ 84 ∧ 8 ≤ i ∨ 85 ≤ a ∧ a ≤ 87 ∧ 12 ≤ i) by omega) rfl)) (fun i hi9 => (F_nl F54 (show ¬ (87 = 77 ∧ (i = 4 ∨ i = 5 ∨ 7 ≤ i ∧ i ≤ 10 ∨ 14 ≤ i ∧ i ≤ 16 ∨ i = 25) ∨ 80 ≤ 87 ∧ 87 ≤ 84 ∧ 8 ≤ i ∨ 85 ≤ 87 ∧ 87 ≤ 87 ∧ 12 ≤ i) by omega) rfl)) (g14 s9 h9))) (fun z => by exfalso; omega)
        · skip
          have p_72 := p_60 (by omega)
          clear p_59 p_60
          refine b_ine_t (pc := 42) rw_173_42 (A := r53.toInt) rfl (by omega) (s_inc (pc := 47) rw_173_47 (ls2 := fun v => [.ref 77, u1, .int v]) rfl rfl (fun _ => rfl) (A := x2.toInt) (B := 1) rfl rfl (by omega) (fun v73 e74 => to_go (pc := 50) rw_173_50 ?_))
          have j_75 := (TR_f (tg_69 F54) g9)
          have j_76 := (W9_f (tg_70 F54) g10)
          have c_77 : M61.2.1 77 28 = (N.2.1 77 28) := (F_n F54 (show ¬ (77 = 77 ∧ (28 = 4 ∨ 28 = 5 ∨ 7 ≤ 28 ∧ 28 ≤ 10 ∨ 14 ≤ 28 ∧ 28 ≤ 16 ∨ 28 = 25) ∨ 80 ≤ 77 ∧ 77 ≤ 84 ∧ 8 ≤ 28 ∨ 85 ≤ 77 ∧ 77 ≤ 87 ∧ 12 ≤ 28) by decide) rfl)
          have t_78 : (M61.2.1 77 28).toInt = (N.2.1 77 28).toInt := congrArg Int32.toInt c_77
          have c_79 : M61.2.1 77 29 = (N.2.1 77 29) := (F_n F54 (show ¬ (77 = 77 ∧ (29 = 4 ∨ 29 = 5 ∨ 7 ≤ 29 ∧ 29 ≤ 10 ∨ 14 ≤ 29 ∧ 29 ≤ 16 ∨ 29 = 25) ∨ 80 ≤ 77 ∧ 77 ≤ 84 ∧ 8 ≤ 29 ∨ 85 ≤ 77 ∧ 77 ≤ 87 ∧ 12 ≤ 29) by decide) rfl)
          have t_80 : (M61.2.1 77 29).toInt = (N.2.1 77 29).toInt := congrArg Int32.toInt c_79
          have c_81 : M61.2.1 77 41 = (N.2.1 77 41) := (F_n F54 (show ¬ (77 = 77 ∧ (41 = 4 ∨ 41 = 5 ∨ 7 ≤ 41 ∧ 41 ≤ 10 ∨ 14 ≤ 41 ∧ 41 ≤ 16 ∨ 41 = 25) ∨ 80 ≤ 77 ∧ 77 ≤ 84 ∧ 8 ≤ 41 ∨ 85 ≤ 77 ∧ 77 ≤ 87 ∧ 12 ≤ 41) by decide) rfl)
          have t_82 : (M61.2.1 77 41).toInt = (N.2.1 77 41).toInt := congrArg Int32.toInt c_81
          have b_83 := g_b hG55 (a := 77) (i := 10) (lo := 0) (hi := 500) rfl rfl
          exact ih M61 (u1) v73 hG55 F62 (by omega) (by omega) (by omega) (by omega) (by omega) (by omega) (by omega) p_58 j_75 j_76 (by omega) (by omega) (by omega) (fun s9 h9 => PLk2_f (fun a i z => (F_n F54 (show ¬ (a = 77 ∧ (i = 4 ∨ i = 5 ∨ 7 ≤ i ∧ i ≤ 10 ∨ 14 ≤ i ∧ i ≤ 16 ∨ i = 25) ∨ 80 ≤ a ∧ a ≤ 84 ∧ 8 ≤ i ∨ 85 ≤ a ∧ a ≤ 87 ∧ 12 ≤ i) by omega) rfl)) (fun i hi9 => (F_nl F54 (show ¬ (87 = 77 ∧ (i = 4 ∨ i = 5 ∨ 7 ≤ i ∧ i ≤ 10 ∨ 14 ≤ i ∧ i ≤ 16 ∨ i = 25) ∨ 80 ≤ 87 ∧ 87 ≤ 84 ∧ 8 ≤ i ∨ 85 ≤ 87 ∧ 87 ≤ 87 ∧ 12 ≤ i) by omega) rfl)) (g14 s9 h9)) (IVr_s (by omega) (by omega) i_2 (by omega) i_3 i_4 p_72 rfl (by omega)) (by omega)
set_option maxRecDepth 4000 in
set_option maxHeartbeats 0 in
theorem E_173 {X : mm_X} {d : Nat} {M : mm_M} {Q : Option Value → mm_M → Prop} {n : Int32} {t : Nat → Int} {nn : Int} (hX : g_X X) (hd : 5 ≤ d) (hG : g_G M) (q1 : (M.2.1 77 7).toInt ≤ (M.2.1 77 6).toInt) (q2 : 0 ≤ n.toInt ∧ n.toInt ≤ (M.2.1 77 1).toInt → n.toInt = nn) (q3 : TR M t nn) (q4 : W9 M) (h : ∀ (r : Int32) (M1 : mm_M), g_G M1 → FR md_P M M1 → (n.toInt < 0 ∨ (M.2.1 77 1).toInt < n.toInt → r.toInt = -2) → ((0 ≤ n.toInt ∧ n.toInt ≤ (M.2.1 77 1).toInt → PAN (x_plan t nn 23 0 x_s0 (x_sk t nn 0)) r.toInt)) → (-2 ≤ r.toInt) → (r.toInt < 0 → (M1.2.1 77 28).toInt = (M.2.1 77 28).toInt ∧ (M1.2.1 77 29).toInt = (M.2.1 77 29).toInt ∧ (M1.2.1 77 41).toInt = (M.2.1 77 41).toInt) → (0 ≤ r.toInt → (M1.2.1 77 28).toInt = 0 ∧ (M1.2.1 77 29).toInt = 0 ∧ (M1.2.1 77 41).toInt = 0) → ((r.toInt < 0 → ∀ s9 : x_S, PLk2 M s9 → PLk2 M1 s9)) → ((0 ≤ r.toInt → ∃ s2 : x_S, x_plan t nn 23 0 x_s0 (x_sk t nn 0) = some (r.toInt, s2) ∧ PLk2 M1 s2)) → Q (some (.int r)) M1) : mm_T X d 172 0 [.ref 77, .int n, .null] [] M Q := by
  have F0 : FR md_P M M := FR.rf
  have b_84 := g_b hG (a := 77) (i := 7) (lo := 0) (hi := 500) rfl rfl
  have b_85 := g_b hG (a := 77) (i := 6) (lo := 0) (hi := 500) rfl rfl
  have b_86 := g_b hG (a := 77) (i := 1) (lo := 0) (hi := 500) rfl rfl
  refine to_an (pc := 0) rw_173_0 rfl (to_c (pc := 1) rw_173_1 (x := (0 : Int32)) rfl rfl (s_pI (pc := 2) rw_173_2 hG rfl (fun M88 W87 => ?_)))
  have hG89 := g_wf hG W87 rfl rfl (by decide)
  have F90 := FR.w F0 W87 (show 77 = 77 ∨ 79 < 77 ∧ 77 ≤ 87 ∨ 77 = 100 by decide)
  refine to_an (pc := 5) rw_173_5 rfl (to_in (pc := 6) rw_173_6 rfl (s_v (pc := 7) rw_173_7 (dp0 hd (by decide)) (ls0 := [.ref 77, .int n]) rfl (Nat.le_of_ble_eq_true rfl) (Nat.le_of_ble_eq_true rfl) rfl (to_rc rfl rfl rfl (g_o hG89 rfl)) rfl ?_))
  have c_91 : M88.2.1 77 1 = (M.2.1 77 1) := (W_n W87 (by decide) rfl)
  have t_92 : (M88.2.1 77 1).toInt = (M.2.1 77 1).toInt := congrArg Int32.toInt c_91
  have c_93 : M88.2.1 77 7 = (M.2.1 77 7) := (W_n W87 (by decide) rfl)
  have t_94 : (M88.2.1 77 7).toInt = (M.2.1 77 7).toInt := congrArg Int32.toInt c_93
  have c_95 : M88.2.1 77 6 = (M.2.1 77 6) := (W_n W87 (by decide) rfl)
  have t_96 : (M88.2.1 77 6).toInt = (M.2.1 77 6).toInt := congrArg Int32.toInt c_95
  have j_97 := (TR_f (fun a i z => W_n W87 (tg_88 a i z) rfl) q3)
  have j_98 := (W9_f (fun a i z => W_n W87 (tg_89 a i z) rfl) q4)
  refine E_163 hX (dp1 hd (by decide)) hG89 (by omega) (by omega) j_97 j_98 (n := n) (fun r99 M108 hG101 F100 p_102 p_103 p_104 p_105 p_106 p_107 => ?_)
  have F109 := FR.c F90 F100 tg_83
  have b_110 := g_b hG101 (a := 77) (i := 7) (lo := 0) (hi := 500) rfl rfl
  have b_111 := g_b hG101 (a := 77) (i := 6) (lo := 0) (hi := 500) rfl rfl
  have b_112 := g_b hG101 (a := 77) (i := 1) (lo := 0) (hi := 500) rfl rfl
  rcases (show r99.toInt = 0 ∨ r99.toInt = 1 by omega) with h113 | h113
  · skip
    clear p_107
    refine b_ine_f (pc := 10) rw_173_10 (A := r99.toInt) rfl (by omega) (to_c (pc := 13) rw_173_13 (x := (-2 : Int32)) rfl rfl (to_r0 (pc := 15) rw_173_15 ?_))
    have k_114 : (-2 : Int32).toInt = -2 := rfl
    have c_115 : M108.2.1 77 28 = (M.2.1 77 28) := (F_n F100 (show ¬ (77 = 77 ∧ (28 = 1 ∨ 4 ≤ 28 ∧ 28 ≤ 10)) by decide) (W_n W87 (by decide) rfl))
    have b_116 := g_b hG (a := 77) (i := 28) (lo := 0) (hi := 30) rfl rfl
    have t_117 : (M108.2.1 77 28).toInt = (M.2.1 77 28).toInt := congrArg Int32.toInt c_115
    have c_118 : M108.2.1 77 29 = (M.2.1 77 29) := (F_n F100 (show ¬ (77 = 77 ∧ (29 = 1 ∨ 4 ≤ 29 ∧ 29 ≤ 10)) by decide) (W_n W87 (by decide) rfl))
    have b_119 := g_b hG (a := 77) (i := 29) (lo := 0) (hi := 150) rfl rfl
    have t_120 : (M108.2.1 77 29).toInt = (M.2.1 77 29).toInt := congrArg Int32.toInt c_118
    have c_121 : M108.2.1 77 41 = (M.2.1 77 41) := (F_n F100 (show ¬ (77 = 77 ∧ (41 = 1 ∨ 4 ≤ 41 ∧ 41 ≤ 10)) by decide) (W_n W87 (by decide) rfl))
    have t_122 : (M108.2.1 77 41).toInt = (M.2.1 77 41).toInt := congrArg Int32.toInt c_121
    exact h (-2 : Int32) M108 hG101 F109 (by omega) (fun z => by exfalso; omega) (by omega) (by omega) (by omega) (fun _ => (fun s9 h9 => PLk2_f (fun a i z => (F_n F100 (show ¬ (a = 77 ∧ (i = 1 ∨ 4 ≤ i ∧ i ≤ 10)) by omega) (W_n W87 (by /-r77,2-/ omega) rfl))) (fun i hi9 => (F_nl F100 (show ¬ (87 = 77 ∧ (i = 1 ∨ 4 ≤ i ∧ i ≤ 10)) by omega) (W_j W87 rfl))) h9)) (fun z => by exfalso; omega)
  · skip
    have p_123 := p_107 (by omega)
    clear p_107
    have b_124 := g_b hG101 (a := 77) (i := 10) (lo := 0) (hi := 500) rfl rfl
    have z_125 := p_123.2
    refine b_ine_t (pc := 10) rw_173_10 (A := r99.toInt) rfl (by omega) (to_an (pc := 16) rw_173_16 rfl (s_v (pc := 17) rw_173_17 (dp0 hd (by decide)) (ls0 := [.ref 77]) rfl (Nat.le_of_ble_eq_true rfl) (Nat.le_of_ble_eq_true rfl) rfl (to_rc rfl rfl rfl (g_o hG101 rfl)) rfl (E_164 hX (dp1 hd (by decide)) hG101  (fun M129 hG127 F126 p_128 => ?_))))
    have F130 := FR.c F109 F126 tg_84
    refine to_c (pc := 20) rw_173_20 (x := (0 : Int32)) rfl rfl (to_isn (pc := 21) rw_173_21 (ls2 := [.ref 77, .int n, .int (0 : Int32)]) rfl rfl ?_)
    have k_131 : (0 : Int32).toInt = 0 := rfl
    have j_132 := (RS_f (tg_71 F126) p_123.1)
    have j_133 := (TR_f (tg_72 F126) (TR_f (tg_73 F100) j_97))
    have j_134 := (W9_f (tg_74 F126) (W9_f (tg_75 F100) j_98))
    have c_135 : M129.2.1 77 28 = (M.2.1 77 28) := (F_n F126 (show ¬ (77 = 77 ∧ (14 ≤ 28 ∧ 28 ≤ 16 ∨ 28 = 25)) by decide) (F_n F100 (show ¬ (77 = 77 ∧ (28 = 1 ∨ 4 ≤ 28 ∧ 28 ≤ 10)) by decide) (W_n W87 (by decide) rfl)))
    have b_136 := g_b hG (a := 77) (i := 28) (lo := 0) (hi := 30) rfl rfl
    have t_137 : (M129.2.1 77 28).toInt = (M.2.1 77 28).toInt := congrArg Int32.toInt c_135
    have c_138 : M129.2.1 77 29 = (M.2.1 77 29) := (F_n F126 (show ¬ (77 = 77 ∧ (14 ≤ 29 ∧ 29 ≤ 16 ∨ 29 = 25)) by decide) (F_n F100 (show ¬ (77 = 77 ∧ (29 = 1 ∨ 4 ≤ 29 ∧ 29 ≤ 10)) by decide) (W_n W87 (by decide) rfl)))
    have b_139 := g_b hG (a := 77) (i := 29) (lo := 0) (hi := 150) rfl rfl
    have t_140 : (M129.2.1 77 29).toInt = (M.2.1 77 29).toInt := congrArg Int32.toInt c_138
    have c_141 : M129.2.1 77 41 = (M.2.1 77 41) := (F_n F126 (show ¬ (77 = 77 ∧ (14 ≤ 41 ∧ 41 ≤ 16 ∨ 41 = 25)) by decide) (F_n F100 (show ¬ (77 = 77 ∧ (41 = 1 ∨ 4 ≤ 41 ∧ 41 ≤ 10)) by decide) (W_n W87 (by decide) rfl)))
    have t_142 : (M129.2.1 77 41).toInt = (M.2.1 77 41).toInt := congrArg Int32.toInt c_141
    have c_143 : M129.2.1 77 10 = (M108.2.1 77 10) := (F_n F126 (show ¬ (77 = 77 ∧ (14 ≤ 10 ∧ 10 ≤ 16 ∨ 10 = 25)) by decide) rfl)
    have t_144 : (M129.2.1 77 10).toInt = (M108.2.1 77 10).toInt := congrArg Int32.toInt c_143
    exact (U_173_0 (n := n) (t := t) (nn := nn) hX hd q1 q2 q3 q4 h ((22 - (0 : Int32).toInt).toNat + 1)) M129 (.int n) (0 : Int32) hG127 F130 (by omega) (by omega) (by omega) (by omega) (by omega) (by omega) (by omega) j_132 j_133 j_134 (by omega) (by omega) (by omega) (fun s9 h9 => PLk2_f (fun a i z => (F_n F126 (show ¬ (a = 77 ∧ (14 ≤ i ∧ i ≤ 16 ∨ i = 25)) by omega) (F_n F100 (show ¬ (a = 77 ∧ (i = 1 ∨ 4 ≤ i ∧ i ≤ 10)) by omega) (W_n W87 (by /-r77,2-/ omega) rfl)))) (fun i hi9 => (F_nl F126 (show ¬ (87 = 77 ∧ (14 ≤ i ∧ i ≤ 16 ∨ i = 25)) by omega) (F_nl F100 (show ¬ (87 = 77 ∧ (i = 1 ∨ 4 ≤ i ∧ i ≤ 10)) by omega) (W_j W87 rfl)))) h9) (IVr_0 ⟨p_128, CWr_0⟩ (by omega) (by omega)) (by omega)
end
section
theorem tg_90 : ∀ a i : Nat, (a < 0) → (a = 77 ∧ i = 2) := fun a i z => by omega
theorem tg_91 : ∀ a i : Nat, (a = 77 ∧ 11 ≤ i ∧ i ≤ 13 ∨ 80 ≤ a ∧ a ≤ 84 ∧ i < 8 ∨ 85 ≤ a ∧ a ≤ 86 ∧ i < 12) → ¬ (a = 77 ∧ i = 2) := fun a i z => by omega
theorem tg_92 : ∀ a i : Nat, (7 ≤ a ∧ a ≤ 9) → ¬ (a = 17 ∧ i = 4) := fun a i z => by omega
theorem tg_93 : ∀ a i : Nat, (a = 68 ∨ a = 69 ∨ a = 73 ∨ a = 74) → ¬ (a = 17 ∧ i = 4) := fun a i z => by omega
theorem tg_94 : ∀ a i : Nat, (81 ≤ a ∧ a ≤ 84) → ¬ (a = 77 ∧ i = 2) := fun a i z => by omega
theorem tg_95 : ∀ a i : Nat, 88 ≤ a ∧ a ≤ 89 → ¬ (a = 77 ∧ i = 2) := fun a i z => by omega
set_option maxRecDepth 4000 in
set_option maxHeartbeats 0 in
theorem U_175_0 {X : mm_X} {d : Nat} {M : mm_M} {Q : Option Value → mm_M → Prop} {n : Int32} {sg : x_S} (hX : g_X X) (hd : 0 ≤ d) (q1 : PLk M sg) (h : ∀ (r : Int32) (M1 : mm_M), g_G M1 → FR md_0 M M1 → (-1 ≤ r.toInt) → (r.toInt ≤ 7) → (r.toInt = x_fn sg 1 n.toInt) → Q (some (.int r)) M1) : ∀ nn9 : Nat, (∀ (N : mm_M) (x2 : Int32), g_G N → FR md_0 M N → (0 ≤ x2.toInt) → (x2.toInt ≤ 8) → (x2.toInt ≤ sg.2.1) → (PLk N sg) → (x_find (sg.2.2.2.2 1) n.toInt (sg.2.1 - x2.toInt).toNat (x2.toInt).toNat = x_fn sg 1 n.toInt) → 8 - x2.toInt < (nn9 : Int) → mm_T X d 174 2 [.ref 77, .int n, .int x2] [] N Q) := by
  intro nn9
  induction nn9 with
  | zero =>
    intro N x2 hG F0 g1 g2 g3 g4 g5 hm
    exfalso; omega
  | succ nn9 ih =>
    intro N x2 hG F0 g1 g2 g3 g4 g5 hm
    have z_1 := g4.2.1
    have z_2 := g4.2.2.1
    have z_3 := g4.2.2.2.1
    have z_4 := g4.1
    have z_5 := z_4.1
    have z_6 := z_4.2.1
    have z_7 := z_4.2.2.1
    have z_8 := z_4.2.2.2.1
    have z_9 := z_4.2.2.2.2.1
    have z_10 := z_4.2.2.2.2.2.1
    have b_11 := g_b hG (a := 77) (i := 11) (lo := 10) (hi := 60) rfl rfl
    have b_12 := g_b hG (a := 77) (i := 12) (lo := 0) (hi := 8) rfl rfl
    have b_13 := g_b hG (a := 77) (i := 13) (lo := 0) (hi := 12) rfl rfl
    refine to_in (pc := 2) rw_175_2 rfl (to_an (pc := 3) rw_175_3 rfl (tt_gI (pc := 4) rw_175_4 (g_o hG rfl) (v := (N.2.1 77 12)) rfl (b_cge (pc := 7) rw_175_7 (A := x2.toInt) (B := (N.2.1 77 12).toInt) rfl rfl (fun h14 => ?_) (fun h14 => ?_))))
    · refine to_c (pc := 28) rw_175_28 (x := (-1 : Int32)) rfl rfl (to_r0 (pc := 29) rw_175_29 ?_)
      have k_15 : (-1 : Int32).toInt = -1 := rfl
      have z_16 := x_fi_n (g := (sg.2.2.2.2 1)) (v := n.toInt) (n := sg.2.1) (x3 := x2.toInt) (by omega) g5
      exact h (-1 : Int32) N hG F0 (by omega) (by omega) (by omega)
    · refine to_an (pc := 10) rw_175_10 rfl (s_gR (pc := 11) rw_175_11 hG rfl (v := 80) rfl (to_in (pc := 14) rw_175_14 rfl (s_ial (pc := 15) rw_175_15 hG rfl (n := 16) rfl rfl (A := x2.toInt) rfl (by omega) (by omega) (lo := -2147483648) (hi := 2147483647) rfl rfl (fun v17 w_18 _ _ => ?_))))
      have z_19 := PLk_r g4 1 80 rfl (by decide) (by decide) (k := x2.toInt) (by omega) (by omega) w_18
      refine to_in (pc := 16) rw_175_16 rfl (b_cne (pc := 17) rw_175_17 (A := v17.toInt) (B := n.toInt) rfl rfl (fun h20 => ?_) (fun h20 => ?_))
      · refine s_inc (pc := 22) rw_175_22 (ls2 := fun v => [.ref 77, .int n, .int v]) rfl rfl (fun _ => rfl) (A := x2.toInt) (B := 1) rfl rfl (by omega) (fun v21 e22 => to_go (pc := 25) rw_175_25 ?_)
        exact ih N v21 hG F0 (by omega) (by omega) (by omega) g4 (x_fi_e (g := (sg.2.2.2.2 1)) (n := sg.2.1) (x3 := x2.toInt) (y := v21.toInt) (by omega) (by omega) (show ¬ x_row sg 1 x2.toInt = n.toInt by omega) (by omega) g5) (by omega)
      · refine to_in (pc := 20) rw_175_20 rfl (to_r0 (pc := 21) rw_175_21 ?_)
        have z_23 := x_fi_y (g := (sg.2.2.2.2 1)) (v := n.toInt) (n := sg.2.1) (x3 := x2.toInt) (by omega) (by omega) (show x_row sg 1 x2.toInt = n.toInt by omega) g5
        exact h x2 N hG F0 (by omega) (by omega) (by omega)
set_option maxRecDepth 4000 in
set_option maxHeartbeats 0 in
theorem E_175 {X : mm_X} {d : Nat} {M : mm_M} {Q : Option Value → mm_M → Prop} {n : Int32} {sg : x_S} (hX : g_X X) (hd : 0 ≤ d) (hG : g_G M) (q1 : PLk M sg) (h : ∀ (r : Int32) (M1 : mm_M), g_G M1 → FR md_0 M M1 → (-1 ≤ r.toInt) → (r.toInt ≤ 7) → (r.toInt = x_fn sg 1 n.toInt) → Q (some (.int r)) M1) : mm_T X d 174 0 [.ref 77, .int n, .null] [] M Q := by
  have F0 : FR md_0 M M := FR.rf
  have z_24 := q1.2.1
  have z_25 := q1.2.2.1
  have z_26 := q1.2.2.2.1
  have z_27 := q1.1
  have z_28 := z_27.1
  have z_29 := z_27.2.1
  have z_30 := z_27.2.2.1
  have z_31 := z_27.2.2.2.1
  have z_32 := z_27.2.2.2.2.1
  have z_33 := z_27.2.2.2.2.2.1
  have b_34 := g_b hG (a := 77) (i := 11) (lo := 10) (hi := 60) rfl rfl
  have b_35 := g_b hG (a := 77) (i := 12) (lo := 0) (hi := 8) rfl rfl
  have b_36 := g_b hG (a := 77) (i := 13) (lo := 0) (hi := 12) rfl rfl
  refine to_c (pc := 0) rw_175_0 (x := (0 : Int32)) rfl rfl (to_isn (pc := 1) rw_175_1 (ls2 := [.ref 77, .int n, .int (0 : Int32)]) rfl rfl ?_)
  have k_37 : (0 : Int32).toInt = 0 := rfl
  exact (U_175_0 (n := n) (sg := sg) hX hd q1 h ((8 - (0 : Int32).toInt).toNat + 1)) M (0 : Int32) hG F0 (by omega) (by omega) (by omega) q1 (by rw [show (sg.2.1 - (0 : Int32).toInt).toNat = (sg.2.1).toNat by rw [show (0 : Int32).toInt = 0 from rfl]; congr 1; omega]; rfl) (by omega)
set_option maxRecDepth 4000 in
set_option maxHeartbeats 0 in
theorem U_176_0 {X : mm_X} {d : Nat} {M : mm_M} {Q : Option Value → mm_M → Prop} {n : Int32} {sg : x_S} (hX : g_X X) (hd : 0 ≤ d) (q1 : PLk M sg) (h : ∀ (r : Int32) (M1 : mm_M), g_G M1 → FR md_0 M M1 → (-1 ≤ r.toInt) → (r.toInt ≤ 11) → (r.toInt = x_fn sg 6 n.toInt) → Q (some (.int r)) M1) : ∀ nn9 : Nat, (∀ (N : mm_M) (x2 : Int32), g_G N → FR md_0 M N → (0 ≤ x2.toInt) → (x2.toInt ≤ 12) → (x2.toInt ≤ sg.2.2.1) → (PLk N sg) → (x_find (sg.2.2.2.2 6) n.toInt (sg.2.2.1 - x2.toInt).toNat (x2.toInt).toNat = x_fn sg 6 n.toInt) → 12 - x2.toInt < (nn9 : Int) → mm_T X d 175 2 [.ref 77, .int n, .int x2] [] N Q) := by
  intro nn9
  induction nn9 with
  | zero =>
    intro N x2 hG F0 g1 g2 g3 g4 g5 hm
    exfalso; omega
  | succ nn9 ih =>
    intro N x2 hG F0 g1 g2 g3 g4 g5 hm
    have z_1 := g4.2.1
    have z_2 := g4.2.2.1
    have z_3 := g4.2.2.2.1
    have z_4 := g4.1
    have z_5 := z_4.1
    have z_6 := z_4.2.1
    have z_7 := z_4.2.2.1
    have z_8 := z_4.2.2.2.1
    have z_9 := z_4.2.2.2.2.1
    have z_10 := z_4.2.2.2.2.2.1
    have b_11 := g_b hG (a := 77) (i := 11) (lo := 10) (hi := 60) rfl rfl
    have b_12 := g_b hG (a := 77) (i := 12) (lo := 0) (hi := 8) rfl rfl
    have b_13 := g_b hG (a := 77) (i := 13) (lo := 0) (hi := 12) rfl rfl
    refine to_in (pc := 2) rw_176_2 rfl (to_an (pc := 3) rw_176_3 rfl (tt_gI (pc := 4) rw_176_4 (g_o hG rfl) (v := (N.2.1 77 13)) rfl (b_cge (pc := 7) rw_176_7 (A := x2.toInt) (B := (N.2.1 77 13).toInt) rfl rfl (fun h14 => ?_) (fun h14 => ?_))))
    · refine to_c (pc := 28) rw_176_28 (x := (-1 : Int32)) rfl rfl (to_r0 (pc := 29) rw_176_29 ?_)
      have k_15 : (-1 : Int32).toInt = -1 := rfl
      have z_16 := x_fi_n (g := (sg.2.2.2.2 6)) (v := n.toInt) (n := sg.2.2.1) (x3 := x2.toInt) (by omega) g5
      exact h (-1 : Int32) N hG F0 (by omega) (by omega) (by omega)
    · refine to_an (pc := 10) rw_176_10 rfl (s_gR (pc := 11) rw_176_11 hG rfl (v := 85) rfl (to_in (pc := 14) rw_176_14 rfl (s_ial (pc := 15) rw_176_15 hG rfl (n := 24) rfl rfl (A := x2.toInt) rfl (by omega) (by omega) (lo := -2147483648) (hi := 2147483647) rfl rfl (fun v17 w_18 _ _ => ?_))))
      have z_19 := PLk_w g4 6 85 rfl (by decide) (by decide) (k := x2.toInt) (by omega) (by omega) w_18
      refine to_in (pc := 16) rw_176_16 rfl (b_cne (pc := 17) rw_176_17 (A := v17.toInt) (B := n.toInt) rfl rfl (fun h20 => ?_) (fun h20 => ?_))
      · refine s_inc (pc := 22) rw_176_22 (ls2 := fun v => [.ref 77, .int n, .int v]) rfl rfl (fun _ => rfl) (A := x2.toInt) (B := 1) rfl rfl (by omega) (fun v21 e22 => to_go (pc := 25) rw_176_25 ?_)
        exact ih N v21 hG F0 (by omega) (by omega) (by omega) g4 (x_fi_e (g := (sg.2.2.2.2 6)) (n := sg.2.2.1) (x3 := x2.toInt) (y := v21.toInt) (by omega) (by omega) (show ¬ x_row sg 6 x2.toInt = n.toInt by omega) (by omega) g5) (by omega)
      · refine to_in (pc := 20) rw_176_20 rfl (to_r0 (pc := 21) rw_176_21 ?_)
        have z_23 := x_fi_y (g := (sg.2.2.2.2 6)) (v := n.toInt) (n := sg.2.2.1) (x3 := x2.toInt) (by omega) (by omega) (show x_row sg 6 x2.toInt = n.toInt by omega) g5
        exact h x2 N hG F0 (by omega) (by omega) (by omega)
set_option maxRecDepth 4000 in
set_option maxHeartbeats 0 in
theorem E_176 {X : mm_X} {d : Nat} {M : mm_M} {Q : Option Value → mm_M → Prop} {n : Int32} {sg : x_S} (hX : g_X X) (hd : 0 ≤ d) (hG : g_G M) (q1 : PLk M sg) (h : ∀ (r : Int32) (M1 : mm_M), g_G M1 → FR md_0 M M1 → (-1 ≤ r.toInt) → (r.toInt ≤ 11) → (r.toInt = x_fn sg 6 n.toInt) → Q (some (.int r)) M1) : mm_T X d 175 0 [.ref 77, .int n, .null] [] M Q := by
  have F0 : FR md_0 M M := FR.rf
  have z_24 := q1.2.1
  have z_25 := q1.2.2.1
  have z_26 := q1.2.2.2.1
  have z_27 := q1.1
  have z_28 := z_27.1
  have z_29 := z_27.2.1
  have z_30 := z_27.2.2.1
  have z_31 := z_27.2.2.2.1
  have z_32 := z_27.2.2.2.2.1
  have z_33 := z_27.2.2.2.2.2.1
  have b_34 := g_b hG (a := 77) (i := 11) (lo := 10) (hi := 60) rfl rfl
  have b_35 := g_b hG (a := 77) (i := 12) (lo := 0) (hi := 8) rfl rfl
  have b_36 := g_b hG (a := 77) (i := 13) (lo := 0) (hi := 12) rfl rfl
  refine to_c (pc := 0) rw_176_0 (x := (0 : Int32)) rfl rfl (to_isn (pc := 1) rw_176_1 (ls2 := [.ref 77, .int n, .int (0 : Int32)]) rfl rfl ?_)
  have k_37 : (0 : Int32).toInt = 0 := rfl
  exact (U_176_0 (n := n) (sg := sg) hX hd q1 h ((12 - (0 : Int32).toInt).toNat + 1)) M (0 : Int32) hG F0 (by omega) (by omega) (by omega) q1 (by rw [show (sg.2.2.1 - (0 : Int32).toInt).toNat = (sg.2.2.1).toNat by rw [show (0 : Int32).toInt = 0 from rfl]; congr 1; omega]; rfl) (by omega)
set_option maxRecDepth 4000 in
set_option maxHeartbeats 0 in
theorem E_177 {X : mm_X} {d : Nat} {M : mm_M} {Q : Option Value → mm_M → Prop} {w : Int32} {l : Int32} {sg : x_S} (hX : g_X X) (hd : 1 ≤ d) (hG : g_G M) (q1 : PLk M sg) (h : ∀ (r : Int32) (M1 : mm_M), g_G M1 → FR md_2 M M1 → (w.toInt = 0 → r.toInt = x_fn sg 1 l.toInt) → (w.toInt = 1 → r.toInt = x_fn sg 6 l.toInt) → (¬ w.toInt = 0 ∧ ¬ w.toInt = 1 → r.toInt = -1) → Q (some (.int r)) M1) : mm_T X d 176 0 [.ref 77, .int w, .int l] [] M Q := by
  have F0 : FR md_2 M M := FR.rf
  refine to_an (pc := 0) rw_177_0 rfl (to_c (pc := 1) rw_177_1 (x := (0 : Int32)) rfl rfl (s_pI (pc := 2) rw_177_2 hG rfl (fun M2 W1 => ?_)))
  have hG3 := g_wf hG W1 rfl rfl (by decide)
  have F4 := FR.w F0 W1 (show 77 = 77 ∧ 2 = 2 by decide)
  refine to_in (pc := 5) rw_177_5 rfl (b_ine (pc := 6) rw_177_6 (A := w.toInt) rfl (fun h5 => ?_) (fun h5 => ?_))
  · refine to_in (pc := 17) rw_177_17 rfl (to_c (pc := 18) rw_177_18 (x := (1 : Int32)) rfl rfl (b_cne (pc := 19) rw_177_19 (A := w.toInt) (B := 1) rfl rfl (fun h6 => ?_) (fun h6 => ?_)))
    · refine to_c (pc := 30) rw_177_30 (x := (-1 : Int32)) rfl rfl (to_r0 (pc := 31) rw_177_31 ?_)
      have k_7 : (-1 : Int32).toInt = -1 := rfl
      exact h (-1 : Int32) M2 hG3 F4 (by omega) (by omega) (by omega)
    · refine to_an (pc := 22) rw_177_22 rfl (to_in (pc := 23) rw_177_23 rfl (s_v (pc := 24) rw_177_24 (dp0 hd (by decide)) (ls0 := [.ref 77, .int l, .null]) rfl (Nat.le_of_ble_eq_true rfl) (Nat.le_of_ble_eq_true rfl) rfl (to_rc rfl rfl rfl (g_o hG3 rfl)) rfl ?_))
      have j_8 := (PLk_f (fun a i z => W_n W1 (tg_91 a i z) rfl) q1)
      refine E_176 hX (dp1 hd (by decide)) hG3 j_8 (n := l) (sg := sg) (fun r9 M15 hG11 F10 p_12 p_13 p_14 => ?_)
      have F16 := FR.c F4 F10 tg_90
      refine to_go (pc := 27) rw_177_27 (to_r0 (pc := 31) rw_177_31 ?_)
      exact h r9 M15 hG11 F16 (by omega) (by omega) (by omega)
  · refine to_an (pc := 9) rw_177_9 rfl (to_in (pc := 10) rw_177_10 rfl (s_v (pc := 11) rw_177_11 (dp0 hd (by decide)) (ls0 := [.ref 77, .int l, .null]) rfl (Nat.le_of_ble_eq_true rfl) (Nat.le_of_ble_eq_true rfl) rfl (to_rc rfl rfl rfl (g_o hG3 rfl)) rfl ?_))
    have j_17 := (PLk_f (fun a i z => W_n W1 (tg_91 a i z) rfl) q1)
    refine E_175 hX (dp1 hd (by decide)) hG3 j_17 (n := l) (sg := sg) (fun r18 M24 hG20 F19 p_21 p_22 p_23 => ?_)
    have F25 := FR.c F4 F19 tg_90
    refine to_go (pc := 14) rw_177_14 (to_r0 (pc := 31) rw_177_31 ?_)
    exact h r18 M24 hG20 F25 (by omega) (by omega) (by omega)
set_option maxRecDepth 4000 in
set_option maxHeartbeats 0 in
theorem E_115 {X : mm_X} {d : Nat} {M : mm_M} {Q : Option Value → mm_M → Prop} {w : Int32} {l : Int32} {p : Nat} {pz : Nat} {q : Nat} {qz : Nat} {sg : x_S} (hX : g_X X) (hd : 2 ≤ d) (hG : g_G M) (hp : p = 49 ∨ p = 58) (hpz : pz = 49 ∨ pz = 58) (hq : q = 67 ∨ q = 72) (hqz : qz = 67 ∨ qz = 72) (q1 : g_PQ M p pz q qz) (q2 : PLs M p sg) (h : ∀ (r : Int32) (M1 : mm_M), g_G M1 → FR md_0 M M1 → (w.toInt = 0 → r.toInt = x_fn sg 1 l.toInt) → (w.toInt = 1 → r.toInt = x_fn sg 6 l.toInt) → (¬ w.toInt = 0 ∧ ¬ w.toInt = 1 → r.toInt = -1) → Q (some (.int r)) M1) : mm_T X d 115 0 [.ref 0, .int w, .int l] [] M Q := by
  have F0 : FR md_0 M M := FR.rf
  have z_1 := q2.2.1
  have z_2 := q2.2.2.1
  have z_3 := q2.2.2.2.1
  have z_4 := q2.1
  have z_5 := z_4.1
  have z_6 := z_4.2.1
  have z_7 := z_4.2.2.1
  have z_8 := z_4.2.2.2.1
  have z_9 := z_4.2.2.2.2.1
  have z_10 := z_4.2.2.2.2.2.1
  have b_11 := g_b hG (a := p) (i := 2) (lo := 0) (hi := 8) (by rcases hp with rfl | rfl <;> rfl) (by rcases hp with rfl | rfl <;> rfl)
  have b_12 := g_b hG (a := p) (i := 3) (lo := 0) (hi := 12) (by rcases hp with rfl | rfl <;> rfl) (by rcases hp with rfl | rfl <;> rfl)
  refine to_in (pc := 0) rw_115_0 rfl (b_ine (pc := 1) rw_115_1 (A := w.toInt) rfl (fun h13 => ?_) (fun h13 => ?_))
  · refine to_in (pc := 13) rw_115_13 rfl (to_c (pc := 14) rw_115_14 (x := (1 : Int32)) rfl rfl (b_cne (pc := 15) rw_115_15 (A := w.toInt) (B := 1) rfl rfl (fun h14 => ?_) (fun h14 => ?_)))
    · refine to_c (pc := 29) rw_115_29 (x := (-1 : Int32)) rfl rfl (to_r0 (pc := 30) rw_115_30 ?_)
      have k_15 : (-1 : Int32).toInt = -1 := rfl
      exact h (-1 : Int32) M hG F0 (by omega) (by omega) (by omega)
    · refine to_an (pc := 18) rw_115_18 rfl (tt_gR (pc := 19) rw_115_19 (g_o hG rfl) q1.1 (to_in (pc := 22) rw_115_22 rfl (s_v (pc := 23) rw_115_23 (dp0 hd (by decide)) (ls0 := [.ref p, .int l]) rfl (Nat.le_of_ble_eq_true rfl) (Nat.le_of_ble_eq_true rfl) rfl (to_rc rfl rfl rfl (g_o hG (by rcases hp with rfl | rfl <;> rfl))) rfl (to_an (pc := 0) rw_53_0 rfl (s_gR (pc := 1) rw_53_1 hG (by rcases hp with rfl | rfl <;> rfl) (v := (p + 6)) (by rcases hp with rfl | rfl <;> rfl) (to_an (pc := 4) rw_53_4 rfl (tt_gI (pc := 5) rw_53_5 (g_o hG (by rcases hp with rfl | rfl <;> rfl)) (v := (M.2.1 p 3)) rfl (to_in (pc := 8) rw_53_8 rfl (s_s (pc := 9) rw_53_9 (dp1 hd (by decide)) (ls0 := [.ref (p + 6), .int (M.2.1 p 3), .int l, .null]) rfl (Nat.le_of_ble_eq_true rfl) (Nat.le_of_ble_eq_true rfl) rfl (to_rcs rfl rfl) rfl (E_54g hX (dp2 hd (by decide)) hG (by omega) (by omega) (by omega) (g := (p + 6)) (s := (M.2.1 p 3)) (x := l) (fun r16 M22 hG18 F17 p_19 p_20 p_21 => ?_)))))))))))
      have F23 := FR.c F0 F17 tg_29
      have z_24 := PLs_w (v := l.toInt) q2 (n := (M.2.1 p 3).toInt) (by omega)
      refine to_r0 (pc := 12) rw_53_12 (to_go (pc := 26) rw_115_26 (to_r0 (pc := 30) rw_115_30 ?_))
      exact h r16 M22 hG18 F23 (by omega) (by omega) (by omega)
  · refine to_an (pc := 4) rw_115_4 rfl (tt_gR (pc := 5) rw_115_5 (g_o hG rfl) q1.1 (to_in (pc := 8) rw_115_8 rfl (s_v (pc := 9) rw_115_9 (dp0 hd (by decide)) (ls0 := [.ref p, .int l]) rfl (Nat.le_of_ble_eq_true rfl) (Nat.le_of_ble_eq_true rfl) rfl (to_rc rfl rfl rfl (g_o hG (by rcases hp with rfl | rfl <;> rfl))) rfl (to_an (pc := 0) rw_52_0 rfl (s_gR (pc := 1) rw_52_1 hG (by rcases hp with rfl | rfl <;> rfl) (v := (p + 1)) (by rcases hp with rfl | rfl <;> rfl) (to_an (pc := 4) rw_52_4 rfl (tt_gI (pc := 5) rw_52_5 (g_o hG (by rcases hp with rfl | rfl <;> rfl)) (v := (M.2.1 p 2)) rfl (to_in (pc := 8) rw_52_8 rfl (s_s (pc := 9) rw_52_9 (dp1 hd (by decide)) (ls0 := [.ref (p + 1), .int (M.2.1 p 2), .int l, .null]) rfl (Nat.le_of_ble_eq_true rfl) (Nat.le_of_ble_eq_true rfl) rfl (to_rcs rfl rfl) rfl (E_54f hX (dp2 hd (by decide)) hG (by omega) (by omega) (by omega) (f := (p + 1)) (s := (M.2.1 p 2)) (x := l) (fun r25 M31 hG27 F26 p_28 p_29 p_30 => ?_)))))))))))
    have F32 := FR.c F0 F26 tg_29
    have z_33 := PLs_n (v := l.toInt) q2 (n := (M.2.1 p 2).toInt) (by omega)
    refine to_r0 (pc := 12) rw_52_12 (to_r0 (pc := 12) rw_115_12 ?_)
    exact h r25 M31 hG27 F32 (by omega) (by omega) (by omega)
set_option maxRecDepth 4000 in
set_option maxHeartbeats 0 in
theorem E_126 {X : mm_X} {d : Nat} {M : mm_M} {Q : Option Value → mm_M → Prop} {c : Int32} {p : Nat} {pz : Nat} {q : Nat} {qz : Nat} (hX : g_X X) (hd : 1 ≤ d) (hG : g_G M) (hp : p = 49 ∨ p = 58) (hpz : pz = 49 ∨ pz = 58) (hq : q = 67 ∨ q = 72) (hqz : qz = 67 ∨ qz = 72) (q1 : g_PQ M p pz q qz) (q2 : PI M) (q3 : NI M) (q4 : QI M) (h : ∀ (r : Int32) (M1 : mm_M), g_G M1 → FR md_17 M M1 → (0 ≤ r.toInt) → (r.toInt ≤ 1) → (r.toInt = 1 → 0 ≤ c.toInt ∧ c.toInt < (M.2.1 0 12).toInt) → (r.toInt = 0 → ¬ (0 ≤ c.toInt ∧ c.toInt < (M.2.1 0 12).toInt)) → PI M1 → NI M1 → QI M1 → (r.toInt = 0 → (M1.2.1 17 4).toInt = (M.2.1 17 4).toInt) → ((r.toInt = 1 → M1.2.1 17 4 = M.2.1 17 4 ^^^ ((1 : Int32) <<< c))) → Q (some (.int r)) M1) : mm_T X d 126 0 [.ref 0, .int c] [] M Q := by
  have F0 : FR md_17 M M := FR.rf
  refine to_an (pc := 0) rw_126_0 rfl (to_in (pc := 1) rw_126_1 rfl (s_v (pc := 2) rw_126_2 (dp0 hd (by decide)) (ls0 := [.ref 0, .int c]) rfl (Nat.le_of_ble_eq_true rfl) (Nat.le_of_ble_eq_true rfl) rfl (to_rc rfl rfl rfl (g_o hG rfl)) rfl (to_in (pc := 0) rw_140_0 rfl (b_ilt (pc := 1) rw_140_1 (A := c.toInt) rfl (fun h1 => ?_) (fun h1 => ?_)))))
  · refine to_c (pc := 16) rw_140_16 (x := (0 : Int32)) rfl rfl (s_r1 (pc := 17) rw_140_17 (A := 0) rfl (by decide) (b_ine_f (pc := 5) rw_126_5 (A := 0) rfl (by decide) (to_c (pc := 8) rw_126_8 (x := (0 : Int32)) rfl rfl (s_r1 (pc := 9) rw_126_9 (A := 0) rfl (by decide) ?_))))
    have k_2 : (0 : Int32).toInt = 0 := rfl
    exact h (0 : Int32) M hG F0 (by decide) (by decide) (by omega) (by omega) q2 q3 q4 (by omega) (fun z => absurd z (by decide))
  · refine to_in (pc := 4) rw_140_4 rfl (to_an (pc := 5) rw_140_5 rfl ?_)
    have b_3 := g_b hG (a := 0) (i := 12) (lo := 0) (hi := 30) rfl rfl
    refine tt_gI (pc := 6) rw_140_6 (g_o hG rfl) (v := (M.2.1 0 12)) rfl (b_cge (pc := 9) rw_140_9 (A := c.toInt) (B := (M.2.1 0 12).toInt) rfl rfl (fun h4 => ?_) (fun h4 => ?_))
    · refine to_c (pc := 16) rw_140_16 (x := (0 : Int32)) rfl rfl (s_r1 (pc := 17) rw_140_17 (A := 0) rfl (by decide) (b_ine_f (pc := 5) rw_126_5 (A := 0) rfl (by decide) (to_c (pc := 8) rw_126_8 (x := (0 : Int32)) rfl rfl (s_r1 (pc := 9) rw_126_9 (A := 0) rfl (by decide) ?_))))
      have k_5 : (0 : Int32).toInt = 0 := rfl
      exact h (0 : Int32) M hG F0 (by decide) (by decide) (by omega) (by omega) q2 q3 q4 (by omega) (fun z => absurd z (by decide))
    · refine to_c (pc := 12) rw_140_12 (x := (1 : Int32)) rfl rfl (to_go (pc := 13) rw_140_13 (s_r1 (pc := 17) rw_140_17 (A := 1) rfl (by decide) (b_ine_t (pc := 5) rw_126_5 (A := 1) rfl (by decide) (to_an (pc := 10) rw_126_10 rfl (s_gR (pc := 11) rw_126_11 hG rfl (v := 17) rfl (to_dupr (pc := 14) rw_126_14 (tt_gI (pc := 15) rw_126_15 (g_o hG rfl) (v := (M.2.1 17 4)) rfl (to_c (pc := 18) rw_126_18 (x := (1 : Int32)) rfl rfl (to_in (pc := 19) rw_126_19 rfl (s_opE (pc := 20) rw_126_20 (w := (1 : Int32) <<< c) rfl (fun v6 e7 => s_opE (pc := 21) rw_126_21 (w := (M.2.1 17 4) ^^^ v6) rfl (fun v8 e9 => ?_))))))))))))
      refine s_pI (pc := 22) rw_126_22 hG rfl (fun M11 W10 => ?_)
      have hG12 := g_wf hG W10 rfl rfl (by decide)
      have F13 := FR.w F0 W10 (show 17 = 17 by decide)
      refine to_c (pc := 25) rw_126_25 (x := (1 : Int32)) rfl rfl (s_r1 (pc := 26) rw_126_26 (A := 1) rfl (by decide) ?_)
      have k_14 : (1 : Int32).toInt = 1 := rfl
      have j_15 := (PI_f (fun a i z => W_n W10 (by /-r17,4-/ omega) rfl) q2)
      have j_16 := (NI_f (fun a i z => W_n W10 (tg_92 a i z) rfl) q3)
      have j_17 := (QI_f (fun a i z => W_n W10 (tg_93 a i z) rfl) q4)
      have c_18 : M11.2.1 17 4 = v8 := (W_e W10)
      have t_19 : (M11.2.1 17 4).toInt = v8.toInt := congrArg Int32.toInt c_18
      exact h (1 : Int32) M11 hG12 F13 (by decide) (by decide) (by omega) (by omega) j_15 j_16 j_17 (by omega) (fun _ => (c_18).trans (by rw [← e9, ← e7]))
set_option maxRecDepth 4000 in
set_option maxHeartbeats 0 in
theorem E_203 {X : mm_X} {d : Nat} {M : mm_M} {Q : Option Value → mm_M → Prop} {c : Int32} (hX : g_X X) (hd : 1 ≤ d) (hG : g_G M) (h : ∀ (r : Int32) (M1 : mm_M), g_G M1 → FR md_tu M M1 → (0 ≤ r.toInt) → (r.toInt ≤ 1) → (r.toInt = 1 → 0 ≤ c.toInt ∧ c.toInt < (M.2.1 77 28).toInt) → (r.toInt = 0 → ¬ (0 ≤ c.toInt ∧ c.toInt < (M.2.1 77 28).toInt)) → (r.toInt = 0 → (M1.2.1 77 41).toInt = (M.2.1 77 41).toInt) → ((r.toInt = 1 → M1.2.1 77 41 = M.2.1 77 41 ^^^ ((1 : Int32) <<< c))) → Q (some (.int r)) M1) : mm_T X d 202 0 [.ref 77, .int c] [] M Q := by
  have F0 : FR md_tu M M := FR.rf
  refine to_an (pc := 0) rw_203_0 rfl (to_c (pc := 1) rw_203_1 (x := (0 : Int32)) rfl rfl (s_pI (pc := 2) rw_203_2 hG rfl (fun M2 W1 => ?_)))
  have hG3 := g_wf hG W1 rfl rfl (by decide)
  have F4 := FR.w F0 W1 (show 77 = 77 ∧ (2 = 2 ∨ 2 = 41) by decide)
  refine to_an (pc := 5) rw_203_5 rfl (to_in (pc := 6) rw_203_6 rfl (s_v (pc := 7) rw_203_7 (dp0 hd (by decide)) (ls0 := [.ref 77, .int c]) rfl (Nat.le_of_ble_eq_true rfl) (Nat.le_of_ble_eq_true rfl) rfl (to_rc rfl rfl rfl (g_o hG3 rfl)) rfl (to_in (pc := 0) rw_187_0 rfl (b_ilt (pc := 1) rw_187_1 (A := c.toInt) rfl (fun h5 => ?_) (fun h5 => ?_)))))
  · refine to_c (pc := 16) rw_187_16 (x := (0 : Int32)) rfl rfl (s_r1 (pc := 17) rw_187_17 (A := 0) rfl (by decide) (b_ine_f (pc := 10) rw_203_10 (A := 0) rfl (by decide) (to_c (pc := 13) rw_203_13 (x := (0 : Int32)) rfl rfl (s_r1 (pc := 14) rw_203_14 (A := 0) rfl (by decide) ?_))))
    have k_6 : (0 : Int32).toInt = 0 := rfl
    have c_7 : M2.2.1 77 41 = (M.2.1 77 41) := (W_n W1 (by decide) rfl)
    have t_8 : (M2.2.1 77 41).toInt = (M.2.1 77 41).toInt := congrArg Int32.toInt c_7
    exact h (0 : Int32) M2 hG3 F4 (by decide) (by decide) (by omega) (by omega) (by omega) (fun z => absurd z (by decide))
  · refine to_in (pc := 4) rw_187_4 rfl (to_an (pc := 5) rw_187_5 rfl ?_)
    have c_9 : M2.2.1 77 28 = (M.2.1 77 28) := (W_n W1 (by decide) rfl)
    have b_10 := g_b hG (a := 77) (i := 28) (lo := 0) (hi := 30) rfl rfl
    refine tt_gI (pc := 6) rw_187_6 (g_o hG3 rfl) (v := (M.2.1 77 28)) c_9 (b_cge (pc := 9) rw_187_9 (A := c.toInt) (B := (M.2.1 77 28).toInt) rfl rfl (fun h11 => ?_) (fun h11 => ?_))
    · refine to_c (pc := 16) rw_187_16 (x := (0 : Int32)) rfl rfl (s_r1 (pc := 17) rw_187_17 (A := 0) rfl (by decide) (b_ine_f (pc := 10) rw_203_10 (A := 0) rfl (by decide) (to_c (pc := 13) rw_203_13 (x := (0 : Int32)) rfl rfl (s_r1 (pc := 14) rw_203_14 (A := 0) rfl (by decide) ?_))))
      have k_12 : (0 : Int32).toInt = 0 := rfl
      have c_13 : M2.2.1 77 41 = (M.2.1 77 41) := (W_n W1 (by decide) rfl)
      have t_14 : (M2.2.1 77 41).toInt = (M.2.1 77 41).toInt := congrArg Int32.toInt c_13
      exact h (0 : Int32) M2 hG3 F4 (by decide) (by decide) (by omega) (by omega) (by omega) (fun z => absurd z (by decide))
    · refine to_c (pc := 12) rw_187_12 (x := (1 : Int32)) rfl rfl (to_go (pc := 13) rw_187_13 (s_r1 (pc := 17) rw_187_17 (A := 1) rfl (by decide) (b_ine_t (pc := 10) rw_203_10 (A := 1) rfl (by decide) (to_an (pc := 15) rw_203_15 rfl (to_dupr (pc := 16) rw_203_16 ?_)))))
      have c_15 : M2.2.1 77 41 = (M.2.1 77 41) := (W_n W1 (by decide) rfl)
      refine tt_gI (pc := 17) rw_203_17 (g_o hG3 rfl) (v := (M.2.1 77 41)) c_15 (to_c (pc := 20) rw_203_20 (x := (1 : Int32)) rfl rfl (to_in (pc := 21) rw_203_21 rfl (s_opE (pc := 22) rw_203_22 (w := (1 : Int32) <<< c) rfl (fun v16 e17 => s_opE (pc := 23) rw_203_23 (w := (M.2.1 77 41) ^^^ v16) rfl (fun v18 e19 => s_pI (pc := 24) rw_203_24 hG3 rfl (fun M21 W20 => ?_))))))
      have hG22 := g_wf hG3 W20 rfl rfl (by decide)
      have F23 := FR.w F4 W20 (show 77 = 77 ∧ (41 = 2 ∨ 41 = 41) by decide)
      refine to_c (pc := 27) rw_203_27 (x := (1 : Int32)) rfl rfl (s_r1 (pc := 28) rw_203_28 (A := 1) rfl (by decide) ?_)
      have k_24 : (1 : Int32).toInt = 1 := rfl
      have c_25 : M21.2.1 77 41 = v18 := (W_e W20)
      have t_26 : (M21.2.1 77 41).toInt = v18.toInt := congrArg Int32.toInt c_25
      exact h (1 : Int32) M21 hG22 F23 (by decide) (by decide) (by omega) (by omega) (by omega) (fun _ => (c_25).trans (by rw [← e19, ← e17]))
set_option maxRecDepth 4000 in
set_option maxHeartbeats 0 in
theorem E_116 {X : mm_X} {d : Nat} {M : mm_M} {Q : Option Value → mm_M → Prop} {f : Int32} {v : Int32} {p : Nat} {pz : Nat} {q : Nat} {qz : Nat} {sg : x_S} (hX : g_X X) (hd : 3 ≤ d) (hG : g_G M) (hp : p = 49 ∨ p = 58) (hpz : pz = 49 ∨ pz = 58) (hq : q = 67 ∨ q = 72) (hqz : qz = 67 ∨ qz = 72) (q1 : g_PQ M p pz q qz) (q2 : PLs M p sg) (q3 : g_W2 X) (h : ∀ (r : Int64) (M1 : mm_M), g_G M1 → FR md_0 M M1 → (r = x_cd sg f.toInt v.toInt) → Q (some (.long r)) M1) : mm_T X d 116 0 [.ref 0, .int f, .int v] [] M Q := by
  have F0 : FR md_0 M M := FR.rf
  have z_1 := q2.2.1
  have z_2 := q2.2.2.1
  have z_3 := q2.2.2.2.1
  have z_4 := q2.1
  have z_5 := z_4.1
  have z_6 := z_4.2.1
  have z_7 := z_4.2.2.1
  have z_8 := z_4.2.2.2.1
  have z_9 := z_4.2.2.2.2.1
  have z_10 := z_4.2.2.2.2.2.1
  have b_11 := g_b hG (a := p) (i := 2) (lo := 0) (hi := 8) (by rcases hp with rfl | rfl <;> rfl) (by rcases hp with rfl | rfl <;> rfl)
  have b_12 := g_b hG (a := p) (i := 3) (lo := 0) (hi := 12) (by rcases hp with rfl | rfl <;> rfl) (by rcases hp with rfl | rfl <;> rfl)
  refine to_an (pc := 0) rw_116_0 rfl (tt_gR (pc := 1) rw_116_1 (g_o hG rfl) q1.1 (to_in (pc := 4) rw_116_4 rfl (to_in (pc := 5) rw_116_5 rfl (s_v (pc := 6) rw_116_6 (dp0 hd (by decide)) (ls0 := [.ref p, .int f, .int v, .null, .null]) rfl (Nat.le_of_ble_eq_true rfl) (Nat.le_of_ble_eq_true rfl) rfl (to_rc rfl rfl rfl (g_o hG (by rcases hp with rfl | rfl <;> rfl))) rfl (to_an (pc := 0) rw_49_0 rfl (to_in (pc := 1) rw_49_1 rfl (to_in (pc := 2) rw_49_2 rfl (s_v (pc := 3) rw_49_3 (dp1 hd (by decide)) (ls0 := [.ref p, .int f, .int v]) rfl (Nat.le_of_ble_eq_true rfl) (Nat.le_of_ble_eq_true rfl) rfl (to_rc rfl rfl rfl (g_o hG (by rcases hp with rfl | rfl <;> rfl))) rfl (to_an (pc := 0) rw_46_0 rfl (to_in (pc := 1) rw_46_1 rfl (s_v (pc := 2) rw_46_2 (dp2 hd (by decide)) (ls0 := [.ref p, .int f]) rfl (Nat.le_of_ble_eq_true rfl) (Nat.le_of_ble_eq_true rfl) rfl (to_rc rfl rfl rfl (g_o hG (by rcases hp with rfl | rfl <;> rfl))) rfl ?_)))))))))))
  refine to_in (pc := 0) rw_43_0 rfl (b_ilt (pc := 1) rw_43_1 (A := f.toInt) rfl (fun h13 => ?_) (fun h13 => ?_))
  · refine to_c (pc := 16) rw_43_16 (x := (0 : Int32)) rfl rfl (s_r1 (pc := 17) rw_43_17 (A := 0) rfl (by decide) (b_ieq_t (pc := 5) rw_46_5 (A := 0) rfl (by decide) (to_c (pc := 34) rw_46_34 (x := (0 : Int32)) rfl rfl (s_r1 (pc := 35) rw_46_35 (A := 0) rfl (by decide) (b_ine_f (pc := 6) rw_49_6 (A := 0) rfl (by decide) (to_cl (pc := 9) rw_49_9 rfl (x := (0 : Int64)) rfl (to_rl (pc := 10) rw_49_10 (to_rl (pc := 9) rw_116_9 ?_))))))))
    exact h (0 : Int64) M hG F0 (x_cd_0 (by omega))
  · refine to_in (pc := 4) rw_43_4 rfl (to_an (pc := 5) rw_43_5 rfl (tt_gI (pc := 6) rw_43_6 (g_o hG (by rcases hp with rfl | rfl <;> rfl)) (v := (M.2.1 p 2)) rfl (b_cge (pc := 9) rw_43_9 (A := f.toInt) (B := (M.2.1 p 2).toInt) rfl rfl (fun h14 => ?_) (fun h14 => ?_))))
    · refine to_c (pc := 16) rw_43_16 (x := (0 : Int32)) rfl rfl (s_r1 (pc := 17) rw_43_17 (A := 0) rfl (by decide) (b_ieq_t (pc := 5) rw_46_5 (A := 0) rfl (by decide) (to_c (pc := 34) rw_46_34 (x := (0 : Int32)) rfl rfl (s_r1 (pc := 35) rw_46_35 (A := 0) rfl (by decide) (b_ine_f (pc := 6) rw_49_6 (A := 0) rfl (by decide) (to_cl (pc := 9) rw_49_9 rfl (x := (0 : Int64)) rfl (to_rl (pc := 10) rw_49_10 (to_rl (pc := 9) rw_116_9 ?_))))))))
      exact h (0 : Int64) M hG F0 (x_cd_0 (by omega))
    · refine to_c (pc := 12) rw_43_12 (x := (1 : Int32)) rfl rfl (to_go (pc := 13) rw_43_13 (s_r1 (pc := 17) rw_43_17 (A := 1) rfl (by decide) (b_ieq_f (pc := 5) rw_46_5 (A := 1) rfl (by decide) (to_an (pc := 8) rw_46_8 rfl (to_in (pc := 9) rw_46_9 rfl (s_v (pc := 10) rw_46_10 (dp2 hd (by decide)) (ls0 := [.ref p, .int f]) rfl (Nat.le_of_ble_eq_true rfl) (Nat.le_of_ble_eq_true rfl) rfl (to_rc rfl rfl rfl (g_o hG (by rcases hp with rfl | rfl <;> rfl))) rfl (to_an (pc := 0) rw_45_0 rfl (s_gR (pc := 1) rw_45_1 hG (by rcases hp with rfl | rfl <;> rfl) (v := (p + 2)) (by rcases hp with rfl | rfl <;> rfl) (to_in (pc := 4) rw_45_4 rfl (s_ial (pc := 5) rw_45_5 hG (by rcases hp with rfl | rfl <;> rfl) (n := 8) (by rcases hp with rfl | rfl <;> rfl) (by rcases hp with rfl | rfl <;> rfl) (A := f.toInt) rfl (by omega) (by omega) (lo := 0) (hi := 3) (by rcases hp with rfl | rfl <;> rfl) (by rcases hp with rfl | rfl <;> rfl) (fun v15 w_16 _ _ => ?_)))))))))))
      have z_17 := PLs_r q2 2 (by decide) (by decide) (k := f.toInt) (by omega) (by omega) w_16
      refine to_c (pc := 6) rw_45_6 (x := (3 : Int32)) rfl rfl (b_cne (pc := 7) rw_45_7 (A := v15.toInt) (B := 3) rfl rfl (fun h18 => ?_) (fun h18 => ?_))
      · refine to_c (pc := 14) rw_45_14 (x := (0 : Int32)) rfl rfl (s_r1 (pc := 15) rw_45_15 (A := 0) rfl (by decide) (b_ine_f (pc := 13) rw_46_13 (A := 0) rfl (by decide) (to_in (pc := 16) rw_46_16 rfl (b_ilt (pc := 17) rw_46_17 (A := v.toInt) rfl (fun h19 => ?_) (fun h19 => ?_)))))
        · refine to_c (pc := 34) rw_46_34 (x := (0 : Int32)) rfl rfl (s_r1 (pc := 35) rw_46_35 (A := 0) rfl (by decide) (b_ine_f (pc := 6) rw_49_6 (A := 0) rfl (by decide) (to_cl (pc := 9) rw_49_9 rfl (x := (0 : Int64)) rfl (to_rl (pc := 10) rw_49_10 (to_rl (pc := 9) rw_116_9 ?_)))))
          exact h (0 : Int64) M hG F0 (x_cd_0 (by omega))
        · refine to_in (pc := 20) rw_46_20 rfl (to_an (pc := 21) rw_46_21 rfl (s_gR (pc := 22) rw_46_22 hG (by rcases hp with rfl | rfl <;> rfl) (v := (p + 5)) (by rcases hp with rfl | rfl <;> rfl) (to_in (pc := 25) rw_46_25 rfl (s_ial (pc := 26) rw_46_26 hG (by rcases hp with rfl | rfl <;> rfl) (n := 8) (by rcases hp with rfl | rfl <;> rfl) (by rcases hp with rfl | rfl <;> rfl) (A := f.toInt) rfl (by omega) (by omega) (lo := 0) (hi := 24) (by rcases hp with rfl | rfl <;> rfl) (by rcases hp with rfl | rfl <;> rfl) (fun v20 w_21 _ _ => ?_)))))
          have z_22 := PLs_r q2 5 (by decide) (by decide) (k := f.toInt) (by omega) (by omega) w_21
          refine b_cge (pc := 27) rw_46_27 (A := v.toInt) (B := v20.toInt) rfl rfl (fun h23 => ?_) (fun h23 => ?_)
          · refine to_c (pc := 34) rw_46_34 (x := (0 : Int32)) rfl rfl (s_r1 (pc := 35) rw_46_35 (A := 0) rfl (by decide) (b_ine_f (pc := 6) rw_49_6 (A := 0) rfl (by decide) (to_cl (pc := 9) rw_49_9 rfl (x := (0 : Int64)) rfl (to_rl (pc := 10) rw_49_10 (to_rl (pc := 9) rw_116_9 ?_)))))
            exact h (0 : Int64) M hG F0 (x_cd_0 (by omega))
          · refine to_c (pc := 30) rw_46_30 (x := (1 : Int32)) rfl rfl (to_go (pc := 31) rw_46_31 (s_r1 (pc := 35) rw_46_35 (A := 1) rfl (by decide) (b_ine_t (pc := 6) rw_49_6 (A := 1) rfl (by decide) (to_cl (pc := 11) rw_49_11 rfl (x := (1 : Int64)) rfl (to_in (pc := 12) rw_49_12 rfl (to_2s (pc := 13) rw_49_13 (v := ((1 : Int64) <<< (v.toInt64 &&& 63))) rfl (to_lsn (pc := 14) rw_49_14 (ls2 := [.ref p, .int f, .int v, .long ((1 : Int64) <<< (v.toInt64 &&& 63)), .null]) rfl rfl (to_an (pc := 15) rw_49_15 rfl (s_gR (pc := 16) rw_49_16 hG (by rcases hp with rfl | rfl <;> rfl) (v := (p + 2)) (by rcases hp with rfl | rfl <;> rfl) (to_in (pc := 19) rw_49_19 rfl (s_ialk (pc := 20) rw_49_20 hG (by rcases hp with rfl | rfl <;> rfl) (n := 8) (by rcases hp with rfl | rfl <;> rfl) (by rcases hp with rfl | rfl <;> rfl) (A := f.toInt) rfl (by omega) (by omega) (v := v15) w_16 ?_)))))))))))
            refine to_c (pc := 21) rw_49_21 (x := (1 : Int32)) rfl rfl (b_cne (pc := 22) rw_49_22 (A := v15.toInt) (B := 1) rfl rfl (fun h26 => ?_) (fun h26 => ?_))
            · refine to_an (pc := 43) rw_49_43 rfl (s_gR (pc := 44) rw_49_44 hG (by rcases hp with rfl | rfl <;> rfl) (v := (p + 2)) (by rcases hp with rfl | rfl <;> rfl) (to_in (pc := 47) rw_49_47 rfl (s_ialk (pc := 48) rw_49_48 hG (by rcases hp with rfl | rfl <;> rfl) (n := 8) (by rcases hp with rfl | rfl <;> rfl) (by rcases hp with rfl | rfl <;> rfl) (A := f.toInt) rfl (by omega) (by omega) (v := v15) w_16 (to_c (pc := 49) rw_49_49 (x := (2 : Int32)) rfl rfl (b_cne (pc := 50) rw_49_50 (A := v15.toInt) (B := 2) rfl rfl (fun h29 => ?_) (fun h29 => ?_))))))
              · refine to_ln (pc := 68) rw_49_68 rfl rfl rfl (to_an (pc := 69) rw_49_69 rfl (s_gR (pc := 70) rw_49_70 hG (by rcases hp with rfl | rfl <;> rfl) (v := (p + 3)) (by rcases hp with rfl | rfl <;> rfl) (to_in (pc := 73) rw_49_73 rfl (s_ial (pc := 74) rw_49_74 hG (by rcases hp with rfl | rfl <;> rfl) (n := 8) (by rcases hp with rfl | rfl <;> rfl) (by rcases hp with rfl | rfl <;> rfl) (A := f.toInt) rfl (by omega) (by omega) (lo := 0) (hi := 59) (by rcases hp with rfl | rfl <;> rfl) (by rcases hp with rfl | rfl <;> rfl) (fun v30 w_31 _ _ => ?_)))))
                have z_32 := PLs_r q2 3 (by decide) (by decide) (k := f.toInt) (by omega) (by omega) w_31
                refine to_2s (pc := 75) rw_49_75 (v := (((1 : Int64) <<< (v.toInt64 &&& 63)) <<< (v30.toInt64 &&& 63))) rfl (to_rl (pc := 76) rw_49_76 (to_rl (pc := 9) rw_116_9 ?_))
                exact h (((1 : Int64) <<< (v.toInt64 &&& 63)) <<< (v30.toInt64 &&& 63)) M hG F0 (x_cd_b (by omega) (by omega) (by omega) (by omega) (by omega))
              · refine to_in (pc := 53) rw_49_53 rfl (s_gs (pc := 54) rw_49_54 (s_xlen (pc := 57) rw_49_57 hX (e := 3) (n := 10) rfl (v := (10 : Int32)) rfl (b_cge (pc := 58) rw_49_58 (A := v.toInt) (B := 10) rfl rfl (fun h33 => ?_) (fun h33 => ?_))))
                · refine to_ln (pc := 68) rw_49_68 rfl rfl rfl (to_an (pc := 69) rw_49_69 rfl (s_gR (pc := 70) rw_49_70 hG (by rcases hp with rfl | rfl <;> rfl) (v := (p + 3)) (by rcases hp with rfl | rfl <;> rfl) (to_in (pc := 73) rw_49_73 rfl (s_ial (pc := 74) rw_49_74 hG (by rcases hp with rfl | rfl <;> rfl) (n := 8) (by rcases hp with rfl | rfl <;> rfl) (by rcases hp with rfl | rfl <;> rfl) (A := f.toInt) rfl (by omega) (by omega) (lo := 0) (hi := 59) (by rcases hp with rfl | rfl <;> rfl) (by rcases hp with rfl | rfl <;> rfl) (fun v34 w_35 _ _ => ?_)))))
                  have z_36 := PLs_r q2 3 (by decide) (by decide) (k := f.toInt) (by omega) (by omega) w_35
                  refine to_2s (pc := 75) rw_49_75 (v := (((1 : Int64) <<< (v.toInt64 &&& 63)) <<< (v34.toInt64 &&& 63))) rfl (to_rl (pc := 76) rw_49_76 (to_rl (pc := 9) rw_116_9 ?_))
                  exact h (((1 : Int64) <<< (v.toInt64 &&& 63)) <<< (v34.toInt64 &&& 63)) M hG F0 (x_cd_b (by omega) (by omega) (by omega) (by omega) (by omega))
                · refine s_gs (pc := 61) rw_49_61 (to_in (pc := 64) rw_49_64 rfl (s_xalE (pc := 65) rw_49_65 hX (e := 3) (n := 10) rfl (A := v.toInt) rfl (by omega) (by omega) (fun v37 w_38 => ?_)))
                  have z_39 := ((q3 (v.toInt).toNat (by omega)).2.symm.trans w_38)
                  refine to_i2l (pc := 66) rw_49_66 (v := (v37.toInt64)) rfl (to_lsn (pc := 67) rw_49_67 (ls2 := [.ref p, .int f, .int v, .long (v37.toInt64), .null]) rfl rfl (to_ln (pc := 68) rw_49_68 rfl rfl rfl (to_an (pc := 69) rw_49_69 rfl (s_gR (pc := 70) rw_49_70 hG (by rcases hp with rfl | rfl <;> rfl) (v := (p + 3)) (by rcases hp with rfl | rfl <;> rfl) (to_in (pc := 73) rw_49_73 rfl (s_ial (pc := 74) rw_49_74 hG (by rcases hp with rfl | rfl <;> rfl) (n := 8) (by rcases hp with rfl | rfl <;> rfl) (by rcases hp with rfl | rfl <;> rfl) (A := f.toInt) rfl (by omega) (by omega) (lo := 0) (hi := 59) (by rcases hp with rfl | rfl <;> rfl) (by rcases hp with rfl | rfl <;> rfl) (fun v40 w_41 _ _ => ?_)))))))
                  have z_42 := PLs_r q2 3 (by decide) (by decide) (k := f.toInt) (by omega) (by omega) w_41
                  refine to_2s (pc := 75) rw_49_75 (v := ((v37.toInt64) <<< (v40.toInt64 &&& 63))) rfl (to_rl (pc := 76) rw_49_76 (to_rl (pc := 9) rw_116_9 ?_))
                  exact h ((v37.toInt64) <<< (v40.toInt64 &&& 63)) M hG F0 (x_cd_p (by omega) (by omega) (by omega) z_39)
            · refine to_in (pc := 25) rw_49_25 rfl (s_gs (pc := 26) rw_49_26 (s_xlen (pc := 29) rw_49_29 hX (e := 2) (n := 10) rfl (v := (10 : Int32)) rfl (b_cge (pc := 30) rw_49_30 (A := v.toInt) (B := 10) rfl rfl (fun h43 => ?_) (fun h43 => ?_))))
              · refine to_an (pc := 43) rw_49_43 rfl (s_gR (pc := 44) rw_49_44 hG (by rcases hp with rfl | rfl <;> rfl) (v := (p + 2)) (by rcases hp with rfl | rfl <;> rfl) (to_in (pc := 47) rw_49_47 rfl (s_ialk (pc := 48) rw_49_48 hG (by rcases hp with rfl | rfl <;> rfl) (n := 8) (by rcases hp with rfl | rfl <;> rfl) (by rcases hp with rfl | rfl <;> rfl) (A := f.toInt) rfl (by omega) (by omega) (v := v15) w_16 (to_c (pc := 49) rw_49_49 (x := (2 : Int32)) rfl rfl (b_cne_t (pc := 50) rw_49_50 (A := v15.toInt) (B := 2) rfl rfl (by omega) (to_ln (pc := 68) rw_49_68 rfl rfl rfl (to_an (pc := 69) rw_49_69 rfl (s_gR (pc := 70) rw_49_70 hG (by rcases hp with rfl | rfl <;> rfl) (v := (p + 3)) (by rcases hp with rfl | rfl <;> rfl) (to_in (pc := 73) rw_49_73 rfl (s_ial (pc := 74) rw_49_74 hG (by rcases hp with rfl | rfl <;> rfl) (n := 8) (by rcases hp with rfl | rfl <;> rfl) (by rcases hp with rfl | rfl <;> rfl) (A := f.toInt) rfl (by omega) (by omega) (lo := 0) (hi := 59) (by rcases hp with rfl | rfl <;> rfl) (by rcases hp with rfl | rfl <;> rfl) (fun v46 w_47 _ _ => ?_)))))))))))
                have z_48 := PLs_r q2 3 (by decide) (by decide) (k := f.toInt) (by omega) (by omega) w_47
                refine to_2s (pc := 75) rw_49_75 (v := (((1 : Int64) <<< (v.toInt64 &&& 63)) <<< (v46.toInt64 &&& 63))) rfl (to_rl (pc := 76) rw_49_76 (to_rl (pc := 9) rw_116_9 ?_))
                exact h (((1 : Int64) <<< (v.toInt64 &&& 63)) <<< (v46.toInt64 &&& 63)) M hG F0 (x_cd_b (by omega) (by omega) (by omega) (by omega) (by omega))
              · refine s_gs (pc := 33) rw_49_33 (to_in (pc := 36) rw_49_36 rfl (s_xalE (pc := 37) rw_49_37 hX (e := 2) (n := 10) rfl (A := v.toInt) rfl (by omega) (by omega) (fun v49 w_50 => ?_)))
                have z_51 := ((q3 (v.toInt).toNat (by omega)).1.symm.trans w_50)
                refine to_i2l (pc := 38) rw_49_38 (v := (v49.toInt64)) rfl (to_lsn (pc := 39) rw_49_39 (ls2 := [.ref p, .int f, .int v, .long (v49.toInt64), .null]) rfl rfl (to_go (pc := 40) rw_49_40 (to_ln (pc := 68) rw_49_68 rfl rfl rfl (to_an (pc := 69) rw_49_69 rfl (s_gR (pc := 70) rw_49_70 hG (by rcases hp with rfl | rfl <;> rfl) (v := (p + 3)) (by rcases hp with rfl | rfl <;> rfl) (to_in (pc := 73) rw_49_73 rfl (s_ial (pc := 74) rw_49_74 hG (by rcases hp with rfl | rfl <;> rfl) (n := 8) (by rcases hp with rfl | rfl <;> rfl) (by rcases hp with rfl | rfl <;> rfl) (A := f.toInt) rfl (by omega) (by omega) (lo := 0) (hi := 59) (by rcases hp with rfl | rfl <;> rfl) (by rcases hp with rfl | rfl <;> rfl) (fun v52 w_53 _ _ => ?_))))))))
                have z_54 := PLs_r q2 3 (by decide) (by decide) (k := f.toInt) (by omega) (by omega) w_53
                refine to_2s (pc := 75) rw_49_75 (v := ((v49.toInt64) <<< (v52.toInt64 &&& 63))) rfl (to_rl (pc := 76) rw_49_76 (to_rl (pc := 9) rw_116_9 ?_))
                exact h ((v49.toInt64) <<< (v52.toInt64 &&& 63)) M hG F0 (x_cd_s (by omega) (by omega) (by omega) z_51)
      · refine to_c (pc := 10) rw_45_10 (x := (1 : Int32)) rfl rfl (to_go (pc := 11) rw_45_11 (s_r1 (pc := 15) rw_45_15 (A := 1) rfl (by decide) (b_ine_t (pc := 13) rw_46_13 (A := 1) rfl (by decide) (to_c (pc := 34) rw_46_34 (x := (0 : Int32)) rfl rfl (s_r1 (pc := 35) rw_46_35 (A := 0) rfl (by decide) (b_ine_f (pc := 6) rw_49_6 (A := 0) rfl (by decide) (to_cl (pc := 9) rw_49_9 rfl (x := (0 : Int64)) rfl (to_rl (pc := 10) rw_49_10 (to_rl (pc := 9) rw_116_9 ?_)))))))))
        exact h (0 : Int64) M hG F0 (x_cd_0 (by omega))
set_option maxRecDepth 4000 in
set_option maxHeartbeats 0 in
theorem E_185 {X : mm_X} {d : Nat} {M : mm_M} {Q : Option Value → mm_M → Prop} {f : Int32} {v : Int32} {sg : x_S} (hX : g_X X) (hd : 3 ≤ d) (hG : g_G M) (q1 : FA M) (q2 : PLk M sg) (q3 : W8 M) (h : ∀ (r : Int64) (M1 : mm_M), g_G M1 → FR md_2 M M1 → (r = x_cd sg f.toInt v.toInt) → Q (some (.long r)) M1) : mm_T X d 184 0 [.ref 77, .int f, .int v] [] M Q := by
  have F0 : FR md_2 M M := FR.rf
  have z_1 := q2.2.1
  have z_2 := q2.2.2.1
  have z_3 := q2.2.2.2.1
  have z_4 := q2.1
  have z_5 := z_4.1
  have z_6 := z_4.2.1
  have z_7 := z_4.2.2.1
  have z_8 := z_4.2.2.2.1
  have z_9 := z_4.2.2.2.2.1
  have z_10 := z_4.2.2.2.2.2.1
  have b_11 := g_b hG (a := 77) (i := 11) (lo := 10) (hi := 60) rfl rfl
  have b_12 := g_b hG (a := 77) (i := 12) (lo := 0) (hi := 8) rfl rfl
  have b_13 := g_b hG (a := 77) (i := 13) (lo := 0) (hi := 12) rfl rfl
  refine to_an (pc := 0) rw_185_0 rfl (to_c (pc := 1) rw_185_1 (x := (0 : Int32)) rfl rfl (s_pI (pc := 2) rw_185_2 hG rfl (fun M15 W14 => ?_)))
  have hG16 := g_wf hG W14 rfl rfl (by decide)
  have F17 := FR.w F0 W14 (show 77 = 77 ∧ 2 = 2 by decide)
  refine to_an (pc := 5) rw_185_5 rfl (to_in (pc := 6) rw_185_6 rfl (to_in (pc := 7) rw_185_7 rfl (s_v (pc := 8) rw_185_8 (dp0 hd (by decide)) (ls0 := [.ref 77, .int f, .int v]) rfl (Nat.le_of_ble_eq_true rfl) (Nat.le_of_ble_eq_true rfl) rfl (to_rc rfl rfl rfl (g_o hG16 rfl)) rfl (to_an (pc := 0) rw_184_0 rfl (to_in (pc := 1) rw_184_1 rfl (s_v (pc := 2) rw_184_2 (dp1 hd (by decide)) (ls0 := [.ref 77, .int f]) rfl (Nat.le_of_ble_eq_true rfl) (Nat.le_of_ble_eq_true rfl) rfl (to_rc rfl rfl rfl (g_o hG16 rfl)) rfl (to_an (pc := 0) rw_179_0 rfl (to_in (pc := 1) rw_179_1 rfl (s_v (pc := 2) rw_179_2 (dp2 hd (by decide)) (ls0 := [.ref 77, .int f]) rfl (Nat.le_of_ble_eq_true rfl) (Nat.le_of_ble_eq_true rfl) rfl (to_rc rfl rfl rfl (g_o hG16 rfl)) rfl (to_in (pc := 0) rw_178_0 rfl (b_ilt (pc := 1) rw_178_1 (A := f.toInt) rfl (fun h18 => ?_) (fun h18 => ?_))))))))))))
  · refine to_c (pc := 16) rw_178_16 (x := (0 : Int32)) rfl rfl (s_r1 (pc := 17) rw_178_17 (A := 0) rfl (by decide) (b_ieq_t (pc := 5) rw_179_5 (A := 0) rfl (by decide) (to_c (pc := 22) rw_179_22 (x := (0 : Int32)) rfl rfl (s_r1 (pc := 23) rw_179_23 (A := 0) rfl (by decide) (b_ieq_t (pc := 5) rw_184_5 (A := 0) rfl (by decide) (to_c (pc := 26) rw_184_26 (x := (0 : Int32)) rfl rfl (s_r1 (pc := 27) rw_184_27 (A := 0) rfl (by decide) (b_ieq_t (pc := 11) rw_185_11 (A := 0) rfl (by decide) (to_cl (pc := 23) rw_185_23 rfl (x := (0 : Int64)) rfl (to_rl (pc := 24) rw_185_24 ?_))))))))))
    exact h (0 : Int64) M15 hG16 F17 (x_cd_0 (by omega))
  · refine to_in (pc := 4) rw_178_4 rfl (to_an (pc := 5) rw_178_5 rfl ?_)
    have c_19 : M15.2.1 77 12 = (M.2.1 77 12) := (W_n W14 (by decide) rfl)
    refine tt_gI (pc := 6) rw_178_6 (g_o hG16 rfl) (v := (M.2.1 77 12)) c_19 (b_cge (pc := 9) rw_178_9 (A := f.toInt) (B := (M.2.1 77 12).toInt) rfl rfl (fun h20 => ?_) (fun h20 => ?_))
    · refine to_c (pc := 16) rw_178_16 (x := (0 : Int32)) rfl rfl (s_r1 (pc := 17) rw_178_17 (A := 0) rfl (by decide) (b_ieq_t (pc := 5) rw_179_5 (A := 0) rfl (by decide) (to_c (pc := 22) rw_179_22 (x := (0 : Int32)) rfl rfl (s_r1 (pc := 23) rw_179_23 (A := 0) rfl (by decide) (b_ieq_t (pc := 5) rw_184_5 (A := 0) rfl (by decide) (to_c (pc := 26) rw_184_26 (x := (0 : Int32)) rfl rfl (s_r1 (pc := 27) rw_184_27 (A := 0) rfl (by decide) (b_ieq_t (pc := 11) rw_185_11 (A := 0) rfl (by decide) (to_cl (pc := 23) rw_185_23 rfl (x := (0 : Int64)) rfl (to_rl (pc := 24) rw_185_24 ?_))))))))))
      exact h (0 : Int64) M15 hG16 F17 (x_cd_0 (by omega))
    · refine to_c (pc := 12) rw_178_12 (x := (1 : Int32)) rfl rfl (to_go (pc := 13) rw_178_13 (s_r1 (pc := 17) rw_178_17 (A := 1) rfl (by decide) (b_ieq_f (pc := 5) rw_179_5 (A := 1) rfl (by decide) (to_an (pc := 8) rw_179_8 rfl (s_gR (pc := 9) rw_179_9 hG16 rfl (v := 81) rfl (to_in (pc := 12) rw_179_12 rfl (s_ial (pc := 13) rw_179_13 hG16 rfl (n := 16) rfl rfl (A := f.toInt) rfl (by omega) (by omega) (lo := 0) (hi := 3) rfl rfl (fun v21 w_22 _ _ => ?_))))))))
      have j_23 := (PLk_f (fun a i z => W_n W14 (tg_91 a i z) rfl) q2)
      have z_24 := PLk_r j_23 2 81 rfl (by decide) (by decide) (k := f.toInt) (by omega) (by omega) w_22
      have t_25 := congrArg Int32.toInt w_22
      have j_27 := (FA_f (fun a i z => W_n W14 (tg_94 a i z) rfl) q1)
      have j_26 := FA_u j_27 (f.toInt).toNat
      refine to_c (pc := 14) rw_179_14 (x := (3 : Int32)) rfl rfl (b_ceq (pc := 15) rw_179_15 (A := v21.toInt) (B := 3) rfl rfl (fun h28 => ?_) (fun h28 => ?_))
      · refine to_c (pc := 22) rw_179_22 (x := (0 : Int32)) rfl rfl (s_r1 (pc := 23) rw_179_23 (A := 0) rfl (by decide) (b_ieq_t (pc := 5) rw_184_5 (A := 0) rfl (by decide) (to_c (pc := 26) rw_184_26 (x := (0 : Int32)) rfl rfl (s_r1 (pc := 27) rw_184_27 (A := 0) rfl (by decide) (b_ieq_t (pc := 11) rw_185_11 (A := 0) rfl (by decide) (to_cl (pc := 23) rw_185_23 rfl (x := (0 : Int64)) rfl (to_rl (pc := 24) rw_185_24 ?_)))))))
        exact h (0 : Int64) M15 hG16 F17 (x_cd_0 (by omega))
      · refine to_c (pc := 18) rw_179_18 (x := (1 : Int32)) rfl rfl (to_go (pc := 19) rw_179_19 (s_r1 (pc := 23) rw_179_23 (A := 1) rfl (by decide) (b_ieq_f (pc := 5) rw_184_5 (A := 1) rfl (by decide) (to_in (pc := 8) rw_184_8 rfl (b_ilt (pc := 9) rw_184_9 (A := v.toInt) rfl (fun h29 => ?_) (fun h29 => ?_))))))
        · refine to_c (pc := 26) rw_184_26 (x := (0 : Int32)) rfl rfl (s_r1 (pc := 27) rw_184_27 (A := 0) rfl (by decide) (b_ieq_t (pc := 11) rw_185_11 (A := 0) rfl (by decide) (to_cl (pc := 23) rw_185_23 rfl (x := (0 : Int64)) rfl (to_rl (pc := 24) rw_185_24 ?_))))
          exact h (0 : Int64) M15 hG16 F17 (x_cd_0 (by omega))
        · refine to_in (pc := 12) rw_184_12 rfl (to_an (pc := 13) rw_184_13 rfl (s_gR (pc := 14) rw_184_14 hG16 rfl (v := 84) rfl (to_in (pc := 17) rw_184_17 rfl (s_ial (pc := 18) rw_184_18 hG16 rfl (n := 16) rfl rfl (A := f.toInt) rfl (by omega) (by omega) (lo := 0) (hi := 24) rfl rfl (fun v30 w_31 _ _ => ?_)))))
          have z_32 := PLk_r j_23 5 84 rfl (by decide) (by decide) (k := f.toInt) (by omega) (by omega) w_31
          have t_33 := congrArg Int32.toInt w_31
          refine b_cge (pc := 19) rw_184_19 (A := v.toInt) (B := v30.toInt) rfl rfl (fun h34 => ?_) (fun h34 => ?_)
          · refine to_c (pc := 26) rw_184_26 (x := (0 : Int32)) rfl rfl (s_r1 (pc := 27) rw_184_27 (A := 0) rfl (by decide) (b_ieq_t (pc := 11) rw_185_11 (A := 0) rfl (by decide) (to_cl (pc := 23) rw_185_23 rfl (x := (0 : Int64)) rfl (to_rl (pc := 24) rw_185_24 ?_))))
            exact h (0 : Int64) M15 hG16 F17 (x_cd_0 (by omega))
          · refine to_c (pc := 22) rw_184_22 (x := (1 : Int32)) rfl rfl (to_go (pc := 23) rw_184_23 (s_r1 (pc := 27) rw_184_27 (A := 1) rfl (by decide) (b_ieq_f (pc := 11) rw_185_11 (A := 1) rfl (by decide) (to_an (pc := 14) rw_185_14 rfl (to_in (pc := 15) rw_185_15 rfl (to_in (pc := 16) rw_185_16 rfl (s_v (pc := 17) rw_185_17 (dp0 hd (by decide)) (ls0 := [.ref 77, .int f, .int v]) rfl (Nat.le_of_ble_eq_true rfl) (Nat.le_of_ble_eq_true rfl) rfl (to_rc rfl rfl rfl (g_o hG16 rfl)) rfl (to_an (pc := 0) rw_183_0 rfl (s_gR (pc := 1) rw_183_1 hG16 rfl (v := 81) rfl (to_in (pc := 4) rw_183_4 rfl (s_ialk (pc := 5) rw_183_5 hG16 rfl (n := 16) rfl rfl (A := f.toInt) rfl (by omega) (by omega) (v := v21) w_22 ?_)))))))))))
            refine b_ine (pc := 6) rw_183_6 (A := v21.toInt) rfl (fun h37 => ?_) (fun h37 => ?_)
            · refine to_an (pc := 15) rw_183_15 rfl (s_gR (pc := 16) rw_183_16 hG16 rfl (v := 81) rfl (to_in (pc := 19) rw_183_19 rfl (s_ialk (pc := 20) rw_183_20 hG16 rfl (n := 16) rfl rfl (A := f.toInt) rfl (by omega) (by omega) (v := v21) w_22 (to_c (pc := 21) rw_183_21 (x := (1 : Int32)) rfl rfl (b_cne (pc := 22) rw_183_22 (A := v21.toInt) (B := 1) rfl rfl (fun h40 => ?_) (fun h40 => ?_))))))
              · refine to_an (pc := 35) rw_183_35 rfl (s_gR (pc := 36) rw_183_36 hG16 rfl (v := 89) rfl (to_in (pc := 39) rw_183_39 rfl (s_ial (pc := 40) rw_183_40 hG16 rfl (n := 10) rfl rfl (A := v.toInt) rfl (by omega) (by omega) (lo := -2147483648) (hi := 2147483647) rfl rfl (fun v41 w_42 _ _ => ?_))))
                have j_43 := (W8_f (fun a i z => W_n W14 (tg_95 a i z) rfl) q3)
                have z_44 := ((j_43 (v.toInt).toNat (by omega)).2.symm.trans w_42)
                refine to_i2l (pc := 41) rw_183_41 (v := (v41.toInt64)) rfl (to_an (pc := 42) rw_183_42 rfl (s_gR (pc := 43) rw_183_43 hG16 rfl (v := 82) rfl (to_in (pc := 46) rw_183_46 rfl (s_ial (pc := 47) rw_183_47 hG16 rfl (n := 16) rfl rfl (A := f.toInt) rfl (by omega) (by omega) (lo := 0) (hi := 59) rfl rfl (fun v45 w_46 _ _ => ?_)))))
                have z_47 := PLk_r j_23 3 82 rfl (by decide) (by decide) (k := f.toInt) (by omega) (by omega) w_46
                have t_48 := congrArg Int32.toInt w_46
                refine to_2s (pc := 48) rw_183_48 (v := ((v41.toInt64) <<< (v45.toInt64 &&& 63))) rfl (to_rl (pc := 49) rw_183_49 (to_go (pc := 20) rw_185_20 (to_rl (pc := 24) rw_185_24 ?_)))
                exact h ((v41.toInt64) <<< (v45.toInt64 &&& 63)) M15 hG16 F17 (x_cd_p (by omega) (by omega) (by omega) z_44)
              · refine to_an (pc := 25) rw_183_25 rfl (s_gR (pc := 26) rw_183_26 hG16 rfl (v := 88) rfl (to_in (pc := 29) rw_183_29 rfl (s_ial (pc := 30) rw_183_30 hG16 rfl (n := 10) rfl rfl (A := v.toInt) rfl (by omega) (by omega) (lo := -2147483648) (hi := 2147483647) rfl rfl (fun v49 w_50 _ _ => ?_))))
                have j_51 := (W8_f (fun a i z => W_n W14 (tg_95 a i z) rfl) q3)
                have z_52 := ((j_51 (v.toInt).toNat (by omega)).1.symm.trans w_50)
                refine to_i2l (pc := 31) rw_183_31 (v := (v49.toInt64)) rfl (to_go (pc := 32) rw_183_32 (to_an (pc := 42) rw_183_42 rfl (s_gR (pc := 43) rw_183_43 hG16 rfl (v := 82) rfl (to_in (pc := 46) rw_183_46 rfl (s_ial (pc := 47) rw_183_47 hG16 rfl (n := 16) rfl rfl (A := f.toInt) rfl (by omega) (by omega) (lo := 0) (hi := 59) rfl rfl (fun v53 w_54 _ _ => ?_))))))
                have z_55 := PLk_r j_23 3 82 rfl (by decide) (by decide) (k := f.toInt) (by omega) (by omega) w_54
                have t_56 := congrArg Int32.toInt w_54
                refine to_2s (pc := 48) rw_183_48 (v := ((v49.toInt64) <<< (v53.toInt64 &&& 63))) rfl (to_rl (pc := 49) rw_183_49 (to_go (pc := 20) rw_185_20 (to_rl (pc := 24) rw_185_24 ?_)))
                exact h ((v49.toInt64) <<< (v53.toInt64 &&& 63)) M15 hG16 F17 (x_cd_s (by omega) (by omega) (by omega) z_52)
            · refine to_cl (pc := 9) rw_183_9 rfl (x := (1 : Int64)) rfl (to_in (pc := 10) rw_183_10 rfl (to_2s (pc := 11) rw_183_11 (v := ((1 : Int64) <<< (v.toInt64 &&& 63))) rfl (to_go (pc := 12) rw_183_12 (to_an (pc := 42) rw_183_42 rfl (s_gR (pc := 43) rw_183_43 hG16 rfl (v := 82) rfl (to_in (pc := 46) rw_183_46 rfl (s_ial (pc := 47) rw_183_47 hG16 rfl (n := 16) rfl rfl (A := f.toInt) rfl (by omega) (by omega) (lo := 0) (hi := 59) rfl rfl (fun v57 w_58 _ _ => ?_))))))))
              have z_59 := PLk_r j_23 3 82 rfl (by decide) (by decide) (k := f.toInt) (by omega) (by omega) w_58
              have t_60 := congrArg Int32.toInt w_58
              refine to_2s (pc := 48) rw_183_48 (v := (((1 : Int64) <<< (v.toInt64 &&& 63)) <<< (v57.toInt64 &&& 63))) rfl (to_rl (pc := 49) rw_183_49 (to_go (pc := 20) rw_185_20 (to_rl (pc := 24) rw_185_24 ?_)))
              exact h (((1 : Int64) <<< (v.toInt64 &&& 63)) <<< (v57.toInt64 &&& 63)) M15 hG16 F17 (x_cd_b (by omega) (by omega) (by omega) (by omega) (by omega))
set_option maxRecDepth 4000 in
set_option maxHeartbeats 0 in
theorem E_182 {X : mm_X} {d : Nat} {M : mm_M} {Q : Option Value → mm_M → Prop} {f : Int32} {w : Int32} {sg : x_S} (hX : g_X X) (hd : 1 ≤ d) (hG : g_G M) (q1 : PLk M sg) (h : ∀ (r : Int32) (M1 : mm_M), g_G M1 → FR md_2 M M1 → (f.toInt < 0 ∨ sg.2.1 ≤ f.toInt → (M1.2.1 77 2).toInt = 1) → (¬ (f.toInt < 0 ∨ sg.2.1 ≤ f.toInt) ∧ 0 ≤ w.toInt ∧ w.toInt ≤ 3 → (M1.2.1 77 2).toInt = 0 ∧ r.toInt = x_row sg (2 + (w.toInt).toNat) f.toInt) → (¬ (f.toInt < 0 ∨ sg.2.1 ≤ f.toInt) ∧ ¬ (0 ≤ w.toInt ∧ w.toInt ≤ 3) → (M1.2.1 77 2).toInt = 2) → Q (some (.int r)) M1) : mm_T X d 181 0 [.ref 77, .int f, .int w] [] M Q := by
  have F0 : FR md_2 M M := FR.rf
  have z_1 := q1.2.1
  have z_2 := q1.2.2.1
  have z_3 := q1.2.2.2.1
  have z_4 := q1.1
  have z_5 := z_4.1
  have z_6 := z_4.2.1
  have z_7 := z_4.2.2.1
  have z_8 := z_4.2.2.2.1
  have z_9 := z_4.2.2.2.2.1
  have z_10 := z_4.2.2.2.2.2.1
  have b_11 := g_b hG (a := 77) (i := 11) (lo := 10) (hi := 60) rfl rfl
  have b_12 := g_b hG (a := 77) (i := 12) (lo := 0) (hi := 8) rfl rfl
  have b_13 := g_b hG (a := 77) (i := 13) (lo := 0) (hi := 12) rfl rfl
  refine to_an (pc := 0) rw_182_0 rfl (to_c (pc := 1) rw_182_1 (x := (0 : Int32)) rfl rfl (s_pI (pc := 2) rw_182_2 hG rfl (fun M15 W14 => ?_)))
  have hG16 := g_wf hG W14 rfl rfl (by decide)
  have F17 := FR.w F0 W14 (show 77 = 77 ∧ 2 = 2 by decide)
  refine to_an (pc := 5) rw_182_5 rfl (to_in (pc := 6) rw_182_6 rfl (s_v (pc := 7) rw_182_7 (dp0 hd (by decide)) (ls0 := [.ref 77, .int f]) rfl (Nat.le_of_ble_eq_true rfl) (Nat.le_of_ble_eq_true rfl) rfl (to_rc rfl rfl rfl (g_o hG16 rfl)) rfl (to_in (pc := 0) rw_178_0 rfl (b_ilt (pc := 1) rw_178_1 (A := f.toInt) rfl (fun h18 => ?_) (fun h18 => ?_)))))
  · refine to_c (pc := 16) rw_178_16 (x := (0 : Int32)) rfl rfl (s_r1 (pc := 17) rw_178_17 (A := 0) rfl (by decide) (b_ine_f (pc := 10) rw_182_10 (A := 0) rfl (by decide) (to_an (pc := 13) rw_182_13 rfl (to_c (pc := 14) rw_182_14 (x := (1 : Int32)) rfl rfl (s_v (pc := 15) rw_182_15 (dp0 hd (by decide)) (ls0 := [.ref 77, .int (1 : Int32)]) rfl (Nat.le_of_ble_eq_true rfl) (Nat.le_of_ble_eq_true rfl) rfl (to_rc rfl rfl rfl (g_o hG16 rfl)) rfl (to_an (pc := 0) rw_181_0 rfl (to_in (pc := 1) rw_181_1 rfl (s_pI (pc := 2) rw_181_2 hG16 rfl (fun M20 W19 => ?_)))))))))
    have hG21 := g_wf hG16 W19 rfl rfl (by decide)
    have F22 := FR.w F17 W19 (show 77 = 77 ∧ 2 = 2 by decide)
    refine to_c (pc := 5) rw_181_5 (x := (0 : Int32)) rfl rfl (to_r0 (pc := 6) rw_181_6 (to_r0 (pc := 18) rw_182_18 ?_))
    have k_23 : (0 : Int32).toInt = 0 := rfl
    have c_24 : M20.2.1 77 2 = (1 : Int32) := (W_e W19)
    have k_25 : (1 : Int32).toInt = 1 := rfl
    have t_26 : (M20.2.1 77 2).toInt = (1 : Int32).toInt := congrArg Int32.toInt c_24
    exact h (0 : Int32) M20 hG21 F22 (by omega) (by omega) (by omega)
  · refine to_in (pc := 4) rw_178_4 rfl (to_an (pc := 5) rw_178_5 rfl ?_)
    have c_27 : M15.2.1 77 12 = (M.2.1 77 12) := (W_n W14 (by decide) rfl)
    refine tt_gI (pc := 6) rw_178_6 (g_o hG16 rfl) (v := (M.2.1 77 12)) c_27 (b_cge (pc := 9) rw_178_9 (A := f.toInt) (B := (M.2.1 77 12).toInt) rfl rfl (fun h28 => ?_) (fun h28 => ?_))
    · refine to_c (pc := 16) rw_178_16 (x := (0 : Int32)) rfl rfl (s_r1 (pc := 17) rw_178_17 (A := 0) rfl (by decide) (b_ine_f (pc := 10) rw_182_10 (A := 0) rfl (by decide) (to_an (pc := 13) rw_182_13 rfl (to_c (pc := 14) rw_182_14 (x := (1 : Int32)) rfl rfl (s_v (pc := 15) rw_182_15 (dp0 hd (by decide)) (ls0 := [.ref 77, .int (1 : Int32)]) rfl (Nat.le_of_ble_eq_true rfl) (Nat.le_of_ble_eq_true rfl) rfl (to_rc rfl rfl rfl (g_o hG16 rfl)) rfl (to_an (pc := 0) rw_181_0 rfl (to_in (pc := 1) rw_181_1 rfl (s_pI (pc := 2) rw_181_2 hG16 rfl (fun M30 W29 => ?_)))))))))
      have hG31 := g_wf hG16 W29 rfl rfl (by decide)
      have F32 := FR.w F17 W29 (show 77 = 77 ∧ 2 = 2 by decide)
      refine to_c (pc := 5) rw_181_5 (x := (0 : Int32)) rfl rfl (to_r0 (pc := 6) rw_181_6 (to_r0 (pc := 18) rw_182_18 ?_))
      have k_33 : (0 : Int32).toInt = 0 := rfl
      have c_34 : M30.2.1 77 2 = (1 : Int32) := (W_e W29)
      have k_35 : (1 : Int32).toInt = 1 := rfl
      have t_36 : (M30.2.1 77 2).toInt = (1 : Int32).toInt := congrArg Int32.toInt c_34
      exact h (0 : Int32) M30 hG31 F32 (by omega) (by omega) (by omega)
    · refine to_c (pc := 12) rw_178_12 (x := (1 : Int32)) rfl rfl (to_go (pc := 13) rw_178_13 (s_r1 (pc := 17) rw_178_17 (A := 1) rfl (by decide) (b_ine_t (pc := 10) rw_182_10 (A := 1) rfl (by decide) (to_in (pc := 19) rw_182_19 rfl ?_))))
      rcases (show w.toInt = 0 ∨ w.toInt = 1 ∨ w.toInt = 2 ∨ w.toInt = 3 ∨ (w.toInt < 0 ∨ 3 < w.toInt) by omega) with h37 | h37 | h37 | h37 | h37
      · refine s_sw (pc := 20) rw_182_20 (A := w.toInt) (k := 0) (t := 52) rfl h37 (by decide) rfl (to_an (pc := 52) rw_182_52 rfl (s_gR (pc := 53) rw_182_53 hG16 rfl (v := 81) rfl (to_in (pc := 56) rw_182_56 rfl (s_ial (pc := 57) rw_182_57 hG16 rfl (n := 16) rfl rfl (A := f.toInt) rfl (by omega) (by omega) (lo := 0) (hi := 3) rfl rfl (fun v38 w_39 _ _ => ?_)))))
        have j_40 := (PLk_f (fun a i z => W_n W14 (tg_91 a i z) rfl) q1)
        have z_41 := PLk_r j_40 2 81 rfl (by decide) (by decide) (k := f.toInt) (by omega) (by omega) w_39
        have z_42 := (show x_row sg 2 f.toInt = x_row sg (2 + (w.toInt).toNat) f.toInt by rw [show 2 + (w.toInt).toNat = 2 by omega])
        refine to_r0 (pc := 58) rw_182_58 ?_
        have c_43 : M15.2.1 77 2 = (0 : Int32) := (W_e W14)
        have k_44 : (0 : Int32).toInt = 0 := rfl
        have t_45 : (M15.2.1 77 2).toInt = (0 : Int32).toInt := congrArg Int32.toInt c_43
        exact h v38 M15 hG16 F17 (by omega) (by omega) (by omega)
      · refine s_sw (pc := 20) rw_182_20 (A := w.toInt) (k := 1) (t := 59) rfl h37 (by decide) rfl (to_an (pc := 59) rw_182_59 rfl (s_gR (pc := 60) rw_182_60 hG16 rfl (v := 82) rfl (to_in (pc := 63) rw_182_63 rfl (s_ial (pc := 64) rw_182_64 hG16 rfl (n := 16) rfl rfl (A := f.toInt) rfl (by omega) (by omega) (lo := 0) (hi := 59) rfl rfl (fun v46 w_47 _ _ => ?_)))))
        have j_48 := (PLk_f (fun a i z => W_n W14 (tg_91 a i z) rfl) q1)
        have z_49 := PLk_r j_48 3 82 rfl (by decide) (by decide) (k := f.toInt) (by omega) (by omega) w_47
        have z_50 := (show x_row sg 3 f.toInt = x_row sg (2 + (w.toInt).toNat) f.toInt by rw [show 2 + (w.toInt).toNat = 3 by omega])
        refine to_r0 (pc := 65) rw_182_65 ?_
        have c_51 : M15.2.1 77 2 = (0 : Int32) := (W_e W14)
        have k_52 : (0 : Int32).toInt = 0 := rfl
        have t_53 : (M15.2.1 77 2).toInt = (0 : Int32).toInt := congrArg Int32.toInt c_51
        exact h v46 M15 hG16 F17 (by omega) (by omega) (by omega)
      · refine s_sw (pc := 20) rw_182_20 (A := w.toInt) (k := 2) (t := 66) rfl h37 (by decide) rfl (to_an (pc := 66) rw_182_66 rfl (s_gR (pc := 67) rw_182_67 hG16 rfl (v := 83) rfl (to_in (pc := 70) rw_182_70 rfl (s_ial (pc := 71) rw_182_71 hG16 rfl (n := 16) rfl rfl (A := f.toInt) rfl (by omega) (by omega) (lo := 0) (hi := 63) rfl rfl (fun v54 w_55 _ _ => ?_)))))
        have j_56 := (PLk_f (fun a i z => W_n W14 (tg_91 a i z) rfl) q1)
        have z_57 := PLk_r j_56 4 83 rfl (by decide) (by decide) (k := f.toInt) (by omega) (by omega) w_55
        have z_58 := (show x_row sg 4 f.toInt = x_row sg (2 + (w.toInt).toNat) f.toInt by rw [show 2 + (w.toInt).toNat = 4 by omega])
        refine to_r0 (pc := 72) rw_182_72 ?_
        have c_59 : M15.2.1 77 2 = (0 : Int32) := (W_e W14)
        have k_60 : (0 : Int32).toInt = 0 := rfl
        have t_61 : (M15.2.1 77 2).toInt = (0 : Int32).toInt := congrArg Int32.toInt c_59
        exact h v54 M15 hG16 F17 (by omega) (by omega) (by omega)
      · refine s_sw (pc := 20) rw_182_20 (A := w.toInt) (k := 3) (t := 73) rfl h37 (by decide) rfl (to_an (pc := 73) rw_182_73 rfl (s_gR (pc := 74) rw_182_74 hG16 rfl (v := 84) rfl (to_in (pc := 77) rw_182_77 rfl (s_ial (pc := 78) rw_182_78 hG16 rfl (n := 16) rfl rfl (A := f.toInt) rfl (by omega) (by omega) (lo := 0) (hi := 24) rfl rfl (fun v62 w_63 _ _ => ?_)))))
        have j_64 := (PLk_f (fun a i z => W_n W14 (tg_91 a i z) rfl) q1)
        have z_65 := PLk_r j_64 5 84 rfl (by decide) (by decide) (k := f.toInt) (by omega) (by omega) w_63
        have z_66 := (show x_row sg 5 f.toInt = x_row sg (2 + (w.toInt).toNat) f.toInt by rw [show 2 + (w.toInt).toNat = 5 by omega])
        refine to_r0 (pc := 79) rw_182_79 ?_
        have c_67 : M15.2.1 77 2 = (0 : Int32) := (W_e W14)
        have k_68 : (0 : Int32).toInt = 0 := rfl
        have t_69 : (M15.2.1 77 2).toInt = (0 : Int32).toInt := congrArg Int32.toInt c_67
        exact h v62 M15 hG16 F17 (by omega) (by omega) (by omega)
      · refine s_swd (pc := 20) rw_182_20 (A := w.toInt) rfl h37 (to_an (pc := 80) rw_182_80 rfl (to_c (pc := 81) rw_182_81 (x := (2 : Int32)) rfl rfl (s_v (pc := 82) rw_182_82 (dp0 hd (by decide)) (ls0 := [.ref 77, .int (2 : Int32)]) rfl (Nat.le_of_ble_eq_true rfl) (Nat.le_of_ble_eq_true rfl) rfl (to_rc rfl rfl rfl (g_o hG16 rfl)) rfl (to_an (pc := 0) rw_181_0 rfl (to_in (pc := 1) rw_181_1 rfl (s_pI (pc := 2) rw_181_2 hG16 rfl (fun M71 W70 => ?_)))))))
        have hG72 := g_wf hG16 W70 rfl rfl (by decide)
        have F73 := FR.w F17 W70 (show 77 = 77 ∧ 2 = 2 by decide)
        refine to_c (pc := 5) rw_181_5 (x := (0 : Int32)) rfl rfl (to_r0 (pc := 6) rw_181_6 (to_r0 (pc := 85) rw_182_85 ?_))
        have k_74 : (0 : Int32).toInt = 0 := rfl
        have c_75 : M71.2.1 77 2 = (2 : Int32) := (W_e W70)
        have k_76 : (2 : Int32).toInt = 2 := rfl
        have t_77 : (M71.2.1 77 2).toInt = (2 : Int32).toInt := congrArg Int32.toInt c_75
        exact h (0 : Int32) M71 hG72 F73 (by omega) (by omega) (by omega)
end
section
theorem tg_96 {M M1 : mm_M} (F : FR (fun a i : Nat => 6 ≤ a ∧ a ≤ 10) M M1) : ∀ a i : Nat, PI_r a → M1.2.1 a i = M.2.1 a i := fun a i z => F_n F (show ¬ (6 ≤ a ∧ a ≤ 10) by omega) rfl
theorem tg_97 {M M1 : mm_M} (F : FR (fun a i : Nat => 6 ≤ a ∧ a ≤ 10) M M1) : ∀ a i : Nat, (a = 68 ∨ a = 69 ∨ a = 73 ∨ a = 74) → M1.2.1 a i = M.2.1 a i := fun a i z => F_n F (show ¬ (6 ≤ a ∧ a ≤ 10) by omega) rfl
theorem tg_98 {M M1 : mm_M} (F : FR (fun a i : Nat => a < 0) M M1) : ∀ a i : Nat, (7 ≤ a ∧ a ≤ 9) → M1.2.1 a i = M.2.1 a i := fun a i z => F_n F (show ¬ (a < 0) by omega) rfl
theorem tg_99 {M M1 : mm_M} (F : FR (fun a i : Nat => a < 0) M M1) : ∀ a i : Nat, PI_r a → M1.2.1 a i = M.2.1 a i := fun a i z => F_n F (show ¬ (a < 0) by omega) rfl
theorem tg_100 {M M1 : mm_M} (F : FR (fun a i : Nat => a < 0) M M1) : ∀ a i : Nat, (a = 68 ∨ a = 69 ∨ a = 73 ∨ a = 74) → M1.2.1 a i = M.2.1 a i := fun a i z => F_n F (show ¬ (a < 0) by omega) rfl
theorem tg_101 {M M1 : mm_M} (F : FR (fun a i : Nat => a < 0) M M1) : ∀ a i : Nat, (a = 77 ∧ 11 ≤ i ∧ i ≤ 13 ∨ 80 ≤ a ∧ a ≤ 84 ∧ i < 8 ∨ 85 ≤ a ∧ a ≤ 86 ∧ i < 12) → M1.2.1 a i = M.2.1 a i := fun a i z => F_n F (show ¬ (a < 0) by omega) rfl
theorem tg_102 {M M1 : mm_M} (F : FR (fun a i : Nat => a < 0) M M1) : ∀ a i : Nat, NJ_r a i → M1.2.1 a i = M.2.1 a i := fun a i z => F_n F (show ¬ (a < 0) by omega) rfl
theorem tg_103 : ∀ a i : Nat, (6 ≤ a ∧ a ≤ 10) → (6 ≤ a ∧ a ≤ 10) := fun a i z => by omega
theorem tg_104 : ∀ a i : Nat, (a < 0) → (6 ≤ a ∧ a ≤ 10) := fun a i z => by omega
theorem tg_105 : ∀ a i : Nat, (a = 77 ∧ i = 29 ∨ 90 ≤ a ∧ a ≤ 93) → (a = 77 ∧ (i = 2 ∨ i = 29) ∨ 90 ≤ a ∧ a ≤ 93) := fun a i z => by omega
theorem tg_106 : ∀ a i : Nat, (a < 0) → (a = 77 ∧ (i = 2 ∨ i = 29) ∨ 90 ≤ a ∧ a ≤ 93) := fun a i z => by omega
theorem tg_107 : ∀ a i : Nat, (7 ≤ a ∧ a ≤ 9) → ¬ (a = 6 ∧ i = 0) := fun a i z => by omega
theorem tg_108 : ∀ a i j : Nat, (7 ≤ a ∧ a ≤ 9) → ¬ (a = 10 ∧ i = j) := fun a i j z => by omega
theorem NWc_o {O O2 M : mm_M} {r : Int} {k f s t : Int32} (h : ∀ a i : Nat, (a = 6 ∧ i = 0 ∨ 7 ≤ a ∧ a ≤ 10) → O.2.1 a i = O2.2.1 a i) (H : NWc O M r k f s t) : NWc O2 M r k f s t := by
  unfold NWc at H ⊢
  rw [h 6 0 (by omega)] at H
  exact ⟨fun z a i g => (H.1 z a i g).trans (h a i (by omega)), fun z => ⟨fun a i g g2 => ((H.2 z).1 a i g g2).trans (h a i (by omega)), (H.2 z).2⟩⟩
set_option maxRecDepth 4000 in
set_option maxHeartbeats 0 in
theorem E_247 {X : mm_X} {d : Nat} {M : mm_M} {Q : Option Value → mm_M → Prop} {x : Int32} (hX : g_X X) (hd : 0 ≤ d) (hG : g_G M) (q1 : 0 ≤ x.toInt) (q2 : x.toInt ≤ 16777215) (h : ∀ (r : Int32) (M1 : mm_M), g_G M1 → FR md_0 M M1 → (r.toInt = ((x_ct (x.toInt).toNat 62 : Nat) : Int)) → Q (some (.int r)) M1) : mm_T X d 246 0 [.int x] [] M Q := by
  have F0 : FR md_0 M M := FR.rf
  refine to_in (pc := 0) rw_247_0 rfl (to_in (pc := 1) rw_247_1 rfl (to_c (pc := 2) rw_247_2 (x := (1 : Int32)) rfl rfl (s_opE (pc := 3) rw_247_3 (w := ((x.toUInt32 >>> ((1 : Int32).toUInt32 &&& Int32.toUInt32 31)).toInt32)) rfl (fun v1 e2 => ?_))))
  have u_3 : v1.toInt = x.toInt / 2 := by rw [← e2]; exact i_ushr (k := 1) (by decide) (by omega)
  refine to_c (pc := 4) rw_247_4 (x := (1431655765 : Int32)) rfl rfl (s_and' (pc := 7) rw_247_7 (A := v1.toInt) rfl (by omega) (fun v4 e5 _ _ => ?_))
  have k_6 : (1431655765 : Int32).toInt = 1431655765 := rfl
  have u_7 : v4.toInt = ((v1.toInt.toNat &&& 1431655765 : Nat) : Int) := by rw [← e5]; exact i_and_n (by omega) (by decide)
  have z_8 := (Nat.and_le_left : (v1.toInt.toNat &&& 1431655765) ≤ v1.toInt.toNat)
  refine s_sub (pc := 8) rw_247_8 (A := x.toInt) (B := v4.toInt) rfl rfl (by omega) (fun v9 e10 => to_isn (pc := 9) rw_247_9 (ls2 := [.int v9]) rfl rfl (to_in (pc := 10) rw_247_10 rfl (to_c (pc := 11) rw_247_11 (x := (858993459 : Int32)) rfl rfl (s_and (pc := 14) rw_247_14 (B := 858993459) rfl (by omega) (fun v11 e12 _ _ => ?_)))))
  have k_13 : (858993459 : Int32).toInt = 858993459 := rfl
  have u_14 : v11.toInt = ((v9.toInt.toNat &&& 858993459 : Nat) : Int) := by rw [← e12]; exact i_and_n (by omega) (by decide)
  have z_15 := (Nat.and_le_left : (v9.toInt.toNat &&& 858993459) ≤ v9.toInt.toNat)
  refine to_in (pc := 15) rw_247_15 rfl (to_c (pc := 16) rw_247_16 (x := (2 : Int32)) rfl rfl (s_opE (pc := 17) rw_247_17 (w := ((v9.toUInt32 >>> ((2 : Int32).toUInt32 &&& Int32.toUInt32 31)).toInt32)) rfl (fun v16 e17 => ?_)))
  have u_18 : v16.toInt = v9.toInt / 4 := by rw [← e17]; exact i_ushr (k := 2) (by decide) (by omega)
  refine to_c (pc := 18) rw_247_18 (x := (858993459 : Int32)) rfl rfl (s_and (pc := 21) rw_247_21 (B := 858993459) rfl (by omega) (fun v19 e20 _ _ => ?_))
  have u_21 : v19.toInt = ((v16.toInt.toNat &&& 858993459 : Nat) : Int) := by rw [← e20]; exact i_and_n (by omega) (by decide)
  have z_22 := (Nat.and_le_left : (v16.toInt.toNat &&& 858993459) ≤ v16.toInt.toNat)
  refine s_add (pc := 22) rw_247_22 (A := v11.toInt) (B := v19.toInt) rfl rfl (by omega) (fun v23 e24 => to_isn (pc := 23) rw_247_23 (ls2 := [.int v23]) rfl rfl (to_in (pc := 24) rw_247_24 rfl (to_in (pc := 25) rw_247_25 rfl (to_c (pc := 26) rw_247_26 (x := (4 : Int32)) rfl rfl (s_opE (pc := 27) rw_247_27 (w := ((v23.toUInt32 >>> ((4 : Int32).toUInt32 &&& Int32.toUInt32 31)).toInt32)) rfl (fun v25 e26 => ?_))))))
  have u_27 : v25.toInt = v23.toInt / 16 := by rw [← e26]; exact i_ushr (k := 4) (by decide) (by omega)
  refine s_add (pc := 28) rw_247_28 (A := v23.toInt) (B := v25.toInt) rfl rfl (by omega) (fun v28 e29 => to_c (pc := 29) rw_247_29 (x := (252645135 : Int32)) rfl rfl (s_and' (pc := 32) rw_247_32 (A := v28.toInt) rfl (by omega) (fun v30 e31 _ _ => ?_)))
  have k_32 : (252645135 : Int32).toInt = 252645135 := rfl
  have u_33 : v30.toInt = ((v28.toInt.toNat &&& 252645135 : Nat) : Int) := by rw [← e31]; exact i_and_n (by omega) (by decide)
  have z_34 := (Nat.and_le_left : (v28.toInt.toNat &&& 252645135) ≤ v28.toInt.toNat)
  refine to_isn (pc := 33) rw_247_33 (ls2 := [.int v30]) rfl rfl (to_in (pc := 34) rw_247_34 rfl (to_in (pc := 35) rw_247_35 rfl (to_c (pc := 36) rw_247_36 (x := (8 : Int32)) rfl rfl (s_opE (pc := 38) rw_247_38 (w := ((v30.toUInt32 >>> ((8 : Int32).toUInt32 &&& Int32.toUInt32 31)).toInt32)) rfl (fun v35 e36 => ?_)))))
  have u_37 : v35.toInt = v30.toInt / 256 := by rw [← e36]; exact i_ushr (k := 8) (by decide) (by omega)
  refine s_add (pc := 39) rw_247_39 (A := v30.toInt) (B := v35.toInt) rfl rfl (by omega) (fun v38 e39 => to_isn (pc := 40) rw_247_40 (ls2 := [.int v38]) rfl rfl (to_in (pc := 41) rw_247_41 rfl (to_in (pc := 42) rw_247_42 rfl (to_c (pc := 43) rw_247_43 (x := (16 : Int32)) rfl rfl (s_opE (pc := 45) rw_247_45 (w := ((v38.toUInt32 >>> ((16 : Int32).toUInt32 &&& Int32.toUInt32 31)).toInt32)) rfl (fun v40 e41 => ?_))))))
  have u_42 : v40.toInt = v38.toInt / 65536 := by rw [← e41]; exact i_ushr (k := 16) (by decide) (by omega)
  refine s_add (pc := 46) rw_247_46 (A := v38.toInt) (B := v40.toInt) rfl rfl (by omega) (fun v43 e44 => to_isn (pc := 47) rw_247_47 (ls2 := [.int v43]) rfl rfl (to_in (pc := 48) rw_247_48 rfl (to_c (pc := 49) rw_247_49 (x := (63 : Int32)) rfl rfl (s_and (pc := 51) rw_247_51 (B := 63) rfl (by omega) (fun v45 e46 _ _ => ?_)))))
  have k_47 : (63 : Int32).toInt = 63 := rfl
  have u_48 : v45.toInt = ((v43.toInt.toNat &&& 63 : Nat) : Int) := by rw [← e46]; exact i_and_n (by omega) (by decide)
  have z_49 := (Nat.and_le_left : (v43.toInt.toNat &&& 63) ≤ v43.toInt.toNat)
  refine to_r0 (pc := 52) rw_247_52 ?_
  have z_50 := bc_all (x := x.toInt) (by omega) (by omega) u_3 u_7 (by omega) u_14 u_18 u_21 (by omega) u_27 (by omega) u_33 u_37 (by omega) u_42 (by omega) u_48
  have z_51 := n_bc_ct (n := (x.toInt).toNat) (by omega)
  exact h v45 M hG F0 (by omega)
set_option maxRecDepth 4000 in
set_option maxHeartbeats 0 in
theorem U_151i_0 {X : mm_X} {d : Nat} {M : mm_M} {Q : Option Value → mm_M → Prop} {x : Int64} {b : Int32} (hX : g_X X) (hd : 1 ≤ d) (q1 : x = b.toInt64) (q2 : 0 ≤ b.toInt) (h : ∀ (r : Int32) (M1 : mm_M), g_G M1 → FR md_0 M M1 → (r.toInt = ((x_ct (b.toInt).toNat 62 : Nat) : Int)) → Q (some (.int r)) M1) : ∀ nn9 : Nat, (∀ (N : mm_M) (x2 : Int32) (x3 : Int32), g_G N → FR md_0 M N → (0 ≤ x3.toInt) → (x3.toInt ≤ 62) → (0 ≤ x2.toInt) → (x2.toInt ≤ 62) → (x2.toInt ≤ x3.toInt) → ((x2.toInt) = ((x_ct (b.toInt).toNat (x3.toInt).toNat : Nat) : Int)) → 62 - x3.toInt < (nn9 : Int) → mm_T X d 150 4 [.long x, .null, .int x2, .int x3] [] N Q) := by
  intro nn9
  induction nn9 with
  | zero =>
    intro N x2 x3 hG F0 g1 g2 g3 g4 g5 g6 hm
    exfalso; omega
  | succ nn9 ih =>
    intro N x2 x3 hG F0 g1 g2 g3 g4 g5 g6 hm
    refine to_in (pc := 4) rw_151_4 rfl (to_c (pc := 5) rw_151_5 (x := (62 : Int32)) rfl rfl (b_cge (pc := 7) rw_151_7 (A := x3.toInt) (B := 62) rfl rfl (fun h1 => ?_) (fun h1 => ?_)))
    · refine to_in (pc := 32) rw_151_32 rfl (to_r0 (pc := 33) rw_151_33 ?_)
      have z_2 := (g6.trans (by rw [show (x3.toInt).toNat = 62 by omega]) : x2.toInt = ((x_ct (b.toInt).toNat 62 : Nat) : Int))
      exact h x2 N hG F0 (by omega)
    · refine to_in (pc := 10) rw_151_10 rfl (to_ln (pc := 11) rw_151_11 rfl rfl rfl (to_in (pc := 12) rw_151_12 rfl (s_s (pc := 13) rw_151_13 (dp0 hd (by decide)) (ls0 := [.long x, .null, .int x3]) rfl (Nat.le_of_ble_eq_true rfl) (Nat.le_of_ble_eq_true rfl) rfl (to_rcs rfl rfl) rfl (to_ln (pc := 0) rw_150_0 rfl rfl rfl (to_in (pc := 1) rw_150_1 rfl (to_2s (pc := 2) rw_150_2 (v := (x >>> (x3.toInt64 &&& 63))) rfl (to_cl (pc := 3) rw_150_3 rfl (x := (1 : Int64)) rfl (to_2l (pc := 4) rw_150_4 (v := ((x >>> (x3.toInt64 &&& 63)) &&& (1 : Int64))) rfl (to_cl (pc := 5) rw_150_5 rfl (x := (1 : Int64)) rfl (s_lcmpE (pc := 6) rw_150_6 (fun v3 e4 => ?_)))))))))))
      have b_5 := x_eq_b (x := ((x >>> (x3.toInt64 &&& 63)) &&& (1 : Int64))) (y := (1 : Int64))
      have z_6 := x_many (b := b) (v := x3) (h := x3.toInt) (by omega) (by omega) (by omega) (by omega)
      rw [← q1] at z_6
      refine b_ine (pc := 7) rw_150_7 (A := v3.toInt) rfl (fun h7 => ?_) (fun h7 => ?_)
      · refine to_c (pc := 14) rw_150_14 (x := (0 : Int32)) rfl rfl (s_r1 (pc := 15) rw_150_15 (A := 0) rfl (by decide) (b_ieq_t (pc := 16) rw_151_16 (A := 0) rfl (by decide) (to_c (pc := 23) rw_151_23 (x := (0 : Int32)) rfl rfl (s_add (pc := 24) rw_151_24 (A := x2.toInt) (B := 0) rfl rfl (by omega) (fun v8 e9 => to_isn (pc := 25) rw_151_25 (ls2 := [.long x, .null, .int v8, .int x3]) rfl rfl (s_inc (pc := 26) rw_151_26 (ls2 := fun v => [.long x, .null, .int v8, .int v]) rfl rfl (fun _ => rfl) (A := x3.toInt) (B := 1) rfl rfl (by omega) (fun v10 e11 => to_go (pc := 29) rw_151_29 ?_)))))))
        exact ih N v8 v10 hG F0 (by omega) (by omega) (by omega) (by omega) (by omega) (x_ct_s (by omega) g6 (by omega) (by omega)) (by omega)
      · refine to_c (pc := 10) rw_150_10 (x := (1 : Int32)) rfl rfl (to_go (pc := 11) rw_150_11 (s_r1 (pc := 15) rw_150_15 (A := 1) rfl (by decide) (b_ieq_f (pc := 16) rw_151_16 (A := 1) rfl (by decide) (to_c (pc := 19) rw_151_19 (x := (1 : Int32)) rfl rfl (to_go (pc := 20) rw_151_20 (s_add (pc := 24) rw_151_24 (A := x2.toInt) (B := 1) rfl rfl (by omega) (fun v12 e13 => to_isn (pc := 25) rw_151_25 (ls2 := [.long x, .null, .int v12, .int x3]) rfl rfl (s_inc (pc := 26) rw_151_26 (ls2 := fun v => [.long x, .null, .int v12, .int v]) rfl rfl (fun _ => rfl) (A := x3.toInt) (B := 1) rfl rfl (by omega) (fun v14 e15 => to_go (pc := 29) rw_151_29 ?_)))))))))
        exact ih N v12 v14 hG F0 (by omega) (by omega) (by omega) (by omega) (by omega) (x_ct_s (by omega) g6 (by omega) (by omega)) (by omega)
set_option maxRecDepth 4000 in
set_option maxHeartbeats 0 in
theorem E_151i {X : mm_X} {d : Nat} {M : mm_M} {Q : Option Value → mm_M → Prop} {x : Int64} {b : Int32} (hX : g_X X) (hd : 1 ≤ d) (hG : g_G M) (q1 : x = b.toInt64) (q2 : 0 ≤ b.toInt) (h : ∀ (r : Int32) (M1 : mm_M), g_G M1 → FR md_0 M M1 → (r.toInt = ((x_ct (b.toInt).toNat 62 : Nat) : Int)) → Q (some (.int r)) M1) : mm_T X d 150 0 [.long x, .null, .null, .null] [] M Q := by
  have F0 : FR md_0 M M := FR.rf
  refine to_c (pc := 0) rw_151_0 (x := (0 : Int32)) rfl rfl (to_isn (pc := 1) rw_151_1 (ls2 := [.long x, .null, .int (0 : Int32), .null]) rfl rfl (to_c (pc := 2) rw_151_2 (x := (0 : Int32)) rfl rfl (to_isn (pc := 3) rw_151_3 (ls2 := [.long x, .null, .int (0 : Int32), .int (0 : Int32)]) rfl rfl ?_)))
  have k_16 : (0 : Int32).toInt = 0 := rfl
  exact (U_151i_0 (x := x) (b := b) hX hd q1 q2 h ((62 - (0 : Int32).toInt).toNat + 1)) M (0 : Int32) (0 : Int32) hG F0 (by omega) (by omega) (by omega) (by omega) (by omega) rfl (by omega)
set_option maxRecDepth 4000 in
set_option maxHeartbeats 0 in
theorem E_20 {X : mm_X} {d : Nat} {M : mm_M} {Q : Option Value → mm_M → Prop} {k : Int32} {f : Int32} {s : Int32} {t : Int32} (hX : g_X X) (hd : 0 ≤ d) (hG : g_G M) (q1 : 0 ≤ k.toInt) (q2 : k.toInt ≤ 5) (q3 : 0 ≤ f.toInt) (q4 : f.toInt ≤ 149) (q5 : (k.toInt = 0 → f.toInt ≤ 29 ∧ 0 ≤ s.toInt ∧ s.toInt ≤ 7) ∧ (k.toInt = 1 → f.toInt ≤ 29 ∧ 0 ≤ s.toInt ∧ s.toInt ≤ 11) ∧ (k.toInt = 2 → f.toInt ≤ 29) ∧ (k.toInt = 3 → f.toInt ≤ 29) ∧ (k.toInt = 4 → f.toInt ≤ 11)) (q6 : NI M) (h : ∀ (r : Int32) (M1 : mm_M), g_G M1 → FR md_n M M1 → (150 ≤ (M.2.1 6 0).toInt → r.toInt = -1 ∧ (M1.2.1 6 0).toInt = (M.2.1 6 0).toInt) → ((M.2.1 6 0).toInt < 150 → r.toInt = (M.2.1 6 0).toInt ∧ (M1.2.1 6 0).toInt = (M.2.1 6 0).toInt + 1) → NI M1 → (NWc M M1 r.toInt k f s t) → Q (some (.int r)) M1) : mm_T X d 20 0 [.ref 6, .int k, .int f, .int s, .int t] [] M Q := by
  have F0 : FR md_n M M := FR.rf
  refine to_an (pc := 0) rw_20_0 rfl ?_
  have b_1 := g_b hG (a := 6) (i := 0) (lo := 0) (hi := 150) rfl rfl
  refine tt_gI (pc := 1) rw_20_1 (g_o hG rfl) (v := (M.2.1 6 0)) rfl (to_c (pc := 4) rw_20_4 (x := (150 : Int32)) rfl rfl (b_clt (pc := 7) rw_20_7 (A := (M.2.1 6 0).toInt) (B := 150) rfl rfl (fun h2 => ?_) (fun h2 => ?_)))
  · refine to_an (pc := 12) rw_20_12 rfl (s_gR (pc := 13) rw_20_13 hG rfl (v := 7) rfl (to_an (pc := 16) rw_20_16 rfl (tt_gI (pc := 17) rw_20_17 (g_o hG rfl) (v := (M.2.1 6 0)) rfl (to_in (pc := 20) rw_20_20 rfl (s_ias (pc := 21) rw_20_21 hG rfl (n := 150) rfl (A := (M.2.1 6 0).toInt) rfl (by omega) (by omega) (fun M4 W3 => ?_))))))
    have hG5 := g_w hG W3 (A := k.toInt) rfl (lo := 0) (hi := 5) rfl rfl (by omega) (by decide)
    have F6 := FR.w F0 W3 (show 6 ≤ 7 ∧ 7 ≤ 10 by decide)
    refine to_an (pc := 22) rw_20_22 rfl (s_gR (pc := 23) rw_20_23 hG5 rfl (v := 8) rfl (to_an (pc := 26) rw_20_26 rfl ?_))
    have c_7 : M4.2.1 6 0 = (M.2.1 6 0) := (W_n W3 (fun z => absurd z.1 (by decide)) rfl)
    refine tt_gI (pc := 27) rw_20_27 (g_o hG5 rfl) (v := (M.2.1 6 0)) c_7 (to_in (pc := 30) rw_20_30 rfl (s_ias (pc := 31) rw_20_31 hG5 rfl (n := 150) rfl (A := (M.2.1 6 0).toInt) rfl (by omega) (by omega) (fun M9 W8 => ?_)))
    have hG10 := g_w hG5 W8 (A := f.toInt) rfl (lo := 0) (hi := 149) rfl rfl (by omega) (by decide)
    have F11 := FR.w F6 W8 (show 6 ≤ 8 ∧ 8 ≤ 10 by decide)
    refine to_an (pc := 32) rw_20_32 rfl (s_gR (pc := 33) rw_20_33 hG10 rfl (v := 9) rfl (to_an (pc := 36) rw_20_36 rfl ?_))
    have c_12 : M9.2.1 6 0 = (M.2.1 6 0) := (W_n W8 (fun z => absurd z.1 (by decide)) c_7)
    refine tt_gI (pc := 37) rw_20_37 (g_o hG10 rfl) (v := (M.2.1 6 0)) c_12 (to_in (pc := 40) rw_20_40 rfl (s_ias (pc := 41) rw_20_41 hG10 rfl (n := 150) rfl (A := (M.2.1 6 0).toInt) rfl (by omega) (by omega) (fun M14 W13 => ?_)))
    have hG15 := g_wf hG10 W13 rfl rfl (by decide)
    have F16 := FR.w F11 W13 (show 6 ≤ 9 ∧ 9 ≤ 10 by decide)
    have j_17 := NI_k q6 W3 W8 W13 q5
    refine to_an (pc := 42) rw_20_42 rfl (s_gR (pc := 43) rw_20_43 hG15 rfl (v := 10) rfl (to_an (pc := 46) rw_20_46 rfl ?_))
    have c_18 : M14.2.1 6 0 = (M.2.1 6 0) := (W_n W13 (fun z => absurd z.1 (by decide)) c_12)
    refine tt_gI (pc := 47) rw_20_47 (g_o hG15 rfl) (v := (M.2.1 6 0)) c_18 (to_i (pc := 50) rw_20_50 rfl (s_ias (pc := 52) rw_20_52 hG15 rfl (n := 150) rfl (A := (M.2.1 6 0).toInt) rfl (by omega) (by omega) (fun M20 W19 => ?_)))
    have hG21 := g_wf hG15 W19 rfl rfl (by decide)
    have F22 := FR.w F16 W19 (show 6 ≤ 10 ∧ 10 ≤ 10 by decide)
    refine to_an (pc := 53) rw_20_53 rfl (to_dupr (pc := 54) rw_20_54 ?_)
    have c_23 : M20.2.1 6 0 = (M.2.1 6 0) := (W_n W19 (fun z => absurd z.1 (by decide)) c_18)
    refine tt_gI (pc := 55) rw_20_55 (g_o hG21 rfl) (v := (M.2.1 6 0)) c_23 (to_c (pc := 58) rw_20_58 (x := (1 : Int32)) rfl rfl (s_add (pc := 59) rw_20_59 (A := (M.2.1 6 0).toInt) (B := 1) rfl rfl (by omega) (fun v24 e25 => s_pI (pc := 60) rw_20_60 hG21 rfl (fun M27 W26 => ?_))))
    have hG28 := g_w hG21 W26 (A := v24.toInt) rfl (lo := 0) (hi := 150) rfl rfl (by omega) (by decide)
    have F29 := FR.w F22 W26 (show 6 ≤ 6 ∧ 6 ≤ 10 by decide)
    refine to_an (pc := 63) rw_20_63 rfl ?_
    have c_30 : M27.2.1 6 0 = v24 := (W_e W26)
    refine tt_gI (pc := 64) rw_20_64 (g_o hG28 rfl) (v := v24) c_30 (to_c (pc := 67) rw_20_67 (x := (1 : Int32)) rfl rfl (s_sub (pc := 68) rw_20_68 (A := v24.toInt) (B := 1) rfl rfl (by omega) (fun v31 e32 => to_r0 (pc := 69) rw_20_69 ?_)))
    have t_33 : (M27.2.1 6 0).toInt = v24.toInt := congrArg Int32.toInt c_30
    have j_34 := (NI_f (fun a i z => W_n W26 (tg_107 a i z) rfl) (NI_f (fun a i z => W_n W19 (tg_108 a i _ z) rfl) j_17))
    exact h v31 M27 hG28 F29 (by omega) (by omega) j_34 (NWc_y W3 W8 W13 W19 W26 (by omega))
  · refine to_c (pc := 10) rw_20_10 (x := (-1 : Int32)) rfl rfl (to_r0 (pc := 11) rw_20_11 ?_)
    have k_35 : (-1 : Int32).toInt = -1 := rfl
    exact h (-1 : Int32) M hG F0 (by omega) (by omega) q6 (NWc_n (fun a i z => rfl) (by omega))
set_option maxRecDepth 4000 in
set_option maxHeartbeats 0 in
theorem E_191 {X : mm_X} {d : Nat} {M : mm_M} {Q : Option Value → mm_M → Prop} {w : Int32} {o : Int32} {m : Int32} {v : Int32} (hX : g_X X) (hd : 0 ≤ d) (hG : g_G M) (q1 : 0 ≤ w.toInt) (q2 : w.toInt ≤ 5) (q3 : 0 ≤ o.toInt) (q4 : o.toInt ≤ 149) (q5 : (M.2.1 77 29).toInt ≤ 149) (q6 : w.toInt = 0 → o.toInt ≤ 29 ∧ (0 ≤ m.toInt ∧ m.toInt ≤ 7) ∧ 0 ≤ v.toInt ∧ ((M.2.1 81 (m.toInt).toNat).toInt = 0 ∨ v.toInt ≤ 9)) (q7 : w.toInt = 1 → o.toInt ≤ 29 ∧ 0 ≤ m.toInt ∧ m.toInt ≤ 11) (q8 : w.toInt = 2 → o.toInt ≤ 29) (q9 : w.toInt = 3 → o.toInt ≤ 29) (q10 : w.toInt = 4 → o.toInt ≤ 11) (q11 : NJ M) (h : ∀ (r : Int32) (M1 : mm_M), g_G M1 → FR md_te M M1 → (r.toInt = (M.2.1 77 29).toInt) → ((M1.2.1 77 29).toInt = (M.2.1 77 29).toInt + 1) → NJ M1 → (NWr M M1 r.toInt w o m v) → Q (some (.int r)) M1) : mm_T X d 190 0 [.ref 77, .int w, .int o, .int m, .int v] [] M Q := by
  have F0 : FR md_te M M := FR.rf
  have b_1 := g_b hG (a := 77) (i := 29) (lo := 0) (hi := 150) rfl rfl
  refine to_an (pc := 0) rw_191_0 rfl (s_gR (pc := 1) rw_191_1 hG rfl (v := 90) rfl (to_an (pc := 4) rw_191_4 rfl (tt_gI (pc := 5) rw_191_5 (g_o hG rfl) (v := (M.2.1 77 29)) rfl (to_in (pc := 8) rw_191_8 rfl (s_ias (pc := 9) rw_191_9 hG rfl (n := 150) rfl (A := (M.2.1 77 29).toInt) rfl (by omega) (by omega) (fun M3 W2 => ?_))))))
  have hG4 := g_w hG W2 (A := w.toInt) rfl (lo := 0) (hi := 5) rfl rfl (by omega) (by decide)
  have F5 := FR.w F0 W2 (show 90 = 77 ∧ ((M.2.1 77 29).toInt).toNat = 29 ∨ 90 ≤ 90 ∧ 90 ≤ 93 by omega)
  refine to_an (pc := 10) rw_191_10 rfl (s_gR (pc := 11) rw_191_11 hG4 rfl (v := 91) rfl (to_an (pc := 14) rw_191_14 rfl ?_))
  have c_6 : M3.2.1 77 29 = (M.2.1 77 29) := (W_n W2 (fun z => absurd z.1 (by decide)) rfl)
  refine tt_gI (pc := 15) rw_191_15 (g_o hG4 rfl) (v := (M.2.1 77 29)) c_6 (to_in (pc := 18) rw_191_18 rfl (s_ias (pc := 19) rw_191_19 hG4 rfl (n := 150) rfl (A := (M.2.1 77 29).toInt) rfl (by omega) (by omega) (fun M8 W7 => ?_)))
  have hG9 := g_w hG4 W7 (A := o.toInt) rfl (lo := 0) (hi := 149) rfl rfl (by omega) (by decide)
  have F10 := FR.w F5 W7 (show 91 = 77 ∧ ((M.2.1 77 29).toInt).toNat = 29 ∨ 90 ≤ 91 ∧ 91 ≤ 93 by omega)
  refine to_an (pc := 20) rw_191_20 rfl (s_gR (pc := 21) rw_191_21 hG9 rfl (v := 92) rfl (to_an (pc := 24) rw_191_24 rfl ?_))
  have c_11 : M8.2.1 77 29 = (M.2.1 77 29) := (W_n W7 (fun z => absurd z.1 (by decide)) c_6)
  refine tt_gI (pc := 25) rw_191_25 (g_o hG9 rfl) (v := (M.2.1 77 29)) c_11 (to_in (pc := 28) rw_191_28 rfl (s_ias (pc := 29) rw_191_29 hG9 rfl (n := 150) rfl (A := (M.2.1 77 29).toInt) rfl (by omega) (by omega) (fun M13 W12 => ?_)))
  have hG14 := g_wf hG9 W12 rfl rfl (by decide)
  have F15 := FR.w F10 W12 (show 92 = 77 ∧ ((M.2.1 77 29).toInt).toNat = 29 ∨ 90 ≤ 92 ∧ 92 ≤ 93 by omega)
  refine to_an (pc := 30) rw_191_30 rfl (s_gR (pc := 31) rw_191_31 hG14 rfl (v := 93) rfl (to_an (pc := 34) rw_191_34 rfl ?_))
  have c_16 : M13.2.1 77 29 = (M.2.1 77 29) := (W_n W12 (fun z => absurd z.1 (by decide)) c_11)
  refine tt_gI (pc := 35) rw_191_35 (g_o hG14 rfl) (v := (M.2.1 77 29)) c_16 (to_i (pc := 38) rw_191_38 rfl (s_ias (pc := 40) rw_191_40 hG14 rfl (n := 150) rfl (A := (M.2.1 77 29).toInt) rfl (by omega) (by omega) (fun M18 W17 => ?_)))
  have hG19 := g_wf hG14 W17 rfl rfl (by decide)
  have F20 := FR.w F15 W17 (show 93 = 77 ∧ ((M.2.1 77 29).toInt).toNat = 29 ∨ 90 ≤ 93 ∧ 93 ≤ 93 by omega)
  refine to_an (pc := 41) rw_191_41 rfl (to_dupr (pc := 42) rw_191_42 ?_)
  have c_21 : M18.2.1 77 29 = (M.2.1 77 29) := (W_n W17 (fun z => absurd z.1 (by decide)) c_16)
  refine tt_gI (pc := 43) rw_191_43 (g_o hG19 rfl) (v := (M.2.1 77 29)) c_21 (to_c (pc := 46) rw_191_46 (x := (1 : Int32)) rfl rfl (s_add (pc := 47) rw_191_47 (A := (M.2.1 77 29).toInt) (B := 1) rfl rfl (by omega) (fun v22 e23 => s_pI (pc := 48) rw_191_48 hG19 rfl (fun M25 W24 => ?_))))
  have hG26 := g_w hG19 W24 (A := v22.toInt) rfl (lo := 0) (hi := 150) rfl rfl (by omega) (by decide)
  have F27 := FR.w F20 W24 (show 77 = 77 ∧ 29 = 29 ∨ 90 ≤ 77 ∧ 77 ≤ 93 by decide)
  have j_28 := NJ_k (M1 := M25) (n := ((M.2.1 77 29).toInt).toNat) q11 (by omega) (by have z := congrArg Int32.toInt (W_e W24); omega) (fun a i z => (W_n W24 (by /-r77,29-/ omega) (W_n W17 (by /-r93-/ omega) (W_n W12 (by /-r92-/ omega) (W_n W7 (by /-r91-/ omega) (W_n W2 (by /-r90-/ omega) rfl)))))) (W_n W24 (by omega) (W_n W17 (by omega) (W_n W12 (by omega) (W_n W7 (by omega) (W_e W2))))) (W_n W24 (by omega) (W_n W17 (by omega) (W_n W12 (by omega) (W_e W7)))) (W_n W24 (by omega) (W_n W17 (by omega) (W_e W12))) (W_n W24 (by omega) (W_e W17)) q6 q7 q8 q9 q10
  refine to_an (pc := 51) rw_191_51 rfl ?_
  have c_29 : M25.2.1 77 29 = v22 := (W_e W24)
  refine tt_gI (pc := 52) rw_191_52 (g_o hG26 rfl) (v := v22) c_29 (to_c (pc := 55) rw_191_55 (x := (1 : Int32)) rfl rfl (s_sub (pc := 56) rw_191_56 (A := v22.toInt) (B := 1) rfl rfl (by omega) (fun v30 e31 => to_r0 (pc := 57) rw_191_57 ?_)))
  have t_32 : (M25.2.1 77 29).toInt = v22.toInt := congrArg Int32.toInt c_29
  exact h v30 M25 hG26 F27 (by omega) (by omega) j_28 (NWr_y W2 W7 W12 W17 W24 (by omega))
set_option maxRecDepth 4000 in
set_option maxHeartbeats 0 in
theorem E_119 {X : mm_X} {d : Nat} {M : mm_M} {Q : Option Value → mm_M → Prop} {c : Int32} {f : Int32} {v : Int32} {p : Nat} {pz : Nat} {q : Nat} {qz : Nat} {sg : x_S} (hX : g_X X) (hd : 2 ≤ d) (hG : g_G M) (hp : p = 49 ∨ p = 58) (hpz : pz = 49 ∨ pz = 58) (hq : q = 67 ∨ q = 72) (hqz : qz = 67 ∨ qz = 72) (q1 : g_PQ M p pz q qz) (q2 : NI M) (q3 : PI M) (q4 : QI M) (q5 : PLs M p sg) (h : ∀ (r : Int32) (M1 : mm_M), g_G M1 → FR md_n M M1 → NI M1 → PI M1 → QI M1 → ((0 ≤ c.toInt ∧ c.toInt < (M.2.1 0 12).toInt ∧ 0 ≤ f.toInt ∧ f.toInt < sg.2.1 ∧ ¬ x_row sg 2 f.toInt = 3 ∧ 0 ≤ v.toInt ∧ v.toInt < x_row sg 5 f.toInt) ∧ (M.2.1 6 0).toInt < 150 → r.toInt = (M.2.1 6 0).toInt ∧ (M1.2.1 6 0).toInt = (M.2.1 6 0).toInt + 1) → (¬ ((0 ≤ c.toInt ∧ c.toInt < (M.2.1 0 12).toInt ∧ 0 ≤ f.toInt ∧ f.toInt < sg.2.1 ∧ ¬ x_row sg 2 f.toInt = 3 ∧ 0 ≤ v.toInt ∧ v.toInt < x_row sg 5 f.toInt) ∧ (M.2.1 6 0).toInt < 150) → r.toInt = -1 ∧ (M1.2.1 6 0).toInt = (M.2.1 6 0).toInt) → (NWc M M1 r.toInt (0 : Int32) c f v) → Q (some (.int r)) M1) : mm_T X d 119 0 [.ref 0, .int c, .int f, .int v] [] M Q := by
  have F0 : FR md_n M M := FR.rf
  have z_1 := q5.2.1
  have z_2 := q5.2.2.1
  have z_3 := q5.2.2.2.1
  have z_4 := q5.1
  have z_5 := z_4.1
  have z_6 := z_4.2.1
  have z_7 := z_4.2.2.1
  have z_8 := z_4.2.2.2.1
  have z_9 := z_4.2.2.2.2.1
  have z_10 := z_4.2.2.2.2.2.1
  have b_11 := g_b hG (a := p) (i := 2) (lo := 0) (hi := 8) (by rcases hp with rfl | rfl <;> rfl) (by rcases hp with rfl | rfl <;> rfl)
  have b_12 := g_b hG (a := p) (i := 3) (lo := 0) (hi := 12) (by rcases hp with rfl | rfl <;> rfl) (by rcases hp with rfl | rfl <;> rfl)
  have b_13 := g_b hG (a := p) (i := 0) (lo := 10) (hi := 60) (by rcases hp with rfl | rfl <;> rfl) (by rcases hp with rfl | rfl <;> rfl)
  refine to_an (pc := 0) rw_119_0 rfl (to_in (pc := 1) rw_119_1 rfl (s_v (pc := 2) rw_119_2 (dp0 hd (by decide)) (ls0 := [.ref 0, .int c]) rfl (Nat.le_of_ble_eq_true rfl) (Nat.le_of_ble_eq_true rfl) rfl (to_rc rfl rfl rfl (g_o hG rfl)) rfl (to_in (pc := 0) rw_140_0 rfl (b_ilt (pc := 1) rw_140_1 (A := c.toInt) rfl (fun h14 => ?_) (fun h14 => ?_)))))
  · refine to_c (pc := 16) rw_140_16 (x := (0 : Int32)) rfl rfl (s_r1 (pc := 17) rw_140_17 (A := 0) rfl (by decide) (b_ieq_t (pc := 5) rw_119_5 (A := 0) rfl (by decide) (to_c (pc := 20) rw_119_20 (x := (-1 : Int32)) rfl rfl (to_r0 (pc := 21) rw_119_21 ?_))))
    have k_15 : (-1 : Int32).toInt = -1 := rfl
    have b_16 := g_b hG (a := 6) (i := 0) (lo := 0) (hi := 150) rfl rfl
    exact h (-1 : Int32) M hG F0 q2 q3 q4 (by omega) (by omega) (NWc_n (fun a i z => rfl) (by omega))
  · refine to_in (pc := 4) rw_140_4 rfl (to_an (pc := 5) rw_140_5 rfl ?_)
    have b_17 := g_b hG (a := 0) (i := 12) (lo := 0) (hi := 30) rfl rfl
    refine tt_gI (pc := 6) rw_140_6 (g_o hG rfl) (v := (M.2.1 0 12)) rfl (b_cge (pc := 9) rw_140_9 (A := c.toInt) (B := (M.2.1 0 12).toInt) rfl rfl (fun h18 => ?_) (fun h18 => ?_))
    · refine to_c (pc := 16) rw_140_16 (x := (0 : Int32)) rfl rfl (s_r1 (pc := 17) rw_140_17 (A := 0) rfl (by decide) (b_ieq_t (pc := 5) rw_119_5 (A := 0) rfl (by decide) (to_c (pc := 20) rw_119_20 (x := (-1 : Int32)) rfl rfl (to_r0 (pc := 21) rw_119_21 ?_))))
      have k_19 : (-1 : Int32).toInt = -1 := rfl
      have b_20 := g_b hG (a := 6) (i := 0) (lo := 0) (hi := 150) rfl rfl
      exact h (-1 : Int32) M hG F0 q2 q3 q4 (by omega) (by omega) (NWc_n (fun a i z => rfl) (by omega))
    · refine to_c (pc := 12) rw_140_12 (x := (1 : Int32)) rfl rfl (to_go (pc := 13) rw_140_13 (s_r1 (pc := 17) rw_140_17 (A := 1) rfl (by decide) (b_ieq_f (pc := 5) rw_119_5 (A := 1) rfl (by decide) (to_an (pc := 8) rw_119_8 rfl (tt_gR (pc := 9) rw_119_9 (g_o hG rfl) q1.1 (to_in (pc := 12) rw_119_12 rfl (to_in (pc := 13) rw_119_13 rfl (s_v (pc := 14) rw_119_14 (dp0 hd (by decide)) (ls0 := [.ref p, .int f, .int v]) rfl (Nat.le_of_ble_eq_true rfl) (Nat.le_of_ble_eq_true rfl) rfl (to_rc rfl rfl rfl (g_o hG (by rcases hp with rfl | rfl <;> rfl))) rfl (to_an (pc := 0) rw_46_0 rfl (to_in (pc := 1) rw_46_1 rfl (s_v (pc := 2) rw_46_2 (dp1 hd (by decide)) (ls0 := [.ref p, .int f]) rfl (Nat.le_of_ble_eq_true rfl) (Nat.le_of_ble_eq_true rfl) rfl (to_rc rfl rfl rfl (g_o hG (by rcases hp with rfl | rfl <;> rfl))) rfl ?_)))))))))))
      refine to_in (pc := 0) rw_43_0 rfl (b_ilt (pc := 1) rw_43_1 (A := f.toInt) rfl (fun h21 => ?_) (fun h21 => ?_))
      · refine to_c (pc := 16) rw_43_16 (x := (0 : Int32)) rfl rfl (s_r1 (pc := 17) rw_43_17 (A := 0) rfl (by decide) (b_ieq_t (pc := 5) rw_46_5 (A := 0) rfl (by decide) (to_c (pc := 34) rw_46_34 (x := (0 : Int32)) rfl rfl (s_r1 (pc := 35) rw_46_35 (A := 0) rfl (by decide) (b_ine_f (pc := 17) rw_119_17 (A := 0) rfl (by decide) (to_c (pc := 20) rw_119_20 (x := (-1 : Int32)) rfl rfl (to_r0 (pc := 21) rw_119_21 ?_)))))))
        have k_22 : (-1 : Int32).toInt = -1 := rfl
        have b_23 := g_b hG (a := 6) (i := 0) (lo := 0) (hi := 150) rfl rfl
        exact h (-1 : Int32) M hG F0 q2 q3 q4 (by omega) (by omega) (NWc_n (fun a i z => rfl) (by omega))
      · refine to_in (pc := 4) rw_43_4 rfl (to_an (pc := 5) rw_43_5 rfl (tt_gI (pc := 6) rw_43_6 (g_o hG (by rcases hp with rfl | rfl <;> rfl)) (v := (M.2.1 p 2)) rfl (b_cge (pc := 9) rw_43_9 (A := f.toInt) (B := (M.2.1 p 2).toInt) rfl rfl (fun h24 => ?_) (fun h24 => ?_))))
        · refine to_c (pc := 16) rw_43_16 (x := (0 : Int32)) rfl rfl (s_r1 (pc := 17) rw_43_17 (A := 0) rfl (by decide) (b_ieq_t (pc := 5) rw_46_5 (A := 0) rfl (by decide) (to_c (pc := 34) rw_46_34 (x := (0 : Int32)) rfl rfl (s_r1 (pc := 35) rw_46_35 (A := 0) rfl (by decide) (b_ine_f (pc := 17) rw_119_17 (A := 0) rfl (by decide) (to_c (pc := 20) rw_119_20 (x := (-1 : Int32)) rfl rfl (to_r0 (pc := 21) rw_119_21 ?_)))))))
          have k_25 : (-1 : Int32).toInt = -1 := rfl
          have b_26 := g_b hG (a := 6) (i := 0) (lo := 0) (hi := 150) rfl rfl
          exact h (-1 : Int32) M hG F0 q2 q3 q4 (by omega) (by omega) (NWc_n (fun a i z => rfl) (by omega))
        · refine to_c (pc := 12) rw_43_12 (x := (1 : Int32)) rfl rfl (to_go (pc := 13) rw_43_13 (s_r1 (pc := 17) rw_43_17 (A := 1) rfl (by decide) (b_ieq_f (pc := 5) rw_46_5 (A := 1) rfl (by decide) (to_an (pc := 8) rw_46_8 rfl (to_in (pc := 9) rw_46_9 rfl (s_v (pc := 10) rw_46_10 (dp1 hd (by decide)) (ls0 := [.ref p, .int f]) rfl (Nat.le_of_ble_eq_true rfl) (Nat.le_of_ble_eq_true rfl) rfl (to_rc rfl rfl rfl (g_o hG (by rcases hp with rfl | rfl <;> rfl))) rfl (to_an (pc := 0) rw_45_0 rfl (s_gR (pc := 1) rw_45_1 hG (by rcases hp with rfl | rfl <;> rfl) (v := (p + 2)) (by rcases hp with rfl | rfl <;> rfl) (to_in (pc := 4) rw_45_4 rfl (s_ial (pc := 5) rw_45_5 hG (by rcases hp with rfl | rfl <;> rfl) (n := 8) (by rcases hp with rfl | rfl <;> rfl) (by rcases hp with rfl | rfl <;> rfl) (A := f.toInt) rfl (by omega) (by omega) (lo := 0) (hi := 3) (by rcases hp with rfl | rfl <;> rfl) (by rcases hp with rfl | rfl <;> rfl) (fun v27 w_28 _ _ => ?_)))))))))))
          have z_29 := PLs_r q5 2 (by decide) (by decide) (k := f.toInt) (by omega) (by omega) w_28
          refine to_c (pc := 6) rw_45_6 (x := (3 : Int32)) rfl rfl (b_cne (pc := 7) rw_45_7 (A := v27.toInt) (B := 3) rfl rfl (fun h30 => ?_) (fun h30 => ?_))
          · refine to_c (pc := 14) rw_45_14 (x := (0 : Int32)) rfl rfl (s_r1 (pc := 15) rw_45_15 (A := 0) rfl (by decide) (b_ine_f (pc := 13) rw_46_13 (A := 0) rfl (by decide) (to_in (pc := 16) rw_46_16 rfl (b_ilt (pc := 17) rw_46_17 (A := v.toInt) rfl (fun h31 => ?_) (fun h31 => ?_)))))
            · refine to_c (pc := 34) rw_46_34 (x := (0 : Int32)) rfl rfl (s_r1 (pc := 35) rw_46_35 (A := 0) rfl (by decide) (b_ine_f (pc := 17) rw_119_17 (A := 0) rfl (by decide) (to_c (pc := 20) rw_119_20 (x := (-1 : Int32)) rfl rfl (to_r0 (pc := 21) rw_119_21 ?_))))
              have k_32 : (-1 : Int32).toInt = -1 := rfl
              have b_33 := g_b hG (a := 6) (i := 0) (lo := 0) (hi := 150) rfl rfl
              exact h (-1 : Int32) M hG F0 q2 q3 q4 (by omega) (by omega) (NWc_n (fun a i z => rfl) (by omega))
            · refine to_in (pc := 20) rw_46_20 rfl (to_an (pc := 21) rw_46_21 rfl (s_gR (pc := 22) rw_46_22 hG (by rcases hp with rfl | rfl <;> rfl) (v := (p + 5)) (by rcases hp with rfl | rfl <;> rfl) (to_in (pc := 25) rw_46_25 rfl (s_ial (pc := 26) rw_46_26 hG (by rcases hp with rfl | rfl <;> rfl) (n := 8) (by rcases hp with rfl | rfl <;> rfl) (by rcases hp with rfl | rfl <;> rfl) (A := f.toInt) rfl (by omega) (by omega) (lo := 0) (hi := 24) (by rcases hp with rfl | rfl <;> rfl) (by rcases hp with rfl | rfl <;> rfl) (fun v34 w_35 _ _ => ?_)))))
              have z_36 := PLs_r q5 5 (by decide) (by decide) (k := f.toInt) (by omega) (by omega) w_35
              refine b_cge (pc := 27) rw_46_27 (A := v.toInt) (B := v34.toInt) rfl rfl (fun h37 => ?_) (fun h37 => ?_)
              · refine to_c (pc := 34) rw_46_34 (x := (0 : Int32)) rfl rfl (s_r1 (pc := 35) rw_46_35 (A := 0) rfl (by decide) (b_ine_f (pc := 17) rw_119_17 (A := 0) rfl (by decide) (to_c (pc := 20) rw_119_20 (x := (-1 : Int32)) rfl rfl (to_r0 (pc := 21) rw_119_21 ?_))))
                have k_38 : (-1 : Int32).toInt = -1 := rfl
                have b_39 := g_b hG (a := 6) (i := 0) (lo := 0) (hi := 150) rfl rfl
                exact h (-1 : Int32) M hG F0 q2 q3 q4 (by omega) (by omega) (NWc_n (fun a i z => rfl) (by omega))
              · refine to_c (pc := 30) rw_46_30 (x := (1 : Int32)) rfl rfl (to_go (pc := 31) rw_46_31 (s_r1 (pc := 35) rw_46_35 (A := 1) rfl (by decide) (b_ine_t (pc := 17) rw_119_17 (A := 1) rfl (by decide) (to_an (pc := 22) rw_119_22 rfl (s_gR (pc := 23) rw_119_23 hG rfl (v := 6) rfl (to_c (pc := 26) rw_119_26 (x := (0 : Int32)) rfl rfl (to_in (pc := 27) rw_119_27 rfl (to_in (pc := 28) rw_119_28 rfl (to_in (pc := 29) rw_119_29 rfl (s_v (pc := 30) rw_119_30 (dp0 hd (by decide)) (ls0 := [.ref 6, .int (0 : Int32), .int c, .int f, .int v]) rfl (Nat.le_of_ble_eq_true rfl) (Nat.le_of_ble_eq_true rfl) rfl (to_rc rfl rfl rfl (g_o hG rfl)) rfl ?_))))))))))
                have k_40 : (0 : Int32).toInt = 0 := rfl
                have b_41 := g_b hG (a := 6) (i := 0) (lo := 0) (hi := 150) rfl rfl
                refine E_20 hX (dp1 hd (by decide)) hG (by omega) (by omega) (by omega) (by omega) (by omega) q2 (k := (0 : Int32)) (f := c) (s := f) (t := v) (fun r42 M49 hG44 F43 p_45 p_46 p_47 p_48 => ?_)
                have F50 := FR.c F0 F43 tg_103
                have b_51 := g_b hG44 (a := 6) (i := 0) (lo := 0) (hi := 150) rfl rfl
                refine to_r0 (pc := 33) rw_119_33 ?_
                have j_52 := (PI_f (tg_96 F43) q3)
                have j_53 := (QI_f (tg_97 F43) q4)
                exact h r42 M49 hG44 F50 p_47 j_52 j_53 (by omega) (by omega) p_48
          · refine to_c (pc := 10) rw_45_10 (x := (1 : Int32)) rfl rfl (to_go (pc := 11) rw_45_11 (s_r1 (pc := 15) rw_45_15 (A := 1) rfl (by decide) (b_ine_t (pc := 13) rw_46_13 (A := 1) rfl (by decide) (to_c (pc := 34) rw_46_34 (x := (0 : Int32)) rfl rfl (s_r1 (pc := 35) rw_46_35 (A := 0) rfl (by decide) (b_ine_f (pc := 17) rw_119_17 (A := 0) rfl (by decide) (to_c (pc := 20) rw_119_20 (x := (-1 : Int32)) rfl rfl (to_r0 (pc := 21) rw_119_21 ?_))))))))
            have k_54 : (-1 : Int32).toInt = -1 := rfl
            have b_55 := g_b hG (a := 6) (i := 0) (lo := 0) (hi := 150) rfl rfl
            exact h (-1 : Int32) M hG F0 q2 q3 q4 (by omega) (by omega) (NWc_n (fun a i z => rfl) (by omega))
set_option maxRecDepth 4000 in
set_option maxHeartbeats 0 in
theorem E_120 {X : mm_X} {d : Nat} {M : mm_M} {Q : Option Value → mm_M → Prop} {c : Int32} {w : Int32} {p : Nat} {pz : Nat} {q : Nat} {qz : Nat} {sg : x_S} (hX : g_X X) (hd : 1 ≤ d) (hG : g_G M) (hp : p = 49 ∨ p = 58) (hpz : pz = 49 ∨ pz = 58) (hq : q = 67 ∨ q = 72) (hqz : qz = 67 ∨ qz = 72) (q1 : g_PQ M p pz q qz) (q2 : NI M) (q3 : PI M) (q4 : QI M) (q5 : PLs M p sg) (h : ∀ (r : Int32) (M1 : mm_M), g_G M1 → FR md_n M M1 → NI M1 → PI M1 → QI M1 → ((0 ≤ c.toInt ∧ c.toInt < (M.2.1 0 12).toInt ∧ 0 ≤ w.toInt ∧ w.toInt < sg.2.2.1) ∧ (M.2.1 6 0).toInt < 150 → r.toInt = (M.2.1 6 0).toInt ∧ (M1.2.1 6 0).toInt = (M.2.1 6 0).toInt + 1) → (¬ ((0 ≤ c.toInt ∧ c.toInt < (M.2.1 0 12).toInt ∧ 0 ≤ w.toInt ∧ w.toInt < sg.2.2.1) ∧ (M.2.1 6 0).toInt < 150) → r.toInt = -1 ∧ (M1.2.1 6 0).toInt = (M.2.1 6 0).toInt) → (NWc M M1 r.toInt (1 : Int32) c w (0 : Int32)) → Q (some (.int r)) M1) : mm_T X d 120 0 [.ref 0, .int c, .int w] [] M Q := by
  have F0 : FR md_n M M := FR.rf
  have z_1 := q5.2.1
  have z_2 := q5.2.2.1
  have z_3 := q5.2.2.2.1
  have z_4 := q5.1
  have z_5 := z_4.1
  have z_6 := z_4.2.1
  have z_7 := z_4.2.2.1
  have z_8 := z_4.2.2.2.1
  have z_9 := z_4.2.2.2.2.1
  have z_10 := z_4.2.2.2.2.2.1
  have b_11 := g_b hG (a := p) (i := 2) (lo := 0) (hi := 8) (by rcases hp with rfl | rfl <;> rfl) (by rcases hp with rfl | rfl <;> rfl)
  have b_12 := g_b hG (a := p) (i := 3) (lo := 0) (hi := 12) (by rcases hp with rfl | rfl <;> rfl) (by rcases hp with rfl | rfl <;> rfl)
  have b_13 := g_b hG (a := p) (i := 0) (lo := 10) (hi := 60) (by rcases hp with rfl | rfl <;> rfl) (by rcases hp with rfl | rfl <;> rfl)
  refine to_an (pc := 0) rw_120_0 rfl (to_in (pc := 1) rw_120_1 rfl (s_v (pc := 2) rw_120_2 (dp0 hd (by decide)) (ls0 := [.ref 0, .int c]) rfl (Nat.le_of_ble_eq_true rfl) (Nat.le_of_ble_eq_true rfl) rfl (to_rc rfl rfl rfl (g_o hG rfl)) rfl (to_in (pc := 0) rw_140_0 rfl (b_ilt (pc := 1) rw_140_1 (A := c.toInt) rfl (fun h14 => ?_) (fun h14 => ?_)))))
  · refine to_c (pc := 16) rw_140_16 (x := (0 : Int32)) rfl rfl (s_r1 (pc := 17) rw_140_17 (A := 0) rfl (by decide) (b_ieq_t (pc := 5) rw_120_5 (A := 0) rfl (by decide) (to_c (pc := 19) rw_120_19 (x := (-1 : Int32)) rfl rfl (to_r0 (pc := 20) rw_120_20 ?_))))
    have k_15 : (-1 : Int32).toInt = -1 := rfl
    have b_16 := g_b hG (a := 6) (i := 0) (lo := 0) (hi := 150) rfl rfl
    exact h (-1 : Int32) M hG F0 q2 q3 q4 (by omega) (by omega) (NWc_n (fun a i z => rfl) (by omega))
  · refine to_in (pc := 4) rw_140_4 rfl (to_an (pc := 5) rw_140_5 rfl ?_)
    have b_17 := g_b hG (a := 0) (i := 12) (lo := 0) (hi := 30) rfl rfl
    refine tt_gI (pc := 6) rw_140_6 (g_o hG rfl) (v := (M.2.1 0 12)) rfl (b_cge (pc := 9) rw_140_9 (A := c.toInt) (B := (M.2.1 0 12).toInt) rfl rfl (fun h18 => ?_) (fun h18 => ?_))
    · refine to_c (pc := 16) rw_140_16 (x := (0 : Int32)) rfl rfl (s_r1 (pc := 17) rw_140_17 (A := 0) rfl (by decide) (b_ieq_t (pc := 5) rw_120_5 (A := 0) rfl (by decide) (to_c (pc := 19) rw_120_19 (x := (-1 : Int32)) rfl rfl (to_r0 (pc := 20) rw_120_20 ?_))))
      have k_19 : (-1 : Int32).toInt = -1 := rfl
      have b_20 := g_b hG (a := 6) (i := 0) (lo := 0) (hi := 150) rfl rfl
      exact h (-1 : Int32) M hG F0 q2 q3 q4 (by omega) (by omega) (NWc_n (fun a i z => rfl) (by omega))
    · refine to_c (pc := 12) rw_140_12 (x := (1 : Int32)) rfl rfl (to_go (pc := 13) rw_140_13 (s_r1 (pc := 17) rw_140_17 (A := 1) rfl (by decide) (b_ieq_f (pc := 5) rw_120_5 (A := 1) rfl (by decide) (to_an (pc := 8) rw_120_8 rfl (tt_gR (pc := 9) rw_120_9 (g_o hG rfl) q1.1 (to_in (pc := 12) rw_120_12 rfl (s_v (pc := 13) rw_120_13 (dp0 hd (by decide)) (ls0 := [.ref p, .int w]) rfl (Nat.le_of_ble_eq_true rfl) (Nat.le_of_ble_eq_true rfl) rfl (to_rc rfl rfl rfl (g_o hG (by rcases hp with rfl | rfl <;> rfl))) rfl (to_in (pc := 0) rw_44_0 rfl (b_ilt (pc := 1) rw_44_1 (A := w.toInt) rfl (fun h21 => ?_) (fun h21 => ?_))))))))))
      · refine to_c (pc := 16) rw_44_16 (x := (0 : Int32)) rfl rfl (s_r1 (pc := 17) rw_44_17 (A := 0) rfl (by decide) (b_ine_f (pc := 16) rw_120_16 (A := 0) rfl (by decide) (to_c (pc := 19) rw_120_19 (x := (-1 : Int32)) rfl rfl (to_r0 (pc := 20) rw_120_20 ?_))))
        have k_22 : (-1 : Int32).toInt = -1 := rfl
        have b_23 := g_b hG (a := 6) (i := 0) (lo := 0) (hi := 150) rfl rfl
        exact h (-1 : Int32) M hG F0 q2 q3 q4 (by omega) (by omega) (NWc_n (fun a i z => rfl) (by omega))
      · refine to_in (pc := 4) rw_44_4 rfl (to_an (pc := 5) rw_44_5 rfl (tt_gI (pc := 6) rw_44_6 (g_o hG (by rcases hp with rfl | rfl <;> rfl)) (v := (M.2.1 p 3)) rfl (b_cge (pc := 9) rw_44_9 (A := w.toInt) (B := (M.2.1 p 3).toInt) rfl rfl (fun h24 => ?_) (fun h24 => ?_))))
        · refine to_c (pc := 16) rw_44_16 (x := (0 : Int32)) rfl rfl (s_r1 (pc := 17) rw_44_17 (A := 0) rfl (by decide) (b_ine_f (pc := 16) rw_120_16 (A := 0) rfl (by decide) (to_c (pc := 19) rw_120_19 (x := (-1 : Int32)) rfl rfl (to_r0 (pc := 20) rw_120_20 ?_))))
          have k_25 : (-1 : Int32).toInt = -1 := rfl
          have b_26 := g_b hG (a := 6) (i := 0) (lo := 0) (hi := 150) rfl rfl
          exact h (-1 : Int32) M hG F0 q2 q3 q4 (by omega) (by omega) (NWc_n (fun a i z => rfl) (by omega))
        · refine to_c (pc := 12) rw_44_12 (x := (1 : Int32)) rfl rfl (to_go (pc := 13) rw_44_13 (s_r1 (pc := 17) rw_44_17 (A := 1) rfl (by decide) (b_ine_t (pc := 16) rw_120_16 (A := 1) rfl (by decide) (to_an (pc := 21) rw_120_21 rfl (s_gR (pc := 22) rw_120_22 hG rfl (v := 6) rfl (to_c (pc := 25) rw_120_25 (x := (1 : Int32)) rfl rfl (to_in (pc := 26) rw_120_26 rfl (to_in (pc := 27) rw_120_27 rfl (to_c (pc := 28) rw_120_28 (x := (0 : Int32)) rfl rfl (s_v (pc := 29) rw_120_29 (dp0 hd (by decide)) (ls0 := [.ref 6, .int (1 : Int32), .int c, .int w, .int (0 : Int32)]) rfl (Nat.le_of_ble_eq_true rfl) (Nat.le_of_ble_eq_true rfl) rfl (to_rc rfl rfl rfl (g_o hG rfl)) rfl ?_))))))))))
          have k_27 : (1 : Int32).toInt = 1 := rfl
          have k_28 : (0 : Int32).toInt = 0 := rfl
          have b_29 := g_b hG (a := 6) (i := 0) (lo := 0) (hi := 150) rfl rfl
          refine E_20 hX (dp1 hd (by decide)) hG (by omega) (by omega) (by omega) (by omega) (by omega) q2 (k := (1 : Int32)) (f := c) (s := w) (t := (0 : Int32)) (fun r30 M37 hG32 F31 p_33 p_34 p_35 p_36 => ?_)
          have F38 := FR.c F0 F31 tg_103
          have b_39 := g_b hG32 (a := 6) (i := 0) (lo := 0) (hi := 150) rfl rfl
          refine to_r0 (pc := 32) rw_120_32 ?_
          have j_40 := (PI_f (tg_96 F31) q3)
          have j_41 := (QI_f (tg_97 F31) q4)
          exact h r30 M37 hG32 F38 p_35 j_40 j_41 (by omega) (by omega) p_36
set_option maxRecDepth 4000 in
set_option maxHeartbeats 0 in
theorem E_121 {X : mm_X} {d : Nat} {M : mm_M} {Q : Option Value → mm_M → Prop} {c : Int32} {e : Int32} {m : Int32} {p : Nat} {pz : Nat} {q : Nat} {qz : Nat} {sg : x_S} (hX : g_X X) (hd : 1 ≤ d) (hG : g_G M) (hp : p = 49 ∨ p = 58) (hpz : pz = 49 ∨ pz = 58) (hq : q = 67 ∨ q = 72) (hqz : qz = 67 ∨ qz = 72) (q1 : g_PQ M p pz q qz) (q2 : 0 ≤ m.toInt) (q3 : m.toInt ≤ 1) (q4 : NI M) (q5 : PI M) (q6 : QI M) (q7 : PLs M p sg) (h : ∀ (r : Int32) (M1 : mm_M), g_G M1 → FR md_n M M1 → NI M1 → PI M1 → QI M1 → ((0 ≤ c.toInt ∧ c.toInt < (M.2.1 0 12).toInt ∧ 0 ≤ e.toInt ∧ e.toInt < sg.1) ∧ (M.2.1 6 0).toInt < 150 → r.toInt = (M.2.1 6 0).toInt ∧ (M1.2.1 6 0).toInt = (M.2.1 6 0).toInt + 1) → (¬ ((0 ≤ c.toInt ∧ c.toInt < (M.2.1 0 12).toInt ∧ 0 ≤ e.toInt ∧ e.toInt < sg.1) ∧ (M.2.1 6 0).toInt < 150) → r.toInt = -1 ∧ (M1.2.1 6 0).toInt = (M.2.1 6 0).toInt) → (NWc M M1 r.toInt (x_tk m) c e (0 : Int32)) → Q (some (.int r)) M1) : mm_T X d 121 0 [.ref 0, .int c, .int e, .int m] [] M Q := by
  have F0 : FR md_n M M := FR.rf
  have z_1 := q7.2.1
  have z_2 := q7.2.2.1
  have z_3 := q7.2.2.2.1
  have z_4 := q7.1
  have z_5 := z_4.1
  have z_6 := z_4.2.1
  have z_7 := z_4.2.2.1
  have z_8 := z_4.2.2.2.1
  have z_9 := z_4.2.2.2.2.1
  have z_10 := z_4.2.2.2.2.2.1
  have b_11 := g_b hG (a := p) (i := 2) (lo := 0) (hi := 8) (by rcases hp with rfl | rfl <;> rfl) (by rcases hp with rfl | rfl <;> rfl)
  have b_12 := g_b hG (a := p) (i := 3) (lo := 0) (hi := 12) (by rcases hp with rfl | rfl <;> rfl) (by rcases hp with rfl | rfl <;> rfl)
  have b_13 := g_b hG (a := p) (i := 0) (lo := 10) (hi := 60) (by rcases hp with rfl | rfl <;> rfl) (by rcases hp with rfl | rfl <;> rfl)
  refine to_an (pc := 0) rw_121_0 rfl (to_in (pc := 1) rw_121_1 rfl (s_v (pc := 2) rw_121_2 (dp0 hd (by decide)) (ls0 := [.ref 0, .int c]) rfl (Nat.le_of_ble_eq_true rfl) (Nat.le_of_ble_eq_true rfl) rfl (to_rc rfl rfl rfl (g_o hG rfl)) rfl (to_in (pc := 0) rw_140_0 rfl (b_ilt (pc := 1) rw_140_1 (A := c.toInt) rfl (fun h14 => ?_) (fun h14 => ?_)))))
  · refine to_c (pc := 16) rw_140_16 (x := (0 : Int32)) rfl rfl (s_r1 (pc := 17) rw_140_17 (A := 0) rfl (by decide) (b_ieq_t (pc := 5) rw_121_5 (A := 0) rfl (by decide) (to_c (pc := 23) rw_121_23 (x := (-1 : Int32)) rfl rfl (to_r0 (pc := 24) rw_121_24 ?_))))
    have k_15 : (-1 : Int32).toInt = -1 := rfl
    have b_16 := g_b hG (a := 6) (i := 0) (lo := 0) (hi := 150) rfl rfl
    exact h (-1 : Int32) M hG F0 q4 q5 q6 (by omega) (by omega) (NWc_n (fun a i z => rfl) (by omega))
  · refine to_in (pc := 4) rw_140_4 rfl (to_an (pc := 5) rw_140_5 rfl ?_)
    have b_17 := g_b hG (a := 0) (i := 12) (lo := 0) (hi := 30) rfl rfl
    refine tt_gI (pc := 6) rw_140_6 (g_o hG rfl) (v := (M.2.1 0 12)) rfl (b_cge (pc := 9) rw_140_9 (A := c.toInt) (B := (M.2.1 0 12).toInt) rfl rfl (fun h18 => ?_) (fun h18 => ?_))
    · refine to_c (pc := 16) rw_140_16 (x := (0 : Int32)) rfl rfl (s_r1 (pc := 17) rw_140_17 (A := 0) rfl (by decide) (b_ieq_t (pc := 5) rw_121_5 (A := 0) rfl (by decide) (to_c (pc := 23) rw_121_23 (x := (-1 : Int32)) rfl rfl (to_r0 (pc := 24) rw_121_24 ?_))))
      have k_19 : (-1 : Int32).toInt = -1 := rfl
      have b_20 := g_b hG (a := 6) (i := 0) (lo := 0) (hi := 150) rfl rfl
      exact h (-1 : Int32) M hG F0 q4 q5 q6 (by omega) (by omega) (NWc_n (fun a i z => rfl) (by omega))
    · refine to_c (pc := 12) rw_140_12 (x := (1 : Int32)) rfl rfl (to_go (pc := 13) rw_140_13 (s_r1 (pc := 17) rw_140_17 (A := 1) rfl (by decide) (b_ieq_f (pc := 5) rw_121_5 (A := 1) rfl (by decide) (to_in (pc := 8) rw_121_8 rfl (b_ilt (pc := 9) rw_121_9 (A := e.toInt) rfl (fun h21 => ?_) (fun h21 => ?_))))))
      · refine to_c (pc := 23) rw_121_23 (x := (-1 : Int32)) rfl rfl (to_r0 (pc := 24) rw_121_24 ?_)
        have k_22 : (-1 : Int32).toInt = -1 := rfl
        have b_23 := g_b hG (a := 6) (i := 0) (lo := 0) (hi := 150) rfl rfl
        exact h (-1 : Int32) M hG F0 q4 q5 q6 (by omega) (by omega) (NWc_n (fun a i z => rfl) (by omega))
      · refine to_in (pc := 12) rw_121_12 rfl (to_an (pc := 13) rw_121_13 rfl (tt_gR (pc := 14) rw_121_14 (g_o hG rfl) q1.1 (tt_gI (pc := 17) rw_121_17 (g_o hG (by rcases hp with rfl | rfl <;> rfl)) (v := (M.2.1 p 0)) rfl (b_clt (pc := 20) rw_121_20 (A := e.toInt) (B := (M.2.1 p 0).toInt) rfl rfl (fun h24 => ?_) (fun h24 => ?_)))))
        · refine to_an (pc := 25) rw_121_25 rfl (s_gR (pc := 26) rw_121_26 hG rfl (v := 6) rfl (to_in (pc := 29) rw_121_29 rfl (b_ieq (pc := 30) rw_121_30 (A := m.toInt) rfl (fun h25 => ?_) (fun h25 => ?_))))
          · refine to_c (pc := 37) rw_121_37 (x := (2 : Int32)) rfl rfl (to_in (pc := 38) rw_121_38 rfl (to_in (pc := 39) rw_121_39 rfl (to_c (pc := 40) rw_121_40 (x := (0 : Int32)) rfl rfl (s_v (pc := 41) rw_121_41 (dp0 hd (by decide)) (ls0 := [.ref 6, .int (2 : Int32), .int c, .int e, .int (0 : Int32)]) rfl (Nat.le_of_ble_eq_true rfl) (Nat.le_of_ble_eq_true rfl) rfl (to_rc rfl rfl rfl (g_o hG rfl)) rfl ?_))))
            have k_26 : (2 : Int32).toInt = 2 := rfl
            have k_27 : (0 : Int32).toInt = 0 := rfl
            have b_28 := g_b hG (a := 6) (i := 0) (lo := 0) (hi := 150) rfl rfl
            refine E_20 hX (dp1 hd (by decide)) hG (by omega) (by omega) (by omega) (by omega) (by omega) q4 (k := (2 : Int32)) (f := c) (s := e) (t := (0 : Int32)) (fun r29 M36 hG31 F30 p_32 p_33 p_34 p_35 => ?_)
            have F37 := FR.c F0 F30 tg_103
            have b_38 := g_b hG31 (a := 6) (i := 0) (lo := 0) (hi := 150) rfl rfl
            refine to_r0 (pc := 44) rw_121_44 ?_
            have j_39 := (PI_f (tg_96 F30) q5)
            have j_40 := (QI_f (tg_97 F30) q6)
            exact h r29 M36 hG31 F37 p_34 j_39 j_40 (by omega) (by omega) (by rw [x_tk_0 (by omega)]; exact p_35)
          · refine to_c (pc := 33) rw_121_33 (x := (3 : Int32)) rfl rfl (to_go (pc := 34) rw_121_34 (to_in (pc := 38) rw_121_38 rfl (to_in (pc := 39) rw_121_39 rfl (to_c (pc := 40) rw_121_40 (x := (0 : Int32)) rfl rfl (s_v (pc := 41) rw_121_41 (dp0 hd (by decide)) (ls0 := [.ref 6, .int (3 : Int32), .int c, .int e, .int (0 : Int32)]) rfl (Nat.le_of_ble_eq_true rfl) (Nat.le_of_ble_eq_true rfl) rfl (to_rc rfl rfl rfl (g_o hG rfl)) rfl ?_)))))
            have k_41 : (3 : Int32).toInt = 3 := rfl
            have k_42 : (0 : Int32).toInt = 0 := rfl
            have b_43 := g_b hG (a := 6) (i := 0) (lo := 0) (hi := 150) rfl rfl
            refine E_20 hX (dp1 hd (by decide)) hG (by omega) (by omega) (by omega) (by omega) (by omega) q4 (k := (3 : Int32)) (f := c) (s := e) (t := (0 : Int32)) (fun r44 M51 hG46 F45 p_47 p_48 p_49 p_50 => ?_)
            have F52 := FR.c F0 F45 tg_103
            have b_53 := g_b hG46 (a := 6) (i := 0) (lo := 0) (hi := 150) rfl rfl
            refine to_r0 (pc := 44) rw_121_44 ?_
            have j_54 := (PI_f (tg_96 F45) q5)
            have j_55 := (QI_f (tg_97 F45) q6)
            exact h r44 M51 hG46 F52 p_49 j_54 j_55 (by omega) (by omega) (by rw [x_tk_1 (by omega)]; exact p_50)
        · refine to_c (pc := 23) rw_121_23 (x := (-1 : Int32)) rfl rfl (to_r0 (pc := 24) rw_121_24 ?_)
          have k_56 : (-1 : Int32).toInt = -1 := rfl
          have b_57 := g_b hG (a := 6) (i := 0) (lo := 0) (hi := 150) rfl rfl
          exact h (-1 : Int32) M hG F0 q4 q5 q6 (by omega) (by omega) (NWc_n (fun a i z => rfl) (by omega))
set_option maxRecDepth 4000 in
set_option maxHeartbeats 0 in
theorem E_122 {X : mm_X} {d : Nat} {M : mm_M} {Q : Option Value → mm_M → Prop} {w : Int32} {b : Int32} {p : Nat} {pz : Nat} {q : Nat} {qz : Nat} {sg : x_S} (hX : g_X X) (hd : 3 ≤ d) (hG : g_G M) (hp : p = 49 ∨ p = 58) (hpz : pz = 49 ∨ pz = 58) (hq : q = 67 ∨ q = 72) (hqz : qz = 67 ∨ qz = 72) (q1 : g_PQ M p pz q qz) (q2 : NI M) (q3 : PI M) (q4 : QI M) (q5 : PLs M p sg) (h : ∀ (r : Int32) (M1 : mm_M), g_G M1 → FR md_n M M1 → NI M1 → PI M1 → QI M1 → ((0 ≤ w.toInt ∧ w.toInt < sg.2.2.1 ∧ 0 ≤ b.toInt ∧ x_shz b.toInt (x_row sg 4 (x_row sg 7 w.toInt) - x_row sg 3 (x_row sg 7 w.toInt) + 1) = 0 ∧ ((x_ct (b.toInt).toNat 62 : Nat) : Int) = x_row sg 5 (x_row sg 7 w.toInt)) ∧ (M.2.1 6 0).toInt < 150 → r.toInt = (M.2.1 6 0).toInt ∧ (M1.2.1 6 0).toInt = (M.2.1 6 0).toInt + 1) → (¬ ((0 ≤ w.toInt ∧ w.toInt < sg.2.2.1 ∧ 0 ≤ b.toInt ∧ x_shz b.toInt (x_row sg 4 (x_row sg 7 w.toInt) - x_row sg 3 (x_row sg 7 w.toInt) + 1) = 0 ∧ ((x_ct (b.toInt).toNat 62 : Nat) : Int) = x_row sg 5 (x_row sg 7 w.toInt)) ∧ (M.2.1 6 0).toInt < 150) → r.toInt = -1 ∧ (M1.2.1 6 0).toInt = (M.2.1 6 0).toInt) → (NWc M M1 r.toInt (4 : Int32) w b (0 : Int32)) → Q (some (.int r)) M1) : mm_T X d 122 0 [.ref 0, .int w, .int b] [] M Q := by
  have F0 : FR md_n M M := FR.rf
  have z_1 := q5.2.1
  have z_2 := q5.2.2.1
  have z_3 := q5.2.2.2.1
  have z_4 := q5.1
  have z_5 := z_4.1
  have z_6 := z_4.2.1
  have z_7 := z_4.2.2.1
  have z_8 := z_4.2.2.2.1
  have z_9 := z_4.2.2.2.2.1
  have z_10 := z_4.2.2.2.2.2.1
  have b_11 := g_b hG (a := p) (i := 2) (lo := 0) (hi := 8) (by rcases hp with rfl | rfl <;> rfl) (by rcases hp with rfl | rfl <;> rfl)
  have b_12 := g_b hG (a := p) (i := 3) (lo := 0) (hi := 12) (by rcases hp with rfl | rfl <;> rfl) (by rcases hp with rfl | rfl <;> rfl)
  refine to_an (pc := 0) rw_122_0 rfl (tt_gR (pc := 1) rw_122_1 (g_o hG rfl) q1.1 (to_in (pc := 4) rw_122_4 rfl (s_v (pc := 5) rw_122_5 (dp0 hd (by decide)) (ls0 := [.ref p, .int w]) rfl (Nat.le_of_ble_eq_true rfl) (Nat.le_of_ble_eq_true rfl) rfl (to_rc rfl rfl rfl (g_o hG (by rcases hp with rfl | rfl <;> rfl))) rfl (to_in (pc := 0) rw_44_0 rfl (b_ilt (pc := 1) rw_44_1 (A := w.toInt) rfl (fun h13 => ?_) (fun h13 => ?_))))))
  · refine to_c (pc := 16) rw_44_16 (x := (0 : Int32)) rfl rfl (s_r1 (pc := 17) rw_44_17 (A := 0) rfl (by decide) (b_ieq_t (pc := 8) rw_122_8 (A := 0) rfl (by decide) (to_c (pc := 23) rw_122_23 (x := (-1 : Int32)) rfl rfl (to_r0 (pc := 24) rw_122_24 ?_))))
    have k_14 : (-1 : Int32).toInt = -1 := rfl
    have b_15 := g_b hG (a := 6) (i := 0) (lo := 0) (hi := 150) rfl rfl
    exact h (-1 : Int32) M hG F0 q2 q3 q4 (by omega) (by omega) (NWc_n (fun a i z => rfl) (by omega))
  · refine to_in (pc := 4) rw_44_4 rfl (to_an (pc := 5) rw_44_5 rfl (tt_gI (pc := 6) rw_44_6 (g_o hG (by rcases hp with rfl | rfl <;> rfl)) (v := (M.2.1 p 3)) rfl (b_cge (pc := 9) rw_44_9 (A := w.toInt) (B := (M.2.1 p 3).toInt) rfl rfl (fun h16 => ?_) (fun h16 => ?_))))
    · refine to_c (pc := 16) rw_44_16 (x := (0 : Int32)) rfl rfl (s_r1 (pc := 17) rw_44_17 (A := 0) rfl (by decide) (b_ieq_t (pc := 8) rw_122_8 (A := 0) rfl (by decide) (to_c (pc := 23) rw_122_23 (x := (-1 : Int32)) rfl rfl (to_r0 (pc := 24) rw_122_24 ?_))))
      have k_17 : (-1 : Int32).toInt = -1 := rfl
      have b_18 := g_b hG (a := 6) (i := 0) (lo := 0) (hi := 150) rfl rfl
      exact h (-1 : Int32) M hG F0 q2 q3 q4 (by omega) (by omega) (NWc_n (fun a i z => rfl) (by omega))
    · refine to_c (pc := 12) rw_44_12 (x := (1 : Int32)) rfl rfl (to_go (pc := 13) rw_44_13 (s_r1 (pc := 17) rw_44_17 (A := 1) rfl (by decide) (b_ieq_f (pc := 8) rw_122_8 (A := 1) rfl (by decide) (to_an (pc := 11) rw_122_11 rfl (tt_gR (pc := 12) rw_122_12 (g_o hG rfl) q1.1 (to_in (pc := 15) rw_122_15 rfl (to_in (pc := 16) rw_122_16 rfl (s_v (pc := 17) rw_122_17 (dp0 hd (by decide)) (ls0 := [.ref p, .int w, .int b, .null]) rfl (Nat.le_of_ble_eq_true rfl) (Nat.le_of_ble_eq_true rfl) rfl (to_rc rfl rfl rfl (g_o hG (by rcases hp with rfl | rfl <;> rfl))) rfl (to_an (pc := 0) rw_50_0 rfl (s_gR (pc := 1) rw_50_1 hG (by rcases hp with rfl | rfl <;> rfl) (v := (p + 7)) (by rcases hp with rfl | rfl <;> rfl) (to_in (pc := 4) rw_50_4 rfl ?_)))))))))))
      refine s_ial (pc := 5) rw_50_5 hG (by rcases hp with rfl | rfl <;> rfl) (n := 12) (by rcases hp with rfl | rfl <;> rfl) (by rcases hp with rfl | rfl <;> rfl) (A := w.toInt) rfl (by omega) (by omega) (lo := 0) (hi := 7) (by rcases hp with rfl | rfl <;> rfl) (by rcases hp with rfl | rfl <;> rfl) (fun v19 w_20 _ _ => ?_)
      have z_21 := PLs_v q5 7 (by decide) (by decide) (k := w.toInt) (by omega) (by omega) w_20
      have z_22 := q5.1.2.2.2.2.2.2.1 w.toInt (by omega) (by omega)
      refine to_isn (pc := 6) rw_50_6 (ls2 := [.ref p, .int w, .int b, .int v19]) rfl rfl (to_in (pc := 7) rw_50_7 rfl (b_ilt (pc := 8) rw_50_8 (A := b.toInt) rfl (fun h23 => ?_) (fun h23 => ?_)))
      · refine to_c (pc := 38) rw_50_38 (x := (0 : Int32)) rfl rfl (s_r1 (pc := 39) rw_50_39 (A := 0) rfl (by decide) (b_ine_f (pc := 20) rw_122_20 (A := 0) rfl (by decide) (to_c (pc := 23) rw_122_23 (x := (-1 : Int32)) rfl rfl (to_r0 (pc := 24) rw_122_24 ?_))))
        have k_24 : (-1 : Int32).toInt = -1 := rfl
        have b_25 := g_b hG (a := 6) (i := 0) (lo := 0) (hi := 150) rfl rfl
        exact h (-1 : Int32) M hG F0 q2 q3 q4 (by omega) (by omega) (NWc_n (fun a i z => rfl) (by omega))
      · refine to_in (pc := 11) rw_50_11 rfl (to_an (pc := 12) rw_50_12 rfl (to_in (pc := 13) rw_50_13 rfl (s_v (pc := 14) rw_50_14 (dp1 hd (by decide)) (ls0 := [.ref p, .int v19]) rfl (Nat.le_of_ble_eq_true rfl) (Nat.le_of_ble_eq_true rfl) rfl (to_rc rfl rfl rfl (g_o hG (by rcases hp with rfl | rfl <;> rfl))) rfl (to_an (pc := 0) rw_47_0 rfl (s_gR (pc := 1) rw_47_1 hG (by rcases hp with rfl | rfl <;> rfl) (v := (p + 4)) (by rcases hp with rfl | rfl <;> rfl) (to_in (pc := 4) rw_47_4 rfl (s_ial (pc := 5) rw_47_5 hG (by rcases hp with rfl | rfl <;> rfl) (n := 8) (by rcases hp with rfl | rfl <;> rfl) (by rcases hp with rfl | rfl <;> rfl) (A := v19.toInt) rfl (by omega) (by omega) (lo := 0) (hi := 63) (by rcases hp with rfl | rfl <;> rfl) (by rcases hp with rfl | rfl <;> rfl) (fun v26 w_27 _ _ => ?_))))))))
        have z_28 := PLs_r q5 4 (by decide) (by decide) (k := v19.toInt) (by omega) (by omega) w_27
        have z_29 := x_row_v (s := sg) (r := 4) (x := v19.toInt) (y := x_row sg 7 w.toInt) (by omega)
        have z_30 := q5.1.2.2.2.2.2.2.2 (x_row sg 7 w.toInt) (by omega) (by omega)
        refine to_an (pc := 6) rw_47_6 rfl (s_gR (pc := 7) rw_47_7 hG (by rcases hp with rfl | rfl <;> rfl) (v := (p + 3)) (by rcases hp with rfl | rfl <;> rfl) (to_in (pc := 10) rw_47_10 rfl (s_ial (pc := 11) rw_47_11 hG (by rcases hp with rfl | rfl <;> rfl) (n := 8) (by rcases hp with rfl | rfl <;> rfl) (by rcases hp with rfl | rfl <;> rfl) (A := v19.toInt) rfl (by omega) (by omega) (lo := 0) (hi := 59) (by rcases hp with rfl | rfl <;> rfl) (by rcases hp with rfl | rfl <;> rfl) (fun v31 w_32 _ _ => ?_))))
        have z_33 := PLs_r q5 3 (by decide) (by decide) (k := v19.toInt) (by omega) (by omega) w_32
        have z_34 := x_row_v (s := sg) (r := 3) (x := v19.toInt) (y := x_row sg 7 w.toInt) (by omega)
        refine s_sub (pc := 12) rw_47_12 (A := v26.toInt) (B := v31.toInt) rfl rfl (by omega) (fun v35 e36 => to_c (pc := 13) rw_47_13 (x := (1 : Int32)) rfl rfl (s_add (pc := 14) rw_47_14 (A := v35.toInt) (B := 1) rfl rfl (by omega) (fun v37 e38 => to_r0 (pc := 15) rw_47_15 (s_opE (pc := 17) rw_50_17 (w := b >>> v37) rfl (fun v39 e40 => ?_)))))
        have z_41 := x_shz_e (k := (x_row sg 4 (x_row sg 7 w.toInt) - x_row sg 3 (x_row sg 7 w.toInt) + 1)) (by omega) e40
        have z_42 := fun h9 => x_shz_0 (b := b) (k := (x_row sg 4 (x_row sg 7 w.toInt) - x_row sg 3 (x_row sg 7 w.toInt) + 1)) (by omega) (by omega) (by omega) h9
        refine b_ine (pc := 18) rw_50_18 (A := v39.toInt) rfl (fun h43 => ?_) (fun h43 => ?_)
        · refine to_c (pc := 38) rw_50_38 (x := (0 : Int32)) rfl rfl (s_r1 (pc := 39) rw_50_39 (A := 0) rfl (by decide) (b_ine_f (pc := 20) rw_122_20 (A := 0) rfl (by decide) (to_c (pc := 23) rw_122_23 (x := (-1 : Int32)) rfl rfl (to_r0 (pc := 24) rw_122_24 ?_))))
          have k_44 : (-1 : Int32).toInt = -1 := rfl
          have b_45 := g_b hG (a := 6) (i := 0) (lo := 0) (hi := 150) rfl rfl
          exact h (-1 : Int32) M hG F0 q2 q3 q4 (by omega) (by omega) (NWc_n (fun a i z => rfl) (by omega))
        · refine to_in (pc := 21) rw_50_21 rfl (s_s (pc := 22) rw_50_22 (dp1 hd (by decide)) (ls0 := [.int b]) rfl (Nat.le_of_ble_eq_true rfl) (Nat.le_of_ble_eq_true rfl) rfl (to_rcs rfl rfl) rfl (E_247 hX (dp2 hd (by decide)) hG (by omega) (by omega) (x := b) (fun r46 M50 hG48 F47 p_49 => ?_)))
          have F51 := FR.c F0 F47 tg_104
          refine to_an (pc := 25) rw_50_25 rfl (s_gR (pc := 26) rw_50_26 hG48 (by rcases hp with rfl | rfl <;> rfl) (v := (p + 5)) (by rcases hp with rfl | rfl <;> rfl) (to_in (pc := 29) rw_50_29 rfl (s_ial (pc := 30) rw_50_30 hG48 (by rcases hp with rfl | rfl <;> rfl) (n := 8) (by rcases hp with rfl | rfl <;> rfl) (by rcases hp with rfl | rfl <;> rfl) (A := v19.toInt) rfl (by omega) (by omega) (lo := 0) (hi := 24) (by rcases hp with rfl | rfl <;> rfl) (by rcases hp with rfl | rfl <;> rfl) (fun v52 w_53 _ _ => ?_))))
          have j_54 := (PLs_f (fun a i z => F_n F47 (show ¬ (a < 0) by omega) rfl) q5)
          have z_55 := PLs_r j_54 5 (by decide) (by decide) (k := v19.toInt) (by omega) (by omega) w_53
          have z_56 := x_row_v (s := sg) (r := 5) (x := v19.toInt) (y := x_row sg 7 w.toInt) (by omega)
          refine b_cne (pc := 31) rw_50_31 (A := r46.toInt) (B := v52.toInt) rfl rfl (fun h57 => ?_) (fun h57 => ?_)
          · refine to_c (pc := 38) rw_50_38 (x := (0 : Int32)) rfl rfl (s_r1 (pc := 39) rw_50_39 (A := 0) rfl (by decide) (b_ine_f (pc := 20) rw_122_20 (A := 0) rfl (by decide) (to_c (pc := 23) rw_122_23 (x := (-1 : Int32)) rfl rfl (to_r0 (pc := 24) rw_122_24 ?_))))
            have k_58 : (-1 : Int32).toInt = -1 := rfl
            have j_59 := (NI_f (tg_98 F47) q2)
            have j_60 := (PI_f (tg_99 F47) q3)
            have j_61 := (QI_f (tg_100 F47) q4)
            have c_62 : M50.2.1 6 0 = (M.2.1 6 0) := (F_n F47 (show ¬ (6 < 0) by decide) rfl)
            have b_63 := g_b hG (a := 6) (i := 0) (lo := 0) (hi := 150) rfl rfl
            have t_64 : (M50.2.1 6 0).toInt = (M.2.1 6 0).toInt := congrArg Int32.toInt c_62
            exact h (-1 : Int32) M50 hG48 F51 j_59 j_60 j_61 (by omega) (by omega) (NWc_n (fun a i z => (F_n F47 (show ¬ (a < 0) by omega) rfl)) (by omega))
          · refine to_c (pc := 34) rw_50_34 (x := (1 : Int32)) rfl rfl (to_go (pc := 35) rw_50_35 (s_r1 (pc := 39) rw_50_39 (A := 1) rfl (by decide) (b_ine_t (pc := 20) rw_122_20 (A := 1) rfl (by decide) (to_an (pc := 25) rw_122_25 rfl (s_gR (pc := 26) rw_122_26 hG48 rfl (v := 6) rfl (to_c (pc := 29) rw_122_29 (x := (4 : Int32)) rfl rfl (to_in (pc := 30) rw_122_30 rfl (to_in (pc := 31) rw_122_31 rfl (to_c (pc := 32) rw_122_32 (x := (0 : Int32)) rfl rfl (s_v (pc := 33) rw_122_33 (dp0 hd (by decide)) (ls0 := [.ref 6, .int (4 : Int32), .int w, .int b, .int (0 : Int32)]) rfl (Nat.le_of_ble_eq_true rfl) (Nat.le_of_ble_eq_true rfl) rfl (to_rc rfl rfl rfl (g_o hG48 rfl)) rfl ?_))))))))))
            have k_65 : (4 : Int32).toInt = 4 := rfl
            have k_66 : (0 : Int32).toInt = 0 := rfl
            have c_67 : M50.2.1 6 0 = (M.2.1 6 0) := (F_n F47 (show ¬ (6 < 0) by decide) rfl)
            have b_68 := g_b hG (a := 6) (i := 0) (lo := 0) (hi := 150) rfl rfl
            have t_69 : (M50.2.1 6 0).toInt = (M.2.1 6 0).toInt := congrArg Int32.toInt c_67
            have j_70 := (NI_f (tg_98 F47) q2)
            refine E_20 hX (dp1 hd (by decide)) hG48 (by omega) (by omega) (by omega) (by omega) (by omega) j_70 (k := (4 : Int32)) (f := w) (s := b) (t := (0 : Int32)) (fun r71 M78 hG73 F72 p_74 p_75 p_76 p_77 => ?_)
            have F79 := FR.c F51 F72 tg_103
            have b_80 := g_b hG73 (a := 6) (i := 0) (lo := 0) (hi := 150) rfl rfl
            refine to_r0 (pc := 36) rw_122_36 ?_
            have j_81 := (PI_f (tg_96 F72) (PI_f (tg_99 F47) q3))
            have j_82 := (QI_f (tg_97 F72) (QI_f (tg_100 F47) q4))
            exact h r71 M78 hG73 F79 p_76 j_81 j_82 (by omega) (by omega) (NWc_o (fun a i z => (F_n F47 (show ¬ (a < 0) by omega) rfl)) p_77)
set_option maxRecDepth 4000 in
set_option maxHeartbeats 0 in
theorem E_123 {X : mm_X} {d : Nat} {M : mm_M} {Q : Option Value → mm_M → Prop} {n : Int32} {p : Nat} {pz : Nat} {q : Nat} {qz : Nat} {sg : x_S} (hX : g_X X) (hd : 1 ≤ d) (hG : g_G M) (hp : p = 49 ∨ p = 58) (hpz : pz = 49 ∨ pz = 58) (hq : q = 67 ∨ q = 72) (hqz : qz = 67 ∨ qz = 72) (q1 : g_PQ M p pz q qz) (q2 : NI M) (q3 : PI M) (q4 : QI M) (q5 : PLs M p sg) (h : ∀ (r : Int32) (M1 : mm_M), g_G M1 → FR md_n M M1 → NI M1 → PI M1 → QI M1 → ((0 ≤ n.toInt ∧ n.toInt < (M.2.1 6 0).toInt) ∧ (M.2.1 6 0).toInt < 150 → r.toInt = (M.2.1 6 0).toInt ∧ (M1.2.1 6 0).toInt = (M.2.1 6 0).toInt + 1) → (¬ ((0 ≤ n.toInt ∧ n.toInt < (M.2.1 6 0).toInt) ∧ (M.2.1 6 0).toInt < 150) → r.toInt = -1 ∧ (M1.2.1 6 0).toInt = (M.2.1 6 0).toInt) → (NWc M M1 r.toInt (5 : Int32) n (0 : Int32) (0 : Int32)) → Q (some (.int r)) M1) : mm_T X d 123 0 [.ref 0, .int n] [] M Q := by
  have F0 : FR md_n M M := FR.rf
  have z_1 := q5.2.1
  have z_2 := q5.2.2.1
  have z_3 := q5.2.2.2.1
  have z_4 := q5.1
  have z_5 := z_4.1
  have z_6 := z_4.2.1
  have z_7 := z_4.2.2.1
  have z_8 := z_4.2.2.2.1
  have z_9 := z_4.2.2.2.2.1
  have z_10 := z_4.2.2.2.2.2.1
  have b_11 := g_b hG (a := p) (i := 2) (lo := 0) (hi := 8) (by rcases hp with rfl | rfl <;> rfl) (by rcases hp with rfl | rfl <;> rfl)
  have b_12 := g_b hG (a := p) (i := 3) (lo := 0) (hi := 12) (by rcases hp with rfl | rfl <;> rfl) (by rcases hp with rfl | rfl <;> rfl)
  have b_13 := g_b hG (a := p) (i := 0) (lo := 10) (hi := 60) (by rcases hp with rfl | rfl <;> rfl) (by rcases hp with rfl | rfl <;> rfl)
  refine to_in (pc := 0) rw_123_0 rfl (b_ilt (pc := 1) rw_123_1 (A := n.toInt) rfl (fun h14 => ?_) (fun h14 => ?_))
  · refine to_c (pc := 15) rw_123_15 (x := (-1 : Int32)) rfl rfl (to_r0 (pc := 16) rw_123_16 ?_)
    have k_15 : (-1 : Int32).toInt = -1 := rfl
    have b_16 := g_b hG (a := 6) (i := 0) (lo := 0) (hi := 150) rfl rfl
    exact h (-1 : Int32) M hG F0 q2 q3 q4 (by omega) (by omega) (NWc_n (fun a i z => rfl) (by omega))
  · refine to_in (pc := 4) rw_123_4 rfl (to_an (pc := 5) rw_123_5 rfl (s_gR (pc := 6) rw_123_6 hG rfl (v := 6) rfl ?_))
    have b_17 := g_b hG (a := 6) (i := 0) (lo := 0) (hi := 150) rfl rfl
    refine tt_gI (pc := 9) rw_123_9 (g_o hG rfl) (v := (M.2.1 6 0)) rfl (b_clt (pc := 12) rw_123_12 (A := n.toInt) (B := (M.2.1 6 0).toInt) rfl rfl (fun h18 => ?_) (fun h18 => ?_))
    · refine to_an (pc := 17) rw_123_17 rfl (s_gR (pc := 18) rw_123_18 hG rfl (v := 6) rfl (to_c (pc := 21) rw_123_21 (x := (5 : Int32)) rfl rfl (to_in (pc := 22) rw_123_22 rfl (to_c (pc := 23) rw_123_23 (x := (0 : Int32)) rfl rfl (to_c (pc := 24) rw_123_24 (x := (0 : Int32)) rfl rfl (s_v (pc := 25) rw_123_25 (dp0 hd (by decide)) (ls0 := [.ref 6, .int (5 : Int32), .int n, .int (0 : Int32), .int (0 : Int32)]) rfl (Nat.le_of_ble_eq_true rfl) (Nat.le_of_ble_eq_true rfl) rfl (to_rc rfl rfl rfl (g_o hG rfl)) rfl ?_))))))
      have k_19 : (5 : Int32).toInt = 5 := rfl
      have k_20 : (0 : Int32).toInt = 0 := rfl
      refine E_20 hX (dp1 hd (by decide)) hG (by omega) (by omega) (by omega) (by omega) (by omega) q2 (k := (5 : Int32)) (f := n) (s := (0 : Int32)) (t := (0 : Int32)) (fun r21 M28 hG23 F22 p_24 p_25 p_26 p_27 => ?_)
      have F29 := FR.c F0 F22 tg_103
      have b_30 := g_b hG23 (a := 6) (i := 0) (lo := 0) (hi := 150) rfl rfl
      refine to_r0 (pc := 28) rw_123_28 ?_
      have j_31 := (PI_f (tg_96 F22) q3)
      have j_32 := (QI_f (tg_97 F22) q4)
      exact h r21 M28 hG23 F29 p_26 j_31 j_32 (by omega) (by omega) p_27
    · refine to_c (pc := 15) rw_123_15 (x := (-1 : Int32)) rfl rfl (to_r0 (pc := 16) rw_123_16 ?_)
      have k_33 : (-1 : Int32).toInt = -1 := rfl
      exact h (-1 : Int32) M hG F0 q2 q3 q4 (by omega) (by omega) (NWc_n (fun a i z => rfl) (by omega))
set_option maxRecDepth 4000 in
set_option maxHeartbeats 0 in
theorem E_194 {X : mm_X} {d : Nat} {M : mm_M} {Q : Option Value → mm_M → Prop} {c : Int32} {f : Int32} {v : Int32} {sg : x_S} (hX : g_X X) (hd : 3 ≤ d) (hG : g_G M) (q1 : NJ M) (q2 : FA M) (q3 : PLk M sg) (h : ∀ (r : Int32) (M1 : mm_M), g_G M1 → FR md_t2 M M1 → NJ M1 → ((0 ≤ c.toInt ∧ c.toInt < (M.2.1 77 28).toInt ∧ 0 ≤ f.toInt ∧ f.toInt < sg.2.1 ∧ ¬ x_row sg 2 f.toInt = 3 ∧ 0 ≤ v.toInt ∧ v.toInt < x_row sg 5 f.toInt) ∧ (M.2.1 77 29).toInt < 150 → r.toInt = (M.2.1 77 29).toInt ∧ (M1.2.1 77 29).toInt = (M.2.1 77 29).toInt + 1) → (¬ ((0 ≤ c.toInt ∧ c.toInt < (M.2.1 77 28).toInt ∧ 0 ≤ f.toInt ∧ f.toInt < sg.2.1 ∧ ¬ x_row sg 2 f.toInt = 3 ∧ 0 ≤ v.toInt ∧ v.toInt < x_row sg 5 f.toInt) ∧ (M.2.1 77 29).toInt < 150) → r.toInt = -1 ∧ (M1.2.1 77 29).toInt = (M.2.1 77 29).toInt) → (NWr M M1 r.toInt (0 : Int32) c f v) → Q (some (.int r)) M1) : mm_T X d 193 0 [.ref 77, .int c, .int f, .int v] [] M Q := by
  have F0 : FR md_t2 M M := FR.rf
  have z_1 := q3.2.1
  have z_2 := q3.2.2.1
  have z_3 := q3.2.2.2.1
  have z_4 := q3.1
  have z_5 := z_4.1
  have z_6 := z_4.2.1
  have z_7 := z_4.2.2.1
  have z_8 := z_4.2.2.2.1
  have z_9 := z_4.2.2.2.2.1
  have z_10 := z_4.2.2.2.2.2.1
  have b_11 := g_b hG (a := 77) (i := 11) (lo := 10) (hi := 60) rfl rfl
  have b_12 := g_b hG (a := 77) (i := 12) (lo := 0) (hi := 8) rfl rfl
  have b_13 := g_b hG (a := 77) (i := 13) (lo := 0) (hi := 12) rfl rfl
  refine to_an (pc := 0) rw_194_0 rfl (to_c (pc := 1) rw_194_1 (x := (0 : Int32)) rfl rfl (s_pI (pc := 2) rw_194_2 hG rfl (fun M15 W14 => ?_)))
  have hG16 := g_wf hG W14 rfl rfl (by decide)
  have F17 := FR.w F0 W14 (show 77 = 77 ∧ (2 = 2 ∨ 2 = 29) ∨ 90 ≤ 77 ∧ 77 ≤ 93 by decide)
  refine to_an (pc := 5) rw_194_5 rfl ?_
  have c_18 : M15.2.1 77 29 = (M.2.1 77 29) := (W_n W14 (by decide) rfl)
  have b_19 := g_b hG (a := 77) (i := 29) (lo := 0) (hi := 150) rfl rfl
  refine tt_gI (pc := 6) rw_194_6 (g_o hG16 rfl) (v := (M.2.1 77 29)) c_18 (to_c (pc := 9) rw_194_9 (x := (150 : Int32)) rfl rfl (b_ceq (pc := 12) rw_194_12 (A := (M.2.1 77 29).toInt) (B := 150) rfl rfl (fun h20 => ?_) (fun h20 => ?_)))
  · refine to_c (pc := 32) rw_194_32 (x := (-1 : Int32)) rfl rfl (to_go (pc := 33) rw_194_33 (to_r0 (pc := 44) rw_194_44 ?_))
    have k_21 : (-1 : Int32).toInt = -1 := rfl
    have j_22 := (NJ_f (fun a i z => W_n W14 (by /-r77,2-/ omega) rfl) q1)
    have t_23 : (M15.2.1 77 29).toInt = (M.2.1 77 29).toInt := congrArg Int32.toInt c_18
    exact h (-1 : Int32) M15 hG16 F17 j_22 (by omega) (by omega) (NWr_n (fun a i z => (W_n W14 (by /-r77,2-/ omega) rfl)) (by omega))
  · refine to_an (pc := 15) rw_194_15 rfl (to_in (pc := 16) rw_194_16 rfl (s_v (pc := 17) rw_194_17 (dp0 hd (by decide)) (ls0 := [.ref 77, .int c]) rfl (Nat.le_of_ble_eq_true rfl) (Nat.le_of_ble_eq_true rfl) rfl (to_rc rfl rfl rfl (g_o hG16 rfl)) rfl (to_in (pc := 0) rw_187_0 rfl (b_ilt (pc := 1) rw_187_1 (A := c.toInt) rfl (fun h24 => ?_) (fun h24 => ?_)))))
    · refine to_c (pc := 16) rw_187_16 (x := (0 : Int32)) rfl rfl (s_r1 (pc := 17) rw_187_17 (A := 0) rfl (by decide) (b_ieq_t (pc := 20) rw_194_20 (A := 0) rfl (by decide) (to_c (pc := 32) rw_194_32 (x := (-1 : Int32)) rfl rfl (to_go (pc := 33) rw_194_33 (to_r0 (pc := 44) rw_194_44 ?_)))))
      have k_25 : (-1 : Int32).toInt = -1 := rfl
      have j_26 := (NJ_f (fun a i z => W_n W14 (by /-r77,2-/ omega) rfl) q1)
      have t_27 : (M15.2.1 77 29).toInt = (M.2.1 77 29).toInt := congrArg Int32.toInt c_18
      exact h (-1 : Int32) M15 hG16 F17 j_26 (by omega) (by omega) (NWr_n (fun a i z => (W_n W14 (by /-r77,2-/ omega) rfl)) (by omega))
    · refine to_in (pc := 4) rw_187_4 rfl (to_an (pc := 5) rw_187_5 rfl ?_)
      have c_28 : M15.2.1 77 28 = (M.2.1 77 28) := (W_n W14 (by decide) rfl)
      have b_29 := g_b hG (a := 77) (i := 28) (lo := 0) (hi := 30) rfl rfl
      refine tt_gI (pc := 6) rw_187_6 (g_o hG16 rfl) (v := (M.2.1 77 28)) c_28 (b_cge (pc := 9) rw_187_9 (A := c.toInt) (B := (M.2.1 77 28).toInt) rfl rfl (fun h30 => ?_) (fun h30 => ?_))
      · refine to_c (pc := 16) rw_187_16 (x := (0 : Int32)) rfl rfl (s_r1 (pc := 17) rw_187_17 (A := 0) rfl (by decide) (b_ieq_t (pc := 20) rw_194_20 (A := 0) rfl (by decide) (to_c (pc := 32) rw_194_32 (x := (-1 : Int32)) rfl rfl (to_go (pc := 33) rw_194_33 (to_r0 (pc := 44) rw_194_44 ?_)))))
        have k_31 : (-1 : Int32).toInt = -1 := rfl
        have j_32 := (NJ_f (fun a i z => W_n W14 (by /-r77,2-/ omega) rfl) q1)
        have t_33 : (M15.2.1 77 29).toInt = (M.2.1 77 29).toInt := congrArg Int32.toInt c_18
        exact h (-1 : Int32) M15 hG16 F17 j_32 (by omega) (by omega) (NWr_n (fun a i z => (W_n W14 (by /-r77,2-/ omega) rfl)) (by omega))
      · refine to_c (pc := 12) rw_187_12 (x := (1 : Int32)) rfl rfl (to_go (pc := 13) rw_187_13 (s_r1 (pc := 17) rw_187_17 (A := 1) rfl (by decide) (b_ieq_f (pc := 20) rw_194_20 (A := 1) rfl (by decide) (to_an (pc := 23) rw_194_23 rfl (to_in (pc := 24) rw_194_24 rfl (to_in (pc := 25) rw_194_25 rfl (s_v (pc := 26) rw_194_26 (dp0 hd (by decide)) (ls0 := [.ref 77, .int f, .int v]) rfl (Nat.le_of_ble_eq_true rfl) (Nat.le_of_ble_eq_true rfl) rfl (to_rc rfl rfl rfl (g_o hG16 rfl)) rfl (to_an (pc := 0) rw_184_0 rfl (to_in (pc := 1) rw_184_1 rfl (s_v (pc := 2) rw_184_2 (dp1 hd (by decide)) (ls0 := [.ref 77, .int f]) rfl (Nat.le_of_ble_eq_true rfl) (Nat.le_of_ble_eq_true rfl) rfl (to_rc rfl rfl rfl (g_o hG16 rfl)) rfl (to_an (pc := 0) rw_179_0 rfl ?_)))))))))))
        refine to_in (pc := 1) rw_179_1 rfl (s_v (pc := 2) rw_179_2 (dp2 hd (by decide)) (ls0 := [.ref 77, .int f]) rfl (Nat.le_of_ble_eq_true rfl) (Nat.le_of_ble_eq_true rfl) rfl (to_rc rfl rfl rfl (g_o hG16 rfl)) rfl (to_in (pc := 0) rw_178_0 rfl (b_ilt (pc := 1) rw_178_1 (A := f.toInt) rfl (fun h34 => ?_) (fun h34 => ?_))))
        · refine to_c (pc := 16) rw_178_16 (x := (0 : Int32)) rfl rfl (s_r1 (pc := 17) rw_178_17 (A := 0) rfl (by decide) (b_ieq_t (pc := 5) rw_179_5 (A := 0) rfl (by decide) (to_c (pc := 22) rw_179_22 (x := (0 : Int32)) rfl rfl (s_r1 (pc := 23) rw_179_23 (A := 0) rfl (by decide) (b_ieq_t (pc := 5) rw_184_5 (A := 0) rfl (by decide) (to_c (pc := 26) rw_184_26 (x := (0 : Int32)) rfl rfl (s_r1 (pc := 27) rw_184_27 (A := 0) rfl (by decide) (b_ine_f (pc := 29) rw_194_29 (A := 0) rfl (by decide) (to_c (pc := 32) rw_194_32 (x := (-1 : Int32)) rfl rfl (to_go (pc := 33) rw_194_33 (to_r0 (pc := 44) rw_194_44 ?_)))))))))))
          have k_35 : (-1 : Int32).toInt = -1 := rfl
          have j_36 := (NJ_f (fun a i z => W_n W14 (by /-r77,2-/ omega) rfl) q1)
          have t_37 : (M15.2.1 77 29).toInt = (M.2.1 77 29).toInt := congrArg Int32.toInt c_18
          exact h (-1 : Int32) M15 hG16 F17 j_36 (by omega) (by omega) (NWr_n (fun a i z => (W_n W14 (by /-r77,2-/ omega) rfl)) (by omega))
        · refine to_in (pc := 4) rw_178_4 rfl (to_an (pc := 5) rw_178_5 rfl ?_)
          have c_38 : M15.2.1 77 12 = (M.2.1 77 12) := (W_n W14 (by decide) rfl)
          refine tt_gI (pc := 6) rw_178_6 (g_o hG16 rfl) (v := (M.2.1 77 12)) c_38 (b_cge (pc := 9) rw_178_9 (A := f.toInt) (B := (M.2.1 77 12).toInt) rfl rfl (fun h39 => ?_) (fun h39 => ?_))
          · refine to_c (pc := 16) rw_178_16 (x := (0 : Int32)) rfl rfl (s_r1 (pc := 17) rw_178_17 (A := 0) rfl (by decide) (b_ieq_t (pc := 5) rw_179_5 (A := 0) rfl (by decide) (to_c (pc := 22) rw_179_22 (x := (0 : Int32)) rfl rfl (s_r1 (pc := 23) rw_179_23 (A := 0) rfl (by decide) (b_ieq_t (pc := 5) rw_184_5 (A := 0) rfl (by decide) (to_c (pc := 26) rw_184_26 (x := (0 : Int32)) rfl rfl (s_r1 (pc := 27) rw_184_27 (A := 0) rfl (by decide) (b_ine_f (pc := 29) rw_194_29 (A := 0) rfl (by decide) (to_c (pc := 32) rw_194_32 (x := (-1 : Int32)) rfl rfl (to_go (pc := 33) rw_194_33 (to_r0 (pc := 44) rw_194_44 ?_)))))))))))
            have k_40 : (-1 : Int32).toInt = -1 := rfl
            have j_41 := (NJ_f (fun a i z => W_n W14 (by /-r77,2-/ omega) rfl) q1)
            have t_42 : (M15.2.1 77 29).toInt = (M.2.1 77 29).toInt := congrArg Int32.toInt c_18
            exact h (-1 : Int32) M15 hG16 F17 j_41 (by omega) (by omega) (NWr_n (fun a i z => (W_n W14 (by /-r77,2-/ omega) rfl)) (by omega))
          · refine to_c (pc := 12) rw_178_12 (x := (1 : Int32)) rfl rfl (to_go (pc := 13) rw_178_13 (s_r1 (pc := 17) rw_178_17 (A := 1) rfl (by decide) (b_ieq_f (pc := 5) rw_179_5 (A := 1) rfl (by decide) (to_an (pc := 8) rw_179_8 rfl (s_gR (pc := 9) rw_179_9 hG16 rfl (v := 81) rfl (to_in (pc := 12) rw_179_12 rfl (s_ial (pc := 13) rw_179_13 hG16 rfl (n := 16) rfl rfl (A := f.toInt) rfl (by omega) (by omega) (lo := 0) (hi := 3) rfl rfl (fun v43 w_44 _ _ => ?_))))))))
            have j_45 := (PLk_f (fun a i z => W_n W14 (tg_91 a i z) rfl) q3)
            have z_46 := PLk_r j_45 2 81 rfl (by decide) (by decide) (k := f.toInt) (by omega) (by omega) w_44
            have t_47 := congrArg Int32.toInt w_44
            have j_49 := (FA_f (fun a i z => W_n W14 (tg_94 a i z) rfl) q2)
            have j_48 := FA_u j_49 (f.toInt).toNat
            refine to_c (pc := 14) rw_179_14 (x := (3 : Int32)) rfl rfl (b_ceq (pc := 15) rw_179_15 (A := v43.toInt) (B := 3) rfl rfl (fun h50 => ?_) (fun h50 => ?_))
            · refine to_c (pc := 22) rw_179_22 (x := (0 : Int32)) rfl rfl (s_r1 (pc := 23) rw_179_23 (A := 0) rfl (by decide) (b_ieq_t (pc := 5) rw_184_5 (A := 0) rfl (by decide) (to_c (pc := 26) rw_184_26 (x := (0 : Int32)) rfl rfl (s_r1 (pc := 27) rw_184_27 (A := 0) rfl (by decide) (b_ine_f (pc := 29) rw_194_29 (A := 0) rfl (by decide) (to_c (pc := 32) rw_194_32 (x := (-1 : Int32)) rfl rfl (to_go (pc := 33) rw_194_33 (to_r0 (pc := 44) rw_194_44 ?_))))))))
              have k_51 : (-1 : Int32).toInt = -1 := rfl
              have j_52 := (NJ_f (fun a i z => W_n W14 (by /-r77,2-/ omega) rfl) q1)
              have t_53 : (M15.2.1 77 29).toInt = (M.2.1 77 29).toInt := congrArg Int32.toInt c_18
              exact h (-1 : Int32) M15 hG16 F17 j_52 (by omega) (by omega) (NWr_n (fun a i z => (W_n W14 (by /-r77,2-/ omega) rfl)) (by omega))
            · refine to_c (pc := 18) rw_179_18 (x := (1 : Int32)) rfl rfl (to_go (pc := 19) rw_179_19 (s_r1 (pc := 23) rw_179_23 (A := 1) rfl (by decide) (b_ieq_f (pc := 5) rw_184_5 (A := 1) rfl (by decide) (to_in (pc := 8) rw_184_8 rfl (b_ilt (pc := 9) rw_184_9 (A := v.toInt) rfl (fun h54 => ?_) (fun h54 => ?_))))))
              · refine to_c (pc := 26) rw_184_26 (x := (0 : Int32)) rfl rfl (s_r1 (pc := 27) rw_184_27 (A := 0) rfl (by decide) (b_ine_f (pc := 29) rw_194_29 (A := 0) rfl (by decide) (to_c (pc := 32) rw_194_32 (x := (-1 : Int32)) rfl rfl (to_go (pc := 33) rw_194_33 (to_r0 (pc := 44) rw_194_44 ?_)))))
                have k_55 : (-1 : Int32).toInt = -1 := rfl
                have j_56 := (NJ_f (fun a i z => W_n W14 (by /-r77,2-/ omega) rfl) q1)
                have t_57 : (M15.2.1 77 29).toInt = (M.2.1 77 29).toInt := congrArg Int32.toInt c_18
                exact h (-1 : Int32) M15 hG16 F17 j_56 (by omega) (by omega) (NWr_n (fun a i z => (W_n W14 (by /-r77,2-/ omega) rfl)) (by omega))
              · refine to_in (pc := 12) rw_184_12 rfl (to_an (pc := 13) rw_184_13 rfl (s_gR (pc := 14) rw_184_14 hG16 rfl (v := 84) rfl (to_in (pc := 17) rw_184_17 rfl (s_ial (pc := 18) rw_184_18 hG16 rfl (n := 16) rfl rfl (A := f.toInt) rfl (by omega) (by omega) (lo := 0) (hi := 24) rfl rfl (fun v58 w_59 _ _ => ?_)))))
                have z_60 := PLk_r j_45 5 84 rfl (by decide) (by decide) (k := f.toInt) (by omega) (by omega) w_59
                have t_61 := congrArg Int32.toInt w_59
                refine b_cge (pc := 19) rw_184_19 (A := v.toInt) (B := v58.toInt) rfl rfl (fun h62 => ?_) (fun h62 => ?_)
                · refine to_c (pc := 26) rw_184_26 (x := (0 : Int32)) rfl rfl (s_r1 (pc := 27) rw_184_27 (A := 0) rfl (by decide) (b_ine_f (pc := 29) rw_194_29 (A := 0) rfl (by decide) (to_c (pc := 32) rw_194_32 (x := (-1 : Int32)) rfl rfl (to_go (pc := 33) rw_194_33 (to_r0 (pc := 44) rw_194_44 ?_)))))
                  have k_63 : (-1 : Int32).toInt = -1 := rfl
                  have j_64 := (NJ_f (fun a i z => W_n W14 (by /-r77,2-/ omega) rfl) q1)
                  have t_65 : (M15.2.1 77 29).toInt = (M.2.1 77 29).toInt := congrArg Int32.toInt c_18
                  exact h (-1 : Int32) M15 hG16 F17 j_64 (by omega) (by omega) (NWr_n (fun a i z => (W_n W14 (by /-r77,2-/ omega) rfl)) (by omega))
                · refine to_c (pc := 22) rw_184_22 (x := (1 : Int32)) rfl rfl (to_go (pc := 23) rw_184_23 (s_r1 (pc := 27) rw_184_27 (A := 1) rfl (by decide) (b_ine_t (pc := 29) rw_194_29 (A := 1) rfl (by decide) (to_an (pc := 36) rw_194_36 rfl (to_c (pc := 37) rw_194_37 (x := (0 : Int32)) rfl rfl (to_in (pc := 38) rw_194_38 rfl (to_in (pc := 39) rw_194_39 rfl (to_in (pc := 40) rw_194_40 rfl (s_v (pc := 41) rw_194_41 (dp0 hd (by decide)) (ls0 := [.ref 77, .int (0 : Int32), .int c, .int f, .int v]) rfl (Nat.le_of_ble_eq_true rfl) (Nat.le_of_ble_eq_true rfl) rfl (to_rc rfl rfl rfl (g_o hG16 rfl)) rfl ?_)))))))))
                  have k_66 : (0 : Int32).toInt = 0 := rfl
                  have t_67 : (M15.2.1 77 29).toInt = (M.2.1 77 29).toInt := congrArg Int32.toInt c_18
                  have j_68 := (NJ_f (fun a i z => W_n W14 (by /-r77,2-/ omega) rfl) q1)
                  refine E_191 hX (dp1 hd (by decide)) hG16 (by omega) (by omega) (by omega) (by omega) (by omega) (by omega) (by omega) (by omega) (by omega) (by omega) j_68 (w := (0 : Int32)) (o := c) (m := f) (v := v) (fun r69 M76 hG71 F70 p_72 p_73 p_74 p_75 => ?_)
                  have F77 := FR.c F17 F70 tg_105
                  have b_78 := g_b hG71 (a := 77) (i := 29) (lo := 0) (hi := 150) rfl rfl
                  refine to_r0 (pc := 44) rw_194_44 ?_
                  exact h r69 M76 hG71 F77 p_74 (by omega) (by omega) (NWr_o (fun a i z => (W_n W14 (by /-r77,2-/ omega) rfl)) p_75)
set_option maxRecDepth 4000 in
set_option maxHeartbeats 0 in
theorem E_195 {X : mm_X} {d : Nat} {M : mm_M} {Q : Option Value → mm_M → Prop} {c : Int32} {w : Int32} {sg : x_S} (hX : g_X X) (hd : 1 ≤ d) (hG : g_G M) (q1 : NJ M) (q2 : PLk M sg) (h : ∀ (r : Int32) (M1 : mm_M), g_G M1 → FR md_t2 M M1 → NJ M1 → ((0 ≤ c.toInt ∧ c.toInt < (M.2.1 77 28).toInt ∧ 0 ≤ w.toInt ∧ w.toInt < sg.2.2.1) ∧ (M.2.1 77 29).toInt < 150 → r.toInt = (M.2.1 77 29).toInt ∧ (M1.2.1 77 29).toInt = (M.2.1 77 29).toInt + 1) → (¬ ((0 ≤ c.toInt ∧ c.toInt < (M.2.1 77 28).toInt ∧ 0 ≤ w.toInt ∧ w.toInt < sg.2.2.1) ∧ (M.2.1 77 29).toInt < 150) → r.toInt = -1 ∧ (M1.2.1 77 29).toInt = (M.2.1 77 29).toInt) → (NWr M M1 r.toInt (1 : Int32) c w (0 : Int32)) → Q (some (.int r)) M1) : mm_T X d 194 0 [.ref 77, .int c, .int w] [] M Q := by
  have F0 : FR md_t2 M M := FR.rf
  have z_1 := q2.2.1
  have z_2 := q2.2.2.1
  have z_3 := q2.2.2.2.1
  have z_4 := q2.1
  have z_5 := z_4.1
  have z_6 := z_4.2.1
  have z_7 := z_4.2.2.1
  have z_8 := z_4.2.2.2.1
  have z_9 := z_4.2.2.2.2.1
  have z_10 := z_4.2.2.2.2.2.1
  have b_11 := g_b hG (a := 77) (i := 11) (lo := 10) (hi := 60) rfl rfl
  have b_12 := g_b hG (a := 77) (i := 12) (lo := 0) (hi := 8) rfl rfl
  have b_13 := g_b hG (a := 77) (i := 13) (lo := 0) (hi := 12) rfl rfl
  refine to_an (pc := 0) rw_195_0 rfl (to_c (pc := 1) rw_195_1 (x := (0 : Int32)) rfl rfl (s_pI (pc := 2) rw_195_2 hG rfl (fun M15 W14 => ?_)))
  have hG16 := g_wf hG W14 rfl rfl (by decide)
  have F17 := FR.w F0 W14 (show 77 = 77 ∧ (2 = 2 ∨ 2 = 29) ∨ 90 ≤ 77 ∧ 77 ≤ 93 by decide)
  refine to_an (pc := 5) rw_195_5 rfl ?_
  have c_18 : M15.2.1 77 29 = (M.2.1 77 29) := (W_n W14 (by decide) rfl)
  have b_19 := g_b hG (a := 77) (i := 29) (lo := 0) (hi := 150) rfl rfl
  refine tt_gI (pc := 6) rw_195_6 (g_o hG16 rfl) (v := (M.2.1 77 29)) c_18 (to_c (pc := 9) rw_195_9 (x := (150 : Int32)) rfl rfl (b_ceq (pc := 12) rw_195_12 (A := (M.2.1 77 29).toInt) (B := 150) rfl rfl (fun h20 => ?_) (fun h20 => ?_)))
  · refine to_c (pc := 31) rw_195_31 (x := (-1 : Int32)) rfl rfl (to_go (pc := 32) rw_195_32 (to_r0 (pc := 43) rw_195_43 ?_))
    have k_21 : (-1 : Int32).toInt = -1 := rfl
    have j_22 := (NJ_f (fun a i z => W_n W14 (by /-r77,2-/ omega) rfl) q1)
    have t_23 : (M15.2.1 77 29).toInt = (M.2.1 77 29).toInt := congrArg Int32.toInt c_18
    exact h (-1 : Int32) M15 hG16 F17 j_22 (by omega) (by omega) (NWr_n (fun a i z => (W_n W14 (by /-r77,2-/ omega) rfl)) (by omega))
  · refine to_an (pc := 15) rw_195_15 rfl (to_in (pc := 16) rw_195_16 rfl (s_v (pc := 17) rw_195_17 (dp0 hd (by decide)) (ls0 := [.ref 77, .int c]) rfl (Nat.le_of_ble_eq_true rfl) (Nat.le_of_ble_eq_true rfl) rfl (to_rc rfl rfl rfl (g_o hG16 rfl)) rfl (to_in (pc := 0) rw_187_0 rfl (b_ilt (pc := 1) rw_187_1 (A := c.toInt) rfl (fun h24 => ?_) (fun h24 => ?_)))))
    · refine to_c (pc := 16) rw_187_16 (x := (0 : Int32)) rfl rfl (s_r1 (pc := 17) rw_187_17 (A := 0) rfl (by decide) (b_ieq_t (pc := 20) rw_195_20 (A := 0) rfl (by decide) (to_c (pc := 31) rw_195_31 (x := (-1 : Int32)) rfl rfl (to_go (pc := 32) rw_195_32 (to_r0 (pc := 43) rw_195_43 ?_)))))
      have k_25 : (-1 : Int32).toInt = -1 := rfl
      have j_26 := (NJ_f (fun a i z => W_n W14 (by /-r77,2-/ omega) rfl) q1)
      have t_27 : (M15.2.1 77 29).toInt = (M.2.1 77 29).toInt := congrArg Int32.toInt c_18
      exact h (-1 : Int32) M15 hG16 F17 j_26 (by omega) (by omega) (NWr_n (fun a i z => (W_n W14 (by /-r77,2-/ omega) rfl)) (by omega))
    · refine to_in (pc := 4) rw_187_4 rfl (to_an (pc := 5) rw_187_5 rfl ?_)
      have c_28 : M15.2.1 77 28 = (M.2.1 77 28) := (W_n W14 (by decide) rfl)
      have b_29 := g_b hG (a := 77) (i := 28) (lo := 0) (hi := 30) rfl rfl
      refine tt_gI (pc := 6) rw_187_6 (g_o hG16 rfl) (v := (M.2.1 77 28)) c_28 (b_cge (pc := 9) rw_187_9 (A := c.toInt) (B := (M.2.1 77 28).toInt) rfl rfl (fun h30 => ?_) (fun h30 => ?_))
      · refine to_c (pc := 16) rw_187_16 (x := (0 : Int32)) rfl rfl (s_r1 (pc := 17) rw_187_17 (A := 0) rfl (by decide) (b_ieq_t (pc := 20) rw_195_20 (A := 0) rfl (by decide) (to_c (pc := 31) rw_195_31 (x := (-1 : Int32)) rfl rfl (to_go (pc := 32) rw_195_32 (to_r0 (pc := 43) rw_195_43 ?_)))))
        have k_31 : (-1 : Int32).toInt = -1 := rfl
        have j_32 := (NJ_f (fun a i z => W_n W14 (by /-r77,2-/ omega) rfl) q1)
        have t_33 : (M15.2.1 77 29).toInt = (M.2.1 77 29).toInt := congrArg Int32.toInt c_18
        exact h (-1 : Int32) M15 hG16 F17 j_32 (by omega) (by omega) (NWr_n (fun a i z => (W_n W14 (by /-r77,2-/ omega) rfl)) (by omega))
      · refine to_c (pc := 12) rw_187_12 (x := (1 : Int32)) rfl rfl (to_go (pc := 13) rw_187_13 (s_r1 (pc := 17) rw_187_17 (A := 1) rfl (by decide) (b_ieq_f (pc := 20) rw_195_20 (A := 1) rfl (by decide) (to_an (pc := 23) rw_195_23 rfl (to_in (pc := 24) rw_195_24 rfl (s_v (pc := 25) rw_195_25 (dp0 hd (by decide)) (ls0 := [.ref 77, .int w]) rfl (Nat.le_of_ble_eq_true rfl) (Nat.le_of_ble_eq_true rfl) rfl (to_rc rfl rfl rfl (g_o hG16 rfl)) rfl (to_in (pc := 0) rw_180_0 rfl (b_ilt (pc := 1) rw_180_1 (A := w.toInt) rfl (fun h34 => ?_) (fun h34 => ?_)))))))))
        · refine to_c (pc := 16) rw_180_16 (x := (0 : Int32)) rfl rfl (s_r1 (pc := 17) rw_180_17 (A := 0) rfl (by decide) (b_ine_f (pc := 28) rw_195_28 (A := 0) rfl (by decide) (to_c (pc := 31) rw_195_31 (x := (-1 : Int32)) rfl rfl (to_go (pc := 32) rw_195_32 (to_r0 (pc := 43) rw_195_43 ?_)))))
          have k_35 : (-1 : Int32).toInt = -1 := rfl
          have j_36 := (NJ_f (fun a i z => W_n W14 (by /-r77,2-/ omega) rfl) q1)
          have t_37 : (M15.2.1 77 29).toInt = (M.2.1 77 29).toInt := congrArg Int32.toInt c_18
          exact h (-1 : Int32) M15 hG16 F17 j_36 (by omega) (by omega) (NWr_n (fun a i z => (W_n W14 (by /-r77,2-/ omega) rfl)) (by omega))
        · refine to_in (pc := 4) rw_180_4 rfl (to_an (pc := 5) rw_180_5 rfl ?_)
          have c_38 : M15.2.1 77 13 = (M.2.1 77 13) := (W_n W14 (by decide) rfl)
          refine tt_gI (pc := 6) rw_180_6 (g_o hG16 rfl) (v := (M.2.1 77 13)) c_38 (b_cge (pc := 9) rw_180_9 (A := w.toInt) (B := (M.2.1 77 13).toInt) rfl rfl (fun h39 => ?_) (fun h39 => ?_))
          · refine to_c (pc := 16) rw_180_16 (x := (0 : Int32)) rfl rfl (s_r1 (pc := 17) rw_180_17 (A := 0) rfl (by decide) (b_ine_f (pc := 28) rw_195_28 (A := 0) rfl (by decide) (to_c (pc := 31) rw_195_31 (x := (-1 : Int32)) rfl rfl (to_go (pc := 32) rw_195_32 (to_r0 (pc := 43) rw_195_43 ?_)))))
            have k_40 : (-1 : Int32).toInt = -1 := rfl
            have j_41 := (NJ_f (fun a i z => W_n W14 (by /-r77,2-/ omega) rfl) q1)
            have t_42 : (M15.2.1 77 29).toInt = (M.2.1 77 29).toInt := congrArg Int32.toInt c_18
            exact h (-1 : Int32) M15 hG16 F17 j_41 (by omega) (by omega) (NWr_n (fun a i z => (W_n W14 (by /-r77,2-/ omega) rfl)) (by omega))
          · refine to_c (pc := 12) rw_180_12 (x := (1 : Int32)) rfl rfl (to_go (pc := 13) rw_180_13 (s_r1 (pc := 17) rw_180_17 (A := 1) rfl (by decide) (b_ine_t (pc := 28) rw_195_28 (A := 1) rfl (by decide) (to_an (pc := 35) rw_195_35 rfl (to_c (pc := 36) rw_195_36 (x := (1 : Int32)) rfl rfl (to_in (pc := 37) rw_195_37 rfl (to_in (pc := 38) rw_195_38 rfl (to_c (pc := 39) rw_195_39 (x := (0 : Int32)) rfl rfl (s_v (pc := 40) rw_195_40 (dp0 hd (by decide)) (ls0 := [.ref 77, .int (1 : Int32), .int c, .int w, .int (0 : Int32)]) rfl (Nat.le_of_ble_eq_true rfl) (Nat.le_of_ble_eq_true rfl) rfl (to_rc rfl rfl rfl (g_o hG16 rfl)) rfl ?_)))))))))
            have k_43 : (1 : Int32).toInt = 1 := rfl
            have k_44 : (0 : Int32).toInt = 0 := rfl
            have t_45 : (M15.2.1 77 29).toInt = (M.2.1 77 29).toInt := congrArg Int32.toInt c_18
            have j_46 := (NJ_f (fun a i z => W_n W14 (by /-r77,2-/ omega) rfl) q1)
            refine E_191 hX (dp1 hd (by decide)) hG16 (by omega) (by omega) (by omega) (by omega) (by omega) (by omega) (by omega) (by omega) (by omega) (by omega) j_46 (w := (1 : Int32)) (o := c) (m := w) (v := (0 : Int32)) (fun r47 M54 hG49 F48 p_50 p_51 p_52 p_53 => ?_)
            have F55 := FR.c F17 F48 tg_105
            have b_56 := g_b hG49 (a := 77) (i := 29) (lo := 0) (hi := 150) rfl rfl
            refine to_r0 (pc := 43) rw_195_43 ?_
            exact h r47 M54 hG49 F55 p_52 (by omega) (by omega) (NWr_o (fun a i z => (W_n W14 (by /-r77,2-/ omega) rfl)) p_53)
set_option maxRecDepth 4000 in
set_option maxHeartbeats 0 in
theorem E_196 {X : mm_X} {d : Nat} {M : mm_M} {Q : Option Value → mm_M → Prop} {c : Int32} {e : Int32} {m : Int32} {sg : x_S} (hX : g_X X) (hd : 1 ≤ d) (hG : g_G M) (q1 : 0 ≤ m.toInt) (q2 : m.toInt ≤ 1) (q3 : NJ M) (q4 : PLk M sg) (h : ∀ (r : Int32) (M1 : mm_M), g_G M1 → FR md_t2 M M1 → NJ M1 → ((0 ≤ c.toInt ∧ c.toInt < (M.2.1 77 28).toInt ∧ 0 ≤ e.toInt ∧ e.toInt < sg.1) ∧ (M.2.1 77 29).toInt < 150 → r.toInt = (M.2.1 77 29).toInt ∧ (M1.2.1 77 29).toInt = (M.2.1 77 29).toInt + 1) → (¬ ((0 ≤ c.toInt ∧ c.toInt < (M.2.1 77 28).toInt ∧ 0 ≤ e.toInt ∧ e.toInt < sg.1) ∧ (M.2.1 77 29).toInt < 150) → r.toInt = -1 ∧ (M1.2.1 77 29).toInt = (M.2.1 77 29).toInt) → (NWr M M1 r.toInt (x_tk m) c e (0 : Int32)) → Q (some (.int r)) M1) : mm_T X d 195 0 [.ref 77, .int c, .int e, .int m] [] M Q := by
  have F0 : FR md_t2 M M := FR.rf
  have z_1 := q4.2.1
  have z_2 := q4.2.2.1
  have z_3 := q4.2.2.2.1
  have z_4 := q4.1
  have z_5 := z_4.1
  have z_6 := z_4.2.1
  have z_7 := z_4.2.2.1
  have z_8 := z_4.2.2.2.1
  have z_9 := z_4.2.2.2.2.1
  have z_10 := z_4.2.2.2.2.2.1
  have b_11 := g_b hG (a := 77) (i := 11) (lo := 10) (hi := 60) rfl rfl
  have b_12 := g_b hG (a := 77) (i := 12) (lo := 0) (hi := 8) rfl rfl
  have b_13 := g_b hG (a := 77) (i := 13) (lo := 0) (hi := 12) rfl rfl
  refine to_an (pc := 0) rw_196_0 rfl (to_c (pc := 1) rw_196_1 (x := (0 : Int32)) rfl rfl (s_pI (pc := 2) rw_196_2 hG rfl (fun M15 W14 => ?_)))
  have hG16 := g_wf hG W14 rfl rfl (by decide)
  have F17 := FR.w F0 W14 (show 77 = 77 ∧ (2 = 2 ∨ 2 = 29) ∨ 90 ≤ 77 ∧ 77 ≤ 93 by decide)
  refine to_an (pc := 5) rw_196_5 rfl ?_
  have c_18 : M15.2.1 77 29 = (M.2.1 77 29) := (W_n W14 (by decide) rfl)
  have b_19 := g_b hG (a := 77) (i := 29) (lo := 0) (hi := 150) rfl rfl
  refine tt_gI (pc := 6) rw_196_6 (g_o hG16 rfl) (v := (M.2.1 77 29)) c_18 (to_c (pc := 9) rw_196_9 (x := (150 : Int32)) rfl rfl (b_ceq (pc := 12) rw_196_12 (A := (M.2.1 77 29).toInt) (B := 150) rfl rfl (fun h20 => ?_) (fun h20 => ?_)))
  · refine to_c (pc := 35) rw_196_35 (x := (-1 : Int32)) rfl rfl (to_go (pc := 36) rw_196_36 (to_r0 (pc := 55) rw_196_55 ?_))
    have k_21 : (-1 : Int32).toInt = -1 := rfl
    have j_22 := (NJ_f (fun a i z => W_n W14 (by /-r77,2-/ omega) rfl) q3)
    have t_23 : (M15.2.1 77 29).toInt = (M.2.1 77 29).toInt := congrArg Int32.toInt c_18
    exact h (-1 : Int32) M15 hG16 F17 j_22 (by omega) (by omega) (NWr_n (fun a i z => (W_n W14 (by /-r77,2-/ omega) rfl)) (by omega))
  · refine to_an (pc := 15) rw_196_15 rfl (to_in (pc := 16) rw_196_16 rfl (s_v (pc := 17) rw_196_17 (dp0 hd (by decide)) (ls0 := [.ref 77, .int c]) rfl (Nat.le_of_ble_eq_true rfl) (Nat.le_of_ble_eq_true rfl) rfl (to_rc rfl rfl rfl (g_o hG16 rfl)) rfl (to_in (pc := 0) rw_187_0 rfl (b_ilt (pc := 1) rw_187_1 (A := c.toInt) rfl (fun h24 => ?_) (fun h24 => ?_)))))
    · refine to_c (pc := 16) rw_187_16 (x := (0 : Int32)) rfl rfl (s_r1 (pc := 17) rw_187_17 (A := 0) rfl (by decide) (b_ieq_t (pc := 20) rw_196_20 (A := 0) rfl (by decide) (to_c (pc := 35) rw_196_35 (x := (-1 : Int32)) rfl rfl (to_go (pc := 36) rw_196_36 (to_r0 (pc := 55) rw_196_55 ?_)))))
      have k_25 : (-1 : Int32).toInt = -1 := rfl
      have j_26 := (NJ_f (fun a i z => W_n W14 (by /-r77,2-/ omega) rfl) q3)
      have t_27 : (M15.2.1 77 29).toInt = (M.2.1 77 29).toInt := congrArg Int32.toInt c_18
      exact h (-1 : Int32) M15 hG16 F17 j_26 (by omega) (by omega) (NWr_n (fun a i z => (W_n W14 (by /-r77,2-/ omega) rfl)) (by omega))
    · refine to_in (pc := 4) rw_187_4 rfl (to_an (pc := 5) rw_187_5 rfl ?_)
      have c_28 : M15.2.1 77 28 = (M.2.1 77 28) := (W_n W14 (by decide) rfl)
      have b_29 := g_b hG (a := 77) (i := 28) (lo := 0) (hi := 30) rfl rfl
      refine tt_gI (pc := 6) rw_187_6 (g_o hG16 rfl) (v := (M.2.1 77 28)) c_28 (b_cge (pc := 9) rw_187_9 (A := c.toInt) (B := (M.2.1 77 28).toInt) rfl rfl (fun h30 => ?_) (fun h30 => ?_))
      · refine to_c (pc := 16) rw_187_16 (x := (0 : Int32)) rfl rfl (s_r1 (pc := 17) rw_187_17 (A := 0) rfl (by decide) (b_ieq_t (pc := 20) rw_196_20 (A := 0) rfl (by decide) (to_c (pc := 35) rw_196_35 (x := (-1 : Int32)) rfl rfl (to_go (pc := 36) rw_196_36 (to_r0 (pc := 55) rw_196_55 ?_)))))
        have k_31 : (-1 : Int32).toInt = -1 := rfl
        have j_32 := (NJ_f (fun a i z => W_n W14 (by /-r77,2-/ omega) rfl) q3)
        have t_33 : (M15.2.1 77 29).toInt = (M.2.1 77 29).toInt := congrArg Int32.toInt c_18
        exact h (-1 : Int32) M15 hG16 F17 j_32 (by omega) (by omega) (NWr_n (fun a i z => (W_n W14 (by /-r77,2-/ omega) rfl)) (by omega))
      · refine to_c (pc := 12) rw_187_12 (x := (1 : Int32)) rfl rfl (to_go (pc := 13) rw_187_13 (s_r1 (pc := 17) rw_187_17 (A := 1) rfl (by decide) (b_ieq_f (pc := 20) rw_196_20 (A := 1) rfl (by decide) (to_in (pc := 23) rw_196_23 rfl (b_ilt (pc := 24) rw_196_24 (A := e.toInt) rfl (fun h34 => ?_) (fun h34 => ?_))))))
        · refine to_c (pc := 35) rw_196_35 (x := (-1 : Int32)) rfl rfl (to_go (pc := 36) rw_196_36 (to_r0 (pc := 55) rw_196_55 ?_))
          have k_35 : (-1 : Int32).toInt = -1 := rfl
          have j_36 := (NJ_f (fun a i z => W_n W14 (by /-r77,2-/ omega) rfl) q3)
          have t_37 : (M15.2.1 77 29).toInt = (M.2.1 77 29).toInt := congrArg Int32.toInt c_18
          exact h (-1 : Int32) M15 hG16 F17 j_36 (by omega) (by omega) (NWr_n (fun a i z => (W_n W14 (by /-r77,2-/ omega) rfl)) (by omega))
        · refine to_in (pc := 27) rw_196_27 rfl (to_an (pc := 28) rw_196_28 rfl ?_)
          have c_38 : M15.2.1 77 11 = (M.2.1 77 11) := (W_n W14 (by decide) rfl)
          refine tt_gI (pc := 29) rw_196_29 (g_o hG16 rfl) (v := (M.2.1 77 11)) c_38 (b_clt (pc := 32) rw_196_32 (A := e.toInt) (B := (M.2.1 77 11).toInt) rfl rfl (fun h39 => ?_) (fun h39 => ?_))
          · refine to_an (pc := 39) rw_196_39 rfl (to_in (pc := 40) rw_196_40 rfl (b_ieq (pc := 41) rw_196_41 (A := m.toInt) rfl (fun h40 => ?_) (fun h40 => ?_)))
            · refine to_c (pc := 48) rw_196_48 (x := (2 : Int32)) rfl rfl (to_in (pc := 49) rw_196_49 rfl (to_in (pc := 50) rw_196_50 rfl (to_c (pc := 51) rw_196_51 (x := (0 : Int32)) rfl rfl (s_v (pc := 52) rw_196_52 (dp0 hd (by decide)) (ls0 := [.ref 77, .int (2 : Int32), .int c, .int e, .int (0 : Int32)]) rfl (Nat.le_of_ble_eq_true rfl) (Nat.le_of_ble_eq_true rfl) rfl (to_rc rfl rfl rfl (g_o hG16 rfl)) rfl ?_))))
              have k_41 : (2 : Int32).toInt = 2 := rfl
              have k_42 : (0 : Int32).toInt = 0 := rfl
              have t_43 : (M15.2.1 77 29).toInt = (M.2.1 77 29).toInt := congrArg Int32.toInt c_18
              have j_44 := (NJ_f (fun a i z => W_n W14 (by /-r77,2-/ omega) rfl) q3)
              refine E_191 hX (dp1 hd (by decide)) hG16 (by omega) (by omega) (by omega) (by omega) (by omega) (by omega) (by omega) (by omega) (by omega) (by omega) j_44 (w := (2 : Int32)) (o := c) (m := e) (v := (0 : Int32)) (fun r45 M52 hG47 F46 p_48 p_49 p_50 p_51 => ?_)
              have F53 := FR.c F17 F46 tg_105
              have b_54 := g_b hG47 (a := 77) (i := 29) (lo := 0) (hi := 150) rfl rfl
              refine to_r0 (pc := 55) rw_196_55 ?_
              exact h r45 M52 hG47 F53 p_50 (by omega) (by omega) (NWr_o (fun a i z => (W_n W14 (by /-r77,2-/ omega) rfl)) (by rw [x_tk_0 (by omega)]; exact p_51))
            · refine to_c (pc := 44) rw_196_44 (x := (3 : Int32)) rfl rfl (to_go (pc := 45) rw_196_45 (to_in (pc := 49) rw_196_49 rfl (to_in (pc := 50) rw_196_50 rfl (to_c (pc := 51) rw_196_51 (x := (0 : Int32)) rfl rfl (s_v (pc := 52) rw_196_52 (dp0 hd (by decide)) (ls0 := [.ref 77, .int (3 : Int32), .int c, .int e, .int (0 : Int32)]) rfl (Nat.le_of_ble_eq_true rfl) (Nat.le_of_ble_eq_true rfl) rfl (to_rc rfl rfl rfl (g_o hG16 rfl)) rfl ?_)))))
              have k_55 : (3 : Int32).toInt = 3 := rfl
              have k_56 : (0 : Int32).toInt = 0 := rfl
              have t_57 : (M15.2.1 77 29).toInt = (M.2.1 77 29).toInt := congrArg Int32.toInt c_18
              have j_58 := (NJ_f (fun a i z => W_n W14 (by /-r77,2-/ omega) rfl) q3)
              refine E_191 hX (dp1 hd (by decide)) hG16 (by omega) (by omega) (by omega) (by omega) (by omega) (by omega) (by omega) (by omega) (by omega) (by omega) j_58 (w := (3 : Int32)) (o := c) (m := e) (v := (0 : Int32)) (fun r59 M66 hG61 F60 p_62 p_63 p_64 p_65 => ?_)
              have F67 := FR.c F17 F60 tg_105
              have b_68 := g_b hG61 (a := 77) (i := 29) (lo := 0) (hi := 150) rfl rfl
              refine to_r0 (pc := 55) rw_196_55 ?_
              exact h r59 M66 hG61 F67 p_64 (by omega) (by omega) (NWr_o (fun a i z => (W_n W14 (by /-r77,2-/ omega) rfl)) (by rw [x_tk_1 (by omega)]; exact p_65))
          · refine to_c (pc := 35) rw_196_35 (x := (-1 : Int32)) rfl rfl (to_go (pc := 36) rw_196_36 (to_r0 (pc := 55) rw_196_55 ?_))
            have k_69 : (-1 : Int32).toInt = -1 := rfl
            have j_70 := (NJ_f (fun a i z => W_n W14 (by /-r77,2-/ omega) rfl) q3)
            have t_71 : (M15.2.1 77 29).toInt = (M.2.1 77 29).toInt := congrArg Int32.toInt c_18
            exact h (-1 : Int32) M15 hG16 F17 j_70 (by omega) (by omega) (NWr_n (fun a i z => (W_n W14 (by /-r77,2-/ omega) rfl)) (by omega))
set_option maxRecDepth 4000 in
set_option maxHeartbeats 0 in
theorem E_198 {X : mm_X} {d : Nat} {M : mm_M} {Q : Option Value → mm_M → Prop} {w : Int32} {b : Int32} {sg : x_S} (hX : g_X X) (hd : 3 ≤ d) (hG : g_G M) (q1 : NJ M) (q2 : PLk M sg) (h : ∀ (r : Int32) (M1 : mm_M), g_G M1 → FR md_t2 M M1 → NJ M1 → ((0 ≤ w.toInt ∧ w.toInt < sg.2.2.1 ∧ 0 ≤ b.toInt ∧ x_shz b.toInt (x_row sg 4 (x_row sg 7 w.toInt) - x_row sg 3 (x_row sg 7 w.toInt) + 1) = 0 ∧ ((x_ct (b.toInt).toNat 62 : Nat) : Int) = x_row sg 5 (x_row sg 7 w.toInt)) ∧ (M.2.1 77 29).toInt < 150 → r.toInt = (M.2.1 77 29).toInt ∧ (M1.2.1 77 29).toInt = (M.2.1 77 29).toInt + 1) → (¬ ((0 ≤ w.toInt ∧ w.toInt < sg.2.2.1 ∧ 0 ≤ b.toInt ∧ x_shz b.toInt (x_row sg 4 (x_row sg 7 w.toInt) - x_row sg 3 (x_row sg 7 w.toInt) + 1) = 0 ∧ ((x_ct (b.toInt).toNat 62 : Nat) : Int) = x_row sg 5 (x_row sg 7 w.toInt)) ∧ (M.2.1 77 29).toInt < 150) → r.toInt = -1 ∧ (M1.2.1 77 29).toInt = (M.2.1 77 29).toInt) → (NWr M M1 r.toInt (4 : Int32) w b (0 : Int32)) → Q (some (.int r)) M1) : mm_T X d 197 0 [.ref 77, .int w, .int b] [] M Q := by
  have F0 : FR md_t2 M M := FR.rf
  have z_1 := q2.2.1
  have z_2 := q2.2.2.1
  have z_3 := q2.2.2.2.1
  have z_4 := q2.1
  have z_5 := z_4.1
  have z_6 := z_4.2.1
  have z_7 := z_4.2.2.1
  have z_8 := z_4.2.2.2.1
  have z_9 := z_4.2.2.2.2.1
  have z_10 := z_4.2.2.2.2.2.1
  have b_11 := g_b hG (a := 77) (i := 11) (lo := 10) (hi := 60) rfl rfl
  have b_12 := g_b hG (a := 77) (i := 12) (lo := 0) (hi := 8) rfl rfl
  have b_13 := g_b hG (a := 77) (i := 13) (lo := 0) (hi := 12) rfl rfl
  refine to_an (pc := 0) rw_198_0 rfl (to_c (pc := 1) rw_198_1 (x := (0 : Int32)) rfl rfl (s_pI (pc := 2) rw_198_2 hG rfl (fun M15 W14 => ?_)))
  have hG16 := g_wf hG W14 rfl rfl (by decide)
  have F17 := FR.w F0 W14 (show 77 = 77 ∧ (2 = 2 ∨ 2 = 29) ∨ 90 ≤ 77 ∧ 77 ≤ 93 by decide)
  refine to_an (pc := 5) rw_198_5 rfl ?_
  have c_18 : M15.2.1 77 29 = (M.2.1 77 29) := (W_n W14 (by decide) rfl)
  have b_19 := g_b hG (a := 77) (i := 29) (lo := 0) (hi := 150) rfl rfl
  refine tt_gI (pc := 6) rw_198_6 (g_o hG16 rfl) (v := (M.2.1 77 29)) c_18 (to_c (pc := 9) rw_198_9 (x := (150 : Int32)) rfl rfl (b_ceq (pc := 12) rw_198_12 (A := (M.2.1 77 29).toInt) (B := 150) rfl rfl (fun h20 => ?_) (fun h20 => ?_)))
  · refine to_c (pc := 61) rw_198_61 (x := (-1 : Int32)) rfl rfl (to_r0 (pc := 62) rw_198_62 ?_)
    have k_21 : (-1 : Int32).toInt = -1 := rfl
    have j_22 := (NJ_f (fun a i z => W_n W14 (by /-r77,2-/ omega) rfl) q1)
    have t_23 : (M15.2.1 77 29).toInt = (M.2.1 77 29).toInt := congrArg Int32.toInt c_18
    exact h (-1 : Int32) M15 hG16 F17 j_22 (by omega) (by omega) (NWr_n (fun a i z => (W_n W14 (by /-r77,2-/ omega) rfl)) (by omega))
  · refine to_an (pc := 15) rw_198_15 rfl (to_in (pc := 16) rw_198_16 rfl (s_v (pc := 17) rw_198_17 (dp0 hd (by decide)) (ls0 := [.ref 77, .int w]) rfl (Nat.le_of_ble_eq_true rfl) (Nat.le_of_ble_eq_true rfl) rfl (to_rc rfl rfl rfl (g_o hG16 rfl)) rfl (to_in (pc := 0) rw_180_0 rfl (b_ilt (pc := 1) rw_180_1 (A := w.toInt) rfl (fun h24 => ?_) (fun h24 => ?_)))))
    · refine to_c (pc := 16) rw_180_16 (x := (0 : Int32)) rfl rfl (s_r1 (pc := 17) rw_180_17 (A := 0) rfl (by decide) (b_ieq_t (pc := 20) rw_198_20 (A := 0) rfl (by decide) (to_c (pc := 61) rw_198_61 (x := (-1 : Int32)) rfl rfl (to_r0 (pc := 62) rw_198_62 ?_))))
      have k_25 : (-1 : Int32).toInt = -1 := rfl
      have j_26 := (NJ_f (fun a i z => W_n W14 (by /-r77,2-/ omega) rfl) q1)
      have t_27 : (M15.2.1 77 29).toInt = (M.2.1 77 29).toInt := congrArg Int32.toInt c_18
      exact h (-1 : Int32) M15 hG16 F17 j_26 (by omega) (by omega) (NWr_n (fun a i z => (W_n W14 (by /-r77,2-/ omega) rfl)) (by omega))
    · refine to_in (pc := 4) rw_180_4 rfl (to_an (pc := 5) rw_180_5 rfl ?_)
      have c_28 : M15.2.1 77 13 = (M.2.1 77 13) := (W_n W14 (by decide) rfl)
      refine tt_gI (pc := 6) rw_180_6 (g_o hG16 rfl) (v := (M.2.1 77 13)) c_28 (b_cge (pc := 9) rw_180_9 (A := w.toInt) (B := (M.2.1 77 13).toInt) rfl rfl (fun h29 => ?_) (fun h29 => ?_))
      · refine to_c (pc := 16) rw_180_16 (x := (0 : Int32)) rfl rfl (s_r1 (pc := 17) rw_180_17 (A := 0) rfl (by decide) (b_ieq_t (pc := 20) rw_198_20 (A := 0) rfl (by decide) (to_c (pc := 61) rw_198_61 (x := (-1 : Int32)) rfl rfl (to_r0 (pc := 62) rw_198_62 ?_))))
        have k_30 : (-1 : Int32).toInt = -1 := rfl
        have j_31 := (NJ_f (fun a i z => W_n W14 (by /-r77,2-/ omega) rfl) q1)
        have t_32 : (M15.2.1 77 29).toInt = (M.2.1 77 29).toInt := congrArg Int32.toInt c_18
        exact h (-1 : Int32) M15 hG16 F17 j_31 (by omega) (by omega) (NWr_n (fun a i z => (W_n W14 (by /-r77,2-/ omega) rfl)) (by omega))
      · refine to_c (pc := 12) rw_180_12 (x := (1 : Int32)) rfl rfl (to_go (pc := 13) rw_180_13 (s_r1 (pc := 17) rw_180_17 (A := 1) rfl (by decide) (b_ieq_f (pc := 20) rw_198_20 (A := 1) rfl (by decide) (to_in (pc := 23) rw_198_23 rfl (b_ilt (pc := 24) rw_198_24 (A := b.toInt) rfl (fun h33 => ?_) (fun h33 => ?_))))))
        · refine to_c (pc := 61) rw_198_61 (x := (-1 : Int32)) rfl rfl (to_r0 (pc := 62) rw_198_62 ?_)
          have k_34 : (-1 : Int32).toInt = -1 := rfl
          have j_35 := (NJ_f (fun a i z => W_n W14 (by /-r77,2-/ omega) rfl) q1)
          have t_36 : (M15.2.1 77 29).toInt = (M.2.1 77 29).toInt := congrArg Int32.toInt c_18
          exact h (-1 : Int32) M15 hG16 F17 j_35 (by omega) (by omega) (NWr_n (fun a i z => (W_n W14 (by /-r77,2-/ omega) rfl)) (by omega))
        · refine to_in (pc := 27) rw_198_27 rfl (to_an (pc := 28) rw_198_28 rfl (to_an (pc := 29) rw_198_29 rfl (s_gR (pc := 30) rw_198_30 hG16 rfl (v := 86) rfl (to_in (pc := 33) rw_198_33 rfl (s_ial (pc := 34) rw_198_34 hG16 rfl (n := 24) rfl rfl (A := w.toInt) rfl (by omega) (by omega) (lo := 0) (hi := 7) rfl rfl (fun v37 w_38 _ _ => ?_))))))
          have j_39 := (PLk_f (fun a i z => W_n W14 (tg_91 a i z) rfl) q2)
          have z_40 := PLk_w j_39 7 86 rfl (by decide) (by decide) (k := w.toInt) (by omega) (by omega) w_38
          have z_41 := j_39.1.2.2.2.2.2.2.1 w.toInt (by omega) (by omega)
          refine s_v (pc := 35) rw_198_35 (dp0 hd (by decide)) (ls0 := [.ref 77, .int v37]) rfl (Nat.le_of_ble_eq_true rfl) (Nat.le_of_ble_eq_true rfl) rfl (to_rc rfl rfl rfl (g_o hG16 rfl)) rfl (to_an (pc := 0) rw_197_0 rfl (s_gR (pc := 1) rw_197_1 hG16 rfl (v := 83) rfl (to_in (pc := 4) rw_197_4 rfl (s_ial (pc := 5) rw_197_5 hG16 rfl (n := 16) rfl rfl (A := v37.toInt) rfl (by omega) (by omega) (lo := 0) (hi := 63) rfl rfl (fun v42 w_43 _ _ => ?_)))))
          have z_44 := PLk_r j_39 4 83 rfl (by decide) (by decide) (k := v37.toInt) (by omega) (by omega) w_43
          have z_45 := x_row_v (s := sg) (r := 4) (x := v37.toInt) (y := x_row sg 7 w.toInt) (by omega)
          have z_46 := j_39.1.2.2.2.2.2.2.2 (x_row sg 7 w.toInt) (by omega) (by omega)
          refine to_an (pc := 6) rw_197_6 rfl (s_gR (pc := 7) rw_197_7 hG16 rfl (v := 82) rfl (to_in (pc := 10) rw_197_10 rfl (s_ial (pc := 11) rw_197_11 hG16 rfl (n := 16) rfl rfl (A := v37.toInt) rfl (by omega) (by omega) (lo := 0) (hi := 59) rfl rfl (fun v47 w_48 _ _ => ?_))))
          have z_49 := PLk_r j_39 3 82 rfl (by decide) (by decide) (k := v37.toInt) (by omega) (by omega) w_48
          have z_50 := x_row_v (s := sg) (r := 3) (x := v37.toInt) (y := x_row sg 7 w.toInt) (by omega)
          refine s_sub (pc := 12) rw_197_12 (A := v42.toInt) (B := v47.toInt) rfl rfl (by omega) (fun v51 e52 => to_c (pc := 13) rw_197_13 (x := (1 : Int32)) rfl rfl (s_add (pc := 14) rw_197_14 (A := v51.toInt) (B := 1) rfl rfl (by omega) (fun v53 e54 => to_r0 (pc := 15) rw_197_15 (s_opE (pc := 38) rw_198_38 (w := b >>> v53) rfl (fun v55 e56 => ?_)))))
          have z_57 := x_shz_e (k := (x_row sg 4 (x_row sg 7 w.toInt) - x_row sg 3 (x_row sg 7 w.toInt) + 1)) (by omega) e56
          have z_58 := fun h9 => x_shz_0 (b := b) (k := (x_row sg 4 (x_row sg 7 w.toInt) - x_row sg 3 (x_row sg 7 w.toInt) + 1)) (by omega) (by omega) (by omega) h9
          refine b_ine (pc := 39) rw_198_39 (A := v55.toInt) rfl (fun h59 => ?_) (fun h59 => ?_)
          · refine to_c (pc := 61) rw_198_61 (x := (-1 : Int32)) rfl rfl (to_r0 (pc := 62) rw_198_62 ?_)
            have k_60 : (-1 : Int32).toInt = -1 := rfl
            have j_61 := (NJ_f (fun a i z => W_n W14 (by /-r77,2-/ omega) rfl) q1)
            have t_62 : (M15.2.1 77 29).toInt = (M.2.1 77 29).toInt := congrArg Int32.toInt c_18
            exact h (-1 : Int32) M15 hG16 F17 j_61 (by omega) (by omega) (NWr_n (fun a i z => (W_n W14 (by /-r77,2-/ omega) rfl)) (by omega))
          · refine to_in (pc := 42) rw_198_42 rfl (to_i2l (pc := 43) rw_198_43 (v := (b.toInt64)) rfl (s_s (pc := 44) rw_198_44 (dp0 hd (by decide)) (ls0 := [.long (b.toInt64), .null, .null, .null]) rfl (Nat.le_of_ble_eq_true rfl) (Nat.le_of_ble_eq_true rfl) rfl (to_rcs rfl rfl) rfl (E_151i hX (dp1 hd (by decide)) hG16 rfl (by omega) (x := (b.toInt64)) (b := b) (fun r63 M67 hG65 F64 p_66 => ?_))))
            have F68 := FR.c F17 F64 tg_106
            refine to_an (pc := 47) rw_198_47 rfl (s_gR (pc := 48) rw_198_48 hG65 rfl (v := 84) rfl (to_an (pc := 51) rw_198_51 rfl (s_gR (pc := 52) rw_198_52 hG65 rfl (v := 86) rfl (to_in (pc := 55) rw_198_55 rfl (s_ialk (pc := 56) rw_198_56 hG65 rfl (n := 24) rfl rfl (A := w.toInt) rfl (by omega) (by omega) (v := v37) (F_n F64 (show ¬ (86 < 0) by decide) w_38) (s_ial (pc := 57) rw_198_57 hG65 rfl (n := 16) rfl rfl (A := v37.toInt) rfl (by omega) (by omega) (lo := 0) (hi := 24) rfl rfl (fun v71 w_72 _ _ => ?_)))))))
            have j_73 := (PLk_f (tg_101 F64) j_39)
            have z_74 := PLk_r j_73 5 84 rfl (by decide) (by decide) (k := v37.toInt) (by omega) (by omega) w_72
            have z_75 := x_row_v (s := sg) (r := 5) (x := v37.toInt) (y := x_row sg 7 w.toInt) (by omega)
            refine b_ceq (pc := 58) rw_198_58 (A := r63.toInt) (B := v71.toInt) rfl rfl (fun h76 => ?_) (fun h76 => ?_)
            · refine to_an (pc := 63) rw_198_63 rfl (to_c (pc := 64) rw_198_64 (x := (4 : Int32)) rfl rfl (to_in (pc := 65) rw_198_65 rfl (to_in (pc := 66) rw_198_66 rfl (to_c (pc := 67) rw_198_67 (x := (0 : Int32)) rfl rfl (s_v (pc := 68) rw_198_68 (dp0 hd (by decide)) (ls0 := [.ref 77, .int (4 : Int32), .int w, .int b, .int (0 : Int32)]) rfl (Nat.le_of_ble_eq_true rfl) (Nat.le_of_ble_eq_true rfl) rfl (to_rc rfl rfl rfl (g_o hG65 rfl)) rfl ?_)))))
              have k_77 : (4 : Int32).toInt = 4 := rfl
              have k_78 : (0 : Int32).toInt = 0 := rfl
              have c_79 : M67.2.1 77 29 = (M.2.1 77 29) := (F_n F64 (show ¬ (77 < 0) by decide) c_18)
              have t_80 : (M67.2.1 77 29).toInt = (M.2.1 77 29).toInt := congrArg Int32.toInt c_79
              have j_81 := (NJ_f (tg_102 F64) (NJ_f (fun a i z => W_n W14 (by /-r77,2-/ omega) rfl) q1))
              refine E_191 hX (dp1 hd (by decide)) hG65 (by omega) (by omega) (by omega) (by omega) (by omega) (by omega) (by omega) (by omega) (by omega) (by omega) j_81 (w := (4 : Int32)) (o := w) (m := b) (v := (0 : Int32)) (fun r82 M89 hG84 F83 p_85 p_86 p_87 p_88 => ?_)
              have F90 := FR.c F68 F83 tg_105
              have b_91 := g_b hG84 (a := 77) (i := 29) (lo := 0) (hi := 150) rfl rfl
              refine to_r0 (pc := 71) rw_198_71 ?_
              exact h r82 M89 hG84 F90 p_87 (by omega) (by omega) (NWr_o (fun a i z => (F_n F64 (show ¬ (a < 0) by omega) (W_n W14 (by /-r77,2-/ omega) rfl))) p_88)
            · refine to_c (pc := 61) rw_198_61 (x := (-1 : Int32)) rfl rfl (to_r0 (pc := 62) rw_198_62 ?_)
              have k_92 : (-1 : Int32).toInt = -1 := rfl
              have j_93 := (NJ_f (tg_102 F64) (NJ_f (fun a i z => W_n W14 (by /-r77,2-/ omega) rfl) q1))
              have c_94 : M67.2.1 77 29 = (M.2.1 77 29) := (F_n F64 (show ¬ (77 < 0) by decide) c_18)
              have t_95 : (M67.2.1 77 29).toInt = (M.2.1 77 29).toInt := congrArg Int32.toInt c_94
              exact h (-1 : Int32) M67 hG65 F68 j_93 (by omega) (by omega) (NWr_n (fun a i z => (F_n F64 (show ¬ (a < 0) by omega) (W_n W14 (by /-r77,2-/ omega) rfl))) (by omega))
set_option maxRecDepth 4000 in
set_option maxHeartbeats 0 in
theorem E_199 {X : mm_X} {d : Nat} {M : mm_M} {Q : Option Value → mm_M → Prop} {n : Int32} {sg : x_S} (hX : g_X X) (hd : 1 ≤ d) (hG : g_G M) (q1 : NJ M) (q2 : PLk M sg) (h : ∀ (r : Int32) (M1 : mm_M), g_G M1 → FR md_t2 M M1 → NJ M1 → ((0 ≤ n.toInt ∧ n.toInt < (M.2.1 77 29).toInt) ∧ (M.2.1 77 29).toInt < 150 → r.toInt = (M.2.1 77 29).toInt ∧ (M1.2.1 77 29).toInt = (M.2.1 77 29).toInt + 1) → (¬ ((0 ≤ n.toInt ∧ n.toInt < (M.2.1 77 29).toInt) ∧ (M.2.1 77 29).toInt < 150) → r.toInt = -1 ∧ (M1.2.1 77 29).toInt = (M.2.1 77 29).toInt) → (NWr M M1 r.toInt (5 : Int32) n (0 : Int32) (0 : Int32)) → Q (some (.int r)) M1) : mm_T X d 198 0 [.ref 77, .int n] [] M Q := by
  have F0 : FR md_t2 M M := FR.rf
  have z_1 := q2.2.1
  have z_2 := q2.2.2.1
  have z_3 := q2.2.2.2.1
  have z_4 := q2.1
  have z_5 := z_4.1
  have z_6 := z_4.2.1
  have z_7 := z_4.2.2.1
  have z_8 := z_4.2.2.2.1
  have z_9 := z_4.2.2.2.2.1
  have z_10 := z_4.2.2.2.2.2.1
  have b_11 := g_b hG (a := 77) (i := 11) (lo := 10) (hi := 60) rfl rfl
  have b_12 := g_b hG (a := 77) (i := 12) (lo := 0) (hi := 8) rfl rfl
  have b_13 := g_b hG (a := 77) (i := 13) (lo := 0) (hi := 12) rfl rfl
  refine to_an (pc := 0) rw_199_0 rfl (to_c (pc := 1) rw_199_1 (x := (0 : Int32)) rfl rfl (s_pI (pc := 2) rw_199_2 hG rfl (fun M15 W14 => ?_)))
  have hG16 := g_wf hG W14 rfl rfl (by decide)
  have F17 := FR.w F0 W14 (show 77 = 77 ∧ (2 = 2 ∨ 2 = 29) ∨ 90 ≤ 77 ∧ 77 ≤ 93 by decide)
  refine to_an (pc := 5) rw_199_5 rfl ?_
  have c_18 : M15.2.1 77 29 = (M.2.1 77 29) := (W_n W14 (by decide) rfl)
  have b_19 := g_b hG (a := 77) (i := 29) (lo := 0) (hi := 150) rfl rfl
  refine tt_gI (pc := 6) rw_199_6 (g_o hG16 rfl) (v := (M.2.1 77 29)) c_18 (to_c (pc := 9) rw_199_9 (x := (150 : Int32)) rfl rfl (b_ceq (pc := 12) rw_199_12 (A := (M.2.1 77 29).toInt) (B := 150) rfl rfl (fun h20 => ?_) (fun h20 => ?_)))
  · refine to_c (pc := 27) rw_199_27 (x := (-1 : Int32)) rfl rfl (to_go (pc := 28) rw_199_28 (to_r0 (pc := 39) rw_199_39 ?_))
    have k_21 : (-1 : Int32).toInt = -1 := rfl
    have j_22 := (NJ_f (fun a i z => W_n W14 (by /-r77,2-/ omega) rfl) q1)
    have t_23 : (M15.2.1 77 29).toInt = (M.2.1 77 29).toInt := congrArg Int32.toInt c_18
    exact h (-1 : Int32) M15 hG16 F17 j_22 (by omega) (by omega) (NWr_n (fun a i z => (W_n W14 (by /-r77,2-/ omega) rfl)) (by omega))
  · refine to_in (pc := 15) rw_199_15 rfl (b_ilt (pc := 16) rw_199_16 (A := n.toInt) rfl (fun h24 => ?_) (fun h24 => ?_))
    · refine to_c (pc := 27) rw_199_27 (x := (-1 : Int32)) rfl rfl (to_go (pc := 28) rw_199_28 (to_r0 (pc := 39) rw_199_39 ?_))
      have k_25 : (-1 : Int32).toInt = -1 := rfl
      have j_26 := (NJ_f (fun a i z => W_n W14 (by /-r77,2-/ omega) rfl) q1)
      have t_27 : (M15.2.1 77 29).toInt = (M.2.1 77 29).toInt := congrArg Int32.toInt c_18
      exact h (-1 : Int32) M15 hG16 F17 j_26 (by omega) (by omega) (NWr_n (fun a i z => (W_n W14 (by /-r77,2-/ omega) rfl)) (by omega))
    · refine to_in (pc := 19) rw_199_19 rfl (to_an (pc := 20) rw_199_20 rfl (tt_gI (pc := 21) rw_199_21 (g_o hG16 rfl) (v := (M.2.1 77 29)) c_18 (b_clt (pc := 24) rw_199_24 (A := n.toInt) (B := (M.2.1 77 29).toInt) rfl rfl (fun h28 => ?_) (fun h28 => ?_))))
      · refine to_an (pc := 31) rw_199_31 rfl (to_c (pc := 32) rw_199_32 (x := (5 : Int32)) rfl rfl (to_in (pc := 33) rw_199_33 rfl (to_c (pc := 34) rw_199_34 (x := (0 : Int32)) rfl rfl (to_c (pc := 35) rw_199_35 (x := (0 : Int32)) rfl rfl (s_v (pc := 36) rw_199_36 (dp0 hd (by decide)) (ls0 := [.ref 77, .int (5 : Int32), .int n, .int (0 : Int32), .int (0 : Int32)]) rfl (Nat.le_of_ble_eq_true rfl) (Nat.le_of_ble_eq_true rfl) rfl (to_rc rfl rfl rfl (g_o hG16 rfl)) rfl ?_)))))
        have k_29 : (5 : Int32).toInt = 5 := rfl
        have k_30 : (0 : Int32).toInt = 0 := rfl
        have t_31 : (M15.2.1 77 29).toInt = (M.2.1 77 29).toInt := congrArg Int32.toInt c_18
        have j_32 := (NJ_f (fun a i z => W_n W14 (by /-r77,2-/ omega) rfl) q1)
        refine E_191 hX (dp1 hd (by decide)) hG16 (by omega) (by omega) (by omega) (by omega) (by omega) (by omega) (by omega) (by omega) (by omega) (by omega) j_32 (w := (5 : Int32)) (o := n) (m := (0 : Int32)) (v := (0 : Int32)) (fun r33 M40 hG35 F34 p_36 p_37 p_38 p_39 => ?_)
        have F41 := FR.c F17 F34 tg_105
        have b_42 := g_b hG35 (a := 77) (i := 29) (lo := 0) (hi := 150) rfl rfl
        refine to_r0 (pc := 39) rw_199_39 ?_
        exact h r33 M40 hG35 F41 p_38 (by omega) (by omega) (NWr_o (fun a i z => (W_n W14 (by /-r77,2-/ omega) rfl)) p_39)
      · refine to_c (pc := 27) rw_199_27 (x := (-1 : Int32)) rfl rfl (to_go (pc := 28) rw_199_28 (to_r0 (pc := 39) rw_199_39 ?_))
        have k_43 : (-1 : Int32).toInt = -1 := rfl
        have j_44 := (NJ_f (fun a i z => W_n W14 (by /-r77,2-/ omega) rfl) q1)
        have t_45 : (M15.2.1 77 29).toInt = (M.2.1 77 29).toInt := congrArg Int32.toInt c_18
        exact h (-1 : Int32) M15 hG16 F17 j_44 (by omega) (by omega) (NWr_n (fun a i z => (W_n W14 (by /-r77,2-/ omega) rfl)) (by omega))
end
section
theorem tg_109 : ∀ a i : Nat, (a < 0) → (a = 1 ∧ 5 ≤ i ∨ 3 ≤ a ∧ a ≤ 5) := fun a i z => by omega
theorem tg_110 : ∀ a i : Nat, (a = 1 ∧ 5 ≤ i ∨ 3 ≤ a ∧ a ≤ 5) → (a = 1 ∧ 5 ≤ i ∨ 3 ≤ a ∧ a ≤ 5) := fun a i z => by omega
theorem tg_111 : ∀ a i : Nat, (a = 1 ∧ 5 ≤ i ∨ 3 ≤ a ∧ a ≤ 5) → (a = 1 ∨ 3 ≤ a ∧ a ≤ 5) := fun a i z => by omega
set_option maxRecDepth 4000 in
set_option maxHeartbeats 0 in
theorem T_77_0 {X : mm_X} {d : Nat} {M : mm_M} {Q : Option Value → mm_M → Prop} {x : Int32} (hX : g_X X) (hd : 0 ≤ d) (q1 : (M.2.1 1 1).toInt ≤ 496) (h : ∀ (M1 : mm_M), g_G M1 → FR md_a M M1 → ((M1.2.1 1 1).toInt = (M.2.1 1 1).toInt + 4) → Q (none) M1) : ∀ nn9 : Nat, (∀ (N : mm_M) (x2 : Int32), g_G N → FR md_a M N → (-8 ≤ x2.toInt) → (x2.toInt ≤ 24) → (8 * ((N.2.1 1 1).toInt - (M.2.1 1 1).toInt) + x2.toInt = 24) → x2.toInt + 8 < (nn9 : Int) → mm_T X d 77 3 [.ref 1, .int x, .int x2] [] N Q) := by
  intro nn9
  induction nn9 with
  | zero =>
    intro N x2 hG F0 g1 g2 g3 hm
    have b_1 := g_b hG (a := 1) (i := 1) (lo := 0) (hi := 500) rfl rfl
    exfalso; omega
  | succ nn9 ih =>
    intro N x2 hG F0 g1 g2 g3 hm
    have b_2 := g_b hG (a := 1) (i := 1) (lo := 0) (hi := 500) rfl rfl
    refine to_in (pc := 3) rw_77_3 rfl (b_ilt (pc := 4) rw_77_4 (A := x2.toInt) rfl (fun h3 => ?_) (fun h3 => ?_))
    · refine to_rv (pc := 48) rw_77_48 ?_
      exact h N hG F0 (by omega)
    · refine to_an (pc := 7) rw_77_7 rfl (tt_gI (pc := 8) rw_77_8 (g_o hG rfl) (v := (N.2.1 1 1)) rfl (to_an (pc := 11) rw_77_11 rfl (s_gR (pc := 12) rw_77_12 hG rfl (v := 2) rfl (s_len (pc := 15) rw_77_15 hG rfl rfl (n := 500) rfl (v := (500 : Int32)) rfl (b_cge (pc := 16) rw_77_16 (A := (N.2.1 1 1).toInt) (B := 500) rfl rfl (fun h4 => ?_) (fun h4 => ?_))))))
      · refine to_rv (pc := 48) rw_77_48 ?_
        exact h N hG F0 (by omega)
      · refine to_an (pc := 19) rw_77_19 rfl (s_gR (pc := 20) rw_77_20 hG rfl (v := 2) rfl (to_an (pc := 23) rw_77_23 rfl (tt_gI (pc := 24) rw_77_24 (g_o hG rfl) (v := (N.2.1 1 1)) rfl (to_in (pc := 27) rw_77_27 rfl (to_in (pc := 28) rw_77_28 rfl (s_any (pc := 29) rw_77_29 (fun _ _ => rfl) (fun v5 => s_i2b (pc := 30) rw_77_30 (fun v6 => s_bas (pc := 31) rw_77_31 hG rfl (n := 500) rfl (A := (N.2.1 1 1).toInt) rfl (by omega) (by omega) (fun M9 v8 W7 => ?_)))))))))
        have hG10 := g_wf hG W7 rfl rfl (by decide)
        have F11 := FR.w F0 W7 (show 2 = 1 ∧ ((N.2.1 1 1).toInt).toNat = 1 ∨ 2 = 2 by omega)
        refine to_an (pc := 32) rw_77_32 rfl (to_dupr (pc := 33) rw_77_33 ?_)
        have c_12 : M9.2.1 1 1 = (N.2.1 1 1) := (W_n W7 (fun z => absurd z.1 (by decide)) rfl)
        refine tt_gI (pc := 34) rw_77_34 (g_o hG10 rfl) (v := (N.2.1 1 1)) c_12 (to_c (pc := 37) rw_77_37 (x := (1 : Int32)) rfl rfl (s_add (pc := 38) rw_77_38 (A := (N.2.1 1 1).toInt) (B := 1) rfl rfl (by omega) (fun v13 e14 => s_pI (pc := 39) rw_77_39 hG10 rfl (fun M16 W15 => ?_))))
        have hG17 := g_w hG10 W15 (A := v13.toInt) rfl (lo := 0) (hi := 500) rfl rfl (by omega) (by decide)
        have F18 := FR.w F11 W15 (show 1 = 1 ∧ 1 = 1 ∨ 1 = 2 by decide)
        refine s_inc (pc := 42) rw_77_42 (ls2 := fun v => [.ref 1, .int x, .int v]) rfl rfl (fun _ => rfl) (A := x2.toInt) (B := -8) rfl rfl (by omega) (fun v19 e20 => to_go (pc := 45) rw_77_45 ?_)
        have c_21 : M16.2.1 1 1 = v13 := (W_e W15)
        have t_22 : (M16.2.1 1 1).toInt = v13.toInt := congrArg Int32.toInt c_21
        exact ih M16 v19 hG17 F18 (by omega) (by omega) (by omega) (by omega)
set_option maxRecDepth 4000 in
set_option maxHeartbeats 0 in
theorem C_77 {X : mm_X} {d : Nat} {M : mm_M} {Q : Option Value → mm_M → Prop} {x : Int32} (hX : g_X X) (hd : 0 ≤ d) (hG : g_G M) (q1 : (M.2.1 1 1).toInt ≤ 496) (h : ∀ (M1 : mm_M), g_G M1 → FR md_a M M1 → ((M1.2.1 1 1).toInt = (M.2.1 1 1).toInt + 4) → Q (none) M1) : mm_T X d 77 0 [.ref 1, .int x, .null] [] M Q := by
  have F0 : FR md_a M M := FR.rf
  have b_23 := g_b hG (a := 1) (i := 1) (lo := 0) (hi := 500) rfl rfl
  refine to_c (pc := 0) rw_77_0 (x := (24 : Int32)) rfl rfl (to_isn (pc := 2) rw_77_2 (ls2 := [.ref 1, .int x, .int (24 : Int32)]) rfl rfl ?_)
  have k_24 : (24 : Int32).toInt = 24 := rfl
  exact (T_77_0 (x := x) hX hd q1 h (((24 : Int32).toInt + 8).toNat + 1)) M (24 : Int32) hG F0 (by omega) (by omega) (by omega) (by omega)
set_option maxRecDepth 4000 in
set_option maxHeartbeats 0 in
theorem T_96_0 {X : mm_X} {d : Nat} {M : mm_M} {Q : Option Value → mm_M → Prop} {x : Int32} (hX : g_X X) (hd : 0 ≤ d) (h : ∀ (r : Int32) (M1 : mm_M), g_G M1 → FR md_0 M M1 → (0 ≤ r.toInt) → (r.toInt ≤ 1) → Q (some (.int r)) M1) : ∀ nn9 : Nat, (∀ (N : mm_M) (x2 : Int32) (x3 : Int32) (u4 : Value), g_G N → FR md_0 M N → (0 ≤ x3.toInt) → (x3.toInt ≤ 15) → (x2.toInt = 15) → 15 - x3.toInt < (nn9 : Int) → mm_T X d 96 9 [.int x, .ref (mm_ext + 1), .int x2, .int x3, u4] [] N Q) := by
  intro nn9
  induction nn9 with
  | zero =>
    intro N x2 x3 u4 hG F0 g1 g2 g3 hm
    exfalso; omega
  | succ nn9 ih =>
    intro N x2 x3 u4 hG F0 g1 g2 g3 hm
    refine to_in (pc := 9) rw_96_9 rfl (to_in (pc := 10) rw_96_10 rfl (b_cge (pc := 11) rw_96_11 (A := x3.toInt) (B := x2.toInt) rfl rfl (fun h1 => ?_) (fun h1 => ?_)))
    · refine to_c (pc := 33) rw_96_33 (x := (0 : Int32)) rfl rfl (s_r1 (pc := 34) rw_96_34 (A := 0) rfl (by decide) ?_)
      have k_2 : (0 : Int32).toInt = 0 := rfl
      exact h (0 : Int32) N hG F0 (by decide) (by decide)
    · refine to_an (pc := 14) rw_96_14 rfl (to_in (pc := 15) rw_96_15 rfl (s_xal (pc := 16) rw_96_16 hX (e := 1) (n := 15) rfl (A := x3.toInt) rfl (by omega) (by omega) (fun v3 => to_is (pc := 17) rw_96_17 (ls2 := [.int x, .ref (mm_ext + 1), .int x2, .int x3, .int v3]) rfl rfl (to_i (pc := 19) rw_96_19 rfl (to_in (pc := 21) rw_96_21 rfl (b_cne (pc := 22) rw_96_22 (A := v3.toInt) (B := x.toInt) rfl rfl (fun h4 => ?_) (fun h4 => ?_)))))))
      · refine s_inc (pc := 27) rw_96_27 (ls2 := fun v => [.int x, .ref (mm_ext + 1), .int x2, .int v, .int v3]) rfl rfl (fun _ => rfl) (A := x3.toInt) (B := 1) rfl rfl (by omega) (fun v5 e6 => to_go (pc := 30) rw_96_30 ?_)
        exact ih N x2 v5 (.int v3) hG F0 (by omega) (by omega) (by omega) (by omega)
      · refine to_c (pc := 25) rw_96_25 (x := (1 : Int32)) rfl rfl (s_r1 (pc := 26) rw_96_26 (A := 1) rfl (by decide) ?_)
        have k_7 : (1 : Int32).toInt = 1 := rfl
        exact h (1 : Int32) N hG F0 (by decide) (by decide)
set_option maxRecDepth 4000 in
set_option maxHeartbeats 0 in
theorem C_96 {X : mm_X} {d : Nat} {M : mm_M} {Q : Option Value → mm_M → Prop} {x : Int32} (hX : g_X X) (hd : 0 ≤ d) (hG : g_G M) (h : ∀ (r : Int32) (M1 : mm_M), g_G M1 → FR md_0 M M1 → (0 ≤ r.toInt) → (r.toInt ≤ 1) → Q (some (.int r)) M1) : mm_T X d 96 0 [.int x, .null, .null, .null, .null] [] M Q := by
  have F0 : FR md_0 M M := FR.rf
  refine s_gs (pc := 0) rw_96_0 (to_asn (pc := 3) rw_96_3 (ls2 := [.int x, .ref (mm_ext + 1), .null, .null, .null]) rfl rfl (to_an (pc := 4) rw_96_4 rfl (s_xlen (pc := 5) rw_96_5 hX (e := 1) (n := 15) rfl (v := (15 : Int32)) rfl (to_isn (pc := 6) rw_96_6 (ls2 := [.int x, .ref (mm_ext + 1), .int (15 : Int32), .null, .null]) rfl rfl (to_c (pc := 7) rw_96_7 (x := (0 : Int32)) rfl rfl (to_isn (pc := 8) rw_96_8 (ls2 := [.int x, .ref (mm_ext + 1), .int (15 : Int32), .int (0 : Int32), .null]) rfl rfl ?_))))))
  have k_8 : (15 : Int32).toInt = 15 := rfl
  have k_9 : (0 : Int32).toInt = 0 := rfl
  exact (T_96_0 (x := x) hX hd  h ((15 - (0 : Int32).toInt).toNat + 1)) M (15 : Int32) (0 : Int32) (.null) hG F0 (by omega) (by omega) (by omega) (by omega)
set_option maxRecDepth 4000 in
set_option maxHeartbeats 0 in
theorem C_82 {X : mm_X} {d : Nat} {M : mm_M} {Q : Option Value → mm_M → Prop} {t : Int32} {v : Int32} {w : Int32} (hX : g_X X) (hd : 0 ≤ d) (hG : g_G M) (h : ∀ (M1 : mm_M), g_G M1 → FR md_t M M1 → (1 ≤ (M1.2.1 1 5).toInt) → Q (none) M1) : mm_T X d 82 0 [.ref 1, .int t, .int v, .int w] [] M Q := by
  have F0 : FR md_t M M := FR.rf
  refine to_an (pc := 0) rw_82_0 rfl ?_
  have b_1 := g_b hG (a := 1) (i := 5) (lo := 0) (hi := 501) rfl rfl
  refine tt_gI (pc := 1) rw_82_1 (g_o hG rfl) (v := (M.2.1 1 5)) rfl (to_an (pc := 4) rw_82_4 rfl (s_gR (pc := 5) rw_82_5 hG rfl (v := 3) rfl (s_len (pc := 8) rw_82_8 hG rfl rfl (n := 501) rfl (v := (501 : Int32)) rfl (b_cge (pc := 9) rw_82_9 (A := (M.2.1 1 5).toInt) (B := 501) rfl rfl (fun h2 => ?_) (fun h2 => ?_)))))
  · refine to_rv (pc := 52) rw_82_52 ?_
    exact h M hG F0 (by omega)
  · refine to_an (pc := 12) rw_82_12 rfl (s_gR (pc := 13) rw_82_13 hG rfl (v := 3) rfl (to_an (pc := 16) rw_82_16 rfl (tt_gI (pc := 17) rw_82_17 (g_o hG rfl) (v := (M.2.1 1 5)) rfl (to_in (pc := 20) rw_82_20 rfl (s_ias (pc := 21) rw_82_21 hG rfl (n := 501) rfl (A := (M.2.1 1 5).toInt) rfl (by omega) (by omega) (fun M4 W3 => ?_))))))
    have hG5 := g_wf hG W3 rfl rfl (by decide)
    have F6 := FR.w F0 W3 (show 3 = 1 ∧ 5 ≤ ((M.2.1 1 5).toInt).toNat ∨ 3 ≤ 3 ∧ 3 ≤ 5 by omega)
    refine to_an (pc := 22) rw_82_22 rfl (s_gR (pc := 23) rw_82_23 hG5 rfl (v := 4) rfl (to_an (pc := 26) rw_82_26 rfl ?_))
    have c_7 : M4.2.1 1 5 = (M.2.1 1 5) := (W_n W3 (fun z => absurd z.1 (by decide)) rfl)
    refine tt_gI (pc := 27) rw_82_27 (g_o hG5 rfl) (v := (M.2.1 1 5)) c_7 (to_in (pc := 30) rw_82_30 rfl (s_ias (pc := 31) rw_82_31 hG5 rfl (n := 501) rfl (A := (M.2.1 1 5).toInt) rfl (by omega) (by omega) (fun M9 W8 => ?_)))
    have hG10 := g_wf hG5 W8 rfl rfl (by decide)
    have F11 := FR.w F6 W8 (show 4 = 1 ∧ 5 ≤ ((M.2.1 1 5).toInt).toNat ∨ 3 ≤ 4 ∧ 4 ≤ 5 by omega)
    refine to_an (pc := 32) rw_82_32 rfl (s_gR (pc := 33) rw_82_33 hG10 rfl (v := 5) rfl (to_an (pc := 36) rw_82_36 rfl ?_))
    have c_12 : M9.2.1 1 5 = (M.2.1 1 5) := (W_n W8 (fun z => absurd z.1 (by decide)) c_7)
    refine tt_gI (pc := 37) rw_82_37 (g_o hG10 rfl) (v := (M.2.1 1 5)) c_12 (to_in (pc := 40) rw_82_40 rfl (s_ias (pc := 41) rw_82_41 hG10 rfl (n := 501) rfl (A := (M.2.1 1 5).toInt) rfl (by omega) (by omega) (fun M14 W13 => ?_)))
    have hG15 := g_wf hG10 W13 rfl rfl (by decide)
    have F16 := FR.w F11 W13 (show 5 = 1 ∧ 5 ≤ ((M.2.1 1 5).toInt).toNat ∨ 3 ≤ 5 ∧ 5 ≤ 5 by omega)
    refine to_an (pc := 42) rw_82_42 rfl (to_dupr (pc := 43) rw_82_43 ?_)
    have c_17 : M14.2.1 1 5 = (M.2.1 1 5) := (W_n W13 (fun z => absurd z.1 (by decide)) c_12)
    refine tt_gI (pc := 44) rw_82_44 (g_o hG15 rfl) (v := (M.2.1 1 5)) c_17 (to_c (pc := 47) rw_82_47 (x := (1 : Int32)) rfl rfl (s_add (pc := 48) rw_82_48 (A := (M.2.1 1 5).toInt) (B := 1) rfl rfl (by omega) (fun v18 e19 => s_pI (pc := 49) rw_82_49 hG15 rfl (fun M21 W20 => ?_))))
    have hG22 := g_w hG15 W20 (A := v18.toInt) rfl (lo := 0) (hi := 501) rfl rfl (by omega) (by decide)
    have F23 := FR.w F16 W20 (show 1 = 1 ∧ 5 ≤ 5 ∨ 3 ≤ 1 ∧ 1 ≤ 5 by decide)
    refine to_rv (pc := 52) rw_82_52 ?_
    have c_24 : M21.2.1 1 5 = v18 := (W_e W20)
    have t_25 : (M21.2.1 1 5).toInt = v18.toInt := congrArg Int32.toInt c_24
    exact h M21 hG22 F23 (by omega)
set_option maxRecDepth 4000 in
set_option maxHeartbeats 0 in
theorem C_83 {X : mm_X} {d : Nat} {M : mm_M} {Q : Option Value → mm_M → Prop} (hX : g_X X) (hd : 0 ≤ d) (hG : g_G M) (h : ∀ (M1 : mm_M), g_G M1 → FR md_t M M1 → Q (none) M1) : mm_T X d 83 0 [.ref 1] [] M Q := by
  have F0 : FR md_t M M := FR.rf
  refine to_an (pc := 0) rw_83_0 rfl ?_
  have b_1 := g_b hG (a := 1) (i := 6) (lo := 0) (hi := 500) rfl rfl
  refine tt_gI (pc := 1) rw_83_1 (g_o hG rfl) (v := (M.2.1 1 6)) rfl (to_c (pc := 4) rw_83_4 (x := (1 : Int32)) rfl rfl (s_add (pc := 5) rw_83_5 (A := (M.2.1 1 6).toInt) (B := 1) rfl rfl (by omega) (fun v2 e3 => to_an (pc := 6) rw_83_6 rfl ?_)))
  have b_4 := g_b hG (a := 1) (i := 5) (lo := 0) (hi := 501) rfl rfl
  refine tt_gI (pc := 7) rw_83_7 (g_o hG rfl) (v := (M.2.1 1 5)) rfl (b_cge (pc := 10) rw_83_10 (A := v2.toInt) (B := (M.2.1 1 5).toInt) rfl rfl (fun h5 => ?_) (fun h5 => ?_))
  · refine to_an (pc := 23) rw_83_23 rfl (to_an (pc := 24) rw_83_24 rfl (s_gR (pc := 25) rw_83_25 hG rfl (v := 3) rfl (to_an (pc := 28) rw_83_28 rfl (tt_gI (pc := 29) rw_83_29 (g_o hG rfl) (v := (M.2.1 1 6)) rfl (s_ial (pc := 32) rw_83_32 hG rfl (n := 501) rfl rfl (A := (M.2.1 1 6).toInt) rfl (by omega) (by omega) (lo := -2147483648) (hi := 2147483647) rfl rfl (fun v6 w_7 _ _ => s_pI (pc := 33) rw_83_33 hG rfl (fun M9 W8 => ?_)))))))
    have hG10 := g_wf hG W8 rfl rfl (by decide)
    have F11 := FR.w F0 W8 (show 1 = 1 ∧ 5 ≤ 7 ∨ 3 ≤ 1 ∧ 1 ≤ 5 by decide)
    refine to_an (pc := 36) rw_83_36 rfl (to_an (pc := 37) rw_83_37 rfl (s_gR (pc := 38) rw_83_38 hG10 rfl (v := 4) rfl (to_an (pc := 41) rw_83_41 rfl ?_)))
    have c_12 : M9.2.1 1 6 = (M.2.1 1 6) := (W_n W8 (by decide) rfl)
    refine tt_gI (pc := 42) rw_83_42 (g_o hG10 rfl) (v := (M.2.1 1 6)) c_12 (s_ial (pc := 45) rw_83_45 hG10 rfl (n := 501) rfl rfl (A := (M.2.1 1 6).toInt) rfl (by omega) (by omega) (lo := -2147483648) (hi := 2147483647) rfl rfl (fun v13 w_14 _ _ => s_pI (pc := 46) rw_83_46 hG10 rfl (fun M16 W15 => ?_)))
    have hG17 := g_wf hG10 W15 rfl rfl (by decide)
    have F18 := FR.w F11 W15 (show 1 = 1 ∧ 5 ≤ 8 ∨ 3 ≤ 1 ∧ 1 ≤ 5 by decide)
    refine to_an (pc := 49) rw_83_49 rfl (to_an (pc := 50) rw_83_50 rfl (s_gR (pc := 51) rw_83_51 hG17 rfl (v := 5) rfl (to_an (pc := 54) rw_83_54 rfl ?_)))
    have c_19 : M16.2.1 1 6 = (M.2.1 1 6) := (W_n W15 (by decide) c_12)
    refine tt_gI (pc := 55) rw_83_55 (g_o hG17 rfl) (v := (M.2.1 1 6)) c_19 (s_ial (pc := 58) rw_83_58 hG17 rfl (n := 501) rfl rfl (A := (M.2.1 1 6).toInt) rfl (by omega) (by omega) (lo := -2147483648) (hi := 2147483647) rfl rfl (fun v20 w_21 _ _ => s_pI (pc := 59) rw_83_59 hG17 rfl (fun M23 W22 => ?_)))
    have hG24 := g_wf hG17 W22 rfl rfl (by decide)
    have F25 := FR.w F18 W22 (show 1 = 1 ∧ 5 ≤ 9 ∨ 3 ≤ 1 ∧ 1 ≤ 5 by decide)
    refine to_rv (pc := 62) rw_83_62 ?_
    exact h M23 hG24 F25 
  · refine to_an (pc := 13) rw_83_13 rfl (to_dupr (pc := 14) rw_83_14 (tt_gI (pc := 15) rw_83_15 (g_o hG rfl) (v := (M.2.1 1 6)) rfl (to_c (pc := 18) rw_83_18 (x := (1 : Int32)) rfl rfl (s_add (pc := 19) rw_83_19 (A := (M.2.1 1 6).toInt) (B := 1) rfl rfl (by omega) (fun v26 e27 => s_pI (pc := 20) rw_83_20 hG rfl (fun M29 W28 => ?_))))))
    have hG30 := g_w hG W28 (A := v26.toInt) rfl (lo := 0) (hi := 500) rfl rfl (by omega) (by decide)
    have F31 := FR.w F0 W28 (show 1 = 1 ∧ 5 ≤ 6 ∨ 3 ≤ 1 ∧ 1 ≤ 5 by decide)
    refine to_an (pc := 23) rw_83_23 rfl (to_an (pc := 24) rw_83_24 rfl (s_gR (pc := 25) rw_83_25 hG30 rfl (v := 3) rfl (to_an (pc := 28) rw_83_28 rfl ?_)))
    have c_32 : M29.2.1 1 6 = v26 := (W_e W28)
    refine tt_gI (pc := 29) rw_83_29 (g_o hG30 rfl) (v := v26) c_32 (s_ial (pc := 32) rw_83_32 hG30 rfl (n := 501) rfl rfl (A := v26.toInt) rfl (by omega) (by omega) (lo := -2147483648) (hi := 2147483647) rfl rfl (fun v33 w_34 _ _ => s_pI (pc := 33) rw_83_33 hG30 rfl (fun M36 W35 => ?_)))
    have hG37 := g_wf hG30 W35 rfl rfl (by decide)
    have F38 := FR.w F31 W35 (show 1 = 1 ∧ 5 ≤ 7 ∨ 3 ≤ 1 ∧ 1 ≤ 5 by decide)
    refine to_an (pc := 36) rw_83_36 rfl (to_an (pc := 37) rw_83_37 rfl (s_gR (pc := 38) rw_83_38 hG37 rfl (v := 4) rfl (to_an (pc := 41) rw_83_41 rfl ?_)))
    have c_39 : M36.2.1 1 6 = v26 := (W_n W35 (by decide) c_32)
    refine tt_gI (pc := 42) rw_83_42 (g_o hG37 rfl) (v := v26) c_39 (s_ial (pc := 45) rw_83_45 hG37 rfl (n := 501) rfl rfl (A := v26.toInt) rfl (by omega) (by omega) (lo := -2147483648) (hi := 2147483647) rfl rfl (fun v40 w_41 _ _ => s_pI (pc := 46) rw_83_46 hG37 rfl (fun M43 W42 => ?_)))
    have hG44 := g_wf hG37 W42 rfl rfl (by decide)
    have F45 := FR.w F38 W42 (show 1 = 1 ∧ 5 ≤ 8 ∨ 3 ≤ 1 ∧ 1 ≤ 5 by decide)
    refine to_an (pc := 49) rw_83_49 rfl (to_an (pc := 50) rw_83_50 rfl (s_gR (pc := 51) rw_83_51 hG44 rfl (v := 5) rfl (to_an (pc := 54) rw_83_54 rfl ?_)))
    have c_46 : M43.2.1 1 6 = v26 := (W_n W42 (by decide) c_39)
    refine tt_gI (pc := 55) rw_83_55 (g_o hG44 rfl) (v := v26) c_46 (s_ial (pc := 58) rw_83_58 hG44 rfl (n := 501) rfl rfl (A := v26.toInt) rfl (by omega) (by omega) (lo := -2147483648) (hi := 2147483647) rfl rfl (fun v47 w_48 _ _ => s_pI (pc := 59) rw_83_59 hG44 rfl (fun M50 W49 => ?_)))
    have hG51 := g_wf hG44 W49 rfl rfl (by decide)
    have F52 := FR.w F45 W49 (show 1 = 1 ∧ 5 ≤ 9 ∨ 3 ≤ 1 ∧ 1 ≤ 5 by decide)
    refine to_rv (pc := 62) rw_83_62 ?_
    exact h M50 hG51 F52 
set_option maxRecDepth 4000 in
set_option maxHeartbeats 0 in
theorem T_80_0 {X : mm_X} {d : Nat} {M : mm_M} {Q : Option Value → mm_M → Prop} {f : Int32} {n : Int32} (hX : g_X X) (hd : 1 ≤ d) (q1 : 0 ≤ f.toInt) (q2 : f.toInt ≤ 500) (q3 : 0 ≤ n.toInt) (q4 : n.toInt ≤ 500) (h : ∀ (r : Int32) (M1 : mm_M), g_G M1 → FR md_t M M1 → (f.toInt ≤ r.toInt) → (r.toInt ≤ 500) → Q (some (.int r)) M1) : ∀ nn9 : Nat, (∀ (N : mm_M) (x3 : Int32) (x4 : Int32), g_G N → FR md_t M N → (0 ≤ x4.toInt) → (x4.toInt ≤ 500) → (f.toInt ≤ x4.toInt) → (0 ≤ f.toInt) → (n.toInt ≤ 500) → (f.toInt = f.toInt) → 500 - x4.toInt < (nn9 : Int) → mm_T X d 80 5 [.ref 1, .int f, .int n, .int x3, .int x4] [] N Q) := by
  intro nn9
  induction nn9 with
  | zero =>
    intro N x3 x4 hG F0 g1 g2 g3 g4 g5 g6 hm
    exfalso; omega
  | succ nn9 ih =>
    intro N x3 x4 hG F0 g1 g2 g3 g4 g5 g6 hm
    refine to_i (pc := 5) rw_80_5 rfl (to_in (pc := 7) rw_80_7 rfl (b_cge (pc := 8) rw_80_8 (A := x4.toInt) (B := n.toInt) rfl rfl (fun h1 => ?_) (fun h1 => ?_)))
    · refine to_i (pc := 60) rw_80_60 rfl (to_in (pc := 62) rw_80_62 rfl (s_sub (pc := 63) rw_80_63 (A := x4.toInt) (B := f.toInt) rfl rfl (by omega) (fun v2 e3 => to_c (pc := 64) rw_80_64 (x := (6 : Int32)) rfl rfl (b_cle (pc := 66) rw_80_66 (A := v2.toInt) (B := 6) rfl rfl (fun h4 => ?_) (fun h4 => ?_)))))
      · refine to_an (pc := 79) rw_80_79 rfl (to_in (pc := 80) rw_80_80 rfl (s_s (pc := 81) rw_80_81 (dp0 hd (by decide)) (ls0 := [.int x3, .null, .null, .null, .null]) rfl (Nat.le_of_ble_eq_true rfl) (Nat.le_of_ble_eq_true rfl) rfl (to_rcs rfl rfl) rfl (C_96 hX (dp1 hd (by decide)) hG (x := x3) (fun r5 M10 hG7 F6 p_8 p_9 => ?_))))
        have F11 := FR.c F0 F6 tg_109
        refine b_ieq (pc := 84) rw_80_84 (A := r5.toInt) rfl (fun h12 => ?_) (fun h12 => ?_)
        · refine to_c (pc := 91) rw_80_91 (x := (3 : Int32)) rfl rfl (to_in (pc := 92) rw_80_92 rfl (to_in (pc := 93) rw_80_93 rfl (s_v (pc := 94) rw_80_94 (dp0 hd (by decide)) (ls0 := [.ref 1, .int (3 : Int32), .int x3, .int f]) rfl (Nat.le_of_ble_eq_true rfl) (Nat.le_of_ble_eq_true rfl) rfl (to_rc rfl rfl rfl (g_o hG7 rfl)) rfl ?_)))
          have k_13 : (3 : Int32).toInt = 3 := rfl
          refine C_82 hX (dp1 hd (by decide)) hG7 (t := (3 : Int32)) (v := x3) (w := f) (fun M17 hG15 F14 p_16 => ?_)
          have F18 := FR.c F11 F14 tg_110
          have b_19 := g_b hG15 (a := 1) (i := 5) (lo := 0) (hi := 501) rfl rfl
          refine to_i (pc := 97) rw_80_97 rfl (to_r0 (pc := 99) rw_80_99 ?_)
          exact h x4 M17 hG15 F18 (by omega) (by omega)
        · refine to_c (pc := 87) rw_80_87 (x := (4 : Int32)) rfl rfl (to_go (pc := 88) rw_80_88 (to_in (pc := 92) rw_80_92 rfl (to_in (pc := 93) rw_80_93 rfl (s_v (pc := 94) rw_80_94 (dp0 hd (by decide)) (ls0 := [.ref 1, .int (4 : Int32), .int x3, .int f]) rfl (Nat.le_of_ble_eq_true rfl) (Nat.le_of_ble_eq_true rfl) rfl (to_rc rfl rfl rfl (g_o hG7 rfl)) rfl ?_))))
          have k_20 : (4 : Int32).toInt = 4 := rfl
          refine C_82 hX (dp1 hd (by decide)) hG7 (t := (4 : Int32)) (v := x3) (w := f) (fun M24 hG22 F21 p_23 => ?_)
          have F25 := FR.c F11 F21 tg_110
          have b_26 := g_b hG22 (a := 1) (i := 5) (lo := 0) (hi := 501) rfl rfl
          refine to_i (pc := 97) rw_80_97 rfl (to_r0 (pc := 99) rw_80_99 ?_)
          exact h x4 M24 hG22 F25 (by omega) (by omega)
      · refine to_an (pc := 69) rw_80_69 rfl (to_c (pc := 70) rw_80_70 (x := (1 : Int32)) rfl rfl (to_c (pc := 71) rw_80_71 (x := (0 : Int32)) rfl rfl (to_in (pc := 72) rw_80_72 rfl (s_v (pc := 73) rw_80_73 (dp0 hd (by decide)) (ls0 := [.ref 1, .int (1 : Int32), .int (0 : Int32), .int f]) rfl (Nat.le_of_ble_eq_true rfl) (Nat.le_of_ble_eq_true rfl) rfl (to_rc rfl rfl rfl (g_o hG rfl)) rfl ?_))))
        have k_27 : (1 : Int32).toInt = 1 := rfl
        have k_28 : (0 : Int32).toInt = 0 := rfl
        refine C_82 hX (dp1 hd (by decide)) hG (t := (1 : Int32)) (v := (0 : Int32)) (w := f) (fun M32 hG30 F29 p_31 => ?_)
        have F33 := FR.c F0 F29 tg_110
        have b_34 := g_b hG30 (a := 1) (i := 5) (lo := 0) (hi := 501) rfl rfl
        refine to_go (pc := 76) rw_80_76 (to_i (pc := 97) rw_80_97 rfl (to_r0 (pc := 99) rw_80_99 ?_))
        exact h x4 M32 hG30 F33 (by omega) (by omega)
    · refine to_an (pc := 11) rw_80_11 rfl (to_i (pc := 12) rw_80_12 rfl (s_v (pc := 14) rw_80_14 (dp0 hd (by decide)) (ls0 := [.ref 1, .int x4]) rfl (Nat.le_of_ble_eq_true rfl) (Nat.le_of_ble_eq_true rfl) rfl (to_rc rfl rfl rfl (g_o hG rfl)) rfl (to_in (pc := 0) rw_91_0 rfl (b_ilt_f (pc := 1) rw_91_1 (A := x4.toInt) rfl (by omega) (to_in (pc := 4) rw_91_4 rfl (to_an (pc := 5) rw_91_5 rfl (s_gR (pc := 6) rw_91_6 hG rfl (v := 2) rfl (s_len (pc := 9) rw_91_9 hG rfl rfl (n := 500) rfl (v := (500 : Int32)) rfl (b_cge_f (pc := 10) rw_91_10 (A := x4.toInt) (B := 500) rfl rfl (by omega) (to_an (pc := 13) rw_91_13 rfl (s_gR (pc := 14) rw_91_14 hG rfl (v := 2) rfl ?_)))))))))))
      refine to_in (pc := 17) rw_91_17 rfl (s_bal (pc := 18) rw_91_18 hG rfl (n := 500) rfl (A := x4.toInt) rfl (by omega) (by omega) (lo := -2147483648) (hi := 2147483647) rfl rfl (fun v35 w_36 _ _ => to_c (pc := 19) rw_91_19 (x := (255 : Int32)) rfl rfl (s_and (pc := 22) rw_91_22 (B := 255) rfl (by omega) (fun v37 e38 _ _ => to_go (pc := 23) rw_91_23 (to_r0 (pc := 27) rw_91_27 (s_s (pc := 17) rw_80_17 (dp0 hd (by decide)) (ls0 := [.int v37]) rfl (Nat.le_of_ble_eq_true rfl) (Nat.le_of_ble_eq_true rfl) rfl (to_rcs rfl rfl) rfl (to_in (pc := 0) rw_93_0 rfl (to_c (pc := 1) rw_93_1 (x := (97 : Int32)) rfl rfl (b_clt (pc := 3) rw_93_3 (A := v37.toInt) (B := 97) rfl rfl (fun h39 => ?_) (fun h39 => ?_))))))))))
      · refine to_c (pc := 16) rw_93_16 (x := (0 : Int32)) rfl rfl (s_r1 (pc := 17) rw_93_17 (A := 0) rfl (by decide) (b_ieq_t (pc := 20) rw_80_20 (A := 0) rfl (by decide) (to_i (pc := 60) rw_80_60 rfl (to_in (pc := 62) rw_80_62 rfl (s_sub (pc := 63) rw_80_63 (A := x4.toInt) (B := f.toInt) rfl rfl (by omega) (fun v40 e41 => to_c (pc := 64) rw_80_64 (x := (6 : Int32)) rfl rfl (b_cle (pc := 66) rw_80_66 (A := v40.toInt) (B := 6) rfl rfl (fun h42 => ?_) (fun h42 => ?_))))))))
        · refine to_an (pc := 79) rw_80_79 rfl (to_in (pc := 80) rw_80_80 rfl (s_s (pc := 81) rw_80_81 (dp0 hd (by decide)) (ls0 := [.int x3, .null, .null, .null, .null]) rfl (Nat.le_of_ble_eq_true rfl) (Nat.le_of_ble_eq_true rfl) rfl (to_rcs rfl rfl) rfl (C_96 hX (dp1 hd (by decide)) hG (x := x3) (fun r43 M48 hG45 F44 p_46 p_47 => ?_))))
          have F49 := FR.c F0 F44 tg_109
          refine b_ieq (pc := 84) rw_80_84 (A := r43.toInt) rfl (fun h50 => ?_) (fun h50 => ?_)
          · refine to_c (pc := 91) rw_80_91 (x := (3 : Int32)) rfl rfl (to_in (pc := 92) rw_80_92 rfl (to_in (pc := 93) rw_80_93 rfl (s_v (pc := 94) rw_80_94 (dp0 hd (by decide)) (ls0 := [.ref 1, .int (3 : Int32), .int x3, .int f]) rfl (Nat.le_of_ble_eq_true rfl) (Nat.le_of_ble_eq_true rfl) rfl (to_rc rfl rfl rfl (g_o hG45 rfl)) rfl ?_)))
            have k_51 : (3 : Int32).toInt = 3 := rfl
            refine C_82 hX (dp1 hd (by decide)) hG45 (t := (3 : Int32)) (v := x3) (w := f) (fun M55 hG53 F52 p_54 => ?_)
            have F56 := FR.c F49 F52 tg_110
            have b_57 := g_b hG53 (a := 1) (i := 5) (lo := 0) (hi := 501) rfl rfl
            refine to_i (pc := 97) rw_80_97 rfl (to_r0 (pc := 99) rw_80_99 ?_)
            exact h x4 M55 hG53 F56 (by omega) (by omega)
          · refine to_c (pc := 87) rw_80_87 (x := (4 : Int32)) rfl rfl (to_go (pc := 88) rw_80_88 (to_in (pc := 92) rw_80_92 rfl (to_in (pc := 93) rw_80_93 rfl (s_v (pc := 94) rw_80_94 (dp0 hd (by decide)) (ls0 := [.ref 1, .int (4 : Int32), .int x3, .int f]) rfl (Nat.le_of_ble_eq_true rfl) (Nat.le_of_ble_eq_true rfl) rfl (to_rc rfl rfl rfl (g_o hG45 rfl)) rfl ?_))))
            have k_58 : (4 : Int32).toInt = 4 := rfl
            refine C_82 hX (dp1 hd (by decide)) hG45 (t := (4 : Int32)) (v := x3) (w := f) (fun M62 hG60 F59 p_61 => ?_)
            have F63 := FR.c F49 F59 tg_110
            have b_64 := g_b hG60 (a := 1) (i := 5) (lo := 0) (hi := 501) rfl rfl
            refine to_i (pc := 97) rw_80_97 rfl (to_r0 (pc := 99) rw_80_99 ?_)
            exact h x4 M62 hG60 F63 (by omega) (by omega)
        · refine to_an (pc := 69) rw_80_69 rfl (to_c (pc := 70) rw_80_70 (x := (1 : Int32)) rfl rfl (to_c (pc := 71) rw_80_71 (x := (0 : Int32)) rfl rfl (to_in (pc := 72) rw_80_72 rfl (s_v (pc := 73) rw_80_73 (dp0 hd (by decide)) (ls0 := [.ref 1, .int (1 : Int32), .int (0 : Int32), .int f]) rfl (Nat.le_of_ble_eq_true rfl) (Nat.le_of_ble_eq_true rfl) rfl (to_rc rfl rfl rfl (g_o hG rfl)) rfl ?_))))
          have k_65 : (1 : Int32).toInt = 1 := rfl
          have k_66 : (0 : Int32).toInt = 0 := rfl
          refine C_82 hX (dp1 hd (by decide)) hG (t := (1 : Int32)) (v := (0 : Int32)) (w := f) (fun M70 hG68 F67 p_69 => ?_)
          have F71 := FR.c F0 F67 tg_110
          have b_72 := g_b hG68 (a := 1) (i := 5) (lo := 0) (hi := 501) rfl rfl
          refine to_go (pc := 76) rw_80_76 (to_i (pc := 97) rw_80_97 rfl (to_r0 (pc := 99) rw_80_99 ?_))
          exact h x4 M70 hG68 F71 (by omega) (by omega)
      · refine to_in (pc := 6) rw_93_6 rfl (to_c (pc := 7) rw_93_7 (x := (122 : Int32)) rfl rfl (b_cgt (pc := 9) rw_93_9 (A := v37.toInt) (B := 122) rfl rfl (fun h73 => ?_) (fun h73 => ?_)))
        · refine to_c (pc := 16) rw_93_16 (x := (0 : Int32)) rfl rfl (s_r1 (pc := 17) rw_93_17 (A := 0) rfl (by decide) (b_ieq_t (pc := 20) rw_80_20 (A := 0) rfl (by decide) (to_i (pc := 60) rw_80_60 rfl (to_in (pc := 62) rw_80_62 rfl (s_sub (pc := 63) rw_80_63 (A := x4.toInt) (B := f.toInt) rfl rfl (by omega) (fun v74 e75 => to_c (pc := 64) rw_80_64 (x := (6 : Int32)) rfl rfl (b_cle (pc := 66) rw_80_66 (A := v74.toInt) (B := 6) rfl rfl (fun h76 => ?_) (fun h76 => ?_))))))))
          · refine to_an (pc := 79) rw_80_79 rfl (to_in (pc := 80) rw_80_80 rfl (s_s (pc := 81) rw_80_81 (dp0 hd (by decide)) (ls0 := [.int x3, .null, .null, .null, .null]) rfl (Nat.le_of_ble_eq_true rfl) (Nat.le_of_ble_eq_true rfl) rfl (to_rcs rfl rfl) rfl (C_96 hX (dp1 hd (by decide)) hG (x := x3) (fun r77 M82 hG79 F78 p_80 p_81 => ?_))))
            have F83 := FR.c F0 F78 tg_109
            refine b_ieq (pc := 84) rw_80_84 (A := r77.toInt) rfl (fun h84 => ?_) (fun h84 => ?_)
            · refine to_c (pc := 91) rw_80_91 (x := (3 : Int32)) rfl rfl (to_in (pc := 92) rw_80_92 rfl (to_in (pc := 93) rw_80_93 rfl (s_v (pc := 94) rw_80_94 (dp0 hd (by decide)) (ls0 := [.ref 1, .int (3 : Int32), .int x3, .int f]) rfl (Nat.le_of_ble_eq_true rfl) (Nat.le_of_ble_eq_true rfl) rfl (to_rc rfl rfl rfl (g_o hG79 rfl)) rfl ?_)))
              have k_85 : (3 : Int32).toInt = 3 := rfl
              refine C_82 hX (dp1 hd (by decide)) hG79 (t := (3 : Int32)) (v := x3) (w := f) (fun M89 hG87 F86 p_88 => ?_)
              have F90 := FR.c F83 F86 tg_110
              have b_91 := g_b hG87 (a := 1) (i := 5) (lo := 0) (hi := 501) rfl rfl
              refine to_i (pc := 97) rw_80_97 rfl (to_r0 (pc := 99) rw_80_99 ?_)
              exact h x4 M89 hG87 F90 (by omega) (by omega)
            · refine to_c (pc := 87) rw_80_87 (x := (4 : Int32)) rfl rfl (to_go (pc := 88) rw_80_88 (to_in (pc := 92) rw_80_92 rfl (to_in (pc := 93) rw_80_93 rfl (s_v (pc := 94) rw_80_94 (dp0 hd (by decide)) (ls0 := [.ref 1, .int (4 : Int32), .int x3, .int f]) rfl (Nat.le_of_ble_eq_true rfl) (Nat.le_of_ble_eq_true rfl) rfl (to_rc rfl rfl rfl (g_o hG79 rfl)) rfl ?_))))
              have k_92 : (4 : Int32).toInt = 4 := rfl
              refine C_82 hX (dp1 hd (by decide)) hG79 (t := (4 : Int32)) (v := x3) (w := f) (fun M96 hG94 F93 p_95 => ?_)
              have F97 := FR.c F83 F93 tg_110
              have b_98 := g_b hG94 (a := 1) (i := 5) (lo := 0) (hi := 501) rfl rfl
              refine to_i (pc := 97) rw_80_97 rfl (to_r0 (pc := 99) rw_80_99 ?_)
              exact h x4 M96 hG94 F97 (by omega) (by omega)
          · refine to_an (pc := 69) rw_80_69 rfl (to_c (pc := 70) rw_80_70 (x := (1 : Int32)) rfl rfl (to_c (pc := 71) rw_80_71 (x := (0 : Int32)) rfl rfl (to_in (pc := 72) rw_80_72 rfl (s_v (pc := 73) rw_80_73 (dp0 hd (by decide)) (ls0 := [.ref 1, .int (1 : Int32), .int (0 : Int32), .int f]) rfl (Nat.le_of_ble_eq_true rfl) (Nat.le_of_ble_eq_true rfl) rfl (to_rc rfl rfl rfl (g_o hG rfl)) rfl ?_))))
            have k_99 : (1 : Int32).toInt = 1 := rfl
            have k_100 : (0 : Int32).toInt = 0 := rfl
            refine C_82 hX (dp1 hd (by decide)) hG (t := (1 : Int32)) (v := (0 : Int32)) (w := f) (fun M104 hG102 F101 p_103 => ?_)
            have F105 := FR.c F0 F101 tg_110
            have b_106 := g_b hG102 (a := 1) (i := 5) (lo := 0) (hi := 501) rfl rfl
            refine to_go (pc := 76) rw_80_76 (to_i (pc := 97) rw_80_97 rfl (to_r0 (pc := 99) rw_80_99 ?_))
            exact h x4 M104 hG102 F105 (by omega) (by omega)
        · refine to_c (pc := 12) rw_93_12 (x := (1 : Int32)) rfl rfl (to_go (pc := 13) rw_93_13 (s_r1 (pc := 17) rw_93_17 (A := 1) rfl (by decide) (b_ieq_f (pc := 20) rw_80_20 (A := 1) rfl (by decide) (to_i (pc := 23) rw_80_23 rfl (to_in (pc := 25) rw_80_25 rfl (s_sub (pc := 26) rw_80_26 (A := x4.toInt) (B := f.toInt) rfl rfl (by omega) (fun v107 e108 => to_c (pc := 27) rw_80_27 (x := (6 : Int32)) rfl rfl (b_cge (pc := 29) rw_80_29 (A := v107.toInt) (B := 6) rfl rfl (fun h109 => ?_) (fun h109 => ?_)))))))))
          · refine s_inc (pc := 54) rw_80_54 (ls2 := fun v => [.ref 1, .int f, .int n, .int x3, .int v]) rfl rfl (fun _ => rfl) (A := x4.toInt) (B := 1) rfl rfl (by omega) (fun v110 e111 => to_go (pc := 57) rw_80_57 ?_)
            exact ih N x3 v110 hG F0 (by omega) (by omega) (by omega) (by omega) (by omega) (by omega) (by omega)
          · refine to_in (pc := 32) rw_80_32 rfl (to_an (pc := 33) rw_80_33 rfl (to_i (pc := 34) rw_80_34 rfl (s_v (pc := 36) rw_80_36 (dp0 hd (by decide)) (ls0 := [.ref 1, .int x4]) rfl (Nat.le_of_ble_eq_true rfl) (Nat.le_of_ble_eq_true rfl) rfl (to_rc rfl rfl rfl (g_o hG rfl)) rfl (to_in (pc := 0) rw_91_0 rfl (b_ilt_f (pc := 1) rw_91_1 (A := x4.toInt) rfl (by omega) (to_in (pc := 4) rw_91_4 rfl (to_an (pc := 5) rw_91_5 rfl (s_gR (pc := 6) rw_91_6 hG rfl (v := 2) rfl (s_len (pc := 9) rw_91_9 hG rfl rfl (n := 500) rfl (v := (500 : Int32)) rfl (b_cge_f (pc := 10) rw_91_10 (A := x4.toInt) (B := 500) rfl rfl (by omega) (to_an (pc := 13) rw_91_13 rfl ?_)))))))))))
            refine s_gR (pc := 14) rw_91_14 hG rfl (v := 2) rfl (to_in (pc := 17) rw_91_17 rfl (s_balk (pc := 18) rw_91_18 hG rfl (n := 500) rfl (A := x4.toInt) rfl (by omega) (by omega) (v := v35) w_36 (to_c (pc := 19) rw_91_19 (x := (255 : Int32)) rfl rfl (to_2 (pc := 22) rw_91_22 (v := v37) (congrArg some e38) (to_go (pc := 23) rw_91_23 (to_r0 (pc := 27) rw_91_27 (to_c (pc := 39) rw_80_39 (x := (31 : Int32)) rfl rfl (s_and (pc := 41) rw_80_41 (B := 31) rfl (by omega) (fun v116 e117 _ _ => to_c (pc := 42) rw_80_42 (x := (25 : Int32)) rfl rfl (to_c (pc := 44) rw_80_44 (x := (5 : Int32)) rfl rfl (to_i (pc := 45) rw_80_45 rfl ?_)))))))))))
            refine to_in (pc := 47) rw_80_47 rfl (s_sub (pc := 48) rw_80_48 (A := x4.toInt) (B := f.toInt) rfl rfl (by omega) (fun v118 e119 => s_mul (pc := 49) rw_80_49 (A := 5) (B := v118.toInt) rfl rfl (by omega) (fun v120 e121 => s_sub (pc := 50) rw_80_50 (A := 25) (B := v120.toInt) rfl rfl (by omega) (fun v122 e123 => s_any (pc := 51) rw_80_51 (fun _ _ => rfl) (fun v124 => s_any (pc := 52) rw_80_52 (fun _ _ => rfl) (fun v125 => to_isn (pc := 53) rw_80_53 (ls2 := [.ref 1, .int f, .int n, .int v125, .int x4]) rfl rfl (s_inc (pc := 54) rw_80_54 (ls2 := fun v => [.ref 1, .int f, .int n, .int v125, .int v]) rfl rfl (fun _ => rfl) (A := x4.toInt) (B := 1) rfl rfl (by omega) (fun v126 e127 => to_go (pc := 57) rw_80_57 ?_))))))))
            exact ih N v125 v126 hG F0 (by omega) (by omega) (by omega) (by omega) (by omega) (by omega) (by omega)
set_option maxRecDepth 4000 in
set_option maxHeartbeats 0 in
theorem C_80 {X : mm_X} {d : Nat} {M : mm_M} {Q : Option Value → mm_M → Prop} {f : Int32} {n : Int32} (hX : g_X X) (hd : 1 ≤ d) (hG : g_G M) (q1 : 0 ≤ f.toInt) (q2 : f.toInt ≤ 500) (q3 : 0 ≤ n.toInt) (q4 : n.toInt ≤ 500) (h : ∀ (r : Int32) (M1 : mm_M), g_G M1 → FR md_t M M1 → (f.toInt ≤ r.toInt) → (r.toInt ≤ 500) → Q (some (.int r)) M1) : mm_T X d 80 0 [.ref 1, .int f, .int n, .null, .null] [] M Q := by
  have F0 : FR md_t M M := FR.rf
  refine to_c (pc := 0) rw_80_0 (x := (0 : Int32)) rfl rfl (to_isn (pc := 1) rw_80_1 (ls2 := [.ref 1, .int f, .int n, .int (0 : Int32), .null]) rfl rfl (to_in (pc := 2) rw_80_2 rfl (to_is (pc := 3) rw_80_3 (ls2 := [.ref 1, .int f, .int n, .int (0 : Int32), .int f]) rfl rfl ?_)))
  have k_128 : (0 : Int32).toInt = 0 := rfl
  exact (T_80_0 (f := f) (n := n) hX hd q1 q2 q3 q4 h ((500 - f.toInt).toNat + 1)) M (0 : Int32) f hG F0 (by omega) (by omega) (by omega) (by omega) (by omega) (by omega) (by omega)
set_option maxRecDepth 4000 in
set_option maxHeartbeats 0 in
theorem T_81_0 {X : mm_X} {d : Nat} {M : mm_M} {Q : Option Value → mm_M → Prop} {f : Int32} {n : Int32} (hX : g_X X) (hd : 1 ≤ d) (q1 : 0 ≤ f.toInt) (q2 : f.toInt ≤ 500) (q3 : 0 ≤ n.toInt) (q4 : n.toInt ≤ 500) (h : ∀ (r : Int32) (M1 : mm_M), g_G M1 → FR md_t M M1 → (f.toInt ≤ r.toInt) → (r.toInt ≤ 500) → Q (some (.int r)) M1) : ∀ nn9 : Nat, (∀ (N : mm_M) (x3 : Int32) (x4 : Int32), g_G N → FR md_t M N → (0 ≤ x4.toInt) → (x4.toInt ≤ 500) → (f.toInt ≤ x4.toInt) → (0 ≤ f.toInt) → (n.toInt ≤ 500) → (x3.toInt ≤ 100) → (0 ≤ x3.toInt) → (f.toInt = f.toInt) → 500 - x4.toInt < (nn9 : Int) → mm_T X d 81 5 [.ref 1, .int f, .int n, .int x3, .int x4] [] N Q) := by
  intro nn9
  induction nn9 with
  | zero =>
    intro N x3 x4 hG F0 g1 g2 g3 g4 g5 g6 g7 g8 hm
    exfalso; omega
  | succ nn9 ih =>
    intro N x3 x4 hG F0 g1 g2 g3 g4 g5 g6 g7 g8 hm
    refine to_i (pc := 5) rw_81_5 rfl (to_in (pc := 7) rw_81_7 rfl (b_cge (pc := 8) rw_81_8 (A := x4.toInt) (B := n.toInt) rfl rfl (fun h1 => ?_) (fun h1 => ?_)))
    · refine to_an (pc := 49) rw_81_49 rfl (to_c (pc := 50) rw_81_50 (x := (2 : Int32)) rfl rfl (to_in (pc := 51) rw_81_51 rfl (to_in (pc := 52) rw_81_52 rfl (s_v (pc := 53) rw_81_53 (dp0 hd (by decide)) (ls0 := [.ref 1, .int (2 : Int32), .int x3, .int f]) rfl (Nat.le_of_ble_eq_true rfl) (Nat.le_of_ble_eq_true rfl) rfl (to_rc rfl rfl rfl (g_o hG rfl)) rfl ?_))))
      have k_2 : (2 : Int32).toInt = 2 := rfl
      refine C_82 hX (dp1 hd (by decide)) hG (t := (2 : Int32)) (v := x3) (w := f) (fun M6 hG4 F3 p_5 => ?_)
      have F7 := FR.c F0 F3 tg_110
      have b_8 := g_b hG4 (a := 1) (i := 5) (lo := 0) (hi := 501) rfl rfl
      refine to_i (pc := 56) rw_81_56 rfl (to_r0 (pc := 58) rw_81_58 ?_)
      exact h x4 M6 hG4 F7 (by omega) (by omega)
    · refine to_an (pc := 11) rw_81_11 rfl (to_i (pc := 12) rw_81_12 rfl (s_v (pc := 14) rw_81_14 (dp0 hd (by decide)) (ls0 := [.ref 1, .int x4]) rfl (Nat.le_of_ble_eq_true rfl) (Nat.le_of_ble_eq_true rfl) rfl (to_rc rfl rfl rfl (g_o hG rfl)) rfl (to_in (pc := 0) rw_91_0 rfl (b_ilt_f (pc := 1) rw_91_1 (A := x4.toInt) rfl (by omega) (to_in (pc := 4) rw_91_4 rfl (to_an (pc := 5) rw_91_5 rfl (s_gR (pc := 6) rw_91_6 hG rfl (v := 2) rfl (s_len (pc := 9) rw_91_9 hG rfl rfl (n := 500) rfl (v := (500 : Int32)) rfl (b_cge_f (pc := 10) rw_91_10 (A := x4.toInt) (B := 500) rfl rfl (by omega) (to_an (pc := 13) rw_91_13 rfl (s_gR (pc := 14) rw_91_14 hG rfl (v := 2) rfl ?_)))))))))))
      refine to_in (pc := 17) rw_91_17 rfl (s_bal (pc := 18) rw_91_18 hG rfl (n := 500) rfl (A := x4.toInt) rfl (by omega) (by omega) (lo := -2147483648) (hi := 2147483647) rfl rfl (fun v9 w_10 _ _ => to_c (pc := 19) rw_91_19 (x := (255 : Int32)) rfl rfl (s_and (pc := 22) rw_91_22 (B := 255) rfl (by omega) (fun v11 e12 _ _ => to_go (pc := 23) rw_91_23 (to_r0 (pc := 27) rw_91_27 (s_s (pc := 17) rw_81_17 (dp0 hd (by decide)) (ls0 := [.int v11]) rfl (Nat.le_of_ble_eq_true rfl) (Nat.le_of_ble_eq_true rfl) rfl (to_rcs rfl rfl) rfl (to_in (pc := 0) rw_94_0 rfl (to_c (pc := 1) rw_94_1 (x := (48 : Int32)) rfl rfl (b_clt (pc := 3) rw_94_3 (A := v11.toInt) (B := 48) rfl rfl (fun h13 => ?_) (fun h13 => ?_))))))))))
      · refine to_c (pc := 16) rw_94_16 (x := (0 : Int32)) rfl rfl (s_r1 (pc := 17) rw_94_17 (A := 0) rfl (by decide) (b_ieq_t (pc := 20) rw_81_20 (A := 0) rfl (by decide) (to_an (pc := 49) rw_81_49 rfl (to_c (pc := 50) rw_81_50 (x := (2 : Int32)) rfl rfl (to_in (pc := 51) rw_81_51 rfl (to_in (pc := 52) rw_81_52 rfl (s_v (pc := 53) rw_81_53 (dp0 hd (by decide)) (ls0 := [.ref 1, .int (2 : Int32), .int x3, .int f]) rfl (Nat.le_of_ble_eq_true rfl) (Nat.le_of_ble_eq_true rfl) rfl (to_rc rfl rfl rfl (g_o hG rfl)) rfl ?_)))))))
        have k_14 : (2 : Int32).toInt = 2 := rfl
        refine C_82 hX (dp1 hd (by decide)) hG (t := (2 : Int32)) (v := x3) (w := f) (fun M18 hG16 F15 p_17 => ?_)
        have F19 := FR.c F0 F15 tg_110
        have b_20 := g_b hG16 (a := 1) (i := 5) (lo := 0) (hi := 501) rfl rfl
        refine to_i (pc := 56) rw_81_56 rfl (to_r0 (pc := 58) rw_81_58 ?_)
        exact h x4 M18 hG16 F19 (by omega) (by omega)
      · refine to_in (pc := 6) rw_94_6 rfl (to_c (pc := 7) rw_94_7 (x := (57 : Int32)) rfl rfl (b_cgt (pc := 9) rw_94_9 (A := v11.toInt) (B := 57) rfl rfl (fun h21 => ?_) (fun h21 => ?_)))
        · refine to_c (pc := 16) rw_94_16 (x := (0 : Int32)) rfl rfl (s_r1 (pc := 17) rw_94_17 (A := 0) rfl (by decide) (b_ieq_t (pc := 20) rw_81_20 (A := 0) rfl (by decide) (to_an (pc := 49) rw_81_49 rfl (to_c (pc := 50) rw_81_50 (x := (2 : Int32)) rfl rfl (to_in (pc := 51) rw_81_51 rfl (to_in (pc := 52) rw_81_52 rfl (s_v (pc := 53) rw_81_53 (dp0 hd (by decide)) (ls0 := [.ref 1, .int (2 : Int32), .int x3, .int f]) rfl (Nat.le_of_ble_eq_true rfl) (Nat.le_of_ble_eq_true rfl) rfl (to_rc rfl rfl rfl (g_o hG rfl)) rfl ?_)))))))
          have k_22 : (2 : Int32).toInt = 2 := rfl
          refine C_82 hX (dp1 hd (by decide)) hG (t := (2 : Int32)) (v := x3) (w := f) (fun M26 hG24 F23 p_25 => ?_)
          have F27 := FR.c F0 F23 tg_110
          have b_28 := g_b hG24 (a := 1) (i := 5) (lo := 0) (hi := 501) rfl rfl
          refine to_i (pc := 56) rw_81_56 rfl (to_r0 (pc := 58) rw_81_58 ?_)
          exact h x4 M26 hG24 F27 (by omega) (by omega)
        · refine to_c (pc := 12) rw_94_12 (x := (1 : Int32)) rfl rfl (to_go (pc := 13) rw_94_13 (s_r1 (pc := 17) rw_94_17 (A := 1) rfl (by decide) (b_ieq_f (pc := 20) rw_81_20 (A := 1) rfl (by decide) (to_in (pc := 23) rw_81_23 rfl (to_c (pc := 24) rw_81_24 (x := (10 : Int32)) rfl rfl (s_mul (pc := 26) rw_81_26 (A := x3.toInt) (B := 10) rfl rfl (by omega) (fun v29 e30 => to_an (pc := 27) rw_81_27 rfl (to_i (pc := 28) rw_81_28 rfl (s_v (pc := 30) rw_81_30 (dp0 hd (by decide)) (ls0 := [.ref 1, .int x4]) rfl (Nat.le_of_ble_eq_true rfl) (Nat.le_of_ble_eq_true rfl) rfl (to_rc rfl rfl rfl (g_o hG rfl)) rfl (to_in (pc := 0) rw_91_0 rfl (b_ilt_f (pc := 1) rw_91_1 (A := x4.toInt) rfl (by omega) ?_)))))))))))
          refine to_in (pc := 4) rw_91_4 rfl (to_an (pc := 5) rw_91_5 rfl (s_gR (pc := 6) rw_91_6 hG rfl (v := 2) rfl (s_len (pc := 9) rw_91_9 hG rfl rfl (n := 500) rfl (v := (500 : Int32)) rfl (b_cge_f (pc := 10) rw_91_10 (A := x4.toInt) (B := 500) rfl rfl (by omega) (to_an (pc := 13) rw_91_13 rfl (s_gR (pc := 14) rw_91_14 hG rfl (v := 2) rfl (to_in (pc := 17) rw_91_17 rfl (s_balk (pc := 18) rw_91_18 hG rfl (n := 500) rfl (A := x4.toInt) rfl (by omega) (by omega) (v := v9) w_10 (to_c (pc := 19) rw_91_19 (x := (255 : Int32)) rfl rfl (to_2 (pc := 22) rw_91_22 (v := v11) (congrArg some e12) (to_go (pc := 23) rw_91_23 ?_)))))))))))
          refine to_r0 (pc := 27) rw_91_27 (s_add (pc := 33) rw_81_33 (A := v29.toInt) (B := v11.toInt) rfl rfl (by omega) (fun v35 e36 => to_c (pc := 34) rw_81_34 (x := (48 : Int32)) rfl rfl (s_sub (pc := 36) rw_81_36 (A := v35.toInt) (B := 48) rfl rfl (by omega) (fun v37 e38 => to_c (pc := 37) rw_81_37 (x := (100 : Int32)) rfl rfl (s_min (pc := 39) rw_81_39 rfl (A := v37.toInt) (B := 100) rfl rfl (fun v39 _ _ _ => to_isn (pc := 42) rw_81_42 (ls2 := [.ref 1, .int f, .int n, .int v39, .int x4]) rfl rfl (s_inc (pc := 43) rw_81_43 (ls2 := fun v => [.ref 1, .int f, .int n, .int v39, .int v]) rfl rfl (fun _ => rfl) (A := x4.toInt) (B := 1) rfl rfl (by omega) (fun v40 e41 => to_go (pc := 46) rw_81_46 ?_))))))))
          exact ih N v39 v40 hG F0 (by omega) (by omega) (by omega) (by omega) (by omega) (by omega) (by omega) (by omega) (by omega)
set_option maxRecDepth 4000 in
set_option maxHeartbeats 0 in
theorem C_81 {X : mm_X} {d : Nat} {M : mm_M} {Q : Option Value → mm_M → Prop} {f : Int32} {n : Int32} (hX : g_X X) (hd : 1 ≤ d) (hG : g_G M) (q1 : 0 ≤ f.toInt) (q2 : f.toInt ≤ 500) (q3 : 0 ≤ n.toInt) (q4 : n.toInt ≤ 500) (h : ∀ (r : Int32) (M1 : mm_M), g_G M1 → FR md_t M M1 → (f.toInt ≤ r.toInt) → (r.toInt ≤ 500) → Q (some (.int r)) M1) : mm_T X d 81 0 [.ref 1, .int f, .int n, .null, .null] [] M Q := by
  have F0 : FR md_t M M := FR.rf
  refine to_c (pc := 0) rw_81_0 (x := (0 : Int32)) rfl rfl (to_isn (pc := 1) rw_81_1 (ls2 := [.ref 1, .int f, .int n, .int (0 : Int32), .null]) rfl rfl (to_in (pc := 2) rw_81_2 rfl (to_is (pc := 3) rw_81_3 (ls2 := [.ref 1, .int f, .int n, .int (0 : Int32), .int f]) rfl rfl ?_)))
  have k_42 : (0 : Int32).toInt = 0 := rfl
  exact (T_81_0 (f := f) (n := n) hX hd q1 q2 q3 q4 h ((500 - f.toInt).toNat + 1)) M (0 : Int32) f hG F0 (by omega) (by omega) (by omega) (by omega) (by omega) (by omega) (by omega) (by omega) (by omega)
set_option maxRecDepth 4000 in
set_option maxHeartbeats 0 in
theorem T_79_0 {X : mm_X} {d : Nat} {M : mm_M} {Q : Option Value → mm_M → Prop} {n : Int32} (hX : g_X X) (hd : 2 ≤ d) (q1 : 0 ≤ n.toInt) (q2 : n.toInt ≤ 500) (h : ∀ (M1 : mm_M), g_G M1 → FR md_t M M1 → (1 ≤ (M1.2.1 1 5).toInt) → Q (none) M1) : ∀ nn9 : Nat, (∀ (N : mm_M) (x2 : Int32) (u3 : Value) (u4 : Value), g_G N → FR md_t M N → (0 ≤ x2.toInt) → (x2.toInt ≤ 500) → (0 ≤ n.toInt) → (n.toInt ≤ 500) → 500 - x2.toInt < (nn9 : Int) → mm_T X d 79 7 [.ref 1, .int n, .int x2, u3, u4] [] N Q) := by
  intro nn9
  induction nn9 with
  | zero =>
    intro N x2 u3 u4 hG F0 g1 g2 g3 g4 hm
    exfalso; omega
  | succ nn9 ih =>
    intro N x2 u3 u4 hG F0 g1 g2 g3 g4 hm
    refine to_in (pc := 7) rw_79_7 rfl (to_in (pc := 8) rw_79_8 rfl (b_cge (pc := 9) rw_79_9 (A := x2.toInt) (B := n.toInt) rfl rfl (fun h1 => ?_) (fun h1 => ?_)))
    · refine to_an (pc := 96) rw_79_96 rfl (to_c (pc := 97) rw_79_97 (x := (0 : Int32)) rfl rfl (to_c (pc := 98) rw_79_98 (x := (0 : Int32)) rfl rfl (to_in (pc := 99) rw_79_99 rfl (s_v (pc := 100) rw_79_100 (dp0 hd (by decide)) (ls0 := [.ref 1, .int (0 : Int32), .int (0 : Int32), .int n]) rfl (Nat.le_of_ble_eq_true rfl) (Nat.le_of_ble_eq_true rfl) rfl (to_rc rfl rfl rfl (g_o hG rfl)) rfl ?_))))
      have k_2 : (0 : Int32).toInt = 0 := rfl
      refine C_82 hX (dp1 hd (by decide)) hG (t := (0 : Int32)) (v := (0 : Int32)) (w := n) (fun M6 hG4 F3 p_5 => ?_)
      have F7 := FR.c F0 F3 tg_110
      have b_8 := g_b hG4 (a := 1) (i := 5) (lo := 0) (hi := 501) rfl rfl
      refine to_rv (pc := 103) rw_79_103 ?_
      exact h M6 hG4 F7 (by omega)
    · refine to_an (pc := 12) rw_79_12 rfl (to_in (pc := 13) rw_79_13 rfl (s_v (pc := 14) rw_79_14 (dp0 hd (by decide)) (ls0 := [.ref 1, .int x2]) rfl (Nat.le_of_ble_eq_true rfl) (Nat.le_of_ble_eq_true rfl) rfl (to_rc rfl rfl rfl (g_o hG rfl)) rfl (to_in (pc := 0) rw_91_0 rfl (b_ilt_f (pc := 1) rw_91_1 (A := x2.toInt) rfl (by omega) (to_in (pc := 4) rw_91_4 rfl (to_an (pc := 5) rw_91_5 rfl (s_gR (pc := 6) rw_91_6 hG rfl (v := 2) rfl (s_len (pc := 9) rw_91_9 hG rfl rfl (n := 500) rfl (v := (500 : Int32)) rfl (b_cge_f (pc := 10) rw_91_10 (A := x2.toInt) (B := 500) rfl rfl (by omega) (to_an (pc := 13) rw_91_13 rfl (s_gR (pc := 14) rw_91_14 hG rfl (v := 2) rfl ?_)))))))))))
      refine to_in (pc := 17) rw_91_17 rfl (s_bal (pc := 18) rw_91_18 hG rfl (n := 500) rfl (A := x2.toInt) rfl (by omega) (by omega) (lo := -2147483648) (hi := 2147483647) rfl rfl (fun v9 w_10 _ _ => to_c (pc := 19) rw_91_19 (x := (255 : Int32)) rfl rfl (s_and (pc := 22) rw_91_22 (B := 255) rfl (by omega) (fun v11 e12 _ _ => to_go (pc := 23) rw_91_23 (to_r0 (pc := 27) rw_91_27 (to_isn (pc := 17) rw_79_17 (ls2 := [.ref 1, .int n, .int x2, .int v11, u4]) rfl rfl (to_in (pc := 18) rw_79_18 rfl (to_c (pc := 19) rw_79_19 (x := (1 : Int32)) rfl rfl (s_add (pc := 20) rw_79_20 (A := x2.toInt) (B := 1) rfl rfl (by omega) (fun v13 e14 => to_is (pc := 21) rw_79_21 (ls2 := [.ref 1, .int n, .int x2, .int v11, .int v13]) rfl rfl (to_in (pc := 23) rw_79_23 rfl ?_)))))))))))
      refine s_s (pc := 24) rw_79_24 (dp0 hd (by decide)) (ls0 := [.int v11]) rfl (Nat.le_of_ble_eq_true rfl) (Nat.le_of_ble_eq_true rfl) rfl (to_rcs rfl rfl) rfl (to_in (pc := 0) rw_93_0 rfl (to_c (pc := 1) rw_93_1 (x := (97 : Int32)) rfl rfl (b_clt (pc := 3) rw_93_3 (A := v11.toInt) (B := 97) rfl rfl (fun h15 => ?_) (fun h15 => ?_))))
      · refine to_c (pc := 16) rw_93_16 (x := (0 : Int32)) rfl rfl (s_r1 (pc := 17) rw_93_17 (A := 0) rfl (by decide) (b_ieq_t (pc := 27) rw_79_27 (A := 0) rfl (by decide) (to_in (pc := 41) rw_79_41 rfl (s_s (pc := 42) rw_79_42 (dp0 hd (by decide)) (ls0 := [.int v11]) rfl (Nat.le_of_ble_eq_true rfl) (Nat.le_of_ble_eq_true rfl) rfl (to_rcs rfl rfl) rfl (to_in (pc := 0) rw_94_0 rfl (to_c (pc := 1) rw_94_1 (x := (48 : Int32)) rfl rfl (b_clt (pc := 3) rw_94_3 (A := v11.toInt) (B := 48) rfl rfl (fun h16 => ?_) (fun h16 => ?_))))))))
        · refine to_c (pc := 16) rw_94_16 (x := (0 : Int32)) rfl rfl (s_r1 (pc := 17) rw_94_17 (A := 0) rfl (by decide) (b_ieq_t (pc := 45) rw_79_45 (A := 0) rfl (by decide) (to_in (pc := 59) rw_79_59 rfl (s_s (pc := 60) rw_79_60 (dp0 hd (by decide)) (ls0 := [.int v11]) rfl (Nat.le_of_ble_eq_true rfl) (Nat.le_of_ble_eq_true rfl) rfl (to_rcs rfl rfl) rfl (to_in (pc := 0) rw_92_0 rfl (to_c (pc := 1) rw_92_1 (x := (10 : Int32)) rfl rfl (b_ceq (pc := 3) rw_92_3 (A := v11.toInt) (B := 10) rfl rfl (fun h17 => ?_) (fun h17 => ?_))))))))
          · refine to_c (pc := 12) rw_92_12 (x := (1 : Int32)) rfl rfl (to_go (pc := 13) rw_92_13 (s_r1 (pc := 17) rw_92_17 (A := 1) rfl (by decide) (b_ine_t (pc := 63) rw_79_63 (A := 1) rfl (by decide) (to_in (pc := 84) rw_79_84 rfl (to_c (pc := 85) rw_79_85 (x := (1 : Int32)) rfl rfl (s_add (pc := 86) rw_79_86 (A := x2.toInt) (B := 1) rfl rfl (by omega) (fun v18 e19 => to_i (pc := 87) rw_79_87 rfl (s_max (pc := 89) rw_79_89 rfl (A := v18.toInt) (B := v13.toInt) rfl rfl (fun v20 _ _ _ => to_isn (pc := 92) rw_79_92 (ls2 := [.ref 1, .int n, .int v20, .int v11, .int v13]) rfl rfl (to_go (pc := 93) rw_79_93 ?_))))))))))
            exact ih N v20 (.int v11) (.int v13) hG F0 (by omega) (by omega) (by omega) (by omega) (by omega)
          · refine to_in (pc := 6) rw_92_6 rfl (to_c (pc := 7) rw_92_7 (x := (32 : Int32)) rfl rfl (b_cne (pc := 9) rw_92_9 (A := v11.toInt) (B := 32) rfl rfl (fun h21 => ?_) (fun h21 => ?_)))
            · refine to_c (pc := 16) rw_92_16 (x := (0 : Int32)) rfl rfl (s_r1 (pc := 17) rw_92_17 (A := 0) rfl (by decide) (b_ine_f (pc := 63) rw_79_63 (A := 0) rfl (by decide) (to_an (pc := 66) rw_79_66 rfl (to_in (pc := 67) rw_79_67 rfl (s_s (pc := 68) rw_79_68 (dp0 hd (by decide)) (ls0 := [.int v11]) rfl (Nat.le_of_ble_eq_true rfl) (Nat.le_of_ble_eq_true rfl) rfl (to_rcs rfl rfl) rfl (to_in (pc := 0) rw_95_0 rfl (to_c (pc := 1) rw_95_1 (x := (59 : Int32)) rfl rfl (b_ceq_f (pc := 3) rw_95_3 (A := v11.toInt) (B := 59) rfl rfl (by omega) (to_in (pc := 6) rw_95_6 rfl (to_c (pc := 7) rw_95_7 (x := (40 : Int32)) rfl rfl (b_ceq (pc := 9) rw_95_9 (A := v11.toInt) (B := 40) rfl rfl (fun h22 => ?_) (fun h22 => ?_))))))))))))
              · refine to_c (pc := 24) rw_95_24 (x := (1 : Int32)) rfl rfl (to_go (pc := 25) rw_95_25 (s_r1 (pc := 29) rw_95_29 (A := 1) rfl (by decide) (b_ieq_f (pc := 71) rw_79_71 (A := 1) rfl (by decide) (to_in (pc := 74) rw_79_74 rfl (to_go (pc := 75) rw_79_75 (to_c (pc := 79) rw_79_79 (x := (0 : Int32)) rfl rfl (to_in (pc := 80) rw_79_80 rfl (s_v (pc := 81) rw_79_81 (dp0 hd (by decide)) (ls0 := [.ref 1, .int v11, .int (0 : Int32), .int x2]) rfl (Nat.le_of_ble_eq_true rfl) (Nat.le_of_ble_eq_true rfl) rfl (to_rc rfl rfl rfl (g_o hG rfl)) rfl ?_))))))))
                have k_23 : (0 : Int32).toInt = 0 := rfl
                refine C_82 hX (dp1 hd (by decide)) hG (t := v11) (v := (0 : Int32)) (w := x2) (fun M27 hG25 F24 p_26 => ?_)
                have F28 := FR.c F0 F24 tg_110
                have b_29 := g_b hG25 (a := 1) (i := 5) (lo := 0) (hi := 501) rfl rfl
                refine to_in (pc := 84) rw_79_84 rfl (to_c (pc := 85) rw_79_85 (x := (1 : Int32)) rfl rfl (s_add (pc := 86) rw_79_86 (A := x2.toInt) (B := 1) rfl rfl (by omega) (fun v30 e31 => to_i (pc := 87) rw_79_87 rfl (s_max (pc := 89) rw_79_89 rfl (A := v30.toInt) (B := v13.toInt) rfl rfl (fun v32 _ _ _ => to_isn (pc := 92) rw_79_92 (ls2 := [.ref 1, .int n, .int v32, .int v11, .int v13]) rfl rfl (to_go (pc := 93) rw_79_93 ?_))))))
                exact ih M27 v32 (.int v11) (.int v13) hG25 F28 (by omega) (by omega) (by omega) (by omega) (by omega)
              · refine to_in (pc := 12) rw_95_12 rfl (to_c (pc := 13) rw_95_13 (x := (41 : Int32)) rfl rfl (b_ceq (pc := 15) rw_95_15 (A := v11.toInt) (B := 41) rfl rfl (fun h33 => ?_) (fun h33 => ?_)))
                · refine to_c (pc := 24) rw_95_24 (x := (1 : Int32)) rfl rfl (to_go (pc := 25) rw_95_25 (s_r1 (pc := 29) rw_95_29 (A := 1) rfl (by decide) (b_ieq_f (pc := 71) rw_79_71 (A := 1) rfl (by decide) (to_in (pc := 74) rw_79_74 rfl (to_go (pc := 75) rw_79_75 (to_c (pc := 79) rw_79_79 (x := (0 : Int32)) rfl rfl (to_in (pc := 80) rw_79_80 rfl (s_v (pc := 81) rw_79_81 (dp0 hd (by decide)) (ls0 := [.ref 1, .int v11, .int (0 : Int32), .int x2]) rfl (Nat.le_of_ble_eq_true rfl) (Nat.le_of_ble_eq_true rfl) rfl (to_rc rfl rfl rfl (g_o hG rfl)) rfl ?_))))))))
                  have k_34 : (0 : Int32).toInt = 0 := rfl
                  refine C_82 hX (dp1 hd (by decide)) hG (t := v11) (v := (0 : Int32)) (w := x2) (fun M38 hG36 F35 p_37 => ?_)
                  have F39 := FR.c F0 F35 tg_110
                  have b_40 := g_b hG36 (a := 1) (i := 5) (lo := 0) (hi := 501) rfl rfl
                  refine to_in (pc := 84) rw_79_84 rfl (to_c (pc := 85) rw_79_85 (x := (1 : Int32)) rfl rfl (s_add (pc := 86) rw_79_86 (A := x2.toInt) (B := 1) rfl rfl (by omega) (fun v41 e42 => to_i (pc := 87) rw_79_87 rfl (s_max (pc := 89) rw_79_89 rfl (A := v41.toInt) (B := v13.toInt) rfl rfl (fun v43 _ _ _ => to_isn (pc := 92) rw_79_92 (ls2 := [.ref 1, .int n, .int v43, .int v11, .int v13]) rfl rfl (to_go (pc := 93) rw_79_93 ?_))))))
                  exact ih M38 v43 (.int v11) (.int v13) hG36 F39 (by omega) (by omega) (by omega) (by omega) (by omega)
                · refine to_in (pc := 18) rw_95_18 rfl (to_c (pc := 19) rw_95_19 (x := (61 : Int32)) rfl rfl (b_cne_t (pc := 21) rw_95_21 (A := v11.toInt) (B := 61) rfl rfl (by omega) (to_c (pc := 28) rw_95_28 (x := (0 : Int32)) rfl rfl (s_r1 (pc := 29) rw_95_29 (A := 0) rfl (by decide) (b_ieq_t (pc := 71) rw_79_71 (A := 0) rfl (by decide) (to_c (pc := 78) rw_79_78 (x := (1 : Int32)) rfl rfl (to_c (pc := 79) rw_79_79 (x := (0 : Int32)) rfl rfl (to_in (pc := 80) rw_79_80 rfl (s_v (pc := 81) rw_79_81 (dp0 hd (by decide)) (ls0 := [.ref 1, .int (1 : Int32), .int (0 : Int32), .int x2]) rfl (Nat.le_of_ble_eq_true rfl) (Nat.le_of_ble_eq_true rfl) rfl (to_rc rfl rfl rfl (g_o hG rfl)) rfl ?_)))))))))
                  have k_44 : (1 : Int32).toInt = 1 := rfl
                  have k_45 : (0 : Int32).toInt = 0 := rfl
                  refine C_82 hX (dp1 hd (by decide)) hG (t := (1 : Int32)) (v := (0 : Int32)) (w := x2) (fun M49 hG47 F46 p_48 => ?_)
                  have F50 := FR.c F0 F46 tg_110
                  have b_51 := g_b hG47 (a := 1) (i := 5) (lo := 0) (hi := 501) rfl rfl
                  refine to_in (pc := 84) rw_79_84 rfl (to_c (pc := 85) rw_79_85 (x := (1 : Int32)) rfl rfl (s_add (pc := 86) rw_79_86 (A := x2.toInt) (B := 1) rfl rfl (by omega) (fun v52 e53 => to_i (pc := 87) rw_79_87 rfl (s_max (pc := 89) rw_79_89 rfl (A := v52.toInt) (B := v13.toInt) rfl rfl (fun v54 _ _ _ => to_isn (pc := 92) rw_79_92 (ls2 := [.ref 1, .int n, .int v54, .int v11, .int v13]) rfl rfl (to_go (pc := 93) rw_79_93 ?_))))))
                  exact ih M49 v54 (.int v11) (.int v13) hG47 F50 (by omega) (by omega) (by omega) (by omega) (by omega)
            · refine to_c (pc := 12) rw_92_12 (x := (1 : Int32)) rfl rfl (to_go (pc := 13) rw_92_13 (s_r1 (pc := 17) rw_92_17 (A := 1) rfl (by decide) (b_ine_t (pc := 63) rw_79_63 (A := 1) rfl (by decide) (to_in (pc := 84) rw_79_84 rfl (to_c (pc := 85) rw_79_85 (x := (1 : Int32)) rfl rfl (s_add (pc := 86) rw_79_86 (A := x2.toInt) (B := 1) rfl rfl (by omega) (fun v55 e56 => to_i (pc := 87) rw_79_87 rfl (s_max (pc := 89) rw_79_89 rfl (A := v55.toInt) (B := v13.toInt) rfl rfl (fun v57 _ _ _ => to_isn (pc := 92) rw_79_92 (ls2 := [.ref 1, .int n, .int v57, .int v11, .int v13]) rfl rfl (to_go (pc := 93) rw_79_93 ?_))))))))))
              exact ih N v57 (.int v11) (.int v13) hG F0 (by omega) (by omega) (by omega) (by omega) (by omega)
        · refine to_in (pc := 6) rw_94_6 rfl (to_c (pc := 7) rw_94_7 (x := (57 : Int32)) rfl rfl (b_cgt (pc := 9) rw_94_9 (A := v11.toInt) (B := 57) rfl rfl (fun h58 => ?_) (fun h58 => ?_)))
          · refine to_c (pc := 16) rw_94_16 (x := (0 : Int32)) rfl rfl (s_r1 (pc := 17) rw_94_17 (A := 0) rfl (by decide) (b_ieq_t (pc := 45) rw_79_45 (A := 0) rfl (by decide) (to_in (pc := 59) rw_79_59 rfl (s_s (pc := 60) rw_79_60 (dp0 hd (by decide)) (ls0 := [.int v11]) rfl (Nat.le_of_ble_eq_true rfl) (Nat.le_of_ble_eq_true rfl) rfl (to_rcs rfl rfl) rfl (to_in (pc := 0) rw_92_0 rfl (to_c (pc := 1) rw_92_1 (x := (10 : Int32)) rfl rfl (b_ceq_f (pc := 3) rw_92_3 (A := v11.toInt) (B := 10) rfl rfl (by omega) (to_in (pc := 6) rw_92_6 rfl (to_c (pc := 7) rw_92_7 (x := (32 : Int32)) rfl rfl (b_cne_t (pc := 9) rw_92_9 (A := v11.toInt) (B := 32) rfl rfl (by omega) (to_c (pc := 16) rw_92_16 (x := (0 : Int32)) rfl rfl ?_)))))))))))
            refine s_r1 (pc := 17) rw_92_17 (A := 0) rfl (by decide) (b_ine_f (pc := 63) rw_79_63 (A := 0) rfl (by decide) (to_an (pc := 66) rw_79_66 rfl (to_in (pc := 67) rw_79_67 rfl (s_s (pc := 68) rw_79_68 (dp0 hd (by decide)) (ls0 := [.int v11]) rfl (Nat.le_of_ble_eq_true rfl) (Nat.le_of_ble_eq_true rfl) rfl (to_rcs rfl rfl) rfl (to_in (pc := 0) rw_95_0 rfl (to_c (pc := 1) rw_95_1 (x := (59 : Int32)) rfl rfl (b_ceq (pc := 3) rw_95_3 (A := v11.toInt) (B := 59) rfl rfl (fun h59 => ?_) (fun h59 => ?_))))))))
            · refine to_c (pc := 24) rw_95_24 (x := (1 : Int32)) rfl rfl (to_go (pc := 25) rw_95_25 (s_r1 (pc := 29) rw_95_29 (A := 1) rfl (by decide) (b_ieq_f (pc := 71) rw_79_71 (A := 1) rfl (by decide) (to_in (pc := 74) rw_79_74 rfl (to_go (pc := 75) rw_79_75 (to_c (pc := 79) rw_79_79 (x := (0 : Int32)) rfl rfl (to_in (pc := 80) rw_79_80 rfl (s_v (pc := 81) rw_79_81 (dp0 hd (by decide)) (ls0 := [.ref 1, .int v11, .int (0 : Int32), .int x2]) rfl (Nat.le_of_ble_eq_true rfl) (Nat.le_of_ble_eq_true rfl) rfl (to_rc rfl rfl rfl (g_o hG rfl)) rfl ?_))))))))
              have k_60 : (0 : Int32).toInt = 0 := rfl
              refine C_82 hX (dp1 hd (by decide)) hG (t := v11) (v := (0 : Int32)) (w := x2) (fun M64 hG62 F61 p_63 => ?_)
              have F65 := FR.c F0 F61 tg_110
              have b_66 := g_b hG62 (a := 1) (i := 5) (lo := 0) (hi := 501) rfl rfl
              refine to_in (pc := 84) rw_79_84 rfl (to_c (pc := 85) rw_79_85 (x := (1 : Int32)) rfl rfl (s_add (pc := 86) rw_79_86 (A := x2.toInt) (B := 1) rfl rfl (by omega) (fun v67 e68 => to_i (pc := 87) rw_79_87 rfl (s_max (pc := 89) rw_79_89 rfl (A := v67.toInt) (B := v13.toInt) rfl rfl (fun v69 _ _ _ => to_isn (pc := 92) rw_79_92 (ls2 := [.ref 1, .int n, .int v69, .int v11, .int v13]) rfl rfl (to_go (pc := 93) rw_79_93 ?_))))))
              exact ih M64 v69 (.int v11) (.int v13) hG62 F65 (by omega) (by omega) (by omega) (by omega) (by omega)
            · refine to_in (pc := 6) rw_95_6 rfl (to_c (pc := 7) rw_95_7 (x := (40 : Int32)) rfl rfl (b_ceq_f (pc := 9) rw_95_9 (A := v11.toInt) (B := 40) rfl rfl (by omega) (to_in (pc := 12) rw_95_12 rfl (to_c (pc := 13) rw_95_13 (x := (41 : Int32)) rfl rfl (b_ceq_f (pc := 15) rw_95_15 (A := v11.toInt) (B := 41) rfl rfl (by omega) (to_in (pc := 18) rw_95_18 rfl (to_c (pc := 19) rw_95_19 (x := (61 : Int32)) rfl rfl (b_cne (pc := 21) rw_95_21 (A := v11.toInt) (B := 61) rfl rfl (fun h70 => ?_) (fun h70 => ?_)))))))))
              · refine to_c (pc := 28) rw_95_28 (x := (0 : Int32)) rfl rfl (s_r1 (pc := 29) rw_95_29 (A := 0) rfl (by decide) (b_ieq_t (pc := 71) rw_79_71 (A := 0) rfl (by decide) (to_c (pc := 78) rw_79_78 (x := (1 : Int32)) rfl rfl (to_c (pc := 79) rw_79_79 (x := (0 : Int32)) rfl rfl (to_in (pc := 80) rw_79_80 rfl (s_v (pc := 81) rw_79_81 (dp0 hd (by decide)) (ls0 := [.ref 1, .int (1 : Int32), .int (0 : Int32), .int x2]) rfl (Nat.le_of_ble_eq_true rfl) (Nat.le_of_ble_eq_true rfl) rfl (to_rc rfl rfl rfl (g_o hG rfl)) rfl ?_))))))
                have k_71 : (1 : Int32).toInt = 1 := rfl
                have k_72 : (0 : Int32).toInt = 0 := rfl
                refine C_82 hX (dp1 hd (by decide)) hG (t := (1 : Int32)) (v := (0 : Int32)) (w := x2) (fun M76 hG74 F73 p_75 => ?_)
                have F77 := FR.c F0 F73 tg_110
                have b_78 := g_b hG74 (a := 1) (i := 5) (lo := 0) (hi := 501) rfl rfl
                refine to_in (pc := 84) rw_79_84 rfl (to_c (pc := 85) rw_79_85 (x := (1 : Int32)) rfl rfl (s_add (pc := 86) rw_79_86 (A := x2.toInt) (B := 1) rfl rfl (by omega) (fun v79 e80 => to_i (pc := 87) rw_79_87 rfl (s_max (pc := 89) rw_79_89 rfl (A := v79.toInt) (B := v13.toInt) rfl rfl (fun v81 _ _ _ => to_isn (pc := 92) rw_79_92 (ls2 := [.ref 1, .int n, .int v81, .int v11, .int v13]) rfl rfl (to_go (pc := 93) rw_79_93 ?_))))))
                exact ih M76 v81 (.int v11) (.int v13) hG74 F77 (by omega) (by omega) (by omega) (by omega) (by omega)
              · refine to_c (pc := 24) rw_95_24 (x := (1 : Int32)) rfl rfl (to_go (pc := 25) rw_95_25 (s_r1 (pc := 29) rw_95_29 (A := 1) rfl (by decide) (b_ieq_f (pc := 71) rw_79_71 (A := 1) rfl (by decide) (to_in (pc := 74) rw_79_74 rfl (to_go (pc := 75) rw_79_75 (to_c (pc := 79) rw_79_79 (x := (0 : Int32)) rfl rfl (to_in (pc := 80) rw_79_80 rfl (s_v (pc := 81) rw_79_81 (dp0 hd (by decide)) (ls0 := [.ref 1, .int v11, .int (0 : Int32), .int x2]) rfl (Nat.le_of_ble_eq_true rfl) (Nat.le_of_ble_eq_true rfl) rfl (to_rc rfl rfl rfl (g_o hG rfl)) rfl ?_))))))))
                have k_82 : (0 : Int32).toInt = 0 := rfl
                refine C_82 hX (dp1 hd (by decide)) hG (t := v11) (v := (0 : Int32)) (w := x2) (fun M86 hG84 F83 p_85 => ?_)
                have F87 := FR.c F0 F83 tg_110
                have b_88 := g_b hG84 (a := 1) (i := 5) (lo := 0) (hi := 501) rfl rfl
                refine to_in (pc := 84) rw_79_84 rfl (to_c (pc := 85) rw_79_85 (x := (1 : Int32)) rfl rfl (s_add (pc := 86) rw_79_86 (A := x2.toInt) (B := 1) rfl rfl (by omega) (fun v89 e90 => to_i (pc := 87) rw_79_87 rfl (s_max (pc := 89) rw_79_89 rfl (A := v89.toInt) (B := v13.toInt) rfl rfl (fun v91 _ _ _ => to_isn (pc := 92) rw_79_92 (ls2 := [.ref 1, .int n, .int v91, .int v11, .int v13]) rfl rfl (to_go (pc := 93) rw_79_93 ?_))))))
                exact ih M86 v91 (.int v11) (.int v13) hG84 F87 (by omega) (by omega) (by omega) (by omega) (by omega)
          · refine to_c (pc := 12) rw_94_12 (x := (1 : Int32)) rfl rfl (to_go (pc := 13) rw_94_13 (s_r1 (pc := 17) rw_94_17 (A := 1) rfl (by decide) (b_ieq_f (pc := 45) rw_79_45 (A := 1) rfl (by decide) (to_an (pc := 48) rw_79_48 rfl (to_in (pc := 49) rw_79_49 rfl (to_in (pc := 50) rw_79_50 rfl (s_v (pc := 51) rw_79_51 (dp0 hd (by decide)) (ls0 := [.ref 1, .int x2, .int n, .null, .null]) rfl (Nat.le_of_ble_eq_true rfl) (Nat.le_of_ble_eq_true rfl) rfl (to_rc rfl rfl rfl (g_o hG rfl)) rfl (C_81 hX (dp1 hd (by decide)) hG (by omega) (by omega) (by omega) (by omega) (f := x2) (n := n) (fun r92 M97 hG94 F93 p_95 p_96 => ?_)))))))))
            have F98 := FR.c F0 F93 tg_110
            refine to_is (pc := 54) rw_79_54 (ls2 := [.ref 1, .int n, .int x2, .int v11, .int r92]) rfl rfl (to_go (pc := 56) rw_79_56 (to_in (pc := 84) rw_79_84 rfl (to_c (pc := 85) rw_79_85 (x := (1 : Int32)) rfl rfl (s_add (pc := 86) rw_79_86 (A := x2.toInt) (B := 1) rfl rfl (by omega) (fun v99 e100 => to_i (pc := 87) rw_79_87 rfl (s_max (pc := 89) rw_79_89 rfl (A := v99.toInt) (B := r92.toInt) rfl rfl (fun v101 _ _ _ => to_isn (pc := 92) rw_79_92 (ls2 := [.ref 1, .int n, .int v101, .int v11, .int r92]) rfl rfl (to_go (pc := 93) rw_79_93 ?_))))))))
            exact ih M97 v101 (.int v11) (.int r92) hG94 F98 (by omega) (by omega) (by omega) (by omega) (by omega)
      · refine to_in (pc := 6) rw_93_6 rfl (to_c (pc := 7) rw_93_7 (x := (122 : Int32)) rfl rfl (b_cgt (pc := 9) rw_93_9 (A := v11.toInt) (B := 122) rfl rfl (fun h102 => ?_) (fun h102 => ?_)))
        · refine to_c (pc := 16) rw_93_16 (x := (0 : Int32)) rfl rfl (s_r1 (pc := 17) rw_93_17 (A := 0) rfl (by decide) (b_ieq_t (pc := 27) rw_79_27 (A := 0) rfl (by decide) (to_in (pc := 41) rw_79_41 rfl (s_s (pc := 42) rw_79_42 (dp0 hd (by decide)) (ls0 := [.int v11]) rfl (Nat.le_of_ble_eq_true rfl) (Nat.le_of_ble_eq_true rfl) rfl (to_rcs rfl rfl) rfl (to_in (pc := 0) rw_94_0 rfl (to_c (pc := 1) rw_94_1 (x := (48 : Int32)) rfl rfl (b_clt_f (pc := 3) rw_94_3 (A := v11.toInt) (B := 48) rfl rfl (by omega) (to_in (pc := 6) rw_94_6 rfl (to_c (pc := 7) rw_94_7 (x := (57 : Int32)) rfl rfl (b_cgt_t (pc := 9) rw_94_9 (A := v11.toInt) (B := 57) rfl rfl (by omega) (to_c (pc := 16) rw_94_16 (x := (0 : Int32)) rfl rfl ?_)))))))))))
          refine s_r1 (pc := 17) rw_94_17 (A := 0) rfl (by decide) (b_ieq_t (pc := 45) rw_79_45 (A := 0) rfl (by decide) (to_in (pc := 59) rw_79_59 rfl (s_s (pc := 60) rw_79_60 (dp0 hd (by decide)) (ls0 := [.int v11]) rfl (Nat.le_of_ble_eq_true rfl) (Nat.le_of_ble_eq_true rfl) rfl (to_rcs rfl rfl) rfl (to_in (pc := 0) rw_92_0 rfl (to_c (pc := 1) rw_92_1 (x := (10 : Int32)) rfl rfl (b_ceq_f (pc := 3) rw_92_3 (A := v11.toInt) (B := 10) rfl rfl (by omega) (to_in (pc := 6) rw_92_6 rfl (to_c (pc := 7) rw_92_7 (x := (32 : Int32)) rfl rfl (b_cne_t (pc := 9) rw_92_9 (A := v11.toInt) (B := 32) rfl rfl (by omega) (to_c (pc := 16) rw_92_16 (x := (0 : Int32)) rfl rfl (s_r1 (pc := 17) rw_92_17 (A := 0) rfl (by decide) ?_)))))))))))
          refine b_ine_f (pc := 63) rw_79_63 (A := 0) rfl (by decide) (to_an (pc := 66) rw_79_66 rfl (to_in (pc := 67) rw_79_67 rfl (s_s (pc := 68) rw_79_68 (dp0 hd (by decide)) (ls0 := [.int v11]) rfl (Nat.le_of_ble_eq_true rfl) (Nat.le_of_ble_eq_true rfl) rfl (to_rcs rfl rfl) rfl (to_in (pc := 0) rw_95_0 rfl (to_c (pc := 1) rw_95_1 (x := (59 : Int32)) rfl rfl (b_ceq_f (pc := 3) rw_95_3 (A := v11.toInt) (B := 59) rfl rfl (by omega) (to_in (pc := 6) rw_95_6 rfl (to_c (pc := 7) rw_95_7 (x := (40 : Int32)) rfl rfl (b_ceq_f (pc := 9) rw_95_9 (A := v11.toInt) (B := 40) rfl rfl (by omega) (to_in (pc := 12) rw_95_12 rfl (to_c (pc := 13) rw_95_13 (x := (41 : Int32)) rfl rfl ?_)))))))))))
          refine b_ceq_f (pc := 15) rw_95_15 (A := v11.toInt) (B := 41) rfl rfl (by omega) (to_in (pc := 18) rw_95_18 rfl (to_c (pc := 19) rw_95_19 (x := (61 : Int32)) rfl rfl (b_cne_t (pc := 21) rw_95_21 (A := v11.toInt) (B := 61) rfl rfl (by omega) (to_c (pc := 28) rw_95_28 (x := (0 : Int32)) rfl rfl (s_r1 (pc := 29) rw_95_29 (A := 0) rfl (by decide) (b_ieq_t (pc := 71) rw_79_71 (A := 0) rfl (by decide) (to_c (pc := 78) rw_79_78 (x := (1 : Int32)) rfl rfl (to_c (pc := 79) rw_79_79 (x := (0 : Int32)) rfl rfl (to_in (pc := 80) rw_79_80 rfl (s_v (pc := 81) rw_79_81 (dp0 hd (by decide)) (ls0 := [.ref 1, .int (1 : Int32), .int (0 : Int32), .int x2]) rfl (Nat.le_of_ble_eq_true rfl) (Nat.le_of_ble_eq_true rfl) rfl (to_rc rfl rfl rfl (g_o hG rfl)) rfl ?_))))))))))
          have k_103 : (1 : Int32).toInt = 1 := rfl
          have k_104 : (0 : Int32).toInt = 0 := rfl
          refine C_82 hX (dp1 hd (by decide)) hG (t := (1 : Int32)) (v := (0 : Int32)) (w := x2) (fun M108 hG106 F105 p_107 => ?_)
          have F109 := FR.c F0 F105 tg_110
          have b_110 := g_b hG106 (a := 1) (i := 5) (lo := 0) (hi := 501) rfl rfl
          refine to_in (pc := 84) rw_79_84 rfl (to_c (pc := 85) rw_79_85 (x := (1 : Int32)) rfl rfl (s_add (pc := 86) rw_79_86 (A := x2.toInt) (B := 1) rfl rfl (by omega) (fun v111 e112 => to_i (pc := 87) rw_79_87 rfl (s_max (pc := 89) rw_79_89 rfl (A := v111.toInt) (B := v13.toInt) rfl rfl (fun v113 _ _ _ => to_isn (pc := 92) rw_79_92 (ls2 := [.ref 1, .int n, .int v113, .int v11, .int v13]) rfl rfl (to_go (pc := 93) rw_79_93 ?_))))))
          exact ih M108 v113 (.int v11) (.int v13) hG106 F109 (by omega) (by omega) (by omega) (by omega) (by omega)
        · refine to_c (pc := 12) rw_93_12 (x := (1 : Int32)) rfl rfl (to_go (pc := 13) rw_93_13 (s_r1 (pc := 17) rw_93_17 (A := 1) rfl (by decide) (b_ieq_f (pc := 27) rw_79_27 (A := 1) rfl (by decide) (to_an (pc := 30) rw_79_30 rfl (to_in (pc := 31) rw_79_31 rfl (to_in (pc := 32) rw_79_32 rfl (s_v (pc := 33) rw_79_33 (dp0 hd (by decide)) (ls0 := [.ref 1, .int x2, .int n, .null, .null]) rfl (Nat.le_of_ble_eq_true rfl) (Nat.le_of_ble_eq_true rfl) rfl (to_rc rfl rfl rfl (g_o hG rfl)) rfl (C_80 hX (dp1 hd (by decide)) hG (by omega) (by omega) (by omega) (by omega) (f := x2) (n := n) (fun r114 M119 hG116 F115 p_117 p_118 => ?_)))))))))
          have F120 := FR.c F0 F115 tg_110
          refine to_is (pc := 36) rw_79_36 (ls2 := [.ref 1, .int n, .int x2, .int v11, .int r114]) rfl rfl (to_go (pc := 38) rw_79_38 (to_in (pc := 84) rw_79_84 rfl (to_c (pc := 85) rw_79_85 (x := (1 : Int32)) rfl rfl (s_add (pc := 86) rw_79_86 (A := x2.toInt) (B := 1) rfl rfl (by omega) (fun v121 e122 => to_i (pc := 87) rw_79_87 rfl (s_max (pc := 89) rw_79_89 rfl (A := v121.toInt) (B := r114.toInt) rfl rfl (fun v123 _ _ _ => to_isn (pc := 92) rw_79_92 (ls2 := [.ref 1, .int n, .int v123, .int v11, .int r114]) rfl rfl (to_go (pc := 93) rw_79_93 ?_))))))))
          exact ih M119 v123 (.int v11) (.int r114) hG116 F120 (by omega) (by omega) (by omega) (by omega) (by omega)
set_option maxRecDepth 4000 in
set_option maxHeartbeats 0 in
theorem C_79 {X : mm_X} {d : Nat} {M : mm_M} {Q : Option Value → mm_M → Prop} {n : Int32} (hX : g_X X) (hd : 2 ≤ d) (hG : g_G M) (q1 : 0 ≤ n.toInt) (q2 : n.toInt ≤ 500) (h : ∀ (M1 : mm_M), g_G M1 → FR md_t M M1 → (1 ≤ (M1.2.1 1 5).toInt) → Q (none) M1) : mm_T X d 79 0 [.ref 1, .int n, .null, .null, .null] [] M Q := by
  have F0 : FR md_t M M := FR.rf
  refine to_an (pc := 0) rw_79_0 rfl (to_c (pc := 1) rw_79_1 (x := (0 : Int32)) rfl rfl (s_pI (pc := 2) rw_79_2 hG rfl (fun M125 W124 => ?_)))
  have hG126 := g_w hG W124 (A := 0) rfl (lo := 0) (hi := 501) rfl rfl (by omega) (by decide)
  have F127 := FR.w F0 W124 (show 1 = 1 ∧ 5 ≤ 5 ∨ 3 ≤ 1 ∧ 1 ≤ 5 by decide)
  refine to_c (pc := 5) rw_79_5 (x := (0 : Int32)) rfl rfl (to_isn (pc := 6) rw_79_6 (ls2 := [.ref 1, .int n, .int (0 : Int32), .null, .null]) rfl rfl ?_)
  have k_128 : (0 : Int32).toInt = 0 := rfl
  exact (T_79_0 (n := n) hX hd q1 q2 h ((500 - (0 : Int32).toInt).toNat + 1)) M125 (0 : Int32) (.null) (.null) hG126 F127 (by omega) (by omega) (by omega) (by omega) (by omega)
set_option maxRecDepth 4000 in
set_option maxHeartbeats 0 in
theorem C_78 {X : mm_X} {d : Nat} {M : mm_M} {Q : Option Value → mm_M → Prop} {n : Int32} (hX : g_X X) (hd : 3 ≤ d) (hG : g_G M) (h : ∀ (r : Int32) (M1 : mm_M), g_G M1 → FR md_bg M M1 → (0 ≤ r.toInt) → (r.toInt ≤ 1) → (n.toInt < 0 ∨ (M.2.1 1 1).toInt < n.toInt → (M1.2.1 1 1).toInt = (M.2.1 1 1).toInt ∧ r.toInt = 0) → (0 ≤ n.toInt ∧ n.toInt ≤ (M.2.1 1 1).toInt → (M1.2.1 1 1).toInt = 0 ∧ r.toInt = 1) → Q (some (.int r)) M1) : mm_T X d 78 0 [.ref 1, .int n] [] M Q := by
  have F0 : FR md_bg M M := FR.rf
  refine to_in (pc := 0) rw_78_0 rfl (b_ilt (pc := 1) rw_78_1 (A := n.toInt) rfl (fun h1 => ?_) (fun h1 => ?_))
  · refine to_c (pc := 12) rw_78_12 (x := (0 : Int32)) rfl rfl (s_r1 (pc := 13) rw_78_13 (A := 0) rfl (by decide) ?_)
    have k_2 : (0 : Int32).toInt = 0 := rfl
    have b_3 := g_b hG (a := 1) (i := 1) (lo := 0) (hi := 500) rfl rfl
    exact h (0 : Int32) M hG F0 (by decide) (by decide) (by omega) (by omega)
  · refine to_in (pc := 4) rw_78_4 rfl (to_an (pc := 5) rw_78_5 rfl ?_)
    have b_4 := g_b hG (a := 1) (i := 1) (lo := 0) (hi := 500) rfl rfl
    refine tt_gI (pc := 6) rw_78_6 (g_o hG rfl) (v := (M.2.1 1 1)) rfl (b_cle (pc := 9) rw_78_9 (A := n.toInt) (B := (M.2.1 1 1).toInt) rfl rfl (fun h5 => ?_) (fun h5 => ?_))
    · refine to_an (pc := 14) rw_78_14 rfl (to_c (pc := 15) rw_78_15 (x := (0 : Int32)) rfl rfl (s_pI (pc := 16) rw_78_16 hG rfl (fun M7 W6 => ?_)))
      have hG8 := g_w hG W6 (A := 0) rfl (lo := 0) (hi := 500) rfl rfl (by omega) (by decide)
      have F9 := FR.w F0 W6 (show 1 = 1 ∨ 3 ≤ 1 ∧ 1 ≤ 5 by decide)
      refine to_an (pc := 19) rw_78_19 rfl (to_c (pc := 20) rw_78_20 (x := (0 : Int32)) rfl rfl (s_pI (pc := 21) rw_78_21 hG8 rfl (fun M11 W10 => ?_)))
      have hG12 := g_wf hG8 W10 rfl rfl (by decide)
      have F13 := FR.w F9 W10 (show 1 = 1 ∨ 3 ≤ 1 ∧ 1 ≤ 5 by decide)
      refine to_an (pc := 24) rw_78_24 rfl (to_c (pc := 25) rw_78_25 (x := (-1 : Int32)) rfl rfl (s_pI (pc := 26) rw_78_26 hG12 rfl (fun M15 W14 => ?_)))
      have hG16 := g_wf hG12 W14 rfl rfl (by decide)
      have F17 := FR.w F13 W14 (show 1 = 1 ∨ 3 ≤ 1 ∧ 1 ≤ 5 by decide)
      refine to_an (pc := 29) rw_78_29 rfl (to_in (pc := 30) rw_78_30 rfl (s_v (pc := 31) rw_78_31 (dp0 hd (by decide)) (ls0 := [.ref 1, .int n, .null, .null, .null]) rfl (Nat.le_of_ble_eq_true rfl) (Nat.le_of_ble_eq_true rfl) rfl (to_rc rfl rfl rfl (g_o hG16 rfl)) rfl (C_79 hX (dp1 hd (by decide)) hG16 (by omega) (by omega) (n := n) (fun M21 hG19 F18 p_20 => ?_))))
      have F22 := FR.c F17 F18 tg_111
      have b_23 := g_b hG19 (a := 1) (i := 5) (lo := 0) (hi := 501) rfl rfl
      refine to_an (pc := 34) rw_78_34 rfl (to_c (pc := 35) rw_78_35 (x := (-1 : Int32)) rfl rfl (s_pI (pc := 36) rw_78_36 hG19 rfl (fun M25 W24 => ?_)))
      have F27 := FR.w F22 W24 (show 1 = 1 ∨ 3 ≤ 1 ∧ 1 ≤ 5 by decide)
      refine to_an (pc := 39) rw_78_39 rfl (s_v (pc := 40) rw_78_40 (dp0 hd (by decide)) (ls0 := [.ref 1]) rfl (Nat.le_of_ble_eq_true rfl) (Nat.le_of_ble_eq_true rfl) rfl (to_rc rfl rfl rfl (g_oW hG19 W24 rfl)) rfl (to_an (pc := 0) rw_83_0 rfl ?_))
      have c_28 : M25.2.1 1 6 = (-1 : Int32) := (W_e W24)
      refine tt_gI (pc := 1) rw_83_1 (g_oW hG19 W24 rfl) (v := (-1 : Int32)) c_28 (to_c (pc := 4) rw_83_4 (x := (1 : Int32)) rfl rfl (s_add (pc := 5) rw_83_5 (A := -1) (B := 1) rfl rfl (by omega) (fun v29 e30 => to_an (pc := 6) rw_83_6 rfl ?_)))
      have c_31 : M25.2.1 1 5 = (M21.2.1 1 5) := (W_n W24 (by decide) rfl)
      refine tt_gI (pc := 7) rw_83_7 (g_oW hG19 W24 rfl) (v := (M21.2.1 1 5)) c_31 (b_cge_f (pc := 10) rw_83_10 (A := v29.toInt) (B := (M21.2.1 1 5).toInt) rfl rfl (by omega) (to_an (pc := 13) rw_83_13 rfl (to_dupr (pc := 14) rw_83_14 (tt_gI (pc := 15) rw_83_15 (g_oW hG19 W24 rfl) (v := (-1 : Int32)) c_28 (to_c (pc := 18) rw_83_18 (x := (1 : Int32)) rfl rfl (s_add (pc := 19) rw_83_19 (A := -1) (B := 1) rfl rfl (by omega) (fun v32 e33 => s_pI0 (pc := 20) rw_83_20 (g_oW hG19 W24 rfl) (fun M35 W34 => ?_))))))))
      have hG36 := g_w hG19 (W_ww W34 W24) (A := v32.toInt) rfl (lo := 0) (hi := 500) rfl rfl (by omega) (by decide)
      have F37 := FR.w F27 W34 (show 1 = 1 ∨ 3 ≤ 1 ∧ 1 ≤ 5 by decide)
      refine to_an (pc := 23) rw_83_23 rfl (to_an (pc := 24) rw_83_24 rfl (s_gR (pc := 25) rw_83_25 hG36 rfl (v := 3) rfl (to_an (pc := 28) rw_83_28 rfl ?_)))
      have c_38 : M35.2.1 1 6 = v32 := (W_e W34)
      refine tt_gI (pc := 29) rw_83_29 (g_o hG36 rfl) (v := v32) c_38 (s_ial (pc := 32) rw_83_32 hG36 rfl (n := 501) rfl rfl (A := v32.toInt) rfl (by omega) (by omega) (lo := -2147483648) (hi := 2147483647) rfl rfl (fun v39 w_40 _ _ => s_pI (pc := 33) rw_83_33 hG36 rfl (fun M42 W41 => ?_)))
      have hG43 := g_wf hG36 W41 rfl rfl (by decide)
      have F44 := FR.w F37 W41 (show 1 = 1 ∨ 3 ≤ 1 ∧ 1 ≤ 5 by decide)
      refine to_an (pc := 36) rw_83_36 rfl (to_an (pc := 37) rw_83_37 rfl (s_gR (pc := 38) rw_83_38 hG43 rfl (v := 4) rfl (to_an (pc := 41) rw_83_41 rfl ?_)))
      have c_45 : M42.2.1 1 6 = v32 := (W_n W41 (by decide) c_38)
      refine tt_gI (pc := 42) rw_83_42 (g_o hG43 rfl) (v := v32) c_45 (s_ial (pc := 45) rw_83_45 hG43 rfl (n := 501) rfl rfl (A := v32.toInt) rfl (by omega) (by omega) (lo := -2147483648) (hi := 2147483647) rfl rfl (fun v46 w_47 _ _ => s_pI (pc := 46) rw_83_46 hG43 rfl (fun M49 W48 => ?_)))
      have hG50 := g_wf hG43 W48 rfl rfl (by decide)
      have F51 := FR.w F44 W48 (show 1 = 1 ∨ 3 ≤ 1 ∧ 1 ≤ 5 by decide)
      refine to_an (pc := 49) rw_83_49 rfl (to_an (pc := 50) rw_83_50 rfl (s_gR (pc := 51) rw_83_51 hG50 rfl (v := 5) rfl (to_an (pc := 54) rw_83_54 rfl ?_)))
      have c_52 : M49.2.1 1 6 = v32 := (W_n W48 (by decide) c_45)
      refine tt_gI (pc := 55) rw_83_55 (g_o hG50 rfl) (v := v32) c_52 (s_ial (pc := 58) rw_83_58 hG50 rfl (n := 501) rfl rfl (A := v32.toInt) rfl (by omega) (by omega) (lo := -2147483648) (hi := 2147483647) rfl rfl (fun v53 w_54 _ _ => s_pI (pc := 59) rw_83_59 hG50 rfl (fun M56 W55 => ?_)))
      have hG57 := g_wf hG50 W55 rfl rfl (by decide)
      have F58 := FR.w F51 W55 (show 1 = 1 ∨ 3 ≤ 1 ∧ 1 ≤ 5 by decide)
      refine to_rv (pc := 62) rw_83_62 (to_c (pc := 43) rw_78_43 (x := (1 : Int32)) rfl rfl (s_r1 (pc := 44) rw_78_44 (A := 1) rfl (by decide) ?_))
      have k_59 : (1 : Int32).toInt = 1 := rfl
      have c_60 : M56.2.1 1 1 = (0 : Int32) := (W_n W55 (by decide) (W_n W48 (by decide) (W_n W41 (by decide) (W_n W34 (by decide) (W_n W24 (by decide) (F_n F18 (show ¬ (1 = 1 ∧ 5 ≤ 1 ∨ 3 ≤ 1 ∧ 1 ≤ 5) by decide) (W_n W14 (by decide) (W_n W10 (by decide) (W_e W6)))))))))
      have k_61 : (0 : Int32).toInt = 0 := rfl
      have t_62 : (M56.2.1 1 1).toInt = (0 : Int32).toInt := congrArg Int32.toInt c_60
      exact h (1 : Int32) M56 hG57 F58 (by decide) (by decide) (by omega) (by omega)
    · refine to_c (pc := 12) rw_78_12 (x := (0 : Int32)) rfl rfl (s_r1 (pc := 13) rw_78_13 (A := 0) rfl (by decide) ?_)
      have k_63 : (0 : Int32).toInt = 0 := rfl
      exact h (0 : Int32) M hG F0 (by decide) (by decide) (by omega) (by omega)
set_option maxRecDepth 4000 in
set_option maxHeartbeats 0 in
theorem C_89 {X : mm_X} {d : Nat} {M : mm_M} {Q : Option Value → mm_M → Prop} {x : Int32} (hX : g_X X) (hd : 1 ≤ d) (hG : g_G M) (h : ∀ (r : Int32) (M1 : mm_M), g_G M1 → FR md_t M M1 → (0 ≤ r.toInt) → (r.toInt ≤ 1) → Q (some (.int r)) M1) : mm_T X d 89 0 [.ref 1, .int x] [] M Q := by
  have F0 : FR md_t M M := FR.rf
  refine to_an (pc := 0) rw_89_0 rfl (to_in (pc := 1) rw_89_1 rfl (s_v (pc := 2) rw_89_2 (dp0 hd (by decide)) (ls0 := [.ref 1, .int x]) rfl (Nat.le_of_ble_eq_true rfl) (Nat.le_of_ble_eq_true rfl) rfl (to_rc rfl rfl rfl (g_o hG rfl)) rfl (to_an (pc := 0) rw_86_0 rfl (tt_gI (pc := 1) rw_86_1 (g_o hG rfl) (v := (M.2.1 1 7)) rfl (to_c (pc := 4) rw_86_4 (x := (4 : Int32)) rfl rfl (b_cne (pc := 5) rw_86_5 (A := (M.2.1 1 7).toInt) (B := 4) rfl rfl (fun h1 => ?_) (fun h1 => ?_)))))))
  · refine to_c (pc := 20) rw_86_20 (x := (0 : Int32)) rfl rfl (s_r1 (pc := 21) rw_86_21 (A := 0) rfl (by decide) (b_ine_f (pc := 5) rw_89_5 (A := 0) rfl (by decide) (to_an (pc := 8) rw_89_8 rfl (to_c (pc := 9) rw_89_9 (x := (1 : Int32)) rfl rfl (s_v (pc := 10) rw_89_10 (dp0 hd (by decide)) (ls0 := [.ref 1, .int (1 : Int32)]) rfl (Nat.le_of_ble_eq_true rfl) (Nat.le_of_ble_eq_true rfl) rfl (to_rc rfl rfl rfl (g_o hG rfl)) rfl (to_an (pc := 0) rw_84_0 rfl (to_in (pc := 1) rw_84_1 rfl (s_pI (pc := 2) rw_84_2 hG rfl (fun M3 W2 => ?_)))))))))
    have hG4 := g_wf hG W2 rfl rfl (by decide)
    have F5 := FR.w F0 W2 (show 1 = 1 ∧ 5 ≤ 10 ∨ 3 ≤ 1 ∧ 1 ≤ 5 by decide)
    refine to_an (pc := 5) rw_84_5 rfl (to_an (pc := 6) rw_84_6 rfl ?_)
    have c_6 : M3.2.1 1 9 = (M.2.1 1 9) := (W_n W2 (by decide) rfl)
    refine tt_gI (pc := 7) rw_84_7 (g_o hG4 rfl) (v := (M.2.1 1 9)) c_6 (s_pI (pc := 10) rw_84_10 hG4 rfl (fun M8 W7 => ?_))
    have hG9 := g_wf hG4 W7 rfl rfl (by decide)
    have F10 := FR.w F5 W7 (show 1 = 1 ∧ 5 ≤ 11 ∨ 3 ≤ 1 ∧ 1 ≤ 5 by decide)
    refine to_c (pc := 13) rw_84_13 (x := (0 : Int32)) rfl rfl (s_r1 (pc := 14) rw_84_14 (A := 0) rfl (by decide) (s_r1 (pc := 13) rw_89_13 (A := 0) rfl (by decide) ?_))
    have k_11 : (0 : Int32).toInt = 0 := rfl
    exact h (0 : Int32) M8 hG9 F10 (by decide) (by decide)
  · refine to_an (pc := 8) rw_86_8 rfl (tt_gI (pc := 9) rw_86_9 (g_o hG rfl) (v := (M.2.1 1 8)) rfl (to_in (pc := 12) rw_86_12 rfl (b_cne (pc := 13) rw_86_13 (A := (M.2.1 1 8).toInt) (B := x.toInt) rfl rfl (fun h12 => ?_) (fun h12 => ?_))))
    · refine to_c (pc := 20) rw_86_20 (x := (0 : Int32)) rfl rfl (s_r1 (pc := 21) rw_86_21 (A := 0) rfl (by decide) (b_ine_f (pc := 5) rw_89_5 (A := 0) rfl (by decide) (to_an (pc := 8) rw_89_8 rfl (to_c (pc := 9) rw_89_9 (x := (1 : Int32)) rfl rfl (s_v (pc := 10) rw_89_10 (dp0 hd (by decide)) (ls0 := [.ref 1, .int (1 : Int32)]) rfl (Nat.le_of_ble_eq_true rfl) (Nat.le_of_ble_eq_true rfl) rfl (to_rc rfl rfl rfl (g_o hG rfl)) rfl (to_an (pc := 0) rw_84_0 rfl (to_in (pc := 1) rw_84_1 rfl (s_pI (pc := 2) rw_84_2 hG rfl (fun M14 W13 => ?_)))))))))
      have hG15 := g_wf hG W13 rfl rfl (by decide)
      have F16 := FR.w F0 W13 (show 1 = 1 ∧ 5 ≤ 10 ∨ 3 ≤ 1 ∧ 1 ≤ 5 by decide)
      refine to_an (pc := 5) rw_84_5 rfl (to_an (pc := 6) rw_84_6 rfl ?_)
      have c_17 : M14.2.1 1 9 = (M.2.1 1 9) := (W_n W13 (by decide) rfl)
      refine tt_gI (pc := 7) rw_84_7 (g_o hG15 rfl) (v := (M.2.1 1 9)) c_17 (s_pI (pc := 10) rw_84_10 hG15 rfl (fun M19 W18 => ?_))
      have hG20 := g_wf hG15 W18 rfl rfl (by decide)
      have F21 := FR.w F16 W18 (show 1 = 1 ∧ 5 ≤ 11 ∨ 3 ≤ 1 ∧ 1 ≤ 5 by decide)
      refine to_c (pc := 13) rw_84_13 (x := (0 : Int32)) rfl rfl (s_r1 (pc := 14) rw_84_14 (A := 0) rfl (by decide) (s_r1 (pc := 13) rw_89_13 (A := 0) rfl (by decide) ?_))
      have k_22 : (0 : Int32).toInt = 0 := rfl
      exact h (0 : Int32) M19 hG20 F21 (by decide) (by decide)
    · refine to_c (pc := 16) rw_86_16 (x := (1 : Int32)) rfl rfl (to_go (pc := 17) rw_86_17 (s_r1 (pc := 21) rw_86_21 (A := 1) rfl (by decide) (b_ine_t (pc := 5) rw_89_5 (A := 1) rfl (by decide) (to_an (pc := 14) rw_89_14 rfl (s_v (pc := 15) rw_89_15 (dp0 hd (by decide)) (ls0 := [.ref 1]) rfl (Nat.le_of_ble_eq_true rfl) (Nat.le_of_ble_eq_true rfl) rfl (to_rc rfl rfl rfl (g_o hG rfl)) rfl (C_83 hX (dp1 hd (by decide)) hG  (fun M25 hG24 F23 => ?_)))))))
      have F26 := FR.c F0 F23 tg_110
      refine to_c (pc := 18) rw_89_18 (x := (1 : Int32)) rfl rfl (s_r1 (pc := 19) rw_89_19 (A := 1) rfl (by decide) ?_)
      have k_27 : (1 : Int32).toInt = 1 := rfl
      exact h (1 : Int32) M25 hG24 F26 (by decide) (by decide)
set_option maxRecDepth 4000 in
set_option maxHeartbeats 0 in
theorem C_90 {X : mm_X} {d : Nat} {M : mm_M} {Q : Option Value → mm_M → Prop} {x : Int32} (hX : g_X X) (hd : 1 ≤ d) (hG : g_G M) (h : ∀ (r : Int32) (M1 : mm_M), g_G M1 → FR md_t M M1 → (0 ≤ r.toInt) → (r.toInt ≤ 1) → (r.toInt = 1 → (M.2.1 1 7).toInt = x.toInt) → Q (some (.int r)) M1) : mm_T X d 90 0 [.ref 1, .int x] [] M Q := by
  have F0 : FR md_t M M := FR.rf
  refine to_an (pc := 0) rw_90_0 rfl (tt_gI (pc := 1) rw_90_1 (g_o hG rfl) (v := (M.2.1 1 7)) rfl (to_in (pc := 4) rw_90_4 rfl (b_ceq (pc := 5) rw_90_5 (A := (M.2.1 1 7).toInt) (B := x.toInt) rfl rfl (fun h1 => ?_) (fun h1 => ?_))))
  · refine to_an (pc := 14) rw_90_14 rfl (s_v (pc := 15) rw_90_15 (dp0 hd (by decide)) (ls0 := [.ref 1]) rfl (Nat.le_of_ble_eq_true rfl) (Nat.le_of_ble_eq_true rfl) rfl (to_rc rfl rfl rfl (g_o hG rfl)) rfl (C_83 hX (dp1 hd (by decide)) hG  (fun M4 hG3 F2 => ?_)))
    have F5 := FR.c F0 F2 tg_110
    refine to_c (pc := 18) rw_90_18 (x := (1 : Int32)) rfl rfl (s_r1 (pc := 19) rw_90_19 (A := 1) rfl (by decide) ?_)
    have k_6 : (1 : Int32).toInt = 1 := rfl
    exact h (1 : Int32) M4 hG3 F5 (by decide) (by decide) (by omega)
  · refine to_an (pc := 8) rw_90_8 rfl (to_c (pc := 9) rw_90_9 (x := (1 : Int32)) rfl rfl (s_v (pc := 10) rw_90_10 (dp0 hd (by decide)) (ls0 := [.ref 1, .int (1 : Int32)]) rfl (Nat.le_of_ble_eq_true rfl) (Nat.le_of_ble_eq_true rfl) rfl (to_rc rfl rfl rfl (g_o hG rfl)) rfl (to_an (pc := 0) rw_84_0 rfl (to_in (pc := 1) rw_84_1 rfl (s_pI (pc := 2) rw_84_2 hG rfl (fun M8 W7 => ?_))))))
    have hG9 := g_wf hG W7 rfl rfl (by decide)
    have F10 := FR.w F0 W7 (show 1 = 1 ∧ 5 ≤ 10 ∨ 3 ≤ 1 ∧ 1 ≤ 5 by decide)
    refine to_an (pc := 5) rw_84_5 rfl (to_an (pc := 6) rw_84_6 rfl ?_)
    have c_11 : M8.2.1 1 9 = (M.2.1 1 9) := (W_n W7 (by decide) rfl)
    refine tt_gI (pc := 7) rw_84_7 (g_o hG9 rfl) (v := (M.2.1 1 9)) c_11 (s_pI (pc := 10) rw_84_10 hG9 rfl (fun M13 W12 => ?_))
    have hG14 := g_wf hG9 W12 rfl rfl (by decide)
    have F15 := FR.w F10 W12 (show 1 = 1 ∧ 5 ≤ 11 ∨ 3 ≤ 1 ∧ 1 ≤ 5 by decide)
    refine to_c (pc := 13) rw_84_13 (x := (0 : Int32)) rfl rfl (s_r1 (pc := 14) rw_84_14 (A := 0) rfl (by decide) (s_r1 (pc := 13) rw_90_13 (A := 0) rfl (by decide) ?_))
    have k_16 : (0 : Int32).toInt = 0 := rfl
    exact h (0 : Int32) M13 hG14 F15 (by decide) (by decide) (by omega)
end
