section
theorem tg_9 {M M1 : mm_M} (F : FR (fun a i : Nat => a < 0) M M1) : ∀ a i : Nat, a = 78 → M1.2.1 a i = M.2.1 a i := fun a i z => F_n F (show ¬ (a < 0) by omega) rfl
theorem tg_10 : ∀ a i : Nat, (a < 0) → (a = 77 ∧ 7 ≤ i ∧ i ≤ 10) := fun a i z => by omega
theorem tg_11 : ∀ a i : Nat, (a = 77 ∧ 7 ≤ i ∧ i ≤ 10) → (a = 77 ∧ (i = 1 ∨ 4 ≤ i ∧ i ≤ 10)) := fun a i z => by omega
theorem tg_12 : ∀ a i : Nat, a = 78 → ¬ (a = 77 ∧ i = 7) := fun a i z => by omega
theorem tg_13 : ∀ a i : Nat, a = 78 → ¬ (a = 77 ∧ i = 9) := fun a i z => by omega
theorem tg_14 : ∀ a i : Nat, a = 79 → ¬ (a = 77 ∧ i = 7) := fun a i z => by omega
theorem tg_15 : ∀ a i : Nat, a = 79 → ¬ (a = 77 ∧ i = 9) := fun a i z => by omega
theorem tg_16 : ∀ a i : Nat, a = 78 → ¬ (a = 77 ∧ i = 8) := fun a i z => by omega
theorem tg_17 : ∀ a i : Nat, a = 78 → ¬ (a = 77 ∧ i = 10) := fun a i z => by omega
theorem tg_18 : ∀ a i : Nat, a = 79 → ¬ (a = 77 ∧ i = 8) := fun a i z => by omega
theorem tg_19 : ∀ a i : Nat, a = 79 → ¬ (a = 77 ∧ i = 10) := fun a i z => by omega
theorem tg_20 : ∀ a i : Nat, a = 78 → ¬ (a = 77 ∧ i = 5) := fun a i z => by omega
theorem tg_21 : ∀ a i : Nat, a = 78 → ¬ (a = 77 ∧ i = 4) := fun a i z => by omega
theorem tg_22 : ∀ a i : Nat, a = 78 → ¬ (a = 77 ∧ i = 1) := fun a i z => by omega
theorem tg_23 : ∀ a i : Nat, a = 78 → ¬ (a = 77 ∧ i = 6) := fun a i z => by omega
theorem tg_24 : ∀ a i : Nat, a = 79 → ¬ (a = 77 ∧ i = 5) := fun a i z => by omega
theorem tg_25 : ∀ a i : Nat, a = 79 → ¬ (a = 77 ∧ i = 4) := fun a i z => by omega
theorem tg_26 : ∀ a i : Nat, a = 79 → ¬ (a = 77 ∧ i = 1) := fun a i z => by omega
theorem tg_27 : ∀ a i : Nat, a = 79 → ¬ (a = 77 ∧ i = 6) := fun a i z => by omega
set_option maxRecDepth 4000 in
set_option maxHeartbeats 0 in
theorem U_156_0 {X : mm_X} {d : Nat} {M : mm_M} {Q : Option Value → mm_M → Prop} {t : Nat → Int} {nn : Int} (hX : g_X X) (hd : 1 ≤ d) (q1 : (M.2.1 77 7).toInt ≤ (M.2.1 77 6).toInt) (q2 : (M.2.1 77 6).toInt = nn) (q3 : 0 ≤ nn) (q4 : nn ≤ 500) (q5 : TR M t nn) (q6 : W9 M) (h : ∀ (M1 : mm_M), g_G M1 → FR md_tk M M1 → ((M1.2.1 77 7).toInt ≤ (M1.2.1 77 6).toInt) → ((M.2.1 77 7).toInt ≤ (M1.2.1 77 7).toInt) → ((M1.2.1 77 8).toInt = 0 ∨ (M.2.1 77 7).toInt < (M1.2.1 77 7).toInt) → (RS M1 t nn ∧ (M1.2.1 77 10).toInt = x_sk t nn (M.2.1 77 7).toInt) → Q (none) M1) : ∀ nn9 : Nat, (∀ (N : mm_M), g_G N → FR md_tk M N → ((N.2.1 77 7).toInt ≤ (N.2.1 77 6).toInt) → ((N.2.1 77 10).toInt ≤ (N.2.1 77 7).toInt) → ((N.2.1 77 10).toInt < nn) → ((M.2.1 77 7).toInt ≤ (N.2.1 77 10).toInt) → (48 ≤ t ((N.2.1 77 10).toInt).toNat ∧ t ((N.2.1 77 10).toInt).toNat ≤ 57) → ((N.2.1 77 8).toInt = 3) → (0 ≤ (N.2.1 77 9).toInt) → ((N.2.1 77 9).toInt ≤ 999) → ((N.2.1 77 10).toInt = x_sk t nn (M.2.1 77 7).toInt) → (x_num t nn (N.2.1 77 7).toInt (x_mn (N.2.1 77 9).toInt) = x_num t nn (N.2.1 77 10).toInt 0) → (x_end x_dg t nn (N.2.1 77 7).toInt = x_end x_dg t nn (N.2.1 77 10).toInt) → ((N.2.1 77 6).toInt = nn) → (0 ≤ nn) → (nn ≤ 500) → (TR N t nn) → (W9 N) → 500 - (N.2.1 77 7).toInt < (nn9 : Int) → mm_T X d 155 212 [.ref 77] [] N Q) := by
  intro nn9
  induction nn9 with
  | zero =>
    intro N hG F0 g1 g2 g3 g4 g5 g6 g7 g8 g9 g10 g11 g12 g13 g14 g15 g16 hm
    have b_1 := g_b hG (a := 77) (i := 7) (lo := 0) (hi := 500) rfl rfl
    have b_2 := g_b hG (a := 77) (i := 6) (lo := 0) (hi := 500) rfl rfl
    have b_3 := g_b hG (a := 77) (i := 10) (lo := 0) (hi := 500) rfl rfl
    have b_4 := g_b hG (a := 77) (i := 8) (lo := 0) (hi := 5) rfl rfl
    exfalso; omega
  | succ nn9 ih =>
    intro N hG F0 g1 g2 g3 g4 g5 g6 g7 g8 g9 g10 g11 g12 g13 g14 g15 g16 hm
    have b_5 := g_b hG (a := 77) (i := 7) (lo := 0) (hi := 500) rfl rfl
    have b_6 := g_b hG (a := 77) (i := 6) (lo := 0) (hi := 500) rfl rfl
    have b_7 := g_b hG (a := 77) (i := 10) (lo := 0) (hi := 500) rfl rfl
    have b_8 := g_b hG (a := 77) (i := 8) (lo := 0) (hi := 5) rfl rfl
    refine to_an (pc := 212) rw_156_212 rfl (to_an (pc := 213) rw_156_213 rfl (tt_gI (pc := 214) rw_156_214 (g_o hG rfl) (v := (N.2.1 77 7)) rfl (s_v (pc := 217) rw_156_217 (dp0 hd (by decide)) (ls0 := [.ref 77, .int (N.2.1 77 7)]) rfl (Nat.le_of_ble_eq_true rfl) (Nat.le_of_ble_eq_true rfl) rfl (to_rc rfl rfl rfl (g_o hG rfl)) rfl (to_in (pc := 0) rw_155_0 rfl (to_an (pc := 1) rw_155_1 rfl (tt_gI (pc := 2) rw_155_2 (g_o hG rfl) (v := (N.2.1 77 6)) rfl (b_cge (pc := 5) rw_155_5 (A := (N.2.1 77 7).toInt) (B := (N.2.1 77 6).toInt) rfl rfl (fun h9 => ?_) (fun h9 => ?_))))))))
    · refine to_c (pc := 34) rw_155_34 (x := (0 : Int32)) rfl rfl (s_r1 (pc := 35) rw_155_35 (A := 0) rfl (by decide) (b_ieq_t (pc := 220) rw_156_220 (A := 0) rfl (by decide) (to_rv (pc := 344) rw_156_344 ?_)))
      have z_10 := x_mn_x (t := t) (nn := nn) (x := (N.2.1 77 7).toInt) (by omega) (by omega) g10
      have z_11 : x_end x_dg t nn (N.2.1 77 7).toInt = (N.2.1 77 7).toInt := x_no (by omega) (by first | exact Or.inl (by omega) | exact Or.inr (x_dg_f (by omega)))
      have z_12 := g11
      have z_13 := (x_td (t := t) (n := nn) (a := (N.2.1 77 10).toInt) (by omega) (by omega)).2.2
      have z_14 := x_nx_b (t := t) (n := nn) (a := (N.2.1 77 10).toInt) (by omega) (by omega)
      have z_15 := x_R_d (t := t) (n := nn) (a := (N.2.1 77 10).toInt) (w := (N.2.1 77 9).toInt) (by omega) (by omega) (by omega) (by omega)
      have z_16 := g9
      exact h N hG F0 (by omega) (by omega) (by omega) (RS_m (a := (N.2.1 77 10).toInt) (kd := 3) (wh := (N.2.1 77 9).toInt) (by omega) (by omega) (by omega) (by omega) (by omega) (by omega) (by omega) (by omega) z_15)
    · refine to_an (pc := 8) rw_155_8 rfl (s_gR (pc := 9) rw_155_9 hG rfl (v := 78) rfl (to_in (pc := 12) rw_155_12 rfl (s_ial (pc := 13) rw_155_13 hG rfl (n := 500) rfl rfl (A := (N.2.1 77 7).toInt) rfl (by omega) (by omega) (lo := 0) (hi := 255) rfl rfl (fun v17 w_18 _ _ => ?_))))
      have z_19 := TR_u g15 (A := (N.2.1 77 7).toInt) (B := (N.2.1 77 7).toInt) (by omega) (by omega) w_18 rfl
      refine to_c (pc := 14) rw_155_14 (x := (48 : Int32)) rfl rfl (b_clt (pc := 16) rw_155_16 (A := v17.toInt) (B := 48) rfl rfl (fun h20 => ?_) (fun h20 => ?_))
      · refine to_c (pc := 34) rw_155_34 (x := (0 : Int32)) rfl rfl (s_r1 (pc := 35) rw_155_35 (A := 0) rfl (by decide) (b_ieq_t (pc := 220) rw_156_220 (A := 0) rfl (by decide) (to_rv (pc := 344) rw_156_344 ?_)))
        have z_21 := x_mn_x (t := t) (nn := nn) (x := (N.2.1 77 7).toInt) (by omega) (by omega) g10
        have z_22 : x_end x_dg t nn (N.2.1 77 7).toInt = (N.2.1 77 7).toInt := x_no (by omega) (by first | exact Or.inl (by omega) | exact Or.inr (x_dg_f (by omega)))
        have z_23 := g11
        have z_24 := (x_td (t := t) (n := nn) (a := (N.2.1 77 10).toInt) (by omega) (by omega)).2.2
        have z_25 := x_nx_b (t := t) (n := nn) (a := (N.2.1 77 10).toInt) (by omega) (by omega)
        have z_26 := x_R_d (t := t) (n := nn) (a := (N.2.1 77 10).toInt) (w := (N.2.1 77 9).toInt) (by omega) (by omega) (by omega) (by omega)
        have z_27 := g9
        exact h N hG F0 (by omega) (by omega) (by omega) (RS_m (a := (N.2.1 77 10).toInt) (kd := 3) (wh := (N.2.1 77 9).toInt) (by omega) (by omega) (by omega) (by omega) (by omega) (by omega) (by omega) (by omega) z_26)
      · refine to_an (pc := 19) rw_155_19 rfl (s_gR (pc := 20) rw_155_20 hG rfl (v := 78) rfl (to_in (pc := 23) rw_155_23 rfl (s_ialk (pc := 24) rw_155_24 hG rfl (n := 500) rfl rfl (A := (N.2.1 77 7).toInt) rfl (by omega) (by omega) (v := v17) w_18 (to_c (pc := 25) rw_155_25 (x := (57 : Int32)) rfl rfl (b_cgt (pc := 27) rw_155_27 (A := v17.toInt) (B := 57) rfl rfl (fun h30 => ?_) (fun h30 => ?_))))))
        · refine to_c (pc := 34) rw_155_34 (x := (0 : Int32)) rfl rfl (s_r1 (pc := 35) rw_155_35 (A := 0) rfl (by decide) (b_ieq_t (pc := 220) rw_156_220 (A := 0) rfl (by decide) (to_rv (pc := 344) rw_156_344 ?_)))
          have z_31 := x_mn_x (t := t) (nn := nn) (x := (N.2.1 77 7).toInt) (by omega) (by omega) g10
          have z_32 : x_end x_dg t nn (N.2.1 77 7).toInt = (N.2.1 77 7).toInt := x_no (by omega) (by first | exact Or.inl (by omega) | exact Or.inr (x_dg_f (by omega)))
          have z_33 := g11
          have z_34 := (x_td (t := t) (n := nn) (a := (N.2.1 77 10).toInt) (by omega) (by omega)).2.2
          have z_35 := x_nx_b (t := t) (n := nn) (a := (N.2.1 77 10).toInt) (by omega) (by omega)
          have z_36 := x_R_d (t := t) (n := nn) (a := (N.2.1 77 10).toInt) (w := (N.2.1 77 9).toInt) (by omega) (by omega) (by omega) (by omega)
          have z_37 := g9
          exact h N hG F0 (by omega) (by omega) (by omega) (RS_m (a := (N.2.1 77 10).toInt) (kd := 3) (wh := (N.2.1 77 9).toInt) (by omega) (by omega) (by omega) (by omega) (by omega) (by omega) (by omega) (by omega) z_36)
        · refine to_c (pc := 30) rw_155_30 (x := (1 : Int32)) rfl rfl (to_go (pc := 31) rw_155_31 (s_r1 (pc := 35) rw_155_35 (A := 1) rfl (by decide) (b_ieq_f (pc := 220) rw_156_220 (A := 1) rfl (by decide) (to_an (pc := 223) rw_156_223 rfl (to_an (pc := 224) rw_156_224 rfl (tt_gI (pc := 225) rw_156_225 (g_o hG rfl) (v := (N.2.1 77 9)) rfl (to_c (pc := 228) rw_156_228 (x := (99 : Int32)) rfl rfl (b_cle (pc := 230) rw_156_230 (A := (N.2.1 77 9).toInt) (B := 99) rfl rfl (fun h38 => ?_) (fun h38 => ?_)))))))))
          · refine to_c (pc := 240) rw_156_240 (x := (10 : Int32)) rfl rfl (to_an (pc := 242) rw_156_242 rfl (tt_gI (pc := 243) rw_156_243 (g_o hG rfl) (v := (N.2.1 77 9)) rfl (s_mul (pc := 246) rw_156_246 (A := 10) (B := (N.2.1 77 9).toInt) rfl rfl (by omega) (fun v39 e40 => to_an (pc := 247) rw_156_247 rfl (s_gR (pc := 248) rw_156_248 hG rfl (v := 78) rfl (to_an (pc := 251) rw_156_251 rfl (tt_gI (pc := 252) rw_156_252 (g_o hG rfl) (v := (N.2.1 77 7)) rfl (s_ialk (pc := 255) rw_156_255 hG rfl (n := 500) rfl rfl (A := (N.2.1 77 7).toInt) rfl (by omega) (by omega) (v := v17) w_18 (s_add (pc := 256) rw_156_256 (A := v39.toInt) (B := v17.toInt) rfl rfl (by omega) (fun v43 e44 => to_c (pc := 257) rw_156_257 (x := (48 : Int32)) rfl rfl (s_sub (pc := 259) rw_156_259 (A := v43.toInt) (B := 48) rfl rfl (by omega) (fun v45 e46 => ?_))))))))))))
            refine s_pI (pc := 260) rw_156_260 hG rfl (fun M48 W47 => ?_)
            have hG49 := g_wf hG W47 rfl rfl (by decide)
            have F50 := FR.w F0 W47 (show 77 = 77 ∧ 7 ≤ 9 ∧ 9 ≤ 10 by decide)
            refine to_an (pc := 263) rw_156_263 rfl (to_dupr (pc := 264) rw_156_264 ?_)
            have c_51 : M48.2.1 77 7 = (N.2.1 77 7) := (W_n W47 (by decide) rfl)
            refine tt_gI (pc := 265) rw_156_265 (g_o hG49 rfl) (v := (N.2.1 77 7)) c_51 (to_c (pc := 268) rw_156_268 (x := (1 : Int32)) rfl rfl (s_add (pc := 269) rw_156_269 (A := (N.2.1 77 7).toInt) (B := 1) rfl rfl (by omega) (fun v52 e53 => s_pI (pc := 270) rw_156_270 hG49 rfl (fun M55 W54 => ?_))))
            have hG56 := g_w hG49 W54 (A := v52.toInt) rfl (lo := 0) (hi := 500) rfl rfl (by omega) (by decide)
            have F57 := FR.w F50 W54 (show 77 = 77 ∧ 7 ≤ 7 ∧ 7 ≤ 10 by decide)
            refine to_go (pc := 273) rw_156_273 ?_
            have c_58 : M55.2.1 77 7 = v52 := (W_e W54)
            have t_59 : (M55.2.1 77 7).toInt = v52.toInt := congrArg Int32.toInt c_58
            have c_60 : M55.2.1 77 6 = (N.2.1 77 6) := (W_n W54 (by decide) (W_n W47 (by decide) rfl))
            have t_61 : (M55.2.1 77 6).toInt = (N.2.1 77 6).toInt := congrArg Int32.toInt c_60
            have c_62 : M55.2.1 77 10 = (N.2.1 77 10) := (W_n W54 (by decide) (W_n W47 (by decide) rfl))
            have t_63 : (M55.2.1 77 10).toInt = (N.2.1 77 10).toInt := congrArg Int32.toInt c_62
            have c_64 : M55.2.1 77 8 = (N.2.1 77 8) := (W_n W54 (by decide) (W_n W47 (by decide) rfl))
            have t_65 : (M55.2.1 77 8).toInt = (N.2.1 77 8).toInt := congrArg Int32.toInt c_64
            have c_66 : M55.2.1 77 9 = v45 := (W_n W54 (by decide) (W_e W47))
            have t_67 : (M55.2.1 77 9).toInt = v45.toInt := congrArg Int32.toInt c_66
            have z_68 := g9
            have j_69 := (TR_f (fun a i z => W_n W54 (tg_12 a i z) rfl) (TR_f (fun a i z => W_n W47 (tg_13 a i z) rfl) g15))
            have j_70 := (W9_f (fun a i z => W_n W54 (tg_14 a i z) rfl) (W9_f (fun a i z => W_n W47 (tg_15 a i z) rfl) g16))
            exact ih M55  hG56 F57 (by omega) (by omega) (by omega) (by omega) (by rw [show (M55.2.1 77 10).toInt = (N.2.1 77 10).toInt by omega]; exact g5) (by omega) (by omega) (by omega) (by omega) ((x_mn_e (x := (N.2.1 77 7).toInt) (by omega) (by omega) (by omega) (by omega) (w := (N.2.1 77 9).toInt) (by omega) (by omega) g10).trans (congrArg (fun z => x_num t nn z 0) (show (N.2.1 77 10).toInt = (M55.2.1 77 10).toInt by omega))) ((x_ed_e (x4 := (N.2.1 77 7).toInt) (by omega) (by omega) (by omega) (by omega) g11).trans (congrArg (x_end x_dg t nn) (show (N.2.1 77 10).toInt = (M55.2.1 77 10).toInt by omega))) (by omega) (by omega) (by omega) j_69 j_70 (by omega)
          · refine to_an (pc := 233) rw_156_233 rfl (tt_gI (pc := 234) rw_156_234 (g_o hG rfl) (v := (N.2.1 77 9)) rfl (to_go (pc := 237) rw_156_237 (s_pI (pc := 260) rw_156_260 hG rfl (fun M72 W71 => ?_))))
            have hG73 := g_wf hG W71 rfl rfl (by decide)
            have F74 := FR.w F0 W71 (show 77 = 77 ∧ 7 ≤ 9 ∧ 9 ≤ 10 by decide)
            refine to_an (pc := 263) rw_156_263 rfl (to_dupr (pc := 264) rw_156_264 ?_)
            have c_75 : M72.2.1 77 7 = (N.2.1 77 7) := (W_n W71 (by decide) rfl)
            refine tt_gI (pc := 265) rw_156_265 (g_o hG73 rfl) (v := (N.2.1 77 7)) c_75 (to_c (pc := 268) rw_156_268 (x := (1 : Int32)) rfl rfl (s_add (pc := 269) rw_156_269 (A := (N.2.1 77 7).toInt) (B := 1) rfl rfl (by omega) (fun v76 e77 => s_pI (pc := 270) rw_156_270 hG73 rfl (fun M79 W78 => ?_))))
            have hG80 := g_w hG73 W78 (A := v76.toInt) rfl (lo := 0) (hi := 500) rfl rfl (by omega) (by decide)
            have F81 := FR.w F74 W78 (show 77 = 77 ∧ 7 ≤ 7 ∧ 7 ≤ 10 by decide)
            refine to_go (pc := 273) rw_156_273 ?_
            have c_82 : M79.2.1 77 7 = v76 := (W_e W78)
            have t_83 : (M79.2.1 77 7).toInt = v76.toInt := congrArg Int32.toInt c_82
            have c_84 : M79.2.1 77 6 = (N.2.1 77 6) := (W_n W78 (by decide) (W_n W71 (by decide) rfl))
            have t_85 : (M79.2.1 77 6).toInt = (N.2.1 77 6).toInt := congrArg Int32.toInt c_84
            have c_86 : M79.2.1 77 10 = (N.2.1 77 10) := (W_n W78 (by decide) (W_n W71 (by decide) rfl))
            have t_87 : (M79.2.1 77 10).toInt = (N.2.1 77 10).toInt := congrArg Int32.toInt c_86
            have c_88 : M79.2.1 77 8 = (N.2.1 77 8) := (W_n W78 (by decide) (W_n W71 (by decide) rfl))
            have t_89 : (M79.2.1 77 8).toInt = (N.2.1 77 8).toInt := congrArg Int32.toInt c_88
            have c_90 : M79.2.1 77 9 = (N.2.1 77 9) := (W_n W78 (by decide) (W_e W71))
            have t_91 : (M79.2.1 77 9).toInt = (N.2.1 77 9).toInt := congrArg Int32.toInt c_90
            have z_92 := g9
            have j_93 := (TR_f (fun a i z => W_n W78 (tg_12 a i z) rfl) (TR_f (fun a i z => W_n W71 (tg_13 a i z) rfl) g15))
            have j_94 := (W9_f (fun a i z => W_n W78 (tg_14 a i z) rfl) (W9_f (fun a i z => W_n W71 (tg_15 a i z) rfl) g16))
            exact ih M79  hG80 F81 (by omega) (by omega) (by omega) (by omega) (by rw [show (M79.2.1 77 10).toInt = (N.2.1 77 10).toInt by omega]; exact g5) (by omega) (by omega) (by omega) (by omega) ((x_mn_e (x := (N.2.1 77 7).toInt) (by omega) (by omega) (by omega) (by omega) (w := (N.2.1 77 9).toInt) (by omega) (by omega) g10).trans (congrArg (fun z => x_num t nn z 0) (show (N.2.1 77 10).toInt = (M79.2.1 77 10).toInt by omega))) ((x_ed_e (x4 := (N.2.1 77 7).toInt) (by omega) (by omega) (by omega) (by omega) g11).trans (congrArg (x_end x_dg t nn) (show (N.2.1 77 10).toInt = (M79.2.1 77 10).toInt by omega))) (by omega) (by omega) (by omega) j_93 j_94 (by omega)
set_option maxRecDepth 4000 in
set_option maxHeartbeats 0 in
theorem U_156_1 {X : mm_X} {d : Nat} {M : mm_M} {Q : Option Value → mm_M → Prop} {t : Nat → Int} {nn : Int} (hX : g_X X) (hd : 1 ≤ d) (q1 : (M.2.1 77 7).toInt ≤ (M.2.1 77 6).toInt) (q2 : (M.2.1 77 6).toInt = nn) (q3 : 0 ≤ nn) (q4 : nn ≤ 500) (q5 : TR M t nn) (q6 : W9 M) (h : ∀ (M1 : mm_M), g_G M1 → FR md_tk M M1 → ((M1.2.1 77 7).toInt ≤ (M1.2.1 77 6).toInt) → ((M.2.1 77 7).toInt ≤ (M1.2.1 77 7).toInt) → ((M1.2.1 77 8).toInt = 0 ∨ (M.2.1 77 7).toInt < (M1.2.1 77 7).toInt) → (RS M1 t nn ∧ (M1.2.1 77 10).toInt = x_sk t nn (M.2.1 77 7).toInt) → Q (none) M1) : ∀ nn9 : Nat, (∀ (N : mm_M), g_G N → FR md_tk M N → ((N.2.1 77 7).toInt ≤ (N.2.1 77 6).toInt) → ((N.2.1 77 10).toInt ≤ (N.2.1 77 7).toInt) → ((N.2.1 77 10).toInt < nn) → ((M.2.1 77 7).toInt ≤ (N.2.1 77 10).toInt) → (97 ≤ t ((N.2.1 77 10).toInt).toNat ∧ t ((N.2.1 77 10).toInt).toNat ≤ 122) → ((N.2.1 77 10).toInt = x_sk t nn (M.2.1 77 7).toInt) → (x_e t nn (N.2.1 77 7).toInt = x_e t nn (N.2.1 77 10).toInt) → (∀ i : Nat, i < ((N.2.1 77 7).toInt - (N.2.1 77 10).toInt).toNat → 97 ≤ t (((N.2.1 77 10).toInt).toNat + i) ∧ t (((N.2.1 77 10).toInt).toNat + i) ≤ 122) → ((N.2.1 77 6).toInt = nn) → (0 ≤ nn) → (nn ≤ 500) → (TR N t nn) → (W9 N) → 500 - (N.2.1 77 7).toInt < (nn9 : Int) → mm_T X d 155 90 [.ref 77] [] N Q) := by
  intro nn9
  induction nn9 with
  | zero =>
    intro N hG F0 g1 g2 g3 g4 g5 g6 g7 g8 g9 g10 g11 g12 g13 hm
    have b_95 := g_b hG (a := 77) (i := 7) (lo := 0) (hi := 500) rfl rfl
    have b_96 := g_b hG (a := 77) (i := 6) (lo := 0) (hi := 500) rfl rfl
    have b_97 := g_b hG (a := 77) (i := 10) (lo := 0) (hi := 500) rfl rfl
    exfalso; omega
  | succ nn9 ih =>
    intro N hG F0 g1 g2 g3 g4 g5 g6 g7 g8 g9 g10 g11 g12 g13 hm
    have b_98 := g_b hG (a := 77) (i := 7) (lo := 0) (hi := 500) rfl rfl
    have b_99 := g_b hG (a := 77) (i := 6) (lo := 0) (hi := 500) rfl rfl
    have b_100 := g_b hG (a := 77) (i := 10) (lo := 0) (hi := 500) rfl rfl
    refine to_an (pc := 90) rw_156_90 rfl (to_an (pc := 91) rw_156_91 rfl (tt_gI (pc := 92) rw_156_92 (g_o hG rfl) (v := (N.2.1 77 7)) rfl (s_v (pc := 95) rw_156_95 (dp0 hd (by decide)) (ls0 := [.ref 77, .int (N.2.1 77 7)]) rfl (Nat.le_of_ble_eq_true rfl) (Nat.le_of_ble_eq_true rfl) rfl (to_rc rfl rfl rfl (g_o hG rfl)) rfl (to_in (pc := 0) rw_154_0 rfl (to_an (pc := 1) rw_154_1 rfl (tt_gI (pc := 2) rw_154_2 (g_o hG rfl) (v := (N.2.1 77 6)) rfl (b_cge (pc := 5) rw_154_5 (A := (N.2.1 77 7).toInt) (B := (N.2.1 77 6).toInt) rfl rfl (fun h101 => ?_) (fun h101 => ?_))))))))
    · refine to_c (pc := 34) rw_154_34 (x := (0 : Int32)) rfl rfl (s_r1 (pc := 35) rw_154_35 (A := 0) rfl (by decide) (b_ieq_t (pc := 98) rw_156_98 (A := 0) rfl (by decide) ?_))
      have z_102 : x_e t nn (N.2.1 77 7).toInt = (N.2.1 77 7).toInt := x_no (by omega) (by first | exact Or.inl (by omega) | exact Or.inr (x_lt_f (by omega)))
      have z_103 := g7
      have z_104 : x_e t nn (N.2.1 77 10).toInt = (N.2.1 77 7).toInt := by omega
      refine to_an (pc := 114) rw_156_114 rfl (to_an (pc := 115) rw_156_115 rfl (to_an (pc := 116) rw_156_116 rfl (tt_gI (pc := 117) rw_156_117 (g_o hG rfl) (v := (N.2.1 77 10)) rfl (to_an (pc := 120) rw_156_120 rfl (tt_gI (pc := 121) rw_156_121 (g_o hG rfl) (v := (N.2.1 77 7)) rfl (s_v (pc := 124) rw_156_124 (dp0 hd (by decide)) (ls0 := [.ref 77, .int (N.2.1 77 10), .int (N.2.1 77 7), .null, .null, .null, .null, .null]) rfl (Nat.le_of_ble_eq_true rfl) (Nat.le_of_ble_eq_true rfl) rfl (to_rc rfl rfl rfl (g_o hG rfl)) rfl (E_153 hX (dp1 hd (by decide)) hG (by omega) (by omega) (by omega) (by omega) (by omega) (by omega) (by omega) g12 g13 (a := (N.2.1 77 10)) (b := (N.2.1 77 7)) (fun r105 M111 hG107 F106 p_108 p_109 p_110 => ?_))))))))
      have F112 := FR.c F0 F106 tg_10
      refine s_pI (pc := 127) rw_156_127 hG107 rfl (fun M114 W113 => ?_)
      have hG115 := g_wf hG107 W113 rfl rfl (by decide)
      have F116 := FR.w F112 W113 (show 77 = 77 ∧ 7 ≤ 9 ∧ 9 ≤ 10 by decide)
      refine to_an (pc := 130) rw_156_130 rfl (to_an (pc := 131) rw_156_131 rfl ?_)
      have c_117 : M114.2.1 77 9 = r105 := (W_e W113)
      refine tt_gI (pc := 132) rw_156_132 (g_o hG115 rfl) (v := r105) c_117 (b_ilt (pc := 135) rw_156_135 (A := r105.toInt) rfl (fun h118 => ?_) (fun h118 => ?_))
      · refine to_an (pc := 142) rw_156_142 rfl ?_
        have c_119 : M114.2.1 77 7 = (N.2.1 77 7) := (W_n W113 (by decide) (F_n F106 (show ¬ (77 < 0) by decide) rfl))
        refine tt_gI (pc := 143) rw_156_143 (g_o hG115 rfl) (v := (N.2.1 77 7)) c_119 (to_an (pc := 146) rw_156_146 rfl ?_)
        have c_120 : M114.2.1 77 10 = (N.2.1 77 10) := (W_n W113 (by decide) (F_n F106 (show ¬ (77 < 0) by decide) rfl))
        refine tt_gI (pc := 147) rw_156_147 (g_o hG115 rfl) (v := (N.2.1 77 10)) c_120 (s_sub (pc := 150) rw_156_150 (A := (N.2.1 77 7).toInt) (B := (N.2.1 77 10).toInt) rfl rfl (by omega) (fun v121 e122 => to_c (pc := 151) rw_156_151 (x := (6 : Int32)) rfl rfl (b_cle (pc := 153) rw_156_153 (A := v121.toInt) (B := 6) rfl rfl (fun h123 => ?_) (fun h123 => ?_))))
        · refine to_c (pc := 160) rw_156_160 (x := (2 : Int32)) rfl rfl (s_pI (pc := 161) rw_156_161 hG115 rfl (fun M125 W124 => ?_))
          have hG126 := g_w hG115 W124 (A := 2) rfl (lo := 0) (hi := 5) rfl rfl (by omega) (by decide)
          have F127 := FR.w F116 W124 (show 77 = 77 ∧ 7 ≤ 8 ∧ 8 ≤ 10 by decide)
          refine to_an (pc := 164) rw_156_164 rfl ?_
          have c_128 : M125.2.1 77 8 = (2 : Int32) := (W_e W124)
          refine tt_gI (pc := 165) rw_156_165 (g_o hG126 rfl) (v := (2 : Int32)) c_128 (to_c (pc := 168) rw_156_168 (x := (2 : Int32)) rfl rfl (b_cne_f (pc := 169) rw_156_169 (A := 2) (B := 2) rfl rfl (by decide) (to_an (pc := 172) rw_156_172 rfl (to_an (pc := 173) rw_156_173 rfl (to_an (pc := 174) rw_156_174 rfl ?_)))))
          have c_129 : M125.2.1 77 10 = (N.2.1 77 10) := (W_n W124 (by decide) c_120)
          refine tt_gI (pc := 175) rw_156_175 (g_o hG126 rfl) (v := (N.2.1 77 10)) c_129 (to_an (pc := 178) rw_156_178 rfl ?_)
          have c_130 : M125.2.1 77 7 = (N.2.1 77 7) := (W_n W124 (by decide) c_119)
          refine tt_gI (pc := 179) rw_156_179 (g_o hG126 rfl) (v := (N.2.1 77 7)) c_130 (s_v (pc := 182) rw_156_182 (dp0 hd (by decide)) (ls0 := [.ref 77, .int (N.2.1 77 10), .int (N.2.1 77 7), .null, .null]) rfl (Nat.le_of_ble_eq_true rfl) (Nat.le_of_ble_eq_true rfl) rfl (to_rc rfl rfl rfl (g_o hG126 rfl)) rfl ?_)
          have j_131 := (TR_f (fun a i z => W_n W124 (tg_16 a i z) rfl) (TR_f (fun a i z => W_n W113 (tg_13 a i z) rfl) (TR_f (tg_9 F106) g12)))
          refine E_157 hX (dp1 hd (by decide)) hG126 (by omega) (by omega) (by omega) (by omega) (by omega) (by omega) (by omega) j_131 g8 (a := (N.2.1 77 10)) (b := (N.2.1 77 7)) (fun r132 M136 hG134 F133 p_135 => ?_)
          have F137 := FR.c F127 F133 tg_10
          refine s_pI (pc := 185) rw_156_185 hG134 rfl (fun M139 W138 => ?_)
          have hG140 := g_wf hG134 W138 rfl rfl (by decide)
          have F141 := FR.w F137 W138 (show 77 = 77 ∧ 7 ≤ 9 ∧ 9 ≤ 10 by decide)
          refine to_go (pc := 188) rw_156_188 (to_rv (pc := 344) rw_156_344 ?_)
          have c_142 : M139.2.1 77 7 = (N.2.1 77 7) := (W_n W138 (by decide) (F_n F133 (show ¬ (77 < 0) by decide) c_130))
          have t_143 : (M139.2.1 77 7).toInt = (N.2.1 77 7).toInt := congrArg Int32.toInt c_142
          have c_144 : M139.2.1 77 6 = (N.2.1 77 6) := (W_n W138 (by decide) (F_n F133 (show ¬ (77 < 0) by decide) (W_n W124 (by decide) (W_n W113 (by decide) (F_n F106 (show ¬ (77 < 0) by decide) rfl)))))
          have t_145 : (M139.2.1 77 6).toInt = (N.2.1 77 6).toInt := congrArg Int32.toInt c_144
          have c_146 : M139.2.1 77 8 = (2 : Int32) := (W_n W138 (by decide) (F_n F133 (show ¬ (77 < 0) by decide) c_128))
          have k_147 : (2 : Int32).toInt = 2 := rfl
          have t_148 : (M139.2.1 77 8).toInt = (2 : Int32).toInt := congrArg Int32.toInt c_146
          have c_149 : M139.2.1 77 9 = r132 := (W_e W138)
          have t_150 : (M139.2.1 77 9).toInt = r132.toInt := congrArg Int32.toInt c_149
          have c_151 : M139.2.1 77 10 = (N.2.1 77 10) := (W_n W138 (by decide) (F_n F133 (show ¬ (77 < 0) by decide) c_129))
          have t_152 : (M139.2.1 77 10).toInt = (N.2.1 77 10).toInt := congrArg Int32.toInt c_151
          have z_153 := (x_tl (t := t) (n := nn) (a := (N.2.1 77 10).toInt) (by omega) (by omega)).2.2
          have z_154 := x_nx_b (t := t) (n := nn) (a := (N.2.1 77 10).toInt) (by omega) (by omega)
          have z_155 := x_R_2 (t := t) (n := nn) (a := (N.2.1 77 10).toInt) (v := r132.toInt) (by omega) (by omega) (by omega) (by omega) (by rw [z_104]; exact p_110.1 (by omega)) (by rw [z_104]; omega)
          have z_156 := g6
          exact h M139 hG140 F141 (by omega) (by omega) (by omega) (RS_m (a := (N.2.1 77 10).toInt) (kd := (2 : Int32).toInt) (wh := r132.toInt) (by omega) (by omega) (by omega) (by omega) (by omega) (by omega) (by omega) (by omega) z_155)
        · refine to_c (pc := 156) rw_156_156 (x := (5 : Int32)) rfl rfl (to_go (pc := 157) rw_156_157 (s_pI (pc := 161) rw_156_161 hG115 rfl (fun M158 W157 => ?_)))
          have hG159 := g_w hG115 W157 (A := 5) rfl (lo := 0) (hi := 5) rfl rfl (by omega) (by decide)
          have F160 := FR.w F116 W157 (show 77 = 77 ∧ 7 ≤ 8 ∧ 8 ≤ 10 by decide)
          refine to_an (pc := 164) rw_156_164 rfl ?_
          have c_161 : M158.2.1 77 8 = (5 : Int32) := (W_e W157)
          refine tt_gI (pc := 165) rw_156_165 (g_o hG159 rfl) (v := (5 : Int32)) c_161 (to_c (pc := 168) rw_156_168 (x := (2 : Int32)) rfl rfl (b_cne_t (pc := 169) rw_156_169 (A := 5) (B := 2) rfl rfl (by decide) (to_rv (pc := 344) rw_156_344 ?_)))
          have c_162 : M158.2.1 77 7 = (N.2.1 77 7) := (W_n W157 (by decide) c_119)
          have t_163 : (M158.2.1 77 7).toInt = (N.2.1 77 7).toInt := congrArg Int32.toInt c_162
          have c_164 : M158.2.1 77 6 = (N.2.1 77 6) := (W_n W157 (by decide) (W_n W113 (by decide) (F_n F106 (show ¬ (77 < 0) by decide) rfl)))
          have t_165 : (M158.2.1 77 6).toInt = (N.2.1 77 6).toInt := congrArg Int32.toInt c_164
          have k_166 : (5 : Int32).toInt = 5 := rfl
          have t_167 : (M158.2.1 77 8).toInt = (5 : Int32).toInt := congrArg Int32.toInt c_161
          have c_168 : M158.2.1 77 9 = r105 := (W_n W157 (by decide) c_117)
          have t_169 : (M158.2.1 77 9).toInt = r105.toInt := congrArg Int32.toInt c_168
          have c_170 : M158.2.1 77 10 = (N.2.1 77 10) := (W_n W157 (by decide) c_120)
          have t_171 : (M158.2.1 77 10).toInt = (N.2.1 77 10).toInt := congrArg Int32.toInt c_170
          have z_172 := (x_tl (t := t) (n := nn) (a := (N.2.1 77 10).toInt) (by omega) (by omega)).2.2
          have z_173 := x_nx_b (t := t) (n := nn) (a := (N.2.1 77 10).toInt) (by omega) (by omega)
          have z_174 := x_R_5 (t := t) (n := nn) (a := (N.2.1 77 10).toInt) (w := r105.toInt) (by omega) (by omega) (by omega)
          have z_175 := g6
          exact h M158 hG159 F160 (by omega) (by omega) (by omega) (RS_m (a := (N.2.1 77 10).toInt) (kd := (5 : Int32).toInt) (wh := r105.toInt) (by omega) (by omega) (by omega) (by omega) (by omega) (by omega) (by omega) (by omega) z_174)
      · refine to_c (pc := 138) rw_156_138 (x := (1 : Int32)) rfl rfl (to_go (pc := 139) rw_156_139 (s_pI (pc := 161) rw_156_161 hG115 rfl (fun M177 W176 => ?_)))
        have hG178 := g_w hG115 W176 (A := 1) rfl (lo := 0) (hi := 5) rfl rfl (by omega) (by decide)
        have F179 := FR.w F116 W176 (show 77 = 77 ∧ 7 ≤ 8 ∧ 8 ≤ 10 by decide)
        refine to_an (pc := 164) rw_156_164 rfl ?_
        have c_180 : M177.2.1 77 8 = (1 : Int32) := (W_e W176)
        refine tt_gI (pc := 165) rw_156_165 (g_o hG178 rfl) (v := (1 : Int32)) c_180 (to_c (pc := 168) rw_156_168 (x := (2 : Int32)) rfl rfl (b_cne_t (pc := 169) rw_156_169 (A := 1) (B := 2) rfl rfl (by decide) (to_rv (pc := 344) rw_156_344 ?_)))
        have c_181 : M177.2.1 77 7 = (N.2.1 77 7) := (W_n W176 (by decide) (W_n W113 (by decide) (F_n F106 (show ¬ (77 < 0) by decide) rfl)))
        have t_182 : (M177.2.1 77 7).toInt = (N.2.1 77 7).toInt := congrArg Int32.toInt c_181
        have c_183 : M177.2.1 77 6 = (N.2.1 77 6) := (W_n W176 (by decide) (W_n W113 (by decide) (F_n F106 (show ¬ (77 < 0) by decide) rfl)))
        have t_184 : (M177.2.1 77 6).toInt = (N.2.1 77 6).toInt := congrArg Int32.toInt c_183
        have k_185 : (1 : Int32).toInt = 1 := rfl
        have t_186 : (M177.2.1 77 8).toInt = (1 : Int32).toInt := congrArg Int32.toInt c_180
        have c_187 : M177.2.1 77 9 = r105 := (W_n W176 (by decide) c_117)
        have t_188 : (M177.2.1 77 9).toInt = r105.toInt := congrArg Int32.toInt c_187
        have c_189 : M177.2.1 77 10 = (N.2.1 77 10) := (W_n W176 (by decide) (W_n W113 (by decide) (F_n F106 (show ¬ (77 < 0) by decide) rfl)))
        have t_190 : (M177.2.1 77 10).toInt = (N.2.1 77 10).toInt := congrArg Int32.toInt c_189
        have z_191 := (x_tl (t := t) (n := nn) (a := (N.2.1 77 10).toInt) (by omega) (by omega)).2.2
        have z_192 := x_nx_b (t := t) (n := nn) (a := (N.2.1 77 10).toInt) (by omega) (by omega)
        have z_193 := x_R_k (t := t) (n := nn) (a := (N.2.1 77 10).toInt) (by omega) (by omega) (by omega) (r := r105.toInt) (by omega) (by omega) (by rw [z_104]; exact p_110.2 (by omega))
        have z_194 := g6
        exact h M177 hG178 F179 (by omega) (by omega) (by omega) (RS_m (a := (N.2.1 77 10).toInt) (kd := (1 : Int32).toInt) (wh := r105.toInt) (by omega) (by omega) (by omega) (by omega) (by omega) (by omega) (by omega) (by omega) z_193)
    · refine to_an (pc := 8) rw_154_8 rfl (s_gR (pc := 9) rw_154_9 hG rfl (v := 78) rfl (to_in (pc := 12) rw_154_12 rfl (s_ial (pc := 13) rw_154_13 hG rfl (n := 500) rfl rfl (A := (N.2.1 77 7).toInt) rfl (by omega) (by omega) (lo := 0) (hi := 255) rfl rfl (fun v195 w_196 _ _ => ?_))))
      have z_197 := TR_u g12 (A := (N.2.1 77 7).toInt) (B := (N.2.1 77 7).toInt) (by omega) (by omega) w_196 rfl
      refine to_c (pc := 14) rw_154_14 (x := (97 : Int32)) rfl rfl (b_clt (pc := 16) rw_154_16 (A := v195.toInt) (B := 97) rfl rfl (fun h198 => ?_) (fun h198 => ?_))
      · refine to_c (pc := 34) rw_154_34 (x := (0 : Int32)) rfl rfl (s_r1 (pc := 35) rw_154_35 (A := 0) rfl (by decide) (b_ieq_t (pc := 98) rw_156_98 (A := 0) rfl (by decide) ?_))
        have z_199 : x_e t nn (N.2.1 77 7).toInt = (N.2.1 77 7).toInt := x_no (by omega) (by first | exact Or.inl (by omega) | exact Or.inr (x_lt_f (by omega)))
        have z_200 := g7
        have z_201 : x_e t nn (N.2.1 77 10).toInt = (N.2.1 77 7).toInt := by omega
        refine to_an (pc := 114) rw_156_114 rfl (to_an (pc := 115) rw_156_115 rfl (to_an (pc := 116) rw_156_116 rfl (tt_gI (pc := 117) rw_156_117 (g_o hG rfl) (v := (N.2.1 77 10)) rfl (to_an (pc := 120) rw_156_120 rfl (tt_gI (pc := 121) rw_156_121 (g_o hG rfl) (v := (N.2.1 77 7)) rfl (s_v (pc := 124) rw_156_124 (dp0 hd (by decide)) (ls0 := [.ref 77, .int (N.2.1 77 10), .int (N.2.1 77 7), .null, .null, .null, .null, .null]) rfl (Nat.le_of_ble_eq_true rfl) (Nat.le_of_ble_eq_true rfl) rfl (to_rc rfl rfl rfl (g_o hG rfl)) rfl (E_153 hX (dp1 hd (by decide)) hG (by omega) (by omega) (by omega) (by omega) (by omega) (by omega) (by omega) g12 g13 (a := (N.2.1 77 10)) (b := (N.2.1 77 7)) (fun r202 M208 hG204 F203 p_205 p_206 p_207 => ?_))))))))
        have F209 := FR.c F0 F203 tg_10
        refine s_pI (pc := 127) rw_156_127 hG204 rfl (fun M211 W210 => ?_)
        have hG212 := g_wf hG204 W210 rfl rfl (by decide)
        have F213 := FR.w F209 W210 (show 77 = 77 ∧ 7 ≤ 9 ∧ 9 ≤ 10 by decide)
        refine to_an (pc := 130) rw_156_130 rfl (to_an (pc := 131) rw_156_131 rfl ?_)
        have c_214 : M211.2.1 77 9 = r202 := (W_e W210)
        refine tt_gI (pc := 132) rw_156_132 (g_o hG212 rfl) (v := r202) c_214 (b_ilt (pc := 135) rw_156_135 (A := r202.toInt) rfl (fun h215 => ?_) (fun h215 => ?_))
        · refine to_an (pc := 142) rw_156_142 rfl ?_
          have c_216 : M211.2.1 77 7 = (N.2.1 77 7) := (W_n W210 (by decide) (F_n F203 (show ¬ (77 < 0) by decide) rfl))
          refine tt_gI (pc := 143) rw_156_143 (g_o hG212 rfl) (v := (N.2.1 77 7)) c_216 (to_an (pc := 146) rw_156_146 rfl ?_)
          have c_217 : M211.2.1 77 10 = (N.2.1 77 10) := (W_n W210 (by decide) (F_n F203 (show ¬ (77 < 0) by decide) rfl))
          refine tt_gI (pc := 147) rw_156_147 (g_o hG212 rfl) (v := (N.2.1 77 10)) c_217 (s_sub (pc := 150) rw_156_150 (A := (N.2.1 77 7).toInt) (B := (N.2.1 77 10).toInt) rfl rfl (by omega) (fun v218 e219 => to_c (pc := 151) rw_156_151 (x := (6 : Int32)) rfl rfl (b_cle (pc := 153) rw_156_153 (A := v218.toInt) (B := 6) rfl rfl (fun h220 => ?_) (fun h220 => ?_))))
          · refine to_c (pc := 160) rw_156_160 (x := (2 : Int32)) rfl rfl (s_pI (pc := 161) rw_156_161 hG212 rfl (fun M222 W221 => ?_))
            have hG223 := g_w hG212 W221 (A := 2) rfl (lo := 0) (hi := 5) rfl rfl (by omega) (by decide)
            have F224 := FR.w F213 W221 (show 77 = 77 ∧ 7 ≤ 8 ∧ 8 ≤ 10 by decide)
            refine to_an (pc := 164) rw_156_164 rfl ?_
            have c_225 : M222.2.1 77 8 = (2 : Int32) := (W_e W221)
            refine tt_gI (pc := 165) rw_156_165 (g_o hG223 rfl) (v := (2 : Int32)) c_225 (to_c (pc := 168) rw_156_168 (x := (2 : Int32)) rfl rfl (b_cne_f (pc := 169) rw_156_169 (A := 2) (B := 2) rfl rfl (by decide) (to_an (pc := 172) rw_156_172 rfl (to_an (pc := 173) rw_156_173 rfl (to_an (pc := 174) rw_156_174 rfl ?_)))))
            have c_226 : M222.2.1 77 10 = (N.2.1 77 10) := (W_n W221 (by decide) c_217)
            refine tt_gI (pc := 175) rw_156_175 (g_o hG223 rfl) (v := (N.2.1 77 10)) c_226 (to_an (pc := 178) rw_156_178 rfl ?_)
            have c_227 : M222.2.1 77 7 = (N.2.1 77 7) := (W_n W221 (by decide) c_216)
            refine tt_gI (pc := 179) rw_156_179 (g_o hG223 rfl) (v := (N.2.1 77 7)) c_227 (s_v (pc := 182) rw_156_182 (dp0 hd (by decide)) (ls0 := [.ref 77, .int (N.2.1 77 10), .int (N.2.1 77 7), .null, .null]) rfl (Nat.le_of_ble_eq_true rfl) (Nat.le_of_ble_eq_true rfl) rfl (to_rc rfl rfl rfl (g_o hG223 rfl)) rfl ?_)
            have j_228 := (TR_f (fun a i z => W_n W221 (tg_16 a i z) rfl) (TR_f (fun a i z => W_n W210 (tg_13 a i z) rfl) (TR_f (tg_9 F203) g12)))
            refine E_157 hX (dp1 hd (by decide)) hG223 (by omega) (by omega) (by omega) (by omega) (by omega) (by omega) (by omega) j_228 g8 (a := (N.2.1 77 10)) (b := (N.2.1 77 7)) (fun r229 M233 hG231 F230 p_232 => ?_)
            have F234 := FR.c F224 F230 tg_10
            refine s_pI (pc := 185) rw_156_185 hG231 rfl (fun M236 W235 => ?_)
            have hG237 := g_wf hG231 W235 rfl rfl (by decide)
            have F238 := FR.w F234 W235 (show 77 = 77 ∧ 7 ≤ 9 ∧ 9 ≤ 10 by decide)
            refine to_go (pc := 188) rw_156_188 (to_rv (pc := 344) rw_156_344 ?_)
            have c_239 : M236.2.1 77 7 = (N.2.1 77 7) := (W_n W235 (by decide) (F_n F230 (show ¬ (77 < 0) by decide) c_227))
            have t_240 : (M236.2.1 77 7).toInt = (N.2.1 77 7).toInt := congrArg Int32.toInt c_239
            have c_241 : M236.2.1 77 6 = (N.2.1 77 6) := (W_n W235 (by decide) (F_n F230 (show ¬ (77 < 0) by decide) (W_n W221 (by decide) (W_n W210 (by decide) (F_n F203 (show ¬ (77 < 0) by decide) rfl)))))
            have t_242 : (M236.2.1 77 6).toInt = (N.2.1 77 6).toInt := congrArg Int32.toInt c_241
            have c_243 : M236.2.1 77 8 = (2 : Int32) := (W_n W235 (by decide) (F_n F230 (show ¬ (77 < 0) by decide) c_225))
            have k_244 : (2 : Int32).toInt = 2 := rfl
            have t_245 : (M236.2.1 77 8).toInt = (2 : Int32).toInt := congrArg Int32.toInt c_243
            have c_246 : M236.2.1 77 9 = r229 := (W_e W235)
            have t_247 : (M236.2.1 77 9).toInt = r229.toInt := congrArg Int32.toInt c_246
            have c_248 : M236.2.1 77 10 = (N.2.1 77 10) := (W_n W235 (by decide) (F_n F230 (show ¬ (77 < 0) by decide) c_226))
            have t_249 : (M236.2.1 77 10).toInt = (N.2.1 77 10).toInt := congrArg Int32.toInt c_248
            have z_250 := (x_tl (t := t) (n := nn) (a := (N.2.1 77 10).toInt) (by omega) (by omega)).2.2
            have z_251 := x_nx_b (t := t) (n := nn) (a := (N.2.1 77 10).toInt) (by omega) (by omega)
            have z_252 := x_R_2 (t := t) (n := nn) (a := (N.2.1 77 10).toInt) (v := r229.toInt) (by omega) (by omega) (by omega) (by omega) (by rw [z_201]; exact p_207.1 (by omega)) (by rw [z_201]; omega)
            have z_253 := g6
            exact h M236 hG237 F238 (by omega) (by omega) (by omega) (RS_m (a := (N.2.1 77 10).toInt) (kd := (2 : Int32).toInt) (wh := r229.toInt) (by omega) (by omega) (by omega) (by omega) (by omega) (by omega) (by omega) (by omega) z_252)
          · refine to_c (pc := 156) rw_156_156 (x := (5 : Int32)) rfl rfl (to_go (pc := 157) rw_156_157 (s_pI (pc := 161) rw_156_161 hG212 rfl (fun M255 W254 => ?_)))
            have hG256 := g_w hG212 W254 (A := 5) rfl (lo := 0) (hi := 5) rfl rfl (by omega) (by decide)
            have F257 := FR.w F213 W254 (show 77 = 77 ∧ 7 ≤ 8 ∧ 8 ≤ 10 by decide)
            refine to_an (pc := 164) rw_156_164 rfl ?_
            have c_258 : M255.2.1 77 8 = (5 : Int32) := (W_e W254)
            refine tt_gI (pc := 165) rw_156_165 (g_o hG256 rfl) (v := (5 : Int32)) c_258 (to_c (pc := 168) rw_156_168 (x := (2 : Int32)) rfl rfl (b_cne_t (pc := 169) rw_156_169 (A := 5) (B := 2) rfl rfl (by decide) (to_rv (pc := 344) rw_156_344 ?_)))
            have c_259 : M255.2.1 77 7 = (N.2.1 77 7) := (W_n W254 (by decide) c_216)
            have t_260 : (M255.2.1 77 7).toInt = (N.2.1 77 7).toInt := congrArg Int32.toInt c_259
            have c_261 : M255.2.1 77 6 = (N.2.1 77 6) := (W_n W254 (by decide) (W_n W210 (by decide) (F_n F203 (show ¬ (77 < 0) by decide) rfl)))
            have t_262 : (M255.2.1 77 6).toInt = (N.2.1 77 6).toInt := congrArg Int32.toInt c_261
            have k_263 : (5 : Int32).toInt = 5 := rfl
            have t_264 : (M255.2.1 77 8).toInt = (5 : Int32).toInt := congrArg Int32.toInt c_258
            have c_265 : M255.2.1 77 9 = r202 := (W_n W254 (by decide) c_214)
            have t_266 : (M255.2.1 77 9).toInt = r202.toInt := congrArg Int32.toInt c_265
            have c_267 : M255.2.1 77 10 = (N.2.1 77 10) := (W_n W254 (by decide) c_217)
            have t_268 : (M255.2.1 77 10).toInt = (N.2.1 77 10).toInt := congrArg Int32.toInt c_267
            have z_269 := (x_tl (t := t) (n := nn) (a := (N.2.1 77 10).toInt) (by omega) (by omega)).2.2
            have z_270 := x_nx_b (t := t) (n := nn) (a := (N.2.1 77 10).toInt) (by omega) (by omega)
            have z_271 := x_R_5 (t := t) (n := nn) (a := (N.2.1 77 10).toInt) (w := r202.toInt) (by omega) (by omega) (by omega)
            have z_272 := g6
            exact h M255 hG256 F257 (by omega) (by omega) (by omega) (RS_m (a := (N.2.1 77 10).toInt) (kd := (5 : Int32).toInt) (wh := r202.toInt) (by omega) (by omega) (by omega) (by omega) (by omega) (by omega) (by omega) (by omega) z_271)
        · refine to_c (pc := 138) rw_156_138 (x := (1 : Int32)) rfl rfl (to_go (pc := 139) rw_156_139 (s_pI (pc := 161) rw_156_161 hG212 rfl (fun M274 W273 => ?_)))
          have hG275 := g_w hG212 W273 (A := 1) rfl (lo := 0) (hi := 5) rfl rfl (by omega) (by decide)
          have F276 := FR.w F213 W273 (show 77 = 77 ∧ 7 ≤ 8 ∧ 8 ≤ 10 by decide)
          refine to_an (pc := 164) rw_156_164 rfl ?_
          have c_277 : M274.2.1 77 8 = (1 : Int32) := (W_e W273)
          refine tt_gI (pc := 165) rw_156_165 (g_o hG275 rfl) (v := (1 : Int32)) c_277 (to_c (pc := 168) rw_156_168 (x := (2 : Int32)) rfl rfl (b_cne_t (pc := 169) rw_156_169 (A := 1) (B := 2) rfl rfl (by decide) (to_rv (pc := 344) rw_156_344 ?_)))
          have c_278 : M274.2.1 77 7 = (N.2.1 77 7) := (W_n W273 (by decide) (W_n W210 (by decide) (F_n F203 (show ¬ (77 < 0) by decide) rfl)))
          have t_279 : (M274.2.1 77 7).toInt = (N.2.1 77 7).toInt := congrArg Int32.toInt c_278
          have c_280 : M274.2.1 77 6 = (N.2.1 77 6) := (W_n W273 (by decide) (W_n W210 (by decide) (F_n F203 (show ¬ (77 < 0) by decide) rfl)))
          have t_281 : (M274.2.1 77 6).toInt = (N.2.1 77 6).toInt := congrArg Int32.toInt c_280
          have k_282 : (1 : Int32).toInt = 1 := rfl
          have t_283 : (M274.2.1 77 8).toInt = (1 : Int32).toInt := congrArg Int32.toInt c_277
          have c_284 : M274.2.1 77 9 = r202 := (W_n W273 (by decide) c_214)
          have t_285 : (M274.2.1 77 9).toInt = r202.toInt := congrArg Int32.toInt c_284
          have c_286 : M274.2.1 77 10 = (N.2.1 77 10) := (W_n W273 (by decide) (W_n W210 (by decide) (F_n F203 (show ¬ (77 < 0) by decide) rfl)))
          have t_287 : (M274.2.1 77 10).toInt = (N.2.1 77 10).toInt := congrArg Int32.toInt c_286
          have z_288 := (x_tl (t := t) (n := nn) (a := (N.2.1 77 10).toInt) (by omega) (by omega)).2.2
          have z_289 := x_nx_b (t := t) (n := nn) (a := (N.2.1 77 10).toInt) (by omega) (by omega)
          have z_290 := x_R_k (t := t) (n := nn) (a := (N.2.1 77 10).toInt) (by omega) (by omega) (by omega) (r := r202.toInt) (by omega) (by omega) (by rw [z_201]; exact p_207.2 (by omega))
          have z_291 := g6
          exact h M274 hG275 F276 (by omega) (by omega) (by omega) (RS_m (a := (N.2.1 77 10).toInt) (kd := (1 : Int32).toInt) (wh := r202.toInt) (by omega) (by omega) (by omega) (by omega) (by omega) (by omega) (by omega) (by omega) z_290)
      · refine to_an (pc := 19) rw_154_19 rfl (s_gR (pc := 20) rw_154_20 hG rfl (v := 78) rfl (to_in (pc := 23) rw_154_23 rfl (s_ialk (pc := 24) rw_154_24 hG rfl (n := 500) rfl rfl (A := (N.2.1 77 7).toInt) rfl (by omega) (by omega) (v := v195) w_196 (to_c (pc := 25) rw_154_25 (x := (122 : Int32)) rfl rfl (b_cgt (pc := 27) rw_154_27 (A := v195.toInt) (B := 122) rfl rfl (fun h294 => ?_) (fun h294 => ?_))))))
        · refine to_c (pc := 34) rw_154_34 (x := (0 : Int32)) rfl rfl (s_r1 (pc := 35) rw_154_35 (A := 0) rfl (by decide) (b_ieq_t (pc := 98) rw_156_98 (A := 0) rfl (by decide) ?_))
          have z_295 : x_e t nn (N.2.1 77 7).toInt = (N.2.1 77 7).toInt := x_no (by omega) (by first | exact Or.inl (by omega) | exact Or.inr (x_lt_f (by omega)))
          have z_296 := g7
          have z_297 : x_e t nn (N.2.1 77 10).toInt = (N.2.1 77 7).toInt := by omega
          refine to_an (pc := 114) rw_156_114 rfl (to_an (pc := 115) rw_156_115 rfl (to_an (pc := 116) rw_156_116 rfl (tt_gI (pc := 117) rw_156_117 (g_o hG rfl) (v := (N.2.1 77 10)) rfl (to_an (pc := 120) rw_156_120 rfl (tt_gI (pc := 121) rw_156_121 (g_o hG rfl) (v := (N.2.1 77 7)) rfl (s_v (pc := 124) rw_156_124 (dp0 hd (by decide)) (ls0 := [.ref 77, .int (N.2.1 77 10), .int (N.2.1 77 7), .null, .null, .null, .null, .null]) rfl (Nat.le_of_ble_eq_true rfl) (Nat.le_of_ble_eq_true rfl) rfl (to_rc rfl rfl rfl (g_o hG rfl)) rfl (E_153 hX (dp1 hd (by decide)) hG (by omega) (by omega) (by omega) (by omega) (by omega) (by omega) (by omega) g12 g13 (a := (N.2.1 77 10)) (b := (N.2.1 77 7)) (fun r298 M304 hG300 F299 p_301 p_302 p_303 => ?_))))))))
          have F305 := FR.c F0 F299 tg_10
          refine s_pI (pc := 127) rw_156_127 hG300 rfl (fun M307 W306 => ?_)
          have hG308 := g_wf hG300 W306 rfl rfl (by decide)
          have F309 := FR.w F305 W306 (show 77 = 77 ∧ 7 ≤ 9 ∧ 9 ≤ 10 by decide)
          refine to_an (pc := 130) rw_156_130 rfl (to_an (pc := 131) rw_156_131 rfl ?_)
          have c_310 : M307.2.1 77 9 = r298 := (W_e W306)
          refine tt_gI (pc := 132) rw_156_132 (g_o hG308 rfl) (v := r298) c_310 (b_ilt (pc := 135) rw_156_135 (A := r298.toInt) rfl (fun h311 => ?_) (fun h311 => ?_))
          · refine to_an (pc := 142) rw_156_142 rfl ?_
            have c_312 : M307.2.1 77 7 = (N.2.1 77 7) := (W_n W306 (by decide) (F_n F299 (show ¬ (77 < 0) by decide) rfl))
            refine tt_gI (pc := 143) rw_156_143 (g_o hG308 rfl) (v := (N.2.1 77 7)) c_312 (to_an (pc := 146) rw_156_146 rfl ?_)
            have c_313 : M307.2.1 77 10 = (N.2.1 77 10) := (W_n W306 (by decide) (F_n F299 (show ¬ (77 < 0) by decide) rfl))
            refine tt_gI (pc := 147) rw_156_147 (g_o hG308 rfl) (v := (N.2.1 77 10)) c_313 (s_sub (pc := 150) rw_156_150 (A := (N.2.1 77 7).toInt) (B := (N.2.1 77 10).toInt) rfl rfl (by omega) (fun v314 e315 => to_c (pc := 151) rw_156_151 (x := (6 : Int32)) rfl rfl (b_cle (pc := 153) rw_156_153 (A := v314.toInt) (B := 6) rfl rfl (fun h316 => ?_) (fun h316 => ?_))))
            · refine to_c (pc := 160) rw_156_160 (x := (2 : Int32)) rfl rfl (s_pI (pc := 161) rw_156_161 hG308 rfl (fun M318 W317 => ?_))
              have hG319 := g_w hG308 W317 (A := 2) rfl (lo := 0) (hi := 5) rfl rfl (by omega) (by decide)
              have F320 := FR.w F309 W317 (show 77 = 77 ∧ 7 ≤ 8 ∧ 8 ≤ 10 by decide)
              refine to_an (pc := 164) rw_156_164 rfl ?_
              have c_321 : M318.2.1 77 8 = (2 : Int32) := (W_e W317)
              refine tt_gI (pc := 165) rw_156_165 (g_o hG319 rfl) (v := (2 : Int32)) c_321 (to_c (pc := 168) rw_156_168 (x := (2 : Int32)) rfl rfl (b_cne_f (pc := 169) rw_156_169 (A := 2) (B := 2) rfl rfl (by decide) (to_an (pc := 172) rw_156_172 rfl (to_an (pc := 173) rw_156_173 rfl (to_an (pc := 174) rw_156_174 rfl ?_)))))
              have c_322 : M318.2.1 77 10 = (N.2.1 77 10) := (W_n W317 (by decide) c_313)
              refine tt_gI (pc := 175) rw_156_175 (g_o hG319 rfl) (v := (N.2.1 77 10)) c_322 (to_an (pc := 178) rw_156_178 rfl ?_)
              have c_323 : M318.2.1 77 7 = (N.2.1 77 7) := (W_n W317 (by decide) c_312)
              refine tt_gI (pc := 179) rw_156_179 (g_o hG319 rfl) (v := (N.2.1 77 7)) c_323 (s_v (pc := 182) rw_156_182 (dp0 hd (by decide)) (ls0 := [.ref 77, .int (N.2.1 77 10), .int (N.2.1 77 7), .null, .null]) rfl (Nat.le_of_ble_eq_true rfl) (Nat.le_of_ble_eq_true rfl) rfl (to_rc rfl rfl rfl (g_o hG319 rfl)) rfl ?_)
              have j_324 := (TR_f (fun a i z => W_n W317 (tg_16 a i z) rfl) (TR_f (fun a i z => W_n W306 (tg_13 a i z) rfl) (TR_f (tg_9 F299) g12)))
              refine E_157 hX (dp1 hd (by decide)) hG319 (by omega) (by omega) (by omega) (by omega) (by omega) (by omega) (by omega) j_324 g8 (a := (N.2.1 77 10)) (b := (N.2.1 77 7)) (fun r325 M329 hG327 F326 p_328 => ?_)
              have F330 := FR.c F320 F326 tg_10
              refine s_pI (pc := 185) rw_156_185 hG327 rfl (fun M332 W331 => ?_)
              have hG333 := g_wf hG327 W331 rfl rfl (by decide)
              have F334 := FR.w F330 W331 (show 77 = 77 ∧ 7 ≤ 9 ∧ 9 ≤ 10 by decide)
              refine to_go (pc := 188) rw_156_188 (to_rv (pc := 344) rw_156_344 ?_)
              have c_335 : M332.2.1 77 7 = (N.2.1 77 7) := (W_n W331 (by decide) (F_n F326 (show ¬ (77 < 0) by decide) c_323))
              have t_336 : (M332.2.1 77 7).toInt = (N.2.1 77 7).toInt := congrArg Int32.toInt c_335
              have c_337 : M332.2.1 77 6 = (N.2.1 77 6) := (W_n W331 (by decide) (F_n F326 (show ¬ (77 < 0) by decide) (W_n W317 (by decide) (W_n W306 (by decide) (F_n F299 (show ¬ (77 < 0) by decide) rfl)))))
              have t_338 : (M332.2.1 77 6).toInt = (N.2.1 77 6).toInt := congrArg Int32.toInt c_337
              have c_339 : M332.2.1 77 8 = (2 : Int32) := (W_n W331 (by decide) (F_n F326 (show ¬ (77 < 0) by decide) c_321))
              have k_340 : (2 : Int32).toInt = 2 := rfl
              have t_341 : (M332.2.1 77 8).toInt = (2 : Int32).toInt := congrArg Int32.toInt c_339
              have c_342 : M332.2.1 77 9 = r325 := (W_e W331)
              have t_343 : (M332.2.1 77 9).toInt = r325.toInt := congrArg Int32.toInt c_342
              have c_344 : M332.2.1 77 10 = (N.2.1 77 10) := (W_n W331 (by decide) (F_n F326 (show ¬ (77 < 0) by decide) c_322))
              have t_345 : (M332.2.1 77 10).toInt = (N.2.1 77 10).toInt := congrArg Int32.toInt c_344
              have z_346 := (x_tl (t := t) (n := nn) (a := (N.2.1 77 10).toInt) (by omega) (by omega)).2.2
              have z_347 := x_nx_b (t := t) (n := nn) (a := (N.2.1 77 10).toInt) (by omega) (by omega)
              have z_348 := x_R_2 (t := t) (n := nn) (a := (N.2.1 77 10).toInt) (v := r325.toInt) (by omega) (by omega) (by omega) (by omega) (by rw [z_297]; exact p_303.1 (by omega)) (by rw [z_297]; omega)
              have z_349 := g6
              exact h M332 hG333 F334 (by omega) (by omega) (by omega) (RS_m (a := (N.2.1 77 10).toInt) (kd := (2 : Int32).toInt) (wh := r325.toInt) (by omega) (by omega) (by omega) (by omega) (by omega) (by omega) (by omega) (by omega) z_348)
            · refine to_c (pc := 156) rw_156_156 (x := (5 : Int32)) rfl rfl (to_go (pc := 157) rw_156_157 (s_pI (pc := 161) rw_156_161 hG308 rfl (fun M351 W350 => ?_)))
              have hG352 := g_w hG308 W350 (A := 5) rfl (lo := 0) (hi := 5) rfl rfl (by omega) (by decide)
              have F353 := FR.w F309 W350 (show 77 = 77 ∧ 7 ≤ 8 ∧ 8 ≤ 10 by decide)
              refine to_an (pc := 164) rw_156_164 rfl ?_
              have c_354 : M351.2.1 77 8 = (5 : Int32) := (W_e W350)
              refine tt_gI (pc := 165) rw_156_165 (g_o hG352 rfl) (v := (5 : Int32)) c_354 (to_c (pc := 168) rw_156_168 (x := (2 : Int32)) rfl rfl (b_cne_t (pc := 169) rw_156_169 (A := 5) (B := 2) rfl rfl (by decide) (to_rv (pc := 344) rw_156_344 ?_)))
              have c_355 : M351.2.1 77 7 = (N.2.1 77 7) := (W_n W350 (by decide) c_312)
              have t_356 : (M351.2.1 77 7).toInt = (N.2.1 77 7).toInt := congrArg Int32.toInt c_355
              have c_357 : M351.2.1 77 6 = (N.2.1 77 6) := (W_n W350 (by decide) (W_n W306 (by decide) (F_n F299 (show ¬ (77 < 0) by decide) rfl)))
              have t_358 : (M351.2.1 77 6).toInt = (N.2.1 77 6).toInt := congrArg Int32.toInt c_357
              have k_359 : (5 : Int32).toInt = 5 := rfl
              have t_360 : (M351.2.1 77 8).toInt = (5 : Int32).toInt := congrArg Int32.toInt c_354
              have c_361 : M351.2.1 77 9 = r298 := (W_n W350 (by decide) c_310)
              have t_362 : (M351.2.1 77 9).toInt = r298.toInt := congrArg Int32.toInt c_361
              have c_363 : M351.2.1 77 10 = (N.2.1 77 10) := (W_n W350 (by decide) c_313)
              have t_364 : (M351.2.1 77 10).toInt = (N.2.1 77 10).toInt := congrArg Int32.toInt c_363
              have z_365 := (x_tl (t := t) (n := nn) (a := (N.2.1 77 10).toInt) (by omega) (by omega)).2.2
              have z_366 := x_nx_b (t := t) (n := nn) (a := (N.2.1 77 10).toInt) (by omega) (by omega)
              have z_367 := x_R_5 (t := t) (n := nn) (a := (N.2.1 77 10).toInt) (w := r298.toInt) (by omega) (by omega) (by omega)
              have z_368 := g6
              exact h M351 hG352 F353 (by omega) (by omega) (by omega) (RS_m (a := (N.2.1 77 10).toInt) (kd := (5 : Int32).toInt) (wh := r298.toInt) (by omega) (by omega) (by omega) (by omega) (by omega) (by omega) (by omega) (by omega) z_367)
          · refine to_c (pc := 138) rw_156_138 (x := (1 : Int32)) rfl rfl (to_go (pc := 139) rw_156_139 (s_pI (pc := 161) rw_156_161 hG308 rfl (fun M370 W369 => ?_)))
            have hG371 := g_w hG308 W369 (A := 1) rfl (lo := 0) (hi := 5) rfl rfl (by omega) (by decide)
            have F372 := FR.w F309 W369 (show 77 = 77 ∧ 7 ≤ 8 ∧ 8 ≤ 10 by decide)
            refine to_an (pc := 164) rw_156_164 rfl ?_
            have c_373 : M370.2.1 77 8 = (1 : Int32) := (W_e W369)
            refine tt_gI (pc := 165) rw_156_165 (g_o hG371 rfl) (v := (1 : Int32)) c_373 (to_c (pc := 168) rw_156_168 (x := (2 : Int32)) rfl rfl (b_cne_t (pc := 169) rw_156_169 (A := 1) (B := 2) rfl rfl (by decide) (to_rv (pc := 344) rw_156_344 ?_)))
            have c_374 : M370.2.1 77 7 = (N.2.1 77 7) := (W_n W369 (by decide) (W_n W306 (by decide) (F_n F299 (show ¬ (77 < 0) by decide) rfl)))
            have t_375 : (M370.2.1 77 7).toInt = (N.2.1 77 7).toInt := congrArg Int32.toInt c_374
            have c_376 : M370.2.1 77 6 = (N.2.1 77 6) := (W_n W369 (by decide) (W_n W306 (by decide) (F_n F299 (show ¬ (77 < 0) by decide) rfl)))
            have t_377 : (M370.2.1 77 6).toInt = (N.2.1 77 6).toInt := congrArg Int32.toInt c_376
            have k_378 : (1 : Int32).toInt = 1 := rfl
            have t_379 : (M370.2.1 77 8).toInt = (1 : Int32).toInt := congrArg Int32.toInt c_373
            have c_380 : M370.2.1 77 9 = r298 := (W_n W369 (by decide) c_310)
            have t_381 : (M370.2.1 77 9).toInt = r298.toInt := congrArg Int32.toInt c_380
            have c_382 : M370.2.1 77 10 = (N.2.1 77 10) := (W_n W369 (by decide) (W_n W306 (by decide) (F_n F299 (show ¬ (77 < 0) by decide) rfl)))
            have t_383 : (M370.2.1 77 10).toInt = (N.2.1 77 10).toInt := congrArg Int32.toInt c_382
            have z_384 := (x_tl (t := t) (n := nn) (a := (N.2.1 77 10).toInt) (by omega) (by omega)).2.2
            have z_385 := x_nx_b (t := t) (n := nn) (a := (N.2.1 77 10).toInt) (by omega) (by omega)
            have z_386 := x_R_k (t := t) (n := nn) (a := (N.2.1 77 10).toInt) (by omega) (by omega) (by omega) (r := r298.toInt) (by omega) (by omega) (by rw [z_297]; exact p_303.2 (by omega))
            have z_387 := g6
            exact h M370 hG371 F372 (by omega) (by omega) (by omega) (RS_m (a := (N.2.1 77 10).toInt) (kd := (1 : Int32).toInt) (wh := r298.toInt) (by omega) (by omega) (by omega) (by omega) (by omega) (by omega) (by omega) (by omega) z_386)
        · refine to_c (pc := 30) rw_154_30 (x := (1 : Int32)) rfl rfl (to_go (pc := 31) rw_154_31 (s_r1 (pc := 35) rw_154_35 (A := 1) rfl (by decide) (b_ieq_f (pc := 98) rw_156_98 (A := 1) rfl (by decide) (to_an (pc := 101) rw_156_101 rfl (to_dupr (pc := 102) rw_156_102 (tt_gI (pc := 103) rw_156_103 (g_o hG rfl) (v := (N.2.1 77 7)) rfl (to_c (pc := 106) rw_156_106 (x := (1 : Int32)) rfl rfl (s_add (pc := 107) rw_156_107 (A := (N.2.1 77 7).toInt) (B := 1) rfl rfl (by omega) (fun v388 e389 => s_pI (pc := 108) rw_156_108 hG rfl (fun M391 W390 => ?_))))))))))
          have hG392 := g_w hG W390 (A := v388.toInt) rfl (lo := 0) (hi := 500) rfl rfl (by omega) (by decide)
          have F393 := FR.w F0 W390 (show 77 = 77 ∧ 7 ≤ 7 ∧ 7 ≤ 10 by decide)
          refine to_go (pc := 111) rw_156_111 ?_
          have c_394 : M391.2.1 77 7 = v388 := (W_e W390)
          have t_395 : (M391.2.1 77 7).toInt = v388.toInt := congrArg Int32.toInt c_394
          have c_396 : M391.2.1 77 6 = (N.2.1 77 6) := (W_n W390 (by decide) rfl)
          have t_397 : (M391.2.1 77 6).toInt = (N.2.1 77 6).toInt := congrArg Int32.toInt c_396
          have c_398 : M391.2.1 77 10 = (N.2.1 77 10) := (W_n W390 (by decide) rfl)
          have t_399 : (M391.2.1 77 10).toInt = (N.2.1 77 10).toInt := congrArg Int32.toInt c_398
          have z_400 := g6
          have j_401 := (TR_f (fun a i z => W_n W390 (tg_12 a i z) rfl) g12)
          have j_402 := (W9_f (fun a i z => W_n W390 (tg_14 a i z) rfl) g13)
          exact ih M391  hG392 F393 (by omega) (by omega) (by omega) (by omega) (by rw [show (M391.2.1 77 10).toInt = (N.2.1 77 10).toInt by omega]; exact g5) (by omega) ((x_ee_e (x4 := (N.2.1 77 7).toInt) (by omega) (by omega) (by omega) (by omega) g7).trans (congrArg (x_e t nn) (show (N.2.1 77 10).toInt = (M391.2.1 77 10).toInt by omega))) (x_lt_e2 (x4 := (N.2.1 77 7).toInt) (f := (N.2.1 77 10).toInt) (by omega) (by omega) g8 (by omega) (by omega) (by omega)) (by omega) (by omega) (by omega) j_401 j_402 (by omega)
set_option maxRecDepth 4000 in
set_option maxHeartbeats 0 in
theorem U_156_2 {X : mm_X} {d : Nat} {M : mm_M} {Q : Option Value → mm_M → Prop} {t : Nat → Int} {nn : Int} (hX : g_X X) (hd : 1 ≤ d) (q1 : (M.2.1 77 7).toInt ≤ (M.2.1 77 6).toInt) (q2 : (M.2.1 77 6).toInt = nn) (q3 : 0 ≤ nn) (q4 : nn ≤ 500) (q5 : TR M t nn) (q6 : W9 M) (h : ∀ (M1 : mm_M), g_G M1 → FR md_tk M M1 → ((M1.2.1 77 7).toInt ≤ (M1.2.1 77 6).toInt) → ((M.2.1 77 7).toInt ≤ (M1.2.1 77 7).toInt) → ((M1.2.1 77 8).toInt = 0 ∨ (M.2.1 77 7).toInt < (M1.2.1 77 7).toInt) → (RS M1 t nn ∧ (M1.2.1 77 10).toInt = x_sk t nn (M.2.1 77 7).toInt) → Q (none) M1) : ∀ nn9 : Nat, (∀ (N : mm_M), g_G N → FR md_tk M N → ((N.2.1 77 7).toInt ≤ (N.2.1 77 6).toInt) → ((M.2.1 77 7).toInt ≤ (N.2.1 77 7).toInt) → (x_sk t nn (N.2.1 77 7).toInt = x_sk t nn (M.2.1 77 7).toInt) → ((N.2.1 77 6).toInt = nn) → (0 ≤ nn) → (nn ≤ 500) → (TR N t nn) → (W9 N) → 500 - (N.2.1 77 7).toInt < (nn9 : Int) → mm_T X d 155 0 [.ref 77] [] N Q) := by
  intro nn9
  induction nn9 with
  | zero =>
    intro N hG F0 g1 g2 g3 g4 g5 g6 g7 g8 hm
    have b_403 := g_b hG (a := 77) (i := 7) (lo := 0) (hi := 500) rfl rfl
    have b_404 := g_b hG (a := 77) (i := 6) (lo := 0) (hi := 500) rfl rfl
    exfalso; omega
  | succ nn9 ih =>
    intro N hG F0 g1 g2 g3 g4 g5 g6 g7 g8 hm
    have b_405 := g_b hG (a := 77) (i := 7) (lo := 0) (hi := 500) rfl rfl
    have b_406 := g_b hG (a := 77) (i := 6) (lo := 0) (hi := 500) rfl rfl
    refine to_an (pc := 0) rw_156_0 rfl (tt_gI (pc := 1) rw_156_1 (g_o hG rfl) (v := (N.2.1 77 7)) rfl (to_an (pc := 4) rw_156_4 rfl (tt_gI (pc := 5) rw_156_5 (g_o hG rfl) (v := (N.2.1 77 6)) rfl (b_cge (pc := 8) rw_156_8 (A := (N.2.1 77 7).toInt) (B := (N.2.1 77 6).toInt) rfl rfl (fun h407 => ?_) (fun h407 => ?_)))))
    · refine to_an (pc := 52) rw_156_52 rfl (to_an (pc := 53) rw_156_53 rfl (tt_gI (pc := 54) rw_156_54 (g_o hG rfl) (v := (N.2.1 77 7)) rfl (s_pI (pc := 57) rw_156_57 hG rfl (fun M409 W408 => ?_))))
      have hG410 := g_w hG W408 (A := (N.2.1 77 7).toInt) rfl (lo := 0) (hi := 500) rfl rfl (by omega) (by decide)
      have F411 := FR.w F0 W408 (show 77 = 77 ∧ 7 ≤ 10 ∧ 10 ≤ 10 by decide)
      have c_413 : M409.2.1 77 7 = (N.2.1 77 7) := (W_n W408 (by decide) rfl)
      have t_414 : (M409.2.1 77 7).toInt = (N.2.1 77 7).toInt := congrArg Int32.toInt c_413
      have z_412 := x_sk_x (t := t) (nn := nn) (x := (N.2.1 77 7).toInt) (by omega) (by omega) g3
      refine to_an (pc := 60) rw_156_60 rfl (tt_gI (pc := 61) rw_156_61 (g_o hG410 rfl) (v := (N.2.1 77 7)) c_413 (to_an (pc := 64) rw_156_64 rfl ?_))
      have c_415 : M409.2.1 77 6 = (N.2.1 77 6) := (W_n W408 (by decide) rfl)
      refine tt_gI (pc := 65) rw_156_65 (g_o hG410 rfl) (v := (N.2.1 77 6)) c_415 (b_cne (pc := 68) rw_156_68 (A := (N.2.1 77 7).toInt) (B := (N.2.1 77 6).toInt) rfl rfl (fun h416 => ?_) (fun h416 => ?_))
      · refine to_an (pc := 79) rw_156_79 rfl (to_an (pc := 80) rw_156_80 rfl (tt_gI (pc := 81) rw_156_81 (g_o hG410 rfl) (v := (N.2.1 77 7)) c_413 (s_v (pc := 84) rw_156_84 (dp0 hd (by decide)) (ls0 := [.ref 77, .int (N.2.1 77 7)]) rfl (Nat.le_of_ble_eq_true rfl) (Nat.le_of_ble_eq_true rfl) rfl (to_rc rfl rfl rfl (g_o hG410 rfl)) rfl (to_in (pc := 0) rw_154_0 rfl (to_an (pc := 1) rw_154_1 rfl (tt_gI (pc := 2) rw_154_2 (g_o hG410 rfl) (v := (N.2.1 77 6)) c_415 (b_cge (pc := 5) rw_154_5 (A := (N.2.1 77 7).toInt) (B := (N.2.1 77 6).toInt) rfl rfl (fun h417 => ?_) (fun h417 => ?_))))))))
        · refine to_c (pc := 34) rw_154_34 (x := (0 : Int32)) rfl rfl (s_r1 (pc := 35) rw_154_35 (A := 0) rfl (by decide) (b_ieq_t (pc := 87) rw_156_87 (A := 0) rfl (by decide) (to_an (pc := 191) rw_156_191 rfl (to_an (pc := 192) rw_156_192 rfl (tt_gI (pc := 193) rw_156_193 (g_o hG410 rfl) (v := (N.2.1 77 7)) c_413 (s_v (pc := 196) rw_156_196 (dp0 hd (by decide)) (ls0 := [.ref 77, .int (N.2.1 77 7)]) rfl (Nat.le_of_ble_eq_true rfl) (Nat.le_of_ble_eq_true rfl) rfl (to_rc rfl rfl rfl (g_o hG410 rfl)) rfl (to_in (pc := 0) rw_155_0 rfl (to_an (pc := 1) rw_155_1 rfl (tt_gI (pc := 2) rw_155_2 (g_o hG410 rfl) (v := (N.2.1 77 6)) c_415 (b_cge (pc := 5) rw_155_5 (A := (N.2.1 77 7).toInt) (B := (N.2.1 77 6).toInt) rfl rfl (fun h418 => ?_) (fun h418 => ?_)))))))))))
          · refine to_c (pc := 34) rw_155_34 (x := (0 : Int32)) rfl rfl (s_r1 (pc := 35) rw_155_35 (A := 0) rfl (by decide) (b_ieq_t (pc := 199) rw_156_199 (A := 0) rfl (by decide) (to_an (pc := 276) rw_156_276 rfl (to_an (pc := 277) rw_156_277 rfl (s_gR (pc := 278) rw_156_278 hG410 rfl (v := 78) rfl (to_an (pc := 281) rw_156_281 rfl (tt_gI (pc := 282) rw_156_282 (g_o hG410 rfl) (v := (N.2.1 77 7)) c_413 (s_ial (pc := 285) rw_156_285 hG410 rfl (n := 500) rfl rfl (A := (N.2.1 77 7).toInt) rfl (by omega) (by omega) (lo := 0) (hi := 255) rfl rfl (fun v419 w_420 _ _ => ?_)))))))))
            have j_422 := (TR_f (fun a i z => W_n W408 (tg_17 a i z) rfl) g7)
            have z_421 := TR_u j_422 (A := (N.2.1 77 7).toInt) (B := (N.2.1 77 7).toInt) (by omega) (by omega) w_420 rfl
            refine s_pI (pc := 286) rw_156_286 hG410 rfl (fun M424 W423 => ?_)
            have hG425 := g_wf hG410 W423 rfl rfl (by decide)
            have F426 := FR.w F411 W423 (show 77 = 77 ∧ 7 ≤ 9 ∧ 9 ≤ 10 by decide)
            refine to_an (pc := 289) rw_156_289 rfl (to_an (pc := 290) rw_156_290 rfl ?_)
            have c_427 : M424.2.1 77 9 = v419 := (W_e W423)
            refine tt_gI (pc := 291) rw_156_291 (g_o hG425 rfl) (v := v419) c_427 (to_c (pc := 294) rw_156_294 (x := (59 : Int32)) rfl rfl (b_ceq (pc := 296) rw_156_296 (A := v419.toInt) (B := 59) rfl rfl (fun h428 => ?_) (fun h428 => ?_)))
            · refine to_c (pc := 326) rw_156_326 (x := (4 : Int32)) rfl rfl (to_go (pc := 327) rw_156_327 (s_pI (pc := 331) rw_156_331 hG425 rfl (fun M430 W429 => ?_)))
              have hG431 := g_w hG425 W429 (A := 4) rfl (lo := 0) (hi := 5) rfl rfl (by omega) (by decide)
              have F432 := FR.w F426 W429 (show 77 = 77 ∧ 7 ≤ 8 ∧ 8 ≤ 10 by decide)
              refine to_an (pc := 334) rw_156_334 rfl (to_dupr (pc := 335) rw_156_335 ?_)
              have c_433 : M430.2.1 77 7 = (N.2.1 77 7) := (W_n W429 (by decide) (W_n W423 (by decide) c_413))
              refine tt_gI (pc := 336) rw_156_336 (g_o hG431 rfl) (v := (N.2.1 77 7)) c_433 (to_c (pc := 339) rw_156_339 (x := (1 : Int32)) rfl rfl (s_add (pc := 340) rw_156_340 (A := (N.2.1 77 7).toInt) (B := 1) rfl rfl (by omega) (fun v434 e435 => s_pI (pc := 341) rw_156_341 hG431 rfl (fun M437 W436 => ?_))))
              have hG438 := g_w hG431 W436 (A := v434.toInt) rfl (lo := 0) (hi := 500) rfl rfl (by omega) (by decide)
              have F439 := FR.w F432 W436 (show 77 = 77 ∧ 7 ≤ 7 ∧ 7 ≤ 10 by decide)
              refine to_rv (pc := 344) rw_156_344 ?_
              have c_440 : M437.2.1 77 7 = v434 := (W_e W436)
              have t_441 : (M437.2.1 77 7).toInt = v434.toInt := congrArg Int32.toInt c_440
              have c_442 : M437.2.1 77 6 = (N.2.1 77 6) := (W_n W436 (by decide) (W_n W429 (by decide) (W_n W423 (by decide) c_415)))
              have t_443 : (M437.2.1 77 6).toInt = (N.2.1 77 6).toInt := congrArg Int32.toInt c_442
              have c_444 : M437.2.1 77 8 = (4 : Int32) := (W_n W436 (by decide) (W_e W429))
              have k_445 : (4 : Int32).toInt = 4 := rfl
              have t_446 : (M437.2.1 77 8).toInt = (4 : Int32).toInt := congrArg Int32.toInt c_444
              have c_447 : M437.2.1 77 9 = v419 := (W_n W436 (by decide) (W_n W429 (by decide) c_427))
              have t_448 : (M437.2.1 77 9).toInt = v419.toInt := congrArg Int32.toInt c_447
              have c_449 : M437.2.1 77 10 = (N.2.1 77 7) := (W_n W436 (by decide) (W_n W429 (by decide) (W_n W423 (by decide) (W_e W408))))
              have t_450 : (M437.2.1 77 10).toInt = (N.2.1 77 7).toInt := congrArg Int32.toInt c_449
              have z_451 := (x_ts (t := t) (n := nn) (a := (N.2.1 77 7).toInt) (by omega) (by omega) (by omega)).2.2
              have z_452 := x_nx_b (t := t) (n := nn) (a := (N.2.1 77 7).toInt) (by omega) (by omega)
              have z_453 := x_R_s (t := t) (n := nn) (a := (N.2.1 77 7).toInt) (v := v419.toInt) (by omega) (by omega) (by omega)
              have z_454 := z_412
              exact h M437 hG438 F439 (by omega) (by omega) (by omega) (RS_m (a := (N.2.1 77 7).toInt) (kd := (4 : Int32).toInt) (wh := v419.toInt) (by omega) (by omega) (by omega) (by omega) (by omega) (by omega) (by omega) (by omega) z_453)
            · refine to_an (pc := 299) rw_156_299 rfl (tt_gI (pc := 300) rw_156_300 (g_o hG425 rfl) (v := v419) c_427 (to_c (pc := 303) rw_156_303 (x := (40 : Int32)) rfl rfl (b_ceq (pc := 305) rw_156_305 (A := v419.toInt) (B := 40) rfl rfl (fun h455 => ?_) (fun h455 => ?_))))
              · refine to_c (pc := 326) rw_156_326 (x := (4 : Int32)) rfl rfl (to_go (pc := 327) rw_156_327 (s_pI (pc := 331) rw_156_331 hG425 rfl (fun M457 W456 => ?_)))
                have hG458 := g_w hG425 W456 (A := 4) rfl (lo := 0) (hi := 5) rfl rfl (by omega) (by decide)
                have F459 := FR.w F426 W456 (show 77 = 77 ∧ 7 ≤ 8 ∧ 8 ≤ 10 by decide)
                refine to_an (pc := 334) rw_156_334 rfl (to_dupr (pc := 335) rw_156_335 ?_)
                have c_460 : M457.2.1 77 7 = (N.2.1 77 7) := (W_n W456 (by decide) (W_n W423 (by decide) c_413))
                refine tt_gI (pc := 336) rw_156_336 (g_o hG458 rfl) (v := (N.2.1 77 7)) c_460 (to_c (pc := 339) rw_156_339 (x := (1 : Int32)) rfl rfl (s_add (pc := 340) rw_156_340 (A := (N.2.1 77 7).toInt) (B := 1) rfl rfl (by omega) (fun v461 e462 => s_pI (pc := 341) rw_156_341 hG458 rfl (fun M464 W463 => ?_))))
                have hG465 := g_w hG458 W463 (A := v461.toInt) rfl (lo := 0) (hi := 500) rfl rfl (by omega) (by decide)
                have F466 := FR.w F459 W463 (show 77 = 77 ∧ 7 ≤ 7 ∧ 7 ≤ 10 by decide)
                refine to_rv (pc := 344) rw_156_344 ?_
                have c_467 : M464.2.1 77 7 = v461 := (W_e W463)
                have t_468 : (M464.2.1 77 7).toInt = v461.toInt := congrArg Int32.toInt c_467
                have c_469 : M464.2.1 77 6 = (N.2.1 77 6) := (W_n W463 (by decide) (W_n W456 (by decide) (W_n W423 (by decide) c_415)))
                have t_470 : (M464.2.1 77 6).toInt = (N.2.1 77 6).toInt := congrArg Int32.toInt c_469
                have c_471 : M464.2.1 77 8 = (4 : Int32) := (W_n W463 (by decide) (W_e W456))
                have k_472 : (4 : Int32).toInt = 4 := rfl
                have t_473 : (M464.2.1 77 8).toInt = (4 : Int32).toInt := congrArg Int32.toInt c_471
                have c_474 : M464.2.1 77 9 = v419 := (W_n W463 (by decide) (W_n W456 (by decide) c_427))
                have t_475 : (M464.2.1 77 9).toInt = v419.toInt := congrArg Int32.toInt c_474
                have c_476 : M464.2.1 77 10 = (N.2.1 77 7) := (W_n W463 (by decide) (W_n W456 (by decide) (W_n W423 (by decide) (W_e W408))))
                have t_477 : (M464.2.1 77 10).toInt = (N.2.1 77 7).toInt := congrArg Int32.toInt c_476
                have z_478 := (x_ts (t := t) (n := nn) (a := (N.2.1 77 7).toInt) (by omega) (by omega) (by omega)).2.2
                have z_479 := x_nx_b (t := t) (n := nn) (a := (N.2.1 77 7).toInt) (by omega) (by omega)
                have z_480 := x_R_s (t := t) (n := nn) (a := (N.2.1 77 7).toInt) (v := v419.toInt) (by omega) (by omega) (by omega)
                have z_481 := z_412
                exact h M464 hG465 F466 (by omega) (by omega) (by omega) (RS_m (a := (N.2.1 77 7).toInt) (kd := (4 : Int32).toInt) (wh := v419.toInt) (by omega) (by omega) (by omega) (by omega) (by omega) (by omega) (by omega) (by omega) z_480)
              · refine to_an (pc := 308) rw_156_308 rfl (tt_gI (pc := 309) rw_156_309 (g_o hG425 rfl) (v := v419) c_427 (to_c (pc := 312) rw_156_312 (x := (41 : Int32)) rfl rfl (b_ceq (pc := 314) rw_156_314 (A := v419.toInt) (B := 41) rfl rfl (fun h482 => ?_) (fun h482 => ?_))))
                · refine to_c (pc := 326) rw_156_326 (x := (4 : Int32)) rfl rfl (to_go (pc := 327) rw_156_327 (s_pI (pc := 331) rw_156_331 hG425 rfl (fun M484 W483 => ?_)))
                  have hG485 := g_w hG425 W483 (A := 4) rfl (lo := 0) (hi := 5) rfl rfl (by omega) (by decide)
                  have F486 := FR.w F426 W483 (show 77 = 77 ∧ 7 ≤ 8 ∧ 8 ≤ 10 by decide)
                  refine to_an (pc := 334) rw_156_334 rfl (to_dupr (pc := 335) rw_156_335 ?_)
                  have c_487 : M484.2.1 77 7 = (N.2.1 77 7) := (W_n W483 (by decide) (W_n W423 (by decide) c_413))
                  refine tt_gI (pc := 336) rw_156_336 (g_o hG485 rfl) (v := (N.2.1 77 7)) c_487 (to_c (pc := 339) rw_156_339 (x := (1 : Int32)) rfl rfl (s_add (pc := 340) rw_156_340 (A := (N.2.1 77 7).toInt) (B := 1) rfl rfl (by omega) (fun v488 e489 => s_pI (pc := 341) rw_156_341 hG485 rfl (fun M491 W490 => ?_))))
                  have hG492 := g_w hG485 W490 (A := v488.toInt) rfl (lo := 0) (hi := 500) rfl rfl (by omega) (by decide)
                  have F493 := FR.w F486 W490 (show 77 = 77 ∧ 7 ≤ 7 ∧ 7 ≤ 10 by decide)
                  refine to_rv (pc := 344) rw_156_344 ?_
                  have c_494 : M491.2.1 77 7 = v488 := (W_e W490)
                  have t_495 : (M491.2.1 77 7).toInt = v488.toInt := congrArg Int32.toInt c_494
                  have c_496 : M491.2.1 77 6 = (N.2.1 77 6) := (W_n W490 (by decide) (W_n W483 (by decide) (W_n W423 (by decide) c_415)))
                  have t_497 : (M491.2.1 77 6).toInt = (N.2.1 77 6).toInt := congrArg Int32.toInt c_496
                  have c_498 : M491.2.1 77 8 = (4 : Int32) := (W_n W490 (by decide) (W_e W483))
                  have k_499 : (4 : Int32).toInt = 4 := rfl
                  have t_500 : (M491.2.1 77 8).toInt = (4 : Int32).toInt := congrArg Int32.toInt c_498
                  have c_501 : M491.2.1 77 9 = v419 := (W_n W490 (by decide) (W_n W483 (by decide) c_427))
                  have t_502 : (M491.2.1 77 9).toInt = v419.toInt := congrArg Int32.toInt c_501
                  have c_503 : M491.2.1 77 10 = (N.2.1 77 7) := (W_n W490 (by decide) (W_n W483 (by decide) (W_n W423 (by decide) (W_e W408))))
                  have t_504 : (M491.2.1 77 10).toInt = (N.2.1 77 7).toInt := congrArg Int32.toInt c_503
                  have z_505 := (x_ts (t := t) (n := nn) (a := (N.2.1 77 7).toInt) (by omega) (by omega) (by omega)).2.2
                  have z_506 := x_nx_b (t := t) (n := nn) (a := (N.2.1 77 7).toInt) (by omega) (by omega)
                  have z_507 := x_R_s (t := t) (n := nn) (a := (N.2.1 77 7).toInt) (v := v419.toInt) (by omega) (by omega) (by omega)
                  have z_508 := z_412
                  exact h M491 hG492 F493 (by omega) (by omega) (by omega) (RS_m (a := (N.2.1 77 7).toInt) (kd := (4 : Int32).toInt) (wh := v419.toInt) (by omega) (by omega) (by omega) (by omega) (by omega) (by omega) (by omega) (by omega) z_507)
                · refine to_an (pc := 317) rw_156_317 rfl (tt_gI (pc := 318) rw_156_318 (g_o hG425 rfl) (v := v419) c_427 (to_c (pc := 321) rw_156_321 (x := (61 : Int32)) rfl rfl (b_cne (pc := 323) rw_156_323 (A := v419.toInt) (B := 61) rfl rfl (fun h509 => ?_) (fun h509 => ?_))))
                  · refine to_c (pc := 330) rw_156_330 (x := (5 : Int32)) rfl rfl (s_pI (pc := 331) rw_156_331 hG425 rfl (fun M511 W510 => ?_))
                    have hG512 := g_w hG425 W510 (A := 5) rfl (lo := 0) (hi := 5) rfl rfl (by omega) (by decide)
                    have F513 := FR.w F426 W510 (show 77 = 77 ∧ 7 ≤ 8 ∧ 8 ≤ 10 by decide)
                    refine to_an (pc := 334) rw_156_334 rfl (to_dupr (pc := 335) rw_156_335 ?_)
                    have c_514 : M511.2.1 77 7 = (N.2.1 77 7) := (W_n W510 (by decide) (W_n W423 (by decide) c_413))
                    refine tt_gI (pc := 336) rw_156_336 (g_o hG512 rfl) (v := (N.2.1 77 7)) c_514 (to_c (pc := 339) rw_156_339 (x := (1 : Int32)) rfl rfl (s_add (pc := 340) rw_156_340 (A := (N.2.1 77 7).toInt) (B := 1) rfl rfl (by omega) (fun v515 e516 => s_pI (pc := 341) rw_156_341 hG512 rfl (fun M518 W517 => ?_))))
                    have hG519 := g_w hG512 W517 (A := v515.toInt) rfl (lo := 0) (hi := 500) rfl rfl (by omega) (by decide)
                    have F520 := FR.w F513 W517 (show 77 = 77 ∧ 7 ≤ 7 ∧ 7 ≤ 10 by decide)
                    refine to_rv (pc := 344) rw_156_344 ?_
                    have c_521 : M518.2.1 77 7 = v515 := (W_e W517)
                    have t_522 : (M518.2.1 77 7).toInt = v515.toInt := congrArg Int32.toInt c_521
                    have c_523 : M518.2.1 77 6 = (N.2.1 77 6) := (W_n W517 (by decide) (W_n W510 (by decide) (W_n W423 (by decide) c_415)))
                    have t_524 : (M518.2.1 77 6).toInt = (N.2.1 77 6).toInt := congrArg Int32.toInt c_523
                    have c_525 : M518.2.1 77 8 = (5 : Int32) := (W_n W517 (by decide) (W_e W510))
                    have k_526 : (5 : Int32).toInt = 5 := rfl
                    have t_527 : (M518.2.1 77 8).toInt = (5 : Int32).toInt := congrArg Int32.toInt c_525
                    have c_528 : M518.2.1 77 9 = v419 := (W_n W517 (by decide) (W_n W510 (by decide) c_427))
                    have t_529 : (M518.2.1 77 9).toInt = v419.toInt := congrArg Int32.toInt c_528
                    have c_530 : M518.2.1 77 10 = (N.2.1 77 7) := (W_n W517 (by decide) (W_n W510 (by decide) (W_n W423 (by decide) (W_e W408))))
                    have t_531 : (M518.2.1 77 10).toInt = (N.2.1 77 7).toInt := congrArg Int32.toInt c_530
                    have z_532 := (x_ts (t := t) (n := nn) (a := (N.2.1 77 7).toInt) (by omega) (by omega) (by omega)).2.2
                    have z_533 := x_nx_b (t := t) (n := nn) (a := (N.2.1 77 7).toInt) (by omega) (by omega)
                    have z_534 := x_R_b (t := t) (n := nn) (a := (N.2.1 77 7).toInt) (w := v419.toInt) (by omega) (by omega) (by omega) (by omega)
                    have z_535 := z_412
                    exact h M518 hG519 F520 (by omega) (by omega) (by omega) (RS_m (a := (N.2.1 77 7).toInt) (kd := (5 : Int32).toInt) (wh := v419.toInt) (by omega) (by omega) (by omega) (by omega) (by omega) (by omega) (by omega) (by omega) z_534)
                  · refine to_c (pc := 326) rw_156_326 (x := (4 : Int32)) rfl rfl (to_go (pc := 327) rw_156_327 (s_pI (pc := 331) rw_156_331 hG425 rfl (fun M537 W536 => ?_)))
                    have hG538 := g_w hG425 W536 (A := 4) rfl (lo := 0) (hi := 5) rfl rfl (by omega) (by decide)
                    have F539 := FR.w F426 W536 (show 77 = 77 ∧ 7 ≤ 8 ∧ 8 ≤ 10 by decide)
                    refine to_an (pc := 334) rw_156_334 rfl (to_dupr (pc := 335) rw_156_335 ?_)
                    have c_540 : M537.2.1 77 7 = (N.2.1 77 7) := (W_n W536 (by decide) (W_n W423 (by decide) c_413))
                    refine tt_gI (pc := 336) rw_156_336 (g_o hG538 rfl) (v := (N.2.1 77 7)) c_540 (to_c (pc := 339) rw_156_339 (x := (1 : Int32)) rfl rfl (s_add (pc := 340) rw_156_340 (A := (N.2.1 77 7).toInt) (B := 1) rfl rfl (by omega) (fun v541 e542 => s_pI (pc := 341) rw_156_341 hG538 rfl (fun M544 W543 => ?_))))
                    have hG545 := g_w hG538 W543 (A := v541.toInt) rfl (lo := 0) (hi := 500) rfl rfl (by omega) (by decide)
                    have F546 := FR.w F539 W543 (show 77 = 77 ∧ 7 ≤ 7 ∧ 7 ≤ 10 by decide)
                    refine to_rv (pc := 344) rw_156_344 ?_
                    have c_547 : M544.2.1 77 7 = v541 := (W_e W543)
                    have t_548 : (M544.2.1 77 7).toInt = v541.toInt := congrArg Int32.toInt c_547
                    have c_549 : M544.2.1 77 6 = (N.2.1 77 6) := (W_n W543 (by decide) (W_n W536 (by decide) (W_n W423 (by decide) c_415)))
                    have t_550 : (M544.2.1 77 6).toInt = (N.2.1 77 6).toInt := congrArg Int32.toInt c_549
                    have c_551 : M544.2.1 77 8 = (4 : Int32) := (W_n W543 (by decide) (W_e W536))
                    have k_552 : (4 : Int32).toInt = 4 := rfl
                    have t_553 : (M544.2.1 77 8).toInt = (4 : Int32).toInt := congrArg Int32.toInt c_551
                    have c_554 : M544.2.1 77 9 = v419 := (W_n W543 (by decide) (W_n W536 (by decide) c_427))
                    have t_555 : (M544.2.1 77 9).toInt = v419.toInt := congrArg Int32.toInt c_554
                    have c_556 : M544.2.1 77 10 = (N.2.1 77 7) := (W_n W543 (by decide) (W_n W536 (by decide) (W_n W423 (by decide) (W_e W408))))
                    have t_557 : (M544.2.1 77 10).toInt = (N.2.1 77 7).toInt := congrArg Int32.toInt c_556
                    have z_558 := (x_ts (t := t) (n := nn) (a := (N.2.1 77 7).toInt) (by omega) (by omega) (by omega)).2.2
                    have z_559 := x_nx_b (t := t) (n := nn) (a := (N.2.1 77 7).toInt) (by omega) (by omega)
                    have z_560 := x_R_s (t := t) (n := nn) (a := (N.2.1 77 7).toInt) (v := v419.toInt) (by omega) (by omega) (by omega)
                    have z_561 := z_412
                    exact h M544 hG545 F546 (by omega) (by omega) (by omega) (RS_m (a := (N.2.1 77 7).toInt) (kd := (4 : Int32).toInt) (wh := v419.toInt) (by omega) (by omega) (by omega) (by omega) (by omega) (by omega) (by omega) (by omega) z_560)
          · refine to_an (pc := 8) rw_155_8 rfl (s_gR (pc := 9) rw_155_9 hG410 rfl (v := 78) rfl (to_in (pc := 12) rw_155_12 rfl (s_ial (pc := 13) rw_155_13 hG410 rfl (n := 500) rfl rfl (A := (N.2.1 77 7).toInt) rfl (by omega) (by omega) (lo := 0) (hi := 255) rfl rfl (fun v562 w_563 _ _ => ?_))))
            have j_565 := (TR_f (fun a i z => W_n W408 (tg_17 a i z) rfl) g7)
            have z_564 := TR_u j_565 (A := (N.2.1 77 7).toInt) (B := (N.2.1 77 7).toInt) (by omega) (by omega) w_563 rfl
            refine to_c (pc := 14) rw_155_14 (x := (48 : Int32)) rfl rfl (b_clt (pc := 16) rw_155_16 (A := v562.toInt) (B := 48) rfl rfl (fun h566 => ?_) (fun h566 => ?_))
            · refine to_c (pc := 34) rw_155_34 (x := (0 : Int32)) rfl rfl (s_r1 (pc := 35) rw_155_35 (A := 0) rfl (by decide) (b_ieq_t (pc := 199) rw_156_199 (A := 0) rfl (by decide) (to_an (pc := 276) rw_156_276 rfl (to_an (pc := 277) rw_156_277 rfl (s_gR (pc := 278) rw_156_278 hG410 rfl (v := 78) rfl (to_an (pc := 281) rw_156_281 rfl (tt_gI (pc := 282) rw_156_282 (g_o hG410 rfl) (v := (N.2.1 77 7)) c_413 (s_ialk (pc := 285) rw_156_285 hG410 rfl (n := 500) rfl rfl (A := (N.2.1 77 7).toInt) rfl (by omega) (by omega) (v := v562) w_563 (s_pI (pc := 286) rw_156_286 hG410 rfl (fun M570 W569 => ?_))))))))))
              have hG571 := g_wf hG410 W569 rfl rfl (by decide)
              have F572 := FR.w F411 W569 (show 77 = 77 ∧ 7 ≤ 9 ∧ 9 ≤ 10 by decide)
              refine to_an (pc := 289) rw_156_289 rfl (to_an (pc := 290) rw_156_290 rfl ?_)
              have c_573 : M570.2.1 77 9 = v562 := (W_e W569)
              refine tt_gI (pc := 291) rw_156_291 (g_o hG571 rfl) (v := v562) c_573 (to_c (pc := 294) rw_156_294 (x := (59 : Int32)) rfl rfl (b_ceq_f (pc := 296) rw_156_296 (A := v562.toInt) (B := 59) rfl rfl (by omega) (to_an (pc := 299) rw_156_299 rfl (tt_gI (pc := 300) rw_156_300 (g_o hG571 rfl) (v := v562) c_573 (to_c (pc := 303) rw_156_303 (x := (40 : Int32)) rfl rfl (b_ceq (pc := 305) rw_156_305 (A := v562.toInt) (B := 40) rfl rfl (fun h574 => ?_) (fun h574 => ?_)))))))
              · refine to_c (pc := 326) rw_156_326 (x := (4 : Int32)) rfl rfl (to_go (pc := 327) rw_156_327 (s_pI (pc := 331) rw_156_331 hG571 rfl (fun M576 W575 => ?_)))
                have hG577 := g_w hG571 W575 (A := 4) rfl (lo := 0) (hi := 5) rfl rfl (by omega) (by decide)
                have F578 := FR.w F572 W575 (show 77 = 77 ∧ 7 ≤ 8 ∧ 8 ≤ 10 by decide)
                refine to_an (pc := 334) rw_156_334 rfl (to_dupr (pc := 335) rw_156_335 ?_)
                have c_579 : M576.2.1 77 7 = (N.2.1 77 7) := (W_n W575 (by decide) (W_n W569 (by decide) c_413))
                refine tt_gI (pc := 336) rw_156_336 (g_o hG577 rfl) (v := (N.2.1 77 7)) c_579 (to_c (pc := 339) rw_156_339 (x := (1 : Int32)) rfl rfl (s_add (pc := 340) rw_156_340 (A := (N.2.1 77 7).toInt) (B := 1) rfl rfl (by omega) (fun v580 e581 => s_pI (pc := 341) rw_156_341 hG577 rfl (fun M583 W582 => ?_))))
                have hG584 := g_w hG577 W582 (A := v580.toInt) rfl (lo := 0) (hi := 500) rfl rfl (by omega) (by decide)
                have F585 := FR.w F578 W582 (show 77 = 77 ∧ 7 ≤ 7 ∧ 7 ≤ 10 by decide)
                refine to_rv (pc := 344) rw_156_344 ?_
                have c_586 : M583.2.1 77 7 = v580 := (W_e W582)
                have t_587 : (M583.2.1 77 7).toInt = v580.toInt := congrArg Int32.toInt c_586
                have c_588 : M583.2.1 77 6 = (N.2.1 77 6) := (W_n W582 (by decide) (W_n W575 (by decide) (W_n W569 (by decide) c_415)))
                have t_589 : (M583.2.1 77 6).toInt = (N.2.1 77 6).toInt := congrArg Int32.toInt c_588
                have c_590 : M583.2.1 77 8 = (4 : Int32) := (W_n W582 (by decide) (W_e W575))
                have k_591 : (4 : Int32).toInt = 4 := rfl
                have t_592 : (M583.2.1 77 8).toInt = (4 : Int32).toInt := congrArg Int32.toInt c_590
                have c_593 : M583.2.1 77 9 = v562 := (W_n W582 (by decide) (W_n W575 (by decide) c_573))
                have t_594 : (M583.2.1 77 9).toInt = v562.toInt := congrArg Int32.toInt c_593
                have c_595 : M583.2.1 77 10 = (N.2.1 77 7) := (W_n W582 (by decide) (W_n W575 (by decide) (W_n W569 (by decide) (W_e W408))))
                have t_596 : (M583.2.1 77 10).toInt = (N.2.1 77 7).toInt := congrArg Int32.toInt c_595
                have z_597 := (x_ts (t := t) (n := nn) (a := (N.2.1 77 7).toInt) (by omega) (by omega) (by omega)).2.2
                have z_598 := x_nx_b (t := t) (n := nn) (a := (N.2.1 77 7).toInt) (by omega) (by omega)
                have z_599 := x_R_s (t := t) (n := nn) (a := (N.2.1 77 7).toInt) (v := v562.toInt) (by omega) (by omega) (by omega)
                have z_600 := z_412
                exact h M583 hG584 F585 (by omega) (by omega) (by omega) (RS_m (a := (N.2.1 77 7).toInt) (kd := (4 : Int32).toInt) (wh := v562.toInt) (by omega) (by omega) (by omega) (by omega) (by omega) (by omega) (by omega) (by omega) z_599)
              · refine to_an (pc := 308) rw_156_308 rfl (tt_gI (pc := 309) rw_156_309 (g_o hG571 rfl) (v := v562) c_573 (to_c (pc := 312) rw_156_312 (x := (41 : Int32)) rfl rfl (b_ceq (pc := 314) rw_156_314 (A := v562.toInt) (B := 41) rfl rfl (fun h601 => ?_) (fun h601 => ?_))))
                · refine to_c (pc := 326) rw_156_326 (x := (4 : Int32)) rfl rfl (to_go (pc := 327) rw_156_327 (s_pI (pc := 331) rw_156_331 hG571 rfl (fun M603 W602 => ?_)))
                  have hG604 := g_w hG571 W602 (A := 4) rfl (lo := 0) (hi := 5) rfl rfl (by omega) (by decide)
                  have F605 := FR.w F572 W602 (show 77 = 77 ∧ 7 ≤ 8 ∧ 8 ≤ 10 by decide)
                  refine to_an (pc := 334) rw_156_334 rfl (to_dupr (pc := 335) rw_156_335 ?_)
                  have c_606 : M603.2.1 77 7 = (N.2.1 77 7) := (W_n W602 (by decide) (W_n W569 (by decide) c_413))
                  refine tt_gI (pc := 336) rw_156_336 (g_o hG604 rfl) (v := (N.2.1 77 7)) c_606 (to_c (pc := 339) rw_156_339 (x := (1 : Int32)) rfl rfl (s_add (pc := 340) rw_156_340 (A := (N.2.1 77 7).toInt) (B := 1) rfl rfl (by omega) (fun v607 e608 => s_pI (pc := 341) rw_156_341 hG604 rfl (fun M610 W609 => ?_))))
                  have hG611 := g_w hG604 W609 (A := v607.toInt) rfl (lo := 0) (hi := 500) rfl rfl (by omega) (by decide)
                  have F612 := FR.w F605 W609 (show 77 = 77 ∧ 7 ≤ 7 ∧ 7 ≤ 10 by decide)
                  refine to_rv (pc := 344) rw_156_344 ?_
                  have c_613 : M610.2.1 77 7 = v607 := (W_e W609)
                  have t_614 : (M610.2.1 77 7).toInt = v607.toInt := congrArg Int32.toInt c_613
                  have c_615 : M610.2.1 77 6 = (N.2.1 77 6) := (W_n W609 (by decide) (W_n W602 (by decide) (W_n W569 (by decide) c_415)))
                  have t_616 : (M610.2.1 77 6).toInt = (N.2.1 77 6).toInt := congrArg Int32.toInt c_615
                  have c_617 : M610.2.1 77 8 = (4 : Int32) := (W_n W609 (by decide) (W_e W602))
                  have k_618 : (4 : Int32).toInt = 4 := rfl
                  have t_619 : (M610.2.1 77 8).toInt = (4 : Int32).toInt := congrArg Int32.toInt c_617
                  have c_620 : M610.2.1 77 9 = v562 := (W_n W609 (by decide) (W_n W602 (by decide) c_573))
                  have t_621 : (M610.2.1 77 9).toInt = v562.toInt := congrArg Int32.toInt c_620
                  have c_622 : M610.2.1 77 10 = (N.2.1 77 7) := (W_n W609 (by decide) (W_n W602 (by decide) (W_n W569 (by decide) (W_e W408))))
                  have t_623 : (M610.2.1 77 10).toInt = (N.2.1 77 7).toInt := congrArg Int32.toInt c_622
                  have z_624 := (x_ts (t := t) (n := nn) (a := (N.2.1 77 7).toInt) (by omega) (by omega) (by omega)).2.2
                  have z_625 := x_nx_b (t := t) (n := nn) (a := (N.2.1 77 7).toInt) (by omega) (by omega)
                  have z_626 := x_R_s (t := t) (n := nn) (a := (N.2.1 77 7).toInt) (v := v562.toInt) (by omega) (by omega) (by omega)
                  have z_627 := z_412
                  exact h M610 hG611 F612 (by omega) (by omega) (by omega) (RS_m (a := (N.2.1 77 7).toInt) (kd := (4 : Int32).toInt) (wh := v562.toInt) (by omega) (by omega) (by omega) (by omega) (by omega) (by omega) (by omega) (by omega) z_626)
                · refine to_an (pc := 317) rw_156_317 rfl (tt_gI (pc := 318) rw_156_318 (g_o hG571 rfl) (v := v562) c_573 (to_c (pc := 321) rw_156_321 (x := (61 : Int32)) rfl rfl (b_cne_t (pc := 323) rw_156_323 (A := v562.toInt) (B := 61) rfl rfl (by omega) (to_c (pc := 330) rw_156_330 (x := (5 : Int32)) rfl rfl (s_pI (pc := 331) rw_156_331 hG571 rfl (fun M629 W628 => ?_))))))
                  have hG630 := g_w hG571 W628 (A := 5) rfl (lo := 0) (hi := 5) rfl rfl (by omega) (by decide)
                  have F631 := FR.w F572 W628 (show 77 = 77 ∧ 7 ≤ 8 ∧ 8 ≤ 10 by decide)
                  refine to_an (pc := 334) rw_156_334 rfl (to_dupr (pc := 335) rw_156_335 ?_)
                  have c_632 : M629.2.1 77 7 = (N.2.1 77 7) := (W_n W628 (by decide) (W_n W569 (by decide) c_413))
                  refine tt_gI (pc := 336) rw_156_336 (g_o hG630 rfl) (v := (N.2.1 77 7)) c_632 (to_c (pc := 339) rw_156_339 (x := (1 : Int32)) rfl rfl (s_add (pc := 340) rw_156_340 (A := (N.2.1 77 7).toInt) (B := 1) rfl rfl (by omega) (fun v633 e634 => s_pI (pc := 341) rw_156_341 hG630 rfl (fun M636 W635 => ?_))))
                  have hG637 := g_w hG630 W635 (A := v633.toInt) rfl (lo := 0) (hi := 500) rfl rfl (by omega) (by decide)
                  have F638 := FR.w F631 W635 (show 77 = 77 ∧ 7 ≤ 7 ∧ 7 ≤ 10 by decide)
                  refine to_rv (pc := 344) rw_156_344 ?_
                  have c_639 : M636.2.1 77 7 = v633 := (W_e W635)
                  have t_640 : (M636.2.1 77 7).toInt = v633.toInt := congrArg Int32.toInt c_639
                  have c_641 : M636.2.1 77 6 = (N.2.1 77 6) := (W_n W635 (by decide) (W_n W628 (by decide) (W_n W569 (by decide) c_415)))
                  have t_642 : (M636.2.1 77 6).toInt = (N.2.1 77 6).toInt := congrArg Int32.toInt c_641
                  have c_643 : M636.2.1 77 8 = (5 : Int32) := (W_n W635 (by decide) (W_e W628))
                  have k_644 : (5 : Int32).toInt = 5 := rfl
                  have t_645 : (M636.2.1 77 8).toInt = (5 : Int32).toInt := congrArg Int32.toInt c_643
                  have c_646 : M636.2.1 77 9 = v562 := (W_n W635 (by decide) (W_n W628 (by decide) c_573))
                  have t_647 : (M636.2.1 77 9).toInt = v562.toInt := congrArg Int32.toInt c_646
                  have c_648 : M636.2.1 77 10 = (N.2.1 77 7) := (W_n W635 (by decide) (W_n W628 (by decide) (W_n W569 (by decide) (W_e W408))))
                  have t_649 : (M636.2.1 77 10).toInt = (N.2.1 77 7).toInt := congrArg Int32.toInt c_648
                  have z_650 := (x_ts (t := t) (n := nn) (a := (N.2.1 77 7).toInt) (by omega) (by omega) (by omega)).2.2
                  have z_651 := x_nx_b (t := t) (n := nn) (a := (N.2.1 77 7).toInt) (by omega) (by omega)
                  have z_652 := x_R_b (t := t) (n := nn) (a := (N.2.1 77 7).toInt) (w := v562.toInt) (by omega) (by omega) (by omega) (by omega)
                  have z_653 := z_412
                  exact h M636 hG637 F638 (by omega) (by omega) (by omega) (RS_m (a := (N.2.1 77 7).toInt) (kd := (5 : Int32).toInt) (wh := v562.toInt) (by omega) (by omega) (by omega) (by omega) (by omega) (by omega) (by omega) (by omega) z_652)
            · refine to_an (pc := 19) rw_155_19 rfl (s_gR (pc := 20) rw_155_20 hG410 rfl (v := 78) rfl (to_in (pc := 23) rw_155_23 rfl (s_ialk (pc := 24) rw_155_24 hG410 rfl (n := 500) rfl rfl (A := (N.2.1 77 7).toInt) rfl (by omega) (by omega) (v := v562) w_563 (to_c (pc := 25) rw_155_25 (x := (57 : Int32)) rfl rfl (b_cgt (pc := 27) rw_155_27 (A := v562.toInt) (B := 57) rfl rfl (fun h656 => ?_) (fun h656 => ?_))))))
              · refine to_c (pc := 34) rw_155_34 (x := (0 : Int32)) rfl rfl (s_r1 (pc := 35) rw_155_35 (A := 0) rfl (by decide) (b_ieq_t (pc := 199) rw_156_199 (A := 0) rfl (by decide) (to_an (pc := 276) rw_156_276 rfl (to_an (pc := 277) rw_156_277 rfl (s_gR (pc := 278) rw_156_278 hG410 rfl (v := 78) rfl (to_an (pc := 281) rw_156_281 rfl (tt_gI (pc := 282) rw_156_282 (g_o hG410 rfl) (v := (N.2.1 77 7)) c_413 (s_ialk (pc := 285) rw_156_285 hG410 rfl (n := 500) rfl rfl (A := (N.2.1 77 7).toInt) rfl (by omega) (by omega) (v := v562) w_563 (s_pI (pc := 286) rw_156_286 hG410 rfl (fun M660 W659 => ?_))))))))))
                have hG661 := g_wf hG410 W659 rfl rfl (by decide)
                have F662 := FR.w F411 W659 (show 77 = 77 ∧ 7 ≤ 9 ∧ 9 ≤ 10 by decide)
                refine to_an (pc := 289) rw_156_289 rfl (to_an (pc := 290) rw_156_290 rfl ?_)
                have c_663 : M660.2.1 77 9 = v562 := (W_e W659)
                refine tt_gI (pc := 291) rw_156_291 (g_o hG661 rfl) (v := v562) c_663 (to_c (pc := 294) rw_156_294 (x := (59 : Int32)) rfl rfl (b_ceq (pc := 296) rw_156_296 (A := v562.toInt) (B := 59) rfl rfl (fun h664 => ?_) (fun h664 => ?_)))
                · refine to_c (pc := 326) rw_156_326 (x := (4 : Int32)) rfl rfl (to_go (pc := 327) rw_156_327 (s_pI (pc := 331) rw_156_331 hG661 rfl (fun M666 W665 => ?_)))
                  have hG667 := g_w hG661 W665 (A := 4) rfl (lo := 0) (hi := 5) rfl rfl (by omega) (by decide)
                  have F668 := FR.w F662 W665 (show 77 = 77 ∧ 7 ≤ 8 ∧ 8 ≤ 10 by decide)
                  refine to_an (pc := 334) rw_156_334 rfl (to_dupr (pc := 335) rw_156_335 ?_)
                  have c_669 : M666.2.1 77 7 = (N.2.1 77 7) := (W_n W665 (by decide) (W_n W659 (by decide) c_413))
                  refine tt_gI (pc := 336) rw_156_336 (g_o hG667 rfl) (v := (N.2.1 77 7)) c_669 (to_c (pc := 339) rw_156_339 (x := (1 : Int32)) rfl rfl (s_add (pc := 340) rw_156_340 (A := (N.2.1 77 7).toInt) (B := 1) rfl rfl (by omega) (fun v670 e671 => s_pI (pc := 341) rw_156_341 hG667 rfl (fun M673 W672 => ?_))))
                  have hG674 := g_w hG667 W672 (A := v670.toInt) rfl (lo := 0) (hi := 500) rfl rfl (by omega) (by decide)
                  have F675 := FR.w F668 W672 (show 77 = 77 ∧ 7 ≤ 7 ∧ 7 ≤ 10 by decide)
                  refine to_rv (pc := 344) rw_156_344 ?_
                  have c_676 : M673.2.1 77 7 = v670 := (W_e W672)
                  have t_677 : (M673.2.1 77 7).toInt = v670.toInt := congrArg Int32.toInt c_676
                  have c_678 : M673.2.1 77 6 = (N.2.1 77 6) := (W_n W672 (by decide) (W_n W665 (by decide) (W_n W659 (by decide) c_415)))
                  have t_679 : (M673.2.1 77 6).toInt = (N.2.1 77 6).toInt := congrArg Int32.toInt c_678
                  have c_680 : M673.2.1 77 8 = (4 : Int32) := (W_n W672 (by decide) (W_e W665))
                  have k_681 : (4 : Int32).toInt = 4 := rfl
                  have t_682 : (M673.2.1 77 8).toInt = (4 : Int32).toInt := congrArg Int32.toInt c_680
                  have c_683 : M673.2.1 77 9 = v562 := (W_n W672 (by decide) (W_n W665 (by decide) c_663))
                  have t_684 : (M673.2.1 77 9).toInt = v562.toInt := congrArg Int32.toInt c_683
                  have c_685 : M673.2.1 77 10 = (N.2.1 77 7) := (W_n W672 (by decide) (W_n W665 (by decide) (W_n W659 (by decide) (W_e W408))))
                  have t_686 : (M673.2.1 77 10).toInt = (N.2.1 77 7).toInt := congrArg Int32.toInt c_685
                  have z_687 := (x_ts (t := t) (n := nn) (a := (N.2.1 77 7).toInt) (by omega) (by omega) (by omega)).2.2
                  have z_688 := x_nx_b (t := t) (n := nn) (a := (N.2.1 77 7).toInt) (by omega) (by omega)
                  have z_689 := x_R_s (t := t) (n := nn) (a := (N.2.1 77 7).toInt) (v := v562.toInt) (by omega) (by omega) (by omega)
                  have z_690 := z_412
                  exact h M673 hG674 F675 (by omega) (by omega) (by omega) (RS_m (a := (N.2.1 77 7).toInt) (kd := (4 : Int32).toInt) (wh := v562.toInt) (by omega) (by omega) (by omega) (by omega) (by omega) (by omega) (by omega) (by omega) z_689)
                · refine to_an (pc := 299) rw_156_299 rfl (tt_gI (pc := 300) rw_156_300 (g_o hG661 rfl) (v := v562) c_663 (to_c (pc := 303) rw_156_303 (x := (40 : Int32)) rfl rfl (b_ceq_f (pc := 305) rw_156_305 (A := v562.toInt) (B := 40) rfl rfl (by omega) (to_an (pc := 308) rw_156_308 rfl (tt_gI (pc := 309) rw_156_309 (g_o hG661 rfl) (v := v562) c_663 (to_c (pc := 312) rw_156_312 (x := (41 : Int32)) rfl rfl (b_ceq_f (pc := 314) rw_156_314 (A := v562.toInt) (B := 41) rfl rfl (by omega) (to_an (pc := 317) rw_156_317 rfl (tt_gI (pc := 318) rw_156_318 (g_o hG661 rfl) (v := v562) c_663 (to_c (pc := 321) rw_156_321 (x := (61 : Int32)) rfl rfl (b_cne (pc := 323) rw_156_323 (A := v562.toInt) (B := 61) rfl rfl (fun h691 => ?_) (fun h691 => ?_))))))))))))
                  · refine to_c (pc := 330) rw_156_330 (x := (5 : Int32)) rfl rfl (s_pI (pc := 331) rw_156_331 hG661 rfl (fun M693 W692 => ?_))
                    have hG694 := g_w hG661 W692 (A := 5) rfl (lo := 0) (hi := 5) rfl rfl (by omega) (by decide)
                    have F695 := FR.w F662 W692 (show 77 = 77 ∧ 7 ≤ 8 ∧ 8 ≤ 10 by decide)
                    refine to_an (pc := 334) rw_156_334 rfl (to_dupr (pc := 335) rw_156_335 ?_)
                    have c_696 : M693.2.1 77 7 = (N.2.1 77 7) := (W_n W692 (by decide) (W_n W659 (by decide) c_413))
                    refine tt_gI (pc := 336) rw_156_336 (g_o hG694 rfl) (v := (N.2.1 77 7)) c_696 (to_c (pc := 339) rw_156_339 (x := (1 : Int32)) rfl rfl (s_add (pc := 340) rw_156_340 (A := (N.2.1 77 7).toInt) (B := 1) rfl rfl (by omega) (fun v697 e698 => s_pI (pc := 341) rw_156_341 hG694 rfl (fun M700 W699 => ?_))))
                    have hG701 := g_w hG694 W699 (A := v697.toInt) rfl (lo := 0) (hi := 500) rfl rfl (by omega) (by decide)
                    have F702 := FR.w F695 W699 (show 77 = 77 ∧ 7 ≤ 7 ∧ 7 ≤ 10 by decide)
                    refine to_rv (pc := 344) rw_156_344 ?_
                    have c_703 : M700.2.1 77 7 = v697 := (W_e W699)
                    have t_704 : (M700.2.1 77 7).toInt = v697.toInt := congrArg Int32.toInt c_703
                    have c_705 : M700.2.1 77 6 = (N.2.1 77 6) := (W_n W699 (by decide) (W_n W692 (by decide) (W_n W659 (by decide) c_415)))
                    have t_706 : (M700.2.1 77 6).toInt = (N.2.1 77 6).toInt := congrArg Int32.toInt c_705
                    have c_707 : M700.2.1 77 8 = (5 : Int32) := (W_n W699 (by decide) (W_e W692))
                    have k_708 : (5 : Int32).toInt = 5 := rfl
                    have t_709 : (M700.2.1 77 8).toInt = (5 : Int32).toInt := congrArg Int32.toInt c_707
                    have c_710 : M700.2.1 77 9 = v562 := (W_n W699 (by decide) (W_n W692 (by decide) c_663))
                    have t_711 : (M700.2.1 77 9).toInt = v562.toInt := congrArg Int32.toInt c_710
                    have c_712 : M700.2.1 77 10 = (N.2.1 77 7) := (W_n W699 (by decide) (W_n W692 (by decide) (W_n W659 (by decide) (W_e W408))))
                    have t_713 : (M700.2.1 77 10).toInt = (N.2.1 77 7).toInt := congrArg Int32.toInt c_712
                    have z_714 := (x_ts (t := t) (n := nn) (a := (N.2.1 77 7).toInt) (by omega) (by omega) (by omega)).2.2
                    have z_715 := x_nx_b (t := t) (n := nn) (a := (N.2.1 77 7).toInt) (by omega) (by omega)
                    have z_716 := x_R_b (t := t) (n := nn) (a := (N.2.1 77 7).toInt) (w := v562.toInt) (by omega) (by omega) (by omega) (by omega)
                    have z_717 := z_412
                    exact h M700 hG701 F702 (by omega) (by omega) (by omega) (RS_m (a := (N.2.1 77 7).toInt) (kd := (5 : Int32).toInt) (wh := v562.toInt) (by omega) (by omega) (by omega) (by omega) (by omega) (by omega) (by omega) (by omega) z_716)
                  · refine to_c (pc := 326) rw_156_326 (x := (4 : Int32)) rfl rfl (to_go (pc := 327) rw_156_327 (s_pI (pc := 331) rw_156_331 hG661 rfl (fun M719 W718 => ?_)))
                    have hG720 := g_w hG661 W718 (A := 4) rfl (lo := 0) (hi := 5) rfl rfl (by omega) (by decide)
                    have F721 := FR.w F662 W718 (show 77 = 77 ∧ 7 ≤ 8 ∧ 8 ≤ 10 by decide)
                    refine to_an (pc := 334) rw_156_334 rfl (to_dupr (pc := 335) rw_156_335 ?_)
                    have c_722 : M719.2.1 77 7 = (N.2.1 77 7) := (W_n W718 (by decide) (W_n W659 (by decide) c_413))
                    refine tt_gI (pc := 336) rw_156_336 (g_o hG720 rfl) (v := (N.2.1 77 7)) c_722 (to_c (pc := 339) rw_156_339 (x := (1 : Int32)) rfl rfl (s_add (pc := 340) rw_156_340 (A := (N.2.1 77 7).toInt) (B := 1) rfl rfl (by omega) (fun v723 e724 => s_pI (pc := 341) rw_156_341 hG720 rfl (fun M726 W725 => ?_))))
                    have hG727 := g_w hG720 W725 (A := v723.toInt) rfl (lo := 0) (hi := 500) rfl rfl (by omega) (by decide)
                    have F728 := FR.w F721 W725 (show 77 = 77 ∧ 7 ≤ 7 ∧ 7 ≤ 10 by decide)
                    refine to_rv (pc := 344) rw_156_344 ?_
                    have c_729 : M726.2.1 77 7 = v723 := (W_e W725)
                    have t_730 : (M726.2.1 77 7).toInt = v723.toInt := congrArg Int32.toInt c_729
                    have c_731 : M726.2.1 77 6 = (N.2.1 77 6) := (W_n W725 (by decide) (W_n W718 (by decide) (W_n W659 (by decide) c_415)))
                    have t_732 : (M726.2.1 77 6).toInt = (N.2.1 77 6).toInt := congrArg Int32.toInt c_731
                    have c_733 : M726.2.1 77 8 = (4 : Int32) := (W_n W725 (by decide) (W_e W718))
                    have k_734 : (4 : Int32).toInt = 4 := rfl
                    have t_735 : (M726.2.1 77 8).toInt = (4 : Int32).toInt := congrArg Int32.toInt c_733
                    have c_736 : M726.2.1 77 9 = v562 := (W_n W725 (by decide) (W_n W718 (by decide) c_663))
                    have t_737 : (M726.2.1 77 9).toInt = v562.toInt := congrArg Int32.toInt c_736
                    have c_738 : M726.2.1 77 10 = (N.2.1 77 7) := (W_n W725 (by decide) (W_n W718 (by decide) (W_n W659 (by decide) (W_e W408))))
                    have t_739 : (M726.2.1 77 10).toInt = (N.2.1 77 7).toInt := congrArg Int32.toInt c_738
                    have z_740 := (x_ts (t := t) (n := nn) (a := (N.2.1 77 7).toInt) (by omega) (by omega) (by omega)).2.2
                    have z_741 := x_nx_b (t := t) (n := nn) (a := (N.2.1 77 7).toInt) (by omega) (by omega)
                    have z_742 := x_R_s (t := t) (n := nn) (a := (N.2.1 77 7).toInt) (v := v562.toInt) (by omega) (by omega) (by omega)
                    have z_743 := z_412
                    exact h M726 hG727 F728 (by omega) (by omega) (by omega) (RS_m (a := (N.2.1 77 7).toInt) (kd := (4 : Int32).toInt) (wh := v562.toInt) (by omega) (by omega) (by omega) (by omega) (by omega) (by omega) (by omega) (by omega) z_742)
              · refine to_c (pc := 30) rw_155_30 (x := (1 : Int32)) rfl rfl (to_go (pc := 31) rw_155_31 (s_r1 (pc := 35) rw_155_35 (A := 1) rfl (by decide) (b_ieq_f (pc := 199) rw_156_199 (A := 1) rfl (by decide) (to_an (pc := 202) rw_156_202 rfl (to_c (pc := 203) rw_156_203 (x := (3 : Int32)) rfl rfl (s_pI (pc := 204) rw_156_204 hG410 rfl (fun M745 W744 => ?_)))))))
                have hG746 := g_w hG410 W744 (A := 3) rfl (lo := 0) (hi := 5) rfl rfl (by omega) (by decide)
                have F747 := FR.w F411 W744 (show 77 = 77 ∧ 7 ≤ 8 ∧ 8 ≤ 10 by decide)
                refine to_an (pc := 207) rw_156_207 rfl (to_c (pc := 208) rw_156_208 (x := (0 : Int32)) rfl rfl (s_pI (pc := 209) rw_156_209 hG746 rfl (fun M749 W748 => ?_)))
                have hG750 := g_wf hG746 W748 rfl rfl (by decide)
                have F751 := FR.w F747 W748 (show 77 = 77 ∧ 7 ≤ 9 ∧ 9 ≤ 10 by decide)
                have c_752 : M749.2.1 77 7 = (N.2.1 77 7) := (W_n W748 (by decide) (W_n W744 (by decide) c_413))
                have t_753 : (M749.2.1 77 7).toInt = (N.2.1 77 7).toInt := congrArg Int32.toInt c_752
                have c_754 : M749.2.1 77 6 = (N.2.1 77 6) := (W_n W748 (by decide) (W_n W744 (by decide) c_415))
                have t_755 : (M749.2.1 77 6).toInt = (N.2.1 77 6).toInt := congrArg Int32.toInt c_754
                have c_756 : M749.2.1 77 10 = (N.2.1 77 7) := (W_n W748 (by decide) (W_n W744 (by decide) (W_e W408)))
                have t_757 : (M749.2.1 77 10).toInt = (N.2.1 77 7).toInt := congrArg Int32.toInt c_756
                have c_758 : M749.2.1 77 8 = (3 : Int32) := (W_n W748 (by decide) (W_e W744))
                have k_759 : (3 : Int32).toInt = 3 := rfl
                have t_760 : (M749.2.1 77 8).toInt = (3 : Int32).toInt := congrArg Int32.toInt c_758
                have c_761 : M749.2.1 77 9 = (0 : Int32) := (W_e W748)
                have k_762 : (0 : Int32).toInt = 0 := rfl
                have t_763 : (M749.2.1 77 9).toInt = (0 : Int32).toInt := congrArg Int32.toInt c_761
                have j_764 := (TR_f (fun a i z => W_n W748 (tg_13 a i z) rfl) (TR_f (fun a i z => W_n W744 (tg_16 a i z) rfl) j_565))
                have j_765 := (W9_f (fun a i z => W_n W748 (tg_15 a i z) rfl) (W9_f (fun a i z => W_n W744 (tg_18 a i z) rfl) (W9_f (fun a i z => W_n W408 (tg_19 a i z) rfl) g8)))
                exact (U_156_0 (t := t) (nn := nn) hX hd q1 q2 q3 q4 q5 q6 h ((500 - (M749.2.1 77 7).toInt).toNat + 1)) M749  hG750 F751 (by omega) (by omega) (by omega) (by omega) (by rw [show (M749.2.1 77 10).toInt = (N.2.1 77 7).toInt by omega]; omega) (by omega) (by omega) (by omega) (by omega) (by rw [show (M749.2.1 77 9).toInt = 0 by omega, show (M749.2.1 77 7).toInt = (M749.2.1 77 10).toInt by omega]; rfl) (congrArg (x_end x_dg t nn) (show (M749.2.1 77 7).toInt = (M749.2.1 77 10).toInt by omega)) (by omega) (by omega) (by omega) j_764 j_765 (by omega)
        · refine to_an (pc := 8) rw_154_8 rfl (s_gR (pc := 9) rw_154_9 hG410 rfl (v := 78) rfl (to_in (pc := 12) rw_154_12 rfl (s_ial (pc := 13) rw_154_13 hG410 rfl (n := 500) rfl rfl (A := (N.2.1 77 7).toInt) rfl (by omega) (by omega) (lo := 0) (hi := 255) rfl rfl (fun v766 w_767 _ _ => ?_))))
          have j_769 := (TR_f (fun a i z => W_n W408 (tg_17 a i z) rfl) g7)
          have z_768 := TR_u j_769 (A := (N.2.1 77 7).toInt) (B := (N.2.1 77 7).toInt) (by omega) (by omega) w_767 rfl
          refine to_c (pc := 14) rw_154_14 (x := (97 : Int32)) rfl rfl (b_clt (pc := 16) rw_154_16 (A := v766.toInt) (B := 97) rfl rfl (fun h770 => ?_) (fun h770 => ?_))
          · refine to_c (pc := 34) rw_154_34 (x := (0 : Int32)) rfl rfl (s_r1 (pc := 35) rw_154_35 (A := 0) rfl (by decide) (b_ieq_t (pc := 87) rw_156_87 (A := 0) rfl (by decide) (to_an (pc := 191) rw_156_191 rfl (to_an (pc := 192) rw_156_192 rfl (tt_gI (pc := 193) rw_156_193 (g_o hG410 rfl) (v := (N.2.1 77 7)) c_413 (s_v (pc := 196) rw_156_196 (dp0 hd (by decide)) (ls0 := [.ref 77, .int (N.2.1 77 7)]) rfl (Nat.le_of_ble_eq_true rfl) (Nat.le_of_ble_eq_true rfl) rfl (to_rc rfl rfl rfl (g_o hG410 rfl)) rfl (to_in (pc := 0) rw_155_0 rfl (to_an (pc := 1) rw_155_1 rfl (tt_gI (pc := 2) rw_155_2 (g_o hG410 rfl) (v := (N.2.1 77 6)) c_415 (b_cge (pc := 5) rw_155_5 (A := (N.2.1 77 7).toInt) (B := (N.2.1 77 6).toInt) rfl rfl (fun h771 => ?_) (fun h771 => ?_)))))))))))
            · refine to_c (pc := 34) rw_155_34 (x := (0 : Int32)) rfl rfl (s_r1 (pc := 35) rw_155_35 (A := 0) rfl (by decide) (b_ieq_t (pc := 199) rw_156_199 (A := 0) rfl (by decide) (to_an (pc := 276) rw_156_276 rfl (to_an (pc := 277) rw_156_277 rfl (s_gR (pc := 278) rw_156_278 hG410 rfl (v := 78) rfl (to_an (pc := 281) rw_156_281 rfl (tt_gI (pc := 282) rw_156_282 (g_o hG410 rfl) (v := (N.2.1 77 7)) c_413 (s_ialk (pc := 285) rw_156_285 hG410 rfl (n := 500) rfl rfl (A := (N.2.1 77 7).toInt) rfl (by omega) (by omega) (v := v766) w_767 (s_pI (pc := 286) rw_156_286 hG410 rfl (fun M775 W774 => ?_))))))))))
              have hG776 := g_wf hG410 W774 rfl rfl (by decide)
              have F777 := FR.w F411 W774 (show 77 = 77 ∧ 7 ≤ 9 ∧ 9 ≤ 10 by decide)
              refine to_an (pc := 289) rw_156_289 rfl (to_an (pc := 290) rw_156_290 rfl ?_)
              have c_778 : M775.2.1 77 9 = v766 := (W_e W774)
              refine tt_gI (pc := 291) rw_156_291 (g_o hG776 rfl) (v := v766) c_778 (to_c (pc := 294) rw_156_294 (x := (59 : Int32)) rfl rfl (b_ceq (pc := 296) rw_156_296 (A := v766.toInt) (B := 59) rfl rfl (fun h779 => ?_) (fun h779 => ?_)))
              · refine to_c (pc := 326) rw_156_326 (x := (4 : Int32)) rfl rfl (to_go (pc := 327) rw_156_327 (s_pI (pc := 331) rw_156_331 hG776 rfl (fun M781 W780 => ?_)))
                have hG782 := g_w hG776 W780 (A := 4) rfl (lo := 0) (hi := 5) rfl rfl (by omega) (by decide)
                have F783 := FR.w F777 W780 (show 77 = 77 ∧ 7 ≤ 8 ∧ 8 ≤ 10 by decide)
                refine to_an (pc := 334) rw_156_334 rfl (to_dupr (pc := 335) rw_156_335 ?_)
                have c_784 : M781.2.1 77 7 = (N.2.1 77 7) := (W_n W780 (by decide) (W_n W774 (by decide) c_413))
                refine tt_gI (pc := 336) rw_156_336 (g_o hG782 rfl) (v := (N.2.1 77 7)) c_784 (to_c (pc := 339) rw_156_339 (x := (1 : Int32)) rfl rfl (s_add (pc := 340) rw_156_340 (A := (N.2.1 77 7).toInt) (B := 1) rfl rfl (by omega) (fun v785 e786 => s_pI (pc := 341) rw_156_341 hG782 rfl (fun M788 W787 => ?_))))
                have hG789 := g_w hG782 W787 (A := v785.toInt) rfl (lo := 0) (hi := 500) rfl rfl (by omega) (by decide)
                have F790 := FR.w F783 W787 (show 77 = 77 ∧ 7 ≤ 7 ∧ 7 ≤ 10 by decide)
                refine to_rv (pc := 344) rw_156_344 ?_
                have c_791 : M788.2.1 77 7 = v785 := (W_e W787)
                have t_792 : (M788.2.1 77 7).toInt = v785.toInt := congrArg Int32.toInt c_791
                have c_793 : M788.2.1 77 6 = (N.2.1 77 6) := (W_n W787 (by decide) (W_n W780 (by decide) (W_n W774 (by decide) c_415)))
                have t_794 : (M788.2.1 77 6).toInt = (N.2.1 77 6).toInt := congrArg Int32.toInt c_793
                have c_795 : M788.2.1 77 8 = (4 : Int32) := (W_n W787 (by decide) (W_e W780))
                have k_796 : (4 : Int32).toInt = 4 := rfl
                have t_797 : (M788.2.1 77 8).toInt = (4 : Int32).toInt := congrArg Int32.toInt c_795
                have c_798 : M788.2.1 77 9 = v766 := (W_n W787 (by decide) (W_n W780 (by decide) c_778))
                have t_799 : (M788.2.1 77 9).toInt = v766.toInt := congrArg Int32.toInt c_798
                have c_800 : M788.2.1 77 10 = (N.2.1 77 7) := (W_n W787 (by decide) (W_n W780 (by decide) (W_n W774 (by decide) (W_e W408))))
                have t_801 : (M788.2.1 77 10).toInt = (N.2.1 77 7).toInt := congrArg Int32.toInt c_800
                have z_802 := (x_ts (t := t) (n := nn) (a := (N.2.1 77 7).toInt) (by omega) (by omega) (by omega)).2.2
                have z_803 := x_nx_b (t := t) (n := nn) (a := (N.2.1 77 7).toInt) (by omega) (by omega)
                have z_804 := x_R_s (t := t) (n := nn) (a := (N.2.1 77 7).toInt) (v := v766.toInt) (by omega) (by omega) (by omega)
                have z_805 := z_412
                exact h M788 hG789 F790 (by omega) (by omega) (by omega) (RS_m (a := (N.2.1 77 7).toInt) (kd := (4 : Int32).toInt) (wh := v766.toInt) (by omega) (by omega) (by omega) (by omega) (by omega) (by omega) (by omega) (by omega) z_804)
              · refine to_an (pc := 299) rw_156_299 rfl (tt_gI (pc := 300) rw_156_300 (g_o hG776 rfl) (v := v766) c_778 (to_c (pc := 303) rw_156_303 (x := (40 : Int32)) rfl rfl (b_ceq (pc := 305) rw_156_305 (A := v766.toInt) (B := 40) rfl rfl (fun h806 => ?_) (fun h806 => ?_))))
                · refine to_c (pc := 326) rw_156_326 (x := (4 : Int32)) rfl rfl (to_go (pc := 327) rw_156_327 (s_pI (pc := 331) rw_156_331 hG776 rfl (fun M808 W807 => ?_)))
                  have hG809 := g_w hG776 W807 (A := 4) rfl (lo := 0) (hi := 5) rfl rfl (by omega) (by decide)
                  have F810 := FR.w F777 W807 (show 77 = 77 ∧ 7 ≤ 8 ∧ 8 ≤ 10 by decide)
                  refine to_an (pc := 334) rw_156_334 rfl (to_dupr (pc := 335) rw_156_335 ?_)
                  have c_811 : M808.2.1 77 7 = (N.2.1 77 7) := (W_n W807 (by decide) (W_n W774 (by decide) c_413))
                  refine tt_gI (pc := 336) rw_156_336 (g_o hG809 rfl) (v := (N.2.1 77 7)) c_811 (to_c (pc := 339) rw_156_339 (x := (1 : Int32)) rfl rfl (s_add (pc := 340) rw_156_340 (A := (N.2.1 77 7).toInt) (B := 1) rfl rfl (by omega) (fun v812 e813 => s_pI (pc := 341) rw_156_341 hG809 rfl (fun M815 W814 => ?_))))
                  have hG816 := g_w hG809 W814 (A := v812.toInt) rfl (lo := 0) (hi := 500) rfl rfl (by omega) (by decide)
                  have F817 := FR.w F810 W814 (show 77 = 77 ∧ 7 ≤ 7 ∧ 7 ≤ 10 by decide)
                  refine to_rv (pc := 344) rw_156_344 ?_
                  have c_818 : M815.2.1 77 7 = v812 := (W_e W814)
                  have t_819 : (M815.2.1 77 7).toInt = v812.toInt := congrArg Int32.toInt c_818
                  have c_820 : M815.2.1 77 6 = (N.2.1 77 6) := (W_n W814 (by decide) (W_n W807 (by decide) (W_n W774 (by decide) c_415)))
                  have t_821 : (M815.2.1 77 6).toInt = (N.2.1 77 6).toInt := congrArg Int32.toInt c_820
                  have c_822 : M815.2.1 77 8 = (4 : Int32) := (W_n W814 (by decide) (W_e W807))
                  have k_823 : (4 : Int32).toInt = 4 := rfl
                  have t_824 : (M815.2.1 77 8).toInt = (4 : Int32).toInt := congrArg Int32.toInt c_822
                  have c_825 : M815.2.1 77 9 = v766 := (W_n W814 (by decide) (W_n W807 (by decide) c_778))
                  have t_826 : (M815.2.1 77 9).toInt = v766.toInt := congrArg Int32.toInt c_825
                  have c_827 : M815.2.1 77 10 = (N.2.1 77 7) := (W_n W814 (by decide) (W_n W807 (by decide) (W_n W774 (by decide) (W_e W408))))
                  have t_828 : (M815.2.1 77 10).toInt = (N.2.1 77 7).toInt := congrArg Int32.toInt c_827
                  have z_829 := (x_ts (t := t) (n := nn) (a := (N.2.1 77 7).toInt) (by omega) (by omega) (by omega)).2.2
                  have z_830 := x_nx_b (t := t) (n := nn) (a := (N.2.1 77 7).toInt) (by omega) (by omega)
                  have z_831 := x_R_s (t := t) (n := nn) (a := (N.2.1 77 7).toInt) (v := v766.toInt) (by omega) (by omega) (by omega)
                  have z_832 := z_412
                  exact h M815 hG816 F817 (by omega) (by omega) (by omega) (RS_m (a := (N.2.1 77 7).toInt) (kd := (4 : Int32).toInt) (wh := v766.toInt) (by omega) (by omega) (by omega) (by omega) (by omega) (by omega) (by omega) (by omega) z_831)
                · refine to_an (pc := 308) rw_156_308 rfl (tt_gI (pc := 309) rw_156_309 (g_o hG776 rfl) (v := v766) c_778 (to_c (pc := 312) rw_156_312 (x := (41 : Int32)) rfl rfl (b_ceq (pc := 314) rw_156_314 (A := v766.toInt) (B := 41) rfl rfl (fun h833 => ?_) (fun h833 => ?_))))
                  · refine to_c (pc := 326) rw_156_326 (x := (4 : Int32)) rfl rfl (to_go (pc := 327) rw_156_327 (s_pI (pc := 331) rw_156_331 hG776 rfl (fun M835 W834 => ?_)))
                    have hG836 := g_w hG776 W834 (A := 4) rfl (lo := 0) (hi := 5) rfl rfl (by omega) (by decide)
                    have F837 := FR.w F777 W834 (show 77 = 77 ∧ 7 ≤ 8 ∧ 8 ≤ 10 by decide)
                    refine to_an (pc := 334) rw_156_334 rfl (to_dupr (pc := 335) rw_156_335 ?_)
                    have c_838 : M835.2.1 77 7 = (N.2.1 77 7) := (W_n W834 (by decide) (W_n W774 (by decide) c_413))
                    refine tt_gI (pc := 336) rw_156_336 (g_o hG836 rfl) (v := (N.2.1 77 7)) c_838 (to_c (pc := 339) rw_156_339 (x := (1 : Int32)) rfl rfl (s_add (pc := 340) rw_156_340 (A := (N.2.1 77 7).toInt) (B := 1) rfl rfl (by omega) (fun v839 e840 => s_pI (pc := 341) rw_156_341 hG836 rfl (fun M842 W841 => ?_))))
                    have hG843 := g_w hG836 W841 (A := v839.toInt) rfl (lo := 0) (hi := 500) rfl rfl (by omega) (by decide)
                    have F844 := FR.w F837 W841 (show 77 = 77 ∧ 7 ≤ 7 ∧ 7 ≤ 10 by decide)
                    refine to_rv (pc := 344) rw_156_344 ?_
                    have c_845 : M842.2.1 77 7 = v839 := (W_e W841)
                    have t_846 : (M842.2.1 77 7).toInt = v839.toInt := congrArg Int32.toInt c_845
                    have c_847 : M842.2.1 77 6 = (N.2.1 77 6) := (W_n W841 (by decide) (W_n W834 (by decide) (W_n W774 (by decide) c_415)))
                    have t_848 : (M842.2.1 77 6).toInt = (N.2.1 77 6).toInt := congrArg Int32.toInt c_847
                    have c_849 : M842.2.1 77 8 = (4 : Int32) := (W_n W841 (by decide) (W_e W834))
                    have k_850 : (4 : Int32).toInt = 4 := rfl
                    have t_851 : (M842.2.1 77 8).toInt = (4 : Int32).toInt := congrArg Int32.toInt c_849
                    have c_852 : M842.2.1 77 9 = v766 := (W_n W841 (by decide) (W_n W834 (by decide) c_778))
                    have t_853 : (M842.2.1 77 9).toInt = v766.toInt := congrArg Int32.toInt c_852
                    have c_854 : M842.2.1 77 10 = (N.2.1 77 7) := (W_n W841 (by decide) (W_n W834 (by decide) (W_n W774 (by decide) (W_e W408))))
                    have t_855 : (M842.2.1 77 10).toInt = (N.2.1 77 7).toInt := congrArg Int32.toInt c_854
                    have z_856 := (x_ts (t := t) (n := nn) (a := (N.2.1 77 7).toInt) (by omega) (by omega) (by omega)).2.2
                    have z_857 := x_nx_b (t := t) (n := nn) (a := (N.2.1 77 7).toInt) (by omega) (by omega)
                    have z_858 := x_R_s (t := t) (n := nn) (a := (N.2.1 77 7).toInt) (v := v766.toInt) (by omega) (by omega) (by omega)
                    have z_859 := z_412
                    exact h M842 hG843 F844 (by omega) (by omega) (by omega) (RS_m (a := (N.2.1 77 7).toInt) (kd := (4 : Int32).toInt) (wh := v766.toInt) (by omega) (by omega) (by omega) (by omega) (by omega) (by omega) (by omega) (by omega) z_858)
                  · refine to_an (pc := 317) rw_156_317 rfl (tt_gI (pc := 318) rw_156_318 (g_o hG776 rfl) (v := v766) c_778 (to_c (pc := 321) rw_156_321 (x := (61 : Int32)) rfl rfl (b_cne (pc := 323) rw_156_323 (A := v766.toInt) (B := 61) rfl rfl (fun h860 => ?_) (fun h860 => ?_))))
                    · refine to_c (pc := 330) rw_156_330 (x := (5 : Int32)) rfl rfl (s_pI (pc := 331) rw_156_331 hG776 rfl (fun M862 W861 => ?_))
                      have hG863 := g_w hG776 W861 (A := 5) rfl (lo := 0) (hi := 5) rfl rfl (by omega) (by decide)
                      have F864 := FR.w F777 W861 (show 77 = 77 ∧ 7 ≤ 8 ∧ 8 ≤ 10 by decide)
                      refine to_an (pc := 334) rw_156_334 rfl (to_dupr (pc := 335) rw_156_335 ?_)
                      have c_865 : M862.2.1 77 7 = (N.2.1 77 7) := (W_n W861 (by decide) (W_n W774 (by decide) c_413))
                      refine tt_gI (pc := 336) rw_156_336 (g_o hG863 rfl) (v := (N.2.1 77 7)) c_865 (to_c (pc := 339) rw_156_339 (x := (1 : Int32)) rfl rfl (s_add (pc := 340) rw_156_340 (A := (N.2.1 77 7).toInt) (B := 1) rfl rfl (by omega) (fun v866 e867 => s_pI (pc := 341) rw_156_341 hG863 rfl (fun M869 W868 => ?_))))
                      have hG870 := g_w hG863 W868 (A := v866.toInt) rfl (lo := 0) (hi := 500) rfl rfl (by omega) (by decide)
                      have F871 := FR.w F864 W868 (show 77 = 77 ∧ 7 ≤ 7 ∧ 7 ≤ 10 by decide)
                      refine to_rv (pc := 344) rw_156_344 ?_
                      have c_872 : M869.2.1 77 7 = v866 := (W_e W868)
                      have t_873 : (M869.2.1 77 7).toInt = v866.toInt := congrArg Int32.toInt c_872
                      have c_874 : M869.2.1 77 6 = (N.2.1 77 6) := (W_n W868 (by decide) (W_n W861 (by decide) (W_n W774 (by decide) c_415)))
                      have t_875 : (M869.2.1 77 6).toInt = (N.2.1 77 6).toInt := congrArg Int32.toInt c_874
                      have c_876 : M869.2.1 77 8 = (5 : Int32) := (W_n W868 (by decide) (W_e W861))
                      have k_877 : (5 : Int32).toInt = 5 := rfl
                      have t_878 : (M869.2.1 77 8).toInt = (5 : Int32).toInt := congrArg Int32.toInt c_876
                      have c_879 : M869.2.1 77 9 = v766 := (W_n W868 (by decide) (W_n W861 (by decide) c_778))
                      have t_880 : (M869.2.1 77 9).toInt = v766.toInt := congrArg Int32.toInt c_879
                      have c_881 : M869.2.1 77 10 = (N.2.1 77 7) := (W_n W868 (by decide) (W_n W861 (by decide) (W_n W774 (by decide) (W_e W408))))
                      have t_882 : (M869.2.1 77 10).toInt = (N.2.1 77 7).toInt := congrArg Int32.toInt c_881
                      have z_883 := (x_ts (t := t) (n := nn) (a := (N.2.1 77 7).toInt) (by omega) (by omega) (by omega)).2.2
                      have z_884 := x_nx_b (t := t) (n := nn) (a := (N.2.1 77 7).toInt) (by omega) (by omega)
                      have z_885 := x_R_b (t := t) (n := nn) (a := (N.2.1 77 7).toInt) (w := v766.toInt) (by omega) (by omega) (by omega) (by omega)
                      have z_886 := z_412
                      exact h M869 hG870 F871 (by omega) (by omega) (by omega) (RS_m (a := (N.2.1 77 7).toInt) (kd := (5 : Int32).toInt) (wh := v766.toInt) (by omega) (by omega) (by omega) (by omega) (by omega) (by omega) (by omega) (by omega) z_885)
                    · refine to_c (pc := 326) rw_156_326 (x := (4 : Int32)) rfl rfl (to_go (pc := 327) rw_156_327 (s_pI (pc := 331) rw_156_331 hG776 rfl (fun M888 W887 => ?_)))
                      have hG889 := g_w hG776 W887 (A := 4) rfl (lo := 0) (hi := 5) rfl rfl (by omega) (by decide)
                      have F890 := FR.w F777 W887 (show 77 = 77 ∧ 7 ≤ 8 ∧ 8 ≤ 10 by decide)
                      refine to_an (pc := 334) rw_156_334 rfl (to_dupr (pc := 335) rw_156_335 ?_)
                      have c_891 : M888.2.1 77 7 = (N.2.1 77 7) := (W_n W887 (by decide) (W_n W774 (by decide) c_413))
                      refine tt_gI (pc := 336) rw_156_336 (g_o hG889 rfl) (v := (N.2.1 77 7)) c_891 (to_c (pc := 339) rw_156_339 (x := (1 : Int32)) rfl rfl (s_add (pc := 340) rw_156_340 (A := (N.2.1 77 7).toInt) (B := 1) rfl rfl (by omega) (fun v892 e893 => s_pI (pc := 341) rw_156_341 hG889 rfl (fun M895 W894 => ?_))))
                      have hG896 := g_w hG889 W894 (A := v892.toInt) rfl (lo := 0) (hi := 500) rfl rfl (by omega) (by decide)
                      have F897 := FR.w F890 W894 (show 77 = 77 ∧ 7 ≤ 7 ∧ 7 ≤ 10 by decide)
                      refine to_rv (pc := 344) rw_156_344 ?_
                      have c_898 : M895.2.1 77 7 = v892 := (W_e W894)
                      have t_899 : (M895.2.1 77 7).toInt = v892.toInt := congrArg Int32.toInt c_898
                      have c_900 : M895.2.1 77 6 = (N.2.1 77 6) := (W_n W894 (by decide) (W_n W887 (by decide) (W_n W774 (by decide) c_415)))
                      have t_901 : (M895.2.1 77 6).toInt = (N.2.1 77 6).toInt := congrArg Int32.toInt c_900
                      have c_902 : M895.2.1 77 8 = (4 : Int32) := (W_n W894 (by decide) (W_e W887))
                      have k_903 : (4 : Int32).toInt = 4 := rfl
                      have t_904 : (M895.2.1 77 8).toInt = (4 : Int32).toInt := congrArg Int32.toInt c_902
                      have c_905 : M895.2.1 77 9 = v766 := (W_n W894 (by decide) (W_n W887 (by decide) c_778))
                      have t_906 : (M895.2.1 77 9).toInt = v766.toInt := congrArg Int32.toInt c_905
                      have c_907 : M895.2.1 77 10 = (N.2.1 77 7) := (W_n W894 (by decide) (W_n W887 (by decide) (W_n W774 (by decide) (W_e W408))))
                      have t_908 : (M895.2.1 77 10).toInt = (N.2.1 77 7).toInt := congrArg Int32.toInt c_907
                      have z_909 := (x_ts (t := t) (n := nn) (a := (N.2.1 77 7).toInt) (by omega) (by omega) (by omega)).2.2
                      have z_910 := x_nx_b (t := t) (n := nn) (a := (N.2.1 77 7).toInt) (by omega) (by omega)
                      have z_911 := x_R_s (t := t) (n := nn) (a := (N.2.1 77 7).toInt) (v := v766.toInt) (by omega) (by omega) (by omega)
                      have z_912 := z_412
                      exact h M895 hG896 F897 (by omega) (by omega) (by omega) (RS_m (a := (N.2.1 77 7).toInt) (kd := (4 : Int32).toInt) (wh := v766.toInt) (by omega) (by omega) (by omega) (by omega) (by omega) (by omega) (by omega) (by omega) z_911)
            · refine to_an (pc := 8) rw_155_8 rfl (s_gR (pc := 9) rw_155_9 hG410 rfl (v := 78) rfl (to_in (pc := 12) rw_155_12 rfl (s_ialk (pc := 13) rw_155_13 hG410 rfl (n := 500) rfl rfl (A := (N.2.1 77 7).toInt) rfl (by omega) (by omega) (v := v766) w_767 (to_c (pc := 14) rw_155_14 (x := (48 : Int32)) rfl rfl (b_clt (pc := 16) rw_155_16 (A := v766.toInt) (B := 48) rfl rfl (fun h915 => ?_) (fun h915 => ?_))))))
              · refine to_c (pc := 34) rw_155_34 (x := (0 : Int32)) rfl rfl (s_r1 (pc := 35) rw_155_35 (A := 0) rfl (by decide) (b_ieq_t (pc := 199) rw_156_199 (A := 0) rfl (by decide) (to_an (pc := 276) rw_156_276 rfl (to_an (pc := 277) rw_156_277 rfl (s_gR (pc := 278) rw_156_278 hG410 rfl (v := 78) rfl (to_an (pc := 281) rw_156_281 rfl (tt_gI (pc := 282) rw_156_282 (g_o hG410 rfl) (v := (N.2.1 77 7)) c_413 (s_ialk (pc := 285) rw_156_285 hG410 rfl (n := 500) rfl rfl (A := (N.2.1 77 7).toInt) rfl (by omega) (by omega) (v := v766) w_767 (s_pI (pc := 286) rw_156_286 hG410 rfl (fun M919 W918 => ?_))))))))))
                have hG920 := g_wf hG410 W918 rfl rfl (by decide)
                have F921 := FR.w F411 W918 (show 77 = 77 ∧ 7 ≤ 9 ∧ 9 ≤ 10 by decide)
                refine to_an (pc := 289) rw_156_289 rfl (to_an (pc := 290) rw_156_290 rfl ?_)
                have c_922 : M919.2.1 77 9 = v766 := (W_e W918)
                refine tt_gI (pc := 291) rw_156_291 (g_o hG920 rfl) (v := v766) c_922 (to_c (pc := 294) rw_156_294 (x := (59 : Int32)) rfl rfl (b_ceq_f (pc := 296) rw_156_296 (A := v766.toInt) (B := 59) rfl rfl (by omega) (to_an (pc := 299) rw_156_299 rfl (tt_gI (pc := 300) rw_156_300 (g_o hG920 rfl) (v := v766) c_922 (to_c (pc := 303) rw_156_303 (x := (40 : Int32)) rfl rfl (b_ceq (pc := 305) rw_156_305 (A := v766.toInt) (B := 40) rfl rfl (fun h923 => ?_) (fun h923 => ?_)))))))
                · refine to_c (pc := 326) rw_156_326 (x := (4 : Int32)) rfl rfl (to_go (pc := 327) rw_156_327 (s_pI (pc := 331) rw_156_331 hG920 rfl (fun M925 W924 => ?_)))
                  have hG926 := g_w hG920 W924 (A := 4) rfl (lo := 0) (hi := 5) rfl rfl (by omega) (by decide)
                  have F927 := FR.w F921 W924 (show 77 = 77 ∧ 7 ≤ 8 ∧ 8 ≤ 10 by decide)
                  refine to_an (pc := 334) rw_156_334 rfl (to_dupr (pc := 335) rw_156_335 ?_)
                  have c_928 : M925.2.1 77 7 = (N.2.1 77 7) := (W_n W924 (by decide) (W_n W918 (by decide) c_413))
                  refine tt_gI (pc := 336) rw_156_336 (g_o hG926 rfl) (v := (N.2.1 77 7)) c_928 (to_c (pc := 339) rw_156_339 (x := (1 : Int32)) rfl rfl (s_add (pc := 340) rw_156_340 (A := (N.2.1 77 7).toInt) (B := 1) rfl rfl (by omega) (fun v929 e930 => s_pI (pc := 341) rw_156_341 hG926 rfl (fun M932 W931 => ?_))))
                  have hG933 := g_w hG926 W931 (A := v929.toInt) rfl (lo := 0) (hi := 500) rfl rfl (by omega) (by decide)
                  have F934 := FR.w F927 W931 (show 77 = 77 ∧ 7 ≤ 7 ∧ 7 ≤ 10 by decide)
                  refine to_rv (pc := 344) rw_156_344 ?_
                  have c_935 : M932.2.1 77 7 = v929 := (W_e W931)
                  have t_936 : (M932.2.1 77 7).toInt = v929.toInt := congrArg Int32.toInt c_935
                  have c_937 : M932.2.1 77 6 = (N.2.1 77 6) := (W_n W931 (by decide) (W_n W924 (by decide) (W_n W918 (by decide) c_415)))
                  have t_938 : (M932.2.1 77 6).toInt = (N.2.1 77 6).toInt := congrArg Int32.toInt c_937
                  have c_939 : M932.2.1 77 8 = (4 : Int32) := (W_n W931 (by decide) (W_e W924))
                  have k_940 : (4 : Int32).toInt = 4 := rfl
                  have t_941 : (M932.2.1 77 8).toInt = (4 : Int32).toInt := congrArg Int32.toInt c_939
                  have c_942 : M932.2.1 77 9 = v766 := (W_n W931 (by decide) (W_n W924 (by decide) c_922))
                  have t_943 : (M932.2.1 77 9).toInt = v766.toInt := congrArg Int32.toInt c_942
                  have c_944 : M932.2.1 77 10 = (N.2.1 77 7) := (W_n W931 (by decide) (W_n W924 (by decide) (W_n W918 (by decide) (W_e W408))))
                  have t_945 : (M932.2.1 77 10).toInt = (N.2.1 77 7).toInt := congrArg Int32.toInt c_944
                  have z_946 := (x_ts (t := t) (n := nn) (a := (N.2.1 77 7).toInt) (by omega) (by omega) (by omega)).2.2
                  have z_947 := x_nx_b (t := t) (n := nn) (a := (N.2.1 77 7).toInt) (by omega) (by omega)
                  have z_948 := x_R_s (t := t) (n := nn) (a := (N.2.1 77 7).toInt) (v := v766.toInt) (by omega) (by omega) (by omega)
                  have z_949 := z_412
                  exact h M932 hG933 F934 (by omega) (by omega) (by omega) (RS_m (a := (N.2.1 77 7).toInt) (kd := (4 : Int32).toInt) (wh := v766.toInt) (by omega) (by omega) (by omega) (by omega) (by omega) (by omega) (by omega) (by omega) z_948)
                · refine to_an (pc := 308) rw_156_308 rfl (tt_gI (pc := 309) rw_156_309 (g_o hG920 rfl) (v := v766) c_922 (to_c (pc := 312) rw_156_312 (x := (41 : Int32)) rfl rfl (b_ceq (pc := 314) rw_156_314 (A := v766.toInt) (B := 41) rfl rfl (fun h950 => ?_) (fun h950 => ?_))))
                  · refine to_c (pc := 326) rw_156_326 (x := (4 : Int32)) rfl rfl (to_go (pc := 327) rw_156_327 (s_pI (pc := 331) rw_156_331 hG920 rfl (fun M952 W951 => ?_)))
                    have hG953 := g_w hG920 W951 (A := 4) rfl (lo := 0) (hi := 5) rfl rfl (by omega) (by decide)
                    have F954 := FR.w F921 W951 (show 77 = 77 ∧ 7 ≤ 8 ∧ 8 ≤ 10 by decide)
                    refine to_an (pc := 334) rw_156_334 rfl (to_dupr (pc := 335) rw_156_335 ?_)
                    have c_955 : M952.2.1 77 7 = (N.2.1 77 7) := (W_n W951 (by decide) (W_n W918 (by decide) c_413))
                    refine tt_gI (pc := 336) rw_156_336 (g_o hG953 rfl) (v := (N.2.1 77 7)) c_955 (to_c (pc := 339) rw_156_339 (x := (1 : Int32)) rfl rfl (s_add (pc := 340) rw_156_340 (A := (N.2.1 77 7).toInt) (B := 1) rfl rfl (by omega) (fun v956 e957 => s_pI (pc := 341) rw_156_341 hG953 rfl (fun M959 W958 => ?_))))
                    have hG960 := g_w hG953 W958 (A := v956.toInt) rfl (lo := 0) (hi := 500) rfl rfl (by omega) (by decide)
                    have F961 := FR.w F954 W958 (show 77 = 77 ∧ 7 ≤ 7 ∧ 7 ≤ 10 by decide)
                    refine to_rv (pc := 344) rw_156_344 ?_
                    have c_962 : M959.2.1 77 7 = v956 := (W_e W958)
                    have t_963 : (M959.2.1 77 7).toInt = v956.toInt := congrArg Int32.toInt c_962
                    have c_964 : M959.2.1 77 6 = (N.2.1 77 6) := (W_n W958 (by decide) (W_n W951 (by decide) (W_n W918 (by decide) c_415)))
                    have t_965 : (M959.2.1 77 6).toInt = (N.2.1 77 6).toInt := congrArg Int32.toInt c_964
                    have c_966 : M959.2.1 77 8 = (4 : Int32) := (W_n W958 (by decide) (W_e W951))
                    have k_967 : (4 : Int32).toInt = 4 := rfl
                    have t_968 : (M959.2.1 77 8).toInt = (4 : Int32).toInt := congrArg Int32.toInt c_966
                    have c_969 : M959.2.1 77 9 = v766 := (W_n W958 (by decide) (W_n W951 (by decide) c_922))
                    have t_970 : (M959.2.1 77 9).toInt = v766.toInt := congrArg Int32.toInt c_969
                    have c_971 : M959.2.1 77 10 = (N.2.1 77 7) := (W_n W958 (by decide) (W_n W951 (by decide) (W_n W918 (by decide) (W_e W408))))
                    have t_972 : (M959.2.1 77 10).toInt = (N.2.1 77 7).toInt := congrArg Int32.toInt c_971
                    have z_973 := (x_ts (t := t) (n := nn) (a := (N.2.1 77 7).toInt) (by omega) (by omega) (by omega)).2.2
                    have z_974 := x_nx_b (t := t) (n := nn) (a := (N.2.1 77 7).toInt) (by omega) (by omega)
                    have z_975 := x_R_s (t := t) (n := nn) (a := (N.2.1 77 7).toInt) (v := v766.toInt) (by omega) (by omega) (by omega)
                    have z_976 := z_412
                    exact h M959 hG960 F961 (by omega) (by omega) (by omega) (RS_m (a := (N.2.1 77 7).toInt) (kd := (4 : Int32).toInt) (wh := v766.toInt) (by omega) (by omega) (by omega) (by omega) (by omega) (by omega) (by omega) (by omega) z_975)
                  · refine to_an (pc := 317) rw_156_317 rfl (tt_gI (pc := 318) rw_156_318 (g_o hG920 rfl) (v := v766) c_922 (to_c (pc := 321) rw_156_321 (x := (61 : Int32)) rfl rfl (b_cne_t (pc := 323) rw_156_323 (A := v766.toInt) (B := 61) rfl rfl (by omega) (to_c (pc := 330) rw_156_330 (x := (5 : Int32)) rfl rfl (s_pI (pc := 331) rw_156_331 hG920 rfl (fun M978 W977 => ?_))))))
                    have hG979 := g_w hG920 W977 (A := 5) rfl (lo := 0) (hi := 5) rfl rfl (by omega) (by decide)
                    have F980 := FR.w F921 W977 (show 77 = 77 ∧ 7 ≤ 8 ∧ 8 ≤ 10 by decide)
                    refine to_an (pc := 334) rw_156_334 rfl (to_dupr (pc := 335) rw_156_335 ?_)
                    have c_981 : M978.2.1 77 7 = (N.2.1 77 7) := (W_n W977 (by decide) (W_n W918 (by decide) c_413))
                    refine tt_gI (pc := 336) rw_156_336 (g_o hG979 rfl) (v := (N.2.1 77 7)) c_981 (to_c (pc := 339) rw_156_339 (x := (1 : Int32)) rfl rfl (s_add (pc := 340) rw_156_340 (A := (N.2.1 77 7).toInt) (B := 1) rfl rfl (by omega) (fun v982 e983 => s_pI (pc := 341) rw_156_341 hG979 rfl (fun M985 W984 => ?_))))
                    have hG986 := g_w hG979 W984 (A := v982.toInt) rfl (lo := 0) (hi := 500) rfl rfl (by omega) (by decide)
                    have F987 := FR.w F980 W984 (show 77 = 77 ∧ 7 ≤ 7 ∧ 7 ≤ 10 by decide)
                    refine to_rv (pc := 344) rw_156_344 ?_
                    have c_988 : M985.2.1 77 7 = v982 := (W_e W984)
                    have t_989 : (M985.2.1 77 7).toInt = v982.toInt := congrArg Int32.toInt c_988
                    have c_990 : M985.2.1 77 6 = (N.2.1 77 6) := (W_n W984 (by decide) (W_n W977 (by decide) (W_n W918 (by decide) c_415)))
                    have t_991 : (M985.2.1 77 6).toInt = (N.2.1 77 6).toInt := congrArg Int32.toInt c_990
                    have c_992 : M985.2.1 77 8 = (5 : Int32) := (W_n W984 (by decide) (W_e W977))
                    have k_993 : (5 : Int32).toInt = 5 := rfl
                    have t_994 : (M985.2.1 77 8).toInt = (5 : Int32).toInt := congrArg Int32.toInt c_992
                    have c_995 : M985.2.1 77 9 = v766 := (W_n W984 (by decide) (W_n W977 (by decide) c_922))
                    have t_996 : (M985.2.1 77 9).toInt = v766.toInt := congrArg Int32.toInt c_995
                    have c_997 : M985.2.1 77 10 = (N.2.1 77 7) := (W_n W984 (by decide) (W_n W977 (by decide) (W_n W918 (by decide) (W_e W408))))
                    have t_998 : (M985.2.1 77 10).toInt = (N.2.1 77 7).toInt := congrArg Int32.toInt c_997
                    have z_999 := (x_ts (t := t) (n := nn) (a := (N.2.1 77 7).toInt) (by omega) (by omega) (by omega)).2.2
                    have z_1000 := x_nx_b (t := t) (n := nn) (a := (N.2.1 77 7).toInt) (by omega) (by omega)
                    have z_1001 := x_R_b (t := t) (n := nn) (a := (N.2.1 77 7).toInt) (w := v766.toInt) (by omega) (by omega) (by omega) (by omega)
                    have z_1002 := z_412
                    exact h M985 hG986 F987 (by omega) (by omega) (by omega) (RS_m (a := (N.2.1 77 7).toInt) (kd := (5 : Int32).toInt) (wh := v766.toInt) (by omega) (by omega) (by omega) (by omega) (by omega) (by omega) (by omega) (by omega) z_1001)
              · refine to_an (pc := 19) rw_155_19 rfl (s_gR (pc := 20) rw_155_20 hG410 rfl (v := 78) rfl (to_in (pc := 23) rw_155_23 rfl (s_ialk (pc := 24) rw_155_24 hG410 rfl (n := 500) rfl rfl (A := (N.2.1 77 7).toInt) rfl (by omega) (by omega) (v := v766) w_767 (to_c (pc := 25) rw_155_25 (x := (57 : Int32)) rfl rfl (b_cgt (pc := 27) rw_155_27 (A := v766.toInt) (B := 57) rfl rfl (fun h1005 => ?_) (fun h1005 => ?_))))))
                · refine to_c (pc := 34) rw_155_34 (x := (0 : Int32)) rfl rfl (s_r1 (pc := 35) rw_155_35 (A := 0) rfl (by decide) (b_ieq_t (pc := 199) rw_156_199 (A := 0) rfl (by decide) (to_an (pc := 276) rw_156_276 rfl (to_an (pc := 277) rw_156_277 rfl (s_gR (pc := 278) rw_156_278 hG410 rfl (v := 78) rfl (to_an (pc := 281) rw_156_281 rfl (tt_gI (pc := 282) rw_156_282 (g_o hG410 rfl) (v := (N.2.1 77 7)) c_413 (s_ialk (pc := 285) rw_156_285 hG410 rfl (n := 500) rfl rfl (A := (N.2.1 77 7).toInt) rfl (by omega) (by omega) (v := v766) w_767 (s_pI (pc := 286) rw_156_286 hG410 rfl (fun M1009 W1008 => ?_))))))))))
                  have hG1010 := g_wf hG410 W1008 rfl rfl (by decide)
                  have F1011 := FR.w F411 W1008 (show 77 = 77 ∧ 7 ≤ 9 ∧ 9 ≤ 10 by decide)
                  refine to_an (pc := 289) rw_156_289 rfl (to_an (pc := 290) rw_156_290 rfl ?_)
                  have c_1012 : M1009.2.1 77 9 = v766 := (W_e W1008)
                  refine tt_gI (pc := 291) rw_156_291 (g_o hG1010 rfl) (v := v766) c_1012 (to_c (pc := 294) rw_156_294 (x := (59 : Int32)) rfl rfl (b_ceq (pc := 296) rw_156_296 (A := v766.toInt) (B := 59) rfl rfl (fun h1013 => ?_) (fun h1013 => ?_)))
                  · refine to_c (pc := 326) rw_156_326 (x := (4 : Int32)) rfl rfl (to_go (pc := 327) rw_156_327 (s_pI (pc := 331) rw_156_331 hG1010 rfl (fun M1015 W1014 => ?_)))
                    have hG1016 := g_w hG1010 W1014 (A := 4) rfl (lo := 0) (hi := 5) rfl rfl (by omega) (by decide)
                    have F1017 := FR.w F1011 W1014 (show 77 = 77 ∧ 7 ≤ 8 ∧ 8 ≤ 10 by decide)
                    refine to_an (pc := 334) rw_156_334 rfl (to_dupr (pc := 335) rw_156_335 ?_)
                    have c_1018 : M1015.2.1 77 7 = (N.2.1 77 7) := (W_n W1014 (by decide) (W_n W1008 (by decide) c_413))
                    refine tt_gI (pc := 336) rw_156_336 (g_o hG1016 rfl) (v := (N.2.1 77 7)) c_1018 (to_c (pc := 339) rw_156_339 (x := (1 : Int32)) rfl rfl (s_add (pc := 340) rw_156_340 (A := (N.2.1 77 7).toInt) (B := 1) rfl rfl (by omega) (fun v1019 e1020 => s_pI (pc := 341) rw_156_341 hG1016 rfl (fun M1022 W1021 => ?_))))
                    have hG1023 := g_w hG1016 W1021 (A := v1019.toInt) rfl (lo := 0) (hi := 500) rfl rfl (by omega) (by decide)
                    have F1024 := FR.w F1017 W1021 (show 77 = 77 ∧ 7 ≤ 7 ∧ 7 ≤ 10 by decide)
                    refine to_rv (pc := 344) rw_156_344 ?_
                    have c_1025 : M1022.2.1 77 7 = v1019 := (W_e W1021)
                    have t_1026 : (M1022.2.1 77 7).toInt = v1019.toInt := congrArg Int32.toInt c_1025
                    have c_1027 : M1022.2.1 77 6 = (N.2.1 77 6) := (W_n W1021 (by decide) (W_n W1014 (by decide) (W_n W1008 (by decide) c_415)))
                    have t_1028 : (M1022.2.1 77 6).toInt = (N.2.1 77 6).toInt := congrArg Int32.toInt c_1027
                    have c_1029 : M1022.2.1 77 8 = (4 : Int32) := (W_n W1021 (by decide) (W_e W1014))
                    have k_1030 : (4 : Int32).toInt = 4 := rfl
                    have t_1031 : (M1022.2.1 77 8).toInt = (4 : Int32).toInt := congrArg Int32.toInt c_1029
                    have c_1032 : M1022.2.1 77 9 = v766 := (W_n W1021 (by decide) (W_n W1014 (by decide) c_1012))
                    have t_1033 : (M1022.2.1 77 9).toInt = v766.toInt := congrArg Int32.toInt c_1032
                    have c_1034 : M1022.2.1 77 10 = (N.2.1 77 7) := (W_n W1021 (by decide) (W_n W1014 (by decide) (W_n W1008 (by decide) (W_e W408))))
                    have t_1035 : (M1022.2.1 77 10).toInt = (N.2.1 77 7).toInt := congrArg Int32.toInt c_1034
                    have z_1036 := (x_ts (t := t) (n := nn) (a := (N.2.1 77 7).toInt) (by omega) (by omega) (by omega)).2.2
                    have z_1037 := x_nx_b (t := t) (n := nn) (a := (N.2.1 77 7).toInt) (by omega) (by omega)
                    have z_1038 := x_R_s (t := t) (n := nn) (a := (N.2.1 77 7).toInt) (v := v766.toInt) (by omega) (by omega) (by omega)
                    have z_1039 := z_412
                    exact h M1022 hG1023 F1024 (by omega) (by omega) (by omega) (RS_m (a := (N.2.1 77 7).toInt) (kd := (4 : Int32).toInt) (wh := v766.toInt) (by omega) (by omega) (by omega) (by omega) (by omega) (by omega) (by omega) (by omega) z_1038)
                  · refine to_an (pc := 299) rw_156_299 rfl (tt_gI (pc := 300) rw_156_300 (g_o hG1010 rfl) (v := v766) c_1012 (to_c (pc := 303) rw_156_303 (x := (40 : Int32)) rfl rfl (b_ceq_f (pc := 305) rw_156_305 (A := v766.toInt) (B := 40) rfl rfl (by omega) (to_an (pc := 308) rw_156_308 rfl (tt_gI (pc := 309) rw_156_309 (g_o hG1010 rfl) (v := v766) c_1012 (to_c (pc := 312) rw_156_312 (x := (41 : Int32)) rfl rfl (b_ceq_f (pc := 314) rw_156_314 (A := v766.toInt) (B := 41) rfl rfl (by omega) (to_an (pc := 317) rw_156_317 rfl (tt_gI (pc := 318) rw_156_318 (g_o hG1010 rfl) (v := v766) c_1012 (to_c (pc := 321) rw_156_321 (x := (61 : Int32)) rfl rfl (b_cne (pc := 323) rw_156_323 (A := v766.toInt) (B := 61) rfl rfl (fun h1040 => ?_) (fun h1040 => ?_))))))))))))
                    · refine to_c (pc := 330) rw_156_330 (x := (5 : Int32)) rfl rfl (s_pI (pc := 331) rw_156_331 hG1010 rfl (fun M1042 W1041 => ?_))
                      have hG1043 := g_w hG1010 W1041 (A := 5) rfl (lo := 0) (hi := 5) rfl rfl (by omega) (by decide)
                      have F1044 := FR.w F1011 W1041 (show 77 = 77 ∧ 7 ≤ 8 ∧ 8 ≤ 10 by decide)
                      refine to_an (pc := 334) rw_156_334 rfl (to_dupr (pc := 335) rw_156_335 ?_)
                      have c_1045 : M1042.2.1 77 7 = (N.2.1 77 7) := (W_n W1041 (by decide) (W_n W1008 (by decide) c_413))
                      refine tt_gI (pc := 336) rw_156_336 (g_o hG1043 rfl) (v := (N.2.1 77 7)) c_1045 (to_c (pc := 339) rw_156_339 (x := (1 : Int32)) rfl rfl (s_add (pc := 340) rw_156_340 (A := (N.2.1 77 7).toInt) (B := 1) rfl rfl (by omega) (fun v1046 e1047 => s_pI (pc := 341) rw_156_341 hG1043 rfl (fun M1049 W1048 => ?_))))
                      have hG1050 := g_w hG1043 W1048 (A := v1046.toInt) rfl (lo := 0) (hi := 500) rfl rfl (by omega) (by decide)
                      have F1051 := FR.w F1044 W1048 (show 77 = 77 ∧ 7 ≤ 7 ∧ 7 ≤ 10 by decide)
                      refine to_rv (pc := 344) rw_156_344 ?_
                      have c_1052 : M1049.2.1 77 7 = v1046 := (W_e W1048)
                      have t_1053 : (M1049.2.1 77 7).toInt = v1046.toInt := congrArg Int32.toInt c_1052
                      have c_1054 : M1049.2.1 77 6 = (N.2.1 77 6) := (W_n W1048 (by decide) (W_n W1041 (by decide) (W_n W1008 (by decide) c_415)))
                      have t_1055 : (M1049.2.1 77 6).toInt = (N.2.1 77 6).toInt := congrArg Int32.toInt c_1054
                      have c_1056 : M1049.2.1 77 8 = (5 : Int32) := (W_n W1048 (by decide) (W_e W1041))
                      have k_1057 : (5 : Int32).toInt = 5 := rfl
                      have t_1058 : (M1049.2.1 77 8).toInt = (5 : Int32).toInt := congrArg Int32.toInt c_1056
                      have c_1059 : M1049.2.1 77 9 = v766 := (W_n W1048 (by decide) (W_n W1041 (by decide) c_1012))
                      have t_1060 : (M1049.2.1 77 9).toInt = v766.toInt := congrArg Int32.toInt c_1059
                      have c_1061 : M1049.2.1 77 10 = (N.2.1 77 7) := (W_n W1048 (by decide) (W_n W1041 (by decide) (W_n W1008 (by decide) (W_e W408))))
                      have t_1062 : (M1049.2.1 77 10).toInt = (N.2.1 77 7).toInt := congrArg Int32.toInt c_1061
                      have z_1063 := (x_ts (t := t) (n := nn) (a := (N.2.1 77 7).toInt) (by omega) (by omega) (by omega)).2.2
                      have z_1064 := x_nx_b (t := t) (n := nn) (a := (N.2.1 77 7).toInt) (by omega) (by omega)
                      have z_1065 := x_R_b (t := t) (n := nn) (a := (N.2.1 77 7).toInt) (w := v766.toInt) (by omega) (by omega) (by omega) (by omega)
                      have z_1066 := z_412
                      exact h M1049 hG1050 F1051 (by omega) (by omega) (by omega) (RS_m (a := (N.2.1 77 7).toInt) (kd := (5 : Int32).toInt) (wh := v766.toInt) (by omega) (by omega) (by omega) (by omega) (by omega) (by omega) (by omega) (by omega) z_1065)
                    · refine to_c (pc := 326) rw_156_326 (x := (4 : Int32)) rfl rfl (to_go (pc := 327) rw_156_327 (s_pI (pc := 331) rw_156_331 hG1010 rfl (fun M1068 W1067 => ?_)))
                      have hG1069 := g_w hG1010 W1067 (A := 4) rfl (lo := 0) (hi := 5) rfl rfl (by omega) (by decide)
                      have F1070 := FR.w F1011 W1067 (show 77 = 77 ∧ 7 ≤ 8 ∧ 8 ≤ 10 by decide)
                      refine to_an (pc := 334) rw_156_334 rfl (to_dupr (pc := 335) rw_156_335 ?_)
                      have c_1071 : M1068.2.1 77 7 = (N.2.1 77 7) := (W_n W1067 (by decide) (W_n W1008 (by decide) c_413))
                      refine tt_gI (pc := 336) rw_156_336 (g_o hG1069 rfl) (v := (N.2.1 77 7)) c_1071 (to_c (pc := 339) rw_156_339 (x := (1 : Int32)) rfl rfl (s_add (pc := 340) rw_156_340 (A := (N.2.1 77 7).toInt) (B := 1) rfl rfl (by omega) (fun v1072 e1073 => s_pI (pc := 341) rw_156_341 hG1069 rfl (fun M1075 W1074 => ?_))))
                      have hG1076 := g_w hG1069 W1074 (A := v1072.toInt) rfl (lo := 0) (hi := 500) rfl rfl (by omega) (by decide)
                      have F1077 := FR.w F1070 W1074 (show 77 = 77 ∧ 7 ≤ 7 ∧ 7 ≤ 10 by decide)
                      refine to_rv (pc := 344) rw_156_344 ?_
                      have c_1078 : M1075.2.1 77 7 = v1072 := (W_e W1074)
                      have t_1079 : (M1075.2.1 77 7).toInt = v1072.toInt := congrArg Int32.toInt c_1078
                      have c_1080 : M1075.2.1 77 6 = (N.2.1 77 6) := (W_n W1074 (by decide) (W_n W1067 (by decide) (W_n W1008 (by decide) c_415)))
                      have t_1081 : (M1075.2.1 77 6).toInt = (N.2.1 77 6).toInt := congrArg Int32.toInt c_1080
                      have c_1082 : M1075.2.1 77 8 = (4 : Int32) := (W_n W1074 (by decide) (W_e W1067))
                      have k_1083 : (4 : Int32).toInt = 4 := rfl
                      have t_1084 : (M1075.2.1 77 8).toInt = (4 : Int32).toInt := congrArg Int32.toInt c_1082
                      have c_1085 : M1075.2.1 77 9 = v766 := (W_n W1074 (by decide) (W_n W1067 (by decide) c_1012))
                      have t_1086 : (M1075.2.1 77 9).toInt = v766.toInt := congrArg Int32.toInt c_1085
                      have c_1087 : M1075.2.1 77 10 = (N.2.1 77 7) := (W_n W1074 (by decide) (W_n W1067 (by decide) (W_n W1008 (by decide) (W_e W408))))
                      have t_1088 : (M1075.2.1 77 10).toInt = (N.2.1 77 7).toInt := congrArg Int32.toInt c_1087
                      have z_1089 := (x_ts (t := t) (n := nn) (a := (N.2.1 77 7).toInt) (by omega) (by omega) (by omega)).2.2
                      have z_1090 := x_nx_b (t := t) (n := nn) (a := (N.2.1 77 7).toInt) (by omega) (by omega)
                      have z_1091 := x_R_s (t := t) (n := nn) (a := (N.2.1 77 7).toInt) (v := v766.toInt) (by omega) (by omega) (by omega)
                      have z_1092 := z_412
                      exact h M1075 hG1076 F1077 (by omega) (by omega) (by omega) (RS_m (a := (N.2.1 77 7).toInt) (kd := (4 : Int32).toInt) (wh := v766.toInt) (by omega) (by omega) (by omega) (by omega) (by omega) (by omega) (by omega) (by omega) z_1091)
                · refine to_c (pc := 30) rw_155_30 (x := (1 : Int32)) rfl rfl (to_go (pc := 31) rw_155_31 (s_r1 (pc := 35) rw_155_35 (A := 1) rfl (by decide) (b_ieq_f (pc := 199) rw_156_199 (A := 1) rfl (by decide) (to_an (pc := 202) rw_156_202 rfl (to_c (pc := 203) rw_156_203 (x := (3 : Int32)) rfl rfl (s_pI (pc := 204) rw_156_204 hG410 rfl (fun M1094 W1093 => ?_)))))))
                  have hG1095 := g_w hG410 W1093 (A := 3) rfl (lo := 0) (hi := 5) rfl rfl (by omega) (by decide)
                  have F1096 := FR.w F411 W1093 (show 77 = 77 ∧ 7 ≤ 8 ∧ 8 ≤ 10 by decide)
                  refine to_an (pc := 207) rw_156_207 rfl (to_c (pc := 208) rw_156_208 (x := (0 : Int32)) rfl rfl (s_pI (pc := 209) rw_156_209 hG1095 rfl (fun M1098 W1097 => ?_)))
                  have hG1099 := g_wf hG1095 W1097 rfl rfl (by decide)
                  have F1100 := FR.w F1096 W1097 (show 77 = 77 ∧ 7 ≤ 9 ∧ 9 ≤ 10 by decide)
                  have c_1101 : M1098.2.1 77 7 = (N.2.1 77 7) := (W_n W1097 (by decide) (W_n W1093 (by decide) c_413))
                  have t_1102 : (M1098.2.1 77 7).toInt = (N.2.1 77 7).toInt := congrArg Int32.toInt c_1101
                  have c_1103 : M1098.2.1 77 6 = (N.2.1 77 6) := (W_n W1097 (by decide) (W_n W1093 (by decide) c_415))
                  have t_1104 : (M1098.2.1 77 6).toInt = (N.2.1 77 6).toInt := congrArg Int32.toInt c_1103
                  have c_1105 : M1098.2.1 77 10 = (N.2.1 77 7) := (W_n W1097 (by decide) (W_n W1093 (by decide) (W_e W408)))
                  have t_1106 : (M1098.2.1 77 10).toInt = (N.2.1 77 7).toInt := congrArg Int32.toInt c_1105
                  have c_1107 : M1098.2.1 77 8 = (3 : Int32) := (W_n W1097 (by decide) (W_e W1093))
                  have k_1108 : (3 : Int32).toInt = 3 := rfl
                  have t_1109 : (M1098.2.1 77 8).toInt = (3 : Int32).toInt := congrArg Int32.toInt c_1107
                  have c_1110 : M1098.2.1 77 9 = (0 : Int32) := (W_e W1097)
                  have k_1111 : (0 : Int32).toInt = 0 := rfl
                  have t_1112 : (M1098.2.1 77 9).toInt = (0 : Int32).toInt := congrArg Int32.toInt c_1110
                  have j_1113 := (TR_f (fun a i z => W_n W1097 (tg_13 a i z) rfl) (TR_f (fun a i z => W_n W1093 (tg_16 a i z) rfl) j_769))
                  have j_1114 := (W9_f (fun a i z => W_n W1097 (tg_15 a i z) rfl) (W9_f (fun a i z => W_n W1093 (tg_18 a i z) rfl) (W9_f (fun a i z => W_n W408 (tg_19 a i z) rfl) g8)))
                  exact (U_156_0 (t := t) (nn := nn) hX hd q1 q2 q3 q4 q5 q6 h ((500 - (M1098.2.1 77 7).toInt).toNat + 1)) M1098  hG1099 F1100 (by omega) (by omega) (by omega) (by omega) (by rw [show (M1098.2.1 77 10).toInt = (N.2.1 77 7).toInt by omega]; omega) (by omega) (by omega) (by omega) (by omega) (by rw [show (M1098.2.1 77 9).toInt = 0 by omega, show (M1098.2.1 77 7).toInt = (M1098.2.1 77 10).toInt by omega]; rfl) (congrArg (x_end x_dg t nn) (show (M1098.2.1 77 7).toInt = (M1098.2.1 77 10).toInt by omega)) (by omega) (by omega) (by omega) j_1113 j_1114 (by omega)
          · refine to_an (pc := 19) rw_154_19 rfl (s_gR (pc := 20) rw_154_20 hG410 rfl (v := 78) rfl (to_in (pc := 23) rw_154_23 rfl (s_ialk (pc := 24) rw_154_24 hG410 rfl (n := 500) rfl rfl (A := (N.2.1 77 7).toInt) rfl (by omega) (by omega) (v := v766) w_767 (to_c (pc := 25) rw_154_25 (x := (122 : Int32)) rfl rfl (b_cgt (pc := 27) rw_154_27 (A := v766.toInt) (B := 122) rfl rfl (fun h1117 => ?_) (fun h1117 => ?_))))))
            · refine to_c (pc := 34) rw_154_34 (x := (0 : Int32)) rfl rfl (s_r1 (pc := 35) rw_154_35 (A := 0) rfl (by decide) (b_ieq_t (pc := 87) rw_156_87 (A := 0) rfl (by decide) (to_an (pc := 191) rw_156_191 rfl (to_an (pc := 192) rw_156_192 rfl (tt_gI (pc := 193) rw_156_193 (g_o hG410 rfl) (v := (N.2.1 77 7)) c_413 (s_v (pc := 196) rw_156_196 (dp0 hd (by decide)) (ls0 := [.ref 77, .int (N.2.1 77 7)]) rfl (Nat.le_of_ble_eq_true rfl) (Nat.le_of_ble_eq_true rfl) rfl (to_rc rfl rfl rfl (g_o hG410 rfl)) rfl (to_in (pc := 0) rw_155_0 rfl (to_an (pc := 1) rw_155_1 rfl (tt_gI (pc := 2) rw_155_2 (g_o hG410 rfl) (v := (N.2.1 77 6)) c_415 (b_cge (pc := 5) rw_155_5 (A := (N.2.1 77 7).toInt) (B := (N.2.1 77 6).toInt) rfl rfl (fun h1118 => ?_) (fun h1118 => ?_)))))))))))
              · refine to_c (pc := 34) rw_155_34 (x := (0 : Int32)) rfl rfl (s_r1 (pc := 35) rw_155_35 (A := 0) rfl (by decide) (b_ieq_t (pc := 199) rw_156_199 (A := 0) rfl (by decide) (to_an (pc := 276) rw_156_276 rfl (to_an (pc := 277) rw_156_277 rfl (s_gR (pc := 278) rw_156_278 hG410 rfl (v := 78) rfl (to_an (pc := 281) rw_156_281 rfl (tt_gI (pc := 282) rw_156_282 (g_o hG410 rfl) (v := (N.2.1 77 7)) c_413 (s_ialk (pc := 285) rw_156_285 hG410 rfl (n := 500) rfl rfl (A := (N.2.1 77 7).toInt) rfl (by omega) (by omega) (v := v766) w_767 (s_pI (pc := 286) rw_156_286 hG410 rfl (fun M1122 W1121 => ?_))))))))))
                have hG1123 := g_wf hG410 W1121 rfl rfl (by decide)
                have F1124 := FR.w F411 W1121 (show 77 = 77 ∧ 7 ≤ 9 ∧ 9 ≤ 10 by decide)
                refine to_an (pc := 289) rw_156_289 rfl (to_an (pc := 290) rw_156_290 rfl ?_)
                have c_1125 : M1122.2.1 77 9 = v766 := (W_e W1121)
                refine tt_gI (pc := 291) rw_156_291 (g_o hG1123 rfl) (v := v766) c_1125 (to_c (pc := 294) rw_156_294 (x := (59 : Int32)) rfl rfl (b_ceq_f (pc := 296) rw_156_296 (A := v766.toInt) (B := 59) rfl rfl (by omega) (to_an (pc := 299) rw_156_299 rfl (tt_gI (pc := 300) rw_156_300 (g_o hG1123 rfl) (v := v766) c_1125 (to_c (pc := 303) rw_156_303 (x := (40 : Int32)) rfl rfl (b_ceq_f (pc := 305) rw_156_305 (A := v766.toInt) (B := 40) rfl rfl (by omega) (to_an (pc := 308) rw_156_308 rfl (tt_gI (pc := 309) rw_156_309 (g_o hG1123 rfl) (v := v766) c_1125 (to_c (pc := 312) rw_156_312 (x := (41 : Int32)) rfl rfl (b_ceq_f (pc := 314) rw_156_314 (A := v766.toInt) (B := 41) rfl rfl (by omega) (to_an (pc := 317) rw_156_317 rfl ?_)))))))))))
                refine tt_gI (pc := 318) rw_156_318 (g_o hG1123 rfl) (v := v766) c_1125 (to_c (pc := 321) rw_156_321 (x := (61 : Int32)) rfl rfl (b_cne_t (pc := 323) rw_156_323 (A := v766.toInt) (B := 61) rfl rfl (by omega) (to_c (pc := 330) rw_156_330 (x := (5 : Int32)) rfl rfl (s_pI (pc := 331) rw_156_331 hG1123 rfl (fun M1127 W1126 => ?_)))))
                have hG1128 := g_w hG1123 W1126 (A := 5) rfl (lo := 0) (hi := 5) rfl rfl (by omega) (by decide)
                have F1129 := FR.w F1124 W1126 (show 77 = 77 ∧ 7 ≤ 8 ∧ 8 ≤ 10 by decide)
                refine to_an (pc := 334) rw_156_334 rfl (to_dupr (pc := 335) rw_156_335 ?_)
                have c_1130 : M1127.2.1 77 7 = (N.2.1 77 7) := (W_n W1126 (by decide) (W_n W1121 (by decide) c_413))
                refine tt_gI (pc := 336) rw_156_336 (g_o hG1128 rfl) (v := (N.2.1 77 7)) c_1130 (to_c (pc := 339) rw_156_339 (x := (1 : Int32)) rfl rfl (s_add (pc := 340) rw_156_340 (A := (N.2.1 77 7).toInt) (B := 1) rfl rfl (by omega) (fun v1131 e1132 => s_pI (pc := 341) rw_156_341 hG1128 rfl (fun M1134 W1133 => ?_))))
                have hG1135 := g_w hG1128 W1133 (A := v1131.toInt) rfl (lo := 0) (hi := 500) rfl rfl (by omega) (by decide)
                have F1136 := FR.w F1129 W1133 (show 77 = 77 ∧ 7 ≤ 7 ∧ 7 ≤ 10 by decide)
                refine to_rv (pc := 344) rw_156_344 ?_
                have c_1137 : M1134.2.1 77 7 = v1131 := (W_e W1133)
                have t_1138 : (M1134.2.1 77 7).toInt = v1131.toInt := congrArg Int32.toInt c_1137
                have c_1139 : M1134.2.1 77 6 = (N.2.1 77 6) := (W_n W1133 (by decide) (W_n W1126 (by decide) (W_n W1121 (by decide) c_415)))
                have t_1140 : (M1134.2.1 77 6).toInt = (N.2.1 77 6).toInt := congrArg Int32.toInt c_1139
                have c_1141 : M1134.2.1 77 8 = (5 : Int32) := (W_n W1133 (by decide) (W_e W1126))
                have k_1142 : (5 : Int32).toInt = 5 := rfl
                have t_1143 : (M1134.2.1 77 8).toInt = (5 : Int32).toInt := congrArg Int32.toInt c_1141
                have c_1144 : M1134.2.1 77 9 = v766 := (W_n W1133 (by decide) (W_n W1126 (by decide) c_1125))
                have t_1145 : (M1134.2.1 77 9).toInt = v766.toInt := congrArg Int32.toInt c_1144
                have c_1146 : M1134.2.1 77 10 = (N.2.1 77 7) := (W_n W1133 (by decide) (W_n W1126 (by decide) (W_n W1121 (by decide) (W_e W408))))
                have t_1147 : (M1134.2.1 77 10).toInt = (N.2.1 77 7).toInt := congrArg Int32.toInt c_1146
                have z_1148 := (x_ts (t := t) (n := nn) (a := (N.2.1 77 7).toInt) (by omega) (by omega) (by omega)).2.2
                have z_1149 := x_nx_b (t := t) (n := nn) (a := (N.2.1 77 7).toInt) (by omega) (by omega)
                have z_1150 := x_R_b (t := t) (n := nn) (a := (N.2.1 77 7).toInt) (w := v766.toInt) (by omega) (by omega) (by omega) (by omega)
                have z_1151 := z_412
                exact h M1134 hG1135 F1136 (by omega) (by omega) (by omega) (RS_m (a := (N.2.1 77 7).toInt) (kd := (5 : Int32).toInt) (wh := v766.toInt) (by omega) (by omega) (by omega) (by omega) (by omega) (by omega) (by omega) (by omega) z_1150)
              · refine to_an (pc := 8) rw_155_8 rfl (s_gR (pc := 9) rw_155_9 hG410 rfl (v := 78) rfl (to_in (pc := 12) rw_155_12 rfl (s_ialk (pc := 13) rw_155_13 hG410 rfl (n := 500) rfl rfl (A := (N.2.1 77 7).toInt) rfl (by omega) (by omega) (v := v766) w_767 (to_c (pc := 14) rw_155_14 (x := (48 : Int32)) rfl rfl (b_clt_f (pc := 16) rw_155_16 (A := v766.toInt) (B := 48) rfl rfl (by omega) (to_an (pc := 19) rw_155_19 rfl (s_gR (pc := 20) rw_155_20 hG410 rfl (v := 78) rfl (to_in (pc := 23) rw_155_23 rfl (s_ialk (pc := 24) rw_155_24 hG410 rfl (n := 500) rfl rfl (A := (N.2.1 77 7).toInt) rfl (by omega) (by omega) (v := v766) w_767 (to_c (pc := 25) rw_155_25 (x := (57 : Int32)) rfl rfl (b_cgt_t (pc := 27) rw_155_27 (A := v766.toInt) (B := 57) rfl rfl (by omega) ?_)))))))))))
                refine to_c (pc := 34) rw_155_34 (x := (0 : Int32)) rfl rfl (s_r1 (pc := 35) rw_155_35 (A := 0) rfl (by decide) (b_ieq_t (pc := 199) rw_156_199 (A := 0) rfl (by decide) (to_an (pc := 276) rw_156_276 rfl (to_an (pc := 277) rw_156_277 rfl (s_gR (pc := 278) rw_156_278 hG410 rfl (v := 78) rfl (to_an (pc := 281) rw_156_281 rfl (tt_gI (pc := 282) rw_156_282 (g_o hG410 rfl) (v := (N.2.1 77 7)) c_413 (s_ialk (pc := 285) rw_156_285 hG410 rfl (n := 500) rfl rfl (A := (N.2.1 77 7).toInt) rfl (by omega) (by omega) (v := v766) w_767 (s_pI (pc := 286) rw_156_286 hG410 rfl (fun M1159 W1158 => ?_))))))))))
                have hG1160 := g_wf hG410 W1158 rfl rfl (by decide)
                have F1161 := FR.w F411 W1158 (show 77 = 77 ∧ 7 ≤ 9 ∧ 9 ≤ 10 by decide)
                refine to_an (pc := 289) rw_156_289 rfl (to_an (pc := 290) rw_156_290 rfl ?_)
                have c_1162 : M1159.2.1 77 9 = v766 := (W_e W1158)
                refine tt_gI (pc := 291) rw_156_291 (g_o hG1160 rfl) (v := v766) c_1162 (to_c (pc := 294) rw_156_294 (x := (59 : Int32)) rfl rfl (b_ceq_f (pc := 296) rw_156_296 (A := v766.toInt) (B := 59) rfl rfl (by omega) (to_an (pc := 299) rw_156_299 rfl (tt_gI (pc := 300) rw_156_300 (g_o hG1160 rfl) (v := v766) c_1162 (to_c (pc := 303) rw_156_303 (x := (40 : Int32)) rfl rfl (b_ceq_f (pc := 305) rw_156_305 (A := v766.toInt) (B := 40) rfl rfl (by omega) (to_an (pc := 308) rw_156_308 rfl (tt_gI (pc := 309) rw_156_309 (g_o hG1160 rfl) (v := v766) c_1162 (to_c (pc := 312) rw_156_312 (x := (41 : Int32)) rfl rfl (b_ceq_f (pc := 314) rw_156_314 (A := v766.toInt) (B := 41) rfl rfl (by omega) (to_an (pc := 317) rw_156_317 rfl ?_)))))))))))
                refine tt_gI (pc := 318) rw_156_318 (g_o hG1160 rfl) (v := v766) c_1162 (to_c (pc := 321) rw_156_321 (x := (61 : Int32)) rfl rfl (b_cne_t (pc := 323) rw_156_323 (A := v766.toInt) (B := 61) rfl rfl (by omega) (to_c (pc := 330) rw_156_330 (x := (5 : Int32)) rfl rfl (s_pI (pc := 331) rw_156_331 hG1160 rfl (fun M1164 W1163 => ?_)))))
                have hG1165 := g_w hG1160 W1163 (A := 5) rfl (lo := 0) (hi := 5) rfl rfl (by omega) (by decide)
                have F1166 := FR.w F1161 W1163 (show 77 = 77 ∧ 7 ≤ 8 ∧ 8 ≤ 10 by decide)
                refine to_an (pc := 334) rw_156_334 rfl (to_dupr (pc := 335) rw_156_335 ?_)
                have c_1167 : M1164.2.1 77 7 = (N.2.1 77 7) := (W_n W1163 (by decide) (W_n W1158 (by decide) c_413))
                refine tt_gI (pc := 336) rw_156_336 (g_o hG1165 rfl) (v := (N.2.1 77 7)) c_1167 (to_c (pc := 339) rw_156_339 (x := (1 : Int32)) rfl rfl (s_add (pc := 340) rw_156_340 (A := (N.2.1 77 7).toInt) (B := 1) rfl rfl (by omega) (fun v1168 e1169 => s_pI (pc := 341) rw_156_341 hG1165 rfl (fun M1171 W1170 => ?_))))
                have hG1172 := g_w hG1165 W1170 (A := v1168.toInt) rfl (lo := 0) (hi := 500) rfl rfl (by omega) (by decide)
                have F1173 := FR.w F1166 W1170 (show 77 = 77 ∧ 7 ≤ 7 ∧ 7 ≤ 10 by decide)
                refine to_rv (pc := 344) rw_156_344 ?_
                have c_1174 : M1171.2.1 77 7 = v1168 := (W_e W1170)
                have t_1175 : (M1171.2.1 77 7).toInt = v1168.toInt := congrArg Int32.toInt c_1174
                have c_1176 : M1171.2.1 77 6 = (N.2.1 77 6) := (W_n W1170 (by decide) (W_n W1163 (by decide) (W_n W1158 (by decide) c_415)))
                have t_1177 : (M1171.2.1 77 6).toInt = (N.2.1 77 6).toInt := congrArg Int32.toInt c_1176
                have c_1178 : M1171.2.1 77 8 = (5 : Int32) := (W_n W1170 (by decide) (W_e W1163))
                have k_1179 : (5 : Int32).toInt = 5 := rfl
                have t_1180 : (M1171.2.1 77 8).toInt = (5 : Int32).toInt := congrArg Int32.toInt c_1178
                have c_1181 : M1171.2.1 77 9 = v766 := (W_n W1170 (by decide) (W_n W1163 (by decide) c_1162))
                have t_1182 : (M1171.2.1 77 9).toInt = v766.toInt := congrArg Int32.toInt c_1181
                have c_1183 : M1171.2.1 77 10 = (N.2.1 77 7) := (W_n W1170 (by decide) (W_n W1163 (by decide) (W_n W1158 (by decide) (W_e W408))))
                have t_1184 : (M1171.2.1 77 10).toInt = (N.2.1 77 7).toInt := congrArg Int32.toInt c_1183
                have z_1185 := (x_ts (t := t) (n := nn) (a := (N.2.1 77 7).toInt) (by omega) (by omega) (by omega)).2.2
                have z_1186 := x_nx_b (t := t) (n := nn) (a := (N.2.1 77 7).toInt) (by omega) (by omega)
                have z_1187 := x_R_b (t := t) (n := nn) (a := (N.2.1 77 7).toInt) (w := v766.toInt) (by omega) (by omega) (by omega) (by omega)
                have z_1188 := z_412
                exact h M1171 hG1172 F1173 (by omega) (by omega) (by omega) (RS_m (a := (N.2.1 77 7).toInt) (kd := (5 : Int32).toInt) (wh := v766.toInt) (by omega) (by omega) (by omega) (by omega) (by omega) (by omega) (by omega) (by omega) z_1187)
            · refine to_c (pc := 30) rw_154_30 (x := (1 : Int32)) rfl rfl (to_go (pc := 31) rw_154_31 (s_r1 (pc := 35) rw_154_35 (A := 1) rfl (by decide) (b_ieq_f (pc := 87) rw_156_87 (A := 1) rfl (by decide) ?_)))
              have t_1189 : (M409.2.1 77 6).toInt = (N.2.1 77 6).toInt := congrArg Int32.toInt c_415
              have c_1190 : M409.2.1 77 10 = (N.2.1 77 7) := (W_e W408)
              have t_1191 : (M409.2.1 77 10).toInt = (N.2.1 77 7).toInt := congrArg Int32.toInt c_1190
              have j_1192 := (W9_f (fun a i z => W_n W408 (tg_19 a i z) rfl) g8)
              exact (U_156_1 (t := t) (nn := nn) hX hd q1 q2 q3 q4 q5 q6 h ((500 - (M409.2.1 77 7).toInt).toNat + 1)) M409  hG410 F411 (by omega) (by omega) (by omega) (by omega) (by rw [show (M409.2.1 77 10).toInt = (N.2.1 77 7).toInt by omega]; omega) (by omega) (congrArg (x_e t nn) (show (M409.2.1 77 7).toInt = (M409.2.1 77 10).toInt by omega)) (fun i hi => by exfalso; omega) (by omega) (by omega) (by omega) j_769 j_1192 (by omega)
      · refine to_an (pc := 71) rw_156_71 rfl (to_c (pc := 72) rw_156_72 (x := (0 : Int32)) rfl rfl (s_pI (pc := 73) rw_156_73 hG410 rfl (fun M1194 W1193 => ?_)))
        have hG1195 := g_w hG410 W1193 (A := 0) rfl (lo := 0) (hi := 5) rfl rfl (by omega) (by decide)
        have F1196 := FR.w F411 W1193 (show 77 = 77 ∧ 7 ≤ 8 ∧ 8 ≤ 10 by decide)
        refine to_go (pc := 76) rw_156_76 (to_rv (pc := 344) rw_156_344 ?_)
        have c_1197 : M1194.2.1 77 7 = (N.2.1 77 7) := (W_n W1193 (by decide) c_413)
        have t_1198 : (M1194.2.1 77 7).toInt = (N.2.1 77 7).toInt := congrArg Int32.toInt c_1197
        have c_1199 : M1194.2.1 77 6 = (N.2.1 77 6) := (W_n W1193 (by decide) c_415)
        have t_1200 : (M1194.2.1 77 6).toInt = (N.2.1 77 6).toInt := congrArg Int32.toInt c_1199
        have c_1201 : M1194.2.1 77 8 = (0 : Int32) := (W_e W1193)
        have k_1202 : (0 : Int32).toInt = 0 := rfl
        have t_1203 : (M1194.2.1 77 8).toInt = (0 : Int32).toInt := congrArg Int32.toInt c_1201
        have c_1204 : M1194.2.1 77 9 = (N.2.1 77 9) := (W_n W1193 (by decide) (W_n W408 (by decide) rfl))
        have t_1205 : (M1194.2.1 77 9).toInt = (N.2.1 77 9).toInt := congrArg Int32.toInt c_1204
        have c_1206 : M1194.2.1 77 10 = (N.2.1 77 7) := (W_n W1193 (by decide) (W_e W408))
        have t_1207 : (M1194.2.1 77 10).toInt = (N.2.1 77 7).toInt := congrArg Int32.toInt c_1206
        have z_1208 := (x_t0 (t := t) (n := nn) (a := (N.2.1 77 7).toInt) (by omega)).2
        have z_1209 := x_nx_b (t := t) (n := nn) (a := (N.2.1 77 7).toInt) (by omega) (by omega)
        have z_1210 := x_R_0 (t := t) (n := nn) (a := (N.2.1 77 7).toInt) (w := (N.2.1 77 9).toInt) (by omega)
        have z_1211 := z_412
        exact h M1194 hG1195 F1196 (by omega) (by omega) (by omega) (RS_m (a := (N.2.1 77 7).toInt) (kd := (0 : Int32).toInt) (wh := (N.2.1 77 9).toInt) (by omega) (by omega) (by omega) (by omega) (by omega) (by omega) (by omega) (by omega) z_1210)
    · refine to_an (pc := 11) rw_156_11 rfl (s_gR (pc := 12) rw_156_12 hG rfl (v := 78) rfl (to_an (pc := 15) rw_156_15 rfl (tt_gI (pc := 16) rw_156_16 (g_o hG rfl) (v := (N.2.1 77 7)) rfl (s_ial (pc := 19) rw_156_19 hG rfl (n := 500) rfl rfl (A := (N.2.1 77 7).toInt) rfl (by omega) (by omega) (lo := 0) (hi := 255) rfl rfl (fun v1212 w_1213 _ _ => ?_)))))
      have z_1214 := TR_u g7 (A := (N.2.1 77 7).toInt) (B := (N.2.1 77 7).toInt) (by omega) (by omega) w_1213 rfl
      refine to_c (pc := 20) rw_156_20 (x := (10 : Int32)) rfl rfl (b_ceq (pc := 22) rw_156_22 (A := v1212.toInt) (B := 10) rfl rfl (fun h1215 => ?_) (fun h1215 => ?_))
      · refine to_an (pc := 39) rw_156_39 rfl (to_dupr (pc := 40) rw_156_40 (tt_gI (pc := 41) rw_156_41 (g_o hG rfl) (v := (N.2.1 77 7)) rfl (to_c (pc := 44) rw_156_44 (x := (1 : Int32)) rfl rfl (s_add (pc := 45) rw_156_45 (A := (N.2.1 77 7).toInt) (B := 1) rfl rfl (by omega) (fun v1216 e1217 => s_pI (pc := 46) rw_156_46 hG rfl (fun M1219 W1218 => ?_))))))
        have hG1220 := g_w hG W1218 (A := v1216.toInt) rfl (lo := 0) (hi := 500) rfl rfl (by omega) (by decide)
        have F1221 := FR.w F0 W1218 (show 77 = 77 ∧ 7 ≤ 7 ∧ 7 ≤ 10 by decide)
        refine to_go (pc := 49) rw_156_49 ?_
        have c_1222 : M1219.2.1 77 7 = v1216 := (W_e W1218)
        have t_1223 : (M1219.2.1 77 7).toInt = v1216.toInt := congrArg Int32.toInt c_1222
        have c_1224 : M1219.2.1 77 6 = (N.2.1 77 6) := (W_n W1218 (by decide) rfl)
        have t_1225 : (M1219.2.1 77 6).toInt = (N.2.1 77 6).toInt := congrArg Int32.toInt c_1224
        have j_1226 := (TR_f (fun a i z => W_n W1218 (tg_12 a i z) rfl) g7)
        have j_1227 := (W9_f (fun a i z => W_n W1218 (tg_14 a i z) rfl) g8)
        exact ih M1219  hG1220 F1221 (by omega) (by omega) (x_sk_e (x := (N.2.1 77 7).toInt) (by omega) (by omega) (by omega) (by omega) g3) (by omega) (by omega) (by omega) j_1226 j_1227 (by omega)
      · refine to_an (pc := 25) rw_156_25 rfl (s_gR (pc := 26) rw_156_26 hG rfl (v := 78) rfl (to_an (pc := 29) rw_156_29 rfl (tt_gI (pc := 30) rw_156_30 (g_o hG rfl) (v := (N.2.1 77 7)) rfl (s_ialk (pc := 33) rw_156_33 hG rfl (n := 500) rfl rfl (A := (N.2.1 77 7).toInt) rfl (by omega) (by omega) (v := v1212) w_1213 (to_c (pc := 34) rw_156_34 (x := (32 : Int32)) rfl rfl (b_cne (pc := 36) rw_156_36 (A := v1212.toInt) (B := 32) rfl rfl (fun h1230 => ?_) (fun h1230 => ?_)))))))
        · refine to_an (pc := 52) rw_156_52 rfl (to_an (pc := 53) rw_156_53 rfl (tt_gI (pc := 54) rw_156_54 (g_o hG rfl) (v := (N.2.1 77 7)) rfl (s_pI (pc := 57) rw_156_57 hG rfl (fun M1232 W1231 => ?_))))
          have hG1233 := g_w hG W1231 (A := (N.2.1 77 7).toInt) rfl (lo := 0) (hi := 500) rfl rfl (by omega) (by decide)
          have F1234 := FR.w F0 W1231 (show 77 = 77 ∧ 7 ≤ 10 ∧ 10 ≤ 10 by decide)
          have c_1236 : M1232.2.1 77 7 = (N.2.1 77 7) := (W_n W1231 (by decide) rfl)
          have t_1237 : (M1232.2.1 77 7).toInt = (N.2.1 77 7).toInt := congrArg Int32.toInt c_1236
          have z_1235 := x_sk_x (t := t) (nn := nn) (x := (N.2.1 77 7).toInt) (by omega) (by omega) g3
          refine to_an (pc := 60) rw_156_60 rfl (tt_gI (pc := 61) rw_156_61 (g_o hG1233 rfl) (v := (N.2.1 77 7)) c_1236 (to_an (pc := 64) rw_156_64 rfl ?_))
          have c_1238 : M1232.2.1 77 6 = (N.2.1 77 6) := (W_n W1231 (by decide) rfl)
          refine tt_gI (pc := 65) rw_156_65 (g_o hG1233 rfl) (v := (N.2.1 77 6)) c_1238 (b_cne (pc := 68) rw_156_68 (A := (N.2.1 77 7).toInt) (B := (N.2.1 77 6).toInt) rfl rfl (fun h1239 => ?_) (fun h1239 => ?_))
          · refine to_an (pc := 79) rw_156_79 rfl (to_an (pc := 80) rw_156_80 rfl (tt_gI (pc := 81) rw_156_81 (g_o hG1233 rfl) (v := (N.2.1 77 7)) c_1236 (s_v (pc := 84) rw_156_84 (dp0 hd (by decide)) (ls0 := [.ref 77, .int (N.2.1 77 7)]) rfl (Nat.le_of_ble_eq_true rfl) (Nat.le_of_ble_eq_true rfl) rfl (to_rc rfl rfl rfl (g_o hG1233 rfl)) rfl (to_in (pc := 0) rw_154_0 rfl (to_an (pc := 1) rw_154_1 rfl (tt_gI (pc := 2) rw_154_2 (g_o hG1233 rfl) (v := (N.2.1 77 6)) c_1238 (b_cge (pc := 5) rw_154_5 (A := (N.2.1 77 7).toInt) (B := (N.2.1 77 6).toInt) rfl rfl (fun h1240 => ?_) (fun h1240 => ?_))))))))
            · refine to_c (pc := 34) rw_154_34 (x := (0 : Int32)) rfl rfl (s_r1 (pc := 35) rw_154_35 (A := 0) rfl (by decide) (b_ieq_t (pc := 87) rw_156_87 (A := 0) rfl (by decide) (to_an (pc := 191) rw_156_191 rfl (to_an (pc := 192) rw_156_192 rfl (tt_gI (pc := 193) rw_156_193 (g_o hG1233 rfl) (v := (N.2.1 77 7)) c_1236 (s_v (pc := 196) rw_156_196 (dp0 hd (by decide)) (ls0 := [.ref 77, .int (N.2.1 77 7)]) rfl (Nat.le_of_ble_eq_true rfl) (Nat.le_of_ble_eq_true rfl) rfl (to_rc rfl rfl rfl (g_o hG1233 rfl)) rfl (to_in (pc := 0) rw_155_0 rfl (to_an (pc := 1) rw_155_1 rfl (tt_gI (pc := 2) rw_155_2 (g_o hG1233 rfl) (v := (N.2.1 77 6)) c_1238 (b_cge (pc := 5) rw_155_5 (A := (N.2.1 77 7).toInt) (B := (N.2.1 77 6).toInt) rfl rfl (fun h1241 => ?_) (fun h1241 => ?_)))))))))))
              · refine to_c (pc := 34) rw_155_34 (x := (0 : Int32)) rfl rfl (s_r1 (pc := 35) rw_155_35 (A := 0) rfl (by decide) (b_ieq_t (pc := 199) rw_156_199 (A := 0) rfl (by decide) (to_an (pc := 276) rw_156_276 rfl (to_an (pc := 277) rw_156_277 rfl (s_gR (pc := 278) rw_156_278 hG1233 rfl (v := 78) rfl (to_an (pc := 281) rw_156_281 rfl (tt_gI (pc := 282) rw_156_282 (g_o hG1233 rfl) (v := (N.2.1 77 7)) c_1236 (s_ialk (pc := 285) rw_156_285 hG1233 rfl (n := 500) rfl rfl (A := (N.2.1 77 7).toInt) rfl (by omega) (by omega) (v := v1212) (W_n W1231 (by omega) w_1213) (s_pI (pc := 286) rw_156_286 hG1233 rfl (fun M1245 W1244 => ?_))))))))))
                have hG1246 := g_wf hG1233 W1244 rfl rfl (by decide)
                have F1247 := FR.w F1234 W1244 (show 77 = 77 ∧ 7 ≤ 9 ∧ 9 ≤ 10 by decide)
                refine to_an (pc := 289) rw_156_289 rfl (to_an (pc := 290) rw_156_290 rfl ?_)
                have c_1248 : M1245.2.1 77 9 = v1212 := (W_e W1244)
                refine tt_gI (pc := 291) rw_156_291 (g_o hG1246 rfl) (v := v1212) c_1248 (to_c (pc := 294) rw_156_294 (x := (59 : Int32)) rfl rfl (b_ceq (pc := 296) rw_156_296 (A := v1212.toInt) (B := 59) rfl rfl (fun h1249 => ?_) (fun h1249 => ?_)))
                · refine to_c (pc := 326) rw_156_326 (x := (4 : Int32)) rfl rfl (to_go (pc := 327) rw_156_327 (s_pI (pc := 331) rw_156_331 hG1246 rfl (fun M1251 W1250 => ?_)))
                  have hG1252 := g_w hG1246 W1250 (A := 4) rfl (lo := 0) (hi := 5) rfl rfl (by omega) (by decide)
                  have F1253 := FR.w F1247 W1250 (show 77 = 77 ∧ 7 ≤ 8 ∧ 8 ≤ 10 by decide)
                  refine to_an (pc := 334) rw_156_334 rfl (to_dupr (pc := 335) rw_156_335 ?_)
                  have c_1254 : M1251.2.1 77 7 = (N.2.1 77 7) := (W_n W1250 (by decide) (W_n W1244 (by decide) c_1236))
                  refine tt_gI (pc := 336) rw_156_336 (g_o hG1252 rfl) (v := (N.2.1 77 7)) c_1254 (to_c (pc := 339) rw_156_339 (x := (1 : Int32)) rfl rfl (s_add (pc := 340) rw_156_340 (A := (N.2.1 77 7).toInt) (B := 1) rfl rfl (by omega) (fun v1255 e1256 => s_pI (pc := 341) rw_156_341 hG1252 rfl (fun M1258 W1257 => ?_))))
                  have hG1259 := g_w hG1252 W1257 (A := v1255.toInt) rfl (lo := 0) (hi := 500) rfl rfl (by omega) (by decide)
                  have F1260 := FR.w F1253 W1257 (show 77 = 77 ∧ 7 ≤ 7 ∧ 7 ≤ 10 by decide)
                  refine to_rv (pc := 344) rw_156_344 ?_
                  have c_1261 : M1258.2.1 77 7 = v1255 := (W_e W1257)
                  have t_1262 : (M1258.2.1 77 7).toInt = v1255.toInt := congrArg Int32.toInt c_1261
                  have c_1263 : M1258.2.1 77 6 = (N.2.1 77 6) := (W_n W1257 (by decide) (W_n W1250 (by decide) (W_n W1244 (by decide) c_1238)))
                  have t_1264 : (M1258.2.1 77 6).toInt = (N.2.1 77 6).toInt := congrArg Int32.toInt c_1263
                  have c_1265 : M1258.2.1 77 8 = (4 : Int32) := (W_n W1257 (by decide) (W_e W1250))
                  have k_1266 : (4 : Int32).toInt = 4 := rfl
                  have t_1267 : (M1258.2.1 77 8).toInt = (4 : Int32).toInt := congrArg Int32.toInt c_1265
                  have c_1268 : M1258.2.1 77 9 = v1212 := (W_n W1257 (by decide) (W_n W1250 (by decide) c_1248))
                  have t_1269 : (M1258.2.1 77 9).toInt = v1212.toInt := congrArg Int32.toInt c_1268
                  have c_1270 : M1258.2.1 77 10 = (N.2.1 77 7) := (W_n W1257 (by decide) (W_n W1250 (by decide) (W_n W1244 (by decide) (W_e W1231))))
                  have t_1271 : (M1258.2.1 77 10).toInt = (N.2.1 77 7).toInt := congrArg Int32.toInt c_1270
                  have z_1272 := (x_ts (t := t) (n := nn) (a := (N.2.1 77 7).toInt) (by omega) (by omega) (by omega)).2.2
                  have z_1273 := x_nx_b (t := t) (n := nn) (a := (N.2.1 77 7).toInt) (by omega) (by omega)
                  have z_1274 := x_R_s (t := t) (n := nn) (a := (N.2.1 77 7).toInt) (v := v1212.toInt) (by omega) (by omega) (by omega)
                  have z_1275 := z_1235
                  exact h M1258 hG1259 F1260 (by omega) (by omega) (by omega) (RS_m (a := (N.2.1 77 7).toInt) (kd := (4 : Int32).toInt) (wh := v1212.toInt) (by omega) (by omega) (by omega) (by omega) (by omega) (by omega) (by omega) (by omega) z_1274)
                · refine to_an (pc := 299) rw_156_299 rfl (tt_gI (pc := 300) rw_156_300 (g_o hG1246 rfl) (v := v1212) c_1248 (to_c (pc := 303) rw_156_303 (x := (40 : Int32)) rfl rfl (b_ceq (pc := 305) rw_156_305 (A := v1212.toInt) (B := 40) rfl rfl (fun h1276 => ?_) (fun h1276 => ?_))))
                  · refine to_c (pc := 326) rw_156_326 (x := (4 : Int32)) rfl rfl (to_go (pc := 327) rw_156_327 (s_pI (pc := 331) rw_156_331 hG1246 rfl (fun M1278 W1277 => ?_)))
                    have hG1279 := g_w hG1246 W1277 (A := 4) rfl (lo := 0) (hi := 5) rfl rfl (by omega) (by decide)
                    have F1280 := FR.w F1247 W1277 (show 77 = 77 ∧ 7 ≤ 8 ∧ 8 ≤ 10 by decide)
                    refine to_an (pc := 334) rw_156_334 rfl (to_dupr (pc := 335) rw_156_335 ?_)
                    have c_1281 : M1278.2.1 77 7 = (N.2.1 77 7) := (W_n W1277 (by decide) (W_n W1244 (by decide) c_1236))
                    refine tt_gI (pc := 336) rw_156_336 (g_o hG1279 rfl) (v := (N.2.1 77 7)) c_1281 (to_c (pc := 339) rw_156_339 (x := (1 : Int32)) rfl rfl (s_add (pc := 340) rw_156_340 (A := (N.2.1 77 7).toInt) (B := 1) rfl rfl (by omega) (fun v1282 e1283 => s_pI (pc := 341) rw_156_341 hG1279 rfl (fun M1285 W1284 => ?_))))
                    have hG1286 := g_w hG1279 W1284 (A := v1282.toInt) rfl (lo := 0) (hi := 500) rfl rfl (by omega) (by decide)
                    have F1287 := FR.w F1280 W1284 (show 77 = 77 ∧ 7 ≤ 7 ∧ 7 ≤ 10 by decide)
                    refine to_rv (pc := 344) rw_156_344 ?_
                    have c_1288 : M1285.2.1 77 7 = v1282 := (W_e W1284)
                    have t_1289 : (M1285.2.1 77 7).toInt = v1282.toInt := congrArg Int32.toInt c_1288
                    have c_1290 : M1285.2.1 77 6 = (N.2.1 77 6) := (W_n W1284 (by decide) (W_n W1277 (by decide) (W_n W1244 (by decide) c_1238)))
                    have t_1291 : (M1285.2.1 77 6).toInt = (N.2.1 77 6).toInt := congrArg Int32.toInt c_1290
                    have c_1292 : M1285.2.1 77 8 = (4 : Int32) := (W_n W1284 (by decide) (W_e W1277))
                    have k_1293 : (4 : Int32).toInt = 4 := rfl
                    have t_1294 : (M1285.2.1 77 8).toInt = (4 : Int32).toInt := congrArg Int32.toInt c_1292
                    have c_1295 : M1285.2.1 77 9 = v1212 := (W_n W1284 (by decide) (W_n W1277 (by decide) c_1248))
                    have t_1296 : (M1285.2.1 77 9).toInt = v1212.toInt := congrArg Int32.toInt c_1295
                    have c_1297 : M1285.2.1 77 10 = (N.2.1 77 7) := (W_n W1284 (by decide) (W_n W1277 (by decide) (W_n W1244 (by decide) (W_e W1231))))
                    have t_1298 : (M1285.2.1 77 10).toInt = (N.2.1 77 7).toInt := congrArg Int32.toInt c_1297
                    have z_1299 := (x_ts (t := t) (n := nn) (a := (N.2.1 77 7).toInt) (by omega) (by omega) (by omega)).2.2
                    have z_1300 := x_nx_b (t := t) (n := nn) (a := (N.2.1 77 7).toInt) (by omega) (by omega)
                    have z_1301 := x_R_s (t := t) (n := nn) (a := (N.2.1 77 7).toInt) (v := v1212.toInt) (by omega) (by omega) (by omega)
                    have z_1302 := z_1235
                    exact h M1285 hG1286 F1287 (by omega) (by omega) (by omega) (RS_m (a := (N.2.1 77 7).toInt) (kd := (4 : Int32).toInt) (wh := v1212.toInt) (by omega) (by omega) (by omega) (by omega) (by omega) (by omega) (by omega) (by omega) z_1301)
                  · refine to_an (pc := 308) rw_156_308 rfl (tt_gI (pc := 309) rw_156_309 (g_o hG1246 rfl) (v := v1212) c_1248 (to_c (pc := 312) rw_156_312 (x := (41 : Int32)) rfl rfl (b_ceq (pc := 314) rw_156_314 (A := v1212.toInt) (B := 41) rfl rfl (fun h1303 => ?_) (fun h1303 => ?_))))
                    · refine to_c (pc := 326) rw_156_326 (x := (4 : Int32)) rfl rfl (to_go (pc := 327) rw_156_327 (s_pI (pc := 331) rw_156_331 hG1246 rfl (fun M1305 W1304 => ?_)))
                      have hG1306 := g_w hG1246 W1304 (A := 4) rfl (lo := 0) (hi := 5) rfl rfl (by omega) (by decide)
                      have F1307 := FR.w F1247 W1304 (show 77 = 77 ∧ 7 ≤ 8 ∧ 8 ≤ 10 by decide)
                      refine to_an (pc := 334) rw_156_334 rfl (to_dupr (pc := 335) rw_156_335 ?_)
                      have c_1308 : M1305.2.1 77 7 = (N.2.1 77 7) := (W_n W1304 (by decide) (W_n W1244 (by decide) c_1236))
                      refine tt_gI (pc := 336) rw_156_336 (g_o hG1306 rfl) (v := (N.2.1 77 7)) c_1308 (to_c (pc := 339) rw_156_339 (x := (1 : Int32)) rfl rfl (s_add (pc := 340) rw_156_340 (A := (N.2.1 77 7).toInt) (B := 1) rfl rfl (by omega) (fun v1309 e1310 => s_pI (pc := 341) rw_156_341 hG1306 rfl (fun M1312 W1311 => ?_))))
                      have hG1313 := g_w hG1306 W1311 (A := v1309.toInt) rfl (lo := 0) (hi := 500) rfl rfl (by omega) (by decide)
                      have F1314 := FR.w F1307 W1311 (show 77 = 77 ∧ 7 ≤ 7 ∧ 7 ≤ 10 by decide)
                      refine to_rv (pc := 344) rw_156_344 ?_
                      have c_1315 : M1312.2.1 77 7 = v1309 := (W_e W1311)
                      have t_1316 : (M1312.2.1 77 7).toInt = v1309.toInt := congrArg Int32.toInt c_1315
                      have c_1317 : M1312.2.1 77 6 = (N.2.1 77 6) := (W_n W1311 (by decide) (W_n W1304 (by decide) (W_n W1244 (by decide) c_1238)))
                      have t_1318 : (M1312.2.1 77 6).toInt = (N.2.1 77 6).toInt := congrArg Int32.toInt c_1317
                      have c_1319 : M1312.2.1 77 8 = (4 : Int32) := (W_n W1311 (by decide) (W_e W1304))
                      have k_1320 : (4 : Int32).toInt = 4 := rfl
                      have t_1321 : (M1312.2.1 77 8).toInt = (4 : Int32).toInt := congrArg Int32.toInt c_1319
                      have c_1322 : M1312.2.1 77 9 = v1212 := (W_n W1311 (by decide) (W_n W1304 (by decide) c_1248))
                      have t_1323 : (M1312.2.1 77 9).toInt = v1212.toInt := congrArg Int32.toInt c_1322
                      have c_1324 : M1312.2.1 77 10 = (N.2.1 77 7) := (W_n W1311 (by decide) (W_n W1304 (by decide) (W_n W1244 (by decide) (W_e W1231))))
                      have t_1325 : (M1312.2.1 77 10).toInt = (N.2.1 77 7).toInt := congrArg Int32.toInt c_1324
                      have z_1326 := (x_ts (t := t) (n := nn) (a := (N.2.1 77 7).toInt) (by omega) (by omega) (by omega)).2.2
                      have z_1327 := x_nx_b (t := t) (n := nn) (a := (N.2.1 77 7).toInt) (by omega) (by omega)
                      have z_1328 := x_R_s (t := t) (n := nn) (a := (N.2.1 77 7).toInt) (v := v1212.toInt) (by omega) (by omega) (by omega)
                      have z_1329 := z_1235
                      exact h M1312 hG1313 F1314 (by omega) (by omega) (by omega) (RS_m (a := (N.2.1 77 7).toInt) (kd := (4 : Int32).toInt) (wh := v1212.toInt) (by omega) (by omega) (by omega) (by omega) (by omega) (by omega) (by omega) (by omega) z_1328)
                    · refine to_an (pc := 317) rw_156_317 rfl (tt_gI (pc := 318) rw_156_318 (g_o hG1246 rfl) (v := v1212) c_1248 (to_c (pc := 321) rw_156_321 (x := (61 : Int32)) rfl rfl (b_cne (pc := 323) rw_156_323 (A := v1212.toInt) (B := 61) rfl rfl (fun h1330 => ?_) (fun h1330 => ?_))))
                      · refine to_c (pc := 330) rw_156_330 (x := (5 : Int32)) rfl rfl (s_pI (pc := 331) rw_156_331 hG1246 rfl (fun M1332 W1331 => ?_))
                        have hG1333 := g_w hG1246 W1331 (A := 5) rfl (lo := 0) (hi := 5) rfl rfl (by omega) (by decide)
                        have F1334 := FR.w F1247 W1331 (show 77 = 77 ∧ 7 ≤ 8 ∧ 8 ≤ 10 by decide)
                        refine to_an (pc := 334) rw_156_334 rfl (to_dupr (pc := 335) rw_156_335 ?_)
                        have c_1335 : M1332.2.1 77 7 = (N.2.1 77 7) := (W_n W1331 (by decide) (W_n W1244 (by decide) c_1236))
                        refine tt_gI (pc := 336) rw_156_336 (g_o hG1333 rfl) (v := (N.2.1 77 7)) c_1335 (to_c (pc := 339) rw_156_339 (x := (1 : Int32)) rfl rfl (s_add (pc := 340) rw_156_340 (A := (N.2.1 77 7).toInt) (B := 1) rfl rfl (by omega) (fun v1336 e1337 => s_pI (pc := 341) rw_156_341 hG1333 rfl (fun M1339 W1338 => ?_))))
                        have hG1340 := g_w hG1333 W1338 (A := v1336.toInt) rfl (lo := 0) (hi := 500) rfl rfl (by omega) (by decide)
                        have F1341 := FR.w F1334 W1338 (show 77 = 77 ∧ 7 ≤ 7 ∧ 7 ≤ 10 by decide)
                        refine to_rv (pc := 344) rw_156_344 ?_
                        have c_1342 : M1339.2.1 77 7 = v1336 := (W_e W1338)
                        have t_1343 : (M1339.2.1 77 7).toInt = v1336.toInt := congrArg Int32.toInt c_1342
                        have c_1344 : M1339.2.1 77 6 = (N.2.1 77 6) := (W_n W1338 (by decide) (W_n W1331 (by decide) (W_n W1244 (by decide) c_1238)))
                        have t_1345 : (M1339.2.1 77 6).toInt = (N.2.1 77 6).toInt := congrArg Int32.toInt c_1344
                        have c_1346 : M1339.2.1 77 8 = (5 : Int32) := (W_n W1338 (by decide) (W_e W1331))
                        have k_1347 : (5 : Int32).toInt = 5 := rfl
                        have t_1348 : (M1339.2.1 77 8).toInt = (5 : Int32).toInt := congrArg Int32.toInt c_1346
                        have c_1349 : M1339.2.1 77 9 = v1212 := (W_n W1338 (by decide) (W_n W1331 (by decide) c_1248))
                        have t_1350 : (M1339.2.1 77 9).toInt = v1212.toInt := congrArg Int32.toInt c_1349
                        have c_1351 : M1339.2.1 77 10 = (N.2.1 77 7) := (W_n W1338 (by decide) (W_n W1331 (by decide) (W_n W1244 (by decide) (W_e W1231))))
                        have t_1352 : (M1339.2.1 77 10).toInt = (N.2.1 77 7).toInt := congrArg Int32.toInt c_1351
                        have z_1353 := (x_ts (t := t) (n := nn) (a := (N.2.1 77 7).toInt) (by omega) (by omega) (by omega)).2.2
                        have z_1354 := x_nx_b (t := t) (n := nn) (a := (N.2.1 77 7).toInt) (by omega) (by omega)
                        have z_1355 := x_R_b (t := t) (n := nn) (a := (N.2.1 77 7).toInt) (w := v1212.toInt) (by omega) (by omega) (by omega) (by omega)
                        have z_1356 := z_1235
                        exact h M1339 hG1340 F1341 (by omega) (by omega) (by omega) (RS_m (a := (N.2.1 77 7).toInt) (kd := (5 : Int32).toInt) (wh := v1212.toInt) (by omega) (by omega) (by omega) (by omega) (by omega) (by omega) (by omega) (by omega) z_1355)
                      · refine to_c (pc := 326) rw_156_326 (x := (4 : Int32)) rfl rfl (to_go (pc := 327) rw_156_327 (s_pI (pc := 331) rw_156_331 hG1246 rfl (fun M1358 W1357 => ?_)))
                        have hG1359 := g_w hG1246 W1357 (A := 4) rfl (lo := 0) (hi := 5) rfl rfl (by omega) (by decide)
                        have F1360 := FR.w F1247 W1357 (show 77 = 77 ∧ 7 ≤ 8 ∧ 8 ≤ 10 by decide)
                        refine to_an (pc := 334) rw_156_334 rfl (to_dupr (pc := 335) rw_156_335 ?_)
                        have c_1361 : M1358.2.1 77 7 = (N.2.1 77 7) := (W_n W1357 (by decide) (W_n W1244 (by decide) c_1236))
                        refine tt_gI (pc := 336) rw_156_336 (g_o hG1359 rfl) (v := (N.2.1 77 7)) c_1361 (to_c (pc := 339) rw_156_339 (x := (1 : Int32)) rfl rfl (s_add (pc := 340) rw_156_340 (A := (N.2.1 77 7).toInt) (B := 1) rfl rfl (by omega) (fun v1362 e1363 => s_pI (pc := 341) rw_156_341 hG1359 rfl (fun M1365 W1364 => ?_))))
                        have hG1366 := g_w hG1359 W1364 (A := v1362.toInt) rfl (lo := 0) (hi := 500) rfl rfl (by omega) (by decide)
                        have F1367 := FR.w F1360 W1364 (show 77 = 77 ∧ 7 ≤ 7 ∧ 7 ≤ 10 by decide)
                        refine to_rv (pc := 344) rw_156_344 ?_
                        have c_1368 : M1365.2.1 77 7 = v1362 := (W_e W1364)
                        have t_1369 : (M1365.2.1 77 7).toInt = v1362.toInt := congrArg Int32.toInt c_1368
                        have c_1370 : M1365.2.1 77 6 = (N.2.1 77 6) := (W_n W1364 (by decide) (W_n W1357 (by decide) (W_n W1244 (by decide) c_1238)))
                        have t_1371 : (M1365.2.1 77 6).toInt = (N.2.1 77 6).toInt := congrArg Int32.toInt c_1370
                        have c_1372 : M1365.2.1 77 8 = (4 : Int32) := (W_n W1364 (by decide) (W_e W1357))
                        have k_1373 : (4 : Int32).toInt = 4 := rfl
                        have t_1374 : (M1365.2.1 77 8).toInt = (4 : Int32).toInt := congrArg Int32.toInt c_1372
                        have c_1375 : M1365.2.1 77 9 = v1212 := (W_n W1364 (by decide) (W_n W1357 (by decide) c_1248))
                        have t_1376 : (M1365.2.1 77 9).toInt = v1212.toInt := congrArg Int32.toInt c_1375
                        have c_1377 : M1365.2.1 77 10 = (N.2.1 77 7) := (W_n W1364 (by decide) (W_n W1357 (by decide) (W_n W1244 (by decide) (W_e W1231))))
                        have t_1378 : (M1365.2.1 77 10).toInt = (N.2.1 77 7).toInt := congrArg Int32.toInt c_1377
                        have z_1379 := (x_ts (t := t) (n := nn) (a := (N.2.1 77 7).toInt) (by omega) (by omega) (by omega)).2.2
                        have z_1380 := x_nx_b (t := t) (n := nn) (a := (N.2.1 77 7).toInt) (by omega) (by omega)
                        have z_1381 := x_R_s (t := t) (n := nn) (a := (N.2.1 77 7).toInt) (v := v1212.toInt) (by omega) (by omega) (by omega)
                        have z_1382 := z_1235
                        exact h M1365 hG1366 F1367 (by omega) (by omega) (by omega) (RS_m (a := (N.2.1 77 7).toInt) (kd := (4 : Int32).toInt) (wh := v1212.toInt) (by omega) (by omega) (by omega) (by omega) (by omega) (by omega) (by omega) (by omega) z_1381)
              · refine to_an (pc := 8) rw_155_8 rfl (s_gR (pc := 9) rw_155_9 hG1233 rfl (v := 78) rfl (to_in (pc := 12) rw_155_12 rfl (s_ialk (pc := 13) rw_155_13 hG1233 rfl (n := 500) rfl rfl (A := (N.2.1 77 7).toInt) rfl (by omega) (by omega) (v := v1212) (W_n W1231 (by omega) w_1213) (to_c (pc := 14) rw_155_14 (x := (48 : Int32)) rfl rfl (b_clt (pc := 16) rw_155_16 (A := v1212.toInt) (B := 48) rfl rfl (fun h1385 => ?_) (fun h1385 => ?_))))))
                · refine to_c (pc := 34) rw_155_34 (x := (0 : Int32)) rfl rfl (s_r1 (pc := 35) rw_155_35 (A := 0) rfl (by decide) (b_ieq_t (pc := 199) rw_156_199 (A := 0) rfl (by decide) (to_an (pc := 276) rw_156_276 rfl (to_an (pc := 277) rw_156_277 rfl (s_gR (pc := 278) rw_156_278 hG1233 rfl (v := 78) rfl (to_an (pc := 281) rw_156_281 rfl (tt_gI (pc := 282) rw_156_282 (g_o hG1233 rfl) (v := (N.2.1 77 7)) c_1236 (s_ialk (pc := 285) rw_156_285 hG1233 rfl (n := 500) rfl rfl (A := (N.2.1 77 7).toInt) rfl (by omega) (by omega) (v := v1212) (W_n W1231 (by omega) w_1213) (s_pI (pc := 286) rw_156_286 hG1233 rfl (fun M1389 W1388 => ?_))))))))))
                  have hG1390 := g_wf hG1233 W1388 rfl rfl (by decide)
                  have F1391 := FR.w F1234 W1388 (show 77 = 77 ∧ 7 ≤ 9 ∧ 9 ≤ 10 by decide)
                  refine to_an (pc := 289) rw_156_289 rfl (to_an (pc := 290) rw_156_290 rfl ?_)
                  have c_1392 : M1389.2.1 77 9 = v1212 := (W_e W1388)
                  refine tt_gI (pc := 291) rw_156_291 (g_o hG1390 rfl) (v := v1212) c_1392 (to_c (pc := 294) rw_156_294 (x := (59 : Int32)) rfl rfl (b_ceq_f (pc := 296) rw_156_296 (A := v1212.toInt) (B := 59) rfl rfl (by omega) (to_an (pc := 299) rw_156_299 rfl (tt_gI (pc := 300) rw_156_300 (g_o hG1390 rfl) (v := v1212) c_1392 (to_c (pc := 303) rw_156_303 (x := (40 : Int32)) rfl rfl (b_ceq (pc := 305) rw_156_305 (A := v1212.toInt) (B := 40) rfl rfl (fun h1393 => ?_) (fun h1393 => ?_)))))))
                  · refine to_c (pc := 326) rw_156_326 (x := (4 : Int32)) rfl rfl (to_go (pc := 327) rw_156_327 (s_pI (pc := 331) rw_156_331 hG1390 rfl (fun M1395 W1394 => ?_)))
                    have hG1396 := g_w hG1390 W1394 (A := 4) rfl (lo := 0) (hi := 5) rfl rfl (by omega) (by decide)
                    have F1397 := FR.w F1391 W1394 (show 77 = 77 ∧ 7 ≤ 8 ∧ 8 ≤ 10 by decide)
                    refine to_an (pc := 334) rw_156_334 rfl (to_dupr (pc := 335) rw_156_335 ?_)
                    have c_1398 : M1395.2.1 77 7 = (N.2.1 77 7) := (W_n W1394 (by decide) (W_n W1388 (by decide) c_1236))
                    refine tt_gI (pc := 336) rw_156_336 (g_o hG1396 rfl) (v := (N.2.1 77 7)) c_1398 (to_c (pc := 339) rw_156_339 (x := (1 : Int32)) rfl rfl (s_add (pc := 340) rw_156_340 (A := (N.2.1 77 7).toInt) (B := 1) rfl rfl (by omega) (fun v1399 e1400 => s_pI (pc := 341) rw_156_341 hG1396 rfl (fun M1402 W1401 => ?_))))
                    have hG1403 := g_w hG1396 W1401 (A := v1399.toInt) rfl (lo := 0) (hi := 500) rfl rfl (by omega) (by decide)
                    have F1404 := FR.w F1397 W1401 (show 77 = 77 ∧ 7 ≤ 7 ∧ 7 ≤ 10 by decide)
                    refine to_rv (pc := 344) rw_156_344 ?_
                    have c_1405 : M1402.2.1 77 7 = v1399 := (W_e W1401)
                    have t_1406 : (M1402.2.1 77 7).toInt = v1399.toInt := congrArg Int32.toInt c_1405
                    have c_1407 : M1402.2.1 77 6 = (N.2.1 77 6) := (W_n W1401 (by decide) (W_n W1394 (by decide) (W_n W1388 (by decide) c_1238)))
                    have t_1408 : (M1402.2.1 77 6).toInt = (N.2.1 77 6).toInt := congrArg Int32.toInt c_1407
                    have c_1409 : M1402.2.1 77 8 = (4 : Int32) := (W_n W1401 (by decide) (W_e W1394))
                    have k_1410 : (4 : Int32).toInt = 4 := rfl
                    have t_1411 : (M1402.2.1 77 8).toInt = (4 : Int32).toInt := congrArg Int32.toInt c_1409
                    have c_1412 : M1402.2.1 77 9 = v1212 := (W_n W1401 (by decide) (W_n W1394 (by decide) c_1392))
                    have t_1413 : (M1402.2.1 77 9).toInt = v1212.toInt := congrArg Int32.toInt c_1412
                    have c_1414 : M1402.2.1 77 10 = (N.2.1 77 7) := (W_n W1401 (by decide) (W_n W1394 (by decide) (W_n W1388 (by decide) (W_e W1231))))
                    have t_1415 : (M1402.2.1 77 10).toInt = (N.2.1 77 7).toInt := congrArg Int32.toInt c_1414
                    have z_1416 := (x_ts (t := t) (n := nn) (a := (N.2.1 77 7).toInt) (by omega) (by omega) (by omega)).2.2
                    have z_1417 := x_nx_b (t := t) (n := nn) (a := (N.2.1 77 7).toInt) (by omega) (by omega)
                    have z_1418 := x_R_s (t := t) (n := nn) (a := (N.2.1 77 7).toInt) (v := v1212.toInt) (by omega) (by omega) (by omega)
                    have z_1419 := z_1235
                    exact h M1402 hG1403 F1404 (by omega) (by omega) (by omega) (RS_m (a := (N.2.1 77 7).toInt) (kd := (4 : Int32).toInt) (wh := v1212.toInt) (by omega) (by omega) (by omega) (by omega) (by omega) (by omega) (by omega) (by omega) z_1418)
                  · refine to_an (pc := 308) rw_156_308 rfl (tt_gI (pc := 309) rw_156_309 (g_o hG1390 rfl) (v := v1212) c_1392 (to_c (pc := 312) rw_156_312 (x := (41 : Int32)) rfl rfl (b_ceq (pc := 314) rw_156_314 (A := v1212.toInt) (B := 41) rfl rfl (fun h1420 => ?_) (fun h1420 => ?_))))
                    · refine to_c (pc := 326) rw_156_326 (x := (4 : Int32)) rfl rfl (to_go (pc := 327) rw_156_327 (s_pI (pc := 331) rw_156_331 hG1390 rfl (fun M1422 W1421 => ?_)))
                      have hG1423 := g_w hG1390 W1421 (A := 4) rfl (lo := 0) (hi := 5) rfl rfl (by omega) (by decide)
                      have F1424 := FR.w F1391 W1421 (show 77 = 77 ∧ 7 ≤ 8 ∧ 8 ≤ 10 by decide)
                      refine to_an (pc := 334) rw_156_334 rfl (to_dupr (pc := 335) rw_156_335 ?_)
                      have c_1425 : M1422.2.1 77 7 = (N.2.1 77 7) := (W_n W1421 (by decide) (W_n W1388 (by decide) c_1236))
                      refine tt_gI (pc := 336) rw_156_336 (g_o hG1423 rfl) (v := (N.2.1 77 7)) c_1425 (to_c (pc := 339) rw_156_339 (x := (1 : Int32)) rfl rfl (s_add (pc := 340) rw_156_340 (A := (N.2.1 77 7).toInt) (B := 1) rfl rfl (by omega) (fun v1426 e1427 => s_pI (pc := 341) rw_156_341 hG1423 rfl (fun M1429 W1428 => ?_))))
                      have hG1430 := g_w hG1423 W1428 (A := v1426.toInt) rfl (lo := 0) (hi := 500) rfl rfl (by omega) (by decide)
                      have F1431 := FR.w F1424 W1428 (show 77 = 77 ∧ 7 ≤ 7 ∧ 7 ≤ 10 by decide)
                      refine to_rv (pc := 344) rw_156_344 ?_
                      have c_1432 : M1429.2.1 77 7 = v1426 := (W_e W1428)
                      have t_1433 : (M1429.2.1 77 7).toInt = v1426.toInt := congrArg Int32.toInt c_1432
                      have c_1434 : M1429.2.1 77 6 = (N.2.1 77 6) := (W_n W1428 (by decide) (W_n W1421 (by decide) (W_n W1388 (by decide) c_1238)))
                      have t_1435 : (M1429.2.1 77 6).toInt = (N.2.1 77 6).toInt := congrArg Int32.toInt c_1434
                      have c_1436 : M1429.2.1 77 8 = (4 : Int32) := (W_n W1428 (by decide) (W_e W1421))
                      have k_1437 : (4 : Int32).toInt = 4 := rfl
                      have t_1438 : (M1429.2.1 77 8).toInt = (4 : Int32).toInt := congrArg Int32.toInt c_1436
                      have c_1439 : M1429.2.1 77 9 = v1212 := (W_n W1428 (by decide) (W_n W1421 (by decide) c_1392))
                      have t_1440 : (M1429.2.1 77 9).toInt = v1212.toInt := congrArg Int32.toInt c_1439
                      have c_1441 : M1429.2.1 77 10 = (N.2.1 77 7) := (W_n W1428 (by decide) (W_n W1421 (by decide) (W_n W1388 (by decide) (W_e W1231))))
                      have t_1442 : (M1429.2.1 77 10).toInt = (N.2.1 77 7).toInt := congrArg Int32.toInt c_1441
                      have z_1443 := (x_ts (t := t) (n := nn) (a := (N.2.1 77 7).toInt) (by omega) (by omega) (by omega)).2.2
                      have z_1444 := x_nx_b (t := t) (n := nn) (a := (N.2.1 77 7).toInt) (by omega) (by omega)
                      have z_1445 := x_R_s (t := t) (n := nn) (a := (N.2.1 77 7).toInt) (v := v1212.toInt) (by omega) (by omega) (by omega)
                      have z_1446 := z_1235
                      exact h M1429 hG1430 F1431 (by omega) (by omega) (by omega) (RS_m (a := (N.2.1 77 7).toInt) (kd := (4 : Int32).toInt) (wh := v1212.toInt) (by omega) (by omega) (by omega) (by omega) (by omega) (by omega) (by omega) (by omega) z_1445)
                    · refine to_an (pc := 317) rw_156_317 rfl (tt_gI (pc := 318) rw_156_318 (g_o hG1390 rfl) (v := v1212) c_1392 (to_c (pc := 321) rw_156_321 (x := (61 : Int32)) rfl rfl (b_cne_t (pc := 323) rw_156_323 (A := v1212.toInt) (B := 61) rfl rfl (by omega) (to_c (pc := 330) rw_156_330 (x := (5 : Int32)) rfl rfl (s_pI (pc := 331) rw_156_331 hG1390 rfl (fun M1448 W1447 => ?_))))))
                      have hG1449 := g_w hG1390 W1447 (A := 5) rfl (lo := 0) (hi := 5) rfl rfl (by omega) (by decide)
                      have F1450 := FR.w F1391 W1447 (show 77 = 77 ∧ 7 ≤ 8 ∧ 8 ≤ 10 by decide)
                      refine to_an (pc := 334) rw_156_334 rfl (to_dupr (pc := 335) rw_156_335 ?_)
                      have c_1451 : M1448.2.1 77 7 = (N.2.1 77 7) := (W_n W1447 (by decide) (W_n W1388 (by decide) c_1236))
                      refine tt_gI (pc := 336) rw_156_336 (g_o hG1449 rfl) (v := (N.2.1 77 7)) c_1451 (to_c (pc := 339) rw_156_339 (x := (1 : Int32)) rfl rfl (s_add (pc := 340) rw_156_340 (A := (N.2.1 77 7).toInt) (B := 1) rfl rfl (by omega) (fun v1452 e1453 => s_pI (pc := 341) rw_156_341 hG1449 rfl (fun M1455 W1454 => ?_))))
                      have hG1456 := g_w hG1449 W1454 (A := v1452.toInt) rfl (lo := 0) (hi := 500) rfl rfl (by omega) (by decide)
                      have F1457 := FR.w F1450 W1454 (show 77 = 77 ∧ 7 ≤ 7 ∧ 7 ≤ 10 by decide)
                      refine to_rv (pc := 344) rw_156_344 ?_
                      have c_1458 : M1455.2.1 77 7 = v1452 := (W_e W1454)
                      have t_1459 : (M1455.2.1 77 7).toInt = v1452.toInt := congrArg Int32.toInt c_1458
                      have c_1460 : M1455.2.1 77 6 = (N.2.1 77 6) := (W_n W1454 (by decide) (W_n W1447 (by decide) (W_n W1388 (by decide) c_1238)))
                      have t_1461 : (M1455.2.1 77 6).toInt = (N.2.1 77 6).toInt := congrArg Int32.toInt c_1460
                      have c_1462 : M1455.2.1 77 8 = (5 : Int32) := (W_n W1454 (by decide) (W_e W1447))
                      have k_1463 : (5 : Int32).toInt = 5 := rfl
                      have t_1464 : (M1455.2.1 77 8).toInt = (5 : Int32).toInt := congrArg Int32.toInt c_1462
                      have c_1465 : M1455.2.1 77 9 = v1212 := (W_n W1454 (by decide) (W_n W1447 (by decide) c_1392))
                      have t_1466 : (M1455.2.1 77 9).toInt = v1212.toInt := congrArg Int32.toInt c_1465
                      have c_1467 : M1455.2.1 77 10 = (N.2.1 77 7) := (W_n W1454 (by decide) (W_n W1447 (by decide) (W_n W1388 (by decide) (W_e W1231))))
                      have t_1468 : (M1455.2.1 77 10).toInt = (N.2.1 77 7).toInt := congrArg Int32.toInt c_1467
                      have z_1469 := (x_ts (t := t) (n := nn) (a := (N.2.1 77 7).toInt) (by omega) (by omega) (by omega)).2.2
                      have z_1470 := x_nx_b (t := t) (n := nn) (a := (N.2.1 77 7).toInt) (by omega) (by omega)
                      have z_1471 := x_R_b (t := t) (n := nn) (a := (N.2.1 77 7).toInt) (w := v1212.toInt) (by omega) (by omega) (by omega) (by omega)
                      have z_1472 := z_1235
                      exact h M1455 hG1456 F1457 (by omega) (by omega) (by omega) (RS_m (a := (N.2.1 77 7).toInt) (kd := (5 : Int32).toInt) (wh := v1212.toInt) (by omega) (by omega) (by omega) (by omega) (by omega) (by omega) (by omega) (by omega) z_1471)
                · refine to_an (pc := 19) rw_155_19 rfl (s_gR (pc := 20) rw_155_20 hG1233 rfl (v := 78) rfl (to_in (pc := 23) rw_155_23 rfl (s_ialk (pc := 24) rw_155_24 hG1233 rfl (n := 500) rfl rfl (A := (N.2.1 77 7).toInt) rfl (by omega) (by omega) (v := v1212) (W_n W1231 (by omega) w_1213) (to_c (pc := 25) rw_155_25 (x := (57 : Int32)) rfl rfl (b_cgt (pc := 27) rw_155_27 (A := v1212.toInt) (B := 57) rfl rfl (fun h1475 => ?_) (fun h1475 => ?_))))))
                  · refine to_c (pc := 34) rw_155_34 (x := (0 : Int32)) rfl rfl (s_r1 (pc := 35) rw_155_35 (A := 0) rfl (by decide) (b_ieq_t (pc := 199) rw_156_199 (A := 0) rfl (by decide) (to_an (pc := 276) rw_156_276 rfl (to_an (pc := 277) rw_156_277 rfl (s_gR (pc := 278) rw_156_278 hG1233 rfl (v := 78) rfl (to_an (pc := 281) rw_156_281 rfl (tt_gI (pc := 282) rw_156_282 (g_o hG1233 rfl) (v := (N.2.1 77 7)) c_1236 (s_ialk (pc := 285) rw_156_285 hG1233 rfl (n := 500) rfl rfl (A := (N.2.1 77 7).toInt) rfl (by omega) (by omega) (v := v1212) (W_n W1231 (by omega) w_1213) (s_pI (pc := 286) rw_156_286 hG1233 rfl (fun M1479 W1478 => ?_))))))))))
                    have hG1480 := g_wf hG1233 W1478 rfl rfl (by decide)
                    have F1481 := FR.w F1234 W1478 (show 77 = 77 ∧ 7 ≤ 9 ∧ 9 ≤ 10 by decide)
                    refine to_an (pc := 289) rw_156_289 rfl (to_an (pc := 290) rw_156_290 rfl ?_)
                    have c_1482 : M1479.2.1 77 9 = v1212 := (W_e W1478)
                    refine tt_gI (pc := 291) rw_156_291 (g_o hG1480 rfl) (v := v1212) c_1482 (to_c (pc := 294) rw_156_294 (x := (59 : Int32)) rfl rfl (b_ceq (pc := 296) rw_156_296 (A := v1212.toInt) (B := 59) rfl rfl (fun h1483 => ?_) (fun h1483 => ?_)))
                    · refine to_c (pc := 326) rw_156_326 (x := (4 : Int32)) rfl rfl (to_go (pc := 327) rw_156_327 (s_pI (pc := 331) rw_156_331 hG1480 rfl (fun M1485 W1484 => ?_)))
                      have hG1486 := g_w hG1480 W1484 (A := 4) rfl (lo := 0) (hi := 5) rfl rfl (by omega) (by decide)
                      have F1487 := FR.w F1481 W1484 (show 77 = 77 ∧ 7 ≤ 8 ∧ 8 ≤ 10 by decide)
                      refine to_an (pc := 334) rw_156_334 rfl (to_dupr (pc := 335) rw_156_335 ?_)
                      have c_1488 : M1485.2.1 77 7 = (N.2.1 77 7) := (W_n W1484 (by decide) (W_n W1478 (by decide) c_1236))
                      refine tt_gI (pc := 336) rw_156_336 (g_o hG1486 rfl) (v := (N.2.1 77 7)) c_1488 (to_c (pc := 339) rw_156_339 (x := (1 : Int32)) rfl rfl (s_add (pc := 340) rw_156_340 (A := (N.2.1 77 7).toInt) (B := 1) rfl rfl (by omega) (fun v1489 e1490 => s_pI (pc := 341) rw_156_341 hG1486 rfl (fun M1492 W1491 => ?_))))
                      have hG1493 := g_w hG1486 W1491 (A := v1489.toInt) rfl (lo := 0) (hi := 500) rfl rfl (by omega) (by decide)
                      have F1494 := FR.w F1487 W1491 (show 77 = 77 ∧ 7 ≤ 7 ∧ 7 ≤ 10 by decide)
                      refine to_rv (pc := 344) rw_156_344 ?_
                      have c_1495 : M1492.2.1 77 7 = v1489 := (W_e W1491)
                      have t_1496 : (M1492.2.1 77 7).toInt = v1489.toInt := congrArg Int32.toInt c_1495
                      have c_1497 : M1492.2.1 77 6 = (N.2.1 77 6) := (W_n W1491 (by decide) (W_n W1484 (by decide) (W_n W1478 (by decide) c_1238)))
                      have t_1498 : (M1492.2.1 77 6).toInt = (N.2.1 77 6).toInt := congrArg Int32.toInt c_1497
                      have c_1499 : M1492.2.1 77 8 = (4 : Int32) := (W_n W1491 (by decide) (W_e W1484))
                      have k_1500 : (4 : Int32).toInt = 4 := rfl
                      have t_1501 : (M1492.2.1 77 8).toInt = (4 : Int32).toInt := congrArg Int32.toInt c_1499
                      have c_1502 : M1492.2.1 77 9 = v1212 := (W_n W1491 (by decide) (W_n W1484 (by decide) c_1482))
                      have t_1503 : (M1492.2.1 77 9).toInt = v1212.toInt := congrArg Int32.toInt c_1502
                      have c_1504 : M1492.2.1 77 10 = (N.2.1 77 7) := (W_n W1491 (by decide) (W_n W1484 (by decide) (W_n W1478 (by decide) (W_e W1231))))
                      have t_1505 : (M1492.2.1 77 10).toInt = (N.2.1 77 7).toInt := congrArg Int32.toInt c_1504
                      have z_1506 := (x_ts (t := t) (n := nn) (a := (N.2.1 77 7).toInt) (by omega) (by omega) (by omega)).2.2
                      have z_1507 := x_nx_b (t := t) (n := nn) (a := (N.2.1 77 7).toInt) (by omega) (by omega)
                      have z_1508 := x_R_s (t := t) (n := nn) (a := (N.2.1 77 7).toInt) (v := v1212.toInt) (by omega) (by omega) (by omega)
                      have z_1509 := z_1235
                      exact h M1492 hG1493 F1494 (by omega) (by omega) (by omega) (RS_m (a := (N.2.1 77 7).toInt) (kd := (4 : Int32).toInt) (wh := v1212.toInt) (by omega) (by omega) (by omega) (by omega) (by omega) (by omega) (by omega) (by omega) z_1508)
                    · refine to_an (pc := 299) rw_156_299 rfl (tt_gI (pc := 300) rw_156_300 (g_o hG1480 rfl) (v := v1212) c_1482 (to_c (pc := 303) rw_156_303 (x := (40 : Int32)) rfl rfl (b_ceq_f (pc := 305) rw_156_305 (A := v1212.toInt) (B := 40) rfl rfl (by omega) (to_an (pc := 308) rw_156_308 rfl (tt_gI (pc := 309) rw_156_309 (g_o hG1480 rfl) (v := v1212) c_1482 (to_c (pc := 312) rw_156_312 (x := (41 : Int32)) rfl rfl (b_ceq_f (pc := 314) rw_156_314 (A := v1212.toInt) (B := 41) rfl rfl (by omega) (to_an (pc := 317) rw_156_317 rfl (tt_gI (pc := 318) rw_156_318 (g_o hG1480 rfl) (v := v1212) c_1482 (to_c (pc := 321) rw_156_321 (x := (61 : Int32)) rfl rfl (b_cne (pc := 323) rw_156_323 (A := v1212.toInt) (B := 61) rfl rfl (fun h1510 => ?_) (fun h1510 => ?_))))))))))))
                      · refine to_c (pc := 330) rw_156_330 (x := (5 : Int32)) rfl rfl (s_pI (pc := 331) rw_156_331 hG1480 rfl (fun M1512 W1511 => ?_))
                        have hG1513 := g_w hG1480 W1511 (A := 5) rfl (lo := 0) (hi := 5) rfl rfl (by omega) (by decide)
                        have F1514 := FR.w F1481 W1511 (show 77 = 77 ∧ 7 ≤ 8 ∧ 8 ≤ 10 by decide)
                        refine to_an (pc := 334) rw_156_334 rfl (to_dupr (pc := 335) rw_156_335 ?_)
                        have c_1515 : M1512.2.1 77 7 = (N.2.1 77 7) := (W_n W1511 (by decide) (W_n W1478 (by decide) c_1236))
                        refine tt_gI (pc := 336) rw_156_336 (g_o hG1513 rfl) (v := (N.2.1 77 7)) c_1515 (to_c (pc := 339) rw_156_339 (x := (1 : Int32)) rfl rfl (s_add (pc := 340) rw_156_340 (A := (N.2.1 77 7).toInt) (B := 1) rfl rfl (by omega) (fun v1516 e1517 => s_pI (pc := 341) rw_156_341 hG1513 rfl (fun M1519 W1518 => ?_))))
                        have hG1520 := g_w hG1513 W1518 (A := v1516.toInt) rfl (lo := 0) (hi := 500) rfl rfl (by omega) (by decide)
                        have F1521 := FR.w F1514 W1518 (show 77 = 77 ∧ 7 ≤ 7 ∧ 7 ≤ 10 by decide)
                        refine to_rv (pc := 344) rw_156_344 ?_
                        have c_1522 : M1519.2.1 77 7 = v1516 := (W_e W1518)
                        have t_1523 : (M1519.2.1 77 7).toInt = v1516.toInt := congrArg Int32.toInt c_1522
                        have c_1524 : M1519.2.1 77 6 = (N.2.1 77 6) := (W_n W1518 (by decide) (W_n W1511 (by decide) (W_n W1478 (by decide) c_1238)))
                        have t_1525 : (M1519.2.1 77 6).toInt = (N.2.1 77 6).toInt := congrArg Int32.toInt c_1524
                        have c_1526 : M1519.2.1 77 8 = (5 : Int32) := (W_n W1518 (by decide) (W_e W1511))
                        have k_1527 : (5 : Int32).toInt = 5 := rfl
                        have t_1528 : (M1519.2.1 77 8).toInt = (5 : Int32).toInt := congrArg Int32.toInt c_1526
                        have c_1529 : M1519.2.1 77 9 = v1212 := (W_n W1518 (by decide) (W_n W1511 (by decide) c_1482))
                        have t_1530 : (M1519.2.1 77 9).toInt = v1212.toInt := congrArg Int32.toInt c_1529
                        have c_1531 : M1519.2.1 77 10 = (N.2.1 77 7) := (W_n W1518 (by decide) (W_n W1511 (by decide) (W_n W1478 (by decide) (W_e W1231))))
                        have t_1532 : (M1519.2.1 77 10).toInt = (N.2.1 77 7).toInt := congrArg Int32.toInt c_1531
                        have z_1533 := (x_ts (t := t) (n := nn) (a := (N.2.1 77 7).toInt) (by omega) (by omega) (by omega)).2.2
                        have z_1534 := x_nx_b (t := t) (n := nn) (a := (N.2.1 77 7).toInt) (by omega) (by omega)
                        have z_1535 := x_R_b (t := t) (n := nn) (a := (N.2.1 77 7).toInt) (w := v1212.toInt) (by omega) (by omega) (by omega) (by omega)
                        have z_1536 := z_1235
                        exact h M1519 hG1520 F1521 (by omega) (by omega) (by omega) (RS_m (a := (N.2.1 77 7).toInt) (kd := (5 : Int32).toInt) (wh := v1212.toInt) (by omega) (by omega) (by omega) (by omega) (by omega) (by omega) (by omega) (by omega) z_1535)
                      · refine to_c (pc := 326) rw_156_326 (x := (4 : Int32)) rfl rfl (to_go (pc := 327) rw_156_327 (s_pI (pc := 331) rw_156_331 hG1480 rfl (fun M1538 W1537 => ?_)))
                        have hG1539 := g_w hG1480 W1537 (A := 4) rfl (lo := 0) (hi := 5) rfl rfl (by omega) (by decide)
                        have F1540 := FR.w F1481 W1537 (show 77 = 77 ∧ 7 ≤ 8 ∧ 8 ≤ 10 by decide)
                        refine to_an (pc := 334) rw_156_334 rfl (to_dupr (pc := 335) rw_156_335 ?_)
                        have c_1541 : M1538.2.1 77 7 = (N.2.1 77 7) := (W_n W1537 (by decide) (W_n W1478 (by decide) c_1236))
                        refine tt_gI (pc := 336) rw_156_336 (g_o hG1539 rfl) (v := (N.2.1 77 7)) c_1541 (to_c (pc := 339) rw_156_339 (x := (1 : Int32)) rfl rfl (s_add (pc := 340) rw_156_340 (A := (N.2.1 77 7).toInt) (B := 1) rfl rfl (by omega) (fun v1542 e1543 => s_pI (pc := 341) rw_156_341 hG1539 rfl (fun M1545 W1544 => ?_))))
                        have hG1546 := g_w hG1539 W1544 (A := v1542.toInt) rfl (lo := 0) (hi := 500) rfl rfl (by omega) (by decide)
                        have F1547 := FR.w F1540 W1544 (show 77 = 77 ∧ 7 ≤ 7 ∧ 7 ≤ 10 by decide)
                        refine to_rv (pc := 344) rw_156_344 ?_
                        have c_1548 : M1545.2.1 77 7 = v1542 := (W_e W1544)
                        have t_1549 : (M1545.2.1 77 7).toInt = v1542.toInt := congrArg Int32.toInt c_1548
                        have c_1550 : M1545.2.1 77 6 = (N.2.1 77 6) := (W_n W1544 (by decide) (W_n W1537 (by decide) (W_n W1478 (by decide) c_1238)))
                        have t_1551 : (M1545.2.1 77 6).toInt = (N.2.1 77 6).toInt := congrArg Int32.toInt c_1550
                        have c_1552 : M1545.2.1 77 8 = (4 : Int32) := (W_n W1544 (by decide) (W_e W1537))
                        have k_1553 : (4 : Int32).toInt = 4 := rfl
                        have t_1554 : (M1545.2.1 77 8).toInt = (4 : Int32).toInt := congrArg Int32.toInt c_1552
                        have c_1555 : M1545.2.1 77 9 = v1212 := (W_n W1544 (by decide) (W_n W1537 (by decide) c_1482))
                        have t_1556 : (M1545.2.1 77 9).toInt = v1212.toInt := congrArg Int32.toInt c_1555
                        have c_1557 : M1545.2.1 77 10 = (N.2.1 77 7) := (W_n W1544 (by decide) (W_n W1537 (by decide) (W_n W1478 (by decide) (W_e W1231))))
                        have t_1558 : (M1545.2.1 77 10).toInt = (N.2.1 77 7).toInt := congrArg Int32.toInt c_1557
                        have z_1559 := (x_ts (t := t) (n := nn) (a := (N.2.1 77 7).toInt) (by omega) (by omega) (by omega)).2.2
                        have z_1560 := x_nx_b (t := t) (n := nn) (a := (N.2.1 77 7).toInt) (by omega) (by omega)
                        have z_1561 := x_R_s (t := t) (n := nn) (a := (N.2.1 77 7).toInt) (v := v1212.toInt) (by omega) (by omega) (by omega)
                        have z_1562 := z_1235
                        exact h M1545 hG1546 F1547 (by omega) (by omega) (by omega) (RS_m (a := (N.2.1 77 7).toInt) (kd := (4 : Int32).toInt) (wh := v1212.toInt) (by omega) (by omega) (by omega) (by omega) (by omega) (by omega) (by omega) (by omega) z_1561)
                  · refine to_c (pc := 30) rw_155_30 (x := (1 : Int32)) rfl rfl (to_go (pc := 31) rw_155_31 (s_r1 (pc := 35) rw_155_35 (A := 1) rfl (by decide) (b_ieq_f (pc := 199) rw_156_199 (A := 1) rfl (by decide) (to_an (pc := 202) rw_156_202 rfl (to_c (pc := 203) rw_156_203 (x := (3 : Int32)) rfl rfl (s_pI (pc := 204) rw_156_204 hG1233 rfl (fun M1564 W1563 => ?_)))))))
                    have hG1565 := g_w hG1233 W1563 (A := 3) rfl (lo := 0) (hi := 5) rfl rfl (by omega) (by decide)
                    have F1566 := FR.w F1234 W1563 (show 77 = 77 ∧ 7 ≤ 8 ∧ 8 ≤ 10 by decide)
                    refine to_an (pc := 207) rw_156_207 rfl (to_c (pc := 208) rw_156_208 (x := (0 : Int32)) rfl rfl (s_pI (pc := 209) rw_156_209 hG1565 rfl (fun M1568 W1567 => ?_)))
                    have hG1569 := g_wf hG1565 W1567 rfl rfl (by decide)
                    have F1570 := FR.w F1566 W1567 (show 77 = 77 ∧ 7 ≤ 9 ∧ 9 ≤ 10 by decide)
                    have c_1571 : M1568.2.1 77 7 = (N.2.1 77 7) := (W_n W1567 (by decide) (W_n W1563 (by decide) c_1236))
                    have t_1572 : (M1568.2.1 77 7).toInt = (N.2.1 77 7).toInt := congrArg Int32.toInt c_1571
                    have c_1573 : M1568.2.1 77 6 = (N.2.1 77 6) := (W_n W1567 (by decide) (W_n W1563 (by decide) c_1238))
                    have t_1574 : (M1568.2.1 77 6).toInt = (N.2.1 77 6).toInt := congrArg Int32.toInt c_1573
                    have c_1575 : M1568.2.1 77 10 = (N.2.1 77 7) := (W_n W1567 (by decide) (W_n W1563 (by decide) (W_e W1231)))
                    have t_1576 : (M1568.2.1 77 10).toInt = (N.2.1 77 7).toInt := congrArg Int32.toInt c_1575
                    have c_1577 : M1568.2.1 77 8 = (3 : Int32) := (W_n W1567 (by decide) (W_e W1563))
                    have k_1578 : (3 : Int32).toInt = 3 := rfl
                    have t_1579 : (M1568.2.1 77 8).toInt = (3 : Int32).toInt := congrArg Int32.toInt c_1577
                    have c_1580 : M1568.2.1 77 9 = (0 : Int32) := (W_e W1567)
                    have k_1581 : (0 : Int32).toInt = 0 := rfl
                    have t_1582 : (M1568.2.1 77 9).toInt = (0 : Int32).toInt := congrArg Int32.toInt c_1580
                    have j_1583 := (TR_f (fun a i z => W_n W1567 (tg_13 a i z) rfl) (TR_f (fun a i z => W_n W1563 (tg_16 a i z) rfl) (TR_f (fun a i z => W_n W1231 (tg_17 a i z) rfl) g7)))
                    have j_1584 := (W9_f (fun a i z => W_n W1567 (tg_15 a i z) rfl) (W9_f (fun a i z => W_n W1563 (tg_18 a i z) rfl) (W9_f (fun a i z => W_n W1231 (tg_19 a i z) rfl) g8)))
                    exact (U_156_0 (t := t) (nn := nn) hX hd q1 q2 q3 q4 q5 q6 h ((500 - (M1568.2.1 77 7).toInt).toNat + 1)) M1568  hG1569 F1570 (by omega) (by omega) (by omega) (by omega) (by rw [show (M1568.2.1 77 10).toInt = (N.2.1 77 7).toInt by omega]; omega) (by omega) (by omega) (by omega) (by omega) (by rw [show (M1568.2.1 77 9).toInt = 0 by omega, show (M1568.2.1 77 7).toInt = (M1568.2.1 77 10).toInt by omega]; rfl) (congrArg (x_end x_dg t nn) (show (M1568.2.1 77 7).toInt = (M1568.2.1 77 10).toInt by omega)) (by omega) (by omega) (by omega) j_1583 j_1584 (by omega)
            · refine to_an (pc := 8) rw_154_8 rfl (s_gR (pc := 9) rw_154_9 hG1233 rfl (v := 78) rfl (to_in (pc := 12) rw_154_12 rfl (s_ialk (pc := 13) rw_154_13 hG1233 rfl (n := 500) rfl rfl (A := (N.2.1 77 7).toInt) rfl (by omega) (by omega) (v := v1212) (W_n W1231 (by omega) w_1213) (to_c (pc := 14) rw_154_14 (x := (97 : Int32)) rfl rfl (b_clt (pc := 16) rw_154_16 (A := v1212.toInt) (B := 97) rfl rfl (fun h1587 => ?_) (fun h1587 => ?_))))))
              · refine to_c (pc := 34) rw_154_34 (x := (0 : Int32)) rfl rfl (s_r1 (pc := 35) rw_154_35 (A := 0) rfl (by decide) (b_ieq_t (pc := 87) rw_156_87 (A := 0) rfl (by decide) (to_an (pc := 191) rw_156_191 rfl (to_an (pc := 192) rw_156_192 rfl (tt_gI (pc := 193) rw_156_193 (g_o hG1233 rfl) (v := (N.2.1 77 7)) c_1236 (s_v (pc := 196) rw_156_196 (dp0 hd (by decide)) (ls0 := [.ref 77, .int (N.2.1 77 7)]) rfl (Nat.le_of_ble_eq_true rfl) (Nat.le_of_ble_eq_true rfl) rfl (to_rc rfl rfl rfl (g_o hG1233 rfl)) rfl (to_in (pc := 0) rw_155_0 rfl (to_an (pc := 1) rw_155_1 rfl (tt_gI (pc := 2) rw_155_2 (g_o hG1233 rfl) (v := (N.2.1 77 6)) c_1238 (b_cge (pc := 5) rw_155_5 (A := (N.2.1 77 7).toInt) (B := (N.2.1 77 6).toInt) rfl rfl (fun h1588 => ?_) (fun h1588 => ?_)))))))))))
                · refine to_c (pc := 34) rw_155_34 (x := (0 : Int32)) rfl rfl (s_r1 (pc := 35) rw_155_35 (A := 0) rfl (by decide) (b_ieq_t (pc := 199) rw_156_199 (A := 0) rfl (by decide) (to_an (pc := 276) rw_156_276 rfl (to_an (pc := 277) rw_156_277 rfl (s_gR (pc := 278) rw_156_278 hG1233 rfl (v := 78) rfl (to_an (pc := 281) rw_156_281 rfl (tt_gI (pc := 282) rw_156_282 (g_o hG1233 rfl) (v := (N.2.1 77 7)) c_1236 (s_ialk (pc := 285) rw_156_285 hG1233 rfl (n := 500) rfl rfl (A := (N.2.1 77 7).toInt) rfl (by omega) (by omega) (v := v1212) (W_n W1231 (by omega) w_1213) (s_pI (pc := 286) rw_156_286 hG1233 rfl (fun M1592 W1591 => ?_))))))))))
                  have hG1593 := g_wf hG1233 W1591 rfl rfl (by decide)
                  have F1594 := FR.w F1234 W1591 (show 77 = 77 ∧ 7 ≤ 9 ∧ 9 ≤ 10 by decide)
                  refine to_an (pc := 289) rw_156_289 rfl (to_an (pc := 290) rw_156_290 rfl ?_)
                  have c_1595 : M1592.2.1 77 9 = v1212 := (W_e W1591)
                  refine tt_gI (pc := 291) rw_156_291 (g_o hG1593 rfl) (v := v1212) c_1595 (to_c (pc := 294) rw_156_294 (x := (59 : Int32)) rfl rfl (b_ceq (pc := 296) rw_156_296 (A := v1212.toInt) (B := 59) rfl rfl (fun h1596 => ?_) (fun h1596 => ?_)))
                  · refine to_c (pc := 326) rw_156_326 (x := (4 : Int32)) rfl rfl (to_go (pc := 327) rw_156_327 (s_pI (pc := 331) rw_156_331 hG1593 rfl (fun M1598 W1597 => ?_)))
                    have hG1599 := g_w hG1593 W1597 (A := 4) rfl (lo := 0) (hi := 5) rfl rfl (by omega) (by decide)
                    have F1600 := FR.w F1594 W1597 (show 77 = 77 ∧ 7 ≤ 8 ∧ 8 ≤ 10 by decide)
                    refine to_an (pc := 334) rw_156_334 rfl (to_dupr (pc := 335) rw_156_335 ?_)
                    have c_1601 : M1598.2.1 77 7 = (N.2.1 77 7) := (W_n W1597 (by decide) (W_n W1591 (by decide) c_1236))
                    refine tt_gI (pc := 336) rw_156_336 (g_o hG1599 rfl) (v := (N.2.1 77 7)) c_1601 (to_c (pc := 339) rw_156_339 (x := (1 : Int32)) rfl rfl (s_add (pc := 340) rw_156_340 (A := (N.2.1 77 7).toInt) (B := 1) rfl rfl (by omega) (fun v1602 e1603 => s_pI (pc := 341) rw_156_341 hG1599 rfl (fun M1605 W1604 => ?_))))
                    have hG1606 := g_w hG1599 W1604 (A := v1602.toInt) rfl (lo := 0) (hi := 500) rfl rfl (by omega) (by decide)
                    have F1607 := FR.w F1600 W1604 (show 77 = 77 ∧ 7 ≤ 7 ∧ 7 ≤ 10 by decide)
                    refine to_rv (pc := 344) rw_156_344 ?_
                    have c_1608 : M1605.2.1 77 7 = v1602 := (W_e W1604)
                    have t_1609 : (M1605.2.1 77 7).toInt = v1602.toInt := congrArg Int32.toInt c_1608
                    have c_1610 : M1605.2.1 77 6 = (N.2.1 77 6) := (W_n W1604 (by decide) (W_n W1597 (by decide) (W_n W1591 (by decide) c_1238)))
                    have t_1611 : (M1605.2.1 77 6).toInt = (N.2.1 77 6).toInt := congrArg Int32.toInt c_1610
                    have c_1612 : M1605.2.1 77 8 = (4 : Int32) := (W_n W1604 (by decide) (W_e W1597))
                    have k_1613 : (4 : Int32).toInt = 4 := rfl
                    have t_1614 : (M1605.2.1 77 8).toInt = (4 : Int32).toInt := congrArg Int32.toInt c_1612
                    have c_1615 : M1605.2.1 77 9 = v1212 := (W_n W1604 (by decide) (W_n W1597 (by decide) c_1595))
                    have t_1616 : (M1605.2.1 77 9).toInt = v1212.toInt := congrArg Int32.toInt c_1615
                    have c_1617 : M1605.2.1 77 10 = (N.2.1 77 7) := (W_n W1604 (by decide) (W_n W1597 (by decide) (W_n W1591 (by decide) (W_e W1231))))
                    have t_1618 : (M1605.2.1 77 10).toInt = (N.2.1 77 7).toInt := congrArg Int32.toInt c_1617
                    have z_1619 := (x_ts (t := t) (n := nn) (a := (N.2.1 77 7).toInt) (by omega) (by omega) (by omega)).2.2
                    have z_1620 := x_nx_b (t := t) (n := nn) (a := (N.2.1 77 7).toInt) (by omega) (by omega)
                    have z_1621 := x_R_s (t := t) (n := nn) (a := (N.2.1 77 7).toInt) (v := v1212.toInt) (by omega) (by omega) (by omega)
                    have z_1622 := z_1235
                    exact h M1605 hG1606 F1607 (by omega) (by omega) (by omega) (RS_m (a := (N.2.1 77 7).toInt) (kd := (4 : Int32).toInt) (wh := v1212.toInt) (by omega) (by omega) (by omega) (by omega) (by omega) (by omega) (by omega) (by omega) z_1621)
                  · refine to_an (pc := 299) rw_156_299 rfl (tt_gI (pc := 300) rw_156_300 (g_o hG1593 rfl) (v := v1212) c_1595 (to_c (pc := 303) rw_156_303 (x := (40 : Int32)) rfl rfl (b_ceq (pc := 305) rw_156_305 (A := v1212.toInt) (B := 40) rfl rfl (fun h1623 => ?_) (fun h1623 => ?_))))
                    · refine to_c (pc := 326) rw_156_326 (x := (4 : Int32)) rfl rfl (to_go (pc := 327) rw_156_327 (s_pI (pc := 331) rw_156_331 hG1593 rfl (fun M1625 W1624 => ?_)))
                      have hG1626 := g_w hG1593 W1624 (A := 4) rfl (lo := 0) (hi := 5) rfl rfl (by omega) (by decide)
                      have F1627 := FR.w F1594 W1624 (show 77 = 77 ∧ 7 ≤ 8 ∧ 8 ≤ 10 by decide)
                      refine to_an (pc := 334) rw_156_334 rfl (to_dupr (pc := 335) rw_156_335 ?_)
                      have c_1628 : M1625.2.1 77 7 = (N.2.1 77 7) := (W_n W1624 (by decide) (W_n W1591 (by decide) c_1236))
                      refine tt_gI (pc := 336) rw_156_336 (g_o hG1626 rfl) (v := (N.2.1 77 7)) c_1628 (to_c (pc := 339) rw_156_339 (x := (1 : Int32)) rfl rfl (s_add (pc := 340) rw_156_340 (A := (N.2.1 77 7).toInt) (B := 1) rfl rfl (by omega) (fun v1629 e1630 => s_pI (pc := 341) rw_156_341 hG1626 rfl (fun M1632 W1631 => ?_))))
                      have hG1633 := g_w hG1626 W1631 (A := v1629.toInt) rfl (lo := 0) (hi := 500) rfl rfl (by omega) (by decide)
                      have F1634 := FR.w F1627 W1631 (show 77 = 77 ∧ 7 ≤ 7 ∧ 7 ≤ 10 by decide)
                      refine to_rv (pc := 344) rw_156_344 ?_
                      have c_1635 : M1632.2.1 77 7 = v1629 := (W_e W1631)
                      have t_1636 : (M1632.2.1 77 7).toInt = v1629.toInt := congrArg Int32.toInt c_1635
                      have c_1637 : M1632.2.1 77 6 = (N.2.1 77 6) := (W_n W1631 (by decide) (W_n W1624 (by decide) (W_n W1591 (by decide) c_1238)))
                      have t_1638 : (M1632.2.1 77 6).toInt = (N.2.1 77 6).toInt := congrArg Int32.toInt c_1637
                      have c_1639 : M1632.2.1 77 8 = (4 : Int32) := (W_n W1631 (by decide) (W_e W1624))
                      have k_1640 : (4 : Int32).toInt = 4 := rfl
                      have t_1641 : (M1632.2.1 77 8).toInt = (4 : Int32).toInt := congrArg Int32.toInt c_1639
                      have c_1642 : M1632.2.1 77 9 = v1212 := (W_n W1631 (by decide) (W_n W1624 (by decide) c_1595))
                      have t_1643 : (M1632.2.1 77 9).toInt = v1212.toInt := congrArg Int32.toInt c_1642
                      have c_1644 : M1632.2.1 77 10 = (N.2.1 77 7) := (W_n W1631 (by decide) (W_n W1624 (by decide) (W_n W1591 (by decide) (W_e W1231))))
                      have t_1645 : (M1632.2.1 77 10).toInt = (N.2.1 77 7).toInt := congrArg Int32.toInt c_1644
                      have z_1646 := (x_ts (t := t) (n := nn) (a := (N.2.1 77 7).toInt) (by omega) (by omega) (by omega)).2.2
                      have z_1647 := x_nx_b (t := t) (n := nn) (a := (N.2.1 77 7).toInt) (by omega) (by omega)
                      have z_1648 := x_R_s (t := t) (n := nn) (a := (N.2.1 77 7).toInt) (v := v1212.toInt) (by omega) (by omega) (by omega)
                      have z_1649 := z_1235
                      exact h M1632 hG1633 F1634 (by omega) (by omega) (by omega) (RS_m (a := (N.2.1 77 7).toInt) (kd := (4 : Int32).toInt) (wh := v1212.toInt) (by omega) (by omega) (by omega) (by omega) (by omega) (by omega) (by omega) (by omega) z_1648)
                    · refine to_an (pc := 308) rw_156_308 rfl (tt_gI (pc := 309) rw_156_309 (g_o hG1593 rfl) (v := v1212) c_1595 (to_c (pc := 312) rw_156_312 (x := (41 : Int32)) rfl rfl (b_ceq (pc := 314) rw_156_314 (A := v1212.toInt) (B := 41) rfl rfl (fun h1650 => ?_) (fun h1650 => ?_))))
                      · refine to_c (pc := 326) rw_156_326 (x := (4 : Int32)) rfl rfl (to_go (pc := 327) rw_156_327 (s_pI (pc := 331) rw_156_331 hG1593 rfl (fun M1652 W1651 => ?_)))
                        have hG1653 := g_w hG1593 W1651 (A := 4) rfl (lo := 0) (hi := 5) rfl rfl (by omega) (by decide)
                        have F1654 := FR.w F1594 W1651 (show 77 = 77 ∧ 7 ≤ 8 ∧ 8 ≤ 10 by decide)
                        refine to_an (pc := 334) rw_156_334 rfl (to_dupr (pc := 335) rw_156_335 ?_)
                        have c_1655 : M1652.2.1 77 7 = (N.2.1 77 7) := (W_n W1651 (by decide) (W_n W1591 (by decide) c_1236))
                        refine tt_gI (pc := 336) rw_156_336 (g_o hG1653 rfl) (v := (N.2.1 77 7)) c_1655 (to_c (pc := 339) rw_156_339 (x := (1 : Int32)) rfl rfl (s_add (pc := 340) rw_156_340 (A := (N.2.1 77 7).toInt) (B := 1) rfl rfl (by omega) (fun v1656 e1657 => s_pI (pc := 341) rw_156_341 hG1653 rfl (fun M1659 W1658 => ?_))))
                        have hG1660 := g_w hG1653 W1658 (A := v1656.toInt) rfl (lo := 0) (hi := 500) rfl rfl (by omega) (by decide)
                        have F1661 := FR.w F1654 W1658 (show 77 = 77 ∧ 7 ≤ 7 ∧ 7 ≤ 10 by decide)
                        refine to_rv (pc := 344) rw_156_344 ?_
                        have c_1662 : M1659.2.1 77 7 = v1656 := (W_e W1658)
                        have t_1663 : (M1659.2.1 77 7).toInt = v1656.toInt := congrArg Int32.toInt c_1662
                        have c_1664 : M1659.2.1 77 6 = (N.2.1 77 6) := (W_n W1658 (by decide) (W_n W1651 (by decide) (W_n W1591 (by decide) c_1238)))
                        have t_1665 : (M1659.2.1 77 6).toInt = (N.2.1 77 6).toInt := congrArg Int32.toInt c_1664
                        have c_1666 : M1659.2.1 77 8 = (4 : Int32) := (W_n W1658 (by decide) (W_e W1651))
                        have k_1667 : (4 : Int32).toInt = 4 := rfl
                        have t_1668 : (M1659.2.1 77 8).toInt = (4 : Int32).toInt := congrArg Int32.toInt c_1666
                        have c_1669 : M1659.2.1 77 9 = v1212 := (W_n W1658 (by decide) (W_n W1651 (by decide) c_1595))
                        have t_1670 : (M1659.2.1 77 9).toInt = v1212.toInt := congrArg Int32.toInt c_1669
                        have c_1671 : M1659.2.1 77 10 = (N.2.1 77 7) := (W_n W1658 (by decide) (W_n W1651 (by decide) (W_n W1591 (by decide) (W_e W1231))))
                        have t_1672 : (M1659.2.1 77 10).toInt = (N.2.1 77 7).toInt := congrArg Int32.toInt c_1671
                        have z_1673 := (x_ts (t := t) (n := nn) (a := (N.2.1 77 7).toInt) (by omega) (by omega) (by omega)).2.2
                        have z_1674 := x_nx_b (t := t) (n := nn) (a := (N.2.1 77 7).toInt) (by omega) (by omega)
                        have z_1675 := x_R_s (t := t) (n := nn) (a := (N.2.1 77 7).toInt) (v := v1212.toInt) (by omega) (by omega) (by omega)
                        have z_1676 := z_1235
                        exact h M1659 hG1660 F1661 (by omega) (by omega) (by omega) (RS_m (a := (N.2.1 77 7).toInt) (kd := (4 : Int32).toInt) (wh := v1212.toInt) (by omega) (by omega) (by omega) (by omega) (by omega) (by omega) (by omega) (by omega) z_1675)
                      · refine to_an (pc := 317) rw_156_317 rfl (tt_gI (pc := 318) rw_156_318 (g_o hG1593 rfl) (v := v1212) c_1595 (to_c (pc := 321) rw_156_321 (x := (61 : Int32)) rfl rfl (b_cne (pc := 323) rw_156_323 (A := v1212.toInt) (B := 61) rfl rfl (fun h1677 => ?_) (fun h1677 => ?_))))
                        · refine to_c (pc := 330) rw_156_330 (x := (5 : Int32)) rfl rfl (s_pI (pc := 331) rw_156_331 hG1593 rfl (fun M1679 W1678 => ?_))
                          have hG1680 := g_w hG1593 W1678 (A := 5) rfl (lo := 0) (hi := 5) rfl rfl (by omega) (by decide)
                          have F1681 := FR.w F1594 W1678 (show 77 = 77 ∧ 7 ≤ 8 ∧ 8 ≤ 10 by decide)
                          refine to_an (pc := 334) rw_156_334 rfl (to_dupr (pc := 335) rw_156_335 ?_)
                          have c_1682 : M1679.2.1 77 7 = (N.2.1 77 7) := (W_n W1678 (by decide) (W_n W1591 (by decide) c_1236))
                          refine tt_gI (pc := 336) rw_156_336 (g_o hG1680 rfl) (v := (N.2.1 77 7)) c_1682 (to_c (pc := 339) rw_156_339 (x := (1 : Int32)) rfl rfl (s_add (pc := 340) rw_156_340 (A := (N.2.1 77 7).toInt) (B := 1) rfl rfl (by omega) (fun v1683 e1684 => s_pI (pc := 341) rw_156_341 hG1680 rfl (fun M1686 W1685 => ?_))))
                          have hG1687 := g_w hG1680 W1685 (A := v1683.toInt) rfl (lo := 0) (hi := 500) rfl rfl (by omega) (by decide)
                          have F1688 := FR.w F1681 W1685 (show 77 = 77 ∧ 7 ≤ 7 ∧ 7 ≤ 10 by decide)
                          refine to_rv (pc := 344) rw_156_344 ?_
                          have c_1689 : M1686.2.1 77 7 = v1683 := (W_e W1685)
                          have t_1690 : (M1686.2.1 77 7).toInt = v1683.toInt := congrArg Int32.toInt c_1689
                          have c_1691 : M1686.2.1 77 6 = (N.2.1 77 6) := (W_n W1685 (by decide) (W_n W1678 (by decide) (W_n W1591 (by decide) c_1238)))
                          have t_1692 : (M1686.2.1 77 6).toInt = (N.2.1 77 6).toInt := congrArg Int32.toInt c_1691
                          have c_1693 : M1686.2.1 77 8 = (5 : Int32) := (W_n W1685 (by decide) (W_e W1678))
                          have k_1694 : (5 : Int32).toInt = 5 := rfl
                          have t_1695 : (M1686.2.1 77 8).toInt = (5 : Int32).toInt := congrArg Int32.toInt c_1693
                          have c_1696 : M1686.2.1 77 9 = v1212 := (W_n W1685 (by decide) (W_n W1678 (by decide) c_1595))
                          have t_1697 : (M1686.2.1 77 9).toInt = v1212.toInt := congrArg Int32.toInt c_1696
                          have c_1698 : M1686.2.1 77 10 = (N.2.1 77 7) := (W_n W1685 (by decide) (W_n W1678 (by decide) (W_n W1591 (by decide) (W_e W1231))))
                          have t_1699 : (M1686.2.1 77 10).toInt = (N.2.1 77 7).toInt := congrArg Int32.toInt c_1698
                          have z_1700 := (x_ts (t := t) (n := nn) (a := (N.2.1 77 7).toInt) (by omega) (by omega) (by omega)).2.2
                          have z_1701 := x_nx_b (t := t) (n := nn) (a := (N.2.1 77 7).toInt) (by omega) (by omega)
                          have z_1702 := x_R_b (t := t) (n := nn) (a := (N.2.1 77 7).toInt) (w := v1212.toInt) (by omega) (by omega) (by omega) (by omega)
                          have z_1703 := z_1235
                          exact h M1686 hG1687 F1688 (by omega) (by omega) (by omega) (RS_m (a := (N.2.1 77 7).toInt) (kd := (5 : Int32).toInt) (wh := v1212.toInt) (by omega) (by omega) (by omega) (by omega) (by omega) (by omega) (by omega) (by omega) z_1702)
                        · refine to_c (pc := 326) rw_156_326 (x := (4 : Int32)) rfl rfl (to_go (pc := 327) rw_156_327 (s_pI (pc := 331) rw_156_331 hG1593 rfl (fun M1705 W1704 => ?_)))
                          have hG1706 := g_w hG1593 W1704 (A := 4) rfl (lo := 0) (hi := 5) rfl rfl (by omega) (by decide)
                          have F1707 := FR.w F1594 W1704 (show 77 = 77 ∧ 7 ≤ 8 ∧ 8 ≤ 10 by decide)
                          refine to_an (pc := 334) rw_156_334 rfl (to_dupr (pc := 335) rw_156_335 ?_)
                          have c_1708 : M1705.2.1 77 7 = (N.2.1 77 7) := (W_n W1704 (by decide) (W_n W1591 (by decide) c_1236))
                          refine tt_gI (pc := 336) rw_156_336 (g_o hG1706 rfl) (v := (N.2.1 77 7)) c_1708 (to_c (pc := 339) rw_156_339 (x := (1 : Int32)) rfl rfl (s_add (pc := 340) rw_156_340 (A := (N.2.1 77 7).toInt) (B := 1) rfl rfl (by omega) (fun v1709 e1710 => s_pI (pc := 341) rw_156_341 hG1706 rfl (fun M1712 W1711 => ?_))))
                          have hG1713 := g_w hG1706 W1711 (A := v1709.toInt) rfl (lo := 0) (hi := 500) rfl rfl (by omega) (by decide)
                          have F1714 := FR.w F1707 W1711 (show 77 = 77 ∧ 7 ≤ 7 ∧ 7 ≤ 10 by decide)
                          refine to_rv (pc := 344) rw_156_344 ?_
                          have c_1715 : M1712.2.1 77 7 = v1709 := (W_e W1711)
                          have t_1716 : (M1712.2.1 77 7).toInt = v1709.toInt := congrArg Int32.toInt c_1715
                          have c_1717 : M1712.2.1 77 6 = (N.2.1 77 6) := (W_n W1711 (by decide) (W_n W1704 (by decide) (W_n W1591 (by decide) c_1238)))
                          have t_1718 : (M1712.2.1 77 6).toInt = (N.2.1 77 6).toInt := congrArg Int32.toInt c_1717
                          have c_1719 : M1712.2.1 77 8 = (4 : Int32) := (W_n W1711 (by decide) (W_e W1704))
                          have k_1720 : (4 : Int32).toInt = 4 := rfl
                          have t_1721 : (M1712.2.1 77 8).toInt = (4 : Int32).toInt := congrArg Int32.toInt c_1719
                          have c_1722 : M1712.2.1 77 9 = v1212 := (W_n W1711 (by decide) (W_n W1704 (by decide) c_1595))
                          have t_1723 : (M1712.2.1 77 9).toInt = v1212.toInt := congrArg Int32.toInt c_1722
                          have c_1724 : M1712.2.1 77 10 = (N.2.1 77 7) := (W_n W1711 (by decide) (W_n W1704 (by decide) (W_n W1591 (by decide) (W_e W1231))))
                          have t_1725 : (M1712.2.1 77 10).toInt = (N.2.1 77 7).toInt := congrArg Int32.toInt c_1724
                          have z_1726 := (x_ts (t := t) (n := nn) (a := (N.2.1 77 7).toInt) (by omega) (by omega) (by omega)).2.2
                          have z_1727 := x_nx_b (t := t) (n := nn) (a := (N.2.1 77 7).toInt) (by omega) (by omega)
                          have z_1728 := x_R_s (t := t) (n := nn) (a := (N.2.1 77 7).toInt) (v := v1212.toInt) (by omega) (by omega) (by omega)
                          have z_1729 := z_1235
                          exact h M1712 hG1713 F1714 (by omega) (by omega) (by omega) (RS_m (a := (N.2.1 77 7).toInt) (kd := (4 : Int32).toInt) (wh := v1212.toInt) (by omega) (by omega) (by omega) (by omega) (by omega) (by omega) (by omega) (by omega) z_1728)
                · refine to_an (pc := 8) rw_155_8 rfl (s_gR (pc := 9) rw_155_9 hG1233 rfl (v := 78) rfl (to_in (pc := 12) rw_155_12 rfl (s_ialk (pc := 13) rw_155_13 hG1233 rfl (n := 500) rfl rfl (A := (N.2.1 77 7).toInt) rfl (by omega) (by omega) (v := v1212) (W_n W1231 (by omega) w_1213) (to_c (pc := 14) rw_155_14 (x := (48 : Int32)) rfl rfl (b_clt (pc := 16) rw_155_16 (A := v1212.toInt) (B := 48) rfl rfl (fun h1732 => ?_) (fun h1732 => ?_))))))
                  · refine to_c (pc := 34) rw_155_34 (x := (0 : Int32)) rfl rfl (s_r1 (pc := 35) rw_155_35 (A := 0) rfl (by decide) (b_ieq_t (pc := 199) rw_156_199 (A := 0) rfl (by decide) (to_an (pc := 276) rw_156_276 rfl (to_an (pc := 277) rw_156_277 rfl (s_gR (pc := 278) rw_156_278 hG1233 rfl (v := 78) rfl (to_an (pc := 281) rw_156_281 rfl (tt_gI (pc := 282) rw_156_282 (g_o hG1233 rfl) (v := (N.2.1 77 7)) c_1236 (s_ialk (pc := 285) rw_156_285 hG1233 rfl (n := 500) rfl rfl (A := (N.2.1 77 7).toInt) rfl (by omega) (by omega) (v := v1212) (W_n W1231 (by omega) w_1213) (s_pI (pc := 286) rw_156_286 hG1233 rfl (fun M1736 W1735 => ?_))))))))))
                    have hG1737 := g_wf hG1233 W1735 rfl rfl (by decide)
                    have F1738 := FR.w F1234 W1735 (show 77 = 77 ∧ 7 ≤ 9 ∧ 9 ≤ 10 by decide)
                    refine to_an (pc := 289) rw_156_289 rfl (to_an (pc := 290) rw_156_290 rfl ?_)
                    have c_1739 : M1736.2.1 77 9 = v1212 := (W_e W1735)
                    refine tt_gI (pc := 291) rw_156_291 (g_o hG1737 rfl) (v := v1212) c_1739 (to_c (pc := 294) rw_156_294 (x := (59 : Int32)) rfl rfl (b_ceq_f (pc := 296) rw_156_296 (A := v1212.toInt) (B := 59) rfl rfl (by omega) (to_an (pc := 299) rw_156_299 rfl (tt_gI (pc := 300) rw_156_300 (g_o hG1737 rfl) (v := v1212) c_1739 (to_c (pc := 303) rw_156_303 (x := (40 : Int32)) rfl rfl (b_ceq (pc := 305) rw_156_305 (A := v1212.toInt) (B := 40) rfl rfl (fun h1740 => ?_) (fun h1740 => ?_)))))))
                    · refine to_c (pc := 326) rw_156_326 (x := (4 : Int32)) rfl rfl (to_go (pc := 327) rw_156_327 (s_pI (pc := 331) rw_156_331 hG1737 rfl (fun M1742 W1741 => ?_)))
                      have hG1743 := g_w hG1737 W1741 (A := 4) rfl (lo := 0) (hi := 5) rfl rfl (by omega) (by decide)
                      have F1744 := FR.w F1738 W1741 (show 77 = 77 ∧ 7 ≤ 8 ∧ 8 ≤ 10 by decide)
                      refine to_an (pc := 334) rw_156_334 rfl (to_dupr (pc := 335) rw_156_335 ?_)
                      have c_1745 : M1742.2.1 77 7 = (N.2.1 77 7) := (W_n W1741 (by decide) (W_n W1735 (by decide) c_1236))
                      refine tt_gI (pc := 336) rw_156_336 (g_o hG1743 rfl) (v := (N.2.1 77 7)) c_1745 (to_c (pc := 339) rw_156_339 (x := (1 : Int32)) rfl rfl (s_add (pc := 340) rw_156_340 (A := (N.2.1 77 7).toInt) (B := 1) rfl rfl (by omega) (fun v1746 e1747 => s_pI (pc := 341) rw_156_341 hG1743 rfl (fun M1749 W1748 => ?_))))
                      have hG1750 := g_w hG1743 W1748 (A := v1746.toInt) rfl (lo := 0) (hi := 500) rfl rfl (by omega) (by decide)
                      have F1751 := FR.w F1744 W1748 (show 77 = 77 ∧ 7 ≤ 7 ∧ 7 ≤ 10 by decide)
                      refine to_rv (pc := 344) rw_156_344 ?_
                      have c_1752 : M1749.2.1 77 7 = v1746 := (W_e W1748)
                      have t_1753 : (M1749.2.1 77 7).toInt = v1746.toInt := congrArg Int32.toInt c_1752
                      have c_1754 : M1749.2.1 77 6 = (N.2.1 77 6) := (W_n W1748 (by decide) (W_n W1741 (by decide) (W_n W1735 (by decide) c_1238)))
                      have t_1755 : (M1749.2.1 77 6).toInt = (N.2.1 77 6).toInt := congrArg Int32.toInt c_1754
                      have c_1756 : M1749.2.1 77 8 = (4 : Int32) := (W_n W1748 (by decide) (W_e W1741))
                      have k_1757 : (4 : Int32).toInt = 4 := rfl
                      have t_1758 : (M1749.2.1 77 8).toInt = (4 : Int32).toInt := congrArg Int32.toInt c_1756
                      have c_1759 : M1749.2.1 77 9 = v1212 := (W_n W1748 (by decide) (W_n W1741 (by decide) c_1739))
                      have t_1760 : (M1749.2.1 77 9).toInt = v1212.toInt := congrArg Int32.toInt c_1759
                      have c_1761 : M1749.2.1 77 10 = (N.2.1 77 7) := (W_n W1748 (by decide) (W_n W1741 (by decide) (W_n W1735 (by decide) (W_e W1231))))
                      have t_1762 : (M1749.2.1 77 10).toInt = (N.2.1 77 7).toInt := congrArg Int32.toInt c_1761
                      have z_1763 := (x_ts (t := t) (n := nn) (a := (N.2.1 77 7).toInt) (by omega) (by omega) (by omega)).2.2
                      have z_1764 := x_nx_b (t := t) (n := nn) (a := (N.2.1 77 7).toInt) (by omega) (by omega)
                      have z_1765 := x_R_s (t := t) (n := nn) (a := (N.2.1 77 7).toInt) (v := v1212.toInt) (by omega) (by omega) (by omega)
                      have z_1766 := z_1235
                      exact h M1749 hG1750 F1751 (by omega) (by omega) (by omega) (RS_m (a := (N.2.1 77 7).toInt) (kd := (4 : Int32).toInt) (wh := v1212.toInt) (by omega) (by omega) (by omega) (by omega) (by omega) (by omega) (by omega) (by omega) z_1765)
                    · refine to_an (pc := 308) rw_156_308 rfl (tt_gI (pc := 309) rw_156_309 (g_o hG1737 rfl) (v := v1212) c_1739 (to_c (pc := 312) rw_156_312 (x := (41 : Int32)) rfl rfl (b_ceq (pc := 314) rw_156_314 (A := v1212.toInt) (B := 41) rfl rfl (fun h1767 => ?_) (fun h1767 => ?_))))
                      · refine to_c (pc := 326) rw_156_326 (x := (4 : Int32)) rfl rfl (to_go (pc := 327) rw_156_327 (s_pI (pc := 331) rw_156_331 hG1737 rfl (fun M1769 W1768 => ?_)))
                        have hG1770 := g_w hG1737 W1768 (A := 4) rfl (lo := 0) (hi := 5) rfl rfl (by omega) (by decide)
                        have F1771 := FR.w F1738 W1768 (show 77 = 77 ∧ 7 ≤ 8 ∧ 8 ≤ 10 by decide)
                        refine to_an (pc := 334) rw_156_334 rfl (to_dupr (pc := 335) rw_156_335 ?_)
                        have c_1772 : M1769.2.1 77 7 = (N.2.1 77 7) := (W_n W1768 (by decide) (W_n W1735 (by decide) c_1236))
                        refine tt_gI (pc := 336) rw_156_336 (g_o hG1770 rfl) (v := (N.2.1 77 7)) c_1772 (to_c (pc := 339) rw_156_339 (x := (1 : Int32)) rfl rfl (s_add (pc := 340) rw_156_340 (A := (N.2.1 77 7).toInt) (B := 1) rfl rfl (by omega) (fun v1773 e1774 => s_pI (pc := 341) rw_156_341 hG1770 rfl (fun M1776 W1775 => ?_))))
                        have hG1777 := g_w hG1770 W1775 (A := v1773.toInt) rfl (lo := 0) (hi := 500) rfl rfl (by omega) (by decide)
                        have F1778 := FR.w F1771 W1775 (show 77 = 77 ∧ 7 ≤ 7 ∧ 7 ≤ 10 by decide)
                        refine to_rv (pc := 344) rw_156_344 ?_
                        have c_1779 : M1776.2.1 77 7 = v1773 := (W_e W1775)
                        have t_1780 : (M1776.2.1 77 7).toInt = v1773.toInt := congrArg Int32.toInt c_1779
                        have c_1781 : M1776.2.1 77 6 = (N.2.1 77 6) := (W_n W1775 (by decide) (W_n W1768 (by decide) (W_n W1735 (by decide) c_1238)))
                        have t_1782 : (M1776.2.1 77 6).toInt = (N.2.1 77 6).toInt := congrArg Int32.toInt c_1781
                        have c_1783 : M1776.2.1 77 8 = (4 : Int32) := (W_n W1775 (by decide) (W_e W1768))
                        have k_1784 : (4 : Int32).toInt = 4 := rfl
                        have t_1785 : (M1776.2.1 77 8).toInt = (4 : Int32).toInt := congrArg Int32.toInt c_1783
                        have c_1786 : M1776.2.1 77 9 = v1212 := (W_n W1775 (by decide) (W_n W1768 (by decide) c_1739))
                        have t_1787 : (M1776.2.1 77 9).toInt = v1212.toInt := congrArg Int32.toInt c_1786
                        have c_1788 : M1776.2.1 77 10 = (N.2.1 77 7) := (W_n W1775 (by decide) (W_n W1768 (by decide) (W_n W1735 (by decide) (W_e W1231))))
                        have t_1789 : (M1776.2.1 77 10).toInt = (N.2.1 77 7).toInt := congrArg Int32.toInt c_1788
                        have z_1790 := (x_ts (t := t) (n := nn) (a := (N.2.1 77 7).toInt) (by omega) (by omega) (by omega)).2.2
                        have z_1791 := x_nx_b (t := t) (n := nn) (a := (N.2.1 77 7).toInt) (by omega) (by omega)
                        have z_1792 := x_R_s (t := t) (n := nn) (a := (N.2.1 77 7).toInt) (v := v1212.toInt) (by omega) (by omega) (by omega)
                        have z_1793 := z_1235
                        exact h M1776 hG1777 F1778 (by omega) (by omega) (by omega) (RS_m (a := (N.2.1 77 7).toInt) (kd := (4 : Int32).toInt) (wh := v1212.toInt) (by omega) (by omega) (by omega) (by omega) (by omega) (by omega) (by omega) (by omega) z_1792)
                      · refine to_an (pc := 317) rw_156_317 rfl (tt_gI (pc := 318) rw_156_318 (g_o hG1737 rfl) (v := v1212) c_1739 (to_c (pc := 321) rw_156_321 (x := (61 : Int32)) rfl rfl (b_cne_t (pc := 323) rw_156_323 (A := v1212.toInt) (B := 61) rfl rfl (by omega) (to_c (pc := 330) rw_156_330 (x := (5 : Int32)) rfl rfl (s_pI (pc := 331) rw_156_331 hG1737 rfl (fun M1795 W1794 => ?_))))))
                        have hG1796 := g_w hG1737 W1794 (A := 5) rfl (lo := 0) (hi := 5) rfl rfl (by omega) (by decide)
                        have F1797 := FR.w F1738 W1794 (show 77 = 77 ∧ 7 ≤ 8 ∧ 8 ≤ 10 by decide)
                        refine to_an (pc := 334) rw_156_334 rfl (to_dupr (pc := 335) rw_156_335 ?_)
                        have c_1798 : M1795.2.1 77 7 = (N.2.1 77 7) := (W_n W1794 (by decide) (W_n W1735 (by decide) c_1236))
                        refine tt_gI (pc := 336) rw_156_336 (g_o hG1796 rfl) (v := (N.2.1 77 7)) c_1798 (to_c (pc := 339) rw_156_339 (x := (1 : Int32)) rfl rfl (s_add (pc := 340) rw_156_340 (A := (N.2.1 77 7).toInt) (B := 1) rfl rfl (by omega) (fun v1799 e1800 => s_pI (pc := 341) rw_156_341 hG1796 rfl (fun M1802 W1801 => ?_))))
                        have hG1803 := g_w hG1796 W1801 (A := v1799.toInt) rfl (lo := 0) (hi := 500) rfl rfl (by omega) (by decide)
                        have F1804 := FR.w F1797 W1801 (show 77 = 77 ∧ 7 ≤ 7 ∧ 7 ≤ 10 by decide)
                        refine to_rv (pc := 344) rw_156_344 ?_
                        have c_1805 : M1802.2.1 77 7 = v1799 := (W_e W1801)
                        have t_1806 : (M1802.2.1 77 7).toInt = v1799.toInt := congrArg Int32.toInt c_1805
                        have c_1807 : M1802.2.1 77 6 = (N.2.1 77 6) := (W_n W1801 (by decide) (W_n W1794 (by decide) (W_n W1735 (by decide) c_1238)))
                        have t_1808 : (M1802.2.1 77 6).toInt = (N.2.1 77 6).toInt := congrArg Int32.toInt c_1807
                        have c_1809 : M1802.2.1 77 8 = (5 : Int32) := (W_n W1801 (by decide) (W_e W1794))
                        have k_1810 : (5 : Int32).toInt = 5 := rfl
                        have t_1811 : (M1802.2.1 77 8).toInt = (5 : Int32).toInt := congrArg Int32.toInt c_1809
                        have c_1812 : M1802.2.1 77 9 = v1212 := (W_n W1801 (by decide) (W_n W1794 (by decide) c_1739))
                        have t_1813 : (M1802.2.1 77 9).toInt = v1212.toInt := congrArg Int32.toInt c_1812
                        have c_1814 : M1802.2.1 77 10 = (N.2.1 77 7) := (W_n W1801 (by decide) (W_n W1794 (by decide) (W_n W1735 (by decide) (W_e W1231))))
                        have t_1815 : (M1802.2.1 77 10).toInt = (N.2.1 77 7).toInt := congrArg Int32.toInt c_1814
                        have z_1816 := (x_ts (t := t) (n := nn) (a := (N.2.1 77 7).toInt) (by omega) (by omega) (by omega)).2.2
                        have z_1817 := x_nx_b (t := t) (n := nn) (a := (N.2.1 77 7).toInt) (by omega) (by omega)
                        have z_1818 := x_R_b (t := t) (n := nn) (a := (N.2.1 77 7).toInt) (w := v1212.toInt) (by omega) (by omega) (by omega) (by omega)
                        have z_1819 := z_1235
                        exact h M1802 hG1803 F1804 (by omega) (by omega) (by omega) (RS_m (a := (N.2.1 77 7).toInt) (kd := (5 : Int32).toInt) (wh := v1212.toInt) (by omega) (by omega) (by omega) (by omega) (by omega) (by omega) (by omega) (by omega) z_1818)
                  · refine to_an (pc := 19) rw_155_19 rfl (s_gR (pc := 20) rw_155_20 hG1233 rfl (v := 78) rfl (to_in (pc := 23) rw_155_23 rfl (s_ialk (pc := 24) rw_155_24 hG1233 rfl (n := 500) rfl rfl (A := (N.2.1 77 7).toInt) rfl (by omega) (by omega) (v := v1212) (W_n W1231 (by omega) w_1213) (to_c (pc := 25) rw_155_25 (x := (57 : Int32)) rfl rfl (b_cgt (pc := 27) rw_155_27 (A := v1212.toInt) (B := 57) rfl rfl (fun h1822 => ?_) (fun h1822 => ?_))))))
                    · refine to_c (pc := 34) rw_155_34 (x := (0 : Int32)) rfl rfl (s_r1 (pc := 35) rw_155_35 (A := 0) rfl (by decide) (b_ieq_t (pc := 199) rw_156_199 (A := 0) rfl (by decide) (to_an (pc := 276) rw_156_276 rfl (to_an (pc := 277) rw_156_277 rfl (s_gR (pc := 278) rw_156_278 hG1233 rfl (v := 78) rfl (to_an (pc := 281) rw_156_281 rfl (tt_gI (pc := 282) rw_156_282 (g_o hG1233 rfl) (v := (N.2.1 77 7)) c_1236 (s_ialk (pc := 285) rw_156_285 hG1233 rfl (n := 500) rfl rfl (A := (N.2.1 77 7).toInt) rfl (by omega) (by omega) (v := v1212) (W_n W1231 (by omega) w_1213) (s_pI (pc := 286) rw_156_286 hG1233 rfl (fun M1826 W1825 => ?_))))))))))
                      have hG1827 := g_wf hG1233 W1825 rfl rfl (by decide)
                      have F1828 := FR.w F1234 W1825 (show 77 = 77 ∧ 7 ≤ 9 ∧ 9 ≤ 10 by decide)
                      refine to_an (pc := 289) rw_156_289 rfl (to_an (pc := 290) rw_156_290 rfl ?_)
                      have c_1829 : M1826.2.1 77 9 = v1212 := (W_e W1825)
                      refine tt_gI (pc := 291) rw_156_291 (g_o hG1827 rfl) (v := v1212) c_1829 (to_c (pc := 294) rw_156_294 (x := (59 : Int32)) rfl rfl (b_ceq (pc := 296) rw_156_296 (A := v1212.toInt) (B := 59) rfl rfl (fun h1830 => ?_) (fun h1830 => ?_)))
                      · refine to_c (pc := 326) rw_156_326 (x := (4 : Int32)) rfl rfl (to_go (pc := 327) rw_156_327 (s_pI (pc := 331) rw_156_331 hG1827 rfl (fun M1832 W1831 => ?_)))
                        have hG1833 := g_w hG1827 W1831 (A := 4) rfl (lo := 0) (hi := 5) rfl rfl (by omega) (by decide)
                        have F1834 := FR.w F1828 W1831 (show 77 = 77 ∧ 7 ≤ 8 ∧ 8 ≤ 10 by decide)
                        refine to_an (pc := 334) rw_156_334 rfl (to_dupr (pc := 335) rw_156_335 ?_)
                        have c_1835 : M1832.2.1 77 7 = (N.2.1 77 7) := (W_n W1831 (by decide) (W_n W1825 (by decide) c_1236))
                        refine tt_gI (pc := 336) rw_156_336 (g_o hG1833 rfl) (v := (N.2.1 77 7)) c_1835 (to_c (pc := 339) rw_156_339 (x := (1 : Int32)) rfl rfl (s_add (pc := 340) rw_156_340 (A := (N.2.1 77 7).toInt) (B := 1) rfl rfl (by omega) (fun v1836 e1837 => s_pI (pc := 341) rw_156_341 hG1833 rfl (fun M1839 W1838 => ?_))))
                        have hG1840 := g_w hG1833 W1838 (A := v1836.toInt) rfl (lo := 0) (hi := 500) rfl rfl (by omega) (by decide)
                        have F1841 := FR.w F1834 W1838 (show 77 = 77 ∧ 7 ≤ 7 ∧ 7 ≤ 10 by decide)
                        refine to_rv (pc := 344) rw_156_344 ?_
                        have c_1842 : M1839.2.1 77 7 = v1836 := (W_e W1838)
                        have t_1843 : (M1839.2.1 77 7).toInt = v1836.toInt := congrArg Int32.toInt c_1842
                        have c_1844 : M1839.2.1 77 6 = (N.2.1 77 6) := (W_n W1838 (by decide) (W_n W1831 (by decide) (W_n W1825 (by decide) c_1238)))
                        have t_1845 : (M1839.2.1 77 6).toInt = (N.2.1 77 6).toInt := congrArg Int32.toInt c_1844
                        have c_1846 : M1839.2.1 77 8 = (4 : Int32) := (W_n W1838 (by decide) (W_e W1831))
                        have k_1847 : (4 : Int32).toInt = 4 := rfl
                        have t_1848 : (M1839.2.1 77 8).toInt = (4 : Int32).toInt := congrArg Int32.toInt c_1846
                        have c_1849 : M1839.2.1 77 9 = v1212 := (W_n W1838 (by decide) (W_n W1831 (by decide) c_1829))
                        have t_1850 : (M1839.2.1 77 9).toInt = v1212.toInt := congrArg Int32.toInt c_1849
                        have c_1851 : M1839.2.1 77 10 = (N.2.1 77 7) := (W_n W1838 (by decide) (W_n W1831 (by decide) (W_n W1825 (by decide) (W_e W1231))))
                        have t_1852 : (M1839.2.1 77 10).toInt = (N.2.1 77 7).toInt := congrArg Int32.toInt c_1851
                        have z_1853 := (x_ts (t := t) (n := nn) (a := (N.2.1 77 7).toInt) (by omega) (by omega) (by omega)).2.2
                        have z_1854 := x_nx_b (t := t) (n := nn) (a := (N.2.1 77 7).toInt) (by omega) (by omega)
                        have z_1855 := x_R_s (t := t) (n := nn) (a := (N.2.1 77 7).toInt) (v := v1212.toInt) (by omega) (by omega) (by omega)
                        have z_1856 := z_1235
                        exact h M1839 hG1840 F1841 (by omega) (by omega) (by omega) (RS_m (a := (N.2.1 77 7).toInt) (kd := (4 : Int32).toInt) (wh := v1212.toInt) (by omega) (by omega) (by omega) (by omega) (by omega) (by omega) (by omega) (by omega) z_1855)
                      · refine to_an (pc := 299) rw_156_299 rfl (tt_gI (pc := 300) rw_156_300 (g_o hG1827 rfl) (v := v1212) c_1829 (to_c (pc := 303) rw_156_303 (x := (40 : Int32)) rfl rfl (b_ceq_f (pc := 305) rw_156_305 (A := v1212.toInt) (B := 40) rfl rfl (by omega) (to_an (pc := 308) rw_156_308 rfl (tt_gI (pc := 309) rw_156_309 (g_o hG1827 rfl) (v := v1212) c_1829 (to_c (pc := 312) rw_156_312 (x := (41 : Int32)) rfl rfl (b_ceq_f (pc := 314) rw_156_314 (A := v1212.toInt) (B := 41) rfl rfl (by omega) (to_an (pc := 317) rw_156_317 rfl (tt_gI (pc := 318) rw_156_318 (g_o hG1827 rfl) (v := v1212) c_1829 (to_c (pc := 321) rw_156_321 (x := (61 : Int32)) rfl rfl (b_cne (pc := 323) rw_156_323 (A := v1212.toInt) (B := 61) rfl rfl (fun h1857 => ?_) (fun h1857 => ?_))))))))))))
                        · refine to_c (pc := 330) rw_156_330 (x := (5 : Int32)) rfl rfl (s_pI (pc := 331) rw_156_331 hG1827 rfl (fun M1859 W1858 => ?_))
                          have hG1860 := g_w hG1827 W1858 (A := 5) rfl (lo := 0) (hi := 5) rfl rfl (by omega) (by decide)
                          have F1861 := FR.w F1828 W1858 (show 77 = 77 ∧ 7 ≤ 8 ∧ 8 ≤ 10 by decide)
                          refine to_an (pc := 334) rw_156_334 rfl (to_dupr (pc := 335) rw_156_335 ?_)
                          have c_1862 : M1859.2.1 77 7 = (N.2.1 77 7) := (W_n W1858 (by decide) (W_n W1825 (by decide) c_1236))
                          refine tt_gI (pc := 336) rw_156_336 (g_o hG1860 rfl) (v := (N.2.1 77 7)) c_1862 (to_c (pc := 339) rw_156_339 (x := (1 : Int32)) rfl rfl (s_add (pc := 340) rw_156_340 (A := (N.2.1 77 7).toInt) (B := 1) rfl rfl (by omega) (fun v1863 e1864 => s_pI (pc := 341) rw_156_341 hG1860 rfl (fun M1866 W1865 => ?_))))
                          have hG1867 := g_w hG1860 W1865 (A := v1863.toInt) rfl (lo := 0) (hi := 500) rfl rfl (by omega) (by decide)
                          have F1868 := FR.w F1861 W1865 (show 77 = 77 ∧ 7 ≤ 7 ∧ 7 ≤ 10 by decide)
                          refine to_rv (pc := 344) rw_156_344 ?_
                          have c_1869 : M1866.2.1 77 7 = v1863 := (W_e W1865)
                          have t_1870 : (M1866.2.1 77 7).toInt = v1863.toInt := congrArg Int32.toInt c_1869
                          have c_1871 : M1866.2.1 77 6 = (N.2.1 77 6) := (W_n W1865 (by decide) (W_n W1858 (by decide) (W_n W1825 (by decide) c_1238)))
                          have t_1872 : (M1866.2.1 77 6).toInt = (N.2.1 77 6).toInt := congrArg Int32.toInt c_1871
                          have c_1873 : M1866.2.1 77 8 = (5 : Int32) := (W_n W1865 (by decide) (W_e W1858))
                          have k_1874 : (5 : Int32).toInt = 5 := rfl
                          have t_1875 : (M1866.2.1 77 8).toInt = (5 : Int32).toInt := congrArg Int32.toInt c_1873
                          have c_1876 : M1866.2.1 77 9 = v1212 := (W_n W1865 (by decide) (W_n W1858 (by decide) c_1829))
                          have t_1877 : (M1866.2.1 77 9).toInt = v1212.toInt := congrArg Int32.toInt c_1876
                          have c_1878 : M1866.2.1 77 10 = (N.2.1 77 7) := (W_n W1865 (by decide) (W_n W1858 (by decide) (W_n W1825 (by decide) (W_e W1231))))
                          have t_1879 : (M1866.2.1 77 10).toInt = (N.2.1 77 7).toInt := congrArg Int32.toInt c_1878
                          have z_1880 := (x_ts (t := t) (n := nn) (a := (N.2.1 77 7).toInt) (by omega) (by omega) (by omega)).2.2
                          have z_1881 := x_nx_b (t := t) (n := nn) (a := (N.2.1 77 7).toInt) (by omega) (by omega)
                          have z_1882 := x_R_b (t := t) (n := nn) (a := (N.2.1 77 7).toInt) (w := v1212.toInt) (by omega) (by omega) (by omega) (by omega)
                          have z_1883 := z_1235
                          exact h M1866 hG1867 F1868 (by omega) (by omega) (by omega) (RS_m (a := (N.2.1 77 7).toInt) (kd := (5 : Int32).toInt) (wh := v1212.toInt) (by omega) (by omega) (by omega) (by omega) (by omega) (by omega) (by omega) (by omega) z_1882)
                        · refine to_c (pc := 326) rw_156_326 (x := (4 : Int32)) rfl rfl (to_go (pc := 327) rw_156_327 (s_pI (pc := 331) rw_156_331 hG1827 rfl (fun M1885 W1884 => ?_)))
                          have hG1886 := g_w hG1827 W1884 (A := 4) rfl (lo := 0) (hi := 5) rfl rfl (by omega) (by decide)
                          have F1887 := FR.w F1828 W1884 (show 77 = 77 ∧ 7 ≤ 8 ∧ 8 ≤ 10 by decide)
                          refine to_an (pc := 334) rw_156_334 rfl (to_dupr (pc := 335) rw_156_335 ?_)
                          have c_1888 : M1885.2.1 77 7 = (N.2.1 77 7) := (W_n W1884 (by decide) (W_n W1825 (by decide) c_1236))
                          refine tt_gI (pc := 336) rw_156_336 (g_o hG1886 rfl) (v := (N.2.1 77 7)) c_1888 (to_c (pc := 339) rw_156_339 (x := (1 : Int32)) rfl rfl (s_add (pc := 340) rw_156_340 (A := (N.2.1 77 7).toInt) (B := 1) rfl rfl (by omega) (fun v1889 e1890 => s_pI (pc := 341) rw_156_341 hG1886 rfl (fun M1892 W1891 => ?_))))
                          have hG1893 := g_w hG1886 W1891 (A := v1889.toInt) rfl (lo := 0) (hi := 500) rfl rfl (by omega) (by decide)
                          have F1894 := FR.w F1887 W1891 (show 77 = 77 ∧ 7 ≤ 7 ∧ 7 ≤ 10 by decide)
                          refine to_rv (pc := 344) rw_156_344 ?_
                          have c_1895 : M1892.2.1 77 7 = v1889 := (W_e W1891)
                          have t_1896 : (M1892.2.1 77 7).toInt = v1889.toInt := congrArg Int32.toInt c_1895
                          have c_1897 : M1892.2.1 77 6 = (N.2.1 77 6) := (W_n W1891 (by decide) (W_n W1884 (by decide) (W_n W1825 (by decide) c_1238)))
                          have t_1898 : (M1892.2.1 77 6).toInt = (N.2.1 77 6).toInt := congrArg Int32.toInt c_1897
                          have c_1899 : M1892.2.1 77 8 = (4 : Int32) := (W_n W1891 (by decide) (W_e W1884))
                          have k_1900 : (4 : Int32).toInt = 4 := rfl
                          have t_1901 : (M1892.2.1 77 8).toInt = (4 : Int32).toInt := congrArg Int32.toInt c_1899
                          have c_1902 : M1892.2.1 77 9 = v1212 := (W_n W1891 (by decide) (W_n W1884 (by decide) c_1829))
                          have t_1903 : (M1892.2.1 77 9).toInt = v1212.toInt := congrArg Int32.toInt c_1902
                          have c_1904 : M1892.2.1 77 10 = (N.2.1 77 7) := (W_n W1891 (by decide) (W_n W1884 (by decide) (W_n W1825 (by decide) (W_e W1231))))
                          have t_1905 : (M1892.2.1 77 10).toInt = (N.2.1 77 7).toInt := congrArg Int32.toInt c_1904
                          have z_1906 := (x_ts (t := t) (n := nn) (a := (N.2.1 77 7).toInt) (by omega) (by omega) (by omega)).2.2
                          have z_1907 := x_nx_b (t := t) (n := nn) (a := (N.2.1 77 7).toInt) (by omega) (by omega)
                          have z_1908 := x_R_s (t := t) (n := nn) (a := (N.2.1 77 7).toInt) (v := v1212.toInt) (by omega) (by omega) (by omega)
                          have z_1909 := z_1235
                          exact h M1892 hG1893 F1894 (by omega) (by omega) (by omega) (RS_m (a := (N.2.1 77 7).toInt) (kd := (4 : Int32).toInt) (wh := v1212.toInt) (by omega) (by omega) (by omega) (by omega) (by omega) (by omega) (by omega) (by omega) z_1908)
                    · refine to_c (pc := 30) rw_155_30 (x := (1 : Int32)) rfl rfl (to_go (pc := 31) rw_155_31 (s_r1 (pc := 35) rw_155_35 (A := 1) rfl (by decide) (b_ieq_f (pc := 199) rw_156_199 (A := 1) rfl (by decide) (to_an (pc := 202) rw_156_202 rfl (to_c (pc := 203) rw_156_203 (x := (3 : Int32)) rfl rfl (s_pI (pc := 204) rw_156_204 hG1233 rfl (fun M1911 W1910 => ?_)))))))
                      have hG1912 := g_w hG1233 W1910 (A := 3) rfl (lo := 0) (hi := 5) rfl rfl (by omega) (by decide)
                      have F1913 := FR.w F1234 W1910 (show 77 = 77 ∧ 7 ≤ 8 ∧ 8 ≤ 10 by decide)
                      refine to_an (pc := 207) rw_156_207 rfl (to_c (pc := 208) rw_156_208 (x := (0 : Int32)) rfl rfl (s_pI (pc := 209) rw_156_209 hG1912 rfl (fun M1915 W1914 => ?_)))
                      have hG1916 := g_wf hG1912 W1914 rfl rfl (by decide)
                      have F1917 := FR.w F1913 W1914 (show 77 = 77 ∧ 7 ≤ 9 ∧ 9 ≤ 10 by decide)
                      have c_1918 : M1915.2.1 77 7 = (N.2.1 77 7) := (W_n W1914 (by decide) (W_n W1910 (by decide) c_1236))
                      have t_1919 : (M1915.2.1 77 7).toInt = (N.2.1 77 7).toInt := congrArg Int32.toInt c_1918
                      have c_1920 : M1915.2.1 77 6 = (N.2.1 77 6) := (W_n W1914 (by decide) (W_n W1910 (by decide) c_1238))
                      have t_1921 : (M1915.2.1 77 6).toInt = (N.2.1 77 6).toInt := congrArg Int32.toInt c_1920
                      have c_1922 : M1915.2.1 77 10 = (N.2.1 77 7) := (W_n W1914 (by decide) (W_n W1910 (by decide) (W_e W1231)))
                      have t_1923 : (M1915.2.1 77 10).toInt = (N.2.1 77 7).toInt := congrArg Int32.toInt c_1922
                      have c_1924 : M1915.2.1 77 8 = (3 : Int32) := (W_n W1914 (by decide) (W_e W1910))
                      have k_1925 : (3 : Int32).toInt = 3 := rfl
                      have t_1926 : (M1915.2.1 77 8).toInt = (3 : Int32).toInt := congrArg Int32.toInt c_1924
                      have c_1927 : M1915.2.1 77 9 = (0 : Int32) := (W_e W1914)
                      have k_1928 : (0 : Int32).toInt = 0 := rfl
                      have t_1929 : (M1915.2.1 77 9).toInt = (0 : Int32).toInt := congrArg Int32.toInt c_1927
                      have j_1930 := (TR_f (fun a i z => W_n W1914 (tg_13 a i z) rfl) (TR_f (fun a i z => W_n W1910 (tg_16 a i z) rfl) (TR_f (fun a i z => W_n W1231 (tg_17 a i z) rfl) g7)))
                      have j_1931 := (W9_f (fun a i z => W_n W1914 (tg_15 a i z) rfl) (W9_f (fun a i z => W_n W1910 (tg_18 a i z) rfl) (W9_f (fun a i z => W_n W1231 (tg_19 a i z) rfl) g8)))
                      exact (U_156_0 (t := t) (nn := nn) hX hd q1 q2 q3 q4 q5 q6 h ((500 - (M1915.2.1 77 7).toInt).toNat + 1)) M1915  hG1916 F1917 (by omega) (by omega) (by omega) (by omega) (by rw [show (M1915.2.1 77 10).toInt = (N.2.1 77 7).toInt by omega]; omega) (by omega) (by omega) (by omega) (by omega) (by rw [show (M1915.2.1 77 9).toInt = 0 by omega, show (M1915.2.1 77 7).toInt = (M1915.2.1 77 10).toInt by omega]; rfl) (congrArg (x_end x_dg t nn) (show (M1915.2.1 77 7).toInt = (M1915.2.1 77 10).toInt by omega)) (by omega) (by omega) (by omega) j_1930 j_1931 (by omega)
              · refine to_an (pc := 19) rw_154_19 rfl (s_gR (pc := 20) rw_154_20 hG1233 rfl (v := 78) rfl (to_in (pc := 23) rw_154_23 rfl (s_ialk (pc := 24) rw_154_24 hG1233 rfl (n := 500) rfl rfl (A := (N.2.1 77 7).toInt) rfl (by omega) (by omega) (v := v1212) (W_n W1231 (by omega) w_1213) (to_c (pc := 25) rw_154_25 (x := (122 : Int32)) rfl rfl (b_cgt (pc := 27) rw_154_27 (A := v1212.toInt) (B := 122) rfl rfl (fun h1934 => ?_) (fun h1934 => ?_))))))
                · refine to_c (pc := 34) rw_154_34 (x := (0 : Int32)) rfl rfl (s_r1 (pc := 35) rw_154_35 (A := 0) rfl (by decide) (b_ieq_t (pc := 87) rw_156_87 (A := 0) rfl (by decide) (to_an (pc := 191) rw_156_191 rfl (to_an (pc := 192) rw_156_192 rfl (tt_gI (pc := 193) rw_156_193 (g_o hG1233 rfl) (v := (N.2.1 77 7)) c_1236 (s_v (pc := 196) rw_156_196 (dp0 hd (by decide)) (ls0 := [.ref 77, .int (N.2.1 77 7)]) rfl (Nat.le_of_ble_eq_true rfl) (Nat.le_of_ble_eq_true rfl) rfl (to_rc rfl rfl rfl (g_o hG1233 rfl)) rfl (to_in (pc := 0) rw_155_0 rfl (to_an (pc := 1) rw_155_1 rfl (tt_gI (pc := 2) rw_155_2 (g_o hG1233 rfl) (v := (N.2.1 77 6)) c_1238 (b_cge (pc := 5) rw_155_5 (A := (N.2.1 77 7).toInt) (B := (N.2.1 77 6).toInt) rfl rfl (fun h1935 => ?_) (fun h1935 => ?_)))))))))))
                  · refine to_c (pc := 34) rw_155_34 (x := (0 : Int32)) rfl rfl (s_r1 (pc := 35) rw_155_35 (A := 0) rfl (by decide) (b_ieq_t (pc := 199) rw_156_199 (A := 0) rfl (by decide) (to_an (pc := 276) rw_156_276 rfl (to_an (pc := 277) rw_156_277 rfl (s_gR (pc := 278) rw_156_278 hG1233 rfl (v := 78) rfl (to_an (pc := 281) rw_156_281 rfl (tt_gI (pc := 282) rw_156_282 (g_o hG1233 rfl) (v := (N.2.1 77 7)) c_1236 (s_ialk (pc := 285) rw_156_285 hG1233 rfl (n := 500) rfl rfl (A := (N.2.1 77 7).toInt) rfl (by omega) (by omega) (v := v1212) (W_n W1231 (by omega) w_1213) (s_pI (pc := 286) rw_156_286 hG1233 rfl (fun M1939 W1938 => ?_))))))))))
                    have hG1940 := g_wf hG1233 W1938 rfl rfl (by decide)
                    have F1941 := FR.w F1234 W1938 (show 77 = 77 ∧ 7 ≤ 9 ∧ 9 ≤ 10 by decide)
                    refine to_an (pc := 289) rw_156_289 rfl (to_an (pc := 290) rw_156_290 rfl ?_)
                    have c_1942 : M1939.2.1 77 9 = v1212 := (W_e W1938)
                    refine tt_gI (pc := 291) rw_156_291 (g_o hG1940 rfl) (v := v1212) c_1942 (to_c (pc := 294) rw_156_294 (x := (59 : Int32)) rfl rfl (b_ceq_f (pc := 296) rw_156_296 (A := v1212.toInt) (B := 59) rfl rfl (by omega) (to_an (pc := 299) rw_156_299 rfl (tt_gI (pc := 300) rw_156_300 (g_o hG1940 rfl) (v := v1212) c_1942 (to_c (pc := 303) rw_156_303 (x := (40 : Int32)) rfl rfl (b_ceq_f (pc := 305) rw_156_305 (A := v1212.toInt) (B := 40) rfl rfl (by omega) (to_an (pc := 308) rw_156_308 rfl (tt_gI (pc := 309) rw_156_309 (g_o hG1940 rfl) (v := v1212) c_1942 (to_c (pc := 312) rw_156_312 (x := (41 : Int32)) rfl rfl (b_ceq_f (pc := 314) rw_156_314 (A := v1212.toInt) (B := 41) rfl rfl (by omega) (to_an (pc := 317) rw_156_317 rfl ?_)))))))))))
                    refine tt_gI (pc := 318) rw_156_318 (g_o hG1940 rfl) (v := v1212) c_1942 (to_c (pc := 321) rw_156_321 (x := (61 : Int32)) rfl rfl (b_cne_t (pc := 323) rw_156_323 (A := v1212.toInt) (B := 61) rfl rfl (by omega) (to_c (pc := 330) rw_156_330 (x := (5 : Int32)) rfl rfl (s_pI (pc := 331) rw_156_331 hG1940 rfl (fun M1944 W1943 => ?_)))))
                    have hG1945 := g_w hG1940 W1943 (A := 5) rfl (lo := 0) (hi := 5) rfl rfl (by omega) (by decide)
                    have F1946 := FR.w F1941 W1943 (show 77 = 77 ∧ 7 ≤ 8 ∧ 8 ≤ 10 by decide)
                    refine to_an (pc := 334) rw_156_334 rfl (to_dupr (pc := 335) rw_156_335 ?_)
                    have c_1947 : M1944.2.1 77 7 = (N.2.1 77 7) := (W_n W1943 (by decide) (W_n W1938 (by decide) c_1236))
                    refine tt_gI (pc := 336) rw_156_336 (g_o hG1945 rfl) (v := (N.2.1 77 7)) c_1947 (to_c (pc := 339) rw_156_339 (x := (1 : Int32)) rfl rfl (s_add (pc := 340) rw_156_340 (A := (N.2.1 77 7).toInt) (B := 1) rfl rfl (by omega) (fun v1948 e1949 => s_pI (pc := 341) rw_156_341 hG1945 rfl (fun M1951 W1950 => ?_))))
                    have hG1952 := g_w hG1945 W1950 (A := v1948.toInt) rfl (lo := 0) (hi := 500) rfl rfl (by omega) (by decide)
                    have F1953 := FR.w F1946 W1950 (show 77 = 77 ∧ 7 ≤ 7 ∧ 7 ≤ 10 by decide)
                    refine to_rv (pc := 344) rw_156_344 ?_
                    have c_1954 : M1951.2.1 77 7 = v1948 := (W_e W1950)
                    have t_1955 : (M1951.2.1 77 7).toInt = v1948.toInt := congrArg Int32.toInt c_1954
                    have c_1956 : M1951.2.1 77 6 = (N.2.1 77 6) := (W_n W1950 (by decide) (W_n W1943 (by decide) (W_n W1938 (by decide) c_1238)))
                    have t_1957 : (M1951.2.1 77 6).toInt = (N.2.1 77 6).toInt := congrArg Int32.toInt c_1956
                    have c_1958 : M1951.2.1 77 8 = (5 : Int32) := (W_n W1950 (by decide) (W_e W1943))
                    have k_1959 : (5 : Int32).toInt = 5 := rfl
                    have t_1960 : (M1951.2.1 77 8).toInt = (5 : Int32).toInt := congrArg Int32.toInt c_1958
                    have c_1961 : M1951.2.1 77 9 = v1212 := (W_n W1950 (by decide) (W_n W1943 (by decide) c_1942))
                    have t_1962 : (M1951.2.1 77 9).toInt = v1212.toInt := congrArg Int32.toInt c_1961
                    have c_1963 : M1951.2.1 77 10 = (N.2.1 77 7) := (W_n W1950 (by decide) (W_n W1943 (by decide) (W_n W1938 (by decide) (W_e W1231))))
                    have t_1964 : (M1951.2.1 77 10).toInt = (N.2.1 77 7).toInt := congrArg Int32.toInt c_1963
                    have z_1965 := (x_ts (t := t) (n := nn) (a := (N.2.1 77 7).toInt) (by omega) (by omega) (by omega)).2.2
                    have z_1966 := x_nx_b (t := t) (n := nn) (a := (N.2.1 77 7).toInt) (by omega) (by omega)
                    have z_1967 := x_R_b (t := t) (n := nn) (a := (N.2.1 77 7).toInt) (w := v1212.toInt) (by omega) (by omega) (by omega) (by omega)
                    have z_1968 := z_1235
                    exact h M1951 hG1952 F1953 (by omega) (by omega) (by omega) (RS_m (a := (N.2.1 77 7).toInt) (kd := (5 : Int32).toInt) (wh := v1212.toInt) (by omega) (by omega) (by omega) (by omega) (by omega) (by omega) (by omega) (by omega) z_1967)
                  · refine to_an (pc := 8) rw_155_8 rfl (s_gR (pc := 9) rw_155_9 hG1233 rfl (v := 78) rfl (to_in (pc := 12) rw_155_12 rfl (s_ialk (pc := 13) rw_155_13 hG1233 rfl (n := 500) rfl rfl (A := (N.2.1 77 7).toInt) rfl (by omega) (by omega) (v := v1212) (W_n W1231 (by omega) w_1213) (to_c (pc := 14) rw_155_14 (x := (48 : Int32)) rfl rfl (b_clt_f (pc := 16) rw_155_16 (A := v1212.toInt) (B := 48) rfl rfl (by omega) (to_an (pc := 19) rw_155_19 rfl (s_gR (pc := 20) rw_155_20 hG1233 rfl (v := 78) rfl (to_in (pc := 23) rw_155_23 rfl (s_ialk (pc := 24) rw_155_24 hG1233 rfl (n := 500) rfl rfl (A := (N.2.1 77 7).toInt) rfl (by omega) (by omega) (v := v1212) (W_n W1231 (by omega) w_1213) (to_c (pc := 25) rw_155_25 (x := (57 : Int32)) rfl rfl (b_cgt_t (pc := 27) rw_155_27 (A := v1212.toInt) (B := 57) rfl rfl (by omega) ?_)))))))))))
                    refine to_c (pc := 34) rw_155_34 (x := (0 : Int32)) rfl rfl (s_r1 (pc := 35) rw_155_35 (A := 0) rfl (by decide) (b_ieq_t (pc := 199) rw_156_199 (A := 0) rfl (by decide) (to_an (pc := 276) rw_156_276 rfl (to_an (pc := 277) rw_156_277 rfl (s_gR (pc := 278) rw_156_278 hG1233 rfl (v := 78) rfl (to_an (pc := 281) rw_156_281 rfl (tt_gI (pc := 282) rw_156_282 (g_o hG1233 rfl) (v := (N.2.1 77 7)) c_1236 (s_ialk (pc := 285) rw_156_285 hG1233 rfl (n := 500) rfl rfl (A := (N.2.1 77 7).toInt) rfl (by omega) (by omega) (v := v1212) (W_n W1231 (by omega) w_1213) (s_pI (pc := 286) rw_156_286 hG1233 rfl (fun M1976 W1975 => ?_))))))))))
                    have hG1977 := g_wf hG1233 W1975 rfl rfl (by decide)
                    have F1978 := FR.w F1234 W1975 (show 77 = 77 ∧ 7 ≤ 9 ∧ 9 ≤ 10 by decide)
                    refine to_an (pc := 289) rw_156_289 rfl (to_an (pc := 290) rw_156_290 rfl ?_)
                    have c_1979 : M1976.2.1 77 9 = v1212 := (W_e W1975)
                    refine tt_gI (pc := 291) rw_156_291 (g_o hG1977 rfl) (v := v1212) c_1979 (to_c (pc := 294) rw_156_294 (x := (59 : Int32)) rfl rfl (b_ceq_f (pc := 296) rw_156_296 (A := v1212.toInt) (B := 59) rfl rfl (by omega) (to_an (pc := 299) rw_156_299 rfl (tt_gI (pc := 300) rw_156_300 (g_o hG1977 rfl) (v := v1212) c_1979 (to_c (pc := 303) rw_156_303 (x := (40 : Int32)) rfl rfl (b_ceq_f (pc := 305) rw_156_305 (A := v1212.toInt) (B := 40) rfl rfl (by omega) (to_an (pc := 308) rw_156_308 rfl (tt_gI (pc := 309) rw_156_309 (g_o hG1977 rfl) (v := v1212) c_1979 (to_c (pc := 312) rw_156_312 (x := (41 : Int32)) rfl rfl (b_ceq_f (pc := 314) rw_156_314 (A := v1212.toInt) (B := 41) rfl rfl (by omega) (to_an (pc := 317) rw_156_317 rfl ?_)))))))))))
                    refine tt_gI (pc := 318) rw_156_318 (g_o hG1977 rfl) (v := v1212) c_1979 (to_c (pc := 321) rw_156_321 (x := (61 : Int32)) rfl rfl (b_cne_t (pc := 323) rw_156_323 (A := v1212.toInt) (B := 61) rfl rfl (by omega) (to_c (pc := 330) rw_156_330 (x := (5 : Int32)) rfl rfl (s_pI (pc := 331) rw_156_331 hG1977 rfl (fun M1981 W1980 => ?_)))))
                    have hG1982 := g_w hG1977 W1980 (A := 5) rfl (lo := 0) (hi := 5) rfl rfl (by omega) (by decide)
                    have F1983 := FR.w F1978 W1980 (show 77 = 77 ∧ 7 ≤ 8 ∧ 8 ≤ 10 by decide)
                    refine to_an (pc := 334) rw_156_334 rfl (to_dupr (pc := 335) rw_156_335 ?_)
                    have c_1984 : M1981.2.1 77 7 = (N.2.1 77 7) := (W_n W1980 (by decide) (W_n W1975 (by decide) c_1236))
                    refine tt_gI (pc := 336) rw_156_336 (g_o hG1982 rfl) (v := (N.2.1 77 7)) c_1984 (to_c (pc := 339) rw_156_339 (x := (1 : Int32)) rfl rfl (s_add (pc := 340) rw_156_340 (A := (N.2.1 77 7).toInt) (B := 1) rfl rfl (by omega) (fun v1985 e1986 => s_pI (pc := 341) rw_156_341 hG1982 rfl (fun M1988 W1987 => ?_))))
                    have hG1989 := g_w hG1982 W1987 (A := v1985.toInt) rfl (lo := 0) (hi := 500) rfl rfl (by omega) (by decide)
                    have F1990 := FR.w F1983 W1987 (show 77 = 77 ∧ 7 ≤ 7 ∧ 7 ≤ 10 by decide)
                    refine to_rv (pc := 344) rw_156_344 ?_
                    have c_1991 : M1988.2.1 77 7 = v1985 := (W_e W1987)
                    have t_1992 : (M1988.2.1 77 7).toInt = v1985.toInt := congrArg Int32.toInt c_1991
                    have c_1993 : M1988.2.1 77 6 = (N.2.1 77 6) := (W_n W1987 (by decide) (W_n W1980 (by decide) (W_n W1975 (by decide) c_1238)))
                    have t_1994 : (M1988.2.1 77 6).toInt = (N.2.1 77 6).toInt := congrArg Int32.toInt c_1993
                    have c_1995 : M1988.2.1 77 8 = (5 : Int32) := (W_n W1987 (by decide) (W_e W1980))
                    have k_1996 : (5 : Int32).toInt = 5 := rfl
                    have t_1997 : (M1988.2.1 77 8).toInt = (5 : Int32).toInt := congrArg Int32.toInt c_1995
                    have c_1998 : M1988.2.1 77 9 = v1212 := (W_n W1987 (by decide) (W_n W1980 (by decide) c_1979))
                    have t_1999 : (M1988.2.1 77 9).toInt = v1212.toInt := congrArg Int32.toInt c_1998
                    have c_2000 : M1988.2.1 77 10 = (N.2.1 77 7) := (W_n W1987 (by decide) (W_n W1980 (by decide) (W_n W1975 (by decide) (W_e W1231))))
                    have t_2001 : (M1988.2.1 77 10).toInt = (N.2.1 77 7).toInt := congrArg Int32.toInt c_2000
                    have z_2002 := (x_ts (t := t) (n := nn) (a := (N.2.1 77 7).toInt) (by omega) (by omega) (by omega)).2.2
                    have z_2003 := x_nx_b (t := t) (n := nn) (a := (N.2.1 77 7).toInt) (by omega) (by omega)
                    have z_2004 := x_R_b (t := t) (n := nn) (a := (N.2.1 77 7).toInt) (w := v1212.toInt) (by omega) (by omega) (by omega) (by omega)
                    have z_2005 := z_1235
                    exact h M1988 hG1989 F1990 (by omega) (by omega) (by omega) (RS_m (a := (N.2.1 77 7).toInt) (kd := (5 : Int32).toInt) (wh := v1212.toInt) (by omega) (by omega) (by omega) (by omega) (by omega) (by omega) (by omega) (by omega) z_2004)
                · refine to_c (pc := 30) rw_154_30 (x := (1 : Int32)) rfl rfl (to_go (pc := 31) rw_154_31 (s_r1 (pc := 35) rw_154_35 (A := 1) rfl (by decide) (b_ieq_f (pc := 87) rw_156_87 (A := 1) rfl (by decide) ?_)))
                  have t_2006 : (M1232.2.1 77 6).toInt = (N.2.1 77 6).toInt := congrArg Int32.toInt c_1238
                  have c_2007 : M1232.2.1 77 10 = (N.2.1 77 7) := (W_e W1231)
                  have t_2008 : (M1232.2.1 77 10).toInt = (N.2.1 77 7).toInt := congrArg Int32.toInt c_2007
                  have j_2009 := (TR_f (fun a i z => W_n W1231 (tg_17 a i z) rfl) g7)
                  have j_2010 := (W9_f (fun a i z => W_n W1231 (tg_19 a i z) rfl) g8)
                  exact (U_156_1 (t := t) (nn := nn) hX hd q1 q2 q3 q4 q5 q6 h ((500 - (M1232.2.1 77 7).toInt).toNat + 1)) M1232  hG1233 F1234 (by omega) (by omega) (by omega) (by omega) (by rw [show (M1232.2.1 77 10).toInt = (N.2.1 77 7).toInt by omega]; omega) (by omega) (congrArg (x_e t nn) (show (M1232.2.1 77 7).toInt = (M1232.2.1 77 10).toInt by omega)) (fun i hi => by exfalso; omega) (by omega) (by omega) (by omega) j_2009 j_2010 (by omega)
          · refine to_an (pc := 71) rw_156_71 rfl (to_c (pc := 72) rw_156_72 (x := (0 : Int32)) rfl rfl (s_pI (pc := 73) rw_156_73 hG1233 rfl (fun M2012 W2011 => ?_)))
            have hG2013 := g_w hG1233 W2011 (A := 0) rfl (lo := 0) (hi := 5) rfl rfl (by omega) (by decide)
            have F2014 := FR.w F1234 W2011 (show 77 = 77 ∧ 7 ≤ 8 ∧ 8 ≤ 10 by decide)
            refine to_go (pc := 76) rw_156_76 (to_rv (pc := 344) rw_156_344 ?_)
            have c_2015 : M2012.2.1 77 7 = (N.2.1 77 7) := (W_n W2011 (by decide) c_1236)
            have t_2016 : (M2012.2.1 77 7).toInt = (N.2.1 77 7).toInt := congrArg Int32.toInt c_2015
            have c_2017 : M2012.2.1 77 6 = (N.2.1 77 6) := (W_n W2011 (by decide) c_1238)
            have t_2018 : (M2012.2.1 77 6).toInt = (N.2.1 77 6).toInt := congrArg Int32.toInt c_2017
            have c_2019 : M2012.2.1 77 8 = (0 : Int32) := (W_e W2011)
            have k_2020 : (0 : Int32).toInt = 0 := rfl
            have t_2021 : (M2012.2.1 77 8).toInt = (0 : Int32).toInt := congrArg Int32.toInt c_2019
            have c_2022 : M2012.2.1 77 9 = (N.2.1 77 9) := (W_n W2011 (by decide) (W_n W1231 (by decide) rfl))
            have t_2023 : (M2012.2.1 77 9).toInt = (N.2.1 77 9).toInt := congrArg Int32.toInt c_2022
            have c_2024 : M2012.2.1 77 10 = (N.2.1 77 7) := (W_n W2011 (by decide) (W_e W1231))
            have t_2025 : (M2012.2.1 77 10).toInt = (N.2.1 77 7).toInt := congrArg Int32.toInt c_2024
            have z_2026 := (x_t0 (t := t) (n := nn) (a := (N.2.1 77 7).toInt) (by omega)).2
            have z_2027 := x_nx_b (t := t) (n := nn) (a := (N.2.1 77 7).toInt) (by omega) (by omega)
            have z_2028 := x_R_0 (t := t) (n := nn) (a := (N.2.1 77 7).toInt) (w := (N.2.1 77 9).toInt) (by omega)
            have z_2029 := z_1235
            exact h M2012 hG2013 F2014 (by omega) (by omega) (by omega) (RS_m (a := (N.2.1 77 7).toInt) (kd := (0 : Int32).toInt) (wh := (N.2.1 77 9).toInt) (by omega) (by omega) (by omega) (by omega) (by omega) (by omega) (by omega) (by omega) z_2028)
        · refine to_an (pc := 39) rw_156_39 rfl (to_dupr (pc := 40) rw_156_40 (tt_gI (pc := 41) rw_156_41 (g_o hG rfl) (v := (N.2.1 77 7)) rfl (to_c (pc := 44) rw_156_44 (x := (1 : Int32)) rfl rfl (s_add (pc := 45) rw_156_45 (A := (N.2.1 77 7).toInt) (B := 1) rfl rfl (by omega) (fun v2030 e2031 => s_pI (pc := 46) rw_156_46 hG rfl (fun M2033 W2032 => ?_))))))
          have hG2034 := g_w hG W2032 (A := v2030.toInt) rfl (lo := 0) (hi := 500) rfl rfl (by omega) (by decide)
          have F2035 := FR.w F0 W2032 (show 77 = 77 ∧ 7 ≤ 7 ∧ 7 ≤ 10 by decide)
          refine to_go (pc := 49) rw_156_49 ?_
          have c_2036 : M2033.2.1 77 7 = v2030 := (W_e W2032)
          have t_2037 : (M2033.2.1 77 7).toInt = v2030.toInt := congrArg Int32.toInt c_2036
          have c_2038 : M2033.2.1 77 6 = (N.2.1 77 6) := (W_n W2032 (by decide) rfl)
          have t_2039 : (M2033.2.1 77 6).toInt = (N.2.1 77 6).toInt := congrArg Int32.toInt c_2038
          have j_2040 := (TR_f (fun a i z => W_n W2032 (tg_12 a i z) rfl) g7)
          have j_2041 := (W9_f (fun a i z => W_n W2032 (tg_14 a i z) rfl) g8)
          exact ih M2033  hG2034 F2035 (by omega) (by omega) (x_sk_e (x := (N.2.1 77 7).toInt) (by omega) (by omega) (by omega) (by omega) g3) (by omega) (by omega) (by omega) j_2040 j_2041 (by omega)
set_option maxRecDepth 4000 in
set_option maxHeartbeats 0 in
theorem E_156 {X : mm_X} {d : Nat} {M : mm_M} {Q : Option Value → mm_M → Prop} {t : Nat → Int} {nn : Int} (hX : g_X X) (hd : 1 ≤ d) (hG : g_G M) (q1 : (M.2.1 77 7).toInt ≤ (M.2.1 77 6).toInt) (q2 : (M.2.1 77 6).toInt = nn) (q3 : 0 ≤ nn) (q4 : nn ≤ 500) (q5 : TR M t nn) (q6 : W9 M) (h : ∀ (M1 : mm_M), g_G M1 → FR md_tk M M1 → ((M1.2.1 77 7).toInt ≤ (M1.2.1 77 6).toInt) → ((M.2.1 77 7).toInt ≤ (M1.2.1 77 7).toInt) → ((M1.2.1 77 8).toInt = 0 ∨ (M.2.1 77 7).toInt < (M1.2.1 77 7).toInt) → (RS M1 t nn ∧ (M1.2.1 77 10).toInt = x_sk t nn (M.2.1 77 7).toInt) → Q (none) M1) : mm_T X d 155 0 [.ref 77] [] M Q := by
  have F0 : FR md_tk M M := FR.rf
  have b_2042 := g_b hG (a := 77) (i := 7) (lo := 0) (hi := 500) rfl rfl
  have b_2043 := g_b hG (a := 77) (i := 6) (lo := 0) (hi := 500) rfl rfl
  exact (U_156_2 (t := t) (nn := nn) hX hd q1 q2 q3 q4 q5 q6 h ((500 - (M.2.1 77 7).toInt).toNat + 1)) M  hG F0 (by omega) (by omega) rfl (by omega) (by omega) (by omega) q5 q6 (by omega)
set_option maxRecDepth 4000 in
set_option maxHeartbeats 0 in
theorem E_163 {X : mm_X} {d : Nat} {M : mm_M} {Q : Option Value → mm_M → Prop} {n : Int32} {t : Nat → Int} {nn : Int} (hX : g_X X) (hd : 2 ≤ d) (hG : g_G M) (q1 : (M.2.1 77 7).toInt ≤ (M.2.1 77 6).toInt) (q2 : 0 ≤ n.toInt ∧ n.toInt ≤ (M.2.1 77 1).toInt → n.toInt = nn) (q3 : TR M t nn) (q4 : W9 M) (h : ∀ (r : Int32) (M1 : mm_M), g_G M1 → FR md_bn M M1 → (0 ≤ r.toInt) → (r.toInt ≤ 1) → ((M1.2.1 77 7).toInt ≤ (M1.2.1 77 6).toInt) → (n.toInt < 0 ∨ (M.2.1 77 1).toInt < n.toInt → (M1.2.1 77 1).toInt = (M.2.1 77 1).toInt ∧ r.toInt = 0) → (0 ≤ n.toInt ∧ n.toInt ≤ (M.2.1 77 1).toInt → (M1.2.1 77 1).toInt = 0 ∧ r.toInt = 1) → ((r.toInt = 1 → RS M1 t nn ∧ (M1.2.1 77 10).toInt = x_sk t nn 0)) → Q (some (.int r)) M1) : mm_T X d 162 0 [.ref 77, .int n] [] M Q := by
  have F0 : FR md_bn M M := FR.rf
  have b_1 := g_b hG (a := 77) (i := 7) (lo := 0) (hi := 500) rfl rfl
  have b_2 := g_b hG (a := 77) (i := 6) (lo := 0) (hi := 500) rfl rfl
  have b_3 := g_b hG (a := 77) (i := 1) (lo := 0) (hi := 500) rfl rfl
  refine to_in (pc := 0) rw_163_0 rfl (b_ilt (pc := 1) rw_163_1 (A := n.toInt) rfl (fun h4 => ?_) (fun h4 => ?_))
  · refine to_c (pc := 12) rw_163_12 (x := (0 : Int32)) rfl rfl (s_r1 (pc := 13) rw_163_13 (A := 0) rfl (by decide) ?_)
    have k_5 : (0 : Int32).toInt = 0 := rfl
    exact h (0 : Int32) M hG F0 (by decide) (by decide) (by omega) (by omega) (by omega) (fun z => absurd z (by decide))
  · refine to_in (pc := 4) rw_163_4 rfl (to_an (pc := 5) rw_163_5 rfl (tt_gI (pc := 6) rw_163_6 (g_o hG rfl) (v := (M.2.1 77 1)) rfl (b_cle (pc := 9) rw_163_9 (A := n.toInt) (B := (M.2.1 77 1).toInt) rfl rfl (fun h6 => ?_) (fun h6 => ?_))))
    · refine to_an (pc := 14) rw_163_14 rfl (to_in (pc := 15) rw_163_15 rfl (s_pI (pc := 16) rw_163_16 hG rfl (fun M8 W7 => ?_)))
      have hG9 := g_w hG W7 (A := n.toInt) rfl (lo := 0) (hi := 500) rfl rfl (by omega) (by decide)
      have F10 := FR.w F0 W7 (show 77 = 77 ∧ (6 = 1 ∨ 4 ≤ 6 ∧ 6 ≤ 10) by decide)
      refine to_an (pc := 19) rw_163_19 rfl (to_c (pc := 20) rw_163_20 (x := (0 : Int32)) rfl rfl (s_pI (pc := 21) rw_163_21 hG9 rfl (fun M12 W11 => ?_)))
      have hG13 := g_w hG9 W11 (A := 0) rfl (lo := 0) (hi := 500) rfl rfl (by omega) (by decide)
      have F14 := FR.w F10 W11 (show 77 = 77 ∧ (1 = 1 ∨ 4 ≤ 1 ∧ 1 ≤ 10) by decide)
      refine to_an (pc := 24) rw_163_24 rfl (to_c (pc := 25) rw_163_25 (x := (0 : Int32)) rfl rfl (s_pI (pc := 26) rw_163_26 hG13 rfl (fun M16 W15 => ?_)))
      have hG17 := g_wf hG13 W15 rfl rfl (by decide)
      have F18 := FR.w F14 W15 (show 77 = 77 ∧ (4 = 1 ∨ 4 ≤ 4 ∧ 4 ≤ 10) by decide)
      refine to_an (pc := 29) rw_163_29 rfl (to_c (pc := 30) rw_163_30 (x := (-1 : Int32)) rfl rfl (s_pI (pc := 31) rw_163_31 hG17 rfl (fun M20 W19 => ?_)))
      have hG21 := g_wf hG17 W19 rfl rfl (by decide)
      have F22 := FR.w F18 W19 (show 77 = 77 ∧ (5 = 1 ∨ 4 ≤ 5 ∧ 5 ≤ 10) by decide)
      refine to_an (pc := 34) rw_163_34 rfl (to_c (pc := 35) rw_163_35 (x := (0 : Int32)) rfl rfl (s_pI (pc := 36) rw_163_36 hG21 rfl (fun M24 W23 => ?_)))
      have hG25 := g_w hG21 W23 (A := 0) rfl (lo := 0) (hi := 500) rfl rfl (by omega) (by decide)
      have F26 := FR.w F22 W23 (show 77 = 77 ∧ (7 = 1 ∨ 4 ≤ 7 ∧ 7 ≤ 10) by decide)
      refine to_an (pc := 39) rw_163_39 rfl (s_v (pc := 40) rw_163_40 (dp0 hd (by decide)) (ls0 := [.ref 77]) rfl (Nat.le_of_ble_eq_true rfl) (Nat.le_of_ble_eq_true rfl) rfl (to_rc rfl rfl rfl (g_o hG25 rfl)) rfl ?_)
      have c_27 : M24.2.1 77 7 = (0 : Int32) := (W_e W23)
      have k_28 : (0 : Int32).toInt = 0 := rfl
      have t_29 : (M24.2.1 77 7).toInt = (0 : Int32).toInt := congrArg Int32.toInt c_27
      have c_30 : M24.2.1 77 6 = n := (W_n W23 (by decide) (W_n W19 (by decide) (W_n W15 (by decide) (W_n W11 (by decide) (W_e W7)))))
      have t_31 : (M24.2.1 77 6).toInt = n.toInt := congrArg Int32.toInt c_30
      have j_32 := (TR_f (fun a i z => W_n W23 (tg_12 a i z) rfl) (TR_f (fun a i z => W_n W19 (tg_20 a i z) rfl) (TR_f (fun a i z => W_n W15 (tg_21 a i z) rfl) (TR_f (fun a i z => W_n W11 (tg_22 a i z) rfl) (TR_f (fun a i z => W_n W7 (tg_23 a i z) rfl) q3)))))
      have j_33 := (W9_f (fun a i z => W_n W23 (tg_14 a i z) rfl) (W9_f (fun a i z => W_n W19 (tg_24 a i z) rfl) (W9_f (fun a i z => W_n W15 (tg_25 a i z) rfl) (W9_f (fun a i z => W_n W11 (tg_26 a i z) rfl) (W9_f (fun a i z => W_n W7 (tg_27 a i z) rfl) q4)))))
      refine E_156 hX (dp1 hd (by decide)) hG25 (by omega) (by omega) (by omega) (by omega) j_32 j_33  (fun M40 hG35 F34 p_36 p_37 p_38 p_39 => ?_)
      have F41 := FR.c F26 F34 tg_11
      have b_42 := g_b hG35 (a := 77) (i := 7) (lo := 0) (hi := 500) rfl rfl
      have c_43 : M40.2.1 77 6 = n := (F_n F34 (show ¬ (77 = 77 ∧ 7 ≤ 6 ∧ 6 ≤ 10) by decide) c_30)
      have t_44 : (M40.2.1 77 6).toInt = n.toInt := congrArg Int32.toInt c_43
      have b_45 := g_b hG35 (a := 77) (i := 8) (lo := 0) (hi := 5) rfl rfl
      refine to_c (pc := 43) rw_163_43 (x := (1 : Int32)) rfl rfl (s_r1 (pc := 44) rw_163_44 (A := 1) rfl (by decide) ?_)
      have k_46 : (1 : Int32).toInt = 1 := rfl
      have c_47 : M40.2.1 77 1 = (0 : Int32) := (F_n F34 (show ¬ (77 = 77 ∧ 7 ≤ 1 ∧ 1 ≤ 10) by decide) (W_n W23 (by decide) (W_n W19 (by decide) (W_n W15 (by decide) (W_e W11)))))
      have t_48 : (M40.2.1 77 1).toInt = (0 : Int32).toInt := congrArg Int32.toInt c_47
      exact h (1 : Int32) M40 hG35 F41 (by decide) (by decide) (by omega) (by omega) (by omega) (fun _ => ⟨p_39.1, p_39.2.trans (congrArg (x_sk t nn) (by omega))⟩)
    · refine to_c (pc := 12) rw_163_12 (x := (0 : Int32)) rfl rfl (s_r1 (pc := 13) rw_163_13 (A := 0) rfl (by decide) ?_)
      have k_49 : (0 : Int32).toInt = 0 := rfl
      exact h (0 : Int32) M hG F0 (by decide) (by decide) (by omega) (by omega) (by omega) (fun z => absurd z (by decide))
end
section
theorem tg_28 {M M1 : mm_M} (F : FR (fun a i : Nat => a < 0) M M1) : ∀ a i : Nat, (a = 1 ∧ 5 ≤ i ∧ i ≤ 9 ∨ 3 ≤ a ∧ a ≤ 5) → M1.2.1 a i = M.2.1 a i := fun a i z => F_n F (show ¬ (a < 0) by omega) rfl
theorem tg_29 : ∀ a i : Nat, (a < 0) → (a < 0) := fun a i z => by omega
theorem tg_30 : ∀ a i : Nat, (a < 0) → (a = 1 ∧ (i = 10 ∨ i = 11)) := fun a i z => by omega
theorem tg_31 : ∀ a i : Nat, (a = 1 ∧ 6 ≤ i ∧ i ≤ 9) → (a = 1 ∧ 6 ≤ i ∧ i ≤ 11) := fun a i z => by omega
theorem tg_32 : ∀ a i : Nat, (a = 1 ∧ 5 ≤ i ∧ i ≤ 9 ∨ 3 ≤ a ∧ a ≤ 5) → ¬ (a = 1 ∧ i = 11) := fun a i z => by omega
theorem tg_33 : ∀ a i : Nat, (a = 1 ∧ 5 ≤ i ∧ i ≤ 9 ∨ 3 ≤ a ∧ a ≤ 5) → ¬ (a = 1 ∧ i = 10) := fun a i z => by omega
set_option maxRecDepth 4000 in
set_option maxHeartbeats 0 in
theorem E_86 {X : mm_X} {d : Nat} {M : mm_M} {Q : Option Value → mm_M → Prop} {x : Int32} {t : Nat → Int} {nn : Int} {a : Int} (hX : g_X X) (hd : 0 ≤ d) (hG : g_G M) (q1 : CS M t nn) (q2 : (M.2.1 1 9).toInt = a) (h : ∀ (r : Int32) (M1 : mm_M), g_G M1 → FR md_0 M M1 → (0 ≤ r.toInt) → (r.toInt ≤ 1) → (r.toInt = 1 → x_kind t nn a = 1 ∧ x_val t nn a = x.toInt) → (r.toInt = 0 → ¬ (x_kind t nn a = 1 ∧ x_val t nn a = x.toInt)) → Q (some (.int r)) M1) : mm_T X d 86 0 [.ref 1, .int x] [] M Q := by
  have F0 : FR md_0 M M := FR.rf
  have c_1 := CS_u q1 (a := a) (by omega)
  unfold x_C at c_1
  refine to_an (pc := 0) rw_86_0 rfl (tt_gI (pc := 1) rw_86_1 (g_o hG rfl) (v := (M.2.1 1 7)) rfl (to_c (pc := 4) rw_86_4 (x := (4 : Int32)) rfl rfl (b_cne (pc := 5) rw_86_5 (A := (M.2.1 1 7).toInt) (B := 4) rfl rfl (fun h2 => ?_) (fun h2 => ?_))))
  · refine to_c (pc := 20) rw_86_20 (x := (0 : Int32)) rfl rfl (s_r1 (pc := 21) rw_86_21 (A := 0) rfl (by decide) ?_)
    have k_3 : (0 : Int32).toInt = 0 := rfl
    exact h (0 : Int32) M hG F0 (by decide) (by decide) (by omega) (by omega)
  · refine to_an (pc := 8) rw_86_8 rfl (tt_gI (pc := 9) rw_86_9 (g_o hG rfl) (v := (M.2.1 1 8)) rfl (to_in (pc := 12) rw_86_12 rfl (b_cne (pc := 13) rw_86_13 (A := (M.2.1 1 8).toInt) (B := x.toInt) rfl rfl (fun h4 => ?_) (fun h4 => ?_))))
    · refine to_c (pc := 20) rw_86_20 (x := (0 : Int32)) rfl rfl (s_r1 (pc := 21) rw_86_21 (A := 0) rfl (by decide) ?_)
      have k_5 : (0 : Int32).toInt = 0 := rfl
      exact h (0 : Int32) M hG F0 (by decide) (by decide) (by omega) (by omega)
    · refine to_c (pc := 16) rw_86_16 (x := (1 : Int32)) rfl rfl (to_go (pc := 17) rw_86_17 (s_r1 (pc := 21) rw_86_21 (A := 1) rfl (by decide) ?_))
      have k_6 : (1 : Int32).toInt = 1 := rfl
      exact h (1 : Int32) M hG F0 (by decide) (by decide) (by omega) (by omega)
set_option maxRecDepth 4000 in
set_option maxHeartbeats 0 in
theorem E_88 {X : mm_X} {d : Nat} {M : mm_M} {Q : Option Value → mm_M → Prop} {l : Int32} {m : Int32} {t : Nat → Int} {nn : Int} {a : Int} (hX : g_X X) (hd : 1 ≤ d) (hG : g_G M) (q1 : CS M t nn) (q2 : (M.2.1 1 9).toInt = a) (h : ∀ (r : Int32) (M1 : mm_M), g_G M1 → FR md_fl M M1 → (0 ≤ r.toInt) → (r.toInt ≤ 1) → (r.toInt = 1 → x_kind t nn a = 3 ∧ x_val t nn a = (M.2.1 1 8).toInt ∧ l.toInt ≤ x_val t nn a ∧ x_val t nn a ≤ m.toInt) → (r.toInt = 0 → ¬ (x_kind t nn a = 3 ∧ l.toInt ≤ x_val t nn a ∧ x_val t nn a ≤ m.toInt)) → Q (some (.int r)) M1) : mm_T X d 88 0 [.ref 1, .int l, .int m] [] M Q := by
  have F0 : FR md_fl M M := FR.rf
  have c_1 := CS_u q1 (a := a) (by omega)
  unfold x_C at c_1
  refine to_an (pc := 0) rw_88_0 rfl (tt_gI (pc := 1) rw_88_1 (g_o hG rfl) (v := (M.2.1 1 7)) rfl (to_c (pc := 4) rw_88_4 (x := (2 : Int32)) rfl rfl (b_ceq (pc := 5) rw_88_5 (A := (M.2.1 1 7).toInt) (B := 2) rfl rfl (fun h2 => ?_) (fun h2 => ?_))))
  · refine to_an (pc := 14) rw_88_14 rfl (tt_gI (pc := 15) rw_88_15 (g_o hG rfl) (v := (M.2.1 1 8)) rfl (to_in (pc := 18) rw_88_18 rfl (b_clt (pc := 19) rw_88_19 (A := (M.2.1 1 8).toInt) (B := l.toInt) rfl rfl (fun h3 => ?_) (fun h3 => ?_))))
    · refine to_an (pc := 30) rw_88_30 rfl (to_c (pc := 31) rw_88_31 (x := (2 : Int32)) rfl rfl (s_v (pc := 32) rw_88_32 (dp0 hd (by decide)) (ls0 := [.ref 1, .int (2 : Int32)]) rfl (Nat.le_of_ble_eq_true rfl) (Nat.le_of_ble_eq_true rfl) rfl (to_rc rfl rfl rfl (g_o hG rfl)) rfl (to_an (pc := 0) rw_84_0 rfl (to_in (pc := 1) rw_84_1 rfl (s_pI (pc := 2) rw_84_2 hG rfl (fun M5 W4 => ?_))))))
      have hG6 := g_wf hG W4 rfl rfl (by decide)
      have F7 := FR.w F0 W4 (show 1 = 1 ∧ (10 = 10 ∨ 10 = 11) by decide)
      refine to_an (pc := 5) rw_84_5 rfl (to_an (pc := 6) rw_84_6 rfl ?_)
      have c_8 : M5.2.1 1 9 = (M.2.1 1 9) := (W_n W4 (by decide) rfl)
      refine tt_gI (pc := 7) rw_84_7 (g_o hG6 rfl) (v := (M.2.1 1 9)) c_8 (s_pI (pc := 10) rw_84_10 hG6 rfl (fun M10 W9 => ?_))
      have hG11 := g_wf hG6 W9 rfl rfl (by decide)
      have F12 := FR.w F7 W9 (show 1 = 1 ∧ (11 = 10 ∨ 11 = 11) by decide)
      refine to_c (pc := 13) rw_84_13 (x := (0 : Int32)) rfl rfl (s_r1 (pc := 14) rw_84_14 (A := 0) rfl (by decide) (b_ieq_t (pc := 35) rw_88_35 (A := 0) rfl (by decide) (to_c (pc := 42) rw_88_42 (x := (0 : Int32)) rfl rfl (s_r1 (pc := 43) rw_88_43 (A := 0) rfl (by decide) ?_))))
      have k_13 : (0 : Int32).toInt = 0 := rfl
      exact h (0 : Int32) M10 hG11 F12 (by decide) (by decide) (by omega) (by omega)
    · refine to_an (pc := 22) rw_88_22 rfl (tt_gI (pc := 23) rw_88_23 (g_o hG rfl) (v := (M.2.1 1 8)) rfl (to_in (pc := 26) rw_88_26 rfl (b_cle (pc := 27) rw_88_27 (A := (M.2.1 1 8).toInt) (B := m.toInt) rfl rfl (fun h14 => ?_) (fun h14 => ?_))))
      · refine to_c (pc := 38) rw_88_38 (x := (1 : Int32)) rfl rfl (to_go (pc := 39) rw_88_39 (s_r1 (pc := 43) rw_88_43 (A := 1) rfl (by decide) ?_))
        have k_15 : (1 : Int32).toInt = 1 := rfl
        exact h (1 : Int32) M hG F0 (by decide) (by decide) (by omega) (by omega)
      · refine to_an (pc := 30) rw_88_30 rfl (to_c (pc := 31) rw_88_31 (x := (2 : Int32)) rfl rfl (s_v (pc := 32) rw_88_32 (dp0 hd (by decide)) (ls0 := [.ref 1, .int (2 : Int32)]) rfl (Nat.le_of_ble_eq_true rfl) (Nat.le_of_ble_eq_true rfl) rfl (to_rc rfl rfl rfl (g_o hG rfl)) rfl (to_an (pc := 0) rw_84_0 rfl (to_in (pc := 1) rw_84_1 rfl (s_pI (pc := 2) rw_84_2 hG rfl (fun M17 W16 => ?_))))))
        have hG18 := g_wf hG W16 rfl rfl (by decide)
        have F19 := FR.w F0 W16 (show 1 = 1 ∧ (10 = 10 ∨ 10 = 11) by decide)
        refine to_an (pc := 5) rw_84_5 rfl (to_an (pc := 6) rw_84_6 rfl ?_)
        have c_20 : M17.2.1 1 9 = (M.2.1 1 9) := (W_n W16 (by decide) rfl)
        refine tt_gI (pc := 7) rw_84_7 (g_o hG18 rfl) (v := (M.2.1 1 9)) c_20 (s_pI (pc := 10) rw_84_10 hG18 rfl (fun M22 W21 => ?_))
        have hG23 := g_wf hG18 W21 rfl rfl (by decide)
        have F24 := FR.w F19 W21 (show 1 = 1 ∧ (11 = 10 ∨ 11 = 11) by decide)
        refine to_c (pc := 13) rw_84_13 (x := (0 : Int32)) rfl rfl (s_r1 (pc := 14) rw_84_14 (A := 0) rfl (by decide) (b_ieq_t (pc := 35) rw_88_35 (A := 0) rfl (by decide) (to_c (pc := 42) rw_88_42 (x := (0 : Int32)) rfl rfl (s_r1 (pc := 43) rw_88_43 (A := 0) rfl (by decide) ?_))))
        have k_25 : (0 : Int32).toInt = 0 := rfl
        exact h (0 : Int32) M22 hG23 F24 (by decide) (by decide) (by omega) (by omega)
  · refine to_an (pc := 8) rw_88_8 rfl (to_c (pc := 9) rw_88_9 (x := (1 : Int32)) rfl rfl (s_v (pc := 10) rw_88_10 (dp0 hd (by decide)) (ls0 := [.ref 1, .int (1 : Int32)]) rfl (Nat.le_of_ble_eq_true rfl) (Nat.le_of_ble_eq_true rfl) rfl (to_rc rfl rfl rfl (g_o hG rfl)) rfl (to_an (pc := 0) rw_84_0 rfl (to_in (pc := 1) rw_84_1 rfl (s_pI (pc := 2) rw_84_2 hG rfl (fun M27 W26 => ?_))))))
    have hG28 := g_wf hG W26 rfl rfl (by decide)
    have F29 := FR.w F0 W26 (show 1 = 1 ∧ (10 = 10 ∨ 10 = 11) by decide)
    refine to_an (pc := 5) rw_84_5 rfl (to_an (pc := 6) rw_84_6 rfl ?_)
    have c_30 : M27.2.1 1 9 = (M.2.1 1 9) := (W_n W26 (by decide) rfl)
    refine tt_gI (pc := 7) rw_84_7 (g_o hG28 rfl) (v := (M.2.1 1 9)) c_30 (s_pI (pc := 10) rw_84_10 hG28 rfl (fun M32 W31 => ?_))
    have hG33 := g_wf hG28 W31 rfl rfl (by decide)
    have F34 := FR.w F29 W31 (show 1 = 1 ∧ (11 = 10 ∨ 11 = 11) by decide)
    refine to_c (pc := 13) rw_84_13 (x := (0 : Int32)) rfl rfl (s_r1 (pc := 14) rw_84_14 (A := 0) rfl (by decide) (s_r1 (pc := 13) rw_88_13 (A := 0) rfl (by decide) ?_))
    have k_35 : (0 : Int32).toInt = 0 := rfl
    exact h (0 : Int32) M32 hG33 F34 (by decide) (by decide) (by omega) (by omega)
set_option maxRecDepth 4000 in
set_option maxHeartbeats 0 in
theorem U_54f_0 {X : mm_X} {d : Nat} {M : mm_M} {Q : Option Value → mm_M → Prop} {f : Nat} {s : Int32} {x : Int32} (hX : g_X X) (hd : 0 ≤ d) (hf : f = 50 ∨ f = 59) (q1 : 0 ≤ s.toInt) (q2 : s.toInt ≤ 8) (h : ∀ (r : Int32) (M1 : mm_M), g_G M1 → FR md_0 M M1 → (-1 ≤ r.toInt) → (r.toInt ≤ 7) → (r.toInt = x_find (fun k => (M.2.1 f k).toInt) x.toInt (s.toInt).toNat 0) → Q (some (.int r)) M1) : ∀ nn9 : Nat, (∀ (N : mm_M) (x3 : Int32), g_G N → FR md_0 M N → (0 ≤ x3.toInt) → (x3.toInt ≤ 8) → (x3.toInt ≤ s.toInt) → (N = M) → (x_find (fun k => (M.2.1 f k).toInt) x.toInt (s.toInt - x3.toInt).toNat (x3.toInt).toNat = x_find (fun k => (M.2.1 f k).toInt) x.toInt (s.toInt).toNat 0) → 8 - x3.toInt < (nn9 : Int) → mm_T X d 54 2 [.ref f, .int s, .int x, .int x3] [] N Q) := by
  intro nn9
  induction nn9 with
  | zero =>
    intro N x3 hG F0 g1 g2 g3 g4 g5 hm
    exfalso; omega
  | succ nn9 ih =>
    intro N x3 hG F0 g1 g2 g3 g4 g5 hm
    refine to_in (pc := 2) rw_54_2 rfl (to_in (pc := 3) rw_54_3 rfl (b_cge (pc := 4) rw_54_4 (A := x3.toInt) (B := s.toInt) rfl rfl (fun h1 => ?_) (fun h1 => ?_)))
    · refine to_c (pc := 28) rw_54_28 (x := (-1 : Int32)) rfl rfl (to_r0 (pc := 29) rw_54_29 ?_)
      have k_2 : (-1 : Int32).toInt = -1 := rfl
      have z_3 := x_fi_n (g := (fun k => (M.2.1 f k).toInt)) (v := x.toInt) (n := s.toInt) (x3 := x3.toInt) (by omega) g5
      exact h (-1 : Int32) N hG F0 (by omega) (by omega) (by omega)
    · refine to_in (pc := 7) rw_54_7 rfl (to_an (pc := 8) rw_54_8 rfl (s_len (pc := 9) rw_54_9 hG (by rcases hf with rfl | rfl <;> rfl) (by rcases hf with rfl | rfl <;> rfl) (n := 8) (by rcases hf with rfl | rfl <;> rfl) (v := (8 : Int32)) rfl (b_cge_f (pc := 10) rw_54_10 (A := x3.toInt) (B := 8) rfl rfl (by omega) (to_an (pc := 13) rw_54_13 rfl (to_in (pc := 14) rw_54_14 rfl (s_ial (pc := 15) rw_54_15 hG (by rcases hf with rfl | rfl <;> rfl) (n := 8) (by rcases hf with rfl | rfl <;> rfl) (by rcases hf with rfl | rfl <;> rfl) (A := x3.toInt) rfl (by omega) (by omega) (lo := -2147483648) (hi := 2147483647) (by rcases hf with rfl | rfl <;> rfl) (by rcases hf with rfl | rfl <;> rfl) (fun v4 w_5 _ _ => to_in (pc := 16) rw_54_16 rfl (b_cne (pc := 17) rw_54_17 (A := v4.toInt) (B := x.toInt) rfl rfl (fun h6 => ?_) (fun h6 => ?_)))))))))
      · refine s_inc (pc := 22) rw_54_22 (ls2 := fun v => [.ref f, .int s, .int x, .int v]) rfl rfl (fun _ => rfl) (A := x3.toInt) (B := 1) rfl rfl (by omega) (fun v7 e8 => to_go (pc := 25) rw_54_25 ?_)
        exact ih N v7 hG F0 (by omega) (by omega) (by omega) g4 (x_fi_e (g := (fun k => (M.2.1 f k).toInt)) (x3 := x3.toInt) (y := v7.toInt) (by omega) (by omega) (by rw [← g4]; rw [show (N.2.1 f (x3.toInt).toNat) = _ from w_5]; omega) (by omega) g5) (by omega)
      · refine to_in (pc := 20) rw_54_20 rfl (to_r0 (pc := 21) rw_54_21 ?_)
        have z_9 := x_fi_y (g := (fun k => (M.2.1 f k).toInt)) (v := x.toInt) (n := s.toInt) (x3 := x3.toInt) (by omega) (by omega) (by rw [← g4]; rw [show (N.2.1 f (x3.toInt).toNat) = _ from w_5]; omega) g5
        exact h x3 N hG F0 (by omega) (by omega) (by omega)
set_option maxRecDepth 4000 in
set_option maxHeartbeats 0 in
theorem E_54f {X : mm_X} {d : Nat} {M : mm_M} {Q : Option Value → mm_M → Prop} {f : Nat} {s : Int32} {x : Int32} (hX : g_X X) (hd : 0 ≤ d) (hG : g_G M) (hf : f = 50 ∨ f = 59) (q1 : 0 ≤ s.toInt) (q2 : s.toInt ≤ 8) (h : ∀ (r : Int32) (M1 : mm_M), g_G M1 → FR md_0 M M1 → (-1 ≤ r.toInt) → (r.toInt ≤ 7) → (r.toInt = x_find (fun k => (M.2.1 f k).toInt) x.toInt (s.toInt).toNat 0) → Q (some (.int r)) M1) : mm_T X d 54 0 [.ref f, .int s, .int x, .null] [] M Q := by
  have F0 : FR md_0 M M := FR.rf
  refine to_c (pc := 0) rw_54_0 (x := (0 : Int32)) rfl rfl (to_isn (pc := 1) rw_54_1 (ls2 := [.ref f, .int s, .int x, .int (0 : Int32)]) rfl rfl ?_)
  have k_10 : (0 : Int32).toInt = 0 := rfl
  exact (U_54f_0 (f := f) (s := s) (x := x) hX hd hf q1 q2 h ((8 - (0 : Int32).toInt).toNat + 1)) M (0 : Int32) hG F0 (by omega) (by omega) (by omega) rfl (by rw [show (s.toInt - (0 : Int32).toInt).toNat = s.toInt.toNat by rw [show (0 : Int32).toInt = 0 from rfl]; congr 1; omega]; rfl) (by omega)
set_option maxRecDepth 4000 in
set_option maxHeartbeats 0 in
theorem U_54g_0 {X : mm_X} {d : Nat} {M : mm_M} {Q : Option Value → mm_M → Prop} {g : Nat} {s : Int32} {x : Int32} (hX : g_X X) (hd : 0 ≤ d) (hg : g = 55 ∨ g = 64) (q1 : 0 ≤ s.toInt) (q2 : s.toInt ≤ 12) (h : ∀ (r : Int32) (M1 : mm_M), g_G M1 → FR md_0 M M1 → (-1 ≤ r.toInt) → (r.toInt ≤ 11) → (r.toInt = x_find (fun k => (M.2.1 g k).toInt) x.toInt (s.toInt).toNat 0) → Q (some (.int r)) M1) : ∀ nn9 : Nat, (∀ (N : mm_M) (x3 : Int32), g_G N → FR md_0 M N → (0 ≤ x3.toInt) → (x3.toInt ≤ 12) → (x3.toInt ≤ s.toInt) → (N = M) → (x_find (fun k => (M.2.1 g k).toInt) x.toInt (s.toInt - x3.toInt).toNat (x3.toInt).toNat = x_find (fun k => (M.2.1 g k).toInt) x.toInt (s.toInt).toNat 0) → 12 - x3.toInt < (nn9 : Int) → mm_T X d 54 2 [.ref g, .int s, .int x, .int x3] [] N Q) := by
  intro nn9
  induction nn9 with
  | zero =>
    intro N x3 hG F0 g1 g2 g3 g4 g5 hm
    exfalso; omega
  | succ nn9 ih =>
    intro N x3 hG F0 g1 g2 g3 g4 g5 hm
    refine to_in (pc := 2) rw_54_2 rfl (to_in (pc := 3) rw_54_3 rfl (b_cge (pc := 4) rw_54_4 (A := x3.toInt) (B := s.toInt) rfl rfl (fun h1 => ?_) (fun h1 => ?_)))
    · refine to_c (pc := 28) rw_54_28 (x := (-1 : Int32)) rfl rfl (to_r0 (pc := 29) rw_54_29 ?_)
      have k_2 : (-1 : Int32).toInt = -1 := rfl
      have z_3 := x_fi_n (g := (fun k => (M.2.1 g k).toInt)) (v := x.toInt) (n := s.toInt) (x3 := x3.toInt) (by omega) g5
      exact h (-1 : Int32) N hG F0 (by omega) (by omega) (by omega)
    · refine to_in (pc := 7) rw_54_7 rfl (to_an (pc := 8) rw_54_8 rfl (s_len (pc := 9) rw_54_9 hG (by rcases hg with rfl | rfl <;> rfl) (by rcases hg with rfl | rfl <;> rfl) (n := 12) (by rcases hg with rfl | rfl <;> rfl) (v := (12 : Int32)) rfl (b_cge_f (pc := 10) rw_54_10 (A := x3.toInt) (B := 12) rfl rfl (by omega) (to_an (pc := 13) rw_54_13 rfl (to_in (pc := 14) rw_54_14 rfl (s_ial (pc := 15) rw_54_15 hG (by rcases hg with rfl | rfl <;> rfl) (n := 12) (by rcases hg with rfl | rfl <;> rfl) (by rcases hg with rfl | rfl <;> rfl) (A := x3.toInt) rfl (by omega) (by omega) (lo := -2147483648) (hi := 2147483647) (by rcases hg with rfl | rfl <;> rfl) (by rcases hg with rfl | rfl <;> rfl) (fun v4 w_5 _ _ => to_in (pc := 16) rw_54_16 rfl (b_cne (pc := 17) rw_54_17 (A := v4.toInt) (B := x.toInt) rfl rfl (fun h6 => ?_) (fun h6 => ?_)))))))))
      · refine s_inc (pc := 22) rw_54_22 (ls2 := fun v => [.ref g, .int s, .int x, .int v]) rfl rfl (fun _ => rfl) (A := x3.toInt) (B := 1) rfl rfl (by omega) (fun v7 e8 => to_go (pc := 25) rw_54_25 ?_)
        exact ih N v7 hG F0 (by omega) (by omega) (by omega) g4 (x_fi_e (g := (fun k => (M.2.1 g k).toInt)) (x3 := x3.toInt) (y := v7.toInt) (by omega) (by omega) (by rw [← g4]; rw [show (N.2.1 g (x3.toInt).toNat) = _ from w_5]; omega) (by omega) g5) (by omega)
      · refine to_in (pc := 20) rw_54_20 rfl (to_r0 (pc := 21) rw_54_21 ?_)
        have z_9 := x_fi_y (g := (fun k => (M.2.1 g k).toInt)) (v := x.toInt) (n := s.toInt) (x3 := x3.toInt) (by omega) (by omega) (by rw [← g4]; rw [show (N.2.1 g (x3.toInt).toNat) = _ from w_5]; omega) g5
        exact h x3 N hG F0 (by omega) (by omega) (by omega)
set_option maxRecDepth 4000 in
set_option maxHeartbeats 0 in
theorem E_54g {X : mm_X} {d : Nat} {M : mm_M} {Q : Option Value → mm_M → Prop} {g : Nat} {s : Int32} {x : Int32} (hX : g_X X) (hd : 0 ≤ d) (hG : g_G M) (hg : g = 55 ∨ g = 64) (q1 : 0 ≤ s.toInt) (q2 : s.toInt ≤ 12) (h : ∀ (r : Int32) (M1 : mm_M), g_G M1 → FR md_0 M M1 → (-1 ≤ r.toInt) → (r.toInt ≤ 11) → (r.toInt = x_find (fun k => (M.2.1 g k).toInt) x.toInt (s.toInt).toNat 0) → Q (some (.int r)) M1) : mm_T X d 54 0 [.ref g, .int s, .int x, .null] [] M Q := by
  have F0 : FR md_0 M M := FR.rf
  refine to_c (pc := 0) rw_54_0 (x := (0 : Int32)) rfl rfl (to_isn (pc := 1) rw_54_1 (ls2 := [.ref g, .int s, .int x, .int (0 : Int32)]) rfl rfl ?_)
  have k_10 : (0 : Int32).toInt = 0 := rfl
  exact (U_54g_0 (g := g) (s := s) (x := x) hX hd hg q1 q2 h ((12 - (0 : Int32).toInt).toNat + 1)) M (0 : Int32) hG F0 (by omega) (by omega) (by omega) rfl (by rw [show (s.toInt - (0 : Int32).toInt).toNat = s.toInt.toNat by rw [show (0 : Int32).toInt = 0 from rfl]; congr 1; omega]; rfl) (by omega)
set_option maxRecDepth 4000 in
set_option maxHeartbeats 0 in
theorem E_35 {X : mm_X} {d : Nat} {M : mm_M} {Q : Option Value → mm_M → Prop} {t : Nat → Int} {nn : Int} {a : Int} (hX : g_X X) (hd : 1 ≤ d) (hG : g_G M) (q1 : CS M t nn) (q2 : (M.2.1 1 9).toInt = a) (h : ∀ (r : Int32) (M1 : mm_M), g_G M1 → FR md_0 M M1 → (-1 ≤ r.toInt) → (r.toInt ≤ 3) → (r.toInt = -1 → ¬ (x_kind t nn a = 1 ∧ 3 ≤ x_kx (x_val t nn a) ∧ x_kx (x_val t nn a) ≤ 6)) → (0 ≤ r.toInt → x_kind t nn a = 1 ∧ x_kx (x_val t nn a) = r.toInt + 3) → Q (some (.int r)) M1) : mm_T X d 35 0 [.ref 1] [] M Q := by
  have F0 : FR md_0 M M := FR.rf
  have z_1 := x_kx_s (x_val t nn a)
  refine to_an (pc := 0) rw_35_0 rfl (to_c (pc := 1) rw_35_1 (x := (518160384 : Int32)) rfl rfl (s_v (pc := 3) rw_35_3 (dp0 hd (by decide)) (ls0 := [.ref 1, .int (518160384 : Int32)]) rfl (Nat.le_of_ble_eq_true rfl) (Nat.le_of_ble_eq_true rfl) rfl (to_rc rfl rfl rfl (g_o hG rfl)) rfl ?_))
  have k_2 : (518160384 : Int32).toInt = 518160384 := rfl
  refine E_86 hX (dp1 hd (by decide)) hG q1 (by omega) (x := (518160384 : Int32)) (t := t) (nn := nn) (a := a) (fun r3 M10 hG5 F4 p_6 p_7 p_8 p_9 => ?_)
  have F11 := FR.c F0 F4 tg_29
  rcases (show r3.toInt = 0 ∨ r3.toInt = 1 by omega) with h12 | h12
  · skip
    have p_13 := p_9 (by omega)
    clear p_8 p_9
    refine b_ieq_t (pc := 6) rw_35_6 (A := r3.toInt) rfl (by omega) (to_an (pc := 11) rw_35_11 rfl (to_c (pc := 12) rw_35_12 (x := (659999744 : Int32)) rfl rfl (s_v (pc := 14) rw_35_14 (dp0 hd (by decide)) (ls0 := [.ref 1, .int (659999744 : Int32)]) rfl (Nat.le_of_ble_eq_true rfl) (Nat.le_of_ble_eq_true rfl) rfl (to_rc rfl rfl rfl (g_o hG5 rfl)) rfl ?_)))
    have k_14 : (659999744 : Int32).toInt = 659999744 := rfl
    have j_15 := (CS_f (tg_28 F4) q1)
    have c_16 : M10.2.1 1 9 = (M.2.1 1 9) := (F_n F4 (show ¬ (1 < 0) by decide) rfl)
    have t_17 : (M10.2.1 1 9).toInt = (M.2.1 1 9).toInt := congrArg Int32.toInt c_16
    refine E_86 hX (dp1 hd (by decide)) hG5 j_15 (by omega) (x := (659999744 : Int32)) (t := t) (nn := nn) (a := a) (fun r18 M25 hG20 F19 p_21 p_22 p_23 p_24 => ?_)
    have F26 := FR.c F11 F19 tg_29
    rcases (show r18.toInt = 0 ∨ r18.toInt = 1 by omega) with h27 | h27
    · skip
      have p_28 := p_24 (by omega)
      clear p_23 p_24
      refine b_ieq_t (pc := 17) rw_35_17 (A := r18.toInt) rfl (by omega) (to_an (pc := 22) rw_35_22 rfl (to_c (pc := 23) rw_35_23 (x := (538233440 : Int32)) rfl rfl (s_v (pc := 25) rw_35_25 (dp0 hd (by decide)) (ls0 := [.ref 1, .int (538233440 : Int32)]) rfl (Nat.le_of_ble_eq_true rfl) (Nat.le_of_ble_eq_true rfl) rfl (to_rc rfl rfl rfl (g_o hG20 rfl)) rfl ?_)))
      have k_29 : (538233440 : Int32).toInt = 538233440 := rfl
      have j_30 := (CS_f (tg_28 F19) j_15)
      have c_31 : M25.2.1 1 9 = (M.2.1 1 9) := (F_n F19 (show ¬ (1 < 0) by decide) c_16)
      have t_32 : (M25.2.1 1 9).toInt = (M.2.1 1 9).toInt := congrArg Int32.toInt c_31
      refine E_86 hX (dp1 hd (by decide)) hG20 j_30 (by omega) (x := (538233440 : Int32)) (t := t) (nn := nn) (a := a) (fun r33 M40 hG35 F34 p_36 p_37 p_38 p_39 => ?_)
      have F41 := FR.c F26 F34 tg_29
      rcases (show r33.toInt = 0 ∨ r33.toInt = 1 by omega) with h42 | h42
      · skip
        have p_43 := p_39 (by omega)
        clear p_38 p_39
        refine b_ieq_t (pc := 28) rw_35_28 (A := r33.toInt) rfl (by omega) (to_an (pc := 33) rw_35_33 rfl (to_c (pc := 34) rw_35_34 (x := (404000768 : Int32)) rfl rfl (s_v (pc := 36) rw_35_36 (dp0 hd (by decide)) (ls0 := [.ref 1, .int (404000768 : Int32)]) rfl (Nat.le_of_ble_eq_true rfl) (Nat.le_of_ble_eq_true rfl) rfl (to_rc rfl rfl rfl (g_o hG35 rfl)) rfl ?_)))
        have k_44 : (404000768 : Int32).toInt = 404000768 := rfl
        have j_45 := (CS_f (tg_28 F34) j_30)
        have c_46 : M40.2.1 1 9 = (M.2.1 1 9) := (F_n F34 (show ¬ (1 < 0) by decide) c_31)
        have t_47 : (M40.2.1 1 9).toInt = (M.2.1 1 9).toInt := congrArg Int32.toInt c_46
        refine E_86 hX (dp1 hd (by decide)) hG35 j_45 (by omega) (x := (404000768 : Int32)) (t := t) (nn := nn) (a := a) (fun r48 M55 hG50 F49 p_51 p_52 p_53 p_54 => ?_)
        have F56 := FR.c F41 F49 tg_29
        rcases (show r48.toInt = 0 ∨ r48.toInt = 1 by omega) with h57 | h57
        · skip
          have p_58 := p_54 (by omega)
          clear p_53 p_54
          refine b_ieq_t (pc := 39) rw_35_39 (A := r48.toInt) rfl (by omega) (to_c (pc := 46) rw_35_46 (x := (-1 : Int32)) rfl rfl (to_r0 (pc := 47) rw_35_47 ?_))
          have k_59 : (-1 : Int32).toInt = -1 := rfl
          exact h (-1 : Int32) M55 hG50 F56 (by omega) (by omega) (by omega) (by omega)
        · skip
          have p_60 := p_53 (by omega)
          clear p_53 p_54
          refine b_ieq_f (pc := 39) rw_35_39 (A := r48.toInt) rfl (by omega) (to_c (pc := 42) rw_35_42 (x := (3 : Int32)) rfl rfl (to_go (pc := 43) rw_35_43 (to_r0 (pc := 47) rw_35_47 ?_)))
          have k_61 : (3 : Int32).toInt = 3 := rfl
          exact h (3 : Int32) M55 hG50 F56 (by omega) (by omega) (by omega) (by omega)
      · skip
        have p_62 := p_38 (by omega)
        clear p_38 p_39
        refine b_ieq_f (pc := 28) rw_35_28 (A := r33.toInt) rfl (by omega) (to_c (pc := 31) rw_35_31 (x := (2 : Int32)) rfl rfl (to_r0 (pc := 32) rw_35_32 ?_))
        have k_63 : (2 : Int32).toInt = 2 := rfl
        exact h (2 : Int32) M40 hG35 F41 (by omega) (by omega) (by omega) (by omega)
    · skip
      have p_64 := p_23 (by omega)
      clear p_23 p_24
      refine b_ieq_f (pc := 17) rw_35_17 (A := r18.toInt) rfl (by omega) (to_c (pc := 20) rw_35_20 (x := (1 : Int32)) rfl rfl (to_r0 (pc := 21) rw_35_21 ?_))
      have k_65 : (1 : Int32).toInt = 1 := rfl
      exact h (1 : Int32) M25 hG20 F26 (by omega) (by omega) (by omega) (by omega)
  · skip
    have p_66 := p_8 (by omega)
    clear p_8 p_9
    refine b_ieq_f (pc := 6) rw_35_6 (A := r3.toInt) rfl (by omega) (to_c (pc := 9) rw_35_9 (x := (0 : Int32)) rfl rfl (to_r0 (pc := 10) rw_35_10 ?_))
    have k_67 : (0 : Int32).toInt = 0 := rfl
    exact h (0 : Int32) M10 hG5 F11 (by omega) (by omega) (by omega) (by omega)
set_option maxRecDepth 4000 in
set_option maxHeartbeats 0 in
theorem E_34 {X : mm_X} {d : Nat} {M : mm_M} {Q : Option Value → mm_M → Prop} {p : Nat} {t : Nat → Int} {nn : Int} {a : Int} {sg : x_S} (hX : g_X X) (hd : 2 ≤ d) (hG : g_G M) (hp : p = 49 ∨ p = 58) (q1 : CS M t nn) (q2 : (M.2.1 1 9).toInt = a) (q3 : PLc M p sg) (h : ∀ (r : Int32) (M1 : mm_M), g_G M1 → FR md_fl M M1 → (0 ≤ r.toInt) → (r.toInt ≤ 1) → (r.toInt = 1 → x_kind t nn a = 2 ∧ x_fn sg 1 (x_val t nn a) = -1 ∧ x_fn sg 6 (x_val t nn a) = -1) → (r.toInt = 1 → x_val t nn a = (M.2.1 1 8).toInt) → (r.toInt = 0 → ¬ (x_kind t nn a = 2 ∧ x_fn sg 1 (x_val t nn a) = -1 ∧ x_fn sg 6 (x_val t nn a) = -1)) → Q (some (.int r)) M1) : mm_T X d 34 0 [.ref p, .ref 1] [] M Q := by
  have F0 : FR md_fl M M := FR.rf
  have c_1 := CS_u q1 (a := a) (by omega)
  unfold x_C at c_1
  have z_2 := q3.2.1
  have z_3 := q3.2.2.1
  have z_4 := q3.2.2.2.1
  have z_5 := q3.1
  have z_6 := z_5.1
  have z_7 := z_5.2.1
  have z_8 := z_5.2.2.1
  have z_9 := z_5.2.2.2.1
  have z_10 := z_5.2.2.2.2.1
  have z_11 := z_5.2.2.2.2.2.1
  have b_12 := g_b hG (a := p) (i := 2) (lo := 0) (hi := 8) (by rcases hp with rfl | rfl <;> rfl) (by rcases hp with rfl | rfl <;> rfl)
  have b_13 := g_b hG (a := p) (i := 3) (lo := 0) (hi := 12) (by rcases hp with rfl | rfl <;> rfl) (by rcases hp with rfl | rfl <;> rfl)
  refine to_an (pc := 0) rw_34_0 rfl (tt_gI (pc := 1) rw_34_1 (g_o hG rfl) (v := (M.2.1 1 7)) rfl (to_c (pc := 4) rw_34_4 (x := (3 : Int32)) rfl rfl (b_ceq (pc := 5) rw_34_5 (A := (M.2.1 1 7).toInt) (B := 3) rfl rfl (fun h14 => ?_) (fun h14 => ?_))))
  · refine to_an (pc := 14) rw_34_14 rfl (to_an (pc := 15) rw_34_15 rfl (tt_gI (pc := 16) rw_34_16 (g_o hG rfl) (v := (M.2.1 1 8)) rfl (s_v (pc := 19) rw_34_19 (dp0 hd (by decide)) (ls0 := [.ref p, .int (M.2.1 1 8)]) rfl (Nat.le_of_ble_eq_true rfl) (Nat.le_of_ble_eq_true rfl) rfl (to_rc rfl rfl rfl (g_o hG (by rcases hp with rfl | rfl <;> rfl))) rfl (to_an (pc := 0) rw_52_0 rfl (s_gR (pc := 1) rw_52_1 hG (by rcases hp with rfl | rfl <;> rfl) (v := (p + 1)) (by rcases hp with rfl | rfl <;> rfl) (to_an (pc := 4) rw_52_4 rfl (tt_gI (pc := 5) rw_52_5 (g_o hG (by rcases hp with rfl | rfl <;> rfl)) (v := (M.2.1 p 2)) rfl (to_in (pc := 8) rw_52_8 rfl (s_s (pc := 9) rw_52_9 (dp1 hd (by decide)) (ls0 := [.ref (p + 1), .int (M.2.1 p 2), .int (M.2.1 1 8), .null]) rfl (Nat.le_of_ble_eq_true rfl) (Nat.le_of_ble_eq_true rfl) rfl (to_rcs rfl rfl) rfl (E_54f hX (dp2 hd (by decide)) hG (by omega) (by omega) (by omega) (f := (p + 1)) (s := (M.2.1 p 2)) (x := (M.2.1 1 8)) (fun r15 M21 hG17 F16 p_18 p_19 p_20 => ?_)))))))))))
    have F22 := FR.c F0 F16 tg_30
    have z_23 := PLc_n (v := (M.2.1 1 8).toInt) q3 (n := (M.2.1 p 2).toInt) (by omega)
    refine to_r0 (pc := 12) rw_52_12 (to_c (pc := 22) rw_34_22 (x := (-1 : Int32)) rfl rfl (b_cne (pc := 23) rw_34_23 (A := r15.toInt) (B := -1) rfl rfl (fun h24 => ?_) (fun h24 => ?_)))
    · refine to_an (pc := 38) rw_34_38 rfl (to_c (pc := 39) rw_34_39 (x := (3 : Int32)) rfl rfl (s_v (pc := 40) rw_34_40 (dp0 hd (by decide)) (ls0 := [.ref 1, .int (3 : Int32)]) rfl (Nat.le_of_ble_eq_true rfl) (Nat.le_of_ble_eq_true rfl) rfl (to_rc rfl rfl rfl (g_o hG17 rfl)) rfl (to_an (pc := 0) rw_84_0 rfl (to_in (pc := 1) rw_84_1 rfl (s_pI (pc := 2) rw_84_2 hG17 rfl (fun M26 W25 => ?_))))))
      have hG27 := g_wf hG17 W25 rfl rfl (by decide)
      have F28 := FR.w F22 W25 (show 1 = 1 ∧ (10 = 10 ∨ 10 = 11) by decide)
      refine to_an (pc := 5) rw_84_5 rfl (to_an (pc := 6) rw_84_6 rfl ?_)
      have c_29 : M26.2.1 1 9 = (M.2.1 1 9) := (W_n W25 (by decide) (F_n F16 (show ¬ (1 < 0) by decide) rfl))
      refine tt_gI (pc := 7) rw_84_7 (g_o hG27 rfl) (v := (M.2.1 1 9)) c_29 (s_pI (pc := 10) rw_84_10 hG27 rfl (fun M31 W30 => ?_))
      have hG32 := g_wf hG27 W30 rfl rfl (by decide)
      have F33 := FR.w F28 W30 (show 1 = 1 ∧ (11 = 10 ∨ 11 = 11) by decide)
      refine to_c (pc := 13) rw_84_13 (x := (0 : Int32)) rfl rfl (s_r1 (pc := 14) rw_84_14 (A := 0) rfl (by decide) (s_r1 (pc := 43) rw_34_43 (A := 0) rfl (by decide) ?_))
      have k_34 : (0 : Int32).toInt = 0 := rfl
      have z_35 := x_fn_v (s := sg) (r := 1) (v := (M.2.1 1 8).toInt) (w := x_val t nn a)
      have z_36 := x_fn_v (s := sg) (r := 6) (v := (M.2.1 1 8).toInt) (w := x_val t nn a)
      exact h (0 : Int32) M31 hG32 F33 (by decide) (by decide) (by omega) (by omega) (by omega)
    · refine to_an (pc := 26) rw_34_26 rfl (to_an (pc := 27) rw_34_27 rfl ?_)
      have c_37 : M21.2.1 1 8 = (M.2.1 1 8) := (F_n F16 (show ¬ (1 < 0) by decide) rfl)
      refine tt_gI (pc := 28) rw_34_28 (g_o hG17 rfl) (v := (M.2.1 1 8)) c_37 (s_v (pc := 31) rw_34_31 (dp0 hd (by decide)) (ls0 := [.ref p, .int (M.2.1 1 8)]) rfl (Nat.le_of_ble_eq_true rfl) (Nat.le_of_ble_eq_true rfl) rfl (to_rc rfl rfl rfl (g_o hG17 (by rcases hp with rfl | rfl <;> rfl))) rfl (to_an (pc := 0) rw_53_0 rfl (s_gR (pc := 1) rw_53_1 hG17 (by rcases hp with rfl | rfl <;> rfl) (v := (p + 6)) (by rcases hp with rfl | rfl <;> rfl) (to_an (pc := 4) rw_53_4 rfl ?_))))
      have c_38 : M21.2.1 p 3 = (M.2.1 p 3) := (F_n F16 (show ¬ (p < 0) by omega) rfl)
      refine tt_gI (pc := 5) rw_53_5 (g_o hG17 (by rcases hp with rfl | rfl <;> rfl)) (v := (M.2.1 p 3)) c_38 (to_in (pc := 8) rw_53_8 rfl (s_s (pc := 9) rw_53_9 (dp1 hd (by decide)) (ls0 := [.ref (p + 6), .int (M.2.1 p 3), .int (M.2.1 1 8), .null]) rfl (Nat.le_of_ble_eq_true rfl) (Nat.le_of_ble_eq_true rfl) rfl (to_rcs rfl rfl) rfl ?_))
      have j_39 := (PLc_f (fun a i z => F_n F16 (show ¬ (a < 0) by omega) rfl) (F_nl F16 (show ¬ (p < 0) by omega) rfl) q3)
      refine E_54g hX (dp2 hd (by decide)) hG17 (by omega) (by omega) (by omega) (g := (p + 6)) (s := (M.2.1 p 3)) (x := (M.2.1 1 8)) (fun r40 M46 hG42 F41 p_43 p_44 p_45 => ?_)
      have F47 := FR.c F22 F41 tg_30
      have z_48 := PLc_w (v := (M.2.1 1 8).toInt) j_39 (n := (M.2.1 p 3).toInt) (by omega)
      refine to_r0 (pc := 12) rw_53_12 (to_c (pc := 34) rw_34_34 (x := (-1 : Int32)) rfl rfl (b_ceq (pc := 35) rw_34_35 (A := r40.toInt) (B := -1) rfl rfl (fun h49 => ?_) (fun h49 => ?_)))
      · refine to_c (pc := 44) rw_34_44 (x := (1 : Int32)) rfl rfl (s_r1 (pc := 45) rw_34_45 (A := 1) rfl (by decide) ?_)
        have k_50 : (1 : Int32).toInt = 1 := rfl
        have z_51 := x_fn_v (s := sg) (r := 1) (v := (M.2.1 1 8).toInt) (w := x_val t nn a)
        have z_52 := x_fn_v (s := sg) (r := 6) (v := (M.2.1 1 8).toInt) (w := x_val t nn a)
        exact h (1 : Int32) M46 hG42 F47 (by decide) (by decide) (by omega) (by omega) (by omega)
      · refine to_an (pc := 38) rw_34_38 rfl (to_c (pc := 39) rw_34_39 (x := (3 : Int32)) rfl rfl (s_v (pc := 40) rw_34_40 (dp0 hd (by decide)) (ls0 := [.ref 1, .int (3 : Int32)]) rfl (Nat.le_of_ble_eq_true rfl) (Nat.le_of_ble_eq_true rfl) rfl (to_rc rfl rfl rfl (g_o hG42 rfl)) rfl (to_an (pc := 0) rw_84_0 rfl (to_in (pc := 1) rw_84_1 rfl (s_pI (pc := 2) rw_84_2 hG42 rfl (fun M54 W53 => ?_))))))
        have hG55 := g_wf hG42 W53 rfl rfl (by decide)
        have F56 := FR.w F47 W53 (show 1 = 1 ∧ (10 = 10 ∨ 10 = 11) by decide)
        refine to_an (pc := 5) rw_84_5 rfl (to_an (pc := 6) rw_84_6 rfl ?_)
        have c_57 : M54.2.1 1 9 = (M.2.1 1 9) := (W_n W53 (by decide) (F_n F41 (show ¬ (1 < 0) by decide) (F_n F16 (show ¬ (1 < 0) by decide) rfl)))
        refine tt_gI (pc := 7) rw_84_7 (g_o hG55 rfl) (v := (M.2.1 1 9)) c_57 (s_pI (pc := 10) rw_84_10 hG55 rfl (fun M59 W58 => ?_))
        have hG60 := g_wf hG55 W58 rfl rfl (by decide)
        have F61 := FR.w F56 W58 (show 1 = 1 ∧ (11 = 10 ∨ 11 = 11) by decide)
        refine to_c (pc := 13) rw_84_13 (x := (0 : Int32)) rfl rfl (s_r1 (pc := 14) rw_84_14 (A := 0) rfl (by decide) (s_r1 (pc := 43) rw_34_43 (A := 0) rfl (by decide) ?_))
        have k_62 : (0 : Int32).toInt = 0 := rfl
        have z_63 := x_fn_v (s := sg) (r := 1) (v := (M.2.1 1 8).toInt) (w := x_val t nn a)
        have z_64 := x_fn_v (s := sg) (r := 6) (v := (M.2.1 1 8).toInt) (w := x_val t nn a)
        exact h (0 : Int32) M59 hG60 F61 (by decide) (by decide) (by omega) (by omega) (by omega)
  · refine to_an (pc := 8) rw_34_8 rfl (to_c (pc := 9) rw_34_9 (x := (1 : Int32)) rfl rfl (s_v (pc := 10) rw_34_10 (dp0 hd (by decide)) (ls0 := [.ref 1, .int (1 : Int32)]) rfl (Nat.le_of_ble_eq_true rfl) (Nat.le_of_ble_eq_true rfl) rfl (to_rc rfl rfl rfl (g_o hG rfl)) rfl (to_an (pc := 0) rw_84_0 rfl (to_in (pc := 1) rw_84_1 rfl (s_pI (pc := 2) rw_84_2 hG rfl (fun M66 W65 => ?_))))))
    have hG67 := g_wf hG W65 rfl rfl (by decide)
    have F68 := FR.w F0 W65 (show 1 = 1 ∧ (10 = 10 ∨ 10 = 11) by decide)
    refine to_an (pc := 5) rw_84_5 rfl (to_an (pc := 6) rw_84_6 rfl ?_)
    have c_69 : M66.2.1 1 9 = (M.2.1 1 9) := (W_n W65 (by decide) rfl)
    refine tt_gI (pc := 7) rw_84_7 (g_o hG67 rfl) (v := (M.2.1 1 9)) c_69 (s_pI (pc := 10) rw_84_10 hG67 rfl (fun M71 W70 => ?_))
    have hG72 := g_wf hG67 W70 rfl rfl (by decide)
    have F73 := FR.w F68 W70 (show 1 = 1 ∧ (11 = 10 ∨ 11 = 11) by decide)
    refine to_c (pc := 13) rw_84_13 (x := (0 : Int32)) rfl rfl (s_r1 (pc := 14) rw_84_14 (A := 0) rfl (by decide) (s_r1 (pc := 13) rw_34_13 (A := 0) rfl (by decide) ?_))
    have k_74 : (0 : Int32).toInt = 0 := rfl
    have z_75 := x_fn_v (s := sg) (r := 1) (v := (M.2.1 1 8).toInt) (w := x_val t nn a)
    have z_76 := x_fn_v (s := sg) (r := 6) (v := (M.2.1 1 8).toInt) (w := x_val t nn a)
    exact h (0 : Int32) M71 hG72 F73 (by decide) (by decide) (by omega) (by omega) (by omega)
set_option maxRecDepth 4000 in
set_option maxHeartbeats 0 in
theorem E_39 {X : mm_X} {d : Nat} {M : mm_M} {Q : Option Value → mm_M → Prop} {p : Nat} {f : Int32} {l : Int32} {t : Nat → Int} {nn : Int} {a : Int} {sg : x_S} (hX : g_X X) (hd : 1 ≤ d) (hG : g_G M) (hp : p = 49 ∨ p = 58) (q1 : CS M t nn) (q2 : (M.2.1 1 9).toInt = a) (q3 : PLc M p sg) (q4 : 0 ≤ f.toInt) (q5 : f.toInt ≤ 63) (q6 : f.toInt ≤ l.toInt) (q7 : 0 ≤ l.toInt) (q8 : l.toInt ≤ 63) (h : ∀ (r : Int32) (M1 : mm_M), g_G M1 → FR md_fl M M1 → (0 ≤ r.toInt) → (r.toInt ≤ 1) → (r.toInt = 1 → x_free sg f.toInt l.toInt = 1) → (r.toInt = 0 → ¬ x_free sg f.toInt l.toInt = 1) → Q (some (.int r)) M1) : mm_T X d 39 0 [.ref p, .ref 1, .int f, .int l] [] M Q := by
  have F0 : FR md_fl M M := FR.rf
  refine to_an (pc := 0) rw_39_0 rfl (tt_gJ (pc := 1) rw_39_1 (g_o hG (by rcases hp with rfl | rfl <;> rfl)) (v := (M.2.2.1 p 4)) rfl (to_in (pc := 4) rw_39_4 rfl (to_in (pc := 5) rw_39_5 rfl (s_s (pc := 6) rw_39_6 (dp0 hd (by decide)) (ls0 := [.int f, .int l]) rfl (Nat.le_of_ble_eq_true rfl) (Nat.le_of_ble_eq_true rfl) rfl (to_rcs rfl rfl) rfl (to_cl (pc := 0) rw_144_0 rfl (x := (1 : Int64)) rfl (to_in (pc := 1) rw_144_1 rfl (to_in (pc := 2) rw_144_2 rfl (s_sub (pc := 3) rw_144_3 (A := l.toInt) (B := f.toInt) rfl rfl (by omega) (fun v1 e2 => to_c (pc := 4) rw_144_4 (x := (1 : Int32)) rfl rfl (s_add (pc := 5) rw_144_5 (A := v1.toInt) (B := 1) rfl rfl (by omega) (fun v3 e4 => to_2s (pc := 6) rw_144_6 (v := ((1 : Int64) <<< (v3.toInt64 &&& 63))) rfl ?_)))))))))))
  refine to_cl (pc := 7) rw_144_7 rfl (x := (1 : Int64)) rfl (to_2l (pc := 8) rw_144_8 (v := (((1 : Int64) <<< (v3.toInt64 &&& 63)) - (1 : Int64))) rfl (to_in (pc := 9) rw_144_9 rfl (to_2s (pc := 10) rw_144_10 (v := ((((1 : Int64) <<< (v3.toInt64 &&& 63)) - (1 : Int64)) <<< (f.toInt64 &&& 63))) rfl (to_rl (pc := 11) rw_144_11 (to_2l (pc := 9) rw_39_9 (v := ((M.2.2.1 p 4) &&& ((((1 : Int64) <<< (v3.toInt64 &&& 63)) - (1 : Int64)) <<< (f.toInt64 &&& 63)))) rfl (to_cl (pc := 10) rw_39_10 rfl (x := (0 : Int64)) rfl (s_lcmpE (pc := 11) rw_39_11 (fun v5 e6 => ?_))))))))
  have b_7 := x_eq_b (x := ((M.2.2.1 p 4) &&& ((((1 : Int64) <<< (v3.toInt64 &&& 63)) - (1 : Int64)) <<< (f.toInt64 &&& 63)))) (y := (0 : Int64))
  have z_8 := x_free_e (v := v3) (f := f) (l := l) q3 (by omega)
  refine b_ieq (pc := 12) rw_39_12 (A := v5.toInt) rfl (fun h9 => ?_) (fun h9 => ?_)
  · refine to_c (pc := 23) rw_39_23 (x := (1 : Int32)) rfl rfl (to_go (pc := 24) rw_39_24 (s_r1 (pc := 28) rw_39_28 (A := 1) rfl (by decide) ?_))
    have k_10 : (1 : Int32).toInt = 1 := rfl
    exact h (1 : Int32) M hG F0 (by decide) (by decide) (by omega) (by omega)
  · refine to_an (pc := 15) rw_39_15 rfl (to_c (pc := 16) rw_39_16 (x := (3 : Int32)) rfl rfl (s_v (pc := 17) rw_39_17 (dp0 hd (by decide)) (ls0 := [.ref 1, .int (3 : Int32)]) rfl (Nat.le_of_ble_eq_true rfl) (Nat.le_of_ble_eq_true rfl) rfl (to_rc rfl rfl rfl (g_o hG rfl)) rfl (to_an (pc := 0) rw_84_0 rfl (to_in (pc := 1) rw_84_1 rfl (s_pI (pc := 2) rw_84_2 hG rfl (fun M12 W11 => ?_))))))
    have hG13 := g_wf hG W11 rfl rfl (by decide)
    have F14 := FR.w F0 W11 (show 1 = 1 ∧ (10 = 10 ∨ 10 = 11) by decide)
    refine to_an (pc := 5) rw_84_5 rfl (to_an (pc := 6) rw_84_6 rfl ?_)
    have c_15 : M12.2.1 1 9 = (M.2.1 1 9) := (W_n W11 (by decide) rfl)
    refine tt_gI (pc := 7) rw_84_7 (g_o hG13 rfl) (v := (M.2.1 1 9)) c_15 (s_pI (pc := 10) rw_84_10 hG13 rfl (fun M17 W16 => ?_))
    have hG18 := g_wf hG13 W16 rfl rfl (by decide)
    have F19 := FR.w F14 W16 (show 1 = 1 ∧ (11 = 10 ∨ 11 = 11) by decide)
    refine to_c (pc := 13) rw_84_13 (x := (0 : Int32)) rfl rfl (s_r1 (pc := 14) rw_84_14 (A := 0) rfl (by decide) (b_ieq_t (pc := 20) rw_39_20 (A := 0) rfl (by decide) (to_c (pc := 27) rw_39_27 (x := (0 : Int32)) rfl rfl (s_r1 (pc := 28) rw_39_28 (A := 0) rfl (by decide) ?_))))
    have k_20 : (0 : Int32).toInt = 0 := rfl
    exact h (0 : Int32) M17 hG18 F19 (by decide) (by decide) (by omega) (by omega)
set_option maxRecDepth 4000 in
set_option maxHeartbeats 0 in
theorem E_90 {X : mm_X} {d : Nat} {M : mm_M} {Q : Option Value → mm_M → Prop} {c : Int32} {t : Nat → Int} {nn : Int} {a : Int} (hX : g_X X) (hd : 1 ≤ d) (hG : g_G M) (q1 : CS M t nn) (q2 : (M.2.1 1 9).toInt = a) (q3 : c.toInt = 59) (h : ∀ (r : Int32) (M1 : mm_M), g_G M1 → FR md_p90 M M1 → (0 ≤ r.toInt) → (r.toInt ≤ 1) → CS M1 t nn → (r.toInt = 1 → (x_kind t nn a = 4 ∧ x_val t nn a = 59) ∧ (M1.2.1 1 9).toInt = x_ns t nn a) → (r.toInt = 0 → ¬ (x_kind t nn a = 4 ∧ x_val t nn a = 59)) → Q (some (.int r)) M1) : mm_T X d 90 0 [.ref 1, .int c] [] M Q := by
  have F0 : FR md_p90 M M := FR.rf
  have c_1 := CS_u q1 (a := a) (by omega)
  unfold x_C at c_1
  refine to_an (pc := 0) rw_90_0 rfl (tt_gI (pc := 1) rw_90_1 (g_o hG rfl) (v := (M.2.1 1 7)) rfl (to_in (pc := 4) rw_90_4 rfl (b_ceq (pc := 5) rw_90_5 (A := (M.2.1 1 7).toInt) (B := c.toInt) rfl rfl (fun h2 => ?_) (fun h2 => ?_))))
  · refine to_an (pc := 14) rw_90_14 rfl (s_v (pc := 15) rw_90_15 (dp0 hd (by decide)) (ls0 := [.ref 1]) rfl (Nat.le_of_ble_eq_true rfl) (Nat.le_of_ble_eq_true rfl) rfl (to_rc rfl rfl rfl (g_o hG rfl)) rfl (E_83 hX (dp1 hd (by decide)) hG q1 (by omega) (t := t) (nn := nn) (a := a) (fun M7 hG4 F3 p_5 p_6 => ?_)))
    have F8 := FR.c F0 F3 tg_31
    refine to_c (pc := 18) rw_90_18 (x := (1 : Int32)) rfl rfl (s_r1 (pc := 19) rw_90_19 (A := 1) rfl (by decide) ?_)
    have k_9 : (1 : Int32).toInt = 1 := rfl
    exact h (1 : Int32) M7 hG4 F8 (by decide) (by decide) p_5 (by omega) (by omega)
  · refine to_an (pc := 8) rw_90_8 rfl (to_c (pc := 9) rw_90_9 (x := (1 : Int32)) rfl rfl (s_v (pc := 10) rw_90_10 (dp0 hd (by decide)) (ls0 := [.ref 1, .int (1 : Int32)]) rfl (Nat.le_of_ble_eq_true rfl) (Nat.le_of_ble_eq_true rfl) rfl (to_rc rfl rfl rfl (g_o hG rfl)) rfl (to_an (pc := 0) rw_84_0 rfl (to_in (pc := 1) rw_84_1 rfl (s_pI (pc := 2) rw_84_2 hG rfl (fun M11 W10 => ?_))))))
    have hG12 := g_wf hG W10 rfl rfl (by decide)
    have F13 := FR.w F0 W10 (show 1 = 1 ∧ 6 ≤ 10 ∧ 10 ≤ 11 by decide)
    refine to_an (pc := 5) rw_84_5 rfl (to_an (pc := 6) rw_84_6 rfl ?_)
    have c_14 : M11.2.1 1 9 = (M.2.1 1 9) := (W_n W10 (by decide) rfl)
    refine tt_gI (pc := 7) rw_84_7 (g_o hG12 rfl) (v := (M.2.1 1 9)) c_14 (s_pI (pc := 10) rw_84_10 hG12 rfl (fun M16 W15 => ?_))
    have hG17 := g_wf hG12 W15 rfl rfl (by decide)
    have F18 := FR.w F13 W15 (show 1 = 1 ∧ 6 ≤ 11 ∧ 11 ≤ 11 by decide)
    refine to_c (pc := 13) rw_84_13 (x := (0 : Int32)) rfl rfl (s_r1 (pc := 14) rw_84_14 (A := 0) rfl (by decide) (s_r1 (pc := 13) rw_90_13 (A := 0) rfl (by decide) ?_))
    have k_19 : (0 : Int32).toInt = 0 := rfl
    have j_20 := (CS_f (fun a i z => W_n W15 (tg_32 a i z) rfl) (CS_f (fun a i z => W_n W10 (tg_33 a i z) rfl) q1))
    have c_21 : M16.2.1 1 9 = (M.2.1 1 9) := (W_n W15 (by decide) c_14)
    have t_22 : (M16.2.1 1 9).toInt = (M.2.1 1 9).toInt := congrArg Int32.toInt c_21
    exact h (0 : Int32) M16 hG17 F18 (by decide) (by decide) j_20 (by omega) (by omega)
end
section
theorem tg_34 {M M1 : mm_M} (F : FR (fun a i : Nat => a = 1 ∧ (i = 10 ∨ i = 11)) M M1) : ∀ a i : Nat, (a = 1 ∧ 5 ≤ i ∧ i ≤ 9 ∨ 3 ≤ a ∧ a ≤ 5) → M1.2.1 a i = M.2.1 a i := fun a i z => F_n F (show ¬ (a = 1 ∧ (i = 10 ∨ i = 11)) by omega) rfl
set_option maxRecDepth 4000 in
set_option maxHeartbeats 0 in
theorem E_33 {X : mm_X} {d : Nat} {M : mm_M} {Q : Option Value → mm_M → Prop} {p : Nat} {t : Nat → Int} {nn : Int} {a : Int} {sg : x_S} {k : x_K} (hX : g_X X) (hd : 3 ≤ d) (hG : g_G M) (hp : p = 49 ∨ p = 58) (q1 : CS M t nn) (q2 : (M.2.1 1 9).toInt = a) (q3 : PLc M p sg) (q4 : CW M p sg) (h : ∀ (r : Int32) (M1 : mm_M), g_G M1 → FR (md_f33 p) M M1 → (0 ≤ r.toInt) → (r.toInt ≤ 1) → CS M1 t nn → ((r.toInt = 0 → x_field t nn sg (x_ns t nn a) k = none)) → ((r.toInt = 1 → ∃ s2 : x_S, x_field t nn sg (x_ns t nn a) k = k (M1.2.1 1 9).toInt s2 ∧ PLc2 M1 p s2 ∧ s2.2.1 + s2.2.2.1 = sg.2.1 + sg.2.2.1 + 1)) → Q (some (.int r)) M1) : mm_T X d 33 0 [.ref p, .ref 1, .null, .null] [] M Q := by
  have F0 : FR (md_f33 p) M M := FR.rf
  have z_1 := q3.2.1
  have z_2 := q3.2.2.1
  have z_3 := q3.2.2.2.1
  have z_4 := q3.1
  have z_5 := z_4.1
  have z_6 := z_4.2.1
  have z_7 := z_4.2.2.1
  have z_8 := z_4.2.2.2.1
  have z_9 := z_4.2.2.2.2.1
  have z_10 := z_4.2.2.2.2.2.1
  have b_11 := g_b hG (a := p) (i := 0) (lo := 10) (hi := 60) (by rcases hp with rfl | rfl <;> rfl) (by rcases hp with rfl | rfl <;> rfl)
  have b_12 := g_b hG (a := p) (i := 2) (lo := 0) (hi := 8) (by rcases hp with rfl | rfl <;> rfl) (by rcases hp with rfl | rfl <;> rfl)
  have b_13 := g_b hG (a := p) (i := 3) (lo := 0) (hi := 12) (by rcases hp with rfl | rfl <;> rfl) (by rcases hp with rfl | rfl <;> rfl)
  refine to_an (pc := 0) rw_33_0 rfl (tt_gI (pc := 1) rw_33_1 (g_o hG (by rcases hp with rfl | rfl <;> rfl)) (v := (M.2.1 p 2)) rfl (to_c (pc := 4) rw_33_4 (x := (8 : Int32)) rfl rfl (b_clt (pc := 6) rw_33_6 (A := (M.2.1 p 2).toInt) (B := 8) rfl rfl (fun h14 => ?_) (fun h14 => ?_))))
  · refine to_an (pc := 15) rw_33_15 rfl (s_v (pc := 16) rw_33_16 (dp0 hd (by decide)) (ls0 := [.ref 1]) rfl (Nat.le_of_ble_eq_true rfl) (Nat.le_of_ble_eq_true rfl) rfl (to_rc rfl rfl rfl (g_o hG rfl)) rfl (E_83 hX (dp1 hd (by decide)) hG q1 (by omega) (t := t) (nn := nn) (a := a) (fun M19 hG16 F15 p_17 p_18 => ?_)))
    have F20 := FR.c F0 F15 (fun a i z => show a = 1 ∧ 6 ≤ i ∧ i ≤ 11 ∨ a = p ∧ 2 ≤ i ∨ p + 1 ≤ a ∧ a ≤ p + 5 by have z : a = 1 ∧ 6 ≤ i ∧ i ≤ 9 := z; omega)
    refine to_an (pc := 19) rw_33_19 rfl (to_an (pc := 20) rw_33_20 rfl (s_v (pc := 21) rw_33_21 (dp0 hd (by decide)) (ls0 := [.ref p, .ref 1]) rfl (Nat.le_of_ble_eq_true rfl) (Nat.le_of_ble_eq_true rfl) rfl (to_rc rfl rfl rfl (g_o hG16 (by rcases hp with rfl | rfl <;> rfl))) rfl ?_))
    have j_21 := (PLc_f (fun a i z => F_n F15 (show ¬ (a = 1 ∧ 6 ≤ i ∧ i ≤ 9) by omega) rfl) (F_nl F15 (show ¬ (p = 1 ∧ 6 ≤ 4 ∧ 4 ≤ 9) by omega) rfl) q3)
    refine E_34 hX (dp1 hd (by decide)) hG16 hp p_17 (by omega) j_21 (p := p) (t := t) (nn := nn) (a := (x_ns t nn a)) (sg := sg) (fun r22 M30 hG24 F23 p_25 p_26 p_27 p_28 p_29 => ?_)
    have F31 := FR.c F20 F23 (fun a i z => show a = 1 ∧ 6 ≤ i ∧ i ≤ 11 ∨ a = p ∧ 2 ≤ i ∨ p + 1 ≤ a ∧ a ≤ p + 5 by have z : a = 1 ∧ (i = 10 ∨ i = 11) := z; omega)
    rcases (show r22.toInt = 0 ∨ r22.toInt = 1 by omega) with h32 | h32
    · skip
      have p_33 := p_29 (by omega)
      clear p_27 p_28 p_29
      refine b_ine_f (pc := 24) rw_33_24 (A := r22.toInt) rfl (by omega) (to_c (pc := 27) rw_33_27 (x := (0 : Int32)) rfl rfl (s_r1 (pc := 28) rw_33_28 (A := 0) rfl (by decide) ?_))
      have k_34 : (0 : Int32).toInt = 0 := rfl
      have j_35 := (CS_f (tg_34 F23) p_17)
      exact h (0 : Int32) M30 hG24 F31 (by decide) (by decide) j_35 (fun _ => x_field_n (fun h9 => by unfold x_fC at h9; omega)) (fun z => absurd z (by decide))
    · skip
      have p_36 := p_27 (by omega)
      have p_37 := p_28 (by omega)
      clear p_27 p_28 p_29
      refine b_ine_t (pc := 24) rw_33_24 (A := r22.toInt) rfl (by omega) (to_an (pc := 29) rw_33_29 rfl (s_gR (pc := 30) rw_33_30 hG24 (by rcases hp with rfl | rfl <;> rfl) (v := (p + 1)) (by rcases hp with rfl | rfl <;> rfl) (to_an (pc := 33) rw_33_33 rfl ?_)))
      have c_38 : M30.2.1 p 2 = (M.2.1 p 2) := (F_n F23 (show ¬ (p = 1 ∧ (2 = 10 ∨ 2 = 11)) by omega) (F_n F15 (show ¬ (p = 1 ∧ 6 ≤ 2 ∧ 2 ≤ 9) by omega) rfl))
      refine tt_gI (pc := 34) rw_33_34 (g_o hG24 (by rcases hp with rfl | rfl <;> rfl)) (v := (M.2.1 p 2)) c_38 (to_an (pc := 37) rw_33_37 rfl ?_)
      have c_39 : M30.2.1 1 8 = (M19.2.1 1 8) := (F_n F23 (show ¬ (1 = 1 ∧ (8 = 10 ∨ 8 = 11)) by decide) rfl)
      refine tt_gI (pc := 38) rw_33_38 (g_o hG24 rfl) (v := (M19.2.1 1 8)) c_39 (s_ias (pc := 41) rw_33_41 hG24 (by rcases hp with rfl | rfl <;> rfl) (n := 8) (by rcases hp with rfl | rfl <;> rfl) (A := (M.2.1 p 2).toInt) rfl (by omega) (by omega) (fun M41 W40 => ?_))
      have hG42 := g_wf hG24 W40 (by rcases hp with rfl | rfl <;> rfl) (by rcases hp with rfl | rfl <;> rfl) (by omega)
      have F43 := FR.w F31 W40 (show (p + 1) = 1 ∧ 6 ≤ ((M.2.1 p 2).toInt).toNat ∧ ((M.2.1 p 2).toInt).toNat ≤ 11 ∨ (p + 1) = p ∧ 2 ≤ ((M.2.1 p 2).toInt).toNat ∨ p + 1 ≤ (p + 1) ∧ (p + 1) ≤ p + 5 by omega)
      refine to_an (pc := 42) rw_33_42 rfl (s_v (pc := 43) rw_33_43 (dp0 hd (by decide)) (ls0 := [.ref 1]) rfl (Nat.le_of_ble_eq_true rfl) (Nat.le_of_ble_eq_true rfl) rfl (to_rc rfl rfl rfl (g_o hG42 rfl)) rfl ?_)
      have j_44 := (CS_f (fun a i z => W_n W40 (by omega) rfl) (CS_f (tg_34 F23) p_17))
      have c_45 : M41.2.1 1 9 = (M19.2.1 1 9) := (W_n W40 (by omega) (F_n F23 (show ¬ (1 = 1 ∧ (9 = 10 ∨ 9 = 11)) by decide) rfl))
      have t_46 : (M41.2.1 1 9).toInt = (M19.2.1 1 9).toInt := congrArg Int32.toInt c_45
      refine E_83 hX (dp1 hd (by decide)) hG42 j_44 (by omega) (t := t) (nn := nn) (a := (x_ns t nn a)) (fun M51 hG48 F47 p_49 p_50 => ?_)
      have F52 := FR.c F43 F47 (fun a i z => show a = 1 ∧ 6 ≤ i ∧ i ≤ 11 ∨ a = p ∧ 2 ≤ i ∨ p + 1 ≤ a ∧ a ≤ p + 5 by have z : a = 1 ∧ 6 ≤ i ∧ i ≤ 9 := z; omega)
      refine to_an (pc := 46) rw_33_46 rfl (s_s (pc := 47) rw_33_47 (dp0 hd (by decide)) (ls0 := [.ref 1]) rfl (Nat.le_of_ble_eq_true rfl) (Nat.le_of_ble_eq_true rfl) rfl (to_rcs rfl rfl) rfl (E_35 hX (dp1 hd (by decide)) hG48 p_49 (by omega) (t := t) (nn := nn) (a := (x_ns t nn (x_ns t nn a))) (fun r53 M60 hG55 F54 p_56 p_57 p_58 p_59 => ?_)))
      have F61 := FR.c F52 F54 (fun a i z => show a = 1 ∧ 6 ≤ i ∧ i ≤ 11 ∨ a = p ∧ 2 ≤ i ∨ p + 1 ≤ a ∧ a ≤ p + 5 by have z : a < 0 := z; omega)
      rcases (show r53.toInt = -1 ∨ r53.toInt = 0 ∨ r53.toInt = 1 ∨ r53.toInt = 2 ∨ r53.toInt = 3 by omega) with h62 | h62 | h62 | h62 | h62
      · skip
        have p_63 := p_58 (by omega)
        clear p_58 p_59
        refine to_isn (pc := 50) rw_33_50 (ls2 := [.ref p, .ref 1, .int r53, .null]) rfl rfl (to_in (pc := 51) rw_33_51 rfl (to_c (pc := 52) rw_33_52 (x := (-1 : Int32)) rfl rfl (b_cne_f (pc := 53) rw_33_53 (A := r53.toInt) (B := -1) rfl rfl (by omega) (to_an (pc := 56) rw_33_56 rfl (to_c (pc := 57) rw_33_57 (x := (1 : Int32)) rfl rfl (s_v (pc := 58) rw_33_58 (dp0 hd (by decide)) (ls0 := [.ref 1, .int (1 : Int32)]) rfl (Nat.le_of_ble_eq_true rfl) (Nat.le_of_ble_eq_true rfl) rfl (to_rc rfl rfl rfl (g_o hG55 rfl)) rfl (to_an (pc := 0) rw_84_0 rfl (to_in (pc := 1) rw_84_1 rfl (s_pI (pc := 2) rw_84_2 hG55 rfl (fun M65 W64 => ?_))))))))))
        have hG66 := g_wf hG55 W64 rfl rfl (by decide)
        have F67 := FR.w F61 W64 (show 1 = 1 ∧ 6 ≤ 10 ∧ 10 ≤ 11 ∨ 1 = p ∧ 2 ≤ 10 ∨ p + 1 ≤ 1 ∧ 1 ≤ p + 5 by omega)
        refine to_an (pc := 5) rw_84_5 rfl (to_an (pc := 6) rw_84_6 rfl ?_)
        have c_68 : M65.2.1 1 9 = (M51.2.1 1 9) := (W_n W64 (by decide) (F_n F54 (show ¬ (1 < 0) by decide) rfl))
        refine tt_gI (pc := 7) rw_84_7 (g_o hG66 rfl) (v := (M51.2.1 1 9)) c_68 (s_pI (pc := 10) rw_84_10 hG66 rfl (fun M70 W69 => ?_))
        have hG71 := g_wf hG66 W69 rfl rfl (by decide)
        have F72 := FR.w F67 W69 (show 1 = 1 ∧ 6 ≤ 11 ∧ 11 ≤ 11 ∨ 1 = p ∧ 2 ≤ 11 ∨ p + 1 ≤ 1 ∧ 1 ≤ p + 5 by omega)
        refine to_c (pc := 13) rw_84_13 (x := (0 : Int32)) rfl rfl (s_r1 (pc := 14) rw_84_14 (A := 0) rfl (by decide) (s_r1 (pc := 61) rw_33_61 (A := 0) rfl (by decide) ?_))
        have k_73 : (0 : Int32).toInt = 0 := rfl
        have j_74 := (CS_f (fun a i z => W_n W69 (tg_32 a i z) rfl) (CS_f (fun a i z => W_n W64 (tg_33 a i z) rfl) (CS_f (tg_28 F54) p_49)))
        exact h (0 : Int32) M70 hG71 F72 (by decide) (by decide) j_74 (fun _ => x_field_n (fun h9 => by unfold x_fC at h9; omega)) (fun z => absurd z (by decide))
      · skip
        have p_75 := p_59 (by omega)
        clear p_58 p_59
        refine to_isn (pc := 50) rw_33_50 (ls2 := [.ref p, .ref 1, .int r53, .null]) rfl rfl (to_in (pc := 51) rw_33_51 rfl (to_c (pc := 52) rw_33_52 (x := (-1 : Int32)) rfl rfl (b_cne_t (pc := 53) rw_33_53 (A := r53.toInt) (B := -1) rfl rfl (by omega) (to_an (pc := 62) rw_33_62 rfl (s_gR (pc := 63) rw_33_63 hG55 (by rcases hp with rfl | rfl <;> rfl) (v := (p + 2)) (by rcases hp with rfl | rfl <;> rfl) (to_an (pc := 66) rw_33_66 rfl ?_))))))
        have c_76 : M60.2.1 p 2 = (M.2.1 p 2) := (F_n F54 (show ¬ (p < 0) by omega) (F_n F47 (show ¬ (p = 1 ∧ 6 ≤ 2 ∧ 2 ≤ 9) by omega) (W_n W40 (by omega) c_38)))
        refine tt_gI (pc := 67) rw_33_67 (g_o hG55 (by rcases hp with rfl | rfl <;> rfl)) (v := (M.2.1 p 2)) c_76 (to_in (pc := 70) rw_33_70 rfl (s_ias (pc := 71) rw_33_71 hG55 (by rcases hp with rfl | rfl <;> rfl) (n := 8) (by rcases hp with rfl | rfl <;> rfl) (A := (M.2.1 p 2).toInt) rfl (by omega) (by omega) (fun M78 W77 => ?_)))
        have hG79 := g_w hG55 W77 (A := r53.toInt) rfl (lo := 0) (hi := 3) (by rcases hp with rfl | rfl <;> rfl) (by rcases hp with rfl | rfl <;> rfl) (by omega) (by omega)
        have F80 := FR.w F61 W77 (show (p + 2) = 1 ∧ 6 ≤ ((M.2.1 p 2).toInt).toNat ∧ ((M.2.1 p 2).toInt).toNat ≤ 11 ∨ (p + 2) = p ∧ 2 ≤ ((M.2.1 p 2).toInt).toNat ∨ p + 1 ≤ (p + 2) ∧ (p + 2) ≤ p + 5 by omega)
        refine to_an (pc := 72) rw_33_72 rfl (s_v (pc := 73) rw_33_73 (dp0 hd (by decide)) (ls0 := [.ref 1]) rfl (Nat.le_of_ble_eq_true rfl) (Nat.le_of_ble_eq_true rfl) rfl (to_rc rfl rfl rfl (g_o hG79 rfl)) rfl ?_)
        have j_81 := (CS_f (fun a i z => W_n W77 (by omega) rfl) (CS_f (tg_28 F54) p_49))
        have c_82 : M78.2.1 1 9 = (M51.2.1 1 9) := (W_n W77 (by omega) (F_n F54 (show ¬ (1 < 0) by decide) rfl))
        have t_83 : (M78.2.1 1 9).toInt = (M51.2.1 1 9).toInt := congrArg Int32.toInt c_82
        refine E_83 hX (dp1 hd (by decide)) hG79 j_81 (by omega) (t := t) (nn := nn) (a := (x_ns t nn (x_ns t nn a))) (fun M88 hG85 F84 p_86 p_87 => ?_)
        have F89 := FR.c F80 F84 (fun a i z => show a = 1 ∧ 6 ≤ i ∧ i ≤ 11 ∨ a = p ∧ 2 ≤ i ∨ p + 1 ≤ a ∧ a ≤ p + 5 by have z : a = 1 ∧ 6 ≤ i ∧ i ≤ 9 := z; omega)
        refine to_in (pc := 76) rw_33_76 rfl (to_c (pc := 77) rw_33_77 (x := (1 : Int32)) rfl rfl (b_ceq_f (pc := 78) rw_33_78 (A := r53.toInt) (B := 1) rfl rfl (by omega) (to_in (pc := 81) rw_33_81 rfl (to_c (pc := 82) rw_33_82 (x := (2 : Int32)) rfl rfl (b_cne_t (pc := 83) rw_33_83 (A := r53.toInt) (B := 2) rfl rfl (by omega) (to_an (pc := 105) rw_33_105 rfl (to_an (pc := 106) rw_33_106 rfl (to_in (pc := 107) rw_33_107 rfl (b_ine_f (pc := 108) rw_33_108 (A := r53.toInt) rfl (by omega) (to_c (pc := 111) rw_33_111 (x := (2 : Int32)) rfl rfl (to_go (pc := 112) rw_33_112 ?_)))))))))))
        refine s_v (pc := 116) rw_33_116 (dp0 hd (by decide)) (ls0 := [.ref p, .ref 1, .int (2 : Int32), .null, .null, .null]) rfl (Nat.le_of_ble_eq_true rfl) (Nat.le_of_ble_eq_true rfl) rfl (to_rc rfl rfl rfl (g_o hG85 (by rcases hp with rfl | rfl <;> rfl))) rfl (to_an (pc := 0) rw_36_0 rfl (tt_gI (pc := 1) rw_36_1 (g_o hG85 rfl) (v := (M88.2.1 1 8)) rfl (to_isn (pc := 4) rw_36_4 (ls2 := [.ref p, .ref 1, .int (2 : Int32), .int (M88.2.1 1 8), .null, .null]) rfl rfl (to_an (pc := 5) rw_36_5 rfl (to_c (pc := 6) rw_36_6 (x := (0 : Int32)) rfl rfl (to_an (pc := 7) rw_36_7 rfl ?_))))))
        have c_90 : M88.2.1 p 0 = (M.2.1 p 0) := (F_n F84 (show ¬ (p = 1 ∧ 6 ≤ 0 ∧ 0 ≤ 9) by omega) (W_n W77 (by omega) (F_n F54 (show ¬ (p < 0) by omega) (F_n F47 (show ¬ (p = 1 ∧ 6 ≤ 0 ∧ 0 ≤ 9) by omega) (W_n W40 (by omega) (F_n F23 (show ¬ (p = 1 ∧ (0 = 10 ∨ 0 = 11)) by omega) (F_n F15 (show ¬ (p = 1 ∧ 6 ≤ 0 ∧ 0 ≤ 9) by omega) rfl)))))))
        refine tt_gI (pc := 8) rw_36_8 (g_o hG85 (by rcases hp with rfl | rfl <;> rfl)) (v := (M.2.1 p 0)) c_90 (to_c (pc := 11) rw_36_11 (x := (1 : Int32)) rfl rfl (s_sub (pc := 12) rw_36_12 (A := (M.2.1 p 0).toInt) (B := 1) rfl rfl (by omega) (fun v91 e92 => s_v (pc := 13) rw_36_13 (dp1 hd (by decide)) (ls0 := [.ref 1, .int (0 : Int32), .int v91]) rfl (Nat.le_of_ble_eq_true rfl) (Nat.le_of_ble_eq_true rfl) rfl (to_rc rfl rfl rfl (g_o hG85 rfl)) rfl ?_)))
        have k_93 : (0 : Int32).toInt = 0 := rfl
        refine E_88 hX (dp2 hd (by decide)) hG85 p_86 (by omega) (l := (0 : Int32)) (m := v91) (t := t) (nn := nn) (a := (x_ns t nn (x_ns t nn (x_ns t nn a)))) (fun r94 M101 hG96 F95 p_97 p_98 p_99 p_100 => ?_)
        have F102 := FR.c F89 F95 (fun a i z => show a = 1 ∧ 6 ≤ i ∧ i ≤ 11 ∨ a = p ∧ 2 ≤ i ∨ p + 1 ≤ a ∧ a ≤ p + 5 by have z : a = 1 ∧ (i = 10 ∨ i = 11) := z; omega)
        rcases (show r94.toInt = 0 ∨ r94.toInt = 1 by omega) with h103 | h103
        · skip
          have p_104 := p_100 (by omega)
          clear p_99 p_100
          have z_105 := x_val_b (t := t) (nn := nn) (a := (x_ns t nn (x_ns t nn (x_ns t nn a))))
          refine b_ieq_t (pc := 16) rw_36_16 (A := r94.toInt) rfl (by omega) (to_c (pc := 29) rw_36_29 (x := (0 : Int32)) rfl rfl (s_r1 (pc := 30) rw_36_30 (A := 0) rfl (by decide) (b_ieq_t (pc := 119) rw_33_119 (A := 0) rfl (by decide) (to_c (pc := 138) rw_33_138 (x := (0 : Int32)) rfl rfl (to_isn (pc := 139) rw_33_139 (ls2 := [.ref p, .ref 1, .int r53, .int (0 : Int32)]) rfl rfl (to_in (pc := 140) rw_33_140 rfl (b_ine_f (pc := 141) rw_33_141 (A := 0) rfl (by decide) (to_c (pc := 144) rw_33_144 (x := (0 : Int32)) rfl rfl (s_r1 (pc := 145) rw_33_145 (A := 0) rfl (by decide) ?_)))))))))
          have j_106 := (CS_f (tg_34 F95) p_86)
          exact h (0 : Int32) M101 hG96 F102 (by decide) (by decide) j_106 (fun _ => x_field_n (fun h9 => by unfold x_fC at h9; omega)) (fun z => absurd z (by decide))
        · skip
          have p_107 := p_99 (by omega)
          clear p_99 p_100
          have c_108 : M101.2.1 1 8 = (M88.2.1 1 8) := (F_n F95 (show ¬ (1 = 1 ∧ (8 = 10 ∨ 8 = 11)) by decide) rfl)
          have z_109 := x_val_b (t := t) (nn := nn) (a := (x_ns t nn (x_ns t nn (x_ns t nn a)))) (by omega)
          refine b_ieq_f (pc := 16) rw_36_16 (A := r94.toInt) rfl (by omega) (to_an (pc := 19) rw_36_19 rfl (to_an (pc := 20) rw_36_20 rfl (to_in (pc := 21) rw_36_21 rfl (to_in (pc := 22) rw_36_22 rfl (s_v (pc := 23) rw_36_23 (dp1 hd (by decide)) (ls0 := [.ref p, .ref 1, .int (M88.2.1 1 8), .int (M88.2.1 1 8)]) rfl (Nat.le_of_ble_eq_true rfl) (Nat.le_of_ble_eq_true rfl) rfl (to_rc rfl rfl rfl (g_o hG96 (by rcases hp with rfl | rfl <;> rfl))) rfl ?_)))))
          have j_110 := (CS_f (tg_34 F95) p_86)
          have c_111 : M101.2.1 1 9 = (M88.2.1 1 9) := (F_n F95 (show ¬ (1 = 1 ∧ (9 = 10 ∨ 9 = 11)) by decide) rfl)
          have t_112 : (M101.2.1 1 9).toInt = (M88.2.1 1 9).toInt := congrArg Int32.toInt c_111
          have j_113 := (PLc_f (fun a i z => F_n F95 (show ¬ (a = 1 ∧ (i = 10 ∨ i = 11)) by omega) rfl) (F_nl F95 (show ¬ (p = 1 ∧ (4 = 10 ∨ 4 = 11)) by omega) rfl) (PLc_f (fun a i z => F_n F84 (show ¬ (a = 1 ∧ 6 ≤ i ∧ i ≤ 9) by omega) rfl) (F_nl F84 (show ¬ (p = 1 ∧ 6 ≤ 4 ∧ 4 ≤ 9) by omega) rfl) (PLc_f (fun a i z => W_n W77 (by omega) rfl) (W_j W77 rfl) (PLc_f (fun a i z => F_n F54 (show ¬ (a < 0) by omega) rfl) (F_nl F54 (show ¬ (p < 0) by omega) rfl) (PLc_f (fun a i z => F_n F47 (show ¬ (a = 1 ∧ 6 ≤ i ∧ i ≤ 9) by omega) rfl) (F_nl F47 (show ¬ (p = 1 ∧ 6 ≤ 4 ∧ 4 ≤ 9) by omega) rfl) (PLc_f (fun a i z => W_n W40 (by omega) rfl) (W_j W40 rfl) (PLc_f (fun a i z => F_n F23 (show ¬ (a = 1 ∧ (i = 10 ∨ i = 11)) by omega) rfl) (F_nl F23 (show ¬ (p = 1 ∧ (4 = 10 ∨ 4 = 11)) by omega) rfl) j_21)))))))
          refine E_39 hX (dp2 hd (by decide)) hG96 hp j_110 (by omega) j_113 (by omega) (by omega) (by omega) (by omega) (by omega) (p := p) (f := (M88.2.1 1 8)) (l := (M88.2.1 1 8)) (t := t) (nn := nn) (a := (x_ns t nn (x_ns t nn (x_ns t nn a)))) (sg := sg) (fun r114 M121 hG116 F115 p_117 p_118 p_119 p_120 => ?_)
          have F122 := FR.c F102 F115 (fun a i z => show a = 1 ∧ 6 ≤ i ∧ i ≤ 11 ∨ a = p ∧ 2 ≤ i ∨ p + 1 ≤ a ∧ a ≤ p + 5 by have z : a = 1 ∧ (i = 10 ∨ i = 11) := z; omega)
          have z_123 := x_free_v (s := sg) (f := (M88.2.1 1 8).toInt) (l := (M88.2.1 1 8).toInt) (f2 := (x_val t nn (x_ns t nn (x_ns t nn (x_ns t nn a))))) (l2 := (x_val t nn (x_ns t nn (x_ns t nn (x_ns t nn a))))) (by omega) (by omega)
          rcases (show r114.toInt = 0 ∨ r114.toInt = 1 by omega) with h124 | h124
          · skip
            have p_125 := p_120 (by omega)
            clear p_119 p_120
            refine b_ine_f (pc := 26) rw_36_26 (A := r114.toInt) rfl (by omega) (to_c (pc := 29) rw_36_29 (x := (0 : Int32)) rfl rfl (s_r1 (pc := 30) rw_36_30 (A := 0) rfl (by decide) (b_ieq_t (pc := 119) rw_33_119 (A := 0) rfl (by decide) (to_c (pc := 138) rw_33_138 (x := (0 : Int32)) rfl rfl (to_isn (pc := 139) rw_33_139 (ls2 := [.ref p, .ref 1, .int r53, .int (0 : Int32)]) rfl rfl (to_in (pc := 140) rw_33_140 rfl (b_ine_f (pc := 141) rw_33_141 (A := 0) rfl (by decide) (to_c (pc := 144) rw_33_144 (x := (0 : Int32)) rfl rfl (s_r1 (pc := 145) rw_33_145 (A := 0) rfl (by decide) ?_)))))))))
            have j_126 := (CS_f (tg_34 F115) j_110)
            exact h (0 : Int32) M121 hG116 F122 (by decide) (by decide) j_126 (fun _ => x_field_n (fun h9 => by unfold x_fC at h9; omega)) (fun z => absurd z (by decide))
          · skip
            have p_127 := p_119 (by omega)
            clear p_119 p_120
            refine b_ine_t (pc := 26) rw_36_26 (A := r114.toInt) rfl (by omega) (to_an (pc := 31) rw_36_31 rfl (s_v (pc := 32) rw_36_32 (dp1 hd (by decide)) (ls0 := [.ref 1]) rfl (Nat.le_of_ble_eq_true rfl) (Nat.le_of_ble_eq_true rfl) rfl (to_rc rfl rfl rfl (g_o hG116 rfl)) rfl ?_))
            have j_128 := (CS_f (tg_34 F115) j_110)
            have c_129 : M121.2.1 1 9 = (M88.2.1 1 9) := (F_n F115 (show ¬ (1 = 1 ∧ (9 = 10 ∨ 9 = 11)) by decide) c_111)
            have t_130 : (M121.2.1 1 9).toInt = (M88.2.1 1 9).toInt := congrArg Int32.toInt c_129
            refine E_83 hX (dp2 hd (by decide)) hG116 j_128 (by omega) (t := t) (nn := nn) (a := (x_ns t nn (x_ns t nn (x_ns t nn a)))) (fun M135 hG132 F131 p_133 p_134 => ?_)
            have F136 := FR.c F122 F131 (fun a i z => show a = 1 ∧ 6 ≤ i ∧ i ≤ 11 ∨ a = p ∧ 2 ≤ i ∨ p + 1 ≤ a ∧ a ≤ p + 5 by have z : a = 1 ∧ 6 ≤ i ∧ i ≤ 9 := z; omega)
            refine to_an (pc := 35) rw_36_35 rfl (tt_gI (pc := 36) rw_36_36 (g_o hG132 rfl) (v := (M135.2.1 1 8)) rfl (to_is (pc := 39) rw_36_39 (ls2 := [.ref p, .ref 1, .int (2 : Int32), .int (M88.2.1 1 8), .int (M135.2.1 1 8), .null]) rfl rfl (to_an (pc := 41) rw_36_41 rfl ?_)))
            have c_137 : M135.2.1 p 0 = (M.2.1 p 0) := (F_n F131 (show ¬ (p = 1 ∧ 6 ≤ 0 ∧ 0 ≤ 9) by omega) (F_n F115 (show ¬ (p = 1 ∧ (0 = 10 ∨ 0 = 11)) by omega) (F_n F95 (show ¬ (p = 1 ∧ (0 = 10 ∨ 0 = 11)) by omega) c_90)))
            refine tt_gI (pc := 42) rw_36_42 (g_o hG132 (by rcases hp with rfl | rfl <;> rfl)) (v := (M.2.1 p 0)) c_137 (to_c (pc := 45) rw_36_45 (x := (1 : Int32)) rfl rfl (s_sub (pc := 46) rw_36_46 (A := (M.2.1 p 0).toInt) (B := 1) rfl rfl (by omega) (fun v138 e139 => to_in (pc := 47) rw_36_47 rfl (to_c (pc := 48) rw_36_48 (x := (24 : Int32)) rfl rfl (s_add (pc := 50) rw_36_50 (A := (M88.2.1 1 8).toInt) (B := 24) rfl rfl (by omega) (fun v140 e141 => to_c (pc := 51) rw_36_51 (x := (1 : Int32)) rfl rfl (s_sub (pc := 52) rw_36_52 (A := v140.toInt) (B := 1) rfl rfl (by omega) (fun v142 e143 => s_min (pc := 53) rw_36_53 rfl (A := v138.toInt) (B := v142.toInt) rfl rfl (fun v144 _ _ _ => to_is (pc := 56) rw_36_56 (ls2 := [.ref p, .ref 1, .int (2 : Int32), .int (M88.2.1 1 8), .int (M135.2.1 1 8), .int v144]) rfl rfl (to_an (pc := 58) rw_36_58 rfl (to_in (pc := 59) rw_36_59 rfl ?_)))))))))))
            refine to_in (pc := 60) rw_36_60 rfl (s_add (pc := 61) rw_36_61 (A := (M88.2.1 1 8).toInt) (B := 2) rfl rfl (by omega) (fun v145 e146 => to_c (pc := 62) rw_36_62 (x := (1 : Int32)) rfl rfl (s_sub (pc := 63) rw_36_63 (A := v145.toInt) (B := 1) rfl rfl (by omega) (fun v147 e148 => to_i (pc := 64) rw_36_64 rfl (s_v (pc := 66) rw_36_66 (dp1 hd (by decide)) (ls0 := [.ref 1, .int v147, .int v144]) rfl (Nat.le_of_ble_eq_true rfl) (Nat.le_of_ble_eq_true rfl) rfl (to_rc rfl rfl rfl (g_o hG132 rfl)) rfl (E_88 hX (dp2 hd (by decide)) hG132 p_133 (by omega) (l := v147) (m := v144) (t := t) (nn := nn) (a := (x_ns t nn (x_ns t nn (x_ns t nn (x_ns t nn a))))) (fun r149 M156 hG151 F150 p_152 p_153 p_154 p_155 => ?_)))))))
            have F157 := FR.c F136 F150 (fun a i z => show a = 1 ∧ 6 ≤ i ∧ i ≤ 11 ∨ a = p ∧ 2 ≤ i ∨ p + 1 ≤ a ∧ a ≤ p + 5 by have z : a = 1 ∧ (i = 10 ∨ i = 11) := z; omega)
            rcases (show r149.toInt = 0 ∨ r149.toInt = 1 by omega) with h158 | h158
            · skip
              have p_159 := p_155 (by omega)
              clear p_154 p_155
              have z_160 := x_val_b (t := t) (nn := nn) (a := (x_ns t nn (x_ns t nn (x_ns t nn (x_ns t nn a)))))
              refine b_ieq_t (pc := 69) rw_36_69 (A := r149.toInt) rfl (by omega) (to_c (pc := 83) rw_36_83 (x := (0 : Int32)) rfl rfl (s_r1 (pc := 84) rw_36_84 (A := 0) rfl (by decide) (b_ieq_t (pc := 119) rw_33_119 (A := 0) rfl (by decide) (to_c (pc := 138) rw_33_138 (x := (0 : Int32)) rfl rfl (to_isn (pc := 139) rw_33_139 (ls2 := [.ref p, .ref 1, .int r53, .int (0 : Int32)]) rfl rfl (to_in (pc := 140) rw_33_140 rfl (b_ine_f (pc := 141) rw_33_141 (A := 0) rfl (by decide) (to_c (pc := 144) rw_33_144 (x := (0 : Int32)) rfl rfl (s_r1 (pc := 145) rw_33_145 (A := 0) rfl (by decide) ?_)))))))))
              have j_161 := (CS_f (tg_34 F150) p_133)
              exact h (0 : Int32) M156 hG151 F157 (by decide) (by decide) j_161 (fun _ => x_field_n (fun h9 => by unfold x_fC at h9; omega)) (fun z => absurd z (by decide))
            · skip
              have p_162 := p_154 (by omega)
              clear p_154 p_155
              have c_163 : M156.2.1 1 8 = (M135.2.1 1 8) := (F_n F150 (show ¬ (1 = 1 ∧ (8 = 10 ∨ 8 = 11)) by decide) rfl)
              have z_164 := x_val_b (t := t) (nn := nn) (a := (x_ns t nn (x_ns t nn (x_ns t nn (x_ns t nn a))))) (by omega)
              refine b_ieq_f (pc := 69) rw_36_69 (A := r149.toInt) rfl (by omega) (to_an (pc := 72) rw_36_72 rfl (to_an (pc := 73) rw_36_73 rfl (to_in (pc := 74) rw_36_74 rfl (to_i (pc := 75) rw_36_75 rfl (s_v (pc := 77) rw_36_77 (dp1 hd (by decide)) (ls0 := [.ref p, .ref 1, .int (M88.2.1 1 8), .int (M135.2.1 1 8)]) rfl (Nat.le_of_ble_eq_true rfl) (Nat.le_of_ble_eq_true rfl) rfl (to_rc rfl rfl rfl (g_o hG151 (by rcases hp with rfl | rfl <;> rfl))) rfl ?_)))))
              have j_165 := (CS_f (tg_34 F150) p_133)
              have c_166 : M156.2.1 1 9 = (M135.2.1 1 9) := (F_n F150 (show ¬ (1 = 1 ∧ (9 = 10 ∨ 9 = 11)) by decide) rfl)
              have t_167 : (M156.2.1 1 9).toInt = (M135.2.1 1 9).toInt := congrArg Int32.toInt c_166
              have j_168 := (PLc_f (fun a i z => F_n F150 (show ¬ (a = 1 ∧ (i = 10 ∨ i = 11)) by omega) rfl) (F_nl F150 (show ¬ (p = 1 ∧ (4 = 10 ∨ 4 = 11)) by omega) rfl) (PLc_f (fun a i z => F_n F131 (show ¬ (a = 1 ∧ 6 ≤ i ∧ i ≤ 9) by omega) rfl) (F_nl F131 (show ¬ (p = 1 ∧ 6 ≤ 4 ∧ 4 ≤ 9) by omega) rfl) (PLc_f (fun a i z => F_n F115 (show ¬ (a = 1 ∧ (i = 10 ∨ i = 11)) by omega) rfl) (F_nl F115 (show ¬ (p = 1 ∧ (4 = 10 ∨ 4 = 11)) by omega) rfl) j_113)))
              refine E_39 hX (dp2 hd (by decide)) hG151 hp j_165 (by omega) j_168 (by omega) (by omega) (by omega) (by omega) (by omega) (p := p) (f := (M88.2.1 1 8)) (l := (M135.2.1 1 8)) (t := t) (nn := nn) (a := (x_ns t nn (x_ns t nn (x_ns t nn (x_ns t nn a))))) (sg := sg) (fun r169 M176 hG171 F170 p_172 p_173 p_174 p_175 => ?_)
              have F177 := FR.c F157 F170 (fun a i z => show a = 1 ∧ 6 ≤ i ∧ i ≤ 11 ∨ a = p ∧ 2 ≤ i ∨ p + 1 ≤ a ∧ a ≤ p + 5 by have z : a = 1 ∧ (i = 10 ∨ i = 11) := z; omega)
              have z_178 := x_free_v (s := sg) (f := (M88.2.1 1 8).toInt) (l := (M135.2.1 1 8).toInt) (f2 := (x_val t nn (x_ns t nn (x_ns t nn (x_ns t nn a))))) (l2 := (x_val t nn (x_ns t nn (x_ns t nn (x_ns t nn (x_ns t nn a)))))) (by omega) (by omega)
              rcases (show r169.toInt = 0 ∨ r169.toInt = 1 by omega) with h179 | h179
              · skip
                have p_180 := p_175 (by omega)
                clear p_174 p_175
                refine b_ine_f (pc := 80) rw_36_80 (A := r169.toInt) rfl (by omega) (to_c (pc := 83) rw_36_83 (x := (0 : Int32)) rfl rfl (s_r1 (pc := 84) rw_36_84 (A := 0) rfl (by decide) (b_ieq_t (pc := 119) rw_33_119 (A := 0) rfl (by decide) (to_c (pc := 138) rw_33_138 (x := (0 : Int32)) rfl rfl (to_isn (pc := 139) rw_33_139 (ls2 := [.ref p, .ref 1, .int r53, .int (0 : Int32)]) rfl rfl (to_in (pc := 140) rw_33_140 rfl (b_ine_f (pc := 141) rw_33_141 (A := 0) rfl (by decide) (to_c (pc := 144) rw_33_144 (x := (0 : Int32)) rfl rfl (s_r1 (pc := 145) rw_33_145 (A := 0) rfl (by decide) ?_)))))))))
                have j_181 := (CS_f (tg_34 F170) j_165)
                exact h (0 : Int32) M176 hG171 F177 (by decide) (by decide) j_181 (fun _ => x_field_n (fun h9 => by unfold x_fC at h9; omega)) (fun z => absurd z (by decide))
              · skip
                have p_182 := p_174 (by omega)
                clear p_174 p_175
                refine b_ine_t (pc := 80) rw_36_80 (A := r169.toInt) rfl (by omega) (to_an (pc := 85) rw_36_85 rfl (s_v (pc := 86) rw_36_86 (dp1 hd (by decide)) (ls0 := [.ref 1]) rfl (Nat.le_of_ble_eq_true rfl) (Nat.le_of_ble_eq_true rfl) rfl (to_rc rfl rfl rfl (g_o hG171 rfl)) rfl ?_))
                have j_183 := (CS_f (tg_34 F170) j_165)
                have c_184 : M176.2.1 1 9 = (M135.2.1 1 9) := (F_n F170 (show ¬ (1 = 1 ∧ (9 = 10 ∨ 9 = 11)) by decide) c_166)
                have t_185 : (M176.2.1 1 9).toInt = (M135.2.1 1 9).toInt := congrArg Int32.toInt c_184
                refine E_83 hX (dp2 hd (by decide)) hG171 j_183 (by omega) (t := t) (nn := nn) (a := (x_ns t nn (x_ns t nn (x_ns t nn (x_ns t nn a))))) (fun M190 hG187 F186 p_188 p_189 => ?_)
                have F191 := FR.c F177 F186 (fun a i z => show a = 1 ∧ 6 ≤ i ∧ i ≤ 11 ∨ a = p ∧ 2 ≤ i ∨ p + 1 ≤ a ∧ a ≤ p + 5 by have z : a = 1 ∧ 6 ≤ i ∧ i ≤ 9 := z; omega)
                refine to_an (pc := 89) rw_36_89 rfl (to_in (pc := 90) rw_36_90 rfl (to_i (pc := 91) rw_36_91 rfl (to_i (pc := 93) rw_36_93 rfl (to_in (pc := 95) rw_36_95 rfl (s_sub (pc := 96) rw_36_96 (A := (M135.2.1 1 8).toInt) (B := (M88.2.1 1 8).toInt) rfl rfl (by omega) (fun v192 e193 => to_c (pc := 97) rw_36_97 (x := (1 : Int32)) rfl rfl (s_add (pc := 98) rw_36_98 (A := v192.toInt) (B := 1) rfl rfl (by omega) (fun v194 e195 => s_v (pc := 99) rw_36_99 (dp1 hd (by decide)) (ls0 := [.ref p, .int (M88.2.1 1 8), .int (M135.2.1 1 8), .int v194]) rfl (Nat.le_of_ble_eq_true rfl) (Nat.le_of_ble_eq_true rfl) rfl (to_rc rfl rfl rfl (g_o hG187 (by rcases hp with rfl | rfl <;> rfl))) rfl (to_an (pc := 0) rw_40_0 rfl (s_gR (pc := 1) rw_40_1 hG187 (by rcases hp with rfl | rfl <;> rfl) (v := (p + 3)) (by rcases hp with rfl | rfl <;> rfl) (to_an (pc := 4) rw_40_4 rfl ?_)))))))))))
                have c_196 : M190.2.1 p 2 = (M.2.1 p 2) := (F_n F186 (show ¬ (p = 1 ∧ 6 ≤ 2 ∧ 2 ≤ 9) by omega) (F_n F170 (show ¬ (p = 1 ∧ (2 = 10 ∨ 2 = 11)) by omega) (F_n F150 (show ¬ (p = 1 ∧ (2 = 10 ∨ 2 = 11)) by omega) (F_n F131 (show ¬ (p = 1 ∧ 6 ≤ 2 ∧ 2 ≤ 9) by omega) (F_n F115 (show ¬ (p = 1 ∧ (2 = 10 ∨ 2 = 11)) by omega) (F_n F95 (show ¬ (p = 1 ∧ (2 = 10 ∨ 2 = 11)) by omega) (F_n F84 (show ¬ (p = 1 ∧ 6 ≤ 2 ∧ 2 ≤ 9) by omega) (W_n W77 (by omega) c_76))))))))
                refine tt_gI (pc := 5) rw_40_5 (g_o hG187 (by rcases hp with rfl | rfl <;> rfl)) (v := (M.2.1 p 2)) c_196 (to_in (pc := 8) rw_40_8 rfl (s_ias (pc := 9) rw_40_9 hG187 (by rcases hp with rfl | rfl <;> rfl) (n := 8) (by rcases hp with rfl | rfl <;> rfl) (A := (M.2.1 p 2).toInt) rfl (by omega) (by omega) (fun M198 W197 => ?_)))
                have hG199 := g_w hG187 W197 (A := (M88.2.1 1 8).toInt) rfl (lo := 0) (hi := 59) (by rcases hp with rfl | rfl <;> rfl) (by rcases hp with rfl | rfl <;> rfl) (by omega) (by omega)
                have F200 := FR.w F191 W197 (show (p + 3) = 1 ∧ 6 ≤ ((M.2.1 p 2).toInt).toNat ∧ ((M.2.1 p 2).toInt).toNat ≤ 11 ∨ (p + 3) = p ∧ 2 ≤ ((M.2.1 p 2).toInt).toNat ∨ p + 1 ≤ (p + 3) ∧ (p + 3) ≤ p + 5 by omega)
                refine to_an (pc := 10) rw_40_10 rfl (s_gR (pc := 11) rw_40_11 hG199 (by rcases hp with rfl | rfl <;> rfl) (v := (p + 4)) (by rcases hp with rfl | rfl <;> rfl) (to_an (pc := 14) rw_40_14 rfl ?_))
                have c_201 : M198.2.1 p 2 = (M.2.1 p 2) := (W_n W197 (by omega) c_196)
                refine tt_gI (pc := 15) rw_40_15 (g_o hG199 (by rcases hp with rfl | rfl <;> rfl)) (v := (M.2.1 p 2)) c_201 (to_in (pc := 18) rw_40_18 rfl (s_ias (pc := 19) rw_40_19 hG199 (by rcases hp with rfl | rfl <;> rfl) (n := 8) (by rcases hp with rfl | rfl <;> rfl) (A := (M.2.1 p 2).toInt) rfl (by omega) (by omega) (fun M203 W202 => ?_)))
                have hG204 := g_w hG199 W202 (A := (M135.2.1 1 8).toInt) rfl (lo := 0) (hi := 63) (by rcases hp with rfl | rfl <;> rfl) (by rcases hp with rfl | rfl <;> rfl) (by omega) (by omega)
                have F205 := FR.w F200 W202 (show (p + 4) = 1 ∧ 6 ≤ ((M.2.1 p 2).toInt).toNat ∧ ((M.2.1 p 2).toInt).toNat ≤ 11 ∨ (p + 4) = p ∧ 2 ≤ ((M.2.1 p 2).toInt).toNat ∨ p + 1 ≤ (p + 4) ∧ (p + 4) ≤ p + 5 by omega)
                refine to_an (pc := 20) rw_40_20 rfl (s_gR (pc := 21) rw_40_21 hG204 (by rcases hp with rfl | rfl <;> rfl) (v := (p + 5)) (by rcases hp with rfl | rfl <;> rfl) (to_an (pc := 24) rw_40_24 rfl ?_))
                have c_206 : M203.2.1 p 2 = (M.2.1 p 2) := (W_n W202 (by omega) c_201)
                refine tt_gI (pc := 25) rw_40_25 (g_o hG204 (by rcases hp with rfl | rfl <;> rfl)) (v := (M.2.1 p 2)) c_206 (to_in (pc := 28) rw_40_28 rfl (s_ias (pc := 29) rw_40_29 hG204 (by rcases hp with rfl | rfl <;> rfl) (n := 8) (by rcases hp with rfl | rfl <;> rfl) (A := (M.2.1 p 2).toInt) rfl (by omega) (by omega) (fun M208 W207 => ?_)))
                have hG209 := g_w hG204 W207 (A := v194.toInt) rfl (lo := 0) (hi := 24) (by rcases hp with rfl | rfl <;> rfl) (by rcases hp with rfl | rfl <;> rfl) (by omega) (by omega)
                have F210 := FR.w F205 W207 (show (p + 5) = 1 ∧ 6 ≤ ((M.2.1 p 2).toInt).toNat ∧ ((M.2.1 p 2).toInt).toNat ≤ 11 ∨ (p + 5) = p ∧ 2 ≤ ((M.2.1 p 2).toInt).toNat ∨ p + 1 ≤ (p + 5) ∧ (p + 5) ≤ p + 5 by omega)
                refine to_rv (pc := 30) rw_40_30 (to_c (pc := 102) rw_36_102 (x := (1 : Int32)) rfl rfl (s_r1 (pc := 103) rw_36_103 (A := 1) rfl (by decide) (b_ieq_f (pc := 119) rw_33_119 (A := 1) rfl (by decide) (to_in (pc := 122) rw_33_122 rfl (b_ieq_t (pc := 123) rw_33_123 (A := r53.toInt) rfl (by omega) (to_c (pc := 134) rw_33_134 (x := (1 : Int32)) rfl rfl (to_go (pc := 135) rw_33_135 (to_isn (pc := 139) rw_33_139 (ls2 := [.ref p, .ref 1, .int r53, .int (1 : Int32)]) rfl rfl (to_in (pc := 140) rw_33_140 rfl (b_ine_t (pc := 141) rw_33_141 (A := 1) rfl (by decide) (to_an (pc := 146) rw_33_146 rfl ?_)))))))))))
                refine to_dupr (pc := 147) rw_33_147 (tt_gJ (pc := 148) rw_33_148 (g_o hG209 (by rcases hp with rfl | rfl <;> rfl)) (v := (M.2.2.1 p 4)) (W_j W207 (W_j W202 (W_j W197 (F_nl F186 (show ¬ (p = 1 ∧ 6 ≤ 4 ∧ 4 ≤ 9) by omega) (F_nl F170 (show ¬ (p = 1 ∧ (4 = 10 ∨ 4 = 11)) by omega) (F_nl F150 (show ¬ (p = 1 ∧ (4 = 10 ∨ 4 = 11)) by omega) (F_nl F131 (show ¬ (p = 1 ∧ 6 ≤ 4 ∧ 4 ≤ 9) by omega) (F_nl F115 (show ¬ (p = 1 ∧ (4 = 10 ∨ 4 = 11)) by omega) (F_nl F95 (show ¬ (p = 1 ∧ (4 = 10 ∨ 4 = 11)) by omega) (F_nl F84 (show ¬ (p = 1 ∧ 6 ≤ 4 ∧ 4 ≤ 9) by omega) (W_j W77 (F_nl F54 (show ¬ (p < 0) by omega) (F_nl F47 (show ¬ (p = 1 ∧ 6 ≤ 4 ∧ 4 ≤ 9) by omega) (W_j W40 (F_nl F23 (show ¬ (p = 1 ∧ (4 = 10 ∨ 4 = 11)) by omega) (F_nl F15 (show ¬ (p = 1 ∧ 6 ≤ 4 ∧ 4 ≤ 9) by omega) rfl)))))))))))))))) (to_an (pc := 151) rw_33_151 rfl (s_gR (pc := 152) rw_33_152 hG209 (by rcases hp with rfl | rfl <;> rfl) (v := (p + 3)) (by rcases hp with rfl | rfl <;> rfl) (to_an (pc := 155) rw_33_155 rfl ?_))))
                have c_211 : M208.2.1 p 2 = (M.2.1 p 2) := (W_n W207 (by omega) c_206)
                refine tt_gI (pc := 156) rw_33_156 (g_o hG209 (by rcases hp with rfl | rfl <;> rfl)) (v := (M.2.1 p 2)) c_211 (s_ialk (pc := 159) rw_33_159 hG209 (by rcases hp with rfl | rfl <;> rfl) (n := 8) (by rcases hp with rfl | rfl <;> rfl) (by rcases hp with rfl | rfl <;> rfl) (A := (M.2.1 p 2).toInt) rfl (by omega) (by omega) (v := (M88.2.1 1 8)) (W_n W207 (by omega) (W_n W202 (by omega) (W_e W197))) (to_an (pc := 160) rw_33_160 rfl (s_gR (pc := 161) rw_33_161 hG209 (by rcases hp with rfl | rfl <;> rfl) (v := (p + 4)) (by rcases hp with rfl | rfl <;> rfl) (to_an (pc := 164) rw_33_164 rfl (tt_gI (pc := 165) rw_33_165 (g_o hG209 (by rcases hp with rfl | rfl <;> rfl)) (v := (M.2.1 p 2)) c_211 (s_ialk (pc := 168) rw_33_168 hG209 (by rcases hp with rfl | rfl <;> rfl) (n := 8) (by rcases hp with rfl | rfl <;> rfl) (by rcases hp with rfl | rfl <;> rfl) (A := (M.2.1 p 2).toInt) rfl (by omega) (by omega) (v := (M135.2.1 1 8)) (W_n W207 (by omega) (W_e W202)) (s_s (pc := 169) rw_33_169 (dp0 hd (by decide)) (ls0 := [.int (M88.2.1 1 8), .int (M135.2.1 1 8)]) rfl (Nat.le_of_ble_eq_true rfl) (Nat.le_of_ble_eq_true rfl) rfl (to_rcs rfl rfl) rfl (to_cl (pc := 0) rw_144_0 rfl (x := (1 : Int64)) rfl (to_in (pc := 1) rw_144_1 rfl (to_in (pc := 2) rw_144_2 rfl (s_sub (pc := 3) rw_144_3 (A := (M135.2.1 1 8).toInt) (B := (M88.2.1 1 8).toInt) rfl rfl (by omega) (fun v216 e217 => ?_))))))))))))
                refine to_c (pc := 4) rw_144_4 (x := (1 : Int32)) rfl rfl (s_add (pc := 5) rw_144_5 (A := v216.toInt) (B := 1) rfl rfl (by omega) (fun v218 e219 => to_2s (pc := 6) rw_144_6 (v := ((1 : Int64) <<< (v218.toInt64 &&& 63))) rfl (to_cl (pc := 7) rw_144_7 rfl (x := (1 : Int64)) rfl (to_2l (pc := 8) rw_144_8 (v := (((1 : Int64) <<< (v218.toInt64 &&& 63)) - (1 : Int64))) rfl (to_in (pc := 9) rw_144_9 rfl (to_2s (pc := 10) rw_144_10 (v := ((((1 : Int64) <<< (v218.toInt64 &&& 63)) - (1 : Int64)) <<< ((M88.2.1 1 8).toInt64 &&& 63))) rfl (to_rl (pc := 11) rw_144_11 (to_2l (pc := 172) rw_33_172 (v := ((M.2.2.1 p 4) ||| ((((1 : Int64) <<< (v218.toInt64 &&& 63)) - (1 : Int64)) <<< ((M88.2.1 1 8).toInt64 &&& 63)))) rfl ?_))))))))
                have j_220 := (PLc_f (fun a i z => W_n W207 (by omega) rfl) (W_j W207 rfl) (PLc_f (fun a i z => W_n W202 (by omega) rfl) (W_j W202 rfl) (PLc_f (fun a i z => W_n W197 (by omega) rfl) (W_j W197 rfl) (PLc_f (fun a i z => F_n F186 (show ¬ (a = 1 ∧ 6 ≤ i ∧ i ≤ 9) by omega) rfl) (F_nl F186 (show ¬ (p = 1 ∧ 6 ≤ 4 ∧ 4 ≤ 9) by omega) rfl) (PLc_f (fun a i z => F_n F170 (show ¬ (a = 1 ∧ (i = 10 ∨ i = 11)) by omega) rfl) (F_nl F170 (show ¬ (p = 1 ∧ (4 = 10 ∨ 4 = 11)) by omega) rfl) j_168)))))
                have r_221 : (M208.2.1 (p + 1) sg.2.1.toNat).toInt = (M19.2.1 1 8).toInt := by rw [show sg.2.1.toNat = ((M.2.1 p 2).toInt).toNat by omega, show M208.2.1 (p + 1) ((M.2.1 p 2).toInt).toNat = (M19.2.1 1 8) from (W_n W207 (by omega) (W_n W202 (by omega) (W_n W197 (by omega) (F_n F186 (show ¬ ((p + 1) = 1 ∧ 6 ≤ ((M.2.1 p 2).toInt).toNat ∧ ((M.2.1 p 2).toInt).toNat ≤ 9) by omega) (F_n F170 (show ¬ ((p + 1) = 1 ∧ (((M.2.1 p 2).toInt).toNat = 10 ∨ ((M.2.1 p 2).toInt).toNat = 11)) by omega) (F_n F150 (show ¬ ((p + 1) = 1 ∧ (((M.2.1 p 2).toInt).toNat = 10 ∨ ((M.2.1 p 2).toInt).toNat = 11)) by omega) (F_n F131 (show ¬ ((p + 1) = 1 ∧ 6 ≤ ((M.2.1 p 2).toInt).toNat ∧ ((M.2.1 p 2).toInt).toNat ≤ 9) by omega) (F_n F115 (show ¬ ((p + 1) = 1 ∧ (((M.2.1 p 2).toInt).toNat = 10 ∨ ((M.2.1 p 2).toInt).toNat = 11)) by omega) (F_n F95 (show ¬ ((p + 1) = 1 ∧ (((M.2.1 p 2).toInt).toNat = 10 ∨ ((M.2.1 p 2).toInt).toNat = 11)) by omega) (F_n F84 (show ¬ ((p + 1) = 1 ∧ 6 ≤ ((M.2.1 p 2).toInt).toNat ∧ ((M.2.1 p 2).toInt).toNat ≤ 9) by omega) (W_n W77 (by omega) (F_n F54 (show ¬ ((p + 1) < 0) by omega) (F_n F47 (show ¬ ((p + 1) = 1 ∧ 6 ≤ ((M.2.1 p 2).toInt).toNat ∧ ((M.2.1 p 2).toInt).toNat ≤ 9) by omega) (W_e W40))))))))))))))]
                have r_222 : (M208.2.1 (p + 2) sg.2.1.toNat).toInt = r53.toInt := by rw [show sg.2.1.toNat = ((M.2.1 p 2).toInt).toNat by omega, show M208.2.1 (p + 2) ((M.2.1 p 2).toInt).toNat = r53 from (W_n W207 (by omega) (W_n W202 (by omega) (W_n W197 (by omega) (F_n F186 (show ¬ ((p + 2) = 1 ∧ 6 ≤ ((M.2.1 p 2).toInt).toNat ∧ ((M.2.1 p 2).toInt).toNat ≤ 9) by omega) (F_n F170 (show ¬ ((p + 2) = 1 ∧ (((M.2.1 p 2).toInt).toNat = 10 ∨ ((M.2.1 p 2).toInt).toNat = 11)) by omega) (F_n F150 (show ¬ ((p + 2) = 1 ∧ (((M.2.1 p 2).toInt).toNat = 10 ∨ ((M.2.1 p 2).toInt).toNat = 11)) by omega) (F_n F131 (show ¬ ((p + 2) = 1 ∧ 6 ≤ ((M.2.1 p 2).toInt).toNat ∧ ((M.2.1 p 2).toInt).toNat ≤ 9) by omega) (F_n F115 (show ¬ ((p + 2) = 1 ∧ (((M.2.1 p 2).toInt).toNat = 10 ∨ ((M.2.1 p 2).toInt).toNat = 11)) by omega) (F_n F95 (show ¬ ((p + 2) = 1 ∧ (((M.2.1 p 2).toInt).toNat = 10 ∨ ((M.2.1 p 2).toInt).toNat = 11)) by omega) (F_n F84 (show ¬ ((p + 2) = 1 ∧ 6 ≤ ((M.2.1 p 2).toInt).toNat ∧ ((M.2.1 p 2).toInt).toNat ≤ 9) by omega) (W_e W77)))))))))))]
                have r_223 : (M208.2.1 (p + 3) sg.2.1.toNat).toInt = (M88.2.1 1 8).toInt := by rw [show sg.2.1.toNat = ((M.2.1 p 2).toInt).toNat by omega, show M208.2.1 (p + 3) ((M.2.1 p 2).toInt).toNat = (M88.2.1 1 8) from (W_n W207 (by omega) (W_n W202 (by omega) (W_e W197)))]
                have r_224 : (M208.2.1 (p + 4) sg.2.1.toNat).toInt = (M135.2.1 1 8).toInt := by rw [show sg.2.1.toNat = ((M.2.1 p 2).toInt).toNat by omega, show M208.2.1 (p + 4) ((M.2.1 p 2).toInt).toNat = (M135.2.1 1 8) from (W_n W207 (by omega) (W_e W202))]
                have r_225 : (M208.2.1 (p + 5) sg.2.1.toNat).toInt = v194.toInt := by rw [show sg.2.1.toNat = ((M.2.1 p 2).toInt).toNat by omega, show M208.2.1 (p + 5) ((M.2.1 p 2).toInt).toNat = v194 from (W_e W207)]
                refine s_pJ (pc := 173) rw_33_173 hG209 (by rcases hp with rfl | rfl <;> rfl) (fun M227 W226 => ?_)
                have hG228 := g_wl hG209 W226
                have F229 := FR.wl F210 W226 (show p = 1 ∧ 6 ≤ 4 ∧ 4 ≤ 11 ∨ p = p ∧ 2 ≤ 4 ∨ p + 1 ≤ p ∧ p ≤ p + 5 by omega)
                refine to_an (pc := 176) rw_33_176 rfl (to_dupr (pc := 177) rw_33_177 ?_)
                have c_230 : M227.2.1 p 2 = (M.2.1 p 2) := (W_l W226 c_211)
                refine tt_gI (pc := 178) rw_33_178 (g_o hG228 (by rcases hp with rfl | rfl <;> rfl)) (v := (M.2.1 p 2)) c_230 (to_c (pc := 181) rw_33_181 (x := (1 : Int32)) rfl rfl (s_add (pc := 182) rw_33_182 (A := (M.2.1 p 2).toInt) (B := 1) rfl rfl (by omega) (fun v231 e232 => s_pI (pc := 183) rw_33_183 hG228 (by rcases hp with rfl | rfl <;> rfl) (fun M234 W233 => ?_))))
                have hG235 := g_w hG228 W233 (A := v231.toInt) rfl (lo := 0) (hi := 8) (by rcases hp with rfl | rfl <;> rfl) (by rcases hp with rfl | rfl <;> rfl) (by omega) (by omega)
                have F236 := FR.w F229 W233 (show p = 1 ∧ 6 ≤ 2 ∧ 2 ≤ 11 ∨ p = p ∧ 2 ≤ 2 ∨ p + 1 ≤ p ∧ p ≤ p + 5 by omega)
                refine to_c (pc := 186) rw_33_186 (x := (1 : Int32)) rfl rfl (s_r1 (pc := 187) rw_33_187 (A := 1) rfl (by decide) ?_)
                have k_237 : (1 : Int32).toInt = 1 := rfl
                have j_238 := (CS_f (fun a i z => W_n W233 (by omega) rfl) (CS_f (fun a i z => W_l W226 rfl) (CS_f (fun a i z => W_n W207 (by omega) rfl) (CS_f (fun a i z => W_n W202 (by omega) rfl) (CS_f (fun a i z => W_n W197 (by omega) rfl) p_188)))))
                have c_239 : M234.2.1 1 9 = (M190.2.1 1 9) := (W_n W233 (by omega) (W_l W226 (W_n W207 (by omega) (W_n W202 (by omega) (W_n W197 (by omega) rfl)))))
                have t_240 : (M234.2.1 1 9).toInt = (M190.2.1 1 9).toInt := congrArg Int32.toInt c_239
                have z_241 : x_fC t nn sg (x_ns t nn a) := by unfold x_fC; omega
                have j_242 := PLc_p (nm := (x_val t nn (x_ns t nn a))) (kd := 0) (f := (x_val t nn (x_ns t nn (x_ns t nn (x_ns t nn a))))) (l := (x_val t nn (x_ns t nn (x_ns t nn (x_ns t nn (x_ns t nn a)))))) (c := ((x_val t nn (x_ns t nn (x_ns t nn (x_ns t nn (x_ns t nn a))))) - (x_val t nn (x_ns t nn (x_ns t nn (x_ns t nn a)))) + 1)) j_220 W226 W233 (x_or_e q3 (by omega) (by omega)) (by omega) (by omega) (r_221.trans (by omega)) (r_222.trans (by omega)) (r_223.trans (by omega)) (r_224.trans (by omega)) (r_225.trans (by omega)) (by omega) (by omega) (by omega) (by omega)
                have j_243 := (CW_f (fun k hk9 => W_j W233 rfl) (CW_f (fun k hk9 => L_n W226 (by omega) rfl) (CW_f (fun k hk9 => W_j W207 rfl) (CW_f (fun k hk9 => W_j W202 rfl) (CW_f (fun k hk9 => W_j W197 rfl) (CW_f (fun k hk9 => F_nl F186 (show ¬ ((p + 8) = 1 ∧ 6 ≤ k ∧ k ≤ 9) by omega) rfl) (CW_f (fun k hk9 => F_nl F170 (show ¬ ((p + 8) = 1 ∧ (k = 10 ∨ k = 11)) by omega) rfl) (CW_f (fun k hk9 => F_nl F150 (show ¬ ((p + 8) = 1 ∧ (k = 10 ∨ k = 11)) by omega) rfl) (CW_f (fun k hk9 => F_nl F131 (show ¬ ((p + 8) = 1 ∧ 6 ≤ k ∧ k ≤ 9) by omega) rfl) (CW_f (fun k hk9 => F_nl F115 (show ¬ ((p + 8) = 1 ∧ (k = 10 ∨ k = 11)) by omega) rfl) (CW_f (fun k hk9 => F_nl F95 (show ¬ ((p + 8) = 1 ∧ (k = 10 ∨ k = 11)) by omega) rfl) (CW_f (fun k hk9 => F_nl F84 (show ¬ ((p + 8) = 1 ∧ 6 ≤ k ∧ k ≤ 9) by omega) rfl) (CW_f (fun k hk9 => W_j W77 rfl) (CW_f (fun k hk9 => F_nl F54 (show ¬ ((p + 8) < 0) by omega) rfl) (CW_f (fun k hk9 => F_nl F47 (show ¬ ((p + 8) = 1 ∧ 6 ≤ k ∧ k ≤ 9) by omega) rfl) (CW_f (fun k hk9 => W_j W40 rfl) (CW_f (fun k hk9 => F_nl F23 (show ¬ ((p + 8) = 1 ∧ (k = 10 ∨ k = 11)) by omega) rfl) (CW_f (fun k hk9 => F_nl F15 (show ¬ ((p + 8) = 1 ∧ 6 ≤ k ∧ k ≤ 9) by omega) rfl) q4))))))))))))))))))
                exact h (1 : Int32) M234 hG235 F236 (by decide) (by decide) j_238 (fun z => absurd z (by decide)) (fun _ => ⟨_, (by rw [show (M234.2.1 1 9).toInt = (x_ns t nn (x_ns t nn (x_ns t nn (x_ns t nn (x_ns t nn a))))) by omega]; exact x_field_0 z_241 (by omega)), ⟨j_242, CW_p j_243⟩, (by show sg.2.1 + 1 + sg.2.2.1 = _; omega)⟩)
      · skip
        have p_244 := p_59 (by omega)
        clear p_58 p_59
        refine to_isn (pc := 50) rw_33_50 (ls2 := [.ref p, .ref 1, .int r53, .null]) rfl rfl (to_in (pc := 51) rw_33_51 rfl (to_c (pc := 52) rw_33_52 (x := (-1 : Int32)) rfl rfl (b_cne_t (pc := 53) rw_33_53 (A := r53.toInt) (B := -1) rfl rfl (by omega) (to_an (pc := 62) rw_33_62 rfl (s_gR (pc := 63) rw_33_63 hG55 (by rcases hp with rfl | rfl <;> rfl) (v := (p + 2)) (by rcases hp with rfl | rfl <;> rfl) (to_an (pc := 66) rw_33_66 rfl ?_))))))
        have c_245 : M60.2.1 p 2 = (M.2.1 p 2) := (F_n F54 (show ¬ (p < 0) by omega) (F_n F47 (show ¬ (p = 1 ∧ 6 ≤ 2 ∧ 2 ≤ 9) by omega) (W_n W40 (by omega) c_38)))
        refine tt_gI (pc := 67) rw_33_67 (g_o hG55 (by rcases hp with rfl | rfl <;> rfl)) (v := (M.2.1 p 2)) c_245 (to_in (pc := 70) rw_33_70 rfl (s_ias (pc := 71) rw_33_71 hG55 (by rcases hp with rfl | rfl <;> rfl) (n := 8) (by rcases hp with rfl | rfl <;> rfl) (A := (M.2.1 p 2).toInt) rfl (by omega) (by omega) (fun M247 W246 => ?_)))
        have hG248 := g_w hG55 W246 (A := r53.toInt) rfl (lo := 0) (hi := 3) (by rcases hp with rfl | rfl <;> rfl) (by rcases hp with rfl | rfl <;> rfl) (by omega) (by omega)
        have F249 := FR.w F61 W246 (show (p + 2) = 1 ∧ 6 ≤ ((M.2.1 p 2).toInt).toNat ∧ ((M.2.1 p 2).toInt).toNat ≤ 11 ∨ (p + 2) = p ∧ 2 ≤ ((M.2.1 p 2).toInt).toNat ∨ p + 1 ≤ (p + 2) ∧ (p + 2) ≤ p + 5 by omega)
        refine to_an (pc := 72) rw_33_72 rfl (s_v (pc := 73) rw_33_73 (dp0 hd (by decide)) (ls0 := [.ref 1]) rfl (Nat.le_of_ble_eq_true rfl) (Nat.le_of_ble_eq_true rfl) rfl (to_rc rfl rfl rfl (g_o hG248 rfl)) rfl ?_)
        have j_250 := (CS_f (fun a i z => W_n W246 (by omega) rfl) (CS_f (tg_28 F54) p_49))
        have c_251 : M247.2.1 1 9 = (M51.2.1 1 9) := (W_n W246 (by omega) (F_n F54 (show ¬ (1 < 0) by decide) rfl))
        have t_252 : (M247.2.1 1 9).toInt = (M51.2.1 1 9).toInt := congrArg Int32.toInt c_251
        refine E_83 hX (dp1 hd (by decide)) hG248 j_250 (by omega) (t := t) (nn := nn) (a := (x_ns t nn (x_ns t nn a))) (fun M257 hG254 F253 p_255 p_256 => ?_)
        have F258 := FR.c F249 F253 (fun a i z => show a = 1 ∧ 6 ≤ i ∧ i ≤ 11 ∨ a = p ∧ 2 ≤ i ∨ p + 1 ≤ a ∧ a ≤ p + 5 by have z : a = 1 ∧ 6 ≤ i ∧ i ≤ 9 := z; omega)
        refine to_in (pc := 76) rw_33_76 rfl (to_c (pc := 77) rw_33_77 (x := (1 : Int32)) rfl rfl (b_ceq_t (pc := 78) rw_33_78 (A := r53.toInt) (B := 1) rfl rfl (by omega) (to_an (pc := 86) rw_33_86 rfl (to_an (pc := 87) rw_33_87 rfl (to_in (pc := 88) rw_33_88 rfl (to_c (pc := 89) rw_33_89 (x := (1 : Int32)) rfl rfl (b_cne_f (pc := 90) rw_33_90 (A := r53.toInt) (B := 1) rfl rfl (by omega) (to_c (pc := 93) rw_33_93 (x := (4 : Int32)) rfl rfl (to_go (pc := 94) rw_33_94 (s_v (pc := 98) rw_33_98 (dp0 hd (by decide)) (ls0 := [.ref p, .ref 1, .int (4 : Int32), .null, .null]) rfl (Nat.le_of_ble_eq_true rfl) (Nat.le_of_ble_eq_true rfl) rfl (to_rc rfl rfl rfl (g_o hG254 (by rcases hp with rfl | rfl <;> rfl))) rfl (to_an (pc := 0) rw_37_0 rfl ?_)))))))))))
        refine tt_gI (pc := 1) rw_37_1 (g_o hG254 rfl) (v := (M257.2.1 1 8)) rfl (to_isn (pc := 4) rw_37_4 (ls2 := [.ref p, .ref 1, .int (4 : Int32), .int (M257.2.1 1 8), .null]) rfl rfl (to_in (pc := 5) rw_37_5 rfl (to_in (pc := 6) rw_37_6 rfl (s_addo (pc := 7) rw_37_7 (A := (M257.2.1 1 8).toInt) (B := 4) rfl rfl (fun v259 e260 => to_c (pc := 8) rw_37_8 (x := (1 : Int32)) rfl rfl (s_subo (pc := 9) rw_37_9 (A := v259.toInt) (B := 1) rfl rfl (fun v261 e262 => to_is (pc := 10) rw_37_10 (ls2 := [.ref p, .ref 1, .int (4 : Int32), .int (M257.2.1 1 8), .int v261]) rfl rfl (to_an (pc := 12) rw_37_12 rfl (to_c (pc := 13) rw_37_13 (x := (0 : Int32)) rfl rfl (to_an (pc := 14) rw_37_14 rfl ?_))))))))))
        have c_263 : M257.2.1 p 0 = (M.2.1 p 0) := (F_n F253 (show ¬ (p = 1 ∧ 6 ≤ 0 ∧ 0 ≤ 9) by omega) (W_n W246 (by omega) (F_n F54 (show ¬ (p < 0) by omega) (F_n F47 (show ¬ (p = 1 ∧ 6 ≤ 0 ∧ 0 ≤ 9) by omega) (W_n W40 (by omega) (F_n F23 (show ¬ (p = 1 ∧ (0 = 10 ∨ 0 = 11)) by omega) (F_n F15 (show ¬ (p = 1 ∧ 6 ≤ 0 ∧ 0 ≤ 9) by omega) rfl)))))))
        refine tt_gI (pc := 15) rw_37_15 (g_o hG254 (by rcases hp with rfl | rfl <;> rfl)) (v := (M.2.1 p 0)) c_263 (to_in (pc := 18) rw_37_18 rfl (s_sub (pc := 19) rw_37_19 (A := (M.2.1 p 0).toInt) (B := 4) rfl rfl (by omega) (fun v264 e265 => s_v (pc := 20) rw_37_20 (dp1 hd (by decide)) (ls0 := [.ref 1, .int (0 : Int32), .int v264]) rfl (Nat.le_of_ble_eq_true rfl) (Nat.le_of_ble_eq_true rfl) rfl (to_rc rfl rfl rfl (g_o hG254 rfl)) rfl ?_)))
        have k_266 : (0 : Int32).toInt = 0 := rfl
        refine E_88 hX (dp2 hd (by decide)) hG254 p_255 (by omega) (l := (0 : Int32)) (m := v264) (t := t) (nn := nn) (a := (x_ns t nn (x_ns t nn (x_ns t nn a)))) (fun r267 M274 hG269 F268 p_270 p_271 p_272 p_273 => ?_)
        have F275 := FR.c F258 F268 (fun a i z => show a = 1 ∧ 6 ≤ i ∧ i ≤ 11 ∨ a = p ∧ 2 ≤ i ∨ p + 1 ≤ a ∧ a ≤ p + 5 by have z : a = 1 ∧ (i = 10 ∨ i = 11) := z; omega)
        rcases (show r267.toInt = 0 ∨ r267.toInt = 1 by omega) with h276 | h276
        · skip
          have p_277 := p_273 (by omega)
          clear p_272 p_273
          have z_278 := x_val_b (t := t) (nn := nn) (a := (x_ns t nn (x_ns t nn (x_ns t nn a))))
          refine b_ieq_t (pc := 23) rw_37_23 (A := r267.toInt) rfl (by omega) (to_c (pc := 37) rw_37_37 (x := (0 : Int32)) rfl rfl (s_r1 (pc := 38) rw_37_38 (A := 0) rfl (by decide) (to_isn (pc := 101) rw_33_101 (ls2 := [.ref p, .ref 1, .int r53, .int (0 : Int32)]) rfl rfl (to_go (pc := 102) rw_33_102 (to_in (pc := 140) rw_33_140 rfl (b_ine_f (pc := 141) rw_33_141 (A := 0) rfl (by decide) (to_c (pc := 144) rw_33_144 (x := (0 : Int32)) rfl rfl (s_r1 (pc := 145) rw_33_145 (A := 0) rfl (by decide) ?_))))))))
          have j_279 := (CS_f (tg_34 F268) p_255)
          exact h (0 : Int32) M274 hG269 F275 (by decide) (by decide) j_279 (fun _ => x_field_n (fun h9 => by unfold x_fC at h9; omega)) (fun z => absurd z (by decide))
        · skip
          have p_280 := p_272 (by omega)
          clear p_272 p_273
          have c_281 : M274.2.1 1 8 = (M257.2.1 1 8) := (F_n F268 (show ¬ (1 = 1 ∧ (8 = 10 ∨ 8 = 11)) by decide) rfl)
          have z_282 := x_val_b (t := t) (nn := nn) (a := (x_ns t nn (x_ns t nn (x_ns t nn a)))) (by omega)
          refine b_ieq_f (pc := 23) rw_37_23 (A := r267.toInt) rfl (by omega) (to_an (pc := 26) rw_37_26 rfl (to_an (pc := 27) rw_37_27 rfl (to_in (pc := 28) rw_37_28 rfl (to_i (pc := 29) rw_37_29 rfl (s_v (pc := 31) rw_37_31 (dp1 hd (by decide)) (ls0 := [.ref p, .ref 1, .int (M257.2.1 1 8), .int v261]) rfl (Nat.le_of_ble_eq_true rfl) (Nat.le_of_ble_eq_true rfl) rfl (to_rc rfl rfl rfl (g_o hG269 (by rcases hp with rfl | rfl <;> rfl))) rfl ?_)))))
          have j_283 := (CS_f (tg_34 F268) p_255)
          have c_284 : M274.2.1 1 9 = (M257.2.1 1 9) := (F_n F268 (show ¬ (1 = 1 ∧ (9 = 10 ∨ 9 = 11)) by decide) rfl)
          have t_285 : (M274.2.1 1 9).toInt = (M257.2.1 1 9).toInt := congrArg Int32.toInt c_284
          have j_286 := (PLc_f (fun a i z => F_n F268 (show ¬ (a = 1 ∧ (i = 10 ∨ i = 11)) by omega) rfl) (F_nl F268 (show ¬ (p = 1 ∧ (4 = 10 ∨ 4 = 11)) by omega) rfl) (PLc_f (fun a i z => F_n F253 (show ¬ (a = 1 ∧ 6 ≤ i ∧ i ≤ 9) by omega) rfl) (F_nl F253 (show ¬ (p = 1 ∧ 6 ≤ 4 ∧ 4 ≤ 9) by omega) rfl) (PLc_f (fun a i z => W_n W246 (by omega) rfl) (W_j W246 rfl) (PLc_f (fun a i z => F_n F54 (show ¬ (a < 0) by omega) rfl) (F_nl F54 (show ¬ (p < 0) by omega) rfl) (PLc_f (fun a i z => F_n F47 (show ¬ (a = 1 ∧ 6 ≤ i ∧ i ≤ 9) by omega) rfl) (F_nl F47 (show ¬ (p = 1 ∧ 6 ≤ 4 ∧ 4 ≤ 9) by omega) rfl) (PLc_f (fun a i z => W_n W40 (by omega) rfl) (W_j W40 rfl) (PLc_f (fun a i z => F_n F23 (show ¬ (a = 1 ∧ (i = 10 ∨ i = 11)) by omega) rfl) (F_nl F23 (show ¬ (p = 1 ∧ (4 = 10 ∨ 4 = 11)) by omega) rfl) j_21)))))))
          refine E_39 hX (dp2 hd (by decide)) hG269 hp j_283 (by omega) j_286 (by omega) (by omega) (by omega) (by omega) (by omega) (p := p) (f := (M257.2.1 1 8)) (l := v261) (t := t) (nn := nn) (a := (x_ns t nn (x_ns t nn (x_ns t nn a)))) (sg := sg) (fun r287 M294 hG289 F288 p_290 p_291 p_292 p_293 => ?_)
          have F295 := FR.c F275 F288 (fun a i z => show a = 1 ∧ 6 ≤ i ∧ i ≤ 11 ∨ a = p ∧ 2 ≤ i ∨ p + 1 ≤ a ∧ a ≤ p + 5 by have z : a = 1 ∧ (i = 10 ∨ i = 11) := z; omega)
          have z_296 := x_free_v (s := sg) (f := (M257.2.1 1 8).toInt) (l := v261.toInt) (f2 := (x_val t nn (x_ns t nn (x_ns t nn (x_ns t nn a))))) (l2 := ((x_val t nn (x_ns t nn (x_ns t nn (x_ns t nn a)))) + ((x_kx (x_val t nn (x_ns t nn (x_ns t nn a)))) - 1))) (by omega) (by omega)
          rcases (show r287.toInt = 0 ∨ r287.toInt = 1 by omega) with h297 | h297
          · skip
            have p_298 := p_293 (by omega)
            clear p_292 p_293
            refine b_ine_f (pc := 34) rw_37_34 (A := r287.toInt) rfl (by omega) (to_c (pc := 37) rw_37_37 (x := (0 : Int32)) rfl rfl (s_r1 (pc := 38) rw_37_38 (A := 0) rfl (by decide) (to_isn (pc := 101) rw_33_101 (ls2 := [.ref p, .ref 1, .int r53, .int (0 : Int32)]) rfl rfl (to_go (pc := 102) rw_33_102 (to_in (pc := 140) rw_33_140 rfl (b_ine_f (pc := 141) rw_33_141 (A := 0) rfl (by decide) (to_c (pc := 144) rw_33_144 (x := (0 : Int32)) rfl rfl (s_r1 (pc := 145) rw_33_145 (A := 0) rfl (by decide) ?_))))))))
            have j_299 := (CS_f (tg_34 F288) j_283)
            exact h (0 : Int32) M294 hG289 F295 (by decide) (by decide) j_299 (fun _ => x_field_n (fun h9 => by unfold x_fC at h9; omega)) (fun z => absurd z (by decide))
          · skip
            have p_300 := p_292 (by omega)
            clear p_292 p_293
            refine b_ine_t (pc := 34) rw_37_34 (A := r287.toInt) rfl (by omega) (to_an (pc := 39) rw_37_39 rfl (s_v (pc := 40) rw_37_40 (dp1 hd (by decide)) (ls0 := [.ref 1]) rfl (Nat.le_of_ble_eq_true rfl) (Nat.le_of_ble_eq_true rfl) rfl (to_rc rfl rfl rfl (g_o hG289 rfl)) rfl ?_))
            have j_301 := (CS_f (tg_34 F288) j_283)
            have c_302 : M294.2.1 1 9 = (M257.2.1 1 9) := (F_n F288 (show ¬ (1 = 1 ∧ (9 = 10 ∨ 9 = 11)) by decide) c_284)
            have t_303 : (M294.2.1 1 9).toInt = (M257.2.1 1 9).toInt := congrArg Int32.toInt c_302
            refine E_83 hX (dp2 hd (by decide)) hG289 j_301 (by omega) (t := t) (nn := nn) (a := (x_ns t nn (x_ns t nn (x_ns t nn a)))) (fun M308 hG305 F304 p_306 p_307 => ?_)
            have F309 := FR.c F295 F304 (fun a i z => show a = 1 ∧ 6 ≤ i ∧ i ≤ 11 ∨ a = p ∧ 2 ≤ i ∨ p + 1 ≤ a ∧ a ≤ p + 5 by have z : a = 1 ∧ 6 ≤ i ∧ i ≤ 9 := z; omega)
            refine to_an (pc := 43) rw_37_43 rfl (to_in (pc := 44) rw_37_44 rfl (to_i (pc := 45) rw_37_45 rfl (to_c (pc := 47) rw_37_47 (x := (10 : Int32)) rfl rfl (s_v (pc := 49) rw_37_49 (dp1 hd (by decide)) (ls0 := [.ref p, .int (M257.2.1 1 8), .int v261, .int (10 : Int32)]) rfl (Nat.le_of_ble_eq_true rfl) (Nat.le_of_ble_eq_true rfl) rfl (to_rc rfl rfl rfl (g_o hG305 (by rcases hp with rfl | rfl <;> rfl))) rfl (to_an (pc := 0) rw_40_0 rfl (s_gR (pc := 1) rw_40_1 hG305 (by rcases hp with rfl | rfl <;> rfl) (v := (p + 3)) (by rcases hp with rfl | rfl <;> rfl) (to_an (pc := 4) rw_40_4 rfl ?_)))))))
            have c_310 : M308.2.1 p 2 = (M.2.1 p 2) := (F_n F304 (show ¬ (p = 1 ∧ 6 ≤ 2 ∧ 2 ≤ 9) by omega) (F_n F288 (show ¬ (p = 1 ∧ (2 = 10 ∨ 2 = 11)) by omega) (F_n F268 (show ¬ (p = 1 ∧ (2 = 10 ∨ 2 = 11)) by omega) (F_n F253 (show ¬ (p = 1 ∧ 6 ≤ 2 ∧ 2 ≤ 9) by omega) (W_n W246 (by omega) c_245)))))
            refine tt_gI (pc := 5) rw_40_5 (g_o hG305 (by rcases hp with rfl | rfl <;> rfl)) (v := (M.2.1 p 2)) c_310 (to_in (pc := 8) rw_40_8 rfl (s_ias (pc := 9) rw_40_9 hG305 (by rcases hp with rfl | rfl <;> rfl) (n := 8) (by rcases hp with rfl | rfl <;> rfl) (A := (M.2.1 p 2).toInt) rfl (by omega) (by omega) (fun M312 W311 => ?_)))
            have hG313 := g_w hG305 W311 (A := (M257.2.1 1 8).toInt) rfl (lo := 0) (hi := 59) (by rcases hp with rfl | rfl <;> rfl) (by rcases hp with rfl | rfl <;> rfl) (by omega) (by omega)
            have F314 := FR.w F309 W311 (show (p + 3) = 1 ∧ 6 ≤ ((M.2.1 p 2).toInt).toNat ∧ ((M.2.1 p 2).toInt).toNat ≤ 11 ∨ (p + 3) = p ∧ 2 ≤ ((M.2.1 p 2).toInt).toNat ∨ p + 1 ≤ (p + 3) ∧ (p + 3) ≤ p + 5 by omega)
            refine to_an (pc := 10) rw_40_10 rfl (s_gR (pc := 11) rw_40_11 hG313 (by rcases hp with rfl | rfl <;> rfl) (v := (p + 4)) (by rcases hp with rfl | rfl <;> rfl) (to_an (pc := 14) rw_40_14 rfl ?_))
            have c_315 : M312.2.1 p 2 = (M.2.1 p 2) := (W_n W311 (by omega) c_310)
            refine tt_gI (pc := 15) rw_40_15 (g_o hG313 (by rcases hp with rfl | rfl <;> rfl)) (v := (M.2.1 p 2)) c_315 (to_in (pc := 18) rw_40_18 rfl (s_ias (pc := 19) rw_40_19 hG313 (by rcases hp with rfl | rfl <;> rfl) (n := 8) (by rcases hp with rfl | rfl <;> rfl) (A := (M.2.1 p 2).toInt) rfl (by omega) (by omega) (fun M317 W316 => ?_)))
            have hG318 := g_w hG313 W316 (A := v261.toInt) rfl (lo := 0) (hi := 63) (by rcases hp with rfl | rfl <;> rfl) (by rcases hp with rfl | rfl <;> rfl) (by omega) (by omega)
            have F319 := FR.w F314 W316 (show (p + 4) = 1 ∧ 6 ≤ ((M.2.1 p 2).toInt).toNat ∧ ((M.2.1 p 2).toInt).toNat ≤ 11 ∨ (p + 4) = p ∧ 2 ≤ ((M.2.1 p 2).toInt).toNat ∨ p + 1 ≤ (p + 4) ∧ (p + 4) ≤ p + 5 by omega)
            refine to_an (pc := 20) rw_40_20 rfl (s_gR (pc := 21) rw_40_21 hG318 (by rcases hp with rfl | rfl <;> rfl) (v := (p + 5)) (by rcases hp with rfl | rfl <;> rfl) (to_an (pc := 24) rw_40_24 rfl ?_))
            have c_320 : M317.2.1 p 2 = (M.2.1 p 2) := (W_n W316 (by omega) c_315)
            refine tt_gI (pc := 25) rw_40_25 (g_o hG318 (by rcases hp with rfl | rfl <;> rfl)) (v := (M.2.1 p 2)) c_320 (to_in (pc := 28) rw_40_28 rfl (s_ias (pc := 29) rw_40_29 hG318 (by rcases hp with rfl | rfl <;> rfl) (n := 8) (by rcases hp with rfl | rfl <;> rfl) (A := (M.2.1 p 2).toInt) rfl (by omega) (by omega) (fun M322 W321 => ?_)))
            have hG323 := g_w hG318 W321 (A := 10) rfl (lo := 0) (hi := 24) (by rcases hp with rfl | rfl <;> rfl) (by rcases hp with rfl | rfl <;> rfl) (by omega) (by omega)
            have F324 := FR.w F319 W321 (show (p + 5) = 1 ∧ 6 ≤ ((M.2.1 p 2).toInt).toNat ∧ ((M.2.1 p 2).toInt).toNat ≤ 11 ∨ (p + 5) = p ∧ 2 ≤ ((M.2.1 p 2).toInt).toNat ∨ p + 1 ≤ (p + 5) ∧ (p + 5) ≤ p + 5 by omega)
            refine to_rv (pc := 30) rw_40_30 (to_c (pc := 52) rw_37_52 (x := (1 : Int32)) rfl rfl (s_r1 (pc := 53) rw_37_53 (A := 1) rfl (by decide) (to_isn (pc := 101) rw_33_101 (ls2 := [.ref p, .ref 1, .int r53, .int (1 : Int32)]) rfl rfl (to_go (pc := 102) rw_33_102 (to_in (pc := 140) rw_33_140 rfl (b_ine_t (pc := 141) rw_33_141 (A := 1) rfl (by decide) (to_an (pc := 146) rw_33_146 rfl (to_dupr (pc := 147) rw_33_147 (tt_gJ (pc := 148) rw_33_148 (g_o hG323 (by rcases hp with rfl | rfl <;> rfl)) (v := (M.2.2.1 p 4)) (W_j W321 (W_j W316 (W_j W311 (F_nl F304 (show ¬ (p = 1 ∧ 6 ≤ 4 ∧ 4 ≤ 9) by omega) (F_nl F288 (show ¬ (p = 1 ∧ (4 = 10 ∨ 4 = 11)) by omega) (F_nl F268 (show ¬ (p = 1 ∧ (4 = 10 ∨ 4 = 11)) by omega) (F_nl F253 (show ¬ (p = 1 ∧ 6 ≤ 4 ∧ 4 ≤ 9) by omega) (W_j W246 (F_nl F54 (show ¬ (p < 0) by omega) (F_nl F47 (show ¬ (p = 1 ∧ 6 ≤ 4 ∧ 4 ≤ 9) by omega) (W_j W40 (F_nl F23 (show ¬ (p = 1 ∧ (4 = 10 ∨ 4 = 11)) by omega) (F_nl F15 (show ¬ (p = 1 ∧ 6 ≤ 4 ∧ 4 ≤ 9) by omega) rfl))))))))))))) (to_an (pc := 151) rw_33_151 rfl (s_gR (pc := 152) rw_33_152 hG323 (by rcases hp with rfl | rfl <;> rfl) (v := (p + 3)) (by rcases hp with rfl | rfl <;> rfl) ?_)))))))))))
            refine to_an (pc := 155) rw_33_155 rfl ?_
            have c_325 : M322.2.1 p 2 = (M.2.1 p 2) := (W_n W321 (by omega) c_320)
            refine tt_gI (pc := 156) rw_33_156 (g_o hG323 (by rcases hp with rfl | rfl <;> rfl)) (v := (M.2.1 p 2)) c_325 (s_ialk (pc := 159) rw_33_159 hG323 (by rcases hp with rfl | rfl <;> rfl) (n := 8) (by rcases hp with rfl | rfl <;> rfl) (by rcases hp with rfl | rfl <;> rfl) (A := (M.2.1 p 2).toInt) rfl (by omega) (by omega) (v := (M257.2.1 1 8)) (W_n W321 (by omega) (W_n W316 (by omega) (W_e W311))) (to_an (pc := 160) rw_33_160 rfl (s_gR (pc := 161) rw_33_161 hG323 (by rcases hp with rfl | rfl <;> rfl) (v := (p + 4)) (by rcases hp with rfl | rfl <;> rfl) (to_an (pc := 164) rw_33_164 rfl (tt_gI (pc := 165) rw_33_165 (g_o hG323 (by rcases hp with rfl | rfl <;> rfl)) (v := (M.2.1 p 2)) c_325 (s_ialk (pc := 168) rw_33_168 hG323 (by rcases hp with rfl | rfl <;> rfl) (n := 8) (by rcases hp with rfl | rfl <;> rfl) (by rcases hp with rfl | rfl <;> rfl) (A := (M.2.1 p 2).toInt) rfl (by omega) (by omega) (v := v261) (W_n W321 (by omega) (W_e W316)) (s_s (pc := 169) rw_33_169 (dp0 hd (by decide)) (ls0 := [.int (M257.2.1 1 8), .int v261]) rfl (Nat.le_of_ble_eq_true rfl) (Nat.le_of_ble_eq_true rfl) rfl (to_rcs rfl rfl) rfl (to_cl (pc := 0) rw_144_0 rfl (x := (1 : Int64)) rfl (to_in (pc := 1) rw_144_1 rfl (to_in (pc := 2) rw_144_2 rfl (s_sub (pc := 3) rw_144_3 (A := v261.toInt) (B := (M257.2.1 1 8).toInt) rfl rfl (by omega) (fun v330 e331 => ?_))))))))))))
            refine to_c (pc := 4) rw_144_4 (x := (1 : Int32)) rfl rfl (s_add (pc := 5) rw_144_5 (A := v330.toInt) (B := 1) rfl rfl (by omega) (fun v332 e333 => to_2s (pc := 6) rw_144_6 (v := ((1 : Int64) <<< (v332.toInt64 &&& 63))) rfl (to_cl (pc := 7) rw_144_7 rfl (x := (1 : Int64)) rfl (to_2l (pc := 8) rw_144_8 (v := (((1 : Int64) <<< (v332.toInt64 &&& 63)) - (1 : Int64))) rfl (to_in (pc := 9) rw_144_9 rfl (to_2s (pc := 10) rw_144_10 (v := ((((1 : Int64) <<< (v332.toInt64 &&& 63)) - (1 : Int64)) <<< ((M257.2.1 1 8).toInt64 &&& 63))) rfl (to_rl (pc := 11) rw_144_11 (to_2l (pc := 172) rw_33_172 (v := ((M.2.2.1 p 4) ||| ((((1 : Int64) <<< (v332.toInt64 &&& 63)) - (1 : Int64)) <<< ((M257.2.1 1 8).toInt64 &&& 63)))) rfl ?_))))))))
            have j_334 := (PLc_f (fun a i z => W_n W321 (by omega) rfl) (W_j W321 rfl) (PLc_f (fun a i z => W_n W316 (by omega) rfl) (W_j W316 rfl) (PLc_f (fun a i z => W_n W311 (by omega) rfl) (W_j W311 rfl) (PLc_f (fun a i z => F_n F304 (show ¬ (a = 1 ∧ 6 ≤ i ∧ i ≤ 9) by omega) rfl) (F_nl F304 (show ¬ (p = 1 ∧ 6 ≤ 4 ∧ 4 ≤ 9) by omega) rfl) (PLc_f (fun a i z => F_n F288 (show ¬ (a = 1 ∧ (i = 10 ∨ i = 11)) by omega) rfl) (F_nl F288 (show ¬ (p = 1 ∧ (4 = 10 ∨ 4 = 11)) by omega) rfl) j_286)))))
            have r_335 : (M322.2.1 (p + 1) sg.2.1.toNat).toInt = (M19.2.1 1 8).toInt := by rw [show sg.2.1.toNat = ((M.2.1 p 2).toInt).toNat by omega, show M322.2.1 (p + 1) ((M.2.1 p 2).toInt).toNat = (M19.2.1 1 8) from (W_n W321 (by omega) (W_n W316 (by omega) (W_n W311 (by omega) (F_n F304 (show ¬ ((p + 1) = 1 ∧ 6 ≤ ((M.2.1 p 2).toInt).toNat ∧ ((M.2.1 p 2).toInt).toNat ≤ 9) by omega) (F_n F288 (show ¬ ((p + 1) = 1 ∧ (((M.2.1 p 2).toInt).toNat = 10 ∨ ((M.2.1 p 2).toInt).toNat = 11)) by omega) (F_n F268 (show ¬ ((p + 1) = 1 ∧ (((M.2.1 p 2).toInt).toNat = 10 ∨ ((M.2.1 p 2).toInt).toNat = 11)) by omega) (F_n F253 (show ¬ ((p + 1) = 1 ∧ 6 ≤ ((M.2.1 p 2).toInt).toNat ∧ ((M.2.1 p 2).toInt).toNat ≤ 9) by omega) (W_n W246 (by omega) (F_n F54 (show ¬ ((p + 1) < 0) by omega) (F_n F47 (show ¬ ((p + 1) = 1 ∧ 6 ≤ ((M.2.1 p 2).toInt).toNat ∧ ((M.2.1 p 2).toInt).toNat ≤ 9) by omega) (W_e W40)))))))))))]
            have r_336 : (M322.2.1 (p + 2) sg.2.1.toNat).toInt = r53.toInt := by rw [show sg.2.1.toNat = ((M.2.1 p 2).toInt).toNat by omega, show M322.2.1 (p + 2) ((M.2.1 p 2).toInt).toNat = r53 from (W_n W321 (by omega) (W_n W316 (by omega) (W_n W311 (by omega) (F_n F304 (show ¬ ((p + 2) = 1 ∧ 6 ≤ ((M.2.1 p 2).toInt).toNat ∧ ((M.2.1 p 2).toInt).toNat ≤ 9) by omega) (F_n F288 (show ¬ ((p + 2) = 1 ∧ (((M.2.1 p 2).toInt).toNat = 10 ∨ ((M.2.1 p 2).toInt).toNat = 11)) by omega) (F_n F268 (show ¬ ((p + 2) = 1 ∧ (((M.2.1 p 2).toInt).toNat = 10 ∨ ((M.2.1 p 2).toInt).toNat = 11)) by omega) (F_n F253 (show ¬ ((p + 2) = 1 ∧ 6 ≤ ((M.2.1 p 2).toInt).toNat ∧ ((M.2.1 p 2).toInt).toNat ≤ 9) by omega) (W_e W246))))))))]
            have r_337 : (M322.2.1 (p + 3) sg.2.1.toNat).toInt = (M257.2.1 1 8).toInt := by rw [show sg.2.1.toNat = ((M.2.1 p 2).toInt).toNat by omega, show M322.2.1 (p + 3) ((M.2.1 p 2).toInt).toNat = (M257.2.1 1 8) from (W_n W321 (by omega) (W_n W316 (by omega) (W_e W311)))]
            have r_338 : (M322.2.1 (p + 4) sg.2.1.toNat).toInt = v261.toInt := by rw [show sg.2.1.toNat = ((M.2.1 p 2).toInt).toNat by omega, show M322.2.1 (p + 4) ((M.2.1 p 2).toInt).toNat = v261 from (W_n W321 (by omega) (W_e W316))]
            have k_339 : (10 : Int32).toInt = 10 := rfl
            have r_340 : (M322.2.1 (p + 5) sg.2.1.toNat).toInt = (10 : Int32).toInt := by rw [show sg.2.1.toNat = ((M.2.1 p 2).toInt).toNat by omega, show M322.2.1 (p + 5) ((M.2.1 p 2).toInt).toNat = (10 : Int32) from (W_e W321)]
            refine s_pJ (pc := 173) rw_33_173 hG323 (by rcases hp with rfl | rfl <;> rfl) (fun M342 W341 => ?_)
            have hG343 := g_wl hG323 W341
            have F344 := FR.wl F324 W341 (show p = 1 ∧ 6 ≤ 4 ∧ 4 ≤ 11 ∨ p = p ∧ 2 ≤ 4 ∨ p + 1 ≤ p ∧ p ≤ p + 5 by omega)
            refine to_an (pc := 176) rw_33_176 rfl (to_dupr (pc := 177) rw_33_177 ?_)
            have c_345 : M342.2.1 p 2 = (M.2.1 p 2) := (W_l W341 c_325)
            refine tt_gI (pc := 178) rw_33_178 (g_o hG343 (by rcases hp with rfl | rfl <;> rfl)) (v := (M.2.1 p 2)) c_345 (to_c (pc := 181) rw_33_181 (x := (1 : Int32)) rfl rfl (s_add (pc := 182) rw_33_182 (A := (M.2.1 p 2).toInt) (B := 1) rfl rfl (by omega) (fun v346 e347 => s_pI (pc := 183) rw_33_183 hG343 (by rcases hp with rfl | rfl <;> rfl) (fun M349 W348 => ?_))))
            have hG350 := g_w hG343 W348 (A := v346.toInt) rfl (lo := 0) (hi := 8) (by rcases hp with rfl | rfl <;> rfl) (by rcases hp with rfl | rfl <;> rfl) (by omega) (by omega)
            have F351 := FR.w F344 W348 (show p = 1 ∧ 6 ≤ 2 ∧ 2 ≤ 11 ∨ p = p ∧ 2 ≤ 2 ∨ p + 1 ≤ p ∧ p ≤ p + 5 by omega)
            refine to_c (pc := 186) rw_33_186 (x := (1 : Int32)) rfl rfl (s_r1 (pc := 187) rw_33_187 (A := 1) rfl (by decide) ?_)
            have k_352 : (1 : Int32).toInt = 1 := rfl
            have j_353 := (CS_f (fun a i z => W_n W348 (by omega) rfl) (CS_f (fun a i z => W_l W341 rfl) (CS_f (fun a i z => W_n W321 (by omega) rfl) (CS_f (fun a i z => W_n W316 (by omega) rfl) (CS_f (fun a i z => W_n W311 (by omega) rfl) p_306)))))
            have c_354 : M349.2.1 1 9 = (M308.2.1 1 9) := (W_n W348 (by omega) (W_l W341 (W_n W321 (by omega) (W_n W316 (by omega) (W_n W311 (by omega) rfl)))))
            have t_355 : (M349.2.1 1 9).toInt = (M308.2.1 1 9).toInt := congrArg Int32.toInt c_354
            have z_356 : x_fC t nn sg (x_ns t nn a) := by unfold x_fC; omega
            have j_357 := PLc_p (nm := (x_val t nn (x_ns t nn a))) (kd := ((x_kx (x_val t nn (x_ns t nn (x_ns t nn a)))) - 3)) (f := (x_val t nn (x_ns t nn (x_ns t nn (x_ns t nn a))))) (l := ((x_val t nn (x_ns t nn (x_ns t nn (x_ns t nn a)))) + ((x_kx (x_val t nn (x_ns t nn (x_ns t nn a)))) - 1))) (c := 10) j_334 W341 W348 (x_or_e q3 (by omega) (by omega)) (by omega) (by omega) (r_335.trans (by omega)) (r_336.trans (by omega)) (r_337.trans (by omega)) (r_338.trans (by omega)) (r_340.trans (by omega)) (by omega) (by omega) (by omega) (by omega)
            have j_358 := (CW_f (fun k hk9 => W_j W348 rfl) (CW_f (fun k hk9 => L_n W341 (by omega) rfl) (CW_f (fun k hk9 => W_j W321 rfl) (CW_f (fun k hk9 => W_j W316 rfl) (CW_f (fun k hk9 => W_j W311 rfl) (CW_f (fun k hk9 => F_nl F304 (show ¬ ((p + 8) = 1 ∧ 6 ≤ k ∧ k ≤ 9) by omega) rfl) (CW_f (fun k hk9 => F_nl F288 (show ¬ ((p + 8) = 1 ∧ (k = 10 ∨ k = 11)) by omega) rfl) (CW_f (fun k hk9 => F_nl F268 (show ¬ ((p + 8) = 1 ∧ (k = 10 ∨ k = 11)) by omega) rfl) (CW_f (fun k hk9 => F_nl F253 (show ¬ ((p + 8) = 1 ∧ 6 ≤ k ∧ k ≤ 9) by omega) rfl) (CW_f (fun k hk9 => W_j W246 rfl) (CW_f (fun k hk9 => F_nl F54 (show ¬ ((p + 8) < 0) by omega) rfl) (CW_f (fun k hk9 => F_nl F47 (show ¬ ((p + 8) = 1 ∧ 6 ≤ k ∧ k ≤ 9) by omega) rfl) (CW_f (fun k hk9 => W_j W40 rfl) (CW_f (fun k hk9 => F_nl F23 (show ¬ ((p + 8) = 1 ∧ (k = 10 ∨ k = 11)) by omega) rfl) (CW_f (fun k hk9 => F_nl F15 (show ¬ ((p + 8) = 1 ∧ 6 ≤ k ∧ k ≤ 9) by omega) rfl) q4)))))))))))))))
            exact h (1 : Int32) M349 hG350 F351 (by decide) (by decide) j_353 (fun z => absurd z (by decide)) (fun _ => ⟨_, (by rw [show (M349.2.1 1 9).toInt = (x_ns t nn (x_ns t nn (x_ns t nn (x_ns t nn a)))) by omega]; exact x_field_d z_356 (by omega)), ⟨j_357, CW_p j_358⟩, (by show sg.2.1 + 1 + sg.2.2.1 = _; omega)⟩)
      · skip
        have p_359 := p_59 (by omega)
        clear p_58 p_59
        refine to_isn (pc := 50) rw_33_50 (ls2 := [.ref p, .ref 1, .int r53, .null]) rfl rfl (to_in (pc := 51) rw_33_51 rfl (to_c (pc := 52) rw_33_52 (x := (-1 : Int32)) rfl rfl (b_cne_t (pc := 53) rw_33_53 (A := r53.toInt) (B := -1) rfl rfl (by omega) (to_an (pc := 62) rw_33_62 rfl (s_gR (pc := 63) rw_33_63 hG55 (by rcases hp with rfl | rfl <;> rfl) (v := (p + 2)) (by rcases hp with rfl | rfl <;> rfl) (to_an (pc := 66) rw_33_66 rfl ?_))))))
        have c_360 : M60.2.1 p 2 = (M.2.1 p 2) := (F_n F54 (show ¬ (p < 0) by omega) (F_n F47 (show ¬ (p = 1 ∧ 6 ≤ 2 ∧ 2 ≤ 9) by omega) (W_n W40 (by omega) c_38)))
        refine tt_gI (pc := 67) rw_33_67 (g_o hG55 (by rcases hp with rfl | rfl <;> rfl)) (v := (M.2.1 p 2)) c_360 (to_in (pc := 70) rw_33_70 rfl (s_ias (pc := 71) rw_33_71 hG55 (by rcases hp with rfl | rfl <;> rfl) (n := 8) (by rcases hp with rfl | rfl <;> rfl) (A := (M.2.1 p 2).toInt) rfl (by omega) (by omega) (fun M362 W361 => ?_)))
        have hG363 := g_w hG55 W361 (A := r53.toInt) rfl (lo := 0) (hi := 3) (by rcases hp with rfl | rfl <;> rfl) (by rcases hp with rfl | rfl <;> rfl) (by omega) (by omega)
        have F364 := FR.w F61 W361 (show (p + 2) = 1 ∧ 6 ≤ ((M.2.1 p 2).toInt).toNat ∧ ((M.2.1 p 2).toInt).toNat ≤ 11 ∨ (p + 2) = p ∧ 2 ≤ ((M.2.1 p 2).toInt).toNat ∨ p + 1 ≤ (p + 2) ∧ (p + 2) ≤ p + 5 by omega)
        refine to_an (pc := 72) rw_33_72 rfl (s_v (pc := 73) rw_33_73 (dp0 hd (by decide)) (ls0 := [.ref 1]) rfl (Nat.le_of_ble_eq_true rfl) (Nat.le_of_ble_eq_true rfl) rfl (to_rc rfl rfl rfl (g_o hG363 rfl)) rfl ?_)
        have j_365 := (CS_f (fun a i z => W_n W361 (by omega) rfl) (CS_f (tg_28 F54) p_49))
        have c_366 : M362.2.1 1 9 = (M51.2.1 1 9) := (W_n W361 (by omega) (F_n F54 (show ¬ (1 < 0) by decide) rfl))
        have t_367 : (M362.2.1 1 9).toInt = (M51.2.1 1 9).toInt := congrArg Int32.toInt c_366
        refine E_83 hX (dp1 hd (by decide)) hG363 j_365 (by omega) (t := t) (nn := nn) (a := (x_ns t nn (x_ns t nn a))) (fun M372 hG369 F368 p_370 p_371 => ?_)
        have F373 := FR.c F364 F368 (fun a i z => show a = 1 ∧ 6 ≤ i ∧ i ≤ 11 ∨ a = p ∧ 2 ≤ i ∨ p + 1 ≤ a ∧ a ≤ p + 5 by have z : a = 1 ∧ 6 ≤ i ∧ i ≤ 9 := z; omega)
        refine to_in (pc := 76) rw_33_76 rfl (to_c (pc := 77) rw_33_77 (x := (1 : Int32)) rfl rfl (b_ceq_f (pc := 78) rw_33_78 (A := r53.toInt) (B := 1) rfl rfl (by omega) (to_in (pc := 81) rw_33_81 rfl (to_c (pc := 82) rw_33_82 (x := (2 : Int32)) rfl rfl (b_cne_f (pc := 83) rw_33_83 (A := r53.toInt) (B := 2) rfl rfl (by omega) (to_an (pc := 86) rw_33_86 rfl (to_an (pc := 87) rw_33_87 rfl (to_in (pc := 88) rw_33_88 rfl (to_c (pc := 89) rw_33_89 (x := (1 : Int32)) rfl rfl (b_cne_t (pc := 90) rw_33_90 (A := r53.toInt) (B := 1) rfl rfl (by omega) (to_c (pc := 97) rw_33_97 (x := (5 : Int32)) rfl rfl ?_)))))))))))
        refine s_v (pc := 98) rw_33_98 (dp0 hd (by decide)) (ls0 := [.ref p, .ref 1, .int (5 : Int32), .null, .null]) rfl (Nat.le_of_ble_eq_true rfl) (Nat.le_of_ble_eq_true rfl) rfl (to_rc rfl rfl rfl (g_o hG369 (by rcases hp with rfl | rfl <;> rfl))) rfl (to_an (pc := 0) rw_37_0 rfl (tt_gI (pc := 1) rw_37_1 (g_o hG369 rfl) (v := (M372.2.1 1 8)) rfl (to_isn (pc := 4) rw_37_4 (ls2 := [.ref p, .ref 1, .int (5 : Int32), .int (M372.2.1 1 8), .null]) rfl rfl (to_in (pc := 5) rw_37_5 rfl (to_in (pc := 6) rw_37_6 rfl (s_addo (pc := 7) rw_37_7 (A := (M372.2.1 1 8).toInt) (B := 5) rfl rfl (fun v374 e375 => to_c (pc := 8) rw_37_8 (x := (1 : Int32)) rfl rfl (s_subo (pc := 9) rw_37_9 (A := v374.toInt) (B := 1) rfl rfl (fun v376 e377 => to_is (pc := 10) rw_37_10 (ls2 := [.ref p, .ref 1, .int (5 : Int32), .int (M372.2.1 1 8), .int v376]) rfl rfl (to_an (pc := 12) rw_37_12 rfl (to_c (pc := 13) rw_37_13 (x := (0 : Int32)) rfl rfl ?_)))))))))))
        refine to_an (pc := 14) rw_37_14 rfl ?_
        have c_378 : M372.2.1 p 0 = (M.2.1 p 0) := (F_n F368 (show ¬ (p = 1 ∧ 6 ≤ 0 ∧ 0 ≤ 9) by omega) (W_n W361 (by omega) (F_n F54 (show ¬ (p < 0) by omega) (F_n F47 (show ¬ (p = 1 ∧ 6 ≤ 0 ∧ 0 ≤ 9) by omega) (W_n W40 (by omega) (F_n F23 (show ¬ (p = 1 ∧ (0 = 10 ∨ 0 = 11)) by omega) (F_n F15 (show ¬ (p = 1 ∧ 6 ≤ 0 ∧ 0 ≤ 9) by omega) rfl)))))))
        refine tt_gI (pc := 15) rw_37_15 (g_o hG369 (by rcases hp with rfl | rfl <;> rfl)) (v := (M.2.1 p 0)) c_378 (to_in (pc := 18) rw_37_18 rfl (s_sub (pc := 19) rw_37_19 (A := (M.2.1 p 0).toInt) (B := 5) rfl rfl (by omega) (fun v379 e380 => s_v (pc := 20) rw_37_20 (dp1 hd (by decide)) (ls0 := [.ref 1, .int (0 : Int32), .int v379]) rfl (Nat.le_of_ble_eq_true rfl) (Nat.le_of_ble_eq_true rfl) rfl (to_rc rfl rfl rfl (g_o hG369 rfl)) rfl ?_)))
        have k_381 : (0 : Int32).toInt = 0 := rfl
        refine E_88 hX (dp2 hd (by decide)) hG369 p_370 (by omega) (l := (0 : Int32)) (m := v379) (t := t) (nn := nn) (a := (x_ns t nn (x_ns t nn (x_ns t nn a)))) (fun r382 M389 hG384 F383 p_385 p_386 p_387 p_388 => ?_)
        have F390 := FR.c F373 F383 (fun a i z => show a = 1 ∧ 6 ≤ i ∧ i ≤ 11 ∨ a = p ∧ 2 ≤ i ∨ p + 1 ≤ a ∧ a ≤ p + 5 by have z : a = 1 ∧ (i = 10 ∨ i = 11) := z; omega)
        rcases (show r382.toInt = 0 ∨ r382.toInt = 1 by omega) with h391 | h391
        · skip
          have p_392 := p_388 (by omega)
          clear p_387 p_388
          have z_393 := x_val_b (t := t) (nn := nn) (a := (x_ns t nn (x_ns t nn (x_ns t nn a))))
          refine b_ieq_t (pc := 23) rw_37_23 (A := r382.toInt) rfl (by omega) (to_c (pc := 37) rw_37_37 (x := (0 : Int32)) rfl rfl (s_r1 (pc := 38) rw_37_38 (A := 0) rfl (by decide) (to_isn (pc := 101) rw_33_101 (ls2 := [.ref p, .ref 1, .int r53, .int (0 : Int32)]) rfl rfl (to_go (pc := 102) rw_33_102 (to_in (pc := 140) rw_33_140 rfl (b_ine_f (pc := 141) rw_33_141 (A := 0) rfl (by decide) (to_c (pc := 144) rw_33_144 (x := (0 : Int32)) rfl rfl (s_r1 (pc := 145) rw_33_145 (A := 0) rfl (by decide) ?_))))))))
          have j_394 := (CS_f (tg_34 F383) p_370)
          exact h (0 : Int32) M389 hG384 F390 (by decide) (by decide) j_394 (fun _ => x_field_n (fun h9 => by unfold x_fC at h9; omega)) (fun z => absurd z (by decide))
        · skip
          have p_395 := p_387 (by omega)
          clear p_387 p_388
          have c_396 : M389.2.1 1 8 = (M372.2.1 1 8) := (F_n F383 (show ¬ (1 = 1 ∧ (8 = 10 ∨ 8 = 11)) by decide) rfl)
          have z_397 := x_val_b (t := t) (nn := nn) (a := (x_ns t nn (x_ns t nn (x_ns t nn a)))) (by omega)
          refine b_ieq_f (pc := 23) rw_37_23 (A := r382.toInt) rfl (by omega) (to_an (pc := 26) rw_37_26 rfl (to_an (pc := 27) rw_37_27 rfl (to_in (pc := 28) rw_37_28 rfl (to_i (pc := 29) rw_37_29 rfl (s_v (pc := 31) rw_37_31 (dp1 hd (by decide)) (ls0 := [.ref p, .ref 1, .int (M372.2.1 1 8), .int v376]) rfl (Nat.le_of_ble_eq_true rfl) (Nat.le_of_ble_eq_true rfl) rfl (to_rc rfl rfl rfl (g_o hG384 (by rcases hp with rfl | rfl <;> rfl))) rfl ?_)))))
          have j_398 := (CS_f (tg_34 F383) p_370)
          have c_399 : M389.2.1 1 9 = (M372.2.1 1 9) := (F_n F383 (show ¬ (1 = 1 ∧ (9 = 10 ∨ 9 = 11)) by decide) rfl)
          have t_400 : (M389.2.1 1 9).toInt = (M372.2.1 1 9).toInt := congrArg Int32.toInt c_399
          have j_401 := (PLc_f (fun a i z => F_n F383 (show ¬ (a = 1 ∧ (i = 10 ∨ i = 11)) by omega) rfl) (F_nl F383 (show ¬ (p = 1 ∧ (4 = 10 ∨ 4 = 11)) by omega) rfl) (PLc_f (fun a i z => F_n F368 (show ¬ (a = 1 ∧ 6 ≤ i ∧ i ≤ 9) by omega) rfl) (F_nl F368 (show ¬ (p = 1 ∧ 6 ≤ 4 ∧ 4 ≤ 9) by omega) rfl) (PLc_f (fun a i z => W_n W361 (by omega) rfl) (W_j W361 rfl) (PLc_f (fun a i z => F_n F54 (show ¬ (a < 0) by omega) rfl) (F_nl F54 (show ¬ (p < 0) by omega) rfl) (PLc_f (fun a i z => F_n F47 (show ¬ (a = 1 ∧ 6 ≤ i ∧ i ≤ 9) by omega) rfl) (F_nl F47 (show ¬ (p = 1 ∧ 6 ≤ 4 ∧ 4 ≤ 9) by omega) rfl) (PLc_f (fun a i z => W_n W40 (by omega) rfl) (W_j W40 rfl) (PLc_f (fun a i z => F_n F23 (show ¬ (a = 1 ∧ (i = 10 ∨ i = 11)) by omega) rfl) (F_nl F23 (show ¬ (p = 1 ∧ (4 = 10 ∨ 4 = 11)) by omega) rfl) j_21)))))))
          refine E_39 hX (dp2 hd (by decide)) hG384 hp j_398 (by omega) j_401 (by omega) (by omega) (by omega) (by omega) (by omega) (p := p) (f := (M372.2.1 1 8)) (l := v376) (t := t) (nn := nn) (a := (x_ns t nn (x_ns t nn (x_ns t nn a)))) (sg := sg) (fun r402 M409 hG404 F403 p_405 p_406 p_407 p_408 => ?_)
          have F410 := FR.c F390 F403 (fun a i z => show a = 1 ∧ 6 ≤ i ∧ i ≤ 11 ∨ a = p ∧ 2 ≤ i ∨ p + 1 ≤ a ∧ a ≤ p + 5 by have z : a = 1 ∧ (i = 10 ∨ i = 11) := z; omega)
          have z_411 := x_free_v (s := sg) (f := (M372.2.1 1 8).toInt) (l := v376.toInt) (f2 := (x_val t nn (x_ns t nn (x_ns t nn (x_ns t nn a))))) (l2 := ((x_val t nn (x_ns t nn (x_ns t nn (x_ns t nn a)))) + ((x_kx (x_val t nn (x_ns t nn (x_ns t nn a)))) - 1))) (by omega) (by omega)
          rcases (show r402.toInt = 0 ∨ r402.toInt = 1 by omega) with h412 | h412
          · skip
            have p_413 := p_408 (by omega)
            clear p_407 p_408
            refine b_ine_f (pc := 34) rw_37_34 (A := r402.toInt) rfl (by omega) (to_c (pc := 37) rw_37_37 (x := (0 : Int32)) rfl rfl (s_r1 (pc := 38) rw_37_38 (A := 0) rfl (by decide) (to_isn (pc := 101) rw_33_101 (ls2 := [.ref p, .ref 1, .int r53, .int (0 : Int32)]) rfl rfl (to_go (pc := 102) rw_33_102 (to_in (pc := 140) rw_33_140 rfl (b_ine_f (pc := 141) rw_33_141 (A := 0) rfl (by decide) (to_c (pc := 144) rw_33_144 (x := (0 : Int32)) rfl rfl (s_r1 (pc := 145) rw_33_145 (A := 0) rfl (by decide) ?_))))))))
            have j_414 := (CS_f (tg_34 F403) j_398)
            exact h (0 : Int32) M409 hG404 F410 (by decide) (by decide) j_414 (fun _ => x_field_n (fun h9 => by unfold x_fC at h9; omega)) (fun z => absurd z (by decide))
          · skip
            have p_415 := p_407 (by omega)
            clear p_407 p_408
            refine b_ine_t (pc := 34) rw_37_34 (A := r402.toInt) rfl (by omega) (to_an (pc := 39) rw_37_39 rfl (s_v (pc := 40) rw_37_40 (dp1 hd (by decide)) (ls0 := [.ref 1]) rfl (Nat.le_of_ble_eq_true rfl) (Nat.le_of_ble_eq_true rfl) rfl (to_rc rfl rfl rfl (g_o hG404 rfl)) rfl ?_))
            have j_416 := (CS_f (tg_34 F403) j_398)
            have c_417 : M409.2.1 1 9 = (M372.2.1 1 9) := (F_n F403 (show ¬ (1 = 1 ∧ (9 = 10 ∨ 9 = 11)) by decide) c_399)
            have t_418 : (M409.2.1 1 9).toInt = (M372.2.1 1 9).toInt := congrArg Int32.toInt c_417
            refine E_83 hX (dp2 hd (by decide)) hG404 j_416 (by omega) (t := t) (nn := nn) (a := (x_ns t nn (x_ns t nn (x_ns t nn a)))) (fun M423 hG420 F419 p_421 p_422 => ?_)
            have F424 := FR.c F410 F419 (fun a i z => show a = 1 ∧ 6 ≤ i ∧ i ≤ 11 ∨ a = p ∧ 2 ≤ i ∨ p + 1 ≤ a ∧ a ≤ p + 5 by have z : a = 1 ∧ 6 ≤ i ∧ i ≤ 9 := z; omega)
            refine to_an (pc := 43) rw_37_43 rfl (to_in (pc := 44) rw_37_44 rfl (to_i (pc := 45) rw_37_45 rfl (to_c (pc := 47) rw_37_47 (x := (10 : Int32)) rfl rfl (s_v (pc := 49) rw_37_49 (dp1 hd (by decide)) (ls0 := [.ref p, .int (M372.2.1 1 8), .int v376, .int (10 : Int32)]) rfl (Nat.le_of_ble_eq_true rfl) (Nat.le_of_ble_eq_true rfl) rfl (to_rc rfl rfl rfl (g_o hG420 (by rcases hp with rfl | rfl <;> rfl))) rfl (to_an (pc := 0) rw_40_0 rfl (s_gR (pc := 1) rw_40_1 hG420 (by rcases hp with rfl | rfl <;> rfl) (v := (p + 3)) (by rcases hp with rfl | rfl <;> rfl) (to_an (pc := 4) rw_40_4 rfl ?_)))))))
            have c_425 : M423.2.1 p 2 = (M.2.1 p 2) := (F_n F419 (show ¬ (p = 1 ∧ 6 ≤ 2 ∧ 2 ≤ 9) by omega) (F_n F403 (show ¬ (p = 1 ∧ (2 = 10 ∨ 2 = 11)) by omega) (F_n F383 (show ¬ (p = 1 ∧ (2 = 10 ∨ 2 = 11)) by omega) (F_n F368 (show ¬ (p = 1 ∧ 6 ≤ 2 ∧ 2 ≤ 9) by omega) (W_n W361 (by omega) c_360)))))
            refine tt_gI (pc := 5) rw_40_5 (g_o hG420 (by rcases hp with rfl | rfl <;> rfl)) (v := (M.2.1 p 2)) c_425 (to_in (pc := 8) rw_40_8 rfl (s_ias (pc := 9) rw_40_9 hG420 (by rcases hp with rfl | rfl <;> rfl) (n := 8) (by rcases hp with rfl | rfl <;> rfl) (A := (M.2.1 p 2).toInt) rfl (by omega) (by omega) (fun M427 W426 => ?_)))
            have hG428 := g_w hG420 W426 (A := (M372.2.1 1 8).toInt) rfl (lo := 0) (hi := 59) (by rcases hp with rfl | rfl <;> rfl) (by rcases hp with rfl | rfl <;> rfl) (by omega) (by omega)
            have F429 := FR.w F424 W426 (show (p + 3) = 1 ∧ 6 ≤ ((M.2.1 p 2).toInt).toNat ∧ ((M.2.1 p 2).toInt).toNat ≤ 11 ∨ (p + 3) = p ∧ 2 ≤ ((M.2.1 p 2).toInt).toNat ∨ p + 1 ≤ (p + 3) ∧ (p + 3) ≤ p + 5 by omega)
            refine to_an (pc := 10) rw_40_10 rfl (s_gR (pc := 11) rw_40_11 hG428 (by rcases hp with rfl | rfl <;> rfl) (v := (p + 4)) (by rcases hp with rfl | rfl <;> rfl) (to_an (pc := 14) rw_40_14 rfl ?_))
            have c_430 : M427.2.1 p 2 = (M.2.1 p 2) := (W_n W426 (by omega) c_425)
            refine tt_gI (pc := 15) rw_40_15 (g_o hG428 (by rcases hp with rfl | rfl <;> rfl)) (v := (M.2.1 p 2)) c_430 (to_in (pc := 18) rw_40_18 rfl (s_ias (pc := 19) rw_40_19 hG428 (by rcases hp with rfl | rfl <;> rfl) (n := 8) (by rcases hp with rfl | rfl <;> rfl) (A := (M.2.1 p 2).toInt) rfl (by omega) (by omega) (fun M432 W431 => ?_)))
            have hG433 := g_w hG428 W431 (A := v376.toInt) rfl (lo := 0) (hi := 63) (by rcases hp with rfl | rfl <;> rfl) (by rcases hp with rfl | rfl <;> rfl) (by omega) (by omega)
            have F434 := FR.w F429 W431 (show (p + 4) = 1 ∧ 6 ≤ ((M.2.1 p 2).toInt).toNat ∧ ((M.2.1 p 2).toInt).toNat ≤ 11 ∨ (p + 4) = p ∧ 2 ≤ ((M.2.1 p 2).toInt).toNat ∨ p + 1 ≤ (p + 4) ∧ (p + 4) ≤ p + 5 by omega)
            refine to_an (pc := 20) rw_40_20 rfl (s_gR (pc := 21) rw_40_21 hG433 (by rcases hp with rfl | rfl <;> rfl) (v := (p + 5)) (by rcases hp with rfl | rfl <;> rfl) (to_an (pc := 24) rw_40_24 rfl ?_))
            have c_435 : M432.2.1 p 2 = (M.2.1 p 2) := (W_n W431 (by omega) c_430)
            refine tt_gI (pc := 25) rw_40_25 (g_o hG433 (by rcases hp with rfl | rfl <;> rfl)) (v := (M.2.1 p 2)) c_435 (to_in (pc := 28) rw_40_28 rfl (s_ias (pc := 29) rw_40_29 hG433 (by rcases hp with rfl | rfl <;> rfl) (n := 8) (by rcases hp with rfl | rfl <;> rfl) (A := (M.2.1 p 2).toInt) rfl (by omega) (by omega) (fun M437 W436 => ?_)))
            have hG438 := g_w hG433 W436 (A := 10) rfl (lo := 0) (hi := 24) (by rcases hp with rfl | rfl <;> rfl) (by rcases hp with rfl | rfl <;> rfl) (by omega) (by omega)
            have F439 := FR.w F434 W436 (show (p + 5) = 1 ∧ 6 ≤ ((M.2.1 p 2).toInt).toNat ∧ ((M.2.1 p 2).toInt).toNat ≤ 11 ∨ (p + 5) = p ∧ 2 ≤ ((M.2.1 p 2).toInt).toNat ∨ p + 1 ≤ (p + 5) ∧ (p + 5) ≤ p + 5 by omega)
            refine to_rv (pc := 30) rw_40_30 (to_c (pc := 52) rw_37_52 (x := (1 : Int32)) rfl rfl (s_r1 (pc := 53) rw_37_53 (A := 1) rfl (by decide) (to_isn (pc := 101) rw_33_101 (ls2 := [.ref p, .ref 1, .int r53, .int (1 : Int32)]) rfl rfl (to_go (pc := 102) rw_33_102 (to_in (pc := 140) rw_33_140 rfl (b_ine_t (pc := 141) rw_33_141 (A := 1) rfl (by decide) (to_an (pc := 146) rw_33_146 rfl (to_dupr (pc := 147) rw_33_147 (tt_gJ (pc := 148) rw_33_148 (g_o hG438 (by rcases hp with rfl | rfl <;> rfl)) (v := (M.2.2.1 p 4)) (W_j W436 (W_j W431 (W_j W426 (F_nl F419 (show ¬ (p = 1 ∧ 6 ≤ 4 ∧ 4 ≤ 9) by omega) (F_nl F403 (show ¬ (p = 1 ∧ (4 = 10 ∨ 4 = 11)) by omega) (F_nl F383 (show ¬ (p = 1 ∧ (4 = 10 ∨ 4 = 11)) by omega) (F_nl F368 (show ¬ (p = 1 ∧ 6 ≤ 4 ∧ 4 ≤ 9) by omega) (W_j W361 (F_nl F54 (show ¬ (p < 0) by omega) (F_nl F47 (show ¬ (p = 1 ∧ 6 ≤ 4 ∧ 4 ≤ 9) by omega) (W_j W40 (F_nl F23 (show ¬ (p = 1 ∧ (4 = 10 ∨ 4 = 11)) by omega) (F_nl F15 (show ¬ (p = 1 ∧ 6 ≤ 4 ∧ 4 ≤ 9) by omega) rfl))))))))))))) (to_an (pc := 151) rw_33_151 rfl (s_gR (pc := 152) rw_33_152 hG438 (by rcases hp with rfl | rfl <;> rfl) (v := (p + 3)) (by rcases hp with rfl | rfl <;> rfl) ?_)))))))))))
            refine to_an (pc := 155) rw_33_155 rfl ?_
            have c_440 : M437.2.1 p 2 = (M.2.1 p 2) := (W_n W436 (by omega) c_435)
            refine tt_gI (pc := 156) rw_33_156 (g_o hG438 (by rcases hp with rfl | rfl <;> rfl)) (v := (M.2.1 p 2)) c_440 (s_ialk (pc := 159) rw_33_159 hG438 (by rcases hp with rfl | rfl <;> rfl) (n := 8) (by rcases hp with rfl | rfl <;> rfl) (by rcases hp with rfl | rfl <;> rfl) (A := (M.2.1 p 2).toInt) rfl (by omega) (by omega) (v := (M372.2.1 1 8)) (W_n W436 (by omega) (W_n W431 (by omega) (W_e W426))) (to_an (pc := 160) rw_33_160 rfl (s_gR (pc := 161) rw_33_161 hG438 (by rcases hp with rfl | rfl <;> rfl) (v := (p + 4)) (by rcases hp with rfl | rfl <;> rfl) (to_an (pc := 164) rw_33_164 rfl (tt_gI (pc := 165) rw_33_165 (g_o hG438 (by rcases hp with rfl | rfl <;> rfl)) (v := (M.2.1 p 2)) c_440 (s_ialk (pc := 168) rw_33_168 hG438 (by rcases hp with rfl | rfl <;> rfl) (n := 8) (by rcases hp with rfl | rfl <;> rfl) (by rcases hp with rfl | rfl <;> rfl) (A := (M.2.1 p 2).toInt) rfl (by omega) (by omega) (v := v376) (W_n W436 (by omega) (W_e W431)) (s_s (pc := 169) rw_33_169 (dp0 hd (by decide)) (ls0 := [.int (M372.2.1 1 8), .int v376]) rfl (Nat.le_of_ble_eq_true rfl) (Nat.le_of_ble_eq_true rfl) rfl (to_rcs rfl rfl) rfl (to_cl (pc := 0) rw_144_0 rfl (x := (1 : Int64)) rfl (to_in (pc := 1) rw_144_1 rfl (to_in (pc := 2) rw_144_2 rfl (s_sub (pc := 3) rw_144_3 (A := v376.toInt) (B := (M372.2.1 1 8).toInt) rfl rfl (by omega) (fun v445 e446 => ?_))))))))))))
            refine to_c (pc := 4) rw_144_4 (x := (1 : Int32)) rfl rfl (s_add (pc := 5) rw_144_5 (A := v445.toInt) (B := 1) rfl rfl (by omega) (fun v447 e448 => to_2s (pc := 6) rw_144_6 (v := ((1 : Int64) <<< (v447.toInt64 &&& 63))) rfl (to_cl (pc := 7) rw_144_7 rfl (x := (1 : Int64)) rfl (to_2l (pc := 8) rw_144_8 (v := (((1 : Int64) <<< (v447.toInt64 &&& 63)) - (1 : Int64))) rfl (to_in (pc := 9) rw_144_9 rfl (to_2s (pc := 10) rw_144_10 (v := ((((1 : Int64) <<< (v447.toInt64 &&& 63)) - (1 : Int64)) <<< ((M372.2.1 1 8).toInt64 &&& 63))) rfl (to_rl (pc := 11) rw_144_11 (to_2l (pc := 172) rw_33_172 (v := ((M.2.2.1 p 4) ||| ((((1 : Int64) <<< (v447.toInt64 &&& 63)) - (1 : Int64)) <<< ((M372.2.1 1 8).toInt64 &&& 63)))) rfl ?_))))))))
            have j_449 := (PLc_f (fun a i z => W_n W436 (by omega) rfl) (W_j W436 rfl) (PLc_f (fun a i z => W_n W431 (by omega) rfl) (W_j W431 rfl) (PLc_f (fun a i z => W_n W426 (by omega) rfl) (W_j W426 rfl) (PLc_f (fun a i z => F_n F419 (show ¬ (a = 1 ∧ 6 ≤ i ∧ i ≤ 9) by omega) rfl) (F_nl F419 (show ¬ (p = 1 ∧ 6 ≤ 4 ∧ 4 ≤ 9) by omega) rfl) (PLc_f (fun a i z => F_n F403 (show ¬ (a = 1 ∧ (i = 10 ∨ i = 11)) by omega) rfl) (F_nl F403 (show ¬ (p = 1 ∧ (4 = 10 ∨ 4 = 11)) by omega) rfl) j_401)))))
            have r_450 : (M437.2.1 (p + 1) sg.2.1.toNat).toInt = (M19.2.1 1 8).toInt := by rw [show sg.2.1.toNat = ((M.2.1 p 2).toInt).toNat by omega, show M437.2.1 (p + 1) ((M.2.1 p 2).toInt).toNat = (M19.2.1 1 8) from (W_n W436 (by omega) (W_n W431 (by omega) (W_n W426 (by omega) (F_n F419 (show ¬ ((p + 1) = 1 ∧ 6 ≤ ((M.2.1 p 2).toInt).toNat ∧ ((M.2.1 p 2).toInt).toNat ≤ 9) by omega) (F_n F403 (show ¬ ((p + 1) = 1 ∧ (((M.2.1 p 2).toInt).toNat = 10 ∨ ((M.2.1 p 2).toInt).toNat = 11)) by omega) (F_n F383 (show ¬ ((p + 1) = 1 ∧ (((M.2.1 p 2).toInt).toNat = 10 ∨ ((M.2.1 p 2).toInt).toNat = 11)) by omega) (F_n F368 (show ¬ ((p + 1) = 1 ∧ 6 ≤ ((M.2.1 p 2).toInt).toNat ∧ ((M.2.1 p 2).toInt).toNat ≤ 9) by omega) (W_n W361 (by omega) (F_n F54 (show ¬ ((p + 1) < 0) by omega) (F_n F47 (show ¬ ((p + 1) = 1 ∧ 6 ≤ ((M.2.1 p 2).toInt).toNat ∧ ((M.2.1 p 2).toInt).toNat ≤ 9) by omega) (W_e W40)))))))))))]
            have r_451 : (M437.2.1 (p + 2) sg.2.1.toNat).toInt = r53.toInt := by rw [show sg.2.1.toNat = ((M.2.1 p 2).toInt).toNat by omega, show M437.2.1 (p + 2) ((M.2.1 p 2).toInt).toNat = r53 from (W_n W436 (by omega) (W_n W431 (by omega) (W_n W426 (by omega) (F_n F419 (show ¬ ((p + 2) = 1 ∧ 6 ≤ ((M.2.1 p 2).toInt).toNat ∧ ((M.2.1 p 2).toInt).toNat ≤ 9) by omega) (F_n F403 (show ¬ ((p + 2) = 1 ∧ (((M.2.1 p 2).toInt).toNat = 10 ∨ ((M.2.1 p 2).toInt).toNat = 11)) by omega) (F_n F383 (show ¬ ((p + 2) = 1 ∧ (((M.2.1 p 2).toInt).toNat = 10 ∨ ((M.2.1 p 2).toInt).toNat = 11)) by omega) (F_n F368 (show ¬ ((p + 2) = 1 ∧ 6 ≤ ((M.2.1 p 2).toInt).toNat ∧ ((M.2.1 p 2).toInt).toNat ≤ 9) by omega) (W_e W361))))))))]
            have r_452 : (M437.2.1 (p + 3) sg.2.1.toNat).toInt = (M372.2.1 1 8).toInt := by rw [show sg.2.1.toNat = ((M.2.1 p 2).toInt).toNat by omega, show M437.2.1 (p + 3) ((M.2.1 p 2).toInt).toNat = (M372.2.1 1 8) from (W_n W436 (by omega) (W_n W431 (by omega) (W_e W426)))]
            have r_453 : (M437.2.1 (p + 4) sg.2.1.toNat).toInt = v376.toInt := by rw [show sg.2.1.toNat = ((M.2.1 p 2).toInt).toNat by omega, show M437.2.1 (p + 4) ((M.2.1 p 2).toInt).toNat = v376 from (W_n W436 (by omega) (W_e W431))]
            have k_454 : (10 : Int32).toInt = 10 := rfl
            have r_455 : (M437.2.1 (p + 5) sg.2.1.toNat).toInt = (10 : Int32).toInt := by rw [show sg.2.1.toNat = ((M.2.1 p 2).toInt).toNat by omega, show M437.2.1 (p + 5) ((M.2.1 p 2).toInt).toNat = (10 : Int32) from (W_e W436)]
            refine s_pJ (pc := 173) rw_33_173 hG438 (by rcases hp with rfl | rfl <;> rfl) (fun M457 W456 => ?_)
            have hG458 := g_wl hG438 W456
            have F459 := FR.wl F439 W456 (show p = 1 ∧ 6 ≤ 4 ∧ 4 ≤ 11 ∨ p = p ∧ 2 ≤ 4 ∨ p + 1 ≤ p ∧ p ≤ p + 5 by omega)
            refine to_an (pc := 176) rw_33_176 rfl (to_dupr (pc := 177) rw_33_177 ?_)
            have c_460 : M457.2.1 p 2 = (M.2.1 p 2) := (W_l W456 c_440)
            refine tt_gI (pc := 178) rw_33_178 (g_o hG458 (by rcases hp with rfl | rfl <;> rfl)) (v := (M.2.1 p 2)) c_460 (to_c (pc := 181) rw_33_181 (x := (1 : Int32)) rfl rfl (s_add (pc := 182) rw_33_182 (A := (M.2.1 p 2).toInt) (B := 1) rfl rfl (by omega) (fun v461 e462 => s_pI (pc := 183) rw_33_183 hG458 (by rcases hp with rfl | rfl <;> rfl) (fun M464 W463 => ?_))))
            have hG465 := g_w hG458 W463 (A := v461.toInt) rfl (lo := 0) (hi := 8) (by rcases hp with rfl | rfl <;> rfl) (by rcases hp with rfl | rfl <;> rfl) (by omega) (by omega)
            have F466 := FR.w F459 W463 (show p = 1 ∧ 6 ≤ 2 ∧ 2 ≤ 11 ∨ p = p ∧ 2 ≤ 2 ∨ p + 1 ≤ p ∧ p ≤ p + 5 by omega)
            refine to_c (pc := 186) rw_33_186 (x := (1 : Int32)) rfl rfl (s_r1 (pc := 187) rw_33_187 (A := 1) rfl (by decide) ?_)
            have k_467 : (1 : Int32).toInt = 1 := rfl
            have j_468 := (CS_f (fun a i z => W_n W463 (by omega) rfl) (CS_f (fun a i z => W_l W456 rfl) (CS_f (fun a i z => W_n W436 (by omega) rfl) (CS_f (fun a i z => W_n W431 (by omega) rfl) (CS_f (fun a i z => W_n W426 (by omega) rfl) p_421)))))
            have c_469 : M464.2.1 1 9 = (M423.2.1 1 9) := (W_n W463 (by omega) (W_l W456 (W_n W436 (by omega) (W_n W431 (by omega) (W_n W426 (by omega) rfl)))))
            have t_470 : (M464.2.1 1 9).toInt = (M423.2.1 1 9).toInt := congrArg Int32.toInt c_469
            have z_471 : x_fC t nn sg (x_ns t nn a) := by unfold x_fC; omega
            have j_472 := PLc_p (nm := (x_val t nn (x_ns t nn a))) (kd := ((x_kx (x_val t nn (x_ns t nn (x_ns t nn a)))) - 3)) (f := (x_val t nn (x_ns t nn (x_ns t nn (x_ns t nn a))))) (l := ((x_val t nn (x_ns t nn (x_ns t nn (x_ns t nn a)))) + ((x_kx (x_val t nn (x_ns t nn (x_ns t nn a)))) - 1))) (c := 10) j_449 W456 W463 (x_or_e q3 (by omega) (by omega)) (by omega) (by omega) (r_450.trans (by omega)) (r_451.trans (by omega)) (r_452.trans (by omega)) (r_453.trans (by omega)) (r_455.trans (by omega)) (by omega) (by omega) (by omega) (by omega)
            have j_473 := (CW_f (fun k hk9 => W_j W463 rfl) (CW_f (fun k hk9 => L_n W456 (by omega) rfl) (CW_f (fun k hk9 => W_j W436 rfl) (CW_f (fun k hk9 => W_j W431 rfl) (CW_f (fun k hk9 => W_j W426 rfl) (CW_f (fun k hk9 => F_nl F419 (show ¬ ((p + 8) = 1 ∧ 6 ≤ k ∧ k ≤ 9) by omega) rfl) (CW_f (fun k hk9 => F_nl F403 (show ¬ ((p + 8) = 1 ∧ (k = 10 ∨ k = 11)) by omega) rfl) (CW_f (fun k hk9 => F_nl F383 (show ¬ ((p + 8) = 1 ∧ (k = 10 ∨ k = 11)) by omega) rfl) (CW_f (fun k hk9 => F_nl F368 (show ¬ ((p + 8) = 1 ∧ 6 ≤ k ∧ k ≤ 9) by omega) rfl) (CW_f (fun k hk9 => W_j W361 rfl) (CW_f (fun k hk9 => F_nl F54 (show ¬ ((p + 8) < 0) by omega) rfl) (CW_f (fun k hk9 => F_nl F47 (show ¬ ((p + 8) = 1 ∧ 6 ≤ k ∧ k ≤ 9) by omega) rfl) (CW_f (fun k hk9 => W_j W40 rfl) (CW_f (fun k hk9 => F_nl F23 (show ¬ ((p + 8) = 1 ∧ (k = 10 ∨ k = 11)) by omega) rfl) (CW_f (fun k hk9 => F_nl F15 (show ¬ ((p + 8) = 1 ∧ 6 ≤ k ∧ k ≤ 9) by omega) rfl) q4)))))))))))))))
            exact h (1 : Int32) M464 hG465 F466 (by decide) (by decide) j_468 (fun z => absurd z (by decide)) (fun _ => ⟨_, (by rw [show (M464.2.1 1 9).toInt = (x_ns t nn (x_ns t nn (x_ns t nn (x_ns t nn a)))) by omega]; exact x_field_d z_471 (by omega)), ⟨j_472, CW_p j_473⟩, (by show sg.2.1 + 1 + sg.2.2.1 = _; omega)⟩)
      · skip
        have p_474 := p_59 (by omega)
        clear p_58 p_59
        refine to_isn (pc := 50) rw_33_50 (ls2 := [.ref p, .ref 1, .int r53, .null]) rfl rfl (to_in (pc := 51) rw_33_51 rfl (to_c (pc := 52) rw_33_52 (x := (-1 : Int32)) rfl rfl (b_cne_t (pc := 53) rw_33_53 (A := r53.toInt) (B := -1) rfl rfl (by omega) (to_an (pc := 62) rw_33_62 rfl (s_gR (pc := 63) rw_33_63 hG55 (by rcases hp with rfl | rfl <;> rfl) (v := (p + 2)) (by rcases hp with rfl | rfl <;> rfl) (to_an (pc := 66) rw_33_66 rfl ?_))))))
        have c_475 : M60.2.1 p 2 = (M.2.1 p 2) := (F_n F54 (show ¬ (p < 0) by omega) (F_n F47 (show ¬ (p = 1 ∧ 6 ≤ 2 ∧ 2 ≤ 9) by omega) (W_n W40 (by omega) c_38)))
        refine tt_gI (pc := 67) rw_33_67 (g_o hG55 (by rcases hp with rfl | rfl <;> rfl)) (v := (M.2.1 p 2)) c_475 (to_in (pc := 70) rw_33_70 rfl (s_ias (pc := 71) rw_33_71 hG55 (by rcases hp with rfl | rfl <;> rfl) (n := 8) (by rcases hp with rfl | rfl <;> rfl) (A := (M.2.1 p 2).toInt) rfl (by omega) (by omega) (fun M477 W476 => ?_)))
        have hG478 := g_w hG55 W476 (A := r53.toInt) rfl (lo := 0) (hi := 3) (by rcases hp with rfl | rfl <;> rfl) (by rcases hp with rfl | rfl <;> rfl) (by omega) (by omega)
        have F479 := FR.w F61 W476 (show (p + 2) = 1 ∧ 6 ≤ ((M.2.1 p 2).toInt).toNat ∧ ((M.2.1 p 2).toInt).toNat ≤ 11 ∨ (p + 2) = p ∧ 2 ≤ ((M.2.1 p 2).toInt).toNat ∨ p + 1 ≤ (p + 2) ∧ (p + 2) ≤ p + 5 by omega)
        refine to_an (pc := 72) rw_33_72 rfl (s_v (pc := 73) rw_33_73 (dp0 hd (by decide)) (ls0 := [.ref 1]) rfl (Nat.le_of_ble_eq_true rfl) (Nat.le_of_ble_eq_true rfl) rfl (to_rc rfl rfl rfl (g_o hG478 rfl)) rfl ?_)
        have j_480 := (CS_f (fun a i z => W_n W476 (by omega) rfl) (CS_f (tg_28 F54) p_49))
        have c_481 : M477.2.1 1 9 = (M51.2.1 1 9) := (W_n W476 (by omega) (F_n F54 (show ¬ (1 < 0) by decide) rfl))
        have t_482 : (M477.2.1 1 9).toInt = (M51.2.1 1 9).toInt := congrArg Int32.toInt c_481
        refine E_83 hX (dp1 hd (by decide)) hG478 j_480 (by omega) (t := t) (nn := nn) (a := (x_ns t nn (x_ns t nn a))) (fun M487 hG484 F483 p_485 p_486 => ?_)
        have F488 := FR.c F479 F483 (fun a i z => show a = 1 ∧ 6 ≤ i ∧ i ≤ 11 ∨ a = p ∧ 2 ≤ i ∨ p + 1 ≤ a ∧ a ≤ p + 5 by have z : a = 1 ∧ 6 ≤ i ∧ i ≤ 9 := z; omega)
        refine to_in (pc := 76) rw_33_76 rfl (to_c (pc := 77) rw_33_77 (x := (1 : Int32)) rfl rfl (b_ceq_f (pc := 78) rw_33_78 (A := r53.toInt) (B := 1) rfl rfl (by omega) (to_in (pc := 81) rw_33_81 rfl (to_c (pc := 82) rw_33_82 (x := (2 : Int32)) rfl rfl (b_cne_t (pc := 83) rw_33_83 (A := r53.toInt) (B := 2) rfl rfl (by omega) (to_an (pc := 105) rw_33_105 rfl (to_an (pc := 106) rw_33_106 rfl (to_in (pc := 107) rw_33_107 rfl (b_ine_t (pc := 108) rw_33_108 (A := r53.toInt) rfl (by omega) (to_c (pc := 115) rw_33_115 (x := (1 : Int32)) rfl rfl (s_v (pc := 116) rw_33_116 (dp0 hd (by decide)) (ls0 := [.ref p, .ref 1, .int (1 : Int32), .null, .null, .null]) rfl (Nat.le_of_ble_eq_true rfl) (Nat.le_of_ble_eq_true rfl) rfl (to_rc rfl rfl rfl (g_o hG484 (by rcases hp with rfl | rfl <;> rfl))) rfl ?_)))))))))))
        refine to_an (pc := 0) rw_36_0 rfl (tt_gI (pc := 1) rw_36_1 (g_o hG484 rfl) (v := (M487.2.1 1 8)) rfl (to_isn (pc := 4) rw_36_4 (ls2 := [.ref p, .ref 1, .int (1 : Int32), .int (M487.2.1 1 8), .null, .null]) rfl rfl (to_an (pc := 5) rw_36_5 rfl (to_c (pc := 6) rw_36_6 (x := (0 : Int32)) rfl rfl (to_an (pc := 7) rw_36_7 rfl ?_)))))
        have c_489 : M487.2.1 p 0 = (M.2.1 p 0) := (F_n F483 (show ¬ (p = 1 ∧ 6 ≤ 0 ∧ 0 ≤ 9) by omega) (W_n W476 (by omega) (F_n F54 (show ¬ (p < 0) by omega) (F_n F47 (show ¬ (p = 1 ∧ 6 ≤ 0 ∧ 0 ≤ 9) by omega) (W_n W40 (by omega) (F_n F23 (show ¬ (p = 1 ∧ (0 = 10 ∨ 0 = 11)) by omega) (F_n F15 (show ¬ (p = 1 ∧ 6 ≤ 0 ∧ 0 ≤ 9) by omega) rfl)))))))
        refine tt_gI (pc := 8) rw_36_8 (g_o hG484 (by rcases hp with rfl | rfl <;> rfl)) (v := (M.2.1 p 0)) c_489 (to_c (pc := 11) rw_36_11 (x := (1 : Int32)) rfl rfl (s_sub (pc := 12) rw_36_12 (A := (M.2.1 p 0).toInt) (B := 1) rfl rfl (by omega) (fun v490 e491 => s_v (pc := 13) rw_36_13 (dp1 hd (by decide)) (ls0 := [.ref 1, .int (0 : Int32), .int v490]) rfl (Nat.le_of_ble_eq_true rfl) (Nat.le_of_ble_eq_true rfl) rfl (to_rc rfl rfl rfl (g_o hG484 rfl)) rfl ?_)))
        have k_492 : (0 : Int32).toInt = 0 := rfl
        refine E_88 hX (dp2 hd (by decide)) hG484 p_485 (by omega) (l := (0 : Int32)) (m := v490) (t := t) (nn := nn) (a := (x_ns t nn (x_ns t nn (x_ns t nn a)))) (fun r493 M500 hG495 F494 p_496 p_497 p_498 p_499 => ?_)
        have F501 := FR.c F488 F494 (fun a i z => show a = 1 ∧ 6 ≤ i ∧ i ≤ 11 ∨ a = p ∧ 2 ≤ i ∨ p + 1 ≤ a ∧ a ≤ p + 5 by have z : a = 1 ∧ (i = 10 ∨ i = 11) := z; omega)
        rcases (show r493.toInt = 0 ∨ r493.toInt = 1 by omega) with h502 | h502
        · skip
          have p_503 := p_499 (by omega)
          clear p_498 p_499
          have z_504 := x_val_b (t := t) (nn := nn) (a := (x_ns t nn (x_ns t nn (x_ns t nn a))))
          refine b_ieq_t (pc := 16) rw_36_16 (A := r493.toInt) rfl (by omega) (to_c (pc := 29) rw_36_29 (x := (0 : Int32)) rfl rfl (s_r1 (pc := 30) rw_36_30 (A := 0) rfl (by decide) (b_ieq_t (pc := 119) rw_33_119 (A := 0) rfl (by decide) (to_c (pc := 138) rw_33_138 (x := (0 : Int32)) rfl rfl (to_isn (pc := 139) rw_33_139 (ls2 := [.ref p, .ref 1, .int r53, .int (0 : Int32)]) rfl rfl (to_in (pc := 140) rw_33_140 rfl (b_ine_f (pc := 141) rw_33_141 (A := 0) rfl (by decide) (to_c (pc := 144) rw_33_144 (x := (0 : Int32)) rfl rfl (s_r1 (pc := 145) rw_33_145 (A := 0) rfl (by decide) ?_)))))))))
          have j_505 := (CS_f (tg_34 F494) p_485)
          exact h (0 : Int32) M500 hG495 F501 (by decide) (by decide) j_505 (fun _ => x_field_n (fun h9 => by unfold x_fC at h9; omega)) (fun z => absurd z (by decide))
        · skip
          have p_506 := p_498 (by omega)
          clear p_498 p_499
          have c_507 : M500.2.1 1 8 = (M487.2.1 1 8) := (F_n F494 (show ¬ (1 = 1 ∧ (8 = 10 ∨ 8 = 11)) by decide) rfl)
          have z_508 := x_val_b (t := t) (nn := nn) (a := (x_ns t nn (x_ns t nn (x_ns t nn a)))) (by omega)
          refine b_ieq_f (pc := 16) rw_36_16 (A := r493.toInt) rfl (by omega) (to_an (pc := 19) rw_36_19 rfl (to_an (pc := 20) rw_36_20 rfl (to_in (pc := 21) rw_36_21 rfl (to_in (pc := 22) rw_36_22 rfl (s_v (pc := 23) rw_36_23 (dp1 hd (by decide)) (ls0 := [.ref p, .ref 1, .int (M487.2.1 1 8), .int (M487.2.1 1 8)]) rfl (Nat.le_of_ble_eq_true rfl) (Nat.le_of_ble_eq_true rfl) rfl (to_rc rfl rfl rfl (g_o hG495 (by rcases hp with rfl | rfl <;> rfl))) rfl ?_)))))
          have j_509 := (CS_f (tg_34 F494) p_485)
          have c_510 : M500.2.1 1 9 = (M487.2.1 1 9) := (F_n F494 (show ¬ (1 = 1 ∧ (9 = 10 ∨ 9 = 11)) by decide) rfl)
          have t_511 : (M500.2.1 1 9).toInt = (M487.2.1 1 9).toInt := congrArg Int32.toInt c_510
          have j_512 := (PLc_f (fun a i z => F_n F494 (show ¬ (a = 1 ∧ (i = 10 ∨ i = 11)) by omega) rfl) (F_nl F494 (show ¬ (p = 1 ∧ (4 = 10 ∨ 4 = 11)) by omega) rfl) (PLc_f (fun a i z => F_n F483 (show ¬ (a = 1 ∧ 6 ≤ i ∧ i ≤ 9) by omega) rfl) (F_nl F483 (show ¬ (p = 1 ∧ 6 ≤ 4 ∧ 4 ≤ 9) by omega) rfl) (PLc_f (fun a i z => W_n W476 (by omega) rfl) (W_j W476 rfl) (PLc_f (fun a i z => F_n F54 (show ¬ (a < 0) by omega) rfl) (F_nl F54 (show ¬ (p < 0) by omega) rfl) (PLc_f (fun a i z => F_n F47 (show ¬ (a = 1 ∧ 6 ≤ i ∧ i ≤ 9) by omega) rfl) (F_nl F47 (show ¬ (p = 1 ∧ 6 ≤ 4 ∧ 4 ≤ 9) by omega) rfl) (PLc_f (fun a i z => W_n W40 (by omega) rfl) (W_j W40 rfl) (PLc_f (fun a i z => F_n F23 (show ¬ (a = 1 ∧ (i = 10 ∨ i = 11)) by omega) rfl) (F_nl F23 (show ¬ (p = 1 ∧ (4 = 10 ∨ 4 = 11)) by omega) rfl) j_21)))))))
          refine E_39 hX (dp2 hd (by decide)) hG495 hp j_509 (by omega) j_512 (by omega) (by omega) (by omega) (by omega) (by omega) (p := p) (f := (M487.2.1 1 8)) (l := (M487.2.1 1 8)) (t := t) (nn := nn) (a := (x_ns t nn (x_ns t nn (x_ns t nn a)))) (sg := sg) (fun r513 M520 hG515 F514 p_516 p_517 p_518 p_519 => ?_)
          have F521 := FR.c F501 F514 (fun a i z => show a = 1 ∧ 6 ≤ i ∧ i ≤ 11 ∨ a = p ∧ 2 ≤ i ∨ p + 1 ≤ a ∧ a ≤ p + 5 by have z : a = 1 ∧ (i = 10 ∨ i = 11) := z; omega)
          have z_522 := x_free_v (s := sg) (f := (M487.2.1 1 8).toInt) (l := (M487.2.1 1 8).toInt) (f2 := (x_val t nn (x_ns t nn (x_ns t nn (x_ns t nn a))))) (l2 := (x_val t nn (x_ns t nn (x_ns t nn (x_ns t nn a))))) (by omega) (by omega)
          rcases (show r513.toInt = 0 ∨ r513.toInt = 1 by omega) with h523 | h523
          · skip
            have p_524 := p_519 (by omega)
            clear p_518 p_519
            refine b_ine_f (pc := 26) rw_36_26 (A := r513.toInt) rfl (by omega) (to_c (pc := 29) rw_36_29 (x := (0 : Int32)) rfl rfl (s_r1 (pc := 30) rw_36_30 (A := 0) rfl (by decide) (b_ieq_t (pc := 119) rw_33_119 (A := 0) rfl (by decide) (to_c (pc := 138) rw_33_138 (x := (0 : Int32)) rfl rfl (to_isn (pc := 139) rw_33_139 (ls2 := [.ref p, .ref 1, .int r53, .int (0 : Int32)]) rfl rfl (to_in (pc := 140) rw_33_140 rfl (b_ine_f (pc := 141) rw_33_141 (A := 0) rfl (by decide) (to_c (pc := 144) rw_33_144 (x := (0 : Int32)) rfl rfl (s_r1 (pc := 145) rw_33_145 (A := 0) rfl (by decide) ?_)))))))))
            have j_525 := (CS_f (tg_34 F514) j_509)
            exact h (0 : Int32) M520 hG515 F521 (by decide) (by decide) j_525 (fun _ => x_field_n (fun h9 => by unfold x_fC at h9; omega)) (fun z => absurd z (by decide))
          · skip
            have p_526 := p_518 (by omega)
            clear p_518 p_519
            refine b_ine_t (pc := 26) rw_36_26 (A := r513.toInt) rfl (by omega) (to_an (pc := 31) rw_36_31 rfl (s_v (pc := 32) rw_36_32 (dp1 hd (by decide)) (ls0 := [.ref 1]) rfl (Nat.le_of_ble_eq_true rfl) (Nat.le_of_ble_eq_true rfl) rfl (to_rc rfl rfl rfl (g_o hG515 rfl)) rfl ?_))
            have j_527 := (CS_f (tg_34 F514) j_509)
            have c_528 : M520.2.1 1 9 = (M487.2.1 1 9) := (F_n F514 (show ¬ (1 = 1 ∧ (9 = 10 ∨ 9 = 11)) by decide) c_510)
            have t_529 : (M520.2.1 1 9).toInt = (M487.2.1 1 9).toInt := congrArg Int32.toInt c_528
            refine E_83 hX (dp2 hd (by decide)) hG515 j_527 (by omega) (t := t) (nn := nn) (a := (x_ns t nn (x_ns t nn (x_ns t nn a)))) (fun M534 hG531 F530 p_532 p_533 => ?_)
            have F535 := FR.c F521 F530 (fun a i z => show a = 1 ∧ 6 ≤ i ∧ i ≤ 11 ∨ a = p ∧ 2 ≤ i ∨ p + 1 ≤ a ∧ a ≤ p + 5 by have z : a = 1 ∧ 6 ≤ i ∧ i ≤ 9 := z; omega)
            refine to_an (pc := 35) rw_36_35 rfl (tt_gI (pc := 36) rw_36_36 (g_o hG531 rfl) (v := (M534.2.1 1 8)) rfl (to_is (pc := 39) rw_36_39 (ls2 := [.ref p, .ref 1, .int (1 : Int32), .int (M487.2.1 1 8), .int (M534.2.1 1 8), .null]) rfl rfl (to_an (pc := 41) rw_36_41 rfl ?_)))
            have c_536 : M534.2.1 p 0 = (M.2.1 p 0) := (F_n F530 (show ¬ (p = 1 ∧ 6 ≤ 0 ∧ 0 ≤ 9) by omega) (F_n F514 (show ¬ (p = 1 ∧ (0 = 10 ∨ 0 = 11)) by omega) (F_n F494 (show ¬ (p = 1 ∧ (0 = 10 ∨ 0 = 11)) by omega) c_489)))
            refine tt_gI (pc := 42) rw_36_42 (g_o hG531 (by rcases hp with rfl | rfl <;> rfl)) (v := (M.2.1 p 0)) c_536 (to_c (pc := 45) rw_36_45 (x := (1 : Int32)) rfl rfl (s_sub (pc := 46) rw_36_46 (A := (M.2.1 p 0).toInt) (B := 1) rfl rfl (by omega) (fun v537 e538 => to_in (pc := 47) rw_36_47 rfl (to_c (pc := 48) rw_36_48 (x := (24 : Int32)) rfl rfl (s_add (pc := 50) rw_36_50 (A := (M487.2.1 1 8).toInt) (B := 24) rfl rfl (by omega) (fun v539 e540 => to_c (pc := 51) rw_36_51 (x := (1 : Int32)) rfl rfl (s_sub (pc := 52) rw_36_52 (A := v539.toInt) (B := 1) rfl rfl (by omega) (fun v541 e542 => s_min (pc := 53) rw_36_53 rfl (A := v537.toInt) (B := v541.toInt) rfl rfl (fun v543 _ _ _ => to_is (pc := 56) rw_36_56 (ls2 := [.ref p, .ref 1, .int (1 : Int32), .int (M487.2.1 1 8), .int (M534.2.1 1 8), .int v543]) rfl rfl (to_an (pc := 58) rw_36_58 rfl (to_in (pc := 59) rw_36_59 rfl ?_)))))))))))
            refine to_in (pc := 60) rw_36_60 rfl (s_add (pc := 61) rw_36_61 (A := (M487.2.1 1 8).toInt) (B := 1) rfl rfl (by omega) (fun v544 e545 => to_c (pc := 62) rw_36_62 (x := (1 : Int32)) rfl rfl (s_sub (pc := 63) rw_36_63 (A := v544.toInt) (B := 1) rfl rfl (by omega) (fun v546 e547 => to_i (pc := 64) rw_36_64 rfl (s_v (pc := 66) rw_36_66 (dp1 hd (by decide)) (ls0 := [.ref 1, .int v546, .int v543]) rfl (Nat.le_of_ble_eq_true rfl) (Nat.le_of_ble_eq_true rfl) rfl (to_rc rfl rfl rfl (g_o hG531 rfl)) rfl (E_88 hX (dp2 hd (by decide)) hG531 p_532 (by omega) (l := v546) (m := v543) (t := t) (nn := nn) (a := (x_ns t nn (x_ns t nn (x_ns t nn (x_ns t nn a))))) (fun r548 M555 hG550 F549 p_551 p_552 p_553 p_554 => ?_)))))))
            have F556 := FR.c F535 F549 (fun a i z => show a = 1 ∧ 6 ≤ i ∧ i ≤ 11 ∨ a = p ∧ 2 ≤ i ∨ p + 1 ≤ a ∧ a ≤ p + 5 by have z : a = 1 ∧ (i = 10 ∨ i = 11) := z; omega)
            rcases (show r548.toInt = 0 ∨ r548.toInt = 1 by omega) with h557 | h557
            · skip
              have p_558 := p_554 (by omega)
              clear p_553 p_554
              have z_559 := x_val_b (t := t) (nn := nn) (a := (x_ns t nn (x_ns t nn (x_ns t nn (x_ns t nn a)))))
              refine b_ieq_t (pc := 69) rw_36_69 (A := r548.toInt) rfl (by omega) (to_c (pc := 83) rw_36_83 (x := (0 : Int32)) rfl rfl (s_r1 (pc := 84) rw_36_84 (A := 0) rfl (by decide) (b_ieq_t (pc := 119) rw_33_119 (A := 0) rfl (by decide) (to_c (pc := 138) rw_33_138 (x := (0 : Int32)) rfl rfl (to_isn (pc := 139) rw_33_139 (ls2 := [.ref p, .ref 1, .int r53, .int (0 : Int32)]) rfl rfl (to_in (pc := 140) rw_33_140 rfl (b_ine_f (pc := 141) rw_33_141 (A := 0) rfl (by decide) (to_c (pc := 144) rw_33_144 (x := (0 : Int32)) rfl rfl (s_r1 (pc := 145) rw_33_145 (A := 0) rfl (by decide) ?_)))))))))
              have j_560 := (CS_f (tg_34 F549) p_532)
              exact h (0 : Int32) M555 hG550 F556 (by decide) (by decide) j_560 (fun _ => x_field_n (fun h9 => by unfold x_fC at h9; omega)) (fun z => absurd z (by decide))
            · skip
              have p_561 := p_553 (by omega)
              clear p_553 p_554
              have c_562 : M555.2.1 1 8 = (M534.2.1 1 8) := (F_n F549 (show ¬ (1 = 1 ∧ (8 = 10 ∨ 8 = 11)) by decide) rfl)
              have z_563 := x_val_b (t := t) (nn := nn) (a := (x_ns t nn (x_ns t nn (x_ns t nn (x_ns t nn a))))) (by omega)
              refine b_ieq_f (pc := 69) rw_36_69 (A := r548.toInt) rfl (by omega) (to_an (pc := 72) rw_36_72 rfl (to_an (pc := 73) rw_36_73 rfl (to_in (pc := 74) rw_36_74 rfl (to_i (pc := 75) rw_36_75 rfl (s_v (pc := 77) rw_36_77 (dp1 hd (by decide)) (ls0 := [.ref p, .ref 1, .int (M487.2.1 1 8), .int (M534.2.1 1 8)]) rfl (Nat.le_of_ble_eq_true rfl) (Nat.le_of_ble_eq_true rfl) rfl (to_rc rfl rfl rfl (g_o hG550 (by rcases hp with rfl | rfl <;> rfl))) rfl ?_)))))
              have j_564 := (CS_f (tg_34 F549) p_532)
              have c_565 : M555.2.1 1 9 = (M534.2.1 1 9) := (F_n F549 (show ¬ (1 = 1 ∧ (9 = 10 ∨ 9 = 11)) by decide) rfl)
              have t_566 : (M555.2.1 1 9).toInt = (M534.2.1 1 9).toInt := congrArg Int32.toInt c_565
              have j_567 := (PLc_f (fun a i z => F_n F549 (show ¬ (a = 1 ∧ (i = 10 ∨ i = 11)) by omega) rfl) (F_nl F549 (show ¬ (p = 1 ∧ (4 = 10 ∨ 4 = 11)) by omega) rfl) (PLc_f (fun a i z => F_n F530 (show ¬ (a = 1 ∧ 6 ≤ i ∧ i ≤ 9) by omega) rfl) (F_nl F530 (show ¬ (p = 1 ∧ 6 ≤ 4 ∧ 4 ≤ 9) by omega) rfl) (PLc_f (fun a i z => F_n F514 (show ¬ (a = 1 ∧ (i = 10 ∨ i = 11)) by omega) rfl) (F_nl F514 (show ¬ (p = 1 ∧ (4 = 10 ∨ 4 = 11)) by omega) rfl) j_512)))
              refine E_39 hX (dp2 hd (by decide)) hG550 hp j_564 (by omega) j_567 (by omega) (by omega) (by omega) (by omega) (by omega) (p := p) (f := (M487.2.1 1 8)) (l := (M534.2.1 1 8)) (t := t) (nn := nn) (a := (x_ns t nn (x_ns t nn (x_ns t nn (x_ns t nn a))))) (sg := sg) (fun r568 M575 hG570 F569 p_571 p_572 p_573 p_574 => ?_)
              have F576 := FR.c F556 F569 (fun a i z => show a = 1 ∧ 6 ≤ i ∧ i ≤ 11 ∨ a = p ∧ 2 ≤ i ∨ p + 1 ≤ a ∧ a ≤ p + 5 by have z : a = 1 ∧ (i = 10 ∨ i = 11) := z; omega)
              have z_577 := x_free_v (s := sg) (f := (M487.2.1 1 8).toInt) (l := (M534.2.1 1 8).toInt) (f2 := (x_val t nn (x_ns t nn (x_ns t nn (x_ns t nn a))))) (l2 := (x_val t nn (x_ns t nn (x_ns t nn (x_ns t nn (x_ns t nn a)))))) (by omega) (by omega)
              rcases (show r568.toInt = 0 ∨ r568.toInt = 1 by omega) with h578 | h578
              · skip
                have p_579 := p_574 (by omega)
                clear p_573 p_574
                refine b_ine_f (pc := 80) rw_36_80 (A := r568.toInt) rfl (by omega) (to_c (pc := 83) rw_36_83 (x := (0 : Int32)) rfl rfl (s_r1 (pc := 84) rw_36_84 (A := 0) rfl (by decide) (b_ieq_t (pc := 119) rw_33_119 (A := 0) rfl (by decide) (to_c (pc := 138) rw_33_138 (x := (0 : Int32)) rfl rfl (to_isn (pc := 139) rw_33_139 (ls2 := [.ref p, .ref 1, .int r53, .int (0 : Int32)]) rfl rfl (to_in (pc := 140) rw_33_140 rfl (b_ine_f (pc := 141) rw_33_141 (A := 0) rfl (by decide) (to_c (pc := 144) rw_33_144 (x := (0 : Int32)) rfl rfl (s_r1 (pc := 145) rw_33_145 (A := 0) rfl (by decide) ?_)))))))))
                have j_580 := (CS_f (tg_34 F569) j_564)
                exact h (0 : Int32) M575 hG570 F576 (by decide) (by decide) j_580 (fun _ => x_field_n (fun h9 => by unfold x_fC at h9; omega)) (fun z => absurd z (by decide))
              · skip
                have p_581 := p_573 (by omega)
                clear p_573 p_574
                refine b_ine_t (pc := 80) rw_36_80 (A := r568.toInt) rfl (by omega) (to_an (pc := 85) rw_36_85 rfl (s_v (pc := 86) rw_36_86 (dp1 hd (by decide)) (ls0 := [.ref 1]) rfl (Nat.le_of_ble_eq_true rfl) (Nat.le_of_ble_eq_true rfl) rfl (to_rc rfl rfl rfl (g_o hG570 rfl)) rfl ?_))
                have j_582 := (CS_f (tg_34 F569) j_564)
                have c_583 : M575.2.1 1 9 = (M534.2.1 1 9) := (F_n F569 (show ¬ (1 = 1 ∧ (9 = 10 ∨ 9 = 11)) by decide) c_565)
                have t_584 : (M575.2.1 1 9).toInt = (M534.2.1 1 9).toInt := congrArg Int32.toInt c_583
                refine E_83 hX (dp2 hd (by decide)) hG570 j_582 (by omega) (t := t) (nn := nn) (a := (x_ns t nn (x_ns t nn (x_ns t nn (x_ns t nn a))))) (fun M589 hG586 F585 p_587 p_588 => ?_)
                have F590 := FR.c F576 F585 (fun a i z => show a = 1 ∧ 6 ≤ i ∧ i ≤ 11 ∨ a = p ∧ 2 ≤ i ∨ p + 1 ≤ a ∧ a ≤ p + 5 by have z : a = 1 ∧ 6 ≤ i ∧ i ≤ 9 := z; omega)
                refine to_an (pc := 89) rw_36_89 rfl (to_in (pc := 90) rw_36_90 rfl (to_i (pc := 91) rw_36_91 rfl (to_i (pc := 93) rw_36_93 rfl (to_in (pc := 95) rw_36_95 rfl (s_sub (pc := 96) rw_36_96 (A := (M534.2.1 1 8).toInt) (B := (M487.2.1 1 8).toInt) rfl rfl (by omega) (fun v591 e592 => to_c (pc := 97) rw_36_97 (x := (1 : Int32)) rfl rfl (s_add (pc := 98) rw_36_98 (A := v591.toInt) (B := 1) rfl rfl (by omega) (fun v593 e594 => s_v (pc := 99) rw_36_99 (dp1 hd (by decide)) (ls0 := [.ref p, .int (M487.2.1 1 8), .int (M534.2.1 1 8), .int v593]) rfl (Nat.le_of_ble_eq_true rfl) (Nat.le_of_ble_eq_true rfl) rfl (to_rc rfl rfl rfl (g_o hG586 (by rcases hp with rfl | rfl <;> rfl))) rfl (to_an (pc := 0) rw_40_0 rfl (s_gR (pc := 1) rw_40_1 hG586 (by rcases hp with rfl | rfl <;> rfl) (v := (p + 3)) (by rcases hp with rfl | rfl <;> rfl) (to_an (pc := 4) rw_40_4 rfl ?_)))))))))))
                have c_595 : M589.2.1 p 2 = (M.2.1 p 2) := (F_n F585 (show ¬ (p = 1 ∧ 6 ≤ 2 ∧ 2 ≤ 9) by omega) (F_n F569 (show ¬ (p = 1 ∧ (2 = 10 ∨ 2 = 11)) by omega) (F_n F549 (show ¬ (p = 1 ∧ (2 = 10 ∨ 2 = 11)) by omega) (F_n F530 (show ¬ (p = 1 ∧ 6 ≤ 2 ∧ 2 ≤ 9) by omega) (F_n F514 (show ¬ (p = 1 ∧ (2 = 10 ∨ 2 = 11)) by omega) (F_n F494 (show ¬ (p = 1 ∧ (2 = 10 ∨ 2 = 11)) by omega) (F_n F483 (show ¬ (p = 1 ∧ 6 ≤ 2 ∧ 2 ≤ 9) by omega) (W_n W476 (by omega) c_475))))))))
                refine tt_gI (pc := 5) rw_40_5 (g_o hG586 (by rcases hp with rfl | rfl <;> rfl)) (v := (M.2.1 p 2)) c_595 (to_in (pc := 8) rw_40_8 rfl (s_ias (pc := 9) rw_40_9 hG586 (by rcases hp with rfl | rfl <;> rfl) (n := 8) (by rcases hp with rfl | rfl <;> rfl) (A := (M.2.1 p 2).toInt) rfl (by omega) (by omega) (fun M597 W596 => ?_)))
                have hG598 := g_w hG586 W596 (A := (M487.2.1 1 8).toInt) rfl (lo := 0) (hi := 59) (by rcases hp with rfl | rfl <;> rfl) (by rcases hp with rfl | rfl <;> rfl) (by omega) (by omega)
                have F599 := FR.w F590 W596 (show (p + 3) = 1 ∧ 6 ≤ ((M.2.1 p 2).toInt).toNat ∧ ((M.2.1 p 2).toInt).toNat ≤ 11 ∨ (p + 3) = p ∧ 2 ≤ ((M.2.1 p 2).toInt).toNat ∨ p + 1 ≤ (p + 3) ∧ (p + 3) ≤ p + 5 by omega)
                refine to_an (pc := 10) rw_40_10 rfl (s_gR (pc := 11) rw_40_11 hG598 (by rcases hp with rfl | rfl <;> rfl) (v := (p + 4)) (by rcases hp with rfl | rfl <;> rfl) (to_an (pc := 14) rw_40_14 rfl ?_))
                have c_600 : M597.2.1 p 2 = (M.2.1 p 2) := (W_n W596 (by omega) c_595)
                refine tt_gI (pc := 15) rw_40_15 (g_o hG598 (by rcases hp with rfl | rfl <;> rfl)) (v := (M.2.1 p 2)) c_600 (to_in (pc := 18) rw_40_18 rfl (s_ias (pc := 19) rw_40_19 hG598 (by rcases hp with rfl | rfl <;> rfl) (n := 8) (by rcases hp with rfl | rfl <;> rfl) (A := (M.2.1 p 2).toInt) rfl (by omega) (by omega) (fun M602 W601 => ?_)))
                have hG603 := g_w hG598 W601 (A := (M534.2.1 1 8).toInt) rfl (lo := 0) (hi := 63) (by rcases hp with rfl | rfl <;> rfl) (by rcases hp with rfl | rfl <;> rfl) (by omega) (by omega)
                have F604 := FR.w F599 W601 (show (p + 4) = 1 ∧ 6 ≤ ((M.2.1 p 2).toInt).toNat ∧ ((M.2.1 p 2).toInt).toNat ≤ 11 ∨ (p + 4) = p ∧ 2 ≤ ((M.2.1 p 2).toInt).toNat ∨ p + 1 ≤ (p + 4) ∧ (p + 4) ≤ p + 5 by omega)
                refine to_an (pc := 20) rw_40_20 rfl (s_gR (pc := 21) rw_40_21 hG603 (by rcases hp with rfl | rfl <;> rfl) (v := (p + 5)) (by rcases hp with rfl | rfl <;> rfl) (to_an (pc := 24) rw_40_24 rfl ?_))
                have c_605 : M602.2.1 p 2 = (M.2.1 p 2) := (W_n W601 (by omega) c_600)
                refine tt_gI (pc := 25) rw_40_25 (g_o hG603 (by rcases hp with rfl | rfl <;> rfl)) (v := (M.2.1 p 2)) c_605 (to_in (pc := 28) rw_40_28 rfl (s_ias (pc := 29) rw_40_29 hG603 (by rcases hp with rfl | rfl <;> rfl) (n := 8) (by rcases hp with rfl | rfl <;> rfl) (A := (M.2.1 p 2).toInt) rfl (by omega) (by omega) (fun M607 W606 => ?_)))
                have hG608 := g_w hG603 W606 (A := v593.toInt) rfl (lo := 0) (hi := 24) (by rcases hp with rfl | rfl <;> rfl) (by rcases hp with rfl | rfl <;> rfl) (by omega) (by omega)
                have F609 := FR.w F604 W606 (show (p + 5) = 1 ∧ 6 ≤ ((M.2.1 p 2).toInt).toNat ∧ ((M.2.1 p 2).toInt).toNat ≤ 11 ∨ (p + 5) = p ∧ 2 ≤ ((M.2.1 p 2).toInt).toNat ∨ p + 1 ≤ (p + 5) ∧ (p + 5) ≤ p + 5 by omega)
                refine to_rv (pc := 30) rw_40_30 (to_c (pc := 102) rw_36_102 (x := (1 : Int32)) rfl rfl (s_r1 (pc := 103) rw_36_103 (A := 1) rfl (by decide) (b_ieq_f (pc := 119) rw_33_119 (A := 1) rfl (by decide) (to_in (pc := 122) rw_33_122 rfl (b_ieq_f (pc := 123) rw_33_123 (A := r53.toInt) rfl (by omega) (to_an (pc := 126) rw_33_126 rfl (to_an (pc := 127) rw_33_127 rfl (s_v (pc := 128) rw_33_128 (dp0 hd (by decide)) (ls0 := [.ref p, .ref 1]) rfl (Nat.le_of_ble_eq_true rfl) (Nat.le_of_ble_eq_true rfl) rfl (to_rc rfl rfl rfl (g_o hG608 (by rcases hp with rfl | rfl <;> rfl))) rfl (to_an (pc := 0) rw_38_0 rfl (to_c (pc := 1) rw_38_1 (x := (1 : Int32)) rfl rfl (to_c (pc := 2) rw_38_2 (x := (4 : Int32)) rfl rfl ?_)))))))))))
                refine to_an (pc := 3) rw_38_3 rfl (to_an (pc := 4) rw_38_4 rfl ?_)
                have c_610 : M607.2.1 p 2 = (M.2.1 p 2) := (W_n W606 (by omega) c_605)
                refine tt_gI (pc := 5) rw_38_5 (g_o hG608 (by rcases hp with rfl | rfl <;> rfl)) (v := (M.2.1 p 2)) c_610 (s_v (pc := 8) rw_38_8 (dp1 hd (by decide)) (ls0 := [.ref p, .int (M.2.1 p 2)]) rfl (Nat.le_of_ble_eq_true rfl) (Nat.le_of_ble_eq_true rfl) rfl (to_rc rfl rfl rfl (g_o hG608 (by rcases hp with rfl | rfl <;> rfl))) rfl (to_an (pc := 0) rw_47_0 rfl (s_gR (pc := 1) rw_47_1 hG608 (by rcases hp with rfl | rfl <;> rfl) (v := (p + 4)) (by rcases hp with rfl | rfl <;> rfl) (to_in (pc := 4) rw_47_4 rfl (s_ialk (pc := 5) rw_47_5 hG608 (by rcases hp with rfl | rfl <;> rfl) (n := 8) (by rcases hp with rfl | rfl <;> rfl) (by rcases hp with rfl | rfl <;> rfl) (A := (M.2.1 p 2).toInt) rfl (by omega) (by omega) (v := (M534.2.1 1 8)) (W_n W606 (by omega) (W_e W601)) (to_an (pc := 6) rw_47_6 rfl (s_gR (pc := 7) rw_47_7 hG608 (by rcases hp with rfl | rfl <;> rfl) (v := (p + 3)) (by rcases hp with rfl | rfl <;> rfl) (to_in (pc := 10) rw_47_10 rfl (s_ialk (pc := 11) rw_47_11 hG608 (by rcases hp with rfl | rfl <;> rfl) (n := 8) (by rcases hp with rfl | rfl <;> rfl) (by rcases hp with rfl | rfl <;> rfl) (A := (M.2.1 p 2).toInt) rfl (by omega) (by omega) (v := (M487.2.1 1 8)) (W_n W606 (by omega) (W_n W601 (by omega) (W_e W596))) (s_sub (pc := 12) rw_47_12 (A := (M534.2.1 1 8).toInt) (B := (M487.2.1 1 8).toInt) rfl rfl (by omega) (fun v615 e616 => to_c (pc := 13) rw_47_13 (x := (1 : Int32)) rfl rfl ?_)))))))))))
                refine s_add (pc := 14) rw_47_14 (A := v615.toInt) (B := 1) rfl rfl (by omega) (fun v617 e618 => to_r0 (pc := 15) rw_47_15 (s_min (pc := 11) rw_38_11 rfl (A := 4) (B := v617.toInt) rfl rfl (fun v619 _ _ _ => s_v (pc := 14) rw_38_14 (dp1 hd (by decide)) (ls0 := [.ref 1, .int (1 : Int32), .int v619]) rfl (Nat.le_of_ble_eq_true rfl) (Nat.le_of_ble_eq_true rfl) rfl (to_rc rfl rfl rfl (g_o hG608 rfl)) rfl ?_)))
                have k_620 : (1 : Int32).toInt = 1 := rfl
                have c_621 : M607.2.1 1 8 = (M589.2.1 1 8) := (W_n W606 (by omega) (W_n W601 (by omega) (W_n W596 (by omega) rfl)))
                have t_622 : (M607.2.1 1 8).toInt = (M589.2.1 1 8).toInt := congrArg Int32.toInt c_621
                have j_623 := (CS_f (fun a i z => W_n W606 (by omega) rfl) (CS_f (fun a i z => W_n W601 (by omega) rfl) (CS_f (fun a i z => W_n W596 (by omega) rfl) p_587)))
                have c_624 : M607.2.1 1 9 = (M589.2.1 1 9) := (W_n W606 (by omega) (W_n W601 (by omega) (W_n W596 (by omega) rfl)))
                have t_625 : (M607.2.1 1 9).toInt = (M589.2.1 1 9).toInt := congrArg Int32.toInt c_624
                refine E_88 hX (dp2 hd (by decide)) hG608 j_623 (by omega) (l := (1 : Int32)) (m := v619) (t := t) (nn := nn) (a := (x_ns t nn (x_ns t nn (x_ns t nn (x_ns t nn (x_ns t nn a)))))) (fun r626 M633 hG628 F627 p_629 p_630 p_631 p_632 => ?_)
                have F634 := FR.c F609 F627 (fun a i z => show a = 1 ∧ 6 ≤ i ∧ i ≤ 11 ∨ a = p ∧ 2 ≤ i ∨ p + 1 ≤ a ∧ a ≤ p + 5 by have z : a = 1 ∧ (i = 10 ∨ i = 11) := z; omega)
                rcases (show r626.toInt = 0 ∨ r626.toInt = 1 by omega) with h635 | h635
                · skip
                  have p_636 := p_632 (by omega)
                  clear p_631 p_632
                  have z_637 := x_val_b (t := t) (nn := nn) (a := (x_ns t nn (x_ns t nn (x_ns t nn (x_ns t nn (x_ns t nn a))))))
                  refine b_ine_f (pc := 17) rw_38_17 (A := r626.toInt) rfl (by omega) (to_c (pc := 20) rw_38_20 (x := (0 : Int32)) rfl rfl (s_r1 (pc := 21) rw_38_21 (A := 0) rfl (by decide) (b_ieq_t (pc := 131) rw_33_131 (A := 0) rfl (by decide) (to_c (pc := 138) rw_33_138 (x := (0 : Int32)) rfl rfl (to_isn (pc := 139) rw_33_139 (ls2 := [.ref p, .ref 1, .int r53, .int (0 : Int32)]) rfl rfl (to_in (pc := 140) rw_33_140 rfl (b_ine_f (pc := 141) rw_33_141 (A := 0) rfl (by decide) (to_c (pc := 144) rw_33_144 (x := (0 : Int32)) rfl rfl (s_r1 (pc := 145) rw_33_145 (A := 0) rfl (by decide) ?_)))))))))
                  have j_638 := (CS_f (tg_34 F627) j_623)
                  exact h (0 : Int32) M633 hG628 F634 (by decide) (by decide) j_638 (fun _ => x_field_n (fun h9 => by unfold x_fC at h9; omega)) (fun z => absurd z (by decide))
                · skip
                  have p_639 := p_631 (by omega)
                  clear p_631 p_632
                  have c_640 : M633.2.1 1 8 = (M589.2.1 1 8) := (F_n F627 (show ¬ (1 = 1 ∧ (8 = 10 ∨ 8 = 11)) by decide) c_621)
                  have z_641 := x_val_b (t := t) (nn := nn) (a := (x_ns t nn (x_ns t nn (x_ns t nn (x_ns t nn (x_ns t nn a)))))) (by omega)
                  refine b_ine_t (pc := 17) rw_38_17 (A := r626.toInt) rfl (by omega) (to_an (pc := 22) rw_38_22 rfl (s_gR (pc := 23) rw_38_23 hG628 (by rcases hp with rfl | rfl <;> rfl) (v := (p + 5)) (by rcases hp with rfl | rfl <;> rfl) (to_an (pc := 26) rw_38_26 rfl ?_)))
                  have c_642 : M633.2.1 p 2 = (M.2.1 p 2) := (F_n F627 (show ¬ (p = 1 ∧ (2 = 10 ∨ 2 = 11)) by omega) c_610)
                  refine tt_gI (pc := 27) rw_38_27 (g_o hG628 (by rcases hp with rfl | rfl <;> rfl)) (v := (M.2.1 p 2)) c_642 (to_an (pc := 30) rw_38_30 rfl (tt_gI (pc := 31) rw_38_31 (g_o hG628 rfl) (v := (M589.2.1 1 8)) c_640 (s_ias (pc := 34) rw_38_34 hG628 (by rcases hp with rfl | rfl <;> rfl) (n := 8) (by rcases hp with rfl | rfl <;> rfl) (A := (M.2.1 p 2).toInt) rfl (by omega) (by omega) (fun M644 W643 => ?_))))
                  have hG645 := g_w hG628 W643 (A := (M589.2.1 1 8).toInt) rfl (lo := 0) (hi := 24) (by rcases hp with rfl | rfl <;> rfl) (by rcases hp with rfl | rfl <;> rfl) (by omega) (by omega)
                  have F646 := FR.w F634 W643 (show (p + 5) = 1 ∧ 6 ≤ ((M.2.1 p 2).toInt).toNat ∧ ((M.2.1 p 2).toInt).toNat ≤ 11 ∨ (p + 5) = p ∧ 2 ≤ ((M.2.1 p 2).toInt).toNat ∨ p + 1 ≤ (p + 5) ∧ (p + 5) ≤ p + 5 by omega)
                  refine to_an (pc := 35) rw_38_35 rfl (s_v (pc := 36) rw_38_36 (dp1 hd (by decide)) (ls0 := [.ref 1]) rfl (Nat.le_of_ble_eq_true rfl) (Nat.le_of_ble_eq_true rfl) rfl (to_rc rfl rfl rfl (g_o hG645 rfl)) rfl ?_)
                  have j_647 := (CS_f (fun a i z => W_n W643 (by omega) rfl) (CS_f (tg_34 F627) j_623))
                  have c_648 : M644.2.1 1 9 = (M589.2.1 1 9) := (W_n W643 (by omega) (F_n F627 (show ¬ (1 = 1 ∧ (9 = 10 ∨ 9 = 11)) by decide) c_624))
                  have t_649 : (M644.2.1 1 9).toInt = (M589.2.1 1 9).toInt := congrArg Int32.toInt c_648
                  refine E_83 hX (dp2 hd (by decide)) hG645 j_647 (by omega) (t := t) (nn := nn) (a := (x_ns t nn (x_ns t nn (x_ns t nn (x_ns t nn (x_ns t nn a)))))) (fun M654 hG651 F650 p_652 p_653 => ?_)
                  have F655 := FR.c F646 F650 (fun a i z => show a = 1 ∧ 6 ≤ i ∧ i ≤ 11 ∨ a = p ∧ 2 ≤ i ∨ p + 1 ≤ a ∧ a ≤ p + 5 by have z : a = 1 ∧ 6 ≤ i ∧ i ≤ 9 := z; omega)
                  refine to_c (pc := 39) rw_38_39 (x := (1 : Int32)) rfl rfl (s_r1 (pc := 40) rw_38_40 (A := 1) rfl (by decide) (b_ieq_f (pc := 131) rw_33_131 (A := 1) rfl (by decide) (to_c (pc := 134) rw_33_134 (x := (1 : Int32)) rfl rfl (to_go (pc := 135) rw_33_135 (to_isn (pc := 139) rw_33_139 (ls2 := [.ref p, .ref 1, .int r53, .int (1 : Int32)]) rfl rfl (to_in (pc := 140) rw_33_140 rfl (b_ine_t (pc := 141) rw_33_141 (A := 1) rfl (by decide) (to_an (pc := 146) rw_33_146 rfl (to_dupr (pc := 147) rw_33_147 (tt_gJ (pc := 148) rw_33_148 (g_o hG651 (by rcases hp with rfl | rfl <;> rfl)) (v := (M.2.2.1 p 4)) (F_nl F650 (show ¬ (p = 1 ∧ 6 ≤ 4 ∧ 4 ≤ 9) by omega) (W_j W643 (F_nl F627 (show ¬ (p = 1 ∧ (4 = 10 ∨ 4 = 11)) by omega) (W_j W606 (W_j W601 (W_j W596 (F_nl F585 (show ¬ (p = 1 ∧ 6 ≤ 4 ∧ 4 ≤ 9) by omega) (F_nl F569 (show ¬ (p = 1 ∧ (4 = 10 ∨ 4 = 11)) by omega) (F_nl F549 (show ¬ (p = 1 ∧ (4 = 10 ∨ 4 = 11)) by omega) (F_nl F530 (show ¬ (p = 1 ∧ 6 ≤ 4 ∧ 4 ≤ 9) by omega) (F_nl F514 (show ¬ (p = 1 ∧ (4 = 10 ∨ 4 = 11)) by omega) (F_nl F494 (show ¬ (p = 1 ∧ (4 = 10 ∨ 4 = 11)) by omega) (F_nl F483 (show ¬ (p = 1 ∧ 6 ≤ 4 ∧ 4 ≤ 9) by omega) (W_j W476 (F_nl F54 (show ¬ (p < 0) by omega) (F_nl F47 (show ¬ (p = 1 ∧ 6 ≤ 4 ∧ 4 ≤ 9) by omega) (W_j W40 (F_nl F23 (show ¬ (p = 1 ∧ (4 = 10 ∨ 4 = 11)) by omega) (F_nl F15 (show ¬ (p = 1 ∧ 6 ≤ 4 ∧ 4 ≤ 9) by omega) rfl))))))))))))))))))) (to_an (pc := 151) rw_33_151 rfl ?_)))))))))))
                  refine s_gR (pc := 152) rw_33_152 hG651 (by rcases hp with rfl | rfl <;> rfl) (v := (p + 3)) (by rcases hp with rfl | rfl <;> rfl) (to_an (pc := 155) rw_33_155 rfl ?_)
                  have c_656 : M654.2.1 p 2 = (M.2.1 p 2) := (F_n F650 (show ¬ (p = 1 ∧ 6 ≤ 2 ∧ 2 ≤ 9) by omega) (W_n W643 (by omega) c_642))
                  refine tt_gI (pc := 156) rw_33_156 (g_o hG651 (by rcases hp with rfl | rfl <;> rfl)) (v := (M.2.1 p 2)) c_656 (s_ialk (pc := 159) rw_33_159 hG651 (by rcases hp with rfl | rfl <;> rfl) (n := 8) (by rcases hp with rfl | rfl <;> rfl) (by rcases hp with rfl | rfl <;> rfl) (A := (M.2.1 p 2).toInt) rfl (by omega) (by omega) (v := (M487.2.1 1 8)) (F_n F650 (show ¬ ((p + 3) = 1 ∧ 6 ≤ ((M.2.1 p 2).toInt).toNat ∧ ((M.2.1 p 2).toInt).toNat ≤ 9) by omega) (W_n W643 (by omega) (F_n F627 (show ¬ ((p + 3) = 1 ∧ (((M.2.1 p 2).toInt).toNat = 10 ∨ ((M.2.1 p 2).toInt).toNat = 11)) by omega) (W_n W606 (by omega) (W_n W601 (by omega) (W_e W596)))))) (to_an (pc := 160) rw_33_160 rfl (s_gR (pc := 161) rw_33_161 hG651 (by rcases hp with rfl | rfl <;> rfl) (v := (p + 4)) (by rcases hp with rfl | rfl <;> rfl) (to_an (pc := 164) rw_33_164 rfl (tt_gI (pc := 165) rw_33_165 (g_o hG651 (by rcases hp with rfl | rfl <;> rfl)) (v := (M.2.1 p 2)) c_656 (s_ialk (pc := 168) rw_33_168 hG651 (by rcases hp with rfl | rfl <;> rfl) (n := 8) (by rcases hp with rfl | rfl <;> rfl) (by rcases hp with rfl | rfl <;> rfl) (A := (M.2.1 p 2).toInt) rfl (by omega) (by omega) (v := (M534.2.1 1 8)) (F_n F650 (show ¬ ((p + 4) = 1 ∧ 6 ≤ ((M.2.1 p 2).toInt).toNat ∧ ((M.2.1 p 2).toInt).toNat ≤ 9) by omega) (W_n W643 (by omega) (F_n F627 (show ¬ ((p + 4) = 1 ∧ (((M.2.1 p 2).toInt).toNat = 10 ∨ ((M.2.1 p 2).toInt).toNat = 11)) by omega) (W_n W606 (by omega) (W_e W601))))) (s_s (pc := 169) rw_33_169 (dp0 hd (by decide)) (ls0 := [.int (M487.2.1 1 8), .int (M534.2.1 1 8)]) rfl (Nat.le_of_ble_eq_true rfl) (Nat.le_of_ble_eq_true rfl) rfl (to_rcs rfl rfl) rfl (to_cl (pc := 0) rw_144_0 rfl (x := (1 : Int64)) rfl (to_in (pc := 1) rw_144_1 rfl (to_in (pc := 2) rw_144_2 rfl (s_sub (pc := 3) rw_144_3 (A := (M534.2.1 1 8).toInt) (B := (M487.2.1 1 8).toInt) rfl rfl (by omega) (fun v661 e662 => ?_))))))))))))
                  refine to_c (pc := 4) rw_144_4 (x := (1 : Int32)) rfl rfl (s_add (pc := 5) rw_144_5 (A := v661.toInt) (B := 1) rfl rfl (by omega) (fun v663 e664 => to_2s (pc := 6) rw_144_6 (v := ((1 : Int64) <<< (v663.toInt64 &&& 63))) rfl (to_cl (pc := 7) rw_144_7 rfl (x := (1 : Int64)) rfl (to_2l (pc := 8) rw_144_8 (v := (((1 : Int64) <<< (v663.toInt64 &&& 63)) - (1 : Int64))) rfl (to_in (pc := 9) rw_144_9 rfl (to_2s (pc := 10) rw_144_10 (v := ((((1 : Int64) <<< (v663.toInt64 &&& 63)) - (1 : Int64)) <<< ((M487.2.1 1 8).toInt64 &&& 63))) rfl (to_rl (pc := 11) rw_144_11 (to_2l (pc := 172) rw_33_172 (v := ((M.2.2.1 p 4) ||| ((((1 : Int64) <<< (v663.toInt64 &&& 63)) - (1 : Int64)) <<< ((M487.2.1 1 8).toInt64 &&& 63)))) rfl ?_))))))))
                  have j_665 := (PLc_f (fun a i z => F_n F650 (show ¬ (a = 1 ∧ 6 ≤ i ∧ i ≤ 9) by omega) rfl) (F_nl F650 (show ¬ (p = 1 ∧ 6 ≤ 4 ∧ 4 ≤ 9) by omega) rfl) (PLc_f (fun a i z => W_n W643 (by omega) rfl) (W_j W643 rfl) (PLc_f (fun a i z => F_n F627 (show ¬ (a = 1 ∧ (i = 10 ∨ i = 11)) by omega) rfl) (F_nl F627 (show ¬ (p = 1 ∧ (4 = 10 ∨ 4 = 11)) by omega) rfl) (PLc_f (fun a i z => W_n W606 (by omega) rfl) (W_j W606 rfl) (PLc_f (fun a i z => W_n W601 (by omega) rfl) (W_j W601 rfl) (PLc_f (fun a i z => W_n W596 (by omega) rfl) (W_j W596 rfl) (PLc_f (fun a i z => F_n F585 (show ¬ (a = 1 ∧ 6 ≤ i ∧ i ≤ 9) by omega) rfl) (F_nl F585 (show ¬ (p = 1 ∧ 6 ≤ 4 ∧ 4 ≤ 9) by omega) rfl) (PLc_f (fun a i z => F_n F569 (show ¬ (a = 1 ∧ (i = 10 ∨ i = 11)) by omega) rfl) (F_nl F569 (show ¬ (p = 1 ∧ (4 = 10 ∨ 4 = 11)) by omega) rfl) j_567))))))))
                  have r_666 : (M654.2.1 (p + 1) sg.2.1.toNat).toInt = (M19.2.1 1 8).toInt := by rw [show sg.2.1.toNat = ((M.2.1 p 2).toInt).toNat by omega, show M654.2.1 (p + 1) ((M.2.1 p 2).toInt).toNat = (M19.2.1 1 8) from (F_n F650 (show ¬ ((p + 1) = 1 ∧ 6 ≤ ((M.2.1 p 2).toInt).toNat ∧ ((M.2.1 p 2).toInt).toNat ≤ 9) by omega) (W_n W643 (by omega) (F_n F627 (show ¬ ((p + 1) = 1 ∧ (((M.2.1 p 2).toInt).toNat = 10 ∨ ((M.2.1 p 2).toInt).toNat = 11)) by omega) (W_n W606 (by omega) (W_n W601 (by omega) (W_n W596 (by omega) (F_n F585 (show ¬ ((p + 1) = 1 ∧ 6 ≤ ((M.2.1 p 2).toInt).toNat ∧ ((M.2.1 p 2).toInt).toNat ≤ 9) by omega) (F_n F569 (show ¬ ((p + 1) = 1 ∧ (((M.2.1 p 2).toInt).toNat = 10 ∨ ((M.2.1 p 2).toInt).toNat = 11)) by omega) (F_n F549 (show ¬ ((p + 1) = 1 ∧ (((M.2.1 p 2).toInt).toNat = 10 ∨ ((M.2.1 p 2).toInt).toNat = 11)) by omega) (F_n F530 (show ¬ ((p + 1) = 1 ∧ 6 ≤ ((M.2.1 p 2).toInt).toNat ∧ ((M.2.1 p 2).toInt).toNat ≤ 9) by omega) (F_n F514 (show ¬ ((p + 1) = 1 ∧ (((M.2.1 p 2).toInt).toNat = 10 ∨ ((M.2.1 p 2).toInt).toNat = 11)) by omega) (F_n F494 (show ¬ ((p + 1) = 1 ∧ (((M.2.1 p 2).toInt).toNat = 10 ∨ ((M.2.1 p 2).toInt).toNat = 11)) by omega) (F_n F483 (show ¬ ((p + 1) = 1 ∧ 6 ≤ ((M.2.1 p 2).toInt).toNat ∧ ((M.2.1 p 2).toInt).toNat ≤ 9) by omega) (W_n W476 (by omega) (F_n F54 (show ¬ ((p + 1) < 0) by omega) (F_n F47 (show ¬ ((p + 1) = 1 ∧ 6 ≤ ((M.2.1 p 2).toInt).toNat ∧ ((M.2.1 p 2).toInt).toNat ≤ 9) by omega) (W_e W40)))))))))))))))))]
                  have r_667 : (M654.2.1 (p + 2) sg.2.1.toNat).toInt = r53.toInt := by rw [show sg.2.1.toNat = ((M.2.1 p 2).toInt).toNat by omega, show M654.2.1 (p + 2) ((M.2.1 p 2).toInt).toNat = r53 from (F_n F650 (show ¬ ((p + 2) = 1 ∧ 6 ≤ ((M.2.1 p 2).toInt).toNat ∧ ((M.2.1 p 2).toInt).toNat ≤ 9) by omega) (W_n W643 (by omega) (F_n F627 (show ¬ ((p + 2) = 1 ∧ (((M.2.1 p 2).toInt).toNat = 10 ∨ ((M.2.1 p 2).toInt).toNat = 11)) by omega) (W_n W606 (by omega) (W_n W601 (by omega) (W_n W596 (by omega) (F_n F585 (show ¬ ((p + 2) = 1 ∧ 6 ≤ ((M.2.1 p 2).toInt).toNat ∧ ((M.2.1 p 2).toInt).toNat ≤ 9) by omega) (F_n F569 (show ¬ ((p + 2) = 1 ∧ (((M.2.1 p 2).toInt).toNat = 10 ∨ ((M.2.1 p 2).toInt).toNat = 11)) by omega) (F_n F549 (show ¬ ((p + 2) = 1 ∧ (((M.2.1 p 2).toInt).toNat = 10 ∨ ((M.2.1 p 2).toInt).toNat = 11)) by omega) (F_n F530 (show ¬ ((p + 2) = 1 ∧ 6 ≤ ((M.2.1 p 2).toInt).toNat ∧ ((M.2.1 p 2).toInt).toNat ≤ 9) by omega) (F_n F514 (show ¬ ((p + 2) = 1 ∧ (((M.2.1 p 2).toInt).toNat = 10 ∨ ((M.2.1 p 2).toInt).toNat = 11)) by omega) (F_n F494 (show ¬ ((p + 2) = 1 ∧ (((M.2.1 p 2).toInt).toNat = 10 ∨ ((M.2.1 p 2).toInt).toNat = 11)) by omega) (F_n F483 (show ¬ ((p + 2) = 1 ∧ 6 ≤ ((M.2.1 p 2).toInt).toNat ∧ ((M.2.1 p 2).toInt).toNat ≤ 9) by omega) (W_e W476))))))))))))))]
                  have r_668 : (M654.2.1 (p + 3) sg.2.1.toNat).toInt = (M487.2.1 1 8).toInt := by rw [show sg.2.1.toNat = ((M.2.1 p 2).toInt).toNat by omega, show M654.2.1 (p + 3) ((M.2.1 p 2).toInt).toNat = (M487.2.1 1 8) from (F_n F650 (show ¬ ((p + 3) = 1 ∧ 6 ≤ ((M.2.1 p 2).toInt).toNat ∧ ((M.2.1 p 2).toInt).toNat ≤ 9) by omega) (W_n W643 (by omega) (F_n F627 (show ¬ ((p + 3) = 1 ∧ (((M.2.1 p 2).toInt).toNat = 10 ∨ ((M.2.1 p 2).toInt).toNat = 11)) by omega) (W_n W606 (by omega) (W_n W601 (by omega) (W_e W596))))))]
                  have r_669 : (M654.2.1 (p + 4) sg.2.1.toNat).toInt = (M534.2.1 1 8).toInt := by rw [show sg.2.1.toNat = ((M.2.1 p 2).toInt).toNat by omega, show M654.2.1 (p + 4) ((M.2.1 p 2).toInt).toNat = (M534.2.1 1 8) from (F_n F650 (show ¬ ((p + 4) = 1 ∧ 6 ≤ ((M.2.1 p 2).toInt).toNat ∧ ((M.2.1 p 2).toInt).toNat ≤ 9) by omega) (W_n W643 (by omega) (F_n F627 (show ¬ ((p + 4) = 1 ∧ (((M.2.1 p 2).toInt).toNat = 10 ∨ ((M.2.1 p 2).toInt).toNat = 11)) by omega) (W_n W606 (by omega) (W_e W601)))))]
                  have r_670 : (M654.2.1 (p + 5) sg.2.1.toNat).toInt = (M589.2.1 1 8).toInt := by rw [show sg.2.1.toNat = ((M.2.1 p 2).toInt).toNat by omega, show M654.2.1 (p + 5) ((M.2.1 p 2).toInt).toNat = (M589.2.1 1 8) from (F_n F650 (show ¬ ((p + 5) = 1 ∧ 6 ≤ ((M.2.1 p 2).toInt).toNat ∧ ((M.2.1 p 2).toInt).toNat ≤ 9) by omega) (W_e W643))]
                  refine s_pJ (pc := 173) rw_33_173 hG651 (by rcases hp with rfl | rfl <;> rfl) (fun M672 W671 => ?_)
                  have hG673 := g_wl hG651 W671
                  have F674 := FR.wl F655 W671 (show p = 1 ∧ 6 ≤ 4 ∧ 4 ≤ 11 ∨ p = p ∧ 2 ≤ 4 ∨ p + 1 ≤ p ∧ p ≤ p + 5 by omega)
                  refine to_an (pc := 176) rw_33_176 rfl (to_dupr (pc := 177) rw_33_177 ?_)
                  have c_675 : M672.2.1 p 2 = (M.2.1 p 2) := (W_l W671 c_656)
                  refine tt_gI (pc := 178) rw_33_178 (g_o hG673 (by rcases hp with rfl | rfl <;> rfl)) (v := (M.2.1 p 2)) c_675 (to_c (pc := 181) rw_33_181 (x := (1 : Int32)) rfl rfl (s_add (pc := 182) rw_33_182 (A := (M.2.1 p 2).toInt) (B := 1) rfl rfl (by omega) (fun v676 e677 => s_pI (pc := 183) rw_33_183 hG673 (by rcases hp with rfl | rfl <;> rfl) (fun M679 W678 => ?_))))
                  have hG680 := g_w hG673 W678 (A := v676.toInt) rfl (lo := 0) (hi := 8) (by rcases hp with rfl | rfl <;> rfl) (by rcases hp with rfl | rfl <;> rfl) (by omega) (by omega)
                  have F681 := FR.w F674 W678 (show p = 1 ∧ 6 ≤ 2 ∧ 2 ≤ 11 ∨ p = p ∧ 2 ≤ 2 ∨ p + 1 ≤ p ∧ p ≤ p + 5 by omega)
                  refine to_c (pc := 186) rw_33_186 (x := (1 : Int32)) rfl rfl (s_r1 (pc := 187) rw_33_187 (A := 1) rfl (by decide) ?_)
                  have j_682 := (CS_f (fun a i z => W_n W678 (by omega) rfl) (CS_f (fun a i z => W_l W671 rfl) p_652))
                  have c_683 : M679.2.1 1 9 = (M654.2.1 1 9) := (W_n W678 (by omega) (W_l W671 rfl))
                  have t_684 : (M679.2.1 1 9).toInt = (M654.2.1 1 9).toInt := congrArg Int32.toInt c_683
                  have z_685 : x_fC t nn sg (x_ns t nn a) := by unfold x_fC; omega
                  have j_686 := PLc_p (nm := (x_val t nn (x_ns t nn a))) (kd := 3) (f := (x_val t nn (x_ns t nn (x_ns t nn (x_ns t nn a))))) (l := (x_val t nn (x_ns t nn (x_ns t nn (x_ns t nn (x_ns t nn a)))))) (c := (x_val t nn (x_ns t nn (x_ns t nn (x_ns t nn (x_ns t nn (x_ns t nn a))))))) j_665 W671 W678 (x_or_e q3 (by omega) (by omega)) (by omega) (by omega) (r_666.trans (by omega)) (r_667.trans (by omega)) (r_668.trans (by omega)) (r_669.trans (by omega)) (r_670.trans (by omega)) (by omega) (by omega) (by omega) (by omega)
                  have j_687 := (CW_f (fun k hk9 => W_j W678 rfl) (CW_f (fun k hk9 => L_n W671 (by omega) rfl) (CW_f (fun k hk9 => F_nl F650 (show ¬ ((p + 8) = 1 ∧ 6 ≤ k ∧ k ≤ 9) by omega) rfl) (CW_f (fun k hk9 => W_j W643 rfl) (CW_f (fun k hk9 => F_nl F627 (show ¬ ((p + 8) = 1 ∧ (k = 10 ∨ k = 11)) by omega) rfl) (CW_f (fun k hk9 => W_j W606 rfl) (CW_f (fun k hk9 => W_j W601 rfl) (CW_f (fun k hk9 => W_j W596 rfl) (CW_f (fun k hk9 => F_nl F585 (show ¬ ((p + 8) = 1 ∧ 6 ≤ k ∧ k ≤ 9) by omega) rfl) (CW_f (fun k hk9 => F_nl F569 (show ¬ ((p + 8) = 1 ∧ (k = 10 ∨ k = 11)) by omega) rfl) (CW_f (fun k hk9 => F_nl F549 (show ¬ ((p + 8) = 1 ∧ (k = 10 ∨ k = 11)) by omega) rfl) (CW_f (fun k hk9 => F_nl F530 (show ¬ ((p + 8) = 1 ∧ 6 ≤ k ∧ k ≤ 9) by omega) rfl) (CW_f (fun k hk9 => F_nl F514 (show ¬ ((p + 8) = 1 ∧ (k = 10 ∨ k = 11)) by omega) rfl) (CW_f (fun k hk9 => F_nl F494 (show ¬ ((p + 8) = 1 ∧ (k = 10 ∨ k = 11)) by omega) rfl) (CW_f (fun k hk9 => F_nl F483 (show ¬ ((p + 8) = 1 ∧ 6 ≤ k ∧ k ≤ 9) by omega) rfl) (CW_f (fun k hk9 => W_j W476 rfl) (CW_f (fun k hk9 => F_nl F54 (show ¬ ((p + 8) < 0) by omega) rfl) (CW_f (fun k hk9 => F_nl F47 (show ¬ ((p + 8) = 1 ∧ 6 ≤ k ∧ k ≤ 9) by omega) rfl) (CW_f (fun k hk9 => W_j W40 rfl) (CW_f (fun k hk9 => F_nl F23 (show ¬ ((p + 8) = 1 ∧ (k = 10 ∨ k = 11)) by omega) rfl) (CW_f (fun k hk9 => F_nl F15 (show ¬ ((p + 8) = 1 ∧ 6 ≤ k ∧ k ≤ 9) by omega) rfl) q4)))))))))))))))))))))
                  exact h (1 : Int32) M679 hG680 F681 (by decide) (by decide) j_682 (fun z => absurd z (by decide)) (fun _ => ⟨_, (by rw [show (M679.2.1 1 9).toInt = (x_ns t nn (x_ns t nn (x_ns t nn (x_ns t nn (x_ns t nn (x_ns t nn a)))))) by omega]; exact x_field_3 z_685 (by omega)), ⟨j_686, CW_p j_687⟩, (by show sg.2.1 + 1 + sg.2.2.1 = _; omega)⟩)
  · refine to_an (pc := 9) rw_33_9 rfl (to_c (pc := 10) rw_33_10 (x := (2 : Int32)) rfl rfl (s_v (pc := 11) rw_33_11 (dp0 hd (by decide)) (ls0 := [.ref 1, .int (2 : Int32)]) rfl (Nat.le_of_ble_eq_true rfl) (Nat.le_of_ble_eq_true rfl) rfl (to_rc rfl rfl rfl (g_o hG rfl)) rfl (to_an (pc := 0) rw_84_0 rfl (to_in (pc := 1) rw_84_1 rfl (s_pI (pc := 2) rw_84_2 hG rfl (fun M689 W688 => ?_))))))
    have hG690 := g_wf hG W688 rfl rfl (by decide)
    have F691 := FR.w F0 W688 (show 1 = 1 ∧ 6 ≤ 10 ∧ 10 ≤ 11 ∨ 1 = p ∧ 2 ≤ 10 ∨ p + 1 ≤ 1 ∧ 1 ≤ p + 5 by omega)
    refine to_an (pc := 5) rw_84_5 rfl (to_an (pc := 6) rw_84_6 rfl ?_)
    have c_692 : M689.2.1 1 9 = (M.2.1 1 9) := (W_n W688 (by decide) rfl)
    refine tt_gI (pc := 7) rw_84_7 (g_o hG690 rfl) (v := (M.2.1 1 9)) c_692 (s_pI (pc := 10) rw_84_10 hG690 rfl (fun M694 W693 => ?_))
    have hG695 := g_wf hG690 W693 rfl rfl (by decide)
    have F696 := FR.w F691 W693 (show 1 = 1 ∧ 6 ≤ 11 ∧ 11 ≤ 11 ∨ 1 = p ∧ 2 ≤ 11 ∨ p + 1 ≤ 1 ∧ 1 ≤ p + 5 by omega)
    refine to_c (pc := 13) rw_84_13 (x := (0 : Int32)) rfl rfl (s_r1 (pc := 14) rw_84_14 (A := 0) rfl (by decide) (s_r1 (pc := 14) rw_33_14 (A := 0) rfl (by decide) ?_))
    have k_697 : (0 : Int32).toInt = 0 := rfl
    have j_698 := (CS_f (fun a i z => W_n W693 (tg_32 a i z) rfl) (CS_f (fun a i z => W_n W688 (tg_33 a i z) rfl) q1))
    exact h (0 : Int32) M694 hG695 F696 (by decide) (by decide) j_698 (fun _ => x_field_n (fun h9 => by unfold x_fC at h9; omega)) (fun z => absurd z (by decide))
end
section
set_option maxRecDepth 4000 in
set_option maxHeartbeats 0 in
theorem U_42_0 {X : mm_X} {d : Nat} {M : mm_M} {Q : Option Value → mm_M → Prop} {p : Nat} {f : Int32} {t : Nat → Int} {nn : Int} {a : Int} {sg : x_S} {k : x_K} {nm : Int} (hX : g_X X) (hd : 2 ≤ d) (hp : p = 49 ∨ p = 58) (q1 : CS M t nn) (q2 : (M.2.1 1 9).toInt = a) (q3 : PLc M p sg) (q4 : CW M p sg) (q5 : 0 ≤ f.toInt) (q6 : f.toInt ≤ 7) (q7 : f.toInt < sg.2.1) (q8 : x_row sg 2 f.toInt = 3) (q9 : (M.2.1 p 3).toInt ≤ 11) (h : ∀ (r : Int32) (M1 : mm_M), g_G M1 → FR (md_c42e p) M M1 → (0 ≤ r.toInt) → (r.toInt ≤ 1) → CS M1 t nn → PLc M1 p sg → CW M1 p sg → ((r.toInt = 0 → x_rc t nn sg f.toInt nm k 6 0 0 a = none)) → ((r.toInt = 1 → x_rc t nn sg f.toInt nm k 6 0 0 a = k (M1.2.1 1 9).toInt (x_pushw sg nm f.toInt (M1.2.2.1 (p + 8) sg.2.2.1.toNat).toInt) ∨ x_rc t nn sg f.toInt nm k 6 0 0 a = none ∧ ¬ (x_kind t nn (M1.2.1 1 9).toInt = 4 ∧ x_val t nn (M1.2.1 1 9).toInt = 59))) → Q (some (.int r)) M1) : ∀ nn9 : Nat, (∀ (N : mm_M) (y3 : Int64) (x5 : Int32) (u6 : Value) (u7 : Value) (u8 : Value), g_G N → FR (md_c42e p) M N → (0 ≤ x5.toInt) → (x5.toInt ≤ 4) → (x5.toInt ≤ x_row sg 5 f.toInt) → ((N.2.1 p 3).toInt ≤ 11) → (CS N t nn) → (PLc N p sg) → (CW N p sg) → (x_rc t nn sg f.toInt nm k (6 - x5.toInt).toNat x5.toInt y3 (N.2.1 1 9).toInt = x_rc t nn sg f.toInt nm k 6 0 0 a) → 10 - x5.toInt < (nn9 : Int) → mm_T X d 42 5 [.ref p, .ref 1, .int f, .long y3, .null, .int x5, u6, u7, u8] [] N Q) := by
  intro nn9
  induction nn9 with
  | zero =>
    intro N y3 x5 u6 u7 u8 hG F0 g1 g2 g3 g4 g5 g6 g7 g8 hm
    have b_1 := g_b hG (a := p) (i := 3) (lo := 0) (hi := 12) (by rcases hp with rfl | rfl <;> rfl) (by rcases hp with rfl | rfl <;> rfl)
    exfalso; omega
  | succ nn9 ih =>
    intro N y3 x5 u6 u7 u8 hG F0 g1 g2 g3 g4 g5 g6 g7 g8 hm
    have b_2 := g_b hG (a := p) (i := 3) (lo := 0) (hi := 12) (by rcases hp with rfl | rfl <;> rfl) (by rcases hp with rfl | rfl <;> rfl)
    have z_3 := g6.2.1
    have z_4 := g6.2.2.1
    have z_5 := g6.2.2.2.1
    have z_6 := g6.1
    have z_7 := z_6.1
    have z_8 := z_6.2.1
    have z_9 := z_6.2.2.1
    have z_10 := z_6.2.2.2.1
    have z_11 := z_6.2.2.2.2.1
    have z_12 := z_6.2.2.2.2.2.1
    have b_13 := g_b hG (a := p) (i := 2) (lo := 0) (hi := 8) (by rcases hp with rfl | rfl <;> rfl) (by rcases hp with rfl | rfl <;> rfl)
    have z_14 := g6.1.2.2.2.2.2.2.2 f.toInt (by omega) (by omega)
    refine to_i (pc := 5) rw_42_5 rfl (b_ieq (pc := 7) rw_42_7 (A := x5.toInt) rfl (fun h15 => ?_) (fun h15 => ?_))
    · refine to_i (pc := 29) rw_42_29 rfl (to_an (pc := 31) rw_42_31 rfl (s_gR (pc := 32) rw_42_32 hG (by rcases hp with rfl | rfl <;> rfl) (v := (p + 5)) (by rcases hp with rfl | rfl <;> rfl) (to_in (pc := 35) rw_42_35 rfl (s_ial (pc := 36) rw_42_36 hG (by rcases hp with rfl | rfl <;> rfl) (n := 8) (by rcases hp with rfl | rfl <;> rfl) (by rcases hp with rfl | rfl <;> rfl) (A := f.toInt) rfl (by omega) (by omega) (lo := 0) (hi := 24) (by rcases hp with rfl | rfl <;> rfl) (by rcases hp with rfl | rfl <;> rfl) (fun v16 w_17 _ _ => ?_)))))
      have z_18 := PLc_r g6 5 (by decide) (by decide) (k := f.toInt) (by omega) (by omega) w_17
      refine b_cge (pc := 37) rw_42_37 (A := x5.toInt) (B := v16.toInt) rfl rfl (fun h19 => ?_) (fun h19 => ?_)
      · refine to_c (pc := 50) rw_42_50 (x := (-1 : Int32)) rfl rfl (to_is (pc := 51) rw_42_51 (ls2 := [.ref p, .ref 1, .int f, .long y3, .null, .int x5, .int (-1 : Int32), u7, u8]) rfl rfl (to_an (pc := 53) rw_42_53 rfl (to_c (pc := 54) rw_42_54 (x := (0 : Int32)) rfl rfl (to_i (pc := 55) rw_42_55 rfl (s_v (pc := 57) rw_42_57 (dp0 hd (by decide)) (ls0 := [.ref 1, .int (0 : Int32), .int (-1 : Int32)]) rfl (Nat.le_of_ble_eq_true rfl) (Nat.le_of_ble_eq_true rfl) rfl (to_rc rfl rfl rfl (g_o hG rfl)) rfl ?_)))))
        have k_20 : (0 : Int32).toInt = 0 := rfl
        have k_21 : (-1 : Int32).toInt = -1 := rfl
        refine E_88 hX (dp1 hd (by decide)) hG g5 (by omega) (l := (0 : Int32)) (m := (-1 : Int32)) (t := t) (nn := nn) (a := (N.2.1 1 9).toInt) (fun r22 M29 hG24 F23 p_25 p_26 p_27 p_28 => ?_)
        have F30 := FR.c F0 F23 (fun a i z => show a = 1 ∧ 6 ≤ i ∧ i ≤ 11 ∨ a = p + 8 by have z : a = 1 ∧ (i = 10 ∨ i = 11) := z; omega)
        rcases (show r22.toInt = 0 ∨ r22.toInt = 1 by omega) with h31 | h31
        · skip
          have p_32 := p_28 (by omega)
          clear p_27 p_28
          have z_33 := x_val_b (t := t) (nn := nn) (a := (N.2.1 1 9).toInt)
          refine b_ine_f (pc := 60) rw_42_60 (A := r22.toInt) rfl (by omega) (to_c (pc := 63) rw_42_63 (x := (0 : Int32)) rfl rfl (s_r1 (pc := 64) rw_42_64 (A := 0) rfl (by decide) ?_))
          have j_34 := (CS_f (tg_34 F23) g5)
          have j_35 := (PLc_f (fun a i z => F_n F23 (show ¬ (a = 1 ∧ (i = 10 ∨ i = 11)) by omega) rfl) (F_nl F23 (show ¬ (p = 1 ∧ (4 = 10 ∨ 4 = 11)) by omega) rfl) g6)
          have j_36 := (CW_f (fun k hk9 => F_nl F23 (show ¬ ((p + 8) = 1 ∧ (k = 10 ∨ k = 11)) by omega) rfl) g7)
          exact h (0 : Int32) M29 hG24 F30 (by decide) (by decide) j_34 j_35 j_36 (fun _ => g8.symm.trans (by first | exact x_rc_n1 (by omega) (by omega) | exact x_rc_n2 (by omega) (by omega) | exact (if g9 : x_kind t nn (N.2.1 1 9).toInt = 3 then x_rc_n1 g9 (by omega) else x_rc_n2 g9 (by omega)))) (fun z => absurd z (by decide))
        · skip
          have p_37 := p_27 (by omega)
          clear p_27 p_28
          have c_38 : M29.2.1 1 8 = (N.2.1 1 8) := (F_n F23 (show ¬ (1 = 1 ∧ (8 = 10 ∨ 8 = 11)) by decide) rfl)
          have z_39 := x_val_b (t := t) (nn := nn) (a := (N.2.1 1 9).toInt) (by omega)
          refine b_ine_t (pc := 60) rw_42_60 (A := r22.toInt) rfl (by omega) (to_cl (pc := 65) rw_42_65 rfl (x := (1 : Int64)) rfl (to_an (pc := 66) rw_42_66 rfl (s_gR (pc := 67) rw_42_67 hG24 (by rcases hp with rfl | rfl <;> rfl) (v := (p + 3)) (by rcases hp with rfl | rfl <;> rfl) (to_in (pc := 70) rw_42_70 rfl (s_ial (pc := 71) rw_42_71 hG24 (by rcases hp with rfl | rfl <;> rfl) (n := 8) (by rcases hp with rfl | rfl <;> rfl) (by rcases hp with rfl | rfl <;> rfl) (A := f.toInt) rfl (by omega) (by omega) (lo := 0) (hi := 59) (by rcases hp with rfl | rfl <;> rfl) (by rcases hp with rfl | rfl <;> rfl) (fun v40 w_41 _ _ => ?_))))))
          have j_42 := (PLc_f (fun a i z => F_n F23 (show ¬ (a = 1 ∧ (i = 10 ∨ i = 11)) by omega) rfl) (F_nl F23 (show ¬ (p = 1 ∧ (4 = 10 ∨ 4 = 11)) by omega) rfl) g6)
          have z_43 := PLc_r j_42 3 (by decide) (by decide) (k := f.toInt) (by omega) (by omega) w_41
          refine to_an (pc := 72) rw_42_72 rfl (tt_gI (pc := 73) rw_42_73 (g_o hG24 rfl) (v := (N.2.1 1 8)) c_38 (s_add (pc := 76) rw_42_76 (A := v40.toInt) (B := (N.2.1 1 8).toInt) rfl rfl (by omega) (fun v44 e45 => to_2s (pc := 77) rw_42_77 (v := ((1 : Int64) <<< (v44.toInt64 &&& 63))) rfl (to_ls (pc := 78) rw_42_78 (ls2 := [.ref p, .ref 1, .int f, .long y3, .null, .int x5, .int (-1 : Int32), .long ((1 : Int64) <<< (v44.toInt64 &&& 63)), .null]) rfl rfl (to_ln (pc := 80) rw_42_80 rfl rfl rfl (to_l (pc := 81) rw_42_81 rfl rfl rfl (to_2l (pc := 83) rw_42_83 (v := (y3 &&& ((1 : Int64) <<< (v44.toInt64 &&& 63)))) rfl (to_cl (pc := 84) rw_42_84 rfl (x := (0 : Int64)) rfl (s_lcmpE (pc := 85) rw_42_85 (fun v46 e47 => ?_))))))))))
          have b_48 := x_eq_b (x := (y3 &&& ((1 : Int64) <<< (v44.toInt64 &&& 63)))) (y := (0 : Int64))
          have z_49 := x_hit_e (v := v44) (bits := y3) (h := (x_row sg 3 f.toInt + x_val t nn (N.2.1 1 9).toInt))
          refine b_ieq (pc := 86) rw_42_86 (A := v46.toInt) rfl (fun h50 => ?_) (fun h50 => ?_)
          · refine to_ln (pc := 95) rw_42_95 rfl rfl rfl (to_l (pc := 96) rw_42_96 rfl rfl rfl (to_2l (pc := 98) rw_42_98 (v := (y3 ||| ((1 : Int64) <<< (v44.toInt64 &&& 63)))) rfl (to_lsn (pc := 99) rw_42_99 (ls2 := [.ref p, .ref 1, .int f, .long (y3 ||| ((1 : Int64) <<< (v44.toInt64 &&& 63))), .null, .int x5, .int (-1 : Int32), .long ((1 : Int64) <<< (v44.toInt64 &&& 63)), .null]) rfl rfl (s_inc (pc := 100) rw_42_100 (ls2 := fun v => [.ref p, .ref 1, .int f, .long (y3 ||| ((1 : Int64) <<< (v44.toInt64 &&& 63))), .null, .int v, .int (-1 : Int32), .long ((1 : Int64) <<< (v44.toInt64 &&& 63)), .null]) rfl rfl (fun _ => rfl) (A := x5.toInt) (B := 1) rfl rfl (by omega) (fun v51 e52 => to_an (pc := 103) rw_42_103 rfl (s_v (pc := 104) rw_42_104 (dp0 hd (by decide)) (ls0 := [.ref 1]) rfl (Nat.le_of_ble_eq_true rfl) (Nat.le_of_ble_eq_true rfl) rfl (to_rc rfl rfl rfl (g_o hG24 rfl)) rfl ?_))))))
            have j_53 := (CS_f (tg_34 F23) g5)
            have c_54 : M29.2.1 1 9 = (N.2.1 1 9) := (F_n F23 (show ¬ (1 = 1 ∧ (9 = 10 ∨ 9 = 11)) by decide) rfl)
            have t_55 : (M29.2.1 1 9).toInt = (N.2.1 1 9).toInt := congrArg Int32.toInt c_54
            refine E_83 hX (dp1 hd (by decide)) hG24 j_53 (by omega) (t := t) (nn := nn) (a := (N.2.1 1 9).toInt) (fun M60 hG57 F56 p_58 p_59 => ?_)
            have F61 := FR.c F30 F56 (fun a i z => show a = 1 ∧ 6 ≤ i ∧ i ≤ 11 ∨ a = p + 8 by have z : a = 1 ∧ 6 ≤ i ∧ i ≤ 9 := z; omega)
            refine to_go (pc := 107) rw_42_107 ?_
            have c_62 : M60.2.1 p 3 = (N.2.1 p 3) := (F_n F56 (show ¬ (p = 1 ∧ 6 ≤ 3 ∧ 3 ≤ 9) by omega) (F_n F23 (show ¬ (p = 1 ∧ (3 = 10 ∨ 3 = 11)) by omega) rfl))
            have t_63 : (M60.2.1 p 3).toInt = (N.2.1 p 3).toInt := congrArg Int32.toInt c_62
            have j_64 := (PLc_f (fun a i z => F_n F56 (show ¬ (a = 1 ∧ 6 ≤ i ∧ i ≤ 9) by omega) rfl) (F_nl F56 (show ¬ (p = 1 ∧ 6 ≤ 4 ∧ 4 ≤ 9) by omega) rfl) j_42)
            have j_65 := (CW_f (fun k hk9 => F_nl F56 (show ¬ ((p + 8) = 1 ∧ 6 ≤ k ∧ k ≤ 9) by omega) rfl) (CW_f (fun k hk9 => F_nl F23 (show ¬ ((p + 8) = 1 ∧ (k = 10 ∨ k = 11)) by omega) rfl) g7))
            exact ih M60 (y3 ||| ((1 : Int64) <<< (v44.toInt64 &&& 63))) v51 (.int (-1 : Int32)) (.long ((1 : Int64) <<< (v44.toInt64 &&& 63))) (.null) hG57 F61 (by omega) (by omega) (by omega) (by omega) p_58 j_64 j_65 (x_rc_s (fu := (6 - x5.toInt).toNat) (told := x5.toInt) (bits := y3) (b := (N.2.1 1 9).toInt) (by omega) (by omega) (by omega) (by omega) (by omega) (congrArg (fun z => y3 ||| z) (x_bit_e (v := v44) (by omega))) g8) (by omega)
          · refine to_an (pc := 89) rw_42_89 rfl (to_c (pc := 90) rw_42_90 (x := (3 : Int32)) rfl rfl (s_v (pc := 91) rw_42_91 (dp0 hd (by decide)) (ls0 := [.ref 1, .int (3 : Int32)]) rfl (Nat.le_of_ble_eq_true rfl) (Nat.le_of_ble_eq_true rfl) rfl (to_rc rfl rfl rfl (g_o hG24 rfl)) rfl (to_an (pc := 0) rw_84_0 rfl (to_in (pc := 1) rw_84_1 rfl (s_pI (pc := 2) rw_84_2 hG24 rfl (fun M67 W66 => ?_))))))
            have hG68 := g_wf hG24 W66 rfl rfl (by decide)
            have F69 := FR.w F30 W66 (show 1 = 1 ∧ 6 ≤ 10 ∧ 10 ≤ 11 ∨ 1 = p + 8 by omega)
            refine to_an (pc := 5) rw_84_5 rfl (to_an (pc := 6) rw_84_6 rfl ?_)
            have c_70 : M67.2.1 1 9 = (N.2.1 1 9) := (W_n W66 (by decide) (F_n F23 (show ¬ (1 = 1 ∧ (9 = 10 ∨ 9 = 11)) by decide) rfl))
            refine tt_gI (pc := 7) rw_84_7 (g_o hG68 rfl) (v := (N.2.1 1 9)) c_70 (s_pI (pc := 10) rw_84_10 hG68 rfl (fun M72 W71 => ?_))
            have hG73 := g_wf hG68 W71 rfl rfl (by decide)
            have F74 := FR.w F69 W71 (show 1 = 1 ∧ 6 ≤ 11 ∧ 11 ≤ 11 ∨ 1 = p + 8 by omega)
            refine to_c (pc := 13) rw_84_13 (x := (0 : Int32)) rfl rfl (s_r1 (pc := 14) rw_84_14 (A := 0) rfl (by decide) (s_r1 (pc := 94) rw_42_94 (A := 0) rfl (by decide) ?_))
            have j_75 := (CS_f (fun a i z => W_n W71 (tg_32 a i z) rfl) (CS_f (fun a i z => W_n W66 (tg_33 a i z) rfl) (CS_f (tg_34 F23) g5)))
            have j_76 := (PLc_f (fun a i z => W_n W71 (by /-r1,11-/ omega) rfl) (W_j W71 rfl) (PLc_f (fun a i z => W_n W66 (by /-r1,10-/ omega) rfl) (W_j W66 rfl) j_42))
            have j_77 := (CW_f (fun k hk9 => W_j W71 rfl) (CW_f (fun k hk9 => W_j W66 rfl) (CW_f (fun k hk9 => F_nl F23 (show ¬ ((p + 8) = 1 ∧ (k = 10 ∨ k = 11)) by omega) rfl) g7)))
            exact h (0 : Int32) M72 hG73 F74 (by decide) (by decide) j_75 j_76 j_77 (fun _ => g8.symm.trans (by first | exact x_rc_n1 (by omega) (by omega) | exact x_rc_n2 (by omega) (by omega) | exact (if g9 : x_kind t nn (N.2.1 1 9).toInt = 3 then x_rc_n1 g9 (by omega) else x_rc_n2 g9 (by omega)))) (fun z => absurd z (by decide))
      · refine to_an (pc := 40) rw_42_40 rfl (to_in (pc := 41) rw_42_41 rfl (s_v (pc := 42) rw_42_42 (dp0 hd (by decide)) (ls0 := [.ref p, .int f]) rfl (Nat.le_of_ble_eq_true rfl) (Nat.le_of_ble_eq_true rfl) rfl (to_rc rfl rfl rfl (g_o hG (by rcases hp with rfl | rfl <;> rfl))) rfl (to_an (pc := 0) rw_47_0 rfl (s_gR (pc := 1) rw_47_1 hG (by rcases hp with rfl | rfl <;> rfl) (v := (p + 4)) (by rcases hp with rfl | rfl <;> rfl) (to_in (pc := 4) rw_47_4 rfl (s_ial (pc := 5) rw_47_5 hG (by rcases hp with rfl | rfl <;> rfl) (n := 8) (by rcases hp with rfl | rfl <;> rfl) (by rcases hp with rfl | rfl <;> rfl) (A := f.toInt) rfl (by omega) (by omega) (lo := 0) (hi := 63) (by rcases hp with rfl | rfl <;> rfl) (by rcases hp with rfl | rfl <;> rfl) (fun v78 w_79 _ _ => ?_)))))))
        have z_80 := PLc_r g6 4 (by decide) (by decide) (k := f.toInt) (by omega) (by omega) w_79
        refine to_an (pc := 6) rw_47_6 rfl (s_gR (pc := 7) rw_47_7 hG (by rcases hp with rfl | rfl <;> rfl) (v := (p + 3)) (by rcases hp with rfl | rfl <;> rfl) (to_in (pc := 10) rw_47_10 rfl (s_ial (pc := 11) rw_47_11 hG (by rcases hp with rfl | rfl <;> rfl) (n := 8) (by rcases hp with rfl | rfl <;> rfl) (by rcases hp with rfl | rfl <;> rfl) (A := f.toInt) rfl (by omega) (by omega) (lo := 0) (hi := 59) (by rcases hp with rfl | rfl <;> rfl) (by rcases hp with rfl | rfl <;> rfl) (fun v81 w_82 _ _ => ?_))))
        have z_83 := PLc_r g6 3 (by decide) (by decide) (k := f.toInt) (by omega) (by omega) w_82
        refine s_sub (pc := 12) rw_47_12 (A := v78.toInt) (B := v81.toInt) rfl rfl (by omega) (fun v84 e85 => to_c (pc := 13) rw_47_13 (x := (1 : Int32)) rfl rfl (s_add (pc := 14) rw_47_14 (A := v84.toInt) (B := 1) rfl rfl (by omega) (fun v86 e87 => to_r0 (pc := 15) rw_47_15 (to_c (pc := 45) rw_42_45 (x := (1 : Int32)) rfl rfl (s_sub (pc := 46) rw_42_46 (A := v86.toInt) (B := 1) rfl rfl (by omega) (fun v88 e89 => to_go (pc := 47) rw_42_47 (to_is (pc := 51) rw_42_51 (ls2 := [.ref p, .ref 1, .int f, .long y3, .null, .int x5, .int v88, u7, u8]) rfl rfl (to_an (pc := 53) rw_42_53 rfl (to_c (pc := 54) rw_42_54 (x := (0 : Int32)) rfl rfl (to_i (pc := 55) rw_42_55 rfl (s_v (pc := 57) rw_42_57 (dp0 hd (by decide)) (ls0 := [.ref 1, .int (0 : Int32), .int v88]) rfl (Nat.le_of_ble_eq_true rfl) (Nat.le_of_ble_eq_true rfl) rfl (to_rc rfl rfl rfl (g_o hG rfl)) rfl ?_)))))))))))
        have k_90 : (0 : Int32).toInt = 0 := rfl
        refine E_88 hX (dp1 hd (by decide)) hG g5 (by omega) (l := (0 : Int32)) (m := v88) (t := t) (nn := nn) (a := (N.2.1 1 9).toInt) (fun r91 M98 hG93 F92 p_94 p_95 p_96 p_97 => ?_)
        have F99 := FR.c F0 F92 (fun a i z => show a = 1 ∧ 6 ≤ i ∧ i ≤ 11 ∨ a = p + 8 by have z : a = 1 ∧ (i = 10 ∨ i = 11) := z; omega)
        rcases (show r91.toInt = 0 ∨ r91.toInt = 1 by omega) with h100 | h100
        · skip
          have p_101 := p_97 (by omega)
          clear p_96 p_97
          have z_102 := x_val_b (t := t) (nn := nn) (a := (N.2.1 1 9).toInt)
          refine b_ine_f (pc := 60) rw_42_60 (A := r91.toInt) rfl (by omega) (to_c (pc := 63) rw_42_63 (x := (0 : Int32)) rfl rfl (s_r1 (pc := 64) rw_42_64 (A := 0) rfl (by decide) ?_))
          have j_103 := (CS_f (tg_34 F92) g5)
          have j_104 := (PLc_f (fun a i z => F_n F92 (show ¬ (a = 1 ∧ (i = 10 ∨ i = 11)) by omega) rfl) (F_nl F92 (show ¬ (p = 1 ∧ (4 = 10 ∨ 4 = 11)) by omega) rfl) g6)
          have j_105 := (CW_f (fun k hk9 => F_nl F92 (show ¬ ((p + 8) = 1 ∧ (k = 10 ∨ k = 11)) by omega) rfl) g7)
          exact h (0 : Int32) M98 hG93 F99 (by decide) (by decide) j_103 j_104 j_105 (fun _ => g8.symm.trans (by first | exact x_rc_n1 (by omega) (by omega) | exact x_rc_n2 (by omega) (by omega) | exact (if g9 : x_kind t nn (N.2.1 1 9).toInt = 3 then x_rc_n1 g9 (by omega) else x_rc_n2 g9 (by omega)))) (fun z => absurd z (by decide))
        · skip
          have p_106 := p_96 (by omega)
          clear p_96 p_97
          have c_107 : M98.2.1 1 8 = (N.2.1 1 8) := (F_n F92 (show ¬ (1 = 1 ∧ (8 = 10 ∨ 8 = 11)) by decide) rfl)
          have z_108 := x_val_b (t := t) (nn := nn) (a := (N.2.1 1 9).toInt) (by omega)
          refine b_ine_t (pc := 60) rw_42_60 (A := r91.toInt) rfl (by omega) (to_cl (pc := 65) rw_42_65 rfl (x := (1 : Int64)) rfl (to_an (pc := 66) rw_42_66 rfl (s_gR (pc := 67) rw_42_67 hG93 (by rcases hp with rfl | rfl <;> rfl) (v := (p + 3)) (by rcases hp with rfl | rfl <;> rfl) (to_in (pc := 70) rw_42_70 rfl (s_ialk (pc := 71) rw_42_71 hG93 (by rcases hp with rfl | rfl <;> rfl) (n := 8) (by rcases hp with rfl | rfl <;> rfl) (by rcases hp with rfl | rfl <;> rfl) (A := f.toInt) rfl (by omega) (by omega) (v := v81) (F_n F92 (show ¬ ((p + 3) = 1 ∧ ((f.toInt).toNat = 10 ∨ (f.toInt).toNat = 11)) by omega) w_82) (to_an (pc := 72) rw_42_72 rfl (tt_gI (pc := 73) rw_42_73 (g_o hG93 rfl) (v := (N.2.1 1 8)) c_107 (s_add (pc := 76) rw_42_76 (A := v81.toInt) (B := (N.2.1 1 8).toInt) rfl rfl (by omega) (fun v111 e112 => to_2s (pc := 77) rw_42_77 (v := ((1 : Int64) <<< (v111.toInt64 &&& 63))) rfl (to_ls (pc := 78) rw_42_78 (ls2 := [.ref p, .ref 1, .int f, .long y3, .null, .int x5, .int v88, .long ((1 : Int64) <<< (v111.toInt64 &&& 63)), .null]) rfl rfl (to_ln (pc := 80) rw_42_80 rfl rfl rfl ?_)))))))))))
          refine to_l (pc := 81) rw_42_81 rfl rfl rfl (to_2l (pc := 83) rw_42_83 (v := (y3 &&& ((1 : Int64) <<< (v111.toInt64 &&& 63)))) rfl (to_cl (pc := 84) rw_42_84 rfl (x := (0 : Int64)) rfl (s_lcmpE (pc := 85) rw_42_85 (fun v113 e114 => ?_))))
          have b_115 := x_eq_b (x := (y3 &&& ((1 : Int64) <<< (v111.toInt64 &&& 63)))) (y := (0 : Int64))
          have z_116 := x_hit_e (v := v111) (bits := y3) (h := (x_row sg 3 f.toInt + x_val t nn (N.2.1 1 9).toInt))
          refine b_ieq (pc := 86) rw_42_86 (A := v113.toInt) rfl (fun h117 => ?_) (fun h117 => ?_)
          · refine to_ln (pc := 95) rw_42_95 rfl rfl rfl (to_l (pc := 96) rw_42_96 rfl rfl rfl (to_2l (pc := 98) rw_42_98 (v := (y3 ||| ((1 : Int64) <<< (v111.toInt64 &&& 63)))) rfl (to_lsn (pc := 99) rw_42_99 (ls2 := [.ref p, .ref 1, .int f, .long (y3 ||| ((1 : Int64) <<< (v111.toInt64 &&& 63))), .null, .int x5, .int v88, .long ((1 : Int64) <<< (v111.toInt64 &&& 63)), .null]) rfl rfl (s_inc (pc := 100) rw_42_100 (ls2 := fun v => [.ref p, .ref 1, .int f, .long (y3 ||| ((1 : Int64) <<< (v111.toInt64 &&& 63))), .null, .int v, .int v88, .long ((1 : Int64) <<< (v111.toInt64 &&& 63)), .null]) rfl rfl (fun _ => rfl) (A := x5.toInt) (B := 1) rfl rfl (by omega) (fun v118 e119 => to_an (pc := 103) rw_42_103 rfl (s_v (pc := 104) rw_42_104 (dp0 hd (by decide)) (ls0 := [.ref 1]) rfl (Nat.le_of_ble_eq_true rfl) (Nat.le_of_ble_eq_true rfl) rfl (to_rc rfl rfl rfl (g_o hG93 rfl)) rfl ?_))))))
            have j_120 := (CS_f (tg_34 F92) g5)
            have c_121 : M98.2.1 1 9 = (N.2.1 1 9) := (F_n F92 (show ¬ (1 = 1 ∧ (9 = 10 ∨ 9 = 11)) by decide) rfl)
            have t_122 : (M98.2.1 1 9).toInt = (N.2.1 1 9).toInt := congrArg Int32.toInt c_121
            refine E_83 hX (dp1 hd (by decide)) hG93 j_120 (by omega) (t := t) (nn := nn) (a := (N.2.1 1 9).toInt) (fun M127 hG124 F123 p_125 p_126 => ?_)
            have F128 := FR.c F99 F123 (fun a i z => show a = 1 ∧ 6 ≤ i ∧ i ≤ 11 ∨ a = p + 8 by have z : a = 1 ∧ 6 ≤ i ∧ i ≤ 9 := z; omega)
            refine to_go (pc := 107) rw_42_107 ?_
            have c_129 : M127.2.1 p 3 = (N.2.1 p 3) := (F_n F123 (show ¬ (p = 1 ∧ 6 ≤ 3 ∧ 3 ≤ 9) by omega) (F_n F92 (show ¬ (p = 1 ∧ (3 = 10 ∨ 3 = 11)) by omega) rfl))
            have t_130 : (M127.2.1 p 3).toInt = (N.2.1 p 3).toInt := congrArg Int32.toInt c_129
            have j_131 := (PLc_f (fun a i z => F_n F123 (show ¬ (a = 1 ∧ 6 ≤ i ∧ i ≤ 9) by omega) rfl) (F_nl F123 (show ¬ (p = 1 ∧ 6 ≤ 4 ∧ 4 ≤ 9) by omega) rfl) (PLc_f (fun a i z => F_n F92 (show ¬ (a = 1 ∧ (i = 10 ∨ i = 11)) by omega) rfl) (F_nl F92 (show ¬ (p = 1 ∧ (4 = 10 ∨ 4 = 11)) by omega) rfl) g6))
            have j_132 := (CW_f (fun k hk9 => F_nl F123 (show ¬ ((p + 8) = 1 ∧ 6 ≤ k ∧ k ≤ 9) by omega) rfl) (CW_f (fun k hk9 => F_nl F92 (show ¬ ((p + 8) = 1 ∧ (k = 10 ∨ k = 11)) by omega) rfl) g7))
            exact ih M127 (y3 ||| ((1 : Int64) <<< (v111.toInt64 &&& 63))) v118 (.int v88) (.long ((1 : Int64) <<< (v111.toInt64 &&& 63))) (.null) hG124 F128 (by omega) (by omega) (by omega) (by omega) p_125 j_131 j_132 (x_rc_s (fu := (6 - x5.toInt).toNat) (told := x5.toInt) (bits := y3) (b := (N.2.1 1 9).toInt) (by omega) (by omega) (by omega) (by omega) (by omega) (congrArg (fun z => y3 ||| z) (x_bit_e (v := v111) (by omega))) g8) (by omega)
          · refine to_an (pc := 89) rw_42_89 rfl (to_c (pc := 90) rw_42_90 (x := (3 : Int32)) rfl rfl (s_v (pc := 91) rw_42_91 (dp0 hd (by decide)) (ls0 := [.ref 1, .int (3 : Int32)]) rfl (Nat.le_of_ble_eq_true rfl) (Nat.le_of_ble_eq_true rfl) rfl (to_rc rfl rfl rfl (g_o hG93 rfl)) rfl (to_an (pc := 0) rw_84_0 rfl (to_in (pc := 1) rw_84_1 rfl (s_pI (pc := 2) rw_84_2 hG93 rfl (fun M134 W133 => ?_))))))
            have hG135 := g_wf hG93 W133 rfl rfl (by decide)
            have F136 := FR.w F99 W133 (show 1 = 1 ∧ 6 ≤ 10 ∧ 10 ≤ 11 ∨ 1 = p + 8 by omega)
            refine to_an (pc := 5) rw_84_5 rfl (to_an (pc := 6) rw_84_6 rfl ?_)
            have c_137 : M134.2.1 1 9 = (N.2.1 1 9) := (W_n W133 (by decide) (F_n F92 (show ¬ (1 = 1 ∧ (9 = 10 ∨ 9 = 11)) by decide) rfl))
            refine tt_gI (pc := 7) rw_84_7 (g_o hG135 rfl) (v := (N.2.1 1 9)) c_137 (s_pI (pc := 10) rw_84_10 hG135 rfl (fun M139 W138 => ?_))
            have hG140 := g_wf hG135 W138 rfl rfl (by decide)
            have F141 := FR.w F136 W138 (show 1 = 1 ∧ 6 ≤ 11 ∧ 11 ≤ 11 ∨ 1 = p + 8 by omega)
            refine to_c (pc := 13) rw_84_13 (x := (0 : Int32)) rfl rfl (s_r1 (pc := 14) rw_84_14 (A := 0) rfl (by decide) (s_r1 (pc := 94) rw_42_94 (A := 0) rfl (by decide) ?_))
            have j_142 := (CS_f (fun a i z => W_n W138 (tg_32 a i z) rfl) (CS_f (fun a i z => W_n W133 (tg_33 a i z) rfl) (CS_f (tg_34 F92) g5)))
            have j_143 := (PLc_f (fun a i z => W_n W138 (by /-r1,11-/ omega) rfl) (W_j W138 rfl) (PLc_f (fun a i z => W_n W133 (by /-r1,10-/ omega) rfl) (W_j W133 rfl) (PLc_f (fun a i z => F_n F92 (show ¬ (a = 1 ∧ (i = 10 ∨ i = 11)) by omega) rfl) (F_nl F92 (show ¬ (p = 1 ∧ (4 = 10 ∨ 4 = 11)) by omega) rfl) g6)))
            have j_144 := (CW_f (fun k hk9 => W_j W138 rfl) (CW_f (fun k hk9 => W_j W133 rfl) (CW_f (fun k hk9 => F_nl F92 (show ¬ ((p + 8) = 1 ∧ (k = 10 ∨ k = 11)) by omega) rfl) g7)))
            exact h (0 : Int32) M139 hG140 F141 (by decide) (by decide) j_142 j_143 j_144 (fun _ => g8.symm.trans (by first | exact x_rc_n1 (by omega) (by omega) | exact x_rc_n2 (by omega) (by omega) | exact (if g9 : x_kind t nn (N.2.1 1 9).toInt = 3 then x_rc_n1 g9 (by omega) else x_rc_n2 g9 (by omega)))) (fun z => absurd z (by decide))
    · refine to_i (pc := 10) rw_42_10 rfl (to_an (pc := 12) rw_42_12 rfl (s_gR (pc := 13) rw_42_13 hG (by rcases hp with rfl | rfl <;> rfl) (v := (p + 5)) (by rcases hp with rfl | rfl <;> rfl) (to_in (pc := 16) rw_42_16 rfl (s_ial (pc := 17) rw_42_17 hG (by rcases hp with rfl | rfl <;> rfl) (n := 8) (by rcases hp with rfl | rfl <;> rfl) (by rcases hp with rfl | rfl <;> rfl) (A := f.toInt) rfl (by omega) (by omega) (lo := 0) (hi := 24) (by rcases hp with rfl | rfl <;> rfl) (by rcases hp with rfl | rfl <;> rfl) (fun v145 w_146 _ _ => ?_)))))
      have z_147 := PLc_r g6 5 (by decide) (by decide) (k := f.toInt) (by omega) (by omega) w_146
      refine b_cgt (pc := 18) rw_42_18 (A := x5.toInt) (B := v145.toInt) rfl rfl (fun h148 => ?_) (fun h148 => ?_)
      · refine to_an (pc := 110) rw_42_110 rfl (s_gR (pc := 111) rw_42_111 hG (by rcases hp with rfl | rfl <;> rfl) (v := (p + 8)) (by rcases hp with rfl | rfl <;> rfl) (to_an (pc := 114) rw_42_114 rfl (tt_gI (pc := 115) rw_42_115 (g_o hG (by rcases hp with rfl | rfl <;> rfl)) (v := (N.2.1 p 3)) rfl (to_ln (pc := 118) rw_42_118 rfl rfl rfl (s_las (pc := 119) rw_42_119 hG (by rcases hp with rfl | rfl <;> rfl) (n := 12) (by rcases hp with rfl | rfl <;> rfl) (A := (N.2.1 p 3).toInt) rfl (by omega) (by omega) (fun M150 W149 => ?_))))))
        have hG151 := g_wl hG W149
        have F152 := FR.wl F0 W149 (show (p + 8) = 1 ∧ 6 ≤ ((N.2.1 p 3).toInt).toNat ∧ ((N.2.1 p 3).toInt).toNat ≤ 11 ∨ (p + 8) = p + 8 by omega)
        refine to_i (pc := 120) rw_42_120 rfl (to_an (pc := 122) rw_42_122 rfl (s_gR (pc := 123) rw_42_123 hG151 (by rcases hp with rfl | rfl <;> rfl) (v := (p + 5)) (by rcases hp with rfl | rfl <;> rfl) (to_in (pc := 126) rw_42_126 rfl (s_ialk (pc := 127) rw_42_127 hG151 (by rcases hp with rfl | rfl <;> rfl) (n := 8) (by rcases hp with rfl | rfl <;> rfl) (by rcases hp with rfl | rfl <;> rfl) (A := f.toInt) rfl (by omega) (by omega) (v := v145) (W_l W149 w_146) (b_ceq (pc := 128) rw_42_128 (A := x5.toInt) (B := v145.toInt) rfl rfl (fun h155 => ?_) (fun h155 => ?_))))))
        · refine to_c (pc := 148) rw_42_148 (x := (1 : Int32)) rfl rfl (to_go (pc := 149) rw_42_149 (s_r1 (pc := 153) rw_42_153 (A := 1) rfl (by decide) ?_))
          have k_156 : (1 : Int32).toInt = 1 := rfl
          have j_157 := (CS_f (fun a i z => W_l W149 rfl) g5)
          have j_158 := (PLc_f (fun a i z => W_l W149 rfl) (L_n W149 (by omega) rfl) g6)
          have j_159 := (CW_f (fun k hk9 => L_n W149 (by omega) rfl) g7)
          have c_160 : M150.2.1 1 9 = (N.2.1 1 9) := (W_l W149 rfl)
          have t_161 : (M150.2.1 1 9).toInt = (N.2.1 1 9).toInt := congrArg Int32.toInt c_160
          have z_162 : M150.2.2.1 (p + 8) sg.2.2.1.toNat = y3 := by rw [show sg.2.2.1.toNat = ((N.2.1 p 3).toInt).toNat by omega]; exact (L_e W149)
          exact h (1 : Int32) M150 hG151 F152 (by decide) (by decide) j_157 j_158 j_159 (fun z => absurd z (by decide)) (fun _ => by rw [show (M150.2.1 1 9).toInt = (N.2.1 1 9).toInt by omega, z_162, ← g8]; first | exact Or.inl (x_rc_y (by omega) (by omega) (by omega)) | exact Or.inr ⟨x_rc_n2 (by omega) (by omega), by omega⟩)
        · refine to_an (pc := 131) rw_42_131 rfl ?_
          have c_163 : M150.2.1 1 7 = (N.2.1 1 7) := (W_l W149 rfl)
          have t_164 : (M150.2.1 1 7).toInt = (N.2.1 1 7).toInt := congrArg Int32.toInt c_163
          have c_165 : M150.2.1 1 8 = (N.2.1 1 8) := (W_l W149 rfl)
          have t_166 : (M150.2.1 1 8).toInt = (N.2.1 1 8).toInt := congrArg Int32.toInt c_165
          have c_167 : M150.2.1 1 9 = (N.2.1 1 9) := (W_l W149 rfl)
          have t_168 : (M150.2.1 1 9).toInt = (N.2.1 1 9).toInt := congrArg Int32.toInt c_167
          have j_169 := (CS_f (fun a i z => W_l W149 rfl) g5)
          have c_170 := CS_u j_169 (a := (N.2.1 1 9).toInt) (by omega)
          unfold x_C at c_170
          refine tt_gI (pc := 132) rw_42_132 (g_o hG151 rfl) (v := (N.2.1 1 7)) c_163 (to_c (pc := 135) rw_42_135 (x := (59 : Int32)) rfl rfl (b_cne (pc := 137) rw_42_137 (A := (N.2.1 1 7).toInt) (B := 59) rfl rfl (fun h171 => ?_) (fun h171 => ?_)))
          · refine to_c (pc := 148) rw_42_148 (x := (1 : Int32)) rfl rfl (to_go (pc := 149) rw_42_149 (s_r1 (pc := 153) rw_42_153 (A := 1) rfl (by decide) ?_))
            have k_172 : (1 : Int32).toInt = 1 := rfl
            have j_173 := (PLc_f (fun a i z => W_l W149 rfl) (L_n W149 (by omega) rfl) g6)
            have j_174 := (CW_f (fun k hk9 => L_n W149 (by omega) rfl) g7)
            have z_175 : M150.2.2.1 (p + 8) sg.2.2.1.toNat = y3 := by rw [show sg.2.2.1.toNat = ((N.2.1 p 3).toInt).toNat by omega]; exact (L_e W149)
            exact h (1 : Int32) M150 hG151 F152 (by decide) (by decide) j_169 j_173 j_174 (fun z => absurd z (by decide)) (fun _ => by rw [show (M150.2.1 1 9).toInt = (N.2.1 1 9).toInt by omega, z_175, ← g8]; first | exact Or.inl (x_rc_y (by omega) (by omega) (by omega)) | exact Or.inr ⟨x_rc_n2 (by omega) (by omega), by omega⟩)
          · refine to_an (pc := 140) rw_42_140 rfl (to_c (pc := 141) rw_42_141 (x := (5 : Int32)) rfl rfl (s_v (pc := 142) rw_42_142 (dp0 hd (by decide)) (ls0 := [.ref 1, .int (5 : Int32)]) rfl (Nat.le_of_ble_eq_true rfl) (Nat.le_of_ble_eq_true rfl) rfl (to_rc rfl rfl rfl (g_o hG151 rfl)) rfl (to_an (pc := 0) rw_84_0 rfl (to_in (pc := 1) rw_84_1 rfl (s_pI (pc := 2) rw_84_2 hG151 rfl (fun M177 W176 => ?_))))))
            have hG178 := g_wf hG151 W176 rfl rfl (by decide)
            have F179 := FR.w F152 W176 (show 1 = 1 ∧ 6 ≤ 10 ∧ 10 ≤ 11 ∨ 1 = p + 8 by omega)
            refine to_an (pc := 5) rw_84_5 rfl (to_an (pc := 6) rw_84_6 rfl ?_)
            have c_180 : M177.2.1 1 9 = (N.2.1 1 9) := (W_n W176 (by decide) c_167)
            refine tt_gI (pc := 7) rw_84_7 (g_o hG178 rfl) (v := (N.2.1 1 9)) c_180 (s_pI (pc := 10) rw_84_10 hG178 rfl (fun M182 W181 => ?_))
            have hG183 := g_wf hG178 W181 rfl rfl (by decide)
            have F184 := FR.w F179 W181 (show 1 = 1 ∧ 6 ≤ 11 ∧ 11 ≤ 11 ∨ 1 = p + 8 by omega)
            refine to_c (pc := 13) rw_84_13 (x := (0 : Int32)) rfl rfl (s_r1 (pc := 14) rw_84_14 (A := 0) rfl (by decide) (b_ieq_t (pc := 145) rw_42_145 (A := 0) rfl (by decide) (to_c (pc := 152) rw_42_152 (x := (0 : Int32)) rfl rfl (s_r1 (pc := 153) rw_42_153 (A := 0) rfl (by decide) ?_))))
            have k_185 : (0 : Int32).toInt = 0 := rfl
            have j_186 := (CS_f (fun a i z => W_n W181 (tg_32 a i z) rfl) (CS_f (fun a i z => W_n W176 (tg_33 a i z) rfl) j_169))
            have j_187 := (PLc_f (fun a i z => W_n W181 (by /-r1,11-/ omega) rfl) (W_j W181 rfl) (PLc_f (fun a i z => W_n W176 (by /-r1,10-/ omega) rfl) (W_j W176 rfl) (PLc_f (fun a i z => W_l W149 rfl) (L_n W149 (by omega) rfl) g6)))
            have j_188 := (CW_f (fun k hk9 => W_j W181 rfl) (CW_f (fun k hk9 => W_j W176 rfl) (CW_f (fun k hk9 => L_n W149 (by omega) rfl) g7)))
            exact h (0 : Int32) M182 hG183 F184 (by decide) (by decide) j_186 j_187 j_188 (fun _ => g8.symm.trans (by first | exact x_rc_n1 (by omega) (by omega) | exact x_rc_n2 (by omega) (by omega) | exact (if g9 : x_kind t nn (N.2.1 1 9).toInt = 3 then x_rc_n1 g9 (by omega) else x_rc_n2 g9 (by omega)))) (fun z => absurd z (by decide))
      · refine to_an (pc := 21) rw_42_21 rfl ?_
        have c_189 := CS_u g5 (a := (N.2.1 1 9).toInt) (by omega)
        unfold x_C at c_189
        refine tt_gI (pc := 22) rw_42_22 (g_o hG rfl) (v := (N.2.1 1 7)) rfl (to_c (pc := 25) rw_42_25 (x := (2 : Int32)) rfl rfl (b_cne (pc := 26) rw_42_26 (A := (N.2.1 1 7).toInt) (B := 2) rfl rfl (fun h190 => ?_) (fun h190 => ?_)))
        · refine to_an (pc := 110) rw_42_110 rfl (s_gR (pc := 111) rw_42_111 hG (by rcases hp with rfl | rfl <;> rfl) (v := (p + 8)) (by rcases hp with rfl | rfl <;> rfl) (to_an (pc := 114) rw_42_114 rfl (tt_gI (pc := 115) rw_42_115 (g_o hG (by rcases hp with rfl | rfl <;> rfl)) (v := (N.2.1 p 3)) rfl (to_ln (pc := 118) rw_42_118 rfl rfl rfl (s_las (pc := 119) rw_42_119 hG (by rcases hp with rfl | rfl <;> rfl) (n := 12) (by rcases hp with rfl | rfl <;> rfl) (A := (N.2.1 p 3).toInt) rfl (by omega) (by omega) (fun M192 W191 => ?_))))))
          have hG193 := g_wl hG W191
          have F194 := FR.wl F0 W191 (show (p + 8) = 1 ∧ 6 ≤ ((N.2.1 p 3).toInt).toNat ∧ ((N.2.1 p 3).toInt).toNat ≤ 11 ∨ (p + 8) = p + 8 by omega)
          refine to_i (pc := 120) rw_42_120 rfl (to_an (pc := 122) rw_42_122 rfl (s_gR (pc := 123) rw_42_123 hG193 (by rcases hp with rfl | rfl <;> rfl) (v := (p + 5)) (by rcases hp with rfl | rfl <;> rfl) (to_in (pc := 126) rw_42_126 rfl (s_ialk (pc := 127) rw_42_127 hG193 (by rcases hp with rfl | rfl <;> rfl) (n := 8) (by rcases hp with rfl | rfl <;> rfl) (by rcases hp with rfl | rfl <;> rfl) (A := f.toInt) rfl (by omega) (by omega) (v := v145) (W_l W191 w_146) (b_ceq (pc := 128) rw_42_128 (A := x5.toInt) (B := v145.toInt) rfl rfl (fun h197 => ?_) (fun h197 => ?_))))))
          · refine to_c (pc := 148) rw_42_148 (x := (1 : Int32)) rfl rfl (to_go (pc := 149) rw_42_149 (s_r1 (pc := 153) rw_42_153 (A := 1) rfl (by decide) ?_))
            have k_198 : (1 : Int32).toInt = 1 := rfl
            have j_199 := (CS_f (fun a i z => W_l W191 rfl) g5)
            have j_200 := (PLc_f (fun a i z => W_l W191 rfl) (L_n W191 (by omega) rfl) g6)
            have j_201 := (CW_f (fun k hk9 => L_n W191 (by omega) rfl) g7)
            have c_202 : M192.2.1 1 9 = (N.2.1 1 9) := (W_l W191 rfl)
            have t_203 : (M192.2.1 1 9).toInt = (N.2.1 1 9).toInt := congrArg Int32.toInt c_202
            have z_204 : M192.2.2.1 (p + 8) sg.2.2.1.toNat = y3 := by rw [show sg.2.2.1.toNat = ((N.2.1 p 3).toInt).toNat by omega]; exact (L_e W191)
            exact h (1 : Int32) M192 hG193 F194 (by decide) (by decide) j_199 j_200 j_201 (fun z => absurd z (by decide)) (fun _ => by rw [show (M192.2.1 1 9).toInt = (N.2.1 1 9).toInt by omega, z_204, ← g8]; first | exact Or.inl (x_rc_y (by omega) (by omega) (by omega)) | exact Or.inr ⟨x_rc_n2 (by omega) (by omega), by omega⟩)
          · refine to_an (pc := 131) rw_42_131 rfl ?_
            have c_205 : M192.2.1 1 7 = (N.2.1 1 7) := (W_l W191 rfl)
            have t_206 : (M192.2.1 1 7).toInt = (N.2.1 1 7).toInt := congrArg Int32.toInt c_205
            have c_207 : M192.2.1 1 8 = (N.2.1 1 8) := (W_l W191 rfl)
            have t_208 : (M192.2.1 1 8).toInt = (N.2.1 1 8).toInt := congrArg Int32.toInt c_207
            have c_209 : M192.2.1 1 9 = (N.2.1 1 9) := (W_l W191 rfl)
            have t_210 : (M192.2.1 1 9).toInt = (N.2.1 1 9).toInt := congrArg Int32.toInt c_209
            have j_211 := (CS_f (fun a i z => W_l W191 rfl) g5)
            have c_212 := CS_u j_211 (a := (N.2.1 1 9).toInt) (by omega)
            unfold x_C at c_212
            refine tt_gI (pc := 132) rw_42_132 (g_o hG193 rfl) (v := (N.2.1 1 7)) c_205 (to_c (pc := 135) rw_42_135 (x := (59 : Int32)) rfl rfl (b_cne (pc := 137) rw_42_137 (A := (N.2.1 1 7).toInt) (B := 59) rfl rfl (fun h213 => ?_) (fun h213 => ?_)))
            · refine to_c (pc := 148) rw_42_148 (x := (1 : Int32)) rfl rfl (to_go (pc := 149) rw_42_149 (s_r1 (pc := 153) rw_42_153 (A := 1) rfl (by decide) ?_))
              have k_214 : (1 : Int32).toInt = 1 := rfl
              have j_215 := (PLc_f (fun a i z => W_l W191 rfl) (L_n W191 (by omega) rfl) g6)
              have j_216 := (CW_f (fun k hk9 => L_n W191 (by omega) rfl) g7)
              have z_217 : M192.2.2.1 (p + 8) sg.2.2.1.toNat = y3 := by rw [show sg.2.2.1.toNat = ((N.2.1 p 3).toInt).toNat by omega]; exact (L_e W191)
              exact h (1 : Int32) M192 hG193 F194 (by decide) (by decide) j_211 j_215 j_216 (fun z => absurd z (by decide)) (fun _ => by rw [show (M192.2.1 1 9).toInt = (N.2.1 1 9).toInt by omega, z_217, ← g8]; first | exact Or.inl (x_rc_y (by omega) (by omega) (by omega)) | exact Or.inr ⟨x_rc_n2 (by omega) (by omega), by omega⟩)
            · refine to_an (pc := 140) rw_42_140 rfl (to_c (pc := 141) rw_42_141 (x := (5 : Int32)) rfl rfl (s_v (pc := 142) rw_42_142 (dp0 hd (by decide)) (ls0 := [.ref 1, .int (5 : Int32)]) rfl (Nat.le_of_ble_eq_true rfl) (Nat.le_of_ble_eq_true rfl) rfl (to_rc rfl rfl rfl (g_o hG193 rfl)) rfl (to_an (pc := 0) rw_84_0 rfl (to_in (pc := 1) rw_84_1 rfl (s_pI (pc := 2) rw_84_2 hG193 rfl (fun M219 W218 => ?_))))))
              have hG220 := g_wf hG193 W218 rfl rfl (by decide)
              have F221 := FR.w F194 W218 (show 1 = 1 ∧ 6 ≤ 10 ∧ 10 ≤ 11 ∨ 1 = p + 8 by omega)
              refine to_an (pc := 5) rw_84_5 rfl (to_an (pc := 6) rw_84_6 rfl ?_)
              have c_222 : M219.2.1 1 9 = (N.2.1 1 9) := (W_n W218 (by decide) c_209)
              refine tt_gI (pc := 7) rw_84_7 (g_o hG220 rfl) (v := (N.2.1 1 9)) c_222 (s_pI (pc := 10) rw_84_10 hG220 rfl (fun M224 W223 => ?_))
              have hG225 := g_wf hG220 W223 rfl rfl (by decide)
              have F226 := FR.w F221 W223 (show 1 = 1 ∧ 6 ≤ 11 ∧ 11 ≤ 11 ∨ 1 = p + 8 by omega)
              refine to_c (pc := 13) rw_84_13 (x := (0 : Int32)) rfl rfl (s_r1 (pc := 14) rw_84_14 (A := 0) rfl (by decide) (b_ieq_t (pc := 145) rw_42_145 (A := 0) rfl (by decide) (to_c (pc := 152) rw_42_152 (x := (0 : Int32)) rfl rfl (s_r1 (pc := 153) rw_42_153 (A := 0) rfl (by decide) ?_))))
              have k_227 : (0 : Int32).toInt = 0 := rfl
              have j_228 := (CS_f (fun a i z => W_n W223 (tg_32 a i z) rfl) (CS_f (fun a i z => W_n W218 (tg_33 a i z) rfl) j_211))
              have j_229 := (PLc_f (fun a i z => W_n W223 (by /-r1,11-/ omega) rfl) (W_j W223 rfl) (PLc_f (fun a i z => W_n W218 (by /-r1,10-/ omega) rfl) (W_j W218 rfl) (PLc_f (fun a i z => W_l W191 rfl) (L_n W191 (by omega) rfl) g6)))
              have j_230 := (CW_f (fun k hk9 => W_j W223 rfl) (CW_f (fun k hk9 => W_j W218 rfl) (CW_f (fun k hk9 => L_n W191 (by omega) rfl) g7)))
              exact h (0 : Int32) M224 hG225 F226 (by decide) (by decide) j_228 j_229 j_230 (fun _ => g8.symm.trans (by first | exact x_rc_n1 (by omega) (by omega) | exact x_rc_n2 (by omega) (by omega) | exact (if g9 : x_kind t nn (N.2.1 1 9).toInt = 3 then x_rc_n1 g9 (by omega) else x_rc_n2 g9 (by omega)))) (fun z => absurd z (by decide))
        · refine to_i (pc := 29) rw_42_29 rfl (to_an (pc := 31) rw_42_31 rfl (s_gR (pc := 32) rw_42_32 hG (by rcases hp with rfl | rfl <;> rfl) (v := (p + 5)) (by rcases hp with rfl | rfl <;> rfl) (to_in (pc := 35) rw_42_35 rfl (s_ialk (pc := 36) rw_42_36 hG (by rcases hp with rfl | rfl <;> rfl) (n := 8) (by rcases hp with rfl | rfl <;> rfl) (by rcases hp with rfl | rfl <;> rfl) (A := f.toInt) rfl (by omega) (by omega) (v := v145) w_146 (b_cge (pc := 37) rw_42_37 (A := x5.toInt) (B := v145.toInt) rfl rfl (fun h233 => ?_) (fun h233 => ?_))))))
          · refine to_c (pc := 50) rw_42_50 (x := (-1 : Int32)) rfl rfl (to_is (pc := 51) rw_42_51 (ls2 := [.ref p, .ref 1, .int f, .long y3, .null, .int x5, .int (-1 : Int32), u7, u8]) rfl rfl (to_an (pc := 53) rw_42_53 rfl (to_c (pc := 54) rw_42_54 (x := (0 : Int32)) rfl rfl (to_i (pc := 55) rw_42_55 rfl (s_v (pc := 57) rw_42_57 (dp0 hd (by decide)) (ls0 := [.ref 1, .int (0 : Int32), .int (-1 : Int32)]) rfl (Nat.le_of_ble_eq_true rfl) (Nat.le_of_ble_eq_true rfl) rfl (to_rc rfl rfl rfl (g_o hG rfl)) rfl ?_)))))
            have k_234 : (0 : Int32).toInt = 0 := rfl
            have k_235 : (-1 : Int32).toInt = -1 := rfl
            refine E_88 hX (dp1 hd (by decide)) hG g5 (by omega) (l := (0 : Int32)) (m := (-1 : Int32)) (t := t) (nn := nn) (a := (N.2.1 1 9).toInt) (fun r236 M243 hG238 F237 p_239 p_240 p_241 p_242 => ?_)
            have F244 := FR.c F0 F237 (fun a i z => show a = 1 ∧ 6 ≤ i ∧ i ≤ 11 ∨ a = p + 8 by have z : a = 1 ∧ (i = 10 ∨ i = 11) := z; omega)
            rcases (show r236.toInt = 0 ∨ r236.toInt = 1 by omega) with h245 | h245
            · skip
              have p_246 := p_242 (by omega)
              clear p_241 p_242
              have z_247 := x_val_b (t := t) (nn := nn) (a := (N.2.1 1 9).toInt)
              refine b_ine_f (pc := 60) rw_42_60 (A := r236.toInt) rfl (by omega) (to_c (pc := 63) rw_42_63 (x := (0 : Int32)) rfl rfl (s_r1 (pc := 64) rw_42_64 (A := 0) rfl (by decide) ?_))
              have j_248 := (CS_f (tg_34 F237) g5)
              have j_249 := (PLc_f (fun a i z => F_n F237 (show ¬ (a = 1 ∧ (i = 10 ∨ i = 11)) by omega) rfl) (F_nl F237 (show ¬ (p = 1 ∧ (4 = 10 ∨ 4 = 11)) by omega) rfl) g6)
              have j_250 := (CW_f (fun k hk9 => F_nl F237 (show ¬ ((p + 8) = 1 ∧ (k = 10 ∨ k = 11)) by omega) rfl) g7)
              exact h (0 : Int32) M243 hG238 F244 (by decide) (by decide) j_248 j_249 j_250 (fun _ => g8.symm.trans (by first | exact x_rc_n1 (by omega) (by omega) | exact x_rc_n2 (by omega) (by omega) | exact (if g9 : x_kind t nn (N.2.1 1 9).toInt = 3 then x_rc_n1 g9 (by omega) else x_rc_n2 g9 (by omega)))) (fun z => absurd z (by decide))
            · skip
              have p_251 := p_241 (by omega)
              clear p_241 p_242
              have c_252 : M243.2.1 1 8 = (N.2.1 1 8) := (F_n F237 (show ¬ (1 = 1 ∧ (8 = 10 ∨ 8 = 11)) by decide) rfl)
              have z_253 := x_val_b (t := t) (nn := nn) (a := (N.2.1 1 9).toInt) (by omega)
              refine b_ine_t (pc := 60) rw_42_60 (A := r236.toInt) rfl (by omega) (to_cl (pc := 65) rw_42_65 rfl (x := (1 : Int64)) rfl (to_an (pc := 66) rw_42_66 rfl (s_gR (pc := 67) rw_42_67 hG238 (by rcases hp with rfl | rfl <;> rfl) (v := (p + 3)) (by rcases hp with rfl | rfl <;> rfl) (to_in (pc := 70) rw_42_70 rfl (s_ial (pc := 71) rw_42_71 hG238 (by rcases hp with rfl | rfl <;> rfl) (n := 8) (by rcases hp with rfl | rfl <;> rfl) (by rcases hp with rfl | rfl <;> rfl) (A := f.toInt) rfl (by omega) (by omega) (lo := 0) (hi := 59) (by rcases hp with rfl | rfl <;> rfl) (by rcases hp with rfl | rfl <;> rfl) (fun v254 w_255 _ _ => ?_))))))
              have j_256 := (PLc_f (fun a i z => F_n F237 (show ¬ (a = 1 ∧ (i = 10 ∨ i = 11)) by omega) rfl) (F_nl F237 (show ¬ (p = 1 ∧ (4 = 10 ∨ 4 = 11)) by omega) rfl) g6)
              have z_257 := PLc_r j_256 3 (by decide) (by decide) (k := f.toInt) (by omega) (by omega) w_255
              refine to_an (pc := 72) rw_42_72 rfl (tt_gI (pc := 73) rw_42_73 (g_o hG238 rfl) (v := (N.2.1 1 8)) c_252 (s_add (pc := 76) rw_42_76 (A := v254.toInt) (B := (N.2.1 1 8).toInt) rfl rfl (by omega) (fun v258 e259 => to_2s (pc := 77) rw_42_77 (v := ((1 : Int64) <<< (v258.toInt64 &&& 63))) rfl (to_ls (pc := 78) rw_42_78 (ls2 := [.ref p, .ref 1, .int f, .long y3, .null, .int x5, .int (-1 : Int32), .long ((1 : Int64) <<< (v258.toInt64 &&& 63)), .null]) rfl rfl (to_ln (pc := 80) rw_42_80 rfl rfl rfl (to_l (pc := 81) rw_42_81 rfl rfl rfl (to_2l (pc := 83) rw_42_83 (v := (y3 &&& ((1 : Int64) <<< (v258.toInt64 &&& 63)))) rfl (to_cl (pc := 84) rw_42_84 rfl (x := (0 : Int64)) rfl (s_lcmpE (pc := 85) rw_42_85 (fun v260 e261 => ?_))))))))))
              have b_262 := x_eq_b (x := (y3 &&& ((1 : Int64) <<< (v258.toInt64 &&& 63)))) (y := (0 : Int64))
              have z_263 := x_hit_e (v := v258) (bits := y3) (h := (x_row sg 3 f.toInt + x_val t nn (N.2.1 1 9).toInt))
              refine b_ieq (pc := 86) rw_42_86 (A := v260.toInt) rfl (fun h264 => ?_) (fun h264 => ?_)
              · refine to_ln (pc := 95) rw_42_95 rfl rfl rfl (to_l (pc := 96) rw_42_96 rfl rfl rfl (to_2l (pc := 98) rw_42_98 (v := (y3 ||| ((1 : Int64) <<< (v258.toInt64 &&& 63)))) rfl (to_lsn (pc := 99) rw_42_99 (ls2 := [.ref p, .ref 1, .int f, .long (y3 ||| ((1 : Int64) <<< (v258.toInt64 &&& 63))), .null, .int x5, .int (-1 : Int32), .long ((1 : Int64) <<< (v258.toInt64 &&& 63)), .null]) rfl rfl (s_inc (pc := 100) rw_42_100 (ls2 := fun v => [.ref p, .ref 1, .int f, .long (y3 ||| ((1 : Int64) <<< (v258.toInt64 &&& 63))), .null, .int v, .int (-1 : Int32), .long ((1 : Int64) <<< (v258.toInt64 &&& 63)), .null]) rfl rfl (fun _ => rfl) (A := x5.toInt) (B := 1) rfl rfl (by omega) (fun v265 e266 => to_an (pc := 103) rw_42_103 rfl (s_v (pc := 104) rw_42_104 (dp0 hd (by decide)) (ls0 := [.ref 1]) rfl (Nat.le_of_ble_eq_true rfl) (Nat.le_of_ble_eq_true rfl) rfl (to_rc rfl rfl rfl (g_o hG238 rfl)) rfl ?_))))))
                have j_267 := (CS_f (tg_34 F237) g5)
                have c_268 : M243.2.1 1 9 = (N.2.1 1 9) := (F_n F237 (show ¬ (1 = 1 ∧ (9 = 10 ∨ 9 = 11)) by decide) rfl)
                have t_269 : (M243.2.1 1 9).toInt = (N.2.1 1 9).toInt := congrArg Int32.toInt c_268
                refine E_83 hX (dp1 hd (by decide)) hG238 j_267 (by omega) (t := t) (nn := nn) (a := (N.2.1 1 9).toInt) (fun M274 hG271 F270 p_272 p_273 => ?_)
                have F275 := FR.c F244 F270 (fun a i z => show a = 1 ∧ 6 ≤ i ∧ i ≤ 11 ∨ a = p + 8 by have z : a = 1 ∧ 6 ≤ i ∧ i ≤ 9 := z; omega)
                refine to_go (pc := 107) rw_42_107 ?_
                have c_276 : M274.2.1 p 3 = (N.2.1 p 3) := (F_n F270 (show ¬ (p = 1 ∧ 6 ≤ 3 ∧ 3 ≤ 9) by omega) (F_n F237 (show ¬ (p = 1 ∧ (3 = 10 ∨ 3 = 11)) by omega) rfl))
                have t_277 : (M274.2.1 p 3).toInt = (N.2.1 p 3).toInt := congrArg Int32.toInt c_276
                have j_278 := (PLc_f (fun a i z => F_n F270 (show ¬ (a = 1 ∧ 6 ≤ i ∧ i ≤ 9) by omega) rfl) (F_nl F270 (show ¬ (p = 1 ∧ 6 ≤ 4 ∧ 4 ≤ 9) by omega) rfl) j_256)
                have j_279 := (CW_f (fun k hk9 => F_nl F270 (show ¬ ((p + 8) = 1 ∧ 6 ≤ k ∧ k ≤ 9) by omega) rfl) (CW_f (fun k hk9 => F_nl F237 (show ¬ ((p + 8) = 1 ∧ (k = 10 ∨ k = 11)) by omega) rfl) g7))
                exact ih M274 (y3 ||| ((1 : Int64) <<< (v258.toInt64 &&& 63))) v265 (.int (-1 : Int32)) (.long ((1 : Int64) <<< (v258.toInt64 &&& 63))) (.null) hG271 F275 (by omega) (by omega) (by omega) (by omega) p_272 j_278 j_279 (x_rc_s (fu := (6 - x5.toInt).toNat) (told := x5.toInt) (bits := y3) (b := (N.2.1 1 9).toInt) (by omega) (by omega) (by omega) (by omega) (by omega) (congrArg (fun z => y3 ||| z) (x_bit_e (v := v258) (by omega))) g8) (by omega)
              · refine to_an (pc := 89) rw_42_89 rfl (to_c (pc := 90) rw_42_90 (x := (3 : Int32)) rfl rfl (s_v (pc := 91) rw_42_91 (dp0 hd (by decide)) (ls0 := [.ref 1, .int (3 : Int32)]) rfl (Nat.le_of_ble_eq_true rfl) (Nat.le_of_ble_eq_true rfl) rfl (to_rc rfl rfl rfl (g_o hG238 rfl)) rfl (to_an (pc := 0) rw_84_0 rfl (to_in (pc := 1) rw_84_1 rfl (s_pI (pc := 2) rw_84_2 hG238 rfl (fun M281 W280 => ?_))))))
                have hG282 := g_wf hG238 W280 rfl rfl (by decide)
                have F283 := FR.w F244 W280 (show 1 = 1 ∧ 6 ≤ 10 ∧ 10 ≤ 11 ∨ 1 = p + 8 by omega)
                refine to_an (pc := 5) rw_84_5 rfl (to_an (pc := 6) rw_84_6 rfl ?_)
                have c_284 : M281.2.1 1 9 = (N.2.1 1 9) := (W_n W280 (by decide) (F_n F237 (show ¬ (1 = 1 ∧ (9 = 10 ∨ 9 = 11)) by decide) rfl))
                refine tt_gI (pc := 7) rw_84_7 (g_o hG282 rfl) (v := (N.2.1 1 9)) c_284 (s_pI (pc := 10) rw_84_10 hG282 rfl (fun M286 W285 => ?_))
                have hG287 := g_wf hG282 W285 rfl rfl (by decide)
                have F288 := FR.w F283 W285 (show 1 = 1 ∧ 6 ≤ 11 ∧ 11 ≤ 11 ∨ 1 = p + 8 by omega)
                refine to_c (pc := 13) rw_84_13 (x := (0 : Int32)) rfl rfl (s_r1 (pc := 14) rw_84_14 (A := 0) rfl (by decide) (s_r1 (pc := 94) rw_42_94 (A := 0) rfl (by decide) ?_))
                have j_289 := (CS_f (fun a i z => W_n W285 (tg_32 a i z) rfl) (CS_f (fun a i z => W_n W280 (tg_33 a i z) rfl) (CS_f (tg_34 F237) g5)))
                have j_290 := (PLc_f (fun a i z => W_n W285 (by /-r1,11-/ omega) rfl) (W_j W285 rfl) (PLc_f (fun a i z => W_n W280 (by /-r1,10-/ omega) rfl) (W_j W280 rfl) j_256))
                have j_291 := (CW_f (fun k hk9 => W_j W285 rfl) (CW_f (fun k hk9 => W_j W280 rfl) (CW_f (fun k hk9 => F_nl F237 (show ¬ ((p + 8) = 1 ∧ (k = 10 ∨ k = 11)) by omega) rfl) g7)))
                exact h (0 : Int32) M286 hG287 F288 (by decide) (by decide) j_289 j_290 j_291 (fun _ => g8.symm.trans (by first | exact x_rc_n1 (by omega) (by omega) | exact x_rc_n2 (by omega) (by omega) | exact (if g9 : x_kind t nn (N.2.1 1 9).toInt = 3 then x_rc_n1 g9 (by omega) else x_rc_n2 g9 (by omega)))) (fun z => absurd z (by decide))
          · refine to_an (pc := 40) rw_42_40 rfl (to_in (pc := 41) rw_42_41 rfl (s_v (pc := 42) rw_42_42 (dp0 hd (by decide)) (ls0 := [.ref p, .int f]) rfl (Nat.le_of_ble_eq_true rfl) (Nat.le_of_ble_eq_true rfl) rfl (to_rc rfl rfl rfl (g_o hG (by rcases hp with rfl | rfl <;> rfl))) rfl (to_an (pc := 0) rw_47_0 rfl (s_gR (pc := 1) rw_47_1 hG (by rcases hp with rfl | rfl <;> rfl) (v := (p + 4)) (by rcases hp with rfl | rfl <;> rfl) (to_in (pc := 4) rw_47_4 rfl (s_ial (pc := 5) rw_47_5 hG (by rcases hp with rfl | rfl <;> rfl) (n := 8) (by rcases hp with rfl | rfl <;> rfl) (by rcases hp with rfl | rfl <;> rfl) (A := f.toInt) rfl (by omega) (by omega) (lo := 0) (hi := 63) (by rcases hp with rfl | rfl <;> rfl) (by rcases hp with rfl | rfl <;> rfl) (fun v292 w_293 _ _ => ?_)))))))
            have z_294 := PLc_r g6 4 (by decide) (by decide) (k := f.toInt) (by omega) (by omega) w_293
            refine to_an (pc := 6) rw_47_6 rfl (s_gR (pc := 7) rw_47_7 hG (by rcases hp with rfl | rfl <;> rfl) (v := (p + 3)) (by rcases hp with rfl | rfl <;> rfl) (to_in (pc := 10) rw_47_10 rfl (s_ial (pc := 11) rw_47_11 hG (by rcases hp with rfl | rfl <;> rfl) (n := 8) (by rcases hp with rfl | rfl <;> rfl) (by rcases hp with rfl | rfl <;> rfl) (A := f.toInt) rfl (by omega) (by omega) (lo := 0) (hi := 59) (by rcases hp with rfl | rfl <;> rfl) (by rcases hp with rfl | rfl <;> rfl) (fun v295 w_296 _ _ => ?_))))
            have z_297 := PLc_r g6 3 (by decide) (by decide) (k := f.toInt) (by omega) (by omega) w_296
            refine s_sub (pc := 12) rw_47_12 (A := v292.toInt) (B := v295.toInt) rfl rfl (by omega) (fun v298 e299 => to_c (pc := 13) rw_47_13 (x := (1 : Int32)) rfl rfl (s_add (pc := 14) rw_47_14 (A := v298.toInt) (B := 1) rfl rfl (by omega) (fun v300 e301 => to_r0 (pc := 15) rw_47_15 (to_c (pc := 45) rw_42_45 (x := (1 : Int32)) rfl rfl (s_sub (pc := 46) rw_42_46 (A := v300.toInt) (B := 1) rfl rfl (by omega) (fun v302 e303 => to_go (pc := 47) rw_42_47 (to_is (pc := 51) rw_42_51 (ls2 := [.ref p, .ref 1, .int f, .long y3, .null, .int x5, .int v302, u7, u8]) rfl rfl (to_an (pc := 53) rw_42_53 rfl (to_c (pc := 54) rw_42_54 (x := (0 : Int32)) rfl rfl (to_i (pc := 55) rw_42_55 rfl (s_v (pc := 57) rw_42_57 (dp0 hd (by decide)) (ls0 := [.ref 1, .int (0 : Int32), .int v302]) rfl (Nat.le_of_ble_eq_true rfl) (Nat.le_of_ble_eq_true rfl) rfl (to_rc rfl rfl rfl (g_o hG rfl)) rfl ?_)))))))))))
            have k_304 : (0 : Int32).toInt = 0 := rfl
            refine E_88 hX (dp1 hd (by decide)) hG g5 (by omega) (l := (0 : Int32)) (m := v302) (t := t) (nn := nn) (a := (N.2.1 1 9).toInt) (fun r305 M312 hG307 F306 p_308 p_309 p_310 p_311 => ?_)
            have F313 := FR.c F0 F306 (fun a i z => show a = 1 ∧ 6 ≤ i ∧ i ≤ 11 ∨ a = p + 8 by have z : a = 1 ∧ (i = 10 ∨ i = 11) := z; omega)
            rcases (show r305.toInt = 0 ∨ r305.toInt = 1 by omega) with h314 | h314
            · skip
              have p_315 := p_311 (by omega)
              clear p_310 p_311
              have z_316 := x_val_b (t := t) (nn := nn) (a := (N.2.1 1 9).toInt)
              refine b_ine_f (pc := 60) rw_42_60 (A := r305.toInt) rfl (by omega) (to_c (pc := 63) rw_42_63 (x := (0 : Int32)) rfl rfl (s_r1 (pc := 64) rw_42_64 (A := 0) rfl (by decide) ?_))
              have j_317 := (CS_f (tg_34 F306) g5)
              have j_318 := (PLc_f (fun a i z => F_n F306 (show ¬ (a = 1 ∧ (i = 10 ∨ i = 11)) by omega) rfl) (F_nl F306 (show ¬ (p = 1 ∧ (4 = 10 ∨ 4 = 11)) by omega) rfl) g6)
              have j_319 := (CW_f (fun k hk9 => F_nl F306 (show ¬ ((p + 8) = 1 ∧ (k = 10 ∨ k = 11)) by omega) rfl) g7)
              exact h (0 : Int32) M312 hG307 F313 (by decide) (by decide) j_317 j_318 j_319 (fun _ => g8.symm.trans (by first | exact x_rc_n1 (by omega) (by omega) | exact x_rc_n2 (by omega) (by omega) | exact (if g9 : x_kind t nn (N.2.1 1 9).toInt = 3 then x_rc_n1 g9 (by omega) else x_rc_n2 g9 (by omega)))) (fun z => absurd z (by decide))
            · skip
              have p_320 := p_310 (by omega)
              clear p_310 p_311
              have c_321 : M312.2.1 1 8 = (N.2.1 1 8) := (F_n F306 (show ¬ (1 = 1 ∧ (8 = 10 ∨ 8 = 11)) by decide) rfl)
              have z_322 := x_val_b (t := t) (nn := nn) (a := (N.2.1 1 9).toInt) (by omega)
              refine b_ine_t (pc := 60) rw_42_60 (A := r305.toInt) rfl (by omega) (to_cl (pc := 65) rw_42_65 rfl (x := (1 : Int64)) rfl (to_an (pc := 66) rw_42_66 rfl (s_gR (pc := 67) rw_42_67 hG307 (by rcases hp with rfl | rfl <;> rfl) (v := (p + 3)) (by rcases hp with rfl | rfl <;> rfl) (to_in (pc := 70) rw_42_70 rfl (s_ialk (pc := 71) rw_42_71 hG307 (by rcases hp with rfl | rfl <;> rfl) (n := 8) (by rcases hp with rfl | rfl <;> rfl) (by rcases hp with rfl | rfl <;> rfl) (A := f.toInt) rfl (by omega) (by omega) (v := v295) (F_n F306 (show ¬ ((p + 3) = 1 ∧ ((f.toInt).toNat = 10 ∨ (f.toInt).toNat = 11)) by omega) w_296) (to_an (pc := 72) rw_42_72 rfl (tt_gI (pc := 73) rw_42_73 (g_o hG307 rfl) (v := (N.2.1 1 8)) c_321 (s_add (pc := 76) rw_42_76 (A := v295.toInt) (B := (N.2.1 1 8).toInt) rfl rfl (by omega) (fun v325 e326 => to_2s (pc := 77) rw_42_77 (v := ((1 : Int64) <<< (v325.toInt64 &&& 63))) rfl (to_ls (pc := 78) rw_42_78 (ls2 := [.ref p, .ref 1, .int f, .long y3, .null, .int x5, .int v302, .long ((1 : Int64) <<< (v325.toInt64 &&& 63)), .null]) rfl rfl (to_ln (pc := 80) rw_42_80 rfl rfl rfl ?_)))))))))))
              refine to_l (pc := 81) rw_42_81 rfl rfl rfl (to_2l (pc := 83) rw_42_83 (v := (y3 &&& ((1 : Int64) <<< (v325.toInt64 &&& 63)))) rfl (to_cl (pc := 84) rw_42_84 rfl (x := (0 : Int64)) rfl (s_lcmpE (pc := 85) rw_42_85 (fun v327 e328 => ?_))))
              have b_329 := x_eq_b (x := (y3 &&& ((1 : Int64) <<< (v325.toInt64 &&& 63)))) (y := (0 : Int64))
              have z_330 := x_hit_e (v := v325) (bits := y3) (h := (x_row sg 3 f.toInt + x_val t nn (N.2.1 1 9).toInt))
              refine b_ieq (pc := 86) rw_42_86 (A := v327.toInt) rfl (fun h331 => ?_) (fun h331 => ?_)
              · refine to_ln (pc := 95) rw_42_95 rfl rfl rfl (to_l (pc := 96) rw_42_96 rfl rfl rfl (to_2l (pc := 98) rw_42_98 (v := (y3 ||| ((1 : Int64) <<< (v325.toInt64 &&& 63)))) rfl (to_lsn (pc := 99) rw_42_99 (ls2 := [.ref p, .ref 1, .int f, .long (y3 ||| ((1 : Int64) <<< (v325.toInt64 &&& 63))), .null, .int x5, .int v302, .long ((1 : Int64) <<< (v325.toInt64 &&& 63)), .null]) rfl rfl (s_inc (pc := 100) rw_42_100 (ls2 := fun v => [.ref p, .ref 1, .int f, .long (y3 ||| ((1 : Int64) <<< (v325.toInt64 &&& 63))), .null, .int v, .int v302, .long ((1 : Int64) <<< (v325.toInt64 &&& 63)), .null]) rfl rfl (fun _ => rfl) (A := x5.toInt) (B := 1) rfl rfl (by omega) (fun v332 e333 => to_an (pc := 103) rw_42_103 rfl (s_v (pc := 104) rw_42_104 (dp0 hd (by decide)) (ls0 := [.ref 1]) rfl (Nat.le_of_ble_eq_true rfl) (Nat.le_of_ble_eq_true rfl) rfl (to_rc rfl rfl rfl (g_o hG307 rfl)) rfl ?_))))))
                have j_334 := (CS_f (tg_34 F306) g5)
                have c_335 : M312.2.1 1 9 = (N.2.1 1 9) := (F_n F306 (show ¬ (1 = 1 ∧ (9 = 10 ∨ 9 = 11)) by decide) rfl)
                have t_336 : (M312.2.1 1 9).toInt = (N.2.1 1 9).toInt := congrArg Int32.toInt c_335
                refine E_83 hX (dp1 hd (by decide)) hG307 j_334 (by omega) (t := t) (nn := nn) (a := (N.2.1 1 9).toInt) (fun M341 hG338 F337 p_339 p_340 => ?_)
                have F342 := FR.c F313 F337 (fun a i z => show a = 1 ∧ 6 ≤ i ∧ i ≤ 11 ∨ a = p + 8 by have z : a = 1 ∧ 6 ≤ i ∧ i ≤ 9 := z; omega)
                refine to_go (pc := 107) rw_42_107 ?_
                have c_343 : M341.2.1 p 3 = (N.2.1 p 3) := (F_n F337 (show ¬ (p = 1 ∧ 6 ≤ 3 ∧ 3 ≤ 9) by omega) (F_n F306 (show ¬ (p = 1 ∧ (3 = 10 ∨ 3 = 11)) by omega) rfl))
                have t_344 : (M341.2.1 p 3).toInt = (N.2.1 p 3).toInt := congrArg Int32.toInt c_343
                have j_345 := (PLc_f (fun a i z => F_n F337 (show ¬ (a = 1 ∧ 6 ≤ i ∧ i ≤ 9) by omega) rfl) (F_nl F337 (show ¬ (p = 1 ∧ 6 ≤ 4 ∧ 4 ≤ 9) by omega) rfl) (PLc_f (fun a i z => F_n F306 (show ¬ (a = 1 ∧ (i = 10 ∨ i = 11)) by omega) rfl) (F_nl F306 (show ¬ (p = 1 ∧ (4 = 10 ∨ 4 = 11)) by omega) rfl) g6))
                have j_346 := (CW_f (fun k hk9 => F_nl F337 (show ¬ ((p + 8) = 1 ∧ 6 ≤ k ∧ k ≤ 9) by omega) rfl) (CW_f (fun k hk9 => F_nl F306 (show ¬ ((p + 8) = 1 ∧ (k = 10 ∨ k = 11)) by omega) rfl) g7))
                exact ih M341 (y3 ||| ((1 : Int64) <<< (v325.toInt64 &&& 63))) v332 (.int v302) (.long ((1 : Int64) <<< (v325.toInt64 &&& 63))) (.null) hG338 F342 (by omega) (by omega) (by omega) (by omega) p_339 j_345 j_346 (x_rc_s (fu := (6 - x5.toInt).toNat) (told := x5.toInt) (bits := y3) (b := (N.2.1 1 9).toInt) (by omega) (by omega) (by omega) (by omega) (by omega) (congrArg (fun z => y3 ||| z) (x_bit_e (v := v325) (by omega))) g8) (by omega)
              · refine to_an (pc := 89) rw_42_89 rfl (to_c (pc := 90) rw_42_90 (x := (3 : Int32)) rfl rfl (s_v (pc := 91) rw_42_91 (dp0 hd (by decide)) (ls0 := [.ref 1, .int (3 : Int32)]) rfl (Nat.le_of_ble_eq_true rfl) (Nat.le_of_ble_eq_true rfl) rfl (to_rc rfl rfl rfl (g_o hG307 rfl)) rfl (to_an (pc := 0) rw_84_0 rfl (to_in (pc := 1) rw_84_1 rfl (s_pI (pc := 2) rw_84_2 hG307 rfl (fun M348 W347 => ?_))))))
                have hG349 := g_wf hG307 W347 rfl rfl (by decide)
                have F350 := FR.w F313 W347 (show 1 = 1 ∧ 6 ≤ 10 ∧ 10 ≤ 11 ∨ 1 = p + 8 by omega)
                refine to_an (pc := 5) rw_84_5 rfl (to_an (pc := 6) rw_84_6 rfl ?_)
                have c_351 : M348.2.1 1 9 = (N.2.1 1 9) := (W_n W347 (by decide) (F_n F306 (show ¬ (1 = 1 ∧ (9 = 10 ∨ 9 = 11)) by decide) rfl))
                refine tt_gI (pc := 7) rw_84_7 (g_o hG349 rfl) (v := (N.2.1 1 9)) c_351 (s_pI (pc := 10) rw_84_10 hG349 rfl (fun M353 W352 => ?_))
                have hG354 := g_wf hG349 W352 rfl rfl (by decide)
                have F355 := FR.w F350 W352 (show 1 = 1 ∧ 6 ≤ 11 ∧ 11 ≤ 11 ∨ 1 = p + 8 by omega)
                refine to_c (pc := 13) rw_84_13 (x := (0 : Int32)) rfl rfl (s_r1 (pc := 14) rw_84_14 (A := 0) rfl (by decide) (s_r1 (pc := 94) rw_42_94 (A := 0) rfl (by decide) ?_))
                have j_356 := (CS_f (fun a i z => W_n W352 (tg_32 a i z) rfl) (CS_f (fun a i z => W_n W347 (tg_33 a i z) rfl) (CS_f (tg_34 F306) g5)))
                have j_357 := (PLc_f (fun a i z => W_n W352 (by /-r1,11-/ omega) rfl) (W_j W352 rfl) (PLc_f (fun a i z => W_n W347 (by /-r1,10-/ omega) rfl) (W_j W347 rfl) (PLc_f (fun a i z => F_n F306 (show ¬ (a = 1 ∧ (i = 10 ∨ i = 11)) by omega) rfl) (F_nl F306 (show ¬ (p = 1 ∧ (4 = 10 ∨ 4 = 11)) by omega) rfl) g6)))
                have j_358 := (CW_f (fun k hk9 => W_j W352 rfl) (CW_f (fun k hk9 => W_j W347 rfl) (CW_f (fun k hk9 => F_nl F306 (show ¬ ((p + 8) = 1 ∧ (k = 10 ∨ k = 11)) by omega) rfl) g7)))
                exact h (0 : Int32) M353 hG354 F355 (by decide) (by decide) j_356 j_357 j_358 (fun _ => g8.symm.trans (by first | exact x_rc_n1 (by omega) (by omega) | exact x_rc_n2 (by omega) (by omega) | exact (if g9 : x_kind t nn (N.2.1 1 9).toInt = 3 then x_rc_n1 g9 (by omega) else x_rc_n2 g9 (by omega)))) (fun z => absurd z (by decide))
set_option maxRecDepth 4000 in
set_option maxHeartbeats 0 in
theorem E_42 {X : mm_X} {d : Nat} {M : mm_M} {Q : Option Value → mm_M → Prop} {p : Nat} {f : Int32} {t : Nat → Int} {nn : Int} {a : Int} {sg : x_S} {k : x_K} {nm : Int} (hX : g_X X) (hd : 2 ≤ d) (hG : g_G M) (hp : p = 49 ∨ p = 58) (q1 : CS M t nn) (q2 : (M.2.1 1 9).toInt = a) (q3 : PLc M p sg) (q4 : CW M p sg) (q5 : 0 ≤ f.toInt) (q6 : f.toInt ≤ 7) (q7 : f.toInt < sg.2.1) (q8 : x_row sg 2 f.toInt = 3) (q9 : (M.2.1 p 3).toInt ≤ 11) (h : ∀ (r : Int32) (M1 : mm_M), g_G M1 → FR (md_c42e p) M M1 → (0 ≤ r.toInt) → (r.toInt ≤ 1) → CS M1 t nn → PLc M1 p sg → CW M1 p sg → ((r.toInt = 0 → x_rc t nn sg f.toInt nm k 6 0 0 a = none)) → ((r.toInt = 1 → x_rc t nn sg f.toInt nm k 6 0 0 a = k (M1.2.1 1 9).toInt (x_pushw sg nm f.toInt (M1.2.2.1 (p + 8) sg.2.2.1.toNat).toInt) ∨ x_rc t nn sg f.toInt nm k 6 0 0 a = none ∧ ¬ (x_kind t nn (M1.2.1 1 9).toInt = 4 ∧ x_val t nn (M1.2.1 1 9).toInt = 59))) → Q (some (.int r)) M1) : mm_T X d 42 0 [.ref p, .ref 1, .int f, .null, .null, .null, .null, .null, .null] [] M Q := by
  have F0 : FR (md_c42e p) M M := FR.rf
  have b_359 := g_b hG (a := p) (i := 3) (lo := 0) (hi := 12) (by rcases hp with rfl | rfl <;> rfl) (by rcases hp with rfl | rfl <;> rfl)
  have z_360 := q3.2.1
  have z_361 := q3.2.2.1
  have z_362 := q3.2.2.2.1
  have z_363 := q3.1
  have z_364 := z_363.1
  have z_365 := z_363.2.1
  have z_366 := z_363.2.2.1
  have z_367 := z_363.2.2.2.1
  have z_368 := z_363.2.2.2.2.1
  have z_369 := z_363.2.2.2.2.2.1
  have b_370 := g_b hG (a := p) (i := 2) (lo := 0) (hi := 8) (by rcases hp with rfl | rfl <;> rfl) (by rcases hp with rfl | rfl <;> rfl)
  have z_371 := q3.1.2.2.2.2.2.2.2 f.toInt (by omega) (by omega)
  refine to_cl (pc := 0) rw_42_0 rfl (x := (0 : Int64)) rfl (to_lsn (pc := 1) rw_42_1 (ls2 := [.ref p, .ref 1, .int f, .long (0 : Int64), .null, .null, .null, .null, .null]) rfl rfl (to_c (pc := 2) rw_42_2 (x := (0 : Int32)) rfl rfl (to_is (pc := 3) rw_42_3 (ls2 := [.ref p, .ref 1, .int f, .long (0 : Int64), .null, .int (0 : Int32), .null, .null, .null]) rfl rfl ?_)))
  have k_372 : (0 : Int32).toInt = 0 := rfl
  exact (U_42_0 (p := p) (f := f) (t := t) (nn := nn) (a := a) (sg := sg) (k := k) (nm := nm) hX hd hp q1 q2 q3 q4 q5 q6 q7 q8 q9 h ((10 - (0 : Int32).toInt).toNat + 1)) M (0 : Int64) (0 : Int32) (.null) (.null) (.null) hG F0 (by omega) (by omega) (by omega) (by omega) q1 q3 q4 (by rw [show (M.2.1 1 9).toInt = a by omega]; rfl) (by omega)
set_option maxRecDepth 4000 in
set_option maxHeartbeats 0 in
theorem E_41 {X : mm_X} {d : Nat} {M : mm_M} {Q : Option Value → mm_M → Prop} {p : Nat} {t : Nat → Int} {nn : Int} {a : Int} {sg : x_S} {k : x_K} (hX : g_X X) (hd : 3 ≤ d) (hG : g_G M) (hp : p = 49 ∨ p = 58) (q1 : CS M t nn) (q2 : (M.2.1 1 9).toInt = a) (q3 : PLc M p sg) (q4 : CW M p sg) (h : ∀ (r : Int32) (M1 : mm_M), g_G M1 → FR (md_w41 p) M M1 → (0 ≤ r.toInt) → (r.toInt ≤ 1) → CS M1 t nn → ((r.toInt = 0 → x_word t nn sg (x_ns t nn a) k = none)) → ((r.toInt = 1 → (∃ s2 : x_S, x_word t nn sg (x_ns t nn a) k = k (M1.2.1 1 9).toInt s2 ∧ PLc2 M1 p s2 ∧ s2.2.1 + s2.2.2.1 = sg.2.1 + sg.2.2.1 + 1) ∨ x_word t nn sg (x_ns t nn a) k = none ∧ ¬ (x_kind t nn (M1.2.1 1 9).toInt = 4 ∧ x_val t nn (M1.2.1 1 9).toInt = 59))) → Q (some (.int r)) M1) : mm_T X d 41 0 [.ref p, .ref 1, .null] [] M Q := by
  have F0 : FR (md_w41 p) M M := FR.rf
  have z_1 := q3.2.1
  have z_2 := q3.2.2.1
  have z_3 := q3.2.2.2.1
  have z_4 := q3.1
  have z_5 := z_4.1
  have z_6 := z_4.2.1
  have z_7 := z_4.2.2.1
  have z_8 := z_4.2.2.2.1
  have z_9 := z_4.2.2.2.2.1
  have z_10 := z_4.2.2.2.2.2.1
  have b_11 := g_b hG (a := p) (i := 0) (lo := 10) (hi := 60) (by rcases hp with rfl | rfl <;> rfl) (by rcases hp with rfl | rfl <;> rfl)
  have b_12 := g_b hG (a := p) (i := 2) (lo := 0) (hi := 8) (by rcases hp with rfl | rfl <;> rfl) (by rcases hp with rfl | rfl <;> rfl)
  have b_13 := g_b hG (a := p) (i := 3) (lo := 0) (hi := 12) (by rcases hp with rfl | rfl <;> rfl) (by rcases hp with rfl | rfl <;> rfl)
  have z_14 := x_fn_b (s := sg) (v := x_val t nn (x_ns t nn a)) q3.1
  refine to_an (pc := 0) rw_41_0 rfl (tt_gI (pc := 1) rw_41_1 (g_o hG (by rcases hp with rfl | rfl <;> rfl)) (v := (M.2.1 p 3)) rfl (to_c (pc := 4) rw_41_4 (x := (12 : Int32)) rfl rfl (b_clt (pc := 6) rw_41_6 (A := (M.2.1 p 3).toInt) (B := 12) rfl rfl (fun h15 => ?_) (fun h15 => ?_))))
  · refine to_an (pc := 15) rw_41_15 rfl (s_v (pc := 16) rw_41_16 (dp0 hd (by decide)) (ls0 := [.ref 1]) rfl (Nat.le_of_ble_eq_true rfl) (Nat.le_of_ble_eq_true rfl) rfl (to_rc rfl rfl rfl (g_o hG rfl)) rfl (E_83 hX (dp1 hd (by decide)) hG q1 (by omega) (t := t) (nn := nn) (a := a) (fun M20 hG17 F16 p_18 p_19 => ?_)))
    have F21 := FR.c F0 F16 (fun a i z => show a = 1 ∧ 6 ≤ i ∧ i ≤ 11 ∨ a = p ∧ i = 3 ∨ p + 6 ≤ a ∧ a ≤ p + 8 by have z : a = 1 ∧ 6 ≤ i ∧ i ≤ 9 := z; omega)
    refine to_an (pc := 19) rw_41_19 rfl ?_
    have c_22 := CS_u p_18 (a := (x_ns t nn a)) (by omega)
    unfold x_C at c_22
    refine tt_gI (pc := 20) rw_41_20 (g_o hG17 rfl) (v := (M20.2.1 1 7)) rfl (to_c (pc := 23) rw_41_23 (x := (3 : Int32)) rfl rfl (b_ceq (pc := 24) rw_41_24 (A := (M20.2.1 1 7).toInt) (B := 3) rfl rfl (fun h23 => ?_) (fun h23 => ?_)))
    · refine to_an (pc := 33) rw_41_33 rfl (to_an (pc := 34) rw_41_34 rfl (tt_gI (pc := 35) rw_41_35 (g_o hG17 rfl) (v := (M20.2.1 1 8)) rfl (s_v (pc := 38) rw_41_38 (dp0 hd (by decide)) (ls0 := [.ref p, .int (M20.2.1 1 8)]) rfl (Nat.le_of_ble_eq_true rfl) (Nat.le_of_ble_eq_true rfl) rfl (to_rc rfl rfl rfl (g_o hG17 (by rcases hp with rfl | rfl <;> rfl))) rfl (to_an (pc := 0) rw_52_0 rfl (s_gR (pc := 1) rw_52_1 hG17 (by rcases hp with rfl | rfl <;> rfl) (v := (p + 1)) (by rcases hp with rfl | rfl <;> rfl) (to_an (pc := 4) rw_52_4 rfl ?_))))))
      have c_24 : M20.2.1 p 2 = (M.2.1 p 2) := (F_n F16 (show ¬ (p = 1 ∧ 6 ≤ 2 ∧ 2 ≤ 9) by omega) rfl)
      refine tt_gI (pc := 5) rw_52_5 (g_o hG17 (by rcases hp with rfl | rfl <;> rfl)) (v := (M.2.1 p 2)) c_24 (to_in (pc := 8) rw_52_8 rfl (s_s (pc := 9) rw_52_9 (dp1 hd (by decide)) (ls0 := [.ref (p + 1), .int (M.2.1 p 2), .int (M20.2.1 1 8), .null]) rfl (Nat.le_of_ble_eq_true rfl) (Nat.le_of_ble_eq_true rfl) rfl (to_rcs rfl rfl) rfl ?_))
      have j_25 := (PLc_f (fun a i z => F_n F16 (show ¬ (a = 1 ∧ 6 ≤ i ∧ i ≤ 9) by omega) rfl) (F_nl F16 (show ¬ (p = 1 ∧ 6 ≤ 4 ∧ 4 ≤ 9) by omega) rfl) q3)
      refine E_54f hX (dp2 hd (by decide)) hG17 (by omega) (by omega) (by omega) (f := (p + 1)) (s := (M.2.1 p 2)) (x := (M20.2.1 1 8)) (fun r26 M32 hG28 F27 p_29 p_30 p_31 => ?_)
      have F33 := FR.c F21 F27 (fun a i z => show a = 1 ∧ 6 ≤ i ∧ i ≤ 11 ∨ a = p ∧ i = 3 ∨ p + 6 ≤ a ∧ a ≤ p + 8 by have z : a < 0 := z; omega)
      have z_34 := PLc_n (v := (M20.2.1 1 8).toInt) j_25 (n := (M.2.1 p 2).toInt) (by omega)
      have z_35 := x_fn_v (s := sg) (r := 1) (v := (M20.2.1 1 8).toInt) (w := x_val t nn (x_ns t nn a))
      refine to_r0 (pc := 12) rw_52_12 (to_isn (pc := 41) rw_41_41 (ls2 := [.ref p, .ref 1, .int r26]) rfl rfl (to_an (pc := 42) rw_41_42 rfl (to_in (pc := 43) rw_41_43 rfl (s_v (pc := 44) rw_41_44 (dp0 hd (by decide)) (ls0 := [.ref p, .int r26]) rfl (Nat.le_of_ble_eq_true rfl) (Nat.le_of_ble_eq_true rfl) rfl (to_rc rfl rfl rfl (g_o hG28 (by rcases hp with rfl | rfl <;> rfl))) rfl (to_in (pc := 0) rw_43_0 rfl (b_ilt (pc := 1) rw_43_1 (A := r26.toInt) rfl (fun h36 => ?_) (fun h36 => ?_)))))))
      · refine to_c (pc := 16) rw_43_16 (x := (0 : Int32)) rfl rfl (s_r1 (pc := 17) rw_43_17 (A := 0) rfl (by decide) (b_ieq_t (pc := 47) rw_41_47 (A := 0) rfl (by decide) (to_an (pc := 58) rw_41_58 rfl (to_c (pc := 59) rw_41_59 (x := (4 : Int32)) rfl rfl (s_v (pc := 60) rw_41_60 (dp0 hd (by decide)) (ls0 := [.ref 1, .int (4 : Int32)]) rfl (Nat.le_of_ble_eq_true rfl) (Nat.le_of_ble_eq_true rfl) rfl (to_rc rfl rfl rfl (g_o hG28 rfl)) rfl (to_an (pc := 0) rw_84_0 rfl (to_in (pc := 1) rw_84_1 rfl (s_pI (pc := 2) rw_84_2 hG28 rfl (fun M38 W37 => ?_)))))))))
        have hG39 := g_wf hG28 W37 rfl rfl (by decide)
        have F40 := FR.w F33 W37 (show 1 = 1 ∧ 6 ≤ 10 ∧ 10 ≤ 11 ∨ 1 = p ∧ 10 = 3 ∨ p + 6 ≤ 1 ∧ 1 ≤ p + 8 by omega)
        refine to_an (pc := 5) rw_84_5 rfl (to_an (pc := 6) rw_84_6 rfl ?_)
        have c_41 : M38.2.1 1 9 = (M20.2.1 1 9) := (W_n W37 (by decide) (F_n F27 (show ¬ (1 < 0) by decide) rfl))
        refine tt_gI (pc := 7) rw_84_7 (g_o hG39 rfl) (v := (M20.2.1 1 9)) c_41 (s_pI (pc := 10) rw_84_10 hG39 rfl (fun M43 W42 => ?_))
        have hG44 := g_wf hG39 W42 rfl rfl (by decide)
        have F45 := FR.w F40 W42 (show 1 = 1 ∧ 6 ≤ 11 ∧ 11 ≤ 11 ∨ 1 = p ∧ 11 = 3 ∨ p + 6 ≤ 1 ∧ 1 ≤ p + 8 by omega)
        refine to_c (pc := 13) rw_84_13 (x := (0 : Int32)) rfl rfl (s_r1 (pc := 14) rw_84_14 (A := 0) rfl (by decide) (s_r1 (pc := 63) rw_41_63 (A := 0) rfl (by decide) ?_))
        have k_46 : (0 : Int32).toInt = 0 := rfl
        have j_47 := (CS_f (fun a i z => W_n W42 (tg_32 a i z) rfl) (CS_f (fun a i z => W_n W37 (tg_33 a i z) rfl) (CS_f (tg_28 F27) p_18)))
        exact h (0 : Int32) M43 hG44 F45 (by decide) (by decide) j_47 (fun _ => x_word_n (by omega)) (fun z => absurd z (by decide))
      · refine to_in (pc := 4) rw_43_4 rfl (to_an (pc := 5) rw_43_5 rfl ?_)
        have c_48 : M32.2.1 p 2 = (M.2.1 p 2) := (F_n F27 (show ¬ (p < 0) by omega) c_24)
        refine tt_gI (pc := 6) rw_43_6 (g_o hG28 (by rcases hp with rfl | rfl <;> rfl)) (v := (M.2.1 p 2)) c_48 (b_cge (pc := 9) rw_43_9 (A := r26.toInt) (B := (M.2.1 p 2).toInt) rfl rfl (fun h49 => ?_) (fun h49 => ?_))
        · refine to_c (pc := 16) rw_43_16 (x := (0 : Int32)) rfl rfl (s_r1 (pc := 17) rw_43_17 (A := 0) rfl (by decide) (b_ieq_t (pc := 47) rw_41_47 (A := 0) rfl (by decide) (to_an (pc := 58) rw_41_58 rfl (to_c (pc := 59) rw_41_59 (x := (4 : Int32)) rfl rfl (s_v (pc := 60) rw_41_60 (dp0 hd (by decide)) (ls0 := [.ref 1, .int (4 : Int32)]) rfl (Nat.le_of_ble_eq_true rfl) (Nat.le_of_ble_eq_true rfl) rfl (to_rc rfl rfl rfl (g_o hG28 rfl)) rfl (to_an (pc := 0) rw_84_0 rfl (to_in (pc := 1) rw_84_1 rfl (s_pI (pc := 2) rw_84_2 hG28 rfl (fun M51 W50 => ?_)))))))))
          have hG52 := g_wf hG28 W50 rfl rfl (by decide)
          have F53 := FR.w F33 W50 (show 1 = 1 ∧ 6 ≤ 10 ∧ 10 ≤ 11 ∨ 1 = p ∧ 10 = 3 ∨ p + 6 ≤ 1 ∧ 1 ≤ p + 8 by omega)
          refine to_an (pc := 5) rw_84_5 rfl (to_an (pc := 6) rw_84_6 rfl ?_)
          have c_54 : M51.2.1 1 9 = (M20.2.1 1 9) := (W_n W50 (by decide) (F_n F27 (show ¬ (1 < 0) by decide) rfl))
          refine tt_gI (pc := 7) rw_84_7 (g_o hG52 rfl) (v := (M20.2.1 1 9)) c_54 (s_pI (pc := 10) rw_84_10 hG52 rfl (fun M56 W55 => ?_))
          have hG57 := g_wf hG52 W55 rfl rfl (by decide)
          have F58 := FR.w F53 W55 (show 1 = 1 ∧ 6 ≤ 11 ∧ 11 ≤ 11 ∨ 1 = p ∧ 11 = 3 ∨ p + 6 ≤ 1 ∧ 1 ≤ p + 8 by omega)
          refine to_c (pc := 13) rw_84_13 (x := (0 : Int32)) rfl rfl (s_r1 (pc := 14) rw_84_14 (A := 0) rfl (by decide) (s_r1 (pc := 63) rw_41_63 (A := 0) rfl (by decide) ?_))
          have k_59 : (0 : Int32).toInt = 0 := rfl
          have j_60 := (CS_f (fun a i z => W_n W55 (tg_32 a i z) rfl) (CS_f (fun a i z => W_n W50 (tg_33 a i z) rfl) (CS_f (tg_28 F27) p_18)))
          exact h (0 : Int32) M56 hG57 F58 (by decide) (by decide) j_60 (fun _ => x_word_n (by omega)) (fun z => absurd z (by decide))
        · refine to_c (pc := 12) rw_43_12 (x := (1 : Int32)) rfl rfl (to_go (pc := 13) rw_43_13 (s_r1 (pc := 17) rw_43_17 (A := 1) rfl (by decide) (b_ieq_f (pc := 47) rw_41_47 (A := 1) rfl (by decide) (to_an (pc := 50) rw_41_50 rfl (to_in (pc := 51) rw_41_51 rfl (s_v (pc := 52) rw_41_52 (dp0 hd (by decide)) (ls0 := [.ref p, .int r26]) rfl (Nat.le_of_ble_eq_true rfl) (Nat.le_of_ble_eq_true rfl) rfl (to_rc rfl rfl rfl (g_o hG28 (by rcases hp with rfl | rfl <;> rfl))) rfl (to_an (pc := 0) rw_45_0 rfl (s_gR (pc := 1) rw_45_1 hG28 (by rcases hp with rfl | rfl <;> rfl) (v := (p + 2)) (by rcases hp with rfl | rfl <;> rfl) (to_in (pc := 4) rw_45_4 rfl (s_ial (pc := 5) rw_45_5 hG28 (by rcases hp with rfl | rfl <;> rfl) (n := 8) (by rcases hp with rfl | rfl <;> rfl) (by rcases hp with rfl | rfl <;> rfl) (A := r26.toInt) rfl (by omega) (by omega) (lo := 0) (hi := 3) (by rcases hp with rfl | rfl <;> rfl) (by rcases hp with rfl | rfl <;> rfl) (fun v61 w_62 _ _ => ?_)))))))))))
          have j_63 := (PLc_f (fun a i z => F_n F27 (show ¬ (a < 0) by omega) rfl) (F_nl F27 (show ¬ (p < 0) by omega) rfl) j_25)
          have z_64 := PLc_r j_63 2 (by decide) (by decide) (k := r26.toInt) (by omega) (by omega) w_62
          have z_65 := x_row_v (s := sg) (r := 2) (x := r26.toInt) (y := x_fn sg 1 (x_val t nn (x_ns t nn a)))
          refine to_c (pc := 6) rw_45_6 (x := (3 : Int32)) rfl rfl (b_cne (pc := 7) rw_45_7 (A := v61.toInt) (B := 3) rfl rfl (fun h66 => ?_) (fun h66 => ?_))
          · refine to_c (pc := 14) rw_45_14 (x := (0 : Int32)) rfl rfl (s_r1 (pc := 15) rw_45_15 (A := 0) rfl (by decide) (b_ine_f (pc := 55) rw_41_55 (A := 0) rfl (by decide) (to_an (pc := 58) rw_41_58 rfl (to_c (pc := 59) rw_41_59 (x := (4 : Int32)) rfl rfl (s_v (pc := 60) rw_41_60 (dp0 hd (by decide)) (ls0 := [.ref 1, .int (4 : Int32)]) rfl (Nat.le_of_ble_eq_true rfl) (Nat.le_of_ble_eq_true rfl) rfl (to_rc rfl rfl rfl (g_o hG28 rfl)) rfl (to_an (pc := 0) rw_84_0 rfl (to_in (pc := 1) rw_84_1 rfl (s_pI (pc := 2) rw_84_2 hG28 rfl (fun M68 W67 => ?_)))))))))
            have hG69 := g_wf hG28 W67 rfl rfl (by decide)
            have F70 := FR.w F33 W67 (show 1 = 1 ∧ 6 ≤ 10 ∧ 10 ≤ 11 ∨ 1 = p ∧ 10 = 3 ∨ p + 6 ≤ 1 ∧ 1 ≤ p + 8 by omega)
            refine to_an (pc := 5) rw_84_5 rfl (to_an (pc := 6) rw_84_6 rfl ?_)
            have c_71 : M68.2.1 1 9 = (M20.2.1 1 9) := (W_n W67 (by decide) (F_n F27 (show ¬ (1 < 0) by decide) rfl))
            refine tt_gI (pc := 7) rw_84_7 (g_o hG69 rfl) (v := (M20.2.1 1 9)) c_71 (s_pI (pc := 10) rw_84_10 hG69 rfl (fun M73 W72 => ?_))
            have hG74 := g_wf hG69 W72 rfl rfl (by decide)
            have F75 := FR.w F70 W72 (show 1 = 1 ∧ 6 ≤ 11 ∧ 11 ≤ 11 ∨ 1 = p ∧ 11 = 3 ∨ p + 6 ≤ 1 ∧ 1 ≤ p + 8 by omega)
            refine to_c (pc := 13) rw_84_13 (x := (0 : Int32)) rfl rfl (s_r1 (pc := 14) rw_84_14 (A := 0) rfl (by decide) (s_r1 (pc := 63) rw_41_63 (A := 0) rfl (by decide) ?_))
            have k_76 : (0 : Int32).toInt = 0 := rfl
            have j_77 := (CS_f (fun a i z => W_n W72 (tg_32 a i z) rfl) (CS_f (fun a i z => W_n W67 (tg_33 a i z) rfl) (CS_f (tg_28 F27) p_18)))
            exact h (0 : Int32) M73 hG74 F75 (by decide) (by decide) j_77 (fun _ => x_word_n (by omega)) (fun z => absurd z (by decide))
          · refine to_c (pc := 10) rw_45_10 (x := (1 : Int32)) rfl rfl (to_go (pc := 11) rw_45_11 (s_r1 (pc := 15) rw_45_15 (A := 1) rfl (by decide) (b_ine_t (pc := 55) rw_41_55 (A := 1) rfl (by decide) (to_an (pc := 64) rw_41_64 rfl (s_v (pc := 65) rw_41_65 (dp0 hd (by decide)) (ls0 := [.ref 1]) rfl (Nat.le_of_ble_eq_true rfl) (Nat.le_of_ble_eq_true rfl) rfl (to_rc rfl rfl rfl (g_o hG28 rfl)) rfl ?_)))))
            have j_78 := (CS_f (tg_28 F27) p_18)
            have c_79 : M32.2.1 1 9 = (M20.2.1 1 9) := (F_n F27 (show ¬ (1 < 0) by decide) rfl)
            have t_80 : (M32.2.1 1 9).toInt = (M20.2.1 1 9).toInt := congrArg Int32.toInt c_79
            refine E_83 hX (dp1 hd (by decide)) hG28 j_78 (by omega) (t := t) (nn := nn) (a := (x_ns t nn a)) (fun M85 hG82 F81 p_83 p_84 => ?_)
            have F86 := FR.c F33 F81 (fun a i z => show a = 1 ∧ 6 ≤ i ∧ i ≤ 11 ∨ a = p ∧ i = 3 ∨ p + 6 ≤ a ∧ a ≤ p + 8 by have z : a = 1 ∧ 6 ≤ i ∧ i ≤ 9 := z; omega)
            refine to_an (pc := 68) rw_41_68 rfl (to_an (pc := 69) rw_41_69 rfl (s_v (pc := 70) rw_41_70 (dp0 hd (by decide)) (ls0 := [.ref p, .ref 1]) rfl (Nat.le_of_ble_eq_true rfl) (Nat.le_of_ble_eq_true rfl) rfl (to_rc rfl rfl rfl (g_o hG82 (by rcases hp with rfl | rfl <;> rfl))) rfl ?_))
            have j_87 := (PLc_f (fun a i z => F_n F81 (show ¬ (a = 1 ∧ 6 ≤ i ∧ i ≤ 9) by omega) rfl) (F_nl F81 (show ¬ (p = 1 ∧ 6 ≤ 4 ∧ 4 ≤ 9) by omega) rfl) j_63)
            refine E_34 hX (dp1 hd (by decide)) hG82 hp p_83 (by omega) j_87 (p := p) (t := t) (nn := nn) (a := (x_ns t nn (x_ns t nn a))) (sg := sg) (fun r88 M96 hG90 F89 p_91 p_92 p_93 p_94 p_95 => ?_)
            have F97 := FR.c F86 F89 (fun a i z => show a = 1 ∧ 6 ≤ i ∧ i ≤ 11 ∨ a = p ∧ i = 3 ∨ p + 6 ≤ a ∧ a ≤ p + 8 by have z : a = 1 ∧ (i = 10 ∨ i = 11) := z; omega)
            rcases (show r88.toInt = 0 ∨ r88.toInt = 1 by omega) with h98 | h98
            · skip
              have p_99 := p_95 (by omega)
              clear p_93 p_94 p_95
              refine b_ine_f (pc := 73) rw_41_73 (A := r88.toInt) rfl (by omega) (to_c (pc := 76) rw_41_76 (x := (0 : Int32)) rfl rfl (s_r1 (pc := 77) rw_41_77 (A := 0) rfl (by decide) ?_))
              have k_100 : (0 : Int32).toInt = 0 := rfl
              have j_101 := (CS_f (tg_34 F89) p_83)
              exact h (0 : Int32) M96 hG90 F97 (by decide) (by decide) j_101 (fun _ => x_word_n (by omega)) (fun z => absurd z (by decide))
            · skip
              have p_102 := p_93 (by omega)
              have p_103 := p_94 (by omega)
              clear p_93 p_94 p_95
              refine b_ine_t (pc := 73) rw_41_73 (A := r88.toInt) rfl (by omega) (to_an (pc := 78) rw_41_78 rfl (s_gR (pc := 79) rw_41_79 hG90 (by rcases hp with rfl | rfl <;> rfl) (v := (p + 6)) (by rcases hp with rfl | rfl <;> rfl) (to_an (pc := 82) rw_41_82 rfl ?_)))
              have c_104 : M96.2.1 p 3 = (M.2.1 p 3) := (F_n F89 (show ¬ (p = 1 ∧ (3 = 10 ∨ 3 = 11)) by omega) (F_n F81 (show ¬ (p = 1 ∧ 6 ≤ 3 ∧ 3 ≤ 9) by omega) (F_n F27 (show ¬ (p < 0) by omega) (F_n F16 (show ¬ (p = 1 ∧ 6 ≤ 3 ∧ 3 ≤ 9) by omega) rfl))))
              refine tt_gI (pc := 83) rw_41_83 (g_o hG90 (by rcases hp with rfl | rfl <;> rfl)) (v := (M.2.1 p 3)) c_104 (to_an (pc := 86) rw_41_86 rfl ?_)
              have c_105 : M96.2.1 1 8 = (M85.2.1 1 8) := (F_n F89 (show ¬ (1 = 1 ∧ (8 = 10 ∨ 8 = 11)) by decide) rfl)
              refine tt_gI (pc := 87) rw_41_87 (g_o hG90 rfl) (v := (M85.2.1 1 8)) c_105 (s_ias (pc := 90) rw_41_90 hG90 (by rcases hp with rfl | rfl <;> rfl) (n := 12) (by rcases hp with rfl | rfl <;> rfl) (A := (M.2.1 p 3).toInt) rfl (by omega) (by omega) (fun M107 W106 => ?_))
              have hG108 := g_wf hG90 W106 (by rcases hp with rfl | rfl <;> rfl) (by rcases hp with rfl | rfl <;> rfl) (by omega)
              have F109 := FR.w F97 W106 (show (p + 6) = 1 ∧ 6 ≤ ((M.2.1 p 3).toInt).toNat ∧ ((M.2.1 p 3).toInt).toNat ≤ 11 ∨ (p + 6) = p ∧ ((M.2.1 p 3).toInt).toNat = 3 ∨ p + 6 ≤ (p + 6) ∧ (p + 6) ≤ p + 8 by omega)
              refine to_an (pc := 91) rw_41_91 rfl (s_gR (pc := 92) rw_41_92 hG108 (by rcases hp with rfl | rfl <;> rfl) (v := (p + 7)) (by rcases hp with rfl | rfl <;> rfl) (to_an (pc := 95) rw_41_95 rfl ?_))
              have c_110 : M107.2.1 p 3 = (M.2.1 p 3) := (W_n W106 (by omega) c_104)
              refine tt_gI (pc := 96) rw_41_96 (g_o hG108 (by rcases hp with rfl | rfl <;> rfl)) (v := (M.2.1 p 3)) c_110 (to_in (pc := 99) rw_41_99 rfl (s_ias (pc := 100) rw_41_100 hG108 (by rcases hp with rfl | rfl <;> rfl) (n := 12) (by rcases hp with rfl | rfl <;> rfl) (A := (M.2.1 p 3).toInt) rfl (by omega) (by omega) (fun M112 W111 => ?_)))
              have hG113 := g_w hG108 W111 (A := r26.toInt) rfl (lo := 0) (hi := 7) (by rcases hp with rfl | rfl <;> rfl) (by rcases hp with rfl | rfl <;> rfl) (by omega) (by omega)
              have F114 := FR.w F109 W111 (show (p + 7) = 1 ∧ 6 ≤ ((M.2.1 p 3).toInt).toNat ∧ ((M.2.1 p 3).toInt).toNat ≤ 11 ∨ (p + 7) = p ∧ ((M.2.1 p 3).toInt).toNat = 3 ∨ p + 6 ≤ (p + 7) ∧ (p + 7) ≤ p + 8 by omega)
              refine to_an (pc := 101) rw_41_101 rfl (s_v (pc := 102) rw_41_102 (dp0 hd (by decide)) (ls0 := [.ref 1]) rfl (Nat.le_of_ble_eq_true rfl) (Nat.le_of_ble_eq_true rfl) rfl (to_rc rfl rfl rfl (g_o hG113 rfl)) rfl ?_)
              have j_115 := (CS_f (fun a i z => W_n W111 (by omega) rfl) (CS_f (fun a i z => W_n W106 (by omega) rfl) (CS_f (tg_34 F89) p_83)))
              have c_116 : M112.2.1 1 9 = (M85.2.1 1 9) := (W_n W111 (by omega) (W_n W106 (by omega) (F_n F89 (show ¬ (1 = 1 ∧ (9 = 10 ∨ 9 = 11)) by decide) rfl)))
              have t_117 : (M112.2.1 1 9).toInt = (M85.2.1 1 9).toInt := congrArg Int32.toInt c_116
              refine E_83 hX (dp1 hd (by decide)) hG113 j_115 (by omega) (t := t) (nn := nn) (a := (x_ns t nn (x_ns t nn a))) (fun M122 hG119 F118 p_120 p_121 => ?_)
              have F123 := FR.c F114 F118 (fun a i z => show a = 1 ∧ 6 ≤ i ∧ i ≤ 11 ∨ a = p ∧ i = 3 ∨ p + 6 ≤ a ∧ a ≤ p + 8 by have z : a = 1 ∧ 6 ≤ i ∧ i ≤ 9 := z; omega)
              refine to_an (pc := 105) rw_41_105 rfl (to_an (pc := 106) rw_41_106 rfl (to_in (pc := 107) rw_41_107 rfl (s_v (pc := 108) rw_41_108 (dp0 hd (by decide)) (ls0 := [.ref p, .ref 1, .int r26, .null, .null, .null, .null, .null, .null]) rfl (Nat.le_of_ble_eq_true rfl) (Nat.le_of_ble_eq_true rfl) rfl (to_rc rfl rfl rfl (g_o hG119 (by rcases hp with rfl | rfl <;> rfl))) rfl ?_)))
              have j_124 := (PLc_f (fun a i z => F_n F118 (show ¬ (a = 1 ∧ 6 ≤ i ∧ i ≤ 9) by omega) rfl) (F_nl F118 (show ¬ (p = 1 ∧ 6 ≤ 4 ∧ 4 ≤ 9) by omega) rfl) (PLc_f (fun a i z => W_n W111 (by omega) rfl) (W_j W111 rfl) (PLc_f (fun a i z => W_n W106 (by omega) rfl) (W_j W106 rfl) (PLc_f (fun a i z => F_n F89 (show ¬ (a = 1 ∧ (i = 10 ∨ i = 11)) by omega) rfl) (F_nl F89 (show ¬ (p = 1 ∧ (4 = 10 ∨ 4 = 11)) by omega) rfl) j_87))))
              have j_125 := (CW_f (fun k hk9 => F_nl F118 (show ¬ ((p + 8) = 1 ∧ 6 ≤ k ∧ k ≤ 9) by omega) rfl) (CW_f (fun k hk9 => W_j W111 rfl) (CW_f (fun k hk9 => W_j W106 rfl) (CW_f (fun k hk9 => F_nl F89 (show ¬ ((p + 8) = 1 ∧ (k = 10 ∨ k = 11)) by omega) rfl) (CW_f (fun k hk9 => F_nl F81 (show ¬ ((p + 8) = 1 ∧ 6 ≤ k ∧ k ≤ 9) by omega) rfl) (CW_f (fun k hk9 => F_nl F27 (show ¬ ((p + 8) < 0) by omega) rfl) (CW_f (fun k hk9 => F_nl F16 (show ¬ ((p + 8) = 1 ∧ 6 ≤ k ∧ k ≤ 9) by omega) rfl) q4)))))))
              have c_126 : M122.2.1 p 3 = (M.2.1 p 3) := (F_n F118 (show ¬ (p = 1 ∧ 6 ≤ 3 ∧ 3 ≤ 9) by omega) (W_n W111 (by omega) c_110))
              have t_127 : (M122.2.1 p 3).toInt = (M.2.1 p 3).toInt := congrArg Int32.toInt c_126
              refine E_42 hX (dp1 hd (by decide)) hG119 hp p_120 (by omega) j_124 j_125 (by omega) (by omega) (by omega) (by omega) (by omega) (p := p) (f := r26) (t := t) (nn := nn) (a := (x_ns t nn (x_ns t nn (x_ns t nn a)))) (sg := sg) (k := k) (nm := (x_val t nn (x_ns t nn (x_ns t nn a)))) (fun r128 M138 hG130 F129 p_131 p_132 p_133 p_134 p_135 p_136 p_137 => ?_)
              have F139 := FR.c F123 F129 (fun a i z => show a = 1 ∧ 6 ≤ i ∧ i ≤ 11 ∨ a = p ∧ i = 3 ∨ p + 6 ≤ a ∧ a ≤ p + 8 by have z : a = 1 ∧ 6 ≤ i ∧ i ≤ 11 ∨ a = p + 8 := z; omega)
              rcases (show r128.toInt = 0 ∨ r128.toInt = 1 by omega) with h140 | h140
              · skip
                have p_141 := p_136 (by omega)
                clear p_136 p_137
                refine b_ine_f (pc := 111) rw_41_111 (A := r128.toInt) rfl (by omega) (to_c (pc := 114) rw_41_114 (x := (0 : Int32)) rfl rfl (s_r1 (pc := 115) rw_41_115 (A := 0) rfl (by decide) ?_))
                have k_142 : (0 : Int32).toInt = 0 := rfl
                have z_143 : x_word t nn sg (x_ns t nn a) k = x_rc t nn sg r26.toInt (x_val t nn (x_ns t nn (x_ns t nn a))) k 6 0 0 (x_ns t nn (x_ns t nn (x_ns t nn a))) := x_word_y (by omega) (by omega)
                exact h (0 : Int32) M138 hG130 F139 (by decide) (by decide) p_133 (fun _ => z_143.trans p_141) (fun z => absurd z (by decide))
              · skip
                have p_144 := p_137 (by omega)
                clear p_136 p_137
                refine b_ine_t (pc := 111) rw_41_111 (A := r128.toInt) rfl (by omega) (to_an (pc := 116) rw_41_116 rfl (to_dupr (pc := 117) rw_41_117 ?_))
                have c_145 : M138.2.1 p 3 = (M.2.1 p 3) := (F_n F129 (show ¬ (p = 1 ∧ 6 ≤ 3 ∧ 3 ≤ 11 ∨ p = p + 8) by omega) c_126)
                refine tt_gI (pc := 118) rw_41_118 (g_o hG130 (by rcases hp with rfl | rfl <;> rfl)) (v := (M.2.1 p 3)) c_145 (to_c (pc := 121) rw_41_121 (x := (1 : Int32)) rfl rfl (s_add (pc := 122) rw_41_122 (A := (M.2.1 p 3).toInt) (B := 1) rfl rfl (by omega) (fun v146 e147 => ?_)))
                have r_148 : (M138.2.1 (p + 6) sg.2.2.1.toNat).toInt = (M85.2.1 1 8).toInt := by rw [show sg.2.2.1.toNat = ((M.2.1 p 3).toInt).toNat by omega, show M138.2.1 (p + 6) ((M.2.1 p 3).toInt).toNat = (M85.2.1 1 8) from (F_n F129 (show ¬ ((p + 6) = 1 ∧ 6 ≤ ((M.2.1 p 3).toInt).toNat ∧ ((M.2.1 p 3).toInt).toNat ≤ 11 ∨ (p + 6) = p + 8) by omega) (F_n F118 (show ¬ ((p + 6) = 1 ∧ 6 ≤ ((M.2.1 p 3).toInt).toNat ∧ ((M.2.1 p 3).toInt).toNat ≤ 9) by omega) (W_n W111 (by omega) (W_e W106))))]
                have r_149 : (M138.2.1 (p + 7) sg.2.2.1.toNat).toInt = r26.toInt := by rw [show sg.2.2.1.toNat = ((M.2.1 p 3).toInt).toNat by omega, show M138.2.1 (p + 7) ((M.2.1 p 3).toInt).toNat = r26 from (F_n F129 (show ¬ ((p + 7) = 1 ∧ 6 ≤ ((M.2.1 p 3).toInt).toNat ∧ ((M.2.1 p 3).toInt).toNat ≤ 11 ∨ (p + 7) = p + 8) by omega) (F_n F118 (show ¬ ((p + 7) = 1 ∧ 6 ≤ ((M.2.1 p 3).toInt).toNat ∧ ((M.2.1 p 3).toInt).toNat ≤ 9) by omega) (W_e W111)))]
                refine s_pI (pc := 123) rw_41_123 hG130 (by rcases hp with rfl | rfl <;> rfl) (fun M151 W150 => ?_)
                have hG152 := g_w hG130 W150 (A := v146.toInt) rfl (lo := 0) (hi := 12) (by rcases hp with rfl | rfl <;> rfl) (by rcases hp with rfl | rfl <;> rfl) (by omega) (by omega)
                have F153 := FR.w F139 W150 (show p = 1 ∧ 6 ≤ 3 ∧ 3 ≤ 11 ∨ p = p ∧ 3 = 3 ∨ p + 6 ≤ p ∧ p ≤ p + 8 by omega)
                refine to_c (pc := 126) rw_41_126 (x := (1 : Int32)) rfl rfl (s_r1 (pc := 127) rw_41_127 (A := 1) rfl (by decide) ?_)
                have k_154 : (1 : Int32).toInt = 1 := rfl
                have j_155 := (CS_f (fun a i z => W_n W150 (by omega) rfl) p_133)
                have c_156 : M151.2.1 1 9 = (M138.2.1 1 9) := (W_n W150 (by omega) rfl)
                have t_157 : (M151.2.1 1 9).toInt = (M138.2.1 1 9).toInt := congrArg Int32.toInt c_156
                have z_158 : x_word t nn sg (x_ns t nn a) k = x_rc t nn sg r26.toInt (x_val t nn (x_ns t nn (x_ns t nn a))) k 6 0 0 (x_ns t nn (x_ns t nn (x_ns t nn a))) := x_word_y (by omega) (by omega)
                have z_159 := (⟨PLc_wp (nm := x_val t nn (x_ns t nn (x_ns t nn a))) (f := r26.toInt) (b := (M138.2.2.1 (p + 8) sg.2.2.1.toNat).toInt) p_134 W150 (by omega) (by omega) (by omega) (r_148.trans (by omega)) (r_149.trans (by omega)), CW_wp p_135 W150 rfl⟩ : PLc2 _ _ _)
                exact h (1 : Int32) M151 hG152 F153 (by decide) (by decide) j_155 (fun z => absurd z (by decide)) (fun _ => by rw [show (M151.2.1 1 9).toInt = (M138.2.1 1 9).toInt by omega, z_158]; rcases p_144 with h9 | h9; exact Or.inl ⟨_, h9, z_159, (by show sg.2.1 + (sg.2.2.1 + 1) = _; omega)⟩; exact Or.inr h9)
    · refine to_an (pc := 27) rw_41_27 rfl (to_c (pc := 28) rw_41_28 (x := (1 : Int32)) rfl rfl (s_v (pc := 29) rw_41_29 (dp0 hd (by decide)) (ls0 := [.ref 1, .int (1 : Int32)]) rfl (Nat.le_of_ble_eq_true rfl) (Nat.le_of_ble_eq_true rfl) rfl (to_rc rfl rfl rfl (g_o hG17 rfl)) rfl (to_an (pc := 0) rw_84_0 rfl (to_in (pc := 1) rw_84_1 rfl (s_pI (pc := 2) rw_84_2 hG17 rfl (fun M161 W160 => ?_))))))
      have hG162 := g_wf hG17 W160 rfl rfl (by decide)
      have F163 := FR.w F21 W160 (show 1 = 1 ∧ 6 ≤ 10 ∧ 10 ≤ 11 ∨ 1 = p ∧ 10 = 3 ∨ p + 6 ≤ 1 ∧ 1 ≤ p + 8 by omega)
      refine to_an (pc := 5) rw_84_5 rfl (to_an (pc := 6) rw_84_6 rfl ?_)
      have c_164 : M161.2.1 1 9 = (M20.2.1 1 9) := (W_n W160 (by decide) rfl)
      refine tt_gI (pc := 7) rw_84_7 (g_o hG162 rfl) (v := (M20.2.1 1 9)) c_164 (s_pI (pc := 10) rw_84_10 hG162 rfl (fun M166 W165 => ?_))
      have hG167 := g_wf hG162 W165 rfl rfl (by decide)
      have F168 := FR.w F163 W165 (show 1 = 1 ∧ 6 ≤ 11 ∧ 11 ≤ 11 ∨ 1 = p ∧ 11 = 3 ∨ p + 6 ≤ 1 ∧ 1 ≤ p + 8 by omega)
      refine to_c (pc := 13) rw_84_13 (x := (0 : Int32)) rfl rfl (s_r1 (pc := 14) rw_84_14 (A := 0) rfl (by decide) (s_r1 (pc := 32) rw_41_32 (A := 0) rfl (by decide) ?_))
      have k_169 : (0 : Int32).toInt = 0 := rfl
      have j_170 := (CS_f (fun a i z => W_n W165 (tg_32 a i z) rfl) (CS_f (fun a i z => W_n W160 (tg_33 a i z) rfl) p_18))
      exact h (0 : Int32) M166 hG167 F168 (by decide) (by decide) j_170 (fun _ => x_word_n (by omega)) (fun z => absurd z (by decide))
  · refine to_an (pc := 9) rw_41_9 rfl (to_c (pc := 10) rw_41_10 (x := (2 : Int32)) rfl rfl (s_v (pc := 11) rw_41_11 (dp0 hd (by decide)) (ls0 := [.ref 1, .int (2 : Int32)]) rfl (Nat.le_of_ble_eq_true rfl) (Nat.le_of_ble_eq_true rfl) rfl (to_rc rfl rfl rfl (g_o hG rfl)) rfl (to_an (pc := 0) rw_84_0 rfl (to_in (pc := 1) rw_84_1 rfl (s_pI (pc := 2) rw_84_2 hG rfl (fun M172 W171 => ?_))))))
    have hG173 := g_wf hG W171 rfl rfl (by decide)
    have F174 := FR.w F0 W171 (show 1 = 1 ∧ 6 ≤ 10 ∧ 10 ≤ 11 ∨ 1 = p ∧ 10 = 3 ∨ p + 6 ≤ 1 ∧ 1 ≤ p + 8 by omega)
    refine to_an (pc := 5) rw_84_5 rfl (to_an (pc := 6) rw_84_6 rfl ?_)
    have c_175 : M172.2.1 1 9 = (M.2.1 1 9) := (W_n W171 (by decide) rfl)
    refine tt_gI (pc := 7) rw_84_7 (g_o hG173 rfl) (v := (M.2.1 1 9)) c_175 (s_pI (pc := 10) rw_84_10 hG173 rfl (fun M177 W176 => ?_))
    have hG178 := g_wf hG173 W176 rfl rfl (by decide)
    have F179 := FR.w F174 W176 (show 1 = 1 ∧ 6 ≤ 11 ∧ 11 ≤ 11 ∨ 1 = p ∧ 11 = 3 ∨ p + 6 ≤ 1 ∧ 1 ≤ p + 8 by omega)
    refine to_c (pc := 13) rw_84_13 (x := (0 : Int32)) rfl rfl (s_r1 (pc := 14) rw_84_14 (A := 0) rfl (by decide) (s_r1 (pc := 14) rw_41_14 (A := 0) rfl (by decide) ?_))
    have k_180 : (0 : Int32).toInt = 0 := rfl
    have j_181 := (CS_f (fun a i z => W_n W176 (tg_32 a i z) rfl) (CS_f (fun a i z => W_n W171 (tg_33 a i z) rfl) q1))
    exact h (0 : Int32) M177 hG178 F179 (by decide) (by decide) j_181 (fun _ => x_word_n (by omega)) (fun z => absurd z (by decide))
end
section
set_option maxRecDepth 4000 in
set_option maxHeartbeats 0 in
theorem E_31 {X : mm_X} {d : Nat} {M : mm_M} {Q : Option Value → mm_M → Prop} {p : Nat} {t : Nat → Int} {nn : Int} {a : Int} {sg : x_S} {k : x_K} {L : Int} (hX : g_X X) (hd : 4 ≤ d) (hG : g_G M) (hp : p = 49 ∨ p = 58) (q1 : CS M t nn) (q2 : (M.2.1 1 9).toInt = a) (q3 : PLc M p sg) (q4 : CW M p sg) (q5 : (M.2.1 p 1).toInt = L) (q6 : 0 ≤ L) (h : ∀ (r : Int32) (M1 : mm_M), g_G M1 → FR (md_l31 p) M M1 → (0 ≤ r.toInt) → (r.toInt ≤ 1) → CS M1 t nn → ((r.toInt = 0 → x_line t nn L sg a k = none)) → ((r.toInt = 1 → LOK t nn (x_line t nn L sg a k) k M1 p L sg)) → Q (some (.int r)) M1) : mm_T X d 31 0 [.ref p, .ref 1] [] M Q := by
  have F0 : FR (md_l31 p) M M := FR.rf
  have z_1 := q3.2.1
  have z_2 := q3.2.2.1
  have z_3 := q3.2.2.2.1
  have z_4 := q3.1
  have z_5 := z_4.1
  have z_6 := z_4.2.1
  have z_7 := z_4.2.2.1
  have z_8 := z_4.2.2.2.1
  have z_9 := z_4.2.2.2.2.1
  have z_10 := z_4.2.2.2.2.2.1
  have b_11 := g_b hG (a := p) (i := 0) (lo := 10) (hi := 60) (by rcases hp with rfl | rfl <;> rfl) (by rcases hp with rfl | rfl <;> rfl)
  have b_12 := g_b hG (a := p) (i := 2) (lo := 0) (hi := 8) (by rcases hp with rfl | rfl <;> rfl) (by rcases hp with rfl | rfl <;> rfl)
  have b_13 := g_b hG (a := p) (i := 3) (lo := 0) (hi := 12) (by rcases hp with rfl | rfl <;> rfl) (by rcases hp with rfl | rfl <;> rfl)
  have z_14 := x_kx_w (x_val t nn a)
  refine to_an (pc := 0) rw_31_0 rfl (to_c (pc := 1) rw_31_1 (x := (284563040 : Int32)) rfl rfl (s_v (pc := 3) rw_31_3 (dp0 hd (by decide)) (ls0 := [.ref 1, .int (284563040 : Int32)]) rfl (Nat.le_of_ble_eq_true rfl) (Nat.le_of_ble_eq_true rfl) rfl (to_rc rfl rfl rfl (g_o hG rfl)) rfl ?_))
  have k_15 : (284563040 : Int32).toInt = 284563040 := rfl
  refine E_86 hX (dp1 hd (by decide)) hG q1 (by omega) (x := (284563040 : Int32)) (t := t) (nn := nn) (a := a) (fun r16 M23 hG18 F17 p_19 p_20 p_21 p_22 => ?_)
  have F24 := FR.c F0 F17 (fun a i z => show a = 1 ∧ 6 ≤ i ∧ i ≤ 11 ∨ a = p ∧ ¬ i = 1 ∨ p + 1 ≤ a ∧ a ≤ p + 8 by have z : a < 0 := z; omega)
  rcases (show r16.toInt = 0 ∨ r16.toInt = 1 by omega) with h25 | h25
  · skip
    have p_26 := p_22 (by omega)
    clear p_21 p_22
    refine b_ieq_t (pc := 6) rw_31_6 (A := r16.toInt) rfl (by omega) (to_an (pc := 15) rw_31_15 rfl ?_)
    have c_27 : M23.2.1 p 1 = (M.2.1 p 1) := (F_n F17 (show ¬ (p < 0) by omega) rfl)
    refine tt_gI (pc := 16) rw_31_16 (g_o hG18 (by rcases hp with rfl | rfl <;> rfl)) (v := (M.2.1 p 1)) c_27 (b_ile (pc := 19) rw_31_19 (A := (M.2.1 p 1).toInt) rfl (fun h28 => ?_) (fun h28 => ?_))
    · refine to_an (pc := 37) rw_31_37 rfl (tt_gI (pc := 38) rw_31_38 (g_o hG18 (by rcases hp with rfl | rfl <;> rfl)) (v := (M.2.1 p 1)) c_27 (b_ile_t (pc := 41) rw_31_41 (A := (M.2.1 p 1).toInt) rfl (by omega) (to_an (pc := 59) rw_31_59 rfl (to_c (pc := 60) rw_31_60 (x := (1 : Int32)) rfl rfl (s_v (pc := 61) rw_31_61 (dp0 hd (by decide)) (ls0 := [.ref 1, .int (1 : Int32)]) rfl (Nat.le_of_ble_eq_true rfl) (Nat.le_of_ble_eq_true rfl) rfl (to_rc rfl rfl rfl (g_o hG18 rfl)) rfl (to_an (pc := 0) rw_84_0 rfl (to_in (pc := 1) rw_84_1 rfl (s_pI (pc := 2) rw_84_2 hG18 rfl (fun M30 W29 => ?_)))))))))
      have hG31 := g_wf hG18 W29 rfl rfl (by decide)
      have F32 := FR.w F24 W29 (show 1 = 1 ∧ 6 ≤ 10 ∧ 10 ≤ 11 ∨ 1 = p ∧ ¬ 10 = 1 ∨ p + 1 ≤ 1 ∧ 1 ≤ p + 8 by omega)
      refine to_an (pc := 5) rw_84_5 rfl (to_an (pc := 6) rw_84_6 rfl ?_)
      have c_33 : M30.2.1 1 9 = (M.2.1 1 9) := (W_n W29 (by decide) (F_n F17 (show ¬ (1 < 0) by decide) rfl))
      refine tt_gI (pc := 7) rw_84_7 (g_o hG31 rfl) (v := (M.2.1 1 9)) c_33 (s_pI (pc := 10) rw_84_10 hG31 rfl (fun M35 W34 => ?_))
      have hG36 := g_wf hG31 W34 rfl rfl (by decide)
      have F37 := FR.w F32 W34 (show 1 = 1 ∧ 6 ≤ 11 ∧ 11 ≤ 11 ∨ 1 = p ∧ ¬ 11 = 1 ∨ p + 1 ≤ 1 ∧ 1 ≤ p + 8 by omega)
      refine to_c (pc := 13) rw_84_13 (x := (0 : Int32)) rfl rfl (s_r1 (pc := 14) rw_84_14 (A := 0) rfl (by decide) (s_r1 (pc := 64) rw_31_64 (A := 0) rfl (by decide) ?_))
      have k_38 : (0 : Int32).toInt = 0 := rfl
      have j_39 := (CS_f (fun a i z => W_n W34 (tg_32 a i z) rfl) (CS_f (fun a i z => W_n W29 (tg_33 a i z) rfl) (CS_f (tg_28 F17) q1)))
      exact h (0 : Int32) M35 hG36 F37 (by decide) (by decide) j_39 (fun _ => by first | exact x_line_n (by omega) | exact x_line_t (by omega) (by omega) | exact (if g9 : x_kind t nn a = 1 then x_line_t (by omega) (by omega) else x_line_n (by omega)) | exact (x_line_h (by omega) (by omega) (by omega)).trans (x_holes_n (by omega))) (fun z => by exfalso; omega)
    · refine to_an (pc := 22) rw_31_22 rfl (to_c (pc := 23) rw_31_23 (x := (210940032 : Int32)) rfl rfl (s_v (pc := 25) rw_31_25 (dp0 hd (by decide)) (ls0 := [.ref 1, .int (210940032 : Int32)]) rfl (Nat.le_of_ble_eq_true rfl) (Nat.le_of_ble_eq_true rfl) rfl (to_rc rfl rfl rfl (g_o hG18 rfl)) rfl ?_))
      have k_40 : (210940032 : Int32).toInt = 210940032 := rfl
      have j_41 := (CS_f (tg_28 F17) q1)
      have c_42 : M23.2.1 1 9 = (M.2.1 1 9) := (F_n F17 (show ¬ (1 < 0) by decide) rfl)
      have t_43 : (M23.2.1 1 9).toInt = (M.2.1 1 9).toInt := congrArg Int32.toInt c_42
      refine E_86 hX (dp1 hd (by decide)) hG18 j_41 (by omega) (x := (210940032 : Int32)) (t := t) (nn := nn) (a := a) (fun r44 M51 hG46 F45 p_47 p_48 p_49 p_50 => ?_)
      have F52 := FR.c F24 F45 (fun a i z => show a = 1 ∧ 6 ≤ i ∧ i ≤ 11 ∨ a = p ∧ ¬ i = 1 ∨ p + 1 ≤ a ∧ a ≤ p + 8 by have z : a < 0 := z; omega)
      rcases (show r44.toInt = 0 ∨ r44.toInt = 1 by omega) with h53 | h53
      · skip
        have p_54 := p_50 (by omega)
        clear p_49 p_50
        refine b_ieq_t (pc := 28) rw_31_28 (A := r44.toInt) rfl (by omega) (to_an (pc := 37) rw_31_37 rfl ?_)
        have c_55 : M51.2.1 p 1 = (M.2.1 p 1) := (F_n F45 (show ¬ (p < 0) by omega) c_27)
        refine tt_gI (pc := 38) rw_31_38 (g_o hG46 (by rcases hp with rfl | rfl <;> rfl)) (v := (M.2.1 p 1)) c_55 (b_ile_f (pc := 41) rw_31_41 (A := (M.2.1 p 1).toInt) rfl (by omega) (to_an (pc := 44) rw_31_44 rfl (to_c (pc := 45) rw_31_45 (x := (788074496 : Int32)) rfl rfl (s_v (pc := 47) rw_31_47 (dp0 hd (by decide)) (ls0 := [.ref 1, .int (788074496 : Int32)]) rfl (Nat.le_of_ble_eq_true rfl) (Nat.le_of_ble_eq_true rfl) rfl (to_rc rfl rfl rfl (g_o hG46 rfl)) rfl ?_))))
        have k_56 : (788074496 : Int32).toInt = 788074496 := rfl
        have j_57 := (CS_f (tg_28 F45) j_41)
        have c_58 : M51.2.1 1 9 = (M.2.1 1 9) := (F_n F45 (show ¬ (1 < 0) by decide) c_42)
        have t_59 : (M51.2.1 1 9).toInt = (M.2.1 1 9).toInt := congrArg Int32.toInt c_58
        refine E_86 hX (dp1 hd (by decide)) hG46 j_57 (by omega) (x := (788074496 : Int32)) (t := t) (nn := nn) (a := a) (fun r60 M67 hG62 F61 p_63 p_64 p_65 p_66 => ?_)
        have F68 := FR.c F52 F61 (fun a i z => show a = 1 ∧ 6 ≤ i ∧ i ≤ 11 ∨ a = p ∧ ¬ i = 1 ∨ p + 1 ≤ a ∧ a ≤ p + 8 by have z : a < 0 := z; omega)
        rcases (show r60.toInt = 0 ∨ r60.toInt = 1 by omega) with h69 | h69
        · skip
          have p_70 := p_66 (by omega)
          clear p_65 p_66
          refine b_ieq_t (pc := 50) rw_31_50 (A := r60.toInt) rfl (by omega) (to_an (pc := 59) rw_31_59 rfl (to_c (pc := 60) rw_31_60 (x := (1 : Int32)) rfl rfl (s_v (pc := 61) rw_31_61 (dp0 hd (by decide)) (ls0 := [.ref 1, .int (1 : Int32)]) rfl (Nat.le_of_ble_eq_true rfl) (Nat.le_of_ble_eq_true rfl) rfl (to_rc rfl rfl rfl (g_o hG62 rfl)) rfl (to_an (pc := 0) rw_84_0 rfl (to_in (pc := 1) rw_84_1 rfl (s_pI (pc := 2) rw_84_2 hG62 rfl (fun M72 W71 => ?_)))))))
          have hG73 := g_wf hG62 W71 rfl rfl (by decide)
          have F74 := FR.w F68 W71 (show 1 = 1 ∧ 6 ≤ 10 ∧ 10 ≤ 11 ∨ 1 = p ∧ ¬ 10 = 1 ∨ p + 1 ≤ 1 ∧ 1 ≤ p + 8 by omega)
          refine to_an (pc := 5) rw_84_5 rfl (to_an (pc := 6) rw_84_6 rfl ?_)
          have c_75 : M72.2.1 1 9 = (M.2.1 1 9) := (W_n W71 (by decide) (F_n F61 (show ¬ (1 < 0) by decide) c_58))
          refine tt_gI (pc := 7) rw_84_7 (g_o hG73 rfl) (v := (M.2.1 1 9)) c_75 (s_pI (pc := 10) rw_84_10 hG73 rfl (fun M77 W76 => ?_))
          have hG78 := g_wf hG73 W76 rfl rfl (by decide)
          have F79 := FR.w F74 W76 (show 1 = 1 ∧ 6 ≤ 11 ∧ 11 ≤ 11 ∨ 1 = p ∧ ¬ 11 = 1 ∨ p + 1 ≤ 1 ∧ 1 ≤ p + 8 by omega)
          refine to_c (pc := 13) rw_84_13 (x := (0 : Int32)) rfl rfl (s_r1 (pc := 14) rw_84_14 (A := 0) rfl (by decide) (s_r1 (pc := 64) rw_31_64 (A := 0) rfl (by decide) ?_))
          have k_80 : (0 : Int32).toInt = 0 := rfl
          have j_81 := (CS_f (fun a i z => W_n W76 (tg_32 a i z) rfl) (CS_f (fun a i z => W_n W71 (tg_33 a i z) rfl) (CS_f (tg_28 F61) j_57)))
          exact h (0 : Int32) M77 hG78 F79 (by decide) (by decide) j_81 (fun _ => by first | exact x_line_n (by omega) | exact x_line_t (by omega) (by omega) | exact (if g9 : x_kind t nn a = 1 then x_line_t (by omega) (by omega) else x_line_n (by omega)) | exact (x_line_h (by omega) (by omega) (by omega)).trans (x_holes_n (by omega))) (fun z => by exfalso; omega)
        · skip
          have p_82 := p_65 (by omega)
          clear p_65 p_66
          refine b_ieq_f (pc := 50) rw_31_50 (A := r60.toInt) rfl (by omega) (to_an (pc := 53) rw_31_53 rfl (to_an (pc := 54) rw_31_54 rfl (s_v (pc := 55) rw_31_55 (dp0 hd (by decide)) (ls0 := [.ref p, .ref 1, .null]) rfl (Nat.le_of_ble_eq_true rfl) (Nat.le_of_ble_eq_true rfl) rfl (to_rc rfl rfl rfl (g_o hG62 (by rcases hp with rfl | rfl <;> rfl))) rfl ?_)))
          have j_83 := (CS_f (tg_28 F61) j_57)
          have c_84 : M67.2.1 1 9 = (M.2.1 1 9) := (F_n F61 (show ¬ (1 < 0) by decide) c_58)
          have t_85 : (M67.2.1 1 9).toInt = (M.2.1 1 9).toInt := congrArg Int32.toInt c_84
          have j_86 := (PLc_f (fun a i z => F_n F61 (show ¬ (a < 0) by omega) rfl) (F_nl F61 (show ¬ (p < 0) by omega) rfl) (PLc_f (fun a i z => F_n F45 (show ¬ (a < 0) by omega) rfl) (F_nl F45 (show ¬ (p < 0) by omega) rfl) (PLc_f (fun a i z => F_n F17 (show ¬ (a < 0) by omega) rfl) (F_nl F17 (show ¬ (p < 0) by omega) rfl) q3)))
          have j_87 := (CW_f (fun k hk9 => F_nl F61 (show ¬ ((p + 8) < 0) by omega) rfl) (CW_f (fun k hk9 => F_nl F45 (show ¬ ((p + 8) < 0) by omega) rfl) (CW_f (fun k hk9 => F_nl F17 (show ¬ ((p + 8) < 0) by omega) rfl) q4)))
          refine E_41 hX (dp1 hd (by decide)) hG62 hp j_83 (by omega) j_86 j_87 (p := p) (t := t) (nn := nn) (a := a) (sg := sg) (k := k) (fun r88 M96 hG90 F89 p_91 p_92 p_93 p_94 p_95 => ?_)
          have F97 := FR.c F68 F89 (fun a i z => show a = 1 ∧ 6 ≤ i ∧ i ≤ 11 ∨ a = p ∧ ¬ i = 1 ∨ p + 1 ≤ a ∧ a ≤ p + 8 by have z : a = 1 ∧ 6 ≤ i ∧ i ≤ 11 ∨ a = p ∧ i = 3 ∨ p + 6 ≤ a ∧ a ≤ p + 8 := z; omega)
          rcases (show r88.toInt = 0 ∨ r88.toInt = 1 by omega) with h98 | h98
          · skip
            have p_99 := p_94 (by omega)
            clear p_94 p_95
            refine s_r1 (pc := 58) rw_31_58 (A := r88.toInt) rfl (by omega) ?_
            exact h r88 M96 hG90 F97 (by omega) (by omega) p_93 (fun z => (x_line_w (by omega) (by omega) (by omega)).trans p_99) (fun z => by exfalso; omega)
          · skip
            have p_100 := p_95 (by omega)
            clear p_94 p_95
            refine s_r1 (pc := 58) rw_31_58 (A := r88.toInt) rfl (by omega) ?_
            have z_101 : x_line t nn L sg a k = x_word t nn sg (x_ns t nn a) k := by clear p_100; exact x_line_w (by omega) (by omega) (by omega)
            have z_102 : ¬ L = 0 := by clear p_100; omega
            exact h r88 M96 hG90 F97 (by omega) (by omega) p_93 (fun z => by exfalso; omega) (fun _ => p_100.elim (fun h8 => Or.inl (Exists.elim h8 (fun s2 h9 => ⟨s2, z_101.trans h9.1, h9.2.1, fun z => absurd z z_102, fun _ => h9.2.2⟩))) (fun h8 => Or.inr ⟨z_101.trans h8.1, h8.2⟩))
      · skip
        have p_103 := p_49 (by omega)
        clear p_49 p_50
        refine b_ieq_f (pc := 28) rw_31_28 (A := r44.toInt) rfl (by omega) (to_an (pc := 31) rw_31_31 rfl (to_an (pc := 32) rw_31_32 rfl (s_v (pc := 33) rw_31_33 (dp0 hd (by decide)) (ls0 := [.ref p, .ref 1, .null, .null]) rfl (Nat.le_of_ble_eq_true rfl) (Nat.le_of_ble_eq_true rfl) rfl (to_rc rfl rfl rfl (g_o hG46 (by rcases hp with rfl | rfl <;> rfl))) rfl ?_)))
        have j_104 := (CS_f (tg_28 F45) j_41)
        have c_105 : M51.2.1 1 9 = (M.2.1 1 9) := (F_n F45 (show ¬ (1 < 0) by decide) c_42)
        have t_106 : (M51.2.1 1 9).toInt = (M.2.1 1 9).toInt := congrArg Int32.toInt c_105
        have j_107 := (PLc_f (fun a i z => F_n F45 (show ¬ (a < 0) by omega) rfl) (F_nl F45 (show ¬ (p < 0) by omega) rfl) (PLc_f (fun a i z => F_n F17 (show ¬ (a < 0) by omega) rfl) (F_nl F17 (show ¬ (p < 0) by omega) rfl) q3))
        have j_108 := (CW_f (fun k hk9 => F_nl F45 (show ¬ ((p + 8) < 0) by omega) rfl) (CW_f (fun k hk9 => F_nl F17 (show ¬ ((p + 8) < 0) by omega) rfl) q4))
        refine E_33 hX (dp1 hd (by decide)) hG46 hp j_104 (by omega) j_107 j_108 (p := p) (t := t) (nn := nn) (a := a) (sg := sg) (k := k) (fun r109 M117 hG111 F110 p_112 p_113 p_114 p_115 p_116 => ?_)
        have F118 := FR.c F52 F110 (fun a i z => show a = 1 ∧ 6 ≤ i ∧ i ≤ 11 ∨ a = p ∧ ¬ i = 1 ∨ p + 1 ≤ a ∧ a ≤ p + 8 by have z : a = 1 ∧ 6 ≤ i ∧ i ≤ 11 ∨ a = p ∧ 2 ≤ i ∨ p + 1 ≤ a ∧ a ≤ p + 5 := z; omega)
        rcases (show r109.toInt = 0 ∨ r109.toInt = 1 by omega) with h119 | h119
        · skip
          have p_120 := p_115 (by omega)
          clear p_115 p_116
          refine s_r1 (pc := 36) rw_31_36 (A := r109.toInt) rfl (by omega) ?_
          exact h r109 M117 hG111 F118 (by omega) (by omega) p_114 (fun z => (x_line_f (by omega) (by omega) (by omega)).trans p_120) (fun z => by exfalso; omega)
        · skip
          have p_121 := p_116 (by omega)
          clear p_115 p_116
          refine s_r1 (pc := 36) rw_31_36 (A := r109.toInt) rfl (by omega) ?_
          have z_122 : x_line t nn L sg a k = x_field t nn sg (x_ns t nn a) k := by clear p_121; exact x_line_f (by omega) (by omega) (by omega)
          have z_123 : ¬ L = 0 := by clear p_121; omega
          exact h r109 M117 hG111 F118 (by omega) (by omega) p_114 (fun z => by exfalso; omega) (fun _ => Or.inl (Exists.elim p_121 (fun s2 h9 => ⟨s2, z_122.trans h9.1, h9.2.1, fun z => absurd z z_123, fun _ => h9.2.2⟩)))
  · skip
    have p_124 := p_21 (by omega)
    clear p_21 p_22
    refine b_ieq_f (pc := 6) rw_31_6 (A := r16.toInt) rfl (by omega) (to_an (pc := 9) rw_31_9 rfl (to_an (pc := 10) rw_31_10 rfl (s_v (pc := 11) rw_31_11 (dp0 hd (by decide)) (ls0 := [.ref p, .ref 1]) rfl (Nat.le_of_ble_eq_true rfl) (Nat.le_of_ble_eq_true rfl) rfl (to_rc rfl rfl rfl (g_o hG18 (by rcases hp with rfl | rfl <;> rfl))) rfl (to_an (pc := 0) rw_32_0 rfl ?_))))
    have c_125 : M23.2.1 p 1 = (M.2.1 p 1) := (F_n F17 (show ¬ (p < 0) by omega) rfl)
    refine tt_gI (pc := 1) rw_32_1 (g_o hG18 (by rcases hp with rfl | rfl <;> rfl)) (v := (M.2.1 p 1)) c_125 (b_ile (pc := 4) rw_32_4 (A := (M.2.1 p 1).toInt) rfl (fun h126 => ?_) (fun h126 => ?_))
    · refine to_an (pc := 13) rw_32_13 rfl (s_v (pc := 14) rw_32_14 (dp1 hd (by decide)) (ls0 := [.ref 1]) rfl (Nat.le_of_ble_eq_true rfl) (Nat.le_of_ble_eq_true rfl) rfl (to_rc rfl rfl rfl (g_o hG18 rfl)) rfl ?_)
      have j_127 := (CS_f (tg_28 F17) q1)
      have c_128 : M23.2.1 1 9 = (M.2.1 1 9) := (F_n F17 (show ¬ (1 < 0) by decide) rfl)
      have t_129 : (M23.2.1 1 9).toInt = (M.2.1 1 9).toInt := congrArg Int32.toInt c_128
      refine E_83 hX (dp2 hd (by decide)) hG18 j_127 (by omega) (t := t) (nn := nn) (a := a) (fun M134 hG131 F130 p_132 p_133 => ?_)
      have F135 := FR.c F24 F130 (fun a i z => show a = 1 ∧ 6 ≤ i ∧ i ≤ 11 ∨ a = p ∧ ¬ i = 1 ∨ p + 1 ≤ a ∧ a ≤ p + 8 by have z : a = 1 ∧ 6 ≤ i ∧ i ≤ 9 := z; omega)
      refine to_an (pc := 17) rw_32_17 rfl (to_c (pc := 18) rw_32_18 (x := (10 : Int32)) rfl rfl (to_c (pc := 20) rw_32_20 (x := (60 : Int32)) rfl rfl (s_v (pc := 22) rw_32_22 (dp1 hd (by decide)) (ls0 := [.ref 1, .int (10 : Int32), .int (60 : Int32)]) rfl (Nat.le_of_ble_eq_true rfl) (Nat.le_of_ble_eq_true rfl) rfl (to_rc rfl rfl rfl (g_o hG131 rfl)) rfl ?_)))
      have k_136 : (10 : Int32).toInt = 10 := rfl
      have k_137 : (60 : Int32).toInt = 60 := rfl
      refine E_88 hX (dp2 hd (by decide)) hG131 p_132 (by omega) (l := (10 : Int32)) (m := (60 : Int32)) (t := t) (nn := nn) (a := (x_ns t nn a)) (fun r138 M145 hG140 F139 p_141 p_142 p_143 p_144 => ?_)
      have F146 := FR.c F135 F139 (fun a i z => show a = 1 ∧ 6 ≤ i ∧ i ≤ 11 ∨ a = p ∧ ¬ i = 1 ∨ p + 1 ≤ a ∧ a ≤ p + 8 by have z : a = 1 ∧ (i = 10 ∨ i = 11) := z; omega)
      rcases (show r138.toInt = 0 ∨ r138.toInt = 1 by omega) with h147 | h147
      · skip
        have p_148 := p_144 (by omega)
        clear p_143 p_144
        have z_149 := x_val_b (t := t) (nn := nn) (a := (x_ns t nn a))
        refine b_ine_f (pc := 25) rw_32_25 (A := r138.toInt) rfl (by omega) (to_c (pc := 28) rw_32_28 (x := (0 : Int32)) rfl rfl (s_r1 (pc := 29) rw_32_29 (A := 0) rfl (by decide) (s_r1 (pc := 14) rw_31_14 (A := 0) rfl (by decide) ?_)))
        have k_150 : (0 : Int32).toInt = 0 := rfl
        have j_151 := (CS_f (tg_34 F139) p_132)
        exact h (0 : Int32) M145 hG140 F146 (by decide) (by decide) j_151 (fun _ => by first | exact x_line_n (by omega) | exact x_line_t (by omega) (by omega) | exact (if g9 : x_kind t nn a = 1 then x_line_t (by omega) (by omega) else x_line_n (by omega)) | exact (x_line_h (by omega) (by omega) (by omega)).trans (x_holes_n (by omega))) (fun z => by exfalso; omega)
      · skip
        have p_152 := p_143 (by omega)
        clear p_143 p_144
        have c_153 : M145.2.1 1 8 = (M134.2.1 1 8) := (F_n F139 (show ¬ (1 = 1 ∧ (8 = 10 ∨ 8 = 11)) by decide) rfl)
        have z_154 := x_val_b (t := t) (nn := nn) (a := (x_ns t nn a)) (by omega)
        refine b_ine_t (pc := 25) rw_32_25 (A := r138.toInt) rfl (by omega) (to_an (pc := 30) rw_32_30 rfl (to_an (pc := 31) rw_32_31 rfl (tt_gI (pc := 32) rw_32_32 (g_o hG140 rfl) (v := (M134.2.1 1 8)) c_153 ?_)))
        have j_155 := (PLc_f (fun a i z => F_n F139 (show ¬ (a = 1 ∧ (i = 10 ∨ i = 11)) by omega) rfl) (F_nl F139 (show ¬ (p = 1 ∧ (4 = 10 ∨ 4 = 11)) by omega) rfl) (PLc_f (fun a i z => F_n F130 (show ¬ (a = 1 ∧ 6 ≤ i ∧ i ≤ 9) by omega) rfl) (F_nl F130 (show ¬ (p = 1 ∧ 6 ≤ 4 ∧ 4 ≤ 9) by omega) rfl) (PLc_f (fun a i z => F_n F17 (show ¬ (a < 0) by omega) rfl) (F_nl F17 (show ¬ (p < 0) by omega) rfl) q3)))
        refine s_pI (pc := 35) rw_32_35 hG140 (by rcases hp with rfl | rfl <;> rfl) (fun M157 W156 => ?_)
        have hG158 := g_w hG140 W156 (A := (M134.2.1 1 8).toInt) rfl (lo := 10) (hi := 60) (by rcases hp with rfl | rfl <;> rfl) (by rcases hp with rfl | rfl <;> rfl) (by omega) (by omega)
        have F159 := FR.w F146 W156 (show p = 1 ∧ 6 ≤ 0 ∧ 0 ≤ 11 ∨ p = p ∧ ¬ 0 = 1 ∨ p + 1 ≤ p ∧ p ≤ p + 8 by omega)
        have z_160 := PLc_h (w := x_val t nn (x_ns t nn a)) j_155 W156 (by omega) (by omega)
        refine to_an (pc := 38) rw_32_38 rfl (s_v (pc := 39) rw_32_39 (dp1 hd (by decide)) (ls0 := [.ref 1]) rfl (Nat.le_of_ble_eq_true rfl) (Nat.le_of_ble_eq_true rfl) rfl (to_rc rfl rfl rfl (g_o hG158 rfl)) rfl ?_)
        have j_161 := (CS_f (fun a i z => W_n W156 (by omega) rfl) (CS_f (tg_34 F139) p_132))
        have c_162 : M157.2.1 1 9 = (M134.2.1 1 9) := (W_n W156 (by omega) (F_n F139 (show ¬ (1 = 1 ∧ (9 = 10 ∨ 9 = 11)) by decide) rfl))
        have t_163 : (M157.2.1 1 9).toInt = (M134.2.1 1 9).toInt := congrArg Int32.toInt c_162
        refine E_83 hX (dp2 hd (by decide)) hG158 j_161 (by omega) (t := t) (nn := nn) (a := (x_ns t nn a)) (fun M168 hG165 F164 p_166 p_167 => ?_)
        have F169 := FR.c F159 F164 (fun a i z => show a = 1 ∧ 6 ≤ i ∧ i ≤ 11 ∨ a = p ∧ ¬ i = 1 ∨ p + 1 ≤ a ∧ a ≤ p + 8 by have z : a = 1 ∧ 6 ≤ i ∧ i ≤ 9 := z; omega)
        refine to_c (pc := 42) rw_32_42 (x := (1 : Int32)) rfl rfl (s_r1 (pc := 43) rw_32_43 (A := 1) rfl (by decide) (s_r1 (pc := 14) rw_31_14 (A := 1) rfl (by decide) ?_))
        have k_170 : (1 : Int32).toInt = 1 := rfl
        have j_171 := (PLc_f (fun a i z => F_n F164 (show ¬ (a = 1 ∧ 6 ≤ i ∧ i ≤ 9) by omega) rfl) (F_nl F164 (show ¬ (p = 1 ∧ 6 ≤ 4 ∧ 4 ≤ 9) by omega) rfl) z_160)
        have j_172 := (CW_f (fun k hk9 => F_nl F164 (show ¬ ((p + 8) = 1 ∧ 6 ≤ k ∧ k ≤ 9) by omega) rfl) (CW_f (fun k hk9 => W_j W156 rfl) (CW_f (fun k hk9 => F_nl F139 (show ¬ ((p + 8) = 1 ∧ (k = 10 ∨ k = 11)) by omega) rfl) (CW_f (fun k hk9 => F_nl F130 (show ¬ ((p + 8) = 1 ∧ 6 ≤ k ∧ k ≤ 9) by omega) rfl) (CW_f (fun k hk9 => F_nl F17 (show ¬ ((p + 8) < 0) by omega) rfl) q4)))))
        exact h (1 : Int32) M168 hG165 F169 (by decide) (by decide) p_166 (fun z => absurd z (by decide)) (fun _ => Or.inl ⟨(x_val t nn (x_ns t nn a), sg.2), (by rw [show (M168.2.1 1 9).toInt = (x_ns t nn (x_ns t nn a)) by omega]; exact (x_line_h (by omega) (by omega) (by omega)).trans (x_holes_y (by omega))), ⟨j_171, j_172⟩, fun _ => rfl, fun z => by exfalso; omega⟩)
    · refine to_an (pc := 7) rw_32_7 rfl (to_c (pc := 8) rw_32_8 (x := (3 : Int32)) rfl rfl (s_v (pc := 9) rw_32_9 (dp1 hd (by decide)) (ls0 := [.ref 1, .int (3 : Int32)]) rfl (Nat.le_of_ble_eq_true rfl) (Nat.le_of_ble_eq_true rfl) rfl (to_rc rfl rfl rfl (g_o hG18 rfl)) rfl (to_an (pc := 0) rw_84_0 rfl (to_in (pc := 1) rw_84_1 rfl (s_pI (pc := 2) rw_84_2 hG18 rfl (fun M174 W173 => ?_))))))
      have hG175 := g_wf hG18 W173 rfl rfl (by decide)
      have F176 := FR.w F24 W173 (show 1 = 1 ∧ 6 ≤ 10 ∧ 10 ≤ 11 ∨ 1 = p ∧ ¬ 10 = 1 ∨ p + 1 ≤ 1 ∧ 1 ≤ p + 8 by omega)
      refine to_an (pc := 5) rw_84_5 rfl (to_an (pc := 6) rw_84_6 rfl ?_)
      have c_177 : M174.2.1 1 9 = (M.2.1 1 9) := (W_n W173 (by decide) (F_n F17 (show ¬ (1 < 0) by decide) rfl))
      refine tt_gI (pc := 7) rw_84_7 (g_o hG175 rfl) (v := (M.2.1 1 9)) c_177 (s_pI (pc := 10) rw_84_10 hG175 rfl (fun M179 W178 => ?_))
      have hG180 := g_wf hG175 W178 rfl rfl (by decide)
      have F181 := FR.w F176 W178 (show 1 = 1 ∧ 6 ≤ 11 ∧ 11 ≤ 11 ∨ 1 = p ∧ ¬ 11 = 1 ∨ p + 1 ≤ 1 ∧ 1 ≤ p + 8 by omega)
      refine to_c (pc := 13) rw_84_13 (x := (0 : Int32)) rfl rfl (s_r1 (pc := 14) rw_84_14 (A := 0) rfl (by decide) (s_r1 (pc := 12) rw_32_12 (A := 0) rfl (by decide) (s_r1 (pc := 14) rw_31_14 (A := 0) rfl (by decide) ?_)))
      have k_182 : (0 : Int32).toInt = 0 := rfl
      have j_183 := (CS_f (fun a i z => W_n W178 (tg_32 a i z) rfl) (CS_f (fun a i z => W_n W173 (tg_33 a i z) rfl) (CS_f (tg_28 F17) q1)))
      exact h (0 : Int32) M179 hG180 F181 (by decide) (by decide) j_183 (fun _ => by first | exact x_line_n (by omega) | exact x_line_t (by omega) (by omega) | exact (if g9 : x_kind t nn a = 1 then x_line_t (by omega) (by omega) else x_line_n (by omega)) | exact (x_line_h (by omega) (by omega) (by omega)).trans (x_holes_n (by omega))) (fun z => by exfalso; omega)
set_option maxRecDepth 4000 in
set_option maxHeartbeats 0 in
theorem U_30_0 {X : mm_X} {d : Nat} {M : mm_M} {Q : Option Value → mm_M → Prop} {p : Nat} {t : Nat → Int} {nn : Int} {a : Int} (hX : g_X X) (hd : 5 ≤ d) (hp : p = 49 ∨ p = 58) (q1 : CS M t nn) (q2 : (M.2.1 1 9).toInt = a) (h : ∀ (r : Int32) (M1 : mm_M), g_G M1 → FR (md_r30 p) M M1 → (0 ≤ r.toInt) → (r.toInt ≤ 1) → CS M1 t nn → (r.toInt = 1 → 0 ≤ (M1.2.1 p 1).toInt) → ((r.toInt = 0 → x_plan t nn 23 0 x_s0 a = none)) → ((r.toInt = 1 → ROK (x_plan t nn 23 0 x_s0 a) M1 p)) → Q (some (.int r)) M1) : ∀ nn9 : Nat, (∀ (N : mm_M) (x2 : Int32), g_G N → FR (md_r30 p) M N → (0 ≤ x2.toInt) → (x2.toInt ≤ 22) → ((N.2.1 p 1).toInt = x2.toInt) → (0 ≤ (N.2.1 p 1).toInt) → ((N.2.1 p 1).toInt ≤ 22) → (CS N t nn) → (IVc t nn (x_plan t nn 23 0 x_s0 a) N p x2.toInt (N.2.1 1 9).toInt) → 22 - x2.toInt < (nn9 : Int) → mm_T X d 30 28 [.ref p, .ref 1, .int x2] [] N Q) := by
  intro nn9
  induction nn9 with
  | zero =>
    intro N x2 hG F0 g1 g2 g3 g4 g5 g6 g7 hm
    exfalso; omega
  | succ nn9 ih =>
    intro N x2 hG F0 g1 g2 g3 g4 g5 g6 g7 hm
    obtain ⟨sg, i_1, i_2, i_3, i_4⟩ := g7
    have i_5 : x2.toInt ≤ 21 := by have q1 : sg.2.1 ≤ 8 := i_1.1.1.2.2.2.1; have q2 : sg.2.2.1 ≤ 12 := i_1.1.1.2.2.2.2.2.1; rcases (show x2.toInt = 0 ∨ 0 < x2.toInt by omega) with z | z; omega; have := i_4 z; omega
    have z_1 := i_1.1.2.1
    have z_2 := i_1.1.2.2.1
    have z_3 := i_1.1.2.2.2.1
    have z_4 := i_1.1.1
    have z_5 := z_4.1
    have z_6 := z_4.2.1
    have z_7 := z_4.2.2.1
    have z_8 := z_4.2.2.2.1
    have z_9 := z_4.2.2.2.2.1
    have z_10 := z_4.2.2.2.2.2.1
    have b_11 := g_b hG (a := p) (i := 2) (lo := 0) (hi := 8) (by rcases hp with rfl | rfl <;> rfl) (by rcases hp with rfl | rfl <;> rfl)
    have b_12 := g_b hG (a := p) (i := 3) (lo := 0) (hi := 12) (by rcases hp with rfl | rfl <;> rfl) (by rcases hp with rfl | rfl <;> rfl)
    refine to_in (pc := 28) rw_30_28 rfl (to_c (pc := 29) rw_30_29 (x := (21 : Int32)) rfl rfl (b_cgt (pc := 31) rw_30_31 (A := x2.toInt) (B := 21) rfl rfl (fun h13 => ?_) (fun h13 => ?_)))
    · refine to_c (pc := 76) rw_30_76 (x := (1 : Int32)) rfl rfl (s_r1 (pc := 77) rw_30_77 (A := 1) rfl (by decide) ?_)
      have k_14 : (1 : Int32).toInt = 1 := rfl
      exact h (1 : Int32) N hG F0 (by decide) (by decide) g6 (by omega) (fun z => absurd z (by decide)) (fun _ => by first | exact IVc_e (by omega) i_2 (by omega) ⟨i_1.1, i_1.2⟩ (by omega) | (exfalso; omega))
    · refine to_an (pc := 34) rw_30_34 rfl ?_
      have c_15 := CS_u g6 (a := (N.2.1 1 9).toInt) (by omega)
      unfold x_C at c_15
      refine tt_gI (pc := 35) rw_30_35 (g_o hG rfl) (v := (N.2.1 1 7)) rfl (b_ieq (pc := 38) rw_30_38 (A := (N.2.1 1 7).toInt) rfl (fun h16 => ?_) (fun h16 => ?_))
      · refine to_c (pc := 76) rw_30_76 (x := (1 : Int32)) rfl rfl (s_r1 (pc := 77) rw_30_77 (A := 1) rfl (by decide) ?_)
        have k_17 : (1 : Int32).toInt = 1 := rfl
        exact h (1 : Int32) N hG F0 (by decide) (by decide) g6 (by omega) (fun z => absurd z (by decide)) (fun _ => by first | exact IVc_e (by omega) i_2 (by omega) ⟨i_1.1, i_1.2⟩ (by omega) | (exfalso; omega))
      · refine to_an (pc := 41) rw_30_41 rfl (to_an (pc := 42) rw_30_42 rfl (s_v (pc := 43) rw_30_43 (dp0 hd (by decide)) (ls0 := [.ref p, .ref 1]) rfl (Nat.le_of_ble_eq_true rfl) (Nat.le_of_ble_eq_true rfl) rfl (to_rc rfl rfl rfl (g_o hG (by rcases hp with rfl | rfl <;> rfl))) rfl (E_31 hX (dp1 hd (by decide)) hG hp g6 (by omega) i_1.1 i_1.2 (by omega) (by omega) (p := p) (t := t) (nn := nn) (a := (N.2.1 1 9).toInt) (sg := sg) (k := (x_kk t nn (22 - x2.toInt).toNat x2.toInt)) (L := x2.toInt) (fun r18 M26 hG20 F19 p_21 p_22 p_23 p_24 p_25 => ?_))))
        have F27 := FR.c F0 F19 (fun a i z => show a = 1 ∧ 6 ≤ i ∧ i ≤ 11 ∨ p ≤ a ∧ a ≤ p + 8 by have z : a = 1 ∧ 6 ≤ i ∧ i ≤ 11 ∨ a = p ∧ ¬ i = 1 ∨ p + 1 ≤ a ∧ a ≤ p + 8 := z; omega)
        rcases (show r18.toInt = 0 ∨ r18.toInt = 1 by omega) with h28 | h28
        · skip
          have p_29 := p_24 (by omega)
          clear p_24 p_25
          refine b_ieq_t (pc := 46) rw_30_46 (A := r18.toInt) rfl (by omega) (to_c (pc := 58) rw_30_58 (x := (0 : Int32)) rfl rfl (s_r1 (pc := 59) rw_30_59 (A := 0) rfl (by decide) ?_))
          have k_30 : (0 : Int32).toInt = 0 := rfl
          have c_31 : M26.2.1 p 1 = (N.2.1 p 1) := (F_n F19 (show ¬ (p = 1 ∧ 6 ≤ 1 ∧ 1 ≤ 11 ∨ p = p ∧ ¬ 1 = 1 ∨ p + 1 ≤ p ∧ p ≤ p + 8) by omega) rfl)
          have t_32 : (M26.2.1 p 1).toInt = (N.2.1 p 1).toInt := congrArg Int32.toInt c_31
          exact h (0 : Int32) M26 hG20 F27 (by decide) (by decide) p_23 (by omega) (fun _ => IVc_l (by omega) (by omega) i_2 (by omega) p_29) (fun z => absurd z (by decide))
        · skip
          have p_33 := p_25 (by omega)
          clear p_24 p_25
          refine b_ieq_f (pc := 46) rw_30_46 (A := r18.toInt) rfl (by omega) (to_an (pc := 49) rw_30_49 rfl (to_c (pc := 50) rw_30_50 (x := (59 : Int32)) rfl rfl (s_v (pc := 52) rw_30_52 (dp0 hd (by decide)) (ls0 := [.ref 1, .int (59 : Int32)]) rfl (Nat.le_of_ble_eq_true rfl) (Nat.le_of_ble_eq_true rfl) rfl (to_rc rfl rfl rfl (g_o hG20 rfl)) rfl ?_)))
          have k_34 : (59 : Int32).toInt = 59 := rfl
          refine E_90 hX (dp1 hd (by decide)) hG20 p_23 (by omega) (by omega) (c := (59 : Int32)) (t := t) (nn := nn) (a := (M26.2.1 1 9).toInt) (fun r35 M43 hG37 F36 p_38 p_39 p_40 p_41 p_42 => ?_)
          have F44 := FR.c F27 F36 (fun a i z => show a = 1 ∧ 6 ≤ i ∧ i ≤ 11 ∨ p ≤ a ∧ a ≤ p + 8 by have z : a = 1 ∧ 6 ≤ i ∧ i ≤ 11 := z; omega)
          rcases (show r35.toInt = 0 ∨ r35.toInt = 1 by omega) with h45 | h45
          · skip
            have p_46 := p_42 (by omega)
            clear p_41 p_42
            refine b_ine_f (pc := 55) rw_30_55 (A := r35.toInt) rfl (by omega) (to_c (pc := 58) rw_30_58 (x := (0 : Int32)) rfl rfl (s_r1 (pc := 59) rw_30_59 (A := 0) rfl (by decide) ?_))
            have k_47 : (0 : Int32).toInt = 0 := rfl
            have c_48 : M43.2.1 p 1 = (N.2.1 p 1) := (F_n F36 (show ¬ (p = 1 ∧ 6 ≤ 1 ∧ 1 ≤ 11) by omega) (F_n F19 (show ¬ (p = 1 ∧ 6 ≤ 1 ∧ 1 ≤ 11 ∨ p = p ∧ ¬ 1 = 1 ∨ p + 1 ≤ p ∧ p ≤ p + 8) by omega) rfl))
            have t_49 : (M43.2.1 p 1).toInt = (N.2.1 p 1).toInt := congrArg Int32.toInt c_48
            exact h (0 : Int32) M43 hG37 F44 (by decide) (by decide) p_40 (by omega) (fun _ => IVc_n (by omega) (by omega) i_2 (by omega) p_33 rfl (by omega)) (fun z => absurd z (by decide))
          · skip
            have p_50 := p_41 (by omega)
            clear p_41 p_42
            refine b_ine_t (pc := 55) rw_30_55 (A := r35.toInt) rfl (by omega) (to_an (pc := 60) rw_30_60 rfl (to_dupr (pc := 61) rw_30_61 ?_))
            have c_51 : M43.2.1 p 1 = (N.2.1 p 1) := (F_n F36 (show ¬ (p = 1 ∧ 6 ≤ 1 ∧ 1 ≤ 11) by omega) (F_n F19 (show ¬ (p = 1 ∧ 6 ≤ 1 ∧ 1 ≤ 11 ∨ p = p ∧ ¬ 1 = 1 ∨ p + 1 ≤ p ∧ p ≤ p + 8) by omega) rfl))
            refine tt_gI (pc := 62) rw_30_62 (g_o hG37 (by rcases hp with rfl | rfl <;> rfl)) (v := (N.2.1 p 1)) c_51 (to_c (pc := 65) rw_30_65 (x := (1 : Int32)) rfl rfl (s_add (pc := 66) rw_30_66 (A := (N.2.1 p 1).toInt) (B := 1) rfl rfl (by omega) (fun v52 e53 => s_pI (pc := 67) rw_30_67 hG37 (by rcases hp with rfl | rfl <;> rfl) (fun M55 W54 => ?_))))
            have hG56 := g_wf hG37 W54 (by rcases hp with rfl | rfl <;> rfl) (by rcases hp with rfl | rfl <;> rfl) (by omega)
            have F57 := FR.w F44 W54 (show p = 1 ∧ 6 ≤ 1 ∧ 1 ≤ 11 ∨ p ≤ p ∧ p ≤ p + 8 by omega)
            refine s_inc (pc := 70) rw_30_70 (ls2 := fun v => [.ref p, .ref 1, .int v]) rfl rfl (fun _ => rfl) (A := x2.toInt) (B := 1) rfl rfl (by omega) (fun v58 e59 => to_go (pc := 73) rw_30_73 ?_)
            have c_60 : M55.2.1 p 1 = v52 := (W_e W54)
            have t_61 : (M55.2.1 p 1).toInt = v52.toInt := congrArg Int32.toInt c_60
            have j_62 := (CS_f (fun a i z => W_n W54 (by omega) rfl) p_40)
            have c_63 : M55.2.1 1 9 = (M43.2.1 1 9) := (W_n W54 (by omega) rfl)
            have t_64 : (M55.2.1 1 9).toInt = (M43.2.1 1 9).toInt := congrArg Int32.toInt c_63
            have tr_65 : ∀ s9 : x_S, PLc2 M26 p s9 → PLc2 M55 p s9 := fun s9 h9 => ⟨PLc_f (fun a i z => (W_n W54 (by omega) (F_n F36 (show ¬ (a = 1 ∧ 6 ≤ i ∧ i ≤ 11) by omega) rfl))) (W_j W54 (F_nl F36 (show ¬ (p = 1 ∧ 6 ≤ 4 ∧ 4 ≤ 11) by omega) rfl)) h9.1, CW_f (fun k hk9 => (W_j W54 (F_nl F36 (show ¬ ((p + 8) = 1 ∧ 6 ≤ k ∧ k ≤ 11) by omega) rfl))) h9.2⟩
            exact ih M55 v58 hG56 F57 (by omega) (by omega) (by omega) (by omega) (by omega) j_62 (IVc_s (by omega) (by omega) i_2 (by omega) i_3 i_4 p_33 rfl (by omega) (by omega) (by omega) tr_65) (by omega)
set_option maxRecDepth 4000 in
set_option maxHeartbeats 0 in
theorem E_30 {X : mm_X} {d : Nat} {M : mm_M} {Q : Option Value → mm_M → Prop} {p : Nat} {t : Nat → Int} {nn : Int} {a : Int} (hX : g_X X) (hd : 5 ≤ d) (hG : g_G M) (hp : p = 49 ∨ p = 58) (q1 : CS M t nn) (q2 : (M.2.1 1 9).toInt = a) (h : ∀ (r : Int32) (M1 : mm_M), g_G M1 → FR (md_r30 p) M M1 → (0 ≤ r.toInt) → (r.toInt ≤ 1) → CS M1 t nn → (r.toInt = 1 → 0 ≤ (M1.2.1 p 1).toInt) → ((r.toInt = 0 → x_plan t nn 23 0 x_s0 a = none)) → ((r.toInt = 1 → ROK (x_plan t nn 23 0 x_s0 a) M1 p)) → Q (some (.int r)) M1) : mm_T X d 30 0 [.ref p, .ref 1, .null] [] M Q := by
  have F0 : FR (md_r30 p) M M := FR.rf
  refine to_an (pc := 0) rw_30_0 rfl (to_c (pc := 1) rw_30_1 (x := (10 : Int32)) rfl rfl (s_pI (pc := 3) rw_30_3 hG (by rcases hp with rfl | rfl <;> rfl) (fun M67 W66 => ?_)))
  have hG68 := g_w hG W66 (A := 10) rfl (lo := 10) (hi := 60) (by rcases hp with rfl | rfl <;> rfl) (by rcases hp with rfl | rfl <;> rfl) (by omega) (by omega)
  have F69 := FR.w F0 W66 (show p = 1 ∧ 6 ≤ 0 ∧ 0 ≤ 11 ∨ p ≤ p ∧ p ≤ p + 8 by omega)
  refine to_an (pc := 6) rw_30_6 rfl (to_c (pc := 7) rw_30_7 (x := (0 : Int32)) rfl rfl (s_pI (pc := 8) rw_30_8 hG68 (by rcases hp with rfl | rfl <;> rfl) (fun M71 W70 => ?_)))
  have hG72 := g_wf hG68 W70 (by rcases hp with rfl | rfl <;> rfl) (by rcases hp with rfl | rfl <;> rfl) (by omega)
  have F73 := FR.w F69 W70 (show p = 1 ∧ 6 ≤ 1 ∧ 1 ≤ 11 ∨ p ≤ p ∧ p ≤ p + 8 by omega)
  refine to_an (pc := 11) rw_30_11 rfl (to_c (pc := 12) rw_30_12 (x := (0 : Int32)) rfl rfl (s_pI (pc := 13) rw_30_13 hG72 (by rcases hp with rfl | rfl <;> rfl) (fun M75 W74 => ?_)))
  have hG76 := g_w hG72 W74 (A := 0) rfl (lo := 0) (hi := 8) (by rcases hp with rfl | rfl <;> rfl) (by rcases hp with rfl | rfl <;> rfl) (by omega) (by omega)
  have F77 := FR.w F73 W74 (show p = 1 ∧ 6 ≤ 2 ∧ 2 ≤ 11 ∨ p ≤ p ∧ p ≤ p + 8 by omega)
  refine to_an (pc := 16) rw_30_16 rfl (to_c (pc := 17) rw_30_17 (x := (0 : Int32)) rfl rfl (s_pI (pc := 18) rw_30_18 hG76 (by rcases hp with rfl | rfl <;> rfl) (fun M79 W78 => ?_)))
  have hG80 := g_w hG76 W78 (A := 0) rfl (lo := 0) (hi := 12) (by rcases hp with rfl | rfl <;> rfl) (by rcases hp with rfl | rfl <;> rfl) (by omega) (by omega)
  have F81 := FR.w F77 W78 (show p = 1 ∧ 6 ≤ 3 ∧ 3 ≤ 11 ∨ p ≤ p ∧ p ≤ p + 8 by omega)
  refine to_an (pc := 21) rw_30_21 rfl (to_cl (pc := 22) rw_30_22 rfl (x := (0 : Int64)) rfl (s_pJ (pc := 23) rw_30_23 hG80 (by rcases hp with rfl | rfl <;> rfl) (fun M83 W82 => ?_)))
  have hG84 := g_wl hG80 W82
  have F85 := FR.wl F81 W82 (show p = 1 ∧ 6 ≤ 4 ∧ 4 ≤ 11 ∨ p ≤ p ∧ p ≤ p + 8 by omega)
  refine to_c (pc := 26) rw_30_26 (x := (0 : Int32)) rfl rfl (to_isn (pc := 27) rw_30_27 (ls2 := [.ref p, .ref 1, .int (0 : Int32)]) rfl rfl ?_)
  have k_86 : (0 : Int32).toInt = 0 := rfl
  have c_87 : M83.2.1 p 1 = (0 : Int32) := (W_l W82 (W_n W78 (by omega) (W_n W74 (by omega) (W_e W70))))
  have t_88 : (M83.2.1 p 1).toInt = (0 : Int32).toInt := congrArg Int32.toInt c_87
  have j_89 := (CS_f (fun a i z => W_l W82 rfl) (CS_f (fun a i z => W_n W78 (by omega) rfl) (CS_f (fun a i z => W_n W74 (by omega) rfl) (CS_f (fun a i z => W_n W70 (by omega) rfl) (CS_f (fun a i z => W_n W66 (by omega) rfl) q1)))))
  have c_90 : M83.2.1 1 9 = (M.2.1 1 9) := (W_l W82 (W_n W78 (by omega) (W_n W74 (by omega) (W_n W70 (by omega) (W_n W66 (by omega) rfl)))))
  have t_91 : (M83.2.1 1 9).toInt = (M.2.1 1 9).toInt := congrArg Int32.toInt c_90
  have c_92 : M83.2.1 p 0 = (10 : Int32) := (W_l W82 (W_n W78 (by omega) (W_n W74 (by omega) (W_n W70 (by omega) (W_e W66)))))
  have k_93 : (10 : Int32).toInt = 10 := rfl
  have t_94 : (M83.2.1 p 0).toInt = (10 : Int32).toInt := congrArg Int32.toInt c_92
  have c_95 : M83.2.1 p 2 = (0 : Int32) := (W_l W82 (W_n W78 (by omega) (W_e W74)))
  have t_96 : (M83.2.1 p 2).toInt = (0 : Int32).toInt := congrArg Int32.toInt c_95
  have c_97 : M83.2.1 p 3 = (0 : Int32) := (W_l W82 (W_e W78))
  have t_98 : (M83.2.1 p 3).toInt = (0 : Int32).toInt := congrArg Int32.toInt c_97
  exact (U_30_0 (p := p) (t := t) (nn := nn) (a := a) hX hd hp q1 q2 h ((22 - (0 : Int32).toInt).toNat + 1)) M83 (0 : Int32) hG84 F85 (by omega) (by omega) (by omega) (by omega) (by omega) j_89 (IVc_0 ⟨PLc_0 (by omega) (by omega) (by omega) (L_e W82), CW_0⟩ (by omega) (by omega)) (by omega)
end
section
theorem tg_35 : ∀ a i : Nat, (a = 77 ∧ 7 ≤ i ∧ i ≤ 10) → (a = 77 ∧ (i = 4 ∨ i = 5 ∨ 7 ≤ i ∧ i ≤ 10)) := fun a i z => by omega
theorem tg_36 : ∀ a i : Nat, (a < 0) → (a = 77 ∧ (i = 4 ∨ i = 5)) := fun a i z => by omega
theorem tg_37 : ∀ a i : Nat, (a = 77 ∧ 6 ≤ i ∧ i ≤ 10) → ¬ (a = 77 ∧ i = 5) := fun a i z => by omega
theorem tg_38 : ∀ a i : Nat, (a = 77 ∧ 6 ≤ i ∧ i ≤ 10) → ¬ (a = 77 ∧ i = 4) := fun a i z => by omega
set_option maxRecDepth 4000 in
set_option maxHeartbeats 0 in
theorem E_162 {X : mm_X} {d : Nat} {M : mm_M} {Q : Option Value → mm_M → Prop} {l : Int32} {m : Int32} {t : Nat → Int} {nn : Int} {a : Int} (hX : g_X X) (hd : 1 ≤ d) (hG : g_G M) (q1 : RS M t nn) (q2 : (M.2.1 77 10).toInt = a) (q3 : m.toInt ≤ 99) (h : ∀ (r : Int32) (M1 : mm_M), g_G M1 → FR md_wr2 M M1 → (0 ≤ r.toInt) → (r.toInt ≤ 1) → (r.toInt = 1 → x_kind t nn a = 3 ∧ x_val t nn a = (M.2.1 77 9).toInt ∧ l.toInt ≤ x_val t nn a ∧ x_val t nn a ≤ m.toInt) → (r.toInt = 0 → ¬ (x_kind t nn a = 3 ∧ l.toInt ≤ x_val t nn a ∧ x_val t nn a ≤ m.toInt)) → Q (some (.int r)) M1) : mm_T X d 161 0 [.ref 77, .int l, .int m] [] M Q := by
  have F0 : FR md_wr2 M M := FR.rf
  have b_1 := g_b hG (a := 77) (i := 10) (lo := 0) (hi := 500) rfl rfl
  have b_2 := g_b hG (a := 77) (i := 8) (lo := 0) (hi := 5) rfl rfl
  have c_3 := RS_u q1 (a := a) (by omega)
  unfold x_R at c_3
  refine to_an (pc := 0) rw_162_0 rfl (tt_gI (pc := 1) rw_162_1 (g_o hG rfl) (v := (M.2.1 77 8)) rfl (to_c (pc := 4) rw_162_4 (x := (3 : Int32)) rfl rfl (b_ceq (pc := 5) rw_162_5 (A := (M.2.1 77 8).toInt) (B := 3) rfl rfl (fun h4 => ?_) (fun h4 => ?_))))
  · refine to_an (pc := 14) rw_162_14 rfl (tt_gI (pc := 15) rw_162_15 (g_o hG rfl) (v := (M.2.1 77 9)) rfl (to_in (pc := 18) rw_162_18 rfl (b_clt (pc := 19) rw_162_19 (A := (M.2.1 77 9).toInt) (B := l.toInt) rfl rfl (fun h5 => ?_) (fun h5 => ?_))))
    · refine to_an (pc := 30) rw_162_30 rfl (to_c (pc := 31) rw_162_31 (x := (2 : Int32)) rfl rfl (s_v (pc := 32) rw_162_32 (dp0 hd (by decide)) (ls0 := [.ref 77, .int (2 : Int32)]) rfl (Nat.le_of_ble_eq_true rfl) (Nat.le_of_ble_eq_true rfl) rfl (to_rc rfl rfl rfl (g_o hG rfl)) rfl (to_an (pc := 0) rw_152_0 rfl (to_in (pc := 1) rw_152_1 rfl (s_pI (pc := 2) rw_152_2 hG rfl (fun M7 W6 => ?_))))))
      have hG8 := g_wf hG W6 rfl rfl (by decide)
      have F9 := FR.w F0 W6 (show 77 = 77 ∧ (4 = 4 ∨ 4 = 5) by decide)
      refine to_an (pc := 5) rw_152_5 rfl (to_an (pc := 6) rw_152_6 rfl ?_)
      have c_10 : M7.2.1 77 10 = (M.2.1 77 10) := (W_n W6 (by decide) rfl)
      refine tt_gI (pc := 7) rw_152_7 (g_o hG8 rfl) (v := (M.2.1 77 10)) c_10 (s_pI (pc := 10) rw_152_10 hG8 rfl (fun M12 W11 => ?_))
      have hG13 := g_wf hG8 W11 rfl rfl (by decide)
      have F14 := FR.w F9 W11 (show 77 = 77 ∧ (5 = 4 ∨ 5 = 5) by decide)
      refine to_c (pc := 13) rw_152_13 (x := (0 : Int32)) rfl rfl (s_r1 (pc := 14) rw_152_14 (A := 0) rfl (by decide) (b_ieq_t (pc := 35) rw_162_35 (A := 0) rfl (by decide) (to_c (pc := 42) rw_162_42 (x := (0 : Int32)) rfl rfl (s_r1 (pc := 43) rw_162_43 (A := 0) rfl (by decide) ?_))))
      have k_15 : (0 : Int32).toInt = 0 := rfl
      exact h (0 : Int32) M12 hG13 F14 (by decide) (by decide) (by omega) (by omega)
    · refine to_an (pc := 22) rw_162_22 rfl (tt_gI (pc := 23) rw_162_23 (g_o hG rfl) (v := (M.2.1 77 9)) rfl (to_in (pc := 26) rw_162_26 rfl (b_cle (pc := 27) rw_162_27 (A := (M.2.1 77 9).toInt) (B := m.toInt) rfl rfl (fun h16 => ?_) (fun h16 => ?_))))
      · refine to_c (pc := 38) rw_162_38 (x := (1 : Int32)) rfl rfl (to_go (pc := 39) rw_162_39 (s_r1 (pc := 43) rw_162_43 (A := 1) rfl (by decide) ?_))
        have k_17 : (1 : Int32).toInt = 1 := rfl
        exact h (1 : Int32) M hG F0 (by decide) (by decide) (by omega) (by omega)
      · refine to_an (pc := 30) rw_162_30 rfl (to_c (pc := 31) rw_162_31 (x := (2 : Int32)) rfl rfl (s_v (pc := 32) rw_162_32 (dp0 hd (by decide)) (ls0 := [.ref 77, .int (2 : Int32)]) rfl (Nat.le_of_ble_eq_true rfl) (Nat.le_of_ble_eq_true rfl) rfl (to_rc rfl rfl rfl (g_o hG rfl)) rfl (to_an (pc := 0) rw_152_0 rfl (to_in (pc := 1) rw_152_1 rfl (s_pI (pc := 2) rw_152_2 hG rfl (fun M19 W18 => ?_))))))
        have hG20 := g_wf hG W18 rfl rfl (by decide)
        have F21 := FR.w F0 W18 (show 77 = 77 ∧ (4 = 4 ∨ 4 = 5) by decide)
        refine to_an (pc := 5) rw_152_5 rfl (to_an (pc := 6) rw_152_6 rfl ?_)
        have c_22 : M19.2.1 77 10 = (M.2.1 77 10) := (W_n W18 (by decide) rfl)
        refine tt_gI (pc := 7) rw_152_7 (g_o hG20 rfl) (v := (M.2.1 77 10)) c_22 (s_pI (pc := 10) rw_152_10 hG20 rfl (fun M24 W23 => ?_))
        have hG25 := g_wf hG20 W23 rfl rfl (by decide)
        have F26 := FR.w F21 W23 (show 77 = 77 ∧ (5 = 4 ∨ 5 = 5) by decide)
        refine to_c (pc := 13) rw_152_13 (x := (0 : Int32)) rfl rfl (s_r1 (pc := 14) rw_152_14 (A := 0) rfl (by decide) (b_ieq_t (pc := 35) rw_162_35 (A := 0) rfl (by decide) (to_c (pc := 42) rw_162_42 (x := (0 : Int32)) rfl rfl (s_r1 (pc := 43) rw_162_43 (A := 0) rfl (by decide) ?_))))
        have k_27 : (0 : Int32).toInt = 0 := rfl
        exact h (0 : Int32) M24 hG25 F26 (by decide) (by decide) (by omega) (by omega)
  · refine to_an (pc := 8) rw_162_8 rfl (to_c (pc := 9) rw_162_9 (x := (1 : Int32)) rfl rfl (s_v (pc := 10) rw_162_10 (dp0 hd (by decide)) (ls0 := [.ref 77, .int (1 : Int32)]) rfl (Nat.le_of_ble_eq_true rfl) (Nat.le_of_ble_eq_true rfl) rfl (to_rc rfl rfl rfl (g_o hG rfl)) rfl (to_an (pc := 0) rw_152_0 rfl (to_in (pc := 1) rw_152_1 rfl (s_pI (pc := 2) rw_152_2 hG rfl (fun M29 W28 => ?_))))))
    have hG30 := g_wf hG W28 rfl rfl (by decide)
    have F31 := FR.w F0 W28 (show 77 = 77 ∧ (4 = 4 ∨ 4 = 5) by decide)
    refine to_an (pc := 5) rw_152_5 rfl (to_an (pc := 6) rw_152_6 rfl ?_)
    have c_32 : M29.2.1 77 10 = (M.2.1 77 10) := (W_n W28 (by decide) rfl)
    refine tt_gI (pc := 7) rw_152_7 (g_o hG30 rfl) (v := (M.2.1 77 10)) c_32 (s_pI (pc := 10) rw_152_10 hG30 rfl (fun M34 W33 => ?_))
    have hG35 := g_wf hG30 W33 rfl rfl (by decide)
    have F36 := FR.w F31 W33 (show 77 = 77 ∧ (5 = 4 ∨ 5 = 5) by decide)
    refine to_c (pc := 13) rw_152_13 (x := (0 : Int32)) rfl rfl (s_r1 (pc := 14) rw_152_14 (A := 0) rfl (by decide) (s_r1 (pc := 13) rw_162_13 (A := 0) rfl (by decide) ?_))
    have k_37 : (0 : Int32).toInt = 0 := rfl
    exact h (0 : Int32) M34 hG35 F36 (by decide) (by decide) (by omega) (by omega)
set_option maxRecDepth 4000 in
set_option maxHeartbeats 0 in
theorem E_160 {X : mm_X} {d : Nat} {M : mm_M} {Q : Option Value → mm_M → Prop} {c : Int32} {t : Nat → Int} {nn : Int} {a : Int} (hX : g_X X) (hd : 2 ≤ d) (hG : g_G M) (q1 : RS M t nn) (q2 : (M.2.1 77 10).toInt = a) (q3 : 0 ≤ nn) (q4 : nn ≤ 500) (q5 : TR M t nn) (q6 : W9 M) (q7 : c.toInt = 59) (h : ∀ (r : Int32) (M1 : mm_M), g_G M1 → FR md_tw M M1 → (0 ≤ r.toInt) → (r.toInt ≤ 1) → RS M1 t nn → (r.toInt = 1 → (x_kind t nn a = 4 ∧ x_val t nn a = 59) ∧ (M1.2.1 77 10).toInt = x_ns t nn a) → (r.toInt = 0 → ¬ (x_kind t nn a = 4 ∧ x_val t nn a = 59)) → Q (some (.int r)) M1) : mm_T X d 159 0 [.ref 77, .int c] [] M Q := by
  have F0 : FR md_tw M M := FR.rf
  have b_1 := g_b hG (a := 77) (i := 10) (lo := 0) (hi := 500) rfl rfl
  have b_2 := g_b hG (a := 77) (i := 8) (lo := 0) (hi := 5) rfl rfl
  have c_3 := RS_u q1 (a := a) (by omega)
  unfold x_R at c_3
  refine to_an (pc := 0) rw_160_0 rfl (to_in (pc := 1) rw_160_1 rfl (s_v (pc := 2) rw_160_2 (dp0 hd (by decide)) (ls0 := [.ref 77, .int c]) rfl (Nat.le_of_ble_eq_true rfl) (Nat.le_of_ble_eq_true rfl) rfl (to_rc rfl rfl rfl (g_o hG rfl)) rfl (to_an (pc := 0) rw_159_0 rfl (tt_gI (pc := 1) rw_159_1 (g_o hG rfl) (v := (M.2.1 77 8)) rfl (to_c (pc := 4) rw_159_4 (x := (4 : Int32)) rfl rfl (b_cne (pc := 5) rw_159_5 (A := (M.2.1 77 8).toInt) (B := 4) rfl rfl (fun h4 => ?_) (fun h4 => ?_)))))))
  · refine to_c (pc := 20) rw_159_20 (x := (0 : Int32)) rfl rfl (s_r1 (pc := 21) rw_159_21 (A := 0) rfl (by decide) (b_ine_f (pc := 5) rw_160_5 (A := 0) rfl (by decide) (to_an (pc := 8) rw_160_8 rfl (to_c (pc := 9) rw_160_9 (x := (1 : Int32)) rfl rfl (s_v (pc := 10) rw_160_10 (dp0 hd (by decide)) (ls0 := [.ref 77, .int (1 : Int32)]) rfl (Nat.le_of_ble_eq_true rfl) (Nat.le_of_ble_eq_true rfl) rfl (to_rc rfl rfl rfl (g_o hG rfl)) rfl (to_an (pc := 0) rw_152_0 rfl (to_in (pc := 1) rw_152_1 rfl (s_pI (pc := 2) rw_152_2 hG rfl (fun M6 W5 => ?_)))))))))
    have hG7 := g_wf hG W5 rfl rfl (by decide)
    have F8 := FR.w F0 W5 (show 77 = 77 ∧ (4 = 4 ∨ 4 = 5 ∨ 7 ≤ 4 ∧ 4 ≤ 10) by decide)
    refine to_an (pc := 5) rw_152_5 rfl (to_an (pc := 6) rw_152_6 rfl ?_)
    have c_9 : M6.2.1 77 10 = (M.2.1 77 10) := (W_n W5 (by decide) rfl)
    refine tt_gI (pc := 7) rw_152_7 (g_o hG7 rfl) (v := (M.2.1 77 10)) c_9 (s_pI (pc := 10) rw_152_10 hG7 rfl (fun M11 W10 => ?_))
    have hG12 := g_wf hG7 W10 rfl rfl (by decide)
    have F13 := FR.w F8 W10 (show 77 = 77 ∧ (5 = 4 ∨ 5 = 5 ∨ 7 ≤ 5 ∧ 5 ≤ 10) by decide)
    refine to_c (pc := 13) rw_152_13 (x := (0 : Int32)) rfl rfl (s_r1 (pc := 14) rw_152_14 (A := 0) rfl (by decide) (s_r1 (pc := 13) rw_160_13 (A := 0) rfl (by decide) ?_))
    have k_14 : (0 : Int32).toInt = 0 := rfl
    have j_15 := (RS_f (fun a i z => W_n W10 (tg_37 a i z) rfl) (RS_f (fun a i z => W_n W5 (tg_38 a i z) rfl) q1))
    have c_16 : M11.2.1 77 10 = (M.2.1 77 10) := (W_n W10 (by decide) c_9)
    have t_17 : (M11.2.1 77 10).toInt = (M.2.1 77 10).toInt := congrArg Int32.toInt c_16
    exact h (0 : Int32) M11 hG12 F13 (by decide) (by decide) j_15 (by omega) (by omega)
  · refine to_an (pc := 8) rw_159_8 rfl (tt_gI (pc := 9) rw_159_9 (g_o hG rfl) (v := (M.2.1 77 9)) rfl (to_in (pc := 12) rw_159_12 rfl (b_cne (pc := 13) rw_159_13 (A := (M.2.1 77 9).toInt) (B := c.toInt) rfl rfl (fun h18 => ?_) (fun h18 => ?_))))
    · refine to_c (pc := 20) rw_159_20 (x := (0 : Int32)) rfl rfl (s_r1 (pc := 21) rw_159_21 (A := 0) rfl (by decide) (b_ine_f (pc := 5) rw_160_5 (A := 0) rfl (by decide) (to_an (pc := 8) rw_160_8 rfl (to_c (pc := 9) rw_160_9 (x := (1 : Int32)) rfl rfl (s_v (pc := 10) rw_160_10 (dp0 hd (by decide)) (ls0 := [.ref 77, .int (1 : Int32)]) rfl (Nat.le_of_ble_eq_true rfl) (Nat.le_of_ble_eq_true rfl) rfl (to_rc rfl rfl rfl (g_o hG rfl)) rfl (to_an (pc := 0) rw_152_0 rfl (to_in (pc := 1) rw_152_1 rfl (s_pI (pc := 2) rw_152_2 hG rfl (fun M20 W19 => ?_)))))))))
      have hG21 := g_wf hG W19 rfl rfl (by decide)
      have F22 := FR.w F0 W19 (show 77 = 77 ∧ (4 = 4 ∨ 4 = 5 ∨ 7 ≤ 4 ∧ 4 ≤ 10) by decide)
      refine to_an (pc := 5) rw_152_5 rfl (to_an (pc := 6) rw_152_6 rfl ?_)
      have c_23 : M20.2.1 77 10 = (M.2.1 77 10) := (W_n W19 (by decide) rfl)
      refine tt_gI (pc := 7) rw_152_7 (g_o hG21 rfl) (v := (M.2.1 77 10)) c_23 (s_pI (pc := 10) rw_152_10 hG21 rfl (fun M25 W24 => ?_))
      have hG26 := g_wf hG21 W24 rfl rfl (by decide)
      have F27 := FR.w F22 W24 (show 77 = 77 ∧ (5 = 4 ∨ 5 = 5 ∨ 7 ≤ 5 ∧ 5 ≤ 10) by decide)
      refine to_c (pc := 13) rw_152_13 (x := (0 : Int32)) rfl rfl (s_r1 (pc := 14) rw_152_14 (A := 0) rfl (by decide) (s_r1 (pc := 13) rw_160_13 (A := 0) rfl (by decide) ?_))
      have k_28 : (0 : Int32).toInt = 0 := rfl
      have j_29 := (RS_f (fun a i z => W_n W24 (tg_37 a i z) rfl) (RS_f (fun a i z => W_n W19 (tg_38 a i z) rfl) q1))
      have c_30 : M25.2.1 77 10 = (M.2.1 77 10) := (W_n W24 (by decide) c_23)
      have t_31 : (M25.2.1 77 10).toInt = (M.2.1 77 10).toInt := congrArg Int32.toInt c_30
      exact h (0 : Int32) M25 hG26 F27 (by decide) (by decide) j_29 (by omega) (by omega)
    · refine to_c (pc := 16) rw_159_16 (x := (1 : Int32)) rfl rfl (to_go (pc := 17) rw_159_17 (s_r1 (pc := 21) rw_159_21 (A := 1) rfl (by decide) (b_ine_t (pc := 5) rw_160_5 (A := 1) rfl (by decide) (to_an (pc := 14) rw_160_14 rfl (s_v (pc := 15) rw_160_15 (dp0 hd (by decide)) (ls0 := [.ref 77]) rfl (Nat.le_of_ble_eq_true rfl) (Nat.le_of_ble_eq_true rfl) rfl (to_rc rfl rfl rfl (g_o hG rfl)) rfl ?_)))))
      have b_32 := g_b hG (a := 77) (i := 7) (lo := 0) (hi := 500) rfl rfl
      have b_33 := g_b hG (a := 77) (i := 6) (lo := 0) (hi := 500) rfl rfl
      have z_34 := RS_b q1 (a := a) (by omega)
      refine E_156 hX (dp1 hd (by decide)) hG (by omega) (by omega) (by omega) (by omega) q5 q6  (fun M41 hG36 F35 p_37 p_38 p_39 p_40 => ?_)
      have F42 := FR.c F0 F35 tg_35
      have b_43 := g_b hG36 (a := 77) (i := 7) (lo := 0) (hi := 500) rfl rfl
      have c_44 : M41.2.1 77 6 = (M.2.1 77 6) := (F_n F35 (show ¬ (77 = 77 ∧ 7 ≤ 6 ∧ 6 ≤ 10) by decide) rfl)
      have t_45 : (M41.2.1 77 6).toInt = (M.2.1 77 6).toInt := congrArg Int32.toInt c_44
      have b_46 := g_b hG36 (a := 77) (i := 8) (lo := 0) (hi := 5) rfl rfl
      have b_47 := g_b hG36 (a := 77) (i := 10) (lo := 0) (hi := 500) rfl rfl
      have z_48 := RS_s p_40.2 (a := a) (by omega)
      refine to_c (pc := 18) rw_160_18 (x := (1 : Int32)) rfl rfl (s_r1 (pc := 19) rw_160_19 (A := 1) rfl (by decide) ?_)
      have k_49 : (1 : Int32).toInt = 1 := rfl
      exact h (1 : Int32) M41 hG36 F42 (by decide) (by decide) p_40.1 (by omega) (by omega)
set_option maxRecDepth 4000 in
set_option maxHeartbeats 0 in
theorem U_166_0 {X : mm_X} {d : Nat} {M : mm_M} {Q : Option Value → mm_M → Prop} {n : Int32} {sg : x_S} (hX : g_X X) (hd : 0 ≤ d) (q1 : PLr M sg) (h : ∀ (r : Int32) (M1 : mm_M), g_G M1 → FR md_0 M M1 → (-1 ≤ r.toInt) → (r.toInt ≤ 7) → (r.toInt = x_fn sg 1 n.toInt) → Q (some (.int r)) M1) : ∀ nn9 : Nat, (∀ (N : mm_M) (x2 : Int32), g_G N → FR md_0 M N → (0 ≤ x2.toInt) → (x2.toInt ≤ 8) → (x2.toInt ≤ sg.2.1) → (PLr N sg) → (x_find (sg.2.2.2.2 1) n.toInt (sg.2.1 - x2.toInt).toNat (x2.toInt).toNat = x_fn sg 1 n.toInt) → 8 - x2.toInt < (nn9 : Int) → mm_T X d 165 2 [.ref 77, .int n, .int x2] [] N Q) := by
  intro nn9
  induction nn9 with
  | zero =>
    intro N x2 hG F0 g1 g2 g3 g4 g5 hm
    exfalso; omega
  | succ nn9 ih =>
    intro N x2 hG F0 g1 g2 g3 g4 g5 hm
    have z_1 := g4.2.1
    have z_2 := g4.2.2.1
    have z_3 := g4.2.2.2.1
    have z_4 := g4.1
    have z_5 := z_4.1
    have z_6 := z_4.2.1
    have z_7 := z_4.2.2.1
    have z_8 := z_4.2.2.2.1
    have z_9 := z_4.2.2.2.2.1
    have z_10 := z_4.2.2.2.2.2.1
    have b_11 := g_b hG (a := 77) (i := 14) (lo := 10) (hi := 60) rfl rfl
    have b_12 := g_b hG (a := 77) (i := 15) (lo := 0) (hi := 8) rfl rfl
    have b_13 := g_b hG (a := 77) (i := 16) (lo := 0) (hi := 12) rfl rfl
    refine to_in (pc := 2) rw_166_2 rfl (to_an (pc := 3) rw_166_3 rfl (tt_gI (pc := 4) rw_166_4 (g_o hG rfl) (v := (N.2.1 77 15)) rfl (b_cge (pc := 7) rw_166_7 (A := x2.toInt) (B := (N.2.1 77 15).toInt) rfl rfl (fun h14 => ?_) (fun h14 => ?_))))
    · refine to_c (pc := 31) rw_166_31 (x := (-1 : Int32)) rfl rfl (to_r0 (pc := 32) rw_166_32 ?_)
      have k_15 : (-1 : Int32).toInt = -1 := rfl
      have z_16 := x_fi_n (g := (sg.2.2.2.2 1)) (v := n.toInt) (n := sg.2.1) (x3 := x2.toInt) (by omega) g5
      exact h (-1 : Int32) N hG F0 (by omega) (by omega) (by omega)
    · refine to_an (pc := 10) rw_166_10 rfl (s_gR (pc := 11) rw_166_11 hG rfl (v := 80) rfl (to_c (pc := 14) rw_166_14 (x := (8 : Int32)) rfl rfl (to_in (pc := 16) rw_166_16 rfl (s_add (pc := 17) rw_166_17 (A := 8) (B := x2.toInt) rfl rfl (by omega) (fun v17 e18 => s_ial (pc := 18) rw_166_18 hG rfl (n := 16) rfl rfl (A := v17.toInt) rfl (by omega) (by omega) (lo := -2147483648) (hi := 2147483647) rfl rfl (fun v19 w_20 _ _ => ?_))))))
      have z_21 := PLr_r g4 1 80 rfl (by decide) (by decide) (k := x2.toInt) (by omega) (by omega) (by omega) w_20
      refine to_in (pc := 19) rw_166_19 rfl (b_cne (pc := 20) rw_166_20 (A := v19.toInt) (B := n.toInt) rfl rfl (fun h22 => ?_) (fun h22 => ?_))
      · refine s_inc (pc := 25) rw_166_25 (ls2 := fun v => [.ref 77, .int n, .int v]) rfl rfl (fun _ => rfl) (A := x2.toInt) (B := 1) rfl rfl (by omega) (fun v23 e24 => to_go (pc := 28) rw_166_28 ?_)
        exact ih N v23 hG F0 (by omega) (by omega) (by omega) g4 (x_fi_e (g := (sg.2.2.2.2 1)) (n := sg.2.1) (x3 := x2.toInt) (y := v23.toInt) (by omega) (by omega) (show ¬ x_row sg 1 x2.toInt = n.toInt by omega) (by omega) g5) (by omega)
      · refine to_in (pc := 23) rw_166_23 rfl (to_r0 (pc := 24) rw_166_24 ?_)
        have z_25 := x_fi_y (g := (sg.2.2.2.2 1)) (v := n.toInt) (n := sg.2.1) (x3 := x2.toInt) (by omega) (by omega) (show x_row sg 1 x2.toInt = n.toInt by omega) g5
        exact h x2 N hG F0 (by omega) (by omega) (by omega)
set_option maxRecDepth 4000 in
set_option maxHeartbeats 0 in
theorem E_166 {X : mm_X} {d : Nat} {M : mm_M} {Q : Option Value → mm_M → Prop} {n : Int32} {sg : x_S} (hX : g_X X) (hd : 0 ≤ d) (hG : g_G M) (q1 : PLr M sg) (h : ∀ (r : Int32) (M1 : mm_M), g_G M1 → FR md_0 M M1 → (-1 ≤ r.toInt) → (r.toInt ≤ 7) → (r.toInt = x_fn sg 1 n.toInt) → Q (some (.int r)) M1) : mm_T X d 165 0 [.ref 77, .int n, .null] [] M Q := by
  have F0 : FR md_0 M M := FR.rf
  have z_26 := q1.2.1
  have z_27 := q1.2.2.1
  have z_28 := q1.2.2.2.1
  have z_29 := q1.1
  have z_30 := z_29.1
  have z_31 := z_29.2.1
  have z_32 := z_29.2.2.1
  have z_33 := z_29.2.2.2.1
  have z_34 := z_29.2.2.2.2.1
  have z_35 := z_29.2.2.2.2.2.1
  have b_36 := g_b hG (a := 77) (i := 14) (lo := 10) (hi := 60) rfl rfl
  have b_37 := g_b hG (a := 77) (i := 15) (lo := 0) (hi := 8) rfl rfl
  have b_38 := g_b hG (a := 77) (i := 16) (lo := 0) (hi := 12) rfl rfl
  refine to_c (pc := 0) rw_166_0 (x := (0 : Int32)) rfl rfl (to_isn (pc := 1) rw_166_1 (ls2 := [.ref 77, .int n, .int (0 : Int32)]) rfl rfl ?_)
  have k_39 : (0 : Int32).toInt = 0 := rfl
  exact (U_166_0 (n := n) (sg := sg) hX hd q1 h ((8 - (0 : Int32).toInt).toNat + 1)) M (0 : Int32) hG F0 (by omega) (by omega) (by omega) q1 (by rw [show (sg.2.1 - (0 : Int32).toInt).toNat = (sg.2.1).toNat by rw [show (0 : Int32).toInt = 0 from rfl]; congr 1; omega]; rfl) (by omega)
set_option maxRecDepth 4000 in
set_option maxHeartbeats 0 in
theorem U_167_0 {X : mm_X} {d : Nat} {M : mm_M} {Q : Option Value → mm_M → Prop} {n : Int32} {sg : x_S} (hX : g_X X) (hd : 1 ≤ d) (q1 : PLr M sg) (h : ∀ (r : Int32) (M1 : mm_M), g_G M1 → FR md_0 M M1 → (0 ≤ r.toInt) → (r.toInt ≤ 1) → (r.toInt = 0 → x_fn sg 1 n.toInt = -1 ∧ x_fn sg 6 n.toInt = -1) → (r.toInt = 1 → ¬ (x_fn sg 1 n.toInt = -1 ∧ x_fn sg 6 n.toInt = -1)) → Q (some (.int r)) M1) : ∀ nn9 : Nat, (∀ (N : mm_M) (x2 : Int32), g_G N → FR md_0 M N → (0 ≤ x2.toInt) → (x2.toInt ≤ 12) → (x2.toInt ≤ sg.2.2.1) → (PLr N sg) → (x_find (sg.2.2.2.2 6) n.toInt (sg.2.2.1 - x2.toInt).toNat (x2.toInt).toNat = x_fn sg 6 n.toInt) → 12 - x2.toInt < (nn9 : Int) → mm_T X d 166 2 [.ref 77, .int n, .int x2] [] N Q) := by
  intro nn9
  induction nn9 with
  | zero =>
    intro N x2 hG F0 g1 g2 g3 g4 g5 hm
    exfalso; omega
  | succ nn9 ih =>
    intro N x2 hG F0 g1 g2 g3 g4 g5 hm
    have z_1 := g4.2.1
    have z_2 := g4.2.2.1
    have z_3 := g4.2.2.2.1
    have z_4 := g4.1
    have z_5 := z_4.1
    have z_6 := z_4.2.1
    have z_7 := z_4.2.2.1
    have z_8 := z_4.2.2.2.1
    have z_9 := z_4.2.2.2.2.1
    have z_10 := z_4.2.2.2.2.2.1
    have b_11 := g_b hG (a := 77) (i := 14) (lo := 10) (hi := 60) rfl rfl
    have b_12 := g_b hG (a := 77) (i := 15) (lo := 0) (hi := 8) rfl rfl
    have b_13 := g_b hG (a := 77) (i := 16) (lo := 0) (hi := 12) rfl rfl
    refine to_in (pc := 2) rw_167_2 rfl (to_an (pc := 3) rw_167_3 rfl (tt_gI (pc := 4) rw_167_4 (g_o hG rfl) (v := (N.2.1 77 16)) rfl (b_cge (pc := 7) rw_167_7 (A := x2.toInt) (B := (N.2.1 77 16).toInt) rfl rfl (fun h14 => ?_) (fun h14 => ?_))))
    · refine to_an (pc := 31) rw_167_31 rfl (to_in (pc := 32) rw_167_32 rfl (s_v (pc := 33) rw_167_33 (dp0 hd (by decide)) (ls0 := [.ref 77, .int n, .null]) rfl (Nat.le_of_ble_eq_true rfl) (Nat.le_of_ble_eq_true rfl) rfl (to_rc rfl rfl rfl (g_o hG rfl)) rfl (E_166 hX (dp1 hd (by decide)) hG g4 (n := n) (sg := sg) (fun r15 M21 hG17 F16 p_18 p_19 p_20 => ?_))))
      have F22 := FR.c F0 F16 tg_29
      refine b_ilt (pc := 36) rw_167_36 (A := r15.toInt) rfl (fun h23 => ?_) (fun h23 => ?_)
      · refine to_c (pc := 43) rw_167_43 (x := (0 : Int32)) rfl rfl (s_r1 (pc := 44) rw_167_44 (A := 0) rfl (by decide) ?_)
        have k_24 : (0 : Int32).toInt = 0 := rfl
        have z_25 := x_fi_n (g := (sg.2.2.2.2 6)) (v := n.toInt) (n := sg.2.2.1) (x3 := x2.toInt) (by omega) g5
        exact h (0 : Int32) M21 hG17 F22 (by decide) (by decide) (by omega) (by omega)
      · refine to_c (pc := 39) rw_167_39 (x := (1 : Int32)) rfl rfl (to_go (pc := 40) rw_167_40 (s_r1 (pc := 44) rw_167_44 (A := 1) rfl (by decide) ?_))
        have k_26 : (1 : Int32).toInt = 1 := rfl
        have z_27 := x_fi_n (g := (sg.2.2.2.2 6)) (v := n.toInt) (n := sg.2.2.1) (x3 := x2.toInt) (by omega) g5
        exact h (1 : Int32) M21 hG17 F22 (by decide) (by decide) (by omega) (by omega)
    · refine to_an (pc := 10) rw_167_10 rfl (s_gR (pc := 11) rw_167_11 hG rfl (v := 85) rfl (to_c (pc := 14) rw_167_14 (x := (12 : Int32)) rfl rfl (to_in (pc := 16) rw_167_16 rfl (s_add (pc := 17) rw_167_17 (A := 12) (B := x2.toInt) rfl rfl (by omega) (fun v28 e29 => s_ial (pc := 18) rw_167_18 hG rfl (n := 24) rfl rfl (A := v28.toInt) rfl (by omega) (by omega) (lo := -2147483648) (hi := 2147483647) rfl rfl (fun v30 w_31 _ _ => ?_))))))
      have z_32 := PLr_w g4 6 85 rfl (by decide) (by decide) (k := x2.toInt) (by omega) (by omega) (by omega) w_31
      refine to_in (pc := 19) rw_167_19 rfl (b_cne (pc := 20) rw_167_20 (A := v30.toInt) (B := n.toInt) rfl rfl (fun h33 => ?_) (fun h33 => ?_))
      · refine s_inc (pc := 25) rw_167_25 (ls2 := fun v => [.ref 77, .int n, .int v]) rfl rfl (fun _ => rfl) (A := x2.toInt) (B := 1) rfl rfl (by omega) (fun v34 e35 => to_go (pc := 28) rw_167_28 ?_)
        exact ih N v34 hG F0 (by omega) (by omega) (by omega) g4 (x_fi_e (g := (sg.2.2.2.2 6)) (n := sg.2.2.1) (x3 := x2.toInt) (y := v34.toInt) (by omega) (by omega) (show ¬ x_row sg 6 x2.toInt = n.toInt by omega) (by omega) g5) (by omega)
      · refine to_c (pc := 23) rw_167_23 (x := (1 : Int32)) rfl rfl (s_r1 (pc := 24) rw_167_24 (A := 1) rfl (by decide) ?_)
        have k_36 : (1 : Int32).toInt = 1 := rfl
        have z_37 := x_fi_y (g := (sg.2.2.2.2 6)) (v := n.toInt) (n := sg.2.2.1) (x3 := x2.toInt) (by omega) (by omega) (show x_row sg 6 x2.toInt = n.toInt by omega) g5
        exact h (1 : Int32) N hG F0 (by decide) (by decide) (by omega) (by omega)
set_option maxRecDepth 4000 in
set_option maxHeartbeats 0 in
theorem E_167 {X : mm_X} {d : Nat} {M : mm_M} {Q : Option Value → mm_M → Prop} {n : Int32} {sg : x_S} (hX : g_X X) (hd : 1 ≤ d) (hG : g_G M) (q1 : PLr M sg) (h : ∀ (r : Int32) (M1 : mm_M), g_G M1 → FR md_0 M M1 → (0 ≤ r.toInt) → (r.toInt ≤ 1) → (r.toInt = 0 → x_fn sg 1 n.toInt = -1 ∧ x_fn sg 6 n.toInt = -1) → (r.toInt = 1 → ¬ (x_fn sg 1 n.toInt = -1 ∧ x_fn sg 6 n.toInt = -1)) → Q (some (.int r)) M1) : mm_T X d 166 0 [.ref 77, .int n, .null] [] M Q := by
  have F0 : FR md_0 M M := FR.rf
  have z_38 := q1.2.1
  have z_39 := q1.2.2.1
  have z_40 := q1.2.2.2.1
  have z_41 := q1.1
  have z_42 := z_41.1
  have z_43 := z_41.2.1
  have z_44 := z_41.2.2.1
  have z_45 := z_41.2.2.2.1
  have z_46 := z_41.2.2.2.2.1
  have z_47 := z_41.2.2.2.2.2.1
  have b_48 := g_b hG (a := 77) (i := 14) (lo := 10) (hi := 60) rfl rfl
  have b_49 := g_b hG (a := 77) (i := 15) (lo := 0) (hi := 8) rfl rfl
  have b_50 := g_b hG (a := 77) (i := 16) (lo := 0) (hi := 12) rfl rfl
  refine to_c (pc := 0) rw_167_0 (x := (0 : Int32)) rfl rfl (to_isn (pc := 1) rw_167_1 (ls2 := [.ref 77, .int n, .int (0 : Int32)]) rfl rfl ?_)
  have k_51 : (0 : Int32).toInt = 0 := rfl
  exact (U_167_0 (n := n) (sg := sg) hX hd q1 h ((12 - (0 : Int32).toInt).toNat + 1)) M (0 : Int32) hG F0 (by omega) (by omega) (by omega) q1 (by rw [show (sg.2.2.1 - (0 : Int32).toInt).toNat = (sg.2.2.1).toNat by rw [show (0 : Int32).toInt = 0 from rfl]; congr 1; omega]; rfl) (by omega)
set_option maxRecDepth 4000 in
set_option maxHeartbeats 0 in
theorem E_169 {X : mm_X} {d : Nat} {M : mm_M} {Q : Option Value → mm_M → Prop} {t : Nat → Int} {nn : Int} {a : Int} {sg : x_S} (hX : g_X X) (hd : 2 ≤ d) (hG : g_G M) (q1 : RS M t nn) (q2 : (M.2.1 77 10).toInt = a) (q3 : PLr M sg) (h : ∀ (r : Int32) (M1 : mm_M), g_G M1 → FR md_wr2 M M1 → (0 ≤ r.toInt) → (r.toInt ≤ 1) → (r.toInt = 1 → x_kind t nn a = 2 ∧ x_fn sg 1 (x_val t nn a) = -1 ∧ x_fn sg 6 (x_val t nn a) = -1) → (r.toInt = 1 → x_val t nn a = (M.2.1 77 9).toInt) → (r.toInt = 0 → ¬ (x_kind t nn a = 2 ∧ x_fn sg 1 (x_val t nn a) = -1 ∧ x_fn sg 6 (x_val t nn a) = -1)) → Q (some (.int r)) M1) : mm_T X d 168 0 [.ref 77] [] M Q := by
  have F0 : FR md_wr2 M M := FR.rf
  have b_1 := g_b hG (a := 77) (i := 10) (lo := 0) (hi := 500) rfl rfl
  have b_2 := g_b hG (a := 77) (i := 8) (lo := 0) (hi := 5) rfl rfl
  have c_3 := RS_u q1 (a := a) (by omega)
  unfold x_R at c_3
  refine to_an (pc := 0) rw_169_0 rfl (tt_gI (pc := 1) rw_169_1 (g_o hG rfl) (v := (M.2.1 77 8)) rfl (to_c (pc := 4) rw_169_4 (x := (2 : Int32)) rfl rfl (b_ceq (pc := 5) rw_169_5 (A := (M.2.1 77 8).toInt) (B := 2) rfl rfl (fun h4 => ?_) (fun h4 => ?_))))
  · refine to_an (pc := 14) rw_169_14 rfl (to_an (pc := 15) rw_169_15 rfl (tt_gI (pc := 16) rw_169_16 (g_o hG rfl) (v := (M.2.1 77 9)) rfl (s_v (pc := 19) rw_169_19 (dp0 hd (by decide)) (ls0 := [.ref 77, .int (M.2.1 77 9), .null]) rfl (Nat.le_of_ble_eq_true rfl) (Nat.le_of_ble_eq_true rfl) rfl (to_rc rfl rfl rfl (g_o hG rfl)) rfl (E_167 hX (dp1 hd (by decide)) hG q3 (n := (M.2.1 77 9)) (sg := sg) (fun r5 M12 hG7 F6 p_8 p_9 p_10 p_11 => ?_)))))
    have F13 := FR.c F0 F6 tg_36
    rcases (show r5.toInt = 0 ∨ r5.toInt = 1 by omega) with h14 | h14
    · skip
      have p_15 := p_10 (by omega)
      clear p_10 p_11
      refine b_ieq_t (pc := 22) rw_169_22 (A := r5.toInt) rfl (by omega) (to_c (pc := 33) rw_169_33 (x := (1 : Int32)) rfl rfl (to_go (pc := 34) rw_169_34 (s_r1 (pc := 38) rw_169_38 (A := 1) rfl (by decide) ?_)))
      have k_16 : (1 : Int32).toInt = 1 := rfl
      have z_17 := x_fn_v (s := sg) (r := 1) (v := (M.2.1 77 9).toInt) (w := x_val t nn a)
      have z_18 := x_fn_v (s := sg) (r := 6) (v := (M.2.1 77 9).toInt) (w := x_val t nn a)
      exact h (1 : Int32) M12 hG7 F13 (by decide) (by decide) (by omega) (by omega) (by omega)
    · skip
      have p_19 := p_11 (by omega)
      clear p_10 p_11
      refine b_ieq_f (pc := 22) rw_169_22 (A := r5.toInt) rfl (by omega) (to_an (pc := 25) rw_169_25 rfl (to_c (pc := 26) rw_169_26 (x := (3 : Int32)) rfl rfl (s_v (pc := 27) rw_169_27 (dp0 hd (by decide)) (ls0 := [.ref 77, .int (3 : Int32)]) rfl (Nat.le_of_ble_eq_true rfl) (Nat.le_of_ble_eq_true rfl) rfl (to_rc rfl rfl rfl (g_o hG7 rfl)) rfl (to_an (pc := 0) rw_152_0 rfl (to_in (pc := 1) rw_152_1 rfl (s_pI (pc := 2) rw_152_2 hG7 rfl (fun M21 W20 => ?_)))))))
      have hG22 := g_wf hG7 W20 rfl rfl (by decide)
      have F23 := FR.w F13 W20 (show 77 = 77 ∧ (4 = 4 ∨ 4 = 5) by decide)
      refine to_an (pc := 5) rw_152_5 rfl (to_an (pc := 6) rw_152_6 rfl ?_)
      have c_24 : M21.2.1 77 10 = (M.2.1 77 10) := (W_n W20 (by decide) (F_n F6 (show ¬ (77 < 0) by decide) rfl))
      refine tt_gI (pc := 7) rw_152_7 (g_o hG22 rfl) (v := (M.2.1 77 10)) c_24 (s_pI (pc := 10) rw_152_10 hG22 rfl (fun M26 W25 => ?_))
      have hG27 := g_wf hG22 W25 rfl rfl (by decide)
      have F28 := FR.w F23 W25 (show 77 = 77 ∧ (5 = 4 ∨ 5 = 5) by decide)
      refine to_c (pc := 13) rw_152_13 (x := (0 : Int32)) rfl rfl (s_r1 (pc := 14) rw_152_14 (A := 0) rfl (by decide) (b_ieq_t (pc := 30) rw_169_30 (A := 0) rfl (by decide) (to_c (pc := 37) rw_169_37 (x := (0 : Int32)) rfl rfl (s_r1 (pc := 38) rw_169_38 (A := 0) rfl (by decide) ?_))))
      have k_29 : (0 : Int32).toInt = 0 := rfl
      have z_30 := x_fn_v (s := sg) (r := 1) (v := (M.2.1 77 9).toInt) (w := x_val t nn a)
      have z_31 := x_fn_v (s := sg) (r := 6) (v := (M.2.1 77 9).toInt) (w := x_val t nn a)
      exact h (0 : Int32) M26 hG27 F28 (by decide) (by decide) (by omega) (by omega) (by omega)
  · refine to_an (pc := 8) rw_169_8 rfl (to_c (pc := 9) rw_169_9 (x := (1 : Int32)) rfl rfl (s_v (pc := 10) rw_169_10 (dp0 hd (by decide)) (ls0 := [.ref 77, .int (1 : Int32)]) rfl (Nat.le_of_ble_eq_true rfl) (Nat.le_of_ble_eq_true rfl) rfl (to_rc rfl rfl rfl (g_o hG rfl)) rfl (to_an (pc := 0) rw_152_0 rfl (to_in (pc := 1) rw_152_1 rfl (s_pI (pc := 2) rw_152_2 hG rfl (fun M33 W32 => ?_))))))
    have hG34 := g_wf hG W32 rfl rfl (by decide)
    have F35 := FR.w F0 W32 (show 77 = 77 ∧ (4 = 4 ∨ 4 = 5) by decide)
    refine to_an (pc := 5) rw_152_5 rfl (to_an (pc := 6) rw_152_6 rfl ?_)
    have c_36 : M33.2.1 77 10 = (M.2.1 77 10) := (W_n W32 (by decide) rfl)
    refine tt_gI (pc := 7) rw_152_7 (g_o hG34 rfl) (v := (M.2.1 77 10)) c_36 (s_pI (pc := 10) rw_152_10 hG34 rfl (fun M38 W37 => ?_))
    have hG39 := g_wf hG34 W37 rfl rfl (by decide)
    have F40 := FR.w F35 W37 (show 77 = 77 ∧ (5 = 4 ∨ 5 = 5) by decide)
    refine to_c (pc := 13) rw_152_13 (x := (0 : Int32)) rfl rfl (s_r1 (pc := 14) rw_152_14 (A := 0) rfl (by decide) (s_r1 (pc := 13) rw_169_13 (A := 0) rfl (by decide) ?_))
    have k_41 : (0 : Int32).toInt = 0 := rfl
    have z_42 := x_fn_v (s := sg) (r := 1) (v := (M.2.1 77 9).toInt) (w := x_val t nn a)
    have z_43 := x_fn_v (s := sg) (r := 6) (v := (M.2.1 77 9).toInt) (w := x_val t nn a)
    exact h (0 : Int32) M38 hG39 F40 (by decide) (by decide) (by omega) (by omega) (by omega)
set_option maxRecDepth 4000 in
set_option maxHeartbeats 0 in
theorem U_168_0 {X : mm_X} {d : Nat} {M : mm_M} {Q : Option Value → mm_M → Prop} {a : Int32} {b : Int32} (hX : g_X X) (hd : 0 ≤ d) (q1 : 0 ≤ a.toInt) (q2 : a.toInt ≤ 59) (q3 : a.toInt ≤ b.toInt) (q4 : 0 ≤ b.toInt) (q5 : b.toInt ≤ 59) (h : ∀ (r : Int64) (M1 : mm_M), g_G M1 → FR md_0 M M1 → (r = x_bw a.toInt b.toInt) → Q (some (.long r)) M1) : ∀ nn9 : Nat, (∀ (N : mm_M) (u0 : Value) (y2 : Int64) (x4 : Int32), g_G N → FR md_0 M N → (0 ≤ x4.toInt) → (x4.toInt ≤ 60) → (a.toInt ≤ x4.toInt) → (x4.toInt ≤ b.toInt + 1) → (x_bwr (b.toInt + 1 - x4.toInt).toNat y2 (x4.toInt).toNat = x_bwr (b.toInt + 1 - a.toInt).toNat 0 (a.toInt).toNat) → 64 - x4.toInt < (nn9 : Int) → mm_T X d 167 5 [u0, .int b, .long y2, .null, .int x4] [] N Q) := by
  intro nn9
  induction nn9 with
  | zero =>
    intro N u0 y2 x4 hG F0 g1 g2 g3 g4 g5 hm
    exfalso; omega
  | succ nn9 ih =>
    intro N u0 y2 x4 hG F0 g1 g2 g3 g4 g5 hm
    refine to_i (pc := 5) rw_168_5 rfl (to_in (pc := 7) rw_168_7 rfl (b_cgt (pc := 8) rw_168_8 (A := x4.toInt) (B := b.toInt) rfl rfl (fun h1 => ?_) (fun h1 => ?_)))
    · refine to_ln (pc := 24) rw_168_24 rfl rfl rfl (to_rl (pc := 25) rw_168_25 ?_)
      have z_2 := x_bw_x (b := b.toInt) (h := x4.toInt) (by omega) g5
      exact h y2 N hG F0 (z_2.trans (x_bw_r (by omega) (by omega) (by omega)))
    · refine to_ln (pc := 11) rw_168_11 rfl rfl rfl (to_cl (pc := 12) rw_168_12 rfl (x := (1 : Int64)) rfl (to_i (pc := 13) rw_168_13 rfl (to_2s (pc := 15) rw_168_15 (v := ((1 : Int64) <<< (x4.toInt64 &&& 63))) rfl (to_2l (pc := 16) rw_168_16 (v := (y2 ||| ((1 : Int64) <<< (x4.toInt64 &&& 63)))) rfl (to_lsn (pc := 17) rw_168_17 (ls2 := [u0, .int b, .long (y2 ||| ((1 : Int64) <<< (x4.toInt64 &&& 63))), .null, .int x4]) rfl rfl (s_inc (pc := 18) rw_168_18 (ls2 := fun v => [u0, .int b, .long (y2 ||| ((1 : Int64) <<< (x4.toInt64 &&& 63))), .null, .int v]) rfl rfl (fun _ => rfl) (A := x4.toInt) (B := 1) rfl rfl (by omega) (fun v3 e4 => to_go (pc := 21) rw_168_21 ?_)))))))
      exact ih N (u0) (y2 ||| ((1 : Int64) <<< (x4.toInt64 &&& 63))) v3 hG F0 (by omega) (by omega) (by omega) (by omega) (x_bw_s (h := x4.toInt) rfl (by omega) (by omega) (by omega) g5) (by omega)
set_option maxRecDepth 4000 in
set_option maxHeartbeats 0 in
theorem E_168 {X : mm_X} {d : Nat} {M : mm_M} {Q : Option Value → mm_M → Prop} {a : Int32} {b : Int32} (hX : g_X X) (hd : 0 ≤ d) (hG : g_G M) (q1 : 0 ≤ a.toInt) (q2 : a.toInt ≤ 59) (q3 : a.toInt ≤ b.toInt) (q4 : 0 ≤ b.toInt) (q5 : b.toInt ≤ 59) (h : ∀ (r : Int64) (M1 : mm_M), g_G M1 → FR md_0 M M1 → (r = x_bw a.toInt b.toInt) → Q (some (.long r)) M1) : mm_T X d 167 0 [.int a, .int b, .null, .null, .null] [] M Q := by
  have F0 : FR md_0 M M := FR.rf
  refine to_cl (pc := 0) rw_168_0 rfl (x := (0 : Int64)) rfl (to_lsn (pc := 1) rw_168_1 (ls2 := [.int a, .int b, .long (0 : Int64), .null, .null]) rfl rfl (to_in (pc := 2) rw_168_2 rfl (to_is (pc := 3) rw_168_3 (ls2 := [.int a, .int b, .long (0 : Int64), .null, .int a]) rfl rfl ?_)))
  exact (U_168_0 (a := a) (b := b) hX hd q1 q2 q3 q4 q5 h ((64 - a.toInt).toNat + 1)) M (.int a) (0 : Int64) a hG F0 (by omega) (by omega) (by omega) (by omega) rfl (by omega)
set_option maxRecDepth 4000 in
set_option maxHeartbeats 0 in
theorem E_164 {X : mm_X} {d : Nat} {M : mm_M} {Q : Option Value → mm_M → Prop} (hX : g_X X) (hd : 0 ≤ d) (hG : g_G M) (h : ∀ (M1 : mm_M), g_G M1 → FR md_p0 M M1 → (PLr M1 x_s0) → Q (none) M1) : mm_T X d 163 0 [.ref 77] [] M Q := by
  have F0 : FR md_p0 M M := FR.rf
  refine to_an (pc := 0) rw_164_0 rfl (to_c (pc := 1) rw_164_1 (x := (10 : Int32)) rfl rfl (s_pI (pc := 3) rw_164_3 hG rfl (fun M2 W1 => ?_)))
  have hG3 := g_w hG W1 (A := 10) rfl (lo := 10) (hi := 60) rfl rfl (by omega) (by decide)
  have F4 := FR.w F0 W1 (show 77 = 77 ∧ (14 ≤ 14 ∧ 14 ≤ 16 ∨ 14 = 25) by decide)
  refine to_an (pc := 6) rw_164_6 rfl (to_c (pc := 7) rw_164_7 (x := (0 : Int32)) rfl rfl (s_pI (pc := 8) rw_164_8 hG3 rfl (fun M6 W5 => ?_)))
  have hG7 := g_w hG3 W5 (A := 0) rfl (lo := 0) (hi := 8) rfl rfl (by omega) (by decide)
  have F8 := FR.w F4 W5 (show 77 = 77 ∧ (14 ≤ 15 ∧ 15 ≤ 16 ∨ 15 = 25) by decide)
  refine to_an (pc := 11) rw_164_11 rfl (to_c (pc := 12) rw_164_12 (x := (0 : Int32)) rfl rfl (s_pI (pc := 13) rw_164_13 hG7 rfl (fun M10 W9 => ?_)))
  have hG11 := g_w hG7 W9 (A := 0) rfl (lo := 0) (hi := 12) rfl rfl (by omega) (by decide)
  have F12 := FR.w F8 W9 (show 77 = 77 ∧ (14 ≤ 16 ∧ 16 ≤ 16 ∨ 16 = 25) by decide)
  refine to_an (pc := 16) rw_164_16 rfl (to_cl (pc := 17) rw_164_17 rfl (x := (0 : Int64)) rfl (s_pJ (pc := 18) rw_164_18 hG11 rfl (fun M14 W13 => ?_)))
  have hG15 := g_wl hG11 W13
  have F16 := FR.wl F12 W13 (show 77 = 77 ∧ (14 ≤ 25 ∧ 25 ≤ 16 ∨ 25 = 25) by decide)
  refine to_rv (pc := 21) rw_164_21 ?_
  have c_17 : M14.2.1 77 14 = (10 : Int32) := (W_l W13 (W_n W9 (by decide) (W_n W5 (by decide) (W_e W1))))
  have k_18 : (10 : Int32).toInt = 10 := rfl
  have t_19 : (M14.2.1 77 14).toInt = (10 : Int32).toInt := congrArg Int32.toInt c_17
  have c_20 : M14.2.1 77 15 = (0 : Int32) := (W_l W13 (W_n W9 (by decide) (W_e W5)))
  have k_21 : (0 : Int32).toInt = 0 := rfl
  have t_22 : (M14.2.1 77 15).toInt = (0 : Int32).toInt := congrArg Int32.toInt c_20
  have c_23 : M14.2.1 77 16 = (0 : Int32) := (W_l W13 (W_e W9))
  have t_24 : (M14.2.1 77 16).toInt = (0 : Int32).toInt := congrArg Int32.toInt c_23
  exact h M14 hG15 F16 (PLr_0 (by omega) (by omega) (by omega) (L_e W13))
end
