theorem tg_9 {M M1 : mm_M} (F : FR (fun a i : Nat => a < 0) M M1) : ∀ a i : Nat, a = 78 → M1.2.1 a i = M.2.1 a i := fun a i z => F_n F (show ¬ (a < 0) by omega) rfl
theorem tg_10 : ∀ a i : Nat, (a < 0) → (a = 77 ∧ 7 ≤ i ∧ i ≤ 10) := fun a i z => by omega
theorem tg_11 : ∀ a i : Nat, (a = 77 ∧ 7 ≤ i ∧ i ≤ 10) → (a = 77 ∧ (i = 1 ∨ 4 ≤ i ∧ i ≤ 10)) := fun a i z => by omega
theorem tg_12 : ∀ a i : Nat, a = 78 → ¬ (a = 77 ∧ i = 7) := fun a i z => by omega
theorem tg_13 : ∀ a i : Nat, a = 78 → ¬ (a = 77 ∧ i = 9) := fun a i z => by omega
theorem tg_14 : ∀ a i : Nat, a = 79 → ¬ (a = 77 ∧ i = 7) := fun a i z => by omega
theorem tg_15 : ∀ a i : Nat, a = 79 → ¬ (a = 77 ∧ i = 9) := fun a i z => by omega
theorem tg_16 : ∀ a i : Nat, a = 78 → ¬ (a = 77 ∧ i = 8) := fun a i z => by omega
theorem tg_17 : ∀ a i : Nat, a = 78 → ¬ (a = 77 ∧ i = 10) := fun a i z => by omega
theorem tg_18 : ∀ a i : Nat, a = 79 → ¬ (a = 77 ∧ i = 8) := fun a i z => by omega
theorem tg_19 : ∀ a i : Nat, a = 79 → ¬ (a = 77 ∧ i = 10) := fun a i z => by omega
theorem tg_20 : ∀ a i : Nat, a = 78 → ¬ (a = 77 ∧ i = 5) := fun a i z => by omega
theorem tg_21 : ∀ a i : Nat, a = 78 → ¬ (a = 77 ∧ i = 4) := fun a i z => by omega
theorem tg_22 : ∀ a i : Nat, a = 78 → ¬ (a = 77 ∧ i = 1) := fun a i z => by omega
theorem tg_23 : ∀ a i : Nat, a = 78 → ¬ (a = 77 ∧ i = 6) := fun a i z => by omega
theorem tg_24 : ∀ a i : Nat, a = 79 → ¬ (a = 77 ∧ i = 5) := fun a i z => by omega
theorem tg_25 : ∀ a i : Nat, a = 79 → ¬ (a = 77 ∧ i = 4) := fun a i z => by omega
theorem tg_26 : ∀ a i : Nat, a = 79 → ¬ (a = 77 ∧ i = 1) := fun a i z => by omega
theorem tg_27 : ∀ a i : Nat, a = 79 → ¬ (a = 77 ∧ i = 6) := fun a i z => by omega
set_option maxRecDepth 4000 in
set_option maxHeartbeats 0 in
theorem U_156_0 {X : mm_X} {d : Nat} {M : mm_M} {Q : Option Value → mm_M → Prop} {t : Nat → Int} {nn : Int} (hX : g_X X) (hd : 1 ≤ d) (q1 : (M.2.1 77 7).toInt ≤ (M.2.1 77 6).toInt) (q2 : (M.2.1 77 6).toInt = nn) (q3 : 0 ≤ nn) (q4 : nn ≤ 500) (q5 : TR M t nn) (q6 : W9 M) (h : ∀ (M1 : mm_M), g_G M1 → FR md_tk M M1 → ((M1.2.1 77 7).toInt ≤ (M1.2.1 77 6).toInt) → ((M.2.1 77 7).toInt ≤ (M1.2.1 77 7).toInt) → ((M1.2.1 77 8).toInt = 0 ∨ (M.2.1 77 7).toInt < (M1.2.1 77 7).toInt) → (RS M1 t nn ∧ (M1.2.1 77 10).toInt = x_sk t nn (M.2.1 77 7).toInt) → Q (none) M1) : ∀ nn9 : Nat, (∀ (N : mm_M), g_G N → FR md_tk M N → ((N.2.1 77 7).toInt ≤ (N.2.1 77 6).toInt) → ((N.2.1 77 10).toInt ≤ (N.2.1 77 7).toInt) → ((N.2.1 77 10).toInt < nn) → ((M.2.1 77 7).toInt ≤ (N.2.1 77 10).toInt) → (48 ≤ t ((N.2.1 77 10).toInt).toNat ∧ t ((N.2.1 77 10).toInt).toNat ≤ 57) → ((N.2.1 77 8).toInt = 3) → (0 ≤ (N.2.1 77 9).toInt) → ((N.2.1 77 9).toInt ≤ 999) → ((N.2.1 77 10).toInt = x_sk t nn (M.2.1 77 7).toInt) → (x_num t nn (N.2.1 77 7).toInt (x_mn (N.2.1 77 9).toInt) = x_num t nn (N.2.1 77 10).toInt 0) → (x_end x_dg t nn (N.2.1 77 7).toInt = x_end x_dg t nn (N.2.1 77 10).toInt) → ((N.2.1 77 6).toInt = nn) → (0 ≤ nn) → (nn ≤ 500) → (TR N t nn) → (W9 N) → 500 - (N.2.1 77 7).toInt < (nn9 : Int) → mm_T X d 155 212 [.ref 77] [] N Q) := by
  intro nn9
  induction nn9 with
  | zero =>
    intro N hG F0 g1 g2 g3 g4 g5 g6 g7 g8 g9 g10 g11 g12 g13 g14 g15 g16 hm
    have b_1 := g_b hG (a := 77) (i := 7) (lo := 0) (hi := 500) rfl rfl
    have b_2 := g_b hG (a := 77) (i := 6) (lo := 0) (hi := 500) rfl rfl
    have b_3 := g_b hG (a := 77) (i := 10) (lo := 0) (hi := 500) rfl rfl
    have b_4 := g_b hG (a := 77) (i := 8) (lo := 0) (hi := 5) rfl rfl
    exfalso; omega
  | succ nn9 ih =>
    intro N hG F0 g1 g2 g3 g4 g5 g6 g7 g8 g9 g10 g11 g12 g13 g14 g15 g16 hm
    have b_5 := g_b hG (a := 77) (i := 7) (lo := 0) (hi := 500) rfl rfl
    have b_6 := g_b hG (a := 77) (i := 6) (lo := 0) (hi := 500) rfl rfl
    have b_7 := g_b hG (a := 77) (i := 10) (lo := 0) (hi := 500) rfl rfl
    have b_8 := g_b hG (a := 77) (i := 8) (lo := 0) (hi := 5) rfl rfl
    refine to_an (pc := 212) rw_156_212 rfl (to_an (pc := 213) rw_156_213 rfl (tt_gI (pc := 214) rw_156_214 (g_o hG rfl) (v := (N.2.1 77 7)) rfl (s_v (pc := 217) rw_156_217 (dp0 hd (by decide)) (ls0 := [.ref 77, .int (N.2.1 77 7)]) rfl (Nat.le_of_ble_eq_true rfl) (Nat.le_of_ble_eq_true rfl) rfl (to_rc rfl rfl rfl (g_o hG rfl)) rfl (to_in (pc := 0) rw_155_0 rfl (to_an (pc := 1) rw_155_1 rfl (tt_gI (pc := 2) rw_155_2 (g_o hG rfl) (v := (N.2.1 77 6)) rfl (b_cge (pc := 5) rw_155_5 (A := (N.2.1 77 7).toInt) (B := (N.2.1 77 6).toInt) rfl rfl (fun h9 => ?_) (fun h9 => ?_))))))))
    · refine to_c (pc := 34) rw_155_34 (x := (0 : Int32)) rfl rfl (s_r1 (pc := 35) rw_155_35 (A := 0) rfl (by decide) (b_ieq_t (pc := 220) rw_156_220 (A := 0) rfl (by decide) (to_rv (pc := 344) rw_156_344 ?_)))
      have z_10 := x_mn_x (t := t) (nn := nn) (x := (N.2.1 77 7).toInt) (by omega) (by omega) g10
      have z_11 : x_end x_dg t nn (N.2.1 77 7).toInt = (N.2.1 77 7).toInt := x_no (by omega) (by first | exact Or.inl (by omega) | exact Or.inr (x_dg_f (by omega)))
      have z_12 := g11
      have z_13 := (x_td (t := t) (n := nn) (a := (N.2.1 77 10).toInt) (by omega) (by omega)).2.2
      have z_14 := x_nx_b (t := t) (n := nn) (a := (N.2.1 77 10).toInt) (by omega) (by omega)
      have z_15 := x_R_d (t := t) (n := nn) (a := (N.2.1 77 10).toInt) (w := (N.2.1 77 9).toInt) (by omega) (by omega) (by omega) (by omega)
      have z_16 := g9
      exact h N hG F0 (by omega) (by omega) (by omega) (RS_m (a := (N.2.1 77 10).toInt) (kd := 3) (wh := (N.2.1 77 9).toInt) (by omega) (by omega) (by omega) (by omega) (by omega) (by omega) (by omega) (by omega) z_15)
    · refine to_an (pc := 8) rw_155_8 rfl (s_gR (pc := 9) rw_155_9 hG rfl (v := 78) rfl (to_in (pc := 12) rw_155_12 rfl (s_ial (pc := 13) rw_155_13 hG rfl (n := 500) rfl rfl (A := (N.2.1 77 7).toInt) rfl (by omega) (by omega) (lo := 0) (hi := 255) rfl rfl (fun v17 w_18 _ _ => ?_))))
      have z_19 := TR_u g15 (A := (N.2.1 77 7).toInt) (B := (N.2.1 77 7).toInt) (by omega) (by omega) w_18 rfl
      refine to_c (pc := 14) rw_155_14 (x := (48 : Int32)) rfl rfl (b_clt (pc := 16) rw_155_16 (A := v17.toInt) (B := 48) rfl rfl (fun h20 => ?_) (fun h20 => ?_))
      · refine to_c (pc := 34) rw_155_34 (x := (0 : Int32)) rfl rfl (s_r1 (pc := 35) rw_155_35 (A := 0) rfl (by decide) (b_ieq_t (pc := 220) rw_156_220 (A := 0) rfl (by decide) (to_rv (pc := 344) rw_156_344 ?_)))
        have z_21 := x_mn_x (t := t) (nn := nn) (x := (N.2.1 77 7).toInt) (by omega) (by omega) g10
        have z_22 : x_end x_dg t nn (N.2.1 77 7).toInt = (N.2.1 77 7).toInt := x_no (by omega) (by first | exact Or.inl (by omega) | exact Or.inr (x_dg_f (by omega)))
        have z_23 := g11
        have z_24 := (x_td (t := t) (n := nn) (a := (N.2.1 77 10).toInt) (by omega) (by omega)).2.2
        have z_25 := x_nx_b (t := t) (n := nn) (a := (N.2.1 77 10).toInt) (by omega) (by omega)
        have z_26 := x_R_d (t := t) (n := nn) (a := (N.2.1 77 10).toInt) (w := (N.2.1 77 9).toInt) (by omega) (by omega) (by omega) (by omega)
        have z_27 := g9
        exact h N hG F0 (by omega) (by omega) (by omega) (RS_m (a := (N.2.1 77 10).toInt) (kd := 3) (wh := (N.2.1 77 9).toInt) (by omega) (by omega) (by omega) (by omega) (by omega) (by omega) (by omega) (by omega) z_26)
      · refine to_an (pc := 19) rw_155_19 rfl (s_gR (pc := 20) rw_155_20 hG rfl (v := 78) rfl (to_in (pc := 23) rw_155_23 rfl (s_ialk (pc := 24) rw_155_24 hG rfl (n := 500) rfl rfl (A := (N.2.1 77 7).toInt) rfl (by omega) (by omega) (v := v17) w_18 (to_c (pc := 25) rw_155_25 (x := (57 : Int32)) rfl rfl (b_cgt (pc := 27) rw_155_27 (A := v17.toInt) (B := 57) rfl rfl (fun h30 => ?_) (fun h30 => ?_))))))
        · refine to_c (pc := 34) rw_155_34 (x := (0 : Int32)) rfl rfl (s_r1 (pc := 35) rw_155_35 (A := 0) rfl (by decide) (b_ieq_t (pc := 220) rw_156_220 (A := 0) rfl (by decide) (to_rv (pc := 344) rw_156_344 ?_)))
          have z_31 := x_mn_x (t := t) (nn := nn) (x := (N.2.1 77 7).toInt) (by omega) (by omega) g10
          have z_32 : x_end x_dg t nn (N.2.1 77 7).toInt = (N.2.1 77 7).toInt := x_no (by omega) (by first | exact Or.inl (by omega) | exact Or.inr (x_dg_f (by omega)))
          have z_33 := g11
          have z_34 := (x_td (t := t) (n := nn) (a := (N.2.1 77 10).toInt) (by omega) (by omega)).2.2
          have z_35 := x_nx_b (t := t) (n := nn) (a := (N.2.1 77 10).toInt) (by omega) (by omega)
          have z_36 := x_R_d (t := t) (n := nn) (a := (N.2.1 77 10).toInt) (w := (N.2.1 77 9).toInt) (by omega) (by omega) (by omega) (by omega)
          have z_37 := g9
          exact h N hG F0 (by omega) (by omega) (by omega) (RS_m (a := (N.2.1 77 10).toInt) (kd := 3) (wh := (N.2.1 77 9).toInt) (by omega) (by omega) (by omega) (by omega) (by omega) (by omega) (by omega) (by omega) z_36)
        · refine to_c (pc := 30) rw_155_30 (x := (1 : Int32)) rfl rfl (to_go (pc := 31) rw_155_31 (s_r1 (pc := 35) rw_155_35 (A := 1) rfl (by decide) (b_ieq_f (pc := 220) rw_156_220 (A := 1) rfl (by decide) (to_an (pc := 223) rw_156_223 rfl (to_an (pc := 224) rw_156_224 rfl (tt_gI (pc := 225) rw_156_225 (g_o hG rfl) (v := (N.2.1 77 9)) rfl (to_c (pc := 228) rw_156_228 (x := (99 : Int32)) rfl rfl (b_cle (pc := 230) rw_156_230 (A := (N.2.1 77 9).toInt) (B := 99) rfl rfl (fun h38 => ?_) (fun h38 => ?_)))))))))
          · refine to_c (pc := 240) rw_156_240 (x := (10 : Int32)) rfl rfl (to_an (pc := 242) rw_156_242 rfl (tt_gI (pc := 243) rw_156_243 (g_o hG rfl) (v := (N.2.1 77 9)) rfl (s_mul (pc := 246) rw_156_246 (A := 10) (B := (N.2.1 77 9).toInt) rfl rfl (by omega) (fun v39 e40 => to_an (pc := 247) rw_156_247 rfl (s_gR (pc := 248) rw_156_248 hG rfl (v := 78) rfl (to_an (pc := 251) rw_156_251 rfl (tt_gI (pc := 252) rw_156_252 (g_o hG rfl) (v := (N.2.1 77 7)) rfl (s_ialk (pc := 255) rw_156_255 hG rfl (n := 500) rfl rfl (A := (N.2.1 77 7).toInt) rfl (by omega) (by omega) (v := v17) w_18 (s_add (pc := 256) rw_156_256 (A := v39.toInt) (B := v17.toInt) rfl rfl (by omega) (fun v43 e44 => to_c (pc := 257) rw_156_257 (x := (48 : Int32)) rfl rfl (s_sub (pc := 259) rw_156_259 (A := v43.toInt) (B := 48) rfl rfl (by omega) (fun v45 e46 => ?_))))))))))))
            refine s_pI (pc := 260) rw_156_260 hG rfl (fun M48 W47 => ?_)
            have hG49 := g_wf hG W47 rfl rfl (by decide)
            have F50 := FR.w F0 W47 (show 77 = 77 ∧ 7 ≤ 9 ∧ 9 ≤ 10 by decide)
            refine to_an (pc := 263) rw_156_263 rfl (to_dupr (pc := 264) rw_156_264 ?_)
            have c_51 : M48.2.1 77 7 = (N.2.1 77 7) := (W_n W47 (by decide) rfl)
            refine tt_gI (pc := 265) rw_156_265 (g_o hG49 rfl) (v := (N.2.1 77 7)) c_51 (to_c (pc := 268) rw_156_268 (x := (1 : Int32)) rfl rfl (s_add (pc := 269) rw_156_269 (A := (N.2.1 77 7).toInt) (B := 1) rfl rfl (by omega) (fun v52 e53 => s_pI (pc := 270) rw_156_270 hG49 rfl (fun M55 W54 => ?_))))
            have hG56 := g_w hG49 W54 (A := v52.toInt) rfl (lo := 0) (hi := 500) rfl rfl (by omega) (by decide)
            have F57 := FR.w F50 W54 (show 77 = 77 ∧ 7 ≤ 7 ∧ 7 ≤ 10 by decide)
            refine to_go (pc := 273) rw_156_273 ?_
            have c_58 : M55.2.1 77 7 = v52 := (W_e W54)
            have t_59 : (M55.2.1 77 7).toInt = v52.toInt := congrArg Int32.toInt c_58
            have c_60 : M55.2.1 77 6 = (N.2.1 77 6) := (W_n W54 (by decide) (W_n W47 (by decide) rfl))
            have t_61 : (M55.2.1 77 6).toInt = (N.2.1 77 6).toInt := congrArg Int32.toInt c_60
            have c_62 : M55.2.1 77 10 = (N.2.1 77 10) := (W_n W54 (by decide) (W_n W47 (by decide) rfl))
            have t_63 : (M55.2.1 77 10).toInt = (N.2.1 77 10).toInt := congrArg Int32.toInt c_62
            have c_64 : M55.2.1 77 8 = (N.2.1 77 8) := (W_n W54 (by decide) (W_n W47 (by decide) rfl))
            have t_65 : (M55.2.1 77 8).toInt = (N.2.1 77 8).toInt := congrArg Int32.toInt c_64
            have c_66 : M55.2.1 77 9 = v45 := (W_n W54 (by decide) (W_e W47))
            have t_67 : (M55.2.1 77 9).toInt = v45.toInt := congrArg Int32.toInt c_66
            have z_68 := g9
            have j_69 := (TR_f (fun a i z => W_n W54 (tg_12 a i z) rfl) (TR_f (fun a i z => W_n W47 (tg_13 a i z) rfl) g15))
            have j_70 := (W9_f (fun a i z => W_n W54 (tg_14 a i z) rfl) (W9_f (fun a i z => W_n W47 (tg_15 a i z) rfl) g16))
            exact ih M55  hG56 F57 (by omega) (by omega) (by omega) (by omega) (by rw [show (M55.2.1 77 10).toInt = (N.2.1 77 10).toInt by omega]; exact g5) (by omega) (by omega) (by omega) (by omega) ((x_mn_e (x := (N.2.1 77 7).toInt) (by omega) (by omega) (by omega) (by omega) (w := (N.2.1 77 9).toInt) (by omega) (by omega) g10).trans (congrArg (fun z => x_num t nn z 0) (show (N.2.1 77 10).toInt = (M55.2.1 77 10).toInt by omega))) ((x_ed_e (x4 := (N.2.1 77 7).toInt) (by omega) (by omega) (by omega) (by omega) g11).trans (congrArg (x_end x_dg t nn) (show (N.2.1 77 10).toInt = (M55.2.1 77 10).toInt by omega))) (by omega) (by omega) (by omega) j_69 j_70 (by omega)
          · refine to_an (pc := 233) rw_156_233 rfl (tt_gI (pc := 234) rw_156_234 (g_o hG rfl) (v := (N.2.1 77 9)) rfl (to_go (pc := 237) rw_156_237 (s_pI (pc := 260) rw_156_260 hG rfl (fun M72 W71 => ?_))))
            have hG73 := g_wf hG W71 rfl rfl (by decide)
            have F74 := FR.w F0 W71 (show 77 = 77 ∧ 7 ≤ 9 ∧ 9 ≤ 10 by decide)
            refine to_an (pc := 263) rw_156_263 rfl (to_dupr (pc := 264) rw_156_264 ?_)
            have c_75 : M72.2.1 77 7 = (N.2.1 77 7) := (W_n W71 (by decide) rfl)
            refine tt_gI (pc := 265) rw_156_265 (g_o hG73 rfl) (v := (N.2.1 77 7)) c_75 (to_c (pc := 268) rw_156_268 (x := (1 : Int32)) rfl rfl (s_add (pc := 269) rw_156_269 (A := (N.2.1 77 7).toInt) (B := 1) rfl rfl (by omega) (fun v76 e77 => s_pI (pc := 270) rw_156_270 hG73 rfl (fun M79 W78 => ?_))))
            have hG80 := g_w hG73 W78 (A := v76.toInt) rfl (lo := 0) (hi := 500) rfl rfl (by omega) (by decide)
            have F81 := FR.w F74 W78 (show 77 = 77 ∧ 7 ≤ 7 ∧ 7 ≤ 10 by decide)
            refine to_go (pc := 273) rw_156_273 ?_
            have c_82 : M79.2.1 77 7 = v76 := (W_e W78)
            have t_83 : (M79.2.1 77 7).toInt = v76.toInt := congrArg Int32.toInt c_82
            have c_84 : M79.2.1 77 6 = (N.2.1 77 6) := (W_n W78 (by decide) (W_n W71 (by decide) rfl))
            have t_85 : (M79.2.1 77 6).toInt = (N.2.1 77 6).toInt := congrArg Int32.toInt c_84
            have c_86 : M79.2.1 77 10 = (N.2.1 77 10) := (W_n W78 (by decide) (W_n W71 (by decide) rfl))
            have t_87 : (M79.2.1 77 10).toInt = (N.2.1 77 10).toInt := congrArg Int32.toInt c_86
            have c_88 : M79.2.1 77 8 = (N.2.1 77 8) := (W_n W78 (by decide) (W_n W71 (by decide) rfl))
            have t_89 : (M79.2.1 77 8).toInt = (N.2.1 77 8).toInt := congrArg Int32.toInt c_88
            have c_90 : M79.2.1 77 9 = (N.2.1 77 9) := (W_n W78 (by decide) (W_e W71))
            have t_91 : (M79.2.1 77 9).toInt = (N.2.1 77 9).toInt := congrArg Int32.toInt c_90
            have z_92 := g9
            have j_93 := (TR_f (fun a i z => W_n W78 (tg_12 a i z) rfl) (TR_f (fun a i z => W_n W71 (tg_13 a i z) rfl) g15))
            have j_94 := (W9_f (fun a i z => W_n W78 (tg_14 a i z) rfl) (W9_f (fun a i z => W_n W71 (tg_15 a i z) rfl) g16))
            exact ih M79  hG80 F81 (by omega) (by omega) (by omega) (by omega) (by rw [show (M79.2.1 77 10).toInt = (N.2.1 77 10).toInt by omega]; exact g5) (by omega) (by omega) (by omega) (by omega) ((x_mn_e (x := (N.2.1 77 7).toInt) (by omega) (by omega) (by omega) (by omega) (w := (N.2.1 77 9).toInt) (by omega) (by omega) g10).trans (congrArg (fun z => x_num t nn z 0) (show (N.2.1 77 10).toInt = (M79.2.1 77 10).toInt by omega))) ((x_ed_e (x4 := (N.2.1 77 7).toInt) (by omega) (by omega) (by omega) (by omega) g11).trans (congrArg (x_end x_dg t nn) (show (N.2.1 77 10).toInt = (M79.2.1 77 10).toInt by omega))) (by omega) (by omega) (by omega) j_93 j_94 (by omega)
set_option maxRecDepth 4000 in
set_option maxHeartbeats 0 in
theorem U_156_1 {X : mm_X} {d : Nat} {M : mm_M} {Q : Option Value → mm_M → Prop} {t : Nat → Int} {nn : Int} (hX : g_X X) (hd : 1 ≤ d) (q1 : (M.2.1 77 7).toInt ≤ (M.2.1 77 6).toInt) (q2 : (M.2.1 77 6).toInt = nn) (q3 : 0 ≤ nn) (q4 : nn ≤ 500) (q5 : TR M t nn) (q6 : W9 M) (h : ∀ (M1 : mm_M), g_G M1 → FR md_tk M M1 → ((M1.2.1 77 7).toInt ≤ (M1.2.1 77 6).toInt) → ((M.2.1 77 7).toInt ≤ (M1.2.1 77 7).toInt) → ((M1.2.1 77 8).toInt = 0 ∨ (M.2.1 77 7).toInt < (M1.2.1 77 7).toInt) → (RS M1 t nn ∧ (M1.2.1 77 10).toInt = x_sk t nn (M.2.1 77 7).toInt) → Q (none) M1) : ∀ nn9 : Nat, (∀ (N : mm_M), g_G N → FR md_tk M N → ((N.2.1 77 7).toInt ≤ (N.2.1 77 6).toInt) → ((N.2.1 77 10).toInt ≤ (N.2.1 77 7).toInt) → ((N.2.1 77 10).toInt < nn) → ((M.2.1 77 7).toInt ≤ (N.2.1 77 10).toInt) → (97 ≤ t ((N.2.1 77 10).toInt).toNat ∧ t ((N.2.1 77 10).toInt).toNat ≤ 122) → ((N.2.1 77 10).toInt = x_sk t nn (M.2.1 77 7).toInt) → (x_e t nn (N.2.1 77 7).toInt = x_e t nn (N.2.1 77 10).toInt) → (∀ i : Nat, i < ((N.2.1 77 7).toInt - (N.2.1 77 10).toInt).toNat → 97 ≤ t (((N.2.1 77 10).toInt).toNat + i) ∧ t (((N.2.1 77 10).toInt).toNat + i) ≤ 122) → ((N.2.1 77 6).toInt = nn) → (0 ≤ nn) → (nn ≤ 500) → (TR N t nn) → (W9 N) → 500 - (N.2.1 77 7).toInt < (nn9 : Int) → mm_T X d 155 90 [.ref 77] [] N Q) := by
  intro nn9
  induction nn9 with
  | zero =>
    intro N hG F0 g1 g2 g3 g4 g5 g6 g7 g8 g9 g10 g11 g12 g13 hm
    have b_95 := g_b hG (a := 77) (i := 7) (lo := 0) (hi := 500) rfl rfl
    have b_96 := g_b hG (a := 77) (i := 6) (lo := 0) (hi := 500) rfl rfl
    have b_97 := g_b hG (a := 77) (i := 10) (lo := 0) (hi := 500) rfl rfl
    exfalso; omega
  | succ nn9 ih =>
    intro N hG F0 g1 g2 g3 g4 g5 g6 g7 g8 g9 g10 g11 g12 g13 hm
    have b_98 := g_b hG (a := 77) (i := 7) (lo := 0) (hi := 500) rfl rfl
    have b_99 := g_b hG (a := 77) (i := 6) (lo := 0) (hi := 500) rfl rfl
    have b_100 := g_b hG (a := 77) (i := 10) (lo := 0) (hi := 500) rfl rfl
    refine to_an (pc := 90) rw_156_90 rfl (to_an (pc := 91) rw_156_91 rfl (tt_gI (pc := 92) rw_156_92 (g_o hG rfl) (v := (N.2.1 77 7)) rfl (s_v (pc := 95) rw_156_95 (dp0 hd (by decide)) (ls0 := [.ref 77, .int (N.2.1 77 7)]) rfl (Nat.le_of_ble_eq_true rfl) (Nat.le_of_ble_eq_true rfl) rfl (to_rc rfl rfl rfl (g_o hG rfl)) rfl (to_in (pc := 0) rw_154_0 rfl (to_an (pc := 1) rw_154_1 rfl (tt_gI (pc := 2) rw_154_2 (g_o hG rfl) (v := (N.2.1 77 6)) rfl (b_cge (pc := 5) rw_154_5 (A := (N.2.1 77 7).toInt) (B := (N.2.1 77 6).toInt) rfl rfl (fun h101 => ?_) (fun h101 => ?_))))))))
    · refine to_c (pc := 34) rw_154_34 (x := (0 : Int32)) rfl rfl (s_r1 (pc := 35) rw_154_35 (A := 0) rfl (by decide) (b_ieq_t (pc := 98) rw_156_98 (A := 0) rfl (by decide) ?_))
      have z_102 : x_e t nn (N.2.1 77 7).toInt = (N.2.1 77 7).toInt := x_no (by omega) (by first | exact Or.inl (by omega) | exact Or.inr (x_lt_f (by omega)))
      have z_103 := g7
      have z_104 : x_e t nn (N.2.1 77 10).toInt = (N.2.1 77 7).toInt := by omega
      refine to_an (pc := 114) rw_156_114 rfl (to_an (pc := 115) rw_156_115 rfl (to_an (pc := 116) rw_156_116 rfl (tt_gI (pc := 117) rw_156_117 (g_o hG rfl) (v := (N.2.1 77 10)) rfl (to_an (pc := 120) rw_156_120 rfl (tt_gI (pc := 121) rw_156_121 (g_o hG rfl) (v := (N.2.1 77 7)) rfl (s_v (pc := 124) rw_156_124 (dp0 hd (by decide)) (ls0 := [.ref 77, .int (N.2.1 77 10), .int (N.2.1 77 7), .null, .null, .null, .null, .null]) rfl (Nat.le_of_ble_eq_true rfl) (Nat.le_of_ble_eq_true rfl) rfl (to_rc rfl rfl rfl (g_o hG rfl)) rfl (E_153 hX (dp1 hd (by decide)) hG (by omega) (by omega) (by omega) (by omega) (by omega) (by omega) (by omega) g12 g13 (a := (N.2.1 77 10)) (b := (N.2.1 77 7)) (fun r105 M111 hG107 F106 p_108 p_109 p_110 => ?_))))))))
      have F112 := FR.c F0 F106 tg_10
      refine s_pI (pc := 127) rw_156_127 hG107 rfl (fun M114 W113 => ?_)
      have hG115 := g_wf hG107 W113 rfl rfl (by decide)
      have F116 := FR.w F112 W113 (show 77 = 77 ∧ 7 ≤ 9 ∧ 9 ≤ 10 by decide)
      refine to_an (pc := 130) rw_156_130 rfl (to_an (pc := 131) rw_156_131 rfl ?_)
      have c_117 : M114.2.1 77 9 = r105 := (W_e W113)
      refine tt_gI (pc := 132) rw_156_132 (g_o hG115 rfl) (v := r105) c_117 (b_ilt (pc := 135) rw_156_135 (A := r105.toInt) rfl (fun h118 => ?_) (fun h118 => ?_))
      · refine to_an (pc := 142) rw_156_142 rfl ?_
        have c_119 : M114.2.1 77 7 = (N.2.1 77 7) := (W_n W113 (by decide) (F_n F106 (show ¬ (77 < 0) by decide) rfl))
        refine tt_gI (pc := 143) rw_156_143 (g_o hG115 rfl) (v := (N.2.1 77 7)) c_119 (to_an (pc := 146) rw_156_146 rfl ?_)
        have c_120 : M114.2.1 77 10 = (N.2.1 77 10) := (W_n W113 (by decide) (F_n F106 (show ¬ (77 < 0) by decide) rfl))
        refine tt_gI (pc := 147) rw_156_147 (g_o hG115 rfl) (v := (N.2.1 77 10)) c_120 (s_sub (pc := 150) rw_156_150 (A := (N.2.1 77 7).toInt) (B := (N.2.1 77 10).toInt) rfl rfl (by omega) (fun v121 e122 => to_c (pc := 151) rw_156_151 (x := (6 : Int32)) rfl rfl (b_cle (pc := 153) rw_156_153 (A := v121.toInt) (B := 6) rfl rfl (fun h123 => ?_) (fun h123 => ?_))))
        · refine to_c (pc := 160) rw_156_160 (x := (2 : Int32)) rfl rfl (s_pI (pc := 161) rw_156_161 hG115 rfl (fun M125 W124 => ?_))
          have hG126 := g_w hG115 W124 (A := 2) rfl (lo := 0) (hi := 5) rfl rfl (by omega) (by decide)
          have F127 := FR.w F116 W124 (show 77 = 77 ∧ 7 ≤ 8 ∧ 8 ≤ 10 by decide)
          refine to_an (pc := 164) rw_156_164 rfl ?_
          have c_128 : M125.2.1 77 8 = (2 : Int32) := (W_e W124)
          refine tt_gI (pc := 165) rw_156_165 (g_o hG126 rfl) (v := (2 : Int32)) c_128 (to_c (pc := 168) rw_156_168 (x := (2 : Int32)) rfl rfl (b_cne_f (pc := 169) rw_156_169 (A := 2) (B := 2) rfl rfl (by decide) (to_an (pc := 172) rw_156_172 rfl (to_an (pc := 173) rw_156_173 rfl (to_an (pc := 174) rw_156_174 rfl ?_)))))
          have c_129 : M125.2.1 77 10 = (N.2.1 77 10) := (W_n W124 (by decide) c_120)
          refine tt_gI (pc := 175) rw_156_175 (g_o hG126 rfl) (v := (N.2.1 77 10)) c_129 (to_an (pc := 178) rw_156_178 rfl ?_)
          have c_130 : M125.2.1 77 7 = (N.2.1 77 7) := (W_n W124 (by decide) c_119)
          refine tt_gI (pc := 179) rw_156_179 (g_o hG126 rfl) (v := (N.2.1 77 7)) c_130 (s_v (pc := 182) rw_156_182 (dp0 hd (by decide)) (ls0 := [.ref 77, .int (N.2.1 77 10), .int (N.2.1 77 7), .null, .null]) rfl (Nat.le_of_ble_eq_true rfl) (Nat.le_of_ble_eq_true rfl) rfl (to_rc rfl rfl rfl (g_o hG126 rfl)) rfl ?_)
          have j_131 := (TR_f (fun a i z => W_n W124 (tg_16 a i z) rfl) (TR_f (fun a i z => W_n W113 (tg_13 a i z) rfl) (TR_f (tg_9 F106) g12)))
          refine E_157 hX (dp1 hd (by decide)) hG126 (by omega) (by omega) (by omega) (by omega) (by omega) (by omega) (by omega) j_131 g8 (a := (N.2.1 77 10)) (b := (N.2.1 77 7)) (fun r132 M136 hG134 F133 p_135 => ?_)
          have F137 := FR.c F127 F133 tg_10
          refine s_pI (pc := 185) rw_156_185 hG134 rfl (fun M139 W138 => ?_)
          have hG140 := g_wf hG134 W138 rfl rfl (by decide)
          have F141 := FR.w F137 W138 (show 77 = 77 ∧ 7 ≤ 9 ∧ 9 ≤ 10 by decide)
          refine to_go (pc := 188) rw_156_188 (to_rv (pc := 344) rw_156_344 ?_)
          have c_142 : M139.2.1 77 7 = (N.2.1 77 7) := (W_n W138 (by decide) (F_n F133 (show ¬ (77 < 0) by decide) c_130))
          have t_143 : (M139.2.1 77 7).toInt = (N.2.1 77 7).toInt := congrArg Int32.toInt c_142
          have c_144 : M139.2.1 77 6 = (N.2.1 77 6) := (W_n W138 (by decide) (F_n F133 (show ¬ (77 < 0) by decide) (W_n W124 (by decide) (W_n W113 (by decide) (F_n F106 (show ¬ (77 < 0) by decide) rfl)))))
          have t_145 : (M139.2.1 77 6).toInt = (N.2.1 77 6).toInt := congrArg Int32.toInt c_144
          have c_146 : M139.2.1 77 8 = (2 : Int32) := (W_n W138 (by decide) (F_n F133 (show ¬ (77 < 0) by decide) c_128))
          have k_147 : (2 : Int32).toInt = 2 := rfl
          have t_148 : (M139.2.1 77 8).toInt = (2 : Int32).toInt := congrArg Int32.toInt c_146
          have c_149 : M139.2.1 77 9 = r132 := (W_e W138)
          have t_150 : (M139.2.1 77 9).toInt = r132.toInt := congrArg Int32.toInt c_149
          have c_151 : M139.2.1 77 10 = (N.2.1 77 10) := (W_n W138 (by decide) (F_n F133 (show ¬ (77 < 0) by decide) c_129))
          have t_152 : (M139.2.1 77 10).toInt = (N.2.1 77 10).toInt := congrArg Int32.toInt c_151
          have z_153 := (x_tl (t := t) (n := nn) (a := (N.2.1 77 10).toInt) (by omega) (by omega)).2.2
          have z_154 := x_nx_b (t := t) (n := nn) (a := (N.2.1 77 10).toInt) (by omega) (by omega)
          have z_155 := x_R_2 (t := t) (n := nn) (a := (N.2.1 77 10).toInt) (v := r132.toInt) (by omega) (by omega) (by omega) (by omega) (by rw [z_104]; exact p_110.1 (by omega)) (by rw [z_104]; omega)
          have z_156 := g6
          exact h M139 hG140 F141 (by omega) (by omega) (by omega) (RS_m (a := (N.2.1 77 10).toInt) (kd := (2 : Int32).toInt) (wh := r132.toInt) (by omega) (by omega) (by omega) (by omega) (by omega) (by omega) (by omega) (by omega) z_155)
        · refine to_c (pc := 156) rw_156_156 (x := (5 : Int32)) rfl rfl (to_go (pc := 157) rw_156_157 (s_pI (pc := 161) rw_156_161 hG115 rfl (fun M158 W157 => ?_)))
          have hG159 := g_w hG115 W157 (A := 5) rfl (lo := 0) (hi := 5) rfl rfl (by omega) (by decide)
          have F160 := FR.w F116 W157 (show 77 = 77 ∧ 7 ≤ 8 ∧ 8 ≤ 10 by decide)
          refine to_an (pc := 164) rw_156_164 rfl ?_
          have c_161 : M158.2.1 77 8 = (5 : Int32) := (W_e W157)
          refine tt_gI (pc := 165) rw_156_165 (g_o hG159 rfl) (v := (5 : Int32)) c_161 (to_c (pc := 168) rw_156_168 (x := (2 : Int32)) rfl rfl (b_cne_t (pc := 169) rw_156_169 (A := 5) (B := 2) rfl rfl (by decide) (to_rv (pc := 344) rw_156_344 ?_)))
          have c_162 : M158.2.1 77 7 = (N.2.1 77 7) := (W_n W157 (by decide) c_119)
          have t_163 : (M158.2.1 77 7).toInt = (N.2.1 77 7).toInt := congrArg Int32.toInt c_162
          have c_164 : M158.2.1 77 6 = (N.2.1 77 6) := (W_n W157 (by decide) (W_n W113 (by decide) (F_n F106 (show ¬ (77 < 0) by decide) rfl)))
          have t_165 : (M158.2.1 77 6).toInt = (N.2.1 77 6).toInt := congrArg Int32.toInt c_164
          have k_166 : (5 : Int32).toInt = 5 := rfl
          have t_167 : (M158.2.1 77 8).toInt = (5 : Int32).toInt := congrArg Int32.toInt c_161
          have c_168 : M158.2.1 77 9 = r105 := (W_n W157 (by decide) c_117)
          have t_169 : (M158.2.1 77 9).toInt = r105.toInt := congrArg Int32.toInt c_168
          have c_170 : M158.2.1 77 10 = (N.2.1 77 10) := (W_n W157 (by decide) c_120)
          have t_171 : (M158.2.1 77 10).toInt = (N.2.1 77 10).toInt := congrArg Int32.toInt c_170
          have z_172 := (x_tl (t := t) (n := nn) (a := (N.2.1 77 10).toInt) (by omega) (by omega)).2.2
          have z_173 := x_nx_b (t := t) (n := nn) (a := (N.2.1 77 10).toInt) (by omega) (by omega)
          have z_174 := x_R_5 (t := t) (n := nn) (a := (N.2.1 77 10).toInt) (w := r105.toInt) (by omega) (by omega) (by omega)
          have z_175 := g6
          exact h M158 hG159 F160 (by omega) (by omega) (by omega) (RS_m (a := (N.2.1 77 10).toInt) (kd := (5 : Int32).toInt) (wh := r105.toInt) (by omega) (by omega) (by omega) (by omega) (by omega) (by omega) (by omega) (by omega) z_174)
      · refine to_c (pc := 138) rw_156_138 (x := (1 : Int32)) rfl rfl (to_go (pc := 139) rw_156_139 (s_pI (pc := 161) rw_156_161 hG115 rfl (fun M177 W176 => ?_)))
        have hG178 := g_w hG115 W176 (A := 1) rfl (lo := 0) (hi := 5) rfl rfl (by omega) (by decide)
        have F179 := FR.w F116 W176 (show 77 = 77 ∧ 7 ≤ 8 ∧ 8 ≤ 10 by decide)
        refine to_an (pc := 164) rw_156_164 rfl ?_
        have c_180 : M177.2.1 77 8 = (1 : Int32) := (W_e W176)
        refine tt_gI (pc := 165) rw_156_165 (g_o hG178 rfl) (v := (1 : Int32)) c_180 (to_c (pc := 168) rw_156_168 (x := (2 : Int32)) rfl rfl (b_cne_t (pc := 169) rw_156_169 (A := 1) (B := 2) rfl rfl (by decide) (to_rv (pc := 344) rw_156_344 ?_)))
        have c_181 : M177.2.1 77 7 = (N.2.1 77 7) := (W_n W176 (by decide) (W_n W113 (by decide) (F_n F106 (show ¬ (77 < 0) by decide) rfl)))
        have t_182 : (M177.2.1 77 7).toInt = (N.2.1 77 7).toInt := congrArg Int32.toInt c_181
        have c_183 : M177.2.1 77 6 = (N.2.1 77 6) := (W_n W176 (by decide) (W_n W113 (by decide) (F_n F106 (show ¬ (77 < 0) by decide) rfl)))
        have t_184 : (M177.2.1 77 6).toInt = (N.2.1 77 6).toInt := congrArg Int32.toInt c_183
        have k_185 : (1 : Int32).toInt = 1 := rfl
        have t_186 : (M177.2.1 77 8).toInt = (1 : Int32).toInt := congrArg Int32.toInt c_180
        have c_187 : M177.2.1 77 9 = r105 := (W_n W176 (by decide) c_117)
        have t_188 : (M177.2.1 77 9).toInt = r105.toInt := congrArg Int32.toInt c_187
        have c_189 : M177.2.1 77 10 = (N.2.1 77 10) := (W_n W176 (by decide) (W_n W113 (by decide) (F_n F106 (show ¬ (77 < 0) by decide) rfl)))
        have t_190 : (M177.2.1 77 10).toInt = (N.2.1 77 10).toInt := congrArg Int32.toInt c_189
        have z_191 := (x_tl (t := t) (n := nn) (a := (N.2.1 77 10).toInt) (by omega) (by omega)).2.2
        have z_192 := x_nx_b (t := t) (n := nn) (a := (N.2.1 77 10).toInt) (by omega) (by omega)
        have z_193 := x_R_k (t := t) (n := nn) (a := (N.2.1 77 10).toInt) (by omega) (by omega) (by omega) (r := r105.toInt) (by omega) (by omega) (by rw [z_104]; exact p_110.2 (by omega))
        have z_194 := g6
        exact h M177 hG178 F179 (by omega) (by omega) (by omega) (RS_m (a := (N.2.1 77 10).toInt) (kd := (1 : Int32).toInt) (wh := r105.toInt) (by omega) (by omega) (by omega) (by omega) (by omega) (by omega) (by omega) (by omega) z_193)
    · refine to_an (pc := 8) rw_154_8 rfl (s_gR (pc := 9) rw_154_9 hG rfl (v := 78) rfl (to_in (pc := 12) rw_154_12 rfl (s_ial (pc := 13) rw_154_13 hG rfl (n := 500) rfl rfl (A := (N.2.1 77 7).toInt) rfl (by omega) (by omega) (lo := 0) (hi := 255) rfl rfl (fun v195 w_196 _ _ => ?_))))
      have z_197 := TR_u g12 (A := (N.2.1 77 7).toInt) (B := (N.2.1 77 7).toInt) (by omega) (by omega) w_196 rfl
      refine to_c (pc := 14) rw_154_14 (x := (97 : Int32)) rfl rfl (b_clt (pc := 16) rw_154_16 (A := v195.toInt) (B := 97) rfl rfl (fun h198 => ?_) (fun h198 => ?_))
      · refine to_c (pc := 34) rw_154_34 (x := (0 : Int32)) rfl rfl (s_r1 (pc := 35) rw_154_35 (A := 0) rfl (by decide) (b_ieq_t (pc := 98) rw_156_98 (A := 0) rfl (by decide) ?_))
        have z_199 : x_e t nn (N.2.1 77 7).toInt = (N.2.1 77 7).toInt := x_no (by omega) (by first | exact Or.inl (by omega) | exact Or.inr (x_lt_f (by omega)))
        have z_200 := g7
        have z_201 : x_e t nn (N.2.1 77 10).toInt = (N.2.1 77 7).toInt := by omega
        refine to_an (pc := 114) rw_156_114 rfl (to_an (pc := 115) rw_156_115 rfl (to_an (pc := 116) rw_156_116 rfl (tt_gI (pc := 117) rw_156_117 (g_o hG rfl) (v := (N.2.1 77 10)) rfl (to_an (pc := 120) rw_156_120 rfl (tt_gI (pc := 121) rw_156_121 (g_o hG rfl) (v := (N.2.1 77 7)) rfl (s_v (pc := 124) rw_156_124 (dp0 hd (by decide)) (ls0 := [.ref 77, .int (N.2.1 77 10), .int (N.2.1 77 7), .null, .null, .null, .null, .null]) rfl (Nat.le_of_ble_eq_true rfl) (Nat.le_of_ble_eq_true rfl) rfl (to_rc rfl rfl rfl (g_o hG rfl)) rfl (E_153 hX (dp1 hd (by decide)) hG (by omega) (by omega) (by omega) (by omega) (by omega) (by omega) (by omega) g12 g13 (a := (N.2.1 77 10)) (b := (N.2.1 77 7)) (fun r202 M208 hG204 F203 p_205 p_206 p_207 => ?_))))))))
        have F209 := FR.c F0 F203 tg_10
        refine s_pI (pc := 127) rw_156_127 hG204 rfl (fun M211 W210 => ?_)
        have hG212 := g_wf hG204 W210 rfl rfl (by decide)
        have F213 := FR.w F209 W210 (show 77 = 77 ∧ 7 ≤ 9 ∧ 9 ≤ 10 by decide)
        refine to_an (pc := 130) rw_156_130 rfl (to_an (pc := 131) rw_156_131 rfl ?_)
        have c_214 : M211.2.1 77 9 = r202 := (W_e W210)
        refine tt_gI (pc := 132) rw_156_132 (g_o hG212 rfl) (v := r202) c_214 (b_ilt (pc := 135) rw_156_135 (A := r202.toInt) rfl (fun h215 => ?_) (fun h215 => ?_))
        · refine to_an (pc := 142) rw_156_142 rfl ?_
          have c_216 : M211.2.1 77 7 = (N.2.1 77 7) := (W_n W210 (by decide) (F_n F203 (show ¬ (77 < 0) by decide) rfl))
          refine tt_gI (pc := 143) rw_156_143 (g_o hG212 rfl) (v := (N.2.1 77 7)) c_216 (to_an (pc := 146) rw_156_146 rfl ?_)
          have c_217 : M211.2.1 77 10 = (N.2.1 77 10) := (W_n W210 (by decide) (F_n F203 (show ¬ (77 < 0) by decide) rfl))
          refine tt_gI (pc := 147) rw_156_147 (g_o hG212 rfl) (v := (N.2.1 77 10)) c_217 (s_sub (pc := 150) rw_156_150 (A := (N.2.1 77 7).toInt) (B := (N.2.1 77 10).toInt) rfl rfl (by omega) (fun v218 e219 => to_c (pc := 151) rw_156_151 (x := (6 : Int32)) rfl rfl (b_cle (pc := 153) rw_156_153 (A := v218.toInt) (B := 6) rfl rfl (fun h220 => ?_) (fun h220 => ?_))))
          · refine to_c (pc := 160) rw_156_160 (x := (2 : Int32)) rfl rfl (s_pI (pc := 161) rw_156_161 hG212 rfl (fun M222 W221 => ?_))
            have hG223 := g_w hG212 W221 (A := 2) rfl (lo := 0) (hi := 5) rfl rfl (by omega) (by decide)
            have F224 := FR.w F213 W221 (show 77 = 77 ∧ 7 ≤ 8 ∧ 8 ≤ 10 by decide)
            refine to_an (pc := 164) rw_156_164 rfl ?_
            have c_225 : M222.2.1 77 8 = (2 : Int32) := (W_e W221)
            refine tt_gI (pc := 165) rw_156_165 (g_o hG223 rfl) (v := (2 : Int32)) c_225 (to_c (pc := 168) rw_156_168 (x := (2 : Int32)) rfl rfl (b_cne_f (pc := 169) rw_156_169 (A := 2) (B := 2) rfl rfl (by decide) (to_an (pc := 172) rw_156_172 rfl (to_an (pc := 173) rw_156_173 rfl (to_an (pc := 174) rw_156_174 rfl ?_)))))
            have c_226 : M222.2.1 77 10 = (N.2.1 77 10) := (W_n W221 (by decide) c_217)
            refine tt_gI (pc := 175) rw_156_175 (g_o hG223 rfl) (v := (N.2.1 77 10)) c_226 (to_an (pc := 178) rw_156_178 rfl ?_)
            have c_227 : M222.2.1 77 7 = (N.2.1 77 7) := (W_n W221 (by decide) c_216)
            refine tt_gI (pc := 179) rw_156_179 (g_o hG223 rfl) (v := (N.2.1 77 7)) c_227 (s_v (pc := 182) rw_156_182 (dp0 hd (by decide)) (ls0 := [.ref 77, .int (N.2.1 77 10), .int (N.2.1 77 7), .null, .null]) rfl (Nat.le_of_ble_eq_true rfl) (Nat.le_of_ble_eq_true rfl) rfl (to_rc rfl rfl rfl (g_o hG223 rfl)) rfl ?_)
            have j_228 := (TR_f (fun a i z => W_n W221 (tg_16 a i z) rfl) (TR_f (fun a i z => W_n W210 (tg_13 a i z) rfl) (TR_f (tg_9 F203) g12)))
            refine E_157 hX (dp1 hd (by decide)) hG223 (by omega) (by omega) (by omega) (by omega) (by omega) (by omega) (by omega) j_228 g8 (a := (N.2.1 77 10)) (b := (N.2.1 77 7)) (fun r229 M233 hG231 F230 p_232 => ?_)
            have F234 := FR.c F224 F230 tg_10
            refine s_pI (pc := 185) rw_156_185 hG231 rfl (fun M236 W235 => ?_)
            have hG237 := g_wf hG231 W235 rfl rfl (by decide)
            have F238 := FR.w F234 W235 (show 77 = 77 ∧ 7 ≤ 9 ∧ 9 ≤ 10 by decide)
            refine to_go (pc := 188) rw_156_188 (to_rv (pc := 344) rw_156_344 ?_)
            have c_239 : M236.2.1 77 7 = (N.2.1 77 7) := (W_n W235 (by decide) (F_n F230 (show ¬ (77 < 0) by decide) c_227))
            have t_240 : (M236.2.1 77 7).toInt = (N.2.1 77 7).toInt := congrArg Int32.toInt c_239
            have c_241 : M236.2.1 77 6 = (N.2.1 77 6) := (W_n W235 (by decide) (F_n F230 (show ¬ (77 < 0) by decide) (W_n W221 (by decide) (W_n W210 (by decide) (F_n F203 (show ¬ (77 < 0) by decide) rfl)))))
            have t_242 : (M236.2.1 77 6).toInt = (N.2.1 77 6).toInt := congrArg Int32.toInt c_241
            have c_243 : M236.2.1 77 8 = (2 : Int32) := (W_n W235 (by decide) (F_n F230 (show ¬ (77 < 0) by decide) c_225))
            have k_244 : (2 : Int32).toInt = 2 := rfl
            have t_245 : (M236.2.1 77 8).toInt = (2 : Int32).toInt := congrArg Int32.toInt c_243
            have c_246 : M236.2.1 77 9 = r229 := (W_e W235)
            have t_247 : (M236.2.1 77 9).toInt = r229.toInt := congrArg Int32.toInt c_246
            have c_248 : M236.2.1 77 10 = (N.2.1 77 10) := (W_n W235 (by decide) (F_n F230 (show ¬ (77 < 0) by decide) c_226))
            have t_249 : (M236.2.1 77 10).toInt = (N.2.1 77 10).toInt := congrArg Int32.toInt c_248
            have z_250 := (x_tl (t := t) (n := nn) (a := (N.2.1 77 10).toInt) (by omega) (by omega)).2.2
            have z_251 := x_nx_b (t := t) (n := nn) (a := (N.2.1 77 10).toInt) (by omega) (by omega)
            have z_252 := x_R_2 (t := t) (n := nn) (a := (N.2.1 77 10).toInt) (v := r229.toInt) (by omega) (by omega) (by omega) (by omega) (by rw [z_201]; exact p_207.1 (by omega)) (by rw [z_201]; omega)
            have z_253 := g6
            exact h M236 hG237 F238 (by omega) (by omega) (by omega) (RS_m (a := (N.2.1 77 10).toInt) (kd := (2 : Int32).toInt) (wh := r229.toInt) (by omega) (by omega) (by omega) (by omega) (by omega) (by omega) (by omega) (by omega) z_252)
          · refine to_c (pc := 156) rw_156_156 (x := (5 : Int32)) rfl rfl (to_go (pc := 157) rw_156_157 (s_pI (pc := 161) rw_156_161 hG212 rfl (fun M255 W254 => ?_)))
            have hG256 := g_w hG212 W254 (A := 5) rfl (lo := 0) (hi := 5) rfl rfl (by omega) (by decide)
            have F257 := FR.w F213 W254 (show 77 = 77 ∧ 7 ≤ 8 ∧ 8 ≤ 10 by decide)
            refine to_an (pc := 164) rw_156_164 rfl ?_
            have c_258 : M255.2.1 77 8 = (5 : Int32) := (W_e W254)
            refine tt_gI (pc := 165) rw_156_165 (g_o hG256 rfl) (v := (5 : Int32)) c_258 (to_c (pc := 168) rw_156_168 (x := (2 : Int32)) rfl rfl (b_cne_t (pc := 169) rw_156_169 (A := 5) (B := 2) rfl rfl (by decide) (to_rv (pc := 344) rw_156_344 ?_)))
            have c_259 : M255.2.1 77 7 = (N.2.1 77 7) := (W_n W254 (by decide) c_216)
            have t_260 : (M255.2.1 77 7).toInt = (N.2.1 77 7).toInt := congrArg Int32.toInt c_259
            have c_261 : M255.2.1 77 6 = (N.2.1 77 6) := (W_n W254 (by decide) (W_n W210 (by decide) (F_n F203 (show ¬ (77 < 0) by decide) rfl)))
            have t_262 : (M255.2.1 77 6).toInt = (N.2.1 77 6).toInt := congrArg Int32.toInt c_261
            have k_263 : (5 : Int32).toInt = 5 := rfl
            have t_264 : (M255.2.1 77 8).toInt = (5 : Int32).toInt := congrArg Int32.toInt c_258
            have c_265 : M255.2.1 77 9 = r202 := (W_n W254 (by decide) c_214)
            have t_266 : (M255.2.1 77 9).toInt = r202.toInt := congrArg Int32.toInt c_265
            have c_267 : M255.2.1 77 10 = (N.2.1 77 10) := (W_n W254 (by decide) c_217)
            have t_268 : (M255.2.1 77 10).toInt = (N.2.1 77 10).toInt := congrArg Int32.toInt c_267
            have z_269 := (x_tl (t := t) (n := nn) (a := (N.2.1 77 10).toInt) (by omega) (by omega)).2.2
            have z_270 := x_nx_b (t := t) (n := nn) (a := (N.2.1 77 10).toInt) (by omega) (by omega)
            have z_271 := x_R_5 (t := t) (n := nn) (a := (N.2.1 77 10).toInt) (w := r202.toInt) (by omega) (by omega) (by omega)
            have z_272 := g6
            exact h M255 hG256 F257 (by omega) (by omega) (by omega) (RS_m (a := (N.2.1 77 10).toInt) (kd := (5 : Int32).toInt) (wh := r202.toInt) (by omega) (by omega) (by omega) (by omega) (by omega) (by omega) (by omega) (by omega) z_271)
        · refine to_c (pc := 138) rw_156_138 (x := (1 : Int32)) rfl rfl (to_go (pc := 139) rw_156_139 (s_pI (pc := 161) rw_156_161 hG212 rfl (fun M274 W273 => ?_)))
          have hG275 := g_w hG212 W273 (A := 1) rfl (lo := 0) (hi := 5) rfl rfl (by omega) (by decide)
          have F276 := FR.w F213 W273 (show 77 = 77 ∧ 7 ≤ 8 ∧ 8 ≤ 10 by decide)
          refine to_an (pc := 164) rw_156_164 rfl ?_
          have c_277 : M274.2.1 77 8 = (1 : Int32) := (W_e W273)
          refine tt_gI (pc := 165) rw_156_165 (g_o hG275 rfl) (v := (1 : Int32)) c_277 (to_c (pc := 168) rw_156_168 (x := (2 : Int32)) rfl rfl (b_cne_t (pc := 169) rw_156_169 (A := 1) (B := 2) rfl rfl (by decide) (to_rv (pc := 344) rw_156_344 ?_)))
          have c_278 : M274.2.1 77 7 = (N.2.1 77 7) := (W_n W273 (by decide) (W_n W210 (by decide) (F_n F203 (show ¬ (77 < 0) by decide) rfl)))
          have t_279 : (M274.2.1 77 7).toInt = (N.2.1 77 7).toInt := congrArg Int32.toInt c_278
          have c_280 : M274.2.1 77 6 = (N.2.1 77 6) := (W_n W273 (by decide) (W_n W210 (by decide) (F_n F203 (show ¬ (77 < 0) by decide) rfl)))
          have t_281 : (M274.2.1 77 6).toInt = (N.2.1 77 6).toInt := congrArg Int32.toInt c_280
          have k_282 : (1 : Int32).toInt = 1 := rfl
          have t_283 : (M274.2.1 77 8).toInt = (1 : Int32).toInt := congrArg Int32.toInt c_277
          have c_284 : M274.2.1 77 9 = r202 := (W_n W273 (by decide) c_214)
          have t_285 : (M274.2.1 77 9).toInt = r202.toInt := congrArg Int32.toInt c_284
          have c_286 : M274.2.1 77 10 = (N.2.1 77 10) := (W_n W273 (by decide) (W_n W210 (by decide) (F_n F203 (show ¬ (77 < 0) by decide) rfl)))
          have t_287 : (M274.2.1 77 10).toInt = (N.2.1 77 10).toInt := congrArg Int32.toInt c_286
          have z_288 := (x_tl (t := t) (n := nn) (a := (N.2.1 77 10).toInt) (by omega) (by omega)).2.2
          have z_289 := x_nx_b (t := t) (n := nn) (a := (N.2.1 77 10).toInt) (by omega) (by omega)
          have z_290 := x_R_k (t := t) (n := nn) (a := (N.2.1 77 10).toInt) (by omega) (by omega) (by omega) (r := r202.toInt) (by omega) (by omega) (by rw [z_201]; exact p_207.2 (by omega))
          have z_291 := g6
          exact h M274 hG275 F276 (by omega) (by omega) (by omega) (RS_m (a := (N.2.1 77 10).toInt) (kd := (1 : Int32).toInt) (wh := r202.toInt) (by omega) (by omega) (by omega) (by omega) (by omega) (by omega) (by omega) (by omega) z_290)
      · refine to_an (pc := 19) rw_154_19 rfl (s_gR (pc := 20) rw_154_20 hG rfl (v := 78) rfl (to_in (pc := 23) rw_154_23 rfl (s_ialk (pc := 24) rw_154_24 hG rfl (n := 500) rfl rfl (A := (N.2.1 77 7).toInt) rfl (by omega) (by omega) (v := v195) w_196 (to_c (pc := 25) rw_154_25 (x := (122 : Int32)) rfl rfl (b_cgt (pc := 27) rw_154_27 (A := v195.toInt) (B := 122) rfl rfl (fun h294 => ?_) (fun h294 => ?_))))))
        · refine to_c (pc := 34) rw_154_34 (x := (0 : Int32)) rfl rfl (s_r1 (pc := 35) rw_154_35 (A := 0) rfl (by decide) (b_ieq_t (pc := 98) rw_156_98 (A := 0) rfl (by decide) ?_))
          have z_295 : x_e t nn (N.2.1 77 7).toInt = (N.2.1 77 7).toInt := x_no (by omega) (by first | exact Or.inl (by omega) | exact Or.inr (x_lt_f (by omega)))
          have z_296 := g7
          have z_297 : x_e t nn (N.2.1 77 10).toInt = (N.2.1 77 7).toInt := by omega
          refine to_an (pc := 114) rw_156_114 rfl (to_an (pc := 115) rw_156_115 rfl (to_an (pc := 116) rw_156_116 rfl (tt_gI (pc := 117) rw_156_117 (g_o hG rfl) (v := (N.2.1 77 10)) rfl (to_an (pc := 120) rw_156_120 rfl (tt_gI (pc := 121) rw_156_121 (g_o hG rfl) (v := (N.2.1 77 7)) rfl (s_v (pc := 124) rw_156_124 (dp0 hd (by decide)) (ls0 := [.ref 77, .int (N.2.1 77 10), .int (N.2.1 77 7), .null, .null, .null, .null, .null]) rfl (Nat.le_of_ble_eq_true rfl) (Nat.le_of_ble_eq_true rfl) rfl (to_rc rfl rfl rfl (g_o hG rfl)) rfl (E_153 hX (dp1 hd (by decide)) hG (by omega) (by omega) (by omega) (by omega) (by omega) (by omega) (by omega) g12 g13 (a := (N.2.1 77 10)) (b := (N.2.1 77 7)) (fun r298 M304 hG300 F299 p_301 p_302 p_303 => ?_))))))))
          have F305 := FR.c F0 F299 tg_10
          refine s_pI (pc := 127) rw_156_127 hG300 rfl (fun M307 W306 => ?_)
          have hG308 := g_wf hG300 W306 rfl rfl (by decide)
          have F309 := FR.w F305 W306 (show 77 = 77 ∧ 7 ≤ 9 ∧ 9 ≤ 10 by decide)
          refine to_an (pc := 130) rw_156_130 rfl (to_an (pc := 131) rw_156_131 rfl ?_)
          have c_310 : M307.2.1 77 9 = r298 := (W_e W306)
          refine tt_gI (pc := 132) rw_156_132 (g_o hG308 rfl) (v := r298) c_310 (b_ilt (pc := 135) rw_156_135 (A := r298.toInt) rfl (fun h311 => ?_) (fun h311 => ?_))
          · refine to_an (pc := 142) rw_156_142 rfl ?_
            have c_312 : M307.2.1 77 7 = (N.2.1 77 7) := (W_n W306 (by decide) (F_n F299 (show ¬ (77 < 0) by decide) rfl))
            refine tt_gI (pc := 143) rw_156_143 (g_o hG308 rfl) (v := (N.2.1 77 7)) c_312 (to_an (pc := 146) rw_156_146 rfl ?_)
            have c_313 : M307.2.1 77 10 = (N.2.1 77 10) := (W_n W306 (by decide) (F_n F299 (show ¬ (77 < 0) by decide) rfl))
            refine tt_gI (pc := 147) rw_156_147 (g_o hG308 rfl) (v := (N.2.1 77 10)) c_313 (s_sub (pc := 150) rw_156_150 (A := (N.2.1 77 7).toInt) (B := (N.2.1 77 10).toInt) rfl rfl (by omega) (fun v314 e315 => to_c (pc := 151) rw_156_151 (x := (6 : Int32)) rfl rfl (b_cle (pc := 153) rw_156_153 (A := v314.toInt) (B := 6) rfl rfl (fun h316 => ?_) (fun h316 => ?_))))
            · refine to_c (pc := 160) rw_156_160 (x := (2 : Int32)) rfl rfl (s_pI (pc := 161) rw_156_161 hG308 rfl (fun M318 W317 => ?_))
              have hG319 := g_w hG308 W317 (A := 2) rfl (lo := 0) (hi := 5) rfl rfl (by omega) (by decide)
              have F320 := FR.w F309 W317 (show 77 = 77 ∧ 7 ≤ 8 ∧ 8 ≤ 10 by decide)
              refine to_an (pc := 164) rw_156_164 rfl ?_
              have c_321 : M318.2.1 77 8 = (2 : Int32) := (W_e W317)
              refine tt_gI (pc := 165) rw_156_165 (g_o hG319 rfl) (v := (2 : Int32)) c_321 (to_c (pc := 168) rw_156_168 (x := (2 : Int32)) rfl rfl (b_cne_f (pc := 169) rw_156_169 (A := 2) (B := 2) rfl rfl (by decide) (to_an (pc := 172) rw_156_172 rfl (to_an (pc := 173) rw_156_173 rfl (to_an (pc := 174) rw_156_174 rfl ?_)))))
              have c_322 : M318.2.1 77 10 = (N.2.1 77 10) := (W_n W317 (by decide) c_313)
              refine tt_gI (pc := 175) rw_156_175 (g_o hG319 rfl) (v := (N.2.1 77 10)) c_322 (to_an (pc := 178) rw_156_178 rfl ?_)
              have c_323 : M318.2.1 77 7 = (N.2.1 77 7) := (W_n W317 (by decide) c_312)
              refine tt_gI (pc := 179) rw_156_179 (g_o hG319 rfl) (v := (N.2.1 77 7)) c_323 (s_v (pc := 182) rw_156_182 (dp0 hd (by decide)) (ls0 := [.ref 77, .int (N.2.1 77 10), .int (N.2.1 77 7), .null, .null]) rfl (Nat.le_of_ble_eq_true rfl) (Nat.le_of_ble_eq_true rfl) rfl (to_rc rfl rfl rfl (g_o hG319 rfl)) rfl ?_)
              have j_324 := (TR_f (fun a i z => W_n W317 (tg_16 a i z) rfl) (TR_f (fun a i z => W_n W306 (tg_13 a i z) rfl) (TR_f (tg_9 F299) g12)))
              refine E_157 hX (dp1 hd (by decide)) hG319 (by omega) (by omega) (by omega) (by omega) (by omega) (by omega) (by omega) j_324 g8 (a := (N.2.1 77 10)) (b := (N.2.1 77 7)) (fun r325 M329 hG327 F326 p_328 => ?_)
              have F330 := FR.c F320 F326 tg_10
              refine s_pI (pc := 185) rw_156_185 hG327 rfl (fun M332 W331 => ?_)
              have hG333 := g_wf hG327 W331 rfl rfl (by decide)
              have F334 := FR.w F330 W331 (show 77 = 77 ∧ 7 ≤ 9 ∧ 9 ≤ 10 by decide)
              refine to_go (pc := 188) rw_156_188 (to_rv (pc := 344) rw_156_344 ?_)
              have c_335 : M332.2.1 77 7 = (N.2.1 77 7) := (W_n W331 (by decide) (F_n F326 (show ¬ (77 < 0) by decide) c_323))
              have t_336 : (M332.2.1 77 7).toInt = (N.2.1 77 7).toInt := congrArg Int32.toInt c_335
              have c_337 : M332.2.1 77 6 = (N.2.1 77 6) := (W_n W331 (by decide) (F_n F326 (show ¬ (77 < 0) by decide) (W_n W317 (by decide) (W_n W306 (by decide) (F_n F299 (show ¬ (77 < 0) by decide) rfl)))))
              have t_338 : (M332.2.1 77 6).toInt = (N.2.1 77 6).toInt := congrArg Int32.toInt c_337
              have c_339 : M332.2.1 77 8 = (2 : Int32) := (W_n W331 (by decide) (F_n F326 (show ¬ (77 < 0) by decide) c_321))
              have k_340 : (2 : Int32).toInt = 2 := rfl
              have t_341 : (M332.2.1 77 8).toInt = (2 : Int32).toInt := congrArg Int32.toInt c_339
              have c_342 : M332.2.1 77 9 = r325 := (W_e W331)
              have t_343 : (M332.2.1 77 9).toInt = r325.toInt := congrArg Int32.toInt c_342
              have c_344 : M332.2.1 77 10 = (N.2.1 77 10) := (W_n W331 (by decide) (F_n F326 (show ¬ (77 < 0) by decide) c_322))
              have t_345 : (M332.2.1 77 10).toInt = (N.2.1 77 10).toInt := congrArg Int32.toInt c_344
              have z_346 := (x_tl (t := t) (n := nn) (a := (N.2.1 77 10).toInt) (by omega) (by omega)).2.2
              have z_347 := x_nx_b (t := t) (n := nn) (a := (N.2.1 77 10).toInt) (by omega) (by omega)
              have z_348 := x_R_2 (t := t) (n := nn) (a := (N.2.1 77 10).toInt) (v := r325.toInt) (by omega) (by omega) (by omega) (by omega) (by rw [z_297]; exact p_303.1 (by omega)) (by rw [z_297]; omega)
              have z_349 := g6
              exact h M332 hG333 F334 (by omega) (by omega) (by omega) (RS_m (a := (N.2.1 77 10).toInt) (kd := (2 : Int32).toInt) (wh := r325.toInt) (by omega) (by omega) (by omega) (by omega) (by omega) (by omega) (by omega) (by omega) z_348)
            · refine to_c (pc := 156) rw_156_156 (x := (5 : Int32)) rfl rfl (to_go (pc := 157) rw_156_157 (s_pI (pc := 161) rw_156_161 hG308 rfl (fun M351 W350 => ?_)))
              have hG352 := g_w hG308 W350 (A := 5) rfl (lo := 0) (hi := 5) rfl rfl (by omega) (by decide)
              have F353 := FR.w F309 W350 (show 77 = 77 ∧ 7 ≤ 8 ∧ 8 ≤ 10 by decide)
              refine to_an (pc := 164) rw_156_164 rfl ?_
              have c_354 : M351.2.1 77 8 = (5 : Int32) := (W_e W350)
              refine tt_gI (pc := 165) rw_156_165 (g_o hG352 rfl) (v := (5 : Int32)) c_354 (to_c (pc := 168) rw_156_168 (x := (2 : Int32)) rfl rfl (b_cne_t (pc := 169) rw_156_169 (A := 5) (B := 2) rfl rfl (by decide) (to_rv (pc := 344) rw_156_344 ?_)))
              have c_355 : M351.2.1 77 7 = (N.2.1 77 7) := (W_n W350 (by decide) c_312)
              have t_356 : (M351.2.1 77 7).toInt = (N.2.1 77 7).toInt := congrArg Int32.toInt c_355
              have c_357 : M351.2.1 77 6 = (N.2.1 77 6) := (W_n W350 (by decide) (W_n W306 (by decide) (F_n F299 (show ¬ (77 < 0) by decide) rfl)))
              have t_358 : (M351.2.1 77 6).toInt = (N.2.1 77 6).toInt := congrArg Int32.toInt c_357
              have k_359 : (5 : Int32).toInt = 5 := rfl
              have t_360 : (M351.2.1 77 8).toInt = (5 : Int32).toInt := congrArg Int32.toInt c_354
              have c_361 : M351.2.1 77 9 = r298 := (W_n W350 (by decide) c_310)
              have t_362 : (M351.2.1 77 9).toInt = r298.toInt := congrArg Int32.toInt c_361
              have c_363 : M351.2.1 77 10 = (N.2.1 77 10) := (W_n W350 (by decide) c_313)
              have t_364 : (M351.2.1 77 10).toInt = (N.2.1 77 10).toInt := congrArg Int32.toInt c_363
              have z_365 := (x_tl (t := t) (n := nn) (a := (N.2.1 77 10).toInt) (by omega) (by omega)).2.2
              have z_366 := x_nx_b (t := t) (n := nn) (a := (N.2.1 77 10).toInt) (by omega) (by omega)
              have z_367 := x_R_5 (t := t) (n := nn) (a := (N.2.1 77 10).toInt) (w := r298.toInt) (by omega) (by omega) (by omega)
              have z_368 := g6
              exact h M351 hG352 F353 (by omega) (by omega) (by omega) (RS_m (a := (N.2.1 77 10).toInt) (kd := (5 : Int32).toInt) (wh := r298.toInt) (by omega) (by omega) (by omega) (by omega) (by omega) (by omega) (by omega) (by omega) z_367)
          · refine to_c (pc := 138) rw_156_138 (x := (1 : Int32)) rfl rfl (to_go (pc := 139) rw_156_139 (s_pI (pc := 161) rw_156_161 hG308 rfl (fun M370 W369 => ?_)))
            have hG371 := g_w hG308 W369 (A := 1) rfl (lo := 0) (hi := 5) rfl rfl (by omega) (by decide)
            have F372 := FR.w F309 W369 (show 77 = 77 ∧ 7 ≤ 8 ∧ 8 ≤ 10 by decide)
            refine to_an (pc := 164) rw_156_164 rfl ?_
            have c_373 : M370.2.1 77 8 = (1 : Int32) := (W_e W369)
            refine tt_gI (pc := 165) rw_156_165 (g_o hG371 rfl) (v := (1 : Int32)) c_373 (to_c (pc := 168) rw_156_168 (x := (2 : Int32)) rfl rfl (b_cne_t (pc := 169) rw_156_169 (A := 1) (B := 2) rfl rfl (by decide) (to_rv (pc := 344) rw_156_344 ?_)))
            have c_374 : M370.2.1 77 7 = (N.2.1 77 7) := (W_n W369 (by decide) (W_n W306 (by decide) (F_n F299 (show ¬ (77 < 0) by decide) rfl)))
            have t_375 : (M370.2.1 77 7).toInt = (N.2.1 77 7).toInt := congrArg Int32.toInt c_374
            have c_376 : M370.2.1 77 6 = (N.2.1 77 6) := (W_n W369 (by decide) (W_n W306 (by decide) (F_n F299 (show ¬ (77 < 0) by decide) rfl)))
            have t_377 : (M370.2.1 77 6).toInt = (N.2.1 77 6).toInt := congrArg Int32.toInt c_376
            have k_378 : (1 : Int32).toInt = 1 := rfl
            have t_379 : (M370.2.1 77 8).toInt = (1 : Int32).toInt := congrArg Int32.toInt c_373
            have c_380 : M370.2.1 77 9 = r298 := (W_n W369 (by decide) c_310)
            have t_381 : (M370.2.1 77 9).toInt = r298.toInt := congrArg Int32.toInt c_380
            have c_382 : M370.2.1 77 10 = (N.2.1 77 10) := (W_n W369 (by decide) (W_n W306 (by decide) (F_n F299 (show ¬ (77 < 0) by decide) rfl)))
            have t_383 : (M370.2.1 77 10).toInt = (N.2.1 77 10).toInt := congrArg Int32.toInt c_382
            have z_384 := (x_tl (t := t) (n := nn) (a := (N.2.1 77 10).toInt) (by omega) (by omega)).2.2
            have z_385 := x_nx_b (t := t) (n := nn) (a := (N.2.1 77 10).toInt) (by omega) (by omega)
            have z_386 := x_R_k (t := t) (n := nn) (a := (N.2.1 77 10).toInt) (by omega) (by omega) (by omega) (r := r298.toInt) (by omega) (by omega) (by rw [z_297]; exact p_303.2 (by omega))
            have z_387 := g6
            exact h M370 hG371 F372 (by omega) (by omega) (by omega) (RS_m (a := (N.2.1 77 10).toInt) (kd := (1 : Int32).toInt) (wh := r298.toInt) (by omega) (by omega) (by omega) (by omega) (by omega) (by omega) (by omega) (by omega) z_386)
        · refine to_c (pc := 30) rw_154_30 (x := (1 : Int32)) rfl rfl (to_go (pc := 31) rw_154_31 (s_r1 (pc := 35) rw_154_35 (A := 1) rfl (by decide) (b_ieq_f (pc := 98) rw_156_98 (A := 1) rfl (by decide) (to_an (pc := 101) rw_156_101 rfl (to_dupr (pc := 102) rw_156_102 (tt_gI (pc := 103) rw_156_103 (g_o hG rfl) (v := (N.2.1 77 7)) rfl (to_c (pc := 106) rw_156_106 (x := (1 : Int32)) rfl rfl (s_add (pc := 107) rw_156_107 (A := (N.2.1 77 7).toInt) (B := 1) rfl rfl (by omega) (fun v388 e389 => s_pI (pc := 108) rw_156_108 hG rfl (fun M391 W390 => ?_))))))))))
          have hG392 := g_w hG W390 (A := v388.toInt) rfl (lo := 0) (hi := 500) rfl rfl (by omega) (by decide)
          have F393 := FR.w F0 W390 (show 77 = 77 ∧ 7 ≤ 7 ∧ 7 ≤ 10 by decide)
          refine to_go (pc := 111) rw_156_111 ?_
          have c_394 : M391.2.1 77 7 = v388 := (W_e W390)
          have t_395 : (M391.2.1 77 7).toInt = v388.toInt := congrArg Int32.toInt c_394
          have c_396 : M391.2.1 77 6 = (N.2.1 77 6) := (W_n W390 (by decide) rfl)
          have t_397 : (M391.2.1 77 6).toInt = (N.2.1 77 6).toInt := congrArg Int32.toInt c_396
          have c_398 : M391.2.1 77 10 = (N.2.1 77 10) := (W_n W390 (by decide) rfl)
          have t_399 : (M391.2.1 77 10).toInt = (N.2.1 77 10).toInt := congrArg Int32.toInt c_398
          have z_400 := g6
          have j_401 := (TR_f (fun a i z => W_n W390 (tg_12 a i z) rfl) g12)
          have j_402 := (W9_f (fun a i z => W_n W390 (tg_14 a i z) rfl) g13)
          exact ih M391  hG392 F393 (by omega) (by omega) (by omega) (by omega) (by rw [show (M391.2.1 77 10).toInt = (N.2.1 77 10).toInt by omega]; exact g5) (by omega) ((x_ee_e (x4 := (N.2.1 77 7).toInt) (by omega) (by omega) (by omega) (by omega) g7).trans (congrArg (x_e t nn) (show (N.2.1 77 10).toInt = (M391.2.1 77 10).toInt by omega))) (x_lt_e2 (x4 := (N.2.1 77 7).toInt) (f := (N.2.1 77 10).toInt) (by omega) (by omega) g8 (by omega) (by omega) (by omega)) (by omega) (by omega) (by omega) j_401 j_402 (by omega)
set_option maxRecDepth 4000 in
set_option maxHeartbeats 0 in
theorem U_156_2 {X : mm_X} {d : Nat} {M : mm_M} {Q : Option Value → mm_M → Prop} {t : Nat → Int} {nn : Int} (hX : g_X X) (hd : 1 ≤ d) (q1 : (M.2.1 77 7).toInt ≤ (M.2.1 77 6).toInt) (q2 : (M.2.1 77 6).toInt = nn) (q3 : 0 ≤ nn) (q4 : nn ≤ 500) (q5 : TR M t nn) (q6 : W9 M) (h : ∀ (M1 : mm_M), g_G M1 → FR md_tk M M1 → ((M1.2.1 77 7).toInt ≤ (M1.2.1 77 6).toInt) → ((M.2.1 77 7).toInt ≤ (M1.2.1 77 7).toInt) → ((M1.2.1 77 8).toInt = 0 ∨ (M.2.1 77 7).toInt < (M1.2.1 77 7).toInt) → (RS M1 t nn ∧ (M1.2.1 77 10).toInt = x_sk t nn (M.2.1 77 7).toInt) → Q (none) M1) : ∀ nn9 : Nat, (∀ (N : mm_M), g_G N → FR md_tk M N → ((N.2.1 77 7).toInt ≤ (N.2.1 77 6).toInt) → ((M.2.1 77 7).toInt ≤ (N.2.1 77 7).toInt) → (x_sk t nn (N.2.1 77 7).toInt = x_sk t nn (M.2.1 77 7).toInt) → ((N.2.1 77 6).toInt = nn) → (0 ≤ nn) → (nn ≤ 500) → (TR N t nn) → (W9 N) → 500 - (N.2.1 77 7).toInt < (nn9 : Int) → mm_T X d 155 0 [.ref 77] [] N Q) := by
  intro nn9
  induction nn9 with
  | zero =>
    intro N hG F0 g1 g2 g3 g4 g5 g6 g7 g8 hm
    have b_403 := g_b hG (a := 77) (i := 7) (lo := 0) (hi := 500) rfl rfl
    have b_404 := g_b hG (a := 77) (i := 6) (lo := 0) (hi := 500) rfl rfl
    exfalso; omega
  | succ nn9 ih =>
    intro N hG F0 g1 g2 g3 g4 g5 g6 g7 g8 hm
    have b_405 := g_b hG (a := 77) (i := 7) (lo := 0) (hi := 500) rfl rfl
    have b_406 := g_b hG (a := 77) (i := 6) (lo := 0) (hi := 500) rfl rfl
    refine to_an (pc := 0) rw_156_0 rfl (tt_gI (pc := 1) rw_156_1 (g_o hG rfl) (v := (N.2.1 77 7)) rfl (to_an (pc := 4) rw_156_4 rfl (tt_gI (pc := 5) rw_156_5 (g_o hG rfl) (v := (N.2.1 77 6)) rfl (b_cge (pc := 8) rw_156_8 (A := (N.2.1 77 7).toInt) (B := (N.2.1 77 6).toInt) rfl rfl (fun h407 => ?_) (fun h407 => ?_)))))
    · refine to_an (pc := 52) rw_156_52 rfl (to_an (pc := 53) rw_156_53 rfl (tt_gI (pc := 54) rw_156_54 (g_o hG rfl) (v := (N.2.1 77 7)) rfl (s_pI (pc := 57) rw_156_57 hG rfl (fun M409 W408 => ?_))))
      have hG410 := g_w hG W408 (A := (N.2.1 77 7).toInt) rfl (lo := 0) (hi := 500) rfl rfl (by omega) (by decide)
      have F411 := FR.w F0 W408 (show 77 = 77 ∧ 7 ≤ 10 ∧ 10 ≤ 10 by decide)
      have c_413 : M409.2.1 77 7 = (N.2.1 77 7) := (W_n W408 (by decide) rfl)
      have t_414 : (M409.2.1 77 7).toInt = (N.2.1 77 7).toInt := congrArg Int32.toInt c_413
      have z_412 := x_sk_x (t := t) (nn := nn) (x := (N.2.1 77 7).toInt) (by omega) (by omega) g3
      refine to_an (pc := 60) rw_156_60 rfl (tt_gI (pc := 61) rw_156_61 (g_o hG410 rfl) (v := (N.2.1 77 7)) c_413 (to_an (pc := 64) rw_156_64 rfl ?_))
      have c_415 : M409.2.1 77 6 = (N.2.1 77 6) := (W_n W408 (by decide) rfl)
      refine tt_gI (pc := 65) rw_156_65 (g_o hG410 rfl) (v := (N.2.1 77 6)) c_415 (b_cne (pc := 68) rw_156_68 (A := (N.2.1 77 7).toInt) (B := (N.2.1 77 6).toInt) rfl rfl (fun h416 => ?_) (fun h416 => ?_))
      · refine to_an (pc := 79) rw_156_79 rfl (to_an (pc := 80) rw_156_80 rfl (tt_gI (pc := 81) rw_156_81 (g_o hG410 rfl) (v := (N.2.1 77 7)) c_413 (s_v (pc := 84) rw_156_84 (dp0 hd (by decide)) (ls0 := [.ref 77, .int (N.2.1 77 7)]) rfl (Nat.le_of_ble_eq_true rfl) (Nat.le_of_ble_eq_true rfl) rfl (to_rc rfl rfl rfl (g_o hG410 rfl)) rfl (to_in (pc := 0) rw_154_0 rfl (to_an (pc := 1) rw_154_1 rfl (tt_gI (pc := 2) rw_154_2 (g_o hG410 rfl) (v := (N.2.1 77 6)) c_415 (b_cge (pc := 5) rw_154_5 (A := (N.2.1 77 7).toInt) (B := (N.2.1 77 6).toInt) rfl rfl (fun h417 => ?_) (fun h417 => ?_))))))))
        · refine to_c (pc := 34) rw_154_34 (x := (0 : Int32)) rfl rfl (s_r1 (pc := 35) rw_154_35 (A := 0) rfl (by decide) (b_ieq_t (pc := 87) rw_156_87 (A := 0) rfl (by decide) (to_an (pc := 191) rw_156_191 rfl (to_an (pc := 192) rw_156_192 rfl (tt_gI (pc := 193) rw_156_193 (g_o hG410 rfl) (v := (N.2.1 77 7)) c_413 (s_v (pc := 196) rw_156_196 (dp0 hd (by decide)) (ls0 := [.ref 77, .int (N.2.1 77 7)]) rfl (Nat.le_of_ble_eq_true rfl) (Nat.le_of_ble_eq_true rfl) rfl (to_rc rfl rfl rfl (g_o hG410 rfl)) rfl (to_in (pc := 0) rw_155_0 rfl (to_an (pc := 1) rw_155_1 rfl (tt_gI (pc := 2) rw_155_2 (g_o hG410 rfl) (v := (N.2.1 77 6)) c_415 (b_cge (pc := 5) rw_155_5 (A := (N.2.1 77 7).toInt) (B := (N.2.1 77 6).toInt) rfl rfl (fun h418 => ?_) (fun h418 => ?_)))))))))))
          · refine to_c (pc := 34) rw_155_34 (x := (0 : Int32)) rfl rfl (s_r1 (pc := 35) rw_155_35 (A := 0) rfl (by decide) (b_ieq_t (pc := 199) rw_156_199 (A := 0) rfl (by decide) (to_an (pc := 276) rw_156_276 rfl (to_an (pc := 277) rw_156_277 rfl (s_gR (pc := 278) rw_156_278 hG410 rfl (v := 78) rfl (to_an (pc := 281) rw_156_281 rfl (tt_gI (pc := 282) rw_156_282 (g_o hG410 rfl) (v := (N.2.1 77 7)) c_413 (s_ial (pc := 285) rw_156_285 hG410 rfl (n := 500) rfl rfl (A := (N.2.1 77 7).toInt) rfl (by omega) (by omega) (lo := 0) (hi := 255) rfl rfl (fun v419 w_420 _ _ => ?_)))))))))
            have j_422 := (TR_f (fun a i z => W_n W408 (tg_17 a i z) rfl) g7)
            have z_421 := TR_u j_422 (A := (N.2.1 77 7).toInt) (B := (N.2.1 77 7).toInt) (by omega) (by omega) w_420 rfl
            refine s_pI (pc := 286) rw_156_286 hG410 rfl (fun M424 W423 => ?_)
            have hG425 := g_wf hG410 W423 rfl rfl (by decide)
            have F426 := FR.w F411 W423 (show 77 = 77 ∧ 7 ≤ 9 ∧ 9 ≤ 10 by decide)
            refine to_an (pc := 289) rw_156_289 rfl (to_an (pc := 290) rw_156_290 rfl ?_)
            have c_427 : M424.2.1 77 9 = v419 := (W_e W423)
            refine tt_gI (pc := 291) rw_156_291 (g_o hG425 rfl) (v := v419) c_427 (to_c (pc := 294) rw_156_294 (x := (59 : Int32)) rfl rfl (b_ceq (pc := 296) rw_156_296 (A := v419.toInt) (B := 59) rfl rfl (fun h428 => ?_) (fun h428 => ?_)))
            · refine to_c (pc := 326) rw_156_326 (x := (4 : Int32)) rfl rfl (to_go (pc := 327) rw_156_327 (s_pI (pc := 331) rw_156_331 hG425 rfl (fun M430 W429 => ?_)))
              have hG431 := g_w hG425 W429 (A := 4) rfl (lo := 0) (hi := 5) rfl rfl (by omega) (by decide)
              have F432 := FR.w F426 W429 (show 77 = 77 ∧ 7 ≤ 8 ∧ 8 ≤ 10 by decide)
              refine to_an (pc := 334) rw_156_334 rfl (to_dupr (pc := 335) rw_156_335 ?_)
              have c_433 : M430.2.1 77 7 = (N.2.1 77 7) := (W_n W429 (by decide) (W_n W423 (by decide) c_413))
              refine tt_gI (pc := 336) rw_156_336 (g_o hG431 rfl) (v := (N.2.1 77 7)) c_433 (to_c (pc := 339) rw_156_339 (x := (1 : Int32)) rfl rfl (s_add (pc := 340) rw_156_340 (A := (N.2.1 77 7).toInt) (B := 1) rfl rfl (by omega) (fun v434 e435 => s_pI (pc := 341) rw_156_341 hG431 rfl (fun M437 W436 => ?_))))
              have hG438 := g_w hG431 W436 (A := v434.toInt) rfl (lo := 0) (hi := 500) rfl rfl (by omega) (by decide)
              have F439 := FR.w F432 W436 (show 77 = 77 ∧ 7 ≤ 7 ∧ 7 ≤ 10 by decide)
              refine to_rv (pc := 344) rw_156_344 ?_
              have c_440 : M437.2.1 77 7 = v434 := (W_e W436)
              have t_441 : (M437.2.1 77 7).toInt = v434.toInt := congrArg Int32.toInt c_440
              have c_442 : M437.2.1 77 6 = (N.2.1 77 6) := (W_n W436 (by decide) (W_n W429 (by decide) (W_n W423 (by decide) c_415)))
              have t_443 : (M437.2.1 77 6).toInt = (N.2.1 77 6).toInt := congrArg Int32.toInt c_442
              have c_444 : M437.2.1 77 8 = (4 : Int32) := (W_n W436 (by decide) (W_e W429))
              have k_445 : (4 : Int32).toInt = 4 := rfl
              have t_446 : (M437.2.1 77 8).toInt = (4 : Int32).toInt := congrArg Int32.toInt c_444
              have c_447 : M437.2.1 77 9 = v419 := (W_n W436 (by decide) (W_n W429 (by decide) c_427))
              have t_448 : (M437.2.1 77 9).toInt = v419.toInt := congrArg Int32.toInt c_447
              have c_449 : M437.2.1 77 10 = (N.2.1 77 7) := (W_n W436 (by decide) (W_n W429 (by decide) (W_n W423 (by decide) (W_e W408))))
              have t_450 : (M437.2.1 77 10).toInt = (N.2.1 77 7).toInt := congrArg Int32.toInt c_449
              have z_451 := (x_ts (t := t) (n := nn) (a := (N.2.1 77 7).toInt) (by omega) (by omega) (by omega)).2.2
              have z_452 := x_nx_b (t := t) (n := nn) (a := (N.2.1 77 7).toInt) (by omega) (by omega)
              have z_453 := x_R_s (t := t) (n := nn) (a := (N.2.1 77 7).toInt) (v := v419.toInt) (by omega) (by omega) (by omega)
              have z_454 := z_412
              exact h M437 hG438 F439 (by omega) (by omega) (by omega) (RS_m (a := (N.2.1 77 7).toInt) (kd := (4 : Int32).toInt) (wh := v419.toInt) (by omega) (by omega) (by omega) (by omega) (by omega) (by omega) (by omega) (by omega) z_453)
            · refine to_an (pc := 299) rw_156_299 rfl (tt_gI (pc := 300) rw_156_300 (g_o hG425 rfl) (v := v419) c_427 (to_c (pc := 303) rw_156_303 (x := (40 : Int32)) rfl rfl (b_ceq (pc := 305) rw_156_305 (A := v419.toInt) (B := 40) rfl rfl (fun h455 => ?_) (fun h455 => ?_))))
              · refine to_c (pc := 326) rw_156_326 (x := (4 : Int32)) rfl rfl (to_go (pc := 327) rw_156_327 (s_pI (pc := 331) rw_156_331 hG425 rfl (fun M457 W456 => ?_)))
                have hG458 := g_w hG425 W456 (A := 4) rfl (lo := 0) (hi := 5) rfl rfl (by omega) (by decide)
                have F459 := FR.w F426 W456 (show 77 = 77 ∧ 7 ≤ 8 ∧ 8 ≤ 10 by decide)
                refine to_an (pc := 334) rw_156_334 rfl (to_dupr (pc := 335) rw_156_335 ?_)
                have c_460 : M457.2.1 77 7 = (N.2.1 77 7) := (W_n W456 (by decide) (W_n W423 (by decide) c_413))
                refine tt_gI (pc := 336) rw_156_336 (g_o hG458 rfl) (v := (N.2.1 77 7)) c_460 (to_c (pc := 339) rw_156_339 (x := (1 : Int32)) rfl rfl (s_add (pc := 340) rw_156_340 (A := (N.2.1 77 7).toInt) (B := 1) rfl rfl (by omega) (fun v461 e462 => s_pI (pc := 341) rw_156_341 hG458 rfl (fun M464 W463 => ?_))))
                have hG465 := g_w hG458 W463 (A := v461.toInt) rfl (lo := 0) (hi := 500) rfl rfl (by omega) (by decide)
                have F466 := FR.w F459 W463 (show 77 = 77 ∧ 7 ≤ 7 ∧ 7 ≤ 10 by decide)
                refine to_rv (pc := 344) rw_156_344 ?_
                have c_467 : M464.2.1 77 7 = v461 := (W_e W463)
                have t_468 : (M464.2.1 77 7).toInt = v461.toInt := congrArg Int32.toInt c_467
                have c_469 : M464.2.1 77 6 = (N.2.1 77 6) := (W_n W463 (by decide) (W_n W456 (by decide) (W_n W423 (by decide) c_415)))
                have t_470 : (M464.2.1 77 6).toInt = (N.2.1 77 6).toInt := congrArg Int32.toInt c_469
                have c_471 : M464.2.1 77 8 = (4 : Int32) := (W_n W463 (by decide) (W_e W456))
                have k_472 : (4 : Int32).toInt = 4 := rfl
                have t_473 : (M464.2.1 77 8).toInt = (4 : Int32).toInt := congrArg Int32.toInt c_471
                have c_474 : M464.2.1 77 9 = v419 := (W_n W463 (by decide) (W_n W456 (by decide) c_427))
                have t_475 : (M464.2.1 77 9).toInt = v419.toInt := congrArg Int32.toInt c_474
                have c_476 : M464.2.1 77 10 = (N.2.1 77 7) := (W_n W463 (by decide) (W_n W456 (by decide) (W_n W423 (by decide) (W_e W408))))
                have t_477 : (M464.2.1 77 10).toInt = (N.2.1 77 7).toInt := congrArg Int32.toInt c_476
                have z_478 := (x_ts (t := t) (n := nn) (a := (N.2.1 77 7).toInt) (by omega) (by omega) (by omega)).2.2
                have z_479 := x_nx_b (t := t) (n := nn) (a := (N.2.1 77 7).toInt) (by omega) (by omega)
                have z_480 := x_R_s (t := t) (n := nn) (a := (N.2.1 77 7).toInt) (v := v419.toInt) (by omega) (by omega) (by omega)
                have z_481 := z_412
                exact h M464 hG465 F466 (by omega) (by omega) (by omega) (RS_m (a := (N.2.1 77 7).toInt) (kd := (4 : Int32).toInt) (wh := v419.toInt) (by omega) (by omega) (by omega) (by omega) (by omega) (by omega) (by omega) (by omega) z_480)
              · refine to_an (pc := 308) rw_156_308 rfl (tt_gI (pc := 309) rw_156_309 (g_o hG425 rfl) (v := v419) c_427 (to_c (pc := 312) rw_156_312 (x := (41 : Int32)) rfl rfl (b_ceq (pc := 314) rw_156_314 (A := v419.toInt) (B := 41) rfl rfl (fun h482 => ?_) (fun h482 => ?_))))
                · refine to_c (pc := 326) rw_156_326 (x := (4 : Int32)) rfl rfl (to_go (pc := 327) rw_156_327 (s_pI (pc := 331) rw_156_331 hG425 rfl (fun M484 W483 => ?_)))
                  have hG485 := g_w hG425 W483 (A := 4) rfl (lo := 0) (hi := 5) rfl rfl (by omega) (by decide)
                  have F486 := FR.w F426 W483 (show 77 = 77 ∧ 7 ≤ 8 ∧ 8 ≤ 10 by decide)
                  refine to_an (pc := 334) rw_156_334 rfl (to_dupr (pc := 335) rw_156_335 ?_)
                  have c_487 : M484.2.1 77 7 = (N.2.1 77 7) := (W_n W483 (by decide) (W_n W423 (by decide) c_413))
                  refine tt_gI (pc := 336) rw_156_336 (g_o hG485 rfl) (v := (N.2.1 77 7)) c_487 (to_c (pc := 339) rw_156_339 (x := (1 : Int32)) rfl rfl (s_add (pc := 340) rw_156_340 (A := (N.2.1 77 7).toInt) (B := 1) rfl rfl (by omega) (fun v488 e489 => s_pI (pc := 341) rw_156_341 hG485 rfl (fun M491 W490 => ?_))))
                  have hG492 := g_w hG485 W490 (A := v488.toInt) rfl (lo := 0) (hi := 500) rfl rfl (by omega) (by decide)
                  have F493 := FR.w F486 W490 (show 77 = 77 ∧ 7 ≤ 7 ∧ 7 ≤ 10 by decide)
                  refine to_rv (pc := 344) rw_156_344 ?_
                  have c_494 : M491.2.1 77 7 = v488 := (W_e W490)
                  have t_495 : (M491.2.1 77 7).toInt = v488.toInt := congrArg Int32.toInt c_494
                  have c_496 : M491.2.1 77 6 = (N.2.1 77 6) := (W_n W490 (by decide) (W_n W483 (by decide) (W_n W423 (by decide) c_415)))
                  have t_497 : (M491.2.1 77 6).toInt = (N.2.1 77 6).toInt := congrArg Int32.toInt c_496
                  have c_498 : M491.2.1 77 8 = (4 : Int32) := (W_n W490 (by decide) (W_e W483))
                  have k_499 : (4 : Int32).toInt = 4 := rfl
                  have t_500 : (M491.2.1 77 8).toInt = (4 : Int32).toInt := congrArg Int32.toInt c_498
                  have c_501 : M491.2.1 77 9 = v419 := (W_n W490 (by decide) (W_n W483 (by decide) c_427))
                  have t_502 : (M491.2.1 77 9).toInt = v419.toInt := congrArg Int32.toInt c_501
                  have c_503 : M491.2.1 77 10 = (N.2.1 77 7) := (W_n W490 (by decide) (W_n W483 (by decide) (W_n W423 (by decide) (W_e W408))))
                  have t_504 : (M491.2.1 77 10).toInt = (N.2.1 77 7).toInt := congrArg Int32.toInt c_503
                  have z_505 := (x_ts (t := t) (n := nn) (a := (N.2.1 77 7).toInt) (by omega) (by omega) (by omega)).2.2
                  have z_506 := x_nx_b (t := t) (n := nn) (a := (N.2.1 77 7).toInt) (by omega) (by omega)
                  have z_507 := x_R_s (t := t) (n := nn) (a := (N.2.1 77 7).toInt) (v := v419.toInt) (by omega) (by omega) (by omega)
                  have z_508 := z_412
                  exact h M491 hG492 F493 (by omega) (by omega) (by omega) (RS_m (a := (N.2.1 77 7).toInt) (kd := (4 : Int32).toInt) (wh := v419.toInt) (by omega) (by omega) (by omega) (by omega) (by omega) (by omega) (by omega) (by omega) z_507)
                · refine to_an (pc := 317) rw_156_317 rfl (tt_gI (pc := 318) rw_156_318 (g_o hG425 rfl) (v := v419) c_427 (to_c (pc := 321) rw_156_321 (x := (61 : Int32)) rfl rfl (b_cne (pc := 323) rw_156_323 (A := v419.toInt) (B := 61) rfl rfl (fun h509 => ?_) (fun h509 => ?_))))
                  · refine to_c (pc := 330) rw_156_330 (x := (5 : Int32)) rfl rfl (s_pI (pc := 331) rw_156_331 hG425 rfl (fun M511 W510 => ?_))
                    have hG512 := g_w hG425 W510 (A := 5) rfl (lo := 0) (hi := 5) rfl rfl (by omega) (by decide)
                    have F513 := FR.w F426 W510 (show 77 = 77 ∧ 7 ≤ 8 ∧ 8 ≤ 10 by decide)
                    refine to_an (pc := 334) rw_156_334 rfl (to_dupr (pc := 335) rw_156_335 ?_)
                    have c_514 : M511.2.1 77 7 = (N.2.1 77 7) := (W_n W510 (by decide) (W_n W423 (by decide) c_413))
                    refine tt_gI (pc := 336) rw_156_336 (g_o hG512 rfl) (v := (N.2.1 77 7)) c_514 (to_c (pc := 339) rw_156_339 (x := (1 : Int32)) rfl rfl (s_add (pc := 340) rw_156_340 (A := (N.2.1 77 7).toInt) (B := 1) rfl rfl (by omega) (fun v515 e516 => s_pI (pc := 341) rw_156_341 hG512 rfl (fun M518 W517 => ?_))))
                    have hG519 := g_w hG512 W517 (A := v515.toInt) rfl (lo := 0) (hi := 500) rfl rfl (by omega) (by decide)
                    have F520 := FR.w F513 W517 (show 77 = 77 ∧ 7 ≤ 7 ∧ 7 ≤ 10 by decide)
                    refine to_rv (pc := 344) rw_156_344 ?_
                    have c_521 : M518.2.1 77 7 = v515 := (W_e W517)
                    have t_522 : (M518.2.1 77 7).toInt = v515.toInt := congrArg Int32.toInt c_521
                    have c_523 : M518.2.1 77 6 = (N.2.1 77 6) := (W_n W517 (by decide) (W_n W510 (by decide) (W_n W423 (by decide) c_415)))
                    have t_524 : (M518.2.1 77 6).toInt = (N.2.1 77 6).toInt := congrArg Int32.toInt c_523
                    have c_525 : M518.2.1 77 8 = (5 : Int32) := (W_n W517 (by decide) (W_e W510))
                    have k_526 : (5 : Int32).toInt = 5 := rfl
                    have t_527 : (M518.2.1 77 8).toInt = (5 : Int32).toInt := congrArg Int32.toInt c_525
                    have c_528 : M518.2.1 77 9 = v419 := (W_n W517 (by decide) (W_n W510 (by decide) c_427))
                    have t_529 : (M518.2.1 77 9).toInt = v419.toInt := congrArg Int32.toInt c_528
                    have c_530 : M518.2.1 77 10 = (N.2.1 77 7) := (W_n W517 (by decide) (W_n W510 (by decide) (W_n W423 (by decide) (W_e W408))))
                    have t_531 : (M518.2.1 77 10).toInt = (N.2.1 77 7).toInt := congrArg Int32.toInt c_530
                    have z_532 := (x_ts (t := t) (n := nn) (a := (N.2.1 77 7).toInt) (by omega) (by omega) (by omega)).2.2
                    have z_533 := x_nx_b (t := t) (n := nn) (a := (N.2.1 77 7).toInt) (by omega) (by omega)
                    have z_534 := x_R_b (t := t) (n := nn) (a := (N.2.1 77 7).toInt) (w := v419.toInt) (by omega) (by omega) (by omega) (by omega)
                    have z_535 := z_412
                    exact h M518 hG519 F520 (by omega) (by omega) (by omega) (RS_m (a := (N.2.1 77 7).toInt) (kd := (5 : Int32).toInt) (wh := v419.toInt) (by omega) (by omega) (by omega) (by omega) (by omega) (by omega) (by omega) (by omega) z_534)
                  · refine to_c (pc := 326) rw_156_326 (x := (4 : Int32)) rfl rfl (to_go (pc := 327) rw_156_327 (s_pI (pc := 331) rw_156_331 hG425 rfl (fun M537 W536 => ?_)))
                    have hG538 := g_w hG425 W536 (A := 4) rfl (lo := 0) (hi := 5) rfl rfl (by omega) (by decide)
                    have F539 := FR.w F426 W536 (show 77 = 77 ∧ 7 ≤ 8 ∧ 8 ≤ 10 by decide)
                    refine to_an (pc := 334) rw_156_334 rfl (to_dupr (pc := 335) rw_156_335 ?_)
                    have c_540 : M537.2.1 77 7 = (N.2.1 77 7) := (W_n W536 (by decide) (W_n W423 (by decide) c_413))
                    refine tt_gI (pc := 336) rw_156_336 (g_o hG538 rfl) (v := (N.2.1 77 7)) c_540 (to_c (pc := 339) rw_156_339 (x := (1 : Int32)) rfl rfl (s_add (pc := 340) rw_156_340 (A := (N.2.1 77 7).toInt) (B := 1) rfl rfl (by omega) (fun v541 e542 => s_pI (pc := 341) rw_156_341 hG538 rfl (fun M544 W543 => ?_))))
                    have hG545 := g_w hG538 W543 (A := v541.toInt) rfl (lo := 0) (hi := 500) rfl rfl (by omega) (by decide)
                    have F546 := FR.w F539 W543 (show 77 = 77 ∧ 7 ≤ 7 ∧ 7 ≤ 10 by decide)
                    refine to_rv (pc := 344) rw_156_344 ?_
                    have c_547 : M544.2.1 77 7 = v541 := (W_e W543)
                    have t_548 : (M544.2.1 77 7).toInt = v541.toInt := congrArg Int32.toInt c_547
                    have c_549 : M544.2.1 77 6 = (N.2.1 77 6) := (W_n W543 (by decide) (W_n W536 (by decide) (W_n W423 (by decide) c_415)))
                    have t_550 : (M544.2.1 77 6).toInt = (N.2.1 77 6).toInt := congrArg Int32.toInt c_549
                    have c_551 : M544.2.1 77 8 = (4 : Int32) := (W_n W543 (by decide) (W_e W536))
                    have k_552 : (4 : Int32).toInt = 4 := rfl
                    have t_553 : (M544.2.1 77 8).toInt = (4 : Int32).toInt := congrArg Int32.toInt c_551
                    have c_554 : M544.2.1 77 9 = v419 := (W_n W543 (by decide) (W_n W536 (by decide) c_427))
                    have t_555 : (M544.2.1 77 9).toInt = v419.toInt := congrArg Int32.toInt c_554
                    have c_556 : M544.2.1 77 10 = (N.2.1 77 7) := (W_n W543 (by decide) (W_n W536 (by decide) (W_n W423 (by decide) (W_e W408))))
                    have t_557 : (M544.2.1 77 10).toInt = (N.2.1 77 7).toInt := congrArg Int32.toInt c_556
                    have z_558 := (x_ts (t := t) (n := nn) (a := (N.2.1 77 7).toInt) (by omega) (by omega) (by omega)).2.2
                    have z_559 := x_nx_b (t := t) (n := nn) (a := (N.2.1 77 7).toInt) (by omega) (by omega)
                    have z_560 := x_R_s (t := t) (n := nn) (a := (N.2.1 77 7).toInt) (v := v419.toInt) (by omega) (by omega) (by omega)
                    have z_561 := z_412
                    exact h M544 hG545 F546 (by omega) (by omega) (by omega) (RS_m (a := (N.2.1 77 7).toInt) (kd := (4 : Int32).toInt) (wh := v419.toInt) (by omega) (by omega) (by omega) (by omega) (by omega) (by omega) (by omega) (by omega) z_560)
          · refine to_an (pc := 8) rw_155_8 rfl (s_gR (pc := 9) rw_155_9 hG410 rfl (v := 78) rfl (to_in (pc := 12) rw_155_12 rfl (s_ial (pc := 13) rw_155_13 hG410 rfl (n := 500) rfl rfl (A := (N.2.1 77 7).toInt) rfl (by omega) (by omega) (lo := 0) (hi := 255) rfl rfl (fun v562 w_563 _ _ => ?_))))
            have j_565 := (TR_f (fun a i z => W_n W408 (tg_17 a i z) rfl) g7)
            have z_564 := TR_u j_565 (A := (N.2.1 77 7).toInt) (B := (N.2.1 77 7).toInt) (by omega) (by omega) w_563 rfl
            refine to_c (pc := 14) rw_155_14 (x := (48 : Int32)) rfl rfl (b_clt (pc := 16) rw_155_16 (A := v562.toInt) (B := 48) rfl rfl (fun h566 => ?_) (fun h566 => ?_))
            · refine to_c (pc := 34) rw_155_34 (x := (0 : Int32)) rfl rfl (s_r1 (pc := 35) rw_155_35 (A := 0) rfl (by decide) (b_ieq_t (pc := 199) rw_156_199 (A := 0) rfl (by decide) (to_an (pc := 276) rw_156_276 rfl (to_an (pc := 277) rw_156_277 rfl (s_gR (pc := 278) rw_156_278 hG410 rfl (v := 78) rfl (to_an (pc := 281) rw_156_281 rfl (tt_gI (pc := 282) rw_156_282 (g_o hG410 rfl) (v := (N.2.1 77 7)) c_413 (s_ialk (pc := 285) rw_156_285 hG410 rfl (n := 500) rfl rfl (A := (N.2.1 77 7).toInt) rfl (by omega) (by omega) (v := v562) w_563 (s_pI (pc := 286) rw_156_286 hG410 rfl (fun M570 W569 => ?_))))))))))
              have hG571 := g_wf hG410 W569 rfl rfl (by decide)
              have F572 := FR.w F411 W569 (show 77 = 77 ∧ 7 ≤ 9 ∧ 9 ≤ 10 by decide)
              refine to_an (pc := 289) rw_156_289 rfl (to_an (pc := 290) rw_156_290 rfl ?_)
              have c_573 : M570.2.1 77 9 = v562 := (W_e W569)
              refine tt_gI (pc := 291) rw_156_291 (g_o hG571 rfl) (v := v562) c_573 (to_c (pc := 294) rw_156_294 (x := (59 : Int32)) rfl rfl (b_ceq_f (pc := 296) rw_156_296 (A := v562.toInt) (B := 59) rfl rfl (by omega) (to_an (pc := 299) rw_156_299 rfl (tt_gI (pc := 300) rw_156_300 (g_o hG571 rfl) (v := v562) c_573 (to_c (pc := 303) rw_156_303 (x := (40 : Int32)) rfl rfl (b_ceq (pc := 305) rw_156_305 (A := v562.toInt) (B := 40) rfl rfl (fun h574 => ?_) (fun h574 => ?_)))))))
              · refine to_c (pc := 326) rw_156_326 (x := (4 : Int32)) rfl rfl (to_go (pc := 327) rw_156_327 (s_pI (pc := 331) rw_156_331 hG571 rfl (fun M576 W575 => ?_)))
                have hG577 := g_w hG571 W575 (A := 4) rfl (lo := 0) (hi := 5) rfl rfl (by omega) (by decide)
                have F578 := FR.w F572 W575 (show 77 = 77 ∧ 7 ≤ 8 ∧ 8 ≤ 10 by decide)
                refine to_an (pc := 334) rw_156_334 rfl (to_dupr (pc := 335) rw_156_335 ?_)
                have c_579 : M576.2.1 77 7 = (N.2.1 77 7) := (W_n W575 (by decide) (W_n W569 (by decide) c_413))
                refine tt_gI (pc := 336) rw_156_336 (g_o hG577 rfl) (v := (N.2.1 77 7)) c_579 (to_c (pc := 339) rw_156_339 (x := (1 : Int32)) rfl rfl (s_add (pc := 340) rw_156_340 (A := (N.2.1 77 7).toInt) (B := 1) rfl rfl (by omega) (fun v580 e581 => s_pI (pc := 341) rw_156_341 hG577 rfl (fun M583 W582 => ?_))))
                have hG584 := g_w hG577 W582 (A := v580.toInt) rfl (lo := 0) (hi := 500) rfl rfl (by omega) (by decide)
                have F585 := FR.w F578 W582 (show 77 = 77 ∧ 7 ≤ 7 ∧ 7 ≤ 10 by decide)
                refine to_rv (pc := 344) rw_156_344 ?_
                have c_586 : M583.2.1 77 7 = v580 := (W_e W582)
                have t_587 : (M583.2.1 77 7).toInt = v580.toInt := congrArg Int32.toInt c_586
                have c_588 : M583.2.1 77 6 = (N.2.1 77 6) := (W_n W582 (by decide) (W_n W575 (by decide) (W_n W569 (by decide) c_415)))
                have t_589 : (M583.2.1 77 6).toInt = (N.2.1 77 6).toInt := congrArg Int32.toInt c_588
                have c_590 : M583.2.1 77 8 = (4 : Int32) := (W_n W582 (by decide) (W_e W575))
                have k_591 : (4 : Int32).toInt = 4 := rfl
                have t_592 : (M583.2.1 77 8).toInt = (4 : Int32).toInt := congrArg Int32.toInt c_590
                have c_593 : M583.2.1 77 9 = v562 := (W_n W582 (by decide) (W_n W575 (by decide) c_573))
                have t_594 : (M583.2.1 77 9).toInt = v562.toInt := congrArg Int32.toInt c_593
                have c_595 : M583.2.1 77 10 = (N.2.1 77 7) := (W_n W582 (by decide) (W_n W575 (by decide) (W_n W569 (by decide) (W_e W408))))
                have t_596 : (M583.2.1 77 10).toInt = (N.2.1 77 7).toInt := congrArg Int32.toInt c_595
                have z_597 := (x_ts (t := t) (n := nn) (a := (N.2.1 77 7).toInt) (by omega) (by omega) (by omega)).2.2
                have z_598 := x_nx_b (t := t) (n := nn) (a := (N.2.1 77 7).toInt) (by omega) (by omega)
                have z_599 := x_R_s (t := t) (n := nn) (a := (N.2.1 77 7).toInt) (v := v562.toInt) (by omega) (by omega) (by omega)
                have z_600 := z_412
                exact h M583 hG584 F585 (by omega) (by omega) (by omega) (RS_m (a := (N.2.1 77 7).toInt) (kd := (4 : Int32).toInt) (wh := v562.toInt) (by omega) (by omega) (by omega) (by omega) (by omega) (by omega) (by omega) (by omega) z_599)
              · refine to_an (pc := 308) rw_156_308 rfl (tt_gI (pc := 309) rw_156_309 (g_o hG571 rfl) (v := v562) c_573 (to_c (pc := 312) rw_156_312 (x := (41 : Int32)) rfl rfl (b_ceq (pc := 314) rw_156_314 (A := v562.toInt) (B := 41) rfl rfl (fun h601 => ?_) (fun h601 => ?_))))
                · refine to_c (pc := 326) rw_156_326 (x := (4 : Int32)) rfl rfl (to_go (pc := 327) rw_156_327 (s_pI (pc := 331) rw_156_331 hG571 rfl (fun M603 W602 => ?_)))
                  have hG604 := g_w hG571 W602 (A := 4) rfl (lo := 0) (hi := 5) rfl rfl (by omega) (by decide)
                  have F605 := FR.w F572 W602 (show 77 = 77 ∧ 7 ≤ 8 ∧ 8 ≤ 10 by decide)
                  refine to_an (pc := 334) rw_156_334 rfl (to_dupr (pc := 335) rw_156_335 ?_)
                  have c_606 : M603.2.1 77 7 = (N.2.1 77 7) := (W_n W602 (by decide) (W_n W569 (by decide) c_413))
                  refine tt_gI (pc := 336) rw_156_336 (g_o hG604 rfl) (v := (N.2.1 77 7)) c_606 (to_c (pc := 339) rw_156_339 (x := (1 : Int32)) rfl rfl (s_add (pc := 340) rw_156_340 (A := (N.2.1 77 7).toInt) (B := 1) rfl rfl (by omega) (fun v607 e608 => s_pI (pc := 341) rw_156_341 hG604 rfl (fun M610 W609 => ?_))))
                  have hG611 := g_w hG604 W609 (A := v607.toInt) rfl (lo := 0) (hi := 500) rfl rfl (by omega) (by decide)
                  have F612 := FR.w F605 W609 (show 77 = 77 ∧ 7 ≤ 7 ∧ 7 ≤ 10 by decide)
                  refine to_rv (pc := 344) rw_156_344 ?_
                  have c_613 : M610.2.1 77 7 = v607 := (W_e W609)
                  have t_614 : (M610.2.1 77 7).toInt = v607.toInt := congrArg Int32.toInt c_613
                  have c_615 : M610.2.1 77 6 = (N.2.1 77 6) := (W_n W609 (by decide) (W_n W602 (by decide) (W_n W569 (by decide) c_415)))
                  have t_616 : (M610.2.1 77 6).toInt = (N.2.1 77 6).toInt := congrArg Int32.toInt c_615
                  have c_617 : M610.2.1 77 8 = (4 : Int32) := (W_n W609 (by decide) (W_e W602))
                  have k_618 : (4 : Int32).toInt = 4 := rfl
                  have t_619 : (M610.2.1 77 8).toInt = (4 : Int32).toInt := congrArg Int32.toInt c_617
                  have c_620 : M610.2.1 77 9 = v562 := (W_n W609 (by decide) (W_n W602 (by decide) c_573))
                  have t_621 : (M610.2.1 77 9).toInt = v562.toInt := congrArg Int32.toInt c_620
                  have c_622 : M610.2.1 77 10 = (N.2.1 77 7) := (W_n W609 (by decide) (W_n W602 (by decide) (W_n W569 (by decide) (W_e W408))))
                  have t_623 : (M610.2.1 77 10).toInt = (N.2.1 77 7).toInt := congrArg Int32.toInt c_622
                  have z_624 := (x_ts (t := t) (n := nn) (a := (N.2.1 77 7).toInt) (by omega) (by omega) (by omega)).2.2
                  have z_625 := x_nx_b (t := t) (n := nn) (a := (N.2.1 77 7).toInt) (by omega) (by omega)
                  have z_626 := x_R_s (t := t) (n := nn) (a := (N.2.1 77 7).toInt) (v := v562.toInt) (by omega) (by omega) (by omega)
                  have z_627 := z_412
                  exact h M610 hG611 F612 (by omega) (by omega) (by omega) (RS_m (a := (N.2.1 77 7).toInt) (kd := (4 : Int32).toInt) (wh := v562.toInt) (by omega) (by omega) (by omega) (by omega) (by omega) (by omega) (by omega) (by omega) z_626)
                · refine to_an (pc := 317) rw_156_317 rfl (tt_gI (pc := 318) rw_156_318 (g_o hG571 rfl) (v := v562) c_573 (to_c (pc := 321) rw_156_321 (x := (61 : Int32)) rfl rfl (b_cne_t (pc := 323) rw_156_323 (A := v562.toInt) (B := 61) rfl rfl (by omega) (to_c (pc := 330) rw_156_330 (x := (5 : Int32)) rfl rfl (s_pI (pc := 331) rw_156_331 hG571 rfl (fun M629 W628 => ?_))))))
                  have hG630 := g_w hG571 W628 (A := 5) rfl (lo := 0) (hi := 5) rfl rfl (by omega) (by decide)
                  have F631 := FR.w F572 W628 (show 77 = 77 ∧ 7 ≤ 8 ∧ 8 ≤ 10 by decide)
                  refine to_an (pc := 334) rw_156_334 rfl (to_dupr (pc := 335) rw_156_335 ?_)
                  have c_632 : M629.2.1 77 7 = (N.2.1 77 7) := (W_n W628 (by decide) (W_n W569 (by decide) c_413))
                  refine tt_gI (pc := 336) rw_156_336 (g_o hG630 rfl) (v := (N.2.1 77 7)) c_632 (to_c (pc := 339) rw_156_339 (x := (1 : Int32)) rfl rfl (s_add (pc := 340) rw_156_340 (A := (N.2.1 77 7).toInt) (B := 1) rfl rfl (by omega) (fun v633 e634 => s_pI (pc := 341) rw_156_341 hG630 rfl (fun M636 W635 => ?_))))
                  have hG637 := g_w hG630 W635 (A := v633.toInt) rfl (lo := 0) (hi := 500) rfl rfl (by omega) (by decide)
                  have F638 := FR.w F631 W635 (show 77 = 77 ∧ 7 ≤ 7 ∧ 7 ≤ 10 by decide)
                  refine to_rv (pc := 344) rw_156_344 ?_
                  have c_639 : M636.2.1 77 7 = v633 := (W_e W635)
                  have t_640 : (M636.2.1 77 7).toInt = v633.toInt := congrArg Int32.toInt c_639
                  have c_641 : M636.2.1 77 6 = (N.2.1 77 6) := (W_n W635 (by decide) (W_n W628 (by decide) (W_n W569 (by decide) c_415)))
                  have t_642 : (M636.2.1 77 6).toInt = (N.2.1 77 6).toInt := congrArg Int32.toInt c_641
                  have c_643 : M636.2.1 77 8 = (5 : Int32) := (W_n W635 (by decide) (W_e W628))
                  have k_644 : (5 : Int32).toInt = 5 := rfl
                  have t_645 : (M636.2.1 77 8).toInt = (5 : Int32).toInt := congrArg Int32.toInt c_643
                  have c_646 : M636.2.1 77 9 = v562 := (W_n W635 (by decide) (W_n W628 (by decide) c_573))
                  have t_647 : (M636.2.1 77 9).toInt = v562.toInt := congrArg Int32.toInt c_646
                  have c_648 : M636.2.1 77 10 = (N.2.1 77 7) := (W_n W635 (by decide) (W_n W628 (by decide) (W_n W569 (by decide) (W_e W408))))
                  have t_649 : (M636.2.1 77 10).toInt = (N.2.1 77 7).toInt := congrArg Int32.toInt c_648
                  have z_650 := (x_ts (t := t) (n := nn) (a := (N.2.1 77 7).toInt) (by omega) (by omega) (by omega)).2.2
                  have z_651 := x_nx_b (t := t) (n := nn) (a := (N.2.1 77 7).toInt) (by omega) (by omega)
                  have z_652 := x_R_b (t := t) (n := nn) (a := (N.2.1 77 7).toInt) (w := v562.toInt) (by omega) (by omega) (by omega) (by omega)
                  have z_653 := z_412
                  exact h M636 hG637 F638 (by omega) (by omega) (by omega) (RS_m (a := (N.2.1 77 7).toInt) (kd := (5 : Int32).toInt) (wh := v562.toInt) (by omega) (by omega) (by omega) (by omega) (by omega) (by omega) (by omega) (by omega) z_652)
            · refine to_an (pc := 19) rw_155_19 rfl (s_gR (pc := 20) rw_155_20 hG410 rfl (v := 78) rfl (to_in (pc := 23) rw_155_23 rfl (s_ialk (pc := 24) rw_155_24 hG410 rfl (n := 500) rfl rfl (A := (N.2.1 77 7).toInt) rfl (by omega) (by omega) (v := v562) w_563 (to_c (pc := 25) rw_155_25 (x := (57 : Int32)) rfl rfl (b_cgt (pc := 27) rw_155_27 (A := v562.toInt) (B := 57) rfl rfl (fun h656 => ?_) (fun h656 => ?_))))))
              · refine to_c (pc := 34) rw_155_34 (x := (0 : Int32)) rfl rfl (s_r1 (pc := 35) rw_155_35 (A := 0) rfl (by decide) (b_ieq_t (pc := 199) rw_156_199 (A := 0) rfl (by decide) (to_an (pc := 276) rw_156_276 rfl (to_an (pc := 277) rw_156_277 rfl (s_gR (pc := 278) rw_156_278 hG410 rfl (v := 78) rfl (to_an (pc := 281) rw_156_281 rfl (tt_gI (pc := 282) rw_156_282 (g_o hG410 rfl) (v := (N.2.1 77 7)) c_413 (s_ialk (pc := 285) rw_156_285 hG410 rfl (n := 500) rfl rfl (A := (N.2.1 77 7).toInt) rfl (by omega) (by omega) (v := v562) w_563 (s_pI (pc := 286) rw_156_286 hG410 rfl (fun M660 W659 => ?_))))))))))
                have hG661 := g_wf hG410 W659 rfl rfl (by decide)
                have F662 := FR.w F411 W659 (show 77 = 77 ∧ 7 ≤ 9 ∧ 9 ≤ 10 by decide)
                refine to_an (pc := 289) rw_156_289 rfl (to_an (pc := 290) rw_156_290 rfl ?_)
                have c_663 : M660.2.1 77 9 = v562 := (W_e W659)
                refine tt_gI (pc := 291) rw_156_291 (g_o hG661 rfl) (v := v562) c_663 (to_c (pc := 294) rw_156_294 (x := (59 : Int32)) rfl rfl (b_ceq (pc := 296) rw_156_296 (A := v562.toInt) (B := 59) rfl rfl (fun h664 => ?_) (fun h664 => ?_)))
                · refine to_c (pc := 326) rw_156_326 (x := (4 : Int32)) rfl rfl (to_go (pc := 327) rw_156_327 (s_pI (pc := 331) rw_156_331 hG661 rfl (fun M666 W665 => ?_)))
                  have hG667 := g_w hG661 W665 (A := 4) rfl (lo := 0) (hi := 5) rfl rfl (by omega) (by decide)
                  have F668 := FR.w F662 W665 (show 77 = 77 ∧ 7 ≤ 8 ∧ 8 ≤ 10 by decide)
                  refine to_an (pc := 334) rw_156_334 rfl (to_dupr (pc := 335) rw_156_335 ?_)
                  have c_669 : M666.2.1 77 7 = (N.2.1 77 7) := (W_n W665 (by decide) (W_n W659 (by decide) c_413))
                  refine tt_gI (pc := 336) rw_156_336 (g_o hG667 rfl) (v := (N.2.1 77 7)) c_669 (to_c (pc := 339) rw_156_339 (x := (1 : Int32)) rfl rfl (s_add (pc := 340) rw_156_340 (A := (N.2.1 77 7).toInt) (B := 1) rfl rfl (by omega) (fun v670 e671 => s_pI (pc := 341) rw_156_341 hG667 rfl (fun M673 W672 => ?_))))
                  have hG674 := g_w hG667 W672 (A := v670.toInt) rfl (lo := 0) (hi := 500) rfl rfl (by omega) (by decide)
                  have F675 := FR.w F668 W672 (show 77 = 77 ∧ 7 ≤ 7 ∧ 7 ≤ 10 by decide)
                  refine to_rv (pc := 344) rw_156_344 ?_
                  have c_676 : M673.2.1 77 7 = v670 := (W_e W672)
                  have t_677 : (M673.2.1 77 7).toInt = v670.toInt := congrArg Int32.toInt c_676
                  have c_678 : M673.2.1 77 6 = (N.2.1 77 6) := (W_n W672 (by decide) (W_n W665 (by decide) (W_n W659 (by decide) c_415)))
                  have t_679 : (M673.2.1 77 6).toInt = (N.2.1 77 6).toInt := congrArg Int32.toInt c_678
                  have c_680 : M673.2.1 77 8 = (4 : Int32) := (W_n W672 (by decide) (W_e W665))
                  have k_681 : (4 : Int32).toInt = 4 := rfl
                  have t_682 : (M673.2.1 77 8).toInt = (4 : Int32).toInt := congrArg Int32.toInt c_680
                  have c_683 : M673.2.1 77 9 = v562 := (W_n W672 (by decide) (W_n W665 (by decide) c_663))
                  have t_684 : (M673.2.1 77 9).toInt = v562.toInt := congrArg Int32.toInt c_683
                  have c_685 : M673.2.1 77 10 = (N.2.1 77 7) := (W_n W672 (by decide) (W_n W665 (by decide) (W_n W659 (by decide) (W_e W408))))
                  have t_686 : (M673.2.1 77 10).toInt = (N.2.1 77 7).toInt := congrArg Int32.toInt c_685
                  have z_687 := (x_ts (t := t) (n := nn) (a := (N.2.1 77 7).toInt) (by omega) (by omega) (by omega)).2.2
                  have z_688 := x_nx_b (t := t) (n := nn) (a := (N.2.1 77 7).toInt) (by omega) (by omega)
                  have z_689 := x_R_s (t := t) (n := nn) (a := (N.2.1 77 7).toInt) (v := v562.toInt) (by omega) (by omega) (by omega)
                  have z_690 := z_412
                  exact h M673 hG674 F675 (by omega) (by omega) (by omega) (RS_m (a := (N.2.1 77 7).toInt) (kd := (4 : Int32).toInt) (wh := v562.toInt) (by omega) (by omega) (by omega) (by omega) (by omega) (by omega) (by omega) (by omega) z_689)
                · refine to_an (pc := 299) rw_156_299 rfl (tt_gI (pc := 300) rw_156_300 (g_o hG661 rfl) (v := v562) c_663 (to_c (pc := 303) rw_156_303 (x := (40 : Int32)) rfl rfl (b_ceq_f (pc := 305) rw_156_305 (A := v562.toInt) (B := 40) rfl rfl (by omega) (to_an (pc := 308) rw_156_308 rfl (tt_gI (pc := 309) rw_156_309 (g_o hG661 rfl) (v := v562) c_663 (to_c (pc := 312) rw_156_312 (x := (41 : Int32)) rfl rfl (b_ceq_f (pc := 314) rw_156_314 (A := v562.toInt) (B := 41) rfl rfl (by omega) (to_an (pc := 317) rw_156_317 rfl (tt_gI (pc := 318) rw_156_318 (g_o hG661 rfl) (v := v562) c_663 (to_c (pc := 321) rw_156_321 (x := (61 : Int32)) rfl rfl (b_cne (pc := 323) rw_156_323 (A := v562.toInt) (B := 61) rfl rfl (fun h691 => ?_) (fun h691 => ?_))))))))))))
                  · refine to_c (pc := 330) rw_156_330 (x := (5 : Int32)) rfl rfl (s_pI (pc := 331) rw_156_331 hG661 rfl (fun M693 W692 => ?_))
                    have hG694 := g_w hG661 W692 (A := 5) rfl (lo := 0) (hi := 5) rfl rfl (by omega) (by decide)
                    have F695 := FR.w F662 W692 (show 77 = 77 ∧ 7 ≤ 8 ∧ 8 ≤ 10 by decide)
                    refine to_an (pc := 334) rw_156_334 rfl (to_dupr (pc := 335) rw_156_335 ?_)
                    have c_696 : M693.2.1 77 7 = (N.2.1 77 7) := (W_n W692 (by decide) (W_n W659 (by decide) c_413))
                    refine tt_gI (pc := 336) rw_156_336 (g_o hG694 rfl) (v := (N.2.1 77 7)) c_696 (to_c (pc := 339) rw_156_339 (x := (1 : Int32)) rfl rfl (s_add (pc := 340) rw_156_340 (A := (N.2.1 77 7).toInt) (B := 1) rfl rfl (by omega) (fun v697 e698 => s_pI (pc := 341) rw_156_341 hG694 rfl (fun M700 W699 => ?_))))
                    have hG701 := g_w hG694 W699 (A := v697.toInt) rfl (lo := 0) (hi := 500) rfl rfl (by omega) (by decide)
                    have F702 := FR.w F695 W699 (show 77 = 77 ∧ 7 ≤ 7 ∧ 7 ≤ 10 by decide)
                    refine to_rv (pc := 344) rw_156_344 ?_
                    have c_703 : M700.2.1 77 7 = v697 := (W_e W699)
                    have t_704 : (M700.2.1 77 7).toInt = v697.toInt := congrArg Int32.toInt c_703
                    have c_705 : M700.2.1 77 6 = (N.2.1 77 6) := (W_n W699 (by decide) (W_n W692 (by decide) (W_n W659 (by decide) c_415)))
                    have t_706 : (M700.2.1 77 6).toInt = (N.2.1 77 6).toInt := congrArg Int32.toInt c_705
                    have c_707 : M700.2.1 77 8 = (5 : Int32) := (W_n W699 (by decide) (W_e W692))
                    have k_708 : (5 : Int32).toInt = 5 := rfl
                    have t_709 : (M700.2.1 77 8).toInt = (5 : Int32).toInt := congrArg Int32.toInt c_707
                    have c_710 : M700.2.1 77 9 = v562 := (W_n W699 (by decide) (W_n W692 (by decide) c_663))
                    have t_711 : (M700.2.1 77 9).toInt = v562.toInt := congrArg Int32.toInt c_710
                    have c_712 : M700.2.1 77 10 = (N.2.1 77 7) := (W_n W699 (by decide) (W_n W692 (by decide) (W_n W659 (by decide) (W_e W408))))
                    have t_713 : (M700.2.1 77 10).toInt = (N.2.1 77 7).toInt := congrArg Int32.toInt c_712
                    have z_714 := (x_ts (t := t) (n := nn) (a := (N.2.1 77 7).toInt) (by omega) (by omega) (by omega)).2.2
                    have z_715 := x_nx_b (t := t) (n := nn) (a := (N.2.1 77 7).toInt) (by omega) (by omega)
                    have z_716 := x_R_b (t := t) (n := nn) (a := (N.2.1 77 7).toInt) (w := v562.toInt) (by omega) (by omega) (by omega) (by omega)
                    have z_717 := z_412
                    exact h M700 hG701 F702 (by omega) (by omega) (by omega) (RS_m (a := (N.2.1 77 7).toInt) (kd := (5 : Int32).toInt) (wh := v562.toInt) (by omega) (by omega) (by omega) (by omega) (by omega) (by omega) (by omega) (by omega) z_716)
                  · refine to_c (pc := 326) rw_156_326 (x := (4 : Int32)) rfl rfl (to_go (pc := 327) rw_156_327 (s_pI (pc := 331) rw_156_331 hG661 rfl (fun M719 W718 => ?_)))
                    have hG720 := g_w hG661 W718 (A := 4) rfl (lo := 0) (hi := 5) rfl rfl (by omega) (by decide)
                    have F721 := FR.w F662 W718 (show 77 = 77 ∧ 7 ≤ 8 ∧ 8 ≤ 10 by decide)
                    refine to_an (pc := 334) rw_156_334 rfl (to_dupr (pc := 335) rw_156_335 ?_)
                    have c_722 : M719.2.1 77 7 = (N.2.1 77 7) := (W_n W718 (by decide) (W_n W659 (by decide) c_413))
                    refine tt_gI (pc := 336) rw_156_336 (g_o hG720 rfl) (v := (N.2.1 77 7)) c_722 (to_c (pc := 339) rw_156_339 (x := (1 : Int32)) rfl rfl (s_add (pc := 340) rw_156_340 (A := (N.2.1 77 7).toInt) (B := 1) rfl rfl (by omega) (fun v723 e724 => s_pI (pc := 341) rw_156_341 hG720 rfl (fun M726 W725 => ?_))))
                    have hG727 := g_w hG720 W725 (A := v723.toInt) rfl (lo := 0) (hi := 500) rfl rfl (by omega) (by decide)
                    have F728 := FR.w F721 W725 (show 77 = 77 ∧ 7 ≤ 7 ∧ 7 ≤ 10 by decide)
                    refine to_rv (pc := 344) rw_156_344 ?_
                    have c_729 : M726.2.1 77 7 = v723 := (W_e W725)
                    have t_730 : (M726.2.1 77 7).toInt = v723.toInt := congrArg Int32.toInt c_729
                    have c_731 : M726.2.1 77 6 = (N.2.1 77 6) := (W_n W725 (by decide) (W_n W718 (by decide) (W_n W659 (by decide) c_415)))
                    have t_732 : (M726.2.1 77 6).toInt = (N.2.1 77 6).toInt := congrArg Int32.toInt c_731
                    have c_733 : M726.2.1 77 8 = (4 : Int32) := (W_n W725 (by decide) (W_e W718))
                    have k_734 : (4 : Int32).toInt = 4 := rfl
                    have t_735 : (M726.2.1 77 8).toInt = (4 : Int32).toInt := congrArg Int32.toInt c_733
                    have c_736 : M726.2.1 77 9 = v562 := (W_n W725 (by decide) (W_n W718 (by decide) c_663))
                    have t_737 : (M726.2.1 77 9).toInt = v562.toInt := congrArg Int32.toInt c_736
                    have c_738 : M726.2.1 77 10 = (N.2.1 77 7) := (W_n W725 (by decide) (W_n W718 (by decide) (W_n W659 (by decide) (W_e W408))))
                    have t_739 : (M726.2.1 77 10).toInt = (N.2.1 77 7).toInt := congrArg Int32.toInt c_738
                    have z_740 := (x_ts (t := t) (n := nn) (a := (N.2.1 77 7).toInt) (by omega) (by omega) (by omega)).2.2
                    have z_741 := x_nx_b (t := t) (n := nn) (a := (N.2.1 77 7).toInt) (by omega) (by omega)
                    have z_742 := x_R_s (t := t) (n := nn) (a := (N.2.1 77 7).toInt) (v := v562.toInt) (by omega) (by omega) (by omega)
                    have z_743 := z_412
                    exact h M726 hG727 F728 (by omega) (by omega) (by omega) (RS_m (a := (N.2.1 77 7).toInt) (kd := (4 : Int32).toInt) (wh := v562.toInt) (by omega) (by omega) (by omega) (by omega) (by omega) (by omega) (by omega) (by omega) z_742)
              · refine to_c (pc := 30) rw_155_30 (x := (1 : Int32)) rfl rfl (to_go (pc := 31) rw_155_31 (s_r1 (pc := 35) rw_155_35 (A := 1) rfl (by decide) (b_ieq_f (pc := 199) rw_156_199 (A := 1) rfl (by decide) (to_an (pc := 202) rw_156_202 rfl (to_c (pc := 203) rw_156_203 (x := (3 : Int32)) rfl rfl (s_pI (pc := 204) rw_156_204 hG410 rfl (fun M745 W744 => ?_)))))))
                have hG746 := g_w hG410 W744 (A := 3) rfl (lo := 0) (hi := 5) rfl rfl (by omega) (by decide)
                have F747 := FR.w F411 W744 (show 77 = 77 ∧ 7 ≤ 8 ∧ 8 ≤ 10 by decide)
                refine to_an (pc := 207) rw_156_207 rfl (to_c (pc := 208) rw_156_208 (x := (0 : Int32)) rfl rfl (s_pI (pc := 209) rw_156_209 hG746 rfl (fun M749 W748 => ?_)))
                have hG750 := g_wf hG746 W748 rfl rfl (by decide)
                have F751 := FR.w F747 W748 (show 77 = 77 ∧ 7 ≤ 9 ∧ 9 ≤ 10 by decide)
                have c_752 : M749.2.1 77 7 = (N.2.1 77 7) := (W_n W748 (by decide) (W_n W744 (by decide) c_413))
                have t_753 : (M749.2.1 77 7).toInt = (N.2.1 77 7).toInt := congrArg Int32.toInt c_752
                have c_754 : M749.2.1 77 6 = (N.2.1 77 6) := (W_n W748 (by decide) (W_n W744 (by decide) c_415))
                have t_755 : (M749.2.1 77 6).toInt = (N.2.1 77 6).toInt := congrArg Int32.toInt c_754
                have c_756 : M749.2.1 77 10 = (N.2.1 77 7) := (W_n W748 (by decide) (W_n W744 (by decide) (W_e W408)))
                have t_757 : (M749.2.1 77 10).toInt = (N.2.1 77 7).toInt := congrArg Int32.toInt c_756
                have c_758 : M749.2.1 77 8 = (3 : Int32) := (W_n W748 (by decide) (W_e W744))
                have k_759 : (3 : Int32).toInt = 3 := rfl
                have t_760 : (M749.2.1 77 8).toInt = (3 : Int32).toInt := congrArg Int32.toInt c_758
                have c_761 : M749.2.1 77 9 = (0 : Int32) := (W_e W748)
                have k_762 : (0 : Int32).toInt = 0 := rfl
                have t_763 : (M749.2.1 77 9).toInt = (0 : Int32).toInt := congrArg Int32.toInt c_761
                have j_764 := (TR_f (fun a i z => W_n W748 (tg_13 a i z) rfl) (TR_f (fun a i z => W_n W744 (tg_16 a i z) rfl) j_565))
                have j_765 := (W9_f (fun a i z => W_n W748 (tg_15 a i z) rfl) (W9_f (fun a i z => W_n W744 (tg_18 a i z) rfl) (W9_f (fun a i z => W_n W408 (tg_19 a i z) rfl) g8)))
                exact (U_156_0 (t := t) (nn := nn) hX hd q1 q2 q3 q4 q5 q6 h ((500 - (M749.2.1 77 7).toInt).toNat + 1)) M749  hG750 F751 (by omega) (by omega) (by omega) (by omega) (by rw [show (M749.2.1 77 10).toInt = (N.2.1 77 7).toInt by omega]; omega) (by omega) (by omega) (by omega) (by omega) (by rw [show (M749.2.1 77 9).toInt = 0 by omega, show (M749.2.1 77 7).toInt = (M749.2.1 77 10).toInt by omega]; rfl) (congrArg (x_end x_dg t nn) (show (M749.2.1 77 7).toInt = (M749.2.1 77 10).toInt by omega)) (by omega) (by omega) (by omega) j_764 j_765 (by omega)
        · refine to_an (pc := 8) rw_154_8 rfl (s_gR (pc := 9) rw_154_9 hG410 rfl (v := 78) rfl (to_in (pc := 12) rw_154_12 rfl (s_ial (pc := 13) rw_154_13 hG410 rfl (n := 500) rfl rfl (A := (N.2.1 77 7).toInt) rfl (by omega) (by omega) (lo := 0) (hi := 255) rfl rfl (fun v766 w_767 _ _ => ?_))))
          have j_769 := (TR_f (fun a i z => W_n W408 (tg_17 a i z) rfl) g7)
          have z_768 := TR_u j_769 (A := (N.2.1 77 7).toInt) (B := (N.2.1 77 7).toInt) (by omega) (by omega) w_767 rfl
          refine to_c (pc := 14) rw_154_14 (x := (97 : Int32)) rfl rfl (b_clt (pc := 16) rw_154_16 (A := v766.toInt) (B := 97) rfl rfl (fun h770 => ?_) (fun h770 => ?_))
          · refine to_c (pc := 34) rw_154_34 (x := (0 : Int32)) rfl rfl (s_r1 (pc := 35) rw_154_35 (A := 0) rfl (by decide) (b_ieq_t (pc := 87) rw_156_87 (A := 0) rfl (by decide) (to_an (pc := 191) rw_156_191 rfl (to_an (pc := 192) rw_156_192 rfl (tt_gI (pc := 193) rw_156_193 (g_o hG410 rfl) (v := (N.2.1 77 7)) c_413 (s_v (pc := 196) rw_156_196 (dp0 hd (by decide)) (ls0 := [.ref 77, .int (N.2.1 77 7)]) rfl (Nat.le_of_ble_eq_true rfl) (Nat.le_of_ble_eq_true rfl) rfl (to_rc rfl rfl rfl (g_o hG410 rfl)) rfl (to_in (pc := 0) rw_155_0 rfl (to_an (pc := 1) rw_155_1 rfl (tt_gI (pc := 2) rw_155_2 (g_o hG410 rfl) (v := (N.2.1 77 6)) c_415 (b_cge (pc := 5) rw_155_5 (A := (N.2.1 77 7).toInt) (B := (N.2.1 77 6).toInt) rfl rfl (fun h771 => ?_) (fun h771 => ?_)))))))))))
            · refine to_c (pc := 34) rw_155_34 (x := (0 : Int32)) rfl rfl (s_r1 (pc := 35) rw_155_35 (A := 0) rfl (by decide) (b_ieq_t (pc := 199) rw_156_199 (A := 0) rfl (by decide) (to_an (pc := 276) rw_156_276 rfl (to_an (pc := 277) rw_156_277 rfl (s_gR (pc := 278) rw_156_278 hG410 rfl (v := 78) rfl (to_an (pc := 281) rw_156_281 rfl (tt_gI (pc := 282) rw_156_282 (g_o hG410 rfl) (v := (N.2.1 77 7)) c_413 (s_ialk (pc := 285) rw_156_285 hG410 rfl (n := 500) rfl rfl (A := (N.2.1 77 7).toInt) rfl (by omega) (by omega) (v := v766) w_767 (s_pI (pc := 286) rw_156_286 hG410 rfl (fun M775 W774 => ?_))))))))))
              have hG776 := g_wf hG410 W774 rfl rfl (by decide)
              have F777 := FR.w F411 W774 (show 77 = 77 ∧ 7 ≤ 9 ∧ 9 ≤ 10 by decide)
              refine to_an (pc := 289) rw_156_289 rfl (to_an (pc := 290) rw_156_290 rfl ?_)
              have c_778 : M775.2.1 77 9 = v766 := (W_e W774)
              refine tt_gI (pc := 291) rw_156_291 (g_o hG776 rfl) (v := v766) c_778 (to_c (pc := 294) rw_156_294 (x := (59 : Int32)) rfl rfl (b_ceq (pc := 296) rw_156_296 (A := v766.toInt) (B := 59) rfl rfl (fun h779 => ?_) (fun h779 => ?_)))
              · refine to_c (pc := 326) rw_156_326 (x := (4 : Int32)) rfl rfl (to_go (pc := 327) rw_156_327 (s_pI (pc := 331) rw_156_331 hG776 rfl (fun M781 W780 => ?_)))
                have hG782 := g_w hG776 W780 (A := 4) rfl (lo := 0) (hi := 5) rfl rfl (by omega) (by decide)
                have F783 := FR.w F777 W780 (show 77 = 77 ∧ 7 ≤ 8 ∧ 8 ≤ 10 by decide)
                refine to_an (pc := 334) rw_156_334 rfl (to_dupr (pc := 335) rw_156_335 ?_)
                have c_784 : M781.2.1 77 7 = (N.2.1 77 7) := (W_n W780 (by decide) (W_n W774 (by decide) c_413))
                refine tt_gI (pc := 336) rw_156_336 (g_o hG782 rfl) (v := (N.2.1 77 7)) c_784 (to_c (pc := 339) rw_156_339 (x := (1 : Int32)) rfl rfl (s_add (pc := 340) rw_156_340 (A := (N.2.1 77 7).toInt) (B := 1) rfl rfl (by omega) (fun v785 e786 => s_pI (pc := 341) rw_156_341 hG782 rfl (fun M788 W787 => ?_))))
                have hG789 := g_w hG782 W787 (A := v785.toInt) rfl (lo := 0) (hi := 500) rfl rfl (by omega) (by decide)
                have F790 := FR.w F783 W787 (show 77 = 77 ∧ 7 ≤ 7 ∧ 7 ≤ 10 by decide)
                refine to_rv (pc := 344) rw_156_344 ?_
                have c_791 : M788.2.1 77 7 = v785 := (W_e W787)
                have t_792 : (M788.2.1 77 7).toInt = v785.toInt := congrArg Int32.toInt c_791
                have c_793 : M788.2.1 77 6 = (N.2.1 77 6) := (W_n W787 (by decide) (W_n W780 (by decide) (W_n W774 (by decide) c_415)))
                have t_794 : (M788.2.1 77 6).toInt = (N.2.1 77 6).toInt := congrArg Int32.toInt c_793
                have c_795 : M788.2.1 77 8 = (4 : Int32) := (W_n W787 (by decide) (W_e W780))
                have k_796 : (4 : Int32).toInt = 4 := rfl
                have t_797 : (M788.2.1 77 8).toInt = (4 : Int32).toInt := congrArg Int32.toInt c_795
                have c_798 : M788.2.1 77 9 = v766 := (W_n W787 (by decide) (W_n W780 (by decide) c_778))
                have t_799 : (M788.2.1 77 9).toInt = v766.toInt := congrArg Int32.toInt c_798
                have c_800 : M788.2.1 77 10 = (N.2.1 77 7) := (W_n W787 (by decide) (W_n W780 (by decide) (W_n W774 (by decide) (W_e W408))))
                have t_801 : (M788.2.1 77 10).toInt = (N.2.1 77 7).toInt := congrArg Int32.toInt c_800
                have z_802 := (x_ts (t := t) (n := nn) (a := (N.2.1 77 7).toInt) (by omega) (by omega) (by omega)).2.2
                have z_803 := x_nx_b (t := t) (n := nn) (a := (N.2.1 77 7).toInt) (by omega) (by omega)
                have z_804 := x_R_s (t := t) (n := nn) (a := (N.2.1 77 7).toInt) (v := v766.toInt) (by omega) (by omega) (by omega)
                have z_805 := z_412
                exact h M788 hG789 F790 (by omega) (by omega) (by omega) (RS_m (a := (N.2.1 77 7).toInt) (kd := (4 : Int32).toInt) (wh := v766.toInt) (by omega) (by omega) (by omega) (by omega) (by omega) (by omega) (by omega) (by omega) z_804)
              · refine to_an (pc := 299) rw_156_299 rfl (tt_gI (pc := 300) rw_156_300 (g_o hG776 rfl) (v := v766) c_778 (to_c (pc := 303) rw_156_303 (x := (40 : Int32)) rfl rfl (b_ceq (pc := 305) rw_156_305 (A := v766.toInt) (B := 40) rfl rfl (fun h806 => ?_) (fun h806 => ?_))))
                · refine to_c (pc := 326) rw_156_326 (x := (4 : Int32)) rfl rfl (to_go (pc := 327) rw_156_327 (s_pI (pc := 331) rw_156_331 hG776 rfl (fun M808 W807 => ?_)))
                  have hG809 := g_w hG776 W807 (A := 4) rfl (lo := 0) (hi := 5) rfl rfl (by omega) (by decide)
                  have F810 := FR.w F777 W807 (show 77 = 77 ∧ 7 ≤ 8 ∧ 8 ≤ 10 by decide)
                  refine to_an (pc := 334) rw_156_334 rfl (to_dupr (pc := 335) rw_156_335 ?_)
                  have c_811 : M808.2.1 77 7 = (N.2.1 77 7) := (W_n W807 (by decide) (W_n W774 (by decide) c_413))
                  refine tt_gI (pc := 336) rw_156_336 (g_o hG809 rfl) (v := (N.2.1 77 7)) c_811 (to_c (pc := 339) rw_156_339 (x := (1 : Int32)) rfl rfl (s_add (pc := 340) rw_156_340 (A := (N.2.1 77 7).toInt) (B := 1) rfl rfl (by omega) (fun v812 e813 => s_pI (pc := 341) rw_156_341 hG809 rfl (fun M815 W814 => ?_))))
                  have hG816 := g_w hG809 W814 (A := v812.toInt) rfl (lo := 0) (hi := 500) rfl rfl (by omega) (by decide)
                  have F817 := FR.w F810 W814 (show 77 = 77 ∧ 7 ≤ 7 ∧ 7 ≤ 10 by decide)
                  refine to_rv (pc := 344) rw_156_344 ?_
                  have c_818 : M815.2.1 77 7 = v812 := (W_e W814)
                  have t_819 : (M815.2.1 77 7).toInt = v812.toInt := congrArg Int32.toInt c_818
                  have c_820 : M815.2.1 77 6 = (N.2.1 77 6) := (W_n W814 (by decide) (W_n W807 (by decide) (W_n W774 (by decide) c_415)))
                  have t_821 : (M815.2.1 77 6).toInt = (N.2.1 77 6).toInt := congrArg Int32.toInt c_820
                  have c_822 : M815.2.1 77 8 = (4 : Int32) := (W_n W814 (by decide) (W_e W807))
                  have k_823 : (4 : Int32).toInt = 4 := rfl
                  have t_824 : (M815.2.1 77 8).toInt = (4 : Int32).toInt := congrArg Int32.toInt c_822
                  have c_825 : M815.2.1 77 9 = v766 := (W_n W814 (by decide) (W_n W807 (by decide) c_778))
                  have t_826 : (M815.2.1 77 9).toInt = v766.toInt := congrArg Int32.toInt c_825
                  have c_827 : M815.2.1 77 10 = (N.2.1 77 7) := (W_n W814 (by decide) (W_n W807 (by decide) (W_n W774 (by decide) (W_e W408))))
                  have t_828 : (M815.2.1 77 10).toInt = (N.2.1 77 7).toInt := congrArg Int32.toInt c_827
                  have z_829 := (x_ts (t := t) (n := nn) (a := (N.2.1 77 7).toInt) (by omega) (by omega) (by omega)).2.2
                  have z_830 := x_nx_b (t := t) (n := nn) (a := (N.2.1 77 7).toInt) (by omega) (by omega)
                  have z_831 := x_R_s (t := t) (n := nn) (a := (N.2.1 77 7).toInt) (v := v766.toInt) (by omega) (by omega) (by omega)
                  have z_832 := z_412
                  exact h M815 hG816 F817 (by omega) (by omega) (by omega) (RS_m (a := (N.2.1 77 7).toInt) (kd := (4 : Int32).toInt) (wh := v766.toInt) (by omega) (by omega) (by omega) (by omega) (by omega) (by omega) (by omega) (by omega) z_831)
                · refine to_an (pc := 308) rw_156_308 rfl (tt_gI (pc := 309) rw_156_309 (g_o hG776 rfl) (v := v766) c_778 (to_c (pc := 312) rw_156_312 (x := (41 : Int32)) rfl rfl (b_ceq (pc := 314) rw_156_314 (A := v766.toInt) (B := 41) rfl rfl (fun h833 => ?_) (fun h833 => ?_))))
                  · refine to_c (pc := 326) rw_156_326 (x := (4 : Int32)) rfl rfl (to_go (pc := 327) rw_156_327 (s_pI (pc := 331) rw_156_331 hG776 rfl (fun M835 W834 => ?_)))
                    have hG836 := g_w hG776 W834 (A := 4) rfl (lo := 0) (hi := 5) rfl rfl (by omega) (by decide)
                    have F837 := FR.w F777 W834 (show 77 = 77 ∧ 7 ≤ 8 ∧ 8 ≤ 10 by decide)
                    refine to_an (pc := 334) rw_156_334 rfl (to_dupr (pc := 335) rw_156_335 ?_)
                    have c_838 : M835.2.1 77 7 = (N.2.1 77 7) := (W_n W834 (by decide) (W_n W774 (by decide) c_413))
                    refine tt_gI (pc := 336) rw_156_336 (g_o hG836 rfl) (v := (N.2.1 77 7)) c_838 (to_c (pc := 339) rw_156_339 (x := (1 : Int32)) rfl rfl (s_add (pc := 340) rw_156_340 (A := (N.2.1 77 7).toInt) (B := 1) rfl rfl (by omega) (fun v839 e840 => s_pI (pc := 341) rw_156_341 hG836 rfl (fun M842 W841 => ?_))))
                    have hG843 := g_w hG836 W841 (A := v839.toInt) rfl (lo := 0) (hi := 500) rfl rfl (by omega) (by decide)
                    have F844 := FR.w F837 W841 (show 77 = 77 ∧ 7 ≤ 7 ∧ 7 ≤ 10 by decide)
                    refine to_rv (pc := 344) rw_156_344 ?_
                    have c_845 : M842.2.1 77 7 = v839 := (W_e W841)
                    have t_846 : (M842.2.1 77 7).toInt = v839.toInt := congrArg Int32.toInt c_845
                    have c_847 : M842.2.1 77 6 = (N.2.1 77 6) := (W_n W841 (by decide) (W_n W834 (by decide) (W_n W774 (by decide) c_415)))
                    have t_848 : (M842.2.1 77 6).toInt = (N.2.1 77 6).toInt := congrArg Int32.toInt c_847
                    have c_849 : M842.2.1 77 8 = (4 : Int32) := (W_n W841 (by decide) (W_e W834))
                    have k_850 : (4 : Int32).toInt = 4 := rfl
                    have t_851 : (M842.2.1 77 8).toInt = (4 : Int32).toInt := congrArg Int32.toInt c_849
                    have c_852 : M842.2.1 77 9 = v766 := (W_n W841 (by decide) (W_n W834 (by decide) c_778))
                    have t_853 : (M842.2.1 77 9).toInt = v766.toInt := congrArg Int32.toInt c_852
                    have c_854 : M842.2.1 77 10 = (N.2.1 77 7) := (W_n W841 (by decide) (W_n W834 (by decide) (W_n W774 (by decide) (W_e W408))))
                    have t_855 : (M842.2.1 77 10).toInt = (N.2.1 77 7).toInt := congrArg Int32.toInt c_854
                    have z_856 := (x_ts (t := t) (n := nn) (a := (N.2.1 77 7).toInt) (by omega) (by omega) (by omega)).2.2
                    have z_857 := x_nx_b (t := t) (n := nn) (a := (N.2.1 77 7).toInt) (by omega) (by omega)
                    have z_858 := x_R_s (t := t) (n := nn) (a := (N.2.1 77 7).toInt) (v := v766.toInt) (by omega) (by omega) (by omega)
                    have z_859 := z_412
                    exact h M842 hG843 F844 (by omega) (by omega) (by omega) (RS_m (a := (N.2.1 77 7).toInt) (kd := (4 : Int32).toInt) (wh := v766.toInt) (by omega) (by omega) (by omega) (by omega) (by omega) (by omega) (by omega) (by omega) z_858)
                  · refine to_an (pc := 317) rw_156_317 rfl (tt_gI (pc := 318) rw_156_318 (g_o hG776 rfl) (v := v766) c_778 (to_c (pc := 321) rw_156_321 (x := (61 : Int32)) rfl rfl (b_cne (pc := 323) rw_156_323 (A := v766.toInt) (B := 61) rfl rfl (fun h860 => ?_) (fun h860 => ?_))))
                    · refine to_c (pc := 330) rw_156_330 (x := (5 : Int32)) rfl rfl (s_pI (pc := 331) rw_156_331 hG776 rfl (fun M862 W861 => ?_))
                      have hG863 := g_w hG776 W861 (A := 5) rfl (lo := 0) (hi := 5) rfl rfl (by omega) (by decide)
                      have F864 := FR.w F777 W861 (show 77 = 77 ∧ 7 ≤ 8 ∧ 8 ≤ 10 by decide)
                      refine to_an (pc := 334) rw_156_334 rfl (to_dupr (pc := 335) rw_156_335 ?_)
                      have c_865 : M862.2.1 77 7 = (N.2.1 77 7) := (W_n W861 (by decide) (W_n W774 (by decide) c_413))
                      refine tt_gI (pc := 336) rw_156_336 (g_o hG863 rfl) (v := (N.2.1 77 7)) c_865 (to_c (pc := 339) rw_156_339 (x := (1 : Int32)) rfl rfl (s_add (pc := 340) rw_156_340 (A := (N.2.1 77 7).toInt) (B := 1) rfl rfl (by omega) (fun v866 e867 => s_pI (pc := 341) rw_156_341 hG863 rfl (fun M869 W868 => ?_))))
                      have hG870 := g_w hG863 W868 (A := v866.toInt) rfl (lo := 0) (hi := 500) rfl rfl (by omega) (by decide)
                      have F871 := FR.w F864 W868 (show 77 = 77 ∧ 7 ≤ 7 ∧ 7 ≤ 10 by decide)
                      refine to_rv (pc := 344) rw_156_344 ?_
                      have c_872 : M869.2.1 77 7 = v866 := (W_e W868)
                      have t_873 : (M869.2.1 77 7).toInt = v866.toInt := congrArg Int32.toInt c_872
                      have c_874 : M869.2.1 77 6 = (N.2.1 77 6) := (W_n W868 (by decide) (W_n W861 (by decide) (W_n W774 (by decide) c_415)))
                      have t_875 : (M869.2.1 77 6).toInt = (N.2.1 77 6).toInt := congrArg Int32.toInt c_874
                      have c_876 : M869.2.1 77 8 = (5 : Int32) := (W_n W868 (by decide) (W_e W861))
                      have k_877 : (5 : Int32).toInt = 5 := rfl
                      have t_878 : (M869.2.1 77 8).toInt = (5 : Int32).toInt := congrArg Int32.toInt c_876
                      have c_879 : M869.2.1 77 9 = v766 := (W_n W868 (by decide) (W_n W861 (by decide) c_778))
                      have t_880 : (M869.2.1 77 9).toInt = v766.toInt := congrArg Int32.toInt c_879
                      have c_881 : M869.2.1 77 10 = (N.2.1 77 7) := (W_n W868 (by decide) (W_n W861 (by decide) (W_n W774 (by decide) (W_e W408))))
                      have t_882 : (M869.2.1 77 10).toInt = (N.2.1 77 7).toInt := congrArg Int32.toInt c_881
                      have z_883 := (x_ts (t := t) (n := nn) (a := (N.2.1 77 7).toInt) (by omega) (by omega) (by omega)).2.2
                      have z_884 := x_nx_b (t := t) (n := nn) (a := (N.2.1 77 7).toInt) (by omega) (by omega)
                      have z_885 := x_R_b (t := t) (n := nn) (a := (N.2.1 77 7).toInt) (w := v766.toInt) (by omega) (by omega) (by omega) (by omega)
                      have z_886 := z_412
                      exact h M869 hG870 F871 (by omega) (by omega) (by omega) (RS_m (a := (N.2.1 77 7).toInt) (kd := (5 : Int32).toInt) (wh := v766.toInt) (by omega) (by omega) (by omega) (by omega) (by omega) (by omega) (by omega) (by omega) z_885)
                    · refine to_c (pc := 326) rw_156_326 (x := (4 : Int32)) rfl rfl (to_go (pc := 327) rw_156_327 (s_pI (pc := 331) rw_156_331 hG776 rfl (fun M888 W887 => ?_)))
                      have hG889 := g_w hG776 W887 (A := 4) rfl (lo := 0) (hi := 5) rfl rfl (by omega) (by decide)
                      have F890 := FR.w F777 W887 (show 77 = 77 ∧ 7 ≤ 8 ∧ 8 ≤ 10 by decide)
                      refine to_an (pc := 334) rw_156_334 rfl (to_dupr (pc := 335) rw_156_335 ?_)
                      have c_891 : M888.2.1 77 7 = (N.2.1 77 7) := (W_n W887 (by decide) (W_n W774 (by decide) c_413))
                      refine tt_gI (pc := 336) rw_156_336 (g_o hG889 rfl) (v := (N.2.1 77 7)) c_891 (to_c (pc := 339) rw_156_339 (x := (1 : Int32)) rfl rfl (s_add (pc := 340) rw_156_340 (A := (N.2.1 77 7).toInt) (B := 1) rfl rfl (by omega) (fun v892 e893 => s_pI (pc := 341) rw_156_341 hG889 rfl (fun M895 W894 => ?_))))
                      have hG896 := g_w hG889 W894 (A := v892.toInt) rfl (lo := 0) (hi := 500) rfl rfl (by omega) (by decide)
                      have F897 := FR.w F890 W894 (show 77 = 77 ∧ 7 ≤ 7 ∧ 7 ≤ 10 by decide)
                      refine to_rv (pc := 344) rw_156_344 ?_
                      have c_898 : M895.2.1 77 7 = v892 := (W_e W894)
                      have t_899 : (M895.2.1 77 7).toInt = v892.toInt := congrArg Int32.toInt c_898
                      have c_900 : M895.2.1 77 6 = (N.2.1 77 6) := (W_n W894 (by decide) (W_n W887 (by decide) (W_n W774 (by decide) c_415)))
                      have t_901 : (M895.2.1 77 6).toInt = (N.2.1 77 6).toInt := congrArg Int32.toInt c_900
                      have c_902 : M895.2.1 77 8 = (4 : Int32) := (W_n W894 (by decide) (W_e W887))
                      have k_903 : (4 : Int32).toInt = 4 := rfl
                      have t_904 : (M895.2.1 77 8).toInt = (4 : Int32).toInt := congrArg Int32.toInt c_902
                      have c_905 : M895.2.1 77 9 = v766 := (W_n W894 (by decide) (W_n W887 (by decide) c_778))
                      have t_906 : (M895.2.1 77 9).toInt = v766.toInt := congrArg Int32.toInt c_905
                      have c_907 : M895.2.1 77 10 = (N.2.1 77 7) := (W_n W894 (by decide) (W_n W887 (by decide) (W_n W774 (by decide) (W_e W408))))
                      have t_908 : (M895.2.1 77 10).toInt = (N.2.1 77 7).toInt := congrArg Int32.toInt c_907
                      have z_909 := (x_ts (t := t) (n := nn) (a := (N.2.1 77 7).toInt) (by omega) (by omega) (by omega)).2.2
                      have z_910 := x_nx_b (t := t) (n := nn) (a := (N.2.1 77 7).toInt) (by omega) (by omega)
                      have z_911 := x_R_s (t := t) (n := nn) (a := (N.2.1 77 7).toInt) (v := v766.toInt) (by omega) (by omega) (by omega)
                      have z_912 := z_412
                      exact h M895 hG896 F897 (by omega) (by omega) (by omega) (RS_m (a := (N.2.1 77 7).toInt) (kd := (4 : Int32).toInt) (wh := v766.toInt) (by omega) (by omega) (by omega) (by omega) (by omega) (by omega) (by omega) (by omega) z_911)
            · refine to_an (pc := 8) rw_155_8 rfl (s_gR (pc := 9) rw_155_9 hG410 rfl (v := 78) rfl (to_in (pc := 12) rw_155_12 rfl (s_ialk (pc := 13) rw_155_13 hG410 rfl (n := 500) rfl rfl (A := (N.2.1 77 7).toInt) rfl (by omega) (by omega) (v := v766) w_767 (to_c (pc := 14) rw_155_14 (x := (48 : Int32)) rfl rfl (b_clt (pc := 16) rw_155_16 (A := v766.toInt) (B := 48) rfl rfl (fun h915 => ?_) (fun h915 => ?_))))))
              · refine to_c (pc := 34) rw_155_34 (x := (0 : Int32)) rfl rfl (s_r1 (pc := 35) rw_155_35 (A := 0) rfl (by decide) (b_ieq_t (pc := 199) rw_156_199 (A := 0) rfl (by decide) (to_an (pc := 276) rw_156_276 rfl (to_an (pc := 277) rw_156_277 rfl (s_gR (pc := 278) rw_156_278 hG410 rfl (v := 78) rfl (to_an (pc := 281) rw_156_281 rfl (tt_gI (pc := 282) rw_156_282 (g_o hG410 rfl) (v := (N.2.1 77 7)) c_413 (s_ialk (pc := 285) rw_156_285 hG410 rfl (n := 500) rfl rfl (A := (N.2.1 77 7).toInt) rfl (by omega) (by omega) (v := v766) w_767 (s_pI (pc := 286) rw_156_286 hG410 rfl (fun M919 W918 => ?_))))))))))
                have hG920 := g_wf hG410 W918 rfl rfl (by decide)
                have F921 := FR.w F411 W918 (show 77 = 77 ∧ 7 ≤ 9 ∧ 9 ≤ 10 by decide)
                refine to_an (pc := 289) rw_156_289 rfl (to_an (pc := 290) rw_156_290 rfl ?_)
                have c_922 : M919.2.1 77 9 = v766 := (W_e W918)
                refine tt_gI (pc := 291) rw_156_291 (g_o hG920 rfl) (v := v766) c_922 (to_c (pc := 294) rw_156_294 (x := (59 : Int32)) rfl rfl (b_ceq_f (pc := 296) rw_156_296 (A := v766.toInt) (B := 59) rfl rfl (by omega) (to_an (pc := 299) rw_156_299 rfl (tt_gI (pc := 300) rw_156_300 (g_o hG920 rfl) (v := v766) c_922 (to_c (pc := 303) rw_156_303 (x := (40 : Int32)) rfl rfl (b_ceq (pc := 305) rw_156_305 (A := v766.toInt) (B := 40) rfl rfl (fun h923 => ?_) (fun h923 => ?_)))))))
                · refine to_c (pc := 326) rw_156_326 (x := (4 : Int32)) rfl rfl (to_go (pc := 327) rw_156_327 (s_pI (pc := 331) rw_156_331 hG920 rfl (fun M925 W924 => ?_)))
                  have hG926 := g_w hG920 W924 (A := 4) rfl (lo := 0) (hi := 5) rfl rfl (by omega) (by decide)
                  have F927 := FR.w F921 W924 (show 77 = 77 ∧ 7 ≤ 8 ∧ 8 ≤ 10 by decide)
                  refine to_an (pc := 334) rw_156_334 rfl (to_dupr (pc := 335) rw_156_335 ?_)
                  have c_928 : M925.2.1 77 7 = (N.2.1 77 7) := (W_n W924 (by decide) (W_n W918 (by decide) c_413))
                  refine tt_gI (pc := 336) rw_156_336 (g_o hG926 rfl) (v := (N.2.1 77 7)) c_928 (to_c (pc := 339) rw_156_339 (x := (1 : Int32)) rfl rfl (s_add (pc := 340) rw_156_340 (A := (N.2.1 77 7).toInt) (B := 1) rfl rfl (by omega) (fun v929 e930 => s_pI (pc := 341) rw_156_341 hG926 rfl (fun M932 W931 => ?_))))
                  have hG933 := g_w hG926 W931 (A := v929.toInt) rfl (lo := 0) (hi := 500) rfl rfl (by omega) (by decide)
                  have F934 := FR.w F927 W931 (show 77 = 77 ∧ 7 ≤ 7 ∧ 7 ≤ 10 by decide)
                  refine to_rv (pc := 344) rw_156_344 ?_
                  have c_935 : M932.2.1 77 7 = v929 := (W_e W931)
                  have t_936 : (M932.2.1 77 7).toInt = v929.toInt := congrArg Int32.toInt c_935
                  have c_937 : M932.2.1 77 6 = (N.2.1 77 6) := (W_n W931 (by decide) (W_n W924 (by decide) (W_n W918 (by decide) c_415)))
                  have t_938 : (M932.2.1 77 6).toInt = (N.2.1 77 6).toInt := congrArg Int32.toInt c_937
                  have c_939 : M932.2.1 77 8 = (4 : Int32) := (W_n W931 (by decide) (W_e W924))
                  have k_940 : (4 : Int32).toInt = 4 := rfl
                  have t_941 : (M932.2.1 77 8).toInt = (4 : Int32).toInt := congrArg Int32.toInt c_939
                  have c_942 : M932.2.1 77 9 = v766 := (W_n W931 (by decide) (W_n W924 (by decide) c_922))
                  have t_943 : (M932.2.1 77 9).toInt = v766.toInt := congrArg Int32.toInt c_942
                  have c_944 : M932.2.1 77 10 = (N.2.1 77 7) := (W_n W931 (by decide) (W_n W924 (by decide) (W_n W918 (by decide) (W_e W408))))
                  have t_945 : (M932.2.1 77 10).toInt = (N.2.1 77 7).toInt := congrArg Int32.toInt c_944
                  have z_946 := (x_ts (t := t) (n := nn) (a := (N.2.1 77 7).toInt) (by omega) (by omega) (by omega)).2.2
                  have z_947 := x_nx_b (t := t) (n := nn) (a := (N.2.1 77 7).toInt) (by omega) (by omega)
                  have z_948 := x_R_s (t := t) (n := nn) (a := (N.2.1 77 7).toInt) (v := v766.toInt) (by omega) (by omega) (by omega)
                  have z_949 := z_412
                  exact h M932 hG933 F934 (by omega) (by omega) (by omega) (RS_m (a := (N.2.1 77 7).toInt) (kd := (4 : Int32).toInt) (wh := v766.toInt) (by omega) (by omega) (by omega) (by omega) (by omega) (by omega) (by omega) (by omega) z_948)
                · refine to_an (pc := 308) rw_156_308 rfl (tt_gI (pc := 309) rw_156_309 (g_o hG920 rfl) (v := v766) c_922 (to_c (pc := 312) rw_156_312 (x := (41 : Int32)) rfl rfl (b_ceq (pc := 314) rw_156_314 (A := v766.toInt) (B := 41) rfl rfl (fun h950 => ?_) (fun h950 => ?_))))
                  · refine to_c (pc := 326) rw_156_326 (x := (4 : Int32)) rfl rfl (to_go (pc := 327) rw_156_327 (s_pI (pc := 331) rw_156_331 hG920 rfl (fun M952 W951 => ?_)))
                    have hG953 := g_w hG920 W951 (A := 4) rfl (lo := 0) (hi := 5) rfl rfl (by omega) (by decide)
                    have F954 := FR.w F921 W951 (show 77 = 77 ∧ 7 ≤ 8 ∧ 8 ≤ 10 by decide)
                    refine to_an (pc := 334) rw_156_334 rfl (to_dupr (pc := 335) rw_156_335 ?_)
                    have c_955 : M952.2.1 77 7 = (N.2.1 77 7) := (W_n W951 (by decide) (W_n W918 (by decide) c_413))
                    refine tt_gI (pc := 336) rw_156_336 (g_o hG953 rfl) (v := (N.2.1 77 7)) c_955 (to_c (pc := 339) rw_156_339 (x := (1 : Int32)) rfl rfl (s_add (pc := 340) rw_156_340 (A := (N.2.1 77 7).toInt) (B := 1) rfl rfl (by omega) (fun v956 e957 => s_pI (pc := 341) rw_156_341 hG953 rfl (fun M959 W958 => ?_))))
                    have hG960 := g_w hG953 W958 (A := v956.toInt) rfl (lo := 0) (hi := 500) rfl rfl (by omega) (by decide)
                    have F961 := FR.w F954 W958 (show 77 = 77 ∧ 7 ≤ 7 ∧ 7 ≤ 10 by decide)
                    refine to_rv (pc := 344) rw_156_344 ?_
                    have c_962 : M959.2.1 77 7 = v956 := (W_e W958)
                    have t_963 : (M959.2.1 77 7).toInt = v956.toInt := congrArg Int32.toInt c_962
                    have c_964 : M959.2.1 77 6 = (N.2.1 77 6) := (W_n W958 (by decide) (W_n W951 (by decide) (W_n W918 (by decide) c_415)))
                    have t_965 : (M959.2.1 77 6).toInt = (N.2.1 77 6).toInt := congrArg Int32.toInt c_964
                    have c_966 : M959.2.1 77 8 = (4 : Int32) := (W_n W958 (by decide) (W_e W951))
                    have k_967 : (4 : Int32).toInt = 4 := rfl
                    have t_968 : (M959.2.1 77 8).toInt = (4 : Int32).toInt := congrArg Int32.toInt c_966
                    have c_969 : M959.2.1 77 9 = v766 := (W_n W958 (by decide) (W_n W951 (by decide) c_922))
                    have t_970 : (M959.2.1 77 9).toInt = v766.toInt := congrArg Int32.toInt c_969
                    have c_971 : M959.2.1 77 10 = (N.2.1 77 7) := (W_n W958 (by decide) (W_n W951 (by decide) (W_n W918 (by decide) (W_e W408))))
                    have t_972 : (M959.2.1 77 10).toInt = (N.2.1 77 7).toInt := congrArg Int32.toInt c_971
                    have z_973 := (x_ts (t := t) (n := nn) (a := (N.2.1 77 7).toInt) (by omega) (by omega) (by omega)).2.2
                    have z_974 := x_nx_b (t := t) (n := nn) (a := (N.2.1 77 7).toInt) (by omega) (by omega)
                    have z_975 := x_R_s (t := t) (n := nn) (a := (N.2.1 77 7).toInt) (v := v766.toInt) (by omega) (by omega) (by omega)
                    have z_976 := z_412
                    exact h M959 hG960 F961 (by omega) (by omega) (by omega) (RS_m (a := (N.2.1 77 7).toInt) (kd := (4 : Int32).toInt) (wh := v766.toInt) (by omega) (by omega) (by omega) (by omega) (by omega) (by omega) (by omega) (by omega) z_975)
                  · refine to_an (pc := 317) rw_156_317 rfl (tt_gI (pc := 318) rw_156_318 (g_o hG920 rfl) (v := v766) c_922 (to_c (pc := 321) rw_156_321 (x := (61 : Int32)) rfl rfl (b_cne_t (pc := 323) rw_156_323 (A := v766.toInt) (B := 61) rfl rfl (by omega) (to_c (pc := 330) rw_156_330 (x := (5 : Int32)) rfl rfl (s_pI (pc := 331) rw_156_331 hG920 rfl (fun M978 W977 => ?_))))))
                    have hG979 := g_w hG920 W977 (A := 5) rfl (lo := 0) (hi := 5) rfl rfl (by omega) (by decide)
                    have F980 := FR.w F921 W977 (show 77 = 77 ∧ 7 ≤ 8 ∧ 8 ≤ 10 by decide)
                    refine to_an (pc := 334) rw_156_334 rfl (to_dupr (pc := 335) rw_156_335 ?_)
                    have c_981 : M978.2.1 77 7 = (N.2.1 77 7) := (W_n W977 (by decide) (W_n W918 (by decide) c_413))
                    refine tt_gI (pc := 336) rw_156_336 (g_o hG979 rfl) (v := (N.2.1 77 7)) c_981 (to_c (pc := 339) rw_156_339 (x := (1 : Int32)) rfl rfl (s_add (pc := 340) rw_156_340 (A := (N.2.1 77 7).toInt) (B := 1) rfl rfl (by omega) (fun v982 e983 => s_pI (pc := 341) rw_156_341 hG979 rfl (fun M985 W984 => ?_))))
                    have hG986 := g_w hG979 W984 (A := v982.toInt) rfl (lo := 0) (hi := 500) rfl rfl (by omega) (by decide)
                    have F987 := FR.w F980 W984 (show 77 = 77 ∧ 7 ≤ 7 ∧ 7 ≤ 10 by decide)
                    refine to_rv (pc := 344) rw_156_344 ?_
                    have c_988 : M985.2.1 77 7 = v982 := (W_e W984)
                    have t_989 : (M985.2.1 77 7).toInt = v982.toInt := congrArg Int32.toInt c_988
                    have c_990 : M985.2.1 77 6 = (N.2.1 77 6) := (W_n W984 (by decide) (W_n W977 (by decide) (W_n W918 (by decide) c_415)))
                    have t_991 : (M985.2.1 77 6).toInt = (N.2.1 77 6).toInt := congrArg Int32.toInt c_990
                    have c_992 : M985.2.1 77 8 = (5 : Int32) := (W_n W984 (by decide) (W_e W977))
                    have k_993 : (5 : Int32).toInt = 5 := rfl
                    have t_994 : (M985.2.1 77 8).toInt = (5 : Int32).toInt := congrArg Int32.toInt c_992
                    have c_995 : M985.2.1 77 9 = v766 := (W_n W984 (by decide) (W_n W977 (by decide) c_922))
                    have t_996 : (M985.2.1 77 9).toInt = v766.toInt := congrArg Int32.toInt c_995
                    have c_997 : M985.2.1 77 10 = (N.2.1 77 7) := (W_n W984 (by decide) (W_n W977 (by decide) (W_n W918 (by decide) (W_e W408))))
                    have t_998 : (M985.2.1 77 10).toInt = (N.2.1 77 7).toInt := congrArg Int32.toInt c_997
                    have z_999 := (x_ts (t := t) (n := nn) (a := (N.2.1 77 7).toInt) (by omega) (by omega) (by omega)).2.2
                    have z_1000 := x_nx_b (t := t) (n := nn) (a := (N.2.1 77 7).toInt) (by omega) (by omega)
                    have z_1001 := x_R_b (t := t) (n := nn) (a := (N.2.1 77 7).toInt) (w := v766.toInt) (by omega) (by omega) (by omega) (by omega)
                    have z_1002 := z_412
                    exact h M985 hG986 F987 (by omega) (by omega) (by omega) (RS_m (a := (N.2.1 77 7).toInt) (kd := (5 : Int32).toInt) (wh := v766.toInt) (by omega) (by omega) (by omega) (by omega) (by omega) (by omega) (by omega) (by omega) z_1001)
              · refine to_an (pc := 19) rw_155_19 rfl (s_gR (pc := 20) rw_155_20 hG410 rfl (v := 78) rfl (to_in (pc := 23) rw_155_23 rfl (s_ialk (pc := 24) rw_155_24 hG410 rfl (n := 500) rfl rfl (A := (N.2.1 77 7).toInt) rfl (by omega) (by omega) (v := v766) w_767 (to_c (pc := 25) rw_155_25 (x := (57 : Int32)) rfl rfl (b_cgt (pc := 27) rw_155_27 (A := v766.toInt) (B := 57) rfl rfl (fun h1005 => ?_) (fun h1005 => ?_))))))
                · refine to_c (pc := 34) rw_155_34 (x := (0 : Int32)) rfl rfl (s_r1 (pc := 35) rw_155_35 (A := 0) rfl (by decide) (b_ieq_t (pc := 199) rw_156_199 (A := 0) rfl (by decide) (to_an (pc := 276) rw_156_276 rfl (to_an (pc := 277) rw_156_277 rfl (s_gR (pc := 278) rw_156_278 hG410 rfl (v := 78) rfl (to_an (pc := 281) rw_156_281 rfl (tt_gI (pc := 282) rw_156_282 (g_o hG410 rfl) (v := (N.2.1 77 7)) c_413 (s_ialk (pc := 285) rw_156_285 hG410 rfl (n := 500) rfl rfl (A := (N.2.1 77 7).toInt) rfl (by omega) (by omega) (v := v766) w_767 (s_pI (pc := 286) rw_156_286 hG410 rfl (fun M1009 W1008 => ?_))))))))))
                  have hG1010 := g_wf hG410 W1008 rfl rfl (by decide)
                  have F1011 := FR.w F411 W1008 (show 77 = 77 ∧ 7 ≤ 9 ∧ 9 ≤ 10 by decide)
                  refine to_an (pc := 289) rw_156_289 rfl (to_an (pc := 290) rw_156_290 rfl ?_)
                  have c_1012 : M1009.2.1 77 9 = v766 := (W_e W1008)
                  refine tt_gI (pc := 291) rw_156_291 (g_o hG1010 rfl) (v := v766) c_1012 (to_c (pc := 294) rw_156_294 (x := (59 : Int32)) rfl rfl (b_ceq (pc := 296) rw_156_296 (A := v766.toInt) (B := 59) rfl rfl (fun h1013 => ?_) (fun h1013 => ?_)))
                  · refine to_c (pc := 326) rw_156_326 (x := (4 : Int32)) rfl rfl (to_go (pc := 327) rw_156_327 (s_pI (pc := 331) rw_156_331 hG1010 rfl (fun M1015 W1014 => ?_)))
                    have hG1016 := g_w hG1010 W1014 (A := 4) rfl (lo := 0) (hi := 5) rfl rfl (by omega) (by decide)
                    have F1017 := FR.w F1011 W1014 (show 77 = 77 ∧ 7 ≤ 8 ∧ 8 ≤ 10 by decide)
                    refine to_an (pc := 334) rw_156_334 rfl (to_dupr (pc := 335) rw_156_335 ?_)
                    have c_1018 : M1015.2.1 77 7 = (N.2.1 77 7) := (W_n W1014 (by decide) (W_n W1008 (by decide) c_413))
                    refine tt_gI (pc := 336) rw_156_336 (g_o hG1016 rfl) (v := (N.2.1 77 7)) c_1018 (to_c (pc := 339) rw_156_339 (x := (1 : Int32)) rfl rfl (s_add (pc := 340) rw_156_340 (A := (N.2.1 77 7).toInt) (B := 1) rfl rfl (by omega) (fun v1019 e1020 => s_pI (pc := 341) rw_156_341 hG1016 rfl (fun M1022 W1021 => ?_))))
                    have hG1023 := g_w hG1016 W1021 (A := v1019.toInt) rfl (lo := 0) (hi := 500) rfl rfl (by omega) (by decide)
                    have F1024 := FR.w F1017 W1021 (show 77 = 77 ∧ 7 ≤ 7 ∧ 7 ≤ 10 by decide)
                    refine to_rv (pc := 344) rw_156_344 ?_
                    have c_1025 : M1022.2.1 77 7 = v1019 := (W_e W1021)
                    have t_1026 : (M1022.2.1 77 7).toInt = v1019.toInt := congrArg Int32.toInt c_1025
                    have c_1027 : M1022.2.1 77 6 = (N.2.1 77 6) := (W_n W1021 (by decide) (W_n W1014 (by decide) (W_n W1008 (by decide) c_415)))
                    have t_1028 : (M1022.2.1 77 6).toInt = (N.2.1 77 6).toInt := congrArg Int32.toInt c_1027
                    have c_1029 : M1022.2.1 77 8 = (4 : Int32) := (W_n W1021 (by decide) (W_e W1014))
                    have k_1030 : (4 : Int32).toInt = 4 := rfl
                    have t_1031 : (M1022.2.1 77 8).toInt = (4 : Int32).toInt := congrArg Int32.toInt c_1029
                    have c_1032 : M1022.2.1 77 9 = v766 := (W_n W1021 (by decide) (W_n W1014 (by decide) c_1012))
                    have t_1033 : (M1022.2.1 77 9).toInt = v766.toInt := congrArg Int32.toInt c_1032
                    have c_1034 : M1022.2.1 77 10 = (N.2.1 77 7) := (W_n W1021 (by decide) (W_n W1014 (by decide) (W_n W1008 (by decide) (W_e W408))))
                    have t_1035 : (M1022.2.1 77 10).toInt = (N.2.1 77 7).toInt := congrArg Int32.toInt c_1034
                    have z_1036 := (x_ts (t := t) (n := nn) (a := (N.2.1 77 7).toInt) (by omega) (by omega) (by omega)).2.2
                    have z_1037 := x_nx_b (t := t) (n := nn) (a := (N.2.1 77 7).toInt) (by omega) (by omega)
                    have z_1038 := x_R_s (t := t) (n := nn) (a := (N.2.1 77 7).toInt) (v := v766.toInt) (by omega) (by omega) (by omega)
                    have z_1039 := z_412
                    exact h M1022 hG1023 F1024 (by omega) (by omega) (by omega) (RS_m (a := (N.2.1 77 7).toInt) (kd := (4 : Int32).toInt) (wh := v766.toInt) (by omega) (by omega) (by omega) (by omega) (by omega) (by omega) (by omega) (by omega) z_1038)
                  · refine to_an (pc := 299) rw_156_299 rfl (tt_gI (pc := 300) rw_156_300 (g_o hG1010 rfl) (v := v766) c_1012 (to_c (pc := 303) rw_156_303 (x := (40 : Int32)) rfl rfl (b_ceq_f (pc := 305) rw_156_305 (A := v766.toInt) (B := 40) rfl rfl (by omega) (to_an (pc := 308) rw_156_308 rfl (tt_gI (pc := 309) rw_156_309 (g_o hG1010 rfl) (v := v766) c_1012 (to_c (pc := 312) rw_156_312 (x := (41 : Int32)) rfl rfl (b_ceq_f (pc := 314) rw_156_314 (A := v766.toInt) (B := 41) rfl rfl (by omega) (to_an (pc := 317) rw_156_317 rfl (tt_gI (pc := 318) rw_156_318 (g_o hG1010 rfl) (v := v766) c_1012 (to_c (pc := 321) rw_156_321 (x := (61 : Int32)) rfl rfl (b_cne (pc := 323) rw_156_323 (A := v766.toInt) (B := 61) rfl rfl (fun h1040 => ?_) (fun h1040 => ?_))))))))))))
                    · refine to_c (pc := 330) rw_156_330 (x := (5 : Int32)) rfl rfl (s_pI (pc := 331) rw_156_331 hG1010 rfl (fun M1042 W1041 => ?_))
                      have hG1043 := g_w hG1010 W1041 (A := 5) rfl (lo := 0) (hi := 5) rfl rfl (by omega) (by decide)
                      have F1044 := FR.w F1011 W1041 (show 77 = 77 ∧ 7 ≤ 8 ∧ 8 ≤ 10 by decide)
                      refine to_an (pc := 334) rw_156_334 rfl (to_dupr (pc := 335) rw_156_335 ?_)
                      have c_1045 : M1042.2.1 77 7 = (N.2.1 77 7) := (W_n W1041 (by decide) (W_n W1008 (by decide) c_413))
                      refine tt_gI (pc := 336) rw_156_336 (g_o hG1043 rfl) (v := (N.2.1 77 7)) c_1045 (to_c (pc := 339) rw_156_339 (x := (1 : Int32)) rfl rfl (s_add (pc := 340) rw_156_340 (A := (N.2.1 77 7).toInt) (B := 1) rfl rfl (by omega) (fun v1046 e1047 => s_pI (pc := 341) rw_156_341 hG1043 rfl (fun M1049 W1048 => ?_))))
                      have hG1050 := g_w hG1043 W1048 (A := v1046.toInt) rfl (lo := 0) (hi := 500) rfl rfl (by omega) (by decide)
                      have F1051 := FR.w F1044 W1048 (show 77 = 77 ∧ 7 ≤ 7 ∧ 7 ≤ 10 by decide)
                      refine to_rv (pc := 344) rw_156_344 ?_
                      have c_1052 : M1049.2.1 77 7 = v1046 := (W_e W1048)
                      have t_1053 : (M1049.2.1 77 7).toInt = v1046.toInt := congrArg Int32.toInt c_1052
                      have c_1054 : M1049.2.1 77 6 = (N.2.1 77 6) := (W_n W1048 (by decide) (W_n W1041 (by decide) (W_n W1008 (by decide) c_415)))
                      have t_1055 : (M1049.2.1 77 6).toInt = (N.2.1 77 6).toInt := congrArg Int32.toInt c_1054
                      have c_1056 : M1049.2.1 77 8 = (5 : Int32) := (W_n W1048 (by decide) (W_e W1041))
                      have k_1057 : (5 : Int32).toInt = 5 := rfl
                      have t_1058 : (M1049.2.1 77 8).toInt = (5 : Int32).toInt := congrArg Int32.toInt c_1056
                      have c_1059 : M1049.2.1 77 9 = v766 := (W_n W1048 (by decide) (W_n W1041 (by decide) c_1012))
                      have t_1060 : (M1049.2.1 77 9).toInt = v766.toInt := congrArg Int32.toInt c_1059
                      have c_1061 : M1049.2.1 77 10 = (N.2.1 77 7) := (W_n W1048 (by decide) (W_n W1041 (by decide) (W_n W1008 (by decide) (W_e W408))))
                      have t_1062 : (M1049.2.1 77 10).toInt = (N.2.1 77 7).toInt := congrArg Int32.toInt c_1061
                      have z_1063 := (x_ts (t := t) (n := nn) (a := (N.2.1 77 7).toInt) (by omega) (by omega) (by omega)).2.2
                      have z_1064 := x_nx_b (t := t) (n := nn) (a := (N.2.1 77 7).toInt) (by omega) (by omega)
                      have z_1065 := x_R_b (t := t) (n := nn) (a := (N.2.1 77 7).toInt) (w := v766.toInt) (by omega) (by omega) (by omega) (by omega)
                      have z_1066 := z_412
                      exact h M1049 hG1050 F1051 (by omega) (by omega) (by omega) (RS_m (a := (N.2.1 77 7).toInt) (kd := (5 : Int32).toInt) (wh := v766.toInt) (by omega) (by omega) (by omega) (by omega) (by omega) (by omega) (by omega) (by omega) z_1065)
                    · refine to_c (pc := 326) rw_156_326 (x := (4 : Int32)) rfl rfl (to_go (pc := 327) rw_156_327 (s_pI (pc := 331) rw_156_331 hG1010 rfl (fun M1068 W1067 => ?_)))
                      have hG1069 := g_w hG1010 W1067 (A := 4) rfl (lo := 0) (hi := 5) rfl rfl (by omega) (by decide)
                      have F1070 := FR.w F1011 W1067 (show 77 = 77 ∧ 7 ≤ 8 ∧ 8 ≤ 10 by decide)
                      refine to_an (pc := 334) rw_156_334 rfl (to_dupr (pc := 335) rw_156_335 ?_)
                      have c_1071 : M1068.2.1 77 7 = (N.2.1 77 7) := (W_n W1067 (by decide) (W_n W1008 (by decide) c_413))
                      refine tt_gI (pc := 336) rw_156_336 (g_o hG1069 rfl) (v := (N.2.1 77 7)) c_1071 (to_c (pc := 339) rw_156_339 (x := (1 : Int32)) rfl rfl (s_add (pc := 340) rw_156_340 (A := (N.2.1 77 7).toInt) (B := 1) rfl rfl (by omega) (fun v1072 e1073 => s_pI (pc := 341) rw_156_341 hG1069 rfl (fun M1075 W1074 => ?_))))
                      have hG1076 := g_w hG1069 W1074 (A := v1072.toInt) rfl (lo := 0) (hi := 500) rfl rfl (by omega) (by decide)
                      have F1077 := FR.w F1070 W1074 (show 77 = 77 ∧ 7 ≤ 7 ∧ 7 ≤ 10 by decide)
                      refine to_rv (pc := 344) rw_156_344 ?_
                      have c_1078 : M1075.2.1 77 7 = v1072 := (W_e W1074)
                      have t_1079 : (M1075.2.1 77 7).toInt = v1072.toInt := congrArg Int32.toInt c_1078
                      have c_1080 : M1075.2.1 77 6 = (N.2.1 77 6) := (W_n W1074 (by decide) (W_n W1067 (by decide) (W_n W1008 (by decide) c_415)))
                      have t_1081 : (M1075.2.1 77 6).toInt = (N.2.1 77 6).toInt := congrArg Int32.toInt c_1080
                      have c_1082 : M1075.2.1 77 8 = (4 : Int32) := (W_n W1074 (by decide) (W_e W1067))
                      have k_1083 : (4 : Int32).toInt = 4 := rfl
                      have t_1084 : (M1075.2.1 77 8).toInt = (4 : Int32).toInt := congrArg Int32.toInt c_1082
                      have c_1085 : M1075.2.1 77 9 = v766 := (W_n W1074 (by decide) (W_n W1067 (by decide) c_1012))
                      have t_1086 : (M1075.2.1 77 9).toInt = v766.toInt := congrArg Int32.toInt c_1085
                      have c_1087 : M1075.2.1 77 10 = (N.2.1 77 7) := (W_n W1074 (by decide) (W_n W1067 (by decide) (W_n W1008 (by decide) (W_e W408))))
                      have t_1088 : (M1075.2.1 77 10).toInt = (N.2.1 77 7).toInt := congrArg Int32.toInt c_1087
                      have z_1089 := (x_ts (t := t) (n := nn) (a := (N.2.1 77 7).toInt) (by omega) (by omega) (by omega)).2.2
                      have z_1090 := x_nx_b (t := t) (n := nn) (a := (N.2.1 77 7).toInt) (by omega) (by omega)
                      have z_1091 := x_R_s (t := t) (n := nn) (a := (N.2.1 77 7).toInt) (v := v766.toInt) (by omega) (by omega) (by omega)
                      have z_1092 := z_412
                      exact h M1075 hG1076 F1077 (by omega) (by omega) (by omega) (RS_m (a := (N.2.1 77 7).toInt) (kd := (4 : Int32).toInt) (wh := v766.toInt) (by omega) (by omega) (by omega) (by omega) (by omega) (by omega) (by omega) (by omega) z_1091)
                · refine to_c (pc := 30) rw_155_30 (x := (1 : Int32)) rfl rfl (to_go (pc := 31) rw_155_31 (s_r1 (pc := 35) rw_155_35 (A := 1) rfl (by decide) (b_ieq_f (pc := 199) rw_156_199 (A := 1) rfl (by decide) (to_an (pc := 202) rw_156_202 rfl (to_c (pc := 203) rw_156_203 (x := (3 : Int32)) rfl rfl (s_pI (pc := 204) rw_156_204 hG410 rfl (fun M1094 W1093 => ?_)))))))
                  have hG1095 := g_w hG410 W1093 (A := 3) rfl (lo := 0) (hi := 5) rfl rfl (by omega) (by decide)
                  have F1096 := FR.w F411 W1093 (show 77 = 77 ∧ 7 ≤ 8 ∧ 8 ≤ 10 by decide)
                  refine to_an (pc := 207) rw_156_207 rfl (to_c (pc := 208) rw_156_208 (x := (0 : Int32)) rfl rfl (s_pI (pc := 209) rw_156_209 hG1095 rfl (fun M1098 W1097 => ?_)))
                  have hG1099 := g_wf hG1095 W1097 rfl rfl (by decide)
                  have F1100 := FR.w F1096 W1097 (show 77 = 77 ∧ 7 ≤ 9 ∧ 9 ≤ 10 by decide)
                  have c_1101 : M1098.2.1 77 7 = (N.2.1 77 7) := (W_n W1097 (by decide) (W_n W1093 (by decide) c_413))
                  have t_1102 : (M1098.2.1 77 7).toInt = (N.2.1 77 7).toInt := congrArg Int32.toInt c_1101
                  have c_1103 : M1098.2.1 77 6 = (N.2.1 77 6) := (W_n W1097 (by decide) (W_n W1093 (by decide) c_415))
                  have t_1104 : (M1098.2.1 77 6).toInt = (N.2.1 77 6).toInt := congrArg Int32.toInt c_1103
                  have c_1105 : M1098.2.1 77 10 = (N.2.1 77 7) := (W_n W1097 (by decide) (W_n W1093 (by decide) (W_e W408)))
                  have t_1106 : (M1098.2.1 77 10).toInt = (N.2.1 77 7).toInt := congrArg Int32.toInt c_1105
                  have c_1107 : M1098.2.1 77 8 = (3 : Int32) := (W_n W1097 (by decide) (W_e W1093))
                  have k_1108 : (3 : Int32).toInt = 3 := rfl
                  have t_1109 : (M1098.2.1 77 8).toInt = (3 : Int32).toInt := congrArg Int32.toInt c_1107
                  have c_1110 : M1098.2.1 77 9 = (0 : Int32) := (W_e W1097)
                  have k_1111 : (0 : Int32).toInt = 0 := rfl
                  have t_1112 : (M1098.2.1 77 9).toInt = (0 : Int32).toInt := congrArg Int32.toInt c_1110
                  have j_1113 := (TR_f (fun a i z => W_n W1097 (tg_13 a i z) rfl) (TR_f (fun a i z => W_n W1093 (tg_16 a i z) rfl) j_769))
                  have j_1114 := (W9_f (fun a i z => W_n W1097 (tg_15 a i z) rfl) (W9_f (fun a i z => W_n W1093 (tg_18 a i z) rfl) (W9_f (fun a i z => W_n W408 (tg_19 a i z) rfl) g8)))
                  exact (U_156_0 (t := t) (nn := nn) hX hd q1 q2 q3 q4 q5 q6 h ((500 - (M1098.2.1 77 7).toInt).toNat + 1)) M1098  hG1099 F1100 (by omega) (by omega) (by omega) (by omega) (by rw [show (M1098.2.1 77 10).toInt = (N.2.1 77 7).toInt by omega]; omega) (by omega) (by omega) (by omega) (by omega) (by rw [show (M1098.2.1 77 9).toInt = 0 by omega, show (M1098.2.1 77 7).toInt = (M1098.2.1 77 10).toInt by omega]; rfl) (congrArg (x_end x_dg t nn) (show (M1098.2.1 77 7).toInt = (M1098.2.1 77 10).toInt by omega)) (by omega) (by omega) (by omega) j_1113 j_1114 (by omega)
          · refine to_an (pc := 19) rw_154_19 rfl (s_gR (pc := 20) rw_154_20 hG410 rfl (v := 78) rfl (to_in (pc := 23) rw_154_23 rfl (s_ialk (pc := 24) rw_154_24 hG410 rfl (n := 500) rfl rfl (A := (N.2.1 77 7).toInt) rfl (by omega) (by omega) (v := v766) w_767 (to_c (pc := 25) rw_154_25 (x := (122 : Int32)) rfl rfl (b_cgt (pc := 27) rw_154_27 (A := v766.toInt) (B := 122) rfl rfl (fun h1117 => ?_) (fun h1117 => ?_))))))
            · refine to_c (pc := 34) rw_154_34 (x := (0 : Int32)) rfl rfl (s_r1 (pc := 35) rw_154_35 (A := 0) rfl (by decide) (b_ieq_t (pc := 87) rw_156_87 (A := 0) rfl (by decide) (to_an (pc := 191) rw_156_191 rfl (to_an (pc := 192) rw_156_192 rfl (tt_gI (pc := 193) rw_156_193 (g_o hG410 rfl) (v := (N.2.1 77 7)) c_413 (s_v (pc := 196) rw_156_196 (dp0 hd (by decide)) (ls0 := [.ref 77, .int (N.2.1 77 7)]) rfl (Nat.le_of_ble_eq_true rfl) (Nat.le_of_ble_eq_true rfl) rfl (to_rc rfl rfl rfl (g_o hG410 rfl)) rfl (to_in (pc := 0) rw_155_0 rfl (to_an (pc := 1) rw_155_1 rfl (tt_gI (pc := 2) rw_155_2 (g_o hG410 rfl) (v := (N.2.1 77 6)) c_415 (b_cge (pc := 5) rw_155_5 (A := (N.2.1 77 7).toInt) (B := (N.2.1 77 6).toInt) rfl rfl (fun h1118 => ?_) (fun h1118 => ?_)))))))))))
              · refine to_c (pc := 34) rw_155_34 (x := (0 : Int32)) rfl rfl (s_r1 (pc := 35) rw_155_35 (A := 0) rfl (by decide) (b_ieq_t (pc := 199) rw_156_199 (A := 0) rfl (by decide) (to_an (pc := 276) rw_156_276 rfl (to_an (pc := 277) rw_156_277 rfl (s_gR (pc := 278) rw_156_278 hG410 rfl (v := 78) rfl (to_an (pc := 281) rw_156_281 rfl (tt_gI (pc := 282) rw_156_282 (g_o hG410 rfl) (v := (N.2.1 77 7)) c_413 (s_ialk (pc := 285) rw_156_285 hG410 rfl (n := 500) rfl rfl (A := (N.2.1 77 7).toInt) rfl (by omega) (by omega) (v := v766) w_767 (s_pI (pc := 286) rw_156_286 hG410 rfl (fun M1122 W1121 => ?_))))))))))
                have hG1123 := g_wf hG410 W1121 rfl rfl (by decide)
                have F1124 := FR.w F411 W1121 (show 77 = 77 ∧ 7 ≤ 9 ∧ 9 ≤ 10 by decide)
                refine to_an (pc := 289) rw_156_289 rfl (to_an (pc := 290) rw_156_290 rfl ?_)
                have c_1125 : M1122.2.1 77 9 = v766 := (W_e W1121)
                refine tt_gI (pc := 291) rw_156_291 (g_o hG1123 rfl) (v := v766) c_1125 (to_c (pc := 294) rw_156_294 (x := (59 : Int32)) rfl rfl (b_ceq_f (pc := 296) rw_156_296 (A := v766.toInt) (B := 59) rfl rfl (by omega) (to_an (pc := 299) rw_156_299 rfl (tt_gI (pc := 300) rw_156_300 (g_o hG1123 rfl) (v := v766) c_1125 (to_c (pc := 303) rw_156_303 (x := (40 : Int32)) rfl rfl (b_ceq_f (pc := 305) rw_156_305 (A := v766.toInt) (B := 40) rfl rfl (by omega) (to_an (pc := 308) rw_156_308 rfl (tt_gI (pc := 309) rw_156_309 (g_o hG1123 rfl) (v := v766) c_1125 (to_c (pc := 312) rw_156_312 (x := (41 : Int32)) rfl rfl (b_ceq_f (pc := 314) rw_156_314 (A := v766.toInt) (B := 41) rfl rfl (by omega) (to_an (pc := 317) rw_156_317 rfl ?_)))))))))))
                refine tt_gI (pc := 318) rw_156_318 (g_o hG1123 rfl) (v := v766) c_1125 (to_c (pc := 321) rw_156_321 (x := (61 : Int32)) rfl rfl (b_cne_t (pc := 323) rw_156_323 (A := v766.toInt) (B := 61) rfl rfl (by omega) (to_c (pc := 330) rw_156_330 (x := (5 : Int32)) rfl rfl (s_pI (pc := 331) rw_156_331 hG1123 rfl (fun M1127 W1126 => ?_)))))
                have hG1128 := g_w hG1123 W1126 (A := 5) rfl (lo := 0) (hi := 5) rfl rfl (by omega) (by decide)
                have F1129 := FR.w F1124 W1126 (show 77 = 77 ∧ 7 ≤ 8 ∧ 8 ≤ 10 by decide)
                refine to_an (pc := 334) rw_156_334 rfl (to_dupr (pc := 335) rw_156_335 ?_)
                have c_1130 : M1127.2.1 77 7 = (N.2.1 77 7) := (W_n W1126 (by decide) (W_n W1121 (by decide) c_413))
                refine tt_gI (pc := 336) rw_156_336 (g_o hG1128 rfl) (v := (N.2.1 77 7)) c_1130 (to_c (pc := 339) rw_156_339 (x := (1 : Int32)) rfl rfl (s_add (pc := 340) rw_156_340 (A := (N.2.1 77 7).toInt) (B := 1) rfl rfl (by omega) (fun v1131 e1132 => s_pI (pc := 341) rw_156_341 hG1128 rfl (fun M1134 W1133 => ?_))))
                have hG1135 := g_w hG1128 W1133 (A := v1131.toInt) rfl (lo := 0) (hi := 500) rfl rfl (by omega) (by decide)
                have F1136 := FR.w F1129 W1133 (show 77 = 77 ∧ 7 ≤ 7 ∧ 7 ≤ 10 by decide)
                refine to_rv (pc := 344) rw_156_344 ?_
                have c_1137 : M1134.2.1 77 7 = v1131 := (W_e W1133)
                have t_1138 : (M1134.2.1 77 7).toInt = v1131.toInt := congrArg Int32.toInt c_1137
                have c_1139 : M1134.2.1 77 6 = (N.2.1 77 6) := (W_n W1133 (by decide) (W_n W1126 (by decide) (W_n W1121 (by decide) c_415)))
                have t_1140 : (M1134.2.1 77 6).toInt = (N.2.1 77 6).toInt := congrArg Int32.toInt c_1139
                have c_1141 : M1134.2.1 77 8 = (5 : Int32) := (W_n W1133 (by decide) (W_e W1126))
                have k_1142 : (5 : Int32).toInt = 5 := rfl
                have t_1143 : (M1134.2.1 77 8).toInt = (5 : Int32).toInt := congrArg Int32.toInt c_1141
                have c_1144 : M1134.2.1 77 9 = v766 := (W_n W1133 (by decide) (W_n W1126 (by decide) c_1125))
                have t_1145 : (M1134.2.1 77 9).toInt = v766.toInt := congrArg Int32.toInt c_1144
                have c_1146 : M1134.2.1 77 10 = (N.2.1 77 7) := (W_n W1133 (by decide) (W_n W1126 (by decide) (W_n W1121 (by decide) (W_e W408))))
                have t_1147 : (M1134.2.1 77 10).toInt = (N.2.1 77 7).toInt := congrArg Int32.toInt c_1146
                have z_1148 := (x_ts (t := t) (n := nn) (a := (N.2.1 77 7).toInt) (by omega) (by omega) (by omega)).2.2
                have z_1149 := x_nx_b (t := t) (n := nn) (a := (N.2.1 77 7).toInt) (by omega) (by omega)
                have z_1150 := x_R_b (t := t) (n := nn) (a := (N.2.1 77 7).toInt) (w := v766.toInt) (by omega) (by omega) (by omega) (by omega)
                have z_1151 := z_412
                exact h M1134 hG1135 F1136 (by omega) (by omega) (by omega) (RS_m (a := (N.2.1 77 7).toInt) (kd := (5 : Int32).toInt) (wh := v766.toInt) (by omega) (by omega) (by omega) (by omega) (by omega) (by omega) (by omega) (by omega) z_1150)
              · refine to_an (pc := 8) rw_155_8 rfl (s_gR (pc := 9) rw_155_9 hG410 rfl (v := 78) rfl (to_in (pc := 12) rw_155_12 rfl (s_ialk (pc := 13) rw_155_13 hG410 rfl (n := 500) rfl rfl (A := (N.2.1 77 7).toInt) rfl (by omega) (by omega) (v := v766) w_767 (to_c (pc := 14) rw_155_14 (x := (48 : Int32)) rfl rfl (b_clt_f (pc := 16) rw_155_16 (A := v766.toInt) (B := 48) rfl rfl (by omega) (to_an (pc := 19) rw_155_19 rfl (s_gR (pc := 20) rw_155_20 hG410 rfl (v := 78) rfl (to_in (pc := 23) rw_155_23 rfl (s_ialk (pc := 24) rw_155_24 hG410 rfl (n := 500) rfl rfl (A := (N.2.1 77 7).toInt) rfl (by omega) (by omega) (v := v766) w_767 (to_c (pc := 25) rw_155_25 (x := (57 : Int32)) rfl rfl (b_cgt_t (pc := 27) rw_155_27 (A := v766.toInt) (B := 57) rfl rfl (by omega) ?_)))))))))))
                refine to_c (pc := 34) rw_155_34 (x := (0 : Int32)) rfl rfl (s_r1 (pc := 35) rw_155_35 (A := 0) rfl (by decide) (b_ieq_t (pc := 199) rw_156_199 (A := 0) rfl (by decide) (to_an (pc := 276) rw_156_276 rfl (to_an (pc := 277) rw_156_277 rfl (s_gR (pc := 278) rw_156_278 hG410 rfl (v := 78) rfl (to_an (pc := 281) rw_156_281 rfl (tt_gI (pc := 282) rw_156_282 (g_o hG410 rfl) (v := (N.2.1 77 7)) c_413 (s_ialk (pc := 285) rw_156_285 hG410 rfl (n := 500) rfl rfl (A := (N.2.1 77 7).toInt) rfl (by omega) (by omega) (v := v766) w_767 (s_pI (pc := 286) rw_156_286 hG410 rfl (fun M1159 W1158 => ?_))))))))))
                have hG1160 := g_wf hG410 W1158 rfl rfl (by decide)
                have F1161 := FR.w F411 W1158 (show 77 = 77 ∧ 7 ≤ 9 ∧ 9 ≤ 10 by decide)
                refine to_an (pc := 289) rw_156_289 rfl (to_an (pc := 290) rw_156_290 rfl ?_)
                have c_1162 : M1159.2.1 77 9 = v766 := (W_e W1158)
                refine tt_gI (pc := 291) rw_156_291 (g_o hG1160 rfl) (v := v766) c_1162 (to_c (pc := 294) rw_156_294 (x := (59 : Int32)) rfl rfl (b_ceq_f (pc := 296) rw_156_296 (A := v766.toInt) (B := 59) rfl rfl (by omega) (to_an (pc := 299) rw_156_299 rfl (tt_gI (pc := 300) rw_156_300 (g_o hG1160 rfl) (v := v766) c_1162 (to_c (pc := 303) rw_156_303 (x := (40 : Int32)) rfl rfl (b_ceq_f (pc := 305) rw_156_305 (A := v766.toInt) (B := 40) rfl rfl (by omega) (to_an (pc := 308) rw_156_308 rfl (tt_gI (pc := 309) rw_156_309 (g_o hG1160 rfl) (v := v766) c_1162 (to_c (pc := 312) rw_156_312 (x := (41 : Int32)) rfl rfl (b_ceq_f (pc := 314) rw_156_314 (A := v766.toInt) (B := 41) rfl rfl (by omega) (to_an (pc := 317) rw_156_317 rfl ?_)))))))))))
                refine tt_gI (pc := 318) rw_156_318 (g_o hG1160 rfl) (v := v766) c_1162 (to_c (pc := 321) rw_156_321 (x := (61 : Int32)) rfl rfl (b_cne_t (pc := 323) rw_156_323 (A := v766.toInt) (B := 61) rfl rfl (by omega) (to_c (pc := 330) rw_156_330 (x := (5 : Int32)) rfl rfl (s_pI (pc := 331) rw_156_331 hG1160 rfl (fun M1164 W1163 => ?_)))))
                have hG1165 := g_w hG1160 W1163 (A := 5) rfl (lo := 0) (hi := 5) rfl rfl (by omega) (by decide)
                have F1166 := FR.w F1161 W1163 (show 77 = 77 ∧ 7 ≤ 8 ∧ 8 ≤ 10 by decide)
                refine to_an (pc := 334) rw_156_334 rfl (to_dupr (pc := 335) rw_156_335 ?_)
                have c_1167 : M1164.2.1 77 7 = (N.2.1 77 7) := (W_n W1163 (by decide) (W_n W1158 (by decide) c_413))
                refine tt_gI (pc := 336) rw_156_336 (g_o hG1165 rfl) (v := (N.2.1 77 7)) c_1167 (to_c (pc := 339) rw_156_339 (x := (1 : Int32)) rfl rfl (s_add (pc := 340) rw_156_340 (A := (N.2.1 77 7).toInt) (B := 1) rfl rfl (by omega) (fun v1168 e1169 => s_pI (pc := 341) rw_156_341 hG1165 rfl (fun M1171 W1170 => ?_))))
                have hG1172 := g_w hG1165 W1170 (A := v1168.toInt) rfl (lo := 0) (hi := 500) rfl rfl (by omega) (by decide)
                have F1173 := FR.w F1166 W1170 (show 77 = 77 ∧ 7 ≤ 7 ∧ 7 ≤ 10 by decide)
                refine to_rv (pc := 344) rw_156_344 ?_
                have c_1174 : M1171.2.1 77 7 = v1168 := (W_e W1170)
                have t_1175 : (M1171.2.1 77 7).toInt = v1168.toInt := congrArg Int32.toInt c_1174
                have c_1176 : M1171.2.1 77 6 = (N.2.1 77 6) := (W_n W1170 (by decide) (W_n W1163 (by decide) (W_n W1158 (by decide) c_415)))
                have t_1177 : (M1171.2.1 77 6).toInt = (N.2.1 77 6).toInt := congrArg Int32.toInt c_1176
                have c_1178 : M1171.2.1 77 8 = (5 : Int32) := (W_n W1170 (by decide) (W_e W1163))
                have k_1179 : (5 : Int32).toInt = 5 := rfl
                have t_1180 : (M1171.2.1 77 8).toInt = (5 : Int32).toInt := congrArg Int32.toInt c_1178
                have c_1181 : M1171.2.1 77 9 = v766 := (W_n W1170 (by decide) (W_n W1163 (by decide) c_1162))
                have t_1182 : (M1171.2.1 77 9).toInt = v766.toInt := congrArg Int32.toInt c_1181
                have c_1183 : M1171.2.1 77 10 = (N.2.1 77 7) := (W_n W1170 (by decide) (W_n W1163 (by decide) (W_n W1158 (by decide) (W_e W408))))
                have t_1184 : (M1171.2.1 77 10).toInt = (N.2.1 77 7).toInt := congrArg Int32.toInt c_1183
                have z_1185 := (x_ts (t := t) (n := nn) (a := (N.2.1 77 7).toInt) (by omega) (by omega) (by omega)).2.2
                have z_1186 := x_nx_b (t := t) (n := nn) (a := (N.2.1 77 7).toInt) (by omega) (by omega)
                have z_1187 := x_R_b (t := t) (n := nn) (a := (N.2.1 77 7).toInt) (w := v766.toInt) (by omega) (by omega) (by omega) (by omega)
                have z_1188 := z_412
                exact h M1171 hG1172 F1173 (by omega) (by omega) (by omega) (RS_m (a := (N.2.1 77 7).toInt) (kd := (5 : Int32).toInt) (wh := v766.toInt) (by omega) (by omega) (by omega) (by omega) (by omega) (by omega) (by omega) (by omega) z_1187)
            · refine to_c (pc := 30) rw_154_30 (x := (1 : Int32)) rfl rfl (to_go (pc := 31) rw_154_31 (s_r1 (pc := 35) rw_154_35 (A := 1) rfl (by decide) (b_ieq_f (pc := 87) rw_156_87 (A := 1) rfl (by decide) ?_)))
              have t_1189 : (M409.2.1 77 6).toInt = (N.2.1 77 6).toInt := congrArg Int32.toInt c_415
              have c_1190 : M409.2.1 77 10 = (N.2.1 77 7) := (W_e W408)
              have t_1191 : (M409.2.1 77 10).toInt = (N.2.1 77 7).toInt := congrArg Int32.toInt c_1190
              have j_1192 := (W9_f (fun a i z => W_n W408 (tg_19 a i z) rfl) g8)
              exact (U_156_1 (t := t) (nn := nn) hX hd q1 q2 q3 q4 q5 q6 h ((500 - (M409.2.1 77 7).toInt).toNat + 1)) M409  hG410 F411 (by omega) (by omega) (by omega) (by omega) (by rw [show (M409.2.1 77 10).toInt = (N.2.1 77 7).toInt by omega]; omega) (by omega) (congrArg (x_e t nn) (show (M409.2.1 77 7).toInt = (M409.2.1 77 10).toInt by omega)) (fun i hi => by exfalso; omega) (by omega) (by omega) (by omega) j_769 j_1192 (by omega)
      · refine to_an (pc := 71) rw_156_71 rfl (to_c (pc := 72) rw_156_72 (x := (0 : Int32)) rfl rfl (s_pI (pc := 73) rw_156_73 hG410 rfl (fun M1194 W1193 => ?_)))
        have hG1195 := g_w hG410 W1193 (A := 0) rfl (lo := 0) (hi := 5) rfl rfl (by omega) (by decide)
        have F1196 := FR.w F411 W1193 (show 77 = 77 ∧ 7 ≤ 8 ∧ 8 ≤ 10 by decide)
        refine to_go (pc := 76) rw_156_76 (to_rv (pc := 344) rw_156_344 ?_)
        have c_1197 : M1194.2.1 77 7 = (N.2.1 77 7) := (W_n W1193 (by decide) c_413)
        have t_1198 : (M1194.2.1 77 7).toInt = (N.2.1 77 7).toInt := congrArg Int32.toInt c_1197
        have c_1199 : M1194.2.1 77 6 = (N.2.1 77 6) := (W_n W1193 (by decide) c_415)
        have t_1200 : (M1194.2.1 77 6).toInt = (N.2.1 77 6).toInt := congrArg Int32.toInt c_1199
        have c_1201 : M1194.2.1 77 8 = (0 : Int32) := (W_e W1193)
        have k_1202 : (0 : Int32).toInt = 0 := rfl
        have t_1203 : (M1194.2.1 77 8).toInt = (0 : Int32).toInt := congrArg Int32.toInt c_1201
        have c_1204 : M1194.2.1 77 9 = (N.2.1 77 9) := (W_n W1193 (by decide) (W_n W408 (by decide) rfl))
        have t_1205 : (M1194.2.1 77 9).toInt = (N.2.1 77 9).toInt := congrArg Int32.toInt c_1204
        have c_1206 : M1194.2.1 77 10 = (N.2.1 77 7) := (W_n W1193 (by decide) (W_e W408))
        have t_1207 : (M1194.2.1 77 10).toInt = (N.2.1 77 7).toInt := congrArg Int32.toInt c_1206
        have z_1208 := (x_t0 (t := t) (n := nn) (a := (N.2.1 77 7).toInt) (by omega)).2
        have z_1209 := x_nx_b (t := t) (n := nn) (a := (N.2.1 77 7).toInt) (by omega) (by omega)
        have z_1210 := x_R_0 (t := t) (n := nn) (a := (N.2.1 77 7).toInt) (w := (N.2.1 77 9).toInt) (by omega)
        have z_1211 := z_412
        exact h M1194 hG1195 F1196 (by omega) (by omega) (by omega) (RS_m (a := (N.2.1 77 7).toInt) (kd := (0 : Int32).toInt) (wh := (N.2.1 77 9).toInt) (by omega) (by omega) (by omega) (by omega) (by omega) (by omega) (by omega) (by omega) z_1210)
    · refine to_an (pc := 11) rw_156_11 rfl (s_gR (pc := 12) rw_156_12 hG rfl (v := 78) rfl (to_an (pc := 15) rw_156_15 rfl (tt_gI (pc := 16) rw_156_16 (g_o hG rfl) (v := (N.2.1 77 7)) rfl (s_ial (pc := 19) rw_156_19 hG rfl (n := 500) rfl rfl (A := (N.2.1 77 7).toInt) rfl (by omega) (by omega) (lo := 0) (hi := 255) rfl rfl (fun v1212 w_1213 _ _ => ?_)))))
      have z_1214 := TR_u g7 (A := (N.2.1 77 7).toInt) (B := (N.2.1 77 7).toInt) (by omega) (by omega) w_1213 rfl
      refine to_c (pc := 20) rw_156_20 (x := (10 : Int32)) rfl rfl (b_ceq (pc := 22) rw_156_22 (A := v1212.toInt) (B := 10) rfl rfl (fun h1215 => ?_) (fun h1215 => ?_))
      · refine to_an (pc := 39) rw_156_39 rfl (to_dupr (pc := 40) rw_156_40 (tt_gI (pc := 41) rw_156_41 (g_o hG rfl) (v := (N.2.1 77 7)) rfl (to_c (pc := 44) rw_156_44 (x := (1 : Int32)) rfl rfl (s_add (pc := 45) rw_156_45 (A := (N.2.1 77 7).toInt) (B := 1) rfl rfl (by omega) (fun v1216 e1217 => s_pI (pc := 46) rw_156_46 hG rfl (fun M1219 W1218 => ?_))))))
        have hG1220 := g_w hG W1218 (A := v1216.toInt) rfl (lo := 0) (hi := 500) rfl rfl (by omega) (by decide)
        have F1221 := FR.w F0 W1218 (show 77 = 77 ∧ 7 ≤ 7 ∧ 7 ≤ 10 by decide)
        refine to_go (pc := 49) rw_156_49 ?_
        have c_1222 : M1219.2.1 77 7 = v1216 := (W_e W1218)
        have t_1223 : (M1219.2.1 77 7).toInt = v1216.toInt := congrArg Int32.toInt c_1222
        have c_1224 : M1219.2.1 77 6 = (N.2.1 77 6) := (W_n W1218 (by decide) rfl)
        have t_1225 : (M1219.2.1 77 6).toInt = (N.2.1 77 6).toInt := congrArg Int32.toInt c_1224
        have j_1226 := (TR_f (fun a i z => W_n W1218 (tg_12 a i z) rfl) g7)
        have j_1227 := (W9_f (fun a i z => W_n W1218 (tg_14 a i z) rfl) g8)
        exact ih M1219  hG1220 F1221 (by omega) (by omega) (x_sk_e (x := (N.2.1 77 7).toInt) (by omega) (by omega) (by omega) (by omega) g3) (by omega) (by omega) (by omega) j_1226 j_1227 (by omega)
      · refine to_an (pc := 25) rw_156_25 rfl (s_gR (pc := 26) rw_156_26 hG rfl (v := 78) rfl (to_an (pc := 29) rw_156_29 rfl (tt_gI (pc := 30) rw_156_30 (g_o hG rfl) (v := (N.2.1 77 7)) rfl (s_ialk (pc := 33) rw_156_33 hG rfl (n := 500) rfl rfl (A := (N.2.1 77 7).toInt) rfl (by omega) (by omega) (v := v1212) w_1213 (to_c (pc := 34) rw_156_34 (x := (32 : Int32)) rfl rfl (b_cne (pc := 36) rw_156_36 (A := v1212.toInt) (B := 32) rfl rfl (fun h1230 => ?_) (fun h1230 => ?_)))))))
        · refine to_an (pc := 52) rw_156_52 rfl (to_an (pc := 53) rw_156_53 rfl (tt_gI (pc := 54) rw_156_54 (g_o hG rfl) (v := (N.2.1 77 7)) rfl (s_pI (pc := 57) rw_156_57 hG rfl (fun M1232 W1231 => ?_))))
          have hG1233 := g_w hG W1231 (A := (N.2.1 77 7).toInt) rfl (lo := 0) (hi := 500) rfl rfl (by omega) (by decide)
          have F1234 := FR.w F0 W1231 (show 77 = 77 ∧ 7 ≤ 10 ∧ 10 ≤ 10 by decide)
          have c_1236 : M1232.2.1 77 7 = (N.2.1 77 7) := (W_n W1231 (by decide) rfl)
          have t_1237 : (M1232.2.1 77 7).toInt = (N.2.1 77 7).toInt := congrArg Int32.toInt c_1236
          have z_1235 := x_sk_x (t := t) (nn := nn) (x := (N.2.1 77 7).toInt) (by omega) (by omega) g3
          refine to_an (pc := 60) rw_156_60 rfl (tt_gI (pc := 61) rw_156_61 (g_o hG1233 rfl) (v := (N.2.1 77 7)) c_1236 (to_an (pc := 64) rw_156_64 rfl ?_))
          have c_1238 : M1232.2.1 77 6 = (N.2.1 77 6) := (W_n W1231 (by decide) rfl)
          refine tt_gI (pc := 65) rw_156_65 (g_o hG1233 rfl) (v := (N.2.1 77 6)) c_1238 (b_cne (pc := 68) rw_156_68 (A := (N.2.1 77 7).toInt) (B := (N.2.1 77 6).toInt) rfl rfl (fun h1239 => ?_) (fun h1239 => ?_))
          · refine to_an (pc := 79) rw_156_79 rfl (to_an (pc := 80) rw_156_80 rfl (tt_gI (pc := 81) rw_156_81 (g_o hG1233 rfl) (v := (N.2.1 77 7)) c_1236 (s_v (pc := 84) rw_156_84 (dp0 hd (by decide)) (ls0 := [.ref 77, .int (N.2.1 77 7)]) rfl (Nat.le_of_ble_eq_true rfl) (Nat.le_of_ble_eq_true rfl) rfl (to_rc rfl rfl rfl (g_o hG1233 rfl)) rfl (to_in (pc := 0) rw_154_0 rfl (to_an (pc := 1) rw_154_1 rfl (tt_gI (pc := 2) rw_154_2 (g_o hG1233 rfl) (v := (N.2.1 77 6)) c_1238 (b_cge (pc := 5) rw_154_5 (A := (N.2.1 77 7).toInt) (B := (N.2.1 77 6).toInt) rfl rfl (fun h1240 => ?_) (fun h1240 => ?_))))))))
            · refine to_c (pc := 34) rw_154_34 (x := (0 : Int32)) rfl rfl (s_r1 (pc := 35) rw_154_35 (A := 0) rfl (by decide) (b_ieq_t (pc := 87) rw_156_87 (A := 0) rfl (by decide) (to_an (pc := 191) rw_156_191 rfl (to_an (pc := 192) rw_156_192 rfl (tt_gI (pc := 193) rw_156_193 (g_o hG1233 rfl) (v := (N.2.1 77 7)) c_1236 (s_v (pc := 196) rw_156_196 (dp0 hd (by decide)) (ls0 := [.ref 77, .int (N.2.1 77 7)]) rfl (Nat.le_of_ble_eq_true rfl) (Nat.le_of_ble_eq_true rfl) rfl (to_rc rfl rfl rfl (g_o hG1233 rfl)) rfl (to_in (pc := 0) rw_155_0 rfl (to_an (pc := 1) rw_155_1 rfl (tt_gI (pc := 2) rw_155_2 (g_o hG1233 rfl) (v := (N.2.1 77 6)) c_1238 (b_cge (pc := 5) rw_155_5 (A := (N.2.1 77 7).toInt) (B := (N.2.1 77 6).toInt) rfl rfl (fun h1241 => ?_) (fun h1241 => ?_)))))))))))
              · refine to_c (pc := 34) rw_155_34 (x := (0 : Int32)) rfl rfl (s_r1 (pc := 35) rw_155_35 (A := 0) rfl (by decide) (b_ieq_t (pc := 199) rw_156_199 (A := 0) rfl (by decide) (to_an (pc := 276) rw_156_276 rfl (to_an (pc := 277) rw_156_277 rfl (s_gR (pc := 278) rw_156_278 hG1233 rfl (v := 78) rfl (to_an (pc := 281) rw_156_281 rfl (tt_gI (pc := 282) rw_156_282 (g_o hG1233 rfl) (v := (N.2.1 77 7)) c_1236 (s_ialk (pc := 285) rw_156_285 hG1233 rfl (n := 500) rfl rfl (A := (N.2.1 77 7).toInt) rfl (by omega) (by omega) (v := v1212) (W_n W1231 (by omega) w_1213) (s_pI (pc := 286) rw_156_286 hG1233 rfl (fun M1245 W1244 => ?_))))))))))
                have hG1246 := g_wf hG1233 W1244 rfl rfl (by decide)
                have F1247 := FR.w F1234 W1244 (show 77 = 77 ∧ 7 ≤ 9 ∧ 9 ≤ 10 by decide)
                refine to_an (pc := 289) rw_156_289 rfl (to_an (pc := 290) rw_156_290 rfl ?_)
                have c_1248 : M1245.2.1 77 9 = v1212 := (W_e W1244)
                refine tt_gI (pc := 291) rw_156_291 (g_o hG1246 rfl) (v := v1212) c_1248 (to_c (pc := 294) rw_156_294 (x := (59 : Int32)) rfl rfl (b_ceq (pc := 296) rw_156_296 (A := v1212.toInt) (B := 59) rfl rfl (fun h1249 => ?_) (fun h1249 => ?_)))
                · refine to_c (pc := 326) rw_156_326 (x := (4 : Int32)) rfl rfl (to_go (pc := 327) rw_156_327 (s_pI (pc := 331) rw_156_331 hG1246 rfl (fun M1251 W1250 => ?_)))
                  have hG1252 := g_w hG1246 W1250 (A := 4) rfl (lo := 0) (hi := 5) rfl rfl (by omega) (by decide)
                  have F1253 := FR.w F1247 W1250 (show 77 = 77 ∧ 7 ≤ 8 ∧ 8 ≤ 10 by decide)
                  refine to_an (pc := 334) rw_156_334 rfl (to_dupr (pc := 335) rw_156_335 ?_)
                  have c_1254 : M1251.2.1 77 7 = (N.2.1 77 7) := (W_n W1250 (by decide) (W_n W1244 (by decide) c_1236))
                  refine tt_gI (pc := 336) rw_156_336 (g_o hG1252 rfl) (v := (N.2.1 77 7)) c_1254 (to_c (pc := 339) rw_156_339 (x := (1 : Int32)) rfl rfl (s_add (pc := 340) rw_156_340 (A := (N.2.1 77 7).toInt) (B := 1) rfl rfl (by omega) (fun v1255 e1256 => s_pI (pc := 341) rw_156_341 hG1252 rfl (fun M1258 W1257 => ?_))))
                  have hG1259 := g_w hG1252 W1257 (A := v1255.toInt) rfl (lo := 0) (hi := 500) rfl rfl (by omega) (by decide)
                  have F1260 := FR.w F1253 W1257 (show 77 = 77 ∧ 7 ≤ 7 ∧ 7 ≤ 10 by decide)
                  refine to_rv (pc := 344) rw_156_344 ?_
                  have c_1261 : M1258.2.1 77 7 = v1255 := (W_e W1257)
                  have t_1262 : (M1258.2.1 77 7).toInt = v1255.toInt := congrArg Int32.toInt c_1261
                  have c_1263 : M1258.2.1 77 6 = (N.2.1 77 6) := (W_n W1257 (by decide) (W_n W1250 (by decide) (W_n W1244 (by decide) c_1238)))
                  have t_1264 : (M1258.2.1 77 6).toInt = (N.2.1 77 6).toInt := congrArg Int32.toInt c_1263
                  have c_1265 : M1258.2.1 77 8 = (4 : Int32) := (W_n W1257 (by decide) (W_e W1250))
                  have k_1266 : (4 : Int32).toInt = 4 := rfl
                  have t_1267 : (M1258.2.1 77 8).toInt = (4 : Int32).toInt := congrArg Int32.toInt c_1265
                  have c_1268 : M1258.2.1 77 9 = v1212 := (W_n W1257 (by decide) (W_n W1250 (by decide) c_1248))
                  have t_1269 : (M1258.2.1 77 9).toInt = v1212.toInt := congrArg Int32.toInt c_1268
                  have c_1270 : M1258.2.1 77 10 = (N.2.1 77 7) := (W_n W1257 (by decide) (W_n W1250 (by decide) (W_n W1244 (by decide) (W_e W1231))))
                  have t_1271 : (M1258.2.1 77 10).toInt = (N.2.1 77 7).toInt := congrArg Int32.toInt c_1270
                  have z_1272 := (x_ts (t := t) (n := nn) (a := (N.2.1 77 7).toInt) (by omega) (by omega) (by omega)).2.2
                  have z_1273 := x_nx_b (t := t) (n := nn) (a := (N.2.1 77 7).toInt) (by omega) (by omega)
                  have z_1274 := x_R_s (t := t) (n := nn) (a := (N.2.1 77 7).toInt) (v := v1212.toInt) (by omega) (by omega) (by omega)
                  have z_1275 := z_1235
                  exact h M1258 hG1259 F1260 (by omega) (by omega) (by omega) (RS_m (a := (N.2.1 77 7).toInt) (kd := (4 : Int32).toInt) (wh := v1212.toInt) (by omega) (by omega) (by omega) (by omega) (by omega) (by omega) (by omega) (by omega) z_1274)
                · refine to_an (pc := 299) rw_156_299 rfl (tt_gI (pc := 300) rw_156_300 (g_o hG1246 rfl) (v := v1212) c_1248 (to_c (pc := 303) rw_156_303 (x := (40 : Int32)) rfl rfl (b_ceq (pc := 305) rw_156_305 (A := v1212.toInt) (B := 40) rfl rfl (fun h1276 => ?_) (fun h1276 => ?_))))
                  · refine to_c (pc := 326) rw_156_326 (x := (4 : Int32)) rfl rfl (to_go (pc := 327) rw_156_327 (s_pI (pc := 331) rw_156_331 hG1246 rfl (fun M1278 W1277 => ?_)))
                    have hG1279 := g_w hG1246 W1277 (A := 4) rfl (lo := 0) (hi := 5) rfl rfl (by omega) (by decide)
                    have F1280 := FR.w F1247 W1277 (show 77 = 77 ∧ 7 ≤ 8 ∧ 8 ≤ 10 by decide)
                    refine to_an (pc := 334) rw_156_334 rfl (to_dupr (pc := 335) rw_156_335 ?_)
                    have c_1281 : M1278.2.1 77 7 = (N.2.1 77 7) := (W_n W1277 (by decide) (W_n W1244 (by decide) c_1236))
                    refine tt_gI (pc := 336) rw_156_336 (g_o hG1279 rfl) (v := (N.2.1 77 7)) c_1281 (to_c (pc := 339) rw_156_339 (x := (1 : Int32)) rfl rfl (s_add (pc := 340) rw_156_340 (A := (N.2.1 77 7).toInt) (B := 1) rfl rfl (by omega) (fun v1282 e1283 => s_pI (pc := 341) rw_156_341 hG1279 rfl (fun M1285 W1284 => ?_))))
                    have hG1286 := g_w hG1279 W1284 (A := v1282.toInt) rfl (lo := 0) (hi := 500) rfl rfl (by omega) (by decide)
                    have F1287 := FR.w F1280 W1284 (show 77 = 77 ∧ 7 ≤ 7 ∧ 7 ≤ 10 by decide)
                    refine to_rv (pc := 344) rw_156_344 ?_
                    have c_1288 : M1285.2.1 77 7 = v1282 := (W_e W1284)
                    have t_1289 : (M1285.2.1 77 7).toInt = v1282.toInt := congrArg Int32.toInt c_1288
                    have c_1290 : M1285.2.1 77 6 = (N.2.1 77 6) := (W_n W1284 (by decide) (W_n W1277 (by decide) (W_n W1244 (by decide) c_1238)))
                    have t_1291 : (M1285.2.1 77 6).toInt = (N.2.1 77 6).toInt := congrArg Int32.toInt c_1290
                    have c_1292 : M1285.2.1 77 8 = (4 : Int32) := (W_n W1284 (by decide) (W_e W1277))
                    have k_1293 : (4 : Int32).toInt = 4 := rfl
                    have t_1294 : (M1285.2.1 77 8).toInt = (4 : Int32).toInt := congrArg Int32.toInt c_1292
                    have c_1295 : M1285.2.1 77 9 = v1212 := (W_n W1284 (by decide) (W_n W1277 (by decide) c_1248))
                    have t_1296 : (M1285.2.1 77 9).toInt = v1212.toInt := congrArg Int32.toInt c_1295
                    have c_1297 : M1285.2.1 77 10 = (N.2.1 77 7) := (W_n W1284 (by decide) (W_n W1277 (by decide) (W_n W1244 (by decide) (W_e W1231))))
                    have t_1298 : (M1285.2.1 77 10).toInt = (N.2.1 77 7).toInt := congrArg Int32.toInt c_1297
                    have z_1299 := (x_ts (t := t) (n := nn) (a := (N.2.1 77 7).toInt) (by omega) (by omega) (by omega)).2.2
                    have z_1300 := x_nx_b (t := t) (n := nn) (a := (N.2.1 77 7).toInt) (by omega) (by omega)
                    have z_1301 := x_R_s (t := t) (n := nn) (a := (N.2.1 77 7).toInt) (v := v1212.toInt) (by omega) (by omega) (by omega)
                    have z_1302 := z_1235
                    exact h M1285 hG1286 F1287 (by omega) (by omega) (by omega) (RS_m (a := (N.2.1 77 7).toInt) (kd := (4 : Int32).toInt) (wh := v1212.toInt) (by omega) (by omega) (by omega) (by omega) (by omega) (by omega) (by omega) (by omega) z_1301)
                  · refine to_an (pc := 308) rw_156_308 rfl (tt_gI (pc := 309) rw_156_309 (g_o hG1246 rfl) (v := v1212) c_1248 (to_c (pc := 312) rw_156_312 (x := (41 : Int32)) rfl rfl (b_ceq (pc := 314) rw_156_314 (A := v1212.toInt) (B := 41) rfl rfl (fun h1303 => ?_) (fun h1303 => ?_))))
                    · refine to_c (pc := 326) rw_156_326 (x := (4 : Int32)) rfl rfl (to_go (pc := 327) rw_156_327 (s_pI (pc := 331) rw_156_331 hG1246 rfl (fun M1305 W1304 => ?_)))
                      have hG1306 := g_w hG1246 W1304 (A := 4) rfl (lo := 0) (hi := 5) rfl rfl (by omega) (by decide)
                      have F1307 := FR.w F1247 W1304 (show 77 = 77 ∧ 7 ≤ 8 ∧ 8 ≤ 10 by decide)
                      refine to_an (pc := 334) rw_156_334 rfl (to_dupr (pc := 335) rw_156_335 ?_)
                      have c_1308 : M1305.2.1 77 7 = (N.2.1 77 7) := (W_n W1304 (by decide) (W_n W1244 (by decide) c_1236))
                      refine tt_gI (pc := 336) rw_156_336 (g_o hG1306 rfl) (v := (N.2.1 77 7)) c_1308 (to_c (pc := 339) rw_156_339 (x := (1 : Int32)) rfl rfl (s_add (pc := 340) rw_156_340 (A := (N.2.1 77 7).toInt) (B := 1) rfl rfl (by omega) (fun v1309 e1310 => s_pI (pc := 341) rw_156_341 hG1306 rfl (fun M1312 W1311 => ?_))))
                      have hG1313 := g_w hG1306 W1311 (A := v1309.toInt) rfl (lo := 0) (hi := 500) rfl rfl (by omega) (by decide)
                      have F1314 := FR.w F1307 W1311 (show 77 = 77 ∧ 7 ≤ 7 ∧ 7 ≤ 10 by decide)
                      refine to_rv (pc := 344) rw_156_344 ?_
                      have c_1315 : M1312.2.1 77 7 = v1309 := (W_e W1311)
                      have t_1316 : (M1312.2.1 77 7).toInt = v1309.toInt := congrArg Int32.toInt c_1315
                      have c_1317 : M1312.2.1 77 6 = (N.2.1 77 6) := (W_n W1311 (by decide) (W_n W1304 (by decide) (W_n W1244 (by decide) c_1238)))
                      have t_1318 : (M1312.2.1 77 6).toInt = (N.2.1 77 6).toInt := congrArg Int32.toInt c_1317
                      have c_1319 : M1312.2.1 77 8 = (4 : Int32) := (W_n W1311 (by decide) (W_e W1304))
                      have k_1320 : (4 : Int32).toInt = 4 := rfl
                      have t_1321 : (M1312.2.1 77 8).toInt = (4 : Int32).toInt := congrArg Int32.toInt c_1319
                      have c_1322 : M1312.2.1 77 9 = v1212 := (W_n W1311 (by decide) (W_n W1304 (by decide) c_1248))
                      have t_1323 : (M1312.2.1 77 9).toInt = v1212.toInt := congrArg Int32.toInt c_1322
                      have c_1324 : M1312.2.1 77 10 = (N.2.1 77 7) := (W_n W1311 (by decide) (W_n W1304 (by decide) (W_n W1244 (by decide) (W_e W1231))))
                      have t_1325 : (M1312.2.1 77 10).toInt = (N.2.1 77 7).toInt := congrArg Int32.toInt c_1324
                      have z_1326 := (x_ts (t := t) (n := nn) (a := (N.2.1 77 7).toInt) (by omega) (by omega) (by omega)).2.2
                      have z_1327 := x_nx_b (t := t) (n := nn) (a := (N.2.1 77 7).toInt) (by omega) (by omega)
                      have z_1328 := x_R_s (t := t) (n := nn) (a := (N.2.1 77 7).toInt) (v := v1212.toInt) (by omega) (by omega) (by omega)
                      have z_1329 := z_1235
                      exact h M1312 hG1313 F1314 (by omega) (by omega) (by omega) (RS_m (a := (N.2.1 77 7).toInt) (kd := (4 : Int32).toInt) (wh := v1212.toInt) (by omega) (by omega) (by omega) (by omega) (by omega) (by omega) (by omega) (by omega) z_1328)
                    · refine to_an (pc := 317) rw_156_317 rfl (tt_gI (pc := 318) rw_156_318 (g_o hG1246 rfl) (v := v1212) c_1248 (to_c (pc := 321) rw_156_321 (x := (61 : Int32)) rfl rfl (b_cne (pc := 323) rw_156_323 (A := v1212.toInt) (B := 61) rfl rfl (fun h1330 => ?_) (fun h1330 => ?_))))
                      · refine to_c (pc := 330) rw_156_330 (x := (5 : Int32)) rfl rfl (s_pI (pc := 331) rw_156_331 hG1246 rfl (fun M1332 W1331 => ?_))
                        have hG1333 := g_w hG1246 W1331 (A := 5) rfl (lo := 0) (hi := 5) rfl rfl (by omega) (by decide)
                        have F1334 := FR.w F1247 W1331 (show 77 = 77 ∧ 7 ≤ 8 ∧ 8 ≤ 10 by decide)
                        refine to_an (pc := 334) rw_156_334 rfl (to_dupr (pc := 335) rw_156_335 ?_)
                        have c_1335 : M1332.2.1 77 7 = (N.2.1 77 7) := (W_n W1331 (by decide) (W_n W1244 (by decide) c_1236))
                        refine tt_gI (pc := 336) rw_156_336 (g_o hG1333 rfl) (v := (N.2.1 77 7)) c_1335 (to_c (pc := 339) rw_156_339 (x := (1 : Int32)) rfl rfl (s_add (pc := 340) rw_156_340 (A := (N.2.1 77 7).toInt) (B := 1) rfl rfl (by omega) (fun v1336 e1337 => s_pI (pc := 341) rw_156_341 hG1333 rfl (fun M1339 W1338 => ?_))))
                        have hG1340 := g_w hG1333 W1338 (A := v1336.toInt) rfl (lo := 0) (hi := 500) rfl rfl (by omega) (by decide)
                        have F1341 := FR.w F1334 W1338 (show 77 = 77 ∧ 7 ≤ 7 ∧ 7 ≤ 10 by decide)
                        refine to_rv (pc := 344) rw_156_344 ?_
                        have c_1342 : M1339.2.1 77 7 = v1336 := (W_e W1338)
                        have t_1343 : (M1339.2.1 77 7).toInt = v1336.toInt := congrArg Int32.toInt c_1342
                        have c_1344 : M1339.2.1 77 6 = (N.2.1 77 6) := (W_n W1338 (by decide) (W_n W1331 (by decide) (W_n W1244 (by decide) c_1238)))
                        have t_1345 : (M1339.2.1 77 6).toInt = (N.2.1 77 6).toInt := congrArg Int32.toInt c_1344
                        have c_1346 : M1339.2.1 77 8 = (5 : Int32) := (W_n W1338 (by decide) (W_e W1331))
                        have k_1347 : (5 : Int32).toInt = 5 := rfl
                        have t_1348 : (M1339.2.1 77 8).toInt = (5 : Int32).toInt := congrArg Int32.toInt c_1346
                        have c_1349 : M1339.2.1 77 9 = v1212 := (W_n W1338 (by decide) (W_n W1331 (by decide) c_1248))
                        have t_1350 : (M1339.2.1 77 9).toInt = v1212.toInt := congrArg Int32.toInt c_1349
                        have c_1351 : M1339.2.1 77 10 = (N.2.1 77 7) := (W_n W1338 (by decide) (W_n W1331 (by decide) (W_n W1244 (by decide) (W_e W1231))))
                        have t_1352 : (M1339.2.1 77 10).toInt = (N.2.1 77 7).toInt := congrArg Int32.toInt c_1351
                        have z_1353 := (x_ts (t := t) (n := nn) (a := (N.2.1 77 7).toInt) (by omega) (by omega) (by omega)).2.2
                        have z_1354 := x_nx_b (t := t) (n := nn) (a := (N.2.1 77 7).toInt) (by omega) (by omega)
                        have z_1355 := x_R_b (t := t) (n := nn) (a := (N.2.1 77 7).toInt) (w := v1212.toInt) (by omega) (by omega) (by omega) (by omega)
                        have z_1356 := z_1235
                        exact h M1339 hG1340 F1341 (by omega) (by omega) (by omega) (RS_m (a := (N.2.1 77 7).toInt) (kd := (5 : Int32).toInt) (wh := v1212.toInt) (by omega) (by omega) (by omega) (by omega) (by omega) (by omega) (by omega) (by omega) z_1355)
                      · refine to_c (pc := 326) rw_156_326 (x := (4 : Int32)) rfl rfl (to_go (pc := 327) rw_156_327 (s_pI (pc := 331) rw_156_331 hG1246 rfl (fun M1358 W1357 => ?_)))
                        have hG1359 := g_w hG1246 W1357 (A := 4) rfl (lo := 0) (hi := 5) rfl rfl (by omega) (by decide)
                        have F1360 := FR.w F1247 W1357 (show 77 = 77 ∧ 7 ≤ 8 ∧ 8 ≤ 10 by decide)
                        refine to_an (pc := 334) rw_156_334 rfl (to_dupr (pc := 335) rw_156_335 ?_)
                        have c_1361 : M1358.2.1 77 7 = (N.2.1 77 7) := (W_n W1357 (by decide) (W_n W1244 (by decide) c_1236))
                        refine tt_gI (pc := 336) rw_156_336 (g_o hG1359 rfl) (v := (N.2.1 77 7)) c_1361 (to_c (pc := 339) rw_156_339 (x := (1 : Int32)) rfl rfl (s_add (pc := 340) rw_156_340 (A := (N.2.1 77 7).toInt) (B := 1) rfl rfl (by omega) (fun v1362 e1363 => s_pI (pc := 341) rw_156_341 hG1359 rfl (fun M1365 W1364 => ?_))))
                        have hG1366 := g_w hG1359 W1364 (A := v1362.toInt) rfl (lo := 0) (hi := 500) rfl rfl (by omega) (by decide)
                        have F1367 := FR.w F1360 W1364 (show 77 = 77 ∧ 7 ≤ 7 ∧ 7 ≤ 10 by decide)
                        refine to_rv (pc := 344) rw_156_344 ?_
                        have c_1368 : M1365.2.1 77 7 = v1362 := (W_e W1364)
                        have t_1369 : (M1365.2.1 77 7).toInt = v1362.toInt := congrArg Int32.toInt c_1368
                        have c_1370 : M1365.2.1 77 6 = (N.2.1 77 6) := (W_n W1364 (by decide) (W_n W1357 (by decide) (W_n W1244 (by decide) c_1238)))
                        have t_1371 : (M1365.2.1 77 6).toInt = (N.2.1 77 6).toInt := congrArg Int32.toInt c_1370
                        have c_1372 : M1365.2.1 77 8 = (4 : Int32) := (W_n W1364 (by decide) (W_e W1357))
                        have k_1373 : (4 : Int32).toInt = 4 := rfl
                        have t_1374 : (M1365.2.1 77 8).toInt = (4 : Int32).toInt := congrArg Int32.toInt c_1372
                        have c_1375 : M1365.2.1 77 9 = v1212 := (W_n W1364 (by decide) (W_n W1357 (by decide) c_1248))
                        have t_1376 : (M1365.2.1 77 9).toInt = v1212.toInt := congrArg Int32.toInt c_1375
                        have c_1377 : M1365.2.1 77 10 = (N.2.1 77 7) := (W_n W1364 (by decide) (W_n W1357 (by decide) (W_n W1244 (by decide) (W_e W1231))))
                        have t_1378 : (M1365.2.1 77 10).toInt = (N.2.1 77 7).toInt := congrArg Int32.toInt c_1377
                        have z_1379 := (x_ts (t := t) (n := nn) (a := (N.2.1 77 7).toInt) (by omega) (by omega) (by omega)).2.2
                        have z_1380 := x_nx_b (t := t) (n := nn) (a := (N.2.1 77 7).toInt) (by omega) (by omega)
                        have z_1381 := x_R_s (t := t) (n := nn) (a := (N.2.1 77 7).toInt) (v := v1212.toInt) (by omega) (by omega) (by omega)
                        have z_1382 := z_1235
                        exact h M1365 hG1366 F1367 (by omega) (by omega) (by omega) (RS_m (a := (N.2.1 77 7).toInt) (kd := (4 : Int32).toInt) (wh := v1212.toInt) (by omega) (by omega) (by omega) (by omega) (by omega) (by omega) (by omega) (by omega) z_1381)
              · refine to_an (pc := 8) rw_155_8 rfl (s_gR (pc := 9) rw_155_9 hG1233 rfl (v := 78) rfl (to_in (pc := 12) rw_155_12 rfl (s_ialk (pc := 13) rw_155_13 hG1233 rfl (n := 500) rfl rfl (A := (N.2.1 77 7).toInt) rfl (by omega) (by omega) (v := v1212) (W_n W1231 (by omega) w_1213) (to_c (pc := 14) rw_155_14 (x := (48 : Int32)) rfl rfl (b_clt (pc := 16) rw_155_16 (A := v1212.toInt) (B := 48) rfl rfl (fun h1385 => ?_) (fun h1385 => ?_))))))
                · refine to_c (pc := 34) rw_155_34 (x := (0 : Int32)) rfl rfl (s_r1 (pc := 35) rw_155_35 (A := 0) rfl (by decide) (b_ieq_t (pc := 199) rw_156_199 (A := 0) rfl (by decide) (to_an (pc := 276) rw_156_276 rfl (to_an (pc := 277) rw_156_277 rfl (s_gR (pc := 278) rw_156_278 hG1233 rfl (v := 78) rfl (to_an (pc := 281) rw_156_281 rfl (tt_gI (pc := 282) rw_156_282 (g_o hG1233 rfl) (v := (N.2.1 77 7)) c_1236 (s_ialk (pc := 285) rw_156_285 hG1233 rfl (n := 500) rfl rfl (A := (N.2.1 77 7).toInt) rfl (by omega) (by omega) (v := v1212) (W_n W1231 (by omega) w_1213) (s_pI (pc := 286) rw_156_286 hG1233 rfl (fun M1389 W1388 => ?_))))))))))
                  have hG1390 := g_wf hG1233 W1388 rfl rfl (by decide)
                  have F1391 := FR.w F1234 W1388 (show 77 = 77 ∧ 7 ≤ 9 ∧ 9 ≤ 10 by decide)
                  refine to_an (pc := 289) rw_156_289 rfl (to_an (pc := 290) rw_156_290 rfl ?_)
                  have c_1392 : M1389.2.1 77 9 = v1212 := (W_e W1388)
                  refine tt_gI (pc := 291) rw_156_291 (g_o hG1390 rfl) (v := v1212) c_1392 (to_c (pc := 294) rw_156_294 (x := (59 : Int32)) rfl rfl (b_ceq_f (pc := 296) rw_156_296 (A := v1212.toInt) (B := 59) rfl rfl (by omega) (to_an (pc := 299) rw_156_299 rfl (tt_gI (pc := 300) rw_156_300 (g_o hG1390 rfl) (v := v1212) c_1392 (to_c (pc := 303) rw_156_303 (x := (40 : Int32)) rfl rfl (b_ceq (pc := 305) rw_156_305 (A := v1212.toInt) (B := 40) rfl rfl (fun h1393 => ?_) (fun h1393 => ?_)))))))
                  · refine to_c (pc := 326) rw_156_326 (x := (4 : Int32)) rfl rfl (to_go (pc := 327) rw_156_327 (s_pI (pc := 331) rw_156_331 hG1390 rfl (fun M1395 W1394 => ?_)))
                    have hG1396 := g_w hG1390 W1394 (A := 4) rfl (lo := 0) (hi := 5) rfl rfl (by omega) (by decide)
                    have F1397 := FR.w F1391 W1394 (show 77 = 77 ∧ 7 ≤ 8 ∧ 8 ≤ 10 by decide)
                    refine to_an (pc := 334) rw_156_334 rfl (to_dupr (pc := 335) rw_156_335 ?_)
                    have c_1398 : M1395.2.1 77 7 = (N.2.1 77 7) := (W_n W1394 (by decide) (W_n W1388 (by decide) c_1236))
                    refine tt_gI (pc := 336) rw_156_336 (g_o hG1396 rfl) (v := (N.2.1 77 7)) c_1398 (to_c (pc := 339) rw_156_339 (x := (1 : Int32)) rfl rfl (s_add (pc := 340) rw_156_340 (A := (N.2.1 77 7).toInt) (B := 1) rfl rfl (by omega) (fun v1399 e1400 => s_pI (pc := 341) rw_156_341 hG1396 rfl (fun M1402 W1401 => ?_))))
                    have hG1403 := g_w hG1396 W1401 (A := v1399.toInt) rfl (lo := 0) (hi := 500) rfl rfl (by omega) (by decide)
                    have F1404 := FR.w F1397 W1401 (show 77 = 77 ∧ 7 ≤ 7 ∧ 7 ≤ 10 by decide)
                    refine to_rv (pc := 344) rw_156_344 ?_
                    have c_1405 : M1402.2.1 77 7 = v1399 := (W_e W1401)
                    have t_1406 : (M1402.2.1 77 7).toInt = v1399.toInt := congrArg Int32.toInt c_1405
                    have c_1407 : M1402.2.1 77 6 = (N.2.1 77 6) := (W_n W1401 (by decide) (W_n W1394 (by decide) (W_n W1388 (by decide) c_1238)))
                    have t_1408 : (M1402.2.1 77 6).toInt = (N.2.1 77 6).toInt := congrArg Int32.toInt c_1407
                    have c_1409 : M1402.2.1 77 8 = (4 : Int32) := (W_n W1401 (by decide) (W_e W1394))
                    have k_1410 : (4 : Int32).toInt = 4 := rfl
                    have t_1411 : (M1402.2.1 77 8).toInt = (4 : Int32).toInt := congrArg Int32.toInt c_1409
                    have c_1412 : M1402.2.1 77 9 = v1212 := (W_n W1401 (by decide) (W_n W1394 (by decide) c_1392))
                    have t_1413 : (M1402.2.1 77 9).toInt = v1212.toInt := congrArg Int32.toInt c_1412
                    have c_1414 : M1402.2.1 77 10 = (N.2.1 77 7) := (W_n W1401 (by decide) (W_n W1394 (by decide) (W_n W1388 (by decide) (W_e W1231))))
                    have t_1415 : (M1402.2.1 77 10).toInt = (N.2.1 77 7).toInt := congrArg Int32.toInt c_1414
                    have z_1416 := (x_ts (t := t) (n := nn) (a := (N.2.1 77 7).toInt) (by omega) (by omega) (by omega)).2.2
                    have z_1417 := x_nx_b (t := t) (n := nn) (a := (N.2.1 77 7).toInt) (by omega) (by omega)
                    have z_1418 := x_R_s (t := t) (n := nn) (a := (N.2.1 77 7).toInt) (v := v1212.toInt) (by omega) (by omega) (by omega)
                    have z_1419 := z_1235
                    exact h M1402 hG1403 F1404 (by omega) (by omega) (by omega) (RS_m (a := (N.2.1 77 7).toInt) (kd := (4 : Int32).toInt) (wh := v1212.toInt) (by omega) (by omega) (by omega) (by omega) (by omega) (by omega) (by omega) (by omega) z_1418)
                  · refine to_an (pc := 308) rw_156_308 rfl (tt_gI (pc := 309) rw_156_309 (g_o hG1390 rfl) (v := v1212) c_1392 (to_c (pc := 312) rw_156_312 (x := (41 : Int32)) rfl rfl (b_ceq (pc := 314) rw_156_314 (A := v1212.toInt) (B := 41) rfl rfl (fun h1420 => ?_) (fun h1420 => ?_))))
                    · refine to_c (pc := 326) rw_156_326 (x := (4 : Int32)) rfl rfl (to_go (pc := 327) rw_156_327 (s_pI (pc := 331) rw_156_331 hG1390 rfl (fun M1422 W1421 => ?_)))
                      have hG1423 := g_w hG1390 W1421 (A := 4) rfl (lo := 0) (hi := 5) rfl rfl (by omega) (by decide)
                      have F1424 := FR.w F1391 W1421 (show 77 = 77 ∧ 7 ≤ 8 ∧ 8 ≤ 10 by decide)
                      refine to_an (pc := 334) rw_156_334 rfl (to_dupr (pc := 335) rw_156_335 ?_)
                      have c_1425 : M1422.2.1 77 7 = (N.2.1 77 7) := (W_n W1421 (by decide) (W_n W1388 (by decide) c_1236))
                      refine tt_gI (pc := 336) rw_156_336 (g_o hG1423 rfl) (v := (N.2.1 77 7)) c_1425 (to_c (pc := 339) rw_156_339 (x := (1 : Int32)) rfl rfl (s_add (pc := 340) rw_156_340 (A := (N.2.1 77 7).toInt) (B := 1) rfl rfl (by omega) (fun v1426 e1427 => s_pI (pc := 341) rw_156_341 hG1423 rfl (fun M1429 W1428 => ?_))))
                      have hG1430 := g_w hG1423 W1428 (A := v1426.toInt) rfl (lo := 0) (hi := 500) rfl rfl (by omega) (by decide)
                      have F1431 := FR.w F1424 W1428 (show 77 = 77 ∧ 7 ≤ 7 ∧ 7 ≤ 10 by decide)
                      refine to_rv (pc := 344) rw_156_344 ?_
                      have c_1432 : M1429.2.1 77 7 = v1426 := (W_e W1428)
                      have t_1433 : (M1429.2.1 77 7).toInt = v1426.toInt := congrArg Int32.toInt c_1432
                      have c_1434 : M1429.2.1 77 6 = (N.2.1 77 6) := (W_n W1428 (by decide) (W_n W1421 (by decide) (W_n W1388 (by decide) c_1238)))
                      have t_1435 : (M1429.2.1 77 6).toInt = (N.2.1 77 6).toInt := congrArg Int32.toInt c_1434
                      have c_1436 : M1429.2.1 77 8 = (4 : Int32) := (W_n W1428 (by decide) (W_e W1421))
                      have k_1437 : (4 : Int32).toInt = 4 := rfl
                      have t_1438 : (M1429.2.1 77 8).toInt = (4 : Int32).toInt := congrArg Int32.toInt c_1436
                      have c_1439 : M1429.2.1 77 9 = v1212 := (W_n W1428 (by decide) (W_n W1421 (by decide) c_1392))
                      have t_1440 : (M1429.2.1 77 9).toInt = v1212.toInt := congrArg Int32.toInt c_1439
                      have c_1441 : M1429.2.1 77 10 = (N.2.1 77 7) := (W_n W1428 (by decide) (W_n W1421 (by decide) (W_n W1388 (by decide) (W_e W1231))))
                      have t_1442 : (M1429.2.1 77 10).toInt = (N.2.1 77 7).toInt := congrArg Int32.toInt c_1441
                      have z_1443 := (x_ts (t := t) (n := nn) (a := (N.2.1 77 7).toInt) (by omega) (by omega) (by omega)).2.2
                      have z_1444 := x_nx_b (t := t) (n := nn) (a := (N.2.1 77 7).toInt) (by omega) (by omega)
                      have z_1445 := x_R_s (t := t) (n := nn) (a := (N.2.1 77 7).toInt) (v := v1212.toInt) (by omega) (by omega) (by omega)
                      have z_1446 := z_1235
                      exact h M1429 hG1430 F1431 (by omega) (by omega) (by omega) (RS_m (a := (N.2.1 77 7).toInt) (kd := (4 : Int32).toInt) (wh := v1212.toInt) (by omega) (by omega) (by omega) (by omega) (by omega) (by omega) (by omega) (by omega) z_1445)
                    · refine to_an (pc := 317) rw_156_317 rfl (tt_gI (pc := 318) rw_156_318 (g_o hG1390 rfl) (v := v1212) c_1392 (to_c (pc := 321) rw_156_321 (x := (61 : Int32)) rfl rfl (b_cne_t (pc := 323) rw_156_323 (A := v1212.toInt) (B := 61) rfl rfl (by omega) (to_c (pc := 330) rw_156_330 (x := (5 : Int32)) rfl rfl (s_pI (pc := 331) rw_156_331 hG1390 rfl (fun M1448 W1447 => ?_))))))
                      have hG1449 := g_w hG1390 W1447 (A := 5) rfl (lo := 0) (hi := 5) rfl rfl (by omega) (by decide)
                      have F1450 := FR.w F1391 W1447 (show 77 = 77 ∧ 7 ≤ 8 ∧ 8 ≤ 10 by decide)
                      refine to_an (pc := 334) rw_156_334 rfl (to_dupr (pc := 335) rw_156_335 ?_)
                      have c_1451 : M1448.2.1 77 7 = (N.2.1 77 7) := (W_n W1447 (by decide) (W_n W1388 (by decide) c_1236))
                      refine tt_gI (pc := 336) rw_156_336 (g_o hG1449 rfl) (v := (N.2.1 77 7)) c_1451 (to_c (pc := 339) rw_156_339 (x := (1 : Int32)) rfl rfl (s_add (pc := 340) rw_156_340 (A := (N.2.1 77 7).toInt) (B := 1) rfl rfl (by omega) (fun v1452 e1453 => s_pI (pc := 341) rw_156_341 hG1449 rfl (fun M1455 W1454 => ?_))))
                      have hG1456 := g_w hG1449 W1454 (A := v1452.toInt) rfl (lo := 0) (hi := 500) rfl rfl (by omega) (by decide)
                      have F1457 := FR.w F1450 W1454 (show 77 = 77 ∧ 7 ≤ 7 ∧ 7 ≤ 10 by decide)
                      refine to_rv (pc := 344) rw_156_344 ?_
                      have c_1458 : M1455.2.1 77 7 = v1452 := (W_e W1454)
                      have t_1459 : (M1455.2.1 77 7).toInt = v1452.toInt := congrArg Int32.toInt c_1458
                      have c_1460 : M1455.2.1 77 6 = (N.2.1 77 6) := (W_n W1454 (by decide) (W_n W1447 (by decide) (W_n W1388 (by decide) c_1238)))
                      have t_1461 : (M1455.2.1 77 6).toInt = (N.2.1 77 6).toInt := congrArg Int32.toInt c_1460
                      have c_1462 : M1455.2.1 77 8 = (5 : Int32) := (W_n W1454 (by decide) (W_e W1447))
                      have k_1463 : (5 : Int32).toInt = 5 := rfl
                      have t_1464 : (M1455.2.1 77 8).toInt = (5 : Int32).toInt := congrArg Int32.toInt c_1462
                      have c_1465 : M1455.2.1 77 9 = v1212 := (W_n W1454 (by decide) (W_n W1447 (by decide) c_1392))
                      have t_1466 : (M1455.2.1 77 9).toInt = v1212.toInt := congrArg Int32.toInt c_1465
                      have c_1467 : M1455.2.1 77 10 = (N.2.1 77 7) := (W_n W1454 (by decide) (W_n W1447 (by decide) (W_n W1388 (by decide) (W_e W1231))))
                      have t_1468 : (M1455.2.1 77 10).toInt = (N.2.1 77 7).toInt := congrArg Int32.toInt c_1467
                      have z_1469 := (x_ts (t := t) (n := nn) (a := (N.2.1 77 7).toInt) (by omega) (by omega) (by omega)).2.2
                      have z_1470 := x_nx_b (t := t) (n := nn) (a := (N.2.1 77 7).toInt) (by omega) (by omega)
                      have z_1471 := x_R_b (t := t) (n := nn) (a := (N.2.1 77 7).toInt) (w := v1212.toInt) (by omega) (by omega) (by omega) (by omega)
                      have z_1472 := z_1235
                      exact h M1455 hG1456 F1457 (by omega) (by omega) (by omega) (RS_m (a := (N.2.1 77 7).toInt) (kd := (5 : Int32).toInt) (wh := v1212.toInt) (by omega) (by omega) (by omega) (by omega) (by omega) (by omega) (by omega) (by omega) z_1471)
                · refine to_an (pc := 19) rw_155_19 rfl (s_gR (pc := 20) rw_155_20 hG1233 rfl (v := 78) rfl (to_in (pc := 23) rw_155_23 rfl (s_ialk (pc := 24) rw_155_24 hG1233 rfl (n := 500) rfl rfl (A := (N.2.1 77 7).toInt) rfl (by omega) (by omega) (v := v1212) (W_n W1231 (by omega) w_1213) (to_c (pc := 25) rw_155_25 (x := (57 : Int32)) rfl rfl (b_cgt (pc := 27) rw_155_27 (A := v1212.toInt) (B := 57) rfl rfl (fun h1475 => ?_) (fun h1475 => ?_))))))
                  · refine to_c (pc := 34) rw_155_34 (x := (0 : Int32)) rfl rfl (s_r1 (pc := 35) rw_155_35 (A := 0) rfl (by decide) (b_ieq_t (pc := 199) rw_156_199 (A := 0) rfl (by decide) (to_an (pc := 276) rw_156_276 rfl (to_an (pc := 277) rw_156_277 rfl (s_gR (pc := 278) rw_156_278 hG1233 rfl (v := 78) rfl (to_an (pc := 281) rw_156_281 rfl (tt_gI (pc := 282) rw_156_282 (g_o hG1233 rfl) (v := (N.2.1 77 7)) c_1236 (s_ialk (pc := 285) rw_156_285 hG1233 rfl (n := 500) rfl rfl (A := (N.2.1 77 7).toInt) rfl (by omega) (by omega) (v := v1212) (W_n W1231 (by omega) w_1213) (s_pI (pc := 286) rw_156_286 hG1233 rfl (fun M1479 W1478 => ?_))))))))))
                    have hG1480 := g_wf hG1233 W1478 rfl rfl (by decide)
                    have F1481 := FR.w F1234 W1478 (show 77 = 77 ∧ 7 ≤ 9 ∧ 9 ≤ 10 by decide)
                    refine to_an (pc := 289) rw_156_289 rfl (to_an (pc := 290) rw_156_290 rfl ?_)
                    have c_1482 : M1479.2.1 77 9 = v1212 := (W_e W1478)
                    refine tt_gI (pc := 291) rw_156_291 (g_o hG1480 rfl) (v := v1212) c_1482 (to_c (pc := 294) rw_156_294 (x := (59 : Int32)) rfl rfl (b_ceq (pc := 296) rw_156_296 (A := v1212.toInt) (B := 59) rfl rfl (fun h1483 => ?_) (fun h1483 => ?_)))
                    · refine to_c (pc := 326) rw_156_326 (x := (4 : Int32)) rfl rfl (to_go (pc := 327) rw_156_327 (s_pI (pc := 331) rw_156_331 hG1480 rfl (fun M1485 W1484 => ?_)))
                      have hG1486 := g_w hG1480 W1484 (A := 4) rfl (lo := 0) (hi := 5) rfl rfl (by omega) (by decide)
                      have F1487 := FR.w F1481 W1484 (show 77 = 77 ∧ 7 ≤ 8 ∧ 8 ≤ 10 by decide)
                      refine to_an (pc := 334) rw_156_334 rfl (to_dupr (pc := 335) rw_156_335 ?_)
                      have c_1488 : M1485.2.1 77 7 = (N.2.1 77 7) := (W_n W1484 (by decide) (W_n W1478 (by decide) c_1236))
                      refine tt_gI (pc := 336) rw_156_336 (g_o hG1486 rfl) (v := (N.2.1 77 7)) c_1488 (to_c (pc := 339) rw_156_339 (x := (1 : Int32)) rfl rfl (s_add (pc := 340) rw_156_340 (A := (N.2.1 77 7).toInt) (B := 1) rfl rfl (by omega) (fun v1489 e1490 => s_pI (pc := 341) rw_156_341 hG1486 rfl (fun M1492 W1491 => ?_))))
                      have hG1493 := g_w hG1486 W1491 (A := v1489.toInt) rfl (lo := 0) (hi := 500) rfl rfl (by omega) (by decide)
                      have F1494 := FR.w F1487 W1491 (show 77 = 77 ∧ 7 ≤ 7 ∧ 7 ≤ 10 by decide)
                      refine to_rv (pc := 344) rw_156_344 ?_
                      have c_1495 : M1492.2.1 77 7 = v1489 := (W_e W1491)
                      have t_1496 : (M1492.2.1 77 7).toInt = v1489.toInt := congrArg Int32.toInt c_1495
                      have c_1497 : M1492.2.1 77 6 = (N.2.1 77 6) := (W_n W1491 (by decide) (W_n W1484 (by decide) (W_n W1478 (by decide) c_1238)))
                      have t_1498 : (M1492.2.1 77 6).toInt = (N.2.1 77 6).toInt := congrArg Int32.toInt c_1497
                      have c_1499 : M1492.2.1 77 8 = (4 : Int32) := (W_n W1491 (by decide) (W_e W1484))
                      have k_1500 : (4 : Int32).toInt = 4 := rfl
                      have t_1501 : (M1492.2.1 77 8).toInt = (4 : Int32).toInt := congrArg Int32.toInt c_1499
                      have c_1502 : M1492.2.1 77 9 = v1212 := (W_n W1491 (by decide) (W_n W1484 (by decide) c_1482))
                      have t_1503 : (M1492.2.1 77 9).toInt = v1212.toInt := congrArg Int32.toInt c_1502
                      have c_1504 : M1492.2.1 77 10 = (N.2.1 77 7) := (W_n W1491 (by decide) (W_n W1484 (by decide) (W_n W1478 (by decide) (W_e W1231))))
                      have t_1505 : (M1492.2.1 77 10).toInt = (N.2.1 77 7).toInt := congrArg Int32.toInt c_1504
                      have z_1506 := (x_ts (t := t) (n := nn) (a := (N.2.1 77 7).toInt) (by omega) (by omega) (by omega)).2.2
                      have z_1507 := x_nx_b (t := t) (n := nn) (a := (N.2.1 77 7).toInt) (by omega) (by omega)
                      have z_1508 := x_R_s (t := t) (n := nn) (a := (N.2.1 77 7).toInt) (v := v1212.toInt) (by omega) (by omega) (by omega)
                      have z_1509 := z_1235
                      exact h M1492 hG1493 F1494 (by omega) (by omega) (by omega) (RS_m (a := (N.2.1 77 7).toInt) (kd := (4 : Int32).toInt) (wh := v1212.toInt) (by omega) (by omega) (by omega) (by omega) (by omega) (by omega) (by omega) (by omega) z_1508)
                    · refine to_an (pc := 299) rw_156_299 rfl (tt_gI (pc := 300) rw_156_300 (g_o hG1480 rfl) (v := v1212) c_1482 (to_c (pc := 303) rw_156_303 (x := (40 : Int32)) rfl rfl (b_ceq_f (pc := 305) rw_156_305 (A := v1212.toInt) (B := 40) rfl rfl (by omega) (to_an (pc := 308) rw_156_308 rfl (tt_gI (pc := 309) rw_156_309 (g_o hG1480 rfl) (v := v1212) c_1482 (to_c (pc := 312) rw_156_312 (x := (41 : Int32)) rfl rfl (b_ceq_f (pc := 314) rw_156_314 (A := v1212.toInt) (B := 41) rfl rfl (by omega) (to_an (pc := 317) rw_156_317 rfl (tt_gI (pc := 318) rw_156_318 (g_o hG1480 rfl) (v := v1212) c_1482 (to_c (pc := 321) rw_156_321 (x := (61 : Int32)) rfl rfl (b_cne (pc := 323) rw_156_323 (A := v1212.toInt) (B := 61) rfl rfl (fun h1510 => ?_) (fun h1510 => ?_))))))))))))
                      · refine to_c (pc := 330) rw_156_330 (x := (5 : Int32)) rfl rfl (s_pI (pc := 331) rw_156_331 hG1480 rfl (fun M1512 W1511 => ?_))
                        have hG1513 := g_w hG1480 W1511 (A := 5) rfl (lo := 0) (hi := 5) rfl rfl (by omega) (by decide)
                        have F1514 := FR.w F1481 W1511 (show 77 = 77 ∧ 7 ≤ 8 ∧ 8 ≤ 10 by decide)
                        refine to_an (pc := 334) rw_156_334 rfl (to_dupr (pc := 335) rw_156_335 ?_)
                        have c_1515 : M1512.2.1 77 7 = (N.2.1 77 7) := (W_n W1511 (by decide) (W_n W1478 (by decide) c_1236))
                        refine tt_gI (pc := 336) rw_156_336 (g_o hG1513 rfl) (v := (N.2.1 77 7)) c_1515 (to_c (pc := 339) rw_156_339 (x := (1 : Int32)) rfl rfl (s_add (pc := 340) rw_156_340 (A := (N.2.1 77 7).toInt) (B := 1) rfl rfl (by omega) (fun v1516 e1517 => s_pI (pc := 341) rw_156_341 hG1513 rfl (fun M1519 W1518 => ?_))))
                        have hG1520 := g_w hG1513 W1518 (A := v1516.toInt) rfl (lo := 0) (hi := 500) rfl rfl (by omega) (by decide)
                        have F1521 := FR.w F1514 W1518 (show 77 = 77 ∧ 7 ≤ 7 ∧ 7 ≤ 10 by decide)
                        refine to_rv (pc := 344) rw_156_344 ?_
                        have c_1522 : M1519.2.1 77 7 = v1516 := (W_e W1518)
                        have t_1523 : (M1519.2.1 77 7).toInt = v1516.toInt := congrArg Int32.toInt c_1522
                        have c_1524 : M1519.2.1 77 6 = (N.2.1 77 6) := (W_n W1518 (by decide) (W_n W1511 (by decide) (W_n W1478 (by decide) c_1238)))
                        have t_1525 : (M1519.2.1 77 6).toInt = (N.2.1 77 6).toInt := congrArg Int32.toInt c_1524
                        have c_1526 : M1519.2.1 77 8 = (5 : Int32) := (W_n W1518 (by decide) (W_e W1511))
                        have k_1527 : (5 : Int32).toInt = 5 := rfl
                        have t_1528 : (M1519.2.1 77 8).toInt = (5 : Int32).toInt := congrArg Int32.toInt c_1526
                        have c_1529 : M1519.2.1 77 9 = v1212 := (W_n W1518 (by decide) (W_n W1511 (by decide) c_1482))
                        have t_1530 : (M1519.2.1 77 9).toInt = v1212.toInt := congrArg Int32.toInt c_1529
                        have c_1531 : M1519.2.1 77 10 = (N.2.1 77 7) := (W_n W1518 (by decide) (W_n W1511 (by decide) (W_n W1478 (by decide) (W_e W1231))))
                        have t_1532 : (M1519.2.1 77 10).toInt = (N.2.1 77 7).toInt := congrArg Int32.toInt c_1531
                        have z_1533 := (x_ts (t := t) (n := nn) (a := (N.2.1 77 7).toInt) (by omega) (by omega) (by omega)).2.2
                        have z_1534 := x_nx_b (t := t) (n := nn) (a := (N.2.1 77 7).toInt) (by omega) (by omega)
                        have z_1535 := x_R_b (t := t) (n := nn) (a := (N.2.1 77 7).toInt) (w := v1212.toInt) (by omega) (by omega) (by omega) (by omega)
                        have z_1536 := z_1235
                        exact h M1519 hG1520 F1521 (by omega) (by omega) (by omega) (RS_m (a := (N.2.1 77 7).toInt) (kd := (5 : Int32).toInt) (wh := v1212.toInt) (by omega) (by omega) (by omega) (by omega) (by omega) (by omega) (by omega) (by omega) z_1535)
                      · refine to_c (pc := 326) rw_156_326 (x := (4 : Int32)) rfl rfl (to_go (pc := 327) rw_156_327 (s_pI (pc := 331) rw_156_331 hG1480 rfl (fun M1538 W1537 => ?_)))
                        have hG1539 := g_w hG1480 W1537 (A := 4) rfl (lo := 0) (hi := 5) rfl rfl (by omega) (by decide)
                        have F1540 := FR.w F1481 W1537 (show 77 = 77 ∧ 7 ≤ 8 ∧ 8 ≤ 10 by decide)
                        refine to_an (pc := 334) rw_156_334 rfl (to_dupr (pc := 335) rw_156_335 ?_)
                        have c_1541 : M1538.2.1 77 7 = (N.2.1 77 7) := (W_n W1537 (by decide) (W_n W1478 (by decide) c_1236))
                        refine tt_gI (pc := 336) rw_156_336 (g_o hG1539 rfl) (v := (N.2.1 77 7)) c_1541 (to_c (pc := 339) rw_156_339 (x := (1 : Int32)) rfl rfl (s_add (pc := 340) rw_156_340 (A := (N.2.1 77 7).toInt) (B := 1) rfl rfl (by omega) (fun v1542 e1543 => s_pI (pc := 341) rw_156_341 hG1539 rfl (fun M1545 W1544 => ?_))))
                        have hG1546 := g_w hG1539 W1544 (A := v1542.toInt) rfl (lo := 0) (hi := 500) rfl rfl (by omega) (by decide)
                        have F1547 := FR.w F1540 W1544 (show 77 = 77 ∧ 7 ≤ 7 ∧ 7 ≤ 10 by decide)
                        refine to_rv (pc := 344) rw_156_344 ?_
                        have c_1548 : M1545.2.1 77 7 = v1542 := (W_e W1544)
                        have t_1549 : (M1545.2.1 77 7).toInt = v1542.toInt := congrArg Int32.toInt c_1548
                        have c_1550 : M1545.2.1 77 6 = (N.2.1 77 6) := (W_n W1544 (by decide) (W_n W1537 (by decide) (W_n W1478 (by decide) c_1238)))
                        have t_1551 : (M1545.2.1 77 6).toInt = (N.2.1 77 6).toInt := congrArg Int32.toInt c_1550
                        have c_1552 : M1545.2.1 77 8 = (4 : Int32) := (W_n W1544 (by decide) (W_e W1537))
                        have k_1553 : (4 : Int32).toInt = 4 := rfl
                        have t_1554 : (M1545.2.1 77 8).toInt = (4 : Int32).toInt := congrArg Int32.toInt c_1552
                        have c_1555 : M1545.2.1 77 9 = v1212 := (W_n W1544 (by decide) (W_n W1537 (by decide) c_1482))
                        have t_1556 : (M1545.2.1 77 9).toInt = v1212.toInt := congrArg Int32.toInt c_1555
                        have c_1557 : M1545.2.1 77 10 = (N.2.1 77 7) := (W_n W1544 (by decide) (W_n W1537 (by decide) (W_n W1478 (by decide) (W_e W1231))))
                        have t_1558 : (M1545.2.1 77 10).toInt = (N.2.1 77 7).toInt := congrArg Int32.toInt c_1557
                        have z_1559 := (x_ts (t := t) (n := nn) (a := (N.2.1 77 7).toInt) (by omega) (by omega) (by omega)).2.2
                        have z_1560 := x_nx_b (t := t) (n := nn) (a := (N.2.1 77 7).toInt) (by omega) (by omega)
                        have z_1561 := x_R_s (t := t) (n := nn) (a := (N.2.1 77 7).toInt) (v := v1212.toInt) (by omega) (by omega) (by omega)
                        have z_1562 := z_1235
                        exact h M1545 hG1546 F1547 (by omega) (by omega) (by omega) (RS_m (a := (N.2.1 77 7).toInt) (kd := (4 : Int32).toInt) (wh := v1212.toInt) (by omega) (by omega) (by omega) (by omega) (by omega) (by omega) (by omega) (by omega) z_1561)
                  · refine to_c (pc := 30) rw_155_30 (x := (1 : Int32)) rfl rfl (to_go (pc := 31) rw_155_31 (s_r1 (pc := 35) rw_155_35 (A := 1) rfl (by decide) (b_ieq_f (pc := 199) rw_156_199 (A := 1) rfl (by decide) (to_an (pc := 202) rw_156_202 rfl (to_c (pc := 203) rw_156_203 (x := (3 : Int32)) rfl rfl (s_pI (pc := 204) rw_156_204 hG1233 rfl (fun M1564 W1563 => ?_)))))))
                    have hG1565 := g_w hG1233 W1563 (A := 3) rfl (lo := 0) (hi := 5) rfl rfl (by omega) (by decide)
                    have F1566 := FR.w F1234 W1563 (show 77 = 77 ∧ 7 ≤ 8 ∧ 8 ≤ 10 by decide)
                    refine to_an (pc := 207) rw_156_207 rfl (to_c (pc := 208) rw_156_208 (x := (0 : Int32)) rfl rfl (s_pI (pc := 209) rw_156_209 hG1565 rfl (fun M1568 W1567 => ?_)))
                    have hG1569 := g_wf hG1565 W1567 rfl rfl (by decide)
                    have F1570 := FR.w F1566 W1567 (show 77 = 77 ∧ 7 ≤ 9 ∧ 9 ≤ 10 by decide)
                    have c_1571 : M1568.2.1 77 7 = (N.2.1 77 7) := (W_n W1567 (by decide) (W_n W1563 (by decide) c_1236))
                    have t_1572 : (M1568.2.1 77 7).toInt = (N.2.1 77 7).toInt := congrArg Int32.toInt c_1571
                    have c_1573 : M1568.2.1 77 6 = (N.2.1 77 6) := (W_n W1567 (by decide) (W_n W1563 (by decide) c_1238))
                    have t_1574 : (M1568.2.1 77 6).toInt = (N.2.1 77 6).toInt := congrArg Int32.toInt c_1573
                    have c_1575 : M1568.2.1 77 10 = (N.2.1 77 7) := (W_n W1567 (by decide) (W_n W1563 (by decide) (W_e W1231)))
                    have t_1576 : (M1568.2.1 77 10).toInt = (N.2.1 77 7).toInt := congrArg Int32.toInt c_1575
                    have c_1577 : M1568.2.1 77 8 = (3 : Int32) := (W_n W1567 (by decide) (W_e W1563))
                    have k_1578 : (3 : Int32).toInt = 3 := rfl
                    have t_1579 : (M1568.2.1 77 8).toInt = (3 : Int32).toInt := congrArg Int32.toInt c_1577
                    have c_1580 : M1568.2.1 77 9 = (0 : Int32) := (W_e W1567)
                    have k_1581 : (0 : Int32).toInt = 0 := rfl
                    have t_1582 : (M1568.2.1 77 9).toInt = (0 : Int32).toInt := congrArg Int32.toInt c_1580
                    have j_1583 := (TR_f (fun a i z => W_n W1567 (tg_13 a i z) rfl) (TR_f (fun a i z => W_n W1563 (tg_16 a i z) rfl) (TR_f (fun a i z => W_n W1231 (tg_17 a i z) rfl) g7)))
                    have j_1584 := (W9_f (fun a i z => W_n W1567 (tg_15 a i z) rfl) (W9_f (fun a i z => W_n W1563 (tg_18 a i z) rfl) (W9_f (fun a i z => W_n W1231 (tg_19 a i z) rfl) g8)))
                    exact (U_156_0 (t := t) (nn := nn) hX hd q1 q2 q3 q4 q5 q6 h ((500 - (M1568.2.1 77 7).toInt).toNat + 1)) M1568  hG1569 F1570 (by omega) (by omega) (by omega) (by omega) (by rw [show (M1568.2.1 77 10).toInt = (N.2.1 77 7).toInt by omega]; omega) (by omega) (by omega) (by omega) (by omega) (by rw [show (M1568.2.1 77 9).toInt = 0 by omega, show (M1568.2.1 77 7).toInt = (M1568.2.1 77 10).toInt by omega]; rfl) (congrArg (x_end x_dg t nn) (show (M1568.2.1 77 7).toInt = (M1568.2.1 77 10).toInt by omega)) (by omega) (by omega) (by omega) j_1583 j_1584 (by omega)
            · refine to_an (pc := 8) rw_154_8 rfl (s_gR (pc := 9) rw_154_9 hG1233 rfl (v := 78) rfl (to_in (pc := 12) rw_154_12 rfl (s_ialk (pc := 13) rw_154_13 hG1233 rfl (n := 500) rfl rfl (A := (N.2.1 77 7).toInt) rfl (by omega) (by omega) (v := v1212) (W_n W1231 (by omega) w_1213) (to_c (pc := 14) rw_154_14 (x := (97 : Int32)) rfl rfl (b_clt (pc := 16) rw_154_16 (A := v1212.toInt) (B := 97) rfl rfl (fun h1587 => ?_) (fun h1587 => ?_))))))
              · refine to_c (pc := 34) rw_154_34 (x := (0 : Int32)) rfl rfl (s_r1 (pc := 35) rw_154_35 (A := 0) rfl (by decide) (b_ieq_t (pc := 87) rw_156_87 (A := 0) rfl (by decide) (to_an (pc := 191) rw_156_191 rfl (to_an (pc := 192) rw_156_192 rfl (tt_gI (pc := 193) rw_156_193 (g_o hG1233 rfl) (v := (N.2.1 77 7)) c_1236 (s_v (pc := 196) rw_156_196 (dp0 hd (by decide)) (ls0 := [.ref 77, .int (N.2.1 77 7)]) rfl (Nat.le_of_ble_eq_true rfl) (Nat.le_of_ble_eq_true rfl) rfl (to_rc rfl rfl rfl (g_o hG1233 rfl)) rfl (to_in (pc := 0) rw_155_0 rfl (to_an (pc := 1) rw_155_1 rfl (tt_gI (pc := 2) rw_155_2 (g_o hG1233 rfl) (v := (N.2.1 77 6)) c_1238 (b_cge (pc := 5) rw_155_5 (A := (N.2.1 77 7).toInt) (B := (N.2.1 77 6).toInt) rfl rfl (fun h1588 => ?_) (fun h1588 => ?_)))))))))))
                · refine to_c (pc := 34) rw_155_34 (x := (0 : Int32)) rfl rfl (s_r1 (pc := 35) rw_155_35 (A := 0) rfl (by decide) (b_ieq_t (pc := 199) rw_156_199 (A := 0) rfl (by decide) (to_an (pc := 276) rw_156_276 rfl (to_an (pc := 277) rw_156_277 rfl (s_gR (pc := 278) rw_156_278 hG1233 rfl (v := 78) rfl (to_an (pc := 281) rw_156_281 rfl (tt_gI (pc := 282) rw_156_282 (g_o hG1233 rfl) (v := (N.2.1 77 7)) c_1236 (s_ialk (pc := 285) rw_156_285 hG1233 rfl (n := 500) rfl rfl (A := (N.2.1 77 7).toInt) rfl (by omega) (by omega) (v := v1212) (W_n W1231 (by omega) w_1213) (s_pI (pc := 286) rw_156_286 hG1233 rfl (fun M1592 W1591 => ?_))))))))))
                  have hG1593 := g_wf hG1233 W1591 rfl rfl (by decide)
                  have F1594 := FR.w F1234 W1591 (show 77 = 77 ∧ 7 ≤ 9 ∧ 9 ≤ 10 by decide)
                  refine to_an (pc := 289) rw_156_289 rfl (to_an (pc := 290) rw_156_290 rfl ?_)
                  have c_1595 : M1592.2.1 77 9 = v1212 := (W_e W1591)
                  refine tt_gI (pc := 291) rw_156_291 (g_o hG1593 rfl) (v := v1212) c_1595 (to_c (pc := 294) rw_156_294 (x := (59 : Int32)) rfl rfl (b_ceq (pc := 296) rw_156_296 (A := v1212.toInt) (B := 59) rfl rfl (fun h1596 => ?_) (fun h1596 => ?_)))
                  · refine to_c (pc := 326) rw_156_326 (x := (4 : Int32)) rfl rfl (to_go (pc := 327) rw_156_327 (s_pI (pc := 331) rw_156_331 hG1593 rfl (fun M1598 W1597 => ?_)))
                    have hG1599 := g_w hG1593 W1597 (A := 4) rfl (lo := 0) (hi := 5) rfl rfl (by omega) (by decide)
                    have F1600 := FR.w F1594 W1597 (show 77 = 77 ∧ 7 ≤ 8 ∧ 8 ≤ 10 by decide)
                    refine to_an (pc := 334) rw_156_334 rfl (to_dupr (pc := 335) rw_156_335 ?_)
                    have c_1601 : M1598.2.1 77 7 = (N.2.1 77 7) := (W_n W1597 (by decide) (W_n W1591 (by decide) c_1236))
                    refine tt_gI (pc := 336) rw_156_336 (g_o hG1599 rfl) (v := (N.2.1 77 7)) c_1601 (to_c (pc := 339) rw_156_339 (x := (1 : Int32)) rfl rfl (s_add (pc := 340) rw_156_340 (A := (N.2.1 77 7).toInt) (B := 1) rfl rfl (by omega) (fun v1602 e1603 => s_pI (pc := 341) rw_156_341 hG1599 rfl (fun M1605 W1604 => ?_))))
                    have hG1606 := g_w hG1599 W1604 (A := v1602.toInt) rfl (lo := 0) (hi := 500) rfl rfl (by omega) (by decide)
                    have F1607 := FR.w F1600 W1604 (show 77 = 77 ∧ 7 ≤ 7 ∧ 7 ≤ 10 by decide)
                    refine to_rv (pc := 344) rw_156_344 ?_
                    have c_1608 : M1605.2.1 77 7 = v1602 := (W_e W1604)
                    have t_1609 : (M1605.2.1 77 7).toInt = v1602.toInt := congrArg Int32.toInt c_1608
                    have c_1610 : M1605.2.1 77 6 = (N.2.1 77 6) := (W_n W1604 (by decide) (W_n W1597 (by decide) (W_n W1591 (by decide) c_1238)))
                    have t_1611 : (M1605.2.1 77 6).toInt = (N.2.1 77 6).toInt := congrArg Int32.toInt c_1610
                    have c_1612 : M1605.2.1 77 8 = (4 : Int32) := (W_n W1604 (by decide) (W_e W1597))
                    have k_1613 : (4 : Int32).toInt = 4 := rfl
                    have t_1614 : (M1605.2.1 77 8).toInt = (4 : Int32).toInt := congrArg Int32.toInt c_1612
                    have c_1615 : M1605.2.1 77 9 = v1212 := (W_n W1604 (by decide) (W_n W1597 (by decide) c_1595))
                    have t_1616 : (M1605.2.1 77 9).toInt = v1212.toInt := congrArg Int32.toInt c_1615
                    have c_1617 : M1605.2.1 77 10 = (N.2.1 77 7) := (W_n W1604 (by decide) (W_n W1597 (by decide) (W_n W1591 (by decide) (W_e W1231))))
                    have t_1618 : (M1605.2.1 77 10).toInt = (N.2.1 77 7).toInt := congrArg Int32.toInt c_1617
                    have z_1619 := (x_ts (t := t) (n := nn) (a := (N.2.1 77 7).toInt) (by omega) (by omega) (by omega)).2.2
                    have z_1620 := x_nx_b (t := t) (n := nn) (a := (N.2.1 77 7).toInt) (by omega) (by omega)
                    have z_1621 := x_R_s (t := t) (n := nn) (a := (N.2.1 77 7).toInt) (v := v1212.toInt) (by omega) (by omega) (by omega)
                    have z_1622 := z_1235
                    exact h M1605 hG1606 F1607 (by omega) (by omega) (by omega) (RS_m (a := (N.2.1 77 7).toInt) (kd := (4 : Int32).toInt) (wh := v1212.toInt) (by omega) (by omega) (by omega) (by omega) (by omega) (by omega) (by omega) (by omega) z_1621)
                  · refine to_an (pc := 299) rw_156_299 rfl (tt_gI (pc := 300) rw_156_300 (g_o hG1593 rfl) (v := v1212) c_1595 (to_c (pc := 303) rw_156_303 (x := (40 : Int32)) rfl rfl (b_ceq (pc := 305) rw_156_305 (A := v1212.toInt) (B := 40) rfl rfl (fun h1623 => ?_) (fun h1623 => ?_))))
                    · refine to_c (pc := 326) rw_156_326 (x := (4 : Int32)) rfl rfl (to_go (pc := 327) rw_156_327 (s_pI (pc := 331) rw_156_331 hG1593 rfl (fun M1625 W1624 => ?_)))
                      have hG1626 := g_w hG1593 W1624 (A := 4) rfl (lo := 0) (hi := 5) rfl rfl (by omega) (by decide)
                      have F1627 := FR.w F1594 W1624 (show 77 = 77 ∧ 7 ≤ 8 ∧ 8 ≤ 10 by decide)
                      refine to_an (pc := 334) rw_156_334 rfl (to_dupr (pc := 335) rw_156_335 ?_)
                      have c_1628 : M1625.2.1 77 7 = (N.2.1 77 7) := (W_n W1624 (by decide) (W_n W1591 (by decide) c_1236))
                      refine tt_gI (pc := 336) rw_156_336 (g_o hG1626 rfl) (v := (N.2.1 77 7)) c_1628 (to_c (pc := 339) rw_156_339 (x := (1 : Int32)) rfl rfl (s_add (pc := 340) rw_156_340 (A := (N.2.1 77 7).toInt) (B := 1) rfl rfl (by omega) (fun v1629 e1630 => s_pI (pc := 341) rw_156_341 hG1626 rfl (fun M1632 W1631 => ?_))))
                      have hG1633 := g_w hG1626 W1631 (A := v1629.toInt) rfl (lo := 0) (hi := 500) rfl rfl (by omega) (by decide)
                      have F1634 := FR.w F1627 W1631 (show 77 = 77 ∧ 7 ≤ 7 ∧ 7 ≤ 10 by decide)
                      refine to_rv (pc := 344) rw_156_344 ?_
                      have c_1635 : M1632.2.1 77 7 = v1629 := (W_e W1631)
                      have t_1636 : (M1632.2.1 77 7).toInt = v1629.toInt := congrArg Int32.toInt c_1635
                      have c_1637 : M1632.2.1 77 6 = (N.2.1 77 6) := (W_n W1631 (by decide) (W_n W1624 (by decide) (W_n W1591 (by decide) c_1238)))
                      have t_1638 : (M1632.2.1 77 6).toInt = (N.2.1 77 6).toInt := congrArg Int32.toInt c_1637
                      have c_1639 : M1632.2.1 77 8 = (4 : Int32) := (W_n W1631 (by decide) (W_e W1624))
                      have k_1640 : (4 : Int32).toInt = 4 := rfl
                      have t_1641 : (M1632.2.1 77 8).toInt = (4 : Int32).toInt := congrArg Int32.toInt c_1639
                      have c_1642 : M1632.2.1 77 9 = v1212 := (W_n W1631 (by decide) (W_n W1624 (by decide) c_1595))
                      have t_1643 : (M1632.2.1 77 9).toInt = v1212.toInt := congrArg Int32.toInt c_1642
                      have c_1644 : M1632.2.1 77 10 = (N.2.1 77 7) := (W_n W1631 (by decide) (W_n W1624 (by decide) (W_n W1591 (by decide) (W_e W1231))))
                      have t_1645 : (M1632.2.1 77 10).toInt = (N.2.1 77 7).toInt := congrArg Int32.toInt c_1644
                      have z_1646 := (x_ts (t := t) (n := nn) (a := (N.2.1 77 7).toInt) (by omega) (by omega) (by omega)).2.2
                      have z_1647 := x_nx_b (t := t) (n := nn) (a := (N.2.1 77 7).toInt) (by omega) (by omega)
                      have z_1648 := x_R_s (t := t) (n := nn) (a := (N.2.1 77 7).toInt) (v := v1212.toInt) (by omega) (by omega) (by omega)
                      have z_1649 := z_1235
                      exact h M1632 hG1633 F1634 (by omega) (by omega) (by omega) (RS_m (a := (N.2.1 77 7).toInt) (kd := (4 : Int32).toInt) (wh := v1212.toInt) (by omega) (by omega) (by omega) (by omega) (by omega) (by omega) (by omega) (by omega) z_1648)
                    · refine to_an (pc := 308) rw_156_308 rfl (tt_gI (pc := 309) rw_156_309 (g_o hG1593 rfl) (v := v1212) c_1595 (to_c (pc := 312) rw_156_312 (x := (41 : Int32)) rfl rfl (b_ceq (pc := 314) rw_156_314 (A := v1212.toInt) (B := 41) rfl rfl (fun h1650 => ?_) (fun h1650 => ?_))))
                      · refine to_c (pc := 326) rw_156_326 (x := (4 : Int32)) rfl rfl (to_go (pc := 327) rw_156_327 (s_pI (pc := 331) rw_156_331 hG1593 rfl (fun M1652 W1651 => ?_)))
                        have hG1653 := g_w hG1593 W1651 (A := 4) rfl (lo := 0) (hi := 5) rfl rfl (by omega) (by decide)
                        have F1654 := FR.w F1594 W1651 (show 77 = 77 ∧ 7 ≤ 8 ∧ 8 ≤ 10 by decide)
                        refine to_an (pc := 334) rw_156_334 rfl (to_dupr (pc := 335) rw_156_335 ?_)
                        have c_1655 : M1652.2.1 77 7 = (N.2.1 77 7) := (W_n W1651 (by decide) (W_n W1591 (by decide) c_1236))
                        refine tt_gI (pc := 336) rw_156_336 (g_o hG1653 rfl) (v := (N.2.1 77 7)) c_1655 (to_c (pc := 339) rw_156_339 (x := (1 : Int32)) rfl rfl (s_add (pc := 340) rw_156_340 (A := (N.2.1 77 7).toInt) (B := 1) rfl rfl (by omega) (fun v1656 e1657 => s_pI (pc := 341) rw_156_341 hG1653 rfl (fun M1659 W1658 => ?_))))
                        have hG1660 := g_w hG1653 W1658 (A := v1656.toInt) rfl (lo := 0) (hi := 500) rfl rfl (by omega) (by decide)
                        have F1661 := FR.w F1654 W1658 (show 77 = 77 ∧ 7 ≤ 7 ∧ 7 ≤ 10 by decide)
                        refine to_rv (pc := 344) rw_156_344 ?_
                        have c_1662 : M1659.2.1 77 7 = v1656 := (W_e W1658)
                        have t_1663 : (M1659.2.1 77 7).toInt = v1656.toInt := congrArg Int32.toInt c_1662
                        have c_1664 : M1659.2.1 77 6 = (N.2.1 77 6) := (W_n W1658 (by decide) (W_n W1651 (by decide) (W_n W1591 (by decide) c_1238)))
                        have t_1665 : (M1659.2.1 77 6).toInt = (N.2.1 77 6).toInt := congrArg Int32.toInt c_1664
                        have c_1666 : M1659.2.1 77 8 = (4 : Int32) := (W_n W1658 (by decide) (W_e W1651))
                        have k_1667 : (4 : Int32).toInt = 4 := rfl
                        have t_1668 : (M1659.2.1 77 8).toInt = (4 : Int32).toInt := congrArg Int32.toInt c_1666
                        have c_1669 : M1659.2.1 77 9 = v1212 := (W_n W1658 (by decide) (W_n W1651 (by decide) c_1595))
                        have t_1670 : (M1659.2.1 77 9).toInt = v1212.toInt := congrArg Int32.toInt c_1669
                        have c_1671 : M1659.2.1 77 10 = (N.2.1 77 7) := (W_n W1658 (by decide) (W_n W1651 (by decide) (W_n W1591 (by decide) (W_e W1231))))
                        have t_1672 : (M1659.2.1 77 10).toInt = (N.2.1 77 7).toInt := congrArg Int32.toInt c_1671
                        have z_1673 := (x_ts (t := t) (n := nn) (a := (N.2.1 77 7).toInt) (by omega) (by omega) (by omega)).2.2
                        have z_1674 := x_nx_b (t := t) (n := nn) (a := (N.2.1 77 7).toInt) (by omega) (by omega)
                        have z_1675 := x_R_s (t := t) (n := nn) (a := (N.2.1 77 7).toInt) (v := v1212.toInt) (by omega) (by omega) (by omega)
                        have z_1676 := z_1235
                        exact h M1659 hG1660 F1661 (by omega) (by omega) (by omega) (RS_m (a := (N.2.1 77 7).toInt) (kd := (4 : Int32).toInt) (wh := v1212.toInt) (by omega) (by omega) (by omega) (by omega) (by omega) (by omega) (by omega) (by omega) z_1675)
                      · refine to_an (pc := 317) rw_156_317 rfl (tt_gI (pc := 318) rw_156_318 (g_o hG1593 rfl) (v := v1212) c_1595 (to_c (pc := 321) rw_156_321 (x := (61 : Int32)) rfl rfl (b_cne (pc := 323) rw_156_323 (A := v1212.toInt) (B := 61) rfl rfl (fun h1677 => ?_) (fun h1677 => ?_))))
                        · refine to_c (pc := 330) rw_156_330 (x := (5 : Int32)) rfl rfl (s_pI (pc := 331) rw_156_331 hG1593 rfl (fun M1679 W1678 => ?_))
                          have hG1680 := g_w hG1593 W1678 (A := 5) rfl (lo := 0) (hi := 5) rfl rfl (by omega) (by decide)
                          have F1681 := FR.w F1594 W1678 (show 77 = 77 ∧ 7 ≤ 8 ∧ 8 ≤ 10 by decide)
                          refine to_an (pc := 334) rw_156_334 rfl (to_dupr (pc := 335) rw_156_335 ?_)
                          have c_1682 : M1679.2.1 77 7 = (N.2.1 77 7) := (W_n W1678 (by decide) (W_n W1591 (by decide) c_1236))
                          refine tt_gI (pc := 336) rw_156_336 (g_o hG1680 rfl) (v := (N.2.1 77 7)) c_1682 (to_c (pc := 339) rw_156_339 (x := (1 : Int32)) rfl rfl (s_add (pc := 340) rw_156_340 (A := (N.2.1 77 7).toInt) (B := 1) rfl rfl (by omega) (fun v1683 e1684 => s_pI (pc := 341) rw_156_341 hG1680 rfl (fun M1686 W1685 => ?_))))
                          have hG1687 := g_w hG1680 W1685 (A := v1683.toInt) rfl (lo := 0) (hi := 500) rfl rfl (by omega) (by decide)
                          have F1688 := FR.w F1681 W1685 (show 77 = 77 ∧ 7 ≤ 7 ∧ 7 ≤ 10 by decide)
                          refine to_rv (pc := 344) rw_156_344 ?_
                          have c_1689 : M1686.2.1 77 7 = v1683 := (W_e W1685)
                          have t_1690 : (M1686.2.1 77 7).toInt = v1683.toInt := congrArg Int32.toInt c_1689
                          have c_1691 : M1686.2.1 77 6 = (N.2.1 77 6) := (W_n W1685 (by decide) (W_n W1678 (by decide) (W_n W1591 (by decide) c_1238)))
                          have t_1692 : (M1686.2.1 77 6).toInt = (N.2.1 77 6).toInt := congrArg Int32.toInt c_1691
                          have c_1693 : M1686.2.1 77 8 = (5 : Int32) := (W_n W1685 (by decide) (W_e W1678))
                          have k_1694 : (5 : Int32).toInt = 5 := rfl
                          have t_1695 : (M1686.2.1 77 8).toInt = (5 : Int32).toInt := congrArg Int32.toInt c_1693
                          have c_1696 : M1686.2.1 77 9 = v1212 := (W_n W1685 (by decide) (W_n W1678 (by decide) c_1595))
                          have t_1697 : (M1686.2.1 77 9).toInt = v1212.toInt := congrArg Int32.toInt c_1696
                          have c_1698 : M1686.2.1 77 10 = (N.2.1 77 7) := (W_n W1685 (by decide) (W_n W1678 (by decide) (W_n W1591 (by decide) (W_e W1231))))
                          have t_1699 : (M1686.2.1 77 10).toInt = (N.2.1 77 7).toInt := congrArg Int32.toInt c_1698
                          have z_1700 := (x_ts (t := t) (n := nn) (a := (N.2.1 77 7).toInt) (by omega) (by omega) (by omega)).2.2
                          have z_1701 := x_nx_b (t := t) (n := nn) (a := (N.2.1 77 7).toInt) (by omega) (by omega)
                          have z_1702 := x_R_b (t := t) (n := nn) (a := (N.2.1 77 7).toInt) (w := v1212.toInt) (by omega) (by omega) (by omega) (by omega)
                          have z_1703 := z_1235
                          exact h M1686 hG1687 F1688 (by omega) (by omega) (by omega) (RS_m (a := (N.2.1 77 7).toInt) (kd := (5 : Int32).toInt) (wh := v1212.toInt) (by omega) (by omega) (by omega) (by omega) (by omega) (by omega) (by omega) (by omega) z_1702)
                        · refine to_c (pc := 326) rw_156_326 (x := (4 : Int32)) rfl rfl (to_go (pc := 327) rw_156_327 (s_pI (pc := 331) rw_156_331 hG1593 rfl (fun M1705 W1704 => ?_)))
                          have hG1706 := g_w hG1593 W1704 (A := 4) rfl (lo := 0) (hi := 5) rfl rfl (by omega) (by decide)
                          have F1707 := FR.w F1594 W1704 (show 77 = 77 ∧ 7 ≤ 8 ∧ 8 ≤ 10 by decide)
                          refine to_an (pc := 334) rw_156_334 rfl (to_dupr (pc := 335) rw_156_335 ?_)
                          have c_1708 : M1705.2.1 77 7 = (N.2.1 77 7) := (W_n W1704 (by decide) (W_n W1591 (by decide) c_1236))
                          refine tt_gI (pc := 336) rw_156_336 (g_o hG1706 rfl) (v := (N.2.1 77 7)) c_1708 (to_c (pc := 339) rw_156_339 (x := (1 : Int32)) rfl rfl (s_add (pc := 340) rw_156_340 (A := (N.2.1 77 7).toInt) (B := 1) rfl rfl (by omega) (fun v1709 e1710 => s_pI (pc := 341) rw_156_341 hG1706 rfl (fun M1712 W1711 => ?_))))
                          have hG1713 := g_w hG1706 W1711 (A := v1709.toInt) rfl (lo := 0) (hi := 500) rfl rfl (by omega) (by decide)
                          have F1714 := FR.w F1707 W1711 (show 77 = 77 ∧ 7 ≤ 7 ∧ 7 ≤ 10 by decide)
                          refine to_rv (pc := 344) rw_156_344 ?_
                          have c_1715 : M1712.2.1 77 7 = v1709 := (W_e W1711)
                          have t_1716 : (M1712.2.1 77 7).toInt = v1709.toInt := congrArg Int32.toInt c_1715
                          have c_1717 : M1712.2.1 77 6 = (N.2.1 77 6) := (W_n W1711 (by decide) (W_n W1704 (by decide) (W_n W1591 (by decide) c_1238)))
                          have t_1718 : (M1712.2.1 77 6).toInt = (N.2.1 77 6).toInt := congrArg Int32.toInt c_1717
                          have c_1719 : M1712.2.1 77 8 = (4 : Int32) := (W_n W1711 (by decide) (W_e W1704))
                          have k_1720 : (4 : Int32).toInt = 4 := rfl
                          have t_1721 : (M1712.2.1 77 8).toInt = (4 : Int32).toInt := congrArg Int32.toInt c_1719
                          have c_1722 : M1712.2.1 77 9 = v1212 := (W_n W1711 (by decide) (W_n W1704 (by decide) c_1595))
                          have t_1723 : (M1712.2.1 77 9).toInt = v1212.toInt := congrArg Int32.toInt c_1722
                          have c_1724 : M1712.2.1 77 10 = (N.2.1 77 7) := (W_n W1711 (by decide) (W_n W1704 (by decide) (W_n W1591 (by decide) (W_e W1231))))
                          have t_1725 : (M1712.2.1 77 10).toInt = (N.2.1 77 7).toInt := congrArg Int32.toInt c_1724
                          have z_1726 := (x_ts (t := t) (n := nn) (a := (N.2.1 77 7).toInt) (by omega) (by omega) (by omega)).2.2
                          have z_1727 := x_nx_b (t := t) (n := nn) (a := (N.2.1 77 7).toInt) (by omega) (by omega)
                          have z_1728 := x_R_s (t := t) (n := nn) (a := (N.2.1 77 7).toInt) (v := v1212.toInt) (by omega) (by omega) (by omega)
                          have z_1729 := z_1235
                          exact h M1712 hG1713 F1714 (by omega) (by omega) (by omega) (RS_m (a := (N.2.1 77 7).toInt) (kd := (4 : Int32).toInt) (wh := v1212.toInt) (by omega) (by omega) (by omega) (by omega) (by omega) (by omega) (by omega) (by omega) z_1728)
                · refine to_an (pc := 8) rw_155_8 rfl (s_gR (pc := 9) rw_155_9 hG1233 rfl (v := 78) rfl (to_in (pc := 12) rw_155_12 rfl (s_ialk (pc := 13) rw_155_13 hG1233 rfl (n := 500) rfl rfl (A := (N.2.1 77 7).toInt) rfl (by omega) (by omega) (v := v1212) (W_n W1231 (by omega) w_1213) (to_c (pc := 14) rw_155_14 (x := (48 : Int32)) rfl rfl (b_clt (pc := 16) rw_155_16 (A := v1212.toInt) (B := 48) rfl rfl (fun h1732 => ?_) (fun h1732 => ?_))))))
                  · refine to_c (pc := 34) rw_155_34 (x := (0 : Int32)) rfl rfl (s_r1 (pc := 35) rw_155_35 (A := 0) rfl (by decide) (b_ieq_t (pc := 199) rw_156_199 (A := 0) rfl (by decide) (to_an (pc := 276) rw_156_276 rfl (to_an (pc := 277) rw_156_277 rfl (s_gR (pc := 278) rw_156_278 hG1233 rfl (v := 78) rfl (to_an (pc := 281) rw_156_281 rfl (tt_gI (pc := 282) rw_156_282 (g_o hG1233 rfl) (v := (N.2.1 77 7)) c_1236 (s_ialk (pc := 285) rw_156_285 hG1233 rfl (n := 500) rfl rfl (A := (N.2.1 77 7).toInt) rfl (by omega) (by omega) (v := v1212) (W_n W1231 (by omega) w_1213) (s_pI (pc := 286) rw_156_286 hG1233 rfl (fun M1736 W1735 => ?_))))))))))
                    have hG1737 := g_wf hG1233 W1735 rfl rfl (by decide)
                    have F1738 := FR.w F1234 W1735 (show 77 = 77 ∧ 7 ≤ 9 ∧ 9 ≤ 10 by decide)
                    refine to_an (pc := 289) rw_156_289 rfl (to_an (pc := 290) rw_156_290 rfl ?_)
                    have c_1739 : M1736.2.1 77 9 = v1212 := (W_e W1735)
                    refine tt_gI (pc := 291) rw_156_291 (g_o hG1737 rfl) (v := v1212) c_1739 (to_c (pc := 294) rw_156_294 (x := (59 : Int32)) rfl rfl (b_ceq_f (pc := 296) rw_156_296 (A := v1212.toInt) (B := 59) rfl rfl (by omega) (to_an (pc := 299) rw_156_299 rfl (tt_gI (pc := 300) rw_156_300 (g_o hG1737 rfl) (v := v1212) c_1739 (to_c (pc := 303) rw_156_303 (x := (40 : Int32)) rfl rfl (b_ceq (pc := 305) rw_156_305 (A := v1212.toInt) (B := 40) rfl rfl (fun h1740 => ?_) (fun h1740 => ?_)))))))
                    · refine to_c (pc := 326) rw_156_326 (x := (4 : Int32)) rfl rfl (to_go (pc := 327) rw_156_327 (s_pI (pc := 331) rw_156_331 hG1737 rfl (fun M1742 W1741 => ?_)))
                      have hG1743 := g_w hG1737 W1741 (A := 4) rfl (lo := 0) (hi := 5) rfl rfl (by omega) (by decide)
                      have F1744 := FR.w F1738 W1741 (show 77 = 77 ∧ 7 ≤ 8 ∧ 8 ≤ 10 by decide)
                      refine to_an (pc := 334) rw_156_334 rfl (to_dupr (pc := 335) rw_156_335 ?_)
                      have c_1745 : M1742.2.1 77 7 = (N.2.1 77 7) := (W_n W1741 (by decide) (W_n W1735 (by decide) c_1236))
                      refine tt_gI (pc := 336) rw_156_336 (g_o hG1743 rfl) (v := (N.2.1 77 7)) c_1745 (to_c (pc := 339) rw_156_339 (x := (1 : Int32)) rfl rfl (s_add (pc := 340) rw_156_340 (A := (N.2.1 77 7).toInt) (B := 1) rfl rfl (by omega) (fun v1746 e1747 => s_pI (pc := 341) rw_156_341 hG1743 rfl (fun M1749 W1748 => ?_))))
                      have hG1750 := g_w hG1743 W1748 (A := v1746.toInt) rfl (lo := 0) (hi := 500) rfl rfl (by omega) (by decide)
                      have F1751 := FR.w F1744 W1748 (show 77 = 77 ∧ 7 ≤ 7 ∧ 7 ≤ 10 by decide)
                      refine to_rv (pc := 344) rw_156_344 ?_
                      have c_1752 : M1749.2.1 77 7 = v1746 := (W_e W1748)
                      have t_1753 : (M1749.2.1 77 7).toInt = v1746.toInt := congrArg Int32.toInt c_1752
                      have c_1754 : M1749.2.1 77 6 = (N.2.1 77 6) := (W_n W1748 (by decide) (W_n W1741 (by decide) (W_n W1735 (by decide) c_1238)))
                      have t_1755 : (M1749.2.1 77 6).toInt = (N.2.1 77 6).toInt := congrArg Int32.toInt c_1754
                      have c_1756 : M1749.2.1 77 8 = (4 : Int32) := (W_n W1748 (by decide) (W_e W1741))
                      have k_1757 : (4 : Int32).toInt = 4 := rfl
                      have t_1758 : (M1749.2.1 77 8).toInt = (4 : Int32).toInt := congrArg Int32.toInt c_1756
                      have c_1759 : M1749.2.1 77 9 = v1212 := (W_n W1748 (by decide) (W_n W1741 (by decide) c_1739))
                      have t_1760 : (M1749.2.1 77 9).toInt = v1212.toInt := congrArg Int32.toInt c_1759
                      have c_1761 : M1749.2.1 77 10 = (N.2.1 77 7) := (W_n W1748 (by decide) (W_n W1741 (by decide) (W_n W1735 (by decide) (W_e W1231))))
                      have t_1762 : (M1749.2.1 77 10).toInt = (N.2.1 77 7).toInt := congrArg Int32.toInt c_1761
                      have z_1763 := (x_ts (t := t) (n := nn) (a := (N.2.1 77 7).toInt) (by omega) (by omega) (by omega)).2.2
                      have z_1764 := x_nx_b (t := t) (n := nn) (a := (N.2.1 77 7).toInt) (by omega) (by omega)
                      have z_1765 := x_R_s (t := t) (n := nn) (a := (N.2.1 77 7).toInt) (v := v1212.toInt) (by omega) (by omega) (by omega)
                      have z_1766 := z_1235
                      exact h M1749 hG1750 F1751 (by omega) (by omega) (by omega) (RS_m (a := (N.2.1 77 7).toInt) (kd := (4 : Int32).toInt) (wh := v1212.toInt) (by omega) (by omega) (by omega) (by omega) (by omega) (by omega) (by omega) (by omega) z_1765)
                    · refine to_an (pc := 308) rw_156_308 rfl (tt_gI (pc := 309) rw_156_309 (g_o hG1737 rfl) (v := v1212) c_1739 (to_c (pc := 312) rw_156_312 (x := (41 : Int32)) rfl rfl (b_ceq (pc := 314) rw_156_314 (A := v1212.toInt) (B := 41) rfl rfl (fun h1767 => ?_) (fun h1767 => ?_))))
                      · refine to_c (pc := 326) rw_156_326 (x := (4 : Int32)) rfl rfl (to_go (pc := 327) rw_156_327 (s_pI (pc := 331) rw_156_331 hG1737 rfl (fun M1769 W1768 => ?_)))
                        have hG1770 := g_w hG1737 W1768 (A := 4) rfl (lo := 0) (hi := 5) rfl rfl (by omega) (by decide)
                        have F1771 := FR.w F1738 W1768 (show 77 = 77 ∧ 7 ≤ 8 ∧ 8 ≤ 10 by decide)
                        refine to_an (pc := 334) rw_156_334 rfl (to_dupr (pc := 335) rw_156_335 ?_)
                        have c_1772 : M1769.2.1 77 7 = (N.2.1 77 7) := (W_n W1768 (by decide) (W_n W1735 (by decide) c_1236))
                        refine tt_gI (pc := 336) rw_156_336 (g_o hG1770 rfl) (v := (N.2.1 77 7)) c_1772 (to_c (pc := 339) rw_156_339 (x := (1 : Int32)) rfl rfl (s_add (pc := 340) rw_156_340 (A := (N.2.1 77 7).toInt) (B := 1) rfl rfl (by omega) (fun v1773 e1774 => s_pI (pc := 341) rw_156_341 hG1770 rfl (fun M1776 W1775 => ?_))))
                        have hG1777 := g_w hG1770 W1775 (A := v1773.toInt) rfl (lo := 0) (hi := 500) rfl rfl (by omega) (by decide)
                        have F1778 := FR.w F1771 W1775 (show 77 = 77 ∧ 7 ≤ 7 ∧ 7 ≤ 10 by decide)
                        refine to_rv (pc := 344) rw_156_344 ?_
                        have c_1779 : M1776.2.1 77 7 = v1773 := (W_e W1775)
                        have t_1780 : (M1776.2.1 77 7).toInt = v1773.toInt := congrArg Int32.toInt c_1779
                        have c_1781 : M1776.2.1 77 6 = (N.2.1 77 6) := (W_n W1775 (by decide) (W_n W1768 (by decide) (W_n W1735 (by decide) c_1238)))
                        have t_1782 : (M1776.2.1 77 6).toInt = (N.2.1 77 6).toInt := congrArg Int32.toInt c_1781
                        have c_1783 : M1776.2.1 77 8 = (4 : Int32) := (W_n W1775 (by decide) (W_e W1768))
                        have k_1784 : (4 : Int32).toInt = 4 := rfl
                        have t_1785 : (M1776.2.1 77 8).toInt = (4 : Int32).toInt := congrArg Int32.toInt c_1783
                        have c_1786 : M1776.2.1 77 9 = v1212 := (W_n W1775 (by decide) (W_n W1768 (by decide) c_1739))
                        have t_1787 : (M1776.2.1 77 9).toInt = v1212.toInt := congrArg Int32.toInt c_1786
                        have c_1788 : M1776.2.1 77 10 = (N.2.1 77 7) := (W_n W1775 (by decide) (W_n W1768 (by decide) (W_n W1735 (by decide) (W_e W1231))))
                        have t_1789 : (M1776.2.1 77 10).toInt = (N.2.1 77 7).toInt := congrArg Int32.toInt c_1788
                        have z_1790 := (x_ts (t := t) (n := nn) (a := (N.2.1 77 7).toInt) (by omega) (by omega) (by omega)).2.2
                        have z_1791 := x_nx_b (t := t) (n := nn) (a := (N.2.1 77 7).toInt) (by omega) (by omega)
                        have z_1792 := x_R_s (t := t) (n := nn) (a := (N.2.1 77 7).toInt) (v := v1212.toInt) (by omega) (by omega) (by omega)
                        have z_1793 := z_1235
                        exact h M1776 hG1777 F1778 (by omega) (by omega) (by omega) (RS_m (a := (N.2.1 77 7).toInt) (kd := (4 : Int32).toInt) (wh := v1212.toInt) (by omega) (by omega) (by omega) (by omega) (by omega) (by omega) (by omega) (by omega) z_1792)
                      · refine to_an (pc := 317) rw_156_317 rfl (tt_gI (pc := 318) rw_156_318 (g_o hG1737 rfl) (v := v1212) c_1739 (to_c (pc := 321) rw_156_321 (x := (61 : Int32)) rfl rfl (b_cne_t (pc := 323) rw_156_323 (A := v1212.toInt) (B := 61) rfl rfl (by omega) (to_c (pc := 330) rw_156_330 (x := (5 : Int32)) rfl rfl (s_pI (pc := 331) rw_156_331 hG1737 rfl (fun M1795 W1794 => ?_))))))
                        have hG1796 := g_w hG1737 W1794 (A := 5) rfl (lo := 0) (hi := 5) rfl rfl (by omega) (by decide)
                        have F1797 := FR.w F1738 W1794 (show 77 = 77 ∧ 7 ≤ 8 ∧ 8 ≤ 10 by decide)
                        refine to_an (pc := 334) rw_156_334 rfl (to_dupr (pc := 335) rw_156_335 ?_)
                        have c_1798 : M1795.2.1 77 7 = (N.2.1 77 7) := (W_n W1794 (by decide) (W_n W1735 (by decide) c_1236))
                        refine tt_gI (pc := 336) rw_156_336 (g_o hG1796 rfl) (v := (N.2.1 77 7)) c_1798 (to_c (pc := 339) rw_156_339 (x := (1 : Int32)) rfl rfl (s_add (pc := 340) rw_156_340 (A := (N.2.1 77 7).toInt) (B := 1) rfl rfl (by omega) (fun v1799 e1800 => s_pI (pc := 341) rw_156_341 hG1796 rfl (fun M1802 W1801 => ?_))))
                        have hG1803 := g_w hG1796 W1801 (A := v1799.toInt) rfl (lo := 0) (hi := 500) rfl rfl (by omega) (by decide)
                        have F1804 := FR.w F1797 W1801 (show 77 = 77 ∧ 7 ≤ 7 ∧ 7 ≤ 10 by decide)
                        refine to_rv (pc := 344) rw_156_344 ?_
                        have c_1805 : M1802.2.1 77 7 = v1799 := (W_e W1801)
                        have t_1806 : (M1802.2.1 77 7).toInt = v1799.toInt := congrArg Int32.toInt c_1805
                        have c_1807 : M1802.2.1 77 6 = (N.2.1 77 6) := (W_n W1801 (by decide) (W_n W1794 (by decide) (W_n W1735 (by decide) c_1238)))
                        have t_1808 : (M1802.2.1 77 6).toInt = (N.2.1 77 6).toInt := congrArg Int32.toInt c_1807
                        have c_1809 : M1802.2.1 77 8 = (5 : Int32) := (W_n W1801 (by decide) (W_e W1794))
                        have k_1810 : (5 : Int32).toInt = 5 := rfl
                        have t_1811 : (M1802.2.1 77 8).toInt = (5 : Int32).toInt := congrArg Int32.toInt c_1809
                        have c_1812 : M1802.2.1 77 9 = v1212 := (W_n W1801 (by decide) (W_n W1794 (by decide) c_1739))
                        have t_1813 : (M1802.2.1 77 9).toInt = v1212.toInt := congrArg Int32.toInt c_1812
                        have c_1814 : M1802.2.1 77 10 = (N.2.1 77 7) := (W_n W1801 (by decide) (W_n W1794 (by decide) (W_n W1735 (by decide) (W_e W1231))))
                        have t_1815 : (M1802.2.1 77 10).toInt = (N.2.1 77 7).toInt := congrArg Int32.toInt c_1814
                        have z_1816 := (x_ts (t := t) (n := nn) (a := (N.2.1 77 7).toInt) (by omega) (by omega) (by omega)).2.2
                        have z_1817 := x_nx_b (t := t) (n := nn) (a := (N.2.1 77 7).toInt) (by omega) (by omega)
                        have z_1818 := x_R_b (t := t) (n := nn) (a := (N.2.1 77 7).toInt) (w := v1212.toInt) (by omega) (by omega) (by omega) (by omega)
                        have z_1819 := z_1235
                        exact h M1802 hG1803 F1804 (by omega) (by omega) (by omega) (RS_m (a := (N.2.1 77 7).toInt) (kd := (5 : Int32).toInt) (wh := v1212.toInt) (by omega) (by omega) (by omega) (by omega) (by omega) (by omega) (by omega) (by omega) z_1818)
                  · refine to_an (pc := 19) rw_155_19 rfl (s_gR (pc := 20) rw_155_20 hG1233 rfl (v := 78) rfl (to_in (pc := 23) rw_155_23 rfl (s_ialk (pc := 24) rw_155_24 hG1233 rfl (n := 500) rfl rfl (A := (N.2.1 77 7).toInt) rfl (by omega) (by omega) (v := v1212) (W_n W1231 (by omega) w_1213) (to_c (pc := 25) rw_155_25 (x := (57 : Int32)) rfl rfl (b_cgt (pc := 27) rw_155_27 (A := v1212.toInt) (B := 57) rfl rfl (fun h1822 => ?_) (fun h1822 => ?_))))))
                    · refine to_c (pc := 34) rw_155_34 (x := (0 : Int32)) rfl rfl (s_r1 (pc := 35) rw_155_35 (A := 0) rfl (by decide) (b_ieq_t (pc := 199) rw_156_199 (A := 0) rfl (by decide) (to_an (pc := 276) rw_156_276 rfl (to_an (pc := 277) rw_156_277 rfl (s_gR (pc := 278) rw_156_278 hG1233 rfl (v := 78) rfl (to_an (pc := 281) rw_156_281 rfl (tt_gI (pc := 282) rw_156_282 (g_o hG1233 rfl) (v := (N.2.1 77 7)) c_1236 (s_ialk (pc := 285) rw_156_285 hG1233 rfl (n := 500) rfl rfl (A := (N.2.1 77 7).toInt) rfl (by omega) (by omega) (v := v1212) (W_n W1231 (by omega) w_1213) (s_pI (pc := 286) rw_156_286 hG1233 rfl (fun M1826 W1825 => ?_))))))))))
                      have hG1827 := g_wf hG1233 W1825 rfl rfl (by decide)
                      have F1828 := FR.w F1234 W1825 (show 77 = 77 ∧ 7 ≤ 9 ∧ 9 ≤ 10 by decide)
                      refine to_an (pc := 289) rw_156_289 rfl (to_an (pc := 290) rw_156_290 rfl ?_)
                      have c_1829 : M1826.2.1 77 9 = v1212 := (W_e W1825)
                      refine tt_gI (pc := 291) rw_156_291 (g_o hG1827 rfl) (v := v1212) c_1829 (to_c (pc := 294) rw_156_294 (x := (59 : Int32)) rfl rfl (b_ceq (pc := 296) rw_156_296 (A := v1212.toInt) (B := 59) rfl rfl (fun h1830 => ?_) (fun h1830 => ?_)))
                      · refine to_c (pc := 326) rw_156_326 (x := (4 : Int32)) rfl rfl (to_go (pc := 327) rw_156_327 (s_pI (pc := 331) rw_156_331 hG1827 rfl (fun M1832 W1831 => ?_)))
                        have hG1833 := g_w hG1827 W1831 (A := 4) rfl (lo := 0) (hi := 5) rfl rfl (by omega) (by decide)
                        have F1834 := FR.w F1828 W1831 (show 77 = 77 ∧ 7 ≤ 8 ∧ 8 ≤ 10 by decide)
                        refine to_an (pc := 334) rw_156_334 rfl (to_dupr (pc := 335) rw_156_335 ?_)
                        have c_1835 : M1832.2.1 77 7 = (N.2.1 77 7) := (W_n W1831 (by decide) (W_n W1825 (by decide) c_1236))
                        refine tt_gI (pc := 336) rw_156_336 (g_o hG1833 rfl) (v := (N.2.1 77 7)) c_1835 (to_c (pc := 339) rw_156_339 (x := (1 : Int32)) rfl rfl (s_add (pc := 340) rw_156_340 (A := (N.2.1 77 7).toInt) (B := 1) rfl rfl (by omega) (fun v1836 e1837 => s_pI (pc := 341) rw_156_341 hG1833 rfl (fun M1839 W1838 => ?_))))
                        have hG1840 := g_w hG1833 W1838 (A := v1836.toInt) rfl (lo := 0) (hi := 500) rfl rfl (by omega) (by decide)
                        have F1841 := FR.w F1834 W1838 (show 77 = 77 ∧ 7 ≤ 7 ∧ 7 ≤ 10 by decide)
                        refine to_rv (pc := 344) rw_156_344 ?_
                        have c_1842 : M1839.2.1 77 7 = v1836 := (W_e W1838)
                        have t_1843 : (M1839.2.1 77 7).toInt = v1836.toInt := congrArg Int32.toInt c_1842
                        have c_1844 : M1839.2.1 77 6 = (N.2.1 77 6) := (W_n W1838 (by decide) (W_n W1831 (by decide) (W_n W1825 (by decide) c_1238)))
                        have t_1845 : (M1839.2.1 77 6).toInt = (N.2.1 77 6).toInt := congrArg Int32.toInt c_1844
                        have c_1846 : M1839.2.1 77 8 = (4 : Int32) := (W_n W1838 (by decide) (W_e W1831))
                        have k_1847 : (4 : Int32).toInt = 4 := rfl
                        have t_1848 : (M1839.2.1 77 8).toInt = (4 : Int32).toInt := congrArg Int32.toInt c_1846
                        have c_1849 : M1839.2.1 77 9 = v1212 := (W_n W1838 (by decide) (W_n W1831 (by decide) c_1829))
                        have t_1850 : (M1839.2.1 77 9).toInt = v1212.toInt := congrArg Int32.toInt c_1849
                        have c_1851 : M1839.2.1 77 10 = (N.2.1 77 7) := (W_n W1838 (by decide) (W_n W1831 (by decide) (W_n W1825 (by decide) (W_e W1231))))
                        have t_1852 : (M1839.2.1 77 10).toInt = (N.2.1 77 7).toInt := congrArg Int32.toInt c_1851
                        have z_1853 := (x_ts (t := t) (n := nn) (a := (N.2.1 77 7).toInt) (by omega) (by omega) (by omega)).2.2
                        have z_1854 := x_nx_b (t := t) (n := nn) (a := (N.2.1 77 7).toInt) (by omega) (by omega)
                        have z_1855 := x_R_s (t := t) (n := nn) (a := (N.2.1 77 7).toInt) (v := v1212.toInt) (by omega) (by omega) (by omega)
                        have z_1856 := z_1235
                        exact h M1839 hG1840 F1841 (by omega) (by omega) (by omega) (RS_m (a := (N.2.1 77 7).toInt) (kd := (4 : Int32).toInt) (wh := v1212.toInt) (by omega) (by omega) (by omega) (by omega) (by omega) (by omega) (by omega) (by omega) z_1855)
                      · refine to_an (pc := 299) rw_156_299 rfl (tt_gI (pc := 300) rw_156_300 (g_o hG1827 rfl) (v := v1212) c_1829 (to_c (pc := 303) rw_156_303 (x := (40 : Int32)) rfl rfl (b_ceq_f (pc := 305) rw_156_305 (A := v1212.toInt) (B := 40) rfl rfl (by omega) (to_an (pc := 308) rw_156_308 rfl (tt_gI (pc := 309) rw_156_309 (g_o hG1827 rfl) (v := v1212) c_1829 (to_c (pc := 312) rw_156_312 (x := (41 : Int32)) rfl rfl (b_ceq_f (pc := 314) rw_156_314 (A := v1212.toInt) (B := 41) rfl rfl (by omega) (to_an (pc := 317) rw_156_317 rfl (tt_gI (pc := 318) rw_156_318 (g_o hG1827 rfl) (v := v1212) c_1829 (to_c (pc := 321) rw_156_321 (x := (61 : Int32)) rfl rfl (b_cne (pc := 323) rw_156_323 (A := v1212.toInt) (B := 61) rfl rfl (fun h1857 => ?_) (fun h1857 => ?_))))))))))))
                        · refine to_c (pc := 330) rw_156_330 (x := (5 : Int32)) rfl rfl (s_pI (pc := 331) rw_156_331 hG1827 rfl (fun M1859 W1858 => ?_))
                          have hG1860 := g_w hG1827 W1858 (A := 5) rfl (lo := 0) (hi := 5) rfl rfl (by omega) (by decide)
                          have F1861 := FR.w F1828 W1858 (show 77 = 77 ∧ 7 ≤ 8 ∧ 8 ≤ 10 by decide)
                          refine to_an (pc := 334) rw_156_334 rfl (to_dupr (pc := 335) rw_156_335 ?_)
                          have c_1862 : M1859.2.1 77 7 = (N.2.1 77 7) := (W_n W1858 (by decide) (W_n W1825 (by decide) c_1236))
                          refine tt_gI (pc := 336) rw_156_336 (g_o hG1860 rfl) (v := (N.2.1 77 7)) c_1862 (to_c (pc := 339) rw_156_339 (x := (1 : Int32)) rfl rfl (s_add (pc := 340) rw_156_340 (A := (N.2.1 77 7).toInt) (B := 1) rfl rfl (by omega) (fun v1863 e1864 => s_pI (pc := 341) rw_156_341 hG1860 rfl (fun M1866 W1865 => ?_))))
                          have hG1867 := g_w hG1860 W1865 (A := v1863.toInt) rfl (lo := 0) (hi := 500) rfl rfl (by omega) (by decide)
                          have F1868 := FR.w F1861 W1865 (show 77 = 77 ∧ 7 ≤ 7 ∧ 7 ≤ 10 by decide)
                          refine to_rv (pc := 344) rw_156_344 ?_
                          have c_1869 : M1866.2.1 77 7 = v1863 := (W_e W1865)
                          have t_1870 : (M1866.2.1 77 7).toInt = v1863.toInt := congrArg Int32.toInt c_1869
                          have c_1871 : M1866.2.1 77 6 = (N.2.1 77 6) := (W_n W1865 (by decide) (W_n W1858 (by decide) (W_n W1825 (by decide) c_1238)))
                          have t_1872 : (M1866.2.1 77 6).toInt = (N.2.1 77 6).toInt := congrArg Int32.toInt c_1871
                          have c_1873 : M1866.2.1 77 8 = (5 : Int32) := (W_n W1865 (by decide) (W_e W1858))
                          have k_1874 : (5 : Int32).toInt = 5 := rfl
                          have t_1875 : (M1866.2.1 77 8).toInt = (5 : Int32).toInt := congrArg Int32.toInt c_1873
                          have c_1876 : M1866.2.1 77 9 = v1212 := (W_n W1865 (by decide) (W_n W1858 (by decide) c_1829))
                          have t_1877 : (M1866.2.1 77 9).toInt = v1212.toInt := congrArg Int32.toInt c_1876
                          have c_1878 : M1866.2.1 77 10 = (N.2.1 77 7) := (W_n W1865 (by decide) (W_n W1858 (by decide) (W_n W1825 (by decide) (W_e W1231))))
                          have t_1879 : (M1866.2.1 77 10).toInt = (N.2.1 77 7).toInt := congrArg Int32.toInt c_1878
                          have z_1880 := (x_ts (t := t) (n := nn) (a := (N.2.1 77 7).toInt) (by omega) (by omega) (by omega)).2.2
                          have z_1881 := x_nx_b (t := t) (n := nn) (a := (N.2.1 77 7).toInt) (by omega) (by omega)
                          have z_1882 := x_R_b (t := t) (n := nn) (a := (N.2.1 77 7).toInt) (w := v1212.toInt) (by omega) (by omega) (by omega) (by omega)
                          have z_1883 := z_1235
                          exact h M1866 hG1867 F1868 (by omega) (by omega) (by omega) (RS_m (a := (N.2.1 77 7).toInt) (kd := (5 : Int32).toInt) (wh := v1212.toInt) (by omega) (by omega) (by omega) (by omega) (by omega) (by omega) (by omega) (by omega) z_1882)
                        · refine to_c (pc := 326) rw_156_326 (x := (4 : Int32)) rfl rfl (to_go (pc := 327) rw_156_327 (s_pI (pc := 331) rw_156_331 hG1827 rfl (fun M1885 W1884 => ?_)))
                          have hG1886 := g_w hG1827 W1884 (A := 4) rfl (lo := 0) (hi := 5) rfl rfl (by omega) (by decide)
                          have F1887 := FR.w F1828 W1884 (show 77 = 77 ∧ 7 ≤ 8 ∧ 8 ≤ 10 by decide)
                          refine to_an (pc := 334) rw_156_334 rfl (to_dupr (pc := 335) rw_156_335 ?_)
                          have c_1888 : M1885.2.1 77 7 = (N.2.1 77 7) := (W_n W1884 (by decide) (W_n W1825 (by decide) c_1236))
                          refine tt_gI (pc := 336) rw_156_336 (g_o hG1886 rfl) (v := (N.2.1 77 7)) c_1888 (to_c (pc := 339) rw_156_339 (x := (1 : Int32)) rfl rfl (s_add (pc := 340) rw_156_340 (A := (N.2.1 77 7).toInt) (B := 1) rfl rfl (by omega) (fun v1889 e1890 => s_pI (pc := 341) rw_156_341 hG1886 rfl (fun M1892 W1891 => ?_))))
                          have hG1893 := g_w hG1886 W1891 (A := v1889.toInt) rfl (lo := 0) (hi := 500) rfl rfl (by omega) (by decide)
                          have F1894 := FR.w F1887 W1891 (show 77 = 77 ∧ 7 ≤ 7 ∧ 7 ≤ 10 by decide)
                          refine to_rv (pc := 344) rw_156_344 ?_
                          have c_1895 : M1892.2.1 77 7 = v1889 := (W_e W1891)
                          have t_1896 : (M1892.2.1 77 7).toInt = v1889.toInt := congrArg Int32.toInt c_1895
                          have c_1897 : M1892.2.1 77 6 = (N.2.1 77 6) := (W_n W1891 (by decide) (W_n W1884 (by decide) (W_n W1825 (by decide) c_1238)))
                          have t_1898 : (M1892.2.1 77 6).toInt = (N.2.1 77 6).toInt := congrArg Int32.toInt c_1897
                          have c_1899 : M1892.2.1 77 8 = (4 : Int32) := (W_n W1891 (by decide) (W_e W1884))
                          have k_1900 : (4 : Int32).toInt = 4 := rfl
                          have t_1901 : (M1892.2.1 77 8).toInt = (4 : Int32).toInt := congrArg Int32.toInt c_1899
                          have c_1902 : M1892.2.1 77 9 = v1212 := (W_n W1891 (by decide) (W_n W1884 (by decide) c_1829))
                          have t_1903 : (M1892.2.1 77 9).toInt = v1212.toInt := congrArg Int32.toInt c_1902
                          have c_1904 : M1892.2.1 77 10 = (N.2.1 77 7) := (W_n W1891 (by decide) (W_n W1884 (by decide) (W_n W1825 (by decide) (W_e W1231))))
                          have t_1905 : (M1892.2.1 77 10).toInt = (N.2.1 77 7).toInt := congrArg Int32.toInt c_1904
                          have z_1906 := (x_ts (t := t) (n := nn) (a := (N.2.1 77 7).toInt) (by omega) (by omega) (by omega)).2.2
                          have z_1907 := x_nx_b (t := t) (n := nn) (a := (N.2.1 77 7).toInt) (by omega) (by omega)
                          have z_1908 := x_R_s (t := t) (n := nn) (a := (N.2.1 77 7).toInt) (v := v1212.toInt) (by omega) (by omega) (by omega)
                          have z_1909 := z_1235
                          exact h M1892 hG1893 F1894 (by omega) (by omega) (by omega) (RS_m (a := (N.2.1 77 7).toInt) (kd := (4 : Int32).toInt) (wh := v1212.toInt) (by omega) (by omega) (by omega) (by omega) (by omega) (by omega) (by omega) (by omega) z_1908)
                    · refine to_c (pc := 30) rw_155_30 (x := (1 : Int32)) rfl rfl (to_go (pc := 31) rw_155_31 (s_r1 (pc := 35) rw_155_35 (A := 1) rfl (by decide) (b_ieq_f (pc := 199) rw_156_199 (A := 1) rfl (by decide) (to_an (pc := 202) rw_156_202 rfl (to_c (pc := 203) rw_156_203 (x := (3 : Int32)) rfl rfl (s_pI (pc := 204) rw_156_204 hG1233 rfl (fun M1911 W1910 => ?_)))))))
                      have hG1912 := g_w hG1233 W1910 (A := 3) rfl (lo := 0) (hi := 5) rfl rfl (by omega) (by decide)
                      have F1913 := FR.w F1234 W1910 (show 77 = 77 ∧ 7 ≤ 8 ∧ 8 ≤ 10 by decide)
                      refine to_an (pc := 207) rw_156_207 rfl (to_c (pc := 208) rw_156_208 (x := (0 : Int32)) rfl rfl (s_pI (pc := 209) rw_156_209 hG1912 rfl (fun M1915 W1914 => ?_)))
                      have hG1916 := g_wf hG1912 W1914 rfl rfl (by decide)
                      have F1917 := FR.w F1913 W1914 (show 77 = 77 ∧ 7 ≤ 9 ∧ 9 ≤ 10 by decide)
                      have c_1918 : M1915.2.1 77 7 = (N.2.1 77 7) := (W_n W1914 (by decide) (W_n W1910 (by decide) c_1236))
                      have t_1919 : (M1915.2.1 77 7).toInt = (N.2.1 77 7).toInt := congrArg Int32.toInt c_1918
                      have c_1920 : M1915.2.1 77 6 = (N.2.1 77 6) := (W_n W1914 (by decide) (W_n W1910 (by decide) c_1238))
                      have t_1921 : (M1915.2.1 77 6).toInt = (N.2.1 77 6).toInt := congrArg Int32.toInt c_1920
                      have c_1922 : M1915.2.1 77 10 = (N.2.1 77 7) := (W_n W1914 (by decide) (W_n W1910 (by decide) (W_e W1231)))
                      have t_1923 : (M1915.2.1 77 10).toInt = (N.2.1 77 7).toInt := congrArg Int32.toInt c_1922
                      have c_1924 : M1915.2.1 77 8 = (3 : Int32) := (W_n W1914 (by decide) (W_e W1910))
                      have k_1925 : (3 : Int32).toInt = 3 := rfl
                      have t_1926 : (M1915.2.1 77 8).toInt = (3 : Int32).toInt := congrArg Int32.toInt c_1924
                      have c_1927 : M1915.2.1 77 9 = (0 : Int32) := (W_e W1914)
                      have k_1928 : (0 : Int32).toInt = 0 := rfl
                      have t_1929 : (M1915.2.1 77 9).toInt = (0 : Int32).toInt := congrArg Int32.toInt c_1927
                      have j_1930 := (TR_f (fun a i z => W_n W1914 (tg_13 a i z) rfl) (TR_f (fun a i z => W_n W1910 (tg_16 a i z) rfl) (TR_f (fun a i z => W_n W1231 (tg_17 a i z) rfl) g7)))
                      have j_1931 := (W9_f (fun a i z => W_n W1914 (tg_15 a i z) rfl) (W9_f (fun a i z => W_n W1910 (tg_18 a i z) rfl) (W9_f (fun a i z => W_n W1231 (tg_19 a i z) rfl) g8)))
                      exact (U_156_0 (t := t) (nn := nn) hX hd q1 q2 q3 q4 q5 q6 h ((500 - (M1915.2.1 77 7).toInt).toNat + 1)) M1915  hG1916 F1917 (by omega) (by omega) (by omega) (by omega) (by rw [show (M1915.2.1 77 10).toInt = (N.2.1 77 7).toInt by omega]; omega) (by omega) (by omega) (by omega) (by omega) (by rw [show (M1915.2.1 77 9).toInt = 0 by omega, show (M1915.2.1 77 7).toInt = (M1915.2.1 77 10).toInt by omega]; rfl) (congrArg (x_end x_dg t nn) (show (M1915.2.1 77 7).toInt = (M1915.2.1 77 10).toInt by omega)) (by omega) (by omega) (by omega) j_1930 j_1931 (by omega)
              · refine to_an (pc := 19) rw_154_19 rfl (s_gR (pc := 20) rw_154_20 hG1233 rfl (v := 78) rfl (to_in (pc := 23) rw_154_23 rfl (s_ialk (pc := 24) rw_154_24 hG1233 rfl (n := 500) rfl rfl (A := (N.2.1 77 7).toInt) rfl (by omega) (by omega) (v := v1212) (W_n W1231 (by omega) w_1213) (to_c (pc := 25) rw_154_25 (x := (122 : Int32)) rfl rfl (b_cgt (pc := 27) rw_154_27 (A := v1212.toInt) (B := 122) rfl rfl (fun h1934 => ?_) (fun h1934 => ?_))))))
                · refine to_c (pc := 34) rw_154_34 (x := (0 : Int32)) rfl rfl (s_r1 (pc := 35) rw_154_35 (A := 0) rfl (by decide) (b_ieq_t (pc := 87) rw_156_87 (A := 0) rfl (by decide) (to_an (pc := 191) rw_156_191 rfl (to_an (pc := 192) rw_156_192 rfl (tt_gI (pc := 193) rw_156_193 (g_o hG1233 rfl) (v := (N.2.1 77 7)) c_1236 (s_v (pc := 196) rw_156_196 (dp0 hd (by decide)) (ls0 := [.ref 77, .int (N.2.1 77 7)]) rfl (Nat.le_of_ble_eq_true rfl) (Nat.le_of_ble_eq_true rfl) rfl (to_rc rfl rfl rfl (g_o hG1233 rfl)) rfl (to_in (pc := 0) rw_155_0 rfl (to_an (pc := 1) rw_155_1 rfl (tt_gI (pc := 2) rw_155_2 (g_o hG1233 rfl) (v := (N.2.1 77 6)) c_1238 (b_cge (pc := 5) rw_155_5 (A := (N.2.1 77 7).toInt) (B := (N.2.1 77 6).toInt) rfl rfl (fun h1935 => ?_) (fun h1935 => ?_)))))))))))
                  · refine to_c (pc := 34) rw_155_34 (x := (0 : Int32)) rfl rfl (s_r1 (pc := 35) rw_155_35 (A := 0) rfl (by decide) (b_ieq_t (pc := 199) rw_156_199 (A := 0) rfl (by decide) (to_an (pc := 276) rw_156_276 rfl (to_an (pc := 277) rw_156_277 rfl (s_gR (pc := 278) rw_156_278 hG1233 rfl (v := 78) rfl (to_an (pc := 281) rw_156_281 rfl (tt_gI (pc := 282) rw_156_282 (g_o hG1233 rfl) (v := (N.2.1 77 7)) c_1236 (s_ialk (pc := 285) rw_156_285 hG1233 rfl (n := 500) rfl rfl (A := (N.2.1 77 7).toInt) rfl (by omega) (by omega) (v := v1212) (W_n W1231 (by omega) w_1213) (s_pI (pc := 286) rw_156_286 hG1233 rfl (fun M1939 W1938 => ?_))))))))))
                    have hG1940 := g_wf hG1233 W1938 rfl rfl (by decide)
                    have F1941 := FR.w F1234 W1938 (show 77 = 77 ∧ 7 ≤ 9 ∧ 9 ≤ 10 by decide)
                    refine to_an (pc := 289) rw_156_289 rfl (to_an (pc := 290) rw_156_290 rfl ?_)
                    have c_1942 : M1939.2.1 77 9 = v1212 := (W_e W1938)
                    refine tt_gI (pc := 291) rw_156_291 (g_o hG1940 rfl) (v := v1212) c_1942 (to_c (pc := 294) rw_156_294 (x := (59 : Int32)) rfl rfl (b_ceq_f (pc := 296) rw_156_296 (A := v1212.toInt) (B := 59) rfl rfl (by omega) (to_an (pc := 299) rw_156_299 rfl (tt_gI (pc := 300) rw_156_300 (g_o hG1940 rfl) (v := v1212) c_1942 (to_c (pc := 303) rw_156_303 (x := (40 : Int32)) rfl rfl (b_ceq_f (pc := 305) rw_156_305 (A := v1212.toInt) (B := 40) rfl rfl (by omega) (to_an (pc := 308) rw_156_308 rfl (tt_gI (pc := 309) rw_156_309 (g_o hG1940 rfl) (v := v1212) c_1942 (to_c (pc := 312) rw_156_312 (x := (41 : Int32)) rfl rfl (b_ceq_f (pc := 314) rw_156_314 (A := v1212.toInt) (B := 41) rfl rfl (by omega) (to_an (pc := 317) rw_156_317 rfl ?_)))))))))))
                    refine tt_gI (pc := 318) rw_156_318 (g_o hG1940 rfl) (v := v1212) c_1942 (to_c (pc := 321) rw_156_321 (x := (61 : Int32)) rfl rfl (b_cne_t (pc := 323) rw_156_323 (A := v1212.toInt) (B := 61) rfl rfl (by omega) (to_c (pc := 330) rw_156_330 (x := (5 : Int32)) rfl rfl (s_pI (pc := 331) rw_156_331 hG1940 rfl (fun M1944 W1943 => ?_)))))
                    have hG1945 := g_w hG1940 W1943 (A := 5) rfl (lo := 0) (hi := 5) rfl rfl (by omega) (by decide)
                    have F1946 := FR.w F1941 W1943 (show 77 = 77 ∧ 7 ≤ 8 ∧ 8 ≤ 10 by decide)
                    refine to_an (pc := 334) rw_156_334 rfl (to_dupr (pc := 335) rw_156_335 ?_)
                    have c_1947 : M1944.2.1 77 7 = (N.2.1 77 7) := (W_n W1943 (by decide) (W_n W1938 (by decide) c_1236))
                    refine tt_gI (pc := 336) rw_156_336 (g_o hG1945 rfl) (v := (N.2.1 77 7)) c_1947 (to_c (pc := 339) rw_156_339 (x := (1 : Int32)) rfl rfl (s_add (pc := 340) rw_156_340 (A := (N.2.1 77 7).toInt) (B := 1) rfl rfl (by omega) (fun v1948 e1949 => s_pI (pc := 341) rw_156_341 hG1945 rfl (fun M1951 W1950 => ?_))))
                    have hG1952 := g_w hG1945 W1950 (A := v1948.toInt) rfl (lo := 0) (hi := 500) rfl rfl (by omega) (by decide)
                    have F1953 := FR.w F1946 W1950 (show 77 = 77 ∧ 7 ≤ 7 ∧ 7 ≤ 10 by decide)
                    refine to_rv (pc := 344) rw_156_344 ?_
                    have c_1954 : M1951.2.1 77 7 = v1948 := (W_e W1950)
                    have t_1955 : (M1951.2.1 77 7).toInt = v1948.toInt := congrArg Int32.toInt c_1954
                    have c_1956 : M1951.2.1 77 6 = (N.2.1 77 6) := (W_n W1950 (by decide) (W_n W1943 (by decide) (W_n W1938 (by decide) c_1238)))
                    have t_1957 : (M1951.2.1 77 6).toInt = (N.2.1 77 6).toInt := congrArg Int32.toInt c_1956
                    have c_1958 : M1951.2.1 77 8 = (5 : Int32) := (W_n W1950 (by decide) (W_e W1943))
                    have k_1959 : (5 : Int32).toInt = 5 := rfl
                    have t_1960 : (M1951.2.1 77 8).toInt = (5 : Int32).toInt := congrArg Int32.toInt c_1958
                    have c_1961 : M1951.2.1 77 9 = v1212 := (W_n W1950 (by decide) (W_n W1943 (by decide) c_1942))
                    have t_1962 : (M1951.2.1 77 9).toInt = v1212.toInt := congrArg Int32.toInt c_1961
                    have c_1963 : M1951.2.1 77 10 = (N.2.1 77 7) := (W_n W1950 (by decide) (W_n W1943 (by decide) (W_n W1938 (by decide) (W_e W1231))))
                    have t_1964 : (M1951.2.1 77 10).toInt = (N.2.1 77 7).toInt := congrArg Int32.toInt c_1963
                    have z_1965 := (x_ts (t := t) (n := nn) (a := (N.2.1 77 7).toInt) (by omega) (by omega) (by omega)).2.2
                    have z_1966 := x_nx_b (t := t) (n := nn) (a := (N.2.1 77 7).toInt) (by omega) (by omega)
                    have z_1967 := x_R_b (t := t) (n := nn) (a := (N.2.1 77 7).toInt) (w := v1212.toInt) (by omega) (by omega) (by omega) (by omega)
                    have z_1968 := z_1235
                    exact h M1951 hG1952 F1953 (by omega) (by omega) (by omega) (RS_m (a := (N.2.1 77 7).toInt) (kd := (5 : Int32).toInt) (wh := v1212.toInt) (by omega) (by omega) (by omega) (by omega) (by omega) (by omega) (by omega) (by omega) z_1967)
                  · refine to_an (pc := 8) rw_155_8 rfl (s_gR (pc := 9) rw_155_9 hG1233 rfl (v := 78) rfl (to_in (pc := 12) rw_155_12 rfl (s_ialk (pc := 13) rw_155_13 hG1233 rfl (n := 500) rfl rfl (A := (N.2.1 77 7).toInt) rfl (by omega) (by omega) (v := v1212) (W_n W1231 (by omega) w_1213) (to_c (pc := 14) rw_155_14 (x := (48 : Int32)) rfl rfl (b_clt_f (pc := 16) rw_155_16 (A := v1212.toInt) (B := 48) rfl rfl (by omega) (to_an (pc := 19) rw_155_19 rfl (s_gR (pc := 20) rw_155_20 hG1233 rfl (v := 78) rfl (to_in (pc := 23) rw_155_23 rfl (s_ialk (pc := 24) rw_155_24 hG1233 rfl (n := 500) rfl rfl (A := (N.2.1 77 7).toInt) rfl (by omega) (by omega) (v := v1212) (W_n W1231 (by omega) w_1213) (to_c (pc := 25) rw_155_25 (x := (57 : Int32)) rfl rfl (b_cgt_t (pc := 27) rw_155_27 (A := v1212.toInt) (B := 57) rfl rfl (by omega) ?_)))))))))))
                    refine to_c (pc := 34) rw_155_34 (x := (0 : Int32)) rfl rfl (s_r1 (pc := 35) rw_155_35 (A := 0) rfl (by decide) (b_ieq_t (pc := 199) rw_156_199 (A := 0) rfl (by decide) (to_an (pc := 276) rw_156_276 rfl (to_an (pc := 277) rw_156_277 rfl (s_gR (pc := 278) rw_156_278 hG1233 rfl (v := 78) rfl (to_an (pc := 281) rw_156_281 rfl (tt_gI (pc := 282) rw_156_282 (g_o hG1233 rfl) (v := (N.2.1 77 7)) c_1236 (s_ialk (pc := 285) rw_156_285 hG1233 rfl (n := 500) rfl rfl (A := (N.2.1 77 7).toInt) rfl (by omega) (by omega) (v := v1212) (W_n W1231 (by omega) w_1213) (s_pI (pc := 286) rw_156_286 hG1233 rfl (fun M1976 W1975 => ?_))))))))))
                    have hG1977 := g_wf hG1233 W1975 rfl rfl (by decide)
                    have F1978 := FR.w F1234 W1975 (show 77 = 77 ∧ 7 ≤ 9 ∧ 9 ≤ 10 by decide)
                    refine to_an (pc := 289) rw_156_289 rfl (to_an (pc := 290) rw_156_290 rfl ?_)
                    have c_1979 : M1976.2.1 77 9 = v1212 := (W_e W1975)
                    refine tt_gI (pc := 291) rw_156_291 (g_o hG1977 rfl) (v := v1212) c_1979 (to_c (pc := 294) rw_156_294 (x := (59 : Int32)) rfl rfl (b_ceq_f (pc := 296) rw_156_296 (A := v1212.toInt) (B := 59) rfl rfl (by omega) (to_an (pc := 299) rw_156_299 rfl (tt_gI (pc := 300) rw_156_300 (g_o hG1977 rfl) (v := v1212) c_1979 (to_c (pc := 303) rw_156_303 (x := (40 : Int32)) rfl rfl (b_ceq_f (pc := 305) rw_156_305 (A := v1212.toInt) (B := 40) rfl rfl (by omega) (to_an (pc := 308) rw_156_308 rfl (tt_gI (pc := 309) rw_156_309 (g_o hG1977 rfl) (v := v1212) c_1979 (to_c (pc := 312) rw_156_312 (x := (41 : Int32)) rfl rfl (b_ceq_f (pc := 314) rw_156_314 (A := v1212.toInt) (B := 41) rfl rfl (by omega) (to_an (pc := 317) rw_156_317 rfl ?_)))))))))))
                    refine tt_gI (pc := 318) rw_156_318 (g_o hG1977 rfl) (v := v1212) c_1979 (to_c (pc := 321) rw_156_321 (x := (61 : Int32)) rfl rfl (b_cne_t (pc := 323) rw_156_323 (A := v1212.toInt) (B := 61) rfl rfl (by omega) (to_c (pc := 330) rw_156_330 (x := (5 : Int32)) rfl rfl (s_pI (pc := 331) rw_156_331 hG1977 rfl (fun M1981 W1980 => ?_)))))
                    have hG1982 := g_w hG1977 W1980 (A := 5) rfl (lo := 0) (hi := 5) rfl rfl (by omega) (by decide)
                    have F1983 := FR.w F1978 W1980 (show 77 = 77 ∧ 7 ≤ 8 ∧ 8 ≤ 10 by decide)
                    refine to_an (pc := 334) rw_156_334 rfl (to_dupr (pc := 335) rw_156_335 ?_)
                    have c_1984 : M1981.2.1 77 7 = (N.2.1 77 7) := (W_n W1980 (by decide) (W_n W1975 (by decide) c_1236))
                    refine tt_gI (pc := 336) rw_156_336 (g_o hG1982 rfl) (v := (N.2.1 77 7)) c_1984 (to_c (pc := 339) rw_156_339 (x := (1 : Int32)) rfl rfl (s_add (pc := 340) rw_156_340 (A := (N.2.1 77 7).toInt) (B := 1) rfl rfl (by omega) (fun v1985 e1986 => s_pI (pc := 341) rw_156_341 hG1982 rfl (fun M1988 W1987 => ?_))))
                    have hG1989 := g_w hG1982 W1987 (A := v1985.toInt) rfl (lo := 0) (hi := 500) rfl rfl (by omega) (by decide)
                    have F1990 := FR.w F1983 W1987 (show 77 = 77 ∧ 7 ≤ 7 ∧ 7 ≤ 10 by decide)
                    refine to_rv (pc := 344) rw_156_344 ?_
                    have c_1991 : M1988.2.1 77 7 = v1985 := (W_e W1987)
                    have t_1992 : (M1988.2.1 77 7).toInt = v1985.toInt := congrArg Int32.toInt c_1991
                    have c_1993 : M1988.2.1 77 6 = (N.2.1 77 6) := (W_n W1987 (by decide) (W_n W1980 (by decide) (W_n W1975 (by decide) c_1238)))
                    have t_1994 : (M1988.2.1 77 6).toInt = (N.2.1 77 6).toInt := congrArg Int32.toInt c_1993
                    have c_1995 : M1988.2.1 77 8 = (5 : Int32) := (W_n W1987 (by decide) (W_e W1980))
                    have k_1996 : (5 : Int32).toInt = 5 := rfl
                    have t_1997 : (M1988.2.1 77 8).toInt = (5 : Int32).toInt := congrArg Int32.toInt c_1995
                    have c_1998 : M1988.2.1 77 9 = v1212 := (W_n W1987 (by decide) (W_n W1980 (by decide) c_1979))
                    have t_1999 : (M1988.2.1 77 9).toInt = v1212.toInt := congrArg Int32.toInt c_1998
                    have c_2000 : M1988.2.1 77 10 = (N.2.1 77 7) := (W_n W1987 (by decide) (W_n W1980 (by decide) (W_n W1975 (by decide) (W_e W1231))))
                    have t_2001 : (M1988.2.1 77 10).toInt = (N.2.1 77 7).toInt := congrArg Int32.toInt c_2000
                    have z_2002 := (x_ts (t := t) (n := nn) (a := (N.2.1 77 7).toInt) (by omega) (by omega) (by omega)).2.2
                    have z_2003 := x_nx_b (t := t) (n := nn) (a := (N.2.1 77 7).toInt) (by omega) (by omega)
                    have z_2004 := x_R_b (t := t) (n := nn) (a := (N.2.1 77 7).toInt) (w := v1212.toInt) (by omega) (by omega) (by omega) (by omega)
                    have z_2005 := z_1235
                    exact h M1988 hG1989 F1990 (by omega) (by omega) (by omega) (RS_m (a := (N.2.1 77 7).toInt) (kd := (5 : Int32).toInt) (wh := v1212.toInt) (by omega) (by omega) (by omega) (by omega) (by omega) (by omega) (by omega) (by omega) z_2004)
                · refine to_c (pc := 30) rw_154_30 (x := (1 : Int32)) rfl rfl (to_go (pc := 31) rw_154_31 (s_r1 (pc := 35) rw_154_35 (A := 1) rfl (by decide) (b_ieq_f (pc := 87) rw_156_87 (A := 1) rfl (by decide) ?_)))
                  have t_2006 : (M1232.2.1 77 6).toInt = (N.2.1 77 6).toInt := congrArg Int32.toInt c_1238
                  have c_2007 : M1232.2.1 77 10 = (N.2.1 77 7) := (W_e W1231)
                  have t_2008 : (M1232.2.1 77 10).toInt = (N.2.1 77 7).toInt := congrArg Int32.toInt c_2007
                  have j_2009 := (TR_f (fun a i z => W_n W1231 (tg_17 a i z) rfl) g7)
                  have j_2010 := (W9_f (fun a i z => W_n W1231 (tg_19 a i z) rfl) g8)
                  exact (U_156_1 (t := t) (nn := nn) hX hd q1 q2 q3 q4 q5 q6 h ((500 - (M1232.2.1 77 7).toInt).toNat + 1)) M1232  hG1233 F1234 (by omega) (by omega) (by omega) (by omega) (by rw [show (M1232.2.1 77 10).toInt = (N.2.1 77 7).toInt by omega]; omega) (by omega) (congrArg (x_e t nn) (show (M1232.2.1 77 7).toInt = (M1232.2.1 77 10).toInt by omega)) (fun i hi => by exfalso; omega) (by omega) (by omega) (by omega) j_2009 j_2010 (by omega)
          · refine to_an (pc := 71) rw_156_71 rfl (to_c (pc := 72) rw_156_72 (x := (0 : Int32)) rfl rfl (s_pI (pc := 73) rw_156_73 hG1233 rfl (fun M2012 W2011 => ?_)))
            have hG2013 := g_w hG1233 W2011 (A := 0) rfl (lo := 0) (hi := 5) rfl rfl (by omega) (by decide)
            have F2014 := FR.w F1234 W2011 (show 77 = 77 ∧ 7 ≤ 8 ∧ 8 ≤ 10 by decide)
            refine to_go (pc := 76) rw_156_76 (to_rv (pc := 344) rw_156_344 ?_)
            have c_2015 : M2012.2.1 77 7 = (N.2.1 77 7) := (W_n W2011 (by decide) c_1236)
            have t_2016 : (M2012.2.1 77 7).toInt = (N.2.1 77 7).toInt := congrArg Int32.toInt c_2015
            have c_2017 : M2012.2.1 77 6 = (N.2.1 77 6) := (W_n W2011 (by decide) c_1238)
            have t_2018 : (M2012.2.1 77 6).toInt = (N.2.1 77 6).toInt := congrArg Int32.toInt c_2017
            have c_2019 : M2012.2.1 77 8 = (0 : Int32) := (W_e W2011)
            have k_2020 : (0 : Int32).toInt = 0 := rfl
            have t_2021 : (M2012.2.1 77 8).toInt = (0 : Int32).toInt := congrArg Int32.toInt c_2019
            have c_2022 : M2012.2.1 77 9 = (N.2.1 77 9) := (W_n W2011 (by decide) (W_n W1231 (by decide) rfl))
            have t_2023 : (M2012.2.1 77 9).toInt = (N.2.1 77 9).toInt := congrArg Int32.toInt c_2022
            have c_2024 : M2012.2.1 77 10 = (N.2.1 77 7) := (W_n W2011 (by decide) (W_e W1231))
            have t_2025 : (M2012.2.1 77 10).toInt = (N.2.1 77 7).toInt := congrArg Int32.toInt c_2024
            have z_2026 := (x_t0 (t := t) (n := nn) (a := (N.2.1 77 7).toInt) (by omega)).2
            have z_2027 := x_nx_b (t := t) (n := nn) (a := (N.2.1 77 7).toInt) (by omega) (by omega)
            have z_2028 := x_R_0 (t := t) (n := nn) (a := (N.2.1 77 7).toInt) (w := (N.2.1 77 9).toInt) (by omega)
            have z_2029 := z_1235
            exact h M2012 hG2013 F2014 (by omega) (by omega) (by omega) (RS_m (a := (N.2.1 77 7).toInt) (kd := (0 : Int32).toInt) (wh := (N.2.1 77 9).toInt) (by omega) (by omega) (by omega) (by omega) (by omega) (by omega) (by omega) (by omega) z_2028)
        · refine to_an (pc := 39) rw_156_39 rfl (to_dupr (pc := 40) rw_156_40 (tt_gI (pc := 41) rw_156_41 (g_o hG rfl) (v := (N.2.1 77 7)) rfl (to_c (pc := 44) rw_156_44 (x := (1 : Int32)) rfl rfl (s_add (pc := 45) rw_156_45 (A := (N.2.1 77 7).toInt) (B := 1) rfl rfl (by omega) (fun v2030 e2031 => s_pI (pc := 46) rw_156_46 hG rfl (fun M2033 W2032 => ?_))))))
          have hG2034 := g_w hG W2032 (A := v2030.toInt) rfl (lo := 0) (hi := 500) rfl rfl (by omega) (by decide)
          have F2035 := FR.w F0 W2032 (show 77 = 77 ∧ 7 ≤ 7 ∧ 7 ≤ 10 by decide)
          refine to_go (pc := 49) rw_156_49 ?_
          have c_2036 : M2033.2.1 77 7 = v2030 := (W_e W2032)
          have t_2037 : (M2033.2.1 77 7).toInt = v2030.toInt := congrArg Int32.toInt c_2036
          have c_2038 : M2033.2.1 77 6 = (N.2.1 77 6) := (W_n W2032 (by decide) rfl)
          have t_2039 : (M2033.2.1 77 6).toInt = (N.2.1 77 6).toInt := congrArg Int32.toInt c_2038
          have j_2040 := (TR_f (fun a i z => W_n W2032 (tg_12 a i z) rfl) g7)
          have j_2041 := (W9_f (fun a i z => W_n W2032 (tg_14 a i z) rfl) g8)
          exact ih M2033  hG2034 F2035 (by omega) (by omega) (x_sk_e (x := (N.2.1 77 7).toInt) (by omega) (by omega) (by omega) (by omega) g3) (by omega) (by omega) (by omega) j_2040 j_2041 (by omega)
set_option maxRecDepth 4000 in
set_option maxHeartbeats 0 in
theorem E_156 {X : mm_X} {d : Nat} {M : mm_M} {Q : Option Value → mm_M → Prop} {t : Nat → Int} {nn : Int} (hX : g_X X) (hd : 1 ≤ d) (hG : g_G M) (q1 : (M.2.1 77 7).toInt ≤ (M.2.1 77 6).toInt) (q2 : (M.2.1 77 6).toInt = nn) (q3 : 0 ≤ nn) (q4 : nn ≤ 500) (q5 : TR M t nn) (q6 : W9 M) (h : ∀ (M1 : mm_M), g_G M1 → FR md_tk M M1 → ((M1.2.1 77 7).toInt ≤ (M1.2.1 77 6).toInt) → ((M.2.1 77 7).toInt ≤ (M1.2.1 77 7).toInt) → ((M1.2.1 77 8).toInt = 0 ∨ (M.2.1 77 7).toInt < (M1.2.1 77 7).toInt) → (RS M1 t nn ∧ (M1.2.1 77 10).toInt = x_sk t nn (M.2.1 77 7).toInt) → Q (none) M1) : mm_T X d 155 0 [.ref 77] [] M Q := by
  have F0 : FR md_tk M M := FR.rf
  have b_2042 := g_b hG (a := 77) (i := 7) (lo := 0) (hi := 500) rfl rfl
  have b_2043 := g_b hG (a := 77) (i := 6) (lo := 0) (hi := 500) rfl rfl
  exact (U_156_2 (t := t) (nn := nn) hX hd q1 q2 q3 q4 q5 q6 h ((500 - (M.2.1 77 7).toInt).toNat + 1)) M  hG F0 (by omega) (by omega) rfl (by omega) (by omega) (by omega) q5 q6 (by omega)
set_option maxRecDepth 4000 in
set_option maxHeartbeats 0 in
theorem E_163 {X : mm_X} {d : Nat} {M : mm_M} {Q : Option Value → mm_M → Prop} {n : Int32} {t : Nat → Int} {nn : Int} (hX : g_X X) (hd : 2 ≤ d) (hG : g_G M) (q1 : (M.2.1 77 7).toInt ≤ (M.2.1 77 6).toInt) (q2 : 0 ≤ n.toInt ∧ n.toInt ≤ (M.2.1 77 1).toInt → n.toInt = nn) (q3 : TR M t nn) (q4 : W9 M) (h : ∀ (r : Int32) (M1 : mm_M), g_G M1 → FR md_bn M M1 → (0 ≤ r.toInt) → (r.toInt ≤ 1) → ((M1.2.1 77 7).toInt ≤ (M1.2.1 77 6).toInt) → (n.toInt < 0 ∨ (M.2.1 77 1).toInt < n.toInt → (M1.2.1 77 1).toInt = (M.2.1 77 1).toInt ∧ r.toInt = 0) → (0 ≤ n.toInt ∧ n.toInt ≤ (M.2.1 77 1).toInt → (M1.2.1 77 1).toInt = 0 ∧ r.toInt = 1) → ((r.toInt = 1 → RS M1 t nn ∧ (M1.2.1 77 10).toInt = x_sk t nn 0)) → Q (some (.int r)) M1) : mm_T X d 162 0 [.ref 77, .int n] [] M Q := by
  have F0 : FR md_bn M M := FR.rf
  have b_1 := g_b hG (a := 77) (i := 7) (lo := 0) (hi := 500) rfl rfl
  have b_2 := g_b hG (a := 77) (i := 6) (lo := 0) (hi := 500) rfl rfl
  have b_3 := g_b hG (a := 77) (i := 1) (lo := 0) (hi := 500) rfl rfl
  refine to_in (pc := 0) rw_163_0 rfl (b_ilt (pc := 1) rw_163_1 (A := n.toInt) rfl (fun h4 => ?_) (fun h4 => ?_))
  · refine to_c (pc := 12) rw_163_12 (x := (0 : Int32)) rfl rfl (s_r1 (pc := 13) rw_163_13 (A := 0) rfl (by decide) ?_)
    have k_5 : (0 : Int32).toInt = 0 := rfl
    exact h (0 : Int32) M hG F0 (by decide) (by decide) (by omega) (by omega) (by omega) (fun z => absurd z (by decide))
  · refine to_in (pc := 4) rw_163_4 rfl (to_an (pc := 5) rw_163_5 rfl (tt_gI (pc := 6) rw_163_6 (g_o hG rfl) (v := (M.2.1 77 1)) rfl (b_cle (pc := 9) rw_163_9 (A := n.toInt) (B := (M.2.1 77 1).toInt) rfl rfl (fun h6 => ?_) (fun h6 => ?_))))
    · refine to_an (pc := 14) rw_163_14 rfl (to_in (pc := 15) rw_163_15 rfl (s_pI (pc := 16) rw_163_16 hG rfl (fun M8 W7 => ?_)))
      have hG9 := g_w hG W7 (A := n.toInt) rfl (lo := 0) (hi := 500) rfl rfl (by omega) (by decide)
      have F10 := FR.w F0 W7 (show 77 = 77 ∧ (6 = 1 ∨ 4 ≤ 6 ∧ 6 ≤ 10) by decide)
      refine to_an (pc := 19) rw_163_19 rfl (to_c (pc := 20) rw_163_20 (x := (0 : Int32)) rfl rfl (s_pI (pc := 21) rw_163_21 hG9 rfl (fun M12 W11 => ?_)))
      have hG13 := g_w hG9 W11 (A := 0) rfl (lo := 0) (hi := 500) rfl rfl (by omega) (by decide)
      have F14 := FR.w F10 W11 (show 77 = 77 ∧ (1 = 1 ∨ 4 ≤ 1 ∧ 1 ≤ 10) by decide)
      refine to_an (pc := 24) rw_163_24 rfl (to_c (pc := 25) rw_163_25 (x := (0 : Int32)) rfl rfl (s_pI (pc := 26) rw_163_26 hG13 rfl (fun M16 W15 => ?_)))
      have hG17 := g_wf hG13 W15 rfl rfl (by decide)
      have F18 := FR.w F14 W15 (show 77 = 77 ∧ (4 = 1 ∨ 4 ≤ 4 ∧ 4 ≤ 10) by decide)
      refine to_an (pc := 29) rw_163_29 rfl (to_c (pc := 30) rw_163_30 (x := (-1 : Int32)) rfl rfl (s_pI (pc := 31) rw_163_31 hG17 rfl (fun M20 W19 => ?_)))
      have hG21 := g_wf hG17 W19 rfl rfl (by decide)
      have F22 := FR.w F18 W19 (show 77 = 77 ∧ (5 = 1 ∨ 4 ≤ 5 ∧ 5 ≤ 10) by decide)
      refine to_an (pc := 34) rw_163_34 rfl (to_c (pc := 35) rw_163_35 (x := (0 : Int32)) rfl rfl (s_pI (pc := 36) rw_163_36 hG21 rfl (fun M24 W23 => ?_)))
      have hG25 := g_w hG21 W23 (A := 0) rfl (lo := 0) (hi := 500) rfl rfl (by omega) (by decide)
      have F26 := FR.w F22 W23 (show 77 = 77 ∧ (7 = 1 ∨ 4 ≤ 7 ∧ 7 ≤ 10) by decide)
      refine to_an (pc := 39) rw_163_39 rfl (s_v (pc := 40) rw_163_40 (dp0 hd (by decide)) (ls0 := [.ref 77]) rfl (Nat.le_of_ble_eq_true rfl) (Nat.le_of_ble_eq_true rfl) rfl (to_rc rfl rfl rfl (g_o hG25 rfl)) rfl ?_)
      have c_27 : M24.2.1 77 7 = (0 : Int32) := (W_e W23)
      have k_28 : (0 : Int32).toInt = 0 := rfl
      have t_29 : (M24.2.1 77 7).toInt = (0 : Int32).toInt := congrArg Int32.toInt c_27
      have c_30 : M24.2.1 77 6 = n := (W_n W23 (by decide) (W_n W19 (by decide) (W_n W15 (by decide) (W_n W11 (by decide) (W_e W7)))))
      have t_31 : (M24.2.1 77 6).toInt = n.toInt := congrArg Int32.toInt c_30
      have j_32 := (TR_f (fun a i z => W_n W23 (tg_12 a i z) rfl) (TR_f (fun a i z => W_n W19 (tg_20 a i z) rfl) (TR_f (fun a i z => W_n W15 (tg_21 a i z) rfl) (TR_f (fun a i z => W_n W11 (tg_22 a i z) rfl) (TR_f (fun a i z => W_n W7 (tg_23 a i z) rfl) q3)))))
      have j_33 := (W9_f (fun a i z => W_n W23 (tg_14 a i z) rfl) (W9_f (fun a i z => W_n W19 (tg_24 a i z) rfl) (W9_f (fun a i z => W_n W15 (tg_25 a i z) rfl) (W9_f (fun a i z => W_n W11 (tg_26 a i z) rfl) (W9_f (fun a i z => W_n W7 (tg_27 a i z) rfl) q4)))))
      refine E_156 hX (dp1 hd (by decide)) hG25 (by omega) (by omega) (by omega) (by omega) j_32 j_33  (fun M40 hG35 F34 p_36 p_37 p_38 p_39 => ?_)
      have F41 := FR.c F26 F34 tg_11
      have b_42 := g_b hG35 (a := 77) (i := 7) (lo := 0) (hi := 500) rfl rfl
      have c_43 : M40.2.1 77 6 = n := (F_n F34 (show ¬ (77 = 77 ∧ 7 ≤ 6 ∧ 6 ≤ 10) by decide) c_30)
      have t_44 : (M40.2.1 77 6).toInt = n.toInt := congrArg Int32.toInt c_43
      have b_45 := g_b hG35 (a := 77) (i := 8) (lo := 0) (hi := 5) rfl rfl
      refine to_c (pc := 43) rw_163_43 (x := (1 : Int32)) rfl rfl (s_r1 (pc := 44) rw_163_44 (A := 1) rfl (by decide) ?_)
      have k_46 : (1 : Int32).toInt = 1 := rfl
      have c_47 : M40.2.1 77 1 = (0 : Int32) := (F_n F34 (show ¬ (77 = 77 ∧ 7 ≤ 1 ∧ 1 ≤ 10) by decide) (W_n W23 (by decide) (W_n W19 (by decide) (W_n W15 (by decide) (W_e W11)))))
      have t_48 : (M40.2.1 77 1).toInt = (0 : Int32).toInt := congrArg Int32.toInt c_47
      exact h (1 : Int32) M40 hG35 F41 (by decide) (by decide) (by omega) (by omega) (by omega) (fun _ => ⟨p_39.1, p_39.2.trans (congrArg (x_sk t nn) (by omega))⟩)
    · refine to_c (pc := 12) rw_163_12 (x := (0 : Int32)) rfl rfl (s_r1 (pc := 13) rw_163_13 (A := 0) rfl (by decide) ?_)
      have k_49 : (0 : Int32).toInt = 0 := rfl
      exact h (0 : Int32) M hG F0 (by decide) (by decide) (by omega) (by omega) (by omega) (fun z => absurd z (by decide))
