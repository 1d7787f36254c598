theorem tg_58 : ∀ a i : Nat, (a = 77 ∧ 7 ≤ i ∧ i ≤ 10) → (a = 77 ∧ (i = 4 ∨ i = 5 ∨ 7 ≤ i ∧ i ≤ 10 ∨ i = 16) ∨ 85 ≤ a ∧ a ≤ 87 ∧ 12 ≤ i) := fun a i z => by omega
theorem tg_59 : ∀ a i : Nat, (a < 0) → (a = 77 ∧ (i = 4 ∨ i = 5 ∨ 7 ≤ i ∧ i ≤ 10 ∨ i = 16) ∨ 85 ≤ a ∧ a ≤ 87 ∧ 12 ≤ i) := fun a i z => by omega
theorem tg_60 : ∀ a i : Nat, (a = 77 ∧ (i = 4 ∨ i = 5)) → (a = 77 ∧ (i = 4 ∨ i = 5 ∨ 7 ≤ i ∧ i ≤ 10 ∨ i = 16) ∨ 85 ≤ a ∧ a ≤ 87 ∧ 12 ≤ i) := fun a i z => by omega
theorem tg_61 : ∀ a i : Nat, (a = 77 ∧ 6 ≤ i ∧ i ≤ 10) → ¬ (a = 77 ∧ i = 16) := fun a i z => by omega
theorem tg_62 : ∀ a i j : Nat, (a = 77 ∧ 6 ≤ i ∧ i ≤ 10) → ¬ (a = 86 ∧ i = j) := fun a i j z => by omega
theorem tg_63 : ∀ a i j : Nat, (a = 77 ∧ 6 ≤ i ∧ i ≤ 10) → ¬ (a = 85 ∧ i = j) := fun a i j z => by omega
set_option maxRecDepth 4000 in
set_option maxHeartbeats 0 in
theorem U_171_0 {X : mm_X} {d : Nat} {M : mm_M} {Q : Option Value → mm_M → Prop} {t : Nat → Int} {nn : Int} {a : Int} {sg : x_S} {k : x_K} (hX : g_X X) (hd : 3 ≤ d) (q1 : RS M t nn) (q2 : (M.2.1 77 10).toInt = a) (q3 : 0 ≤ nn) (q4 : nn ≤ 500) (q5 : TR M t nn) (q6 : W9 M) (q7 : PLr M sg) (q8 : CWr M sg) (h : ∀ (r : Int32) (M1 : mm_M), g_G M1 → FR md_w171 M M1 → (0 ≤ r.toInt) → (r.toInt ≤ 1) → RS M1 t nn → ((r.toInt = 0 → x_word t nn sg a (x_ns t nn a) k = (Sum.inl ((M1.2.1 77 4).toInt, (M1.2.1 77 5).toInt) : x_Res))) → ((r.toInt = 1 → WOr t nn (x_word t nn sg a (x_ns t nn a) k) k M1 sg)) → (r.toInt = 1 → (M1.2.1 77 4).toInt = (M.2.1 77 4).toInt ∧ (M1.2.1 77 5).toInt = (M.2.1 77 5).toInt) → Q (some (.int r)) M1) : ∀ nn9 : Nat, (∀ (N : mm_M) (x1 : Int32) (x2 : Int32) (x3 : Int32) (y4 : Int64), g_G N → FR md_w171 M N → (0 ≤ x1.toInt) → (x1.toInt ≤ 7) → (x1.toInt < sg.2.1) → (x_row sg 2 x1.toInt = 3) → ((N.2.1 77 16).toInt ≤ 11) → (0 ≤ x3.toInt) → (x3.toInt ≤ 4) → (x3.toInt ≤ x_row sg 5 x1.toInt) → (0 ≤ nn) → (nn ≤ 500) → (RS N t nn) → (TR N t nn) → (W9 N) → (PLr N sg) → (CWr N sg) → (x_rc t nn sg x1.toInt x2.toInt k (6 - x3.toInt).toNat x3.toInt y4 (N.2.1 77 10).toInt = x_word t nn sg a (x_ns t nn a) k) → ((N.2.1 77 4).toInt = (M.2.1 77 4).toInt ∧ (N.2.1 77 5).toInt = (M.2.1 77 5).toInt) → ((x3.toInt = 0 → x_kind t nn (N.2.1 77 10).toInt = 3)) → 10 - x3.toInt < (nn9 : Int) → mm_T X d 170 106 [.ref 77, .int x1, .int x2, .int x3, .long y4, .null] [] N Q) := by
  intro nn9
  induction nn9 with
  | zero =>
    intro N x1 x2 x3 y4 hG F0 g1 g2 g3 g4 g5 g6 g7 g8 g9 g10 g11 g12 g13 g14 g15 g16 g17 g18 hm
    have b_1 := g_b hG (a := 77) (i := 16) (lo := 0) (hi := 12) rfl rfl
    exfalso; omega
  | succ nn9 ih =>
    intro N x1 x2 x3 y4 hG F0 g1 g2 g3 g4 g5 g6 g7 g8 g9 g10 g11 g12 g13 g14 g15 g16 g17 g18 hm
    have b_2 := g_b hG (a := 77) (i := 16) (lo := 0) (hi := 12) rfl rfl
    have z_3 := g14.2.1
    have z_4 := g14.2.2.1
    have z_5 := g14.2.2.2.1
    have z_6 := g14.1
    have z_7 := z_6.1
    have z_8 := z_6.2.1
    have z_9 := z_6.2.2.1
    have z_10 := z_6.2.2.2.1
    have z_11 := z_6.2.2.2.2.1
    have z_12 := z_6.2.2.2.2.2.1
    have b_13 := g_b hG (a := 77) (i := 14) (lo := 10) (hi := 60) rfl rfl
    have b_14 := g_b hG (a := 77) (i := 15) (lo := 0) (hi := 8) rfl rfl
    have z_15 := g14.1.2.2.2.2.2.2.2 x1.toInt (by (first | (clear g18; omega) | omega)) (by (first | (clear g18; omega) | omega))
    have b_16 := g_b hG (a := 77) (i := 8) (lo := 0) (hi := 5) rfl rfl
    have b_17 := g_b hG (a := 77) (i := 10) (lo := 0) (hi := 500) rfl rfl
    have c_18 := RS_u g11 (a := (N.2.1 77 10).toInt) (by (first | (clear g18; omega) | omega))
    unfold x_R at c_18
    refine to_an (pc := 106) rw_171_106 rfl (tt_gI (pc := 107) rw_171_107 (g_o hG rfl) (v := (N.2.1 77 8)) rfl (to_c (pc := 110) rw_171_110 (x := (3 : Int32)) rfl rfl (b_cne (pc := 111) rw_171_111 (A := (N.2.1 77 8).toInt) (B := 3) rfl rfl (fun h19 => ?_) (fun h19 => ?_))))
    · refine to_an (pc := 218) rw_171_218 rfl (to_c (pc := 219) rw_171_219 (x := (59 : Int32)) rfl rfl (s_v (pc := 221) rw_171_221 (dp0 hd (by decide)) (ls0 := [.ref 77, .int (59 : Int32)]) rfl (Nat.le_of_ble_eq_true rfl) (Nat.le_of_ble_eq_true rfl) rfl (to_rc rfl rfl rfl (g_o hG rfl)) rfl (to_an (pc := 0) rw_159_0 rfl (tt_gI (pc := 1) rw_159_1 (g_o hG rfl) (v := (N.2.1 77 8)) rfl (to_c (pc := 4) rw_159_4 (x := (4 : Int32)) rfl rfl (b_cne (pc := 5) rw_159_5 (A := (N.2.1 77 8).toInt) (B := 4) rfl rfl (fun h20 => ?_) (fun h20 => ?_)))))))
      · refine to_c (pc := 20) rw_159_20 (x := (0 : Int32)) rfl rfl (s_r1 (pc := 21) rw_159_21 (A := 0) rfl (by decide) (b_ieq_t (pc := 224) rw_171_224 (A := 0) rfl (by decide) (to_an (pc := 246) rw_171_246 rfl (s_gR (pc := 247) rw_171_247 hG rfl (v := 85) rfl (to_c (pc := 250) rw_171_250 (x := (12 : Int32)) rfl rfl (to_an (pc := 252) rw_171_252 rfl (tt_gI (pc := 253) rw_171_253 (g_o hG rfl) (v := (N.2.1 77 16)) rfl (s_add (pc := 256) rw_171_256 (A := 12) (B := (N.2.1 77 16).toInt) rfl rfl (by (first | (clear g18 h19 h20; omega) | (clear g18 h19; omega) | omega)) (fun v21 e22 => to_in (pc := 257) rw_171_257 rfl (s_ias (pc := 258) rw_171_258 hG rfl (n := 24) rfl (A := v21.toInt) rfl (by (first | (clear g18 h19 h20; omega) | (clear g18 h19; omega) | omega)) (by (first | (clear g18 h19 h20; omega) | (clear g18 h19; omega) | omega)) (fun M24 W23 => ?_)))))))))))
        have hG25 := g_wf hG W23 rfl rfl (by decide)
        have F26 := FR.w F0 W23 (show 85 = 77 ∧ ((v21.toInt).toNat = 4 ∨ (v21.toInt).toNat = 5 ∨ 7 ≤ (v21.toInt).toNat ∧ (v21.toInt).toNat ≤ 10 ∨ (v21.toInt).toNat = 16) ∨ 85 ≤ 85 ∧ 85 ≤ 87 ∧ 12 ≤ (v21.toInt).toNat by (first | (clear g18 h19 h20; omega) | (clear g18 h19; omega) | omega))
        refine to_an (pc := 259) rw_171_259 rfl (s_gR (pc := 260) rw_171_260 hG25 rfl (v := 86) rfl (to_c (pc := 263) rw_171_263 (x := (12 : Int32)) rfl rfl (to_an (pc := 265) rw_171_265 rfl ?_)))
        have c_27 : M24.2.1 77 16 = (N.2.1 77 16) := (W_n W23 (fun z => absurd z.1 (by decide)) rfl)
        refine tt_gI (pc := 266) rw_171_266 (g_o hG25 rfl) (v := (N.2.1 77 16)) c_27 (s_add (pc := 269) rw_171_269 (A := 12) (B := (N.2.1 77 16).toInt) rfl rfl (by (first | (clear g18 h19 h20; omega) | (clear g18 h19; omega) | omega)) (fun v28 e29 => to_in (pc := 270) rw_171_270 rfl (s_ias (pc := 271) rw_171_271 hG25 rfl (n := 24) rfl (A := v28.toInt) rfl (by (first | (clear g18 h19 h20; omega) | (clear g18 h19; omega) | omega)) (by (first | (clear g18 h19 h20; omega) | (clear g18 h19; omega) | omega)) (fun M31 W30 => ?_))))
        have hG32 := g_w hG25 W30 (A := x1.toInt) rfl (lo := 0) (hi := 7) rfl rfl (by (first | (clear g18 h19 h20; omega) | (clear g18 h19; omega) | omega)) (by decide)
        have F33 := FR.w F26 W30 (show 86 = 77 ∧ ((v28.toInt).toNat = 4 ∨ (v28.toInt).toNat = 5 ∨ 7 ≤ (v28.toInt).toNat ∧ (v28.toInt).toNat ≤ 10 ∨ (v28.toInt).toNat = 16) ∨ 85 ≤ 86 ∧ 86 ≤ 87 ∧ 12 ≤ (v28.toInt).toNat by (first | (clear g18 h19 h20; omega) | (clear g18 h19; omega) | omega))
        refine to_an (pc := 272) rw_171_272 rfl (s_gR (pc := 273) rw_171_273 hG32 rfl (v := 87) rfl (to_c (pc := 276) rw_171_276 (x := (12 : Int32)) rfl rfl (to_an (pc := 278) rw_171_278 rfl ?_)))
        have c_34 : M31.2.1 77 16 = (N.2.1 77 16) := (W_n W30 (fun z => absurd z.1 (by decide)) c_27)
        refine tt_gI (pc := 279) rw_171_279 (g_o hG32 rfl) (v := (N.2.1 77 16)) c_34 (s_add (pc := 282) rw_171_282 (A := 12) (B := (N.2.1 77 16).toInt) rfl rfl (by (first | (clear g18 h19 h20; omega) | (clear g18 h19; omega) | omega)) (fun v35 e36 => to_l (pc := 283) rw_171_283 rfl rfl rfl (s_las (pc := 285) rw_171_285 hG32 rfl (n := 24) rfl (A := v35.toInt) rfl (by (first | (clear g18 h19 h20; omega) | (clear g18 h19; omega) | omega)) (by (first | (clear g18 h19 h20; omega) | (clear g18 h19; omega) | omega)) (fun M38 W37 => ?_))))
        have hG39 := g_wl hG32 W37
        have F40 := FR.wl F33 W37 (show 87 = 77 ∧ ((v35.toInt).toNat = 4 ∨ (v35.toInt).toNat = 5 ∨ 7 ≤ (v35.toInt).toNat ∧ (v35.toInt).toNat ≤ 10 ∨ (v35.toInt).toNat = 16) ∨ 85 ≤ 87 ∧ 87 ≤ 87 ∧ 12 ≤ (v35.toInt).toNat by (first | (clear g18 h19 h20; omega) | (clear g18 h19; omega) | omega))
        refine to_an (pc := 286) rw_171_286 rfl (to_dupr (pc := 287) rw_171_287 ?_)
        have c_41 : M38.2.1 77 16 = (N.2.1 77 16) := (W_l W37 c_34)
        refine tt_gI (pc := 288) rw_171_288 (g_o hG39 rfl) (v := (N.2.1 77 16)) c_41 (to_c (pc := 291) rw_171_291 (x := (1 : Int32)) rfl rfl (s_add (pc := 292) rw_171_292 (A := (N.2.1 77 16).toInt) (B := 1) rfl rfl (by (first | (clear g18 h19 h20; omega) | (clear g18 h19; omega) | omega)) (fun v42 e43 => s_pI (pc := 293) rw_171_293 hG39 rfl (fun M45 W44 => ?_))))
        have hG46 := g_w hG39 W44 (A := v42.toInt) rfl (lo := 0) (hi := 12) rfl rfl (by (first | (clear g18 h19 h20; omega) | (clear g18 h19; omega) | omega)) (by decide)
        have F47 := FR.w F40 W44 (show 77 = 77 ∧ (16 = 4 ∨ 16 = 5 ∨ 7 ≤ 16 ∧ 16 ≤ 10 ∨ 16 = 16) ∨ 85 ≤ 77 ∧ 77 ≤ 87 ∧ 12 ≤ 16 by decide)
        refine to_c (pc := 296) rw_171_296 (x := (1 : Int32)) rfl rfl (s_r1 (pc := 297) rw_171_297 (A := 1) rfl (by decide) ?_)
        have k_48 : (1 : Int32).toInt = 1 := rfl
        have j_49 := (RS_f (fun a i z => W_n W44 (tg_61 a i z) rfl) (RS_f (fun a i z => W_l W37 rfl) (RS_f (fun a i z => W_n W30 (tg_62 a i _ z) rfl) (RS_f (fun a i z => W_n W23 (tg_63 a i _ z) rfl) g11))))
        have c_50 : M45.2.1 77 10 = (N.2.1 77 10) := (W_n W44 (by decide) (W_l W37 (W_n W30 (fun z => absurd z.1 (by decide)) (W_n W23 (fun z => absurd z.1 (by decide)) rfl))))
        have t_51 : (M45.2.1 77 10).toInt = (N.2.1 77 10).toInt := congrArg Int32.toInt c_50
        have z_52 := (⟨PLr_wp (nm := x2.toInt) (f := x1.toInt) (b := y4.toInt) g14 W23 W30 W37 W44 (by (first | (clear g18 h19 h20; omega) | (clear g18 h19; omega) | omega)) (by (first | (clear g18 h19 h20; omega) | (clear g18 h19; omega) | omega)) (by (first | (clear g18 h19 h20; omega) | (clear g18 h19; omega) | omega)) (by (first | (clear g18 h19 h20; omega) | (clear g18 h19; omega) | omega)) (by (first | (clear g18 h19 h20; omega) | (clear g18 h19; omega) | omega)) (by (first | (clear g18 h19 h20; omega) | (clear g18 h19; omega) | omega)) (by (first | (clear g18 h19 h20; omega) | (clear g18 h19; omega) | omega)), CWr_wp g15 W23 W30 W37 W44 (by (first | (clear g18 h19 h20; omega) | (clear g18 h19; omega) | omega)) rfl⟩ : PLr2 _ _)
        have c_53 : M45.2.1 77 4 = (N.2.1 77 4) := (W_n W44 (by decide) (W_l W37 (W_n W30 (fun z => absurd z.1 (by decide)) (W_n W23 (fun z => absurd z.1 (by decide)) rfl))))
        have t_54 : (M45.2.1 77 4).toInt = (N.2.1 77 4).toInt := congrArg Int32.toInt c_53
        have c_55 : M45.2.1 77 5 = (N.2.1 77 5) := (W_n W44 (by decide) (W_l W37 (W_n W30 (fun z => absurd z.1 (by decide)) (W_n W23 (fun z => absurd z.1 (by decide)) rfl))))
        have t_56 : (M45.2.1 77 5).toInt = (N.2.1 77 5).toInt := congrArg Int32.toInt c_55
        exact h (1 : Int32) M45 hG46 F47 (by decide) (by decide) j_49 (fun z => absurd z (by decide)) (fun _ => by unfold WOr FOr; rw [show (M45.2.1 77 10).toInt = (N.2.1 77 10).toInt by (first | (clear g18 h19 h20; omega) | (clear g18 h19; omega) | omega), ← g16]; first | exact Or.inl ⟨_, x_rc_y (by (first | (clear g18 h19 h20; omega) | (clear g18 h19; omega) | omega)) (by (first | (clear g18 h19 h20; omega) | (clear g18 h19; omega) | omega)) (by (first | (clear g18 h19 h20; omega) | (clear g18 h19; omega) | omega)), z_52, (by show sg.2.1 + (sg.2.2.1 + 1) = _; omega)⟩ | exact Or.inr ⟨x_rc_1 (by (first | (clear g18 h19 h20; omega) | (clear g18 h19; omega) | omega)) (by (first | (clear g18 h19 h20; omega) | (clear g18 h19; omega) | omega)) (by (first | (clear g18 h19 h20; omega) | (clear g18 h19; omega) | omega)) (by (first | (clear g18 h19 h20; omega) | (clear g18 h19; omega) | omega)), by (first | (clear g18 h19 h20; omega) | (clear g18 h19; omega) | omega)⟩ | exact (if g9 : x3.toInt = x_row sg 5 x1.toInt then Or.inl ⟨_, x_rc_y (by (first | (clear g18 h19 h20; omega) | (clear g18 h19; omega) | omega)) (by (first | (clear g18 h19 h20; omega) | (clear g18 h19; omega) | omega)) g9, z_52, (by show sg.2.1 + (sg.2.2.1 + 1) = _; omega)⟩ else Or.inr ⟨x_rc_1 (by (first | (clear g18 h19 h20; omega) | (clear g18 h19; omega) | omega)) (by (first | (clear g18 h19 h20; omega) | (clear g18 h19; omega) | omega)) g9 (by (first | (clear g18 h19 h20; omega) | (clear g18 h19; omega) | omega)), by (first | (clear g18 h19 h20; omega) | (clear g18 h19; omega) | omega)⟩)) (by (first | (clear g18 h19 h20; omega) | (clear g18 h19; omega) | omega))
      · refine to_an (pc := 8) rw_159_8 rfl (tt_gI (pc := 9) rw_159_9 (g_o hG rfl) (v := (N.2.1 77 9)) rfl (to_in (pc := 12) rw_159_12 rfl (b_cne (pc := 13) rw_159_13 (A := (N.2.1 77 9).toInt) (B := 59) rfl rfl (fun h57 => ?_) (fun h57 => ?_))))
        · refine to_c (pc := 20) rw_159_20 (x := (0 : Int32)) rfl rfl (s_r1 (pc := 21) rw_159_21 (A := 0) rfl (by decide) (b_ieq_t (pc := 224) rw_171_224 (A := 0) rfl (by decide) (to_an (pc := 246) rw_171_246 rfl (s_gR (pc := 247) rw_171_247 hG rfl (v := 85) rfl (to_c (pc := 250) rw_171_250 (x := (12 : Int32)) rfl rfl (to_an (pc := 252) rw_171_252 rfl (tt_gI (pc := 253) rw_171_253 (g_o hG rfl) (v := (N.2.1 77 16)) rfl (s_add (pc := 256) rw_171_256 (A := 12) (B := (N.2.1 77 16).toInt) rfl rfl (by (first | (clear g18 h19 h57; omega) | (clear g18 h19; omega) | omega)) (fun v58 e59 => to_in (pc := 257) rw_171_257 rfl (s_ias (pc := 258) rw_171_258 hG rfl (n := 24) rfl (A := v58.toInt) rfl (by (first | (clear g18 h19 h57; omega) | (clear g18 h19; omega) | omega)) (by (first | (clear g18 h19 h57; omega) | (clear g18 h19; omega) | omega)) (fun M61 W60 => ?_)))))))))))
          have hG62 := g_wf hG W60 rfl rfl (by decide)
          have F63 := FR.w F0 W60 (show 85 = 77 ∧ ((v58.toInt).toNat = 4 ∨ (v58.toInt).toNat = 5 ∨ 7 ≤ (v58.toInt).toNat ∧ (v58.toInt).toNat ≤ 10 ∨ (v58.toInt).toNat = 16) ∨ 85 ≤ 85 ∧ 85 ≤ 87 ∧ 12 ≤ (v58.toInt).toNat by (first | (clear g18 h19 h57; omega) | (clear g18 h19; omega) | omega))
          refine to_an (pc := 259) rw_171_259 rfl (s_gR (pc := 260) rw_171_260 hG62 rfl (v := 86) rfl (to_c (pc := 263) rw_171_263 (x := (12 : Int32)) rfl rfl (to_an (pc := 265) rw_171_265 rfl ?_)))
          have c_64 : M61.2.1 77 16 = (N.2.1 77 16) := (W_n W60 (fun z => absurd z.1 (by decide)) rfl)
          refine tt_gI (pc := 266) rw_171_266 (g_o hG62 rfl) (v := (N.2.1 77 16)) c_64 (s_add (pc := 269) rw_171_269 (A := 12) (B := (N.2.1 77 16).toInt) rfl rfl (by (first | (clear g18 h19 h57; omega) | (clear g18 h19; omega) | omega)) (fun v65 e66 => to_in (pc := 270) rw_171_270 rfl (s_ias (pc := 271) rw_171_271 hG62 rfl (n := 24) rfl (A := v65.toInt) rfl (by (first | (clear g18 h19 h57; omega) | (clear g18 h19; omega) | omega)) (by (first | (clear g18 h19 h57; omega) | (clear g18 h19; omega) | omega)) (fun M68 W67 => ?_))))
          have hG69 := g_w hG62 W67 (A := x1.toInt) rfl (lo := 0) (hi := 7) rfl rfl (by (first | (clear g18 h19 h57; omega) | (clear g18 h19; omega) | omega)) (by decide)
          have F70 := FR.w F63 W67 (show 86 = 77 ∧ ((v65.toInt).toNat = 4 ∨ (v65.toInt).toNat = 5 ∨ 7 ≤ (v65.toInt).toNat ∧ (v65.toInt).toNat ≤ 10 ∨ (v65.toInt).toNat = 16) ∨ 85 ≤ 86 ∧ 86 ≤ 87 ∧ 12 ≤ (v65.toInt).toNat by (first | (clear g18 h19 h57; omega) | (clear g18 h19; omega) | omega))
          refine to_an (pc := 272) rw_171_272 rfl (s_gR (pc := 273) rw_171_273 hG69 rfl (v := 87) rfl (to_c (pc := 276) rw_171_276 (x := (12 : Int32)) rfl rfl (to_an (pc := 278) rw_171_278 rfl ?_)))
          have c_71 : M68.2.1 77 16 = (N.2.1 77 16) := (W_n W67 (fun z => absurd z.1 (by decide)) c_64)
          refine tt_gI (pc := 279) rw_171_279 (g_o hG69 rfl) (v := (N.2.1 77 16)) c_71 (s_add (pc := 282) rw_171_282 (A := 12) (B := (N.2.1 77 16).toInt) rfl rfl (by (first | (clear g18 h19 h57; omega) | (clear g18 h19; omega) | omega)) (fun v72 e73 => to_l (pc := 283) rw_171_283 rfl rfl rfl (s_las (pc := 285) rw_171_285 hG69 rfl (n := 24) rfl (A := v72.toInt) rfl (by (first | (clear g18 h19 h57; omega) | (clear g18 h19; omega) | omega)) (by (first | (clear g18 h19 h57; omega) | (clear g18 h19; omega) | omega)) (fun M75 W74 => ?_))))
          have hG76 := g_wl hG69 W74
          have F77 := FR.wl F70 W74 (show 87 = 77 ∧ ((v72.toInt).toNat = 4 ∨ (v72.toInt).toNat = 5 ∨ 7 ≤ (v72.toInt).toNat ∧ (v72.toInt).toNat ≤ 10 ∨ (v72.toInt).toNat = 16) ∨ 85 ≤ 87 ∧ 87 ≤ 87 ∧ 12 ≤ (v72.toInt).toNat by (first | (clear g18 h19 h57; omega) | (clear g18 h19; omega) | omega))
          refine to_an (pc := 286) rw_171_286 rfl (to_dupr (pc := 287) rw_171_287 ?_)
          have c_78 : M75.2.1 77 16 = (N.2.1 77 16) := (W_l W74 c_71)
          refine tt_gI (pc := 288) rw_171_288 (g_o hG76 rfl) (v := (N.2.1 77 16)) c_78 (to_c (pc := 291) rw_171_291 (x := (1 : Int32)) rfl rfl (s_add (pc := 292) rw_171_292 (A := (N.2.1 77 16).toInt) (B := 1) rfl rfl (by (first | (clear g18 h19 h57; omega) | (clear g18 h19; omega) | omega)) (fun v79 e80 => s_pI (pc := 293) rw_171_293 hG76 rfl (fun M82 W81 => ?_))))
          have hG83 := g_w hG76 W81 (A := v79.toInt) rfl (lo := 0) (hi := 12) rfl rfl (by (first | (clear g18 h19 h57; omega) | (clear g18 h19; omega) | omega)) (by decide)
          have F84 := FR.w F77 W81 (show 77 = 77 ∧ (16 = 4 ∨ 16 = 5 ∨ 7 ≤ 16 ∧ 16 ≤ 10 ∨ 16 = 16) ∨ 85 ≤ 77 ∧ 77 ≤ 87 ∧ 12 ≤ 16 by decide)
          refine to_c (pc := 296) rw_171_296 (x := (1 : Int32)) rfl rfl (s_r1 (pc := 297) rw_171_297 (A := 1) rfl (by decide) ?_)
          have k_85 : (1 : Int32).toInt = 1 := rfl
          have j_86 := (RS_f (fun a i z => W_n W81 (tg_61 a i z) rfl) (RS_f (fun a i z => W_l W74 rfl) (RS_f (fun a i z => W_n W67 (tg_62 a i _ z) rfl) (RS_f (fun a i z => W_n W60 (tg_63 a i _ z) rfl) g11))))
          have c_87 : M82.2.1 77 10 = (N.2.1 77 10) := (W_n W81 (by decide) (W_l W74 (W_n W67 (fun z => absurd z.1 (by decide)) (W_n W60 (fun z => absurd z.1 (by decide)) rfl))))
          have t_88 : (M82.2.1 77 10).toInt = (N.2.1 77 10).toInt := congrArg Int32.toInt c_87
          have z_89 := (⟨PLr_wp (nm := x2.toInt) (f := x1.toInt) (b := y4.toInt) g14 W60 W67 W74 W81 (by (first | (clear g18 h19 h57; omega) | (clear g18 h19; omega) | omega)) (by (first | (clear g18 h19 h57; omega) | (clear g18 h19; omega) | omega)) (by (first | (clear g18 h19 h57; omega) | (clear g18 h19; omega) | omega)) (by (first | (clear g18 h19 h57; omega) | (clear g18 h19; omega) | omega)) (by (first | (clear g18 h19 h57; omega) | (clear g18 h19; omega) | omega)) (by (first | (clear g18 h19 h57; omega) | (clear g18 h19; omega) | omega)) (by (first | (clear g18 h19 h57; omega) | (clear g18 h19; omega) | omega)), CWr_wp g15 W60 W67 W74 W81 (by (first | (clear g18 h19 h57; omega) | (clear g18 h19; omega) | omega)) rfl⟩ : PLr2 _ _)
          have c_90 : M82.2.1 77 4 = (N.2.1 77 4) := (W_n W81 (by decide) (W_l W74 (W_n W67 (fun z => absurd z.1 (by decide)) (W_n W60 (fun z => absurd z.1 (by decide)) rfl))))
          have t_91 : (M82.2.1 77 4).toInt = (N.2.1 77 4).toInt := congrArg Int32.toInt c_90
          have c_92 : M82.2.1 77 5 = (N.2.1 77 5) := (W_n W81 (by decide) (W_l W74 (W_n W67 (fun z => absurd z.1 (by decide)) (W_n W60 (fun z => absurd z.1 (by decide)) rfl))))
          have t_93 : (M82.2.1 77 5).toInt = (N.2.1 77 5).toInt := congrArg Int32.toInt c_92
          exact h (1 : Int32) M82 hG83 F84 (by decide) (by decide) j_86 (fun z => absurd z (by decide)) (fun _ => by unfold WOr FOr; rw [show (M82.2.1 77 10).toInt = (N.2.1 77 10).toInt by (first | (clear g18 h19 h57; omega) | (clear g18 h19; omega) | omega), ← g16]; first | exact Or.inl ⟨_, x_rc_y (by (first | (clear g18 h19 h57; omega) | (clear g18 h19; omega) | omega)) (by (first | (clear g18 h19 h57; omega) | (clear g18 h19; omega) | omega)) (by (first | (clear g18 h19 h57; omega) | (clear g18 h19; omega) | omega)), z_89, (by show sg.2.1 + (sg.2.2.1 + 1) = _; omega)⟩ | exact Or.inr ⟨x_rc_1 (by (first | (clear g18 h19 h57; omega) | (clear g18 h19; omega) | omega)) (by (first | (clear g18 h19 h57; omega) | (clear g18 h19; omega) | omega)) (by (first | (clear g18 h19 h57; omega) | (clear g18 h19; omega) | omega)) (by (first | (clear g18 h19 h57; omega) | (clear g18 h19; omega) | omega)), by (first | (clear g18 h19 h57; omega) | (clear g18 h19; omega) | omega)⟩ | exact (if g9 : x3.toInt = x_row sg 5 x1.toInt then Or.inl ⟨_, x_rc_y (by (first | (clear g18 h19 h57; omega) | (clear g18 h19; omega) | omega)) (by (first | (clear g18 h19 h57; omega) | (clear g18 h19; omega) | omega)) g9, z_89, (by show sg.2.1 + (sg.2.2.1 + 1) = _; omega)⟩ else Or.inr ⟨x_rc_1 (by (first | (clear g18 h19 h57; omega) | (clear g18 h19; omega) | omega)) (by (first | (clear g18 h19 h57; omega) | (clear g18 h19; omega) | omega)) g9 (by (first | (clear g18 h19 h57; omega) | (clear g18 h19; omega) | omega)), by (first | (clear g18 h19 h57; omega) | (clear g18 h19; omega) | omega)⟩)) (by (first | (clear g18 h19 h57; omega) | (clear g18 h19; omega) | omega))
        · refine to_c (pc := 16) rw_159_16 (x := (1 : Int32)) rfl rfl (to_go (pc := 17) rw_159_17 (s_r1 (pc := 21) rw_159_21 (A := 1) rfl (by decide) (b_ieq_f (pc := 224) rw_171_224 (A := 1) rfl (by decide) (to_in (pc := 227) rw_171_227 rfl (to_an (pc := 228) rw_171_228 rfl (s_gR (pc := 229) rw_171_229 hG rfl (v := 84) rfl (to_c (pc := 232) rw_171_232 (x := (8 : Int32)) rfl rfl (to_in (pc := 234) rw_171_234 rfl (s_add (pc := 235) rw_171_235 (A := 8) (B := x1.toInt) rfl rfl (by (first | (clear g18 h19; omega) | (clear g18; omega) | omega)) (fun v94 e95 => s_ial (pc := 236) rw_171_236 hG rfl (n := 16) rfl rfl (A := v94.toInt) rfl (by (first | (clear g18 h19; omega) | (clear g18; omega) | omega)) (by (first | (clear g18 h19; omega) | (clear g18; omega) | omega)) (lo := 0) (hi := 24) rfl rfl (fun v96 w_97 _ _ => ?_)))))))))))
          have z_98 := PLr_r g14 5 84 rfl (by decide) (by decide) (k := x1.toInt) (by (first | (clear g18 h19; omega) | (clear g18; omega) | omega)) (by (first | (clear g18 h19; omega) | (clear g18; omega) | omega)) (by (first | (clear g18 h19; omega) | (clear g18; omega) | omega)) w_97
          refine b_cge (pc := 237) rw_171_237 (A := x3.toInt) (B := v96.toInt) rfl rfl (fun h99 => ?_) (fun h99 => ?_)
          · refine to_an (pc := 246) rw_171_246 rfl (s_gR (pc := 247) rw_171_247 hG rfl (v := 85) rfl (to_c (pc := 250) rw_171_250 (x := (12 : Int32)) rfl rfl (to_an (pc := 252) rw_171_252 rfl (tt_gI (pc := 253) rw_171_253 (g_o hG rfl) (v := (N.2.1 77 16)) rfl (s_add (pc := 256) rw_171_256 (A := 12) (B := (N.2.1 77 16).toInt) rfl rfl (by (first | (clear g18 h19; omega) | (clear g18; omega) | omega)) (fun v100 e101 => to_in (pc := 257) rw_171_257 rfl (s_ias (pc := 258) rw_171_258 hG rfl (n := 24) rfl (A := v100.toInt) rfl (by (first | (clear g18 h19; omega) | (clear g18; omega) | omega)) (by (first | (clear g18 h19; omega) | (clear g18; omega) | omega)) (fun M103 W102 => ?_))))))))
            have hG104 := g_wf hG W102 rfl rfl (by decide)
            have F105 := FR.w F0 W102 (show 85 = 77 ∧ ((v100.toInt).toNat = 4 ∨ (v100.toInt).toNat = 5 ∨ 7 ≤ (v100.toInt).toNat ∧ (v100.toInt).toNat ≤ 10 ∨ (v100.toInt).toNat = 16) ∨ 85 ≤ 85 ∧ 85 ≤ 87 ∧ 12 ≤ (v100.toInt).toNat by (first | (clear g18 h19; omega) | (clear g18; omega) | omega))
            refine to_an (pc := 259) rw_171_259 rfl (s_gR (pc := 260) rw_171_260 hG104 rfl (v := 86) rfl (to_c (pc := 263) rw_171_263 (x := (12 : Int32)) rfl rfl (to_an (pc := 265) rw_171_265 rfl ?_)))
            have c_106 : M103.2.1 77 16 = (N.2.1 77 16) := (W_n W102 (fun z => absurd z.1 (by decide)) rfl)
            refine tt_gI (pc := 266) rw_171_266 (g_o hG104 rfl) (v := (N.2.1 77 16)) c_106 (s_add (pc := 269) rw_171_269 (A := 12) (B := (N.2.1 77 16).toInt) rfl rfl (by (first | (clear g18 h19; omega) | (clear g18; omega) | omega)) (fun v107 e108 => to_in (pc := 270) rw_171_270 rfl (s_ias (pc := 271) rw_171_271 hG104 rfl (n := 24) rfl (A := v107.toInt) rfl (by (first | (clear g18 h19; omega) | (clear g18; omega) | omega)) (by (first | (clear g18 h19; omega) | (clear g18; omega) | omega)) (fun M110 W109 => ?_))))
            have hG111 := g_w hG104 W109 (A := x1.toInt) rfl (lo := 0) (hi := 7) rfl rfl (by (first | (clear g18 h19; omega) | (clear g18; omega) | omega)) (by decide)
            have F112 := FR.w F105 W109 (show 86 = 77 ∧ ((v107.toInt).toNat = 4 ∨ (v107.toInt).toNat = 5 ∨ 7 ≤ (v107.toInt).toNat ∧ (v107.toInt).toNat ≤ 10 ∨ (v107.toInt).toNat = 16) ∨ 85 ≤ 86 ∧ 86 ≤ 87 ∧ 12 ≤ (v107.toInt).toNat by (first | (clear g18 h19; omega) | (clear g18; omega) | omega))
            refine to_an (pc := 272) rw_171_272 rfl (s_gR (pc := 273) rw_171_273 hG111 rfl (v := 87) rfl (to_c (pc := 276) rw_171_276 (x := (12 : Int32)) rfl rfl (to_an (pc := 278) rw_171_278 rfl ?_)))
            have c_113 : M110.2.1 77 16 = (N.2.1 77 16) := (W_n W109 (fun z => absurd z.1 (by decide)) c_106)
            refine tt_gI (pc := 279) rw_171_279 (g_o hG111 rfl) (v := (N.2.1 77 16)) c_113 (s_add (pc := 282) rw_171_282 (A := 12) (B := (N.2.1 77 16).toInt) rfl rfl (by (first | (clear g18 h19; omega) | (clear g18; omega) | omega)) (fun v114 e115 => to_l (pc := 283) rw_171_283 rfl rfl rfl (s_las (pc := 285) rw_171_285 hG111 rfl (n := 24) rfl (A := v114.toInt) rfl (by (first | (clear g18 h19; omega) | (clear g18; omega) | omega)) (by (first | (clear g18 h19; omega) | (clear g18; omega) | omega)) (fun M117 W116 => ?_))))
            have hG118 := g_wl hG111 W116
            have F119 := FR.wl F112 W116 (show 87 = 77 ∧ ((v114.toInt).toNat = 4 ∨ (v114.toInt).toNat = 5 ∨ 7 ≤ (v114.toInt).toNat ∧ (v114.toInt).toNat ≤ 10 ∨ (v114.toInt).toNat = 16) ∨ 85 ≤ 87 ∧ 87 ≤ 87 ∧ 12 ≤ (v114.toInt).toNat by (first | (clear g18 h19; omega) | (clear g18; omega) | omega))
            refine to_an (pc := 286) rw_171_286 rfl (to_dupr (pc := 287) rw_171_287 ?_)
            have c_120 : M117.2.1 77 16 = (N.2.1 77 16) := (W_l W116 c_113)
            refine tt_gI (pc := 288) rw_171_288 (g_o hG118 rfl) (v := (N.2.1 77 16)) c_120 (to_c (pc := 291) rw_171_291 (x := (1 : Int32)) rfl rfl (s_add (pc := 292) rw_171_292 (A := (N.2.1 77 16).toInt) (B := 1) rfl rfl (by (first | (clear g18 h19; omega) | (clear g18; omega) | omega)) (fun v121 e122 => s_pI (pc := 293) rw_171_293 hG118 rfl (fun M124 W123 => ?_))))
            have hG125 := g_w hG118 W123 (A := v121.toInt) rfl (lo := 0) (hi := 12) rfl rfl (by (first | (clear g18 h19; omega) | (clear g18; omega) | omega)) (by decide)
            have F126 := FR.w F119 W123 (show 77 = 77 ∧ (16 = 4 ∨ 16 = 5 ∨ 7 ≤ 16 ∧ 16 ≤ 10 ∨ 16 = 16) ∨ 85 ≤ 77 ∧ 77 ≤ 87 ∧ 12 ≤ 16 by decide)
            refine to_c (pc := 296) rw_171_296 (x := (1 : Int32)) rfl rfl (s_r1 (pc := 297) rw_171_297 (A := 1) rfl (by decide) ?_)
            have k_127 : (1 : Int32).toInt = 1 := rfl
            have j_128 := (RS_f (fun a i z => W_n W123 (tg_61 a i z) rfl) (RS_f (fun a i z => W_l W116 rfl) (RS_f (fun a i z => W_n W109 (tg_62 a i _ z) rfl) (RS_f (fun a i z => W_n W102 (tg_63 a i _ z) rfl) g11))))
            have c_129 : M124.2.1 77 10 = (N.2.1 77 10) := (W_n W123 (by decide) (W_l W116 (W_n W109 (fun z => absurd z.1 (by decide)) (W_n W102 (fun z => absurd z.1 (by decide)) rfl))))
            have t_130 : (M124.2.1 77 10).toInt = (N.2.1 77 10).toInt := congrArg Int32.toInt c_129
            have z_131 := (⟨PLr_wp (nm := x2.toInt) (f := x1.toInt) (b := y4.toInt) g14 W102 W109 W116 W123 (by (first | (clear g18 h19; omega) | (clear g18; omega) | omega)) (by (first | (clear g18 h19; omega) | (clear g18; omega) | omega)) (by (first | (clear g18 h19; omega) | (clear g18; omega) | omega)) (by (first | (clear g18 h19; omega) | (clear g18; omega) | omega)) (by (first | (clear g18 h19; omega) | (clear g18; omega) | omega)) (by (first | (clear g18 h19; omega) | (clear g18; omega) | omega)) (by (first | (clear g18 h19; omega) | (clear g18; omega) | omega)), CWr_wp g15 W102 W109 W116 W123 (by (first | (clear g18 h19; omega) | (clear g18; omega) | omega)) rfl⟩ : PLr2 _ _)
            have c_132 : M124.2.1 77 4 = (N.2.1 77 4) := (W_n W123 (by decide) (W_l W116 (W_n W109 (fun z => absurd z.1 (by decide)) (W_n W102 (fun z => absurd z.1 (by decide)) rfl))))
            have t_133 : (M124.2.1 77 4).toInt = (N.2.1 77 4).toInt := congrArg Int32.toInt c_132
            have c_134 : M124.2.1 77 5 = (N.2.1 77 5) := (W_n W123 (by decide) (W_l W116 (W_n W109 (fun z => absurd z.1 (by decide)) (W_n W102 (fun z => absurd z.1 (by decide)) rfl))))
            have t_135 : (M124.2.1 77 5).toInt = (N.2.1 77 5).toInt := congrArg Int32.toInt c_134
            exact h (1 : Int32) M124 hG125 F126 (by decide) (by decide) j_128 (fun z => absurd z (by decide)) (fun _ => by unfold WOr FOr; rw [show (M124.2.1 77 10).toInt = (N.2.1 77 10).toInt by (first | (clear g18 h19; omega) | (clear g18; omega) | omega), ← g16]; first | exact Or.inl ⟨_, x_rc_y (by (first | (clear g18 h19; omega) | (clear g18; omega) | omega)) (by (first | (clear g18 h19; omega) | (clear g18; omega) | omega)) (by (first | (clear g18 h19; omega) | (clear g18; omega) | omega)), z_131, (by show sg.2.1 + (sg.2.2.1 + 1) = _; omega)⟩ | exact Or.inr ⟨x_rc_1 (by (first | (clear g18 h19; omega) | (clear g18; omega) | omega)) (by (first | (clear g18 h19; omega) | (clear g18; omega) | omega)) (by (first | (clear g18 h19; omega) | (clear g18; omega) | omega)) (by (first | (clear g18 h19; omega) | (clear g18; omega) | omega)), by (first | (clear g18 h19; omega) | (clear g18; omega) | omega)⟩ | exact (if g9 : x3.toInt = x_row sg 5 x1.toInt then Or.inl ⟨_, x_rc_y (by (first | (clear g18 h19; omega) | (clear g18; omega) | omega)) (by (first | (clear g18 h19; omega) | (clear g18; omega) | omega)) g9, z_131, (by show sg.2.1 + (sg.2.2.1 + 1) = _; omega)⟩ else Or.inr ⟨x_rc_1 (by (first | (clear g18 h19; omega) | (clear g18; omega) | omega)) (by (first | (clear g18 h19; omega) | (clear g18; omega) | omega)) g9 (by (first | (clear g18 h19; omega) | (clear g18; omega) | omega)), by (first | (clear g18 h19; omega) | (clear g18; omega) | omega)⟩)) (by (first | (clear g18 h19; omega) | (clear g18; omega) | omega))
          · refine to_an (pc := 240) rw_171_240 rfl (to_c (pc := 241) rw_171_241 (x := (5 : Int32)) rfl rfl (s_v (pc := 242) rw_171_242 (dp0 hd (by decide)) (ls0 := [.ref 77, .int (5 : Int32)]) rfl (Nat.le_of_ble_eq_true rfl) (Nat.le_of_ble_eq_true rfl) rfl (to_rc rfl rfl rfl (g_o hG rfl)) rfl (to_an (pc := 0) rw_152_0 rfl (to_in (pc := 1) rw_152_1 rfl (s_pI (pc := 2) rw_152_2 hG rfl (fun M137 W136 => ?_))))))
            have hG138 := g_wf hG W136 rfl rfl (by decide)
            have F139 := FR.w F0 W136 (show 77 = 77 ∧ (4 = 4 ∨ 4 = 5 ∨ 7 ≤ 4 ∧ 4 ≤ 10 ∨ 4 = 16) ∨ 85 ≤ 77 ∧ 77 ≤ 87 ∧ 12 ≤ 4 by decide)
            refine to_an (pc := 5) rw_152_5 rfl (to_an (pc := 6) rw_152_6 rfl ?_)
            have c_140 : M137.2.1 77 10 = (N.2.1 77 10) := (W_n W136 (by decide) rfl)
            refine tt_gI (pc := 7) rw_152_7 (g_o hG138 rfl) (v := (N.2.1 77 10)) c_140 (s_pI (pc := 10) rw_152_10 hG138 rfl (fun M142 W141 => ?_))
            have hG143 := g_wf hG138 W141 rfl rfl (by decide)
            have F144 := FR.w F139 W141 (show 77 = 77 ∧ (5 = 4 ∨ 5 = 5 ∨ 7 ≤ 5 ∧ 5 ≤ 10 ∨ 5 = 16) ∨ 85 ≤ 77 ∧ 77 ≤ 87 ∧ 12 ≤ 5 by decide)
            refine to_c (pc := 13) rw_152_13 (x := (0 : Int32)) rfl rfl (s_r1 (pc := 14) rw_152_14 (A := 0) rfl (by decide) (s_r1 (pc := 245) rw_171_245 (A := 0) rfl (by decide) ?_))
            have k_145 : (0 : Int32).toInt = 0 := rfl
            have j_146 := (RS_f (fun a i z => W_n W141 (tg_37 a i z) rfl) (RS_f (fun a i z => W_n W136 (tg_38 a i z) rfl) g11))
            have c_147 : M142.2.1 77 4 = (5 : Int32) := (W_n W141 (by decide) (W_e W136))
            have k_148 : (5 : Int32).toInt = 5 := rfl
            have t_149 : (M142.2.1 77 4).toInt = (5 : Int32).toInt := congrArg Int32.toInt c_147
            have c_150 : M142.2.1 77 5 = (N.2.1 77 10) := (W_e W141)
            have t_151 : (M142.2.1 77 5).toInt = (N.2.1 77 10).toInt := congrArg Int32.toInt c_150
            exact h (0 : Int32) M142 hG143 F144 (by decide) (by decide) j_146 (fun _ => pinl (by (first | (clear g18 h19; omega) | (clear g18; omega) | omega)) (by (first | (clear g18 h19; omega) | (clear g18; omega) | omega)) (g16.symm.trans (x_rc_5 (by (first | (clear g18 h19; omega) | (clear g18; omega) | omega)) (by (first | (clear g18 h19; omega) | (clear g18; omega) | omega)) (by (first | (clear g18 h19; omega) | (clear g18; omega) | omega)) (by (first | (clear g18 h19; omega) | (clear g18; omega) | omega))))) (fun z => absurd z (by decide)) (by (first | (clear g18 h19; omega) | (clear g18; omega) | omega))
    · refine to_in (pc := 114) rw_171_114 rfl (to_an (pc := 115) rw_171_115 rfl (s_gR (pc := 116) rw_171_116 hG rfl (v := 84) rfl (to_c (pc := 119) rw_171_119 (x := (8 : Int32)) rfl rfl (to_in (pc := 121) rw_171_121 rfl (s_add (pc := 122) rw_171_122 (A := 8) (B := x1.toInt) rfl rfl (by (first | (clear g18; omega) | omega)) (fun v152 e153 => s_ial (pc := 123) rw_171_123 hG rfl (n := 16) rfl rfl (A := v152.toInt) rfl (by (first | (clear g18; omega) | omega)) (by (first | (clear g18; omega) | omega)) (lo := 0) (hi := 24) rfl rfl (fun v154 w_155 _ _ => ?_)))))))
      have z_156 := PLr_r g14 5 84 rfl (by decide) (by decide) (k := x1.toInt) (by (first | (clear g18; omega) | omega)) (by (first | (clear g18; omega) | omega)) (by (first | (clear g18; omega) | omega)) w_155
      refine b_ceq (pc := 124) rw_171_124 (A := x3.toInt) (B := v154.toInt) rfl rfl (fun h157 => ?_) (fun h157 => ?_)
      · refine to_an (pc := 153) rw_171_153 rfl (to_c (pc := 154) rw_171_154 (x := (2 : Int32)) rfl rfl (s_v (pc := 155) rw_171_155 (dp0 hd (by decide)) (ls0 := [.ref 77, .int (2 : Int32)]) rfl (Nat.le_of_ble_eq_true rfl) (Nat.le_of_ble_eq_true rfl) rfl (to_rc rfl rfl rfl (g_o hG rfl)) rfl (to_an (pc := 0) rw_152_0 rfl (to_in (pc := 1) rw_152_1 rfl (s_pI (pc := 2) rw_152_2 hG rfl (fun M159 W158 => ?_))))))
        have hG160 := g_wf hG W158 rfl rfl (by decide)
        have F161 := FR.w F0 W158 (show 77 = 77 ∧ (4 = 4 ∨ 4 = 5 ∨ 7 ≤ 4 ∧ 4 ≤ 10 ∨ 4 = 16) ∨ 85 ≤ 77 ∧ 77 ≤ 87 ∧ 12 ≤ 4 by decide)
        refine to_an (pc := 5) rw_152_5 rfl (to_an (pc := 6) rw_152_6 rfl ?_)
        have c_162 : M159.2.1 77 10 = (N.2.1 77 10) := (W_n W158 (by decide) rfl)
        refine tt_gI (pc := 7) rw_152_7 (g_o hG160 rfl) (v := (N.2.1 77 10)) c_162 (s_pI (pc := 10) rw_152_10 hG160 rfl (fun M164 W163 => ?_))
        have hG165 := g_wf hG160 W163 rfl rfl (by decide)
        have F166 := FR.w F161 W163 (show 77 = 77 ∧ (5 = 4 ∨ 5 = 5 ∨ 7 ≤ 5 ∧ 5 ≤ 10 ∨ 5 = 16) ∨ 85 ≤ 77 ∧ 77 ≤ 87 ∧ 12 ≤ 5 by decide)
        refine to_c (pc := 13) rw_152_13 (x := (0 : Int32)) rfl rfl (s_r1 (pc := 14) rw_152_14 (A := 0) rfl (by decide) (s_r1 (pc := 158) rw_171_158 (A := 0) rfl (by decide) ?_))
        have k_167 : (0 : Int32).toInt = 0 := rfl
        have j_168 := (RS_f (fun a i z => W_n W163 (tg_37 a i z) rfl) (RS_f (fun a i z => W_n W158 (tg_38 a i z) rfl) g11))
        have c_169 : M164.2.1 77 4 = (2 : Int32) := (W_n W163 (by decide) (W_e W158))
        have k_170 : (2 : Int32).toInt = 2 := rfl
        have t_171 : (M164.2.1 77 4).toInt = (2 : Int32).toInt := congrArg Int32.toInt c_169
        have c_172 : M164.2.1 77 5 = (N.2.1 77 10) := (W_e W163)
        have t_173 : (M164.2.1 77 5).toInt = (N.2.1 77 10).toInt := congrArg Int32.toInt c_172
        exact h (0 : Int32) M164 hG165 F166 (by decide) (by decide) j_168 (fun _ => pinl (by (first | (clear g18; omega) | omega)) (by (first | (clear g18; omega) | omega)) (g16.symm.trans (x_rc_2 (by (first | (clear g18; omega) | omega)) (by (first | (clear g18; omega) | omega)) (by (first | (clear g18; omega) | omega))))) (fun z => absurd z (by decide)) (by (first | (clear g18; omega) | omega))
      · refine to_an (pc := 127) rw_171_127 rfl (tt_gI (pc := 128) rw_171_128 (g_o hG rfl) (v := (N.2.1 77 9)) rfl (to_an (pc := 131) rw_171_131 rfl (s_gR (pc := 132) rw_171_132 hG rfl (v := 83) rfl (to_c (pc := 135) rw_171_135 (x := (8 : Int32)) rfl rfl (to_in (pc := 137) rw_171_137 rfl (s_add (pc := 138) rw_171_138 (A := 8) (B := x1.toInt) rfl rfl (by (first | (clear g18 h157; omega) | (clear g18; omega) | omega)) (fun v174 e175 => s_ial (pc := 139) rw_171_139 hG rfl (n := 16) rfl rfl (A := v174.toInt) rfl (by (first | (clear g18 h157; omega) | (clear g18; omega) | omega)) (by (first | (clear g18 h157; omega) | (clear g18; omega) | omega)) (lo := 0) (hi := 63) rfl rfl (fun v176 w_177 _ _ => ?_))))))))
        have z_178 := PLr_r g14 4 83 rfl (by decide) (by decide) (k := x1.toInt) (by (first | (clear g18 h157; omega) | (clear g18; omega) | omega)) (by (first | (clear g18 h157; omega) | (clear g18; omega) | omega)) (by (first | (clear g18 h157; omega) | (clear g18; omega) | omega)) w_177
        refine to_an (pc := 140) rw_171_140 rfl (s_gR (pc := 141) rw_171_141 hG rfl (v := 82) rfl (to_c (pc := 144) rw_171_144 (x := (8 : Int32)) rfl rfl (to_in (pc := 146) rw_171_146 rfl (s_add (pc := 147) rw_171_147 (A := 8) (B := x1.toInt) rfl rfl (by (first | (clear g18 h157; omega) | (clear g18; omega) | omega)) (fun v179 e180 => s_ial (pc := 148) rw_171_148 hG rfl (n := 16) rfl rfl (A := v179.toInt) rfl (by (first | (clear g18 h157; omega) | (clear g18; omega) | omega)) (by (first | (clear g18 h157; omega) | (clear g18; omega) | omega)) (lo := 0) (hi := 59) rfl rfl (fun v181 w_182 _ _ => ?_))))))
        have z_183 := PLr_r g14 3 82 rfl (by decide) (by decide) (k := x1.toInt) (by (first | (clear g18 h157; omega) | (clear g18; omega) | omega)) (by (first | (clear g18 h157; omega) | (clear g18; omega) | omega)) (by (first | (clear g18 h157; omega) | (clear g18; omega) | omega)) w_182
        refine s_sub (pc := 149) rw_171_149 (A := v176.toInt) (B := v181.toInt) rfl rfl (by (first | (clear g18 h157; omega) | (clear g18; omega) | omega)) (fun v184 e185 => b_cle (pc := 150) rw_171_150 (A := (N.2.1 77 9).toInt) (B := v184.toInt) rfl rfl (fun h186 => ?_) (fun h186 => ?_))
        · refine to_l (pc := 159) rw_171_159 rfl rfl rfl (to_an (pc := 161) rw_171_161 rfl (s_gR (pc := 162) rw_171_162 hG rfl (v := 82) rfl (to_c (pc := 165) rw_171_165 (x := (8 : Int32)) rfl rfl (to_in (pc := 167) rw_171_167 rfl (s_add (pc := 168) rw_171_168 (A := 8) (B := x1.toInt) rfl rfl (by (first | (clear g18 h157; omega) | (clear g18; omega) | omega)) (fun v187 e188 => s_ial (pc := 169) rw_171_169 hG rfl (n := 16) rfl rfl (A := v187.toInt) rfl (by (first | (clear g18 h157; omega) | (clear g18; omega) | omega)) (by (first | (clear g18 h157; omega) | (clear g18; omega) | omega)) (lo := 0) (hi := 59) rfl rfl (fun v189 w_190 _ _ => ?_)))))))
          have z_191 := PLr_r g14 3 82 rfl (by decide) (by decide) (k := x1.toInt) (by (first | (clear g18 h157; omega) | (clear g18; omega) | omega)) (by (first | (clear g18 h157; omega) | (clear g18; omega) | omega)) (by (first | (clear g18 h157; omega) | (clear g18; omega) | omega)) w_190
          refine to_an (pc := 170) rw_171_170 rfl (tt_gI (pc := 171) rw_171_171 (g_o hG rfl) (v := (N.2.1 77 9)) rfl ?_)
          have i_194 := i_of (x := (N.2.1 77 9))
          refine s_add (pc := 174) rw_171_174 (A := v189.toInt) (B := (N.2.1 77 9).toInt) rfl rfl (by (first | (clear g18 h157; omega) | (clear g18; omega) | omega)) (fun v192 e193 => s_s (pc := 175) rw_171_175 (dp0 hd (by decide)) (ls0 := [.long y4, .null, .int v192]) rfl (Nat.le_of_ble_eq_true rfl) (Nat.le_of_ble_eq_true rfl) rfl (to_rcs rfl rfl) rfl (to_ln (pc := 0) rw_150_0 rfl rfl rfl (to_in (pc := 1) rw_150_1 rfl (to_2s (pc := 2) rw_150_2 (v := (y4 >>> (v192.toInt64 &&& 63))) rfl (to_cl (pc := 3) rw_150_3 rfl (x := (1 : Int64)) rfl (to_2l (pc := 4) rw_150_4 (v := ((y4 >>> (v192.toInt64 &&& 63)) &&& (1 : Int64))) rfl (to_cl (pc := 5) rw_150_5 rfl (x := (1 : Int64)) rfl (s_lcmpE (pc := 6) rw_150_6 (fun v195 e196 => ?_)))))))))
          have b_197 := x_eq_b (x := ((y4 >>> (v192.toInt64 &&& 63)) &&& (1 : Int64))) (y := (1 : Int64))
          have z_198 := x_hit_r (v := v192) (bits := y4) (h := x_row sg 3 x1.toInt + x_val t nn (N.2.1 77 10).toInt) (by (first | (clear g18 h157; omega) | (clear g18; omega) | omega)) (by (first | (clear g18 h157; omega) | (clear g18; omega) | omega)) (by (first | (clear g18 h157; omega) | (clear g18; omega) | omega))
          have z_199 := x_hit_b (bits := y4) (h := x_row sg 3 x1.toInt + x_val t nn (N.2.1 77 10).toInt)
          refine b_ine (pc := 7) rw_150_7 (A := v195.toInt) rfl (fun h200 => ?_) (fun h200 => ?_)
          · refine to_c (pc := 14) rw_150_14 (x := (0 : Int32)) rfl rfl (s_r1 (pc := 15) rw_150_15 (A := 0) rfl (by decide) (b_ieq_t (pc := 178) rw_171_178 (A := 0) rfl (by decide) (to_l (pc := 187) rw_171_187 rfl rfl rfl (to_cl (pc := 189) rw_171_189 rfl (x := (1 : Int64)) rfl (to_an (pc := 190) rw_171_190 rfl (s_gR (pc := 191) rw_171_191 hG rfl (v := 82) rfl (to_c (pc := 194) rw_171_194 (x := (8 : Int32)) rfl rfl (to_in (pc := 196) rw_171_196 rfl (s_add (pc := 197) rw_171_197 (A := 8) (B := x1.toInt) rfl rfl (by (first | (clear g18 h157 z_198 h200; omega) | (clear g18 h157 z_198; omega) | omega)) (fun v201 e202 => s_ial (pc := 198) rw_171_198 hG rfl (n := 16) rfl rfl (A := v201.toInt) rfl (by (first | (clear g18 h157 z_198 h200; omega) | (clear g18 h157 z_198; omega) | omega)) (by (first | (clear g18 h157 z_198 h200; omega) | (clear g18 h157 z_198; omega) | omega)) (lo := 0) (hi := 59) rfl rfl (fun v203 w_204 _ _ => ?_)))))))))))
            have z_205 := PLr_r g14 3 82 rfl (by decide) (by decide) (k := x1.toInt) (by (first | (clear g18 h157 z_198 h200; omega) | (clear g18 h157 z_198; omega) | omega)) (by (first | (clear g18 h157 z_198 h200; omega) | (clear g18 h157 z_198; omega) | omega)) (by (first | (clear g18 h157 z_198 h200; omega) | (clear g18 h157 z_198; omega) | omega)) w_204
            refine to_an (pc := 199) rw_171_199 rfl (tt_gI (pc := 200) rw_171_200 (g_o hG rfl) (v := (N.2.1 77 9)) rfl (s_add (pc := 203) rw_171_203 (A := v203.toInt) (B := (N.2.1 77 9).toInt) rfl rfl (by (first | (clear g18 h157 z_198 h200; omega) | (clear g18 h157 z_198; omega) | omega)) (fun v206 e207 => to_2s (pc := 204) rw_171_204 (v := ((1 : Int64) <<< (v206.toInt64 &&& 63))) rfl (to_2l (pc := 205) rw_171_205 (v := (y4 ||| ((1 : Int64) <<< (v206.toInt64 &&& 63)))) rfl (to_ls (pc := 206) rw_171_206 (ls2 := [.ref 77, .int x1, .int x2, .int x3, .long (y4 ||| ((1 : Int64) <<< (v206.toInt64 &&& 63))), .null]) rfl rfl (s_inc (pc := 208) rw_171_208 (ls2 := fun v => [.ref 77, .int x1, .int x2, .int v, .long (y4 ||| ((1 : Int64) <<< (v206.toInt64 &&& 63))), .null]) rfl rfl (fun _ => rfl) (A := x3.toInt) (B := 1) rfl rfl (by (first | (clear g18 h157 z_198 h200; omega) | (clear g18 h157 z_198; omega) | omega)) (fun v208 e209 => to_an (pc := 211) rw_171_211 rfl (s_v (pc := 212) rw_171_212 (dp0 hd (by decide)) (ls0 := [.ref 77]) rfl (Nat.le_of_ble_eq_true rfl) (Nat.le_of_ble_eq_true rfl) rfl (to_rc rfl rfl rfl (g_o hG rfl)) rfl ?_))))))))
            have b_210 := g_b hG (a := 77) (i := 7) (lo := 0) (hi := 500) rfl rfl
            have b_211 := g_b hG (a := 77) (i := 6) (lo := 0) (hi := 500) rfl rfl
            have z_212 := RS_b g11 (a := (N.2.1 77 10).toInt) (by (first | (clear g18 h157 z_198 h200; omega) | (clear g18 h157 z_198; omega) | omega))
            refine E_156 hX (dp1 hd (by decide)) hG (by (first | (clear g18 h157 z_198 h200; omega) | (clear g18 h157 z_198; omega) | omega)) (by (first | (clear g18 h157 z_198 h200; omega) | (clear g18 h157 z_198; omega) | omega)) (by (first | (clear g18 h157 z_198 h200; omega) | (clear g18 h157 z_198; omega) | omega)) (by (first | (clear g18 h157 z_198 h200; omega) | (clear g18 h157 z_198; omega) | omega)) g12 g13  (fun M219 hG214 F213 p_215 p_216 p_217 p_218 => ?_)
            have F220 := FR.c F0 F213 tg_58
            have b_221 := g_b hG214 (a := 77) (i := 7) (lo := 0) (hi := 500) rfl rfl
            have c_222 : M219.2.1 77 6 = (N.2.1 77 6) := (F_n F213 (show ¬ (77 = 77 ∧ 7 ≤ 6 ∧ 6 ≤ 10) by decide) rfl)
            have t_223 : (M219.2.1 77 6).toInt = (N.2.1 77 6).toInt := congrArg Int32.toInt c_222
            have b_224 := g_b hG214 (a := 77) (i := 8) (lo := 0) (hi := 5) rfl rfl
            have b_225 := g_b hG214 (a := 77) (i := 10) (lo := 0) (hi := 500) rfl rfl
            have z_226 := RS_s p_218.2 (a := (N.2.1 77 10).toInt) (by (first | (clear g18 h157 z_198 h200 p_217; omega) | (clear g18 h157 z_198 p_217; omega) | omega))
            refine to_go (pc := 215) rw_171_215 ?_
            have c_227 : M219.2.1 77 16 = (N.2.1 77 16) := (F_n F213 (show ¬ (77 = 77 ∧ 7 ≤ 16 ∧ 16 ≤ 10) by decide) rfl)
            have t_228 : (M219.2.1 77 16).toInt = (N.2.1 77 16).toInt := congrArg Int32.toInt c_227
            have j_229 := (TR_f (tg_47 F213) g12)
            have j_230 := (W9_f (tg_48 F213) g13)
            have j_231 := (PLr_f (tg_45 F213) (F_nl F213 (show ¬ (77 = 77 ∧ 7 ≤ 25 ∧ 25 ≤ 10) by decide) rfl) g14)
            have j_232 := (CWr_f (fun k hk9 => F_nl F213 (show ¬ (87 = 77 ∧ 7 ≤ (12 + k) ∧ (12 + k) ≤ 10) by (first | (clear g18 h157 z_198 h200 p_217; omega) | (clear g18 h157 z_198 p_217; omega) | omega)) rfl) g15)
            have c_233 : M219.2.1 77 4 = (N.2.1 77 4) := (F_n F213 (show ¬ (77 = 77 ∧ 7 ≤ 4 ∧ 4 ≤ 10) by decide) rfl)
            have t_234 : (M219.2.1 77 4).toInt = (N.2.1 77 4).toInt := congrArg Int32.toInt c_233
            have c_235 : M219.2.1 77 5 = (N.2.1 77 5) := (F_n F213 (show ¬ (77 = 77 ∧ 7 ≤ 5 ∧ 5 ≤ 10) by decide) rfl)
            have t_236 : (M219.2.1 77 5).toInt = (N.2.1 77 5).toInt := congrArg Int32.toInt c_235
            exact ih M219 x1 x2 v208 (y4 ||| ((1 : Int64) <<< (v206.toInt64 &&& 63))) hG214 F220 (by (first | (clear g18 h157 z_198 h200 p_217; omega) | (clear g18 h157 z_198 p_217; omega) | omega)) (by (first | (clear g18 h157 z_198 h200 p_217; omega) | (clear g18 h157 z_198 p_217; omega) | omega)) (by (first | (clear g18 h157 z_198 h200 p_217; omega) | (clear g18 h157 z_198 p_217; omega) | omega)) (by (first | (clear g18 h157 z_198 h200 p_217; omega) | (clear g18 h157 z_198 p_217; omega) | omega)) (by (first | (clear g18 h157 z_198 h200 p_217; omega) | (clear g18 h157 z_198 p_217; omega) | omega)) (by (first | (clear g18 h157 z_198 h200 p_217; omega) | (clear g18 h157 z_198 p_217; omega) | omega)) (by (first | (clear g18 h157 z_198 h200 p_217; omega) | (clear g18 h157 z_198 p_217; omega) | omega)) (by (first | (clear g18 h157 z_198 h200 p_217; omega) | (clear g18 h157 z_198 p_217; omega) | omega)) (by (first | (clear g18 h157 z_198 h200 p_217; omega) | (clear g18 h157 z_198 p_217; omega) | omega)) (by (first | (clear g18 h157 z_198 h200 p_217; omega) | (clear g18 h157 z_198 p_217; omega) | omega)) p_218.1 j_229 j_230 j_231 j_232 (x_rc_s (fu := (6 - x3.toInt).toNat) (told := x3.toInt) (bits := y4) (b := (N.2.1 77 10).toInt) (by (first | (clear g18 h157 z_198 h200 p_217; omega) | (clear g18 h157 z_198 p_217; omega) | omega)) (by (first | (clear g18 h157 z_198 h200 p_217; omega) | (clear g18 h157 z_198 p_217; omega) | omega)) (by (first | (clear g18 h157 z_198 h200 p_217; omega) | (clear g18 h157 z_198 p_217; omega) | omega)) (by (first | (clear g18 h157 z_198 h200 p_217; omega) | (clear g18 h157 z_198 p_217; omega) | omega)) (by (first | (clear g18 h157 z_198 h200 p_217; omega) | (clear g18 h157 z_198 p_217; omega) | omega)) (congrArg (fun z => y4 ||| z) (x_bit_e (v := v206) (by (first | (clear g18 h157 z_198 h200 p_217; omega) | (clear g18 h157 z_198 p_217; omega) | omega)))) g16) (by (first | (clear g18 h157 z_198 h200 p_217; omega) | (clear g18 h157 z_198 p_217; omega) | omega)) (fun z => by exfalso; omega) (by (first | (clear g18 h157 z_198 h200 p_217; omega) | (clear g18 h157 z_198 p_217; omega) | omega))
          · refine to_c (pc := 10) rw_150_10 (x := (1 : Int32)) rfl rfl (to_go (pc := 11) rw_150_11 (s_r1 (pc := 15) rw_150_15 (A := 1) rfl (by decide) (b_ieq_f (pc := 178) rw_171_178 (A := 1) rfl (by decide) (to_an (pc := 181) rw_171_181 rfl (to_c (pc := 182) rw_171_182 (x := (3 : Int32)) rfl rfl (s_v (pc := 183) rw_171_183 (dp0 hd (by decide)) (ls0 := [.ref 77, .int (3 : Int32)]) rfl (Nat.le_of_ble_eq_true rfl) (Nat.le_of_ble_eq_true rfl) rfl (to_rc rfl rfl rfl (g_o hG rfl)) rfl (to_an (pc := 0) rw_152_0 rfl (to_in (pc := 1) rw_152_1 rfl (s_pI (pc := 2) rw_152_2 hG rfl (fun M238 W237 => ?_))))))))))
            have hG239 := g_wf hG W237 rfl rfl (by decide)
            have F240 := FR.w F0 W237 (show 77 = 77 ∧ (4 = 4 ∨ 4 = 5 ∨ 7 ≤ 4 ∧ 4 ≤ 10 ∨ 4 = 16) ∨ 85 ≤ 77 ∧ 77 ≤ 87 ∧ 12 ≤ 4 by decide)
            refine to_an (pc := 5) rw_152_5 rfl (to_an (pc := 6) rw_152_6 rfl ?_)
            have c_241 : M238.2.1 77 10 = (N.2.1 77 10) := (W_n W237 (by decide) rfl)
            refine tt_gI (pc := 7) rw_152_7 (g_o hG239 rfl) (v := (N.2.1 77 10)) c_241 (s_pI (pc := 10) rw_152_10 hG239 rfl (fun M243 W242 => ?_))
            have hG244 := g_wf hG239 W242 rfl rfl (by decide)
            have F245 := FR.w F240 W242 (show 77 = 77 ∧ (5 = 4 ∨ 5 = 5 ∨ 7 ≤ 5 ∧ 5 ≤ 10 ∨ 5 = 16) ∨ 85 ≤ 77 ∧ 77 ≤ 87 ∧ 12 ≤ 5 by decide)
            refine to_c (pc := 13) rw_152_13 (x := (0 : Int32)) rfl rfl (s_r1 (pc := 14) rw_152_14 (A := 0) rfl (by decide) (s_r1 (pc := 186) rw_171_186 (A := 0) rfl (by decide) ?_))
            have k_246 : (0 : Int32).toInt = 0 := rfl
            have j_247 := (RS_f (fun a i z => W_n W242 (tg_37 a i z) rfl) (RS_f (fun a i z => W_n W237 (tg_38 a i z) rfl) g11))
            have c_248 : M243.2.1 77 4 = (3 : Int32) := (W_n W242 (by decide) (W_e W237))
            have k_249 : (3 : Int32).toInt = 3 := rfl
            have t_250 : (M243.2.1 77 4).toInt = (3 : Int32).toInt := congrArg Int32.toInt c_248
            have c_251 : M243.2.1 77 5 = (N.2.1 77 10) := (W_e W242)
            have t_252 : (M243.2.1 77 5).toInt = (N.2.1 77 10).toInt := congrArg Int32.toInt c_251
            exact h (0 : Int32) M243 hG244 F245 (by decide) (by decide) j_247 (fun _ => pinl (by (first | (clear g18 h157 z_198; omega) | (clear g18 z_198; omega) | omega)) (by (first | (clear g18 h157 z_198; omega) | (clear g18 z_198; omega) | omega)) (g16.symm.trans (x_rc_3 (by (first | (clear g18 h157 z_198; omega) | (clear g18 z_198; omega) | omega)) (by (first | (clear g18 h157 z_198; omega) | (clear g18 z_198; omega) | omega)) (by (first | (clear g18 h157 z_198; omega) | (clear g18 z_198; omega) | omega)) (by (first | (clear g18 h157 z_198; omega) | (clear g18 z_198; omega) | omega))))) (fun z => absurd z (by decide)) (by (first | (clear g18 h157 z_198; omega) | (clear g18 z_198; omega) | omega))
        · refine to_an (pc := 153) rw_171_153 rfl (to_c (pc := 154) rw_171_154 (x := (2 : Int32)) rfl rfl (s_v (pc := 155) rw_171_155 (dp0 hd (by decide)) (ls0 := [.ref 77, .int (2 : Int32)]) rfl (Nat.le_of_ble_eq_true rfl) (Nat.le_of_ble_eq_true rfl) rfl (to_rc rfl rfl rfl (g_o hG rfl)) rfl (to_an (pc := 0) rw_152_0 rfl (to_in (pc := 1) rw_152_1 rfl (s_pI (pc := 2) rw_152_2 hG rfl (fun M254 W253 => ?_))))))
          have hG255 := g_wf hG W253 rfl rfl (by decide)
          have F256 := FR.w F0 W253 (show 77 = 77 ∧ (4 = 4 ∨ 4 = 5 ∨ 7 ≤ 4 ∧ 4 ≤ 10 ∨ 4 = 16) ∨ 85 ≤ 77 ∧ 77 ≤ 87 ∧ 12 ≤ 4 by decide)
          refine to_an (pc := 5) rw_152_5 rfl (to_an (pc := 6) rw_152_6 rfl ?_)
          have c_257 : M254.2.1 77 10 = (N.2.1 77 10) := (W_n W253 (by decide) rfl)
          refine tt_gI (pc := 7) rw_152_7 (g_o hG255 rfl) (v := (N.2.1 77 10)) c_257 (s_pI (pc := 10) rw_152_10 hG255 rfl (fun M259 W258 => ?_))
          have hG260 := g_wf hG255 W258 rfl rfl (by decide)
          have F261 := FR.w F256 W258 (show 77 = 77 ∧ (5 = 4 ∨ 5 = 5 ∨ 7 ≤ 5 ∧ 5 ≤ 10 ∨ 5 = 16) ∨ 85 ≤ 77 ∧ 77 ≤ 87 ∧ 12 ≤ 5 by decide)
          refine to_c (pc := 13) rw_152_13 (x := (0 : Int32)) rfl rfl (s_r1 (pc := 14) rw_152_14 (A := 0) rfl (by decide) (s_r1 (pc := 158) rw_171_158 (A := 0) rfl (by decide) ?_))
          have k_262 : (0 : Int32).toInt = 0 := rfl
          have j_263 := (RS_f (fun a i z => W_n W258 (tg_37 a i z) rfl) (RS_f (fun a i z => W_n W253 (tg_38 a i z) rfl) g11))
          have c_264 : M259.2.1 77 4 = (2 : Int32) := (W_n W258 (by decide) (W_e W253))
          have k_265 : (2 : Int32).toInt = 2 := rfl
          have t_266 : (M259.2.1 77 4).toInt = (2 : Int32).toInt := congrArg Int32.toInt c_264
          have c_267 : M259.2.1 77 5 = (N.2.1 77 10) := (W_e W258)
          have t_268 : (M259.2.1 77 5).toInt = (N.2.1 77 10).toInt := congrArg Int32.toInt c_267
          exact h (0 : Int32) M259 hG260 F261 (by decide) (by decide) j_263 (fun _ => pinl (by (first | (clear g18 h157; omega) | (clear g18; omega) | omega)) (by (first | (clear g18 h157; omega) | (clear g18; omega) | omega)) (g16.symm.trans (x_rc_2 (by (first | (clear g18 h157; omega) | (clear g18; omega) | omega)) (by (first | (clear g18 h157; omega) | (clear g18; omega) | omega)) (by (first | (clear g18 h157; omega) | (clear g18; omega) | omega))))) (fun z => absurd z (by decide)) (by (first | (clear g18 h157; omega) | (clear g18; omega) | omega))
set_option maxRecDepth 4000 in
set_option maxHeartbeats 0 in
theorem E_171 {X : mm_X} {d : Nat} {M : mm_M} {Q : Option Value → mm_M → Prop} {t : Nat → Int} {nn : Int} {a : Int} {sg : x_S} {k : x_K} (hX : g_X X) (hd : 3 ≤ d) (hG : g_G M) (q1 : RS M t nn) (q2 : (M.2.1 77 10).toInt = a) (q3 : 0 ≤ nn) (q4 : nn ≤ 500) (q5 : TR M t nn) (q6 : W9 M) (q7 : PLr M sg) (q8 : CWr M sg) (h : ∀ (r : Int32) (M1 : mm_M), g_G M1 → FR md_w171 M M1 → (0 ≤ r.toInt) → (r.toInt ≤ 1) → RS M1 t nn → ((r.toInt = 0 → x_word t nn sg a (x_ns t nn a) k = (Sum.inl ((M1.2.1 77 4).toInt, (M1.2.1 77 5).toInt) : x_Res))) → ((r.toInt = 1 → WOr t nn (x_word t nn sg a (x_ns t nn a) k) k M1 sg)) → (r.toInt = 1 → (M1.2.1 77 4).toInt = (M.2.1 77 4).toInt ∧ (M1.2.1 77 5).toInt = (M.2.1 77 5).toInt) → Q (some (.int r)) M1) : mm_T X d 170 0 [.ref 77, .null, .null, .null, .null, .null] [] M Q := by
  have F0 : FR md_w171 M M := FR.rf
  have b_269 := g_b hG (a := 77) (i := 10) (lo := 0) (hi := 500) rfl rfl
  have z_270 := q7.2.1
  have z_271 := q7.2.2.1
  have z_272 := q7.2.2.2.1
  have z_273 := q7.1
  have z_274 := z_273.1
  have z_275 := z_273.2.1
  have z_276 := z_273.2.2.1
  have z_277 := z_273.2.2.2.1
  have z_278 := z_273.2.2.2.2.1
  have z_279 := z_273.2.2.2.2.2.1
  have b_280 := g_b hG (a := 77) (i := 14) (lo := 10) (hi := 60) rfl rfl
  have b_281 := g_b hG (a := 77) (i := 15) (lo := 0) (hi := 8) rfl rfl
  have b_282 := g_b hG (a := 77) (i := 16) (lo := 0) (hi := 12) rfl rfl
  have z_283 := x_fn_b (s := sg) (v := x_val t nn (x_ns t nn a)) q7.1
  refine to_an (pc := 0) rw_171_0 rfl (tt_gI (pc := 1) rw_171_1 (g_o hG rfl) (v := (M.2.1 77 16)) rfl (to_c (pc := 4) rw_171_4 (x := (12 : Int32)) rfl rfl (b_cne (pc := 6) rw_171_6 (A := (M.2.1 77 16).toInt) (B := 12) rfl rfl (fun h284 => ?_) (fun h284 => ?_))))
  · refine to_an (pc := 15) rw_171_15 rfl (s_v (pc := 16) rw_171_16 (dp0 hd (by decide)) (ls0 := [.ref 77]) rfl (Nat.le_of_ble_eq_true rfl) (Nat.le_of_ble_eq_true rfl) rfl (to_rc rfl rfl rfl (g_o hG rfl)) rfl ?_)
    have b_285 := g_b hG (a := 77) (i := 7) (lo := 0) (hi := 500) rfl rfl
    have b_286 := g_b hG (a := 77) (i := 6) (lo := 0) (hi := 500) rfl rfl
    have z_287 := RS_b q1 (a := a) (by (first | (clear z_283 h284; omega) | (clear z_283; omega) | omega))
    refine E_156 hX (dp1 hd (by decide)) hG (by (first | (clear z_283 h284; omega) | (clear z_283; omega) | omega)) (by (first | (clear z_283 h284; omega) | (clear z_283; omega) | omega)) (by (first | (clear z_283 h284; omega) | (clear z_283; omega) | omega)) (by (first | (clear z_283 h284; omega) | (clear z_283; omega) | omega)) q5 q6  (fun M294 hG289 F288 p_290 p_291 p_292 p_293 => ?_)
    have F295 := FR.c F0 F288 tg_58
    have b_296 := g_b hG289 (a := 77) (i := 7) (lo := 0) (hi := 500) rfl rfl
    have c_297 : M294.2.1 77 6 = (M.2.1 77 6) := (F_n F288 (show ¬ (77 = 77 ∧ 7 ≤ 6 ∧ 6 ≤ 10) by decide) rfl)
    have t_298 : (M294.2.1 77 6).toInt = (M.2.1 77 6).toInt := congrArg Int32.toInt c_297
    have b_299 := g_b hG289 (a := 77) (i := 8) (lo := 0) (hi := 5) rfl rfl
    have b_300 := g_b hG289 (a := 77) (i := 10) (lo := 0) (hi := 500) rfl rfl
    have z_301 := RS_s p_293.2 (a := a) (by (first | (clear z_283 h284 p_292; omega) | (clear z_283 p_292; omega) | omega))
    have c_302 := RS_u p_293.1 (a := (x_ns t nn a)) (by (first | (clear z_283 h284 p_292; omega) | (clear z_283 p_292; omega) | omega))
    unfold x_R at c_302
    refine to_an (pc := 19) rw_171_19 rfl (tt_gI (pc := 20) rw_171_20 (g_o hG289 rfl) (v := (M294.2.1 77 8)) rfl (to_c (pc := 23) rw_171_23 (x := (2 : Int32)) rfl rfl (b_ceq (pc := 24) rw_171_24 (A := (M294.2.1 77 8).toInt) (B := 2) rfl rfl (fun h303 => ?_) (fun h303 => ?_))))
    · refine to_an (pc := 33) rw_171_33 rfl (to_an (pc := 34) rw_171_34 rfl (tt_gI (pc := 35) rw_171_35 (g_o hG289 rfl) (v := (M294.2.1 77 9)) rfl (s_v (pc := 38) rw_171_38 (dp0 hd (by decide)) (ls0 := [.ref 77, .int (M294.2.1 77 9), .null]) rfl (Nat.le_of_ble_eq_true rfl) (Nat.le_of_ble_eq_true rfl) rfl (to_rc rfl rfl rfl (g_o hG289 rfl)) rfl ?_)))
      have j_304 := (PLr_f (tg_45 F288) (F_nl F288 (show ¬ (77 = 77 ∧ 7 ≤ 25 ∧ 25 ≤ 10) by decide) rfl) q7)
      refine E_166 hX (dp1 hd (by decide)) hG289 j_304 (n := (M294.2.1 77 9)) (sg := sg) (fun r305 M311 hG307 F306 p_308 p_309 p_310 => ?_)
      have F312 := FR.c F295 F306 tg_59
      have z_313 := x_fn_v (s := sg) (r := 1) (v := (M294.2.1 77 9).toInt) (w := x_val t nn (x_ns t nn a))
      refine to_isn (pc := 41) rw_171_41 (ls2 := [.ref 77, .int r305, .null, .null, .null, .null]) rfl rfl (to_in (pc := 42) rw_171_42 rfl (b_ilt (pc := 43) rw_171_43 (A := r305.toInt) rfl (fun h314 => ?_) (fun h314 => ?_)))
      · refine to_an (pc := 59) rw_171_59 rfl (to_c (pc := 60) rw_171_60 (x := (4 : Int32)) rfl rfl (s_v (pc := 61) rw_171_61 (dp0 hd (by decide)) (ls0 := [.ref 77, .int (4 : Int32)]) rfl (Nat.le_of_ble_eq_true rfl) (Nat.le_of_ble_eq_true rfl) rfl (to_rc rfl rfl rfl (g_o hG307 rfl)) rfl (to_an (pc := 0) rw_152_0 rfl (to_in (pc := 1) rw_152_1 rfl (s_pI (pc := 2) rw_152_2 hG307 rfl (fun M316 W315 => ?_))))))
        have hG317 := g_wf hG307 W315 rfl rfl (by decide)
        have F318 := FR.w F312 W315 (show 77 = 77 ∧ (4 = 4 ∨ 4 = 5 ∨ 7 ≤ 4 ∧ 4 ≤ 10 ∨ 4 = 16) ∨ 85 ≤ 77 ∧ 77 ≤ 87 ∧ 12 ≤ 4 by decide)
        refine to_an (pc := 5) rw_152_5 rfl (to_an (pc := 6) rw_152_6 rfl ?_)
        have c_319 : M316.2.1 77 10 = (M294.2.1 77 10) := (W_n W315 (by decide) (F_n F306 (show ¬ (77 < 0) by decide) rfl))
        refine tt_gI (pc := 7) rw_152_7 (g_o hG317 rfl) (v := (M294.2.1 77 10)) c_319 (s_pI (pc := 10) rw_152_10 hG317 rfl (fun M321 W320 => ?_))
        have hG322 := g_wf hG317 W320 rfl rfl (by decide)
        have F323 := FR.w F318 W320 (show 77 = 77 ∧ (5 = 4 ∨ 5 = 5 ∨ 7 ≤ 5 ∧ 5 ≤ 10 ∨ 5 = 16) ∨ 85 ≤ 77 ∧ 77 ≤ 87 ∧ 12 ≤ 5 by decide)
        refine to_c (pc := 13) rw_152_13 (x := (0 : Int32)) rfl rfl (s_r1 (pc := 14) rw_152_14 (A := 0) rfl (by decide) (s_r1 (pc := 64) rw_171_64 (A := 0) rfl (by decide) ?_))
        have k_324 : (0 : Int32).toInt = 0 := rfl
        have j_325 := (RS_f (fun a i z => W_n W320 (tg_37 a i z) rfl) (RS_f (fun a i z => W_n W315 (tg_38 a i z) rfl) (RS_f (tg_40 F306) p_293.1)))
        have c_326 : M321.2.1 77 4 = (4 : Int32) := (W_n W320 (by decide) (W_e W315))
        have k_327 : (4 : Int32).toInt = 4 := rfl
        have t_328 : (M321.2.1 77 4).toInt = (4 : Int32).toInt := congrArg Int32.toInt c_326
        have c_329 : M321.2.1 77 5 = (M294.2.1 77 10) := (W_e W320)
        have t_330 : (M321.2.1 77 5).toInt = (M294.2.1 77 10).toInt := congrArg Int32.toInt c_329
        exact h (0 : Int32) M321 hG322 F323 (by decide) (by decide) j_325 (fun _ => pinl (by (first | (clear z_283 h284 p_292; omega) | (clear z_283 p_292; omega) | omega)) (by (first | (clear z_283 h284 p_292; omega) | (clear z_283 p_292; omega) | omega)) (xw_14 (by (first | (clear z_283 h284 p_292; omega) | (clear z_283 p_292; omega) | omega)) (by (first | (clear z_283 h284 p_292; omega) | (clear z_283 p_292; omega) | omega)) (by (first | (clear z_283 h284 p_292; omega) | (clear z_283 p_292; omega) | omega)))) (fun z => absurd z (by decide)) (by (first | (clear z_283 h284 p_292; omega) | (clear z_283 p_292; omega) | omega))
      · refine to_an (pc := 46) rw_171_46 rfl (s_gR (pc := 47) rw_171_47 hG307 rfl (v := 81) rfl (to_c (pc := 50) rw_171_50 (x := (8 : Int32)) rfl rfl (to_in (pc := 52) rw_171_52 rfl (s_add (pc := 53) rw_171_53 (A := 8) (B := r305.toInt) rfl rfl (by (first | (clear z_283 h284 p_292; omega) | (clear z_283 p_292; omega) | omega)) (fun v331 e332 => s_ial (pc := 54) rw_171_54 hG307 rfl (n := 16) rfl rfl (A := v331.toInt) rfl (by (first | (clear z_283 h284 p_292; omega) | (clear z_283 p_292; omega) | omega)) (by (first | (clear z_283 h284 p_292; omega) | (clear z_283 p_292; omega) | omega)) (lo := 0) (hi := 3) rfl rfl (fun v333 w_334 _ _ => ?_))))))
        have j_335 := (PLr_f (tg_39 F306) (F_nl F306 (show ¬ (77 < 0) by decide) rfl) j_304)
        have z_336 := PLr_r j_335 2 81 rfl (by decide) (by decide) (k := r305.toInt) (by (first | (clear z_283 h284 p_292; omega) | (clear z_283 p_292; omega) | omega)) (by (first | (clear z_283 h284 p_292; omega) | (clear z_283 p_292; omega) | omega)) (by (first | (clear z_283 h284 p_292; omega) | (clear z_283 p_292; omega) | omega)) w_334
        have z_337 := x_row_v (s := sg) (r := 2) (x := r305.toInt) (y := x_fn sg 1 (x_val t nn (x_ns t nn a)))
        refine to_c (pc := 55) rw_171_55 (x := (3 : Int32)) rfl rfl (b_ceq (pc := 56) rw_171_56 (A := v333.toInt) (B := 3) rfl rfl (fun h338 => ?_) (fun h338 => ?_))
        · refine to_an (pc := 65) rw_171_65 rfl (s_v (pc := 66) rw_171_66 (dp0 hd (by decide)) (ls0 := [.ref 77]) rfl (Nat.le_of_ble_eq_true rfl) (Nat.le_of_ble_eq_true rfl) rfl (to_rc rfl rfl rfl (g_o hG307 rfl)) rfl ?_)
          have c_339 : M311.2.1 77 7 = (M294.2.1 77 7) := (F_n F306 (show ¬ (77 < 0) by decide) rfl)
          have t_340 : (M311.2.1 77 7).toInt = (M294.2.1 77 7).toInt := congrArg Int32.toInt c_339
          have c_341 : M311.2.1 77 6 = (M.2.1 77 6) := (F_n F306 (show ¬ (77 < 0) by decide) c_297)
          have t_342 : (M311.2.1 77 6).toInt = (M.2.1 77 6).toInt := congrArg Int32.toInt c_341
          have c_343 : M311.2.1 77 10 = (M294.2.1 77 10) := (F_n F306 (show ¬ (77 < 0) by decide) rfl)
          have t_344 : (M311.2.1 77 10).toInt = (M294.2.1 77 10).toInt := congrArg Int32.toInt c_343
          have j_345 := (RS_f (tg_40 F306) p_293.1)
          have z_346 := RS_b j_345 (a := (x_ns t nn a)) (by (first | (clear z_283 h284 p_292; omega) | (clear z_283 p_292; omega) | omega))
          have j_347 := (TR_f (tg_9 F306) (TR_f (tg_47 F288) q5))
          have j_348 := (W9_f (tg_43 F306) (W9_f (tg_48 F288) q6))
          refine E_156 hX (dp1 hd (by decide)) hG307 (by (first | (clear z_283 h284 p_292; omega) | (clear z_283 p_292; omega) | omega)) (by (first | (clear z_283 h284 p_292; omega) | (clear z_283 p_292; omega) | omega)) (by (first | (clear z_283 h284 p_292; omega) | (clear z_283 p_292; omega) | omega)) (by (first | (clear z_283 h284 p_292; omega) | (clear z_283 p_292; omega) | omega)) j_347 j_348  (fun M355 hG350 F349 p_351 p_352 p_353 p_354 => ?_)
          have F356 := FR.c F312 F349 tg_58
          have b_357 := g_b hG350 (a := 77) (i := 7) (lo := 0) (hi := 500) rfl rfl
          have c_358 : M355.2.1 77 6 = (M.2.1 77 6) := (F_n F349 (show ¬ (77 = 77 ∧ 7 ≤ 6 ∧ 6 ≤ 10) by decide) c_341)
          have t_359 : (M355.2.1 77 6).toInt = (M.2.1 77 6).toInt := congrArg Int32.toInt c_358
          have b_360 := g_b hG350 (a := 77) (i := 8) (lo := 0) (hi := 5) rfl rfl
          have b_361 := g_b hG350 (a := 77) (i := 10) (lo := 0) (hi := 500) rfl rfl
          have z_362 := RS_s p_354.2 (a := (x_ns t nn a)) (by (first | (clear z_283 h284 p_292 p_353; omega) | (clear z_283 p_292 p_353; omega) | omega))
          refine to_an (pc := 69) rw_171_69 rfl (s_v (pc := 70) rw_171_70 (dp0 hd (by decide)) (ls0 := [.ref 77]) rfl (Nat.le_of_ble_eq_true rfl) (Nat.le_of_ble_eq_true rfl) rfl (to_rc rfl rfl rfl (g_o hG350 rfl)) rfl ?_)
          have c_363 : M355.2.1 77 4 = (M.2.1 77 4) := (F_n F349 (show ¬ (77 = 77 ∧ 7 ≤ 4 ∧ 4 ≤ 10) by decide) (F_n F306 (show ¬ (77 < 0) by decide) (F_n F288 (show ¬ (77 = 77 ∧ 7 ≤ 4 ∧ 4 ≤ 10) by decide) rfl)))
          have t_364 : (M355.2.1 77 4).toInt = (M.2.1 77 4).toInt := congrArg Int32.toInt c_363
          have c_365 : M355.2.1 77 5 = (M.2.1 77 5) := (F_n F349 (show ¬ (77 = 77 ∧ 7 ≤ 5 ∧ 5 ≤ 10) by decide) (F_n F306 (show ¬ (77 < 0) by decide) (F_n F288 (show ¬ (77 = 77 ∧ 7 ≤ 5 ∧ 5 ≤ 10) by decide) rfl)))
          have t_366 : (M355.2.1 77 5).toInt = (M.2.1 77 5).toInt := congrArg Int32.toInt c_365
          have j_367 := (PLr_f (tg_45 F349) (F_nl F349 (show ¬ (77 = 77 ∧ 7 ≤ 25 ∧ 25 ≤ 10) by decide) rfl) j_335)
          refine E_169 hX (dp1 hd (by decide)) hG350 p_354.1 (by (first | (clear z_283 h284 p_292 p_353; omega) | (clear z_283 p_292 p_353; omega) | omega)) j_367 (t := t) (nn := nn) (a := (x_ns t nn (x_ns t nn a))) (sg := sg) (fun r368 M379 hG370 F369 p_371 p_372 p_373 p_374 p_375 p_376 p_377 p_378 => ?_)
          have F380 := FR.c F356 F369 tg_60
          rcases (show r368.toInt = 0 ∨ r368.toInt = 1 by (first | (clear z_283 h284 p_292 p_353 p_373 p_374 p_375 p_376 p_377 p_378; omega) | (clear z_283 p_292 p_353 p_373 p_374 p_375 p_376 p_377 p_378; omega) | omega)) with h381 | h381
          · skip
            have p_382 := p_375 (by (first | (clear z_283 h284 p_292 p_353 p_373 p_374 p_375 p_376 p_377 p_378; omega) | (clear z_283 p_292 p_353 p_373 p_374 p_375 p_376 p_377 p_378; omega) | omega))
            have p_383 := p_376 (by (first | (clear z_283 h284 p_292 p_353 p_373 p_374 p_375 p_376 p_377 p_378; omega) | (clear z_283 p_292 p_353 p_373 p_374 p_375 p_376 p_377 p_378; omega) | omega))
            have p_384 := p_377 (by (first | (clear z_283 h284 p_292 p_353 p_373 p_374 p_375 p_376 p_377 p_378; omega) | (clear z_283 p_292 p_353 p_373 p_374 p_375 p_376 p_377 p_378; omega) | omega))
            clear p_373 p_374 p_375 p_376 p_377 p_378
            refine b_ine_f (pc := 73) rw_171_73 (A := r368.toInt) rfl (by (first | (clear z_283 h284 p_292 p_353; omega) | (clear z_283 p_292 p_353; omega) | omega)) (to_c (pc := 76) rw_171_76 (x := (0 : Int32)) rfl rfl (s_r1 (pc := 77) rw_171_77 (A := 0) rfl (by decide) ?_))
            have k_385 : (0 : Int32).toInt = 0 := rfl
            have j_386 := (RS_f (tg_41 F369) p_354.1)
            exact h (0 : Int32) M379 hG370 F380 (by decide) (by decide) j_386 (fun _ => (if g9 : x_kind t nn (x_ns t nn (x_ns t nn a)) = 2 then pinl (by have z9 := p_384.1 g9; omega) (by (first | (clear z_283 h284 p_292 p_353; omega) | (clear z_283 p_292 p_353; omega) | omega)) (xw_23 (by (first | (clear z_283 h284 p_292 p_353; omega) | (clear z_283 p_292 p_353; omega) | omega)) g9 (by (first | (clear z_283 h284 p_292 p_353; omega) | (clear z_283 p_292 p_353; omega) | omega))) else pinl (by have z9 := p_384.2 g9; omega) (by (first | (clear z_283 h284 p_292 p_353; omega) | (clear z_283 p_292 p_353; omega) | omega)) (xw_21 (by (first | (clear z_283 h284 p_292 p_353; omega) | (clear z_283 p_292 p_353; omega) | omega)) g9))) (fun z => absurd z (by decide)) (by (first | (clear z_283 h284 p_292 p_353; omega) | (clear z_283 p_292 p_353; omega) | omega))
          · skip
            have p_387 := p_373 (by (first | (clear z_283 h284 p_292 p_353 p_373 p_374 p_375 p_376 p_377 p_378; omega) | (clear z_283 p_292 p_353 p_373 p_374 p_375 p_376 p_377 p_378; omega) | omega))
            have p_388 := p_374 (by (first | (clear z_283 h284 p_292 p_353 p_373 p_374 p_375 p_376 p_377 p_378; omega) | (clear z_283 p_292 p_353 p_373 p_374 p_375 p_376 p_377 p_378; omega) | omega))
            have p_389 := p_378 (by (first | (clear z_283 h284 p_292 p_353 p_373 p_374 p_375 p_376 p_377 p_378; omega) | (clear z_283 p_292 p_353 p_373 p_374 p_375 p_376 p_377 p_378; omega) | omega))
            clear p_373 p_374 p_375 p_376 p_377 p_378
            refine b_ine_t (pc := 73) rw_171_73 (A := r368.toInt) rfl (by (first | (clear z_283 h284 p_292 p_353; omega) | (clear z_283 p_292 p_353; omega) | omega)) (to_an (pc := 78) rw_171_78 rfl ?_)
            have c_390 : M379.2.1 77 9 = (M355.2.1 77 9) := (F_n F369 (show ¬ (77 = 77 ∧ (9 = 4 ∨ 9 = 5)) by decide) rfl)
            refine tt_gI (pc := 79) rw_171_79 (g_o hG370 rfl) (v := (M355.2.1 77 9)) c_390 (to_isn (pc := 82) rw_171_82 (ls2 := [.ref 77, .int r305, .int (M355.2.1 77 9), .null, .null, .null]) rfl rfl (to_an (pc := 83) rw_171_83 rfl (s_v (pc := 84) rw_171_84 (dp0 hd (by decide)) (ls0 := [.ref 77]) rfl (Nat.le_of_ble_eq_true rfl) (Nat.le_of_ble_eq_true rfl) rfl (to_rc rfl rfl rfl (g_o hG370 rfl)) rfl ?_)))
            have c_391 : M379.2.1 77 7 = (M355.2.1 77 7) := (F_n F369 (show ¬ (77 = 77 ∧ (7 = 4 ∨ 7 = 5)) by decide) rfl)
            have t_392 : (M379.2.1 77 7).toInt = (M355.2.1 77 7).toInt := congrArg Int32.toInt c_391
            have c_393 : M379.2.1 77 6 = (M.2.1 77 6) := (F_n F369 (show ¬ (77 = 77 ∧ (6 = 4 ∨ 6 = 5)) by decide) c_358)
            have t_394 : (M379.2.1 77 6).toInt = (M.2.1 77 6).toInt := congrArg Int32.toInt c_393
            have c_395 : M379.2.1 77 10 = (M355.2.1 77 10) := (F_n F369 (show ¬ (77 = 77 ∧ (10 = 4 ∨ 10 = 5)) by decide) rfl)
            have t_396 : (M379.2.1 77 10).toInt = (M355.2.1 77 10).toInt := congrArg Int32.toInt c_395
            have j_397 := (RS_f (tg_41 F369) p_354.1)
            have z_398 := RS_b j_397 (a := (x_ns t nn (x_ns t nn a))) (by (first | (clear z_283 h284 p_292 p_353; omega) | (clear z_283 p_292 p_353; omega) | omega))
            have j_399 := (TR_f (tg_42 F369) (TR_f (tg_47 F349) j_347))
            have j_400 := (W9_f (tg_44 F369) (W9_f (tg_48 F349) j_348))
            refine E_156 hX (dp1 hd (by decide)) hG370 (by (first | (clear z_283 h284 p_292 p_353; omega) | (clear z_283 p_292 p_353; omega) | omega)) (by (first | (clear z_283 h284 p_292 p_353; omega) | (clear z_283 p_292 p_353; omega) | omega)) (by (first | (clear z_283 h284 p_292 p_353; omega) | (clear z_283 p_292 p_353; omega) | omega)) (by (first | (clear z_283 h284 p_292 p_353; omega) | (clear z_283 p_292 p_353; omega) | omega)) j_399 j_400  (fun M407 hG402 F401 p_403 p_404 p_405 p_406 => ?_)
            have F408 := FR.c F380 F401 tg_58
            have b_409 := g_b hG402 (a := 77) (i := 7) (lo := 0) (hi := 500) rfl rfl
            have c_410 : M407.2.1 77 6 = (M.2.1 77 6) := (F_n F401 (show ¬ (77 = 77 ∧ 7 ≤ 6 ∧ 6 ≤ 10) by decide) c_393)
            have t_411 : (M407.2.1 77 6).toInt = (M.2.1 77 6).toInt := congrArg Int32.toInt c_410
            have b_412 := g_b hG402 (a := 77) (i := 8) (lo := 0) (hi := 5) rfl rfl
            have b_413 := g_b hG402 (a := 77) (i := 10) (lo := 0) (hi := 500) rfl rfl
            have z_414 := RS_s p_406.2 (a := (x_ns t nn (x_ns t nn a))) (by (first | (clear z_283 h284 p_292 p_353 p_405; omega) | (clear z_283 p_292 p_353 p_405; omega) | omega))
            have c_415 := RS_u p_406.1 (a := (x_ns t nn (x_ns t nn (x_ns t nn a)))) (by (first | (clear z_283 h284 p_292 p_353 p_405; omega) | (clear z_283 p_292 p_353 p_405; omega) | omega))
            unfold x_R at c_415
            refine to_an (pc := 87) rw_171_87 rfl (tt_gI (pc := 88) rw_171_88 (g_o hG402 rfl) (v := (M407.2.1 77 8)) rfl (to_c (pc := 91) rw_171_91 (x := (3 : Int32)) rfl rfl (b_ceq (pc := 92) rw_171_92 (A := (M407.2.1 77 8).toInt) (B := 3) rfl rfl (fun h416 => ?_) (fun h416 => ?_))))
            · refine to_c (pc := 101) rw_171_101 (x := (0 : Int32)) rfl rfl (to_isn (pc := 102) rw_171_102 (ls2 := [.ref 77, .int r305, .int (M355.2.1 77 9), .int (0 : Int32), .null, .null]) rfl rfl (to_cl (pc := 103) rw_171_103 rfl (x := (0 : Int64)) rfl (to_ls (pc := 104) rw_171_104 (ls2 := [.ref 77, .int r305, .int (M355.2.1 77 9), .int (0 : Int32), .long (0 : Int64), .null]) rfl rfl ?_)))
              have k_417 : (0 : Int32).toInt = 0 := rfl
              have c_418 : M407.2.1 77 16 = (M.2.1 77 16) := (F_n F401 (show ¬ (77 = 77 ∧ 7 ≤ 16 ∧ 16 ≤ 10) by decide) (F_n F369 (show ¬ (77 = 77 ∧ (16 = 4 ∨ 16 = 5)) by decide) (F_n F349 (show ¬ (77 = 77 ∧ 7 ≤ 16 ∧ 16 ≤ 10) by decide) (F_n F306 (show ¬ (77 < 0) by decide) (F_n F288 (show ¬ (77 = 77 ∧ 7 ≤ 16 ∧ 16 ≤ 10) by decide) rfl)))))
              have t_419 : (M407.2.1 77 16).toInt = (M.2.1 77 16).toInt := congrArg Int32.toInt c_418
              have j_420 := (TR_f (tg_47 F401) j_399)
              have j_421 := (W9_f (tg_48 F401) j_400)
              have j_422 := (PLr_f (tg_45 F401) (F_nl F401 (show ¬ (77 = 77 ∧ 7 ≤ 25 ∧ 25 ≤ 10) by decide) rfl) (PLr_f (tg_46 F369) (F_nl F369 (show ¬ (77 = 77 ∧ (25 = 4 ∨ 25 = 5)) by decide) rfl) j_367))
              have j_423 := (CWr_f (fun k hk9 => F_nl F401 (show ¬ (87 = 77 ∧ 7 ≤ (12 + k) ∧ (12 + k) ≤ 10) by (first | (clear z_283 h284 p_292 p_353 p_405; omega) | (clear z_283 p_292 p_353 p_405; omega) | omega)) rfl) (CWr_f (fun k hk9 => F_nl F369 (show ¬ (87 = 77 ∧ ((12 + k) = 4 ∨ (12 + k) = 5)) by (first | (clear z_283 h284 p_292 p_353 p_405; omega) | (clear z_283 p_292 p_353 p_405; omega) | omega)) rfl) (CWr_f (fun k hk9 => F_nl F349 (show ¬ (87 = 77 ∧ 7 ≤ (12 + k) ∧ (12 + k) ≤ 10) by (first | (clear z_283 h284 p_292 p_353 p_405; omega) | (clear z_283 p_292 p_353 p_405; omega) | omega)) rfl) (CWr_f (fun k hk9 => F_nl F306 (show ¬ (87 < 0) by decide) rfl) (CWr_f (fun k hk9 => F_nl F288 (show ¬ (87 = 77 ∧ 7 ≤ (12 + k) ∧ (12 + k) ≤ 10) by (first | (clear z_283 h284 p_292 p_353 p_405; omega) | (clear z_283 p_292 p_353 p_405; omega) | omega)) rfl) q8)))))
              have z_424 := j_422.1.2.2.2.2.2.2.2 r305.toInt (by (first | (clear z_283 h284 p_292 p_353 p_405; omega) | (clear z_283 p_292 p_353 p_405; omega) | omega)) (by (first | (clear z_283 h284 p_292 p_353 p_405; omega) | (clear z_283 p_292 p_353 p_405; omega) | omega))
              have c_425 : M407.2.1 77 4 = (M379.2.1 77 4) := (F_n F401 (show ¬ (77 = 77 ∧ 7 ≤ 4 ∧ 4 ≤ 10) by decide) rfl)
              have t_426 : (M407.2.1 77 4).toInt = (M379.2.1 77 4).toInt := congrArg Int32.toInt c_425
              have c_427 : M407.2.1 77 5 = (M379.2.1 77 5) := (F_n F401 (show ¬ (77 = 77 ∧ 7 ≤ 5 ∧ 5 ≤ 10) by decide) rfl)
              have t_428 : (M407.2.1 77 5).toInt = (M379.2.1 77 5).toInt := congrArg Int32.toInt c_427
              exact (U_171_0 (t := t) (nn := nn) (a := a) (sg := sg) (k := k) hX hd q1 q2 q3 q4 q5 q6 q7 q8 h ((10 - (0 : Int32).toInt).toNat + 1)) M407 r305 (M355.2.1 77 9) (0 : Int32) (0 : Int64) hG402 F408 (by (first | (clear z_283 h284 p_292 p_353 p_405; omega) | (clear z_283 p_292 p_353 p_405; omega) | omega)) (by (first | (clear z_283 h284 p_292 p_353 p_405; omega) | (clear z_283 p_292 p_353 p_405; omega) | omega)) (by (first | (clear z_283 h284 p_292 p_353 p_405; omega) | (clear z_283 p_292 p_353 p_405; omega) | omega)) (by (first | (clear z_283 h284 p_292 p_353 p_405; omega) | (clear z_283 p_292 p_353 p_405; omega) | omega)) (by (first | (clear z_283 h284 p_292 p_353 p_405; omega) | (clear z_283 p_292 p_353 p_405; omega) | omega)) (by (first | (clear z_283 h284 p_292 p_353 p_405; omega) | (clear z_283 p_292 p_353 p_405; omega) | omega)) (by (first | (clear z_283 h284 p_292 p_353 p_405; omega) | (clear z_283 p_292 p_353 p_405; omega) | omega)) (by (first | (clear z_283 h284 p_292 p_353 p_405; omega) | (clear z_283 p_292 p_353 p_405; omega) | omega)) (by (first | (clear z_283 h284 p_292 p_353 p_405; omega) | (clear z_283 p_292 p_353 p_405; omega) | omega)) (by (first | (clear z_283 h284 p_292 p_353 p_405; omega) | (clear z_283 p_292 p_353 p_405; omega) | omega)) p_406.1 j_420 j_421 j_422 j_423 (by rw [show (M355.2.1 77 9).toInt = x_val t nn (x_ns t nn (x_ns t nn a)) by (first | (clear z_283 h284 p_292 p_353 p_405; omega) | (clear z_283 p_292 p_353 p_405; omega) | omega), show (M407.2.1 77 10).toInt = (x_ns t nn (x_ns t nn (x_ns t nn a))) by (first | (clear z_283 h284 p_292 p_353 p_405; omega) | (clear z_283 p_292 p_353 p_405; omega) | omega)]; exact (x_word_y (by (first | (clear z_283 h284 p_292 p_353 p_405; omega) | (clear z_283 p_292 p_353 p_405; omega) | omega)) (by (first | (clear z_283 h284 p_292 p_353 p_405; omega) | (clear z_283 p_292 p_353 p_405; omega) | omega))).symm) (by (first | (clear z_283 h284 p_292 p_353 p_405; omega) | (clear z_283 p_292 p_353 p_405; omega) | omega)) (fun _ => by rw [show (M407.2.1 77 10).toInt = (x_ns t nn (x_ns t nn (x_ns t nn a))) by (first | (clear z_283 h284 p_292 p_353 p_405; omega) | (clear z_283 p_292 p_353 p_405; omega) | omega)]; (first | (clear z_283 h284 p_292 p_353 p_405; omega) | (clear z_283 p_292 p_353 p_405; omega) | omega)) (by (first | (clear z_283 h284 p_292 p_353 p_405; omega) | (clear z_283 p_292 p_353 p_405; omega) | omega))
            · refine to_an (pc := 95) rw_171_95 rfl (to_c (pc := 96) rw_171_96 (x := (1 : Int32)) rfl rfl (s_v (pc := 97) rw_171_97 (dp0 hd (by decide)) (ls0 := [.ref 77, .int (1 : Int32)]) rfl (Nat.le_of_ble_eq_true rfl) (Nat.le_of_ble_eq_true rfl) rfl (to_rc rfl rfl rfl (g_o hG402 rfl)) rfl (to_an (pc := 0) rw_152_0 rfl (to_in (pc := 1) rw_152_1 rfl (s_pI (pc := 2) rw_152_2 hG402 rfl (fun M430 W429 => ?_))))))
              have hG431 := g_wf hG402 W429 rfl rfl (by decide)
              have F432 := FR.w F408 W429 (show 77 = 77 ∧ (4 = 4 ∨ 4 = 5 ∨ 7 ≤ 4 ∧ 4 ≤ 10 ∨ 4 = 16) ∨ 85 ≤ 77 ∧ 77 ≤ 87 ∧ 12 ≤ 4 by decide)
              refine to_an (pc := 5) rw_152_5 rfl (to_an (pc := 6) rw_152_6 rfl ?_)
              have c_433 : M430.2.1 77 10 = (M407.2.1 77 10) := (W_n W429 (by decide) rfl)
              refine tt_gI (pc := 7) rw_152_7 (g_o hG431 rfl) (v := (M407.2.1 77 10)) c_433 (s_pI (pc := 10) rw_152_10 hG431 rfl (fun M435 W434 => ?_))
              have hG436 := g_wf hG431 W434 rfl rfl (by decide)
              have F437 := FR.w F432 W434 (show 77 = 77 ∧ (5 = 4 ∨ 5 = 5 ∨ 7 ≤ 5 ∧ 5 ≤ 10 ∨ 5 = 16) ∨ 85 ≤ 77 ∧ 77 ≤ 87 ∧ 12 ≤ 5 by decide)
              refine to_c (pc := 13) rw_152_13 (x := (0 : Int32)) rfl rfl (s_r1 (pc := 14) rw_152_14 (A := 0) rfl (by decide) (s_r1 (pc := 100) rw_171_100 (A := 0) rfl (by decide) ?_))
              have k_438 : (0 : Int32).toInt = 0 := rfl
              have j_439 := (RS_f (fun a i z => W_n W434 (tg_37 a i z) rfl) (RS_f (fun a i z => W_n W429 (tg_38 a i z) rfl) p_406.1))
              have c_440 : M435.2.1 77 4 = (1 : Int32) := (W_n W434 (by decide) (W_e W429))
              have k_441 : (1 : Int32).toInt = 1 := rfl
              have t_442 : (M435.2.1 77 4).toInt = (1 : Int32).toInt := congrArg Int32.toInt c_440
              have c_443 : M435.2.1 77 5 = (M407.2.1 77 10) := (W_e W434)
              have t_444 : (M435.2.1 77 5).toInt = (M407.2.1 77 10).toInt := congrArg Int32.toInt c_443
              have z_445 := q7.1.2.2.2.2.2.2.2 r305.toInt (by (first | (clear z_283 h284 p_292 p_353 p_405 h416; omega) | (clear z_283 h284 p_292 p_353 p_405; omega) | omega)) (by (first | (clear z_283 h284 p_292 p_353 p_405 h416; omega) | (clear z_283 h284 p_292 p_353 p_405; omega) | omega))
              exact h (0 : Int32) M435 hG436 F437 (by decide) (by decide) j_439 (fun _ => pinl (by (first | (clear z_283 h284 p_292 p_353 p_405 h416; omega) | (clear z_283 h284 p_292 p_353 p_405; omega) | omega)) (by (first | (clear z_283 h284 p_292 p_353 p_405 h416; omega) | (clear z_283 h284 p_292 p_353 p_405; omega) | omega)) ((x_word_y (f := r305.toInt) (by (first | (clear z_283 h284 p_292 p_353 p_405 h416; omega) | (clear z_283 h284 p_292 p_353 p_405; omega) | omega)) (by (first | (clear z_283 h284 p_292 p_353 p_405 h416; omega) | (clear z_283 h284 p_292 p_353 p_405; omega) | omega))).trans (x_rc_1 (by (first | (clear z_283 h284 p_292 p_353 p_405 h416; omega) | (clear z_283 h284 p_292 p_353 p_405; omega) | omega)) (by (first | (clear z_283 h284 p_292 p_353 p_405 h416; omega) | (clear z_283 h284 p_292 p_353 p_405; omega) | omega)) (by (first | (clear z_283 h284 p_292 p_353 p_405 h416; omega) | (clear z_283 h284 p_292 p_353 p_405; omega) | omega)) (by (first | (clear z_283 h284 p_292 p_353 p_405 h416; omega) | (clear z_283 h284 p_292 p_353 p_405; omega) | omega))))) (fun z => absurd z (by decide)) (by (first | (clear z_283 h284 p_292 p_353 p_405 h416; omega) | (clear z_283 h284 p_292 p_353 p_405; omega) | omega))
        · refine to_an (pc := 59) rw_171_59 rfl (to_c (pc := 60) rw_171_60 (x := (4 : Int32)) rfl rfl (s_v (pc := 61) rw_171_61 (dp0 hd (by decide)) (ls0 := [.ref 77, .int (4 : Int32)]) rfl (Nat.le_of_ble_eq_true rfl) (Nat.le_of_ble_eq_true rfl) rfl (to_rc rfl rfl rfl (g_o hG307 rfl)) rfl (to_an (pc := 0) rw_152_0 rfl (to_in (pc := 1) rw_152_1 rfl (s_pI (pc := 2) rw_152_2 hG307 rfl (fun M447 W446 => ?_))))))
          have hG448 := g_wf hG307 W446 rfl rfl (by decide)
          have F449 := FR.w F312 W446 (show 77 = 77 ∧ (4 = 4 ∨ 4 = 5 ∨ 7 ≤ 4 ∧ 4 ≤ 10 ∨ 4 = 16) ∨ 85 ≤ 77 ∧ 77 ≤ 87 ∧ 12 ≤ 4 by decide)
          refine to_an (pc := 5) rw_152_5 rfl (to_an (pc := 6) rw_152_6 rfl ?_)
          have c_450 : M447.2.1 77 10 = (M294.2.1 77 10) := (W_n W446 (by decide) (F_n F306 (show ¬ (77 < 0) by decide) rfl))
          refine tt_gI (pc := 7) rw_152_7 (g_o hG448 rfl) (v := (M294.2.1 77 10)) c_450 (s_pI (pc := 10) rw_152_10 hG448 rfl (fun M452 W451 => ?_))
          have hG453 := g_wf hG448 W451 rfl rfl (by decide)
          have F454 := FR.w F449 W451 (show 77 = 77 ∧ (5 = 4 ∨ 5 = 5 ∨ 7 ≤ 5 ∧ 5 ≤ 10 ∨ 5 = 16) ∨ 85 ≤ 77 ∧ 77 ≤ 87 ∧ 12 ≤ 5 by decide)
          refine to_c (pc := 13) rw_152_13 (x := (0 : Int32)) rfl rfl (s_r1 (pc := 14) rw_152_14 (A := 0) rfl (by decide) (s_r1 (pc := 64) rw_171_64 (A := 0) rfl (by decide) ?_))
          have k_455 : (0 : Int32).toInt = 0 := rfl
          have j_456 := (RS_f (fun a i z => W_n W451 (tg_37 a i z) rfl) (RS_f (fun a i z => W_n W446 (tg_38 a i z) rfl) (RS_f (tg_40 F306) p_293.1)))
          have c_457 : M452.2.1 77 4 = (4 : Int32) := (W_n W451 (by decide) (W_e W446))
          have k_458 : (4 : Int32).toInt = 4 := rfl
          have t_459 : (M452.2.1 77 4).toInt = (4 : Int32).toInt := congrArg Int32.toInt c_457
          have c_460 : M452.2.1 77 5 = (M294.2.1 77 10) := (W_e W451)
          have t_461 : (M452.2.1 77 5).toInt = (M294.2.1 77 10).toInt := congrArg Int32.toInt c_460
          exact h (0 : Int32) M452 hG453 F454 (by decide) (by decide) j_456 (fun _ => pinl (by (first | (clear z_283 h284 p_292 h338; omega) | (clear z_283 h284 p_292; omega) | omega)) (by (first | (clear z_283 h284 p_292 h338; omega) | (clear z_283 h284 p_292; omega) | omega)) (xw_14 (by (first | (clear z_283 h284 p_292 h338; omega) | (clear z_283 h284 p_292; omega) | omega)) (by (first | (clear z_283 h284 p_292 h338; omega) | (clear z_283 h284 p_292; omega) | omega)) (by (first | (clear z_283 h284 p_292 h338; omega) | (clear z_283 h284 p_292; omega) | omega)))) (fun z => absurd z (by decide)) (by (first | (clear z_283 h284 p_292 h338; omega) | (clear z_283 h284 p_292; omega) | omega))
    · refine to_an (pc := 27) rw_171_27 rfl (to_c (pc := 28) rw_171_28 (x := (1 : Int32)) rfl rfl (s_v (pc := 29) rw_171_29 (dp0 hd (by decide)) (ls0 := [.ref 77, .int (1 : Int32)]) rfl (Nat.le_of_ble_eq_true rfl) (Nat.le_of_ble_eq_true rfl) rfl (to_rc rfl rfl rfl (g_o hG289 rfl)) rfl (to_an (pc := 0) rw_152_0 rfl (to_in (pc := 1) rw_152_1 rfl (s_pI (pc := 2) rw_152_2 hG289 rfl (fun M463 W462 => ?_))))))
      have hG464 := g_wf hG289 W462 rfl rfl (by decide)
      have F465 := FR.w F295 W462 (show 77 = 77 ∧ (4 = 4 ∨ 4 = 5 ∨ 7 ≤ 4 ∧ 4 ≤ 10 ∨ 4 = 16) ∨ 85 ≤ 77 ∧ 77 ≤ 87 ∧ 12 ≤ 4 by decide)
      refine to_an (pc := 5) rw_152_5 rfl (to_an (pc := 6) rw_152_6 rfl ?_)
      have c_466 : M463.2.1 77 10 = (M294.2.1 77 10) := (W_n W462 (by decide) rfl)
      refine tt_gI (pc := 7) rw_152_7 (g_o hG464 rfl) (v := (M294.2.1 77 10)) c_466 (s_pI (pc := 10) rw_152_10 hG464 rfl (fun M468 W467 => ?_))
      have hG469 := g_wf hG464 W467 rfl rfl (by decide)
      have F470 := FR.w F465 W467 (show 77 = 77 ∧ (5 = 4 ∨ 5 = 5 ∨ 7 ≤ 5 ∧ 5 ≤ 10 ∨ 5 = 16) ∨ 85 ≤ 77 ∧ 77 ≤ 87 ∧ 12 ≤ 5 by decide)
      refine to_c (pc := 13) rw_152_13 (x := (0 : Int32)) rfl rfl (s_r1 (pc := 14) rw_152_14 (A := 0) rfl (by decide) (s_r1 (pc := 32) rw_171_32 (A := 0) rfl (by decide) ?_))
      have k_471 : (0 : Int32).toInt = 0 := rfl
      have j_472 := (RS_f (fun a i z => W_n W467 (tg_37 a i z) rfl) (RS_f (fun a i z => W_n W462 (tg_38 a i z) rfl) p_293.1))
      have c_473 : M468.2.1 77 4 = (1 : Int32) := (W_n W467 (by decide) (W_e W462))
      have k_474 : (1 : Int32).toInt = 1 := rfl
      have t_475 : (M468.2.1 77 4).toInt = (1 : Int32).toInt := congrArg Int32.toInt c_473
      have c_476 : M468.2.1 77 5 = (M294.2.1 77 10) := (W_e W467)
      have t_477 : (M468.2.1 77 5).toInt = (M294.2.1 77 10).toInt := congrArg Int32.toInt c_476
      exact h (0 : Int32) M468 hG469 F470 (by decide) (by decide) j_472 (fun _ => pinl (by (first | (clear z_283 h284 p_292 h303; omega) | (clear z_283 h284 p_292; omega) | omega)) (by (first | (clear z_283 h284 p_292 h303; omega) | (clear z_283 h284 p_292; omega) | omega)) (xw_11 (by (first | (clear z_283 h284 p_292 h303; omega) | (clear z_283 h284 p_292; omega) | omega)) (by (first | (clear z_283 h284 p_292 h303; omega) | (clear z_283 h284 p_292; omega) | omega)))) (fun z => absurd z (by decide)) (by (first | (clear z_283 h284 p_292 h303; omega) | (clear z_283 h284 p_292; omega) | omega))
  · refine to_an (pc := 9) rw_171_9 rfl (to_c (pc := 10) rw_171_10 (x := (2 : Int32)) rfl rfl (s_v (pc := 11) rw_171_11 (dp0 hd (by decide)) (ls0 := [.ref 77, .int (2 : Int32)]) rfl (Nat.le_of_ble_eq_true rfl) (Nat.le_of_ble_eq_true rfl) rfl (to_rc rfl rfl rfl (g_o hG rfl)) rfl (to_an (pc := 0) rw_152_0 rfl (to_in (pc := 1) rw_152_1 rfl (s_pI (pc := 2) rw_152_2 hG rfl (fun M479 W478 => ?_))))))
    have hG480 := g_wf hG W478 rfl rfl (by decide)
    have F481 := FR.w F0 W478 (show 77 = 77 ∧ (4 = 4 ∨ 4 = 5 ∨ 7 ≤ 4 ∧ 4 ≤ 10 ∨ 4 = 16) ∨ 85 ≤ 77 ∧ 77 ≤ 87 ∧ 12 ≤ 4 by decide)
    refine to_an (pc := 5) rw_152_5 rfl (to_an (pc := 6) rw_152_6 rfl ?_)
    have c_482 : M479.2.1 77 10 = (M.2.1 77 10) := (W_n W478 (by decide) rfl)
    refine tt_gI (pc := 7) rw_152_7 (g_o hG480 rfl) (v := (M.2.1 77 10)) c_482 (s_pI (pc := 10) rw_152_10 hG480 rfl (fun M484 W483 => ?_))
    have hG485 := g_wf hG480 W483 rfl rfl (by decide)
    have F486 := FR.w F481 W483 (show 77 = 77 ∧ (5 = 4 ∨ 5 = 5 ∨ 7 ≤ 5 ∧ 5 ≤ 10 ∨ 5 = 16) ∨ 85 ≤ 77 ∧ 77 ≤ 87 ∧ 12 ≤ 5 by decide)
    refine to_c (pc := 13) rw_152_13 (x := (0 : Int32)) rfl rfl (s_r1 (pc := 14) rw_152_14 (A := 0) rfl (by decide) (s_r1 (pc := 14) rw_171_14 (A := 0) rfl (by decide) ?_))
    have k_487 : (0 : Int32).toInt = 0 := rfl
    have j_488 := (RS_f (fun a i z => W_n W483 (tg_37 a i z) rfl) (RS_f (fun a i z => W_n W478 (tg_38 a i z) rfl) q1))
    have c_489 : M484.2.1 77 4 = (2 : Int32) := (W_n W483 (by decide) (W_e W478))
    have k_490 : (2 : Int32).toInt = 2 := rfl
    have t_491 : (M484.2.1 77 4).toInt = (2 : Int32).toInt := congrArg Int32.toInt c_489
    have c_492 : M484.2.1 77 5 = (M.2.1 77 10) := (W_e W483)
    have t_493 : (M484.2.1 77 5).toInt = (M.2.1 77 10).toInt := congrArg Int32.toInt c_492
    exact h (0 : Int32) M484 hG485 F486 (by decide) (by decide) j_488 (fun _ => pinl (by (first | (clear z_283; omega) | omega)) (by (first | (clear z_283; omega) | omega)) (xw_02 (by (first | (clear z_283; omega) | omega)))) (fun z => absurd z (by decide)) (by (first | (clear z_283; omega) | omega))
