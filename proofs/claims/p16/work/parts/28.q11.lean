theorem tg_58 : ∀ a i : Nat, (a = 77 ∧ 7 ≤ i ∧ i ≤ 10) → (a = 77 ∧ (i = 4 ∨ i = 5 ∨ 7 ≤ i ∧ i ≤ 10 ∨ i = 16) ∨ 85 ≤ a ∧ a ≤ 87 ∧ 12 ≤ i) := fun a i z => by omega
theorem tg_59 : ∀ a i : Nat, (a < 0) → (a = 77 ∧ (i = 4 ∨ i = 5 ∨ 7 ≤ i ∧ i ≤ 10 ∨ i = 16) ∨ 85 ≤ a ∧ a ≤ 87 ∧ 12 ≤ i) := fun a i z => by omega
theorem tg_60 : ∀ a i : Nat, (a = 77 ∧ (i = 4 ∨ i = 5)) → (a = 77 ∧ (i = 4 ∨ i = 5 ∨ 7 ≤ i ∧ i ≤ 10 ∨ i = 16) ∨ 85 ≤ a ∧ a ≤ 87 ∧ 12 ≤ i) := fun a i z => by omega
theorem tg_61 : ∀ a i : Nat, (a = 77 ∧ 6 ≤ i ∧ i ≤ 10) → ¬ (a = 77 ∧ i = 16) := fun a i z => by omega
theorem tg_62 : ∀ a i j : Nat, (a = 77 ∧ 6 ≤ i ∧ i ≤ 10) → ¬ (a = 86 ∧ i = j) := fun a i j z => by omega
theorem tg_63 : ∀ a i j : Nat, (a = 77 ∧ 6 ≤ i ∧ i ≤ 10) → ¬ (a = 85 ∧ i = j) := fun a i j z => by omega
set_option maxRecDepth 4000 in
set_option maxHeartbeats 0 in
theorem U_171_0 {X : mm_X} {d : Nat} {M : mm_M} {Q : Option Value → mm_M → Prop} {t : Nat → Int} {nn : Int} {a : Int} {sg : x_S} {k : x_K} (hX : g_X X) (hd : 3 ≤ d) (q1 : RS M t nn) (q2 : (M.2.1 77 10).toInt = a) (q3 : 0 ≤ nn) (q4 : nn ≤ 500) (q5 : TR M t nn) (q6 : W9 M) (q7 : PLr M sg) (q8 : CWr M sg) (h : ∀ (r : Int32) (M1 : mm_M), g_G M1 → FR md_w171 M M1 → (0 ≤ r.toInt) → (r.toInt ≤ 1) → RS M1 t nn → ((r.toInt = 0 → x_word t nn sg (x_ns t nn a) k = none)) → ((r.toInt = 1 → WOr t nn (x_word t nn sg (x_ns t nn a) k) k M1 sg)) → Q (some (.int r)) M1) : ∀ nn9 : Nat, (∀ (N : mm_M) (x1 : Int32) (x2 : Int32) (x3 : Int32) (y4 : Int64), g_G N → FR md_w171 M N → (0 ≤ x1.toInt) → (x1.toInt ≤ 7) → (x1.toInt < sg.2.1) → (x_row sg 2 x1.toInt = 3) → ((N.2.1 77 16).toInt ≤ 11) → (0 ≤ x3.toInt) → (x3.toInt ≤ 4) → (x3.toInt ≤ x_row sg 5 x1.toInt) → (0 ≤ nn) → (nn ≤ 500) → (RS N t nn) → (TR N t nn) → (W9 N) → (PLr N sg) → (CWr N sg) → (x_rc t nn sg x1.toInt x2.toInt k (6 - x3.toInt).toNat x3.toInt y4 (N.2.1 77 10).toInt = x_word t nn sg (x_ns t nn a) k) → 10 - x3.toInt < (nn9 : Int) → mm_T X d 170 106 [.ref 77, .int x1, .int x2, .int x3, .long y4, .null] [] N Q) := by
  intro nn9
  induction nn9 with
  | zero =>
    intro N x1 x2 x3 y4 hG F0 g1 g2 g3 g4 g5 g6 g7 g8 g9 g10 g11 g12 g13 g14 g15 g16 hm
    have b_1 := g_b hG (a := 77) (i := 16) (lo := 0) (hi := 12) rfl rfl
    exfalso; omega
  | succ nn9 ih =>
    intro N x1 x2 x3 y4 hG F0 g1 g2 g3 g4 g5 g6 g7 g8 g9 g10 g11 g12 g13 g14 g15 g16 hm
    have b_2 := g_b hG (a := 77) (i := 16) (lo := 0) (hi := 12) rfl rfl
    have z_3 := g14.2.1
    have z_4 := g14.2.2.1
    have z_5 := g14.2.2.2.1
    have z_6 := g14.1
    have z_7 := z_6.1
    have z_8 := z_6.2.1
    have z_9 := z_6.2.2.1
    have z_10 := z_6.2.2.2.1
    have z_11 := z_6.2.2.2.2.1
    have z_12 := z_6.2.2.2.2.2.1
    have b_13 := g_b hG (a := 77) (i := 14) (lo := 10) (hi := 60) rfl rfl
    have b_14 := g_b hG (a := 77) (i := 15) (lo := 0) (hi := 8) rfl rfl
    have z_15 := g14.1.2.2.2.2.2.2.2 x1.toInt (by omega) (by omega)
    have b_16 := g_b hG (a := 77) (i := 8) (lo := 0) (hi := 5) rfl rfl
    have b_17 := g_b hG (a := 77) (i := 10) (lo := 0) (hi := 500) rfl rfl
    have c_18 := RS_u g11 (a := (N.2.1 77 10).toInt) (by omega)
    unfold x_R at c_18
    refine to_an (pc := 106) rw_171_106 rfl (tt_gI (pc := 107) rw_171_107 (g_o hG rfl) (v := (N.2.1 77 8)) rfl (to_c (pc := 110) rw_171_110 (x := (3 : Int32)) rfl rfl (b_cne (pc := 111) rw_171_111 (A := (N.2.1 77 8).toInt) (B := 3) rfl rfl (fun h19 => ?_) (fun h19 => ?_))))
    · refine to_an (pc := 218) rw_171_218 rfl (to_c (pc := 219) rw_171_219 (x := (59 : Int32)) rfl rfl (s_v (pc := 221) rw_171_221 (dp0 hd (by decide)) (ls0 := [.ref 77, .int (59 : Int32)]) rfl (Nat.le_of_ble_eq_true rfl) (Nat.le_of_ble_eq_true rfl) rfl (to_rc rfl rfl rfl (g_o hG rfl)) rfl (to_an (pc := 0) rw_159_0 rfl (tt_gI (pc := 1) rw_159_1 (g_o hG rfl) (v := (N.2.1 77 8)) rfl (to_c (pc := 4) rw_159_4 (x := (4 : Int32)) rfl rfl (b_cne (pc := 5) rw_159_5 (A := (N.2.1 77 8).toInt) (B := 4) rfl rfl (fun h20 => ?_) (fun h20 => ?_)))))))
      · refine to_c (pc := 20) rw_159_20 (x := (0 : Int32)) rfl rfl (s_r1 (pc := 21) rw_159_21 (A := 0) rfl (by decide) (b_ieq_t (pc := 224) rw_171_224 (A := 0) rfl (by decide) (to_an (pc := 246) rw_171_246 rfl (s_gR (pc := 247) rw_171_247 hG rfl (v := 85) rfl (to_c (pc := 250) rw_171_250 (x := (12 : Int32)) rfl rfl (to_an (pc := 252) rw_171_252 rfl (tt_gI (pc := 253) rw_171_253 (g_o hG rfl) (v := (N.2.1 77 16)) rfl (s_add (pc := 256) rw_171_256 (A := 12) (B := (N.2.1 77 16).toInt) rfl rfl (by omega) (fun v21 e22 => to_in (pc := 257) rw_171_257 rfl (s_ias (pc := 258) rw_171_258 hG rfl (n := 24) rfl (A := v21.toInt) rfl (by omega) (by omega) (fun M24 W23 => ?_)))))))))))
        have hG25 := g_wf hG W23 rfl rfl (by decide)
        have F26 := FR.w F0 W23 (show 85 = 77 ∧ ((v21.toInt).toNat = 4 ∨ (v21.toInt).toNat = 5 ∨ 7 ≤ (v21.toInt).toNat ∧ (v21.toInt).toNat ≤ 10 ∨ (v21.toInt).toNat = 16) ∨ 85 ≤ 85 ∧ 85 ≤ 87 ∧ 12 ≤ (v21.toInt).toNat by omega)
        refine to_an (pc := 259) rw_171_259 rfl (s_gR (pc := 260) rw_171_260 hG25 rfl (v := 86) rfl (to_c (pc := 263) rw_171_263 (x := (12 : Int32)) rfl rfl (to_an (pc := 265) rw_171_265 rfl ?_)))
        have c_27 : M24.2.1 77 16 = (N.2.1 77 16) := (W_n W23 (fun z => absurd z.1 (by decide)) rfl)
        refine tt_gI (pc := 266) rw_171_266 (g_o hG25 rfl) (v := (N.2.1 77 16)) c_27 (s_add (pc := 269) rw_171_269 (A := 12) (B := (N.2.1 77 16).toInt) rfl rfl (by omega) (fun v28 e29 => to_in (pc := 270) rw_171_270 rfl (s_ias (pc := 271) rw_171_271 hG25 rfl (n := 24) rfl (A := v28.toInt) rfl (by omega) (by omega) (fun M31 W30 => ?_))))
        have hG32 := g_w hG25 W30 (A := x1.toInt) rfl (lo := 0) (hi := 7) rfl rfl (by omega) (by decide)
        have F33 := FR.w F26 W30 (show 86 = 77 ∧ ((v28.toInt).toNat = 4 ∨ (v28.toInt).toNat = 5 ∨ 7 ≤ (v28.toInt).toNat ∧ (v28.toInt).toNat ≤ 10 ∨ (v28.toInt).toNat = 16) ∨ 85 ≤ 86 ∧ 86 ≤ 87 ∧ 12 ≤ (v28.toInt).toNat by omega)
        refine to_an (pc := 272) rw_171_272 rfl (s_gR (pc := 273) rw_171_273 hG32 rfl (v := 87) rfl (to_c (pc := 276) rw_171_276 (x := (12 : Int32)) rfl rfl (to_an (pc := 278) rw_171_278 rfl ?_)))
        have c_34 : M31.2.1 77 16 = (N.2.1 77 16) := (W_n W30 (fun z => absurd z.1 (by decide)) c_27)
        refine tt_gI (pc := 279) rw_171_279 (g_o hG32 rfl) (v := (N.2.1 77 16)) c_34 (s_add (pc := 282) rw_171_282 (A := 12) (B := (N.2.1 77 16).toInt) rfl rfl (by omega) (fun v35 e36 => to_l (pc := 283) rw_171_283 rfl rfl rfl (s_las (pc := 285) rw_171_285 hG32 rfl (n := 24) rfl (A := v35.toInt) rfl (by omega) (by omega) (fun M38 W37 => ?_))))
        have hG39 := g_wl hG32 W37
        have F40 := FR.wl F33 W37 (show 87 = 77 ∧ ((v35.toInt).toNat = 4 ∨ (v35.toInt).toNat = 5 ∨ 7 ≤ (v35.toInt).toNat ∧ (v35.toInt).toNat ≤ 10 ∨ (v35.toInt).toNat = 16) ∨ 85 ≤ 87 ∧ 87 ≤ 87 ∧ 12 ≤ (v35.toInt).toNat by omega)
        refine to_an (pc := 286) rw_171_286 rfl (to_dupr (pc := 287) rw_171_287 ?_)
        have c_41 : M38.2.1 77 16 = (N.2.1 77 16) := (W_l W37 c_34)
        refine tt_gI (pc := 288) rw_171_288 (g_o hG39 rfl) (v := (N.2.1 77 16)) c_41 (to_c (pc := 291) rw_171_291 (x := (1 : Int32)) rfl rfl (s_add (pc := 292) rw_171_292 (A := (N.2.1 77 16).toInt) (B := 1) rfl rfl (by omega) (fun v42 e43 => s_pI (pc := 293) rw_171_293 hG39 rfl (fun M45 W44 => ?_))))
        have hG46 := g_w hG39 W44 (A := v42.toInt) rfl (lo := 0) (hi := 12) rfl rfl (by omega) (by decide)
        have F47 := FR.w F40 W44 (show 77 = 77 ∧ (16 = 4 ∨ 16 = 5 ∨ 7 ≤ 16 ∧ 16 ≤ 10 ∨ 16 = 16) ∨ 85 ≤ 77 ∧ 77 ≤ 87 ∧ 12 ≤ 16 by decide)
        refine to_c (pc := 296) rw_171_296 (x := (1 : Int32)) rfl rfl (s_r1 (pc := 297) rw_171_297 (A := 1) rfl (by decide) ?_)
        have k_48 : (1 : Int32).toInt = 1 := rfl
        have j_49 := (RS_f (fun a i z => W_n W44 (tg_61 a i z) rfl) (RS_f (fun a i z => W_l W37 rfl) (RS_f (fun a i z => W_n W30 (tg_62 a i _ z) rfl) (RS_f (fun a i z => W_n W23 (tg_63 a i _ z) rfl) g11))))
        have c_50 : M45.2.1 77 10 = (N.2.1 77 10) := (W_n W44 (by decide) (W_l W37 (W_n W30 (fun z => absurd z.1 (by decide)) (W_n W23 (fun z => absurd z.1 (by decide)) rfl))))
        have t_51 : (M45.2.1 77 10).toInt = (N.2.1 77 10).toInt := congrArg Int32.toInt c_50
        have z_52 := (⟨PLr_wp (nm := x2.toInt) (f := x1.toInt) (b := y4.toInt) g14 W23 W30 W37 W44 (by omega) (by omega) (by omega) (by omega) (by omega) (by omega) (by omega), CWr_wp g15 W23 W30 W37 W44 (by omega) rfl⟩ : PLr2 _ _)
        exact h (1 : Int32) M45 hG46 F47 (by decide) (by decide) j_49 (fun z => absurd z (by decide)) (fun _ => by unfold WOr FOr; rw [show (M45.2.1 77 10).toInt = (N.2.1 77 10).toInt by omega, ← g16]; first | exact Or.inl ⟨_, x_rc_y (by omega) (by omega) (by omega), z_52, (by show sg.2.1 + (sg.2.2.1 + 1) = _; omega)⟩ | exact Or.inr ⟨x_rc_n2 (by omega) (by omega), by omega⟩ | exact (if g9 : x3.toInt = x_row sg 5 x1.toInt then Or.inl ⟨_, x_rc_y (by omega) (by omega) g9, z_52, (by show sg.2.1 + (sg.2.2.1 + 1) = _; omega)⟩ else Or.inr ⟨x_rc_n2 (by omega) g9, by omega⟩))
      · refine to_an (pc := 8) rw_159_8 rfl (tt_gI (pc := 9) rw_159_9 (g_o hG rfl) (v := (N.2.1 77 9)) rfl (to_in (pc := 12) rw_159_12 rfl (b_cne (pc := 13) rw_159_13 (A := (N.2.1 77 9).toInt) (B := 59) rfl rfl (fun h53 => ?_) (fun h53 => ?_))))
        · refine to_c (pc := 20) rw_159_20 (x := (0 : Int32)) rfl rfl (s_r1 (pc := 21) rw_159_21 (A := 0) rfl (by decide) (b_ieq_t (pc := 224) rw_171_224 (A := 0) rfl (by decide) (to_an (pc := 246) rw_171_246 rfl (s_gR (pc := 247) rw_171_247 hG rfl (v := 85) rfl (to_c (pc := 250) rw_171_250 (x := (12 : Int32)) rfl rfl (to_an (pc := 252) rw_171_252 rfl (tt_gI (pc := 253) rw_171_253 (g_o hG rfl) (v := (N.2.1 77 16)) rfl (s_add (pc := 256) rw_171_256 (A := 12) (B := (N.2.1 77 16).toInt) rfl rfl (by omega) (fun v54 e55 => to_in (pc := 257) rw_171_257 rfl (s_ias (pc := 258) rw_171_258 hG rfl (n := 24) rfl (A := v54.toInt) rfl (by omega) (by omega) (fun M57 W56 => ?_)))))))))))
          have hG58 := g_wf hG W56 rfl rfl (by decide)
          have F59 := FR.w F0 W56 (show 85 = 77 ∧ ((v54.toInt).toNat = 4 ∨ (v54.toInt).toNat = 5 ∨ 7 ≤ (v54.toInt).toNat ∧ (v54.toInt).toNat ≤ 10 ∨ (v54.toInt).toNat = 16) ∨ 85 ≤ 85 ∧ 85 ≤ 87 ∧ 12 ≤ (v54.toInt).toNat by omega)
          refine to_an (pc := 259) rw_171_259 rfl (s_gR (pc := 260) rw_171_260 hG58 rfl (v := 86) rfl (to_c (pc := 263) rw_171_263 (x := (12 : Int32)) rfl rfl (to_an (pc := 265) rw_171_265 rfl ?_)))
          have c_60 : M57.2.1 77 16 = (N.2.1 77 16) := (W_n W56 (fun z => absurd z.1 (by decide)) rfl)
          refine tt_gI (pc := 266) rw_171_266 (g_o hG58 rfl) (v := (N.2.1 77 16)) c_60 (s_add (pc := 269) rw_171_269 (A := 12) (B := (N.2.1 77 16).toInt) rfl rfl (by omega) (fun v61 e62 => to_in (pc := 270) rw_171_270 rfl (s_ias (pc := 271) rw_171_271 hG58 rfl (n := 24) rfl (A := v61.toInt) rfl (by omega) (by omega) (fun M64 W63 => ?_))))
          have hG65 := g_w hG58 W63 (A := x1.toInt) rfl (lo := 0) (hi := 7) rfl rfl (by omega) (by decide)
          have F66 := FR.w F59 W63 (show 86 = 77 ∧ ((v61.toInt).toNat = 4 ∨ (v61.toInt).toNat = 5 ∨ 7 ≤ (v61.toInt).toNat ∧ (v61.toInt).toNat ≤ 10 ∨ (v61.toInt).toNat = 16) ∨ 85 ≤ 86 ∧ 86 ≤ 87 ∧ 12 ≤ (v61.toInt).toNat by omega)
          refine to_an (pc := 272) rw_171_272 rfl (s_gR (pc := 273) rw_171_273 hG65 rfl (v := 87) rfl (to_c (pc := 276) rw_171_276 (x := (12 : Int32)) rfl rfl (to_an (pc := 278) rw_171_278 rfl ?_)))
          have c_67 : M64.2.1 77 16 = (N.2.1 77 16) := (W_n W63 (fun z => absurd z.1 (by decide)) c_60)
          refine tt_gI (pc := 279) rw_171_279 (g_o hG65 rfl) (v := (N.2.1 77 16)) c_67 (s_add (pc := 282) rw_171_282 (A := 12) (B := (N.2.1 77 16).toInt) rfl rfl (by omega) (fun v68 e69 => to_l (pc := 283) rw_171_283 rfl rfl rfl (s_las (pc := 285) rw_171_285 hG65 rfl (n := 24) rfl (A := v68.toInt) rfl (by omega) (by omega) (fun M71 W70 => ?_))))
          have hG72 := g_wl hG65 W70
          have F73 := FR.wl F66 W70 (show 87 = 77 ∧ ((v68.toInt).toNat = 4 ∨ (v68.toInt).toNat = 5 ∨ 7 ≤ (v68.toInt).toNat ∧ (v68.toInt).toNat ≤ 10 ∨ (v68.toInt).toNat = 16) ∨ 85 ≤ 87 ∧ 87 ≤ 87 ∧ 12 ≤ (v68.toInt).toNat by omega)
          refine to_an (pc := 286) rw_171_286 rfl (to_dupr (pc := 287) rw_171_287 ?_)
          have c_74 : M71.2.1 77 16 = (N.2.1 77 16) := (W_l W70 c_67)
          refine tt_gI (pc := 288) rw_171_288 (g_o hG72 rfl) (v := (N.2.1 77 16)) c_74 (to_c (pc := 291) rw_171_291 (x := (1 : Int32)) rfl rfl (s_add (pc := 292) rw_171_292 (A := (N.2.1 77 16).toInt) (B := 1) rfl rfl (by omega) (fun v75 e76 => s_pI (pc := 293) rw_171_293 hG72 rfl (fun M78 W77 => ?_))))
          have hG79 := g_w hG72 W77 (A := v75.toInt) rfl (lo := 0) (hi := 12) rfl rfl (by omega) (by decide)
          have F80 := FR.w F73 W77 (show 77 = 77 ∧ (16 = 4 ∨ 16 = 5 ∨ 7 ≤ 16 ∧ 16 ≤ 10 ∨ 16 = 16) ∨ 85 ≤ 77 ∧ 77 ≤ 87 ∧ 12 ≤ 16 by decide)
          refine to_c (pc := 296) rw_171_296 (x := (1 : Int32)) rfl rfl (s_r1 (pc := 297) rw_171_297 (A := 1) rfl (by decide) ?_)
          have k_81 : (1 : Int32).toInt = 1 := rfl
          have j_82 := (RS_f (fun a i z => W_n W77 (tg_61 a i z) rfl) (RS_f (fun a i z => W_l W70 rfl) (RS_f (fun a i z => W_n W63 (tg_62 a i _ z) rfl) (RS_f (fun a i z => W_n W56 (tg_63 a i _ z) rfl) g11))))
          have c_83 : M78.2.1 77 10 = (N.2.1 77 10) := (W_n W77 (by decide) (W_l W70 (W_n W63 (fun z => absurd z.1 (by decide)) (W_n W56 (fun z => absurd z.1 (by decide)) rfl))))
          have t_84 : (M78.2.1 77 10).toInt = (N.2.1 77 10).toInt := congrArg Int32.toInt c_83
          have z_85 := (⟨PLr_wp (nm := x2.toInt) (f := x1.toInt) (b := y4.toInt) g14 W56 W63 W70 W77 (by omega) (by omega) (by omega) (by omega) (by omega) (by omega) (by omega), CWr_wp g15 W56 W63 W70 W77 (by omega) rfl⟩ : PLr2 _ _)
          exact h (1 : Int32) M78 hG79 F80 (by decide) (by decide) j_82 (fun z => absurd z (by decide)) (fun _ => by unfold WOr FOr; rw [show (M78.2.1 77 10).toInt = (N.2.1 77 10).toInt by omega, ← g16]; first | exact Or.inl ⟨_, x_rc_y (by omega) (by omega) (by omega), z_85, (by show sg.2.1 + (sg.2.2.1 + 1) = _; omega)⟩ | exact Or.inr ⟨x_rc_n2 (by omega) (by omega), by omega⟩ | exact (if g9 : x3.toInt = x_row sg 5 x1.toInt then Or.inl ⟨_, x_rc_y (by omega) (by omega) g9, z_85, (by show sg.2.1 + (sg.2.2.1 + 1) = _; omega)⟩ else Or.inr ⟨x_rc_n2 (by omega) g9, by omega⟩))
        · refine to_c (pc := 16) rw_159_16 (x := (1 : Int32)) rfl rfl (to_go (pc := 17) rw_159_17 (s_r1 (pc := 21) rw_159_21 (A := 1) rfl (by decide) (b_ieq_f (pc := 224) rw_171_224 (A := 1) rfl (by decide) (to_in (pc := 227) rw_171_227 rfl (to_an (pc := 228) rw_171_228 rfl (s_gR (pc := 229) rw_171_229 hG rfl (v := 84) rfl (to_c (pc := 232) rw_171_232 (x := (8 : Int32)) rfl rfl (to_in (pc := 234) rw_171_234 rfl (s_add (pc := 235) rw_171_235 (A := 8) (B := x1.toInt) rfl rfl (by omega) (fun v86 e87 => s_ial (pc := 236) rw_171_236 hG rfl (n := 16) rfl rfl (A := v86.toInt) rfl (by omega) (by omega) (lo := 0) (hi := 24) rfl rfl (fun v88 w_89 _ _ => ?_)))))))))))
          have z_90 := PLr_r g14 5 84 rfl (by decide) (by decide) (k := x1.toInt) (by omega) (by omega) (by omega) w_89
          refine b_cge (pc := 237) rw_171_237 (A := x3.toInt) (B := v88.toInt) rfl rfl (fun h91 => ?_) (fun h91 => ?_)
          · refine to_an (pc := 246) rw_171_246 rfl (s_gR (pc := 247) rw_171_247 hG rfl (v := 85) rfl (to_c (pc := 250) rw_171_250 (x := (12 : Int32)) rfl rfl (to_an (pc := 252) rw_171_252 rfl (tt_gI (pc := 253) rw_171_253 (g_o hG rfl) (v := (N.2.1 77 16)) rfl (s_add (pc := 256) rw_171_256 (A := 12) (B := (N.2.1 77 16).toInt) rfl rfl (by omega) (fun v92 e93 => to_in (pc := 257) rw_171_257 rfl (s_ias (pc := 258) rw_171_258 hG rfl (n := 24) rfl (A := v92.toInt) rfl (by omega) (by omega) (fun M95 W94 => ?_))))))))
            have hG96 := g_wf hG W94 rfl rfl (by decide)
            have F97 := FR.w F0 W94 (show 85 = 77 ∧ ((v92.toInt).toNat = 4 ∨ (v92.toInt).toNat = 5 ∨ 7 ≤ (v92.toInt).toNat ∧ (v92.toInt).toNat ≤ 10 ∨ (v92.toInt).toNat = 16) ∨ 85 ≤ 85 ∧ 85 ≤ 87 ∧ 12 ≤ (v92.toInt).toNat by omega)
            refine to_an (pc := 259) rw_171_259 rfl (s_gR (pc := 260) rw_171_260 hG96 rfl (v := 86) rfl (to_c (pc := 263) rw_171_263 (x := (12 : Int32)) rfl rfl (to_an (pc := 265) rw_171_265 rfl ?_)))
            have c_98 : M95.2.1 77 16 = (N.2.1 77 16) := (W_n W94 (fun z => absurd z.1 (by decide)) rfl)
            refine tt_gI (pc := 266) rw_171_266 (g_o hG96 rfl) (v := (N.2.1 77 16)) c_98 (s_add (pc := 269) rw_171_269 (A := 12) (B := (N.2.1 77 16).toInt) rfl rfl (by omega) (fun v99 e100 => to_in (pc := 270) rw_171_270 rfl (s_ias (pc := 271) rw_171_271 hG96 rfl (n := 24) rfl (A := v99.toInt) rfl (by omega) (by omega) (fun M102 W101 => ?_))))
            have hG103 := g_w hG96 W101 (A := x1.toInt) rfl (lo := 0) (hi := 7) rfl rfl (by omega) (by decide)
            have F104 := FR.w F97 W101 (show 86 = 77 ∧ ((v99.toInt).toNat = 4 ∨ (v99.toInt).toNat = 5 ∨ 7 ≤ (v99.toInt).toNat ∧ (v99.toInt).toNat ≤ 10 ∨ (v99.toInt).toNat = 16) ∨ 85 ≤ 86 ∧ 86 ≤ 87 ∧ 12 ≤ (v99.toInt).toNat by omega)
            refine to_an (pc := 272) rw_171_272 rfl (s_gR (pc := 273) rw_171_273 hG103 rfl (v := 87) rfl (to_c (pc := 276) rw_171_276 (x := (12 : Int32)) rfl rfl (to_an (pc := 278) rw_171_278 rfl ?_)))
            have c_105 : M102.2.1 77 16 = (N.2.1 77 16) := (W_n W101 (fun z => absurd z.1 (by decide)) c_98)
            refine tt_gI (pc := 279) rw_171_279 (g_o hG103 rfl) (v := (N.2.1 77 16)) c_105 (s_add (pc := 282) rw_171_282 (A := 12) (B := (N.2.1 77 16).toInt) rfl rfl (by omega) (fun v106 e107 => to_l (pc := 283) rw_171_283 rfl rfl rfl (s_las (pc := 285) rw_171_285 hG103 rfl (n := 24) rfl (A := v106.toInt) rfl (by omega) (by omega) (fun M109 W108 => ?_))))
            have hG110 := g_wl hG103 W108
            have F111 := FR.wl F104 W108 (show 87 = 77 ∧ ((v106.toInt).toNat = 4 ∨ (v106.toInt).toNat = 5 ∨ 7 ≤ (v106.toInt).toNat ∧ (v106.toInt).toNat ≤ 10 ∨ (v106.toInt).toNat = 16) ∨ 85 ≤ 87 ∧ 87 ≤ 87 ∧ 12 ≤ (v106.toInt).toNat by omega)
            refine to_an (pc := 286) rw_171_286 rfl (to_dupr (pc := 287) rw_171_287 ?_)
            have c_112 : M109.2.1 77 16 = (N.2.1 77 16) := (W_l W108 c_105)
            refine tt_gI (pc := 288) rw_171_288 (g_o hG110 rfl) (v := (N.2.1 77 16)) c_112 (to_c (pc := 291) rw_171_291 (x := (1 : Int32)) rfl rfl (s_add (pc := 292) rw_171_292 (A := (N.2.1 77 16).toInt) (B := 1) rfl rfl (by omega) (fun v113 e114 => s_pI (pc := 293) rw_171_293 hG110 rfl (fun M116 W115 => ?_))))
            have hG117 := g_w hG110 W115 (A := v113.toInt) rfl (lo := 0) (hi := 12) rfl rfl (by omega) (by decide)
            have F118 := FR.w F111 W115 (show 77 = 77 ∧ (16 = 4 ∨ 16 = 5 ∨ 7 ≤ 16 ∧ 16 ≤ 10 ∨ 16 = 16) ∨ 85 ≤ 77 ∧ 77 ≤ 87 ∧ 12 ≤ 16 by decide)
            refine to_c (pc := 296) rw_171_296 (x := (1 : Int32)) rfl rfl (s_r1 (pc := 297) rw_171_297 (A := 1) rfl (by decide) ?_)
            have k_119 : (1 : Int32).toInt = 1 := rfl
            have j_120 := (RS_f (fun a i z => W_n W115 (tg_61 a i z) rfl) (RS_f (fun a i z => W_l W108 rfl) (RS_f (fun a i z => W_n W101 (tg_62 a i _ z) rfl) (RS_f (fun a i z => W_n W94 (tg_63 a i _ z) rfl) g11))))
            have c_121 : M116.2.1 77 10 = (N.2.1 77 10) := (W_n W115 (by decide) (W_l W108 (W_n W101 (fun z => absurd z.1 (by decide)) (W_n W94 (fun z => absurd z.1 (by decide)) rfl))))
            have t_122 : (M116.2.1 77 10).toInt = (N.2.1 77 10).toInt := congrArg Int32.toInt c_121
            have z_123 := (⟨PLr_wp (nm := x2.toInt) (f := x1.toInt) (b := y4.toInt) g14 W94 W101 W108 W115 (by omega) (by omega) (by omega) (by omega) (by omega) (by omega) (by omega), CWr_wp g15 W94 W101 W108 W115 (by omega) rfl⟩ : PLr2 _ _)
            exact h (1 : Int32) M116 hG117 F118 (by decide) (by decide) j_120 (fun z => absurd z (by decide)) (fun _ => by unfold WOr FOr; rw [show (M116.2.1 77 10).toInt = (N.2.1 77 10).toInt by omega, ← g16]; first | exact Or.inl ⟨_, x_rc_y (by omega) (by omega) (by omega), z_123, (by show sg.2.1 + (sg.2.2.1 + 1) = _; omega)⟩ | exact Or.inr ⟨x_rc_n2 (by omega) (by omega), by omega⟩ | exact (if g9 : x3.toInt = x_row sg 5 x1.toInt then Or.inl ⟨_, x_rc_y (by omega) (by omega) g9, z_123, (by show sg.2.1 + (sg.2.2.1 + 1) = _; omega)⟩ else Or.inr ⟨x_rc_n2 (by omega) g9, by omega⟩))
          · refine to_an (pc := 240) rw_171_240 rfl (to_c (pc := 241) rw_171_241 (x := (5 : Int32)) rfl rfl (s_v (pc := 242) rw_171_242 (dp0 hd (by decide)) (ls0 := [.ref 77, .int (5 : Int32)]) rfl (Nat.le_of_ble_eq_true rfl) (Nat.le_of_ble_eq_true rfl) rfl (to_rc rfl rfl rfl (g_o hG rfl)) rfl (to_an (pc := 0) rw_152_0 rfl (to_in (pc := 1) rw_152_1 rfl (s_pI (pc := 2) rw_152_2 hG rfl (fun M125 W124 => ?_))))))
            have hG126 := g_wf hG W124 rfl rfl (by decide)
            have F127 := FR.w F0 W124 (show 77 = 77 ∧ (4 = 4 ∨ 4 = 5 ∨ 7 ≤ 4 ∧ 4 ≤ 10 ∨ 4 = 16) ∨ 85 ≤ 77 ∧ 77 ≤ 87 ∧ 12 ≤ 4 by decide)
            refine to_an (pc := 5) rw_152_5 rfl (to_an (pc := 6) rw_152_6 rfl ?_)
            have c_128 : M125.2.1 77 10 = (N.2.1 77 10) := (W_n W124 (by decide) rfl)
            refine tt_gI (pc := 7) rw_152_7 (g_o hG126 rfl) (v := (N.2.1 77 10)) c_128 (s_pI (pc := 10) rw_152_10 hG126 rfl (fun M130 W129 => ?_))
            have hG131 := g_wf hG126 W129 rfl rfl (by decide)
            have F132 := FR.w F127 W129 (show 77 = 77 ∧ (5 = 4 ∨ 5 = 5 ∨ 7 ≤ 5 ∧ 5 ≤ 10 ∨ 5 = 16) ∨ 85 ≤ 77 ∧ 77 ≤ 87 ∧ 12 ≤ 5 by decide)
            refine to_c (pc := 13) rw_152_13 (x := (0 : Int32)) rfl rfl (s_r1 (pc := 14) rw_152_14 (A := 0) rfl (by decide) (s_r1 (pc := 245) rw_171_245 (A := 0) rfl (by decide) ?_))
            have k_133 : (0 : Int32).toInt = 0 := rfl
            have j_134 := (RS_f (fun a i z => W_n W129 (tg_37 a i z) rfl) (RS_f (fun a i z => W_n W124 (tg_38 a i z) rfl) g11))
            exact h (0 : Int32) M130 hG131 F132 (by decide) (by decide) j_134 (fun _ => g16.symm.trans (by first | exact x_rc_n1 (by omega) (by omega) | exact x_rc_n2 (by omega) (by omega))) (fun z => absurd z (by decide))
    · refine to_in (pc := 114) rw_171_114 rfl (to_an (pc := 115) rw_171_115 rfl (s_gR (pc := 116) rw_171_116 hG rfl (v := 84) rfl (to_c (pc := 119) rw_171_119 (x := (8 : Int32)) rfl rfl (to_in (pc := 121) rw_171_121 rfl (s_add (pc := 122) rw_171_122 (A := 8) (B := x1.toInt) rfl rfl (by omega) (fun v135 e136 => s_ial (pc := 123) rw_171_123 hG rfl (n := 16) rfl rfl (A := v135.toInt) rfl (by omega) (by omega) (lo := 0) (hi := 24) rfl rfl (fun v137 w_138 _ _ => ?_)))))))
      have z_139 := PLr_r g14 5 84 rfl (by decide) (by decide) (k := x1.toInt) (by omega) (by omega) (by omega) w_138
      refine b_ceq (pc := 124) rw_171_124 (A := x3.toInt) (B := v137.toInt) rfl rfl (fun h140 => ?_) (fun h140 => ?_)
      · refine to_an (pc := 153) rw_171_153 rfl (to_c (pc := 154) rw_171_154 (x := (2 : Int32)) rfl rfl (s_v (pc := 155) rw_171_155 (dp0 hd (by decide)) (ls0 := [.ref 77, .int (2 : Int32)]) rfl (Nat.le_of_ble_eq_true rfl) (Nat.le_of_ble_eq_true rfl) rfl (to_rc rfl rfl rfl (g_o hG rfl)) rfl (to_an (pc := 0) rw_152_0 rfl (to_in (pc := 1) rw_152_1 rfl (s_pI (pc := 2) rw_152_2 hG rfl (fun M142 W141 => ?_))))))
        have hG143 := g_wf hG W141 rfl rfl (by decide)
        have F144 := FR.w F0 W141 (show 77 = 77 ∧ (4 = 4 ∨ 4 = 5 ∨ 7 ≤ 4 ∧ 4 ≤ 10 ∨ 4 = 16) ∨ 85 ≤ 77 ∧ 77 ≤ 87 ∧ 12 ≤ 4 by decide)
        refine to_an (pc := 5) rw_152_5 rfl (to_an (pc := 6) rw_152_6 rfl ?_)
        have c_145 : M142.2.1 77 10 = (N.2.1 77 10) := (W_n W141 (by decide) rfl)
        refine tt_gI (pc := 7) rw_152_7 (g_o hG143 rfl) (v := (N.2.1 77 10)) c_145 (s_pI (pc := 10) rw_152_10 hG143 rfl (fun M147 W146 => ?_))
        have hG148 := g_wf hG143 W146 rfl rfl (by decide)
        have F149 := FR.w F144 W146 (show 77 = 77 ∧ (5 = 4 ∨ 5 = 5 ∨ 7 ≤ 5 ∧ 5 ≤ 10 ∨ 5 = 16) ∨ 85 ≤ 77 ∧ 77 ≤ 87 ∧ 12 ≤ 5 by decide)
        refine to_c (pc := 13) rw_152_13 (x := (0 : Int32)) rfl rfl (s_r1 (pc := 14) rw_152_14 (A := 0) rfl (by decide) (s_r1 (pc := 158) rw_171_158 (A := 0) rfl (by decide) ?_))
        have k_150 : (0 : Int32).toInt = 0 := rfl
        have j_151 := (RS_f (fun a i z => W_n W146 (tg_37 a i z) rfl) (RS_f (fun a i z => W_n W141 (tg_38 a i z) rfl) g11))
        exact h (0 : Int32) M147 hG148 F149 (by decide) (by decide) j_151 (fun _ => g16.symm.trans (by first | exact x_rc_n1 (by omega) (by omega) | exact x_rc_n2 (by omega) (by omega))) (fun z => absurd z (by decide))
      · refine to_an (pc := 127) rw_171_127 rfl (tt_gI (pc := 128) rw_171_128 (g_o hG rfl) (v := (N.2.1 77 9)) rfl (to_an (pc := 131) rw_171_131 rfl (s_gR (pc := 132) rw_171_132 hG rfl (v := 83) rfl (to_c (pc := 135) rw_171_135 (x := (8 : Int32)) rfl rfl (to_in (pc := 137) rw_171_137 rfl (s_add (pc := 138) rw_171_138 (A := 8) (B := x1.toInt) rfl rfl (by omega) (fun v152 e153 => s_ial (pc := 139) rw_171_139 hG rfl (n := 16) rfl rfl (A := v152.toInt) rfl (by omega) (by omega) (lo := 0) (hi := 63) rfl rfl (fun v154 w_155 _ _ => ?_))))))))
        have z_156 := PLr_r g14 4 83 rfl (by decide) (by decide) (k := x1.toInt) (by omega) (by omega) (by omega) w_155
        refine to_an (pc := 140) rw_171_140 rfl (s_gR (pc := 141) rw_171_141 hG rfl (v := 82) rfl (to_c (pc := 144) rw_171_144 (x := (8 : Int32)) rfl rfl (to_in (pc := 146) rw_171_146 rfl (s_add (pc := 147) rw_171_147 (A := 8) (B := x1.toInt) rfl rfl (by omega) (fun v157 e158 => s_ial (pc := 148) rw_171_148 hG rfl (n := 16) rfl rfl (A := v157.toInt) rfl (by omega) (by omega) (lo := 0) (hi := 59) rfl rfl (fun v159 w_160 _ _ => ?_))))))
        have z_161 := PLr_r g14 3 82 rfl (by decide) (by decide) (k := x1.toInt) (by omega) (by omega) (by omega) w_160
        refine s_sub (pc := 149) rw_171_149 (A := v154.toInt) (B := v159.toInt) rfl rfl (by omega) (fun v162 e163 => b_cle (pc := 150) rw_171_150 (A := (N.2.1 77 9).toInt) (B := v162.toInt) rfl rfl (fun h164 => ?_) (fun h164 => ?_))
        · refine to_l (pc := 159) rw_171_159 rfl rfl rfl (to_an (pc := 161) rw_171_161 rfl (s_gR (pc := 162) rw_171_162 hG rfl (v := 82) rfl (to_c (pc := 165) rw_171_165 (x := (8 : Int32)) rfl rfl (to_in (pc := 167) rw_171_167 rfl (s_add (pc := 168) rw_171_168 (A := 8) (B := x1.toInt) rfl rfl (by omega) (fun v165 e166 => s_ial (pc := 169) rw_171_169 hG rfl (n := 16) rfl rfl (A := v165.toInt) rfl (by omega) (by omega) (lo := 0) (hi := 59) rfl rfl (fun v167 w_168 _ _ => ?_)))))))
          have z_169 := PLr_r g14 3 82 rfl (by decide) (by decide) (k := x1.toInt) (by omega) (by omega) (by omega) w_168
          refine to_an (pc := 170) rw_171_170 rfl (tt_gI (pc := 171) rw_171_171 (g_o hG rfl) (v := (N.2.1 77 9)) rfl ?_)
          have i_172 := i_of (x := (N.2.1 77 9))
          refine s_add (pc := 174) rw_171_174 (A := v167.toInt) (B := (N.2.1 77 9).toInt) rfl rfl (by omega) (fun v170 e171 => s_s (pc := 175) rw_171_175 (dp0 hd (by decide)) (ls0 := [.long y4, .null, .int v170]) rfl (Nat.le_of_ble_eq_true rfl) (Nat.le_of_ble_eq_true rfl) rfl (to_rcs rfl rfl) rfl (to_ln (pc := 0) rw_150_0 rfl rfl rfl (to_in (pc := 1) rw_150_1 rfl (to_2s (pc := 2) rw_150_2 (v := (y4 >>> (v170.toInt64 &&& 63))) rfl (to_cl (pc := 3) rw_150_3 rfl (x := (1 : Int64)) rfl (to_2l (pc := 4) rw_150_4 (v := ((y4 >>> (v170.toInt64 &&& 63)) &&& (1 : Int64))) rfl (to_cl (pc := 5) rw_150_5 rfl (x := (1 : Int64)) rfl (s_lcmpE (pc := 6) rw_150_6 (fun v173 e174 => ?_)))))))))
          have b_175 := x_eq_b (x := ((y4 >>> (v170.toInt64 &&& 63)) &&& (1 : Int64))) (y := (1 : Int64))
          have z_176 := x_hit_r (v := v170) (bits := y4) (h := x_row sg 3 x1.toInt + x_val t nn (N.2.1 77 10).toInt) (by omega) (by omega) (by omega)
          have z_177 := x_hit_b (bits := y4) (h := x_row sg 3 x1.toInt + x_val t nn (N.2.1 77 10).toInt)
          refine b_ine (pc := 7) rw_150_7 (A := v173.toInt) rfl (fun h178 => ?_) (fun h178 => ?_)
          · refine to_c (pc := 14) rw_150_14 (x := (0 : Int32)) rfl rfl (s_r1 (pc := 15) rw_150_15 (A := 0) rfl (by decide) (b_ieq_t (pc := 178) rw_171_178 (A := 0) rfl (by decide) (to_l (pc := 187) rw_171_187 rfl rfl rfl (to_cl (pc := 189) rw_171_189 rfl (x := (1 : Int64)) rfl (to_an (pc := 190) rw_171_190 rfl (s_gR (pc := 191) rw_171_191 hG rfl (v := 82) rfl (to_c (pc := 194) rw_171_194 (x := (8 : Int32)) rfl rfl (to_in (pc := 196) rw_171_196 rfl (s_add (pc := 197) rw_171_197 (A := 8) (B := x1.toInt) rfl rfl (by omega) (fun v179 e180 => s_ial (pc := 198) rw_171_198 hG rfl (n := 16) rfl rfl (A := v179.toInt) rfl (by omega) (by omega) (lo := 0) (hi := 59) rfl rfl (fun v181 w_182 _ _ => ?_)))))))))))
            have z_183 := PLr_r g14 3 82 rfl (by decide) (by decide) (k := x1.toInt) (by omega) (by omega) (by omega) w_182
            refine to_an (pc := 199) rw_171_199 rfl (tt_gI (pc := 200) rw_171_200 (g_o hG rfl) (v := (N.2.1 77 9)) rfl (s_add (pc := 203) rw_171_203 (A := v181.toInt) (B := (N.2.1 77 9).toInt) rfl rfl (by omega) (fun v184 e185 => to_2s (pc := 204) rw_171_204 (v := ((1 : Int64) <<< (v184.toInt64 &&& 63))) rfl (to_2l (pc := 205) rw_171_205 (v := (y4 ||| ((1 : Int64) <<< (v184.toInt64 &&& 63)))) rfl (to_ls (pc := 206) rw_171_206 (ls2 := [.ref 77, .int x1, .int x2, .int x3, .long (y4 ||| ((1 : Int64) <<< (v184.toInt64 &&& 63))), .null]) rfl rfl (s_inc (pc := 208) rw_171_208 (ls2 := fun v => [.ref 77, .int x1, .int x2, .int v, .long (y4 ||| ((1 : Int64) <<< (v184.toInt64 &&& 63))), .null]) rfl rfl (fun _ => rfl) (A := x3.toInt) (B := 1) rfl rfl (by omega) (fun v186 e187 => to_an (pc := 211) rw_171_211 rfl (s_v (pc := 212) rw_171_212 (dp0 hd (by decide)) (ls0 := [.ref 77]) rfl (Nat.le_of_ble_eq_true rfl) (Nat.le_of_ble_eq_true rfl) rfl (to_rc rfl rfl rfl (g_o hG rfl)) rfl ?_))))))))
            have b_188 := g_b hG (a := 77) (i := 7) (lo := 0) (hi := 500) rfl rfl
            have b_189 := g_b hG (a := 77) (i := 6) (lo := 0) (hi := 500) rfl rfl
            have z_190 := RS_b g11 (a := (N.2.1 77 10).toInt) (by omega)
            refine E_156 hX (dp1 hd (by decide)) hG (by omega) (by omega) (by omega) (by omega) g12 g13  (fun M197 hG192 F191 p_193 p_194 p_195 p_196 => ?_)
            have F198 := FR.c F0 F191 tg_58
            have b_199 := g_b hG192 (a := 77) (i := 7) (lo := 0) (hi := 500) rfl rfl
            have c_200 : M197.2.1 77 6 = (N.2.1 77 6) := (F_n F191 (show ¬ (77 = 77 ∧ 7 ≤ 6 ∧ 6 ≤ 10) by decide) rfl)
            have t_201 : (M197.2.1 77 6).toInt = (N.2.1 77 6).toInt := congrArg Int32.toInt c_200
            have b_202 := g_b hG192 (a := 77) (i := 8) (lo := 0) (hi := 5) rfl rfl
            have b_203 := g_b hG192 (a := 77) (i := 10) (lo := 0) (hi := 500) rfl rfl
            have z_204 := RS_s p_196.2 (a := (N.2.1 77 10).toInt) (by omega)
            refine to_go (pc := 215) rw_171_215 ?_
            have c_205 : M197.2.1 77 16 = (N.2.1 77 16) := (F_n F191 (show ¬ (77 = 77 ∧ 7 ≤ 16 ∧ 16 ≤ 10) by decide) rfl)
            have t_206 : (M197.2.1 77 16).toInt = (N.2.1 77 16).toInt := congrArg Int32.toInt c_205
            have j_207 := (TR_f (tg_42 F191) g12)
            have j_208 := (W9_f (tg_44 F191) g13)
            have j_209 := (PLr_f (tg_39 F191) (F_nl F191 (show ¬ (77 = 77 ∧ 7 ≤ 25 ∧ 25 ≤ 10) by decide) rfl) g14)
            have j_210 := (CWr_f (fun k hk9 => F_nl F191 (show ¬ (87 = 77 ∧ 7 ≤ (12 + k) ∧ (12 + k) ≤ 10) by omega) rfl) g15)
            exact ih M197 x1 x2 v186 (y4 ||| ((1 : Int64) <<< (v184.toInt64 &&& 63))) hG192 F198 (by omega) (by omega) (by omega) (by omega) (by omega) (by omega) (by omega) (by omega) (by omega) (by omega) p_196.1 j_207 j_208 j_209 j_210 (x_rc_s (fu := (6 - x3.toInt).toNat) (told := x3.toInt) (bits := y4) (b := (N.2.1 77 10).toInt) (by omega) (by omega) (by omega) (by omega) (by omega) (congrArg (fun z => y4 ||| z) (x_bit_e (v := v184) (by omega))) g16) (by omega)
          · refine to_c (pc := 10) rw_150_10 (x := (1 : Int32)) rfl rfl (to_go (pc := 11) rw_150_11 (s_r1 (pc := 15) rw_150_15 (A := 1) rfl (by decide) (b_ieq_f (pc := 178) rw_171_178 (A := 1) rfl (by decide) (to_an (pc := 181) rw_171_181 rfl (to_c (pc := 182) rw_171_182 (x := (3 : Int32)) rfl rfl (s_v (pc := 183) rw_171_183 (dp0 hd (by decide)) (ls0 := [.ref 77, .int (3 : Int32)]) rfl (Nat.le_of_ble_eq_true rfl) (Nat.le_of_ble_eq_true rfl) rfl (to_rc rfl rfl rfl (g_o hG rfl)) rfl (to_an (pc := 0) rw_152_0 rfl (to_in (pc := 1) rw_152_1 rfl (s_pI (pc := 2) rw_152_2 hG rfl (fun M212 W211 => ?_))))))))))
            have hG213 := g_wf hG W211 rfl rfl (by decide)
            have F214 := FR.w F0 W211 (show 77 = 77 ∧ (4 = 4 ∨ 4 = 5 ∨ 7 ≤ 4 ∧ 4 ≤ 10 ∨ 4 = 16) ∨ 85 ≤ 77 ∧ 77 ≤ 87 ∧ 12 ≤ 4 by decide)
            refine to_an (pc := 5) rw_152_5 rfl (to_an (pc := 6) rw_152_6 rfl ?_)
            have c_215 : M212.2.1 77 10 = (N.2.1 77 10) := (W_n W211 (by decide) rfl)
            refine tt_gI (pc := 7) rw_152_7 (g_o hG213 rfl) (v := (N.2.1 77 10)) c_215 (s_pI (pc := 10) rw_152_10 hG213 rfl (fun M217 W216 => ?_))
            have hG218 := g_wf hG213 W216 rfl rfl (by decide)
            have F219 := FR.w F214 W216 (show 77 = 77 ∧ (5 = 4 ∨ 5 = 5 ∨ 7 ≤ 5 ∧ 5 ≤ 10 ∨ 5 = 16) ∨ 85 ≤ 77 ∧ 77 ≤ 87 ∧ 12 ≤ 5 by decide)
            refine to_c (pc := 13) rw_152_13 (x := (0 : Int32)) rfl rfl (s_r1 (pc := 14) rw_152_14 (A := 0) rfl (by decide) (s_r1 (pc := 186) rw_171_186 (A := 0) rfl (by decide) ?_))
            have k_220 : (0 : Int32).toInt = 0 := rfl
            have j_221 := (RS_f (fun a i z => W_n W216 (tg_37 a i z) rfl) (RS_f (fun a i z => W_n W211 (tg_38 a i z) rfl) g11))
            exact h (0 : Int32) M217 hG218 F219 (by decide) (by decide) j_221 (fun _ => g16.symm.trans (by first | exact x_rc_n1 (by omega) (by omega) | exact x_rc_n2 (by omega) (by omega))) (fun z => absurd z (by decide))
        · refine to_an (pc := 153) rw_171_153 rfl (to_c (pc := 154) rw_171_154 (x := (2 : Int32)) rfl rfl (s_v (pc := 155) rw_171_155 (dp0 hd (by decide)) (ls0 := [.ref 77, .int (2 : Int32)]) rfl (Nat.le_of_ble_eq_true rfl) (Nat.le_of_ble_eq_true rfl) rfl (to_rc rfl rfl rfl (g_o hG rfl)) rfl (to_an (pc := 0) rw_152_0 rfl (to_in (pc := 1) rw_152_1 rfl (s_pI (pc := 2) rw_152_2 hG rfl (fun M223 W222 => ?_))))))
          have hG224 := g_wf hG W222 rfl rfl (by decide)
          have F225 := FR.w F0 W222 (show 77 = 77 ∧ (4 = 4 ∨ 4 = 5 ∨ 7 ≤ 4 ∧ 4 ≤ 10 ∨ 4 = 16) ∨ 85 ≤ 77 ∧ 77 ≤ 87 ∧ 12 ≤ 4 by decide)
          refine to_an (pc := 5) rw_152_5 rfl (to_an (pc := 6) rw_152_6 rfl ?_)
          have c_226 : M223.2.1 77 10 = (N.2.1 77 10) := (W_n W222 (by decide) rfl)
          refine tt_gI (pc := 7) rw_152_7 (g_o hG224 rfl) (v := (N.2.1 77 10)) c_226 (s_pI (pc := 10) rw_152_10 hG224 rfl (fun M228 W227 => ?_))
          have hG229 := g_wf hG224 W227 rfl rfl (by decide)
          have F230 := FR.w F225 W227 (show 77 = 77 ∧ (5 = 4 ∨ 5 = 5 ∨ 7 ≤ 5 ∧ 5 ≤ 10 ∨ 5 = 16) ∨ 85 ≤ 77 ∧ 77 ≤ 87 ∧ 12 ≤ 5 by decide)
          refine to_c (pc := 13) rw_152_13 (x := (0 : Int32)) rfl rfl (s_r1 (pc := 14) rw_152_14 (A := 0) rfl (by decide) (s_r1 (pc := 158) rw_171_158 (A := 0) rfl (by decide) ?_))
          have k_231 : (0 : Int32).toInt = 0 := rfl
          have j_232 := (RS_f (fun a i z => W_n W227 (tg_37 a i z) rfl) (RS_f (fun a i z => W_n W222 (tg_38 a i z) rfl) g11))
          exact h (0 : Int32) M228 hG229 F230 (by decide) (by decide) j_232 (fun _ => g16.symm.trans (by first | exact x_rc_n1 (by omega) (by omega) | exact x_rc_n2 (by omega) (by omega))) (fun z => absurd z (by decide))
set_option maxRecDepth 4000 in
set_option maxHeartbeats 0 in
theorem E_171 {X : mm_X} {d : Nat} {M : mm_M} {Q : Option Value → mm_M → Prop} {t : Nat → Int} {nn : Int} {a : Int} {sg : x_S} {k : x_K} (hX : g_X X) (hd : 3 ≤ d) (hG : g_G M) (q1 : RS M t nn) (q2 : (M.2.1 77 10).toInt = a) (q3 : 0 ≤ nn) (q4 : nn ≤ 500) (q5 : TR M t nn) (q6 : W9 M) (q7 : PLr M sg) (q8 : CWr M sg) (h : ∀ (r : Int32) (M1 : mm_M), g_G M1 → FR md_w171 M M1 → (0 ≤ r.toInt) → (r.toInt ≤ 1) → RS M1 t nn → ((r.toInt = 0 → x_word t nn sg (x_ns t nn a) k = none)) → ((r.toInt = 1 → WOr t nn (x_word t nn sg (x_ns t nn a) k) k M1 sg)) → Q (some (.int r)) M1) : mm_T X d 170 0 [.ref 77, .null, .null, .null, .null, .null] [] M Q := by
  have F0 : FR md_w171 M M := FR.rf
  have b_233 := g_b hG (a := 77) (i := 10) (lo := 0) (hi := 500) rfl rfl
  have z_234 := q7.2.1
  have z_235 := q7.2.2.1
  have z_236 := q7.2.2.2.1
  have z_237 := q7.1
  have z_238 := z_237.1
  have z_239 := z_237.2.1
  have z_240 := z_237.2.2.1
  have z_241 := z_237.2.2.2.1
  have z_242 := z_237.2.2.2.2.1
  have z_243 := z_237.2.2.2.2.2.1
  have b_244 := g_b hG (a := 77) (i := 14) (lo := 10) (hi := 60) rfl rfl
  have b_245 := g_b hG (a := 77) (i := 15) (lo := 0) (hi := 8) rfl rfl
  have b_246 := g_b hG (a := 77) (i := 16) (lo := 0) (hi := 12) rfl rfl
  have z_247 := x_fn_b (s := sg) (v := x_val t nn (x_ns t nn a)) q7.1
  refine to_an (pc := 0) rw_171_0 rfl (tt_gI (pc := 1) rw_171_1 (g_o hG rfl) (v := (M.2.1 77 16)) rfl (to_c (pc := 4) rw_171_4 (x := (12 : Int32)) rfl rfl (b_cne (pc := 6) rw_171_6 (A := (M.2.1 77 16).toInt) (B := 12) rfl rfl (fun h248 => ?_) (fun h248 => ?_))))
  · refine to_an (pc := 15) rw_171_15 rfl (s_v (pc := 16) rw_171_16 (dp0 hd (by decide)) (ls0 := [.ref 77]) rfl (Nat.le_of_ble_eq_true rfl) (Nat.le_of_ble_eq_true rfl) rfl (to_rc rfl rfl rfl (g_o hG rfl)) rfl ?_)
    have b_249 := g_b hG (a := 77) (i := 7) (lo := 0) (hi := 500) rfl rfl
    have b_250 := g_b hG (a := 77) (i := 6) (lo := 0) (hi := 500) rfl rfl
    have z_251 := RS_b q1 (a := a) (by omega)
    refine E_156 hX (dp1 hd (by decide)) hG (by omega) (by omega) (by omega) (by omega) q5 q6  (fun M258 hG253 F252 p_254 p_255 p_256 p_257 => ?_)
    have F259 := FR.c F0 F252 tg_58
    have b_260 := g_b hG253 (a := 77) (i := 7) (lo := 0) (hi := 500) rfl rfl
    have c_261 : M258.2.1 77 6 = (M.2.1 77 6) := (F_n F252 (show ¬ (77 = 77 ∧ 7 ≤ 6 ∧ 6 ≤ 10) by decide) rfl)
    have t_262 : (M258.2.1 77 6).toInt = (M.2.1 77 6).toInt := congrArg Int32.toInt c_261
    have b_263 := g_b hG253 (a := 77) (i := 8) (lo := 0) (hi := 5) rfl rfl
    have b_264 := g_b hG253 (a := 77) (i := 10) (lo := 0) (hi := 500) rfl rfl
    have z_265 := RS_s p_257.2 (a := a) (by omega)
    have c_266 := RS_u p_257.1 (a := (x_ns t nn a)) (by omega)
    unfold x_R at c_266
    refine to_an (pc := 19) rw_171_19 rfl (tt_gI (pc := 20) rw_171_20 (g_o hG253 rfl) (v := (M258.2.1 77 8)) rfl (to_c (pc := 23) rw_171_23 (x := (2 : Int32)) rfl rfl (b_ceq (pc := 24) rw_171_24 (A := (M258.2.1 77 8).toInt) (B := 2) rfl rfl (fun h267 => ?_) (fun h267 => ?_))))
    · refine to_an (pc := 33) rw_171_33 rfl (to_an (pc := 34) rw_171_34 rfl (tt_gI (pc := 35) rw_171_35 (g_o hG253 rfl) (v := (M258.2.1 77 9)) rfl (s_v (pc := 38) rw_171_38 (dp0 hd (by decide)) (ls0 := [.ref 77, .int (M258.2.1 77 9), .null]) rfl (Nat.le_of_ble_eq_true rfl) (Nat.le_of_ble_eq_true rfl) rfl (to_rc rfl rfl rfl (g_o hG253 rfl)) rfl ?_)))
      have j_268 := (PLr_f (tg_39 F252) (F_nl F252 (show ¬ (77 = 77 ∧ 7 ≤ 25 ∧ 25 ≤ 10) by decide) rfl) q7)
      refine E_166 hX (dp1 hd (by decide)) hG253 j_268 (n := (M258.2.1 77 9)) (sg := sg) (fun r269 M275 hG271 F270 p_272 p_273 p_274 => ?_)
      have F276 := FR.c F259 F270 tg_59
      have z_277 := x_fn_v (s := sg) (r := 1) (v := (M258.2.1 77 9).toInt) (w := x_val t nn (x_ns t nn a))
      refine to_isn (pc := 41) rw_171_41 (ls2 := [.ref 77, .int r269, .null, .null, .null, .null]) rfl rfl (to_in (pc := 42) rw_171_42 rfl (b_ilt (pc := 43) rw_171_43 (A := r269.toInt) rfl (fun h278 => ?_) (fun h278 => ?_)))
      · refine to_an (pc := 59) rw_171_59 rfl (to_c (pc := 60) rw_171_60 (x := (4 : Int32)) rfl rfl (s_v (pc := 61) rw_171_61 (dp0 hd (by decide)) (ls0 := [.ref 77, .int (4 : Int32)]) rfl (Nat.le_of_ble_eq_true rfl) (Nat.le_of_ble_eq_true rfl) rfl (to_rc rfl rfl rfl (g_o hG271 rfl)) rfl (to_an (pc := 0) rw_152_0 rfl (to_in (pc := 1) rw_152_1 rfl (s_pI (pc := 2) rw_152_2 hG271 rfl (fun M280 W279 => ?_))))))
        have hG281 := g_wf hG271 W279 rfl rfl (by decide)
        have F282 := FR.w F276 W279 (show 77 = 77 ∧ (4 = 4 ∨ 4 = 5 ∨ 7 ≤ 4 ∧ 4 ≤ 10 ∨ 4 = 16) ∨ 85 ≤ 77 ∧ 77 ≤ 87 ∧ 12 ≤ 4 by decide)
        refine to_an (pc := 5) rw_152_5 rfl (to_an (pc := 6) rw_152_6 rfl ?_)
        have c_283 : M280.2.1 77 10 = (M258.2.1 77 10) := (W_n W279 (by decide) (F_n F270 (show ¬ (77 < 0) by decide) rfl))
        refine tt_gI (pc := 7) rw_152_7 (g_o hG281 rfl) (v := (M258.2.1 77 10)) c_283 (s_pI (pc := 10) rw_152_10 hG281 rfl (fun M285 W284 => ?_))
        have hG286 := g_wf hG281 W284 rfl rfl (by decide)
        have F287 := FR.w F282 W284 (show 77 = 77 ∧ (5 = 4 ∨ 5 = 5 ∨ 7 ≤ 5 ∧ 5 ≤ 10 ∨ 5 = 16) ∨ 85 ≤ 77 ∧ 77 ≤ 87 ∧ 12 ≤ 5 by decide)
        refine to_c (pc := 13) rw_152_13 (x := (0 : Int32)) rfl rfl (s_r1 (pc := 14) rw_152_14 (A := 0) rfl (by decide) (s_r1 (pc := 64) rw_171_64 (A := 0) rfl (by decide) ?_))
        have k_288 : (0 : Int32).toInt = 0 := rfl
        have j_289 := (RS_f (fun a i z => W_n W284 (tg_37 a i z) rfl) (RS_f (fun a i z => W_n W279 (tg_38 a i z) rfl) (RS_f (tg_45 F270) p_257.1)))
        exact h (0 : Int32) M285 hG286 F287 (by decide) (by decide) j_289 (fun _ => x_word_n (by omega)) (fun z => absurd z (by decide))
      · refine to_an (pc := 46) rw_171_46 rfl (s_gR (pc := 47) rw_171_47 hG271 rfl (v := 81) rfl (to_c (pc := 50) rw_171_50 (x := (8 : Int32)) rfl rfl (to_in (pc := 52) rw_171_52 rfl (s_add (pc := 53) rw_171_53 (A := 8) (B := r269.toInt) rfl rfl (by omega) (fun v290 e291 => s_ial (pc := 54) rw_171_54 hG271 rfl (n := 16) rfl rfl (A := v290.toInt) rfl (by omega) (by omega) (lo := 0) (hi := 3) rfl rfl (fun v292 w_293 _ _ => ?_))))))
        have j_294 := (PLr_f (tg_47 F270) (F_nl F270 (show ¬ (77 < 0) by decide) rfl) j_268)
        have z_295 := PLr_r j_294 2 81 rfl (by decide) (by decide) (k := r269.toInt) (by omega) (by omega) (by omega) w_293
        have z_296 := x_row_v (s := sg) (r := 2) (x := r269.toInt) (y := x_fn sg 1 (x_val t nn (x_ns t nn a)))
        refine to_c (pc := 55) rw_171_55 (x := (3 : Int32)) rfl rfl (b_ceq (pc := 56) rw_171_56 (A := v292.toInt) (B := 3) rfl rfl (fun h297 => ?_) (fun h297 => ?_))
        · refine to_an (pc := 65) rw_171_65 rfl (s_v (pc := 66) rw_171_66 (dp0 hd (by decide)) (ls0 := [.ref 77]) rfl (Nat.le_of_ble_eq_true rfl) (Nat.le_of_ble_eq_true rfl) rfl (to_rc rfl rfl rfl (g_o hG271 rfl)) rfl ?_)
          have c_298 : M275.2.1 77 7 = (M258.2.1 77 7) := (F_n F270 (show ¬ (77 < 0) by decide) rfl)
          have t_299 : (M275.2.1 77 7).toInt = (M258.2.1 77 7).toInt := congrArg Int32.toInt c_298
          have c_300 : M275.2.1 77 6 = (M.2.1 77 6) := (F_n F270 (show ¬ (77 < 0) by decide) c_261)
          have t_301 : (M275.2.1 77 6).toInt = (M.2.1 77 6).toInt := congrArg Int32.toInt c_300
          have c_302 : M275.2.1 77 10 = (M258.2.1 77 10) := (F_n F270 (show ¬ (77 < 0) by decide) rfl)
          have t_303 : (M275.2.1 77 10).toInt = (M258.2.1 77 10).toInt := congrArg Int32.toInt c_302
          have j_304 := (RS_f (tg_45 F270) p_257.1)
          have z_305 := RS_b j_304 (a := (x_ns t nn a)) (by omega)
          have j_306 := (TR_f (tg_9 F270) (TR_f (tg_42 F252) q5))
          have j_307 := (W9_f (tg_46 F270) (W9_f (tg_44 F252) q6))
          refine E_156 hX (dp1 hd (by decide)) hG271 (by omega) (by omega) (by omega) (by omega) j_306 j_307  (fun M314 hG309 F308 p_310 p_311 p_312 p_313 => ?_)
          have F315 := FR.c F276 F308 tg_58
          have b_316 := g_b hG309 (a := 77) (i := 7) (lo := 0) (hi := 500) rfl rfl
          have c_317 : M314.2.1 77 6 = (M.2.1 77 6) := (F_n F308 (show ¬ (77 = 77 ∧ 7 ≤ 6 ∧ 6 ≤ 10) by decide) c_300)
          have t_318 : (M314.2.1 77 6).toInt = (M.2.1 77 6).toInt := congrArg Int32.toInt c_317
          have b_319 := g_b hG309 (a := 77) (i := 8) (lo := 0) (hi := 5) rfl rfl
          have b_320 := g_b hG309 (a := 77) (i := 10) (lo := 0) (hi := 500) rfl rfl
          have z_321 := RS_s p_313.2 (a := (x_ns t nn a)) (by omega)
          refine to_an (pc := 69) rw_171_69 rfl (s_v (pc := 70) rw_171_70 (dp0 hd (by decide)) (ls0 := [.ref 77]) rfl (Nat.le_of_ble_eq_true rfl) (Nat.le_of_ble_eq_true rfl) rfl (to_rc rfl rfl rfl (g_o hG309 rfl)) rfl ?_)
          have j_322 := (PLr_f (tg_39 F308) (F_nl F308 (show ¬ (77 = 77 ∧ 7 ≤ 25 ∧ 25 ≤ 10) by decide) rfl) j_294)
          refine E_169 hX (dp1 hd (by decide)) hG309 p_313.1 (by omega) j_322 (t := t) (nn := nn) (a := (x_ns t nn (x_ns t nn a))) (sg := sg) (fun r323 M331 hG325 F324 p_326 p_327 p_328 p_329 p_330 => ?_)
          have F332 := FR.c F315 F324 tg_60
          rcases (show r323.toInt = 0 ∨ r323.toInt = 1 by omega) with h333 | h333
          · skip
            have p_334 := p_330 (by omega)
            clear p_328 p_329 p_330
            refine b_ine_f (pc := 73) rw_171_73 (A := r323.toInt) rfl (by omega) (to_c (pc := 76) rw_171_76 (x := (0 : Int32)) rfl rfl (s_r1 (pc := 77) rw_171_77 (A := 0) rfl (by decide) ?_))
            have k_335 : (0 : Int32).toInt = 0 := rfl
            have j_336 := (RS_f (tg_40 F324) p_313.1)
            exact h (0 : Int32) M331 hG325 F332 (by decide) (by decide) j_336 (fun _ => x_word_n (by omega)) (fun z => absurd z (by decide))
          · skip
            have p_337 := p_328 (by omega)
            have p_338 := p_329 (by omega)
            clear p_328 p_329 p_330
            refine b_ine_t (pc := 73) rw_171_73 (A := r323.toInt) rfl (by omega) (to_an (pc := 78) rw_171_78 rfl ?_)
            have c_339 : M331.2.1 77 9 = (M314.2.1 77 9) := (F_n F324 (show ¬ (77 = 77 ∧ (9 = 4 ∨ 9 = 5)) by decide) rfl)
            refine tt_gI (pc := 79) rw_171_79 (g_o hG325 rfl) (v := (M314.2.1 77 9)) c_339 (to_isn (pc := 82) rw_171_82 (ls2 := [.ref 77, .int r269, .int (M314.2.1 77 9), .null, .null, .null]) rfl rfl (to_an (pc := 83) rw_171_83 rfl (s_v (pc := 84) rw_171_84 (dp0 hd (by decide)) (ls0 := [.ref 77]) rfl (Nat.le_of_ble_eq_true rfl) (Nat.le_of_ble_eq_true rfl) rfl (to_rc rfl rfl rfl (g_o hG325 rfl)) rfl ?_)))
            have c_340 : M331.2.1 77 7 = (M314.2.1 77 7) := (F_n F324 (show ¬ (77 = 77 ∧ (7 = 4 ∨ 7 = 5)) by decide) rfl)
            have t_341 : (M331.2.1 77 7).toInt = (M314.2.1 77 7).toInt := congrArg Int32.toInt c_340
            have c_342 : M331.2.1 77 6 = (M.2.1 77 6) := (F_n F324 (show ¬ (77 = 77 ∧ (6 = 4 ∨ 6 = 5)) by decide) c_317)
            have t_343 : (M331.2.1 77 6).toInt = (M.2.1 77 6).toInt := congrArg Int32.toInt c_342
            have c_344 : M331.2.1 77 10 = (M314.2.1 77 10) := (F_n F324 (show ¬ (77 = 77 ∧ (10 = 4 ∨ 10 = 5)) by decide) rfl)
            have t_345 : (M331.2.1 77 10).toInt = (M314.2.1 77 10).toInt := congrArg Int32.toInt c_344
            have j_346 := (RS_f (tg_40 F324) p_313.1)
            have z_347 := RS_b j_346 (a := (x_ns t nn (x_ns t nn a))) (by omega)
            have j_348 := (TR_f (tg_41 F324) (TR_f (tg_42 F308) j_306))
            have j_349 := (W9_f (tg_43 F324) (W9_f (tg_44 F308) j_307))
            refine E_156 hX (dp1 hd (by decide)) hG325 (by omega) (by omega) (by omega) (by omega) j_348 j_349  (fun M356 hG351 F350 p_352 p_353 p_354 p_355 => ?_)
            have F357 := FR.c F332 F350 tg_58
            have b_358 := g_b hG351 (a := 77) (i := 7) (lo := 0) (hi := 500) rfl rfl
            have c_359 : M356.2.1 77 6 = (M.2.1 77 6) := (F_n F350 (show ¬ (77 = 77 ∧ 7 ≤ 6 ∧ 6 ≤ 10) by decide) c_342)
            have t_360 : (M356.2.1 77 6).toInt = (M.2.1 77 6).toInt := congrArg Int32.toInt c_359
            have b_361 := g_b hG351 (a := 77) (i := 8) (lo := 0) (hi := 5) rfl rfl
            have b_362 := g_b hG351 (a := 77) (i := 10) (lo := 0) (hi := 500) rfl rfl
            have z_363 := RS_s p_355.2 (a := (x_ns t nn (x_ns t nn a))) (by omega)
            have c_364 := RS_u p_355.1 (a := (x_ns t nn (x_ns t nn (x_ns t nn a)))) (by omega)
            unfold x_R at c_364
            refine to_an (pc := 87) rw_171_87 rfl (tt_gI (pc := 88) rw_171_88 (g_o hG351 rfl) (v := (M356.2.1 77 8)) rfl (to_c (pc := 91) rw_171_91 (x := (3 : Int32)) rfl rfl (b_ceq (pc := 92) rw_171_92 (A := (M356.2.1 77 8).toInt) (B := 3) rfl rfl (fun h365 => ?_) (fun h365 => ?_))))
            · refine to_c (pc := 101) rw_171_101 (x := (0 : Int32)) rfl rfl (to_isn (pc := 102) rw_171_102 (ls2 := [.ref 77, .int r269, .int (M314.2.1 77 9), .int (0 : Int32), .null, .null]) rfl rfl (to_cl (pc := 103) rw_171_103 rfl (x := (0 : Int64)) rfl (to_ls (pc := 104) rw_171_104 (ls2 := [.ref 77, .int r269, .int (M314.2.1 77 9), .int (0 : Int32), .long (0 : Int64), .null]) rfl rfl ?_)))
              have k_366 : (0 : Int32).toInt = 0 := rfl
              have c_367 : M356.2.1 77 16 = (M.2.1 77 16) := (F_n F350 (show ¬ (77 = 77 ∧ 7 ≤ 16 ∧ 16 ≤ 10) by decide) (F_n F324 (show ¬ (77 = 77 ∧ (16 = 4 ∨ 16 = 5)) by decide) (F_n F308 (show ¬ (77 = 77 ∧ 7 ≤ 16 ∧ 16 ≤ 10) by decide) (F_n F270 (show ¬ (77 < 0) by decide) (F_n F252 (show ¬ (77 = 77 ∧ 7 ≤ 16 ∧ 16 ≤ 10) by decide) rfl)))))
              have t_368 : (M356.2.1 77 16).toInt = (M.2.1 77 16).toInt := congrArg Int32.toInt c_367
              have j_369 := (TR_f (tg_42 F350) j_348)
              have j_370 := (W9_f (tg_44 F350) j_349)
              have j_371 := (PLr_f (tg_39 F350) (F_nl F350 (show ¬ (77 = 77 ∧ 7 ≤ 25 ∧ 25 ≤ 10) by decide) rfl) (PLr_f (tg_48 F324) (F_nl F324 (show ¬ (77 = 77 ∧ (25 = 4 ∨ 25 = 5)) by decide) rfl) j_322))
              have j_372 := (CWr_f (fun k hk9 => F_nl F350 (show ¬ (87 = 77 ∧ 7 ≤ (12 + k) ∧ (12 + k) ≤ 10) by omega) rfl) (CWr_f (fun k hk9 => F_nl F324 (show ¬ (87 = 77 ∧ ((12 + k) = 4 ∨ (12 + k) = 5)) by omega) rfl) (CWr_f (fun k hk9 => F_nl F308 (show ¬ (87 = 77 ∧ 7 ≤ (12 + k) ∧ (12 + k) ≤ 10) by omega) rfl) (CWr_f (fun k hk9 => F_nl F270 (show ¬ (87 < 0) by decide) rfl) (CWr_f (fun k hk9 => F_nl F252 (show ¬ (87 = 77 ∧ 7 ≤ (12 + k) ∧ (12 + k) ≤ 10) by omega) rfl) q8)))))
              have z_373 := j_371.1.2.2.2.2.2.2.2 r269.toInt (by omega) (by omega)
              exact (U_171_0 (t := t) (nn := nn) (a := a) (sg := sg) (k := k) hX hd q1 q2 q3 q4 q5 q6 q7 q8 h ((10 - (0 : Int32).toInt).toNat + 1)) M356 r269 (M314.2.1 77 9) (0 : Int32) (0 : Int64) hG351 F357 (by omega) (by omega) (by omega) (by omega) (by omega) (by omega) (by omega) (by omega) (by omega) (by omega) p_355.1 j_369 j_370 j_371 j_372 (by rw [show (M314.2.1 77 9).toInt = x_val t nn (x_ns t nn (x_ns t nn a)) by omega, show (M356.2.1 77 10).toInt = (x_ns t nn (x_ns t nn (x_ns t nn a))) by omega]; exact (x_word_y (by omega) (by omega)).symm) (by omega)
            · refine to_an (pc := 95) rw_171_95 rfl (to_c (pc := 96) rw_171_96 (x := (1 : Int32)) rfl rfl (s_v (pc := 97) rw_171_97 (dp0 hd (by decide)) (ls0 := [.ref 77, .int (1 : Int32)]) rfl (Nat.le_of_ble_eq_true rfl) (Nat.le_of_ble_eq_true rfl) rfl (to_rc rfl rfl rfl (g_o hG351 rfl)) rfl (to_an (pc := 0) rw_152_0 rfl (to_in (pc := 1) rw_152_1 rfl (s_pI (pc := 2) rw_152_2 hG351 rfl (fun M375 W374 => ?_))))))
              have hG376 := g_wf hG351 W374 rfl rfl (by decide)
              have F377 := FR.w F357 W374 (show 77 = 77 ∧ (4 = 4 ∨ 4 = 5 ∨ 7 ≤ 4 ∧ 4 ≤ 10 ∨ 4 = 16) ∨ 85 ≤ 77 ∧ 77 ≤ 87 ∧ 12 ≤ 4 by decide)
              refine to_an (pc := 5) rw_152_5 rfl (to_an (pc := 6) rw_152_6 rfl ?_)
              have c_378 : M375.2.1 77 10 = (M356.2.1 77 10) := (W_n W374 (by decide) rfl)
              refine tt_gI (pc := 7) rw_152_7 (g_o hG376 rfl) (v := (M356.2.1 77 10)) c_378 (s_pI (pc := 10) rw_152_10 hG376 rfl (fun M380 W379 => ?_))
              have hG381 := g_wf hG376 W379 rfl rfl (by decide)
              have F382 := FR.w F377 W379 (show 77 = 77 ∧ (5 = 4 ∨ 5 = 5 ∨ 7 ≤ 5 ∧ 5 ≤ 10 ∨ 5 = 16) ∨ 85 ≤ 77 ∧ 77 ≤ 87 ∧ 12 ≤ 5 by decide)
              refine to_c (pc := 13) rw_152_13 (x := (0 : Int32)) rfl rfl (s_r1 (pc := 14) rw_152_14 (A := 0) rfl (by decide) (s_r1 (pc := 100) rw_171_100 (A := 0) rfl (by decide) ?_))
              have k_383 : (0 : Int32).toInt = 0 := rfl
              have j_384 := (RS_f (fun a i z => W_n W379 (tg_37 a i z) rfl) (RS_f (fun a i z => W_n W374 (tg_38 a i z) rfl) p_355.1))
              have z_385 := q7.1.2.2.2.2.2.2.2 r269.toInt (by omega) (by omega)
              exact h (0 : Int32) M380 hG381 F382 (by decide) (by decide) j_384 (fun _ => (x_word_y (f := r269.toInt) (by omega) (by omega)).trans (x_rc_n2 (by omega) (by omega))) (fun z => absurd z (by decide))
        · refine to_an (pc := 59) rw_171_59 rfl (to_c (pc := 60) rw_171_60 (x := (4 : Int32)) rfl rfl (s_v (pc := 61) rw_171_61 (dp0 hd (by decide)) (ls0 := [.ref 77, .int (4 : Int32)]) rfl (Nat.le_of_ble_eq_true rfl) (Nat.le_of_ble_eq_true rfl) rfl (to_rc rfl rfl rfl (g_o hG271 rfl)) rfl (to_an (pc := 0) rw_152_0 rfl (to_in (pc := 1) rw_152_1 rfl (s_pI (pc := 2) rw_152_2 hG271 rfl (fun M387 W386 => ?_))))))
          have hG388 := g_wf hG271 W386 rfl rfl (by decide)
          have F389 := FR.w F276 W386 (show 77 = 77 ∧ (4 = 4 ∨ 4 = 5 ∨ 7 ≤ 4 ∧ 4 ≤ 10 ∨ 4 = 16) ∨ 85 ≤ 77 ∧ 77 ≤ 87 ∧ 12 ≤ 4 by decide)
          refine to_an (pc := 5) rw_152_5 rfl (to_an (pc := 6) rw_152_6 rfl ?_)
          have c_390 : M387.2.1 77 10 = (M258.2.1 77 10) := (W_n W386 (by decide) (F_n F270 (show ¬ (77 < 0) by decide) rfl))
          refine tt_gI (pc := 7) rw_152_7 (g_o hG388 rfl) (v := (M258.2.1 77 10)) c_390 (s_pI (pc := 10) rw_152_10 hG388 rfl (fun M392 W391 => ?_))
          have hG393 := g_wf hG388 W391 rfl rfl (by decide)
          have F394 := FR.w F389 W391 (show 77 = 77 ∧ (5 = 4 ∨ 5 = 5 ∨ 7 ≤ 5 ∧ 5 ≤ 10 ∨ 5 = 16) ∨ 85 ≤ 77 ∧ 77 ≤ 87 ∧ 12 ≤ 5 by decide)
          refine to_c (pc := 13) rw_152_13 (x := (0 : Int32)) rfl rfl (s_r1 (pc := 14) rw_152_14 (A := 0) rfl (by decide) (s_r1 (pc := 64) rw_171_64 (A := 0) rfl (by decide) ?_))
          have k_395 : (0 : Int32).toInt = 0 := rfl
          have j_396 := (RS_f (fun a i z => W_n W391 (tg_37 a i z) rfl) (RS_f (fun a i z => W_n W386 (tg_38 a i z) rfl) (RS_f (tg_45 F270) p_257.1)))
          exact h (0 : Int32) M392 hG393 F394 (by decide) (by decide) j_396 (fun _ => x_word_n (by omega)) (fun z => absurd z (by decide))
    · refine to_an (pc := 27) rw_171_27 rfl (to_c (pc := 28) rw_171_28 (x := (1 : Int32)) rfl rfl (s_v (pc := 29) rw_171_29 (dp0 hd (by decide)) (ls0 := [.ref 77, .int (1 : Int32)]) rfl (Nat.le_of_ble_eq_true rfl) (Nat.le_of_ble_eq_true rfl) rfl (to_rc rfl rfl rfl (g_o hG253 rfl)) rfl (to_an (pc := 0) rw_152_0 rfl (to_in (pc := 1) rw_152_1 rfl (s_pI (pc := 2) rw_152_2 hG253 rfl (fun M398 W397 => ?_))))))
      have hG399 := g_wf hG253 W397 rfl rfl (by decide)
      have F400 := FR.w F259 W397 (show 77 = 77 ∧ (4 = 4 ∨ 4 = 5 ∨ 7 ≤ 4 ∧ 4 ≤ 10 ∨ 4 = 16) ∨ 85 ≤ 77 ∧ 77 ≤ 87 ∧ 12 ≤ 4 by decide)
      refine to_an (pc := 5) rw_152_5 rfl (to_an (pc := 6) rw_152_6 rfl ?_)
      have c_401 : M398.2.1 77 10 = (M258.2.1 77 10) := (W_n W397 (by decide) rfl)
      refine tt_gI (pc := 7) rw_152_7 (g_o hG399 rfl) (v := (M258.2.1 77 10)) c_401 (s_pI (pc := 10) rw_152_10 hG399 rfl (fun M403 W402 => ?_))
      have hG404 := g_wf hG399 W402 rfl rfl (by decide)
      have F405 := FR.w F400 W402 (show 77 = 77 ∧ (5 = 4 ∨ 5 = 5 ∨ 7 ≤ 5 ∧ 5 ≤ 10 ∨ 5 = 16) ∨ 85 ≤ 77 ∧ 77 ≤ 87 ∧ 12 ≤ 5 by decide)
      refine to_c (pc := 13) rw_152_13 (x := (0 : Int32)) rfl rfl (s_r1 (pc := 14) rw_152_14 (A := 0) rfl (by decide) (s_r1 (pc := 32) rw_171_32 (A := 0) rfl (by decide) ?_))
      have k_406 : (0 : Int32).toInt = 0 := rfl
      have j_407 := (RS_f (fun a i z => W_n W402 (tg_37 a i z) rfl) (RS_f (fun a i z => W_n W397 (tg_38 a i z) rfl) p_257.1))
      exact h (0 : Int32) M403 hG404 F405 (by decide) (by decide) j_407 (fun _ => x_word_n (by omega)) (fun z => absurd z (by decide))
  · refine to_an (pc := 9) rw_171_9 rfl (to_c (pc := 10) rw_171_10 (x := (2 : Int32)) rfl rfl (s_v (pc := 11) rw_171_11 (dp0 hd (by decide)) (ls0 := [.ref 77, .int (2 : Int32)]) rfl (Nat.le_of_ble_eq_true rfl) (Nat.le_of_ble_eq_true rfl) rfl (to_rc rfl rfl rfl (g_o hG rfl)) rfl (to_an (pc := 0) rw_152_0 rfl (to_in (pc := 1) rw_152_1 rfl (s_pI (pc := 2) rw_152_2 hG rfl (fun M409 W408 => ?_))))))
    have hG410 := g_wf hG W408 rfl rfl (by decide)
    have F411 := FR.w F0 W408 (show 77 = 77 ∧ (4 = 4 ∨ 4 = 5 ∨ 7 ≤ 4 ∧ 4 ≤ 10 ∨ 4 = 16) ∨ 85 ≤ 77 ∧ 77 ≤ 87 ∧ 12 ≤ 4 by decide)
    refine to_an (pc := 5) rw_152_5 rfl (to_an (pc := 6) rw_152_6 rfl ?_)
    have c_412 : M409.2.1 77 10 = (M.2.1 77 10) := (W_n W408 (by decide) rfl)
    refine tt_gI (pc := 7) rw_152_7 (g_o hG410 rfl) (v := (M.2.1 77 10)) c_412 (s_pI (pc := 10) rw_152_10 hG410 rfl (fun M414 W413 => ?_))
    have hG415 := g_wf hG410 W413 rfl rfl (by decide)
    have F416 := FR.w F411 W413 (show 77 = 77 ∧ (5 = 4 ∨ 5 = 5 ∨ 7 ≤ 5 ∧ 5 ≤ 10 ∨ 5 = 16) ∨ 85 ≤ 77 ∧ 77 ≤ 87 ∧ 12 ≤ 5 by decide)
    refine to_c (pc := 13) rw_152_13 (x := (0 : Int32)) rfl rfl (s_r1 (pc := 14) rw_152_14 (A := 0) rfl (by decide) (s_r1 (pc := 14) rw_171_14 (A := 0) rfl (by decide) ?_))
    have k_417 : (0 : Int32).toInt = 0 := rfl
    have j_418 := (RS_f (fun a i z => W_n W413 (tg_37 a i z) rfl) (RS_f (fun a i z => W_n W408 (tg_38 a i z) rfl) q1))
    exact h (0 : Int32) M414 hG415 F416 (by decide) (by decide) j_418 (fun _ => x_word_n (by omega)) (fun z => absurd z (by decide))
