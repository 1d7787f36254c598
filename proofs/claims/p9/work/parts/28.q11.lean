section
theorem tg_58 : ∀ a i : Nat, (a = 77 ∧ 7 ≤ i ∧ i ≤ 10) → (a = 77 ∧ (i = 4 ∨ i = 5 ∨ 7 ≤ i ∧ i ≤ 10 ∨ i = 16) ∨ 85 ≤ a ∧ a ≤ 87 ∧ 12 ≤ i) := fun a i z => by omega
theorem tg_59 : ∀ a i : Nat, (a < 0) → (a = 77 ∧ (i = 4 ∨ i = 5 ∨ 7 ≤ i ∧ i ≤ 10 ∨ i = 16) ∨ 85 ≤ a ∧ a ≤ 87 ∧ 12 ≤ i) := fun a i z => by omega
theorem tg_60 : ∀ a i : Nat, (a = 77 ∧ (i = 4 ∨ i = 5)) → (a = 77 ∧ (i = 4 ∨ i = 5 ∨ 7 ≤ i ∧ i ≤ 10 ∨ i = 16) ∨ 85 ≤ a ∧ a ≤ 87 ∧ 12 ≤ i) := fun a i z => by omega
theorem tg_61 : ∀ a i : Nat, (a = 77 ∧ 6 ≤ i ∧ i ≤ 10) → ¬ (a = 77 ∧ i = 16) := fun a i z => by omega
theorem tg_62 : ∀ a i j : Nat, (a = 77 ∧ 6 ≤ i ∧ i ≤ 10) → ¬ (a = 86 ∧ i = j) := fun a i j z => by omega
theorem tg_63 : ∀ a i j : Nat, (a = 77 ∧ 6 ≤ i ∧ i ≤ 10) → ¬ (a = 85 ∧ i = j) := fun a i j z => by omega
set_option maxRecDepth 4000 in
set_option maxHeartbeats 0 in
theorem U_171_0 {X : mm_X} {d : Nat} {M : mm_M} {Q : Option Value → mm_M → Prop} {t : Nat → Int} {nn : Int} {a : Int} {sg : x_S} {k : x_K} (hX : g_X X) (hd : 3 ≤ d) (q1 : RS M t nn) (q2 : (M.2.1 77 10).toInt = a) (q3 : 0 ≤ nn) (q4 : nn ≤ 500) (q5 : TR M t nn) (q6 : W9 M) (q7 : PLr M sg) (q8 : CWr M sg) (h : ∀ (r : Int32) (M1 : mm_M), g_G M1 → FR md_w171 M M1 → (0 ≤ r.toInt) → (r.toInt ≤ 1) → RS M1 t nn → ((r.toInt = 0 → x_word t nn sg (x_ns t nn a) k = none)) → ((r.toInt = 1 → WOr t nn (x_word t nn sg (x_ns t nn a) k) k M1 sg)) → Q (some (.int r)) M1) : ∀ nn9 : Nat, (∀ (N : mm_M) (x1 : Int32) (x2 : Int32) (x3 : Int32) (y4 : Int64), g_G N → FR md_w171 M N → (0 ≤ x1.toInt) → (x1.toInt ≤ 7) → (x1.toInt < sg.2.1) → (x_row sg 2 x1.toInt = 3) → ((N.2.1 77 16).toInt ≤ 11) → (0 ≤ x3.toInt) → (x3.toInt ≤ 4) → (x3.toInt ≤ x_row sg 5 x1.toInt) → (0 ≤ nn) → (nn ≤ 500) → (RS N t nn) → (TR N t nn) → (W9 N) → (PLr N sg) → (CWr N sg) → (x_rc t nn sg x1.toInt x2.toInt k (6 - x3.toInt).toNat x3.toInt y4 (N.2.1 77 10).toInt = x_word t nn sg (x_ns t nn a) k) → 10 - x3.toInt < (nn9 : Int) → mm_T X d 170 106 [.ref 77, .int x1, .int x2, .int x3, .long y4, .null] [] N Q) := by
  intro nn9
  induction nn9 with
  | zero =>
    intro N x1 x2 x3 y4 hG F0 g1 g2 g3 g4 g5 g6 g7 g8 g9 g10 g11 g12 g13 g14 g15 g16 hm
    have b_1 := g_b hG (a := 77) (i := 16) (lo := 0) (hi := 12) rfl rfl
    exfalso; omega
  | succ nn9 ih =>
    intro N x1 x2 x3 y4 hG F0 g1 g2 g3 g4 g5 g6 g7 g8 g9 g10 g11 g12 g13 g14 g15 g16 hm
    have b_2 := g_b hG (a := 77) (i := 16) (lo := 0) (hi := 12) rfl rfl
    have z_3 := g14.2.1
    have z_4 := g14.2.2.1
    have z_5 := g14.2.2.2.1
    have z_6 := g14.1
    have z_7 := z_6.1
    have z_8 := z_6.2.1
    have z_9 := z_6.2.2.1
    have z_10 := z_6.2.2.2.1
    have z_11 := z_6.2.2.2.2.1
    have z_12 := z_6.2.2.2.2.2.1
    have b_13 := g_b hG (a := 77) (i := 14) (lo := 10) (hi := 60) rfl rfl
    have b_14 := g_b hG (a := 77) (i := 15) (lo := 0) (hi := 8) rfl rfl
    have z_15 := g14.1.2.2.2.2.2.2.2 x1.toInt (by omega) (by omega)
    have b_16 := g_b hG (a := 77) (i := 8) (lo := 0) (hi := 5) rfl rfl
    have b_17 := g_b hG (a := 77) (i := 10) (lo := 0) (hi := 500) rfl rfl
    have c_18 := RS_u g11 (a := (N.2.1 77 10).toInt) (by omega)
    unfold x_R at c_18
    refine to_an (pc := 106) rw_171_106 rfl (tt_gI (pc := 107) rw_171_107 (g_o hG rfl) (v := (N.2.1 77 8)) rfl (to_c (pc := 110) rw_171_110 (x := (3 : Int32)) rfl rfl (b_cne (pc := 111) rw_171_111 (A := (N.2.1 77 8).toInt) (B := 3) rfl rfl (fun h19 => ?_) (fun h19 => ?_))))
    · refine to_an (pc := 218) rw_171_218 rfl (to_c (pc := 219) rw_171_219 (x := (59 : Int32)) rfl rfl (s_v (pc := 221) rw_171_221 (dp0 hd (by decide)) (ls0 := [.ref 77, .int (59 : Int32)]) rfl (Nat.le_of_ble_eq_true rfl) (Nat.le_of_ble_eq_true rfl) rfl (to_rc rfl rfl rfl (g_o hG rfl)) rfl (to_an (pc := 0) rw_159_0 rfl (tt_gI (pc := 1) rw_159_1 (g_o hG rfl) (v := (N.2.1 77 8)) rfl (to_c (pc := 4) rw_159_4 (x := (4 : Int32)) rfl rfl (b_cne (pc := 5) rw_159_5 (A := (N.2.1 77 8).toInt) (B := 4) rfl rfl (fun h20 => ?_) (fun h20 => ?_)))))))
      · refine to_c (pc := 20) rw_159_20 (x := (0 : Int32)) rfl rfl (s_r1 (pc := 21) rw_159_21 (A := 0) rfl (by decide) (b_ieq_t (pc := 224) rw_171_224 (A := 0) rfl (by decide) (to_an (pc := 246) rw_171_246 rfl (s_gR (pc := 247) rw_171_247 hG rfl (v := 85) rfl (to_c (pc := 250) rw_171_250 (x := (12 : Int32)) rfl rfl (to_an (pc := 252) rw_171_252 rfl (tt_gI (pc := 253) rw_171_253 (g_o hG rfl) (v := (N.2.1 77 16)) rfl (s_add (pc := 256) rw_171_256 (A := 12) (B := (N.2.1 77 16).toInt) rfl rfl (by omega) (fun v21 e22 => to_in (pc := 257) rw_171_257 rfl (s_ias (pc := 258) rw_171_258 hG rfl (n := 24) rfl (A := v21.toInt) rfl (by omega) (by omega) (fun M24 W23 => ?_)))))))))))
        have hG25 := g_wf hG W23 rfl rfl (by decide)
        have F26 := FR.w F0 W23 (show 85 = 77 ∧ ((v21.toInt).toNat = 4 ∨ (v21.toInt).toNat = 5 ∨ 7 ≤ (v21.toInt).toNat ∧ (v21.toInt).toNat ≤ 10 ∨ (v21.toInt).toNat = 16) ∨ 85 ≤ 85 ∧ 85 ≤ 87 ∧ 12 ≤ (v21.toInt).toNat by omega)
        refine to_an (pc := 259) rw_171_259 rfl (s_gR (pc := 260) rw_171_260 hG25 rfl (v := 86) rfl (to_c (pc := 263) rw_171_263 (x := (12 : Int32)) rfl rfl (to_an (pc := 265) rw_171_265 rfl ?_)))
        have c_27 : M24.2.1 77 16 = (N.2.1 77 16) := (W_n W23 (fun z => absurd z.1 (by decide)) rfl)
        refine tt_gI (pc := 266) rw_171_266 (g_o hG25 rfl) (v := (N.2.1 77 16)) c_27 (s_add (pc := 269) rw_171_269 (A := 12) (B := (N.2.1 77 16).toInt) rfl rfl (by omega) (fun v28 e29 => to_in (pc := 270) rw_171_270 rfl (s_ias (pc := 271) rw_171_271 hG25 rfl (n := 24) rfl (A := v28.toInt) rfl (by omega) (by omega) (fun M31 W30 => ?_))))
        have hG32 := g_w hG25 W30 (A := x1.toInt) rfl (lo := 0) (hi := 7) rfl rfl (by omega) (by decide)
        have F33 := FR.w F26 W30 (show 86 = 77 ∧ ((v28.toInt).toNat = 4 ∨ (v28.toInt).toNat = 5 ∨ 7 ≤ (v28.toInt).toNat ∧ (v28.toInt).toNat ≤ 10 ∨ (v28.toInt).toNat = 16) ∨ 85 ≤ 86 ∧ 86 ≤ 87 ∧ 12 ≤ (v28.toInt).toNat by omega)
        refine to_an (pc := 272) rw_171_272 rfl (s_gR (pc := 273) rw_171_273 hG32 rfl (v := 87) rfl (to_c (pc := 276) rw_171_276 (x := (12 : Int32)) rfl rfl (to_an (pc := 278) rw_171_278 rfl ?_)))
        have c_34 : M31.2.1 77 16 = (N.2.1 77 16) := (W_n W30 (fun z => absurd z.1 (by decide)) c_27)
        refine tt_gI (pc := 279) rw_171_279 (g_o hG32 rfl) (v := (N.2.1 77 16)) c_34 (s_add (pc := 282) rw_171_282 (A := 12) (B := (N.2.1 77 16).toInt) rfl rfl (by omega) (fun v35 e36 => to_l (pc := 283) rw_171_283 rfl rfl rfl (s_las (pc := 285) rw_171_285 hG32 rfl (n := 24) rfl (A := v35.toInt) rfl (by omega) (by omega) (fun M38 W37 => ?_))))
        have hG39 := g_wl hG32 W37
        have F40 := FR.wl F33 W37 (show 87 = 77 ∧ ((v35.toInt).toNat = 4 ∨ (v35.toInt).toNat = 5 ∨ 7 ≤ (v35.toInt).toNat ∧ (v35.toInt).toNat ≤ 10 ∨ (v35.toInt).toNat = 16) ∨ 85 ≤ 87 ∧ 87 ≤ 87 ∧ 12 ≤ (v35.toInt).toNat by omega)
        refine to_an (pc := 286) rw_171_286 rfl (to_dupr (pc := 287) rw_171_287 ?_)
        have c_41 : M38.2.1 77 16 = (N.2.1 77 16) := (W_l W37 c_34)
        refine tt_gI (pc := 288) rw_171_288 (g_o hG39 rfl) (v := (N.2.1 77 16)) c_41 (to_c (pc := 291) rw_171_291 (x := (1 : Int32)) rfl rfl (s_add (pc := 292) rw_171_292 (A := (N.2.1 77 16).toInt) (B := 1) rfl rfl (by omega) (fun v42 e43 => s_pI (pc := 293) rw_171_293 hG39 rfl (fun M45 W44 => ?_))))
        have hG46 := g_w hG39 W44 (A := v42.toInt) rfl (lo := 0) (hi := 12) rfl rfl (by omega) (by decide)
        have F47 := FR.w F40 W44 (show 77 = 77 ∧ (16 = 4 ∨ 16 = 5 ∨ 7 ≤ 16 ∧ 16 ≤ 10 ∨ 16 = 16) ∨ 85 ≤ 77 ∧ 77 ≤ 87 ∧ 12 ≤ 16 by decide)
        refine to_c (pc := 296) rw_171_296 (x := (1 : Int32)) rfl rfl (s_r1 (pc := 297) rw_171_297 (A := 1) rfl (by decide) ?_)
        have k_48 : (1 : Int32).toInt = 1 := rfl
        have j_49 := (RS_f (fun a i z => W_n W44 (tg_61 a i z) rfl) (RS_f (fun a i z => W_l W37 rfl) (RS_f (fun a i z => W_n W30 (tg_62 a i _ z) rfl) (RS_f (fun a i z => W_n W23 (tg_63 a i _ z) rfl) g11))))
        have c_50 : M45.2.1 77 10 = (N.2.1 77 10) := (W_n W44 (by decide) (W_l W37 (W_n W30 (fun z => absurd z.1 (by decide)) (W_n W23 (fun z => absurd z.1 (by decide)) rfl))))
        have t_51 : (M45.2.1 77 10).toInt = (N.2.1 77 10).toInt := congrArg Int32.toInt c_50
        have z_52 := (⟨PLr_wp (nm := x2.toInt) (f := x1.toInt) (b := y4.toInt) g14 W23 W30 W37 W44 (by omega) (by omega) (by omega) (by omega) (by omega) (by omega) (by omega), CWr_wp g15 W23 W30 W37 W44 (by omega) rfl⟩ : PLr2 _ _)
        exact h (1 : Int32) M45 hG46 F47 (by decide) (by decide) j_49 (fun z => absurd z (by decide)) (fun _ => by unfold WOr FOr; rw [show (M45.2.1 77 10).toInt = (N.2.1 77 10).toInt by omega, ← g16]; first | exact Or.inl ⟨_, x_rc_y (by omega) (by omega) (by omega), z_52, (by show sg.2.1 + (sg.2.2.1 + 1) = _; omega)⟩ | exact Or.inr ⟨x_rc_n2 (by omega) (by omega), by omega⟩ | exact (if g9 : x3.toInt = x_row sg 5 x1.toInt then Or.inl ⟨_, x_rc_y (by omega) (by omega) g9, z_52, (by show sg.2.1 + (sg.2.2.1 + 1) = _; omega)⟩ else Or.inr ⟨x_rc_n2 (by omega) g9, by omega⟩))
      · refine to_an (pc := 8) rw_159_8 rfl (tt_gI (pc := 9) rw_159_9 (g_o hG rfl) (v := (N.2.1 77 9)) rfl (to_in (pc := 12) rw_159_12 rfl (b_cne (pc := 13) rw_159_13 (A := (N.2.1 77 9).toInt) (B := 59) rfl rfl (fun h53 => ?_) (fun h53 => ?_))))
        · refine to_c (pc := 20) rw_159_20 (x := (0 : Int32)) rfl rfl (s_r1 (pc := 21) rw_159_21 (A := 0) rfl (by decide) (b_ieq_t (pc := 224) rw_171_224 (A := 0) rfl (by decide) (to_an (pc := 246) rw_171_246 rfl (s_gR (pc := 247) rw_171_247 hG rfl (v := 85) rfl (to_c (pc := 250) rw_171_250 (x := (12 : Int32)) rfl rfl (to_an (pc := 252) rw_171_252 rfl (tt_gI (pc := 253) rw_171_253 (g_o hG rfl) (v := (N.2.1 77 16)) rfl (s_add (pc := 256) rw_171_256 (A := 12) (B := (N.2.1 77 16).toInt) rfl rfl (by omega) (fun v54 e55 => to_in (pc := 257) rw_171_257 rfl (s_ias (pc := 258) rw_171_258 hG rfl (n := 24) rfl (A := v54.toInt) rfl (by omega) (by omega) (fun M57 W56 => ?_)))))))))))
          have hG58 := g_wf hG W56 rfl rfl (by decide)
          have F59 := FR.w F0 W56 (show 85 = 77 ∧ ((v54.toInt).toNat = 4 ∨ (v54.toInt).toNat = 5 ∨ 7 ≤ (v54.toInt).toNat ∧ (v54.toInt).toNat ≤ 10 ∨ (v54.toInt).toNat = 16) ∨ 85 ≤ 85 ∧ 85 ≤ 87 ∧ 12 ≤ (v54.toInt).toNat by omega)
          refine to_an (pc := 259) rw_171_259 rfl (s_gR (pc := 260) rw_171_260 hG58 rfl (v := 86) rfl (to_c (pc := 263) rw_171_263 (x := (12 : Int32)) rfl rfl (to_an (pc := 265) rw_171_265 rfl ?_)))
          have c_60 : M57.2.1 77 16 = (N.2.1 77 16) := (W_n W56 (fun z => absurd z.1 (by decide)) rfl)
          refine tt_gI (pc := 266) rw_171_266 (g_o hG58 rfl) (v := (N.2.1 77 16)) c_60 (s_add (pc := 269) rw_171_269 (A := 12) (B := (N.2.1 77 16).toInt) rfl rfl (by omega) (fun v61 e62 => to_in (pc := 270) rw_171_270 rfl (s_ias (pc := 271) rw_171_271 hG58 rfl (n := 24) rfl (A := v61.toInt) rfl (by omega) (by omega) (fun M64 W63 => ?_))))
          have hG65 := g_w hG58 W63 (A := x1.toInt) rfl (lo := 0) (hi := 7) rfl rfl (by omega) (by decide)
          have F66 := FR.w F59 W63 (show 86 = 77 ∧ ((v61.toInt).toNat = 4 ∨ (v61.toInt).toNat = 5 ∨ 7 ≤ (v61.toInt).toNat ∧ (v61.toInt).toNat ≤ 10 ∨ (v61.toInt).toNat = 16) ∨ 85 ≤ 86 ∧ 86 ≤ 87 ∧ 12 ≤ (v61.toInt).toNat by omega)
          refine to_an (pc := 272) rw_171_272 rfl (s_gR (pc := 273) rw_171_273 hG65 rfl (v := 87) rfl (to_c (pc := 276) rw_171_276 (x := (12 : Int32)) rfl rfl (to_an (pc := 278) rw_171_278 rfl ?_)))
          have c_67 : M64.2.1 77 16 = (N.2.1 77 16) := (W_n W63 (fun z => absurd z.1 (by decide)) c_60)
          refine tt_gI (pc := 279) rw_171_279 (g_o hG65 rfl) (v := (N.2.1 77 16)) c_67 (s_add (pc := 282) rw_171_282 (A := 12) (B := (N.2.1 77 16).toInt) rfl rfl (by omega) (fun v68 e69 => to_l (pc := 283) rw_171_283 rfl rfl rfl (s_las (pc := 285) rw_171_285 hG65 rfl (n := 24) rfl (A := v68.toInt) rfl (by omega) (by omega) (fun M71 W70 => ?_))))
          have hG72 := g_wl hG65 W70
          have F73 := FR.wl F66 W70 (show 87 = 77 ∧ ((v68.toInt).toNat = 4 ∨ (v68.toInt).toNat = 5 ∨ 7 ≤ (v68.toInt).toNat ∧ (v68.toInt).toNat ≤ 10 ∨ (v68.toInt).toNat = 16) ∨ 85 ≤ 87 ∧ 87 ≤ 87 ∧ 12 ≤ (v68.toInt).toNat by omega)
          refine to_an (pc := 286) rw_171_286 rfl (to_dupr (pc := 287) rw_171_287 ?_)
          have c_74 : M71.2.1 77 16 = (N.2.1 77 16) := (W_l W70 c_67)
          refine tt_gI (pc := 288) rw_171_288 (g_o hG72 rfl) (v := (N.2.1 77 16)) c_74 (to_c (pc := 291) rw_171_291 (x := (1 : Int32)) rfl rfl (s_add (pc := 292) rw_171_292 (A := (N.2.1 77 16).toInt) (B := 1) rfl rfl (by omega) (fun v75 e76 => s_pI (pc := 293) rw_171_293 hG72 rfl (fun M78 W77 => ?_))))
          have hG79 := g_w hG72 W77 (A := v75.toInt) rfl (lo := 0) (hi := 12) rfl rfl (by omega) (by decide)
          have F80 := FR.w F73 W77 (show 77 = 77 ∧ (16 = 4 ∨ 16 = 5 ∨ 7 ≤ 16 ∧ 16 ≤ 10 ∨ 16 = 16) ∨ 85 ≤ 77 ∧ 77 ≤ 87 ∧ 12 ≤ 16 by decide)
          refine to_c (pc := 296) rw_171_296 (x := (1 : Int32)) rfl rfl (s_r1 (pc := 297) rw_171_297 (A := 1) rfl (by decide) ?_)
          have k_81 : (1 : Int32).toInt = 1 := rfl
          have j_82 := (RS_f (fun a i z => W_n W77 (tg_61 a i z) rfl) (RS_f (fun a i z => W_l W70 rfl) (RS_f (fun a i z => W_n W63 (tg_62 a i _ z) rfl) (RS_f (fun a i z => W_n W56 (tg_63 a i _ z) rfl) g11))))
          have c_83 : M78.2.1 77 10 = (N.2.1 77 10) := (W_n W77 (by decide) (W_l W70 (W_n W63 (fun z => absurd z.1 (by decide)) (W_n W56 (fun z => absurd z.1 (by decide)) rfl))))
          have t_84 : (M78.2.1 77 10).toInt = (N.2.1 77 10).toInt := congrArg Int32.toInt c_83
          have z_85 := (⟨PLr_wp (nm := x2.toInt) (f := x1.toInt) (b := y4.toInt) g14 W56 W63 W70 W77 (by omega) (by omega) (by omega) (by omega) (by omega) (by omega) (by omega), CWr_wp g15 W56 W63 W70 W77 (by omega) rfl⟩ : PLr2 _ _)
          exact h (1 : Int32) M78 hG79 F80 (by decide) (by decide) j_82 (fun z => absurd z (by decide)) (fun _ => by unfold WOr FOr; rw [show (M78.2.1 77 10).toInt = (N.2.1 77 10).toInt by omega, ← g16]; first | exact Or.inl ⟨_, x_rc_y (by omega) (by omega) (by omega), z_85, (by show sg.2.1 + (sg.2.2.1 + 1) = _; omega)⟩ | exact Or.inr ⟨x_rc_n2 (by omega) (by omega), by omega⟩ | exact (if g9 : x3.toInt = x_row sg 5 x1.toInt then Or.inl ⟨_, x_rc_y (by omega) (by omega) g9, z_85, (by show sg.2.1 + (sg.2.2.1 + 1) = _; omega)⟩ else Or.inr ⟨x_rc_n2 (by omega) g9, by omega⟩))
        · refine to_c (pc := 16) rw_159_16 (x := (1 : Int32)) rfl rfl (to_go (pc := 17) rw_159_17 (s_r1 (pc := 21) rw_159_21 (A := 1) rfl (by decide) (b_ieq_f (pc := 224) rw_171_224 (A := 1) rfl (by decide) (to_in (pc := 227) rw_171_227 rfl (to_an (pc := 228) rw_171_228 rfl (s_gR (pc := 229) rw_171_229 hG rfl (v := 84) rfl (to_c (pc := 232) rw_171_232 (x := (8 : Int32)) rfl rfl (to_in (pc := 234) rw_171_234 rfl (s_add (pc := 235) rw_171_235 (A := 8) (B := x1.toInt) rfl rfl (by omega) (fun v86 e87 => s_ial (pc := 236) rw_171_236 hG rfl (n := 16) rfl rfl (A := v86.toInt) rfl (by omega) (by omega) (lo := 0) (hi := 24) rfl rfl (fun v88 w_89 _ _ => ?_)))))))))))
          have z_90 := PLr_r g14 5 84 rfl (by decide) (by decide) (k := x1.toInt) (by omega) (by omega) (by omega) w_89
          refine b_cge (pc := 237) rw_171_237 (A := x3.toInt) (B := v88.toInt) rfl rfl (fun h91 => ?_) (fun h91 => ?_)
          · refine to_an (pc := 246) rw_171_246 rfl (s_gR (pc := 247) rw_171_247 hG rfl (v := 85) rfl (to_c (pc := 250) rw_171_250 (x := (12 : Int32)) rfl rfl (to_an (pc := 252) rw_171_252 rfl (tt_gI (pc := 253) rw_171_253 (g_o hG rfl) (v := (N.2.1 77 16)) rfl (s_add (pc := 256) rw_171_256 (A := 12) (B := (N.2.1 77 16).toInt) rfl rfl (by omega) (fun v92 e93 => to_in (pc := 257) rw_171_257 rfl (s_ias (pc := 258) rw_171_258 hG rfl (n := 24) rfl (A := v92.toInt) rfl (by omega) (by omega) (fun M95 W94 => ?_))))))))
            have hG96 := g_wf hG W94 rfl rfl (by decide)
            have F97 := FR.w F0 W94 (show 85 = 77 ∧ ((v92.toInt).toNat = 4 ∨ (v92.toInt).toNat = 5 ∨ 7 ≤ (v92.toInt).toNat ∧ (v92.toInt).toNat ≤ 10 ∨ (v92.toInt).toNat = 16) ∨ 85 ≤ 85 ∧ 85 ≤ 87 ∧ 12 ≤ (v92.toInt).toNat by omega)
            refine to_an (pc := 259) rw_171_259 rfl (s_gR (pc := 260) rw_171_260 hG96 rfl (v := 86) rfl (to_c (pc := 263) rw_171_263 (x := (12 : Int32)) rfl rfl (to_an (pc := 265) rw_171_265 rfl ?_)))
            have c_98 : M95.2.1 77 16 = (N.2.1 77 16) := (W_n W94 (fun z => absurd z.1 (by decide)) rfl)
            refine tt_gI (pc := 266) rw_171_266 (g_o hG96 rfl) (v := (N.2.1 77 16)) c_98 (s_add (pc := 269) rw_171_269 (A := 12) (B := (N.2.1 77 16).toInt) rfl rfl (by omega) (fun v99 e100 => to_in (pc := 270) rw_171_270 rfl (s_ias (pc := 271) rw_171_271 hG96 rfl (n := 24) rfl (A := v99.toInt) rfl (by omega) (by omega) (fun M102 W101 => ?_))))
            have hG103 := g_w hG96 W101 (A := x1.toInt) rfl (lo := 0) (hi := 7) rfl rfl (by omega) (by decide)
            have F104 := FR.w F97 W101 (show 86 = 77 ∧ ((v99.toInt).toNat = 4 ∨ (v99.toInt).toNat = 5 ∨ 7 ≤ (v99.toInt).toNat ∧ (v99.toInt).toNat ≤ 10 ∨ (v99.toInt).toNat = 16) ∨ 85 ≤ 86 ∧ 86 ≤ 87 ∧ 12 ≤ (v99.toInt).toNat by omega)
            refine to_an (pc := 272) rw_171_272 rfl (s_gR (pc := 273) rw_171_273 hG103 rfl (v := 87) rfl (to_c (pc := 276) rw_171_276 (x := (12 : Int32)) rfl rfl (to_an (pc := 278) rw_171_278 rfl ?_)))
            have c_105 : M102.2.1 77 16 = (N.2.1 77 16) := (W_n W101 (fun z => absurd z.1 (by decide)) c_98)
            refine tt_gI (pc := 279) rw_171_279 (g_o hG103 rfl) (v := (N.2.1 77 16)) c_105 (s_add (pc := 282) rw_171_282 (A := 12) (B := (N.2.1 77 16).toInt) rfl rfl (by omega) (fun v106 e107 => to_l (pc := 283) rw_171_283 rfl rfl rfl (s_las (pc := 285) rw_171_285 hG103 rfl (n := 24) rfl (A := v106.toInt) rfl (by omega) (by omega) (fun M109 W108 => ?_))))
            have hG110 := g_wl hG103 W108
            have F111 := FR.wl F104 W108 (show 87 = 77 ∧ ((v106.toInt).toNat = 4 ∨ (v106.toInt).toNat = 5 ∨ 7 ≤ (v106.toInt).toNat ∧ (v106.toInt).toNat ≤ 10 ∨ (v106.toInt).toNat = 16) ∨ 85 ≤ 87 ∧ 87 ≤ 87 ∧ 12 ≤ (v106.toInt).toNat by omega)
            refine to_an (pc := 286) rw_171_286 rfl (to_dupr (pc := 287) rw_171_287 ?_)
            have c_112 : M109.2.1 77 16 = (N.2.1 77 16) := (W_l W108 c_105)
            refine tt_gI (pc := 288) rw_171_288 (g_o hG110 rfl) (v := (N.2.1 77 16)) c_112 (to_c (pc := 291) rw_171_291 (x := (1 : Int32)) rfl rfl (s_add (pc := 292) rw_171_292 (A := (N.2.1 77 16).toInt) (B := 1) rfl rfl (by omega) (fun v113 e114 => s_pI (pc := 293) rw_171_293 hG110 rfl (fun M116 W115 => ?_))))
            have hG117 := g_w hG110 W115 (A := v113.toInt) rfl (lo := 0) (hi := 12) rfl rfl (by omega) (by decide)
            have F118 := FR.w F111 W115 (show 77 = 77 ∧ (16 = 4 ∨ 16 = 5 ∨ 7 ≤ 16 ∧ 16 ≤ 10 ∨ 16 = 16) ∨ 85 ≤ 77 ∧ 77 ≤ 87 ∧ 12 ≤ 16 by decide)
            refine to_c (pc := 296) rw_171_296 (x := (1 : Int32)) rfl rfl (s_r1 (pc := 297) rw_171_297 (A := 1) rfl (by decide) ?_)
            have k_119 : (1 : Int32).toInt = 1 := rfl
            have j_120 := (RS_f (fun a i z => W_n W115 (tg_61 a i z) rfl) (RS_f (fun a i z => W_l W108 rfl) (RS_f (fun a i z => W_n W101 (tg_62 a i _ z) rfl) (RS_f (fun a i z => W_n W94 (tg_63 a i _ z) rfl) g11))))
            have c_121 : M116.2.1 77 10 = (N.2.1 77 10) := (W_n W115 (by decide) (W_l W108 (W_n W101 (fun z => absurd z.1 (by decide)) (W_n W94 (fun z => absurd z.1 (by decide)) rfl))))
            have t_122 : (M116.2.1 77 10).toInt = (N.2.1 77 10).toInt := congrArg Int32.toInt c_121
            have z_123 := (⟨PLr_wp (nm := x2.toInt) (f := x1.toInt) (b := y4.toInt) g14 W94 W101 W108 W115 (by omega) (by omega) (by omega) (by omega) (by omega) (by omega) (by omega), CWr_wp g15 W94 W101 W108 W115 (by omega) rfl⟩ : PLr2 _ _)
            exact h (1 : Int32) M116 hG117 F118 (by decide) (by decide) j_120 (fun z => absurd z (by decide)) (fun _ => by unfold WOr FOr; rw [show (M116.2.1 77 10).toInt = (N.2.1 77 10).toInt by omega, ← g16]; first | exact Or.inl ⟨_, x_rc_y (by omega) (by omega) (by omega), z_123, (by show sg.2.1 + (sg.2.2.1 + 1) = _; omega)⟩ | exact Or.inr ⟨x_rc_n2 (by omega) (by omega), by omega⟩ | exact (if g9 : x3.toInt = x_row sg 5 x1.toInt then Or.inl ⟨_, x_rc_y (by omega) (by omega) g9, z_123, (by show sg.2.1 + (sg.2.2.1 + 1) = _; omega)⟩ else Or.inr ⟨x_rc_n2 (by omega) g9, by omega⟩))
          · refine to_an (pc := 240) rw_171_240 rfl (to_c (pc := 241) rw_171_241 (x := (5 : Int32)) rfl rfl (s_v (pc := 242) rw_171_242 (dp0 hd (by decide)) (ls0 := [.ref 77, .int (5 : Int32)]) rfl (Nat.le_of_ble_eq_true rfl) (Nat.le_of_ble_eq_true rfl) rfl (to_rc rfl rfl rfl (g_o hG rfl)) rfl (to_an (pc := 0) rw_152_0 rfl (to_in (pc := 1) rw_152_1 rfl (s_pI (pc := 2) rw_152_2 hG rfl (fun M125 W124 => ?_))))))
            have hG126 := g_wf hG W124 rfl rfl (by decide)
            have F127 := FR.w F0 W124 (show 77 = 77 ∧ (4 = 4 ∨ 4 = 5 ∨ 7 ≤ 4 ∧ 4 ≤ 10 ∨ 4 = 16) ∨ 85 ≤ 77 ∧ 77 ≤ 87 ∧ 12 ≤ 4 by decide)
            refine to_an (pc := 5) rw_152_5 rfl (to_an (pc := 6) rw_152_6 rfl ?_)
            have c_128 : M125.2.1 77 10 = (N.2.1 77 10) := (W_n W124 (by decide) rfl)
            refine tt_gI (pc := 7) rw_152_7 (g_o hG126 rfl) (v := (N.2.1 77 10)) c_128 (s_pI (pc := 10) rw_152_10 hG126 rfl (fun M130 W129 => ?_))
            have hG131 := g_wf hG126 W129 rfl rfl (by decide)
            have F132 := FR.w F127 W129 (show 77 = 77 ∧ (5 = 4 ∨ 5 = 5 ∨ 7 ≤ 5 ∧ 5 ≤ 10 ∨ 5 = 16) ∨ 85 ≤ 77 ∧ 77 ≤ 87 ∧ 12 ≤ 5 by decide)
            refine to_c (pc := 13) rw_152_13 (x := (0 : Int32)) rfl rfl (s_r1 (pc := 14) rw_152_14 (A := 0) rfl (by decide) (s_r1 (pc := 245) rw_171_245 (A := 0) rfl (by decide) ?_))
            have k_133 : (0 : Int32).toInt = 0 := rfl
            have j_134 := (RS_f (fun a i z => W_n W129 (tg_37 a i z) rfl) (RS_f (fun a i z => W_n W124 (tg_38 a i z) rfl) g11))
            exact h (0 : Int32) M130 hG131 F132 (by decide) (by decide) j_134 (fun _ => g16.symm.trans (by first | exact x_rc_n1 (by omega) (by omega) | exact x_rc_n2 (by omega) (by omega))) (fun z => absurd z (by decide))
    · refine to_in (pc := 114) rw_171_114 rfl (to_an (pc := 115) rw_171_115 rfl (s_gR (pc := 116) rw_171_116 hG rfl (v := 84) rfl (to_c (pc := 119) rw_171_119 (x := (8 : Int32)) rfl rfl (to_in (pc := 121) rw_171_121 rfl (s_add (pc := 122) rw_171_122 (A := 8) (B := x1.toInt) rfl rfl (by omega) (fun v135 e136 => s_ial (pc := 123) rw_171_123 hG rfl (n := 16) rfl rfl (A := v135.toInt) rfl (by omega) (by omega) (lo := 0) (hi := 24) rfl rfl (fun v137 w_138 _ _ => ?_)))))))
      have z_139 := PLr_r g14 5 84 rfl (by decide) (by decide) (k := x1.toInt) (by omega) (by omega) (by omega) w_138
      refine b_ceq (pc := 124) rw_171_124 (A := x3.toInt) (B := v137.toInt) rfl rfl (fun h140 => ?_) (fun h140 => ?_)
      · refine to_an (pc := 153) rw_171_153 rfl (to_c (pc := 154) rw_171_154 (x := (2 : Int32)) rfl rfl (s_v (pc := 155) rw_171_155 (dp0 hd (by decide)) (ls0 := [.ref 77, .int (2 : Int32)]) rfl (Nat.le_of_ble_eq_true rfl) (Nat.le_of_ble_eq_true rfl) rfl (to_rc rfl rfl rfl (g_o hG rfl)) rfl (to_an (pc := 0) rw_152_0 rfl (to_in (pc := 1) rw_152_1 rfl (s_pI (pc := 2) rw_152_2 hG rfl (fun M142 W141 => ?_))))))
        have hG143 := g_wf hG W141 rfl rfl (by decide)
        have F144 := FR.w F0 W141 (show 77 = 77 ∧ (4 = 4 ∨ 4 = 5 ∨ 7 ≤ 4 ∧ 4 ≤ 10 ∨ 4 = 16) ∨ 85 ≤ 77 ∧ 77 ≤ 87 ∧ 12 ≤ 4 by decide)
        refine to_an (pc := 5) rw_152_5 rfl (to_an (pc := 6) rw_152_6 rfl ?_)
        have c_145 : M142.2.1 77 10 = (N.2.1 77 10) := (W_n W141 (by decide) rfl)
        refine tt_gI (pc := 7) rw_152_7 (g_o hG143 rfl) (v := (N.2.1 77 10)) c_145 (s_pI (pc := 10) rw_152_10 hG143 rfl (fun M147 W146 => ?_))
        have hG148 := g_wf hG143 W146 rfl rfl (by decide)
        have F149 := FR.w F144 W146 (show 77 = 77 ∧ (5 = 4 ∨ 5 = 5 ∨ 7 ≤ 5 ∧ 5 ≤ 10 ∨ 5 = 16) ∨ 85 ≤ 77 ∧ 77 ≤ 87 ∧ 12 ≤ 5 by decide)
        refine to_c (pc := 13) rw_152_13 (x := (0 : Int32)) rfl rfl (s_r1 (pc := 14) rw_152_14 (A := 0) rfl (by decide) (s_r1 (pc := 158) rw_171_158 (A := 0) rfl (by decide) ?_))
        have k_150 : (0 : Int32).toInt = 0 := rfl
        have j_151 := (RS_f (fun a i z => W_n W146 (tg_37 a i z) rfl) (RS_f (fun a i z => W_n W141 (tg_38 a i z) rfl) g11))
        exact h (0 : Int32) M147 hG148 F149 (by decide) (by decide) j_151 (fun _ => g16.symm.trans (by first | exact x_rc_n1 (by omega) (by omega) | exact x_rc_n2 (by omega) (by omega))) (fun z => absurd z (by decide))
      · refine to_an (pc := 127) rw_171_127 rfl (tt_gI (pc := 128) rw_171_128 (g_o hG rfl) (v := (N.2.1 77 9)) rfl (to_an (pc := 131) rw_171_131 rfl (s_gR (pc := 132) rw_171_132 hG rfl (v := 83) rfl (to_c (pc := 135) rw_171_135 (x := (8 : Int32)) rfl rfl (to_in (pc := 137) rw_171_137 rfl (s_add (pc := 138) rw_171_138 (A := 8) (B := x1.toInt) rfl rfl (by omega) (fun v152 e153 => s_ial (pc := 139) rw_171_139 hG rfl (n := 16) rfl rfl (A := v152.toInt) rfl (by omega) (by omega) (lo := 0) (hi := 63) rfl rfl (fun v154 w_155 _ _ => ?_))))))))
        have z_156 := PLr_r g14 4 83 rfl (by decide) (by decide) (k := x1.toInt) (by omega) (by omega) (by omega) w_155
        refine to_an (pc := 140) rw_171_140 rfl (s_gR (pc := 141) rw_171_141 hG rfl (v := 82) rfl (to_c (pc := 144) rw_171_144 (x := (8 : Int32)) rfl rfl (to_in (pc := 146) rw_171_146 rfl (s_add (pc := 147) rw_171_147 (A := 8) (B := x1.toInt) rfl rfl (by omega) (fun v157 e158 => s_ial (pc := 148) rw_171_148 hG rfl (n := 16) rfl rfl (A := v157.toInt) rfl (by omega) (by omega) (lo := 0) (hi := 59) rfl rfl (fun v159 w_160 _ _ => ?_))))))
        have z_161 := PLr_r g14 3 82 rfl (by decide) (by decide) (k := x1.toInt) (by omega) (by omega) (by omega) w_160
        refine s_sub (pc := 149) rw_171_149 (A := v154.toInt) (B := v159.toInt) rfl rfl (by omega) (fun v162 e163 => b_cle (pc := 150) rw_171_150 (A := (N.2.1 77 9).toInt) (B := v162.toInt) rfl rfl (fun h164 => ?_) (fun h164 => ?_))
        · refine to_l (pc := 159) rw_171_159 rfl rfl rfl (to_an (pc := 161) rw_171_161 rfl (s_gR (pc := 162) rw_171_162 hG rfl (v := 82) rfl (to_c (pc := 165) rw_171_165 (x := (8 : Int32)) rfl rfl (to_in (pc := 167) rw_171_167 rfl (s_add (pc := 168) rw_171_168 (A := 8) (B := x1.toInt) rfl rfl (by omega) (fun v165 e166 => s_ial (pc := 169) rw_171_169 hG rfl (n := 16) rfl rfl (A := v165.toInt) rfl (by omega) (by omega) (lo := 0) (hi := 59) rfl rfl (fun v167 w_168 _ _ => ?_)))))))
          have z_169 := PLr_r g14 3 82 rfl (by decide) (by decide) (k := x1.toInt) (by omega) (by omega) (by omega) w_168
          refine to_an (pc := 170) rw_171_170 rfl (tt_gI (pc := 171) rw_171_171 (g_o hG rfl) (v := (N.2.1 77 9)) rfl ?_)
          have i_172 := i_of (x := (N.2.1 77 9))
          refine s_add (pc := 174) rw_171_174 (A := v167.toInt) (B := (N.2.1 77 9).toInt) rfl rfl (by omega) (fun v170 e171 => s_s (pc := 175) rw_171_175 (dp0 hd (by decide)) (ls0 := [.long y4, .null, .int v170]) rfl (Nat.le_of_ble_eq_true rfl) (Nat.le_of_ble_eq_true rfl) rfl (to_rcs rfl rfl) rfl (to_ln (pc := 0) rw_150_0 rfl rfl rfl (to_in (pc := 1) rw_150_1 rfl (to_2s (pc := 2) rw_150_2 (v := (y4 >>> (v170.toInt64 &&& 63))) rfl (to_cl (pc := 3) rw_150_3 rfl (x := (1 : Int64)) rfl (to_2l (pc := 4) rw_150_4 (v := ((y4 >>> (v170.toInt64 &&& 63)) &&& (1 : Int64))) rfl (to_cl (pc := 5) rw_150_5 rfl (x := (1 : Int64)) rfl (s_lcmpE (pc := 6) rw_150_6 (fun v173 e174 => ?_)))))))))
          have b_175 := x_eq_b (x := ((y4 >>> (v170.toInt64 &&& 63)) &&& (1 : Int64))) (y := (1 : Int64))
          have z_176 := x_hit_r (v := v170) (bits := y4) (h := x_row sg 3 x1.toInt + x_val t nn (N.2.1 77 10).toInt) (by omega) (by omega) (by omega)
          have z_177 := x_hit_b (bits := y4) (h := x_row sg 3 x1.toInt + x_val t nn (N.2.1 77 10).toInt)
          refine b_ine (pc := 7) rw_150_7 (A := v173.toInt) rfl (fun h178 => ?_) (fun h178 => ?_)
          · refine to_c (pc := 14) rw_150_14 (x := (0 : Int32)) rfl rfl (s_r1 (pc := 15) rw_150_15 (A := 0) rfl (by decide) (b_ieq_t (pc := 178) rw_171_178 (A := 0) rfl (by decide) (to_l (pc := 187) rw_171_187 rfl rfl rfl (to_cl (pc := 189) rw_171_189 rfl (x := (1 : Int64)) rfl (to_an (pc := 190) rw_171_190 rfl (s_gR (pc := 191) rw_171_191 hG rfl (v := 82) rfl (to_c (pc := 194) rw_171_194 (x := (8 : Int32)) rfl rfl (to_in (pc := 196) rw_171_196 rfl (s_add (pc := 197) rw_171_197 (A := 8) (B := x1.toInt) rfl rfl (by omega) (fun v179 e180 => s_ial (pc := 198) rw_171_198 hG rfl (n := 16) rfl rfl (A := v179.toInt) rfl (by omega) (by omega) (lo := 0) (hi := 59) rfl rfl (fun v181 w_182 _ _ => ?_)))))))))))
            have z_183 := PLr_r g14 3 82 rfl (by decide) (by decide) (k := x1.toInt) (by omega) (by omega) (by omega) w_182
            refine to_an (pc := 199) rw_171_199 rfl (tt_gI (pc := 200) rw_171_200 (g_o hG rfl) (v := (N.2.1 77 9)) rfl (s_add (pc := 203) rw_171_203 (A := v181.toInt) (B := (N.2.1 77 9).toInt) rfl rfl (by omega) (fun v184 e185 => to_2s (pc := 204) rw_171_204 (v := ((1 : Int64) <<< (v184.toInt64 &&& 63))) rfl (to_2l (pc := 205) rw_171_205 (v := (y4 ||| ((1 : Int64) <<< (v184.toInt64 &&& 63)))) rfl (to_ls (pc := 206) rw_171_206 (ls2 := [.ref 77, .int x1, .int x2, .int x3, .long (y4 ||| ((1 : Int64) <<< (v184.toInt64 &&& 63))), .null]) rfl rfl (s_inc (pc := 208) rw_171_208 (ls2 := fun v => [.ref 77, .int x1, .int x2, .int v, .long (y4 ||| ((1 : Int64) <<< (v184.toInt64 &&& 63))), .null]) rfl rfl (fun _ => rfl) (A := x3.toInt) (B := 1) rfl rfl (by omega) (fun v186 e187 => to_an (pc := 211) rw_171_211 rfl (s_v (pc := 212) rw_171_212 (dp0 hd (by decide)) (ls0 := [.ref 77]) rfl (Nat.le_of_ble_eq_true rfl) (Nat.le_of_ble_eq_true rfl) rfl (to_rc rfl rfl rfl (g_o hG rfl)) rfl ?_))))))))
            have b_188 := g_b hG (a := 77) (i := 7) (lo := 0) (hi := 500) rfl rfl
            have b_189 := g_b hG (a := 77) (i := 6) (lo := 0) (hi := 500) rfl rfl
            have z_190 := RS_b g11 (a := (N.2.1 77 10).toInt) (by omega)
            refine E_156 hX (dp1 hd (by decide)) hG (by omega) (by omega) (by omega) (by omega) g12 g13  (fun M197 hG192 F191 p_193 p_194 p_195 p_196 => ?_)
            have F198 := FR.c F0 F191 tg_58
            have b_199 := g_b hG192 (a := 77) (i := 7) (lo := 0) (hi := 500) rfl rfl
            have c_200 : M197.2.1 77 6 = (N.2.1 77 6) := (F_n F191 (show ¬ (77 = 77 ∧ 7 ≤ 6 ∧ 6 ≤ 10) by decide) rfl)
            have t_201 : (M197.2.1 77 6).toInt = (N.2.1 77 6).toInt := congrArg Int32.toInt c_200
            have b_202 := g_b hG192 (a := 77) (i := 8) (lo := 0) (hi := 5) rfl rfl
            have b_203 := g_b hG192 (a := 77) (i := 10) (lo := 0) (hi := 500) rfl rfl
            have z_204 := RS_s p_196.2 (a := (N.2.1 77 10).toInt) (by omega)
            refine to_go (pc := 215) rw_171_215 ?_
            have c_205 : M197.2.1 77 16 = (N.2.1 77 16) := (F_n F191 (show ¬ (77 = 77 ∧ 7 ≤ 16 ∧ 16 ≤ 10) by decide) rfl)
            have t_206 : (M197.2.1 77 16).toInt = (N.2.1 77 16).toInt := congrArg Int32.toInt c_205
            have j_207 := (TR_f (tg_42 F191) g12)
            have j_208 := (W9_f (tg_44 F191) g13)
            have j_209 := (PLr_f (tg_39 F191) (F_nl F191 (show ¬ (77 = 77 ∧ 7 ≤ 25 ∧ 25 ≤ 10) by decide) rfl) g14)
            have j_210 := (CWr_f (fun k hk9 => F_nl F191 (show ¬ (87 = 77 ∧ 7 ≤ (12 + k) ∧ (12 + k) ≤ 10) by omega) rfl) g15)
            exact ih M197 x1 x2 v186 (y4 ||| ((1 : Int64) <<< (v184.toInt64 &&& 63))) hG192 F198 (by omega) (by omega) (by omega) (by omega) (by omega) (by omega) (by omega) (by omega) (by omega) (by omega) p_196.1 j_207 j_208 j_209 j_210 (x_rc_s (fu := (6 - x3.toInt).toNat) (told := x3.toInt) (bits := y4) (b := (N.2.1 77 10).toInt) (by omega) (by omega) (by omega) (by omega) (by omega) (congrArg (fun z => y4 ||| z) (x_bit_e (v := v184) (by omega))) g16) (by omega)
          · refine to_c (pc := 10) rw_150_10 (x := (1 : Int32)) rfl rfl (to_go (pc := 11) rw_150_11 (s_r1 (pc := 15) rw_150_15 (A := 1) rfl (by decide) (b_ieq_f (pc := 178) rw_171_178 (A := 1) rfl (by decide) (to_an (pc := 181) rw_171_181 rfl (to_c (pc := 182) rw_171_182 (x := (3 : Int32)) rfl rfl (s_v (pc := 183) rw_171_183 (dp0 hd (by decide)) (ls0 := [.ref 77, .int (3 : Int32)]) rfl (Nat.le_of_ble_eq_true rfl) (Nat.le_of_ble_eq_true rfl) rfl (to_rc rfl rfl rfl (g_o hG rfl)) rfl (to_an (pc := 0) rw_152_0 rfl (to_in (pc := 1) rw_152_1 rfl (s_pI (pc := 2) rw_152_2 hG rfl (fun M212 W211 => ?_))))))))))
            have hG213 := g_wf hG W211 rfl rfl (by decide)
            have F214 := FR.w F0 W211 (show 77 = 77 ∧ (4 = 4 ∨ 4 = 5 ∨ 7 ≤ 4 ∧ 4 ≤ 10 ∨ 4 = 16) ∨ 85 ≤ 77 ∧ 77 ≤ 87 ∧ 12 ≤ 4 by decide)
            refine to_an (pc := 5) rw_152_5 rfl (to_an (pc := 6) rw_152_6 rfl ?_)
            have c_215 : M212.2.1 77 10 = (N.2.1 77 10) := (W_n W211 (by decide) rfl)
            refine tt_gI (pc := 7) rw_152_7 (g_o hG213 rfl) (v := (N.2.1 77 10)) c_215 (s_pI (pc := 10) rw_152_10 hG213 rfl (fun M217 W216 => ?_))
            have hG218 := g_wf hG213 W216 rfl rfl (by decide)
            have F219 := FR.w F214 W216 (show 77 = 77 ∧ (5 = 4 ∨ 5 = 5 ∨ 7 ≤ 5 ∧ 5 ≤ 10 ∨ 5 = 16) ∨ 85 ≤ 77 ∧ 77 ≤ 87 ∧ 12 ≤ 5 by decide)
            refine to_c (pc := 13) rw_152_13 (x := (0 : Int32)) rfl rfl (s_r1 (pc := 14) rw_152_14 (A := 0) rfl (by decide) (s_r1 (pc := 186) rw_171_186 (A := 0) rfl (by decide) ?_))
            have k_220 : (0 : Int32).toInt = 0 := rfl
            have j_221 := (RS_f (fun a i z => W_n W216 (tg_37 a i z) rfl) (RS_f (fun a i z => W_n W211 (tg_38 a i z) rfl) g11))
            exact h (0 : Int32) M217 hG218 F219 (by decide) (by decide) j_221 (fun _ => g16.symm.trans (by first | exact x_rc_n1 (by omega) (by omega) | exact x_rc_n2 (by omega) (by omega))) (fun z => absurd z (by decide))
        · refine to_an (pc := 153) rw_171_153 rfl (to_c (pc := 154) rw_171_154 (x := (2 : Int32)) rfl rfl (s_v (pc := 155) rw_171_155 (dp0 hd (by decide)) (ls0 := [.ref 77, .int (2 : Int32)]) rfl (Nat.le_of_ble_eq_true rfl) (Nat.le_of_ble_eq_true rfl) rfl (to_rc rfl rfl rfl (g_o hG rfl)) rfl (to_an (pc := 0) rw_152_0 rfl (to_in (pc := 1) rw_152_1 rfl (s_pI (pc := 2) rw_152_2 hG rfl (fun M223 W222 => ?_))))))
          have hG224 := g_wf hG W222 rfl rfl (by decide)
          have F225 := FR.w F0 W222 (show 77 = 77 ∧ (4 = 4 ∨ 4 = 5 ∨ 7 ≤ 4 ∧ 4 ≤ 10 ∨ 4 = 16) ∨ 85 ≤ 77 ∧ 77 ≤ 87 ∧ 12 ≤ 4 by decide)
          refine to_an (pc := 5) rw_152_5 rfl (to_an (pc := 6) rw_152_6 rfl ?_)
          have c_226 : M223.2.1 77 10 = (N.2.1 77 10) := (W_n W222 (by decide) rfl)
          refine tt_gI (pc := 7) rw_152_7 (g_o hG224 rfl) (v := (N.2.1 77 10)) c_226 (s_pI (pc := 10) rw_152_10 hG224 rfl (fun M228 W227 => ?_))
          have hG229 := g_wf hG224 W227 rfl rfl (by decide)
          have F230 := FR.w F225 W227 (show 77 = 77 ∧ (5 = 4 ∨ 5 = 5 ∨ 7 ≤ 5 ∧ 5 ≤ 10 ∨ 5 = 16) ∨ 85 ≤ 77 ∧ 77 ≤ 87 ∧ 12 ≤ 5 by decide)
          refine to_c (pc := 13) rw_152_13 (x := (0 : Int32)) rfl rfl (s_r1 (pc := 14) rw_152_14 (A := 0) rfl (by decide) (s_r1 (pc := 158) rw_171_158 (A := 0) rfl (by decide) ?_))
          have k_231 : (0 : Int32).toInt = 0 := rfl
          have j_232 := (RS_f (fun a i z => W_n W227 (tg_37 a i z) rfl) (RS_f (fun a i z => W_n W222 (tg_38 a i z) rfl) g11))
          exact h (0 : Int32) M228 hG229 F230 (by decide) (by decide) j_232 (fun _ => g16.symm.trans (by first | exact x_rc_n1 (by omega) (by omega) | exact x_rc_n2 (by omega) (by omega))) (fun z => absurd z (by decide))
set_option maxRecDepth 4000 in
set_option maxHeartbeats 0 in
theorem E_171 {X : mm_X} {d : Nat} {M : mm_M} {Q : Option Value → mm_M → Prop} {t : Nat → Int} {nn : Int} {a : Int} {sg : x_S} {k : x_K} (hX : g_X X) (hd : 3 ≤ d) (hG : g_G M) (q1 : RS M t nn) (q2 : (M.2.1 77 10).toInt = a) (q3 : 0 ≤ nn) (q4 : nn ≤ 500) (q5 : TR M t nn) (q6 : W9 M) (q7 : PLr M sg) (q8 : CWr M sg) (h : ∀ (r : Int32) (M1 : mm_M), g_G M1 → FR md_w171 M M1 → (0 ≤ r.toInt) → (r.toInt ≤ 1) → RS M1 t nn → ((r.toInt = 0 → x_word t nn sg (x_ns t nn a) k = none)) → ((r.toInt = 1 → WOr t nn (x_word t nn sg (x_ns t nn a) k) k M1 sg)) → Q (some (.int r)) M1) : mm_T X d 170 0 [.ref 77, .null, .null, .null, .null, .null] [] M Q := by
  have F0 : FR md_w171 M M := FR.rf
  have b_233 := g_b hG (a := 77) (i := 10) (lo := 0) (hi := 500) rfl rfl
  have z_234 := q7.2.1
  have z_235 := q7.2.2.1
  have z_236 := q7.2.2.2.1
  have z_237 := q7.1
  have z_238 := z_237.1
  have z_239 := z_237.2.1
  have z_240 := z_237.2.2.1
  have z_241 := z_237.2.2.2.1
  have z_242 := z_237.2.2.2.2.1
  have z_243 := z_237.2.2.2.2.2.1
  have b_244 := g_b hG (a := 77) (i := 14) (lo := 10) (hi := 60) rfl rfl
  have b_245 := g_b hG (a := 77) (i := 15) (lo := 0) (hi := 8) rfl rfl
  have b_246 := g_b hG (a := 77) (i := 16) (lo := 0) (hi := 12) rfl rfl
  have z_247 := x_fn_b (s := sg) (v := x_val t nn (x_ns t nn a)) q7.1
  refine to_an (pc := 0) rw_171_0 rfl (tt_gI (pc := 1) rw_171_1 (g_o hG rfl) (v := (M.2.1 77 16)) rfl (to_c (pc := 4) rw_171_4 (x := (12 : Int32)) rfl rfl (b_cne (pc := 6) rw_171_6 (A := (M.2.1 77 16).toInt) (B := 12) rfl rfl (fun h248 => ?_) (fun h248 => ?_))))
  · refine to_an (pc := 15) rw_171_15 rfl (s_v (pc := 16) rw_171_16 (dp0 hd (by decide)) (ls0 := [.ref 77]) rfl (Nat.le_of_ble_eq_true rfl) (Nat.le_of_ble_eq_true rfl) rfl (to_rc rfl rfl rfl (g_o hG rfl)) rfl ?_)
    have b_249 := g_b hG (a := 77) (i := 7) (lo := 0) (hi := 500) rfl rfl
    have b_250 := g_b hG (a := 77) (i := 6) (lo := 0) (hi := 500) rfl rfl
    have z_251 := RS_b q1 (a := a) (by omega)
    refine E_156 hX (dp1 hd (by decide)) hG (by omega) (by omega) (by omega) (by omega) q5 q6  (fun M258 hG253 F252 p_254 p_255 p_256 p_257 => ?_)
    have F259 := FR.c F0 F252 tg_58
    have b_260 := g_b hG253 (a := 77) (i := 7) (lo := 0) (hi := 500) rfl rfl
    have c_261 : M258.2.1 77 6 = (M.2.1 77 6) := (F_n F252 (show ¬ (77 = 77 ∧ 7 ≤ 6 ∧ 6 ≤ 10) by decide) rfl)
    have t_262 : (M258.2.1 77 6).toInt = (M.2.1 77 6).toInt := congrArg Int32.toInt c_261
    have b_263 := g_b hG253 (a := 77) (i := 8) (lo := 0) (hi := 5) rfl rfl
    have b_264 := g_b hG253 (a := 77) (i := 10) (lo := 0) (hi := 500) rfl rfl
    have z_265 := RS_s p_257.2 (a := a) (by omega)
    have c_266 := RS_u p_257.1 (a := (x_ns t nn a)) (by omega)
    unfold x_R at c_266
    refine to_an (pc := 19) rw_171_19 rfl (tt_gI (pc := 20) rw_171_20 (g_o hG253 rfl) (v := (M258.2.1 77 8)) rfl (to_c (pc := 23) rw_171_23 (x := (2 : Int32)) rfl rfl (b_ceq (pc := 24) rw_171_24 (A := (M258.2.1 77 8).toInt) (B := 2) rfl rfl (fun h267 => ?_) (fun h267 => ?_))))
    · refine to_an (pc := 33) rw_171_33 rfl (to_an (pc := 34) rw_171_34 rfl (tt_gI (pc := 35) rw_171_35 (g_o hG253 rfl) (v := (M258.2.1 77 9)) rfl (s_v (pc := 38) rw_171_38 (dp0 hd (by decide)) (ls0 := [.ref 77, .int (M258.2.1 77 9), .null]) rfl (Nat.le_of_ble_eq_true rfl) (Nat.le_of_ble_eq_true rfl) rfl (to_rc rfl rfl rfl (g_o hG253 rfl)) rfl ?_)))
      have j_268 := (PLr_f (tg_39 F252) (F_nl F252 (show ¬ (77 = 77 ∧ 7 ≤ 25 ∧ 25 ≤ 10) by decide) rfl) q7)
      refine E_166 hX (dp1 hd (by decide)) hG253 j_268 (n := (M258.2.1 77 9)) (sg := sg) (fun r269 M275 hG271 F270 p_272 p_273 p_274 => ?_)
      have F276 := FR.c F259 F270 tg_59
      have z_277 := x_fn_v (s := sg) (r := 1) (v := (M258.2.1 77 9).toInt) (w := x_val t nn (x_ns t nn a))
      refine to_isn (pc := 41) rw_171_41 (ls2 := [.ref 77, .int r269, .null, .null, .null, .null]) rfl rfl (to_in (pc := 42) rw_171_42 rfl (b_ilt (pc := 43) rw_171_43 (A := r269.toInt) rfl (fun h278 => ?_) (fun h278 => ?_)))
      · refine to_an (pc := 59) rw_171_59 rfl (to_c (pc := 60) rw_171_60 (x := (4 : Int32)) rfl rfl (s_v (pc := 61) rw_171_61 (dp0 hd (by decide)) (ls0 := [.ref 77, .int (4 : Int32)]) rfl (Nat.le_of_ble_eq_true rfl) (Nat.le_of_ble_eq_true rfl) rfl (to_rc rfl rfl rfl (g_o hG271 rfl)) rfl (to_an (pc := 0) rw_152_0 rfl (to_in (pc := 1) rw_152_1 rfl (s_pI (pc := 2) rw_152_2 hG271 rfl (fun M280 W279 => ?_))))))
        have hG281 := g_wf hG271 W279 rfl rfl (by decide)
        have F282 := FR.w F276 W279 (show 77 = 77 ∧ (4 = 4 ∨ 4 = 5 ∨ 7 ≤ 4 ∧ 4 ≤ 10 ∨ 4 = 16) ∨ 85 ≤ 77 ∧ 77 ≤ 87 ∧ 12 ≤ 4 by decide)
        refine to_an (pc := 5) rw_152_5 rfl (to_an (pc := 6) rw_152_6 rfl ?_)
        have c_283 : M280.2.1 77 10 = (M258.2.1 77 10) := (W_n W279 (by decide) (F_n F270 (show ¬ (77 < 0) by decide) rfl))
        refine tt_gI (pc := 7) rw_152_7 (g_o hG281 rfl) (v := (M258.2.1 77 10)) c_283 (s_pI (pc := 10) rw_152_10 hG281 rfl (fun M285 W284 => ?_))
        have hG286 := g_wf hG281 W284 rfl rfl (by decide)
        have F287 := FR.w F282 W284 (show 77 = 77 ∧ (5 = 4 ∨ 5 = 5 ∨ 7 ≤ 5 ∧ 5 ≤ 10 ∨ 5 = 16) ∨ 85 ≤ 77 ∧ 77 ≤ 87 ∧ 12 ≤ 5 by decide)
        refine to_c (pc := 13) rw_152_13 (x := (0 : Int32)) rfl rfl (s_r1 (pc := 14) rw_152_14 (A := 0) rfl (by decide) (s_r1 (pc := 64) rw_171_64 (A := 0) rfl (by decide) ?_))
        have k_288 : (0 : Int32).toInt = 0 := rfl
        have j_289 := (RS_f (fun a i z => W_n W284 (tg_37 a i z) rfl) (RS_f (fun a i z => W_n W279 (tg_38 a i z) rfl) (RS_f (tg_45 F270) p_257.1)))
        exact h (0 : Int32) M285 hG286 F287 (by decide) (by decide) j_289 (fun _ => x_word_n (by omega)) (fun z => absurd z (by decide))
      · refine to_an (pc := 46) rw_171_46 rfl (s_gR (pc := 47) rw_171_47 hG271 rfl (v := 81) rfl (to_c (pc := 50) rw_171_50 (x := (8 : Int32)) rfl rfl (to_in (pc := 52) rw_171_52 rfl (s_add (pc := 53) rw_171_53 (A := 8) (B := r269.toInt) rfl rfl (by omega) (fun v290 e291 => s_ial (pc := 54) rw_171_54 hG271 rfl (n := 16) rfl rfl (A := v290.toInt) rfl (by omega) (by omega) (lo := 0) (hi := 3) rfl rfl (fun v292 w_293 _ _ => ?_))))))
        have j_294 := (PLr_f (tg_47 F270) (F_nl F270 (show ¬ (77 < 0) by decide) rfl) j_268)
        have z_295 := PLr_r j_294 2 81 rfl (by decide) (by decide) (k := r269.toInt) (by omega) (by omega) (by omega) w_293
        have z_296 := x_row_v (s := sg) (r := 2) (x := r269.toInt) (y := x_fn sg 1 (x_val t nn (x_ns t nn a)))
        refine to_c (pc := 55) rw_171_55 (x := (3 : Int32)) rfl rfl (b_ceq (pc := 56) rw_171_56 (A := v292.toInt) (B := 3) rfl rfl (fun h297 => ?_) (fun h297 => ?_))
        · refine to_an (pc := 65) rw_171_65 rfl (s_v (pc := 66) rw_171_66 (dp0 hd (by decide)) (ls0 := [.ref 77]) rfl (Nat.le_of_ble_eq_true rfl) (Nat.le_of_ble_eq_true rfl) rfl (to_rc rfl rfl rfl (g_o hG271 rfl)) rfl ?_)
          have c_298 : M275.2.1 77 7 = (M258.2.1 77 7) := (F_n F270 (show ¬ (77 < 0) by decide) rfl)
          have t_299 : (M275.2.1 77 7).toInt = (M258.2.1 77 7).toInt := congrArg Int32.toInt c_298
          have c_300 : M275.2.1 77 6 = (M.2.1 77 6) := (F_n F270 (show ¬ (77 < 0) by decide) c_261)
          have t_301 : (M275.2.1 77 6).toInt = (M.2.1 77 6).toInt := congrArg Int32.toInt c_300
          have c_302 : M275.2.1 77 10 = (M258.2.1 77 10) := (F_n F270 (show ¬ (77 < 0) by decide) rfl)
          have t_303 : (M275.2.1 77 10).toInt = (M258.2.1 77 10).toInt := congrArg Int32.toInt c_302
          have j_304 := (RS_f (tg_45 F270) p_257.1)
          have z_305 := RS_b j_304 (a := (x_ns t nn a)) (by omega)
          have j_306 := (TR_f (tg_9 F270) (TR_f (tg_42 F252) q5))
          have j_307 := (W9_f (tg_46 F270) (W9_f (tg_44 F252) q6))
          refine E_156 hX (dp1 hd (by decide)) hG271 (by omega) (by omega) (by omega) (by omega) j_306 j_307  (fun M314 hG309 F308 p_310 p_311 p_312 p_313 => ?_)
          have F315 := FR.c F276 F308 tg_58
          have b_316 := g_b hG309 (a := 77) (i := 7) (lo := 0) (hi := 500) rfl rfl
          have c_317 : M314.2.1 77 6 = (M.2.1 77 6) := (F_n F308 (show ¬ (77 = 77 ∧ 7 ≤ 6 ∧ 6 ≤ 10) by decide) c_300)
          have t_318 : (M314.2.1 77 6).toInt = (M.2.1 77 6).toInt := congrArg Int32.toInt c_317
          have b_319 := g_b hG309 (a := 77) (i := 8) (lo := 0) (hi := 5) rfl rfl
          have b_320 := g_b hG309 (a := 77) (i := 10) (lo := 0) (hi := 500) rfl rfl
          have z_321 := RS_s p_313.2 (a := (x_ns t nn a)) (by omega)
          refine to_an (pc := 69) rw_171_69 rfl (s_v (pc := 70) rw_171_70 (dp0 hd (by decide)) (ls0 := [.ref 77]) rfl (Nat.le_of_ble_eq_true rfl) (Nat.le_of_ble_eq_true rfl) rfl (to_rc rfl rfl rfl (g_o hG309 rfl)) rfl ?_)
          have j_322 := (PLr_f (tg_39 F308) (F_nl F308 (show ¬ (77 = 77 ∧ 7 ≤ 25 ∧ 25 ≤ 10) by decide) rfl) j_294)
          refine E_169 hX (dp1 hd (by decide)) hG309 p_313.1 (by omega) j_322 (t := t) (nn := nn) (a := (x_ns t nn (x_ns t nn a))) (sg := sg) (fun r323 M331 hG325 F324 p_326 p_327 p_328 p_329 p_330 => ?_)
          have F332 := FR.c F315 F324 tg_60
          rcases (show r323.toInt = 0 ∨ r323.toInt = 1 by omega) with h333 | h333
          · skip
            have p_334 := p_330 (by omega)
            clear p_328 p_329 p_330
            refine b_ine_f (pc := 73) rw_171_73 (A := r323.toInt) rfl (by omega) (to_c (pc := 76) rw_171_76 (x := (0 : Int32)) rfl rfl (s_r1 (pc := 77) rw_171_77 (A := 0) rfl (by decide) ?_))
            have k_335 : (0 : Int32).toInt = 0 := rfl
            have j_336 := (RS_f (tg_40 F324) p_313.1)
            exact h (0 : Int32) M331 hG325 F332 (by decide) (by decide) j_336 (fun _ => x_word_n (by omega)) (fun z => absurd z (by decide))
          · skip
            have p_337 := p_328 (by omega)
            have p_338 := p_329 (by omega)
            clear p_328 p_329 p_330
            refine b_ine_t (pc := 73) rw_171_73 (A := r323.toInt) rfl (by omega) (to_an (pc := 78) rw_171_78 rfl ?_)
            have c_339 : M331.2.1 77 9 = (M314.2.1 77 9) := (F_n F324 (show ¬ (77 = 77 ∧ (9 = 4 ∨ 9 = 5)) by decide) rfl)
            refine tt_gI (pc := 79) rw_171_79 (g_o hG325 rfl) (v := (M314.2.1 77 9)) c_339 (to_isn (pc := 82) rw_171_82 (ls2 := [.ref 77, .int r269, .int (M314.2.1 77 9), .null, .null, .null]) rfl rfl (to_an (pc := 83) rw_171_83 rfl (s_v (pc := 84) rw_171_84 (dp0 hd (by decide)) (ls0 := [.ref 77]) rfl (Nat.le_of_ble_eq_true rfl) (Nat.le_of_ble_eq_true rfl) rfl (to_rc rfl rfl rfl (g_o hG325 rfl)) rfl ?_)))
            have c_340 : M331.2.1 77 7 = (M314.2.1 77 7) := (F_n F324 (show ¬ (77 = 77 ∧ (7 = 4 ∨ 7 = 5)) by decide) rfl)
            have t_341 : (M331.2.1 77 7).toInt = (M314.2.1 77 7).toInt := congrArg Int32.toInt c_340
            have c_342 : M331.2.1 77 6 = (M.2.1 77 6) := (F_n F324 (show ¬ (77 = 77 ∧ (6 = 4 ∨ 6 = 5)) by decide) c_317)
            have t_343 : (M331.2.1 77 6).toInt = (M.2.1 77 6).toInt := congrArg Int32.toInt c_342
            have c_344 : M331.2.1 77 10 = (M314.2.1 77 10) := (F_n F324 (show ¬ (77 = 77 ∧ (10 = 4 ∨ 10 = 5)) by decide) rfl)
            have t_345 : (M331.2.1 77 10).toInt = (M314.2.1 77 10).toInt := congrArg Int32.toInt c_344
            have j_346 := (RS_f (tg_40 F324) p_313.1)
            have z_347 := RS_b j_346 (a := (x_ns t nn (x_ns t nn a))) (by omega)
            have j_348 := (TR_f (tg_41 F324) (TR_f (tg_42 F308) j_306))
            have j_349 := (W9_f (tg_43 F324) (W9_f (tg_44 F308) j_307))
            refine E_156 hX (dp1 hd (by decide)) hG325 (by omega) (by omega) (by omega) (by omega) j_348 j_349  (fun M356 hG351 F350 p_352 p_353 p_354 p_355 => ?_)
            have F357 := FR.c F332 F350 tg_58
            have b_358 := g_b hG351 (a := 77) (i := 7) (lo := 0) (hi := 500) rfl rfl
            have c_359 : M356.2.1 77 6 = (M.2.1 77 6) := (F_n F350 (show ¬ (77 = 77 ∧ 7 ≤ 6 ∧ 6 ≤ 10) by decide) c_342)
            have t_360 : (M356.2.1 77 6).toInt = (M.2.1 77 6).toInt := congrArg Int32.toInt c_359
            have b_361 := g_b hG351 (a := 77) (i := 8) (lo := 0) (hi := 5) rfl rfl
            have b_362 := g_b hG351 (a := 77) (i := 10) (lo := 0) (hi := 500) rfl rfl
            have z_363 := RS_s p_355.2 (a := (x_ns t nn (x_ns t nn a))) (by omega)
            have c_364 := RS_u p_355.1 (a := (x_ns t nn (x_ns t nn (x_ns t nn a)))) (by omega)
            unfold x_R at c_364
            refine to_an (pc := 87) rw_171_87 rfl (tt_gI (pc := 88) rw_171_88 (g_o hG351 rfl) (v := (M356.2.1 77 8)) rfl (to_c (pc := 91) rw_171_91 (x := (3 : Int32)) rfl rfl (b_ceq (pc := 92) rw_171_92 (A := (M356.2.1 77 8).toInt) (B := 3) rfl rfl (fun h365 => ?_) (fun h365 => ?_))))
            · refine to_c (pc := 101) rw_171_101 (x := (0 : Int32)) rfl rfl (to_isn (pc := 102) rw_171_102 (ls2 := [.ref 77, .int r269, .int (M314.2.1 77 9), .int (0 : Int32), .null, .null]) rfl rfl (to_cl (pc := 103) rw_171_103 rfl (x := (0 : Int64)) rfl (to_ls (pc := 104) rw_171_104 (ls2 := [.ref 77, .int r269, .int (M314.2.1 77 9), .int (0 : Int32), .long (0 : Int64), .null]) rfl rfl ?_)))
              have k_366 : (0 : Int32).toInt = 0 := rfl
              have c_367 : M356.2.1 77 16 = (M.2.1 77 16) := (F_n F350 (show ¬ (77 = 77 ∧ 7 ≤ 16 ∧ 16 ≤ 10) by decide) (F_n F324 (show ¬ (77 = 77 ∧ (16 = 4 ∨ 16 = 5)) by decide) (F_n F308 (show ¬ (77 = 77 ∧ 7 ≤ 16 ∧ 16 ≤ 10) by decide) (F_n F270 (show ¬ (77 < 0) by decide) (F_n F252 (show ¬ (77 = 77 ∧ 7 ≤ 16 ∧ 16 ≤ 10) by decide) rfl)))))
              have t_368 : (M356.2.1 77 16).toInt = (M.2.1 77 16).toInt := congrArg Int32.toInt c_367
              have j_369 := (TR_f (tg_42 F350) j_348)
              have j_370 := (W9_f (tg_44 F350) j_349)
              have j_371 := (PLr_f (tg_39 F350) (F_nl F350 (show ¬ (77 = 77 ∧ 7 ≤ 25 ∧ 25 ≤ 10) by decide) rfl) (PLr_f (tg_48 F324) (F_nl F324 (show ¬ (77 = 77 ∧ (25 = 4 ∨ 25 = 5)) by decide) rfl) j_322))
              have j_372 := (CWr_f (fun k hk9 => F_nl F350 (show ¬ (87 = 77 ∧ 7 ≤ (12 + k) ∧ (12 + k) ≤ 10) by omega) rfl) (CWr_f (fun k hk9 => F_nl F324 (show ¬ (87 = 77 ∧ ((12 + k) = 4 ∨ (12 + k) = 5)) by omega) rfl) (CWr_f (fun k hk9 => F_nl F308 (show ¬ (87 = 77 ∧ 7 ≤ (12 + k) ∧ (12 + k) ≤ 10) by omega) rfl) (CWr_f (fun k hk9 => F_nl F270 (show ¬ (87 < 0) by decide) rfl) (CWr_f (fun k hk9 => F_nl F252 (show ¬ (87 = 77 ∧ 7 ≤ (12 + k) ∧ (12 + k) ≤ 10) by omega) rfl) q8)))))
              have z_373 := j_371.1.2.2.2.2.2.2.2 r269.toInt (by omega) (by omega)
              exact (U_171_0 (t := t) (nn := nn) (a := a) (sg := sg) (k := k) hX hd q1 q2 q3 q4 q5 q6 q7 q8 h ((10 - (0 : Int32).toInt).toNat + 1)) M356 r269 (M314.2.1 77 9) (0 : Int32) (0 : Int64) hG351 F357 (by omega) (by omega) (by omega) (by omega) (by omega) (by omega) (by omega) (by omega) (by omega) (by omega) p_355.1 j_369 j_370 j_371 j_372 (by rw [show (M314.2.1 77 9).toInt = x_val t nn (x_ns t nn (x_ns t nn a)) by omega, show (M356.2.1 77 10).toInt = (x_ns t nn (x_ns t nn (x_ns t nn a))) by omega]; exact (x_word_y (by omega) (by omega)).symm) (by omega)
            · refine to_an (pc := 95) rw_171_95 rfl (to_c (pc := 96) rw_171_96 (x := (1 : Int32)) rfl rfl (s_v (pc := 97) rw_171_97 (dp0 hd (by decide)) (ls0 := [.ref 77, .int (1 : Int32)]) rfl (Nat.le_of_ble_eq_true rfl) (Nat.le_of_ble_eq_true rfl) rfl (to_rc rfl rfl rfl (g_o hG351 rfl)) rfl (to_an (pc := 0) rw_152_0 rfl (to_in (pc := 1) rw_152_1 rfl (s_pI (pc := 2) rw_152_2 hG351 rfl (fun M375 W374 => ?_))))))
              have hG376 := g_wf hG351 W374 rfl rfl (by decide)
              have F377 := FR.w F357 W374 (show 77 = 77 ∧ (4 = 4 ∨ 4 = 5 ∨ 7 ≤ 4 ∧ 4 ≤ 10 ∨ 4 = 16) ∨ 85 ≤ 77 ∧ 77 ≤ 87 ∧ 12 ≤ 4 by decide)
              refine to_an (pc := 5) rw_152_5 rfl (to_an (pc := 6) rw_152_6 rfl ?_)
              have c_378 : M375.2.1 77 10 = (M356.2.1 77 10) := (W_n W374 (by decide) rfl)
              refine tt_gI (pc := 7) rw_152_7 (g_o hG376 rfl) (v := (M356.2.1 77 10)) c_378 (s_pI (pc := 10) rw_152_10 hG376 rfl (fun M380 W379 => ?_))
              have hG381 := g_wf hG376 W379 rfl rfl (by decide)
              have F382 := FR.w F377 W379 (show 77 = 77 ∧ (5 = 4 ∨ 5 = 5 ∨ 7 ≤ 5 ∧ 5 ≤ 10 ∨ 5 = 16) ∨ 85 ≤ 77 ∧ 77 ≤ 87 ∧ 12 ≤ 5 by decide)
              refine to_c (pc := 13) rw_152_13 (x := (0 : Int32)) rfl rfl (s_r1 (pc := 14) rw_152_14 (A := 0) rfl (by decide) (s_r1 (pc := 100) rw_171_100 (A := 0) rfl (by decide) ?_))
              have k_383 : (0 : Int32).toInt = 0 := rfl
              have j_384 := (RS_f (fun a i z => W_n W379 (tg_37 a i z) rfl) (RS_f (fun a i z => W_n W374 (tg_38 a i z) rfl) p_355.1))
              have z_385 := q7.1.2.2.2.2.2.2.2 r269.toInt (by omega) (by omega)
              exact h (0 : Int32) M380 hG381 F382 (by decide) (by decide) j_384 (fun _ => (x_word_y (f := r269.toInt) (by omega) (by omega)).trans (x_rc_n2 (by omega) (by omega))) (fun z => absurd z (by decide))
        · refine to_an (pc := 59) rw_171_59 rfl (to_c (pc := 60) rw_171_60 (x := (4 : Int32)) rfl rfl (s_v (pc := 61) rw_171_61 (dp0 hd (by decide)) (ls0 := [.ref 77, .int (4 : Int32)]) rfl (Nat.le_of_ble_eq_true rfl) (Nat.le_of_ble_eq_true rfl) rfl (to_rc rfl rfl rfl (g_o hG271 rfl)) rfl (to_an (pc := 0) rw_152_0 rfl (to_in (pc := 1) rw_152_1 rfl (s_pI (pc := 2) rw_152_2 hG271 rfl (fun M387 W386 => ?_))))))
          have hG388 := g_wf hG271 W386 rfl rfl (by decide)
          have F389 := FR.w F276 W386 (show 77 = 77 ∧ (4 = 4 ∨ 4 = 5 ∨ 7 ≤ 4 ∧ 4 ≤ 10 ∨ 4 = 16) ∨ 85 ≤ 77 ∧ 77 ≤ 87 ∧ 12 ≤ 4 by decide)
          refine to_an (pc := 5) rw_152_5 rfl (to_an (pc := 6) rw_152_6 rfl ?_)
          have c_390 : M387.2.1 77 10 = (M258.2.1 77 10) := (W_n W386 (by decide) (F_n F270 (show ¬ (77 < 0) by decide) rfl))
          refine tt_gI (pc := 7) rw_152_7 (g_o hG388 rfl) (v := (M258.2.1 77 10)) c_390 (s_pI (pc := 10) rw_152_10 hG388 rfl (fun M392 W391 => ?_))
          have hG393 := g_wf hG388 W391 rfl rfl (by decide)
          have F394 := FR.w F389 W391 (show 77 = 77 ∧ (5 = 4 ∨ 5 = 5 ∨ 7 ≤ 5 ∧ 5 ≤ 10 ∨ 5 = 16) ∨ 85 ≤ 77 ∧ 77 ≤ 87 ∧ 12 ≤ 5 by decide)
          refine to_c (pc := 13) rw_152_13 (x := (0 : Int32)) rfl rfl (s_r1 (pc := 14) rw_152_14 (A := 0) rfl (by decide) (s_r1 (pc := 64) rw_171_64 (A := 0) rfl (by decide) ?_))
          have k_395 : (0 : Int32).toInt = 0 := rfl
          have j_396 := (RS_f (fun a i z => W_n W391 (tg_37 a i z) rfl) (RS_f (fun a i z => W_n W386 (tg_38 a i z) rfl) (RS_f (tg_45 F270) p_257.1)))
          exact h (0 : Int32) M392 hG393 F394 (by decide) (by decide) j_396 (fun _ => x_word_n (by omega)) (fun z => absurd z (by decide))
    · refine to_an (pc := 27) rw_171_27 rfl (to_c (pc := 28) rw_171_28 (x := (1 : Int32)) rfl rfl (s_v (pc := 29) rw_171_29 (dp0 hd (by decide)) (ls0 := [.ref 77, .int (1 : Int32)]) rfl (Nat.le_of_ble_eq_true rfl) (Nat.le_of_ble_eq_true rfl) rfl (to_rc rfl rfl rfl (g_o hG253 rfl)) rfl (to_an (pc := 0) rw_152_0 rfl (to_in (pc := 1) rw_152_1 rfl (s_pI (pc := 2) rw_152_2 hG253 rfl (fun M398 W397 => ?_))))))
      have hG399 := g_wf hG253 W397 rfl rfl (by decide)
      have F400 := FR.w F259 W397 (show 77 = 77 ∧ (4 = 4 ∨ 4 = 5 ∨ 7 ≤ 4 ∧ 4 ≤ 10 ∨ 4 = 16) ∨ 85 ≤ 77 ∧ 77 ≤ 87 ∧ 12 ≤ 4 by decide)
      refine to_an (pc := 5) rw_152_5 rfl (to_an (pc := 6) rw_152_6 rfl ?_)
      have c_401 : M398.2.1 77 10 = (M258.2.1 77 10) := (W_n W397 (by decide) rfl)
      refine tt_gI (pc := 7) rw_152_7 (g_o hG399 rfl) (v := (M258.2.1 77 10)) c_401 (s_pI (pc := 10) rw_152_10 hG399 rfl (fun M403 W402 => ?_))
      have hG404 := g_wf hG399 W402 rfl rfl (by decide)
      have F405 := FR.w F400 W402 (show 77 = 77 ∧ (5 = 4 ∨ 5 = 5 ∨ 7 ≤ 5 ∧ 5 ≤ 10 ∨ 5 = 16) ∨ 85 ≤ 77 ∧ 77 ≤ 87 ∧ 12 ≤ 5 by decide)
      refine to_c (pc := 13) rw_152_13 (x := (0 : Int32)) rfl rfl (s_r1 (pc := 14) rw_152_14 (A := 0) rfl (by decide) (s_r1 (pc := 32) rw_171_32 (A := 0) rfl (by decide) ?_))
      have k_406 : (0 : Int32).toInt = 0 := rfl
      have j_407 := (RS_f (fun a i z => W_n W402 (tg_37 a i z) rfl) (RS_f (fun a i z => W_n W397 (tg_38 a i z) rfl) p_257.1))
      exact h (0 : Int32) M403 hG404 F405 (by decide) (by decide) j_407 (fun _ => x_word_n (by omega)) (fun z => absurd z (by decide))
  · refine to_an (pc := 9) rw_171_9 rfl (to_c (pc := 10) rw_171_10 (x := (2 : Int32)) rfl rfl (s_v (pc := 11) rw_171_11 (dp0 hd (by decide)) (ls0 := [.ref 77, .int (2 : Int32)]) rfl (Nat.le_of_ble_eq_true rfl) (Nat.le_of_ble_eq_true rfl) rfl (to_rc rfl rfl rfl (g_o hG rfl)) rfl (to_an (pc := 0) rw_152_0 rfl (to_in (pc := 1) rw_152_1 rfl (s_pI (pc := 2) rw_152_2 hG rfl (fun M409 W408 => ?_))))))
    have hG410 := g_wf hG W408 rfl rfl (by decide)
    have F411 := FR.w F0 W408 (show 77 = 77 ∧ (4 = 4 ∨ 4 = 5 ∨ 7 ≤ 4 ∧ 4 ≤ 10 ∨ 4 = 16) ∨ 85 ≤ 77 ∧ 77 ≤ 87 ∧ 12 ≤ 4 by decide)
    refine to_an (pc := 5) rw_152_5 rfl (to_an (pc := 6) rw_152_6 rfl ?_)
    have c_412 : M409.2.1 77 10 = (M.2.1 77 10) := (W_n W408 (by decide) rfl)
    refine tt_gI (pc := 7) rw_152_7 (g_o hG410 rfl) (v := (M.2.1 77 10)) c_412 (s_pI (pc := 10) rw_152_10 hG410 rfl (fun M414 W413 => ?_))
    have hG415 := g_wf hG410 W413 rfl rfl (by decide)
    have F416 := FR.w F411 W413 (show 77 = 77 ∧ (5 = 4 ∨ 5 = 5 ∨ 7 ≤ 5 ∧ 5 ≤ 10 ∨ 5 = 16) ∨ 85 ≤ 77 ∧ 77 ≤ 87 ∧ 12 ≤ 5 by decide)
    refine to_c (pc := 13) rw_152_13 (x := (0 : Int32)) rfl rfl (s_r1 (pc := 14) rw_152_14 (A := 0) rfl (by decide) (s_r1 (pc := 14) rw_171_14 (A := 0) rfl (by decide) ?_))
    have k_417 : (0 : Int32).toInt = 0 := rfl
    have j_418 := (RS_f (fun a i z => W_n W413 (tg_37 a i z) rfl) (RS_f (fun a i z => W_n W408 (tg_38 a i z) rfl) q1))
    exact h (0 : Int32) M414 hG415 F416 (by decide) (by decide) j_418 (fun _ => x_word_n (by omega)) (fun z => absurd z (by decide))
end
section
theorem tg_64 {M M1 : mm_M} (F : FR (fun a i : Nat => a = 77 ∧ (i = 4 ∨ i = 5 ∨ 7 ≤ i ∧ i ≤ 10 ∨ i = 16) ∨ 85 ≤ a ∧ a ≤ 87 ∧ 12 ≤ i) M M1) : ∀ a i : Nat, a = 78 → M1.2.1 a i = M.2.1 a i := fun a i z => F_n F (show ¬ (a = 77 ∧ (i = 4 ∨ i = 5 ∨ 7 ≤ i ∧ i ≤ 10 ∨ i = 16) ∨ 85 ≤ a ∧ a ≤ 87 ∧ 12 ≤ i) by omega) rfl
theorem tg_65 {M M1 : mm_M} (F : FR (fun a i : Nat => a = 77 ∧ (i = 4 ∨ i = 5 ∨ 7 ≤ i ∧ i ≤ 10 ∨ i = 16) ∨ 85 ≤ a ∧ a ≤ 87 ∧ 12 ≤ i) M M1) : ∀ a i : Nat, a = 79 → M1.2.1 a i = M.2.1 a i := fun a i z => F_n F (show ¬ (a = 77 ∧ (i = 4 ∨ i = 5 ∨ 7 ≤ i ∧ i ≤ 10 ∨ i = 16) ∨ 85 ≤ a ∧ a ≤ 87 ∧ 12 ≤ i) by omega) rfl
theorem tg_66 {M M1 : mm_M} (F : FR (fun a i : Nat => a = 77 ∧ (i = 4 ∨ i = 5 ∨ 7 ≤ i ∧ i ≤ 10 ∨ i = 15 ∨ i = 25) ∨ 80 ≤ a ∧ a ≤ 84 ∧ 8 ≤ i) M M1) : ∀ a i : Nat, a = 78 → M1.2.1 a i = M.2.1 a i := fun a i z => F_n F (show ¬ (a = 77 ∧ (i = 4 ∨ i = 5 ∨ 7 ≤ i ∧ i ≤ 10 ∨ i = 15 ∨ i = 25) ∨ 80 ≤ a ∧ a ≤ 84 ∧ 8 ≤ i) by omega) rfl
theorem tg_67 {M M1 : mm_M} (F : FR (fun a i : Nat => a = 77 ∧ (i = 4 ∨ i = 5 ∨ 7 ≤ i ∧ i ≤ 10 ∨ i = 15 ∨ i = 25) ∨ 80 ≤ a ∧ a ≤ 84 ∧ 8 ≤ i) M M1) : ∀ a i : Nat, a = 79 → M1.2.1 a i = M.2.1 a i := fun a i z => F_n F (show ¬ (a = 77 ∧ (i = 4 ∨ i = 5 ∨ 7 ≤ i ∧ i ≤ 10 ∨ i = 15 ∨ i = 25) ∨ 80 ≤ a ∧ a ≤ 84 ∧ 8 ≤ i) by omega) rfl
theorem tg_68 {M M1 : mm_M} {s : x_S} (F : FR (fun a i : Nat => a = 77 ∧ (i = 4 ∨ i = 5 ∨ 7 ≤ i ∧ i ≤ 10)) M M1) : ∀ a i : Nat, (a = 77 ∧ 14 ≤ i ∧ i ≤ 16 ∨ 80 ≤ a ∧ a ≤ 84 ∧ 8 ≤ i ∧ (i : Int) < s.2.1 + 8 ∨ 85 ≤ a ∧ a ≤ 86 ∧ 12 ≤ i ∧ (i : Int) < s.2.2.1 + 12) → M1.2.1 a i = M.2.1 a i := fun a i z => F_n F (show ¬ (a = 77 ∧ (i = 4 ∨ i = 5 ∨ 7 ≤ i ∧ i ≤ 10)) by omega) rfl
theorem tg_69 {M M1 : mm_M} (F : FR (fun a i : Nat => a = 77 ∧ (i = 4 ∨ i = 5 ∨ 7 ≤ i ∧ i ≤ 10 ∨ 14 ≤ i ∧ i ≤ 16 ∨ i = 25) ∨ 80 ≤ a ∧ a ≤ 84 ∧ 8 ≤ i ∨ 85 ≤ a ∧ a ≤ 87 ∧ 12 ≤ i) M M1) : ∀ a i : Nat, a = 78 → M1.2.1 a i = M.2.1 a i := fun a i z => F_n F (show ¬ (a = 77 ∧ (i = 4 ∨ i = 5 ∨ 7 ≤ i ∧ i ≤ 10 ∨ 14 ≤ i ∧ i ≤ 16 ∨ i = 25) ∨ 80 ≤ a ∧ a ≤ 84 ∧ 8 ≤ i ∨ 85 ≤ a ∧ a ≤ 87 ∧ 12 ≤ i) by omega) rfl
theorem tg_70 {M M1 : mm_M} (F : FR (fun a i : Nat => a = 77 ∧ (i = 4 ∨ i = 5 ∨ 7 ≤ i ∧ i ≤ 10 ∨ 14 ≤ i ∧ i ≤ 16 ∨ i = 25) ∨ 80 ≤ a ∧ a ≤ 84 ∧ 8 ≤ i ∨ 85 ≤ a ∧ a ≤ 87 ∧ 12 ≤ i) M M1) : ∀ a i : Nat, a = 79 → M1.2.1 a i = M.2.1 a i := fun a i z => F_n F (show ¬ (a = 77 ∧ (i = 4 ∨ i = 5 ∨ 7 ≤ i ∧ i ≤ 10 ∨ 14 ≤ i ∧ i ≤ 16 ∨ i = 25) ∨ 80 ≤ a ∧ a ≤ 84 ∧ 8 ≤ i ∨ 85 ≤ a ∧ a ≤ 87 ∧ 12 ≤ i) by omega) rfl
theorem tg_71 {M M1 : mm_M} (F : FR (fun a i : Nat => a = 77 ∧ (14 ≤ i ∧ i ≤ 16 ∨ i = 25)) M M1) : ∀ a i : Nat, (a = 77 ∧ 6 ≤ i ∧ i ≤ 10) → M1.2.1 a i = M.2.1 a i := fun a i z => F_n F (show ¬ (a = 77 ∧ (14 ≤ i ∧ i ≤ 16 ∨ i = 25)) by omega) rfl
theorem tg_72 {M M1 : mm_M} (F : FR (fun a i : Nat => a = 77 ∧ (14 ≤ i ∧ i ≤ 16 ∨ i = 25)) M M1) : ∀ a i : Nat, a = 78 → M1.2.1 a i = M.2.1 a i := fun a i z => F_n F (show ¬ (a = 77 ∧ (14 ≤ i ∧ i ≤ 16 ∨ i = 25)) by omega) rfl
theorem tg_73 {M M1 : mm_M} (F : FR (fun a i : Nat => a = 77 ∧ (i = 1 ∨ 4 ≤ i ∧ i ≤ 10)) M M1) : ∀ a i : Nat, a = 78 → M1.2.1 a i = M.2.1 a i := fun a i z => F_n F (show ¬ (a = 77 ∧ (i = 1 ∨ 4 ≤ i ∧ i ≤ 10)) by omega) rfl
theorem tg_74 {M M1 : mm_M} (F : FR (fun a i : Nat => a = 77 ∧ (14 ≤ i ∧ i ≤ 16 ∨ i = 25)) M M1) : ∀ a i : Nat, a = 79 → M1.2.1 a i = M.2.1 a i := fun a i z => F_n F (show ¬ (a = 77 ∧ (14 ≤ i ∧ i ≤ 16 ∨ i = 25)) by omega) rfl
theorem tg_75 {M M1 : mm_M} (F : FR (fun a i : Nat => a = 77 ∧ (i = 1 ∨ 4 ≤ i ∧ i ≤ 10)) M M1) : ∀ a i : Nat, a = 79 → M1.2.1 a i = M.2.1 a i := fun a i z => F_n F (show ¬ (a = 77 ∧ (i = 1 ∨ 4 ≤ i ∧ i ≤ 10)) by omega) rfl
theorem tg_76 : ∀ a i : Nat, (a = 77 ∧ (i = 4 ∨ i = 5 ∨ 7 ≤ i ∧ i ≤ 10 ∨ i = 16) ∨ 85 ≤ a ∧ a ≤ 87 ∧ 12 ≤ i) → (a = 77 ∧ (i = 4 ∨ i = 5 ∨ 7 ≤ i ∧ i ≤ 10 ∨ 14 ≤ i ∧ i ≤ 16 ∨ i = 25) ∨ 80 ≤ a ∧ a ≤ 84 ∧ 8 ≤ i ∨ 85 ≤ a ∧ a ≤ 87 ∧ 12 ≤ i) := fun a i z => by omega
theorem tg_77 : ∀ a i : Nat, (a = 77 ∧ (i = 4 ∨ i = 5 ∨ 7 ≤ i ∧ i ≤ 10)) → (a = 77 ∧ (i = 4 ∨ i = 5 ∨ 7 ≤ i ∧ i ≤ 10 ∨ 14 ≤ i ∧ i ≤ 16 ∨ i = 25) ∨ 80 ≤ a ∧ a ≤ 84 ∧ 8 ≤ i ∨ 85 ≤ a ∧ a ≤ 87 ∧ 12 ≤ i) := fun a i z => by omega
theorem tg_78 : ∀ a i : Nat, (a = 77 ∧ (i = 4 ∨ i = 5 ∨ 7 ≤ i ∧ i ≤ 10 ∨ i = 15 ∨ i = 25) ∨ 80 ≤ a ∧ a ≤ 84 ∧ 8 ≤ i) → (a = 77 ∧ (i = 4 ∨ i = 5 ∨ 7 ≤ i ∧ i ≤ 10 ∨ 14 ≤ i ∧ i ≤ 16 ∨ i = 25) ∨ 80 ≤ a ∧ a ≤ 84 ∧ 8 ≤ i ∨ 85 ≤ a ∧ a ≤ 87 ∧ 12 ≤ i) := fun a i z => by omega
theorem tg_79 : ∀ a i : Nat, (a = 77 ∧ 7 ≤ i ∧ i ≤ 10) → (a = 77 ∧ (i = 4 ∨ i = 5 ∨ 7 ≤ i ∧ i ≤ 10 ∨ 14 ≤ i ∧ i ≤ 16 ∨ i = 25) ∨ 80 ≤ a ∧ a ≤ 84 ∧ 8 ≤ i ∨ 85 ≤ a ∧ a ≤ 87 ∧ 12 ≤ i) := fun a i z => by omega
theorem tg_80 : ∀ a i : Nat, (a = 77 ∧ (i = 4 ∨ i = 5)) → (a = 77 ∧ (i = 4 ∨ i = 5 ∨ 7 ≤ i ∧ i ≤ 10 ∨ 14 ≤ i ∧ i ≤ 16 ∨ i = 25) ∨ 80 ≤ a ∧ a ≤ 84 ∧ 8 ≤ i ∨ 85 ≤ a ∧ a ≤ 87 ∧ 12 ≤ i) := fun a i z => by omega
theorem tg_81 : ∀ a i : Nat, (a = 77 ∧ (11 ≤ i ∧ i ≤ 13 ∨ i = 28 ∨ i = 29 ∨ i = 41 ∨ i = 57 ∨ i = 58) ∨ 80 ≤ a ∧ a ≤ 87 ∨ a = 100) → (a = 77 ∨ 79 < a ∧ a ≤ 87 ∨ a = 100) := fun a i z => by omega
theorem tg_82 : ∀ a i : Nat, (a = 77 ∧ (i = 4 ∨ i = 5 ∨ 7 ≤ i ∧ i ≤ 10 ∨ 14 ≤ i ∧ i ≤ 16 ∨ i = 25) ∨ 80 ≤ a ∧ a ≤ 84 ∧ 8 ≤ i ∨ 85 ≤ a ∧ a ≤ 87 ∧ 12 ≤ i) → (a = 77 ∨ 79 < a ∧ a ≤ 87 ∨ a = 100) := fun a i z => by omega
theorem tg_83 : ∀ a i : Nat, (a = 77 ∧ (i = 1 ∨ 4 ≤ i ∧ i ≤ 10)) → (a = 77 ∨ 79 < a ∧ a ≤ 87 ∨ a = 100) := fun a i z => by omega
theorem tg_84 : ∀ a i : Nat, (a = 77 ∧ (14 ≤ i ∧ i ≤ 16 ∨ i = 25)) → (a = 77 ∨ 79 < a ∧ a ≤ 87 ∨ a = 100) := fun a i z => by omega
theorem tg_85 : ∀ a i : Nat, (a = 77 ∧ 6 ≤ i ∧ i ≤ 10) → ¬ (a = 77 ∧ i = 14) := fun a i z => by omega
theorem tg_86 : ∀ a i : Nat, a = 78 → ¬ (a = 77 ∧ i = 14) := fun a i z => by omega
theorem tg_87 : ∀ a i : Nat, a = 79 → ¬ (a = 77 ∧ i = 14) := fun a i z => by omega
theorem tg_88 : ∀ a i : Nat, a = 78 → ¬ (a = 77 ∧ i = 2) := fun a i z => by omega
theorem tg_89 : ∀ a i : Nat, a = 79 → ¬ (a = 77 ∧ i = 2) := fun a i z => by omega
set_option maxRecDepth 4000 in
set_option maxHeartbeats 0 in
theorem E_172 {X : mm_X} {d : Nat} {M : mm_M} {Q : Option Value → mm_M → Prop} {x : Int32} {t : Nat → Int} {nn : Int} {a : Int} {sg : x_S} {L : Int} {fu : Nat} (hX : g_X X) (hd : 4 ≤ d) (hG : g_G M) (q1 : RS M t nn) (q2 : (M.2.1 77 10).toInt = a) (q3 : 0 ≤ nn) (q4 : nn ≤ 500) (q5 : TR M t nn) (q6 : W9 M) (q7 : PLr M sg) (q8 : CWr M sg) (q9 : 0 ≤ x.toInt) (q10 : x.toInt ≤ 1) (q11 : 0 ≤ L) (q12 : x.toInt = 1 → L = 0) (q13 : x.toInt = 0 → 0 < L) (h : ∀ (r : Int32) (M1 : mm_M), g_G M1 → FR md_l172 M M1 → (0 ≤ r.toInt) → (r.toInt ≤ 1) → RS M1 t nn → ((r.toInt = 0 → x_line t nn L sg a (x_kk t nn fu L) = none)) → ((r.toInt = 1 → LOr t nn (x_line t nn L sg a (x_kk t nn fu L)) fu L M1 sg)) → Q (some (.int r)) M1) : mm_T X d 171 0 [.ref 77, .int x] [] M Q := by
  have F0 : FR md_l172 M M := FR.rf
  have b_1 := g_b hG (a := 77) (i := 10) (lo := 0) (hi := 500) rfl rfl
  have z_2 := q7.2.1
  have z_3 := q7.2.2.1
  have z_4 := q7.2.2.2.1
  have z_5 := q7.1
  have z_6 := z_5.1
  have z_7 := z_5.2.1
  have z_8 := z_5.2.2.1
  have z_9 := z_5.2.2.2.1
  have z_10 := z_5.2.2.2.2.1
  have z_11 := z_5.2.2.2.2.2.1
  have b_12 := g_b hG (a := 77) (i := 14) (lo := 10) (hi := 60) rfl rfl
  have b_13 := g_b hG (a := 77) (i := 15) (lo := 0) (hi := 8) rfl rfl
  have b_14 := g_b hG (a := 77) (i := 16) (lo := 0) (hi := 12) rfl rfl
  have b_15 := g_b hG (a := 77) (i := 8) (lo := 0) (hi := 5) rfl rfl
  have c_16 := RS_u q1 (a := a) (by omega)
  unfold x_R at c_16
  refine to_an (pc := 0) rw_172_0 rfl (tt_gI (pc := 1) rw_172_1 (g_o hG rfl) (v := (M.2.1 77 8)) rfl (to_c (pc := 4) rw_172_4 (x := (1 : Int32)) rfl rfl (b_cne (pc := 5) rw_172_5 (A := (M.2.1 77 8).toInt) (B := 1) rfl rfl (fun h17 => ?_) (fun h17 => ?_))))
  · refine to_an (pc := 27) rw_172_27 rfl (to_c (pc := 28) rw_172_28 (x := (1 : Int32)) rfl rfl (s_v (pc := 29) rw_172_29 (dp0 hd (by decide)) (ls0 := [.ref 77, .int (1 : Int32)]) rfl (Nat.le_of_ble_eq_true rfl) (Nat.le_of_ble_eq_true rfl) rfl (to_rc rfl rfl rfl (g_o hG rfl)) rfl (to_an (pc := 0) rw_152_0 rfl (to_in (pc := 1) rw_152_1 rfl (s_pI (pc := 2) rw_152_2 hG rfl (fun M19 W18 => ?_))))))
    have hG20 := g_wf hG W18 rfl rfl (by decide)
    have F21 := FR.w F0 W18 (show 77 = 77 ∧ (4 = 4 ∨ 4 = 5 ∨ 7 ≤ 4 ∧ 4 ≤ 10 ∨ 14 ≤ 4 ∧ 4 ≤ 16 ∨ 4 = 25) ∨ 80 ≤ 77 ∧ 77 ≤ 84 ∧ 8 ≤ 4 ∨ 85 ≤ 77 ∧ 77 ≤ 87 ∧ 12 ≤ 4 by decide)
    refine to_an (pc := 5) rw_152_5 rfl (to_an (pc := 6) rw_152_6 rfl ?_)
    have c_22 : M19.2.1 77 10 = (M.2.1 77 10) := (W_n W18 (by decide) rfl)
    refine tt_gI (pc := 7) rw_152_7 (g_o hG20 rfl) (v := (M.2.1 77 10)) c_22 (s_pI (pc := 10) rw_152_10 hG20 rfl (fun M24 W23 => ?_))
    have hG25 := g_wf hG20 W23 rfl rfl (by decide)
    have F26 := FR.w F21 W23 (show 77 = 77 ∧ (5 = 4 ∨ 5 = 5 ∨ 7 ≤ 5 ∧ 5 ≤ 10 ∨ 14 ≤ 5 ∧ 5 ≤ 16 ∨ 5 = 25) ∨ 80 ≤ 77 ∧ 77 ≤ 84 ∧ 8 ≤ 5 ∨ 85 ≤ 77 ∧ 77 ≤ 87 ∧ 12 ≤ 5 by decide)
    refine to_c (pc := 13) rw_152_13 (x := (0 : Int32)) rfl rfl (s_r1 (pc := 14) rw_152_14 (A := 0) rfl (by decide) (s_r1 (pc := 32) rw_172_32 (A := 0) rfl (by decide) ?_))
    have k_27 : (0 : Int32).toInt = 0 := rfl
    have j_28 := (RS_f (fun a i z => W_n W23 (tg_37 a i z) rfl) (RS_f (fun a i z => W_n W18 (tg_38 a i z) rfl) q1))
    exact h (0 : Int32) M24 hG25 F26 (by decide) (by decide) j_28 (fun _ => by first | exact x_line_n (by omega) | exact x_line_t (by omega) (by omega) | exact (if g9 : x_kind t nn a = 1 then x_line_t (by omega) (by omega) else x_line_n (by omega)) | exact (x_line_h (by omega) (by omega) (by omega)).trans (x_holes_n (by omega))) (fun z => by exfalso; omega)
  · refine to_an (pc := 8) rw_172_8 rfl (tt_gI (pc := 9) rw_172_9 (g_o hG rfl) (v := (M.2.1 77 9)) rfl (to_c (pc := 12) rw_172_12 (x := (2 : Int32)) rfl rfl (b_cgt (pc := 13) rw_172_13 (A := (M.2.1 77 9).toInt) (B := 2) rfl rfl (fun h29 => ?_) (fun h29 => ?_))))
    · refine to_an (pc := 27) rw_172_27 rfl (to_c (pc := 28) rw_172_28 (x := (1 : Int32)) rfl rfl (s_v (pc := 29) rw_172_29 (dp0 hd (by decide)) (ls0 := [.ref 77, .int (1 : Int32)]) rfl (Nat.le_of_ble_eq_true rfl) (Nat.le_of_ble_eq_true rfl) rfl (to_rc rfl rfl rfl (g_o hG rfl)) rfl (to_an (pc := 0) rw_152_0 rfl (to_in (pc := 1) rw_152_1 rfl (s_pI (pc := 2) rw_152_2 hG rfl (fun M31 W30 => ?_))))))
      have hG32 := g_wf hG W30 rfl rfl (by decide)
      have F33 := FR.w F0 W30 (show 77 = 77 ∧ (4 = 4 ∨ 4 = 5 ∨ 7 ≤ 4 ∧ 4 ≤ 10 ∨ 14 ≤ 4 ∧ 4 ≤ 16 ∨ 4 = 25) ∨ 80 ≤ 77 ∧ 77 ≤ 84 ∧ 8 ≤ 4 ∨ 85 ≤ 77 ∧ 77 ≤ 87 ∧ 12 ≤ 4 by decide)
      refine to_an (pc := 5) rw_152_5 rfl (to_an (pc := 6) rw_152_6 rfl ?_)
      have c_34 : M31.2.1 77 10 = (M.2.1 77 10) := (W_n W30 (by decide) rfl)
      refine tt_gI (pc := 7) rw_152_7 (g_o hG32 rfl) (v := (M.2.1 77 10)) c_34 (s_pI (pc := 10) rw_152_10 hG32 rfl (fun M36 W35 => ?_))
      have hG37 := g_wf hG32 W35 rfl rfl (by decide)
      have F38 := FR.w F33 W35 (show 77 = 77 ∧ (5 = 4 ∨ 5 = 5 ∨ 7 ≤ 5 ∧ 5 ≤ 10 ∨ 14 ≤ 5 ∧ 5 ≤ 16 ∨ 5 = 25) ∨ 80 ≤ 77 ∧ 77 ≤ 84 ∧ 8 ≤ 5 ∨ 85 ≤ 77 ∧ 77 ≤ 87 ∧ 12 ≤ 5 by decide)
      refine to_c (pc := 13) rw_152_13 (x := (0 : Int32)) rfl rfl (s_r1 (pc := 14) rw_152_14 (A := 0) rfl (by decide) (s_r1 (pc := 32) rw_172_32 (A := 0) rfl (by decide) ?_))
      have k_39 : (0 : Int32).toInt = 0 := rfl
      have j_40 := (RS_f (fun a i z => W_n W35 (tg_37 a i z) rfl) (RS_f (fun a i z => W_n W30 (tg_38 a i z) rfl) q1))
      exact h (0 : Int32) M36 hG37 F38 (by decide) (by decide) j_40 (fun _ => by first | exact x_line_n (by omega) | exact x_line_t (by omega) (by omega) | exact (if g9 : x_kind t nn a = 1 then x_line_t (by omega) (by omega) else x_line_n (by omega)) | exact (x_line_h (by omega) (by omega) (by omega)).trans (x_holes_n (by omega))) (fun z => by exfalso; omega)
    · refine to_in (pc := 16) rw_172_16 rfl (b_ieq (pc := 17) rw_172_17 (A := x.toInt) rfl (fun h41 => ?_) (fun h41 => ?_))
      · refine to_an (pc := 33) rw_172_33 rfl (tt_gI (pc := 34) rw_172_34 (g_o hG rfl) (v := (M.2.1 77 9)) rfl (b_ine (pc := 37) rw_172_37 (A := (M.2.1 77 9).toInt) rfl (fun h42 => ?_) (fun h42 => ?_)))
        · refine to_an (pc := 82) rw_172_82 rfl (tt_gI (pc := 83) rw_172_83 (g_o hG rfl) (v := (M.2.1 77 9)) rfl (to_c (pc := 86) rw_172_86 (x := (1 : Int32)) rfl rfl (b_cne (pc := 87) rw_172_87 (A := (M.2.1 77 9).toInt) (B := 1) rfl rfl (fun h43 => ?_) (fun h43 => ?_))))
          · refine to_an (pc := 100) rw_172_100 rfl (s_v (pc := 101) rw_172_101 (dp0 hd (by decide)) (ls0 := [.ref 77, .null, .null, .null, .null, .null]) rfl (Nat.le_of_ble_eq_true rfl) (Nat.le_of_ble_eq_true rfl) rfl (to_rc rfl rfl rfl (g_o hG rfl)) rfl (E_171 hX (dp1 hd (by decide)) hG q1 (by omega) (by omega) (by omega) q5 q6 q7 q8 (t := t) (nn := nn) (a := a) (sg := sg) (k := (x_kk t nn fu L)) (fun r44 M52 hG46 F45 p_47 p_48 p_49 p_50 p_51 => ?_)))
            have F53 := FR.c F0 F45 tg_76
            rcases (show r44.toInt = 0 ∨ r44.toInt = 1 by omega) with h54 | h54
            · skip
              have p_55 := p_50 (by omega)
              clear p_50 p_51
              have b_56 := g_b hG46 (a := 77) (i := 10) (lo := 0) (hi := 500) rfl rfl
              have z_57 : x_line t nn L sg a (x_kk t nn fu L) = x_word t nn sg (x_ns t nn a) (x_kk t nn fu L) := x_line_w (by omega) (by omega) (by omega)
              refine b_ine_f (pc := 104) rw_172_104 (A := r44.toInt) rfl (by omega) (to_c (pc := 107) rw_172_107 (x := (0 : Int32)) rfl rfl (s_r1 (pc := 108) rw_172_108 (A := 0) rfl (by decide) ?_))
              have k_58 : (0 : Int32).toInt = 0 := rfl
              exact h (0 : Int32) M52 hG46 F53 (by decide) (by decide) p_49 (fun _ => z_57.trans p_55) (fun z => by exfalso; omega)
            · skip
              have p_59 := p_51 (by omega)
              clear p_50 p_51
              have b_60 := g_b hG46 (a := 77) (i := 10) (lo := 0) (hi := 500) rfl rfl
              have z_61 : x_line t nn L sg a (x_kk t nn fu L) = x_word t nn sg (x_ns t nn a) (x_kk t nn fu L) := x_line_w (by omega) (by omega) (by omega)
              refine b_ine_t (pc := 104) rw_172_104 (A := r44.toInt) rfl (by omega) (to_an (pc := 109) rw_172_109 rfl (to_c (pc := 110) rw_172_110 (x := (59 : Int32)) rfl rfl (s_v (pc := 112) rw_172_112 (dp0 hd (by decide)) (ls0 := [.ref 77, .int (59 : Int32)]) rfl (Nat.le_of_ble_eq_true rfl) (Nat.le_of_ble_eq_true rfl) rfl (to_rc rfl rfl rfl (g_o hG46 rfl)) rfl ?_)))
              have k_62 : (59 : Int32).toInt = 59 := rfl
              have j_63 := (TR_f (tg_64 F45) q5)
              have j_64 := (W9_f (tg_65 F45) q6)
              refine E_160 hX (dp1 hd (by decide)) hG46 p_49 (by omega) (by omega) (by omega) j_63 j_64 (by omega) (c := (59 : Int32)) (t := t) (nn := nn) (a := (M52.2.1 77 10).toInt) (fun r65 M73 hG67 F66 p_68 p_69 p_70 p_71 p_72 => ?_)
              have F74 := FR.c F53 F66 tg_77
              have b_75 := g_b hG67 (a := 77) (i := 10) (lo := 0) (hi := 500) rfl rfl
              rcases (show r65.toInt = 0 ∨ r65.toInt = 1 by omega) with h76 | h76
              · skip
                have p_77 := p_72 (by omega)
                clear p_71 p_72
                refine s_r1 (pc := 115) rw_172_115 (A := r65.toInt) rfl (by omega) ?_
                exact h r65 M73 hG67 F74 (by omega) (by omega) p_70 (fun _ => LOr_wn p_59 z_61 rfl (by omega)) (fun z => by exfalso; omega)
              · skip
                have p_78 := p_71 (by omega)
                clear p_71 p_72
                refine s_r1 (pc := 115) rw_172_115 (A := r65.toInt) rfl (by omega) ?_
                have tr_79 : ∀ s9 : x_S, PLr2 M52 s9 → PLr2 M73 s9 := fun s9 h9 => ⟨PLr_f (fun a i z => (F_n F66 (show ¬ (a = 77 ∧ (i = 4 ∨ i = 5 ∨ 7 ≤ i ∧ i ≤ 10)) by omega) rfl)) (F_nl F66 (show ¬ (77 = 77 ∧ (25 = 4 ∨ 25 = 5 ∨ 7 ≤ 25 ∧ 25 ≤ 10)) by decide) rfl) h9.1, CWr_f (fun k hk9 => (F_nl F66 (show ¬ (87 = 77 ∧ ((12 + k) = 4 ∨ (12 + k) = 5 ∨ 7 ≤ (12 + k) ∧ (12 + k) ≤ 10)) by omega) rfl)) h9.2⟩
                exact h r65 M73 hG67 F74 (by omega) (by omega) p_70 (fun z => by exfalso; omega) (fun _ => LOr_w p_59 z_61 rfl (by omega) (by omega) (by omega) tr_79)
          · refine to_an (pc := 90) rw_172_90 rfl (s_v (pc := 91) rw_172_91 (dp0 hd (by decide)) (ls0 := [.ref 77, .null, .null, .null, .null, .null, .null, .null, .null]) rfl (Nat.le_of_ble_eq_true rfl) (Nat.le_of_ble_eq_true rfl) rfl (to_rc rfl rfl rfl (g_o hG rfl)) rfl (E_170 hX (dp1 hd (by decide)) hG q1 (by omega) (by omega) (by omega) q5 q6 q7 q8 (t := t) (nn := nn) (a := a) (sg := sg) (k := (x_kk t nn fu L)) (fun r80 M88 hG82 F81 p_83 p_84 p_85 p_86 p_87 => ?_)))
            have F89 := FR.c F0 F81 tg_78
            rcases (show r80.toInt = 0 ∨ r80.toInt = 1 by omega) with h90 | h90
            · skip
              have p_91 := p_86 (by omega)
              clear p_86 p_87
              have b_92 := g_b hG82 (a := 77) (i := 10) (lo := 0) (hi := 500) rfl rfl
              have z_93 : x_line t nn L sg a (x_kk t nn fu L) = x_field t nn sg (x_ns t nn a) (x_kk t nn fu L) := x_line_f (by omega) (by omega) (by omega)
              refine b_ine_f (pc := 94) rw_172_94 (A := r80.toInt) rfl (by omega) (to_go (pc := 97) rw_172_97 (to_c (pc := 107) rw_172_107 (x := (0 : Int32)) rfl rfl (s_r1 (pc := 108) rw_172_108 (A := 0) rfl (by decide) ?_)))
              have k_94 : (0 : Int32).toInt = 0 := rfl
              exact h (0 : Int32) M88 hG82 F89 (by decide) (by decide) p_85 (fun _ => z_93.trans p_91) (fun z => by exfalso; omega)
            · skip
              have p_95 := p_87 (by omega)
              clear p_86 p_87
              have b_96 := g_b hG82 (a := 77) (i := 10) (lo := 0) (hi := 500) rfl rfl
              have z_97 : x_line t nn L sg a (x_kk t nn fu L) = x_field t nn sg (x_ns t nn a) (x_kk t nn fu L) := x_line_f (by omega) (by omega) (by omega)
              refine b_ine_t (pc := 94) rw_172_94 (A := r80.toInt) rfl (by omega) (to_an (pc := 109) rw_172_109 rfl (to_c (pc := 110) rw_172_110 (x := (59 : Int32)) rfl rfl (s_v (pc := 112) rw_172_112 (dp0 hd (by decide)) (ls0 := [.ref 77, .int (59 : Int32)]) rfl (Nat.le_of_ble_eq_true rfl) (Nat.le_of_ble_eq_true rfl) rfl (to_rc rfl rfl rfl (g_o hG82 rfl)) rfl ?_)))
              have k_98 : (59 : Int32).toInt = 59 := rfl
              have j_99 := (TR_f (tg_66 F81) q5)
              have j_100 := (W9_f (tg_67 F81) q6)
              refine E_160 hX (dp1 hd (by decide)) hG82 p_85 (by omega) (by omega) (by omega) j_99 j_100 (by omega) (c := (59 : Int32)) (t := t) (nn := nn) (a := (M88.2.1 77 10).toInt) (fun r101 M109 hG103 F102 p_104 p_105 p_106 p_107 p_108 => ?_)
              have F110 := FR.c F89 F102 tg_77
              have b_111 := g_b hG103 (a := 77) (i := 10) (lo := 0) (hi := 500) rfl rfl
              rcases (show r101.toInt = 0 ∨ r101.toInt = 1 by omega) with h112 | h112
              · skip
                have p_113 := p_108 (by omega)
                clear p_107 p_108
                refine s_r1 (pc := 115) rw_172_115 (A := r101.toInt) rfl (by omega) ?_
                exact h r101 M109 hG103 F110 (by omega) (by omega) p_106 (fun _ => LOr_fn p_95 z_97 rfl (by omega)) (fun z => by exfalso; omega)
              · skip
                have p_114 := p_107 (by omega)
                clear p_107 p_108
                refine s_r1 (pc := 115) rw_172_115 (A := r101.toInt) rfl (by omega) ?_
                have tr_115 : ∀ s9 : x_S, PLr2 M88 s9 → PLr2 M109 s9 := fun s9 h9 => ⟨PLr_f (fun a i z => (F_n F102 (show ¬ (a = 77 ∧ (i = 4 ∨ i = 5 ∨ 7 ≤ i ∧ i ≤ 10)) by omega) rfl)) (F_nl F102 (show ¬ (77 = 77 ∧ (25 = 4 ∨ 25 = 5 ∨ 7 ≤ 25 ∧ 25 ≤ 10)) by decide) rfl) h9.1, CWr_f (fun k hk9 => (F_nl F102 (show ¬ (87 = 77 ∧ ((12 + k) = 4 ∨ (12 + k) = 5 ∨ 7 ≤ (12 + k) ∧ (12 + k) ≤ 10)) by omega) rfl)) h9.2⟩
                exact h r101 M109 hG103 F110 (by omega) (by omega) p_106 (fun z => by exfalso; omega) (fun _ => LOr_f p_95 z_97 rfl (by omega) (by omega) (by omega) tr_115)
        · refine to_in (pc := 40) rw_172_40 rfl (b_ine_f (pc := 41) rw_172_41 (A := x.toInt) rfl (by omega) (to_an (pc := 44) rw_172_44 rfl (to_c (pc := 45) rw_172_45 (x := (3 : Int32)) rfl rfl (s_v (pc := 46) rw_172_46 (dp0 hd (by decide)) (ls0 := [.ref 77, .int (3 : Int32)]) rfl (Nat.le_of_ble_eq_true rfl) (Nat.le_of_ble_eq_true rfl) rfl (to_rc rfl rfl rfl (g_o hG rfl)) rfl (to_an (pc := 0) rw_152_0 rfl (to_in (pc := 1) rw_152_1 rfl (s_pI (pc := 2) rw_152_2 hG rfl (fun M117 W116 => ?_))))))))
          have hG118 := g_wf hG W116 rfl rfl (by decide)
          have F119 := FR.w F0 W116 (show 77 = 77 ∧ (4 = 4 ∨ 4 = 5 ∨ 7 ≤ 4 ∧ 4 ≤ 10 ∨ 14 ≤ 4 ∧ 4 ≤ 16 ∨ 4 = 25) ∨ 80 ≤ 77 ∧ 77 ≤ 84 ∧ 8 ≤ 4 ∨ 85 ≤ 77 ∧ 77 ≤ 87 ∧ 12 ≤ 4 by decide)
          refine to_an (pc := 5) rw_152_5 rfl (to_an (pc := 6) rw_152_6 rfl ?_)
          have c_120 : M117.2.1 77 10 = (M.2.1 77 10) := (W_n W116 (by decide) rfl)
          refine tt_gI (pc := 7) rw_152_7 (g_o hG118 rfl) (v := (M.2.1 77 10)) c_120 (s_pI (pc := 10) rw_152_10 hG118 rfl (fun M122 W121 => ?_))
          have hG123 := g_wf hG118 W121 rfl rfl (by decide)
          have F124 := FR.w F119 W121 (show 77 = 77 ∧ (5 = 4 ∨ 5 = 5 ∨ 7 ≤ 5 ∧ 5 ≤ 10 ∨ 14 ≤ 5 ∧ 5 ≤ 16 ∨ 5 = 25) ∨ 80 ≤ 77 ∧ 77 ≤ 84 ∧ 8 ≤ 5 ∨ 85 ≤ 77 ∧ 77 ≤ 87 ∧ 12 ≤ 5 by decide)
          refine to_c (pc := 13) rw_152_13 (x := (0 : Int32)) rfl rfl (s_r1 (pc := 14) rw_152_14 (A := 0) rfl (by decide) (s_r1 (pc := 49) rw_172_49 (A := 0) rfl (by decide) ?_))
          have k_125 : (0 : Int32).toInt = 0 := rfl
          have j_126 := (RS_f (fun a i z => W_n W121 (tg_37 a i z) rfl) (RS_f (fun a i z => W_n W116 (tg_38 a i z) rfl) q1))
          exact h (0 : Int32) M122 hG123 F124 (by decide) (by decide) j_126 (fun _ => by first | exact x_line_n (by omega) | exact x_line_t (by omega) (by omega) | exact (if g9 : x_kind t nn a = 1 then x_line_t (by omega) (by omega) else x_line_n (by omega)) | exact (x_line_h (by omega) (by omega) (by omega)).trans (x_holes_n (by omega))) (fun z => by exfalso; omega)
      · refine to_an (pc := 20) rw_172_20 rfl (tt_gI (pc := 21) rw_172_21 (g_o hG rfl) (v := (M.2.1 77 9)) rfl (b_ieq (pc := 24) rw_172_24 (A := (M.2.1 77 9).toInt) rfl (fun h127 => ?_) (fun h127 => ?_)))
        · refine to_an (pc := 33) rw_172_33 rfl (tt_gI (pc := 34) rw_172_34 (g_o hG rfl) (v := (M.2.1 77 9)) rfl (b_ine_f (pc := 37) rw_172_37 (A := (M.2.1 77 9).toInt) rfl (by omega) (to_in (pc := 40) rw_172_40 rfl (b_ine_t (pc := 41) rw_172_41 (A := x.toInt) rfl (by omega) (to_an (pc := 50) rw_172_50 rfl (s_v (pc := 51) rw_172_51 (dp0 hd (by decide)) (ls0 := [.ref 77]) rfl (Nat.le_of_ble_eq_true rfl) (Nat.le_of_ble_eq_true rfl) rfl (to_rc rfl rfl rfl (g_o hG rfl)) rfl ?_))))))
          have b_128 := g_b hG (a := 77) (i := 7) (lo := 0) (hi := 500) rfl rfl
          have b_129 := g_b hG (a := 77) (i := 6) (lo := 0) (hi := 500) rfl rfl
          have z_130 := RS_b q1 (a := a) (by omega)
          refine E_156 hX (dp1 hd (by decide)) hG (by omega) (by omega) (by omega) (by omega) q5 q6  (fun M137 hG132 F131 p_133 p_134 p_135 p_136 => ?_)
          have F138 := FR.c F0 F131 tg_79
          have b_139 := g_b hG132 (a := 77) (i := 7) (lo := 0) (hi := 500) rfl rfl
          have c_140 : M137.2.1 77 6 = (M.2.1 77 6) := (F_n F131 (show ¬ (77 = 77 ∧ 7 ≤ 6 ∧ 6 ≤ 10) by decide) rfl)
          have t_141 : (M137.2.1 77 6).toInt = (M.2.1 77 6).toInt := congrArg Int32.toInt c_140
          have b_142 := g_b hG132 (a := 77) (i := 8) (lo := 0) (hi := 5) rfl rfl
          have b_143 := g_b hG132 (a := 77) (i := 10) (lo := 0) (hi := 500) rfl rfl
          have z_144 := RS_s p_136.2 (a := a) (by omega)
          refine to_an (pc := 54) rw_172_54 rfl (to_c (pc := 55) rw_172_55 (x := (10 : Int32)) rfl rfl (to_c (pc := 57) rw_172_57 (x := (60 : Int32)) rfl rfl (s_v (pc := 59) rw_172_59 (dp0 hd (by decide)) (ls0 := [.ref 77, .int (10 : Int32), .int (60 : Int32)]) rfl (Nat.le_of_ble_eq_true rfl) (Nat.le_of_ble_eq_true rfl) rfl (to_rc rfl rfl rfl (g_o hG132 rfl)) rfl ?_)))
          have k_145 : (10 : Int32).toInt = 10 := rfl
          have k_146 : (60 : Int32).toInt = 60 := rfl
          refine E_162 hX (dp1 hd (by decide)) hG132 p_136.1 (by omega) (by omega) (l := (10 : Int32)) (m := (60 : Int32)) (t := t) (nn := nn) (a := (x_ns t nn a)) (fun r147 M154 hG149 F148 p_150 p_151 p_152 p_153 => ?_)
          have F155 := FR.c F138 F148 tg_80
          rcases (show r147.toInt = 0 ∨ r147.toInt = 1 by omega) with h156 | h156
          · skip
            have p_157 := p_153 (by omega)
            clear p_152 p_153
            have z_158 := x_val_b (t := t) (nn := nn) (a := (x_ns t nn a))
            refine b_ine_f (pc := 62) rw_172_62 (A := r147.toInt) rfl (by omega) (to_c (pc := 65) rw_172_65 (x := (0 : Int32)) rfl rfl (s_r1 (pc := 66) rw_172_66 (A := 0) rfl (by decide) ?_))
            have k_159 : (0 : Int32).toInt = 0 := rfl
            have j_160 := (RS_f (tg_40 F148) p_136.1)
            exact h (0 : Int32) M154 hG149 F155 (by decide) (by decide) j_160 (fun _ => by first | exact x_line_n (by omega) | exact x_line_t (by omega) (by omega) | exact (if g9 : x_kind t nn a = 1 then x_line_t (by omega) (by omega) else x_line_n (by omega)) | exact (x_line_h (by omega) (by omega) (by omega)).trans (x_holes_n (by omega))) (fun z => by exfalso; omega)
          · skip
            have p_161 := p_152 (by omega)
            clear p_152 p_153
            have c_162 : M154.2.1 77 9 = (M137.2.1 77 9) := (F_n F148 (show ¬ (77 = 77 ∧ (9 = 4 ∨ 9 = 5)) by decide) rfl)
            have z_163 := x_val_b (t := t) (nn := nn) (a := (x_ns t nn a)) (by omega)
            refine b_ine_t (pc := 62) rw_172_62 (A := r147.toInt) rfl (by omega) (to_an (pc := 67) rw_172_67 rfl (to_an (pc := 68) rw_172_68 rfl (tt_gI (pc := 69) rw_172_69 (g_o hG149 rfl) (v := (M137.2.1 77 9)) c_162 ?_)))
            have j_164 := (PLr_f (tg_48 F148) (F_nl F148 (show ¬ (77 = 77 ∧ (25 = 4 ∨ 25 = 5)) by decide) rfl) (PLr_f (tg_39 F131) (F_nl F131 (show ¬ (77 = 77 ∧ 7 ≤ 25 ∧ 25 ≤ 10) by decide) rfl) q7))
            refine s_pI (pc := 72) rw_172_72 hG149 rfl (fun M166 W165 => ?_)
            have hG167 := g_w hG149 W165 (A := (M137.2.1 77 9).toInt) rfl (lo := 10) (hi := 60) rfl rfl (by omega) (by decide)
            have F168 := FR.w F155 W165 (show 77 = 77 ∧ (14 = 4 ∨ 14 = 5 ∨ 7 ≤ 14 ∧ 14 ≤ 10 ∨ 14 ≤ 14 ∧ 14 ≤ 16 ∨ 14 = 25) ∨ 80 ≤ 77 ∧ 77 ≤ 84 ∧ 8 ≤ 14 ∨ 85 ≤ 77 ∧ 77 ≤ 87 ∧ 12 ≤ 14 by decide)
            have z_169 := PLr_h (w := x_val t nn (x_ns t nn a)) j_164 W165 (by omega) (by omega)
            refine to_an (pc := 75) rw_172_75 rfl (s_v (pc := 76) rw_172_76 (dp0 hd (by decide)) (ls0 := [.ref 77]) rfl (Nat.le_of_ble_eq_true rfl) (Nat.le_of_ble_eq_true rfl) rfl (to_rc rfl rfl rfl (g_o hG167 rfl)) rfl ?_)
            have c_170 : M166.2.1 77 7 = (M137.2.1 77 7) := (W_n W165 (by decide) (F_n F148 (show ¬ (77 = 77 ∧ (7 = 4 ∨ 7 = 5)) by decide) rfl))
            have t_171 : (M166.2.1 77 7).toInt = (M137.2.1 77 7).toInt := congrArg Int32.toInt c_170
            have c_172 : M166.2.1 77 6 = (M.2.1 77 6) := (W_n W165 (by decide) (F_n F148 (show ¬ (77 = 77 ∧ (6 = 4 ∨ 6 = 5)) by decide) c_140))
            have t_173 : (M166.2.1 77 6).toInt = (M.2.1 77 6).toInt := congrArg Int32.toInt c_172
            have c_174 : M166.2.1 77 10 = (M137.2.1 77 10) := (W_n W165 (by decide) (F_n F148 (show ¬ (77 = 77 ∧ (10 = 4 ∨ 10 = 5)) by decide) rfl))
            have t_175 : (M166.2.1 77 10).toInt = (M137.2.1 77 10).toInt := congrArg Int32.toInt c_174
            have j_176 := (RS_f (fun a i z => W_n W165 (tg_85 a i z) rfl) (RS_f (tg_40 F148) p_136.1))
            have z_177 := RS_b j_176 (a := (x_ns t nn a)) (by omega)
            have j_178 := (TR_f (fun a i z => W_n W165 (tg_86 a i z) rfl) (TR_f (tg_41 F148) (TR_f (tg_42 F131) q5)))
            have j_179 := (W9_f (fun a i z => W_n W165 (tg_87 a i z) rfl) (W9_f (tg_43 F148) (W9_f (tg_44 F131) q6)))
            refine E_156 hX (dp1 hd (by decide)) hG167 (by omega) (by omega) (by omega) (by omega) j_178 j_179  (fun M186 hG181 F180 p_182 p_183 p_184 p_185 => ?_)
            have F187 := FR.c F168 F180 tg_79
            have b_188 := g_b hG181 (a := 77) (i := 7) (lo := 0) (hi := 500) rfl rfl
            have c_189 : M186.2.1 77 6 = (M.2.1 77 6) := (F_n F180 (show ¬ (77 = 77 ∧ 7 ≤ 6 ∧ 6 ≤ 10) by decide) c_172)
            have t_190 : (M186.2.1 77 6).toInt = (M.2.1 77 6).toInt := congrArg Int32.toInt c_189
            have b_191 := g_b hG181 (a := 77) (i := 8) (lo := 0) (hi := 5) rfl rfl
            have b_192 := g_b hG181 (a := 77) (i := 10) (lo := 0) (hi := 500) rfl rfl
            have z_193 := RS_s p_185.2 (a := (x_ns t nn a)) (by omega)
            refine to_go (pc := 79) rw_172_79 (to_an (pc := 109) rw_172_109 rfl (to_c (pc := 110) rw_172_110 (x := (59 : Int32)) rfl rfl (s_v (pc := 112) rw_172_112 (dp0 hd (by decide)) (ls0 := [.ref 77, .int (59 : Int32)]) rfl (Nat.le_of_ble_eq_true rfl) (Nat.le_of_ble_eq_true rfl) rfl (to_rc rfl rfl rfl (g_o hG181 rfl)) rfl ?_)))
            have k_194 : (59 : Int32).toInt = 59 := rfl
            have j_195 := (TR_f (tg_42 F180) j_178)
            have j_196 := (W9_f (tg_44 F180) j_179)
            refine E_160 hX (dp1 hd (by decide)) hG181 p_185.1 (by omega) (by omega) (by omega) j_195 j_196 (by omega) (c := (59 : Int32)) (t := t) (nn := nn) (a := (x_ns t nn (x_ns t nn a))) (fun r197 M205 hG199 F198 p_200 p_201 p_202 p_203 p_204 => ?_)
            have F206 := FR.c F187 F198 tg_77
            have b_207 := g_b hG199 (a := 77) (i := 10) (lo := 0) (hi := 500) rfl rfl
            rcases (show r197.toInt = 0 ∨ r197.toInt = 1 by omega) with h208 | h208
            · skip
              have p_209 := p_204 (by omega)
              clear p_203 p_204
              refine s_r1 (pc := 115) rw_172_115 (A := r197.toInt) rfl (by omega) ?_
              have z_210 : x_line t nn L sg a (x_kk t nn fu L) = x_kk t nn fu L (x_ns t nn (x_ns t nn a)) (x_val t nn (x_ns t nn a), sg.2) := (x_line_h (by omega) (by omega) (by omega)).trans (x_holes_y (by omega))
              exact h r197 M205 hG199 F206 (by omega) (by omega) p_202 (fun _ => LOr_hn z_210 (by omega)) (fun z => by exfalso; omega)
            · skip
              have p_211 := p_203 (by omega)
              clear p_203 p_204
              refine s_r1 (pc := 115) rw_172_115 (A := r197.toInt) rfl (by omega) ?_
              have z_212 : x_line t nn L sg a (x_kk t nn fu L) = x_kk t nn fu L (x_ns t nn (x_ns t nn a)) (x_val t nn (x_ns t nn a), sg.2) := (x_line_h (by omega) (by omega) (by omega)).trans (x_holes_y (by omega))
              have j_213 := (PLr_f (tg_68 F198) (F_nl F198 (show ¬ (77 = 77 ∧ (25 = 4 ∨ 25 = 5 ∨ 7 ≤ 25 ∧ 25 ≤ 10)) by decide) rfl) (PLr_f (tg_39 F180) (F_nl F180 (show ¬ (77 = 77 ∧ 7 ≤ 25 ∧ 25 ≤ 10) by decide) rfl) z_169))
              have j_214 := (CWr_f (fun k hk9 => F_nl F198 (show ¬ (87 = 77 ∧ ((12 + k) = 4 ∨ (12 + k) = 5 ∨ 7 ≤ (12 + k) ∧ (12 + k) ≤ 10)) by omega) rfl) (CWr_f (fun k hk9 => F_nl F180 (show ¬ (87 = 77 ∧ 7 ≤ (12 + k) ∧ (12 + k) ≤ 10) by omega) rfl) (CWr_f (fun k hk9 => W_j W165 rfl) (CWr_f (fun k hk9 => F_nl F148 (show ¬ (87 = 77 ∧ ((12 + k) = 4 ∨ (12 + k) = 5)) by omega) rfl) (CWr_f (fun k hk9 => F_nl F131 (show ¬ (87 = 77 ∧ 7 ≤ (12 + k) ∧ (12 + k) ≤ 10) by omega) rfl) q8)))))
              exact h r197 M205 hG199 F206 (by omega) (by omega) p_202 (fun z => by exfalso; omega) (fun _ => LOr_h z_212 (by omega) (by omega) (by omega) ⟨j_213, j_214⟩ rfl)
        · refine to_an (pc := 27) rw_172_27 rfl (to_c (pc := 28) rw_172_28 (x := (1 : Int32)) rfl rfl (s_v (pc := 29) rw_172_29 (dp0 hd (by decide)) (ls0 := [.ref 77, .int (1 : Int32)]) rfl (Nat.le_of_ble_eq_true rfl) (Nat.le_of_ble_eq_true rfl) rfl (to_rc rfl rfl rfl (g_o hG rfl)) rfl (to_an (pc := 0) rw_152_0 rfl (to_in (pc := 1) rw_152_1 rfl (s_pI (pc := 2) rw_152_2 hG rfl (fun M216 W215 => ?_))))))
          have hG217 := g_wf hG W215 rfl rfl (by decide)
          have F218 := FR.w F0 W215 (show 77 = 77 ∧ (4 = 4 ∨ 4 = 5 ∨ 7 ≤ 4 ∧ 4 ≤ 10 ∨ 14 ≤ 4 ∧ 4 ≤ 16 ∨ 4 = 25) ∨ 80 ≤ 77 ∧ 77 ≤ 84 ∧ 8 ≤ 4 ∨ 85 ≤ 77 ∧ 77 ≤ 87 ∧ 12 ≤ 4 by decide)
          refine to_an (pc := 5) rw_152_5 rfl (to_an (pc := 6) rw_152_6 rfl ?_)
          have c_219 : M216.2.1 77 10 = (M.2.1 77 10) := (W_n W215 (by decide) rfl)
          refine tt_gI (pc := 7) rw_152_7 (g_o hG217 rfl) (v := (M.2.1 77 10)) c_219 (s_pI (pc := 10) rw_152_10 hG217 rfl (fun M221 W220 => ?_))
          have hG222 := g_wf hG217 W220 rfl rfl (by decide)
          have F223 := FR.w F218 W220 (show 77 = 77 ∧ (5 = 4 ∨ 5 = 5 ∨ 7 ≤ 5 ∧ 5 ≤ 10 ∨ 14 ≤ 5 ∧ 5 ≤ 16 ∨ 5 = 25) ∨ 80 ≤ 77 ∧ 77 ≤ 84 ∧ 8 ≤ 5 ∨ 85 ≤ 77 ∧ 77 ≤ 87 ∧ 12 ≤ 5 by decide)
          refine to_c (pc := 13) rw_152_13 (x := (0 : Int32)) rfl rfl (s_r1 (pc := 14) rw_152_14 (A := 0) rfl (by decide) (s_r1 (pc := 32) rw_172_32 (A := 0) rfl (by decide) ?_))
          have k_224 : (0 : Int32).toInt = 0 := rfl
          have j_225 := (RS_f (fun a i z => W_n W220 (tg_37 a i z) rfl) (RS_f (fun a i z => W_n W215 (tg_38 a i z) rfl) q1))
          exact h (0 : Int32) M221 hG222 F223 (by decide) (by decide) j_225 (fun _ => by first | exact x_line_n (by omega) | exact x_line_t (by omega) (by omega) | exact (if g9 : x_kind t nn a = 1 then x_line_t (by omega) (by omega) else x_line_n (by omega)) | exact (x_line_h (by omega) (by omega) (by omega)).trans (x_holes_n (by omega))) (fun z => by exfalso; omega)
set_option maxRecDepth 4000 in
set_option maxHeartbeats 0 in
theorem U_165_0 {X : mm_X} {d : Nat} {M : mm_M} {Q : Option Value → mm_M → Prop} (hX : g_X X) (hd : 0 ≤ d) (h : ∀ (M1 : mm_M), g_G M1 → FR md_ke M M1 → ((M1.2.1 77 28).toInt = 0) → ((M1.2.1 77 29).toInt = 0) → ((M1.2.1 77 41).toInt = 0) → (∀ s9 : x_S, PLr2 M s9 → PLk2 M1 s9) → Q (none) M1) : ∀ nn9 : Nat, (∀ (N : mm_M) (x1 : Int32), g_G N → FR md_ke M N → (0 ≤ x1.toInt) → (x1.toInt ≤ 6) → (KP N M 8 12) → (KL N M 12) → (N.2.1 77 11 = M.2.1 77 14) → (N.2.1 77 12 = M.2.1 77 15) → (N.2.1 77 13 = M.2.1 77 16) → ((N.2.1 77 28).toInt = 0) → ((N.2.1 77 29).toInt = 0) → ((N.2.1 77 41).toInt = 0) → (True) → 6 - x1.toInt < (nn9 : Int) → mm_T X d 164 199 [.ref 77, .int x1] [] N Q) := by
  intro nn9
  induction nn9 with
  | zero =>
    intro N x1 hG F0 g1 g2 g3 g4 g5 g6 g7 g8 g9 g10 g11 hm
    have b_1 := g_b hG (a := 77) (i := 28) (lo := 0) (hi := 30) rfl rfl
    have b_2 := g_b hG (a := 77) (i := 29) (lo := 0) (hi := 150) rfl rfl
    exfalso; omega
  | succ nn9 ih =>
    intro N x1 hG F0 g1 g2 g3 g4 g5 g6 g7 g8 g9 g10 g11 hm
    have b_3 := g_b hG (a := 77) (i := 28) (lo := 0) (hi := 30) rfl rfl
    have b_4 := g_b hG (a := 77) (i := 29) (lo := 0) (hi := 150) rfl rfl
    refine to_in (pc := 199) rw_165_199 rfl (to_c (pc := 200) rw_165_200 (x := (6 : Int32)) rfl rfl (b_cge (pc := 202) rw_165_202 (A := x1.toInt) (B := 6) rfl rfl (fun h5 => ?_) (fun h5 => ?_)))
    · refine to_rv (pc := 218) rw_165_218 ?_
      exact h N hG F0 (by omega) (by omega) (by omega) (fun s9 h9 => ⟨KP_e g3 g5 g6 g7 h9.1, CWk_e g4 h9.1.1 h9.2⟩)
    · refine to_an (pc := 205) rw_165_205 rfl (s_gR (pc := 206) rw_165_206 hG rfl (v := 100) rfl (to_in (pc := 209) rw_165_209 rfl (to_c (pc := 210) rw_165_210 (x := (0 : Int32)) rfl rfl (s_ias (pc := 211) rw_165_211 hG rfl (n := 6) rfl (A := x1.toInt) rfl (by omega) (by omega) (fun M7 W6 => ?_)))))
      have hG8 := g_w hG W6 (A := 0) rfl (lo := 0) (hi := 30) rfl rfl (by omega) (by decide)
      have F9 := FR.w F0 W6 (show 100 = 77 ∧ (11 ≤ (x1.toInt).toNat ∧ (x1.toInt).toNat ≤ 13 ∨ (x1.toInt).toNat = 28 ∨ (x1.toInt).toNat = 29 ∨ (x1.toInt).toNat = 41 ∨ (x1.toInt).toNat = 57 ∨ (x1.toInt).toNat = 58) ∨ 80 ≤ 100 ∧ 100 ≤ 87 ∨ 100 = 100 by omega)
      refine s_inc (pc := 212) rw_165_212 (ls2 := fun v => [.ref 77, .int v]) rfl rfl (fun _ => rfl) (A := x1.toInt) (B := 1) rfl rfl (by omega) (fun v10 e11 => to_go (pc := 215) rw_165_215 ?_)
      have c_12 : M7.2.1 77 11 = (N.2.1 77 11) := (W_n W6 (fun z => absurd z.1 (by decide)) rfl)
      have c_13 : M7.2.1 77 12 = (N.2.1 77 12) := (W_n W6 (fun z => absurd z.1 (by decide)) rfl)
      have c_14 : M7.2.1 77 13 = (N.2.1 77 13) := (W_n W6 (fun z => absurd z.1 (by decide)) rfl)
      have c_15 : M7.2.1 77 28 = (N.2.1 77 28) := (W_n W6 (fun z => absurd z.1 (by decide)) rfl)
      have t_16 : (M7.2.1 77 28).toInt = (N.2.1 77 28).toInt := congrArg Int32.toInt c_15
      have c_17 : M7.2.1 77 29 = (N.2.1 77 29) := (W_n W6 (fun z => absurd z.1 (by decide)) rfl)
      have t_18 : (M7.2.1 77 29).toInt = (N.2.1 77 29).toInt := congrArg Int32.toInt c_17
      have c_19 : M7.2.1 77 41 = (N.2.1 77 41) := (W_n W6 (fun z => absurd z.1 (by decide)) rfl)
      have t_20 : (M7.2.1 77 41).toInt = (N.2.1 77 41).toInt := congrArg Int32.toInt c_19
      exact ih M7 v10 hG8 F9 (by omega) (by omega) (KP_f (fun a i z => (W_n W6 (by /-r100-/ omega) rfl)) g3) (KL_f (fun i => (W_j W6 rfl)) g4) (c_12.trans g5) (c_13.trans g6) (c_14.trans g7) (by omega) (by omega) (by omega) trivial (by omega)
set_option maxRecDepth 4000 in
set_option maxHeartbeats 0 in
theorem U_165_1 {X : mm_X} {d : Nat} {M : mm_M} {Q : Option Value → mm_M → Prop} (hX : g_X X) (hd : 0 ≤ d) (h : ∀ (M1 : mm_M), g_G M1 → FR md_ke M M1 → ((M1.2.1 77 28).toInt = 0) → ((M1.2.1 77 29).toInt = 0) → ((M1.2.1 77 41).toInt = 0) → (∀ s9 : x_S, PLr2 M s9 → PLk2 M1 s9) → Q (none) M1) : ∀ nn9 : Nat, (∀ (N : mm_M) (x1 : Int32), g_G N → FR md_ke M N → (0 ≤ x1.toInt) → (x1.toInt ≤ 12) → (KP N M 8 (x1.toInt).toNat) → (KL N M (x1.toInt).toNat) → (N.2.1 77 11 = M.2.1 77 14) → (N.2.1 77 12 = M.2.1 77 15) → (N.2.1 77 13 = M.2.1 77 16) → 12 - x1.toInt < (nn9 : Int) → mm_T X d 164 115 [.ref 77, .int x1] [] N Q) := by
  intro nn9
  induction nn9 with
  | zero =>
    intro N x1 hG F0 g1 g2 g3 g4 g5 g6 g7 hm
    exfalso; omega
  | succ nn9 ih =>
    intro N x1 hG F0 g1 g2 g3 g4 g5 g6 g7 hm
    refine to_in (pc := 115) rw_165_115 rfl (to_c (pc := 116) rw_165_116 (x := (12 : Int32)) rfl rfl (b_cge (pc := 118) rw_165_118 (A := x1.toInt) (B := 12) rfl rfl (fun h21 => ?_) (fun h21 => ?_)))
    · refine to_an (pc := 172) rw_165_172 rfl (to_c (pc := 173) rw_165_173 (x := (0 : Int32)) rfl rfl (s_pI (pc := 174) rw_165_174 hG rfl (fun M23 W22 => ?_)))
      have hG24 := g_w hG W22 (A := 0) rfl (lo := 0) (hi := 30) rfl rfl (by omega) (by decide)
      have F25 := FR.w F0 W22 (show 77 = 77 ∧ (11 ≤ 28 ∧ 28 ≤ 13 ∨ 28 = 28 ∨ 28 = 29 ∨ 28 = 41 ∨ 28 = 57 ∨ 28 = 58) ∨ 80 ≤ 77 ∧ 77 ≤ 87 ∨ 77 = 100 by decide)
      refine to_an (pc := 177) rw_165_177 rfl (to_c (pc := 178) rw_165_178 (x := (0 : Int32)) rfl rfl (s_pI (pc := 179) rw_165_179 hG24 rfl (fun M27 W26 => ?_)))
      have hG28 := g_w hG24 W26 (A := 0) rfl (lo := 0) (hi := 150) rfl rfl (by omega) (by decide)
      have F29 := FR.w F25 W26 (show 77 = 77 ∧ (11 ≤ 29 ∧ 29 ≤ 13 ∨ 29 = 28 ∨ 29 = 29 ∨ 29 = 41 ∨ 29 = 57 ∨ 29 = 58) ∨ 80 ≤ 77 ∧ 77 ≤ 87 ∨ 77 = 100 by decide)
      refine to_an (pc := 182) rw_165_182 rfl (to_c (pc := 183) rw_165_183 (x := (0 : Int32)) rfl rfl (s_pI (pc := 184) rw_165_184 hG28 rfl (fun M31 W30 => ?_)))
      have hG32 := g_w hG28 W30 (A := 0) rfl (lo := 0) (hi := 40) rfl rfl (by omega) (by decide)
      have F33 := FR.w F29 W30 (show 77 = 77 ∧ (11 ≤ 58 ∧ 58 ≤ 13 ∨ 58 = 28 ∨ 58 = 29 ∨ 58 = 41 ∨ 58 = 57 ∨ 58 = 58) ∨ 80 ≤ 77 ∧ 77 ≤ 87 ∨ 77 = 100 by decide)
      refine to_an (pc := 187) rw_165_187 rfl (to_c (pc := 188) rw_165_188 (x := (0 : Int32)) rfl rfl (s_pZ (pc := 189) rw_165_189 hG32 rfl (A := 0) rfl (by omega) (fun M35 W34 => ?_)))
      have hG36 := g_w hG32 W34 (A := 0) rfl (lo := 0) (hi := 1) rfl rfl (by omega) (by decide)
      have F37 := FR.w F33 W34 (show 77 = 77 ∧ (11 ≤ 57 ∧ 57 ≤ 13 ∨ 57 = 28 ∨ 57 = 29 ∨ 57 = 41 ∨ 57 = 57 ∨ 57 = 58) ∨ 80 ≤ 77 ∧ 77 ≤ 87 ∨ 77 = 100 by decide)
      refine to_an (pc := 192) rw_165_192 rfl (to_c (pc := 193) rw_165_193 (x := (0 : Int32)) rfl rfl (s_pI (pc := 194) rw_165_194 hG36 rfl (fun M39 W38 => ?_)))
      have hG40 := g_wf hG36 W38 rfl rfl (by decide)
      have F41 := FR.w F37 W38 (show 77 = 77 ∧ (11 ≤ 41 ∧ 41 ≤ 13 ∨ 41 = 28 ∨ 41 = 29 ∨ 41 = 41 ∨ 41 = 57 ∨ 41 = 58) ∨ 80 ≤ 77 ∧ 77 ≤ 87 ∨ 77 = 100 by decide)
      refine to_c (pc := 197) rw_165_197 (x := (0 : Int32)) rfl rfl (to_isn (pc := 198) rw_165_198 (ls2 := [.ref 77, .int (0 : Int32)]) rfl rfl ?_)
      have k_42 : (0 : Int32).toInt = 0 := rfl
      have c_43 : M39.2.1 77 11 = (N.2.1 77 11) := (W_n W38 (by decide) (W_n W34 (by decide) (W_n W30 (by decide) (W_n W26 (by decide) (W_n W22 (by decide) rfl)))))
      have c_44 : M39.2.1 77 12 = (N.2.1 77 12) := (W_n W38 (by decide) (W_n W34 (by decide) (W_n W30 (by decide) (W_n W26 (by decide) (W_n W22 (by decide) rfl)))))
      have c_45 : M39.2.1 77 13 = (N.2.1 77 13) := (W_n W38 (by decide) (W_n W34 (by decide) (W_n W30 (by decide) (W_n W26 (by decide) (W_n W22 (by decide) rfl)))))
      have c_46 : M39.2.1 77 28 = (0 : Int32) := (W_n W38 (by decide) (W_n W34 (by decide) (W_n W30 (by decide) (W_n W26 (by decide) (W_e W22)))))
      have t_47 : (M39.2.1 77 28).toInt = (0 : Int32).toInt := congrArg Int32.toInt c_46
      have c_48 : M39.2.1 77 29 = (0 : Int32) := (W_n W38 (by decide) (W_n W34 (by decide) (W_n W30 (by decide) (W_e W26))))
      have t_49 : (M39.2.1 77 29).toInt = (0 : Int32).toInt := congrArg Int32.toInt c_48
      have c_50 : M39.2.1 77 41 = (0 : Int32) := (W_e W38)
      have t_51 : (M39.2.1 77 41).toInt = (0 : Int32).toInt := congrArg Int32.toInt c_50
      exact (U_165_0 hX hd  h ((6 - (0 : Int32).toInt).toNat + 1)) M39 (0 : Int32) hG40 F41 (by omega) (by omega) (KP_f (fun a i z => (W_n W38 (by /-r77,41-/ omega) (W_n W34 (by /-r77,57-/ omega) (W_n W30 (by /-r77,58-/ omega) (W_n W26 (by /-r77,29-/ omega) (W_n W22 (by /-r77,28-/ omega) rfl)))))) ((show (x1.toInt).toNat = 12 by omega) ▸ g3)) (KL_f (fun i => (W_j W38 (W_j W34 (W_j W30 (W_j W26 (W_j W22 rfl)))))) ((show (x1.toInt).toNat = 12 by omega) ▸ g4)) (c_43.trans g5) (c_44.trans g6) (c_45.trans g7) (by omega) (by omega) (by omega) trivial (by omega)
    · refine to_an (pc := 121) rw_165_121 rfl (s_gR (pc := 122) rw_165_122 hG rfl (v := 85) rfl (to_in (pc := 125) rw_165_125 rfl (to_an (pc := 126) rw_165_126 rfl (s_gR (pc := 127) rw_165_127 hG rfl (v := 85) rfl (to_c (pc := 130) rw_165_130 (x := (12 : Int32)) rfl rfl (to_in (pc := 132) rw_165_132 rfl (s_add (pc := 133) rw_165_133 (A := 12) (B := x1.toInt) rfl rfl (by omega) (fun v52 e53 => s_ial (pc := 134) rw_165_134 hG rfl (n := 24) rfl rfl (A := v52.toInt) rfl (by omega) (by omega) (lo := -2147483648) (hi := 2147483647) rfl rfl (fun v54 w_55 _ _ => s_ias (pc := 135) rw_165_135 hG rfl (n := 24) rfl (A := x1.toInt) rfl (by omega) (by omega) (fun M57 W56 => ?_))))))))))
      have hG58 := g_wf hG W56 rfl rfl (by decide)
      have F59 := FR.w F0 W56 (show 85 = 77 ∧ (11 ≤ (x1.toInt).toNat ∧ (x1.toInt).toNat ≤ 13 ∨ (x1.toInt).toNat = 28 ∨ (x1.toInt).toNat = 29 ∨ (x1.toInt).toNat = 41 ∨ (x1.toInt).toNat = 57 ∨ (x1.toInt).toNat = 58) ∨ 80 ≤ 85 ∧ 85 ≤ 87 ∨ 85 = 100 by omega)
      refine to_an (pc := 136) rw_165_136 rfl (s_gR (pc := 137) rw_165_137 hG58 rfl (v := 86) rfl (to_in (pc := 140) rw_165_140 rfl (to_an (pc := 141) rw_165_141 rfl (s_gR (pc := 142) rw_165_142 hG58 rfl (v := 86) rfl (to_c (pc := 145) rw_165_145 (x := (12 : Int32)) rfl rfl (to_in (pc := 147) rw_165_147 rfl (s_add (pc := 148) rw_165_148 (A := 12) (B := x1.toInt) rfl rfl (by omega) (fun v60 e61 => s_ial (pc := 149) rw_165_149 hG58 rfl (n := 24) rfl rfl (A := v60.toInt) rfl (by omega) (by omega) (lo := 0) (hi := 7) rfl rfl (fun v62 w_63 _ _ => s_ias (pc := 150) rw_165_150 hG58 rfl (n := 24) rfl (A := x1.toInt) rfl (by omega) (by omega) (fun M65 W64 => ?_))))))))))
      have hG66 := g_w hG58 W64 (A := v62.toInt) rfl (lo := 0) (hi := 7) rfl rfl (by omega) (by decide)
      have F67 := FR.w F59 W64 (show 86 = 77 ∧ (11 ≤ (x1.toInt).toNat ∧ (x1.toInt).toNat ≤ 13 ∨ (x1.toInt).toNat = 28 ∨ (x1.toInt).toNat = 29 ∨ (x1.toInt).toNat = 41 ∨ (x1.toInt).toNat = 57 ∨ (x1.toInt).toNat = 58) ∨ 80 ≤ 86 ∧ 86 ≤ 87 ∨ 86 = 100 by omega)
      refine to_an (pc := 151) rw_165_151 rfl (s_gR (pc := 152) rw_165_152 hG66 rfl (v := 87) rfl (to_in (pc := 155) rw_165_155 rfl (to_an (pc := 156) rw_165_156 rfl (s_gR (pc := 157) rw_165_157 hG66 rfl (v := 87) rfl (to_c (pc := 160) rw_165_160 (x := (12 : Int32)) rfl rfl (to_in (pc := 162) rw_165_162 rfl (s_add (pc := 163) rw_165_163 (A := 12) (B := x1.toInt) rfl rfl (by omega) (fun v68 e69 => s_lalE (pc := 164) rw_165_164 hG66 rfl (n := 24) rfl (A := v68.toInt) rfl (by omega) (by omega) (fun l70 w_71 => s_las (pc := 165) rw_165_165 hG66 rfl (n := 24) rfl (A := x1.toInt) rfl (by omega) (by omega) (fun M73 W72 => ?_))))))))))
      have hG74 := g_wl hG66 W72
      have F75 := FR.wl F67 W72 (show 87 = 77 ∧ (11 ≤ (x1.toInt).toNat ∧ (x1.toInt).toNat ≤ 13 ∨ (x1.toInt).toNat = 28 ∨ (x1.toInt).toNat = 29 ∨ (x1.toInt).toNat = 41 ∨ (x1.toInt).toNat = 57 ∨ (x1.toInt).toNat = 58) ∨ 80 ≤ 87 ∧ 87 ≤ 87 ∨ 87 = 100 by omega)
      refine s_inc (pc := 166) rw_165_166 (ls2 := fun v => [.ref 77, .int v]) rfl rfl (fun _ => rfl) (A := x1.toInt) (B := 1) rfl rfl (by omega) (fun v76 e77 => to_go (pc := 169) rw_165_169 ?_)
      have c_78 : M73.2.1 77 11 = (N.2.1 77 11) := (W_l W72 (W_n W64 (fun z => absurd z.1 (by decide)) (W_n W56 (fun z => absurd z.1 (by decide)) rfl)))
      have c_79 : M73.2.1 77 12 = (N.2.1 77 12) := (W_l W72 (W_n W64 (fun z => absurd z.1 (by decide)) (W_n W56 (fun z => absurd z.1 (by decide)) rfl)))
      have c_80 : M73.2.1 77 13 = (N.2.1 77 13) := (W_l W72 (W_n W64 (fun z => absurd z.1 (by decide)) (W_n W56 (fun z => absurd z.1 (by decide)) rfl)))
      exact ih M73 v76 hG74 F75 (by omega) (by omega) (KP_2 g3 (by omega) rfl (by omega) (show N.2.1 85 (12 + (x1.toInt).toNat) = v54 from (by rw [show 12 + (x1.toInt).toNat = (v52.toInt).toNat by omega]; exact w_55)) W56 (show M57.2.1 86 (12 + (x1.toInt).toNat) = v62 from (by rw [show 12 + (x1.toInt).toNat = (v60.toInt).toNat by omega]; exact w_63)) W64 W72) (KL_2 g4 (by omega) rfl (by omega) W56 W64 (show M65.2.2.1 87 (12 + (x1.toInt).toNat) = l70 from (by rw [show 12 + (x1.toInt).toNat = (v68.toInt).toNat by omega]; exact w_71)) W72) (c_78.trans g5) (c_79.trans g6) (c_80.trans g7) (by omega)
set_option maxRecDepth 4000 in
set_option maxHeartbeats 0 in
theorem U_165_2 {X : mm_X} {d : Nat} {M : mm_M} {Q : Option Value → mm_M → Prop} (hX : g_X X) (hd : 0 ≤ d) (h : ∀ (M1 : mm_M), g_G M1 → FR md_ke M M1 → ((M1.2.1 77 28).toInt = 0) → ((M1.2.1 77 29).toInt = 0) → ((M1.2.1 77 41).toInt = 0) → (∀ s9 : x_S, PLr2 M s9 → PLk2 M1 s9) → Q (none) M1) : ∀ nn9 : Nat, (∀ (N : mm_M) (x1 : Int32), g_G N → FR md_ke M N → (0 ≤ x1.toInt) → (x1.toInt ≤ 8) → (KP N M (x1.toInt).toNat 0) → (KL N M 0) → (N.2.1 77 11 = M.2.1 77 14) → (N.2.1 77 12 = M.2.1 77 15) → (N.2.1 77 13 = M.2.1 77 16) → 8 - x1.toInt < (nn9 : Int) → mm_T X d 164 26 [.ref 77, .int x1] [] N Q) := by
  intro nn9
  induction nn9 with
  | zero =>
    intro N x1 hG F0 g1 g2 g3 g4 g5 g6 g7 hm
    exfalso; omega
  | succ nn9 ih =>
    intro N x1 hG F0 g1 g2 g3 g4 g5 g6 g7 hm
    refine to_in (pc := 26) rw_165_26 rfl (to_c (pc := 27) rw_165_27 (x := (8 : Int32)) rfl rfl (b_cge (pc := 29) rw_165_29 (A := x1.toInt) (B := 8) rfl rfl (fun h81 => ?_) (fun h81 => ?_)))
    · refine to_c (pc := 113) rw_165_113 (x := (0 : Int32)) rfl rfl (to_isn (pc := 114) rw_165_114 (ls2 := [.ref 77, .int (0 : Int32)]) rfl rfl ?_)
      have k_82 : (0 : Int32).toInt = 0 := rfl
      exact (U_165_1 hX hd  h ((12 - (0 : Int32).toInt).toNat + 1)) N (0 : Int32) hG F0 (by omega) (by omega) ((show (x1.toInt).toNat = 8 by omega) ▸ g3) g4 g5 g6 g7 (by omega)
    · refine to_an (pc := 32) rw_165_32 rfl (s_gR (pc := 33) rw_165_33 hG rfl (v := 80) rfl (to_in (pc := 36) rw_165_36 rfl (to_an (pc := 37) rw_165_37 rfl (s_gR (pc := 38) rw_165_38 hG rfl (v := 80) rfl (to_c (pc := 41) rw_165_41 (x := (8 : Int32)) rfl rfl (to_in (pc := 43) rw_165_43 rfl (s_add (pc := 44) rw_165_44 (A := 8) (B := x1.toInt) rfl rfl (by omega) (fun v83 e84 => s_ial (pc := 45) rw_165_45 hG rfl (n := 16) rfl rfl (A := v83.toInt) rfl (by omega) (by omega) (lo := -2147483648) (hi := 2147483647) rfl rfl (fun v85 w_86 _ _ => s_ias (pc := 46) rw_165_46 hG rfl (n := 16) rfl (A := x1.toInt) rfl (by omega) (by omega) (fun M88 W87 => ?_))))))))))
      have hG89 := g_wf hG W87 rfl rfl (by decide)
      have F90 := FR.w F0 W87 (show 80 = 77 ∧ (11 ≤ (x1.toInt).toNat ∧ (x1.toInt).toNat ≤ 13 ∨ (x1.toInt).toNat = 28 ∨ (x1.toInt).toNat = 29 ∨ (x1.toInt).toNat = 41 ∨ (x1.toInt).toNat = 57 ∨ (x1.toInt).toNat = 58) ∨ 80 ≤ 80 ∧ 80 ≤ 87 ∨ 80 = 100 by omega)
      refine to_an (pc := 47) rw_165_47 rfl (s_gR (pc := 48) rw_165_48 hG89 rfl (v := 81) rfl (to_in (pc := 51) rw_165_51 rfl (to_an (pc := 52) rw_165_52 rfl (s_gR (pc := 53) rw_165_53 hG89 rfl (v := 81) rfl (to_c (pc := 56) rw_165_56 (x := (8 : Int32)) rfl rfl (to_in (pc := 58) rw_165_58 rfl (s_add (pc := 59) rw_165_59 (A := 8) (B := x1.toInt) rfl rfl (by omega) (fun v91 e92 => s_ial (pc := 60) rw_165_60 hG89 rfl (n := 16) rfl rfl (A := v91.toInt) rfl (by omega) (by omega) (lo := 0) (hi := 3) rfl rfl (fun v93 w_94 _ _ => s_ias (pc := 61) rw_165_61 hG89 rfl (n := 16) rfl (A := x1.toInt) rfl (by omega) (by omega) (fun M96 W95 => ?_))))))))))
      have hG97 := g_w hG89 W95 (A := v93.toInt) rfl (lo := 0) (hi := 3) rfl rfl (by omega) (by decide)
      have F98 := FR.w F90 W95 (show 81 = 77 ∧ (11 ≤ (x1.toInt).toNat ∧ (x1.toInt).toNat ≤ 13 ∨ (x1.toInt).toNat = 28 ∨ (x1.toInt).toNat = 29 ∨ (x1.toInt).toNat = 41 ∨ (x1.toInt).toNat = 57 ∨ (x1.toInt).toNat = 58) ∨ 80 ≤ 81 ∧ 81 ≤ 87 ∨ 81 = 100 by omega)
      refine to_an (pc := 62) rw_165_62 rfl (s_gR (pc := 63) rw_165_63 hG97 rfl (v := 82) rfl (to_in (pc := 66) rw_165_66 rfl (to_an (pc := 67) rw_165_67 rfl (s_gR (pc := 68) rw_165_68 hG97 rfl (v := 82) rfl (to_c (pc := 71) rw_165_71 (x := (8 : Int32)) rfl rfl (to_in (pc := 73) rw_165_73 rfl (s_add (pc := 74) rw_165_74 (A := 8) (B := x1.toInt) rfl rfl (by omega) (fun v99 e100 => s_ial (pc := 75) rw_165_75 hG97 rfl (n := 16) rfl rfl (A := v99.toInt) rfl (by omega) (by omega) (lo := 0) (hi := 59) rfl rfl (fun v101 w_102 _ _ => s_ias (pc := 76) rw_165_76 hG97 rfl (n := 16) rfl (A := x1.toInt) rfl (by omega) (by omega) (fun M104 W103 => ?_))))))))))
      have hG105 := g_w hG97 W103 (A := v101.toInt) rfl (lo := 0) (hi := 59) rfl rfl (by omega) (by decide)
      have F106 := FR.w F98 W103 (show 82 = 77 ∧ (11 ≤ (x1.toInt).toNat ∧ (x1.toInt).toNat ≤ 13 ∨ (x1.toInt).toNat = 28 ∨ (x1.toInt).toNat = 29 ∨ (x1.toInt).toNat = 41 ∨ (x1.toInt).toNat = 57 ∨ (x1.toInt).toNat = 58) ∨ 80 ≤ 82 ∧ 82 ≤ 87 ∨ 82 = 100 by omega)
      refine to_an (pc := 77) rw_165_77 rfl (s_gR (pc := 78) rw_165_78 hG105 rfl (v := 83) rfl (to_in (pc := 81) rw_165_81 rfl (to_an (pc := 82) rw_165_82 rfl (s_gR (pc := 83) rw_165_83 hG105 rfl (v := 83) rfl (to_c (pc := 86) rw_165_86 (x := (8 : Int32)) rfl rfl (to_in (pc := 88) rw_165_88 rfl (s_add (pc := 89) rw_165_89 (A := 8) (B := x1.toInt) rfl rfl (by omega) (fun v107 e108 => s_ial (pc := 90) rw_165_90 hG105 rfl (n := 16) rfl rfl (A := v107.toInt) rfl (by omega) (by omega) (lo := 0) (hi := 63) rfl rfl (fun v109 w_110 _ _ => s_ias (pc := 91) rw_165_91 hG105 rfl (n := 16) rfl (A := x1.toInt) rfl (by omega) (by omega) (fun M112 W111 => ?_))))))))))
      have hG113 := g_w hG105 W111 (A := v109.toInt) rfl (lo := 0) (hi := 63) rfl rfl (by omega) (by decide)
      have F114 := FR.w F106 W111 (show 83 = 77 ∧ (11 ≤ (x1.toInt).toNat ∧ (x1.toInt).toNat ≤ 13 ∨ (x1.toInt).toNat = 28 ∨ (x1.toInt).toNat = 29 ∨ (x1.toInt).toNat = 41 ∨ (x1.toInt).toNat = 57 ∨ (x1.toInt).toNat = 58) ∨ 80 ≤ 83 ∧ 83 ≤ 87 ∨ 83 = 100 by omega)
      refine to_an (pc := 92) rw_165_92 rfl (s_gR (pc := 93) rw_165_93 hG113 rfl (v := 84) rfl (to_in (pc := 96) rw_165_96 rfl (to_an (pc := 97) rw_165_97 rfl (s_gR (pc := 98) rw_165_98 hG113 rfl (v := 84) rfl (to_c (pc := 101) rw_165_101 (x := (8 : Int32)) rfl rfl (to_in (pc := 103) rw_165_103 rfl (s_add (pc := 104) rw_165_104 (A := 8) (B := x1.toInt) rfl rfl (by omega) (fun v115 e116 => s_ial (pc := 105) rw_165_105 hG113 rfl (n := 16) rfl rfl (A := v115.toInt) rfl (by omega) (by omega) (lo := 0) (hi := 24) rfl rfl (fun v117 w_118 _ _ => s_ias (pc := 106) rw_165_106 hG113 rfl (n := 16) rfl (A := x1.toInt) rfl (by omega) (by omega) (fun M120 W119 => ?_))))))))))
      have hG121 := g_w hG113 W119 (A := v117.toInt) rfl (lo := 0) (hi := 24) rfl rfl (by omega) (by decide)
      have F122 := FR.w F114 W119 (show 84 = 77 ∧ (11 ≤ (x1.toInt).toNat ∧ (x1.toInt).toNat ≤ 13 ∨ (x1.toInt).toNat = 28 ∨ (x1.toInt).toNat = 29 ∨ (x1.toInt).toNat = 41 ∨ (x1.toInt).toNat = 57 ∨ (x1.toInt).toNat = 58) ∨ 80 ≤ 84 ∧ 84 ≤ 87 ∨ 84 = 100 by omega)
      refine s_inc (pc := 107) rw_165_107 (ls2 := fun v => [.ref 77, .int v]) rfl rfl (fun _ => rfl) (A := x1.toInt) (B := 1) rfl rfl (by omega) (fun v123 e124 => to_go (pc := 110) rw_165_110 ?_)
      have c_125 : M120.2.1 77 11 = (N.2.1 77 11) := (W_n W119 (fun z => absurd z.1 (by decide)) (W_n W111 (fun z => absurd z.1 (by decide)) (W_n W103 (fun z => absurd z.1 (by decide)) (W_n W95 (fun z => absurd z.1 (by decide)) (W_n W87 (fun z => absurd z.1 (by decide)) rfl)))))
      have c_126 : M120.2.1 77 12 = (N.2.1 77 12) := (W_n W119 (fun z => absurd z.1 (by decide)) (W_n W111 (fun z => absurd z.1 (by decide)) (W_n W103 (fun z => absurd z.1 (by decide)) (W_n W95 (fun z => absurd z.1 (by decide)) (W_n W87 (fun z => absurd z.1 (by decide)) rfl)))))
      have c_127 : M120.2.1 77 13 = (N.2.1 77 13) := (W_n W119 (fun z => absurd z.1 (by decide)) (W_n W111 (fun z => absurd z.1 (by decide)) (W_n W103 (fun z => absurd z.1 (by decide)) (W_n W95 (fun z => absurd z.1 (by decide)) (W_n W87 (fun z => absurd z.1 (by decide)) rfl)))))
      exact ih M120 v123 hG121 F122 (by omega) (by omega) (KP_5 g3 (by omega) rfl (by omega) (show N.2.1 80 (8 + (x1.toInt).toNat) = v85 from (by rw [show 8 + (x1.toInt).toNat = (v83.toInt).toNat by omega]; exact w_86)) W87 (show M88.2.1 81 (8 + (x1.toInt).toNat) = v93 from (by rw [show 8 + (x1.toInt).toNat = (v91.toInt).toNat by omega]; exact w_94)) W95 (show M96.2.1 82 (8 + (x1.toInt).toNat) = v101 from (by rw [show 8 + (x1.toInt).toNat = (v99.toInt).toNat by omega]; exact w_102)) W103 (show M104.2.1 83 (8 + (x1.toInt).toNat) = v109 from (by rw [show 8 + (x1.toInt).toNat = (v107.toInt).toNat by omega]; exact w_110)) W111 (show M112.2.1 84 (8 + (x1.toInt).toNat) = v117 from (by rw [show 8 + (x1.toInt).toNat = (v115.toInt).toNat by omega]; exact w_118)) W119) (KL_f (fun i => (W_j W119 (W_j W111 (W_j W103 (W_j W95 (W_j W87 rfl)))))) g4) (c_125.trans g5) (c_126.trans g6) (c_127.trans g7) (by omega)
set_option maxRecDepth 4000 in
set_option maxHeartbeats 0 in
theorem E_165 {X : mm_X} {d : Nat} {M : mm_M} {Q : Option Value → mm_M → Prop} (hX : g_X X) (hd : 0 ≤ d) (hG : g_G M) (h : ∀ (M1 : mm_M), g_G M1 → FR md_ke M M1 → ((M1.2.1 77 28).toInt = 0) → ((M1.2.1 77 29).toInt = 0) → ((M1.2.1 77 41).toInt = 0) → (∀ s9 : x_S, PLr2 M s9 → PLk2 M1 s9) → Q (none) M1) : mm_T X d 164 0 [.ref 77, .null] [] M Q := by
  have F0 : FR md_ke M M := FR.rf
  refine to_an (pc := 0) rw_165_0 rfl (to_an (pc := 1) rw_165_1 rfl ?_)
  have b_128 := g_b hG (a := 77) (i := 14) (lo := 10) (hi := 60) rfl rfl
  refine tt_gI (pc := 2) rw_165_2 (g_o hG rfl) (v := (M.2.1 77 14)) rfl (s_pI (pc := 5) rw_165_5 hG rfl (fun M130 W129 => ?_))
  have hG131 := g_w hG W129 (A := (M.2.1 77 14).toInt) rfl (lo := 10) (hi := 60) rfl rfl (by omega) (by decide)
  have F132 := FR.w F0 W129 (show 77 = 77 ∧ (11 ≤ 11 ∧ 11 ≤ 13 ∨ 11 = 28 ∨ 11 = 29 ∨ 11 = 41 ∨ 11 = 57 ∨ 11 = 58) ∨ 80 ≤ 77 ∧ 77 ≤ 87 ∨ 77 = 100 by decide)
  refine to_an (pc := 8) rw_165_8 rfl (to_an (pc := 9) rw_165_9 rfl ?_)
  have c_133 : M130.2.1 77 15 = (M.2.1 77 15) := (W_n W129 (by decide) rfl)
  have b_134 := g_b hG (a := 77) (i := 15) (lo := 0) (hi := 8) rfl rfl
  refine tt_gI (pc := 10) rw_165_10 (g_o hG131 rfl) (v := (M.2.1 77 15)) c_133 (s_pI (pc := 13) rw_165_13 hG131 rfl (fun M136 W135 => ?_))
  have hG137 := g_w hG131 W135 (A := (M.2.1 77 15).toInt) rfl (lo := 0) (hi := 8) rfl rfl (by omega) (by decide)
  have F138 := FR.w F132 W135 (show 77 = 77 ∧ (11 ≤ 12 ∧ 12 ≤ 13 ∨ 12 = 28 ∨ 12 = 29 ∨ 12 = 41 ∨ 12 = 57 ∨ 12 = 58) ∨ 80 ≤ 77 ∧ 77 ≤ 87 ∨ 77 = 100 by decide)
  refine to_an (pc := 16) rw_165_16 rfl (to_an (pc := 17) rw_165_17 rfl ?_)
  have c_139 : M136.2.1 77 16 = (M.2.1 77 16) := (W_n W135 (by decide) (W_n W129 (by decide) rfl))
  have b_140 := g_b hG (a := 77) (i := 16) (lo := 0) (hi := 12) rfl rfl
  refine tt_gI (pc := 18) rw_165_18 (g_o hG137 rfl) (v := (M.2.1 77 16)) c_139 (s_pI (pc := 21) rw_165_21 hG137 rfl (fun M142 W141 => ?_))
  have hG143 := g_w hG137 W141 (A := (M.2.1 77 16).toInt) rfl (lo := 0) (hi := 12) rfl rfl (by omega) (by decide)
  have F144 := FR.w F138 W141 (show 77 = 77 ∧ (11 ≤ 13 ∧ 13 ≤ 13 ∨ 13 = 28 ∨ 13 = 29 ∨ 13 = 41 ∨ 13 = 57 ∨ 13 = 58) ∨ 80 ≤ 77 ∧ 77 ≤ 87 ∨ 77 = 100 by decide)
  refine to_c (pc := 24) rw_165_24 (x := (0 : Int32)) rfl rfl (to_isn (pc := 25) rw_165_25 (ls2 := [.ref 77, .int (0 : Int32)]) rfl rfl ?_)
  have k_145 : (0 : Int32).toInt = 0 := rfl
  have c_146 : M142.2.1 77 11 = (M.2.1 77 14) := (W_n W141 (by decide) (W_n W135 (by decide) (W_e W129)))
  have c_147 : M142.2.1 77 12 = (M.2.1 77 15) := (W_n W141 (by decide) (W_e W135))
  have c_148 : M142.2.1 77 13 = (M.2.1 77 16) := (W_e W141)
  exact (U_165_2 hX hd  h ((8 - (0 : Int32).toInt).toNat + 1)) M142 (0 : Int32) hG143 F144 (by omega) (by omega) (KP_0 (fun a i z => (W_n W141 (by /-r77,13-/ omega) (W_n W135 (by /-r77,12-/ omega) (W_n W129 (by /-r77,11-/ omega) rfl))))) (KL_0 (fun i => (W_j W141 (W_j W135 (W_j W129 rfl))))) c_146 c_147 c_148 (by omega)
set_option maxRecDepth 4000 in
set_option maxHeartbeats 0 in
theorem U_173_0 {X : mm_X} {d : Nat} {M : mm_M} {Q : Option Value → mm_M → Prop} {n : Int32} {t : Nat → Int} {nn : Int} (hX : g_X X) (hd : 5 ≤ d) (q1 : (M.2.1 77 7).toInt ≤ (M.2.1 77 6).toInt) (q2 : 0 ≤ n.toInt ∧ n.toInt ≤ (M.2.1 77 1).toInt → n.toInt = nn) (q3 : TR M t nn) (q4 : W9 M) (h : ∀ (r : Int32) (M1 : mm_M), g_G M1 → FR md_P M M1 → (n.toInt < 0 ∨ (M.2.1 77 1).toInt < n.toInt → r.toInt = -2) → ((0 ≤ n.toInt ∧ n.toInt ≤ (M.2.1 77 1).toInt → PAN (x_plan t nn 23 0 x_s0 (x_sk t nn 0)) r.toInt)) → (-2 ≤ r.toInt) → (r.toInt < 0 → (M1.2.1 77 28).toInt = (M.2.1 77 28).toInt ∧ (M1.2.1 77 29).toInt = (M.2.1 77 29).toInt ∧ (M1.2.1 77 41).toInt = (M.2.1 77 41).toInt) → (0 ≤ r.toInt → (M1.2.1 77 28).toInt = 0 ∧ (M1.2.1 77 29).toInt = 0 ∧ (M1.2.1 77 41).toInt = 0) → ((r.toInt < 0 → ∀ s9 : x_S, PLk2 M s9 → PLk2 M1 s9)) → ((0 ≤ r.toInt → ∃ s2 : x_S, x_plan t nn 23 0 x_s0 (x_sk t nn 0) = some (r.toInt, s2) ∧ PLk2 M1 s2)) → Q (some (.int r)) M1) : ∀ nn9 : Nat, (∀ (N : mm_M) (u1 : Value) (x2 : Int32), g_G N → FR md_P M N → (0 ≤ x2.toInt) → (x2.toInt ≤ 22) → (0 ≤ n.toInt) → (n.toInt ≤ (M.2.1 77 1).toInt) → (n.toInt = nn) → (0 ≤ nn) → (nn ≤ 500) → (RS N t nn) → (TR N t nn) → (W9 N) → ((N.2.1 77 28).toInt = (M.2.1 77 28).toInt) → ((N.2.1 77 29).toInt = (M.2.1 77 29).toInt) → ((N.2.1 77 41).toInt = (M.2.1 77 41).toInt) → (∀ s9 : x_S, PLk2 M s9 → PLk2 N s9) → (IVr t nn (x_plan t nn 23 0 x_s0 (x_sk t nn 0)) N x2.toInt (N.2.1 77 10).toInt) → 22 - x2.toInt < (nn9 : Int) → mm_T X d 172 22 [.ref 77, u1, .int x2] [] N Q) := by
  intro nn9
  induction nn9 with
  | zero =>
    intro N u1 x2 hG F0 g1 g2 g3 g4 g5 g6 g7 g8 g9 g10 g11 g12 g13 g14 g15 hm
    have b_1 := g_b hG (a := 77) (i := 28) (lo := 0) (hi := 30) rfl rfl
    have b_2 := g_b hG (a := 77) (i := 29) (lo := 0) (hi := 150) rfl rfl
    exfalso; omega
  | succ nn9 ih =>
    intro N u1 x2 hG F0 g1 g2 g3 g4 g5 g6 g7 g8 g9 g10 g11 g12 g13 g14 g15 hm
    have b_3 := g_b hG (a := 77) (i := 28) (lo := 0) (hi := 30) rfl rfl
    have b_4 := g_b hG (a := 77) (i := 29) (lo := 0) (hi := 150) rfl rfl
    obtain ⟨sg, i_1, i_2, i_3, i_4⟩ := g15
    have i_5 : x2.toInt ≤ 21 := by have q1 : sg.2.1 ≤ 8 := i_1.1.1.2.2.2.1; have q2 : sg.2.2.1 ≤ 12 := i_1.1.1.2.2.2.2.2.1; rcases (show x2.toInt = 0 ∨ 0 < x2.toInt by omega) with z | z; omega; have := i_4 z; omega
    refine to_an (pc := 22) rw_173_22 rfl ?_
    have b_5 := g_b hG (a := 77) (i := 8) (lo := 0) (hi := 5) rfl rfl
    have b_6 := g_b hG (a := 77) (i := 10) (lo := 0) (hi := 500) rfl rfl
    have c_7 := RS_u g8 (a := (N.2.1 77 10).toInt) (by omega)
    unfold x_R at c_7
    refine tt_gI (pc := 23) rw_173_23 (g_o hG rfl) (v := (N.2.1 77 8)) rfl (b_ieq (pc := 26) rw_173_26 (A := (N.2.1 77 8).toInt) rfl (fun h8 => ?_) (fun h8 => ?_))
    · refine to_an (pc := 53) rw_173_53 rfl (s_v (pc := 54) rw_173_54 (dp0 hd (by decide)) (ls0 := [.ref 77, .null]) rfl (Nat.le_of_ble_eq_true rfl) (Nat.le_of_ble_eq_true rfl) rfl (to_rc rfl rfl rfl (g_o hG rfl)) rfl (E_165 hX (dp1 hd (by decide)) hG  (fun M15 hG10 F9 p_11 p_12 p_13 p_14 => ?_)))
      have F16 := FR.c F0 F9 tg_81
      have b_17 := g_b hG10 (a := 77) (i := 28) (lo := 0) (hi := 30) rfl rfl
      have b_18 := g_b hG10 (a := 77) (i := 29) (lo := 0) (hi := 150) rfl rfl
      refine to_in (pc := 57) rw_173_57 rfl (to_r0 (pc := 58) rw_173_58 ?_)
      exact h x2 M15 hG10 F16 (by omega) (fun _ => IVr_e (by omega) i_2 (by omega) rfl) (by omega) (by omega) (by omega) (fun z => by exfalso; omega) (fun _ => ⟨sg, (by rw [← i_2]; exact x_plan_e (by omega) (by omega)), p_14 sg ⟨i_1.1, i_1.2⟩⟩)
    · refine to_an (pc := 29) rw_173_29 rfl (to_in (pc := 30) rw_173_30 rfl (b_ine (pc := 31) rw_173_31 (A := x2.toInt) rfl (fun h19 => ?_) (fun h19 => ?_)))
      · refine to_c (pc := 38) rw_173_38 (x := (0 : Int32)) rfl rfl (s_v (pc := 39) rw_173_39 (dp0 hd (by decide)) (ls0 := [.ref 77, .int (0 : Int32)]) rfl (Nat.le_of_ble_eq_true rfl) (Nat.le_of_ble_eq_true rfl) rfl (to_rc rfl rfl rfl (g_o hG rfl)) rfl ?_)
        have k_20 : (0 : Int32).toInt = 0 := rfl
        refine E_172 hX (dp1 hd (by decide)) hG g8 (by omega) (by omega) (by omega) g9 g10 i_1.1 i_1.2 (by omega) (by omega) (by omega) (by omega) (by omega) (x := (0 : Int32)) (t := t) (nn := nn) (a := (N.2.1 77 10).toInt) (sg := sg) (L := x2.toInt) (fu := (22 - x2.toInt).toNat) (fun r21 M29 hG23 F22 p_24 p_25 p_26 p_27 p_28 => ?_)
        have F30 := FR.c F0 F22 tg_82
        rcases (show r21.toInt = 0 ∨ r21.toInt = 1 by omega) with h31 | h31
        · skip
          have p_32 := p_27 (by omega)
          clear p_27 p_28
          refine b_ine_f (pc := 42) rw_173_42 (A := r21.toInt) rfl (by omega) (to_c (pc := 45) rw_173_45 (x := (-1 : Int32)) rfl rfl (to_r0 (pc := 46) rw_173_46 ?_))
          have k_33 : (-1 : Int32).toInt = -1 := rfl
          have c_34 : M29.2.1 77 28 = (N.2.1 77 28) := (F_n F22 (show ¬ (77 = 77 ∧ (28 = 4 ∨ 28 = 5 ∨ 7 ≤ 28 ∧ 28 ≤ 10 ∨ 14 ≤ 28 ∧ 28 ≤ 16 ∨ 28 = 25) ∨ 80 ≤ 77 ∧ 77 ≤ 84 ∧ 8 ≤ 28 ∨ 85 ≤ 77 ∧ 77 ≤ 87 ∧ 12 ≤ 28) by decide) rfl)
          have t_35 : (M29.2.1 77 28).toInt = (N.2.1 77 28).toInt := congrArg Int32.toInt c_34
          have c_36 : M29.2.1 77 29 = (N.2.1 77 29) := (F_n F22 (show ¬ (77 = 77 ∧ (29 = 4 ∨ 29 = 5 ∨ 7 ≤ 29 ∧ 29 ≤ 10 ∨ 14 ≤ 29 ∧ 29 ≤ 16 ∨ 29 = 25) ∨ 80 ≤ 77 ∧ 77 ≤ 84 ∧ 8 ≤ 29 ∨ 85 ≤ 77 ∧ 77 ≤ 87 ∧ 12 ≤ 29) by decide) rfl)
          have t_37 : (M29.2.1 77 29).toInt = (N.2.1 77 29).toInt := congrArg Int32.toInt c_36
          have c_38 : M29.2.1 77 41 = (N.2.1 77 41) := (F_n F22 (show ¬ (77 = 77 ∧ (41 = 4 ∨ 41 = 5 ∨ 7 ≤ 41 ∧ 41 ≤ 10 ∨ 14 ≤ 41 ∧ 41 ≤ 16 ∨ 41 = 25) ∨ 80 ≤ 77 ∧ 77 ≤ 84 ∧ 8 ≤ 41 ∨ 85 ≤ 77 ∧ 77 ≤ 87 ∧ 12 ≤ 41) by decide) rfl)
          have t_39 : (M29.2.1 77 41).toInt = (N.2.1 77 41).toInt := congrArg Int32.toInt c_38
          exact h (-1 : Int32) M29 hG23 F30 (by omega) (fun _ => Or.inl ⟨IVr_l (by omega) (by omega) i_2 (by omega) p_32, rfl⟩) (by omega) (by omega) (by omega) (fun _ => (fun s9 h9 => PLk2_f (fun a i z => (F_n F22 (show ¬ (a = 77 ∧ (i = 4 ∨ i = 5 ∨ 7 ≤ i ∧ i ≤ 10 ∨ 14 ≤ i ∧ i ≤ 16 ∨ i = 25) ∨ 80 ≤ a ∧ a ≤ 84 ∧ 8 ≤ i ∨ 85 ≤ a ∧ a ≤ 87 ∧ 12 ≤ i) by omega) rfl)) (fun i hi9 => (F_nl F22 (show ¬ (87 = 77 ∧ (i = 4 ∨ i = 5 ∨ 7 ≤ i ∧ i ≤ 10 ∨ 14 ≤ i ∧ i ≤ 16 ∨ i = 25) ∨ 80 ≤ 87 ∧ 87 ≤ 84 ∧ 8 ≤ i ∨ 85 ≤ 87 ∧ 87 ≤ 87 ∧ 12 ≤ i) by omega) rfl)) (g14 s9 h9))) (fun z => by exfalso; omega)
        · skip
          have p_40 := p_28 (by omega)
          clear p_27 p_28
          refine b_ine_t (pc := 42) rw_173_42 (A := r21.toInt) rfl (by omega) (s_inc (pc := 47) rw_173_47 (ls2 := fun v => [.ref 77, u1, .int v]) rfl rfl (fun _ => rfl) (A := x2.toInt) (B := 1) rfl rfl (by omega) (fun v41 e42 => to_go (pc := 50) rw_173_50 ?_))
          have j_43 := (TR_f (tg_69 F22) g9)
          have j_44 := (W9_f (tg_70 F22) g10)
          have c_45 : M29.2.1 77 28 = (N.2.1 77 28) := (F_n F22 (show ¬ (77 = 77 ∧ (28 = 4 ∨ 28 = 5 ∨ 7 ≤ 28 ∧ 28 ≤ 10 ∨ 14 ≤ 28 ∧ 28 ≤ 16 ∨ 28 = 25) ∨ 80 ≤ 77 ∧ 77 ≤ 84 ∧ 8 ≤ 28 ∨ 85 ≤ 77 ∧ 77 ≤ 87 ∧ 12 ≤ 28) by decide) rfl)
          have t_46 : (M29.2.1 77 28).toInt = (N.2.1 77 28).toInt := congrArg Int32.toInt c_45
          have c_47 : M29.2.1 77 29 = (N.2.1 77 29) := (F_n F22 (show ¬ (77 = 77 ∧ (29 = 4 ∨ 29 = 5 ∨ 7 ≤ 29 ∧ 29 ≤ 10 ∨ 14 ≤ 29 ∧ 29 ≤ 16 ∨ 29 = 25) ∨ 80 ≤ 77 ∧ 77 ≤ 84 ∧ 8 ≤ 29 ∨ 85 ≤ 77 ∧ 77 ≤ 87 ∧ 12 ≤ 29) by decide) rfl)
          have t_48 : (M29.2.1 77 29).toInt = (N.2.1 77 29).toInt := congrArg Int32.toInt c_47
          have c_49 : M29.2.1 77 41 = (N.2.1 77 41) := (F_n F22 (show ¬ (77 = 77 ∧ (41 = 4 ∨ 41 = 5 ∨ 7 ≤ 41 ∧ 41 ≤ 10 ∨ 14 ≤ 41 ∧ 41 ≤ 16 ∨ 41 = 25) ∨ 80 ≤ 77 ∧ 77 ≤ 84 ∧ 8 ≤ 41 ∨ 85 ≤ 77 ∧ 77 ≤ 87 ∧ 12 ≤ 41) by decide) rfl)
          have t_50 : (M29.2.1 77 41).toInt = (N.2.1 77 41).toInt := congrArg Int32.toInt c_49
          have b_51 := g_b hG23 (a := 77) (i := 10) (lo := 0) (hi := 500) rfl rfl
          exact ih M29 (u1) v41 hG23 F30 (by omega) (by omega) (by omega) (by omega) (by omega) (by omega) (by omega) p_26 j_43 j_44 (by omega) (by omega) (by omega) (fun s9 h9 => PLk2_f (fun a i z => (F_n F22 (show ¬ (a = 77 ∧ (i = 4 ∨ i = 5 ∨ 7 ≤ i ∧ i ≤ 10 ∨ 14 ≤ i ∧ i ≤ 16 ∨ i = 25) ∨ 80 ≤ a ∧ a ≤ 84 ∧ 8 ≤ i ∨ 85 ≤ a ∧ a ≤ 87 ∧ 12 ≤ i) by omega) rfl)) (fun i hi9 => (F_nl F22 (show ¬ (87 = 77 ∧ (i = 4 ∨ i = 5 ∨ 7 ≤ i ∧ i ≤ 10 ∨ 14 ≤ i ∧ i ≤ 16 ∨ i = 25) ∨ 80 ≤ 87 ∧ 87 ≤ 84 ∧ 8 ≤ i ∨ 85 ≤ 87 ∧ 87 ≤ 87 ∧ 12 ≤ i) by omega) rfl)) (g14 s9 h9)) (IVr_s (by omega) (by omega) i_2 (by omega) i_3 i_4 p_40 rfl (by omega)) (by omega)
      · refine to_c (pc := 34) rw_173_34 (x := (1 : Int32)) rfl rfl (to_go (pc := 35) rw_173_35 (s_v (pc := 39) rw_173_39 (dp0 hd (by decide)) (ls0 := [.ref 77, .int (1 : Int32)]) rfl (Nat.le_of_ble_eq_true rfl) (Nat.le_of_ble_eq_true rfl) rfl (to_rc rfl rfl rfl (g_o hG rfl)) rfl ?_))
        have k_52 : (1 : Int32).toInt = 1 := rfl
        refine E_172 hX (dp1 hd (by decide)) hG g8 (by omega) (by omega) (by omega) g9 g10 i_1.1 i_1.2 (by omega) (by omega) (by omega) (by omega) (by omega) (x := (1 : Int32)) (t := t) (nn := nn) (a := (N.2.1 77 10).toInt) (sg := sg) (L := x2.toInt) (fu := (22 - x2.toInt).toNat) (fun r53 M61 hG55 F54 p_56 p_57 p_58 p_59 p_60 => ?_)
        have F62 := FR.c F0 F54 tg_82
        rcases (show r53.toInt = 0 ∨ r53.toInt = 1 by omega) with h63 | h63
        · skip
          have p_64 := p_59 (by omega)
          clear p_59 p_60
          refine b_ine_f (pc := 42) rw_173_42 (A := r53.toInt) rfl (by omega) (to_c (pc := 45) rw_173_45 (x := (-1 : Int32)) rfl rfl (to_r0 (pc := 46) rw_173_46 ?_))
          have k_65 : (-1 : Int32).toInt = -1 := rfl
          have c_66 : M61.2.1 77 28 = (N.2.1 77 28) := (F_n F54 (show ¬ (77 = 77 ∧ (28 = 4 ∨ 28 = 5 ∨ 7 ≤ 28 ∧ 28 ≤ 10 ∨ 14 ≤ 28 ∧ 28 ≤ 16 ∨ 28 = 25) ∨ 80 ≤ 77 ∧ 77 ≤ 84 ∧ 8 ≤ 28 ∨ 85 ≤ 77 ∧ 77 ≤ 87 ∧ 12 ≤ 28) by decide) rfl)
          have t_67 : (M61.2.1 77 28).toInt = (N.2.1 77 28).toInt := congrArg Int32.toInt c_66
          have c_68 : M61.2.1 77 29 = (N.2.1 77 29) := (F_n F54 (show ¬ (77 = 77 ∧ (29 = 4 ∨ 29 = 5 ∨ 7 ≤ 29 ∧ 29 ≤ 10 ∨ 14 ≤ 29 ∧ 29 ≤ 16 ∨ 29 = 25) ∨ 80 ≤ 77 ∧ 77 ≤ 84 ∧ 8 ≤ 29 ∨ 85 ≤ 77 ∧ 77 ≤ 87 ∧ 12 ≤ 29) by decide) rfl)
          have t_69 : (M61.2.1 77 29).toInt = (N.2.1 77 29).toInt := congrArg Int32.toInt c_68
          have c_70 : M61.2.1 77 41 = (N.2.1 77 41) := (F_n F54 (show ¬ (77 = 77 ∧ (41 = 4 ∨ 41 = 5 ∨ 7 ≤ 41 ∧ 41 ≤ 10 ∨ 14 ≤ 41 ∧ 41 ≤ 16 ∨ 41 = 25) ∨ 80 ≤ 77 ∧ 77 ≤ 84 ∧ 8 ≤ 41 ∨ 85 ≤ 77 ∧ 77 ≤ 87 ∧ 12 ≤ 41) by decide) rfl)
          have t_71 : (M61.2.1 77 41).toInt = (N.2.1 77 41).toInt := congrArg Int32.toInt c_70
          exact h (-1 : Int32) M61 hG55 F62 (by omega) (fun _ => Or.inl ⟨IVr_l (by omega) (by omega) i_2 (by omega) p_64, rfl⟩) (by omega) (by omega) (by omega) (fun _ => (fun s9 h9 => PLk2_f (fun a i z => (F_n F54 (show ¬ (a = 77 ∧ (i = 4 ∨ i = 5 ∨ 7 ≤ i ∧ i ≤ 10 ∨ 14 ≤ i ∧ i ≤ 16 ∨ i = 25) ∨ 80 ≤ a ∧ a ≤ 84 ∧ 8 ≤ i ∨ 85 ≤ a ∧ a ≤ 87 ∧ 12 ≤ i) by omega) rfl)) (fun i hi9 => (F_nl F54 (show ¬ (87 = 77 ∧ (i = 4 ∨ i = 5 ∨ 7 ≤ i ∧ i ≤ 10 ∨ 14 ≤ i ∧ i ≤ 16 ∨ i = 25) ∨ 80 ≤ 87 ∧ 87 ≤ 84 ∧ 8 ≤ i ∨ 85 ≤ 87 ∧ 87 ≤ 87 ∧ 12 ≤ i) by omega) rfl)) (g14 s9 h9))) (fun z => by exfalso; omega)
        · skip
          have p_72 := p_60 (by omega)
          clear p_59 p_60
          refine b_ine_t (pc := 42) rw_173_42 (A := r53.toInt) rfl (by omega) (s_inc (pc := 47) rw_173_47 (ls2 := fun v => [.ref 77, u1, .int v]) rfl rfl (fun _ => rfl) (A := x2.toInt) (B := 1) rfl rfl (by omega) (fun v73 e74 => to_go (pc := 50) rw_173_50 ?_))
          have j_75 := (TR_f (tg_69 F54) g9)
          have j_76 := (W9_f (tg_70 F54) g10)
          have c_77 : M61.2.1 77 28 = (N.2.1 77 28) := (F_n F54 (show ¬ (77 = 77 ∧ (28 = 4 ∨ 28 = 5 ∨ 7 ≤ 28 ∧ 28 ≤ 10 ∨ 14 ≤ 28 ∧ 28 ≤ 16 ∨ 28 = 25) ∨ 80 ≤ 77 ∧ 77 ≤ 84 ∧ 8 ≤ 28 ∨ 85 ≤ 77 ∧ 77 ≤ 87 ∧ 12 ≤ 28) by decide) rfl)
          have t_78 : (M61.2.1 77 28).toInt = (N.2.1 77 28).toInt := congrArg Int32.toInt c_77
          have c_79 : M61.2.1 77 29 = (N.2.1 77 29) := (F_n F54 (show ¬ (77 = 77 ∧ (29 = 4 ∨ 29 = 5 ∨ 7 ≤ 29 ∧ 29 ≤ 10 ∨ 14 ≤ 29 ∧ 29 ≤ 16 ∨ 29 = 25) ∨ 80 ≤ 77 ∧ 77 ≤ 84 ∧ 8 ≤ 29 ∨ 85 ≤ 77 ∧ 77 ≤ 87 ∧ 12 ≤ 29) by decide) rfl)
          have t_80 : (M61.2.1 77 29).toInt = (N.2.1 77 29).toInt := congrArg Int32.toInt c_79
          have c_81 : M61.2.1 77 41 = (N.2.1 77 41) := (F_n F54 (show ¬ (77 = 77 ∧ (41 = 4 ∨ 41 = 5 ∨ 7 ≤ 41 ∧ 41 ≤ 10 ∨ 14 ≤ 41 ∧ 41 ≤ 16 ∨ 41 = 25) ∨ 80 ≤ 77 ∧ 77 ≤ 84 ∧ 8 ≤ 41 ∨ 85 ≤ 77 ∧ 77 ≤ 87 ∧ 12 ≤ 41) by decide) rfl)
          have t_82 : (M61.2.1 77 41).toInt = (N.2.1 77 41).toInt := congrArg Int32.toInt c_81
          have b_83 := g_b hG55 (a := 77) (i := 10) (lo := 0) (hi := 500) rfl rfl
          exact ih M61 (u1) v73 hG55 F62 (by omega) (by omega) (by omega) (by omega) (by omega) (by omega) (by omega) p_58 j_75 j_76 (by omega) (by omega) (by omega) (fun s9 h9 => PLk2_f (fun a i z => (F_n F54 (show ¬ (a = 77 ∧ (i = 4 ∨ i = 5 ∨ 7 ≤ i ∧ i ≤ 10 ∨ 14 ≤ i ∧ i ≤ 16 ∨ i = 25) ∨ 80 ≤ a ∧ a ≤ 84 ∧ 8 ≤ i ∨ 85 ≤ a ∧ a ≤ 87 ∧ 12 ≤ i) by omega) rfl)) (fun i hi9 => (F_nl F54 (show ¬ (87 = 77 ∧ (i = 4 ∨ i = 5 ∨ 7 ≤ i ∧ i ≤ 10 ∨ 14 ≤ i ∧ i ≤ 16 ∨ i = 25) ∨ 80 ≤ 87 ∧ 87 ≤ 84 ∧ 8 ≤ i ∨ 85 ≤ 87 ∧ 87 ≤ 87 ∧ 12 ≤ i) by omega) rfl)) (g14 s9 h9)) (IVr_s (by omega) (by omega) i_2 (by omega) i_3 i_4 p_72 rfl (by omega)) (by omega)
set_option maxRecDepth 4000 in
set_option maxHeartbeats 0 in
theorem E_173 {X : mm_X} {d : Nat} {M : mm_M} {Q : Option Value → mm_M → Prop} {n : Int32} {t : Nat → Int} {nn : Int} (hX : g_X X) (hd : 5 ≤ d) (hG : g_G M) (q1 : (M.2.1 77 7).toInt ≤ (M.2.1 77 6).toInt) (q2 : 0 ≤ n.toInt ∧ n.toInt ≤ (M.2.1 77 1).toInt → n.toInt = nn) (q3 : TR M t nn) (q4 : W9 M) (h : ∀ (r : Int32) (M1 : mm_M), g_G M1 → FR md_P M M1 → (n.toInt < 0 ∨ (M.2.1 77 1).toInt < n.toInt → r.toInt = -2) → ((0 ≤ n.toInt ∧ n.toInt ≤ (M.2.1 77 1).toInt → PAN (x_plan t nn 23 0 x_s0 (x_sk t nn 0)) r.toInt)) → (-2 ≤ r.toInt) → (r.toInt < 0 → (M1.2.1 77 28).toInt = (M.2.1 77 28).toInt ∧ (M1.2.1 77 29).toInt = (M.2.1 77 29).toInt ∧ (M1.2.1 77 41).toInt = (M.2.1 77 41).toInt) → (0 ≤ r.toInt → (M1.2.1 77 28).toInt = 0 ∧ (M1.2.1 77 29).toInt = 0 ∧ (M1.2.1 77 41).toInt = 0) → ((r.toInt < 0 → ∀ s9 : x_S, PLk2 M s9 → PLk2 M1 s9)) → ((0 ≤ r.toInt → ∃ s2 : x_S, x_plan t nn 23 0 x_s0 (x_sk t nn 0) = some (r.toInt, s2) ∧ PLk2 M1 s2)) → Q (some (.int r)) M1) : mm_T X d 172 0 [.ref 77, .int n, .null] [] M Q := by
  have F0 : FR md_P M M := FR.rf
  have b_84 := g_b hG (a := 77) (i := 7) (lo := 0) (hi := 500) rfl rfl
  have b_85 := g_b hG (a := 77) (i := 6) (lo := 0) (hi := 500) rfl rfl
  have b_86 := g_b hG (a := 77) (i := 1) (lo := 0) (hi := 500) rfl rfl
  refine to_an (pc := 0) rw_173_0 rfl (to_c (pc := 1) rw_173_1 (x := (0 : Int32)) rfl rfl (s_pI (pc := 2) rw_173_2 hG rfl (fun M88 W87 => ?_)))
  have hG89 := g_wf hG W87 rfl rfl (by decide)
  have F90 := FR.w F0 W87 (show 77 = 77 ∨ 79 < 77 ∧ 77 ≤ 87 ∨ 77 = 100 by decide)
  refine to_an (pc := 5) rw_173_5 rfl (to_in (pc := 6) rw_173_6 rfl (s_v (pc := 7) rw_173_7 (dp0 hd (by decide)) (ls0 := [.ref 77, .int n]) rfl (Nat.le_of_ble_eq_true rfl) (Nat.le_of_ble_eq_true rfl) rfl (to_rc rfl rfl rfl (g_o hG89 rfl)) rfl ?_))
  have c_91 : M88.2.1 77 1 = (M.2.1 77 1) := (W_n W87 (by decide) rfl)
  have t_92 : (M88.2.1 77 1).toInt = (M.2.1 77 1).toInt := congrArg Int32.toInt c_91
  have c_93 : M88.2.1 77 7 = (M.2.1 77 7) := (W_n W87 (by decide) rfl)
  have t_94 : (M88.2.1 77 7).toInt = (M.2.1 77 7).toInt := congrArg Int32.toInt c_93
  have c_95 : M88.2.1 77 6 = (M.2.1 77 6) := (W_n W87 (by decide) rfl)
  have t_96 : (M88.2.1 77 6).toInt = (M.2.1 77 6).toInt := congrArg Int32.toInt c_95
  have j_97 := (TR_f (fun a i z => W_n W87 (tg_88 a i z) rfl) q3)
  have j_98 := (W9_f (fun a i z => W_n W87 (tg_89 a i z) rfl) q4)
  refine E_163 hX (dp1 hd (by decide)) hG89 (by omega) (by omega) j_97 j_98 (n := n) (fun r99 M108 hG101 F100 p_102 p_103 p_104 p_105 p_106 p_107 => ?_)
  have F109 := FR.c F90 F100 tg_83
  have b_110 := g_b hG101 (a := 77) (i := 7) (lo := 0) (hi := 500) rfl rfl
  have b_111 := g_b hG101 (a := 77) (i := 6) (lo := 0) (hi := 500) rfl rfl
  have b_112 := g_b hG101 (a := 77) (i := 1) (lo := 0) (hi := 500) rfl rfl
  rcases (show r99.toInt = 0 ∨ r99.toInt = 1 by omega) with h113 | h113
  · skip
    clear p_107
    refine b_ine_f (pc := 10) rw_173_10 (A := r99.toInt) rfl (by omega) (to_c (pc := 13) rw_173_13 (x := (-2 : Int32)) rfl rfl (to_r0 (pc := 15) rw_173_15 ?_))
    have k_114 : (-2 : Int32).toInt = -2 := rfl
    have c_115 : M108.2.1 77 28 = (M.2.1 77 28) := (F_n F100 (show ¬ (77 = 77 ∧ (28 = 1 ∨ 4 ≤ 28 ∧ 28 ≤ 10)) by decide) (W_n W87 (by decide) rfl))
    have b_116 := g_b hG (a := 77) (i := 28) (lo := 0) (hi := 30) rfl rfl
    have t_117 : (M108.2.1 77 28).toInt = (M.2.1 77 28).toInt := congrArg Int32.toInt c_115
    have c_118 : M108.2.1 77 29 = (M.2.1 77 29) := (F_n F100 (show ¬ (77 = 77 ∧ (29 = 1 ∨ 4 ≤ 29 ∧ 29 ≤ 10)) by decide) (W_n W87 (by decide) rfl))
    have b_119 := g_b hG (a := 77) (i := 29) (lo := 0) (hi := 150) rfl rfl
    have t_120 : (M108.2.1 77 29).toInt = (M.2.1 77 29).toInt := congrArg Int32.toInt c_118
    have c_121 : M108.2.1 77 41 = (M.2.1 77 41) := (F_n F100 (show ¬ (77 = 77 ∧ (41 = 1 ∨ 4 ≤ 41 ∧ 41 ≤ 10)) by decide) (W_n W87 (by decide) rfl))
    have t_122 : (M108.2.1 77 41).toInt = (M.2.1 77 41).toInt := congrArg Int32.toInt c_121
    exact h (-2 : Int32) M108 hG101 F109 (by omega) (fun z => by exfalso; omega) (by omega) (by omega) (by omega) (fun _ => (fun s9 h9 => PLk2_f (fun a i z => (F_n F100 (show ¬ (a = 77 ∧ (i = 1 ∨ 4 ≤ i ∧ i ≤ 10)) by omega) (W_n W87 (by /-r77,2-/ omega) rfl))) (fun i hi9 => (F_nl F100 (show ¬ (87 = 77 ∧ (i = 1 ∨ 4 ≤ i ∧ i ≤ 10)) by omega) (W_j W87 rfl))) h9)) (fun z => by exfalso; omega)
  · skip
    have p_123 := p_107 (by omega)
    clear p_107
    have b_124 := g_b hG101 (a := 77) (i := 10) (lo := 0) (hi := 500) rfl rfl
    have z_125 := p_123.2
    refine b_ine_t (pc := 10) rw_173_10 (A := r99.toInt) rfl (by omega) (to_an (pc := 16) rw_173_16 rfl (s_v (pc := 17) rw_173_17 (dp0 hd (by decide)) (ls0 := [.ref 77]) rfl (Nat.le_of_ble_eq_true rfl) (Nat.le_of_ble_eq_true rfl) rfl (to_rc rfl rfl rfl (g_o hG101 rfl)) rfl (E_164 hX (dp1 hd (by decide)) hG101  (fun M129 hG127 F126 p_128 => ?_))))
    have F130 := FR.c F109 F126 tg_84
    refine to_c (pc := 20) rw_173_20 (x := (0 : Int32)) rfl rfl (to_isn (pc := 21) rw_173_21 (ls2 := [.ref 77, .int n, .int (0 : Int32)]) rfl rfl ?_)
    have k_131 : (0 : Int32).toInt = 0 := rfl
    have j_132 := (RS_f (tg_71 F126) p_123.1)
    have j_133 := (TR_f (tg_72 F126) (TR_f (tg_73 F100) j_97))
    have j_134 := (W9_f (tg_74 F126) (W9_f (tg_75 F100) j_98))
    have c_135 : M129.2.1 77 28 = (M.2.1 77 28) := (F_n F126 (show ¬ (77 = 77 ∧ (14 ≤ 28 ∧ 28 ≤ 16 ∨ 28 = 25)) by decide) (F_n F100 (show ¬ (77 = 77 ∧ (28 = 1 ∨ 4 ≤ 28 ∧ 28 ≤ 10)) by decide) (W_n W87 (by decide) rfl)))
    have b_136 := g_b hG (a := 77) (i := 28) (lo := 0) (hi := 30) rfl rfl
    have t_137 : (M129.2.1 77 28).toInt = (M.2.1 77 28).toInt := congrArg Int32.toInt c_135
    have c_138 : M129.2.1 77 29 = (M.2.1 77 29) := (F_n F126 (show ¬ (77 = 77 ∧ (14 ≤ 29 ∧ 29 ≤ 16 ∨ 29 = 25)) by decide) (F_n F100 (show ¬ (77 = 77 ∧ (29 = 1 ∨ 4 ≤ 29 ∧ 29 ≤ 10)) by decide) (W_n W87 (by decide) rfl)))
    have b_139 := g_b hG (a := 77) (i := 29) (lo := 0) (hi := 150) rfl rfl
    have t_140 : (M129.2.1 77 29).toInt = (M.2.1 77 29).toInt := congrArg Int32.toInt c_138
    have c_141 : M129.2.1 77 41 = (M.2.1 77 41) := (F_n F126 (show ¬ (77 = 77 ∧ (14 ≤ 41 ∧ 41 ≤ 16 ∨ 41 = 25)) by decide) (F_n F100 (show ¬ (77 = 77 ∧ (41 = 1 ∨ 4 ≤ 41 ∧ 41 ≤ 10)) by decide) (W_n W87 (by decide) rfl)))
    have t_142 : (M129.2.1 77 41).toInt = (M.2.1 77 41).toInt := congrArg Int32.toInt c_141
    have c_143 : M129.2.1 77 10 = (M108.2.1 77 10) := (F_n F126 (show ¬ (77 = 77 ∧ (14 ≤ 10 ∧ 10 ≤ 16 ∨ 10 = 25)) by decide) rfl)
    have t_144 : (M129.2.1 77 10).toInt = (M108.2.1 77 10).toInt := congrArg Int32.toInt c_143
    exact (U_173_0 (n := n) (t := t) (nn := nn) hX hd q1 q2 q3 q4 h ((22 - (0 : Int32).toInt).toNat + 1)) M129 (.int n) (0 : Int32) hG127 F130 (by omega) (by omega) (by omega) (by omega) (by omega) (by omega) (by omega) j_132 j_133 j_134 (by omega) (by omega) (by omega) (fun s9 h9 => PLk2_f (fun a i z => (F_n F126 (show ¬ (a = 77 ∧ (14 ≤ i ∧ i ≤ 16 ∨ i = 25)) by omega) (F_n F100 (show ¬ (a = 77 ∧ (i = 1 ∨ 4 ≤ i ∧ i ≤ 10)) by omega) (W_n W87 (by /-r77,2-/ omega) rfl)))) (fun i hi9 => (F_nl F126 (show ¬ (87 = 77 ∧ (14 ≤ i ∧ i ≤ 16 ∨ i = 25)) by omega) (F_nl F100 (show ¬ (87 = 77 ∧ (i = 1 ∨ 4 ≤ i ∧ i ≤ 10)) by omega) (W_j W87 rfl)))) h9) (IVr_0 ⟨p_128, CWr_0⟩ (by omega) (by omega)) (by omega)
end
