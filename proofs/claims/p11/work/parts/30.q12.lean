set_option maxRecDepth 4000 in
set_option maxHeartbeats 0 in
theorem E_172 {X : mm_X} {d : Nat} {M : mm_M} {Q : Option Value → mm_M → Prop} {x : Int32} {t : Nat → Int} {nn : Int} {a : Int} {sg : x_S} {L : Int} {fu : Nat} (hX : g_X X) (hd : 4 ≤ d) (hG : g_G M) (q1 : RS M t nn) (q2 : (M.2.1 77 10).toInt = a) (q3 : 0 ≤ nn) (q4 : nn ≤ 500) (q5 : TR M t nn) (q6 : W9 M) (q7 : PLr M sg) (q8 : 0 ≤ x.toInt) (q9 : x.toInt ≤ 1) (q10 : 0 ≤ L) (q11 : x.toInt = 1 → L = 0) (q12 : x.toInt = 0 → 0 < L) (h : ∀ (r : Int32) (M1 : mm_M), g_G M1 → FR md_l172 M M1 → (0 ≤ r.toInt) → (r.toInt ≤ 1) → RS M1 t nn → ((r.toInt = 0 → x_line t nn L sg a (x_kk t nn fu L) = none)) → ((r.toInt = 1 → LOr t nn (x_line t nn L sg a (x_kk t nn fu L)) fu L M1 sg)) → Q (some (.int r)) M1) : mm_T X d 171 0 [.ref 77, .int x] [] M Q := by
  have F0 : FR md_l172 M M := FR.rf
  have b_1 := g_b hG (a := 77) (i := 10) (lo := 0) (hi := 500) rfl rfl
  have z_2 := q7.2.1
  have z_3 := q7.2.2.1
  have z_4 := q7.2.2.2.1
  have z_5 := q7.1
  have z_6 := z_5.1
  have z_7 := z_5.2.1
  have z_8 := z_5.2.2.1
  have z_9 := z_5.2.2.2.1
  have z_10 := z_5.2.2.2.2.1
  have z_11 := z_5.2.2.2.2.2.1
  have b_12 := g_b hG (a := 77) (i := 14) (lo := 10) (hi := 60) rfl rfl
  have b_13 := g_b hG (a := 77) (i := 15) (lo := 0) (hi := 8) rfl rfl
  have b_14 := g_b hG (a := 77) (i := 16) (lo := 0) (hi := 12) rfl rfl
  have b_15 := g_b hG (a := 77) (i := 8) (lo := 0) (hi := 5) rfl rfl
  have c_16 := RS_u q1 (a := a) (by omega)
  unfold x_R at c_16
  refine to_an (pc := 0) rw_172_0 rfl ?_
  refine tt_gI (pc := 1) rw_172_1 (g_o hG rfl) (v := (M.2.1 77 8)) rfl ?_
  refine to_c (pc := 4) rw_172_4 (x := (1 : Int32)) rfl rfl ?_
  refine b_cne (pc := 5) rw_172_5 (A := (M.2.1 77 8).toInt) (B := 1) rfl rfl (fun h17 => ?_) (fun h17 => ?_)
  · refine to_an (pc := 27) rw_172_27 rfl ?_
    refine to_c (pc := 28) rw_172_28 (x := (1 : Int32)) rfl rfl ?_
    refine s_v (pc := 29) rw_172_29 (by omega) (ls0 := [.ref 77, .int (1 : Int32)]) rfl (Nat.le_of_ble_eq_true rfl) (Nat.le_of_ble_eq_true rfl) rfl (to_rc rfl rfl rfl (g_o hG rfl)) rfl ?_
    refine to_an (pc := 0) rw_152_0 rfl ?_
    refine to_in (pc := 1) rw_152_1 rfl ?_
    refine s_pI (pc := 2) rw_152_2 hG rfl (fun M19 W18 => ?_)
    have hG20 := g_wf hG W18 rfl rfl (by decide)
    have F21 := FR.w F0 W18 (show 77 = 77 ∧ (4 = 4 ∨ 4 = 5 ∨ 7 ≤ 4 ∧ 4 ≤ 10 ∨ 14 ≤ 4 ∧ 4 ≤ 16 ∨ 4 = 25) ∨ 80 ≤ 77 ∧ 77 ≤ 84 ∧ 8 ≤ 4 ∨ 85 ≤ 77 ∧ 77 ≤ 87 ∧ 12 ≤ 4 by omega)
    refine to_an (pc := 5) rw_152_5 rfl ?_
    refine to_an (pc := 6) rw_152_6 rfl ?_
    have c_22 : M19.2.1 77 10 = (M.2.1 77 10) := (W_n W18 (by decide) rfl)
    refine tt_gI (pc := 7) rw_152_7 (g_o hG20 rfl) (v := (M.2.1 77 10)) c_22 ?_
    refine s_pI (pc := 10) rw_152_10 hG20 rfl (fun M24 W23 => ?_)
    have hG25 := g_wf hG20 W23 rfl rfl (by decide)
    have F26 := FR.w F21 W23 (show 77 = 77 ∧ (5 = 4 ∨ 5 = 5 ∨ 7 ≤ 5 ∧ 5 ≤ 10 ∨ 14 ≤ 5 ∧ 5 ≤ 16 ∨ 5 = 25) ∨ 80 ≤ 77 ∧ 77 ≤ 84 ∧ 8 ≤ 5 ∨ 85 ≤ 77 ∧ 77 ≤ 87 ∧ 12 ≤ 5 by omega)
    refine to_c (pc := 13) rw_152_13 (x := (0 : Int32)) rfl rfl ?_
    refine s_r1 (pc := 14) rw_152_14 (A := 0) rfl (by omega) ?_
    refine s_r1 (pc := 32) rw_172_32 (A := 0) rfl (by omega) ?_
    have k_27 : (0 : Int32).toInt = 0 := rfl
    have j_28 := (RS_f (fun a i z => W_n W23 (by omega) rfl) (RS_f (fun a i z => W_n W18 (by omega) rfl) q1))
    exact h (0 : Int32) M24 hG25 F26 (by omega) (by omega) j_28 (fun _ => by first | exact x_line_n (by omega) | exact x_line_t (by omega) (by omega) | exact (if g9 : x_kind t nn a = 1 then x_line_t (by omega) (by omega) else x_line_n (by omega)) | exact (x_line_h (by omega) (by omega) (by omega)).trans (x_holes_n (by omega))) (fun z => by exfalso; omega)
  · refine to_an (pc := 8) rw_172_8 rfl ?_
    refine tt_gI (pc := 9) rw_172_9 (g_o hG rfl) (v := (M.2.1 77 9)) rfl ?_
    refine to_c (pc := 12) rw_172_12 (x := (2 : Int32)) rfl rfl ?_
    refine b_cgt (pc := 13) rw_172_13 (A := (M.2.1 77 9).toInt) (B := 2) rfl rfl (fun h29 => ?_) (fun h29 => ?_)
    · refine to_an (pc := 27) rw_172_27 rfl ?_
      refine to_c (pc := 28) rw_172_28 (x := (1 : Int32)) rfl rfl ?_
      refine s_v (pc := 29) rw_172_29 (by omega) (ls0 := [.ref 77, .int (1 : Int32)]) rfl (Nat.le_of_ble_eq_true rfl) (Nat.le_of_ble_eq_true rfl) rfl (to_rc rfl rfl rfl (g_o hG rfl)) rfl ?_
      refine to_an (pc := 0) rw_152_0 rfl ?_
      refine to_in (pc := 1) rw_152_1 rfl ?_
      refine s_pI (pc := 2) rw_152_2 hG rfl (fun M31 W30 => ?_)
      have hG32 := g_wf hG W30 rfl rfl (by decide)
      have F33 := FR.w F0 W30 (show 77 = 77 ∧ (4 = 4 ∨ 4 = 5 ∨ 7 ≤ 4 ∧ 4 ≤ 10 ∨ 14 ≤ 4 ∧ 4 ≤ 16 ∨ 4 = 25) ∨ 80 ≤ 77 ∧ 77 ≤ 84 ∧ 8 ≤ 4 ∨ 85 ≤ 77 ∧ 77 ≤ 87 ∧ 12 ≤ 4 by omega)
      refine to_an (pc := 5) rw_152_5 rfl ?_
      refine to_an (pc := 6) rw_152_6 rfl ?_
      have c_34 : M31.2.1 77 10 = (M.2.1 77 10) := (W_n W30 (by decide) rfl)
      refine tt_gI (pc := 7) rw_152_7 (g_o hG32 rfl) (v := (M.2.1 77 10)) c_34 ?_
      refine s_pI (pc := 10) rw_152_10 hG32 rfl (fun M36 W35 => ?_)
      have hG37 := g_wf hG32 W35 rfl rfl (by decide)
      have F38 := FR.w F33 W35 (show 77 = 77 ∧ (5 = 4 ∨ 5 = 5 ∨ 7 ≤ 5 ∧ 5 ≤ 10 ∨ 14 ≤ 5 ∧ 5 ≤ 16 ∨ 5 = 25) ∨ 80 ≤ 77 ∧ 77 ≤ 84 ∧ 8 ≤ 5 ∨ 85 ≤ 77 ∧ 77 ≤ 87 ∧ 12 ≤ 5 by omega)
      refine to_c (pc := 13) rw_152_13 (x := (0 : Int32)) rfl rfl ?_
      refine s_r1 (pc := 14) rw_152_14 (A := 0) rfl (by omega) ?_
      refine s_r1 (pc := 32) rw_172_32 (A := 0) rfl (by omega) ?_
      have k_39 : (0 : Int32).toInt = 0 := rfl
      have j_40 := (RS_f (fun a i z => W_n W35 (by omega) rfl) (RS_f (fun a i z => W_n W30 (by omega) rfl) q1))
      exact h (0 : Int32) M36 hG37 F38 (by omega) (by omega) j_40 (fun _ => by first | exact x_line_n (by omega) | exact x_line_t (by omega) (by omega) | exact (if g9 : x_kind t nn a = 1 then x_line_t (by omega) (by omega) else x_line_n (by omega)) | exact (x_line_h (by omega) (by omega) (by omega)).trans (x_holes_n (by omega))) (fun z => by exfalso; omega)
    · refine to_in (pc := 16) rw_172_16 rfl ?_
      refine b_ieq (pc := 17) rw_172_17 (A := x.toInt) rfl (fun h41 => ?_) (fun h41 => ?_)
      · refine to_an (pc := 33) rw_172_33 rfl ?_
        refine tt_gI (pc := 34) rw_172_34 (g_o hG rfl) (v := (M.2.1 77 9)) rfl ?_
        refine b_ine (pc := 37) rw_172_37 (A := (M.2.1 77 9).toInt) rfl (fun h42 => ?_) (fun h42 => ?_)
        · refine to_an (pc := 82) rw_172_82 rfl ?_
          refine tt_gI (pc := 83) rw_172_83 (g_o hG rfl) (v := (M.2.1 77 9)) rfl ?_
          refine to_c (pc := 86) rw_172_86 (x := (1 : Int32)) rfl rfl ?_
          refine b_cne (pc := 87) rw_172_87 (A := (M.2.1 77 9).toInt) (B := 1) rfl rfl (fun h43 => ?_) (fun h43 => ?_)
          · refine to_an (pc := 100) rw_172_100 rfl ?_
            refine s_v (pc := 101) rw_172_101 (by omega) (ls0 := [.ref 77, .null, .null, .null, .null, .null]) rfl (Nat.le_of_ble_eq_true rfl) (Nat.le_of_ble_eq_true rfl) rfl (to_rc rfl rfl rfl (g_o hG rfl)) rfl ?_
            refine E_171 hX (by omega) hG q1 (by omega) (by omega) (by omega) q5 q6 q7 (t := t) (nn := nn) (a := a) (sg := sg) (k := (x_kk t nn fu L)) (fun r44 M52 hG46 F45 p_47 p_48 p_49 p_50 p_51 => ?_)
            have F53 := FR.c F0 F45 (fun a i z => show a = 77 ∧ (i = 4 ∨ i = 5 ∨ 7 ≤ i ∧ i ≤ 10 ∨ 14 ≤ i ∧ i ≤ 16 ∨ i = 25) ∨ 80 ≤ a ∧ a ≤ 84 ∧ 8 ≤ i ∨ 85 ≤ a ∧ a ≤ 87 ∧ 12 ≤ i by have z : a = 77 ∧ (i = 4 ∨ i = 5 ∨ 7 ≤ i ∧ i ≤ 10 ∨ i = 16) ∨ 85 ≤ a ∧ a ≤ 87 ∧ 12 ≤ i := z; omega)
            rcases (show r44.toInt = 0 ∨ r44.toInt = 1 by omega) with h54 | h54
            · skip
              have p_55 := p_50 (by omega)
              clear p_50 p_51
              have b_56 := g_b hG46 (a := 77) (i := 10) (lo := 0) (hi := 500) rfl rfl
              have z_57 : x_line t nn L sg a (x_kk t nn fu L) = x_word t nn sg (x_ns t nn a) (x_kk t nn fu L) := x_line_w (by omega) (by omega) (by omega)
              refine b_ine_f (pc := 104) rw_172_104 (A := r44.toInt) rfl (by omega) ?_
              refine to_c (pc := 107) rw_172_107 (x := (0 : Int32)) rfl rfl ?_
              refine s_r1 (pc := 108) rw_172_108 (A := 0) rfl (by omega) ?_
              have k_58 : (0 : Int32).toInt = 0 := rfl
              exact h (0 : Int32) M52 hG46 F53 (by omega) (by omega) p_49 (fun _ => z_57.trans p_55) (fun z => by exfalso; omega)
            · skip
              have p_59 := p_51 (by omega)
              clear p_50 p_51
              have b_60 := g_b hG46 (a := 77) (i := 10) (lo := 0) (hi := 500) rfl rfl
              have z_61 : x_line t nn L sg a (x_kk t nn fu L) = x_word t nn sg (x_ns t nn a) (x_kk t nn fu L) := x_line_w (by omega) (by omega) (by omega)
              refine b_ine_t (pc := 104) rw_172_104 (A := r44.toInt) rfl (by omega) ?_
              refine to_an (pc := 109) rw_172_109 rfl ?_
              refine to_c (pc := 110) rw_172_110 (x := (59 : Int32)) rfl rfl ?_
              refine s_v (pc := 112) rw_172_112 (by omega) (ls0 := [.ref 77, .int (59 : Int32)]) rfl (Nat.le_of_ble_eq_true rfl) (Nat.le_of_ble_eq_true rfl) rfl (to_rc rfl rfl rfl (g_o hG46 rfl)) rfl ?_
              have k_62 : (59 : Int32).toInt = 59 := rfl
              have j_63 := (TR_f (fun a i z => F_n F45 (show ¬ (a = 77 ∧ (i = 4 ∨ i = 5 ∨ 7 ≤ i ∧ i ≤ 10 ∨ i = 16) ∨ 85 ≤ a ∧ a ≤ 87 ∧ 12 ≤ i) by omega) rfl) q5)
              have j_64 := (W9_f (fun a i z => F_n F45 (show ¬ (a = 77 ∧ (i = 4 ∨ i = 5 ∨ 7 ≤ i ∧ i ≤ 10 ∨ i = 16) ∨ 85 ≤ a ∧ a ≤ 87 ∧ 12 ≤ i) by omega) rfl) q6)
              refine E_160 hX (by omega) hG46 p_49 (by omega) (by omega) (by omega) j_63 j_64 (by omega) (c := (59 : Int32)) (t := t) (nn := nn) (a := (M52.2.1 77 10).toInt) (fun r65 M73 hG67 F66 p_68 p_69 p_70 p_71 p_72 => ?_)
              have F74 := FR.c F53 F66 (fun a i z => show a = 77 ∧ (i = 4 ∨ i = 5 ∨ 7 ≤ i ∧ i ≤ 10 ∨ 14 ≤ i ∧ i ≤ 16 ∨ i = 25) ∨ 80 ≤ a ∧ a ≤ 84 ∧ 8 ≤ i ∨ 85 ≤ a ∧ a ≤ 87 ∧ 12 ≤ i by have z : a = 77 ∧ (i = 4 ∨ i = 5 ∨ 7 ≤ i ∧ i ≤ 10) := z; omega)
              have b_75 := g_b hG67 (a := 77) (i := 10) (lo := 0) (hi := 500) rfl rfl
              rcases (show r65.toInt = 0 ∨ r65.toInt = 1 by omega) with h76 | h76
              · skip
                have p_77 := p_72 (by omega)
                clear p_71 p_72
                refine s_r1 (pc := 115) rw_172_115 (A := r65.toInt) rfl (by omega) ?_
                exact h r65 M73 hG67 F74 (by omega) (by omega) p_70 (fun _ => LOr_wn p_59 z_61 rfl (by omega)) (fun z => by exfalso; omega)
              · skip
                have p_78 := p_71 (by omega)
                clear p_71 p_72
                refine s_r1 (pc := 115) rw_172_115 (A := r65.toInt) rfl (by omega) ?_
                have tr_79 : ∀ s9 : x_S, PLr M52 s9 → PLr M73 s9 := fun s9 h9 => PLr_f (fun a i z => (F_n F66 (show ¬ (a = 77 ∧ (i = 4 ∨ i = 5 ∨ 7 ≤ i ∧ i ≤ 10)) by omega) rfl)) (F_nl F66 (show ¬ (77 = 77 ∧ (25 = 4 ∨ 25 = 5 ∨ 7 ≤ 25 ∧ 25 ≤ 10)) by omega) rfl) h9
                exact h r65 M73 hG67 F74 (by omega) (by omega) p_70 (fun z => by exfalso; omega) (fun _ => LOr_w p_59 z_61 rfl (by omega) (by omega) (by omega) tr_79)
          · refine to_an (pc := 90) rw_172_90 rfl ?_
            refine s_v (pc := 91) rw_172_91 (by omega) (ls0 := [.ref 77, .null, .null, .null, .null, .null, .null, .null, .null]) rfl (Nat.le_of_ble_eq_true rfl) (Nat.le_of_ble_eq_true rfl) rfl (to_rc rfl rfl rfl (g_o hG rfl)) rfl ?_
            refine E_170 hX (by omega) hG q1 (by omega) (by omega) (by omega) q5 q6 q7 (t := t) (nn := nn) (a := a) (sg := sg) (k := (x_kk t nn fu L)) (fun r80 M88 hG82 F81 p_83 p_84 p_85 p_86 p_87 => ?_)
            have F89 := FR.c F0 F81 (fun a i z => show a = 77 ∧ (i = 4 ∨ i = 5 ∨ 7 ≤ i ∧ i ≤ 10 ∨ 14 ≤ i ∧ i ≤ 16 ∨ i = 25) ∨ 80 ≤ a ∧ a ≤ 84 ∧ 8 ≤ i ∨ 85 ≤ a ∧ a ≤ 87 ∧ 12 ≤ i by have z : a = 77 ∧ (i = 4 ∨ i = 5 ∨ 7 ≤ i ∧ i ≤ 10 ∨ i = 15 ∨ i = 25) ∨ 80 ≤ a ∧ a ≤ 84 ∧ 8 ≤ i := z; omega)
            rcases (show r80.toInt = 0 ∨ r80.toInt = 1 by omega) with h90 | h90
            · skip
              have p_91 := p_86 (by omega)
              clear p_86 p_87
              have b_92 := g_b hG82 (a := 77) (i := 10) (lo := 0) (hi := 500) rfl rfl
              have z_93 : x_line t nn L sg a (x_kk t nn fu L) = x_field t nn sg (x_ns t nn a) (x_kk t nn fu L) := x_line_f (by omega) (by omega) (by omega)
              refine b_ine_f (pc := 94) rw_172_94 (A := r80.toInt) rfl (by omega) ?_
              refine to_go (pc := 97) rw_172_97 ?_
              refine to_c (pc := 107) rw_172_107 (x := (0 : Int32)) rfl rfl ?_
              refine s_r1 (pc := 108) rw_172_108 (A := 0) rfl (by omega) ?_
              have k_94 : (0 : Int32).toInt = 0 := rfl
              exact h (0 : Int32) M88 hG82 F89 (by omega) (by omega) p_85 (fun _ => z_93.trans p_91) (fun z => by exfalso; omega)
            · skip
              have p_95 := p_87 (by omega)
              clear p_86 p_87
              have b_96 := g_b hG82 (a := 77) (i := 10) (lo := 0) (hi := 500) rfl rfl
              have z_97 : x_line t nn L sg a (x_kk t nn fu L) = x_field t nn sg (x_ns t nn a) (x_kk t nn fu L) := x_line_f (by omega) (by omega) (by omega)
              refine b_ine_t (pc := 94) rw_172_94 (A := r80.toInt) rfl (by omega) ?_
              refine to_an (pc := 109) rw_172_109 rfl ?_
              refine to_c (pc := 110) rw_172_110 (x := (59 : Int32)) rfl rfl ?_
              refine s_v (pc := 112) rw_172_112 (by omega) (ls0 := [.ref 77, .int (59 : Int32)]) rfl (Nat.le_of_ble_eq_true rfl) (Nat.le_of_ble_eq_true rfl) rfl (to_rc rfl rfl rfl (g_o hG82 rfl)) rfl ?_
              have k_98 : (59 : Int32).toInt = 59 := rfl
              have j_99 := (TR_f (fun a i z => F_n F81 (show ¬ (a = 77 ∧ (i = 4 ∨ i = 5 ∨ 7 ≤ i ∧ i ≤ 10 ∨ i = 15 ∨ i = 25) ∨ 80 ≤ a ∧ a ≤ 84 ∧ 8 ≤ i) by omega) rfl) q5)
              have j_100 := (W9_f (fun a i z => F_n F81 (show ¬ (a = 77 ∧ (i = 4 ∨ i = 5 ∨ 7 ≤ i ∧ i ≤ 10 ∨ i = 15 ∨ i = 25) ∨ 80 ≤ a ∧ a ≤ 84 ∧ 8 ≤ i) by omega) rfl) q6)
              refine E_160 hX (by omega) hG82 p_85 (by omega) (by omega) (by omega) j_99 j_100 (by omega) (c := (59 : Int32)) (t := t) (nn := nn) (a := (M88.2.1 77 10).toInt) (fun r101 M109 hG103 F102 p_104 p_105 p_106 p_107 p_108 => ?_)
              have F110 := FR.c F89 F102 (fun a i z => show a = 77 ∧ (i = 4 ∨ i = 5 ∨ 7 ≤ i ∧ i ≤ 10 ∨ 14 ≤ i ∧ i ≤ 16 ∨ i = 25) ∨ 80 ≤ a ∧ a ≤ 84 ∧ 8 ≤ i ∨ 85 ≤ a ∧ a ≤ 87 ∧ 12 ≤ i by have z : a = 77 ∧ (i = 4 ∨ i = 5 ∨ 7 ≤ i ∧ i ≤ 10) := z; omega)
              have b_111 := g_b hG103 (a := 77) (i := 10) (lo := 0) (hi := 500) rfl rfl
              rcases (show r101.toInt = 0 ∨ r101.toInt = 1 by omega) with h112 | h112
              · skip
                have p_113 := p_108 (by omega)
                clear p_107 p_108
                refine s_r1 (pc := 115) rw_172_115 (A := r101.toInt) rfl (by omega) ?_
                exact h r101 M109 hG103 F110 (by omega) (by omega) p_106 (fun _ => LOr_fn p_95 z_97 rfl (by omega)) (fun z => by exfalso; omega)
              · skip
                have p_114 := p_107 (by omega)
                clear p_107 p_108
                refine s_r1 (pc := 115) rw_172_115 (A := r101.toInt) rfl (by omega) ?_
                have tr_115 : ∀ s9 : x_S, PLr M88 s9 → PLr M109 s9 := fun s9 h9 => PLr_f (fun a i z => (F_n F102 (show ¬ (a = 77 ∧ (i = 4 ∨ i = 5 ∨ 7 ≤ i ∧ i ≤ 10)) by omega) rfl)) (F_nl F102 (show ¬ (77 = 77 ∧ (25 = 4 ∨ 25 = 5 ∨ 7 ≤ 25 ∧ 25 ≤ 10)) by omega) rfl) h9
                exact h r101 M109 hG103 F110 (by omega) (by omega) p_106 (fun z => by exfalso; omega) (fun _ => LOr_f p_95 z_97 rfl (by omega) (by omega) (by omega) tr_115)
        · refine to_in (pc := 40) rw_172_40 rfl ?_
          refine b_ine_f (pc := 41) rw_172_41 (A := x.toInt) rfl (by omega) ?_
          refine to_an (pc := 44) rw_172_44 rfl ?_
          refine to_c (pc := 45) rw_172_45 (x := (3 : Int32)) rfl rfl ?_
          refine s_v (pc := 46) rw_172_46 (by omega) (ls0 := [.ref 77, .int (3 : Int32)]) rfl (Nat.le_of_ble_eq_true rfl) (Nat.le_of_ble_eq_true rfl) rfl (to_rc rfl rfl rfl (g_o hG rfl)) rfl ?_
          refine to_an (pc := 0) rw_152_0 rfl ?_
          refine to_in (pc := 1) rw_152_1 rfl ?_
          refine s_pI (pc := 2) rw_152_2 hG rfl (fun M117 W116 => ?_)
          have hG118 := g_wf hG W116 rfl rfl (by decide)
          have F119 := FR.w F0 W116 (show 77 = 77 ∧ (4 = 4 ∨ 4 = 5 ∨ 7 ≤ 4 ∧ 4 ≤ 10 ∨ 14 ≤ 4 ∧ 4 ≤ 16 ∨ 4 = 25) ∨ 80 ≤ 77 ∧ 77 ≤ 84 ∧ 8 ≤ 4 ∨ 85 ≤ 77 ∧ 77 ≤ 87 ∧ 12 ≤ 4 by omega)
          refine to_an (pc := 5) rw_152_5 rfl ?_
          refine to_an (pc := 6) rw_152_6 rfl ?_
          have c_120 : M117.2.1 77 10 = (M.2.1 77 10) := (W_n W116 (by decide) rfl)
          refine tt_gI (pc := 7) rw_152_7 (g_o hG118 rfl) (v := (M.2.1 77 10)) c_120 ?_
          refine s_pI (pc := 10) rw_152_10 hG118 rfl (fun M122 W121 => ?_)
          have hG123 := g_wf hG118 W121 rfl rfl (by decide)
          have F124 := FR.w F119 W121 (show 77 = 77 ∧ (5 = 4 ∨ 5 = 5 ∨ 7 ≤ 5 ∧ 5 ≤ 10 ∨ 14 ≤ 5 ∧ 5 ≤ 16 ∨ 5 = 25) ∨ 80 ≤ 77 ∧ 77 ≤ 84 ∧ 8 ≤ 5 ∨ 85 ≤ 77 ∧ 77 ≤ 87 ∧ 12 ≤ 5 by omega)
          refine to_c (pc := 13) rw_152_13 (x := (0 : Int32)) rfl rfl ?_
          refine s_r1 (pc := 14) rw_152_14 (A := 0) rfl (by omega) ?_
          refine s_r1 (pc := 49) rw_172_49 (A := 0) rfl (by omega) ?_
          have k_125 : (0 : Int32).toInt = 0 := rfl
          have j_126 := (RS_f (fun a i z => W_n W121 (by omega) rfl) (RS_f (fun a i z => W_n W116 (by omega) rfl) q1))
          exact h (0 : Int32) M122 hG123 F124 (by omega) (by omega) j_126 (fun _ => by first | exact x_line_n (by omega) | exact x_line_t (by omega) (by omega) | exact (if g9 : x_kind t nn a = 1 then x_line_t (by omega) (by omega) else x_line_n (by omega)) | exact (x_line_h (by omega) (by omega) (by omega)).trans (x_holes_n (by omega))) (fun z => by exfalso; omega)
      · refine to_an (pc := 20) rw_172_20 rfl ?_
        refine tt_gI (pc := 21) rw_172_21 (g_o hG rfl) (v := (M.2.1 77 9)) rfl ?_
        refine b_ieq (pc := 24) rw_172_24 (A := (M.2.1 77 9).toInt) rfl (fun h127 => ?_) (fun h127 => ?_)
        · refine to_an (pc := 33) rw_172_33 rfl ?_
          refine tt_gI (pc := 34) rw_172_34 (g_o hG rfl) (v := (M.2.1 77 9)) rfl ?_
          refine b_ine_f (pc := 37) rw_172_37 (A := (M.2.1 77 9).toInt) rfl (by omega) ?_
          refine to_in (pc := 40) rw_172_40 rfl ?_
          refine b_ine_t (pc := 41) rw_172_41 (A := x.toInt) rfl (by omega) ?_
          refine to_an (pc := 50) rw_172_50 rfl ?_
          refine s_v (pc := 51) rw_172_51 (by omega) (ls0 := [.ref 77]) rfl (Nat.le_of_ble_eq_true rfl) (Nat.le_of_ble_eq_true rfl) rfl (to_rc rfl rfl rfl (g_o hG rfl)) rfl ?_
          have b_128 := g_b hG (a := 77) (i := 7) (lo := 0) (hi := 500) rfl rfl
          have b_129 := g_b hG (a := 77) (i := 6) (lo := 0) (hi := 500) rfl rfl
          have z_130 := RS_b q1 (a := a) (by omega)
          refine E_156 hX (by omega) hG (by omega) (by omega) (by omega) (by omega) q5 q6  (fun M137 hG132 F131 p_133 p_134 p_135 p_136 => ?_)
          have F138 := FR.c F0 F131 (fun a i z => show a = 77 ∧ (i = 4 ∨ i = 5 ∨ 7 ≤ i ∧ i ≤ 10 ∨ 14 ≤ i ∧ i ≤ 16 ∨ i = 25) ∨ 80 ≤ a ∧ a ≤ 84 ∧ 8 ≤ i ∨ 85 ≤ a ∧ a ≤ 87 ∧ 12 ≤ i by have z : a = 77 ∧ 7 ≤ i ∧ i ≤ 10 := z; omega)
          have b_139 := g_b hG132 (a := 77) (i := 7) (lo := 0) (hi := 500) rfl rfl
          have c_140 : M137.2.1 77 6 = (M.2.1 77 6) := (F_n F131 (show ¬ (77 = 77 ∧ 7 ≤ 6 ∧ 6 ≤ 10) by omega) rfl)
          have t_141 : (M137.2.1 77 6).toInt = (M.2.1 77 6).toInt := congrArg Int32.toInt c_140
          have b_142 := g_b hG132 (a := 77) (i := 8) (lo := 0) (hi := 5) rfl rfl
          have b_143 := g_b hG132 (a := 77) (i := 10) (lo := 0) (hi := 500) rfl rfl
          have z_144 := RS_s p_136.2 (a := a) (by omega)
          refine to_an (pc := 54) rw_172_54 rfl ?_
          refine to_c (pc := 55) rw_172_55 (x := (10 : Int32)) rfl rfl ?_
          refine to_c (pc := 57) rw_172_57 (x := (60 : Int32)) rfl rfl ?_
          refine s_v (pc := 59) rw_172_59 (by omega) (ls0 := [.ref 77, .int (10 : Int32), .int (60 : Int32)]) rfl (Nat.le_of_ble_eq_true rfl) (Nat.le_of_ble_eq_true rfl) rfl (to_rc rfl rfl rfl (g_o hG132 rfl)) rfl ?_
          have k_145 : (10 : Int32).toInt = 10 := rfl
          have k_146 : (60 : Int32).toInt = 60 := rfl
          refine E_162 hX (by omega) hG132 p_136.1 (by omega) (by omega) (l := (10 : Int32)) (m := (60 : Int32)) (t := t) (nn := nn) (a := (x_ns t nn a)) (fun r147 M154 hG149 F148 p_150 p_151 p_152 p_153 => ?_)
          have F155 := FR.c F138 F148 (fun a i z => show a = 77 ∧ (i = 4 ∨ i = 5 ∨ 7 ≤ i ∧ i ≤ 10 ∨ 14 ≤ i ∧ i ≤ 16 ∨ i = 25) ∨ 80 ≤ a ∧ a ≤ 84 ∧ 8 ≤ i ∨ 85 ≤ a ∧ a ≤ 87 ∧ 12 ≤ i by have z : a = 77 ∧ (i = 4 ∨ i = 5) := z; omega)
          rcases (show r147.toInt = 0 ∨ r147.toInt = 1 by omega) with h156 | h156
          · skip
            have p_157 := p_153 (by omega)
            clear p_152 p_153
            have z_158 := x_val_b (t := t) (nn := nn) (a := (x_ns t nn a))
            refine b_ine_f (pc := 62) rw_172_62 (A := r147.toInt) rfl (by omega) ?_
            refine to_c (pc := 65) rw_172_65 (x := (0 : Int32)) rfl rfl ?_
            refine s_r1 (pc := 66) rw_172_66 (A := 0) rfl (by omega) ?_
            have k_159 : (0 : Int32).toInt = 0 := rfl
            have j_160 := (RS_f (fun a i z => F_n F148 (show ¬ (a = 77 ∧ (i = 4 ∨ i = 5)) by omega) rfl) p_136.1)
            exact h (0 : Int32) M154 hG149 F155 (by omega) (by omega) j_160 (fun _ => by first | exact x_line_n (by omega) | exact x_line_t (by omega) (by omega) | exact (if g9 : x_kind t nn a = 1 then x_line_t (by omega) (by omega) else x_line_n (by omega)) | exact (x_line_h (by omega) (by omega) (by omega)).trans (x_holes_n (by omega))) (fun z => by exfalso; omega)
          · skip
            have p_161 := p_152 (by omega)
            clear p_152 p_153
            have c_162 : M154.2.1 77 9 = (M137.2.1 77 9) := (F_n F148 (show ¬ (77 = 77 ∧ (9 = 4 ∨ 9 = 5)) by omega) rfl)
            have z_163 := x_val_b (t := t) (nn := nn) (a := (x_ns t nn a)) (by omega)
            refine b_ine_t (pc := 62) rw_172_62 (A := r147.toInt) rfl (by omega) ?_
            refine to_an (pc := 67) rw_172_67 rfl ?_
            refine to_an (pc := 68) rw_172_68 rfl ?_
            refine tt_gI (pc := 69) rw_172_69 (g_o hG149 rfl) (v := (M137.2.1 77 9)) c_162 ?_
            have j_164 := (PLr_f (fun a i z => F_n F148 (show ¬ (a = 77 ∧ (i = 4 ∨ i = 5)) by omega) rfl) (F_nl F148 (show ¬ (77 = 77 ∧ (25 = 4 ∨ 25 = 5)) by omega) rfl) (PLr_f (fun a i z => F_n F131 (show ¬ (a = 77 ∧ 7 ≤ i ∧ i ≤ 10) by omega) rfl) (F_nl F131 (show ¬ (77 = 77 ∧ 7 ≤ 25 ∧ 25 ≤ 10) by omega) rfl) q7))
            refine s_pI (pc := 72) rw_172_72 hG149 rfl (fun M166 W165 => ?_)
            have hG167 := g_w hG149 W165 (A := (M137.2.1 77 9).toInt) rfl (lo := 10) (hi := 60) rfl rfl (by omega) (by decide)
            have F168 := FR.w F155 W165 (show 77 = 77 ∧ (14 = 4 ∨ 14 = 5 ∨ 7 ≤ 14 ∧ 14 ≤ 10 ∨ 14 ≤ 14 ∧ 14 ≤ 16 ∨ 14 = 25) ∨ 80 ≤ 77 ∧ 77 ≤ 84 ∧ 8 ≤ 14 ∨ 85 ≤ 77 ∧ 77 ≤ 87 ∧ 12 ≤ 14 by omega)
            have z_169 := PLr_h (w := x_val t nn (x_ns t nn a)) j_164 W165 (by omega) (by omega)
            refine to_an (pc := 75) rw_172_75 rfl ?_
            refine s_v (pc := 76) rw_172_76 (by omega) (ls0 := [.ref 77]) rfl (Nat.le_of_ble_eq_true rfl) (Nat.le_of_ble_eq_true rfl) rfl (to_rc rfl rfl rfl (g_o hG167 rfl)) rfl ?_
            have c_170 : M166.2.1 77 7 = (M137.2.1 77 7) := (W_n W165 (by decide) (F_n F148 (show ¬ (77 = 77 ∧ (7 = 4 ∨ 7 = 5)) by omega) rfl))
            have t_171 : (M166.2.1 77 7).toInt = (M137.2.1 77 7).toInt := congrArg Int32.toInt c_170
            have c_172 : M166.2.1 77 6 = (M.2.1 77 6) := (W_n W165 (by decide) (F_n F148 (show ¬ (77 = 77 ∧ (6 = 4 ∨ 6 = 5)) by omega) c_140))
            have t_173 : (M166.2.1 77 6).toInt = (M.2.1 77 6).toInt := congrArg Int32.toInt c_172
            have c_174 : M166.2.1 77 10 = (M137.2.1 77 10) := (W_n W165 (by decide) (F_n F148 (show ¬ (77 = 77 ∧ (10 = 4 ∨ 10 = 5)) by omega) rfl))
            have t_175 : (M166.2.1 77 10).toInt = (M137.2.1 77 10).toInt := congrArg Int32.toInt c_174
            have j_176 := (RS_f (fun a i z => W_n W165 (by omega) rfl) (RS_f (fun a i z => F_n F148 (show ¬ (a = 77 ∧ (i = 4 ∨ i = 5)) by omega) rfl) p_136.1))
            have z_177 := RS_b j_176 (a := (x_ns t nn a)) (by omega)
            have j_178 := (TR_f (fun a i z => W_n W165 (by omega) rfl) (TR_f (fun a i z => F_n F148 (show ¬ (a = 77 ∧ (i = 4 ∨ i = 5)) by omega) rfl) (TR_f (fun a i z => F_n F131 (show ¬ (a = 77 ∧ 7 ≤ i ∧ i ≤ 10) by omega) rfl) q5)))
            have j_179 := (W9_f (fun a i z => W_n W165 (by omega) rfl) (W9_f (fun a i z => F_n F148 (show ¬ (a = 77 ∧ (i = 4 ∨ i = 5)) by omega) rfl) (W9_f (fun a i z => F_n F131 (show ¬ (a = 77 ∧ 7 ≤ i ∧ i ≤ 10) by omega) rfl) q6)))
            refine E_156 hX (by omega) hG167 (by omega) (by omega) (by omega) (by omega) j_178 j_179  (fun M186 hG181 F180 p_182 p_183 p_184 p_185 => ?_)
            have F187 := FR.c F168 F180 (fun a i z => show a = 77 ∧ (i = 4 ∨ i = 5 ∨ 7 ≤ i ∧ i ≤ 10 ∨ 14 ≤ i ∧ i ≤ 16 ∨ i = 25) ∨ 80 ≤ a ∧ a ≤ 84 ∧ 8 ≤ i ∨ 85 ≤ a ∧ a ≤ 87 ∧ 12 ≤ i by have z : a = 77 ∧ 7 ≤ i ∧ i ≤ 10 := z; omega)
            have b_188 := g_b hG181 (a := 77) (i := 7) (lo := 0) (hi := 500) rfl rfl
            have c_189 : M186.2.1 77 6 = (M.2.1 77 6) := (F_n F180 (show ¬ (77 = 77 ∧ 7 ≤ 6 ∧ 6 ≤ 10) by omega) c_172)
            have t_190 : (M186.2.1 77 6).toInt = (M.2.1 77 6).toInt := congrArg Int32.toInt c_189
            have b_191 := g_b hG181 (a := 77) (i := 8) (lo := 0) (hi := 5) rfl rfl
            have b_192 := g_b hG181 (a := 77) (i := 10) (lo := 0) (hi := 500) rfl rfl
            have z_193 := RS_s p_185.2 (a := (x_ns t nn a)) (by omega)
            refine to_go (pc := 79) rw_172_79 ?_
            refine to_an (pc := 109) rw_172_109 rfl ?_
            refine to_c (pc := 110) rw_172_110 (x := (59 : Int32)) rfl rfl ?_
            refine s_v (pc := 112) rw_172_112 (by omega) (ls0 := [.ref 77, .int (59 : Int32)]) rfl (Nat.le_of_ble_eq_true rfl) (Nat.le_of_ble_eq_true rfl) rfl (to_rc rfl rfl rfl (g_o hG181 rfl)) rfl ?_
            have k_194 : (59 : Int32).toInt = 59 := rfl
            have j_195 := (TR_f (fun a i z => F_n F180 (show ¬ (a = 77 ∧ 7 ≤ i ∧ i ≤ 10) by omega) rfl) j_178)
            have j_196 := (W9_f (fun a i z => F_n F180 (show ¬ (a = 77 ∧ 7 ≤ i ∧ i ≤ 10) by omega) rfl) j_179)
            refine E_160 hX (by omega) hG181 p_185.1 (by omega) (by omega) (by omega) j_195 j_196 (by omega) (c := (59 : Int32)) (t := t) (nn := nn) (a := (x_ns t nn (x_ns t nn a))) (fun r197 M205 hG199 F198 p_200 p_201 p_202 p_203 p_204 => ?_)
            have F206 := FR.c F187 F198 (fun a i z => show a = 77 ∧ (i = 4 ∨ i = 5 ∨ 7 ≤ i ∧ i ≤ 10 ∨ 14 ≤ i ∧ i ≤ 16 ∨ i = 25) ∨ 80 ≤ a ∧ a ≤ 84 ∧ 8 ≤ i ∨ 85 ≤ a ∧ a ≤ 87 ∧ 12 ≤ i by have z : a = 77 ∧ (i = 4 ∨ i = 5 ∨ 7 ≤ i ∧ i ≤ 10) := z; omega)
            have b_207 := g_b hG199 (a := 77) (i := 10) (lo := 0) (hi := 500) rfl rfl
            rcases (show r197.toInt = 0 ∨ r197.toInt = 1 by omega) with h208 | h208
            · skip
              have p_209 := p_204 (by omega)
              clear p_203 p_204
              refine s_r1 (pc := 115) rw_172_115 (A := r197.toInt) rfl (by omega) ?_
              have z_210 : x_line t nn L sg a (x_kk t nn fu L) = x_kk t nn fu L (x_ns t nn (x_ns t nn a)) (x_val t nn (x_ns t nn a), sg.2) := (x_line_h (by omega) (by omega) (by omega)).trans (x_holes_y (by omega))
              exact h r197 M205 hG199 F206 (by omega) (by omega) p_202 (fun _ => LOr_hn z_210 (by omega)) (fun z => by exfalso; omega)
            · skip
              have p_211 := p_203 (by omega)
              clear p_203 p_204
              refine s_r1 (pc := 115) rw_172_115 (A := r197.toInt) rfl (by omega) ?_
              have z_212 : x_line t nn L sg a (x_kk t nn fu L) = x_kk t nn fu L (x_ns t nn (x_ns t nn a)) (x_val t nn (x_ns t nn a), sg.2) := (x_line_h (by omega) (by omega) (by omega)).trans (x_holes_y (by omega))
              have j_213 := (PLr_f (fun a i z => F_n F198 (show ¬ (a = 77 ∧ (i = 4 ∨ i = 5 ∨ 7 ≤ i ∧ i ≤ 10)) by omega) rfl) (F_nl F198 (show ¬ (77 = 77 ∧ (25 = 4 ∨ 25 = 5 ∨ 7 ≤ 25 ∧ 25 ≤ 10)) by omega) rfl) (PLr_f (fun a i z => F_n F180 (show ¬ (a = 77 ∧ 7 ≤ i ∧ i ≤ 10) by omega) rfl) (F_nl F180 (show ¬ (77 = 77 ∧ 7 ≤ 25 ∧ 25 ≤ 10) by omega) rfl) z_169))
              exact h r197 M205 hG199 F206 (by omega) (by omega) p_202 (fun z => by exfalso; omega) (fun _ => LOr_h z_212 (by omega) (by omega) (by omega) j_213 rfl)
        · refine to_an (pc := 27) rw_172_27 rfl ?_
          refine to_c (pc := 28) rw_172_28 (x := (1 : Int32)) rfl rfl ?_
          refine s_v (pc := 29) rw_172_29 (by omega) (ls0 := [.ref 77, .int (1 : Int32)]) rfl (Nat.le_of_ble_eq_true rfl) (Nat.le_of_ble_eq_true rfl) rfl (to_rc rfl rfl rfl (g_o hG rfl)) rfl ?_
          refine to_an (pc := 0) rw_152_0 rfl ?_
          refine to_in (pc := 1) rw_152_1 rfl ?_
          refine s_pI (pc := 2) rw_152_2 hG rfl (fun M215 W214 => ?_)
          have hG216 := g_wf hG W214 rfl rfl (by decide)
          have F217 := FR.w F0 W214 (show 77 = 77 ∧ (4 = 4 ∨ 4 = 5 ∨ 7 ≤ 4 ∧ 4 ≤ 10 ∨ 14 ≤ 4 ∧ 4 ≤ 16 ∨ 4 = 25) ∨ 80 ≤ 77 ∧ 77 ≤ 84 ∧ 8 ≤ 4 ∨ 85 ≤ 77 ∧ 77 ≤ 87 ∧ 12 ≤ 4 by omega)
          refine to_an (pc := 5) rw_152_5 rfl ?_
          refine to_an (pc := 6) rw_152_6 rfl ?_
          have c_218 : M215.2.1 77 10 = (M.2.1 77 10) := (W_n W214 (by decide) rfl)
          refine tt_gI (pc := 7) rw_152_7 (g_o hG216 rfl) (v := (M.2.1 77 10)) c_218 ?_
          refine s_pI (pc := 10) rw_152_10 hG216 rfl (fun M220 W219 => ?_)
          have hG221 := g_wf hG216 W219 rfl rfl (by decide)
          have F222 := FR.w F217 W219 (show 77 = 77 ∧ (5 = 4 ∨ 5 = 5 ∨ 7 ≤ 5 ∧ 5 ≤ 10 ∨ 14 ≤ 5 ∧ 5 ≤ 16 ∨ 5 = 25) ∨ 80 ≤ 77 ∧ 77 ≤ 84 ∧ 8 ≤ 5 ∨ 85 ≤ 77 ∧ 77 ≤ 87 ∧ 12 ≤ 5 by omega)
          refine to_c (pc := 13) rw_152_13 (x := (0 : Int32)) rfl rfl ?_
          refine s_r1 (pc := 14) rw_152_14 (A := 0) rfl (by omega) ?_
          refine s_r1 (pc := 32) rw_172_32 (A := 0) rfl (by omega) ?_
          have k_223 : (0 : Int32).toInt = 0 := rfl
          have j_224 := (RS_f (fun a i z => W_n W219 (by omega) rfl) (RS_f (fun a i z => W_n W214 (by omega) rfl) q1))
          exact h (0 : Int32) M220 hG221 F222 (by omega) (by omega) j_224 (fun _ => by first | exact x_line_n (by omega) | exact x_line_t (by omega) (by omega) | exact (if g9 : x_kind t nn a = 1 then x_line_t (by omega) (by omega) else x_line_n (by omega)) | exact (x_line_h (by omega) (by omega) (by omega)).trans (x_holes_n (by omega))) (fun z => by exfalso; omega)
set_option maxRecDepth 4000 in
set_option maxHeartbeats 0 in
theorem U_165_0 {X : mm_X} {d : Nat} {M : mm_M} {Q : Option Value → mm_M → Prop} (hX : g_X X) (hd : 0 ≤ d) (h : ∀ (M1 : mm_M), g_G M1 → FR md_ke M M1 → ((M1.2.1 77 28).toInt = 0) → ((M1.2.1 77 29).toInt = 0) → (∀ s9 : x_S, PLr M s9 → PLk M1 s9) → Q (none) M1) : ∀ nn9 : Nat, (∀ (N : mm_M) (x1 : Int32), g_G N → FR md_ke M N → (0 ≤ x1.toInt) → (x1.toInt ≤ 6) → (KP N M 8 12) → (N.2.1 77 11 = M.2.1 77 14) → (N.2.1 77 12 = M.2.1 77 15) → (N.2.1 77 13 = M.2.1 77 16) → ((N.2.1 77 28).toInt = 0) → ((N.2.1 77 29).toInt = 0) → (True) → 6 - x1.toInt < (nn9 : Int) → mm_T X d 164 199 [.ref 77, .int x1] [] N Q) := by
  intro nn9
  induction nn9 with
  | zero =>
    intro N x1 hG F0 g1 g2 g3 g4 g5 g6 g7 g8 g9 hm
    have b_1 := g_b hG (a := 77) (i := 28) (lo := 0) (hi := 30) rfl rfl
    have b_2 := g_b hG (a := 77) (i := 29) (lo := 0) (hi := 150) rfl rfl
    exfalso; omega
  | succ nn9 ih =>
    intro N x1 hG F0 g1 g2 g3 g4 g5 g6 g7 g8 g9 hm
    have b_3 := g_b hG (a := 77) (i := 28) (lo := 0) (hi := 30) rfl rfl
    have b_4 := g_b hG (a := 77) (i := 29) (lo := 0) (hi := 150) rfl rfl
    refine to_in (pc := 199) rw_165_199 rfl ?_
    refine to_c (pc := 200) rw_165_200 (x := (6 : Int32)) rfl rfl ?_
    refine b_cge (pc := 202) rw_165_202 (A := x1.toInt) (B := 6) rfl rfl (fun h5 => ?_) (fun h5 => ?_)
    · refine to_rv (pc := 218) rw_165_218 ?_
      exact h N hG F0 (by omega) (by omega) (fun s9 h9 => KP_e g3 g4 g5 g6 h9)
    · refine to_an (pc := 205) rw_165_205 rfl ?_
      refine s_gR (pc := 206) rw_165_206 hG rfl (v := 100) rfl ?_
      refine to_in (pc := 209) rw_165_209 rfl ?_
      refine to_c (pc := 210) rw_165_210 (x := (0 : Int32)) rfl rfl ?_
      refine s_ias (pc := 211) rw_165_211 hG rfl (n := 6) rfl (A := x1.toInt) rfl (by omega) (by omega) (fun M7 W6 => ?_)
      have hG8 := g_w hG W6 (A := 0) rfl (lo := 0) (hi := 30) rfl rfl (by omega) (by decide)
      have F9 := FR.w F0 W6 (show 100 = 77 ∧ (11 ≤ (x1.toInt).toNat ∧ (x1.toInt).toNat ≤ 13 ∨ (x1.toInt).toNat = 28 ∨ (x1.toInt).toNat = 29 ∨ (x1.toInt).toNat = 41 ∨ (x1.toInt).toNat = 57 ∨ (x1.toInt).toNat = 58) ∨ 80 ≤ 100 ∧ 100 ≤ 87 ∨ 100 = 100 by omega)
      refine s_inc (pc := 212) rw_165_212 (ls2 := fun v => [.ref 77, .int v]) rfl rfl (fun _ => rfl) (A := x1.toInt) (B := 1) rfl rfl (by omega) (fun v10 e11 => ?_)
      refine to_go (pc := 215) rw_165_215 ?_
      have c_12 : M7.2.1 77 11 = (N.2.1 77 11) := (W_n W6 (by omega) rfl)
      have c_13 : M7.2.1 77 12 = (N.2.1 77 12) := (W_n W6 (by omega) rfl)
      have c_14 : M7.2.1 77 13 = (N.2.1 77 13) := (W_n W6 (by omega) rfl)
      have c_15 : M7.2.1 77 28 = (N.2.1 77 28) := (W_n W6 (by omega) rfl)
      have t_16 : (M7.2.1 77 28).toInt = (N.2.1 77 28).toInt := congrArg Int32.toInt c_15
      have c_17 : M7.2.1 77 29 = (N.2.1 77 29) := (W_n W6 (by omega) rfl)
      have t_18 : (M7.2.1 77 29).toInt = (N.2.1 77 29).toInt := congrArg Int32.toInt c_17
      exact ih M7 v10 hG8 F9 (by omega) (by omega) (KP_f (fun a i z => (W_n W6 (by omega) rfl)) g3) (c_12.trans g4) (c_13.trans g5) (c_14.trans g6) (by omega) (by omega) trivial (by omega)
set_option maxRecDepth 4000 in
set_option maxHeartbeats 0 in
theorem U_165_1 {X : mm_X} {d : Nat} {M : mm_M} {Q : Option Value → mm_M → Prop} (hX : g_X X) (hd : 0 ≤ d) (h : ∀ (M1 : mm_M), g_G M1 → FR md_ke M M1 → ((M1.2.1 77 28).toInt = 0) → ((M1.2.1 77 29).toInt = 0) → (∀ s9 : x_S, PLr M s9 → PLk M1 s9) → Q (none) M1) : ∀ nn9 : Nat, (∀ (N : mm_M) (x1 : Int32), g_G N → FR md_ke M N → (0 ≤ x1.toInt) → (x1.toInt ≤ 12) → (KP N M 8 (x1.toInt).toNat) → (N.2.1 77 11 = M.2.1 77 14) → (N.2.1 77 12 = M.2.1 77 15) → (N.2.1 77 13 = M.2.1 77 16) → 12 - x1.toInt < (nn9 : Int) → mm_T X d 164 115 [.ref 77, .int x1] [] N Q) := by
  intro nn9
  induction nn9 with
  | zero =>
    intro N x1 hG F0 g1 g2 g3 g4 g5 g6 hm
    exfalso; omega
  | succ nn9 ih =>
    intro N x1 hG F0 g1 g2 g3 g4 g5 g6 hm
    refine to_in (pc := 115) rw_165_115 rfl ?_
    refine to_c (pc := 116) rw_165_116 (x := (12 : Int32)) rfl rfl ?_
    refine b_cge (pc := 118) rw_165_118 (A := x1.toInt) (B := 12) rfl rfl (fun h19 => ?_) (fun h19 => ?_)
    · refine to_an (pc := 172) rw_165_172 rfl ?_
      refine to_c (pc := 173) rw_165_173 (x := (0 : Int32)) rfl rfl ?_
      refine s_pI (pc := 174) rw_165_174 hG rfl (fun M21 W20 => ?_)
      have hG22 := g_w hG W20 (A := 0) rfl (lo := 0) (hi := 30) rfl rfl (by omega) (by decide)
      have F23 := FR.w F0 W20 (show 77 = 77 ∧ (11 ≤ 28 ∧ 28 ≤ 13 ∨ 28 = 28 ∨ 28 = 29 ∨ 28 = 41 ∨ 28 = 57 ∨ 28 = 58) ∨ 80 ≤ 77 ∧ 77 ≤ 87 ∨ 77 = 100 by omega)
      refine to_an (pc := 177) rw_165_177 rfl ?_
      refine to_c (pc := 178) rw_165_178 (x := (0 : Int32)) rfl rfl ?_
      refine s_pI (pc := 179) rw_165_179 hG22 rfl (fun M25 W24 => ?_)
      have hG26 := g_w hG22 W24 (A := 0) rfl (lo := 0) (hi := 150) rfl rfl (by omega) (by decide)
      have F27 := FR.w F23 W24 (show 77 = 77 ∧ (11 ≤ 29 ∧ 29 ≤ 13 ∨ 29 = 28 ∨ 29 = 29 ∨ 29 = 41 ∨ 29 = 57 ∨ 29 = 58) ∨ 80 ≤ 77 ∧ 77 ≤ 87 ∨ 77 = 100 by omega)
      refine to_an (pc := 182) rw_165_182 rfl ?_
      refine to_c (pc := 183) rw_165_183 (x := (0 : Int32)) rfl rfl ?_
      refine s_pI (pc := 184) rw_165_184 hG26 rfl (fun M29 W28 => ?_)
      have hG30 := g_w hG26 W28 (A := 0) rfl (lo := 0) (hi := 40) rfl rfl (by omega) (by decide)
      have F31 := FR.w F27 W28 (show 77 = 77 ∧ (11 ≤ 58 ∧ 58 ≤ 13 ∨ 58 = 28 ∨ 58 = 29 ∨ 58 = 41 ∨ 58 = 57 ∨ 58 = 58) ∨ 80 ≤ 77 ∧ 77 ≤ 87 ∨ 77 = 100 by omega)
      refine to_an (pc := 187) rw_165_187 rfl ?_
      refine to_c (pc := 188) rw_165_188 (x := (0 : Int32)) rfl rfl ?_
      refine s_pZ (pc := 189) rw_165_189 hG30 rfl (A := 0) rfl (by omega) (fun M33 W32 => ?_)
      have hG34 := g_w hG30 W32 (A := 0) rfl (lo := 0) (hi := 1) rfl rfl (by omega) (by decide)
      have F35 := FR.w F31 W32 (show 77 = 77 ∧ (11 ≤ 57 ∧ 57 ≤ 13 ∨ 57 = 28 ∨ 57 = 29 ∨ 57 = 41 ∨ 57 = 57 ∨ 57 = 58) ∨ 80 ≤ 77 ∧ 77 ≤ 87 ∨ 77 = 100 by omega)
      refine to_an (pc := 192) rw_165_192 rfl ?_
      refine to_c (pc := 193) rw_165_193 (x := (0 : Int32)) rfl rfl ?_
      refine s_pI (pc := 194) rw_165_194 hG34 rfl (fun M37 W36 => ?_)
      have hG38 := g_wf hG34 W36 rfl rfl (by decide)
      have F39 := FR.w F35 W36 (show 77 = 77 ∧ (11 ≤ 41 ∧ 41 ≤ 13 ∨ 41 = 28 ∨ 41 = 29 ∨ 41 = 41 ∨ 41 = 57 ∨ 41 = 58) ∨ 80 ≤ 77 ∧ 77 ≤ 87 ∨ 77 = 100 by omega)
      refine to_c (pc := 197) rw_165_197 (x := (0 : Int32)) rfl rfl ?_
      refine to_isn (pc := 198) rw_165_198 (ls2 := [.ref 77, .int (0 : Int32)]) rfl rfl ?_
      have k_40 : (0 : Int32).toInt = 0 := rfl
      have c_41 : M37.2.1 77 11 = (N.2.1 77 11) := (W_n W36 (by decide) (W_n W32 (by decide) (W_n W28 (by decide) (W_n W24 (by decide) (W_n W20 (by decide) rfl)))))
      have c_42 : M37.2.1 77 12 = (N.2.1 77 12) := (W_n W36 (by decide) (W_n W32 (by decide) (W_n W28 (by decide) (W_n W24 (by decide) (W_n W20 (by decide) rfl)))))
      have c_43 : M37.2.1 77 13 = (N.2.1 77 13) := (W_n W36 (by decide) (W_n W32 (by decide) (W_n W28 (by decide) (W_n W24 (by decide) (W_n W20 (by decide) rfl)))))
      have c_44 : M37.2.1 77 28 = (0 : Int32) := (W_n W36 (by decide) (W_n W32 (by decide) (W_n W28 (by decide) (W_n W24 (by decide) (W_e W20)))))
      have t_45 : (M37.2.1 77 28).toInt = (0 : Int32).toInt := congrArg Int32.toInt c_44
      have c_46 : M37.2.1 77 29 = (0 : Int32) := (W_n W36 (by decide) (W_n W32 (by decide) (W_n W28 (by decide) (W_e W24))))
      have t_47 : (M37.2.1 77 29).toInt = (0 : Int32).toInt := congrArg Int32.toInt c_46
      exact (U_165_0 hX hd  h ((6 - (0 : Int32).toInt).toNat + 1)) M37 (0 : Int32) hG38 F39 (by omega) (by omega) (KP_f (fun a i z => (W_n W36 (by omega) (W_n W32 (by omega) (W_n W28 (by omega) (W_n W24 (by omega) (W_n W20 (by omega) rfl)))))) ((show (x1.toInt).toNat = 12 by omega) ▸ g3)) (c_41.trans g4) (c_42.trans g5) (c_43.trans g6) (by omega) (by omega) trivial (by omega)
    · refine to_an (pc := 121) rw_165_121 rfl ?_
      refine s_gR (pc := 122) rw_165_122 hG rfl (v := 85) rfl ?_
      refine to_in (pc := 125) rw_165_125 rfl ?_
      refine to_an (pc := 126) rw_165_126 rfl ?_
      refine s_gR (pc := 127) rw_165_127 hG rfl (v := 85) rfl ?_
      refine to_c (pc := 130) rw_165_130 (x := (12 : Int32)) rfl rfl ?_
      refine to_in (pc := 132) rw_165_132 rfl ?_
      refine s_add (pc := 133) rw_165_133 (A := 12) (B := x1.toInt) rfl rfl (by omega) (fun v48 e49 => ?_)
      refine s_ial (pc := 134) rw_165_134 hG rfl (n := 24) rfl rfl (A := v48.toInt) rfl (by omega) (by omega) (lo := -2147483648) (hi := 2147483647) rfl rfl (fun v50 w_51 _ _ => ?_)
      refine s_ias (pc := 135) rw_165_135 hG rfl (n := 24) rfl (A := x1.toInt) rfl (by omega) (by omega) (fun M53 W52 => ?_)
      have hG54 := g_wf hG W52 rfl rfl (by decide)
      have F55 := FR.w F0 W52 (show 85 = 77 ∧ (11 ≤ (x1.toInt).toNat ∧ (x1.toInt).toNat ≤ 13 ∨ (x1.toInt).toNat = 28 ∨ (x1.toInt).toNat = 29 ∨ (x1.toInt).toNat = 41 ∨ (x1.toInt).toNat = 57 ∨ (x1.toInt).toNat = 58) ∨ 80 ≤ 85 ∧ 85 ≤ 87 ∨ 85 = 100 by omega)
      refine to_an (pc := 136) rw_165_136 rfl ?_
      refine s_gR (pc := 137) rw_165_137 hG54 rfl (v := 86) rfl ?_
      refine to_in (pc := 140) rw_165_140 rfl ?_
      refine to_an (pc := 141) rw_165_141 rfl ?_
      refine s_gR (pc := 142) rw_165_142 hG54 rfl (v := 86) rfl ?_
      refine to_c (pc := 145) rw_165_145 (x := (12 : Int32)) rfl rfl ?_
      refine to_in (pc := 147) rw_165_147 rfl ?_
      refine s_add (pc := 148) rw_165_148 (A := 12) (B := x1.toInt) rfl rfl (by omega) (fun v56 e57 => ?_)
      refine s_ial (pc := 149) rw_165_149 hG54 rfl (n := 24) rfl rfl (A := v56.toInt) rfl (by omega) (by omega) (lo := 0) (hi := 7) rfl rfl (fun v58 w_59 _ _ => ?_)
      refine s_ias (pc := 150) rw_165_150 hG54 rfl (n := 24) rfl (A := x1.toInt) rfl (by omega) (by omega) (fun M61 W60 => ?_)
      have hG62 := g_w hG54 W60 (A := v58.toInt) rfl (lo := 0) (hi := 7) rfl rfl (by omega) (by decide)
      have F63 := FR.w F55 W60 (show 86 = 77 ∧ (11 ≤ (x1.toInt).toNat ∧ (x1.toInt).toNat ≤ 13 ∨ (x1.toInt).toNat = 28 ∨ (x1.toInt).toNat = 29 ∨ (x1.toInt).toNat = 41 ∨ (x1.toInt).toNat = 57 ∨ (x1.toInt).toNat = 58) ∨ 80 ≤ 86 ∧ 86 ≤ 87 ∨ 86 = 100 by omega)
      refine to_an (pc := 151) rw_165_151 rfl ?_
      refine s_gR (pc := 152) rw_165_152 hG62 rfl (v := 87) rfl ?_
      refine to_in (pc := 155) rw_165_155 rfl ?_
      refine to_an (pc := 156) rw_165_156 rfl ?_
      refine s_gR (pc := 157) rw_165_157 hG62 rfl (v := 87) rfl ?_
      refine to_c (pc := 160) rw_165_160 (x := (12 : Int32)) rfl rfl ?_
      refine to_in (pc := 162) rw_165_162 rfl ?_
      refine s_add (pc := 163) rw_165_163 (A := 12) (B := x1.toInt) rfl rfl (by omega) (fun v64 e65 => ?_)
      refine s_lal (pc := 164) rw_165_164 hG62 rfl (n := 24) rfl (A := v64.toInt) rfl (by omega) (by omega) (fun l66 => ?_)
      refine s_las (pc := 165) rw_165_165 hG62 rfl (n := 24) rfl (A := x1.toInt) rfl (by omega) (by omega) (fun M68 W67 => ?_)
      have hG69 := g_wl hG62 W67
      have F70 := FR.wl F63 W67 (show 87 = 77 ∧ (11 ≤ (x1.toInt).toNat ∧ (x1.toInt).toNat ≤ 13 ∨ (x1.toInt).toNat = 28 ∨ (x1.toInt).toNat = 29 ∨ (x1.toInt).toNat = 41 ∨ (x1.toInt).toNat = 57 ∨ (x1.toInt).toNat = 58) ∨ 80 ≤ 87 ∧ 87 ≤ 87 ∨ 87 = 100 by omega)
      refine s_inc (pc := 166) rw_165_166 (ls2 := fun v => [.ref 77, .int v]) rfl rfl (fun _ => rfl) (A := x1.toInt) (B := 1) rfl rfl (by omega) (fun v71 e72 => ?_)
      refine to_go (pc := 169) rw_165_169 ?_
      have c_73 : M68.2.1 77 11 = (N.2.1 77 11) := (W_l W67 (W_n W60 (by omega) (W_n W52 (by omega) rfl)))
      have c_74 : M68.2.1 77 12 = (N.2.1 77 12) := (W_l W67 (W_n W60 (by omega) (W_n W52 (by omega) rfl)))
      have c_75 : M68.2.1 77 13 = (N.2.1 77 13) := (W_l W67 (W_n W60 (by omega) (W_n W52 (by omega) rfl)))
      exact ih M68 v71 hG69 F70 (by omega) (by omega) (KP_2 g3 (by omega) rfl (by omega) (show N.2.1 85 (12 + (x1.toInt).toNat) = v50 from (by rw [show 12 + (x1.toInt).toNat = (v48.toInt).toNat by omega]; exact w_51)) W52 (show M53.2.1 86 (12 + (x1.toInt).toNat) = v58 from (by rw [show 12 + (x1.toInt).toNat = (v56.toInt).toNat by omega]; exact w_59)) W60 W67) (c_73.trans g4) (c_74.trans g5) (c_75.trans g6) (by omega)
set_option maxRecDepth 4000 in
set_option maxHeartbeats 0 in
theorem U_165_2 {X : mm_X} {d : Nat} {M : mm_M} {Q : Option Value → mm_M → Prop} (hX : g_X X) (hd : 0 ≤ d) (h : ∀ (M1 : mm_M), g_G M1 → FR md_ke M M1 → ((M1.2.1 77 28).toInt = 0) → ((M1.2.1 77 29).toInt = 0) → (∀ s9 : x_S, PLr M s9 → PLk M1 s9) → Q (none) M1) : ∀ nn9 : Nat, (∀ (N : mm_M) (x1 : Int32), g_G N → FR md_ke M N → (0 ≤ x1.toInt) → (x1.toInt ≤ 8) → (KP N M (x1.toInt).toNat 0) → (N.2.1 77 11 = M.2.1 77 14) → (N.2.1 77 12 = M.2.1 77 15) → (N.2.1 77 13 = M.2.1 77 16) → 8 - x1.toInt < (nn9 : Int) → mm_T X d 164 26 [.ref 77, .int x1] [] N Q) := by
  intro nn9
  induction nn9 with
  | zero =>
    intro N x1 hG F0 g1 g2 g3 g4 g5 g6 hm
    exfalso; omega
  | succ nn9 ih =>
    intro N x1 hG F0 g1 g2 g3 g4 g5 g6 hm
    refine to_in (pc := 26) rw_165_26 rfl ?_
    refine to_c (pc := 27) rw_165_27 (x := (8 : Int32)) rfl rfl ?_
    refine b_cge (pc := 29) rw_165_29 (A := x1.toInt) (B := 8) rfl rfl (fun h76 => ?_) (fun h76 => ?_)
    · refine to_c (pc := 113) rw_165_113 (x := (0 : Int32)) rfl rfl ?_
      refine to_isn (pc := 114) rw_165_114 (ls2 := [.ref 77, .int (0 : Int32)]) rfl rfl ?_
      have k_77 : (0 : Int32).toInt = 0 := rfl
      exact (U_165_1 hX hd  h ((12 - (0 : Int32).toInt).toNat + 1)) N (0 : Int32) hG F0 (by omega) (by omega) ((show (x1.toInt).toNat = 8 by omega) ▸ g3) g4 g5 g6 (by omega)
    · refine to_an (pc := 32) rw_165_32 rfl ?_
      refine s_gR (pc := 33) rw_165_33 hG rfl (v := 80) rfl ?_
      refine to_in (pc := 36) rw_165_36 rfl ?_
      refine to_an (pc := 37) rw_165_37 rfl ?_
      refine s_gR (pc := 38) rw_165_38 hG rfl (v := 80) rfl ?_
      refine to_c (pc := 41) rw_165_41 (x := (8 : Int32)) rfl rfl ?_
      refine to_in (pc := 43) rw_165_43 rfl ?_
      refine s_add (pc := 44) rw_165_44 (A := 8) (B := x1.toInt) rfl rfl (by omega) (fun v78 e79 => ?_)
      refine s_ial (pc := 45) rw_165_45 hG rfl (n := 16) rfl rfl (A := v78.toInt) rfl (by omega) (by omega) (lo := -2147483648) (hi := 2147483647) rfl rfl (fun v80 w_81 _ _ => ?_)
      refine s_ias (pc := 46) rw_165_46 hG rfl (n := 16) rfl (A := x1.toInt) rfl (by omega) (by omega) (fun M83 W82 => ?_)
      have hG84 := g_wf hG W82 rfl rfl (by decide)
      have F85 := FR.w F0 W82 (show 80 = 77 ∧ (11 ≤ (x1.toInt).toNat ∧ (x1.toInt).toNat ≤ 13 ∨ (x1.toInt).toNat = 28 ∨ (x1.toInt).toNat = 29 ∨ (x1.toInt).toNat = 41 ∨ (x1.toInt).toNat = 57 ∨ (x1.toInt).toNat = 58) ∨ 80 ≤ 80 ∧ 80 ≤ 87 ∨ 80 = 100 by omega)
      refine to_an (pc := 47) rw_165_47 rfl ?_
      refine s_gR (pc := 48) rw_165_48 hG84 rfl (v := 81) rfl ?_
      refine to_in (pc := 51) rw_165_51 rfl ?_
      refine to_an (pc := 52) rw_165_52 rfl ?_
      refine s_gR (pc := 53) rw_165_53 hG84 rfl (v := 81) rfl ?_
      refine to_c (pc := 56) rw_165_56 (x := (8 : Int32)) rfl rfl ?_
      refine to_in (pc := 58) rw_165_58 rfl ?_
      refine s_add (pc := 59) rw_165_59 (A := 8) (B := x1.toInt) rfl rfl (by omega) (fun v86 e87 => ?_)
      refine s_ial (pc := 60) rw_165_60 hG84 rfl (n := 16) rfl rfl (A := v86.toInt) rfl (by omega) (by omega) (lo := 0) (hi := 3) rfl rfl (fun v88 w_89 _ _ => ?_)
      refine s_ias (pc := 61) rw_165_61 hG84 rfl (n := 16) rfl (A := x1.toInt) rfl (by omega) (by omega) (fun M91 W90 => ?_)
      have hG92 := g_w hG84 W90 (A := v88.toInt) rfl (lo := 0) (hi := 3) rfl rfl (by omega) (by decide)
      have F93 := FR.w F85 W90 (show 81 = 77 ∧ (11 ≤ (x1.toInt).toNat ∧ (x1.toInt).toNat ≤ 13 ∨ (x1.toInt).toNat = 28 ∨ (x1.toInt).toNat = 29 ∨ (x1.toInt).toNat = 41 ∨ (x1.toInt).toNat = 57 ∨ (x1.toInt).toNat = 58) ∨ 80 ≤ 81 ∧ 81 ≤ 87 ∨ 81 = 100 by omega)
      refine to_an (pc := 62) rw_165_62 rfl ?_
      refine s_gR (pc := 63) rw_165_63 hG92 rfl (v := 82) rfl ?_
      refine to_in (pc := 66) rw_165_66 rfl ?_
      refine to_an (pc := 67) rw_165_67 rfl ?_
      refine s_gR (pc := 68) rw_165_68 hG92 rfl (v := 82) rfl ?_
      refine to_c (pc := 71) rw_165_71 (x := (8 : Int32)) rfl rfl ?_
      refine to_in (pc := 73) rw_165_73 rfl ?_
      refine s_add (pc := 74) rw_165_74 (A := 8) (B := x1.toInt) rfl rfl (by omega) (fun v94 e95 => ?_)
      refine s_ial (pc := 75) rw_165_75 hG92 rfl (n := 16) rfl rfl (A := v94.toInt) rfl (by omega) (by omega) (lo := 0) (hi := 59) rfl rfl (fun v96 w_97 _ _ => ?_)
      refine s_ias (pc := 76) rw_165_76 hG92 rfl (n := 16) rfl (A := x1.toInt) rfl (by omega) (by omega) (fun M99 W98 => ?_)
      have hG100 := g_w hG92 W98 (A := v96.toInt) rfl (lo := 0) (hi := 59) rfl rfl (by omega) (by decide)
      have F101 := FR.w F93 W98 (show 82 = 77 ∧ (11 ≤ (x1.toInt).toNat ∧ (x1.toInt).toNat ≤ 13 ∨ (x1.toInt).toNat = 28 ∨ (x1.toInt).toNat = 29 ∨ (x1.toInt).toNat = 41 ∨ (x1.toInt).toNat = 57 ∨ (x1.toInt).toNat = 58) ∨ 80 ≤ 82 ∧ 82 ≤ 87 ∨ 82 = 100 by omega)
      refine to_an (pc := 77) rw_165_77 rfl ?_
      refine s_gR (pc := 78) rw_165_78 hG100 rfl (v := 83) rfl ?_
      refine to_in (pc := 81) rw_165_81 rfl ?_
      refine to_an (pc := 82) rw_165_82 rfl ?_
      refine s_gR (pc := 83) rw_165_83 hG100 rfl (v := 83) rfl ?_
      refine to_c (pc := 86) rw_165_86 (x := (8 : Int32)) rfl rfl ?_
      refine to_in (pc := 88) rw_165_88 rfl ?_
      refine s_add (pc := 89) rw_165_89 (A := 8) (B := x1.toInt) rfl rfl (by omega) (fun v102 e103 => ?_)
      refine s_ial (pc := 90) rw_165_90 hG100 rfl (n := 16) rfl rfl (A := v102.toInt) rfl (by omega) (by omega) (lo := 0) (hi := 63) rfl rfl (fun v104 w_105 _ _ => ?_)
      refine s_ias (pc := 91) rw_165_91 hG100 rfl (n := 16) rfl (A := x1.toInt) rfl (by omega) (by omega) (fun M107 W106 => ?_)
      have hG108 := g_w hG100 W106 (A := v104.toInt) rfl (lo := 0) (hi := 63) rfl rfl (by omega) (by decide)
      have F109 := FR.w F101 W106 (show 83 = 77 ∧ (11 ≤ (x1.toInt).toNat ∧ (x1.toInt).toNat ≤ 13 ∨ (x1.toInt).toNat = 28 ∨ (x1.toInt).toNat = 29 ∨ (x1.toInt).toNat = 41 ∨ (x1.toInt).toNat = 57 ∨ (x1.toInt).toNat = 58) ∨ 80 ≤ 83 ∧ 83 ≤ 87 ∨ 83 = 100 by omega)
      refine to_an (pc := 92) rw_165_92 rfl ?_
      refine s_gR (pc := 93) rw_165_93 hG108 rfl (v := 84) rfl ?_
      refine to_in (pc := 96) rw_165_96 rfl ?_
      refine to_an (pc := 97) rw_165_97 rfl ?_
      refine s_gR (pc := 98) rw_165_98 hG108 rfl (v := 84) rfl ?_
      refine to_c (pc := 101) rw_165_101 (x := (8 : Int32)) rfl rfl ?_
      refine to_in (pc := 103) rw_165_103 rfl ?_
      refine s_add (pc := 104) rw_165_104 (A := 8) (B := x1.toInt) rfl rfl (by omega) (fun v110 e111 => ?_)
      refine s_ial (pc := 105) rw_165_105 hG108 rfl (n := 16) rfl rfl (A := v110.toInt) rfl (by omega) (by omega) (lo := 0) (hi := 24) rfl rfl (fun v112 w_113 _ _ => ?_)
      refine s_ias (pc := 106) rw_165_106 hG108 rfl (n := 16) rfl (A := x1.toInt) rfl (by omega) (by omega) (fun M115 W114 => ?_)
      have hG116 := g_w hG108 W114 (A := v112.toInt) rfl (lo := 0) (hi := 24) rfl rfl (by omega) (by decide)
      have F117 := FR.w F109 W114 (show 84 = 77 ∧ (11 ≤ (x1.toInt).toNat ∧ (x1.toInt).toNat ≤ 13 ∨ (x1.toInt).toNat = 28 ∨ (x1.toInt).toNat = 29 ∨ (x1.toInt).toNat = 41 ∨ (x1.toInt).toNat = 57 ∨ (x1.toInt).toNat = 58) ∨ 80 ≤ 84 ∧ 84 ≤ 87 ∨ 84 = 100 by omega)
      refine s_inc (pc := 107) rw_165_107 (ls2 := fun v => [.ref 77, .int v]) rfl rfl (fun _ => rfl) (A := x1.toInt) (B := 1) rfl rfl (by omega) (fun v118 e119 => ?_)
      refine to_go (pc := 110) rw_165_110 ?_
      have c_120 : M115.2.1 77 11 = (N.2.1 77 11) := (W_n W114 (by omega) (W_n W106 (by omega) (W_n W98 (by omega) (W_n W90 (by omega) (W_n W82 (by omega) rfl)))))
      have c_121 : M115.2.1 77 12 = (N.2.1 77 12) := (W_n W114 (by omega) (W_n W106 (by omega) (W_n W98 (by omega) (W_n W90 (by omega) (W_n W82 (by omega) rfl)))))
      have c_122 : M115.2.1 77 13 = (N.2.1 77 13) := (W_n W114 (by omega) (W_n W106 (by omega) (W_n W98 (by omega) (W_n W90 (by omega) (W_n W82 (by omega) rfl)))))
      exact ih M115 v118 hG116 F117 (by omega) (by omega) (KP_5 g3 (by omega) rfl (by omega) (show N.2.1 80 (8 + (x1.toInt).toNat) = v80 from (by rw [show 8 + (x1.toInt).toNat = (v78.toInt).toNat by omega]; exact w_81)) W82 (show M83.2.1 81 (8 + (x1.toInt).toNat) = v88 from (by rw [show 8 + (x1.toInt).toNat = (v86.toInt).toNat by omega]; exact w_89)) W90 (show M91.2.1 82 (8 + (x1.toInt).toNat) = v96 from (by rw [show 8 + (x1.toInt).toNat = (v94.toInt).toNat by omega]; exact w_97)) W98 (show M99.2.1 83 (8 + (x1.toInt).toNat) = v104 from (by rw [show 8 + (x1.toInt).toNat = (v102.toInt).toNat by omega]; exact w_105)) W106 (show M107.2.1 84 (8 + (x1.toInt).toNat) = v112 from (by rw [show 8 + (x1.toInt).toNat = (v110.toInt).toNat by omega]; exact w_113)) W114) (c_120.trans g4) (c_121.trans g5) (c_122.trans g6) (by omega)
set_option maxRecDepth 4000 in
set_option maxHeartbeats 0 in
theorem E_165 {X : mm_X} {d : Nat} {M : mm_M} {Q : Option Value → mm_M → Prop} (hX : g_X X) (hd : 0 ≤ d) (hG : g_G M) (h : ∀ (M1 : mm_M), g_G M1 → FR md_ke M M1 → ((M1.2.1 77 28).toInt = 0) → ((M1.2.1 77 29).toInt = 0) → (∀ s9 : x_S, PLr M s9 → PLk M1 s9) → Q (none) M1) : mm_T X d 164 0 [.ref 77, .null] [] M Q := by
  have F0 : FR md_ke M M := FR.rf
  refine to_an (pc := 0) rw_165_0 rfl ?_
  refine to_an (pc := 1) rw_165_1 rfl ?_
  have b_123 := g_b hG (a := 77) (i := 14) (lo := 10) (hi := 60) rfl rfl
  refine tt_gI (pc := 2) rw_165_2 (g_o hG rfl) (v := (M.2.1 77 14)) rfl ?_
  refine s_pI (pc := 5) rw_165_5 hG rfl (fun M125 W124 => ?_)
  have hG126 := g_w hG W124 (A := (M.2.1 77 14).toInt) rfl (lo := 10) (hi := 60) rfl rfl (by omega) (by decide)
  have F127 := FR.w F0 W124 (show 77 = 77 ∧ (11 ≤ 11 ∧ 11 ≤ 13 ∨ 11 = 28 ∨ 11 = 29 ∨ 11 = 41 ∨ 11 = 57 ∨ 11 = 58) ∨ 80 ≤ 77 ∧ 77 ≤ 87 ∨ 77 = 100 by omega)
  refine to_an (pc := 8) rw_165_8 rfl ?_
  refine to_an (pc := 9) rw_165_9 rfl ?_
  have c_128 : M125.2.1 77 15 = (M.2.1 77 15) := (W_n W124 (by decide) rfl)
  have b_129 := g_b hG (a := 77) (i := 15) (lo := 0) (hi := 8) rfl rfl
  refine tt_gI (pc := 10) rw_165_10 (g_o hG126 rfl) (v := (M.2.1 77 15)) c_128 ?_
  refine s_pI (pc := 13) rw_165_13 hG126 rfl (fun M131 W130 => ?_)
  have hG132 := g_w hG126 W130 (A := (M.2.1 77 15).toInt) rfl (lo := 0) (hi := 8) rfl rfl (by omega) (by decide)
  have F133 := FR.w F127 W130 (show 77 = 77 ∧ (11 ≤ 12 ∧ 12 ≤ 13 ∨ 12 = 28 ∨ 12 = 29 ∨ 12 = 41 ∨ 12 = 57 ∨ 12 = 58) ∨ 80 ≤ 77 ∧ 77 ≤ 87 ∨ 77 = 100 by omega)
  refine to_an (pc := 16) rw_165_16 rfl ?_
  refine to_an (pc := 17) rw_165_17 rfl ?_
  have c_134 : M131.2.1 77 16 = (M.2.1 77 16) := (W_n W130 (by decide) (W_n W124 (by decide) rfl))
  have b_135 := g_b hG (a := 77) (i := 16) (lo := 0) (hi := 12) rfl rfl
  refine tt_gI (pc := 18) rw_165_18 (g_o hG132 rfl) (v := (M.2.1 77 16)) c_134 ?_
  refine s_pI (pc := 21) rw_165_21 hG132 rfl (fun M137 W136 => ?_)
  have hG138 := g_w hG132 W136 (A := (M.2.1 77 16).toInt) rfl (lo := 0) (hi := 12) rfl rfl (by omega) (by decide)
  have F139 := FR.w F133 W136 (show 77 = 77 ∧ (11 ≤ 13 ∧ 13 ≤ 13 ∨ 13 = 28 ∨ 13 = 29 ∨ 13 = 41 ∨ 13 = 57 ∨ 13 = 58) ∨ 80 ≤ 77 ∧ 77 ≤ 87 ∨ 77 = 100 by omega)
  refine to_c (pc := 24) rw_165_24 (x := (0 : Int32)) rfl rfl ?_
  refine to_isn (pc := 25) rw_165_25 (ls2 := [.ref 77, .int (0 : Int32)]) rfl rfl ?_
  have k_140 : (0 : Int32).toInt = 0 := rfl
  have c_141 : M137.2.1 77 11 = (M.2.1 77 14) := (W_n W136 (by decide) (W_n W130 (by decide) (W_e W124)))
  have c_142 : M137.2.1 77 12 = (M.2.1 77 15) := (W_n W136 (by decide) (W_e W130))
  have c_143 : M137.2.1 77 13 = (M.2.1 77 16) := (W_e W136)
  exact (U_165_2 hX hd  h ((8 - (0 : Int32).toInt).toNat + 1)) M137 (0 : Int32) hG138 F139 (by omega) (by omega) (KP_0 (fun a i z => (W_n W136 (by omega) (W_n W130 (by omega) (W_n W124 (by omega) rfl))))) c_141 c_142 c_143 (by omega)
set_option maxRecDepth 4000 in
set_option maxHeartbeats 0 in
theorem U_173_0 {X : mm_X} {d : Nat} {M : mm_M} {Q : Option Value → mm_M → Prop} {n : Int32} {t : Nat → Int} {nn : Int} (hX : g_X X) (hd : 5 ≤ d) (q1 : (M.2.1 77 7).toInt ≤ (M.2.1 77 6).toInt) (q2 : 0 ≤ n.toInt ∧ n.toInt ≤ (M.2.1 77 1).toInt → n.toInt = nn) (q3 : TR M t nn) (q4 : W9 M) (h : ∀ (r : Int32) (M1 : mm_M), g_G M1 → FR md_P M M1 → (n.toInt < 0 ∨ (M.2.1 77 1).toInt < n.toInt → r.toInt = -2) → ((0 ≤ n.toInt ∧ n.toInt ≤ (M.2.1 77 1).toInt → PAN (x_plan t nn 23 0 x_s0 (x_sk t nn 0)) r.toInt)) → (-2 ≤ r.toInt) → (r.toInt < 0 → (M1.2.1 77 28).toInt = (M.2.1 77 28).toInt ∧ (M1.2.1 77 29).toInt = (M.2.1 77 29).toInt) → (0 ≤ r.toInt → (M1.2.1 77 28).toInt = 0 ∧ (M1.2.1 77 29).toInt = 0) → ((r.toInt < 0 → ∀ s9 : x_S, PLk M s9 → PLk M1 s9)) → ((0 ≤ r.toInt → ∃ s2 : x_S, x_plan t nn 23 0 x_s0 (x_sk t nn 0) = some (r.toInt, s2) ∧ PLk M1 s2)) → Q (some (.int r)) M1) : ∀ nn9 : Nat, (∀ (N : mm_M) (u1 : Value) (x2 : Int32), g_G N → FR md_P M N → (0 ≤ x2.toInt) → (x2.toInt ≤ 22) → (0 ≤ n.toInt) → (n.toInt ≤ (M.2.1 77 1).toInt) → (n.toInt = nn) → (0 ≤ nn) → (nn ≤ 500) → (RS N t nn) → (TR N t nn) → (W9 N) → ((N.2.1 77 28).toInt = (M.2.1 77 28).toInt) → ((N.2.1 77 29).toInt = (M.2.1 77 29).toInt) → (∀ s9 : x_S, PLk M s9 → PLk N s9) → (IVr t nn (x_plan t nn 23 0 x_s0 (x_sk t nn 0)) N x2.toInt (N.2.1 77 10).toInt) → 22 - x2.toInt < (nn9 : Int) → mm_T X d 172 22 [.ref 77, u1, .int x2] [] N Q) := by
  intro nn9
  induction nn9 with
  | zero =>
    intro N u1 x2 hG F0 g1 g2 g3 g4 g5 g6 g7 g8 g9 g10 g11 g12 g13 g14 hm
    have b_1 := g_b hG (a := 77) (i := 28) (lo := 0) (hi := 30) rfl rfl
    have b_2 := g_b hG (a := 77) (i := 29) (lo := 0) (hi := 150) rfl rfl
    exfalso; omega
  | succ nn9 ih =>
    intro N u1 x2 hG F0 g1 g2 g3 g4 g5 g6 g7 g8 g9 g10 g11 g12 g13 g14 hm
    have b_3 := g_b hG (a := 77) (i := 28) (lo := 0) (hi := 30) rfl rfl
    have b_4 := g_b hG (a := 77) (i := 29) (lo := 0) (hi := 150) rfl rfl
    obtain ⟨sg, i_1, i_2, i_3, i_4⟩ := g14
    have i_5 : x2.toInt ≤ 21 := by have q1 : sg.2.1 ≤ 8 := i_1.1.2.2.2.1; have q2 : sg.2.2.1 ≤ 12 := i_1.1.2.2.2.2.2.1; rcases (show x2.toInt = 0 ∨ 0 < x2.toInt by omega) with z | z; omega; have := i_4 z; omega
    refine to_an (pc := 22) rw_173_22 rfl ?_
    have b_5 := g_b hG (a := 77) (i := 8) (lo := 0) (hi := 5) rfl rfl
    have b_6 := g_b hG (a := 77) (i := 10) (lo := 0) (hi := 500) rfl rfl
    have c_7 := RS_u g8 (a := (N.2.1 77 10).toInt) (by omega)
    unfold x_R at c_7
    refine tt_gI (pc := 23) rw_173_23 (g_o hG rfl) (v := (N.2.1 77 8)) rfl ?_
    refine b_ieq (pc := 26) rw_173_26 (A := (N.2.1 77 8).toInt) rfl (fun h8 => ?_) (fun h8 => ?_)
    · refine to_an (pc := 53) rw_173_53 rfl ?_
      refine s_v (pc := 54) rw_173_54 (by omega) (ls0 := [.ref 77, .null]) rfl (Nat.le_of_ble_eq_true rfl) (Nat.le_of_ble_eq_true rfl) rfl (to_rc rfl rfl rfl (g_o hG rfl)) rfl ?_
      refine E_165 hX (by omega) hG  (fun M14 hG10 F9 p_11 p_12 p_13 => ?_)
      have F15 := FR.c F0 F9 (fun a i z => show a = 77 ∨ 79 < a ∧ a ≤ 87 ∨ a = 100 by have z : a = 77 ∧ (11 ≤ i ∧ i ≤ 13 ∨ i = 28 ∨ i = 29 ∨ i = 41 ∨ i = 57 ∨ i = 58) ∨ 80 ≤ a ∧ a ≤ 87 ∨ a = 100 := z; omega)
      have b_16 := g_b hG10 (a := 77) (i := 28) (lo := 0) (hi := 30) rfl rfl
      have b_17 := g_b hG10 (a := 77) (i := 29) (lo := 0) (hi := 150) rfl rfl
      refine to_in (pc := 57) rw_173_57 rfl ?_
      refine to_r0 (pc := 58) rw_173_58 ?_
      exact h x2 M14 hG10 F15 (by omega) (fun _ => IVr_e (by omega) i_2 (by omega) rfl) (by omega) (by omega) (by omega) (fun z => by exfalso; omega) (fun _ => ⟨sg, (by rw [← i_2]; exact x_plan_e (by omega) (by omega)), p_13 sg i_1⟩)
    · refine to_an (pc := 29) rw_173_29 rfl ?_
      refine to_in (pc := 30) rw_173_30 rfl ?_
      refine b_ine (pc := 31) rw_173_31 (A := x2.toInt) rfl (fun h18 => ?_) (fun h18 => ?_)
      · refine to_c (pc := 38) rw_173_38 (x := (0 : Int32)) rfl rfl ?_
        refine s_v (pc := 39) rw_173_39 (by omega) (ls0 := [.ref 77, .int (0 : Int32)]) rfl (Nat.le_of_ble_eq_true rfl) (Nat.le_of_ble_eq_true rfl) rfl (to_rc rfl rfl rfl (g_o hG rfl)) rfl ?_
        have k_19 : (0 : Int32).toInt = 0 := rfl
        refine E_172 hX (by omega) hG g8 (by omega) (by omega) (by omega) g9 g10 i_1 (by omega) (by omega) (by omega) (by omega) (by omega) (x := (0 : Int32)) (t := t) (nn := nn) (a := (N.2.1 77 10).toInt) (sg := sg) (L := x2.toInt) (fu := (22 - x2.toInt).toNat) (fun r20 M28 hG22 F21 p_23 p_24 p_25 p_26 p_27 => ?_)
        have F29 := FR.c F0 F21 (fun a i z => show a = 77 ∨ 79 < a ∧ a ≤ 87 ∨ a = 100 by have z : a = 77 ∧ (i = 4 ∨ i = 5 ∨ 7 ≤ i ∧ i ≤ 10 ∨ 14 ≤ i ∧ i ≤ 16 ∨ i = 25) ∨ 80 ≤ a ∧ a ≤ 84 ∧ 8 ≤ i ∨ 85 ≤ a ∧ a ≤ 87 ∧ 12 ≤ i := z; omega)
        rcases (show r20.toInt = 0 ∨ r20.toInt = 1 by omega) with h30 | h30
        · skip
          have p_31 := p_26 (by omega)
          clear p_26 p_27
          refine b_ine_f (pc := 42) rw_173_42 (A := r20.toInt) rfl (by omega) ?_
          refine to_c (pc := 45) rw_173_45 (x := (-1 : Int32)) rfl rfl ?_
          refine to_r0 (pc := 46) rw_173_46 ?_
          have k_32 : (-1 : Int32).toInt = -1 := rfl
          have c_33 : M28.2.1 77 28 = (N.2.1 77 28) := (F_n F21 (show ¬ (77 = 77 ∧ (28 = 4 ∨ 28 = 5 ∨ 7 ≤ 28 ∧ 28 ≤ 10 ∨ 14 ≤ 28 ∧ 28 ≤ 16 ∨ 28 = 25) ∨ 80 ≤ 77 ∧ 77 ≤ 84 ∧ 8 ≤ 28 ∨ 85 ≤ 77 ∧ 77 ≤ 87 ∧ 12 ≤ 28) by omega) rfl)
          have t_34 : (M28.2.1 77 28).toInt = (N.2.1 77 28).toInt := congrArg Int32.toInt c_33
          have c_35 : M28.2.1 77 29 = (N.2.1 77 29) := (F_n F21 (show ¬ (77 = 77 ∧ (29 = 4 ∨ 29 = 5 ∨ 7 ≤ 29 ∧ 29 ≤ 10 ∨ 14 ≤ 29 ∧ 29 ≤ 16 ∨ 29 = 25) ∨ 80 ≤ 77 ∧ 77 ≤ 84 ∧ 8 ≤ 29 ∨ 85 ≤ 77 ∧ 77 ≤ 87 ∧ 12 ≤ 29) by omega) rfl)
          have t_36 : (M28.2.1 77 29).toInt = (N.2.1 77 29).toInt := congrArg Int32.toInt c_35
          exact h (-1 : Int32) M28 hG22 F29 (by omega) (fun _ => Or.inl ⟨IVr_l (by omega) (by omega) i_2 (by omega) p_31, rfl⟩) (by omega) (by omega) (by omega) (fun _ => (fun s9 h9 => PLk_f (fun a i z => (F_n F21 (show ¬ (a = 77 ∧ (i = 4 ∨ i = 5 ∨ 7 ≤ i ∧ i ≤ 10 ∨ 14 ≤ i ∧ i ≤ 16 ∨ i = 25) ∨ 80 ≤ a ∧ a ≤ 84 ∧ 8 ≤ i ∨ 85 ≤ a ∧ a ≤ 87 ∧ 12 ≤ i) by omega) rfl)) (g13 s9 h9))) (fun z => by exfalso; omega)
        · skip
          have p_37 := p_27 (by omega)
          clear p_26 p_27
          refine b_ine_t (pc := 42) rw_173_42 (A := r20.toInt) rfl (by omega) ?_
          refine s_inc (pc := 47) rw_173_47 (ls2 := fun v => [.ref 77, u1, .int v]) rfl rfl (fun _ => rfl) (A := x2.toInt) (B := 1) rfl rfl (by omega) (fun v38 e39 => ?_)
          refine to_go (pc := 50) rw_173_50 ?_
          have j_40 := (TR_f (fun a i z => F_n F21 (show ¬ (a = 77 ∧ (i = 4 ∨ i = 5 ∨ 7 ≤ i ∧ i ≤ 10 ∨ 14 ≤ i ∧ i ≤ 16 ∨ i = 25) ∨ 80 ≤ a ∧ a ≤ 84 ∧ 8 ≤ i ∨ 85 ≤ a ∧ a ≤ 87 ∧ 12 ≤ i) by omega) rfl) g9)
          have j_41 := (W9_f (fun a i z => F_n F21 (show ¬ (a = 77 ∧ (i = 4 ∨ i = 5 ∨ 7 ≤ i ∧ i ≤ 10 ∨ 14 ≤ i ∧ i ≤ 16 ∨ i = 25) ∨ 80 ≤ a ∧ a ≤ 84 ∧ 8 ≤ i ∨ 85 ≤ a ∧ a ≤ 87 ∧ 12 ≤ i) by omega) rfl) g10)
          have c_42 : M28.2.1 77 28 = (N.2.1 77 28) := (F_n F21 (show ¬ (77 = 77 ∧ (28 = 4 ∨ 28 = 5 ∨ 7 ≤ 28 ∧ 28 ≤ 10 ∨ 14 ≤ 28 ∧ 28 ≤ 16 ∨ 28 = 25) ∨ 80 ≤ 77 ∧ 77 ≤ 84 ∧ 8 ≤ 28 ∨ 85 ≤ 77 ∧ 77 ≤ 87 ∧ 12 ≤ 28) by omega) rfl)
          have t_43 : (M28.2.1 77 28).toInt = (N.2.1 77 28).toInt := congrArg Int32.toInt c_42
          have c_44 : M28.2.1 77 29 = (N.2.1 77 29) := (F_n F21 (show ¬ (77 = 77 ∧ (29 = 4 ∨ 29 = 5 ∨ 7 ≤ 29 ∧ 29 ≤ 10 ∨ 14 ≤ 29 ∧ 29 ≤ 16 ∨ 29 = 25) ∨ 80 ≤ 77 ∧ 77 ≤ 84 ∧ 8 ≤ 29 ∨ 85 ≤ 77 ∧ 77 ≤ 87 ∧ 12 ≤ 29) by omega) rfl)
          have t_45 : (M28.2.1 77 29).toInt = (N.2.1 77 29).toInt := congrArg Int32.toInt c_44
          have b_46 := g_b hG22 (a := 77) (i := 10) (lo := 0) (hi := 500) rfl rfl
          exact ih M28 (u1) v38 hG22 F29 (by omega) (by omega) (by omega) (by omega) (by omega) (by omega) (by omega) p_25 j_40 j_41 (by omega) (by omega) (fun s9 h9 => PLk_f (fun a i z => (F_n F21 (show ¬ (a = 77 ∧ (i = 4 ∨ i = 5 ∨ 7 ≤ i ∧ i ≤ 10 ∨ 14 ≤ i ∧ i ≤ 16 ∨ i = 25) ∨ 80 ≤ a ∧ a ≤ 84 ∧ 8 ≤ i ∨ 85 ≤ a ∧ a ≤ 87 ∧ 12 ≤ i) by omega) rfl)) (g13 s9 h9)) (IVr_s (by omega) (by omega) i_2 (by omega) i_3 i_4 p_37 rfl (by omega)) (by omega)
      · refine to_c (pc := 34) rw_173_34 (x := (1 : Int32)) rfl rfl ?_
        refine to_go (pc := 35) rw_173_35 ?_
        refine s_v (pc := 39) rw_173_39 (by omega) (ls0 := [.ref 77, .int (1 : Int32)]) rfl (Nat.le_of_ble_eq_true rfl) (Nat.le_of_ble_eq_true rfl) rfl (to_rc rfl rfl rfl (g_o hG rfl)) rfl ?_
        have k_47 : (1 : Int32).toInt = 1 := rfl
        refine E_172 hX (by omega) hG g8 (by omega) (by omega) (by omega) g9 g10 i_1 (by omega) (by omega) (by omega) (by omega) (by omega) (x := (1 : Int32)) (t := t) (nn := nn) (a := (N.2.1 77 10).toInt) (sg := sg) (L := x2.toInt) (fu := (22 - x2.toInt).toNat) (fun r48 M56 hG50 F49 p_51 p_52 p_53 p_54 p_55 => ?_)
        have F57 := FR.c F0 F49 (fun a i z => show a = 77 ∨ 79 < a ∧ a ≤ 87 ∨ a = 100 by have z : a = 77 ∧ (i = 4 ∨ i = 5 ∨ 7 ≤ i ∧ i ≤ 10 ∨ 14 ≤ i ∧ i ≤ 16 ∨ i = 25) ∨ 80 ≤ a ∧ a ≤ 84 ∧ 8 ≤ i ∨ 85 ≤ a ∧ a ≤ 87 ∧ 12 ≤ i := z; omega)
        rcases (show r48.toInt = 0 ∨ r48.toInt = 1 by omega) with h58 | h58
        · skip
          have p_59 := p_54 (by omega)
          clear p_54 p_55
          refine b_ine_f (pc := 42) rw_173_42 (A := r48.toInt) rfl (by omega) ?_
          refine to_c (pc := 45) rw_173_45 (x := (-1 : Int32)) rfl rfl ?_
          refine to_r0 (pc := 46) rw_173_46 ?_
          have k_60 : (-1 : Int32).toInt = -1 := rfl
          have c_61 : M56.2.1 77 28 = (N.2.1 77 28) := (F_n F49 (show ¬ (77 = 77 ∧ (28 = 4 ∨ 28 = 5 ∨ 7 ≤ 28 ∧ 28 ≤ 10 ∨ 14 ≤ 28 ∧ 28 ≤ 16 ∨ 28 = 25) ∨ 80 ≤ 77 ∧ 77 ≤ 84 ∧ 8 ≤ 28 ∨ 85 ≤ 77 ∧ 77 ≤ 87 ∧ 12 ≤ 28) by omega) rfl)
          have t_62 : (M56.2.1 77 28).toInt = (N.2.1 77 28).toInt := congrArg Int32.toInt c_61
          have c_63 : M56.2.1 77 29 = (N.2.1 77 29) := (F_n F49 (show ¬ (77 = 77 ∧ (29 = 4 ∨ 29 = 5 ∨ 7 ≤ 29 ∧ 29 ≤ 10 ∨ 14 ≤ 29 ∧ 29 ≤ 16 ∨ 29 = 25) ∨ 80 ≤ 77 ∧ 77 ≤ 84 ∧ 8 ≤ 29 ∨ 85 ≤ 77 ∧ 77 ≤ 87 ∧ 12 ≤ 29) by omega) rfl)
          have t_64 : (M56.2.1 77 29).toInt = (N.2.1 77 29).toInt := congrArg Int32.toInt c_63
          exact h (-1 : Int32) M56 hG50 F57 (by omega) (fun _ => Or.inl ⟨IVr_l (by omega) (by omega) i_2 (by omega) p_59, rfl⟩) (by omega) (by omega) (by omega) (fun _ => (fun s9 h9 => PLk_f (fun a i z => (F_n F49 (show ¬ (a = 77 ∧ (i = 4 ∨ i = 5 ∨ 7 ≤ i ∧ i ≤ 10 ∨ 14 ≤ i ∧ i ≤ 16 ∨ i = 25) ∨ 80 ≤ a ∧ a ≤ 84 ∧ 8 ≤ i ∨ 85 ≤ a ∧ a ≤ 87 ∧ 12 ≤ i) by omega) rfl)) (g13 s9 h9))) (fun z => by exfalso; omega)
        · skip
          have p_65 := p_55 (by omega)
          clear p_54 p_55
          refine b_ine_t (pc := 42) rw_173_42 (A := r48.toInt) rfl (by omega) ?_
          refine s_inc (pc := 47) rw_173_47 (ls2 := fun v => [.ref 77, u1, .int v]) rfl rfl (fun _ => rfl) (A := x2.toInt) (B := 1) rfl rfl (by omega) (fun v66 e67 => ?_)
          refine to_go (pc := 50) rw_173_50 ?_
          have j_68 := (TR_f (fun a i z => F_n F49 (show ¬ (a = 77 ∧ (i = 4 ∨ i = 5 ∨ 7 ≤ i ∧ i ≤ 10 ∨ 14 ≤ i ∧ i ≤ 16 ∨ i = 25) ∨ 80 ≤ a ∧ a ≤ 84 ∧ 8 ≤ i ∨ 85 ≤ a ∧ a ≤ 87 ∧ 12 ≤ i) by omega) rfl) g9)
          have j_69 := (W9_f (fun a i z => F_n F49 (show ¬ (a = 77 ∧ (i = 4 ∨ i = 5 ∨ 7 ≤ i ∧ i ≤ 10 ∨ 14 ≤ i ∧ i ≤ 16 ∨ i = 25) ∨ 80 ≤ a ∧ a ≤ 84 ∧ 8 ≤ i ∨ 85 ≤ a ∧ a ≤ 87 ∧ 12 ≤ i) by omega) rfl) g10)
          have c_70 : M56.2.1 77 28 = (N.2.1 77 28) := (F_n F49 (show ¬ (77 = 77 ∧ (28 = 4 ∨ 28 = 5 ∨ 7 ≤ 28 ∧ 28 ≤ 10 ∨ 14 ≤ 28 ∧ 28 ≤ 16 ∨ 28 = 25) ∨ 80 ≤ 77 ∧ 77 ≤ 84 ∧ 8 ≤ 28 ∨ 85 ≤ 77 ∧ 77 ≤ 87 ∧ 12 ≤ 28) by omega) rfl)
          have t_71 : (M56.2.1 77 28).toInt = (N.2.1 77 28).toInt := congrArg Int32.toInt c_70
          have c_72 : M56.2.1 77 29 = (N.2.1 77 29) := (F_n F49 (show ¬ (77 = 77 ∧ (29 = 4 ∨ 29 = 5 ∨ 7 ≤ 29 ∧ 29 ≤ 10 ∨ 14 ≤ 29 ∧ 29 ≤ 16 ∨ 29 = 25) ∨ 80 ≤ 77 ∧ 77 ≤ 84 ∧ 8 ≤ 29 ∨ 85 ≤ 77 ∧ 77 ≤ 87 ∧ 12 ≤ 29) by omega) rfl)
          have t_73 : (M56.2.1 77 29).toInt = (N.2.1 77 29).toInt := congrArg Int32.toInt c_72
          have b_74 := g_b hG50 (a := 77) (i := 10) (lo := 0) (hi := 500) rfl rfl
          exact ih M56 (u1) v66 hG50 F57 (by omega) (by omega) (by omega) (by omega) (by omega) (by omega) (by omega) p_53 j_68 j_69 (by omega) (by omega) (fun s9 h9 => PLk_f (fun a i z => (F_n F49 (show ¬ (a = 77 ∧ (i = 4 ∨ i = 5 ∨ 7 ≤ i ∧ i ≤ 10 ∨ 14 ≤ i ∧ i ≤ 16 ∨ i = 25) ∨ 80 ≤ a ∧ a ≤ 84 ∧ 8 ≤ i ∨ 85 ≤ a ∧ a ≤ 87 ∧ 12 ≤ i) by omega) rfl)) (g13 s9 h9)) (IVr_s (by omega) (by omega) i_2 (by omega) i_3 i_4 p_65 rfl (by omega)) (by omega)
set_option maxRecDepth 4000 in
set_option maxHeartbeats 0 in
theorem E_173 {X : mm_X} {d : Nat} {M : mm_M} {Q : Option Value → mm_M → Prop} {n : Int32} {t : Nat → Int} {nn : Int} (hX : g_X X) (hd : 5 ≤ d) (hG : g_G M) (q1 : (M.2.1 77 7).toInt ≤ (M.2.1 77 6).toInt) (q2 : 0 ≤ n.toInt ∧ n.toInt ≤ (M.2.1 77 1).toInt → n.toInt = nn) (q3 : TR M t nn) (q4 : W9 M) (h : ∀ (r : Int32) (M1 : mm_M), g_G M1 → FR md_P M M1 → (n.toInt < 0 ∨ (M.2.1 77 1).toInt < n.toInt → r.toInt = -2) → ((0 ≤ n.toInt ∧ n.toInt ≤ (M.2.1 77 1).toInt → PAN (x_plan t nn 23 0 x_s0 (x_sk t nn 0)) r.toInt)) → (-2 ≤ r.toInt) → (r.toInt < 0 → (M1.2.1 77 28).toInt = (M.2.1 77 28).toInt ∧ (M1.2.1 77 29).toInt = (M.2.1 77 29).toInt) → (0 ≤ r.toInt → (M1.2.1 77 28).toInt = 0 ∧ (M1.2.1 77 29).toInt = 0) → ((r.toInt < 0 → ∀ s9 : x_S, PLk M s9 → PLk M1 s9)) → ((0 ≤ r.toInt → ∃ s2 : x_S, x_plan t nn 23 0 x_s0 (x_sk t nn 0) = some (r.toInt, s2) ∧ PLk M1 s2)) → Q (some (.int r)) M1) : mm_T X d 172 0 [.ref 77, .int n, .null] [] M Q := by
  have F0 : FR md_P M M := FR.rf
  have b_75 := g_b hG (a := 77) (i := 7) (lo := 0) (hi := 500) rfl rfl
  have b_76 := g_b hG (a := 77) (i := 6) (lo := 0) (hi := 500) rfl rfl
  have b_77 := g_b hG (a := 77) (i := 1) (lo := 0) (hi := 500) rfl rfl
  refine to_an (pc := 0) rw_173_0 rfl ?_
  refine to_c (pc := 1) rw_173_1 (x := (0 : Int32)) rfl rfl ?_
  refine s_pI (pc := 2) rw_173_2 hG rfl (fun M79 W78 => ?_)
  have hG80 := g_wf hG W78 rfl rfl (by decide)
  have F81 := FR.w F0 W78 (show 77 = 77 ∨ 79 < 77 ∧ 77 ≤ 87 ∨ 77 = 100 by omega)
  refine to_an (pc := 5) rw_173_5 rfl ?_
  refine to_in (pc := 6) rw_173_6 rfl ?_
  refine s_v (pc := 7) rw_173_7 (by omega) (ls0 := [.ref 77, .int n]) rfl (Nat.le_of_ble_eq_true rfl) (Nat.le_of_ble_eq_true rfl) rfl (to_rc rfl rfl rfl (g_o hG80 rfl)) rfl ?_
  have c_82 : M79.2.1 77 1 = (M.2.1 77 1) := (W_n W78 (by decide) rfl)
  have t_83 : (M79.2.1 77 1).toInt = (M.2.1 77 1).toInt := congrArg Int32.toInt c_82
  have c_84 : M79.2.1 77 7 = (M.2.1 77 7) := (W_n W78 (by decide) rfl)
  have t_85 : (M79.2.1 77 7).toInt = (M.2.1 77 7).toInt := congrArg Int32.toInt c_84
  have c_86 : M79.2.1 77 6 = (M.2.1 77 6) := (W_n W78 (by decide) rfl)
  have t_87 : (M79.2.1 77 6).toInt = (M.2.1 77 6).toInt := congrArg Int32.toInt c_86
  have j_88 := (TR_f (fun a i z => W_n W78 (by omega) rfl) q3)
  have j_89 := (W9_f (fun a i z => W_n W78 (by omega) rfl) q4)
  refine E_163 hX (by omega) hG80 (by omega) (by omega) j_88 j_89 (n := n) (fun r90 M99 hG92 F91 p_93 p_94 p_95 p_96 p_97 p_98 => ?_)
  have F100 := FR.c F81 F91 (fun a i z => show a = 77 ∨ 79 < a ∧ a ≤ 87 ∨ a = 100 by have z : a = 77 ∧ (i = 1 ∨ 4 ≤ i ∧ i ≤ 10) := z; omega)
  have b_101 := g_b hG92 (a := 77) (i := 7) (lo := 0) (hi := 500) rfl rfl
  have b_102 := g_b hG92 (a := 77) (i := 6) (lo := 0) (hi := 500) rfl rfl
  have b_103 := g_b hG92 (a := 77) (i := 1) (lo := 0) (hi := 500) rfl rfl
  rcases (show r90.toInt = 0 ∨ r90.toInt = 1 by omega) with h104 | h104
  · skip
    clear p_98
    refine b_ine_f (pc := 10) rw_173_10 (A := r90.toInt) rfl (by omega) ?_
    refine to_c (pc := 13) rw_173_13 (x := (-2 : Int32)) rfl rfl ?_
    refine to_r0 (pc := 15) rw_173_15 ?_
    have k_105 : (-2 : Int32).toInt = -2 := rfl
    have c_106 : M99.2.1 77 28 = (M.2.1 77 28) := (F_n F91 (show ¬ (77 = 77 ∧ (28 = 1 ∨ 4 ≤ 28 ∧ 28 ≤ 10)) by omega) (W_n W78 (by decide) rfl))
    have b_107 := g_b hG (a := 77) (i := 28) (lo := 0) (hi := 30) rfl rfl
    have t_108 : (M99.2.1 77 28).toInt = (M.2.1 77 28).toInt := congrArg Int32.toInt c_106
    have c_109 : M99.2.1 77 29 = (M.2.1 77 29) := (F_n F91 (show ¬ (77 = 77 ∧ (29 = 1 ∨ 4 ≤ 29 ∧ 29 ≤ 10)) by omega) (W_n W78 (by decide) rfl))
    have b_110 := g_b hG (a := 77) (i := 29) (lo := 0) (hi := 150) rfl rfl
    have t_111 : (M99.2.1 77 29).toInt = (M.2.1 77 29).toInt := congrArg Int32.toInt c_109
    exact h (-2 : Int32) M99 hG92 F100 (by omega) (fun z => by exfalso; omega) (by omega) (by omega) (by omega) (fun _ => (fun s9 h9 => PLk_f (fun a i z => (F_n F91 (show ¬ (a = 77 ∧ (i = 1 ∨ 4 ≤ i ∧ i ≤ 10)) by omega) (W_n W78 (by omega) rfl))) h9)) (fun z => by exfalso; omega)
  · skip
    have p_112 := p_98 (by omega)
    clear p_98
    have b_113 := g_b hG92 (a := 77) (i := 10) (lo := 0) (hi := 500) rfl rfl
    have z_114 := p_112.2
    refine b_ine_t (pc := 10) rw_173_10 (A := r90.toInt) rfl (by omega) ?_
    refine to_an (pc := 16) rw_173_16 rfl ?_
    refine s_v (pc := 17) rw_173_17 (by omega) (ls0 := [.ref 77]) rfl (Nat.le_of_ble_eq_true rfl) (Nat.le_of_ble_eq_true rfl) rfl (to_rc rfl rfl rfl (g_o hG92 rfl)) rfl ?_
    refine E_164 hX (by omega) hG92  (fun M118 hG116 F115 p_117 => ?_)
    have F119 := FR.c F100 F115 (fun a i z => show a = 77 ∨ 79 < a ∧ a ≤ 87 ∨ a = 100 by have z : a = 77 ∧ (14 ≤ i ∧ i ≤ 16 ∨ i = 25) := z; omega)
    refine to_c (pc := 20) rw_173_20 (x := (0 : Int32)) rfl rfl ?_
    refine to_isn (pc := 21) rw_173_21 (ls2 := [.ref 77, .int n, .int (0 : Int32)]) rfl rfl ?_
    have k_120 : (0 : Int32).toInt = 0 := rfl
    have j_121 := (RS_f (fun a i z => F_n F115 (show ¬ (a = 77 ∧ (14 ≤ i ∧ i ≤ 16 ∨ i = 25)) by omega) rfl) p_112.1)
    have j_122 := (TR_f (fun a i z => F_n F115 (show ¬ (a = 77 ∧ (14 ≤ i ∧ i ≤ 16 ∨ i = 25)) by omega) rfl) (TR_f (fun a i z => F_n F91 (show ¬ (a = 77 ∧ (i = 1 ∨ 4 ≤ i ∧ i ≤ 10)) by omega) rfl) j_88))
    have j_123 := (W9_f (fun a i z => F_n F115 (show ¬ (a = 77 ∧ (14 ≤ i ∧ i ≤ 16 ∨ i = 25)) by omega) rfl) (W9_f (fun a i z => F_n F91 (show ¬ (a = 77 ∧ (i = 1 ∨ 4 ≤ i ∧ i ≤ 10)) by omega) rfl) j_89))
    have c_124 : M118.2.1 77 28 = (M.2.1 77 28) := (F_n F115 (show ¬ (77 = 77 ∧ (14 ≤ 28 ∧ 28 ≤ 16 ∨ 28 = 25)) by omega) (F_n F91 (show ¬ (77 = 77 ∧ (28 = 1 ∨ 4 ≤ 28 ∧ 28 ≤ 10)) by omega) (W_n W78 (by decide) rfl)))
    have b_125 := g_b hG (a := 77) (i := 28) (lo := 0) (hi := 30) rfl rfl
    have t_126 : (M118.2.1 77 28).toInt = (M.2.1 77 28).toInt := congrArg Int32.toInt c_124
    have c_127 : M118.2.1 77 29 = (M.2.1 77 29) := (F_n F115 (show ¬ (77 = 77 ∧ (14 ≤ 29 ∧ 29 ≤ 16 ∨ 29 = 25)) by omega) (F_n F91 (show ¬ (77 = 77 ∧ (29 = 1 ∨ 4 ≤ 29 ∧ 29 ≤ 10)) by omega) (W_n W78 (by decide) rfl)))
    have b_128 := g_b hG (a := 77) (i := 29) (lo := 0) (hi := 150) rfl rfl
    have t_129 : (M118.2.1 77 29).toInt = (M.2.1 77 29).toInt := congrArg Int32.toInt c_127
    have c_130 : M118.2.1 77 10 = (M99.2.1 77 10) := (F_n F115 (show ¬ (77 = 77 ∧ (14 ≤ 10 ∧ 10 ≤ 16 ∨ 10 = 25)) by omega) rfl)
    have t_131 : (M118.2.1 77 10).toInt = (M99.2.1 77 10).toInt := congrArg Int32.toInt c_130
    exact (U_173_0 (n := n) (t := t) (nn := nn) hX hd q1 q2 q3 q4 h ((22 - (0 : Int32).toInt).toNat + 1)) M118 (.int n) (0 : Int32) hG116 F119 (by omega) (by omega) (by omega) (by omega) (by omega) (by omega) (by omega) j_121 j_122 j_123 (by omega) (by omega) (fun s9 h9 => PLk_f (fun a i z => (F_n F115 (show ¬ (a = 77 ∧ (14 ≤ i ∧ i ≤ 16 ∨ i = 25)) by omega) (F_n F91 (show ¬ (a = 77 ∧ (i = 1 ∨ 4 ≤ i ∧ i ≤ 10)) by omega) (W_n W78 (by omega) rfl)))) h9) (IVr_0 p_117 (by omega) (by omega)) (by omega)
