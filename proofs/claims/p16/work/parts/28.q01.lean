theorem tg_1 : ∀ a i : Nat, (a < 0) → (a = 1 ∧ i = 5 ∨ 3 ≤ a ∧ a ≤ 5) := fun a i z => by omega
theorem tg_2 : ∀ a i : Nat, (a = 1 ∧ i = 5 ∨ 3 ≤ a ∧ a ≤ 5) → (a = 1 ∧ i = 5 ∨ 3 ≤ a ∧ a ≤ 5) := fun a i z => by omega
set_option maxRecDepth 4000 in
set_option maxHeartbeats 0 in
theorem E_96 {X : mm_X} {d : Nat} {M : mm_M} {Q : Option Value → mm_M → Prop} {x : Int32} (hX : g_X X) (hd : 0 ≤ d) (hG : g_G M) (q1 : g_W X) (h : ∀ (r : Int32) (M1 : mm_M), g_G M1 → FR md_0 M M1 → (0 ≤ r.toInt) → (r.toInt ≤ 1) → (r.toInt = 1 → 0 ≤ x_kx x.toInt) → (r.toInt = 0 → x_kx x.toInt < 0) → Q (some (.int r)) M1) : mm_T X d 96 0 [.int x, .null, .null, .null, .null] [] M Q := by
  have F0 : FR md_0 M M := FR.rf
  refine s_gs (pc := 0) rw_96_0 (to_asn (pc := 3) rw_96_3 (ls2 := [.int x, .ref (mm_ext + 1), .null, .null, .null]) rfl rfl (to_an (pc := 4) rw_96_4 rfl (s_xlen (pc := 5) rw_96_5 hX (e := 1) (n := 15) rfl (v := (15 : Int32)) rfl (to_isn (pc := 6) rw_96_6 (ls2 := [.int x, .ref (mm_ext + 1), .int (15 : Int32), .null, .null]) rfl rfl (to_c (pc := 7) rw_96_7 (x := (0 : Int32)) rfl rfl (to_isn (pc := 8) rw_96_8 (ls2 := [.int x, .ref (mm_ext + 1), .int (15 : Int32), .int (0 : Int32), .null]) rfl rfl (to_in (pc := 9) rw_96_9 rfl (to_in (pc := 10) rw_96_10 rfl (b_cge_f (pc := 11) rw_96_11 (A := 0) (B := 15) rfl rfl (by decide) (to_an (pc := 14) rw_96_14 rfl (to_in (pc := 15) rw_96_15 rfl ?_)))))))))))
  refine s_xalE (pc := 16) rw_96_16 hX (e := 1) (n := 15) rfl (A := 0) rfl (by omega) (by omega) (fun v1 w_2 => ?_)
  have z_3 : v1.toInt = 284563040 := (g_W_u q1 0 (by decide) (by omega) w_2).trans rfl
  refine to_is (pc := 17) rw_96_17 (ls2 := [.int x, .ref (mm_ext + 1), .int (15 : Int32), .int (0 : Int32), .int v1]) rfl rfl (to_i (pc := 19) rw_96_19 rfl (to_in (pc := 21) rw_96_21 rfl (b_cne (pc := 22) rw_96_22 (A := v1.toInt) (B := x.toInt) rfl rfl (fun h4 => ?_) (fun h4 => ?_))))
  · refine s_inc (pc := 27) rw_96_27 (ls2 := fun v => [.int x, .ref (mm_ext + 1), .int (15 : Int32), .int v, .int v1]) rfl rfl (fun _ => rfl) (A := 0) (B := 1) rfl rfl (by omega) (fun v5 e6 => to_go (pc := 30) rw_96_30 (to_in (pc := 9) rw_96_9 rfl (to_in (pc := 10) rw_96_10 rfl (b_cge_f (pc := 11) rw_96_11 (A := v5.toInt) (B := 15) rfl rfl (by omega) (to_an (pc := 14) rw_96_14 rfl (to_in (pc := 15) rw_96_15 rfl (s_xalE (pc := 16) rw_96_16 hX (e := 1) (n := 15) rfl (A := v5.toInt) rfl (by omega) (by omega) (fun v7 w_8 => ?_))))))))
    have z_9 : v7.toInt = 210940032 := (g_W_u q1 1 (by decide) (by omega) w_8).trans rfl
    refine to_is (pc := 17) rw_96_17 (ls2 := [.int x, .ref (mm_ext + 1), .int (15 : Int32), .int v5, .int v7]) rfl rfl (to_i (pc := 19) rw_96_19 rfl (to_in (pc := 21) rw_96_21 rfl (b_cne (pc := 22) rw_96_22 (A := v7.toInt) (B := x.toInt) rfl rfl (fun h10 => ?_) (fun h10 => ?_))))
    · refine s_inc (pc := 27) rw_96_27 (ls2 := fun v => [.int x, .ref (mm_ext + 1), .int (15 : Int32), .int v, .int v7]) rfl rfl (fun _ => rfl) (A := v5.toInt) (B := 1) rfl rfl (by omega) (fun v11 e12 => to_go (pc := 30) rw_96_30 (to_in (pc := 9) rw_96_9 rfl (to_in (pc := 10) rw_96_10 rfl (b_cge_f (pc := 11) rw_96_11 (A := v11.toInt) (B := 15) rfl rfl (by omega) (to_an (pc := 14) rw_96_14 rfl (to_in (pc := 15) rw_96_15 rfl (s_xalE (pc := 16) rw_96_16 hX (e := 1) (n := 15) rfl (A := v11.toInt) rfl (by omega) (by omega) (fun v13 w_14 => ?_))))))))
      have z_15 : v13.toInt = 788074496 := (g_W_u q1 2 (by decide) (by omega) w_14).trans rfl
      refine to_is (pc := 17) rw_96_17 (ls2 := [.int x, .ref (mm_ext + 1), .int (15 : Int32), .int v11, .int v13]) rfl rfl (to_i (pc := 19) rw_96_19 rfl (to_in (pc := 21) rw_96_21 rfl (b_cne (pc := 22) rw_96_22 (A := v13.toInt) (B := x.toInt) rfl rfl (fun h16 => ?_) (fun h16 => ?_))))
      · refine s_inc (pc := 27) rw_96_27 (ls2 := fun v => [.int x, .ref (mm_ext + 1), .int (15 : Int32), .int v, .int v13]) rfl rfl (fun _ => rfl) (A := v11.toInt) (B := 1) rfl rfl (by omega) (fun v17 e18 => to_go (pc := 30) rw_96_30 (to_in (pc := 9) rw_96_9 rfl (to_in (pc := 10) rw_96_10 rfl (b_cge_f (pc := 11) rw_96_11 (A := v17.toInt) (B := 15) rfl rfl (by omega) (to_an (pc := 14) rw_96_14 rfl (to_in (pc := 15) rw_96_15 rfl (s_xalE (pc := 16) rw_96_16 hX (e := 1) (n := 15) rfl (A := v17.toInt) rfl (by omega) (by omega) (fun v19 w_20 => ?_))))))))
        have z_21 : v19.toInt = 518160384 := (g_W_u q1 3 (by decide) (by omega) w_20).trans rfl
        refine to_is (pc := 17) rw_96_17 (ls2 := [.int x, .ref (mm_ext + 1), .int (15 : Int32), .int v17, .int v19]) rfl rfl (to_i (pc := 19) rw_96_19 rfl (to_in (pc := 21) rw_96_21 rfl (b_cne (pc := 22) rw_96_22 (A := v19.toInt) (B := x.toInt) rfl rfl (fun h22 => ?_) (fun h22 => ?_))))
        · refine s_inc (pc := 27) rw_96_27 (ls2 := fun v => [.int x, .ref (mm_ext + 1), .int (15 : Int32), .int v, .int v19]) rfl rfl (fun _ => rfl) (A := v17.toInt) (B := 1) rfl rfl (by omega) (fun v23 e24 => to_go (pc := 30) rw_96_30 (to_in (pc := 9) rw_96_9 rfl (to_in (pc := 10) rw_96_10 rfl (b_cge_f (pc := 11) rw_96_11 (A := v23.toInt) (B := 15) rfl rfl (by omega) (to_an (pc := 14) rw_96_14 rfl (to_in (pc := 15) rw_96_15 rfl (s_xalE (pc := 16) rw_96_16 hX (e := 1) (n := 15) rfl (A := v23.toInt) rfl (by omega) (by omega) (fun v25 w_26 => ?_))))))))
          have z_27 : v25.toInt = 659999744 := (g_W_u q1 4 (by decide) (by omega) w_26).trans rfl
          refine to_is (pc := 17) rw_96_17 (ls2 := [.int x, .ref (mm_ext + 1), .int (15 : Int32), .int v23, .int v25]) rfl rfl (to_i (pc := 19) rw_96_19 rfl (to_in (pc := 21) rw_96_21 rfl (b_cne (pc := 22) rw_96_22 (A := v25.toInt) (B := x.toInt) rfl rfl (fun h28 => ?_) (fun h28 => ?_))))
          · refine s_inc (pc := 27) rw_96_27 (ls2 := fun v => [.int x, .ref (mm_ext + 1), .int (15 : Int32), .int v, .int v25]) rfl rfl (fun _ => rfl) (A := v23.toInt) (B := 1) rfl rfl (by omega) (fun v29 e30 => to_go (pc := 30) rw_96_30 (to_in (pc := 9) rw_96_9 rfl (to_in (pc := 10) rw_96_10 rfl (b_cge_f (pc := 11) rw_96_11 (A := v29.toInt) (B := 15) rfl rfl (by omega) (to_an (pc := 14) rw_96_14 rfl (to_in (pc := 15) rw_96_15 rfl (s_xalE (pc := 16) rw_96_16 hX (e := 1) (n := 15) rfl (A := v29.toInt) rfl (by omega) (by omega) (fun v31 w_32 => ?_))))))))
            have z_33 : v31.toInt = 538233440 := (g_W_u q1 5 (by decide) (by omega) w_32).trans rfl
            refine to_is (pc := 17) rw_96_17 (ls2 := [.int x, .ref (mm_ext + 1), .int (15 : Int32), .int v29, .int v31]) rfl rfl (to_i (pc := 19) rw_96_19 rfl (to_in (pc := 21) rw_96_21 rfl (b_cne (pc := 22) rw_96_22 (A := v31.toInt) (B := x.toInt) rfl rfl (fun h34 => ?_) (fun h34 => ?_))))
            · refine s_inc (pc := 27) rw_96_27 (ls2 := fun v => [.int x, .ref (mm_ext + 1), .int (15 : Int32), .int v, .int v31]) rfl rfl (fun _ => rfl) (A := v29.toInt) (B := 1) rfl rfl (by omega) (fun v35 e36 => to_go (pc := 30) rw_96_30 (to_in (pc := 9) rw_96_9 rfl (to_in (pc := 10) rw_96_10 rfl (b_cge_f (pc := 11) rw_96_11 (A := v35.toInt) (B := 15) rfl rfl (by omega) (to_an (pc := 14) rw_96_14 rfl (to_in (pc := 15) rw_96_15 rfl (s_xalE (pc := 16) rw_96_16 hX (e := 1) (n := 15) rfl (A := v35.toInt) rfl (by omega) (by omega) (fun v37 w_38 => ?_))))))))
              have z_39 : v37.toInt = 404000768 := (g_W_u q1 6 (by decide) (by omega) w_38).trans rfl
              refine to_is (pc := 17) rw_96_17 (ls2 := [.int x, .ref (mm_ext + 1), .int (15 : Int32), .int v35, .int v37]) rfl rfl (to_i (pc := 19) rw_96_19 rfl (to_in (pc := 21) rw_96_21 rfl (b_cne (pc := 22) rw_96_22 (A := v37.toInt) (B := x.toInt) rfl rfl (fun h40 => ?_) (fun h40 => ?_))))
              · refine s_inc (pc := 27) rw_96_27 (ls2 := fun v => [.int x, .ref (mm_ext + 1), .int (15 : Int32), .int v, .int v37]) rfl rfl (fun _ => rfl) (A := v35.toInt) (B := 1) rfl rfl (by omega) (fun v41 e42 => to_go (pc := 30) rw_96_30 (to_in (pc := 9) rw_96_9 rfl (to_in (pc := 10) rw_96_10 rfl (b_cge_f (pc := 11) rw_96_11 (A := v41.toInt) (B := 15) rfl rfl (by omega) (to_an (pc := 14) rw_96_14 rfl (to_in (pc := 15) rw_96_15 rfl (s_xalE (pc := 16) rw_96_16 hX (e := 1) (n := 15) rfl (A := v41.toInt) rfl (by omega) (by omega) (fun v43 w_44 => ?_))))))))
                have z_45 : v43.toInt = 538561536 := (g_W_u q1 7 (by decide) (by omega) w_44).trans rfl
                refine to_is (pc := 17) rw_96_17 (ls2 := [.int x, .ref (mm_ext + 1), .int (15 : Int32), .int v41, .int v43]) rfl rfl (to_i (pc := 19) rw_96_19 rfl (to_in (pc := 21) rw_96_21 rfl (b_cne (pc := 22) rw_96_22 (A := v43.toInt) (B := x.toInt) rfl rfl (fun h46 => ?_) (fun h46 => ?_))))
                · refine s_inc (pc := 27) rw_96_27 (ls2 := fun v => [.int x, .ref (mm_ext + 1), .int (15 : Int32), .int v, .int v43]) rfl rfl (fun _ => rfl) (A := v41.toInt) (B := 1) rfl rfl (by omega) (fun v47 e48 => to_go (pc := 30) rw_96_30 (to_in (pc := 9) rw_96_9 rfl (to_in (pc := 10) rw_96_10 rfl (b_cge_f (pc := 11) rw_96_11 (A := v47.toInt) (B := 15) rfl rfl (by omega) (to_an (pc := 14) rw_96_14 rfl (to_in (pc := 15) rw_96_15 rfl (s_xalE (pc := 16) rw_96_16 hX (e := 1) (n := 15) rfl (A := v47.toInt) rfl (by omega) (by omega) (fun v49 w_50 => ?_))))))))
                  have z_51 : v49.toInt = 686817280 := (g_W_u q1 8 (by decide) (by omega) w_50).trans rfl
                  refine to_is (pc := 17) rw_96_17 (ls2 := [.int x, .ref (mm_ext + 1), .int (15 : Int32), .int v47, .int v49]) rfl rfl (to_i (pc := 19) rw_96_19 rfl (to_in (pc := 21) rw_96_21 rfl (b_cne (pc := 22) rw_96_22 (A := v49.toInt) (B := x.toInt) rfl rfl (fun h52 => ?_) (fun h52 => ?_))))
                  · refine s_inc (pc := 27) rw_96_27 (ls2 := fun v => [.int x, .ref (mm_ext + 1), .int (15 : Int32), .int v, .int v49]) rfl rfl (fun _ => rfl) (A := v47.toInt) (B := 1) rfl rfl (by omega) (fun v53 e54 => to_go (pc := 30) rw_96_30 (to_in (pc := 9) rw_96_9 rfl (to_in (pc := 10) rw_96_10 rfl (b_cge_f (pc := 11) rw_96_11 (A := v53.toInt) (B := 15) rfl rfl (by omega) (to_an (pc := 14) rw_96_14 rfl (to_in (pc := 15) rw_96_15 rfl (s_xalE (pc := 16) rw_96_16 hX (e := 1) (n := 15) rfl (A := v53.toInt) rfl (by omega) (by omega) (fun v55 w_56 => ?_))))))))
                    have z_57 : v55.toInt = 93323264 := (g_W_u q1 9 (by decide) (by omega) w_56).trans rfl
                    refine to_is (pc := 17) rw_96_17 (ls2 := [.int x, .ref (mm_ext + 1), .int (15 : Int32), .int v53, .int v55]) rfl rfl (to_i (pc := 19) rw_96_19 rfl (to_in (pc := 21) rw_96_21 rfl (b_cne (pc := 22) rw_96_22 (A := v55.toInt) (B := x.toInt) rfl rfl (fun h58 => ?_) (fun h58 => ?_))))
                    · refine s_inc (pc := 27) rw_96_27 (ls2 := fun v => [.int x, .ref (mm_ext + 1), .int (15 : Int32), .int v, .int v55]) rfl rfl (fun _ => rfl) (A := v53.toInt) (B := 1) rfl rfl (by omega) (fun v59 e60 => to_go (pc := 30) rw_96_30 (to_in (pc := 9) rw_96_9 rfl (to_in (pc := 10) rw_96_10 rfl (b_cge_f (pc := 11) rw_96_11 (A := v59.toInt) (B := 15) rfl rfl (by omega) (to_an (pc := 14) rw_96_14 rfl (to_in (pc := 15) rw_96_15 rfl (s_xalE (pc := 16) rw_96_16 hX (e := 1) (n := 15) rfl (A := v59.toInt) rfl (by omega) (by omega) (fun v61 w_62 => ?_))))))))
                      have z_63 : v61.toInt = 351582208 := (g_W_u q1 10 (by decide) (by omega) w_62).trans rfl
                      refine to_is (pc := 17) rw_96_17 (ls2 := [.int x, .ref (mm_ext + 1), .int (15 : Int32), .int v59, .int v61]) rfl rfl (to_i (pc := 19) rw_96_19 rfl (to_in (pc := 21) rw_96_21 rfl (b_cne (pc := 22) rw_96_22 (A := v61.toInt) (B := x.toInt) rfl rfl (fun h64 => ?_) (fun h64 => ?_))))
                      · refine s_inc (pc := 27) rw_96_27 (ls2 := fun v => [.int x, .ref (mm_ext + 1), .int (15 : Int32), .int v, .int v61]) rfl rfl (fun _ => rfl) (A := v59.toInt) (B := 1) rfl rfl (by omega) (fun v65 e66 => to_go (pc := 30) rw_96_30 (to_in (pc := 9) rw_96_9 rfl (to_in (pc := 10) rw_96_10 rfl (b_cge_f (pc := 11) rw_96_11 (A := v65.toInt) (B := 15) rfl rfl (by omega) (to_an (pc := 14) rw_96_14 rfl (to_in (pc := 15) rw_96_15 rfl (s_xalE (pc := 16) rw_96_16 hX (e := 1) (n := 15) rfl (A := v65.toInt) rfl (by omega) (by omega) (fun v67 w_68 => ?_))))))))
                        have z_69 : v67.toInt = 40936896 := (g_W_u q1 11 (by decide) (by omega) w_68).trans rfl
                        refine to_is (pc := 17) rw_96_17 (ls2 := [.int x, .ref (mm_ext + 1), .int (15 : Int32), .int v65, .int v67]) rfl rfl (to_i (pc := 19) rw_96_19 rfl (to_in (pc := 21) rw_96_21 rfl (b_cne (pc := 22) rw_96_22 (A := v67.toInt) (B := x.toInt) rfl rfl (fun h70 => ?_) (fun h70 => ?_))))
                        · refine s_inc (pc := 27) rw_96_27 (ls2 := fun v => [.int x, .ref (mm_ext + 1), .int (15 : Int32), .int v, .int v67]) rfl rfl (fun _ => rfl) (A := v65.toInt) (B := 1) rfl rfl (by omega) (fun v71 e72 => to_go (pc := 30) rw_96_30 (to_in (pc := 9) rw_96_9 rfl (to_in (pc := 10) rw_96_10 rfl (b_cge_f (pc := 11) rw_96_11 (A := v71.toInt) (B := 15) rfl rfl (by omega) (to_an (pc := 14) rw_96_14 rfl (to_in (pc := 15) rw_96_15 rfl (s_xalE (pc := 16) rw_96_16 hX (e := 1) (n := 15) rfl (A := v71.toInt) rfl (by omega) (by omega) (fun v73 w_74 => ?_))))))))
                          have z_75 : v73.toInt = 486146048 := (g_W_u q1 12 (by decide) (by omega) w_74).trans rfl
                          refine to_is (pc := 17) rw_96_17 (ls2 := [.int x, .ref (mm_ext + 1), .int (15 : Int32), .int v71, .int v73]) rfl rfl (to_i (pc := 19) rw_96_19 rfl (to_in (pc := 21) rw_96_21 rfl (b_cne (pc := 22) rw_96_22 (A := v73.toInt) (B := x.toInt) rfl rfl (fun h76 => ?_) (fun h76 => ?_))))
                          · refine s_inc (pc := 27) rw_96_27 (ls2 := fun v => [.int x, .ref (mm_ext + 1), .int (15 : Int32), .int v, .int v73]) rfl rfl (fun _ => rfl) (A := v71.toInt) (B := 1) rfl rfl (by omega) (fun v77 e78 => to_go (pc := 30) rw_96_30 (to_in (pc := 9) rw_96_9 rfl (to_in (pc := 10) rw_96_10 rfl (b_cge_f (pc := 11) rw_96_11 (A := v77.toInt) (B := 15) rfl rfl (by omega) (to_an (pc := 14) rw_96_14 rfl (to_in (pc := 15) rw_96_15 rfl (s_xalE (pc := 16) rw_96_16 hX (e := 1) (n := 15) rfl (A := v77.toInt) rfl (by omega) (by omega) (fun v79 w_80 => ?_))))))))
                            have z_81 : v79.toInt = 48365568 := (g_W_u q1 13 (by decide) (by omega) w_80).trans rfl
                            refine to_is (pc := 17) rw_96_17 (ls2 := [.int x, .ref (mm_ext + 1), .int (15 : Int32), .int v77, .int v79]) rfl rfl (to_i (pc := 19) rw_96_19 rfl (to_in (pc := 21) rw_96_21 rfl (b_cne (pc := 22) rw_96_22 (A := v79.toInt) (B := x.toInt) rfl rfl (fun h82 => ?_) (fun h82 => ?_))))
                            · refine s_inc (pc := 27) rw_96_27 (ls2 := fun v => [.int x, .ref (mm_ext + 1), .int (15 : Int32), .int v, .int v79]) rfl rfl (fun _ => rfl) (A := v77.toInt) (B := 1) rfl rfl (by omega) (fun v83 e84 => to_go (pc := 30) rw_96_30 (to_in (pc := 9) rw_96_9 rfl (to_in (pc := 10) rw_96_10 rfl (b_cge_f (pc := 11) rw_96_11 (A := v83.toInt) (B := 15) rfl rfl (by omega) (to_an (pc := 14) rw_96_14 rfl (to_in (pc := 15) rw_96_15 rfl (s_xalE (pc := 16) rw_96_16 hX (e := 1) (n := 15) rfl (A := v83.toInt) rfl (by omega) (by omega) (fun v85 w_86 => ?_))))))))
                              have z_87 : v85.toInt = 522190848 := (g_W_u q1 14 (by decide) (by omega) w_86).trans rfl
                              refine to_is (pc := 17) rw_96_17 (ls2 := [.int x, .ref (mm_ext + 1), .int (15 : Int32), .int v83, .int v85]) rfl rfl (to_i (pc := 19) rw_96_19 rfl (to_in (pc := 21) rw_96_21 rfl (b_cne (pc := 22) rw_96_22 (A := v85.toInt) (B := x.toInt) rfl rfl (fun h88 => ?_) (fun h88 => ?_))))
                              · refine s_inc (pc := 27) rw_96_27 (ls2 := fun v => [.int x, .ref (mm_ext + 1), .int (15 : Int32), .int v, .int v85]) rfl rfl (fun _ => rfl) (A := v83.toInt) (B := 1) rfl rfl (by omega) (fun v89 e90 => to_go (pc := 30) rw_96_30 (to_in (pc := 9) rw_96_9 rfl (to_in (pc := 10) rw_96_10 rfl (b_cge_t (pc := 11) rw_96_11 (A := v89.toInt) (B := 15) rfl rfl (by omega) (to_c (pc := 33) rw_96_33 (x := (0 : Int32)) rfl rfl (s_r1 (pc := 34) rw_96_34 (A := 0) rfl (by decide) ?_))))))
                                have k_91 : (0 : Int32).toInt = 0 := rfl
                                have z_92 : x_kx x.toInt = -1 := by unfold x_kx; rw [if_neg (by omega), if_neg (by omega), if_neg (by omega), if_neg (by omega), if_neg (by omega), if_neg (by omega), if_neg (by omega), if_neg (by omega), if_neg (by omega), if_neg (by omega), if_neg (by omega), if_neg (by omega), if_neg (by omega), if_neg (by omega), if_neg (by omega)]
                                exact h (0 : Int32) M hG F0 (by decide) (by decide) (by omega) (by omega)
                              · refine to_c (pc := 25) rw_96_25 (x := (1 : Int32)) rfl rfl (s_r1 (pc := 26) rw_96_26 (A := 1) rfl (by decide) ?_)
                                have k_93 : (1 : Int32).toInt = 1 := rfl
                                have z_94 : x_kx x.toInt = 13 := by rw [show x.toInt = 522190848 by omega]; rfl
                                exact h (1 : Int32) M hG F0 (by decide) (by decide) (by omega) (by omega)
                            · refine to_c (pc := 25) rw_96_25 (x := (1 : Int32)) rfl rfl (s_r1 (pc := 26) rw_96_26 (A := 1) rfl (by decide) ?_)
                              have k_95 : (1 : Int32).toInt = 1 := rfl
                              have z_96 : x_kx x.toInt = 12 := by rw [show x.toInt = 48365568 by omega]; rfl
                              exact h (1 : Int32) M hG F0 (by decide) (by decide) (by omega) (by omega)
                          · refine to_c (pc := 25) rw_96_25 (x := (1 : Int32)) rfl rfl (s_r1 (pc := 26) rw_96_26 (A := 1) rfl (by decide) ?_)
                            have k_97 : (1 : Int32).toInt = 1 := rfl
                            have z_98 : x_kx x.toInt = 14 := by rw [show x.toInt = 486146048 by omega]; rfl
                            exact h (1 : Int32) M hG F0 (by decide) (by decide) (by omega) (by omega)
                        · refine to_c (pc := 25) rw_96_25 (x := (1 : Int32)) rfl rfl (s_r1 (pc := 26) rw_96_26 (A := 1) rfl (by decide) ?_)
                          have k_99 : (1 : Int32).toInt = 1 := rfl
                          have z_100 : x_kx x.toInt = 11 := by rw [show x.toInt = 40936896 by omega]; rfl
                          exact h (1 : Int32) M hG F0 (by decide) (by decide) (by omega) (by omega)
                      · refine to_c (pc := 25) rw_96_25 (x := (1 : Int32)) rfl rfl (s_r1 (pc := 26) rw_96_26 (A := 1) rfl (by decide) ?_)
                        have k_101 : (1 : Int32).toInt = 1 := rfl
                        have z_102 : x_kx x.toInt = 10 := by rw [show x.toInt = 351582208 by omega]; rfl
                        exact h (1 : Int32) M hG F0 (by decide) (by decide) (by omega) (by omega)
                    · refine to_c (pc := 25) rw_96_25 (x := (1 : Int32)) rfl rfl (s_r1 (pc := 26) rw_96_26 (A := 1) rfl (by decide) ?_)
                      have k_103 : (1 : Int32).toInt = 1 := rfl
                      have z_104 : x_kx x.toInt = 9 := by rw [show x.toInt = 93323264 by omega]; rfl
                      exact h (1 : Int32) M hG F0 (by decide) (by decide) (by omega) (by omega)
                  · refine to_c (pc := 25) rw_96_25 (x := (1 : Int32)) rfl rfl (s_r1 (pc := 26) rw_96_26 (A := 1) rfl (by decide) ?_)
                    have k_105 : (1 : Int32).toInt = 1 := rfl
                    have z_106 : x_kx x.toInt = 8 := by rw [show x.toInt = 686817280 by omega]; rfl
                    exact h (1 : Int32) M hG F0 (by decide) (by decide) (by omega) (by omega)
                · refine to_c (pc := 25) rw_96_25 (x := (1 : Int32)) rfl rfl (s_r1 (pc := 26) rw_96_26 (A := 1) rfl (by decide) ?_)
                  have k_107 : (1 : Int32).toInt = 1 := rfl
                  have z_108 : x_kx x.toInt = 7 := by rw [show x.toInt = 538561536 by omega]; rfl
                  exact h (1 : Int32) M hG F0 (by decide) (by decide) (by omega) (by omega)
              · refine to_c (pc := 25) rw_96_25 (x := (1 : Int32)) rfl rfl (s_r1 (pc := 26) rw_96_26 (A := 1) rfl (by decide) ?_)
                have k_109 : (1 : Int32).toInt = 1 := rfl
                have z_110 : x_kx x.toInt = 6 := by rw [show x.toInt = 404000768 by omega]; rfl
                exact h (1 : Int32) M hG F0 (by decide) (by decide) (by omega) (by omega)
            · refine to_c (pc := 25) rw_96_25 (x := (1 : Int32)) rfl rfl (s_r1 (pc := 26) rw_96_26 (A := 1) rfl (by decide) ?_)
              have k_111 : (1 : Int32).toInt = 1 := rfl
              have z_112 : x_kx x.toInt = 5 := by rw [show x.toInt = 538233440 by omega]; rfl
              exact h (1 : Int32) M hG F0 (by decide) (by decide) (by omega) (by omega)
          · refine to_c (pc := 25) rw_96_25 (x := (1 : Int32)) rfl rfl (s_r1 (pc := 26) rw_96_26 (A := 1) rfl (by decide) ?_)
            have k_113 : (1 : Int32).toInt = 1 := rfl
            have z_114 : x_kx x.toInt = 4 := by rw [show x.toInt = 659999744 by omega]; rfl
            exact h (1 : Int32) M hG F0 (by decide) (by decide) (by omega) (by omega)
        · refine to_c (pc := 25) rw_96_25 (x := (1 : Int32)) rfl rfl (s_r1 (pc := 26) rw_96_26 (A := 1) rfl (by decide) ?_)
          have k_115 : (1 : Int32).toInt = 1 := rfl
          have z_116 : x_kx x.toInt = 3 := by rw [show x.toInt = 518160384 by omega]; rfl
          exact h (1 : Int32) M hG F0 (by decide) (by decide) (by omega) (by omega)
      · refine to_c (pc := 25) rw_96_25 (x := (1 : Int32)) rfl rfl (s_r1 (pc := 26) rw_96_26 (A := 1) rfl (by decide) ?_)
        have k_117 : (1 : Int32).toInt = 1 := rfl
        have z_118 : x_kx x.toInt = 2 := by rw [show x.toInt = 788074496 by omega]; rfl
        exact h (1 : Int32) M hG F0 (by decide) (by decide) (by omega) (by omega)
    · refine to_c (pc := 25) rw_96_25 (x := (1 : Int32)) rfl rfl (s_r1 (pc := 26) rw_96_26 (A := 1) rfl (by decide) ?_)
      have k_119 : (1 : Int32).toInt = 1 := rfl
      have z_120 : x_kx x.toInt = 1 := by rw [show x.toInt = 210940032 by omega]; rfl
      exact h (1 : Int32) M hG F0 (by decide) (by decide) (by omega) (by omega)
  · refine to_c (pc := 25) rw_96_25 (x := (1 : Int32)) rfl rfl (s_r1 (pc := 26) rw_96_26 (A := 1) rfl (by decide) ?_)
    have k_121 : (1 : Int32).toInt = 1 := rfl
    have z_122 : x_kx x.toInt = 0 := by rw [show x.toInt = 284563040 by omega]; rfl
    exact h (1 : Int32) M hG F0 (by decide) (by decide) (by omega) (by omega)
set_option maxRecDepth 4000 in
set_option maxHeartbeats 0 in
theorem E_82 {X : mm_X} {d : Nat} {M : mm_M} {Q : Option Value → mm_M → Prop} {k : Int32} {v : Int32} {w : Int32} (hX : g_X X) (hd : 0 ≤ d) (hG : g_G M) (q1 : (M.2.1 1 5).toInt ≤ 500) (h : ∀ (M1 : mm_M), g_G M1 → FR md_ad M M1 → (AD M M1 k.toInt v.toInt w.toInt) → Q (none) M1) : mm_T X d 82 0 [.ref 1, .int k, .int v, .int w] [] M Q := by
  have F0 : FR md_ad M M := FR.rf
  have b_1 := g_b hG (a := 1) (i := 5) (lo := 0) (hi := 501) rfl rfl
  refine to_an (pc := 0) rw_82_0 rfl (tt_gI (pc := 1) rw_82_1 (g_o hG rfl) (v := (M.2.1 1 5)) rfl (to_an (pc := 4) rw_82_4 rfl (s_gR (pc := 5) rw_82_5 hG rfl (v := 3) rfl (s_len (pc := 8) rw_82_8 hG rfl rfl (n := 501) rfl (v := (501 : Int32)) rfl (b_cge_f (pc := 9) rw_82_9 (A := (M.2.1 1 5).toInt) (B := 501) rfl rfl (by omega) (to_an (pc := 12) rw_82_12 rfl (s_gR (pc := 13) rw_82_13 hG rfl (v := 3) rfl (to_an (pc := 16) rw_82_16 rfl (tt_gI (pc := 17) rw_82_17 (g_o hG rfl) (v := (M.2.1 1 5)) rfl (to_in (pc := 20) rw_82_20 rfl (s_ias (pc := 21) rw_82_21 hG rfl (n := 501) rfl (A := (M.2.1 1 5).toInt) rfl (by omega) (by omega) (fun M3 W2 => ?_))))))))))))
  have hG4 := g_wf hG W2 rfl rfl (by decide)
  have F5 := FR.w F0 W2 (show 3 = 1 ∧ ((M.2.1 1 5).toInt).toNat = 5 ∨ 3 ≤ 3 ∧ 3 ≤ 5 by omega)
  refine to_an (pc := 22) rw_82_22 rfl (s_gR (pc := 23) rw_82_23 hG4 rfl (v := 4) rfl (to_an (pc := 26) rw_82_26 rfl ?_))
  have c_6 : M3.2.1 1 5 = (M.2.1 1 5) := (W_n W2 (fun z => absurd z.1 (by decide)) rfl)
  refine tt_gI (pc := 27) rw_82_27 (g_o hG4 rfl) (v := (M.2.1 1 5)) c_6 (to_in (pc := 30) rw_82_30 rfl (s_ias (pc := 31) rw_82_31 hG4 rfl (n := 501) rfl (A := (M.2.1 1 5).toInt) rfl (by omega) (by omega) (fun M8 W7 => ?_)))
  have hG9 := g_wf hG4 W7 rfl rfl (by decide)
  have F10 := FR.w F5 W7 (show 4 = 1 ∧ ((M.2.1 1 5).toInt).toNat = 5 ∨ 3 ≤ 4 ∧ 4 ≤ 5 by omega)
  refine to_an (pc := 32) rw_82_32 rfl (s_gR (pc := 33) rw_82_33 hG9 rfl (v := 5) rfl (to_an (pc := 36) rw_82_36 rfl ?_))
  have c_11 : M8.2.1 1 5 = (M.2.1 1 5) := (W_n W7 (fun z => absurd z.1 (by decide)) c_6)
  refine tt_gI (pc := 37) rw_82_37 (g_o hG9 rfl) (v := (M.2.1 1 5)) c_11 (to_in (pc := 40) rw_82_40 rfl (s_ias (pc := 41) rw_82_41 hG9 rfl (n := 501) rfl (A := (M.2.1 1 5).toInt) rfl (by omega) (by omega) (fun M13 W12 => ?_)))
  have hG14 := g_wf hG9 W12 rfl rfl (by decide)
  have F15 := FR.w F10 W12 (show 5 = 1 ∧ ((M.2.1 1 5).toInt).toNat = 5 ∨ 3 ≤ 5 ∧ 5 ≤ 5 by omega)
  refine to_an (pc := 42) rw_82_42 rfl (to_dupr (pc := 43) rw_82_43 ?_)
  have c_16 : M13.2.1 1 5 = (M.2.1 1 5) := (W_n W12 (fun z => absurd z.1 (by decide)) c_11)
  refine tt_gI (pc := 44) rw_82_44 (g_o hG14 rfl) (v := (M.2.1 1 5)) c_16 (to_c (pc := 47) rw_82_47 (x := (1 : Int32)) rfl rfl (s_add (pc := 48) rw_82_48 (A := (M.2.1 1 5).toInt) (B := 1) rfl rfl (by omega) (fun v17 e18 => s_pI (pc := 49) rw_82_49 hG14 rfl (fun M20 W19 => ?_))))
  have hG21 := g_w hG14 W19 (A := v17.toInt) rfl (lo := 0) (hi := 501) rfl rfl (by omega) (by decide)
  have F22 := FR.w F15 W19 (show 1 = 1 ∧ 5 = 5 ∨ 3 ≤ 1 ∧ 1 ≤ 5 by decide)
  have ad_23 := AD_k W2 W7 W12 W19 (by omega)
  refine to_rv (pc := 52) rw_82_52 ?_
  exact h M20 hG21 F22 ad_23
set_option maxRecDepth 4000 in
set_option maxHeartbeats 0 in
theorem U_80_0 {X : mm_X} {d : Nat} {M : mm_M} {Q : Option Value → mm_M → Prop} {f : Int32} {n : Int32} {t : Nat → Int} {nn : Int} (hX : g_X X) (hd : 1 ≤ d) (q1 : 0 ≤ f.toInt) (q2 : f.toInt ≤ 500) (q3 : f.toInt < nn) (q4 : nn ≤ 500) (q5 : n.toInt = nn) (q6 : n.toInt ≤ 500) (q7 : 0 ≤ n.toInt) (q8 : (M.2.1 1 5).toInt ≤ 500) (q9 : TT M t nn) (q10 : 97 ≤ t (f.toInt).toNat) (q11 : t (f.toInt).toNat ≤ 122) (q12 : g_W X) (h : ∀ (r : Int32) (M1 : mm_M), g_G M1 → FR md_ad M M1 → (r.toInt = x_e t nn f.toInt) → (∃ tok val : Int, AD M M1 tok val f.toInt ∧ x_C (x_kind t nn f.toInt) (x_val t nn f.toInt) tok val) → Q (some (.int r)) M1) : ∀ nn9 : Nat, (∀ (N : mm_M) (x3 : Int32) (x4 : Int32), g_G N → FR md_ad M N → (0 ≤ x4.toInt) → (x4.toInt ≤ 500) → (x4.toInt ≤ nn) → (f.toInt ≤ x4.toInt) → (N = M) → (∀ i : Nat, i < (x4.toInt - f.toInt).toNat → 97 ≤ t ((f.toInt).toNat + i) ∧ t ((f.toInt).toNat + i) ≤ 122) → ((x3.toInt) = x_pk t (f.toInt).toNat (x4.toInt - f.toInt).toNat) → (x_e t nn x4.toInt = x_e t nn f.toInt) → (TT N t nn) → ((N.2.1 1 5).toInt ≤ 500) → 500 - x4.toInt < (nn9 : Int) → mm_T X d 80 5 [.ref 1, .int f, .int n, .int x3, .int x4] [] N Q) := by
  intro nn9
  induction nn9 with
  | zero =>
    intro N x3 x4 hG F0 g1 g2 g3 g4 g5 g6 g7 g8 g9 g10 hm
    have b_1 := g_b hG (a := 1) (i := 5) (lo := 0) (hi := 501) rfl rfl
    exfalso; omega
  | succ nn9 ih =>
    intro N x3 x4 hG F0 g1 g2 g3 g4 g5 g6 g7 g8 g9 g10 hm
    have b_2 := g_b hG (a := 1) (i := 5) (lo := 0) (hi := 501) rfl rfl
    refine to_i (pc := 5) rw_80_5 rfl (to_in (pc := 7) rw_80_7 rfl (b_cge (pc := 8) rw_80_8 (A := x4.toInt) (B := n.toInt) rfl rfl (fun h3 => ?_) (fun h3 => ?_)))
    · have z_4 : x_e t nn x4.toInt = x4.toInt := x_no (by omega) (by first | exact Or.inl (by omega) | exact Or.inr (x_lt_f (by omega)))
      have z_5 := g8
      refine to_i (pc := 60) rw_80_60 rfl (to_in (pc := 62) rw_80_62 rfl (s_sub (pc := 63) rw_80_63 (A := x4.toInt) (B := f.toInt) rfl rfl (by omega) (fun v6 e7 => to_c (pc := 64) rw_80_64 (x := (6 : Int32)) rfl rfl (b_cle (pc := 66) rw_80_66 (A := v6.toInt) (B := 6) rfl rfl (fun h8 => ?_) (fun h8 => ?_)))))
      · refine to_an (pc := 79) rw_80_79 rfl (to_in (pc := 80) rw_80_80 rfl (s_s (pc := 81) rw_80_81 (dp0 hd (by decide)) (ls0 := [.int x3, .null, .null, .null, .null]) rfl (Nat.le_of_ble_eq_true rfl) (Nat.le_of_ble_eq_true rfl) rfl (to_rcs rfl rfl) rfl (E_96 hX (dp1 hd (by decide)) hG q12 (x := x3) (fun r9 M16 hG11 F10 p_12 p_13 p_14 p_15 => ?_))))
        have F17 := FR.c F0 F10 tg_1
        refine b_ieq (pc := 84) rw_80_84 (A := r9.toInt) rfl (fun h18 => ?_) (fun h18 => ?_)
        · refine to_c (pc := 91) rw_80_91 (x := (3 : Int32)) rfl rfl (to_in (pc := 92) rw_80_92 rfl (to_in (pc := 93) rw_80_93 rfl (s_v (pc := 94) rw_80_94 (dp0 hd (by decide)) (ls0 := [.ref 1, .int (3 : Int32), .int x3, .int f]) rfl (Nat.le_of_ble_eq_true rfl) (Nat.le_of_ble_eq_true rfl) rfl (to_rc rfl rfl rfl (g_o hG11 rfl)) rfl ?_)))
          have k_19 : (3 : Int32).toInt = 3 := rfl
          have c_20 : M16.2.1 1 5 = (N.2.1 1 5) := (F_n F10 (show ¬ (1 < 0) by decide) rfl)
          have t_21 : (M16.2.1 1 5).toInt = (N.2.1 1 5).toInt := congrArg Int32.toInt c_20
          refine E_82 hX (dp1 hd (by decide)) hG11 (by omega) (k := (3 : Int32)) (v := x3) (w := f) (fun M25 hG23 F22 p_24 => ?_)
          have F26 := FR.c F17 F22 tg_2
          refine to_i (pc := 97) rw_80_97 rfl (to_r0 (pc := 99) rw_80_99 ?_)
          exact h x4 M25 hG23 F26 (by omega) (E80_2 ((FR_id F10).trans g5) p_24 (by omega) (by omega) (by omega) (x_lv_e g7 (by omega)) (by omega))
        · refine to_c (pc := 87) rw_80_87 (x := (4 : Int32)) rfl rfl (to_go (pc := 88) rw_80_88 (to_in (pc := 92) rw_80_92 rfl (to_in (pc := 93) rw_80_93 rfl (s_v (pc := 94) rw_80_94 (dp0 hd (by decide)) (ls0 := [.ref 1, .int (4 : Int32), .int x3, .int f]) rfl (Nat.le_of_ble_eq_true rfl) (Nat.le_of_ble_eq_true rfl) rfl (to_rc rfl rfl rfl (g_o hG11 rfl)) rfl ?_))))
          have k_27 : (4 : Int32).toInt = 4 := rfl
          have c_28 : M16.2.1 1 5 = (N.2.1 1 5) := (F_n F10 (show ¬ (1 < 0) by decide) rfl)
          have t_29 : (M16.2.1 1 5).toInt = (N.2.1 1 5).toInt := congrArg Int32.toInt c_28
          refine E_82 hX (dp1 hd (by decide)) hG11 (by omega) (k := (4 : Int32)) (v := x3) (w := f) (fun M33 hG31 F30 p_32 => ?_)
          have F34 := FR.c F17 F30 tg_2
          refine to_i (pc := 97) rw_80_97 rfl (to_r0 (pc := 99) rw_80_99 ?_)
          exact h x4 M33 hG31 F34 (by omega) (E80_1 ((FR_id F10).trans g5) p_32 (by omega) (by omega) (by omega) (x_lv_e g7 (by omega)) (by omega))
      · refine to_an (pc := 69) rw_80_69 rfl (to_c (pc := 70) rw_80_70 (x := (1 : Int32)) rfl rfl (to_c (pc := 71) rw_80_71 (x := (0 : Int32)) rfl rfl (to_in (pc := 72) rw_80_72 rfl (s_v (pc := 73) rw_80_73 (dp0 hd (by decide)) (ls0 := [.ref 1, .int (1 : Int32), .int (0 : Int32), .int f]) rfl (Nat.le_of_ble_eq_true rfl) (Nat.le_of_ble_eq_true rfl) rfl (to_rc rfl rfl rfl (g_o hG rfl)) rfl ?_))))
        have k_35 : (1 : Int32).toInt = 1 := rfl
        have k_36 : (0 : Int32).toInt = 0 := rfl
        refine E_82 hX (dp1 hd (by decide)) hG (by omega) (k := (1 : Int32)) (v := (0 : Int32)) (w := f) (fun M40 hG38 F37 p_39 => ?_)
        have F41 := FR.c F0 F37 tg_2
        refine to_go (pc := 76) rw_80_76 (to_i (pc := 97) rw_80_97 rfl (to_r0 (pc := 99) rw_80_99 ?_))
        exact h x4 M40 hG38 F41 (by omega) (E80_5 g5 p_39 (by omega) (by omega) (by omega))
    · refine to_an (pc := 11) rw_80_11 rfl (to_i (pc := 12) rw_80_12 rfl (s_v (pc := 14) rw_80_14 (dp0 hd (by decide)) (ls0 := [.ref 1, .int x4]) rfl (Nat.le_of_ble_eq_true rfl) (Nat.le_of_ble_eq_true rfl) rfl (to_rc rfl rfl rfl (g_o hG rfl)) rfl (to_in (pc := 0) rw_91_0 rfl (b_ilt_f (pc := 1) rw_91_1 (A := x4.toInt) rfl (by omega) (to_in (pc := 4) rw_91_4 rfl (to_an (pc := 5) rw_91_5 rfl (s_gR (pc := 6) rw_91_6 hG rfl (v := 2) rfl (s_len (pc := 9) rw_91_9 hG rfl rfl (n := 500) rfl (v := (500 : Int32)) rfl (b_cge_f (pc := 10) rw_91_10 (A := x4.toInt) (B := 500) rfl rfl (by omega) (to_an (pc := 13) rw_91_13 rfl (s_gR (pc := 14) rw_91_14 hG rfl (v := 2) rfl ?_)))))))))))
      refine to_in (pc := 17) rw_91_17 rfl (s_bal (pc := 18) rw_91_18 hG rfl (n := 500) rfl (A := x4.toInt) rfl (by omega) (by omega) (lo := -2147483648) (hi := 2147483647) rfl rfl (fun v42 w_43 _ _ => to_c (pc := 19) rw_91_19 (x := (255 : Int32)) rfl rfl (s_and (pc := 22) rw_91_22 (B := 255) rfl (by omega) (fun v44 e45 _ _ => ?_))))
      have z_46 := TT_u g9 (A := x4.toInt) (by omega) (by omega) w_43 e45
      refine to_go (pc := 23) rw_91_23 (to_r0 (pc := 27) rw_91_27 (s_s (pc := 17) rw_80_17 (dp0 hd (by decide)) (ls0 := [.int v44]) rfl (Nat.le_of_ble_eq_true rfl) (Nat.le_of_ble_eq_true rfl) rfl (to_rcs rfl rfl) rfl (to_in (pc := 0) rw_93_0 rfl (to_c (pc := 1) rw_93_1 (x := (97 : Int32)) rfl rfl (b_clt (pc := 3) rw_93_3 (A := v44.toInt) (B := 97) rfl rfl (fun h47 => ?_) (fun h47 => ?_))))))
      · refine to_c (pc := 16) rw_93_16 (x := (0 : Int32)) rfl rfl (s_r1 (pc := 17) rw_93_17 (A := 0) rfl (by decide) (b_ieq_t (pc := 20) rw_80_20 (A := 0) rfl (by decide) ?_))
        have z_48 : x_e t nn x4.toInt = x4.toInt := x_no (by omega) (by first | exact Or.inl (by omega) | exact Or.inr (x_lt_f (by omega)))
        have z_49 := g8
        refine to_i (pc := 60) rw_80_60 rfl (to_in (pc := 62) rw_80_62 rfl (s_sub (pc := 63) rw_80_63 (A := x4.toInt) (B := f.toInt) rfl rfl (by omega) (fun v50 e51 => to_c (pc := 64) rw_80_64 (x := (6 : Int32)) rfl rfl (b_cle (pc := 66) rw_80_66 (A := v50.toInt) (B := 6) rfl rfl (fun h52 => ?_) (fun h52 => ?_)))))
        · refine to_an (pc := 79) rw_80_79 rfl (to_in (pc := 80) rw_80_80 rfl (s_s (pc := 81) rw_80_81 (dp0 hd (by decide)) (ls0 := [.int x3, .null, .null, .null, .null]) rfl (Nat.le_of_ble_eq_true rfl) (Nat.le_of_ble_eq_true rfl) rfl (to_rcs rfl rfl) rfl (E_96 hX (dp1 hd (by decide)) hG q12 (x := x3) (fun r53 M60 hG55 F54 p_56 p_57 p_58 p_59 => ?_))))
          have F61 := FR.c F0 F54 tg_1
          refine b_ieq (pc := 84) rw_80_84 (A := r53.toInt) rfl (fun h62 => ?_) (fun h62 => ?_)
          · refine to_c (pc := 91) rw_80_91 (x := (3 : Int32)) rfl rfl (to_in (pc := 92) rw_80_92 rfl (to_in (pc := 93) rw_80_93 rfl (s_v (pc := 94) rw_80_94 (dp0 hd (by decide)) (ls0 := [.ref 1, .int (3 : Int32), .int x3, .int f]) rfl (Nat.le_of_ble_eq_true rfl) (Nat.le_of_ble_eq_true rfl) rfl (to_rc rfl rfl rfl (g_o hG55 rfl)) rfl ?_)))
            have k_63 : (3 : Int32).toInt = 3 := rfl
            have c_64 : M60.2.1 1 5 = (N.2.1 1 5) := (F_n F54 (show ¬ (1 < 0) by decide) rfl)
            have t_65 : (M60.2.1 1 5).toInt = (N.2.1 1 5).toInt := congrArg Int32.toInt c_64
            refine E_82 hX (dp1 hd (by decide)) hG55 (by omega) (k := (3 : Int32)) (v := x3) (w := f) (fun M69 hG67 F66 p_68 => ?_)
            have F70 := FR.c F61 F66 tg_2
            refine to_i (pc := 97) rw_80_97 rfl (to_r0 (pc := 99) rw_80_99 ?_)
            exact h x4 M69 hG67 F70 (by omega) (E80_2 ((FR_id F54).trans g5) p_68 (by omega) (by omega) (by omega) (x_lv_e g7 (by omega)) (by omega))
          · refine to_c (pc := 87) rw_80_87 (x := (4 : Int32)) rfl rfl (to_go (pc := 88) rw_80_88 (to_in (pc := 92) rw_80_92 rfl (to_in (pc := 93) rw_80_93 rfl (s_v (pc := 94) rw_80_94 (dp0 hd (by decide)) (ls0 := [.ref 1, .int (4 : Int32), .int x3, .int f]) rfl (Nat.le_of_ble_eq_true rfl) (Nat.le_of_ble_eq_true rfl) rfl (to_rc rfl rfl rfl (g_o hG55 rfl)) rfl ?_))))
            have k_71 : (4 : Int32).toInt = 4 := rfl
            have c_72 : M60.2.1 1 5 = (N.2.1 1 5) := (F_n F54 (show ¬ (1 < 0) by decide) rfl)
            have t_73 : (M60.2.1 1 5).toInt = (N.2.1 1 5).toInt := congrArg Int32.toInt c_72
            refine E_82 hX (dp1 hd (by decide)) hG55 (by omega) (k := (4 : Int32)) (v := x3) (w := f) (fun M77 hG75 F74 p_76 => ?_)
            have F78 := FR.c F61 F74 tg_2
            refine to_i (pc := 97) rw_80_97 rfl (to_r0 (pc := 99) rw_80_99 ?_)
            exact h x4 M77 hG75 F78 (by omega) (E80_1 ((FR_id F54).trans g5) p_76 (by omega) (by omega) (by omega) (x_lv_e g7 (by omega)) (by omega))
        · refine to_an (pc := 69) rw_80_69 rfl (to_c (pc := 70) rw_80_70 (x := (1 : Int32)) rfl rfl (to_c (pc := 71) rw_80_71 (x := (0 : Int32)) rfl rfl (to_in (pc := 72) rw_80_72 rfl (s_v (pc := 73) rw_80_73 (dp0 hd (by decide)) (ls0 := [.ref 1, .int (1 : Int32), .int (0 : Int32), .int f]) rfl (Nat.le_of_ble_eq_true rfl) (Nat.le_of_ble_eq_true rfl) rfl (to_rc rfl rfl rfl (g_o hG rfl)) rfl ?_))))
          have k_79 : (1 : Int32).toInt = 1 := rfl
          have k_80 : (0 : Int32).toInt = 0 := rfl
          refine E_82 hX (dp1 hd (by decide)) hG (by omega) (k := (1 : Int32)) (v := (0 : Int32)) (w := f) (fun M84 hG82 F81 p_83 => ?_)
          have F85 := FR.c F0 F81 tg_2
          refine to_go (pc := 76) rw_80_76 (to_i (pc := 97) rw_80_97 rfl (to_r0 (pc := 99) rw_80_99 ?_))
          exact h x4 M84 hG82 F85 (by omega) (E80_5 g5 p_83 (by omega) (by omega) (by omega))
      · refine to_in (pc := 6) rw_93_6 rfl (to_c (pc := 7) rw_93_7 (x := (122 : Int32)) rfl rfl (b_cgt (pc := 9) rw_93_9 (A := v44.toInt) (B := 122) rfl rfl (fun h86 => ?_) (fun h86 => ?_)))
        · refine to_c (pc := 16) rw_93_16 (x := (0 : Int32)) rfl rfl (s_r1 (pc := 17) rw_93_17 (A := 0) rfl (by decide) (b_ieq_t (pc := 20) rw_80_20 (A := 0) rfl (by decide) ?_))
          have z_87 : x_e t nn x4.toInt = x4.toInt := x_no (by omega) (by first | exact Or.inl (by omega) | exact Or.inr (x_lt_f (by omega)))
          have z_88 := g8
          refine to_i (pc := 60) rw_80_60 rfl (to_in (pc := 62) rw_80_62 rfl (s_sub (pc := 63) rw_80_63 (A := x4.toInt) (B := f.toInt) rfl rfl (by omega) (fun v89 e90 => to_c (pc := 64) rw_80_64 (x := (6 : Int32)) rfl rfl (b_cle (pc := 66) rw_80_66 (A := v89.toInt) (B := 6) rfl rfl (fun h91 => ?_) (fun h91 => ?_)))))
          · refine to_an (pc := 79) rw_80_79 rfl (to_in (pc := 80) rw_80_80 rfl (s_s (pc := 81) rw_80_81 (dp0 hd (by decide)) (ls0 := [.int x3, .null, .null, .null, .null]) rfl (Nat.le_of_ble_eq_true rfl) (Nat.le_of_ble_eq_true rfl) rfl (to_rcs rfl rfl) rfl (E_96 hX (dp1 hd (by decide)) hG q12 (x := x3) (fun r92 M99 hG94 F93 p_95 p_96 p_97 p_98 => ?_))))
            have F100 := FR.c F0 F93 tg_1
            refine b_ieq (pc := 84) rw_80_84 (A := r92.toInt) rfl (fun h101 => ?_) (fun h101 => ?_)
            · refine to_c (pc := 91) rw_80_91 (x := (3 : Int32)) rfl rfl (to_in (pc := 92) rw_80_92 rfl (to_in (pc := 93) rw_80_93 rfl (s_v (pc := 94) rw_80_94 (dp0 hd (by decide)) (ls0 := [.ref 1, .int (3 : Int32), .int x3, .int f]) rfl (Nat.le_of_ble_eq_true rfl) (Nat.le_of_ble_eq_true rfl) rfl (to_rc rfl rfl rfl (g_o hG94 rfl)) rfl ?_)))
              have k_102 : (3 : Int32).toInt = 3 := rfl
              have c_103 : M99.2.1 1 5 = (N.2.1 1 5) := (F_n F93 (show ¬ (1 < 0) by decide) rfl)
              have t_104 : (M99.2.1 1 5).toInt = (N.2.1 1 5).toInt := congrArg Int32.toInt c_103
              refine E_82 hX (dp1 hd (by decide)) hG94 (by omega) (k := (3 : Int32)) (v := x3) (w := f) (fun M108 hG106 F105 p_107 => ?_)
              have F109 := FR.c F100 F105 tg_2
              refine to_i (pc := 97) rw_80_97 rfl (to_r0 (pc := 99) rw_80_99 ?_)
              exact h x4 M108 hG106 F109 (by omega) (E80_2 ((FR_id F93).trans g5) p_107 (by omega) (by omega) (by omega) (x_lv_e g7 (by omega)) (by omega))
            · refine to_c (pc := 87) rw_80_87 (x := (4 : Int32)) rfl rfl (to_go (pc := 88) rw_80_88 (to_in (pc := 92) rw_80_92 rfl (to_in (pc := 93) rw_80_93 rfl (s_v (pc := 94) rw_80_94 (dp0 hd (by decide)) (ls0 := [.ref 1, .int (4 : Int32), .int x3, .int f]) rfl (Nat.le_of_ble_eq_true rfl) (Nat.le_of_ble_eq_true rfl) rfl (to_rc rfl rfl rfl (g_o hG94 rfl)) rfl ?_))))
              have k_110 : (4 : Int32).toInt = 4 := rfl
              have c_111 : M99.2.1 1 5 = (N.2.1 1 5) := (F_n F93 (show ¬ (1 < 0) by decide) rfl)
              have t_112 : (M99.2.1 1 5).toInt = (N.2.1 1 5).toInt := congrArg Int32.toInt c_111
              refine E_82 hX (dp1 hd (by decide)) hG94 (by omega) (k := (4 : Int32)) (v := x3) (w := f) (fun M116 hG114 F113 p_115 => ?_)
              have F117 := FR.c F100 F113 tg_2
              refine to_i (pc := 97) rw_80_97 rfl (to_r0 (pc := 99) rw_80_99 ?_)
              exact h x4 M116 hG114 F117 (by omega) (E80_1 ((FR_id F93).trans g5) p_115 (by omega) (by omega) (by omega) (x_lv_e g7 (by omega)) (by omega))
          · refine to_an (pc := 69) rw_80_69 rfl (to_c (pc := 70) rw_80_70 (x := (1 : Int32)) rfl rfl (to_c (pc := 71) rw_80_71 (x := (0 : Int32)) rfl rfl (to_in (pc := 72) rw_80_72 rfl (s_v (pc := 73) rw_80_73 (dp0 hd (by decide)) (ls0 := [.ref 1, .int (1 : Int32), .int (0 : Int32), .int f]) rfl (Nat.le_of_ble_eq_true rfl) (Nat.le_of_ble_eq_true rfl) rfl (to_rc rfl rfl rfl (g_o hG rfl)) rfl ?_))))
            have k_118 : (1 : Int32).toInt = 1 := rfl
            have k_119 : (0 : Int32).toInt = 0 := rfl
            refine E_82 hX (dp1 hd (by decide)) hG (by omega) (k := (1 : Int32)) (v := (0 : Int32)) (w := f) (fun M123 hG121 F120 p_122 => ?_)
            have F124 := FR.c F0 F120 tg_2
            refine to_go (pc := 76) rw_80_76 (to_i (pc := 97) rw_80_97 rfl (to_r0 (pc := 99) rw_80_99 ?_))
            exact h x4 M123 hG121 F124 (by omega) (E80_5 g5 p_122 (by omega) (by omega) (by omega))
        · refine to_c (pc := 12) rw_93_12 (x := (1 : Int32)) rfl rfl (to_go (pc := 13) rw_93_13 (s_r1 (pc := 17) rw_93_17 (A := 1) rfl (by decide) (b_ieq_f (pc := 20) rw_80_20 (A := 1) rfl (by decide) (to_i (pc := 23) rw_80_23 rfl (to_in (pc := 25) rw_80_25 rfl (s_sub (pc := 26) rw_80_26 (A := x4.toInt) (B := f.toInt) rfl rfl (by omega) (fun v125 e126 => to_c (pc := 27) rw_80_27 (x := (6 : Int32)) rfl rfl (b_cge (pc := 29) rw_80_29 (A := v125.toInt) (B := 6) rfl rfl (fun h127 => ?_) (fun h127 => ?_)))))))))
          · refine s_inc (pc := 54) rw_80_54 (ls2 := fun v => [.ref 1, .int f, .int n, .int x3, .int v]) rfl rfl (fun _ => rfl) (A := x4.toInt) (B := 1) rfl rfl (by omega) (fun v128 e129 => to_go (pc := 57) rw_80_57 ?_)
            exact ih N x3 v128 hG F0 (by omega) (by omega) (by omega) (by omega) g5 (x_lt_e (by omega) (x4 := x4.toInt) (by omega) g6 (by omega) (by omega)) (x_pk_z (x4 := x4.toInt) (by omega) g7 (by omega)) (x_ee_e (x4 := x4.toInt) (by omega) (by omega) (by omega) (by omega) g8) g9 (by omega) (by omega)
          · refine to_in (pc := 32) rw_80_32 rfl (to_an (pc := 33) rw_80_33 rfl (to_i (pc := 34) rw_80_34 rfl (s_v (pc := 36) rw_80_36 (dp0 hd (by decide)) (ls0 := [.ref 1, .int x4]) rfl (Nat.le_of_ble_eq_true rfl) (Nat.le_of_ble_eq_true rfl) rfl (to_rc rfl rfl rfl (g_o hG rfl)) rfl (to_in (pc := 0) rw_91_0 rfl (b_ilt_f (pc := 1) rw_91_1 (A := x4.toInt) rfl (by omega) (to_in (pc := 4) rw_91_4 rfl (to_an (pc := 5) rw_91_5 rfl (s_gR (pc := 6) rw_91_6 hG rfl (v := 2) rfl (s_len (pc := 9) rw_91_9 hG rfl rfl (n := 500) rfl (v := (500 : Int32)) rfl (b_cge_f (pc := 10) rw_91_10 (A := x4.toInt) (B := 500) rfl rfl (by omega) (to_an (pc := 13) rw_91_13 rfl ?_)))))))))))
            refine s_gR (pc := 14) rw_91_14 hG rfl (v := 2) rfl (to_in (pc := 17) rw_91_17 rfl (s_balk (pc := 18) rw_91_18 hG rfl (n := 500) rfl (A := x4.toInt) rfl (by omega) (by omega) (v := v42) w_43 (to_c (pc := 19) rw_91_19 (x := (255 : Int32)) rfl rfl (to_2 (pc := 22) rw_91_22 (v := v44) (congrArg some e45) (to_go (pc := 23) rw_91_23 (to_r0 (pc := 27) rw_91_27 (to_c (pc := 39) rw_80_39 (x := (31 : Int32)) rfl rfl (s_and (pc := 41) rw_80_41 (B := 31) rfl (by omega) (fun v134 e135 _ _ => to_c (pc := 42) rw_80_42 (x := (25 : Int32)) rfl rfl (to_c (pc := 44) rw_80_44 (x := (5 : Int32)) rfl rfl (to_i (pc := 45) rw_80_45 rfl ?_)))))))))))
            refine to_in (pc := 47) rw_80_47 rfl (s_sub (pc := 48) rw_80_48 (A := x4.toInt) (B := f.toInt) rfl rfl (by omega) (fun v136 e137 => s_mul (pc := 49) rw_80_49 (A := 5) (B := v136.toInt) rfl rfl (by omega) (fun v138 e139 => s_sub (pc := 50) rw_80_50 (A := 25) (B := v138.toInt) rfl rfl (by omega) (fun v140 e141 => s_opE (pc := 51) rw_80_51 (w := v134 <<< v140) rfl (fun v142 e143 => s_opE (pc := 52) rw_80_52 (w := x3 ||| v142) rfl (fun v144 e145 => to_isn (pc := 53) rw_80_53 (ls2 := [.ref 1, .int f, .int n, .int v144, .int x4]) rfl rfl (s_inc (pc := 54) rw_80_54 (ls2 := fun v => [.ref 1, .int f, .int n, .int v144, .int v]) rfl rfl (fun _ => rfl) (A := x4.toInt) (B := 1) rfl rfl (by omega) (fun v146 e147 => to_go (pc := 57) rw_80_57 ?_))))))))
            exact ih N v144 v146 hG F0 (by omega) (by omega) (by omega) (by omega) g5 (x_lt_e (by omega) (x4 := x4.toInt) (by omega) g6 (by omega) (by omega)) (x_pk_e (by omega) (x4 := x4.toInt) (by omega) (by omega) g7 g6 (s := v44) (by omega) (by omega) (by omega) e135 (c := v140) (by omega) e143 e145 (by omega)) (x_ee_e (x4 := x4.toInt) (by omega) (by omega) (by omega) (by omega) g8) g9 (by omega) (by omega)
set_option maxRecDepth 4000 in
set_option maxHeartbeats 0 in
theorem E_80 {X : mm_X} {d : Nat} {M : mm_M} {Q : Option Value → mm_M → Prop} {f : Int32} {n : Int32} {t : Nat → Int} {nn : Int} (hX : g_X X) (hd : 1 ≤ d) (hG : g_G M) (q1 : 0 ≤ f.toInt) (q2 : f.toInt ≤ 500) (q3 : f.toInt < nn) (q4 : nn ≤ 500) (q5 : n.toInt = nn) (q6 : n.toInt ≤ 500) (q7 : 0 ≤ n.toInt) (q8 : (M.2.1 1 5).toInt ≤ 500) (q9 : TT M t nn) (q10 : 97 ≤ t (f.toInt).toNat) (q11 : t (f.toInt).toNat ≤ 122) (q12 : g_W X) (h : ∀ (r : Int32) (M1 : mm_M), g_G M1 → FR md_ad M M1 → (r.toInt = x_e t nn f.toInt) → (∃ tok val : Int, AD M M1 tok val f.toInt ∧ x_C (x_kind t nn f.toInt) (x_val t nn f.toInt) tok val) → Q (some (.int r)) M1) : mm_T X d 80 0 [.ref 1, .int f, .int n, .null, .null] [] M Q := by
  have F0 : FR md_ad M M := FR.rf
  have b_148 := g_b hG (a := 1) (i := 5) (lo := 0) (hi := 501) rfl rfl
  refine to_c (pc := 0) rw_80_0 (x := (0 : Int32)) rfl rfl (to_isn (pc := 1) rw_80_1 (ls2 := [.ref 1, .int f, .int n, .int (0 : Int32), .null]) rfl rfl (to_in (pc := 2) rw_80_2 rfl (to_is (pc := 3) rw_80_3 (ls2 := [.ref 1, .int f, .int n, .int (0 : Int32), .int f]) rfl rfl ?_)))
  have k_149 : (0 : Int32).toInt = 0 := rfl
  exact (U_80_0 (f := f) (n := n) (t := t) (nn := nn) hX hd q1 q2 q3 q4 q5 q6 q7 q8 q9 q10 q11 q12 h ((500 - f.toInt).toNat + 1)) M (0 : Int32) f hG F0 (by omega) (by omega) (by omega) (by omega) rfl (fun i hi => by exfalso; omega) (by rw [show (f.toInt - f.toInt).toNat = 0 by omega]; rfl) rfl q9 (by omega) (by omega)
set_option maxRecDepth 4000 in
set_option maxHeartbeats 0 in
theorem U_81_0 {X : mm_X} {d : Nat} {M : mm_M} {Q : Option Value → mm_M → Prop} {f : Int32} {n : Int32} {t : Nat → Int} {nn : Int} (hX : g_X X) (hd : 1 ≤ d) (q1 : 0 ≤ f.toInt) (q2 : f.toInt ≤ 500) (q3 : f.toInt < nn) (q4 : nn ≤ 500) (q5 : n.toInt = nn) (q6 : n.toInt ≤ 500) (q7 : 0 ≤ n.toInt) (q8 : (M.2.1 1 5).toInt ≤ 500) (q9 : TT M t nn) (q10 : 48 ≤ t (f.toInt).toNat) (q11 : t (f.toInt).toNat ≤ 57) (h : ∀ (r : Int32) (M1 : mm_M), g_G M1 → FR md_ad M M1 → (r.toInt = x_end x_dg t nn f.toInt) → (∃ tok val : Int, AD M M1 tok val f.toInt ∧ x_C (x_kind t nn f.toInt) (x_val t nn f.toInt) tok val) → Q (some (.int r)) M1) : ∀ nn9 : Nat, (∀ (N : mm_M) (x3 : Int32) (x4 : Int32), g_G N → FR md_ad M N → (0 ≤ x4.toInt) → (x4.toInt ≤ 500) → (x4.toInt ≤ nn) → (f.toInt ≤ x4.toInt) → (0 ≤ x3.toInt) → (x3.toInt ≤ 100) → (N = M) → (x_num t nn x4.toInt x3.toInt = x_num t nn f.toInt 0) → (x_end x_dg t nn x4.toInt = x_end x_dg t nn f.toInt) → (TT N t nn) → ((N.2.1 1 5).toInt ≤ 500) → 500 - x4.toInt < (nn9 : Int) → mm_T X d 81 5 [.ref 1, .int f, .int n, .int x3, .int x4] [] N Q) := by
  intro nn9
  induction nn9 with
  | zero =>
    intro N x3 x4 hG F0 g1 g2 g3 g4 g5 g6 g7 g8 g9 g10 g11 hm
    have b_1 := g_b hG (a := 1) (i := 5) (lo := 0) (hi := 501) rfl rfl
    exfalso; omega
  | succ nn9 ih =>
    intro N x3 x4 hG F0 g1 g2 g3 g4 g5 g6 g7 g8 g9 g10 g11 hm
    have b_2 := g_b hG (a := 1) (i := 5) (lo := 0) (hi := 501) rfl rfl
    refine to_i (pc := 5) rw_81_5 rfl (to_in (pc := 7) rw_81_7 rfl (b_cge (pc := 8) rw_81_8 (A := x4.toInt) (B := n.toInt) rfl rfl (fun h3 => ?_) (fun h3 => ?_)))
    · have z_4 : x_end x_dg t nn x4.toInt = x4.toInt := x_no (by omega) (by first | exact Or.inl (by omega) | exact Or.inr (x_dg_f (by omega)))
      have z_5 : x_num t nn x4.toInt x3.toInt = x3.toInt := x_num_no (by omega) (by omega)
      have z_6 := g8
      have z_7 := g9
      refine to_an (pc := 49) rw_81_49 rfl (to_c (pc := 50) rw_81_50 (x := (2 : Int32)) rfl rfl (to_in (pc := 51) rw_81_51 rfl (to_in (pc := 52) rw_81_52 rfl (s_v (pc := 53) rw_81_53 (dp0 hd (by decide)) (ls0 := [.ref 1, .int (2 : Int32), .int x3, .int f]) rfl (Nat.le_of_ble_eq_true rfl) (Nat.le_of_ble_eq_true rfl) rfl (to_rc rfl rfl rfl (g_o hG rfl)) rfl ?_))))
      have k_8 : (2 : Int32).toInt = 2 := rfl
      refine E_82 hX (dp1 hd (by decide)) hG (by omega) (k := (2 : Int32)) (v := x3) (w := f) (fun M12 hG10 F9 p_11 => ?_)
      have F13 := FR.c F0 F9 tg_2
      refine to_i (pc := 56) rw_81_56 rfl (to_r0 (pc := 58) rw_81_58 ?_)
      exact h x4 M12 hG10 F13 (by omega) (E81_2 g7 p_11 (by omega) (by omega) (by omega))
    · refine to_an (pc := 11) rw_81_11 rfl (to_i (pc := 12) rw_81_12 rfl (s_v (pc := 14) rw_81_14 (dp0 hd (by decide)) (ls0 := [.ref 1, .int x4]) rfl (Nat.le_of_ble_eq_true rfl) (Nat.le_of_ble_eq_true rfl) rfl (to_rc rfl rfl rfl (g_o hG rfl)) rfl (to_in (pc := 0) rw_91_0 rfl (b_ilt_f (pc := 1) rw_91_1 (A := x4.toInt) rfl (by omega) (to_in (pc := 4) rw_91_4 rfl (to_an (pc := 5) rw_91_5 rfl (s_gR (pc := 6) rw_91_6 hG rfl (v := 2) rfl (s_len (pc := 9) rw_91_9 hG rfl rfl (n := 500) rfl (v := (500 : Int32)) rfl (b_cge_f (pc := 10) rw_91_10 (A := x4.toInt) (B := 500) rfl rfl (by omega) (to_an (pc := 13) rw_91_13 rfl (s_gR (pc := 14) rw_91_14 hG rfl (v := 2) rfl ?_)))))))))))
      refine to_in (pc := 17) rw_91_17 rfl (s_bal (pc := 18) rw_91_18 hG rfl (n := 500) rfl (A := x4.toInt) rfl (by omega) (by omega) (lo := -2147483648) (hi := 2147483647) rfl rfl (fun v14 w_15 _ _ => to_c (pc := 19) rw_91_19 (x := (255 : Int32)) rfl rfl (s_and (pc := 22) rw_91_22 (B := 255) rfl (by omega) (fun v16 e17 _ _ => ?_))))
      have z_18 := TT_u g10 (A := x4.toInt) (by omega) (by omega) w_15 e17
      refine to_go (pc := 23) rw_91_23 (to_r0 (pc := 27) rw_91_27 (s_s (pc := 17) rw_81_17 (dp0 hd (by decide)) (ls0 := [.int v16]) rfl (Nat.le_of_ble_eq_true rfl) (Nat.le_of_ble_eq_true rfl) rfl (to_rcs rfl rfl) rfl (to_in (pc := 0) rw_94_0 rfl (to_c (pc := 1) rw_94_1 (x := (48 : Int32)) rfl rfl (b_clt (pc := 3) rw_94_3 (A := v16.toInt) (B := 48) rfl rfl (fun h19 => ?_) (fun h19 => ?_))))))
      · refine to_c (pc := 16) rw_94_16 (x := (0 : Int32)) rfl rfl (s_r1 (pc := 17) rw_94_17 (A := 0) rfl (by decide) (b_ieq_t (pc := 20) rw_81_20 (A := 0) rfl (by decide) ?_))
        have z_20 : x_end x_dg t nn x4.toInt = x4.toInt := x_no (by omega) (by first | exact Or.inl (by omega) | exact Or.inr (x_dg_f (by omega)))
        have z_21 : x_num t nn x4.toInt x3.toInt = x3.toInt := x_num_no (by omega) (by omega)
        have z_22 := g8
        have z_23 := g9
        refine to_an (pc := 49) rw_81_49 rfl (to_c (pc := 50) rw_81_50 (x := (2 : Int32)) rfl rfl (to_in (pc := 51) rw_81_51 rfl (to_in (pc := 52) rw_81_52 rfl (s_v (pc := 53) rw_81_53 (dp0 hd (by decide)) (ls0 := [.ref 1, .int (2 : Int32), .int x3, .int f]) rfl (Nat.le_of_ble_eq_true rfl) (Nat.le_of_ble_eq_true rfl) rfl (to_rc rfl rfl rfl (g_o hG rfl)) rfl ?_))))
        have k_24 : (2 : Int32).toInt = 2 := rfl
        refine E_82 hX (dp1 hd (by decide)) hG (by omega) (k := (2 : Int32)) (v := x3) (w := f) (fun M28 hG26 F25 p_27 => ?_)
        have F29 := FR.c F0 F25 tg_2
        refine to_i (pc := 56) rw_81_56 rfl (to_r0 (pc := 58) rw_81_58 ?_)
        exact h x4 M28 hG26 F29 (by omega) (E81_2 g7 p_27 (by omega) (by omega) (by omega))
      · refine to_in (pc := 6) rw_94_6 rfl (to_c (pc := 7) rw_94_7 (x := (57 : Int32)) rfl rfl (b_cgt (pc := 9) rw_94_9 (A := v16.toInt) (B := 57) rfl rfl (fun h30 => ?_) (fun h30 => ?_)))
        · refine to_c (pc := 16) rw_94_16 (x := (0 : Int32)) rfl rfl (s_r1 (pc := 17) rw_94_17 (A := 0) rfl (by decide) (b_ieq_t (pc := 20) rw_81_20 (A := 0) rfl (by decide) ?_))
          have z_31 : x_end x_dg t nn x4.toInt = x4.toInt := x_no (by omega) (by first | exact Or.inl (by omega) | exact Or.inr (x_dg_f (by omega)))
          have z_32 : x_num t nn x4.toInt x3.toInt = x3.toInt := x_num_no (by omega) (by omega)
          have z_33 := g8
          have z_34 := g9
          refine to_an (pc := 49) rw_81_49 rfl (to_c (pc := 50) rw_81_50 (x := (2 : Int32)) rfl rfl (to_in (pc := 51) rw_81_51 rfl (to_in (pc := 52) rw_81_52 rfl (s_v (pc := 53) rw_81_53 (dp0 hd (by decide)) (ls0 := [.ref 1, .int (2 : Int32), .int x3, .int f]) rfl (Nat.le_of_ble_eq_true rfl) (Nat.le_of_ble_eq_true rfl) rfl (to_rc rfl rfl rfl (g_o hG rfl)) rfl ?_))))
          have k_35 : (2 : Int32).toInt = 2 := rfl
          refine E_82 hX (dp1 hd (by decide)) hG (by omega) (k := (2 : Int32)) (v := x3) (w := f) (fun M39 hG37 F36 p_38 => ?_)
          have F40 := FR.c F0 F36 tg_2
          refine to_i (pc := 56) rw_81_56 rfl (to_r0 (pc := 58) rw_81_58 ?_)
          exact h x4 M39 hG37 F40 (by omega) (E81_2 g7 p_38 (by omega) (by omega) (by omega))
        · refine to_c (pc := 12) rw_94_12 (x := (1 : Int32)) rfl rfl (to_go (pc := 13) rw_94_13 (s_r1 (pc := 17) rw_94_17 (A := 1) rfl (by decide) (b_ieq_f (pc := 20) rw_81_20 (A := 1) rfl (by decide) (to_in (pc := 23) rw_81_23 rfl (to_c (pc := 24) rw_81_24 (x := (10 : Int32)) rfl rfl (s_mul (pc := 26) rw_81_26 (A := x3.toInt) (B := 10) rfl rfl (by omega) (fun v41 e42 => to_an (pc := 27) rw_81_27 rfl (to_i (pc := 28) rw_81_28 rfl (s_v (pc := 30) rw_81_30 (dp0 hd (by decide)) (ls0 := [.ref 1, .int x4]) rfl (Nat.le_of_ble_eq_true rfl) (Nat.le_of_ble_eq_true rfl) rfl (to_rc rfl rfl rfl (g_o hG rfl)) rfl (to_in (pc := 0) rw_91_0 rfl (b_ilt_f (pc := 1) rw_91_1 (A := x4.toInt) rfl (by omega) ?_)))))))))))
          refine to_in (pc := 4) rw_91_4 rfl (to_an (pc := 5) rw_91_5 rfl (s_gR (pc := 6) rw_91_6 hG rfl (v := 2) rfl (s_len (pc := 9) rw_91_9 hG rfl rfl (n := 500) rfl (v := (500 : Int32)) rfl (b_cge_f (pc := 10) rw_91_10 (A := x4.toInt) (B := 500) rfl rfl (by omega) (to_an (pc := 13) rw_91_13 rfl (s_gR (pc := 14) rw_91_14 hG rfl (v := 2) rfl (to_in (pc := 17) rw_91_17 rfl (s_balk (pc := 18) rw_91_18 hG rfl (n := 500) rfl (A := x4.toInt) rfl (by omega) (by omega) (v := v14) w_15 (to_c (pc := 19) rw_91_19 (x := (255 : Int32)) rfl rfl (to_2 (pc := 22) rw_91_22 (v := v16) (congrArg some e17) (to_go (pc := 23) rw_91_23 ?_)))))))))))
          refine to_r0 (pc := 27) rw_91_27 (s_add (pc := 33) rw_81_33 (A := v41.toInt) (B := v16.toInt) rfl rfl (by omega) (fun v47 e48 => to_c (pc := 34) rw_81_34 (x := (48 : Int32)) rfl rfl (s_sub (pc := 36) rw_81_36 (A := v47.toInt) (B := 48) rfl rfl (by omega) (fun v49 e50 => to_c (pc := 37) rw_81_37 (x := (100 : Int32)) rfl rfl (s_min (pc := 39) rw_81_39 rfl (A := v49.toInt) (B := 100) rfl rfl (fun v51 _ _ _ => to_isn (pc := 42) rw_81_42 (ls2 := [.ref 1, .int f, .int n, .int v51, .int x4]) rfl rfl (s_inc (pc := 43) rw_81_43 (ls2 := fun v => [.ref 1, .int f, .int n, .int v51, .int v]) rfl rfl (fun _ => rfl) (A := x4.toInt) (B := 1) rfl rfl (by omega) (fun v52 e53 => to_go (pc := 46) rw_81_46 ?_))))))))
          exact ih N v51 v52 hG F0 (by omega) (by omega) (by omega) (by omega) (by omega) (by omega) g7 (x_nu_e (x4 := x4.toInt) (by omega) (by omega) (by omega) (by omega) (by split <;> omega) g8) (x_ed_e (x4 := x4.toInt) (by omega) (by omega) (by omega) (by omega) g9) g10 (by omega) (by omega)
set_option maxRecDepth 4000 in
set_option maxHeartbeats 0 in
theorem E_81 {X : mm_X} {d : Nat} {M : mm_M} {Q : Option Value → mm_M → Prop} {f : Int32} {n : Int32} {t : Nat → Int} {nn : Int} (hX : g_X X) (hd : 1 ≤ d) (hG : g_G M) (q1 : 0 ≤ f.toInt) (q2 : f.toInt ≤ 500) (q3 : f.toInt < nn) (q4 : nn ≤ 500) (q5 : n.toInt = nn) (q6 : n.toInt ≤ 500) (q7 : 0 ≤ n.toInt) (q8 : (M.2.1 1 5).toInt ≤ 500) (q9 : TT M t nn) (q10 : 48 ≤ t (f.toInt).toNat) (q11 : t (f.toInt).toNat ≤ 57) (h : ∀ (r : Int32) (M1 : mm_M), g_G M1 → FR md_ad M M1 → (r.toInt = x_end x_dg t nn f.toInt) → (∃ tok val : Int, AD M M1 tok val f.toInt ∧ x_C (x_kind t nn f.toInt) (x_val t nn f.toInt) tok val) → Q (some (.int r)) M1) : mm_T X d 81 0 [.ref 1, .int f, .int n, .null, .null] [] M Q := by
  have F0 : FR md_ad M M := FR.rf
  have b_54 := g_b hG (a := 1) (i := 5) (lo := 0) (hi := 501) rfl rfl
  refine to_c (pc := 0) rw_81_0 (x := (0 : Int32)) rfl rfl (to_isn (pc := 1) rw_81_1 (ls2 := [.ref 1, .int f, .int n, .int (0 : Int32), .null]) rfl rfl (to_in (pc := 2) rw_81_2 rfl (to_is (pc := 3) rw_81_3 (ls2 := [.ref 1, .int f, .int n, .int (0 : Int32), .int f]) rfl rfl ?_)))
  have k_55 : (0 : Int32).toInt = 0 := rfl
  exact (U_81_0 (f := f) (n := n) (t := t) (nn := nn) hX hd q1 q2 q3 q4 q5 q6 q7 q8 q9 q10 q11 h ((500 - f.toInt).toNat + 1)) M (0 : Int32) f hG F0 (by omega) (by omega) (by omega) (by omega) (by omega) (by omega) rfl rfl rfl q9 (by omega) (by omega)
