theorem tg_109 : ∀ a i : Nat, (a < 0) → (12 ≤ a ∧ a ≤ 15) := fun a i z => by omega
theorem tg_110 : ∀ a i : Nat, (a < 0) → (95 ≤ a ∧ a ≤ 98) := fun a i z => by omega
set_option maxRecDepth 4000 in
set_option maxHeartbeats 0 in
theorem E_49 {X : mm_X} {d : Nat} {M : mm_M} {Q : Option Value → mm_M → Prop} {p : Nat} {f : Int32} {v : Int32} {sg : x_S} (hX : g_X X) (hd : 2 ≤ d) (hG : g_G M) (hp : p = 49 ∨ p = 58) (q1 : PLs M p sg) (q2 : g_W2 X) (h : ∀ (r : Int64) (M1 : mm_M), g_G M1 → FR md_0 M M1 → (r = x_cd sg f.toInt v.toInt) → Q (some (.long r)) M1) : mm_T X d 49 0 [.ref p, .int f, .int v, .null, .null] [] M Q := by
  have F0 : FR md_0 M M := FR.rf
  have z_1 := q1.2.1
  have z_2 := q1.2.2.1
  have z_3 := q1.2.2.2.1
  have z_4 := q1.1
  have z_5 := z_4.1
  have z_6 := z_4.2.1
  have z_7 := z_4.2.2.1
  have z_8 := z_4.2.2.2.1
  have z_9 := z_4.2.2.2.2.1
  have z_10 := z_4.2.2.2.2.2.1
  have b_11 := g_b hG (a := p) (i := 2) (lo := 0) (hi := 8) (by rcases hp with rfl | rfl <;> rfl) (by rcases hp with rfl | rfl <;> rfl)
  have b_12 := g_b hG (a := p) (i := 3) (lo := 0) (hi := 12) (by rcases hp with rfl | rfl <;> rfl) (by rcases hp with rfl | rfl <;> rfl)
  refine to_an (pc := 0) rw_49_0 rfl (to_in (pc := 1) rw_49_1 rfl (to_in (pc := 2) rw_49_2 rfl (s_v (pc := 3) rw_49_3 (dp0 hd (by decide)) (ls0 := [.ref p, .int f, .int v]) rfl (Nat.le_of_ble_eq_true rfl) (Nat.le_of_ble_eq_true rfl) rfl (to_rc rfl rfl rfl (g_o hG (by rcases hp with rfl | rfl <;> rfl))) rfl (to_an (pc := 0) rw_46_0 rfl (to_in (pc := 1) rw_46_1 rfl (s_v (pc := 2) rw_46_2 (dp1 hd (by decide)) (ls0 := [.ref p, .int f]) rfl (Nat.le_of_ble_eq_true rfl) (Nat.le_of_ble_eq_true rfl) rfl (to_rc rfl rfl rfl (g_o hG (by rcases hp with rfl | rfl <;> rfl))) rfl (to_in (pc := 0) rw_43_0 rfl (b_ilt (pc := 1) rw_43_1 (A := f.toInt) rfl (fun h13 => ?_) (fun h13 => ?_)))))))))
  · refine to_c (pc := 16) rw_43_16 (x := (0 : Int32)) rfl rfl (s_r1 (pc := 17) rw_43_17 (A := 0) rfl (by decide) (b_ieq_t (pc := 5) rw_46_5 (A := 0) rfl (by decide) (to_c (pc := 34) rw_46_34 (x := (0 : Int32)) rfl rfl (s_r1 (pc := 35) rw_46_35 (A := 0) rfl (by decide) (b_ine_f (pc := 6) rw_49_6 (A := 0) rfl (by decide) (to_cl (pc := 9) rw_49_9 rfl (x := (0 : Int64)) rfl (to_rl (pc := 10) rw_49_10 ?_)))))))
    exact h (0 : Int64) M hG F0 (x_cd_0 (by omega))
  · refine to_in (pc := 4) rw_43_4 rfl (to_an (pc := 5) rw_43_5 rfl (tt_gI (pc := 6) rw_43_6 (g_o hG (by rcases hp with rfl | rfl <;> rfl)) (v := (M.2.1 p 2)) rfl (b_cge (pc := 9) rw_43_9 (A := f.toInt) (B := (M.2.1 p 2).toInt) rfl rfl (fun h14 => ?_) (fun h14 => ?_))))
    · refine to_c (pc := 16) rw_43_16 (x := (0 : Int32)) rfl rfl (s_r1 (pc := 17) rw_43_17 (A := 0) rfl (by decide) (b_ieq_t (pc := 5) rw_46_5 (A := 0) rfl (by decide) (to_c (pc := 34) rw_46_34 (x := (0 : Int32)) rfl rfl (s_r1 (pc := 35) rw_46_35 (A := 0) rfl (by decide) (b_ine_f (pc := 6) rw_49_6 (A := 0) rfl (by decide) (to_cl (pc := 9) rw_49_9 rfl (x := (0 : Int64)) rfl (to_rl (pc := 10) rw_49_10 ?_)))))))
      exact h (0 : Int64) M hG F0 (x_cd_0 (by omega))
    · refine to_c (pc := 12) rw_43_12 (x := (1 : Int32)) rfl rfl (to_go (pc := 13) rw_43_13 (s_r1 (pc := 17) rw_43_17 (A := 1) rfl (by decide) (b_ieq_f (pc := 5) rw_46_5 (A := 1) rfl (by decide) (to_an (pc := 8) rw_46_8 rfl (to_in (pc := 9) rw_46_9 rfl (s_v (pc := 10) rw_46_10 (dp1 hd (by decide)) (ls0 := [.ref p, .int f]) rfl (Nat.le_of_ble_eq_true rfl) (Nat.le_of_ble_eq_true rfl) rfl (to_rc rfl rfl rfl (g_o hG (by rcases hp with rfl | rfl <;> rfl))) rfl (to_an (pc := 0) rw_45_0 rfl (s_gR (pc := 1) rw_45_1 hG (by rcases hp with rfl | rfl <;> rfl) (v := (p + 2)) (by rcases hp with rfl | rfl <;> rfl) (to_in (pc := 4) rw_45_4 rfl (s_ial (pc := 5) rw_45_5 hG (by rcases hp with rfl | rfl <;> rfl) (n := 8) (by rcases hp with rfl | rfl <;> rfl) (by rcases hp with rfl | rfl <;> rfl) (A := f.toInt) rfl (by omega) (by omega) (lo := 0) (hi := 3) (by rcases hp with rfl | rfl <;> rfl) (by rcases hp with rfl | rfl <;> rfl) (fun v15 w_16 _ _ => ?_)))))))))))
      have z_17 := PLs_r q1 2 (by decide) (by decide) (k := f.toInt) (by omega) (by omega) w_16
      refine to_c (pc := 6) rw_45_6 (x := (3 : Int32)) rfl rfl (b_cne (pc := 7) rw_45_7 (A := v15.toInt) (B := 3) rfl rfl (fun h18 => ?_) (fun h18 => ?_))
      · refine to_c (pc := 14) rw_45_14 (x := (0 : Int32)) rfl rfl (s_r1 (pc := 15) rw_45_15 (A := 0) rfl (by decide) (b_ine_f (pc := 13) rw_46_13 (A := 0) rfl (by decide) (to_in (pc := 16) rw_46_16 rfl (b_ilt (pc := 17) rw_46_17 (A := v.toInt) rfl (fun h19 => ?_) (fun h19 => ?_)))))
        · refine to_c (pc := 34) rw_46_34 (x := (0 : Int32)) rfl rfl (s_r1 (pc := 35) rw_46_35 (A := 0) rfl (by decide) (b_ine_f (pc := 6) rw_49_6 (A := 0) rfl (by decide) (to_cl (pc := 9) rw_49_9 rfl (x := (0 : Int64)) rfl (to_rl (pc := 10) rw_49_10 ?_))))
          exact h (0 : Int64) M hG F0 (x_cd_0 (by omega))
        · refine to_in (pc := 20) rw_46_20 rfl (to_an (pc := 21) rw_46_21 rfl (s_gR (pc := 22) rw_46_22 hG (by rcases hp with rfl | rfl <;> rfl) (v := (p + 5)) (by rcases hp with rfl | rfl <;> rfl) (to_in (pc := 25) rw_46_25 rfl (s_ial (pc := 26) rw_46_26 hG (by rcases hp with rfl | rfl <;> rfl) (n := 8) (by rcases hp with rfl | rfl <;> rfl) (by rcases hp with rfl | rfl <;> rfl) (A := f.toInt) rfl (by omega) (by omega) (lo := 0) (hi := 24) (by rcases hp with rfl | rfl <;> rfl) (by rcases hp with rfl | rfl <;> rfl) (fun v20 w_21 _ _ => ?_)))))
          have z_22 := PLs_r q1 5 (by decide) (by decide) (k := f.toInt) (by omega) (by omega) w_21
          refine b_cge (pc := 27) rw_46_27 (A := v.toInt) (B := v20.toInt) rfl rfl (fun h23 => ?_) (fun h23 => ?_)
          · refine to_c (pc := 34) rw_46_34 (x := (0 : Int32)) rfl rfl (s_r1 (pc := 35) rw_46_35 (A := 0) rfl (by decide) (b_ine_f (pc := 6) rw_49_6 (A := 0) rfl (by decide) (to_cl (pc := 9) rw_49_9 rfl (x := (0 : Int64)) rfl (to_rl (pc := 10) rw_49_10 ?_))))
            exact h (0 : Int64) M hG F0 (x_cd_0 (by omega))
          · refine to_c (pc := 30) rw_46_30 (x := (1 : Int32)) rfl rfl (to_go (pc := 31) rw_46_31 (s_r1 (pc := 35) rw_46_35 (A := 1) rfl (by decide) (b_ine_t (pc := 6) rw_49_6 (A := 1) rfl (by decide) (to_cl (pc := 11) rw_49_11 rfl (x := (1 : Int64)) rfl (to_in (pc := 12) rw_49_12 rfl (to_2s (pc := 13) rw_49_13 (v := ((1 : Int64) <<< (v.toInt64 &&& 63))) rfl (to_lsn (pc := 14) rw_49_14 (ls2 := [.ref p, .int f, .int v, .long ((1 : Int64) <<< (v.toInt64 &&& 63)), .null]) rfl rfl (to_an (pc := 15) rw_49_15 rfl (s_gR (pc := 16) rw_49_16 hG (by rcases hp with rfl | rfl <;> rfl) (v := (p + 2)) (by rcases hp with rfl | rfl <;> rfl) (to_in (pc := 19) rw_49_19 rfl (s_ialk (pc := 20) rw_49_20 hG (by rcases hp with rfl | rfl <;> rfl) (n := 8) (by rcases hp with rfl | rfl <;> rfl) (by rcases hp with rfl | rfl <;> rfl) (A := f.toInt) rfl (by omega) (by omega) (v := v15) w_16 ?_)))))))))))
            refine to_c (pc := 21) rw_49_21 (x := (1 : Int32)) rfl rfl (b_cne (pc := 22) rw_49_22 (A := v15.toInt) (B := 1) rfl rfl (fun h26 => ?_) (fun h26 => ?_))
            · refine to_an (pc := 43) rw_49_43 rfl (s_gR (pc := 44) rw_49_44 hG (by rcases hp with rfl | rfl <;> rfl) (v := (p + 2)) (by rcases hp with rfl | rfl <;> rfl) (to_in (pc := 47) rw_49_47 rfl (s_ialk (pc := 48) rw_49_48 hG (by rcases hp with rfl | rfl <;> rfl) (n := 8) (by rcases hp with rfl | rfl <;> rfl) (by rcases hp with rfl | rfl <;> rfl) (A := f.toInt) rfl (by omega) (by omega) (v := v15) w_16 (to_c (pc := 49) rw_49_49 (x := (2 : Int32)) rfl rfl (b_cne (pc := 50) rw_49_50 (A := v15.toInt) (B := 2) rfl rfl (fun h29 => ?_) (fun h29 => ?_))))))
              · refine to_ln (pc := 68) rw_49_68 rfl rfl rfl (to_an (pc := 69) rw_49_69 rfl (s_gR (pc := 70) rw_49_70 hG (by rcases hp with rfl | rfl <;> rfl) (v := (p + 3)) (by rcases hp with rfl | rfl <;> rfl) (to_in (pc := 73) rw_49_73 rfl (s_ial (pc := 74) rw_49_74 hG (by rcases hp with rfl | rfl <;> rfl) (n := 8) (by rcases hp with rfl | rfl <;> rfl) (by rcases hp with rfl | rfl <;> rfl) (A := f.toInt) rfl (by omega) (by omega) (lo := 0) (hi := 59) (by rcases hp with rfl | rfl <;> rfl) (by rcases hp with rfl | rfl <;> rfl) (fun v30 w_31 _ _ => ?_)))))
                have z_32 := PLs_r q1 3 (by decide) (by decide) (k := f.toInt) (by omega) (by omega) w_31
                refine to_2s (pc := 75) rw_49_75 (v := (((1 : Int64) <<< (v.toInt64 &&& 63)) <<< (v30.toInt64 &&& 63))) rfl (to_rl (pc := 76) rw_49_76 ?_)
                exact h (((1 : Int64) <<< (v.toInt64 &&& 63)) <<< (v30.toInt64 &&& 63)) M hG F0 (x_cd_b (by omega) (by omega) (by omega) (by omega) (by omega))
              · refine to_in (pc := 53) rw_49_53 rfl (s_gs (pc := 54) rw_49_54 (s_xlen (pc := 57) rw_49_57 hX (e := 3) (n := 10) rfl (v := (10 : Int32)) rfl (b_cge (pc := 58) rw_49_58 (A := v.toInt) (B := 10) rfl rfl (fun h33 => ?_) (fun h33 => ?_))))
                · refine to_ln (pc := 68) rw_49_68 rfl rfl rfl (to_an (pc := 69) rw_49_69 rfl (s_gR (pc := 70) rw_49_70 hG (by rcases hp with rfl | rfl <;> rfl) (v := (p + 3)) (by rcases hp with rfl | rfl <;> rfl) (to_in (pc := 73) rw_49_73 rfl (s_ial (pc := 74) rw_49_74 hG (by rcases hp with rfl | rfl <;> rfl) (n := 8) (by rcases hp with rfl | rfl <;> rfl) (by rcases hp with rfl | rfl <;> rfl) (A := f.toInt) rfl (by omega) (by omega) (lo := 0) (hi := 59) (by rcases hp with rfl | rfl <;> rfl) (by rcases hp with rfl | rfl <;> rfl) (fun v34 w_35 _ _ => ?_)))))
                  have z_36 := PLs_r q1 3 (by decide) (by decide) (k := f.toInt) (by omega) (by omega) w_35
                  refine to_2s (pc := 75) rw_49_75 (v := (((1 : Int64) <<< (v.toInt64 &&& 63)) <<< (v34.toInt64 &&& 63))) rfl (to_rl (pc := 76) rw_49_76 ?_)
                  exact h (((1 : Int64) <<< (v.toInt64 &&& 63)) <<< (v34.toInt64 &&& 63)) M hG F0 (x_cd_b (by omega) (by omega) (by omega) (by omega) (by omega))
                · refine s_gs (pc := 61) rw_49_61 (to_in (pc := 64) rw_49_64 rfl (s_xalE (pc := 65) rw_49_65 hX (e := 3) (n := 10) rfl (A := v.toInt) rfl (by omega) (by omega) (fun v37 w_38 => ?_)))
                  have z_39 := ((q2 (v.toInt).toNat (by omega)).2.symm.trans w_38)
                  refine to_i2l (pc := 66) rw_49_66 (v := (v37.toInt64)) rfl (to_lsn (pc := 67) rw_49_67 (ls2 := [.ref p, .int f, .int v, .long (v37.toInt64), .null]) rfl rfl (to_ln (pc := 68) rw_49_68 rfl rfl rfl (to_an (pc := 69) rw_49_69 rfl (s_gR (pc := 70) rw_49_70 hG (by rcases hp with rfl | rfl <;> rfl) (v := (p + 3)) (by rcases hp with rfl | rfl <;> rfl) (to_in (pc := 73) rw_49_73 rfl (s_ial (pc := 74) rw_49_74 hG (by rcases hp with rfl | rfl <;> rfl) (n := 8) (by rcases hp with rfl | rfl <;> rfl) (by rcases hp with rfl | rfl <;> rfl) (A := f.toInt) rfl (by omega) (by omega) (lo := 0) (hi := 59) (by rcases hp with rfl | rfl <;> rfl) (by rcases hp with rfl | rfl <;> rfl) (fun v40 w_41 _ _ => ?_)))))))
                  have z_42 := PLs_r q1 3 (by decide) (by decide) (k := f.toInt) (by omega) (by omega) w_41
                  refine to_2s (pc := 75) rw_49_75 (v := ((v37.toInt64) <<< (v40.toInt64 &&& 63))) rfl (to_rl (pc := 76) rw_49_76 ?_)
                  exact h ((v37.toInt64) <<< (v40.toInt64 &&& 63)) M hG F0 (x_cd_p (by omega) (by omega) (by omega) z_39)
            · refine to_in (pc := 25) rw_49_25 rfl (s_gs (pc := 26) rw_49_26 (s_xlen (pc := 29) rw_49_29 hX (e := 2) (n := 10) rfl (v := (10 : Int32)) rfl (b_cge (pc := 30) rw_49_30 (A := v.toInt) (B := 10) rfl rfl (fun h43 => ?_) (fun h43 => ?_))))
              · refine to_an (pc := 43) rw_49_43 rfl (s_gR (pc := 44) rw_49_44 hG (by rcases hp with rfl | rfl <;> rfl) (v := (p + 2)) (by rcases hp with rfl | rfl <;> rfl) (to_in (pc := 47) rw_49_47 rfl (s_ialk (pc := 48) rw_49_48 hG (by rcases hp with rfl | rfl <;> rfl) (n := 8) (by rcases hp with rfl | rfl <;> rfl) (by rcases hp with rfl | rfl <;> rfl) (A := f.toInt) rfl (by omega) (by omega) (v := v15) w_16 (to_c (pc := 49) rw_49_49 (x := (2 : Int32)) rfl rfl (b_cne_t (pc := 50) rw_49_50 (A := v15.toInt) (B := 2) rfl rfl (by omega) (to_ln (pc := 68) rw_49_68 rfl rfl rfl (to_an (pc := 69) rw_49_69 rfl (s_gR (pc := 70) rw_49_70 hG (by rcases hp with rfl | rfl <;> rfl) (v := (p + 3)) (by rcases hp with rfl | rfl <;> rfl) (to_in (pc := 73) rw_49_73 rfl (s_ial (pc := 74) rw_49_74 hG (by rcases hp with rfl | rfl <;> rfl) (n := 8) (by rcases hp with rfl | rfl <;> rfl) (by rcases hp with rfl | rfl <;> rfl) (A := f.toInt) rfl (by omega) (by omega) (lo := 0) (hi := 59) (by rcases hp with rfl | rfl <;> rfl) (by rcases hp with rfl | rfl <;> rfl) (fun v46 w_47 _ _ => ?_)))))))))))
                have z_48 := PLs_r q1 3 (by decide) (by decide) (k := f.toInt) (by omega) (by omega) w_47
                refine to_2s (pc := 75) rw_49_75 (v := (((1 : Int64) <<< (v.toInt64 &&& 63)) <<< (v46.toInt64 &&& 63))) rfl (to_rl (pc := 76) rw_49_76 ?_)
                exact h (((1 : Int64) <<< (v.toInt64 &&& 63)) <<< (v46.toInt64 &&& 63)) M hG F0 (x_cd_b (by omega) (by omega) (by omega) (by omega) (by omega))
              · refine s_gs (pc := 33) rw_49_33 (to_in (pc := 36) rw_49_36 rfl (s_xalE (pc := 37) rw_49_37 hX (e := 2) (n := 10) rfl (A := v.toInt) rfl (by omega) (by omega) (fun v49 w_50 => ?_)))
                have z_51 := ((q2 (v.toInt).toNat (by omega)).1.symm.trans w_50)
                refine to_i2l (pc := 38) rw_49_38 (v := (v49.toInt64)) rfl (to_lsn (pc := 39) rw_49_39 (ls2 := [.ref p, .int f, .int v, .long (v49.toInt64), .null]) rfl rfl (to_go (pc := 40) rw_49_40 (to_ln (pc := 68) rw_49_68 rfl rfl rfl (to_an (pc := 69) rw_49_69 rfl (s_gR (pc := 70) rw_49_70 hG (by rcases hp with rfl | rfl <;> rfl) (v := (p + 3)) (by rcases hp with rfl | rfl <;> rfl) (to_in (pc := 73) rw_49_73 rfl (s_ial (pc := 74) rw_49_74 hG (by rcases hp with rfl | rfl <;> rfl) (n := 8) (by rcases hp with rfl | rfl <;> rfl) (by rcases hp with rfl | rfl <;> rfl) (A := f.toInt) rfl (by omega) (by omega) (lo := 0) (hi := 59) (by rcases hp with rfl | rfl <;> rfl) (by rcases hp with rfl | rfl <;> rfl) (fun v52 w_53 _ _ => ?_))))))))
                have z_54 := PLs_r q1 3 (by decide) (by decide) (k := f.toInt) (by omega) (by omega) w_53
                refine to_2s (pc := 75) rw_49_75 (v := ((v49.toInt64) <<< (v52.toInt64 &&& 63))) rfl (to_rl (pc := 76) rw_49_76 ?_)
                exact h ((v49.toInt64) <<< (v52.toInt64 &&& 63)) M hG F0 (x_cd_s (by omega) (by omega) (by omega) z_51)
      · refine to_c (pc := 10) rw_45_10 (x := (1 : Int32)) rfl rfl (to_go (pc := 11) rw_45_11 (s_r1 (pc := 15) rw_45_15 (A := 1) rfl (by decide) (b_ine_t (pc := 13) rw_46_13 (A := 1) rfl (by decide) (to_c (pc := 34) rw_46_34 (x := (0 : Int32)) rfl rfl (s_r1 (pc := 35) rw_46_35 (A := 0) rfl (by decide) (b_ine_f (pc := 6) rw_49_6 (A := 0) rfl (by decide) (to_cl (pc := 9) rw_49_9 rfl (x := (0 : Int64)) rfl (to_rl (pc := 10) rw_49_10 ?_))))))))
        exact h (0 : Int64) M hG F0 (x_cd_0 (by omega))
set_option maxRecDepth 4000 in
set_option maxHeartbeats 0 in
theorem E_183 {X : mm_X} {d : Nat} {M : mm_M} {Q : Option Value → mm_M → Prop} {f : Int32} {v : Int32} {sg : x_S} (hX : g_X X) (hd : 0 ≤ d) (hG : g_G M) (q1 : 0 ≤ f.toInt) (q2 : f.toInt < sg.2.1) (q3 : ¬ x_row sg 2 f.toInt = 3) (q4 : 0 ≤ v.toInt) (q5 : v.toInt < x_row sg 5 f.toInt) (q6 : FA M) (q7 : PLk M sg) (q8 : W8 M) (h : ∀ (r : Int64) (M1 : mm_M), g_G M1 → FR md_0 M M1 → (r = x_cd sg f.toInt v.toInt) → Q (some (.long r)) M1) : mm_T X d 182 0 [.ref 77, .int f, .int v] [] M Q := by
  have F0 : FR md_0 M M := FR.rf
  have z_1 := q7.2.1
  have z_2 := q7.2.2.1
  have z_3 := q7.2.2.2.1
  have z_4 := q7.1
  have z_5 := z_4.1
  have z_6 := z_4.2.1
  have z_7 := z_4.2.2.1
  have z_8 := z_4.2.2.2.1
  have z_9 := z_4.2.2.2.2.1
  have z_10 := z_4.2.2.2.2.2.1
  have b_11 := g_b hG (a := 77) (i := 11) (lo := 10) (hi := 60) rfl rfl
  have b_12 := g_b hG (a := 77) (i := 12) (lo := 0) (hi := 8) rfl rfl
  have b_13 := g_b hG (a := 77) (i := 13) (lo := 0) (hi := 12) rfl rfl
  have z_14 := PLk_r q7 5 84 rfl (by decide) (by decide) (k := f.toInt) (by omega) (by omega) rfl
  refine to_an (pc := 0) rw_183_0 rfl (s_gR (pc := 1) rw_183_1 hG rfl (v := 81) rfl (to_in (pc := 4) rw_183_4 rfl (s_ial (pc := 5) rw_183_5 hG rfl (n := 16) rfl rfl (A := f.toInt) rfl (by omega) (by omega) (lo := 0) (hi := 3) rfl rfl (fun v15 w_16 _ _ => ?_))))
  have z_17 := PLk_r q7 2 81 rfl (by decide) (by decide) (k := f.toInt) (by omega) (by omega) w_16
  have t_18 := congrArg Int32.toInt w_16
  have j_19 := FA_u q6 (f.toInt).toNat
  refine b_ine (pc := 6) rw_183_6 (A := v15.toInt) rfl (fun h20 => ?_) (fun h20 => ?_)
  · refine to_an (pc := 15) rw_183_15 rfl (s_gR (pc := 16) rw_183_16 hG rfl (v := 81) rfl (to_in (pc := 19) rw_183_19 rfl (s_ialk (pc := 20) rw_183_20 hG rfl (n := 16) rfl rfl (A := f.toInt) rfl (by omega) (by omega) (v := v15) w_16 (to_c (pc := 21) rw_183_21 (x := (1 : Int32)) rfl rfl (b_cne (pc := 22) rw_183_22 (A := v15.toInt) (B := 1) rfl rfl (fun h23 => ?_) (fun h23 => ?_))))))
    · refine to_an (pc := 35) rw_183_35 rfl (s_gR (pc := 36) rw_183_36 hG rfl (v := 89) rfl (to_in (pc := 39) rw_183_39 rfl (s_ial (pc := 40) rw_183_40 hG rfl (n := 10) rfl rfl (A := v.toInt) rfl (by omega) (by omega) (lo := -2147483648) (hi := 2147483647) rfl rfl (fun v24 w_25 _ _ => ?_))))
      have z_26 := ((q8 (v.toInt).toNat (by omega)).2.symm.trans w_25)
      refine to_i2l (pc := 41) rw_183_41 (v := (v24.toInt64)) rfl (to_an (pc := 42) rw_183_42 rfl (s_gR (pc := 43) rw_183_43 hG rfl (v := 82) rfl (to_in (pc := 46) rw_183_46 rfl (s_ial (pc := 47) rw_183_47 hG rfl (n := 16) rfl rfl (A := f.toInt) rfl (by omega) (by omega) (lo := 0) (hi := 59) rfl rfl (fun v27 w_28 _ _ => ?_)))))
      have z_29 := PLk_r q7 3 82 rfl (by decide) (by decide) (k := f.toInt) (by omega) (by omega) w_28
      have t_30 := congrArg Int32.toInt w_28
      refine to_2s (pc := 48) rw_183_48 (v := ((v24.toInt64) <<< (v27.toInt64 &&& 63))) rfl (to_rl (pc := 49) rw_183_49 ?_)
      exact h ((v24.toInt64) <<< (v27.toInt64 &&& 63)) M hG F0 (x_cd_p (by omega) (by omega) (by omega) z_26)
    · refine to_an (pc := 25) rw_183_25 rfl (s_gR (pc := 26) rw_183_26 hG rfl (v := 88) rfl (to_in (pc := 29) rw_183_29 rfl (s_ial (pc := 30) rw_183_30 hG rfl (n := 10) rfl rfl (A := v.toInt) rfl (by omega) (by omega) (lo := -2147483648) (hi := 2147483647) rfl rfl (fun v31 w_32 _ _ => ?_))))
      have z_33 := ((q8 (v.toInt).toNat (by omega)).1.symm.trans w_32)
      refine to_i2l (pc := 31) rw_183_31 (v := (v31.toInt64)) rfl (to_go (pc := 32) rw_183_32 (to_an (pc := 42) rw_183_42 rfl (s_gR (pc := 43) rw_183_43 hG rfl (v := 82) rfl (to_in (pc := 46) rw_183_46 rfl (s_ial (pc := 47) rw_183_47 hG rfl (n := 16) rfl rfl (A := f.toInt) rfl (by omega) (by omega) (lo := 0) (hi := 59) rfl rfl (fun v34 w_35 _ _ => ?_))))))
      have z_36 := PLk_r q7 3 82 rfl (by decide) (by decide) (k := f.toInt) (by omega) (by omega) w_35
      have t_37 := congrArg Int32.toInt w_35
      refine to_2s (pc := 48) rw_183_48 (v := ((v31.toInt64) <<< (v34.toInt64 &&& 63))) rfl (to_rl (pc := 49) rw_183_49 ?_)
      exact h ((v31.toInt64) <<< (v34.toInt64 &&& 63)) M hG F0 (x_cd_s (by omega) (by omega) (by omega) z_33)
  · refine to_cl (pc := 9) rw_183_9 rfl (x := (1 : Int64)) rfl (to_in (pc := 10) rw_183_10 rfl (to_2s (pc := 11) rw_183_11 (v := ((1 : Int64) <<< (v.toInt64 &&& 63))) rfl (to_go (pc := 12) rw_183_12 (to_an (pc := 42) rw_183_42 rfl (s_gR (pc := 43) rw_183_43 hG rfl (v := 82) rfl (to_in (pc := 46) rw_183_46 rfl (s_ial (pc := 47) rw_183_47 hG rfl (n := 16) rfl rfl (A := f.toInt) rfl (by omega) (by omega) (lo := 0) (hi := 59) rfl rfl (fun v38 w_39 _ _ => ?_))))))))
    have z_40 := PLk_r q7 3 82 rfl (by decide) (by decide) (k := f.toInt) (by omega) (by omega) w_39
    have t_41 := congrArg Int32.toInt w_39
    refine to_2s (pc := 48) rw_183_48 (v := (((1 : Int64) <<< (v.toInt64 &&& 63)) <<< (v38.toInt64 &&& 63))) rfl (to_rl (pc := 49) rw_183_49 ?_)
    exact h (((1 : Int64) <<< (v.toInt64 &&& 63)) <<< (v38.toInt64 &&& 63)) M hG F0 (x_cd_b (by omega) (by omega) (by omega) (by omega) (by omega))
set_option maxRecDepth 4000 in
set_option maxHeartbeats 0 in
theorem E_11 {X : mm_X} {d : Nat} {M : mm_M} {Q : Option Value → mm_M → Prop} {p : Nat} {n : Int32} {sg : x_S} {NN : x_N} {nz : Int} {ca : Int} {K : x_Kn} (hX : g_X X) (hd : 3 ≤ d) (hG : g_G M) (hp : p = 49 ∨ p = 58) (q1 : 0 ≤ n.toInt) (q2 : n.toInt ≤ 149) (q3 : n.toInt < nz) (q4 : PLs M p sg) (q5 : g_W2 X) (q6 : NTc M NN nz) (q7 : x_vn sg ca NN nz) (q8 : ca ≤ 30) (q9 : KST M 12 13 14 15 ca sg K) (h : ∀ (M1 : mm_M), g_G M1 → FR md_ka M M1 → (KST M1 12 13 14 15 ca sg (x_ap sg NN (n.toInt).toNat K)) → Q (none) M1) : mm_T X d 11 0 [.ref 11, .ref p, .ref 6, .int n, .null, .null] [] M Q := by
  have F0 : FR md_ka M M := FR.rf
  have z_1 := q4.2.1
  have z_2 := q4.2.2.1
  have z_3 := q4.2.2.2.1
  have z_4 := q4.1
  have z_5 := z_4.1
  have z_6 := z_4.2.1
  have z_7 := z_4.2.2.1
  have z_8 := z_4.2.2.2.1
  have z_9 := z_4.2.2.2.2.1
  have z_10 := z_4.2.2.2.2.2.1
  have b_11 := g_b hG (a := p) (i := 2) (lo := 0) (hi := 8) (by rcases hp with rfl | rfl <;> rfl) (by rcases hp with rfl | rfl <;> rfl)
  have b_12 := g_b hG (a := p) (i := 3) (lo := 0) (hi := 12) (by rcases hp with rfl | rfl <;> rfl) (by rcases hp with rfl | rfl <;> rfl)
  refine to_an (pc := 0) rw_11_0 rfl (s_gR (pc := 1) rw_11_1 hG rfl (v := 8) rfl (to_in (pc := 4) rw_11_4 rfl (s_ial (pc := 5) rw_11_5 hG rfl (n := 150) rfl rfl (A := n.toInt) rfl (by omega) (by omega) (lo := 0) (hi := 149) rfl rfl (fun v13 w_14 _ _ => ?_))))
  have nl_15 := NTc_1 q6 (A := n.toInt) (by omega) (by omega) w_14
  have z_16 := congrArg Int32.toInt nl_15
  have vn_17 := x_vn_u q7 (A := n.toInt) (by omega) (by omega)
  have z_18 := x_row_v (s := sg) (r := 7) z_16
  refine to_is (pc := 6) rw_11_6 (ls2 := [.ref 11, .ref p, .ref 6, .int n, .int v13, .null]) rfl rfl (to_an (pc := 8) rw_11_8 rfl (s_gR (pc := 9) rw_11_9 hG rfl (v := 9) rfl (to_in (pc := 12) rw_11_12 rfl (s_ial (pc := 13) rw_11_13 hG rfl (n := 150) rfl rfl (A := n.toInt) rfl (by omega) (by omega) (lo := -2147483648) (hi := 2147483647) rfl rfl (fun v19 w_20 _ _ => ?_)))))
  have nl_21 := NTc_2 q6 (A := n.toInt) (by omega) (by omega) w_20
  have z_22 := congrArg Int32.toInt nl_21
  have z_23 := x_row_v (s := sg) (r := 2) z_22
  have z_24 := x_row_v (s := sg) (r := 5) z_22
  refine to_is (pc := 14) rw_11_14 (ls2 := [.ref 11, .ref p, .ref 6, .int n, .int v13, .int v19]) rfl rfl (to_an (pc := 16) rw_11_16 rfl (s_gR (pc := 17) rw_11_17 hG rfl (v := 7) rfl (to_in (pc := 20) rw_11_20 rfl (s_ial (pc := 21) rw_11_21 hG rfl (n := 150) rfl rfl (A := n.toInt) rfl (by omega) (by omega) (lo := 0) (hi := 5) rfl rfl (fun v25 w_26 _ _ => ?_)))))
  have nl_27 := NTc_0 q6 (A := n.toInt) (by omega) (by omega) w_26
  have z_28 := congrArg Int32.toInt nl_27
  rcases (show v25.toInt = 0 ∨ v25.toInt = 1 ∨ v25.toInt = 2 ∨ v25.toInt = 3 ∨ v25.toInt = 4 ∨ (v25.toInt < 0 ∨ 4 < v25.toInt) by omega) with h29 | h29 | h29 | h29 | h29 | h29
  · refine s_sw (pc := 22) rw_11_22 (A := v25.toInt) (k := 0) (t := 56) rfl h29 (by decide) rfl (to_an (pc := 56) rw_11_56 rfl (s_gR (pc := 57) rw_11_57 hG rfl (v := 14) rfl (to_i (pc := 60) rw_11_60 rfl (to_c (pc := 62) rw_11_62 (x := (8 : Int32)) rfl rfl (s_mul (pc := 64) rw_11_64 (A := v13.toInt) (B := 8) rfl rfl (by omega) (fun v30 e31 => to_i (pc := 65) rw_11_65 rfl (s_addo (pc := 67) rw_11_67 (A := v30.toInt) (B := v19.toInt) rfl rfl (fun v32 e33 => to_an (pc := 68) rw_11_68 rfl (s_gR (pc := 69) rw_11_69 hG rfl (v := 10) rfl (to_in (pc := 72) rw_11_72 rfl (s_ial (pc := 73) rw_11_73 hG rfl (n := 150) rfl rfl (A := n.toInt) rfl (by omega) (by omega) (lo := -2147483648) (hi := 2147483647) rfl rfl (fun v34 w_35 _ _ => ?_))))))))))))
    have nl_36 := NTc_3 q6 (A := n.toInt) (by omega) (by omega) w_35
    have z_37 := congrArg Int32.toInt nl_36
    refine s_ias (pc := 74) rw_11_74 hG rfl (n := 240) rfl (A := v32.toInt) rfl (by omega) (by omega) (fun M39 W38 => ?_)
    have hG40 := g_wf hG W38 rfl rfl (by decide)
    have F41 := FR.w F0 W38 (show 12 ≤ 14 ∧ 14 ≤ 15 by decide)
    have kn_42 : KST M39 12 13 14 15 ca sg (K.1, K.2.1, (x_upI K.2.2.1 ((v32.toInt).toNat) v34), K.2.2.2) := KST_v q9 W38 (by decide)
    refine to_an (pc := 75) rw_11_75 rfl (s_gR (pc := 76) rw_11_76 hG40 rfl (v := 12) rfl (to_i (pc := 79) rw_11_79 rfl (to_dup2 (pc := 81) rw_11_81 (s_lalE (pc := 82) rw_11_82 hG40 rfl (n := 30) rfl (A := v13.toInt) rfl (by omega) (by omega) (fun l43 w_44 => ?_)))))
    have z_45 : l43 = K.1 (v13.toInt).toNat := KST_lc (K := (K.1, K.2.1, (x_upI K.2.2.1 ((v32.toInt).toNat) v34), K.2.2.2)) kn_42 (by omega) (by omega) w_44
    refine to_an (pc := 83) rw_11_83 rfl (to_i (pc := 84) rw_11_84 rfl (to_an (pc := 86) rw_11_86 rfl (s_gR (pc := 87) rw_11_87 hG40 rfl (v := 10) rfl (to_in (pc := 90) rw_11_90 rfl (s_ialk (pc := 91) rw_11_91 hG40 rfl (n := 150) rfl rfl (A := n.toInt) rfl (by omega) (by omega) (v := v34) (W_n W38 (by omega) w_35) (s_v (pc := 92) rw_11_92 (dp0 hd (by decide)) (ls0 := [.ref p, .int v19, .int v34, .null, .null]) rfl (Nat.le_of_ble_eq_true rfl) (Nat.le_of_ble_eq_true rfl) rfl (to_rc rfl rfl rfl (g_o hG40 (by rcases hp with rfl | rfl <;> rfl))) rfl ?_))))))
    have j_48 := (PLs_f (fun a i z => W_n W38 (by /-r14-/ omega) rfl) q4)
    refine E_49 hX (dp1 hd (by decide)) hG40 hp j_48 q5 (p := p) (f := v19) (v := v34) (sg := sg) (fun r49 M53 hG51 F50 p_52 => ?_)
    have F54 := FR.c F41 F50 tg_109
    refine to_2l (pc := 95) rw_11_95 (v := (l43 ||| r49)) rfl (s_las (pc := 96) rw_11_96 hG51 rfl (n := 30) rfl (A := v13.toInt) rfl (by omega) (by omega) (fun M56 W55 => ?_))
    have hG57 := g_wl hG51 W55
    have F58 := FR.wl F54 W55 (show 12 ≤ 12 ∧ 12 ≤ 15 by decide)
    have kn_59 : KST M53 12 13 14 15 ca sg (K.1, K.2.1, (x_upI K.2.2.1 ((v32.toInt).toNat) v34), K.2.2.2) := KST_f (fun i => (F_nl F50 (show ¬ (12 < 0) by decide) rfl)) (fun i => (F_n F50 (show ¬ (13 < 0) by decide) rfl)) (fun i => (F_n F50 (show ¬ (14 < 0) by decide) rfl)) (fun i => (F_nl F50 (show ¬ (15 < 0) by decide) rfl)) kn_42
    have kn_60 : KST M56 12 13 14 15 ca sg ((x_upL K.1 ((v13.toInt).toNat) (l43 ||| r49)), K.2.1, (x_upI K.2.2.1 ((v32.toInt).toNat) v34), K.2.2.2) := KST_c kn_59 W55 (by decide)
    refine to_go (pc := 97) rw_11_97 (to_rv (pc := 198) rw_11_198 ?_)
    exact h M56 hG57 F58 (KST_q (x_ap_0 (by omega) (by omega) (by rw [z_45, p_52, nl_15, nl_21, nl_36]) (by omega) nl_36) kn_60)
  · refine s_sw (pc := 22) rw_11_22 (A := v25.toInt) (k := 1) (t := 100) rfl h29 (by decide) rfl (to_an (pc := 100) rw_11_100 rfl (s_gR (pc := 101) rw_11_101 hG rfl (v := 13) rfl (to_i (pc := 104) rw_11_104 rfl (to_dup2 (pc := 106) rw_11_106 (s_ial (pc := 107) rw_11_107 hG rfl (n := 30) rfl rfl (A := v13.toInt) rfl (by omega) (by omega) (lo := -2147483648) (hi := 2147483647) rfl rfl (fun v61 w_62 _ _ => ?_))))))
    have z_63 : v61 = K.2.1 (v13.toInt).toNat := KST_lw (K := (K.1, K.2.1, K.2.2.1, K.2.2.2)) q9 (by omega) (by omega) w_62
    refine to_c (pc := 108) rw_11_108 (x := (1 : Int32)) rfl rfl (to_i (pc := 109) rw_11_109 rfl (s_opE (pc := 111) rw_11_111 (w := (1 : Int32) <<< v19) rfl (fun v64 e65 => s_opE (pc := 112) rw_11_112 (w := v61 ||| v64) rfl (fun v66 e67 => s_ias (pc := 113) rw_11_113 hG rfl (n := 30) rfl (A := v13.toInt) rfl (by omega) (by omega) (fun M69 W68 => ?_)))))
    have hG70 := g_wf hG W68 rfl rfl (by decide)
    have F71 := FR.w F0 W68 (show 12 ≤ 13 ∧ 13 ≤ 15 by decide)
    have kn_72 : KST M69 12 13 14 15 ca sg (K.1, (x_upI K.2.1 ((v13.toInt).toNat) v66), K.2.2.1, K.2.2.2) := KST_w q9 W68 (by decide)
    refine to_an (pc := 114) rw_11_114 rfl (s_gR (pc := 115) rw_11_115 hG70 rfl (v := 12) rfl (to_i (pc := 118) rw_11_118 rfl (to_dup2 (pc := 120) rw_11_120 (s_lalE (pc := 121) rw_11_121 hG70 rfl (n := 30) rfl (A := v13.toInt) rfl (by omega) (by omega) (fun l73 w_74 => ?_)))))
    have z_75 : l73 = K.1 (v13.toInt).toNat := KST_lc (K := (K.1, (x_upI K.2.1 ((v13.toInt).toNat) v66), K.2.2.1, K.2.2.2)) kn_72 (by omega) (by omega) w_74
    refine to_an (pc := 122) rw_11_122 rfl (s_gR (pc := 123) rw_11_123 hG70 rfl (v := 15) rfl (to_i (pc := 126) rw_11_126 rfl (s_lalE (pc := 128) rw_11_128 hG70 rfl (n := 12) rfl (A := v19.toInt) rfl (by omega) (by omega) (fun l76 w_77 => ?_))))
    have z_78 : l76 = K.2.2.2 (v19.toInt).toNat := KST_ld (K := (K.1, (x_upI K.2.1 ((v13.toInt).toNat) v66), K.2.2.1, K.2.2.2)) kn_72 (by omega) (by omega) w_77
    refine to_2l (pc := 129) rw_11_129 (v := (l73 ||| l76)) rfl (s_las (pc := 130) rw_11_130 hG70 rfl (n := 30) rfl (A := v13.toInt) rfl (by omega) (by omega) (fun M80 W79 => ?_))
    have hG81 := g_wl hG70 W79
    have F82 := FR.wl F71 W79 (show 12 ≤ 12 ∧ 12 ≤ 15 by decide)
    have kn_83 : KST M80 12 13 14 15 ca sg ((x_upL K.1 ((v13.toInt).toNat) (l73 ||| l76)), (x_upI K.2.1 ((v13.toInt).toNat) v66), K.2.2.1, K.2.2.2) := KST_c kn_72 W79 (by decide)
    refine to_go (pc := 131) rw_11_131 (to_rv (pc := 198) rw_11_198 ?_)
    exact h M80 hG81 F82 (KST_q (x_ap_1 (by omega) (by omega) (by omega) (by rw [z_75, z_78, nl_15, nl_21]) (by rw [← e67, ← e65, z_63, nl_15, nl_21])) kn_83)
  · refine s_sw (pc := 22) rw_11_22 (A := v25.toInt) (k := 2) (t := 134) rfl h29 (by decide) rfl (to_an (pc := 134) rw_11_134 rfl (s_gR (pc := 135) rw_11_135 hG rfl (v := 12) rfl (to_i (pc := 138) rw_11_138 rfl (to_dup2 (pc := 140) rw_11_140 (s_lalE (pc := 141) rw_11_141 hG rfl (n := 30) rfl (A := v13.toInt) rfl (by omega) (by omega) (fun l84 w_85 => ?_))))))
    have z_86 : l84 = K.1 (v13.toInt).toNat := KST_lc (K := (K.1, K.2.1, K.2.2.1, K.2.2.2)) q9 (by omega) (by omega) w_85
    refine to_cl (pc := 142) rw_11_142 rfl (x := (1 : Int64)) rfl (to_i (pc := 143) rw_11_143 rfl (to_2s (pc := 145) rw_11_145 (v := ((1 : Int64) <<< (v19.toInt64 &&& 63))) rfl (to_2l (pc := 146) rw_11_146 (v := (l84 ||| ((1 : Int64) <<< (v19.toInt64 &&& 63)))) rfl (s_las (pc := 147) rw_11_147 hG rfl (n := 30) rfl (A := v13.toInt) rfl (by omega) (by omega) (fun M88 W87 => ?_)))))
    have hG89 := g_wl hG W87
    have F90 := FR.wl F0 W87 (show 12 ≤ 12 ∧ 12 ≤ 15 by decide)
    have kn_91 : KST M88 12 13 14 15 ca sg ((x_upL K.1 ((v13.toInt).toNat) (l84 ||| ((1 : Int64) <<< (v19.toInt64 &&& 63)))), K.2.1, K.2.2.1, K.2.2.2) := KST_c q9 W87 (by decide)
    refine to_go (pc := 148) rw_11_148 (to_rv (pc := 198) rw_11_198 ?_)
    exact h M88 hG89 F90 (KST_q (x_ap_2 (by omega) (by omega) (by rw [z_86, nl_15, nl_21])) kn_91)
  · refine s_sw (pc := 22) rw_11_22 (A := v25.toInt) (k := 3) (t := 151) rfl h29 (by decide) rfl (to_an (pc := 151) rw_11_151 rfl (s_gR (pc := 152) rw_11_152 hG rfl (v := 12) rfl (to_i (pc := 155) rw_11_155 rfl (to_dup2 (pc := 157) rw_11_157 (s_lalE (pc := 158) rw_11_158 hG rfl (n := 30) rfl (A := v13.toInt) rfl (by omega) (by omega) (fun l92 w_93 => ?_))))))
    have z_94 : l92 = K.1 (v13.toInt).toNat := KST_lc (K := (K.1, K.2.1, K.2.2.1, K.2.2.2)) q9 (by omega) (by omega) w_93
    refine to_cl (pc := 159) rw_11_159 rfl (x := (1 : Int64)) rfl (to_i (pc := 160) rw_11_160 rfl (to_2s (pc := 162) rw_11_162 (v := ((1 : Int64) <<< (v19.toInt64 &&& 63))) rfl (to_cl (pc := 163) rw_11_163 rfl (x := (-1 : Int64)) rfl (to_2l (pc := 166) rw_11_166 (v := (((1 : Int64) <<< (v19.toInt64 &&& 63)) ^^^ (-1 : Int64))) rfl (to_2l (pc := 167) rw_11_167 (v := (l92 &&& (((1 : Int64) <<< (v19.toInt64 &&& 63)) ^^^ (-1 : Int64)))) rfl (s_las (pc := 168) rw_11_168 hG rfl (n := 30) rfl (A := v13.toInt) rfl (by omega) (by omega) (fun M96 W95 => ?_)))))))
    have hG97 := g_wl hG W95
    have F98 := FR.wl F0 W95 (show 12 ≤ 12 ∧ 12 ≤ 15 by decide)
    have kn_99 : KST M96 12 13 14 15 ca sg ((x_upL K.1 ((v13.toInt).toNat) (l92 &&& (((1 : Int64) <<< (v19.toInt64 &&& 63)) ^^^ (-1 : Int64)))), K.2.1, K.2.2.1, K.2.2.2) := KST_c q9 W95 (by decide)
    refine to_go (pc := 169) rw_11_169 (to_rv (pc := 198) rw_11_198 ?_)
    exact h M96 hG97 F98 (KST_q (x_ap_3 (by omega) (by omega) (by rw [z_94, nl_15, nl_21])) kn_99)
  · refine s_sw (pc := 22) rw_11_22 (A := v25.toInt) (k := 4) (t := 172) rfl h29 (by decide) rfl (to_an (pc := 172) rw_11_172 rfl (s_gR (pc := 173) rw_11_173 hG rfl (v := 15) rfl (to_i (pc := 176) rw_11_176 rfl (to_i (pc := 178) rw_11_178 rfl (to_i2l (pc := 180) rw_11_180 (v := (v19.toInt64)) rfl (to_an (pc := 181) rw_11_181 rfl (s_gR (pc := 182) rw_11_182 hG (by rcases hp with rfl | rfl <;> rfl) (v := (p + 3)) (by rcases hp with rfl | rfl <;> rfl) (to_an (pc := 185) rw_11_185 rfl (s_gR (pc := 186) rw_11_186 hG (by rcases hp with rfl | rfl <;> rfl) (v := (p + 7)) (by rcases hp with rfl | rfl <;> rfl) (to_i (pc := 189) rw_11_189 rfl (s_ial (pc := 191) rw_11_191 hG (by rcases hp with rfl | rfl <;> rfl) (n := 12) (by rcases hp with rfl | rfl <;> rfl) (by rcases hp with rfl | rfl <;> rfl) (A := v13.toInt) rfl (by omega) (by omega) (lo := 0) (hi := 7) (by rcases hp with rfl | rfl <;> rfl) (by rcases hp with rfl | rfl <;> rfl) (fun v100 w_101 _ _ => ?_))))))))))))
    have z_102 := PLs_v q4 7 (by decide) (by decide) (k := v13.toInt) (by omega) (by omega) w_101
    have z_103 := q4.1.2.2.2.2.2.2.1 v13.toInt (by omega) (by omega)
    refine s_ial (pc := 192) rw_11_192 hG (by rcases hp with rfl | rfl <;> rfl) (n := 8) (by rcases hp with rfl | rfl <;> rfl) (by rcases hp with rfl | rfl <;> rfl) (A := v100.toInt) rfl (by omega) (by omega) (lo := 0) (hi := 59) (by rcases hp with rfl | rfl <;> rfl) (by rcases hp with rfl | rfl <;> rfl) (fun v104 w_105 _ _ => ?_)
    have z_106 := PLs_r q4 3 (by decide) (by decide) (k := v100.toInt) (by omega) (by omega) w_105
    have z_107 := x_row_v (s := sg) (r := 3) (x := v100.toInt) (y := x_row sg 7 (NN.2.1 (n.toInt).toNat).toInt) (by omega)
    refine to_2s (pc := 193) rw_11_193 (v := ((v19.toInt64) <<< (v104.toInt64 &&& 63))) rfl (s_las (pc := 194) rw_11_194 hG rfl (n := 12) rfl (A := v13.toInt) rfl (by omega) (by omega) (fun M109 W108 => ?_))
    have hG110 := g_wl hG W108
    have F111 := FR.wl F0 W108 (show 12 ≤ 15 ∧ 15 ≤ 15 by decide)
    have kn_112 : KST M109 12 13 14 15 ca sg (K.1, K.2.1, K.2.2.1, (x_upL K.2.2.2 ((v13.toInt).toNat) ((v19.toInt64) <<< (v104.toInt64 &&& 63)))) := KST_d q9 W108 (by decide)
    refine to_go (pc := 195) rw_11_195 (to_rv (pc := 198) rw_11_198 ?_)
    exact h M109 hG110 F111 (KST_q (x_ap_4 (by omega) (by omega) (by rw [x_sh_e (h := x_row sg 3 (x_row sg 7 (NN.2.1 (n.toInt).toNat).toInt)) (by omega), nl_21])) kn_112)
  · refine s_swd (pc := 22) rw_11_22 (A := v25.toInt) rfl h29 (to_rv (pc := 198) rw_11_198 ?_)
    exact h M hG F0 (KST_q (x_ap_5 (by omega)) q9)
set_option maxRecDepth 4000 in
set_option maxHeartbeats 0 in
theorem E_190 {X : mm_X} {d : Nat} {M : mm_M} {Q : Option Value → mm_M → Prop} {k : Int32} {sg : x_S} {NN : x_N} {nz : Int} {ca : Int} {K : x_Kn} (hX : g_X X) (hd : 1 ≤ d) (hG : g_G M) (q1 : 0 ≤ k.toInt) (q2 : k.toInt ≤ 149) (q3 : k.toInt < nz) (q4 : FA M) (q5 : PLk M sg) (q6 : W8 M) (q7 : NTr M NN nz) (q8 : x_vn sg ca NN nz) (q9 : ca ≤ 30) (q10 : KST M 96 98 97 95 ca sg K) (h : ∀ (M1 : mm_M), g_G M1 → FR md_kr M M1 → (KST M1 96 98 97 95 ca sg (x_ap sg NN (k.toInt).toNat K)) → Q (none) M1) : mm_T X d 189 0 [.ref 77, .int k, .null] [] M Q := by
  have F0 : FR md_kr M M := FR.rf
  have z_1 := q5.2.1
  have z_2 := q5.2.2.1
  have z_3 := q5.2.2.2.1
  have z_4 := q5.1
  have z_5 := z_4.1
  have z_6 := z_4.2.1
  have z_7 := z_4.2.2.1
  have z_8 := z_4.2.2.2.1
  have z_9 := z_4.2.2.2.2.1
  have z_10 := z_4.2.2.2.2.2.1
  have b_11 := g_b hG (a := 77) (i := 11) (lo := 10) (hi := 60) rfl rfl
  have b_12 := g_b hG (a := 77) (i := 12) (lo := 0) (hi := 8) rfl rfl
  have b_13 := g_b hG (a := 77) (i := 13) (lo := 0) (hi := 12) rfl rfl
  refine to_an (pc := 0) rw_190_0 rfl (s_gR (pc := 1) rw_190_1 hG rfl (v := 91) rfl (to_in (pc := 4) rw_190_4 rfl (s_ial (pc := 5) rw_190_5 hG rfl (n := 150) rfl rfl (A := k.toInt) rfl (by omega) (by omega) (lo := 0) (hi := 149) rfl rfl (fun v14 w_15 _ _ => ?_))))
  have nl_16 := NTr_1 q7 (A := k.toInt) (by omega) (by omega) w_15
  have z_17 := congrArg Int32.toInt nl_16
  have vn_18 := x_vn_u q8 (A := k.toInt) (by omega) (by omega)
  have z_19 := x_row_v (s := sg) (r := 7) z_17
  refine to_isn (pc := 6) rw_190_6 (ls2 := [.ref 77, .int k, .int v14]) rfl rfl (to_an (pc := 7) rw_190_7 rfl (s_gR (pc := 8) rw_190_8 hG rfl (v := 90) rfl (to_in (pc := 11) rw_190_11 rfl (s_ial (pc := 12) rw_190_12 hG rfl (n := 150) rfl rfl (A := k.toInt) rfl (by omega) (by omega) (lo := 0) (hi := 5) rfl rfl (fun v20 w_21 _ _ => ?_)))))
  have nl_22 := NTr_0 q7 (A := k.toInt) (by omega) (by omega) w_21
  have z_23 := congrArg Int32.toInt nl_22
  rcases (show v20.toInt = 0 ∨ v20.toInt = 1 ∨ v20.toInt = 2 ∨ v20.toInt = 3 ∨ v20.toInt = 4 ∨ (v20.toInt < 0 ∨ 4 < v20.toInt) by omega) with h24 | h24 | h24 | h24 | h24 | h24
  · refine s_sw (pc := 13) rw_190_13 (A := v20.toInt) (k := 0) (t := 48) rfl h24 (by decide) rfl (to_an (pc := 48) rw_190_48 rfl (s_gR (pc := 49) rw_190_49 hG rfl (v := 96) rfl (to_in (pc := 52) rw_190_52 rfl (to_dup2 (pc := 53) rw_190_53 (s_lalE (pc := 54) rw_190_54 hG rfl (n := 30) rfl (A := v14.toInt) rfl (by omega) (by omega) (fun l25 w_26 => ?_))))))
    have z_27 : l25 = K.1 (v14.toInt).toNat := KST_lc (K := (K.1, K.2.1, K.2.2.1, K.2.2.2)) q10 (by omega) (by omega) w_26
    refine to_an (pc := 55) rw_190_55 rfl (to_an (pc := 56) rw_190_56 rfl (s_gR (pc := 57) rw_190_57 hG rfl (v := 92) rfl (to_in (pc := 60) rw_190_60 rfl (s_ial (pc := 61) rw_190_61 hG rfl (n := 150) rfl rfl (A := k.toInt) rfl (by omega) (by omega) (lo := -2147483648) (hi := 2147483647) rfl rfl (fun v28 w_29 _ _ => ?_)))))
    have nl_30 := NTr_2 q7 (A := k.toInt) (by omega) (by omega) w_29
    have z_31 := congrArg Int32.toInt nl_30
    have z_32 := x_row_v (s := sg) (r := 2) z_31
    have z_33 := x_row_v (s := sg) (r := 5) z_31
    refine to_an (pc := 62) rw_190_62 rfl (s_gR (pc := 63) rw_190_63 hG rfl (v := 93) rfl (to_in (pc := 66) rw_190_66 rfl (s_ial (pc := 67) rw_190_67 hG rfl (n := 150) rfl rfl (A := k.toInt) rfl (by omega) (by omega) (lo := -2147483648) (hi := 2147483647) rfl rfl (fun v34 w_35 _ _ => ?_))))
    have nl_36 := NTr_3 q7 (A := k.toInt) (by omega) (by omega) w_35
    have z_37 := congrArg Int32.toInt nl_36
    refine s_v (pc := 68) rw_190_68 (dp0 hd (by decide)) (ls0 := [.ref 77, .int v28, .int v34]) rfl (Nat.le_of_ble_eq_true rfl) (Nat.le_of_ble_eq_true rfl) rfl (to_rc rfl rfl rfl (g_o hG rfl)) rfl (E_183 hX (dp1 hd (by decide)) hG (by omega) (by omega) (by omega) (by omega) (by omega) q4 q5 q6 (f := v28) (v := v34) (sg := sg) (fun r38 M42 hG40 F39 p_41 => ?_))
    have F43 := FR.c F0 F39 tg_110
    refine to_2l (pc := 71) rw_190_71 (v := (l25 ||| r38)) rfl (s_las (pc := 72) rw_190_72 hG40 rfl (n := 30) rfl (A := v14.toInt) rfl (by omega) (by omega) (fun M45 W44 => ?_))
    have hG46 := g_wl hG40 W44
    have F47 := FR.wl F43 W44 (show 95 ≤ 96 ∧ 96 ≤ 98 by decide)
    have kn_48 : KST M42 96 98 97 95 ca sg (K.1, K.2.1, K.2.2.1, K.2.2.2) := KST_f (fun i => (F_nl F39 (show ¬ (96 < 0) by decide) rfl)) (fun i => (F_n F39 (show ¬ (98 < 0) by decide) rfl)) (fun i => (F_n F39 (show ¬ (97 < 0) by decide) rfl)) (fun i => (F_nl F39 (show ¬ (95 < 0) by decide) rfl)) q10
    have kn_49 : KST M45 96 98 97 95 ca sg ((x_upL K.1 ((v14.toInt).toNat) (l25 ||| r38)), K.2.1, K.2.2.1, K.2.2.2) := KST_c kn_48 W44 (by decide)
    refine to_an (pc := 73) rw_190_73 rfl (s_gR (pc := 74) rw_190_74 hG46 rfl (v := 97) rfl (to_c (pc := 77) rw_190_77 (x := (8 : Int32)) rfl rfl (to_in (pc := 79) rw_190_79 rfl (s_mul (pc := 80) rw_190_80 (A := 8) (B := v14.toInt) rfl rfl (by omega) (fun v50 e51 => to_an (pc := 81) rw_190_81 rfl (s_gR (pc := 82) rw_190_82 hG46 rfl (v := 92) rfl (to_in (pc := 85) rw_190_85 rfl (s_ialk (pc := 86) rw_190_86 hG46 rfl (n := 150) rfl rfl (A := k.toInt) rfl (by omega) (by omega) (v := v28) (W_l W44 (F_n F39 (show ¬ (92 < 0) by decide) w_29)) (s_addo (pc := 87) rw_190_87 (A := v50.toInt) (B := v28.toInt) rfl rfl (fun v54 e55 => to_an (pc := 88) rw_190_88 rfl (s_gR (pc := 89) rw_190_89 hG46 rfl (v := 93) rfl ?_)))))))))))
    refine to_in (pc := 92) rw_190_92 rfl (s_ialk (pc := 93) rw_190_93 hG46 rfl (n := 150) rfl rfl (A := k.toInt) rfl (by omega) (by omega) (v := v34) (W_l W44 (F_n F39 (show ¬ (93 < 0) by decide) w_35)) (s_ias (pc := 94) rw_190_94 hG46 rfl (n := 240) rfl (A := v54.toInt) rfl (by omega) (by omega) (fun M59 W58 => ?_)))
    have hG60 := g_wf hG46 W58 rfl rfl (by decide)
    have F61 := FR.w F47 W58 (show 95 ≤ 97 ∧ 97 ≤ 98 by decide)
    have kn_62 : KST M59 96 98 97 95 ca sg ((x_upL K.1 ((v14.toInt).toNat) (l25 ||| r38)), K.2.1, (x_upI K.2.2.1 ((v54.toInt).toNat) v34), K.2.2.2) := KST_v kn_49 W58 (by decide)
    refine to_go (pc := 95) rw_190_95 (to_rv (pc := 202) rw_190_202 ?_)
    exact h M59 hG60 F61 (KST_q (x_ap_0 (by omega) (by omega) (by rw [z_27, p_41, nl_16, nl_30, nl_36]) (by omega) nl_36) kn_62)
  · refine s_sw (pc := 13) rw_190_13 (A := v20.toInt) (k := 1) (t := 98) rfl h24 (by decide) rfl (to_an (pc := 98) rw_190_98 rfl (s_gR (pc := 99) rw_190_99 hG rfl (v := 96) rfl (to_in (pc := 102) rw_190_102 rfl (to_dup2 (pc := 103) rw_190_103 (s_lalE (pc := 104) rw_190_104 hG rfl (n := 30) rfl (A := v14.toInt) rfl (by omega) (by omega) (fun l63 w_64 => ?_))))))
    have z_65 : l63 = K.1 (v14.toInt).toNat := KST_lc (K := (K.1, K.2.1, K.2.2.1, K.2.2.2)) q10 (by omega) (by omega) w_64
    refine to_an (pc := 105) rw_190_105 rfl (s_gR (pc := 106) rw_190_106 hG rfl (v := 95) rfl (to_an (pc := 109) rw_190_109 rfl (s_gR (pc := 110) rw_190_110 hG rfl (v := 92) rfl (to_in (pc := 113) rw_190_113 rfl (s_ial (pc := 114) rw_190_114 hG rfl (n := 150) rfl rfl (A := k.toInt) rfl (by omega) (by omega) (lo := -2147483648) (hi := 2147483647) rfl rfl (fun v66 w_67 _ _ => ?_))))))
    have nl_68 := NTr_2 q7 (A := k.toInt) (by omega) (by omega) w_67
    have z_69 := congrArg Int32.toInt nl_68
    have z_70 := x_row_v (s := sg) (r := 2) z_69
    have z_71 := x_row_v (s := sg) (r := 5) z_69
    refine s_lalE (pc := 115) rw_190_115 hG rfl (n := 12) rfl (A := v66.toInt) rfl (by omega) (by omega) (fun l72 w_73 => ?_)
    have z_74 : l72 = K.2.2.2 (v66.toInt).toNat := KST_ld (K := (K.1, K.2.1, K.2.2.1, K.2.2.2)) q10 (by omega) (by omega) w_73
    refine to_2l (pc := 116) rw_190_116 (v := (l63 ||| l72)) rfl (s_las (pc := 117) rw_190_117 hG rfl (n := 30) rfl (A := v14.toInt) rfl (by omega) (by omega) (fun M76 W75 => ?_))
    have hG77 := g_wl hG W75
    have F78 := FR.wl F0 W75 (show 95 ≤ 96 ∧ 96 ≤ 98 by decide)
    have kn_79 : KST M76 96 98 97 95 ca sg ((x_upL K.1 ((v14.toInt).toNat) (l63 ||| l72)), K.2.1, K.2.2.1, K.2.2.2) := KST_c q10 W75 (by decide)
    refine to_an (pc := 118) rw_190_118 rfl (s_gR (pc := 119) rw_190_119 hG77 rfl (v := 98) rfl (to_in (pc := 122) rw_190_122 rfl (to_dup2 (pc := 123) rw_190_123 (s_ial (pc := 124) rw_190_124 hG77 rfl (n := 30) rfl rfl (A := v14.toInt) rfl (by omega) (by omega) (lo := -2147483648) (hi := 2147483647) rfl rfl (fun v80 w_81 _ _ => ?_)))))
    have z_82 : v80 = K.2.1 (v14.toInt).toNat := KST_lw (K := ((x_upL K.1 ((v14.toInt).toNat) (l63 ||| l72)), K.2.1, K.2.2.1, K.2.2.2)) kn_79 (by omega) (by omega) w_81
    refine to_c (pc := 125) rw_190_125 (x := (1 : Int32)) rfl rfl (to_an (pc := 126) rw_190_126 rfl (s_gR (pc := 127) rw_190_127 hG77 rfl (v := 92) rfl (to_in (pc := 130) rw_190_130 rfl (s_ialk (pc := 131) rw_190_131 hG77 rfl (n := 150) rfl rfl (A := k.toInt) rfl (by omega) (by omega) (v := v66) (W_l W75 w_67) (s_opE (pc := 132) rw_190_132 (w := (1 : Int32) <<< v66) rfl (fun v85 e86 => s_opE (pc := 133) rw_190_133 (w := v80 ||| v85) rfl (fun v87 e88 => s_ias (pc := 134) rw_190_134 hG77 rfl (n := 30) rfl (A := v14.toInt) rfl (by omega) (by omega) (fun M90 W89 => ?_))))))))
    have hG91 := g_wf hG77 W89 rfl rfl (by decide)
    have F92 := FR.w F78 W89 (show 95 ≤ 98 ∧ 98 ≤ 98 by decide)
    have kn_93 : KST M90 96 98 97 95 ca sg ((x_upL K.1 ((v14.toInt).toNat) (l63 ||| l72)), (x_upI K.2.1 ((v14.toInt).toNat) v87), K.2.2.1, K.2.2.2) := KST_w kn_79 W89 (by decide)
    refine to_go (pc := 135) rw_190_135 (to_rv (pc := 202) rw_190_202 ?_)
    exact h M90 hG91 F92 (KST_q (x_ap_1 (by omega) (by omega) (by omega) (by rw [z_65, z_74, nl_16, nl_68]) (by rw [← e88, ← e86, z_82, nl_16, nl_68])) kn_93)
  · refine s_sw (pc := 13) rw_190_13 (A := v20.toInt) (k := 2) (t := 138) rfl h24 (by decide) rfl (to_an (pc := 138) rw_190_138 rfl (s_gR (pc := 139) rw_190_139 hG rfl (v := 96) rfl (to_in (pc := 142) rw_190_142 rfl (to_dup2 (pc := 143) rw_190_143 (s_lalE (pc := 144) rw_190_144 hG rfl (n := 30) rfl (A := v14.toInt) rfl (by omega) (by omega) (fun l94 w_95 => ?_))))))
    have z_96 : l94 = K.1 (v14.toInt).toNat := KST_lc (K := (K.1, K.2.1, K.2.2.1, K.2.2.2)) q10 (by omega) (by omega) w_95
    refine to_cl (pc := 145) rw_190_145 rfl (x := (1 : Int64)) rfl (to_an (pc := 146) rw_190_146 rfl (s_gR (pc := 147) rw_190_147 hG rfl (v := 92) rfl (to_in (pc := 150) rw_190_150 rfl (s_ial (pc := 151) rw_190_151 hG rfl (n := 150) rfl rfl (A := k.toInt) rfl (by omega) (by omega) (lo := -2147483648) (hi := 2147483647) rfl rfl (fun v97 w_98 _ _ => ?_)))))
    have nl_99 := NTr_2 q7 (A := k.toInt) (by omega) (by omega) w_98
    have z_100 := congrArg Int32.toInt nl_99
    have z_101 := x_row_v (s := sg) (r := 2) z_100
    have z_102 := x_row_v (s := sg) (r := 5) z_100
    refine to_2s (pc := 152) rw_190_152 (v := ((1 : Int64) <<< (v97.toInt64 &&& 63))) rfl (to_2l (pc := 153) rw_190_153 (v := (l94 ||| ((1 : Int64) <<< (v97.toInt64 &&& 63)))) rfl (s_las (pc := 154) rw_190_154 hG rfl (n := 30) rfl (A := v14.toInt) rfl (by omega) (by omega) (fun M104 W103 => ?_)))
    have hG105 := g_wl hG W103
    have F106 := FR.wl F0 W103 (show 95 ≤ 96 ∧ 96 ≤ 98 by decide)
    have kn_107 : KST M104 96 98 97 95 ca sg ((x_upL K.1 ((v14.toInt).toNat) (l94 ||| ((1 : Int64) <<< (v97.toInt64 &&& 63)))), K.2.1, K.2.2.1, K.2.2.2) := KST_c q10 W103 (by decide)
    refine to_go (pc := 155) rw_190_155 (to_rv (pc := 202) rw_190_202 ?_)
    exact h M104 hG105 F106 (KST_q (x_ap_2 (by omega) (by omega) (by rw [z_96, nl_16, nl_99])) kn_107)
  · refine s_sw (pc := 13) rw_190_13 (A := v20.toInt) (k := 3) (t := 158) rfl h24 (by decide) rfl (to_an (pc := 158) rw_190_158 rfl (s_gR (pc := 159) rw_190_159 hG rfl (v := 96) rfl (to_in (pc := 162) rw_190_162 rfl (to_dup2 (pc := 163) rw_190_163 (s_lalE (pc := 164) rw_190_164 hG rfl (n := 30) rfl (A := v14.toInt) rfl (by omega) (by omega) (fun l108 w_109 => ?_))))))
    have z_110 : l108 = K.1 (v14.toInt).toNat := KST_lc (K := (K.1, K.2.1, K.2.2.1, K.2.2.2)) q10 (by omega) (by omega) w_109
    refine to_cl (pc := 165) rw_190_165 rfl (x := (1 : Int64)) rfl (to_an (pc := 166) rw_190_166 rfl (s_gR (pc := 167) rw_190_167 hG rfl (v := 92) rfl (to_in (pc := 170) rw_190_170 rfl (s_ial (pc := 171) rw_190_171 hG rfl (n := 150) rfl rfl (A := k.toInt) rfl (by omega) (by omega) (lo := -2147483648) (hi := 2147483647) rfl rfl (fun v111 w_112 _ _ => ?_)))))
    have nl_113 := NTr_2 q7 (A := k.toInt) (by omega) (by omega) w_112
    have z_114 := congrArg Int32.toInt nl_113
    have z_115 := x_row_v (s := sg) (r := 2) z_114
    have z_116 := x_row_v (s := sg) (r := 5) z_114
    refine to_2s (pc := 172) rw_190_172 (v := ((1 : Int64) <<< (v111.toInt64 &&& 63))) rfl (to_cl (pc := 173) rw_190_173 rfl (x := (-1 : Int64)) rfl (to_2l (pc := 176) rw_190_176 (v := (((1 : Int64) <<< (v111.toInt64 &&& 63)) ^^^ (-1 : Int64))) rfl (to_2l (pc := 177) rw_190_177 (v := (l108 &&& (((1 : Int64) <<< (v111.toInt64 &&& 63)) ^^^ (-1 : Int64)))) rfl (s_las (pc := 178) rw_190_178 hG rfl (n := 30) rfl (A := v14.toInt) rfl (by omega) (by omega) (fun M118 W117 => ?_)))))
    have hG119 := g_wl hG W117
    have F120 := FR.wl F0 W117 (show 95 ≤ 96 ∧ 96 ≤ 98 by decide)
    have kn_121 : KST M118 96 98 97 95 ca sg ((x_upL K.1 ((v14.toInt).toNat) (l108 &&& (((1 : Int64) <<< (v111.toInt64 &&& 63)) ^^^ (-1 : Int64)))), K.2.1, K.2.2.1, K.2.2.2) := KST_c q10 W117 (by decide)
    refine to_go (pc := 179) rw_190_179 (to_rv (pc := 202) rw_190_202 ?_)
    exact h M118 hG119 F120 (KST_q (x_ap_3 (by omega) (by omega) (by rw [z_110, nl_16, nl_113])) kn_121)
  · refine s_sw (pc := 13) rw_190_13 (A := v20.toInt) (k := 4) (t := 182) rfl h24 (by decide) rfl (to_an (pc := 182) rw_190_182 rfl (s_gR (pc := 183) rw_190_183 hG rfl (v := 95) rfl (to_in (pc := 186) rw_190_186 rfl (to_an (pc := 187) rw_190_187 rfl (to_in (pc := 188) rw_190_188 rfl (to_an (pc := 189) rw_190_189 rfl (s_gR (pc := 190) rw_190_190 hG rfl (v := 92) rfl (to_in (pc := 193) rw_190_193 rfl (s_ial (pc := 194) rw_190_194 hG rfl (n := 150) rfl rfl (A := k.toInt) rfl (by omega) (by omega) (lo := -2147483648) (hi := 2147483647) rfl rfl (fun v122 w_123 _ _ => ?_))))))))))
    have nl_124 := NTr_2 q7 (A := k.toInt) (by omega) (by omega) w_123
    have z_125 := congrArg Int32.toInt nl_124
    have z_126 := x_row_v (s := sg) (r := 2) z_125
    have z_127 := x_row_v (s := sg) (r := 5) z_125
    refine s_v (pc := 195) rw_190_195 (dp0 hd (by decide)) (ls0 := [.ref 77, .int v14, .int v122]) rfl (Nat.le_of_ble_eq_true rfl) (Nat.le_of_ble_eq_true rfl) rfl (to_rc rfl rfl rfl (g_o hG rfl)) rfl (to_in (pc := 0) rw_188_0 rfl (to_i2l (pc := 1) rw_188_1 (v := (v122.toInt64)) rfl (to_an (pc := 2) rw_188_2 rfl (s_gR (pc := 3) rw_188_3 hG rfl (v := 82) rfl (to_an (pc := 6) rw_188_6 rfl (s_gR (pc := 7) rw_188_7 hG rfl (v := 86) rfl (to_in (pc := 10) rw_188_10 rfl (s_ial (pc := 11) rw_188_11 hG rfl (n := 24) rfl rfl (A := v14.toInt) rfl (by omega) (by omega) (lo := 0) (hi := 7) rfl rfl (fun v128 w_129 _ _ => ?_)))))))))
    have z_130 := PLk_w q5 7 86 rfl (by decide) (by decide) (k := v14.toInt) (by omega) (by omega) w_129
    have z_131 := q5.1.2.2.2.2.2.2.1 v14.toInt (by omega) (by omega)
    refine s_ial (pc := 12) rw_188_12 hG rfl (n := 16) rfl rfl (A := v128.toInt) rfl (by omega) (by omega) (lo := 0) (hi := 59) rfl rfl (fun v132 w_133 _ _ => ?_)
    have z_134 := PLk_r q5 3 82 rfl (by decide) (by decide) (k := v128.toInt) (by omega) (by omega) w_133
    have z_135 := x_row_v (s := sg) (r := 3) (x := v128.toInt) (y := x_row sg 7 (NN.2.1 (k.toInt).toNat).toInt) (by omega)
    refine to_2s (pc := 13) rw_188_13 (v := ((v122.toInt64) <<< (v132.toInt64 &&& 63))) rfl (to_rl (pc := 14) rw_188_14 (s_las (pc := 198) rw_190_198 hG rfl (n := 12) rfl (A := v14.toInt) rfl (by omega) (by omega) (fun M137 W136 => ?_)))
    have hG138 := g_wl hG W136
    have F139 := FR.wl F0 W136 (show 95 ≤ 95 ∧ 95 ≤ 98 by decide)
    have kn_140 : KST M137 96 98 97 95 ca sg (K.1, K.2.1, K.2.2.1, (x_upL K.2.2.2 ((v14.toInt).toNat) ((v122.toInt64) <<< (v132.toInt64 &&& 63)))) := KST_d q10 W136 (by decide)
    refine to_go (pc := 199) rw_190_199 (to_rv (pc := 202) rw_190_202 ?_)
    exact h M137 hG138 F139 (KST_q (x_ap_4 (by omega) (by omega) (by rw [x_sh_e (h := x_row sg 3 (x_row sg 7 (NN.2.1 (k.toInt).toNat).toInt)) (by omega), nl_124])) kn_140)
  · refine s_swd (pc := 13) rw_190_13 (A := v20.toInt) rfl h24 (to_rv (pc := 202) rw_190_202 ?_)
    exact h M hG F0 (KST_q (x_ap_5 (by omega)) q10)
