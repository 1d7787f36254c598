set_option maxRecDepth 4000 in
set_option maxHeartbeats 0 in
theorem E_136 {X : mm_X} {d : Nat} {M : mm_M} {Q : Option Value → mm_M → Prop} {k : Int32} {f : Int32} {p : Nat} {pz : Nat} {q : Nat} {qz : Nat} {sg : x_S} {NN : x_N} {nz : Int} {ca : Int} {P9 : x_P} {n9 : Int} (hX : g_X X) (hd : 6 ≤ d) (hG : g_G M) (hp : p = 49 ∨ p = 58) (hpz : pz = 49 ∨ pz = 58) (hq : q = 67 ∨ q = 72) (hqz : qz = 67 ∨ qz = 72) (q1 : g_PQ M p pz q qz) (q2 : PLs M p sg) (q3 : CW M p sg) (q4 : g_W2 X) (q5 : NTc M NN nz) (q6 : x_vn sg ca NN nz) (q7 : (M.2.1 6 0).toInt = nz) (q8 : (M.2.1 0 12).toInt = ca) (q9 : ca ≤ 30) (q10 : PKc M P9) (q11 : x_pg P9 n9 ca) (q12 : n9 ≤ 30) (h : ∀ (r : Int32) (M1 : mm_M), g_G M1 → FR md_y M M1 → (r.toInt = x_behind sg P9 (x_kn sg NN nz.toNat) k.toInt f.toInt) → Q (some (.int r)) M1) : mm_T X d 136 0 [.ref 0, .int k, .int f] [] M Q := by
  have F0 : FR md_y M M := FR.rf
  have b_1 := g_b hG (a := 6) (i := 0) (lo := 0) (hi := 150) rfl rfl
  have b_2 := g_b hG (a := 0) (i := 12) (lo := 0) (hi := 30) rfl rfl
  have z_3 := q2.2.1
  have z_4 := q2.2.2.1
  have z_5 := q2.2.2.2.1
  have z_6 := q2.1
  have z_7 := z_6.1
  have z_8 := z_6.2.1
  have z_9 := z_6.2.2.1
  have z_10 := z_6.2.2.2.1
  have z_11 := z_6.2.2.2.2.1
  have z_12 := z_6.2.2.2.2.2.1
  have b_13 := g_b hG (a := p) (i := 2) (lo := 0) (hi := 8) (by rcases hp with rfl | rfl <;> rfl) (by rcases hp with rfl | rfl <;> rfl)
  have b_14 := g_b hG (a := p) (i := 3) (lo := 0) (hi := 12) (by rcases hp with rfl | rfl <;> rfl) (by rcases hp with rfl | rfl <;> rfl)
  refine to_in (pc := 0) rw_136_0 rfl ?_
  refine s_s (pc := 1) rw_136_1 (dp0 hd (by decide)) (ls0 := [.int k]) rfl (Nat.le_of_ble_eq_true rfl) (Nat.le_of_ble_eq_true rfl) rfl (to_rcs rfl rfl) rfl ?_
  refine to_in (pc := 0) rw_143_0 rfl ?_
  refine b_ilt (pc := 1) rw_143_1 (A := k.toInt) rfl (fun h15 => ?_) (fun h15 => ?_)
  · refine to_c (pc := 14) rw_143_14 (x := (0 : Int32)) rfl rfl ?_
    refine s_r1 (pc := 15) rw_143_15 (A := 0) rfl (by decide) ?_
    refine b_ieq_t (pc := 4) rw_136_4 (A := 0) rfl (by decide) ?_
    refine to_c (pc := 29) rw_136_29 (x := (-1 : Int32)) rfl rfl ?_
    refine to_r0 (pc := 30) rw_136_30 ?_
    have k_16 : (-1 : Int32).toInt = -1 := rfl
    have z_17 := x_behind_n (s := sg) (P := P9) (K := (x_kn sg NN nz.toNat)) (p := k.toInt) (f := f.toInt) (r := -1) (by omega) rfl
    exact h (-1 : Int32) M hG F0 (by omega)
  · refine to_in (pc := 4) rw_143_4 rfl ?_
    refine to_c (pc := 5) rw_143_5 (x := (6 : Int32)) rfl rfl ?_
    refine b_cge (pc := 7) rw_143_7 (A := k.toInt) (B := 6) rfl rfl (fun h18 => ?_) (fun h18 => ?_)
    · refine to_c (pc := 14) rw_143_14 (x := (0 : Int32)) rfl rfl ?_
      refine s_r1 (pc := 15) rw_143_15 (A := 0) rfl (by decide) ?_
      refine b_ieq_t (pc := 4) rw_136_4 (A := 0) rfl (by decide) ?_
      refine to_c (pc := 29) rw_136_29 (x := (-1 : Int32)) rfl rfl ?_
      refine to_r0 (pc := 30) rw_136_30 ?_
      have k_19 : (-1 : Int32).toInt = -1 := rfl
      have z_20 := x_behind_n (s := sg) (P := P9) (K := (x_kn sg NN nz.toNat)) (p := k.toInt) (f := f.toInt) (r := -1) (by omega) rfl
      exact h (-1 : Int32) M hG F0 (by omega)
    · refine to_c (pc := 10) rw_143_10 (x := (1 : Int32)) rfl rfl ?_
      refine to_go (pc := 11) rw_143_11 ?_
      refine s_r1 (pc := 15) rw_143_15 (A := 1) rfl (by decide) ?_
      refine b_ieq_f (pc := 4) rw_136_4 (A := 1) rfl (by decide) ?_
      refine to_an (pc := 7) rw_136_7 rfl ?_
      refine tt_gR (pc := 8) rw_136_8 (g_o hG rfl) q1.1 ?_
      refine to_in (pc := 11) rw_136_11 rfl ?_
      refine s_v (pc := 12) rw_136_12 (dp0 hd (by decide)) (ls0 := [.ref p, .int f]) rfl (Nat.le_of_ble_eq_true rfl) (Nat.le_of_ble_eq_true rfl) rfl (to_rc rfl rfl rfl (g_o hG (by rcases hp with rfl | rfl <;> rfl))) rfl ?_
      refine to_in (pc := 0) rw_43_0 rfl ?_
      refine b_ilt (pc := 1) rw_43_1 (A := f.toInt) rfl (fun h21 => ?_) (fun h21 => ?_)
      · refine to_c (pc := 16) rw_43_16 (x := (0 : Int32)) rfl rfl ?_
        refine s_r1 (pc := 17) rw_43_17 (A := 0) rfl (by decide) ?_
        refine b_ieq_t (pc := 15) rw_136_15 (A := 0) rfl (by decide) ?_
        refine to_c (pc := 29) rw_136_29 (x := (-1 : Int32)) rfl rfl ?_
        refine to_r0 (pc := 30) rw_136_30 ?_
        have k_22 : (-1 : Int32).toInt = -1 := rfl
        have z_23 := x_behind_n (s := sg) (P := P9) (K := (x_kn sg NN nz.toNat)) (p := k.toInt) (f := f.toInt) (r := -1) (by omega) rfl
        exact h (-1 : Int32) M hG F0 (by omega)
      · refine to_in (pc := 4) rw_43_4 rfl ?_
        refine to_an (pc := 5) rw_43_5 rfl ?_
        refine tt_gI (pc := 6) rw_43_6 (g_o hG (by rcases hp with rfl | rfl <;> rfl)) (v := (M.2.1 p 2)) rfl ?_
        refine b_cge (pc := 9) rw_43_9 (A := f.toInt) (B := (M.2.1 p 2).toInt) rfl rfl (fun h24 => ?_) (fun h24 => ?_)
        · refine to_c (pc := 16) rw_43_16 (x := (0 : Int32)) rfl rfl ?_
          refine s_r1 (pc := 17) rw_43_17 (A := 0) rfl (by decide) ?_
          refine b_ieq_t (pc := 15) rw_136_15 (A := 0) rfl (by decide) ?_
          refine to_c (pc := 29) rw_136_29 (x := (-1 : Int32)) rfl rfl ?_
          refine to_r0 (pc := 30) rw_136_30 ?_
          have k_25 : (-1 : Int32).toInt = -1 := rfl
          have z_26 := x_behind_n (s := sg) (P := P9) (K := (x_kn sg NN nz.toNat)) (p := k.toInt) (f := f.toInt) (r := -1) (by omega) rfl
          exact h (-1 : Int32) M hG F0 (by omega)
        · refine to_c (pc := 12) rw_43_12 (x := (1 : Int32)) rfl rfl ?_
          refine to_go (pc := 13) rw_43_13 ?_
          refine s_r1 (pc := 17) rw_43_17 (A := 1) rfl (by decide) ?_
          refine b_ieq_f (pc := 15) rw_136_15 (A := 1) rfl (by decide) ?_
          refine to_an (pc := 18) rw_136_18 rfl ?_
          refine tt_gR (pc := 19) rw_136_19 (g_o hG rfl) q1.1 ?_
          refine to_in (pc := 22) rw_136_22 rfl ?_
          refine s_v (pc := 23) rw_136_23 (dp0 hd (by decide)) (ls0 := [.ref p, .int f]) rfl (Nat.le_of_ble_eq_true rfl) (Nat.le_of_ble_eq_true rfl) rfl (to_rc rfl rfl rfl (g_o hG (by rcases hp with rfl | rfl <;> rfl))) rfl ?_
          refine to_an (pc := 0) rw_45_0 rfl ?_
          refine s_gR (pc := 1) rw_45_1 hG (by rcases hp with rfl | rfl <;> rfl) (v := (p + 2)) (by rcases hp with rfl | rfl <;> rfl) ?_
          refine to_in (pc := 4) rw_45_4 rfl ?_
          refine s_ial (pc := 5) rw_45_5 hG (by rcases hp with rfl | rfl <;> rfl) (n := 8) (by rcases hp with rfl | rfl <;> rfl) (by rcases hp with rfl | rfl <;> rfl) (A := f.toInt) rfl (by omega) (by omega) (lo := 0) (hi := 3) (by rcases hp with rfl | rfl <;> rfl) (by rcases hp with rfl | rfl <;> rfl) (fun v27 w_28 _ _ => ?_)
          have z_29 := PLs_r q2 2 (by decide) (by decide) (k := f.toInt) (by omega) (by omega) w_28
          have z_30 := x_row_v (s := sg) (r := 2) (x := f.toInt) (y := f.toInt) (by omega)
          refine to_c (pc := 6) rw_45_6 (x := (3 : Int32)) rfl rfl ?_
          refine b_cne (pc := 7) rw_45_7 (A := v27.toInt) (B := 3) rfl rfl (fun h31 => ?_) (fun h31 => ?_)
          · refine to_c (pc := 14) rw_45_14 (x := (0 : Int32)) rfl rfl ?_
            refine s_r1 (pc := 15) rw_45_15 (A := 0) rfl (by decide) ?_
            refine b_ieq_t (pc := 26) rw_136_26 (A := 0) rfl (by decide) ?_
            refine to_an (pc := 31) rw_136_31 rfl ?_
            refine s_v (pc := 32) rw_136_32 (dp0 hd (by decide)) (ls0 := [.ref 0]) rfl (Nat.le_of_ble_eq_true rfl) (Nat.le_of_ble_eq_true rfl) rfl (to_rc rfl rfl rfl (g_o hG rfl)) rfl ?_
            refine to_an (pc := 0) rw_142_0 rfl ?_
            refine s_gR (pc := 1) rw_142_1 hG rfl (v := 11) rfl ?_
            refine to_an (pc := 4) rw_142_4 rfl ?_
            refine tt_gR (pc := 5) rw_142_5 (g_o hG rfl) q1.1 ?_
            refine to_an (pc := 8) rw_142_8 rfl ?_
            refine s_gR (pc := 9) rw_142_9 hG rfl (v := 6) rfl ?_
            refine to_an (pc := 12) rw_142_12 rfl ?_
            refine s_gR (pc := 13) rw_142_13 hG rfl (v := 6) rfl ?_
            refine tt_gI (pc := 16) rw_142_16 (g_o hG rfl) (v := (M.2.1 6 0)) rfl ?_
            refine s_v (pc := 19) rw_142_19 (dp1 hd (by decide)) (ls0 := [.ref 11, .ref p, .ref 6, .int (M.2.1 6 0), .null]) rfl (Nat.le_of_ble_eq_true rfl) (Nat.le_of_ble_eq_true rfl) rfl (to_rc rfl rfl rfl (g_o hG rfl)) rfl ?_
            refine E_8 hX (dp2 hd (by decide)) hG hp (by omega) (by omega) (by omega) q3 q2 q4 q5 q6 (by omega) (p := p) (n := (M.2.1 6 0)) (sg := sg) (NN := NN) (nz := nz) (ca := ca) (fun M35 hG33 F32 p_34 => ?_)
            have F36 := FR.c F0 F32 (fun a i z => show 11 ≤ a ∧ a ≤ 16 ∨ a = 27 ∨ 36 ≤ a ∧ a ≤ 48 by have z : 11 ≤ a ∧ a ≤ 16 := z; omega)
            have z_37 := KST_nv (show (M.2.1 6 0).toInt = nz by omega) p_34
            refine to_rv (pc := 22) rw_142_22 ?_
            refine to_an (pc := 35) rw_136_35 rfl ?_
            refine s_gR (pc := 36) rw_136_36 hG33 rfl (v := 42) rfl ?_
            refine to_an (pc := 39) rw_136_39 rfl ?_
            refine s_gR (pc := 40) rw_136_40 hG33 rfl (v := 17) rfl ?_
            refine to_in (pc := 43) rw_136_43 rfl ?_
            refine to_an (pc := 44) rw_136_44 rfl ?_
            have j_38 := (PQ_f F32 q1)
            refine tt_gR (pc := 45) rw_136_45 (g_o hG33 rfl) j_38.1 ?_
            refine to_an (pc := 48) rw_136_48 rfl ?_
            refine s_gR (pc := 49) rw_136_49 hG33 rfl (v := 11) rfl ?_
            refine to_in (pc := 52) rw_136_52 rfl ?_
            refine s_v (pc := 53) rw_136_53 (dp0 hd (by decide)) (ls0 := [.ref 42, .ref 17, .int k, .ref p, .ref 11, .int f, .null, .null]) rfl (Nat.le_of_ble_eq_true rfl) (Nat.le_of_ble_eq_true rfl) rfl (to_rc rfl rfl rfl (g_o hG33 rfl)) rfl ?_
            have z_39 := x_pg_le (p := k.toInt) q11 (by omega) (by omega)
            have j_40 := (PLs_f (fun a i z => F_n F32 (show ¬ (11 ≤ a ∧ a ≤ 16) by omega) rfl) q2)
            have j_41 := (PKc_f (fun a i z => F_n F32 (show ¬ (11 ≤ a ∧ a ≤ 16) by omega) rfl) q10)
            refine E_69 hX (dp1 hd (by decide)) hG33 hp (by omega) (by omega) (by omega) (by omega) j_40 z_37 j_41 q11 (by omega) (by omega) (k := k) (p := p) (f := f) (sg := sg) (ca := ca) (K := (x_kn sg NN nz.toNat)) (P9 := P9) (n9 := n9) (fun M46 hG43 F42 p_44 p_45 => ?_)
            have F47 := FR.c F36 F42 (fun a i z => show 11 ≤ a ∧ a ≤ 16 ∨ a = 27 ∨ 36 ≤ a ∧ a ≤ 48 by have z : 42 ≤ a ∧ a ≤ 44 := z; omega)
            have b_48 := g_b hG43 (a := 42) (i := 0) (lo := 0) (hi := 30) rfl rfl
            refine to_an (pc := 56) rw_136_56 rfl ?_
            refine s_gR (pc := 57) rw_136_57 hG43 rfl (v := 42) rfl ?_
            refine s_v (pc := 60) rw_136_60 (dp0 hd (by decide)) (ls0 := [.ref 42, .null, .null, .null]) rfl (Nat.le_of_ble_eq_true rfl) (Nat.le_of_ble_eq_true rfl) rfl (to_rc rfl rfl rfl (g_o hG43 rfl)) rfl ?_
            have z_49 := x_pg_le (p := k.toInt) q11 (by omega) (by omega)
            refine E_70 hX (dp1 hd (by decide)) hG43 (by omega) (by omega) (by omega) p_45 (V9 := (x_bv (x_kn sg NN nz.toNat) (P9.1 k.toInt) f.toInt)) (s9 := (P9.2 k.toInt)) (fun r50 M54 hG52 F51 p_53 => ?_)
            have F55 := FR.c F47 F51 (fun a i z => show 11 ≤ a ∧ a ≤ 16 ∨ a = 27 ∨ 36 ≤ a ∧ a ≤ 48 by have z : a = 45 := z; omega)
            refine to_r0 (pc := 63) rw_136_63 ?_
            have z_56 := x_behind_y (s := sg) (P := P9) (K := (x_kn sg NN nz.toNat)) (p := k.toInt) (f := f.toInt) (r := r50.toInt) (by omega) (by omega)
            exact h r50 M54 hG52 F55 (by omega)
          · refine to_c (pc := 10) rw_45_10 (x := (1 : Int32)) rfl rfl ?_
            refine to_go (pc := 11) rw_45_11 ?_
            refine s_r1 (pc := 15) rw_45_15 (A := 1) rfl (by decide) ?_
            refine b_ieq_f (pc := 26) rw_136_26 (A := 1) rfl (by decide) ?_
            refine to_c (pc := 29) rw_136_29 (x := (-1 : Int32)) rfl rfl ?_
            refine to_r0 (pc := 30) rw_136_30 ?_
            have k_57 : (-1 : Int32).toInt = -1 := rfl
            have z_58 := x_behind_n (s := sg) (P := P9) (K := (x_kn sg NN nz.toNat)) (p := k.toInt) (f := f.toInt) (r := -1) (by omega) rfl
            exact h (-1 : Int32) M hG F0 (by omega)
