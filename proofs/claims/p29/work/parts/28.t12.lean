theorem tg_225 {M M1 : mm_M} (F : FR (fun a i : Nat => a = 1 ∨ 3 ≤ a ∧ a ≤ 5) M M1) : ∀ a i : Nat, (7 ≤ a ∧ a ≤ 10) → M1.2.1 a i = M.2.1 a i := fun a i z => F_n F (show ¬ (a = 1 ∨ 3 ≤ a ∧ a ≤ 5) by omega) rfl
theorem tg_226 {M M1 : mm_M} (F : FR (fun a i : Nat => 11 ≤ a ∧ a ≤ 16) M M1) : ∀ a i : Nat, (a = 1 ∧ 5 ≤ i ∧ i ≤ 9 ∨ 3 ≤ a ∧ a ≤ 5) → M1.2.1 a i = M.2.1 a i := fun a i z => F_n F (show ¬ (11 ≤ a ∧ a ≤ 16) by omega) rfl
theorem tg_227 : ∀ a i : Nat, (a = 1 ∨ 3 ≤ a ∧ a ≤ 5) → (a = 1 ∨ 3 ≤ a ∧ a ≤ 5 ∨ 11 ≤ a ∧ a ≤ 16 ∨ 18 ≤ a ∧ a ≤ 48) := fun a i z => by omega
theorem tg_228 : ∀ a i : Nat, (11 ≤ a ∧ a ≤ 16) → (a = 1 ∨ 3 ≤ a ∧ a ≤ 5 ∨ 11 ≤ a ∧ a ≤ 16 ∨ 18 ≤ a ∧ a ≤ 48) := fun a i z => by omega
theorem tg_229 : ∀ a i : Nat, (a = 1 ∧ 6 ≤ i ∧ i ≤ 11 ∨ 28 ≤ a ∧ a ≤ 35) → (a = 1 ∨ 3 ≤ a ∧ a ≤ 5 ∨ 11 ≤ a ∧ a ≤ 16 ∨ 18 ≤ a ∧ a ≤ 48) := fun a i z => by omega
theorem tg_230 : ∀ a i : Nat, (a = 27) → (a = 1 ∨ 3 ≤ a ∧ a ≤ 5 ∨ 11 ≤ a ∧ a ≤ 16 ∨ 18 ≤ a ∧ a ≤ 48) := fun a i z => by omega
theorem tg_231 : ∀ a i : Nat, (a = 28 ∧ 8 ≤ i ∧ i ≤ 10 ∨ 19 ≤ a ∧ a ≤ 26) → (a = 1 ∨ 3 ≤ a ∧ a ≤ 5 ∨ 11 ≤ a ∧ a ≤ 16 ∨ 18 ≤ a ∧ a ≤ 48) := fun a i z => by omega
set_option maxRecDepth 4000 in
set_option maxHeartbeats 0 in
theorem E_112 {X : mm_X} {d : Nat} {M : mm_M} {Q : Option Value → mm_M → Prop} {n : Int32} {p : Nat} {pz : Nat} {q : Nat} {qz : Nat} {t : Nat → Int} {nn : Int} {sg : x_S} {NN : x_N} {nz : Int} {ca : Int} {P9 : x_P} {ov : Int32} (hX : g_X X) (hd : 22 ≤ d) (hG : g_G M) (hp : p = 49 ∨ p = 58) (hpz : pz = 49 ∨ pz = 58) (hq : q = 67 ∨ q = 72) (hqz : qz = 67 ∨ qz = 72) (q1 : g_PQ M p pz q qz) (q2 : 0 ≤ n.toInt ∧ n.toInt ≤ (M.2.1 1 1).toInt → n.toInt = nn) (q3 : TT M t nn) (q4 : g_W X) (q5 : PLs M p sg) (q6 : CW M p sg) (q7 : g_W2 X) (q8 : NTc M NN nz) (q9 : x_vn sg ca NN nz) (q10 : (M.2.1 6 0).toInt = nz) (q11 : (M.2.1 0 12).toInt = ca) (q12 : ca ≤ 30) (q13 : M.2.1 17 4 = ov) (q14 : PKc M P9) (q15 : x_pg P9 ca ca) (q16 : x_G8 sg ∧ x_v8 sg NN nz) (h : ∀ (r : Int32) (M1 : mm_M), g_G M1 → FR md_X2 M M1 → (n.toInt < 0 ∨ (M.2.1 1 1).toInt < n.toInt → r.toInt = -2) → (-2 ≤ r.toInt) → ((r.toInt < 0 → PKc M1 P9)) → ((0 ≤ n.toInt ∧ n.toInt ≤ (M.2.1 1 1).toInt → ∃ P1 : x_P, PKc M1 P1 ∧ x_pg P1 ca ca ∧ WAN (fun A => x_U (x_DD t nn sg (x_kn sg NN nz.toNat).2.2.2) (x_dt (x_kn sg NN nz.toNat) ov sg.1) A) P9 (x_ww t nn sg 0 0 [] x_A0 (x_sk t nn 0)) r.toInt (M1.2.1 28 8).toInt ((M1.2.1 28 9).toInt, P1))) → Q (some (.int r)) M1) : mm_T X d 112 0 [.ref 0, .int n] [] M Q := by
  have F0 : FR md_X2 M M := FR.rf
  have b_1 := g_b hG (a := 1) (i := 1) (lo := 0) (hi := 500) rfl rfl
  have b_2 := g_b hG (a := 6) (i := 0) (lo := 0) (hi := 150) rfl rfl
  have b_3 := g_b hG (a := 0) (i := 12) (lo := 0) (hi := 30) rfl rfl
  have z_4 := q5.2.1
  have z_5 := q5.2.2.1
  have z_6 := q5.2.2.2.1
  have z_7 := q5.1
  have z_8 := z_7.1
  have z_9 := z_7.2.1
  have z_10 := z_7.2.2.1
  have z_11 := z_7.2.2.2.1
  have z_12 := z_7.2.2.2.2.1
  have z_13 := z_7.2.2.2.2.2.1
  have b_14 := g_b hG (a := p) (i := 2) (lo := 0) (hi := 8) (by rcases hp with rfl | rfl <;> rfl) (by rcases hp with rfl | rfl <;> rfl)
  have b_15 := g_b hG (a := p) (i := 3) (lo := 0) (hi := 12) (by rcases hp with rfl | rfl <;> rfl) (by rcases hp with rfl | rfl <;> rfl)
  refine to_an (pc := 0) rw_112_0 rfl ?_
  refine s_gR (pc := 1) rw_112_1 hG rfl (v := 1) rfl ?_
  refine to_in (pc := 4) rw_112_4 rfl ?_
  refine s_v (pc := 5) rw_112_5 (dp0 hd (by decide)) (ls0 := [.ref 1, .int n]) rfl (Nat.le_of_ble_eq_true rfl) (Nat.le_of_ble_eq_true rfl) rfl (to_rc rfl rfl rfl (g_o hG rfl)) rfl ?_
  refine E_78 hX (dp1 hd (by decide)) hG (by omega) q3 q4 (n := n) (fun r16 M24 hG18 F17 p_19 p_20 p_21 p_22 p_23 => ?_)
  have F25 := FR.c F0 F17 tg_227
  have b_26 := g_b hG18 (a := 1) (i := 1) (lo := 0) (hi := 500) rfl rfl
  rcases (show r16.toInt = 0 ∨ r16.toInt = 1 by omega) with h27 | h27
  · skip
    clear p_23
    refine b_ine_f (pc := 8) rw_112_8 (A := r16.toInt) rfl (by omega) ?_
    refine to_c (pc := 11) rw_112_11 (x := (-2 : Int32)) rfl rfl ?_
    refine to_r0 (pc := 13) rw_112_13 ?_
    have k_28 : (-2 : Int32).toInt = -2 := rfl
    have j_29 := (PKc_f (fun a i z => F_n F17 (show ¬ (a = 1 ∨ 3 ≤ a ∧ a ≤ 5) by omega) rfl) q14)
    exact h (-2 : Int32) M24 hG18 F25 (by omega) (by omega) (fun _ => j_29) (fun z => by exfalso; omega)
  · skip
    have p_30 := p_23 (by omega)
    clear p_23
    have z_31 := p_30.2
    refine b_ine_t (pc := 8) rw_112_8 (A := r16.toInt) rfl (by omega) ?_
    refine to_an (pc := 14) rw_112_14 rfl ?_
    refine s_v (pc := 15) rw_112_15 (dp0 hd (by decide)) (ls0 := [.ref 0]) rfl (Nat.le_of_ble_eq_true rfl) (Nat.le_of_ble_eq_true rfl) rfl (to_rc rfl rfl rfl (g_o hG18 rfl)) rfl ?_
    refine to_an (pc := 0) rw_142_0 rfl ?_
    refine s_gR (pc := 1) rw_142_1 hG18 rfl (v := 11) rfl ?_
    refine to_an (pc := 4) rw_142_4 rfl ?_
    have j_32 := (PQ_f F17 q1)
    refine tt_gR (pc := 5) rw_142_5 (g_o hG18 rfl) j_32.1 ?_
    refine to_an (pc := 8) rw_142_8 rfl ?_
    refine s_gR (pc := 9) rw_142_9 hG18 rfl (v := 6) rfl ?_
    refine to_an (pc := 12) rw_142_12 rfl ?_
    refine s_gR (pc := 13) rw_142_13 hG18 rfl (v := 6) rfl ?_
    have c_33 : M24.2.1 6 0 = (M.2.1 6 0) := (F_n F17 (show ¬ (6 = 1 ∨ 3 ≤ 6 ∧ 6 ≤ 5) by decide) rfl)
    refine tt_gI (pc := 16) rw_142_16 (g_o hG18 rfl) (v := (M.2.1 6 0)) c_33 ?_
    refine s_v (pc := 19) rw_142_19 (dp1 hd (by decide)) (ls0 := [.ref 11, .ref p, .ref 6, .int (M.2.1 6 0), .null]) rfl (Nat.le_of_ble_eq_true rfl) (Nat.le_of_ble_eq_true rfl) rfl (to_rc rfl rfl rfl (g_o hG18 rfl)) rfl ?_
    have j_34 := (CW_f (fun k hk9 => F_nl F17 (show ¬ ((p + 8) = 1 ∨ 3 ≤ (p + 8) ∧ (p + 8) ≤ 5) by omega) rfl) q6)
    have j_35 := (PLs_f (fun a i z => F_n F17 (show ¬ (a = 1 ∨ 3 ≤ a ∧ a ≤ 5) by omega) rfl) q5)
    have j_36 := (NTc_f (tg_225 F17) q8)
    refine E_8 hX (dp2 hd (by decide)) hG18 hp (by omega) (by omega) (by omega) j_34 j_35 q7 j_36 q9 (by omega) (p := p) (n := (M.2.1 6 0)) (sg := sg) (NN := NN) (nz := nz) (ca := ca) (fun M40 hG38 F37 p_39 => ?_)
    have F41 := FR.c F25 F37 tg_228
    have z_42 := (KST_nv (show (M.2.1 6 0).toInt = nz by omega) p_39)
    refine to_rv (pc := 22) rw_142_22 ?_
    refine to_an (pc := 18) rw_112_18 rfl ?_
    refine s_gR (pc := 19) rw_112_19 hG38 rfl (v := 28) rfl ?_
    refine to_an (pc := 22) rw_112_22 rfl ?_
    refine s_gR (pc := 23) rw_112_23 hG38 rfl (v := 1) rfl ?_
    refine to_an (pc := 26) rw_112_26 rfl ?_
    have j_43 := (PQ_f F37 j_32)
    refine tt_gR (pc := 27) rw_112_27 (g_o hG38 rfl) j_43.1 ?_
    refine to_an (pc := 30) rw_112_30 rfl ?_
    refine s_gR (pc := 31) rw_112_31 hG38 rfl (v := 11) rfl ?_
    refine s_v (pc := 34) rw_112_34 (dp0 hd (by decide)) (ls0 := [.ref 28, .ref 1, .ref p, .ref 11]) rfl (Nat.le_of_ble_eq_true rfl) (Nat.le_of_ble_eq_true rfl) rfl (to_rc rfl rfl rfl (g_o hG38 rfl)) rfl ?_
    have j_44 := (CS_f (tg_226 F37) p_30.1)
    have c_45 : M40.2.1 1 9 = (M24.2.1 1 9) := (F_n F37 (show ¬ (11 ≤ 1 ∧ 1 ≤ 16) by decide) rfl)
    have t_46 : (M40.2.1 1 9).toInt = (M24.2.1 1 9).toInt := congrArg Int32.toInt c_45
    have j_47 := (PLs_f (fun a i z => F_n F37 (show ¬ (11 ≤ a ∧ a ≤ 16) by omega) rfl) j_35)
    refine E_98 hX (dp1 hd (by decide)) hG38 hp j_44 (by omega) j_47 (fun w hw => z_42.2 w hw) (by omega) (p := p) (t := t) (nn := nn) (a := (x_sk t nn 0)) (sg := sg) (C9 := (x_kn sg NN nz.toNat).2.2.2) (fun r48 M56 hG50 F49 p_51 p_52 p_53 p_54 p_55 => ?_)
    have F57 := FR.c F41 F49 tg_229
    rcases (show r48.toInt = 0 ∨ r48.toInt = 1 by omega) with h58 | h58
    · skip
      have p_59 := p_55 (by omega)
      clear p_54 p_55
      refine b_ine_f (pc := 37) rw_112_37 (A := r48.toInt) rfl (by omega) ?_
      refine to_c (pc := 40) rw_112_40 (x := (-1 : Int32)) rfl rfl ?_
      refine to_r0 (pc := 41) rw_112_41 ?_
      have k_60 : (-1 : Int32).toInt = -1 := rfl
      have j_61 := (PKc_f (fun a i z => F_n F49 (show ¬ (a = 1 ∧ 6 ≤ i ∧ i ≤ 11 ∨ 28 ≤ a ∧ a ≤ 35) by omega) rfl) (PKc_f (fun a i z => F_n F37 (show ¬ (11 ≤ a ∧ a ≤ 16) by omega) rfl) (PKc_f (fun a i z => F_n F17 (show ¬ (a = 1 ∨ 3 ≤ a ∧ a ≤ 5) by omega) rfl) q14)))
      exact h (-1 : Int32) M56 hG50 F57 (by omega) (by omega) (fun _ => j_61) (fun _ => ⟨P9, j_61, q15, Or.inl ⟨_, _, p_59, rfl⟩⟩)
    · skip
      have p_62 := p_54 (by omega)
      clear p_54 p_55
      obtain ⟨B2, b_i1, b_i2, b_i3⟩ := p_62
      have b_63 := g_b hG50 (a := 28) (i := 7) (lo := 0) (hi := 40) rfl rfl
      refine b_ine_t (pc := 37) rw_112_37 (A := r48.toInt) rfl (by omega) ?_
      refine to_an (pc := 42) rw_112_42 rfl ?_
      refine s_gR (pc := 43) rw_112_43 hG50 rfl (v := 17) rfl ?_
      refine to_an (pc := 46) rw_112_46 rfl ?_
      refine s_gR (pc := 47) rw_112_47 hG50 rfl (v := 11) rfl ?_
      refine to_an (pc := 50) rw_112_50 rfl ?_
      have j_64 := (PQ_f F49 j_43)
      refine tt_gR (pc := 51) rw_112_51 (g_o hG50 rfl) j_64.1 ?_
      have c_65 : M56.2.1 p 0 = (M.2.1 p 0) := (F_n F49 (show ¬ (p = 1 ∧ 6 ≤ 0 ∧ 0 ≤ 11 ∨ 28 ≤ p ∧ p ≤ 35) by omega) (F_n F37 (show ¬ (11 ≤ p ∧ p ≤ 16) by omega) (F_n F17 (show ¬ (p = 1 ∨ 3 ≤ p ∧ p ≤ 5) by omega) rfl)))
      have b_66 := g_b hG (a := p) (i := 0) (lo := 10) (hi := 60) (by rcases hp with rfl | rfl <;> rfl) (by rcases hp with rfl | rfl <;> rfl)
      refine tt_gI (pc := 54) rw_112_54 (g_o hG50 (by rcases hp with rfl | rfl <;> rfl)) (v := (M.2.1 p 0)) c_65 ?_
      refine s_v (pc := 57) rw_112_57 (dp0 hd (by decide)) (ls0 := [.ref 17, .ref 11, .int (M.2.1 p 0), .null, .null]) rfl (Nat.le_of_ble_eq_true rfl) (Nat.le_of_ble_eq_true rfl) rfl (to_rc rfl rfl rfl (g_o hG50 rfl)) rfl ?_
      have kn_67 : KST M56 12 13 14 15 ca sg (x_kn sg NN nz.toNat) := KST_f (fun i => (F_nl F49 (show ¬ (12 = 1 ∧ 6 ≤ i ∧ i ≤ 11 ∨ 28 ≤ 12 ∧ 12 ≤ 35) by omega) rfl)) (fun i => (F_n F49 (show ¬ (13 = 1 ∧ 6 ≤ i ∧ i ≤ 11 ∨ 28 ≤ 13 ∧ 13 ≤ 35) by omega) rfl)) (fun i => (F_n F49 (show ¬ (14 = 1 ∧ 6 ≤ i ∧ i ≤ 11 ∨ 28 ≤ 14 ∧ 14 ≤ 35) by omega) rfl)) (fun i => (F_nl F49 (show ¬ (15 = 1 ∧ 6 ≤ i ∧ i ≤ 11 ∨ 28 ≤ 15 ∧ 15 ≤ 35) by omega) rfl)) z_42
      refine E_24 hX (dp1 hd (by decide)) hG50 (by omega) (by omega) kn_67 (y := (M.2.1 p 0)) (sg := sg) (ca := ca) (K := (x_kn sg NN nz.toNat)) (fun M71 hG69 F68 p_70 => ?_)
      have F72 := FR.c F57 F68 tg_230
      refine to_an (pc := 60) rw_112_60 rfl ?_
      refine s_gR (pc := 61) rw_112_61 hG69 rfl (v := 28) rfl ?_
      refine to_an (pc := 64) rw_112_64 rfl ?_
      refine s_gR (pc := 65) rw_112_65 hG69 rfl (v := 17) rfl ?_
      refine s_v (pc := 68) rw_112_68 (dp0 hd (by decide)) (ls0 := [.ref 28, .ref 17]) rfl (Nat.le_of_ble_eq_true rfl) (Nat.le_of_ble_eq_true rfl) rfl (to_rc rfl rfl rfl (g_o hG69 rfl)) rfl ?_
      have c_73 : M71.2.1 28 7 = (M56.2.1 28 7) := (F_n F68 (show ¬ (28 = 27) by decide) rfl)
      have t_74 : (M71.2.1 28 7).toInt = (M56.2.1 28 7).toInt := congrArg Int32.toInt c_73
      have j_75 := (PKc_f (fun a i z => F_n F68 (show ¬ (a = 27) by omega) rfl) (PKc_f (fun a i z => F_n F49 (show ¬ (a = 1 ∧ 6 ≤ i ∧ i ≤ 11 ∨ 28 ≤ a ∧ a ≤ 35) by omega) rfl) (PKc_f (fun a i z => F_n F37 (show ¬ (11 ≤ a ∧ a ≤ 16) by omega) rfl) (PKc_f (fun a i z => F_n F17 (show ¬ (a = 1 ∨ 3 ≤ a ∧ a ≤ 5) by omega) rfl) q14))))
      have j_76 := (PLs_f (fun a i z => F_n F68 (show ¬ (a = 27) by omega) rfl) (PLs_f (fun a i z => F_n F49 (show ¬ (a = 1 ∧ 6 ≤ i ∧ i ≤ 11 ∨ 28 ≤ a ∧ a ≤ 35) by omega) rfl) j_47))
      refine E_106 hX (dp1 hd (by decide)) hG69 (by omega) (by omega) (WKc_f (fun a i z => (F_n F68 (show ¬ (a = 27) by omega) rfl)) (fun i => (F_nl F68 (show ¬ (33 = 27) by decide) rfl)) b_i1) b_i3 (by omega) (by omega) (by omega) (by omega) j_75 q15 (PLC_c (((F_n F68 (show ¬ (17 = 27) by decide) (F_n F49 (show ¬ (17 = 1 ∧ 6 ≤ 4 ∧ 4 ≤ 11 ∨ 28 ≤ 17 ∧ 17 ≤ 35) by decide) (F_n F37 (show ¬ (11 ≤ 17 ∧ 17 ≤ 16) by decide) (F_n F17 (show ¬ (17 = 1 ∨ 3 ≤ 17 ∧ 17 ≤ 5) by decide) rfl))))).trans q13) (by omega) p_70) (gd_K j_76.1 q16 q9 (by omega) (by omega) b_i2) (A9 := B2) (n9 := (M56.2.1 28 7).toInt) (D9 := (x_DD t nn sg (x_kn sg NN nz.toNat).2.2.2)) (P9 := P9) (K := (x_kn sg NN nz.toNat)) (ca := ca) (ov := ov) (ho := sg.1) (m9 := ca) (fun r77 M83 hG79 F78 p_80 p_81 p_82 => ?_)
      have F84 := FR.c F72 F78 tg_231
      obtain ⟨Pc, pc1, pc2, pc3⟩ := p_82
      refine b_ieq (pc := 71) rw_112_71 (A := r77.toInt) rfl (fun h85 => ?_) (fun h85 => ?_)
      · refine to_c (pc := 78) rw_112_78 (x := (1 : Int32)) rfl rfl ?_
        refine to_r0 (pc := 79) rw_112_79 ?_
        have k_86 : (1 : Int32).toInt = 1 := rfl
        exact h (1 : Int32) M83 hG79 F84 (by omega) (by omega) (fun z => by exfalso; omega) (fun _ => ⟨Pc, pc1, pc2, Or.inr ⟨_, _, b_i2, RUN_r3 (by omega) (by omega) pc3⟩⟩)
      · refine to_c (pc := 74) rw_112_74 (x := (0 : Int32)) rfl rfl ?_
        refine to_go (pc := 75) rw_112_75 ?_
        refine to_r0 (pc := 79) rw_112_79 ?_
        have k_87 : (0 : Int32).toInt = 0 := rfl
        exact h (0 : Int32) M83 hG79 F84 (by omega) (by omega) (fun z => by exfalso; omega) (fun _ => ⟨Pc, pc1, pc2, Or.inr ⟨_, _, b_i2, RUN_r3 (by omega) (by omega) pc3⟩⟩)
