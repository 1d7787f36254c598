theorem tg_223 : ∀ a i : Nat, (a = 28 ∧ 8 ≤ i ∧ i ≤ 10 ∨ 19 ≤ a ∧ a ≤ 26) → (a = 28 ∧ 8 ≤ i ∧ i ≤ 10 ∨ 19 ≤ a ∧ a ≤ 26) := fun a i z => by omega
theorem tg_224 : ∀ a i : Nat, (19 ≤ a ∧ a ≤ 26) → (a = 28 ∧ 8 ≤ i ∧ i ≤ 10 ∨ 19 ≤ a ∧ a ≤ 26) := fun a i z => by omega
noncomputable def RE_107 (k : Int) : Prop := ∀ (X : mm_X) (d : Nat) (M : mm_M) (Q : Option Value → mm_M → Prop) (f : Int32) (t : Int32) (o : Int32) (A9 : x_A) (n9 : Int) (k9 : List (Int × Int)) (D9 : Int → x_D) (P9 : x_P) (K : x_Kn) (ca : Int) (ov : Int32) (ho : Int) (m9 : Int), g_X X → (3 + 2 * (6 - o.toInt) ≤ (d : Int)) → g_G M → (0 ≤ f.toInt) → (f.toInt ≤ 40) → (t.toInt ≤ n9) → (n9 ≤ 40) → (0 ≤ o.toInt) → (o.toInt ≤ 5) → ((M.2.1 28 10).toInt = 0) → ((M.2.1 28 9).toInt ≤ (M.2.1 28 8).toInt) → (WKc D9 M A9 n9 []) → (x_ec A9 n9 k9 t.toInt) → (BLKX A9 f.toInt t.toInt o.toInt) → (ca ≤ 30) → (m9 ≤ 30) → (0 ≤ ho) → (ho ≤ 60) → PKc M P9 → (x_pg P9 m9 ca) → (PLC M K ov ho ca 30) → (GDA D9 ho A9 n9) → 6 - o.toInt < k → (∀ (M1 : mm_M), g_G M1 → FR md_wd M M1 → (0 ≤ (M1.2.1 28 10).toInt) → ((M1.2.1 28 10).toInt ≤ 1) → ((M1.2.1 28 9).toInt ≤ (M1.2.1 28 8).toInt) → (∃ P1 : x_P, PKc M1 P1 ∧ x_pg P1 m9 ca ∧ ((M1.2.1 28 10).toInt = 0 → ∀ R9 : x_DR, RUN A9 (x_U D9 (x_dt K ov ho) A9) n9 (t.toInt, k9, (M1.2.1 28 8).toInt, ((M1.2.1 28 9).toInt, P1)) R9 → RUN A9 (x_U D9 (x_dt K ov ho) A9) n9 (f.toInt, k9, (M.2.1 28 8).toInt, ((M.2.1 28 9).toInt, P9)) R9) ∧ (¬ (M1.2.1 28 10).toInt = 0 → RUN A9 (x_U D9 (x_dt K ov ho) A9) n9 (f.toInt, k9, (M.2.1 28 8).toInt, ((M.2.1 28 9).toInt, P9)) (1, (M1.2.1 28 8).toInt, ((M1.2.1 28 9).toInt, P1)))) → Q (none) M1) → mm_T X d 107 0 [.ref 28, .ref 17, .int f, .int t, .int o, .null] [] M Q
set_option maxRecDepth 4000 in
set_option maxHeartbeats 0 in
theorem U_108_0 {X : mm_X} {d : Nat} {M : mm_M} {Q : Option Value → mm_M → Prop} {s : Int32} {o : Int32} {A9 : x_A} {n9 : Int} {k9 : List (Int × Int)} {D9 : Int → x_D} {P9 : x_P} {K : x_Kn} {ca : Int} {ov : Int32} {ho : Int} {m9 : Int} {t9 : Int} (hX : g_X X) (hd : 2 + 2 * (6 - o.toInt) ≤ (d : Int)) (q1 : 0 ≤ s.toInt) (q2 : s.toInt ≤ 39) (q3 : 0 ≤ o.toInt) (q4 : o.toInt ≤ 5) (q5 : (M.2.1 28 10).toInt = 0) (q6 : s.toInt < t9) (q7 : t9 ≤ n9) (q8 : n9 ≤ 40) (q9 : ¬ (M.2.1 28 8).toInt = 3001) (q10 : (M.2.1 28 9).toInt + 1 ≤ (M.2.1 28 8).toInt) (q11 : WKc D9 M A9 n9 []) (q12 : x_ec A9 n9 k9 t9) (q13 : BLKX A9 s.toInt t9 o.toInt) (q14 : ca ≤ 30) (q15 : m9 ≤ 30) (q16 : 0 ≤ ho) (q17 : ho ≤ 60) (q18 : PKc M P9) (q19 : x_pg P9 m9 ca) (q20 : PLC M K ov ho ca 30) (q21 : GDA D9 ho A9 n9) (hr : RE_107 (6 - o.toInt)) (h : ∀ (M1 : mm_M), g_G M1 → FR md_wd M M1 → (0 ≤ (M1.2.1 28 10).toInt) → ((M1.2.1 28 10).toInt ≤ 1) → ((M1.2.1 28 9).toInt ≤ (M1.2.1 28 8).toInt) → (∃ P1 : x_P, PKc M1 P1 ∧ x_pg P1 m9 ca ∧ ((M1.2.1 28 10).toInt = 0 → ∀ R9 : x_DR, RUN A9 (x_U D9 (x_dt K ov ho) A9) n9 (A9.2.2 (s.toInt).toNat, k9, (M1.2.1 28 8).toInt, ((M1.2.1 28 9).toInt, P1)) R9 → RUN A9 (x_U D9 (x_dt K ov ho) A9) n9 (s.toInt, k9, (M.2.1 28 8).toInt - 1, ((M.2.1 28 9).toInt, P9)) R9) ∧ (¬ (M1.2.1 28 10).toInt = 0 → RUN A9 (x_U D9 (x_dt K ov ho) A9) n9 (s.toInt, k9, (M.2.1 28 8).toInt - 1, ((M.2.1 28 9).toInt, P9)) (1, (M1.2.1 28 8).toInt, ((M1.2.1 28 9).toInt, P1)))) → Q (none) M1) : ∀ nn9 : Nat, (∀ (N : mm_M) (x4 : Int32), g_G N → FR md_wd M N → (0 ≤ x4.toInt) → (x4.toInt ≤ 99) → (0 ≤ s.toInt) → (s.toInt ≤ 39) → (o.toInt = o.toInt) → (0 ≤ o.toInt) → (o.toInt ≤ 5) → (x4.toInt ≤ A9.2.1 (s.toInt).toNat) → ((N.2.1 28 9).toInt ≤ (N.2.1 28 8).toInt) → (WKc D9 N A9 n9 []) → (PLC N K ov ho ca 30) → (0 ≤ (N.2.1 28 10).toInt) → ((N.2.1 28 10).toInt ≤ 1) → (A9.1 (s.toInt).toNat = 2) → (∃ P1 : x_P, PKc N P1 ∧ x_pg P1 m9 ca ∧ ((N.2.1 28 10).toInt = 0 → ∀ R9 : x_DR, RUN A9 (x_U D9 (x_dt K ov ho) A9) n9 (x_hs A9 s.toInt x4.toInt k9 (N.2.1 28 8).toInt ((N.2.1 28 9).toInt, P1)) R9 → RUN A9 (x_U D9 (x_dt K ov ho) A9) n9 (s.toInt, k9, (M.2.1 28 8).toInt - 1, ((M.2.1 28 9).toInt, P9)) R9) ∧ (¬ (N.2.1 28 10).toInt = 0 → RUN A9 (x_U D9 (x_dt K ov ho) A9) n9 (s.toInt, k9, (M.2.1 28 8).toInt - 1, ((M.2.1 28 9).toInt, P9)) (1, (N.2.1 28 8).toInt, ((N.2.1 28 9).toInt, P1)))) → 99 - x4.toInt < (nn9 : Int) → mm_T X d 108 92 [.ref 28, .ref 17, .int s, .int o, .int x4] [] N Q) := by
  intro nn9
  induction nn9 with
  | zero =>
    intro N x4 hG F0 g1 g2 g3 g4 g5 g6 g7 g8 g9 g10 g11 g12 g13 g14 g15 hm
    have b_1 := g_b hG (a := 28) (i := 8) (lo := 0) (hi := 3000) rfl rfl
    have b_2 := g_b hG (a := 28) (i := 10) (lo := 0) (hi := 1) rfl rfl
    exfalso; omega
  | succ nn9 ih =>
    intro N x4 hG F0 g1 g2 g3 g4 g5 g6 g7 g8 g9 g10 g11 g12 g13 g14 g15 hm
    have b_3 := g_b hG (a := 28) (i := 8) (lo := 0) (hi := 3000) rfl rfl
    have b_4 := g_b hG (a := 28) (i := 10) (lo := 0) (hi := 1) rfl rfl
    obtain ⟨Pn, pn1, pn2, pn3, pn4⟩ := id g15
    have z_5 := BLKX_2 q13 (by omega) g14
    have z_6 := z_5.1
    have z_7 := z_5.2.1
    have z_8 := z_5.2.2.1
    have z_9 := (BLKX_n q13 (by omega)).2
    refine to_i (pc := 92) rw_108_92 rfl ?_
    refine to_an (pc := 94) rw_108_94 rfl ?_
    refine s_gR (pc := 95) rw_108_95 hG rfl (v := 34) rfl ?_
    refine to_in (pc := 98) rw_108_98 rfl ?_
    refine s_ial (pc := 99) rw_108_99 hG rfl (n := 40) rfl rfl (A := s.toInt) rfl (by omega) (by omega) (lo := 0) (hi := 99) rfl rfl (fun v10 w_11 _ _ => ?_)
    have z_12 := g10
    have z_13 := WKc_m z_12 (B := s.toInt) (by omega) (by omega) g14 w_11
    refine b_cge (pc := 100) rw_108_100 (A := x4.toInt) (B := v10.toInt) rfl rfl (fun h14 => ?_) (fun h14 => ?_)
    · refine to_rv (pc := 133) rw_108_133 ?_
      exact h N hG F0 (by omega) (by omega) (by omega) ⟨Pn, pn1, pn2, fun z9 R9 h9 => pn3 (by omega) R9 (HS_x (by omega) h9), fun z9 => pn4 (by omega)⟩
    · refine to_an (pc := 103) rw_108_103 rfl ?_
      refine tt_gZ (pc := 104) rw_108_104 (g_o hG rfl) (v := (N.2.1 28 10)) rfl ?_
      refine b_ine (pc := 107) rw_108_107 (A := (N.2.1 28 10).toInt) rfl (fun h15 => ?_) (fun h15 => ?_)
      · refine to_rv (pc := 133) rw_108_133 ?_
        exact h N hG F0 (by omega) (by omega) (by omega) ⟨Pn, pn1, pn2, fun z9 R9 h9 => pn3 (by omega) R9 (HS_x (by omega) h9), fun z9 => pn4 (by omega)⟩
      · refine to_an (pc := 110) rw_108_110 rfl ?_
        refine to_an (pc := 111) rw_108_111 rfl ?_
        refine to_in (pc := 112) rw_108_112 rfl ?_
        refine to_c (pc := 113) rw_108_113 (x := (1 : Int32)) rfl rfl ?_
        refine s_add (pc := 114) rw_108_114 (A := s.toInt) (B := 1) rfl rfl (by omega) (fun v16 e17 => ?_)
        refine to_an (pc := 115) rw_108_115 rfl ?_
        refine s_gR (pc := 116) rw_108_116 hG rfl (v := 35) rfl ?_
        refine to_in (pc := 119) rw_108_119 rfl ?_
        refine s_ial (pc := 120) rw_108_120 hG rfl (n := 40) rfl rfl (A := s.toInt) rfl (by omega) (by omega) (lo := 0) (hi := 40) rfl rfl (fun v18 w_19 _ _ => ?_)
        have z_20 := WKc_e z_12 (B := s.toInt) (by omega) (by omega) w_19
        refine to_in (pc := 121) rw_108_121 rfl ?_
        refine to_c (pc := 122) rw_108_122 (x := (1 : Int32)) rfl rfl ?_
        refine s_add (pc := 123) rw_108_123 (A := o.toInt) (B := 1) rfl rfl (by omega) (fun v21 e22 => ?_)
        refine s_v (pc := 124) rw_108_124 (by omega) (ls0 := [.ref 28, .ref 17, .int v16, .int v18, .int v21, .null]) rfl (Nat.le_of_ble_eq_true rfl) (Nat.le_of_ble_eq_true rfl) rfl (to_rc rfl rfl rfl (g_o hG rfl)) rfl ?_
        refine hr X _ _ _ v16 v18 v21 A9 n9 ((s.toInt, A9.2.1 (s.toInt).toNat - x4.toInt) :: k9) D9 Pn K ca ov ho m9 hX (by omega) hG (by omega) (by omega) (by omega) (by omega) (by omega) (by omega) (by omega) (by omega) z_12 (show A9.2.2 (s.toInt).toNat = v18.toInt by omega) (BLKX_v (by omega) (by omega) (by omega) z_5.2.2.2) (by omega) (by omega) (by omega) (by omega) pn1 pn2 g11 q21 (by omega) (fun M29 hG24 F23 p_25 p_26 p_27 p_28 => ?_)
        have F30 := FR.c F0 F23 tg_223
        have b_31 := g_b hG24 (a := 28) (i := 10) (lo := 0) (hi := 1) rfl rfl
        have b_32 := g_b hG24 (a := 28) (i := 8) (lo := 0) (hi := 3000) rfl rfl
        obtain ⟨Pc, pc1, pc2, pc3, pc4⟩ := p_28
        refine s_inc (pc := 127) rw_108_127 (ls2 := fun v => [.ref 28, .ref 17, .int s, .int o, .int v]) rfl rfl (fun _ => rfl) (A := x4.toInt) (B := 1) rfl rfl (by omega) (fun v33 e34 => ?_)
        refine to_go (pc := 130) rw_108_130 ?_
        exact ih M29 v33 hG24 F30 (by omega) (by omega) (by omega) (by omega) (by omega) (by omega) (by omega) (by omega) (by omega) (WKc_f (fun a i z => (F_n F23 (show ¬ (a = 28 ∧ 8 ≤ i ∧ i ≤ 10 ∨ 19 ≤ a ∧ a ≤ 26) by omega) rfl)) (fun i => (F_nl F23 (show ¬ (33 = 28 ∧ 8 ≤ i ∧ i ≤ 10 ∨ 19 ≤ 33 ∧ 33 ≤ 26) by omega) rfl)) g10) (PLC_f (fun i => (F_nl F23 (show ¬ (27 = 28 ∧ 8 ≤ i ∧ i ≤ 10 ∨ 19 ≤ 27 ∧ 27 ≤ 26) by omega) rfl)) g11) (by omega) (by omega) g14 ⟨Pc, pc1, pc2, fun z9 R9 h9 => pn3 (by omega) R9 (HS_i (by omega) (by omega) (RUN_v (by omega) rfl (by omega) (ps_q (by omega)) (pc3 (by omega) R9 (RUN_v (by omega) rfl (by omega) (ps_q (by omega)) (HS_n (by omega) (by omega) (by omega) h9))))), fun z9 => pn3 (by omega) _ (HS_i (by omega) (by omega) (RUN_v (by omega) rfl (by omega) (ps_q (by omega)) (pc4 (by omega))))⟩ (by omega)
set_option maxRecDepth 4000 in
set_option maxHeartbeats 0 in
theorem E_108 {X : mm_X} {d : Nat} {M : mm_M} {Q : Option Value → mm_M → Prop} {s : Int32} {o : Int32} {A9 : x_A} {n9 : Int} {k9 : List (Int × Int)} {D9 : Int → x_D} {P9 : x_P} {K : x_Kn} {ca : Int} {ov : Int32} {ho : Int} {m9 : Int} {t9 : Int} (hX : g_X X) (hd : 2 + 2 * (6 - o.toInt) ≤ (d : Int)) (hG : g_G M) (q1 : 0 ≤ s.toInt) (q2 : s.toInt ≤ 39) (q3 : 0 ≤ o.toInt) (q4 : o.toInt ≤ 5) (q5 : (M.2.1 28 10).toInt = 0) (q6 : s.toInt < t9) (q7 : t9 ≤ n9) (q8 : n9 ≤ 40) (q9 : ¬ (M.2.1 28 8).toInt = 3001) (q10 : (M.2.1 28 9).toInt + 1 ≤ (M.2.1 28 8).toInt) (q11 : WKc D9 M A9 n9 []) (q12 : x_ec A9 n9 k9 t9) (q13 : BLKX A9 s.toInt t9 o.toInt) (q14 : ca ≤ 30) (q15 : m9 ≤ 30) (q16 : 0 ≤ ho) (q17 : ho ≤ 60) (q18 : PKc M P9) (q19 : x_pg P9 m9 ca) (q20 : PLC M K ov ho ca 30) (q21 : GDA D9 ho A9 n9) (hr : RE_107 (6 - o.toInt)) (h : ∀ (M1 : mm_M), g_G M1 → FR md_wd M M1 → (0 ≤ (M1.2.1 28 10).toInt) → ((M1.2.1 28 10).toInt ≤ 1) → ((M1.2.1 28 9).toInt ≤ (M1.2.1 28 8).toInt) → (∃ P1 : x_P, PKc M1 P1 ∧ x_pg P1 m9 ca ∧ ((M1.2.1 28 10).toInt = 0 → ∀ R9 : x_DR, RUN A9 (x_U D9 (x_dt K ov ho) A9) n9 (A9.2.2 (s.toInt).toNat, k9, (M1.2.1 28 8).toInt, ((M1.2.1 28 9).toInt, P1)) R9 → RUN A9 (x_U D9 (x_dt K ov ho) A9) n9 (s.toInt, k9, (M.2.1 28 8).toInt - 1, ((M.2.1 28 9).toInt, P9)) R9) ∧ (¬ (M1.2.1 28 10).toInt = 0 → RUN A9 (x_U D9 (x_dt K ov ho) A9) n9 (s.toInt, k9, (M.2.1 28 8).toInt - 1, ((M.2.1 28 9).toInt, P9)) (1, (M1.2.1 28 8).toInt, ((M1.2.1 28 9).toInt, P1)))) → Q (none) M1) : mm_T X d 108 0 [.ref 28, .ref 17, .int s, .int o, .null] [] M Q := by
  have F0 : FR md_wd M M := FR.rf
  have b_35 := g_b hG (a := 28) (i := 10) (lo := 0) (hi := 1) rfl rfl
  have b_36 := g_b hG (a := 28) (i := 8) (lo := 0) (hi := 3000) rfl rfl
  refine to_an (pc := 0) rw_108_0 rfl ?_
  refine s_gR (pc := 1) rw_108_1 hG rfl (v := 29) rfl ?_
  refine to_in (pc := 4) rw_108_4 rfl ?_
  refine s_ial (pc := 5) rw_108_5 hG rfl (n := 40) rfl rfl (A := s.toInt) rfl (by omega) (by omega) (lo := -2147483648) (hi := 2147483647) rfl rfl (fun v37 w_38 _ _ => ?_)
  have z_39 := q11
  have z_40 := WKc_k z_39 (B := s.toInt) (by omega) (by omega) w_38
  refine to_c (pc := 6) rw_108_6 (x := (538561536 : Int32)) rfl rfl ?_
  refine b_cne (pc := 8) rw_108_8 (A := v37.toInt) (B := 538561536) rfl rfl (fun h41 => ?_) (fun h41 => ?_)
  · refine to_an (pc := 52) rw_108_52 rfl ?_
    refine s_gR (pc := 53) rw_108_53 hG rfl (v := 29) rfl ?_
    refine to_in (pc := 56) rw_108_56 rfl ?_
    refine s_ialk (pc := 57) rw_108_57 hG rfl (n := 40) rfl rfl (A := s.toInt) rfl (by omega) (by omega) (v := v37) w_38 ?_
    refine to_c (pc := 58) rw_108_58 (x := (351582208 : Int32)) rfl rfl ?_
    refine b_cne (pc := 60) rw_108_60 (A := v37.toInt) (B := 351582208) rfl rfl (fun h44 => ?_) (fun h44 => ?_)
    · have z_45 : A9.1 (s.toInt).toNat = 2 := x_kw_2 (z_39 (s.toInt).toNat (by omega)).1 (by omega) (by omega)
      have z_46 := BLKX_2 q13 (by omega) z_45
      have z_47 := z_46.1
      have z_48 := z_46.2.1
      have z_49 := z_46.2.2.1
      refine to_c (pc := 89) rw_108_89 (x := (0 : Int32)) rfl rfl ?_
      refine to_is (pc := 90) rw_108_90 (ls2 := [.ref 28, .ref 17, .int s, .int o, .int (0 : Int32)]) rfl rfl ?_
      have k_50 : (0 : Int32).toInt = 0 := rfl
      exact (U_108_0 (s := s) (o := o) (A9 := A9) (n9 := n9) (k9 := k9) (D9 := D9) (P9 := P9) (K := K) (ca := ca) (ov := ov) (ho := ho) (m9 := m9) (t9 := t9) hX hd q1 q2 q3 q4 q5 q6 q7 q8 q9 q10 q11 q12 q13 q14 q15 q16 q17 q18 q19 q20 q21 hr h ((99 - (0 : Int32).toInt).toNat + 1)) M (0 : Int32) hG F0 (by omega) (by omega) (by omega) (by omega) (by omega) (by omega) (by omega) (by omega) (by omega) q11 q20 (by omega) (by omega) z_45 ⟨P9, q18, q19, fun _ R9 h9 => HS_0 (dn2 := (M.2.1 28 8).toInt) q12 (by omega) (by omega) (by omega) z_45 (by omega) (by omega) (RUN_w rfl (by omega) (ps_q (by omega)) h9), fun z => by exfalso; omega⟩ (by omega)
    · have z_51 : A9.1 (s.toInt).toNat = 1 := x_kw_1 (z_39 (s.toInt).toNat (by omega)).1 (by omega)
      have z_52 := BLKX_1 q13 (by omega) (by omega)
      refine to_an (pc := 63) rw_108_63 rfl ?_
      refine to_an (pc := 64) rw_108_64 rfl ?_
      refine s_gR (pc := 65) rw_108_65 hG rfl (v := 30) rfl ?_
      refine to_in (pc := 68) rw_108_68 rfl ?_
      refine s_ial (pc := 69) rw_108_69 hG rfl (n := 40) rfl rfl (A := s.toInt) rfl (by omega) (by omega) (lo := 0) (hi := 5) rfl rfl (fun v53 w_54 _ _ => ?_)
      have z_55 := (congrArg Int32.toInt w_54).symm.trans ((z_39 (s.toInt).toNat (by omega)).2.2.2.2.2 z_51).1
      refine to_an (pc := 70) rw_108_70 rfl ?_
      refine s_gR (pc := 71) rw_108_71 hG rfl (v := 31) rfl ?_
      refine to_in (pc := 74) rw_108_74 rfl ?_
      refine s_ial (pc := 75) rw_108_75 hG rfl (n := 40) rfl rfl (A := s.toInt) rfl (by omega) (by omega) (lo := 0) (hi := 5) rfl rfl (fun v56 w_57 _ _ => ?_)
      have z_58 := (congrArg Int32.toInt w_57).symm.trans ((z_39 (s.toInt).toNat (by omega)).2.2.2.2.2 z_51).2
      refine to_an (pc := 76) rw_108_76 rfl ?_
      refine s_gR (pc := 77) rw_108_77 hG rfl (v := 31) rfl ?_
      refine to_in (pc := 80) rw_108_80 rfl ?_
      refine s_ialk (pc := 81) rw_108_81 hG rfl (n := 40) rfl rfl (A := s.toInt) rfl (by omega) (by omega) (v := v56) w_57 ?_
      refine to_cl (pc := 82) rw_108_82 rfl (x := (0 : Int64)) rfl ?_
      refine s_v (pc := 83) rw_108_83 (by omega) (ls0 := [.ref 17, .int v53, .int v56, .int v56, .long (0 : Int64), .null, .null, .null]) rfl (Nat.le_of_ble_eq_true rfl) (Nat.le_of_ble_eq_true rfl) rfl (to_rc rfl rfl rfl (g_o hG rfl)) rfl ?_
      refine E_28 hX (by omega) hG (by omega) (by omega) (by omega) (by omega) (by omega) (by omega) (by omega) (by omega) (by omega) (by omega) q18 q19 q20 (fun i hi => by rw [x_on_0] at hi; cases hi) (f := v53) (a := v56) (b := v56) (x := (0 : Int64)) (P9 := P9) (K := K) (ca := ca) (ov := ov) (ho := ho) (n9 := m9) (fun M64 hG62 F61 p_63 => ?_)
      have F65 := FR.c F0 F61 tg_224
      refine to_go (pc := 86) rw_108_86 ?_
      refine to_rv (pc := 133) rw_108_133 ?_
      have c_66 : M64.2.1 28 10 = (M.2.1 28 10) := (F_n F61 (show ¬ (19 ≤ 28 ∧ 28 ≤ 26) by decide) rfl)
      have t_67 : (M64.2.1 28 10).toInt = (M.2.1 28 10).toInt := congrArg Int32.toInt c_66
      have c_68 : M64.2.1 28 9 = (M.2.1 28 9) := (F_n F61 (show ¬ (19 ≤ 28 ∧ 28 ≤ 26) by decide) rfl)
      have t_69 : (M64.2.1 28 9).toInt = (M.2.1 28 9).toInt := congrArg Int32.toInt c_68
      have c_70 : M64.2.1 28 8 = (M.2.1 28 8) := (F_n F61 (show ¬ (19 ≤ 28 ∧ 28 ≤ 26) by decide) rfl)
      have t_71 : (M64.2.1 28 8).toInt = (M.2.1 28 8).toInt := congrArg Int32.toInt c_70
      exact h M64 hG62 F65 (by omega) (by omega) (by omega) ⟨_, p_63, x_pg_dl q19 (by omega) (by omega) (by omega) (by omega) (by omega) (by omega), fun _ R9 h9 => r_st q12 (by omega) (by omega) (by omega) (Or.inr z_51) (RUN_v (by omega) rfl (by omega) (x_U_1 z_51 (by omega) (by rw [z_55, z_58, x_true_dt])) h9), fun z => by exfalso; omega⟩
  · have z_72 : A9.1 (s.toInt).toNat = 0 := x_kw_0 (z_39 (s.toInt).toNat (by omega)).1 (by omega)
    have z_73 := BLKX_1 q13 (by omega) (by omega)
    refine to_an (pc := 11) rw_108_11 rfl ?_
    refine to_dupr (pc := 12) rw_108_12 ?_
    refine tt_gI (pc := 13) rw_108_13 (g_o hG rfl) (v := (M.2.1 28 9)) rfl ?_
    refine to_c (pc := 16) rw_108_16 (x := (1 : Int32)) rfl rfl ?_
    have i_76 := i_of (x := (M.2.1 28 9))
    refine s_add (pc := 17) rw_108_17 (A := (M.2.1 28 9).toInt) (B := 1) rfl rfl (by omega) (fun v74 e75 => ?_)
    refine s_pI (pc := 18) rw_108_18 hG rfl (fun M78 W77 => ?_)
    have hG79 := g_wf hG W77 rfl rfl (by decide)
    have F80 := FR.w F0 W77 (show 28 = 28 ∧ 8 ≤ 9 ∧ 9 ≤ 10 ∨ 19 ≤ 28 ∧ 28 ≤ 26 by decide)
    refine to_an (pc := 21) rw_108_21 rfl ?_
    refine to_an (pc := 22) rw_108_22 rfl ?_
    refine s_gR (pc := 23) rw_108_23 hG79 rfl (v := 30) rfl ?_
    refine to_in (pc := 26) rw_108_26 rfl ?_
    refine s_ial (pc := 27) rw_108_27 hG79 rfl (n := 40) rfl rfl (A := s.toInt) rfl (by omega) (by omega) (lo := 0) (hi := 5) rfl rfl (fun v81 w_82 _ _ => ?_)
    have z_83 := (WKc_f (fun a i z => (W_n W77 (by /-r28,9-/ omega) rfl)) (fun i => (W_j W77 rfl)) q11)
    have z_84 := (congrArg Int32.toInt w_82).symm.trans ((z_83 (s.toInt).toNat (by omega)).2.2.2.2.1 z_72).1
    refine to_an (pc := 28) rw_108_28 rfl ?_
    refine s_gR (pc := 29) rw_108_29 hG79 rfl (v := 31) rfl ?_
    refine to_in (pc := 32) rw_108_32 rfl ?_
    refine s_ial (pc := 33) rw_108_33 hG79 rfl (n := 40) rfl rfl (A := s.toInt) rfl (by omega) (by omega) (lo := 0) (hi := 5) rfl rfl (fun v85 w_86 _ _ => ?_)
    have z_87 := (congrArg Int32.toInt w_86).symm.trans ((z_83 (s.toInt).toNat (by omega)).2.2.2.2.1 z_72).2.1
    refine to_an (pc := 34) rw_108_34 rfl ?_
    refine s_gR (pc := 35) rw_108_35 hG79 rfl (v := 32) rfl ?_
    refine to_in (pc := 38) rw_108_38 rfl ?_
    refine s_ial (pc := 39) rw_108_39 hG79 rfl (n := 40) rfl rfl (A := s.toInt) rfl (by omega) (by omega) (lo := 0) (hi := 5) rfl rfl (fun v88 w_89 _ _ => ?_)
    have z_90 := (congrArg Int32.toInt w_89).symm.trans ((z_83 (s.toInt).toNat (by omega)).2.2.2.2.1 z_72).2.2.1
    refine to_an (pc := 40) rw_108_40 rfl ?_
    refine s_gR (pc := 41) rw_108_41 hG79 rfl (v := 33) rfl ?_
    refine to_in (pc := 44) rw_108_44 rfl ?_
    refine s_lalE (pc := 45) rw_108_45 hG79 rfl (n := 40) rfl (A := s.toInt) rfl (by omega) (by omega) (fun l91 w_92 => ?_)
    have z_93 := (w_92).symm.trans ((z_83 (s.toInt).toNat (by omega)).2.2.2.2.1 z_72).2.2.2
    refine s_v (pc := 46) rw_108_46 (by omega) (ls0 := [.ref 17, .int v81, .int v85, .int v88, .long l91, .null, .null, .null]) rfl (Nat.le_of_ble_eq_true rfl) (Nat.le_of_ble_eq_true rfl) rfl (to_rc rfl rfl rfl (g_o hG79 rfl)) rfl ?_
    have j_94 := (PKc_f (fun a i z => W_n W77 (by /-r28,9-/ omega) rfl) q18)
    refine E_28 hX (by omega) hG79 (by omega) (by omega) (by omega) (by omega) (by omega) (by omega) (by omega) (by omega) (by omega) (by omega) j_94 q19 (PLC_f (fun i => (W_j W77 rfl)) q20) (by rw [z_93]; exact ((q21 (s.toInt).toNat (by omega)).1 z_72).2) (f := v81) (a := v85) (b := v88) (x := l91) (P9 := P9) (K := K) (ca := ca) (ov := ov) (ho := ho) (n9 := m9) (fun M98 hG96 F95 p_97 => ?_)
    have F99 := FR.c F80 F95 tg_224
    refine to_go (pc := 49) rw_108_49 ?_
    refine to_rv (pc := 133) rw_108_133 ?_
    have c_100 : M98.2.1 28 10 = (M.2.1 28 10) := (F_n F95 (show ¬ (19 ≤ 28 ∧ 28 ≤ 26) by decide) (W_n W77 (by decide) rfl))
    have t_101 : (M98.2.1 28 10).toInt = (M.2.1 28 10).toInt := congrArg Int32.toInt c_100
    have c_102 : M98.2.1 28 9 = v74 := (F_n F95 (show ¬ (19 ≤ 28 ∧ 28 ≤ 26) by decide) (W_e W77))
    have t_103 : (M98.2.1 28 9).toInt = v74.toInt := congrArg Int32.toInt c_102
    have c_104 : M98.2.1 28 8 = (M.2.1 28 8) := (F_n F95 (show ¬ (19 ≤ 28 ∧ 28 ≤ 26) by decide) (W_n W77 (by decide) rfl))
    have t_105 : (M98.2.1 28 8).toInt = (M.2.1 28 8).toInt := congrArg Int32.toInt c_104
    exact h M98 hG96 F99 (by omega) (by omega) (by omega) ⟨_, p_97, x_pg_dl q19 (by omega) (by omega) (by omega) (by omega) (by omega) (by omega), fun _ R9 h9 => r_st q12 (by omega) (by omega) (by omega) (Or.inl z_72) (RUN_v (by omega) rfl (by omega) (x_U_0 z_72 (by omega) (by rw [z_84, z_87, z_90, z_93])) h9), fun z => by exfalso; omega⟩
set_option maxRecDepth 4000 in
set_option maxHeartbeats 0 in
theorem U_107_0 {X : mm_X} {d : Nat} {M : mm_M} {Q : Option Value → mm_M → Prop} {f : Int32} {t : Int32} {o : Int32} {A9 : x_A} {n9 : Int} {k9 : List (Int × Int)} {D9 : Int → x_D} {P9 : x_P} {K : x_Kn} {ca : Int} {ov : Int32} {ho : Int} {m9 : Int} (hX : g_X X) (hd : 3 + 2 * (6 - o.toInt) ≤ (d : Int)) (q1 : 0 ≤ f.toInt) (q2 : f.toInt ≤ 40) (q3 : t.toInt ≤ n9) (q4 : n9 ≤ 40) (q5 : 0 ≤ o.toInt) (q6 : o.toInt ≤ 5) (q7 : (M.2.1 28 10).toInt = 0) (q8 : (M.2.1 28 9).toInt ≤ (M.2.1 28 8).toInt) (q9 : WKc D9 M A9 n9 []) (q10 : x_ec A9 n9 k9 t.toInt) (q11 : BLKX A9 f.toInt t.toInt o.toInt) (q12 : ca ≤ 30) (q13 : m9 ≤ 30) (q14 : 0 ≤ ho) (q15 : ho ≤ 60) (q16 : PKc M P9) (q17 : x_pg P9 m9 ca) (q18 : PLC M K ov ho ca 30) (q19 : GDA D9 ho A9 n9) (hr : RE_107 (6 - o.toInt)) (h : ∀ (M1 : mm_M), g_G M1 → FR md_wd M M1 → (0 ≤ (M1.2.1 28 10).toInt) → ((M1.2.1 28 10).toInt ≤ 1) → ((M1.2.1 28 9).toInt ≤ (M1.2.1 28 8).toInt) → (∃ P1 : x_P, PKc M1 P1 ∧ x_pg P1 m9 ca ∧ ((M1.2.1 28 10).toInt = 0 → ∀ R9 : x_DR, RUN A9 (x_U D9 (x_dt K ov ho) A9) n9 (t.toInt, k9, (M1.2.1 28 8).toInt, ((M1.2.1 28 9).toInt, P1)) R9 → RUN A9 (x_U D9 (x_dt K ov ho) A9) n9 (f.toInt, k9, (M.2.1 28 8).toInt, ((M.2.1 28 9).toInt, P9)) R9) ∧ (¬ (M1.2.1 28 10).toInt = 0 → RUN A9 (x_U D9 (x_dt K ov ho) A9) n9 (f.toInt, k9, (M.2.1 28 8).toInt, ((M.2.1 28 9).toInt, P9)) (1, (M1.2.1 28 8).toInt, ((M1.2.1 28 9).toInt, P1)))) → Q (none) M1) : ∀ nn9 : Nat, (∀ (N : mm_M) (u2 : Value) (x5 : Int32), g_G N → FR md_wd M N → (0 ≤ x5.toInt) → (x5.toInt ≤ t.toInt) → (x5.toInt ≤ 40) → (o.toInt = o.toInt) → (0 ≤ o.toInt) → (o.toInt ≤ 5) → ((N.2.1 28 9).toInt ≤ (N.2.1 28 8).toInt) → (WKc D9 N A9 n9 []) → (PLC N K ov ho ca 30) → (0 ≤ (N.2.1 28 10).toInt) → ((N.2.1 28 10).toInt ≤ 1) → (BLKX A9 x5.toInt t.toInt o.toInt) → (∃ P1 : x_P, PKc N P1 ∧ x_pg P1 m9 ca ∧ ((N.2.1 28 10).toInt = 0 → ∀ R9 : x_DR, RUN A9 (x_U D9 (x_dt K ov ho) A9) n9 (x5.toInt, k9, (N.2.1 28 8).toInt, ((N.2.1 28 9).toInt, P1)) R9 → RUN A9 (x_U D9 (x_dt K ov ho) A9) n9 (f.toInt, k9, (M.2.1 28 8).toInt, ((M.2.1 28 9).toInt, P9)) R9) ∧ (¬ (N.2.1 28 10).toInt = 0 → RUN A9 (x_U D9 (x_dt K ov ho) A9) n9 (f.toInt, k9, (M.2.1 28 8).toInt, ((M.2.1 28 9).toInt, P9)) (1, (N.2.1 28 8).toInt, ((N.2.1 28 9).toInt, P1)))) → 40 - x5.toInt < (nn9 : Int) → mm_T X d 107 10 [.ref 28, .ref 17, u2, .int t, .int o, .int x5] [] N Q) := by
  intro nn9
  induction nn9 with
  | zero =>
    intro N u2 x5 hG F0 g1 g2 g3 g4 g5 g6 g7 g8 g9 g10 g11 g12 g13 hm
    have b_1 := g_b hG (a := 28) (i := 8) (lo := 0) (hi := 3000) rfl rfl
    have b_2 := g_b hG (a := 28) (i := 10) (lo := 0) (hi := 1) rfl rfl
    exfalso; omega
  | succ nn9 ih =>
    intro N u2 x5 hG F0 g1 g2 g3 g4 g5 g6 g7 g8 g9 g10 g11 g12 g13 hm
    have b_3 := g_b hG (a := 28) (i := 8) (lo := 0) (hi := 3000) rfl rfl
    have b_4 := g_b hG (a := 28) (i := 10) (lo := 0) (hi := 1) rfl rfl
    have z_5 := BLKX_le g12
    obtain ⟨Pn, pn1, pn2, pn3, pn4⟩ := id g13
    refine to_i (pc := 10) rw_107_10 rfl ?_
    refine to_in (pc := 12) rw_107_12 rfl ?_
    refine b_cge (pc := 13) rw_107_13 (A := x5.toInt) (B := t.toInt) rfl rfl (fun h6 => ?_) (fun h6 => ?_)
    · refine to_rv (pc := 86) rw_107_86 ?_
      exact h N hG F0 (by omega) (by omega) (by omega) ⟨Pn, pn1, pn2, fun z9 R9 h9 => pn3 (by omega) R9 (RUN_v (by omega) rfl (by omega) (ps_q (by omega)) h9), fun z9 => pn4 (by omega)⟩
    · refine to_i (pc := 16) rw_107_16 rfl ?_
      refine to_c (pc := 18) rw_107_18 (x := (40 : Int32)) rfl rfl ?_
      refine b_cge (pc := 20) rw_107_20 (A := x5.toInt) (B := 40) rfl rfl (fun h7 => ?_) (fun h7 => ?_)
      · refine to_rv (pc := 86) rw_107_86 ?_
        exact h N hG F0 (by omega) (by omega) (by omega) ⟨Pn, pn1, pn2, fun z9 R9 h9 => pn3 (by omega) R9 (RUN_v (by omega) rfl (by omega) (ps_q (by omega)) h9), fun z9 => pn4 (by omega)⟩
      · refine to_an (pc := 23) rw_107_23 rfl ?_
        refine tt_gZ (pc := 24) rw_107_24 (g_o hG rfl) (v := (N.2.1 28 10)) rfl ?_
        refine b_ine (pc := 27) rw_107_27 (A := (N.2.1 28 10).toInt) rfl (fun h8 => ?_) (fun h8 => ?_)
        · refine to_rv (pc := 86) rw_107_86 ?_
          exact h N hG F0 (by omega) (by omega) (by omega) ⟨Pn, pn1, pn2, fun z9 R9 h9 => pn3 (by omega) R9 (RUN_v (by omega) rfl (by omega) (ps_q (by omega)) h9), fun z9 => pn4 (by omega)⟩
        · have z_9 := BLKX_n g12 (by omega)
          have z_10 := z_9.2
          refine to_an (pc := 30) rw_107_30 rfl ?_
          refine tt_gI (pc := 31) rw_107_31 (g_o hG rfl) (v := (N.2.1 28 8)) rfl ?_
          refine to_c (pc := 34) rw_107_34 (x := (3000 : Int32)) rfl rfl ?_
          refine b_clt (pc := 37) rw_107_37 (A := (N.2.1 28 8).toInt) (B := 3000) rfl rfl (fun h11 => ?_) (fun h11 => ?_)
          · refine to_an (pc := 48) rw_107_48 rfl ?_
            refine to_dupr (pc := 49) rw_107_49 ?_
            refine tt_gI (pc := 50) rw_107_50 (g_o hG rfl) (v := (N.2.1 28 8)) rfl ?_
            refine to_c (pc := 53) rw_107_53 (x := (1 : Int32)) rfl rfl ?_
            refine s_add (pc := 54) rw_107_54 (A := (N.2.1 28 8).toInt) (B := 1) rfl rfl (by omega) (fun v12 e13 => ?_)
            refine s_pI (pc := 55) rw_107_55 hG rfl (fun M15 W14 => ?_)
            have hG16 := g_w hG W14 (A := v12.toInt) rfl (lo := 0) (hi := 3000) rfl rfl (by omega) (by decide)
            have F17 := FR.w F0 W14 (show 28 = 28 ∧ 8 ≤ 8 ∧ 8 ≤ 10 ∨ 19 ≤ 28 ∧ 28 ≤ 26 by decide)
            refine to_an (pc := 58) rw_107_58 rfl ?_
            refine to_an (pc := 59) rw_107_59 rfl ?_
            refine to_i (pc := 60) rw_107_60 rfl ?_
            refine to_i (pc := 62) rw_107_62 rfl ?_
            refine s_v (pc := 64) rw_107_64 (by omega) (ls0 := [.ref 28, .ref 17, .int x5, .int o, .null]) rfl (Nat.le_of_ble_eq_true rfl) (Nat.le_of_ble_eq_true rfl) rfl (to_rc rfl rfl rfl (g_o hG16 rfl)) rfl ?_
            have c_18 : M15.2.1 28 8 = v12 := (W_e W14)
            have t_19 : (M15.2.1 28 8).toInt = v12.toInt := congrArg Int32.toInt c_18
            have c_20 : M15.2.1 28 9 = (N.2.1 28 9) := (W_n W14 (by decide) rfl)
            have t_21 : (M15.2.1 28 9).toInt = (N.2.1 28 9).toInt := congrArg Int32.toInt c_20
            have c_22 : M15.2.1 28 10 = (N.2.1 28 10) := (W_n W14 (by decide) rfl)
            have t_23 : (M15.2.1 28 10).toInt = (N.2.1 28 10).toInt := congrArg Int32.toInt c_22
            have z_24 := (WKc_f (fun a i z => (W_n W14 (by /-r28,8-/ omega) rfl)) (fun i => (W_j W14 rfl)) g8)
            have j_25 := (PKc_f (fun a i z => W_n W14 (by /-r28,8-/ omega) rfl) pn1)
            refine E_108 hX (by omega) hG16 (by omega) (by omega) (by omega) (by omega) (by omega) (by omega) (by omega) (by omega) (by omega) (by omega) z_24 q10 (BLKX_v (by omega) (by omega) (by omega) g12) (by omega) (by omega) (by omega) (by omega) j_25 pn2 (PLC_f (fun i => (W_j W14 rfl)) g9) q19 hr (s := x5) (o := o) (A9 := A9) (n9 := n9) (k9 := k9) (D9 := D9) (P9 := Pn) (K := K) (ca := ca) (ov := ov) (ho := ho) (m9 := m9) (t9 := t.toInt) (fun M32 hG27 F26 p_28 p_29 p_30 p_31 => ?_)
            have F33 := FR.c F17 F26 tg_223
            have b_34 := g_b hG27 (a := 28) (i := 10) (lo := 0) (hi := 1) rfl rfl
            have b_35 := g_b hG27 (a := 28) (i := 8) (lo := 0) (hi := 3000) rfl rfl
            obtain ⟨Pc, pc1, pc2, pc3, pc4⟩ := p_31
            refine to_i (pc := 67) rw_107_67 rfl ?_
            refine to_c (pc := 69) rw_107_69 (x := (1 : Int32)) rfl rfl ?_
            refine s_add (pc := 70) rw_107_70 (A := x5.toInt) (B := 1) rfl rfl (by omega) (fun v36 e37 => ?_)
            refine to_an (pc := 71) rw_107_71 rfl ?_
            refine s_gR (pc := 72) rw_107_72 hG27 rfl (v := 35) rfl ?_
            refine to_i (pc := 75) rw_107_75 rfl ?_
            refine s_ial (pc := 77) rw_107_77 hG27 rfl (n := 40) rfl rfl (A := x5.toInt) rfl (by omega) (by omega) (lo := 0) (hi := 40) rfl rfl (fun v38 w_39 _ _ => ?_)
            have z_40 := (WKc_f (fun a i z => (F_n F26 (show ¬ (a = 28 ∧ 8 ≤ i ∧ i ≤ 10 ∨ 19 ≤ a ∧ a ≤ 26) by omega) (W_n W14 (by /-r28,8-/ omega) rfl))) (fun i => (F_nl F26 (show ¬ (33 = 28 ∧ 8 ≤ i ∧ i ≤ 10 ∨ 19 ≤ 33 ∧ 33 ≤ 26) by omega) (W_j W14 rfl))) g8)
            have z_41 := WKc_e z_40 (B := x5.toInt) (by omega) (by omega) w_39
            refine s_max (pc := 78) rw_107_78 rfl (A := v36.toInt) (B := v38.toInt) rfl rfl (fun v42 _ _ _ => ?_)
            refine to_is (pc := 81) rw_107_81 (ls2 := [.ref 28, .ref 17, u2, .int t, .int o, .int v42]) rfl rfl ?_
            refine to_go (pc := 83) rw_107_83 ?_
            exact ih M32 (u2) v42 hG27 F33 (by omega) (by omega) (by omega) (by omega) (by omega) (by omega) (by omega) (WKc_f (fun a i z => (F_n F26 (show ¬ (a = 28 ∧ 8 ≤ i ∧ i ≤ 10 ∨ 19 ≤ a ∧ a ≤ 26) by omega) (W_n W14 (by /-r28,8-/ omega) rfl))) (fun i => (F_nl F26 (show ¬ (33 = 28 ∧ 8 ≤ i ∧ i ≤ 10 ∨ 19 ≤ 33 ∧ 33 ≤ 26) by omega) (W_j W14 rfl))) g8) (PLC_f (fun i => (F_nl F26 (show ¬ (27 = 28 ∧ 8 ≤ i ∧ i ≤ 10 ∨ 19 ≤ 27 ∧ 27 ≤ 26) by omega) (W_j W14 rfl))) g9) (by omega) (by omega) (BLKX_v (by omega) (by omega) (by omega) z_9.1) ⟨Pc, pc1, pc2, fun z9 R9 h9 => pn3 (by omega) R9 (RUN_v (by omega) rfl (by omega) (ps_q (by omega)) (pc3 (by omega) R9 (RUN_v (by omega) rfl (by omega) (ps_q (by omega)) h9))), fun z9 => pn3 (by omega) _ (RUN_v (by omega) rfl (by omega) (ps_q (by omega)) (pc4 (by omega)))⟩ (by omega)
          · refine to_an (pc := 40) rw_107_40 rfl ?_
            refine to_c (pc := 41) rw_107_41 (x := (1 : Int32)) rfl rfl ?_
            refine s_pZ (pc := 42) rw_107_42 hG rfl (A := 1) rfl (by omega) (fun M44 W43 => ?_)
            have hG45 := g_w hG W43 (A := 1) rfl (lo := 0) (hi := 1) rfl rfl (by omega) (by decide)
            have F46 := FR.w F0 W43 (show 28 = 28 ∧ 8 ≤ 10 ∧ 10 ≤ 10 ∨ 19 ≤ 28 ∧ 28 ≤ 26 by decide)
            refine to_go (pc := 45) rw_107_45 ?_
            refine to_i (pc := 67) rw_107_67 rfl ?_
            refine to_c (pc := 69) rw_107_69 (x := (1 : Int32)) rfl rfl ?_
            refine s_add (pc := 70) rw_107_70 (A := x5.toInt) (B := 1) rfl rfl (by omega) (fun v47 e48 => ?_)
            refine to_an (pc := 71) rw_107_71 rfl ?_
            refine s_gR (pc := 72) rw_107_72 hG45 rfl (v := 35) rfl ?_
            refine to_i (pc := 75) rw_107_75 rfl ?_
            refine s_ial (pc := 77) rw_107_77 hG45 rfl (n := 40) rfl rfl (A := x5.toInt) rfl (by omega) (by omega) (lo := 0) (hi := 40) rfl rfl (fun v49 w_50 _ _ => ?_)
            have z_51 := (WKc_f (fun a i z => (W_n W43 (by /-r28,10-/ omega) rfl)) (fun i => (W_j W43 rfl)) g8)
            have z_52 := WKc_e z_51 (B := x5.toInt) (by omega) (by omega) w_50
            refine s_max (pc := 78) rw_107_78 rfl (A := v47.toInt) (B := v49.toInt) rfl rfl (fun v53 _ _ _ => ?_)
            refine to_is (pc := 81) rw_107_81 (ls2 := [.ref 28, .ref 17, u2, .int t, .int o, .int v53]) rfl rfl ?_
            refine to_go (pc := 83) rw_107_83 ?_
            have c_54 : M44.2.1 28 9 = (N.2.1 28 9) := (W_n W43 (by decide) rfl)
            have t_55 : (M44.2.1 28 9).toInt = (N.2.1 28 9).toInt := congrArg Int32.toInt c_54
            have c_56 : M44.2.1 28 8 = (N.2.1 28 8) := (W_n W43 (by decide) rfl)
            have t_57 : (M44.2.1 28 8).toInt = (N.2.1 28 8).toInt := congrArg Int32.toInt c_56
            have c_58 : M44.2.1 28 10 = (1 : Int32) := (W_e W43)
            have k_59 : (1 : Int32).toInt = 1 := rfl
            have t_60 : (M44.2.1 28 10).toInt = (1 : Int32).toInt := congrArg Int32.toInt c_58
            have j_61 := (PKc_f (fun a i z => W_n W43 (by /-r28,10-/ omega) rfl) pn1)
            exact ih M44 (u2) v53 hG45 F46 (by omega) (by omega) (by omega) (by omega) (by omega) (by omega) (by omega) (WKc_f (fun a i z => (W_n W43 (by /-r28,10-/ omega) rfl)) (fun i => (W_j W43 rfl)) g8) (PLC_f (fun i => (W_j W43 rfl)) g9) (by omega) (by omega) (BLKX_v (by omega) (by omega) (by omega) z_9.1) ⟨Pn, j_61, pn2, fun z => by exfalso; omega, fun _ => RUN_r (by omega) (ps_q (by omega)) (pn3 (by omega) _ (r_sp q10 (by omega) (by omega) (by omega)))⟩ (by omega)
set_option maxRecDepth 4000 in
set_option maxHeartbeats 0 in
theorem BE_107 {X : mm_X} {d : Nat} {M : mm_M} {Q : Option Value → mm_M → Prop} {f : Int32} {t : Int32} {o : Int32} {A9 : x_A} {n9 : Int} {k9 : List (Int × Int)} {D9 : Int → x_D} {P9 : x_P} {K : x_Kn} {ca : Int} {ov : Int32} {ho : Int} {m9 : Int} (hX : g_X X) (hd : 3 + 2 * (6 - o.toInt) ≤ (d : Int)) (hG : g_G M) (q1 : 0 ≤ f.toInt) (q2 : f.toInt ≤ 40) (q3 : t.toInt ≤ n9) (q4 : n9 ≤ 40) (q5 : 0 ≤ o.toInt) (q6 : o.toInt ≤ 5) (q7 : (M.2.1 28 10).toInt = 0) (q8 : (M.2.1 28 9).toInt ≤ (M.2.1 28 8).toInt) (q9 : WKc D9 M A9 n9 []) (q10 : x_ec A9 n9 k9 t.toInt) (q11 : BLKX A9 f.toInt t.toInt o.toInt) (q12 : ca ≤ 30) (q13 : m9 ≤ 30) (q14 : 0 ≤ ho) (q15 : ho ≤ 60) (q16 : PKc M P9) (q17 : x_pg P9 m9 ca) (q18 : PLC M K ov ho ca 30) (q19 : GDA D9 ho A9 n9) (hr : RE_107 (6 - o.toInt)) (h : ∀ (M1 : mm_M), g_G M1 → FR md_wd M M1 → (0 ≤ (M1.2.1 28 10).toInt) → ((M1.2.1 28 10).toInt ≤ 1) → ((M1.2.1 28 9).toInt ≤ (M1.2.1 28 8).toInt) → (∃ P1 : x_P, PKc M1 P1 ∧ x_pg P1 m9 ca ∧ ((M1.2.1 28 10).toInt = 0 → ∀ R9 : x_DR, RUN A9 (x_U D9 (x_dt K ov ho) A9) n9 (t.toInt, k9, (M1.2.1 28 8).toInt, ((M1.2.1 28 9).toInt, P1)) R9 → RUN A9 (x_U D9 (x_dt K ov ho) A9) n9 (f.toInt, k9, (M.2.1 28 8).toInt, ((M.2.1 28 9).toInt, P9)) R9) ∧ (¬ (M1.2.1 28 10).toInt = 0 → RUN A9 (x_U D9 (x_dt K ov ho) A9) n9 (f.toInt, k9, (M.2.1 28 8).toInt, ((M.2.1 28 9).toInt, P9)) (1, (M1.2.1 28 8).toInt, ((M1.2.1 28 9).toInt, P1)))) → Q (none) M1) : mm_T X d 107 0 [.ref 28, .ref 17, .int f, .int t, .int o, .null] [] M Q := by
  have F0 : FR md_wd M M := FR.rf
  have b_62 := g_b hG (a := 28) (i := 10) (lo := 0) (hi := 1) rfl rfl
  have b_63 := g_b hG (a := 28) (i := 8) (lo := 0) (hi := 3000) rfl rfl
  have z_64 := BLKX_le q11
  refine to_i (pc := 0) rw_107_0 rfl ?_
  refine to_c (pc := 2) rw_107_2 (x := (5 : Int32)) rfl rfl ?_
  refine b_cle_t (pc := 3) rw_107_3 (A := o.toInt) (B := 5) rfl rfl (by omega) ?_
  refine to_in (pc := 7) rw_107_7 rfl ?_
  refine to_is (pc := 8) rw_107_8 (ls2 := [.ref 28, .ref 17, .int f, .int t, .int o, .int f]) rfl rfl ?_
  exact (U_107_0 (f := f) (t := t) (o := o) (A9 := A9) (n9 := n9) (k9 := k9) (D9 := D9) (P9 := P9) (K := K) (ca := ca) (ov := ov) (ho := ho) (m9 := m9) hX hd q1 q2 q3 q4 q5 q6 q7 q8 q9 q10 q11 q12 q13 q14 q15 q16 q17 q18 q19 hr h ((40 - f.toInt).toNat + 1)) M (.int f) f hG F0 (by omega) (by omega) (by omega) (by omega) (by omega) (by omega) (by omega) q9 q18 (by omega) (by omega) (BLKX_v (by omega) (by omega) (by omega) q11) ⟨P9, q16, q17, fun _ R9 h9 => RUN_v (by omega) rfl (by omega) (ps_q (by omega)) h9, fun z => by exfalso; omega⟩ (by omega)
theorem RE_107_all : ∀ nn : Nat, RE_107 (nn : Int) := by
  intro nn
  induction nn with
  | zero =>
    intro X d M Q f t o A9 n9 k9 D9 P9 K ca ov ho m9 hX hd hG q1 q2 q3 q4 q5 q6 q7 q8 q9 q10 q11 q12 q13 q14 q15 q16 q17 q18 q19 hm h
    exfalso; omega
  | succ nn ih =>
    intro X d M Q f t o A9 n9 k9 D9 P9 K ca ov ho m9 hX hd hG q1 q2 q3 q4 q5 q6 q7 q8 q9 q10 q11 q12 q13 q14 q15 q16 q17 q18 q19 hm h
    exact BE_107 hX hd hG q1 q2 q3 q4 q5 q6 q7 q8 q9 q10 q11 q12 q13 q14 q15 q16 q17 q18 q19 (fun X2 d2 M2 Q2 f2 t2 o2 A92 n92 k92 D92 P92 K2 ca2 ov2 ho2 m92 e71 e72 e73 q12 q22 q32 q42 q52 q62 q72 q82 q92 q102 q112 q122 q132 q142 q152 q162 q172 q182 q192 hm2 h2 => ih X2 d2 M2 Q2 f2 t2 o2 A92 n92 k92 D92 P92 K2 ca2 ov2 ho2 m92 e71 e72 e73 q12 q22 q32 q42 q52 q62 q72 q82 q92 q102 q112 q122 q132 q142 q152 q162 q172 q182 q192 (by omega) h2) h
theorem E_107 {X : mm_X} {d : Nat} {M : mm_M} {Q : Option Value → mm_M → Prop} {f : Int32} {t : Int32} {o : Int32} {A9 : x_A} {n9 : Int} {k9 : List (Int × Int)} {D9 : Int → x_D} {P9 : x_P} {K : x_Kn} {ca : Int} {ov : Int32} {ho : Int} {m9 : Int} (hX : g_X X) (hd : 3 + 2 * (6 - o.toInt) ≤ (d : Int)) (hG : g_G M) (q1 : 0 ≤ f.toInt) (q2 : f.toInt ≤ 40) (q3 : t.toInt ≤ n9) (q4 : n9 ≤ 40) (q5 : 0 ≤ o.toInt) (q6 : o.toInt ≤ 5) (q7 : (M.2.1 28 10).toInt = 0) (q8 : (M.2.1 28 9).toInt ≤ (M.2.1 28 8).toInt) (q9 : WKc D9 M A9 n9 []) (q10 : x_ec A9 n9 k9 t.toInt) (q11 : BLKX A9 f.toInt t.toInt o.toInt) (q12 : ca ≤ 30) (q13 : m9 ≤ 30) (q14 : 0 ≤ ho) (q15 : ho ≤ 60) (q16 : PKc M P9) (q17 : x_pg P9 m9 ca) (q18 : PLC M K ov ho ca 30) (q19 : GDA D9 ho A9 n9) (h : ∀ (M1 : mm_M), g_G M1 → FR md_wd M M1 → (0 ≤ (M1.2.1 28 10).toInt) → ((M1.2.1 28 10).toInt ≤ 1) → ((M1.2.1 28 9).toInt ≤ (M1.2.1 28 8).toInt) → (∃ P1 : x_P, PKc M1 P1 ∧ x_pg P1 m9 ca ∧ ((M1.2.1 28 10).toInt = 0 → ∀ R9 : x_DR, RUN A9 (x_U D9 (x_dt K ov ho) A9) n9 (t.toInt, k9, (M1.2.1 28 8).toInt, ((M1.2.1 28 9).toInt, P1)) R9 → RUN A9 (x_U D9 (x_dt K ov ho) A9) n9 (f.toInt, k9, (M.2.1 28 8).toInt, ((M.2.1 28 9).toInt, P9)) R9) ∧ (¬ (M1.2.1 28 10).toInt = 0 → RUN A9 (x_U D9 (x_dt K ov ho) A9) n9 (f.toInt, k9, (M.2.1 28 8).toInt, ((M.2.1 28 9).toInt, P9)) (1, (M1.2.1 28 8).toInt, ((M1.2.1 28 9).toInt, P1)))) → Q (none) M1) : mm_T X d 107 0 [.ref 28, .ref 17, .int f, .int t, .int o, .null] [] M Q := RE_107_all ((6 - o.toInt).toNat + 1) X d M Q f t o A9 n9 k9 D9 P9 K ca ov ho m9 hX hd hG q1 q2 q3 q4 q5 q6 q7 q8 q9 q10 q11 q12 q13 q14 q15 q16 q17 q18 q19 (by omega) h
set_option maxRecDepth 4000 in
set_option maxHeartbeats 0 in
theorem E_106 {X : mm_X} {d : Nat} {M : mm_M} {Q : Option Value → mm_M → Prop} {A9 : x_A} {n9 : Int} {D9 : Int → x_D} {P9 : x_P} {K : x_Kn} {ca : Int} {ov : Int32} {ho : Int} {m9 : Int} (hX : g_X X) (hd : 16 ≤ d) (hG : g_G M) (q1 : (M.2.1 28 7).toInt = n9) (q2 : 0 ≤ n9) (q3 : WKc D9 M A9 n9 []) (q4 : BLKX A9 0 n9 0) (q5 : ca ≤ 30) (q6 : m9 ≤ 30) (q7 : 0 ≤ ho) (q8 : ho ≤ 60) (q9 : PKc M P9) (q10 : x_pg P9 m9 ca) (q11 : PLC M K ov ho ca 30) (q12 : GDA D9 ho A9 n9) (h : ∀ (r : Int32) (M1 : mm_M), g_G M1 → FR md_wd M M1 → (0 ≤ r.toInt) → (r.toInt ≤ 1) → (∃ P1 : x_P, PKc M1 P1 ∧ x_pg P1 m9 ca ∧ RUN A9 (x_U D9 (x_dt K ov ho) A9) n9 (0, [], 0, (0, P9)) (1 - r.toInt, (M1.2.1 28 8).toInt, ((M1.2.1 28 9).toInt, P1))) → Q (some (.int r)) M1) : mm_T X d 106 0 [.ref 28, .ref 17] [] M Q := by
  have F0 : FR md_wd M M := FR.rf
  have b_1 := g_b hG (a := 28) (i := 7) (lo := 0) (hi := 40) rfl rfl
  refine to_an (pc := 0) rw_106_0 rfl ?_
  refine to_c (pc := 1) rw_106_1 (x := (0 : Int32)) rfl rfl ?_
  refine s_pI (pc := 2) rw_106_2 hG rfl (fun M3 W2 => ?_)
  have hG4 := g_w hG W2 (A := 0) rfl (lo := 0) (hi := 3000) rfl rfl (by omega) (by decide)
  have F5 := FR.w F0 W2 (show 28 = 28 ∧ 8 ≤ 8 ∧ 8 ≤ 10 ∨ 19 ≤ 28 ∧ 28 ≤ 26 by decide)
  refine to_an (pc := 5) rw_106_5 rfl ?_
  refine to_c (pc := 6) rw_106_6 (x := (0 : Int32)) rfl rfl ?_
  refine s_pI (pc := 7) rw_106_7 hG4 rfl (fun M7 W6 => ?_)
  have hG8 := g_wf hG4 W6 rfl rfl (by decide)
  have F9 := FR.w F5 W6 (show 28 = 28 ∧ 8 ≤ 9 ∧ 9 ≤ 10 ∨ 19 ≤ 28 ∧ 28 ≤ 26 by decide)
  refine to_an (pc := 10) rw_106_10 rfl ?_
  refine to_c (pc := 11) rw_106_11 (x := (0 : Int32)) rfl rfl ?_
  refine s_pZ (pc := 12) rw_106_12 hG8 rfl (A := 0) rfl (by omega) (fun M11 W10 => ?_)
  have hG12 := g_w hG8 W10 (A := 0) rfl (lo := 0) (hi := 1) rfl rfl (by omega) (by decide)
  have F13 := FR.w F9 W10 (show 28 = 28 ∧ 8 ≤ 10 ∧ 10 ≤ 10 ∨ 19 ≤ 28 ∧ 28 ≤ 26 by decide)
  refine to_an (pc := 15) rw_106_15 rfl ?_
  refine to_an (pc := 16) rw_106_16 rfl ?_
  refine to_c (pc := 17) rw_106_17 (x := (0 : Int32)) rfl rfl ?_
  refine to_an (pc := 18) rw_106_18 rfl ?_
  have c_14 : M11.2.1 28 7 = (M.2.1 28 7) := (W_n W10 (by decide) (W_n W6 (by decide) (W_n W2 (by decide) rfl)))
  refine tt_gI (pc := 19) rw_106_19 (g_o hG12 rfl) (v := (M.2.1 28 7)) c_14 ?_
  refine to_c (pc := 22) rw_106_22 (x := (0 : Int32)) rfl rfl ?_
  refine s_v (pc := 23) rw_106_23 (dp0 hd (by decide)) (ls0 := [.ref 28, .ref 17, .int (0 : Int32), .int (M.2.1 28 7), .int (0 : Int32), .null]) rfl (Nat.le_of_ble_eq_true rfl) (Nat.le_of_ble_eq_true rfl) rfl (to_rc rfl rfl rfl (g_o hG12 rfl)) rfl ?_
  have k_15 : (0 : Int32).toInt = 0 := rfl
  have c_16 : M11.2.1 28 8 = (0 : Int32) := (W_n W10 (by decide) (W_n W6 (by decide) (W_e W2)))
  have t_17 : (M11.2.1 28 8).toInt = (0 : Int32).toInt := congrArg Int32.toInt c_16
  have c_18 : M11.2.1 28 9 = (0 : Int32) := (W_n W10 (by decide) (W_e W6))
  have t_19 : (M11.2.1 28 9).toInt = (0 : Int32).toInt := congrArg Int32.toInt c_18
  have c_20 : M11.2.1 28 10 = (0 : Int32) := (W_e W10)
  have t_21 : (M11.2.1 28 10).toInt = (0 : Int32).toInt := congrArg Int32.toInt c_20
  have z_22 := (WKc_f (fun a i z => (W_n W10 (by /-r28,10-/ omega) (W_n W6 (by /-r28,9-/ omega) (W_n W2 (by /-r28,8-/ omega) rfl)))) (fun i => (W_j W10 (W_j W6 (W_j W2 rfl)))) q3)
  have j_23 := (PKc_f (fun a i z => W_n W10 (by /-r28,10-/ omega) rfl) (PKc_f (fun a i z => W_n W6 (by /-r28,9-/ omega) rfl) (PKc_f (fun a i z => W_n W2 (by /-r28,8-/ omega) rfl) q9)))
  refine E_107 hX (by omega) hG12 (by omega) (by omega) (by omega) (by omega) (by omega) (by omega) (by omega) (by omega) z_22 (show (M.2.1 28 7).toInt = n9 by omega) (BLKX_v (by omega) (by omega) (by omega) q4) (by omega) (by omega) (by omega) (by omega) j_23 q10 (PLC_f (fun i => (W_j W10 (W_j W6 (W_j W2 rfl)))) q11) q12 (f := (0 : Int32)) (t := (M.2.1 28 7)) (o := (0 : Int32)) (A9 := A9) (n9 := n9) (k9 := []) (D9 := D9) (P9 := P9) (K := K) (ca := ca) (ov := ov) (ho := ho) (m9 := m9) (fun M30 hG25 F24 p_26 p_27 p_28 p_29 => ?_)
  have F31 := FR.c F13 F24 tg_223
  have b_32 := g_b hG25 (a := 28) (i := 10) (lo := 0) (hi := 1) rfl rfl
  have b_33 := g_b hG25 (a := 28) (i := 8) (lo := 0) (hi := 3000) rfl rfl
  obtain ⟨Pc, pc1, pc2, pc3, pc4⟩ := p_29
  refine to_an (pc := 26) rw_106_26 rfl ?_
  refine tt_gZ (pc := 27) rw_106_27 (g_o hG25 rfl) (v := (M30.2.1 28 10)) rfl ?_
  refine b_ine (pc := 30) rw_106_30 (A := (M30.2.1 28 10).toInt) rfl (fun h34 => ?_) (fun h34 => ?_)
  · refine to_c (pc := 37) rw_106_37 (x := (0 : Int32)) rfl rfl ?_
    refine s_r1 (pc := 38) rw_106_38 (A := 0) rfl (by decide) ?_
    exact h (0 : Int32) M30 hG25 F31 (by decide) (by decide) ⟨Pc, pc1, pc2, RUN_r3 (by omega) (by omega) (RUN_v (by omega) rfl (by omega) (ps_q (by omega)) (pc4 (by omega)))⟩
  · refine to_c (pc := 33) rw_106_33 (x := (1 : Int32)) rfl rfl ?_
    refine to_go (pc := 34) rw_106_34 ?_
    refine s_r1 (pc := 38) rw_106_38 (A := 1) rfl (by decide) ?_
    have k_35 : (1 : Int32).toInt = 1 := rfl
    exact h (1 : Int32) M30 hG25 F31 (by decide) (by decide) ⟨Pc, pc1, pc2, RUN_r3 (by omega) (by omega) (RUN_v (by omega) rfl (by omega) (ps_q (by omega)) (pc3 (by omega) _ (RUN_z rfl (by omega))))⟩
