theorem tg_492 {M M1 : mm_M} (F : FR (fun a i : Nat => 18 ≤ a ∧ a ≤ 27) M M1) : ∀ a i : Nat, (a = 29 ∨ a = 34 ∨ a = 35) → M1.2.1 a i = M.2.1 a i := fun a i z => F_n F (show ¬ (18 ≤ a ∧ a ≤ 27) by omega) rfl
theorem tg_493 {M M1 : mm_M} (F : FR (fun a i : Nat => 11 ≤ a ∧ a ≤ 16) M M1) : ∀ a i : Nat, (a = 1 ∧ 5 ≤ i ∧ i ≤ 9 ∨ 3 ≤ a ∧ a ≤ 5) → M1.2.1 a i = M.2.1 a i := fun a i z => F_n F (show ¬ (11 ≤ a ∧ a ≤ 16) by omega) rfl
theorem tg_494 {M M1 : mm_M} (F : FR (fun a i : Nat => a = 1 ∧ 6 ≤ i ∧ i ≤ 11 ∨ 28 ≤ a ∧ a ≤ 35) M M1) : ∀ a i : Nat, PI_r a → M1.2.1 a i = M.2.1 a i := fun a i z => F_n F (show ¬ (a = 1 ∧ 6 ≤ i ∧ i ≤ 11 ∨ 28 ≤ a ∧ a ≤ 35) by omega) rfl
theorem tg_495 {M M1 : mm_M} (F : FR (fun a i : Nat => a = 1 ∧ 6 ≤ i ∧ i ≤ 11 ∨ 28 ≤ a ∧ a ≤ 35) M M1) : ∀ a i : Nat, (7 ≤ a ∧ a ≤ 9) → M1.2.1 a i = M.2.1 a i := fun a i z => F_n F (show ¬ (a = 1 ∧ 6 ≤ i ∧ i ≤ 11 ∨ 28 ≤ a ∧ a ≤ 35) by omega) rfl
theorem tg_496 {M M1 : mm_M} (F : FR (fun a i : Nat => a = 1 ∧ 6 ≤ i ∧ i ≤ 11 ∨ 28 ≤ a ∧ a ≤ 35) M M1) : ∀ a i : Nat, (a = 68 ∨ a = 69 ∨ a = 73 ∨ a = 74) → M1.2.1 a i = M.2.1 a i := fun a i z => F_n F (show ¬ (a = 1 ∧ 6 ≤ i ∧ i ≤ 11 ∨ 28 ≤ a ∧ a ≤ 35) by omega) rfl
theorem tg_497 : ∀ a i : Nat, (a = 1 ∧ 6 ≤ i ∧ i ≤ 11 ∨ 28 ≤ a ∧ a ≤ 35) → (a = 1 ∨ 3 ≤ a ∧ a ≤ 5 ∨ 11 ≤ a ∧ a ≤ 16 ∨ 18 ≤ a ∧ a ≤ 48) := fun a i z => by omega
theorem tg_498 : ∀ a i : Nat, (a = 29 ∨ a = 34 ∨ a = 35) → ¬ (a = 28 ∧ i = 9) := fun a i z => by omega
theorem tg_499 : ∀ a i : Nat, (a = 29 ∨ a = 34 ∨ a = 35) → ¬ (a = 28 ∧ i = 8) := fun a i z => by omega
theorem tg_500 : ∀ a i : Nat, (a = 29 ∨ a = 34 ∨ a = 35) → ¬ (a = 28 ∧ i = 10) := fun a i z => by omega
noncomputable def RE_107 (k : Int) : Prop := ∀ (X : mm_X) (d : Nat) (M : mm_M) (Q : Option Value → mm_M → Prop) (f : Int32) (t : Int32) (o : Int32) (A9 : x_A) (n9 : Int) (k9 : List (Int × Int)), g_X X → (3 + 2 * (6 - o.toInt) ≤ (d : Int)) → g_G M → (0 ≤ f.toInt) → (f.toInt ≤ 40) → (t.toInt ≤ n9) → (n9 ≤ 40) → (0 ≤ o.toInt) → (o.toInt ≤ 5) → ((M.2.1 28 10).toInt = 0) → ((M.2.1 28 9).toInt ≤ (M.2.1 28 8).toInt) → WKc M A9 n9 [] → (x_ec A9 n9 k9 t.toInt) → (BLKX A9 f.toInt t.toInt o.toInt) → 6 - o.toInt < k → (∀ (M1 : mm_M), g_G M1 → FR md_w M M1 → (0 ≤ (M1.2.1 28 10).toInt) → ((M1.2.1 28 10).toInt ≤ 1) → ((M1.2.1 28 9).toInt ≤ (M1.2.1 28 8).toInt) → WKc M1 A9 n9 [] → (((M1.2.1 28 10).toInt = 0 → ∀ R9 : x_DR, RUN A9 n9 (t.toInt, k9, (M1.2.1 28 8).toInt, (M1.2.1 28 9).toInt) R9 → RUN A9 n9 (f.toInt, k9, (M.2.1 28 8).toInt, (M.2.1 28 9).toInt) R9)) → ((¬ (M1.2.1 28 10).toInt = 0 → RUN A9 n9 (f.toInt, k9, (M.2.1 28 8).toInt, (M.2.1 28 9).toInt) (1, (M1.2.1 28 8).toInt, (M1.2.1 28 9).toInt))) → Q (none) M1) → mm_T X d 107 0 [.ref 28, .ref 17, .int f, .int t, .int o, .null] [] M Q
set_option maxRecDepth 4000 in
set_option maxHeartbeats 0 in
theorem U_108_0 {X : mm_X} {d : Nat} {M : mm_M} {Q : Option Value → mm_M → Prop} {s : Int32} {o : Int32} {A9 : x_A} {n9 : Int} {k9 : List (Int × Int)} {t9 : Int} (hX : g_X X) (hd : 2 + 2 * (6 - o.toInt) ≤ (d : Int)) (q1 : 0 ≤ s.toInt) (q2 : s.toInt ≤ 39) (q3 : 0 ≤ o.toInt) (q4 : o.toInt ≤ 5) (q5 : (M.2.1 28 10).toInt = 0) (q6 : s.toInt < t9) (q7 : t9 ≤ n9) (q8 : n9 ≤ 40) (q9 : ¬ (M.2.1 28 8).toInt = 3001) (q10 : (M.2.1 28 9).toInt + 1 ≤ (M.2.1 28 8).toInt) (q11 : WKc M A9 n9 []) (q12 : x_ec A9 n9 k9 t9) (q13 : BLKX A9 s.toInt t9 o.toInt) (hr : RE_107 (6 - o.toInt)) (h : ∀ (M1 : mm_M), g_G M1 → FR md_w M M1 → (0 ≤ (M1.2.1 28 10).toInt) → ((M1.2.1 28 10).toInt ≤ 1) → ((M1.2.1 28 9).toInt ≤ (M1.2.1 28 8).toInt) → WKc M1 A9 n9 [] → (((M1.2.1 28 10).toInt = 0 → ∀ R9 : x_DR, RUN A9 n9 (A9.2.2 (s.toInt).toNat, k9, (M1.2.1 28 8).toInt, (M1.2.1 28 9).toInt) R9 → RUN A9 n9 (s.toInt, k9, (M.2.1 28 8).toInt - 1, (M.2.1 28 9).toInt) R9)) → ((¬ (M1.2.1 28 10).toInt = 0 → RUN A9 n9 (s.toInt, k9, (M.2.1 28 8).toInt - 1, (M.2.1 28 9).toInt) (1, (M1.2.1 28 8).toInt, (M1.2.1 28 9).toInt))) → Q (none) M1) : ∀ nn9 : Nat, (∀ (N : mm_M) (x4 : Int32), g_G N → FR md_w M N → (0 ≤ x4.toInt) → (x4.toInt ≤ 99) → (0 ≤ s.toInt) → (s.toInt ≤ 39) → (o.toInt = o.toInt) → (0 ≤ o.toInt) → (o.toInt ≤ 5) → (x4.toInt ≤ A9.2.1 (s.toInt).toNat) → ((N.2.1 28 9).toInt ≤ (N.2.1 28 8).toInt) → (WKc N A9 n9 []) → (0 ≤ (N.2.1 28 10).toInt) → ((N.2.1 28 10).toInt ≤ 1) → (A9.1 (s.toInt).toNat = 2) → (((N.2.1 28 10).toInt = 0 → ∀ R9 : x_DR, RUN A9 n9 (x_hs A9 s.toInt x4.toInt k9 (N.2.1 28 8).toInt (N.2.1 28 9).toInt) R9 → RUN A9 n9 (s.toInt, k9, (M.2.1 28 8).toInt - 1, (M.2.1 28 9).toInt) R9)) → ((¬ (N.2.1 28 10).toInt = 0 → RUN A9 n9 (s.toInt, k9, (M.2.1 28 8).toInt - 1, (M.2.1 28 9).toInt) (1, (N.2.1 28 8).toInt, (N.2.1 28 9).toInt))) → 99 - x4.toInt < (nn9 : Int) → mm_T X d 108 92 [.ref 28, .ref 17, .int s, .int o, .int x4] [] N Q) := by
  intro nn9
  induction nn9 with
  | zero =>
    intro N x4 hG F0 g1 g2 g3 g4 g5 g6 g7 g8 g9 g10 g11 g12 g13 g14 g15 hm
    have b_1 := g_b hG (a := 28) (i := 8) (lo := 0) (hi := 3000) rfl rfl
    have b_2 := g_b hG (a := 28) (i := 10) (lo := 0) (hi := 1) rfl rfl
    exfalso; omega
  | succ nn9 ih =>
    intro N x4 hG F0 g1 g2 g3 g4 g5 g6 g7 g8 g9 g10 g11 g12 g13 g14 g15 hm
    have b_3 := g_b hG (a := 28) (i := 8) (lo := 0) (hi := 3000) rfl rfl
    have b_4 := g_b hG (a := 28) (i := 10) (lo := 0) (hi := 1) rfl rfl
    have z_5 := BLKX_2 q13 (by omega) g13
    have z_6 := z_5.1
    have z_7 := z_5.2.1
    have z_8 := z_5.2.2.1
    have z_9 := (BLKX_n q13 (by omega)).2
    refine to_i (pc := 92) rw_108_92 rfl (to_an (pc := 94) rw_108_94 rfl (s_gR (pc := 95) rw_108_95 hG rfl (v := 34) rfl (to_in (pc := 98) rw_108_98 rfl (s_ial (pc := 99) rw_108_99 hG rfl (n := 40) rfl rfl (A := s.toInt) rfl (by omega) (by omega) (lo := 0) (hi := 99) rfl rfl (fun v10 w_11 _ _ => ?_)))))
    have z_12 := WKc_m g10 (B := s.toInt) (by omega) (by omega) g13 w_11
    refine b_cge (pc := 100) rw_108_100 (A := x4.toInt) (B := v10.toInt) rfl rfl (fun h13 => ?_) (fun h13 => ?_)
    · refine to_rv (pc := 133) rw_108_133 ?_
      exact h N hG F0 (by omega) (by omega) (by omega) g10 (fun z9 R9 h9 => g14 (by omega) R9 (HS_x (by omega) h9)) g15
    · refine to_an (pc := 103) rw_108_103 rfl (tt_gZ (pc := 104) rw_108_104 (g_o hG rfl) (v := (N.2.1 28 10)) rfl (b_ine (pc := 107) rw_108_107 (A := (N.2.1 28 10).toInt) rfl (fun h14 => ?_) (fun h14 => ?_)))
      · refine to_rv (pc := 133) rw_108_133 ?_
        exact h N hG F0 (by omega) (by omega) (by omega) g10 (fun z9 R9 h9 => g14 (by omega) R9 (HS_x (by omega) h9)) g15
      · refine to_an (pc := 110) rw_108_110 rfl (to_an (pc := 111) rw_108_111 rfl (to_in (pc := 112) rw_108_112 rfl (to_c (pc := 113) rw_108_113 (x := (1 : Int32)) rfl rfl (s_add (pc := 114) rw_108_114 (A := s.toInt) (B := 1) rfl rfl (by omega) (fun v15 e16 => to_an (pc := 115) rw_108_115 rfl (s_gR (pc := 116) rw_108_116 hG rfl (v := 35) rfl (to_in (pc := 119) rw_108_119 rfl (s_ial (pc := 120) rw_108_120 hG rfl (n := 40) rfl rfl (A := s.toInt) rfl (by omega) (by omega) (lo := 0) (hi := 40) rfl rfl (fun v17 w_18 _ _ => ?_)))))))))
        have z_19 := WKc_e g10 (B := s.toInt) (by omega) (by omega) w_18
        refine to_in (pc := 121) rw_108_121 rfl (to_c (pc := 122) rw_108_122 (x := (1 : Int32)) rfl rfl (s_add (pc := 123) rw_108_123 (A := o.toInt) (B := 1) rfl rfl (by omega) (fun v20 e21 => s_v (pc := 124) rw_108_124 (by omega) (ls0 := [.ref 28, .ref 17, .int v15, .int v17, .int v20, .null]) rfl (Nat.le_of_ble_eq_true rfl) (Nat.le_of_ble_eq_true rfl) rfl (to_rc rfl rfl rfl (g_o hG rfl)) rfl (hr X _ _ _ v15 v17 v20 A9 n9 ((s.toInt, A9.2.1 (s.toInt).toNat - x4.toInt) :: k9) hX (by omega) hG (by omega) (by omega) (by omega) (by omega) (by omega) (by omega) (by omega) (by omega) g10 (show A9.2.2 (s.toInt).toNat = v17.toInt by omega) (BLKX_v (by omega) (by omega) (by omega) z_5.2.2.2) (by omega) (fun M30 hG23 F22 p_24 p_25 p_26 p_27 p_28 p_29 => ?_)))))
        have F31 := FR.c F0 F22 tg_237
        have b_32 := g_b hG23 (a := 28) (i := 10) (lo := 0) (hi := 1) rfl rfl
        have b_33 := g_b hG23 (a := 28) (i := 8) (lo := 0) (hi := 3000) rfl rfl
        refine s_inc (pc := 127) rw_108_127 (ls2 := fun v => [.ref 28, .ref 17, .int s, .int o, .int v]) rfl rfl (fun _ => rfl) (A := x4.toInt) (B := 1) rfl rfl (by omega) (fun v34 e35 => to_go (pc := 130) rw_108_130 ?_)
        exact ih M30 v34 hG23 F31 (by omega) (by omega) (by omega) (by omega) (by omega) (by omega) (by omega) (by omega) (by omega) p_27 (by omega) (by omega) g13 (fun z9 R9 h9 => g14 (by omega) R9 (HS_i (by omega) (by omega) (RUN_v (by omega) rfl (by omega) (by omega) (p_28 (by omega) R9 (RUN_v (by omega) rfl (by omega) (by omega) (HS_n (by omega) (by omega) (by omega) h9)))))) (fun z9 => g14 (by omega) _ (HS_i (by omega) (by omega) (RUN_v (by omega) rfl (by omega) (by omega) (p_29 (by omega))))) (by omega)
set_option maxRecDepth 4000 in
set_option maxHeartbeats 0 in
theorem E_108 {X : mm_X} {d : Nat} {M : mm_M} {Q : Option Value → mm_M → Prop} {s : Int32} {o : Int32} {A9 : x_A} {n9 : Int} {k9 : List (Int × Int)} {t9 : Int} (hX : g_X X) (hd : 2 + 2 * (6 - o.toInt) ≤ (d : Int)) (hG : g_G M) (q1 : 0 ≤ s.toInt) (q2 : s.toInt ≤ 39) (q3 : 0 ≤ o.toInt) (q4 : o.toInt ≤ 5) (q5 : (M.2.1 28 10).toInt = 0) (q6 : s.toInt < t9) (q7 : t9 ≤ n9) (q8 : n9 ≤ 40) (q9 : ¬ (M.2.1 28 8).toInt = 3001) (q10 : (M.2.1 28 9).toInt + 1 ≤ (M.2.1 28 8).toInt) (q11 : WKc M A9 n9 []) (q12 : x_ec A9 n9 k9 t9) (q13 : BLKX A9 s.toInt t9 o.toInt) (hr : RE_107 (6 - o.toInt)) (h : ∀ (M1 : mm_M), g_G M1 → FR md_w M M1 → (0 ≤ (M1.2.1 28 10).toInt) → ((M1.2.1 28 10).toInt ≤ 1) → ((M1.2.1 28 9).toInt ≤ (M1.2.1 28 8).toInt) → WKc M1 A9 n9 [] → (((M1.2.1 28 10).toInt = 0 → ∀ R9 : x_DR, RUN A9 n9 (A9.2.2 (s.toInt).toNat, k9, (M1.2.1 28 8).toInt, (M1.2.1 28 9).toInt) R9 → RUN A9 n9 (s.toInt, k9, (M.2.1 28 8).toInt - 1, (M.2.1 28 9).toInt) R9)) → ((¬ (M1.2.1 28 10).toInt = 0 → RUN A9 n9 (s.toInt, k9, (M.2.1 28 8).toInt - 1, (M.2.1 28 9).toInt) (1, (M1.2.1 28 8).toInt, (M1.2.1 28 9).toInt))) → Q (none) M1) : mm_T X d 108 0 [.ref 28, .ref 17, .int s, .int o, .null] [] M Q := by
  have F0 : FR md_w M M := FR.rf
  have b_36 := g_b hG (a := 28) (i := 10) (lo := 0) (hi := 1) rfl rfl
  have b_37 := g_b hG (a := 28) (i := 8) (lo := 0) (hi := 3000) rfl rfl
  refine to_an (pc := 0) rw_108_0 rfl (s_gR (pc := 1) rw_108_1 hG rfl (v := 29) rfl (to_in (pc := 4) rw_108_4 rfl (s_ial (pc := 5) rw_108_5 hG rfl (n := 40) rfl rfl (A := s.toInt) rfl (by omega) (by omega) (lo := -2147483648) (hi := 2147483647) rfl rfl (fun v38 w_39 _ _ => ?_))))
  have z_40 := WKc_k q11 (B := s.toInt) (by omega) (by omega) w_39
  refine to_c (pc := 6) rw_108_6 (x := (538561536 : Int32)) rfl rfl (b_cne (pc := 8) rw_108_8 (A := v38.toInt) (B := 538561536) rfl rfl (fun h41 => ?_) (fun h41 => ?_))
  · refine to_an (pc := 52) rw_108_52 rfl (s_gR (pc := 53) rw_108_53 hG rfl (v := 29) rfl (to_in (pc := 56) rw_108_56 rfl (s_ialk (pc := 57) rw_108_57 hG rfl (n := 40) rfl rfl (A := s.toInt) rfl (by omega) (by omega) (v := v38) w_39 (to_c (pc := 58) rw_108_58 (x := (351582208 : Int32)) rfl rfl (b_cne (pc := 60) rw_108_60 (A := v38.toInt) (B := 351582208) rfl rfl (fun h44 => ?_) (fun h44 => ?_))))))
    · have z_45 : A9.1 (s.toInt).toNat = 2 := x_kw_2 (q11 (s.toInt).toNat (by omega)).1 (by omega) (by omega)
      have z_46 := BLKX_2 q13 (by omega) z_45
      have z_47 := z_46.1
      have z_48 := z_46.2.1
      have z_49 := z_46.2.2.1
      refine to_c (pc := 89) rw_108_89 (x := (0 : Int32)) rfl rfl (to_is (pc := 90) rw_108_90 (ls2 := [.ref 28, .ref 17, .int s, .int o, .int (0 : Int32)]) rfl rfl ?_)
      have k_50 : (0 : Int32).toInt = 0 := rfl
      exact (U_108_0 (s := s) (o := o) (A9 := A9) (n9 := n9) (k9 := k9) (t9 := t9) hX hd q1 q2 q3 q4 q5 q6 q7 q8 q9 q10 q11 q12 q13 hr h ((99 - (0 : Int32).toInt).toNat + 1)) M (0 : Int32) hG F0 (by omega) (by omega) (by omega) (by omega) (by omega) (by omega) (by omega) (by omega) (by omega) q11 (by omega) (by omega) z_45 (fun _ R9 h9 => HS_0 (dn2 := (M.2.1 28 8).toInt) q12 (by omega) (by omega) (by omega) z_45 (by omega) (by omega) (RUN_w rfl (by omega) (by omega) h9)) (fun z => by exfalso; omega) (by omega)
    · have z_51 : A9.1 (s.toInt).toNat = 1 := x_kw_1 (q11 (s.toInt).toNat (by omega)).1 (by omega)
      have z_52 := BLKX_1 q13 (by omega) (by omega)
      refine to_an (pc := 63) rw_108_63 rfl (to_an (pc := 64) rw_108_64 rfl (s_gR (pc := 65) rw_108_65 hG rfl (v := 30) rfl (to_in (pc := 68) rw_108_68 rfl (s_ial (pc := 69) rw_108_69 hG rfl (n := 40) rfl rfl (A := s.toInt) rfl (by omega) (by omega) (lo := 0) (hi := 5) rfl rfl (fun v53 w_54 _ _ => to_an (pc := 70) rw_108_70 rfl (s_gR (pc := 71) rw_108_71 hG rfl (v := 31) rfl (to_in (pc := 74) rw_108_74 rfl (s_ial (pc := 75) rw_108_75 hG rfl (n := 40) rfl rfl (A := s.toInt) rfl (by omega) (by omega) (lo := 0) (hi := 5) rfl rfl (fun v55 w_56 _ _ => to_an (pc := 76) rw_108_76 rfl (s_gR (pc := 77) rw_108_77 hG rfl (v := 31) rfl (to_in (pc := 80) rw_108_80 rfl ?_)))))))))))
      refine s_ialk (pc := 81) rw_108_81 hG rfl (n := 40) rfl rfl (A := s.toInt) rfl (by omega) (by omega) (v := v55) w_56 (s_cl (pc := 82) rw_108_82 rfl (fun l59 => s_v (pc := 83) rw_108_83 (by omega) (ls0 := [.ref 17, .int v53, .int v55, .int v55, .long l59, .null, .null, .null]) rfl (Nat.le_of_ble_eq_true rfl) (Nat.le_of_ble_eq_true rfl) rfl (to_rc rfl rfl rfl (g_o hG rfl)) rfl (C_28 hX (by omega) hG (by omega) (by omega) (by omega) (by omega) (by omega) (by omega) (f := v53) (a := v55) (b := v55) (x := l59) (fun M62 hG61 F60 => ?_))))
      have F63 := FR.c F0 F60 tg_238
      refine to_go (pc := 86) rw_108_86 (to_rv (pc := 133) rw_108_133 ?_)
      have c_64 : M62.2.1 28 10 = (M.2.1 28 10) := (F_n F60 (show ¬ (18 ≤ 28 ∧ 28 ≤ 27) by decide) rfl)
      have t_65 : (M62.2.1 28 10).toInt = (M.2.1 28 10).toInt := congrArg Int32.toInt c_64
      have c_66 : M62.2.1 28 9 = (M.2.1 28 9) := (F_n F60 (show ¬ (18 ≤ 28 ∧ 28 ≤ 27) by decide) rfl)
      have t_67 : (M62.2.1 28 9).toInt = (M.2.1 28 9).toInt := congrArg Int32.toInt c_66
      have c_68 : M62.2.1 28 8 = (M.2.1 28 8) := (F_n F60 (show ¬ (18 ≤ 28 ∧ 28 ≤ 27) by decide) rfl)
      have t_69 : (M62.2.1 28 8).toInt = (M.2.1 28 8).toInt := congrArg Int32.toInt c_68
      have j_70 := (WKc_f (tg_492 F60) q11)
      exact h M62 hG61 F63 (by omega) (by omega) (by omega) j_70 (fun _ R9 h9 => r_jn q12 (by omega) (by omega) (by omega) z_51 (RUN_v (by omega) rfl (by omega) (by omega) h9)) (fun z => by exfalso; omega)
  · have z_71 : A9.1 (s.toInt).toNat = 0 := x_kw_0 (q11 (s.toInt).toNat (by omega)).1 (by omega)
    have z_72 := BLKX_1 q13 (by omega) (by omega)
    refine to_an (pc := 11) rw_108_11 rfl (to_dupr (pc := 12) rw_108_12 (tt_gI (pc := 13) rw_108_13 (g_o hG rfl) (v := (M.2.1 28 9)) rfl (to_c (pc := 16) rw_108_16 (x := (1 : Int32)) rfl rfl ?_)))
    have i_75 := i_of (x := (M.2.1 28 9))
    refine s_add (pc := 17) rw_108_17 (A := (M.2.1 28 9).toInt) (B := 1) rfl rfl (by omega) (fun v73 e74 => s_pI (pc := 18) rw_108_18 hG rfl (fun M77 W76 => ?_))
    have hG78 := g_wf hG W76 rfl rfl (by decide)
    have F79 := FR.w F0 W76 (show 18 ≤ 28 ∧ 28 ≤ 35 by decide)
    refine to_an (pc := 21) rw_108_21 rfl (to_an (pc := 22) rw_108_22 rfl (s_gR (pc := 23) rw_108_23 hG78 rfl (v := 30) rfl (to_in (pc := 26) rw_108_26 rfl (s_ial (pc := 27) rw_108_27 hG78 rfl (n := 40) rfl rfl (A := s.toInt) rfl (by omega) (by omega) (lo := 0) (hi := 5) rfl rfl (fun v80 w_81 _ _ => ?_)))))
    have j_82 := (WKc_f (fun a i z => W_n W76 (tg_498 a i z) rfl) q11)
    refine to_an (pc := 28) rw_108_28 rfl (s_gR (pc := 29) rw_108_29 hG78 rfl (v := 31) rfl (to_in (pc := 32) rw_108_32 rfl (s_ial (pc := 33) rw_108_33 hG78 rfl (n := 40) rfl rfl (A := s.toInt) rfl (by omega) (by omega) (lo := 0) (hi := 5) rfl rfl (fun v83 w_84 _ _ => to_an (pc := 34) rw_108_34 rfl (s_gR (pc := 35) rw_108_35 hG78 rfl (v := 32) rfl (to_in (pc := 38) rw_108_38 rfl (s_ial (pc := 39) rw_108_39 hG78 rfl (n := 40) rfl rfl (A := s.toInt) rfl (by omega) (by omega) (lo := 0) (hi := 5) rfl rfl (fun v85 w_86 _ _ => to_an (pc := 40) rw_108_40 rfl (s_gR (pc := 41) rw_108_41 hG78 rfl (v := 33) rfl (to_in (pc := 44) rw_108_44 rfl (s_lal (pc := 45) rw_108_45 hG78 rfl (n := 40) rfl (A := s.toInt) rfl (by omega) (by omega) (fun l87 => ?_))))))))))))
    refine s_v (pc := 46) rw_108_46 (by omega) (ls0 := [.ref 17, .int v80, .int v83, .int v85, .long l87, .null, .null, .null]) rfl (Nat.le_of_ble_eq_true rfl) (Nat.le_of_ble_eq_true rfl) rfl (to_rc rfl rfl rfl (g_o hG78 rfl)) rfl (C_28 hX (by omega) hG78 (by omega) (by omega) (by omega) (by omega) (by omega) (by omega) (f := v80) (a := v83) (b := v85) (x := l87) (fun M90 hG89 F88 => ?_))
    have F91 := FR.c F79 F88 tg_238
    refine to_go (pc := 49) rw_108_49 (to_rv (pc := 133) rw_108_133 ?_)
    have c_92 : M90.2.1 28 10 = (M.2.1 28 10) := (F_n F88 (show ¬ (18 ≤ 28 ∧ 28 ≤ 27) by decide) (W_n W76 (by decide) rfl))
    have t_93 : (M90.2.1 28 10).toInt = (M.2.1 28 10).toInt := congrArg Int32.toInt c_92
    have c_94 : M90.2.1 28 9 = v73 := (F_n F88 (show ¬ (18 ≤ 28 ∧ 28 ≤ 27) by decide) (W_e W76))
    have t_95 : (M90.2.1 28 9).toInt = v73.toInt := congrArg Int32.toInt c_94
    have c_96 : M90.2.1 28 8 = (M.2.1 28 8) := (F_n F88 (show ¬ (18 ≤ 28 ∧ 28 ≤ 27) by decide) (W_n W76 (by decide) rfl))
    have t_97 : (M90.2.1 28 8).toInt = (M.2.1 28 8).toInt := congrArg Int32.toInt c_96
    have j_98 := (WKc_f (tg_492 F88) j_82)
    exact h M90 hG89 F91 (by omega) (by omega) (by omega) j_98 (fun _ R9 h9 => r_ps q12 (by omega) (by omega) (by omega) z_71 (RUN_v (by omega) rfl (by omega) (by omega) h9)) (fun z => by exfalso; omega)
set_option maxRecDepth 4000 in
set_option maxHeartbeats 0 in
theorem U_107_0 {X : mm_X} {d : Nat} {M : mm_M} {Q : Option Value → mm_M → Prop} {f : Int32} {t : Int32} {o : Int32} {A9 : x_A} {n9 : Int} {k9 : List (Int × Int)} (hX : g_X X) (hd : 3 + 2 * (6 - o.toInt) ≤ (d : Int)) (q1 : 0 ≤ f.toInt) (q2 : f.toInt ≤ 40) (q3 : t.toInt ≤ n9) (q4 : n9 ≤ 40) (q5 : 0 ≤ o.toInt) (q6 : o.toInt ≤ 5) (q7 : (M.2.1 28 10).toInt = 0) (q8 : (M.2.1 28 9).toInt ≤ (M.2.1 28 8).toInt) (q9 : WKc M A9 n9 []) (q10 : x_ec A9 n9 k9 t.toInt) (q11 : BLKX A9 f.toInt t.toInt o.toInt) (hr : RE_107 (6 - o.toInt)) (h : ∀ (M1 : mm_M), g_G M1 → FR md_w M M1 → (0 ≤ (M1.2.1 28 10).toInt) → ((M1.2.1 28 10).toInt ≤ 1) → ((M1.2.1 28 9).toInt ≤ (M1.2.1 28 8).toInt) → WKc M1 A9 n9 [] → (((M1.2.1 28 10).toInt = 0 → ∀ R9 : x_DR, RUN A9 n9 (t.toInt, k9, (M1.2.1 28 8).toInt, (M1.2.1 28 9).toInt) R9 → RUN A9 n9 (f.toInt, k9, (M.2.1 28 8).toInt, (M.2.1 28 9).toInt) R9)) → ((¬ (M1.2.1 28 10).toInt = 0 → RUN A9 n9 (f.toInt, k9, (M.2.1 28 8).toInt, (M.2.1 28 9).toInt) (1, (M1.2.1 28 8).toInt, (M1.2.1 28 9).toInt))) → Q (none) M1) : ∀ nn9 : Nat, (∀ (N : mm_M) (u2 : Value) (x5 : Int32), g_G N → FR md_w M N → (0 ≤ x5.toInt) → (x5.toInt ≤ t.toInt) → (x5.toInt ≤ 40) → (o.toInt = o.toInt) → (0 ≤ o.toInt) → (o.toInt ≤ 5) → ((N.2.1 28 9).toInt ≤ (N.2.1 28 8).toInt) → (WKc N A9 n9 []) → (0 ≤ (N.2.1 28 10).toInt) → ((N.2.1 28 10).toInt ≤ 1) → (BLKX A9 x5.toInt t.toInt o.toInt) → (((N.2.1 28 10).toInt = 0 → ∀ R9 : x_DR, RUN A9 n9 (x5.toInt, k9, (N.2.1 28 8).toInt, (N.2.1 28 9).toInt) R9 → RUN A9 n9 (f.toInt, k9, (M.2.1 28 8).toInt, (M.2.1 28 9).toInt) R9)) → ((¬ (N.2.1 28 10).toInt = 0 → RUN A9 n9 (f.toInt, k9, (M.2.1 28 8).toInt, (M.2.1 28 9).toInt) (1, (N.2.1 28 8).toInt, (N.2.1 28 9).toInt))) → 40 - x5.toInt < (nn9 : Int) → mm_T X d 107 10 [.ref 28, .ref 17, u2, .int t, .int o, .int x5] [] N Q) := by
  intro nn9
  induction nn9 with
  | zero =>
    intro N u2 x5 hG F0 g1 g2 g3 g4 g5 g6 g7 g8 g9 g10 g11 g12 g13 hm
    have b_1 := g_b hG (a := 28) (i := 8) (lo := 0) (hi := 3000) rfl rfl
    have b_2 := g_b hG (a := 28) (i := 10) (lo := 0) (hi := 1) rfl rfl
    exfalso; omega
  | succ nn9 ih =>
    intro N u2 x5 hG F0 g1 g2 g3 g4 g5 g6 g7 g8 g9 g10 g11 g12 g13 hm
    have b_3 := g_b hG (a := 28) (i := 8) (lo := 0) (hi := 3000) rfl rfl
    have b_4 := g_b hG (a := 28) (i := 10) (lo := 0) (hi := 1) rfl rfl
    have z_5 := BLKX_le g11
    refine to_i (pc := 10) rw_107_10 rfl (to_in (pc := 12) rw_107_12 rfl (b_cge (pc := 13) rw_107_13 (A := x5.toInt) (B := t.toInt) rfl rfl (fun h6 => ?_) (fun h6 => ?_)))
    · refine to_rv (pc := 86) rw_107_86 ?_
      exact h N hG F0 (by omega) (by omega) (by omega) g8 (fun z9 R9 h9 => g12 (by omega) R9 (RUN_v (by omega) rfl (by omega) (by omega) h9)) (fun z9 => g13 (by omega))
    · refine to_i (pc := 16) rw_107_16 rfl (to_c (pc := 18) rw_107_18 (x := (40 : Int32)) rfl rfl (b_cge (pc := 20) rw_107_20 (A := x5.toInt) (B := 40) rfl rfl (fun h7 => ?_) (fun h7 => ?_)))
      · refine to_rv (pc := 86) rw_107_86 ?_
        exact h N hG F0 (by omega) (by omega) (by omega) g8 (fun z9 R9 h9 => g12 (by omega) R9 (RUN_v (by omega) rfl (by omega) (by omega) h9)) (fun z9 => g13 (by omega))
      · refine to_an (pc := 23) rw_107_23 rfl (tt_gZ (pc := 24) rw_107_24 (g_o hG rfl) (v := (N.2.1 28 10)) rfl (b_ine (pc := 27) rw_107_27 (A := (N.2.1 28 10).toInt) rfl (fun h8 => ?_) (fun h8 => ?_)))
        · refine to_rv (pc := 86) rw_107_86 ?_
          exact h N hG F0 (by omega) (by omega) (by omega) g8 (fun z9 R9 h9 => g12 (by omega) R9 (RUN_v (by omega) rfl (by omega) (by omega) h9)) (fun z9 => g13 (by omega))
        · have z_9 := BLKX_n g11 (by omega)
          have z_10 := z_9.2
          refine to_an (pc := 30) rw_107_30 rfl (tt_gI (pc := 31) rw_107_31 (g_o hG rfl) (v := (N.2.1 28 8)) rfl (to_c (pc := 34) rw_107_34 (x := (3000 : Int32)) rfl rfl (b_clt (pc := 37) rw_107_37 (A := (N.2.1 28 8).toInt) (B := 3000) rfl rfl (fun h11 => ?_) (fun h11 => ?_))))
          · refine to_an (pc := 48) rw_107_48 rfl (to_dupr (pc := 49) rw_107_49 (tt_gI (pc := 50) rw_107_50 (g_o hG rfl) (v := (N.2.1 28 8)) rfl (to_c (pc := 53) rw_107_53 (x := (1 : Int32)) rfl rfl (s_add (pc := 54) rw_107_54 (A := (N.2.1 28 8).toInt) (B := 1) rfl rfl (by omega) (fun v12 e13 => s_pI (pc := 55) rw_107_55 hG rfl (fun M15 W14 => ?_))))))
            have hG16 := g_w hG W14 (A := v12.toInt) rfl (lo := 0) (hi := 3000) rfl rfl (by omega) (by decide)
            have F17 := FR.w F0 W14 (show 18 ≤ 28 ∧ 28 ≤ 35 by decide)
            refine to_an (pc := 58) rw_107_58 rfl (to_an (pc := 59) rw_107_59 rfl (to_i (pc := 60) rw_107_60 rfl (to_i (pc := 62) rw_107_62 rfl (s_v (pc := 64) rw_107_64 (by omega) (ls0 := [.ref 28, .ref 17, .int x5, .int o, .null]) rfl (Nat.le_of_ble_eq_true rfl) (Nat.le_of_ble_eq_true rfl) rfl (to_rc rfl rfl rfl (g_o hG16 rfl)) rfl ?_))))
            have c_18 : M15.2.1 28 8 = v12 := (W_e W14)
            have t_19 : (M15.2.1 28 8).toInt = v12.toInt := congrArg Int32.toInt c_18
            have c_20 : M15.2.1 28 9 = (N.2.1 28 9) := (W_n W14 (by decide) rfl)
            have t_21 : (M15.2.1 28 9).toInt = (N.2.1 28 9).toInt := congrArg Int32.toInt c_20
            have c_22 : M15.2.1 28 10 = (N.2.1 28 10) := (W_n W14 (by decide) rfl)
            have t_23 : (M15.2.1 28 10).toInt = (N.2.1 28 10).toInt := congrArg Int32.toInt c_22
            have j_24 := (WKc_f (fun a i z => W_n W14 (tg_499 a i z) rfl) g8)
            refine E_108 hX (by omega) hG16 (by omega) (by omega) (by omega) (by omega) (by omega) (by omega) (by omega) (by omega) (by omega) (by omega) j_24 q10 (BLKX_v (by omega) (by omega) (by omega) g11) hr (s := x5) (o := o) (A9 := A9) (n9 := n9) (k9 := k9) (t9 := t.toInt) (fun M33 hG26 F25 p_27 p_28 p_29 p_30 p_31 p_32 => ?_)
            have F34 := FR.c F17 F25 tg_237
            have b_35 := g_b hG26 (a := 28) (i := 10) (lo := 0) (hi := 1) rfl rfl
            have b_36 := g_b hG26 (a := 28) (i := 8) (lo := 0) (hi := 3000) rfl rfl
            refine to_i (pc := 67) rw_107_67 rfl (to_c (pc := 69) rw_107_69 (x := (1 : Int32)) rfl rfl (s_add (pc := 70) rw_107_70 (A := x5.toInt) (B := 1) rfl rfl (by omega) (fun v37 e38 => to_an (pc := 71) rw_107_71 rfl (s_gR (pc := 72) rw_107_72 hG26 rfl (v := 35) rfl (to_i (pc := 75) rw_107_75 rfl (s_ial (pc := 77) rw_107_77 hG26 rfl (n := 40) rfl rfl (A := x5.toInt) rfl (by omega) (by omega) (lo := 0) (hi := 40) rfl rfl (fun v39 w_40 _ _ => ?_)))))))
            have z_41 := WKc_e p_30 (B := x5.toInt) (by omega) (by omega) w_40
            refine s_max (pc := 78) rw_107_78 rfl (A := v37.toInt) (B := v39.toInt) rfl rfl (fun v42 _ _ _ => to_is (pc := 81) rw_107_81 (ls2 := [.ref 28, .ref 17, u2, .int t, .int o, .int v42]) rfl rfl (to_go (pc := 83) rw_107_83 ?_))
            exact ih M33 (u2) v42 hG26 F34 (by omega) (by omega) (by omega) (by omega) (by omega) (by omega) (by omega) p_30 (by omega) (by omega) (BLKX_v (by omega) (by omega) (by omega) z_9.1) (fun z9 R9 h9 => g12 (by omega) R9 (RUN_v (by omega) rfl (by omega) (by omega) (p_31 (by omega) R9 (RUN_v (by omega) rfl (by omega) (by omega) h9)))) (fun z9 => g12 (by omega) _ (RUN_v (by omega) rfl (by omega) (by omega) (p_32 (by omega)))) (by omega)
          · refine to_an (pc := 40) rw_107_40 rfl (to_c (pc := 41) rw_107_41 (x := (1 : Int32)) rfl rfl (s_pZ (pc := 42) rw_107_42 hG rfl (A := 1) rfl (by omega) (fun M44 W43 => ?_)))
            have hG45 := g_w hG W43 (A := 1) rfl (lo := 0) (hi := 1) rfl rfl (by omega) (by decide)
            have F46 := FR.w F0 W43 (show 18 ≤ 28 ∧ 28 ≤ 35 by decide)
            refine to_go (pc := 45) rw_107_45 (to_i (pc := 67) rw_107_67 rfl (to_c (pc := 69) rw_107_69 (x := (1 : Int32)) rfl rfl (s_add (pc := 70) rw_107_70 (A := x5.toInt) (B := 1) rfl rfl (by omega) (fun v47 e48 => to_an (pc := 71) rw_107_71 rfl (s_gR (pc := 72) rw_107_72 hG45 rfl (v := 35) rfl (to_i (pc := 75) rw_107_75 rfl (s_ial (pc := 77) rw_107_77 hG45 rfl (n := 40) rfl rfl (A := x5.toInt) rfl (by omega) (by omega) (lo := 0) (hi := 40) rfl rfl (fun v49 w_50 _ _ => ?_))))))))
            have j_51 := (WKc_f (fun a i z => W_n W43 (tg_500 a i z) rfl) g8)
            have z_52 := WKc_e j_51 (B := x5.toInt) (by omega) (by omega) w_50
            refine s_max (pc := 78) rw_107_78 rfl (A := v47.toInt) (B := v49.toInt) rfl rfl (fun v53 _ _ _ => to_is (pc := 81) rw_107_81 (ls2 := [.ref 28, .ref 17, u2, .int t, .int o, .int v53]) rfl rfl (to_go (pc := 83) rw_107_83 ?_))
            have c_54 : M44.2.1 28 9 = (N.2.1 28 9) := (W_n W43 (by decide) rfl)
            have t_55 : (M44.2.1 28 9).toInt = (N.2.1 28 9).toInt := congrArg Int32.toInt c_54
            have c_56 : M44.2.1 28 8 = (N.2.1 28 8) := (W_n W43 (by decide) rfl)
            have t_57 : (M44.2.1 28 8).toInt = (N.2.1 28 8).toInt := congrArg Int32.toInt c_56
            have c_58 : M44.2.1 28 10 = (1 : Int32) := (W_e W43)
            have k_59 : (1 : Int32).toInt = 1 := rfl
            have t_60 : (M44.2.1 28 10).toInt = (1 : Int32).toInt := congrArg Int32.toInt c_58
            exact ih M44 (u2) v53 hG45 F46 (by omega) (by omega) (by omega) (by omega) (by omega) (by omega) (by omega) j_51 (by omega) (by omega) (BLKX_v (by omega) (by omega) (by omega) z_9.1) (fun z => by exfalso; omega) (fun _ => RUN_r (by omega) (by omega) (g12 (by omega) _ (r_sp q10 (by omega) (by omega) (by omega)))) (by omega)
set_option maxRecDepth 4000 in
set_option maxHeartbeats 0 in
theorem BE_107 {X : mm_X} {d : Nat} {M : mm_M} {Q : Option Value → mm_M → Prop} {f : Int32} {t : Int32} {o : Int32} {A9 : x_A} {n9 : Int} {k9 : List (Int × Int)} (hX : g_X X) (hd : 3 + 2 * (6 - o.toInt) ≤ (d : Int)) (hG : g_G M) (q1 : 0 ≤ f.toInt) (q2 : f.toInt ≤ 40) (q3 : t.toInt ≤ n9) (q4 : n9 ≤ 40) (q5 : 0 ≤ o.toInt) (q6 : o.toInt ≤ 5) (q7 : (M.2.1 28 10).toInt = 0) (q8 : (M.2.1 28 9).toInt ≤ (M.2.1 28 8).toInt) (q9 : WKc M A9 n9 []) (q10 : x_ec A9 n9 k9 t.toInt) (q11 : BLKX A9 f.toInt t.toInt o.toInt) (hr : RE_107 (6 - o.toInt)) (h : ∀ (M1 : mm_M), g_G M1 → FR md_w M M1 → (0 ≤ (M1.2.1 28 10).toInt) → ((M1.2.1 28 10).toInt ≤ 1) → ((M1.2.1 28 9).toInt ≤ (M1.2.1 28 8).toInt) → WKc M1 A9 n9 [] → (((M1.2.1 28 10).toInt = 0 → ∀ R9 : x_DR, RUN A9 n9 (t.toInt, k9, (M1.2.1 28 8).toInt, (M1.2.1 28 9).toInt) R9 → RUN A9 n9 (f.toInt, k9, (M.2.1 28 8).toInt, (M.2.1 28 9).toInt) R9)) → ((¬ (M1.2.1 28 10).toInt = 0 → RUN A9 n9 (f.toInt, k9, (M.2.1 28 8).toInt, (M.2.1 28 9).toInt) (1, (M1.2.1 28 8).toInt, (M1.2.1 28 9).toInt))) → Q (none) M1) : mm_T X d 107 0 [.ref 28, .ref 17, .int f, .int t, .int o, .null] [] M Q := by
  have F0 : FR md_w M M := FR.rf
  have b_61 := g_b hG (a := 28) (i := 10) (lo := 0) (hi := 1) rfl rfl
  have b_62 := g_b hG (a := 28) (i := 8) (lo := 0) (hi := 3000) rfl rfl
  have z_63 := BLKX_le q11
  refine to_i (pc := 0) rw_107_0 rfl (to_c (pc := 2) rw_107_2 (x := (5 : Int32)) rfl rfl (b_cle_t (pc := 3) rw_107_3 (A := o.toInt) (B := 5) rfl rfl (by omega) (to_in (pc := 7) rw_107_7 rfl (to_is (pc := 8) rw_107_8 (ls2 := [.ref 28, .ref 17, .int f, .int t, .int o, .int f]) rfl rfl ?_))))
  exact (U_107_0 (f := f) (t := t) (o := o) (A9 := A9) (n9 := n9) (k9 := k9) hX hd q1 q2 q3 q4 q5 q6 q7 q8 q9 q10 q11 hr h ((40 - f.toInt).toNat + 1)) M (.int f) f hG F0 (by omega) (by omega) (by omega) (by omega) (by omega) (by omega) (by omega) q9 (by omega) (by omega) (BLKX_v (by omega) (by omega) (by omega) q11) (fun _ R9 h9 => RUN_v (by omega) rfl (by omega) (by omega) h9) (fun z => by exfalso; omega) (by omega)
theorem RE_107_all : ∀ nn : Nat, RE_107 (nn : Int) := by
  intro nn
  induction nn with
  | zero =>
    intro X d M Q f t o A9 n9 k9 hX hd hG q1 q2 q3 q4 q5 q6 q7 q8 q9 q10 q11 hm h
    exfalso; omega
  | succ nn ih =>
    intro X d M Q f t o A9 n9 k9 hX hd hG q1 q2 q3 q4 q5 q6 q7 q8 q9 q10 q11 hm h
    exact BE_107 hX hd hG q1 q2 q3 q4 q5 q6 q7 q8 q9 q10 q11 (fun X2 d2 M2 Q2 f2 t2 o2 A92 n92 k92 e71 e72 e73 q12 q22 q32 q42 q52 q62 q72 q82 q92 q102 q112 hm2 h2 => ih X2 d2 M2 Q2 f2 t2 o2 A92 n92 k92 e71 e72 e73 q12 q22 q32 q42 q52 q62 q72 q82 q92 q102 q112 (by omega) h2) h
theorem E_107 {X : mm_X} {d : Nat} {M : mm_M} {Q : Option Value → mm_M → Prop} {f : Int32} {t : Int32} {o : Int32} {A9 : x_A} {n9 : Int} {k9 : List (Int × Int)} (hX : g_X X) (hd : 3 + 2 * (6 - o.toInt) ≤ (d : Int)) (hG : g_G M) (q1 : 0 ≤ f.toInt) (q2 : f.toInt ≤ 40) (q3 : t.toInt ≤ n9) (q4 : n9 ≤ 40) (q5 : 0 ≤ o.toInt) (q6 : o.toInt ≤ 5) (q7 : (M.2.1 28 10).toInt = 0) (q8 : (M.2.1 28 9).toInt ≤ (M.2.1 28 8).toInt) (q9 : WKc M A9 n9 []) (q10 : x_ec A9 n9 k9 t.toInt) (q11 : BLKX A9 f.toInt t.toInt o.toInt) (h : ∀ (M1 : mm_M), g_G M1 → FR md_w M M1 → (0 ≤ (M1.2.1 28 10).toInt) → ((M1.2.1 28 10).toInt ≤ 1) → ((M1.2.1 28 9).toInt ≤ (M1.2.1 28 8).toInt) → WKc M1 A9 n9 [] → (((M1.2.1 28 10).toInt = 0 → ∀ R9 : x_DR, RUN A9 n9 (t.toInt, k9, (M1.2.1 28 8).toInt, (M1.2.1 28 9).toInt) R9 → RUN A9 n9 (f.toInt, k9, (M.2.1 28 8).toInt, (M.2.1 28 9).toInt) R9)) → ((¬ (M1.2.1 28 10).toInt = 0 → RUN A9 n9 (f.toInt, k9, (M.2.1 28 8).toInt, (M.2.1 28 9).toInt) (1, (M1.2.1 28 8).toInt, (M1.2.1 28 9).toInt))) → Q (none) M1) : mm_T X d 107 0 [.ref 28, .ref 17, .int f, .int t, .int o, .null] [] M Q := RE_107_all ((6 - o.toInt).toNat + 1) X d M Q f t o A9 n9 k9 hX hd hG q1 q2 q3 q4 q5 q6 q7 q8 q9 q10 q11 (by omega) h
set_option maxRecDepth 4000 in
set_option maxHeartbeats 0 in
theorem E_106 {X : mm_X} {d : Nat} {M : mm_M} {Q : Option Value → mm_M → Prop} {A9 : x_A} {n9 : Int} (hX : g_X X) (hd : 16 ≤ d) (hG : g_G M) (q1 : (M.2.1 28 7).toInt = n9) (q2 : 0 ≤ n9) (q3 : WKc M A9 n9 []) (q4 : BLKX A9 0 n9 0) (h : ∀ (r : Int32) (M1 : mm_M), g_G M1 → FR md_w M M1 → (0 ≤ r.toInt) → (r.toInt ≤ 1) → (RUN A9 n9 (0, [], 0, 0) (1 - r.toInt, (M1.2.1 28 8).toInt, (M1.2.1 28 9).toInt)) → Q (some (.int r)) M1) : mm_T X d 106 0 [.ref 28, .ref 17] [] M Q := by
  have F0 : FR md_w M M := FR.rf
  have b_1 := g_b hG (a := 28) (i := 7) (lo := 0) (hi := 40) rfl rfl
  refine to_an (pc := 0) rw_106_0 rfl (to_c (pc := 1) rw_106_1 (x := (0 : Int32)) rfl rfl (s_pI (pc := 2) rw_106_2 hG rfl (fun M3 W2 => ?_)))
  have hG4 := g_w hG W2 (A := 0) rfl (lo := 0) (hi := 3000) rfl rfl (by omega) (by decide)
  have F5 := FR.w F0 W2 (show 18 ≤ 28 ∧ 28 ≤ 35 by decide)
  refine to_an (pc := 5) rw_106_5 rfl (to_c (pc := 6) rw_106_6 (x := (0 : Int32)) rfl rfl (s_pI (pc := 7) rw_106_7 hG4 rfl (fun M7 W6 => ?_)))
  have hG8 := g_wf hG4 W6 rfl rfl (by decide)
  have F9 := FR.w F5 W6 (show 18 ≤ 28 ∧ 28 ≤ 35 by decide)
  refine to_an (pc := 10) rw_106_10 rfl (to_c (pc := 11) rw_106_11 (x := (0 : Int32)) rfl rfl (s_pZ (pc := 12) rw_106_12 hG8 rfl (A := 0) rfl (by omega) (fun M11 W10 => ?_)))
  have hG12 := g_w hG8 W10 (A := 0) rfl (lo := 0) (hi := 1) rfl rfl (by omega) (by decide)
  have F13 := FR.w F9 W10 (show 18 ≤ 28 ∧ 28 ≤ 35 by decide)
  refine to_an (pc := 15) rw_106_15 rfl (to_an (pc := 16) rw_106_16 rfl (to_c (pc := 17) rw_106_17 (x := (0 : Int32)) rfl rfl (to_an (pc := 18) rw_106_18 rfl ?_)))
  have c_14 : M11.2.1 28 7 = (M.2.1 28 7) := (W_n W10 (by decide) (W_n W6 (by decide) (W_n W2 (by decide) rfl)))
  refine tt_gI (pc := 19) rw_106_19 (g_o hG12 rfl) (v := (M.2.1 28 7)) c_14 (to_c (pc := 22) rw_106_22 (x := (0 : Int32)) rfl rfl (s_v (pc := 23) rw_106_23 (dp0 hd (by decide)) (ls0 := [.ref 28, .ref 17, .int (0 : Int32), .int (M.2.1 28 7), .int (0 : Int32), .null]) rfl (Nat.le_of_ble_eq_true rfl) (Nat.le_of_ble_eq_true rfl) rfl (to_rc rfl rfl rfl (g_o hG12 rfl)) rfl ?_))
  have k_15 : (0 : Int32).toInt = 0 := rfl
  have c_16 : M11.2.1 28 8 = (0 : Int32) := (W_n W10 (by decide) (W_n W6 (by decide) (W_e W2)))
  have t_17 : (M11.2.1 28 8).toInt = (0 : Int32).toInt := congrArg Int32.toInt c_16
  have c_18 : M11.2.1 28 9 = (0 : Int32) := (W_n W10 (by decide) (W_e W6))
  have t_19 : (M11.2.1 28 9).toInt = (0 : Int32).toInt := congrArg Int32.toInt c_18
  have c_20 : M11.2.1 28 10 = (0 : Int32) := (W_e W10)
  have t_21 : (M11.2.1 28 10).toInt = (0 : Int32).toInt := congrArg Int32.toInt c_20
  have j_22 := (WKc_f (fun a i z => W_n W10 (tg_500 a i z) rfl) (WKc_f (fun a i z => W_n W6 (tg_498 a i z) rfl) (WKc_f (fun a i z => W_n W2 (tg_499 a i z) rfl) q3)))
  refine E_107 hX (by omega) hG12 (by omega) (by omega) (by omega) (by omega) (by omega) (by omega) (by omega) (by omega) j_22 (show (M.2.1 28 7).toInt = n9 by omega) (BLKX_v (by omega) (by omega) (by omega) q4) (f := (0 : Int32)) (t := (M.2.1 28 7)) (o := (0 : Int32)) (A9 := A9) (n9 := n9) (k9 := []) (fun M31 hG24 F23 p_25 p_26 p_27 p_28 p_29 p_30 => ?_)
  have F32 := FR.c F13 F23 tg_237
  have b_33 := g_b hG24 (a := 28) (i := 10) (lo := 0) (hi := 1) rfl rfl
  have b_34 := g_b hG24 (a := 28) (i := 8) (lo := 0) (hi := 3000) rfl rfl
  refine to_an (pc := 26) rw_106_26 rfl (tt_gZ (pc := 27) rw_106_27 (g_o hG24 rfl) (v := (M31.2.1 28 10)) rfl (b_ine (pc := 30) rw_106_30 (A := (M31.2.1 28 10).toInt) rfl (fun h35 => ?_) (fun h35 => ?_)))
  · refine to_c (pc := 37) rw_106_37 (x := (0 : Int32)) rfl rfl (s_r1 (pc := 38) rw_106_38 (A := 0) rfl (by decide) ?_)
    exact h (0 : Int32) M31 hG24 F32 (by decide) (by decide) (RUN_r3 (by omega) (by omega) (RUN_v (by omega) rfl (by omega) (by omega) (p_30 (by omega))))
  · refine to_c (pc := 33) rw_106_33 (x := (1 : Int32)) rfl rfl (to_go (pc := 34) rw_106_34 (s_r1 (pc := 38) rw_106_38 (A := 1) rfl (by decide) ?_))
    have k_36 : (1 : Int32).toInt = 1 := rfl
    exact h (1 : Int32) M31 hG24 F32 (by decide) (by decide) (RUN_r3 (by omega) (by omega) (RUN_v (by omega) rfl (by omega) (by omega) (p_29 (by omega) _ (RUN_z rfl (by omega)))))
set_option maxRecDepth 4000 in
set_option maxHeartbeats 0 in
theorem E_112 {X : mm_X} {d : Nat} {M : mm_M} {Q : Option Value → mm_M → Prop} {n : Int32} {p : Nat} {pz : Nat} {q : Nat} {qz : Nat} {t : Nat → Int} {nn : Int} {sg : x_S} (hX : g_X X) (hd : 22 ≤ d) (hG : g_G M) (hp : p = 49 ∨ p = 58) (hpz : pz = 49 ∨ pz = 58) (hq : q = 67 ∨ q = 72) (hqz : qz = 67 ∨ qz = 72) (q1 : g_PQ M p pz q qz) (q2 : NI M) (q3 : PI M) (q4 : QI M) (q5 : 0 ≤ n.toInt ∧ n.toInt ≤ (M.2.1 1 1).toInt → n.toInt = nn) (q6 : TT M t nn) (q7 : g_W X) (q8 : PLs M p sg) (h : ∀ (r : Int32) (M1 : mm_M), g_G M1 → FR md_X2 M M1 → (n.toInt < 0 ∨ (M.2.1 1 1).toInt < n.toInt → (M1.2.1 1 1).toInt = (M.2.1 1 1).toInt) → (0 ≤ n.toInt ∧ n.toInt ≤ (M.2.1 1 1).toInt → (M1.2.1 1 1).toInt = 0) → PI M1 → NI M1 → QI M1 → (0 ≤ r.toInt → (M1.2.1 1 10).toInt = 0 ∧ (M1.2.1 1 11).toInt = -1) → (n.toInt < 0 ∨ (M.2.1 1 1).toInt < n.toInt → (M1.2.1 1 10).toInt = (M.2.1 1 10).toInt ∧ (M1.2.1 1 11).toInt = (M.2.1 1 11).toInt) → (n.toInt < 0 ∨ (M.2.1 1 1).toInt < n.toInt → r.toInt = -2) → (-2 ≤ r.toInt) → ((0 ≤ n.toInt ∧ n.toInt ≤ (M.2.1 1 1).toInt → WAN (x_ww t nn sg 0 0 [] x_A0 (x_sk t nn 0)) r.toInt (M1.2.1 28 8).toInt (M1.2.1 28 9).toInt)) → ((r.toInt = -1 → x_ww t nn sg 0 0 [] x_A0 (x_sk t nn 0) = Sum.inl ((M1.2.1 1 10).toInt, (M1.2.1 1 11).toInt))) → (0 ≤ n.toInt ∧ n.toInt ≤ (M.2.1 1 1).toInt → -1 ≤ r.toInt) → Q (some (.int r)) M1) : mm_T X d 112 0 [.ref 0, .int n] [] M Q := by
  have F0 : FR md_X2 M M := FR.rf
  have b_1 := g_b hG (a := 1) (i := 1) (lo := 0) (hi := 500) rfl rfl
  refine to_an (pc := 0) rw_112_0 rfl (s_gR (pc := 1) rw_112_1 hG rfl (v := 1) rfl (to_in (pc := 4) rw_112_4 rfl (s_v (pc := 5) rw_112_5 (dp0 hd (by decide)) (ls0 := [.ref 1, .int n]) rfl (Nat.le_of_ble_eq_true rfl) (Nat.le_of_ble_eq_true rfl) rfl (to_rc rfl rfl rfl (g_o hG rfl)) rfl (E_78 hX (dp1 hd (by decide)) hG (by omega) q6 q7 (n := n) (fun r2 M12 hG4 F3 p_5 p_6 p_7 p_8 p_9 p_10 p_11 => ?_)))))
  have F13 := FR.c F0 F3 tg_274
  have b_14 := g_b hG4 (a := 1) (i := 1) (lo := 0) (hi := 500) rfl rfl
  rcases (show r2.toInt = 0 ∨ r2.toInt = 1 by omega) with h15 | h15
  · skip
    have p_16 := p_10 (by omega)
    clear p_9 p_10 p_11
    refine b_ine_f (pc := 8) rw_112_8 (A := r2.toInt) rfl (by omega) (to_c (pc := 11) rw_112_11 (x := (-2 : Int32)) rfl rfl (to_r0 (pc := 13) rw_112_13 ?_))
    have k_17 : (-2 : Int32).toInt = -2 := rfl
    have j_18 := (PI_f (tg_250 F3) q3)
    have j_19 := (NI_f (tg_254 F3) q2)
    have j_20 := (QI_f (tg_124 F3) q4)
    exact h (-2 : Int32) M12 hG4 F13 (by omega) (by omega) j_18 j_19 j_20 (by omega) (by omega) (by omega) (by omega) (fun z => by exfalso; omega) (fun z => by exfalso; omega) (by omega)
  · skip
    have p_21 := p_9 (by omega)
    have p_22 := p_11 (by omega)
    clear p_9 p_10 p_11
    have z_23 := p_22.2
    refine b_ine_t (pc := 8) rw_112_8 (A := r2.toInt) rfl (by omega) (to_an (pc := 14) rw_112_14 rfl (s_v (pc := 15) rw_112_15 (dp0 hd (by decide)) (ls0 := [.ref 0]) rfl (Nat.le_of_ble_eq_true rfl) (Nat.le_of_ble_eq_true rfl) rfl (to_rc rfl rfl rfl (g_o hG4 rfl)) rfl (to_an (pc := 0) rw_142_0 rfl (s_gR (pc := 1) rw_142_1 hG4 rfl (v := 11) rfl (to_an (pc := 4) rw_142_4 rfl ?_)))))
    have j_24 := (PQ_f F3 q1)
    refine tt_gR (pc := 5) rw_142_5 (g_o hG4 rfl) j_24.1 (to_an (pc := 8) rw_142_8 rfl (s_gR (pc := 9) rw_142_9 hG4 rfl (v := 6) rfl (to_an (pc := 12) rw_142_12 rfl (s_gR (pc := 13) rw_142_13 hG4 rfl (v := 6) rfl ?_))))
    have c_25 : M12.2.1 6 0 = (M.2.1 6 0) := (F_n F3 (show ¬ (6 = 1 ∨ 3 ≤ 6 ∧ 6 ≤ 5) by decide) rfl)
    have b_26 := g_b hG (a := 6) (i := 0) (lo := 0) (hi := 150) rfl rfl
    refine tt_gI (pc := 16) rw_142_16 (g_o hG4 rfl) (v := (M.2.1 6 0)) c_25 (s_v (pc := 19) rw_142_19 (dp1 hd (by decide)) (ls0 := [.ref 11, .ref p, .ref 6, .int (M.2.1 6 0), .null]) rfl (Nat.le_of_ble_eq_true rfl) (Nat.le_of_ble_eq_true rfl) rfl (to_rc rfl rfl rfl (g_o hG4 rfl)) rfl ?_)
    have j_27 := (NI_f (tg_254 F3) q2)
    refine C_8 hX (dp2 hd (by decide)) hG4 hp (by omega) (by omega) j_27 (p := p) (n := (M.2.1 6 0)) (fun M30 hG29 F28 => ?_)
    have F31 := FR.c F13 F28 tg_275
    refine to_rv (pc := 22) rw_142_22 (to_an (pc := 18) rw_112_18 rfl (s_gR (pc := 19) rw_112_19 hG29 rfl (v := 28) rfl (to_an (pc := 22) rw_112_22 rfl (s_gR (pc := 23) rw_112_23 hG29 rfl (v := 1) rfl (to_an (pc := 26) rw_112_26 rfl ?_)))))
    have j_32 := (PQ_f F28 j_24)
    refine tt_gR (pc := 27) rw_112_27 (g_o hG29 rfl) j_32.1 (to_an (pc := 30) rw_112_30 rfl (s_gR (pc := 31) rw_112_31 hG29 rfl (v := 11) rfl (s_v (pc := 34) rw_112_34 (dp0 hd (by decide)) (ls0 := [.ref 28, .ref 1, .ref p, .ref 11]) rfl (Nat.le_of_ble_eq_true rfl) (Nat.le_of_ble_eq_true rfl) rfl (to_rc rfl rfl rfl (g_o hG29 rfl)) rfl ?_)))
    have c_33 : M30.2.1 1 10 = (M12.2.1 1 10) := (F_n F28 (show ¬ (11 ≤ 1 ∧ 1 ≤ 16) by decide) rfl)
    have t_34 : (M30.2.1 1 10).toInt = (M12.2.1 1 10).toInt := congrArg Int32.toInt c_33
    have c_35 : M30.2.1 1 11 = (M12.2.1 1 11) := (F_n F28 (show ¬ (11 ≤ 1 ∧ 1 ≤ 16) by decide) rfl)
    have t_36 : (M30.2.1 1 11).toInt = (M12.2.1 1 11).toInt := congrArg Int32.toInt c_35
    have j_37 := (CS_f (tg_493 F28) p_22.1)
    have c_38 : M30.2.1 1 9 = (M12.2.1 1 9) := (F_n F28 (show ¬ (11 ≤ 1 ∧ 1 ≤ 16) by decide) rfl)
    have t_39 : (M30.2.1 1 9).toInt = (M12.2.1 1 9).toInt := congrArg Int32.toInt c_38
    have j_40 := (PLs_f (fun a i z => F_n F28 (show ¬ (11 ≤ a ∧ a ≤ 16) by omega) rfl) (PLs_f (fun a i z => F_n F3 (show ¬ (a = 1 ∨ 3 ≤ a ∧ a ≤ 5) by omega) rfl) q8))
    refine E_98 hX (dp1 hd (by decide)) hG29 hp j_37 (by omega) j_40 (by omega) (p := p) (t := t) (nn := nn) (a := (x_sk t nn 0)) (sg := sg) (fun r41 M50 hG43 F42 p_44 p_45 p_46 p_47 p_48 p_49 => ?_)
    have F51 := FR.c F31 F42 tg_497
    rcases (show r41.toInt = 0 ∨ r41.toInt = 1 by omega) with h52 | h52
    · skip
      have p_53 := p_48 (by omega)
      clear p_47 p_48 p_49
      refine b_ine_f (pc := 37) rw_112_37 (A := r41.toInt) rfl (by omega) (to_c (pc := 40) rw_112_40 (x := (-1 : Int32)) rfl rfl (to_r0 (pc := 41) rw_112_41 ?_))
      have k_54 : (-1 : Int32).toInt = -1 := rfl
      have c_55 : M50.2.1 1 1 = (M12.2.1 1 1) := (F_n F42 (show ¬ (1 = 1 ∧ 6 ≤ 1 ∧ 1 ≤ 11 ∨ 28 ≤ 1 ∧ 1 ≤ 35) by decide) (F_n F28 (show ¬ (11 ≤ 1 ∧ 1 ≤ 16) by decide) rfl))
      have t_56 : (M50.2.1 1 1).toInt = (M12.2.1 1 1).toInt := congrArg Int32.toInt c_55
      have j_57 := (PI_f (tg_494 F42) (PI_f (tg_260 F28) (PI_f (tg_250 F3) q3)))
      have j_58 := (NI_f (tg_495 F42) (NI_f (tg_218 F28) j_27))
      have j_59 := (QI_f (tg_496 F42) (QI_f (tg_267 F28) (QI_f (tg_124 F3) q4)))
      exact h (-1 : Int32) M50 hG43 F51 (by omega) (by omega) j_57 j_58 j_59 (by omega) (by omega) (by omega) (by omega) (fun _ => Or.inl ⟨_, _, p_53, rfl⟩) (fun _ => p_53) (by omega)
    · skip
      have p_60 := p_47 (by omega)
      have p_61 := p_49 (by omega)
      clear p_47 p_48 p_49
      obtain ⟨B2, b_i1, b_i2, b_i3⟩ := p_60
      have b_62 := g_b hG43 (a := 28) (i := 7) (lo := 0) (hi := 40) rfl rfl
      refine b_ine_t (pc := 37) rw_112_37 (A := r41.toInt) rfl (by omega) (to_an (pc := 42) rw_112_42 rfl (s_gR (pc := 43) rw_112_43 hG43 rfl (v := 17) rfl (to_an (pc := 46) rw_112_46 rfl (s_gR (pc := 47) rw_112_47 hG43 rfl (v := 11) rfl (to_an (pc := 50) rw_112_50 rfl ?_)))))
      have j_63 := (PQ_f F42 j_32)
      refine tt_gR (pc := 51) rw_112_51 (g_o hG43 rfl) j_63.1 ?_
      have c_64 : M50.2.1 p 0 = (M.2.1 p 0) := (F_n F42 (show ¬ (p = 1 ∧ 6 ≤ 0 ∧ 0 ≤ 11 ∨ 28 ≤ p ∧ p ≤ 35) by omega) (F_n F28 (show ¬ (11 ≤ p ∧ p ≤ 16) by omega) (F_n F3 (show ¬ (p = 1 ∨ 3 ≤ p ∧ p ≤ 5) by omega) rfl)))
      have b_65 := g_b hG (a := p) (i := 0) (lo := 10) (hi := 60) (by rcases hp with rfl | rfl <;> rfl) (by rcases hp with rfl | rfl <;> rfl)
      refine tt_gI (pc := 54) rw_112_54 (g_o hG43 (by rcases hp with rfl | rfl <;> rfl)) (v := (M.2.1 p 0)) c_64 (s_v (pc := 57) rw_112_57 (dp0 hd (by decide)) (ls0 := [.ref 17, .ref 11, .int (M.2.1 p 0), .null, .null]) rfl (Nat.le_of_ble_eq_true rfl) (Nat.le_of_ble_eq_true rfl) rfl (to_rc rfl rfl rfl (g_o hG43 rfl)) rfl (C_24 hX (dp1 hd (by decide)) hG43 (by omega) (y := (M.2.1 p 0)) (fun M68 hG67 F66 => ?_)))
      have F69 := FR.c F51 F66 tg_277
      refine to_an (pc := 60) rw_112_60 rfl (s_gR (pc := 61) rw_112_61 hG67 rfl (v := 28) rfl (to_an (pc := 64) rw_112_64 rfl (s_gR (pc := 65) rw_112_65 hG67 rfl (v := 17) rfl (s_v (pc := 68) rw_112_68 (dp0 hd (by decide)) (ls0 := [.ref 28, .ref 17]) rfl (Nat.le_of_ble_eq_true rfl) (Nat.le_of_ble_eq_true rfl) rfl (to_rc rfl rfl rfl (g_o hG67 rfl)) rfl ?_))))
      have c_70 : M68.2.1 28 7 = (M50.2.1 28 7) := (F_n F66 (show ¬ (18 ≤ 28 ∧ 28 ≤ 27) by decide) rfl)
      have t_71 : (M68.2.1 28 7).toInt = (M50.2.1 28 7).toInt := congrArg Int32.toInt c_70
      have j_72 := (WKc_f (tg_492 F66) b_i1)
      refine E_106 hX (dp1 hd (by decide)) hG67 (by omega) (by omega) j_72 b_i3 (A9 := B2) (n9 := (M50.2.1 28 7).toInt) (fun r73 M79 hG75 F74 p_76 p_77 p_78 => ?_)
      have F80 := FR.c F69 F74 tg_278
      refine b_ieq (pc := 71) rw_112_71 (A := r73.toInt) rfl (fun h81 => ?_) (fun h81 => ?_)
      · refine to_c (pc := 78) rw_112_78 (x := (1 : Int32)) rfl rfl (to_r0 (pc := 79) rw_112_79 ?_)
        have k_82 : (1 : Int32).toInt = 1 := rfl
        have c_83 : M79.2.1 1 1 = (M12.2.1 1 1) := (F_n F74 (show ¬ (18 ≤ 1 ∧ 1 ≤ 35) by decide) (F_n F66 (show ¬ (18 ≤ 1 ∧ 1 ≤ 27) by decide) (F_n F42 (show ¬ (1 = 1 ∧ 6 ≤ 1 ∧ 1 ≤ 11 ∨ 28 ≤ 1 ∧ 1 ≤ 35) by decide) (F_n F28 (show ¬ (11 ≤ 1 ∧ 1 ≤ 16) by decide) rfl))))
        have t_84 : (M79.2.1 1 1).toInt = (M12.2.1 1 1).toInt := congrArg Int32.toInt c_83
        have j_85 := (PI_f (tg_257 F74) (PI_f (tg_258 F66) (PI_f (tg_494 F42) (PI_f (tg_260 F28) (PI_f (tg_250 F3) q3)))))
        have j_86 := (NI_f (tg_261 F74) (NI_f (tg_262 F66) (NI_f (tg_495 F42) (NI_f (tg_218 F28) j_27))))
        have j_87 := (QI_f (tg_264 F74) (QI_f (tg_265 F66) (QI_f (tg_496 F42) (QI_f (tg_267 F28) (QI_f (tg_124 F3) q4)))))
        have c_88 : M79.2.1 1 10 = (M50.2.1 1 10) := (F_n F74 (show ¬ (18 ≤ 1 ∧ 1 ≤ 35) by decide) (F_n F66 (show ¬ (18 ≤ 1 ∧ 1 ≤ 27) by decide) rfl))
        have t_89 : (M79.2.1 1 10).toInt = (M50.2.1 1 10).toInt := congrArg Int32.toInt c_88
        have c_90 : M79.2.1 1 11 = (M50.2.1 1 11) := (F_n F74 (show ¬ (18 ≤ 1 ∧ 1 ≤ 35) by decide) (F_n F66 (show ¬ (18 ≤ 1 ∧ 1 ≤ 27) by decide) rfl))
        have t_91 : (M79.2.1 1 11).toInt = (M50.2.1 1 11).toInt := congrArg Int32.toInt c_90
        exact h (1 : Int32) M79 hG75 F80 (by omega) (by omega) j_85 j_86 j_87 (by omega) (by omega) (by omega) (by omega) (fun _ => Or.inr ⟨_, _, b_i2, RUN_r3 (by omega) (by omega) p_78⟩) (fun z => by exfalso; omega) (by omega)
      · refine to_c (pc := 74) rw_112_74 (x := (0 : Int32)) rfl rfl (to_go (pc := 75) rw_112_75 (to_r0 (pc := 79) rw_112_79 ?_))
        have k_92 : (0 : Int32).toInt = 0 := rfl
        have c_93 : M79.2.1 1 1 = (M12.2.1 1 1) := (F_n F74 (show ¬ (18 ≤ 1 ∧ 1 ≤ 35) by decide) (F_n F66 (show ¬ (18 ≤ 1 ∧ 1 ≤ 27) by decide) (F_n F42 (show ¬ (1 = 1 ∧ 6 ≤ 1 ∧ 1 ≤ 11 ∨ 28 ≤ 1 ∧ 1 ≤ 35) by decide) (F_n F28 (show ¬ (11 ≤ 1 ∧ 1 ≤ 16) by decide) rfl))))
        have t_94 : (M79.2.1 1 1).toInt = (M12.2.1 1 1).toInt := congrArg Int32.toInt c_93
        have j_95 := (PI_f (tg_257 F74) (PI_f (tg_258 F66) (PI_f (tg_494 F42) (PI_f (tg_260 F28) (PI_f (tg_250 F3) q3)))))
        have j_96 := (NI_f (tg_261 F74) (NI_f (tg_262 F66) (NI_f (tg_495 F42) (NI_f (tg_218 F28) j_27))))
        have j_97 := (QI_f (tg_264 F74) (QI_f (tg_265 F66) (QI_f (tg_496 F42) (QI_f (tg_267 F28) (QI_f (tg_124 F3) q4)))))
        have c_98 : M79.2.1 1 10 = (M50.2.1 1 10) := (F_n F74 (show ¬ (18 ≤ 1 ∧ 1 ≤ 35) by decide) (F_n F66 (show ¬ (18 ≤ 1 ∧ 1 ≤ 27) by decide) rfl))
        have t_99 : (M79.2.1 1 10).toInt = (M50.2.1 1 10).toInt := congrArg Int32.toInt c_98
        have c_100 : M79.2.1 1 11 = (M50.2.1 1 11) := (F_n F74 (show ¬ (18 ≤ 1 ∧ 1 ≤ 35) by decide) (F_n F66 (show ¬ (18 ≤ 1 ∧ 1 ≤ 27) by decide) rfl))
        have t_101 : (M79.2.1 1 11).toInt = (M50.2.1 1 11).toInt := congrArg Int32.toInt c_100
        exact h (0 : Int32) M79 hG75 F80 (by omega) (by omega) j_95 j_96 j_97 (by omega) (by omega) (by omega) (by omega) (fun _ => Or.inr ⟨_, _, b_i2, RUN_r3 (by omega) (by omega) p_78⟩) (fun z => by exfalso; omega) (by omega)
