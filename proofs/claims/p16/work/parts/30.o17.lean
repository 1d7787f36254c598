theorem tg_306 : ∀ a i : Nat, (a = 77 ∧ (i = 59 ∨ i = 66) ∨ 112 ≤ a ∧ a ≤ 114 ∧ 40 ≤ i ∨ a = 116) → (a = 77 ∧ (i = 59 ∨ i = 65 ∨ i = 66) ∨ 112 ≤ a ∧ a ≤ 114 ∧ 40 ≤ i ∨ a = 116) := fun a i z => by omega
set_option maxRecDepth 4000 in
set_option maxHeartbeats 0 in
theorem C_221 {X : mm_X} {d : Nat} {M : mm_M} {Q : Option Value → mm_M → Prop} {k : Int32} {p : Int32} {o : Int32} (hX : g_X X) (hd : 0 ≤ d) (hG : g_G M) (q1 : 0 ≤ k.toInt) (q2 : k.toInt ≤ 4) (q3 : 0 ≤ p.toInt) (q4 : p.toInt ≤ 39) (q5 : (M.2.1 77 59).toInt ≤ 39) (q6 : (M.2.1 77 66).toInt ≤ 39) (q7 : KN M 40 ((M.2.1 77 59).toInt).toNat) (q8 : k.toInt = 0 → (0 ≤ p.toInt ∧ p.toInt ≤ 7) ∧ 0 ≤ o.toInt ∧ ((M.2.1 81 (p.toInt).toNat).toInt = 0 ∨ o.toInt ≤ 9)) (q9 : k.toInt = 1 → 0 ≤ p.toInt ∧ p.toInt ≤ 11) (q10 : k.toInt = 3 → 0 ≤ o.toInt ∧ o.toInt ≤ 39) (q11 : k.toInt = 4 → 0 ≤ o.toInt ∧ o.toInt ≤ 39) (h : ∀ (M1 : mm_M), g_G M1 → FR md_gr M M1 → ((M1.2.1 77 59).toInt = (M.2.1 77 59).toInt + 1) → ((M1.2.1 77 66).toInt = (M.2.1 77 66).toInt + 1) → (KN M1 40 ((M1.2.1 77 59).toInt).toNat) → Q (none) M1) : mm_T X d 220 0 [.ref 77, .int k, .int p, .int o] [] M Q := by
  have F0 : FR md_gr M M := FR.rf
  have b_1 := g_b hG (a := 77) (i := 59) (lo := 0) (hi := 40) rfl rfl
  have b_2 := g_b hG (a := 77) (i := 66) (lo := 0) (hi := 40) rfl rfl
  refine to_an (pc := 0) rw_221_0 rfl (s_gR (pc := 1) rw_221_1 hG rfl (v := 112) rfl (to_c (pc := 4) rw_221_4 (x := (40 : Int32)) rfl rfl (to_an (pc := 6) rw_221_6 rfl (tt_gI (pc := 7) rw_221_7 (g_o hG rfl) (v := (M.2.1 77 59)) rfl (s_add (pc := 10) rw_221_10 (A := 40) (B := (M.2.1 77 59).toInt) rfl rfl (by omega) (fun v3 e4 => to_in (pc := 11) rw_221_11 rfl (s_ias (pc := 12) rw_221_12 hG rfl (n := 80) rfl (A := v3.toInt) rfl (by omega) (by omega) (fun M6 W5 => ?_))))))))
  have hG7 := g_w hG W5 (A := k.toInt) rfl (lo := 0) (hi := 4) rfl rfl (by omega) (by decide)
  have F8 := FR.w F0 W5 (show 112 = 77 ∧ ((v3.toInt).toNat = 59 ∨ (v3.toInt).toNat = 66) ∨ 112 ≤ 112 ∧ 112 ≤ 114 ∧ 40 ≤ (v3.toInt).toNat ∨ 112 = 116 by omega)
  refine to_an (pc := 13) rw_221_13 rfl (s_gR (pc := 14) rw_221_14 hG7 rfl (v := 113) rfl (to_c (pc := 17) rw_221_17 (x := (40 : Int32)) rfl rfl (to_an (pc := 19) rw_221_19 rfl ?_)))
  have c_9 : M6.2.1 77 59 = (M.2.1 77 59) := (W_n W5 (fun z => absurd z.1 (by decide)) rfl)
  refine tt_gI (pc := 20) rw_221_20 (g_o hG7 rfl) (v := (M.2.1 77 59)) c_9 (s_add (pc := 23) rw_221_23 (A := 40) (B := (M.2.1 77 59).toInt) rfl rfl (by omega) (fun v10 e11 => to_in (pc := 24) rw_221_24 rfl (s_ias (pc := 25) rw_221_25 hG7 rfl (n := 80) rfl (A := v10.toInt) rfl (by omega) (by omega) (fun M13 W12 => ?_))))
  have hG14 := g_w hG7 W12 (A := p.toInt) rfl (lo := 0) (hi := 39) rfl rfl (by omega) (by decide)
  have F15 := FR.w F8 W12 (show 113 = 77 ∧ ((v10.toInt).toNat = 59 ∨ (v10.toInt).toNat = 66) ∨ 112 ≤ 113 ∧ 113 ≤ 114 ∧ 40 ≤ (v10.toInt).toNat ∨ 113 = 116 by omega)
  refine to_an (pc := 26) rw_221_26 rfl (s_gR (pc := 27) rw_221_27 hG14 rfl (v := 114) rfl (to_c (pc := 30) rw_221_30 (x := (40 : Int32)) rfl rfl (to_an (pc := 32) rw_221_32 rfl ?_)))
  have c_16 : M13.2.1 77 59 = (M.2.1 77 59) := (W_n W12 (fun z => absurd z.1 (by decide)) c_9)
  refine tt_gI (pc := 33) rw_221_33 (g_o hG14 rfl) (v := (M.2.1 77 59)) c_16 (s_add (pc := 36) rw_221_36 (A := 40) (B := (M.2.1 77 59).toInt) rfl rfl (by omega) (fun v17 e18 => to_in (pc := 37) rw_221_37 rfl (s_ias (pc := 38) rw_221_38 hG14 rfl (n := 80) rfl (A := v17.toInt) rfl (by omega) (by omega) (fun M20 W19 => ?_))))
  have hG21 := g_wf hG14 W19 rfl rfl (by decide)
  have F22 := FR.w F15 W19 (show 114 = 77 ∧ ((v17.toInt).toNat = 59 ∨ (v17.toInt).toNat = 66) ∨ 112 ≤ 114 ∧ 114 ≤ 114 ∧ 40 ≤ (v17.toInt).toNat ∨ 114 = 116 by omega)
  refine to_an (pc := 39) rw_221_39 rfl (s_gR (pc := 40) rw_221_40 hG21 rfl (v := 116) rfl (to_an (pc := 43) rw_221_43 rfl ?_))
  have c_23 : M20.2.1 77 66 = (M.2.1 77 66) := (W_n W19 (fun z => absurd z.1 (by decide)) (W_n W12 (fun z => absurd z.1 (by decide)) (W_n W5 (fun z => absurd z.1 (by decide)) rfl)))
  refine tt_gI (pc := 44) rw_221_44 (g_o hG21 rfl) (v := (M.2.1 77 66)) c_23 (to_an (pc := 47) rw_221_47 rfl ?_)
  have c_24 : M20.2.1 77 59 = (M.2.1 77 59) := (W_n W19 (fun z => absurd z.1 (by decide)) c_16)
  refine tt_gI (pc := 48) rw_221_48 (g_o hG21 rfl) (v := (M.2.1 77 59)) c_24 (s_ias (pc := 51) rw_221_51 hG21 rfl (n := 64) rfl (A := (M.2.1 77 66).toInt) rfl (by omega) (by omega) (fun M26 W25 => ?_))
  have hG27 := g_w hG21 W25 (A := (M.2.1 77 59).toInt) rfl (lo := 0) (hi := 39) rfl rfl (by omega) (by decide)
  have F28 := FR.w F22 W25 (show 116 = 77 ∧ (((M.2.1 77 66).toInt).toNat = 59 ∨ ((M.2.1 77 66).toInt).toNat = 66) ∨ 112 ≤ 116 ∧ 116 ≤ 114 ∧ 40 ≤ ((M.2.1 77 66).toInt).toNat ∨ 116 = 116 by omega)
  refine to_an (pc := 52) rw_221_52 rfl (to_dupr (pc := 53) rw_221_53 ?_)
  have c_29 : M26.2.1 77 66 = (M.2.1 77 66) := (W_n W25 (fun z => absurd z.1 (by decide)) c_23)
  refine tt_gI (pc := 54) rw_221_54 (g_o hG27 rfl) (v := (M.2.1 77 66)) c_29 (to_c (pc := 57) rw_221_57 (x := (1 : Int32)) rfl rfl (s_add (pc := 58) rw_221_58 (A := (M.2.1 77 66).toInt) (B := 1) rfl rfl (by omega) (fun v30 e31 => s_pI (pc := 59) rw_221_59 hG27 rfl (fun M33 W32 => ?_))))
  have hG34 := g_w hG27 W32 (A := v30.toInt) rfl (lo := 0) (hi := 40) rfl rfl (by omega) (by decide)
  have F35 := FR.w F28 W32 (show 77 = 77 ∧ (66 = 59 ∨ 66 = 66) ∨ 112 ≤ 77 ∧ 77 ≤ 114 ∧ 40 ≤ 66 ∨ 77 = 116 by decide)
  refine to_an (pc := 62) rw_221_62 rfl (to_dupr (pc := 63) rw_221_63 ?_)
  have c_36 : M33.2.1 77 59 = (M.2.1 77 59) := (W_n W32 (by decide) (W_n W25 (fun z => absurd z.1 (by decide)) c_24))
  refine tt_gI (pc := 64) rw_221_64 (g_o hG34 rfl) (v := (M.2.1 77 59)) c_36 (to_c (pc := 67) rw_221_67 (x := (1 : Int32)) rfl rfl (s_add (pc := 68) rw_221_68 (A := (M.2.1 77 59).toInt) (B := 1) rfl rfl (by omega) (fun v37 e38 => s_pI (pc := 69) rw_221_69 hG34 rfl (fun M40 W39 => ?_))))
  have hG41 := g_w hG34 W39 (A := v37.toInt) rfl (lo := 0) (hi := 40) rfl rfl (by omega) (by decide)
  have F42 := FR.w F35 W39 (show 77 = 77 ∧ (59 = 59 ∨ 59 = 66) ∨ 112 ≤ 77 ∧ 77 ≤ 114 ∧ 40 ≤ 59 ∨ 77 = 116 by decide)
  refine to_rv (pc := 72) rw_221_72 ?_
  have c_43 : M40.2.1 77 59 = v37 := (W_e W39)
  have t_44 : (M40.2.1 77 59).toInt = v37.toInt := congrArg Int32.toInt c_43
  have c_45 : M40.2.1 77 66 = v30 := (W_n W39 (by decide) (W_e W32))
  have t_46 : (M40.2.1 77 66).toInt = v30.toInt := congrArg Int32.toInt c_45
  have j_47 : M40.2.1 112 (40 + ((M.2.1 77 59).toInt).toNat) = k := by rw [show 40 + ((M.2.1 77 59).toInt).toNat = (v3.toInt).toNat by omega]; exact (W_n W39 (by omega) (W_n W32 (by omega) (W_n W25 (by omega) (W_n W19 (by omega) (W_n W12 (by omega) (W_e W5))))))
  have j_48 : M40.2.1 113 (40 + ((M.2.1 77 59).toInt).toNat) = p := by rw [show 40 + ((M.2.1 77 59).toInt).toNat = (v10.toInt).toNat by omega]; exact (W_n W39 (by omega) (W_n W32 (by omega) (W_n W25 (by omega) (W_n W19 (by omega) (W_e W12)))))
  have j_49 : M40.2.1 114 (40 + ((M.2.1 77 59).toInt).toNat) = o := by rw [show 40 + ((M.2.1 77 59).toInt).toNat = (v17.toInt).toNat by omega]; exact (W_n W39 (by omega) (W_n W32 (by omega) (W_n W25 (by omega) (W_e W19))))
  exact h M40 hG41 F42 (by omega) (by omega) (by rw [show ((M40.2.1 77 59).toInt).toNat = ((M.2.1 77 59).toInt).toNat + 1 by omega]; exact KN_k (M1 := M40) q7 (fun a i z => (W_n W39 (by /-r77,59-/ omega) (W_n W32 (by /-r77,66-/ omega) (W_n W25 (by /-r116-/ omega) (W_n W19 (by /-r114-/ omega) (W_n W12 (by /-r113-/ omega) (W_n W5 (by /-r112-/ omega) rfl))))))) j_47 j_48 j_49 q8 q9 q10 q11)
set_option maxRecDepth 4000 in
set_option maxHeartbeats 0 in
theorem T_223_0 {X : mm_X} {d : Nat} {M : mm_M} {Q : Option Value → mm_M → Prop} {l : Int32} (hX : g_X X) (hd : 1 ≤ d) (q1 : 1 ≤ l.toInt) (q2 : l.toInt ≤ 3) (q3 : (M.2.1 77 68).toInt = 1) (q4 : QK M) (h : ∀ (M1 : mm_M), g_G M1 → FR md_bi M M1 → QK M1 → ((M1.2.1 77 59).toInt + Wo M1 ((M1.2.1 77 65).toInt).toNat = (M.2.1 77 59).toInt + Wo M ((M.2.1 77 65).toInt).toNat) → (l.toInt = 1 → (M1.2.1 77 65).toInt = 0 ∨ ((M1.2.1 115 (((M1.2.1 77 65).toInt).toNat - 1)).toInt = 0 ∨ (M1.2.1 115 (((M1.2.1 77 65).toInt).toNat - 1)).toInt = 1)) → Q (none) M1) : ∀ nn9 : Nat, (∀ (N : mm_M) (u2 : Value) (u3 : Value) (u4 : Value), g_G N → FR md_bi M N → ((N.2.1 77 68).toInt = 1) → (QK N) → ((N.2.1 77 59).toInt + Wo N ((N.2.1 77 65).toInt).toNat = (M.2.1 77 59).toInt + Wo M ((M.2.1 77 65).toInt).toNat) → (N.2.1 77 65).toInt < (nn9 : Int) → mm_T X d 222 0 [.ref 77, .int l, u2, u3, u4] [] N Q) := by
  intro nn9
  induction nn9 with
  | zero =>
    intro N u2 u3 u4 hG F0 g1 g2 g3 hm
    have b_1 := g_b hG (a := 77) (i := 65) (lo := 0) (hi := 48) rfl rfl
    have b_2 := g_b hG (a := 77) (i := 68) (lo := 0) (hi := 1) rfl rfl
    exfalso; omega
  | succ nn9 ih =>
    intro N u2 u3 u4 hG F0 g1 g2 g3 hm
    have b_3 := g_b hG (a := 77) (i := 65) (lo := 0) (hi := 48) rfl rfl
    have b_4 := g_b hG (a := 77) (i := 68) (lo := 0) (hi := 1) rfl rfl
    have b_5 := g_b hG (a := 77) (i := 59) (lo := 0) (hi := 40) rfl rfl
    have b_6 := g_b hG (a := 77) (i := 66) (lo := 0) (hi := 40) rfl rfl
    have b_7 := g_b hG (a := 77) (i := 67) (lo := 0) (hi := 8) rfl rfl
    have b_8 := g_b hG (a := 77) (i := 69) (lo := 0) (hi := 40) rfl rfl
    have s_q := QK_e g2
    have s_w := Wx_b N ((N.2.1 77 65).toInt).toNat
    refine to_an (pc := 0) rw_223_0 rfl (tt_gI (pc := 1) rw_223_1 (g_o hG rfl) (v := (N.2.1 77 65)) rfl (b_ile (pc := 4) rw_223_4 (A := (N.2.1 77 65).toInt) rfl (fun h9 => ?_) (fun h9 => ?_)))
    · refine to_rv (pc := 77) rw_223_77 ?_
      exact h N hG F0 g2 g3 (fun _ => Or.inl (by omega))
    · refine to_an (pc := 7) rw_223_7 rfl (to_an (pc := 8) rw_223_8 rfl (s_gR (pc := 9) rw_223_9 hG rfl (v := 115) rfl (to_an (pc := 12) rw_223_12 rfl (tt_gI (pc := 13) rw_223_13 (g_o hG rfl) (v := (N.2.1 77 65)) rfl (to_c (pc := 16) rw_223_16 (x := (1 : Int32)) rfl rfl (s_sub (pc := 17) rw_223_17 (A := (N.2.1 77 65).toInt) (B := 1) rfl rfl (by omega) (fun v10 e11 => s_ial (pc := 18) rw_223_18 hG rfl (n := 64) rfl rfl (A := v10.toInt) rfl (by omega) (by omega) (lo := 0) (hi := 4) rfl rfl (fun v12 w_13 _ _ => ?_))))))))
      have t_14 := congrArg Int32.toInt w_13
      have s_s := Wx_s N (v10.toInt).toNat
      rw [show (v10.toInt).toNat + 1 = ((N.2.1 77 65).toInt).toNat by omega, w_13] at s_s
      have s_b := Wx_b N (v10.toInt).toNat
      have s_1 := g2.2.1 (v10.toInt).toNat (by omega)
      rw [w_13] at s_1
      refine s_v (pc := 19) rw_223_19 (dp0 hd (by decide)) (ls0 := [.ref 77, .int v12]) rfl (Nat.le_of_ble_eq_true rfl) (Nat.le_of_ble_eq_true rfl) rfl (to_rc rfl rfl rfl (g_o hG rfl)) rfl (to_in (pc := 0) rw_220_0 rfl (to_c (pc := 1) rw_220_1 (x := (2 : Int32)) rfl rfl (b_cne (pc := 2) rw_220_2 (A := v12.toInt) (B := 2) rfl rfl (fun h15 => ?_) (fun h15 => ?_))))
      · refine to_in (pc := 9) rw_220_9 rfl (to_c (pc := 10) rw_220_10 (x := (3 : Int32)) rfl rfl (b_cne (pc := 11) rw_220_11 (A := v12.toInt) (B := 3) rfl rfl (fun h16 => ?_) (fun h16 => ?_)))
        · refine to_in (pc := 18) rw_220_18 rfl (to_c (pc := 19) rw_220_19 (x := (4 : Int32)) rfl rfl (b_cne (pc := 20) rw_220_20 (A := v12.toInt) (B := 4) rfl rfl (fun h17 => ?_) (fun h17 => ?_)))
          · refine to_c (pc := 27) rw_220_27 (x := (0 : Int32)) rfl rfl (to_r0 (pc := 28) rw_220_28 (to_in (pc := 22) rw_223_22 rfl (b_clt_t (pc := 23) rw_223_23 (A := 0) (B := l.toInt) rfl rfl (by omega) (to_rv (pc := 77) rw_223_77 ?_))))
            exact h N hG F0 g2 g3 (fun zl => Or.inr (by rw [show ((N.2.1 77 65).toInt).toNat - 1 = (v10.toInt).toNat by omega, w_13]; omega))
          · refine to_c (pc := 23) rw_220_23 (x := (1 : Int32)) rfl rfl (to_go (pc := 24) rw_220_24 (to_r0 (pc := 28) rw_220_28 (to_in (pc := 22) rw_223_22 rfl (b_clt (pc := 23) rw_223_23 (A := 1) (B := l.toInt) rfl rfl (fun h18 => ?_) (fun h18 => ?_)))))
            · refine to_rv (pc := 77) rw_223_77 ?_
              exact h N hG F0 g2 g3 (fun zl => Or.inr (by rw [show ((N.2.1 77 65).toInt).toNat - 1 = (v10.toInt).toNat by omega, w_13]; omega))
            · refine to_an (pc := 26) rw_223_26 rfl (to_dupr (pc := 27) rw_223_27 (tt_gI (pc := 28) rw_223_28 (g_o hG rfl) (v := (N.2.1 77 65)) rfl (to_c (pc := 31) rw_223_31 (x := (1 : Int32)) rfl rfl (s_subk (pc := 32) rw_223_32 (A := (N.2.1 77 65).toInt) (B := 1) rfl rfl (by omega) (v := v10) e11 (s_pI (pc := 33) rw_223_33 hG rfl (fun M22 W21 => ?_))))))
              have hG23 := g_w hG W21 (A := v10.toInt) rfl (lo := 0) (hi := 48) rfl rfl (by omega) (by decide)
              have F24 := FR.w F0 W21 (show 77 = 77 ∧ (65 = 59 ∨ 65 = 65 ∨ 65 = 66) ∨ 112 ≤ 77 ∧ 77 ≤ 114 ∧ 40 ≤ 65 ∨ 77 = 116 by decide)
              refine to_an (pc := 36) rw_223_36 rfl (s_gR (pc := 37) rw_223_37 hG23 rfl (v := 115) rfl (to_an (pc := 40) rw_223_40 rfl ?_))
              have c_25 : M22.2.1 77 65 = v10 := (W_e W21)
              refine tt_gI (pc := 41) rw_223_41 (g_o hG23 rfl) (v := v10) c_25 (s_ialk (pc := 44) rw_223_44 hG23 rfl (n := 64) rfl rfl (A := v10.toInt) rfl (by omega) (by omega) (v := v12) (W_n W21 (by omega) w_13) (to_isn (pc := 45) rw_223_45 (ls2 := [.ref 77, .int l, .int v12, u3, u4]) rfl rfl (to_in (pc := 46) rw_223_46 rfl (to_c (pc := 47) rw_223_47 (x := (2 : Int32)) rfl rfl (b_cne_t (pc := 48) rw_223_48 (A := v12.toInt) (B := 2) rfl rfl (by omega) (to_an (pc := 55) rw_223_55 rfl (s_v (pc := 56) rw_223_56 (dp0 hd (by decide)) (ls0 := [.ref 77]) rfl (Nat.le_of_ble_eq_true rfl) (Nat.le_of_ble_eq_true rfl) rfl (to_rc rfl rfl rfl (g_o hG23 rfl)) rfl (to_an (pc := 0) rw_222_0 rfl (to_dupr (pc := 1) rw_222_1 ?_)))))))))
              have c_28 : M22.2.1 77 66 = (N.2.1 77 66) := (W_n W21 (by decide) rfl)
              refine tt_gI (pc := 2) rw_222_2 (g_o hG23 rfl) (v := (N.2.1 77 66)) c_28 (to_c (pc := 5) rw_222_5 (x := (1 : Int32)) rfl rfl (s_sub (pc := 6) rw_222_6 (A := (N.2.1 77 66).toInt) (B := 1) rfl rfl (by omega) (fun v29 e30 => s_pI (pc := 7) rw_222_7 hG23 rfl (fun M32 W31 => ?_))))
              have hG33 := g_w hG23 W31 (A := v29.toInt) rfl (lo := 0) (hi := 40) rfl rfl (by omega) (by decide)
              have F34 := FR.w F24 W31 (show 77 = 77 ∧ (66 = 59 ∨ 66 = 65 ∨ 66 = 66) ∨ 112 ≤ 77 ∧ 77 ≤ 114 ∧ 40 ≤ 66 ∨ 77 = 116 by decide)
              refine to_an (pc := 10) rw_222_10 rfl (s_gR (pc := 11) rw_222_11 hG33 rfl (v := 116) rfl (to_an (pc := 14) rw_222_14 rfl ?_))
              have c_35 : M32.2.1 77 66 = v29 := (W_e W31)
              refine tt_gI (pc := 15) rw_222_15 (g_o hG33 rfl) (v := v29) c_35 (s_ial (pc := 18) rw_222_18 hG33 rfl (n := 64) rfl rfl (A := v29.toInt) rfl (by omega) (by omega) (lo := 0) (hi := 39) rfl rfl (fun v36 w_37 _ _ => to_r0 (pc := 19) rw_222_19 (to_isn (pc := 59) rw_223_59 (ls2 := [.ref 77, .int l, .int v12, .int v36, u4]) rfl rfl (to_an (pc := 60) rw_223_60 rfl (s_v (pc := 61) rw_223_61 (dp0 hd (by decide)) (ls0 := [.ref 77]) rfl (Nat.le_of_ble_eq_true rfl) (Nat.le_of_ble_eq_true rfl) rfl (to_rc rfl rfl rfl (g_o hG33 rfl)) rfl (to_an (pc := 0) rw_222_0 rfl (to_dupr (pc := 1) rw_222_1 (tt_gI (pc := 2) rw_222_2 (g_o hG33 rfl) (v := v29) c_35 (to_c (pc := 5) rw_222_5 (x := (1 : Int32)) rfl rfl (s_sub (pc := 6) rw_222_6 (A := v29.toInt) (B := 1) rfl rfl (by omega) (fun v38 e39 => s_pI (pc := 7) rw_222_7 hG33 rfl (fun M41 W40 => ?_))))))))))))
              have hG42 := g_w hG33 W40 (A := v38.toInt) rfl (lo := 0) (hi := 40) rfl rfl (by omega) (by decide)
              have F43 := FR.w F34 W40 (show 77 = 77 ∧ (66 = 59 ∨ 66 = 65 ∨ 66 = 66) ∨ 112 ≤ 77 ∧ 77 ≤ 114 ∧ 40 ≤ 66 ∨ 77 = 116 by decide)
              refine to_an (pc := 10) rw_222_10 rfl (s_gR (pc := 11) rw_222_11 hG42 rfl (v := 116) rfl (to_an (pc := 14) rw_222_14 rfl ?_))
              have c_44 : M41.2.1 77 66 = v38 := (W_e W40)
              refine tt_gI (pc := 15) rw_222_15 (g_o hG42 rfl) (v := v38) c_44 (s_ial (pc := 18) rw_222_18 hG42 rfl (n := 64) rfl rfl (A := v38.toInt) rfl (by omega) (by omega) (lo := 0) (hi := 39) rfl rfl (fun v45 w_46 _ _ => to_r0 (pc := 19) rw_222_19 (to_is (pc := 64) rw_223_64 (ls2 := [.ref 77, .int l, .int v12, .int v36, .int v45]) rfl rfl (to_an (pc := 66) rw_223_66 rfl (to_in (pc := 67) rw_223_67 rfl (to_i (pc := 68) rw_223_68 rfl (to_in (pc := 70) rw_223_70 rfl (s_v (pc := 71) rw_223_71 (dp0 hd (by decide)) (ls0 := [.ref 77, .int v12, .int v45, .int v36]) rfl (Nat.le_of_ble_eq_true rfl) (Nat.le_of_ble_eq_true rfl) rfl (to_rc rfl rfl rfl (g_o hG42 rfl)) rfl ?_))))))))
              have c_47 : M41.2.1 77 59 = (N.2.1 77 59) := (W_n W40 (by decide) (W_n W31 (by decide) (W_n W21 (by decide) rfl)))
              have t_48 : (M41.2.1 77 59).toInt = (N.2.1 77 59).toInt := congrArg Int32.toInt c_47
              have t_49 : (M41.2.1 77 66).toInt = v38.toInt := congrArg Int32.toInt c_44
              refine C_221 hX (dp1 hd (by decide)) hG42 (by omega) (by omega) (by omega) (by omega) (by omega) (by omega) (by rw [(W_n W40 (by omega) (W_n W31 (by omega) (W_n W21 (by omega) rfl)))]; exact KN_f (fun a i z => (W_n W40 (by /-r77,66-/ omega) (W_n W31 (by /-r77,66-/ omega) (W_n W21 (by /-r77,65-/ omega) rfl)))) g2.2.2) (by omega) (by omega) (by omega) (by omega) (k := v12) (p := v45) (o := v36) (fun M55 hG51 F50 p_52 p_53 p_54 => ?_)
              have F56 := FR.c F43 F50 tg_306
              have b_57 := g_b hG51 (a := 77) (i := 59) (lo := 0) (hi := 40) rfl rfl
              have b_58 := g_b hG51 (a := 77) (i := 66) (lo := 0) (hi := 40) rfl rfl
              have s_59 := Wx_f (M := N) (M1 := M55) (v10.toInt).toNat (fun i z => (F_n F50 (show ¬ (115 = 77 ∧ (i = 59 ∨ i = 66) ∨ 112 ≤ 115 ∧ 115 ≤ 114 ∧ 40 ≤ i ∨ 115 = 116) by omega) (W_n W40 (by omega) (W_n W31 (by omega) (W_n W21 (by omega) rfl)))))
              have c_62 : M55.2.1 77 65 = v10 := (F_n F50 (show ¬ (77 = 77 ∧ (65 = 59 ∨ 65 = 66) ∨ 112 ≤ 77 ∧ 77 ≤ 114 ∧ 40 ≤ 65 ∨ 77 = 116) by decide) (W_n W40 (by decide) (W_n W31 (by decide) c_25)))
              have t_63 : (M55.2.1 77 65).toInt = v10.toInt := congrArg Int32.toInt c_62
              have c_64 : M55.2.1 77 67 = (N.2.1 77 67) := (F_n F50 (show ¬ (77 = 77 ∧ (67 = 59 ∨ 67 = 66) ∨ 112 ≤ 77 ∧ 77 ≤ 114 ∧ 40 ≤ 67 ∨ 77 = 116) by decide) (W_n W40 (by decide) (W_n W31 (by decide) (W_n W21 (by decide) rfl))))
              have t_65 : (M55.2.1 77 67).toInt = (N.2.1 77 67).toInt := congrArg Int32.toInt c_64
              have c_66 : M55.2.1 77 68 = (N.2.1 77 68) := (F_n F50 (show ¬ (77 = 77 ∧ (68 = 59 ∨ 68 = 66) ∨ 112 ≤ 77 ∧ 77 ≤ 114 ∧ 40 ≤ 68 ∨ 77 = 116) by decide) (W_n W40 (by decide) (W_n W31 (by decide) (W_n W21 (by decide) rfl))))
              have t_67 : (M55.2.1 77 68).toInt = (N.2.1 77 68).toInt := congrArg Int32.toInt c_66
              have c_68 : M55.2.1 77 69 = (N.2.1 77 69) := (F_n F50 (show ¬ (77 = 77 ∧ (69 = 59 ∨ 69 = 66) ∨ 112 ≤ 77 ∧ 77 ≤ 114 ∧ 40 ≤ 69 ∨ 77 = 116) by decide) (W_n W40 (by decide) (W_n W31 (by decide) (W_n W21 (by decide) rfl))))
              have t_69 : (M55.2.1 77 69).toInt = (N.2.1 77 69).toInt := congrArg Int32.toInt c_68
              have j_61 : QK M55 := QK_i (by unfold QK_c; rw [show ((M55.2.1 77 65).toInt).toNat = (v10.toInt).toNat by omega]; refine ⟨by omega, by omega, by omega, by omega⟩) (fun i z => by rw [(F_n F50 (show ¬ (115 = 77 ∧ (i = 59 ∨ i = 66) ∨ 112 ≤ 115 ∧ 115 ≤ 114 ∧ 40 ≤ i ∨ 115 = 116) by omega) (W_n W40 (by omega) (W_n W31 (by omega) (W_n W21 (by omega) rfl))))]; exact g2.2.1 i (by omega)) p_54
              refine to_go (pc := 74) rw_223_74 ?_
              have s_70 : Wo M55 ((M55.2.1 77 65).toInt).toNat = Wo M55 (v10.toInt).toNat := by rw [show ((M55.2.1 77 65).toInt).toNat = (v10.toInt).toNat by omega]
              exact ih M55 (.int v12) (.int v36) (.int v45) hG51 F56 (by omega) j_61 (by omega) (by omega)
        · refine to_c (pc := 14) rw_220_14 (x := (2 : Int32)) rfl rfl (to_go (pc := 15) rw_220_15 (to_r0 (pc := 28) rw_220_28 (to_in (pc := 22) rw_223_22 rfl (b_clt (pc := 23) rw_223_23 (A := 2) (B := l.toInt) rfl rfl (fun h71 => ?_) (fun h71 => ?_)))))
          · refine to_rv (pc := 77) rw_223_77 ?_
            exact h N hG F0 g2 g3 (fun zl => Or.inr (by rw [show ((N.2.1 77 65).toInt).toNat - 1 = (v10.toInt).toNat by omega, w_13]; omega))
          · refine to_an (pc := 26) rw_223_26 rfl (to_dupr (pc := 27) rw_223_27 (tt_gI (pc := 28) rw_223_28 (g_o hG rfl) (v := (N.2.1 77 65)) rfl (to_c (pc := 31) rw_223_31 (x := (1 : Int32)) rfl rfl (s_subk (pc := 32) rw_223_32 (A := (N.2.1 77 65).toInt) (B := 1) rfl rfl (by omega) (v := v10) e11 (s_pI (pc := 33) rw_223_33 hG rfl (fun M75 W74 => ?_))))))
            have hG76 := g_w hG W74 (A := v10.toInt) rfl (lo := 0) (hi := 48) rfl rfl (by omega) (by decide)
            have F77 := FR.w F0 W74 (show 77 = 77 ∧ (65 = 59 ∨ 65 = 65 ∨ 65 = 66) ∨ 112 ≤ 77 ∧ 77 ≤ 114 ∧ 40 ≤ 65 ∨ 77 = 116 by decide)
            refine to_an (pc := 36) rw_223_36 rfl (s_gR (pc := 37) rw_223_37 hG76 rfl (v := 115) rfl (to_an (pc := 40) rw_223_40 rfl ?_))
            have c_78 : M75.2.1 77 65 = v10 := (W_e W74)
            refine tt_gI (pc := 41) rw_223_41 (g_o hG76 rfl) (v := v10) c_78 (s_ialk (pc := 44) rw_223_44 hG76 rfl (n := 64) rfl rfl (A := v10.toInt) rfl (by omega) (by omega) (v := v12) (W_n W74 (by omega) w_13) (to_isn (pc := 45) rw_223_45 (ls2 := [.ref 77, .int l, .int v12, u3, u4]) rfl rfl (to_in (pc := 46) rw_223_46 rfl (to_c (pc := 47) rw_223_47 (x := (2 : Int32)) rfl rfl (b_cne_t (pc := 48) rw_223_48 (A := v12.toInt) (B := 2) rfl rfl (by omega) (to_an (pc := 55) rw_223_55 rfl (s_v (pc := 56) rw_223_56 (dp0 hd (by decide)) (ls0 := [.ref 77]) rfl (Nat.le_of_ble_eq_true rfl) (Nat.le_of_ble_eq_true rfl) rfl (to_rc rfl rfl rfl (g_o hG76 rfl)) rfl (to_an (pc := 0) rw_222_0 rfl (to_dupr (pc := 1) rw_222_1 ?_)))))))))
            have c_81 : M75.2.1 77 66 = (N.2.1 77 66) := (W_n W74 (by decide) rfl)
            refine tt_gI (pc := 2) rw_222_2 (g_o hG76 rfl) (v := (N.2.1 77 66)) c_81 (to_c (pc := 5) rw_222_5 (x := (1 : Int32)) rfl rfl (s_sub (pc := 6) rw_222_6 (A := (N.2.1 77 66).toInt) (B := 1) rfl rfl (by omega) (fun v82 e83 => s_pI (pc := 7) rw_222_7 hG76 rfl (fun M85 W84 => ?_))))
            have hG86 := g_w hG76 W84 (A := v82.toInt) rfl (lo := 0) (hi := 40) rfl rfl (by omega) (by decide)
            have F87 := FR.w F77 W84 (show 77 = 77 ∧ (66 = 59 ∨ 66 = 65 ∨ 66 = 66) ∨ 112 ≤ 77 ∧ 77 ≤ 114 ∧ 40 ≤ 66 ∨ 77 = 116 by decide)
            refine to_an (pc := 10) rw_222_10 rfl (s_gR (pc := 11) rw_222_11 hG86 rfl (v := 116) rfl (to_an (pc := 14) rw_222_14 rfl ?_))
            have c_88 : M85.2.1 77 66 = v82 := (W_e W84)
            refine tt_gI (pc := 15) rw_222_15 (g_o hG86 rfl) (v := v82) c_88 (s_ial (pc := 18) rw_222_18 hG86 rfl (n := 64) rfl rfl (A := v82.toInt) rfl (by omega) (by omega) (lo := 0) (hi := 39) rfl rfl (fun v89 w_90 _ _ => to_r0 (pc := 19) rw_222_19 (to_isn (pc := 59) rw_223_59 (ls2 := [.ref 77, .int l, .int v12, .int v89, u4]) rfl rfl (to_an (pc := 60) rw_223_60 rfl (s_v (pc := 61) rw_223_61 (dp0 hd (by decide)) (ls0 := [.ref 77]) rfl (Nat.le_of_ble_eq_true rfl) (Nat.le_of_ble_eq_true rfl) rfl (to_rc rfl rfl rfl (g_o hG86 rfl)) rfl (to_an (pc := 0) rw_222_0 rfl (to_dupr (pc := 1) rw_222_1 (tt_gI (pc := 2) rw_222_2 (g_o hG86 rfl) (v := v82) c_88 (to_c (pc := 5) rw_222_5 (x := (1 : Int32)) rfl rfl (s_sub (pc := 6) rw_222_6 (A := v82.toInt) (B := 1) rfl rfl (by omega) (fun v91 e92 => s_pI (pc := 7) rw_222_7 hG86 rfl (fun M94 W93 => ?_))))))))))))
            have hG95 := g_w hG86 W93 (A := v91.toInt) rfl (lo := 0) (hi := 40) rfl rfl (by omega) (by decide)
            have F96 := FR.w F87 W93 (show 77 = 77 ∧ (66 = 59 ∨ 66 = 65 ∨ 66 = 66) ∨ 112 ≤ 77 ∧ 77 ≤ 114 ∧ 40 ≤ 66 ∨ 77 = 116 by decide)
            refine to_an (pc := 10) rw_222_10 rfl (s_gR (pc := 11) rw_222_11 hG95 rfl (v := 116) rfl (to_an (pc := 14) rw_222_14 rfl ?_))
            have c_97 : M94.2.1 77 66 = v91 := (W_e W93)
            refine tt_gI (pc := 15) rw_222_15 (g_o hG95 rfl) (v := v91) c_97 (s_ial (pc := 18) rw_222_18 hG95 rfl (n := 64) rfl rfl (A := v91.toInt) rfl (by omega) (by omega) (lo := 0) (hi := 39) rfl rfl (fun v98 w_99 _ _ => to_r0 (pc := 19) rw_222_19 (to_is (pc := 64) rw_223_64 (ls2 := [.ref 77, .int l, .int v12, .int v89, .int v98]) rfl rfl (to_an (pc := 66) rw_223_66 rfl (to_in (pc := 67) rw_223_67 rfl (to_i (pc := 68) rw_223_68 rfl (to_in (pc := 70) rw_223_70 rfl (s_v (pc := 71) rw_223_71 (dp0 hd (by decide)) (ls0 := [.ref 77, .int v12, .int v98, .int v89]) rfl (Nat.le_of_ble_eq_true rfl) (Nat.le_of_ble_eq_true rfl) rfl (to_rc rfl rfl rfl (g_o hG95 rfl)) rfl ?_))))))))
            have c_100 : M94.2.1 77 59 = (N.2.1 77 59) := (W_n W93 (by decide) (W_n W84 (by decide) (W_n W74 (by decide) rfl)))
            have t_101 : (M94.2.1 77 59).toInt = (N.2.1 77 59).toInt := congrArg Int32.toInt c_100
            have t_102 : (M94.2.1 77 66).toInt = v91.toInt := congrArg Int32.toInt c_97
            refine C_221 hX (dp1 hd (by decide)) hG95 (by omega) (by omega) (by omega) (by omega) (by omega) (by omega) (by rw [(W_n W93 (by omega) (W_n W84 (by omega) (W_n W74 (by omega) rfl)))]; exact KN_f (fun a i z => (W_n W93 (by /-r77,66-/ omega) (W_n W84 (by /-r77,66-/ omega) (W_n W74 (by /-r77,65-/ omega) rfl)))) g2.2.2) (by omega) (by omega) (by omega) (by omega) (k := v12) (p := v98) (o := v89) (fun M108 hG104 F103 p_105 p_106 p_107 => ?_)
            have F109 := FR.c F96 F103 tg_306
            have b_110 := g_b hG104 (a := 77) (i := 59) (lo := 0) (hi := 40) rfl rfl
            have b_111 := g_b hG104 (a := 77) (i := 66) (lo := 0) (hi := 40) rfl rfl
            have s_112 := Wx_f (M := N) (M1 := M108) (v10.toInt).toNat (fun i z => (F_n F103 (show ¬ (115 = 77 ∧ (i = 59 ∨ i = 66) ∨ 112 ≤ 115 ∧ 115 ≤ 114 ∧ 40 ≤ i ∨ 115 = 116) by omega) (W_n W93 (by omega) (W_n W84 (by omega) (W_n W74 (by omega) rfl)))))
            have c_115 : M108.2.1 77 65 = v10 := (F_n F103 (show ¬ (77 = 77 ∧ (65 = 59 ∨ 65 = 66) ∨ 112 ≤ 77 ∧ 77 ≤ 114 ∧ 40 ≤ 65 ∨ 77 = 116) by decide) (W_n W93 (by decide) (W_n W84 (by decide) c_78)))
            have t_116 : (M108.2.1 77 65).toInt = v10.toInt := congrArg Int32.toInt c_115
            have c_117 : M108.2.1 77 67 = (N.2.1 77 67) := (F_n F103 (show ¬ (77 = 77 ∧ (67 = 59 ∨ 67 = 66) ∨ 112 ≤ 77 ∧ 77 ≤ 114 ∧ 40 ≤ 67 ∨ 77 = 116) by decide) (W_n W93 (by decide) (W_n W84 (by decide) (W_n W74 (by decide) rfl))))
            have t_118 : (M108.2.1 77 67).toInt = (N.2.1 77 67).toInt := congrArg Int32.toInt c_117
            have c_119 : M108.2.1 77 68 = (N.2.1 77 68) := (F_n F103 (show ¬ (77 = 77 ∧ (68 = 59 ∨ 68 = 66) ∨ 112 ≤ 77 ∧ 77 ≤ 114 ∧ 40 ≤ 68 ∨ 77 = 116) by decide) (W_n W93 (by decide) (W_n W84 (by decide) (W_n W74 (by decide) rfl))))
            have t_120 : (M108.2.1 77 68).toInt = (N.2.1 77 68).toInt := congrArg Int32.toInt c_119
            have c_121 : M108.2.1 77 69 = (N.2.1 77 69) := (F_n F103 (show ¬ (77 = 77 ∧ (69 = 59 ∨ 69 = 66) ∨ 112 ≤ 77 ∧ 77 ≤ 114 ∧ 40 ≤ 69 ∨ 77 = 116) by decide) (W_n W93 (by decide) (W_n W84 (by decide) (W_n W74 (by decide) rfl))))
            have t_122 : (M108.2.1 77 69).toInt = (N.2.1 77 69).toInt := congrArg Int32.toInt c_121
            have j_114 : QK M108 := QK_i (by unfold QK_c; rw [show ((M108.2.1 77 65).toInt).toNat = (v10.toInt).toNat by omega]; refine ⟨by omega, by omega, by omega, by omega⟩) (fun i z => by rw [(F_n F103 (show ¬ (115 = 77 ∧ (i = 59 ∨ i = 66) ∨ 112 ≤ 115 ∧ 115 ≤ 114 ∧ 40 ≤ i ∨ 115 = 116) by omega) (W_n W93 (by omega) (W_n W84 (by omega) (W_n W74 (by omega) rfl))))]; exact g2.2.1 i (by omega)) p_107
            refine to_go (pc := 74) rw_223_74 ?_
            have s_123 : Wo M108 ((M108.2.1 77 65).toInt).toNat = Wo M108 (v10.toInt).toNat := by rw [show ((M108.2.1 77 65).toInt).toNat = (v10.toInt).toNat by omega]
            exact ih M108 (.int v12) (.int v89) (.int v98) hG104 F109 (by omega) j_114 (by omega) (by omega)
      · refine to_c (pc := 5) rw_220_5 (x := (3 : Int32)) rfl rfl (to_go (pc := 6) rw_220_6 (to_r0 (pc := 28) rw_220_28 (to_in (pc := 22) rw_223_22 rfl (b_clt_f (pc := 23) rw_223_23 (A := 3) (B := l.toInt) rfl rfl (by omega) (to_an (pc := 26) rw_223_26 rfl (to_dupr (pc := 27) rw_223_27 (tt_gI (pc := 28) rw_223_28 (g_o hG rfl) (v := (N.2.1 77 65)) rfl (to_c (pc := 31) rw_223_31 (x := (1 : Int32)) rfl rfl (s_subk (pc := 32) rw_223_32 (A := (N.2.1 77 65).toInt) (B := 1) rfl rfl (by omega) (v := v10) e11 (s_pI (pc := 33) rw_223_33 hG rfl (fun M127 W126 => ?_)))))))))))
        have hG128 := g_w hG W126 (A := v10.toInt) rfl (lo := 0) (hi := 48) rfl rfl (by omega) (by decide)
        have F129 := FR.w F0 W126 (show 77 = 77 ∧ (65 = 59 ∨ 65 = 65 ∨ 65 = 66) ∨ 112 ≤ 77 ∧ 77 ≤ 114 ∧ 40 ≤ 65 ∨ 77 = 116 by decide)
        refine to_an (pc := 36) rw_223_36 rfl (s_gR (pc := 37) rw_223_37 hG128 rfl (v := 115) rfl (to_an (pc := 40) rw_223_40 rfl ?_))
        have c_130 : M127.2.1 77 65 = v10 := (W_e W126)
        refine tt_gI (pc := 41) rw_223_41 (g_o hG128 rfl) (v := v10) c_130 (s_ialk (pc := 44) rw_223_44 hG128 rfl (n := 64) rfl rfl (A := v10.toInt) rfl (by omega) (by omega) (v := v12) (W_n W126 (by omega) w_13) (to_isn (pc := 45) rw_223_45 (ls2 := [.ref 77, .int l, .int v12, u3, u4]) rfl rfl (to_in (pc := 46) rw_223_46 rfl (to_c (pc := 47) rw_223_47 (x := (2 : Int32)) rfl rfl (b_cne_f (pc := 48) rw_223_48 (A := v12.toInt) (B := 2) rfl rfl (by omega) (to_c (pc := 51) rw_223_51 (x := (-1 : Int32)) rfl rfl (to_go (pc := 52) rw_223_52 (to_isn (pc := 59) rw_223_59 (ls2 := [.ref 77, .int l, .int v12, .int (-1 : Int32), u4]) rfl rfl (to_an (pc := 60) rw_223_60 rfl (s_v (pc := 61) rw_223_61 (dp0 hd (by decide)) (ls0 := [.ref 77]) rfl (Nat.le_of_ble_eq_true rfl) (Nat.le_of_ble_eq_true rfl) rfl (to_rc rfl rfl rfl (g_o hG128 rfl)) rfl (to_an (pc := 0) rw_222_0 rfl ?_)))))))))))
        refine to_dupr (pc := 1) rw_222_1 ?_
        have c_133 : M127.2.1 77 66 = (N.2.1 77 66) := (W_n W126 (by decide) rfl)
        refine tt_gI (pc := 2) rw_222_2 (g_o hG128 rfl) (v := (N.2.1 77 66)) c_133 (to_c (pc := 5) rw_222_5 (x := (1 : Int32)) rfl rfl (s_sub (pc := 6) rw_222_6 (A := (N.2.1 77 66).toInt) (B := 1) rfl rfl (by omega) (fun v134 e135 => s_pI (pc := 7) rw_222_7 hG128 rfl (fun M137 W136 => ?_))))
        have hG138 := g_w hG128 W136 (A := v134.toInt) rfl (lo := 0) (hi := 40) rfl rfl (by omega) (by decide)
        have F139 := FR.w F129 W136 (show 77 = 77 ∧ (66 = 59 ∨ 66 = 65 ∨ 66 = 66) ∨ 112 ≤ 77 ∧ 77 ≤ 114 ∧ 40 ≤ 66 ∨ 77 = 116 by decide)
        refine to_an (pc := 10) rw_222_10 rfl (s_gR (pc := 11) rw_222_11 hG138 rfl (v := 116) rfl (to_an (pc := 14) rw_222_14 rfl ?_))
        have c_140 : M137.2.1 77 66 = v134 := (W_e W136)
        refine tt_gI (pc := 15) rw_222_15 (g_o hG138 rfl) (v := v134) c_140 (s_ial (pc := 18) rw_222_18 hG138 rfl (n := 64) rfl rfl (A := v134.toInt) rfl (by omega) (by omega) (lo := 0) (hi := 39) rfl rfl (fun v141 w_142 _ _ => to_r0 (pc := 19) rw_222_19 (to_is (pc := 64) rw_223_64 (ls2 := [.ref 77, .int l, .int v12, .int (-1 : Int32), .int v141]) rfl rfl (to_an (pc := 66) rw_223_66 rfl (to_in (pc := 67) rw_223_67 rfl (to_i (pc := 68) rw_223_68 rfl (to_in (pc := 70) rw_223_70 rfl (s_v (pc := 71) rw_223_71 (dp0 hd (by decide)) (ls0 := [.ref 77, .int v12, .int v141, .int (-1 : Int32)]) rfl (Nat.le_of_ble_eq_true rfl) (Nat.le_of_ble_eq_true rfl) rfl (to_rc rfl rfl rfl (g_o hG138 rfl)) rfl ?_))))))))
        have k_143 : (-1 : Int32).toInt = -1 := rfl
        have c_144 : M137.2.1 77 59 = (N.2.1 77 59) := (W_n W136 (by decide) (W_n W126 (by decide) rfl))
        have t_145 : (M137.2.1 77 59).toInt = (N.2.1 77 59).toInt := congrArg Int32.toInt c_144
        have t_146 : (M137.2.1 77 66).toInt = v134.toInt := congrArg Int32.toInt c_140
        refine C_221 hX (dp1 hd (by decide)) hG138 (by omega) (by omega) (by omega) (by omega) (by omega) (by omega) (by rw [(W_n W136 (by omega) (W_n W126 (by omega) rfl))]; exact KN_f (fun a i z => (W_n W136 (by /-r77,66-/ omega) (W_n W126 (by /-r77,65-/ omega) rfl))) g2.2.2) (by omega) (by omega) (by omega) (by omega) (k := v12) (p := v141) (o := (-1 : Int32)) (fun M152 hG148 F147 p_149 p_150 p_151 => ?_)
        have F153 := FR.c F139 F147 tg_306
        have b_154 := g_b hG148 (a := 77) (i := 59) (lo := 0) (hi := 40) rfl rfl
        have b_155 := g_b hG148 (a := 77) (i := 66) (lo := 0) (hi := 40) rfl rfl
        have s_156 := Wx_f (M := N) (M1 := M152) (v10.toInt).toNat (fun i z => (F_n F147 (show ¬ (115 = 77 ∧ (i = 59 ∨ i = 66) ∨ 112 ≤ 115 ∧ 115 ≤ 114 ∧ 40 ≤ i ∨ 115 = 116) by omega) (W_n W136 (by omega) (W_n W126 (by omega) rfl))))
        have c_159 : M152.2.1 77 65 = v10 := (F_n F147 (show ¬ (77 = 77 ∧ (65 = 59 ∨ 65 = 66) ∨ 112 ≤ 77 ∧ 77 ≤ 114 ∧ 40 ≤ 65 ∨ 77 = 116) by decide) (W_n W136 (by decide) c_130))
        have t_160 : (M152.2.1 77 65).toInt = v10.toInt := congrArg Int32.toInt c_159
        have c_161 : M152.2.1 77 67 = (N.2.1 77 67) := (F_n F147 (show ¬ (77 = 77 ∧ (67 = 59 ∨ 67 = 66) ∨ 112 ≤ 77 ∧ 77 ≤ 114 ∧ 40 ≤ 67 ∨ 77 = 116) by decide) (W_n W136 (by decide) (W_n W126 (by decide) rfl)))
        have t_162 : (M152.2.1 77 67).toInt = (N.2.1 77 67).toInt := congrArg Int32.toInt c_161
        have c_163 : M152.2.1 77 68 = (N.2.1 77 68) := (F_n F147 (show ¬ (77 = 77 ∧ (68 = 59 ∨ 68 = 66) ∨ 112 ≤ 77 ∧ 77 ≤ 114 ∧ 40 ≤ 68 ∨ 77 = 116) by decide) (W_n W136 (by decide) (W_n W126 (by decide) rfl)))
        have t_164 : (M152.2.1 77 68).toInt = (N.2.1 77 68).toInt := congrArg Int32.toInt c_163
        have c_165 : M152.2.1 77 69 = (N.2.1 77 69) := (F_n F147 (show ¬ (77 = 77 ∧ (69 = 59 ∨ 69 = 66) ∨ 112 ≤ 77 ∧ 77 ≤ 114 ∧ 40 ≤ 69 ∨ 77 = 116) by decide) (W_n W136 (by decide) (W_n W126 (by decide) rfl)))
        have t_166 : (M152.2.1 77 69).toInt = (N.2.1 77 69).toInt := congrArg Int32.toInt c_165
        have j_158 : QK M152 := QK_i (by unfold QK_c; rw [show ((M152.2.1 77 65).toInt).toNat = (v10.toInt).toNat by omega]; refine ⟨by omega, by omega, by omega, by omega⟩) (fun i z => by rw [(F_n F147 (show ¬ (115 = 77 ∧ (i = 59 ∨ i = 66) ∨ 112 ≤ 115 ∧ 115 ≤ 114 ∧ 40 ≤ i ∨ 115 = 116) by omega) (W_n W136 (by omega) (W_n W126 (by omega) rfl)))]; exact g2.2.1 i (by omega)) p_151
        refine to_go (pc := 74) rw_223_74 ?_
        have s_167 : Wo M152 ((M152.2.1 77 65).toInt).toNat = Wo M152 (v10.toInt).toNat := by rw [show ((M152.2.1 77 65).toInt).toNat = (v10.toInt).toNat by omega]
        exact ih M152 (.int v12) (.int (-1 : Int32)) (.int v141) hG148 F153 (by omega) j_158 (by omega) (by omega)
set_option maxRecDepth 4000 in
set_option maxHeartbeats 0 in
theorem C_223 {X : mm_X} {d : Nat} {M : mm_M} {Q : Option Value → mm_M → Prop} {l : Int32} (hX : g_X X) (hd : 1 ≤ d) (hG : g_G M) (q1 : 1 ≤ l.toInt) (q2 : l.toInt ≤ 3) (q3 : (M.2.1 77 68).toInt = 1) (q4 : QK M) (h : ∀ (M1 : mm_M), g_G M1 → FR md_bi M M1 → QK M1 → ((M1.2.1 77 59).toInt + Wo M1 ((M1.2.1 77 65).toInt).toNat = (M.2.1 77 59).toInt + Wo M ((M.2.1 77 65).toInt).toNat) → (l.toInt = 1 → (M1.2.1 77 65).toInt = 0 ∨ ((M1.2.1 115 (((M1.2.1 77 65).toInt).toNat - 1)).toInt = 0 ∨ (M1.2.1 115 (((M1.2.1 77 65).toInt).toNat - 1)).toInt = 1)) → Q (none) M1) : mm_T X d 222 0 [.ref 77, .int l, .null, .null, .null] [] M Q := by
  have F0 : FR md_bi M M := FR.rf
  have b_168 := g_b hG (a := 77) (i := 68) (lo := 0) (hi := 1) rfl rfl
  have b_169 := g_b hG (a := 77) (i := 59) (lo := 0) (hi := 40) rfl rfl
  have b_170 := g_b hG (a := 77) (i := 65) (lo := 0) (hi := 48) rfl rfl
  have b_171 := g_b hG (a := 77) (i := 66) (lo := 0) (hi := 40) rfl rfl
  have b_172 := g_b hG (a := 77) (i := 67) (lo := 0) (hi := 8) rfl rfl
  have b_173 := g_b hG (a := 77) (i := 69) (lo := 0) (hi := 40) rfl rfl
  have s_q := QK_e q4
  have s_w := Wx_b M ((M.2.1 77 65).toInt).toNat
  exact (T_223_0 (l := l) hX hd q1 q2 q3 q4 h (((M.2.1 77 65).toInt).toNat + 1)) M (.null) (.null) (.null) hG F0 (by omega) q4 rfl (by omega)
