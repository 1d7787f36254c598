theorem tg_141 : ∀ a i : Nat, (a = 77 ∧ (i = 59 ∨ i = 66) ∨ 112 ≤ a ∧ a ≤ 114 ∧ 40 ≤ i ∨ a = 116) → (a = 77 ∧ (i = 59 ∨ i = 65 ∨ i = 66) ∨ 112 ≤ a ∧ a ≤ 114 ∧ 40 ≤ i ∨ a = 116) := fun a i z => by omega
/-! the reference's token, without cases -/
theorem RS_k {M : mm_M} {t : Nat → Int} {nn a : Int} (H : RS M t nn) (e : (M.2.1 77 10).toInt = a) : x_kind t nn a = (M.2.1 77 8).toInt ∧ 0 ≤ a ∧ a ≤ nn := by
  have z := RS_u H e
  have b := RS_b H e
  unfold x_R at z
  omega
theorem RS_1 {M : mm_M} {t : Nat → Int} {nn a : Int} (H : RS M t nn) (e : (M.2.1 77 10).toInt = a) (k : (M.2.1 77 8).toInt = 1) : x_kx (x_val t nn a) = (M.2.1 77 9).toInt := by
  have z := RS_u H e
  unfold x_R at z
  omega
theorem RS_2 {M : mm_M} {t : Nat → Int} {nn a : Int} (H : RS M t nn) (e : (M.2.1 77 10).toInt = a) (k : (M.2.1 77 8).toInt = 2) : x_val t nn a = (M.2.1 77 9).toInt := by
  have z := RS_u H e
  unfold x_R at z
  omega
theorem RS_3 {M : mm_M} {t : Nat → Int} {nn a : Int} (H : RS M t nn) (e : (M.2.1 77 10).toInt = a) (k : (M.2.1 77 8).toInt = 3) (h : (M.2.1 77 9).toInt ≤ 99) : x_val t nn a = (M.2.1 77 9).toInt ∧ 0 ≤ x_val t nn a := by
  have z := RS_u H e
  unfold x_R at z
  omega
theorem RS_3x {M : mm_M} {t : Nat → Int} {nn a m : Int} (H : RS M t nn) (e : (M.2.1 77 10).toInt = a) (k : (M.2.1 77 8).toInt = 3) (hm : m ≤ 99) (h : ¬ ((M.2.1 77 9).toInt ≤ m ∧ 0 ≤ (M.2.1 77 9).toInt)) : ¬ x_val t nn a ≤ m := by
  have z := RS_u H e
  unfold x_R at z
  omega
theorem RS_4 {M : mm_M} {t : Nat → Int} {nn a : Int} (H : RS M t nn) (e : (M.2.1 77 10).toInt = a) (k : (M.2.1 77 8).toInt = 4) : x_val t nn a = (M.2.1 77 9).toInt := by
  have z := RS_u H e
  unfold x_R at z
  omega
set_option maxRecDepth 4000 in
set_option maxHeartbeats 0 in
theorem E_221 {X : mm_X} {d : Nat} {M : mm_M} {Q : Option Value → mm_M → Prop} {k : Int32} {p : Int32} {o : Int32} {P9 : x_GP} {H9 : List Int} {f9 : Int} {s9 : Int} (hX : g_X X) (hd : 0 ≤ d) (hG : g_G M) (q1 : 0 ≤ k.toInt) (q2 : k.toInt ≤ 4) (q3 : 0 ≤ p.toInt) (q4 : p.toInt ≤ 39) (q5 : (M.2.1 77 59).toInt ≤ 39) (q6 : (M.2.1 77 66).toInt ≤ 39) (q7 : KN M 40 ((M.2.1 77 59).toInt).toNat) (q8 : k.toInt = 0 → (0 ≤ p.toInt ∧ p.toInt ≤ 7) ∧ 0 ≤ o.toInt ∧ ((M.2.1 81 (p.toInt).toNat).toInt = 0 ∨ o.toInt ≤ 9)) (q9 : k.toInt = 1 → 0 ≤ p.toInt ∧ p.toInt ≤ 11) (q10 : k.toInt = 3 → 0 ≤ o.toInt ∧ o.toInt ≤ 39) (q11 : k.toInt = 4 → 0 ≤ o.toInt ∧ o.toInt ≤ 39) (q12 : (M.2.1 77 59).toInt = P9.2) (q13 : LQK 40 M P9) (q14 : HLD M H9) (q15 : x_pt (x_hd P9.1.1 P9.2.toNat) k.toInt p.toInt o.toInt f9 s9) (h : ∀ (M1 : mm_M), g_G M1 → FR md_gr M M1 → ((M1.2.1 77 59).toInt = (M.2.1 77 59).toInt + 1) → ((M1.2.1 77 66).toInt = (M.2.1 77 66).toInt + 1) → (KN M1 40 ((M1.2.1 77 59).toInt).toNat) → (LQK 40 M1 (x_kn1 P9 k.toInt f9 s9)) → (HLD M1 (P9.2 :: H9)) → Q (none) M1) : mm_T X d 220 0 [.ref 77, .int k, .int p, .int o] [] M Q := by
  have F0 : FR md_gr M M := FR.rf
  have b_1 := g_b hG (a := 77) (i := 59) (lo := 0) (hi := 40) rfl rfl
  have b_2 := g_b hG (a := 77) (i := 66) (lo := 0) (hi := 40) rfl rfl
  refine to_an (pc := 0) rw_221_0 rfl ?_
  refine s_gR (pc := 1) rw_221_1 hG rfl (v := 112) rfl ?_
  refine to_c (pc := 4) rw_221_4 (x := (40 : Int32)) rfl rfl ?_
  refine to_an (pc := 6) rw_221_6 rfl ?_
  refine tt_gI (pc := 7) rw_221_7 (g_o hG rfl) (v := (M.2.1 77 59)) rfl ?_
  refine s_add (pc := 10) rw_221_10 (A := 40) (B := (M.2.1 77 59).toInt) rfl rfl (by omega) (fun v3 e4 => ?_)
  refine to_in (pc := 11) rw_221_11 rfl ?_
  refine s_ias (pc := 12) rw_221_12 hG rfl (n := 80) rfl (A := v3.toInt) rfl (by omega) (by omega) (fun M6 W5 => ?_)
  have hG7 := g_w hG W5 (A := k.toInt) rfl (lo := 0) (hi := 4) rfl rfl (by omega) (by decide)
  have F8 := FR.w F0 W5 (show 112 = 77 ∧ ((v3.toInt).toNat = 59 ∨ (v3.toInt).toNat = 66) ∨ 112 ≤ 112 ∧ 112 ≤ 114 ∧ 40 ≤ (v3.toInt).toNat ∨ 112 = 116 by omega)
  refine to_an (pc := 13) rw_221_13 rfl ?_
  refine s_gR (pc := 14) rw_221_14 hG7 rfl (v := 113) rfl ?_
  refine to_c (pc := 17) rw_221_17 (x := (40 : Int32)) rfl rfl ?_
  refine to_an (pc := 19) rw_221_19 rfl ?_
  have c_9 : M6.2.1 77 59 = (M.2.1 77 59) := (W_n W5 (fun z => absurd z.1 (by decide)) rfl)
  refine tt_gI (pc := 20) rw_221_20 (g_o hG7 rfl) (v := (M.2.1 77 59)) c_9 ?_
  refine s_add (pc := 23) rw_221_23 (A := 40) (B := (M.2.1 77 59).toInt) rfl rfl (by omega) (fun v10 e11 => ?_)
  refine to_in (pc := 24) rw_221_24 rfl ?_
  refine s_ias (pc := 25) rw_221_25 hG7 rfl (n := 80) rfl (A := v10.toInt) rfl (by omega) (by omega) (fun M13 W12 => ?_)
  have hG14 := g_w hG7 W12 (A := p.toInt) rfl (lo := 0) (hi := 39) rfl rfl (by omega) (by decide)
  have F15 := FR.w F8 W12 (show 113 = 77 ∧ ((v10.toInt).toNat = 59 ∨ (v10.toInt).toNat = 66) ∨ 112 ≤ 113 ∧ 113 ≤ 114 ∧ 40 ≤ (v10.toInt).toNat ∨ 113 = 116 by omega)
  refine to_an (pc := 26) rw_221_26 rfl ?_
  refine s_gR (pc := 27) rw_221_27 hG14 rfl (v := 114) rfl ?_
  refine to_c (pc := 30) rw_221_30 (x := (40 : Int32)) rfl rfl ?_
  refine to_an (pc := 32) rw_221_32 rfl ?_
  have c_16 : M13.2.1 77 59 = (M.2.1 77 59) := (W_n W12 (fun z => absurd z.1 (by decide)) c_9)
  refine tt_gI (pc := 33) rw_221_33 (g_o hG14 rfl) (v := (M.2.1 77 59)) c_16 ?_
  refine s_add (pc := 36) rw_221_36 (A := 40) (B := (M.2.1 77 59).toInt) rfl rfl (by omega) (fun v17 e18 => ?_)
  refine to_in (pc := 37) rw_221_37 rfl ?_
  refine s_ias (pc := 38) rw_221_38 hG14 rfl (n := 80) rfl (A := v17.toInt) rfl (by omega) (by omega) (fun M20 W19 => ?_)
  have hG21 := g_wf hG14 W19 rfl rfl (by decide)
  have F22 := FR.w F15 W19 (show 114 = 77 ∧ ((v17.toInt).toNat = 59 ∨ (v17.toInt).toNat = 66) ∨ 112 ≤ 114 ∧ 114 ≤ 114 ∧ 40 ≤ (v17.toInt).toNat ∨ 114 = 116 by omega)
  refine to_an (pc := 39) rw_221_39 rfl ?_
  refine s_gR (pc := 40) rw_221_40 hG21 rfl (v := 116) rfl ?_
  refine to_an (pc := 43) rw_221_43 rfl ?_
  have c_23 : M20.2.1 77 66 = (M.2.1 77 66) := (W_n W19 (fun z => absurd z.1 (by decide)) (W_n W12 (fun z => absurd z.1 (by decide)) (W_n W5 (fun z => absurd z.1 (by decide)) rfl)))
  refine tt_gI (pc := 44) rw_221_44 (g_o hG21 rfl) (v := (M.2.1 77 66)) c_23 ?_
  refine to_an (pc := 47) rw_221_47 rfl ?_
  have c_24 : M20.2.1 77 59 = (M.2.1 77 59) := (W_n W19 (fun z => absurd z.1 (by decide)) c_16)
  refine tt_gI (pc := 48) rw_221_48 (g_o hG21 rfl) (v := (M.2.1 77 59)) c_24 ?_
  refine s_ias (pc := 51) rw_221_51 hG21 rfl (n := 64) rfl (A := (M.2.1 77 66).toInt) rfl (by omega) (by omega) (fun M26 W25 => ?_)
  have hG27 := g_w hG21 W25 (A := (M.2.1 77 59).toInt) rfl (lo := 0) (hi := 39) rfl rfl (by omega) (by decide)
  have F28 := FR.w F22 W25 (show 116 = 77 ∧ (((M.2.1 77 66).toInt).toNat = 59 ∨ ((M.2.1 77 66).toInt).toNat = 66) ∨ 112 ≤ 116 ∧ 116 ≤ 114 ∧ 40 ≤ ((M.2.1 77 66).toInt).toNat ∨ 116 = 116 by omega)
  refine to_an (pc := 52) rw_221_52 rfl ?_
  refine to_dupr (pc := 53) rw_221_53 ?_
  have c_29 : M26.2.1 77 66 = (M.2.1 77 66) := (W_n W25 (fun z => absurd z.1 (by decide)) c_23)
  refine tt_gI (pc := 54) rw_221_54 (g_o hG27 rfl) (v := (M.2.1 77 66)) c_29 ?_
  refine to_c (pc := 57) rw_221_57 (x := (1 : Int32)) rfl rfl ?_
  refine s_add (pc := 58) rw_221_58 (A := (M.2.1 77 66).toInt) (B := 1) rfl rfl (by omega) (fun v30 e31 => ?_)
  refine s_pI (pc := 59) rw_221_59 hG27 rfl (fun M33 W32 => ?_)
  have hG34 := g_w hG27 W32 (A := v30.toInt) rfl (lo := 0) (hi := 40) rfl rfl (by omega) (by decide)
  have F35 := FR.w F28 W32 (show 77 = 77 ∧ (66 = 59 ∨ 66 = 66) ∨ 112 ≤ 77 ∧ 77 ≤ 114 ∧ 40 ≤ 66 ∨ 77 = 116 by decide)
  refine to_an (pc := 62) rw_221_62 rfl ?_
  refine to_dupr (pc := 63) rw_221_63 ?_
  have c_36 : M33.2.1 77 59 = (M.2.1 77 59) := (W_n W32 (by decide) (W_n W25 (fun z => absurd z.1 (by decide)) c_24))
  refine tt_gI (pc := 64) rw_221_64 (g_o hG34 rfl) (v := (M.2.1 77 59)) c_36 ?_
  refine to_c (pc := 67) rw_221_67 (x := (1 : Int32)) rfl rfl ?_
  refine s_add (pc := 68) rw_221_68 (A := (M.2.1 77 59).toInt) (B := 1) rfl rfl (by omega) (fun v37 e38 => ?_)
  refine s_pI (pc := 69) rw_221_69 hG34 rfl (fun M40 W39 => ?_)
  have hG41 := g_w hG34 W39 (A := v37.toInt) rfl (lo := 0) (hi := 40) rfl rfl (by omega) (by decide)
  have F42 := FR.w F35 W39 (show 77 = 77 ∧ (59 = 59 ∨ 59 = 66) ∨ 112 ≤ 77 ∧ 77 ≤ 114 ∧ 40 ≤ 59 ∨ 77 = 116 by decide)
  refine to_rv (pc := 72) rw_221_72 ?_
  have c_43 : M40.2.1 77 59 = v37 := (W_e W39)
  have t_44 : (M40.2.1 77 59).toInt = v37.toInt := congrArg Int32.toInt c_43
  have c_45 : M40.2.1 77 66 = v30 := (W_n W39 (by decide) (W_e W32))
  have t_46 : (M40.2.1 77 66).toInt = v30.toInt := congrArg Int32.toInt c_45
  have j_47 : M40.2.1 112 (40 + ((M.2.1 77 59).toInt).toNat) = k := by rw [show 40 + ((M.2.1 77 59).toInt).toNat = (v3.toInt).toNat by omega]; exact (W_n W39 (by omega) (W_n W32 (by omega) (W_n W25 (by omega) (W_n W19 (by omega) (W_n W12 (by omega) (W_e W5))))))
  have j_48 : M40.2.1 113 (40 + ((M.2.1 77 59).toInt).toNat) = p := by rw [show 40 + ((M.2.1 77 59).toInt).toNat = (v10.toInt).toNat by omega]; exact (W_n W39 (by omega) (W_n W32 (by omega) (W_n W25 (by omega) (W_n W19 (by omega) (W_e W12)))))
  have j_49 : M40.2.1 114 (40 + ((M.2.1 77 59).toInt).toNat) = o := by rw [show 40 + ((M.2.1 77 59).toInt).toNat = (v17.toInt).toNat by omega]; exact (W_n W39 (by omega) (W_n W32 (by omega) (W_n W25 (by omega) (W_e W19))))
  have z_50 : M40.2.1 112 (40 + P9.2.toNat) = k := by rw [show (40 + P9.2.toNat) = (v3.toInt).toNat by omega]; exact (W_n W39 (by omega) (W_n W32 (by omega) (W_n W25 (by omega) (W_n W19 (by omega) (W_n W12 (by omega) (W_e W5))))))
  have z_51 : M40.2.1 113 (40 + P9.2.toNat) = p := by rw [show (40 + P9.2.toNat) = (v10.toInt).toNat by omega]; exact (W_n W39 (by omega) (W_n W32 (by omega) (W_n W25 (by omega) (W_n W19 (by omega) (W_e W12)))))
  have z_52 : M40.2.1 114 (40 + P9.2.toNat) = o := by rw [show (40 + P9.2.toNat) = (v17.toInt).toNat by omega]; exact (W_n W39 (by omega) (W_n W32 (by omega) (W_n W25 (by omega) (W_e W19))))
  exact h M40 hG41 F42 (by omega) (by omega) (by rw [show ((M40.2.1 77 59).toInt).toNat = ((M.2.1 77 59).toInt).toNat + 1 by omega]; exact KN_k (M1 := M40) q7 (fun a i z => (W_n W39 (by /-r77,59-/ omega) (W_n W32 (by /-r77,66-/ omega) (W_n W25 (by /-r116-/ omega) (W_n W19 (by /-r114-/ omega) (W_n W12 (by /-r113-/ omega) (W_n W5 (by /-r112-/ omega) rfl))))))) j_47 j_48 j_49 q8 q9 q10 q11) (LQK_k q13 (fun r i z hi => (W_n W39 (by omega) (W_n W32 (by omega) (W_n W25 (by omega) (W_n W19 (by omega) (W_n W12 (by omega) (W_n W5 (by omega) rfl))))))) (congrArg Int32.toInt z_50) (by rw [z_51, z_52]; exact q15)) (HLD_p q14 (j := ((M.2.1 77 66).toInt).toNat) (by omega) (fun i hi => (W_n W39 (by omega) (W_n W32 (by omega) (W_n W25 (by omega) (W_n W19 (by omega) (W_n W12 (by omega) (W_n W5 (by omega) rfl))))))) ((W_n W39 (by omega) (W_n W32 (by omega) (W_e W25)))) (by omega) (by omega))
set_option maxRecDepth 4000 in
set_option maxHeartbeats 0 in
theorem U_223_0 {X : mm_X} {d : Nat} {M : mm_M} {Q : Option Value → mm_M → Prop} {l : Int32} {Wl9 : List Int} {P9 : x_GP} (hX : g_X X) (hd : 1 ≤ d) (q1 : 1 ≤ l.toInt) (q2 : l.toInt ≤ 3) (q3 : (M.2.1 77 68).toInt = 1) (q4 : QK M) (q5 : GST M Wl9 P9) (h : ∀ (M1 : mm_M), g_G M1 → FR md_bi M M1 → QK M1 → ((M1.2.1 77 59).toInt + Wo M1 ((M1.2.1 77 65).toInt).toNat = (M.2.1 77 59).toInt + Wo M ((M.2.1 77 65).toInt).toNat) → (l.toInt = 1 → (M1.2.1 77 65).toInt = 0 ∨ ((M1.2.1 115 (((M1.2.1 77 65).toInt).toNat - 1)).toInt = 0 ∨ (M1.2.1 115 (((M1.2.1 77 65).toInt).toNat - 1)).toInt = 1)) → (GST M1 (x_bd l.toInt Wl9 P9).1 (x_bd l.toInt Wl9 P9).2) → Q (none) M1) : ∀ nn9 : Nat, (∀ (N : mm_M) (u2 : Value) (u3 : Value) (u4 : Value), g_G N → FR md_bi M N → ((N.2.1 77 68).toInt = 1) → (QK N) → ((N.2.1 77 59).toInt + Wo N ((N.2.1 77 65).toInt).toNat = (M.2.1 77 59).toInt + Wo M ((M.2.1 77 65).toInt).toNat) → (∃ (W : List Int) (P : x_GP), GST N W P ∧ x_bd l.toInt W P = x_bd l.toInt Wl9 P9) → (N.2.1 77 65).toInt < (nn9 : Int) → mm_T X d 222 0 [.ref 77, .int l, u2, u3, u4] [] N Q) := by
  intro nn9
  induction nn9 with
  | zero =>
    intro N u2 u3 u4 hG F0 g1 g2 g3 g4 hm
    have b_1 := g_b hG (a := 77) (i := 65) (lo := 0) (hi := 48) rfl rfl
    have b_2 := g_b hG (a := 77) (i := 68) (lo := 0) (hi := 1) rfl rfl
    exfalso; omega
  | succ nn9 ih =>
    intro N u2 u3 u4 hG F0 g1 g2 g3 g4 hm
    have b_3 := g_b hG (a := 77) (i := 65) (lo := 0) (hi := 48) rfl rfl
    have b_4 := g_b hG (a := 77) (i := 68) (lo := 0) (hi := 1) rfl rfl
    have b_5 := g_b hG (a := 77) (i := 59) (lo := 0) (hi := 40) rfl rfl
    have b_6 := g_b hG (a := 77) (i := 66) (lo := 0) (hi := 40) rfl rfl
    have b_7 := g_b hG (a := 77) (i := 67) (lo := 0) (hi := 8) rfl rfl
    have b_8 := g_b hG (a := 77) (i := 69) (lo := 0) (hi := 40) rfl rfl
    have s_q := QK_e g2
    have s_w := Wx_b N ((N.2.1 77 65).toInt).toNat
    obtain ⟨Wn, Pn, gn, en⟩ := id g4
    have z_9 := gn.2.2.2
    have z_10 := gn.2.1.1
    refine to_an (pc := 0) rw_223_0 rfl ?_
    refine tt_gI (pc := 1) rw_223_1 (g_o hG rfl) (v := (N.2.1 77 65)) rfl ?_
    refine b_ile (pc := 4) rw_223_4 (A := (N.2.1 77 65).toInt) rfl (fun h11 => ?_) (fun h11 => ?_)
    · refine to_rv (pc := 77) rw_223_77 ?_
      exact h N hG F0 g2 g3 (fun _ => Or.inl (by omega)) (bxq_0 en (WTR_n gn.1 (by omega)) gn)
    · refine to_an (pc := 7) rw_223_7 rfl ?_
      refine to_an (pc := 8) rw_223_8 rfl ?_
      refine s_gR (pc := 9) rw_223_9 hG rfl (v := 115) rfl ?_
      refine to_an (pc := 12) rw_223_12 rfl ?_
      refine tt_gI (pc := 13) rw_223_13 (g_o hG rfl) (v := (N.2.1 77 65)) rfl ?_
      refine to_c (pc := 16) rw_223_16 (x := (1 : Int32)) rfl rfl ?_
      refine s_sub (pc := 17) rw_223_17 (A := (N.2.1 77 65).toInt) (B := 1) rfl rfl (by omega) (fun v12 e13 => ?_)
      refine s_ial (pc := 18) rw_223_18 hG rfl (n := 64) rfl rfl (A := v12.toInt) rfl (by omega) (by omega) (lo := 0) (hi := 4) rfl rfl (fun v14 w_15 _ _ => ?_)
      have t_16 := congrArg Int32.toInt w_15
      have s_s := Wx_s N (v12.toInt).toNat
      rw [show (v12.toInt).toNat + 1 = ((N.2.1 77 65).toInt).toNat by omega, w_15] at s_s
      have s_b := Wx_b N (v12.toInt).toNat
      have s_1 := g2.2.1 (v12.toInt).toNat (by omega)
      rw [w_15] at s_1
      obtain ⟨ws, hw, hws⟩ := WTR_t (c := v12.toInt) gn.1 (by omega) (by omega) w_15
      have z_17 := x_wt_c v14.toInt
      refine s_v (pc := 19) rw_223_19 (dp0 hd (by decide)) (ls0 := [.ref 77, .int v14]) rfl (Nat.le_of_ble_eq_true rfl) (Nat.le_of_ble_eq_true rfl) rfl (to_rc rfl rfl rfl (g_o hG rfl)) rfl ?_
      refine to_in (pc := 0) rw_220_0 rfl ?_
      refine to_c (pc := 1) rw_220_1 (x := (2 : Int32)) rfl rfl ?_
      refine b_cne (pc := 2) rw_220_2 (A := v14.toInt) (B := 2) rfl rfl (fun h18 => ?_) (fun h18 => ?_)
      · refine to_in (pc := 9) rw_220_9 rfl ?_
        refine to_c (pc := 10) rw_220_10 (x := (3 : Int32)) rfl rfl ?_
        refine b_cne (pc := 11) rw_220_11 (A := v14.toInt) (B := 3) rfl rfl (fun h19 => ?_) (fun h19 => ?_)
        · refine to_in (pc := 18) rw_220_18 rfl ?_
          refine to_c (pc := 19) rw_220_19 (x := (4 : Int32)) rfl rfl ?_
          refine b_cne (pc := 20) rw_220_20 (A := v14.toInt) (B := 4) rfl rfl (fun h20 => ?_) (fun h20 => ?_)
          · refine to_c (pc := 27) rw_220_27 (x := (0 : Int32)) rfl rfl ?_
            refine to_r0 (pc := 28) rw_220_28 ?_
            refine to_in (pc := 22) rw_223_22 rfl ?_
            refine b_clt_t (pc := 23) rw_223_23 (A := 0) (B := l.toInt) rfl rfl (by omega) ?_
            refine to_rv (pc := 77) rw_223_77 ?_
            exact h N hG F0 g2 g3 (fun zl => Or.inr (by rw [show ((N.2.1 77 65).toInt).toNat - 1 = (v12.toInt).toNat by omega, w_15]; omega)) (bx_n en hw (by omega) gn)
          · refine to_c (pc := 23) rw_220_23 (x := (1 : Int32)) rfl rfl ?_
            refine to_go (pc := 24) rw_220_24 ?_
            refine to_r0 (pc := 28) rw_220_28 ?_
            refine to_in (pc := 22) rw_223_22 rfl ?_
            refine b_clt (pc := 23) rw_223_23 (A := 1) (B := l.toInt) rfl rfl (fun h21 => ?_) (fun h21 => ?_)
            · refine to_rv (pc := 77) rw_223_77 ?_
              exact h N hG F0 g2 g3 (fun zl => Or.inr (by rw [show ((N.2.1 77 65).toInt).toNat - 1 = (v12.toInt).toNat by omega, w_15]; omega)) (bx_n en hw (by omega) gn)
            · refine to_an (pc := 26) rw_223_26 rfl ?_
              refine to_dupr (pc := 27) rw_223_27 ?_
              refine tt_gI (pc := 28) rw_223_28 (g_o hG rfl) (v := (N.2.1 77 65)) rfl ?_
              refine to_c (pc := 31) rw_223_31 (x := (1 : Int32)) rfl rfl ?_
              refine s_subk (pc := 32) rw_223_32 (A := (N.2.1 77 65).toInt) (B := 1) rfl rfl (by omega) (v := v12) e13 ?_
              refine s_pI (pc := 33) rw_223_33 hG rfl (fun M25 W24 => ?_)
              have hG26 := g_w hG W24 (A := v12.toInt) rfl (lo := 0) (hi := 48) rfl rfl (by omega) (by decide)
              have F27 := FR.w F0 W24 (show 77 = 77 ∧ (65 = 59 ∨ 65 = 65 ∨ 65 = 66) ∨ 112 ≤ 77 ∧ 77 ≤ 114 ∧ 40 ≤ 65 ∨ 77 = 116 by decide)
              refine to_an (pc := 36) rw_223_36 rfl ?_
              refine s_gR (pc := 37) rw_223_37 hG26 rfl (v := 115) rfl ?_
              refine to_an (pc := 40) rw_223_40 rfl ?_
              have c_28 : M25.2.1 77 65 = v12 := (W_e W24)
              refine tt_gI (pc := 41) rw_223_41 (g_o hG26 rfl) (v := v12) c_28 ?_
              refine s_ialk (pc := 44) rw_223_44 hG26 rfl (n := 64) rfl rfl (A := v12.toInt) rfl (by omega) (by omega) (v := v14) (W_n W24 (by omega) w_15) ?_
              refine to_isn (pc := 45) rw_223_45 (ls2 := [.ref 77, .int l, .int v14, u3, u4]) rfl rfl ?_
              refine to_in (pc := 46) rw_223_46 rfl ?_
              refine to_c (pc := 47) rw_223_47 (x := (2 : Int32)) rfl rfl ?_
              refine b_cne_t (pc := 48) rw_223_48 (A := v14.toInt) (B := 2) rfl rfl (by omega) ?_
              refine to_an (pc := 55) rw_223_55 rfl ?_
              refine s_v (pc := 56) rw_223_56 (dp0 hd (by decide)) (ls0 := [.ref 77]) rfl (Nat.le_of_ble_eq_true rfl) (Nat.le_of_ble_eq_true rfl) rfl (to_rc rfl rfl rfl (g_o hG26 rfl)) rfl ?_
              refine to_an (pc := 0) rw_222_0 rfl ?_
              refine to_dupr (pc := 1) rw_222_1 ?_
              have c_31 : M25.2.1 77 66 = (N.2.1 77 66) := (W_n W24 (by decide) rfl)
              refine tt_gI (pc := 2) rw_222_2 (g_o hG26 rfl) (v := (N.2.1 77 66)) c_31 ?_
              refine to_c (pc := 5) rw_222_5 (x := (1 : Int32)) rfl rfl ?_
              refine s_sub (pc := 6) rw_222_6 (A := (N.2.1 77 66).toInt) (B := 1) rfl rfl (by omega) (fun v32 e33 => ?_)
              refine s_pI (pc := 7) rw_222_7 hG26 rfl (fun M35 W34 => ?_)
              have hG36 := g_w hG26 W34 (A := v32.toInt) rfl (lo := 0) (hi := 40) rfl rfl (by omega) (by decide)
              have F37 := FR.w F27 W34 (show 77 = 77 ∧ (66 = 59 ∨ 66 = 65 ∨ 66 = 66) ∨ 112 ≤ 77 ∧ 77 ≤ 114 ∧ 40 ≤ 66 ∨ 77 = 116 by decide)
              refine to_an (pc := 10) rw_222_10 rfl ?_
              refine s_gR (pc := 11) rw_222_11 hG36 rfl (v := 116) rfl ?_
              refine to_an (pc := 14) rw_222_14 rfl ?_
              have c_38 : M35.2.1 77 66 = v32 := (W_e W34)
              refine tt_gI (pc := 15) rw_222_15 (g_o hG36 rfl) (v := v32) c_38 ?_
              refine s_ial (pc := 18) rw_222_18 hG36 rfl (n := 64) rfl rfl (A := v32.toInt) rfl (by omega) (by omega) (lo := 0) (hi := 39) rfl rfl (fun v39 w_40 _ _ => ?_)
              have t_41 : (M35.2.1 77 66).toInt = v32.toInt := congrArg Int32.toInt c_38
              have z_42 := HLD_t (M := N) (M1 := M35) (c := v32.toInt) gn.2.2.1 (by omega) (by omega) (((W_n W34 (by omega) (W_n W24 (by omega) rfl))).symm.trans w_40) (fun i => (W_n W34 (by omega) (W_n W24 (by omega) rfl))) (by omega)
              refine to_r0 (pc := 19) rw_222_19 ?_
              refine to_isn (pc := 59) rw_223_59 (ls2 := [.ref 77, .int l, .int v14, .int v39, u4]) rfl rfl ?_
              refine to_an (pc := 60) rw_223_60 rfl ?_
              refine s_v (pc := 61) rw_223_61 (dp0 hd (by decide)) (ls0 := [.ref 77]) rfl (Nat.le_of_ble_eq_true rfl) (Nat.le_of_ble_eq_true rfl) rfl (to_rc rfl rfl rfl (g_o hG36 rfl)) rfl ?_
              refine to_an (pc := 0) rw_222_0 rfl ?_
              refine to_dupr (pc := 1) rw_222_1 ?_
              refine tt_gI (pc := 2) rw_222_2 (g_o hG36 rfl) (v := v32) c_38 ?_
              refine to_c (pc := 5) rw_222_5 (x := (1 : Int32)) rfl rfl ?_
              refine s_sub (pc := 6) rw_222_6 (A := v32.toInt) (B := 1) rfl rfl (by omega) (fun v43 e44 => ?_)
              refine s_pI (pc := 7) rw_222_7 hG36 rfl (fun M46 W45 => ?_)
              have hG47 := g_w hG36 W45 (A := v43.toInt) rfl (lo := 0) (hi := 40) rfl rfl (by omega) (by decide)
              have F48 := FR.w F37 W45 (show 77 = 77 ∧ (66 = 59 ∨ 66 = 65 ∨ 66 = 66) ∨ 112 ≤ 77 ∧ 77 ≤ 114 ∧ 40 ≤ 66 ∨ 77 = 116 by decide)
              refine to_an (pc := 10) rw_222_10 rfl ?_
              refine s_gR (pc := 11) rw_222_11 hG47 rfl (v := 116) rfl ?_
              refine to_an (pc := 14) rw_222_14 rfl ?_
              have c_49 : M46.2.1 77 66 = v43 := (W_e W45)
              refine tt_gI (pc := 15) rw_222_15 (g_o hG47 rfl) (v := v43) c_49 ?_
              refine s_ial (pc := 18) rw_222_18 hG47 rfl (n := 64) rfl rfl (A := v43.toInt) rfl (by omega) (by omega) (lo := 0) (hi := 39) rfl rfl (fun v50 w_51 _ _ => ?_)
              have t_52 : (M46.2.1 77 66).toInt = v43.toInt := congrArg Int32.toInt c_49
              have z_53 := HLD_t (M := M35) (M1 := M46) (c := v43.toInt) z_42.1 (by omega) (by omega) (((W_n W45 (by omega) rfl)).symm.trans w_51) (fun i => (W_n W45 (by omega) rfl)) (by omega)
              refine to_r0 (pc := 19) rw_222_19 ?_
              refine to_is (pc := 64) rw_223_64 (ls2 := [.ref 77, .int l, .int v14, .int v39, .int v50]) rfl rfl ?_
              refine to_an (pc := 66) rw_223_66 rfl ?_
              refine to_in (pc := 67) rw_223_67 rfl ?_
              refine to_i (pc := 68) rw_223_68 rfl ?_
              refine to_in (pc := 70) rw_223_70 rfl ?_
              refine s_v (pc := 71) rw_223_71 (dp0 hd (by decide)) (ls0 := [.ref 77, .int v14, .int v50, .int v39]) rfl (Nat.le_of_ble_eq_true rfl) (Nat.le_of_ble_eq_true rfl) rfl (to_rc rfl rfl rfl (g_o hG47 rfl)) rfl ?_
              have c_54 : M46.2.1 77 59 = (N.2.1 77 59) := (W_n W45 (by decide) (W_n W34 (by decide) (W_n W24 (by decide) rfl)))
              have t_55 : (M46.2.1 77 59).toInt = (N.2.1 77 59).toInt := congrArg Int32.toInt c_54
              refine E_221 hX (dp1 hd (by decide)) hG47 (by omega) (by omega) (by omega) (by omega) (by omega) (by omega) (by rw [(W_n W45 (by omega) (W_n W34 (by omega) (W_n W24 (by omega) rfl)))]; exact KN_f (fun a i z => (W_n W45 (by /-r77,66-/ omega) (W_n W34 (by /-r77,66-/ omega) (W_n W24 (by /-r77,65-/ omega) rfl)))) g2.2.2) (by omega) (by omega) (by omega) (by omega) (by omega) (LQK_f (fun r i hr hi => (W_n W45 (by omega) (W_n W34 (by omega) (W_n W24 (by omega) rfl)))) gn.2.1) z_53.1 ⟨fun z => by exfalso; omega, fun z => by exfalso; omega, fun z => ⟨z_53.2, z_42.2⟩⟩ (k := v14) (p := v50) (o := v39) (P9 := Pn) (H9 := (((x_hd Pn.1.1 Pn.2.toNat).tail).tail)) (f9 := 0) (s9 := 0) (fun M63 hG57 F56 p_58 p_59 p_60 p_61 p_62 => ?_)
              have F64 := FR.c F48 F56 tg_141
              have b_65 := g_b hG57 (a := 77) (i := 59) (lo := 0) (hi := 40) rfl rfl
              have b_66 := g_b hG57 (a := 77) (i := 66) (lo := 0) (hi := 40) rfl rfl
              have s_67 := Wx_f (M := N) (M1 := M63) (v12.toInt).toNat (fun i z => (F_n F56 (show ¬ (115 = 77 ∧ (i = 59 ∨ i = 66) ∨ 112 ≤ 115 ∧ 115 ≤ 114 ∧ 40 ≤ i ∨ 115 = 116) by omega) (W_n W45 (by omega) (W_n W34 (by omega) (W_n W24 (by omega) rfl)))))
              have c_70 : M63.2.1 77 65 = v12 := (F_n F56 (show ¬ (77 = 77 ∧ (65 = 59 ∨ 65 = 66) ∨ 112 ≤ 77 ∧ 77 ≤ 114 ∧ 40 ≤ 65 ∨ 77 = 116) by decide) (W_n W45 (by decide) (W_n W34 (by decide) c_28)))
              have t_71 : (M63.2.1 77 65).toInt = v12.toInt := congrArg Int32.toInt c_70
              have c_72 : M63.2.1 77 67 = (N.2.1 77 67) := (F_n F56 (show ¬ (77 = 77 ∧ (67 = 59 ∨ 67 = 66) ∨ 112 ≤ 77 ∧ 77 ≤ 114 ∧ 40 ≤ 67 ∨ 77 = 116) by decide) (W_n W45 (by decide) (W_n W34 (by decide) (W_n W24 (by decide) rfl))))
              have t_73 : (M63.2.1 77 67).toInt = (N.2.1 77 67).toInt := congrArg Int32.toInt c_72
              have c_74 : M63.2.1 77 68 = (N.2.1 77 68) := (F_n F56 (show ¬ (77 = 77 ∧ (68 = 59 ∨ 68 = 66) ∨ 112 ≤ 77 ∧ 77 ≤ 114 ∧ 40 ≤ 68 ∨ 77 = 116) by decide) (W_n W45 (by decide) (W_n W34 (by decide) (W_n W24 (by decide) rfl))))
              have t_75 : (M63.2.1 77 68).toInt = (N.2.1 77 68).toInt := congrArg Int32.toInt c_74
              have c_76 : M63.2.1 77 69 = (N.2.1 77 69) := (F_n F56 (show ¬ (77 = 77 ∧ (69 = 59 ∨ 69 = 66) ∨ 112 ≤ 77 ∧ 77 ≤ 114 ∧ 40 ≤ 69 ∨ 77 = 116) by decide) (W_n W45 (by decide) (W_n W34 (by decide) (W_n W24 (by decide) rfl))))
              have t_77 : (M63.2.1 77 69).toInt = (N.2.1 77 69).toInt := congrArg Int32.toInt c_76
              have j_69 : QK M63 := QK_i (by unfold QK_c; rw [show ((M63.2.1 77 65).toInt).toNat = (v12.toInt).toNat by omega]; refine ⟨by omega, by omega, by omega, by omega⟩) (fun i z => by rw [(F_n F56 (show ¬ (115 = 77 ∧ (i = 59 ∨ i = 66) ∨ 112 ≤ 115 ∧ 115 ≤ 114 ∧ 40 ≤ i ∨ 115 = 116) by omega) (W_n W45 (by omega) (W_n W34 (by omega) (W_n W24 (by omega) rfl))))]; exact g2.2.1 i (by omega)) p_60
              refine to_go (pc := 74) rw_223_74 ?_
              have s_78 : Wo M63 ((M63.2.1 77 65).toInt).toNat = Wo M63 (v12.toInt).toNat := by rw [show ((M63.2.1 77 65).toInt).toNat = (v12.toInt).toNat by omega]
              exact ih M63 (.int v14) (.int v39) (.int v50) hG57 F64 (by omega) j_69 (by omega) ⟨ws, x_kn1 Pn v14.toInt 0 0, ⟨hws _ (fun i => (F_n F56 (show ¬ (115 = 77 ∧ (i = 59 ∨ i = 66) ∨ 112 ≤ 115 ∧ 115 ≤ 114 ∧ 40 ≤ i ∨ 115 = 116) by omega) (W_n W45 (by omega) (W_n W34 (by omega) (W_n W24 (by omega) rfl))))) (by omega), p_61, (hd_b gn.2.1.1 (by omega) p_62), (by show _ = Pn.2 + 1; omega)⟩, bx_s en hw (by omega)⟩ (by omega)
        · refine to_c (pc := 14) rw_220_14 (x := (2 : Int32)) rfl rfl ?_
          refine to_go (pc := 15) rw_220_15 ?_
          refine to_r0 (pc := 28) rw_220_28 ?_
          refine to_in (pc := 22) rw_223_22 rfl ?_
          refine b_clt (pc := 23) rw_223_23 (A := 2) (B := l.toInt) rfl rfl (fun h79 => ?_) (fun h79 => ?_)
          · refine to_rv (pc := 77) rw_223_77 ?_
            exact h N hG F0 g2 g3 (fun zl => Or.inr (by rw [show ((N.2.1 77 65).toInt).toNat - 1 = (v12.toInt).toNat by omega, w_15]; omega)) (bx_n en hw (by omega) gn)
          · refine to_an (pc := 26) rw_223_26 rfl ?_
            refine to_dupr (pc := 27) rw_223_27 ?_
            refine tt_gI (pc := 28) rw_223_28 (g_o hG rfl) (v := (N.2.1 77 65)) rfl ?_
            refine to_c (pc := 31) rw_223_31 (x := (1 : Int32)) rfl rfl ?_
            refine s_subk (pc := 32) rw_223_32 (A := (N.2.1 77 65).toInt) (B := 1) rfl rfl (by omega) (v := v12) e13 ?_
            refine s_pI (pc := 33) rw_223_33 hG rfl (fun M83 W82 => ?_)
            have hG84 := g_w hG W82 (A := v12.toInt) rfl (lo := 0) (hi := 48) rfl rfl (by omega) (by decide)
            have F85 := FR.w F0 W82 (show 77 = 77 ∧ (65 = 59 ∨ 65 = 65 ∨ 65 = 66) ∨ 112 ≤ 77 ∧ 77 ≤ 114 ∧ 40 ≤ 65 ∨ 77 = 116 by decide)
            refine to_an (pc := 36) rw_223_36 rfl ?_
            refine s_gR (pc := 37) rw_223_37 hG84 rfl (v := 115) rfl ?_
            refine to_an (pc := 40) rw_223_40 rfl ?_
            have c_86 : M83.2.1 77 65 = v12 := (W_e W82)
            refine tt_gI (pc := 41) rw_223_41 (g_o hG84 rfl) (v := v12) c_86 ?_
            refine s_ialk (pc := 44) rw_223_44 hG84 rfl (n := 64) rfl rfl (A := v12.toInt) rfl (by omega) (by omega) (v := v14) (W_n W82 (by omega) w_15) ?_
            refine to_isn (pc := 45) rw_223_45 (ls2 := [.ref 77, .int l, .int v14, u3, u4]) rfl rfl ?_
            refine to_in (pc := 46) rw_223_46 rfl ?_
            refine to_c (pc := 47) rw_223_47 (x := (2 : Int32)) rfl rfl ?_
            refine b_cne_t (pc := 48) rw_223_48 (A := v14.toInt) (B := 2) rfl rfl (by omega) ?_
            refine to_an (pc := 55) rw_223_55 rfl ?_
            refine s_v (pc := 56) rw_223_56 (dp0 hd (by decide)) (ls0 := [.ref 77]) rfl (Nat.le_of_ble_eq_true rfl) (Nat.le_of_ble_eq_true rfl) rfl (to_rc rfl rfl rfl (g_o hG84 rfl)) rfl ?_
            refine to_an (pc := 0) rw_222_0 rfl ?_
            refine to_dupr (pc := 1) rw_222_1 ?_
            have c_89 : M83.2.1 77 66 = (N.2.1 77 66) := (W_n W82 (by decide) rfl)
            refine tt_gI (pc := 2) rw_222_2 (g_o hG84 rfl) (v := (N.2.1 77 66)) c_89 ?_
            refine to_c (pc := 5) rw_222_5 (x := (1 : Int32)) rfl rfl ?_
            refine s_sub (pc := 6) rw_222_6 (A := (N.2.1 77 66).toInt) (B := 1) rfl rfl (by omega) (fun v90 e91 => ?_)
            refine s_pI (pc := 7) rw_222_7 hG84 rfl (fun M93 W92 => ?_)
            have hG94 := g_w hG84 W92 (A := v90.toInt) rfl (lo := 0) (hi := 40) rfl rfl (by omega) (by decide)
            have F95 := FR.w F85 W92 (show 77 = 77 ∧ (66 = 59 ∨ 66 = 65 ∨ 66 = 66) ∨ 112 ≤ 77 ∧ 77 ≤ 114 ∧ 40 ≤ 66 ∨ 77 = 116 by decide)
            refine to_an (pc := 10) rw_222_10 rfl ?_
            refine s_gR (pc := 11) rw_222_11 hG94 rfl (v := 116) rfl ?_
            refine to_an (pc := 14) rw_222_14 rfl ?_
            have c_96 : M93.2.1 77 66 = v90 := (W_e W92)
            refine tt_gI (pc := 15) rw_222_15 (g_o hG94 rfl) (v := v90) c_96 ?_
            refine s_ial (pc := 18) rw_222_18 hG94 rfl (n := 64) rfl rfl (A := v90.toInt) rfl (by omega) (by omega) (lo := 0) (hi := 39) rfl rfl (fun v97 w_98 _ _ => ?_)
            have t_99 : (M93.2.1 77 66).toInt = v90.toInt := congrArg Int32.toInt c_96
            have z_100 := HLD_t (M := N) (M1 := M93) (c := v90.toInt) gn.2.2.1 (by omega) (by omega) (((W_n W92 (by omega) (W_n W82 (by omega) rfl))).symm.trans w_98) (fun i => (W_n W92 (by omega) (W_n W82 (by omega) rfl))) (by omega)
            refine to_r0 (pc := 19) rw_222_19 ?_
            refine to_isn (pc := 59) rw_223_59 (ls2 := [.ref 77, .int l, .int v14, .int v97, u4]) rfl rfl ?_
            refine to_an (pc := 60) rw_223_60 rfl ?_
            refine s_v (pc := 61) rw_223_61 (dp0 hd (by decide)) (ls0 := [.ref 77]) rfl (Nat.le_of_ble_eq_true rfl) (Nat.le_of_ble_eq_true rfl) rfl (to_rc rfl rfl rfl (g_o hG94 rfl)) rfl ?_
            refine to_an (pc := 0) rw_222_0 rfl ?_
            refine to_dupr (pc := 1) rw_222_1 ?_
            refine tt_gI (pc := 2) rw_222_2 (g_o hG94 rfl) (v := v90) c_96 ?_
            refine to_c (pc := 5) rw_222_5 (x := (1 : Int32)) rfl rfl ?_
            refine s_sub (pc := 6) rw_222_6 (A := v90.toInt) (B := 1) rfl rfl (by omega) (fun v101 e102 => ?_)
            refine s_pI (pc := 7) rw_222_7 hG94 rfl (fun M104 W103 => ?_)
            have hG105 := g_w hG94 W103 (A := v101.toInt) rfl (lo := 0) (hi := 40) rfl rfl (by omega) (by decide)
            have F106 := FR.w F95 W103 (show 77 = 77 ∧ (66 = 59 ∨ 66 = 65 ∨ 66 = 66) ∨ 112 ≤ 77 ∧ 77 ≤ 114 ∧ 40 ≤ 66 ∨ 77 = 116 by decide)
            refine to_an (pc := 10) rw_222_10 rfl ?_
            refine s_gR (pc := 11) rw_222_11 hG105 rfl (v := 116) rfl ?_
            refine to_an (pc := 14) rw_222_14 rfl ?_
            have c_107 : M104.2.1 77 66 = v101 := (W_e W103)
            refine tt_gI (pc := 15) rw_222_15 (g_o hG105 rfl) (v := v101) c_107 ?_
            refine s_ial (pc := 18) rw_222_18 hG105 rfl (n := 64) rfl rfl (A := v101.toInt) rfl (by omega) (by omega) (lo := 0) (hi := 39) rfl rfl (fun v108 w_109 _ _ => ?_)
            have t_110 : (M104.2.1 77 66).toInt = v101.toInt := congrArg Int32.toInt c_107
            have z_111 := HLD_t (M := M93) (M1 := M104) (c := v101.toInt) z_100.1 (by omega) (by omega) (((W_n W103 (by omega) rfl)).symm.trans w_109) (fun i => (W_n W103 (by omega) rfl)) (by omega)
            refine to_r0 (pc := 19) rw_222_19 ?_
            refine to_is (pc := 64) rw_223_64 (ls2 := [.ref 77, .int l, .int v14, .int v97, .int v108]) rfl rfl ?_
            refine to_an (pc := 66) rw_223_66 rfl ?_
            refine to_in (pc := 67) rw_223_67 rfl ?_
            refine to_i (pc := 68) rw_223_68 rfl ?_
            refine to_in (pc := 70) rw_223_70 rfl ?_
            refine s_v (pc := 71) rw_223_71 (dp0 hd (by decide)) (ls0 := [.ref 77, .int v14, .int v108, .int v97]) rfl (Nat.le_of_ble_eq_true rfl) (Nat.le_of_ble_eq_true rfl) rfl (to_rc rfl rfl rfl (g_o hG105 rfl)) rfl ?_
            have c_112 : M104.2.1 77 59 = (N.2.1 77 59) := (W_n W103 (by decide) (W_n W92 (by decide) (W_n W82 (by decide) rfl)))
            have t_113 : (M104.2.1 77 59).toInt = (N.2.1 77 59).toInt := congrArg Int32.toInt c_112
            refine E_221 hX (dp1 hd (by decide)) hG105 (by omega) (by omega) (by omega) (by omega) (by omega) (by omega) (by rw [(W_n W103 (by omega) (W_n W92 (by omega) (W_n W82 (by omega) rfl)))]; exact KN_f (fun a i z => (W_n W103 (by /-r77,66-/ omega) (W_n W92 (by /-r77,66-/ omega) (W_n W82 (by /-r77,65-/ omega) rfl)))) g2.2.2) (by omega) (by omega) (by omega) (by omega) (by omega) (LQK_f (fun r i hr hi => (W_n W103 (by omega) (W_n W92 (by omega) (W_n W82 (by omega) rfl)))) gn.2.1) z_111.1 ⟨fun z => by exfalso; omega, fun z => by exfalso; omega, fun z => ⟨z_111.2, z_100.2⟩⟩ (k := v14) (p := v108) (o := v97) (P9 := Pn) (H9 := (((x_hd Pn.1.1 Pn.2.toNat).tail).tail)) (f9 := 0) (s9 := 0) (fun M121 hG115 F114 p_116 p_117 p_118 p_119 p_120 => ?_)
            have F122 := FR.c F106 F114 tg_141
            have b_123 := g_b hG115 (a := 77) (i := 59) (lo := 0) (hi := 40) rfl rfl
            have b_124 := g_b hG115 (a := 77) (i := 66) (lo := 0) (hi := 40) rfl rfl
            have s_125 := Wx_f (M := N) (M1 := M121) (v12.toInt).toNat (fun i z => (F_n F114 (show ¬ (115 = 77 ∧ (i = 59 ∨ i = 66) ∨ 112 ≤ 115 ∧ 115 ≤ 114 ∧ 40 ≤ i ∨ 115 = 116) by omega) (W_n W103 (by omega) (W_n W92 (by omega) (W_n W82 (by omega) rfl)))))
            have c_128 : M121.2.1 77 65 = v12 := (F_n F114 (show ¬ (77 = 77 ∧ (65 = 59 ∨ 65 = 66) ∨ 112 ≤ 77 ∧ 77 ≤ 114 ∧ 40 ≤ 65 ∨ 77 = 116) by decide) (W_n W103 (by decide) (W_n W92 (by decide) c_86)))
            have t_129 : (M121.2.1 77 65).toInt = v12.toInt := congrArg Int32.toInt c_128
            have c_130 : M121.2.1 77 67 = (N.2.1 77 67) := (F_n F114 (show ¬ (77 = 77 ∧ (67 = 59 ∨ 67 = 66) ∨ 112 ≤ 77 ∧ 77 ≤ 114 ∧ 40 ≤ 67 ∨ 77 = 116) by decide) (W_n W103 (by decide) (W_n W92 (by decide) (W_n W82 (by decide) rfl))))
            have t_131 : (M121.2.1 77 67).toInt = (N.2.1 77 67).toInt := congrArg Int32.toInt c_130
            have c_132 : M121.2.1 77 68 = (N.2.1 77 68) := (F_n F114 (show ¬ (77 = 77 ∧ (68 = 59 ∨ 68 = 66) ∨ 112 ≤ 77 ∧ 77 ≤ 114 ∧ 40 ≤ 68 ∨ 77 = 116) by decide) (W_n W103 (by decide) (W_n W92 (by decide) (W_n W82 (by decide) rfl))))
            have t_133 : (M121.2.1 77 68).toInt = (N.2.1 77 68).toInt := congrArg Int32.toInt c_132
            have c_134 : M121.2.1 77 69 = (N.2.1 77 69) := (F_n F114 (show ¬ (77 = 77 ∧ (69 = 59 ∨ 69 = 66) ∨ 112 ≤ 77 ∧ 77 ≤ 114 ∧ 40 ≤ 69 ∨ 77 = 116) by decide) (W_n W103 (by decide) (W_n W92 (by decide) (W_n W82 (by decide) rfl))))
            have t_135 : (M121.2.1 77 69).toInt = (N.2.1 77 69).toInt := congrArg Int32.toInt c_134
            have j_127 : QK M121 := QK_i (by unfold QK_c; rw [show ((M121.2.1 77 65).toInt).toNat = (v12.toInt).toNat by omega]; refine ⟨by omega, by omega, by omega, by omega⟩) (fun i z => by rw [(F_n F114 (show ¬ (115 = 77 ∧ (i = 59 ∨ i = 66) ∨ 112 ≤ 115 ∧ 115 ≤ 114 ∧ 40 ≤ i ∨ 115 = 116) by omega) (W_n W103 (by omega) (W_n W92 (by omega) (W_n W82 (by omega) rfl))))]; exact g2.2.1 i (by omega)) p_118
            refine to_go (pc := 74) rw_223_74 ?_
            have s_136 : Wo M121 ((M121.2.1 77 65).toInt).toNat = Wo M121 (v12.toInt).toNat := by rw [show ((M121.2.1 77 65).toInt).toNat = (v12.toInt).toNat by omega]
            exact ih M121 (.int v14) (.int v97) (.int v108) hG115 F122 (by omega) j_127 (by omega) ⟨ws, x_kn1 Pn v14.toInt 0 0, ⟨hws _ (fun i => (F_n F114 (show ¬ (115 = 77 ∧ (i = 59 ∨ i = 66) ∨ 112 ≤ 115 ∧ 115 ≤ 114 ∧ 40 ≤ i ∨ 115 = 116) by omega) (W_n W103 (by omega) (W_n W92 (by omega) (W_n W82 (by omega) rfl))))) (by omega), p_119, (hd_b gn.2.1.1 (by omega) p_120), (by show _ = Pn.2 + 1; omega)⟩, bx_s en hw (by omega)⟩ (by omega)
      · refine to_c (pc := 5) rw_220_5 (x := (3 : Int32)) rfl rfl ?_
        refine to_go (pc := 6) rw_220_6 ?_
        refine to_r0 (pc := 28) rw_220_28 ?_
        refine to_in (pc := 22) rw_223_22 rfl ?_
        refine b_clt_f (pc := 23) rw_223_23 (A := 3) (B := l.toInt) rfl rfl (by omega) ?_
        refine to_an (pc := 26) rw_223_26 rfl ?_
        refine to_dupr (pc := 27) rw_223_27 ?_
        refine tt_gI (pc := 28) rw_223_28 (g_o hG rfl) (v := (N.2.1 77 65)) rfl ?_
        refine to_c (pc := 31) rw_223_31 (x := (1 : Int32)) rfl rfl ?_
        refine s_subk (pc := 32) rw_223_32 (A := (N.2.1 77 65).toInt) (B := 1) rfl rfl (by omega) (v := v12) e13 ?_
        refine s_pI (pc := 33) rw_223_33 hG rfl (fun M140 W139 => ?_)
        have hG141 := g_w hG W139 (A := v12.toInt) rfl (lo := 0) (hi := 48) rfl rfl (by omega) (by decide)
        have F142 := FR.w F0 W139 (show 77 = 77 ∧ (65 = 59 ∨ 65 = 65 ∨ 65 = 66) ∨ 112 ≤ 77 ∧ 77 ≤ 114 ∧ 40 ≤ 65 ∨ 77 = 116 by decide)
        refine to_an (pc := 36) rw_223_36 rfl ?_
        refine s_gR (pc := 37) rw_223_37 hG141 rfl (v := 115) rfl ?_
        refine to_an (pc := 40) rw_223_40 rfl ?_
        have c_143 : M140.2.1 77 65 = v12 := (W_e W139)
        refine tt_gI (pc := 41) rw_223_41 (g_o hG141 rfl) (v := v12) c_143 ?_
        refine s_ialk (pc := 44) rw_223_44 hG141 rfl (n := 64) rfl rfl (A := v12.toInt) rfl (by omega) (by omega) (v := v14) (W_n W139 (by omega) w_15) ?_
        refine to_isn (pc := 45) rw_223_45 (ls2 := [.ref 77, .int l, .int v14, u3, u4]) rfl rfl ?_
        refine to_in (pc := 46) rw_223_46 rfl ?_
        refine to_c (pc := 47) rw_223_47 (x := (2 : Int32)) rfl rfl ?_
        refine b_cne_f (pc := 48) rw_223_48 (A := v14.toInt) (B := 2) rfl rfl (by omega) ?_
        refine to_c (pc := 51) rw_223_51 (x := (-1 : Int32)) rfl rfl ?_
        refine to_go (pc := 52) rw_223_52 ?_
        refine to_isn (pc := 59) rw_223_59 (ls2 := [.ref 77, .int l, .int v14, .int (-1 : Int32), u4]) rfl rfl ?_
        refine to_an (pc := 60) rw_223_60 rfl ?_
        refine s_v (pc := 61) rw_223_61 (dp0 hd (by decide)) (ls0 := [.ref 77]) rfl (Nat.le_of_ble_eq_true rfl) (Nat.le_of_ble_eq_true rfl) rfl (to_rc rfl rfl rfl (g_o hG141 rfl)) rfl ?_
        refine to_an (pc := 0) rw_222_0 rfl ?_
        refine to_dupr (pc := 1) rw_222_1 ?_
        have c_146 : M140.2.1 77 66 = (N.2.1 77 66) := (W_n W139 (by decide) rfl)
        refine tt_gI (pc := 2) rw_222_2 (g_o hG141 rfl) (v := (N.2.1 77 66)) c_146 ?_
        refine to_c (pc := 5) rw_222_5 (x := (1 : Int32)) rfl rfl ?_
        refine s_sub (pc := 6) rw_222_6 (A := (N.2.1 77 66).toInt) (B := 1) rfl rfl (by omega) (fun v147 e148 => ?_)
        refine s_pI (pc := 7) rw_222_7 hG141 rfl (fun M150 W149 => ?_)
        have hG151 := g_w hG141 W149 (A := v147.toInt) rfl (lo := 0) (hi := 40) rfl rfl (by omega) (by decide)
        have F152 := FR.w F142 W149 (show 77 = 77 ∧ (66 = 59 ∨ 66 = 65 ∨ 66 = 66) ∨ 112 ≤ 77 ∧ 77 ≤ 114 ∧ 40 ≤ 66 ∨ 77 = 116 by decide)
        refine to_an (pc := 10) rw_222_10 rfl ?_
        refine s_gR (pc := 11) rw_222_11 hG151 rfl (v := 116) rfl ?_
        refine to_an (pc := 14) rw_222_14 rfl ?_
        have c_153 : M150.2.1 77 66 = v147 := (W_e W149)
        refine tt_gI (pc := 15) rw_222_15 (g_o hG151 rfl) (v := v147) c_153 ?_
        refine s_ial (pc := 18) rw_222_18 hG151 rfl (n := 64) rfl rfl (A := v147.toInt) rfl (by omega) (by omega) (lo := 0) (hi := 39) rfl rfl (fun v154 w_155 _ _ => ?_)
        have t_156 : (M150.2.1 77 66).toInt = v147.toInt := congrArg Int32.toInt c_153
        have z_157 := HLD_t (M := N) (M1 := M150) (c := v147.toInt) gn.2.2.1 (by omega) (by omega) (((W_n W149 (by omega) (W_n W139 (by omega) rfl))).symm.trans w_155) (fun i => (W_n W149 (by omega) (W_n W139 (by omega) rfl))) (by omega)
        refine to_r0 (pc := 19) rw_222_19 ?_
        refine to_is (pc := 64) rw_223_64 (ls2 := [.ref 77, .int l, .int v14, .int (-1 : Int32), .int v154]) rfl rfl ?_
        refine to_an (pc := 66) rw_223_66 rfl ?_
        refine to_in (pc := 67) rw_223_67 rfl ?_
        refine to_i (pc := 68) rw_223_68 rfl ?_
        refine to_in (pc := 70) rw_223_70 rfl ?_
        refine s_v (pc := 71) rw_223_71 (dp0 hd (by decide)) (ls0 := [.ref 77, .int v14, .int v154, .int (-1 : Int32)]) rfl (Nat.le_of_ble_eq_true rfl) (Nat.le_of_ble_eq_true rfl) rfl (to_rc rfl rfl rfl (g_o hG151 rfl)) rfl ?_
        have k_158 : (-1 : Int32).toInt = -1 := rfl
        have c_159 : M150.2.1 77 59 = (N.2.1 77 59) := (W_n W149 (by decide) (W_n W139 (by decide) rfl))
        have t_160 : (M150.2.1 77 59).toInt = (N.2.1 77 59).toInt := congrArg Int32.toInt c_159
        refine E_221 hX (dp1 hd (by decide)) hG151 (by omega) (by omega) (by omega) (by omega) (by omega) (by omega) (by rw [(W_n W149 (by omega) (W_n W139 (by omega) rfl))]; exact KN_f (fun a i z => (W_n W149 (by /-r77,66-/ omega) (W_n W139 (by /-r77,65-/ omega) rfl))) g2.2.2) (by omega) (by omega) (by omega) (by omega) (by omega) (LQK_f (fun r i hr hi => (W_n W149 (by omega) (W_n W139 (by omega) rfl))) gn.2.1) z_157.1 ⟨fun z => by exfalso; omega, fun z => z_157.2, fun z => by exfalso; omega⟩ (k := v14) (p := v154) (o := (-1 : Int32)) (P9 := Pn) (H9 := ((x_hd Pn.1.1 Pn.2.toNat).tail)) (f9 := 0) (s9 := 0) (fun M168 hG162 F161 p_163 p_164 p_165 p_166 p_167 => ?_)
        have F169 := FR.c F152 F161 tg_141
        have b_170 := g_b hG162 (a := 77) (i := 59) (lo := 0) (hi := 40) rfl rfl
        have b_171 := g_b hG162 (a := 77) (i := 66) (lo := 0) (hi := 40) rfl rfl
        have s_172 := Wx_f (M := N) (M1 := M168) (v12.toInt).toNat (fun i z => (F_n F161 (show ¬ (115 = 77 ∧ (i = 59 ∨ i = 66) ∨ 112 ≤ 115 ∧ 115 ≤ 114 ∧ 40 ≤ i ∨ 115 = 116) by omega) (W_n W149 (by omega) (W_n W139 (by omega) rfl))))
        have c_175 : M168.2.1 77 65 = v12 := (F_n F161 (show ¬ (77 = 77 ∧ (65 = 59 ∨ 65 = 66) ∨ 112 ≤ 77 ∧ 77 ≤ 114 ∧ 40 ≤ 65 ∨ 77 = 116) by decide) (W_n W149 (by decide) c_143))
        have t_176 : (M168.2.1 77 65).toInt = v12.toInt := congrArg Int32.toInt c_175
        have c_177 : M168.2.1 77 67 = (N.2.1 77 67) := (F_n F161 (show ¬ (77 = 77 ∧ (67 = 59 ∨ 67 = 66) ∨ 112 ≤ 77 ∧ 77 ≤ 114 ∧ 40 ≤ 67 ∨ 77 = 116) by decide) (W_n W149 (by decide) (W_n W139 (by decide) rfl)))
        have t_178 : (M168.2.1 77 67).toInt = (N.2.1 77 67).toInt := congrArg Int32.toInt c_177
        have c_179 : M168.2.1 77 68 = (N.2.1 77 68) := (F_n F161 (show ¬ (77 = 77 ∧ (68 = 59 ∨ 68 = 66) ∨ 112 ≤ 77 ∧ 77 ≤ 114 ∧ 40 ≤ 68 ∨ 77 = 116) by decide) (W_n W149 (by decide) (W_n W139 (by decide) rfl)))
        have t_180 : (M168.2.1 77 68).toInt = (N.2.1 77 68).toInt := congrArg Int32.toInt c_179
        have c_181 : M168.2.1 77 69 = (N.2.1 77 69) := (F_n F161 (show ¬ (77 = 77 ∧ (69 = 59 ∨ 69 = 66) ∨ 112 ≤ 77 ∧ 77 ≤ 114 ∧ 40 ≤ 69 ∨ 77 = 116) by decide) (W_n W149 (by decide) (W_n W139 (by decide) rfl)))
        have t_182 : (M168.2.1 77 69).toInt = (N.2.1 77 69).toInt := congrArg Int32.toInt c_181
        have j_174 : QK M168 := QK_i (by unfold QK_c; rw [show ((M168.2.1 77 65).toInt).toNat = (v12.toInt).toNat by omega]; refine ⟨by omega, by omega, by omega, by omega⟩) (fun i z => by rw [(F_n F161 (show ¬ (115 = 77 ∧ (i = 59 ∨ i = 66) ∨ 112 ≤ 115 ∧ 115 ≤ 114 ∧ 40 ≤ i ∨ 115 = 116) by omega) (W_n W149 (by omega) (W_n W139 (by omega) rfl)))]; exact g2.2.1 i (by omega)) p_165
        refine to_go (pc := 74) rw_223_74 ?_
        have s_183 : Wo M168 ((M168.2.1 77 65).toInt).toNat = Wo M168 (v12.toInt).toNat := by rw [show ((M168.2.1 77 65).toInt).toNat = (v12.toInt).toNat by omega]
        exact ih M168 (.int v14) (.int (-1 : Int32)) (.int v154) hG162 F169 (by omega) j_174 (by omega) ⟨ws, x_kn1 Pn v14.toInt 0 0, ⟨hws _ (fun i => (F_n F161 (show ¬ (115 = 77 ∧ (i = 59 ∨ i = 66) ∨ 112 ≤ 115 ∧ 115 ≤ 114 ∧ 40 ≤ i ∨ 115 = 116) by omega) (W_n W149 (by omega) (W_n W139 (by omega) rfl)))) (by omega), p_166, (hd_2 gn.2.1.1 (by omega) p_167), (by show _ = Pn.2 + 1; omega)⟩, bx_s en hw (by omega)⟩ (by omega)
set_option maxRecDepth 4000 in
set_option maxHeartbeats 0 in
theorem E_223 {X : mm_X} {d : Nat} {M : mm_M} {Q : Option Value → mm_M → Prop} {l : Int32} {Wl9 : List Int} {P9 : x_GP} (hX : g_X X) (hd : 1 ≤ d) (hG : g_G M) (q1 : 1 ≤ l.toInt) (q2 : l.toInt ≤ 3) (q3 : (M.2.1 77 68).toInt = 1) (q4 : QK M) (q5 : GST M Wl9 P9) (h : ∀ (M1 : mm_M), g_G M1 → FR md_bi M M1 → QK M1 → ((M1.2.1 77 59).toInt + Wo M1 ((M1.2.1 77 65).toInt).toNat = (M.2.1 77 59).toInt + Wo M ((M.2.1 77 65).toInt).toNat) → (l.toInt = 1 → (M1.2.1 77 65).toInt = 0 ∨ ((M1.2.1 115 (((M1.2.1 77 65).toInt).toNat - 1)).toInt = 0 ∨ (M1.2.1 115 (((M1.2.1 77 65).toInt).toNat - 1)).toInt = 1)) → (GST M1 (x_bd l.toInt Wl9 P9).1 (x_bd l.toInt Wl9 P9).2) → Q (none) M1) : mm_T X d 222 0 [.ref 77, .int l, .null, .null, .null] [] M Q := by
  have F0 : FR md_bi M M := FR.rf
  have b_184 := g_b hG (a := 77) (i := 68) (lo := 0) (hi := 1) rfl rfl
  have b_185 := g_b hG (a := 77) (i := 59) (lo := 0) (hi := 40) rfl rfl
  have b_186 := g_b hG (a := 77) (i := 65) (lo := 0) (hi := 48) rfl rfl
  have b_187 := g_b hG (a := 77) (i := 66) (lo := 0) (hi := 40) rfl rfl
  have b_188 := g_b hG (a := 77) (i := 67) (lo := 0) (hi := 8) rfl rfl
  have b_189 := g_b hG (a := 77) (i := 69) (lo := 0) (hi := 40) rfl rfl
  have s_q := QK_e q4
  have s_w := Wx_b M ((M.2.1 77 65).toInt).toNat
  obtain ⟨Wn, Pn, gn, en⟩ := id (⟨Wl9, P9, q5, rfl⟩ : ∃ (W : List Int) (P : x_GP), GST M W P ∧ x_bd l.toInt W P = x_bd l.toInt Wl9 P9)
  have z_190 := gn.2.2.2
  have z_191 := gn.2.1.1
  exact (U_223_0 (l := l) (Wl9 := Wl9) (P9 := P9) hX hd q1 q2 q3 q4 q5 h (((M.2.1 77 65).toInt).toNat + 1)) M (.null) (.null) (.null) hG F0 (by omega) q4 rfl ⟨Wl9, P9, q5, rfl⟩ (by omega)
