theorem tg_12 {M M1 : mm_M} (F : FR (fun a i : Nat => a = 1 ∧ (i = 10 ∨ i = 11)) M M1) : ∀ a i : Nat, (a = 1 ∧ 5 ≤ i ∧ i ≤ 9 ∨ 3 ≤ a ∧ a ≤ 5) → M1.2.1 a i = M.2.1 a i := fun a i z => F_n F (show ¬ (a = 1 ∧ (i = 10 ∨ i = 11)) by omega) rfl
set_option maxRecDepth 4000 in
set_option maxHeartbeats 0 in
theorem E_33 {X : mm_X} {d : Nat} {M : mm_M} {Q : Option Value → mm_M → Prop} {p : Nat} {t : Nat → Int} {nn : Int} {a : Int} {sg : x_S} {k : x_K} (hX : g_X X) (hd : 3 ≤ d) (hG : g_G M) (hp : p = 49 ∨ p = 58) (q1 : CS M t nn) (q2 : (M.2.1 1 9).toInt = a) (q3 : PLc M p sg) (q4 : CW M p sg) (h : ∀ (r : Int32) (M1 : mm_M), g_G M1 → FR (md_f33 p) M M1 → (0 ≤ r.toInt) → (r.toInt ≤ 1) → CS M1 t nn → ((r.toInt = 0 → x_field t nn sg (x_ns t nn a) k = none)) → ((r.toInt = 1 → ∃ s2 : x_S, x_field t nn sg (x_ns t nn a) k = k (M1.2.1 1 9).toInt s2 ∧ PLc2 M1 p s2 ∧ s2.2.1 + s2.2.2.1 = sg.2.1 + sg.2.2.1 + 1)) → Q (some (.int r)) M1) : mm_T X d 33 0 [.ref p, .ref 1, .null, .null] [] M Q := by
  have F0 : FR (md_f33 p) M M := FR.rf
  have z_1 := q3.2.1
  have z_2 := q3.2.2.1
  have z_3 := q3.2.2.2.1
  have z_4 := q3.1
  have z_5 := z_4.1
  have z_6 := z_4.2.1
  have z_7 := z_4.2.2.1
  have z_8 := z_4.2.2.2.1
  have z_9 := z_4.2.2.2.2.1
  have z_10 := z_4.2.2.2.2.2.1
  have b_11 := g_b hG (a := p) (i := 0) (lo := 10) (hi := 60) (by rcases hp with rfl | rfl <;> rfl) (by rcases hp with rfl | rfl <;> rfl)
  have b_12 := g_b hG (a := p) (i := 2) (lo := 0) (hi := 8) (by rcases hp with rfl | rfl <;> rfl) (by rcases hp with rfl | rfl <;> rfl)
  have b_13 := g_b hG (a := p) (i := 3) (lo := 0) (hi := 12) (by rcases hp with rfl | rfl <;> rfl) (by rcases hp with rfl | rfl <;> rfl)
  refine to_an (pc := 0) rw_33_0 rfl ?_
  refine tt_gI (pc := 1) rw_33_1 (g_o hG (by rcases hp with rfl | rfl <;> rfl)) (v := (M.2.1 p 2)) rfl ?_
  refine to_c (pc := 4) rw_33_4 (x := (8 : Int32)) rfl rfl ?_
  refine b_clt (pc := 6) rw_33_6 (A := (M.2.1 p 2).toInt) (B := 8) rfl rfl (fun h14 => ?_) (fun h14 => ?_)
  · refine to_an (pc := 15) rw_33_15 rfl ?_
    refine s_v (pc := 16) rw_33_16 (by omega) (ls0 := [.ref 1]) rfl (Nat.le_of_ble_eq_true rfl) (Nat.le_of_ble_eq_true rfl) rfl (to_rc rfl rfl rfl (g_o hG rfl)) rfl ?_
    refine E_83 hX (by omega) hG q1 (by omega) (t := t) (nn := nn) (a := a) (fun M19 hG16 F15 p_17 p_18 => ?_)
    have F20 := FR.c F0 F15 (fun a i z => show a = 1 ∧ 6 ≤ i ∧ i ≤ 11 ∨ a = p ∧ 2 ≤ i ∨ p + 1 ≤ a ∧ a ≤ p + 5 by have z : a = 1 ∧ 6 ≤ i ∧ i ≤ 9 := z; omega)
    refine to_an (pc := 19) rw_33_19 rfl ?_
    refine to_an (pc := 20) rw_33_20 rfl ?_
    refine s_v (pc := 21) rw_33_21 (by omega) (ls0 := [.ref p, .ref 1]) rfl (Nat.le_of_ble_eq_true rfl) (Nat.le_of_ble_eq_true rfl) rfl (to_rc rfl rfl rfl (g_o hG16 (by rcases hp with rfl | rfl <;> rfl))) rfl ?_
    have j_21 := (PLc_f (fun a i z => F_n F15 (show ¬ (a = 1 ∧ 6 ≤ i ∧ i ≤ 9) by omega) rfl) (F_nl F15 (show ¬ (p = 1 ∧ 6 ≤ 4 ∧ 4 ≤ 9) by omega) rfl) q3)
    refine E_34 hX (by omega) hG16 hp p_17 (by omega) j_21 (p := p) (t := t) (nn := nn) (a := (x_ns t nn a)) (sg := sg) (fun r22 M30 hG24 F23 p_25 p_26 p_27 p_28 p_29 => ?_)
    have F31 := FR.c F20 F23 (fun a i z => show a = 1 ∧ 6 ≤ i ∧ i ≤ 11 ∨ a = p ∧ 2 ≤ i ∨ p + 1 ≤ a ∧ a ≤ p + 5 by have z : a = 1 ∧ (i = 10 ∨ i = 11) := z; omega)
    rcases (show r22.toInt = 0 ∨ r22.toInt = 1 by omega) with h32 | h32
    · skip
      have p_33 := p_29 (by omega)
      clear p_27 p_28 p_29
      refine b_ine_f (pc := 24) rw_33_24 (A := r22.toInt) rfl (by omega) ?_
      refine to_c (pc := 27) rw_33_27 (x := (0 : Int32)) rfl rfl ?_
      refine s_r1 (pc := 28) rw_33_28 (A := 0) rfl (by omega) ?_
      have k_34 : (0 : Int32).toInt = 0 := rfl
      have j_35 := (CS_f (tg_12 F23) p_17)
      exact h (0 : Int32) M30 hG24 F31 (by omega) (by omega) j_35 (fun _ => x_field_n (fun h9 => by unfold x_fC at h9; omega)) (fun z => absurd z (by decide))
    · skip
      have p_36 := p_27 (by omega)
      have p_37 := p_28 (by omega)
      clear p_27 p_28 p_29
      refine b_ine_t (pc := 24) rw_33_24 (A := r22.toInt) rfl (by omega) ?_
      refine to_an (pc := 29) rw_33_29 rfl ?_
      refine s_gR (pc := 30) rw_33_30 hG24 (by rcases hp with rfl | rfl <;> rfl) (v := (p + 1)) (by rcases hp with rfl | rfl <;> rfl) ?_
      refine to_an (pc := 33) rw_33_33 rfl ?_
      have c_38 : M30.2.1 p 2 = (M.2.1 p 2) := (F_n F23 (show ¬ (p = 1 ∧ (2 = 10 ∨ 2 = 11)) by omega) (F_n F15 (show ¬ (p = 1 ∧ 6 ≤ 2 ∧ 2 ≤ 9) by omega) rfl))
      refine tt_gI (pc := 34) rw_33_34 (g_o hG24 (by rcases hp with rfl | rfl <;> rfl)) (v := (M.2.1 p 2)) c_38 ?_
      refine to_an (pc := 37) rw_33_37 rfl ?_
      have c_39 : M30.2.1 1 8 = (M19.2.1 1 8) := (F_n F23 (show ¬ (1 = 1 ∧ (8 = 10 ∨ 8 = 11)) by decide) rfl)
      refine tt_gI (pc := 38) rw_33_38 (g_o hG24 rfl) (v := (M19.2.1 1 8)) c_39 ?_
      refine s_ias (pc := 41) rw_33_41 hG24 (by rcases hp with rfl | rfl <;> rfl) (n := 8) (by rcases hp with rfl | rfl <;> rfl) (A := (M.2.1 p 2).toInt) rfl (by omega) (by omega) (fun M41 W40 => ?_)
      have hG42 := g_wf hG24 W40 (by rcases hp with rfl | rfl <;> rfl) (by rcases hp with rfl | rfl <;> rfl) (by omega)
      have F43 := FR.w F31 W40 (show (p + 1) = 1 ∧ 6 ≤ ((M.2.1 p 2).toInt).toNat ∧ ((M.2.1 p 2).toInt).toNat ≤ 11 ∨ (p + 1) = p ∧ 2 ≤ ((M.2.1 p 2).toInt).toNat ∨ p + 1 ≤ (p + 1) ∧ (p + 1) ≤ p + 5 by omega)
      refine to_an (pc := 42) rw_33_42 rfl ?_
      refine s_v (pc := 43) rw_33_43 (by omega) (ls0 := [.ref 1]) rfl (Nat.le_of_ble_eq_true rfl) (Nat.le_of_ble_eq_true rfl) rfl (to_rc rfl rfl rfl (g_o hG42 rfl)) rfl ?_
      have j_44 := (CS_f (fun a i z => W_n W40 (by omega) rfl) (CS_f (tg_12 F23) p_17))
      have c_45 : M41.2.1 1 9 = (M19.2.1 1 9) := (W_n W40 (by omega) (F_n F23 (show ¬ (1 = 1 ∧ (9 = 10 ∨ 9 = 11)) by decide) rfl))
      have t_46 : (M41.2.1 1 9).toInt = (M19.2.1 1 9).toInt := congrArg Int32.toInt c_45
      refine E_83 hX (by omega) hG42 j_44 (by omega) (t := t) (nn := nn) (a := (x_ns t nn a)) (fun M51 hG48 F47 p_49 p_50 => ?_)
      have F52 := FR.c F43 F47 (fun a i z => show a = 1 ∧ 6 ≤ i ∧ i ≤ 11 ∨ a = p ∧ 2 ≤ i ∨ p + 1 ≤ a ∧ a ≤ p + 5 by have z : a = 1 ∧ 6 ≤ i ∧ i ≤ 9 := z; omega)
      refine to_an (pc := 46) rw_33_46 rfl ?_
      refine s_s (pc := 47) rw_33_47 (by omega) (ls0 := [.ref 1]) rfl (Nat.le_of_ble_eq_true rfl) (Nat.le_of_ble_eq_true rfl) rfl (to_rcs rfl rfl) rfl ?_
      refine E_35 hX (by omega) hG48 p_49 (by omega) (t := t) (nn := nn) (a := (x_ns t nn (x_ns t nn a))) (fun r53 M60 hG55 F54 p_56 p_57 p_58 p_59 => ?_)
      have F61 := FR.c F52 F54 (fun a i z => show a = 1 ∧ 6 ≤ i ∧ i ≤ 11 ∨ a = p ∧ 2 ≤ i ∨ p + 1 ≤ a ∧ a ≤ p + 5 by have z : a < 0 := z; omega)
      rcases (show r53.toInt = -1 ∨ r53.toInt = 0 ∨ r53.toInt = 1 ∨ r53.toInt = 2 ∨ r53.toInt = 3 by omega) with h62 | h62 | h62 | h62 | h62
      · skip
        have p_63 := p_58 (by omega)
        clear p_58 p_59
        refine to_isn (pc := 50) rw_33_50 (ls2 := [.ref p, .ref 1, .int r53, .null]) rfl rfl ?_
        refine to_in (pc := 51) rw_33_51 rfl ?_
        refine to_c (pc := 52) rw_33_52 (x := (-1 : Int32)) rfl rfl ?_
        refine b_cne_f (pc := 53) rw_33_53 (A := r53.toInt) (B := -1) rfl rfl (by omega) ?_
        refine to_an (pc := 56) rw_33_56 rfl ?_
        refine to_c (pc := 57) rw_33_57 (x := (1 : Int32)) rfl rfl ?_
        refine s_v (pc := 58) rw_33_58 (by omega) (ls0 := [.ref 1, .int (1 : Int32)]) rfl (Nat.le_of_ble_eq_true rfl) (Nat.le_of_ble_eq_true rfl) rfl (to_rc rfl rfl rfl (g_o hG55 rfl)) rfl ?_
        refine to_an (pc := 0) rw_84_0 rfl ?_
        refine to_in (pc := 1) rw_84_1 rfl ?_
        refine s_pI (pc := 2) rw_84_2 hG55 rfl (fun M65 W64 => ?_)
        have hG66 := g_wf hG55 W64 rfl rfl (by decide)
        have F67 := FR.w F61 W64 (show 1 = 1 ∧ 6 ≤ 10 ∧ 10 ≤ 11 ∨ 1 = p ∧ 2 ≤ 10 ∨ p + 1 ≤ 1 ∧ 1 ≤ p + 5 by omega)
        refine to_an (pc := 5) rw_84_5 rfl ?_
        refine to_an (pc := 6) rw_84_6 rfl ?_
        have c_68 : M65.2.1 1 9 = (M51.2.1 1 9) := (W_n W64 (by decide) (F_n F54 (show ¬ (1 < 0) by decide) rfl))
        refine tt_gI (pc := 7) rw_84_7 (g_o hG66 rfl) (v := (M51.2.1 1 9)) c_68 ?_
        refine s_pI (pc := 10) rw_84_10 hG66 rfl (fun M70 W69 => ?_)
        have hG71 := g_wf hG66 W69 rfl rfl (by decide)
        have F72 := FR.w F67 W69 (show 1 = 1 ∧ 6 ≤ 11 ∧ 11 ≤ 11 ∨ 1 = p ∧ 2 ≤ 11 ∨ p + 1 ≤ 1 ∧ 1 ≤ p + 5 by omega)
        refine to_c (pc := 13) rw_84_13 (x := (0 : Int32)) rfl rfl ?_
        refine s_r1 (pc := 14) rw_84_14 (A := 0) rfl (by omega) ?_
        refine s_r1 (pc := 61) rw_33_61 (A := 0) rfl (by omega) ?_
        have k_73 : (0 : Int32).toInt = 0 := rfl
        have j_74 := (CS_f (fun a i z => W_n W69 (by omega) rfl) (CS_f (fun a i z => W_n W64 (by omega) rfl) (CS_f (tg_8 F54) p_49)))
        exact h (0 : Int32) M70 hG71 F72 (by omega) (by omega) j_74 (fun _ => x_field_n (fun h9 => by unfold x_fC at h9; omega)) (fun z => absurd z (by decide))
      · skip
        have p_75 := p_59 (by omega)
        clear p_58 p_59
        refine to_isn (pc := 50) rw_33_50 (ls2 := [.ref p, .ref 1, .int r53, .null]) rfl rfl ?_
        refine to_in (pc := 51) rw_33_51 rfl ?_
        refine to_c (pc := 52) rw_33_52 (x := (-1 : Int32)) rfl rfl ?_
        refine b_cne_t (pc := 53) rw_33_53 (A := r53.toInt) (B := -1) rfl rfl (by omega) ?_
        refine to_an (pc := 62) rw_33_62 rfl ?_
        refine s_gR (pc := 63) rw_33_63 hG55 (by rcases hp with rfl | rfl <;> rfl) (v := (p + 2)) (by rcases hp with rfl | rfl <;> rfl) ?_
        refine to_an (pc := 66) rw_33_66 rfl ?_
        have c_76 : M60.2.1 p 2 = (M.2.1 p 2) := (F_n F54 (show ¬ (p < 0) by omega) (F_n F47 (show ¬ (p = 1 ∧ 6 ≤ 2 ∧ 2 ≤ 9) by omega) (W_n W40 (by omega) c_38)))
        refine tt_gI (pc := 67) rw_33_67 (g_o hG55 (by rcases hp with rfl | rfl <;> rfl)) (v := (M.2.1 p 2)) c_76 ?_
        refine to_in (pc := 70) rw_33_70 rfl ?_
        refine s_ias (pc := 71) rw_33_71 hG55 (by rcases hp with rfl | rfl <;> rfl) (n := 8) (by rcases hp with rfl | rfl <;> rfl) (A := (M.2.1 p 2).toInt) rfl (by omega) (by omega) (fun M78 W77 => ?_)
        have hG79 := g_w hG55 W77 (A := r53.toInt) rfl (lo := 0) (hi := 3) (by rcases hp with rfl | rfl <;> rfl) (by rcases hp with rfl | rfl <;> rfl) (by omega) (by omega)
        have F80 := FR.w F61 W77 (show (p + 2) = 1 ∧ 6 ≤ ((M.2.1 p 2).toInt).toNat ∧ ((M.2.1 p 2).toInt).toNat ≤ 11 ∨ (p + 2) = p ∧ 2 ≤ ((M.2.1 p 2).toInt).toNat ∨ p + 1 ≤ (p + 2) ∧ (p + 2) ≤ p + 5 by omega)
        refine to_an (pc := 72) rw_33_72 rfl ?_
        refine s_v (pc := 73) rw_33_73 (by omega) (ls0 := [.ref 1]) rfl (Nat.le_of_ble_eq_true rfl) (Nat.le_of_ble_eq_true rfl) rfl (to_rc rfl rfl rfl (g_o hG79 rfl)) rfl ?_
        have j_81 := (CS_f (fun a i z => W_n W77 (by omega) rfl) (CS_f (tg_8 F54) p_49))
        have c_82 : M78.2.1 1 9 = (M51.2.1 1 9) := (W_n W77 (by omega) (F_n F54 (show ¬ (1 < 0) by decide) rfl))
        have t_83 : (M78.2.1 1 9).toInt = (M51.2.1 1 9).toInt := congrArg Int32.toInt c_82
        refine E_83 hX (by omega) hG79 j_81 (by omega) (t := t) (nn := nn) (a := (x_ns t nn (x_ns t nn a))) (fun M88 hG85 F84 p_86 p_87 => ?_)
        have F89 := FR.c F80 F84 (fun a i z => show a = 1 ∧ 6 ≤ i ∧ i ≤ 11 ∨ a = p ∧ 2 ≤ i ∨ p + 1 ≤ a ∧ a ≤ p + 5 by have z : a = 1 ∧ 6 ≤ i ∧ i ≤ 9 := z; omega)
        refine to_in (pc := 76) rw_33_76 rfl ?_
        refine to_c (pc := 77) rw_33_77 (x := (1 : Int32)) rfl rfl ?_
        refine b_ceq_f (pc := 78) rw_33_78 (A := r53.toInt) (B := 1) rfl rfl (by omega) ?_
        refine to_in (pc := 81) rw_33_81 rfl ?_
        refine to_c (pc := 82) rw_33_82 (x := (2 : Int32)) rfl rfl ?_
        refine b_cne_t (pc := 83) rw_33_83 (A := r53.toInt) (B := 2) rfl rfl (by omega) ?_
        refine to_an (pc := 105) rw_33_105 rfl ?_
        refine to_an (pc := 106) rw_33_106 rfl ?_
        refine to_in (pc := 107) rw_33_107 rfl ?_
        refine b_ine_f (pc := 108) rw_33_108 (A := r53.toInt) rfl (by omega) ?_
        refine to_c (pc := 111) rw_33_111 (x := (2 : Int32)) rfl rfl ?_
        refine to_go (pc := 112) rw_33_112 ?_
        refine s_v (pc := 116) rw_33_116 (by omega) (ls0 := [.ref p, .ref 1, .int (2 : Int32), .null, .null, .null]) rfl (Nat.le_of_ble_eq_true rfl) (Nat.le_of_ble_eq_true rfl) rfl (to_rc rfl rfl rfl (g_o hG85 (by rcases hp with rfl | rfl <;> rfl))) rfl ?_
        refine to_an (pc := 0) rw_36_0 rfl ?_
        refine tt_gI (pc := 1) rw_36_1 (g_o hG85 rfl) (v := (M88.2.1 1 8)) rfl ?_
        refine to_isn (pc := 4) rw_36_4 (ls2 := [.ref p, .ref 1, .int (2 : Int32), .int (M88.2.1 1 8), .null, .null]) rfl rfl ?_
        refine to_an (pc := 5) rw_36_5 rfl ?_
        refine to_c (pc := 6) rw_36_6 (x := (0 : Int32)) rfl rfl ?_
        refine to_an (pc := 7) rw_36_7 rfl ?_
        have c_90 : M88.2.1 p 0 = (M.2.1 p 0) := (F_n F84 (show ¬ (p = 1 ∧ 6 ≤ 0 ∧ 0 ≤ 9) by omega) (W_n W77 (by omega) (F_n F54 (show ¬ (p < 0) by omega) (F_n F47 (show ¬ (p = 1 ∧ 6 ≤ 0 ∧ 0 ≤ 9) by omega) (W_n W40 (by omega) (F_n F23 (show ¬ (p = 1 ∧ (0 = 10 ∨ 0 = 11)) by omega) (F_n F15 (show ¬ (p = 1 ∧ 6 ≤ 0 ∧ 0 ≤ 9) by omega) rfl)))))))
        refine tt_gI (pc := 8) rw_36_8 (g_o hG85 (by rcases hp with rfl | rfl <;> rfl)) (v := (M.2.1 p 0)) c_90 ?_
        refine to_c (pc := 11) rw_36_11 (x := (1 : Int32)) rfl rfl ?_
        refine s_sub (pc := 12) rw_36_12 (A := (M.2.1 p 0).toInt) (B := 1) rfl rfl (by omega) (fun v91 e92 => ?_)
        refine s_v (pc := 13) rw_36_13 (by omega) (ls0 := [.ref 1, .int (0 : Int32), .int v91]) rfl (Nat.le_of_ble_eq_true rfl) (Nat.le_of_ble_eq_true rfl) rfl (to_rc rfl rfl rfl (g_o hG85 rfl)) rfl ?_
        have k_93 : (0 : Int32).toInt = 0 := rfl
        refine E_88 hX (by omega) hG85 p_86 (by omega) (l := (0 : Int32)) (m := v91) (t := t) (nn := nn) (a := (x_ns t nn (x_ns t nn (x_ns t nn a)))) (fun r94 M101 hG96 F95 p_97 p_98 p_99 p_100 => ?_)
        have F102 := FR.c F89 F95 (fun a i z => show a = 1 ∧ 6 ≤ i ∧ i ≤ 11 ∨ a = p ∧ 2 ≤ i ∨ p + 1 ≤ a ∧ a ≤ p + 5 by have z : a = 1 ∧ (i = 10 ∨ i = 11) := z; omega)
        rcases (show r94.toInt = 0 ∨ r94.toInt = 1 by omega) with h103 | h103
        · skip
          have p_104 := p_100 (by omega)
          clear p_99 p_100
          have z_105 := x_val_b (t := t) (nn := nn) (a := (x_ns t nn (x_ns t nn (x_ns t nn a))))
          refine b_ieq_t (pc := 16) rw_36_16 (A := r94.toInt) rfl (by omega) ?_
          refine to_c (pc := 29) rw_36_29 (x := (0 : Int32)) rfl rfl ?_
          refine s_r1 (pc := 30) rw_36_30 (A := 0) rfl (by omega) ?_
          refine b_ieq_t (pc := 119) rw_33_119 (A := 0) rfl (by omega) ?_
          refine to_c (pc := 138) rw_33_138 (x := (0 : Int32)) rfl rfl ?_
          refine to_isn (pc := 139) rw_33_139 (ls2 := [.ref p, .ref 1, .int r53, .int (0 : Int32)]) rfl rfl ?_
          refine to_in (pc := 140) rw_33_140 rfl ?_
          refine b_ine_f (pc := 141) rw_33_141 (A := 0) rfl (by omega) ?_
          refine to_c (pc := 144) rw_33_144 (x := (0 : Int32)) rfl rfl ?_
          refine s_r1 (pc := 145) rw_33_145 (A := 0) rfl (by omega) ?_
          have j_106 := (CS_f (tg_12 F95) p_86)
          exact h (0 : Int32) M101 hG96 F102 (by omega) (by omega) j_106 (fun _ => x_field_n (fun h9 => by unfold x_fC at h9; omega)) (fun z => absurd z (by decide))
        · skip
          have p_107 := p_99 (by omega)
          clear p_99 p_100
          have c_108 : M101.2.1 1 8 = (M88.2.1 1 8) := (F_n F95 (show ¬ (1 = 1 ∧ (8 = 10 ∨ 8 = 11)) by decide) rfl)
          have z_109 := x_val_b (t := t) (nn := nn) (a := (x_ns t nn (x_ns t nn (x_ns t nn a)))) (by omega)
          refine b_ieq_f (pc := 16) rw_36_16 (A := r94.toInt) rfl (by omega) ?_
          refine to_an (pc := 19) rw_36_19 rfl ?_
          refine to_an (pc := 20) rw_36_20 rfl ?_
          refine to_in (pc := 21) rw_36_21 rfl ?_
          refine to_in (pc := 22) rw_36_22 rfl ?_
          refine s_v (pc := 23) rw_36_23 (by omega) (ls0 := [.ref p, .ref 1, .int (M88.2.1 1 8), .int (M88.2.1 1 8)]) rfl (Nat.le_of_ble_eq_true rfl) (Nat.le_of_ble_eq_true rfl) rfl (to_rc rfl rfl rfl (g_o hG96 (by rcases hp with rfl | rfl <;> rfl))) rfl ?_
          have j_110 := (CS_f (tg_12 F95) p_86)
          have c_111 : M101.2.1 1 9 = (M88.2.1 1 9) := (F_n F95 (show ¬ (1 = 1 ∧ (9 = 10 ∨ 9 = 11)) by decide) rfl)
          have t_112 : (M101.2.1 1 9).toInt = (M88.2.1 1 9).toInt := congrArg Int32.toInt c_111
          have j_113 := (PLc_f (fun a i z => F_n F95 (show ¬ (a = 1 ∧ (i = 10 ∨ i = 11)) by omega) rfl) (F_nl F95 (show ¬ (p = 1 ∧ (4 = 10 ∨ 4 = 11)) by omega) rfl) (PLc_f (fun a i z => F_n F84 (show ¬ (a = 1 ∧ 6 ≤ i ∧ i ≤ 9) by omega) rfl) (F_nl F84 (show ¬ (p = 1 ∧ 6 ≤ 4 ∧ 4 ≤ 9) by omega) rfl) (PLc_f (fun a i z => W_n W77 (by omega) rfl) (W_j W77 rfl) (PLc_f (fun a i z => F_n F54 (show ¬ (a < 0) by omega) rfl) (F_nl F54 (show ¬ (p < 0) by omega) rfl) (PLc_f (fun a i z => F_n F47 (show ¬ (a = 1 ∧ 6 ≤ i ∧ i ≤ 9) by omega) rfl) (F_nl F47 (show ¬ (p = 1 ∧ 6 ≤ 4 ∧ 4 ≤ 9) by omega) rfl) (PLc_f (fun a i z => W_n W40 (by omega) rfl) (W_j W40 rfl) (PLc_f (fun a i z => F_n F23 (show ¬ (a = 1 ∧ (i = 10 ∨ i = 11)) by omega) rfl) (F_nl F23 (show ¬ (p = 1 ∧ (4 = 10 ∨ 4 = 11)) by omega) rfl) j_21)))))))
          refine E_39 hX (by omega) hG96 hp j_110 (by omega) j_113 (by omega) (by omega) (by omega) (by omega) (by omega) (p := p) (f := (M88.2.1 1 8)) (l := (M88.2.1 1 8)) (t := t) (nn := nn) (a := (x_ns t nn (x_ns t nn (x_ns t nn a)))) (sg := sg) (fun r114 M121 hG116 F115 p_117 p_118 p_119 p_120 => ?_)
          have F122 := FR.c F102 F115 (fun a i z => show a = 1 ∧ 6 ≤ i ∧ i ≤ 11 ∨ a = p ∧ 2 ≤ i ∨ p + 1 ≤ a ∧ a ≤ p + 5 by have z : a = 1 ∧ (i = 10 ∨ i = 11) := z; omega)
          have z_123 := x_free_v (s := sg) (f := (M88.2.1 1 8).toInt) (l := (M88.2.1 1 8).toInt) (f2 := (x_val t nn (x_ns t nn (x_ns t nn (x_ns t nn a))))) (l2 := (x_val t nn (x_ns t nn (x_ns t nn (x_ns t nn a))))) (by omega) (by omega)
          rcases (show r114.toInt = 0 ∨ r114.toInt = 1 by omega) with h124 | h124
          · skip
            have p_125 := p_120 (by omega)
            clear p_119 p_120
            refine b_ine_f (pc := 26) rw_36_26 (A := r114.toInt) rfl (by omega) ?_
            refine to_c (pc := 29) rw_36_29 (x := (0 : Int32)) rfl rfl ?_
            refine s_r1 (pc := 30) rw_36_30 (A := 0) rfl (by omega) ?_
            refine b_ieq_t (pc := 119) rw_33_119 (A := 0) rfl (by omega) ?_
            refine to_c (pc := 138) rw_33_138 (x := (0 : Int32)) rfl rfl ?_
            refine to_isn (pc := 139) rw_33_139 (ls2 := [.ref p, .ref 1, .int r53, .int (0 : Int32)]) rfl rfl ?_
            refine to_in (pc := 140) rw_33_140 rfl ?_
            refine b_ine_f (pc := 141) rw_33_141 (A := 0) rfl (by omega) ?_
            refine to_c (pc := 144) rw_33_144 (x := (0 : Int32)) rfl rfl ?_
            refine s_r1 (pc := 145) rw_33_145 (A := 0) rfl (by omega) ?_
            have j_126 := (CS_f (tg_12 F115) j_110)
            exact h (0 : Int32) M121 hG116 F122 (by omega) (by omega) j_126 (fun _ => x_field_n (fun h9 => by unfold x_fC at h9; omega)) (fun z => absurd z (by decide))
          · skip
            have p_127 := p_119 (by omega)
            clear p_119 p_120
            refine b_ine_t (pc := 26) rw_36_26 (A := r114.toInt) rfl (by omega) ?_
            refine to_an (pc := 31) rw_36_31 rfl ?_
            refine s_v (pc := 32) rw_36_32 (by omega) (ls0 := [.ref 1]) rfl (Nat.le_of_ble_eq_true rfl) (Nat.le_of_ble_eq_true rfl) rfl (to_rc rfl rfl rfl (g_o hG116 rfl)) rfl ?_
            have j_128 := (CS_f (tg_12 F115) j_110)
            have c_129 : M121.2.1 1 9 = (M88.2.1 1 9) := (F_n F115 (show ¬ (1 = 1 ∧ (9 = 10 ∨ 9 = 11)) by decide) c_111)
            have t_130 : (M121.2.1 1 9).toInt = (M88.2.1 1 9).toInt := congrArg Int32.toInt c_129
            refine E_83 hX (by omega) hG116 j_128 (by omega) (t := t) (nn := nn) (a := (x_ns t nn (x_ns t nn (x_ns t nn a)))) (fun M135 hG132 F131 p_133 p_134 => ?_)
            have F136 := FR.c F122 F131 (fun a i z => show a = 1 ∧ 6 ≤ i ∧ i ≤ 11 ∨ a = p ∧ 2 ≤ i ∨ p + 1 ≤ a ∧ a ≤ p + 5 by have z : a = 1 ∧ 6 ≤ i ∧ i ≤ 9 := z; omega)
            refine to_an (pc := 35) rw_36_35 rfl ?_
            refine tt_gI (pc := 36) rw_36_36 (g_o hG132 rfl) (v := (M135.2.1 1 8)) rfl ?_
            refine to_is (pc := 39) rw_36_39 (ls2 := [.ref p, .ref 1, .int (2 : Int32), .int (M88.2.1 1 8), .int (M135.2.1 1 8), .null]) rfl rfl ?_
            refine to_an (pc := 41) rw_36_41 rfl ?_
            have c_137 : M135.2.1 p 0 = (M.2.1 p 0) := (F_n F131 (show ¬ (p = 1 ∧ 6 ≤ 0 ∧ 0 ≤ 9) by omega) (F_n F115 (show ¬ (p = 1 ∧ (0 = 10 ∨ 0 = 11)) by omega) (F_n F95 (show ¬ (p = 1 ∧ (0 = 10 ∨ 0 = 11)) by omega) c_90)))
            refine tt_gI (pc := 42) rw_36_42 (g_o hG132 (by rcases hp with rfl | rfl <;> rfl)) (v := (M.2.1 p 0)) c_137 ?_
            refine to_c (pc := 45) rw_36_45 (x := (1 : Int32)) rfl rfl ?_
            refine s_sub (pc := 46) rw_36_46 (A := (M.2.1 p 0).toInt) (B := 1) rfl rfl (by omega) (fun v138 e139 => ?_)
            refine to_in (pc := 47) rw_36_47 rfl ?_
            refine to_c (pc := 48) rw_36_48 (x := (24 : Int32)) rfl rfl ?_
            refine s_add (pc := 50) rw_36_50 (A := (M88.2.1 1 8).toInt) (B := 24) rfl rfl (by omega) (fun v140 e141 => ?_)
            refine to_c (pc := 51) rw_36_51 (x := (1 : Int32)) rfl rfl ?_
            refine s_sub (pc := 52) rw_36_52 (A := v140.toInt) (B := 1) rfl rfl (by omega) (fun v142 e143 => ?_)
            refine s_min (pc := 53) rw_36_53 rfl (A := v138.toInt) (B := v142.toInt) rfl rfl (fun v144 _ _ _ => ?_)
            refine to_is (pc := 56) rw_36_56 (ls2 := [.ref p, .ref 1, .int (2 : Int32), .int (M88.2.1 1 8), .int (M135.2.1 1 8), .int v144]) rfl rfl ?_
            refine to_an (pc := 58) rw_36_58 rfl ?_
            refine to_in (pc := 59) rw_36_59 rfl ?_
            refine to_in (pc := 60) rw_36_60 rfl ?_
            refine s_add (pc := 61) rw_36_61 (A := (M88.2.1 1 8).toInt) (B := 2) rfl rfl (by omega) (fun v145 e146 => ?_)
            refine to_c (pc := 62) rw_36_62 (x := (1 : Int32)) rfl rfl ?_
            refine s_sub (pc := 63) rw_36_63 (A := v145.toInt) (B := 1) rfl rfl (by omega) (fun v147 e148 => ?_)
            refine to_i (pc := 64) rw_36_64 rfl ?_
            refine s_v (pc := 66) rw_36_66 (by omega) (ls0 := [.ref 1, .int v147, .int v144]) rfl (Nat.le_of_ble_eq_true rfl) (Nat.le_of_ble_eq_true rfl) rfl (to_rc rfl rfl rfl (g_o hG132 rfl)) rfl ?_
            refine E_88 hX (by omega) hG132 p_133 (by omega) (l := v147) (m := v144) (t := t) (nn := nn) (a := (x_ns t nn (x_ns t nn (x_ns t nn (x_ns t nn a))))) (fun r149 M156 hG151 F150 p_152 p_153 p_154 p_155 => ?_)
            have F157 := FR.c F136 F150 (fun a i z => show a = 1 ∧ 6 ≤ i ∧ i ≤ 11 ∨ a = p ∧ 2 ≤ i ∨ p + 1 ≤ a ∧ a ≤ p + 5 by have z : a = 1 ∧ (i = 10 ∨ i = 11) := z; omega)
            rcases (show r149.toInt = 0 ∨ r149.toInt = 1 by omega) with h158 | h158
            · skip
              have p_159 := p_155 (by omega)
              clear p_154 p_155
              have z_160 := x_val_b (t := t) (nn := nn) (a := (x_ns t nn (x_ns t nn (x_ns t nn (x_ns t nn a)))))
              refine b_ieq_t (pc := 69) rw_36_69 (A := r149.toInt) rfl (by omega) ?_
              refine to_c (pc := 83) rw_36_83 (x := (0 : Int32)) rfl rfl ?_
              refine s_r1 (pc := 84) rw_36_84 (A := 0) rfl (by omega) ?_
              refine b_ieq_t (pc := 119) rw_33_119 (A := 0) rfl (by omega) ?_
              refine to_c (pc := 138) rw_33_138 (x := (0 : Int32)) rfl rfl ?_
              refine to_isn (pc := 139) rw_33_139 (ls2 := [.ref p, .ref 1, .int r53, .int (0 : Int32)]) rfl rfl ?_
              refine to_in (pc := 140) rw_33_140 rfl ?_
              refine b_ine_f (pc := 141) rw_33_141 (A := 0) rfl (by omega) ?_
              refine to_c (pc := 144) rw_33_144 (x := (0 : Int32)) rfl rfl ?_
              refine s_r1 (pc := 145) rw_33_145 (A := 0) rfl (by omega) ?_
              have j_161 := (CS_f (tg_12 F150) p_133)
              exact h (0 : Int32) M156 hG151 F157 (by omega) (by omega) j_161 (fun _ => x_field_n (fun h9 => by unfold x_fC at h9; omega)) (fun z => absurd z (by decide))
            · skip
              have p_162 := p_154 (by omega)
              clear p_154 p_155
              have c_163 : M156.2.1 1 8 = (M135.2.1 1 8) := (F_n F150 (show ¬ (1 = 1 ∧ (8 = 10 ∨ 8 = 11)) by decide) rfl)
              have z_164 := x_val_b (t := t) (nn := nn) (a := (x_ns t nn (x_ns t nn (x_ns t nn (x_ns t nn a))))) (by omega)
              refine b_ieq_f (pc := 69) rw_36_69 (A := r149.toInt) rfl (by omega) ?_
              refine to_an (pc := 72) rw_36_72 rfl ?_
              refine to_an (pc := 73) rw_36_73 rfl ?_
              refine to_in (pc := 74) rw_36_74 rfl ?_
              refine to_i (pc := 75) rw_36_75 rfl ?_
              refine s_v (pc := 77) rw_36_77 (by omega) (ls0 := [.ref p, .ref 1, .int (M88.2.1 1 8), .int (M135.2.1 1 8)]) rfl (Nat.le_of_ble_eq_true rfl) (Nat.le_of_ble_eq_true rfl) rfl (to_rc rfl rfl rfl (g_o hG151 (by rcases hp with rfl | rfl <;> rfl))) rfl ?_
              have j_165 := (CS_f (tg_12 F150) p_133)
              have c_166 : M156.2.1 1 9 = (M135.2.1 1 9) := (F_n F150 (show ¬ (1 = 1 ∧ (9 = 10 ∨ 9 = 11)) by decide) rfl)
              have t_167 : (M156.2.1 1 9).toInt = (M135.2.1 1 9).toInt := congrArg Int32.toInt c_166
              have j_168 := (PLc_f (fun a i z => F_n F150 (show ¬ (a = 1 ∧ (i = 10 ∨ i = 11)) by omega) rfl) (F_nl F150 (show ¬ (p = 1 ∧ (4 = 10 ∨ 4 = 11)) by omega) rfl) (PLc_f (fun a i z => F_n F131 (show ¬ (a = 1 ∧ 6 ≤ i ∧ i ≤ 9) by omega) rfl) (F_nl F131 (show ¬ (p = 1 ∧ 6 ≤ 4 ∧ 4 ≤ 9) by omega) rfl) (PLc_f (fun a i z => F_n F115 (show ¬ (a = 1 ∧ (i = 10 ∨ i = 11)) by omega) rfl) (F_nl F115 (show ¬ (p = 1 ∧ (4 = 10 ∨ 4 = 11)) by omega) rfl) j_113)))
              refine E_39 hX (by omega) hG151 hp j_165 (by omega) j_168 (by omega) (by omega) (by omega) (by omega) (by omega) (p := p) (f := (M88.2.1 1 8)) (l := (M135.2.1 1 8)) (t := t) (nn := nn) (a := (x_ns t nn (x_ns t nn (x_ns t nn (x_ns t nn a))))) (sg := sg) (fun r169 M176 hG171 F170 p_172 p_173 p_174 p_175 => ?_)
              have F177 := FR.c F157 F170 (fun a i z => show a = 1 ∧ 6 ≤ i ∧ i ≤ 11 ∨ a = p ∧ 2 ≤ i ∨ p + 1 ≤ a ∧ a ≤ p + 5 by have z : a = 1 ∧ (i = 10 ∨ i = 11) := z; omega)
              have z_178 := x_free_v (s := sg) (f := (M88.2.1 1 8).toInt) (l := (M135.2.1 1 8).toInt) (f2 := (x_val t nn (x_ns t nn (x_ns t nn (x_ns t nn a))))) (l2 := (x_val t nn (x_ns t nn (x_ns t nn (x_ns t nn (x_ns t nn a)))))) (by omega) (by omega)
              rcases (show r169.toInt = 0 ∨ r169.toInt = 1 by omega) with h179 | h179
              · skip
                have p_180 := p_175 (by omega)
                clear p_174 p_175
                refine b_ine_f (pc := 80) rw_36_80 (A := r169.toInt) rfl (by omega) ?_
                refine to_c (pc := 83) rw_36_83 (x := (0 : Int32)) rfl rfl ?_
                refine s_r1 (pc := 84) rw_36_84 (A := 0) rfl (by omega) ?_
                refine b_ieq_t (pc := 119) rw_33_119 (A := 0) rfl (by omega) ?_
                refine to_c (pc := 138) rw_33_138 (x := (0 : Int32)) rfl rfl ?_
                refine to_isn (pc := 139) rw_33_139 (ls2 := [.ref p, .ref 1, .int r53, .int (0 : Int32)]) rfl rfl ?_
                refine to_in (pc := 140) rw_33_140 rfl ?_
                refine b_ine_f (pc := 141) rw_33_141 (A := 0) rfl (by omega) ?_
                refine to_c (pc := 144) rw_33_144 (x := (0 : Int32)) rfl rfl ?_
                refine s_r1 (pc := 145) rw_33_145 (A := 0) rfl (by omega) ?_
                have j_181 := (CS_f (tg_12 F170) j_165)
                exact h (0 : Int32) M176 hG171 F177 (by omega) (by omega) j_181 (fun _ => x_field_n (fun h9 => by unfold x_fC at h9; omega)) (fun z => absurd z (by decide))
              · skip
                have p_182 := p_174 (by omega)
                clear p_174 p_175
                refine b_ine_t (pc := 80) rw_36_80 (A := r169.toInt) rfl (by omega) ?_
                refine to_an (pc := 85) rw_36_85 rfl ?_
                refine s_v (pc := 86) rw_36_86 (by omega) (ls0 := [.ref 1]) rfl (Nat.le_of_ble_eq_true rfl) (Nat.le_of_ble_eq_true rfl) rfl (to_rc rfl rfl rfl (g_o hG171 rfl)) rfl ?_
                have j_183 := (CS_f (tg_12 F170) j_165)
                have c_184 : M176.2.1 1 9 = (M135.2.1 1 9) := (F_n F170 (show ¬ (1 = 1 ∧ (9 = 10 ∨ 9 = 11)) by decide) c_166)
                have t_185 : (M176.2.1 1 9).toInt = (M135.2.1 1 9).toInt := congrArg Int32.toInt c_184
                refine E_83 hX (by omega) hG171 j_183 (by omega) (t := t) (nn := nn) (a := (x_ns t nn (x_ns t nn (x_ns t nn (x_ns t nn a))))) (fun M190 hG187 F186 p_188 p_189 => ?_)
                have F191 := FR.c F177 F186 (fun a i z => show a = 1 ∧ 6 ≤ i ∧ i ≤ 11 ∨ a = p ∧ 2 ≤ i ∨ p + 1 ≤ a ∧ a ≤ p + 5 by have z : a = 1 ∧ 6 ≤ i ∧ i ≤ 9 := z; omega)
                refine to_an (pc := 89) rw_36_89 rfl ?_
                refine to_in (pc := 90) rw_36_90 rfl ?_
                refine to_i (pc := 91) rw_36_91 rfl ?_
                refine to_i (pc := 93) rw_36_93 rfl ?_
                refine to_in (pc := 95) rw_36_95 rfl ?_
                refine s_sub (pc := 96) rw_36_96 (A := (M135.2.1 1 8).toInt) (B := (M88.2.1 1 8).toInt) rfl rfl (by omega) (fun v192 e193 => ?_)
                refine to_c (pc := 97) rw_36_97 (x := (1 : Int32)) rfl rfl ?_
                refine s_add (pc := 98) rw_36_98 (A := v192.toInt) (B := 1) rfl rfl (by omega) (fun v194 e195 => ?_)
                refine s_v (pc := 99) rw_36_99 (by omega) (ls0 := [.ref p, .int (M88.2.1 1 8), .int (M135.2.1 1 8), .int v194]) rfl (Nat.le_of_ble_eq_true rfl) (Nat.le_of_ble_eq_true rfl) rfl (to_rc rfl rfl rfl (g_o hG187 (by rcases hp with rfl | rfl <;> rfl))) rfl ?_
                refine to_an (pc := 0) rw_40_0 rfl ?_
                refine s_gR (pc := 1) rw_40_1 hG187 (by rcases hp with rfl | rfl <;> rfl) (v := (p + 3)) (by rcases hp with rfl | rfl <;> rfl) ?_
                refine to_an (pc := 4) rw_40_4 rfl ?_
                have c_196 : M190.2.1 p 2 = (M.2.1 p 2) := (F_n F186 (show ¬ (p = 1 ∧ 6 ≤ 2 ∧ 2 ≤ 9) by omega) (F_n F170 (show ¬ (p = 1 ∧ (2 = 10 ∨ 2 = 11)) by omega) (F_n F150 (show ¬ (p = 1 ∧ (2 = 10 ∨ 2 = 11)) by omega) (F_n F131 (show ¬ (p = 1 ∧ 6 ≤ 2 ∧ 2 ≤ 9) by omega) (F_n F115 (show ¬ (p = 1 ∧ (2 = 10 ∨ 2 = 11)) by omega) (F_n F95 (show ¬ (p = 1 ∧ (2 = 10 ∨ 2 = 11)) by omega) (F_n F84 (show ¬ (p = 1 ∧ 6 ≤ 2 ∧ 2 ≤ 9) by omega) (W_n W77 (by omega) c_76))))))))
                refine tt_gI (pc := 5) rw_40_5 (g_o hG187 (by rcases hp with rfl | rfl <;> rfl)) (v := (M.2.1 p 2)) c_196 ?_
                refine to_in (pc := 8) rw_40_8 rfl ?_
                refine s_ias (pc := 9) rw_40_9 hG187 (by rcases hp with rfl | rfl <;> rfl) (n := 8) (by rcases hp with rfl | rfl <;> rfl) (A := (M.2.1 p 2).toInt) rfl (by omega) (by omega) (fun M198 W197 => ?_)
                have hG199 := g_w hG187 W197 (A := (M88.2.1 1 8).toInt) rfl (lo := 0) (hi := 59) (by rcases hp with rfl | rfl <;> rfl) (by rcases hp with rfl | rfl <;> rfl) (by omega) (by omega)
                have F200 := FR.w F191 W197 (show (p + 3) = 1 ∧ 6 ≤ ((M.2.1 p 2).toInt).toNat ∧ ((M.2.1 p 2).toInt).toNat ≤ 11 ∨ (p + 3) = p ∧ 2 ≤ ((M.2.1 p 2).toInt).toNat ∨ p + 1 ≤ (p + 3) ∧ (p + 3) ≤ p + 5 by omega)
                refine to_an (pc := 10) rw_40_10 rfl ?_
                refine s_gR (pc := 11) rw_40_11 hG199 (by rcases hp with rfl | rfl <;> rfl) (v := (p + 4)) (by rcases hp with rfl | rfl <;> rfl) ?_
                refine to_an (pc := 14) rw_40_14 rfl ?_
                have c_201 : M198.2.1 p 2 = (M.2.1 p 2) := (W_n W197 (by omega) c_196)
                refine tt_gI (pc := 15) rw_40_15 (g_o hG199 (by rcases hp with rfl | rfl <;> rfl)) (v := (M.2.1 p 2)) c_201 ?_
                refine to_in (pc := 18) rw_40_18 rfl ?_
                refine s_ias (pc := 19) rw_40_19 hG199 (by rcases hp with rfl | rfl <;> rfl) (n := 8) (by rcases hp with rfl | rfl <;> rfl) (A := (M.2.1 p 2).toInt) rfl (by omega) (by omega) (fun M203 W202 => ?_)
                have hG204 := g_w hG199 W202 (A := (M135.2.1 1 8).toInt) rfl (lo := 0) (hi := 63) (by rcases hp with rfl | rfl <;> rfl) (by rcases hp with rfl | rfl <;> rfl) (by omega) (by omega)
                have F205 := FR.w F200 W202 (show (p + 4) = 1 ∧ 6 ≤ ((M.2.1 p 2).toInt).toNat ∧ ((M.2.1 p 2).toInt).toNat ≤ 11 ∨ (p + 4) = p ∧ 2 ≤ ((M.2.1 p 2).toInt).toNat ∨ p + 1 ≤ (p + 4) ∧ (p + 4) ≤ p + 5 by omega)
                refine to_an (pc := 20) rw_40_20 rfl ?_
                refine s_gR (pc := 21) rw_40_21 hG204 (by rcases hp with rfl | rfl <;> rfl) (v := (p + 5)) (by rcases hp with rfl | rfl <;> rfl) ?_
                refine to_an (pc := 24) rw_40_24 rfl ?_
                have c_206 : M203.2.1 p 2 = (M.2.1 p 2) := (W_n W202 (by omega) c_201)
                refine tt_gI (pc := 25) rw_40_25 (g_o hG204 (by rcases hp with rfl | rfl <;> rfl)) (v := (M.2.1 p 2)) c_206 ?_
                refine to_in (pc := 28) rw_40_28 rfl ?_
                refine s_ias (pc := 29) rw_40_29 hG204 (by rcases hp with rfl | rfl <;> rfl) (n := 8) (by rcases hp with rfl | rfl <;> rfl) (A := (M.2.1 p 2).toInt) rfl (by omega) (by omega) (fun M208 W207 => ?_)
                have hG209 := g_w hG204 W207 (A := v194.toInt) rfl (lo := 0) (hi := 24) (by rcases hp with rfl | rfl <;> rfl) (by rcases hp with rfl | rfl <;> rfl) (by omega) (by omega)
                have F210 := FR.w F205 W207 (show (p + 5) = 1 ∧ 6 ≤ ((M.2.1 p 2).toInt).toNat ∧ ((M.2.1 p 2).toInt).toNat ≤ 11 ∨ (p + 5) = p ∧ 2 ≤ ((M.2.1 p 2).toInt).toNat ∨ p + 1 ≤ (p + 5) ∧ (p + 5) ≤ p + 5 by omega)
                refine to_rv (pc := 30) rw_40_30 ?_
                refine to_c (pc := 102) rw_36_102 (x := (1 : Int32)) rfl rfl ?_
                refine s_r1 (pc := 103) rw_36_103 (A := 1) rfl (by omega) ?_
                refine b_ieq_f (pc := 119) rw_33_119 (A := 1) rfl (by omega) ?_
                refine to_in (pc := 122) rw_33_122 rfl ?_
                refine b_ieq_t (pc := 123) rw_33_123 (A := r53.toInt) rfl (by omega) ?_
                refine to_c (pc := 134) rw_33_134 (x := (1 : Int32)) rfl rfl ?_
                refine to_go (pc := 135) rw_33_135 ?_
                refine to_isn (pc := 139) rw_33_139 (ls2 := [.ref p, .ref 1, .int r53, .int (1 : Int32)]) rfl rfl ?_
                refine to_in (pc := 140) rw_33_140 rfl ?_
                refine b_ine_t (pc := 141) rw_33_141 (A := 1) rfl (by omega) ?_
                refine to_an (pc := 146) rw_33_146 rfl ?_
                refine to_dupr (pc := 147) rw_33_147 ?_
                refine tt_gJ (pc := 148) rw_33_148 (g_o hG209 (by rcases hp with rfl | rfl <;> rfl)) (v := (M.2.2.1 p 4)) (W_j W207 (W_j W202 (W_j W197 (F_nl F186 (show ¬ (p = 1 ∧ 6 ≤ 4 ∧ 4 ≤ 9) by omega) (F_nl F170 (show ¬ (p = 1 ∧ (4 = 10 ∨ 4 = 11)) by omega) (F_nl F150 (show ¬ (p = 1 ∧ (4 = 10 ∨ 4 = 11)) by omega) (F_nl F131 (show ¬ (p = 1 ∧ 6 ≤ 4 ∧ 4 ≤ 9) by omega) (F_nl F115 (show ¬ (p = 1 ∧ (4 = 10 ∨ 4 = 11)) by omega) (F_nl F95 (show ¬ (p = 1 ∧ (4 = 10 ∨ 4 = 11)) by omega) (F_nl F84 (show ¬ (p = 1 ∧ 6 ≤ 4 ∧ 4 ≤ 9) by omega) (W_j W77 (F_nl F54 (show ¬ (p < 0) by omega) (F_nl F47 (show ¬ (p = 1 ∧ 6 ≤ 4 ∧ 4 ≤ 9) by omega) (W_j W40 (F_nl F23 (show ¬ (p = 1 ∧ (4 = 10 ∨ 4 = 11)) by omega) (F_nl F15 (show ¬ (p = 1 ∧ 6 ≤ 4 ∧ 4 ≤ 9) by omega) rfl)))))))))))))))) ?_
                refine to_an (pc := 151) rw_33_151 rfl ?_
                refine s_gR (pc := 152) rw_33_152 hG209 (by rcases hp with rfl | rfl <;> rfl) (v := (p + 3)) (by rcases hp with rfl | rfl <;> rfl) ?_
                refine to_an (pc := 155) rw_33_155 rfl ?_
                have c_211 : M208.2.1 p 2 = (M.2.1 p 2) := (W_n W207 (by omega) c_206)
                refine tt_gI (pc := 156) rw_33_156 (g_o hG209 (by rcases hp with rfl | rfl <;> rfl)) (v := (M.2.1 p 2)) c_211 ?_
                refine s_ialk (pc := 159) rw_33_159 hG209 (by rcases hp with rfl | rfl <;> rfl) (n := 8) (by rcases hp with rfl | rfl <;> rfl) (by rcases hp with rfl | rfl <;> rfl) (A := (M.2.1 p 2).toInt) rfl (by omega) (by omega) (v := (M88.2.1 1 8)) (W_n W207 (by omega) (W_n W202 (by omega) (W_e W197))) ?_
                refine to_an (pc := 160) rw_33_160 rfl ?_
                refine s_gR (pc := 161) rw_33_161 hG209 (by rcases hp with rfl | rfl <;> rfl) (v := (p + 4)) (by rcases hp with rfl | rfl <;> rfl) ?_
                refine to_an (pc := 164) rw_33_164 rfl ?_
                refine tt_gI (pc := 165) rw_33_165 (g_o hG209 (by rcases hp with rfl | rfl <;> rfl)) (v := (M.2.1 p 2)) c_211 ?_
                refine s_ialk (pc := 168) rw_33_168 hG209 (by rcases hp with rfl | rfl <;> rfl) (n := 8) (by rcases hp with rfl | rfl <;> rfl) (by rcases hp with rfl | rfl <;> rfl) (A := (M.2.1 p 2).toInt) rfl (by omega) (by omega) (v := (M135.2.1 1 8)) (W_n W207 (by omega) (W_e W202)) ?_
                refine s_s (pc := 169) rw_33_169 (by omega) (ls0 := [.int (M88.2.1 1 8), .int (M135.2.1 1 8)]) rfl (Nat.le_of_ble_eq_true rfl) (Nat.le_of_ble_eq_true rfl) rfl (to_rcs rfl rfl) rfl ?_
                refine to_cl (pc := 0) rw_144_0 rfl (x := (1 : Int64)) rfl ?_
                refine to_in (pc := 1) rw_144_1 rfl ?_
                refine to_in (pc := 2) rw_144_2 rfl ?_
                refine s_sub (pc := 3) rw_144_3 (A := (M135.2.1 1 8).toInt) (B := (M88.2.1 1 8).toInt) rfl rfl (by omega) (fun v216 e217 => ?_)
                refine to_c (pc := 4) rw_144_4 (x := (1 : Int32)) rfl rfl ?_
                refine s_add (pc := 5) rw_144_5 (A := v216.toInt) (B := 1) rfl rfl (by omega) (fun v218 e219 => ?_)
                refine to_2s (pc := 6) rw_144_6 (v := ((1 : Int64) <<< (v218.toInt64 &&& 63))) rfl ?_
                refine to_cl (pc := 7) rw_144_7 rfl (x := (1 : Int64)) rfl ?_
                refine to_2l (pc := 8) rw_144_8 (v := (((1 : Int64) <<< (v218.toInt64 &&& 63)) - (1 : Int64))) rfl ?_
                refine to_in (pc := 9) rw_144_9 rfl ?_
                refine to_2s (pc := 10) rw_144_10 (v := ((((1 : Int64) <<< (v218.toInt64 &&& 63)) - (1 : Int64)) <<< ((M88.2.1 1 8).toInt64 &&& 63))) rfl ?_
                refine to_rl (pc := 11) rw_144_11 ?_
                refine to_2l (pc := 172) rw_33_172 (v := ((M.2.2.1 p 4) ||| ((((1 : Int64) <<< (v218.toInt64 &&& 63)) - (1 : Int64)) <<< ((M88.2.1 1 8).toInt64 &&& 63)))) rfl ?_
                have j_220 := (PLc_f (fun a i z => W_n W207 (by omega) rfl) (W_j W207 rfl) (PLc_f (fun a i z => W_n W202 (by omega) rfl) (W_j W202 rfl) (PLc_f (fun a i z => W_n W197 (by omega) rfl) (W_j W197 rfl) (PLc_f (fun a i z => F_n F186 (show ¬ (a = 1 ∧ 6 ≤ i ∧ i ≤ 9) by omega) rfl) (F_nl F186 (show ¬ (p = 1 ∧ 6 ≤ 4 ∧ 4 ≤ 9) by omega) rfl) (PLc_f (fun a i z => F_n F170 (show ¬ (a = 1 ∧ (i = 10 ∨ i = 11)) by omega) rfl) (F_nl F170 (show ¬ (p = 1 ∧ (4 = 10 ∨ 4 = 11)) by omega) rfl) j_168)))))
                have r_221 : (M208.2.1 (p + 1) sg.2.1.toNat).toInt = (M19.2.1 1 8).toInt := by rw [show sg.2.1.toNat = ((M.2.1 p 2).toInt).toNat by omega, show M208.2.1 (p + 1) ((M.2.1 p 2).toInt).toNat = (M19.2.1 1 8) from (W_n W207 (by omega) (W_n W202 (by omega) (W_n W197 (by omega) (F_n F186 (show ¬ ((p + 1) = 1 ∧ 6 ≤ ((M.2.1 p 2).toInt).toNat ∧ ((M.2.1 p 2).toInt).toNat ≤ 9) by omega) (F_n F170 (show ¬ ((p + 1) = 1 ∧ (((M.2.1 p 2).toInt).toNat = 10 ∨ ((M.2.1 p 2).toInt).toNat = 11)) by omega) (F_n F150 (show ¬ ((p + 1) = 1 ∧ (((M.2.1 p 2).toInt).toNat = 10 ∨ ((M.2.1 p 2).toInt).toNat = 11)) by omega) (F_n F131 (show ¬ ((p + 1) = 1 ∧ 6 ≤ ((M.2.1 p 2).toInt).toNat ∧ ((M.2.1 p 2).toInt).toNat ≤ 9) by omega) (F_n F115 (show ¬ ((p + 1) = 1 ∧ (((M.2.1 p 2).toInt).toNat = 10 ∨ ((M.2.1 p 2).toInt).toNat = 11)) by omega) (F_n F95 (show ¬ ((p + 1) = 1 ∧ (((M.2.1 p 2).toInt).toNat = 10 ∨ ((M.2.1 p 2).toInt).toNat = 11)) by omega) (F_n F84 (show ¬ ((p + 1) = 1 ∧ 6 ≤ ((M.2.1 p 2).toInt).toNat ∧ ((M.2.1 p 2).toInt).toNat ≤ 9) by omega) (W_n W77 (by omega) (F_n F54 (show ¬ ((p + 1) < 0) by omega) (F_n F47 (show ¬ ((p + 1) = 1 ∧ 6 ≤ ((M.2.1 p 2).toInt).toNat ∧ ((M.2.1 p 2).toInt).toNat ≤ 9) by omega) (W_e W40))))))))))))))]
                have r_222 : (M208.2.1 (p + 2) sg.2.1.toNat).toInt = r53.toInt := by rw [show sg.2.1.toNat = ((M.2.1 p 2).toInt).toNat by omega, show M208.2.1 (p + 2) ((M.2.1 p 2).toInt).toNat = r53 from (W_n W207 (by omega) (W_n W202 (by omega) (W_n W197 (by omega) (F_n F186 (show ¬ ((p + 2) = 1 ∧ 6 ≤ ((M.2.1 p 2).toInt).toNat ∧ ((M.2.1 p 2).toInt).toNat ≤ 9) by omega) (F_n F170 (show ¬ ((p + 2) = 1 ∧ (((M.2.1 p 2).toInt).toNat = 10 ∨ ((M.2.1 p 2).toInt).toNat = 11)) by omega) (F_n F150 (show ¬ ((p + 2) = 1 ∧ (((M.2.1 p 2).toInt).toNat = 10 ∨ ((M.2.1 p 2).toInt).toNat = 11)) by omega) (F_n F131 (show ¬ ((p + 2) = 1 ∧ 6 ≤ ((M.2.1 p 2).toInt).toNat ∧ ((M.2.1 p 2).toInt).toNat ≤ 9) by omega) (F_n F115 (show ¬ ((p + 2) = 1 ∧ (((M.2.1 p 2).toInt).toNat = 10 ∨ ((M.2.1 p 2).toInt).toNat = 11)) by omega) (F_n F95 (show ¬ ((p + 2) = 1 ∧ (((M.2.1 p 2).toInt).toNat = 10 ∨ ((M.2.1 p 2).toInt).toNat = 11)) by omega) (F_n F84 (show ¬ ((p + 2) = 1 ∧ 6 ≤ ((M.2.1 p 2).toInt).toNat ∧ ((M.2.1 p 2).toInt).toNat ≤ 9) by omega) (W_e W77)))))))))))]
                have r_223 : (M208.2.1 (p + 3) sg.2.1.toNat).toInt = (M88.2.1 1 8).toInt := by rw [show sg.2.1.toNat = ((M.2.1 p 2).toInt).toNat by omega, show M208.2.1 (p + 3) ((M.2.1 p 2).toInt).toNat = (M88.2.1 1 8) from (W_n W207 (by omega) (W_n W202 (by omega) (W_e W197)))]
                have r_224 : (M208.2.1 (p + 4) sg.2.1.toNat).toInt = (M135.2.1 1 8).toInt := by rw [show sg.2.1.toNat = ((M.2.1 p 2).toInt).toNat by omega, show M208.2.1 (p + 4) ((M.2.1 p 2).toInt).toNat = (M135.2.1 1 8) from (W_n W207 (by omega) (W_e W202))]
                have r_225 : (M208.2.1 (p + 5) sg.2.1.toNat).toInt = v194.toInt := by rw [show sg.2.1.toNat = ((M.2.1 p 2).toInt).toNat by omega, show M208.2.1 (p + 5) ((M.2.1 p 2).toInt).toNat = v194 from (W_e W207)]
                refine s_pJ (pc := 173) rw_33_173 hG209 (by rcases hp with rfl | rfl <;> rfl) (fun M227 W226 => ?_)
                have hG228 := g_wl hG209 W226
                have F229 := FR.wl F210 W226 (show p = 1 ∧ 6 ≤ 4 ∧ 4 ≤ 11 ∨ p = p ∧ 2 ≤ 4 ∨ p + 1 ≤ p ∧ p ≤ p + 5 by omega)
                refine to_an (pc := 176) rw_33_176 rfl ?_
                refine to_dupr (pc := 177) rw_33_177 ?_
                have c_230 : M227.2.1 p 2 = (M.2.1 p 2) := (W_l W226 c_211)
                refine tt_gI (pc := 178) rw_33_178 (g_o hG228 (by rcases hp with rfl | rfl <;> rfl)) (v := (M.2.1 p 2)) c_230 ?_
                refine to_c (pc := 181) rw_33_181 (x := (1 : Int32)) rfl rfl ?_
                refine s_add (pc := 182) rw_33_182 (A := (M.2.1 p 2).toInt) (B := 1) rfl rfl (by omega) (fun v231 e232 => ?_)
                refine s_pI (pc := 183) rw_33_183 hG228 (by rcases hp with rfl | rfl <;> rfl) (fun M234 W233 => ?_)
                have hG235 := g_w hG228 W233 (A := v231.toInt) rfl (lo := 0) (hi := 8) (by rcases hp with rfl | rfl <;> rfl) (by rcases hp with rfl | rfl <;> rfl) (by omega) (by omega)
                have F236 := FR.w F229 W233 (show p = 1 ∧ 6 ≤ 2 ∧ 2 ≤ 11 ∨ p = p ∧ 2 ≤ 2 ∨ p + 1 ≤ p ∧ p ≤ p + 5 by omega)
                refine to_c (pc := 186) rw_33_186 (x := (1 : Int32)) rfl rfl ?_
                refine s_r1 (pc := 187) rw_33_187 (A := 1) rfl (by omega) ?_
                have k_237 : (1 : Int32).toInt = 1 := rfl
                have j_238 := (CS_f (fun a i z => W_n W233 (by omega) rfl) (CS_f (fun a i z => W_l W226 rfl) (CS_f (fun a i z => W_n W207 (by omega) rfl) (CS_f (fun a i z => W_n W202 (by omega) rfl) (CS_f (fun a i z => W_n W197 (by omega) rfl) p_188)))))
                have c_239 : M234.2.1 1 9 = (M190.2.1 1 9) := (W_n W233 (by omega) (W_l W226 (W_n W207 (by omega) (W_n W202 (by omega) (W_n W197 (by omega) rfl)))))
                have t_240 : (M234.2.1 1 9).toInt = (M190.2.1 1 9).toInt := congrArg Int32.toInt c_239
                have z_241 : x_fC t nn sg (x_ns t nn a) := by unfold x_fC; omega
                have j_242 := PLc_p (nm := (x_val t nn (x_ns t nn a))) (kd := 0) (f := (x_val t nn (x_ns t nn (x_ns t nn (x_ns t nn a))))) (l := (x_val t nn (x_ns t nn (x_ns t nn (x_ns t nn (x_ns t nn a)))))) (c := ((x_val t nn (x_ns t nn (x_ns t nn (x_ns t nn (x_ns t nn a))))) - (x_val t nn (x_ns t nn (x_ns t nn (x_ns t nn a)))) + 1)) j_220 W226 W233 (x_or_e q3 (by omega) (by omega)) (by omega) (by omega) (r_221.trans (by omega)) (r_222.trans (by omega)) (r_223.trans (by omega)) (r_224.trans (by omega)) (r_225.trans (by omega)) (by omega) (by omega) (by omega) (by omega)
                have j_243 := (CW_f (fun k hk9 => W_j W233 rfl) (CW_f (fun k hk9 => L_n W226 (by omega) rfl) (CW_f (fun k hk9 => W_j W207 rfl) (CW_f (fun k hk9 => W_j W202 rfl) (CW_f (fun k hk9 => W_j W197 rfl) (CW_f (fun k hk9 => F_nl F186 (show ¬ ((p + 8) = 1 ∧ 6 ≤ k ∧ k ≤ 9) by omega) rfl) (CW_f (fun k hk9 => F_nl F170 (show ¬ ((p + 8) = 1 ∧ (k = 10 ∨ k = 11)) by omega) rfl) (CW_f (fun k hk9 => F_nl F150 (show ¬ ((p + 8) = 1 ∧ (k = 10 ∨ k = 11)) by omega) rfl) (CW_f (fun k hk9 => F_nl F131 (show ¬ ((p + 8) = 1 ∧ 6 ≤ k ∧ k ≤ 9) by omega) rfl) (CW_f (fun k hk9 => F_nl F115 (show ¬ ((p + 8) = 1 ∧ (k = 10 ∨ k = 11)) by omega) rfl) (CW_f (fun k hk9 => F_nl F95 (show ¬ ((p + 8) = 1 ∧ (k = 10 ∨ k = 11)) by omega) rfl) (CW_f (fun k hk9 => F_nl F84 (show ¬ ((p + 8) = 1 ∧ 6 ≤ k ∧ k ≤ 9) by omega) rfl) (CW_f (fun k hk9 => W_j W77 rfl) (CW_f (fun k hk9 => F_nl F54 (show ¬ ((p + 8) < 0) by omega) rfl) (CW_f (fun k hk9 => F_nl F47 (show ¬ ((p + 8) = 1 ∧ 6 ≤ k ∧ k ≤ 9) by omega) rfl) (CW_f (fun k hk9 => W_j W40 rfl) (CW_f (fun k hk9 => F_nl F23 (show ¬ ((p + 8) = 1 ∧ (k = 10 ∨ k = 11)) by omega) rfl) (CW_f (fun k hk9 => F_nl F15 (show ¬ ((p + 8) = 1 ∧ 6 ≤ k ∧ k ≤ 9) by omega) rfl) q4))))))))))))))))))
                exact h (1 : Int32) M234 hG235 F236 (by omega) (by omega) j_238 (fun z => absurd z (by decide)) (fun _ => ⟨_, (by rw [show (M234.2.1 1 9).toInt = (x_ns t nn (x_ns t nn (x_ns t nn (x_ns t nn (x_ns t nn a))))) by omega]; exact x_field_0 z_241 (by omega)), ⟨j_242, CW_p j_243⟩, (by show sg.2.1 + 1 + sg.2.2.1 = _; omega)⟩)
      · skip
        have p_244 := p_59 (by omega)
        clear p_58 p_59
        refine to_isn (pc := 50) rw_33_50 (ls2 := [.ref p, .ref 1, .int r53, .null]) rfl rfl ?_
        refine to_in (pc := 51) rw_33_51 rfl ?_
        refine to_c (pc := 52) rw_33_52 (x := (-1 : Int32)) rfl rfl ?_
        refine b_cne_t (pc := 53) rw_33_53 (A := r53.toInt) (B := -1) rfl rfl (by omega) ?_
        refine to_an (pc := 62) rw_33_62 rfl ?_
        refine s_gR (pc := 63) rw_33_63 hG55 (by rcases hp with rfl | rfl <;> rfl) (v := (p + 2)) (by rcases hp with rfl | rfl <;> rfl) ?_
        refine to_an (pc := 66) rw_33_66 rfl ?_
        have c_245 : M60.2.1 p 2 = (M.2.1 p 2) := (F_n F54 (show ¬ (p < 0) by omega) (F_n F47 (show ¬ (p = 1 ∧ 6 ≤ 2 ∧ 2 ≤ 9) by omega) (W_n W40 (by omega) c_38)))
        refine tt_gI (pc := 67) rw_33_67 (g_o hG55 (by rcases hp with rfl | rfl <;> rfl)) (v := (M.2.1 p 2)) c_245 ?_
        refine to_in (pc := 70) rw_33_70 rfl ?_
        refine s_ias (pc := 71) rw_33_71 hG55 (by rcases hp with rfl | rfl <;> rfl) (n := 8) (by rcases hp with rfl | rfl <;> rfl) (A := (M.2.1 p 2).toInt) rfl (by omega) (by omega) (fun M247 W246 => ?_)
        have hG248 := g_w hG55 W246 (A := r53.toInt) rfl (lo := 0) (hi := 3) (by rcases hp with rfl | rfl <;> rfl) (by rcases hp with rfl | rfl <;> rfl) (by omega) (by omega)
        have F249 := FR.w F61 W246 (show (p + 2) = 1 ∧ 6 ≤ ((M.2.1 p 2).toInt).toNat ∧ ((M.2.1 p 2).toInt).toNat ≤ 11 ∨ (p + 2) = p ∧ 2 ≤ ((M.2.1 p 2).toInt).toNat ∨ p + 1 ≤ (p + 2) ∧ (p + 2) ≤ p + 5 by omega)
        refine to_an (pc := 72) rw_33_72 rfl ?_
        refine s_v (pc := 73) rw_33_73 (by omega) (ls0 := [.ref 1]) rfl (Nat.le_of_ble_eq_true rfl) (Nat.le_of_ble_eq_true rfl) rfl (to_rc rfl rfl rfl (g_o hG248 rfl)) rfl ?_
        have j_250 := (CS_f (fun a i z => W_n W246 (by omega) rfl) (CS_f (tg_8 F54) p_49))
        have c_251 : M247.2.1 1 9 = (M51.2.1 1 9) := (W_n W246 (by omega) (F_n F54 (show ¬ (1 < 0) by decide) rfl))
        have t_252 : (M247.2.1 1 9).toInt = (M51.2.1 1 9).toInt := congrArg Int32.toInt c_251
        refine E_83 hX (by omega) hG248 j_250 (by omega) (t := t) (nn := nn) (a := (x_ns t nn (x_ns t nn a))) (fun M257 hG254 F253 p_255 p_256 => ?_)
        have F258 := FR.c F249 F253 (fun a i z => show a = 1 ∧ 6 ≤ i ∧ i ≤ 11 ∨ a = p ∧ 2 ≤ i ∨ p + 1 ≤ a ∧ a ≤ p + 5 by have z : a = 1 ∧ 6 ≤ i ∧ i ≤ 9 := z; omega)
        refine to_in (pc := 76) rw_33_76 rfl ?_
        refine to_c (pc := 77) rw_33_77 (x := (1 : Int32)) rfl rfl ?_
        refine b_ceq_t (pc := 78) rw_33_78 (A := r53.toInt) (B := 1) rfl rfl (by omega) ?_
        refine to_an (pc := 86) rw_33_86 rfl ?_
        refine to_an (pc := 87) rw_33_87 rfl ?_
        refine to_in (pc := 88) rw_33_88 rfl ?_
        refine to_c (pc := 89) rw_33_89 (x := (1 : Int32)) rfl rfl ?_
        refine b_cne_f (pc := 90) rw_33_90 (A := r53.toInt) (B := 1) rfl rfl (by omega) ?_
        refine to_c (pc := 93) rw_33_93 (x := (4 : Int32)) rfl rfl ?_
        refine to_go (pc := 94) rw_33_94 ?_
        refine s_v (pc := 98) rw_33_98 (by omega) (ls0 := [.ref p, .ref 1, .int (4 : Int32), .null, .null]) rfl (Nat.le_of_ble_eq_true rfl) (Nat.le_of_ble_eq_true rfl) rfl (to_rc rfl rfl rfl (g_o hG254 (by rcases hp with rfl | rfl <;> rfl))) rfl ?_
        refine to_an (pc := 0) rw_37_0 rfl ?_
        refine tt_gI (pc := 1) rw_37_1 (g_o hG254 rfl) (v := (M257.2.1 1 8)) rfl ?_
        refine to_isn (pc := 4) rw_37_4 (ls2 := [.ref p, .ref 1, .int (4 : Int32), .int (M257.2.1 1 8), .null]) rfl rfl ?_
        refine to_in (pc := 5) rw_37_5 rfl ?_
        refine to_in (pc := 6) rw_37_6 rfl ?_
        refine s_addo (pc := 7) rw_37_7 (A := (M257.2.1 1 8).toInt) (B := 4) rfl rfl (fun v259 e260 => ?_)
        refine to_c (pc := 8) rw_37_8 (x := (1 : Int32)) rfl rfl ?_
        refine s_subo (pc := 9) rw_37_9 (A := v259.toInt) (B := 1) rfl rfl (fun v261 e262 => ?_)
        refine to_is (pc := 10) rw_37_10 (ls2 := [.ref p, .ref 1, .int (4 : Int32), .int (M257.2.1 1 8), .int v261]) rfl rfl ?_
        refine to_an (pc := 12) rw_37_12 rfl ?_
        refine to_c (pc := 13) rw_37_13 (x := (0 : Int32)) rfl rfl ?_
        refine to_an (pc := 14) rw_37_14 rfl ?_
        have c_263 : M257.2.1 p 0 = (M.2.1 p 0) := (F_n F253 (show ¬ (p = 1 ∧ 6 ≤ 0 ∧ 0 ≤ 9) by omega) (W_n W246 (by omega) (F_n F54 (show ¬ (p < 0) by omega) (F_n F47 (show ¬ (p = 1 ∧ 6 ≤ 0 ∧ 0 ≤ 9) by omega) (W_n W40 (by omega) (F_n F23 (show ¬ (p = 1 ∧ (0 = 10 ∨ 0 = 11)) by omega) (F_n F15 (show ¬ (p = 1 ∧ 6 ≤ 0 ∧ 0 ≤ 9) by omega) rfl)))))))
        refine tt_gI (pc := 15) rw_37_15 (g_o hG254 (by rcases hp with rfl | rfl <;> rfl)) (v := (M.2.1 p 0)) c_263 ?_
        refine to_in (pc := 18) rw_37_18 rfl ?_
        refine s_sub (pc := 19) rw_37_19 (A := (M.2.1 p 0).toInt) (B := 4) rfl rfl (by omega) (fun v264 e265 => ?_)
        refine s_v (pc := 20) rw_37_20 (by omega) (ls0 := [.ref 1, .int (0 : Int32), .int v264]) rfl (Nat.le_of_ble_eq_true rfl) (Nat.le_of_ble_eq_true rfl) rfl (to_rc rfl rfl rfl (g_o hG254 rfl)) rfl ?_
        have k_266 : (0 : Int32).toInt = 0 := rfl
        refine E_88 hX (by omega) hG254 p_255 (by omega) (l := (0 : Int32)) (m := v264) (t := t) (nn := nn) (a := (x_ns t nn (x_ns t nn (x_ns t nn a)))) (fun r267 M274 hG269 F268 p_270 p_271 p_272 p_273 => ?_)
        have F275 := FR.c F258 F268 (fun a i z => show a = 1 ∧ 6 ≤ i ∧ i ≤ 11 ∨ a = p ∧ 2 ≤ i ∨ p + 1 ≤ a ∧ a ≤ p + 5 by have z : a = 1 ∧ (i = 10 ∨ i = 11) := z; omega)
        rcases (show r267.toInt = 0 ∨ r267.toInt = 1 by omega) with h276 | h276
        · skip
          have p_277 := p_273 (by omega)
          clear p_272 p_273
          have z_278 := x_val_b (t := t) (nn := nn) (a := (x_ns t nn (x_ns t nn (x_ns t nn a))))
          refine b_ieq_t (pc := 23) rw_37_23 (A := r267.toInt) rfl (by omega) ?_
          refine to_c (pc := 37) rw_37_37 (x := (0 : Int32)) rfl rfl ?_
          refine s_r1 (pc := 38) rw_37_38 (A := 0) rfl (by omega) ?_
          refine to_isn (pc := 101) rw_33_101 (ls2 := [.ref p, .ref 1, .int r53, .int (0 : Int32)]) rfl rfl ?_
          refine to_go (pc := 102) rw_33_102 ?_
          refine to_in (pc := 140) rw_33_140 rfl ?_
          refine b_ine_f (pc := 141) rw_33_141 (A := 0) rfl (by omega) ?_
          refine to_c (pc := 144) rw_33_144 (x := (0 : Int32)) rfl rfl ?_
          refine s_r1 (pc := 145) rw_33_145 (A := 0) rfl (by omega) ?_
          have j_279 := (CS_f (tg_12 F268) p_255)
          exact h (0 : Int32) M274 hG269 F275 (by omega) (by omega) j_279 (fun _ => x_field_n (fun h9 => by unfold x_fC at h9; omega)) (fun z => absurd z (by decide))
        · skip
          have p_280 := p_272 (by omega)
          clear p_272 p_273
          have c_281 : M274.2.1 1 8 = (M257.2.1 1 8) := (F_n F268 (show ¬ (1 = 1 ∧ (8 = 10 ∨ 8 = 11)) by decide) rfl)
          have z_282 := x_val_b (t := t) (nn := nn) (a := (x_ns t nn (x_ns t nn (x_ns t nn a)))) (by omega)
          refine b_ieq_f (pc := 23) rw_37_23 (A := r267.toInt) rfl (by omega) ?_
          refine to_an (pc := 26) rw_37_26 rfl ?_
          refine to_an (pc := 27) rw_37_27 rfl ?_
          refine to_in (pc := 28) rw_37_28 rfl ?_
          refine to_i (pc := 29) rw_37_29 rfl ?_
          refine s_v (pc := 31) rw_37_31 (by omega) (ls0 := [.ref p, .ref 1, .int (M257.2.1 1 8), .int v261]) rfl (Nat.le_of_ble_eq_true rfl) (Nat.le_of_ble_eq_true rfl) rfl (to_rc rfl rfl rfl (g_o hG269 (by rcases hp with rfl | rfl <;> rfl))) rfl ?_
          have j_283 := (CS_f (tg_12 F268) p_255)
          have c_284 : M274.2.1 1 9 = (M257.2.1 1 9) := (F_n F268 (show ¬ (1 = 1 ∧ (9 = 10 ∨ 9 = 11)) by decide) rfl)
          have t_285 : (M274.2.1 1 9).toInt = (M257.2.1 1 9).toInt := congrArg Int32.toInt c_284
          have j_286 := (PLc_f (fun a i z => F_n F268 (show ¬ (a = 1 ∧ (i = 10 ∨ i = 11)) by omega) rfl) (F_nl F268 (show ¬ (p = 1 ∧ (4 = 10 ∨ 4 = 11)) by omega) rfl) (PLc_f (fun a i z => F_n F253 (show ¬ (a = 1 ∧ 6 ≤ i ∧ i ≤ 9) by omega) rfl) (F_nl F253 (show ¬ (p = 1 ∧ 6 ≤ 4 ∧ 4 ≤ 9) by omega) rfl) (PLc_f (fun a i z => W_n W246 (by omega) rfl) (W_j W246 rfl) (PLc_f (fun a i z => F_n F54 (show ¬ (a < 0) by omega) rfl) (F_nl F54 (show ¬ (p < 0) by omega) rfl) (PLc_f (fun a i z => F_n F47 (show ¬ (a = 1 ∧ 6 ≤ i ∧ i ≤ 9) by omega) rfl) (F_nl F47 (show ¬ (p = 1 ∧ 6 ≤ 4 ∧ 4 ≤ 9) by omega) rfl) (PLc_f (fun a i z => W_n W40 (by omega) rfl) (W_j W40 rfl) (PLc_f (fun a i z => F_n F23 (show ¬ (a = 1 ∧ (i = 10 ∨ i = 11)) by omega) rfl) (F_nl F23 (show ¬ (p = 1 ∧ (4 = 10 ∨ 4 = 11)) by omega) rfl) j_21)))))))
          refine E_39 hX (by omega) hG269 hp j_283 (by omega) j_286 (by omega) (by omega) (by omega) (by omega) (by omega) (p := p) (f := (M257.2.1 1 8)) (l := v261) (t := t) (nn := nn) (a := (x_ns t nn (x_ns t nn (x_ns t nn a)))) (sg := sg) (fun r287 M294 hG289 F288 p_290 p_291 p_292 p_293 => ?_)
          have F295 := FR.c F275 F288 (fun a i z => show a = 1 ∧ 6 ≤ i ∧ i ≤ 11 ∨ a = p ∧ 2 ≤ i ∨ p + 1 ≤ a ∧ a ≤ p + 5 by have z : a = 1 ∧ (i = 10 ∨ i = 11) := z; omega)
          have z_296 := x_free_v (s := sg) (f := (M257.2.1 1 8).toInt) (l := v261.toInt) (f2 := (x_val t nn (x_ns t nn (x_ns t nn (x_ns t nn a))))) (l2 := ((x_val t nn (x_ns t nn (x_ns t nn (x_ns t nn a)))) + ((x_kx (x_val t nn (x_ns t nn (x_ns t nn a)))) - 1))) (by omega) (by omega)
          rcases (show r287.toInt = 0 ∨ r287.toInt = 1 by omega) with h297 | h297
          · skip
            have p_298 := p_293 (by omega)
            clear p_292 p_293
            refine b_ine_f (pc := 34) rw_37_34 (A := r287.toInt) rfl (by omega) ?_
            refine to_c (pc := 37) rw_37_37 (x := (0 : Int32)) rfl rfl ?_
            refine s_r1 (pc := 38) rw_37_38 (A := 0) rfl (by omega) ?_
            refine to_isn (pc := 101) rw_33_101 (ls2 := [.ref p, .ref 1, .int r53, .int (0 : Int32)]) rfl rfl ?_
            refine to_go (pc := 102) rw_33_102 ?_
            refine to_in (pc := 140) rw_33_140 rfl ?_
            refine b_ine_f (pc := 141) rw_33_141 (A := 0) rfl (by omega) ?_
            refine to_c (pc := 144) rw_33_144 (x := (0 : Int32)) rfl rfl ?_
            refine s_r1 (pc := 145) rw_33_145 (A := 0) rfl (by omega) ?_
            have j_299 := (CS_f (tg_12 F288) j_283)
            exact h (0 : Int32) M294 hG289 F295 (by omega) (by omega) j_299 (fun _ => x_field_n (fun h9 => by unfold x_fC at h9; omega)) (fun z => absurd z (by decide))
          · skip
            have p_300 := p_292 (by omega)
            clear p_292 p_293
            refine b_ine_t (pc := 34) rw_37_34 (A := r287.toInt) rfl (by omega) ?_
            refine to_an (pc := 39) rw_37_39 rfl ?_
            refine s_v (pc := 40) rw_37_40 (by omega) (ls0 := [.ref 1]) rfl (Nat.le_of_ble_eq_true rfl) (Nat.le_of_ble_eq_true rfl) rfl (to_rc rfl rfl rfl (g_o hG289 rfl)) rfl ?_
            have j_301 := (CS_f (tg_12 F288) j_283)
            have c_302 : M294.2.1 1 9 = (M257.2.1 1 9) := (F_n F288 (show ¬ (1 = 1 ∧ (9 = 10 ∨ 9 = 11)) by decide) c_284)
            have t_303 : (M294.2.1 1 9).toInt = (M257.2.1 1 9).toInt := congrArg Int32.toInt c_302
            refine E_83 hX (by omega) hG289 j_301 (by omega) (t := t) (nn := nn) (a := (x_ns t nn (x_ns t nn (x_ns t nn a)))) (fun M308 hG305 F304 p_306 p_307 => ?_)
            have F309 := FR.c F295 F304 (fun a i z => show a = 1 ∧ 6 ≤ i ∧ i ≤ 11 ∨ a = p ∧ 2 ≤ i ∨ p + 1 ≤ a ∧ a ≤ p + 5 by have z : a = 1 ∧ 6 ≤ i ∧ i ≤ 9 := z; omega)
            refine to_an (pc := 43) rw_37_43 rfl ?_
            refine to_in (pc := 44) rw_37_44 rfl ?_
            refine to_i (pc := 45) rw_37_45 rfl ?_
            refine to_c (pc := 47) rw_37_47 (x := (10 : Int32)) rfl rfl ?_
            refine s_v (pc := 49) rw_37_49 (by omega) (ls0 := [.ref p, .int (M257.2.1 1 8), .int v261, .int (10 : Int32)]) rfl (Nat.le_of_ble_eq_true rfl) (Nat.le_of_ble_eq_true rfl) rfl (to_rc rfl rfl rfl (g_o hG305 (by rcases hp with rfl | rfl <;> rfl))) rfl ?_
            refine to_an (pc := 0) rw_40_0 rfl ?_
            refine s_gR (pc := 1) rw_40_1 hG305 (by rcases hp with rfl | rfl <;> rfl) (v := (p + 3)) (by rcases hp with rfl | rfl <;> rfl) ?_
            refine to_an (pc := 4) rw_40_4 rfl ?_
            have c_310 : M308.2.1 p 2 = (M.2.1 p 2) := (F_n F304 (show ¬ (p = 1 ∧ 6 ≤ 2 ∧ 2 ≤ 9) by omega) (F_n F288 (show ¬ (p = 1 ∧ (2 = 10 ∨ 2 = 11)) by omega) (F_n F268 (show ¬ (p = 1 ∧ (2 = 10 ∨ 2 = 11)) by omega) (F_n F253 (show ¬ (p = 1 ∧ 6 ≤ 2 ∧ 2 ≤ 9) by omega) (W_n W246 (by omega) c_245)))))
            refine tt_gI (pc := 5) rw_40_5 (g_o hG305 (by rcases hp with rfl | rfl <;> rfl)) (v := (M.2.1 p 2)) c_310 ?_
            refine to_in (pc := 8) rw_40_8 rfl ?_
            refine s_ias (pc := 9) rw_40_9 hG305 (by rcases hp with rfl | rfl <;> rfl) (n := 8) (by rcases hp with rfl | rfl <;> rfl) (A := (M.2.1 p 2).toInt) rfl (by omega) (by omega) (fun M312 W311 => ?_)
            have hG313 := g_w hG305 W311 (A := (M257.2.1 1 8).toInt) rfl (lo := 0) (hi := 59) (by rcases hp with rfl | rfl <;> rfl) (by rcases hp with rfl | rfl <;> rfl) (by omega) (by omega)
            have F314 := FR.w F309 W311 (show (p + 3) = 1 ∧ 6 ≤ ((M.2.1 p 2).toInt).toNat ∧ ((M.2.1 p 2).toInt).toNat ≤ 11 ∨ (p + 3) = p ∧ 2 ≤ ((M.2.1 p 2).toInt).toNat ∨ p + 1 ≤ (p + 3) ∧ (p + 3) ≤ p + 5 by omega)
            refine to_an (pc := 10) rw_40_10 rfl ?_
            refine s_gR (pc := 11) rw_40_11 hG313 (by rcases hp with rfl | rfl <;> rfl) (v := (p + 4)) (by rcases hp with rfl | rfl <;> rfl) ?_
            refine to_an (pc := 14) rw_40_14 rfl ?_
            have c_315 : M312.2.1 p 2 = (M.2.1 p 2) := (W_n W311 (by omega) c_310)
            refine tt_gI (pc := 15) rw_40_15 (g_o hG313 (by rcases hp with rfl | rfl <;> rfl)) (v := (M.2.1 p 2)) c_315 ?_
            refine to_in (pc := 18) rw_40_18 rfl ?_
            refine s_ias (pc := 19) rw_40_19 hG313 (by rcases hp with rfl | rfl <;> rfl) (n := 8) (by rcases hp with rfl | rfl <;> rfl) (A := (M.2.1 p 2).toInt) rfl (by omega) (by omega) (fun M317 W316 => ?_)
            have hG318 := g_w hG313 W316 (A := v261.toInt) rfl (lo := 0) (hi := 63) (by rcases hp with rfl | rfl <;> rfl) (by rcases hp with rfl | rfl <;> rfl) (by omega) (by omega)
            have F319 := FR.w F314 W316 (show (p + 4) = 1 ∧ 6 ≤ ((M.2.1 p 2).toInt).toNat ∧ ((M.2.1 p 2).toInt).toNat ≤ 11 ∨ (p + 4) = p ∧ 2 ≤ ((M.2.1 p 2).toInt).toNat ∨ p + 1 ≤ (p + 4) ∧ (p + 4) ≤ p + 5 by omega)
            refine to_an (pc := 20) rw_40_20 rfl ?_
            refine s_gR (pc := 21) rw_40_21 hG318 (by rcases hp with rfl | rfl <;> rfl) (v := (p + 5)) (by rcases hp with rfl | rfl <;> rfl) ?_
            refine to_an (pc := 24) rw_40_24 rfl ?_
            have c_320 : M317.2.1 p 2 = (M.2.1 p 2) := (W_n W316 (by omega) c_315)
            refine tt_gI (pc := 25) rw_40_25 (g_o hG318 (by rcases hp with rfl | rfl <;> rfl)) (v := (M.2.1 p 2)) c_320 ?_
            refine to_in (pc := 28) rw_40_28 rfl ?_
            refine s_ias (pc := 29) rw_40_29 hG318 (by rcases hp with rfl | rfl <;> rfl) (n := 8) (by rcases hp with rfl | rfl <;> rfl) (A := (M.2.1 p 2).toInt) rfl (by omega) (by omega) (fun M322 W321 => ?_)
            have hG323 := g_w hG318 W321 (A := 10) rfl (lo := 0) (hi := 24) (by rcases hp with rfl | rfl <;> rfl) (by rcases hp with rfl | rfl <;> rfl) (by omega) (by omega)
            have F324 := FR.w F319 W321 (show (p + 5) = 1 ∧ 6 ≤ ((M.2.1 p 2).toInt).toNat ∧ ((M.2.1 p 2).toInt).toNat ≤ 11 ∨ (p + 5) = p ∧ 2 ≤ ((M.2.1 p 2).toInt).toNat ∨ p + 1 ≤ (p + 5) ∧ (p + 5) ≤ p + 5 by omega)
            refine to_rv (pc := 30) rw_40_30 ?_
            refine to_c (pc := 52) rw_37_52 (x := (1 : Int32)) rfl rfl ?_
            refine s_r1 (pc := 53) rw_37_53 (A := 1) rfl (by omega) ?_
            refine to_isn (pc := 101) rw_33_101 (ls2 := [.ref p, .ref 1, .int r53, .int (1 : Int32)]) rfl rfl ?_
            refine to_go (pc := 102) rw_33_102 ?_
            refine to_in (pc := 140) rw_33_140 rfl ?_
            refine b_ine_t (pc := 141) rw_33_141 (A := 1) rfl (by omega) ?_
            refine to_an (pc := 146) rw_33_146 rfl ?_
            refine to_dupr (pc := 147) rw_33_147 ?_
            refine tt_gJ (pc := 148) rw_33_148 (g_o hG323 (by rcases hp with rfl | rfl <;> rfl)) (v := (M.2.2.1 p 4)) (W_j W321 (W_j W316 (W_j W311 (F_nl F304 (show ¬ (p = 1 ∧ 6 ≤ 4 ∧ 4 ≤ 9) by omega) (F_nl F288 (show ¬ (p = 1 ∧ (4 = 10 ∨ 4 = 11)) by omega) (F_nl F268 (show ¬ (p = 1 ∧ (4 = 10 ∨ 4 = 11)) by omega) (F_nl F253 (show ¬ (p = 1 ∧ 6 ≤ 4 ∧ 4 ≤ 9) by omega) (W_j W246 (F_nl F54 (show ¬ (p < 0) by omega) (F_nl F47 (show ¬ (p = 1 ∧ 6 ≤ 4 ∧ 4 ≤ 9) by omega) (W_j W40 (F_nl F23 (show ¬ (p = 1 ∧ (4 = 10 ∨ 4 = 11)) by omega) (F_nl F15 (show ¬ (p = 1 ∧ 6 ≤ 4 ∧ 4 ≤ 9) by omega) rfl))))))))))))) ?_
            refine to_an (pc := 151) rw_33_151 rfl ?_
            refine s_gR (pc := 152) rw_33_152 hG323 (by rcases hp with rfl | rfl <;> rfl) (v := (p + 3)) (by rcases hp with rfl | rfl <;> rfl) ?_
            refine to_an (pc := 155) rw_33_155 rfl ?_
            have c_325 : M322.2.1 p 2 = (M.2.1 p 2) := (W_n W321 (by omega) c_320)
            refine tt_gI (pc := 156) rw_33_156 (g_o hG323 (by rcases hp with rfl | rfl <;> rfl)) (v := (M.2.1 p 2)) c_325 ?_
            refine s_ialk (pc := 159) rw_33_159 hG323 (by rcases hp with rfl | rfl <;> rfl) (n := 8) (by rcases hp with rfl | rfl <;> rfl) (by rcases hp with rfl | rfl <;> rfl) (A := (M.2.1 p 2).toInt) rfl (by omega) (by omega) (v := (M257.2.1 1 8)) (W_n W321 (by omega) (W_n W316 (by omega) (W_e W311))) ?_
            refine to_an (pc := 160) rw_33_160 rfl ?_
            refine s_gR (pc := 161) rw_33_161 hG323 (by rcases hp with rfl | rfl <;> rfl) (v := (p + 4)) (by rcases hp with rfl | rfl <;> rfl) ?_
            refine to_an (pc := 164) rw_33_164 rfl ?_
            refine tt_gI (pc := 165) rw_33_165 (g_o hG323 (by rcases hp with rfl | rfl <;> rfl)) (v := (M.2.1 p 2)) c_325 ?_
            refine s_ialk (pc := 168) rw_33_168 hG323 (by rcases hp with rfl | rfl <;> rfl) (n := 8) (by rcases hp with rfl | rfl <;> rfl) (by rcases hp with rfl | rfl <;> rfl) (A := (M.2.1 p 2).toInt) rfl (by omega) (by omega) (v := v261) (W_n W321 (by omega) (W_e W316)) ?_
            refine s_s (pc := 169) rw_33_169 (by omega) (ls0 := [.int (M257.2.1 1 8), .int v261]) rfl (Nat.le_of_ble_eq_true rfl) (Nat.le_of_ble_eq_true rfl) rfl (to_rcs rfl rfl) rfl ?_
            refine to_cl (pc := 0) rw_144_0 rfl (x := (1 : Int64)) rfl ?_
            refine to_in (pc := 1) rw_144_1 rfl ?_
            refine to_in (pc := 2) rw_144_2 rfl ?_
            refine s_sub (pc := 3) rw_144_3 (A := v261.toInt) (B := (M257.2.1 1 8).toInt) rfl rfl (by omega) (fun v330 e331 => ?_)
            refine to_c (pc := 4) rw_144_4 (x := (1 : Int32)) rfl rfl ?_
            refine s_add (pc := 5) rw_144_5 (A := v330.toInt) (B := 1) rfl rfl (by omega) (fun v332 e333 => ?_)
            refine to_2s (pc := 6) rw_144_6 (v := ((1 : Int64) <<< (v332.toInt64 &&& 63))) rfl ?_
            refine to_cl (pc := 7) rw_144_7 rfl (x := (1 : Int64)) rfl ?_
            refine to_2l (pc := 8) rw_144_8 (v := (((1 : Int64) <<< (v332.toInt64 &&& 63)) - (1 : Int64))) rfl ?_
            refine to_in (pc := 9) rw_144_9 rfl ?_
            refine to_2s (pc := 10) rw_144_10 (v := ((((1 : Int64) <<< (v332.toInt64 &&& 63)) - (1 : Int64)) <<< ((M257.2.1 1 8).toInt64 &&& 63))) rfl ?_
            refine to_rl (pc := 11) rw_144_11 ?_
            refine to_2l (pc := 172) rw_33_172 (v := ((M.2.2.1 p 4) ||| ((((1 : Int64) <<< (v332.toInt64 &&& 63)) - (1 : Int64)) <<< ((M257.2.1 1 8).toInt64 &&& 63)))) rfl ?_
            have j_334 := (PLc_f (fun a i z => W_n W321 (by omega) rfl) (W_j W321 rfl) (PLc_f (fun a i z => W_n W316 (by omega) rfl) (W_j W316 rfl) (PLc_f (fun a i z => W_n W311 (by omega) rfl) (W_j W311 rfl) (PLc_f (fun a i z => F_n F304 (show ¬ (a = 1 ∧ 6 ≤ i ∧ i ≤ 9) by omega) rfl) (F_nl F304 (show ¬ (p = 1 ∧ 6 ≤ 4 ∧ 4 ≤ 9) by omega) rfl) (PLc_f (fun a i z => F_n F288 (show ¬ (a = 1 ∧ (i = 10 ∨ i = 11)) by omega) rfl) (F_nl F288 (show ¬ (p = 1 ∧ (4 = 10 ∨ 4 = 11)) by omega) rfl) j_286)))))
            have r_335 : (M322.2.1 (p + 1) sg.2.1.toNat).toInt = (M19.2.1 1 8).toInt := by rw [show sg.2.1.toNat = ((M.2.1 p 2).toInt).toNat by omega, show M322.2.1 (p + 1) ((M.2.1 p 2).toInt).toNat = (M19.2.1 1 8) from (W_n W321 (by omega) (W_n W316 (by omega) (W_n W311 (by omega) (F_n F304 (show ¬ ((p + 1) = 1 ∧ 6 ≤ ((M.2.1 p 2).toInt).toNat ∧ ((M.2.1 p 2).toInt).toNat ≤ 9) by omega) (F_n F288 (show ¬ ((p + 1) = 1 ∧ (((M.2.1 p 2).toInt).toNat = 10 ∨ ((M.2.1 p 2).toInt).toNat = 11)) by omega) (F_n F268 (show ¬ ((p + 1) = 1 ∧ (((M.2.1 p 2).toInt).toNat = 10 ∨ ((M.2.1 p 2).toInt).toNat = 11)) by omega) (F_n F253 (show ¬ ((p + 1) = 1 ∧ 6 ≤ ((M.2.1 p 2).toInt).toNat ∧ ((M.2.1 p 2).toInt).toNat ≤ 9) by omega) (W_n W246 (by omega) (F_n F54 (show ¬ ((p + 1) < 0) by omega) (F_n F47 (show ¬ ((p + 1) = 1 ∧ 6 ≤ ((M.2.1 p 2).toInt).toNat ∧ ((M.2.1 p 2).toInt).toNat ≤ 9) by omega) (W_e W40)))))))))))]
            have r_336 : (M322.2.1 (p + 2) sg.2.1.toNat).toInt = r53.toInt := by rw [show sg.2.1.toNat = ((M.2.1 p 2).toInt).toNat by omega, show M322.2.1 (p + 2) ((M.2.1 p 2).toInt).toNat = r53 from (W_n W321 (by omega) (W_n W316 (by omega) (W_n W311 (by omega) (F_n F304 (show ¬ ((p + 2) = 1 ∧ 6 ≤ ((M.2.1 p 2).toInt).toNat ∧ ((M.2.1 p 2).toInt).toNat ≤ 9) by omega) (F_n F288 (show ¬ ((p + 2) = 1 ∧ (((M.2.1 p 2).toInt).toNat = 10 ∨ ((M.2.1 p 2).toInt).toNat = 11)) by omega) (F_n F268 (show ¬ ((p + 2) = 1 ∧ (((M.2.1 p 2).toInt).toNat = 10 ∨ ((M.2.1 p 2).toInt).toNat = 11)) by omega) (F_n F253 (show ¬ ((p + 2) = 1 ∧ 6 ≤ ((M.2.1 p 2).toInt).toNat ∧ ((M.2.1 p 2).toInt).toNat ≤ 9) by omega) (W_e W246))))))))]
            have r_337 : (M322.2.1 (p + 3) sg.2.1.toNat).toInt = (M257.2.1 1 8).toInt := by rw [show sg.2.1.toNat = ((M.2.1 p 2).toInt).toNat by omega, show M322.2.1 (p + 3) ((M.2.1 p 2).toInt).toNat = (M257.2.1 1 8) from (W_n W321 (by omega) (W_n W316 (by omega) (W_e W311)))]
            have r_338 : (M322.2.1 (p + 4) sg.2.1.toNat).toInt = v261.toInt := by rw [show sg.2.1.toNat = ((M.2.1 p 2).toInt).toNat by omega, show M322.2.1 (p + 4) ((M.2.1 p 2).toInt).toNat = v261 from (W_n W321 (by omega) (W_e W316))]
            have k_339 : (10 : Int32).toInt = 10 := rfl
            have r_340 : (M322.2.1 (p + 5) sg.2.1.toNat).toInt = (10 : Int32).toInt := by rw [show sg.2.1.toNat = ((M.2.1 p 2).toInt).toNat by omega, show M322.2.1 (p + 5) ((M.2.1 p 2).toInt).toNat = (10 : Int32) from (W_e W321)]
            refine s_pJ (pc := 173) rw_33_173 hG323 (by rcases hp with rfl | rfl <;> rfl) (fun M342 W341 => ?_)
            have hG343 := g_wl hG323 W341
            have F344 := FR.wl F324 W341 (show p = 1 ∧ 6 ≤ 4 ∧ 4 ≤ 11 ∨ p = p ∧ 2 ≤ 4 ∨ p + 1 ≤ p ∧ p ≤ p + 5 by omega)
            refine to_an (pc := 176) rw_33_176 rfl ?_
            refine to_dupr (pc := 177) rw_33_177 ?_
            have c_345 : M342.2.1 p 2 = (M.2.1 p 2) := (W_l W341 c_325)
            refine tt_gI (pc := 178) rw_33_178 (g_o hG343 (by rcases hp with rfl | rfl <;> rfl)) (v := (M.2.1 p 2)) c_345 ?_
            refine to_c (pc := 181) rw_33_181 (x := (1 : Int32)) rfl rfl ?_
            refine s_add (pc := 182) rw_33_182 (A := (M.2.1 p 2).toInt) (B := 1) rfl rfl (by omega) (fun v346 e347 => ?_)
            refine s_pI (pc := 183) rw_33_183 hG343 (by rcases hp with rfl | rfl <;> rfl) (fun M349 W348 => ?_)
            have hG350 := g_w hG343 W348 (A := v346.toInt) rfl (lo := 0) (hi := 8) (by rcases hp with rfl | rfl <;> rfl) (by rcases hp with rfl | rfl <;> rfl) (by omega) (by omega)
            have F351 := FR.w F344 W348 (show p = 1 ∧ 6 ≤ 2 ∧ 2 ≤ 11 ∨ p = p ∧ 2 ≤ 2 ∨ p + 1 ≤ p ∧ p ≤ p + 5 by omega)
            refine to_c (pc := 186) rw_33_186 (x := (1 : Int32)) rfl rfl ?_
            refine s_r1 (pc := 187) rw_33_187 (A := 1) rfl (by omega) ?_
            have k_352 : (1 : Int32).toInt = 1 := rfl
            have j_353 := (CS_f (fun a i z => W_n W348 (by omega) rfl) (CS_f (fun a i z => W_l W341 rfl) (CS_f (fun a i z => W_n W321 (by omega) rfl) (CS_f (fun a i z => W_n W316 (by omega) rfl) (CS_f (fun a i z => W_n W311 (by omega) rfl) p_306)))))
            have c_354 : M349.2.1 1 9 = (M308.2.1 1 9) := (W_n W348 (by omega) (W_l W341 (W_n W321 (by omega) (W_n W316 (by omega) (W_n W311 (by omega) rfl)))))
            have t_355 : (M349.2.1 1 9).toInt = (M308.2.1 1 9).toInt := congrArg Int32.toInt c_354
            have z_356 : x_fC t nn sg (x_ns t nn a) := by unfold x_fC; omega
            have j_357 := PLc_p (nm := (x_val t nn (x_ns t nn a))) (kd := ((x_kx (x_val t nn (x_ns t nn (x_ns t nn a)))) - 3)) (f := (x_val t nn (x_ns t nn (x_ns t nn (x_ns t nn a))))) (l := ((x_val t nn (x_ns t nn (x_ns t nn (x_ns t nn a)))) + ((x_kx (x_val t nn (x_ns t nn (x_ns t nn a)))) - 1))) (c := 10) j_334 W341 W348 (x_or_e q3 (by omega) (by omega)) (by omega) (by omega) (r_335.trans (by omega)) (r_336.trans (by omega)) (r_337.trans (by omega)) (r_338.trans (by omega)) (r_340.trans (by omega)) (by omega) (by omega) (by omega) (by omega)
            have j_358 := (CW_f (fun k hk9 => W_j W348 rfl) (CW_f (fun k hk9 => L_n W341 (by omega) rfl) (CW_f (fun k hk9 => W_j W321 rfl) (CW_f (fun k hk9 => W_j W316 rfl) (CW_f (fun k hk9 => W_j W311 rfl) (CW_f (fun k hk9 => F_nl F304 (show ¬ ((p + 8) = 1 ∧ 6 ≤ k ∧ k ≤ 9) by omega) rfl) (CW_f (fun k hk9 => F_nl F288 (show ¬ ((p + 8) = 1 ∧ (k = 10 ∨ k = 11)) by omega) rfl) (CW_f (fun k hk9 => F_nl F268 (show ¬ ((p + 8) = 1 ∧ (k = 10 ∨ k = 11)) by omega) rfl) (CW_f (fun k hk9 => F_nl F253 (show ¬ ((p + 8) = 1 ∧ 6 ≤ k ∧ k ≤ 9) by omega) rfl) (CW_f (fun k hk9 => W_j W246 rfl) (CW_f (fun k hk9 => F_nl F54 (show ¬ ((p + 8) < 0) by omega) rfl) (CW_f (fun k hk9 => F_nl F47 (show ¬ ((p + 8) = 1 ∧ 6 ≤ k ∧ k ≤ 9) by omega) rfl) (CW_f (fun k hk9 => W_j W40 rfl) (CW_f (fun k hk9 => F_nl F23 (show ¬ ((p + 8) = 1 ∧ (k = 10 ∨ k = 11)) by omega) rfl) (CW_f (fun k hk9 => F_nl F15 (show ¬ ((p + 8) = 1 ∧ 6 ≤ k ∧ k ≤ 9) by omega) rfl) q4)))))))))))))))
            exact h (1 : Int32) M349 hG350 F351 (by omega) (by omega) j_353 (fun z => absurd z (by decide)) (fun _ => ⟨_, (by rw [show (M349.2.1 1 9).toInt = (x_ns t nn (x_ns t nn (x_ns t nn (x_ns t nn a)))) by omega]; exact x_field_d z_356 (by omega)), ⟨j_357, CW_p j_358⟩, (by show sg.2.1 + 1 + sg.2.2.1 = _; omega)⟩)
      · skip
        have p_359 := p_59 (by omega)
        clear p_58 p_59
        refine to_isn (pc := 50) rw_33_50 (ls2 := [.ref p, .ref 1, .int r53, .null]) rfl rfl ?_
        refine to_in (pc := 51) rw_33_51 rfl ?_
        refine to_c (pc := 52) rw_33_52 (x := (-1 : Int32)) rfl rfl ?_
        refine b_cne_t (pc := 53) rw_33_53 (A := r53.toInt) (B := -1) rfl rfl (by omega) ?_
        refine to_an (pc := 62) rw_33_62 rfl ?_
        refine s_gR (pc := 63) rw_33_63 hG55 (by rcases hp with rfl | rfl <;> rfl) (v := (p + 2)) (by rcases hp with rfl | rfl <;> rfl) ?_
        refine to_an (pc := 66) rw_33_66 rfl ?_
        have c_360 : M60.2.1 p 2 = (M.2.1 p 2) := (F_n F54 (show ¬ (p < 0) by omega) (F_n F47 (show ¬ (p = 1 ∧ 6 ≤ 2 ∧ 2 ≤ 9) by omega) (W_n W40 (by omega) c_38)))
        refine tt_gI (pc := 67) rw_33_67 (g_o hG55 (by rcases hp with rfl | rfl <;> rfl)) (v := (M.2.1 p 2)) c_360 ?_
        refine to_in (pc := 70) rw_33_70 rfl ?_
        refine s_ias (pc := 71) rw_33_71 hG55 (by rcases hp with rfl | rfl <;> rfl) (n := 8) (by rcases hp with rfl | rfl <;> rfl) (A := (M.2.1 p 2).toInt) rfl (by omega) (by omega) (fun M362 W361 => ?_)
        have hG363 := g_w hG55 W361 (A := r53.toInt) rfl (lo := 0) (hi := 3) (by rcases hp with rfl | rfl <;> rfl) (by rcases hp with rfl | rfl <;> rfl) (by omega) (by omega)
        have F364 := FR.w F61 W361 (show (p + 2) = 1 ∧ 6 ≤ ((M.2.1 p 2).toInt).toNat ∧ ((M.2.1 p 2).toInt).toNat ≤ 11 ∨ (p + 2) = p ∧ 2 ≤ ((M.2.1 p 2).toInt).toNat ∨ p + 1 ≤ (p + 2) ∧ (p + 2) ≤ p + 5 by omega)
        refine to_an (pc := 72) rw_33_72 rfl ?_
        refine s_v (pc := 73) rw_33_73 (by omega) (ls0 := [.ref 1]) rfl (Nat.le_of_ble_eq_true rfl) (Nat.le_of_ble_eq_true rfl) rfl (to_rc rfl rfl rfl (g_o hG363 rfl)) rfl ?_
        have j_365 := (CS_f (fun a i z => W_n W361 (by omega) rfl) (CS_f (tg_8 F54) p_49))
        have c_366 : M362.2.1 1 9 = (M51.2.1 1 9) := (W_n W361 (by omega) (F_n F54 (show ¬ (1 < 0) by decide) rfl))
        have t_367 : (M362.2.1 1 9).toInt = (M51.2.1 1 9).toInt := congrArg Int32.toInt c_366
        refine E_83 hX (by omega) hG363 j_365 (by omega) (t := t) (nn := nn) (a := (x_ns t nn (x_ns t nn a))) (fun M372 hG369 F368 p_370 p_371 => ?_)
        have F373 := FR.c F364 F368 (fun a i z => show a = 1 ∧ 6 ≤ i ∧ i ≤ 11 ∨ a = p ∧ 2 ≤ i ∨ p + 1 ≤ a ∧ a ≤ p + 5 by have z : a = 1 ∧ 6 ≤ i ∧ i ≤ 9 := z; omega)
        refine to_in (pc := 76) rw_33_76 rfl ?_
        refine to_c (pc := 77) rw_33_77 (x := (1 : Int32)) rfl rfl ?_
        refine b_ceq_f (pc := 78) rw_33_78 (A := r53.toInt) (B := 1) rfl rfl (by omega) ?_
        refine to_in (pc := 81) rw_33_81 rfl ?_
        refine to_c (pc := 82) rw_33_82 (x := (2 : Int32)) rfl rfl ?_
        refine b_cne_f (pc := 83) rw_33_83 (A := r53.toInt) (B := 2) rfl rfl (by omega) ?_
        refine to_an (pc := 86) rw_33_86 rfl ?_
        refine to_an (pc := 87) rw_33_87 rfl ?_
        refine to_in (pc := 88) rw_33_88 rfl ?_
        refine to_c (pc := 89) rw_33_89 (x := (1 : Int32)) rfl rfl ?_
        refine b_cne_t (pc := 90) rw_33_90 (A := r53.toInt) (B := 1) rfl rfl (by omega) ?_
        refine to_c (pc := 97) rw_33_97 (x := (5 : Int32)) rfl rfl ?_
        refine s_v (pc := 98) rw_33_98 (by omega) (ls0 := [.ref p, .ref 1, .int (5 : Int32), .null, .null]) rfl (Nat.le_of_ble_eq_true rfl) (Nat.le_of_ble_eq_true rfl) rfl (to_rc rfl rfl rfl (g_o hG369 (by rcases hp with rfl | rfl <;> rfl))) rfl ?_
        refine to_an (pc := 0) rw_37_0 rfl ?_
        refine tt_gI (pc := 1) rw_37_1 (g_o hG369 rfl) (v := (M372.2.1 1 8)) rfl ?_
        refine to_isn (pc := 4) rw_37_4 (ls2 := [.ref p, .ref 1, .int (5 : Int32), .int (M372.2.1 1 8), .null]) rfl rfl ?_
        refine to_in (pc := 5) rw_37_5 rfl ?_
        refine to_in (pc := 6) rw_37_6 rfl ?_
        refine s_addo (pc := 7) rw_37_7 (A := (M372.2.1 1 8).toInt) (B := 5) rfl rfl (fun v374 e375 => ?_)
        refine to_c (pc := 8) rw_37_8 (x := (1 : Int32)) rfl rfl ?_
        refine s_subo (pc := 9) rw_37_9 (A := v374.toInt) (B := 1) rfl rfl (fun v376 e377 => ?_)
        refine to_is (pc := 10) rw_37_10 (ls2 := [.ref p, .ref 1, .int (5 : Int32), .int (M372.2.1 1 8), .int v376]) rfl rfl ?_
        refine to_an (pc := 12) rw_37_12 rfl ?_
        refine to_c (pc := 13) rw_37_13 (x := (0 : Int32)) rfl rfl ?_
        refine to_an (pc := 14) rw_37_14 rfl ?_
        have c_378 : M372.2.1 p 0 = (M.2.1 p 0) := (F_n F368 (show ¬ (p = 1 ∧ 6 ≤ 0 ∧ 0 ≤ 9) by omega) (W_n W361 (by omega) (F_n F54 (show ¬ (p < 0) by omega) (F_n F47 (show ¬ (p = 1 ∧ 6 ≤ 0 ∧ 0 ≤ 9) by omega) (W_n W40 (by omega) (F_n F23 (show ¬ (p = 1 ∧ (0 = 10 ∨ 0 = 11)) by omega) (F_n F15 (show ¬ (p = 1 ∧ 6 ≤ 0 ∧ 0 ≤ 9) by omega) rfl)))))))
        refine tt_gI (pc := 15) rw_37_15 (g_o hG369 (by rcases hp with rfl | rfl <;> rfl)) (v := (M.2.1 p 0)) c_378 ?_
        refine to_in (pc := 18) rw_37_18 rfl ?_
        refine s_sub (pc := 19) rw_37_19 (A := (M.2.1 p 0).toInt) (B := 5) rfl rfl (by omega) (fun v379 e380 => ?_)
        refine s_v (pc := 20) rw_37_20 (by omega) (ls0 := [.ref 1, .int (0 : Int32), .int v379]) rfl (Nat.le_of_ble_eq_true rfl) (Nat.le_of_ble_eq_true rfl) rfl (to_rc rfl rfl rfl (g_o hG369 rfl)) rfl ?_
        have k_381 : (0 : Int32).toInt = 0 := rfl
        refine E_88 hX (by omega) hG369 p_370 (by omega) (l := (0 : Int32)) (m := v379) (t := t) (nn := nn) (a := (x_ns t nn (x_ns t nn (x_ns t nn a)))) (fun r382 M389 hG384 F383 p_385 p_386 p_387 p_388 => ?_)
        have F390 := FR.c F373 F383 (fun a i z => show a = 1 ∧ 6 ≤ i ∧ i ≤ 11 ∨ a = p ∧ 2 ≤ i ∨ p + 1 ≤ a ∧ a ≤ p + 5 by have z : a = 1 ∧ (i = 10 ∨ i = 11) := z; omega)
        rcases (show r382.toInt = 0 ∨ r382.toInt = 1 by omega) with h391 | h391
        · skip
          have p_392 := p_388 (by omega)
          clear p_387 p_388
          have z_393 := x_val_b (t := t) (nn := nn) (a := (x_ns t nn (x_ns t nn (x_ns t nn a))))
          refine b_ieq_t (pc := 23) rw_37_23 (A := r382.toInt) rfl (by omega) ?_
          refine to_c (pc := 37) rw_37_37 (x := (0 : Int32)) rfl rfl ?_
          refine s_r1 (pc := 38) rw_37_38 (A := 0) rfl (by omega) ?_
          refine to_isn (pc := 101) rw_33_101 (ls2 := [.ref p, .ref 1, .int r53, .int (0 : Int32)]) rfl rfl ?_
          refine to_go (pc := 102) rw_33_102 ?_
          refine to_in (pc := 140) rw_33_140 rfl ?_
          refine b_ine_f (pc := 141) rw_33_141 (A := 0) rfl (by omega) ?_
          refine to_c (pc := 144) rw_33_144 (x := (0 : Int32)) rfl rfl ?_
          refine s_r1 (pc := 145) rw_33_145 (A := 0) rfl (by omega) ?_
          have j_394 := (CS_f (tg_12 F383) p_370)
          exact h (0 : Int32) M389 hG384 F390 (by omega) (by omega) j_394 (fun _ => x_field_n (fun h9 => by unfold x_fC at h9; omega)) (fun z => absurd z (by decide))
        · skip
          have p_395 := p_387 (by omega)
          clear p_387 p_388
          have c_396 : M389.2.1 1 8 = (M372.2.1 1 8) := (F_n F383 (show ¬ (1 = 1 ∧ (8 = 10 ∨ 8 = 11)) by decide) rfl)
          have z_397 := x_val_b (t := t) (nn := nn) (a := (x_ns t nn (x_ns t nn (x_ns t nn a)))) (by omega)
          refine b_ieq_f (pc := 23) rw_37_23 (A := r382.toInt) rfl (by omega) ?_
          refine to_an (pc := 26) rw_37_26 rfl ?_
          refine to_an (pc := 27) rw_37_27 rfl ?_
          refine to_in (pc := 28) rw_37_28 rfl ?_
          refine to_i (pc := 29) rw_37_29 rfl ?_
          refine s_v (pc := 31) rw_37_31 (by omega) (ls0 := [.ref p, .ref 1, .int (M372.2.1 1 8), .int v376]) rfl (Nat.le_of_ble_eq_true rfl) (Nat.le_of_ble_eq_true rfl) rfl (to_rc rfl rfl rfl (g_o hG384 (by rcases hp with rfl | rfl <;> rfl))) rfl ?_
          have j_398 := (CS_f (tg_12 F383) p_370)
          have c_399 : M389.2.1 1 9 = (M372.2.1 1 9) := (F_n F383 (show ¬ (1 = 1 ∧ (9 = 10 ∨ 9 = 11)) by decide) rfl)
          have t_400 : (M389.2.1 1 9).toInt = (M372.2.1 1 9).toInt := congrArg Int32.toInt c_399
          have j_401 := (PLc_f (fun a i z => F_n F383 (show ¬ (a = 1 ∧ (i = 10 ∨ i = 11)) by omega) rfl) (F_nl F383 (show ¬ (p = 1 ∧ (4 = 10 ∨ 4 = 11)) by omega) rfl) (PLc_f (fun a i z => F_n F368 (show ¬ (a = 1 ∧ 6 ≤ i ∧ i ≤ 9) by omega) rfl) (F_nl F368 (show ¬ (p = 1 ∧ 6 ≤ 4 ∧ 4 ≤ 9) by omega) rfl) (PLc_f (fun a i z => W_n W361 (by omega) rfl) (W_j W361 rfl) (PLc_f (fun a i z => F_n F54 (show ¬ (a < 0) by omega) rfl) (F_nl F54 (show ¬ (p < 0) by omega) rfl) (PLc_f (fun a i z => F_n F47 (show ¬ (a = 1 ∧ 6 ≤ i ∧ i ≤ 9) by omega) rfl) (F_nl F47 (show ¬ (p = 1 ∧ 6 ≤ 4 ∧ 4 ≤ 9) by omega) rfl) (PLc_f (fun a i z => W_n W40 (by omega) rfl) (W_j W40 rfl) (PLc_f (fun a i z => F_n F23 (show ¬ (a = 1 ∧ (i = 10 ∨ i = 11)) by omega) rfl) (F_nl F23 (show ¬ (p = 1 ∧ (4 = 10 ∨ 4 = 11)) by omega) rfl) j_21)))))))
          refine E_39 hX (by omega) hG384 hp j_398 (by omega) j_401 (by omega) (by omega) (by omega) (by omega) (by omega) (p := p) (f := (M372.2.1 1 8)) (l := v376) (t := t) (nn := nn) (a := (x_ns t nn (x_ns t nn (x_ns t nn a)))) (sg := sg) (fun r402 M409 hG404 F403 p_405 p_406 p_407 p_408 => ?_)
          have F410 := FR.c F390 F403 (fun a i z => show a = 1 ∧ 6 ≤ i ∧ i ≤ 11 ∨ a = p ∧ 2 ≤ i ∨ p + 1 ≤ a ∧ a ≤ p + 5 by have z : a = 1 ∧ (i = 10 ∨ i = 11) := z; omega)
          have z_411 := x_free_v (s := sg) (f := (M372.2.1 1 8).toInt) (l := v376.toInt) (f2 := (x_val t nn (x_ns t nn (x_ns t nn (x_ns t nn a))))) (l2 := ((x_val t nn (x_ns t nn (x_ns t nn (x_ns t nn a)))) + ((x_kx (x_val t nn (x_ns t nn (x_ns t nn a)))) - 1))) (by omega) (by omega)
          rcases (show r402.toInt = 0 ∨ r402.toInt = 1 by omega) with h412 | h412
          · skip
            have p_413 := p_408 (by omega)
            clear p_407 p_408
            refine b_ine_f (pc := 34) rw_37_34 (A := r402.toInt) rfl (by omega) ?_
            refine to_c (pc := 37) rw_37_37 (x := (0 : Int32)) rfl rfl ?_
            refine s_r1 (pc := 38) rw_37_38 (A := 0) rfl (by omega) ?_
            refine to_isn (pc := 101) rw_33_101 (ls2 := [.ref p, .ref 1, .int r53, .int (0 : Int32)]) rfl rfl ?_
            refine to_go (pc := 102) rw_33_102 ?_
            refine to_in (pc := 140) rw_33_140 rfl ?_
            refine b_ine_f (pc := 141) rw_33_141 (A := 0) rfl (by omega) ?_
            refine to_c (pc := 144) rw_33_144 (x := (0 : Int32)) rfl rfl ?_
            refine s_r1 (pc := 145) rw_33_145 (A := 0) rfl (by omega) ?_
            have j_414 := (CS_f (tg_12 F403) j_398)
            exact h (0 : Int32) M409 hG404 F410 (by omega) (by omega) j_414 (fun _ => x_field_n (fun h9 => by unfold x_fC at h9; omega)) (fun z => absurd z (by decide))
          · skip
            have p_415 := p_407 (by omega)
            clear p_407 p_408
            refine b_ine_t (pc := 34) rw_37_34 (A := r402.toInt) rfl (by omega) ?_
            refine to_an (pc := 39) rw_37_39 rfl ?_
            refine s_v (pc := 40) rw_37_40 (by omega) (ls0 := [.ref 1]) rfl (Nat.le_of_ble_eq_true rfl) (Nat.le_of_ble_eq_true rfl) rfl (to_rc rfl rfl rfl (g_o hG404 rfl)) rfl ?_
            have j_416 := (CS_f (tg_12 F403) j_398)
            have c_417 : M409.2.1 1 9 = (M372.2.1 1 9) := (F_n F403 (show ¬ (1 = 1 ∧ (9 = 10 ∨ 9 = 11)) by decide) c_399)
            have t_418 : (M409.2.1 1 9).toInt = (M372.2.1 1 9).toInt := congrArg Int32.toInt c_417
            refine E_83 hX (by omega) hG404 j_416 (by omega) (t := t) (nn := nn) (a := (x_ns t nn (x_ns t nn (x_ns t nn a)))) (fun M423 hG420 F419 p_421 p_422 => ?_)
            have F424 := FR.c F410 F419 (fun a i z => show a = 1 ∧ 6 ≤ i ∧ i ≤ 11 ∨ a = p ∧ 2 ≤ i ∨ p + 1 ≤ a ∧ a ≤ p + 5 by have z : a = 1 ∧ 6 ≤ i ∧ i ≤ 9 := z; omega)
            refine to_an (pc := 43) rw_37_43 rfl ?_
            refine to_in (pc := 44) rw_37_44 rfl ?_
            refine to_i (pc := 45) rw_37_45 rfl ?_
            refine to_c (pc := 47) rw_37_47 (x := (10 : Int32)) rfl rfl ?_
            refine s_v (pc := 49) rw_37_49 (by omega) (ls0 := [.ref p, .int (M372.2.1 1 8), .int v376, .int (10 : Int32)]) rfl (Nat.le_of_ble_eq_true rfl) (Nat.le_of_ble_eq_true rfl) rfl (to_rc rfl rfl rfl (g_o hG420 (by rcases hp with rfl | rfl <;> rfl))) rfl ?_
            refine to_an (pc := 0) rw_40_0 rfl ?_
            refine s_gR (pc := 1) rw_40_1 hG420 (by rcases hp with rfl | rfl <;> rfl) (v := (p + 3)) (by rcases hp with rfl | rfl <;> rfl) ?_
            refine to_an (pc := 4) rw_40_4 rfl ?_
            have c_425 : M423.2.1 p 2 = (M.2.1 p 2) := (F_n F419 (show ¬ (p = 1 ∧ 6 ≤ 2 ∧ 2 ≤ 9) by omega) (F_n F403 (show ¬ (p = 1 ∧ (2 = 10 ∨ 2 = 11)) by omega) (F_n F383 (show ¬ (p = 1 ∧ (2 = 10 ∨ 2 = 11)) by omega) (F_n F368 (show ¬ (p = 1 ∧ 6 ≤ 2 ∧ 2 ≤ 9) by omega) (W_n W361 (by omega) c_360)))))
            refine tt_gI (pc := 5) rw_40_5 (g_o hG420 (by rcases hp with rfl | rfl <;> rfl)) (v := (M.2.1 p 2)) c_425 ?_
            refine to_in (pc := 8) rw_40_8 rfl ?_
            refine s_ias (pc := 9) rw_40_9 hG420 (by rcases hp with rfl | rfl <;> rfl) (n := 8) (by rcases hp with rfl | rfl <;> rfl) (A := (M.2.1 p 2).toInt) rfl (by omega) (by omega) (fun M427 W426 => ?_)
            have hG428 := g_w hG420 W426 (A := (M372.2.1 1 8).toInt) rfl (lo := 0) (hi := 59) (by rcases hp with rfl | rfl <;> rfl) (by rcases hp with rfl | rfl <;> rfl) (by omega) (by omega)
            have F429 := FR.w F424 W426 (show (p + 3) = 1 ∧ 6 ≤ ((M.2.1 p 2).toInt).toNat ∧ ((M.2.1 p 2).toInt).toNat ≤ 11 ∨ (p + 3) = p ∧ 2 ≤ ((M.2.1 p 2).toInt).toNat ∨ p + 1 ≤ (p + 3) ∧ (p + 3) ≤ p + 5 by omega)
            refine to_an (pc := 10) rw_40_10 rfl ?_
            refine s_gR (pc := 11) rw_40_11 hG428 (by rcases hp with rfl | rfl <;> rfl) (v := (p + 4)) (by rcases hp with rfl | rfl <;> rfl) ?_
            refine to_an (pc := 14) rw_40_14 rfl ?_
            have c_430 : M427.2.1 p 2 = (M.2.1 p 2) := (W_n W426 (by omega) c_425)
            refine tt_gI (pc := 15) rw_40_15 (g_o hG428 (by rcases hp with rfl | rfl <;> rfl)) (v := (M.2.1 p 2)) c_430 ?_
            refine to_in (pc := 18) rw_40_18 rfl ?_
            refine s_ias (pc := 19) rw_40_19 hG428 (by rcases hp with rfl | rfl <;> rfl) (n := 8) (by rcases hp with rfl | rfl <;> rfl) (A := (M.2.1 p 2).toInt) rfl (by omega) (by omega) (fun M432 W431 => ?_)
            have hG433 := g_w hG428 W431 (A := v376.toInt) rfl (lo := 0) (hi := 63) (by rcases hp with rfl | rfl <;> rfl) (by rcases hp with rfl | rfl <;> rfl) (by omega) (by omega)
            have F434 := FR.w F429 W431 (show (p + 4) = 1 ∧ 6 ≤ ((M.2.1 p 2).toInt).toNat ∧ ((M.2.1 p 2).toInt).toNat ≤ 11 ∨ (p + 4) = p ∧ 2 ≤ ((M.2.1 p 2).toInt).toNat ∨ p + 1 ≤ (p + 4) ∧ (p + 4) ≤ p + 5 by omega)
            refine to_an (pc := 20) rw_40_20 rfl ?_
            refine s_gR (pc := 21) rw_40_21 hG433 (by rcases hp with rfl | rfl <;> rfl) (v := (p + 5)) (by rcases hp with rfl | rfl <;> rfl) ?_
            refine to_an (pc := 24) rw_40_24 rfl ?_
            have c_435 : M432.2.1 p 2 = (M.2.1 p 2) := (W_n W431 (by omega) c_430)
            refine tt_gI (pc := 25) rw_40_25 (g_o hG433 (by rcases hp with rfl | rfl <;> rfl)) (v := (M.2.1 p 2)) c_435 ?_
            refine to_in (pc := 28) rw_40_28 rfl ?_
            refine s_ias (pc := 29) rw_40_29 hG433 (by rcases hp with rfl | rfl <;> rfl) (n := 8) (by rcases hp with rfl | rfl <;> rfl) (A := (M.2.1 p 2).toInt) rfl (by omega) (by omega) (fun M437 W436 => ?_)
            have hG438 := g_w hG433 W436 (A := 10) rfl (lo := 0) (hi := 24) (by rcases hp with rfl | rfl <;> rfl) (by rcases hp with rfl | rfl <;> rfl) (by omega) (by omega)
            have F439 := FR.w F434 W436 (show (p + 5) = 1 ∧ 6 ≤ ((M.2.1 p 2).toInt).toNat ∧ ((M.2.1 p 2).toInt).toNat ≤ 11 ∨ (p + 5) = p ∧ 2 ≤ ((M.2.1 p 2).toInt).toNat ∨ p + 1 ≤ (p + 5) ∧ (p + 5) ≤ p + 5 by omega)
            refine to_rv (pc := 30) rw_40_30 ?_
            refine to_c (pc := 52) rw_37_52 (x := (1 : Int32)) rfl rfl ?_
            refine s_r1 (pc := 53) rw_37_53 (A := 1) rfl (by omega) ?_
            refine to_isn (pc := 101) rw_33_101 (ls2 := [.ref p, .ref 1, .int r53, .int (1 : Int32)]) rfl rfl ?_
            refine to_go (pc := 102) rw_33_102 ?_
            refine to_in (pc := 140) rw_33_140 rfl ?_
            refine b_ine_t (pc := 141) rw_33_141 (A := 1) rfl (by omega) ?_
            refine to_an (pc := 146) rw_33_146 rfl ?_
            refine to_dupr (pc := 147) rw_33_147 ?_
            refine tt_gJ (pc := 148) rw_33_148 (g_o hG438 (by rcases hp with rfl | rfl <;> rfl)) (v := (M.2.2.1 p 4)) (W_j W436 (W_j W431 (W_j W426 (F_nl F419 (show ¬ (p = 1 ∧ 6 ≤ 4 ∧ 4 ≤ 9) by omega) (F_nl F403 (show ¬ (p = 1 ∧ (4 = 10 ∨ 4 = 11)) by omega) (F_nl F383 (show ¬ (p = 1 ∧ (4 = 10 ∨ 4 = 11)) by omega) (F_nl F368 (show ¬ (p = 1 ∧ 6 ≤ 4 ∧ 4 ≤ 9) by omega) (W_j W361 (F_nl F54 (show ¬ (p < 0) by omega) (F_nl F47 (show ¬ (p = 1 ∧ 6 ≤ 4 ∧ 4 ≤ 9) by omega) (W_j W40 (F_nl F23 (show ¬ (p = 1 ∧ (4 = 10 ∨ 4 = 11)) by omega) (F_nl F15 (show ¬ (p = 1 ∧ 6 ≤ 4 ∧ 4 ≤ 9) by omega) rfl))))))))))))) ?_
            refine to_an (pc := 151) rw_33_151 rfl ?_
            refine s_gR (pc := 152) rw_33_152 hG438 (by rcases hp with rfl | rfl <;> rfl) (v := (p + 3)) (by rcases hp with rfl | rfl <;> rfl) ?_
            refine to_an (pc := 155) rw_33_155 rfl ?_
            have c_440 : M437.2.1 p 2 = (M.2.1 p 2) := (W_n W436 (by omega) c_435)
            refine tt_gI (pc := 156) rw_33_156 (g_o hG438 (by rcases hp with rfl | rfl <;> rfl)) (v := (M.2.1 p 2)) c_440 ?_
            refine s_ialk (pc := 159) rw_33_159 hG438 (by rcases hp with rfl | rfl <;> rfl) (n := 8) (by rcases hp with rfl | rfl <;> rfl) (by rcases hp with rfl | rfl <;> rfl) (A := (M.2.1 p 2).toInt) rfl (by omega) (by omega) (v := (M372.2.1 1 8)) (W_n W436 (by omega) (W_n W431 (by omega) (W_e W426))) ?_
            refine to_an (pc := 160) rw_33_160 rfl ?_
            refine s_gR (pc := 161) rw_33_161 hG438 (by rcases hp with rfl | rfl <;> rfl) (v := (p + 4)) (by rcases hp with rfl | rfl <;> rfl) ?_
            refine to_an (pc := 164) rw_33_164 rfl ?_
            refine tt_gI (pc := 165) rw_33_165 (g_o hG438 (by rcases hp with rfl | rfl <;> rfl)) (v := (M.2.1 p 2)) c_440 ?_
            refine s_ialk (pc := 168) rw_33_168 hG438 (by rcases hp with rfl | rfl <;> rfl) (n := 8) (by rcases hp with rfl | rfl <;> rfl) (by rcases hp with rfl | rfl <;> rfl) (A := (M.2.1 p 2).toInt) rfl (by omega) (by omega) (v := v376) (W_n W436 (by omega) (W_e W431)) ?_
            refine s_s (pc := 169) rw_33_169 (by omega) (ls0 := [.int (M372.2.1 1 8), .int v376]) rfl (Nat.le_of_ble_eq_true rfl) (Nat.le_of_ble_eq_true rfl) rfl (to_rcs rfl rfl) rfl ?_
            refine to_cl (pc := 0) rw_144_0 rfl (x := (1 : Int64)) rfl ?_
            refine to_in (pc := 1) rw_144_1 rfl ?_
            refine to_in (pc := 2) rw_144_2 rfl ?_
            refine s_sub (pc := 3) rw_144_3 (A := v376.toInt) (B := (M372.2.1 1 8).toInt) rfl rfl (by omega) (fun v445 e446 => ?_)
            refine to_c (pc := 4) rw_144_4 (x := (1 : Int32)) rfl rfl ?_
            refine s_add (pc := 5) rw_144_5 (A := v445.toInt) (B := 1) rfl rfl (by omega) (fun v447 e448 => ?_)
            refine to_2s (pc := 6) rw_144_6 (v := ((1 : Int64) <<< (v447.toInt64 &&& 63))) rfl ?_
            refine to_cl (pc := 7) rw_144_7 rfl (x := (1 : Int64)) rfl ?_
            refine to_2l (pc := 8) rw_144_8 (v := (((1 : Int64) <<< (v447.toInt64 &&& 63)) - (1 : Int64))) rfl ?_
            refine to_in (pc := 9) rw_144_9 rfl ?_
            refine to_2s (pc := 10) rw_144_10 (v := ((((1 : Int64) <<< (v447.toInt64 &&& 63)) - (1 : Int64)) <<< ((M372.2.1 1 8).toInt64 &&& 63))) rfl ?_
            refine to_rl (pc := 11) rw_144_11 ?_
            refine to_2l (pc := 172) rw_33_172 (v := ((M.2.2.1 p 4) ||| ((((1 : Int64) <<< (v447.toInt64 &&& 63)) - (1 : Int64)) <<< ((M372.2.1 1 8).toInt64 &&& 63)))) rfl ?_
            have j_449 := (PLc_f (fun a i z => W_n W436 (by omega) rfl) (W_j W436 rfl) (PLc_f (fun a i z => W_n W431 (by omega) rfl) (W_j W431 rfl) (PLc_f (fun a i z => W_n W426 (by omega) rfl) (W_j W426 rfl) (PLc_f (fun a i z => F_n F419 (show ¬ (a = 1 ∧ 6 ≤ i ∧ i ≤ 9) by omega) rfl) (F_nl F419 (show ¬ (p = 1 ∧ 6 ≤ 4 ∧ 4 ≤ 9) by omega) rfl) (PLc_f (fun a i z => F_n F403 (show ¬ (a = 1 ∧ (i = 10 ∨ i = 11)) by omega) rfl) (F_nl F403 (show ¬ (p = 1 ∧ (4 = 10 ∨ 4 = 11)) by omega) rfl) j_401)))))
            have r_450 : (M437.2.1 (p + 1) sg.2.1.toNat).toInt = (M19.2.1 1 8).toInt := by rw [show sg.2.1.toNat = ((M.2.1 p 2).toInt).toNat by omega, show M437.2.1 (p + 1) ((M.2.1 p 2).toInt).toNat = (M19.2.1 1 8) from (W_n W436 (by omega) (W_n W431 (by omega) (W_n W426 (by omega) (F_n F419 (show ¬ ((p + 1) = 1 ∧ 6 ≤ ((M.2.1 p 2).toInt).toNat ∧ ((M.2.1 p 2).toInt).toNat ≤ 9) by omega) (F_n F403 (show ¬ ((p + 1) = 1 ∧ (((M.2.1 p 2).toInt).toNat = 10 ∨ ((M.2.1 p 2).toInt).toNat = 11)) by omega) (F_n F383 (show ¬ ((p + 1) = 1 ∧ (((M.2.1 p 2).toInt).toNat = 10 ∨ ((M.2.1 p 2).toInt).toNat = 11)) by omega) (F_n F368 (show ¬ ((p + 1) = 1 ∧ 6 ≤ ((M.2.1 p 2).toInt).toNat ∧ ((M.2.1 p 2).toInt).toNat ≤ 9) by omega) (W_n W361 (by omega) (F_n F54 (show ¬ ((p + 1) < 0) by omega) (F_n F47 (show ¬ ((p + 1) = 1 ∧ 6 ≤ ((M.2.1 p 2).toInt).toNat ∧ ((M.2.1 p 2).toInt).toNat ≤ 9) by omega) (W_e W40)))))))))))]
            have r_451 : (M437.2.1 (p + 2) sg.2.1.toNat).toInt = r53.toInt := by rw [show sg.2.1.toNat = ((M.2.1 p 2).toInt).toNat by omega, show M437.2.1 (p + 2) ((M.2.1 p 2).toInt).toNat = r53 from (W_n W436 (by omega) (W_n W431 (by omega) (W_n W426 (by omega) (F_n F419 (show ¬ ((p + 2) = 1 ∧ 6 ≤ ((M.2.1 p 2).toInt).toNat ∧ ((M.2.1 p 2).toInt).toNat ≤ 9) by omega) (F_n F403 (show ¬ ((p + 2) = 1 ∧ (((M.2.1 p 2).toInt).toNat = 10 ∨ ((M.2.1 p 2).toInt).toNat = 11)) by omega) (F_n F383 (show ¬ ((p + 2) = 1 ∧ (((M.2.1 p 2).toInt).toNat = 10 ∨ ((M.2.1 p 2).toInt).toNat = 11)) by omega) (F_n F368 (show ¬ ((p + 2) = 1 ∧ 6 ≤ ((M.2.1 p 2).toInt).toNat ∧ ((M.2.1 p 2).toInt).toNat ≤ 9) by omega) (W_e W361))))))))]
            have r_452 : (M437.2.1 (p + 3) sg.2.1.toNat).toInt = (M372.2.1 1 8).toInt := by rw [show sg.2.1.toNat = ((M.2.1 p 2).toInt).toNat by omega, show M437.2.1 (p + 3) ((M.2.1 p 2).toInt).toNat = (M372.2.1 1 8) from (W_n W436 (by omega) (W_n W431 (by omega) (W_e W426)))]
            have r_453 : (M437.2.1 (p + 4) sg.2.1.toNat).toInt = v376.toInt := by rw [show sg.2.1.toNat = ((M.2.1 p 2).toInt).toNat by omega, show M437.2.1 (p + 4) ((M.2.1 p 2).toInt).toNat = v376 from (W_n W436 (by omega) (W_e W431))]
            have k_454 : (10 : Int32).toInt = 10 := rfl
            have r_455 : (M437.2.1 (p + 5) sg.2.1.toNat).toInt = (10 : Int32).toInt := by rw [show sg.2.1.toNat = ((M.2.1 p 2).toInt).toNat by omega, show M437.2.1 (p + 5) ((M.2.1 p 2).toInt).toNat = (10 : Int32) from (W_e W436)]
            refine s_pJ (pc := 173) rw_33_173 hG438 (by rcases hp with rfl | rfl <;> rfl) (fun M457 W456 => ?_)
            have hG458 := g_wl hG438 W456
            have F459 := FR.wl F439 W456 (show p = 1 ∧ 6 ≤ 4 ∧ 4 ≤ 11 ∨ p = p ∧ 2 ≤ 4 ∨ p + 1 ≤ p ∧ p ≤ p + 5 by omega)
            refine to_an (pc := 176) rw_33_176 rfl ?_
            refine to_dupr (pc := 177) rw_33_177 ?_
            have c_460 : M457.2.1 p 2 = (M.2.1 p 2) := (W_l W456 c_440)
            refine tt_gI (pc := 178) rw_33_178 (g_o hG458 (by rcases hp with rfl | rfl <;> rfl)) (v := (M.2.1 p 2)) c_460 ?_
            refine to_c (pc := 181) rw_33_181 (x := (1 : Int32)) rfl rfl ?_
            refine s_add (pc := 182) rw_33_182 (A := (M.2.1 p 2).toInt) (B := 1) rfl rfl (by omega) (fun v461 e462 => ?_)
            refine s_pI (pc := 183) rw_33_183 hG458 (by rcases hp with rfl | rfl <;> rfl) (fun M464 W463 => ?_)
            have hG465 := g_w hG458 W463 (A := v461.toInt) rfl (lo := 0) (hi := 8) (by rcases hp with rfl | rfl <;> rfl) (by rcases hp with rfl | rfl <;> rfl) (by omega) (by omega)
            have F466 := FR.w F459 W463 (show p = 1 ∧ 6 ≤ 2 ∧ 2 ≤ 11 ∨ p = p ∧ 2 ≤ 2 ∨ p + 1 ≤ p ∧ p ≤ p + 5 by omega)
            refine to_c (pc := 186) rw_33_186 (x := (1 : Int32)) rfl rfl ?_
            refine s_r1 (pc := 187) rw_33_187 (A := 1) rfl (by omega) ?_
            have k_467 : (1 : Int32).toInt = 1 := rfl
            have j_468 := (CS_f (fun a i z => W_n W463 (by omega) rfl) (CS_f (fun a i z => W_l W456 rfl) (CS_f (fun a i z => W_n W436 (by omega) rfl) (CS_f (fun a i z => W_n W431 (by omega) rfl) (CS_f (fun a i z => W_n W426 (by omega) rfl) p_421)))))
            have c_469 : M464.2.1 1 9 = (M423.2.1 1 9) := (W_n W463 (by omega) (W_l W456 (W_n W436 (by omega) (W_n W431 (by omega) (W_n W426 (by omega) rfl)))))
            have t_470 : (M464.2.1 1 9).toInt = (M423.2.1 1 9).toInt := congrArg Int32.toInt c_469
            have z_471 : x_fC t nn sg (x_ns t nn a) := by unfold x_fC; omega
            have j_472 := PLc_p (nm := (x_val t nn (x_ns t nn a))) (kd := ((x_kx (x_val t nn (x_ns t nn (x_ns t nn a)))) - 3)) (f := (x_val t nn (x_ns t nn (x_ns t nn (x_ns t nn a))))) (l := ((x_val t nn (x_ns t nn (x_ns t nn (x_ns t nn a)))) + ((x_kx (x_val t nn (x_ns t nn (x_ns t nn a)))) - 1))) (c := 10) j_449 W456 W463 (x_or_e q3 (by omega) (by omega)) (by omega) (by omega) (r_450.trans (by omega)) (r_451.trans (by omega)) (r_452.trans (by omega)) (r_453.trans (by omega)) (r_455.trans (by omega)) (by omega) (by omega) (by omega) (by omega)
            have j_473 := (CW_f (fun k hk9 => W_j W463 rfl) (CW_f (fun k hk9 => L_n W456 (by omega) rfl) (CW_f (fun k hk9 => W_j W436 rfl) (CW_f (fun k hk9 => W_j W431 rfl) (CW_f (fun k hk9 => W_j W426 rfl) (CW_f (fun k hk9 => F_nl F419 (show ¬ ((p + 8) = 1 ∧ 6 ≤ k ∧ k ≤ 9) by omega) rfl) (CW_f (fun k hk9 => F_nl F403 (show ¬ ((p + 8) = 1 ∧ (k = 10 ∨ k = 11)) by omega) rfl) (CW_f (fun k hk9 => F_nl F383 (show ¬ ((p + 8) = 1 ∧ (k = 10 ∨ k = 11)) by omega) rfl) (CW_f (fun k hk9 => F_nl F368 (show ¬ ((p + 8) = 1 ∧ 6 ≤ k ∧ k ≤ 9) by omega) rfl) (CW_f (fun k hk9 => W_j W361 rfl) (CW_f (fun k hk9 => F_nl F54 (show ¬ ((p + 8) < 0) by omega) rfl) (CW_f (fun k hk9 => F_nl F47 (show ¬ ((p + 8) = 1 ∧ 6 ≤ k ∧ k ≤ 9) by omega) rfl) (CW_f (fun k hk9 => W_j W40 rfl) (CW_f (fun k hk9 => F_nl F23 (show ¬ ((p + 8) = 1 ∧ (k = 10 ∨ k = 11)) by omega) rfl) (CW_f (fun k hk9 => F_nl F15 (show ¬ ((p + 8) = 1 ∧ 6 ≤ k ∧ k ≤ 9) by omega) rfl) q4)))))))))))))))
            exact h (1 : Int32) M464 hG465 F466 (by omega) (by omega) j_468 (fun z => absurd z (by decide)) (fun _ => ⟨_, (by rw [show (M464.2.1 1 9).toInt = (x_ns t nn (x_ns t nn (x_ns t nn (x_ns t nn a)))) by omega]; exact x_field_d z_471 (by omega)), ⟨j_472, CW_p j_473⟩, (by show sg.2.1 + 1 + sg.2.2.1 = _; omega)⟩)
      · skip
        have p_474 := p_59 (by omega)
        clear p_58 p_59
        refine to_isn (pc := 50) rw_33_50 (ls2 := [.ref p, .ref 1, .int r53, .null]) rfl rfl ?_
        refine to_in (pc := 51) rw_33_51 rfl ?_
        refine to_c (pc := 52) rw_33_52 (x := (-1 : Int32)) rfl rfl ?_
        refine b_cne_t (pc := 53) rw_33_53 (A := r53.toInt) (B := -1) rfl rfl (by omega) ?_
        refine to_an (pc := 62) rw_33_62 rfl ?_
        refine s_gR (pc := 63) rw_33_63 hG55 (by rcases hp with rfl | rfl <;> rfl) (v := (p + 2)) (by rcases hp with rfl | rfl <;> rfl) ?_
        refine to_an (pc := 66) rw_33_66 rfl ?_
        have c_475 : M60.2.1 p 2 = (M.2.1 p 2) := (F_n F54 (show ¬ (p < 0) by omega) (F_n F47 (show ¬ (p = 1 ∧ 6 ≤ 2 ∧ 2 ≤ 9) by omega) (W_n W40 (by omega) c_38)))
        refine tt_gI (pc := 67) rw_33_67 (g_o hG55 (by rcases hp with rfl | rfl <;> rfl)) (v := (M.2.1 p 2)) c_475 ?_
        refine to_in (pc := 70) rw_33_70 rfl ?_
        refine s_ias (pc := 71) rw_33_71 hG55 (by rcases hp with rfl | rfl <;> rfl) (n := 8) (by rcases hp with rfl | rfl <;> rfl) (A := (M.2.1 p 2).toInt) rfl (by omega) (by omega) (fun M477 W476 => ?_)
        have hG478 := g_w hG55 W476 (A := r53.toInt) rfl (lo := 0) (hi := 3) (by rcases hp with rfl | rfl <;> rfl) (by rcases hp with rfl | rfl <;> rfl) (by omega) (by omega)
        have F479 := FR.w F61 W476 (show (p + 2) = 1 ∧ 6 ≤ ((M.2.1 p 2).toInt).toNat ∧ ((M.2.1 p 2).toInt).toNat ≤ 11 ∨ (p + 2) = p ∧ 2 ≤ ((M.2.1 p 2).toInt).toNat ∨ p + 1 ≤ (p + 2) ∧ (p + 2) ≤ p + 5 by omega)
        refine to_an (pc := 72) rw_33_72 rfl ?_
        refine s_v (pc := 73) rw_33_73 (by omega) (ls0 := [.ref 1]) rfl (Nat.le_of_ble_eq_true rfl) (Nat.le_of_ble_eq_true rfl) rfl (to_rc rfl rfl rfl (g_o hG478 rfl)) rfl ?_
        have j_480 := (CS_f (fun a i z => W_n W476 (by omega) rfl) (CS_f (tg_8 F54) p_49))
        have c_481 : M477.2.1 1 9 = (M51.2.1 1 9) := (W_n W476 (by omega) (F_n F54 (show ¬ (1 < 0) by decide) rfl))
        have t_482 : (M477.2.1 1 9).toInt = (M51.2.1 1 9).toInt := congrArg Int32.toInt c_481
        refine E_83 hX (by omega) hG478 j_480 (by omega) (t := t) (nn := nn) (a := (x_ns t nn (x_ns t nn a))) (fun M487 hG484 F483 p_485 p_486 => ?_)
        have F488 := FR.c F479 F483 (fun a i z => show a = 1 ∧ 6 ≤ i ∧ i ≤ 11 ∨ a = p ∧ 2 ≤ i ∨ p + 1 ≤ a ∧ a ≤ p + 5 by have z : a = 1 ∧ 6 ≤ i ∧ i ≤ 9 := z; omega)
        refine to_in (pc := 76) rw_33_76 rfl ?_
        refine to_c (pc := 77) rw_33_77 (x := (1 : Int32)) rfl rfl ?_
        refine b_ceq_f (pc := 78) rw_33_78 (A := r53.toInt) (B := 1) rfl rfl (by omega) ?_
        refine to_in (pc := 81) rw_33_81 rfl ?_
        refine to_c (pc := 82) rw_33_82 (x := (2 : Int32)) rfl rfl ?_
        refine b_cne_t (pc := 83) rw_33_83 (A := r53.toInt) (B := 2) rfl rfl (by omega) ?_
        refine to_an (pc := 105) rw_33_105 rfl ?_
        refine to_an (pc := 106) rw_33_106 rfl ?_
        refine to_in (pc := 107) rw_33_107 rfl ?_
        refine b_ine_t (pc := 108) rw_33_108 (A := r53.toInt) rfl (by omega) ?_
        refine to_c (pc := 115) rw_33_115 (x := (1 : Int32)) rfl rfl ?_
        refine s_v (pc := 116) rw_33_116 (by omega) (ls0 := [.ref p, .ref 1, .int (1 : Int32), .null, .null, .null]) rfl (Nat.le_of_ble_eq_true rfl) (Nat.le_of_ble_eq_true rfl) rfl (to_rc rfl rfl rfl (g_o hG484 (by rcases hp with rfl | rfl <;> rfl))) rfl ?_
        refine to_an (pc := 0) rw_36_0 rfl ?_
        refine tt_gI (pc := 1) rw_36_1 (g_o hG484 rfl) (v := (M487.2.1 1 8)) rfl ?_
        refine to_isn (pc := 4) rw_36_4 (ls2 := [.ref p, .ref 1, .int (1 : Int32), .int (M487.2.1 1 8), .null, .null]) rfl rfl ?_
        refine to_an (pc := 5) rw_36_5 rfl ?_
        refine to_c (pc := 6) rw_36_6 (x := (0 : Int32)) rfl rfl ?_
        refine to_an (pc := 7) rw_36_7 rfl ?_
        have c_489 : M487.2.1 p 0 = (M.2.1 p 0) := (F_n F483 (show ¬ (p = 1 ∧ 6 ≤ 0 ∧ 0 ≤ 9) by omega) (W_n W476 (by omega) (F_n F54 (show ¬ (p < 0) by omega) (F_n F47 (show ¬ (p = 1 ∧ 6 ≤ 0 ∧ 0 ≤ 9) by omega) (W_n W40 (by omega) (F_n F23 (show ¬ (p = 1 ∧ (0 = 10 ∨ 0 = 11)) by omega) (F_n F15 (show ¬ (p = 1 ∧ 6 ≤ 0 ∧ 0 ≤ 9) by omega) rfl)))))))
        refine tt_gI (pc := 8) rw_36_8 (g_o hG484 (by rcases hp with rfl | rfl <;> rfl)) (v := (M.2.1 p 0)) c_489 ?_
        refine to_c (pc := 11) rw_36_11 (x := (1 : Int32)) rfl rfl ?_
        refine s_sub (pc := 12) rw_36_12 (A := (M.2.1 p 0).toInt) (B := 1) rfl rfl (by omega) (fun v490 e491 => ?_)
        refine s_v (pc := 13) rw_36_13 (by omega) (ls0 := [.ref 1, .int (0 : Int32), .int v490]) rfl (Nat.le_of_ble_eq_true rfl) (Nat.le_of_ble_eq_true rfl) rfl (to_rc rfl rfl rfl (g_o hG484 rfl)) rfl ?_
        have k_492 : (0 : Int32).toInt = 0 := rfl
        refine E_88 hX (by omega) hG484 p_485 (by omega) (l := (0 : Int32)) (m := v490) (t := t) (nn := nn) (a := (x_ns t nn (x_ns t nn (x_ns t nn a)))) (fun r493 M500 hG495 F494 p_496 p_497 p_498 p_499 => ?_)
        have F501 := FR.c F488 F494 (fun a i z => show a = 1 ∧ 6 ≤ i ∧ i ≤ 11 ∨ a = p ∧ 2 ≤ i ∨ p + 1 ≤ a ∧ a ≤ p + 5 by have z : a = 1 ∧ (i = 10 ∨ i = 11) := z; omega)
        rcases (show r493.toInt = 0 ∨ r493.toInt = 1 by omega) with h502 | h502
        · skip
          have p_503 := p_499 (by omega)
          clear p_498 p_499
          have z_504 := x_val_b (t := t) (nn := nn) (a := (x_ns t nn (x_ns t nn (x_ns t nn a))))
          refine b_ieq_t (pc := 16) rw_36_16 (A := r493.toInt) rfl (by omega) ?_
          refine to_c (pc := 29) rw_36_29 (x := (0 : Int32)) rfl rfl ?_
          refine s_r1 (pc := 30) rw_36_30 (A := 0) rfl (by omega) ?_
          refine b_ieq_t (pc := 119) rw_33_119 (A := 0) rfl (by omega) ?_
          refine to_c (pc := 138) rw_33_138 (x := (0 : Int32)) rfl rfl ?_
          refine to_isn (pc := 139) rw_33_139 (ls2 := [.ref p, .ref 1, .int r53, .int (0 : Int32)]) rfl rfl ?_
          refine to_in (pc := 140) rw_33_140 rfl ?_
          refine b_ine_f (pc := 141) rw_33_141 (A := 0) rfl (by omega) ?_
          refine to_c (pc := 144) rw_33_144 (x := (0 : Int32)) rfl rfl ?_
          refine s_r1 (pc := 145) rw_33_145 (A := 0) rfl (by omega) ?_
          have j_505 := (CS_f (tg_12 F494) p_485)
          exact h (0 : Int32) M500 hG495 F501 (by omega) (by omega) j_505 (fun _ => x_field_n (fun h9 => by unfold x_fC at h9; omega)) (fun z => absurd z (by decide))
        · skip
          have p_506 := p_498 (by omega)
          clear p_498 p_499
          have c_507 : M500.2.1 1 8 = (M487.2.1 1 8) := (F_n F494 (show ¬ (1 = 1 ∧ (8 = 10 ∨ 8 = 11)) by decide) rfl)
          have z_508 := x_val_b (t := t) (nn := nn) (a := (x_ns t nn (x_ns t nn (x_ns t nn a)))) (by omega)
          refine b_ieq_f (pc := 16) rw_36_16 (A := r493.toInt) rfl (by omega) ?_
          refine to_an (pc := 19) rw_36_19 rfl ?_
          refine to_an (pc := 20) rw_36_20 rfl ?_
          refine to_in (pc := 21) rw_36_21 rfl ?_
          refine to_in (pc := 22) rw_36_22 rfl ?_
          refine s_v (pc := 23) rw_36_23 (by omega) (ls0 := [.ref p, .ref 1, .int (M487.2.1 1 8), .int (M487.2.1 1 8)]) rfl (Nat.le_of_ble_eq_true rfl) (Nat.le_of_ble_eq_true rfl) rfl (to_rc rfl rfl rfl (g_o hG495 (by rcases hp with rfl | rfl <;> rfl))) rfl ?_
          have j_509 := (CS_f (tg_12 F494) p_485)
          have c_510 : M500.2.1 1 9 = (M487.2.1 1 9) := (F_n F494 (show ¬ (1 = 1 ∧ (9 = 10 ∨ 9 = 11)) by decide) rfl)
          have t_511 : (M500.2.1 1 9).toInt = (M487.2.1 1 9).toInt := congrArg Int32.toInt c_510
          have j_512 := (PLc_f (fun a i z => F_n F494 (show ¬ (a = 1 ∧ (i = 10 ∨ i = 11)) by omega) rfl) (F_nl F494 (show ¬ (p = 1 ∧ (4 = 10 ∨ 4 = 11)) by omega) rfl) (PLc_f (fun a i z => F_n F483 (show ¬ (a = 1 ∧ 6 ≤ i ∧ i ≤ 9) by omega) rfl) (F_nl F483 (show ¬ (p = 1 ∧ 6 ≤ 4 ∧ 4 ≤ 9) by omega) rfl) (PLc_f (fun a i z => W_n W476 (by omega) rfl) (W_j W476 rfl) (PLc_f (fun a i z => F_n F54 (show ¬ (a < 0) by omega) rfl) (F_nl F54 (show ¬ (p < 0) by omega) rfl) (PLc_f (fun a i z => F_n F47 (show ¬ (a = 1 ∧ 6 ≤ i ∧ i ≤ 9) by omega) rfl) (F_nl F47 (show ¬ (p = 1 ∧ 6 ≤ 4 ∧ 4 ≤ 9) by omega) rfl) (PLc_f (fun a i z => W_n W40 (by omega) rfl) (W_j W40 rfl) (PLc_f (fun a i z => F_n F23 (show ¬ (a = 1 ∧ (i = 10 ∨ i = 11)) by omega) rfl) (F_nl F23 (show ¬ (p = 1 ∧ (4 = 10 ∨ 4 = 11)) by omega) rfl) j_21)))))))
          refine E_39 hX (by omega) hG495 hp j_509 (by omega) j_512 (by omega) (by omega) (by omega) (by omega) (by omega) (p := p) (f := (M487.2.1 1 8)) (l := (M487.2.1 1 8)) (t := t) (nn := nn) (a := (x_ns t nn (x_ns t nn (x_ns t nn a)))) (sg := sg) (fun r513 M520 hG515 F514 p_516 p_517 p_518 p_519 => ?_)
          have F521 := FR.c F501 F514 (fun a i z => show a = 1 ∧ 6 ≤ i ∧ i ≤ 11 ∨ a = p ∧ 2 ≤ i ∨ p + 1 ≤ a ∧ a ≤ p + 5 by have z : a = 1 ∧ (i = 10 ∨ i = 11) := z; omega)
          have z_522 := x_free_v (s := sg) (f := (M487.2.1 1 8).toInt) (l := (M487.2.1 1 8).toInt) (f2 := (x_val t nn (x_ns t nn (x_ns t nn (x_ns t nn a))))) (l2 := (x_val t nn (x_ns t nn (x_ns t nn (x_ns t nn a))))) (by omega) (by omega)
          rcases (show r513.toInt = 0 ∨ r513.toInt = 1 by omega) with h523 | h523
          · skip
            have p_524 := p_519 (by omega)
            clear p_518 p_519
            refine b_ine_f (pc := 26) rw_36_26 (A := r513.toInt) rfl (by omega) ?_
            refine to_c (pc := 29) rw_36_29 (x := (0 : Int32)) rfl rfl ?_
            refine s_r1 (pc := 30) rw_36_30 (A := 0) rfl (by omega) ?_
            refine b_ieq_t (pc := 119) rw_33_119 (A := 0) rfl (by omega) ?_
            refine to_c (pc := 138) rw_33_138 (x := (0 : Int32)) rfl rfl ?_
            refine to_isn (pc := 139) rw_33_139 (ls2 := [.ref p, .ref 1, .int r53, .int (0 : Int32)]) rfl rfl ?_
            refine to_in (pc := 140) rw_33_140 rfl ?_
            refine b_ine_f (pc := 141) rw_33_141 (A := 0) rfl (by omega) ?_
            refine to_c (pc := 144) rw_33_144 (x := (0 : Int32)) rfl rfl ?_
            refine s_r1 (pc := 145) rw_33_145 (A := 0) rfl (by omega) ?_
            have j_525 := (CS_f (tg_12 F514) j_509)
            exact h (0 : Int32) M520 hG515 F521 (by omega) (by omega) j_525 (fun _ => x_field_n (fun h9 => by unfold x_fC at h9; omega)) (fun z => absurd z (by decide))
          · skip
            have p_526 := p_518 (by omega)
            clear p_518 p_519
            refine b_ine_t (pc := 26) rw_36_26 (A := r513.toInt) rfl (by omega) ?_
            refine to_an (pc := 31) rw_36_31 rfl ?_
            refine s_v (pc := 32) rw_36_32 (by omega) (ls0 := [.ref 1]) rfl (Nat.le_of_ble_eq_true rfl) (Nat.le_of_ble_eq_true rfl) rfl (to_rc rfl rfl rfl (g_o hG515 rfl)) rfl ?_
            have j_527 := (CS_f (tg_12 F514) j_509)
            have c_528 : M520.2.1 1 9 = (M487.2.1 1 9) := (F_n F514 (show ¬ (1 = 1 ∧ (9 = 10 ∨ 9 = 11)) by decide) c_510)
            have t_529 : (M520.2.1 1 9).toInt = (M487.2.1 1 9).toInt := congrArg Int32.toInt c_528
            refine E_83 hX (by omega) hG515 j_527 (by omega) (t := t) (nn := nn) (a := (x_ns t nn (x_ns t nn (x_ns t nn a)))) (fun M534 hG531 F530 p_532 p_533 => ?_)
            have F535 := FR.c F521 F530 (fun a i z => show a = 1 ∧ 6 ≤ i ∧ i ≤ 11 ∨ a = p ∧ 2 ≤ i ∨ p + 1 ≤ a ∧ a ≤ p + 5 by have z : a = 1 ∧ 6 ≤ i ∧ i ≤ 9 := z; omega)
            refine to_an (pc := 35) rw_36_35 rfl ?_
            refine tt_gI (pc := 36) rw_36_36 (g_o hG531 rfl) (v := (M534.2.1 1 8)) rfl ?_
            refine to_is (pc := 39) rw_36_39 (ls2 := [.ref p, .ref 1, .int (1 : Int32), .int (M487.2.1 1 8), .int (M534.2.1 1 8), .null]) rfl rfl ?_
            refine to_an (pc := 41) rw_36_41 rfl ?_
            have c_536 : M534.2.1 p 0 = (M.2.1 p 0) := (F_n F530 (show ¬ (p = 1 ∧ 6 ≤ 0 ∧ 0 ≤ 9) by omega) (F_n F514 (show ¬ (p = 1 ∧ (0 = 10 ∨ 0 = 11)) by omega) (F_n F494 (show ¬ (p = 1 ∧ (0 = 10 ∨ 0 = 11)) by omega) c_489)))
            refine tt_gI (pc := 42) rw_36_42 (g_o hG531 (by rcases hp with rfl | rfl <;> rfl)) (v := (M.2.1 p 0)) c_536 ?_
            refine to_c (pc := 45) rw_36_45 (x := (1 : Int32)) rfl rfl ?_
            refine s_sub (pc := 46) rw_36_46 (A := (M.2.1 p 0).toInt) (B := 1) rfl rfl (by omega) (fun v537 e538 => ?_)
            refine to_in (pc := 47) rw_36_47 rfl ?_
            refine to_c (pc := 48) rw_36_48 (x := (24 : Int32)) rfl rfl ?_
            refine s_add (pc := 50) rw_36_50 (A := (M487.2.1 1 8).toInt) (B := 24) rfl rfl (by omega) (fun v539 e540 => ?_)
            refine to_c (pc := 51) rw_36_51 (x := (1 : Int32)) rfl rfl ?_
            refine s_sub (pc := 52) rw_36_52 (A := v539.toInt) (B := 1) rfl rfl (by omega) (fun v541 e542 => ?_)
            refine s_min (pc := 53) rw_36_53 rfl (A := v537.toInt) (B := v541.toInt) rfl rfl (fun v543 _ _ _ => ?_)
            refine to_is (pc := 56) rw_36_56 (ls2 := [.ref p, .ref 1, .int (1 : Int32), .int (M487.2.1 1 8), .int (M534.2.1 1 8), .int v543]) rfl rfl ?_
            refine to_an (pc := 58) rw_36_58 rfl ?_
            refine to_in (pc := 59) rw_36_59 rfl ?_
            refine to_in (pc := 60) rw_36_60 rfl ?_
            refine s_add (pc := 61) rw_36_61 (A := (M487.2.1 1 8).toInt) (B := 1) rfl rfl (by omega) (fun v544 e545 => ?_)
            refine to_c (pc := 62) rw_36_62 (x := (1 : Int32)) rfl rfl ?_
            refine s_sub (pc := 63) rw_36_63 (A := v544.toInt) (B := 1) rfl rfl (by omega) (fun v546 e547 => ?_)
            refine to_i (pc := 64) rw_36_64 rfl ?_
            refine s_v (pc := 66) rw_36_66 (by omega) (ls0 := [.ref 1, .int v546, .int v543]) rfl (Nat.le_of_ble_eq_true rfl) (Nat.le_of_ble_eq_true rfl) rfl (to_rc rfl rfl rfl (g_o hG531 rfl)) rfl ?_
            refine E_88 hX (by omega) hG531 p_532 (by omega) (l := v546) (m := v543) (t := t) (nn := nn) (a := (x_ns t nn (x_ns t nn (x_ns t nn (x_ns t nn a))))) (fun r548 M555 hG550 F549 p_551 p_552 p_553 p_554 => ?_)
            have F556 := FR.c F535 F549 (fun a i z => show a = 1 ∧ 6 ≤ i ∧ i ≤ 11 ∨ a = p ∧ 2 ≤ i ∨ p + 1 ≤ a ∧ a ≤ p + 5 by have z : a = 1 ∧ (i = 10 ∨ i = 11) := z; omega)
            rcases (show r548.toInt = 0 ∨ r548.toInt = 1 by omega) with h557 | h557
            · skip
              have p_558 := p_554 (by omega)
              clear p_553 p_554
              have z_559 := x_val_b (t := t) (nn := nn) (a := (x_ns t nn (x_ns t nn (x_ns t nn (x_ns t nn a)))))
              refine b_ieq_t (pc := 69) rw_36_69 (A := r548.toInt) rfl (by omega) ?_
              refine to_c (pc := 83) rw_36_83 (x := (0 : Int32)) rfl rfl ?_
              refine s_r1 (pc := 84) rw_36_84 (A := 0) rfl (by omega) ?_
              refine b_ieq_t (pc := 119) rw_33_119 (A := 0) rfl (by omega) ?_
              refine to_c (pc := 138) rw_33_138 (x := (0 : Int32)) rfl rfl ?_
              refine to_isn (pc := 139) rw_33_139 (ls2 := [.ref p, .ref 1, .int r53, .int (0 : Int32)]) rfl rfl ?_
              refine to_in (pc := 140) rw_33_140 rfl ?_
              refine b_ine_f (pc := 141) rw_33_141 (A := 0) rfl (by omega) ?_
              refine to_c (pc := 144) rw_33_144 (x := (0 : Int32)) rfl rfl ?_
              refine s_r1 (pc := 145) rw_33_145 (A := 0) rfl (by omega) ?_
              have j_560 := (CS_f (tg_12 F549) p_532)
              exact h (0 : Int32) M555 hG550 F556 (by omega) (by omega) j_560 (fun _ => x_field_n (fun h9 => by unfold x_fC at h9; omega)) (fun z => absurd z (by decide))
            · skip
              have p_561 := p_553 (by omega)
              clear p_553 p_554
              have c_562 : M555.2.1 1 8 = (M534.2.1 1 8) := (F_n F549 (show ¬ (1 = 1 ∧ (8 = 10 ∨ 8 = 11)) by decide) rfl)
              have z_563 := x_val_b (t := t) (nn := nn) (a := (x_ns t nn (x_ns t nn (x_ns t nn (x_ns t nn a))))) (by omega)
              refine b_ieq_f (pc := 69) rw_36_69 (A := r548.toInt) rfl (by omega) ?_
              refine to_an (pc := 72) rw_36_72 rfl ?_
              refine to_an (pc := 73) rw_36_73 rfl ?_
              refine to_in (pc := 74) rw_36_74 rfl ?_
              refine to_i (pc := 75) rw_36_75 rfl ?_
              refine s_v (pc := 77) rw_36_77 (by omega) (ls0 := [.ref p, .ref 1, .int (M487.2.1 1 8), .int (M534.2.1 1 8)]) rfl (Nat.le_of_ble_eq_true rfl) (Nat.le_of_ble_eq_true rfl) rfl (to_rc rfl rfl rfl (g_o hG550 (by rcases hp with rfl | rfl <;> rfl))) rfl ?_
              have j_564 := (CS_f (tg_12 F549) p_532)
              have c_565 : M555.2.1 1 9 = (M534.2.1 1 9) := (F_n F549 (show ¬ (1 = 1 ∧ (9 = 10 ∨ 9 = 11)) by decide) rfl)
              have t_566 : (M555.2.1 1 9).toInt = (M534.2.1 1 9).toInt := congrArg Int32.toInt c_565
              have j_567 := (PLc_f (fun a i z => F_n F549 (show ¬ (a = 1 ∧ (i = 10 ∨ i = 11)) by omega) rfl) (F_nl F549 (show ¬ (p = 1 ∧ (4 = 10 ∨ 4 = 11)) by omega) rfl) (PLc_f (fun a i z => F_n F530 (show ¬ (a = 1 ∧ 6 ≤ i ∧ i ≤ 9) by omega) rfl) (F_nl F530 (show ¬ (p = 1 ∧ 6 ≤ 4 ∧ 4 ≤ 9) by omega) rfl) (PLc_f (fun a i z => F_n F514 (show ¬ (a = 1 ∧ (i = 10 ∨ i = 11)) by omega) rfl) (F_nl F514 (show ¬ (p = 1 ∧ (4 = 10 ∨ 4 = 11)) by omega) rfl) j_512)))
              refine E_39 hX (by omega) hG550 hp j_564 (by omega) j_567 (by omega) (by omega) (by omega) (by omega) (by omega) (p := p) (f := (M487.2.1 1 8)) (l := (M534.2.1 1 8)) (t := t) (nn := nn) (a := (x_ns t nn (x_ns t nn (x_ns t nn (x_ns t nn a))))) (sg := sg) (fun r568 M575 hG570 F569 p_571 p_572 p_573 p_574 => ?_)
              have F576 := FR.c F556 F569 (fun a i z => show a = 1 ∧ 6 ≤ i ∧ i ≤ 11 ∨ a = p ∧ 2 ≤ i ∨ p + 1 ≤ a ∧ a ≤ p + 5 by have z : a = 1 ∧ (i = 10 ∨ i = 11) := z; omega)
              have z_577 := x_free_v (s := sg) (f := (M487.2.1 1 8).toInt) (l := (M534.2.1 1 8).toInt) (f2 := (x_val t nn (x_ns t nn (x_ns t nn (x_ns t nn a))))) (l2 := (x_val t nn (x_ns t nn (x_ns t nn (x_ns t nn (x_ns t nn a)))))) (by omega) (by omega)
              rcases (show r568.toInt = 0 ∨ r568.toInt = 1 by omega) with h578 | h578
              · skip
                have p_579 := p_574 (by omega)
                clear p_573 p_574
                refine b_ine_f (pc := 80) rw_36_80 (A := r568.toInt) rfl (by omega) ?_
                refine to_c (pc := 83) rw_36_83 (x := (0 : Int32)) rfl rfl ?_
                refine s_r1 (pc := 84) rw_36_84 (A := 0) rfl (by omega) ?_
                refine b_ieq_t (pc := 119) rw_33_119 (A := 0) rfl (by omega) ?_
                refine to_c (pc := 138) rw_33_138 (x := (0 : Int32)) rfl rfl ?_
                refine to_isn (pc := 139) rw_33_139 (ls2 := [.ref p, .ref 1, .int r53, .int (0 : Int32)]) rfl rfl ?_
                refine to_in (pc := 140) rw_33_140 rfl ?_
                refine b_ine_f (pc := 141) rw_33_141 (A := 0) rfl (by omega) ?_
                refine to_c (pc := 144) rw_33_144 (x := (0 : Int32)) rfl rfl ?_
                refine s_r1 (pc := 145) rw_33_145 (A := 0) rfl (by omega) ?_
                have j_580 := (CS_f (tg_12 F569) j_564)
                exact h (0 : Int32) M575 hG570 F576 (by omega) (by omega) j_580 (fun _ => x_field_n (fun h9 => by unfold x_fC at h9; omega)) (fun z => absurd z (by decide))
              · skip
                have p_581 := p_573 (by omega)
                clear p_573 p_574
                refine b_ine_t (pc := 80) rw_36_80 (A := r568.toInt) rfl (by omega) ?_
                refine to_an (pc := 85) rw_36_85 rfl ?_
                refine s_v (pc := 86) rw_36_86 (by omega) (ls0 := [.ref 1]) rfl (Nat.le_of_ble_eq_true rfl) (Nat.le_of_ble_eq_true rfl) rfl (to_rc rfl rfl rfl (g_o hG570 rfl)) rfl ?_
                have j_582 := (CS_f (tg_12 F569) j_564)
                have c_583 : M575.2.1 1 9 = (M534.2.1 1 9) := (F_n F569 (show ¬ (1 = 1 ∧ (9 = 10 ∨ 9 = 11)) by decide) c_565)
                have t_584 : (M575.2.1 1 9).toInt = (M534.2.1 1 9).toInt := congrArg Int32.toInt c_583
                refine E_83 hX (by omega) hG570 j_582 (by omega) (t := t) (nn := nn) (a := (x_ns t nn (x_ns t nn (x_ns t nn (x_ns t nn a))))) (fun M589 hG586 F585 p_587 p_588 => ?_)
                have F590 := FR.c F576 F585 (fun a i z => show a = 1 ∧ 6 ≤ i ∧ i ≤ 11 ∨ a = p ∧ 2 ≤ i ∨ p + 1 ≤ a ∧ a ≤ p + 5 by have z : a = 1 ∧ 6 ≤ i ∧ i ≤ 9 := z; omega)
                refine to_an (pc := 89) rw_36_89 rfl ?_
                refine to_in (pc := 90) rw_36_90 rfl ?_
                refine to_i (pc := 91) rw_36_91 rfl ?_
                refine to_i (pc := 93) rw_36_93 rfl ?_
                refine to_in (pc := 95) rw_36_95 rfl ?_
                refine s_sub (pc := 96) rw_36_96 (A := (M534.2.1 1 8).toInt) (B := (M487.2.1 1 8).toInt) rfl rfl (by omega) (fun v591 e592 => ?_)
                refine to_c (pc := 97) rw_36_97 (x := (1 : Int32)) rfl rfl ?_
                refine s_add (pc := 98) rw_36_98 (A := v591.toInt) (B := 1) rfl rfl (by omega) (fun v593 e594 => ?_)
                refine s_v (pc := 99) rw_36_99 (by omega) (ls0 := [.ref p, .int (M487.2.1 1 8), .int (M534.2.1 1 8), .int v593]) rfl (Nat.le_of_ble_eq_true rfl) (Nat.le_of_ble_eq_true rfl) rfl (to_rc rfl rfl rfl (g_o hG586 (by rcases hp with rfl | rfl <;> rfl))) rfl ?_
                refine to_an (pc := 0) rw_40_0 rfl ?_
                refine s_gR (pc := 1) rw_40_1 hG586 (by rcases hp with rfl | rfl <;> rfl) (v := (p + 3)) (by rcases hp with rfl | rfl <;> rfl) ?_
                refine to_an (pc := 4) rw_40_4 rfl ?_
                have c_595 : M589.2.1 p 2 = (M.2.1 p 2) := (F_n F585 (show ¬ (p = 1 ∧ 6 ≤ 2 ∧ 2 ≤ 9) by omega) (F_n F569 (show ¬ (p = 1 ∧ (2 = 10 ∨ 2 = 11)) by omega) (F_n F549 (show ¬ (p = 1 ∧ (2 = 10 ∨ 2 = 11)) by omega) (F_n F530 (show ¬ (p = 1 ∧ 6 ≤ 2 ∧ 2 ≤ 9) by omega) (F_n F514 (show ¬ (p = 1 ∧ (2 = 10 ∨ 2 = 11)) by omega) (F_n F494 (show ¬ (p = 1 ∧ (2 = 10 ∨ 2 = 11)) by omega) (F_n F483 (show ¬ (p = 1 ∧ 6 ≤ 2 ∧ 2 ≤ 9) by omega) (W_n W476 (by omega) c_475))))))))
                refine tt_gI (pc := 5) rw_40_5 (g_o hG586 (by rcases hp with rfl | rfl <;> rfl)) (v := (M.2.1 p 2)) c_595 ?_
                refine to_in (pc := 8) rw_40_8 rfl ?_
                refine s_ias (pc := 9) rw_40_9 hG586 (by rcases hp with rfl | rfl <;> rfl) (n := 8) (by rcases hp with rfl | rfl <;> rfl) (A := (M.2.1 p 2).toInt) rfl (by omega) (by omega) (fun M597 W596 => ?_)
                have hG598 := g_w hG586 W596 (A := (M487.2.1 1 8).toInt) rfl (lo := 0) (hi := 59) (by rcases hp with rfl | rfl <;> rfl) (by rcases hp with rfl | rfl <;> rfl) (by omega) (by omega)
                have F599 := FR.w F590 W596 (show (p + 3) = 1 ∧ 6 ≤ ((M.2.1 p 2).toInt).toNat ∧ ((M.2.1 p 2).toInt).toNat ≤ 11 ∨ (p + 3) = p ∧ 2 ≤ ((M.2.1 p 2).toInt).toNat ∨ p + 1 ≤ (p + 3) ∧ (p + 3) ≤ p + 5 by omega)
                refine to_an (pc := 10) rw_40_10 rfl ?_
                refine s_gR (pc := 11) rw_40_11 hG598 (by rcases hp with rfl | rfl <;> rfl) (v := (p + 4)) (by rcases hp with rfl | rfl <;> rfl) ?_
                refine to_an (pc := 14) rw_40_14 rfl ?_
                have c_600 : M597.2.1 p 2 = (M.2.1 p 2) := (W_n W596 (by omega) c_595)
                refine tt_gI (pc := 15) rw_40_15 (g_o hG598 (by rcases hp with rfl | rfl <;> rfl)) (v := (M.2.1 p 2)) c_600 ?_
                refine to_in (pc := 18) rw_40_18 rfl ?_
                refine s_ias (pc := 19) rw_40_19 hG598 (by rcases hp with rfl | rfl <;> rfl) (n := 8) (by rcases hp with rfl | rfl <;> rfl) (A := (M.2.1 p 2).toInt) rfl (by omega) (by omega) (fun M602 W601 => ?_)
                have hG603 := g_w hG598 W601 (A := (M534.2.1 1 8).toInt) rfl (lo := 0) (hi := 63) (by rcases hp with rfl | rfl <;> rfl) (by rcases hp with rfl | rfl <;> rfl) (by omega) (by omega)
                have F604 := FR.w F599 W601 (show (p + 4) = 1 ∧ 6 ≤ ((M.2.1 p 2).toInt).toNat ∧ ((M.2.1 p 2).toInt).toNat ≤ 11 ∨ (p + 4) = p ∧ 2 ≤ ((M.2.1 p 2).toInt).toNat ∨ p + 1 ≤ (p + 4) ∧ (p + 4) ≤ p + 5 by omega)
                refine to_an (pc := 20) rw_40_20 rfl ?_
                refine s_gR (pc := 21) rw_40_21 hG603 (by rcases hp with rfl | rfl <;> rfl) (v := (p + 5)) (by rcases hp with rfl | rfl <;> rfl) ?_
                refine to_an (pc := 24) rw_40_24 rfl ?_
                have c_605 : M602.2.1 p 2 = (M.2.1 p 2) := (W_n W601 (by omega) c_600)
                refine tt_gI (pc := 25) rw_40_25 (g_o hG603 (by rcases hp with rfl | rfl <;> rfl)) (v := (M.2.1 p 2)) c_605 ?_
                refine to_in (pc := 28) rw_40_28 rfl ?_
                refine s_ias (pc := 29) rw_40_29 hG603 (by rcases hp with rfl | rfl <;> rfl) (n := 8) (by rcases hp with rfl | rfl <;> rfl) (A := (M.2.1 p 2).toInt) rfl (by omega) (by omega) (fun M607 W606 => ?_)
                have hG608 := g_w hG603 W606 (A := v593.toInt) rfl (lo := 0) (hi := 24) (by rcases hp with rfl | rfl <;> rfl) (by rcases hp with rfl | rfl <;> rfl) (by omega) (by omega)
                have F609 := FR.w F604 W606 (show (p + 5) = 1 ∧ 6 ≤ ((M.2.1 p 2).toInt).toNat ∧ ((M.2.1 p 2).toInt).toNat ≤ 11 ∨ (p + 5) = p ∧ 2 ≤ ((M.2.1 p 2).toInt).toNat ∨ p + 1 ≤ (p + 5) ∧ (p + 5) ≤ p + 5 by omega)
                refine to_rv (pc := 30) rw_40_30 ?_
                refine to_c (pc := 102) rw_36_102 (x := (1 : Int32)) rfl rfl ?_
                refine s_r1 (pc := 103) rw_36_103 (A := 1) rfl (by omega) ?_
                refine b_ieq_f (pc := 119) rw_33_119 (A := 1) rfl (by omega) ?_
                refine to_in (pc := 122) rw_33_122 rfl ?_
                refine b_ieq_f (pc := 123) rw_33_123 (A := r53.toInt) rfl (by omega) ?_
                refine to_an (pc := 126) rw_33_126 rfl ?_
                refine to_an (pc := 127) rw_33_127 rfl ?_
                refine s_v (pc := 128) rw_33_128 (by omega) (ls0 := [.ref p, .ref 1]) rfl (Nat.le_of_ble_eq_true rfl) (Nat.le_of_ble_eq_true rfl) rfl (to_rc rfl rfl rfl (g_o hG608 (by rcases hp with rfl | rfl <;> rfl))) rfl ?_
                refine to_an (pc := 0) rw_38_0 rfl ?_
                refine to_c (pc := 1) rw_38_1 (x := (1 : Int32)) rfl rfl ?_
                refine to_c (pc := 2) rw_38_2 (x := (4 : Int32)) rfl rfl ?_
                refine to_an (pc := 3) rw_38_3 rfl ?_
                refine to_an (pc := 4) rw_38_4 rfl ?_
                have c_610 : M607.2.1 p 2 = (M.2.1 p 2) := (W_n W606 (by omega) c_605)
                refine tt_gI (pc := 5) rw_38_5 (g_o hG608 (by rcases hp with rfl | rfl <;> rfl)) (v := (M.2.1 p 2)) c_610 ?_
                refine s_v (pc := 8) rw_38_8 (by omega) (ls0 := [.ref p, .int (M.2.1 p 2)]) rfl (Nat.le_of_ble_eq_true rfl) (Nat.le_of_ble_eq_true rfl) rfl (to_rc rfl rfl rfl (g_o hG608 (by rcases hp with rfl | rfl <;> rfl))) rfl ?_
                refine to_an (pc := 0) rw_47_0 rfl ?_
                refine s_gR (pc := 1) rw_47_1 hG608 (by rcases hp with rfl | rfl <;> rfl) (v := (p + 4)) (by rcases hp with rfl | rfl <;> rfl) ?_
                refine to_in (pc := 4) rw_47_4 rfl ?_
                refine s_ialk (pc := 5) rw_47_5 hG608 (by rcases hp with rfl | rfl <;> rfl) (n := 8) (by rcases hp with rfl | rfl <;> rfl) (by rcases hp with rfl | rfl <;> rfl) (A := (M.2.1 p 2).toInt) rfl (by omega) (by omega) (v := (M534.2.1 1 8)) (W_n W606 (by omega) (W_e W601)) ?_
                refine to_an (pc := 6) rw_47_6 rfl ?_
                refine s_gR (pc := 7) rw_47_7 hG608 (by rcases hp with rfl | rfl <;> rfl) (v := (p + 3)) (by rcases hp with rfl | rfl <;> rfl) ?_
                refine to_in (pc := 10) rw_47_10 rfl ?_
                refine s_ialk (pc := 11) rw_47_11 hG608 (by rcases hp with rfl | rfl <;> rfl) (n := 8) (by rcases hp with rfl | rfl <;> rfl) (by rcases hp with rfl | rfl <;> rfl) (A := (M.2.1 p 2).toInt) rfl (by omega) (by omega) (v := (M487.2.1 1 8)) (W_n W606 (by omega) (W_n W601 (by omega) (W_e W596))) ?_
                refine s_sub (pc := 12) rw_47_12 (A := (M534.2.1 1 8).toInt) (B := (M487.2.1 1 8).toInt) rfl rfl (by omega) (fun v615 e616 => ?_)
                refine to_c (pc := 13) rw_47_13 (x := (1 : Int32)) rfl rfl ?_
                refine s_add (pc := 14) rw_47_14 (A := v615.toInt) (B := 1) rfl rfl (by omega) (fun v617 e618 => ?_)
                refine to_r0 (pc := 15) rw_47_15 ?_
                refine s_min (pc := 11) rw_38_11 rfl (A := 4) (B := v617.toInt) rfl rfl (fun v619 _ _ _ => ?_)
                refine s_v (pc := 14) rw_38_14 (by omega) (ls0 := [.ref 1, .int (1 : Int32), .int v619]) rfl (Nat.le_of_ble_eq_true rfl) (Nat.le_of_ble_eq_true rfl) rfl (to_rc rfl rfl rfl (g_o hG608 rfl)) rfl ?_
                have k_620 : (1 : Int32).toInt = 1 := rfl
                have c_621 : M607.2.1 1 8 = (M589.2.1 1 8) := (W_n W606 (by omega) (W_n W601 (by omega) (W_n W596 (by omega) rfl)))
                have t_622 : (M607.2.1 1 8).toInt = (M589.2.1 1 8).toInt := congrArg Int32.toInt c_621
                have j_623 := (CS_f (fun a i z => W_n W606 (by omega) rfl) (CS_f (fun a i z => W_n W601 (by omega) rfl) (CS_f (fun a i z => W_n W596 (by omega) rfl) p_587)))
                have c_624 : M607.2.1 1 9 = (M589.2.1 1 9) := (W_n W606 (by omega) (W_n W601 (by omega) (W_n W596 (by omega) rfl)))
                have t_625 : (M607.2.1 1 9).toInt = (M589.2.1 1 9).toInt := congrArg Int32.toInt c_624
                refine E_88 hX (by omega) hG608 j_623 (by omega) (l := (1 : Int32)) (m := v619) (t := t) (nn := nn) (a := (x_ns t nn (x_ns t nn (x_ns t nn (x_ns t nn (x_ns t nn a)))))) (fun r626 M633 hG628 F627 p_629 p_630 p_631 p_632 => ?_)
                have F634 := FR.c F609 F627 (fun a i z => show a = 1 ∧ 6 ≤ i ∧ i ≤ 11 ∨ a = p ∧ 2 ≤ i ∨ p + 1 ≤ a ∧ a ≤ p + 5 by have z : a = 1 ∧ (i = 10 ∨ i = 11) := z; omega)
                rcases (show r626.toInt = 0 ∨ r626.toInt = 1 by omega) with h635 | h635
                · skip
                  have p_636 := p_632 (by omega)
                  clear p_631 p_632
                  have z_637 := x_val_b (t := t) (nn := nn) (a := (x_ns t nn (x_ns t nn (x_ns t nn (x_ns t nn (x_ns t nn a))))))
                  refine b_ine_f (pc := 17) rw_38_17 (A := r626.toInt) rfl (by omega) ?_
                  refine to_c (pc := 20) rw_38_20 (x := (0 : Int32)) rfl rfl ?_
                  refine s_r1 (pc := 21) rw_38_21 (A := 0) rfl (by omega) ?_
                  refine b_ieq_t (pc := 131) rw_33_131 (A := 0) rfl (by omega) ?_
                  refine to_c (pc := 138) rw_33_138 (x := (0 : Int32)) rfl rfl ?_
                  refine to_isn (pc := 139) rw_33_139 (ls2 := [.ref p, .ref 1, .int r53, .int (0 : Int32)]) rfl rfl ?_
                  refine to_in (pc := 140) rw_33_140 rfl ?_
                  refine b_ine_f (pc := 141) rw_33_141 (A := 0) rfl (by omega) ?_
                  refine to_c (pc := 144) rw_33_144 (x := (0 : Int32)) rfl rfl ?_
                  refine s_r1 (pc := 145) rw_33_145 (A := 0) rfl (by omega) ?_
                  have j_638 := (CS_f (tg_12 F627) j_623)
                  exact h (0 : Int32) M633 hG628 F634 (by omega) (by omega) j_638 (fun _ => x_field_n (fun h9 => by unfold x_fC at h9; omega)) (fun z => absurd z (by decide))
                · skip
                  have p_639 := p_631 (by omega)
                  clear p_631 p_632
                  have c_640 : M633.2.1 1 8 = (M589.2.1 1 8) := (F_n F627 (show ¬ (1 = 1 ∧ (8 = 10 ∨ 8 = 11)) by decide) c_621)
                  have z_641 := x_val_b (t := t) (nn := nn) (a := (x_ns t nn (x_ns t nn (x_ns t nn (x_ns t nn (x_ns t nn a)))))) (by omega)
                  refine b_ine_t (pc := 17) rw_38_17 (A := r626.toInt) rfl (by omega) ?_
                  refine to_an (pc := 22) rw_38_22 rfl ?_
                  refine s_gR (pc := 23) rw_38_23 hG628 (by rcases hp with rfl | rfl <;> rfl) (v := (p + 5)) (by rcases hp with rfl | rfl <;> rfl) ?_
                  refine to_an (pc := 26) rw_38_26 rfl ?_
                  have c_642 : M633.2.1 p 2 = (M.2.1 p 2) := (F_n F627 (show ¬ (p = 1 ∧ (2 = 10 ∨ 2 = 11)) by omega) c_610)
                  refine tt_gI (pc := 27) rw_38_27 (g_o hG628 (by rcases hp with rfl | rfl <;> rfl)) (v := (M.2.1 p 2)) c_642 ?_
                  refine to_an (pc := 30) rw_38_30 rfl ?_
                  refine tt_gI (pc := 31) rw_38_31 (g_o hG628 rfl) (v := (M589.2.1 1 8)) c_640 ?_
                  refine s_ias (pc := 34) rw_38_34 hG628 (by rcases hp with rfl | rfl <;> rfl) (n := 8) (by rcases hp with rfl | rfl <;> rfl) (A := (M.2.1 p 2).toInt) rfl (by omega) (by omega) (fun M644 W643 => ?_)
                  have hG645 := g_w hG628 W643 (A := (M589.2.1 1 8).toInt) rfl (lo := 0) (hi := 24) (by rcases hp with rfl | rfl <;> rfl) (by rcases hp with rfl | rfl <;> rfl) (by omega) (by omega)
                  have F646 := FR.w F634 W643 (show (p + 5) = 1 ∧ 6 ≤ ((M.2.1 p 2).toInt).toNat ∧ ((M.2.1 p 2).toInt).toNat ≤ 11 ∨ (p + 5) = p ∧ 2 ≤ ((M.2.1 p 2).toInt).toNat ∨ p + 1 ≤ (p + 5) ∧ (p + 5) ≤ p + 5 by omega)
                  refine to_an (pc := 35) rw_38_35 rfl ?_
                  refine s_v (pc := 36) rw_38_36 (by omega) (ls0 := [.ref 1]) rfl (Nat.le_of_ble_eq_true rfl) (Nat.le_of_ble_eq_true rfl) rfl (to_rc rfl rfl rfl (g_o hG645 rfl)) rfl ?_
                  have j_647 := (CS_f (fun a i z => W_n W643 (by omega) rfl) (CS_f (tg_12 F627) j_623))
                  have c_648 : M644.2.1 1 9 = (M589.2.1 1 9) := (W_n W643 (by omega) (F_n F627 (show ¬ (1 = 1 ∧ (9 = 10 ∨ 9 = 11)) by decide) c_624))
                  have t_649 : (M644.2.1 1 9).toInt = (M589.2.1 1 9).toInt := congrArg Int32.toInt c_648
                  refine E_83 hX (by omega) hG645 j_647 (by omega) (t := t) (nn := nn) (a := (x_ns t nn (x_ns t nn (x_ns t nn (x_ns t nn (x_ns t nn a)))))) (fun M654 hG651 F650 p_652 p_653 => ?_)
                  have F655 := FR.c F646 F650 (fun a i z => show a = 1 ∧ 6 ≤ i ∧ i ≤ 11 ∨ a = p ∧ 2 ≤ i ∨ p + 1 ≤ a ∧ a ≤ p + 5 by have z : a = 1 ∧ 6 ≤ i ∧ i ≤ 9 := z; omega)
                  refine to_c (pc := 39) rw_38_39 (x := (1 : Int32)) rfl rfl ?_
                  refine s_r1 (pc := 40) rw_38_40 (A := 1) rfl (by omega) ?_
                  refine b_ieq_f (pc := 131) rw_33_131 (A := 1) rfl (by omega) ?_
                  refine to_c (pc := 134) rw_33_134 (x := (1 : Int32)) rfl rfl ?_
                  refine to_go (pc := 135) rw_33_135 ?_
                  refine to_isn (pc := 139) rw_33_139 (ls2 := [.ref p, .ref 1, .int r53, .int (1 : Int32)]) rfl rfl ?_
                  refine to_in (pc := 140) rw_33_140 rfl ?_
                  refine b_ine_t (pc := 141) rw_33_141 (A := 1) rfl (by omega) ?_
                  refine to_an (pc := 146) rw_33_146 rfl ?_
                  refine to_dupr (pc := 147) rw_33_147 ?_
                  refine tt_gJ (pc := 148) rw_33_148 (g_o hG651 (by rcases hp with rfl | rfl <;> rfl)) (v := (M.2.2.1 p 4)) (F_nl F650 (show ¬ (p = 1 ∧ 6 ≤ 4 ∧ 4 ≤ 9) by omega) (W_j W643 (F_nl F627 (show ¬ (p = 1 ∧ (4 = 10 ∨ 4 = 11)) by omega) (W_j W606 (W_j W601 (W_j W596 (F_nl F585 (show ¬ (p = 1 ∧ 6 ≤ 4 ∧ 4 ≤ 9) by omega) (F_nl F569 (show ¬ (p = 1 ∧ (4 = 10 ∨ 4 = 11)) by omega) (F_nl F549 (show ¬ (p = 1 ∧ (4 = 10 ∨ 4 = 11)) by omega) (F_nl F530 (show ¬ (p = 1 ∧ 6 ≤ 4 ∧ 4 ≤ 9) by omega) (F_nl F514 (show ¬ (p = 1 ∧ (4 = 10 ∨ 4 = 11)) by omega) (F_nl F494 (show ¬ (p = 1 ∧ (4 = 10 ∨ 4 = 11)) by omega) (F_nl F483 (show ¬ (p = 1 ∧ 6 ≤ 4 ∧ 4 ≤ 9) by omega) (W_j W476 (F_nl F54 (show ¬ (p < 0) by omega) (F_nl F47 (show ¬ (p = 1 ∧ 6 ≤ 4 ∧ 4 ≤ 9) by omega) (W_j W40 (F_nl F23 (show ¬ (p = 1 ∧ (4 = 10 ∨ 4 = 11)) by omega) (F_nl F15 (show ¬ (p = 1 ∧ 6 ≤ 4 ∧ 4 ≤ 9) by omega) rfl))))))))))))))))))) ?_
                  refine to_an (pc := 151) rw_33_151 rfl ?_
                  refine s_gR (pc := 152) rw_33_152 hG651 (by rcases hp with rfl | rfl <;> rfl) (v := (p + 3)) (by rcases hp with rfl | rfl <;> rfl) ?_
                  refine to_an (pc := 155) rw_33_155 rfl ?_
                  have c_656 : M654.2.1 p 2 = (M.2.1 p 2) := (F_n F650 (show ¬ (p = 1 ∧ 6 ≤ 2 ∧ 2 ≤ 9) by omega) (W_n W643 (by omega) c_642))
                  refine tt_gI (pc := 156) rw_33_156 (g_o hG651 (by rcases hp with rfl | rfl <;> rfl)) (v := (M.2.1 p 2)) c_656 ?_
                  refine s_ialk (pc := 159) rw_33_159 hG651 (by rcases hp with rfl | rfl <;> rfl) (n := 8) (by rcases hp with rfl | rfl <;> rfl) (by rcases hp with rfl | rfl <;> rfl) (A := (M.2.1 p 2).toInt) rfl (by omega) (by omega) (v := (M487.2.1 1 8)) (F_n F650 (show ¬ ((p + 3) = 1 ∧ 6 ≤ ((M.2.1 p 2).toInt).toNat ∧ ((M.2.1 p 2).toInt).toNat ≤ 9) by omega) (W_n W643 (by omega) (F_n F627 (show ¬ ((p + 3) = 1 ∧ (((M.2.1 p 2).toInt).toNat = 10 ∨ ((M.2.1 p 2).toInt).toNat = 11)) by omega) (W_n W606 (by omega) (W_n W601 (by omega) (W_e W596)))))) ?_
                  refine to_an (pc := 160) rw_33_160 rfl ?_
                  refine s_gR (pc := 161) rw_33_161 hG651 (by rcases hp with rfl | rfl <;> rfl) (v := (p + 4)) (by rcases hp with rfl | rfl <;> rfl) ?_
                  refine to_an (pc := 164) rw_33_164 rfl ?_
                  refine tt_gI (pc := 165) rw_33_165 (g_o hG651 (by rcases hp with rfl | rfl <;> rfl)) (v := (M.2.1 p 2)) c_656 ?_
                  refine s_ialk (pc := 168) rw_33_168 hG651 (by rcases hp with rfl | rfl <;> rfl) (n := 8) (by rcases hp with rfl | rfl <;> rfl) (by rcases hp with rfl | rfl <;> rfl) (A := (M.2.1 p 2).toInt) rfl (by omega) (by omega) (v := (M534.2.1 1 8)) (F_n F650 (show ¬ ((p + 4) = 1 ∧ 6 ≤ ((M.2.1 p 2).toInt).toNat ∧ ((M.2.1 p 2).toInt).toNat ≤ 9) by omega) (W_n W643 (by omega) (F_n F627 (show ¬ ((p + 4) = 1 ∧ (((M.2.1 p 2).toInt).toNat = 10 ∨ ((M.2.1 p 2).toInt).toNat = 11)) by omega) (W_n W606 (by omega) (W_e W601))))) ?_
                  refine s_s (pc := 169) rw_33_169 (by omega) (ls0 := [.int (M487.2.1 1 8), .int (M534.2.1 1 8)]) rfl (Nat.le_of_ble_eq_true rfl) (Nat.le_of_ble_eq_true rfl) rfl (to_rcs rfl rfl) rfl ?_
                  refine to_cl (pc := 0) rw_144_0 rfl (x := (1 : Int64)) rfl ?_
                  refine to_in (pc := 1) rw_144_1 rfl ?_
                  refine to_in (pc := 2) rw_144_2 rfl ?_
                  refine s_sub (pc := 3) rw_144_3 (A := (M534.2.1 1 8).toInt) (B := (M487.2.1 1 8).toInt) rfl rfl (by omega) (fun v661 e662 => ?_)
                  refine to_c (pc := 4) rw_144_4 (x := (1 : Int32)) rfl rfl ?_
                  refine s_add (pc := 5) rw_144_5 (A := v661.toInt) (B := 1) rfl rfl (by omega) (fun v663 e664 => ?_)
                  refine to_2s (pc := 6) rw_144_6 (v := ((1 : Int64) <<< (v663.toInt64 &&& 63))) rfl ?_
                  refine to_cl (pc := 7) rw_144_7 rfl (x := (1 : Int64)) rfl ?_
                  refine to_2l (pc := 8) rw_144_8 (v := (((1 : Int64) <<< (v663.toInt64 &&& 63)) - (1 : Int64))) rfl ?_
                  refine to_in (pc := 9) rw_144_9 rfl ?_
                  refine to_2s (pc := 10) rw_144_10 (v := ((((1 : Int64) <<< (v663.toInt64 &&& 63)) - (1 : Int64)) <<< ((M487.2.1 1 8).toInt64 &&& 63))) rfl ?_
                  refine to_rl (pc := 11) rw_144_11 ?_
                  refine to_2l (pc := 172) rw_33_172 (v := ((M.2.2.1 p 4) ||| ((((1 : Int64) <<< (v663.toInt64 &&& 63)) - (1 : Int64)) <<< ((M487.2.1 1 8).toInt64 &&& 63)))) rfl ?_
                  have j_665 := (PLc_f (fun a i z => F_n F650 (show ¬ (a = 1 ∧ 6 ≤ i ∧ i ≤ 9) by omega) rfl) (F_nl F650 (show ¬ (p = 1 ∧ 6 ≤ 4 ∧ 4 ≤ 9) by omega) rfl) (PLc_f (fun a i z => W_n W643 (by omega) rfl) (W_j W643 rfl) (PLc_f (fun a i z => F_n F627 (show ¬ (a = 1 ∧ (i = 10 ∨ i = 11)) by omega) rfl) (F_nl F627 (show ¬ (p = 1 ∧ (4 = 10 ∨ 4 = 11)) by omega) rfl) (PLc_f (fun a i z => W_n W606 (by omega) rfl) (W_j W606 rfl) (PLc_f (fun a i z => W_n W601 (by omega) rfl) (W_j W601 rfl) (PLc_f (fun a i z => W_n W596 (by omega) rfl) (W_j W596 rfl) (PLc_f (fun a i z => F_n F585 (show ¬ (a = 1 ∧ 6 ≤ i ∧ i ≤ 9) by omega) rfl) (F_nl F585 (show ¬ (p = 1 ∧ 6 ≤ 4 ∧ 4 ≤ 9) by omega) rfl) (PLc_f (fun a i z => F_n F569 (show ¬ (a = 1 ∧ (i = 10 ∨ i = 11)) by omega) rfl) (F_nl F569 (show ¬ (p = 1 ∧ (4 = 10 ∨ 4 = 11)) by omega) rfl) j_567))))))))
                  have r_666 : (M654.2.1 (p + 1) sg.2.1.toNat).toInt = (M19.2.1 1 8).toInt := by rw [show sg.2.1.toNat = ((M.2.1 p 2).toInt).toNat by omega, show M654.2.1 (p + 1) ((M.2.1 p 2).toInt).toNat = (M19.2.1 1 8) from (F_n F650 (show ¬ ((p + 1) = 1 ∧ 6 ≤ ((M.2.1 p 2).toInt).toNat ∧ ((M.2.1 p 2).toInt).toNat ≤ 9) by omega) (W_n W643 (by omega) (F_n F627 (show ¬ ((p + 1) = 1 ∧ (((M.2.1 p 2).toInt).toNat = 10 ∨ ((M.2.1 p 2).toInt).toNat = 11)) by omega) (W_n W606 (by omega) (W_n W601 (by omega) (W_n W596 (by omega) (F_n F585 (show ¬ ((p + 1) = 1 ∧ 6 ≤ ((M.2.1 p 2).toInt).toNat ∧ ((M.2.1 p 2).toInt).toNat ≤ 9) by omega) (F_n F569 (show ¬ ((p + 1) = 1 ∧ (((M.2.1 p 2).toInt).toNat = 10 ∨ ((M.2.1 p 2).toInt).toNat = 11)) by omega) (F_n F549 (show ¬ ((p + 1) = 1 ∧ (((M.2.1 p 2).toInt).toNat = 10 ∨ ((M.2.1 p 2).toInt).toNat = 11)) by omega) (F_n F530 (show ¬ ((p + 1) = 1 ∧ 6 ≤ ((M.2.1 p 2).toInt).toNat ∧ ((M.2.1 p 2).toInt).toNat ≤ 9) by omega) (F_n F514 (show ¬ ((p + 1) = 1 ∧ (((M.2.1 p 2).toInt).toNat = 10 ∨ ((M.2.1 p 2).toInt).toNat = 11)) by omega) (F_n F494 (show ¬ ((p + 1) = 1 ∧ (((M.2.1 p 2).toInt).toNat = 10 ∨ ((M.2.1 p 2).toInt).toNat = 11)) by omega) (F_n F483 (show ¬ ((p + 1) = 1 ∧ 6 ≤ ((M.2.1 p 2).toInt).toNat ∧ ((M.2.1 p 2).toInt).toNat ≤ 9) by omega) (W_n W476 (by omega) (F_n F54 (show ¬ ((p + 1) < 0) by omega) (F_n F47 (show ¬ ((p + 1) = 1 ∧ 6 ≤ ((M.2.1 p 2).toInt).toNat ∧ ((M.2.1 p 2).toInt).toNat ≤ 9) by omega) (W_e W40)))))))))))))))))]
                  have r_667 : (M654.2.1 (p + 2) sg.2.1.toNat).toInt = r53.toInt := by rw [show sg.2.1.toNat = ((M.2.1 p 2).toInt).toNat by omega, show M654.2.1 (p + 2) ((M.2.1 p 2).toInt).toNat = r53 from (F_n F650 (show ¬ ((p + 2) = 1 ∧ 6 ≤ ((M.2.1 p 2).toInt).toNat ∧ ((M.2.1 p 2).toInt).toNat ≤ 9) by omega) (W_n W643 (by omega) (F_n F627 (show ¬ ((p + 2) = 1 ∧ (((M.2.1 p 2).toInt).toNat = 10 ∨ ((M.2.1 p 2).toInt).toNat = 11)) by omega) (W_n W606 (by omega) (W_n W601 (by omega) (W_n W596 (by omega) (F_n F585 (show ¬ ((p + 2) = 1 ∧ 6 ≤ ((M.2.1 p 2).toInt).toNat ∧ ((M.2.1 p 2).toInt).toNat ≤ 9) by omega) (F_n F569 (show ¬ ((p + 2) = 1 ∧ (((M.2.1 p 2).toInt).toNat = 10 ∨ ((M.2.1 p 2).toInt).toNat = 11)) by omega) (F_n F549 (show ¬ ((p + 2) = 1 ∧ (((M.2.1 p 2).toInt).toNat = 10 ∨ ((M.2.1 p 2).toInt).toNat = 11)) by omega) (F_n F530 (show ¬ ((p + 2) = 1 ∧ 6 ≤ ((M.2.1 p 2).toInt).toNat ∧ ((M.2.1 p 2).toInt).toNat ≤ 9) by omega) (F_n F514 (show ¬ ((p + 2) = 1 ∧ (((M.2.1 p 2).toInt).toNat = 10 ∨ ((M.2.1 p 2).toInt).toNat = 11)) by omega) (F_n F494 (show ¬ ((p + 2) = 1 ∧ (((M.2.1 p 2).toInt).toNat = 10 ∨ ((M.2.1 p 2).toInt).toNat = 11)) by omega) (F_n F483 (show ¬ ((p + 2) = 1 ∧ 6 ≤ ((M.2.1 p 2).toInt).toNat ∧ ((M.2.1 p 2).toInt).toNat ≤ 9) by omega) (W_e W476))))))))))))))]
                  have r_668 : (M654.2.1 (p + 3) sg.2.1.toNat).toInt = (M487.2.1 1 8).toInt := by rw [show sg.2.1.toNat = ((M.2.1 p 2).toInt).toNat by omega, show M654.2.1 (p + 3) ((M.2.1 p 2).toInt).toNat = (M487.2.1 1 8) from (F_n F650 (show ¬ ((p + 3) = 1 ∧ 6 ≤ ((M.2.1 p 2).toInt).toNat ∧ ((M.2.1 p 2).toInt).toNat ≤ 9) by omega) (W_n W643 (by omega) (F_n F627 (show ¬ ((p + 3) = 1 ∧ (((M.2.1 p 2).toInt).toNat = 10 ∨ ((M.2.1 p 2).toInt).toNat = 11)) by omega) (W_n W606 (by omega) (W_n W601 (by omega) (W_e W596))))))]
                  have r_669 : (M654.2.1 (p + 4) sg.2.1.toNat).toInt = (M534.2.1 1 8).toInt := by rw [show sg.2.1.toNat = ((M.2.1 p 2).toInt).toNat by omega, show M654.2.1 (p + 4) ((M.2.1 p 2).toInt).toNat = (M534.2.1 1 8) from (F_n F650 (show ¬ ((p + 4) = 1 ∧ 6 ≤ ((M.2.1 p 2).toInt).toNat ∧ ((M.2.1 p 2).toInt).toNat ≤ 9) by omega) (W_n W643 (by omega) (F_n F627 (show ¬ ((p + 4) = 1 ∧ (((M.2.1 p 2).toInt).toNat = 10 ∨ ((M.2.1 p 2).toInt).toNat = 11)) by omega) (W_n W606 (by omega) (W_e W601)))))]
                  have r_670 : (M654.2.1 (p + 5) sg.2.1.toNat).toInt = (M589.2.1 1 8).toInt := by rw [show sg.2.1.toNat = ((M.2.1 p 2).toInt).toNat by omega, show M654.2.1 (p + 5) ((M.2.1 p 2).toInt).toNat = (M589.2.1 1 8) from (F_n F650 (show ¬ ((p + 5) = 1 ∧ 6 ≤ ((M.2.1 p 2).toInt).toNat ∧ ((M.2.1 p 2).toInt).toNat ≤ 9) by omega) (W_e W643))]
                  refine s_pJ (pc := 173) rw_33_173 hG651 (by rcases hp with rfl | rfl <;> rfl) (fun M672 W671 => ?_)
                  have hG673 := g_wl hG651 W671
                  have F674 := FR.wl F655 W671 (show p = 1 ∧ 6 ≤ 4 ∧ 4 ≤ 11 ∨ p = p ∧ 2 ≤ 4 ∨ p + 1 ≤ p ∧ p ≤ p + 5 by omega)
                  refine to_an (pc := 176) rw_33_176 rfl ?_
                  refine to_dupr (pc := 177) rw_33_177 ?_
                  have c_675 : M672.2.1 p 2 = (M.2.1 p 2) := (W_l W671 c_656)
                  refine tt_gI (pc := 178) rw_33_178 (g_o hG673 (by rcases hp with rfl | rfl <;> rfl)) (v := (M.2.1 p 2)) c_675 ?_
                  refine to_c (pc := 181) rw_33_181 (x := (1 : Int32)) rfl rfl ?_
                  refine s_add (pc := 182) rw_33_182 (A := (M.2.1 p 2).toInt) (B := 1) rfl rfl (by omega) (fun v676 e677 => ?_)
                  refine s_pI (pc := 183) rw_33_183 hG673 (by rcases hp with rfl | rfl <;> rfl) (fun M679 W678 => ?_)
                  have hG680 := g_w hG673 W678 (A := v676.toInt) rfl (lo := 0) (hi := 8) (by rcases hp with rfl | rfl <;> rfl) (by rcases hp with rfl | rfl <;> rfl) (by omega) (by omega)
                  have F681 := FR.w F674 W678 (show p = 1 ∧ 6 ≤ 2 ∧ 2 ≤ 11 ∨ p = p ∧ 2 ≤ 2 ∨ p + 1 ≤ p ∧ p ≤ p + 5 by omega)
                  refine to_c (pc := 186) rw_33_186 (x := (1 : Int32)) rfl rfl ?_
                  refine s_r1 (pc := 187) rw_33_187 (A := 1) rfl (by omega) ?_
                  have j_682 := (CS_f (fun a i z => W_n W678 (by omega) rfl) (CS_f (fun a i z => W_l W671 rfl) p_652))
                  have c_683 : M679.2.1 1 9 = (M654.2.1 1 9) := (W_n W678 (by omega) (W_l W671 rfl))
                  have t_684 : (M679.2.1 1 9).toInt = (M654.2.1 1 9).toInt := congrArg Int32.toInt c_683
                  have z_685 : x_fC t nn sg (x_ns t nn a) := by unfold x_fC; omega
                  have j_686 := PLc_p (nm := (x_val t nn (x_ns t nn a))) (kd := 3) (f := (x_val t nn (x_ns t nn (x_ns t nn (x_ns t nn a))))) (l := (x_val t nn (x_ns t nn (x_ns t nn (x_ns t nn (x_ns t nn a)))))) (c := (x_val t nn (x_ns t nn (x_ns t nn (x_ns t nn (x_ns t nn (x_ns t nn a))))))) j_665 W671 W678 (x_or_e q3 (by omega) (by omega)) (by omega) (by omega) (r_666.trans (by omega)) (r_667.trans (by omega)) (r_668.trans (by omega)) (r_669.trans (by omega)) (r_670.trans (by omega)) (by omega) (by omega) (by omega) (by omega)
                  have j_687 := (CW_f (fun k hk9 => W_j W678 rfl) (CW_f (fun k hk9 => L_n W671 (by omega) rfl) (CW_f (fun k hk9 => F_nl F650 (show ¬ ((p + 8) = 1 ∧ 6 ≤ k ∧ k ≤ 9) by omega) rfl) (CW_f (fun k hk9 => W_j W643 rfl) (CW_f (fun k hk9 => F_nl F627 (show ¬ ((p + 8) = 1 ∧ (k = 10 ∨ k = 11)) by omega) rfl) (CW_f (fun k hk9 => W_j W606 rfl) (CW_f (fun k hk9 => W_j W601 rfl) (CW_f (fun k hk9 => W_j W596 rfl) (CW_f (fun k hk9 => F_nl F585 (show ¬ ((p + 8) = 1 ∧ 6 ≤ k ∧ k ≤ 9) by omega) rfl) (CW_f (fun k hk9 => F_nl F569 (show ¬ ((p + 8) = 1 ∧ (k = 10 ∨ k = 11)) by omega) rfl) (CW_f (fun k hk9 => F_nl F549 (show ¬ ((p + 8) = 1 ∧ (k = 10 ∨ k = 11)) by omega) rfl) (CW_f (fun k hk9 => F_nl F530 (show ¬ ((p + 8) = 1 ∧ 6 ≤ k ∧ k ≤ 9) by omega) rfl) (CW_f (fun k hk9 => F_nl F514 (show ¬ ((p + 8) = 1 ∧ (k = 10 ∨ k = 11)) by omega) rfl) (CW_f (fun k hk9 => F_nl F494 (show ¬ ((p + 8) = 1 ∧ (k = 10 ∨ k = 11)) by omega) rfl) (CW_f (fun k hk9 => F_nl F483 (show ¬ ((p + 8) = 1 ∧ 6 ≤ k ∧ k ≤ 9) by omega) rfl) (CW_f (fun k hk9 => W_j W476 rfl) (CW_f (fun k hk9 => F_nl F54 (show ¬ ((p + 8) < 0) by omega) rfl) (CW_f (fun k hk9 => F_nl F47 (show ¬ ((p + 8) = 1 ∧ 6 ≤ k ∧ k ≤ 9) by omega) rfl) (CW_f (fun k hk9 => W_j W40 rfl) (CW_f (fun k hk9 => F_nl F23 (show ¬ ((p + 8) = 1 ∧ (k = 10 ∨ k = 11)) by omega) rfl) (CW_f (fun k hk9 => F_nl F15 (show ¬ ((p + 8) = 1 ∧ 6 ≤ k ∧ k ≤ 9) by omega) rfl) q4)))))))))))))))))))))
                  exact h (1 : Int32) M679 hG680 F681 (by omega) (by omega) j_682 (fun z => absurd z (by decide)) (fun _ => ⟨_, (by rw [show (M679.2.1 1 9).toInt = (x_ns t nn (x_ns t nn (x_ns t nn (x_ns t nn (x_ns t nn (x_ns t nn a)))))) by omega]; exact x_field_3 z_685 (by omega)), ⟨j_686, CW_p j_687⟩, (by show sg.2.1 + 1 + sg.2.2.1 = _; omega)⟩)
  · refine to_an (pc := 9) rw_33_9 rfl ?_
    refine to_c (pc := 10) rw_33_10 (x := (2 : Int32)) rfl rfl ?_
    refine s_v (pc := 11) rw_33_11 (by omega) (ls0 := [.ref 1, .int (2 : Int32)]) rfl (Nat.le_of_ble_eq_true rfl) (Nat.le_of_ble_eq_true rfl) rfl (to_rc rfl rfl rfl (g_o hG rfl)) rfl ?_
    refine to_an (pc := 0) rw_84_0 rfl ?_
    refine to_in (pc := 1) rw_84_1 rfl ?_
    refine s_pI (pc := 2) rw_84_2 hG rfl (fun M689 W688 => ?_)
    have hG690 := g_wf hG W688 rfl rfl (by decide)
    have F691 := FR.w F0 W688 (show 1 = 1 ∧ 6 ≤ 10 ∧ 10 ≤ 11 ∨ 1 = p ∧ 2 ≤ 10 ∨ p + 1 ≤ 1 ∧ 1 ≤ p + 5 by omega)
    refine to_an (pc := 5) rw_84_5 rfl ?_
    refine to_an (pc := 6) rw_84_6 rfl ?_
    have c_692 : M689.2.1 1 9 = (M.2.1 1 9) := (W_n W688 (by decide) rfl)
    refine tt_gI (pc := 7) rw_84_7 (g_o hG690 rfl) (v := (M.2.1 1 9)) c_692 ?_
    refine s_pI (pc := 10) rw_84_10 hG690 rfl (fun M694 W693 => ?_)
    have hG695 := g_wf hG690 W693 rfl rfl (by decide)
    have F696 := FR.w F691 W693 (show 1 = 1 ∧ 6 ≤ 11 ∧ 11 ≤ 11 ∨ 1 = p ∧ 2 ≤ 11 ∨ p + 1 ≤ 1 ∧ 1 ≤ p + 5 by omega)
    refine to_c (pc := 13) rw_84_13 (x := (0 : Int32)) rfl rfl ?_
    refine s_r1 (pc := 14) rw_84_14 (A := 0) rfl (by omega) ?_
    refine s_r1 (pc := 14) rw_33_14 (A := 0) rfl (by omega) ?_
    have k_697 : (0 : Int32).toInt = 0 := rfl
    have j_698 := (CS_f (fun a i z => W_n W693 (by omega) rfl) (CS_f (fun a i z => W_n W688 (by omega) rfl) q1))
    exact h (0 : Int32) M694 hG695 F696 (by omega) (by omega) j_698 (fun _ => x_field_n (fun h9 => by unfold x_fC at h9; omega)) (fun z => absurd z (by decide))
