set_option maxRecDepth 4000 in
set_option maxHeartbeats 0 in
theorem LW_6 {X : mm_X} {d L : Nat} {M : mm_M} {Q : Option Value → mm_M → Prop} {i : Int32} {u5 u6 : Value} (hX : g_X X) (hW : g_W X) (hW2 : g_W2 X) (hL : (X 0).1 = L) (h3 : L ≤ 3072) (hd : 40 ≤ d) (hi : 0 ≤ i.toInt) (hi2 : i.toInt + 6 ≤ (L : Int)) (H : LI10 M) (h : ∀ (M1 : mm_M) (v5 v6 : Value), LI10 M1 → M1.1.2.1 ≤ M.1.2.1 + 1 → M1.1.2.2.1 ≤ M.1.2.2.1 + 6 → mm_T X d 0 1313 [.ref mm_ext, .ref 0, .ref 77, .ref 125, .int i, v5, v6] [] M1 Q) : mm_T X d 0 386 [.ref mm_ext, .ref 0, .ref 77, .ref 125, .int i, u5, u6] [] M Q := by
  obtain ⟨⟨⟨⟨⟨⟨⟨⟨⟨hG, ⟨jPI, jNI, jQI, jPQE⟩, ⟨jFA, jWC, jNJ, jPS, jKQ⟩, jJ, jE⟩, jTP, jW9⟩, jNE, jCC⟩, -⟩, jOV⟩, jW8⟩, jNN⟩, jAN⟩, jG8, jPKA⟩ := H
  have b_1 := g_b hG (a := 77) (i := 7) (lo := 0) (hi := 500) rfl rfl
  have b_2 := g_b hG (a := 77) (i := 6) (lo := 0) (hi := 500) rfl rfl
  have b_3 := g_b hG (a := 1) (i := 1) (lo := 0) (hi := 500) rfl rfl
  have b_4 := g_b hG (a := 77) (i := 1) (lo := 0) (hi := 500) rfl rfl
  have b_5 := g_b hG (a := 0) (i := 12) (lo := 0) (hi := 30) rfl rfl
  have b_6 := g_b hG (a := 77) (i := 28) (lo := 0) (hi := 30) rfl rfl
  have b_7 := g_b hG (a := 6) (i := 0) (lo := 0) (hi := 150) rfl rfl
  have b_8 := g_b hG (a := 77) (i := 29) (lo := 0) (hi := 150) rfl rfl
  refine to_an (pc := 386) rw_0_386 rfl (to_an (pc := 387) rw_0_387 rfl (to_i (pc := 388) rw_0_388 rfl (to_c (pc := 390) rw_0_390 (x := (1 : Int32)) rfl rfl (s_add (pc := 391) rw_0_391 (A := i.toInt) (B := 1) rfl rfl (by omega) (fun v9 e10 => s_x0 (pc := 392) rw_0_392 hL (A := v9.toInt) rfl (by omega) (by omega) (fun v11 e12 => to_an (pc := 393) rw_0_393 rfl (to_i (pc := 394) rw_0_394 rfl (to_c (pc := 396) rw_0_396 (x := (2 : Int32)) rfl rfl (s_add (pc := 397) rw_0_397 (A := i.toInt) (B := 2) rfl rfl (by omega) (fun v13 e14 => s_x0 (pc := 398) rw_0_398 hL (A := v13.toInt) rfl (by omega) (by omega) (fun v15 e16 => to_an (pc := 399) rw_0_399 rfl ?_)))))))))))
  obtain ⟨sg, hs1, hs2⟩ := (AN_a jAN)
  refine s_lkE (pc := 400) rw_0_400 (by omega) rfl hG hs1 (fun r17 M22 hG18 K19 K20 K21 n_a n_b lk_1 lk_2 lk_4 lk_3 => to_is (pc := 403) rw_0_403 (ls2 := [.ref mm_ext, .ref 0, .ref 77, .ref 125, .int i, .int r17, u6]) rfl rfl (to_an (pc := 405) rw_0_405 rfl (to_an (pc := 406) rw_0_406 rfl (to_i (pc := 407) rw_0_407 rfl (to_c (pc := 409) rw_0_409 (x := (1 : Int32)) rfl rfl (s_addk (pc := 410) rw_0_410 (A := i.toInt) (B := 1) rfl rfl (by omega) (v := v9) e10 (s_x0k (pc := 411) rw_0_411 hL (A := v9.toInt) rfl (by omega) (by omega) (v := v11) e12 (to_an (pc := 412) rw_0_412 rfl (to_i (pc := 413) rw_0_413 rfl (to_c (pc := 415) rw_0_415 (x := (2 : Int32)) rfl rfl (s_addk (pc := 416) rw_0_416 (A := i.toInt) (B := 2) rfl rfl (by omega) (v := v13) e14 ?_)))))))))))
  refine s_x0k (pc := 417) rw_0_417 hL (A := v13.toInt) rfl (by omega) (by omega) (v := v15) e16 (s_v (pc := 418) rw_0_418 (dp0 hd (by decide)) (ls0 := [.ref 77, .int v11, .int v15]) rfl (Nat.le_of_ble_eq_true rfl) (Nat.le_of_ble_eq_true rfl) rfl (to_rc rfl rfl rfl (g_o hG18 rfl)) rfl ?_)
  have j_27 := (PLk_f (fun a i z => K_n K19 rfl) hs2.1)
  refine E_182 hX (dp1 hd (by decide)) hG18 j_27 (f := v11) (w := v15) (sg := sg) (fun r28 M34 hG30 F29 p_31 p_32 p_33 => ?_)
  have n_35 : M34.1.2.1 = M22.1.2.1 ∧ M34.1.2.2.1 = M22.1.2.2.1 := by rw [F29.1]; exact ⟨rfl, rfl⟩
  refine to_is (pc := 421) rw_0_421 (ls2 := [.ref mm_ext, .ref 0, .ref 77, .ref 125, .int i, .int r17, .int r28]) rfl rfl (to_go (pc := 423) rw_0_423 ?_)
  have c_37 : M34.2.1 77 7 = (M.2.1 77 7) := (F_n F29 (show ¬ (77 = 77 ∧ 7 = 2) by decide) (K_n K19 rfl))
  have t_38 : (M34.2.1 77 7).toInt = (M.2.1 77 7).toInt := congrArg Int32.toInt c_37
  have c_39 : M34.2.1 77 6 = (M.2.1 77 6) := (F_n F29 (show ¬ (77 = 77 ∧ 6 = 2) by decide) (K_n K19 rfl))
  have t_40 : (M34.2.1 77 6).toInt = (M.2.1 77 6).toInt := congrArg Int32.toInt c_39
  have c_41 : M34.2.1 1 1 = (M.2.1 1 1) := (F_n F29 (show ¬ (1 = 77 ∧ 1 = 2) by decide) (K_n K19 rfl))
  have t_42 : (M34.2.1 1 1).toInt = (M.2.1 1 1).toInt := congrArg Int32.toInt c_41
  have c_43 : M34.2.1 77 1 = (M.2.1 77 1) := (F_n F29 (show ¬ (77 = 77 ∧ 1 = 2) by decide) (K_n K19 rfl))
  have t_44 : (M34.2.1 77 1).toInt = (M.2.1 77 1).toInt := congrArg Int32.toInt c_43
  have c_45 : M34.2.1 0 12 = (M.2.1 0 12) := (F_n F29 (show ¬ (0 = 77 ∧ 12 = 2) by decide) (K_n K19 rfl))
  have t_46 : (M34.2.1 0 12).toInt = (M.2.1 0 12).toInt := congrArg Int32.toInt c_45
  have c_47 : M34.2.1 77 28 = (M.2.1 77 28) := (F_n F29 (show ¬ (77 = 77 ∧ 28 = 2) by decide) (K_n K19 rfl))
  have t_48 : (M34.2.1 77 28).toInt = (M.2.1 77 28).toInt := congrArg Int32.toInt c_47
  have c_49 : M34.2.1 17 4 = (M.2.1 17 4) := (F_n F29 (show ¬ (17 = 77 ∧ 4 = 2) by decide) (K_n K19 rfl))
  have t_50 : (M34.2.1 17 4).toInt = (M.2.1 17 4).toInt := congrArg Int32.toInt c_49
  have c_51 : M34.2.1 77 41 = (M.2.1 77 41) := (F_n F29 (show ¬ (77 = 77 ∧ 41 = 2) by decide) (K_n K19 rfl))
  have t_52 : (M34.2.1 77 41).toInt = (M.2.1 77 41).toInt := congrArg Int32.toInt c_51
  have c_53 : M34.2.1 6 0 = (M.2.1 6 0) := (F_n F29 (show ¬ (6 = 77 ∧ 0 = 2) by decide) (K_n K19 rfl))
  have t_54 : (M34.2.1 6 0).toInt = (M.2.1 6 0).toInt := congrArg Int32.toInt c_53
  have c_55 : M34.2.1 77 29 = (M.2.1 77 29) := (F_n F29 (show ¬ (77 = 77 ∧ 29 = 2) by decide) (K_n K19 rfl))
  have t_56 : (M34.2.1 77 29).toInt = (M.2.1 77 29).toInt := congrArg Int32.toInt c_55
  have j_57 := (PI_f (tg_548 F29) (PI_f (fun a i z => K_n K19 rfl) jPI))
  have j_58 := (NI_f (tg_549 F29) (NI_f (fun a i z => K_n K19 rfl) jNI))
  have j_59 := (QI_f (tg_550 F29) (QI_f (fun a i z => K_n K19 rfl) jQI))
  have j_60 := (PQE_r F29.2.1 (PQE_r K20 jPQE))
  have j_61 := (FA_f (tg_551 F29) (FA_f (fun a i z => K_n K19 rfl) jFA))
  have j_62 := (WC_f (tg_552 F29) (WC_f (fun a i z => K_n K19 rfl) jWC))
  have j_63 := (NJ_f (tg_554 F29) (NJ_f (fun a i z => K_n K19 rfl) jNJ))
  have j_64 := (PS_f (tg_555 F29) (PS_f (fun a i z => K_n K19 rfl) jPS))
  have j_65 := (KQ_f (tg_557 F29) (KQ_f (fun a i z => K_n K19 rfl) jKQ))
  have j_66 := (TP_f (tg_558 F29) (TP_f (fun a i z => K_n K19 rfl) jTP))
  have j_67 := (W9_f (tg_560 F29) (W9_f (fun a i z => K_n K19 rfl) jW9))
  have j_68 := (AN_F F29 tg_626 (AN_K K19 K20 K21 jAN))
  have j_69 := (G8_F F29 (fun a i z => show ¬ (a = 77 ∧ i = 2) by (first | (clear p_31 p_32 p_33; omega) | omega)) (G8_K K19 K20 K21 jG8))
  have j_70 := (PKA_F F29 (fun a i z => show ¬ (a = 77 ∧ i = 2) by (first | (clear p_31 p_32 p_33; omega) | omega)) (PKA_K K19 K20 K21 jPKA))
  have j_71 := (NE_r F29.2.1 (NE_r K20 jNE))
  have j_72 := (W8_f (tg_561 F29) (W8_f (fun a i z => K_n K19 rfl) jW8))
  exact h M34 (.int r17) (.int r28) ⟨⟨⟨⟨⟨⟨⟨⟨⟨hG30, ⟨j_57, j_58, j_59, j_60⟩, ⟨j_61, j_62, j_63, j_64, j_65⟩, by (first | (clear p_31 p_32 p_33; omega) | omega), by (first | (clear p_31 p_32 p_33; omega) | omega)⟩, j_66, j_67⟩, j_71, by (first | (clear p_31 p_32 p_33; omega) | omega)⟩, AN_a j_68⟩, by (first | (clear p_31 p_32 p_33; omega) | omega)⟩, j_72⟩, by (first | (clear p_31 p_32 p_33; omega) | omega)⟩, j_68⟩, j_69, j_70⟩ (by (first | (clear p_31 p_32 p_33; omega) | omega)) (by (first | (clear p_31 p_32 p_33; omega) | omega))
