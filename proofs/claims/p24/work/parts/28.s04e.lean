set_option maxRecDepth 4000 in
set_option maxHeartbeats 0 in
theorem E_57 {X : mm_X} {d : Nat} {M : mm_M} {Q : Option Value → mm_M → Prop} {q : Nat} {p : Nat} {t : Nat → Int} {nn : Int} {a : Int} {sg : x_S} (hX : g_X X) (hd : 38 ≤ d) (hG : g_G M) (hq : q = 67 ∨ q = 72) (hp : p = 49 ∨ p = 58) (q1 : CS M t nn) (q2 : (M.2.1 1 9).toInt = a) (q3 : PLs M p sg) (h : ∀ (r : Int32) (M1 : mm_M), g_G M1 → FR (md_qq q) M M1 → (0 ≤ r.toInt) → (r.toInt ≤ 1) → CS M1 t nn → (r.toInt = 1 → 0 < (M1.2.1 q 4).toInt) → ((r.toInt = 1 → ∃ P2 : x_GP, LQc M1 q P2 ∧ (M1.2.1 q 4).toInt = P2.2 ∧ x_gg t nn sg 0 0 0 [] x_P0 a = Sum.inr P2)) → ((r.toInt = 0 → x_gg t nn sg 0 0 0 [] x_P0 a = Sum.inl ((M1.2.1 1 10).toInt, (M1.2.1 1 11).toInt))) → Q (some (.int r)) M1) : mm_T X d 57 0 [.ref q, .ref 1, .ref p] [] M Q := by
  have F0 : FR (md_qq q) M M := FR.rf
  have c_1 := CS_u q1 (a := a) (by omega)
  unfold x_C at c_1
  refine to_an (pc := 0) rw_57_0 rfl (s_v (pc := 1) rw_57_1 (dp0 hd (by decide)) (ls0 := [.ref q]) rfl (Nat.le_of_ble_eq_true rfl) (Nat.le_of_ble_eq_true rfl) rfl (to_rc rfl rfl rfl (g_o hG (by rcases hq with rfl | rfl <;> rfl))) rfl (to_an (pc := 0) rw_56_0 rfl (to_c (pc := 1) rw_56_1 (x := (0 : Int32)) rfl rfl (s_pI (pc := 2) rw_56_2 hG (by rcases hq with rfl | rfl <;> rfl) (fun M3 W2 => ?_)))))
  have hG4 := g_w hG W2 (A := 0) rfl (lo := 0) (hi := 40) (by rcases hq with rfl | rfl <;> rfl) (by rcases hq with rfl | rfl <;> rfl) (by omega) (by omega)
  have F5 := FR.w F0 W2 (show q = 1 ∧ 5 ≤ 4 ∨ 3 ≤ q ∧ q ≤ 5 ∨ q ≤ q ∧ q ≤ q + 4 by omega)
  refine to_an (pc := 5) rw_56_5 rfl (to_c (pc := 6) rw_56_6 (x := (0 : Int32)) rfl rfl (s_pI (pc := 7) rw_56_7 hG4 (by rcases hq with rfl | rfl <;> rfl) (fun M7 W6 => ?_)))
  have hG8 := g_w hG4 W6 (A := 0) rfl (lo := 0) (hi := 40) (by rcases hq with rfl | rfl <;> rfl) (by rcases hq with rfl | rfl <;> rfl) (by omega) (by omega)
  have F9 := FR.w F5 W6 (show q = 1 ∧ 5 ≤ 5 ∨ 3 ≤ q ∧ q ≤ 5 ∨ q ≤ q ∧ q ≤ q + 4 by omega)
  refine to_rv (pc := 10) rw_56_10 (to_an (pc := 4) rw_57_4 rfl (to_an (pc := 5) rw_57_5 rfl (to_an (pc := 6) rw_57_6 rfl (to_c (pc := 7) rw_57_7 (x := (0 : Int32)) rfl rfl (s_v (pc := 8) rw_57_8 (dp0 hd (by decide)) (ls0 := [.ref q, .ref 1, .ref p, .int (0 : Int32), .null]) rfl (Nat.le_of_ble_eq_true rfl) (Nat.le_of_ble_eq_true rfl) rfl (to_rc rfl rfl rfl (g_o hG8 (by rcases hq with rfl | rfl <;> rfl))) rfl ?_)))))
  have k_10 : (0 : Int32).toInt = 0 := rfl
  have c_11 : M7.2.1 q 4 = (0 : Int32) := (W_n W6 (by omega) (W_e W2))
  have t_12 : (M7.2.1 q 4).toInt = (0 : Int32).toInt := congrArg Int32.toInt c_11
  have c_13 : M7.2.1 q 5 = (0 : Int32) := (W_e W6)
  have t_14 : (M7.2.1 q 5).toInt = (0 : Int32).toInt := congrArg Int32.toInt c_13
  have z_15 := LQc_0 (q := q) (M := M7) (by omega)
  have z_16 : x_P0.2 = 0 := rfl
  have z_17 : x_wc [] = 0 := rfl
  have j_18 := (CS_f (fun a i z => W_n W6 (by omega) rfl) (CS_f (fun a i z => W_n W2 (by omega) rfl) q1))
  have c_19 : M7.2.1 1 9 = (M.2.1 1 9) := (W_n W6 (by omega) (W_n W2 (by omega) rfl))
  have t_20 : (M7.2.1 1 9).toInt = (M.2.1 1 9).toInt := congrArg Int32.toInt c_19
  have j_21 := (PLs_f (fun a i z => W_n W6 (by omega) rfl) (PLs_f (fun a i z => W_n W2 (by omega) rfl) q3))
  refine E_58 hX (by omega) hG8 hq hp (by omega) (by omega) (by omega) j_18 (by omega) j_21 z_15 (by omega) (fun P => ⟨rfl, rfl⟩) (q := q) (p := p) (o := (0 : Int32)) (t := t) (nn := nn) (a := a) (sg := sg) (b := 0) (W9 := []) (P9 := x_P0) (fun r22 M32 hG24 F23 p_25 p_26 p_27 p_28 p_29 p_30 p_31 => ?_)
  have F33 := FR.c F9 F23 (fun a i z => show a = 1 ∧ 5 ≤ i ∨ 3 ≤ a ∧ a ≤ 5 ∨ q ≤ a ∧ a ≤ q + 4 by have z : a = 1 ∧ 5 ≤ i ∨ 3 ≤ a ∧ a ≤ 5 ∨ q ≤ a ∧ a ≤ q + 4 := z; omega)
  have b_34 := g_b hG24 (a := q) (i := 4) (lo := 0) (hi := 40) (by rcases hq with rfl | rfl <;> rfl) (by rcases hq with rfl | rfl <;> rfl)
  rcases (show r22.toInt = 0 ∨ r22.toInt = 1 by (first | (clear p_28 p_29 p_30 p_31; omega) | omega)) with h35 | h35
  · skip
    have p_36 := p_30 (by (first | (clear p_28 p_29 p_30 p_31; omega) | omega))
    clear p_28 p_29 p_30 p_31
    have z_37 := (g_v (s := sg) rfl rfl (show (0 : Int) = (M7.2.1 q 4).toInt by (first | (clear p_28 p_29 p_30 p_31; omega) | omega)) rfl rfl).trans p_36
    refine b_ieq_t (pc := 11) rw_57_11 (A := r22.toInt) rfl (by (first | (clear p_28 p_29 p_30 p_31; omega) | omega)) (to_c (pc := 25) rw_57_25 (x := (0 : Int32)) rfl rfl (s_r1 (pc := 26) rw_57_26 (A := 0) rfl (by decide) ?_))
    exact h (0 : Int32) M32 hG24 F33 (by decide) (by decide) p_27 (by (first | (clear p_28 p_29 p_30 p_31; omega) | omega)) (fun z => by exfalso; omega) (fun _ => ginl (by (first | (clear p_28 p_29 p_30 p_31; omega) | omega)) (by (first | (clear p_28 p_29 p_30 p_31; omega) | omega)) z_37)
  · skip
    have p_38 := p_28 (by (first | (clear p_28 p_29 p_30 p_31; omega) | omega))
    have p_39 := p_29 (by (first | (clear p_28 p_29 p_30 p_31; omega) | omega))
    have p_40 := p_31 (by (first | (clear p_28 p_29 p_30 p_31; omega) | omega))
    clear p_28 p_29 p_30 p_31
    obtain ⟨P41, P41a, P41b, P41c⟩ := p_39
    have z_42 := P41a.1
    have z_43 := (g_v (s := sg) rfl rfl (show (0 : Int) = (M7.2.1 q 4).toInt by (first | (clear p_28 p_29 p_30 p_31; omega) | omega)) rfl rfl).trans P41c
    have c_44 := CS_u p_27 (a := (M32.2.1 1 9).toInt) (by (first | (clear p_28 p_29 p_30 p_31; omega) | omega))
    unfold x_C at c_44
    have z_45 := x_kx_q (x_val t nn (M32.2.1 1 9).toInt)
    refine b_ieq_f (pc := 11) rw_57_11 (A := r22.toInt) rfl (by (first | (clear p_28 p_29 p_30 p_31; omega) | omega)) (to_an (pc := 14) rw_57_14 rfl (s_v (pc := 15) rw_57_15 (dp0 hd (by decide)) (ls0 := [.ref 1]) rfl (Nat.le_of_ble_eq_true rfl) (Nat.le_of_ble_eq_true rfl) rfl (to_rc rfl rfl rfl (g_o hG24 rfl)) rfl (to_an (pc := 0) rw_87_0 rfl (tt_gI (pc := 1) rw_87_1 (g_o hG24 rfl) (v := (M32.2.1 1 7)) rfl (b_ieq (pc := 4) rw_87_4 (A := (M32.2.1 1 7).toInt) rfl (fun h46 => ?_) (fun h46 => ?_))))))
    · refine to_c (pc := 15) rw_87_15 (x := (1 : Int32)) rfl rfl (to_go (pc := 16) rw_87_16 (s_r1 (pc := 20) rw_87_20 (A := 1) rfl (by decide) (b_ieq_f (pc := 18) rw_57_18 (A := 1) rfl (by decide) (to_c (pc := 21) rw_57_21 (x := (1 : Int32)) rfl rfl (to_go (pc := 22) rw_57_22 (s_r1 (pc := 26) rw_57_26 (A := 1) rfl (by decide) ?_))))))
      have k_47 : (1 : Int32).toInt = 1 := rfl
      exact h (1 : Int32) M32 hG24 F33 (by decide) (by decide) p_27 (by (first | (clear p_28 p_29 p_30 p_31; omega) | omega)) (fun _ => ⟨P41, P41a, (by (first | (clear p_28 p_29 p_30 p_31; omega) | omega)), (z_43.trans (g_end (by (first | (clear p_28 p_29 p_30 p_31; omega) | omega)) (by (first | (clear p_28 p_29 p_30 p_31; omega) | omega)) (by (first | (clear p_28 p_29 p_30 p_31; omega) | omega)) rfl))⟩) (fun z => by exfalso; omega)
    · refine to_an (pc := 7) rw_87_7 rfl (to_c (pc := 8) rw_87_8 (x := (1 : Int32)) rfl rfl (s_v (pc := 9) rw_87_9 (dp1 hd (by decide)) (ls0 := [.ref 1, .int (1 : Int32)]) rfl (Nat.le_of_ble_eq_true rfl) (Nat.le_of_ble_eq_true rfl) rfl (to_rc rfl rfl rfl (g_o hG24 rfl)) rfl (to_an (pc := 0) rw_84_0 rfl (to_in (pc := 1) rw_84_1 rfl (s_pI (pc := 2) rw_84_2 hG24 rfl (fun M49 W48 => ?_))))))
      have hG50 := g_wf hG24 W48 rfl rfl (by decide)
      have F51 := FR.w F33 W48 (show 1 = 1 ∧ 5 ≤ 10 ∨ 3 ≤ 1 ∧ 1 ≤ 5 ∨ q ≤ 1 ∧ 1 ≤ q + 4 by (first | (clear p_28 p_29 p_30 p_31 h46; omega) | (clear p_28 p_29 p_30 p_31; omega) | omega))
      refine to_an (pc := 5) rw_84_5 rfl (to_an (pc := 6) rw_84_6 rfl ?_)
      have c_52 : M49.2.1 1 9 = (M32.2.1 1 9) := (W_n W48 (by decide) rfl)
      refine tt_gI (pc := 7) rw_84_7 (g_o hG50 rfl) (v := (M32.2.1 1 9)) c_52 (s_pI (pc := 10) rw_84_10 hG50 rfl (fun M54 W53 => ?_))
      have hG55 := g_wf hG50 W53 rfl rfl (by decide)
      have F56 := FR.w F51 W53 (show 1 = 1 ∧ 5 ≤ 11 ∨ 3 ≤ 1 ∧ 1 ≤ 5 ∨ q ≤ 1 ∧ 1 ≤ q + 4 by (first | (clear p_28 p_29 p_30 p_31 h46; omega) | (clear p_28 p_29 p_30 p_31; omega) | omega))
      refine to_c (pc := 13) rw_84_13 (x := (0 : Int32)) rfl rfl (s_r1 (pc := 14) rw_84_14 (A := 0) rfl (by decide) (b_ieq_t (pc := 12) rw_87_12 (A := 0) rfl (by decide) (to_c (pc := 19) rw_87_19 (x := (0 : Int32)) rfl rfl (s_r1 (pc := 20) rw_87_20 (A := 0) rfl (by decide) (b_ieq_t (pc := 18) rw_57_18 (A := 0) rfl (by decide) (to_c (pc := 25) rw_57_25 (x := (0 : Int32)) rfl rfl (s_r1 (pc := 26) rw_57_26 (A := 0) rfl (by decide) ?_)))))))
      have j_57 := (CS_f (fun a i z => W_n W53 (tg_32 a i z) rfl) (CS_f (fun a i z => W_n W48 (tg_33 a i z) rfl) p_27))
      have c_58 : M54.2.1 q 4 = (M32.2.1 q 4) := (W_n W53 (by (first | (clear p_28 p_29 p_30 p_31 h46; omega) | (clear p_28 p_29 p_30 p_31; omega) | omega)) (W_n W48 (by (first | (clear p_28 p_29 p_30 p_31 h46; omega) | (clear p_28 p_29 p_30 p_31; omega) | omega)) rfl))
      have t_59 : (M54.2.1 q 4).toInt = (M32.2.1 q 4).toInt := congrArg Int32.toInt c_58
      have c_60 : M54.2.1 1 10 = (1 : Int32) := (W_n W53 (by decide) (W_e W48))
      have k_61 : (1 : Int32).toInt = 1 := rfl
      have t_62 : (M54.2.1 1 10).toInt = (1 : Int32).toInt := congrArg Int32.toInt c_60
      have c_63 : M54.2.1 1 11 = (M32.2.1 1 9) := (W_e W53)
      have t_64 : (M54.2.1 1 11).toInt = (M32.2.1 1 9).toInt := congrArg Int32.toInt c_63
      exact h (0 : Int32) M54 hG55 F56 (by decide) (by decide) j_57 (by (first | (clear p_28 p_29 p_30 p_31 h46; omega) | (clear p_28 p_29 p_30 p_31; omega) | omega)) (fun z => by exfalso; omega) (fun _ => ginl (by (first | (clear p_28 p_29 p_30 p_31 h46; omega) | (clear p_28 p_29 p_30 p_31; omega) | omega)) (by (first | (clear p_28 p_29 p_30 p_31 h46; omega) | (clear p_28 p_29 p_30 p_31; omega) | omega)) (z_43.trans (g_1x (by (first | (clear p_28 p_29 p_30 p_31 h46; omega) | (clear p_28 p_29 p_30 p_31; omega) | omega)) (by (first | (clear p_28 p_29 p_30 p_31 h46; omega) | (clear p_28 p_29 p_30 p_31; omega) | omega)) (by (first | (clear p_28 p_29 p_30 p_31 h46; omega) | (clear p_28 p_29 p_30 p_31; omega) | omega)) (by (first | (clear p_28 p_29 p_30 p_31 h46; omega) | (clear p_28 p_29 p_30 p_31; omega) | omega)) (by (first | (clear p_28 p_29 p_30 p_31 h46; omega) | (clear p_28 p_29 p_30 p_31; omega) | omega)))))
