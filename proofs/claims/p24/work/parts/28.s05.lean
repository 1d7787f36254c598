theorem tg_139 : ∀ a i : Nat, (a = 1 ∨ 3 ≤ a ∧ a ≤ 5) → (a = 1 ∨ 3 ≤ a ∧ a ≤ 5 ∨ 67 ≤ a ∧ a ≤ 76) := fun a i z => by omega
set_option maxRecDepth 4000 in
set_option maxHeartbeats 0 in
theorem E_113 {X : mm_X} {d : Nat} {M : mm_M} {Q : Option Value → mm_M → Prop} {n : Int32} {p : Nat} {pz : Nat} {q : Nat} {qz : Nat} {t : Nat → Int} {nn : Int} {sg : x_S} (hX : g_X X) (hd : 39 ≤ d) (hG : g_G M) (hp : p = 49 ∨ p = 58) (hpz : pz = 49 ∨ pz = 58) (hq : q = 67 ∨ q = 72) (hqz : qz = 67 ∨ qz = 72) (q1 : g_PQ M p pz q qz) (q2 : 0 ≤ n.toInt ∧ n.toInt ≤ (M.2.1 1 1).toInt → n.toInt = nn) (q3 : TT M t nn) (q4 : g_W X) (q5 : PLs M p sg) (q6 : q ≠ qz) (h : ∀ (r : Int32) (M1 : mm_M), g_G M1 → FRX md_X3 M M1 → (n.toInt < 0 ∨ (M.2.1 1 1).toInt < n.toInt → r.toInt = -2) → (-2 ≤ r.toInt) → (QGN (M.2.1 1 1).toInt n.toInt r.toInt (x_gg t nn sg 0 0 0 [] x_P0 (x_sk t nn 0)) (fun P => LQc M1 qz P)) → (((r.toInt < 0 → g_PQ M1 p pz q qz ∧ (M1.2.1 q 4).toInt = (M.2.1 q 4).toInt ∧ ∀ Q : x_GP, LQc M q Q → LQc M1 q Q) ∧ (0 ≤ r.toInt → g_PQ M1 p pz qz q ∧ (M1.2.1 qz 4).toInt = r.toInt))) → Q (some (.int r)) M1) : mm_T X d 113 0 [.ref 0, .int n, .null] [] M Q := by
  have F0 : FRX md_X3 M M := FRX.rf
  have b_1 := g_b hG (a := 1) (i := 1) (lo := 0) (hi := 500) rfl rfl
  refine to_an (pc := 0) rw_113_0 rfl (s_gR (pc := 1) rw_113_1 hG rfl (v := 1) rfl (to_in (pc := 4) rw_113_4 rfl (s_v (pc := 5) rw_113_5 (dp0 hd (by decide)) (ls0 := [.ref 1, .int n]) rfl (Nat.le_of_ble_eq_true rfl) (Nat.le_of_ble_eq_true rfl) rfl (to_rc rfl rfl rfl (g_o hG rfl)) rfl (E_78 hX (dp1 hd (by decide)) hG (by (first | (clear q2 q6; omega) | omega)) q3 q4 (n := n) (fun r2 M10 hG4 F3 p_5 p_6 p_7 p_8 p_9 => ?_)))))
  have F11 := FRX.c F0 F3 tg_139
  have b_12 := g_b hG4 (a := 1) (i := 1) (lo := 0) (hi := 500) rfl rfl
  rcases (show r2.toInt = 0 ∨ r2.toInt = 1 by (first | (clear q2 q6; omega) | omega)) with h13 | h13
  · skip
    clear p_9
    refine b_ine_f (pc := 8) rw_113_8 (A := r2.toInt) rfl (by (first | (clear q2 q6; omega) | omega)) (to_c (pc := 11) rw_113_11 (x := (-2 : Int32)) rfl rfl (to_r0 (pc := 13) rw_113_13 ?_))
    have k_14 : (-2 : Int32).toInt = -2 := rfl
    have j_15 := (PQ_f F3 q1)
    exact h (-2 : Int32) M10 hG4 F11 (by (first | (clear q2 q6; omega) | omega)) (by (first | (clear q2 q6; omega) | omega)) (fun z => by exfalso; omega) ⟨fun _ => ⟨j_15, congrArg Int32.toInt (F_n F3 (show ¬ (q = 1 ∨ 3 ≤ q ∧ q ≤ 5) by (first | (clear q2 q6; omega) | omega)) rfl), fun Q L => LQc_f (fun a i z => (F_n F3 (show ¬ (a = 1 ∨ 3 ≤ a ∧ a ≤ 5) by (first | (clear q2 q6; omega) | omega)) rfl)) L⟩, fun z => by exfalso; omega⟩
  · skip
    have p_16 := p_9 (by (first | (clear q2 q6; omega) | omega))
    clear p_9
    have z_17 := p_16.2
    refine b_ine_t (pc := 8) rw_113_8 (A := r2.toInt) rfl (by (first | (clear q2 q6; omega) | omega)) (to_an (pc := 14) rw_113_14 rfl ?_)
    have j_18 := (PQ_f F3 q1)
    refine tt_gR (pc := 15) rw_113_15 (g_o hG4 rfl) j_18.2.2.2 (to_an (pc := 18) rw_113_18 rfl (s_gR (pc := 19) rw_113_19 hG4 rfl (v := 1) rfl (to_an (pc := 22) rw_113_22 rfl (tt_gR (pc := 23) rw_113_23 (g_o hG4 rfl) j_18.1 (s_v (pc := 26) rw_113_26 (dp0 hd (by decide)) (ls0 := [.ref qz, .ref 1, .ref p]) rfl (Nat.le_of_ble_eq_true rfl) (Nat.le_of_ble_eq_true rfl) rfl (to_rc rfl rfl rfl (g_o hG4 (by rcases hqz with rfl | rfl <;> rfl))) rfl ?_)))))
    have j_19 := (PLs_f (fun a i z => F_n F3 (show ¬ (a = 1 ∨ 3 ≤ a ∧ a ≤ 5) by (first | (clear q2 q6; omega) | omega)) rfl) q5)
    refine E_57 hX (dp1 hd (by decide)) hG4 hqz hp p_16.1 (by (first | (clear q2 q6; omega) | omega)) j_19 (q := qz) (p := p) (t := t) (nn := nn) (a := (x_sk t nn 0)) (sg := sg) (fun r20 M29 hG22 F21 p_23 p_24 p_25 p_26 p_27 p_28 => ?_)
    have F30 := FRX.c F11 F21 (fun a i z => show a = 1 ∨ 3 ≤ a ∧ a ≤ 5 ∨ 67 ≤ a ∧ a ≤ 76 by have z : a = 1 ∧ 5 ≤ i ∨ 3 ≤ a ∧ a ≤ 5 ∨ qz ≤ a ∧ a ≤ qz + 4 := z; (first | (clear q2 q6 p_26 p_27 p_28; omega) | omega))
    have b_31 := g_b hG22 (a := qz) (i := 4) (lo := 0) (hi := 40) (by rcases hqz with rfl | rfl <;> rfl) (by rcases hqz with rfl | rfl <;> rfl)
    rcases (show r20.toInt = 0 ∨ r20.toInt = 1 by (first | (clear q2 q6 p_26 p_27 p_28; omega) | omega)) with h32 | h32
    · skip
      have p_33 := p_28 (by (first | (clear q2 q6 p_26 p_27 p_28; omega) | omega))
      clear p_26 p_27 p_28
      refine b_ine_f (pc := 29) rw_113_29 (A := r20.toInt) rfl (by (first | (clear q2 q6 p_26 p_27 p_28; omega) | omega)) (to_c (pc := 32) rw_113_32 (x := (-1 : Int32)) rfl rfl (to_r0 (pc := 33) rw_113_33 ?_))
      have k_34 : (-1 : Int32).toInt = -1 := rfl
      have j_35 := (PQ_f F21 j_18)
      exact h (-1 : Int32) M29 hG22 F30 (by (first | (clear q2 q6 p_26 p_27 p_28; omega) | omega)) (by (first | (clear q2 q6 p_26 p_27 p_28; omega) | omega)) (fun _ => Or.inl ⟨_, _, p_33, rfl⟩) ⟨fun _ => ⟨j_35, congrArg Int32.toInt (F_n F21 (show ¬ (q = 1 ∧ 5 ≤ 4 ∨ 3 ≤ q ∧ q ≤ 5 ∨ qz ≤ q ∧ q ≤ qz + 4) by (first | (clear q2 q6 p_26 p_27 p_28; omega) | omega)) (F_n F3 (show ¬ (q = 1 ∨ 3 ≤ q ∧ q ≤ 5) by (first | (clear q2 q6 p_26 p_27 p_28; omega) | omega)) rfl)), fun Q L => LQc_f (fun a i z => (F_n F21 (show ¬ (a = 1 ∧ 5 ≤ i ∨ 3 ≤ a ∧ a ≤ 5 ∨ qz ≤ a ∧ a ≤ qz + 4) by (first | (clear q2 q6 p_26 p_27 p_28; omega) | omega)) (F_n F3 (show ¬ (a = 1 ∨ 3 ≤ a ∧ a ≤ 5) by (first | (clear q2 q6 p_26 p_27 p_28; omega) | omega)) rfl))) L⟩, fun z => by exfalso; omega⟩
    · skip
      have p_36 := p_26 (by (first | (clear q2 q6 p_26 p_27 p_28; omega) | omega))
      have p_37 := p_27 (by (first | (clear q2 q6 p_26 p_27 p_28; omega) | omega))
      clear p_26 p_27 p_28
      obtain ⟨Pc, pc1, pc2, pc3⟩ := p_37
      refine b_ine_t (pc := 29) rw_113_29 (A := r20.toInt) rfl (by (first | (clear q2 q6 p_26 p_27 p_28; omega) | omega)) (to_an (pc := 34) rw_113_34 rfl ?_)
      have j_38 := (PQ_f F21 j_18)
      refine tt_gR (pc := 35) rw_113_35 (g_o hG22 rfl) j_38.2.2.1 (to_asn (pc := 38) rw_113_38 (ls2 := [.ref 0, .int n, .ref q]) rfl rfl (to_an (pc := 39) rw_113_39 rfl (to_an (pc := 40) rw_113_40 rfl (tt_gR (pc := 41) rw_113_41 (g_o hG22 rfl) j_38.2.2.2 (s_pR (pc := 44) rw_113_44 hG22 rfl (by rcases hqz with rfl | rfl <;> rfl) (fun M40 W39 => ?_))))))
      have hG41 := g_wr hG22 W39 rfl
      have F42 := FRX.wr F30 W39
      have j_43 := PQ_s10 W39 j_38
      refine to_an (pc := 47) rw_113_47 rfl (to_an (pc := 48) rw_113_48 rfl (s_pR (pc := 49) rw_113_49 hG41 rfl (by rcases hq with rfl | rfl <;> rfl) (fun M45 W44 => ?_)))
      have hG46 := g_wr hG41 W44 rfl
      have F47 := FRX.wr F42 W44
      have j_48 := PQ_s11 W44 j_43
      refine to_an (pc := 52) rw_113_52 rfl (tt_gR (pc := 53) rw_113_53 (g_o hG46 rfl) j_48.2.2.1 ?_)
      have c_49 : M45.2.1 qz 4 = (M29.2.1 qz 4) := (W_rf W44 (W_rf W39 rfl))
      refine tt_gI (pc := 56) rw_113_56 (g_o hG46 (by rcases hqz with rfl | rfl <;> rfl)) (v := (M29.2.1 qz 4)) c_49 (to_r0 (pc := 59) rw_113_59 ?_)
      have t_50 : (M45.2.1 qz 4).toInt = (M29.2.1 qz 4).toInt := congrArg Int32.toInt c_49
      exact h (M29.2.1 qz 4) M45 hG46 F47 (by (first | (clear q2 q6 p_26 p_27 p_28; omega) | omega)) (by (first | (clear q2 q6 p_26 p_27 p_28; omega) | omega)) (fun _ => Or.inr ⟨Pc, pc3, (by (first | (clear q2 q6 p_26 p_27 p_28; omega) | omega)), LQc_f (fun a i z => (W_rf W44 (W_rf W39 rfl))) pc1⟩) ⟨fun z => by exfalso; omega, fun _ => ⟨j_48, by (first | (clear q2 q6 p_26 p_27 p_28; omega) | omega)⟩⟩
