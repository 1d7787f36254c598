theorem tg_133 : ∀ a i : Nat, (11 ≤ a ∧ a ≤ 16) → (11 ≤ a ∧ a ≤ 16) := fun a i z => by omega
theorem tg_134 : ∀ a i : Nat, (94 ≤ a ∧ a ≤ 98) → (a = 77 ∧ i = 2 ∨ 94 ≤ a ∧ a ≤ 98) := fun a i z => by omega
theorem tg_135 : ∀ a i : Nat, (90 ≤ a ∧ a ≤ 93) → ¬ (a = 77 ∧ i = 2) := fun a i z => by omega
set_option maxRecDepth 4000 in
set_option maxHeartbeats 0 in
theorem E_117 {X : mm_X} {d : Nat} {M : mm_M} {Q : Option Value → mm_M → Prop} {n : Int32} {w : Int32} {p : Nat} {pz : Nat} {q : Nat} {qz : Nat} {sg : x_S} {NN : x_N} {nz : Int} {ca : Int} (hX : g_X X) (hd : 6 ≤ d) (hG : g_G M) (hp : p = 49 ∨ p = 58) (hpz : pz = 49 ∨ pz = 58) (hq : q = 67 ∨ q = 72) (hqz : qz = 67 ∨ qz = 72) (q1 : g_PQ M p pz q qz) (q2 : PLs M p sg) (q3 : CW M p sg) (q4 : g_W2 X) (q5 : NTc M NN nz) (q6 : x_vn sg ca NN nz) (q7 : (M.2.1 6 0).toInt = nz) (q8 : (M.2.1 0 12).toInt = ca) (q9 : ca ≤ 30) (h : ∀ (r : Int64) (M1 : mm_M), g_G M1 → FR md_k M M1 → (r = x_coded sg NN nz n.toInt w.toInt) → Q (some (.long r)) M1) : mm_T X d 117 0 [.ref 0, .int n, .int w] [] M Q := by
  have F0 : FR md_k M M := FR.rf
  have b_1 := g_b hG (a := 6) (i := 0) (lo := 0) (hi := 150) rfl rfl
  have b_2 := g_b hG (a := 0) (i := 12) (lo := 0) (hi := 30) rfl rfl
  have z_3 := q2.2.1
  have z_4 := q2.2.2.1
  have z_5 := q2.2.2.2.1
  have z_6 := q2.1
  have z_7 := z_6.1
  have z_8 := z_6.2.1
  have z_9 := z_6.2.2.1
  have z_10 := z_6.2.2.2.1
  have z_11 := z_6.2.2.2.2.1
  have z_12 := z_6.2.2.2.2.2.1
  have b_13 := g_b hG (a := p) (i := 2) (lo := 0) (hi := 8) (by rcases hp with rfl | rfl <;> rfl) (by rcases hp with rfl | rfl <;> rfl)
  have b_14 := g_b hG (a := p) (i := 3) (lo := 0) (hi := 12) (by rcases hp with rfl | rfl <;> rfl) (by rcases hp with rfl | rfl <;> rfl)
  refine to_an (pc := 0) rw_117_0 rfl (to_in (pc := 1) rw_117_1 rfl (s_v (pc := 2) rw_117_2 (dp0 hd (by decide)) (ls0 := [.ref 0, .int n]) rfl (Nat.le_of_ble_eq_true rfl) (Nat.le_of_ble_eq_true rfl) rfl (to_rc rfl rfl rfl (g_o hG rfl)) rfl (to_in (pc := 0) rw_139_0 rfl (b_ilt (pc := 1) rw_139_1 (A := n.toInt) rfl (fun h15 => ?_) (fun h15 => ?_)))))
  · refine to_c (pc := 19) rw_139_19 (x := (0 : Int32)) rfl rfl (s_r1 (pc := 20) rw_139_20 (A := 0) rfl (by decide) (b_ieq_t (pc := 5) rw_117_5 (A := 0) rfl (by decide) (to_cl (pc := 19) rw_117_19 rfl (x := (0 : Int64)) rfl (to_rl (pc := 20) rw_117_20 ?_))))
    exact h (0 : Int64) M hG F0 (x_coded_n (by omega))
  · refine to_in (pc := 4) rw_139_4 rfl (to_an (pc := 5) rw_139_5 rfl (s_gR (pc := 6) rw_139_6 hG rfl (v := 6) rfl (tt_gI (pc := 9) rw_139_9 (g_o hG rfl) (v := (M.2.1 6 0)) rfl (b_cgt (pc := 12) rw_139_12 (A := n.toInt) (B := (M.2.1 6 0).toInt) rfl rfl (fun h16 => ?_) (fun h16 => ?_)))))
    · refine to_c (pc := 19) rw_139_19 (x := (0 : Int32)) rfl rfl (s_r1 (pc := 20) rw_139_20 (A := 0) rfl (by decide) (b_ieq_t (pc := 5) rw_117_5 (A := 0) rfl (by decide) (to_cl (pc := 19) rw_117_19 rfl (x := (0 : Int64)) rfl (to_rl (pc := 20) rw_117_20 ?_))))
      exact h (0 : Int64) M hG F0 (x_coded_n (by omega))
    · refine to_c (pc := 15) rw_139_15 (x := (1 : Int32)) rfl rfl (to_go (pc := 16) rw_139_16 (s_r1 (pc := 20) rw_139_20 (A := 1) rfl (by decide) (b_ieq_f (pc := 5) rw_117_5 (A := 1) rfl (by decide) (to_an (pc := 8) rw_117_8 rfl (tt_gR (pc := 9) rw_117_9 (g_o hG rfl) q1.1 (to_in (pc := 12) rw_117_12 rfl (s_v (pc := 13) rw_117_13 (dp0 hd (by decide)) (ls0 := [.ref p, .int w]) rfl (Nat.le_of_ble_eq_true rfl) (Nat.le_of_ble_eq_true rfl) rfl (to_rc rfl rfl rfl (g_o hG (by rcases hp with rfl | rfl <;> rfl))) rfl (to_in (pc := 0) rw_44_0 rfl (b_ilt (pc := 1) rw_44_1 (A := w.toInt) rfl (fun h17 => ?_) (fun h17 => ?_))))))))))
      · refine to_c (pc := 16) rw_44_16 (x := (0 : Int32)) rfl rfl (s_r1 (pc := 17) rw_44_17 (A := 0) rfl (by decide) (b_ine_f (pc := 16) rw_117_16 (A := 0) rfl (by decide) (to_cl (pc := 19) rw_117_19 rfl (x := (0 : Int64)) rfl (to_rl (pc := 20) rw_117_20 ?_))))
        exact h (0 : Int64) M hG F0 (x_coded_n (by omega))
      · refine to_in (pc := 4) rw_44_4 rfl (to_an (pc := 5) rw_44_5 rfl (tt_gI (pc := 6) rw_44_6 (g_o hG (by rcases hp with rfl | rfl <;> rfl)) (v := (M.2.1 p 3)) rfl (b_cge (pc := 9) rw_44_9 (A := w.toInt) (B := (M.2.1 p 3).toInt) rfl rfl (fun h18 => ?_) (fun h18 => ?_))))
        · refine to_c (pc := 16) rw_44_16 (x := (0 : Int32)) rfl rfl (s_r1 (pc := 17) rw_44_17 (A := 0) rfl (by decide) (b_ine_f (pc := 16) rw_117_16 (A := 0) rfl (by decide) (to_cl (pc := 19) rw_117_19 rfl (x := (0 : Int64)) rfl (to_rl (pc := 20) rw_117_20 ?_))))
          exact h (0 : Int64) M hG F0 (x_coded_n (by omega))
        · refine to_c (pc := 12) rw_44_12 (x := (1 : Int32)) rfl rfl (to_go (pc := 13) rw_44_13 (s_r1 (pc := 17) rw_44_17 (A := 1) rfl (by decide) (b_ine_t (pc := 16) rw_117_16 (A := 1) rfl (by decide) (to_an (pc := 21) rw_117_21 rfl (to_in (pc := 22) rw_117_22 rfl (s_v (pc := 23) rw_117_23 (dp0 hd (by decide)) (ls0 := [.ref 0, .int n]) rfl (Nat.le_of_ble_eq_true rfl) (Nat.le_of_ble_eq_true rfl) rfl (to_rc rfl rfl rfl (g_o hG rfl)) rfl (to_an (pc := 0) rw_141_0 rfl (s_gR (pc := 1) rw_141_1 hG rfl (v := 11) rfl (to_an (pc := 4) rw_141_4 rfl (tt_gR (pc := 5) rw_141_5 (g_o hG rfl) q1.1 (to_an (pc := 8) rw_141_8 rfl ?_)))))))))))
          refine s_gR (pc := 9) rw_141_9 hG rfl (v := 6) rfl (to_in (pc := 12) rw_141_12 rfl (s_v (pc := 13) rw_141_13 (dp1 hd (by decide)) (ls0 := [.ref 11, .ref p, .ref 6, .int n, .null]) rfl (Nat.le_of_ble_eq_true rfl) (Nat.le_of_ble_eq_true rfl) rfl (to_rc rfl rfl rfl (g_o hG rfl)) rfl (E_8 hX (dp2 hd (by decide)) hG hp (by omega) (by omega) (by omega) q3 q2 q4 q5 q6 (by omega) (p := p) (n := n) (sg := sg) (NN := NN) (nz := nz) (ca := ca) (fun M22 hG20 F19 p_21 => ?_))))
          have F23 := FR.c F0 F19 tg_133
          refine to_rv (pc := 16) rw_141_16 (to_an (pc := 26) rw_117_26 rfl (s_gR (pc := 27) rw_117_27 hG20 rfl (v := 11) rfl (s_gR (pc := 30) rw_117_30 hG20 rfl (v := 15) rfl (to_in (pc := 33) rw_117_33 rfl (s_lalE (pc := 34) rw_117_34 hG20 rfl (n := 12) rfl (A := w.toInt) rfl (by omega) (by omega) (fun l24 w_25 => ?_))))))
          have z_26 : l24 = (x_kn sg NN (n.toInt).toNat).2.2.2 (w.toInt).toNat := KST_ld (K := (x_kn sg NN (n.toInt).toNat)) p_21 (by omega) (by omega) w_25
          refine to_rl (pc := 35) rw_117_35 ?_
          exact h l24 M22 hG20 F23 (x_coded_y (by omega) z_26)
set_option maxRecDepth 4000 in
set_option maxHeartbeats 0 in
theorem E_124 {X : mm_X} {d : Nat} {M : mm_M} {Q : Option Value → mm_M → Prop} {n : Int32} {c : Int32} {p : Nat} {pz : Nat} {q : Nat} {qz : Nat} {sg : x_S} {NN : x_N} {nz : Int} {ca : Int} (hX : g_X X) (hd : 6 ≤ d) (hG : g_G M) (hp : p = 49 ∨ p = 58) (hpz : pz = 49 ∨ pz = 58) (hq : q = 67 ∨ q = 72) (hqz : qz = 67 ∨ qz = 72) (q1 : g_PQ M p pz q qz) (q2 : PLs M p sg) (q3 : CW M p sg) (q4 : g_W2 X) (q5 : NTc M NN nz) (q6 : x_vn sg ca NN nz) (q7 : (M.2.1 6 0).toInt = nz) (q8 : (M.2.1 0 12).toInt = ca) (q9 : ca ≤ 30) (h : ∀ (r : Int64) (M1 : mm_M), g_G M1 → FR md_k M M1 → (r = x_notched sg NN nz ca n.toInt c.toInt) → Q (some (.long r)) M1) : mm_T X d 124 0 [.ref 0, .int n, .int c] [] M Q := by
  have F0 : FR md_k M M := FR.rf
  have b_1 := g_b hG (a := 6) (i := 0) (lo := 0) (hi := 150) rfl rfl
  have b_2 := g_b hG (a := 0) (i := 12) (lo := 0) (hi := 30) rfl rfl
  have z_3 := q2.2.1
  have z_4 := q2.2.2.1
  have z_5 := q2.2.2.2.1
  have z_6 := q2.1
  have z_7 := z_6.1
  have z_8 := z_6.2.1
  have z_9 := z_6.2.2.1
  have z_10 := z_6.2.2.2.1
  have z_11 := z_6.2.2.2.2.1
  have z_12 := z_6.2.2.2.2.2.1
  have b_13 := g_b hG (a := p) (i := 2) (lo := 0) (hi := 8) (by rcases hp with rfl | rfl <;> rfl) (by rcases hp with rfl | rfl <;> rfl)
  have b_14 := g_b hG (a := p) (i := 3) (lo := 0) (hi := 12) (by rcases hp with rfl | rfl <;> rfl) (by rcases hp with rfl | rfl <;> rfl)
  refine to_an (pc := 0) rw_124_0 rfl (to_in (pc := 1) rw_124_1 rfl (s_v (pc := 2) rw_124_2 (dp0 hd (by decide)) (ls0 := [.ref 0, .int n]) rfl (Nat.le_of_ble_eq_true rfl) (Nat.le_of_ble_eq_true rfl) rfl (to_rc rfl rfl rfl (g_o hG rfl)) rfl (to_in (pc := 0) rw_139_0 rfl (b_ilt (pc := 1) rw_139_1 (A := n.toInt) rfl (fun h15 => ?_) (fun h15 => ?_)))))
  · refine to_c (pc := 19) rw_139_19 (x := (0 : Int32)) rfl rfl (s_r1 (pc := 20) rw_139_20 (A := 0) rfl (by decide) (b_ieq_t (pc := 5) rw_124_5 (A := 0) rfl (by decide) (to_cl (pc := 16) rw_124_16 rfl (x := (-1 : Int64)) rfl (to_rl (pc := 19) rw_124_19 ?_))))
    exact h (-1 : Int64) M hG F0 (x_notched_n (by omega))
  · refine to_in (pc := 4) rw_139_4 rfl (to_an (pc := 5) rw_139_5 rfl (s_gR (pc := 6) rw_139_6 hG rfl (v := 6) rfl (tt_gI (pc := 9) rw_139_9 (g_o hG rfl) (v := (M.2.1 6 0)) rfl (b_cgt (pc := 12) rw_139_12 (A := n.toInt) (B := (M.2.1 6 0).toInt) rfl rfl (fun h16 => ?_) (fun h16 => ?_)))))
    · refine to_c (pc := 19) rw_139_19 (x := (0 : Int32)) rfl rfl (s_r1 (pc := 20) rw_139_20 (A := 0) rfl (by decide) (b_ieq_t (pc := 5) rw_124_5 (A := 0) rfl (by decide) (to_cl (pc := 16) rw_124_16 rfl (x := (-1 : Int64)) rfl (to_rl (pc := 19) rw_124_19 ?_))))
      exact h (-1 : Int64) M hG F0 (x_notched_n (by omega))
    · refine to_c (pc := 15) rw_139_15 (x := (1 : Int32)) rfl rfl (to_go (pc := 16) rw_139_16 (s_r1 (pc := 20) rw_139_20 (A := 1) rfl (by decide) (b_ieq_f (pc := 5) rw_124_5 (A := 1) rfl (by decide) (to_an (pc := 8) rw_124_8 rfl (to_in (pc := 9) rw_124_9 rfl (s_v (pc := 10) rw_124_10 (dp0 hd (by decide)) (ls0 := [.ref 0, .int c]) rfl (Nat.le_of_ble_eq_true rfl) (Nat.le_of_ble_eq_true rfl) rfl (to_rc rfl rfl rfl (g_o hG rfl)) rfl (to_in (pc := 0) rw_140_0 rfl (b_ilt (pc := 1) rw_140_1 (A := c.toInt) rfl (fun h17 => ?_) (fun h17 => ?_)))))))))
      · refine to_c (pc := 16) rw_140_16 (x := (0 : Int32)) rfl rfl (s_r1 (pc := 17) rw_140_17 (A := 0) rfl (by decide) (b_ine_f (pc := 13) rw_124_13 (A := 0) rfl (by decide) (to_cl (pc := 16) rw_124_16 rfl (x := (-1 : Int64)) rfl (to_rl (pc := 19) rw_124_19 ?_))))
        exact h (-1 : Int64) M hG F0 (x_notched_n (by omega))
      · refine to_in (pc := 4) rw_140_4 rfl (to_an (pc := 5) rw_140_5 rfl (tt_gI (pc := 6) rw_140_6 (g_o hG rfl) (v := (M.2.1 0 12)) rfl (b_cge (pc := 9) rw_140_9 (A := c.toInt) (B := (M.2.1 0 12).toInt) rfl rfl (fun h18 => ?_) (fun h18 => ?_))))
        · refine to_c (pc := 16) rw_140_16 (x := (0 : Int32)) rfl rfl (s_r1 (pc := 17) rw_140_17 (A := 0) rfl (by decide) (b_ine_f (pc := 13) rw_124_13 (A := 0) rfl (by decide) (to_cl (pc := 16) rw_124_16 rfl (x := (-1 : Int64)) rfl (to_rl (pc := 19) rw_124_19 ?_))))
          exact h (-1 : Int64) M hG F0 (x_notched_n (by omega))
        · refine to_c (pc := 12) rw_140_12 (x := (1 : Int32)) rfl rfl (to_go (pc := 13) rw_140_13 (s_r1 (pc := 17) rw_140_17 (A := 1) rfl (by decide) (b_ine_t (pc := 13) rw_124_13 (A := 1) rfl (by decide) (to_an (pc := 20) rw_124_20 rfl (to_in (pc := 21) rw_124_21 rfl (s_v (pc := 22) rw_124_22 (dp0 hd (by decide)) (ls0 := [.ref 0, .int n]) rfl (Nat.le_of_ble_eq_true rfl) (Nat.le_of_ble_eq_true rfl) rfl (to_rc rfl rfl rfl (g_o hG rfl)) rfl (to_an (pc := 0) rw_141_0 rfl (s_gR (pc := 1) rw_141_1 hG rfl (v := 11) rfl (to_an (pc := 4) rw_141_4 rfl (tt_gR (pc := 5) rw_141_5 (g_o hG rfl) q1.1 (to_an (pc := 8) rw_141_8 rfl ?_)))))))))))
          refine s_gR (pc := 9) rw_141_9 hG rfl (v := 6) rfl (to_in (pc := 12) rw_141_12 rfl (s_v (pc := 13) rw_141_13 (dp1 hd (by decide)) (ls0 := [.ref 11, .ref p, .ref 6, .int n, .null]) rfl (Nat.le_of_ble_eq_true rfl) (Nat.le_of_ble_eq_true rfl) rfl (to_rc rfl rfl rfl (g_o hG rfl)) rfl (E_8 hX (dp2 hd (by decide)) hG hp (by omega) (by omega) (by omega) q3 q2 q4 q5 q6 (by omega) (p := p) (n := n) (sg := sg) (NN := NN) (nz := nz) (ca := ca) (fun M22 hG20 F19 p_21 => ?_))))
          have F23 := FR.c F0 F19 tg_133
          refine to_rv (pc := 16) rw_141_16 (to_an (pc := 25) rw_124_25 rfl (s_gR (pc := 26) rw_124_26 hG20 rfl (v := 11) rfl (s_gR (pc := 29) rw_124_29 hG20 rfl (v := 12) rfl (to_in (pc := 32) rw_124_32 rfl (s_lalE (pc := 33) rw_124_33 hG20 rfl (n := 30) rfl (A := c.toInt) rfl (by omega) (by omega) (fun l24 w_25 => ?_))))))
          have z_26 : l24 = (x_kn sg NN (n.toInt).toNat).1 (c.toInt).toNat := KST_lc (K := (x_kn sg NN (n.toInt).toNat)) p_21 (by omega) (by omega) w_25
          refine to_rl (pc := 34) rw_124_34 ?_
          exact h l24 M22 hG20 F23 (x_notched_y (by omega) z_26)
set_option maxRecDepth 4000 in
set_option maxHeartbeats 0 in
theorem E_192 {X : mm_X} {d : Nat} {M : mm_M} {Q : Option Value → mm_M → Prop} {n : Int32} {w : Int32} {sg : x_S} {NN : x_N} {nz : Int} {ca : Int} (hX : g_X X) (hd : 3 ≤ d) (hG : g_G M) (q1 : x_vn sg ca NN nz) (q2 : ca ≤ 30) (q3 : (M.2.1 77 29).toInt = nz) (q4 : (M.2.1 77 28).toInt = ca) (q5 : CWk M sg) (q6 : FA M) (q7 : PLk M sg) (q8 : W8 M) (q9 : NTr M NN nz) (h : ∀ (r : Int64) (M1 : mm_M), g_G M1 → FR md_k2 M M1 → (r = x_coded sg NN nz n.toInt w.toInt) → Q (some (.long r)) M1) : mm_T X d 191 0 [.ref 77, .int n, .int w] [] M Q := by
  have F0 : FR md_k2 M M := FR.rf
  have b_1 := g_b hG (a := 77) (i := 29) (lo := 0) (hi := 150) rfl rfl
  have b_2 := g_b hG (a := 77) (i := 28) (lo := 0) (hi := 30) rfl rfl
  have z_3 := q7.2.1
  have z_4 := q7.2.2.1
  have z_5 := q7.2.2.2.1
  have z_6 := q7.1
  have z_7 := z_6.1
  have z_8 := z_6.2.1
  have z_9 := z_6.2.2.1
  have z_10 := z_6.2.2.2.1
  have z_11 := z_6.2.2.2.2.1
  have z_12 := z_6.2.2.2.2.2.1
  have b_13 := g_b hG (a := 77) (i := 11) (lo := 10) (hi := 60) rfl rfl
  have b_14 := g_b hG (a := 77) (i := 12) (lo := 0) (hi := 8) rfl rfl
  have b_15 := g_b hG (a := 77) (i := 13) (lo := 0) (hi := 12) rfl rfl
  refine to_an (pc := 0) rw_192_0 rfl (to_c (pc := 1) rw_192_1 (x := (0 : Int32)) rfl rfl (s_pI (pc := 2) rw_192_2 hG rfl (fun M17 W16 => ?_)))
  have hG18 := g_wf hG W16 rfl rfl (by decide)
  have F19 := FR.w F0 W16 (show 77 = 77 ∧ 2 = 2 ∨ 94 ≤ 77 ∧ 77 ≤ 98 by decide)
  refine to_an (pc := 5) rw_192_5 rfl (to_in (pc := 6) rw_192_6 rfl (s_v (pc := 7) rw_192_7 (dp0 hd (by decide)) (ls0 := [.ref 77, .int n]) rfl (Nat.le_of_ble_eq_true rfl) (Nat.le_of_ble_eq_true rfl) rfl (to_rc rfl rfl rfl (g_o hG18 rfl)) rfl (to_in (pc := 0) rw_186_0 rfl (b_ilt (pc := 1) rw_186_1 (A := n.toInt) rfl (fun h20 => ?_) (fun h20 => ?_)))))
  · refine to_c (pc := 16) rw_186_16 (x := (0 : Int32)) rfl rfl (s_r1 (pc := 17) rw_186_17 (A := 0) rfl (by decide) (b_ieq_t (pc := 10) rw_192_10 (A := 0) rfl (by decide) (to_cl (pc := 21) rw_192_21 rfl (x := (0 : Int64)) rfl (to_rl (pc := 22) rw_192_22 ?_))))
    exact h (0 : Int64) M17 hG18 F19 (x_coded_n (by omega))
  · refine to_in (pc := 4) rw_186_4 rfl (to_an (pc := 5) rw_186_5 rfl ?_)
    have c_21 : M17.2.1 77 29 = (M.2.1 77 29) := (W_n W16 (by decide) rfl)
    refine tt_gI (pc := 6) rw_186_6 (g_o hG18 rfl) (v := (M.2.1 77 29)) c_21 (b_cgt (pc := 9) rw_186_9 (A := n.toInt) (B := (M.2.1 77 29).toInt) rfl rfl (fun h22 => ?_) (fun h22 => ?_))
    · refine to_c (pc := 16) rw_186_16 (x := (0 : Int32)) rfl rfl (s_r1 (pc := 17) rw_186_17 (A := 0) rfl (by decide) (b_ieq_t (pc := 10) rw_192_10 (A := 0) rfl (by decide) (to_cl (pc := 21) rw_192_21 rfl (x := (0 : Int64)) rfl (to_rl (pc := 22) rw_192_22 ?_))))
      exact h (0 : Int64) M17 hG18 F19 (x_coded_n (by omega))
    · refine to_c (pc := 12) rw_186_12 (x := (1 : Int32)) rfl rfl (to_go (pc := 13) rw_186_13 (s_r1 (pc := 17) rw_186_17 (A := 1) rfl (by decide) (b_ieq_f (pc := 10) rw_192_10 (A := 1) rfl (by decide) (to_an (pc := 13) rw_192_13 rfl (to_in (pc := 14) rw_192_14 rfl (s_v (pc := 15) rw_192_15 (dp0 hd (by decide)) (ls0 := [.ref 77, .int w]) rfl (Nat.le_of_ble_eq_true rfl) (Nat.le_of_ble_eq_true rfl) rfl (to_rc rfl rfl rfl (g_o hG18 rfl)) rfl (to_in (pc := 0) rw_180_0 rfl (b_ilt (pc := 1) rw_180_1 (A := w.toInt) rfl (fun h23 => ?_) (fun h23 => ?_)))))))))
      · refine to_c (pc := 16) rw_180_16 (x := (0 : Int32)) rfl rfl (s_r1 (pc := 17) rw_180_17 (A := 0) rfl (by decide) (b_ine_f (pc := 18) rw_192_18 (A := 0) rfl (by decide) (to_cl (pc := 21) rw_192_21 rfl (x := (0 : Int64)) rfl (to_rl (pc := 22) rw_192_22 ?_))))
        exact h (0 : Int64) M17 hG18 F19 (x_coded_n (by omega))
      · refine to_in (pc := 4) rw_180_4 rfl (to_an (pc := 5) rw_180_5 rfl ?_)
        have c_24 : M17.2.1 77 13 = (M.2.1 77 13) := (W_n W16 (by decide) rfl)
        refine tt_gI (pc := 6) rw_180_6 (g_o hG18 rfl) (v := (M.2.1 77 13)) c_24 (b_cge (pc := 9) rw_180_9 (A := w.toInt) (B := (M.2.1 77 13).toInt) rfl rfl (fun h25 => ?_) (fun h25 => ?_))
        · refine to_c (pc := 16) rw_180_16 (x := (0 : Int32)) rfl rfl (s_r1 (pc := 17) rw_180_17 (A := 0) rfl (by decide) (b_ine_f (pc := 18) rw_192_18 (A := 0) rfl (by decide) (to_cl (pc := 21) rw_192_21 rfl (x := (0 : Int64)) rfl (to_rl (pc := 22) rw_192_22 ?_))))
          exact h (0 : Int64) M17 hG18 F19 (x_coded_n (by omega))
        · refine to_c (pc := 12) rw_180_12 (x := (1 : Int32)) rfl rfl (to_go (pc := 13) rw_180_13 (s_r1 (pc := 17) rw_180_17 (A := 1) rfl (by decide) (b_ine_t (pc := 18) rw_192_18 (A := 1) rfl (by decide) (to_an (pc := 23) rw_192_23 rfl (to_in (pc := 24) rw_192_24 rfl (s_v (pc := 25) rw_192_25 (dp0 hd (by decide)) (ls0 := [.ref 77, .int n, .null, .null]) rfl (Nat.le_of_ble_eq_true rfl) (Nat.le_of_ble_eq_true rfl) rfl (to_rc rfl rfl rfl (g_o hG18 rfl)) rfl ?_))))))
          have c_26 : M17.2.1 77 28 = (M.2.1 77 28) := (W_n W16 (by decide) rfl)
          have t_27 : (M17.2.1 77 28).toInt = (M.2.1 77 28).toInt := congrArg Int32.toInt c_26
          have j_28 := (CWk_f (fun k hk9 => W_j W16 rfl) q5)
          have j_29 := (FA_f (fun a i z => W_n W16 (tg_94 a i z) rfl) q6)
          have j_30 := (PLk_f (fun a i z => W_n W16 (tg_91 a i z) rfl) q7)
          have j_31 := (W8_f (fun a i z => W_n W16 (tg_95 a i z) rfl) q8)
          have j_32 := (NTr_f (fun a i z => W_n W16 (tg_135 a i z) rfl) q9)
          refine E_189 hX (dp1 hd (by decide)) hG18 (by omega) (by omega) (by omega) q1 (by omega) (by omega) j_28 j_29 j_30 j_31 j_32 (n := n) (sg := sg) (NN := NN) (nz := nz) (ca := ca) (fun M36 hG34 F33 p_35 => ?_)
          have F37 := FR.c F19 F33 tg_134
          refine to_an (pc := 28) rw_192_28 rfl (s_gR (pc := 29) rw_192_29 hG34 rfl (v := 95) rfl (to_in (pc := 32) rw_192_32 rfl (s_lalE (pc := 33) rw_192_33 hG34 rfl (n := 12) rfl (A := w.toInt) rfl (by omega) (by omega) (fun l38 w_39 => ?_))))
          have z_40 : l38 = (x_kn sg NN (n.toInt).toNat).2.2.2 (w.toInt).toNat := KST_ld (K := (x_kn sg NN (n.toInt).toNat)) p_35 (by omega) (by omega) w_39
          refine to_rl (pc := 34) rw_192_34 ?_
          exact h l38 M36 hG34 F37 (x_coded_y (by omega) z_40)
set_option maxRecDepth 4000 in
set_option maxHeartbeats 0 in
theorem E_200 {X : mm_X} {d : Nat} {M : mm_M} {Q : Option Value → mm_M → Prop} {n : Int32} {c : Int32} {sg : x_S} {NN : x_N} {nz : Int} {ca : Int} (hX : g_X X) (hd : 3 ≤ d) (hG : g_G M) (q1 : x_vn sg ca NN nz) (q2 : ca ≤ 30) (q3 : (M.2.1 77 29).toInt = nz) (q4 : (M.2.1 77 28).toInt = ca) (q5 : CWk M sg) (q6 : FA M) (q7 : PLk M sg) (q8 : W8 M) (q9 : NTr M NN nz) (h : ∀ (r : Int64) (M1 : mm_M), g_G M1 → FR md_k2 M M1 → (r = x_notched sg NN nz ca n.toInt c.toInt) → Q (some (.long r)) M1) : mm_T X d 199 0 [.ref 77, .int n, .int c] [] M Q := by
  have F0 : FR md_k2 M M := FR.rf
  have b_1 := g_b hG (a := 77) (i := 29) (lo := 0) (hi := 150) rfl rfl
  have b_2 := g_b hG (a := 77) (i := 28) (lo := 0) (hi := 30) rfl rfl
  have z_3 := q7.2.1
  have z_4 := q7.2.2.1
  have z_5 := q7.2.2.2.1
  have z_6 := q7.1
  have z_7 := z_6.1
  have z_8 := z_6.2.1
  have z_9 := z_6.2.2.1
  have z_10 := z_6.2.2.2.1
  have z_11 := z_6.2.2.2.2.1
  have z_12 := z_6.2.2.2.2.2.1
  have b_13 := g_b hG (a := 77) (i := 11) (lo := 10) (hi := 60) rfl rfl
  have b_14 := g_b hG (a := 77) (i := 12) (lo := 0) (hi := 8) rfl rfl
  have b_15 := g_b hG (a := 77) (i := 13) (lo := 0) (hi := 12) rfl rfl
  refine to_an (pc := 0) rw_200_0 rfl (to_c (pc := 1) rw_200_1 (x := (0 : Int32)) rfl rfl (s_pI (pc := 2) rw_200_2 hG rfl (fun M17 W16 => ?_)))
  have hG18 := g_wf hG W16 rfl rfl (by decide)
  have F19 := FR.w F0 W16 (show 77 = 77 ∧ 2 = 2 ∨ 94 ≤ 77 ∧ 77 ≤ 98 by decide)
  refine to_an (pc := 5) rw_200_5 rfl (to_in (pc := 6) rw_200_6 rfl (s_v (pc := 7) rw_200_7 (dp0 hd (by decide)) (ls0 := [.ref 77, .int n]) rfl (Nat.le_of_ble_eq_true rfl) (Nat.le_of_ble_eq_true rfl) rfl (to_rc rfl rfl rfl (g_o hG18 rfl)) rfl (to_in (pc := 0) rw_186_0 rfl (b_ilt (pc := 1) rw_186_1 (A := n.toInt) rfl (fun h20 => ?_) (fun h20 => ?_)))))
  · refine to_c (pc := 16) rw_186_16 (x := (0 : Int32)) rfl rfl (s_r1 (pc := 17) rw_186_17 (A := 0) rfl (by decide) (b_ieq_t (pc := 10) rw_200_10 (A := 0) rfl (by decide) (to_cl (pc := 21) rw_200_21 rfl (x := (-1 : Int64)) rfl (to_rl (pc := 24) rw_200_24 ?_))))
    exact h (-1 : Int64) M17 hG18 F19 (x_notched_n (by omega))
  · refine to_in (pc := 4) rw_186_4 rfl (to_an (pc := 5) rw_186_5 rfl ?_)
    have c_21 : M17.2.1 77 29 = (M.2.1 77 29) := (W_n W16 (by decide) rfl)
    refine tt_gI (pc := 6) rw_186_6 (g_o hG18 rfl) (v := (M.2.1 77 29)) c_21 (b_cgt (pc := 9) rw_186_9 (A := n.toInt) (B := (M.2.1 77 29).toInt) rfl rfl (fun h22 => ?_) (fun h22 => ?_))
    · refine to_c (pc := 16) rw_186_16 (x := (0 : Int32)) rfl rfl (s_r1 (pc := 17) rw_186_17 (A := 0) rfl (by decide) (b_ieq_t (pc := 10) rw_200_10 (A := 0) rfl (by decide) (to_cl (pc := 21) rw_200_21 rfl (x := (-1 : Int64)) rfl (to_rl (pc := 24) rw_200_24 ?_))))
      exact h (-1 : Int64) M17 hG18 F19 (x_notched_n (by omega))
    · refine to_c (pc := 12) rw_186_12 (x := (1 : Int32)) rfl rfl (to_go (pc := 13) rw_186_13 (s_r1 (pc := 17) rw_186_17 (A := 1) rfl (by decide) (b_ieq_f (pc := 10) rw_200_10 (A := 1) rfl (by decide) (to_an (pc := 13) rw_200_13 rfl (to_in (pc := 14) rw_200_14 rfl (s_v (pc := 15) rw_200_15 (dp0 hd (by decide)) (ls0 := [.ref 77, .int c]) rfl (Nat.le_of_ble_eq_true rfl) (Nat.le_of_ble_eq_true rfl) rfl (to_rc rfl rfl rfl (g_o hG18 rfl)) rfl (to_in (pc := 0) rw_187_0 rfl (b_ilt (pc := 1) rw_187_1 (A := c.toInt) rfl (fun h23 => ?_) (fun h23 => ?_)))))))))
      · refine to_c (pc := 16) rw_187_16 (x := (0 : Int32)) rfl rfl (s_r1 (pc := 17) rw_187_17 (A := 0) rfl (by decide) (b_ine_f (pc := 18) rw_200_18 (A := 0) rfl (by decide) (to_cl (pc := 21) rw_200_21 rfl (x := (-1 : Int64)) rfl (to_rl (pc := 24) rw_200_24 ?_))))
        exact h (-1 : Int64) M17 hG18 F19 (x_notched_n (by omega))
      · refine to_in (pc := 4) rw_187_4 rfl (to_an (pc := 5) rw_187_5 rfl ?_)
        have c_24 : M17.2.1 77 28 = (M.2.1 77 28) := (W_n W16 (by decide) rfl)
        refine tt_gI (pc := 6) rw_187_6 (g_o hG18 rfl) (v := (M.2.1 77 28)) c_24 (b_cge (pc := 9) rw_187_9 (A := c.toInt) (B := (M.2.1 77 28).toInt) rfl rfl (fun h25 => ?_) (fun h25 => ?_))
        · refine to_c (pc := 16) rw_187_16 (x := (0 : Int32)) rfl rfl (s_r1 (pc := 17) rw_187_17 (A := 0) rfl (by decide) (b_ine_f (pc := 18) rw_200_18 (A := 0) rfl (by decide) (to_cl (pc := 21) rw_200_21 rfl (x := (-1 : Int64)) rfl (to_rl (pc := 24) rw_200_24 ?_))))
          exact h (-1 : Int64) M17 hG18 F19 (x_notched_n (by omega))
        · refine to_c (pc := 12) rw_187_12 (x := (1 : Int32)) rfl rfl (to_go (pc := 13) rw_187_13 (s_r1 (pc := 17) rw_187_17 (A := 1) rfl (by decide) (b_ine_t (pc := 18) rw_200_18 (A := 1) rfl (by decide) (to_an (pc := 25) rw_200_25 rfl (to_in (pc := 26) rw_200_26 rfl (s_v (pc := 27) rw_200_27 (dp0 hd (by decide)) (ls0 := [.ref 77, .int n, .null, .null]) rfl (Nat.le_of_ble_eq_true rfl) (Nat.le_of_ble_eq_true rfl) rfl (to_rc rfl rfl rfl (g_o hG18 rfl)) rfl ?_))))))
          have t_26 : (M17.2.1 77 28).toInt = (M.2.1 77 28).toInt := congrArg Int32.toInt c_24
          have j_27 := (CWk_f (fun k hk9 => W_j W16 rfl) q5)
          have j_28 := (FA_f (fun a i z => W_n W16 (tg_94 a i z) rfl) q6)
          have j_29 := (PLk_f (fun a i z => W_n W16 (tg_91 a i z) rfl) q7)
          have j_30 := (W8_f (fun a i z => W_n W16 (tg_95 a i z) rfl) q8)
          have j_31 := (NTr_f (fun a i z => W_n W16 (tg_135 a i z) rfl) q9)
          refine E_189 hX (dp1 hd (by decide)) hG18 (by omega) (by omega) (by omega) q1 (by omega) (by omega) j_27 j_28 j_29 j_30 j_31 (n := n) (sg := sg) (NN := NN) (nz := nz) (ca := ca) (fun M35 hG33 F32 p_34 => ?_)
          have F36 := FR.c F19 F32 tg_134
          refine to_an (pc := 30) rw_200_30 rfl (s_gR (pc := 31) rw_200_31 hG33 rfl (v := 96) rfl (to_in (pc := 34) rw_200_34 rfl (s_lalE (pc := 35) rw_200_35 hG33 rfl (n := 30) rfl (A := c.toInt) rfl (by omega) (by omega) (fun l37 w_38 => ?_))))
          have z_39 : l37 = (x_kn sg NN (n.toInt).toNat).1 (c.toInt).toNat := KST_lc (K := (x_kn sg NN (n.toInt).toNat)) p_34 (by omega) (by omega) w_38
          refine to_rl (pc := 36) rw_200_36 ?_
          exact h l37 M35 hG33 F36 (x_notched_y (by omega) z_39)
