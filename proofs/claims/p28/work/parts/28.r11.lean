theorem tg_147 {M M1 : mm_M} (F : FR (fun a i : Nat => 94 ≤ a ∧ a ≤ 98) M M1) : ∀ a i : Nat, (81 ≤ a ∧ a ≤ 84) → M1.2.1 a i = M.2.1 a i := fun a i z => F_n F (show ¬ (94 ≤ a ∧ a ≤ 98) by omega) rfl
theorem tg_148 {M M1 : mm_M} (F : FR (fun a i : Nat => 94 ≤ a ∧ a ≤ 98) M M1) : ∀ a i : Nat, 88 ≤ a ∧ a ≤ 89 → M1.2.1 a i = M.2.1 a i := fun a i z => F_n F (show ¬ (94 ≤ a ∧ a ≤ 98) by omega) rfl
theorem tg_149 : ∀ a i : Nat, (11 ≤ a ∧ a ≤ 16) → (11 ≤ a ∧ a ≤ 16 ∨ 39 ≤ a ∧ a ≤ 41) := fun a i z => by omega
theorem tg_150 : ∀ a i : Nat, (39 ≤ a ∧ a ≤ 41) → (11 ≤ a ∧ a ≤ 16 ∨ 39 ≤ a ∧ a ≤ 41) := fun a i z => by omega
theorem tg_151 : ∀ a i : Nat, (94 ≤ a ∧ a ≤ 98) → (a = 77 ∧ i = 2 ∨ 94 ≤ a ∧ a ≤ 98 ∨ a = 119) := fun a i z => by omega
theorem tg_152 : ∀ a i : Nat, (a < 0) → (a = 77 ∧ i = 2 ∨ 94 ≤ a ∧ a ≤ 98 ∨ a = 119) := fun a i z => by omega
theorem tg_153 : ∀ a i : Nat, (a = 119) → (a = 77 ∧ i = 2 ∨ 94 ≤ a ∧ a ≤ 98 ∨ a = 119) := fun a i z => by omega
set_option maxRecDepth 4000 in
set_option maxHeartbeats 0 in
theorem E_135 {X : mm_X} {d : Nat} {M : mm_M} {Q : Option Value → mm_M → Prop} {n : Int32} {c : Int32} {f : Int32} {t : Int32} {w : Int32} {p : Nat} {pz : Nat} {q : Nat} {qz : Nat} {sg : x_S} {NN : x_N} {nz : Int} {ca : Int} (hX : g_X X) (hd : 16 ≤ d) (hG : g_G M) (hp : p = 49 ∨ p = 58) (hpz : pz = 49 ∨ pz = 58) (hq : q = 67 ∨ q = 72) (hqz : qz = 67 ∨ qz = 72) (q1 : g_PQ M p pz q qz) (q2 : PLs M p sg) (q3 : CW M p sg) (q4 : g_W2 X) (q5 : NTc M NN nz) (q6 : x_vn sg ca NN nz) (q7 : (M.2.1 6 0).toInt = nz) (q8 : (M.2.1 0 12).toInt = ca) (q9 : ca ≤ 30) (h : ∀ (r : Int32) (M1 : mm_M), g_G M1 → FR md_k3 M M1 → (r.toInt = x_meC sg NN nz ca n.toInt c.toInt f.toInt t.toInt w.toInt) → Q (some (.int r)) M1) : mm_T X d 135 0 [.ref 0, .int n, .int c, .int f, .int t, .int w] [] M Q := by
  have F0 : FR md_k3 M M := FR.rf
  have b_1 := g_b hG (a := 6) (i := 0) (lo := 0) (hi := 150) rfl rfl
  have b_2 := g_b hG (a := 0) (i := 12) (lo := 0) (hi := 30) rfl rfl
  have z_3 := q2.2.1
  have z_4 := q2.2.2.1
  have z_5 := q2.2.2.2.1
  have z_6 := q2.1
  have z_7 := z_6.1
  have z_8 := z_6.2.1
  have z_9 := z_6.2.2.1
  have z_10 := z_6.2.2.2.1
  have z_11 := z_6.2.2.2.2.1
  have z_12 := z_6.2.2.2.2.2.1
  have b_13 := g_b hG (a := p) (i := 2) (lo := 0) (hi := 8) (by rcases hp with rfl | rfl <;> rfl) (by rcases hp with rfl | rfl <;> rfl)
  have b_14 := g_b hG (a := p) (i := 3) (lo := 0) (hi := 12) (by rcases hp with rfl | rfl <;> rfl) (by rcases hp with rfl | rfl <;> rfl)
  refine to_an (pc := 0) rw_135_0 rfl (to_in (pc := 1) rw_135_1 rfl (s_v (pc := 2) rw_135_2 (dp0 hd (by decide)) (ls0 := [.ref 0, .int n]) rfl (Nat.le_of_ble_eq_true rfl) (Nat.le_of_ble_eq_true rfl) rfl (to_rc rfl rfl rfl (g_o hG rfl)) rfl (to_in (pc := 0) rw_139_0 rfl (b_ilt (pc := 1) rw_139_1 (A := n.toInt) rfl (fun h15 => ?_) (fun h15 => ?_)))))
  · refine to_c (pc := 19) rw_139_19 (x := (0 : Int32)) rfl rfl (s_r1 (pc := 20) rw_139_20 (A := 0) rfl (by decide) (b_ieq_t (pc := 5) rw_135_5 (A := 0) rfl (by decide) (to_c (pc := 27) rw_135_27 (x := (-2 : Int32)) rfl rfl (to_r0 (pc := 29) rw_135_29 ?_))))
    have k_16 : (-2 : Int32).toInt = -2 := rfl
    have z_17 := x_meC_n (s := sg) (N := NN) (sz := nz) (ca := ca) (n := n.toInt) (c := c.toInt) (f := f.toInt) (t := t.toInt) (k := w.toInt) (r := -2) (by omega) rfl
    exact h (-2 : Int32) M hG F0 (by omega)
  · refine to_in (pc := 4) rw_139_4 rfl (to_an (pc := 5) rw_139_5 rfl (s_gR (pc := 6) rw_139_6 hG rfl (v := 6) rfl (tt_gI (pc := 9) rw_139_9 (g_o hG rfl) (v := (M.2.1 6 0)) rfl (b_cgt (pc := 12) rw_139_12 (A := n.toInt) (B := (M.2.1 6 0).toInt) rfl rfl (fun h18 => ?_) (fun h18 => ?_)))))
    · refine to_c (pc := 19) rw_139_19 (x := (0 : Int32)) rfl rfl (s_r1 (pc := 20) rw_139_20 (A := 0) rfl (by decide) (b_ieq_t (pc := 5) rw_135_5 (A := 0) rfl (by decide) (to_c (pc := 27) rw_135_27 (x := (-2 : Int32)) rfl rfl (to_r0 (pc := 29) rw_135_29 ?_))))
      have k_19 : (-2 : Int32).toInt = -2 := rfl
      have z_20 := x_meC_n (s := sg) (N := NN) (sz := nz) (ca := ca) (n := n.toInt) (c := c.toInt) (f := f.toInt) (t := t.toInt) (k := w.toInt) (r := -2) (by omega) rfl
      exact h (-2 : Int32) M hG F0 (by omega)
    · refine to_c (pc := 15) rw_139_15 (x := (1 : Int32)) rfl rfl (to_go (pc := 16) rw_139_16 (s_r1 (pc := 20) rw_139_20 (A := 1) rfl (by decide) (b_ieq_f (pc := 5) rw_135_5 (A := 1) rfl (by decide) (to_an (pc := 8) rw_135_8 rfl (to_in (pc := 9) rw_135_9 rfl (s_v (pc := 10) rw_135_10 (dp0 hd (by decide)) (ls0 := [.ref 0, .int c]) rfl (Nat.le_of_ble_eq_true rfl) (Nat.le_of_ble_eq_true rfl) rfl (to_rc rfl rfl rfl (g_o hG rfl)) rfl (to_in (pc := 0) rw_140_0 rfl (b_ilt (pc := 1) rw_140_1 (A := c.toInt) rfl (fun h21 => ?_) (fun h21 => ?_)))))))))
      · refine to_c (pc := 16) rw_140_16 (x := (0 : Int32)) rfl rfl (s_r1 (pc := 17) rw_140_17 (A := 0) rfl (by decide) (b_ieq_t (pc := 13) rw_135_13 (A := 0) rfl (by decide) (to_c (pc := 27) rw_135_27 (x := (-2 : Int32)) rfl rfl (to_r0 (pc := 29) rw_135_29 ?_))))
        have k_22 : (-2 : Int32).toInt = -2 := rfl
        have z_23 := x_meC_n (s := sg) (N := NN) (sz := nz) (ca := ca) (n := n.toInt) (c := c.toInt) (f := f.toInt) (t := t.toInt) (k := w.toInt) (r := -2) (by omega) rfl
        exact h (-2 : Int32) M hG F0 (by omega)
      · refine to_in (pc := 4) rw_140_4 rfl (to_an (pc := 5) rw_140_5 rfl (tt_gI (pc := 6) rw_140_6 (g_o hG rfl) (v := (M.2.1 0 12)) rfl (b_cge (pc := 9) rw_140_9 (A := c.toInt) (B := (M.2.1 0 12).toInt) rfl rfl (fun h24 => ?_) (fun h24 => ?_))))
        · refine to_c (pc := 16) rw_140_16 (x := (0 : Int32)) rfl rfl (s_r1 (pc := 17) rw_140_17 (A := 0) rfl (by decide) (b_ieq_t (pc := 13) rw_135_13 (A := 0) rfl (by decide) (to_c (pc := 27) rw_135_27 (x := (-2 : Int32)) rfl rfl (to_r0 (pc := 29) rw_135_29 ?_))))
          have k_25 : (-2 : Int32).toInt = -2 := rfl
          have z_26 := x_meC_n (s := sg) (N := NN) (sz := nz) (ca := ca) (n := n.toInt) (c := c.toInt) (f := f.toInt) (t := t.toInt) (k := w.toInt) (r := -2) (by omega) rfl
          exact h (-2 : Int32) M hG F0 (by omega)
        · refine to_c (pc := 12) rw_140_12 (x := (1 : Int32)) rfl rfl (to_go (pc := 13) rw_140_13 (s_r1 (pc := 17) rw_140_17 (A := 1) rfl (by decide) (b_ieq_f (pc := 13) rw_135_13 (A := 1) rfl (by decide) (to_an (pc := 16) rw_135_16 rfl (tt_gR (pc := 17) rw_135_17 (g_o hG rfl) q1.1 (to_in (pc := 20) rw_135_20 rfl (s_v (pc := 21) rw_135_21 (dp0 hd (by decide)) (ls0 := [.ref p, .int f]) rfl (Nat.le_of_ble_eq_true rfl) (Nat.le_of_ble_eq_true rfl) rfl (to_rc rfl rfl rfl (g_o hG (by rcases hp with rfl | rfl <;> rfl))) rfl (to_in (pc := 0) rw_43_0 rfl (b_ilt (pc := 1) rw_43_1 (A := f.toInt) rfl (fun h27 => ?_) (fun h27 => ?_))))))))))
          · refine to_c (pc := 16) rw_43_16 (x := (0 : Int32)) rfl rfl (s_r1 (pc := 17) rw_43_17 (A := 0) rfl (by decide) (b_ine_f (pc := 24) rw_135_24 (A := 0) rfl (by decide) (to_c (pc := 27) rw_135_27 (x := (-2 : Int32)) rfl rfl (to_r0 (pc := 29) rw_135_29 ?_))))
            have k_28 : (-2 : Int32).toInt = -2 := rfl
            have z_29 := x_meC_n (s := sg) (N := NN) (sz := nz) (ca := ca) (n := n.toInt) (c := c.toInt) (f := f.toInt) (t := t.toInt) (k := w.toInt) (r := -2) (by omega) rfl
            exact h (-2 : Int32) M hG F0 (by omega)
          · refine to_in (pc := 4) rw_43_4 rfl (to_an (pc := 5) rw_43_5 rfl (tt_gI (pc := 6) rw_43_6 (g_o hG (by rcases hp with rfl | rfl <;> rfl)) (v := (M.2.1 p 2)) rfl (b_cge (pc := 9) rw_43_9 (A := f.toInt) (B := (M.2.1 p 2).toInt) rfl rfl (fun h30 => ?_) (fun h30 => ?_))))
            · refine to_c (pc := 16) rw_43_16 (x := (0 : Int32)) rfl rfl (s_r1 (pc := 17) rw_43_17 (A := 0) rfl (by decide) (b_ine_f (pc := 24) rw_135_24 (A := 0) rfl (by decide) (to_c (pc := 27) rw_135_27 (x := (-2 : Int32)) rfl rfl (to_r0 (pc := 29) rw_135_29 ?_))))
              have k_31 : (-2 : Int32).toInt = -2 := rfl
              have z_32 := x_meC_n (s := sg) (N := NN) (sz := nz) (ca := ca) (n := n.toInt) (c := c.toInt) (f := f.toInt) (t := t.toInt) (k := w.toInt) (r := -2) (by omega) rfl
              exact h (-2 : Int32) M hG F0 (by omega)
            · refine to_c (pc := 12) rw_43_12 (x := (1 : Int32)) rfl rfl (to_go (pc := 13) rw_43_13 (s_r1 (pc := 17) rw_43_17 (A := 1) rfl (by decide) (b_ine_t (pc := 24) rw_135_24 (A := 1) rfl (by decide) (to_i (pc := 30) rw_135_30 rfl (b_ilt (pc := 32) rw_135_32 (A := t.toInt) rfl (fun h33 => ?_) (fun h33 => ?_))))))
              · refine to_c (pc := 53) rw_135_53 (x := (-2 : Int32)) rfl rfl (to_r0 (pc := 55) rw_135_55 ?_)
                have k_34 : (-2 : Int32).toInt = -2 := rfl
                have z_35 := x_meC_n (s := sg) (N := NN) (sz := nz) (ca := ca) (n := n.toInt) (c := c.toInt) (f := f.toInt) (t := t.toInt) (k := w.toInt) (r := -2) (by omega) rfl
                exact h (-2 : Int32) M hG F0 (by omega)
              · refine to_i (pc := 35) rw_135_35 rfl (to_c (pc := 37) rw_135_37 (x := (9 : Int32)) rfl rfl (b_cgt (pc := 39) rw_135_39 (A := t.toInt) (B := 9) rfl rfl (fun h36 => ?_) (fun h36 => ?_)))
                · refine to_c (pc := 53) rw_135_53 (x := (-2 : Int32)) rfl rfl (to_r0 (pc := 55) rw_135_55 ?_)
                  have k_37 : (-2 : Int32).toInt = -2 := rfl
                  have z_38 := x_meC_n (s := sg) (N := NN) (sz := nz) (ca := ca) (n := n.toInt) (c := c.toInt) (f := f.toInt) (t := t.toInt) (k := w.toInt) (r := -2) (by omega) rfl
                  exact h (-2 : Int32) M hG F0 (by omega)
                · refine to_i (pc := 42) rw_135_42 rfl (b_ilt (pc := 44) rw_135_44 (A := w.toInt) rfl (fun h39 => ?_) (fun h39 => ?_))
                  · refine to_c (pc := 53) rw_135_53 (x := (-2 : Int32)) rfl rfl (to_r0 (pc := 55) rw_135_55 ?_)
                    have k_40 : (-2 : Int32).toInt = -2 := rfl
                    have z_41 := x_meC_n (s := sg) (N := NN) (sz := nz) (ca := ca) (n := n.toInt) (c := c.toInt) (f := f.toInt) (t := t.toInt) (k := w.toInt) (r := -2) (by omega) rfl
                    exact h (-2 : Int32) M hG F0 (by omega)
                  · refine to_i (pc := 47) rw_135_47 rfl (to_c (pc := 49) rw_135_49 (x := (2 : Int32)) rfl rfl (b_cle (pc := 50) rw_135_50 (A := w.toInt) (B := 2) rfl rfl (fun h42 => ?_) (fun h42 => ?_)))
                    · refine to_an (pc := 56) rw_135_56 rfl (to_in (pc := 57) rw_135_57 rfl (s_v (pc := 58) rw_135_58 (dp0 hd (by decide)) (ls0 := [.ref 0, .int n]) rfl (Nat.le_of_ble_eq_true rfl) (Nat.le_of_ble_eq_true rfl) rfl (to_rc rfl rfl rfl (g_o hG rfl)) rfl (to_an (pc := 0) rw_141_0 rfl (s_gR (pc := 1) rw_141_1 hG rfl (v := 11) rfl (to_an (pc := 4) rw_141_4 rfl (tt_gR (pc := 5) rw_141_5 (g_o hG rfl) q1.1 (to_an (pc := 8) rw_141_8 rfl (s_gR (pc := 9) rw_141_9 hG rfl (v := 6) rfl (to_in (pc := 12) rw_141_12 rfl (s_v (pc := 13) rw_141_13 (dp1 hd (by decide)) (ls0 := [.ref 11, .ref p, .ref 6, .int n, .null]) rfl (Nat.le_of_ble_eq_true rfl) (Nat.le_of_ble_eq_true rfl) rfl (to_rc rfl rfl rfl (g_o hG rfl)) rfl (E_8 hX (dp2 hd (by decide)) hG hp (by omega) (by omega) (by omega) q3 q2 q4 q5 q6 (by omega) (p := p) (n := n) (sg := sg) (NN := NN) (nz := nz) (ca := ca) (fun M46 hG44 F43 p_45 => ?_))))))))))))
                      have F47 := FR.c F0 F43 tg_149
                      refine to_rv (pc := 16) rw_141_16 (to_an (pc := 61) rw_135_61 rfl ?_)
                      have j_48 := (PQ_f F43 q1)
                      refine tt_gR (pc := 62) rw_135_62 (g_o hG44 rfl) j_48.1 (to_in (pc := 65) rw_135_65 rfl (s_v (pc := 66) rw_135_66 (dp0 hd (by decide)) (ls0 := [.ref p, .int f]) rfl (Nat.le_of_ble_eq_true rfl) (Nat.le_of_ble_eq_true rfl) rfl (to_rc rfl rfl rfl (g_o hG44 (by rcases hp with rfl | rfl <;> rfl))) rfl (to_an (pc := 0) rw_45_0 rfl (s_gR (pc := 1) rw_45_1 hG44 (by rcases hp with rfl | rfl <;> rfl) (v := (p + 2)) (by rcases hp with rfl | rfl <;> rfl) (to_in (pc := 4) rw_45_4 rfl (s_ial (pc := 5) rw_45_5 hG44 (by rcases hp with rfl | rfl <;> rfl) (n := 8) (by rcases hp with rfl | rfl <;> rfl) (by rcases hp with rfl | rfl <;> rfl) (A := f.toInt) rfl (by omega) (by omega) (lo := 0) (hi := 3) (by rcases hp with rfl | rfl <;> rfl) (by rcases hp with rfl | rfl <;> rfl) (fun v49 w_50 _ _ => ?_)))))))
                      have j_51 := (PLs_f (fun a i z => F_n F43 (show ¬ (11 ≤ a ∧ a ≤ 16) by omega) rfl) q2)
                      have z_52 := PLs_r j_51 2 (by decide) (by decide) (k := f.toInt) (by omega) (by omega) w_50
                      refine to_c (pc := 6) rw_45_6 (x := (3 : Int32)) rfl rfl (b_cne (pc := 7) rw_45_7 (A := v49.toInt) (B := 3) rfl rfl (fun h53 => ?_) (fun h53 => ?_))
                      · refine to_c (pc := 14) rw_45_14 (x := (0 : Int32)) rfl rfl (s_r1 (pc := 15) rw_45_15 (A := 0) rfl (by decide) (b_ieq_t (pc := 69) rw_135_69 (A := 0) rfl (by decide) (to_an (pc := 94) rw_135_94 rfl (s_gR (pc := 95) rw_135_95 hG44 rfl (v := 39) rfl (to_an (pc := 98) rw_135_98 rfl (tt_gR (pc := 99) rw_135_99 (g_o hG44 rfl) j_48.1 (to_an (pc := 102) rw_135_102 rfl (s_gR (pc := 103) rw_135_103 hG44 rfl (v := 11) rfl (to_in (pc := 106) rw_135_106 rfl (to_in (pc := 107) rw_135_107 rfl (to_i (pc := 108) rw_135_108 rfl ?_)))))))))))
                        refine s_v (pc := 110) rw_135_110 (dp0 hd (by decide)) (ls0 := [.ref 39, .ref p, .ref 11, .int c, .int f, .int t, .null, .null, .null, .null, .null]) rfl (Nat.le_of_ble_eq_true rfl) (Nat.le_of_ble_eq_true rfl) rfl (to_rc rfl rfl rfl (g_o hG44 rfl)) rfl (E_18 hX (dp1 hd (by decide)) hG44 hp (by omega) (by omega) (by omega) (by omega) (by omega) (by omega) j_51 q4 p_45 (p := p) (c := c) (f := f) (t := t) (sg := sg) (ca := ca) (K := (x_kn sg NN (n.toInt).toNat)) (fun M57 hG55 F54 p_56 => ?_))
                        have F58 := FR.c F47 F54 tg_150
                        refine to_i (pc := 113) rw_135_113 rfl (b_ine (pc := 115) rw_135_115 (A := w.toInt) rfl (fun h59 => ?_) (fun h59 => ?_))
                        · refine to_i (pc := 126) rw_135_126 rfl (to_c (pc := 128) rw_135_128 (x := (1 : Int32)) rfl rfl (b_cne (pc := 129) rw_135_129 (A := w.toInt) (B := 1) rfl rfl (fun h60 => ?_) (fun h60 => ?_)))
                          · refine to_an (pc := 142) rw_135_142 rfl (s_gR (pc := 143) rw_135_143 hG55 rfl (v := 39) rfl (tt_gI (pc := 146) rw_135_146 (g_o hG55 rfl) (v := (M57.2.1 39 6)) rfl (to_r0 (pc := 149) rw_135_149 ?_)))
                            have z_61 := x_meC_v (s := sg) (N := NN) (sz := nz) (ca := ca) (n := n.toInt) (c := c.toInt) (f := f.toInt) (t := t.toInt) (k := w.toInt) (r := (M57.2.1 39 6).toInt) (by omega) (by omega) (MV_r p_56 (by omega))
                            exact h (M57.2.1 39 6) M57 hG55 F58 (by omega)
                          · refine to_an (pc := 132) rw_135_132 rfl (s_gR (pc := 133) rw_135_133 hG55 rfl (v := 39) rfl (tt_gI (pc := 136) rw_135_136 (g_o hG55 rfl) (v := (M57.2.1 39 5)) rfl (to_go (pc := 139) rw_135_139 (to_r0 (pc := 149) rw_135_149 ?_))))
                            have z_62 := x_meC_v (s := sg) (N := NN) (sz := nz) (ca := ca) (n := n.toInt) (c := c.toInt) (f := f.toInt) (t := t.toInt) (k := w.toInt) (r := (M57.2.1 39 5).toInt) (by omega) (by omega) (MV_r p_56 (by omega))
                            exact h (M57.2.1 39 5) M57 hG55 F58 (by omega)
                        · refine to_an (pc := 118) rw_135_118 rfl (s_gR (pc := 119) rw_135_119 hG55 rfl (v := 39) rfl (tt_gI (pc := 122) rw_135_122 (g_o hG55 rfl) (v := (M57.2.1 39 4)) rfl (to_r0 (pc := 125) rw_135_125 ?_)))
                          have z_63 := x_meC_v (s := sg) (N := NN) (sz := nz) (ca := ca) (n := n.toInt) (c := c.toInt) (f := f.toInt) (t := t.toInt) (k := w.toInt) (r := (M57.2.1 39 4).toInt) (by omega) (by omega) (MV_r p_56 (by omega))
                          exact h (M57.2.1 39 4) M57 hG55 F58 (by omega)
                      · refine to_c (pc := 10) rw_45_10 (x := (1 : Int32)) rfl rfl (to_go (pc := 11) rw_45_11 (s_r1 (pc := 15) rw_45_15 (A := 1) rfl (by decide) (b_ieq_f (pc := 69) rw_135_69 (A := 1) rfl (by decide) (to_an (pc := 72) rw_135_72 rfl (s_gR (pc := 73) rw_135_73 hG44 rfl (v := 39) rfl (to_an (pc := 76) rw_135_76 rfl (tt_gR (pc := 77) rw_135_77 (g_o hG44 rfl) j_48.1 (to_an (pc := 80) rw_135_80 rfl (s_gR (pc := 81) rw_135_81 hG44 rfl (v := 11) rfl (to_in (pc := 84) rw_135_84 rfl (to_in (pc := 85) rw_135_85 rfl ?_)))))))))))
                        refine to_i (pc := 86) rw_135_86 rfl (s_v (pc := 88) rw_135_88 (dp0 hd (by decide)) (ls0 := [.ref 39, .ref p, .ref 11, .int c, .int f, .int t, .null, .null, .null]) rfl (Nat.le_of_ble_eq_true rfl) (Nat.le_of_ble_eq_true rfl) rfl (to_rc rfl rfl rfl (g_o hG44 rfl)) rfl (E_16 hX (dp1 hd (by decide)) hG44 hp (by omega) (by omega) (by omega) (by omega) (by omega) j_51 p_45 (p := p) (c := c) (f := f) (t := t) (sg := sg) (ca := ca) (K := (x_kn sg NN (n.toInt).toNat)) (fun M67 hG65 F64 p_66 => ?_)))
                        have F68 := FR.c F47 F64 tg_150
                        refine to_go (pc := 91) rw_135_91 (to_i (pc := 113) rw_135_113 rfl (b_ine (pc := 115) rw_135_115 (A := w.toInt) rfl (fun h69 => ?_) (fun h69 => ?_)))
                        · refine to_i (pc := 126) rw_135_126 rfl (to_c (pc := 128) rw_135_128 (x := (1 : Int32)) rfl rfl (b_cne (pc := 129) rw_135_129 (A := w.toInt) (B := 1) rfl rfl (fun h70 => ?_) (fun h70 => ?_)))
                          · refine to_an (pc := 142) rw_135_142 rfl (s_gR (pc := 143) rw_135_143 hG65 rfl (v := 39) rfl (tt_gI (pc := 146) rw_135_146 (g_o hG65 rfl) (v := (M67.2.1 39 6)) rfl (to_r0 (pc := 149) rw_135_149 ?_)))
                            have z_71 := x_meC_w (s := sg) (N := NN) (sz := nz) (ca := ca) (n := n.toInt) (c := c.toInt) (f := f.toInt) (t := t.toInt) (k := w.toInt) (r := (M67.2.1 39 6).toInt) (by omega) (by omega) (MS_r p_66 (by omega))
                            exact h (M67.2.1 39 6) M67 hG65 F68 (by omega)
                          · refine to_an (pc := 132) rw_135_132 rfl (s_gR (pc := 133) rw_135_133 hG65 rfl (v := 39) rfl (tt_gI (pc := 136) rw_135_136 (g_o hG65 rfl) (v := (M67.2.1 39 5)) rfl (to_go (pc := 139) rw_135_139 (to_r0 (pc := 149) rw_135_149 ?_))))
                            have z_72 := x_meC_w (s := sg) (N := NN) (sz := nz) (ca := ca) (n := n.toInt) (c := c.toInt) (f := f.toInt) (t := t.toInt) (k := w.toInt) (r := (M67.2.1 39 5).toInt) (by omega) (by omega) (MS_r p_66 (by omega))
                            exact h (M67.2.1 39 5) M67 hG65 F68 (by omega)
                        · refine to_an (pc := 118) rw_135_118 rfl (s_gR (pc := 119) rw_135_119 hG65 rfl (v := 39) rfl (tt_gI (pc := 122) rw_135_122 (g_o hG65 rfl) (v := (M67.2.1 39 4)) rfl (to_r0 (pc := 125) rw_135_125 ?_)))
                          have z_73 := x_meC_w (s := sg) (N := NN) (sz := nz) (ca := ca) (n := n.toInt) (c := c.toInt) (f := f.toInt) (t := t.toInt) (k := w.toInt) (r := (M67.2.1 39 4).toInt) (by omega) (by omega) (MS_r p_66 (by omega))
                          exact h (M67.2.1 39 4) M67 hG65 F68 (by omega)
                    · refine to_c (pc := 53) rw_135_53 (x := (-2 : Int32)) rfl rfl (to_r0 (pc := 55) rw_135_55 ?_)
                      have k_74 : (-2 : Int32).toInt = -2 := rfl
                      have z_75 := x_meC_n (s := sg) (N := NN) (sz := nz) (ca := ca) (n := n.toInt) (c := c.toInt) (f := f.toInt) (t := t.toInt) (k := w.toInt) (r := -2) (by omega) rfl
                      exact h (-2 : Int32) M hG F0 (by omega)
set_option maxRecDepth 4000 in
set_option maxHeartbeats 0 in
theorem E_238 {X : mm_X} {d : Nat} {M : mm_M} {Q : Option Value → mm_M → Prop} {n : Int32} {c : Int32} {f : Int32} {t : Int32} {w : Int32} {sg : x_S} {NN : x_N} {nz : Int} {ca : Int} (hX : g_X X) (hd : 3 ≤ d) (hG : g_G M) (q1 : x_vn sg ca NN nz) (q2 : ca ≤ 30) (q3 : (M.2.1 77 29).toInt = nz) (q4 : (M.2.1 77 28).toInt = ca) (q5 : CWk M sg) (q6 : FA M) (q7 : PLk M sg) (q8 : W8 M) (q9 : NTr M NN nz) (h : ∀ (r : Int32) (M1 : mm_M), g_G M1 → FR md_me M M1 → (r.toInt = x_meR sg NN nz ca n.toInt c.toInt f.toInt t.toInt w.toInt) → Q (some (.int r)) M1) : mm_T X d 237 0 [.ref 77, .int n, .int c, .int f, .int t, .int w] [] M Q := by
  have F0 : FR md_me M M := FR.rf
  have b_1 := g_b hG (a := 77) (i := 29) (lo := 0) (hi := 150) rfl rfl
  have b_2 := g_b hG (a := 77) (i := 28) (lo := 0) (hi := 30) rfl rfl
  have z_3 := q7.2.1
  have z_4 := q7.2.2.1
  have z_5 := q7.2.2.2.1
  have z_6 := q7.1
  have z_7 := z_6.1
  have z_8 := z_6.2.1
  have z_9 := z_6.2.2.1
  have z_10 := z_6.2.2.2.1
  have z_11 := z_6.2.2.2.2.1
  have z_12 := z_6.2.2.2.2.2.1
  have b_13 := g_b hG (a := 77) (i := 11) (lo := 10) (hi := 60) rfl rfl
  have b_14 := g_b hG (a := 77) (i := 12) (lo := 0) (hi := 8) rfl rfl
  have b_15 := g_b hG (a := 77) (i := 13) (lo := 0) (hi := 12) rfl rfl
  refine to_an (pc := 0) rw_238_0 rfl (to_c (pc := 1) rw_238_1 (x := (0 : Int32)) rfl rfl (s_pI (pc := 2) rw_238_2 hG rfl (fun M17 W16 => ?_)))
  have hG18 := g_wf hG W16 rfl rfl (by decide)
  have F19 := FR.w F0 W16 (show 77 = 77 ∧ 2 = 2 ∨ 94 ≤ 77 ∧ 77 ≤ 98 ∨ 77 = 119 by decide)
  refine to_an (pc := 5) rw_238_5 rfl (to_in (pc := 6) rw_238_6 rfl (s_v (pc := 7) rw_238_7 (dp0 hd (by decide)) (ls0 := [.ref 77, .int n]) rfl (Nat.le_of_ble_eq_true rfl) (Nat.le_of_ble_eq_true rfl) rfl (to_rc rfl rfl rfl (g_o hG18 rfl)) rfl (to_in (pc := 0) rw_186_0 rfl (b_ilt (pc := 1) rw_186_1 (A := n.toInt) rfl (fun h20 => ?_) (fun h20 => ?_)))))
  · refine to_c (pc := 16) rw_186_16 (x := (0 : Int32)) rfl rfl (s_r1 (pc := 17) rw_186_17 (A := 0) rfl (by decide) (b_ieq_t (pc := 10) rw_238_10 (A := 0) rfl (by decide) (to_c (pc := 50) rw_238_50 (x := (-2 : Int32)) rfl rfl (to_r0 (pc := 52) rw_238_52 ?_))))
    have k_21 : (-2 : Int32).toInt = -2 := rfl
    have z_22 := x_meR_n (s := sg) (N := NN) (sz := nz) (ca := ca) (n := n.toInt) (c := c.toInt) (f := f.toInt) (t := t.toInt) (k := w.toInt) (r := -2) (by omega) rfl
    exact h (-2 : Int32) M17 hG18 F19 (by omega)
  · refine to_in (pc := 4) rw_186_4 rfl (to_an (pc := 5) rw_186_5 rfl ?_)
    have c_23 : M17.2.1 77 29 = (M.2.1 77 29) := (W_n W16 (by decide) rfl)
    refine tt_gI (pc := 6) rw_186_6 (g_o hG18 rfl) (v := (M.2.1 77 29)) c_23 (b_cgt (pc := 9) rw_186_9 (A := n.toInt) (B := (M.2.1 77 29).toInt) rfl rfl (fun h24 => ?_) (fun h24 => ?_))
    · refine to_c (pc := 16) rw_186_16 (x := (0 : Int32)) rfl rfl (s_r1 (pc := 17) rw_186_17 (A := 0) rfl (by decide) (b_ieq_t (pc := 10) rw_238_10 (A := 0) rfl (by decide) (to_c (pc := 50) rw_238_50 (x := (-2 : Int32)) rfl rfl (to_r0 (pc := 52) rw_238_52 ?_))))
      have k_25 : (-2 : Int32).toInt = -2 := rfl
      have z_26 := x_meR_n (s := sg) (N := NN) (sz := nz) (ca := ca) (n := n.toInt) (c := c.toInt) (f := f.toInt) (t := t.toInt) (k := w.toInt) (r := -2) (by omega) rfl
      exact h (-2 : Int32) M17 hG18 F19 (by omega)
    · refine to_c (pc := 12) rw_186_12 (x := (1 : Int32)) rfl rfl (to_go (pc := 13) rw_186_13 (s_r1 (pc := 17) rw_186_17 (A := 1) rfl (by decide) (b_ieq_f (pc := 10) rw_238_10 (A := 1) rfl (by decide) (to_an (pc := 13) rw_238_13 rfl (to_in (pc := 14) rw_238_14 rfl (s_v (pc := 15) rw_238_15 (dp0 hd (by decide)) (ls0 := [.ref 77, .int c]) rfl (Nat.le_of_ble_eq_true rfl) (Nat.le_of_ble_eq_true rfl) rfl (to_rc rfl rfl rfl (g_o hG18 rfl)) rfl (to_in (pc := 0) rw_187_0 rfl (b_ilt (pc := 1) rw_187_1 (A := c.toInt) rfl (fun h27 => ?_) (fun h27 => ?_)))))))))
      · refine to_c (pc := 16) rw_187_16 (x := (0 : Int32)) rfl rfl (s_r1 (pc := 17) rw_187_17 (A := 0) rfl (by decide) (b_ieq_t (pc := 18) rw_238_18 (A := 0) rfl (by decide) (to_c (pc := 50) rw_238_50 (x := (-2 : Int32)) rfl rfl (to_r0 (pc := 52) rw_238_52 ?_))))
        have k_28 : (-2 : Int32).toInt = -2 := rfl
        have z_29 := x_meR_n (s := sg) (N := NN) (sz := nz) (ca := ca) (n := n.toInt) (c := c.toInt) (f := f.toInt) (t := t.toInt) (k := w.toInt) (r := -2) (by omega) rfl
        exact h (-2 : Int32) M17 hG18 F19 (by omega)
      · refine to_in (pc := 4) rw_187_4 rfl (to_an (pc := 5) rw_187_5 rfl ?_)
        have c_30 : M17.2.1 77 28 = (M.2.1 77 28) := (W_n W16 (by decide) rfl)
        refine tt_gI (pc := 6) rw_187_6 (g_o hG18 rfl) (v := (M.2.1 77 28)) c_30 (b_cge (pc := 9) rw_187_9 (A := c.toInt) (B := (M.2.1 77 28).toInt) rfl rfl (fun h31 => ?_) (fun h31 => ?_))
        · refine to_c (pc := 16) rw_187_16 (x := (0 : Int32)) rfl rfl (s_r1 (pc := 17) rw_187_17 (A := 0) rfl (by decide) (b_ieq_t (pc := 18) rw_238_18 (A := 0) rfl (by decide) (to_c (pc := 50) rw_238_50 (x := (-2 : Int32)) rfl rfl (to_r0 (pc := 52) rw_238_52 ?_))))
          have k_32 : (-2 : Int32).toInt = -2 := rfl
          have z_33 := x_meR_n (s := sg) (N := NN) (sz := nz) (ca := ca) (n := n.toInt) (c := c.toInt) (f := f.toInt) (t := t.toInt) (k := w.toInt) (r := -2) (by omega) rfl
          exact h (-2 : Int32) M17 hG18 F19 (by omega)
        · refine to_c (pc := 12) rw_187_12 (x := (1 : Int32)) rfl rfl (to_go (pc := 13) rw_187_13 (s_r1 (pc := 17) rw_187_17 (A := 1) rfl (by decide) (b_ieq_f (pc := 18) rw_238_18 (A := 1) rfl (by decide) (to_an (pc := 21) rw_238_21 rfl (to_in (pc := 22) rw_238_22 rfl (s_v (pc := 23) rw_238_23 (dp0 hd (by decide)) (ls0 := [.ref 77, .int f]) rfl (Nat.le_of_ble_eq_true rfl) (Nat.le_of_ble_eq_true rfl) rfl (to_rc rfl rfl rfl (g_o hG18 rfl)) rfl (to_in (pc := 0) rw_178_0 rfl (b_ilt (pc := 1) rw_178_1 (A := f.toInt) rfl (fun h34 => ?_) (fun h34 => ?_)))))))))
          · refine to_c (pc := 16) rw_178_16 (x := (0 : Int32)) rfl rfl (s_r1 (pc := 17) rw_178_17 (A := 0) rfl (by decide) (b_ieq_t (pc := 26) rw_238_26 (A := 0) rfl (by decide) (to_c (pc := 50) rw_238_50 (x := (-2 : Int32)) rfl rfl (to_r0 (pc := 52) rw_238_52 ?_))))
            have k_35 : (-2 : Int32).toInt = -2 := rfl
            have z_36 := x_meR_n (s := sg) (N := NN) (sz := nz) (ca := ca) (n := n.toInt) (c := c.toInt) (f := f.toInt) (t := t.toInt) (k := w.toInt) (r := -2) (by omega) rfl
            exact h (-2 : Int32) M17 hG18 F19 (by omega)
          · refine to_in (pc := 4) rw_178_4 rfl (to_an (pc := 5) rw_178_5 rfl ?_)
            have c_37 : M17.2.1 77 12 = (M.2.1 77 12) := (W_n W16 (by decide) rfl)
            refine tt_gI (pc := 6) rw_178_6 (g_o hG18 rfl) (v := (M.2.1 77 12)) c_37 (b_cge (pc := 9) rw_178_9 (A := f.toInt) (B := (M.2.1 77 12).toInt) rfl rfl (fun h38 => ?_) (fun h38 => ?_))
            · refine to_c (pc := 16) rw_178_16 (x := (0 : Int32)) rfl rfl (s_r1 (pc := 17) rw_178_17 (A := 0) rfl (by decide) (b_ieq_t (pc := 26) rw_238_26 (A := 0) rfl (by decide) (to_c (pc := 50) rw_238_50 (x := (-2 : Int32)) rfl rfl (to_r0 (pc := 52) rw_238_52 ?_))))
              have k_39 : (-2 : Int32).toInt = -2 := rfl
              have z_40 := x_meR_n (s := sg) (N := NN) (sz := nz) (ca := ca) (n := n.toInt) (c := c.toInt) (f := f.toInt) (t := t.toInt) (k := w.toInt) (r := -2) (by omega) rfl
              exact h (-2 : Int32) M17 hG18 F19 (by omega)
            · refine to_c (pc := 12) rw_178_12 (x := (1 : Int32)) rfl rfl (to_go (pc := 13) rw_178_13 (s_r1 (pc := 17) rw_178_17 (A := 1) rfl (by decide) (b_ieq_f (pc := 26) rw_238_26 (A := 1) rfl (by decide) (to_i (pc := 29) rw_238_29 rfl (to_c (pc := 31) rw_238_31 (x := (0 : Int32)) rfl rfl (to_c (pc := 32) rw_238_32 (x := (9 : Int32)) rfl rfl (s_s (pc := 34) rw_238_34 (dp0 hd (by decide)) (ls0 := [.int t, .int (0 : Int32), .int (9 : Int32)]) rfl (Nat.le_of_ble_eq_true rfl) (Nat.le_of_ble_eq_true rfl) rfl (to_rcs rfl rfl) rfl (to_in (pc := 0) rw_149_0 rfl (to_in (pc := 1) rw_149_1 rfl (b_clt (pc := 2) rw_149_2 (A := t.toInt) (B := 0) rfl rfl (fun h41 => ?_) (fun h41 => ?_)))))))))))
              · refine to_c (pc := 14) rw_149_14 (x := (0 : Int32)) rfl rfl (s_r1 (pc := 15) rw_149_15 (A := 0) rfl (by decide) (b_ieq_t (pc := 37) rw_238_37 (A := 0) rfl (by decide) (to_c (pc := 50) rw_238_50 (x := (-2 : Int32)) rfl rfl (to_r0 (pc := 52) rw_238_52 ?_))))
                have k_42 : (-2 : Int32).toInt = -2 := rfl
                have z_43 := x_meR_n (s := sg) (N := NN) (sz := nz) (ca := ca) (n := n.toInt) (c := c.toInt) (f := f.toInt) (t := t.toInt) (k := w.toInt) (r := -2) (by omega) rfl
                exact h (-2 : Int32) M17 hG18 F19 (by omega)
              · refine to_in (pc := 5) rw_149_5 rfl (to_in (pc := 6) rw_149_6 rfl (b_cgt (pc := 7) rw_149_7 (A := t.toInt) (B := 9) rfl rfl (fun h44 => ?_) (fun h44 => ?_)))
                · refine to_c (pc := 14) rw_149_14 (x := (0 : Int32)) rfl rfl (s_r1 (pc := 15) rw_149_15 (A := 0) rfl (by decide) (b_ieq_t (pc := 37) rw_238_37 (A := 0) rfl (by decide) (to_c (pc := 50) rw_238_50 (x := (-2 : Int32)) rfl rfl (to_r0 (pc := 52) rw_238_52 ?_))))
                  have k_45 : (-2 : Int32).toInt = -2 := rfl
                  have z_46 := x_meR_n (s := sg) (N := NN) (sz := nz) (ca := ca) (n := n.toInt) (c := c.toInt) (f := f.toInt) (t := t.toInt) (k := w.toInt) (r := -2) (by omega) rfl
                  exact h (-2 : Int32) M17 hG18 F19 (by omega)
                · refine to_c (pc := 10) rw_149_10 (x := (1 : Int32)) rfl rfl (to_go (pc := 11) rw_149_11 (s_r1 (pc := 15) rw_149_15 (A := 1) rfl (by decide) (b_ieq_f (pc := 37) rw_238_37 (A := 1) rfl (by decide) (to_i (pc := 40) rw_238_40 rfl (to_c (pc := 42) rw_238_42 (x := (0 : Int32)) rfl rfl (to_c (pc := 43) rw_238_43 (x := (2 : Int32)) rfl rfl (s_s (pc := 44) rw_238_44 (dp0 hd (by decide)) (ls0 := [.int w, .int (0 : Int32), .int (2 : Int32)]) rfl (Nat.le_of_ble_eq_true rfl) (Nat.le_of_ble_eq_true rfl) rfl (to_rcs rfl rfl) rfl (to_in (pc := 0) rw_149_0 rfl (to_in (pc := 1) rw_149_1 rfl (b_clt (pc := 2) rw_149_2 (A := w.toInt) (B := 0) rfl rfl (fun h47 => ?_) (fun h47 => ?_)))))))))))
                  · refine to_c (pc := 14) rw_149_14 (x := (0 : Int32)) rfl rfl (s_r1 (pc := 15) rw_149_15 (A := 0) rfl (by decide) (b_ine_f (pc := 47) rw_238_47 (A := 0) rfl (by decide) (to_c (pc := 50) rw_238_50 (x := (-2 : Int32)) rfl rfl (to_r0 (pc := 52) rw_238_52 ?_))))
                    have k_48 : (-2 : Int32).toInt = -2 := rfl
                    have z_49 := x_meR_n (s := sg) (N := NN) (sz := nz) (ca := ca) (n := n.toInt) (c := c.toInt) (f := f.toInt) (t := t.toInt) (k := w.toInt) (r := -2) (by omega) rfl
                    exact h (-2 : Int32) M17 hG18 F19 (by omega)
                  · refine to_in (pc := 5) rw_149_5 rfl (to_in (pc := 6) rw_149_6 rfl (b_cgt (pc := 7) rw_149_7 (A := w.toInt) (B := 2) rfl rfl (fun h50 => ?_) (fun h50 => ?_)))
                    · refine to_c (pc := 14) rw_149_14 (x := (0 : Int32)) rfl rfl (s_r1 (pc := 15) rw_149_15 (A := 0) rfl (by decide) (b_ine_f (pc := 47) rw_238_47 (A := 0) rfl (by decide) (to_c (pc := 50) rw_238_50 (x := (-2 : Int32)) rfl rfl (to_r0 (pc := 52) rw_238_52 ?_))))
                      have k_51 : (-2 : Int32).toInt = -2 := rfl
                      have z_52 := x_meR_n (s := sg) (N := NN) (sz := nz) (ca := ca) (n := n.toInt) (c := c.toInt) (f := f.toInt) (t := t.toInt) (k := w.toInt) (r := -2) (by omega) rfl
                      exact h (-2 : Int32) M17 hG18 F19 (by omega)
                    · refine to_c (pc := 10) rw_149_10 (x := (1 : Int32)) rfl rfl (to_go (pc := 11) rw_149_11 (s_r1 (pc := 15) rw_149_15 (A := 1) rfl (by decide) (b_ine_t (pc := 47) rw_238_47 (A := 1) rfl (by decide) (to_an (pc := 53) rw_238_53 rfl (to_in (pc := 54) rw_238_54 rfl (s_v (pc := 55) rw_238_55 (dp0 hd (by decide)) (ls0 := [.ref 77, .int n, .null, .null]) rfl (Nat.le_of_ble_eq_true rfl) (Nat.le_of_ble_eq_true rfl) rfl (to_rc rfl rfl rfl (g_o hG18 rfl)) rfl ?_))))))
                      have t_53 : (M17.2.1 77 28).toInt = (M.2.1 77 28).toInt := congrArg Int32.toInt c_30
                      have j_54 := (CWk_f (fun k hk9 => W_j W16 rfl) q5)
                      have j_55 := (FA_f (fun a i z => W_n W16 (tg_94 a i z) rfl) q6)
                      have j_56 := (PLk_f (fun a i z => W_n W16 (tg_91 a i z) rfl) q7)
                      have j_57 := (W8_f (fun a i z => W_n W16 (tg_95 a i z) rfl) q8)
                      have j_58 := (NTr_f (fun a i z => W_n W16 (tg_135 a i z) rfl) q9)
                      refine E_189 hX (dp1 hd (by decide)) hG18 (by omega) (by omega) (by omega) q1 (by omega) (by omega) j_54 j_55 j_56 j_57 j_58 (n := n) (sg := sg) (NN := NN) (nz := nz) (ca := ca) (fun M62 hG60 F59 p_61 => ?_)
                      have F63 := FR.c F19 F59 tg_151
                      refine to_an (pc := 58) rw_238_58 rfl (s_gR (pc := 59) rw_238_59 hG60 rfl (v := 81) rfl (to_in (pc := 62) rw_238_62 rfl (s_ial (pc := 63) rw_238_63 hG60 rfl (n := 16) rfl rfl (A := f.toInt) rfl (by omega) (by omega) (lo := 0) (hi := 3) rfl rfl (fun v64 w_65 _ _ => ?_))))
                      have j_66 := (PLk_f (tg_136 F59) j_56)
                      have z_67 := PLk_r j_66 2 81 rfl (by decide) (by decide) (k := f.toInt) (by omega) (by omega) w_65
                      refine to_c (pc := 64) rw_238_64 (x := (3 : Int32)) rfl rfl (b_cne (pc := 65) rw_238_65 (A := v64.toInt) (B := 3) rfl rfl (fun h68 => ?_) (fun h68 => ?_))
                      · refine to_an (pc := 81) rw_238_81 rfl (to_in (pc := 82) rw_238_82 rfl (to_in (pc := 83) rw_238_83 rfl (to_i (pc := 84) rw_238_84 rfl (to_i (pc := 86) rw_238_86 rfl (s_v (pc := 88) rw_238_88 (dp0 hd (by decide)) (ls0 := [.ref 77, .int c, .int f, .int t, .int w, .null, .null, .null, .null, .null, .null, .null, .null]) rfl (Nat.le_of_ble_eq_true rfl) (Nat.le_of_ble_eq_true rfl) rfl (to_rc rfl rfl rfl (g_o hG60 rfl)) rfl ?_)))))
                        have j_69 := (FA_f (tg_147 F59) j_55)
                        have j_70 := (W8_f (tg_148 F59) j_57)
                        refine E_240 hX (dp1 hd (by decide)) hG60 (by omega) (by omega) (by omega) (by omega) (by omega) (by omega) (by omega) (by omega) j_69 j_66 j_70 p_61 (c := c) (f := f) (t := t) (w := w) (sg := sg) (ca := ca) (K := (x_kn sg NN (n.toInt).toNat)) (fun r71 M75 hG73 F72 p_74 => ?_)
                        have F76 := FR.c F63 F72 tg_152
                        refine to_r0 (pc := 91) rw_238_91 ?_
                        have z_77 := x_meR_v (s := sg) (N := NN) (sz := nz) (ca := ca) (n := n.toInt) (c := c.toInt) (f := f.toInt) (t := t.toInt) (k := w.toInt) (by omega) (by omega) p_74
                        exact h r71 M75 hG73 F76 (by omega)
                      · refine to_an (pc := 68) rw_238_68 rfl (to_in (pc := 69) rw_238_69 rfl (to_in (pc := 70) rw_238_70 rfl (to_i (pc := 71) rw_238_71 rfl (to_i (pc := 73) rw_238_73 rfl (s_v (pc := 75) rw_238_75 (dp0 hd (by decide)) (ls0 := [.ref 77, .int c, .int f, .int t, .int w, .null, .null, .null, .null, .null, .null, .null, .null, .null, .null, .null]) rfl (Nat.le_of_ble_eq_true rfl) (Nat.le_of_ble_eq_true rfl) rfl (to_rc rfl rfl rfl (g_o hG60 rfl)) rfl (E_239 hX (dp1 hd (by decide)) hG60 (by omega) (by omega) (by omega) (by omega) (by omega) (by omega) (by omega) j_66 p_61 (c := c) (f := f) (t := t) (w := w) (sg := sg) (ca := ca) (K := (x_kn sg NN (n.toInt).toNat)) (fun r78 M82 hG80 F79 p_81 => ?_)))))))
                        have F83 := FR.c F63 F79 tg_153
                        refine to_go (pc := 78) rw_238_78 (to_r0 (pc := 91) rw_238_91 ?_)
                        have z_84 := x_meR_w (s := sg) (N := NN) (sz := nz) (ca := ca) (n := n.toInt) (c := c.toInt) (f := f.toInt) (t := t.toInt) (k := w.toInt) (by omega) (by omega) p_81
                        exact h r78 M82 hG80 F83 (by omega)
