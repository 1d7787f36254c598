theorem tg_136 {M M1 : mm_M} (F : FR (fun a i : Nat => 94 ≤ a ∧ a ≤ 98) M M1) : ∀ a i : Nat, (a = 77 ∧ 11 ≤ i ∧ i ≤ 13 ∨ 80 ≤ a ∧ a ≤ 84 ∧ i < 8 ∨ 85 ≤ a ∧ a ≤ 86 ∧ i < 12) → M1.2.1 a i = M.2.1 a i := fun a i z => F_n F (show ¬ (94 ≤ a ∧ a ≤ 98) by omega) rfl
theorem tg_137 : ∀ a i : Nat, (a < 0) → (11 ≤ a ∧ a ≤ 16) := fun a i z => by omega
theorem tg_138 : ∀ a i : Nat, (a < 0) → (a = 77 ∧ i = 2 ∨ 94 ≤ a ∧ a ≤ 98) := fun a i z => by omega
set_option maxRecDepth 4000 in
set_option maxHeartbeats 0 in
theorem U_51_0 {X : mm_X} {d : Nat} {M : mm_M} {Q : Option Value → mm_M → Prop} {p : Nat} {f : Int32} {sg : x_S} (hX : g_X X) (hd : 0 ≤ d) (hp : p = 49 ∨ p = 58) (q1 : PLs M p sg) (h : ∀ (r : Int32) (M1 : mm_M), g_G M1 → FR md_0 M M1 → (r = x_wof sg f.toInt) → Q (some (.int r)) M1) : ∀ nn9 : Nat, (∀ (N : mm_M) (x2 : Int32) (x3 : Int32), g_G N → FR md_0 M N → (0 ≤ x3.toInt) → (x3.toInt ≤ 12) → (x3.toInt ≤ sg.2.2.1) → (PLs N p sg) → (x_wo sg f.toInt (sg.2.2.1 - x3.toInt).toNat (x3.toInt).toNat x2 = x_wof sg f.toInt) → 12 - x3.toInt < (nn9 : Int) → mm_T X d 51 4 [.ref p, .int f, .int x2, .int x3] [] N Q) := by
  intro nn9
  induction nn9 with
  | zero =>
    intro N x2 x3 hG F0 g1 g2 g3 g4 g5 hm
    exfalso; omega
  | succ nn9 ih =>
    intro N x2 x3 hG F0 g1 g2 g3 g4 g5 hm
    have z_1 := g4.2.1
    have z_2 := g4.2.2.1
    have z_3 := g4.2.2.2.1
    have z_4 := g4.1
    have z_5 := z_4.1
    have z_6 := z_4.2.1
    have z_7 := z_4.2.2.1
    have z_8 := z_4.2.2.2.1
    have z_9 := z_4.2.2.2.2.1
    have z_10 := z_4.2.2.2.2.2.1
    have b_11 := g_b hG (a := p) (i := 2) (lo := 0) (hi := 8) (by rcases hp with rfl | rfl <;> rfl) (by rcases hp with rfl | rfl <;> rfl)
    have b_12 := g_b hG (a := p) (i := 3) (lo := 0) (hi := 12) (by rcases hp with rfl | rfl <;> rfl) (by rcases hp with rfl | rfl <;> rfl)
    refine to_in (pc := 4) rw_51_4 rfl (to_an (pc := 5) rw_51_5 rfl (tt_gI (pc := 6) rw_51_6 (g_o hG (by rcases hp with rfl | rfl <;> rfl)) (v := (N.2.1 p 3)) rfl (b_cge (pc := 9) rw_51_9 (A := x3.toInt) (B := (N.2.1 p 3).toInt) rfl rfl (fun h13 => ?_) (fun h13 => ?_))))
    · refine to_in (pc := 34) rw_51_34 rfl (to_r0 (pc := 35) rw_51_35 ?_)
      exact h x2 N hG F0 (x_wo_x (k := x3.toInt) (by omega) g5)
    · refine to_an (pc := 12) rw_51_12 rfl (s_gR (pc := 13) rw_51_13 hG (by rcases hp with rfl | rfl <;> rfl) (v := (p + 7)) (by rcases hp with rfl | rfl <;> rfl) (to_in (pc := 16) rw_51_16 rfl (s_ial (pc := 17) rw_51_17 hG (by rcases hp with rfl | rfl <;> rfl) (n := 12) (by rcases hp with rfl | rfl <;> rfl) (by rcases hp with rfl | rfl <;> rfl) (A := x3.toInt) rfl (by omega) (by omega) (lo := 0) (hi := 7) (by rcases hp with rfl | rfl <;> rfl) (by rcases hp with rfl | rfl <;> rfl) (fun v14 w_15 _ _ => ?_))))
      have z_16 := PLs_v g4 7 (by decide) (by decide) (k := x3.toInt) (by omega) (by omega) w_15
      refine to_in (pc := 18) rw_51_18 rfl (b_cne (pc := 19) rw_51_19 (A := v14.toInt) (B := f.toInt) rfl rfl (fun h17 => ?_) (fun h17 => ?_))
      · refine s_inc (pc := 28) rw_51_28 (ls2 := fun v => [.ref p, .int f, .int x2, .int v]) rfl rfl (fun _ => rfl) (A := x3.toInt) (B := 1) rfl rfl (by omega) (fun v18 e19 => to_go (pc := 31) rw_51_31 ?_)
        exact ih N x2 v18 hG F0 (by omega) (by omega) (by omega) g4 (x_wo_s (k := x3.toInt) (by omega) (by omega) (by omega) g5 (x_wo_n z_16 (by omega))) (by omega)
      · refine to_in (pc := 22) rw_51_22 rfl (to_c (pc := 23) rw_51_23 (x := (1 : Int32)) rfl rfl (to_in (pc := 24) rw_51_24 rfl (s_opE (pc := 25) rw_51_25 (w := (1 : Int32) <<< x3) rfl (fun v20 e21 => s_opE (pc := 26) rw_51_26 (w := x2 ||| v20) rfl (fun v22 e23 => to_isn (pc := 27) rw_51_27 (ls2 := [.ref p, .int f, .int v22, .int x3]) rfl rfl (s_inc (pc := 28) rw_51_28 (ls2 := fun v => [.ref p, .int f, .int v22, .int v]) rfl rfl (fun _ => rfl) (A := x3.toInt) (B := 1) rfl rfl (by omega) (fun v24 e25 => to_go (pc := 31) rw_51_31 ?_)))))))
        exact ih N v22 v24 hG F0 (by omega) (by omega) (by omega) g4 (x_wo_s (k := x3.toInt) (by omega) (by omega) (by omega) g5 (x_wo_y (by omega) z_16 (by omega) (w := x3) (by omega) e21 e23)) (by omega)
set_option maxRecDepth 4000 in
set_option maxHeartbeats 0 in
theorem E_51 {X : mm_X} {d : Nat} {M : mm_M} {Q : Option Value → mm_M → Prop} {p : Nat} {f : Int32} {sg : x_S} (hX : g_X X) (hd : 0 ≤ d) (hG : g_G M) (hp : p = 49 ∨ p = 58) (q1 : PLs M p sg) (h : ∀ (r : Int32) (M1 : mm_M), g_G M1 → FR md_0 M M1 → (r = x_wof sg f.toInt) → Q (some (.int r)) M1) : mm_T X d 51 0 [.ref p, .int f, .null, .null] [] M Q := by
  have F0 : FR md_0 M M := FR.rf
  have z_26 := q1.2.1
  have z_27 := q1.2.2.1
  have z_28 := q1.2.2.2.1
  have z_29 := q1.1
  have z_30 := z_29.1
  have z_31 := z_29.2.1
  have z_32 := z_29.2.2.1
  have z_33 := z_29.2.2.2.1
  have z_34 := z_29.2.2.2.2.1
  have z_35 := z_29.2.2.2.2.2.1
  have b_36 := g_b hG (a := p) (i := 2) (lo := 0) (hi := 8) (by rcases hp with rfl | rfl <;> rfl) (by rcases hp with rfl | rfl <;> rfl)
  have b_37 := g_b hG (a := p) (i := 3) (lo := 0) (hi := 12) (by rcases hp with rfl | rfl <;> rfl) (by rcases hp with rfl | rfl <;> rfl)
  refine to_c (pc := 0) rw_51_0 (x := (0 : Int32)) rfl rfl (to_isn (pc := 1) rw_51_1 (ls2 := [.ref p, .int f, .int (0 : Int32), .null]) rfl rfl (to_c (pc := 2) rw_51_2 (x := (0 : Int32)) rfl rfl (to_isn (pc := 3) rw_51_3 (ls2 := [.ref p, .int f, .int (0 : Int32), .int (0 : Int32)]) rfl rfl ?_)))
  have k_38 : (0 : Int32).toInt = 0 := rfl
  exact (U_51_0 (p := p) (f := f) (sg := sg) hX hd hp q1 h ((12 - (0 : Int32).toInt).toNat + 1)) M (0 : Int32) (0 : Int32) hG F0 (by omega) (by omega) (by omega) q1 (by rw [show (sg.2.2.1 - (0 : Int32).toInt).toNat = sg.2.2.1.toNat by rw [show (0 : Int32).toInt = 0 from rfl]; congr 1; omega]; rfl) (by omega)
set_option maxRecDepth 4000 in
set_option maxHeartbeats 0 in
theorem U_201_0 {X : mm_X} {d : Nat} {M : mm_M} {Q : Option Value → mm_M → Prop} {f : Int32} {sg : x_S} (hX : g_X X) (hd : 0 ≤ d) (q1 : PLk M sg) (h : ∀ (r : Int32) (M1 : mm_M), g_G M1 → FR md_0 M M1 → (r = x_wof sg f.toInt) → Q (some (.int r)) M1) : ∀ nn9 : Nat, (∀ (N : mm_M) (x2 : Int32) (x3 : Int32), g_G N → FR md_0 M N → (0 ≤ x3.toInt) → (x3.toInt ≤ 12) → (x3.toInt ≤ sg.2.2.1) → (PLk N sg) → (x_wo sg f.toInt (sg.2.2.1 - x3.toInt).toNat (x3.toInt).toNat x2 = x_wof sg f.toInt) → 12 - x3.toInt < (nn9 : Int) → mm_T X d 200 4 [.ref 77, .int f, .int x2, .int x3] [] N Q) := by
  intro nn9
  induction nn9 with
  | zero =>
    intro N x2 x3 hG F0 g1 g2 g3 g4 g5 hm
    exfalso; omega
  | succ nn9 ih =>
    intro N x2 x3 hG F0 g1 g2 g3 g4 g5 hm
    have z_1 := g4.2.1
    have z_2 := g4.2.2.1
    have z_3 := g4.2.2.2.1
    have z_4 := g4.1
    have z_5 := z_4.1
    have z_6 := z_4.2.1
    have z_7 := z_4.2.2.1
    have z_8 := z_4.2.2.2.1
    have z_9 := z_4.2.2.2.2.1
    have z_10 := z_4.2.2.2.2.2.1
    have b_11 := g_b hG (a := 77) (i := 11) (lo := 10) (hi := 60) rfl rfl
    have b_12 := g_b hG (a := 77) (i := 12) (lo := 0) (hi := 8) rfl rfl
    have b_13 := g_b hG (a := 77) (i := 13) (lo := 0) (hi := 12) rfl rfl
    refine to_in (pc := 4) rw_201_4 rfl (to_an (pc := 5) rw_201_5 rfl (tt_gI (pc := 6) rw_201_6 (g_o hG rfl) (v := (N.2.1 77 13)) rfl (b_cge (pc := 9) rw_201_9 (A := x3.toInt) (B := (N.2.1 77 13).toInt) rfl rfl (fun h14 => ?_) (fun h14 => ?_))))
    · refine to_in (pc := 38) rw_201_38 rfl (to_r0 (pc := 39) rw_201_39 ?_)
      exact h x2 N hG F0 (x_wo_x (k := x3.toInt) (by omega) g5)
    · refine to_in (pc := 12) rw_201_12 rfl (to_an (pc := 13) rw_201_13 rfl (s_gR (pc := 14) rw_201_14 hG rfl (v := 86) rfl (to_in (pc := 17) rw_201_17 rfl (s_ial (pc := 18) rw_201_18 hG rfl (n := 24) rfl rfl (A := x3.toInt) rfl (by omega) (by omega) (lo := 0) (hi := 7) rfl rfl (fun v15 w_16 _ _ => ?_)))))
      have z_17 := PLk_w g4 7 86 rfl (by decide) (by decide) (k := x3.toInt) (by omega) (by omega) w_16
      refine to_in (pc := 19) rw_201_19 rfl (b_cne (pc := 20) rw_201_20 (A := v15.toInt) (B := f.toInt) rfl rfl (fun h18 => ?_) (fun h18 => ?_))
      · refine to_c (pc := 29) rw_201_29 (x := (0 : Int32)) rfl rfl (s_opE (pc := 30) rw_201_30 (w := x2 ||| (0 : Int32)) rfl (fun v19 e20 => to_isn (pc := 31) rw_201_31 (ls2 := [.ref 77, .int f, .int v19, .int x3]) rfl rfl (s_inc (pc := 32) rw_201_32 (ls2 := fun v => [.ref 77, .int f, .int v19, .int v]) rfl rfl (fun _ => rfl) (A := x3.toInt) (B := 1) rfl rfl (by omega) (fun v21 e22 => to_go (pc := 35) rw_201_35 ?_))))
        exact ih N v19 v21 hG F0 (by omega) (by omega) (by omega) g4 (x_wo_s (k := x3.toInt) (by omega) (by omega) (by omega) g5 (x_wo_z z_17 (by omega) e20)) (by omega)
      · refine to_c (pc := 23) rw_201_23 (x := (1 : Int32)) rfl rfl (to_in (pc := 24) rw_201_24 rfl (s_opE (pc := 25) rw_201_25 (w := (1 : Int32) <<< x3) rfl (fun v23 e24 => to_go (pc := 26) rw_201_26 (s_opE (pc := 30) rw_201_30 (w := x2 ||| v23) rfl (fun v25 e26 => to_isn (pc := 31) rw_201_31 (ls2 := [.ref 77, .int f, .int v25, .int x3]) rfl rfl (s_inc (pc := 32) rw_201_32 (ls2 := fun v => [.ref 77, .int f, .int v25, .int v]) rfl rfl (fun _ => rfl) (A := x3.toInt) (B := 1) rfl rfl (by omega) (fun v27 e28 => to_go (pc := 35) rw_201_35 ?_)))))))
        exact ih N v25 v27 hG F0 (by omega) (by omega) (by omega) g4 (x_wo_s (k := x3.toInt) (by omega) (by omega) (by omega) g5 (x_wo_y (by omega) z_17 (by omega) (w := x3) (by omega) e24 e26)) (by omega)
set_option maxRecDepth 4000 in
set_option maxHeartbeats 0 in
theorem E_201 {X : mm_X} {d : Nat} {M : mm_M} {Q : Option Value → mm_M → Prop} {f : Int32} {sg : x_S} (hX : g_X X) (hd : 0 ≤ d) (hG : g_G M) (q1 : PLk M sg) (h : ∀ (r : Int32) (M1 : mm_M), g_G M1 → FR md_0 M M1 → (r = x_wof sg f.toInt) → Q (some (.int r)) M1) : mm_T X d 200 0 [.ref 77, .int f, .null, .null] [] M Q := by
  have F0 : FR md_0 M M := FR.rf
  have z_29 := q1.2.1
  have z_30 := q1.2.2.1
  have z_31 := q1.2.2.2.1
  have z_32 := q1.1
  have z_33 := z_32.1
  have z_34 := z_32.2.1
  have z_35 := z_32.2.2.1
  have z_36 := z_32.2.2.2.1
  have z_37 := z_32.2.2.2.2.1
  have z_38 := z_32.2.2.2.2.2.1
  have b_39 := g_b hG (a := 77) (i := 11) (lo := 10) (hi := 60) rfl rfl
  have b_40 := g_b hG (a := 77) (i := 12) (lo := 0) (hi := 8) rfl rfl
  have b_41 := g_b hG (a := 77) (i := 13) (lo := 0) (hi := 12) rfl rfl
  refine to_c (pc := 0) rw_201_0 (x := (0 : Int32)) rfl rfl (to_isn (pc := 1) rw_201_1 (ls2 := [.ref 77, .int f, .int (0 : Int32), .null]) rfl rfl (to_c (pc := 2) rw_201_2 (x := (0 : Int32)) rfl rfl (to_isn (pc := 3) rw_201_3 (ls2 := [.ref 77, .int f, .int (0 : Int32), .int (0 : Int32)]) rfl rfl ?_)))
  have k_42 : (0 : Int32).toInt = 0 := rfl
  exact (U_201_0 (f := f) (sg := sg) hX hd q1 h ((12 - (0 : Int32).toInt).toNat + 1)) M (0 : Int32) (0 : Int32) hG F0 (by omega) (by omega) (by omega) q1 (by rw [show (sg.2.2.1 - (0 : Int32).toInt).toNat = sg.2.2.1.toNat by rw [show (0 : Int32).toInt = 0 from rfl]; congr 1; omega]; rfl) (by omega)
set_option maxRecDepth 4000 in
set_option maxHeartbeats 0 in
theorem E_125 {X : mm_X} {d : Nat} {M : mm_M} {Q : Option Value → mm_M → Prop} {n : Int32} {c : Int32} {f : Int32} {p : Nat} {pz : Nat} {q : Nat} {qz : Nat} {sg : x_S} {NN : x_N} {nz : Int} {ca : Int} (hX : g_X X) (hd : 6 ≤ d) (hG : g_G M) (hp : p = 49 ∨ p = 58) (hpz : pz = 49 ∨ pz = 58) (hq : q = 67 ∨ q = 72) (hqz : qz = 67 ∨ qz = 72) (q1 : g_PQ M p pz q qz) (q2 : PLs M p sg) (q3 : CW M p sg) (q4 : g_W2 X) (q5 : NTc M NN nz) (q6 : x_vn sg ca NN nz) (q7 : (M.2.1 6 0).toInt = nz) (q8 : (M.2.1 0 12).toInt = ca) (q9 : ca ≤ 30) (h : ∀ (r : Int32) (M1 : mm_M), g_G M1 → FR md_k M M1 → (r = x_truly sg NN nz ca n.toInt c.toInt f.toInt) → Q (some (.int r)) M1) : mm_T X d 125 0 [.ref 0, .int n, .int c, .int f] [] M Q := by
  have F0 : FR md_k M M := FR.rf
  have b_1 := g_b hG (a := 6) (i := 0) (lo := 0) (hi := 150) rfl rfl
  have b_2 := g_b hG (a := 0) (i := 12) (lo := 0) (hi := 30) rfl rfl
  have z_3 := q2.2.1
  have z_4 := q2.2.2.1
  have z_5 := q2.2.2.2.1
  have z_6 := q2.1
  have z_7 := z_6.1
  have z_8 := z_6.2.1
  have z_9 := z_6.2.2.1
  have z_10 := z_6.2.2.2.1
  have z_11 := z_6.2.2.2.2.1
  have z_12 := z_6.2.2.2.2.2.1
  have b_13 := g_b hG (a := p) (i := 2) (lo := 0) (hi := 8) (by rcases hp with rfl | rfl <;> rfl) (by rcases hp with rfl | rfl <;> rfl)
  have b_14 := g_b hG (a := p) (i := 3) (lo := 0) (hi := 12) (by rcases hp with rfl | rfl <;> rfl) (by rcases hp with rfl | rfl <;> rfl)
  refine to_an (pc := 0) rw_125_0 rfl (to_in (pc := 1) rw_125_1 rfl (s_v (pc := 2) rw_125_2 (dp0 hd (by decide)) (ls0 := [.ref 0, .int n]) rfl (Nat.le_of_ble_eq_true rfl) (Nat.le_of_ble_eq_true rfl) rfl (to_rc rfl rfl rfl (g_o hG rfl)) rfl (to_in (pc := 0) rw_139_0 rfl (b_ilt (pc := 1) rw_139_1 (A := n.toInt) rfl (fun h15 => ?_) (fun h15 => ?_)))))
  · refine to_c (pc := 19) rw_139_19 (x := (0 : Int32)) rfl rfl (s_r1 (pc := 20) rw_139_20 (A := 0) rfl (by decide) (b_ieq_t (pc := 5) rw_125_5 (A := 0) rfl (by decide) (to_c (pc := 27) rw_125_27 (x := (-2 : Int32)) rfl rfl (to_r0 (pc := 29) rw_125_29 ?_))))
    have k_16 : (-2 : Int32).toInt = -2 := rfl
    exact h (-2 : Int32) M hG F0 (x_truly_n (by omega))
  · refine to_in (pc := 4) rw_139_4 rfl (to_an (pc := 5) rw_139_5 rfl (s_gR (pc := 6) rw_139_6 hG rfl (v := 6) rfl (tt_gI (pc := 9) rw_139_9 (g_o hG rfl) (v := (M.2.1 6 0)) rfl (b_cgt (pc := 12) rw_139_12 (A := n.toInt) (B := (M.2.1 6 0).toInt) rfl rfl (fun h17 => ?_) (fun h17 => ?_)))))
    · refine to_c (pc := 19) rw_139_19 (x := (0 : Int32)) rfl rfl (s_r1 (pc := 20) rw_139_20 (A := 0) rfl (by decide) (b_ieq_t (pc := 5) rw_125_5 (A := 0) rfl (by decide) (to_c (pc := 27) rw_125_27 (x := (-2 : Int32)) rfl rfl (to_r0 (pc := 29) rw_125_29 ?_))))
      have k_18 : (-2 : Int32).toInt = -2 := rfl
      exact h (-2 : Int32) M hG F0 (x_truly_n (by omega))
    · refine to_c (pc := 15) rw_139_15 (x := (1 : Int32)) rfl rfl (to_go (pc := 16) rw_139_16 (s_r1 (pc := 20) rw_139_20 (A := 1) rfl (by decide) (b_ieq_f (pc := 5) rw_125_5 (A := 1) rfl (by decide) (to_an (pc := 8) rw_125_8 rfl (to_in (pc := 9) rw_125_9 rfl (s_v (pc := 10) rw_125_10 (dp0 hd (by decide)) (ls0 := [.ref 0, .int c]) rfl (Nat.le_of_ble_eq_true rfl) (Nat.le_of_ble_eq_true rfl) rfl (to_rc rfl rfl rfl (g_o hG rfl)) rfl (to_in (pc := 0) rw_140_0 rfl (b_ilt (pc := 1) rw_140_1 (A := c.toInt) rfl (fun h19 => ?_) (fun h19 => ?_)))))))))
      · refine to_c (pc := 16) rw_140_16 (x := (0 : Int32)) rfl rfl (s_r1 (pc := 17) rw_140_17 (A := 0) rfl (by decide) (b_ieq_t (pc := 13) rw_125_13 (A := 0) rfl (by decide) (to_c (pc := 27) rw_125_27 (x := (-2 : Int32)) rfl rfl (to_r0 (pc := 29) rw_125_29 ?_))))
        have k_20 : (-2 : Int32).toInt = -2 := rfl
        exact h (-2 : Int32) M hG F0 (x_truly_n (by omega))
      · refine to_in (pc := 4) rw_140_4 rfl (to_an (pc := 5) rw_140_5 rfl (tt_gI (pc := 6) rw_140_6 (g_o hG rfl) (v := (M.2.1 0 12)) rfl (b_cge (pc := 9) rw_140_9 (A := c.toInt) (B := (M.2.1 0 12).toInt) rfl rfl (fun h21 => ?_) (fun h21 => ?_))))
        · refine to_c (pc := 16) rw_140_16 (x := (0 : Int32)) rfl rfl (s_r1 (pc := 17) rw_140_17 (A := 0) rfl (by decide) (b_ieq_t (pc := 13) rw_125_13 (A := 0) rfl (by decide) (to_c (pc := 27) rw_125_27 (x := (-2 : Int32)) rfl rfl (to_r0 (pc := 29) rw_125_29 ?_))))
          have k_22 : (-2 : Int32).toInt = -2 := rfl
          exact h (-2 : Int32) M hG F0 (x_truly_n (by omega))
        · refine to_c (pc := 12) rw_140_12 (x := (1 : Int32)) rfl rfl (to_go (pc := 13) rw_140_13 (s_r1 (pc := 17) rw_140_17 (A := 1) rfl (by decide) (b_ieq_f (pc := 13) rw_125_13 (A := 1) rfl (by decide) (to_an (pc := 16) rw_125_16 rfl (tt_gR (pc := 17) rw_125_17 (g_o hG rfl) q1.1 (to_in (pc := 20) rw_125_20 rfl (s_v (pc := 21) rw_125_21 (dp0 hd (by decide)) (ls0 := [.ref p, .int f]) rfl (Nat.le_of_ble_eq_true rfl) (Nat.le_of_ble_eq_true rfl) rfl (to_rc rfl rfl rfl (g_o hG (by rcases hp with rfl | rfl <;> rfl))) rfl (to_in (pc := 0) rw_43_0 rfl (b_ilt (pc := 1) rw_43_1 (A := f.toInt) rfl (fun h23 => ?_) (fun h23 => ?_))))))))))
          · refine to_c (pc := 16) rw_43_16 (x := (0 : Int32)) rfl rfl (s_r1 (pc := 17) rw_43_17 (A := 0) rfl (by decide) (b_ine_f (pc := 24) rw_125_24 (A := 0) rfl (by decide) (to_c (pc := 27) rw_125_27 (x := (-2 : Int32)) rfl rfl (to_r0 (pc := 29) rw_125_29 ?_))))
            have k_24 : (-2 : Int32).toInt = -2 := rfl
            exact h (-2 : Int32) M hG F0 (x_truly_n (by omega))
          · refine to_in (pc := 4) rw_43_4 rfl (to_an (pc := 5) rw_43_5 rfl (tt_gI (pc := 6) rw_43_6 (g_o hG (by rcases hp with rfl | rfl <;> rfl)) (v := (M.2.1 p 2)) rfl (b_cge (pc := 9) rw_43_9 (A := f.toInt) (B := (M.2.1 p 2).toInt) rfl rfl (fun h25 => ?_) (fun h25 => ?_))))
            · refine to_c (pc := 16) rw_43_16 (x := (0 : Int32)) rfl rfl (s_r1 (pc := 17) rw_43_17 (A := 0) rfl (by decide) (b_ine_f (pc := 24) rw_125_24 (A := 0) rfl (by decide) (to_c (pc := 27) rw_125_27 (x := (-2 : Int32)) rfl rfl (to_r0 (pc := 29) rw_125_29 ?_))))
              have k_26 : (-2 : Int32).toInt = -2 := rfl
              exact h (-2 : Int32) M hG F0 (x_truly_n (by omega))
            · refine to_c (pc := 12) rw_43_12 (x := (1 : Int32)) rfl rfl (to_go (pc := 13) rw_43_13 (s_r1 (pc := 17) rw_43_17 (A := 1) rfl (by decide) (b_ine_t (pc := 24) rw_125_24 (A := 1) rfl (by decide) (to_an (pc := 30) rw_125_30 rfl (to_in (pc := 31) rw_125_31 rfl (s_v (pc := 32) rw_125_32 (dp0 hd (by decide)) (ls0 := [.ref 0, .int n]) rfl (Nat.le_of_ble_eq_true rfl) (Nat.le_of_ble_eq_true rfl) rfl (to_rc rfl rfl rfl (g_o hG rfl)) rfl (to_an (pc := 0) rw_141_0 rfl (s_gR (pc := 1) rw_141_1 hG rfl (v := 11) rfl (to_an (pc := 4) rw_141_4 rfl (tt_gR (pc := 5) rw_141_5 (g_o hG rfl) q1.1 (to_an (pc := 8) rw_141_8 rfl ?_)))))))))))
              refine s_gR (pc := 9) rw_141_9 hG rfl (v := 6) rfl (to_in (pc := 12) rw_141_12 rfl (s_v (pc := 13) rw_141_13 (dp1 hd (by decide)) (ls0 := [.ref 11, .ref p, .ref 6, .int n, .null]) rfl (Nat.le_of_ble_eq_true rfl) (Nat.le_of_ble_eq_true rfl) rfl (to_rc rfl rfl rfl (g_o hG rfl)) rfl (E_8 hX (dp2 hd (by decide)) hG hp (by omega) (by omega) (by omega) q3 q2 q4 q5 q6 (by omega) (p := p) (n := n) (sg := sg) (NN := NN) (nz := nz) (ca := ca) (fun M30 hG28 F27 p_29 => ?_))))
              have F31 := FR.c F0 F27 tg_133
              refine to_rv (pc := 16) rw_141_16 (to_an (pc := 35) rw_125_35 rfl ?_)
              have j_32 := (PQ_f F27 q1)
              refine tt_gR (pc := 36) rw_125_36 (g_o hG28 rfl) j_32.1 (to_in (pc := 39) rw_125_39 rfl (s_v (pc := 40) rw_125_40 (dp0 hd (by decide)) (ls0 := [.ref p, .int f]) rfl (Nat.le_of_ble_eq_true rfl) (Nat.le_of_ble_eq_true rfl) rfl (to_rc rfl rfl rfl (g_o hG28 (by rcases hp with rfl | rfl <;> rfl))) rfl (to_an (pc := 0) rw_45_0 rfl (s_gR (pc := 1) rw_45_1 hG28 (by rcases hp with rfl | rfl <;> rfl) (v := (p + 2)) (by rcases hp with rfl | rfl <;> rfl) (to_in (pc := 4) rw_45_4 rfl (s_ial (pc := 5) rw_45_5 hG28 (by rcases hp with rfl | rfl <;> rfl) (n := 8) (by rcases hp with rfl | rfl <;> rfl) (by rcases hp with rfl | rfl <;> rfl) (A := f.toInt) rfl (by omega) (by omega) (lo := 0) (hi := 3) (by rcases hp with rfl | rfl <;> rfl) (by rcases hp with rfl | rfl <;> rfl) (fun v33 w_34 _ _ => ?_)))))))
              have j_35 := (PLs_f (fun a i z => F_n F27 (show ¬ (11 ≤ a ∧ a ≤ 16) by omega) rfl) q2)
              have z_36 := PLs_r j_35 2 (by decide) (by decide) (k := f.toInt) (by omega) (by omega) w_34
              refine to_c (pc := 6) rw_45_6 (x := (3 : Int32)) rfl rfl (b_cne (pc := 7) rw_45_7 (A := v33.toInt) (B := 3) rfl rfl (fun h37 => ?_) (fun h37 => ?_))
              · refine to_c (pc := 14) rw_45_14 (x := (0 : Int32)) rfl rfl (s_r1 (pc := 15) rw_45_15 (A := 0) rfl (by decide) (b_ieq_t (pc := 43) rw_125_43 (A := 0) rfl (by decide) (to_an (pc := 65) rw_125_65 rfl (s_gR (pc := 66) rw_125_66 hG28 rfl (v := 11) rfl (to_in (pc := 69) rw_125_69 rfl (to_in (pc := 70) rw_125_70 rfl (s_v (pc := 71) rw_125_71 (dp0 hd (by decide)) (ls0 := [.ref 11, .int c, .int f]) rfl (Nat.le_of_ble_eq_true rfl) (Nat.le_of_ble_eq_true rfl) rfl (to_rc rfl rfl rfl (g_o hG28 rfl)) rfl (to_an (pc := 0) rw_12_0 rfl (s_gR (pc := 1) rw_12_1 hG28 rfl (v := 14) rfl (to_in (pc := 4) rw_12_4 rfl (to_c (pc := 5) rw_12_5 (x := (8 : Int32)) rfl rfl ?_)))))))))))
                refine s_mul (pc := 7) rw_12_7 (A := c.toInt) (B := 8) rfl rfl (by omega) (fun v38 e39 => to_in (pc := 8) rw_12_8 rfl (s_add (pc := 9) rw_12_9 (A := v38.toInt) (B := f.toInt) rfl rfl (by omega) (fun v40 e41 => s_ial (pc := 10) rw_12_10 hG28 rfl (n := 240) rfl rfl (A := v40.toInt) rfl (by omega) (by omega) (lo := -2147483648) (hi := 2147483647) rfl rfl (fun v42 w_43 _ _ => ?_))))
                have z_44 : v42 = (x_kn sg NN (n.toInt).toNat).2.2.1 (8 * (c.toInt).toNat + (f.toInt).toNat) := KST_lv (K := (x_kn sg NN (n.toInt).toNat)) p_29 (c := c.toInt) (f := f.toInt) (by omega) (by omega) (by omega) (by omega) (by omega) w_43
                refine to_r0 (pc := 11) rw_12_11 (to_r0 (pc := 74) rw_125_74 ?_)
                exact h v42 M30 hG28 F31 (x_truly_v (by omega) (by omega) z_44)
              · refine to_c (pc := 10) rw_45_10 (x := (1 : Int32)) rfl rfl (to_go (pc := 11) rw_45_11 (s_r1 (pc := 15) rw_45_15 (A := 1) rfl (by decide) (b_ieq_f (pc := 43) rw_125_43 (A := 1) rfl (by decide) (to_an (pc := 46) rw_125_46 rfl (s_gR (pc := 47) rw_125_47 hG28 rfl (v := 11) rfl (s_gR (pc := 50) rw_125_50 hG28 rfl (v := 13) rfl (to_in (pc := 53) rw_125_53 rfl (s_ial (pc := 54) rw_125_54 hG28 rfl (n := 30) rfl rfl (A := c.toInt) rfl (by omega) (by omega) (lo := -2147483648) (hi := 2147483647) rfl rfl (fun v45 w_46 _ _ => ?_)))))))))
                have z_47 : v45 = (x_kn sg NN (n.toInt).toNat).2.1 (c.toInt).toNat := KST_lw (K := (x_kn sg NN (n.toInt).toNat)) p_29 (by omega) (by omega) w_46
                refine to_an (pc := 55) rw_125_55 rfl (tt_gR (pc := 56) rw_125_56 (g_o hG28 rfl) j_32.1 (to_in (pc := 59) rw_125_59 rfl (s_v (pc := 60) rw_125_60 (dp0 hd (by decide)) (ls0 := [.ref p, .int f, .null, .null]) rfl (Nat.le_of_ble_eq_true rfl) (Nat.le_of_ble_eq_true rfl) rfl (to_rc rfl rfl rfl (g_o hG28 (by rcases hp with rfl | rfl <;> rfl))) rfl (E_51 hX (dp1 hd (by decide)) hG28 hp j_35 (p := p) (f := f) (sg := sg) (fun r48 M52 hG50 F49 p_51 => ?_)))))
                have F53 := FR.c F31 F49 tg_137
                refine s_opE (pc := 63) rw_125_63 (w := v45 &&& r48) rfl (fun v54 e55 => to_r0 (pc := 64) rw_125_64 ?_)
                exact h v54 M52 hG50 F53 (x_truly_w (by omega) (by omega) (by rw [← e55, z_47, p_51]))
set_option maxRecDepth 4000 in
set_option maxHeartbeats 0 in
theorem E_202 {X : mm_X} {d : Nat} {M : mm_M} {Q : Option Value → mm_M → Prop} {n : Int32} {c : Int32} {f : Int32} {sg : x_S} {NN : x_N} {nz : Int} {ca : Int} (hX : g_X X) (hd : 3 ≤ d) (hG : g_G M) (q1 : x_vn sg ca NN nz) (q2 : ca ≤ 30) (q3 : (M.2.1 77 29).toInt = nz) (q4 : (M.2.1 77 28).toInt = ca) (q5 : CWk M sg) (q6 : FA M) (q7 : PLk M sg) (q8 : W8 M) (q9 : NTr M NN nz) (h : ∀ (r : Int32) (M1 : mm_M), g_G M1 → FR md_k2 M M1 → (r = x_truly sg NN nz ca n.toInt c.toInt f.toInt) → Q (some (.int r)) M1) : mm_T X d 201 0 [.ref 77, .int n, .int c, .int f] [] M Q := by
  have F0 : FR md_k2 M M := FR.rf
  have b_1 := g_b hG (a := 77) (i := 29) (lo := 0) (hi := 150) rfl rfl
  have b_2 := g_b hG (a := 77) (i := 28) (lo := 0) (hi := 30) rfl rfl
  have z_3 := q7.2.1
  have z_4 := q7.2.2.1
  have z_5 := q7.2.2.2.1
  have z_6 := q7.1
  have z_7 := z_6.1
  have z_8 := z_6.2.1
  have z_9 := z_6.2.2.1
  have z_10 := z_6.2.2.2.1
  have z_11 := z_6.2.2.2.2.1
  have z_12 := z_6.2.2.2.2.2.1
  have b_13 := g_b hG (a := 77) (i := 11) (lo := 10) (hi := 60) rfl rfl
  have b_14 := g_b hG (a := 77) (i := 12) (lo := 0) (hi := 8) rfl rfl
  have b_15 := g_b hG (a := 77) (i := 13) (lo := 0) (hi := 12) rfl rfl
  refine to_an (pc := 0) rw_202_0 rfl (to_c (pc := 1) rw_202_1 (x := (0 : Int32)) rfl rfl (s_pI (pc := 2) rw_202_2 hG rfl (fun M17 W16 => ?_)))
  have hG18 := g_wf hG W16 rfl rfl (by decide)
  have F19 := FR.w F0 W16 (show 77 = 77 ∧ 2 = 2 ∨ 94 ≤ 77 ∧ 77 ≤ 98 by decide)
  refine to_an (pc := 5) rw_202_5 rfl (to_in (pc := 6) rw_202_6 rfl (s_v (pc := 7) rw_202_7 (dp0 hd (by decide)) (ls0 := [.ref 77, .int n]) rfl (Nat.le_of_ble_eq_true rfl) (Nat.le_of_ble_eq_true rfl) rfl (to_rc rfl rfl rfl (g_o hG18 rfl)) rfl (to_in (pc := 0) rw_186_0 rfl (b_ilt (pc := 1) rw_186_1 (A := n.toInt) rfl (fun h20 => ?_) (fun h20 => ?_)))))
  · refine to_c (pc := 16) rw_186_16 (x := (0 : Int32)) rfl rfl (s_r1 (pc := 17) rw_186_17 (A := 0) rfl (by decide) (b_ieq_t (pc := 10) rw_202_10 (A := 0) rfl (by decide) (to_c (pc := 29) rw_202_29 (x := (-2 : Int32)) rfl rfl (to_r0 (pc := 31) rw_202_31 ?_))))
    have k_21 : (-2 : Int32).toInt = -2 := rfl
    exact h (-2 : Int32) M17 hG18 F19 (x_truly_n (by omega))
  · refine to_in (pc := 4) rw_186_4 rfl (to_an (pc := 5) rw_186_5 rfl ?_)
    have c_22 : M17.2.1 77 29 = (M.2.1 77 29) := (W_n W16 (by decide) rfl)
    refine tt_gI (pc := 6) rw_186_6 (g_o hG18 rfl) (v := (M.2.1 77 29)) c_22 (b_cgt (pc := 9) rw_186_9 (A := n.toInt) (B := (M.2.1 77 29).toInt) rfl rfl (fun h23 => ?_) (fun h23 => ?_))
    · refine to_c (pc := 16) rw_186_16 (x := (0 : Int32)) rfl rfl (s_r1 (pc := 17) rw_186_17 (A := 0) rfl (by decide) (b_ieq_t (pc := 10) rw_202_10 (A := 0) rfl (by decide) (to_c (pc := 29) rw_202_29 (x := (-2 : Int32)) rfl rfl (to_r0 (pc := 31) rw_202_31 ?_))))
      have k_24 : (-2 : Int32).toInt = -2 := rfl
      exact h (-2 : Int32) M17 hG18 F19 (x_truly_n (by omega))
    · refine to_c (pc := 12) rw_186_12 (x := (1 : Int32)) rfl rfl (to_go (pc := 13) rw_186_13 (s_r1 (pc := 17) rw_186_17 (A := 1) rfl (by decide) (b_ieq_f (pc := 10) rw_202_10 (A := 1) rfl (by decide) (to_an (pc := 13) rw_202_13 rfl (to_in (pc := 14) rw_202_14 rfl (s_v (pc := 15) rw_202_15 (dp0 hd (by decide)) (ls0 := [.ref 77, .int c]) rfl (Nat.le_of_ble_eq_true rfl) (Nat.le_of_ble_eq_true rfl) rfl (to_rc rfl rfl rfl (g_o hG18 rfl)) rfl (to_in (pc := 0) rw_187_0 rfl (b_ilt (pc := 1) rw_187_1 (A := c.toInt) rfl (fun h25 => ?_) (fun h25 => ?_)))))))))
      · refine to_c (pc := 16) rw_187_16 (x := (0 : Int32)) rfl rfl (s_r1 (pc := 17) rw_187_17 (A := 0) rfl (by decide) (b_ieq_t (pc := 18) rw_202_18 (A := 0) rfl (by decide) (to_c (pc := 29) rw_202_29 (x := (-2 : Int32)) rfl rfl (to_r0 (pc := 31) rw_202_31 ?_))))
        have k_26 : (-2 : Int32).toInt = -2 := rfl
        exact h (-2 : Int32) M17 hG18 F19 (x_truly_n (by omega))
      · refine to_in (pc := 4) rw_187_4 rfl (to_an (pc := 5) rw_187_5 rfl ?_)
        have c_27 : M17.2.1 77 28 = (M.2.1 77 28) := (W_n W16 (by decide) rfl)
        refine tt_gI (pc := 6) rw_187_6 (g_o hG18 rfl) (v := (M.2.1 77 28)) c_27 (b_cge (pc := 9) rw_187_9 (A := c.toInt) (B := (M.2.1 77 28).toInt) rfl rfl (fun h28 => ?_) (fun h28 => ?_))
        · refine to_c (pc := 16) rw_187_16 (x := (0 : Int32)) rfl rfl (s_r1 (pc := 17) rw_187_17 (A := 0) rfl (by decide) (b_ieq_t (pc := 18) rw_202_18 (A := 0) rfl (by decide) (to_c (pc := 29) rw_202_29 (x := (-2 : Int32)) rfl rfl (to_r0 (pc := 31) rw_202_31 ?_))))
          have k_29 : (-2 : Int32).toInt = -2 := rfl
          exact h (-2 : Int32) M17 hG18 F19 (x_truly_n (by omega))
        · refine to_c (pc := 12) rw_187_12 (x := (1 : Int32)) rfl rfl (to_go (pc := 13) rw_187_13 (s_r1 (pc := 17) rw_187_17 (A := 1) rfl (by decide) (b_ieq_f (pc := 18) rw_202_18 (A := 1) rfl (by decide) (to_an (pc := 21) rw_202_21 rfl (to_in (pc := 22) rw_202_22 rfl (s_v (pc := 23) rw_202_23 (dp0 hd (by decide)) (ls0 := [.ref 77, .int f]) rfl (Nat.le_of_ble_eq_true rfl) (Nat.le_of_ble_eq_true rfl) rfl (to_rc rfl rfl rfl (g_o hG18 rfl)) rfl (to_in (pc := 0) rw_178_0 rfl (b_ilt (pc := 1) rw_178_1 (A := f.toInt) rfl (fun h30 => ?_) (fun h30 => ?_)))))))))
          · refine to_c (pc := 16) rw_178_16 (x := (0 : Int32)) rfl rfl (s_r1 (pc := 17) rw_178_17 (A := 0) rfl (by decide) (b_ine_f (pc := 26) rw_202_26 (A := 0) rfl (by decide) (to_c (pc := 29) rw_202_29 (x := (-2 : Int32)) rfl rfl (to_r0 (pc := 31) rw_202_31 ?_))))
            have k_31 : (-2 : Int32).toInt = -2 := rfl
            exact h (-2 : Int32) M17 hG18 F19 (x_truly_n (by omega))
          · refine to_in (pc := 4) rw_178_4 rfl (to_an (pc := 5) rw_178_5 rfl ?_)
            have c_32 : M17.2.1 77 12 = (M.2.1 77 12) := (W_n W16 (by decide) rfl)
            refine tt_gI (pc := 6) rw_178_6 (g_o hG18 rfl) (v := (M.2.1 77 12)) c_32 (b_cge (pc := 9) rw_178_9 (A := f.toInt) (B := (M.2.1 77 12).toInt) rfl rfl (fun h33 => ?_) (fun h33 => ?_))
            · refine to_c (pc := 16) rw_178_16 (x := (0 : Int32)) rfl rfl (s_r1 (pc := 17) rw_178_17 (A := 0) rfl (by decide) (b_ine_f (pc := 26) rw_202_26 (A := 0) rfl (by decide) (to_c (pc := 29) rw_202_29 (x := (-2 : Int32)) rfl rfl (to_r0 (pc := 31) rw_202_31 ?_))))
              have k_34 : (-2 : Int32).toInt = -2 := rfl
              exact h (-2 : Int32) M17 hG18 F19 (x_truly_n (by omega))
            · refine to_c (pc := 12) rw_178_12 (x := (1 : Int32)) rfl rfl (to_go (pc := 13) rw_178_13 (s_r1 (pc := 17) rw_178_17 (A := 1) rfl (by decide) (b_ine_t (pc := 26) rw_202_26 (A := 1) rfl (by decide) (to_an (pc := 32) rw_202_32 rfl (to_in (pc := 33) rw_202_33 rfl (s_v (pc := 34) rw_202_34 (dp0 hd (by decide)) (ls0 := [.ref 77, .int n, .null, .null]) rfl (Nat.le_of_ble_eq_true rfl) (Nat.le_of_ble_eq_true rfl) rfl (to_rc rfl rfl rfl (g_o hG18 rfl)) rfl ?_))))))
              have t_35 : (M17.2.1 77 28).toInt = (M.2.1 77 28).toInt := congrArg Int32.toInt c_27
              have j_36 := (CWk_f (fun k hk9 => W_j W16 rfl) q5)
              have j_37 := (FA_f (fun a i z => W_n W16 (tg_94 a i z) rfl) q6)
              have j_38 := (PLk_f (fun a i z => W_n W16 (tg_91 a i z) rfl) q7)
              have j_39 := (W8_f (fun a i z => W_n W16 (tg_95 a i z) rfl) q8)
              have j_40 := (NTr_f (fun a i z => W_n W16 (tg_135 a i z) rfl) q9)
              refine E_189 hX (dp1 hd (by decide)) hG18 (by omega) (by omega) (by omega) q1 (by omega) (by omega) j_36 j_37 j_38 j_39 j_40 (n := n) (sg := sg) (NN := NN) (nz := nz) (ca := ca) (fun M44 hG42 F41 p_43 => ?_)
              have F45 := FR.c F19 F41 tg_134
              refine to_an (pc := 37) rw_202_37 rfl (s_gR (pc := 38) rw_202_38 hG42 rfl (v := 81) rfl (to_in (pc := 41) rw_202_41 rfl (s_ial (pc := 42) rw_202_42 hG42 rfl (n := 16) rfl rfl (A := f.toInt) rfl (by omega) (by omega) (lo := 0) (hi := 3) rfl rfl (fun v46 w_47 _ _ => ?_))))
              have j_48 := (PLk_f (tg_136 F41) j_38)
              have z_49 := PLk_r j_48 2 81 rfl (by decide) (by decide) (k := f.toInt) (by omega) (by omega) w_47
              refine to_c (pc := 43) rw_202_43 (x := (3 : Int32)) rfl rfl (b_cne (pc := 44) rw_202_44 (A := v46.toInt) (B := 3) rfl rfl (fun h50 => ?_) (fun h50 => ?_))
              · refine to_an (pc := 62) rw_202_62 rfl (s_gR (pc := 63) rw_202_63 hG42 rfl (v := 97) rfl (to_c (pc := 66) rw_202_66 (x := (8 : Int32)) rfl rfl (to_in (pc := 68) rw_202_68 rfl (s_mul (pc := 69) rw_202_69 (A := 8) (B := c.toInt) rfl rfl (by omega) (fun v51 e52 => to_in (pc := 70) rw_202_70 rfl (s_add (pc := 71) rw_202_71 (A := v51.toInt) (B := f.toInt) rfl rfl (by omega) (fun v53 e54 => s_ial (pc := 72) rw_202_72 hG42 rfl (n := 240) rfl rfl (A := v53.toInt) rfl (by omega) (by omega) (lo := -2147483648) (hi := 2147483647) rfl rfl (fun v55 w_56 _ _ => ?_))))))))
                have z_57 : v55 = (x_kn sg NN (n.toInt).toNat).2.2.1 (8 * (c.toInt).toNat + (f.toInt).toNat) := KST_lv (K := (x_kn sg NN (n.toInt).toNat)) p_43 (c := c.toInt) (f := f.toInt) (by omega) (by omega) (by omega) (by omega) (by omega) w_56
                refine to_r0 (pc := 73) rw_202_73 ?_
                exact h v55 M44 hG42 F45 (x_truly_v (by omega) (by omega) z_57)
              · refine to_an (pc := 47) rw_202_47 rfl (s_gR (pc := 48) rw_202_48 hG42 rfl (v := 98) rfl (to_in (pc := 51) rw_202_51 rfl (s_ial (pc := 52) rw_202_52 hG42 rfl (n := 30) rfl rfl (A := c.toInt) rfl (by omega) (by omega) (lo := -2147483648) (hi := 2147483647) rfl rfl (fun v58 w_59 _ _ => ?_))))
                have z_60 : v58 = (x_kn sg NN (n.toInt).toNat).2.1 (c.toInt).toNat := KST_lw (K := (x_kn sg NN (n.toInt).toNat)) p_43 (by omega) (by omega) w_59
                refine to_an (pc := 53) rw_202_53 rfl (to_in (pc := 54) rw_202_54 rfl (s_v (pc := 55) rw_202_55 (dp0 hd (by decide)) (ls0 := [.ref 77, .int f, .null, .null]) rfl (Nat.le_of_ble_eq_true rfl) (Nat.le_of_ble_eq_true rfl) rfl (to_rc rfl rfl rfl (g_o hG42 rfl)) rfl (E_201 hX (dp1 hd (by decide)) hG42 j_48 (f := f) (sg := sg) (fun r61 M65 hG63 F62 p_64 => ?_))))
                have F66 := FR.c F45 F62 tg_138
                refine s_opE (pc := 58) rw_202_58 (w := v58 &&& r61) rfl (fun v67 e68 => to_go (pc := 59) rw_202_59 (to_r0 (pc := 73) rw_202_73 ?_))
                exact h v67 M65 hG63 F66 (x_truly_w (by omega) (by omega) (by rw [← e68, z_60, p_64]))
