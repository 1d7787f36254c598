abbrev md_q6q (q a i : Nat) : Prop := a = q ∧ i = 5 ∨ q + 1 ≤ a ∧ a ≤ q + 3
set_option maxRecDepth 4000 in
set_option maxHeartbeats 0 in
theorem E_64 {X : mm_X} {d : Nat} {M : mm_M} {Q : Option Value → mm_M → Prop} {q : Nat} {k : Int32} {f : Int32} {s : Int32} {P9 : x_GP} (hX : g_X X) (hd : 0 ≤ d) (hG : g_G M) (hq : q = 67 ∨ q = 72) (q1 : 0 ≤ k.toInt) (q2 : k.toInt ≤ 4) (q3 : 0 ≤ f.toInt) (q4 : f.toInt ≤ 11) (q5 : LQc M q P9) (q6 : P9.2 < 40) (h : ∀ (M1 : mm_M), g_G M1 → FR (md_q6q q) M M1 → (LQc M1 q (x_kn1 P9 k.toInt f.toInt s.toInt)) → Q (none) M1) : mm_T X d 64 0 [.ref q, .int k, .int f, .int s] [] M Q := by
  have F0 : FR (md_q6q q) M M := FR.rf
  have b_1 := g_b hG (a := q) (i := 5) (lo := 0) (hi := 40) (by rcases hq with rfl | rfl <;> rfl) (by rcases hq with rfl | rfl <;> rfl)
  have z_2 := q5.1
  have z_3 := q5.2.1
  refine to_an (pc := 0) rw_64_0 rfl (tt_gI (pc := 1) rw_64_1 (g_o hG (by rcases hq with rfl | rfl <;> rfl)) (v := (M.2.1 q 5)) rfl (to_c (pc := 4) rw_64_4 (x := (40 : Int32)) rfl rfl (b_cge_f (pc := 6) rw_64_6 (A := (M.2.1 q 5).toInt) (B := 40) rfl rfl (by omega) (to_an (pc := 9) rw_64_9 rfl (s_gR (pc := 10) rw_64_10 hG (by rcases hq with rfl | rfl <;> rfl) (v := (q + 1)) (by rcases hq with rfl | rfl <;> rfl) (to_an (pc := 13) rw_64_13 rfl (tt_gI (pc := 14) rw_64_14 (g_o hG (by rcases hq with rfl | rfl <;> rfl)) (v := (M.2.1 q 5)) rfl (to_in (pc := 17) rw_64_17 rfl (s_ias (pc := 18) rw_64_18 hG (by rcases hq with rfl | rfl <;> rfl) (n := 40) (by rcases hq with rfl | rfl <;> rfl) (A := (M.2.1 q 5).toInt) rfl (by omega) (by omega) (fun M5 W4 => ?_))))))))))
  have hG6 := g_w hG W4 (A := k.toInt) rfl (lo := 0) (hi := 4) (by rcases hq with rfl | rfl <;> rfl) (by rcases hq with rfl | rfl <;> rfl) (by omega) (by omega)
  have F7 := FR.w F0 W4 (show (q + 1) = q ∧ ((M.2.1 q 5).toInt).toNat = 5 ∨ q + 1 ≤ (q + 1) ∧ (q + 1) ≤ q + 3 by omega)
  refine to_an (pc := 19) rw_64_19 rfl (s_gR (pc := 20) rw_64_20 hG6 (by rcases hq with rfl | rfl <;> rfl) (v := (q + 2)) (by rcases hq with rfl | rfl <;> rfl) (to_an (pc := 23) rw_64_23 rfl ?_))
  have c_8 : M5.2.1 q 5 = (M.2.1 q 5) := (W_n W4 (by omega) rfl)
  refine tt_gI (pc := 24) rw_64_24 (g_o hG6 (by rcases hq with rfl | rfl <;> rfl)) (v := (M.2.1 q 5)) c_8 (to_in (pc := 27) rw_64_27 rfl (s_ias (pc := 28) rw_64_28 hG6 (by rcases hq with rfl | rfl <;> rfl) (n := 40) (by rcases hq with rfl | rfl <;> rfl) (A := (M.2.1 q 5).toInt) rfl (by omega) (by omega) (fun M10 W9 => ?_)))
  have hG11 := g_w hG6 W9 (A := f.toInt) rfl (lo := 0) (hi := 11) (by rcases hq with rfl | rfl <;> rfl) (by rcases hq with rfl | rfl <;> rfl) (by omega) (by omega)
  have F12 := FR.w F7 W9 (show (q + 2) = q ∧ ((M.2.1 q 5).toInt).toNat = 5 ∨ q + 1 ≤ (q + 2) ∧ (q + 2) ≤ q + 3 by omega)
  refine to_an (pc := 29) rw_64_29 rfl (s_gR (pc := 30) rw_64_30 hG11 (by rcases hq with rfl | rfl <;> rfl) (v := (q + 3)) (by rcases hq with rfl | rfl <;> rfl) (to_an (pc := 33) rw_64_33 rfl ?_))
  have c_13 : M10.2.1 q 5 = (M.2.1 q 5) := (W_n W9 (by omega) c_8)
  refine tt_gI (pc := 34) rw_64_34 (g_o hG11 (by rcases hq with rfl | rfl <;> rfl)) (v := (M.2.1 q 5)) c_13 (to_in (pc := 37) rw_64_37 rfl (s_ias (pc := 38) rw_64_38 hG11 (by rcases hq with rfl | rfl <;> rfl) (n := 40) (by rcases hq with rfl | rfl <;> rfl) (A := (M.2.1 q 5).toInt) rfl (by omega) (by omega) (fun M15 W14 => ?_)))
  have hG16 := g_wf hG11 W14 (by rcases hq with rfl | rfl <;> rfl) (by rcases hq with rfl | rfl <;> rfl) (by omega)
  have F17 := FR.w F12 W14 (show (q + 3) = q ∧ ((M.2.1 q 5).toInt).toNat = 5 ∨ q + 1 ≤ (q + 3) ∧ (q + 3) ≤ q + 3 by omega)
  refine to_an (pc := 39) rw_64_39 rfl (to_dupr (pc := 40) rw_64_40 ?_)
  have c_18 : M15.2.1 q 5 = (M.2.1 q 5) := (W_n W14 (by omega) c_13)
  refine tt_gI (pc := 41) rw_64_41 (g_o hG16 (by rcases hq with rfl | rfl <;> rfl)) (v := (M.2.1 q 5)) c_18 (to_c (pc := 44) rw_64_44 (x := (1 : Int32)) rfl rfl (s_add (pc := 45) rw_64_45 (A := (M.2.1 q 5).toInt) (B := 1) rfl rfl (by omega) (fun v19 e20 => s_pI (pc := 46) rw_64_46 hG16 (by rcases hq with rfl | rfl <;> rfl) (fun M22 W21 => ?_))))
  have hG23 := g_w hG16 W21 (A := v19.toInt) rfl (lo := 0) (hi := 40) (by rcases hq with rfl | rfl <;> rfl) (by rcases hq with rfl | rfl <;> rfl) (by omega) (by omega)
  have F24 := FR.w F17 W21 (show q = q ∧ 5 = 5 ∨ q + 1 ≤ q ∧ q ≤ q + 3 by omega)
  refine to_rv (pc := 49) rw_64_49 ?_
  exact h M22 hG23 F24 (LQc_k q5 W4 W9 W14 W21 (by omega) (by omega) (by omega) (by omega))
