theorem tg_96 {M M1 : mm_M} (F : FR (fun a i : Nat => 6 ≤ a ∧ a ≤ 10) M M1) : ∀ a i : Nat, PI_r a → M1.2.1 a i = M.2.1 a i := fun a i z => F_n F (show ¬ (6 ≤ a ∧ a ≤ 10) by omega) rfl
theorem tg_97 {M M1 : mm_M} (F : FR (fun a i : Nat => 6 ≤ a ∧ a ≤ 10) M M1) : ∀ a i : Nat, (a = 68 ∨ a = 69 ∨ a = 73 ∨ a = 74) → M1.2.1 a i = M.2.1 a i := fun a i z => F_n F (show ¬ (6 ≤ a ∧ a ≤ 10) by omega) rfl
theorem tg_98 {M M1 : mm_M} (F : FR (fun a i : Nat => a < 0) M M1) : ∀ a i : Nat, (7 ≤ a ∧ a ≤ 9) → M1.2.1 a i = M.2.1 a i := fun a i z => F_n F (show ¬ (a < 0) by omega) rfl
theorem tg_99 {M M1 : mm_M} (F : FR (fun a i : Nat => a < 0) M M1) : ∀ a i : Nat, PI_r a → M1.2.1 a i = M.2.1 a i := fun a i z => F_n F (show ¬ (a < 0) by omega) rfl
theorem tg_100 {M M1 : mm_M} (F : FR (fun a i : Nat => a < 0) M M1) : ∀ a i : Nat, (a = 68 ∨ a = 69 ∨ a = 73 ∨ a = 74) → M1.2.1 a i = M.2.1 a i := fun a i z => F_n F (show ¬ (a < 0) by omega) rfl
theorem tg_101 {M M1 : mm_M} (F : FR (fun a i : Nat => a < 0) M M1) : ∀ a i : Nat, (a = 77 ∧ 11 ≤ i ∧ i ≤ 13 ∨ 80 ≤ a ∧ a ≤ 84 ∧ i < 8 ∨ 85 ≤ a ∧ a ≤ 86 ∧ i < 12) → M1.2.1 a i = M.2.1 a i := fun a i z => F_n F (show ¬ (a < 0) by omega) rfl
theorem tg_102 {M M1 : mm_M} (F : FR (fun a i : Nat => a < 0) M M1) : ∀ a i : Nat, NJ_r a i → M1.2.1 a i = M.2.1 a i := fun a i z => F_n F (show ¬ (a < 0) by omega) rfl
theorem tg_103 : ∀ a i : Nat, (6 ≤ a ∧ a ≤ 10) → (6 ≤ a ∧ a ≤ 10) := fun a i z => by omega
theorem tg_104 : ∀ a i : Nat, (a < 0) → (6 ≤ a ∧ a ≤ 10) := fun a i z => by omega
theorem tg_105 : ∀ a i : Nat, (a = 77 ∧ i = 29 ∨ 90 ≤ a ∧ a ≤ 93) → (a = 77 ∧ (i = 2 ∨ i = 29) ∨ 90 ≤ a ∧ a ≤ 93) := fun a i z => by omega
theorem tg_106 : ∀ a i : Nat, (a < 0) → (a = 77 ∧ (i = 2 ∨ i = 29) ∨ 90 ≤ a ∧ a ≤ 93) := fun a i z => by omega
theorem tg_107 : ∀ a i : Nat, (7 ≤ a ∧ a ≤ 9) → ¬ (a = 6 ∧ i = 0) := fun a i z => by omega
theorem tg_108 : ∀ a i j : Nat, (7 ≤ a ∧ a ≤ 9) → ¬ (a = 10 ∧ i = j) := fun a i j z => by omega
theorem NWc_o {O O2 M : mm_M} {r : Int} {k f s t : Int32} (h : ∀ a i : Nat, (a = 6 ∧ i = 0 ∨ 7 ≤ a ∧ a ≤ 10) → O.2.1 a i = O2.2.1 a i) (H : NWc O M r k f s t) : NWc O2 M r k f s t := by
  unfold NWc at H ⊢
  rw [h 6 0 (by omega)] at H
  exact ⟨fun z a i g => (H.1 z a i g).trans (h a i (by omega)), fun z => ⟨fun a i g g2 => ((H.2 z).1 a i g g2).trans (h a i (by omega)), (H.2 z).2⟩⟩
set_option maxRecDepth 4000 in
set_option maxHeartbeats 0 in
theorem E_247 {X : mm_X} {d : Nat} {M : mm_M} {Q : Option Value → mm_M → Prop} {x : Int32} (hX : g_X X) (hd : 0 ≤ d) (hG : g_G M) (q1 : 0 ≤ x.toInt) (q2 : x.toInt ≤ 16777215) (h : ∀ (r : Int32) (M1 : mm_M), g_G M1 → FR md_0 M M1 → (r.toInt = ((x_ct (x.toInt).toNat 62 : Nat) : Int)) → Q (some (.int r)) M1) : mm_T X d 246 0 [.int x] [] M Q := by
  have F0 : FR md_0 M M := FR.rf
  refine to_in (pc := 0) rw_247_0 rfl (to_in (pc := 1) rw_247_1 rfl (to_c (pc := 2) rw_247_2 (x := (1 : Int32)) rfl rfl (s_opE (pc := 3) rw_247_3 (w := ((x.toUInt32 >>> ((1 : Int32).toUInt32 &&& Int32.toUInt32 31)).toInt32)) rfl (fun v1 e2 => ?_))))
  have u_3 : v1.toInt = x.toInt / 2 := by rw [← e2]; exact i_ushr (k := 1) (by decide) (by omega)
  refine to_c (pc := 4) rw_247_4 (x := (1431655765 : Int32)) rfl rfl (s_and' (pc := 7) rw_247_7 (A := v1.toInt) rfl (by omega) (fun v4 e5 _ _ => ?_))
  have k_6 : (1431655765 : Int32).toInt = 1431655765 := rfl
  have u_7 : v4.toInt = ((v1.toInt.toNat &&& 1431655765 : Nat) : Int) := by rw [← e5]; exact i_and_n (by omega) (by decide)
  have z_8 := (Nat.and_le_left : (v1.toInt.toNat &&& 1431655765) ≤ v1.toInt.toNat)
  refine s_sub (pc := 8) rw_247_8 (A := x.toInt) (B := v4.toInt) rfl rfl (by omega) (fun v9 e10 => to_isn (pc := 9) rw_247_9 (ls2 := [.int v9]) rfl rfl (to_in (pc := 10) rw_247_10 rfl (to_c (pc := 11) rw_247_11 (x := (858993459 : Int32)) rfl rfl (s_and (pc := 14) rw_247_14 (B := 858993459) rfl (by omega) (fun v11 e12 _ _ => ?_)))))
  have k_13 : (858993459 : Int32).toInt = 858993459 := rfl
  have u_14 : v11.toInt = ((v9.toInt.toNat &&& 858993459 : Nat) : Int) := by rw [← e12]; exact i_and_n (by omega) (by decide)
  have z_15 := (Nat.and_le_left : (v9.toInt.toNat &&& 858993459) ≤ v9.toInt.toNat)
  refine to_in (pc := 15) rw_247_15 rfl (to_c (pc := 16) rw_247_16 (x := (2 : Int32)) rfl rfl (s_opE (pc := 17) rw_247_17 (w := ((v9.toUInt32 >>> ((2 : Int32).toUInt32 &&& Int32.toUInt32 31)).toInt32)) rfl (fun v16 e17 => ?_)))
  have u_18 : v16.toInt = v9.toInt / 4 := by rw [← e17]; exact i_ushr (k := 2) (by decide) (by omega)
  refine to_c (pc := 18) rw_247_18 (x := (858993459 : Int32)) rfl rfl (s_and (pc := 21) rw_247_21 (B := 858993459) rfl (by omega) (fun v19 e20 _ _ => ?_))
  have u_21 : v19.toInt = ((v16.toInt.toNat &&& 858993459 : Nat) : Int) := by rw [← e20]; exact i_and_n (by omega) (by decide)
  have z_22 := (Nat.and_le_left : (v16.toInt.toNat &&& 858993459) ≤ v16.toInt.toNat)
  refine s_add (pc := 22) rw_247_22 (A := v11.toInt) (B := v19.toInt) rfl rfl (by omega) (fun v23 e24 => to_isn (pc := 23) rw_247_23 (ls2 := [.int v23]) rfl rfl (to_in (pc := 24) rw_247_24 rfl (to_in (pc := 25) rw_247_25 rfl (to_c (pc := 26) rw_247_26 (x := (4 : Int32)) rfl rfl (s_opE (pc := 27) rw_247_27 (w := ((v23.toUInt32 >>> ((4 : Int32).toUInt32 &&& Int32.toUInt32 31)).toInt32)) rfl (fun v25 e26 => ?_))))))
  have u_27 : v25.toInt = v23.toInt / 16 := by rw [← e26]; exact i_ushr (k := 4) (by decide) (by omega)
  refine s_add (pc := 28) rw_247_28 (A := v23.toInt) (B := v25.toInt) rfl rfl (by omega) (fun v28 e29 => to_c (pc := 29) rw_247_29 (x := (252645135 : Int32)) rfl rfl (s_and' (pc := 32) rw_247_32 (A := v28.toInt) rfl (by omega) (fun v30 e31 _ _ => ?_)))
  have k_32 : (252645135 : Int32).toInt = 252645135 := rfl
  have u_33 : v30.toInt = ((v28.toInt.toNat &&& 252645135 : Nat) : Int) := by rw [← e31]; exact i_and_n (by omega) (by decide)
  have z_34 := (Nat.and_le_left : (v28.toInt.toNat &&& 252645135) ≤ v28.toInt.toNat)
  refine to_isn (pc := 33) rw_247_33 (ls2 := [.int v30]) rfl rfl (to_in (pc := 34) rw_247_34 rfl (to_in (pc := 35) rw_247_35 rfl (to_c (pc := 36) rw_247_36 (x := (8 : Int32)) rfl rfl (s_opE (pc := 38) rw_247_38 (w := ((v30.toUInt32 >>> ((8 : Int32).toUInt32 &&& Int32.toUInt32 31)).toInt32)) rfl (fun v35 e36 => ?_)))))
  have u_37 : v35.toInt = v30.toInt / 256 := by rw [← e36]; exact i_ushr (k := 8) (by decide) (by omega)
  refine s_add (pc := 39) rw_247_39 (A := v30.toInt) (B := v35.toInt) rfl rfl (by omega) (fun v38 e39 => to_isn (pc := 40) rw_247_40 (ls2 := [.int v38]) rfl rfl (to_in (pc := 41) rw_247_41 rfl (to_in (pc := 42) rw_247_42 rfl (to_c (pc := 43) rw_247_43 (x := (16 : Int32)) rfl rfl (s_opE (pc := 45) rw_247_45 (w := ((v38.toUInt32 >>> ((16 : Int32).toUInt32 &&& Int32.toUInt32 31)).toInt32)) rfl (fun v40 e41 => ?_))))))
  have u_42 : v40.toInt = v38.toInt / 65536 := by rw [← e41]; exact i_ushr (k := 16) (by decide) (by omega)
  refine s_add (pc := 46) rw_247_46 (A := v38.toInt) (B := v40.toInt) rfl rfl (by omega) (fun v43 e44 => to_isn (pc := 47) rw_247_47 (ls2 := [.int v43]) rfl rfl (to_in (pc := 48) rw_247_48 rfl (to_c (pc := 49) rw_247_49 (x := (63 : Int32)) rfl rfl (s_and (pc := 51) rw_247_51 (B := 63) rfl (by omega) (fun v45 e46 _ _ => ?_)))))
  have k_47 : (63 : Int32).toInt = 63 := rfl
  have u_48 : v45.toInt = ((v43.toInt.toNat &&& 63 : Nat) : Int) := by rw [← e46]; exact i_and_n (by omega) (by decide)
  have z_49 := (Nat.and_le_left : (v43.toInt.toNat &&& 63) ≤ v43.toInt.toNat)
  refine to_r0 (pc := 52) rw_247_52 ?_
  have z_50 := bc_all (x := x.toInt) (by omega) (by omega) u_3 u_7 (by omega) u_14 u_18 u_21 (by omega) u_27 (by omega) u_33 u_37 (by omega) u_42 (by omega) u_48
  have z_51 := n_bc_ct (n := (x.toInt).toNat) (by omega)
  exact h v45 M hG F0 (by omega)
set_option maxRecDepth 4000 in
set_option maxHeartbeats 0 in
theorem U_151i_0 {X : mm_X} {d : Nat} {M : mm_M} {Q : Option Value → mm_M → Prop} {x : Int64} {b : Int32} (hX : g_X X) (hd : 1 ≤ d) (q1 : x = b.toInt64) (q2 : 0 ≤ b.toInt) (h : ∀ (r : Int32) (M1 : mm_M), g_G M1 → FR md_0 M M1 → (r.toInt = ((x_ct (b.toInt).toNat 62 : Nat) : Int)) → Q (some (.int r)) M1) : ∀ nn9 : Nat, (∀ (N : mm_M) (x2 : Int32) (x3 : Int32), g_G N → FR md_0 M N → (0 ≤ x3.toInt) → (x3.toInt ≤ 62) → (0 ≤ x2.toInt) → (x2.toInt ≤ 62) → (x2.toInt ≤ x3.toInt) → ((x2.toInt) = ((x_ct (b.toInt).toNat (x3.toInt).toNat : Nat) : Int)) → 62 - x3.toInt < (nn9 : Int) → mm_T X d 150 4 [.long x, .null, .int x2, .int x3] [] N Q) := by
  intro nn9
  induction nn9 with
  | zero =>
    intro N x2 x3 hG F0 g1 g2 g3 g4 g5 g6 hm
    exfalso; omega
  | succ nn9 ih =>
    intro N x2 x3 hG F0 g1 g2 g3 g4 g5 g6 hm
    refine to_in (pc := 4) rw_151_4 rfl (to_c (pc := 5) rw_151_5 (x := (62 : Int32)) rfl rfl (b_cge (pc := 7) rw_151_7 (A := x3.toInt) (B := 62) rfl rfl (fun h1 => ?_) (fun h1 => ?_)))
    · refine to_in (pc := 32) rw_151_32 rfl (to_r0 (pc := 33) rw_151_33 ?_)
      have z_2 := (g6.trans (by rw [show (x3.toInt).toNat = 62 by omega]) : x2.toInt = ((x_ct (b.toInt).toNat 62 : Nat) : Int))
      exact h x2 N hG F0 (by omega)
    · refine to_in (pc := 10) rw_151_10 rfl (to_ln (pc := 11) rw_151_11 rfl rfl rfl (to_in (pc := 12) rw_151_12 rfl (s_s (pc := 13) rw_151_13 (dp0 hd (by decide)) (ls0 := [.long x, .null, .int x3]) rfl (Nat.le_of_ble_eq_true rfl) (Nat.le_of_ble_eq_true rfl) rfl (to_rcs rfl rfl) rfl (to_ln (pc := 0) rw_150_0 rfl rfl rfl (to_in (pc := 1) rw_150_1 rfl (to_2s (pc := 2) rw_150_2 (v := (x >>> (x3.toInt64 &&& 63))) rfl (to_cl (pc := 3) rw_150_3 rfl (x := (1 : Int64)) rfl (to_2l (pc := 4) rw_150_4 (v := ((x >>> (x3.toInt64 &&& 63)) &&& (1 : Int64))) rfl (to_cl (pc := 5) rw_150_5 rfl (x := (1 : Int64)) rfl (s_lcmpE (pc := 6) rw_150_6 (fun v3 e4 => ?_)))))))))))
      have b_5 := x_eq_b (x := ((x >>> (x3.toInt64 &&& 63)) &&& (1 : Int64))) (y := (1 : Int64))
      have z_6 := x_many (b := b) (v := x3) (h := x3.toInt) (by omega) (by omega) (by omega) (by omega)
      rw [← q1] at z_6
      refine b_ine (pc := 7) rw_150_7 (A := v3.toInt) rfl (fun h7 => ?_) (fun h7 => ?_)
      · refine to_c (pc := 14) rw_150_14 (x := (0 : Int32)) rfl rfl (s_r1 (pc := 15) rw_150_15 (A := 0) rfl (by decide) (b_ieq_t (pc := 16) rw_151_16 (A := 0) rfl (by decide) (to_c (pc := 23) rw_151_23 (x := (0 : Int32)) rfl rfl (s_add (pc := 24) rw_151_24 (A := x2.toInt) (B := 0) rfl rfl (by omega) (fun v8 e9 => to_isn (pc := 25) rw_151_25 (ls2 := [.long x, .null, .int v8, .int x3]) rfl rfl (s_inc (pc := 26) rw_151_26 (ls2 := fun v => [.long x, .null, .int v8, .int v]) rfl rfl (fun _ => rfl) (A := x3.toInt) (B := 1) rfl rfl (by omega) (fun v10 e11 => to_go (pc := 29) rw_151_29 ?_)))))))
        exact ih N v8 v10 hG F0 (by omega) (by omega) (by omega) (by omega) (by omega) (x_ct_s (by omega) g6 (by omega) (by omega)) (by omega)
      · refine to_c (pc := 10) rw_150_10 (x := (1 : Int32)) rfl rfl (to_go (pc := 11) rw_150_11 (s_r1 (pc := 15) rw_150_15 (A := 1) rfl (by decide) (b_ieq_f (pc := 16) rw_151_16 (A := 1) rfl (by decide) (to_c (pc := 19) rw_151_19 (x := (1 : Int32)) rfl rfl (to_go (pc := 20) rw_151_20 (s_add (pc := 24) rw_151_24 (A := x2.toInt) (B := 1) rfl rfl (by omega) (fun v12 e13 => to_isn (pc := 25) rw_151_25 (ls2 := [.long x, .null, .int v12, .int x3]) rfl rfl (s_inc (pc := 26) rw_151_26 (ls2 := fun v => [.long x, .null, .int v12, .int v]) rfl rfl (fun _ => rfl) (A := x3.toInt) (B := 1) rfl rfl (by omega) (fun v14 e15 => to_go (pc := 29) rw_151_29 ?_)))))))))
        exact ih N v12 v14 hG F0 (by omega) (by omega) (by omega) (by omega) (by omega) (x_ct_s (by omega) g6 (by omega) (by omega)) (by omega)
set_option maxRecDepth 4000 in
set_option maxHeartbeats 0 in
theorem E_151i {X : mm_X} {d : Nat} {M : mm_M} {Q : Option Value → mm_M → Prop} {x : Int64} {b : Int32} (hX : g_X X) (hd : 1 ≤ d) (hG : g_G M) (q1 : x = b.toInt64) (q2 : 0 ≤ b.toInt) (h : ∀ (r : Int32) (M1 : mm_M), g_G M1 → FR md_0 M M1 → (r.toInt = ((x_ct (b.toInt).toNat 62 : Nat) : Int)) → Q (some (.int r)) M1) : mm_T X d 150 0 [.long x, .null, .null, .null] [] M Q := by
  have F0 : FR md_0 M M := FR.rf
  refine to_c (pc := 0) rw_151_0 (x := (0 : Int32)) rfl rfl (to_isn (pc := 1) rw_151_1 (ls2 := [.long x, .null, .int (0 : Int32), .null]) rfl rfl (to_c (pc := 2) rw_151_2 (x := (0 : Int32)) rfl rfl (to_isn (pc := 3) rw_151_3 (ls2 := [.long x, .null, .int (0 : Int32), .int (0 : Int32)]) rfl rfl ?_)))
  have k_16 : (0 : Int32).toInt = 0 := rfl
  exact (U_151i_0 (x := x) (b := b) hX hd q1 q2 h ((62 - (0 : Int32).toInt).toNat + 1)) M (0 : Int32) (0 : Int32) hG F0 (by omega) (by omega) (by omega) (by omega) (by omega) rfl (by omega)
set_option maxRecDepth 4000 in
set_option maxHeartbeats 0 in
theorem E_20 {X : mm_X} {d : Nat} {M : mm_M} {Q : Option Value → mm_M → Prop} {k : Int32} {f : Int32} {s : Int32} {t : Int32} (hX : g_X X) (hd : 0 ≤ d) (hG : g_G M) (q1 : 0 ≤ k.toInt) (q2 : k.toInt ≤ 5) (q3 : 0 ≤ f.toInt) (q4 : f.toInt ≤ 149) (q5 : (k.toInt = 0 → f.toInt ≤ 29 ∧ 0 ≤ s.toInt ∧ s.toInt ≤ 7) ∧ (k.toInt = 1 → f.toInt ≤ 29 ∧ 0 ≤ s.toInt ∧ s.toInt ≤ 11) ∧ (k.toInt = 2 → f.toInt ≤ 29) ∧ (k.toInt = 3 → f.toInt ≤ 29) ∧ (k.toInt = 4 → f.toInt ≤ 11)) (q6 : NI M) (h : ∀ (r : Int32) (M1 : mm_M), g_G M1 → FR md_n M M1 → (150 ≤ (M.2.1 6 0).toInt → r.toInt = -1 ∧ (M1.2.1 6 0).toInt = (M.2.1 6 0).toInt) → ((M.2.1 6 0).toInt < 150 → r.toInt = (M.2.1 6 0).toInt ∧ (M1.2.1 6 0).toInt = (M.2.1 6 0).toInt + 1) → NI M1 → (NWc M M1 r.toInt k f s t) → Q (some (.int r)) M1) : mm_T X d 20 0 [.ref 6, .int k, .int f, .int s, .int t] [] M Q := by
  have F0 : FR md_n M M := FR.rf
  refine to_an (pc := 0) rw_20_0 rfl ?_
  have b_1 := g_b hG (a := 6) (i := 0) (lo := 0) (hi := 150) rfl rfl
  refine tt_gI (pc := 1) rw_20_1 (g_o hG rfl) (v := (M.2.1 6 0)) rfl (to_c (pc := 4) rw_20_4 (x := (150 : Int32)) rfl rfl (b_clt (pc := 7) rw_20_7 (A := (M.2.1 6 0).toInt) (B := 150) rfl rfl (fun h2 => ?_) (fun h2 => ?_)))
  · refine to_an (pc := 12) rw_20_12 rfl (s_gR (pc := 13) rw_20_13 hG rfl (v := 7) rfl (to_an (pc := 16) rw_20_16 rfl (tt_gI (pc := 17) rw_20_17 (g_o hG rfl) (v := (M.2.1 6 0)) rfl (to_in (pc := 20) rw_20_20 rfl (s_ias (pc := 21) rw_20_21 hG rfl (n := 150) rfl (A := (M.2.1 6 0).toInt) rfl (by omega) (by omega) (fun M4 W3 => ?_))))))
    have hG5 := g_w hG W3 (A := k.toInt) rfl (lo := 0) (hi := 5) rfl rfl (by omega) (by decide)
    have F6 := FR.w F0 W3 (show 6 ≤ 7 ∧ 7 ≤ 10 by decide)
    refine to_an (pc := 22) rw_20_22 rfl (s_gR (pc := 23) rw_20_23 hG5 rfl (v := 8) rfl (to_an (pc := 26) rw_20_26 rfl ?_))
    have c_7 : M4.2.1 6 0 = (M.2.1 6 0) := (W_n W3 (fun z => absurd z.1 (by decide)) rfl)
    refine tt_gI (pc := 27) rw_20_27 (g_o hG5 rfl) (v := (M.2.1 6 0)) c_7 (to_in (pc := 30) rw_20_30 rfl (s_ias (pc := 31) rw_20_31 hG5 rfl (n := 150) rfl (A := (M.2.1 6 0).toInt) rfl (by omega) (by omega) (fun M9 W8 => ?_)))
    have hG10 := g_w hG5 W8 (A := f.toInt) rfl (lo := 0) (hi := 149) rfl rfl (by omega) (by decide)
    have F11 := FR.w F6 W8 (show 6 ≤ 8 ∧ 8 ≤ 10 by decide)
    refine to_an (pc := 32) rw_20_32 rfl (s_gR (pc := 33) rw_20_33 hG10 rfl (v := 9) rfl (to_an (pc := 36) rw_20_36 rfl ?_))
    have c_12 : M9.2.1 6 0 = (M.2.1 6 0) := (W_n W8 (fun z => absurd z.1 (by decide)) c_7)
    refine tt_gI (pc := 37) rw_20_37 (g_o hG10 rfl) (v := (M.2.1 6 0)) c_12 (to_in (pc := 40) rw_20_40 rfl (s_ias (pc := 41) rw_20_41 hG10 rfl (n := 150) rfl (A := (M.2.1 6 0).toInt) rfl (by omega) (by omega) (fun M14 W13 => ?_)))
    have hG15 := g_wf hG10 W13 rfl rfl (by decide)
    have F16 := FR.w F11 W13 (show 6 ≤ 9 ∧ 9 ≤ 10 by decide)
    have j_17 := NI_k q6 W3 W8 W13 q5
    refine to_an (pc := 42) rw_20_42 rfl (s_gR (pc := 43) rw_20_43 hG15 rfl (v := 10) rfl (to_an (pc := 46) rw_20_46 rfl ?_))
    have c_18 : M14.2.1 6 0 = (M.2.1 6 0) := (W_n W13 (fun z => absurd z.1 (by decide)) c_12)
    refine tt_gI (pc := 47) rw_20_47 (g_o hG15 rfl) (v := (M.2.1 6 0)) c_18 (to_i (pc := 50) rw_20_50 rfl (s_ias (pc := 52) rw_20_52 hG15 rfl (n := 150) rfl (A := (M.2.1 6 0).toInt) rfl (by omega) (by omega) (fun M20 W19 => ?_)))
    have hG21 := g_wf hG15 W19 rfl rfl (by decide)
    have F22 := FR.w F16 W19 (show 6 ≤ 10 ∧ 10 ≤ 10 by decide)
    refine to_an (pc := 53) rw_20_53 rfl (to_dupr (pc := 54) rw_20_54 ?_)
    have c_23 : M20.2.1 6 0 = (M.2.1 6 0) := (W_n W19 (fun z => absurd z.1 (by decide)) c_18)
    refine tt_gI (pc := 55) rw_20_55 (g_o hG21 rfl) (v := (M.2.1 6 0)) c_23 (to_c (pc := 58) rw_20_58 (x := (1 : Int32)) rfl rfl (s_add (pc := 59) rw_20_59 (A := (M.2.1 6 0).toInt) (B := 1) rfl rfl (by omega) (fun v24 e25 => s_pI (pc := 60) rw_20_60 hG21 rfl (fun M27 W26 => ?_))))
    have hG28 := g_w hG21 W26 (A := v24.toInt) rfl (lo := 0) (hi := 150) rfl rfl (by omega) (by decide)
    have F29 := FR.w F22 W26 (show 6 ≤ 6 ∧ 6 ≤ 10 by decide)
    refine to_an (pc := 63) rw_20_63 rfl ?_
    have c_30 : M27.2.1 6 0 = v24 := (W_e W26)
    refine tt_gI (pc := 64) rw_20_64 (g_o hG28 rfl) (v := v24) c_30 (to_c (pc := 67) rw_20_67 (x := (1 : Int32)) rfl rfl (s_sub (pc := 68) rw_20_68 (A := v24.toInt) (B := 1) rfl rfl (by omega) (fun v31 e32 => to_r0 (pc := 69) rw_20_69 ?_)))
    have t_33 : (M27.2.1 6 0).toInt = v24.toInt := congrArg Int32.toInt c_30
    have j_34 := (NI_f (fun a i z => W_n W26 (tg_107 a i z) rfl) (NI_f (fun a i z => W_n W19 (tg_108 a i _ z) rfl) j_17))
    exact h v31 M27 hG28 F29 (by omega) (by omega) j_34 (NWc_y W3 W8 W13 W19 W26 (by omega))
  · refine to_c (pc := 10) rw_20_10 (x := (-1 : Int32)) rfl rfl (to_r0 (pc := 11) rw_20_11 ?_)
    have k_35 : (-1 : Int32).toInt = -1 := rfl
    exact h (-1 : Int32) M hG F0 (by omega) (by omega) q6 (NWc_n (fun a i z => rfl) (by omega))
set_option maxRecDepth 4000 in
set_option maxHeartbeats 0 in
theorem E_191 {X : mm_X} {d : Nat} {M : mm_M} {Q : Option Value → mm_M → Prop} {w : Int32} {o : Int32} {m : Int32} {v : Int32} (hX : g_X X) (hd : 0 ≤ d) (hG : g_G M) (q1 : 0 ≤ w.toInt) (q2 : w.toInt ≤ 5) (q3 : 0 ≤ o.toInt) (q4 : o.toInt ≤ 149) (q5 : (M.2.1 77 29).toInt ≤ 149) (q6 : w.toInt = 0 → o.toInt ≤ 29 ∧ (0 ≤ m.toInt ∧ m.toInt ≤ 7) ∧ 0 ≤ v.toInt ∧ ((M.2.1 81 (m.toInt).toNat).toInt = 0 ∨ v.toInt ≤ 9)) (q7 : w.toInt = 1 → o.toInt ≤ 29 ∧ 0 ≤ m.toInt ∧ m.toInt ≤ 11) (q8 : w.toInt = 2 → o.toInt ≤ 29) (q9 : w.toInt = 3 → o.toInt ≤ 29) (q10 : w.toInt = 4 → o.toInt ≤ 11) (q11 : NJ M) (h : ∀ (r : Int32) (M1 : mm_M), g_G M1 → FR md_te M M1 → (r.toInt = (M.2.1 77 29).toInt) → ((M1.2.1 77 29).toInt = (M.2.1 77 29).toInt + 1) → NJ M1 → (NWr M M1 r.toInt w o m v) → Q (some (.int r)) M1) : mm_T X d 190 0 [.ref 77, .int w, .int o, .int m, .int v] [] M Q := by
  have F0 : FR md_te M M := FR.rf
  have b_1 := g_b hG (a := 77) (i := 29) (lo := 0) (hi := 150) rfl rfl
  refine to_an (pc := 0) rw_191_0 rfl (s_gR (pc := 1) rw_191_1 hG rfl (v := 90) rfl (to_an (pc := 4) rw_191_4 rfl (tt_gI (pc := 5) rw_191_5 (g_o hG rfl) (v := (M.2.1 77 29)) rfl (to_in (pc := 8) rw_191_8 rfl (s_ias (pc := 9) rw_191_9 hG rfl (n := 150) rfl (A := (M.2.1 77 29).toInt) rfl (by omega) (by omega) (fun M3 W2 => ?_))))))
  have hG4 := g_w hG W2 (A := w.toInt) rfl (lo := 0) (hi := 5) rfl rfl (by omega) (by decide)
  have F5 := FR.w F0 W2 (show 90 = 77 ∧ ((M.2.1 77 29).toInt).toNat = 29 ∨ 90 ≤ 90 ∧ 90 ≤ 93 by omega)
  refine to_an (pc := 10) rw_191_10 rfl (s_gR (pc := 11) rw_191_11 hG4 rfl (v := 91) rfl (to_an (pc := 14) rw_191_14 rfl ?_))
  have c_6 : M3.2.1 77 29 = (M.2.1 77 29) := (W_n W2 (fun z => absurd z.1 (by decide)) rfl)
  refine tt_gI (pc := 15) rw_191_15 (g_o hG4 rfl) (v := (M.2.1 77 29)) c_6 (to_in (pc := 18) rw_191_18 rfl (s_ias (pc := 19) rw_191_19 hG4 rfl (n := 150) rfl (A := (M.2.1 77 29).toInt) rfl (by omega) (by omega) (fun M8 W7 => ?_)))
  have hG9 := g_w hG4 W7 (A := o.toInt) rfl (lo := 0) (hi := 149) rfl rfl (by omega) (by decide)
  have F10 := FR.w F5 W7 (show 91 = 77 ∧ ((M.2.1 77 29).toInt).toNat = 29 ∨ 90 ≤ 91 ∧ 91 ≤ 93 by omega)
  refine to_an (pc := 20) rw_191_20 rfl (s_gR (pc := 21) rw_191_21 hG9 rfl (v := 92) rfl (to_an (pc := 24) rw_191_24 rfl ?_))
  have c_11 : M8.2.1 77 29 = (M.2.1 77 29) := (W_n W7 (fun z => absurd z.1 (by decide)) c_6)
  refine tt_gI (pc := 25) rw_191_25 (g_o hG9 rfl) (v := (M.2.1 77 29)) c_11 (to_in (pc := 28) rw_191_28 rfl (s_ias (pc := 29) rw_191_29 hG9 rfl (n := 150) rfl (A := (M.2.1 77 29).toInt) rfl (by omega) (by omega) (fun M13 W12 => ?_)))
  have hG14 := g_wf hG9 W12 rfl rfl (by decide)
  have F15 := FR.w F10 W12 (show 92 = 77 ∧ ((M.2.1 77 29).toInt).toNat = 29 ∨ 90 ≤ 92 ∧ 92 ≤ 93 by omega)
  refine to_an (pc := 30) rw_191_30 rfl (s_gR (pc := 31) rw_191_31 hG14 rfl (v := 93) rfl (to_an (pc := 34) rw_191_34 rfl ?_))
  have c_16 : M13.2.1 77 29 = (M.2.1 77 29) := (W_n W12 (fun z => absurd z.1 (by decide)) c_11)
  refine tt_gI (pc := 35) rw_191_35 (g_o hG14 rfl) (v := (M.2.1 77 29)) c_16 (to_i (pc := 38) rw_191_38 rfl (s_ias (pc := 40) rw_191_40 hG14 rfl (n := 150) rfl (A := (M.2.1 77 29).toInt) rfl (by omega) (by omega) (fun M18 W17 => ?_)))
  have hG19 := g_wf hG14 W17 rfl rfl (by decide)
  have F20 := FR.w F15 W17 (show 93 = 77 ∧ ((M.2.1 77 29).toInt).toNat = 29 ∨ 90 ≤ 93 ∧ 93 ≤ 93 by omega)
  refine to_an (pc := 41) rw_191_41 rfl (to_dupr (pc := 42) rw_191_42 ?_)
  have c_21 : M18.2.1 77 29 = (M.2.1 77 29) := (W_n W17 (fun z => absurd z.1 (by decide)) c_16)
  refine tt_gI (pc := 43) rw_191_43 (g_o hG19 rfl) (v := (M.2.1 77 29)) c_21 (to_c (pc := 46) rw_191_46 (x := (1 : Int32)) rfl rfl (s_add (pc := 47) rw_191_47 (A := (M.2.1 77 29).toInt) (B := 1) rfl rfl (by omega) (fun v22 e23 => s_pI (pc := 48) rw_191_48 hG19 rfl (fun M25 W24 => ?_))))
  have hG26 := g_w hG19 W24 (A := v22.toInt) rfl (lo := 0) (hi := 150) rfl rfl (by omega) (by decide)
  have F27 := FR.w F20 W24 (show 77 = 77 ∧ 29 = 29 ∨ 90 ≤ 77 ∧ 77 ≤ 93 by decide)
  have j_28 := NJ_k (M1 := M25) (n := ((M.2.1 77 29).toInt).toNat) q11 (by omega) (by have z := congrArg Int32.toInt (W_e W24); omega) (fun a i z => (W_n W24 (by /-r77,29-/ omega) (W_n W17 (by /-r93-/ omega) (W_n W12 (by /-r92-/ omega) (W_n W7 (by /-r91-/ omega) (W_n W2 (by /-r90-/ omega) rfl)))))) (W_n W24 (by omega) (W_n W17 (by omega) (W_n W12 (by omega) (W_n W7 (by omega) (W_e W2))))) (W_n W24 (by omega) (W_n W17 (by omega) (W_n W12 (by omega) (W_e W7)))) (W_n W24 (by omega) (W_n W17 (by omega) (W_e W12))) (W_n W24 (by omega) (W_e W17)) q6 q7 q8 q9 q10
  refine to_an (pc := 51) rw_191_51 rfl ?_
  have c_29 : M25.2.1 77 29 = v22 := (W_e W24)
  refine tt_gI (pc := 52) rw_191_52 (g_o hG26 rfl) (v := v22) c_29 (to_c (pc := 55) rw_191_55 (x := (1 : Int32)) rfl rfl (s_sub (pc := 56) rw_191_56 (A := v22.toInt) (B := 1) rfl rfl (by omega) (fun v30 e31 => to_r0 (pc := 57) rw_191_57 ?_)))
  have t_32 : (M25.2.1 77 29).toInt = v22.toInt := congrArg Int32.toInt c_29
  exact h v30 M25 hG26 F27 (by omega) (by omega) j_28 (NWr_y W2 W7 W12 W17 W24 (by omega))
set_option maxRecDepth 4000 in
set_option maxHeartbeats 0 in
theorem E_119 {X : mm_X} {d : Nat} {M : mm_M} {Q : Option Value → mm_M → Prop} {c : Int32} {f : Int32} {v : Int32} {p : Nat} {pz : Nat} {q : Nat} {qz : Nat} {sg : x_S} (hX : g_X X) (hd : 2 ≤ d) (hG : g_G M) (hp : p = 49 ∨ p = 58) (hpz : pz = 49 ∨ pz = 58) (hq : q = 67 ∨ q = 72) (hqz : qz = 67 ∨ qz = 72) (q1 : g_PQ M p pz q qz) (q2 : NI M) (q3 : PI M) (q4 : QI M) (q5 : PLs M p sg) (h : ∀ (r : Int32) (M1 : mm_M), g_G M1 → FR md_n M M1 → NI M1 → PI M1 → QI M1 → ((0 ≤ c.toInt ∧ c.toInt < (M.2.1 0 12).toInt ∧ 0 ≤ f.toInt ∧ f.toInt < sg.2.1 ∧ ¬ x_row sg 2 f.toInt = 3 ∧ 0 ≤ v.toInt ∧ v.toInt < x_row sg 5 f.toInt) ∧ (M.2.1 6 0).toInt < 150 → r.toInt = (M.2.1 6 0).toInt ∧ (M1.2.1 6 0).toInt = (M.2.1 6 0).toInt + 1) → (¬ ((0 ≤ c.toInt ∧ c.toInt < (M.2.1 0 12).toInt ∧ 0 ≤ f.toInt ∧ f.toInt < sg.2.1 ∧ ¬ x_row sg 2 f.toInt = 3 ∧ 0 ≤ v.toInt ∧ v.toInt < x_row sg 5 f.toInt) ∧ (M.2.1 6 0).toInt < 150) → r.toInt = -1 ∧ (M1.2.1 6 0).toInt = (M.2.1 6 0).toInt) → (NWc M M1 r.toInt (0 : Int32) c f v) → Q (some (.int r)) M1) : mm_T X d 119 0 [.ref 0, .int c, .int f, .int v] [] M Q := by
  have F0 : FR md_n M M := FR.rf
  have z_1 := q5.2.1
  have z_2 := q5.2.2.1
  have z_3 := q5.2.2.2.1
  have z_4 := q5.1
  have z_5 := z_4.1
  have z_6 := z_4.2.1
  have z_7 := z_4.2.2.1
  have z_8 := z_4.2.2.2.1
  have z_9 := z_4.2.2.2.2.1
  have z_10 := z_4.2.2.2.2.2.1
  have b_11 := g_b hG (a := p) (i := 2) (lo := 0) (hi := 8) (by rcases hp with rfl | rfl <;> rfl) (by rcases hp with rfl | rfl <;> rfl)
  have b_12 := g_b hG (a := p) (i := 3) (lo := 0) (hi := 12) (by rcases hp with rfl | rfl <;> rfl) (by rcases hp with rfl | rfl <;> rfl)
  have b_13 := g_b hG (a := p) (i := 0) (lo := 10) (hi := 60) (by rcases hp with rfl | rfl <;> rfl) (by rcases hp with rfl | rfl <;> rfl)
  refine to_an (pc := 0) rw_119_0 rfl (to_in (pc := 1) rw_119_1 rfl (s_v (pc := 2) rw_119_2 (dp0 hd (by decide)) (ls0 := [.ref 0, .int c]) rfl (Nat.le_of_ble_eq_true rfl) (Nat.le_of_ble_eq_true rfl) rfl (to_rc rfl rfl rfl (g_o hG rfl)) rfl (to_in (pc := 0) rw_140_0 rfl (b_ilt (pc := 1) rw_140_1 (A := c.toInt) rfl (fun h14 => ?_) (fun h14 => ?_)))))
  · refine to_c (pc := 16) rw_140_16 (x := (0 : Int32)) rfl rfl (s_r1 (pc := 17) rw_140_17 (A := 0) rfl (by decide) (b_ieq_t (pc := 5) rw_119_5 (A := 0) rfl (by decide) (to_c (pc := 20) rw_119_20 (x := (-1 : Int32)) rfl rfl (to_r0 (pc := 21) rw_119_21 ?_))))
    have k_15 : (-1 : Int32).toInt = -1 := rfl
    have b_16 := g_b hG (a := 6) (i := 0) (lo := 0) (hi := 150) rfl rfl
    exact h (-1 : Int32) M hG F0 q2 q3 q4 (by omega) (by omega) (NWc_n (fun a i z => rfl) (by omega))
  · refine to_in (pc := 4) rw_140_4 rfl (to_an (pc := 5) rw_140_5 rfl ?_)
    have b_17 := g_b hG (a := 0) (i := 12) (lo := 0) (hi := 30) rfl rfl
    refine tt_gI (pc := 6) rw_140_6 (g_o hG rfl) (v := (M.2.1 0 12)) rfl (b_cge (pc := 9) rw_140_9 (A := c.toInt) (B := (M.2.1 0 12).toInt) rfl rfl (fun h18 => ?_) (fun h18 => ?_))
    · refine to_c (pc := 16) rw_140_16 (x := (0 : Int32)) rfl rfl (s_r1 (pc := 17) rw_140_17 (A := 0) rfl (by decide) (b_ieq_t (pc := 5) rw_119_5 (A := 0) rfl (by decide) (to_c (pc := 20) rw_119_20 (x := (-1 : Int32)) rfl rfl (to_r0 (pc := 21) rw_119_21 ?_))))
      have k_19 : (-1 : Int32).toInt = -1 := rfl
      have b_20 := g_b hG (a := 6) (i := 0) (lo := 0) (hi := 150) rfl rfl
      exact h (-1 : Int32) M hG F0 q2 q3 q4 (by omega) (by omega) (NWc_n (fun a i z => rfl) (by omega))
    · refine to_c (pc := 12) rw_140_12 (x := (1 : Int32)) rfl rfl (to_go (pc := 13) rw_140_13 (s_r1 (pc := 17) rw_140_17 (A := 1) rfl (by decide) (b_ieq_f (pc := 5) rw_119_5 (A := 1) rfl (by decide) (to_an (pc := 8) rw_119_8 rfl (tt_gR (pc := 9) rw_119_9 (g_o hG rfl) q1.1 (to_in (pc := 12) rw_119_12 rfl (to_in (pc := 13) rw_119_13 rfl (s_v (pc := 14) rw_119_14 (dp0 hd (by decide)) (ls0 := [.ref p, .int f, .int v]) rfl (Nat.le_of_ble_eq_true rfl) (Nat.le_of_ble_eq_true rfl) rfl (to_rc rfl rfl rfl (g_o hG (by rcases hp with rfl | rfl <;> rfl))) rfl (to_an (pc := 0) rw_46_0 rfl (to_in (pc := 1) rw_46_1 rfl (s_v (pc := 2) rw_46_2 (dp1 hd (by decide)) (ls0 := [.ref p, .int f]) rfl (Nat.le_of_ble_eq_true rfl) (Nat.le_of_ble_eq_true rfl) rfl (to_rc rfl rfl rfl (g_o hG (by rcases hp with rfl | rfl <;> rfl))) rfl ?_)))))))))))
      refine to_in (pc := 0) rw_43_0 rfl (b_ilt (pc := 1) rw_43_1 (A := f.toInt) rfl (fun h21 => ?_) (fun h21 => ?_))
      · refine to_c (pc := 16) rw_43_16 (x := (0 : Int32)) rfl rfl (s_r1 (pc := 17) rw_43_17 (A := 0) rfl (by decide) (b_ieq_t (pc := 5) rw_46_5 (A := 0) rfl (by decide) (to_c (pc := 34) rw_46_34 (x := (0 : Int32)) rfl rfl (s_r1 (pc := 35) rw_46_35 (A := 0) rfl (by decide) (b_ine_f (pc := 17) rw_119_17 (A := 0) rfl (by decide) (to_c (pc := 20) rw_119_20 (x := (-1 : Int32)) rfl rfl (to_r0 (pc := 21) rw_119_21 ?_)))))))
        have k_22 : (-1 : Int32).toInt = -1 := rfl
        have b_23 := g_b hG (a := 6) (i := 0) (lo := 0) (hi := 150) rfl rfl
        exact h (-1 : Int32) M hG F0 q2 q3 q4 (by omega) (by omega) (NWc_n (fun a i z => rfl) (by omega))
      · refine to_in (pc := 4) rw_43_4 rfl (to_an (pc := 5) rw_43_5 rfl (tt_gI (pc := 6) rw_43_6 (g_o hG (by rcases hp with rfl | rfl <;> rfl)) (v := (M.2.1 p 2)) rfl (b_cge (pc := 9) rw_43_9 (A := f.toInt) (B := (M.2.1 p 2).toInt) rfl rfl (fun h24 => ?_) (fun h24 => ?_))))
        · refine to_c (pc := 16) rw_43_16 (x := (0 : Int32)) rfl rfl (s_r1 (pc := 17) rw_43_17 (A := 0) rfl (by decide) (b_ieq_t (pc := 5) rw_46_5 (A := 0) rfl (by decide) (to_c (pc := 34) rw_46_34 (x := (0 : Int32)) rfl rfl (s_r1 (pc := 35) rw_46_35 (A := 0) rfl (by decide) (b_ine_f (pc := 17) rw_119_17 (A := 0) rfl (by decide) (to_c (pc := 20) rw_119_20 (x := (-1 : Int32)) rfl rfl (to_r0 (pc := 21) rw_119_21 ?_)))))))
          have k_25 : (-1 : Int32).toInt = -1 := rfl
          have b_26 := g_b hG (a := 6) (i := 0) (lo := 0) (hi := 150) rfl rfl
          exact h (-1 : Int32) M hG F0 q2 q3 q4 (by omega) (by omega) (NWc_n (fun a i z => rfl) (by omega))
        · refine to_c (pc := 12) rw_43_12 (x := (1 : Int32)) rfl rfl (to_go (pc := 13) rw_43_13 (s_r1 (pc := 17) rw_43_17 (A := 1) rfl (by decide) (b_ieq_f (pc := 5) rw_46_5 (A := 1) rfl (by decide) (to_an (pc := 8) rw_46_8 rfl (to_in (pc := 9) rw_46_9 rfl (s_v (pc := 10) rw_46_10 (dp1 hd (by decide)) (ls0 := [.ref p, .int f]) rfl (Nat.le_of_ble_eq_true rfl) (Nat.le_of_ble_eq_true rfl) rfl (to_rc rfl rfl rfl (g_o hG (by rcases hp with rfl | rfl <;> rfl))) rfl (to_an (pc := 0) rw_45_0 rfl (s_gR (pc := 1) rw_45_1 hG (by rcases hp with rfl | rfl <;> rfl) (v := (p + 2)) (by rcases hp with rfl | rfl <;> rfl) (to_in (pc := 4) rw_45_4 rfl (s_ial (pc := 5) rw_45_5 hG (by rcases hp with rfl | rfl <;> rfl) (n := 8) (by rcases hp with rfl | rfl <;> rfl) (by rcases hp with rfl | rfl <;> rfl) (A := f.toInt) rfl (by omega) (by omega) (lo := 0) (hi := 3) (by rcases hp with rfl | rfl <;> rfl) (by rcases hp with rfl | rfl <;> rfl) (fun v27 w_28 _ _ => ?_)))))))))))
          have z_29 := PLs_r q5 2 (by decide) (by decide) (k := f.toInt) (by omega) (by omega) w_28
          refine to_c (pc := 6) rw_45_6 (x := (3 : Int32)) rfl rfl (b_cne (pc := 7) rw_45_7 (A := v27.toInt) (B := 3) rfl rfl (fun h30 => ?_) (fun h30 => ?_))
          · refine to_c (pc := 14) rw_45_14 (x := (0 : Int32)) rfl rfl (s_r1 (pc := 15) rw_45_15 (A := 0) rfl (by decide) (b_ine_f (pc := 13) rw_46_13 (A := 0) rfl (by decide) (to_in (pc := 16) rw_46_16 rfl (b_ilt (pc := 17) rw_46_17 (A := v.toInt) rfl (fun h31 => ?_) (fun h31 => ?_)))))
            · refine to_c (pc := 34) rw_46_34 (x := (0 : Int32)) rfl rfl (s_r1 (pc := 35) rw_46_35 (A := 0) rfl (by decide) (b_ine_f (pc := 17) rw_119_17 (A := 0) rfl (by decide) (to_c (pc := 20) rw_119_20 (x := (-1 : Int32)) rfl rfl (to_r0 (pc := 21) rw_119_21 ?_))))
              have k_32 : (-1 : Int32).toInt = -1 := rfl
              have b_33 := g_b hG (a := 6) (i := 0) (lo := 0) (hi := 150) rfl rfl
              exact h (-1 : Int32) M hG F0 q2 q3 q4 (by omega) (by omega) (NWc_n (fun a i z => rfl) (by omega))
            · refine to_in (pc := 20) rw_46_20 rfl (to_an (pc := 21) rw_46_21 rfl (s_gR (pc := 22) rw_46_22 hG (by rcases hp with rfl | rfl <;> rfl) (v := (p + 5)) (by rcases hp with rfl | rfl <;> rfl) (to_in (pc := 25) rw_46_25 rfl (s_ial (pc := 26) rw_46_26 hG (by rcases hp with rfl | rfl <;> rfl) (n := 8) (by rcases hp with rfl | rfl <;> rfl) (by rcases hp with rfl | rfl <;> rfl) (A := f.toInt) rfl (by omega) (by omega) (lo := 0) (hi := 24) (by rcases hp with rfl | rfl <;> rfl) (by rcases hp with rfl | rfl <;> rfl) (fun v34 w_35 _ _ => ?_)))))
              have z_36 := PLs_r q5 5 (by decide) (by decide) (k := f.toInt) (by omega) (by omega) w_35
              refine b_cge (pc := 27) rw_46_27 (A := v.toInt) (B := v34.toInt) rfl rfl (fun h37 => ?_) (fun h37 => ?_)
              · refine to_c (pc := 34) rw_46_34 (x := (0 : Int32)) rfl rfl (s_r1 (pc := 35) rw_46_35 (A := 0) rfl (by decide) (b_ine_f (pc := 17) rw_119_17 (A := 0) rfl (by decide) (to_c (pc := 20) rw_119_20 (x := (-1 : Int32)) rfl rfl (to_r0 (pc := 21) rw_119_21 ?_))))
                have k_38 : (-1 : Int32).toInt = -1 := rfl
                have b_39 := g_b hG (a := 6) (i := 0) (lo := 0) (hi := 150) rfl rfl
                exact h (-1 : Int32) M hG F0 q2 q3 q4 (by omega) (by omega) (NWc_n (fun a i z => rfl) (by omega))
              · refine to_c (pc := 30) rw_46_30 (x := (1 : Int32)) rfl rfl (to_go (pc := 31) rw_46_31 (s_r1 (pc := 35) rw_46_35 (A := 1) rfl (by decide) (b_ine_t (pc := 17) rw_119_17 (A := 1) rfl (by decide) (to_an (pc := 22) rw_119_22 rfl (s_gR (pc := 23) rw_119_23 hG rfl (v := 6) rfl (to_c (pc := 26) rw_119_26 (x := (0 : Int32)) rfl rfl (to_in (pc := 27) rw_119_27 rfl (to_in (pc := 28) rw_119_28 rfl (to_in (pc := 29) rw_119_29 rfl (s_v (pc := 30) rw_119_30 (dp0 hd (by decide)) (ls0 := [.ref 6, .int (0 : Int32), .int c, .int f, .int v]) rfl (Nat.le_of_ble_eq_true rfl) (Nat.le_of_ble_eq_true rfl) rfl (to_rc rfl rfl rfl (g_o hG rfl)) rfl ?_))))))))))
                have k_40 : (0 : Int32).toInt = 0 := rfl
                have b_41 := g_b hG (a := 6) (i := 0) (lo := 0) (hi := 150) rfl rfl
                refine E_20 hX (dp1 hd (by decide)) hG (by omega) (by omega) (by omega) (by omega) (by omega) q2 (k := (0 : Int32)) (f := c) (s := f) (t := v) (fun r42 M49 hG44 F43 p_45 p_46 p_47 p_48 => ?_)
                have F50 := FR.c F0 F43 tg_103
                have b_51 := g_b hG44 (a := 6) (i := 0) (lo := 0) (hi := 150) rfl rfl
                refine to_r0 (pc := 33) rw_119_33 ?_
                have j_52 := (PI_f (tg_96 F43) q3)
                have j_53 := (QI_f (tg_97 F43) q4)
                exact h r42 M49 hG44 F50 p_47 j_52 j_53 (by omega) (by omega) p_48
          · refine to_c (pc := 10) rw_45_10 (x := (1 : Int32)) rfl rfl (to_go (pc := 11) rw_45_11 (s_r1 (pc := 15) rw_45_15 (A := 1) rfl (by decide) (b_ine_t (pc := 13) rw_46_13 (A := 1) rfl (by decide) (to_c (pc := 34) rw_46_34 (x := (0 : Int32)) rfl rfl (s_r1 (pc := 35) rw_46_35 (A := 0) rfl (by decide) (b_ine_f (pc := 17) rw_119_17 (A := 0) rfl (by decide) (to_c (pc := 20) rw_119_20 (x := (-1 : Int32)) rfl rfl (to_r0 (pc := 21) rw_119_21 ?_))))))))
            have k_54 : (-1 : Int32).toInt = -1 := rfl
            have b_55 := g_b hG (a := 6) (i := 0) (lo := 0) (hi := 150) rfl rfl
            exact h (-1 : Int32) M hG F0 q2 q3 q4 (by omega) (by omega) (NWc_n (fun a i z => rfl) (by omega))
set_option maxRecDepth 4000 in
set_option maxHeartbeats 0 in
theorem E_120 {X : mm_X} {d : Nat} {M : mm_M} {Q : Option Value → mm_M → Prop} {c : Int32} {w : Int32} {p : Nat} {pz : Nat} {q : Nat} {qz : Nat} {sg : x_S} (hX : g_X X) (hd : 1 ≤ d) (hG : g_G M) (hp : p = 49 ∨ p = 58) (hpz : pz = 49 ∨ pz = 58) (hq : q = 67 ∨ q = 72) (hqz : qz = 67 ∨ qz = 72) (q1 : g_PQ M p pz q qz) (q2 : NI M) (q3 : PI M) (q4 : QI M) (q5 : PLs M p sg) (h : ∀ (r : Int32) (M1 : mm_M), g_G M1 → FR md_n M M1 → NI M1 → PI M1 → QI M1 → ((0 ≤ c.toInt ∧ c.toInt < (M.2.1 0 12).toInt ∧ 0 ≤ w.toInt ∧ w.toInt < sg.2.2.1) ∧ (M.2.1 6 0).toInt < 150 → r.toInt = (M.2.1 6 0).toInt ∧ (M1.2.1 6 0).toInt = (M.2.1 6 0).toInt + 1) → (¬ ((0 ≤ c.toInt ∧ c.toInt < (M.2.1 0 12).toInt ∧ 0 ≤ w.toInt ∧ w.toInt < sg.2.2.1) ∧ (M.2.1 6 0).toInt < 150) → r.toInt = -1 ∧ (M1.2.1 6 0).toInt = (M.2.1 6 0).toInt) → (NWc M M1 r.toInt (1 : Int32) c w (0 : Int32)) → Q (some (.int r)) M1) : mm_T X d 120 0 [.ref 0, .int c, .int w] [] M Q := by
  have F0 : FR md_n M M := FR.rf
  have z_1 := q5.2.1
  have z_2 := q5.2.2.1
  have z_3 := q5.2.2.2.1
  have z_4 := q5.1
  have z_5 := z_4.1
  have z_6 := z_4.2.1
  have z_7 := z_4.2.2.1
  have z_8 := z_4.2.2.2.1
  have z_9 := z_4.2.2.2.2.1
  have z_10 := z_4.2.2.2.2.2.1
  have b_11 := g_b hG (a := p) (i := 2) (lo := 0) (hi := 8) (by rcases hp with rfl | rfl <;> rfl) (by rcases hp with rfl | rfl <;> rfl)
  have b_12 := g_b hG (a := p) (i := 3) (lo := 0) (hi := 12) (by rcases hp with rfl | rfl <;> rfl) (by rcases hp with rfl | rfl <;> rfl)
  have b_13 := g_b hG (a := p) (i := 0) (lo := 10) (hi := 60) (by rcases hp with rfl | rfl <;> rfl) (by rcases hp with rfl | rfl <;> rfl)
  refine to_an (pc := 0) rw_120_0 rfl (to_in (pc := 1) rw_120_1 rfl (s_v (pc := 2) rw_120_2 (dp0 hd (by decide)) (ls0 := [.ref 0, .int c]) rfl (Nat.le_of_ble_eq_true rfl) (Nat.le_of_ble_eq_true rfl) rfl (to_rc rfl rfl rfl (g_o hG rfl)) rfl (to_in (pc := 0) rw_140_0 rfl (b_ilt (pc := 1) rw_140_1 (A := c.toInt) rfl (fun h14 => ?_) (fun h14 => ?_)))))
  · refine to_c (pc := 16) rw_140_16 (x := (0 : Int32)) rfl rfl (s_r1 (pc := 17) rw_140_17 (A := 0) rfl (by decide) (b_ieq_t (pc := 5) rw_120_5 (A := 0) rfl (by decide) (to_c (pc := 19) rw_120_19 (x := (-1 : Int32)) rfl rfl (to_r0 (pc := 20) rw_120_20 ?_))))
    have k_15 : (-1 : Int32).toInt = -1 := rfl
    have b_16 := g_b hG (a := 6) (i := 0) (lo := 0) (hi := 150) rfl rfl
    exact h (-1 : Int32) M hG F0 q2 q3 q4 (by omega) (by omega) (NWc_n (fun a i z => rfl) (by omega))
  · refine to_in (pc := 4) rw_140_4 rfl (to_an (pc := 5) rw_140_5 rfl ?_)
    have b_17 := g_b hG (a := 0) (i := 12) (lo := 0) (hi := 30) rfl rfl
    refine tt_gI (pc := 6) rw_140_6 (g_o hG rfl) (v := (M.2.1 0 12)) rfl (b_cge (pc := 9) rw_140_9 (A := c.toInt) (B := (M.2.1 0 12).toInt) rfl rfl (fun h18 => ?_) (fun h18 => ?_))
    · refine to_c (pc := 16) rw_140_16 (x := (0 : Int32)) rfl rfl (s_r1 (pc := 17) rw_140_17 (A := 0) rfl (by decide) (b_ieq_t (pc := 5) rw_120_5 (A := 0) rfl (by decide) (to_c (pc := 19) rw_120_19 (x := (-1 : Int32)) rfl rfl (to_r0 (pc := 20) rw_120_20 ?_))))
      have k_19 : (-1 : Int32).toInt = -1 := rfl
      have b_20 := g_b hG (a := 6) (i := 0) (lo := 0) (hi := 150) rfl rfl
      exact h (-1 : Int32) M hG F0 q2 q3 q4 (by omega) (by omega) (NWc_n (fun a i z => rfl) (by omega))
    · refine to_c (pc := 12) rw_140_12 (x := (1 : Int32)) rfl rfl (to_go (pc := 13) rw_140_13 (s_r1 (pc := 17) rw_140_17 (A := 1) rfl (by decide) (b_ieq_f (pc := 5) rw_120_5 (A := 1) rfl (by decide) (to_an (pc := 8) rw_120_8 rfl (tt_gR (pc := 9) rw_120_9 (g_o hG rfl) q1.1 (to_in (pc := 12) rw_120_12 rfl (s_v (pc := 13) rw_120_13 (dp0 hd (by decide)) (ls0 := [.ref p, .int w]) rfl (Nat.le_of_ble_eq_true rfl) (Nat.le_of_ble_eq_true rfl) rfl (to_rc rfl rfl rfl (g_o hG (by rcases hp with rfl | rfl <;> rfl))) rfl (to_in (pc := 0) rw_44_0 rfl (b_ilt (pc := 1) rw_44_1 (A := w.toInt) rfl (fun h21 => ?_) (fun h21 => ?_))))))))))
      · refine to_c (pc := 16) rw_44_16 (x := (0 : Int32)) rfl rfl (s_r1 (pc := 17) rw_44_17 (A := 0) rfl (by decide) (b_ine_f (pc := 16) rw_120_16 (A := 0) rfl (by decide) (to_c (pc := 19) rw_120_19 (x := (-1 : Int32)) rfl rfl (to_r0 (pc := 20) rw_120_20 ?_))))
        have k_22 : (-1 : Int32).toInt = -1 := rfl
        have b_23 := g_b hG (a := 6) (i := 0) (lo := 0) (hi := 150) rfl rfl
        exact h (-1 : Int32) M hG F0 q2 q3 q4 (by omega) (by omega) (NWc_n (fun a i z => rfl) (by omega))
      · refine to_in (pc := 4) rw_44_4 rfl (to_an (pc := 5) rw_44_5 rfl (tt_gI (pc := 6) rw_44_6 (g_o hG (by rcases hp with rfl | rfl <;> rfl)) (v := (M.2.1 p 3)) rfl (b_cge (pc := 9) rw_44_9 (A := w.toInt) (B := (M.2.1 p 3).toInt) rfl rfl (fun h24 => ?_) (fun h24 => ?_))))
        · refine to_c (pc := 16) rw_44_16 (x := (0 : Int32)) rfl rfl (s_r1 (pc := 17) rw_44_17 (A := 0) rfl (by decide) (b_ine_f (pc := 16) rw_120_16 (A := 0) rfl (by decide) (to_c (pc := 19) rw_120_19 (x := (-1 : Int32)) rfl rfl (to_r0 (pc := 20) rw_120_20 ?_))))
          have k_25 : (-1 : Int32).toInt = -1 := rfl
          have b_26 := g_b hG (a := 6) (i := 0) (lo := 0) (hi := 150) rfl rfl
          exact h (-1 : Int32) M hG F0 q2 q3 q4 (by omega) (by omega) (NWc_n (fun a i z => rfl) (by omega))
        · refine to_c (pc := 12) rw_44_12 (x := (1 : Int32)) rfl rfl (to_go (pc := 13) rw_44_13 (s_r1 (pc := 17) rw_44_17 (A := 1) rfl (by decide) (b_ine_t (pc := 16) rw_120_16 (A := 1) rfl (by decide) (to_an (pc := 21) rw_120_21 rfl (s_gR (pc := 22) rw_120_22 hG rfl (v := 6) rfl (to_c (pc := 25) rw_120_25 (x := (1 : Int32)) rfl rfl (to_in (pc := 26) rw_120_26 rfl (to_in (pc := 27) rw_120_27 rfl (to_c (pc := 28) rw_120_28 (x := (0 : Int32)) rfl rfl (s_v (pc := 29) rw_120_29 (dp0 hd (by decide)) (ls0 := [.ref 6, .int (1 : Int32), .int c, .int w, .int (0 : Int32)]) rfl (Nat.le_of_ble_eq_true rfl) (Nat.le_of_ble_eq_true rfl) rfl (to_rc rfl rfl rfl (g_o hG rfl)) rfl ?_))))))))))
          have k_27 : (1 : Int32).toInt = 1 := rfl
          have k_28 : (0 : Int32).toInt = 0 := rfl
          have b_29 := g_b hG (a := 6) (i := 0) (lo := 0) (hi := 150) rfl rfl
          refine E_20 hX (dp1 hd (by decide)) hG (by omega) (by omega) (by omega) (by omega) (by omega) q2 (k := (1 : Int32)) (f := c) (s := w) (t := (0 : Int32)) (fun r30 M37 hG32 F31 p_33 p_34 p_35 p_36 => ?_)
          have F38 := FR.c F0 F31 tg_103
          have b_39 := g_b hG32 (a := 6) (i := 0) (lo := 0) (hi := 150) rfl rfl
          refine to_r0 (pc := 32) rw_120_32 ?_
          have j_40 := (PI_f (tg_96 F31) q3)
          have j_41 := (QI_f (tg_97 F31) q4)
          exact h r30 M37 hG32 F38 p_35 j_40 j_41 (by omega) (by omega) p_36
set_option maxRecDepth 4000 in
set_option maxHeartbeats 0 in
theorem E_121 {X : mm_X} {d : Nat} {M : mm_M} {Q : Option Value → mm_M → Prop} {c : Int32} {e : Int32} {m : Int32} {p : Nat} {pz : Nat} {q : Nat} {qz : Nat} {sg : x_S} (hX : g_X X) (hd : 1 ≤ d) (hG : g_G M) (hp : p = 49 ∨ p = 58) (hpz : pz = 49 ∨ pz = 58) (hq : q = 67 ∨ q = 72) (hqz : qz = 67 ∨ qz = 72) (q1 : g_PQ M p pz q qz) (q2 : 0 ≤ m.toInt) (q3 : m.toInt ≤ 1) (q4 : NI M) (q5 : PI M) (q6 : QI M) (q7 : PLs M p sg) (h : ∀ (r : Int32) (M1 : mm_M), g_G M1 → FR md_n M M1 → NI M1 → PI M1 → QI M1 → ((0 ≤ c.toInt ∧ c.toInt < (M.2.1 0 12).toInt ∧ 0 ≤ e.toInt ∧ e.toInt < sg.1) ∧ (M.2.1 6 0).toInt < 150 → r.toInt = (M.2.1 6 0).toInt ∧ (M1.2.1 6 0).toInt = (M.2.1 6 0).toInt + 1) → (¬ ((0 ≤ c.toInt ∧ c.toInt < (M.2.1 0 12).toInt ∧ 0 ≤ e.toInt ∧ e.toInt < sg.1) ∧ (M.2.1 6 0).toInt < 150) → r.toInt = -1 ∧ (M1.2.1 6 0).toInt = (M.2.1 6 0).toInt) → (NWc M M1 r.toInt (x_tk m) c e (0 : Int32)) → Q (some (.int r)) M1) : mm_T X d 121 0 [.ref 0, .int c, .int e, .int m] [] M Q := by
  have F0 : FR md_n M M := FR.rf
  have z_1 := q7.2.1
  have z_2 := q7.2.2.1
  have z_3 := q7.2.2.2.1
  have z_4 := q7.1
  have z_5 := z_4.1
  have z_6 := z_4.2.1
  have z_7 := z_4.2.2.1
  have z_8 := z_4.2.2.2.1
  have z_9 := z_4.2.2.2.2.1
  have z_10 := z_4.2.2.2.2.2.1
  have b_11 := g_b hG (a := p) (i := 2) (lo := 0) (hi := 8) (by rcases hp with rfl | rfl <;> rfl) (by rcases hp with rfl | rfl <;> rfl)
  have b_12 := g_b hG (a := p) (i := 3) (lo := 0) (hi := 12) (by rcases hp with rfl | rfl <;> rfl) (by rcases hp with rfl | rfl <;> rfl)
  have b_13 := g_b hG (a := p) (i := 0) (lo := 10) (hi := 60) (by rcases hp with rfl | rfl <;> rfl) (by rcases hp with rfl | rfl <;> rfl)
  refine to_an (pc := 0) rw_121_0 rfl (to_in (pc := 1) rw_121_1 rfl (s_v (pc := 2) rw_121_2 (dp0 hd (by decide)) (ls0 := [.ref 0, .int c]) rfl (Nat.le_of_ble_eq_true rfl) (Nat.le_of_ble_eq_true rfl) rfl (to_rc rfl rfl rfl (g_o hG rfl)) rfl (to_in (pc := 0) rw_140_0 rfl (b_ilt (pc := 1) rw_140_1 (A := c.toInt) rfl (fun h14 => ?_) (fun h14 => ?_)))))
  · refine to_c (pc := 16) rw_140_16 (x := (0 : Int32)) rfl rfl (s_r1 (pc := 17) rw_140_17 (A := 0) rfl (by decide) (b_ieq_t (pc := 5) rw_121_5 (A := 0) rfl (by decide) (to_c (pc := 23) rw_121_23 (x := (-1 : Int32)) rfl rfl (to_r0 (pc := 24) rw_121_24 ?_))))
    have k_15 : (-1 : Int32).toInt = -1 := rfl
    have b_16 := g_b hG (a := 6) (i := 0) (lo := 0) (hi := 150) rfl rfl
    exact h (-1 : Int32) M hG F0 q4 q5 q6 (by omega) (by omega) (NWc_n (fun a i z => rfl) (by omega))
  · refine to_in (pc := 4) rw_140_4 rfl (to_an (pc := 5) rw_140_5 rfl ?_)
    have b_17 := g_b hG (a := 0) (i := 12) (lo := 0) (hi := 30) rfl rfl
    refine tt_gI (pc := 6) rw_140_6 (g_o hG rfl) (v := (M.2.1 0 12)) rfl (b_cge (pc := 9) rw_140_9 (A := c.toInt) (B := (M.2.1 0 12).toInt) rfl rfl (fun h18 => ?_) (fun h18 => ?_))
    · refine to_c (pc := 16) rw_140_16 (x := (0 : Int32)) rfl rfl (s_r1 (pc := 17) rw_140_17 (A := 0) rfl (by decide) (b_ieq_t (pc := 5) rw_121_5 (A := 0) rfl (by decide) (to_c (pc := 23) rw_121_23 (x := (-1 : Int32)) rfl rfl (to_r0 (pc := 24) rw_121_24 ?_))))
      have k_19 : (-1 : Int32).toInt = -1 := rfl
      have b_20 := g_b hG (a := 6) (i := 0) (lo := 0) (hi := 150) rfl rfl
      exact h (-1 : Int32) M hG F0 q4 q5 q6 (by omega) (by omega) (NWc_n (fun a i z => rfl) (by omega))
    · refine to_c (pc := 12) rw_140_12 (x := (1 : Int32)) rfl rfl (to_go (pc := 13) rw_140_13 (s_r1 (pc := 17) rw_140_17 (A := 1) rfl (by decide) (b_ieq_f (pc := 5) rw_121_5 (A := 1) rfl (by decide) (to_in (pc := 8) rw_121_8 rfl (b_ilt (pc := 9) rw_121_9 (A := e.toInt) rfl (fun h21 => ?_) (fun h21 => ?_))))))
      · refine to_c (pc := 23) rw_121_23 (x := (-1 : Int32)) rfl rfl (to_r0 (pc := 24) rw_121_24 ?_)
        have k_22 : (-1 : Int32).toInt = -1 := rfl
        have b_23 := g_b hG (a := 6) (i := 0) (lo := 0) (hi := 150) rfl rfl
        exact h (-1 : Int32) M hG F0 q4 q5 q6 (by omega) (by omega) (NWc_n (fun a i z => rfl) (by omega))
      · refine to_in (pc := 12) rw_121_12 rfl (to_an (pc := 13) rw_121_13 rfl (tt_gR (pc := 14) rw_121_14 (g_o hG rfl) q1.1 (tt_gI (pc := 17) rw_121_17 (g_o hG (by rcases hp with rfl | rfl <;> rfl)) (v := (M.2.1 p 0)) rfl (b_clt (pc := 20) rw_121_20 (A := e.toInt) (B := (M.2.1 p 0).toInt) rfl rfl (fun h24 => ?_) (fun h24 => ?_)))))
        · refine to_an (pc := 25) rw_121_25 rfl (s_gR (pc := 26) rw_121_26 hG rfl (v := 6) rfl (to_in (pc := 29) rw_121_29 rfl (b_ieq (pc := 30) rw_121_30 (A := m.toInt) rfl (fun h25 => ?_) (fun h25 => ?_))))
          · refine to_c (pc := 37) rw_121_37 (x := (2 : Int32)) rfl rfl (to_in (pc := 38) rw_121_38 rfl (to_in (pc := 39) rw_121_39 rfl (to_c (pc := 40) rw_121_40 (x := (0 : Int32)) rfl rfl (s_v (pc := 41) rw_121_41 (dp0 hd (by decide)) (ls0 := [.ref 6, .int (2 : Int32), .int c, .int e, .int (0 : Int32)]) rfl (Nat.le_of_ble_eq_true rfl) (Nat.le_of_ble_eq_true rfl) rfl (to_rc rfl rfl rfl (g_o hG rfl)) rfl ?_))))
            have k_26 : (2 : Int32).toInt = 2 := rfl
            have k_27 : (0 : Int32).toInt = 0 := rfl
            have b_28 := g_b hG (a := 6) (i := 0) (lo := 0) (hi := 150) rfl rfl
            refine E_20 hX (dp1 hd (by decide)) hG (by omega) (by omega) (by omega) (by omega) (by omega) q4 (k := (2 : Int32)) (f := c) (s := e) (t := (0 : Int32)) (fun r29 M36 hG31 F30 p_32 p_33 p_34 p_35 => ?_)
            have F37 := FR.c F0 F30 tg_103
            have b_38 := g_b hG31 (a := 6) (i := 0) (lo := 0) (hi := 150) rfl rfl
            refine to_r0 (pc := 44) rw_121_44 ?_
            have j_39 := (PI_f (tg_96 F30) q5)
            have j_40 := (QI_f (tg_97 F30) q6)
            exact h r29 M36 hG31 F37 p_34 j_39 j_40 (by omega) (by omega) (by rw [x_tk_0 (by omega)]; exact p_35)
          · refine to_c (pc := 33) rw_121_33 (x := (3 : Int32)) rfl rfl (to_go (pc := 34) rw_121_34 (to_in (pc := 38) rw_121_38 rfl (to_in (pc := 39) rw_121_39 rfl (to_c (pc := 40) rw_121_40 (x := (0 : Int32)) rfl rfl (s_v (pc := 41) rw_121_41 (dp0 hd (by decide)) (ls0 := [.ref 6, .int (3 : Int32), .int c, .int e, .int (0 : Int32)]) rfl (Nat.le_of_ble_eq_true rfl) (Nat.le_of_ble_eq_true rfl) rfl (to_rc rfl rfl rfl (g_o hG rfl)) rfl ?_)))))
            have k_41 : (3 : Int32).toInt = 3 := rfl
            have k_42 : (0 : Int32).toInt = 0 := rfl
            have b_43 := g_b hG (a := 6) (i := 0) (lo := 0) (hi := 150) rfl rfl
            refine E_20 hX (dp1 hd (by decide)) hG (by omega) (by omega) (by omega) (by omega) (by omega) q4 (k := (3 : Int32)) (f := c) (s := e) (t := (0 : Int32)) (fun r44 M51 hG46 F45 p_47 p_48 p_49 p_50 => ?_)
            have F52 := FR.c F0 F45 tg_103
            have b_53 := g_b hG46 (a := 6) (i := 0) (lo := 0) (hi := 150) rfl rfl
            refine to_r0 (pc := 44) rw_121_44 ?_
            have j_54 := (PI_f (tg_96 F45) q5)
            have j_55 := (QI_f (tg_97 F45) q6)
            exact h r44 M51 hG46 F52 p_49 j_54 j_55 (by omega) (by omega) (by rw [x_tk_1 (by omega)]; exact p_50)
        · refine to_c (pc := 23) rw_121_23 (x := (-1 : Int32)) rfl rfl (to_r0 (pc := 24) rw_121_24 ?_)
          have k_56 : (-1 : Int32).toInt = -1 := rfl
          have b_57 := g_b hG (a := 6) (i := 0) (lo := 0) (hi := 150) rfl rfl
          exact h (-1 : Int32) M hG F0 q4 q5 q6 (by omega) (by omega) (NWc_n (fun a i z => rfl) (by omega))
set_option maxRecDepth 4000 in
set_option maxHeartbeats 0 in
theorem E_122 {X : mm_X} {d : Nat} {M : mm_M} {Q : Option Value → mm_M → Prop} {w : Int32} {b : Int32} {p : Nat} {pz : Nat} {q : Nat} {qz : Nat} {sg : x_S} (hX : g_X X) (hd : 3 ≤ d) (hG : g_G M) (hp : p = 49 ∨ p = 58) (hpz : pz = 49 ∨ pz = 58) (hq : q = 67 ∨ q = 72) (hqz : qz = 67 ∨ qz = 72) (q1 : g_PQ M p pz q qz) (q2 : NI M) (q3 : PI M) (q4 : QI M) (q5 : PLs M p sg) (h : ∀ (r : Int32) (M1 : mm_M), g_G M1 → FR md_n M M1 → NI M1 → PI M1 → QI M1 → ((0 ≤ w.toInt ∧ w.toInt < sg.2.2.1 ∧ 0 ≤ b.toInt ∧ x_shz b.toInt (x_row sg 4 (x_row sg 7 w.toInt) - x_row sg 3 (x_row sg 7 w.toInt) + 1) = 0 ∧ ((x_ct (b.toInt).toNat 62 : Nat) : Int) = x_row sg 5 (x_row sg 7 w.toInt)) ∧ (M.2.1 6 0).toInt < 150 → r.toInt = (M.2.1 6 0).toInt ∧ (M1.2.1 6 0).toInt = (M.2.1 6 0).toInt + 1) → (¬ ((0 ≤ w.toInt ∧ w.toInt < sg.2.2.1 ∧ 0 ≤ b.toInt ∧ x_shz b.toInt (x_row sg 4 (x_row sg 7 w.toInt) - x_row sg 3 (x_row sg 7 w.toInt) + 1) = 0 ∧ ((x_ct (b.toInt).toNat 62 : Nat) : Int) = x_row sg 5 (x_row sg 7 w.toInt)) ∧ (M.2.1 6 0).toInt < 150) → r.toInt = -1 ∧ (M1.2.1 6 0).toInt = (M.2.1 6 0).toInt) → (NWc M M1 r.toInt (4 : Int32) w b (0 : Int32)) → Q (some (.int r)) M1) : mm_T X d 122 0 [.ref 0, .int w, .int b] [] M Q := by
  have F0 : FR md_n M M := FR.rf
  have z_1 := q5.2.1
  have z_2 := q5.2.2.1
  have z_3 := q5.2.2.2.1
  have z_4 := q5.1
  have z_5 := z_4.1
  have z_6 := z_4.2.1
  have z_7 := z_4.2.2.1
  have z_8 := z_4.2.2.2.1
  have z_9 := z_4.2.2.2.2.1
  have z_10 := z_4.2.2.2.2.2.1
  have b_11 := g_b hG (a := p) (i := 2) (lo := 0) (hi := 8) (by rcases hp with rfl | rfl <;> rfl) (by rcases hp with rfl | rfl <;> rfl)
  have b_12 := g_b hG (a := p) (i := 3) (lo := 0) (hi := 12) (by rcases hp with rfl | rfl <;> rfl) (by rcases hp with rfl | rfl <;> rfl)
  refine to_an (pc := 0) rw_122_0 rfl (tt_gR (pc := 1) rw_122_1 (g_o hG rfl) q1.1 (to_in (pc := 4) rw_122_4 rfl (s_v (pc := 5) rw_122_5 (dp0 hd (by decide)) (ls0 := [.ref p, .int w]) rfl (Nat.le_of_ble_eq_true rfl) (Nat.le_of_ble_eq_true rfl) rfl (to_rc rfl rfl rfl (g_o hG (by rcases hp with rfl | rfl <;> rfl))) rfl (to_in (pc := 0) rw_44_0 rfl (b_ilt (pc := 1) rw_44_1 (A := w.toInt) rfl (fun h13 => ?_) (fun h13 => ?_))))))
  · refine to_c (pc := 16) rw_44_16 (x := (0 : Int32)) rfl rfl (s_r1 (pc := 17) rw_44_17 (A := 0) rfl (by decide) (b_ieq_t (pc := 8) rw_122_8 (A := 0) rfl (by decide) (to_c (pc := 23) rw_122_23 (x := (-1 : Int32)) rfl rfl (to_r0 (pc := 24) rw_122_24 ?_))))
    have k_14 : (-1 : Int32).toInt = -1 := rfl
    have b_15 := g_b hG (a := 6) (i := 0) (lo := 0) (hi := 150) rfl rfl
    exact h (-1 : Int32) M hG F0 q2 q3 q4 (by omega) (by omega) (NWc_n (fun a i z => rfl) (by omega))
  · refine to_in (pc := 4) rw_44_4 rfl (to_an (pc := 5) rw_44_5 rfl (tt_gI (pc := 6) rw_44_6 (g_o hG (by rcases hp with rfl | rfl <;> rfl)) (v := (M.2.1 p 3)) rfl (b_cge (pc := 9) rw_44_9 (A := w.toInt) (B := (M.2.1 p 3).toInt) rfl rfl (fun h16 => ?_) (fun h16 => ?_))))
    · refine to_c (pc := 16) rw_44_16 (x := (0 : Int32)) rfl rfl (s_r1 (pc := 17) rw_44_17 (A := 0) rfl (by decide) (b_ieq_t (pc := 8) rw_122_8 (A := 0) rfl (by decide) (to_c (pc := 23) rw_122_23 (x := (-1 : Int32)) rfl rfl (to_r0 (pc := 24) rw_122_24 ?_))))
      have k_17 : (-1 : Int32).toInt = -1 := rfl
      have b_18 := g_b hG (a := 6) (i := 0) (lo := 0) (hi := 150) rfl rfl
      exact h (-1 : Int32) M hG F0 q2 q3 q4 (by omega) (by omega) (NWc_n (fun a i z => rfl) (by omega))
    · refine to_c (pc := 12) rw_44_12 (x := (1 : Int32)) rfl rfl (to_go (pc := 13) rw_44_13 (s_r1 (pc := 17) rw_44_17 (A := 1) rfl (by decide) (b_ieq_f (pc := 8) rw_122_8 (A := 1) rfl (by decide) (to_an (pc := 11) rw_122_11 rfl (tt_gR (pc := 12) rw_122_12 (g_o hG rfl) q1.1 (to_in (pc := 15) rw_122_15 rfl (to_in (pc := 16) rw_122_16 rfl (s_v (pc := 17) rw_122_17 (dp0 hd (by decide)) (ls0 := [.ref p, .int w, .int b, .null]) rfl (Nat.le_of_ble_eq_true rfl) (Nat.le_of_ble_eq_true rfl) rfl (to_rc rfl rfl rfl (g_o hG (by rcases hp with rfl | rfl <;> rfl))) rfl (to_an (pc := 0) rw_50_0 rfl (s_gR (pc := 1) rw_50_1 hG (by rcases hp with rfl | rfl <;> rfl) (v := (p + 7)) (by rcases hp with rfl | rfl <;> rfl) (to_in (pc := 4) rw_50_4 rfl ?_)))))))))))
      refine s_ial (pc := 5) rw_50_5 hG (by rcases hp with rfl | rfl <;> rfl) (n := 12) (by rcases hp with rfl | rfl <;> rfl) (by rcases hp with rfl | rfl <;> rfl) (A := w.toInt) rfl (by omega) (by omega) (lo := 0) (hi := 7) (by rcases hp with rfl | rfl <;> rfl) (by rcases hp with rfl | rfl <;> rfl) (fun v19 w_20 _ _ => ?_)
      have z_21 := PLs_v q5 7 (by decide) (by decide) (k := w.toInt) (by omega) (by omega) w_20
      have z_22 := q5.1.2.2.2.2.2.2.1 w.toInt (by omega) (by omega)
      refine to_isn (pc := 6) rw_50_6 (ls2 := [.ref p, .int w, .int b, .int v19]) rfl rfl (to_in (pc := 7) rw_50_7 rfl (b_ilt (pc := 8) rw_50_8 (A := b.toInt) rfl (fun h23 => ?_) (fun h23 => ?_)))
      · refine to_c (pc := 38) rw_50_38 (x := (0 : Int32)) rfl rfl (s_r1 (pc := 39) rw_50_39 (A := 0) rfl (by decide) (b_ine_f (pc := 20) rw_122_20 (A := 0) rfl (by decide) (to_c (pc := 23) rw_122_23 (x := (-1 : Int32)) rfl rfl (to_r0 (pc := 24) rw_122_24 ?_))))
        have k_24 : (-1 : Int32).toInt = -1 := rfl
        have b_25 := g_b hG (a := 6) (i := 0) (lo := 0) (hi := 150) rfl rfl
        exact h (-1 : Int32) M hG F0 q2 q3 q4 (by omega) (by omega) (NWc_n (fun a i z => rfl) (by omega))
      · refine to_in (pc := 11) rw_50_11 rfl (to_an (pc := 12) rw_50_12 rfl (to_in (pc := 13) rw_50_13 rfl (s_v (pc := 14) rw_50_14 (dp1 hd (by decide)) (ls0 := [.ref p, .int v19]) rfl (Nat.le_of_ble_eq_true rfl) (Nat.le_of_ble_eq_true rfl) rfl (to_rc rfl rfl rfl (g_o hG (by rcases hp with rfl | rfl <;> rfl))) rfl (to_an (pc := 0) rw_47_0 rfl (s_gR (pc := 1) rw_47_1 hG (by rcases hp with rfl | rfl <;> rfl) (v := (p + 4)) (by rcases hp with rfl | rfl <;> rfl) (to_in (pc := 4) rw_47_4 rfl (s_ial (pc := 5) rw_47_5 hG (by rcases hp with rfl | rfl <;> rfl) (n := 8) (by rcases hp with rfl | rfl <;> rfl) (by rcases hp with rfl | rfl <;> rfl) (A := v19.toInt) rfl (by omega) (by omega) (lo := 0) (hi := 63) (by rcases hp with rfl | rfl <;> rfl) (by rcases hp with rfl | rfl <;> rfl) (fun v26 w_27 _ _ => ?_))))))))
        have z_28 := PLs_r q5 4 (by decide) (by decide) (k := v19.toInt) (by omega) (by omega) w_27
        have z_29 := x_row_v (s := sg) (r := 4) (x := v19.toInt) (y := x_row sg 7 w.toInt) (by omega)
        have z_30 := q5.1.2.2.2.2.2.2.2 (x_row sg 7 w.toInt) (by omega) (by omega)
        refine to_an (pc := 6) rw_47_6 rfl (s_gR (pc := 7) rw_47_7 hG (by rcases hp with rfl | rfl <;> rfl) (v := (p + 3)) (by rcases hp with rfl | rfl <;> rfl) (to_in (pc := 10) rw_47_10 rfl (s_ial (pc := 11) rw_47_11 hG (by rcases hp with rfl | rfl <;> rfl) (n := 8) (by rcases hp with rfl | rfl <;> rfl) (by rcases hp with rfl | rfl <;> rfl) (A := v19.toInt) rfl (by omega) (by omega) (lo := 0) (hi := 59) (by rcases hp with rfl | rfl <;> rfl) (by rcases hp with rfl | rfl <;> rfl) (fun v31 w_32 _ _ => ?_))))
        have z_33 := PLs_r q5 3 (by decide) (by decide) (k := v19.toInt) (by omega) (by omega) w_32
        have z_34 := x_row_v (s := sg) (r := 3) (x := v19.toInt) (y := x_row sg 7 w.toInt) (by omega)
        refine s_sub (pc := 12) rw_47_12 (A := v26.toInt) (B := v31.toInt) rfl rfl (by omega) (fun v35 e36 => to_c (pc := 13) rw_47_13 (x := (1 : Int32)) rfl rfl (s_add (pc := 14) rw_47_14 (A := v35.toInt) (B := 1) rfl rfl (by omega) (fun v37 e38 => to_r0 (pc := 15) rw_47_15 (s_opE (pc := 17) rw_50_17 (w := b >>> v37) rfl (fun v39 e40 => ?_)))))
        have z_41 := x_shz_e (k := (x_row sg 4 (x_row sg 7 w.toInt) - x_row sg 3 (x_row sg 7 w.toInt) + 1)) (by omega) e40
        have z_42 := fun h9 => x_shz_0 (b := b) (k := (x_row sg 4 (x_row sg 7 w.toInt) - x_row sg 3 (x_row sg 7 w.toInt) + 1)) (by omega) (by omega) (by omega) h9
        refine b_ine (pc := 18) rw_50_18 (A := v39.toInt) rfl (fun h43 => ?_) (fun h43 => ?_)
        · refine to_c (pc := 38) rw_50_38 (x := (0 : Int32)) rfl rfl (s_r1 (pc := 39) rw_50_39 (A := 0) rfl (by decide) (b_ine_f (pc := 20) rw_122_20 (A := 0) rfl (by decide) (to_c (pc := 23) rw_122_23 (x := (-1 : Int32)) rfl rfl (to_r0 (pc := 24) rw_122_24 ?_))))
          have k_44 : (-1 : Int32).toInt = -1 := rfl
          have b_45 := g_b hG (a := 6) (i := 0) (lo := 0) (hi := 150) rfl rfl
          exact h (-1 : Int32) M hG F0 q2 q3 q4 (by omega) (by omega) (NWc_n (fun a i z => rfl) (by omega))
        · refine to_in (pc := 21) rw_50_21 rfl (s_s (pc := 22) rw_50_22 (dp1 hd (by decide)) (ls0 := [.int b]) rfl (Nat.le_of_ble_eq_true rfl) (Nat.le_of_ble_eq_true rfl) rfl (to_rcs rfl rfl) rfl (E_247 hX (dp2 hd (by decide)) hG (by omega) (by omega) (x := b) (fun r46 M50 hG48 F47 p_49 => ?_)))
          have F51 := FR.c F0 F47 tg_104
          refine to_an (pc := 25) rw_50_25 rfl (s_gR (pc := 26) rw_50_26 hG48 (by rcases hp with rfl | rfl <;> rfl) (v := (p + 5)) (by rcases hp with rfl | rfl <;> rfl) (to_in (pc := 29) rw_50_29 rfl (s_ial (pc := 30) rw_50_30 hG48 (by rcases hp with rfl | rfl <;> rfl) (n := 8) (by rcases hp with rfl | rfl <;> rfl) (by rcases hp with rfl | rfl <;> rfl) (A := v19.toInt) rfl (by omega) (by omega) (lo := 0) (hi := 24) (by rcases hp with rfl | rfl <;> rfl) (by rcases hp with rfl | rfl <;> rfl) (fun v52 w_53 _ _ => ?_))))
          have j_54 := (PLs_f (fun a i z => F_n F47 (show ¬ (a < 0) by omega) rfl) q5)
          have z_55 := PLs_r j_54 5 (by decide) (by decide) (k := v19.toInt) (by omega) (by omega) w_53
          have z_56 := x_row_v (s := sg) (r := 5) (x := v19.toInt) (y := x_row sg 7 w.toInt) (by omega)
          refine b_cne (pc := 31) rw_50_31 (A := r46.toInt) (B := v52.toInt) rfl rfl (fun h57 => ?_) (fun h57 => ?_)
          · refine to_c (pc := 38) rw_50_38 (x := (0 : Int32)) rfl rfl (s_r1 (pc := 39) rw_50_39 (A := 0) rfl (by decide) (b_ine_f (pc := 20) rw_122_20 (A := 0) rfl (by decide) (to_c (pc := 23) rw_122_23 (x := (-1 : Int32)) rfl rfl (to_r0 (pc := 24) rw_122_24 ?_))))
            have k_58 : (-1 : Int32).toInt = -1 := rfl
            have j_59 := (NI_f (tg_98 F47) q2)
            have j_60 := (PI_f (tg_99 F47) q3)
            have j_61 := (QI_f (tg_100 F47) q4)
            have c_62 : M50.2.1 6 0 = (M.2.1 6 0) := (F_n F47 (show ¬ (6 < 0) by decide) rfl)
            have b_63 := g_b hG (a := 6) (i := 0) (lo := 0) (hi := 150) rfl rfl
            have t_64 : (M50.2.1 6 0).toInt = (M.2.1 6 0).toInt := congrArg Int32.toInt c_62
            exact h (-1 : Int32) M50 hG48 F51 j_59 j_60 j_61 (by omega) (by omega) (NWc_n (fun a i z => (F_n F47 (show ¬ (a < 0) by omega) rfl)) (by omega))
          · refine to_c (pc := 34) rw_50_34 (x := (1 : Int32)) rfl rfl (to_go (pc := 35) rw_50_35 (s_r1 (pc := 39) rw_50_39 (A := 1) rfl (by decide) (b_ine_t (pc := 20) rw_122_20 (A := 1) rfl (by decide) (to_an (pc := 25) rw_122_25 rfl (s_gR (pc := 26) rw_122_26 hG48 rfl (v := 6) rfl (to_c (pc := 29) rw_122_29 (x := (4 : Int32)) rfl rfl (to_in (pc := 30) rw_122_30 rfl (to_in (pc := 31) rw_122_31 rfl (to_c (pc := 32) rw_122_32 (x := (0 : Int32)) rfl rfl (s_v (pc := 33) rw_122_33 (dp0 hd (by decide)) (ls0 := [.ref 6, .int (4 : Int32), .int w, .int b, .int (0 : Int32)]) rfl (Nat.le_of_ble_eq_true rfl) (Nat.le_of_ble_eq_true rfl) rfl (to_rc rfl rfl rfl (g_o hG48 rfl)) rfl ?_))))))))))
            have k_65 : (4 : Int32).toInt = 4 := rfl
            have k_66 : (0 : Int32).toInt = 0 := rfl
            have c_67 : M50.2.1 6 0 = (M.2.1 6 0) := (F_n F47 (show ¬ (6 < 0) by decide) rfl)
            have b_68 := g_b hG (a := 6) (i := 0) (lo := 0) (hi := 150) rfl rfl
            have t_69 : (M50.2.1 6 0).toInt = (M.2.1 6 0).toInt := congrArg Int32.toInt c_67
            have j_70 := (NI_f (tg_98 F47) q2)
            refine E_20 hX (dp1 hd (by decide)) hG48 (by omega) (by omega) (by omega) (by omega) (by omega) j_70 (k := (4 : Int32)) (f := w) (s := b) (t := (0 : Int32)) (fun r71 M78 hG73 F72 p_74 p_75 p_76 p_77 => ?_)
            have F79 := FR.c F51 F72 tg_103
            have b_80 := g_b hG73 (a := 6) (i := 0) (lo := 0) (hi := 150) rfl rfl
            refine to_r0 (pc := 36) rw_122_36 ?_
            have j_81 := (PI_f (tg_96 F72) (PI_f (tg_99 F47) q3))
            have j_82 := (QI_f (tg_97 F72) (QI_f (tg_100 F47) q4))
            exact h r71 M78 hG73 F79 p_76 j_81 j_82 (by omega) (by omega) (NWc_o (fun a i z => (F_n F47 (show ¬ (a < 0) by omega) rfl)) p_77)
set_option maxRecDepth 4000 in
set_option maxHeartbeats 0 in
theorem E_123 {X : mm_X} {d : Nat} {M : mm_M} {Q : Option Value → mm_M → Prop} {n : Int32} {p : Nat} {pz : Nat} {q : Nat} {qz : Nat} {sg : x_S} (hX : g_X X) (hd : 1 ≤ d) (hG : g_G M) (hp : p = 49 ∨ p = 58) (hpz : pz = 49 ∨ pz = 58) (hq : q = 67 ∨ q = 72) (hqz : qz = 67 ∨ qz = 72) (q1 : g_PQ M p pz q qz) (q2 : NI M) (q3 : PI M) (q4 : QI M) (q5 : PLs M p sg) (h : ∀ (r : Int32) (M1 : mm_M), g_G M1 → FR md_n M M1 → NI M1 → PI M1 → QI M1 → ((0 ≤ n.toInt ∧ n.toInt < (M.2.1 6 0).toInt) ∧ (M.2.1 6 0).toInt < 150 → r.toInt = (M.2.1 6 0).toInt ∧ (M1.2.1 6 0).toInt = (M.2.1 6 0).toInt + 1) → (¬ ((0 ≤ n.toInt ∧ n.toInt < (M.2.1 6 0).toInt) ∧ (M.2.1 6 0).toInt < 150) → r.toInt = -1 ∧ (M1.2.1 6 0).toInt = (M.2.1 6 0).toInt) → (NWc M M1 r.toInt (5 : Int32) n (0 : Int32) (0 : Int32)) → Q (some (.int r)) M1) : mm_T X d 123 0 [.ref 0, .int n] [] M Q := by
  have F0 : FR md_n M M := FR.rf
  have z_1 := q5.2.1
  have z_2 := q5.2.2.1
  have z_3 := q5.2.2.2.1
  have z_4 := q5.1
  have z_5 := z_4.1
  have z_6 := z_4.2.1
  have z_7 := z_4.2.2.1
  have z_8 := z_4.2.2.2.1
  have z_9 := z_4.2.2.2.2.1
  have z_10 := z_4.2.2.2.2.2.1
  have b_11 := g_b hG (a := p) (i := 2) (lo := 0) (hi := 8) (by rcases hp with rfl | rfl <;> rfl) (by rcases hp with rfl | rfl <;> rfl)
  have b_12 := g_b hG (a := p) (i := 3) (lo := 0) (hi := 12) (by rcases hp with rfl | rfl <;> rfl) (by rcases hp with rfl | rfl <;> rfl)
  have b_13 := g_b hG (a := p) (i := 0) (lo := 10) (hi := 60) (by rcases hp with rfl | rfl <;> rfl) (by rcases hp with rfl | rfl <;> rfl)
  refine to_in (pc := 0) rw_123_0 rfl (b_ilt (pc := 1) rw_123_1 (A := n.toInt) rfl (fun h14 => ?_) (fun h14 => ?_))
  · refine to_c (pc := 15) rw_123_15 (x := (-1 : Int32)) rfl rfl (to_r0 (pc := 16) rw_123_16 ?_)
    have k_15 : (-1 : Int32).toInt = -1 := rfl
    have b_16 := g_b hG (a := 6) (i := 0) (lo := 0) (hi := 150) rfl rfl
    exact h (-1 : Int32) M hG F0 q2 q3 q4 (by omega) (by omega) (NWc_n (fun a i z => rfl) (by omega))
  · refine to_in (pc := 4) rw_123_4 rfl (to_an (pc := 5) rw_123_5 rfl (s_gR (pc := 6) rw_123_6 hG rfl (v := 6) rfl ?_))
    have b_17 := g_b hG (a := 6) (i := 0) (lo := 0) (hi := 150) rfl rfl
    refine tt_gI (pc := 9) rw_123_9 (g_o hG rfl) (v := (M.2.1 6 0)) rfl (b_clt (pc := 12) rw_123_12 (A := n.toInt) (B := (M.2.1 6 0).toInt) rfl rfl (fun h18 => ?_) (fun h18 => ?_))
    · refine to_an (pc := 17) rw_123_17 rfl (s_gR (pc := 18) rw_123_18 hG rfl (v := 6) rfl (to_c (pc := 21) rw_123_21 (x := (5 : Int32)) rfl rfl (to_in (pc := 22) rw_123_22 rfl (to_c (pc := 23) rw_123_23 (x := (0 : Int32)) rfl rfl (to_c (pc := 24) rw_123_24 (x := (0 : Int32)) rfl rfl (s_v (pc := 25) rw_123_25 (dp0 hd (by decide)) (ls0 := [.ref 6, .int (5 : Int32), .int n, .int (0 : Int32), .int (0 : Int32)]) rfl (Nat.le_of_ble_eq_true rfl) (Nat.le_of_ble_eq_true rfl) rfl (to_rc rfl rfl rfl (g_o hG rfl)) rfl ?_))))))
      have k_19 : (5 : Int32).toInt = 5 := rfl
      have k_20 : (0 : Int32).toInt = 0 := rfl
      refine E_20 hX (dp1 hd (by decide)) hG (by omega) (by omega) (by omega) (by omega) (by omega) q2 (k := (5 : Int32)) (f := n) (s := (0 : Int32)) (t := (0 : Int32)) (fun r21 M28 hG23 F22 p_24 p_25 p_26 p_27 => ?_)
      have F29 := FR.c F0 F22 tg_103
      have b_30 := g_b hG23 (a := 6) (i := 0) (lo := 0) (hi := 150) rfl rfl
      refine to_r0 (pc := 28) rw_123_28 ?_
      have j_31 := (PI_f (tg_96 F22) q3)
      have j_32 := (QI_f (tg_97 F22) q4)
      exact h r21 M28 hG23 F29 p_26 j_31 j_32 (by omega) (by omega) p_27
    · refine to_c (pc := 15) rw_123_15 (x := (-1 : Int32)) rfl rfl (to_r0 (pc := 16) rw_123_16 ?_)
      have k_33 : (-1 : Int32).toInt = -1 := rfl
      exact h (-1 : Int32) M hG F0 q2 q3 q4 (by omega) (by omega) (NWc_n (fun a i z => rfl) (by omega))
set_option maxRecDepth 4000 in
set_option maxHeartbeats 0 in
theorem E_194 {X : mm_X} {d : Nat} {M : mm_M} {Q : Option Value → mm_M → Prop} {c : Int32} {f : Int32} {v : Int32} {sg : x_S} (hX : g_X X) (hd : 3 ≤ d) (hG : g_G M) (q1 : NJ M) (q2 : FA M) (q3 : PLk M sg) (h : ∀ (r : Int32) (M1 : mm_M), g_G M1 → FR md_t2 M M1 → NJ M1 → ((0 ≤ c.toInt ∧ c.toInt < (M.2.1 77 28).toInt ∧ 0 ≤ f.toInt ∧ f.toInt < sg.2.1 ∧ ¬ x_row sg 2 f.toInt = 3 ∧ 0 ≤ v.toInt ∧ v.toInt < x_row sg 5 f.toInt) ∧ (M.2.1 77 29).toInt < 150 → r.toInt = (M.2.1 77 29).toInt ∧ (M1.2.1 77 29).toInt = (M.2.1 77 29).toInt + 1) → (¬ ((0 ≤ c.toInt ∧ c.toInt < (M.2.1 77 28).toInt ∧ 0 ≤ f.toInt ∧ f.toInt < sg.2.1 ∧ ¬ x_row sg 2 f.toInt = 3 ∧ 0 ≤ v.toInt ∧ v.toInt < x_row sg 5 f.toInt) ∧ (M.2.1 77 29).toInt < 150) → r.toInt = -1 ∧ (M1.2.1 77 29).toInt = (M.2.1 77 29).toInt) → (NWr M M1 r.toInt (0 : Int32) c f v) → Q (some (.int r)) M1) : mm_T X d 193 0 [.ref 77, .int c, .int f, .int v] [] M Q := by
  have F0 : FR md_t2 M M := FR.rf
  have z_1 := q3.2.1
  have z_2 := q3.2.2.1
  have z_3 := q3.2.2.2.1
  have z_4 := q3.1
  have z_5 := z_4.1
  have z_6 := z_4.2.1
  have z_7 := z_4.2.2.1
  have z_8 := z_4.2.2.2.1
  have z_9 := z_4.2.2.2.2.1
  have z_10 := z_4.2.2.2.2.2.1
  have b_11 := g_b hG (a := 77) (i := 11) (lo := 10) (hi := 60) rfl rfl
  have b_12 := g_b hG (a := 77) (i := 12) (lo := 0) (hi := 8) rfl rfl
  have b_13 := g_b hG (a := 77) (i := 13) (lo := 0) (hi := 12) rfl rfl
  refine to_an (pc := 0) rw_194_0 rfl (to_c (pc := 1) rw_194_1 (x := (0 : Int32)) rfl rfl (s_pI (pc := 2) rw_194_2 hG rfl (fun M15 W14 => ?_)))
  have hG16 := g_wf hG W14 rfl rfl (by decide)
  have F17 := FR.w F0 W14 (show 77 = 77 ∧ (2 = 2 ∨ 2 = 29) ∨ 90 ≤ 77 ∧ 77 ≤ 93 by decide)
  refine to_an (pc := 5) rw_194_5 rfl ?_
  have c_18 : M15.2.1 77 29 = (M.2.1 77 29) := (W_n W14 (by decide) rfl)
  have b_19 := g_b hG (a := 77) (i := 29) (lo := 0) (hi := 150) rfl rfl
  refine tt_gI (pc := 6) rw_194_6 (g_o hG16 rfl) (v := (M.2.1 77 29)) c_18 (to_c (pc := 9) rw_194_9 (x := (150 : Int32)) rfl rfl (b_ceq (pc := 12) rw_194_12 (A := (M.2.1 77 29).toInt) (B := 150) rfl rfl (fun h20 => ?_) (fun h20 => ?_)))
  · refine to_c (pc := 32) rw_194_32 (x := (-1 : Int32)) rfl rfl (to_go (pc := 33) rw_194_33 (to_r0 (pc := 44) rw_194_44 ?_))
    have k_21 : (-1 : Int32).toInt = -1 := rfl
    have j_22 := (NJ_f (fun a i z => W_n W14 (by /-r77,2-/ omega) rfl) q1)
    have t_23 : (M15.2.1 77 29).toInt = (M.2.1 77 29).toInt := congrArg Int32.toInt c_18
    exact h (-1 : Int32) M15 hG16 F17 j_22 (by omega) (by omega) (NWr_n (fun a i z => (W_n W14 (by /-r77,2-/ omega) rfl)) (by omega))
  · refine to_an (pc := 15) rw_194_15 rfl (to_in (pc := 16) rw_194_16 rfl (s_v (pc := 17) rw_194_17 (dp0 hd (by decide)) (ls0 := [.ref 77, .int c]) rfl (Nat.le_of_ble_eq_true rfl) (Nat.le_of_ble_eq_true rfl) rfl (to_rc rfl rfl rfl (g_o hG16 rfl)) rfl (to_in (pc := 0) rw_187_0 rfl (b_ilt (pc := 1) rw_187_1 (A := c.toInt) rfl (fun h24 => ?_) (fun h24 => ?_)))))
    · refine to_c (pc := 16) rw_187_16 (x := (0 : Int32)) rfl rfl (s_r1 (pc := 17) rw_187_17 (A := 0) rfl (by decide) (b_ieq_t (pc := 20) rw_194_20 (A := 0) rfl (by decide) (to_c (pc := 32) rw_194_32 (x := (-1 : Int32)) rfl rfl (to_go (pc := 33) rw_194_33 (to_r0 (pc := 44) rw_194_44 ?_)))))
      have k_25 : (-1 : Int32).toInt = -1 := rfl
      have j_26 := (NJ_f (fun a i z => W_n W14 (by /-r77,2-/ omega) rfl) q1)
      have t_27 : (M15.2.1 77 29).toInt = (M.2.1 77 29).toInt := congrArg Int32.toInt c_18
      exact h (-1 : Int32) M15 hG16 F17 j_26 (by omega) (by omega) (NWr_n (fun a i z => (W_n W14 (by /-r77,2-/ omega) rfl)) (by omega))
    · refine to_in (pc := 4) rw_187_4 rfl (to_an (pc := 5) rw_187_5 rfl ?_)
      have c_28 : M15.2.1 77 28 = (M.2.1 77 28) := (W_n W14 (by decide) rfl)
      have b_29 := g_b hG (a := 77) (i := 28) (lo := 0) (hi := 30) rfl rfl
      refine tt_gI (pc := 6) rw_187_6 (g_o hG16 rfl) (v := (M.2.1 77 28)) c_28 (b_cge (pc := 9) rw_187_9 (A := c.toInt) (B := (M.2.1 77 28).toInt) rfl rfl (fun h30 => ?_) (fun h30 => ?_))
      · refine to_c (pc := 16) rw_187_16 (x := (0 : Int32)) rfl rfl (s_r1 (pc := 17) rw_187_17 (A := 0) rfl (by decide) (b_ieq_t (pc := 20) rw_194_20 (A := 0) rfl (by decide) (to_c (pc := 32) rw_194_32 (x := (-1 : Int32)) rfl rfl (to_go (pc := 33) rw_194_33 (to_r0 (pc := 44) rw_194_44 ?_)))))
        have k_31 : (-1 : Int32).toInt = -1 := rfl
        have j_32 := (NJ_f (fun a i z => W_n W14 (by /-r77,2-/ omega) rfl) q1)
        have t_33 : (M15.2.1 77 29).toInt = (M.2.1 77 29).toInt := congrArg Int32.toInt c_18
        exact h (-1 : Int32) M15 hG16 F17 j_32 (by omega) (by omega) (NWr_n (fun a i z => (W_n W14 (by /-r77,2-/ omega) rfl)) (by omega))
      · refine to_c (pc := 12) rw_187_12 (x := (1 : Int32)) rfl rfl (to_go (pc := 13) rw_187_13 (s_r1 (pc := 17) rw_187_17 (A := 1) rfl (by decide) (b_ieq_f (pc := 20) rw_194_20 (A := 1) rfl (by decide) (to_an (pc := 23) rw_194_23 rfl (to_in (pc := 24) rw_194_24 rfl (to_in (pc := 25) rw_194_25 rfl (s_v (pc := 26) rw_194_26 (dp0 hd (by decide)) (ls0 := [.ref 77, .int f, .int v]) rfl (Nat.le_of_ble_eq_true rfl) (Nat.le_of_ble_eq_true rfl) rfl (to_rc rfl rfl rfl (g_o hG16 rfl)) rfl (to_an (pc := 0) rw_184_0 rfl (to_in (pc := 1) rw_184_1 rfl (s_v (pc := 2) rw_184_2 (dp1 hd (by decide)) (ls0 := [.ref 77, .int f]) rfl (Nat.le_of_ble_eq_true rfl) (Nat.le_of_ble_eq_true rfl) rfl (to_rc rfl rfl rfl (g_o hG16 rfl)) rfl (to_an (pc := 0) rw_179_0 rfl ?_)))))))))))
        refine to_in (pc := 1) rw_179_1 rfl (s_v (pc := 2) rw_179_2 (dp2 hd (by decide)) (ls0 := [.ref 77, .int f]) rfl (Nat.le_of_ble_eq_true rfl) (Nat.le_of_ble_eq_true rfl) rfl (to_rc rfl rfl rfl (g_o hG16 rfl)) rfl (to_in (pc := 0) rw_178_0 rfl (b_ilt (pc := 1) rw_178_1 (A := f.toInt) rfl (fun h34 => ?_) (fun h34 => ?_))))
        · refine to_c (pc := 16) rw_178_16 (x := (0 : Int32)) rfl rfl (s_r1 (pc := 17) rw_178_17 (A := 0) rfl (by decide) (b_ieq_t (pc := 5) rw_179_5 (A := 0) rfl (by decide) (to_c (pc := 22) rw_179_22 (x := (0 : Int32)) rfl rfl (s_r1 (pc := 23) rw_179_23 (A := 0) rfl (by decide) (b_ieq_t (pc := 5) rw_184_5 (A := 0) rfl (by decide) (to_c (pc := 26) rw_184_26 (x := (0 : Int32)) rfl rfl (s_r1 (pc := 27) rw_184_27 (A := 0) rfl (by decide) (b_ine_f (pc := 29) rw_194_29 (A := 0) rfl (by decide) (to_c (pc := 32) rw_194_32 (x := (-1 : Int32)) rfl rfl (to_go (pc := 33) rw_194_33 (to_r0 (pc := 44) rw_194_44 ?_)))))))))))
          have k_35 : (-1 : Int32).toInt = -1 := rfl
          have j_36 := (NJ_f (fun a i z => W_n W14 (by /-r77,2-/ omega) rfl) q1)
          have t_37 : (M15.2.1 77 29).toInt = (M.2.1 77 29).toInt := congrArg Int32.toInt c_18
          exact h (-1 : Int32) M15 hG16 F17 j_36 (by omega) (by omega) (NWr_n (fun a i z => (W_n W14 (by /-r77,2-/ omega) rfl)) (by omega))
        · refine to_in (pc := 4) rw_178_4 rfl (to_an (pc := 5) rw_178_5 rfl ?_)
          have c_38 : M15.2.1 77 12 = (M.2.1 77 12) := (W_n W14 (by decide) rfl)
          refine tt_gI (pc := 6) rw_178_6 (g_o hG16 rfl) (v := (M.2.1 77 12)) c_38 (b_cge (pc := 9) rw_178_9 (A := f.toInt) (B := (M.2.1 77 12).toInt) rfl rfl (fun h39 => ?_) (fun h39 => ?_))
          · refine to_c (pc := 16) rw_178_16 (x := (0 : Int32)) rfl rfl (s_r1 (pc := 17) rw_178_17 (A := 0) rfl (by decide) (b_ieq_t (pc := 5) rw_179_5 (A := 0) rfl (by decide) (to_c (pc := 22) rw_179_22 (x := (0 : Int32)) rfl rfl (s_r1 (pc := 23) rw_179_23 (A := 0) rfl (by decide) (b_ieq_t (pc := 5) rw_184_5 (A := 0) rfl (by decide) (to_c (pc := 26) rw_184_26 (x := (0 : Int32)) rfl rfl (s_r1 (pc := 27) rw_184_27 (A := 0) rfl (by decide) (b_ine_f (pc := 29) rw_194_29 (A := 0) rfl (by decide) (to_c (pc := 32) rw_194_32 (x := (-1 : Int32)) rfl rfl (to_go (pc := 33) rw_194_33 (to_r0 (pc := 44) rw_194_44 ?_)))))))))))
            have k_40 : (-1 : Int32).toInt = -1 := rfl
            have j_41 := (NJ_f (fun a i z => W_n W14 (by /-r77,2-/ omega) rfl) q1)
            have t_42 : (M15.2.1 77 29).toInt = (M.2.1 77 29).toInt := congrArg Int32.toInt c_18
            exact h (-1 : Int32) M15 hG16 F17 j_41 (by omega) (by omega) (NWr_n (fun a i z => (W_n W14 (by /-r77,2-/ omega) rfl)) (by omega))
          · refine to_c (pc := 12) rw_178_12 (x := (1 : Int32)) rfl rfl (to_go (pc := 13) rw_178_13 (s_r1 (pc := 17) rw_178_17 (A := 1) rfl (by decide) (b_ieq_f (pc := 5) rw_179_5 (A := 1) rfl (by decide) (to_an (pc := 8) rw_179_8 rfl (s_gR (pc := 9) rw_179_9 hG16 rfl (v := 81) rfl (to_in (pc := 12) rw_179_12 rfl (s_ial (pc := 13) rw_179_13 hG16 rfl (n := 16) rfl rfl (A := f.toInt) rfl (by omega) (by omega) (lo := 0) (hi := 3) rfl rfl (fun v43 w_44 _ _ => ?_))))))))
            have j_45 := (PLk_f (fun a i z => W_n W14 (tg_91 a i z) rfl) q3)
            have z_46 := PLk_r j_45 2 81 rfl (by decide) (by decide) (k := f.toInt) (by omega) (by omega) w_44
            have t_47 := congrArg Int32.toInt w_44
            have j_49 := (FA_f (fun a i z => W_n W14 (tg_94 a i z) rfl) q2)
            have j_48 := FA_u j_49 (f.toInt).toNat
            refine to_c (pc := 14) rw_179_14 (x := (3 : Int32)) rfl rfl (b_ceq (pc := 15) rw_179_15 (A := v43.toInt) (B := 3) rfl rfl (fun h50 => ?_) (fun h50 => ?_))
            · refine to_c (pc := 22) rw_179_22 (x := (0 : Int32)) rfl rfl (s_r1 (pc := 23) rw_179_23 (A := 0) rfl (by decide) (b_ieq_t (pc := 5) rw_184_5 (A := 0) rfl (by decide) (to_c (pc := 26) rw_184_26 (x := (0 : Int32)) rfl rfl (s_r1 (pc := 27) rw_184_27 (A := 0) rfl (by decide) (b_ine_f (pc := 29) rw_194_29 (A := 0) rfl (by decide) (to_c (pc := 32) rw_194_32 (x := (-1 : Int32)) rfl rfl (to_go (pc := 33) rw_194_33 (to_r0 (pc := 44) rw_194_44 ?_))))))))
              have k_51 : (-1 : Int32).toInt = -1 := rfl
              have j_52 := (NJ_f (fun a i z => W_n W14 (by /-r77,2-/ omega) rfl) q1)
              have t_53 : (M15.2.1 77 29).toInt = (M.2.1 77 29).toInt := congrArg Int32.toInt c_18
              exact h (-1 : Int32) M15 hG16 F17 j_52 (by omega) (by omega) (NWr_n (fun a i z => (W_n W14 (by /-r77,2-/ omega) rfl)) (by omega))
            · refine to_c (pc := 18) rw_179_18 (x := (1 : Int32)) rfl rfl (to_go (pc := 19) rw_179_19 (s_r1 (pc := 23) rw_179_23 (A := 1) rfl (by decide) (b_ieq_f (pc := 5) rw_184_5 (A := 1) rfl (by decide) (to_in (pc := 8) rw_184_8 rfl (b_ilt (pc := 9) rw_184_9 (A := v.toInt) rfl (fun h54 => ?_) (fun h54 => ?_))))))
              · refine to_c (pc := 26) rw_184_26 (x := (0 : Int32)) rfl rfl (s_r1 (pc := 27) rw_184_27 (A := 0) rfl (by decide) (b_ine_f (pc := 29) rw_194_29 (A := 0) rfl (by decide) (to_c (pc := 32) rw_194_32 (x := (-1 : Int32)) rfl rfl (to_go (pc := 33) rw_194_33 (to_r0 (pc := 44) rw_194_44 ?_)))))
                have k_55 : (-1 : Int32).toInt = -1 := rfl
                have j_56 := (NJ_f (fun a i z => W_n W14 (by /-r77,2-/ omega) rfl) q1)
                have t_57 : (M15.2.1 77 29).toInt = (M.2.1 77 29).toInt := congrArg Int32.toInt c_18
                exact h (-1 : Int32) M15 hG16 F17 j_56 (by omega) (by omega) (NWr_n (fun a i z => (W_n W14 (by /-r77,2-/ omega) rfl)) (by omega))
              · refine to_in (pc := 12) rw_184_12 rfl (to_an (pc := 13) rw_184_13 rfl (s_gR (pc := 14) rw_184_14 hG16 rfl (v := 84) rfl (to_in (pc := 17) rw_184_17 rfl (s_ial (pc := 18) rw_184_18 hG16 rfl (n := 16) rfl rfl (A := f.toInt) rfl (by omega) (by omega) (lo := 0) (hi := 24) rfl rfl (fun v58 w_59 _ _ => ?_)))))
                have z_60 := PLk_r j_45 5 84 rfl (by decide) (by decide) (k := f.toInt) (by omega) (by omega) w_59
                have t_61 := congrArg Int32.toInt w_59
                refine b_cge (pc := 19) rw_184_19 (A := v.toInt) (B := v58.toInt) rfl rfl (fun h62 => ?_) (fun h62 => ?_)
                · refine to_c (pc := 26) rw_184_26 (x := (0 : Int32)) rfl rfl (s_r1 (pc := 27) rw_184_27 (A := 0) rfl (by decide) (b_ine_f (pc := 29) rw_194_29 (A := 0) rfl (by decide) (to_c (pc := 32) rw_194_32 (x := (-1 : Int32)) rfl rfl (to_go (pc := 33) rw_194_33 (to_r0 (pc := 44) rw_194_44 ?_)))))
                  have k_63 : (-1 : Int32).toInt = -1 := rfl
                  have j_64 := (NJ_f (fun a i z => W_n W14 (by /-r77,2-/ omega) rfl) q1)
                  have t_65 : (M15.2.1 77 29).toInt = (M.2.1 77 29).toInt := congrArg Int32.toInt c_18
                  exact h (-1 : Int32) M15 hG16 F17 j_64 (by omega) (by omega) (NWr_n (fun a i z => (W_n W14 (by /-r77,2-/ omega) rfl)) (by omega))
                · refine to_c (pc := 22) rw_184_22 (x := (1 : Int32)) rfl rfl (to_go (pc := 23) rw_184_23 (s_r1 (pc := 27) rw_184_27 (A := 1) rfl (by decide) (b_ine_t (pc := 29) rw_194_29 (A := 1) rfl (by decide) (to_an (pc := 36) rw_194_36 rfl (to_c (pc := 37) rw_194_37 (x := (0 : Int32)) rfl rfl (to_in (pc := 38) rw_194_38 rfl (to_in (pc := 39) rw_194_39 rfl (to_in (pc := 40) rw_194_40 rfl (s_v (pc := 41) rw_194_41 (dp0 hd (by decide)) (ls0 := [.ref 77, .int (0 : Int32), .int c, .int f, .int v]) rfl (Nat.le_of_ble_eq_true rfl) (Nat.le_of_ble_eq_true rfl) rfl (to_rc rfl rfl rfl (g_o hG16 rfl)) rfl ?_)))))))))
                  have k_66 : (0 : Int32).toInt = 0 := rfl
                  have t_67 : (M15.2.1 77 29).toInt = (M.2.1 77 29).toInt := congrArg Int32.toInt c_18
                  have j_68 := (NJ_f (fun a i z => W_n W14 (by /-r77,2-/ omega) rfl) q1)
                  refine E_191 hX (dp1 hd (by decide)) hG16 (by omega) (by omega) (by omega) (by omega) (by omega) (by omega) (by omega) (by omega) (by omega) (by omega) j_68 (w := (0 : Int32)) (o := c) (m := f) (v := v) (fun r69 M76 hG71 F70 p_72 p_73 p_74 p_75 => ?_)
                  have F77 := FR.c F17 F70 tg_105
                  have b_78 := g_b hG71 (a := 77) (i := 29) (lo := 0) (hi := 150) rfl rfl
                  refine to_r0 (pc := 44) rw_194_44 ?_
                  exact h r69 M76 hG71 F77 p_74 (by omega) (by omega) (NWr_o (fun a i z => (W_n W14 (by /-r77,2-/ omega) rfl)) p_75)
set_option maxRecDepth 4000 in
set_option maxHeartbeats 0 in
theorem E_195 {X : mm_X} {d : Nat} {M : mm_M} {Q : Option Value → mm_M → Prop} {c : Int32} {w : Int32} {sg : x_S} (hX : g_X X) (hd : 1 ≤ d) (hG : g_G M) (q1 : NJ M) (q2 : PLk M sg) (h : ∀ (r : Int32) (M1 : mm_M), g_G M1 → FR md_t2 M M1 → NJ M1 → ((0 ≤ c.toInt ∧ c.toInt < (M.2.1 77 28).toInt ∧ 0 ≤ w.toInt ∧ w.toInt < sg.2.2.1) ∧ (M.2.1 77 29).toInt < 150 → r.toInt = (M.2.1 77 29).toInt ∧ (M1.2.1 77 29).toInt = (M.2.1 77 29).toInt + 1) → (¬ ((0 ≤ c.toInt ∧ c.toInt < (M.2.1 77 28).toInt ∧ 0 ≤ w.toInt ∧ w.toInt < sg.2.2.1) ∧ (M.2.1 77 29).toInt < 150) → r.toInt = -1 ∧ (M1.2.1 77 29).toInt = (M.2.1 77 29).toInt) → (NWr M M1 r.toInt (1 : Int32) c w (0 : Int32)) → Q (some (.int r)) M1) : mm_T X d 194 0 [.ref 77, .int c, .int w] [] M Q := by
  have F0 : FR md_t2 M M := FR.rf
  have z_1 := q2.2.1
  have z_2 := q2.2.2.1
  have z_3 := q2.2.2.2.1
  have z_4 := q2.1
  have z_5 := z_4.1
  have z_6 := z_4.2.1
  have z_7 := z_4.2.2.1
  have z_8 := z_4.2.2.2.1
  have z_9 := z_4.2.2.2.2.1
  have z_10 := z_4.2.2.2.2.2.1
  have b_11 := g_b hG (a := 77) (i := 11) (lo := 10) (hi := 60) rfl rfl
  have b_12 := g_b hG (a := 77) (i := 12) (lo := 0) (hi := 8) rfl rfl
  have b_13 := g_b hG (a := 77) (i := 13) (lo := 0) (hi := 12) rfl rfl
  refine to_an (pc := 0) rw_195_0 rfl (to_c (pc := 1) rw_195_1 (x := (0 : Int32)) rfl rfl (s_pI (pc := 2) rw_195_2 hG rfl (fun M15 W14 => ?_)))
  have hG16 := g_wf hG W14 rfl rfl (by decide)
  have F17 := FR.w F0 W14 (show 77 = 77 ∧ (2 = 2 ∨ 2 = 29) ∨ 90 ≤ 77 ∧ 77 ≤ 93 by decide)
  refine to_an (pc := 5) rw_195_5 rfl ?_
  have c_18 : M15.2.1 77 29 = (M.2.1 77 29) := (W_n W14 (by decide) rfl)
  have b_19 := g_b hG (a := 77) (i := 29) (lo := 0) (hi := 150) rfl rfl
  refine tt_gI (pc := 6) rw_195_6 (g_o hG16 rfl) (v := (M.2.1 77 29)) c_18 (to_c (pc := 9) rw_195_9 (x := (150 : Int32)) rfl rfl (b_ceq (pc := 12) rw_195_12 (A := (M.2.1 77 29).toInt) (B := 150) rfl rfl (fun h20 => ?_) (fun h20 => ?_)))
  · refine to_c (pc := 31) rw_195_31 (x := (-1 : Int32)) rfl rfl (to_go (pc := 32) rw_195_32 (to_r0 (pc := 43) rw_195_43 ?_))
    have k_21 : (-1 : Int32).toInt = -1 := rfl
    have j_22 := (NJ_f (fun a i z => W_n W14 (by /-r77,2-/ omega) rfl) q1)
    have t_23 : (M15.2.1 77 29).toInt = (M.2.1 77 29).toInt := congrArg Int32.toInt c_18
    exact h (-1 : Int32) M15 hG16 F17 j_22 (by omega) (by omega) (NWr_n (fun a i z => (W_n W14 (by /-r77,2-/ omega) rfl)) (by omega))
  · refine to_an (pc := 15) rw_195_15 rfl (to_in (pc := 16) rw_195_16 rfl (s_v (pc := 17) rw_195_17 (dp0 hd (by decide)) (ls0 := [.ref 77, .int c]) rfl (Nat.le_of_ble_eq_true rfl) (Nat.le_of_ble_eq_true rfl) rfl (to_rc rfl rfl rfl (g_o hG16 rfl)) rfl (to_in (pc := 0) rw_187_0 rfl (b_ilt (pc := 1) rw_187_1 (A := c.toInt) rfl (fun h24 => ?_) (fun h24 => ?_)))))
    · refine to_c (pc := 16) rw_187_16 (x := (0 : Int32)) rfl rfl (s_r1 (pc := 17) rw_187_17 (A := 0) rfl (by decide) (b_ieq_t (pc := 20) rw_195_20 (A := 0) rfl (by decide) (to_c (pc := 31) rw_195_31 (x := (-1 : Int32)) rfl rfl (to_go (pc := 32) rw_195_32 (to_r0 (pc := 43) rw_195_43 ?_)))))
      have k_25 : (-1 : Int32).toInt = -1 := rfl
      have j_26 := (NJ_f (fun a i z => W_n W14 (by /-r77,2-/ omega) rfl) q1)
      have t_27 : (M15.2.1 77 29).toInt = (M.2.1 77 29).toInt := congrArg Int32.toInt c_18
      exact h (-1 : Int32) M15 hG16 F17 j_26 (by omega) (by omega) (NWr_n (fun a i z => (W_n W14 (by /-r77,2-/ omega) rfl)) (by omega))
    · refine to_in (pc := 4) rw_187_4 rfl (to_an (pc := 5) rw_187_5 rfl ?_)
      have c_28 : M15.2.1 77 28 = (M.2.1 77 28) := (W_n W14 (by decide) rfl)
      have b_29 := g_b hG (a := 77) (i := 28) (lo := 0) (hi := 30) rfl rfl
      refine tt_gI (pc := 6) rw_187_6 (g_o hG16 rfl) (v := (M.2.1 77 28)) c_28 (b_cge (pc := 9) rw_187_9 (A := c.toInt) (B := (M.2.1 77 28).toInt) rfl rfl (fun h30 => ?_) (fun h30 => ?_))
      · refine to_c (pc := 16) rw_187_16 (x := (0 : Int32)) rfl rfl (s_r1 (pc := 17) rw_187_17 (A := 0) rfl (by decide) (b_ieq_t (pc := 20) rw_195_20 (A := 0) rfl (by decide) (to_c (pc := 31) rw_195_31 (x := (-1 : Int32)) rfl rfl (to_go (pc := 32) rw_195_32 (to_r0 (pc := 43) rw_195_43 ?_)))))
        have k_31 : (-1 : Int32).toInt = -1 := rfl
        have j_32 := (NJ_f (fun a i z => W_n W14 (by /-r77,2-/ omega) rfl) q1)
        have t_33 : (M15.2.1 77 29).toInt = (M.2.1 77 29).toInt := congrArg Int32.toInt c_18
        exact h (-1 : Int32) M15 hG16 F17 j_32 (by omega) (by omega) (NWr_n (fun a i z => (W_n W14 (by /-r77,2-/ omega) rfl)) (by omega))
      · refine to_c (pc := 12) rw_187_12 (x := (1 : Int32)) rfl rfl (to_go (pc := 13) rw_187_13 (s_r1 (pc := 17) rw_187_17 (A := 1) rfl (by decide) (b_ieq_f (pc := 20) rw_195_20 (A := 1) rfl (by decide) (to_an (pc := 23) rw_195_23 rfl (to_in (pc := 24) rw_195_24 rfl (s_v (pc := 25) rw_195_25 (dp0 hd (by decide)) (ls0 := [.ref 77, .int w]) rfl (Nat.le_of_ble_eq_true rfl) (Nat.le_of_ble_eq_true rfl) rfl (to_rc rfl rfl rfl (g_o hG16 rfl)) rfl (to_in (pc := 0) rw_180_0 rfl (b_ilt (pc := 1) rw_180_1 (A := w.toInt) rfl (fun h34 => ?_) (fun h34 => ?_)))))))))
        · refine to_c (pc := 16) rw_180_16 (x := (0 : Int32)) rfl rfl (s_r1 (pc := 17) rw_180_17 (A := 0) rfl (by decide) (b_ine_f (pc := 28) rw_195_28 (A := 0) rfl (by decide) (to_c (pc := 31) rw_195_31 (x := (-1 : Int32)) rfl rfl (to_go (pc := 32) rw_195_32 (to_r0 (pc := 43) rw_195_43 ?_)))))
          have k_35 : (-1 : Int32).toInt = -1 := rfl
          have j_36 := (NJ_f (fun a i z => W_n W14 (by /-r77,2-/ omega) rfl) q1)
          have t_37 : (M15.2.1 77 29).toInt = (M.2.1 77 29).toInt := congrArg Int32.toInt c_18
          exact h (-1 : Int32) M15 hG16 F17 j_36 (by omega) (by omega) (NWr_n (fun a i z => (W_n W14 (by /-r77,2-/ omega) rfl)) (by omega))
        · refine to_in (pc := 4) rw_180_4 rfl (to_an (pc := 5) rw_180_5 rfl ?_)
          have c_38 : M15.2.1 77 13 = (M.2.1 77 13) := (W_n W14 (by decide) rfl)
          refine tt_gI (pc := 6) rw_180_6 (g_o hG16 rfl) (v := (M.2.1 77 13)) c_38 (b_cge (pc := 9) rw_180_9 (A := w.toInt) (B := (M.2.1 77 13).toInt) rfl rfl (fun h39 => ?_) (fun h39 => ?_))
          · refine to_c (pc := 16) rw_180_16 (x := (0 : Int32)) rfl rfl (s_r1 (pc := 17) rw_180_17 (A := 0) rfl (by decide) (b_ine_f (pc := 28) rw_195_28 (A := 0) rfl (by decide) (to_c (pc := 31) rw_195_31 (x := (-1 : Int32)) rfl rfl (to_go (pc := 32) rw_195_32 (to_r0 (pc := 43) rw_195_43 ?_)))))
            have k_40 : (-1 : Int32).toInt = -1 := rfl
            have j_41 := (NJ_f (fun a i z => W_n W14 (by /-r77,2-/ omega) rfl) q1)
            have t_42 : (M15.2.1 77 29).toInt = (M.2.1 77 29).toInt := congrArg Int32.toInt c_18
            exact h (-1 : Int32) M15 hG16 F17 j_41 (by omega) (by omega) (NWr_n (fun a i z => (W_n W14 (by /-r77,2-/ omega) rfl)) (by omega))
          · refine to_c (pc := 12) rw_180_12 (x := (1 : Int32)) rfl rfl (to_go (pc := 13) rw_180_13 (s_r1 (pc := 17) rw_180_17 (A := 1) rfl (by decide) (b_ine_t (pc := 28) rw_195_28 (A := 1) rfl (by decide) (to_an (pc := 35) rw_195_35 rfl (to_c (pc := 36) rw_195_36 (x := (1 : Int32)) rfl rfl (to_in (pc := 37) rw_195_37 rfl (to_in (pc := 38) rw_195_38 rfl (to_c (pc := 39) rw_195_39 (x := (0 : Int32)) rfl rfl (s_v (pc := 40) rw_195_40 (dp0 hd (by decide)) (ls0 := [.ref 77, .int (1 : Int32), .int c, .int w, .int (0 : Int32)]) rfl (Nat.le_of_ble_eq_true rfl) (Nat.le_of_ble_eq_true rfl) rfl (to_rc rfl rfl rfl (g_o hG16 rfl)) rfl ?_)))))))))
            have k_43 : (1 : Int32).toInt = 1 := rfl
            have k_44 : (0 : Int32).toInt = 0 := rfl
            have t_45 : (M15.2.1 77 29).toInt = (M.2.1 77 29).toInt := congrArg Int32.toInt c_18
            have j_46 := (NJ_f (fun a i z => W_n W14 (by /-r77,2-/ omega) rfl) q1)
            refine E_191 hX (dp1 hd (by decide)) hG16 (by omega) (by omega) (by omega) (by omega) (by omega) (by omega) (by omega) (by omega) (by omega) (by omega) j_46 (w := (1 : Int32)) (o := c) (m := w) (v := (0 : Int32)) (fun r47 M54 hG49 F48 p_50 p_51 p_52 p_53 => ?_)
            have F55 := FR.c F17 F48 tg_105
            have b_56 := g_b hG49 (a := 77) (i := 29) (lo := 0) (hi := 150) rfl rfl
            refine to_r0 (pc := 43) rw_195_43 ?_
            exact h r47 M54 hG49 F55 p_52 (by omega) (by omega) (NWr_o (fun a i z => (W_n W14 (by /-r77,2-/ omega) rfl)) p_53)
set_option maxRecDepth 4000 in
set_option maxHeartbeats 0 in
theorem E_196 {X : mm_X} {d : Nat} {M : mm_M} {Q : Option Value → mm_M → Prop} {c : Int32} {e : Int32} {m : Int32} {sg : x_S} (hX : g_X X) (hd : 1 ≤ d) (hG : g_G M) (q1 : 0 ≤ m.toInt) (q2 : m.toInt ≤ 1) (q3 : NJ M) (q4 : PLk M sg) (h : ∀ (r : Int32) (M1 : mm_M), g_G M1 → FR md_t2 M M1 → NJ M1 → ((0 ≤ c.toInt ∧ c.toInt < (M.2.1 77 28).toInt ∧ 0 ≤ e.toInt ∧ e.toInt < sg.1) ∧ (M.2.1 77 29).toInt < 150 → r.toInt = (M.2.1 77 29).toInt ∧ (M1.2.1 77 29).toInt = (M.2.1 77 29).toInt + 1) → (¬ ((0 ≤ c.toInt ∧ c.toInt < (M.2.1 77 28).toInt ∧ 0 ≤ e.toInt ∧ e.toInt < sg.1) ∧ (M.2.1 77 29).toInt < 150) → r.toInt = -1 ∧ (M1.2.1 77 29).toInt = (M.2.1 77 29).toInt) → (NWr M M1 r.toInt (x_tk m) c e (0 : Int32)) → Q (some (.int r)) M1) : mm_T X d 195 0 [.ref 77, .int c, .int e, .int m] [] M Q := by
  have F0 : FR md_t2 M M := FR.rf
  have z_1 := q4.2.1
  have z_2 := q4.2.2.1
  have z_3 := q4.2.2.2.1
  have z_4 := q4.1
  have z_5 := z_4.1
  have z_6 := z_4.2.1
  have z_7 := z_4.2.2.1
  have z_8 := z_4.2.2.2.1
  have z_9 := z_4.2.2.2.2.1
  have z_10 := z_4.2.2.2.2.2.1
  have b_11 := g_b hG (a := 77) (i := 11) (lo := 10) (hi := 60) rfl rfl
  have b_12 := g_b hG (a := 77) (i := 12) (lo := 0) (hi := 8) rfl rfl
  have b_13 := g_b hG (a := 77) (i := 13) (lo := 0) (hi := 12) rfl rfl
  refine to_an (pc := 0) rw_196_0 rfl (to_c (pc := 1) rw_196_1 (x := (0 : Int32)) rfl rfl (s_pI (pc := 2) rw_196_2 hG rfl (fun M15 W14 => ?_)))
  have hG16 := g_wf hG W14 rfl rfl (by decide)
  have F17 := FR.w F0 W14 (show 77 = 77 ∧ (2 = 2 ∨ 2 = 29) ∨ 90 ≤ 77 ∧ 77 ≤ 93 by decide)
  refine to_an (pc := 5) rw_196_5 rfl ?_
  have c_18 : M15.2.1 77 29 = (M.2.1 77 29) := (W_n W14 (by decide) rfl)
  have b_19 := g_b hG (a := 77) (i := 29) (lo := 0) (hi := 150) rfl rfl
  refine tt_gI (pc := 6) rw_196_6 (g_o hG16 rfl) (v := (M.2.1 77 29)) c_18 (to_c (pc := 9) rw_196_9 (x := (150 : Int32)) rfl rfl (b_ceq (pc := 12) rw_196_12 (A := (M.2.1 77 29).toInt) (B := 150) rfl rfl (fun h20 => ?_) (fun h20 => ?_)))
  · refine to_c (pc := 35) rw_196_35 (x := (-1 : Int32)) rfl rfl (to_go (pc := 36) rw_196_36 (to_r0 (pc := 55) rw_196_55 ?_))
    have k_21 : (-1 : Int32).toInt = -1 := rfl
    have j_22 := (NJ_f (fun a i z => W_n W14 (by /-r77,2-/ omega) rfl) q3)
    have t_23 : (M15.2.1 77 29).toInt = (M.2.1 77 29).toInt := congrArg Int32.toInt c_18
    exact h (-1 : Int32) M15 hG16 F17 j_22 (by omega) (by omega) (NWr_n (fun a i z => (W_n W14 (by /-r77,2-/ omega) rfl)) (by omega))
  · refine to_an (pc := 15) rw_196_15 rfl (to_in (pc := 16) rw_196_16 rfl (s_v (pc := 17) rw_196_17 (dp0 hd (by decide)) (ls0 := [.ref 77, .int c]) rfl (Nat.le_of_ble_eq_true rfl) (Nat.le_of_ble_eq_true rfl) rfl (to_rc rfl rfl rfl (g_o hG16 rfl)) rfl (to_in (pc := 0) rw_187_0 rfl (b_ilt (pc := 1) rw_187_1 (A := c.toInt) rfl (fun h24 => ?_) (fun h24 => ?_)))))
    · refine to_c (pc := 16) rw_187_16 (x := (0 : Int32)) rfl rfl (s_r1 (pc := 17) rw_187_17 (A := 0) rfl (by decide) (b_ieq_t (pc := 20) rw_196_20 (A := 0) rfl (by decide) (to_c (pc := 35) rw_196_35 (x := (-1 : Int32)) rfl rfl (to_go (pc := 36) rw_196_36 (to_r0 (pc := 55) rw_196_55 ?_)))))
      have k_25 : (-1 : Int32).toInt = -1 := rfl
      have j_26 := (NJ_f (fun a i z => W_n W14 (by /-r77,2-/ omega) rfl) q3)
      have t_27 : (M15.2.1 77 29).toInt = (M.2.1 77 29).toInt := congrArg Int32.toInt c_18
      exact h (-1 : Int32) M15 hG16 F17 j_26 (by omega) (by omega) (NWr_n (fun a i z => (W_n W14 (by /-r77,2-/ omega) rfl)) (by omega))
    · refine to_in (pc := 4) rw_187_4 rfl (to_an (pc := 5) rw_187_5 rfl ?_)
      have c_28 : M15.2.1 77 28 = (M.2.1 77 28) := (W_n W14 (by decide) rfl)
      have b_29 := g_b hG (a := 77) (i := 28) (lo := 0) (hi := 30) rfl rfl
      refine tt_gI (pc := 6) rw_187_6 (g_o hG16 rfl) (v := (M.2.1 77 28)) c_28 (b_cge (pc := 9) rw_187_9 (A := c.toInt) (B := (M.2.1 77 28).toInt) rfl rfl (fun h30 => ?_) (fun h30 => ?_))
      · refine to_c (pc := 16) rw_187_16 (x := (0 : Int32)) rfl rfl (s_r1 (pc := 17) rw_187_17 (A := 0) rfl (by decide) (b_ieq_t (pc := 20) rw_196_20 (A := 0) rfl (by decide) (to_c (pc := 35) rw_196_35 (x := (-1 : Int32)) rfl rfl (to_go (pc := 36) rw_196_36 (to_r0 (pc := 55) rw_196_55 ?_)))))
        have k_31 : (-1 : Int32).toInt = -1 := rfl
        have j_32 := (NJ_f (fun a i z => W_n W14 (by /-r77,2-/ omega) rfl) q3)
        have t_33 : (M15.2.1 77 29).toInt = (M.2.1 77 29).toInt := congrArg Int32.toInt c_18
        exact h (-1 : Int32) M15 hG16 F17 j_32 (by omega) (by omega) (NWr_n (fun a i z => (W_n W14 (by /-r77,2-/ omega) rfl)) (by omega))
      · refine to_c (pc := 12) rw_187_12 (x := (1 : Int32)) rfl rfl (to_go (pc := 13) rw_187_13 (s_r1 (pc := 17) rw_187_17 (A := 1) rfl (by decide) (b_ieq_f (pc := 20) rw_196_20 (A := 1) rfl (by decide) (to_in (pc := 23) rw_196_23 rfl (b_ilt (pc := 24) rw_196_24 (A := e.toInt) rfl (fun h34 => ?_) (fun h34 => ?_))))))
        · refine to_c (pc := 35) rw_196_35 (x := (-1 : Int32)) rfl rfl (to_go (pc := 36) rw_196_36 (to_r0 (pc := 55) rw_196_55 ?_))
          have k_35 : (-1 : Int32).toInt = -1 := rfl
          have j_36 := (NJ_f (fun a i z => W_n W14 (by /-r77,2-/ omega) rfl) q3)
          have t_37 : (M15.2.1 77 29).toInt = (M.2.1 77 29).toInt := congrArg Int32.toInt c_18
          exact h (-1 : Int32) M15 hG16 F17 j_36 (by omega) (by omega) (NWr_n (fun a i z => (W_n W14 (by /-r77,2-/ omega) rfl)) (by omega))
        · refine to_in (pc := 27) rw_196_27 rfl (to_an (pc := 28) rw_196_28 rfl ?_)
          have c_38 : M15.2.1 77 11 = (M.2.1 77 11) := (W_n W14 (by decide) rfl)
          refine tt_gI (pc := 29) rw_196_29 (g_o hG16 rfl) (v := (M.2.1 77 11)) c_38 (b_clt (pc := 32) rw_196_32 (A := e.toInt) (B := (M.2.1 77 11).toInt) rfl rfl (fun h39 => ?_) (fun h39 => ?_))
          · refine to_an (pc := 39) rw_196_39 rfl (to_in (pc := 40) rw_196_40 rfl (b_ieq (pc := 41) rw_196_41 (A := m.toInt) rfl (fun h40 => ?_) (fun h40 => ?_)))
            · refine to_c (pc := 48) rw_196_48 (x := (2 : Int32)) rfl rfl (to_in (pc := 49) rw_196_49 rfl (to_in (pc := 50) rw_196_50 rfl (to_c (pc := 51) rw_196_51 (x := (0 : Int32)) rfl rfl (s_v (pc := 52) rw_196_52 (dp0 hd (by decide)) (ls0 := [.ref 77, .int (2 : Int32), .int c, .int e, .int (0 : Int32)]) rfl (Nat.le_of_ble_eq_true rfl) (Nat.le_of_ble_eq_true rfl) rfl (to_rc rfl rfl rfl (g_o hG16 rfl)) rfl ?_))))
              have k_41 : (2 : Int32).toInt = 2 := rfl
              have k_42 : (0 : Int32).toInt = 0 := rfl
              have t_43 : (M15.2.1 77 29).toInt = (M.2.1 77 29).toInt := congrArg Int32.toInt c_18
              have j_44 := (NJ_f (fun a i z => W_n W14 (by /-r77,2-/ omega) rfl) q3)
              refine E_191 hX (dp1 hd (by decide)) hG16 (by omega) (by omega) (by omega) (by omega) (by omega) (by omega) (by omega) (by omega) (by omega) (by omega) j_44 (w := (2 : Int32)) (o := c) (m := e) (v := (0 : Int32)) (fun r45 M52 hG47 F46 p_48 p_49 p_50 p_51 => ?_)
              have F53 := FR.c F17 F46 tg_105
              have b_54 := g_b hG47 (a := 77) (i := 29) (lo := 0) (hi := 150) rfl rfl
              refine to_r0 (pc := 55) rw_196_55 ?_
              exact h r45 M52 hG47 F53 p_50 (by omega) (by omega) (NWr_o (fun a i z => (W_n W14 (by /-r77,2-/ omega) rfl)) (by rw [x_tk_0 (by omega)]; exact p_51))
            · refine to_c (pc := 44) rw_196_44 (x := (3 : Int32)) rfl rfl (to_go (pc := 45) rw_196_45 (to_in (pc := 49) rw_196_49 rfl (to_in (pc := 50) rw_196_50 rfl (to_c (pc := 51) rw_196_51 (x := (0 : Int32)) rfl rfl (s_v (pc := 52) rw_196_52 (dp0 hd (by decide)) (ls0 := [.ref 77, .int (3 : Int32), .int c, .int e, .int (0 : Int32)]) rfl (Nat.le_of_ble_eq_true rfl) (Nat.le_of_ble_eq_true rfl) rfl (to_rc rfl rfl rfl (g_o hG16 rfl)) rfl ?_)))))
              have k_55 : (3 : Int32).toInt = 3 := rfl
              have k_56 : (0 : Int32).toInt = 0 := rfl
              have t_57 : (M15.2.1 77 29).toInt = (M.2.1 77 29).toInt := congrArg Int32.toInt c_18
              have j_58 := (NJ_f (fun a i z => W_n W14 (by /-r77,2-/ omega) rfl) q3)
              refine E_191 hX (dp1 hd (by decide)) hG16 (by omega) (by omega) (by omega) (by omega) (by omega) (by omega) (by omega) (by omega) (by omega) (by omega) j_58 (w := (3 : Int32)) (o := c) (m := e) (v := (0 : Int32)) (fun r59 M66 hG61 F60 p_62 p_63 p_64 p_65 => ?_)
              have F67 := FR.c F17 F60 tg_105
              have b_68 := g_b hG61 (a := 77) (i := 29) (lo := 0) (hi := 150) rfl rfl
              refine to_r0 (pc := 55) rw_196_55 ?_
              exact h r59 M66 hG61 F67 p_64 (by omega) (by omega) (NWr_o (fun a i z => (W_n W14 (by /-r77,2-/ omega) rfl)) (by rw [x_tk_1 (by omega)]; exact p_65))
          · refine to_c (pc := 35) rw_196_35 (x := (-1 : Int32)) rfl rfl (to_go (pc := 36) rw_196_36 (to_r0 (pc := 55) rw_196_55 ?_))
            have k_69 : (-1 : Int32).toInt = -1 := rfl
            have j_70 := (NJ_f (fun a i z => W_n W14 (by /-r77,2-/ omega) rfl) q3)
            have t_71 : (M15.2.1 77 29).toInt = (M.2.1 77 29).toInt := congrArg Int32.toInt c_18
            exact h (-1 : Int32) M15 hG16 F17 j_70 (by omega) (by omega) (NWr_n (fun a i z => (W_n W14 (by /-r77,2-/ omega) rfl)) (by omega))
set_option maxRecDepth 4000 in
set_option maxHeartbeats 0 in
theorem E_198 {X : mm_X} {d : Nat} {M : mm_M} {Q : Option Value → mm_M → Prop} {w : Int32} {b : Int32} {sg : x_S} (hX : g_X X) (hd : 3 ≤ d) (hG : g_G M) (q1 : NJ M) (q2 : PLk M sg) (h : ∀ (r : Int32) (M1 : mm_M), g_G M1 → FR md_t2 M M1 → NJ M1 → ((0 ≤ w.toInt ∧ w.toInt < sg.2.2.1 ∧ 0 ≤ b.toInt ∧ x_shz b.toInt (x_row sg 4 (x_row sg 7 w.toInt) - x_row sg 3 (x_row sg 7 w.toInt) + 1) = 0 ∧ ((x_ct (b.toInt).toNat 62 : Nat) : Int) = x_row sg 5 (x_row sg 7 w.toInt)) ∧ (M.2.1 77 29).toInt < 150 → r.toInt = (M.2.1 77 29).toInt ∧ (M1.2.1 77 29).toInt = (M.2.1 77 29).toInt + 1) → (¬ ((0 ≤ w.toInt ∧ w.toInt < sg.2.2.1 ∧ 0 ≤ b.toInt ∧ x_shz b.toInt (x_row sg 4 (x_row sg 7 w.toInt) - x_row sg 3 (x_row sg 7 w.toInt) + 1) = 0 ∧ ((x_ct (b.toInt).toNat 62 : Nat) : Int) = x_row sg 5 (x_row sg 7 w.toInt)) ∧ (M.2.1 77 29).toInt < 150) → r.toInt = -1 ∧ (M1.2.1 77 29).toInt = (M.2.1 77 29).toInt) → (NWr M M1 r.toInt (4 : Int32) w b (0 : Int32)) → Q (some (.int r)) M1) : mm_T X d 197 0 [.ref 77, .int w, .int b] [] M Q := by
  have F0 : FR md_t2 M M := FR.rf
  have z_1 := q2.2.1
  have z_2 := q2.2.2.1
  have z_3 := q2.2.2.2.1
  have z_4 := q2.1
  have z_5 := z_4.1
  have z_6 := z_4.2.1
  have z_7 := z_4.2.2.1
  have z_8 := z_4.2.2.2.1
  have z_9 := z_4.2.2.2.2.1
  have z_10 := z_4.2.2.2.2.2.1
  have b_11 := g_b hG (a := 77) (i := 11) (lo := 10) (hi := 60) rfl rfl
  have b_12 := g_b hG (a := 77) (i := 12) (lo := 0) (hi := 8) rfl rfl
  have b_13 := g_b hG (a := 77) (i := 13) (lo := 0) (hi := 12) rfl rfl
  refine to_an (pc := 0) rw_198_0 rfl (to_c (pc := 1) rw_198_1 (x := (0 : Int32)) rfl rfl (s_pI (pc := 2) rw_198_2 hG rfl (fun M15 W14 => ?_)))
  have hG16 := g_wf hG W14 rfl rfl (by decide)
  have F17 := FR.w F0 W14 (show 77 = 77 ∧ (2 = 2 ∨ 2 = 29) ∨ 90 ≤ 77 ∧ 77 ≤ 93 by decide)
  refine to_an (pc := 5) rw_198_5 rfl ?_
  have c_18 : M15.2.1 77 29 = (M.2.1 77 29) := (W_n W14 (by decide) rfl)
  have b_19 := g_b hG (a := 77) (i := 29) (lo := 0) (hi := 150) rfl rfl
  refine tt_gI (pc := 6) rw_198_6 (g_o hG16 rfl) (v := (M.2.1 77 29)) c_18 (to_c (pc := 9) rw_198_9 (x := (150 : Int32)) rfl rfl (b_ceq (pc := 12) rw_198_12 (A := (M.2.1 77 29).toInt) (B := 150) rfl rfl (fun h20 => ?_) (fun h20 => ?_)))
  · refine to_c (pc := 61) rw_198_61 (x := (-1 : Int32)) rfl rfl (to_r0 (pc := 62) rw_198_62 ?_)
    have k_21 : (-1 : Int32).toInt = -1 := rfl
    have j_22 := (NJ_f (fun a i z => W_n W14 (by /-r77,2-/ omega) rfl) q1)
    have t_23 : (M15.2.1 77 29).toInt = (M.2.1 77 29).toInt := congrArg Int32.toInt c_18
    exact h (-1 : Int32) M15 hG16 F17 j_22 (by omega) (by omega) (NWr_n (fun a i z => (W_n W14 (by /-r77,2-/ omega) rfl)) (by omega))
  · refine to_an (pc := 15) rw_198_15 rfl (to_in (pc := 16) rw_198_16 rfl (s_v (pc := 17) rw_198_17 (dp0 hd (by decide)) (ls0 := [.ref 77, .int w]) rfl (Nat.le_of_ble_eq_true rfl) (Nat.le_of_ble_eq_true rfl) rfl (to_rc rfl rfl rfl (g_o hG16 rfl)) rfl (to_in (pc := 0) rw_180_0 rfl (b_ilt (pc := 1) rw_180_1 (A := w.toInt) rfl (fun h24 => ?_) (fun h24 => ?_)))))
    · refine to_c (pc := 16) rw_180_16 (x := (0 : Int32)) rfl rfl (s_r1 (pc := 17) rw_180_17 (A := 0) rfl (by decide) (b_ieq_t (pc := 20) rw_198_20 (A := 0) rfl (by decide) (to_c (pc := 61) rw_198_61 (x := (-1 : Int32)) rfl rfl (to_r0 (pc := 62) rw_198_62 ?_))))
      have k_25 : (-1 : Int32).toInt = -1 := rfl
      have j_26 := (NJ_f (fun a i z => W_n W14 (by /-r77,2-/ omega) rfl) q1)
      have t_27 : (M15.2.1 77 29).toInt = (M.2.1 77 29).toInt := congrArg Int32.toInt c_18
      exact h (-1 : Int32) M15 hG16 F17 j_26 (by omega) (by omega) (NWr_n (fun a i z => (W_n W14 (by /-r77,2-/ omega) rfl)) (by omega))
    · refine to_in (pc := 4) rw_180_4 rfl (to_an (pc := 5) rw_180_5 rfl ?_)
      have c_28 : M15.2.1 77 13 = (M.2.1 77 13) := (W_n W14 (by decide) rfl)
      refine tt_gI (pc := 6) rw_180_6 (g_o hG16 rfl) (v := (M.2.1 77 13)) c_28 (b_cge (pc := 9) rw_180_9 (A := w.toInt) (B := (M.2.1 77 13).toInt) rfl rfl (fun h29 => ?_) (fun h29 => ?_))
      · refine to_c (pc := 16) rw_180_16 (x := (0 : Int32)) rfl rfl (s_r1 (pc := 17) rw_180_17 (A := 0) rfl (by decide) (b_ieq_t (pc := 20) rw_198_20 (A := 0) rfl (by decide) (to_c (pc := 61) rw_198_61 (x := (-1 : Int32)) rfl rfl (to_r0 (pc := 62) rw_198_62 ?_))))
        have k_30 : (-1 : Int32).toInt = -1 := rfl
        have j_31 := (NJ_f (fun a i z => W_n W14 (by /-r77,2-/ omega) rfl) q1)
        have t_32 : (M15.2.1 77 29).toInt = (M.2.1 77 29).toInt := congrArg Int32.toInt c_18
        exact h (-1 : Int32) M15 hG16 F17 j_31 (by omega) (by omega) (NWr_n (fun a i z => (W_n W14 (by /-r77,2-/ omega) rfl)) (by omega))
      · refine to_c (pc := 12) rw_180_12 (x := (1 : Int32)) rfl rfl (to_go (pc := 13) rw_180_13 (s_r1 (pc := 17) rw_180_17 (A := 1) rfl (by decide) (b_ieq_f (pc := 20) rw_198_20 (A := 1) rfl (by decide) (to_in (pc := 23) rw_198_23 rfl (b_ilt (pc := 24) rw_198_24 (A := b.toInt) rfl (fun h33 => ?_) (fun h33 => ?_))))))
        · refine to_c (pc := 61) rw_198_61 (x := (-1 : Int32)) rfl rfl (to_r0 (pc := 62) rw_198_62 ?_)
          have k_34 : (-1 : Int32).toInt = -1 := rfl
          have j_35 := (NJ_f (fun a i z => W_n W14 (by /-r77,2-/ omega) rfl) q1)
          have t_36 : (M15.2.1 77 29).toInt = (M.2.1 77 29).toInt := congrArg Int32.toInt c_18
          exact h (-1 : Int32) M15 hG16 F17 j_35 (by omega) (by omega) (NWr_n (fun a i z => (W_n W14 (by /-r77,2-/ omega) rfl)) (by omega))
        · refine to_in (pc := 27) rw_198_27 rfl (to_an (pc := 28) rw_198_28 rfl (to_an (pc := 29) rw_198_29 rfl (s_gR (pc := 30) rw_198_30 hG16 rfl (v := 86) rfl (to_in (pc := 33) rw_198_33 rfl (s_ial (pc := 34) rw_198_34 hG16 rfl (n := 24) rfl rfl (A := w.toInt) rfl (by omega) (by omega) (lo := 0) (hi := 7) rfl rfl (fun v37 w_38 _ _ => ?_))))))
          have j_39 := (PLk_f (fun a i z => W_n W14 (tg_91 a i z) rfl) q2)
          have z_40 := PLk_w j_39 7 86 rfl (by decide) (by decide) (k := w.toInt) (by omega) (by omega) w_38
          have z_41 := j_39.1.2.2.2.2.2.2.1 w.toInt (by omega) (by omega)
          refine s_v (pc := 35) rw_198_35 (dp0 hd (by decide)) (ls0 := [.ref 77, .int v37]) rfl (Nat.le_of_ble_eq_true rfl) (Nat.le_of_ble_eq_true rfl) rfl (to_rc rfl rfl rfl (g_o hG16 rfl)) rfl (to_an (pc := 0) rw_197_0 rfl (s_gR (pc := 1) rw_197_1 hG16 rfl (v := 83) rfl (to_in (pc := 4) rw_197_4 rfl (s_ial (pc := 5) rw_197_5 hG16 rfl (n := 16) rfl rfl (A := v37.toInt) rfl (by omega) (by omega) (lo := 0) (hi := 63) rfl rfl (fun v42 w_43 _ _ => ?_)))))
          have z_44 := PLk_r j_39 4 83 rfl (by decide) (by decide) (k := v37.toInt) (by omega) (by omega) w_43
          have z_45 := x_row_v (s := sg) (r := 4) (x := v37.toInt) (y := x_row sg 7 w.toInt) (by omega)
          have z_46 := j_39.1.2.2.2.2.2.2.2 (x_row sg 7 w.toInt) (by omega) (by omega)
          refine to_an (pc := 6) rw_197_6 rfl (s_gR (pc := 7) rw_197_7 hG16 rfl (v := 82) rfl (to_in (pc := 10) rw_197_10 rfl (s_ial (pc := 11) rw_197_11 hG16 rfl (n := 16) rfl rfl (A := v37.toInt) rfl (by omega) (by omega) (lo := 0) (hi := 59) rfl rfl (fun v47 w_48 _ _ => ?_))))
          have z_49 := PLk_r j_39 3 82 rfl (by decide) (by decide) (k := v37.toInt) (by omega) (by omega) w_48
          have z_50 := x_row_v (s := sg) (r := 3) (x := v37.toInt) (y := x_row sg 7 w.toInt) (by omega)
          refine s_sub (pc := 12) rw_197_12 (A := v42.toInt) (B := v47.toInt) rfl rfl (by omega) (fun v51 e52 => to_c (pc := 13) rw_197_13 (x := (1 : Int32)) rfl rfl (s_add (pc := 14) rw_197_14 (A := v51.toInt) (B := 1) rfl rfl (by omega) (fun v53 e54 => to_r0 (pc := 15) rw_197_15 (s_opE (pc := 38) rw_198_38 (w := b >>> v53) rfl (fun v55 e56 => ?_)))))
          have z_57 := x_shz_e (k := (x_row sg 4 (x_row sg 7 w.toInt) - x_row sg 3 (x_row sg 7 w.toInt) + 1)) (by omega) e56
          have z_58 := fun h9 => x_shz_0 (b := b) (k := (x_row sg 4 (x_row sg 7 w.toInt) - x_row sg 3 (x_row sg 7 w.toInt) + 1)) (by omega) (by omega) (by omega) h9
          refine b_ine (pc := 39) rw_198_39 (A := v55.toInt) rfl (fun h59 => ?_) (fun h59 => ?_)
          · refine to_c (pc := 61) rw_198_61 (x := (-1 : Int32)) rfl rfl (to_r0 (pc := 62) rw_198_62 ?_)
            have k_60 : (-1 : Int32).toInt = -1 := rfl
            have j_61 := (NJ_f (fun a i z => W_n W14 (by /-r77,2-/ omega) rfl) q1)
            have t_62 : (M15.2.1 77 29).toInt = (M.2.1 77 29).toInt := congrArg Int32.toInt c_18
            exact h (-1 : Int32) M15 hG16 F17 j_61 (by omega) (by omega) (NWr_n (fun a i z => (W_n W14 (by /-r77,2-/ omega) rfl)) (by omega))
          · refine to_in (pc := 42) rw_198_42 rfl (to_i2l (pc := 43) rw_198_43 (v := (b.toInt64)) rfl (s_s (pc := 44) rw_198_44 (dp0 hd (by decide)) (ls0 := [.long (b.toInt64), .null, .null, .null]) rfl (Nat.le_of_ble_eq_true rfl) (Nat.le_of_ble_eq_true rfl) rfl (to_rcs rfl rfl) rfl (E_151i hX (dp1 hd (by decide)) hG16 rfl (by omega) (x := (b.toInt64)) (b := b) (fun r63 M67 hG65 F64 p_66 => ?_))))
            have F68 := FR.c F17 F64 tg_106
            refine to_an (pc := 47) rw_198_47 rfl (s_gR (pc := 48) rw_198_48 hG65 rfl (v := 84) rfl (to_an (pc := 51) rw_198_51 rfl (s_gR (pc := 52) rw_198_52 hG65 rfl (v := 86) rfl (to_in (pc := 55) rw_198_55 rfl (s_ialk (pc := 56) rw_198_56 hG65 rfl (n := 24) rfl rfl (A := w.toInt) rfl (by omega) (by omega) (v := v37) (F_n F64 (show ¬ (86 < 0) by decide) w_38) (s_ial (pc := 57) rw_198_57 hG65 rfl (n := 16) rfl rfl (A := v37.toInt) rfl (by omega) (by omega) (lo := 0) (hi := 24) rfl rfl (fun v71 w_72 _ _ => ?_)))))))
            have j_73 := (PLk_f (tg_101 F64) j_39)
            have z_74 := PLk_r j_73 5 84 rfl (by decide) (by decide) (k := v37.toInt) (by omega) (by omega) w_72
            have z_75 := x_row_v (s := sg) (r := 5) (x := v37.toInt) (y := x_row sg 7 w.toInt) (by omega)
            refine b_ceq (pc := 58) rw_198_58 (A := r63.toInt) (B := v71.toInt) rfl rfl (fun h76 => ?_) (fun h76 => ?_)
            · refine to_an (pc := 63) rw_198_63 rfl (to_c (pc := 64) rw_198_64 (x := (4 : Int32)) rfl rfl (to_in (pc := 65) rw_198_65 rfl (to_in (pc := 66) rw_198_66 rfl (to_c (pc := 67) rw_198_67 (x := (0 : Int32)) rfl rfl (s_v (pc := 68) rw_198_68 (dp0 hd (by decide)) (ls0 := [.ref 77, .int (4 : Int32), .int w, .int b, .int (0 : Int32)]) rfl (Nat.le_of_ble_eq_true rfl) (Nat.le_of_ble_eq_true rfl) rfl (to_rc rfl rfl rfl (g_o hG65 rfl)) rfl ?_)))))
              have k_77 : (4 : Int32).toInt = 4 := rfl
              have k_78 : (0 : Int32).toInt = 0 := rfl
              have c_79 : M67.2.1 77 29 = (M.2.1 77 29) := (F_n F64 (show ¬ (77 < 0) by decide) c_18)
              have t_80 : (M67.2.1 77 29).toInt = (M.2.1 77 29).toInt := congrArg Int32.toInt c_79
              have j_81 := (NJ_f (tg_102 F64) (NJ_f (fun a i z => W_n W14 (by /-r77,2-/ omega) rfl) q1))
              refine E_191 hX (dp1 hd (by decide)) hG65 (by omega) (by omega) (by omega) (by omega) (by omega) (by omega) (by omega) (by omega) (by omega) (by omega) j_81 (w := (4 : Int32)) (o := w) (m := b) (v := (0 : Int32)) (fun r82 M89 hG84 F83 p_85 p_86 p_87 p_88 => ?_)
              have F90 := FR.c F68 F83 tg_105
              have b_91 := g_b hG84 (a := 77) (i := 29) (lo := 0) (hi := 150) rfl rfl
              refine to_r0 (pc := 71) rw_198_71 ?_
              exact h r82 M89 hG84 F90 p_87 (by omega) (by omega) (NWr_o (fun a i z => (F_n F64 (show ¬ (a < 0) by omega) (W_n W14 (by /-r77,2-/ omega) rfl))) p_88)
            · refine to_c (pc := 61) rw_198_61 (x := (-1 : Int32)) rfl rfl (to_r0 (pc := 62) rw_198_62 ?_)
              have k_92 : (-1 : Int32).toInt = -1 := rfl
              have j_93 := (NJ_f (tg_102 F64) (NJ_f (fun a i z => W_n W14 (by /-r77,2-/ omega) rfl) q1))
              have c_94 : M67.2.1 77 29 = (M.2.1 77 29) := (F_n F64 (show ¬ (77 < 0) by decide) c_18)
              have t_95 : (M67.2.1 77 29).toInt = (M.2.1 77 29).toInt := congrArg Int32.toInt c_94
              exact h (-1 : Int32) M67 hG65 F68 j_93 (by omega) (by omega) (NWr_n (fun a i z => (F_n F64 (show ¬ (a < 0) by omega) (W_n W14 (by /-r77,2-/ omega) rfl))) (by omega))
set_option maxRecDepth 4000 in
set_option maxHeartbeats 0 in
theorem E_199 {X : mm_X} {d : Nat} {M : mm_M} {Q : Option Value → mm_M → Prop} {n : Int32} {sg : x_S} (hX : g_X X) (hd : 1 ≤ d) (hG : g_G M) (q1 : NJ M) (q2 : PLk M sg) (h : ∀ (r : Int32) (M1 : mm_M), g_G M1 → FR md_t2 M M1 → NJ M1 → ((0 ≤ n.toInt ∧ n.toInt < (M.2.1 77 29).toInt) ∧ (M.2.1 77 29).toInt < 150 → r.toInt = (M.2.1 77 29).toInt ∧ (M1.2.1 77 29).toInt = (M.2.1 77 29).toInt + 1) → (¬ ((0 ≤ n.toInt ∧ n.toInt < (M.2.1 77 29).toInt) ∧ (M.2.1 77 29).toInt < 150) → r.toInt = -1 ∧ (M1.2.1 77 29).toInt = (M.2.1 77 29).toInt) → (NWr M M1 r.toInt (5 : Int32) n (0 : Int32) (0 : Int32)) → Q (some (.int r)) M1) : mm_T X d 198 0 [.ref 77, .int n] [] M Q := by
  have F0 : FR md_t2 M M := FR.rf
  have z_1 := q2.2.1
  have z_2 := q2.2.2.1
  have z_3 := q2.2.2.2.1
  have z_4 := q2.1
  have z_5 := z_4.1
  have z_6 := z_4.2.1
  have z_7 := z_4.2.2.1
  have z_8 := z_4.2.2.2.1
  have z_9 := z_4.2.2.2.2.1
  have z_10 := z_4.2.2.2.2.2.1
  have b_11 := g_b hG (a := 77) (i := 11) (lo := 10) (hi := 60) rfl rfl
  have b_12 := g_b hG (a := 77) (i := 12) (lo := 0) (hi := 8) rfl rfl
  have b_13 := g_b hG (a := 77) (i := 13) (lo := 0) (hi := 12) rfl rfl
  refine to_an (pc := 0) rw_199_0 rfl (to_c (pc := 1) rw_199_1 (x := (0 : Int32)) rfl rfl (s_pI (pc := 2) rw_199_2 hG rfl (fun M15 W14 => ?_)))
  have hG16 := g_wf hG W14 rfl rfl (by decide)
  have F17 := FR.w F0 W14 (show 77 = 77 ∧ (2 = 2 ∨ 2 = 29) ∨ 90 ≤ 77 ∧ 77 ≤ 93 by decide)
  refine to_an (pc := 5) rw_199_5 rfl ?_
  have c_18 : M15.2.1 77 29 = (M.2.1 77 29) := (W_n W14 (by decide) rfl)
  have b_19 := g_b hG (a := 77) (i := 29) (lo := 0) (hi := 150) rfl rfl
  refine tt_gI (pc := 6) rw_199_6 (g_o hG16 rfl) (v := (M.2.1 77 29)) c_18 (to_c (pc := 9) rw_199_9 (x := (150 : Int32)) rfl rfl (b_ceq (pc := 12) rw_199_12 (A := (M.2.1 77 29).toInt) (B := 150) rfl rfl (fun h20 => ?_) (fun h20 => ?_)))
  · refine to_c (pc := 27) rw_199_27 (x := (-1 : Int32)) rfl rfl (to_go (pc := 28) rw_199_28 (to_r0 (pc := 39) rw_199_39 ?_))
    have k_21 : (-1 : Int32).toInt = -1 := rfl
    have j_22 := (NJ_f (fun a i z => W_n W14 (by /-r77,2-/ omega) rfl) q1)
    have t_23 : (M15.2.1 77 29).toInt = (M.2.1 77 29).toInt := congrArg Int32.toInt c_18
    exact h (-1 : Int32) M15 hG16 F17 j_22 (by omega) (by omega) (NWr_n (fun a i z => (W_n W14 (by /-r77,2-/ omega) rfl)) (by omega))
  · refine to_in (pc := 15) rw_199_15 rfl (b_ilt (pc := 16) rw_199_16 (A := n.toInt) rfl (fun h24 => ?_) (fun h24 => ?_))
    · refine to_c (pc := 27) rw_199_27 (x := (-1 : Int32)) rfl rfl (to_go (pc := 28) rw_199_28 (to_r0 (pc := 39) rw_199_39 ?_))
      have k_25 : (-1 : Int32).toInt = -1 := rfl
      have j_26 := (NJ_f (fun a i z => W_n W14 (by /-r77,2-/ omega) rfl) q1)
      have t_27 : (M15.2.1 77 29).toInt = (M.2.1 77 29).toInt := congrArg Int32.toInt c_18
      exact h (-1 : Int32) M15 hG16 F17 j_26 (by omega) (by omega) (NWr_n (fun a i z => (W_n W14 (by /-r77,2-/ omega) rfl)) (by omega))
    · refine to_in (pc := 19) rw_199_19 rfl (to_an (pc := 20) rw_199_20 rfl (tt_gI (pc := 21) rw_199_21 (g_o hG16 rfl) (v := (M.2.1 77 29)) c_18 (b_clt (pc := 24) rw_199_24 (A := n.toInt) (B := (M.2.1 77 29).toInt) rfl rfl (fun h28 => ?_) (fun h28 => ?_))))
      · refine to_an (pc := 31) rw_199_31 rfl (to_c (pc := 32) rw_199_32 (x := (5 : Int32)) rfl rfl (to_in (pc := 33) rw_199_33 rfl (to_c (pc := 34) rw_199_34 (x := (0 : Int32)) rfl rfl (to_c (pc := 35) rw_199_35 (x := (0 : Int32)) rfl rfl (s_v (pc := 36) rw_199_36 (dp0 hd (by decide)) (ls0 := [.ref 77, .int (5 : Int32), .int n, .int (0 : Int32), .int (0 : Int32)]) rfl (Nat.le_of_ble_eq_true rfl) (Nat.le_of_ble_eq_true rfl) rfl (to_rc rfl rfl rfl (g_o hG16 rfl)) rfl ?_)))))
        have k_29 : (5 : Int32).toInt = 5 := rfl
        have k_30 : (0 : Int32).toInt = 0 := rfl
        have t_31 : (M15.2.1 77 29).toInt = (M.2.1 77 29).toInt := congrArg Int32.toInt c_18
        have j_32 := (NJ_f (fun a i z => W_n W14 (by /-r77,2-/ omega) rfl) q1)
        refine E_191 hX (dp1 hd (by decide)) hG16 (by omega) (by omega) (by omega) (by omega) (by omega) (by omega) (by omega) (by omega) (by omega) (by omega) j_32 (w := (5 : Int32)) (o := n) (m := (0 : Int32)) (v := (0 : Int32)) (fun r33 M40 hG35 F34 p_36 p_37 p_38 p_39 => ?_)
        have F41 := FR.c F17 F34 tg_105
        have b_42 := g_b hG35 (a := 77) (i := 29) (lo := 0) (hi := 150) rfl rfl
        refine to_r0 (pc := 39) rw_199_39 ?_
        exact h r33 M40 hG35 F41 p_38 (by omega) (by omega) (NWr_o (fun a i z => (W_n W14 (by /-r77,2-/ omega) rfl)) p_39)
      · refine to_c (pc := 27) rw_199_27 (x := (-1 : Int32)) rfl rfl (to_go (pc := 28) rw_199_28 (to_r0 (pc := 39) rw_199_39 ?_))
        have k_43 : (-1 : Int32).toInt = -1 := rfl
        have j_44 := (NJ_f (fun a i z => W_n W14 (by /-r77,2-/ omega) rfl) q1)
        have t_45 : (M15.2.1 77 29).toInt = (M.2.1 77 29).toInt := congrArg Int32.toInt c_18
        exact h (-1 : Int32) M15 hG16 F17 j_44 (by omega) (by omega) (NWr_n (fun a i z => (W_n W14 (by /-r77,2-/ omega) rfl)) (by omega))
