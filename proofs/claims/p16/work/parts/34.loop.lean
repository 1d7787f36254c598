/-! THE LAW'S LOOP -/
set_option maxRecDepth 4000 in
theorem LW_sw {X : mm_X} {d L : Nat} {M : mm_M} {Q : Option Value → mm_M → Prop} {i v : Int32} {u5 u6 : Value} (hX : g_X X) (hW : g_W X) (hW2 : g_W2 X) (hL : (X 0).1 = L) (h3 : L ≤ 3072) (hd : 40 ≤ d) (hi : 0 ≤ i.toInt) (hi2 : i.toInt + 6 ≤ (L : Int)) (H : LI9 M) (hv0 : 0 ≤ v.toInt) (hv1 : v.toInt ≤ 31) (h : ∀ (M1 : mm_M) (v5 v6 : Value), LI9 M1 → M1.1.2.1 ≤ M.1.2.1 + 1 → M1.1.2.2.1 ≤ M.1.2.2.1 + 6 → mm_T X d 0 1313 [.ref mm_ext, .ref 0, .ref 77, .ref 125, .int i, v5, v6] [] M1 Q) : mm_T X d 0 40 [.ref mm_ext, .ref 0, .ref 77, .ref 125, .int i, u5, u6] [.int v] M Q := by
  by_cases e0 : v.toInt = 0
  · exact s_sw (pc := 40) rw_0_40 (A := v.toInt) (k := 0) (t := 176) rfl e0 (by decide) rfl (LW_0 hX hW hW2 hL h3 hd hi hi2 H h)
  by_cases e1 : v.toInt = 1
  · exact s_sw (pc := 40) rw_0_40 (A := v.toInt) (k := 1) (t := 249) rfl e1 (by decide) rfl (LW_1 hX hW hW2 hL h3 hd hi hi2 H h)
  by_cases e2 : v.toInt = 2
  · exact s_sw (pc := 40) rw_0_40 (A := v.toInt) (k := 2) (t := 274) rfl e2 (by decide) rfl (LW_2 hX hW hW2 hL h3 hd hi hi2 H h)
  by_cases e3 : v.toInt = 3
  · exact s_sw (pc := 40) rw_0_40 (A := v.toInt) (k := 3) (t := 299) rfl e3 (by decide) rfl (LW_3 hX hW hW2 hL h3 hd hi hi2 H h)
  by_cases e4 : v.toInt = 4
  · exact s_sw (pc := 40) rw_0_40 (A := v.toInt) (k := 4) (t := 324) rfl e4 (by decide) rfl (LW_4 hX hW hW2 hL h3 hd hi hi2 H h)
  by_cases e5 : v.toInt = 5
  · exact s_sw (pc := 40) rw_0_40 (A := v.toInt) (k := 5) (t := 349) rfl e5 (by decide) rfl (LW_5 hX hW hW2 hL h3 hd hi hi2 H h)
  by_cases e6 : v.toInt = 6
  · exact s_sw (pc := 40) rw_0_40 (A := v.toInt) (k := 6) (t := 386) rfl e6 (by decide) rfl (LW_6 hX hW hW2 hL h3 hd hi hi2 H h)
  by_cases e7 : v.toInt = 7
  · exact s_sw (pc := 40) rw_0_40 (A := v.toInt) (k := 7) (t := 426) rfl e7 (by decide) rfl (LW_7 hX hW hW2 hL h3 hd hi hi2 H h)
  by_cases e8 : v.toInt = 8
  · exact s_sw (pc := 40) rw_0_40 (A := v.toInt) (k := 8) (t := 463) rfl e8 (by decide) rfl (LW_8 hX hW hW2 hL h3 hd hi hi2 H h)
  by_cases e9 : v.toInt = 9
  · exact s_sw (pc := 40) rw_0_40 (A := v.toInt) (k := 9) (t := 500) rfl e9 (by decide) rfl (LW_9 hX hW hW2 hL h3 hd hi hi2 H h)
  by_cases e10 : v.toInt = 10
  · exact s_sw (pc := 40) rw_0_40 (A := v.toInt) (k := 10) (t := 513) rfl e10 (by decide) rfl (LW_10 hX hW hW2 hL h3 hd hi hi2 H h)
  by_cases e11 : v.toInt = 11
  · exact s_sw (pc := 40) rw_0_40 (A := v.toInt) (k := 11) (t := 562) rfl e11 (by decide) rfl (LW_11 hX hW hW2 hL h3 hd hi hi2 H h)
  by_cases e12 : v.toInt = 12
  · exact s_sw (pc := 40) rw_0_40 (A := v.toInt) (k := 12) (t := 599) rfl e12 (by decide) rfl (LW_12 hX hW hW2 hL h3 hd hi hi2 H h)
  by_cases e13 : v.toInt = 13
  · exact s_sw (pc := 40) rw_0_40 (A := v.toInt) (k := 13) (t := 664) rfl e13 (by decide) rfl (LW_13 hX hW hW2 hL h3 hd hi hi2 H h)
  by_cases e14 : v.toInt = 14
  · exact s_sw (pc := 40) rw_0_40 (A := v.toInt) (k := 14) (t := 701) rfl e14 (by decide) rfl (LW_14 hX hW hW2 hL h3 hd hi hi2 H h)
  by_cases e15 : v.toInt = 15
  · exact s_sw (pc := 40) rw_0_40 (A := v.toInt) (k := 15) (t := 726) rfl e15 (by decide) rfl (LW_15 hX hW hW2 hL h3 hd hi hi2 H h)
  by_cases e16 : v.toInt = 16
  · exact s_sw (pc := 40) rw_0_40 (A := v.toInt) (k := 16) (t := 763) rfl e16 (by decide) rfl (LW_16 hX hW hW2 hL h3 hd hi hi2 H h)
  by_cases e17 : v.toInt = 17
  · exact s_sw (pc := 40) rw_0_40 (A := v.toInt) (k := 17) (t := 812) rfl e17 (by decide) rfl (LW_17 hX hW hW2 hL h3 hd hi hi2 H h)
  by_cases e18 : v.toInt = 18
  · exact s_sw (pc := 40) rw_0_40 (A := v.toInt) (k := 18) (t := 837) rfl e18 (by decide) rfl (LW_18 hX hW hW2 hL h3 hd hi hi2 H h)
  by_cases e19 : v.toInt = 19
  · exact s_sw (pc := 40) rw_0_40 (A := v.toInt) (k := 19) (t := 850) rfl e19 (by decide) rfl (LW_19 hX hW hW2 hL h3 hd hi hi2 H h)
  by_cases e20 : v.toInt = 20
  · exact s_sw (pc := 40) rw_0_40 (A := v.toInt) (k := 20) (t := 887) rfl e20 (by decide) rfl (LW_20 hX hW hW2 hL h3 hd hi hi2 H h)
  by_cases e21 : v.toInt = 21
  · exact s_sw (pc := 40) rw_0_40 (A := v.toInt) (k := 21) (t := 956) rfl e21 (by decide) rfl (LW_21 hX hW hW2 hL h3 hd hi hi2 H h)
  by_cases e22 : v.toInt = 22
  · exact s_sw (pc := 40) rw_0_40 (A := v.toInt) (k := 22) (t := 969) rfl e22 (by decide) rfl (LW_22 hX hW hW2 hL h3 hd hi hi2 H h)
  by_cases e23 : v.toInt = 23
  · exact s_sw (pc := 40) rw_0_40 (A := v.toInt) (k := 23) (t := 1006) rfl e23 (by decide) rfl (LW_23 hX hW hW2 hL h3 hd hi hi2 H h)
  by_cases e24 : v.toInt = 24
  · exact s_sw (pc := 40) rw_0_40 (A := v.toInt) (k := 24) (t := 1055) rfl e24 (by decide) rfl (LW_24 hX hW hW2 hL h3 hd hi hi2 H h)
  by_cases e25 : v.toInt = 25
  · exact s_sw (pc := 40) rw_0_40 (A := v.toInt) (k := 25) (t := 1092) rfl e25 (by decide) rfl (LW_25 hX hW hW2 hL h3 hd hi hi2 H h)
  by_cases e26 : v.toInt = 26
  · exact s_sw (pc := 40) rw_0_40 (A := v.toInt) (k := 26) (t := 1129) rfl e26 (by decide) rfl (LW_26 hX hW hW2 hL h3 hd hi hi2 H h)
  by_cases e27 : v.toInt = 27
  · exact s_sw (pc := 40) rw_0_40 (A := v.toInt) (k := 27) (t := 1202) rfl e27 (by decide) rfl (LW_27 hX hW hW2 hL h3 hd hi hi2 H h)
  by_cases e28 : v.toInt = 28
  · exact s_sw (pc := 40) rw_0_40 (A := v.toInt) (k := 28) (t := 1239) rfl e28 (by decide) rfl (LW_28 hX hW hW2 hL h3 hd hi hi2 H h)
  by_cases e29 : v.toInt = 29
  · exact s_sw (pc := 40) rw_0_40 (A := v.toInt) (k := 29) (t := 1288) rfl e29 (by decide) rfl (LW_29 hX hW hW2 hL h3 hd hi hi2 H h)
  exact s_swd (pc := 40) rw_0_40 (A := v.toInt) rfl (by omega) (h M u5 u6 H (by omega) (by omega))
set_option maxRecDepth 4000 in
theorem LW_loop {X : mm_X} {d L : Nat} {Q : Option Value → mm_M → Prop} (hX : g_X X) (hW : g_W X) (hW2 : g_W2 X) (hL : (X 0).1 = L) (h3 : L ≤ 3072) (hd : 40 ≤ d) (hQ : ∀ M : mm_M, M.1.2.1 ≤ 126 + 3078 → M.1.2.2.1 ≤ 7628 + 3078 → Q (some (.int 1)) M) : ∀ (n : Nat) (i : Int32) (u5 u6 : Value) (M : mm_M), (L : Int) - i.toInt ≤ (n : Int) → 0 ≤ i.toInt → i.toInt ≤ (L : Int) → LI9 M → (M.1.2.1 : Int) ≤ 126 + i.toInt → (M.1.2.2.1 : Int) ≤ 7628 + i.toInt → mm_T X d 0 23 [.ref mm_ext, .ref 0, .ref 77, .ref 125, .int i, u5, u6] [] M Q
  | n, i, u5, u6, M, hn, h0, h1, H, k1, k2 => by
    refine to_i (pc := 23) rw_0_23 rfl ?_
    refine to_an (pc := 25) rw_0_25 rfl ?_
    refine s_xlen0 (pc := 26) rw_0_26 hL h3 (fun v e1 => ?_)
    refine to_c (pc := 27) rw_0_27 (x := (6 : Int32)) rfl rfl ?_
    refine s_sub (pc := 29) rw_0_29 (A := v.toInt) (B := 6) rfl rfl (by omega) (fun w e2 => ?_)
    refine b_cgt (pc := 30) rw_0_30 (A := i.toInt) (B := w.toInt) rfl rfl (fun g => ?_) (fun g => ?_)
    · refine to_c (pc := 1319) rw_0_1319 (x := (1 : Int32)) rfl rfl ?_
      refine to_r1 (pc := 1320) rw_0_1320 (Or.inr rfl) ?_
      exact hQ M (by omega) (by omega)
    · refine to_an (pc := 33) rw_0_33 rfl ?_
      refine to_i (pc := 34) rw_0_34 rfl ?_
      refine s_x0 (pc := 36) rw_0_36 hL (A := i.toInt) rfl h0 (by omega) (fun x e3 => ?_)
      refine to_c (pc := 37) rw_0_37 (x := (31 : Int32)) rfl rfl ?_
      refine s_and (pc := 39) rw_0_39 (B := 31) rfl (by omega) (fun y e4 y0 y1 => ?_)
      refine LW_sw hX hW hW2 hL h3 hd h0 (by omega) H y0 y1 (fun M1 v5 v6 H1 c1 c2 => ?_)
      refine s_inc (pc := 1313) rw_0_1313 (x := i) (A := i.toInt) (B := 6) (ls2 := fun z => [.ref mm_ext, .ref 0, .ref 77, .ref 125, .int z, v5, v6]) rfl rfl (fun z => rfl) rfl rfl (by omega) (fun z e5 => ?_)
      refine to_go (pc := 1316) rw_0_1316 ?_
      match n, hn with
      | 0, hn => exact absurd hn (by omega)
      | n + 1, hn => exact LW_loop hX hW hW2 hL h3 hd hQ n z v5 v6 M1 (by omega) (by omega) (by omega) H1 (by omega) (by omega)
theorem fs_A : (Nat.beq fr_A.1.2.2.2 0 && Nat.blt fr_A.1.1.1 900000) = true ∧ fr_A.1.1.1 = 77 := by decide +kernel
theorem fs_B : (Nat.beq fr_B.1.2.2.2 0 && Nat.blt fr_B.1.1.1 900000) = true ∧ fr_B.1.1.1 = 125 := by decide +kernel
set_option maxRecDepth 4000 in
theorem fr_2o : mm_isObj fr_2a 77 11 = true := by decide +kernel
set_option maxRecDepth 4000 in
theorem op_pre0 {L : Nat} {xs : Nat → Int32} {Q : Option Value → mm_M → Prop} {A0 A A2 B M : mm_M} (e0 : mm_new mm_M0 10 0 13 = A0) (h0 : mm_isObj A0 0 10 = true) (hA : (fr_r 600 39 109 [.ref 0] A0).map (fun z => z.1) = some none) (n0 : ns_H A0) (eA : fr_m (fr_r 600 39 109 [.ref 0] A0) = A) (a1 : (Nat.beq A.1.2.2.2 0 && Nat.blt A.1.1.1 900000) = true) (a2 : A.1.1.1 = 77) (e2 : mm_new A 11 0 78 = A2) (h2 : mm_isObj A2 77 11 = true) (hB : (fr_r 2000 39 146 [.ref 77] A2).map (fun z => z.1) = some none) (n2 : ns_H A2) (eB : fr_m (fr_r 2000 39 146 [.ref 77] A2) = B) (b1 : (Nat.beq B.1.2.2.2 0 && Nat.blt B.1.1.1 900000) = true) (b2 : B.1.1.1 = 125) (eM : mm_new B 101 1 1 = M) (h : mm_T (fr_X L xs) 40 0 23 [.ref mm_ext, .ref 0, .ref 77, .ref 125, .int 0, .null, .null] [] M Q) : mm_T (fr_X L xs) 40 0 0 [.ref mm_ext, .null, .null, .null, .null, .null, .null] [] mm_M0 Q := by
  refine to_new (pc := 0) rw_0_0 (n := 0) rfl rfl ?_
  rw [e0]
  refine to_dupr (pc := 3) rw_0_3 ?_
  refine to_sp (pc := 4) rw_0_4 (ls0 := mm_entry 109 [.ref 0]) rfl (Nat.le_of_ble_eq_true rfl) (Nat.le_of_ble_eq_true rfl) rfl (to_rc rfl rfl rfl h0) rfl ?_
  refine fr_call (M1 := A) hA rfl n0 eA ?_
  refine to_asn (pc := 7) rw_0_7 (ls2 := [.ref mm_ext, .ref 0, .null, .null, .null, .null, .null]) rfl rfl ?_
  refine to_new (pc := 8) rw_0_8 (n := 77) a1 a2 ?_
  rw [e2]
  refine to_dupr (pc := 11) rw_0_11 ?_
  refine to_sp (pc := 12) rw_0_12 (ls0 := mm_entry 146 [.ref 77]) rfl (Nat.le_of_ble_eq_true rfl) (Nat.le_of_ble_eq_true rfl) rfl (to_rc rfl rfl rfl h2) rfl ?_
  refine fr_call (M1 := B) hB rfl n2 eB ?_
  refine to_asn (pc := 15) rw_0_15 (ls2 := [.ref mm_ext, .ref 0, .ref 77, .null, .null, .null, .null]) rfl rfl ?_
  refine to_c (pc := 16) rw_0_16 (x := (1 : Int32)) rfl rfl ?_
  refine to_nar (pc := 17) rw_0_17 (n := 125) (m := 1) (by decide +kernel) b1 b2 rfl ?_
  rw [eM]
  refine to_asn (pc := 19) rw_0_19 (ls2 := [.ref mm_ext, .ref 0, .ref 77, .ref 125, .null, .null, .null]) rfl rfl ?_
  refine to_c (pc := 20) rw_0_20 (x := (0 : Int32)) rfl rfl ?_
  refine to_is (pc := 21) rw_0_21 (ls2 := [.ref mm_ext, .ref 0, .ref 77, .ref 125, .int 0, .null, .null]) rfl rfl ?_
  exact h
set_option maxRecDepth 4000 in
theorem fr_1o : mm_isObj fr_1a 0 10 = true := by decide +kernel
set_option maxRecDepth 4000 in
theorem op_pre {L : Nat} {xs : Nat → Int32} {Q : Option Value → mm_M → Prop} (h : mm_T (fr_X L xs) 40 0 23 [.ref mm_ext, .ref 0, .ref 77, .ref 125, .int 0, .null, .null] [] cr_M Q) : mm_T (fr_X L xs) 40 0 0 [.ref mm_ext, .null, .null, .null, .null, .null, .null] [] mm_M0 Q := op_pre0 (A0 := fr_1a) (A := fr_A) (A2 := fr_2a) (B := fr_B) (M := cr_M) rfl fr_1o fr_Ar (ns_new fr_0H) fr_Ae fs_A.1 fs_A.2 rfl fr_2o fr_Br (ns_new fr_AH) fr_Be fs_B.1 fs_B.2 rfl h
theorem g_W_fr {L : Nat} {xs : Nat → Int32} : g_W (fr_X L xs) := fun _ _ => rfl
theorem g_W2_fr {L : Nat} {xs : Nat → Int32} : g_W2 (fr_X L xs) := fun _ _ => ⟨rfl, rfl⟩
theorem g_X_fr {L : Nat} {xs : Nat → Int32} : g_X (fr_X L xs) := fun e h1 h2 => by
  rcases (show e = 1 ∨ e = 2 ∨ e = 3 by omega) with rfl | rfl | rfl <;> rfl
noncomputable def p16_Q : Option Value → mm_M → Prop := fun r MF => r = some (.int 1) ∧ MF.1.2.1 ≤ 601024 ∧ MF.1.2.2.1 ≤ 7293034
theorem p16_pure (xs : Nat → Int32) (L : Nat) (hL : L ≤ 3072) : mm_T (fr_X L xs) 40 0 0 (mm_entry 0 [.ref mm_ext]) [] mm_M0 p16_Q := op_pre (LW_loop (L := L) g_X_fr g_W_fr g_W2_fr rfl hL (Nat.le_refl 40) (fun M a b => ⟨rfl, by omega, by omega⟩) L 0 .null .null cr_M (by rw [show (0 : Int32).toInt = 0 from rfl]; omega) (by decide) (by rw [show (0 : Int32).toInt = 0 from rfl]; omega) LI9_M (by
  have h := fs_kM
  unfold fs_k at h
  rw [Bool.and_eq_true] at h
  have := Nat.le_of_ble_eq_true h.1
  rw [show (0 : Int32).toInt = 0 from rfl]; omega) (by
  have h := fs_kM
  unfold fs_k at h
  rw [Bool.and_eq_true] at h
  have := Nat.le_of_ble_eq_true h.2
  rw [show (0 : Int32).toInt = 0 from rfl]; omega))
