/-! THE LAW, on the small machine -/
set_option maxRecDepth 4000 in
theorem cr_Eq : fr_Eq cr_M cr_1 cr_2 cr_3 cr_4 cr_5 cr_6 cr_7 cr_8 cr_9 cr_10 cr_11 cr_12 := ⟨rfl, rfl, rfl, rfl, rfl, rfl, rfl, rfl, rfl, rfl, rfl, rfl, rfl⟩
set_option maxRecDepth 4000 in
theorem fr_2o : mm_isObj fr_2a 77 11 = true := by decide +kernel
set_option maxRecDepth 4000 in
theorem op_pre0 {L : Nat} {xs : Nat → Int32} {Q : Option Value → mm_M → Prop} {A0 A A2 B M : mm_M} (e0 : mm_new mm_M0 10 0 13 = A0) (h0 : mm_isObj A0 0 10 = true) (hA : (fr_r 600 39 109 [.ref 0] A0).map (fun z => z.1) = some none) (n0 : ns_H A0) (eA : fr_m (fr_r 600 39 109 [.ref 0] A0) = A) (a1 : (Nat.beq A.1.2.2.2 0 && Nat.blt A.1.1.1 900000) = true) (a2 : A.1.1.1 = 77) (e2 : mm_new A 11 0 78 = A2) (h2 : mm_isObj A2 77 11 = true) (hB : (fr_r 2000 39 146 [.ref 77] A2).map (fun z => z.1) = some none) (n2 : ns_H A2) (eB : fr_m (fr_r 2000 39 146 [.ref 77] A2) = B) (b1 : (Nat.beq B.1.2.2.2 0 && Nat.blt B.1.1.1 900000) = true) (b2 : B.1.1.1 = 125) (eM : mm_new B 101 1 1 = M) (h : mm_T (fr_X L xs) 40 0 23 [.ref mm_ext, .ref 0, .ref 77, .ref 125, .int 0, .null, .null] [] M Q) : mm_T (fr_X L xs) 40 0 0 [.ref mm_ext, .null, .null, .null, .null, .null, .null] [] mm_M0 Q := by
  refine to_new (pc := 0) rw_0_0 (n := 0) rfl rfl ?_
  rw [e0]
  refine to_dupr (pc := 3) rw_0_3 ?_
  refine to_sp (pc := 4) rw_0_4 (ls0 := mm_entry 109 [.ref 0]) rfl (Nat.le_of_ble_eq_true rfl) (Nat.le_of_ble_eq_true rfl) rfl (to_rc rfl rfl rfl h0) rfl ?_
  refine fr_call (M1 := A) hA rfl n0 eA ?_
  refine to_asn (pc := 7) rw_0_7 (ls2 := [.ref mm_ext, .ref 0, .null, .null, .null, .null, .null]) rfl rfl ?_
  refine to_new (pc := 8) rw_0_8 (n := 77) a1 a2 ?_
  rw [e2]
  refine to_dupr (pc := 11) rw_0_11 ?_
  refine to_sp (pc := 12) rw_0_12 (ls0 := mm_entry 146 [.ref 77]) rfl (Nat.le_of_ble_eq_true rfl) (Nat.le_of_ble_eq_true rfl) rfl (to_rc rfl rfl rfl h2) rfl ?_
  refine fr_call (M1 := B) hB rfl n2 eB ?_
  refine to_asn (pc := 15) rw_0_15 (ls2 := [.ref mm_ext, .ref 0, .ref 77, .null, .null, .null, .null]) rfl rfl ?_
  refine to_c (pc := 16) rw_0_16 (x := (1 : Int32)) rfl rfl ?_
  refine to_nar (pc := 17) rw_0_17 (n := 125) (m := 1) (by decide +kernel) b1 b2 rfl ?_
  rw [eM]
  refine to_asn (pc := 19) rw_0_19 (ls2 := [.ref mm_ext, .ref 0, .ref 77, .ref 125, .null, .null, .null]) rfl rfl ?_
  refine to_c (pc := 20) rw_0_20 (x := (0 : Int32)) rfl rfl ?_
  refine to_is (pc := 21) rw_0_21 (ls2 := [.ref mm_ext, .ref 0, .ref 77, .ref 125, .int 0, .null, .null]) rfl rfl ?_
  exact h
set_option maxRecDepth 4000 in
theorem fr_1o : mm_isObj fr_1a 0 10 = true := by decide +kernel
set_option maxRecDepth 4000 in
theorem op_pre {L : Nat} {xs : Nat → Int32} {Q : Option Value → mm_M → Prop} (h : mm_T (fr_X L xs) 40 0 23 [.ref mm_ext, .ref 0, .ref 77, .ref 125, .int 0, .null, .null] [] cr_M Q) : mm_T (fr_X L xs) 40 0 0 [.ref mm_ext, .null, .null, .null, .null, .null, .null] [] mm_M0 Q := op_pre0 (A0 := fr_1a) (A := fr_A) (A2 := fr_2a) (B := fr_B) (M := cr_M) rfl fr_1o fr_Ar (ns_new fr_0H) fr_Ae fr_A1.1 fr_A1.2 rfl fr_2o fr_Br (ns_new fr_AH) fr_Be fr_B1.1 fr_B1.2 rfl h
set_option maxRecDepth 4000 in
theorem op_sw {fr_M fr_1 fr_2 fr_3 fr_4 fr_5 fr_6 fr_7 fr_8 fr_9 fr_10 fr_11 fr_12 : mm_M} (HM : fr_Eq fr_M fr_1 fr_2 fr_3 fr_4 fr_5 fr_6 fr_7 fr_8 fr_9 fr_10 fr_11 fr_12) {xs : Nat → Int32} : ∀ k : Nat, k < 32 → mm_T (fr_X 6 xs) 40 0 40 [.ref mm_ext, .ref 0, .ref 77, .ref 125, .int 0, .null, .null] [.int (Int32.ofNat k)] fr_M op_Q
  | 0, _ => to_sw (pc := 40) rw_0_40 (t := 176) (by decide +kernel) (by decide +kernel) (op_0 HM rfl rfl rfl rfl rfl)
  | 1, _ => to_sw (pc := 40) rw_0_40 (t := 249) (by decide +kernel) (by decide +kernel) (op_1 HM rfl rfl rfl rfl rfl)
  | 2, _ => to_sw (pc := 40) rw_0_40 (t := 274) (by decide +kernel) (by decide +kernel) (op_2 HM rfl rfl rfl rfl rfl)
  | 3, _ => to_sw (pc := 40) rw_0_40 (t := 299) (by decide +kernel) (by decide +kernel) (op_3 HM rfl rfl rfl rfl rfl)
  | 4, _ => to_sw (pc := 40) rw_0_40 (t := 324) (by decide +kernel) (by decide +kernel) (op_4 HM rfl rfl rfl rfl rfl)
  | 5, _ => to_sw (pc := 40) rw_0_40 (t := 349) (by decide +kernel) (by decide +kernel) (op_5 HM rfl rfl rfl rfl rfl)
  | 6, _ => to_sw (pc := 40) rw_0_40 (t := 386) (by decide +kernel) (by decide +kernel) (op_6 HM rfl rfl rfl rfl rfl)
  | 7, _ => to_sw (pc := 40) rw_0_40 (t := 454) (by decide +kernel) (by decide +kernel) (op_7 HM rfl rfl rfl rfl rfl)
  | 8, _ => to_sw (pc := 40) rw_0_40 (t := 492) (by decide +kernel) (by decide +kernel) (op_8 HM rfl rfl rfl rfl rfl)
  | 9, _ => to_sw (pc := 40) rw_0_40 (t := 530) (by decide +kernel) (by decide +kernel) (op_9 HM rfl rfl rfl rfl rfl)
  | 10, _ => to_sw (pc := 40) rw_0_40 (t := 543) (by decide +kernel) (by decide +kernel) (op_10 HM rfl rfl rfl rfl rfl)
  | 11, _ => to_sw (pc := 40) rw_0_40 (t := 592) (by decide +kernel) (by decide +kernel) (op_11 HM rfl rfl rfl rfl rfl)
  | 12, _ => to_sw (pc := 40) rw_0_40 (t := 629) (by decide +kernel) (by decide +kernel) (op_12 HM rfl rfl rfl rfl rfl)
  | 13, _ => to_sw (pc := 40) rw_0_40 (t := 694) (by decide +kernel) (by decide +kernel) (op_13 HM rfl rfl rfl rfl rfl)
  | 14, _ => to_sw (pc := 40) rw_0_40 (t := 731) (by decide +kernel) (by decide +kernel) (op_14 HM rfl rfl rfl rfl rfl)
  | 15, _ => to_sw (pc := 40) rw_0_40 (t := 756) (by decide +kernel) (by decide +kernel) (op_15 HM rfl rfl rfl rfl rfl)
  | 16, _ => to_sw (pc := 40) rw_0_40 (t := 794) (by decide +kernel) (by decide +kernel) (op_16 HM rfl rfl rfl rfl rfl)
  | 17, _ => to_sw (pc := 40) rw_0_40 (t := 843) (by decide +kernel) (by decide +kernel) (op_17 HM rfl rfl rfl rfl rfl)
  | 18, _ => to_sw (pc := 40) rw_0_40 (t := 868) (by decide +kernel) (by decide +kernel) (op_18 HM rfl rfl rfl rfl rfl)
  | 19, _ => to_sw (pc := 40) rw_0_40 (t := 881) (by decide +kernel) (by decide +kernel) (op_19 HM rfl rfl rfl rfl rfl)
  | 20, _ => to_sw (pc := 40) rw_0_40 (t := 918) (by decide +kernel) (by decide +kernel) (op_20 HM rfl rfl rfl rfl rfl)
  | 21, _ => to_sw (pc := 40) rw_0_40 (t := 987) (by decide +kernel) (by decide +kernel) (op_21 HM rfl rfl rfl rfl rfl)
  | 22, _ => to_sw (pc := 40) rw_0_40 (t := 1000) (by decide +kernel) (by decide +kernel) (op_22 HM rfl rfl rfl rfl rfl)
  | 23, _ => to_sw (pc := 40) rw_0_40 (t := 1037) (by decide +kernel) (by decide +kernel) (op_23 HM rfl rfl rfl rfl rfl)
  | 24, _ => to_sw (pc := 40) rw_0_40 (t := 1087) (by decide +kernel) (by decide +kernel) (op_24 HM rfl rfl rfl rfl rfl)
  | 25, _ => to_sw (pc := 40) rw_0_40 (t := 1124) (by decide +kernel) (by decide +kernel) (op_25 HM rfl rfl rfl rfl rfl)
  | 26, _ => to_sw (pc := 40) rw_0_40 (t := 1161) (by decide +kernel) (by decide +kernel) (op_26 HM rfl rfl rfl rfl rfl)
  | 27, _ => to_sw (pc := 40) rw_0_40 (t := 1234) (by decide +kernel) (by decide +kernel) (op_27 HM rfl rfl rfl rfl rfl)
  | 28, _ => to_sw (pc := 40) rw_0_40 (t := 1271) (by decide +kernel) (by decide +kernel) (op_28 HM rfl rfl rfl rfl rfl)
  | 29, _ => to_sw (pc := 40) rw_0_40 (t := 1320) (by decide +kernel) (by decide +kernel) (op_29 HM rfl rfl rfl rfl rfl)
  | 30, _ => to_swd (pc := 40) rw_0_40 (by decide +kernel) (op_tail (op_c (fC_fr_M HM)))
  | 31, _ => to_swd (pc := 40) rw_0_40 (by decide +kernel) (op_tail (op_c (fC_fr_M HM)))
  | n + 32, h => absurd h (by omega)
set_option maxRecDepth 4000 in
theorem op_6L {fr_M fr_1 fr_2 fr_3 fr_4 fr_5 fr_6 fr_7 fr_8 fr_9 fr_10 fr_11 fr_12 : mm_M} (HM : fr_Eq fr_M fr_1 fr_2 fr_3 fr_4 fr_5 fr_6 fr_7 fr_8 fr_9 fr_10 fr_11 fr_12) {xs : Nat → Int32} : mm_T (fr_X 6 xs) 40 0 23 [.ref mm_ext, .ref 0, .ref 77, .ref 125, .int 0, .null, .null] [] fr_M op_Q := by
  refine to_i (pc := 23) rw_0_23 rfl ?_
  refine to_an (pc := 25) rw_0_25 rfl ?_
  refine to_xlen (e := 0) (pc := 26) rw_0_26 (v := (6 : Int32)) rfl ?_
  refine to_c (pc := 27) rw_0_27 (x := (6 : Int32)) rfl rfl ?_
  refine to_2 (pc := 29) rw_0_29 (v := (0 : Int32)) (by decide +kernel) ?_
  refine to_icf (pc := 30) rw_0_30 (by decide +kernel) ?_
  refine to_an (pc := 33) rw_0_33 rfl ?_
  refine to_i (pc := 34) rw_0_34 rfl ?_
  refine op_x (pc := 36) rw_0_36 (k := 0) (by decide +kernel) rfl ?_
  refine to_c (pc := 37) rw_0_37 (x := (31 : Int32)) rfl rfl ?_
  refine to_2 (pc := 39) rw_0_39 rfl ?_
  obtain ⟨k, hk, e⟩ := and_31 (xs 0)
  rw [e]
  exact op_sw HM k hk
set_option maxRecDepth 4000 in
theorem op_s0 {fr_M fr_1 fr_2 fr_3 fr_4 fr_5 fr_6 fr_7 fr_8 fr_9 fr_10 fr_11 fr_12 : mm_M} (HM : fr_Eq fr_M fr_1 fr_2 fr_3 fr_4 fr_5 fr_6 fr_7 fr_8 fr_9 fr_10 fr_11 fr_12) {xs : Nat → Int32} : mm_T (fr_X 0 xs) 40 0 23 [.ref mm_ext, .ref 0, .ref 77, .ref 125, .int 0, .null, .null] [] fr_M op_Q := by
  refine to_i (pc := 23) rw_0_23 rfl ?_
  refine to_an (pc := 25) rw_0_25 rfl ?_
  refine to_xlen (e := 0) (pc := 26) rw_0_26 (v := (0 : Int32)) rfl ?_
  refine to_c (pc := 27) rw_0_27 (x := (6 : Int32)) rfl rfl ?_
  refine to_2 (pc := 29) rw_0_29 (v := (-6 : Int32)) (by decide +kernel) ?_
  refine to_ict (pc := 30) rw_0_30 (by decide +kernel) ?_
  refine to_c (pc := 1351) rw_0_1351 (x := (1 : Int32)) rfl rfl ?_
  refine to_r1 (pc := 1352) rw_0_1352 (by decide +kernel) ?_
  exact ⟨rfl, op_c (fC_fr_M HM)⟩
set_option maxRecDepth 4000 in
theorem op_s1 {fr_M fr_1 fr_2 fr_3 fr_4 fr_5 fr_6 fr_7 fr_8 fr_9 fr_10 fr_11 fr_12 : mm_M} (HM : fr_Eq fr_M fr_1 fr_2 fr_3 fr_4 fr_5 fr_6 fr_7 fr_8 fr_9 fr_10 fr_11 fr_12) {xs : Nat → Int32} : mm_T (fr_X 1 xs) 40 0 23 [.ref mm_ext, .ref 0, .ref 77, .ref 125, .int 0, .null, .null] [] fr_M op_Q := by
  refine to_i (pc := 23) rw_0_23 rfl ?_
  refine to_an (pc := 25) rw_0_25 rfl ?_
  refine to_xlen (e := 0) (pc := 26) rw_0_26 (v := (1 : Int32)) rfl ?_
  refine to_c (pc := 27) rw_0_27 (x := (6 : Int32)) rfl rfl ?_
  refine to_2 (pc := 29) rw_0_29 (v := (-5 : Int32)) (by decide +kernel) ?_
  refine to_ict (pc := 30) rw_0_30 (by decide +kernel) ?_
  refine to_c (pc := 1351) rw_0_1351 (x := (1 : Int32)) rfl rfl ?_
  refine to_r1 (pc := 1352) rw_0_1352 (by decide +kernel) ?_
  exact ⟨rfl, op_c (fC_fr_M HM)⟩
set_option maxRecDepth 4000 in
theorem op_s2 {fr_M fr_1 fr_2 fr_3 fr_4 fr_5 fr_6 fr_7 fr_8 fr_9 fr_10 fr_11 fr_12 : mm_M} (HM : fr_Eq fr_M fr_1 fr_2 fr_3 fr_4 fr_5 fr_6 fr_7 fr_8 fr_9 fr_10 fr_11 fr_12) {xs : Nat → Int32} : mm_T (fr_X 2 xs) 40 0 23 [.ref mm_ext, .ref 0, .ref 77, .ref 125, .int 0, .null, .null] [] fr_M op_Q := by
  refine to_i (pc := 23) rw_0_23 rfl ?_
  refine to_an (pc := 25) rw_0_25 rfl ?_
  refine to_xlen (e := 0) (pc := 26) rw_0_26 (v := (2 : Int32)) rfl ?_
  refine to_c (pc := 27) rw_0_27 (x := (6 : Int32)) rfl rfl ?_
  refine to_2 (pc := 29) rw_0_29 (v := (-4 : Int32)) (by decide +kernel) ?_
  refine to_ict (pc := 30) rw_0_30 (by decide +kernel) ?_
  refine to_c (pc := 1351) rw_0_1351 (x := (1 : Int32)) rfl rfl ?_
  refine to_r1 (pc := 1352) rw_0_1352 (by decide +kernel) ?_
  exact ⟨rfl, op_c (fC_fr_M HM)⟩
set_option maxRecDepth 4000 in
theorem op_s3 {fr_M fr_1 fr_2 fr_3 fr_4 fr_5 fr_6 fr_7 fr_8 fr_9 fr_10 fr_11 fr_12 : mm_M} (HM : fr_Eq fr_M fr_1 fr_2 fr_3 fr_4 fr_5 fr_6 fr_7 fr_8 fr_9 fr_10 fr_11 fr_12) {xs : Nat → Int32} : mm_T (fr_X 3 xs) 40 0 23 [.ref mm_ext, .ref 0, .ref 77, .ref 125, .int 0, .null, .null] [] fr_M op_Q := by
  refine to_i (pc := 23) rw_0_23 rfl ?_
  refine to_an (pc := 25) rw_0_25 rfl ?_
  refine to_xlen (e := 0) (pc := 26) rw_0_26 (v := (3 : Int32)) rfl ?_
  refine to_c (pc := 27) rw_0_27 (x := (6 : Int32)) rfl rfl ?_
  refine to_2 (pc := 29) rw_0_29 (v := (-3 : Int32)) (by decide +kernel) ?_
  refine to_ict (pc := 30) rw_0_30 (by decide +kernel) ?_
  refine to_c (pc := 1351) rw_0_1351 (x := (1 : Int32)) rfl rfl ?_
  refine to_r1 (pc := 1352) rw_0_1352 (by decide +kernel) ?_
  exact ⟨rfl, op_c (fC_fr_M HM)⟩
set_option maxRecDepth 4000 in
theorem op_s4 {fr_M fr_1 fr_2 fr_3 fr_4 fr_5 fr_6 fr_7 fr_8 fr_9 fr_10 fr_11 fr_12 : mm_M} (HM : fr_Eq fr_M fr_1 fr_2 fr_3 fr_4 fr_5 fr_6 fr_7 fr_8 fr_9 fr_10 fr_11 fr_12) {xs : Nat → Int32} : mm_T (fr_X 4 xs) 40 0 23 [.ref mm_ext, .ref 0, .ref 77, .ref 125, .int 0, .null, .null] [] fr_M op_Q := by
  refine to_i (pc := 23) rw_0_23 rfl ?_
  refine to_an (pc := 25) rw_0_25 rfl ?_
  refine to_xlen (e := 0) (pc := 26) rw_0_26 (v := (4 : Int32)) rfl ?_
  refine to_c (pc := 27) rw_0_27 (x := (6 : Int32)) rfl rfl ?_
  refine to_2 (pc := 29) rw_0_29 (v := (-2 : Int32)) (by decide +kernel) ?_
  refine to_ict (pc := 30) rw_0_30 (by decide +kernel) ?_
  refine to_c (pc := 1351) rw_0_1351 (x := (1 : Int32)) rfl rfl ?_
  refine to_r1 (pc := 1352) rw_0_1352 (by decide +kernel) ?_
  exact ⟨rfl, op_c (fC_fr_M HM)⟩
set_option maxRecDepth 4000 in
theorem op_s5 {fr_M fr_1 fr_2 fr_3 fr_4 fr_5 fr_6 fr_7 fr_8 fr_9 fr_10 fr_11 fr_12 : mm_M} (HM : fr_Eq fr_M fr_1 fr_2 fr_3 fr_4 fr_5 fr_6 fr_7 fr_8 fr_9 fr_10 fr_11 fr_12) {xs : Nat → Int32} : mm_T (fr_X 5 xs) 40 0 23 [.ref mm_ext, .ref 0, .ref 77, .ref 125, .int 0, .null, .null] [] fr_M op_Q := by
  refine to_i (pc := 23) rw_0_23 rfl ?_
  refine to_an (pc := 25) rw_0_25 rfl ?_
  refine to_xlen (e := 0) (pc := 26) rw_0_26 (v := (5 : Int32)) rfl ?_
  refine to_c (pc := 27) rw_0_27 (x := (6 : Int32)) rfl rfl ?_
  refine to_2 (pc := 29) rw_0_29 (v := (-1 : Int32)) (by decide +kernel) ?_
  refine to_ict (pc := 30) rw_0_30 (by decide +kernel) ?_
  refine to_c (pc := 1351) rw_0_1351 (x := (1 : Int32)) rfl rfl ?_
  refine to_r1 (pc := 1352) rw_0_1352 (by decide +kernel) ?_
  exact ⟨rfl, op_c (fC_fr_M HM)⟩
set_option maxRecDepth 4000 in
theorem p1_pure (xs : Nat → Int32) : ∀ L : Nat, L ≤ 6 → mm_T (fr_X L xs) 40 0 0 (mm_entry 0 [.ref mm_ext]) [] mm_M0 op_Q
  | 0, _ => op_pre (op_s0 cr_Eq)
  | 1, _ => op_pre (op_s1 cr_Eq)
  | 2, _ => op_pre (op_s2 cr_Eq)
  | 3, _ => op_pre (op_s3 cr_Eq)
  | 4, _ => op_pre (op_s4 cr_Eq)
  | 5, _ => op_pre (op_s5 cr_Eq)
  | 6, _ => op_pre (op_6L cr_Eq)
  | n + 7, h => absurd h (by omega)
