/-! feed on the fresh state: the memory is known by the facts that feed reads -/
def fd_S (M : mm_M) : Prop := (op_b M = true) ∧ ((Nat.blt 2 M.1.1.1 && Nat.ble 100 (M.1.1.2.1 2) && Nat.ble (M.1.1.2.1 2) 104) = true) ∧ (M.1.1.2.2 2 = 500) ∧ (M.1.1.2.2 78 = 500) ∧ (mm_isObj M 0 10 = true) ∧ (mm_isObj M 1 8 = true) ∧ (mm_isObj M 2 103 = true) ∧ (mm_isObj M 77 11 = true) ∧ (mm_isObj M 78 100 = true) ∧ (M.2.2.2 0 0 = some 1) ∧ (M.2.2.2 1 0 = some 2) ∧ (M.2.2.2 77 0 = some 78) ∧ (mm_isObj M 2 102 = false)
def fd_P (M : mm_M) (k c : Int32) : Prop := fd_S M ∧ M.2.1 1 1 = k ∧ M.2.1 77 1 = c
set_option maxRecDepth 4000 in
theorem fd_s {M : mm_M} {k c x : Int32} {a i : Nat} (P : fd_P M k c) (h1 : (Nat.beq 1 a && Nat.beq 1 i) = false) (h2 : (Nat.beq 77 a && Nat.beq 1 i) = false) : fd_P (mm_setI M a i x) k c := ⟨P.1, rI_n h1 P.2.1, rI_n h2 P.2.2⟩
set_option maxRecDepth 4000 in
theorem fd_k {M : mm_M} {k c x : Int32} (P : fd_P M k c) : fd_P (mm_setI M 1 1 x) x c := ⟨P.1, rI_e, rI_n rfl P.2.2⟩
set_option maxRecDepth 4000 in
theorem fd_c {M : mm_M} {k c x : Int32} (P : fd_P M k c) : fd_P (mm_setI M 77 1 x) k x := ⟨P.1, rI_n rfl P.2.1, rI_e⟩
set_option maxRecDepth 4000 in
theorem fd_b_0 {X : mm_X} {d : Nat} {Q : Option Value → mm_M → Prop} {M : mm_M} {x c : Int32} (P : fd_P M (0 : Int32) c) (h : ∀ M1, fd_P M1 (1 : Int32) c → mm_T X d 77 3 [.ref 1, .int x, .int (16 : Int32)] [] M1 Q) : mm_T X d 77 3 [.ref 1, .int x, .int (24 : Int32)] [] M Q := by
  have fC := P.1.1
  have fK_2_0 := P.1.2.1
  have fN_2_0 := P.1.2.2.1
  have fN_78_0 := P.1.2.2.2.1
  have fO_0_10 := P.1.2.2.2.2.1
  have fO_1_8 := P.1.2.2.2.2.2.1
  have fO_2_103 := P.1.2.2.2.2.2.2.1
  have fO_77_11 := P.1.2.2.2.2.2.2.2.1
  have fO_78_100 := P.1.2.2.2.2.2.2.2.2.1
  have fR_0_0 := P.1.2.2.2.2.2.2.2.2.2.1
  have fR_1_0 := P.1.2.2.2.2.2.2.2.2.2.2.1
  have fR_77_0 := P.1.2.2.2.2.2.2.2.2.2.2.2.1
  have fX_2_102 := P.1.2.2.2.2.2.2.2.2.2.2.2.2
  have k0 := P.2.1
  have c0 := P.2.2
  refine to_in (pc := 3) rw_77_3 rfl ?_
  refine to_iff (pc := 4) rw_77_4 (by decide +kernel) ?_
  refine to_an (pc := 7) rw_77_7 rfl ?_
  refine tt_gI (pc := 8) rw_77_8 fO_1_8 k0 ?_
  refine to_an (pc := 11) rw_77_11 rfl ?_
  refine tt_gR (pc := 12) rw_77_12 fO_1_8 fR_1_0 ?_
  refine tt_len (pc := 15) rw_77_15 rfl fK_2_0 fN_2_0 ?_
  refine to_icf (pc := 16) rw_77_16 (by decide +kernel) ?_
  refine to_an (pc := 19) rw_77_19 rfl ?_
  refine tt_gR (pc := 20) rw_77_20 fO_1_8 fR_1_0 ?_
  refine to_an (pc := 23) rw_77_23 rfl ?_
  refine tt_gI (pc := 24) rw_77_24 fO_1_8 k0 ?_
  refine to_in (pc := 27) rw_77_27 rfl ?_
  refine to_in (pc := 28) rw_77_28 rfl ?_
  refine to_2 (pc := 29) rw_77_29 rfl ?_
  refine to_i2b (pc := 30) rw_77_30 rfl ?_
  refine to_bas (pc := 31) rw_77_31 (k := 0) fX_2_102 fO_2_103 (op_j fN_2_0 (by decide +kernel)) (by decide +kernel) rfl ?_
  refine to_an (pc := 32) rw_77_32 rfl ?_
  refine to_dupr (pc := 33) rw_77_33 ?_
  refine tt_gI (pc := 34) rw_77_34 fO_1_8 (rI_n rfl k0) ?_
  refine to_c (pc := 37) rw_77_37 (x := (1 : Int32)) rfl rfl ?_
  refine to_2 (pc := 38) rw_77_38 (v := (1 : Int32)) (by decide +kernel) ?_
  refine tt_pI (pc := 39) rw_77_39 fO_1_8 ?_
  refine to_inc (pc := 42) rw_77_42 (ls2 := [.ref 1, .int _, .int (16 : Int32)]) rfl rfl rfl ?_
  refine to_go (pc := 45) rw_77_45 ?_
  exact h _ (fd_k (fd_s P rfl rfl))
set_option maxRecDepth 4000 in
theorem fd_b_1 {X : mm_X} {d : Nat} {Q : Option Value → mm_M → Prop} {M : mm_M} {x c : Int32} (P : fd_P M (1 : Int32) c) (h : ∀ M1, fd_P M1 (2 : Int32) c → mm_T X d 77 3 [.ref 1, .int x, .int (8 : Int32)] [] M1 Q) : mm_T X d 77 3 [.ref 1, .int x, .int (16 : Int32)] [] M Q := by
  have fC := P.1.1
  have fK_2_0 := P.1.2.1
  have fN_2_0 := P.1.2.2.1
  have fN_78_0 := P.1.2.2.2.1
  have fO_0_10 := P.1.2.2.2.2.1
  have fO_1_8 := P.1.2.2.2.2.2.1
  have fO_2_103 := P.1.2.2.2.2.2.2.1
  have fO_77_11 := P.1.2.2.2.2.2.2.2.1
  have fO_78_100 := P.1.2.2.2.2.2.2.2.2.1
  have fR_0_0 := P.1.2.2.2.2.2.2.2.2.2.1
  have fR_1_0 := P.1.2.2.2.2.2.2.2.2.2.2.1
  have fR_77_0 := P.1.2.2.2.2.2.2.2.2.2.2.2.1
  have fX_2_102 := P.1.2.2.2.2.2.2.2.2.2.2.2.2
  have k0 := P.2.1
  have c0 := P.2.2
  refine to_in (pc := 3) rw_77_3 rfl ?_
  refine to_iff (pc := 4) rw_77_4 (by decide +kernel) ?_
  refine to_an (pc := 7) rw_77_7 rfl ?_
  refine tt_gI (pc := 8) rw_77_8 fO_1_8 k0 ?_
  refine to_an (pc := 11) rw_77_11 rfl ?_
  refine tt_gR (pc := 12) rw_77_12 fO_1_8 fR_1_0 ?_
  refine tt_len (pc := 15) rw_77_15 rfl fK_2_0 fN_2_0 ?_
  refine to_icf (pc := 16) rw_77_16 (by decide +kernel) ?_
  refine to_an (pc := 19) rw_77_19 rfl ?_
  refine tt_gR (pc := 20) rw_77_20 fO_1_8 fR_1_0 ?_
  refine to_an (pc := 23) rw_77_23 rfl ?_
  refine tt_gI (pc := 24) rw_77_24 fO_1_8 k0 ?_
  refine to_in (pc := 27) rw_77_27 rfl ?_
  refine to_in (pc := 28) rw_77_28 rfl ?_
  refine to_2 (pc := 29) rw_77_29 rfl ?_
  refine to_i2b (pc := 30) rw_77_30 rfl ?_
  refine to_bas (pc := 31) rw_77_31 (k := 1) fX_2_102 fO_2_103 (op_j fN_2_0 (by decide +kernel)) (by decide +kernel) rfl ?_
  refine to_an (pc := 32) rw_77_32 rfl ?_
  refine to_dupr (pc := 33) rw_77_33 ?_
  refine tt_gI (pc := 34) rw_77_34 fO_1_8 (rI_n rfl k0) ?_
  refine to_c (pc := 37) rw_77_37 (x := (1 : Int32)) rfl rfl ?_
  refine to_2 (pc := 38) rw_77_38 (v := (2 : Int32)) (by decide +kernel) ?_
  refine tt_pI (pc := 39) rw_77_39 fO_1_8 ?_
  refine to_inc (pc := 42) rw_77_42 (ls2 := [.ref 1, .int _, .int (8 : Int32)]) rfl rfl rfl ?_
  refine to_go (pc := 45) rw_77_45 ?_
  exact h _ (fd_k (fd_s P rfl rfl))
set_option maxRecDepth 4000 in
theorem fd_b_2 {X : mm_X} {d : Nat} {Q : Option Value → mm_M → Prop} {M : mm_M} {x c : Int32} (P : fd_P M (2 : Int32) c) (h : ∀ M1, fd_P M1 (3 : Int32) c → mm_T X d 77 3 [.ref 1, .int x, .int (0 : Int32)] [] M1 Q) : mm_T X d 77 3 [.ref 1, .int x, .int (8 : Int32)] [] M Q := by
  have fC := P.1.1
  have fK_2_0 := P.1.2.1
  have fN_2_0 := P.1.2.2.1
  have fN_78_0 := P.1.2.2.2.1
  have fO_0_10 := P.1.2.2.2.2.1
  have fO_1_8 := P.1.2.2.2.2.2.1
  have fO_2_103 := P.1.2.2.2.2.2.2.1
  have fO_77_11 := P.1.2.2.2.2.2.2.2.1
  have fO_78_100 := P.1.2.2.2.2.2.2.2.2.1
  have fR_0_0 := P.1.2.2.2.2.2.2.2.2.2.1
  have fR_1_0 := P.1.2.2.2.2.2.2.2.2.2.2.1
  have fR_77_0 := P.1.2.2.2.2.2.2.2.2.2.2.2.1
  have fX_2_102 := P.1.2.2.2.2.2.2.2.2.2.2.2.2
  have k0 := P.2.1
  have c0 := P.2.2
  refine to_in (pc := 3) rw_77_3 rfl ?_
  refine to_iff (pc := 4) rw_77_4 (by decide +kernel) ?_
  refine to_an (pc := 7) rw_77_7 rfl ?_
  refine tt_gI (pc := 8) rw_77_8 fO_1_8 k0 ?_
  refine to_an (pc := 11) rw_77_11 rfl ?_
  refine tt_gR (pc := 12) rw_77_12 fO_1_8 fR_1_0 ?_
  refine tt_len (pc := 15) rw_77_15 rfl fK_2_0 fN_2_0 ?_
  refine to_icf (pc := 16) rw_77_16 (by decide +kernel) ?_
  refine to_an (pc := 19) rw_77_19 rfl ?_
  refine tt_gR (pc := 20) rw_77_20 fO_1_8 fR_1_0 ?_
  refine to_an (pc := 23) rw_77_23 rfl ?_
  refine tt_gI (pc := 24) rw_77_24 fO_1_8 k0 ?_
  refine to_in (pc := 27) rw_77_27 rfl ?_
  refine to_in (pc := 28) rw_77_28 rfl ?_
  refine to_2 (pc := 29) rw_77_29 rfl ?_
  refine to_i2b (pc := 30) rw_77_30 rfl ?_
  refine to_bas (pc := 31) rw_77_31 (k := 2) fX_2_102 fO_2_103 (op_j fN_2_0 (by decide +kernel)) (by decide +kernel) rfl ?_
  refine to_an (pc := 32) rw_77_32 rfl ?_
  refine to_dupr (pc := 33) rw_77_33 ?_
  refine tt_gI (pc := 34) rw_77_34 fO_1_8 (rI_n rfl k0) ?_
  refine to_c (pc := 37) rw_77_37 (x := (1 : Int32)) rfl rfl ?_
  refine to_2 (pc := 38) rw_77_38 (v := (3 : Int32)) (by decide +kernel) ?_
  refine tt_pI (pc := 39) rw_77_39 fO_1_8 ?_
  refine to_inc (pc := 42) rw_77_42 (ls2 := [.ref 1, .int _, .int (0 : Int32)]) rfl rfl rfl ?_
  refine to_go (pc := 45) rw_77_45 ?_
  exact h _ (fd_k (fd_s P rfl rfl))
set_option maxRecDepth 4000 in
theorem fd_b_3 {X : mm_X} {d : Nat} {Q : Option Value → mm_M → Prop} {M : mm_M} {x c : Int32} (P : fd_P M (3 : Int32) c) (h : ∀ M1, fd_P M1 (4 : Int32) c → mm_T X d 77 3 [.ref 1, .int x, .int (-8 : Int32)] [] M1 Q) : mm_T X d 77 3 [.ref 1, .int x, .int (0 : Int32)] [] M Q := by
  have fC := P.1.1
  have fK_2_0 := P.1.2.1
  have fN_2_0 := P.1.2.2.1
  have fN_78_0 := P.1.2.2.2.1
  have fO_0_10 := P.1.2.2.2.2.1
  have fO_1_8 := P.1.2.2.2.2.2.1
  have fO_2_103 := P.1.2.2.2.2.2.2.1
  have fO_77_11 := P.1.2.2.2.2.2.2.2.1
  have fO_78_100 := P.1.2.2.2.2.2.2.2.2.1
  have fR_0_0 := P.1.2.2.2.2.2.2.2.2.2.1
  have fR_1_0 := P.1.2.2.2.2.2.2.2.2.2.2.1
  have fR_77_0 := P.1.2.2.2.2.2.2.2.2.2.2.2.1
  have fX_2_102 := P.1.2.2.2.2.2.2.2.2.2.2.2.2
  have k0 := P.2.1
  have c0 := P.2.2
  refine to_in (pc := 3) rw_77_3 rfl ?_
  refine to_iff (pc := 4) rw_77_4 (by decide +kernel) ?_
  refine to_an (pc := 7) rw_77_7 rfl ?_
  refine tt_gI (pc := 8) rw_77_8 fO_1_8 k0 ?_
  refine to_an (pc := 11) rw_77_11 rfl ?_
  refine tt_gR (pc := 12) rw_77_12 fO_1_8 fR_1_0 ?_
  refine tt_len (pc := 15) rw_77_15 rfl fK_2_0 fN_2_0 ?_
  refine to_icf (pc := 16) rw_77_16 (by decide +kernel) ?_
  refine to_an (pc := 19) rw_77_19 rfl ?_
  refine tt_gR (pc := 20) rw_77_20 fO_1_8 fR_1_0 ?_
  refine to_an (pc := 23) rw_77_23 rfl ?_
  refine tt_gI (pc := 24) rw_77_24 fO_1_8 k0 ?_
  refine to_in (pc := 27) rw_77_27 rfl ?_
  refine to_in (pc := 28) rw_77_28 rfl ?_
  refine to_2 (pc := 29) rw_77_29 rfl ?_
  refine to_i2b (pc := 30) rw_77_30 rfl ?_
  refine to_bas (pc := 31) rw_77_31 (k := 3) fX_2_102 fO_2_103 (op_j fN_2_0 (by decide +kernel)) (by decide +kernel) rfl ?_
  refine to_an (pc := 32) rw_77_32 rfl ?_
  refine to_dupr (pc := 33) rw_77_33 ?_
  refine tt_gI (pc := 34) rw_77_34 fO_1_8 (rI_n rfl k0) ?_
  refine to_c (pc := 37) rw_77_37 (x := (1 : Int32)) rfl rfl ?_
  refine to_2 (pc := 38) rw_77_38 (v := (4 : Int32)) (by decide +kernel) ?_
  refine tt_pI (pc := 39) rw_77_39 fO_1_8 ?_
  refine to_inc (pc := 42) rw_77_42 (ls2 := [.ref 1, .int _, .int (-8 : Int32)]) rfl rfl rfl ?_
  refine to_go (pc := 45) rw_77_45 ?_
  exact h _ (fd_k (fd_s P rfl rfl))
set_option maxRecDepth 4000 in
theorem fd_a_0 {X : mm_X} {d : Nat} {Q : Option Value → mm_M → Prop} {M : mm_M} {x c : Int32} (P : fd_P M (0 : Int32) c) (h : ∀ M1, fd_P M1 (4 : Int32) c → Q none M1) : mm_T X d 77 0 [.ref 1, .int x, .null] [] M Q := by
  refine to_c (pc := 0) rw_77_0 (x := (24 : Int32)) rfl rfl ?_
  refine to_isn (pc := 2) rw_77_2 (ls2 := [.ref 1, .int _, .int (24 : Int32)]) rfl rfl ?_
  refine fd_b_0 P ?_
  clear P
  intro M P
  refine fd_b_1 P ?_
  clear P
  intro M P
  refine fd_b_2 P ?_
  clear P
  intro M P
  refine fd_b_3 P ?_
  clear P
  intro M P
  refine to_in (pc := 3) rw_77_3 rfl ?_
  refine to_ift (pc := 4) rw_77_4 (by decide +kernel) ?_
  refine to_rv (pc := 48) rw_77_48 ?_
  exact h _ P
set_option maxRecDepth 4000 in
theorem fd_b_4 {X : mm_X} {d : Nat} {Q : Option Value → mm_M → Prop} {M : mm_M} {x c : Int32} (P : fd_P M (4 : Int32) c) (h : ∀ M1, fd_P M1 (5 : Int32) c → mm_T X d 77 3 [.ref 1, .int x, .int (16 : Int32)] [] M1 Q) : mm_T X d 77 3 [.ref 1, .int x, .int (24 : Int32)] [] M Q := by
  have fC := P.1.1
  have fK_2_0 := P.1.2.1
  have fN_2_0 := P.1.2.2.1
  have fN_78_0 := P.1.2.2.2.1
  have fO_0_10 := P.1.2.2.2.2.1
  have fO_1_8 := P.1.2.2.2.2.2.1
  have fO_2_103 := P.1.2.2.2.2.2.2.1
  have fO_77_11 := P.1.2.2.2.2.2.2.2.1
  have fO_78_100 := P.1.2.2.2.2.2.2.2.2.1
  have fR_0_0 := P.1.2.2.2.2.2.2.2.2.2.1
  have fR_1_0 := P.1.2.2.2.2.2.2.2.2.2.2.1
  have fR_77_0 := P.1.2.2.2.2.2.2.2.2.2.2.2.1
  have fX_2_102 := P.1.2.2.2.2.2.2.2.2.2.2.2.2
  have k0 := P.2.1
  have c0 := P.2.2
  refine to_in (pc := 3) rw_77_3 rfl ?_
  refine to_iff (pc := 4) rw_77_4 (by decide +kernel) ?_
  refine to_an (pc := 7) rw_77_7 rfl ?_
  refine tt_gI (pc := 8) rw_77_8 fO_1_8 k0 ?_
  refine to_an (pc := 11) rw_77_11 rfl ?_
  refine tt_gR (pc := 12) rw_77_12 fO_1_8 fR_1_0 ?_
  refine tt_len (pc := 15) rw_77_15 rfl fK_2_0 fN_2_0 ?_
  refine to_icf (pc := 16) rw_77_16 (by decide +kernel) ?_
  refine to_an (pc := 19) rw_77_19 rfl ?_
  refine tt_gR (pc := 20) rw_77_20 fO_1_8 fR_1_0 ?_
  refine to_an (pc := 23) rw_77_23 rfl ?_
  refine tt_gI (pc := 24) rw_77_24 fO_1_8 k0 ?_
  refine to_in (pc := 27) rw_77_27 rfl ?_
  refine to_in (pc := 28) rw_77_28 rfl ?_
  refine to_2 (pc := 29) rw_77_29 rfl ?_
  refine to_i2b (pc := 30) rw_77_30 rfl ?_
  refine to_bas (pc := 31) rw_77_31 (k := 4) fX_2_102 fO_2_103 (op_j fN_2_0 (by decide +kernel)) (by decide +kernel) rfl ?_
  refine to_an (pc := 32) rw_77_32 rfl ?_
  refine to_dupr (pc := 33) rw_77_33 ?_
  refine tt_gI (pc := 34) rw_77_34 fO_1_8 (rI_n rfl k0) ?_
  refine to_c (pc := 37) rw_77_37 (x := (1 : Int32)) rfl rfl ?_
  refine to_2 (pc := 38) rw_77_38 (v := (5 : Int32)) (by decide +kernel) ?_
  refine tt_pI (pc := 39) rw_77_39 fO_1_8 ?_
  refine to_inc (pc := 42) rw_77_42 (ls2 := [.ref 1, .int _, .int (16 : Int32)]) rfl rfl rfl ?_
  refine to_go (pc := 45) rw_77_45 ?_
  exact h _ (fd_k (fd_s P rfl rfl))
set_option maxRecDepth 4000 in
theorem fd_b_5 {X : mm_X} {d : Nat} {Q : Option Value → mm_M → Prop} {M : mm_M} {x c : Int32} (P : fd_P M (5 : Int32) c) (h : ∀ M1, fd_P M1 (6 : Int32) c → mm_T X d 77 3 [.ref 1, .int x, .int (8 : Int32)] [] M1 Q) : mm_T X d 77 3 [.ref 1, .int x, .int (16 : Int32)] [] M Q := by
  have fC := P.1.1
  have fK_2_0 := P.1.2.1
  have fN_2_0 := P.1.2.2.1
  have fN_78_0 := P.1.2.2.2.1
  have fO_0_10 := P.1.2.2.2.2.1
  have fO_1_8 := P.1.2.2.2.2.2.1
  have fO_2_103 := P.1.2.2.2.2.2.2.1
  have fO_77_11 := P.1.2.2.2.2.2.2.2.1
  have fO_78_100 := P.1.2.2.2.2.2.2.2.2.1
  have fR_0_0 := P.1.2.2.2.2.2.2.2.2.2.1
  have fR_1_0 := P.1.2.2.2.2.2.2.2.2.2.2.1
  have fR_77_0 := P.1.2.2.2.2.2.2.2.2.2.2.2.1
  have fX_2_102 := P.1.2.2.2.2.2.2.2.2.2.2.2.2
  have k0 := P.2.1
  have c0 := P.2.2
  refine to_in (pc := 3) rw_77_3 rfl ?_
  refine to_iff (pc := 4) rw_77_4 (by decide +kernel) ?_
  refine to_an (pc := 7) rw_77_7 rfl ?_
  refine tt_gI (pc := 8) rw_77_8 fO_1_8 k0 ?_
  refine to_an (pc := 11) rw_77_11 rfl ?_
  refine tt_gR (pc := 12) rw_77_12 fO_1_8 fR_1_0 ?_
  refine tt_len (pc := 15) rw_77_15 rfl fK_2_0 fN_2_0 ?_
  refine to_icf (pc := 16) rw_77_16 (by decide +kernel) ?_
  refine to_an (pc := 19) rw_77_19 rfl ?_
  refine tt_gR (pc := 20) rw_77_20 fO_1_8 fR_1_0 ?_
  refine to_an (pc := 23) rw_77_23 rfl ?_
  refine tt_gI (pc := 24) rw_77_24 fO_1_8 k0 ?_
  refine to_in (pc := 27) rw_77_27 rfl ?_
  refine to_in (pc := 28) rw_77_28 rfl ?_
  refine to_2 (pc := 29) rw_77_29 rfl ?_
  refine to_i2b (pc := 30) rw_77_30 rfl ?_
  refine to_bas (pc := 31) rw_77_31 (k := 5) fX_2_102 fO_2_103 (op_j fN_2_0 (by decide +kernel)) (by decide +kernel) rfl ?_
  refine to_an (pc := 32) rw_77_32 rfl ?_
  refine to_dupr (pc := 33) rw_77_33 ?_
  refine tt_gI (pc := 34) rw_77_34 fO_1_8 (rI_n rfl k0) ?_
  refine to_c (pc := 37) rw_77_37 (x := (1 : Int32)) rfl rfl ?_
  refine to_2 (pc := 38) rw_77_38 (v := (6 : Int32)) (by decide +kernel) ?_
  refine tt_pI (pc := 39) rw_77_39 fO_1_8 ?_
  refine to_inc (pc := 42) rw_77_42 (ls2 := [.ref 1, .int _, .int (8 : Int32)]) rfl rfl rfl ?_
  refine to_go (pc := 45) rw_77_45 ?_
  exact h _ (fd_k (fd_s P rfl rfl))
set_option maxRecDepth 4000 in
theorem fd_b_6 {X : mm_X} {d : Nat} {Q : Option Value → mm_M → Prop} {M : mm_M} {x c : Int32} (P : fd_P M (6 : Int32) c) (h : ∀ M1, fd_P M1 (7 : Int32) c → mm_T X d 77 3 [.ref 1, .int x, .int (0 : Int32)] [] M1 Q) : mm_T X d 77 3 [.ref 1, .int x, .int (8 : Int32)] [] M Q := by
  have fC := P.1.1
  have fK_2_0 := P.1.2.1
  have fN_2_0 := P.1.2.2.1
  have fN_78_0 := P.1.2.2.2.1
  have fO_0_10 := P.1.2.2.2.2.1
  have fO_1_8 := P.1.2.2.2.2.2.1
  have fO_2_103 := P.1.2.2.2.2.2.2.1
  have fO_77_11 := P.1.2.2.2.2.2.2.2.1
  have fO_78_100 := P.1.2.2.2.2.2.2.2.2.1
  have fR_0_0 := P.1.2.2.2.2.2.2.2.2.2.1
  have fR_1_0 := P.1.2.2.2.2.2.2.2.2.2.2.1
  have fR_77_0 := P.1.2.2.2.2.2.2.2.2.2.2.2.1
  have fX_2_102 := P.1.2.2.2.2.2.2.2.2.2.2.2.2
  have k0 := P.2.1
  have c0 := P.2.2
  refine to_in (pc := 3) rw_77_3 rfl ?_
  refine to_iff (pc := 4) rw_77_4 (by decide +kernel) ?_
  refine to_an (pc := 7) rw_77_7 rfl ?_
  refine tt_gI (pc := 8) rw_77_8 fO_1_8 k0 ?_
  refine to_an (pc := 11) rw_77_11 rfl ?_
  refine tt_gR (pc := 12) rw_77_12 fO_1_8 fR_1_0 ?_
  refine tt_len (pc := 15) rw_77_15 rfl fK_2_0 fN_2_0 ?_
  refine to_icf (pc := 16) rw_77_16 (by decide +kernel) ?_
  refine to_an (pc := 19) rw_77_19 rfl ?_
  refine tt_gR (pc := 20) rw_77_20 fO_1_8 fR_1_0 ?_
  refine to_an (pc := 23) rw_77_23 rfl ?_
  refine tt_gI (pc := 24) rw_77_24 fO_1_8 k0 ?_
  refine to_in (pc := 27) rw_77_27 rfl ?_
  refine to_in (pc := 28) rw_77_28 rfl ?_
  refine to_2 (pc := 29) rw_77_29 rfl ?_
  refine to_i2b (pc := 30) rw_77_30 rfl ?_
  refine to_bas (pc := 31) rw_77_31 (k := 6) fX_2_102 fO_2_103 (op_j fN_2_0 (by decide +kernel)) (by decide +kernel) rfl ?_
  refine to_an (pc := 32) rw_77_32 rfl ?_
  refine to_dupr (pc := 33) rw_77_33 ?_
  refine tt_gI (pc := 34) rw_77_34 fO_1_8 (rI_n rfl k0) ?_
  refine to_c (pc := 37) rw_77_37 (x := (1 : Int32)) rfl rfl ?_
  refine to_2 (pc := 38) rw_77_38 (v := (7 : Int32)) (by decide +kernel) ?_
  refine tt_pI (pc := 39) rw_77_39 fO_1_8 ?_
  refine to_inc (pc := 42) rw_77_42 (ls2 := [.ref 1, .int _, .int (0 : Int32)]) rfl rfl rfl ?_
  refine to_go (pc := 45) rw_77_45 ?_
  exact h _ (fd_k (fd_s P rfl rfl))
set_option maxRecDepth 4000 in
theorem fd_b_7 {X : mm_X} {d : Nat} {Q : Option Value → mm_M → Prop} {M : mm_M} {x c : Int32} (P : fd_P M (7 : Int32) c) (h : ∀ M1, fd_P M1 (8 : Int32) c → mm_T X d 77 3 [.ref 1, .int x, .int (-8 : Int32)] [] M1 Q) : mm_T X d 77 3 [.ref 1, .int x, .int (0 : Int32)] [] M Q := by
  have fC := P.1.1
  have fK_2_0 := P.1.2.1
  have fN_2_0 := P.1.2.2.1
  have fN_78_0 := P.1.2.2.2.1
  have fO_0_10 := P.1.2.2.2.2.1
  have fO_1_8 := P.1.2.2.2.2.2.1
  have fO_2_103 := P.1.2.2.2.2.2.2.1
  have fO_77_11 := P.1.2.2.2.2.2.2.2.1
  have fO_78_100 := P.1.2.2.2.2.2.2.2.2.1
  have fR_0_0 := P.1.2.2.2.2.2.2.2.2.2.1
  have fR_1_0 := P.1.2.2.2.2.2.2.2.2.2.2.1
  have fR_77_0 := P.1.2.2.2.2.2.2.2.2.2.2.2.1
  have fX_2_102 := P.1.2.2.2.2.2.2.2.2.2.2.2.2
  have k0 := P.2.1
  have c0 := P.2.2
  refine to_in (pc := 3) rw_77_3 rfl ?_
  refine to_iff (pc := 4) rw_77_4 (by decide +kernel) ?_
  refine to_an (pc := 7) rw_77_7 rfl ?_
  refine tt_gI (pc := 8) rw_77_8 fO_1_8 k0 ?_
  refine to_an (pc := 11) rw_77_11 rfl ?_
  refine tt_gR (pc := 12) rw_77_12 fO_1_8 fR_1_0 ?_
  refine tt_len (pc := 15) rw_77_15 rfl fK_2_0 fN_2_0 ?_
  refine to_icf (pc := 16) rw_77_16 (by decide +kernel) ?_
  refine to_an (pc := 19) rw_77_19 rfl ?_
  refine tt_gR (pc := 20) rw_77_20 fO_1_8 fR_1_0 ?_
  refine to_an (pc := 23) rw_77_23 rfl ?_
  refine tt_gI (pc := 24) rw_77_24 fO_1_8 k0 ?_
  refine to_in (pc := 27) rw_77_27 rfl ?_
  refine to_in (pc := 28) rw_77_28 rfl ?_
  refine to_2 (pc := 29) rw_77_29 rfl ?_
  refine to_i2b (pc := 30) rw_77_30 rfl ?_
  refine to_bas (pc := 31) rw_77_31 (k := 7) fX_2_102 fO_2_103 (op_j fN_2_0 (by decide +kernel)) (by decide +kernel) rfl ?_
  refine to_an (pc := 32) rw_77_32 rfl ?_
  refine to_dupr (pc := 33) rw_77_33 ?_
  refine tt_gI (pc := 34) rw_77_34 fO_1_8 (rI_n rfl k0) ?_
  refine to_c (pc := 37) rw_77_37 (x := (1 : Int32)) rfl rfl ?_
  refine to_2 (pc := 38) rw_77_38 (v := (8 : Int32)) (by decide +kernel) ?_
  refine tt_pI (pc := 39) rw_77_39 fO_1_8 ?_
  refine to_inc (pc := 42) rw_77_42 (ls2 := [.ref 1, .int _, .int (-8 : Int32)]) rfl rfl rfl ?_
  refine to_go (pc := 45) rw_77_45 ?_
  exact h _ (fd_k (fd_s P rfl rfl))
set_option maxRecDepth 4000 in
theorem fd_a_4 {X : mm_X} {d : Nat} {Q : Option Value → mm_M → Prop} {M : mm_M} {x c : Int32} (P : fd_P M (4 : Int32) c) (h : ∀ M1, fd_P M1 (8 : Int32) c → Q none M1) : mm_T X d 77 0 [.ref 1, .int x, .null] [] M Q := by
  refine to_c (pc := 0) rw_77_0 (x := (24 : Int32)) rfl rfl ?_
  refine to_isn (pc := 2) rw_77_2 (ls2 := [.ref 1, .int _, .int (24 : Int32)]) rfl rfl ?_
  refine fd_b_4 P ?_
  clear P
  intro M P
  refine fd_b_5 P ?_
  clear P
  intro M P
  refine fd_b_6 P ?_
  clear P
  intro M P
  refine fd_b_7 P ?_
  clear P
  intro M P
  refine to_in (pc := 3) rw_77_3 rfl ?_
  refine to_ift (pc := 4) rw_77_4 (by decide +kernel) ?_
  refine to_rv (pc := 48) rw_77_48 ?_
  exact h _ P
set_option maxRecDepth 4000 in
theorem fd_b_8 {X : mm_X} {d : Nat} {Q : Option Value → mm_M → Prop} {M : mm_M} {x c : Int32} (P : fd_P M (8 : Int32) c) (h : ∀ M1, fd_P M1 (9 : Int32) c → mm_T X d 77 3 [.ref 1, .int x, .int (16 : Int32)] [] M1 Q) : mm_T X d 77 3 [.ref 1, .int x, .int (24 : Int32)] [] M Q := by
  have fC := P.1.1
  have fK_2_0 := P.1.2.1
  have fN_2_0 := P.1.2.2.1
  have fN_78_0 := P.1.2.2.2.1
  have fO_0_10 := P.1.2.2.2.2.1
  have fO_1_8 := P.1.2.2.2.2.2.1
  have fO_2_103 := P.1.2.2.2.2.2.2.1
  have fO_77_11 := P.1.2.2.2.2.2.2.2.1
  have fO_78_100 := P.1.2.2.2.2.2.2.2.2.1
  have fR_0_0 := P.1.2.2.2.2.2.2.2.2.2.1
  have fR_1_0 := P.1.2.2.2.2.2.2.2.2.2.2.1
  have fR_77_0 := P.1.2.2.2.2.2.2.2.2.2.2.2.1
  have fX_2_102 := P.1.2.2.2.2.2.2.2.2.2.2.2.2
  have k0 := P.2.1
  have c0 := P.2.2
  refine to_in (pc := 3) rw_77_3 rfl ?_
  refine to_iff (pc := 4) rw_77_4 (by decide +kernel) ?_
  refine to_an (pc := 7) rw_77_7 rfl ?_
  refine tt_gI (pc := 8) rw_77_8 fO_1_8 k0 ?_
  refine to_an (pc := 11) rw_77_11 rfl ?_
  refine tt_gR (pc := 12) rw_77_12 fO_1_8 fR_1_0 ?_
  refine tt_len (pc := 15) rw_77_15 rfl fK_2_0 fN_2_0 ?_
  refine to_icf (pc := 16) rw_77_16 (by decide +kernel) ?_
  refine to_an (pc := 19) rw_77_19 rfl ?_
  refine tt_gR (pc := 20) rw_77_20 fO_1_8 fR_1_0 ?_
  refine to_an (pc := 23) rw_77_23 rfl ?_
  refine tt_gI (pc := 24) rw_77_24 fO_1_8 k0 ?_
  refine to_in (pc := 27) rw_77_27 rfl ?_
  refine to_in (pc := 28) rw_77_28 rfl ?_
  refine to_2 (pc := 29) rw_77_29 rfl ?_
  refine to_i2b (pc := 30) rw_77_30 rfl ?_
  refine to_bas (pc := 31) rw_77_31 (k := 8) fX_2_102 fO_2_103 (op_j fN_2_0 (by decide +kernel)) (by decide +kernel) rfl ?_
  refine to_an (pc := 32) rw_77_32 rfl ?_
  refine to_dupr (pc := 33) rw_77_33 ?_
  refine tt_gI (pc := 34) rw_77_34 fO_1_8 (rI_n rfl k0) ?_
  refine to_c (pc := 37) rw_77_37 (x := (1 : Int32)) rfl rfl ?_
  refine to_2 (pc := 38) rw_77_38 (v := (9 : Int32)) (by decide +kernel) ?_
  refine tt_pI (pc := 39) rw_77_39 fO_1_8 ?_
  refine to_inc (pc := 42) rw_77_42 (ls2 := [.ref 1, .int _, .int (16 : Int32)]) rfl rfl rfl ?_
  refine to_go (pc := 45) rw_77_45 ?_
  exact h _ (fd_k (fd_s P rfl rfl))
set_option maxRecDepth 4000 in
theorem fd_b_9 {X : mm_X} {d : Nat} {Q : Option Value → mm_M → Prop} {M : mm_M} {x c : Int32} (P : fd_P M (9 : Int32) c) (h : ∀ M1, fd_P M1 (10 : Int32) c → mm_T X d 77 3 [.ref 1, .int x, .int (8 : Int32)] [] M1 Q) : mm_T X d 77 3 [.ref 1, .int x, .int (16 : Int32)] [] M Q := by
  have fC := P.1.1
  have fK_2_0 := P.1.2.1
  have fN_2_0 := P.1.2.2.1
  have fN_78_0 := P.1.2.2.2.1
  have fO_0_10 := P.1.2.2.2.2.1
  have fO_1_8 := P.1.2.2.2.2.2.1
  have fO_2_103 := P.1.2.2.2.2.2.2.1
  have fO_77_11 := P.1.2.2.2.2.2.2.2.1
  have fO_78_100 := P.1.2.2.2.2.2.2.2.2.1
  have fR_0_0 := P.1.2.2.2.2.2.2.2.2.2.1
  have fR_1_0 := P.1.2.2.2.2.2.2.2.2.2.2.1
  have fR_77_0 := P.1.2.2.2.2.2.2.2.2.2.2.2.1
  have fX_2_102 := P.1.2.2.2.2.2.2.2.2.2.2.2.2
  have k0 := P.2.1
  have c0 := P.2.2
  refine to_in (pc := 3) rw_77_3 rfl ?_
  refine to_iff (pc := 4) rw_77_4 (by decide +kernel) ?_
  refine to_an (pc := 7) rw_77_7 rfl ?_
  refine tt_gI (pc := 8) rw_77_8 fO_1_8 k0 ?_
  refine to_an (pc := 11) rw_77_11 rfl ?_
  refine tt_gR (pc := 12) rw_77_12 fO_1_8 fR_1_0 ?_
  refine tt_len (pc := 15) rw_77_15 rfl fK_2_0 fN_2_0 ?_
  refine to_icf (pc := 16) rw_77_16 (by decide +kernel) ?_
  refine to_an (pc := 19) rw_77_19 rfl ?_
  refine tt_gR (pc := 20) rw_77_20 fO_1_8 fR_1_0 ?_
  refine to_an (pc := 23) rw_77_23 rfl ?_
  refine tt_gI (pc := 24) rw_77_24 fO_1_8 k0 ?_
  refine to_in (pc := 27) rw_77_27 rfl ?_
  refine to_in (pc := 28) rw_77_28 rfl ?_
  refine to_2 (pc := 29) rw_77_29 rfl ?_
  refine to_i2b (pc := 30) rw_77_30 rfl ?_
  refine to_bas (pc := 31) rw_77_31 (k := 9) fX_2_102 fO_2_103 (op_j fN_2_0 (by decide +kernel)) (by decide +kernel) rfl ?_
  refine to_an (pc := 32) rw_77_32 rfl ?_
  refine to_dupr (pc := 33) rw_77_33 ?_
  refine tt_gI (pc := 34) rw_77_34 fO_1_8 (rI_n rfl k0) ?_
  refine to_c (pc := 37) rw_77_37 (x := (1 : Int32)) rfl rfl ?_
  refine to_2 (pc := 38) rw_77_38 (v := (10 : Int32)) (by decide +kernel) ?_
  refine tt_pI (pc := 39) rw_77_39 fO_1_8 ?_
  refine to_inc (pc := 42) rw_77_42 (ls2 := [.ref 1, .int _, .int (8 : Int32)]) rfl rfl rfl ?_
  refine to_go (pc := 45) rw_77_45 ?_
  exact h _ (fd_k (fd_s P rfl rfl))
set_option maxRecDepth 4000 in
theorem fd_b_10 {X : mm_X} {d : Nat} {Q : Option Value → mm_M → Prop} {M : mm_M} {x c : Int32} (P : fd_P M (10 : Int32) c) (h : ∀ M1, fd_P M1 (11 : Int32) c → mm_T X d 77 3 [.ref 1, .int x, .int (0 : Int32)] [] M1 Q) : mm_T X d 77 3 [.ref 1, .int x, .int (8 : Int32)] [] M Q := by
  have fC := P.1.1
  have fK_2_0 := P.1.2.1
  have fN_2_0 := P.1.2.2.1
  have fN_78_0 := P.1.2.2.2.1
  have fO_0_10 := P.1.2.2.2.2.1
  have fO_1_8 := P.1.2.2.2.2.2.1
  have fO_2_103 := P.1.2.2.2.2.2.2.1
  have fO_77_11 := P.1.2.2.2.2.2.2.2.1
  have fO_78_100 := P.1.2.2.2.2.2.2.2.2.1
  have fR_0_0 := P.1.2.2.2.2.2.2.2.2.2.1
  have fR_1_0 := P.1.2.2.2.2.2.2.2.2.2.2.1
  have fR_77_0 := P.1.2.2.2.2.2.2.2.2.2.2.2.1
  have fX_2_102 := P.1.2.2.2.2.2.2.2.2.2.2.2.2
  have k0 := P.2.1
  have c0 := P.2.2
  refine to_in (pc := 3) rw_77_3 rfl ?_
  refine to_iff (pc := 4) rw_77_4 (by decide +kernel) ?_
  refine to_an (pc := 7) rw_77_7 rfl ?_
  refine tt_gI (pc := 8) rw_77_8 fO_1_8 k0 ?_
  refine to_an (pc := 11) rw_77_11 rfl ?_
  refine tt_gR (pc := 12) rw_77_12 fO_1_8 fR_1_0 ?_
  refine tt_len (pc := 15) rw_77_15 rfl fK_2_0 fN_2_0 ?_
  refine to_icf (pc := 16) rw_77_16 (by decide +kernel) ?_
  refine to_an (pc := 19) rw_77_19 rfl ?_
  refine tt_gR (pc := 20) rw_77_20 fO_1_8 fR_1_0 ?_
  refine to_an (pc := 23) rw_77_23 rfl ?_
  refine tt_gI (pc := 24) rw_77_24 fO_1_8 k0 ?_
  refine to_in (pc := 27) rw_77_27 rfl ?_
  refine to_in (pc := 28) rw_77_28 rfl ?_
  refine to_2 (pc := 29) rw_77_29 rfl ?_
  refine to_i2b (pc := 30) rw_77_30 rfl ?_
  refine to_bas (pc := 31) rw_77_31 (k := 10) fX_2_102 fO_2_103 (op_j fN_2_0 (by decide +kernel)) (by decide +kernel) rfl ?_
  refine to_an (pc := 32) rw_77_32 rfl ?_
  refine to_dupr (pc := 33) rw_77_33 ?_
  refine tt_gI (pc := 34) rw_77_34 fO_1_8 (rI_n rfl k0) ?_
  refine to_c (pc := 37) rw_77_37 (x := (1 : Int32)) rfl rfl ?_
  refine to_2 (pc := 38) rw_77_38 (v := (11 : Int32)) (by decide +kernel) ?_
  refine tt_pI (pc := 39) rw_77_39 fO_1_8 ?_
  refine to_inc (pc := 42) rw_77_42 (ls2 := [.ref 1, .int _, .int (0 : Int32)]) rfl rfl rfl ?_
  refine to_go (pc := 45) rw_77_45 ?_
  exact h _ (fd_k (fd_s P rfl rfl))
set_option maxRecDepth 4000 in
theorem fd_b_11 {X : mm_X} {d : Nat} {Q : Option Value → mm_M → Prop} {M : mm_M} {x c : Int32} (P : fd_P M (11 : Int32) c) (h : ∀ M1, fd_P M1 (12 : Int32) c → mm_T X d 77 3 [.ref 1, .int x, .int (-8 : Int32)] [] M1 Q) : mm_T X d 77 3 [.ref 1, .int x, .int (0 : Int32)] [] M Q := by
  have fC := P.1.1
  have fK_2_0 := P.1.2.1
  have fN_2_0 := P.1.2.2.1
  have fN_78_0 := P.1.2.2.2.1
  have fO_0_10 := P.1.2.2.2.2.1
  have fO_1_8 := P.1.2.2.2.2.2.1
  have fO_2_103 := P.1.2.2.2.2.2.2.1
  have fO_77_11 := P.1.2.2.2.2.2.2.2.1
  have fO_78_100 := P.1.2.2.2.2.2.2.2.2.1
  have fR_0_0 := P.1.2.2.2.2.2.2.2.2.2.1
  have fR_1_0 := P.1.2.2.2.2.2.2.2.2.2.2.1
  have fR_77_0 := P.1.2.2.2.2.2.2.2.2.2.2.2.1
  have fX_2_102 := P.1.2.2.2.2.2.2.2.2.2.2.2.2
  have k0 := P.2.1
  have c0 := P.2.2
  refine to_in (pc := 3) rw_77_3 rfl ?_
  refine to_iff (pc := 4) rw_77_4 (by decide +kernel) ?_
  refine to_an (pc := 7) rw_77_7 rfl ?_
  refine tt_gI (pc := 8) rw_77_8 fO_1_8 k0 ?_
  refine to_an (pc := 11) rw_77_11 rfl ?_
  refine tt_gR (pc := 12) rw_77_12 fO_1_8 fR_1_0 ?_
  refine tt_len (pc := 15) rw_77_15 rfl fK_2_0 fN_2_0 ?_
  refine to_icf (pc := 16) rw_77_16 (by decide +kernel) ?_
  refine to_an (pc := 19) rw_77_19 rfl ?_
  refine tt_gR (pc := 20) rw_77_20 fO_1_8 fR_1_0 ?_
  refine to_an (pc := 23) rw_77_23 rfl ?_
  refine tt_gI (pc := 24) rw_77_24 fO_1_8 k0 ?_
  refine to_in (pc := 27) rw_77_27 rfl ?_
  refine to_in (pc := 28) rw_77_28 rfl ?_
  refine to_2 (pc := 29) rw_77_29 rfl ?_
  refine to_i2b (pc := 30) rw_77_30 rfl ?_
  refine to_bas (pc := 31) rw_77_31 (k := 11) fX_2_102 fO_2_103 (op_j fN_2_0 (by decide +kernel)) (by decide +kernel) rfl ?_
  refine to_an (pc := 32) rw_77_32 rfl ?_
  refine to_dupr (pc := 33) rw_77_33 ?_
  refine tt_gI (pc := 34) rw_77_34 fO_1_8 (rI_n rfl k0) ?_
  refine to_c (pc := 37) rw_77_37 (x := (1 : Int32)) rfl rfl ?_
  refine to_2 (pc := 38) rw_77_38 (v := (12 : Int32)) (by decide +kernel) ?_
  refine tt_pI (pc := 39) rw_77_39 fO_1_8 ?_
  refine to_inc (pc := 42) rw_77_42 (ls2 := [.ref 1, .int _, .int (-8 : Int32)]) rfl rfl rfl ?_
  refine to_go (pc := 45) rw_77_45 ?_
  exact h _ (fd_k (fd_s P rfl rfl))
set_option maxRecDepth 4000 in
theorem fd_a_8 {X : mm_X} {d : Nat} {Q : Option Value → mm_M → Prop} {M : mm_M} {x c : Int32} (P : fd_P M (8 : Int32) c) (h : ∀ M1, fd_P M1 (12 : Int32) c → Q none M1) : mm_T X d 77 0 [.ref 1, .int x, .null] [] M Q := by
  refine to_c (pc := 0) rw_77_0 (x := (24 : Int32)) rfl rfl ?_
  refine to_isn (pc := 2) rw_77_2 (ls2 := [.ref 1, .int _, .int (24 : Int32)]) rfl rfl ?_
  refine fd_b_8 P ?_
  clear P
  intro M P
  refine fd_b_9 P ?_
  clear P
  intro M P
  refine fd_b_10 P ?_
  clear P
  intro M P
  refine fd_b_11 P ?_
  clear P
  intro M P
  refine to_in (pc := 3) rw_77_3 rfl ?_
  refine to_ift (pc := 4) rw_77_4 (by decide +kernel) ?_
  refine to_rv (pc := 48) rw_77_48 ?_
  exact h _ P
set_option maxRecDepth 4000 in
theorem fd_b_12 {X : mm_X} {d : Nat} {Q : Option Value → mm_M → Prop} {M : mm_M} {x c : Int32} (P : fd_P M (12 : Int32) c) (h : ∀ M1, fd_P M1 (13 : Int32) c → mm_T X d 77 3 [.ref 1, .int x, .int (16 : Int32)] [] M1 Q) : mm_T X d 77 3 [.ref 1, .int x, .int (24 : Int32)] [] M Q := by
  have fC := P.1.1
  have fK_2_0 := P.1.2.1
  have fN_2_0 := P.1.2.2.1
  have fN_78_0 := P.1.2.2.2.1
  have fO_0_10 := P.1.2.2.2.2.1
  have fO_1_8 := P.1.2.2.2.2.2.1
  have fO_2_103 := P.1.2.2.2.2.2.2.1
  have fO_77_11 := P.1.2.2.2.2.2.2.2.1
  have fO_78_100 := P.1.2.2.2.2.2.2.2.2.1
  have fR_0_0 := P.1.2.2.2.2.2.2.2.2.2.1
  have fR_1_0 := P.1.2.2.2.2.2.2.2.2.2.2.1
  have fR_77_0 := P.1.2.2.2.2.2.2.2.2.2.2.2.1
  have fX_2_102 := P.1.2.2.2.2.2.2.2.2.2.2.2.2
  have k0 := P.2.1
  have c0 := P.2.2
  refine to_in (pc := 3) rw_77_3 rfl ?_
  refine to_iff (pc := 4) rw_77_4 (by decide +kernel) ?_
  refine to_an (pc := 7) rw_77_7 rfl ?_
  refine tt_gI (pc := 8) rw_77_8 fO_1_8 k0 ?_
  refine to_an (pc := 11) rw_77_11 rfl ?_
  refine tt_gR (pc := 12) rw_77_12 fO_1_8 fR_1_0 ?_
  refine tt_len (pc := 15) rw_77_15 rfl fK_2_0 fN_2_0 ?_
  refine to_icf (pc := 16) rw_77_16 (by decide +kernel) ?_
  refine to_an (pc := 19) rw_77_19 rfl ?_
  refine tt_gR (pc := 20) rw_77_20 fO_1_8 fR_1_0 ?_
  refine to_an (pc := 23) rw_77_23 rfl ?_
  refine tt_gI (pc := 24) rw_77_24 fO_1_8 k0 ?_
  refine to_in (pc := 27) rw_77_27 rfl ?_
  refine to_in (pc := 28) rw_77_28 rfl ?_
  refine to_2 (pc := 29) rw_77_29 rfl ?_
  refine to_i2b (pc := 30) rw_77_30 rfl ?_
  refine to_bas (pc := 31) rw_77_31 (k := 12) fX_2_102 fO_2_103 (op_j fN_2_0 (by decide +kernel)) (by decide +kernel) rfl ?_
  refine to_an (pc := 32) rw_77_32 rfl ?_
  refine to_dupr (pc := 33) rw_77_33 ?_
  refine tt_gI (pc := 34) rw_77_34 fO_1_8 (rI_n rfl k0) ?_
  refine to_c (pc := 37) rw_77_37 (x := (1 : Int32)) rfl rfl ?_
  refine to_2 (pc := 38) rw_77_38 (v := (13 : Int32)) (by decide +kernel) ?_
  refine tt_pI (pc := 39) rw_77_39 fO_1_8 ?_
  refine to_inc (pc := 42) rw_77_42 (ls2 := [.ref 1, .int _, .int (16 : Int32)]) rfl rfl rfl ?_
  refine to_go (pc := 45) rw_77_45 ?_
  exact h _ (fd_k (fd_s P rfl rfl))
set_option maxRecDepth 4000 in
theorem fd_b_13 {X : mm_X} {d : Nat} {Q : Option Value → mm_M → Prop} {M : mm_M} {x c : Int32} (P : fd_P M (13 : Int32) c) (h : ∀ M1, fd_P M1 (14 : Int32) c → mm_T X d 77 3 [.ref 1, .int x, .int (8 : Int32)] [] M1 Q) : mm_T X d 77 3 [.ref 1, .int x, .int (16 : Int32)] [] M Q := by
  have fC := P.1.1
  have fK_2_0 := P.1.2.1
  have fN_2_0 := P.1.2.2.1
  have fN_78_0 := P.1.2.2.2.1
  have fO_0_10 := P.1.2.2.2.2.1
  have fO_1_8 := P.1.2.2.2.2.2.1
  have fO_2_103 := P.1.2.2.2.2.2.2.1
  have fO_77_11 := P.1.2.2.2.2.2.2.2.1
  have fO_78_100 := P.1.2.2.2.2.2.2.2.2.1
  have fR_0_0 := P.1.2.2.2.2.2.2.2.2.2.1
  have fR_1_0 := P.1.2.2.2.2.2.2.2.2.2.2.1
  have fR_77_0 := P.1.2.2.2.2.2.2.2.2.2.2.2.1
  have fX_2_102 := P.1.2.2.2.2.2.2.2.2.2.2.2.2
  have k0 := P.2.1
  have c0 := P.2.2
  refine to_in (pc := 3) rw_77_3 rfl ?_
  refine to_iff (pc := 4) rw_77_4 (by decide +kernel) ?_
  refine to_an (pc := 7) rw_77_7 rfl ?_
  refine tt_gI (pc := 8) rw_77_8 fO_1_8 k0 ?_
  refine to_an (pc := 11) rw_77_11 rfl ?_
  refine tt_gR (pc := 12) rw_77_12 fO_1_8 fR_1_0 ?_
  refine tt_len (pc := 15) rw_77_15 rfl fK_2_0 fN_2_0 ?_
  refine to_icf (pc := 16) rw_77_16 (by decide +kernel) ?_
  refine to_an (pc := 19) rw_77_19 rfl ?_
  refine tt_gR (pc := 20) rw_77_20 fO_1_8 fR_1_0 ?_
  refine to_an (pc := 23) rw_77_23 rfl ?_
  refine tt_gI (pc := 24) rw_77_24 fO_1_8 k0 ?_
  refine to_in (pc := 27) rw_77_27 rfl ?_
  refine to_in (pc := 28) rw_77_28 rfl ?_
  refine to_2 (pc := 29) rw_77_29 rfl ?_
  refine to_i2b (pc := 30) rw_77_30 rfl ?_
  refine to_bas (pc := 31) rw_77_31 (k := 13) fX_2_102 fO_2_103 (op_j fN_2_0 (by decide +kernel)) (by decide +kernel) rfl ?_
  refine to_an (pc := 32) rw_77_32 rfl ?_
  refine to_dupr (pc := 33) rw_77_33 ?_
  refine tt_gI (pc := 34) rw_77_34 fO_1_8 (rI_n rfl k0) ?_
  refine to_c (pc := 37) rw_77_37 (x := (1 : Int32)) rfl rfl ?_
  refine to_2 (pc := 38) rw_77_38 (v := (14 : Int32)) (by decide +kernel) ?_
  refine tt_pI (pc := 39) rw_77_39 fO_1_8 ?_
  refine to_inc (pc := 42) rw_77_42 (ls2 := [.ref 1, .int _, .int (8 : Int32)]) rfl rfl rfl ?_
  refine to_go (pc := 45) rw_77_45 ?_
  exact h _ (fd_k (fd_s P rfl rfl))
set_option maxRecDepth 4000 in
theorem fd_b_14 {X : mm_X} {d : Nat} {Q : Option Value → mm_M → Prop} {M : mm_M} {x c : Int32} (P : fd_P M (14 : Int32) c) (h : ∀ M1, fd_P M1 (15 : Int32) c → mm_T X d 77 3 [.ref 1, .int x, .int (0 : Int32)] [] M1 Q) : mm_T X d 77 3 [.ref 1, .int x, .int (8 : Int32)] [] M Q := by
  have fC := P.1.1
  have fK_2_0 := P.1.2.1
  have fN_2_0 := P.1.2.2.1
  have fN_78_0 := P.1.2.2.2.1
  have fO_0_10 := P.1.2.2.2.2.1
  have fO_1_8 := P.1.2.2.2.2.2.1
  have fO_2_103 := P.1.2.2.2.2.2.2.1
  have fO_77_11 := P.1.2.2.2.2.2.2.2.1
  have fO_78_100 := P.1.2.2.2.2.2.2.2.2.1
  have fR_0_0 := P.1.2.2.2.2.2.2.2.2.2.1
  have fR_1_0 := P.1.2.2.2.2.2.2.2.2.2.2.1
  have fR_77_0 := P.1.2.2.2.2.2.2.2.2.2.2.2.1
  have fX_2_102 := P.1.2.2.2.2.2.2.2.2.2.2.2.2
  have k0 := P.2.1
  have c0 := P.2.2
  refine to_in (pc := 3) rw_77_3 rfl ?_
  refine to_iff (pc := 4) rw_77_4 (by decide +kernel) ?_
  refine to_an (pc := 7) rw_77_7 rfl ?_
  refine tt_gI (pc := 8) rw_77_8 fO_1_8 k0 ?_
  refine to_an (pc := 11) rw_77_11 rfl ?_
  refine tt_gR (pc := 12) rw_77_12 fO_1_8 fR_1_0 ?_
  refine tt_len (pc := 15) rw_77_15 rfl fK_2_0 fN_2_0 ?_
  refine to_icf (pc := 16) rw_77_16 (by decide +kernel) ?_
  refine to_an (pc := 19) rw_77_19 rfl ?_
  refine tt_gR (pc := 20) rw_77_20 fO_1_8 fR_1_0 ?_
  refine to_an (pc := 23) rw_77_23 rfl ?_
  refine tt_gI (pc := 24) rw_77_24 fO_1_8 k0 ?_
  refine to_in (pc := 27) rw_77_27 rfl ?_
  refine to_in (pc := 28) rw_77_28 rfl ?_
  refine to_2 (pc := 29) rw_77_29 rfl ?_
  refine to_i2b (pc := 30) rw_77_30 rfl ?_
  refine to_bas (pc := 31) rw_77_31 (k := 14) fX_2_102 fO_2_103 (op_j fN_2_0 (by decide +kernel)) (by decide +kernel) rfl ?_
  refine to_an (pc := 32) rw_77_32 rfl ?_
  refine to_dupr (pc := 33) rw_77_33 ?_
  refine tt_gI (pc := 34) rw_77_34 fO_1_8 (rI_n rfl k0) ?_
  refine to_c (pc := 37) rw_77_37 (x := (1 : Int32)) rfl rfl ?_
  refine to_2 (pc := 38) rw_77_38 (v := (15 : Int32)) (by decide +kernel) ?_
  refine tt_pI (pc := 39) rw_77_39 fO_1_8 ?_
  refine to_inc (pc := 42) rw_77_42 (ls2 := [.ref 1, .int _, .int (0 : Int32)]) rfl rfl rfl ?_
  refine to_go (pc := 45) rw_77_45 ?_
  exact h _ (fd_k (fd_s P rfl rfl))
set_option maxRecDepth 4000 in
theorem fd_b_15 {X : mm_X} {d : Nat} {Q : Option Value → mm_M → Prop} {M : mm_M} {x c : Int32} (P : fd_P M (15 : Int32) c) (h : ∀ M1, fd_P M1 (16 : Int32) c → mm_T X d 77 3 [.ref 1, .int x, .int (-8 : Int32)] [] M1 Q) : mm_T X d 77 3 [.ref 1, .int x, .int (0 : Int32)] [] M Q := by
  have fC := P.1.1
  have fK_2_0 := P.1.2.1
  have fN_2_0 := P.1.2.2.1
  have fN_78_0 := P.1.2.2.2.1
  have fO_0_10 := P.1.2.2.2.2.1
  have fO_1_8 := P.1.2.2.2.2.2.1
  have fO_2_103 := P.1.2.2.2.2.2.2.1
  have fO_77_11 := P.1.2.2.2.2.2.2.2.1
  have fO_78_100 := P.1.2.2.2.2.2.2.2.2.1
  have fR_0_0 := P.1.2.2.2.2.2.2.2.2.2.1
  have fR_1_0 := P.1.2.2.2.2.2.2.2.2.2.2.1
  have fR_77_0 := P.1.2.2.2.2.2.2.2.2.2.2.2.1
  have fX_2_102 := P.1.2.2.2.2.2.2.2.2.2.2.2.2
  have k0 := P.2.1
  have c0 := P.2.2
  refine to_in (pc := 3) rw_77_3 rfl ?_
  refine to_iff (pc := 4) rw_77_4 (by decide +kernel) ?_
  refine to_an (pc := 7) rw_77_7 rfl ?_
  refine tt_gI (pc := 8) rw_77_8 fO_1_8 k0 ?_
  refine to_an (pc := 11) rw_77_11 rfl ?_
  refine tt_gR (pc := 12) rw_77_12 fO_1_8 fR_1_0 ?_
  refine tt_len (pc := 15) rw_77_15 rfl fK_2_0 fN_2_0 ?_
  refine to_icf (pc := 16) rw_77_16 (by decide +kernel) ?_
  refine to_an (pc := 19) rw_77_19 rfl ?_
  refine tt_gR (pc := 20) rw_77_20 fO_1_8 fR_1_0 ?_
  refine to_an (pc := 23) rw_77_23 rfl ?_
  refine tt_gI (pc := 24) rw_77_24 fO_1_8 k0 ?_
  refine to_in (pc := 27) rw_77_27 rfl ?_
  refine to_in (pc := 28) rw_77_28 rfl ?_
  refine to_2 (pc := 29) rw_77_29 rfl ?_
  refine to_i2b (pc := 30) rw_77_30 rfl ?_
  refine to_bas (pc := 31) rw_77_31 (k := 15) fX_2_102 fO_2_103 (op_j fN_2_0 (by decide +kernel)) (by decide +kernel) rfl ?_
  refine to_an (pc := 32) rw_77_32 rfl ?_
  refine to_dupr (pc := 33) rw_77_33 ?_
  refine tt_gI (pc := 34) rw_77_34 fO_1_8 (rI_n rfl k0) ?_
  refine to_c (pc := 37) rw_77_37 (x := (1 : Int32)) rfl rfl ?_
  refine to_2 (pc := 38) rw_77_38 (v := (16 : Int32)) (by decide +kernel) ?_
  refine tt_pI (pc := 39) rw_77_39 fO_1_8 ?_
  refine to_inc (pc := 42) rw_77_42 (ls2 := [.ref 1, .int _, .int (-8 : Int32)]) rfl rfl rfl ?_
  refine to_go (pc := 45) rw_77_45 ?_
  exact h _ (fd_k (fd_s P rfl rfl))
set_option maxRecDepth 4000 in
theorem fd_a_12 {X : mm_X} {d : Nat} {Q : Option Value → mm_M → Prop} {M : mm_M} {x c : Int32} (P : fd_P M (12 : Int32) c) (h : ∀ M1, fd_P M1 (16 : Int32) c → Q none M1) : mm_T X d 77 0 [.ref 1, .int x, .null] [] M Q := by
  refine to_c (pc := 0) rw_77_0 (x := (24 : Int32)) rfl rfl ?_
  refine to_isn (pc := 2) rw_77_2 (ls2 := [.ref 1, .int _, .int (24 : Int32)]) rfl rfl ?_
  refine fd_b_12 P ?_
  clear P
  intro M P
  refine fd_b_13 P ?_
  clear P
  intro M P
  refine fd_b_14 P ?_
  clear P
  intro M P
  refine fd_b_15 P ?_
  clear P
  intro M P
  refine to_in (pc := 3) rw_77_3 rfl ?_
  refine to_ift (pc := 4) rw_77_4 (by decide +kernel) ?_
  refine to_rv (pc := 48) rw_77_48 ?_
  exact h _ P
set_option maxRecDepth 4000 in
theorem fd_b_16 {X : mm_X} {d : Nat} {Q : Option Value → mm_M → Prop} {M : mm_M} {x c : Int32} (P : fd_P M (16 : Int32) c) (h : ∀ M1, fd_P M1 (17 : Int32) c → mm_T X d 77 3 [.ref 1, .int x, .int (16 : Int32)] [] M1 Q) : mm_T X d 77 3 [.ref 1, .int x, .int (24 : Int32)] [] M Q := by
  have fC := P.1.1
  have fK_2_0 := P.1.2.1
  have fN_2_0 := P.1.2.2.1
  have fN_78_0 := P.1.2.2.2.1
  have fO_0_10 := P.1.2.2.2.2.1
  have fO_1_8 := P.1.2.2.2.2.2.1
  have fO_2_103 := P.1.2.2.2.2.2.2.1
  have fO_77_11 := P.1.2.2.2.2.2.2.2.1
  have fO_78_100 := P.1.2.2.2.2.2.2.2.2.1
  have fR_0_0 := P.1.2.2.2.2.2.2.2.2.2.1
  have fR_1_0 := P.1.2.2.2.2.2.2.2.2.2.2.1
  have fR_77_0 := P.1.2.2.2.2.2.2.2.2.2.2.2.1
  have fX_2_102 := P.1.2.2.2.2.2.2.2.2.2.2.2.2
  have k0 := P.2.1
  have c0 := P.2.2
  refine to_in (pc := 3) rw_77_3 rfl ?_
  refine to_iff (pc := 4) rw_77_4 (by decide +kernel) ?_
  refine to_an (pc := 7) rw_77_7 rfl ?_
  refine tt_gI (pc := 8) rw_77_8 fO_1_8 k0 ?_
  refine to_an (pc := 11) rw_77_11 rfl ?_
  refine tt_gR (pc := 12) rw_77_12 fO_1_8 fR_1_0 ?_
  refine tt_len (pc := 15) rw_77_15 rfl fK_2_0 fN_2_0 ?_
  refine to_icf (pc := 16) rw_77_16 (by decide +kernel) ?_
  refine to_an (pc := 19) rw_77_19 rfl ?_
  refine tt_gR (pc := 20) rw_77_20 fO_1_8 fR_1_0 ?_
  refine to_an (pc := 23) rw_77_23 rfl ?_
  refine tt_gI (pc := 24) rw_77_24 fO_1_8 k0 ?_
  refine to_in (pc := 27) rw_77_27 rfl ?_
  refine to_in (pc := 28) rw_77_28 rfl ?_
  refine to_2 (pc := 29) rw_77_29 rfl ?_
  refine to_i2b (pc := 30) rw_77_30 rfl ?_
  refine to_bas (pc := 31) rw_77_31 (k := 16) fX_2_102 fO_2_103 (op_j fN_2_0 (by decide +kernel)) (by decide +kernel) rfl ?_
  refine to_an (pc := 32) rw_77_32 rfl ?_
  refine to_dupr (pc := 33) rw_77_33 ?_
  refine tt_gI (pc := 34) rw_77_34 fO_1_8 (rI_n rfl k0) ?_
  refine to_c (pc := 37) rw_77_37 (x := (1 : Int32)) rfl rfl ?_
  refine to_2 (pc := 38) rw_77_38 (v := (17 : Int32)) (by decide +kernel) ?_
  refine tt_pI (pc := 39) rw_77_39 fO_1_8 ?_
  refine to_inc (pc := 42) rw_77_42 (ls2 := [.ref 1, .int _, .int (16 : Int32)]) rfl rfl rfl ?_
  refine to_go (pc := 45) rw_77_45 ?_
  exact h _ (fd_k (fd_s P rfl rfl))
set_option maxRecDepth 4000 in
theorem fd_b_17 {X : mm_X} {d : Nat} {Q : Option Value → mm_M → Prop} {M : mm_M} {x c : Int32} (P : fd_P M (17 : Int32) c) (h : ∀ M1, fd_P M1 (18 : Int32) c → mm_T X d 77 3 [.ref 1, .int x, .int (8 : Int32)] [] M1 Q) : mm_T X d 77 3 [.ref 1, .int x, .int (16 : Int32)] [] M Q := by
  have fC := P.1.1
  have fK_2_0 := P.1.2.1
  have fN_2_0 := P.1.2.2.1
  have fN_78_0 := P.1.2.2.2.1
  have fO_0_10 := P.1.2.2.2.2.1
  have fO_1_8 := P.1.2.2.2.2.2.1
  have fO_2_103 := P.1.2.2.2.2.2.2.1
  have fO_77_11 := P.1.2.2.2.2.2.2.2.1
  have fO_78_100 := P.1.2.2.2.2.2.2.2.2.1
  have fR_0_0 := P.1.2.2.2.2.2.2.2.2.2.1
  have fR_1_0 := P.1.2.2.2.2.2.2.2.2.2.2.1
  have fR_77_0 := P.1.2.2.2.2.2.2.2.2.2.2.2.1
  have fX_2_102 := P.1.2.2.2.2.2.2.2.2.2.2.2.2
  have k0 := P.2.1
  have c0 := P.2.2
  refine to_in (pc := 3) rw_77_3 rfl ?_
  refine to_iff (pc := 4) rw_77_4 (by decide +kernel) ?_
  refine to_an (pc := 7) rw_77_7 rfl ?_
  refine tt_gI (pc := 8) rw_77_8 fO_1_8 k0 ?_
  refine to_an (pc := 11) rw_77_11 rfl ?_
  refine tt_gR (pc := 12) rw_77_12 fO_1_8 fR_1_0 ?_
  refine tt_len (pc := 15) rw_77_15 rfl fK_2_0 fN_2_0 ?_
  refine to_icf (pc := 16) rw_77_16 (by decide +kernel) ?_
  refine to_an (pc := 19) rw_77_19 rfl ?_
  refine tt_gR (pc := 20) rw_77_20 fO_1_8 fR_1_0 ?_
  refine to_an (pc := 23) rw_77_23 rfl ?_
  refine tt_gI (pc := 24) rw_77_24 fO_1_8 k0 ?_
  refine to_in (pc := 27) rw_77_27 rfl ?_
  refine to_in (pc := 28) rw_77_28 rfl ?_
  refine to_2 (pc := 29) rw_77_29 rfl ?_
  refine to_i2b (pc := 30) rw_77_30 rfl ?_
  refine to_bas (pc := 31) rw_77_31 (k := 17) fX_2_102 fO_2_103 (op_j fN_2_0 (by decide +kernel)) (by decide +kernel) rfl ?_
  refine to_an (pc := 32) rw_77_32 rfl ?_
  refine to_dupr (pc := 33) rw_77_33 ?_
  refine tt_gI (pc := 34) rw_77_34 fO_1_8 (rI_n rfl k0) ?_
  refine to_c (pc := 37) rw_77_37 (x := (1 : Int32)) rfl rfl ?_
  refine to_2 (pc := 38) rw_77_38 (v := (18 : Int32)) (by decide +kernel) ?_
  refine tt_pI (pc := 39) rw_77_39 fO_1_8 ?_
  refine to_inc (pc := 42) rw_77_42 (ls2 := [.ref 1, .int _, .int (8 : Int32)]) rfl rfl rfl ?_
  refine to_go (pc := 45) rw_77_45 ?_
  exact h _ (fd_k (fd_s P rfl rfl))
set_option maxRecDepth 4000 in
theorem fd_b_18 {X : mm_X} {d : Nat} {Q : Option Value → mm_M → Prop} {M : mm_M} {x c : Int32} (P : fd_P M (18 : Int32) c) (h : ∀ M1, fd_P M1 (19 : Int32) c → mm_T X d 77 3 [.ref 1, .int x, .int (0 : Int32)] [] M1 Q) : mm_T X d 77 3 [.ref 1, .int x, .int (8 : Int32)] [] M Q := by
  have fC := P.1.1
  have fK_2_0 := P.1.2.1
  have fN_2_0 := P.1.2.2.1
  have fN_78_0 := P.1.2.2.2.1
  have fO_0_10 := P.1.2.2.2.2.1
  have fO_1_8 := P.1.2.2.2.2.2.1
  have fO_2_103 := P.1.2.2.2.2.2.2.1
  have fO_77_11 := P.1.2.2.2.2.2.2.2.1
  have fO_78_100 := P.1.2.2.2.2.2.2.2.2.1
  have fR_0_0 := P.1.2.2.2.2.2.2.2.2.2.1
  have fR_1_0 := P.1.2.2.2.2.2.2.2.2.2.2.1
  have fR_77_0 := P.1.2.2.2.2.2.2.2.2.2.2.2.1
  have fX_2_102 := P.1.2.2.2.2.2.2.2.2.2.2.2.2
  have k0 := P.2.1
  have c0 := P.2.2
  refine to_in (pc := 3) rw_77_3 rfl ?_
  refine to_iff (pc := 4) rw_77_4 (by decide +kernel) ?_
  refine to_an (pc := 7) rw_77_7 rfl ?_
  refine tt_gI (pc := 8) rw_77_8 fO_1_8 k0 ?_
  refine to_an (pc := 11) rw_77_11 rfl ?_
  refine tt_gR (pc := 12) rw_77_12 fO_1_8 fR_1_0 ?_
  refine tt_len (pc := 15) rw_77_15 rfl fK_2_0 fN_2_0 ?_
  refine to_icf (pc := 16) rw_77_16 (by decide +kernel) ?_
  refine to_an (pc := 19) rw_77_19 rfl ?_
  refine tt_gR (pc := 20) rw_77_20 fO_1_8 fR_1_0 ?_
  refine to_an (pc := 23) rw_77_23 rfl ?_
  refine tt_gI (pc := 24) rw_77_24 fO_1_8 k0 ?_
  refine to_in (pc := 27) rw_77_27 rfl ?_
  refine to_in (pc := 28) rw_77_28 rfl ?_
  refine to_2 (pc := 29) rw_77_29 rfl ?_
  refine to_i2b (pc := 30) rw_77_30 rfl ?_
  refine to_bas (pc := 31) rw_77_31 (k := 18) fX_2_102 fO_2_103 (op_j fN_2_0 (by decide +kernel)) (by decide +kernel) rfl ?_
  refine to_an (pc := 32) rw_77_32 rfl ?_
  refine to_dupr (pc := 33) rw_77_33 ?_
  refine tt_gI (pc := 34) rw_77_34 fO_1_8 (rI_n rfl k0) ?_
  refine to_c (pc := 37) rw_77_37 (x := (1 : Int32)) rfl rfl ?_
  refine to_2 (pc := 38) rw_77_38 (v := (19 : Int32)) (by decide +kernel) ?_
  refine tt_pI (pc := 39) rw_77_39 fO_1_8 ?_
  refine to_inc (pc := 42) rw_77_42 (ls2 := [.ref 1, .int _, .int (0 : Int32)]) rfl rfl rfl ?_
  refine to_go (pc := 45) rw_77_45 ?_
  exact h _ (fd_k (fd_s P rfl rfl))
set_option maxRecDepth 4000 in
theorem fd_b_19 {X : mm_X} {d : Nat} {Q : Option Value → mm_M → Prop} {M : mm_M} {x c : Int32} (P : fd_P M (19 : Int32) c) (h : ∀ M1, fd_P M1 (20 : Int32) c → mm_T X d 77 3 [.ref 1, .int x, .int (-8 : Int32)] [] M1 Q) : mm_T X d 77 3 [.ref 1, .int x, .int (0 : Int32)] [] M Q := by
  have fC := P.1.1
  have fK_2_0 := P.1.2.1
  have fN_2_0 := P.1.2.2.1
  have fN_78_0 := P.1.2.2.2.1
  have fO_0_10 := P.1.2.2.2.2.1
  have fO_1_8 := P.1.2.2.2.2.2.1
  have fO_2_103 := P.1.2.2.2.2.2.2.1
  have fO_77_11 := P.1.2.2.2.2.2.2.2.1
  have fO_78_100 := P.1.2.2.2.2.2.2.2.2.1
  have fR_0_0 := P.1.2.2.2.2.2.2.2.2.2.1
  have fR_1_0 := P.1.2.2.2.2.2.2.2.2.2.2.1
  have fR_77_0 := P.1.2.2.2.2.2.2.2.2.2.2.2.1
  have fX_2_102 := P.1.2.2.2.2.2.2.2.2.2.2.2.2
  have k0 := P.2.1
  have c0 := P.2.2
  refine to_in (pc := 3) rw_77_3 rfl ?_
  refine to_iff (pc := 4) rw_77_4 (by decide +kernel) ?_
  refine to_an (pc := 7) rw_77_7 rfl ?_
  refine tt_gI (pc := 8) rw_77_8 fO_1_8 k0 ?_
  refine to_an (pc := 11) rw_77_11 rfl ?_
  refine tt_gR (pc := 12) rw_77_12 fO_1_8 fR_1_0 ?_
  refine tt_len (pc := 15) rw_77_15 rfl fK_2_0 fN_2_0 ?_
  refine to_icf (pc := 16) rw_77_16 (by decide +kernel) ?_
  refine to_an (pc := 19) rw_77_19 rfl ?_
  refine tt_gR (pc := 20) rw_77_20 fO_1_8 fR_1_0 ?_
  refine to_an (pc := 23) rw_77_23 rfl ?_
  refine tt_gI (pc := 24) rw_77_24 fO_1_8 k0 ?_
  refine to_in (pc := 27) rw_77_27 rfl ?_
  refine to_in (pc := 28) rw_77_28 rfl ?_
  refine to_2 (pc := 29) rw_77_29 rfl ?_
  refine to_i2b (pc := 30) rw_77_30 rfl ?_
  refine to_bas (pc := 31) rw_77_31 (k := 19) fX_2_102 fO_2_103 (op_j fN_2_0 (by decide +kernel)) (by decide +kernel) rfl ?_
  refine to_an (pc := 32) rw_77_32 rfl ?_
  refine to_dupr (pc := 33) rw_77_33 ?_
  refine tt_gI (pc := 34) rw_77_34 fO_1_8 (rI_n rfl k0) ?_
  refine to_c (pc := 37) rw_77_37 (x := (1 : Int32)) rfl rfl ?_
  refine to_2 (pc := 38) rw_77_38 (v := (20 : Int32)) (by decide +kernel) ?_
  refine tt_pI (pc := 39) rw_77_39 fO_1_8 ?_
  refine to_inc (pc := 42) rw_77_42 (ls2 := [.ref 1, .int _, .int (-8 : Int32)]) rfl rfl rfl ?_
  refine to_go (pc := 45) rw_77_45 ?_
  exact h _ (fd_k (fd_s P rfl rfl))
set_option maxRecDepth 4000 in
theorem fd_a_16 {X : mm_X} {d : Nat} {Q : Option Value → mm_M → Prop} {M : mm_M} {x c : Int32} (P : fd_P M (16 : Int32) c) (h : ∀ M1, fd_P M1 (20 : Int32) c → Q none M1) : mm_T X d 77 0 [.ref 1, .int x, .null] [] M Q := by
  refine to_c (pc := 0) rw_77_0 (x := (24 : Int32)) rfl rfl ?_
  refine to_isn (pc := 2) rw_77_2 (ls2 := [.ref 1, .int _, .int (24 : Int32)]) rfl rfl ?_
  refine fd_b_16 P ?_
  clear P
  intro M P
  refine fd_b_17 P ?_
  clear P
  intro M P
  refine fd_b_18 P ?_
  clear P
  intro M P
  refine fd_b_19 P ?_
  clear P
  intro M P
  refine to_in (pc := 3) rw_77_3 rfl ?_
  refine to_ift (pc := 4) rw_77_4 (by decide +kernel) ?_
  refine to_rv (pc := 48) rw_77_48 ?_
  exact h _ P
set_option maxRecDepth 4000 in
theorem fd_feed {X : mm_X} {d : Nat} {Q : Option Value → mm_M → Prop} {M : mm_M} {x1 x2 x3 x4 x5 c : Int32} (P : fd_P M (0 : Int32) c) (h : ∀ M1, fd_P M1 (20 : Int32) c → Q (some (.int (20 : Int32))) M1) : mm_T X (d + 1) 110 0 [.ref 0, .int x1, .int x2, .int x3, .int x4, .int x5] [] M Q := by
  have fC := P.1.1
  have fK_2_0 := P.1.2.1
  have fN_2_0 := P.1.2.2.1
  have fN_78_0 := P.1.2.2.2.1
  have fO_0_10 := P.1.2.2.2.2.1
  have fO_1_8 := P.1.2.2.2.2.2.1
  have fO_2_103 := P.1.2.2.2.2.2.2.1
  have fO_77_11 := P.1.2.2.2.2.2.2.2.1
  have fO_78_100 := P.1.2.2.2.2.2.2.2.2.1
  have fR_0_0 := P.1.2.2.2.2.2.2.2.2.2.1
  have fR_1_0 := P.1.2.2.2.2.2.2.2.2.2.2.1
  have fR_77_0 := P.1.2.2.2.2.2.2.2.2.2.2.2.1
  have fX_2_102 := P.1.2.2.2.2.2.2.2.2.2.2.2.2
  have k0 := P.2.1
  have c0 := P.2.2
  refine to_an (pc := 0) rw_110_0 rfl ?_
  refine tt_gR (pc := 1) rw_110_1 fO_0_10 fR_0_0 ?_
  refine tt_gI (pc := 4) rw_110_4 fO_1_8 k0 ?_
  refine to_c (pc := 7) rw_110_7 (x := (480 : Int32)) rfl rfl ?_
  refine to_ict (pc := 10) rw_110_10 (by decide +kernel) ?_
  refine to_an (pc := 15) rw_110_15 rfl ?_
  refine tt_gR (pc := 16) rw_110_16 fO_0_10 fR_0_0 ?_
  refine to_in (pc := 19) rw_110_19 rfl ?_
  refine to_v (pc := 20) rw_110_20 (hi := rfl) (ls0 := [.ref 1, .int _, .null]) rfl (Nat.le_of_ble_eq_true rfl) (Nat.le_of_ble_eq_true rfl) rfl (to_rc rfl rfl rfl fO_1_8) rfl ?_
  refine fd_a_0 P ?_
  clear P fC fK_2_0 fN_2_0 fN_78_0 fO_0_10 fO_1_8 fO_2_103 fO_77_11 fO_78_100 fR_0_0 fR_1_0 fR_77_0 fX_2_102 k0 c0
  intro M P
  have fC := P.1.1
  have fK_2_0 := P.1.2.1
  have fN_2_0 := P.1.2.2.1
  have fN_78_0 := P.1.2.2.2.1
  have fO_0_10 := P.1.2.2.2.2.1
  have fO_1_8 := P.1.2.2.2.2.2.1
  have fO_2_103 := P.1.2.2.2.2.2.2.1
  have fO_77_11 := P.1.2.2.2.2.2.2.2.1
  have fO_78_100 := P.1.2.2.2.2.2.2.2.2.1
  have fR_0_0 := P.1.2.2.2.2.2.2.2.2.2.1
  have fR_1_0 := P.1.2.2.2.2.2.2.2.2.2.2.1
  have fR_77_0 := P.1.2.2.2.2.2.2.2.2.2.2.2.1
  have fX_2_102 := P.1.2.2.2.2.2.2.2.2.2.2.2.2
  have k0 := P.2.1
  have c0 := P.2.2
  refine to_an (pc := 23) rw_110_23 rfl ?_
  refine tt_gR (pc := 24) rw_110_24 fO_0_10 fR_0_0 ?_
  refine to_in (pc := 27) rw_110_27 rfl ?_
  refine to_v (pc := 28) rw_110_28 (hi := rfl) (ls0 := [.ref 1, .int _, .null]) rfl (Nat.le_of_ble_eq_true rfl) (Nat.le_of_ble_eq_true rfl) rfl (to_rc rfl rfl rfl fO_1_8) rfl ?_
  refine fd_a_4 P ?_
  clear P fC fK_2_0 fN_2_0 fN_78_0 fO_0_10 fO_1_8 fO_2_103 fO_77_11 fO_78_100 fR_0_0 fR_1_0 fR_77_0 fX_2_102 k0 c0
  intro M P
  have fC := P.1.1
  have fK_2_0 := P.1.2.1
  have fN_2_0 := P.1.2.2.1
  have fN_78_0 := P.1.2.2.2.1
  have fO_0_10 := P.1.2.2.2.2.1
  have fO_1_8 := P.1.2.2.2.2.2.1
  have fO_2_103 := P.1.2.2.2.2.2.2.1
  have fO_77_11 := P.1.2.2.2.2.2.2.2.1
  have fO_78_100 := P.1.2.2.2.2.2.2.2.2.1
  have fR_0_0 := P.1.2.2.2.2.2.2.2.2.2.1
  have fR_1_0 := P.1.2.2.2.2.2.2.2.2.2.2.1
  have fR_77_0 := P.1.2.2.2.2.2.2.2.2.2.2.2.1
  have fX_2_102 := P.1.2.2.2.2.2.2.2.2.2.2.2.2
  have k0 := P.2.1
  have c0 := P.2.2
  refine to_an (pc := 31) rw_110_31 rfl ?_
  refine tt_gR (pc := 32) rw_110_32 fO_0_10 fR_0_0 ?_
  refine to_in (pc := 35) rw_110_35 rfl ?_
  refine to_v (pc := 36) rw_110_36 (hi := rfl) (ls0 := [.ref 1, .int _, .null]) rfl (Nat.le_of_ble_eq_true rfl) (Nat.le_of_ble_eq_true rfl) rfl (to_rc rfl rfl rfl fO_1_8) rfl ?_
  refine fd_a_8 P ?_
  clear P fC fK_2_0 fN_2_0 fN_78_0 fO_0_10 fO_1_8 fO_2_103 fO_77_11 fO_78_100 fR_0_0 fR_1_0 fR_77_0 fX_2_102 k0 c0
  intro M P
  have fC := P.1.1
  have fK_2_0 := P.1.2.1
  have fN_2_0 := P.1.2.2.1
  have fN_78_0 := P.1.2.2.2.1
  have fO_0_10 := P.1.2.2.2.2.1
  have fO_1_8 := P.1.2.2.2.2.2.1
  have fO_2_103 := P.1.2.2.2.2.2.2.1
  have fO_77_11 := P.1.2.2.2.2.2.2.2.1
  have fO_78_100 := P.1.2.2.2.2.2.2.2.2.1
  have fR_0_0 := P.1.2.2.2.2.2.2.2.2.2.1
  have fR_1_0 := P.1.2.2.2.2.2.2.2.2.2.2.1
  have fR_77_0 := P.1.2.2.2.2.2.2.2.2.2.2.2.1
  have fX_2_102 := P.1.2.2.2.2.2.2.2.2.2.2.2.2
  have k0 := P.2.1
  have c0 := P.2.2
  refine to_an (pc := 39) rw_110_39 rfl ?_
  refine tt_gR (pc := 40) rw_110_40 fO_0_10 fR_0_0 ?_
  refine to_i (pc := 43) rw_110_43 rfl ?_
  refine to_v (pc := 45) rw_110_45 (hi := rfl) (ls0 := [.ref 1, .int _, .null]) rfl (Nat.le_of_ble_eq_true rfl) (Nat.le_of_ble_eq_true rfl) rfl (to_rc rfl rfl rfl fO_1_8) rfl ?_
  refine fd_a_12 P ?_
  clear P fC fK_2_0 fN_2_0 fN_78_0 fO_0_10 fO_1_8 fO_2_103 fO_77_11 fO_78_100 fR_0_0 fR_1_0 fR_77_0 fX_2_102 k0 c0
  intro M P
  have fC := P.1.1
  have fK_2_0 := P.1.2.1
  have fN_2_0 := P.1.2.2.1
  have fN_78_0 := P.1.2.2.2.1
  have fO_0_10 := P.1.2.2.2.2.1
  have fO_1_8 := P.1.2.2.2.2.2.1
  have fO_2_103 := P.1.2.2.2.2.2.2.1
  have fO_77_11 := P.1.2.2.2.2.2.2.2.1
  have fO_78_100 := P.1.2.2.2.2.2.2.2.2.1
  have fR_0_0 := P.1.2.2.2.2.2.2.2.2.2.1
  have fR_1_0 := P.1.2.2.2.2.2.2.2.2.2.2.1
  have fR_77_0 := P.1.2.2.2.2.2.2.2.2.2.2.2.1
  have fX_2_102 := P.1.2.2.2.2.2.2.2.2.2.2.2.2
  have k0 := P.2.1
  have c0 := P.2.2
  refine to_an (pc := 48) rw_110_48 rfl ?_
  refine tt_gR (pc := 49) rw_110_49 fO_0_10 fR_0_0 ?_
  refine to_i (pc := 52) rw_110_52 rfl ?_
  refine to_v (pc := 54) rw_110_54 (hi := rfl) (ls0 := [.ref 1, .int _, .null]) rfl (Nat.le_of_ble_eq_true rfl) (Nat.le_of_ble_eq_true rfl) rfl (to_rc rfl rfl rfl fO_1_8) rfl ?_
  refine fd_a_16 P ?_
  clear P fC fK_2_0 fN_2_0 fN_78_0 fO_0_10 fO_1_8 fO_2_103 fO_77_11 fO_78_100 fR_0_0 fR_1_0 fR_77_0 fX_2_102 k0 c0
  intro M P
  have fC := P.1.1
  have fK_2_0 := P.1.2.1
  have fN_2_0 := P.1.2.2.1
  have fN_78_0 := P.1.2.2.2.1
  have fO_0_10 := P.1.2.2.2.2.1
  have fO_1_8 := P.1.2.2.2.2.2.1
  have fO_2_103 := P.1.2.2.2.2.2.2.1
  have fO_77_11 := P.1.2.2.2.2.2.2.2.1
  have fO_78_100 := P.1.2.2.2.2.2.2.2.2.1
  have fR_0_0 := P.1.2.2.2.2.2.2.2.2.2.1
  have fR_1_0 := P.1.2.2.2.2.2.2.2.2.2.2.1
  have fR_77_0 := P.1.2.2.2.2.2.2.2.2.2.2.2.1
  have fX_2_102 := P.1.2.2.2.2.2.2.2.2.2.2.2.2
  have k0 := P.2.1
  have c0 := P.2.2
  refine to_an (pc := 57) rw_110_57 rfl ?_
  refine tt_gR (pc := 58) rw_110_58 fO_0_10 fR_0_0 ?_
  refine tt_gI (pc := 61) rw_110_61 fO_1_8 k0 ?_
  refine to_r0 (pc := 64) rw_110_64 ?_
  exact h _ P
set_option maxRecDepth 4000 in
theorem fd_r_0 {X : mm_X} {d : Nat} {Q : Option Value → mm_M → Prop} {M : mm_M} {x1 x2 x3 x4 x5 k : Int32} {w : Value} (P : fd_P M k (0 : Int32)) (h : ∀ M1 w1, fd_P M1 k (0 : Int32) → mm_T X d 148 23 [.ref 77, .int x1, .int x2, .int x3, .int x4, .int x5, .int (1 : Int32), w1] [] M1 Q) : mm_T X d 148 23 [.ref 77, .int x1, .int x2, .int x3, .int x4, .int x5, .int (0 : Int32), w] [] M Q := by
  have fC := P.1.1
  have fK_2_0 := P.1.2.1
  have fN_2_0 := P.1.2.2.1
  have fN_78_0 := P.1.2.2.2.1
  have fO_0_10 := P.1.2.2.2.2.1
  have fO_1_8 := P.1.2.2.2.2.2.1
  have fO_2_103 := P.1.2.2.2.2.2.2.1
  have fO_77_11 := P.1.2.2.2.2.2.2.2.1
  have fO_78_100 := P.1.2.2.2.2.2.2.2.2.1
  have fR_0_0 := P.1.2.2.2.2.2.2.2.2.2.1
  have fR_1_0 := P.1.2.2.2.2.2.2.2.2.2.2.1
  have fR_77_0 := P.1.2.2.2.2.2.2.2.2.2.2.2.1
  have fX_2_102 := P.1.2.2.2.2.2.2.2.2.2.2.2.2
  have k0 := P.2.1
  have c0 := P.2.2
  refine to_i (pc := 23) rw_148_23 rfl ?_
  refine to_c (pc := 25) rw_148_25 (x := (20 : Int32)) rfl rfl ?_
  refine to_icf (pc := 27) rw_148_27 (by decide +kernel) ?_
  refine to_i (pc := 30) rw_148_30 rfl ?_
  refine to_c (pc := 32) rw_148_32 (x := (4 : Int32)) rfl rfl ?_
  refine to_icf (pc := 33) rw_148_33 (by decide +kernel) ?_
  refine to_in (pc := 36) rw_148_36 rfl ?_
  refine to_go (pc := 37) rw_148_37 ?_
  refine to_is (pc := 76) rw_148_76 (ls2 := [.ref 77, .int _, .int _, .int _, .int _, .int _, .int (0 : Int32), .int _]) rfl rfl ?_
  refine to_an (pc := 78) rw_148_78 rfl ?_
  refine tt_gR (pc := 79) rw_148_79 fO_77_11 fR_77_0 ?_
  refine to_an (pc := 82) rw_148_82 rfl ?_
  refine tt_gI (pc := 83) rw_148_83 fO_77_11 c0 ?_
  refine to_i (pc := 86) rw_148_86 rfl ?_
  refine to_2 (pc := 88) rw_148_88 (v := (0 : Int32)) (by decide +kernel) ?_
  refine to_i (pc := 89) rw_148_89 rfl ?_
  refine to_c (pc := 91) rw_148_91 (x := (24 : Int32)) rfl rfl ?_
  refine to_c (pc := 93) rw_148_93 (x := (8 : Int32)) rfl rfl ?_
  refine to_i (pc := 95) rw_148_95 rfl ?_
  refine to_c (pc := 97) rw_148_97 (x := (4 : Int32)) rfl rfl ?_
  refine to_2 (pc := 98) rw_148_98 (v := (0 : Int32)) (by decide +kernel) ?_
  refine to_2 (pc := 99) rw_148_99 (v := (0 : Int32)) (by decide +kernel) ?_
  refine to_2 (pc := 100) rw_148_100 (v := (24 : Int32)) (by decide +kernel) ?_
  refine to_2 (pc := 101) rw_148_101 rfl ?_
  refine to_c (pc := 102) rw_148_102 (x := (255 : Int32)) rfl rfl ?_
  refine to_2 (pc := 105) rw_148_105 rfl ?_
  refine to_ias (pc := 106) rw_148_106 (k := 0) fO_78_100 (op_j fN_78_0 (by decide +kernel)) (by decide +kernel) ?_
  refine to_inc (pc := 107) rw_148_107 (ls2 := [.ref 77, .int _, .int _, .int _, .int _, .int _, .int (1 : Int32), .int _]) rfl rfl rfl ?_
  refine to_go (pc := 110) rw_148_110 ?_
  exact h _ _ (fd_s P rfl rfl)
set_option maxRecDepth 4000 in
theorem fd_r_1 {X : mm_X} {d : Nat} {Q : Option Value → mm_M → Prop} {M : mm_M} {x1 x2 x3 x4 x5 k : Int32} {w : Value} (P : fd_P M k (0 : Int32)) (h : ∀ M1 w1, fd_P M1 k (0 : Int32) → mm_T X d 148 23 [.ref 77, .int x1, .int x2, .int x3, .int x4, .int x5, .int (2 : Int32), w1] [] M1 Q) : mm_T X d 148 23 [.ref 77, .int x1, .int x2, .int x3, .int x4, .int x5, .int (1 : Int32), w] [] M Q := by
  have fC := P.1.1
  have fK_2_0 := P.1.2.1
  have fN_2_0 := P.1.2.2.1
  have fN_78_0 := P.1.2.2.2.1
  have fO_0_10 := P.1.2.2.2.2.1
  have fO_1_8 := P.1.2.2.2.2.2.1
  have fO_2_103 := P.1.2.2.2.2.2.2.1
  have fO_77_11 := P.1.2.2.2.2.2.2.2.1
  have fO_78_100 := P.1.2.2.2.2.2.2.2.2.1
  have fR_0_0 := P.1.2.2.2.2.2.2.2.2.2.1
  have fR_1_0 := P.1.2.2.2.2.2.2.2.2.2.2.1
  have fR_77_0 := P.1.2.2.2.2.2.2.2.2.2.2.2.1
  have fX_2_102 := P.1.2.2.2.2.2.2.2.2.2.2.2.2
  have k0 := P.2.1
  have c0 := P.2.2
  refine to_i (pc := 23) rw_148_23 rfl ?_
  refine to_c (pc := 25) rw_148_25 (x := (20 : Int32)) rfl rfl ?_
  refine to_icf (pc := 27) rw_148_27 (by decide +kernel) ?_
  refine to_i (pc := 30) rw_148_30 rfl ?_
  refine to_c (pc := 32) rw_148_32 (x := (4 : Int32)) rfl rfl ?_
  refine to_icf (pc := 33) rw_148_33 (by decide +kernel) ?_
  refine to_in (pc := 36) rw_148_36 rfl ?_
  refine to_go (pc := 37) rw_148_37 ?_
  refine to_is (pc := 76) rw_148_76 (ls2 := [.ref 77, .int _, .int _, .int _, .int _, .int _, .int (1 : Int32), .int _]) rfl rfl ?_
  refine to_an (pc := 78) rw_148_78 rfl ?_
  refine tt_gR (pc := 79) rw_148_79 fO_77_11 fR_77_0 ?_
  refine to_an (pc := 82) rw_148_82 rfl ?_
  refine tt_gI (pc := 83) rw_148_83 fO_77_11 c0 ?_
  refine to_i (pc := 86) rw_148_86 rfl ?_
  refine to_2 (pc := 88) rw_148_88 (v := (1 : Int32)) (by decide +kernel) ?_
  refine to_i (pc := 89) rw_148_89 rfl ?_
  refine to_c (pc := 91) rw_148_91 (x := (24 : Int32)) rfl rfl ?_
  refine to_c (pc := 93) rw_148_93 (x := (8 : Int32)) rfl rfl ?_
  refine to_i (pc := 95) rw_148_95 rfl ?_
  refine to_c (pc := 97) rw_148_97 (x := (4 : Int32)) rfl rfl ?_
  refine to_2 (pc := 98) rw_148_98 (v := (1 : Int32)) (by decide +kernel) ?_
  refine to_2 (pc := 99) rw_148_99 (v := (8 : Int32)) (by decide +kernel) ?_
  refine to_2 (pc := 100) rw_148_100 (v := (16 : Int32)) (by decide +kernel) ?_
  refine to_2 (pc := 101) rw_148_101 rfl ?_
  refine to_c (pc := 102) rw_148_102 (x := (255 : Int32)) rfl rfl ?_
  refine to_2 (pc := 105) rw_148_105 rfl ?_
  refine to_ias (pc := 106) rw_148_106 (k := 1) fO_78_100 (op_j fN_78_0 (by decide +kernel)) (by decide +kernel) ?_
  refine to_inc (pc := 107) rw_148_107 (ls2 := [.ref 77, .int _, .int _, .int _, .int _, .int _, .int (2 : Int32), .int _]) rfl rfl rfl ?_
  refine to_go (pc := 110) rw_148_110 ?_
  exact h _ _ (fd_s P rfl rfl)
set_option maxRecDepth 4000 in
theorem fd_r_2 {X : mm_X} {d : Nat} {Q : Option Value → mm_M → Prop} {M : mm_M} {x1 x2 x3 x4 x5 k : Int32} {w : Value} (P : fd_P M k (0 : Int32)) (h : ∀ M1 w1, fd_P M1 k (0 : Int32) → mm_T X d 148 23 [.ref 77, .int x1, .int x2, .int x3, .int x4, .int x5, .int (3 : Int32), w1] [] M1 Q) : mm_T X d 148 23 [.ref 77, .int x1, .int x2, .int x3, .int x4, .int x5, .int (2 : Int32), w] [] M Q := by
  have fC := P.1.1
  have fK_2_0 := P.1.2.1
  have fN_2_0 := P.1.2.2.1
  have fN_78_0 := P.1.2.2.2.1
  have fO_0_10 := P.1.2.2.2.2.1
  have fO_1_8 := P.1.2.2.2.2.2.1
  have fO_2_103 := P.1.2.2.2.2.2.2.1
  have fO_77_11 := P.1.2.2.2.2.2.2.2.1
  have fO_78_100 := P.1.2.2.2.2.2.2.2.2.1
  have fR_0_0 := P.1.2.2.2.2.2.2.2.2.2.1
  have fR_1_0 := P.1.2.2.2.2.2.2.2.2.2.2.1
  have fR_77_0 := P.1.2.2.2.2.2.2.2.2.2.2.2.1
  have fX_2_102 := P.1.2.2.2.2.2.2.2.2.2.2.2.2
  have k0 := P.2.1
  have c0 := P.2.2
  refine to_i (pc := 23) rw_148_23 rfl ?_
  refine to_c (pc := 25) rw_148_25 (x := (20 : Int32)) rfl rfl ?_
  refine to_icf (pc := 27) rw_148_27 (by decide +kernel) ?_
  refine to_i (pc := 30) rw_148_30 rfl ?_
  refine to_c (pc := 32) rw_148_32 (x := (4 : Int32)) rfl rfl ?_
  refine to_icf (pc := 33) rw_148_33 (by decide +kernel) ?_
  refine to_in (pc := 36) rw_148_36 rfl ?_
  refine to_go (pc := 37) rw_148_37 ?_
  refine to_is (pc := 76) rw_148_76 (ls2 := [.ref 77, .int _, .int _, .int _, .int _, .int _, .int (2 : Int32), .int _]) rfl rfl ?_
  refine to_an (pc := 78) rw_148_78 rfl ?_
  refine tt_gR (pc := 79) rw_148_79 fO_77_11 fR_77_0 ?_
  refine to_an (pc := 82) rw_148_82 rfl ?_
  refine tt_gI (pc := 83) rw_148_83 fO_77_11 c0 ?_
  refine to_i (pc := 86) rw_148_86 rfl ?_
  refine to_2 (pc := 88) rw_148_88 (v := (2 : Int32)) (by decide +kernel) ?_
  refine to_i (pc := 89) rw_148_89 rfl ?_
  refine to_c (pc := 91) rw_148_91 (x := (24 : Int32)) rfl rfl ?_
  refine to_c (pc := 93) rw_148_93 (x := (8 : Int32)) rfl rfl ?_
  refine to_i (pc := 95) rw_148_95 rfl ?_
  refine to_c (pc := 97) rw_148_97 (x := (4 : Int32)) rfl rfl ?_
  refine to_2 (pc := 98) rw_148_98 (v := (2 : Int32)) (by decide +kernel) ?_
  refine to_2 (pc := 99) rw_148_99 (v := (16 : Int32)) (by decide +kernel) ?_
  refine to_2 (pc := 100) rw_148_100 (v := (8 : Int32)) (by decide +kernel) ?_
  refine to_2 (pc := 101) rw_148_101 rfl ?_
  refine to_c (pc := 102) rw_148_102 (x := (255 : Int32)) rfl rfl ?_
  refine to_2 (pc := 105) rw_148_105 rfl ?_
  refine to_ias (pc := 106) rw_148_106 (k := 2) fO_78_100 (op_j fN_78_0 (by decide +kernel)) (by decide +kernel) ?_
  refine to_inc (pc := 107) rw_148_107 (ls2 := [.ref 77, .int _, .int _, .int _, .int _, .int _, .int (3 : Int32), .int _]) rfl rfl rfl ?_
  refine to_go (pc := 110) rw_148_110 ?_
  exact h _ _ (fd_s P rfl rfl)
set_option maxRecDepth 4000 in
theorem fd_r_3 {X : mm_X} {d : Nat} {Q : Option Value → mm_M → Prop} {M : mm_M} {x1 x2 x3 x4 x5 k : Int32} {w : Value} (P : fd_P M k (0 : Int32)) (h : ∀ M1 w1, fd_P M1 k (0 : Int32) → mm_T X d 148 23 [.ref 77, .int x1, .int x2, .int x3, .int x4, .int x5, .int (4 : Int32), w1] [] M1 Q) : mm_T X d 148 23 [.ref 77, .int x1, .int x2, .int x3, .int x4, .int x5, .int (3 : Int32), w] [] M Q := by
  have fC := P.1.1
  have fK_2_0 := P.1.2.1
  have fN_2_0 := P.1.2.2.1
  have fN_78_0 := P.1.2.2.2.1
  have fO_0_10 := P.1.2.2.2.2.1
  have fO_1_8 := P.1.2.2.2.2.2.1
  have fO_2_103 := P.1.2.2.2.2.2.2.1
  have fO_77_11 := P.1.2.2.2.2.2.2.2.1
  have fO_78_100 := P.1.2.2.2.2.2.2.2.2.1
  have fR_0_0 := P.1.2.2.2.2.2.2.2.2.2.1
  have fR_1_0 := P.1.2.2.2.2.2.2.2.2.2.2.1
  have fR_77_0 := P.1.2.2.2.2.2.2.2.2.2.2.2.1
  have fX_2_102 := P.1.2.2.2.2.2.2.2.2.2.2.2.2
  have k0 := P.2.1
  have c0 := P.2.2
  refine to_i (pc := 23) rw_148_23 rfl ?_
  refine to_c (pc := 25) rw_148_25 (x := (20 : Int32)) rfl rfl ?_
  refine to_icf (pc := 27) rw_148_27 (by decide +kernel) ?_
  refine to_i (pc := 30) rw_148_30 rfl ?_
  refine to_c (pc := 32) rw_148_32 (x := (4 : Int32)) rfl rfl ?_
  refine to_icf (pc := 33) rw_148_33 (by decide +kernel) ?_
  refine to_in (pc := 36) rw_148_36 rfl ?_
  refine to_go (pc := 37) rw_148_37 ?_
  refine to_is (pc := 76) rw_148_76 (ls2 := [.ref 77, .int _, .int _, .int _, .int _, .int _, .int (3 : Int32), .int _]) rfl rfl ?_
  refine to_an (pc := 78) rw_148_78 rfl ?_
  refine tt_gR (pc := 79) rw_148_79 fO_77_11 fR_77_0 ?_
  refine to_an (pc := 82) rw_148_82 rfl ?_
  refine tt_gI (pc := 83) rw_148_83 fO_77_11 c0 ?_
  refine to_i (pc := 86) rw_148_86 rfl ?_
  refine to_2 (pc := 88) rw_148_88 (v := (3 : Int32)) (by decide +kernel) ?_
  refine to_i (pc := 89) rw_148_89 rfl ?_
  refine to_c (pc := 91) rw_148_91 (x := (24 : Int32)) rfl rfl ?_
  refine to_c (pc := 93) rw_148_93 (x := (8 : Int32)) rfl rfl ?_
  refine to_i (pc := 95) rw_148_95 rfl ?_
  refine to_c (pc := 97) rw_148_97 (x := (4 : Int32)) rfl rfl ?_
  refine to_2 (pc := 98) rw_148_98 (v := (3 : Int32)) (by decide +kernel) ?_
  refine to_2 (pc := 99) rw_148_99 (v := (24 : Int32)) (by decide +kernel) ?_
  refine to_2 (pc := 100) rw_148_100 (v := (0 : Int32)) (by decide +kernel) ?_
  refine to_2 (pc := 101) rw_148_101 rfl ?_
  refine to_c (pc := 102) rw_148_102 (x := (255 : Int32)) rfl rfl ?_
  refine to_2 (pc := 105) rw_148_105 rfl ?_
  refine to_ias (pc := 106) rw_148_106 (k := 3) fO_78_100 (op_j fN_78_0 (by decide +kernel)) (by decide +kernel) ?_
  refine to_inc (pc := 107) rw_148_107 (ls2 := [.ref 77, .int _, .int _, .int _, .int _, .int _, .int (4 : Int32), .int _]) rfl rfl rfl ?_
  refine to_go (pc := 110) rw_148_110 ?_
  exact h _ _ (fd_s P rfl rfl)
set_option maxRecDepth 4000 in
theorem fd_r_4 {X : mm_X} {d : Nat} {Q : Option Value → mm_M → Prop} {M : mm_M} {x1 x2 x3 x4 x5 k : Int32} {w : Value} (P : fd_P M k (0 : Int32)) (h : ∀ M1 w1, fd_P M1 k (0 : Int32) → mm_T X d 148 23 [.ref 77, .int x1, .int x2, .int x3, .int x4, .int x5, .int (5 : Int32), w1] [] M1 Q) : mm_T X d 148 23 [.ref 77, .int x1, .int x2, .int x3, .int x4, .int x5, .int (4 : Int32), w] [] M Q := by
  have fC := P.1.1
  have fK_2_0 := P.1.2.1
  have fN_2_0 := P.1.2.2.1
  have fN_78_0 := P.1.2.2.2.1
  have fO_0_10 := P.1.2.2.2.2.1
  have fO_1_8 := P.1.2.2.2.2.2.1
  have fO_2_103 := P.1.2.2.2.2.2.2.1
  have fO_77_11 := P.1.2.2.2.2.2.2.2.1
  have fO_78_100 := P.1.2.2.2.2.2.2.2.2.1
  have fR_0_0 := P.1.2.2.2.2.2.2.2.2.2.1
  have fR_1_0 := P.1.2.2.2.2.2.2.2.2.2.2.1
  have fR_77_0 := P.1.2.2.2.2.2.2.2.2.2.2.2.1
  have fX_2_102 := P.1.2.2.2.2.2.2.2.2.2.2.2.2
  have k0 := P.2.1
  have c0 := P.2.2
  refine to_i (pc := 23) rw_148_23 rfl ?_
  refine to_c (pc := 25) rw_148_25 (x := (20 : Int32)) rfl rfl ?_
  refine to_icf (pc := 27) rw_148_27 (by decide +kernel) ?_
  refine to_i (pc := 30) rw_148_30 rfl ?_
  refine to_c (pc := 32) rw_148_32 (x := (4 : Int32)) rfl rfl ?_
  refine to_ict (pc := 33) rw_148_33 (by decide +kernel) ?_
  refine to_i (pc := 40) rw_148_40 rfl ?_
  refine to_c (pc := 42) rw_148_42 (x := (8 : Int32)) rfl rfl ?_
  refine to_icf (pc := 44) rw_148_44 (by decide +kernel) ?_
  refine to_in (pc := 47) rw_148_47 rfl ?_
  refine to_go (pc := 48) rw_148_48 ?_
  refine to_is (pc := 76) rw_148_76 (ls2 := [.ref 77, .int _, .int _, .int _, .int _, .int _, .int (4 : Int32), .int _]) rfl rfl ?_
  refine to_an (pc := 78) rw_148_78 rfl ?_
  refine tt_gR (pc := 79) rw_148_79 fO_77_11 fR_77_0 ?_
  refine to_an (pc := 82) rw_148_82 rfl ?_
  refine tt_gI (pc := 83) rw_148_83 fO_77_11 c0 ?_
  refine to_i (pc := 86) rw_148_86 rfl ?_
  refine to_2 (pc := 88) rw_148_88 (v := (4 : Int32)) (by decide +kernel) ?_
  refine to_i (pc := 89) rw_148_89 rfl ?_
  refine to_c (pc := 91) rw_148_91 (x := (24 : Int32)) rfl rfl ?_
  refine to_c (pc := 93) rw_148_93 (x := (8 : Int32)) rfl rfl ?_
  refine to_i (pc := 95) rw_148_95 rfl ?_
  refine to_c (pc := 97) rw_148_97 (x := (4 : Int32)) rfl rfl ?_
  refine to_2 (pc := 98) rw_148_98 (v := (0 : Int32)) (by decide +kernel) ?_
  refine to_2 (pc := 99) rw_148_99 (v := (0 : Int32)) (by decide +kernel) ?_
  refine to_2 (pc := 100) rw_148_100 (v := (24 : Int32)) (by decide +kernel) ?_
  refine to_2 (pc := 101) rw_148_101 rfl ?_
  refine to_c (pc := 102) rw_148_102 (x := (255 : Int32)) rfl rfl ?_
  refine to_2 (pc := 105) rw_148_105 rfl ?_
  refine to_ias (pc := 106) rw_148_106 (k := 4) fO_78_100 (op_j fN_78_0 (by decide +kernel)) (by decide +kernel) ?_
  refine to_inc (pc := 107) rw_148_107 (ls2 := [.ref 77, .int _, .int _, .int _, .int _, .int _, .int (5 : Int32), .int _]) rfl rfl rfl ?_
  refine to_go (pc := 110) rw_148_110 ?_
  exact h _ _ (fd_s P rfl rfl)
set_option maxRecDepth 4000 in
theorem fd_r_5 {X : mm_X} {d : Nat} {Q : Option Value → mm_M → Prop} {M : mm_M} {x1 x2 x3 x4 x5 k : Int32} {w : Value} (P : fd_P M k (0 : Int32)) (h : ∀ M1 w1, fd_P M1 k (0 : Int32) → mm_T X d 148 23 [.ref 77, .int x1, .int x2, .int x3, .int x4, .int x5, .int (6 : Int32), w1] [] M1 Q) : mm_T X d 148 23 [.ref 77, .int x1, .int x2, .int x3, .int x4, .int x5, .int (5 : Int32), w] [] M Q := by
  have fC := P.1.1
  have fK_2_0 := P.1.2.1
  have fN_2_0 := P.1.2.2.1
  have fN_78_0 := P.1.2.2.2.1
  have fO_0_10 := P.1.2.2.2.2.1
  have fO_1_8 := P.1.2.2.2.2.2.1
  have fO_2_103 := P.1.2.2.2.2.2.2.1
  have fO_77_11 := P.1.2.2.2.2.2.2.2.1
  have fO_78_100 := P.1.2.2.2.2.2.2.2.2.1
  have fR_0_0 := P.1.2.2.2.2.2.2.2.2.2.1
  have fR_1_0 := P.1.2.2.2.2.2.2.2.2.2.2.1
  have fR_77_0 := P.1.2.2.2.2.2.2.2.2.2.2.2.1
  have fX_2_102 := P.1.2.2.2.2.2.2.2.2.2.2.2.2
  have k0 := P.2.1
  have c0 := P.2.2
  refine to_i (pc := 23) rw_148_23 rfl ?_
  refine to_c (pc := 25) rw_148_25 (x := (20 : Int32)) rfl rfl ?_
  refine to_icf (pc := 27) rw_148_27 (by decide +kernel) ?_
  refine to_i (pc := 30) rw_148_30 rfl ?_
  refine to_c (pc := 32) rw_148_32 (x := (4 : Int32)) rfl rfl ?_
  refine to_ict (pc := 33) rw_148_33 (by decide +kernel) ?_
  refine to_i (pc := 40) rw_148_40 rfl ?_
  refine to_c (pc := 42) rw_148_42 (x := (8 : Int32)) rfl rfl ?_
  refine to_icf (pc := 44) rw_148_44 (by decide +kernel) ?_
  refine to_in (pc := 47) rw_148_47 rfl ?_
  refine to_go (pc := 48) rw_148_48 ?_
  refine to_is (pc := 76) rw_148_76 (ls2 := [.ref 77, .int _, .int _, .int _, .int _, .int _, .int (5 : Int32), .int _]) rfl rfl ?_
  refine to_an (pc := 78) rw_148_78 rfl ?_
  refine tt_gR (pc := 79) rw_148_79 fO_77_11 fR_77_0 ?_
  refine to_an (pc := 82) rw_148_82 rfl ?_
  refine tt_gI (pc := 83) rw_148_83 fO_77_11 c0 ?_
  refine to_i (pc := 86) rw_148_86 rfl ?_
  refine to_2 (pc := 88) rw_148_88 (v := (5 : Int32)) (by decide +kernel) ?_
  refine to_i (pc := 89) rw_148_89 rfl ?_
  refine to_c (pc := 91) rw_148_91 (x := (24 : Int32)) rfl rfl ?_
  refine to_c (pc := 93) rw_148_93 (x := (8 : Int32)) rfl rfl ?_
  refine to_i (pc := 95) rw_148_95 rfl ?_
  refine to_c (pc := 97) rw_148_97 (x := (4 : Int32)) rfl rfl ?_
  refine to_2 (pc := 98) rw_148_98 (v := (1 : Int32)) (by decide +kernel) ?_
  refine to_2 (pc := 99) rw_148_99 (v := (8 : Int32)) (by decide +kernel) ?_
  refine to_2 (pc := 100) rw_148_100 (v := (16 : Int32)) (by decide +kernel) ?_
  refine to_2 (pc := 101) rw_148_101 rfl ?_
  refine to_c (pc := 102) rw_148_102 (x := (255 : Int32)) rfl rfl ?_
  refine to_2 (pc := 105) rw_148_105 rfl ?_
  refine to_ias (pc := 106) rw_148_106 (k := 5) fO_78_100 (op_j fN_78_0 (by decide +kernel)) (by decide +kernel) ?_
  refine to_inc (pc := 107) rw_148_107 (ls2 := [.ref 77, .int _, .int _, .int _, .int _, .int _, .int (6 : Int32), .int _]) rfl rfl rfl ?_
  refine to_go (pc := 110) rw_148_110 ?_
  exact h _ _ (fd_s P rfl rfl)
set_option maxRecDepth 4000 in
theorem fd_r_6 {X : mm_X} {d : Nat} {Q : Option Value → mm_M → Prop} {M : mm_M} {x1 x2 x3 x4 x5 k : Int32} {w : Value} (P : fd_P M k (0 : Int32)) (h : ∀ M1 w1, fd_P M1 k (0 : Int32) → mm_T X d 148 23 [.ref 77, .int x1, .int x2, .int x3, .int x4, .int x5, .int (7 : Int32), w1] [] M1 Q) : mm_T X d 148 23 [.ref 77, .int x1, .int x2, .int x3, .int x4, .int x5, .int (6 : Int32), w] [] M Q := by
  have fC := P.1.1
  have fK_2_0 := P.1.2.1
  have fN_2_0 := P.1.2.2.1
  have fN_78_0 := P.1.2.2.2.1
  have fO_0_10 := P.1.2.2.2.2.1
  have fO_1_8 := P.1.2.2.2.2.2.1
  have fO_2_103 := P.1.2.2.2.2.2.2.1
  have fO_77_11 := P.1.2.2.2.2.2.2.2.1
  have fO_78_100 := P.1.2.2.2.2.2.2.2.2.1
  have fR_0_0 := P.1.2.2.2.2.2.2.2.2.2.1
  have fR_1_0 := P.1.2.2.2.2.2.2.2.2.2.2.1
  have fR_77_0 := P.1.2.2.2.2.2.2.2.2.2.2.2.1
  have fX_2_102 := P.1.2.2.2.2.2.2.2.2.2.2.2.2
  have k0 := P.2.1
  have c0 := P.2.2
  refine to_i (pc := 23) rw_148_23 rfl ?_
  refine to_c (pc := 25) rw_148_25 (x := (20 : Int32)) rfl rfl ?_
  refine to_icf (pc := 27) rw_148_27 (by decide +kernel) ?_
  refine to_i (pc := 30) rw_148_30 rfl ?_
  refine to_c (pc := 32) rw_148_32 (x := (4 : Int32)) rfl rfl ?_
  refine to_ict (pc := 33) rw_148_33 (by decide +kernel) ?_
  refine to_i (pc := 40) rw_148_40 rfl ?_
  refine to_c (pc := 42) rw_148_42 (x := (8 : Int32)) rfl rfl ?_
  refine to_icf (pc := 44) rw_148_44 (by decide +kernel) ?_
  refine to_in (pc := 47) rw_148_47 rfl ?_
  refine to_go (pc := 48) rw_148_48 ?_
  refine to_is (pc := 76) rw_148_76 (ls2 := [.ref 77, .int _, .int _, .int _, .int _, .int _, .int (6 : Int32), .int _]) rfl rfl ?_
  refine to_an (pc := 78) rw_148_78 rfl ?_
  refine tt_gR (pc := 79) rw_148_79 fO_77_11 fR_77_0 ?_
  refine to_an (pc := 82) rw_148_82 rfl ?_
  refine tt_gI (pc := 83) rw_148_83 fO_77_11 c0 ?_
  refine to_i (pc := 86) rw_148_86 rfl ?_
  refine to_2 (pc := 88) rw_148_88 (v := (6 : Int32)) (by decide +kernel) ?_
  refine to_i (pc := 89) rw_148_89 rfl ?_
  refine to_c (pc := 91) rw_148_91 (x := (24 : Int32)) rfl rfl ?_
  refine to_c (pc := 93) rw_148_93 (x := (8 : Int32)) rfl rfl ?_
  refine to_i (pc := 95) rw_148_95 rfl ?_
  refine to_c (pc := 97) rw_148_97 (x := (4 : Int32)) rfl rfl ?_
  refine to_2 (pc := 98) rw_148_98 (v := (2 : Int32)) (by decide +kernel) ?_
  refine to_2 (pc := 99) rw_148_99 (v := (16 : Int32)) (by decide +kernel) ?_
  refine to_2 (pc := 100) rw_148_100 (v := (8 : Int32)) (by decide +kernel) ?_
  refine to_2 (pc := 101) rw_148_101 rfl ?_
  refine to_c (pc := 102) rw_148_102 (x := (255 : Int32)) rfl rfl ?_
  refine to_2 (pc := 105) rw_148_105 rfl ?_
  refine to_ias (pc := 106) rw_148_106 (k := 6) fO_78_100 (op_j fN_78_0 (by decide +kernel)) (by decide +kernel) ?_
  refine to_inc (pc := 107) rw_148_107 (ls2 := [.ref 77, .int _, .int _, .int _, .int _, .int _, .int (7 : Int32), .int _]) rfl rfl rfl ?_
  refine to_go (pc := 110) rw_148_110 ?_
  exact h _ _ (fd_s P rfl rfl)
set_option maxRecDepth 4000 in
theorem fd_r_7 {X : mm_X} {d : Nat} {Q : Option Value → mm_M → Prop} {M : mm_M} {x1 x2 x3 x4 x5 k : Int32} {w : Value} (P : fd_P M k (0 : Int32)) (h : ∀ M1 w1, fd_P M1 k (0 : Int32) → mm_T X d 148 23 [.ref 77, .int x1, .int x2, .int x3, .int x4, .int x5, .int (8 : Int32), w1] [] M1 Q) : mm_T X d 148 23 [.ref 77, .int x1, .int x2, .int x3, .int x4, .int x5, .int (7 : Int32), w] [] M Q := by
  have fC := P.1.1
  have fK_2_0 := P.1.2.1
  have fN_2_0 := P.1.2.2.1
  have fN_78_0 := P.1.2.2.2.1
  have fO_0_10 := P.1.2.2.2.2.1
  have fO_1_8 := P.1.2.2.2.2.2.1
  have fO_2_103 := P.1.2.2.2.2.2.2.1
  have fO_77_11 := P.1.2.2.2.2.2.2.2.1
  have fO_78_100 := P.1.2.2.2.2.2.2.2.2.1
  have fR_0_0 := P.1.2.2.2.2.2.2.2.2.2.1
  have fR_1_0 := P.1.2.2.2.2.2.2.2.2.2.2.1
  have fR_77_0 := P.1.2.2.2.2.2.2.2.2.2.2.2.1
  have fX_2_102 := P.1.2.2.2.2.2.2.2.2.2.2.2.2
  have k0 := P.2.1
  have c0 := P.2.2
  refine to_i (pc := 23) rw_148_23 rfl ?_
  refine to_c (pc := 25) rw_148_25 (x := (20 : Int32)) rfl rfl ?_
  refine to_icf (pc := 27) rw_148_27 (by decide +kernel) ?_
  refine to_i (pc := 30) rw_148_30 rfl ?_
  refine to_c (pc := 32) rw_148_32 (x := (4 : Int32)) rfl rfl ?_
  refine to_ict (pc := 33) rw_148_33 (by decide +kernel) ?_
  refine to_i (pc := 40) rw_148_40 rfl ?_
  refine to_c (pc := 42) rw_148_42 (x := (8 : Int32)) rfl rfl ?_
  refine to_icf (pc := 44) rw_148_44 (by decide +kernel) ?_
  refine to_in (pc := 47) rw_148_47 rfl ?_
  refine to_go (pc := 48) rw_148_48 ?_
  refine to_is (pc := 76) rw_148_76 (ls2 := [.ref 77, .int _, .int _, .int _, .int _, .int _, .int (7 : Int32), .int _]) rfl rfl ?_
  refine to_an (pc := 78) rw_148_78 rfl ?_
  refine tt_gR (pc := 79) rw_148_79 fO_77_11 fR_77_0 ?_
  refine to_an (pc := 82) rw_148_82 rfl ?_
  refine tt_gI (pc := 83) rw_148_83 fO_77_11 c0 ?_
  refine to_i (pc := 86) rw_148_86 rfl ?_
  refine to_2 (pc := 88) rw_148_88 (v := (7 : Int32)) (by decide +kernel) ?_
  refine to_i (pc := 89) rw_148_89 rfl ?_
  refine to_c (pc := 91) rw_148_91 (x := (24 : Int32)) rfl rfl ?_
  refine to_c (pc := 93) rw_148_93 (x := (8 : Int32)) rfl rfl ?_
  refine to_i (pc := 95) rw_148_95 rfl ?_
  refine to_c (pc := 97) rw_148_97 (x := (4 : Int32)) rfl rfl ?_
  refine to_2 (pc := 98) rw_148_98 (v := (3 : Int32)) (by decide +kernel) ?_
  refine to_2 (pc := 99) rw_148_99 (v := (24 : Int32)) (by decide +kernel) ?_
  refine to_2 (pc := 100) rw_148_100 (v := (0 : Int32)) (by decide +kernel) ?_
  refine to_2 (pc := 101) rw_148_101 rfl ?_
  refine to_c (pc := 102) rw_148_102 (x := (255 : Int32)) rfl rfl ?_
  refine to_2 (pc := 105) rw_148_105 rfl ?_
  refine to_ias (pc := 106) rw_148_106 (k := 7) fO_78_100 (op_j fN_78_0 (by decide +kernel)) (by decide +kernel) ?_
  refine to_inc (pc := 107) rw_148_107 (ls2 := [.ref 77, .int _, .int _, .int _, .int _, .int _, .int (8 : Int32), .int _]) rfl rfl rfl ?_
  refine to_go (pc := 110) rw_148_110 ?_
  exact h _ _ (fd_s P rfl rfl)
set_option maxRecDepth 4000 in
theorem fd_r_8 {X : mm_X} {d : Nat} {Q : Option Value → mm_M → Prop} {M : mm_M} {x1 x2 x3 x4 x5 k : Int32} {w : Value} (P : fd_P M k (0 : Int32)) (h : ∀ M1 w1, fd_P M1 k (0 : Int32) → mm_T X d 148 23 [.ref 77, .int x1, .int x2, .int x3, .int x4, .int x5, .int (9 : Int32), w1] [] M1 Q) : mm_T X d 148 23 [.ref 77, .int x1, .int x2, .int x3, .int x4, .int x5, .int (8 : Int32), w] [] M Q := by
  have fC := P.1.1
  have fK_2_0 := P.1.2.1
  have fN_2_0 := P.1.2.2.1
  have fN_78_0 := P.1.2.2.2.1
  have fO_0_10 := P.1.2.2.2.2.1
  have fO_1_8 := P.1.2.2.2.2.2.1
  have fO_2_103 := P.1.2.2.2.2.2.2.1
  have fO_77_11 := P.1.2.2.2.2.2.2.2.1
  have fO_78_100 := P.1.2.2.2.2.2.2.2.2.1
  have fR_0_0 := P.1.2.2.2.2.2.2.2.2.2.1
  have fR_1_0 := P.1.2.2.2.2.2.2.2.2.2.2.1
  have fR_77_0 := P.1.2.2.2.2.2.2.2.2.2.2.2.1
  have fX_2_102 := P.1.2.2.2.2.2.2.2.2.2.2.2.2
  have k0 := P.2.1
  have c0 := P.2.2
  refine to_i (pc := 23) rw_148_23 rfl ?_
  refine to_c (pc := 25) rw_148_25 (x := (20 : Int32)) rfl rfl ?_
  refine to_icf (pc := 27) rw_148_27 (by decide +kernel) ?_
  refine to_i (pc := 30) rw_148_30 rfl ?_
  refine to_c (pc := 32) rw_148_32 (x := (4 : Int32)) rfl rfl ?_
  refine to_ict (pc := 33) rw_148_33 (by decide +kernel) ?_
  refine to_i (pc := 40) rw_148_40 rfl ?_
  refine to_c (pc := 42) rw_148_42 (x := (8 : Int32)) rfl rfl ?_
  refine to_ict (pc := 44) rw_148_44 (by decide +kernel) ?_
  refine to_i (pc := 51) rw_148_51 rfl ?_
  refine to_c (pc := 53) rw_148_53 (x := (12 : Int32)) rfl rfl ?_
  refine to_icf (pc := 55) rw_148_55 (by decide +kernel) ?_
  refine to_in (pc := 58) rw_148_58 rfl ?_
  refine to_go (pc := 59) rw_148_59 ?_
  refine to_is (pc := 76) rw_148_76 (ls2 := [.ref 77, .int _, .int _, .int _, .int _, .int _, .int (8 : Int32), .int _]) rfl rfl ?_
  refine to_an (pc := 78) rw_148_78 rfl ?_
  refine tt_gR (pc := 79) rw_148_79 fO_77_11 fR_77_0 ?_
  refine to_an (pc := 82) rw_148_82 rfl ?_
  refine tt_gI (pc := 83) rw_148_83 fO_77_11 c0 ?_
  refine to_i (pc := 86) rw_148_86 rfl ?_
  refine to_2 (pc := 88) rw_148_88 (v := (8 : Int32)) (by decide +kernel) ?_
  refine to_i (pc := 89) rw_148_89 rfl ?_
  refine to_c (pc := 91) rw_148_91 (x := (24 : Int32)) rfl rfl ?_
  refine to_c (pc := 93) rw_148_93 (x := (8 : Int32)) rfl rfl ?_
  refine to_i (pc := 95) rw_148_95 rfl ?_
  refine to_c (pc := 97) rw_148_97 (x := (4 : Int32)) rfl rfl ?_
  refine to_2 (pc := 98) rw_148_98 (v := (0 : Int32)) (by decide +kernel) ?_
  refine to_2 (pc := 99) rw_148_99 (v := (0 : Int32)) (by decide +kernel) ?_
  refine to_2 (pc := 100) rw_148_100 (v := (24 : Int32)) (by decide +kernel) ?_
  refine to_2 (pc := 101) rw_148_101 rfl ?_
  refine to_c (pc := 102) rw_148_102 (x := (255 : Int32)) rfl rfl ?_
  refine to_2 (pc := 105) rw_148_105 rfl ?_
  refine to_ias (pc := 106) rw_148_106 (k := 8) fO_78_100 (op_j fN_78_0 (by decide +kernel)) (by decide +kernel) ?_
  refine to_inc (pc := 107) rw_148_107 (ls2 := [.ref 77, .int _, .int _, .int _, .int _, .int _, .int (9 : Int32), .int _]) rfl rfl rfl ?_
  refine to_go (pc := 110) rw_148_110 ?_
  exact h _ _ (fd_s P rfl rfl)
set_option maxRecDepth 4000 in
theorem fd_r_9 {X : mm_X} {d : Nat} {Q : Option Value → mm_M → Prop} {M : mm_M} {x1 x2 x3 x4 x5 k : Int32} {w : Value} (P : fd_P M k (0 : Int32)) (h : ∀ M1 w1, fd_P M1 k (0 : Int32) → mm_T X d 148 23 [.ref 77, .int x1, .int x2, .int x3, .int x4, .int x5, .int (10 : Int32), w1] [] M1 Q) : mm_T X d 148 23 [.ref 77, .int x1, .int x2, .int x3, .int x4, .int x5, .int (9 : Int32), w] [] M Q := by
  have fC := P.1.1
  have fK_2_0 := P.1.2.1
  have fN_2_0 := P.1.2.2.1
  have fN_78_0 := P.1.2.2.2.1
  have fO_0_10 := P.1.2.2.2.2.1
  have fO_1_8 := P.1.2.2.2.2.2.1
  have fO_2_103 := P.1.2.2.2.2.2.2.1
  have fO_77_11 := P.1.2.2.2.2.2.2.2.1
  have fO_78_100 := P.1.2.2.2.2.2.2.2.2.1
  have fR_0_0 := P.1.2.2.2.2.2.2.2.2.2.1
  have fR_1_0 := P.1.2.2.2.2.2.2.2.2.2.2.1
  have fR_77_0 := P.1.2.2.2.2.2.2.2.2.2.2.2.1
  have fX_2_102 := P.1.2.2.2.2.2.2.2.2.2.2.2.2
  have k0 := P.2.1
  have c0 := P.2.2
  refine to_i (pc := 23) rw_148_23 rfl ?_
  refine to_c (pc := 25) rw_148_25 (x := (20 : Int32)) rfl rfl ?_
  refine to_icf (pc := 27) rw_148_27 (by decide +kernel) ?_
  refine to_i (pc := 30) rw_148_30 rfl ?_
  refine to_c (pc := 32) rw_148_32 (x := (4 : Int32)) rfl rfl ?_
  refine to_ict (pc := 33) rw_148_33 (by decide +kernel) ?_
  refine to_i (pc := 40) rw_148_40 rfl ?_
  refine to_c (pc := 42) rw_148_42 (x := (8 : Int32)) rfl rfl ?_
  refine to_ict (pc := 44) rw_148_44 (by decide +kernel) ?_
  refine to_i (pc := 51) rw_148_51 rfl ?_
  refine to_c (pc := 53) rw_148_53 (x := (12 : Int32)) rfl rfl ?_
  refine to_icf (pc := 55) rw_148_55 (by decide +kernel) ?_
  refine to_in (pc := 58) rw_148_58 rfl ?_
  refine to_go (pc := 59) rw_148_59 ?_
  refine to_is (pc := 76) rw_148_76 (ls2 := [.ref 77, .int _, .int _, .int _, .int _, .int _, .int (9 : Int32), .int _]) rfl rfl ?_
  refine to_an (pc := 78) rw_148_78 rfl ?_
  refine tt_gR (pc := 79) rw_148_79 fO_77_11 fR_77_0 ?_
  refine to_an (pc := 82) rw_148_82 rfl ?_
  refine tt_gI (pc := 83) rw_148_83 fO_77_11 c0 ?_
  refine to_i (pc := 86) rw_148_86 rfl ?_
  refine to_2 (pc := 88) rw_148_88 (v := (9 : Int32)) (by decide +kernel) ?_
  refine to_i (pc := 89) rw_148_89 rfl ?_
  refine to_c (pc := 91) rw_148_91 (x := (24 : Int32)) rfl rfl ?_
  refine to_c (pc := 93) rw_148_93 (x := (8 : Int32)) rfl rfl ?_
  refine to_i (pc := 95) rw_148_95 rfl ?_
  refine to_c (pc := 97) rw_148_97 (x := (4 : Int32)) rfl rfl ?_
  refine to_2 (pc := 98) rw_148_98 (v := (1 : Int32)) (by decide +kernel) ?_
  refine to_2 (pc := 99) rw_148_99 (v := (8 : Int32)) (by decide +kernel) ?_
  refine to_2 (pc := 100) rw_148_100 (v := (16 : Int32)) (by decide +kernel) ?_
  refine to_2 (pc := 101) rw_148_101 rfl ?_
  refine to_c (pc := 102) rw_148_102 (x := (255 : Int32)) rfl rfl ?_
  refine to_2 (pc := 105) rw_148_105 rfl ?_
  refine to_ias (pc := 106) rw_148_106 (k := 9) fO_78_100 (op_j fN_78_0 (by decide +kernel)) (by decide +kernel) ?_
  refine to_inc (pc := 107) rw_148_107 (ls2 := [.ref 77, .int _, .int _, .int _, .int _, .int _, .int (10 : Int32), .int _]) rfl rfl rfl ?_
  refine to_go (pc := 110) rw_148_110 ?_
  exact h _ _ (fd_s P rfl rfl)
set_option maxRecDepth 4000 in
theorem fd_r_10 {X : mm_X} {d : Nat} {Q : Option Value → mm_M → Prop} {M : mm_M} {x1 x2 x3 x4 x5 k : Int32} {w : Value} (P : fd_P M k (0 : Int32)) (h : ∀ M1 w1, fd_P M1 k (0 : Int32) → mm_T X d 148 23 [.ref 77, .int x1, .int x2, .int x3, .int x4, .int x5, .int (11 : Int32), w1] [] M1 Q) : mm_T X d 148 23 [.ref 77, .int x1, .int x2, .int x3, .int x4, .int x5, .int (10 : Int32), w] [] M Q := by
  have fC := P.1.1
  have fK_2_0 := P.1.2.1
  have fN_2_0 := P.1.2.2.1
  have fN_78_0 := P.1.2.2.2.1
  have fO_0_10 := P.1.2.2.2.2.1
  have fO_1_8 := P.1.2.2.2.2.2.1
  have fO_2_103 := P.1.2.2.2.2.2.2.1
  have fO_77_11 := P.1.2.2.2.2.2.2.2.1
  have fO_78_100 := P.1.2.2.2.2.2.2.2.2.1
  have fR_0_0 := P.1.2.2.2.2.2.2.2.2.2.1
  have fR_1_0 := P.1.2.2.2.2.2.2.2.2.2.2.1
  have fR_77_0 := P.1.2.2.2.2.2.2.2.2.2.2.2.1
  have fX_2_102 := P.1.2.2.2.2.2.2.2.2.2.2.2.2
  have k0 := P.2.1
  have c0 := P.2.2
  refine to_i (pc := 23) rw_148_23 rfl ?_
  refine to_c (pc := 25) rw_148_25 (x := (20 : Int32)) rfl rfl ?_
  refine to_icf (pc := 27) rw_148_27 (by decide +kernel) ?_
  refine to_i (pc := 30) rw_148_30 rfl ?_
  refine to_c (pc := 32) rw_148_32 (x := (4 : Int32)) rfl rfl ?_
  refine to_ict (pc := 33) rw_148_33 (by decide +kernel) ?_
  refine to_i (pc := 40) rw_148_40 rfl ?_
  refine to_c (pc := 42) rw_148_42 (x := (8 : Int32)) rfl rfl ?_
  refine to_ict (pc := 44) rw_148_44 (by decide +kernel) ?_
  refine to_i (pc := 51) rw_148_51 rfl ?_
  refine to_c (pc := 53) rw_148_53 (x := (12 : Int32)) rfl rfl ?_
  refine to_icf (pc := 55) rw_148_55 (by decide +kernel) ?_
  refine to_in (pc := 58) rw_148_58 rfl ?_
  refine to_go (pc := 59) rw_148_59 ?_
  refine to_is (pc := 76) rw_148_76 (ls2 := [.ref 77, .int _, .int _, .int _, .int _, .int _, .int (10 : Int32), .int _]) rfl rfl ?_
  refine to_an (pc := 78) rw_148_78 rfl ?_
  refine tt_gR (pc := 79) rw_148_79 fO_77_11 fR_77_0 ?_
  refine to_an (pc := 82) rw_148_82 rfl ?_
  refine tt_gI (pc := 83) rw_148_83 fO_77_11 c0 ?_
  refine to_i (pc := 86) rw_148_86 rfl ?_
  refine to_2 (pc := 88) rw_148_88 (v := (10 : Int32)) (by decide +kernel) ?_
  refine to_i (pc := 89) rw_148_89 rfl ?_
  refine to_c (pc := 91) rw_148_91 (x := (24 : Int32)) rfl rfl ?_
  refine to_c (pc := 93) rw_148_93 (x := (8 : Int32)) rfl rfl ?_
  refine to_i (pc := 95) rw_148_95 rfl ?_
  refine to_c (pc := 97) rw_148_97 (x := (4 : Int32)) rfl rfl ?_
  refine to_2 (pc := 98) rw_148_98 (v := (2 : Int32)) (by decide +kernel) ?_
  refine to_2 (pc := 99) rw_148_99 (v := (16 : Int32)) (by decide +kernel) ?_
  refine to_2 (pc := 100) rw_148_100 (v := (8 : Int32)) (by decide +kernel) ?_
  refine to_2 (pc := 101) rw_148_101 rfl ?_
  refine to_c (pc := 102) rw_148_102 (x := (255 : Int32)) rfl rfl ?_
  refine to_2 (pc := 105) rw_148_105 rfl ?_
  refine to_ias (pc := 106) rw_148_106 (k := 10) fO_78_100 (op_j fN_78_0 (by decide +kernel)) (by decide +kernel) ?_
  refine to_inc (pc := 107) rw_148_107 (ls2 := [.ref 77, .int _, .int _, .int _, .int _, .int _, .int (11 : Int32), .int _]) rfl rfl rfl ?_
  refine to_go (pc := 110) rw_148_110 ?_
  exact h _ _ (fd_s P rfl rfl)
set_option maxRecDepth 4000 in
theorem fd_r_11 {X : mm_X} {d : Nat} {Q : Option Value → mm_M → Prop} {M : mm_M} {x1 x2 x3 x4 x5 k : Int32} {w : Value} (P : fd_P M k (0 : Int32)) (h : ∀ M1 w1, fd_P M1 k (0 : Int32) → mm_T X d 148 23 [.ref 77, .int x1, .int x2, .int x3, .int x4, .int x5, .int (12 : Int32), w1] [] M1 Q) : mm_T X d 148 23 [.ref 77, .int x1, .int x2, .int x3, .int x4, .int x5, .int (11 : Int32), w] [] M Q := by
  have fC := P.1.1
  have fK_2_0 := P.1.2.1
  have fN_2_0 := P.1.2.2.1
  have fN_78_0 := P.1.2.2.2.1
  have fO_0_10 := P.1.2.2.2.2.1
  have fO_1_8 := P.1.2.2.2.2.2.1
  have fO_2_103 := P.1.2.2.2.2.2.2.1
  have fO_77_11 := P.1.2.2.2.2.2.2.2.1
  have fO_78_100 := P.1.2.2.2.2.2.2.2.2.1
  have fR_0_0 := P.1.2.2.2.2.2.2.2.2.2.1
  have fR_1_0 := P.1.2.2.2.2.2.2.2.2.2.2.1
  have fR_77_0 := P.1.2.2.2.2.2.2.2.2.2.2.2.1
  have fX_2_102 := P.1.2.2.2.2.2.2.2.2.2.2.2.2
  have k0 := P.2.1
  have c0 := P.2.2
  refine to_i (pc := 23) rw_148_23 rfl ?_
  refine to_c (pc := 25) rw_148_25 (x := (20 : Int32)) rfl rfl ?_
  refine to_icf (pc := 27) rw_148_27 (by decide +kernel) ?_
  refine to_i (pc := 30) rw_148_30 rfl ?_
  refine to_c (pc := 32) rw_148_32 (x := (4 : Int32)) rfl rfl ?_
  refine to_ict (pc := 33) rw_148_33 (by decide +kernel) ?_
  refine to_i (pc := 40) rw_148_40 rfl ?_
  refine to_c (pc := 42) rw_148_42 (x := (8 : Int32)) rfl rfl ?_
  refine to_ict (pc := 44) rw_148_44 (by decide +kernel) ?_
  refine to_i (pc := 51) rw_148_51 rfl ?_
  refine to_c (pc := 53) rw_148_53 (x := (12 : Int32)) rfl rfl ?_
  refine to_icf (pc := 55) rw_148_55 (by decide +kernel) ?_
  refine to_in (pc := 58) rw_148_58 rfl ?_
  refine to_go (pc := 59) rw_148_59 ?_
  refine to_is (pc := 76) rw_148_76 (ls2 := [.ref 77, .int _, .int _, .int _, .int _, .int _, .int (11 : Int32), .int _]) rfl rfl ?_
  refine to_an (pc := 78) rw_148_78 rfl ?_
  refine tt_gR (pc := 79) rw_148_79 fO_77_11 fR_77_0 ?_
  refine to_an (pc := 82) rw_148_82 rfl ?_
  refine tt_gI (pc := 83) rw_148_83 fO_77_11 c0 ?_
  refine to_i (pc := 86) rw_148_86 rfl ?_
  refine to_2 (pc := 88) rw_148_88 (v := (11 : Int32)) (by decide +kernel) ?_
  refine to_i (pc := 89) rw_148_89 rfl ?_
  refine to_c (pc := 91) rw_148_91 (x := (24 : Int32)) rfl rfl ?_
  refine to_c (pc := 93) rw_148_93 (x := (8 : Int32)) rfl rfl ?_
  refine to_i (pc := 95) rw_148_95 rfl ?_
  refine to_c (pc := 97) rw_148_97 (x := (4 : Int32)) rfl rfl ?_
  refine to_2 (pc := 98) rw_148_98 (v := (3 : Int32)) (by decide +kernel) ?_
  refine to_2 (pc := 99) rw_148_99 (v := (24 : Int32)) (by decide +kernel) ?_
  refine to_2 (pc := 100) rw_148_100 (v := (0 : Int32)) (by decide +kernel) ?_
  refine to_2 (pc := 101) rw_148_101 rfl ?_
  refine to_c (pc := 102) rw_148_102 (x := (255 : Int32)) rfl rfl ?_
  refine to_2 (pc := 105) rw_148_105 rfl ?_
  refine to_ias (pc := 106) rw_148_106 (k := 11) fO_78_100 (op_j fN_78_0 (by decide +kernel)) (by decide +kernel) ?_
  refine to_inc (pc := 107) rw_148_107 (ls2 := [.ref 77, .int _, .int _, .int _, .int _, .int _, .int (12 : Int32), .int _]) rfl rfl rfl ?_
  refine to_go (pc := 110) rw_148_110 ?_
  exact h _ _ (fd_s P rfl rfl)
set_option maxRecDepth 4000 in
theorem fd_r_12 {X : mm_X} {d : Nat} {Q : Option Value → mm_M → Prop} {M : mm_M} {x1 x2 x3 x4 x5 k : Int32} {w : Value} (P : fd_P M k (0 : Int32)) (h : ∀ M1 w1, fd_P M1 k (0 : Int32) → mm_T X d 148 23 [.ref 77, .int x1, .int x2, .int x3, .int x4, .int x5, .int (13 : Int32), w1] [] M1 Q) : mm_T X d 148 23 [.ref 77, .int x1, .int x2, .int x3, .int x4, .int x5, .int (12 : Int32), w] [] M Q := by
  have fC := P.1.1
  have fK_2_0 := P.1.2.1
  have fN_2_0 := P.1.2.2.1
  have fN_78_0 := P.1.2.2.2.1
  have fO_0_10 := P.1.2.2.2.2.1
  have fO_1_8 := P.1.2.2.2.2.2.1
  have fO_2_103 := P.1.2.2.2.2.2.2.1
  have fO_77_11 := P.1.2.2.2.2.2.2.2.1
  have fO_78_100 := P.1.2.2.2.2.2.2.2.2.1
  have fR_0_0 := P.1.2.2.2.2.2.2.2.2.2.1
  have fR_1_0 := P.1.2.2.2.2.2.2.2.2.2.2.1
  have fR_77_0 := P.1.2.2.2.2.2.2.2.2.2.2.2.1
  have fX_2_102 := P.1.2.2.2.2.2.2.2.2.2.2.2.2
  have k0 := P.2.1
  have c0 := P.2.2
  refine to_i (pc := 23) rw_148_23 rfl ?_
  refine to_c (pc := 25) rw_148_25 (x := (20 : Int32)) rfl rfl ?_
  refine to_icf (pc := 27) rw_148_27 (by decide +kernel) ?_
  refine to_i (pc := 30) rw_148_30 rfl ?_
  refine to_c (pc := 32) rw_148_32 (x := (4 : Int32)) rfl rfl ?_
  refine to_ict (pc := 33) rw_148_33 (by decide +kernel) ?_
  refine to_i (pc := 40) rw_148_40 rfl ?_
  refine to_c (pc := 42) rw_148_42 (x := (8 : Int32)) rfl rfl ?_
  refine to_ict (pc := 44) rw_148_44 (by decide +kernel) ?_
  refine to_i (pc := 51) rw_148_51 rfl ?_
  refine to_c (pc := 53) rw_148_53 (x := (12 : Int32)) rfl rfl ?_
  refine to_ict (pc := 55) rw_148_55 (by decide +kernel) ?_
  refine to_i (pc := 62) rw_148_62 rfl ?_
  refine to_c (pc := 64) rw_148_64 (x := (16 : Int32)) rfl rfl ?_
  refine to_icf (pc := 66) rw_148_66 (by decide +kernel) ?_
  refine to_i (pc := 69) rw_148_69 rfl ?_
  refine to_go (pc := 71) rw_148_71 ?_
  refine to_is (pc := 76) rw_148_76 (ls2 := [.ref 77, .int _, .int _, .int _, .int _, .int _, .int (12 : Int32), .int _]) rfl rfl ?_
  refine to_an (pc := 78) rw_148_78 rfl ?_
  refine tt_gR (pc := 79) rw_148_79 fO_77_11 fR_77_0 ?_
  refine to_an (pc := 82) rw_148_82 rfl ?_
  refine tt_gI (pc := 83) rw_148_83 fO_77_11 c0 ?_
  refine to_i (pc := 86) rw_148_86 rfl ?_
  refine to_2 (pc := 88) rw_148_88 (v := (12 : Int32)) (by decide +kernel) ?_
  refine to_i (pc := 89) rw_148_89 rfl ?_
  refine to_c (pc := 91) rw_148_91 (x := (24 : Int32)) rfl rfl ?_
  refine to_c (pc := 93) rw_148_93 (x := (8 : Int32)) rfl rfl ?_
  refine to_i (pc := 95) rw_148_95 rfl ?_
  refine to_c (pc := 97) rw_148_97 (x := (4 : Int32)) rfl rfl ?_
  refine to_2 (pc := 98) rw_148_98 (v := (0 : Int32)) (by decide +kernel) ?_
  refine to_2 (pc := 99) rw_148_99 (v := (0 : Int32)) (by decide +kernel) ?_
  refine to_2 (pc := 100) rw_148_100 (v := (24 : Int32)) (by decide +kernel) ?_
  refine to_2 (pc := 101) rw_148_101 rfl ?_
  refine to_c (pc := 102) rw_148_102 (x := (255 : Int32)) rfl rfl ?_
  refine to_2 (pc := 105) rw_148_105 rfl ?_
  refine to_ias (pc := 106) rw_148_106 (k := 12) fO_78_100 (op_j fN_78_0 (by decide +kernel)) (by decide +kernel) ?_
  refine to_inc (pc := 107) rw_148_107 (ls2 := [.ref 77, .int _, .int _, .int _, .int _, .int _, .int (13 : Int32), .int _]) rfl rfl rfl ?_
  refine to_go (pc := 110) rw_148_110 ?_
  exact h _ _ (fd_s P rfl rfl)
set_option maxRecDepth 4000 in
theorem fd_r_13 {X : mm_X} {d : Nat} {Q : Option Value → mm_M → Prop} {M : mm_M} {x1 x2 x3 x4 x5 k : Int32} {w : Value} (P : fd_P M k (0 : Int32)) (h : ∀ M1 w1, fd_P M1 k (0 : Int32) → mm_T X d 148 23 [.ref 77, .int x1, .int x2, .int x3, .int x4, .int x5, .int (14 : Int32), w1] [] M1 Q) : mm_T X d 148 23 [.ref 77, .int x1, .int x2, .int x3, .int x4, .int x5, .int (13 : Int32), w] [] M Q := by
  have fC := P.1.1
  have fK_2_0 := P.1.2.1
  have fN_2_0 := P.1.2.2.1
  have fN_78_0 := P.1.2.2.2.1
  have fO_0_10 := P.1.2.2.2.2.1
  have fO_1_8 := P.1.2.2.2.2.2.1
  have fO_2_103 := P.1.2.2.2.2.2.2.1
  have fO_77_11 := P.1.2.2.2.2.2.2.2.1
  have fO_78_100 := P.1.2.2.2.2.2.2.2.2.1
  have fR_0_0 := P.1.2.2.2.2.2.2.2.2.2.1
  have fR_1_0 := P.1.2.2.2.2.2.2.2.2.2.2.1
  have fR_77_0 := P.1.2.2.2.2.2.2.2.2.2.2.2.1
  have fX_2_102 := P.1.2.2.2.2.2.2.2.2.2.2.2.2
  have k0 := P.2.1
  have c0 := P.2.2
  refine to_i (pc := 23) rw_148_23 rfl ?_
  refine to_c (pc := 25) rw_148_25 (x := (20 : Int32)) rfl rfl ?_
  refine to_icf (pc := 27) rw_148_27 (by decide +kernel) ?_
  refine to_i (pc := 30) rw_148_30 rfl ?_
  refine to_c (pc := 32) rw_148_32 (x := (4 : Int32)) rfl rfl ?_
  refine to_ict (pc := 33) rw_148_33 (by decide +kernel) ?_
  refine to_i (pc := 40) rw_148_40 rfl ?_
  refine to_c (pc := 42) rw_148_42 (x := (8 : Int32)) rfl rfl ?_
  refine to_ict (pc := 44) rw_148_44 (by decide +kernel) ?_
  refine to_i (pc := 51) rw_148_51 rfl ?_
  refine to_c (pc := 53) rw_148_53 (x := (12 : Int32)) rfl rfl ?_
  refine to_ict (pc := 55) rw_148_55 (by decide +kernel) ?_
  refine to_i (pc := 62) rw_148_62 rfl ?_
  refine to_c (pc := 64) rw_148_64 (x := (16 : Int32)) rfl rfl ?_
  refine to_icf (pc := 66) rw_148_66 (by decide +kernel) ?_
  refine to_i (pc := 69) rw_148_69 rfl ?_
  refine to_go (pc := 71) rw_148_71 ?_
  refine to_is (pc := 76) rw_148_76 (ls2 := [.ref 77, .int _, .int _, .int _, .int _, .int _, .int (13 : Int32), .int _]) rfl rfl ?_
  refine to_an (pc := 78) rw_148_78 rfl ?_
  refine tt_gR (pc := 79) rw_148_79 fO_77_11 fR_77_0 ?_
  refine to_an (pc := 82) rw_148_82 rfl ?_
  refine tt_gI (pc := 83) rw_148_83 fO_77_11 c0 ?_
  refine to_i (pc := 86) rw_148_86 rfl ?_
  refine to_2 (pc := 88) rw_148_88 (v := (13 : Int32)) (by decide +kernel) ?_
  refine to_i (pc := 89) rw_148_89 rfl ?_
  refine to_c (pc := 91) rw_148_91 (x := (24 : Int32)) rfl rfl ?_
  refine to_c (pc := 93) rw_148_93 (x := (8 : Int32)) rfl rfl ?_
  refine to_i (pc := 95) rw_148_95 rfl ?_
  refine to_c (pc := 97) rw_148_97 (x := (4 : Int32)) rfl rfl ?_
  refine to_2 (pc := 98) rw_148_98 (v := (1 : Int32)) (by decide +kernel) ?_
  refine to_2 (pc := 99) rw_148_99 (v := (8 : Int32)) (by decide +kernel) ?_
  refine to_2 (pc := 100) rw_148_100 (v := (16 : Int32)) (by decide +kernel) ?_
  refine to_2 (pc := 101) rw_148_101 rfl ?_
  refine to_c (pc := 102) rw_148_102 (x := (255 : Int32)) rfl rfl ?_
  refine to_2 (pc := 105) rw_148_105 rfl ?_
  refine to_ias (pc := 106) rw_148_106 (k := 13) fO_78_100 (op_j fN_78_0 (by decide +kernel)) (by decide +kernel) ?_
  refine to_inc (pc := 107) rw_148_107 (ls2 := [.ref 77, .int _, .int _, .int _, .int _, .int _, .int (14 : Int32), .int _]) rfl rfl rfl ?_
  refine to_go (pc := 110) rw_148_110 ?_
  exact h _ _ (fd_s P rfl rfl)
set_option maxRecDepth 4000 in
theorem fd_r_14 {X : mm_X} {d : Nat} {Q : Option Value → mm_M → Prop} {M : mm_M} {x1 x2 x3 x4 x5 k : Int32} {w : Value} (P : fd_P M k (0 : Int32)) (h : ∀ M1 w1, fd_P M1 k (0 : Int32) → mm_T X d 148 23 [.ref 77, .int x1, .int x2, .int x3, .int x4, .int x5, .int (15 : Int32), w1] [] M1 Q) : mm_T X d 148 23 [.ref 77, .int x1, .int x2, .int x3, .int x4, .int x5, .int (14 : Int32), w] [] M Q := by
  have fC := P.1.1
  have fK_2_0 := P.1.2.1
  have fN_2_0 := P.1.2.2.1
  have fN_78_0 := P.1.2.2.2.1
  have fO_0_10 := P.1.2.2.2.2.1
  have fO_1_8 := P.1.2.2.2.2.2.1
  have fO_2_103 := P.1.2.2.2.2.2.2.1
  have fO_77_11 := P.1.2.2.2.2.2.2.2.1
  have fO_78_100 := P.1.2.2.2.2.2.2.2.2.1
  have fR_0_0 := P.1.2.2.2.2.2.2.2.2.2.1
  have fR_1_0 := P.1.2.2.2.2.2.2.2.2.2.2.1
  have fR_77_0 := P.1.2.2.2.2.2.2.2.2.2.2.2.1
  have fX_2_102 := P.1.2.2.2.2.2.2.2.2.2.2.2.2
  have k0 := P.2.1
  have c0 := P.2.2
  refine to_i (pc := 23) rw_148_23 rfl ?_
  refine to_c (pc := 25) rw_148_25 (x := (20 : Int32)) rfl rfl ?_
  refine to_icf (pc := 27) rw_148_27 (by decide +kernel) ?_
  refine to_i (pc := 30) rw_148_30 rfl ?_
  refine to_c (pc := 32) rw_148_32 (x := (4 : Int32)) rfl rfl ?_
  refine to_ict (pc := 33) rw_148_33 (by decide +kernel) ?_
  refine to_i (pc := 40) rw_148_40 rfl ?_
  refine to_c (pc := 42) rw_148_42 (x := (8 : Int32)) rfl rfl ?_
  refine to_ict (pc := 44) rw_148_44 (by decide +kernel) ?_
  refine to_i (pc := 51) rw_148_51 rfl ?_
  refine to_c (pc := 53) rw_148_53 (x := (12 : Int32)) rfl rfl ?_
  refine to_ict (pc := 55) rw_148_55 (by decide +kernel) ?_
  refine to_i (pc := 62) rw_148_62 rfl ?_
  refine to_c (pc := 64) rw_148_64 (x := (16 : Int32)) rfl rfl ?_
  refine to_icf (pc := 66) rw_148_66 (by decide +kernel) ?_
  refine to_i (pc := 69) rw_148_69 rfl ?_
  refine to_go (pc := 71) rw_148_71 ?_
  refine to_is (pc := 76) rw_148_76 (ls2 := [.ref 77, .int _, .int _, .int _, .int _, .int _, .int (14 : Int32), .int _]) rfl rfl ?_
  refine to_an (pc := 78) rw_148_78 rfl ?_
  refine tt_gR (pc := 79) rw_148_79 fO_77_11 fR_77_0 ?_
  refine to_an (pc := 82) rw_148_82 rfl ?_
  refine tt_gI (pc := 83) rw_148_83 fO_77_11 c0 ?_
  refine to_i (pc := 86) rw_148_86 rfl ?_
  refine to_2 (pc := 88) rw_148_88 (v := (14 : Int32)) (by decide +kernel) ?_
  refine to_i (pc := 89) rw_148_89 rfl ?_
  refine to_c (pc := 91) rw_148_91 (x := (24 : Int32)) rfl rfl ?_
  refine to_c (pc := 93) rw_148_93 (x := (8 : Int32)) rfl rfl ?_
  refine to_i (pc := 95) rw_148_95 rfl ?_
  refine to_c (pc := 97) rw_148_97 (x := (4 : Int32)) rfl rfl ?_
  refine to_2 (pc := 98) rw_148_98 (v := (2 : Int32)) (by decide +kernel) ?_
  refine to_2 (pc := 99) rw_148_99 (v := (16 : Int32)) (by decide +kernel) ?_
  refine to_2 (pc := 100) rw_148_100 (v := (8 : Int32)) (by decide +kernel) ?_
  refine to_2 (pc := 101) rw_148_101 rfl ?_
  refine to_c (pc := 102) rw_148_102 (x := (255 : Int32)) rfl rfl ?_
  refine to_2 (pc := 105) rw_148_105 rfl ?_
  refine to_ias (pc := 106) rw_148_106 (k := 14) fO_78_100 (op_j fN_78_0 (by decide +kernel)) (by decide +kernel) ?_
  refine to_inc (pc := 107) rw_148_107 (ls2 := [.ref 77, .int _, .int _, .int _, .int _, .int _, .int (15 : Int32), .int _]) rfl rfl rfl ?_
  refine to_go (pc := 110) rw_148_110 ?_
  exact h _ _ (fd_s P rfl rfl)
set_option maxRecDepth 4000 in
theorem fd_r_15 {X : mm_X} {d : Nat} {Q : Option Value → mm_M → Prop} {M : mm_M} {x1 x2 x3 x4 x5 k : Int32} {w : Value} (P : fd_P M k (0 : Int32)) (h : ∀ M1 w1, fd_P M1 k (0 : Int32) → mm_T X d 148 23 [.ref 77, .int x1, .int x2, .int x3, .int x4, .int x5, .int (16 : Int32), w1] [] M1 Q) : mm_T X d 148 23 [.ref 77, .int x1, .int x2, .int x3, .int x4, .int x5, .int (15 : Int32), w] [] M Q := by
  have fC := P.1.1
  have fK_2_0 := P.1.2.1
  have fN_2_0 := P.1.2.2.1
  have fN_78_0 := P.1.2.2.2.1
  have fO_0_10 := P.1.2.2.2.2.1
  have fO_1_8 := P.1.2.2.2.2.2.1
  have fO_2_103 := P.1.2.2.2.2.2.2.1
  have fO_77_11 := P.1.2.2.2.2.2.2.2.1
  have fO_78_100 := P.1.2.2.2.2.2.2.2.2.1
  have fR_0_0 := P.1.2.2.2.2.2.2.2.2.2.1
  have fR_1_0 := P.1.2.2.2.2.2.2.2.2.2.2.1
  have fR_77_0 := P.1.2.2.2.2.2.2.2.2.2.2.2.1
  have fX_2_102 := P.1.2.2.2.2.2.2.2.2.2.2.2.2
  have k0 := P.2.1
  have c0 := P.2.2
  refine to_i (pc := 23) rw_148_23 rfl ?_
  refine to_c (pc := 25) rw_148_25 (x := (20 : Int32)) rfl rfl ?_
  refine to_icf (pc := 27) rw_148_27 (by decide +kernel) ?_
  refine to_i (pc := 30) rw_148_30 rfl ?_
  refine to_c (pc := 32) rw_148_32 (x := (4 : Int32)) rfl rfl ?_
  refine to_ict (pc := 33) rw_148_33 (by decide +kernel) ?_
  refine to_i (pc := 40) rw_148_40 rfl ?_
  refine to_c (pc := 42) rw_148_42 (x := (8 : Int32)) rfl rfl ?_
  refine to_ict (pc := 44) rw_148_44 (by decide +kernel) ?_
  refine to_i (pc := 51) rw_148_51 rfl ?_
  refine to_c (pc := 53) rw_148_53 (x := (12 : Int32)) rfl rfl ?_
  refine to_ict (pc := 55) rw_148_55 (by decide +kernel) ?_
  refine to_i (pc := 62) rw_148_62 rfl ?_
  refine to_c (pc := 64) rw_148_64 (x := (16 : Int32)) rfl rfl ?_
  refine to_icf (pc := 66) rw_148_66 (by decide +kernel) ?_
  refine to_i (pc := 69) rw_148_69 rfl ?_
  refine to_go (pc := 71) rw_148_71 ?_
  refine to_is (pc := 76) rw_148_76 (ls2 := [.ref 77, .int _, .int _, .int _, .int _, .int _, .int (15 : Int32), .int _]) rfl rfl ?_
  refine to_an (pc := 78) rw_148_78 rfl ?_
  refine tt_gR (pc := 79) rw_148_79 fO_77_11 fR_77_0 ?_
  refine to_an (pc := 82) rw_148_82 rfl ?_
  refine tt_gI (pc := 83) rw_148_83 fO_77_11 c0 ?_
  refine to_i (pc := 86) rw_148_86 rfl ?_
  refine to_2 (pc := 88) rw_148_88 (v := (15 : Int32)) (by decide +kernel) ?_
  refine to_i (pc := 89) rw_148_89 rfl ?_
  refine to_c (pc := 91) rw_148_91 (x := (24 : Int32)) rfl rfl ?_
  refine to_c (pc := 93) rw_148_93 (x := (8 : Int32)) rfl rfl ?_
  refine to_i (pc := 95) rw_148_95 rfl ?_
  refine to_c (pc := 97) rw_148_97 (x := (4 : Int32)) rfl rfl ?_
  refine to_2 (pc := 98) rw_148_98 (v := (3 : Int32)) (by decide +kernel) ?_
  refine to_2 (pc := 99) rw_148_99 (v := (24 : Int32)) (by decide +kernel) ?_
  refine to_2 (pc := 100) rw_148_100 (v := (0 : Int32)) (by decide +kernel) ?_
  refine to_2 (pc := 101) rw_148_101 rfl ?_
  refine to_c (pc := 102) rw_148_102 (x := (255 : Int32)) rfl rfl ?_
  refine to_2 (pc := 105) rw_148_105 rfl ?_
  refine to_ias (pc := 106) rw_148_106 (k := 15) fO_78_100 (op_j fN_78_0 (by decide +kernel)) (by decide +kernel) ?_
  refine to_inc (pc := 107) rw_148_107 (ls2 := [.ref 77, .int _, .int _, .int _, .int _, .int _, .int (16 : Int32), .int _]) rfl rfl rfl ?_
  refine to_go (pc := 110) rw_148_110 ?_
  exact h _ _ (fd_s P rfl rfl)
set_option maxRecDepth 4000 in
theorem fd_r_16 {X : mm_X} {d : Nat} {Q : Option Value → mm_M → Prop} {M : mm_M} {x1 x2 x3 x4 x5 k : Int32} {w : Value} (P : fd_P M k (0 : Int32)) (h : ∀ M1 w1, fd_P M1 k (0 : Int32) → mm_T X d 148 23 [.ref 77, .int x1, .int x2, .int x3, .int x4, .int x5, .int (17 : Int32), w1] [] M1 Q) : mm_T X d 148 23 [.ref 77, .int x1, .int x2, .int x3, .int x4, .int x5, .int (16 : Int32), w] [] M Q := by
  have fC := P.1.1
  have fK_2_0 := P.1.2.1
  have fN_2_0 := P.1.2.2.1
  have fN_78_0 := P.1.2.2.2.1
  have fO_0_10 := P.1.2.2.2.2.1
  have fO_1_8 := P.1.2.2.2.2.2.1
  have fO_2_103 := P.1.2.2.2.2.2.2.1
  have fO_77_11 := P.1.2.2.2.2.2.2.2.1
  have fO_78_100 := P.1.2.2.2.2.2.2.2.2.1
  have fR_0_0 := P.1.2.2.2.2.2.2.2.2.2.1
  have fR_1_0 := P.1.2.2.2.2.2.2.2.2.2.2.1
  have fR_77_0 := P.1.2.2.2.2.2.2.2.2.2.2.2.1
  have fX_2_102 := P.1.2.2.2.2.2.2.2.2.2.2.2.2
  have k0 := P.2.1
  have c0 := P.2.2
  refine to_i (pc := 23) rw_148_23 rfl ?_
  refine to_c (pc := 25) rw_148_25 (x := (20 : Int32)) rfl rfl ?_
  refine to_icf (pc := 27) rw_148_27 (by decide +kernel) ?_
  refine to_i (pc := 30) rw_148_30 rfl ?_
  refine to_c (pc := 32) rw_148_32 (x := (4 : Int32)) rfl rfl ?_
  refine to_ict (pc := 33) rw_148_33 (by decide +kernel) ?_
  refine to_i (pc := 40) rw_148_40 rfl ?_
  refine to_c (pc := 42) rw_148_42 (x := (8 : Int32)) rfl rfl ?_
  refine to_ict (pc := 44) rw_148_44 (by decide +kernel) ?_
  refine to_i (pc := 51) rw_148_51 rfl ?_
  refine to_c (pc := 53) rw_148_53 (x := (12 : Int32)) rfl rfl ?_
  refine to_ict (pc := 55) rw_148_55 (by decide +kernel) ?_
  refine to_i (pc := 62) rw_148_62 rfl ?_
  refine to_c (pc := 64) rw_148_64 (x := (16 : Int32)) rfl rfl ?_
  refine to_ict (pc := 66) rw_148_66 (by decide +kernel) ?_
  refine to_i (pc := 74) rw_148_74 rfl ?_
  refine to_is (pc := 76) rw_148_76 (ls2 := [.ref 77, .int _, .int _, .int _, .int _, .int _, .int (16 : Int32), .int _]) rfl rfl ?_
  refine to_an (pc := 78) rw_148_78 rfl ?_
  refine tt_gR (pc := 79) rw_148_79 fO_77_11 fR_77_0 ?_
  refine to_an (pc := 82) rw_148_82 rfl ?_
  refine tt_gI (pc := 83) rw_148_83 fO_77_11 c0 ?_
  refine to_i (pc := 86) rw_148_86 rfl ?_
  refine to_2 (pc := 88) rw_148_88 (v := (16 : Int32)) (by decide +kernel) ?_
  refine to_i (pc := 89) rw_148_89 rfl ?_
  refine to_c (pc := 91) rw_148_91 (x := (24 : Int32)) rfl rfl ?_
  refine to_c (pc := 93) rw_148_93 (x := (8 : Int32)) rfl rfl ?_
  refine to_i (pc := 95) rw_148_95 rfl ?_
  refine to_c (pc := 97) rw_148_97 (x := (4 : Int32)) rfl rfl ?_
  refine to_2 (pc := 98) rw_148_98 (v := (0 : Int32)) (by decide +kernel) ?_
  refine to_2 (pc := 99) rw_148_99 (v := (0 : Int32)) (by decide +kernel) ?_
  refine to_2 (pc := 100) rw_148_100 (v := (24 : Int32)) (by decide +kernel) ?_
  refine to_2 (pc := 101) rw_148_101 rfl ?_
  refine to_c (pc := 102) rw_148_102 (x := (255 : Int32)) rfl rfl ?_
  refine to_2 (pc := 105) rw_148_105 rfl ?_
  refine to_ias (pc := 106) rw_148_106 (k := 16) fO_78_100 (op_j fN_78_0 (by decide +kernel)) (by decide +kernel) ?_
  refine to_inc (pc := 107) rw_148_107 (ls2 := [.ref 77, .int _, .int _, .int _, .int _, .int _, .int (17 : Int32), .int _]) rfl rfl rfl ?_
  refine to_go (pc := 110) rw_148_110 ?_
  exact h _ _ (fd_s P rfl rfl)
set_option maxRecDepth 4000 in
theorem fd_r_17 {X : mm_X} {d : Nat} {Q : Option Value → mm_M → Prop} {M : mm_M} {x1 x2 x3 x4 x5 k : Int32} {w : Value} (P : fd_P M k (0 : Int32)) (h : ∀ M1 w1, fd_P M1 k (0 : Int32) → mm_T X d 148 23 [.ref 77, .int x1, .int x2, .int x3, .int x4, .int x5, .int (18 : Int32), w1] [] M1 Q) : mm_T X d 148 23 [.ref 77, .int x1, .int x2, .int x3, .int x4, .int x5, .int (17 : Int32), w] [] M Q := by
  have fC := P.1.1
  have fK_2_0 := P.1.2.1
  have fN_2_0 := P.1.2.2.1
  have fN_78_0 := P.1.2.2.2.1
  have fO_0_10 := P.1.2.2.2.2.1
  have fO_1_8 := P.1.2.2.2.2.2.1
  have fO_2_103 := P.1.2.2.2.2.2.2.1
  have fO_77_11 := P.1.2.2.2.2.2.2.2.1
  have fO_78_100 := P.1.2.2.2.2.2.2.2.2.1
  have fR_0_0 := P.1.2.2.2.2.2.2.2.2.2.1
  have fR_1_0 := P.1.2.2.2.2.2.2.2.2.2.2.1
  have fR_77_0 := P.1.2.2.2.2.2.2.2.2.2.2.2.1
  have fX_2_102 := P.1.2.2.2.2.2.2.2.2.2.2.2.2
  have k0 := P.2.1
  have c0 := P.2.2
  refine to_i (pc := 23) rw_148_23 rfl ?_
  refine to_c (pc := 25) rw_148_25 (x := (20 : Int32)) rfl rfl ?_
  refine to_icf (pc := 27) rw_148_27 (by decide +kernel) ?_
  refine to_i (pc := 30) rw_148_30 rfl ?_
  refine to_c (pc := 32) rw_148_32 (x := (4 : Int32)) rfl rfl ?_
  refine to_ict (pc := 33) rw_148_33 (by decide +kernel) ?_
  refine to_i (pc := 40) rw_148_40 rfl ?_
  refine to_c (pc := 42) rw_148_42 (x := (8 : Int32)) rfl rfl ?_
  refine to_ict (pc := 44) rw_148_44 (by decide +kernel) ?_
  refine to_i (pc := 51) rw_148_51 rfl ?_
  refine to_c (pc := 53) rw_148_53 (x := (12 : Int32)) rfl rfl ?_
  refine to_ict (pc := 55) rw_148_55 (by decide +kernel) ?_
  refine to_i (pc := 62) rw_148_62 rfl ?_
  refine to_c (pc := 64) rw_148_64 (x := (16 : Int32)) rfl rfl ?_
  refine to_ict (pc := 66) rw_148_66 (by decide +kernel) ?_
  refine to_i (pc := 74) rw_148_74 rfl ?_
  refine to_is (pc := 76) rw_148_76 (ls2 := [.ref 77, .int _, .int _, .int _, .int _, .int _, .int (17 : Int32), .int _]) rfl rfl ?_
  refine to_an (pc := 78) rw_148_78 rfl ?_
  refine tt_gR (pc := 79) rw_148_79 fO_77_11 fR_77_0 ?_
  refine to_an (pc := 82) rw_148_82 rfl ?_
  refine tt_gI (pc := 83) rw_148_83 fO_77_11 c0 ?_
  refine to_i (pc := 86) rw_148_86 rfl ?_
  refine to_2 (pc := 88) rw_148_88 (v := (17 : Int32)) (by decide +kernel) ?_
  refine to_i (pc := 89) rw_148_89 rfl ?_
  refine to_c (pc := 91) rw_148_91 (x := (24 : Int32)) rfl rfl ?_
  refine to_c (pc := 93) rw_148_93 (x := (8 : Int32)) rfl rfl ?_
  refine to_i (pc := 95) rw_148_95 rfl ?_
  refine to_c (pc := 97) rw_148_97 (x := (4 : Int32)) rfl rfl ?_
  refine to_2 (pc := 98) rw_148_98 (v := (1 : Int32)) (by decide +kernel) ?_
  refine to_2 (pc := 99) rw_148_99 (v := (8 : Int32)) (by decide +kernel) ?_
  refine to_2 (pc := 100) rw_148_100 (v := (16 : Int32)) (by decide +kernel) ?_
  refine to_2 (pc := 101) rw_148_101 rfl ?_
  refine to_c (pc := 102) rw_148_102 (x := (255 : Int32)) rfl rfl ?_
  refine to_2 (pc := 105) rw_148_105 rfl ?_
  refine to_ias (pc := 106) rw_148_106 (k := 17) fO_78_100 (op_j fN_78_0 (by decide +kernel)) (by decide +kernel) ?_
  refine to_inc (pc := 107) rw_148_107 (ls2 := [.ref 77, .int _, .int _, .int _, .int _, .int _, .int (18 : Int32), .int _]) rfl rfl rfl ?_
  refine to_go (pc := 110) rw_148_110 ?_
  exact h _ _ (fd_s P rfl rfl)
set_option maxRecDepth 4000 in
theorem fd_r_18 {X : mm_X} {d : Nat} {Q : Option Value → mm_M → Prop} {M : mm_M} {x1 x2 x3 x4 x5 k : Int32} {w : Value} (P : fd_P M k (0 : Int32)) (h : ∀ M1 w1, fd_P M1 k (0 : Int32) → mm_T X d 148 23 [.ref 77, .int x1, .int x2, .int x3, .int x4, .int x5, .int (19 : Int32), w1] [] M1 Q) : mm_T X d 148 23 [.ref 77, .int x1, .int x2, .int x3, .int x4, .int x5, .int (18 : Int32), w] [] M Q := by
  have fC := P.1.1
  have fK_2_0 := P.1.2.1
  have fN_2_0 := P.1.2.2.1
  have fN_78_0 := P.1.2.2.2.1
  have fO_0_10 := P.1.2.2.2.2.1
  have fO_1_8 := P.1.2.2.2.2.2.1
  have fO_2_103 := P.1.2.2.2.2.2.2.1
  have fO_77_11 := P.1.2.2.2.2.2.2.2.1
  have fO_78_100 := P.1.2.2.2.2.2.2.2.2.1
  have fR_0_0 := P.1.2.2.2.2.2.2.2.2.2.1
  have fR_1_0 := P.1.2.2.2.2.2.2.2.2.2.2.1
  have fR_77_0 := P.1.2.2.2.2.2.2.2.2.2.2.2.1
  have fX_2_102 := P.1.2.2.2.2.2.2.2.2.2.2.2.2
  have k0 := P.2.1
  have c0 := P.2.2
  refine to_i (pc := 23) rw_148_23 rfl ?_
  refine to_c (pc := 25) rw_148_25 (x := (20 : Int32)) rfl rfl ?_
  refine to_icf (pc := 27) rw_148_27 (by decide +kernel) ?_
  refine to_i (pc := 30) rw_148_30 rfl ?_
  refine to_c (pc := 32) rw_148_32 (x := (4 : Int32)) rfl rfl ?_
  refine to_ict (pc := 33) rw_148_33 (by decide +kernel) ?_
  refine to_i (pc := 40) rw_148_40 rfl ?_
  refine to_c (pc := 42) rw_148_42 (x := (8 : Int32)) rfl rfl ?_
  refine to_ict (pc := 44) rw_148_44 (by decide +kernel) ?_
  refine to_i (pc := 51) rw_148_51 rfl ?_
  refine to_c (pc := 53) rw_148_53 (x := (12 : Int32)) rfl rfl ?_
  refine to_ict (pc := 55) rw_148_55 (by decide +kernel) ?_
  refine to_i (pc := 62) rw_148_62 rfl ?_
  refine to_c (pc := 64) rw_148_64 (x := (16 : Int32)) rfl rfl ?_
  refine to_ict (pc := 66) rw_148_66 (by decide +kernel) ?_
  refine to_i (pc := 74) rw_148_74 rfl ?_
  refine to_is (pc := 76) rw_148_76 (ls2 := [.ref 77, .int _, .int _, .int _, .int _, .int _, .int (18 : Int32), .int _]) rfl rfl ?_
  refine to_an (pc := 78) rw_148_78 rfl ?_
  refine tt_gR (pc := 79) rw_148_79 fO_77_11 fR_77_0 ?_
  refine to_an (pc := 82) rw_148_82 rfl ?_
  refine tt_gI (pc := 83) rw_148_83 fO_77_11 c0 ?_
  refine to_i (pc := 86) rw_148_86 rfl ?_
  refine to_2 (pc := 88) rw_148_88 (v := (18 : Int32)) (by decide +kernel) ?_
  refine to_i (pc := 89) rw_148_89 rfl ?_
  refine to_c (pc := 91) rw_148_91 (x := (24 : Int32)) rfl rfl ?_
  refine to_c (pc := 93) rw_148_93 (x := (8 : Int32)) rfl rfl ?_
  refine to_i (pc := 95) rw_148_95 rfl ?_
  refine to_c (pc := 97) rw_148_97 (x := (4 : Int32)) rfl rfl ?_
  refine to_2 (pc := 98) rw_148_98 (v := (2 : Int32)) (by decide +kernel) ?_
  refine to_2 (pc := 99) rw_148_99 (v := (16 : Int32)) (by decide +kernel) ?_
  refine to_2 (pc := 100) rw_148_100 (v := (8 : Int32)) (by decide +kernel) ?_
  refine to_2 (pc := 101) rw_148_101 rfl ?_
  refine to_c (pc := 102) rw_148_102 (x := (255 : Int32)) rfl rfl ?_
  refine to_2 (pc := 105) rw_148_105 rfl ?_
  refine to_ias (pc := 106) rw_148_106 (k := 18) fO_78_100 (op_j fN_78_0 (by decide +kernel)) (by decide +kernel) ?_
  refine to_inc (pc := 107) rw_148_107 (ls2 := [.ref 77, .int _, .int _, .int _, .int _, .int _, .int (19 : Int32), .int _]) rfl rfl rfl ?_
  refine to_go (pc := 110) rw_148_110 ?_
  exact h _ _ (fd_s P rfl rfl)
set_option maxRecDepth 4000 in
theorem fd_r_19 {X : mm_X} {d : Nat} {Q : Option Value → mm_M → Prop} {M : mm_M} {x1 x2 x3 x4 x5 k : Int32} {w : Value} (P : fd_P M k (0 : Int32)) (h : ∀ M1 w1, fd_P M1 k (0 : Int32) → mm_T X d 148 23 [.ref 77, .int x1, .int x2, .int x3, .int x4, .int x5, .int (20 : Int32), w1] [] M1 Q) : mm_T X d 148 23 [.ref 77, .int x1, .int x2, .int x3, .int x4, .int x5, .int (19 : Int32), w] [] M Q := by
  have fC := P.1.1
  have fK_2_0 := P.1.2.1
  have fN_2_0 := P.1.2.2.1
  have fN_78_0 := P.1.2.2.2.1
  have fO_0_10 := P.1.2.2.2.2.1
  have fO_1_8 := P.1.2.2.2.2.2.1
  have fO_2_103 := P.1.2.2.2.2.2.2.1
  have fO_77_11 := P.1.2.2.2.2.2.2.2.1
  have fO_78_100 := P.1.2.2.2.2.2.2.2.2.1
  have fR_0_0 := P.1.2.2.2.2.2.2.2.2.2.1
  have fR_1_0 := P.1.2.2.2.2.2.2.2.2.2.2.1
  have fR_77_0 := P.1.2.2.2.2.2.2.2.2.2.2.2.1
  have fX_2_102 := P.1.2.2.2.2.2.2.2.2.2.2.2.2
  have k0 := P.2.1
  have c0 := P.2.2
  refine to_i (pc := 23) rw_148_23 rfl ?_
  refine to_c (pc := 25) rw_148_25 (x := (20 : Int32)) rfl rfl ?_
  refine to_icf (pc := 27) rw_148_27 (by decide +kernel) ?_
  refine to_i (pc := 30) rw_148_30 rfl ?_
  refine to_c (pc := 32) rw_148_32 (x := (4 : Int32)) rfl rfl ?_
  refine to_ict (pc := 33) rw_148_33 (by decide +kernel) ?_
  refine to_i (pc := 40) rw_148_40 rfl ?_
  refine to_c (pc := 42) rw_148_42 (x := (8 : Int32)) rfl rfl ?_
  refine to_ict (pc := 44) rw_148_44 (by decide +kernel) ?_
  refine to_i (pc := 51) rw_148_51 rfl ?_
  refine to_c (pc := 53) rw_148_53 (x := (12 : Int32)) rfl rfl ?_
  refine to_ict (pc := 55) rw_148_55 (by decide +kernel) ?_
  refine to_i (pc := 62) rw_148_62 rfl ?_
  refine to_c (pc := 64) rw_148_64 (x := (16 : Int32)) rfl rfl ?_
  refine to_ict (pc := 66) rw_148_66 (by decide +kernel) ?_
  refine to_i (pc := 74) rw_148_74 rfl ?_
  refine to_is (pc := 76) rw_148_76 (ls2 := [.ref 77, .int _, .int _, .int _, .int _, .int _, .int (19 : Int32), .int _]) rfl rfl ?_
  refine to_an (pc := 78) rw_148_78 rfl ?_
  refine tt_gR (pc := 79) rw_148_79 fO_77_11 fR_77_0 ?_
  refine to_an (pc := 82) rw_148_82 rfl ?_
  refine tt_gI (pc := 83) rw_148_83 fO_77_11 c0 ?_
  refine to_i (pc := 86) rw_148_86 rfl ?_
  refine to_2 (pc := 88) rw_148_88 (v := (19 : Int32)) (by decide +kernel) ?_
  refine to_i (pc := 89) rw_148_89 rfl ?_
  refine to_c (pc := 91) rw_148_91 (x := (24 : Int32)) rfl rfl ?_
  refine to_c (pc := 93) rw_148_93 (x := (8 : Int32)) rfl rfl ?_
  refine to_i (pc := 95) rw_148_95 rfl ?_
  refine to_c (pc := 97) rw_148_97 (x := (4 : Int32)) rfl rfl ?_
  refine to_2 (pc := 98) rw_148_98 (v := (3 : Int32)) (by decide +kernel) ?_
  refine to_2 (pc := 99) rw_148_99 (v := (24 : Int32)) (by decide +kernel) ?_
  refine to_2 (pc := 100) rw_148_100 (v := (0 : Int32)) (by decide +kernel) ?_
  refine to_2 (pc := 101) rw_148_101 rfl ?_
  refine to_c (pc := 102) rw_148_102 (x := (255 : Int32)) rfl rfl ?_
  refine to_2 (pc := 105) rw_148_105 rfl ?_
  refine to_ias (pc := 106) rw_148_106 (k := 19) fO_78_100 (op_j fN_78_0 (by decide +kernel)) (by decide +kernel) ?_
  refine to_inc (pc := 107) rw_148_107 (ls2 := [.ref 77, .int _, .int _, .int _, .int _, .int _, .int (20 : Int32), .int _]) rfl rfl rfl ?_
  refine to_go (pc := 110) rw_148_110 ?_
  exact h _ _ (fd_s P rfl rfl)
set_option maxRecDepth 4000 in
theorem fd_ref {X : mm_X} {d : Nat} {Q : Option Value → mm_M → Prop} {M : mm_M} {x1 x2 x3 x4 x5 k : Int32} (P : fd_P M k (0 : Int32)) (h : ∀ M1, fd_P M1 k (20 : Int32) → Q (some (.int (20 : Int32))) M1) : mm_T X d 148 0 [.ref 77, .int x1, .int x2, .int x3, .int x4, .int x5, .null, .null] [] M Q := by
  have fC := P.1.1
  have fK_2_0 := P.1.2.1
  have fN_2_0 := P.1.2.2.1
  have fN_78_0 := P.1.2.2.2.1
  have fO_0_10 := P.1.2.2.2.2.1
  have fO_1_8 := P.1.2.2.2.2.2.1
  have fO_2_103 := P.1.2.2.2.2.2.2.1
  have fO_77_11 := P.1.2.2.2.2.2.2.2.1
  have fO_78_100 := P.1.2.2.2.2.2.2.2.2.1
  have fR_0_0 := P.1.2.2.2.2.2.2.2.2.2.1
  have fR_1_0 := P.1.2.2.2.2.2.2.2.2.2.2.1
  have fR_77_0 := P.1.2.2.2.2.2.2.2.2.2.2.2.1
  have fX_2_102 := P.1.2.2.2.2.2.2.2.2.2.2.2.2
  have k0 := P.2.1
  have c0 := P.2.2
  refine to_an (pc := 0) rw_148_0 rfl ?_
  refine to_c (pc := 1) rw_148_1 (x := (0 : Int32)) rfl rfl ?_
  refine tt_pI (pc := 2) rw_148_2 fO_77_11 ?_
  replace P := fd_s (x := 0) (a := 77) (i := 2) P rfl rfl
  clear fC fK_2_0 fN_2_0 fN_78_0 fO_0_10 fO_1_8 fO_2_103 fO_77_11 fO_78_100 fR_0_0 fR_1_0 fR_77_0 fX_2_102 k0 c0
  generalize mm_setI M 77 2 0 = M at P ⊢
  have fC := P.1.1
  have fK_2_0 := P.1.2.1
  have fN_2_0 := P.1.2.2.1
  have fN_78_0 := P.1.2.2.2.1
  have fO_0_10 := P.1.2.2.2.2.1
  have fO_1_8 := P.1.2.2.2.2.2.1
  have fO_2_103 := P.1.2.2.2.2.2.2.1
  have fO_77_11 := P.1.2.2.2.2.2.2.2.1
  have fO_78_100 := P.1.2.2.2.2.2.2.2.2.1
  have fR_0_0 := P.1.2.2.2.2.2.2.2.2.2.1
  have fR_1_0 := P.1.2.2.2.2.2.2.2.2.2.2.1
  have fR_77_0 := P.1.2.2.2.2.2.2.2.2.2.2.2.1
  have fX_2_102 := P.1.2.2.2.2.2.2.2.2.2.2.2.2
  have k0 := P.2.1
  have c0 := P.2.2
  refine to_an (pc := 5) rw_148_5 rfl ?_
  refine tt_gI (pc := 6) rw_148_6 fO_77_11 c0 ?_
  refine to_c (pc := 9) rw_148_9 (x := (20 : Int32)) rfl rfl ?_
  refine to_2 (pc := 11) rw_148_11 (v := (20 : Int32)) (by decide +kernel) ?_
  refine to_c (pc := 12) rw_148_12 (x := (500 : Int32)) rfl rfl ?_
  refine to_ict (pc := 15) rw_148_15 (by decide +kernel) ?_
  refine to_c (pc := 20) rw_148_20 (x := (0 : Int32)) rfl rfl ?_
  refine to_is (pc := 21) rw_148_21 (ls2 := [.ref 77, .int _, .int _, .int _, .int _, .int _, .int (0 : Int32), .null]) rfl rfl ?_
  clear fC fK_2_0 fN_2_0 fN_78_0 fO_0_10 fO_1_8 fO_2_103 fO_77_11 fO_78_100 fR_0_0 fR_1_0 fR_77_0 fX_2_102 k0 c0
  refine fd_r_0 P ?_
  clear P
  intro M w P
  refine fd_r_1 P ?_
  clear P
  intro M w P
  refine fd_r_2 P ?_
  clear P
  intro M w P
  refine fd_r_3 P ?_
  clear P
  intro M w P
  refine fd_r_4 P ?_
  clear P
  intro M w P
  refine fd_r_5 P ?_
  clear P
  intro M w P
  refine fd_r_6 P ?_
  clear P
  intro M w P
  refine fd_r_7 P ?_
  clear P
  intro M w P
  refine fd_r_8 P ?_
  clear P
  intro M w P
  refine fd_r_9 P ?_
  clear P
  intro M w P
  refine fd_r_10 P ?_
  clear P
  intro M w P
  refine fd_r_11 P ?_
  clear P
  intro M w P
  refine fd_r_12 P ?_
  clear P
  intro M w P
  refine fd_r_13 P ?_
  clear P
  intro M w P
  refine fd_r_14 P ?_
  clear P
  intro M w P
  refine fd_r_15 P ?_
  clear P
  intro M w P
  refine fd_r_16 P ?_
  clear P
  intro M w P
  refine fd_r_17 P ?_
  clear P
  intro M w P
  refine fd_r_18 P ?_
  clear P
  intro M w P
  refine fd_r_19 P ?_
  clear P
  intro M w P
  have fC := P.1.1
  have fK_2_0 := P.1.2.1
  have fN_2_0 := P.1.2.2.1
  have fN_78_0 := P.1.2.2.2.1
  have fO_0_10 := P.1.2.2.2.2.1
  have fO_1_8 := P.1.2.2.2.2.2.1
  have fO_2_103 := P.1.2.2.2.2.2.2.1
  have fO_77_11 := P.1.2.2.2.2.2.2.2.1
  have fO_78_100 := P.1.2.2.2.2.2.2.2.2.1
  have fR_0_0 := P.1.2.2.2.2.2.2.2.2.2.1
  have fR_1_0 := P.1.2.2.2.2.2.2.2.2.2.2.1
  have fR_77_0 := P.1.2.2.2.2.2.2.2.2.2.2.2.1
  have fX_2_102 := P.1.2.2.2.2.2.2.2.2.2.2.2.2
  have k0 := P.2.1
  have c0 := P.2.2
  refine to_i (pc := 23) rw_148_23 rfl ?_
  refine to_c (pc := 25) rw_148_25 (x := (20 : Int32)) rfl rfl ?_
  refine to_ict (pc := 27) rw_148_27 (by decide +kernel) ?_
  refine to_an (pc := 113) rw_148_113 rfl ?_
  refine to_dupr (pc := 114) rw_148_114 ?_
  refine tt_gI (pc := 115) rw_148_115 fO_77_11 c0 ?_
  refine to_c (pc := 118) rw_148_118 (x := (20 : Int32)) rfl rfl ?_
  refine to_2 (pc := 120) rw_148_120 (v := (20 : Int32)) (by decide +kernel) ?_
  refine tt_pI (pc := 121) rw_148_121 fO_77_11 ?_
  refine to_an (pc := 124) rw_148_124 rfl ?_
  refine tt_gI (pc := 125) rw_148_125 fO_77_11 rI_e ?_
  refine to_r0 (pc := 128) rw_148_128 ?_
  exact h _ (fd_c P)
set_option maxRecDepth 4000 in
theorem op_0 {fr_M fr_1 fr_2 fr_3 fr_4 fr_5 fr_6 fr_7 fr_8 fr_9 fr_10 fr_11 fr_12 : mm_M} (HM : fr_Eq fr_M fr_1 fr_2 fr_3 fr_4 fr_5 fr_6 fr_7 fr_8 fr_9 fr_10 fr_11 fr_12) {xs : Nat → Int32} {x1 x2 x3 x4 x5 : Int32} (hx1 : xs 1 = x1) (hx2 : xs 2 = x2) (hx3 : xs 3 = x3) (hx4 : xs 4 = x4) (hx5 : xs 5 = x5) : mm_T (fr_X 6 xs) 40 0 176 [.ref mm_ext, .ref 0, .ref 77, .ref 125, .int 0, .null, .null] [] fr_M op_Q := by
  have P : fd_P fr_M 0 0 := ⟨⟨fC_fr_M HM, fK_fr_M_2_0 HM, fN_fr_M_2_0 HM, fN_fr_M_78_0 HM, fO_fr_M_0_10 HM, fO_fr_M_1_8 HM, fO_fr_M_2_103 HM, fO_fr_M_77_11 HM, fO_fr_M_78_100 HM, fR_fr_M_0_0 HM, fR_fr_M_1_0 HM, fR_fr_M_77_0 HM, fX_fr_M_2_102 HM⟩, fI_fr_M_1_1 HM, fI_fr_M_77_1 HM⟩
  clear HM
  generalize fr_M = M at P ⊢
  have fC := P.1.1
  have fK_2_0 := P.1.2.1
  have fN_2_0 := P.1.2.2.1
  have fN_78_0 := P.1.2.2.2.1
  have fO_0_10 := P.1.2.2.2.2.1
  have fO_1_8 := P.1.2.2.2.2.2.1
  have fO_2_103 := P.1.2.2.2.2.2.2.1
  have fO_77_11 := P.1.2.2.2.2.2.2.2.1
  have fO_78_100 := P.1.2.2.2.2.2.2.2.2.1
  have fR_0_0 := P.1.2.2.2.2.2.2.2.2.2.1
  have fR_1_0 := P.1.2.2.2.2.2.2.2.2.2.2.1
  have fR_77_0 := P.1.2.2.2.2.2.2.2.2.2.2.2.1
  have fX_2_102 := P.1.2.2.2.2.2.2.2.2.2.2.2.2
  have k0 := P.2.1
  have c0 := P.2.2
  refine to_an (pc := 176) rw_0_176 rfl ?_
  refine to_an (pc := 177) rw_0_177 rfl ?_
  refine to_i (pc := 178) rw_0_178 rfl ?_
  refine to_c (pc := 180) rw_0_180 (x := (1 : Int32)) rfl rfl ?_
  refine to_2 (pc := 181) rw_0_181 (v := (1 : Int32)) (by decide +kernel) ?_
  refine op_x (pc := 182) rw_0_182 (k := 1) (by decide +kernel) hx1 ?_
  refine to_an (pc := 183) rw_0_183 rfl ?_
  refine to_i (pc := 184) rw_0_184 rfl ?_
  refine to_c (pc := 186) rw_0_186 (x := (2 : Int32)) rfl rfl ?_
  refine to_2 (pc := 187) rw_0_187 (v := (2 : Int32)) (by decide +kernel) ?_
  refine op_x (pc := 188) rw_0_188 (k := 2) (by decide +kernel) hx2 ?_
  refine to_an (pc := 189) rw_0_189 rfl ?_
  refine to_i (pc := 190) rw_0_190 rfl ?_
  refine to_c (pc := 192) rw_0_192 (x := (3 : Int32)) rfl rfl ?_
  refine to_2 (pc := 193) rw_0_193 (v := (3 : Int32)) (by decide +kernel) ?_
  refine op_x (pc := 194) rw_0_194 (k := 3) (by decide +kernel) hx3 ?_
  refine to_an (pc := 195) rw_0_195 rfl ?_
  refine to_i (pc := 196) rw_0_196 rfl ?_
  refine to_c (pc := 198) rw_0_198 (x := (4 : Int32)) rfl rfl ?_
  refine to_2 (pc := 199) rw_0_199 (v := (4 : Int32)) (by decide +kernel) ?_
  refine op_x (pc := 200) rw_0_200 (k := 4) (by decide +kernel) hx4 ?_
  refine to_an (pc := 201) rw_0_201 rfl ?_
  refine to_i (pc := 202) rw_0_202 rfl ?_
  refine to_c (pc := 204) rw_0_204 (x := (5 : Int32)) rfl rfl ?_
  refine to_2 (pc := 205) rw_0_205 (v := (5 : Int32)) (by decide +kernel) ?_
  refine op_x (pc := 206) rw_0_206 (k := 5) (by decide +kernel) hx5 ?_
  refine to_v (pc := 207) rw_0_207 (hi := rfl) (ls0 := [.ref 0, .int _, .int _, .int _, .int _, .int _]) rfl (Nat.le_of_ble_eq_true rfl) (Nat.le_of_ble_eq_true rfl) rfl (to_rc rfl rfl rfl fO_0_10) rfl ?_
  refine fd_feed P ?_
  clear P fC fK_2_0 fN_2_0 fN_78_0 fO_0_10 fO_1_8 fO_2_103 fO_77_11 fO_78_100 fR_0_0 fR_1_0 fR_77_0 fX_2_102 k0 c0
  intro M P
  have fC := P.1.1
  have fK_2_0 := P.1.2.1
  have fN_2_0 := P.1.2.2.1
  have fN_78_0 := P.1.2.2.2.1
  have fO_0_10 := P.1.2.2.2.2.1
  have fO_1_8 := P.1.2.2.2.2.2.1
  have fO_2_103 := P.1.2.2.2.2.2.2.1
  have fO_77_11 := P.1.2.2.2.2.2.2.2.1
  have fO_78_100 := P.1.2.2.2.2.2.2.2.2.1
  have fR_0_0 := P.1.2.2.2.2.2.2.2.2.2.1
  have fR_1_0 := P.1.2.2.2.2.2.2.2.2.2.2.1
  have fR_77_0 := P.1.2.2.2.2.2.2.2.2.2.2.2.1
  have fX_2_102 := P.1.2.2.2.2.2.2.2.2.2.2.2.2
  have k0 := P.2.1
  have c0 := P.2.2
  refine to_an (pc := 210) rw_0_210 rfl ?_
  refine to_an (pc := 211) rw_0_211 rfl ?_
  refine to_i (pc := 212) rw_0_212 rfl ?_
  refine to_c (pc := 214) rw_0_214 (x := (1 : Int32)) rfl rfl ?_
  refine to_2 (pc := 215) rw_0_215 (v := (1 : Int32)) (by decide +kernel) ?_
  refine op_x (pc := 216) rw_0_216 (k := 1) (by decide +kernel) hx1 ?_
  refine to_an (pc := 217) rw_0_217 rfl ?_
  refine to_i (pc := 218) rw_0_218 rfl ?_
  refine to_c (pc := 220) rw_0_220 (x := (2 : Int32)) rfl rfl ?_
  refine to_2 (pc := 221) rw_0_221 (v := (2 : Int32)) (by decide +kernel) ?_
  refine op_x (pc := 222) rw_0_222 (k := 2) (by decide +kernel) hx2 ?_
  refine to_an (pc := 223) rw_0_223 rfl ?_
  refine to_i (pc := 224) rw_0_224 rfl ?_
  refine to_c (pc := 226) rw_0_226 (x := (3 : Int32)) rfl rfl ?_
  refine to_2 (pc := 227) rw_0_227 (v := (3 : Int32)) (by decide +kernel) ?_
  refine op_x (pc := 228) rw_0_228 (k := 3) (by decide +kernel) hx3 ?_
  refine to_an (pc := 229) rw_0_229 rfl ?_
  refine to_i (pc := 230) rw_0_230 rfl ?_
  refine to_c (pc := 232) rw_0_232 (x := (4 : Int32)) rfl rfl ?_
  refine to_2 (pc := 233) rw_0_233 (v := (4 : Int32)) (by decide +kernel) ?_
  refine op_x (pc := 234) rw_0_234 (k := 4) (by decide +kernel) hx4 ?_
  refine to_an (pc := 235) rw_0_235 rfl ?_
  refine to_i (pc := 236) rw_0_236 rfl ?_
  refine to_c (pc := 238) rw_0_238 (x := (5 : Int32)) rfl rfl ?_
  refine to_2 (pc := 239) rw_0_239 (v := (5 : Int32)) (by decide +kernel) ?_
  refine op_x (pc := 240) rw_0_240 (k := 5) (by decide +kernel) hx5 ?_
  refine to_v (pc := 241) rw_0_241 (hi := rfl) (ls0 := [.ref 77, .int _, .int _, .int _, .int _, .int _, .null, .null]) rfl (Nat.le_of_ble_eq_true rfl) (Nat.le_of_ble_eq_true rfl) rfl (to_rc rfl rfl rfl fO_77_11) rfl ?_
  refine fd_ref P ?_
  clear P fC fK_2_0 fN_2_0 fN_78_0 fO_0_10 fO_1_8 fO_2_103 fO_77_11 fO_78_100 fR_0_0 fR_1_0 fR_77_0 fX_2_102 k0 c0
  intro M P
  have fC := P.1.1
  have fK_2_0 := P.1.2.1
  have fN_2_0 := P.1.2.2.1
  have fN_78_0 := P.1.2.2.2.1
  have fO_0_10 := P.1.2.2.2.2.1
  have fO_1_8 := P.1.2.2.2.2.2.1
  have fO_2_103 := P.1.2.2.2.2.2.2.1
  have fO_77_11 := P.1.2.2.2.2.2.2.2.1
  have fO_78_100 := P.1.2.2.2.2.2.2.2.2.1
  have fR_0_0 := P.1.2.2.2.2.2.2.2.2.2.1
  have fR_1_0 := P.1.2.2.2.2.2.2.2.2.2.2.1
  have fR_77_0 := P.1.2.2.2.2.2.2.2.2.2.2.2.1
  have fX_2_102 := P.1.2.2.2.2.2.2.2.2.2.2.2.2
  have k0 := P.2.1
  have c0 := P.2.2
  refine to_ict (pc := 244) rw_0_244 (by decide +kernel) ?_
  exact op_tail (op_c fC)
