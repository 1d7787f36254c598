set_option maxRecDepth 4000 in
theorem op_tail {xs : Nat → Int32} {v5 v6 : Value} {M : mm_M} (h : M.1.2.1 ≤ 600002 ∧ M.1.2.2.1 ≤ 7302231) : mm_T (fr_X 6 xs) 40 0 1345 [.ref mm_ext, .ref 0, .ref 77, .ref 125, .int 0, v5, v6] [] M op_Q := by
  refine to_inc rw_0_1345 (ls2 := [.ref mm_ext, .ref 0, .ref 77, .ref 125, .int (6 : Int32), v5, v6]) rfl rfl rfl ?_
  refine to_go rw_0_1348 ?_
  refine to_i rw_0_23 rfl ?_
  refine to_an rw_0_25 rfl ?_
  refine to_xlen (e := 0) rw_0_26 (v := (6 : Int32)) rfl ?_
  refine to_c rw_0_27 (x := (6 : Int32)) rfl rfl ?_
  refine to_2 rw_0_29 (v := (0 : Int32)) (by decide +kernel) ?_
  refine to_ict rw_0_30 (by decide +kernel) ?_
  refine to_c rw_0_1351 (x := (1 : Int32)) rfl rfl ?_
  refine to_r1 rw_0_1352 (by decide +kernel) ?_
  exact ⟨rfl, h⟩
