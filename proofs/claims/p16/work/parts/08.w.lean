set_option maxRecDepth 20000 in
theorem tb_0 : ∀ w ∈ k2_sels lw_privs, w ∈ lw_tbl := fun w h => List.mem_append_left _ h
set_option maxRecDepth 20000 in
theorem tb_1 : ∀ w ∈ tables_1_1, w ∈ lw_tbl := fun w h => tb_of (List.mem_append_left _ h)
set_option maxRecDepth 20000 in
theorem tb_2 : ∀ w ∈ tables_1_2, w ∈ lw_tbl := fun w h => tb_of (tb_of (List.mem_append_left _ h))
set_option maxRecDepth 20000 in
theorem tb_3 : ∀ w ∈ tables_1_3, w ∈ lw_tbl := fun w h => tb_of (tb_of (tb_of (List.mem_append_left _ h)))
set_option maxRecDepth 20000 in
theorem tb_4 : ∀ w ∈ tables_1_4, w ∈ lw_tbl := fun w h => tb_of (tb_of (tb_of (tb_of (List.mem_append_left _ h))))
set_option maxRecDepth 20000 in
theorem tb_5 : ∀ w ∈ tables_1_5, w ∈ lw_tbl := fun w h => tb_of (tb_of (tb_of (tb_of (tb_of (List.mem_append_left _ h)))))
set_option maxRecDepth 20000 in
theorem tb_6 : ∀ w ∈ tables_1_6, w ∈ lw_tbl := fun w h => tb_of (tb_of (tb_of (tb_of (tb_of (tb_of (List.mem_append_left _ h))))))
set_option maxRecDepth 20000 in
theorem tb_7 : ∀ w ∈ tables_1_7, w ∈ lw_tbl := fun w h => tb_of (tb_of (tb_of (tb_of (tb_of (tb_of (tb_of (List.mem_append_left _ h)))))))
set_option maxRecDepth 20000 in
theorem tb_8 : ∀ w ∈ tables_1_8, w ∈ lw_tbl := fun w h => tb_of (tb_of (tb_of (tb_of (tb_of (tb_of (tb_of (tb_of h)))))))
set_option maxRecDepth 20000 in
theorem mw_1 : ∀ w ∈ mm_mw 1, w ∈ lw_tbl := (List.forall_mem_cons.mpr ⟨(tb_1 _ (List.mem_of_getElem? (i := 222) rfl)), (List.forall_mem_cons.mpr ⟨(tb_1 _ (List.mem_of_getElem? (i := 7) rfl)), (List.forall_mem_cons.mpr ⟨(tb_1 _ (List.mem_of_getElem? (i := 221) rfl)), (fun _ h => absurd h List.not_mem_nil)⟩)⟩)⟩)
set_option maxRecDepth 20000 in
theorem mw_2 : ∀ w ∈ mm_mw 2, w ∈ lw_tbl := (List.forall_mem_cons.mpr ⟨(tb_5 _ (List.mem_of_getElem? (i := 17) rfl)), (List.forall_mem_cons.mpr ⟨(tb_1 _ (List.mem_of_getElem? (i := 7) rfl)), (List.forall_mem_cons.mpr ⟨(tb_5 _ (List.mem_of_getElem? (i := 15) rfl)), (List.forall_mem_cons.mpr ⟨(tb_5 _ (List.mem_of_getElem? (i := 16) rfl)), (fun _ h => absurd h List.not_mem_nil)⟩)⟩)⟩)⟩)
set_option maxRecDepth 20000 in
theorem mw_3 : ∀ w ∈ mm_mw 3, w ∈ lw_tbl := (List.forall_mem_cons.mpr ⟨(tb_5 _ (List.mem_of_getElem? (i := 23) rfl)), (List.forall_mem_cons.mpr ⟨(tb_1 _ (List.mem_of_getElem? (i := 7) rfl)), (List.forall_mem_cons.mpr ⟨(tb_5 _ (List.mem_of_getElem? (i := 22) rfl)), (fun _ h => absurd h List.not_mem_nil)⟩)⟩)⟩)
set_option maxRecDepth 20000 in
theorem mw_4 : ∀ w ∈ mm_mw 4, w ∈ lw_tbl := (List.forall_mem_cons.mpr ⟨(tb_5 _ (List.mem_of_getElem? (i := 26) rfl)), (List.forall_mem_cons.mpr ⟨(tb_1 _ (List.mem_of_getElem? (i := 7) rfl)), (List.forall_mem_cons.mpr ⟨(tb_5 _ (List.mem_of_getElem? (i := 25) rfl)), (fun _ h => absurd h List.not_mem_nil)⟩)⟩)⟩)
set_option maxRecDepth 20000 in
theorem mw_5 : ∀ w ∈ mm_mw 5, w ∈ lw_tbl := (List.forall_mem_cons.mpr ⟨(tb_5 _ (List.mem_of_getElem? (i := 30) rfl)), (List.forall_mem_cons.mpr ⟨(tb_1 _ (List.mem_of_getElem? (i := 7) rfl)), (List.forall_mem_cons.mpr ⟨(tb_5 _ (List.mem_of_getElem? (i := 28) rfl)), (List.forall_mem_cons.mpr ⟨(tb_5 _ (List.mem_of_getElem? (i := 29) rfl)), (fun _ h => absurd h List.not_mem_nil)⟩)⟩)⟩)⟩)
set_option maxRecDepth 20000 in
theorem mw_6 : ∀ w ∈ mm_mw 6, w ∈ lw_tbl := (List.forall_mem_cons.mpr ⟨(tb_5 _ (List.mem_of_getElem? (i := 35) rfl)), (List.forall_mem_cons.mpr ⟨(tb_1 _ (List.mem_of_getElem? (i := 7) rfl)), (List.forall_mem_cons.mpr ⟨(tb_5 _ (List.mem_of_getElem? (i := 33) rfl)), (List.forall_mem_cons.mpr ⟨(tb_5 _ (List.mem_of_getElem? (i := 34) rfl)), (fun _ h => absurd h List.not_mem_nil)⟩)⟩)⟩)⟩)
set_option maxRecDepth 20000 in
theorem mw_7 : ∀ w ∈ mm_mw 7, w ∈ lw_tbl := (List.forall_mem_cons.mpr ⟨(tb_1 _ (List.mem_of_getElem? (i := 116) rfl)), (List.forall_mem_cons.mpr ⟨(tb_1 _ (List.mem_of_getElem? (i := 4) rfl)), (List.forall_mem_cons.mpr ⟨(tb_1 _ (List.mem_of_getElem? (i := 115) rfl)), (fun _ h => absurd h List.not_mem_nil)⟩)⟩)⟩)
set_option maxRecDepth 20000 in
theorem mw_8 : ∀ w ∈ mm_mw 8, w ∈ lw_tbl := (List.forall_mem_cons.mpr ⟨(tb_3 _ (List.mem_of_getElem? (i := 149) rfl)), (List.forall_mem_cons.mpr ⟨(tb_1 _ (List.mem_of_getElem? (i := 4) rfl)), (List.forall_mem_cons.mpr ⟨(tb_3 _ (List.mem_of_getElem? (i := 147) rfl)), (List.forall_mem_cons.mpr ⟨(tb_3 _ (List.mem_of_getElem? (i := 148) rfl)), (fun _ h => absurd h List.not_mem_nil)⟩)⟩)⟩)⟩)
set_option maxRecDepth 20000 in
theorem mw_9 : ∀ w ∈ mm_mw 9, w ∈ lw_tbl := (List.forall_mem_cons.mpr ⟨(tb_3 _ (List.mem_of_getElem? (i := 153) rfl)), (List.forall_mem_cons.mpr ⟨(tb_1 _ (List.mem_of_getElem? (i := 4) rfl)), (List.forall_mem_cons.mpr ⟨(tb_3 _ (List.mem_of_getElem? (i := 151) rfl)), (List.forall_mem_cons.mpr ⟨(tb_3 _ (List.mem_of_getElem? (i := 152) rfl)), (fun _ h => absurd h List.not_mem_nil)⟩)⟩)⟩)⟩)
set_option maxRecDepth 20000 in
theorem mw_10 : ∀ w ∈ mm_mw 10, w ∈ lw_tbl := (List.forall_mem_cons.mpr ⟨(tb_3 _ (List.mem_of_getElem? (i := 157) rfl)), (List.forall_mem_cons.mpr ⟨(tb_1 _ (List.mem_of_getElem? (i := 4) rfl)), (List.forall_mem_cons.mpr ⟨(tb_3 _ (List.mem_of_getElem? (i := 155) rfl)), (List.forall_mem_cons.mpr ⟨(tb_3 _ (List.mem_of_getElem? (i := 156) rfl)), (fun _ h => absurd h List.not_mem_nil)⟩)⟩)⟩)⟩)
set_option maxRecDepth 20000 in
theorem mw_11 : ∀ w ∈ mm_mw 11, w ∈ lw_tbl := (List.forall_mem_cons.mpr ⟨(tb_3 _ (List.mem_of_getElem? (i := 162) rfl)), (List.forall_mem_cons.mpr ⟨(tb_1 _ (List.mem_of_getElem? (i := 4) rfl)), (List.forall_mem_cons.mpr ⟨(tb_3 _ (List.mem_of_getElem? (i := 160) rfl)), (List.forall_mem_cons.mpr ⟨(tb_3 _ (List.mem_of_getElem? (i := 161) rfl)), (fun _ h => absurd h List.not_mem_nil)⟩)⟩)⟩)⟩)
set_option maxRecDepth 20000 in
theorem mw_12 : ∀ w ∈ mm_mw 12, w ∈ lw_tbl := (List.forall_mem_cons.mpr ⟨(tb_4 _ (List.mem_of_getElem? (i := 170) rfl)), (List.forall_mem_cons.mpr ⟨(tb_1 _ (List.mem_of_getElem? (i := 4) rfl)), (List.forall_mem_cons.mpr ⟨(tb_4 _ (List.mem_of_getElem? (i := 168) rfl)), (List.forall_mem_cons.mpr ⟨(tb_4 _ (List.mem_of_getElem? (i := 169) rfl)), (fun _ h => absurd h List.not_mem_nil)⟩)⟩)⟩)⟩)
set_option maxRecDepth 20000 in
theorem mw_13 : ∀ w ∈ mm_mw 13, w ∈ lw_tbl := (List.forall_mem_cons.mpr ⟨(tb_4 _ (List.mem_of_getElem? (i := 215) rfl)), (List.forall_mem_cons.mpr ⟨(tb_1 _ (List.mem_of_getElem? (i := 4) rfl)), (List.forall_mem_cons.mpr ⟨(tb_4 _ (List.mem_of_getElem? (i := 213) rfl)), (List.forall_mem_cons.mpr ⟨(tb_4 _ (List.mem_of_getElem? (i := 214) rfl)), (fun _ h => absurd h List.not_mem_nil)⟩)⟩)⟩)⟩)
set_option maxRecDepth 20000 in
theorem mw_14 : ∀ w ∈ mm_mw 14, w ∈ lw_tbl := (List.forall_mem_cons.mpr ⟨(tb_4 _ (List.mem_of_getElem? (i := 225) rfl)), (List.forall_mem_cons.mpr ⟨(tb_1 _ (List.mem_of_getElem? (i := 4) rfl)), (List.forall_mem_cons.mpr ⟨(tb_4 _ (List.mem_of_getElem? (i := 223) rfl)), (List.forall_mem_cons.mpr ⟨(tb_4 _ (List.mem_of_getElem? (i := 224) rfl)), (fun _ h => absurd h List.not_mem_nil)⟩)⟩)⟩)⟩)
set_option maxRecDepth 20000 in
theorem mw_15 : ∀ w ∈ mm_mw 15, w ∈ lw_tbl := (List.forall_mem_cons.mpr ⟨(tb_2 _ (List.mem_of_getElem? (i := 4) rfl)), (List.forall_mem_cons.mpr ⟨(tb_1 _ (List.mem_of_getElem? (i := 8) rfl)), (List.forall_mem_cons.mpr ⟨(tb_2 _ (List.mem_of_getElem? (i := 3) rfl)), (fun _ h => absurd h List.not_mem_nil)⟩)⟩)⟩)
set_option maxRecDepth 20000 in
theorem mw_16 : ∀ w ∈ mm_mw 16, w ∈ lw_tbl := (List.forall_mem_cons.mpr ⟨(tb_5 _ (List.mem_of_getElem? (i := 43) rfl)), (List.forall_mem_cons.mpr ⟨(tb_1 _ (List.mem_of_getElem? (i := 8) rfl)), (List.forall_mem_cons.mpr ⟨(tb_5 _ (List.mem_of_getElem? (i := 41) rfl)), (List.forall_mem_cons.mpr ⟨(tb_5 _ (List.mem_of_getElem? (i := 42) rfl)), (fun _ h => absurd h List.not_mem_nil)⟩)⟩)⟩)⟩)
set_option maxRecDepth 20000 in
theorem mw_17 : ∀ w ∈ mm_mw 17, w ∈ lw_tbl := (List.forall_mem_cons.mpr ⟨(tb_5 _ (List.mem_of_getElem? (i := 50) rfl)), (List.forall_mem_cons.mpr ⟨(tb_1 _ (List.mem_of_getElem? (i := 8) rfl)), (List.forall_mem_cons.mpr ⟨(tb_5 _ (List.mem_of_getElem? (i := 48) rfl)), (List.forall_mem_cons.mpr ⟨(tb_5 _ (List.mem_of_getElem? (i := 49) rfl)), (fun _ h => absurd h List.not_mem_nil)⟩)⟩)⟩)⟩)
set_option maxRecDepth 20000 in
theorem mw_18 : ∀ w ∈ mm_mw 18, w ∈ lw_tbl := (List.forall_mem_cons.mpr ⟨(tb_5 _ (List.mem_of_getElem? (i := 56) rfl)), (List.forall_mem_cons.mpr ⟨(tb_1 _ (List.mem_of_getElem? (i := 8) rfl)), (List.forall_mem_cons.mpr ⟨(tb_5 _ (List.mem_of_getElem? (i := 54) rfl)), (List.forall_mem_cons.mpr ⟨(tb_5 _ (List.mem_of_getElem? (i := 55) rfl)), (fun _ h => absurd h List.not_mem_nil)⟩)⟩)⟩)⟩)
set_option maxRecDepth 20000 in
theorem mw_19 : ∀ w ∈ mm_mw 19, w ∈ lw_tbl := (List.forall_mem_cons.mpr ⟨(tb_1 _ (List.mem_of_getElem? (i := 89) rfl)), (List.forall_mem_cons.mpr ⟨(tb_1 _ (List.mem_of_getElem? (i := 3) rfl)), (List.forall_mem_cons.mpr ⟨(tb_1 _ (List.mem_of_getElem? (i := 88) rfl)), (fun _ h => absurd h List.not_mem_nil)⟩)⟩)⟩)
set_option maxRecDepth 20000 in
theorem mw_20 : ∀ w ∈ mm_mw 20, w ∈ lw_tbl := (List.forall_mem_cons.mpr ⟨(tb_4 _ (List.mem_of_getElem? (i := 125) rfl)), (List.forall_mem_cons.mpr ⟨(tb_1 _ (List.mem_of_getElem? (i := 3) rfl)), (List.forall_mem_cons.mpr ⟨(tb_4 _ (List.mem_of_getElem? (i := 123) rfl)), (List.forall_mem_cons.mpr ⟨(tb_4 _ (List.mem_of_getElem? (i := 124) rfl)), (fun _ h => absurd h List.not_mem_nil)⟩)⟩)⟩)⟩)
set_option maxRecDepth 20000 in
theorem mw_21 : ∀ w ∈ mm_mw 21, w ∈ lw_tbl := (List.forall_mem_cons.mpr ⟨(tb_1 _ (List.mem_of_getElem? (i := 150) rfl)), (List.forall_mem_cons.mpr ⟨(tb_1 _ (List.mem_of_getElem? (i := 5) rfl)), (List.forall_mem_cons.mpr ⟨(tb_1 _ (List.mem_of_getElem? (i := 149) rfl)), (fun _ h => absurd h List.not_mem_nil)⟩)⟩)⟩)
set_option maxRecDepth 20000 in
theorem mw_22 : ∀ w ∈ mm_mw 22, w ∈ lw_tbl := (List.forall_mem_cons.mpr ⟨(tb_3 _ (List.mem_of_getElem? (i := 137) rfl)), (List.forall_mem_cons.mpr ⟨(tb_1 _ (List.mem_of_getElem? (i := 5) rfl)), (List.forall_mem_cons.mpr ⟨(tb_3 _ (List.mem_of_getElem? (i := 135) rfl)), (List.forall_mem_cons.mpr ⟨(tb_3 _ (List.mem_of_getElem? (i := 136) rfl)), (fun _ h => absurd h List.not_mem_nil)⟩)⟩)⟩)⟩)
set_option maxRecDepth 20000 in
theorem mw_23 : ∀ w ∈ mm_mw 23, w ∈ lw_tbl := (List.forall_mem_cons.mpr ⟨(tb_4 _ (List.mem_of_getElem? (i := 28) rfl)), (List.forall_mem_cons.mpr ⟨(tb_1 _ (List.mem_of_getElem? (i := 5) rfl)), (List.forall_mem_cons.mpr ⟨(tb_4 _ (List.mem_of_getElem? (i := 26) rfl)), (List.forall_mem_cons.mpr ⟨(tb_4 _ (List.mem_of_getElem? (i := 27) rfl)), (fun _ h => absurd h List.not_mem_nil)⟩)⟩)⟩)⟩)
set_option maxRecDepth 20000 in
theorem mw_24 : ∀ w ∈ mm_mw 24, w ∈ lw_tbl := (List.forall_mem_cons.mpr ⟨(tb_4 _ (List.mem_of_getElem? (i := 1) rfl)), (List.forall_mem_cons.mpr ⟨(tb_1 _ (List.mem_of_getElem? (i := 5) rfl)), (List.forall_mem_cons.mpr ⟨(tb_3 _ (List.mem_of_getElem? (i := 239) rfl)), (List.forall_mem_cons.mpr ⟨(tb_4 _ (List.mem_of_getElem? (i := 0) rfl)), (fun _ h => absurd h List.not_mem_nil)⟩)⟩)⟩)⟩)
set_option maxRecDepth 20000 in
theorem mw_25 : ∀ w ∈ mm_mw 25, w ∈ lw_tbl := (List.forall_mem_cons.mpr ⟨(tb_4 _ (List.mem_of_getElem? (i := 4) rfl)), (List.forall_mem_cons.mpr ⟨(tb_1 _ (List.mem_of_getElem? (i := 5) rfl)), (List.forall_mem_cons.mpr ⟨(tb_4 _ (List.mem_of_getElem? (i := 3) rfl)), (fun _ h => absurd h List.not_mem_nil)⟩)⟩)⟩)
set_option maxRecDepth 20000 in
theorem mw_26 : ∀ w ∈ mm_mw 26, w ∈ lw_tbl := (List.forall_mem_cons.mpr ⟨(tb_4 _ (List.mem_of_getElem? (i := 24) rfl)), (List.forall_mem_cons.mpr ⟨(tb_1 _ (List.mem_of_getElem? (i := 5) rfl)), (List.forall_mem_cons.mpr ⟨(tb_4 _ (List.mem_of_getElem? (i := 22) rfl)), (List.forall_mem_cons.mpr ⟨(tb_4 _ (List.mem_of_getElem? (i := 23) rfl)), (fun _ h => absurd h List.not_mem_nil)⟩)⟩)⟩)⟩)
set_option maxRecDepth 20000 in
theorem mw_27 : ∀ w ∈ mm_mw 27, w ∈ lw_tbl := (List.forall_mem_cons.mpr ⟨(tb_4 _ (List.mem_of_getElem? (i := 194) rfl)), (List.forall_mem_cons.mpr ⟨(tb_1 _ (List.mem_of_getElem? (i := 5) rfl)), (List.forall_mem_cons.mpr ⟨(tb_4 _ (List.mem_of_getElem? (i := 192) rfl)), (List.forall_mem_cons.mpr ⟨(tb_4 _ (List.mem_of_getElem? (i := 193) rfl)), (fun _ h => absurd h List.not_mem_nil)⟩)⟩)⟩)⟩)
set_option maxRecDepth 20000 in
theorem mw_28 : ∀ w ∈ mm_mw 28, w ∈ lw_tbl := (List.forall_mem_cons.mpr ⟨(tb_4 _ (List.mem_of_getElem? (i := 20) rfl)), (List.forall_mem_cons.mpr ⟨(tb_1 _ (List.mem_of_getElem? (i := 5) rfl)), (List.forall_mem_cons.mpr ⟨(tb_4 _ (List.mem_of_getElem? (i := 18) rfl)), (List.forall_mem_cons.mpr ⟨(tb_4 _ (List.mem_of_getElem? (i := 19) rfl)), (fun _ h => absurd h List.not_mem_nil)⟩)⟩)⟩)⟩)
set_option maxRecDepth 20000 in
theorem mw_29 : ∀ w ∈ mm_mw 29, w ∈ lw_tbl := (List.forall_mem_cons.mpr ⟨(tb_2 _ (List.mem_of_getElem? (i := 73) rfl)), (List.forall_mem_cons.mpr ⟨(tb_1 _ (List.mem_of_getElem? (i := 10) rfl)), (List.forall_mem_cons.mpr ⟨(tb_2 _ (List.mem_of_getElem? (i := 72) rfl)), (fun _ h => absurd h List.not_mem_nil)⟩)⟩)⟩)
set_option maxRecDepth 20000 in
theorem mw_30 : ∀ w ∈ mm_mw 30, w ∈ lw_tbl := (List.forall_mem_cons.mpr ⟨(tb_3 _ (List.mem_of_getElem? (i := 30) rfl)), (List.forall_mem_cons.mpr ⟨(tb_1 _ (List.mem_of_getElem? (i := 10) rfl)), (List.forall_mem_cons.mpr ⟨(tb_3 _ (List.mem_of_getElem? (i := 28) rfl)), (List.forall_mem_cons.mpr ⟨(tb_3 _ (List.mem_of_getElem? (i := 29) rfl)), (fun _ h => absurd h List.not_mem_nil)⟩)⟩)⟩)⟩)
set_option maxRecDepth 20000 in
theorem mw_31 : ∀ w ∈ mm_mw 31, w ∈ lw_tbl := (List.forall_mem_cons.mpr ⟨(tb_3 _ (List.mem_of_getElem? (i := 34) rfl)), (List.forall_mem_cons.mpr ⟨(tb_1 _ (List.mem_of_getElem? (i := 10) rfl)), (List.forall_mem_cons.mpr ⟨(tb_3 _ (List.mem_of_getElem? (i := 32) rfl)), (List.forall_mem_cons.mpr ⟨(tb_3 _ (List.mem_of_getElem? (i := 33) rfl)), (fun _ h => absurd h List.not_mem_nil)⟩)⟩)⟩)⟩)
set_option maxRecDepth 20000 in
theorem mw_32 : ∀ w ∈ mm_mw 32, w ∈ lw_tbl := (List.forall_mem_cons.mpr ⟨(tb_3 _ (List.mem_of_getElem? (i := 43) rfl)), (List.forall_mem_cons.mpr ⟨(tb_1 _ (List.mem_of_getElem? (i := 10) rfl)), (List.forall_mem_cons.mpr ⟨(tb_3 _ (List.mem_of_getElem? (i := 41) rfl)), (List.forall_mem_cons.mpr ⟨(tb_3 _ (List.mem_of_getElem? (i := 42) rfl)), (fun _ h => absurd h List.not_mem_nil)⟩)⟩)⟩)⟩)
set_option maxRecDepth 20000 in
theorem mw_33 : ∀ w ∈ mm_mw 33, w ∈ lw_tbl := (List.forall_mem_cons.mpr ⟨(tb_3 _ (List.mem_of_getElem? (i := 58) rfl)), (List.forall_mem_cons.mpr ⟨(tb_1 _ (List.mem_of_getElem? (i := 10) rfl)), (List.forall_mem_cons.mpr ⟨(tb_3 _ (List.mem_of_getElem? (i := 56) rfl)), (List.forall_mem_cons.mpr ⟨(tb_3 _ (List.mem_of_getElem? (i := 57) rfl)), (fun _ h => absurd h List.not_mem_nil)⟩)⟩)⟩)⟩)
set_option maxRecDepth 20000 in
theorem mw_34 : ∀ w ∈ mm_mw 34, w ∈ lw_tbl := (List.forall_mem_cons.mpr ⟨(tb_3 _ (List.mem_of_getElem? (i := 62) rfl)), (List.forall_mem_cons.mpr ⟨(tb_1 _ (List.mem_of_getElem? (i := 10) rfl)), (List.forall_mem_cons.mpr ⟨(tb_3 _ (List.mem_of_getElem? (i := 60) rfl)), (List.forall_mem_cons.mpr ⟨(tb_3 _ (List.mem_of_getElem? (i := 61) rfl)), (fun _ h => absurd h List.not_mem_nil)⟩)⟩)⟩)⟩)
set_option maxRecDepth 20000 in
theorem mw_35 : ∀ w ∈ mm_mw 35, w ∈ lw_tbl := (List.forall_mem_cons.mpr ⟨(tb_3 _ (List.mem_of_getElem? (i := 76) rfl)), (List.forall_mem_cons.mpr ⟨(tb_1 _ (List.mem_of_getElem? (i := 10) rfl)), (List.forall_mem_cons.mpr ⟨(tb_3 _ (List.mem_of_getElem? (i := 75) rfl)), (fun _ h => absurd h List.not_mem_nil)⟩)⟩)⟩)
set_option maxRecDepth 20000 in
theorem mw_36 : ∀ w ∈ mm_mw 36, w ∈ lw_tbl := (List.forall_mem_cons.mpr ⟨(tb_3 _ (List.mem_of_getElem? (i := 99) rfl)), (List.forall_mem_cons.mpr ⟨(tb_1 _ (List.mem_of_getElem? (i := 10) rfl)), (List.forall_mem_cons.mpr ⟨(tb_3 _ (List.mem_of_getElem? (i := 97) rfl)), (List.forall_mem_cons.mpr ⟨(tb_3 _ (List.mem_of_getElem? (i := 98) rfl)), (fun _ h => absurd h List.not_mem_nil)⟩)⟩)⟩)⟩)
set_option maxRecDepth 20000 in
theorem mw_37 : ∀ w ∈ mm_mw 37, w ∈ lw_tbl := (List.forall_mem_cons.mpr ⟨(tb_3 _ (List.mem_of_getElem? (i := 84) rfl)), (List.forall_mem_cons.mpr ⟨(tb_1 _ (List.mem_of_getElem? (i := 10) rfl)), (List.forall_mem_cons.mpr ⟨(tb_3 _ (List.mem_of_getElem? (i := 82) rfl)), (List.forall_mem_cons.mpr ⟨(tb_3 _ (List.mem_of_getElem? (i := 83) rfl)), (fun _ h => absurd h List.not_mem_nil)⟩)⟩)⟩)⟩)
set_option maxRecDepth 20000 in
theorem mw_38 : ∀ w ∈ mm_mw 38, w ∈ lw_tbl := (List.forall_mem_cons.mpr ⟨(tb_3 _ (List.mem_of_getElem? (i := 104) rfl)), (List.forall_mem_cons.mpr ⟨(tb_1 _ (List.mem_of_getElem? (i := 10) rfl)), (List.forall_mem_cons.mpr ⟨(tb_3 _ (List.mem_of_getElem? (i := 102) rfl)), (List.forall_mem_cons.mpr ⟨(tb_3 _ (List.mem_of_getElem? (i := 103) rfl)), (fun _ h => absurd h List.not_mem_nil)⟩)⟩)⟩)⟩)
set_option maxRecDepth 20000 in
theorem mw_39 : ∀ w ∈ mm_mw 39, w ∈ lw_tbl := (List.forall_mem_cons.mpr ⟨(tb_3 _ (List.mem_of_getElem? (i := 88) rfl)), (List.forall_mem_cons.mpr ⟨(tb_1 _ (List.mem_of_getElem? (i := 10) rfl)), (List.forall_mem_cons.mpr ⟨(tb_3 _ (List.mem_of_getElem? (i := 86) rfl)), (List.forall_mem_cons.mpr ⟨(tb_3 _ (List.mem_of_getElem? (i := 87) rfl)), (fun _ h => absurd h List.not_mem_nil)⟩)⟩)⟩)⟩)
set_option maxRecDepth 20000 in
theorem mw_40 : ∀ w ∈ mm_mw 40, w ∈ lw_tbl := (List.forall_mem_cons.mpr ⟨(tb_3 _ (List.mem_of_getElem? (i := 95) rfl)), (List.forall_mem_cons.mpr ⟨(tb_1 _ (List.mem_of_getElem? (i := 10) rfl)), (List.forall_mem_cons.mpr ⟨(tb_3 _ (List.mem_of_getElem? (i := 93) rfl)), (List.forall_mem_cons.mpr ⟨(tb_3 _ (List.mem_of_getElem? (i := 94) rfl)), (fun _ h => absurd h List.not_mem_nil)⟩)⟩)⟩)⟩)
set_option maxRecDepth 20000 in
theorem mw_41 : ∀ w ∈ mm_mw 41, w ∈ lw_tbl := (List.forall_mem_cons.mpr ⟨(tb_3 _ (List.mem_of_getElem? (i := 113) rfl)), (List.forall_mem_cons.mpr ⟨(tb_1 _ (List.mem_of_getElem? (i := 10) rfl)), (List.forall_mem_cons.mpr ⟨(tb_3 _ (List.mem_of_getElem? (i := 111) rfl)), (List.forall_mem_cons.mpr ⟨(tb_3 _ (List.mem_of_getElem? (i := 112) rfl)), (fun _ h => absurd h List.not_mem_nil)⟩)⟩)⟩)⟩)
set_option maxRecDepth 20000 in
theorem mw_42 : ∀ w ∈ mm_mw 42, w ∈ lw_tbl := (List.forall_mem_cons.mpr ⟨(tb_3 _ (List.mem_of_getElem? (i := 125) rfl)), (List.forall_mem_cons.mpr ⟨(tb_1 _ (List.mem_of_getElem? (i := 10) rfl)), (List.forall_mem_cons.mpr ⟨(tb_3 _ (List.mem_of_getElem? (i := 123) rfl)), (List.forall_mem_cons.mpr ⟨(tb_3 _ (List.mem_of_getElem? (i := 124) rfl)), (fun _ h => absurd h List.not_mem_nil)⟩)⟩)⟩)⟩)
set_option maxRecDepth 20000 in
theorem mw_43 : ∀ w ∈ mm_mw 43, w ∈ lw_tbl := (List.forall_mem_cons.mpr ⟨(tb_3 _ (List.mem_of_getElem? (i := 117) rfl)), (List.forall_mem_cons.mpr ⟨(tb_1 _ (List.mem_of_getElem? (i := 10) rfl)), (List.forall_mem_cons.mpr ⟨(tb_3 _ (List.mem_of_getElem? (i := 115) rfl)), (List.forall_mem_cons.mpr ⟨(tb_3 _ (List.mem_of_getElem? (i := 116) rfl)), (fun _ h => absurd h List.not_mem_nil)⟩)⟩)⟩)⟩)
set_option maxRecDepth 20000 in
theorem mw_44 : ∀ w ∈ mm_mw 44, w ∈ lw_tbl := (List.forall_mem_cons.mpr ⟨(tb_3 _ (List.mem_of_getElem? (i := 216) rfl)), (List.forall_mem_cons.mpr ⟨(tb_1 _ (List.mem_of_getElem? (i := 10) rfl)), (List.forall_mem_cons.mpr ⟨(tb_3 _ (List.mem_of_getElem? (i := 214) rfl)), (List.forall_mem_cons.mpr ⟨(tb_3 _ (List.mem_of_getElem? (i := 215) rfl)), (fun _ h => absurd h List.not_mem_nil)⟩)⟩)⟩)⟩)
set_option maxRecDepth 20000 in
theorem mw_45 : ∀ w ∈ mm_mw 45, w ∈ lw_tbl := (List.forall_mem_cons.mpr ⟨(tb_3 _ (List.mem_of_getElem? (i := 121) rfl)), (List.forall_mem_cons.mpr ⟨(tb_1 _ (List.mem_of_getElem? (i := 10) rfl)), (List.forall_mem_cons.mpr ⟨(tb_3 _ (List.mem_of_getElem? (i := 119) rfl)), (List.forall_mem_cons.mpr ⟨(tb_3 _ (List.mem_of_getElem? (i := 120) rfl)), (fun _ h => absurd h List.not_mem_nil)⟩)⟩)⟩)⟩)
set_option maxRecDepth 20000 in
theorem mw_46 : ∀ w ∈ mm_mw 46, w ∈ lw_tbl := (List.forall_mem_cons.mpr ⟨(tb_3 _ (List.mem_of_getElem? (i := 170) rfl)), (List.forall_mem_cons.mpr ⟨(tb_1 _ (List.mem_of_getElem? (i := 10) rfl)), (List.forall_mem_cons.mpr ⟨(tb_3 _ (List.mem_of_getElem? (i := 168) rfl)), (List.forall_mem_cons.mpr ⟨(tb_3 _ (List.mem_of_getElem? (i := 169) rfl)), (fun _ h => absurd h List.not_mem_nil)⟩)⟩)⟩)⟩)
set_option maxRecDepth 20000 in
theorem mw_47 : ∀ w ∈ mm_mw 47, w ∈ lw_tbl := (List.forall_mem_cons.mpr ⟨(tb_3 _ (List.mem_of_getElem? (i := 108) rfl)), (List.forall_mem_cons.mpr ⟨(tb_1 _ (List.mem_of_getElem? (i := 10) rfl)), (List.forall_mem_cons.mpr ⟨(tb_3 _ (List.mem_of_getElem? (i := 106) rfl)), (List.forall_mem_cons.mpr ⟨(tb_3 _ (List.mem_of_getElem? (i := 107) rfl)), (fun _ h => absurd h List.not_mem_nil)⟩)⟩)⟩)⟩)
set_option maxRecDepth 20000 in
theorem mw_48 : ∀ w ∈ mm_mw 48, w ∈ lw_tbl := (List.forall_mem_cons.mpr ⟨(tb_4 _ (List.mem_of_getElem? (i := 238) rfl)), (List.forall_mem_cons.mpr ⟨(tb_1 _ (List.mem_of_getElem? (i := 10) rfl)), (List.forall_mem_cons.mpr ⟨(tb_4 _ (List.mem_of_getElem? (i := 236) rfl)), (List.forall_mem_cons.mpr ⟨(tb_4 _ (List.mem_of_getElem? (i := 237) rfl)), (fun _ h => absurd h List.not_mem_nil)⟩)⟩)⟩)⟩)
set_option maxRecDepth 20000 in
theorem mw_49 : ∀ w ∈ mm_mw 49, w ∈ lw_tbl := (List.forall_mem_cons.mpr ⟨(tb_3 _ (List.mem_of_getElem? (i := 166) rfl)), (List.forall_mem_cons.mpr ⟨(tb_1 _ (List.mem_of_getElem? (i := 10) rfl)), (List.forall_mem_cons.mpr ⟨(tb_3 _ (List.mem_of_getElem? (i := 164) rfl)), (List.forall_mem_cons.mpr ⟨(tb_3 _ (List.mem_of_getElem? (i := 165) rfl)), (fun _ h => absurd h List.not_mem_nil)⟩)⟩)⟩)⟩)
set_option maxRecDepth 20000 in
theorem mw_50 : ∀ w ∈ mm_mw 50, w ∈ lw_tbl := (List.forall_mem_cons.mpr ⟨(tb_4 _ (List.mem_of_getElem? (i := 141) rfl)), (List.forall_mem_cons.mpr ⟨(tb_1 _ (List.mem_of_getElem? (i := 10) rfl)), (List.forall_mem_cons.mpr ⟨(tb_4 _ (List.mem_of_getElem? (i := 139) rfl)), (List.forall_mem_cons.mpr ⟨(tb_4 _ (List.mem_of_getElem? (i := 140) rfl)), (fun _ h => absurd h List.not_mem_nil)⟩)⟩)⟩)⟩)
set_option maxRecDepth 20000 in
theorem mw_51 : ∀ w ∈ mm_mw 51, w ∈ lw_tbl := (List.forall_mem_cons.mpr ⟨(tb_4 _ (List.mem_of_getElem? (i := 166) rfl)), (List.forall_mem_cons.mpr ⟨(tb_1 _ (List.mem_of_getElem? (i := 10) rfl)), (List.forall_mem_cons.mpr ⟨(tb_4 _ (List.mem_of_getElem? (i := 164) rfl)), (List.forall_mem_cons.mpr ⟨(tb_4 _ (List.mem_of_getElem? (i := 165) rfl)), (fun _ h => absurd h List.not_mem_nil)⟩)⟩)⟩)⟩)
set_option maxRecDepth 20000 in
theorem mw_52 : ∀ w ∈ mm_mw 52, w ∈ lw_tbl := (List.forall_mem_cons.mpr ⟨(tb_3 _ (List.mem_of_getElem? (i := 66) rfl)), (List.forall_mem_cons.mpr ⟨(tb_1 _ (List.mem_of_getElem? (i := 10) rfl)), (List.forall_mem_cons.mpr ⟨(tb_3 _ (List.mem_of_getElem? (i := 64) rfl)), (List.forall_mem_cons.mpr ⟨(tb_3 _ (List.mem_of_getElem? (i := 65) rfl)), (fun _ h => absurd h List.not_mem_nil)⟩)⟩)⟩)⟩)
set_option maxRecDepth 20000 in
theorem mw_53 : ∀ w ∈ mm_mw 53, w ∈ lw_tbl := (List.forall_mem_cons.mpr ⟨(tb_3 _ (List.mem_of_getElem? (i := 73) rfl)), (List.forall_mem_cons.mpr ⟨(tb_1 _ (List.mem_of_getElem? (i := 10) rfl)), (List.forall_mem_cons.mpr ⟨(tb_3 _ (List.mem_of_getElem? (i := 71) rfl)), (List.forall_mem_cons.mpr ⟨(tb_3 _ (List.mem_of_getElem? (i := 72) rfl)), (fun _ h => absurd h List.not_mem_nil)⟩)⟩)⟩)⟩)
set_option maxRecDepth 20000 in
theorem mw_54 : ∀ w ∈ mm_mw 54, w ∈ lw_tbl := (List.forall_mem_cons.mpr ⟨(tb_3 _ (List.mem_of_getElem? (i := 69) rfl)), (List.forall_mem_cons.mpr ⟨(tb_1 _ (List.mem_of_getElem? (i := 10) rfl)), (List.forall_mem_cons.mpr ⟨(tb_3 _ (List.mem_of_getElem? (i := 68) rfl)), (fun _ h => absurd h List.not_mem_nil)⟩)⟩)⟩)
set_option maxRecDepth 20000 in
theorem mw_55 : ∀ w ∈ mm_mw 55, w ∈ lw_tbl := (List.forall_mem_cons.mpr ⟨(tb_2 _ (List.mem_of_getElem? (i := 142) rfl)), (List.forall_mem_cons.mpr ⟨(tb_1 _ (List.mem_of_getElem? (i := 11) rfl)), (List.forall_mem_cons.mpr ⟨(tb_2 _ (List.mem_of_getElem? (i := 141) rfl)), (fun _ h => absurd h List.not_mem_nil)⟩)⟩)⟩)
set_option maxRecDepth 20000 in
theorem mw_56 : ∀ w ∈ mm_mw 56, w ∈ lw_tbl := (List.forall_mem_cons.mpr ⟨(tb_3 _ (List.mem_of_getElem? (i := 133) rfl)), (List.forall_mem_cons.mpr ⟨(tb_1 _ (List.mem_of_getElem? (i := 11) rfl)), (List.forall_mem_cons.mpr ⟨(tb_3 _ (List.mem_of_getElem? (i := 131) rfl)), (List.forall_mem_cons.mpr ⟨(tb_3 _ (List.mem_of_getElem? (i := 132) rfl)), (fun _ h => absurd h List.not_mem_nil)⟩)⟩)⟩)⟩)
set_option maxRecDepth 20000 in
theorem mw_57 : ∀ w ∈ mm_mw 57, w ∈ lw_tbl := (List.forall_mem_cons.mpr ⟨(tb_4 _ (List.mem_of_getElem? (i := 37) rfl)), (List.forall_mem_cons.mpr ⟨(tb_1 _ (List.mem_of_getElem? (i := 11) rfl)), (List.forall_mem_cons.mpr ⟨(tb_4 _ (List.mem_of_getElem? (i := 35) rfl)), (List.forall_mem_cons.mpr ⟨(tb_4 _ (List.mem_of_getElem? (i := 36) rfl)), (fun _ h => absurd h List.not_mem_nil)⟩)⟩)⟩)⟩)
set_option maxRecDepth 20000 in
theorem mw_58 : ∀ w ∈ mm_mw 58, w ∈ lw_tbl := (List.forall_mem_cons.mpr ⟨(tb_4 _ (List.mem_of_getElem? (i := 42) rfl)), (List.forall_mem_cons.mpr ⟨(tb_1 _ (List.mem_of_getElem? (i := 11) rfl)), (List.forall_mem_cons.mpr ⟨(tb_4 _ (List.mem_of_getElem? (i := 40) rfl)), (List.forall_mem_cons.mpr ⟨(tb_4 _ (List.mem_of_getElem? (i := 41) rfl)), (fun _ h => absurd h List.not_mem_nil)⟩)⟩)⟩)⟩)
set_option maxRecDepth 20000 in
theorem mw_59 : ∀ w ∈ mm_mw 59, w ∈ lw_tbl := (List.forall_mem_cons.mpr ⟨(tb_4 _ (List.mem_of_getElem? (i := 46) rfl)), (List.forall_mem_cons.mpr ⟨(tb_1 _ (List.mem_of_getElem? (i := 11) rfl)), (List.forall_mem_cons.mpr ⟨(tb_4 _ (List.mem_of_getElem? (i := 44) rfl)), (List.forall_mem_cons.mpr ⟨(tb_4 _ (List.mem_of_getElem? (i := 45) rfl)), (fun _ h => absurd h List.not_mem_nil)⟩)⟩)⟩)⟩)
set_option maxRecDepth 20000 in
theorem mw_60 : ∀ w ∈ mm_mw 60, w ∈ lw_tbl := (List.forall_mem_cons.mpr ⟨(tb_4 _ (List.mem_of_getElem? (i := 50) rfl)), (List.forall_mem_cons.mpr ⟨(tb_1 _ (List.mem_of_getElem? (i := 11) rfl)), (List.forall_mem_cons.mpr ⟨(tb_4 _ (List.mem_of_getElem? (i := 48) rfl)), (List.forall_mem_cons.mpr ⟨(tb_4 _ (List.mem_of_getElem? (i := 49) rfl)), (fun _ h => absurd h List.not_mem_nil)⟩)⟩)⟩)⟩)
set_option maxRecDepth 20000 in
theorem mw_61 : ∀ w ∈ mm_mw 61, w ∈ lw_tbl := (List.forall_mem_cons.mpr ⟨(tb_4 _ (List.mem_of_getElem? (i := 62) rfl)), (List.forall_mem_cons.mpr ⟨(tb_1 _ (List.mem_of_getElem? (i := 11) rfl)), (List.forall_mem_cons.mpr ⟨(tb_4 _ (List.mem_of_getElem? (i := 60) rfl)), (List.forall_mem_cons.mpr ⟨(tb_4 _ (List.mem_of_getElem? (i := 61) rfl)), (fun _ h => absurd h List.not_mem_nil)⟩)⟩)⟩)⟩)
set_option maxRecDepth 20000 in
theorem mw_62 : ∀ w ∈ mm_mw 62, w ∈ lw_tbl := (List.forall_mem_cons.mpr ⟨(tb_4 _ (List.mem_of_getElem? (i := 67) rfl)), (List.forall_mem_cons.mpr ⟨(tb_1 _ (List.mem_of_getElem? (i := 11) rfl)), (List.forall_mem_cons.mpr ⟨(tb_4 _ (List.mem_of_getElem? (i := 65) rfl)), (List.forall_mem_cons.mpr ⟨(tb_4 _ (List.mem_of_getElem? (i := 66) rfl)), (fun _ h => absurd h List.not_mem_nil)⟩)⟩)⟩)⟩)
set_option maxRecDepth 20000 in
theorem mw_63 : ∀ w ∈ mm_mw 63, w ∈ lw_tbl := (List.forall_mem_cons.mpr ⟨(tb_4 _ (List.mem_of_getElem? (i := 56) rfl)), (List.forall_mem_cons.mpr ⟨(tb_1 _ (List.mem_of_getElem? (i := 11) rfl)), (List.forall_mem_cons.mpr ⟨(tb_4 _ (List.mem_of_getElem? (i := 54) rfl)), (List.forall_mem_cons.mpr ⟨(tb_4 _ (List.mem_of_getElem? (i := 55) rfl)), (fun _ h => absurd h List.not_mem_nil)⟩)⟩)⟩)⟩)
set_option maxRecDepth 20000 in
theorem mw_64 : ∀ w ∈ mm_mw 64, w ∈ lw_tbl := (List.forall_mem_cons.mpr ⟨(tb_4 _ (List.mem_of_getElem? (i := 75) rfl)), (List.forall_mem_cons.mpr ⟨(tb_1 _ (List.mem_of_getElem? (i := 11) rfl)), (List.forall_mem_cons.mpr ⟨(tb_4 _ (List.mem_of_getElem? (i := 73) rfl)), (List.forall_mem_cons.mpr ⟨(tb_4 _ (List.mem_of_getElem? (i := 74) rfl)), (fun _ h => absurd h List.not_mem_nil)⟩)⟩)⟩)⟩)
set_option maxRecDepth 20000 in
theorem mw_65 : ∀ w ∈ mm_mw 65, w ∈ lw_tbl := (List.forall_mem_cons.mpr ⟨(tb_4 _ (List.mem_of_getElem? (i := 206) rfl)), (List.forall_mem_cons.mpr ⟨(tb_1 _ (List.mem_of_getElem? (i := 11) rfl)), (List.forall_mem_cons.mpr ⟨(tb_4 _ (List.mem_of_getElem? (i := 204) rfl)), (List.forall_mem_cons.mpr ⟨(tb_4 _ (List.mem_of_getElem? (i := 205) rfl)), (fun _ h => absurd h List.not_mem_nil)⟩)⟩)⟩)⟩)
set_option maxRecDepth 20000 in
theorem mw_66 : ∀ w ∈ mm_mw 66, w ∈ lw_tbl := (List.forall_mem_cons.mpr ⟨(tb_4 _ (List.mem_of_getElem? (i := 220) rfl)), (List.forall_mem_cons.mpr ⟨(tb_1 _ (List.mem_of_getElem? (i := 11) rfl)), (List.forall_mem_cons.mpr ⟨(tb_4 _ (List.mem_of_getElem? (i := 218) rfl)), (List.forall_mem_cons.mpr ⟨(tb_4 _ (List.mem_of_getElem? (i := 219) rfl)), (fun _ h => absurd h List.not_mem_nil)⟩)⟩)⟩)⟩)
set_option maxRecDepth 20000 in
theorem mw_67 : ∀ w ∈ mm_mw 67, w ∈ lw_tbl := (List.forall_mem_cons.mpr ⟨(tb_4 _ (List.mem_of_getElem? (i := 211) rfl)), (List.forall_mem_cons.mpr ⟨(tb_1 _ (List.mem_of_getElem? (i := 11) rfl)), (List.forall_mem_cons.mpr ⟨(tb_4 _ (List.mem_of_getElem? (i := 209) rfl)), (List.forall_mem_cons.mpr ⟨(tb_4 _ (List.mem_of_getElem? (i := 210) rfl)), (fun _ h => absurd h List.not_mem_nil)⟩)⟩)⟩)⟩)
set_option maxRecDepth 20000 in
theorem mw_68 : ∀ w ∈ mm_mw 68, w ∈ lw_tbl := (List.forall_mem_cons.mpr ⟨(tb_2 _ (List.mem_of_getElem? (i := 35) rfl)), (List.forall_mem_cons.mpr ⟨(tb_1 _ (List.mem_of_getElem? (i := 9) rfl)), (List.forall_mem_cons.mpr ⟨(tb_2 _ (List.mem_of_getElem? (i := 34) rfl)), (fun _ h => absurd h List.not_mem_nil)⟩)⟩)⟩)
set_option maxRecDepth 20000 in
theorem mw_69 : ∀ w ∈ mm_mw 69, w ∈ lw_tbl := (List.forall_mem_cons.mpr ⟨(tb_5 _ (List.mem_of_getElem? (i := 65) rfl)), (List.forall_mem_cons.mpr ⟨(tb_1 _ (List.mem_of_getElem? (i := 9) rfl)), (List.forall_mem_cons.mpr ⟨(tb_5 _ (List.mem_of_getElem? (i := 63) rfl)), (List.forall_mem_cons.mpr ⟨(tb_5 _ (List.mem_of_getElem? (i := 64) rfl)), (fun _ h => absurd h List.not_mem_nil)⟩)⟩)⟩)⟩)
set_option maxRecDepth 20000 in
theorem mw_70 : ∀ w ∈ mm_mw 70, w ∈ lw_tbl := (List.forall_mem_cons.mpr ⟨(tb_5 _ (List.mem_of_getElem? (i := 72) rfl)), (List.forall_mem_cons.mpr ⟨(tb_1 _ (List.mem_of_getElem? (i := 9) rfl)), (List.forall_mem_cons.mpr ⟨(tb_5 _ (List.mem_of_getElem? (i := 70) rfl)), (List.forall_mem_cons.mpr ⟨(tb_5 _ (List.mem_of_getElem? (i := 71) rfl)), (fun _ h => absurd h List.not_mem_nil)⟩)⟩)⟩)⟩)
set_option maxRecDepth 20000 in
theorem mw_71 : ∀ w ∈ mm_mw 71, w ∈ lw_tbl := (List.forall_mem_cons.mpr ⟨(tb_5 _ (List.mem_of_getElem? (i := 81) rfl)), (List.forall_mem_cons.mpr ⟨(tb_1 _ (List.mem_of_getElem? (i := 9) rfl)), (List.forall_mem_cons.mpr ⟨(tb_5 _ (List.mem_of_getElem? (i := 79) rfl)), (List.forall_mem_cons.mpr ⟨(tb_5 _ (List.mem_of_getElem? (i := 80) rfl)), (fun _ h => absurd h List.not_mem_nil)⟩)⟩)⟩)⟩)
set_option maxRecDepth 20000 in
theorem mw_72 : ∀ w ∈ mm_mw 72, w ∈ lw_tbl := (List.forall_mem_cons.mpr ⟨(tb_5 _ (List.mem_of_getElem? (i := 85) rfl)), (List.forall_mem_cons.mpr ⟨(tb_1 _ (List.mem_of_getElem? (i := 9) rfl)), (List.forall_mem_cons.mpr ⟨(tb_5 _ (List.mem_of_getElem? (i := 83) rfl)), (List.forall_mem_cons.mpr ⟨(tb_5 _ (List.mem_of_getElem? (i := 84) rfl)), (fun _ h => absurd h List.not_mem_nil)⟩)⟩)⟩)⟩)
set_option maxRecDepth 20000 in
theorem mw_73 : ∀ w ∈ mm_mw 73, w ∈ lw_tbl := (List.forall_mem_cons.mpr ⟨(tb_5 _ (List.mem_of_getElem? (i := 90) rfl)), (List.forall_mem_cons.mpr ⟨(tb_1 _ (List.mem_of_getElem? (i := 9) rfl)), (List.forall_mem_cons.mpr ⟨(tb_5 _ (List.mem_of_getElem? (i := 88) rfl)), (List.forall_mem_cons.mpr ⟨(tb_5 _ (List.mem_of_getElem? (i := 89) rfl)), (fun _ h => absurd h List.not_mem_nil)⟩)⟩)⟩)⟩)
set_option maxRecDepth 20000 in
theorem mw_74 : ∀ w ∈ mm_mw 74, w ∈ lw_tbl := (List.forall_mem_cons.mpr ⟨(tb_5 _ (List.mem_of_getElem? (i := 94) rfl)), (List.forall_mem_cons.mpr ⟨(tb_1 _ (List.mem_of_getElem? (i := 9) rfl)), (List.forall_mem_cons.mpr ⟨(tb_5 _ (List.mem_of_getElem? (i := 92) rfl)), (List.forall_mem_cons.mpr ⟨(tb_5 _ (List.mem_of_getElem? (i := 93) rfl)), (fun _ h => absurd h List.not_mem_nil)⟩)⟩)⟩)⟩)
set_option maxRecDepth 20000 in
theorem mw_75 : ∀ w ∈ mm_mw 75, w ∈ lw_tbl := (List.forall_mem_cons.mpr ⟨(tb_5 _ (List.mem_of_getElem? (i := 98) rfl)), (List.forall_mem_cons.mpr ⟨(tb_1 _ (List.mem_of_getElem? (i := 9) rfl)), (List.forall_mem_cons.mpr ⟨(tb_5 _ (List.mem_of_getElem? (i := 96) rfl)), (List.forall_mem_cons.mpr ⟨(tb_5 _ (List.mem_of_getElem? (i := 97) rfl)), (fun _ h => absurd h List.not_mem_nil)⟩)⟩)⟩)⟩)
set_option maxRecDepth 20000 in
theorem mw_76 : ∀ w ∈ mm_mw 76, w ∈ lw_tbl := (List.forall_mem_cons.mpr ⟨(tb_1 _ (List.mem_of_getElem? (i := 33) rfl)), (List.forall_mem_cons.mpr ⟨(tb_1 _ (List.mem_of_getElem? (i := 2) rfl)), (List.forall_mem_cons.mpr ⟨(tb_1 _ (List.mem_of_getElem? (i := 32) rfl)), (fun _ h => absurd h List.not_mem_nil)⟩)⟩)⟩)
set_option maxRecDepth 20000 in
theorem mw_77 : ∀ w ∈ mm_mw 77, w ∈ lw_tbl := (List.forall_mem_cons.mpr ⟨(tb_2 _ (List.mem_of_getElem? (i := 211) rfl)), (List.forall_mem_cons.mpr ⟨(tb_1 _ (List.mem_of_getElem? (i := 2) rfl)), (List.forall_mem_cons.mpr ⟨(tb_2 _ (List.mem_of_getElem? (i := 209) rfl)), (List.forall_mem_cons.mpr ⟨(tb_2 _ (List.mem_of_getElem? (i := 210) rfl)), (fun _ h => absurd h List.not_mem_nil)⟩)⟩)⟩)⟩)
set_option maxRecDepth 20000 in
theorem mw_78 : ∀ w ∈ mm_mw 78, w ∈ lw_tbl := (List.forall_mem_cons.mpr ⟨(tb_2 _ (List.mem_of_getElem? (i := 219) rfl)), (List.forall_mem_cons.mpr ⟨(tb_1 _ (List.mem_of_getElem? (i := 2) rfl)), (List.forall_mem_cons.mpr ⟨(tb_2 _ (List.mem_of_getElem? (i := 217) rfl)), (List.forall_mem_cons.mpr ⟨(tb_2 _ (List.mem_of_getElem? (i := 218) rfl)), (fun _ h => absurd h List.not_mem_nil)⟩)⟩)⟩)⟩)
set_option maxRecDepth 20000 in
theorem mw_79 : ∀ w ∈ mm_mw 79, w ∈ lw_tbl := (List.forall_mem_cons.mpr ⟨(tb_2 _ (List.mem_of_getElem? (i := 223) rfl)), (List.forall_mem_cons.mpr ⟨(tb_1 _ (List.mem_of_getElem? (i := 2) rfl)), (List.forall_mem_cons.mpr ⟨(tb_2 _ (List.mem_of_getElem? (i := 221) rfl)), (List.forall_mem_cons.mpr ⟨(tb_2 _ (List.mem_of_getElem? (i := 222) rfl)), (fun _ h => absurd h List.not_mem_nil)⟩)⟩)⟩)⟩)
set_option maxRecDepth 20000 in
theorem mw_80 : ∀ w ∈ mm_mw 80, w ∈ lw_tbl := (List.forall_mem_cons.mpr ⟨(tb_2 _ (List.mem_of_getElem? (i := 234) rfl)), (List.forall_mem_cons.mpr ⟨(tb_1 _ (List.mem_of_getElem? (i := 2) rfl)), (List.forall_mem_cons.mpr ⟨(tb_2 _ (List.mem_of_getElem? (i := 232) rfl)), (List.forall_mem_cons.mpr ⟨(tb_2 _ (List.mem_of_getElem? (i := 233) rfl)), (fun _ h => absurd h List.not_mem_nil)⟩)⟩)⟩)⟩)
set_option maxRecDepth 20000 in
theorem mw_81 : ∀ w ∈ mm_mw 81, w ∈ lw_tbl := (List.forall_mem_cons.mpr ⟨(tb_3 _ (List.mem_of_getElem? (i := 10) rfl)), (List.forall_mem_cons.mpr ⟨(tb_1 _ (List.mem_of_getElem? (i := 2) rfl)), (List.forall_mem_cons.mpr ⟨(tb_3 _ (List.mem_of_getElem? (i := 8) rfl)), (List.forall_mem_cons.mpr ⟨(tb_3 _ (List.mem_of_getElem? (i := 9) rfl)), (fun _ h => absurd h List.not_mem_nil)⟩)⟩)⟩)⟩)
set_option maxRecDepth 20000 in
theorem mw_82 : ∀ w ∈ mm_mw 82, w ∈ lw_tbl := (List.forall_mem_cons.mpr ⟨(tb_2 _ (List.mem_of_getElem? (i := 238) rfl)), (List.forall_mem_cons.mpr ⟨(tb_1 _ (List.mem_of_getElem? (i := 2) rfl)), (List.forall_mem_cons.mpr ⟨(tb_2 _ (List.mem_of_getElem? (i := 236) rfl)), (List.forall_mem_cons.mpr ⟨(tb_2 _ (List.mem_of_getElem? (i := 237) rfl)), (fun _ h => absurd h List.not_mem_nil)⟩)⟩)⟩)⟩)
set_option maxRecDepth 20000 in
theorem mw_83 : ∀ w ∈ mm_mw 83, w ∈ lw_tbl := (List.forall_mem_cons.mpr ⟨(tb_3 _ (List.mem_of_getElem? (i := 26) rfl)), (List.forall_mem_cons.mpr ⟨(tb_1 _ (List.mem_of_getElem? (i := 2) rfl)), (List.forall_mem_cons.mpr ⟨(tb_3 _ (List.mem_of_getElem? (i := 24) rfl)), (List.forall_mem_cons.mpr ⟨(tb_3 _ (List.mem_of_getElem? (i := 25) rfl)), (fun _ h => absurd h List.not_mem_nil)⟩)⟩)⟩)⟩)
set_option maxRecDepth 20000 in
theorem mw_84 : ∀ w ∈ mm_mw 84, w ∈ lw_tbl := (List.forall_mem_cons.mpr ⟨(tb_3 _ (List.mem_of_getElem? (i := 47) rfl)), (List.forall_mem_cons.mpr ⟨(tb_1 _ (List.mem_of_getElem? (i := 2) rfl)), (List.forall_mem_cons.mpr ⟨(tb_3 _ (List.mem_of_getElem? (i := 45) rfl)), (List.forall_mem_cons.mpr ⟨(tb_3 _ (List.mem_of_getElem? (i := 46) rfl)), (fun _ h => absurd h List.not_mem_nil)⟩)⟩)⟩)⟩)
set_option maxRecDepth 20000 in
theorem mw_85 : ∀ w ∈ mm_mw 85, w ∈ lw_tbl := (List.forall_mem_cons.mpr ⟨(tb_3 _ (List.mem_of_getElem? (i := 229) rfl)), (List.forall_mem_cons.mpr ⟨(tb_1 _ (List.mem_of_getElem? (i := 2) rfl)), (List.forall_mem_cons.mpr ⟨(tb_3 _ (List.mem_of_getElem? (i := 227) rfl)), (List.forall_mem_cons.mpr ⟨(tb_3 _ (List.mem_of_getElem? (i := 228) rfl)), (fun _ h => absurd h List.not_mem_nil)⟩)⟩)⟩)⟩)
set_option maxRecDepth 20000 in
theorem mw_86 : ∀ w ∈ mm_mw 86, w ∈ lw_tbl := (List.forall_mem_cons.mpr ⟨(tb_3 _ (List.mem_of_getElem? (i := 39) rfl)), (List.forall_mem_cons.mpr ⟨(tb_1 _ (List.mem_of_getElem? (i := 2) rfl)), (List.forall_mem_cons.mpr ⟨(tb_3 _ (List.mem_of_getElem? (i := 37) rfl)), (List.forall_mem_cons.mpr ⟨(tb_3 _ (List.mem_of_getElem? (i := 38) rfl)), (fun _ h => absurd h List.not_mem_nil)⟩)⟩)⟩)⟩)
set_option maxRecDepth 20000 in
theorem mw_87 : ∀ w ∈ mm_mw 87, w ∈ lw_tbl := (List.forall_mem_cons.mpr ⟨(tb_3 _ (List.mem_of_getElem? (i := 237) rfl)), (List.forall_mem_cons.mpr ⟨(tb_1 _ (List.mem_of_getElem? (i := 2) rfl)), (List.forall_mem_cons.mpr ⟨(tb_3 _ (List.mem_of_getElem? (i := 235) rfl)), (List.forall_mem_cons.mpr ⟨(tb_3 _ (List.mem_of_getElem? (i := 236) rfl)), (fun _ h => absurd h List.not_mem_nil)⟩)⟩)⟩)⟩)
set_option maxRecDepth 20000 in
theorem mw_88 : ∀ w ∈ mm_mw 88, w ∈ lw_tbl := (List.forall_mem_cons.mpr ⟨(tb_3 _ (List.mem_of_getElem? (i := 52) rfl)), (List.forall_mem_cons.mpr ⟨(tb_1 _ (List.mem_of_getElem? (i := 2) rfl)), (List.forall_mem_cons.mpr ⟨(tb_3 _ (List.mem_of_getElem? (i := 50) rfl)), (List.forall_mem_cons.mpr ⟨(tb_3 _ (List.mem_of_getElem? (i := 51) rfl)), (fun _ h => absurd h List.not_mem_nil)⟩)⟩)⟩)⟩)
set_option maxRecDepth 20000 in
theorem mw_89 : ∀ w ∈ mm_mw 89, w ∈ lw_tbl := (List.forall_mem_cons.mpr ⟨(tb_3 _ (List.mem_of_getElem? (i := 205) rfl)), (List.forall_mem_cons.mpr ⟨(tb_1 _ (List.mem_of_getElem? (i := 2) rfl)), (List.forall_mem_cons.mpr ⟨(tb_3 _ (List.mem_of_getElem? (i := 203) rfl)), (List.forall_mem_cons.mpr ⟨(tb_3 _ (List.mem_of_getElem? (i := 204) rfl)), (fun _ h => absurd h List.not_mem_nil)⟩)⟩)⟩)⟩)
set_option maxRecDepth 20000 in
theorem mw_90 : ∀ w ∈ mm_mw 90, w ∈ lw_tbl := (List.forall_mem_cons.mpr ⟨(tb_3 _ (List.mem_of_getElem? (i := 129) rfl)), (List.forall_mem_cons.mpr ⟨(tb_1 _ (List.mem_of_getElem? (i := 2) rfl)), (List.forall_mem_cons.mpr ⟨(tb_3 _ (List.mem_of_getElem? (i := 127) rfl)), (List.forall_mem_cons.mpr ⟨(tb_3 _ (List.mem_of_getElem? (i := 128) rfl)), (fun _ h => absurd h List.not_mem_nil)⟩)⟩)⟩)⟩)
set_option maxRecDepth 20000 in
theorem mw_91 : ∀ w ∈ mm_mw 91, w ∈ lw_tbl := (List.forall_mem_cons.mpr ⟨(tb_2 _ (List.mem_of_getElem? (i := 227) rfl)), (List.forall_mem_cons.mpr ⟨(tb_1 _ (List.mem_of_getElem? (i := 2) rfl)), (List.forall_mem_cons.mpr ⟨(tb_2 _ (List.mem_of_getElem? (i := 225) rfl)), (List.forall_mem_cons.mpr ⟨(tb_2 _ (List.mem_of_getElem? (i := 226) rfl)), (fun _ h => absurd h List.not_mem_nil)⟩)⟩)⟩)⟩)
set_option maxRecDepth 20000 in
theorem mw_92 : ∀ w ∈ mm_mw 92, w ∈ lw_tbl := (List.forall_mem_cons.mpr ⟨(tb_3 _ (List.mem_of_getElem? (i := 16) rfl)), (List.forall_mem_cons.mpr ⟨(tb_1 _ (List.mem_of_getElem? (i := 2) rfl)), (List.forall_mem_cons.mpr ⟨(tb_3 _ (List.mem_of_getElem? (i := 15) rfl)), (fun _ h => absurd h List.not_mem_nil)⟩)⟩)⟩)
set_option maxRecDepth 20000 in
theorem mw_93 : ∀ w ∈ mm_mw 93, w ∈ lw_tbl := (List.forall_mem_cons.mpr ⟨(tb_2 _ (List.mem_of_getElem? (i := 230) rfl)), (List.forall_mem_cons.mpr ⟨(tb_1 _ (List.mem_of_getElem? (i := 2) rfl)), (List.forall_mem_cons.mpr ⟨(tb_2 _ (List.mem_of_getElem? (i := 229) rfl)), (fun _ h => absurd h List.not_mem_nil)⟩)⟩)⟩)
set_option maxRecDepth 20000 in
theorem mw_94 : ∀ w ∈ mm_mw 94, w ∈ lw_tbl := (List.forall_mem_cons.mpr ⟨(tb_3 _ (List.mem_of_getElem? (i := 6) rfl)), (List.forall_mem_cons.mpr ⟨(tb_1 _ (List.mem_of_getElem? (i := 2) rfl)), (List.forall_mem_cons.mpr ⟨(tb_3 _ (List.mem_of_getElem? (i := 5) rfl)), (fun _ h => absurd h List.not_mem_nil)⟩)⟩)⟩)
set_option maxRecDepth 20000 in
theorem mw_95 : ∀ w ∈ mm_mw 95, w ∈ lw_tbl := (List.forall_mem_cons.mpr ⟨(tb_3 _ (List.mem_of_getElem? (i := 19) rfl)), (List.forall_mem_cons.mpr ⟨(tb_1 _ (List.mem_of_getElem? (i := 2) rfl)), (List.forall_mem_cons.mpr ⟨(tb_3 _ (List.mem_of_getElem? (i := 18) rfl)), (fun _ h => absurd h List.not_mem_nil)⟩)⟩)⟩)
set_option maxRecDepth 20000 in
theorem mw_96 : ∀ w ∈ mm_mw 96, w ∈ lw_tbl := (List.forall_mem_cons.mpr ⟨(tb_3 _ (List.mem_of_getElem? (i := 1) rfl)), (List.forall_mem_cons.mpr ⟨(tb_1 _ (List.mem_of_getElem? (i := 2) rfl)), (List.forall_mem_cons.mpr ⟨(tb_3 _ (List.mem_of_getElem? (i := 0) rfl)), (fun _ h => absurd h List.not_mem_nil)⟩)⟩)⟩)
set_option maxRecDepth 20000 in
theorem mw_97 : ∀ w ∈ mm_mw 97, w ∈ lw_tbl := (List.forall_mem_cons.mpr ⟨(tb_1 _ (List.mem_of_getElem? (i := 180) rfl)), (List.forall_mem_cons.mpr ⟨(tb_1 _ (List.mem_of_getElem? (i := 6) rfl)), (List.forall_mem_cons.mpr ⟨(tb_1 _ (List.mem_of_getElem? (i := 179) rfl)), (fun _ h => absurd h List.not_mem_nil)⟩)⟩)⟩)
set_option maxRecDepth 20000 in
theorem mw_98 : ∀ w ∈ mm_mw 98, w ∈ lw_tbl := (List.forall_mem_cons.mpr ⟨(tb_3 _ (List.mem_of_getElem? (i := 179) rfl)), (List.forall_mem_cons.mpr ⟨(tb_1 _ (List.mem_of_getElem? (i := 6) rfl)), (List.forall_mem_cons.mpr ⟨(tb_3 _ (List.mem_of_getElem? (i := 177) rfl)), (List.forall_mem_cons.mpr ⟨(tb_3 _ (List.mem_of_getElem? (i := 178) rfl)), (fun _ h => absurd h List.not_mem_nil)⟩)⟩)⟩)⟩)
set_option maxRecDepth 20000 in
theorem mw_99 : ∀ w ∈ mm_mw 99, w ∈ lw_tbl := (List.forall_mem_cons.mpr ⟨(tb_3 _ (List.mem_of_getElem? (i := 183) rfl)), (List.forall_mem_cons.mpr ⟨(tb_1 _ (List.mem_of_getElem? (i := 6) rfl)), (List.forall_mem_cons.mpr ⟨(tb_3 _ (List.mem_of_getElem? (i := 181) rfl)), (List.forall_mem_cons.mpr ⟨(tb_3 _ (List.mem_of_getElem? (i := 182) rfl)), (fun _ h => absurd h List.not_mem_nil)⟩)⟩)⟩)⟩)
set_option maxRecDepth 20000 in
theorem mw_100 : ∀ w ∈ mm_mw 100, w ∈ lw_tbl := (List.forall_mem_cons.mpr ⟨(tb_3 _ (List.mem_of_getElem? (i := 187) rfl)), (List.forall_mem_cons.mpr ⟨(tb_1 _ (List.mem_of_getElem? (i := 6) rfl)), (List.forall_mem_cons.mpr ⟨(tb_3 _ (List.mem_of_getElem? (i := 185) rfl)), (List.forall_mem_cons.mpr ⟨(tb_3 _ (List.mem_of_getElem? (i := 186) rfl)), (fun _ h => absurd h List.not_mem_nil)⟩)⟩)⟩)⟩)
set_option maxRecDepth 20000 in
theorem mw_101 : ∀ w ∈ mm_mw 101, w ∈ lw_tbl := (List.forall_mem_cons.mpr ⟨(tb_3 _ (List.mem_of_getElem? (i := 196) rfl)), (List.forall_mem_cons.mpr ⟨(tb_1 _ (List.mem_of_getElem? (i := 6) rfl)), (List.forall_mem_cons.mpr ⟨(tb_3 _ (List.mem_of_getElem? (i := 194) rfl)), (List.forall_mem_cons.mpr ⟨(tb_3 _ (List.mem_of_getElem? (i := 195) rfl)), (fun _ h => absurd h List.not_mem_nil)⟩)⟩)⟩)⟩)
set_option maxRecDepth 20000 in
theorem mw_102 : ∀ w ∈ mm_mw 102, w ∈ lw_tbl := (List.forall_mem_cons.mpr ⟨(tb_3 _ (List.mem_of_getElem? (i := 200) rfl)), (List.forall_mem_cons.mpr ⟨(tb_1 _ (List.mem_of_getElem? (i := 6) rfl)), (List.forall_mem_cons.mpr ⟨(tb_3 _ (List.mem_of_getElem? (i := 198) rfl)), (List.forall_mem_cons.mpr ⟨(tb_3 _ (List.mem_of_getElem? (i := 199) rfl)), (fun _ h => absurd h List.not_mem_nil)⟩)⟩)⟩)⟩)
set_option maxRecDepth 20000 in
theorem mw_103 : ∀ w ∈ mm_mw 103, w ∈ lw_tbl := (List.forall_mem_cons.mpr ⟨(tb_3 _ (List.mem_of_getElem? (i := 211) rfl)), (List.forall_mem_cons.mpr ⟨(tb_1 _ (List.mem_of_getElem? (i := 6) rfl)), (List.forall_mem_cons.mpr ⟨(tb_3 _ (List.mem_of_getElem? (i := 209) rfl)), (List.forall_mem_cons.mpr ⟨(tb_3 _ (List.mem_of_getElem? (i := 210) rfl)), (fun _ h => absurd h List.not_mem_nil)⟩)⟩)⟩)⟩)
set_option maxRecDepth 20000 in
theorem mw_104 : ∀ w ∈ mm_mw 104, w ∈ lw_tbl := (List.forall_mem_cons.mpr ⟨(tb_3 _ (List.mem_of_getElem? (i := 225) rfl)), (List.forall_mem_cons.mpr ⟨(tb_1 _ (List.mem_of_getElem? (i := 6) rfl)), (List.forall_mem_cons.mpr ⟨(tb_3 _ (List.mem_of_getElem? (i := 223) rfl)), (List.forall_mem_cons.mpr ⟨(tb_3 _ (List.mem_of_getElem? (i := 224) rfl)), (fun _ h => absurd h List.not_mem_nil)⟩)⟩)⟩)⟩)
set_option maxRecDepth 20000 in
theorem mw_105 : ∀ w ∈ mm_mw 105, w ∈ lw_tbl := (List.forall_mem_cons.mpr ⟨(tb_3 _ (List.mem_of_getElem? (i := 233) rfl)), (List.forall_mem_cons.mpr ⟨(tb_1 _ (List.mem_of_getElem? (i := 6) rfl)), (List.forall_mem_cons.mpr ⟨(tb_3 _ (List.mem_of_getElem? (i := 231) rfl)), (List.forall_mem_cons.mpr ⟨(tb_3 _ (List.mem_of_getElem? (i := 232) rfl)), (fun _ h => absurd h List.not_mem_nil)⟩)⟩)⟩)⟩)
set_option maxRecDepth 20000 in
theorem mw_106 : ∀ w ∈ mm_mw 106, w ∈ lw_tbl := (List.forall_mem_cons.mpr ⟨(tb_4 _ (List.mem_of_getElem? (i := 8) rfl)), (List.forall_mem_cons.mpr ⟨(tb_1 _ (List.mem_of_getElem? (i := 6) rfl)), (List.forall_mem_cons.mpr ⟨(tb_4 _ (List.mem_of_getElem? (i := 6) rfl)), (List.forall_mem_cons.mpr ⟨(tb_4 _ (List.mem_of_getElem? (i := 7) rfl)), (fun _ h => absurd h List.not_mem_nil)⟩)⟩)⟩)⟩)
set_option maxRecDepth 20000 in
theorem mw_107 : ∀ w ∈ mm_mw 107, w ∈ lw_tbl := (List.forall_mem_cons.mpr ⟨(tb_4 _ (List.mem_of_getElem? (i := 12) rfl)), (List.forall_mem_cons.mpr ⟨(tb_1 _ (List.mem_of_getElem? (i := 6) rfl)), (List.forall_mem_cons.mpr ⟨(tb_4 _ (List.mem_of_getElem? (i := 10) rfl)), (List.forall_mem_cons.mpr ⟨(tb_4 _ (List.mem_of_getElem? (i := 11) rfl)), (fun _ h => absurd h List.not_mem_nil)⟩)⟩)⟩)⟩)
set_option maxRecDepth 20000 in
theorem mw_108 : ∀ w ∈ mm_mw 108, w ∈ lw_tbl := (List.forall_mem_cons.mpr ⟨(tb_4 _ (List.mem_of_getElem? (i := 16) rfl)), (List.forall_mem_cons.mpr ⟨(tb_1 _ (List.mem_of_getElem? (i := 6) rfl)), (List.forall_mem_cons.mpr ⟨(tb_4 _ (List.mem_of_getElem? (i := 14) rfl)), (List.forall_mem_cons.mpr ⟨(tb_4 _ (List.mem_of_getElem? (i := 15) rfl)), (fun _ h => absurd h List.not_mem_nil)⟩)⟩)⟩)⟩)
set_option maxRecDepth 20000 in
theorem mw_109 : ∀ w ∈ mm_mw 109, w ∈ lw_tbl := (List.forall_mem_cons.mpr ⟨(tb_1 _ (List.mem_of_getElem? (i := 25) rfl)), (List.forall_mem_cons.mpr ⟨(tb_1 _ (List.mem_of_getElem? (i := 1) rfl)), (List.forall_mem_cons.mpr ⟨(tb_1 _ (List.mem_of_getElem? (i := 24) rfl)), (fun _ h => absurd h List.not_mem_nil)⟩)⟩)⟩)
set_option maxRecDepth 20000 in
theorem mw_110 : ∀ w ∈ mm_mw 110, w ∈ lw_tbl := (List.forall_mem_cons.mpr ⟨(tb_2 _ (List.mem_of_getElem? (i := 207) rfl)), (List.forall_mem_cons.mpr ⟨(tb_1 _ (List.mem_of_getElem? (i := 1) rfl)), (List.forall_mem_cons.mpr ⟨(tb_2 _ (List.mem_of_getElem? (i := 205) rfl)), (List.forall_mem_cons.mpr ⟨(tb_2 _ (List.mem_of_getElem? (i := 206) rfl)), (fun _ h => absurd h List.not_mem_nil)⟩)⟩)⟩)⟩)
set_option maxRecDepth 20000 in
theorem mw_111 : ∀ w ∈ mm_mw 111, w ∈ lw_tbl := (List.forall_mem_cons.mpr ⟨(tb_2 _ (List.mem_of_getElem? (i := 215) rfl)), (List.forall_mem_cons.mpr ⟨(tb_1 _ (List.mem_of_getElem? (i := 1) rfl)), (List.forall_mem_cons.mpr ⟨(tb_2 _ (List.mem_of_getElem? (i := 213) rfl)), (List.forall_mem_cons.mpr ⟨(tb_2 _ (List.mem_of_getElem? (i := 214) rfl)), (fun _ h => absurd h List.not_mem_nil)⟩)⟩)⟩)⟩)
set_option maxRecDepth 20000 in
theorem mw_112 : ∀ w ∈ mm_mw 112, w ∈ lw_tbl := (List.forall_mem_cons.mpr ⟨(tb_3 _ (List.mem_of_getElem? (i := 141) rfl)), (List.forall_mem_cons.mpr ⟨(tb_1 _ (List.mem_of_getElem? (i := 1) rfl)), (List.forall_mem_cons.mpr ⟨(tb_3 _ (List.mem_of_getElem? (i := 139) rfl)), (List.forall_mem_cons.mpr ⟨(tb_3 _ (List.mem_of_getElem? (i := 140) rfl)), (fun _ h => absurd h List.not_mem_nil)⟩)⟩)⟩)⟩)
set_option maxRecDepth 20000 in
theorem mw_113 : ∀ w ∈ mm_mw 113, w ∈ lw_tbl := (List.forall_mem_cons.mpr ⟨(tb_4 _ (List.mem_of_getElem? (i := 33) rfl)), (List.forall_mem_cons.mpr ⟨(tb_1 _ (List.mem_of_getElem? (i := 1) rfl)), (List.forall_mem_cons.mpr ⟨(tb_4 _ (List.mem_of_getElem? (i := 31) rfl)), (List.forall_mem_cons.mpr ⟨(tb_4 _ (List.mem_of_getElem? (i := 32) rfl)), (fun _ h => absurd h List.not_mem_nil)⟩)⟩)⟩)⟩)
set_option maxRecDepth 20000 in
theorem mw_114 : ∀ w ∈ mm_mw 114, w ∈ lw_tbl := (List.forall_mem_cons.mpr ⟨(tb_4 _ (List.mem_of_getElem? (i := 83) rfl)), (List.forall_mem_cons.mpr ⟨(tb_1 _ (List.mem_of_getElem? (i := 1) rfl)), (List.forall_mem_cons.mpr ⟨(tb_4 _ (List.mem_of_getElem? (i := 81) rfl)), (List.forall_mem_cons.mpr ⟨(tb_4 _ (List.mem_of_getElem? (i := 82) rfl)), (fun _ h => absurd h List.not_mem_nil)⟩)⟩)⟩)⟩)
set_option maxRecDepth 20000 in
theorem mw_115 : ∀ w ∈ mm_mw 115, w ∈ lw_tbl := (List.forall_mem_cons.mpr ⟨(tb_4 _ (List.mem_of_getElem? (i := 87) rfl)), (List.forall_mem_cons.mpr ⟨(tb_1 _ (List.mem_of_getElem? (i := 1) rfl)), (List.forall_mem_cons.mpr ⟨(tb_4 _ (List.mem_of_getElem? (i := 85) rfl)), (List.forall_mem_cons.mpr ⟨(tb_4 _ (List.mem_of_getElem? (i := 86) rfl)), (fun _ h => absurd h List.not_mem_nil)⟩)⟩)⟩)⟩)
set_option maxRecDepth 20000 in
theorem mw_116 : ∀ w ∈ mm_mw 116, w ∈ lw_tbl := (List.forall_mem_cons.mpr ⟨(tb_4 _ (List.mem_of_getElem? (i := 93) rfl)), (List.forall_mem_cons.mpr ⟨(tb_1 _ (List.mem_of_getElem? (i := 1) rfl)), (List.forall_mem_cons.mpr ⟨(tb_4 _ (List.mem_of_getElem? (i := 91) rfl)), (List.forall_mem_cons.mpr ⟨(tb_4 _ (List.mem_of_getElem? (i := 92) rfl)), (fun _ h => absurd h List.not_mem_nil)⟩)⟩)⟩)⟩)
set_option maxRecDepth 20000 in
theorem mw_117 : ∀ w ∈ mm_mw 117, w ∈ lw_tbl := (List.forall_mem_cons.mpr ⟨(tb_4 _ (List.mem_of_getElem? (i := 98) rfl)), (List.forall_mem_cons.mpr ⟨(tb_1 _ (List.mem_of_getElem? (i := 1) rfl)), (List.forall_mem_cons.mpr ⟨(tb_4 _ (List.mem_of_getElem? (i := 96) rfl)), (List.forall_mem_cons.mpr ⟨(tb_4 _ (List.mem_of_getElem? (i := 97) rfl)), (fun _ h => absurd h List.not_mem_nil)⟩)⟩)⟩)⟩)
set_option maxRecDepth 20000 in
theorem mw_118 : ∀ w ∈ mm_mw 118, w ∈ lw_tbl := (List.forall_mem_cons.mpr ⟨(tb_4 _ (List.mem_of_getElem? (i := 111) rfl)), (List.forall_mem_cons.mpr ⟨(tb_1 _ (List.mem_of_getElem? (i := 1) rfl)), (List.forall_mem_cons.mpr ⟨(tb_4 _ (List.mem_of_getElem? (i := 109) rfl)), (List.forall_mem_cons.mpr ⟨(tb_4 _ (List.mem_of_getElem? (i := 110) rfl)), (fun _ h => absurd h List.not_mem_nil)⟩)⟩)⟩)⟩)
set_option maxRecDepth 20000 in
theorem mw_119 : ∀ w ∈ mm_mw 119, w ∈ lw_tbl := (List.forall_mem_cons.mpr ⟨(tb_4 _ (List.mem_of_getElem? (i := 116) rfl)), (List.forall_mem_cons.mpr ⟨(tb_1 _ (List.mem_of_getElem? (i := 1) rfl)), (List.forall_mem_cons.mpr ⟨(tb_4 _ (List.mem_of_getElem? (i := 114) rfl)), (List.forall_mem_cons.mpr ⟨(tb_4 _ (List.mem_of_getElem? (i := 115) rfl)), (fun _ h => absurd h List.not_mem_nil)⟩)⟩)⟩)⟩)
set_option maxRecDepth 20000 in
theorem mw_120 : ∀ w ∈ mm_mw 120, w ∈ lw_tbl := (List.forall_mem_cons.mpr ⟨(tb_4 _ (List.mem_of_getElem? (i := 129) rfl)), (List.forall_mem_cons.mpr ⟨(tb_1 _ (List.mem_of_getElem? (i := 1) rfl)), (List.forall_mem_cons.mpr ⟨(tb_4 _ (List.mem_of_getElem? (i := 127) rfl)), (List.forall_mem_cons.mpr ⟨(tb_4 _ (List.mem_of_getElem? (i := 128) rfl)), (fun _ h => absurd h List.not_mem_nil)⟩)⟩)⟩)⟩)
set_option maxRecDepth 20000 in
theorem mw_121 : ∀ w ∈ mm_mw 121, w ∈ lw_tbl := (List.forall_mem_cons.mpr ⟨(tb_4 _ (List.mem_of_getElem? (i := 133) rfl)), (List.forall_mem_cons.mpr ⟨(tb_1 _ (List.mem_of_getElem? (i := 1) rfl)), (List.forall_mem_cons.mpr ⟨(tb_4 _ (List.mem_of_getElem? (i := 131) rfl)), (List.forall_mem_cons.mpr ⟨(tb_4 _ (List.mem_of_getElem? (i := 132) rfl)), (fun _ h => absurd h List.not_mem_nil)⟩)⟩)⟩)⟩)
set_option maxRecDepth 20000 in
theorem mw_122 : ∀ w ∈ mm_mw 122, w ∈ lw_tbl := (List.forall_mem_cons.mpr ⟨(tb_4 _ (List.mem_of_getElem? (i := 137) rfl)), (List.forall_mem_cons.mpr ⟨(tb_1 _ (List.mem_of_getElem? (i := 1) rfl)), (List.forall_mem_cons.mpr ⟨(tb_4 _ (List.mem_of_getElem? (i := 135) rfl)), (List.forall_mem_cons.mpr ⟨(tb_4 _ (List.mem_of_getElem? (i := 136) rfl)), (fun _ h => absurd h List.not_mem_nil)⟩)⟩)⟩)⟩)
set_option maxRecDepth 20000 in
theorem mw_123 : ∀ w ∈ mm_mw 123, w ∈ lw_tbl := (List.forall_mem_cons.mpr ⟨(tb_4 _ (List.mem_of_getElem? (i := 151) rfl)), (List.forall_mem_cons.mpr ⟨(tb_1 _ (List.mem_of_getElem? (i := 1) rfl)), (List.forall_mem_cons.mpr ⟨(tb_4 _ (List.mem_of_getElem? (i := 149) rfl)), (List.forall_mem_cons.mpr ⟨(tb_4 _ (List.mem_of_getElem? (i := 150) rfl)), (fun _ h => absurd h List.not_mem_nil)⟩)⟩)⟩)⟩)
set_option maxRecDepth 20000 in
theorem mw_124 : ∀ w ∈ mm_mw 124, w ∈ lw_tbl := (List.forall_mem_cons.mpr ⟨(tb_4 _ (List.mem_of_getElem? (i := 155) rfl)), (List.forall_mem_cons.mpr ⟨(tb_1 _ (List.mem_of_getElem? (i := 1) rfl)), (List.forall_mem_cons.mpr ⟨(tb_4 _ (List.mem_of_getElem? (i := 153) rfl)), (List.forall_mem_cons.mpr ⟨(tb_4 _ (List.mem_of_getElem? (i := 154) rfl)), (fun _ h => absurd h List.not_mem_nil)⟩)⟩)⟩)⟩)
set_option maxRecDepth 20000 in
theorem mw_125 : ∀ w ∈ mm_mw 125, w ∈ lw_tbl := (List.forall_mem_cons.mpr ⟨(tb_4 _ (List.mem_of_getElem? (i := 160) rfl)), (List.forall_mem_cons.mpr ⟨(tb_1 _ (List.mem_of_getElem? (i := 1) rfl)), (List.forall_mem_cons.mpr ⟨(tb_4 _ (List.mem_of_getElem? (i := 158) rfl)), (List.forall_mem_cons.mpr ⟨(tb_4 _ (List.mem_of_getElem? (i := 159) rfl)), (fun _ h => absurd h List.not_mem_nil)⟩)⟩)⟩)⟩)
set_option maxRecDepth 20000 in
theorem mw_126 : ∀ w ∈ mm_mw 126, w ∈ lw_tbl := (List.forall_mem_cons.mpr ⟨(tb_4 _ (List.mem_of_getElem? (i := 174) rfl)), (List.forall_mem_cons.mpr ⟨(tb_1 _ (List.mem_of_getElem? (i := 1) rfl)), (List.forall_mem_cons.mpr ⟨(tb_4 _ (List.mem_of_getElem? (i := 172) rfl)), (List.forall_mem_cons.mpr ⟨(tb_4 _ (List.mem_of_getElem? (i := 173) rfl)), (fun _ h => absurd h List.not_mem_nil)⟩)⟩)⟩)⟩)
set_option maxRecDepth 20000 in
theorem mw_127 : ∀ w ∈ mm_mw 127, w ∈ lw_tbl := (List.forall_mem_cons.mpr ⟨(tb_4 _ (List.mem_of_getElem? (i := 178) rfl)), (List.forall_mem_cons.mpr ⟨(tb_1 _ (List.mem_of_getElem? (i := 1) rfl)), (List.forall_mem_cons.mpr ⟨(tb_4 _ (List.mem_of_getElem? (i := 176) rfl)), (List.forall_mem_cons.mpr ⟨(tb_4 _ (List.mem_of_getElem? (i := 177) rfl)), (fun _ h => absurd h List.not_mem_nil)⟩)⟩)⟩)⟩)
set_option maxRecDepth 20000 in
theorem mw_128 : ∀ w ∈ mm_mw 128, w ∈ lw_tbl := (List.forall_mem_cons.mpr ⟨(tb_4 _ (List.mem_of_getElem? (i := 182) rfl)), (List.forall_mem_cons.mpr ⟨(tb_1 _ (List.mem_of_getElem? (i := 1) rfl)), (List.forall_mem_cons.mpr ⟨(tb_4 _ (List.mem_of_getElem? (i := 180) rfl)), (List.forall_mem_cons.mpr ⟨(tb_4 _ (List.mem_of_getElem? (i := 181) rfl)), (fun _ h => absurd h List.not_mem_nil)⟩)⟩)⟩)⟩)
set_option maxRecDepth 20000 in
theorem mw_129 : ∀ w ∈ mm_mw 129, w ∈ lw_tbl := (List.forall_mem_cons.mpr ⟨(tb_4 _ (List.mem_of_getElem? (i := 189) rfl)), (List.forall_mem_cons.mpr ⟨(tb_1 _ (List.mem_of_getElem? (i := 1) rfl)), (List.forall_mem_cons.mpr ⟨(tb_4 _ (List.mem_of_getElem? (i := 187) rfl)), (List.forall_mem_cons.mpr ⟨(tb_4 _ (List.mem_of_getElem? (i := 188) rfl)), (fun _ h => absurd h List.not_mem_nil)⟩)⟩)⟩)⟩)
set_option maxRecDepth 20000 in
theorem mw_130 : ∀ w ∈ mm_mw 130, w ∈ lw_tbl := (List.forall_mem_cons.mpr ⟨(tb_4 _ (List.mem_of_getElem? (i := 198) rfl)), (List.forall_mem_cons.mpr ⟨(tb_1 _ (List.mem_of_getElem? (i := 1) rfl)), (List.forall_mem_cons.mpr ⟨(tb_4 _ (List.mem_of_getElem? (i := 196) rfl)), (List.forall_mem_cons.mpr ⟨(tb_4 _ (List.mem_of_getElem? (i := 197) rfl)), (fun _ h => absurd h List.not_mem_nil)⟩)⟩)⟩)⟩)
set_option maxRecDepth 20000 in
theorem mw_131 : ∀ w ∈ mm_mw 131, w ∈ lw_tbl := (List.forall_mem_cons.mpr ⟨(tb_4 _ (List.mem_of_getElem? (i := 202) rfl)), (List.forall_mem_cons.mpr ⟨(tb_1 _ (List.mem_of_getElem? (i := 1) rfl)), (List.forall_mem_cons.mpr ⟨(tb_4 _ (List.mem_of_getElem? (i := 200) rfl)), (List.forall_mem_cons.mpr ⟨(tb_4 _ (List.mem_of_getElem? (i := 201) rfl)), (fun _ h => absurd h List.not_mem_nil)⟩)⟩)⟩)⟩)
set_option maxRecDepth 20000 in
theorem mw_132 : ∀ w ∈ mm_mw 132, w ∈ lw_tbl := (List.forall_mem_cons.mpr ⟨(tb_4 _ (List.mem_of_getElem? (i := 229) rfl)), (List.forall_mem_cons.mpr ⟨(tb_1 _ (List.mem_of_getElem? (i := 1) rfl)), (List.forall_mem_cons.mpr ⟨(tb_4 _ (List.mem_of_getElem? (i := 227) rfl)), (List.forall_mem_cons.mpr ⟨(tb_4 _ (List.mem_of_getElem? (i := 228) rfl)), (fun _ h => absurd h List.not_mem_nil)⟩)⟩)⟩)⟩)
set_option maxRecDepth 20000 in
theorem mw_133 : ∀ w ∈ mm_mw 133, w ∈ lw_tbl := (List.forall_mem_cons.mpr ⟨(tb_5 _ (List.mem_of_getElem? (i := 8) rfl)), (List.forall_mem_cons.mpr ⟨(tb_1 _ (List.mem_of_getElem? (i := 1) rfl)), (List.forall_mem_cons.mpr ⟨(tb_5 _ (List.mem_of_getElem? (i := 6) rfl)), (List.forall_mem_cons.mpr ⟨(tb_5 _ (List.mem_of_getElem? (i := 7) rfl)), (fun _ h => absurd h List.not_mem_nil)⟩)⟩)⟩)⟩)
set_option maxRecDepth 20000 in
theorem mw_134 : ∀ w ∈ mm_mw 134, w ∈ lw_tbl := (List.forall_mem_cons.mpr ⟨(tb_5 _ (List.mem_of_getElem? (i := 13) rfl)), (List.forall_mem_cons.mpr ⟨(tb_1 _ (List.mem_of_getElem? (i := 1) rfl)), (List.forall_mem_cons.mpr ⟨(tb_5 _ (List.mem_of_getElem? (i := 11) rfl)), (List.forall_mem_cons.mpr ⟨(tb_5 _ (List.mem_of_getElem? (i := 12) rfl)), (fun _ h => absurd h List.not_mem_nil)⟩)⟩)⟩)⟩)
set_option maxRecDepth 20000 in
theorem mw_135 : ∀ w ∈ mm_mw 135, w ∈ lw_tbl := (List.forall_mem_cons.mpr ⟨(tb_5 _ (List.mem_of_getElem? (i := 39) rfl)), (List.forall_mem_cons.mpr ⟨(tb_1 _ (List.mem_of_getElem? (i := 1) rfl)), (List.forall_mem_cons.mpr ⟨(tb_5 _ (List.mem_of_getElem? (i := 37) rfl)), (List.forall_mem_cons.mpr ⟨(tb_5 _ (List.mem_of_getElem? (i := 38) rfl)), (fun _ h => absurd h List.not_mem_nil)⟩)⟩)⟩)⟩)
set_option maxRecDepth 20000 in
theorem mw_136 : ∀ w ∈ mm_mw 136, w ∈ lw_tbl := (List.forall_mem_cons.mpr ⟨(tb_5 _ (List.mem_of_getElem? (i := 61) rfl)), (List.forall_mem_cons.mpr ⟨(tb_1 _ (List.mem_of_getElem? (i := 1) rfl)), (List.forall_mem_cons.mpr ⟨(tb_5 _ (List.mem_of_getElem? (i := 59) rfl)), (List.forall_mem_cons.mpr ⟨(tb_5 _ (List.mem_of_getElem? (i := 60) rfl)), (fun _ h => absurd h List.not_mem_nil)⟩)⟩)⟩)⟩)
set_option maxRecDepth 20000 in
theorem mw_137 : ∀ w ∈ mm_mw 137, w ∈ lw_tbl := (List.forall_mem_cons.mpr ⟨(tb_5 _ (List.mem_of_getElem? (i := 77) rfl)), (List.forall_mem_cons.mpr ⟨(tb_1 _ (List.mem_of_getElem? (i := 1) rfl)), (List.forall_mem_cons.mpr ⟨(tb_5 _ (List.mem_of_getElem? (i := 75) rfl)), (List.forall_mem_cons.mpr ⟨(tb_5 _ (List.mem_of_getElem? (i := 76) rfl)), (fun _ h => absurd h List.not_mem_nil)⟩)⟩)⟩)⟩)
set_option maxRecDepth 20000 in
theorem mw_138 : ∀ w ∈ mm_mw 138, w ∈ lw_tbl := (List.forall_mem_cons.mpr ⟨(tb_5 _ (List.mem_of_getElem? (i := 102) rfl)), (List.forall_mem_cons.mpr ⟨(tb_1 _ (List.mem_of_getElem? (i := 1) rfl)), (List.forall_mem_cons.mpr ⟨(tb_5 _ (List.mem_of_getElem? (i := 100) rfl)), (List.forall_mem_cons.mpr ⟨(tb_5 _ (List.mem_of_getElem? (i := 101) rfl)), (fun _ h => absurd h List.not_mem_nil)⟩)⟩)⟩)⟩)
set_option maxRecDepth 20000 in
theorem mw_139 : ∀ w ∈ mm_mw 139, w ∈ lw_tbl := (List.forall_mem_cons.mpr ⟨(tb_4 _ (List.mem_of_getElem? (i := 102) rfl)), (List.forall_mem_cons.mpr ⟨(tb_1 _ (List.mem_of_getElem? (i := 1) rfl)), (List.forall_mem_cons.mpr ⟨(tb_4 _ (List.mem_of_getElem? (i := 101) rfl)), (List.forall_mem_cons.mpr ⟨(tb_0 _ (List.mem_of_getElem? (i := 1) rfl)), (fun _ h => absurd h List.not_mem_nil)⟩)⟩)⟩)⟩)
set_option maxRecDepth 20000 in
theorem mw_140 : ∀ w ∈ mm_mw 140, w ∈ lw_tbl := (List.forall_mem_cons.mpr ⟨(tb_4 _ (List.mem_of_getElem? (i := 120) rfl)), (List.forall_mem_cons.mpr ⟨(tb_1 _ (List.mem_of_getElem? (i := 1) rfl)), (List.forall_mem_cons.mpr ⟨(tb_4 _ (List.mem_of_getElem? (i := 119) rfl)), (List.forall_mem_cons.mpr ⟨(tb_0 _ (List.mem_of_getElem? (i := 3) rfl)), (fun _ h => absurd h List.not_mem_nil)⟩)⟩)⟩)⟩)
set_option maxRecDepth 20000 in
theorem mw_141 : ∀ w ∈ mm_mw 141, w ∈ lw_tbl := (List.forall_mem_cons.mpr ⟨(tb_4 _ (List.mem_of_getElem? (i := 107) rfl)), (List.forall_mem_cons.mpr ⟨(tb_1 _ (List.mem_of_getElem? (i := 1) rfl)), (List.forall_mem_cons.mpr ⟨(tb_4 _ (List.mem_of_getElem? (i := 106) rfl)), (List.forall_mem_cons.mpr ⟨(tb_0 _ (List.mem_of_getElem? (i := 2) rfl)), (fun _ h => absurd h List.not_mem_nil)⟩)⟩)⟩)⟩)
set_option maxRecDepth 20000 in
theorem mw_142 : ∀ w ∈ mm_mw 142, w ∈ lw_tbl := (List.forall_mem_cons.mpr ⟨(tb_3 _ (List.mem_of_getElem? (i := 145) rfl)), (List.forall_mem_cons.mpr ⟨(tb_1 _ (List.mem_of_getElem? (i := 1) rfl)), (List.forall_mem_cons.mpr ⟨(tb_3 _ (List.mem_of_getElem? (i := 144) rfl)), (List.forall_mem_cons.mpr ⟨(tb_0 _ (List.mem_of_getElem? (i := 0) rfl)), (fun _ h => absurd h List.not_mem_nil)⟩)⟩)⟩)⟩)
set_option maxRecDepth 20000 in
theorem mw_143 : ∀ w ∈ mm_mw 143, w ∈ lw_tbl := (List.forall_mem_cons.mpr ⟨(tb_4 _ (List.mem_of_getElem? (i := 185) rfl)), (List.forall_mem_cons.mpr ⟨(tb_1 _ (List.mem_of_getElem? (i := 1) rfl)), (List.forall_mem_cons.mpr ⟨(tb_4 _ (List.mem_of_getElem? (i := 184) rfl)), (fun _ h => absurd h List.not_mem_nil)⟩)⟩)⟩)
set_option maxRecDepth 20000 in
theorem mw_144 : ∀ w ∈ mm_mw 144, w ∈ lw_tbl := (List.forall_mem_cons.mpr ⟨(tb_3 _ (List.mem_of_getElem? (i := 91) rfl)), (List.forall_mem_cons.mpr ⟨(tb_1 _ (List.mem_of_getElem? (i := 1) rfl)), (List.forall_mem_cons.mpr ⟨(tb_3 _ (List.mem_of_getElem? (i := 90) rfl)), (fun _ h => absurd h List.not_mem_nil)⟩)⟩)⟩)
set_option maxRecDepth 20000 in
theorem mw_145 : ∀ w ∈ mm_mw 145, w ∈ lw_tbl := (List.forall_mem_cons.mpr ⟨(tb_4 _ (List.mem_of_getElem? (i := 233) rfl)), (List.forall_mem_cons.mpr ⟨(tb_1 _ (List.mem_of_getElem? (i := 1) rfl)), (List.forall_mem_cons.mpr ⟨(tb_4 _ (List.mem_of_getElem? (i := 232) rfl)), (fun _ h => absurd h List.not_mem_nil)⟩)⟩)⟩)
set_option maxRecDepth 20000 in
theorem mw_146 : ∀ w ∈ mm_mw 146, w ∈ lw_tbl := (List.forall_mem_cons.mpr ⟨(tb_5 _ (List.mem_of_getElem? (i := 198) rfl)), (List.forall_mem_cons.mpr ⟨(tb_1 _ (List.mem_of_getElem? (i := 12) rfl)), (List.forall_mem_cons.mpr ⟨(tb_5 _ (List.mem_of_getElem? (i := 197) rfl)), (fun _ h => absurd h List.not_mem_nil)⟩)⟩)⟩)
set_option maxRecDepth 20000 in
theorem mw_147 : ∀ w ∈ mm_mw 147, w ∈ lw_tbl := (List.forall_mem_cons.mpr ⟨(tb_6 _ (List.mem_of_getElem? (i := 206) rfl)), (List.forall_mem_cons.mpr ⟨(tb_1 _ (List.mem_of_getElem? (i := 12) rfl)), (List.forall_mem_cons.mpr ⟨(tb_6 _ (List.mem_of_getElem? (i := 204) rfl)), (List.forall_mem_cons.mpr ⟨(tb_6 _ (List.mem_of_getElem? (i := 205) rfl)), (fun _ h => absurd h List.not_mem_nil)⟩)⟩)⟩)⟩)
set_option maxRecDepth 20000 in
theorem mw_148 : ∀ w ∈ mm_mw 148, w ∈ lw_tbl := (List.forall_mem_cons.mpr ⟨(tb_8 _ (List.mem_of_getElem? (i := 35) rfl)), (List.forall_mem_cons.mpr ⟨(tb_1 _ (List.mem_of_getElem? (i := 12) rfl)), (List.forall_mem_cons.mpr ⟨(tb_8 _ (List.mem_of_getElem? (i := 34) rfl)), (fun _ h => absurd h List.not_mem_nil)⟩)⟩)⟩)
set_option maxRecDepth 20000 in
theorem mw_149 : ∀ w ∈ mm_mw 149, w ∈ lw_tbl := (List.forall_mem_cons.mpr ⟨(tb_7 _ (List.mem_of_getElem? (i := 32) rfl)), (List.forall_mem_cons.mpr ⟨(tb_1 _ (List.mem_of_getElem? (i := 12) rfl)), (List.forall_mem_cons.mpr ⟨(tb_7 _ (List.mem_of_getElem? (i := 31) rfl)), (fun _ h => absurd h List.not_mem_nil)⟩)⟩)⟩)
set_option maxRecDepth 20000 in
theorem mw_150 : ∀ w ∈ mm_mw 150, w ∈ lw_tbl := (List.forall_mem_cons.mpr ⟨(tb_7 _ (List.mem_of_getElem? (i := 144) rfl)), (List.forall_mem_cons.mpr ⟨(tb_1 _ (List.mem_of_getElem? (i := 12) rfl)), (List.forall_mem_cons.mpr ⟨(tb_7 _ (List.mem_of_getElem? (i := 143) rfl)), (fun _ h => absurd h List.not_mem_nil)⟩)⟩)⟩)
set_option maxRecDepth 20000 in
theorem mw_151 : ∀ w ∈ mm_mw 151, w ∈ lw_tbl := (List.forall_mem_cons.mpr ⟨(tb_7 _ (List.mem_of_getElem? (i := 2) rfl)), (List.forall_mem_cons.mpr ⟨(tb_1 _ (List.mem_of_getElem? (i := 12) rfl)), (List.forall_mem_cons.mpr ⟨(tb_7 _ (List.mem_of_getElem? (i := 1) rfl)), (List.forall_mem_cons.mpr ⟨(tb_0 _ (List.mem_of_getElem? (i := 14) rfl)), (fun _ h => absurd h List.not_mem_nil)⟩)⟩)⟩)⟩)
set_option maxRecDepth 20000 in
theorem mw_152 : ∀ w ∈ mm_mw 152, w ∈ lw_tbl := (List.forall_mem_cons.mpr ⟨(tb_6 _ (List.mem_of_getElem? (i := 226) rfl)), (List.forall_mem_cons.mpr ⟨(tb_1 _ (List.mem_of_getElem? (i := 12) rfl)), (List.forall_mem_cons.mpr ⟨(tb_6 _ (List.mem_of_getElem? (i := 225) rfl)), (List.forall_mem_cons.mpr ⟨(tb_0 _ (List.mem_of_getElem? (i := 10) rfl)), (fun _ h => absurd h List.not_mem_nil)⟩)⟩)⟩)⟩)
set_option maxRecDepth 20000 in
theorem mw_153 : ∀ w ∈ mm_mw 153, w ∈ lw_tbl := (List.forall_mem_cons.mpr ⟨(tb_6 _ (List.mem_of_getElem? (i := 222) rfl)), (List.forall_mem_cons.mpr ⟨(tb_1 _ (List.mem_of_getElem? (i := 12) rfl)), (List.forall_mem_cons.mpr ⟨(tb_6 _ (List.mem_of_getElem? (i := 221) rfl)), (List.forall_mem_cons.mpr ⟨(tb_0 _ (List.mem_of_getElem? (i := 9) rfl)), (fun _ h => absurd h List.not_mem_nil)⟩)⟩)⟩)⟩)
set_option maxRecDepth 20000 in
theorem mw_154 : ∀ w ∈ mm_mw 154, w ∈ lw_tbl := (List.forall_mem_cons.mpr ⟨(tb_6 _ (List.mem_of_getElem? (i := 234) rfl)), (List.forall_mem_cons.mpr ⟨(tb_1 _ (List.mem_of_getElem? (i := 12) rfl)), (List.forall_mem_cons.mpr ⟨(tb_6 _ (List.mem_of_getElem? (i := 233) rfl)), (List.forall_mem_cons.mpr ⟨(tb_0 _ (List.mem_of_getElem? (i := 12) rfl)), (fun _ h => absurd h List.not_mem_nil)⟩)⟩)⟩)⟩)
set_option maxRecDepth 20000 in
theorem mw_155 : ∀ w ∈ mm_mw 155, w ∈ lw_tbl := (List.forall_mem_cons.mpr ⟨(tb_6 _ (List.mem_of_getElem? (i := 218) rfl)), (List.forall_mem_cons.mpr ⟨(tb_1 _ (List.mem_of_getElem? (i := 12) rfl)), (List.forall_mem_cons.mpr ⟨(tb_6 _ (List.mem_of_getElem? (i := 217) rfl)), (List.forall_mem_cons.mpr ⟨(tb_0 _ (List.mem_of_getElem? (i := 8) rfl)), (fun _ h => absurd h List.not_mem_nil)⟩)⟩)⟩)⟩)
set_option maxRecDepth 20000 in
theorem mw_156 : ∀ w ∈ mm_mw 156, w ∈ lw_tbl := (List.forall_mem_cons.mpr ⟨(tb_6 _ (List.mem_of_getElem? (i := 230) rfl)), (List.forall_mem_cons.mpr ⟨(tb_1 _ (List.mem_of_getElem? (i := 12) rfl)), (List.forall_mem_cons.mpr ⟨(tb_6 _ (List.mem_of_getElem? (i := 229) rfl)), (List.forall_mem_cons.mpr ⟨(tb_0 _ (List.mem_of_getElem? (i := 11) rfl)), (fun _ h => absurd h List.not_mem_nil)⟩)⟩)⟩)⟩)
set_option maxRecDepth 20000 in
theorem mw_157 : ∀ w ∈ mm_mw 157, w ∈ lw_tbl := (List.forall_mem_cons.mpr ⟨(tb_7 _ (List.mem_of_getElem? (i := 212) rfl)), (List.forall_mem_cons.mpr ⟨(tb_1 _ (List.mem_of_getElem? (i := 12) rfl)), (List.forall_mem_cons.mpr ⟨(tb_7 _ (List.mem_of_getElem? (i := 211) rfl)), (List.forall_mem_cons.mpr ⟨(tb_0 _ (List.mem_of_getElem? (i := 44) rfl)), (fun _ h => absurd h List.not_mem_nil)⟩)⟩)⟩)⟩)
set_option maxRecDepth 20000 in
theorem mw_158 : ∀ w ∈ mm_mw 158, w ∈ lw_tbl := (List.forall_mem_cons.mpr ⟨(tb_7 _ (List.mem_of_getElem? (i := 36) rfl)), (List.forall_mem_cons.mpr ⟨(tb_1 _ (List.mem_of_getElem? (i := 12) rfl)), (List.forall_mem_cons.mpr ⟨(tb_7 _ (List.mem_of_getElem? (i := 35) rfl)), (List.forall_mem_cons.mpr ⟨(tb_0 _ (List.mem_of_getElem? (i := 21) rfl)), (fun _ h => absurd h List.not_mem_nil)⟩)⟩)⟩)⟩)
set_option maxRecDepth 20000 in
theorem mw_159 : ∀ w ∈ mm_mw 159, w ∈ lw_tbl := (List.forall_mem_cons.mpr ⟨(tb_7 _ (List.mem_of_getElem? (i := 40) rfl)), (List.forall_mem_cons.mpr ⟨(tb_1 _ (List.mem_of_getElem? (i := 12) rfl)), (List.forall_mem_cons.mpr ⟨(tb_7 _ (List.mem_of_getElem? (i := 39) rfl)), (List.forall_mem_cons.mpr ⟨(tb_0 _ (List.mem_of_getElem? (i := 22) rfl)), (fun _ h => absurd h List.not_mem_nil)⟩)⟩)⟩)⟩)
set_option maxRecDepth 20000 in
theorem mw_160 : ∀ w ∈ mm_mw 160, w ∈ lw_tbl := (List.forall_mem_cons.mpr ⟨(tb_7 _ (List.mem_of_getElem? (i := 208) rfl)), (List.forall_mem_cons.mpr ⟨(tb_1 _ (List.mem_of_getElem? (i := 12) rfl)), (List.forall_mem_cons.mpr ⟨(tb_7 _ (List.mem_of_getElem? (i := 207) rfl)), (List.forall_mem_cons.mpr ⟨(tb_0 _ (List.mem_of_getElem? (i := 43) rfl)), (fun _ h => absurd h List.not_mem_nil)⟩)⟩)⟩)⟩)
set_option maxRecDepth 20000 in
theorem mw_161 : ∀ w ∈ mm_mw 161, w ∈ lw_tbl := (List.forall_mem_cons.mpr ⟨(tb_7 _ (List.mem_of_getElem? (i := 6) rfl)), (List.forall_mem_cons.mpr ⟨(tb_1 _ (List.mem_of_getElem? (i := 12) rfl)), (List.forall_mem_cons.mpr ⟨(tb_7 _ (List.mem_of_getElem? (i := 5) rfl)), (List.forall_mem_cons.mpr ⟨(tb_0 _ (List.mem_of_getElem? (i := 15) rfl)), (fun _ h => absurd h List.not_mem_nil)⟩)⟩)⟩)⟩)
set_option maxRecDepth 20000 in
theorem mw_162 : ∀ w ∈ mm_mw 162, w ∈ lw_tbl := (List.forall_mem_cons.mpr ⟨(tb_6 _ (List.mem_of_getElem? (i := 214) rfl)), (List.forall_mem_cons.mpr ⟨(tb_1 _ (List.mem_of_getElem? (i := 12) rfl)), (List.forall_mem_cons.mpr ⟨(tb_6 _ (List.mem_of_getElem? (i := 213) rfl)), (List.forall_mem_cons.mpr ⟨(tb_0 _ (List.mem_of_getElem? (i := 7) rfl)), (fun _ h => absurd h List.not_mem_nil)⟩)⟩)⟩)⟩)
set_option maxRecDepth 20000 in
theorem mw_163 : ∀ w ∈ mm_mw 163, w ∈ lw_tbl := (List.forall_mem_cons.mpr ⟨(tb_5 _ (List.mem_of_getElem? (i := 203) rfl)), (List.forall_mem_cons.mpr ⟨(tb_1 _ (List.mem_of_getElem? (i := 12) rfl)), (List.forall_mem_cons.mpr ⟨(tb_5 _ (List.mem_of_getElem? (i := 202) rfl)), (List.forall_mem_cons.mpr ⟨(tb_0 _ (List.mem_of_getElem? (i := 5) rfl)), (fun _ h => absurd h List.not_mem_nil)⟩)⟩)⟩)⟩)
set_option maxRecDepth 20000 in
theorem mw_164 : ∀ w ∈ mm_mw 164, w ∈ lw_tbl := (List.forall_mem_cons.mpr ⟨(tb_5 _ (List.mem_of_getElem? (i := 207) rfl)), (List.forall_mem_cons.mpr ⟨(tb_1 _ (List.mem_of_getElem? (i := 12) rfl)), (List.forall_mem_cons.mpr ⟨(tb_5 _ (List.mem_of_getElem? (i := 206) rfl)), (List.forall_mem_cons.mpr ⟨(tb_0 _ (List.mem_of_getElem? (i := 6) rfl)), (fun _ h => absurd h List.not_mem_nil)⟩)⟩)⟩)⟩)
set_option maxRecDepth 20000 in
theorem mw_165 : ∀ w ∈ mm_mw 165, w ∈ lw_tbl := (List.forall_mem_cons.mpr ⟨(tb_7 _ (List.mem_of_getElem? (i := 22) rfl)), (List.forall_mem_cons.mpr ⟨(tb_1 _ (List.mem_of_getElem? (i := 12) rfl)), (List.forall_mem_cons.mpr ⟨(tb_7 _ (List.mem_of_getElem? (i := 21) rfl)), (List.forall_mem_cons.mpr ⟨(tb_0 _ (List.mem_of_getElem? (i := 19) rfl)), (fun _ h => absurd h List.not_mem_nil)⟩)⟩)⟩)⟩)
set_option maxRecDepth 20000 in
theorem mw_166 : ∀ w ∈ mm_mw 166, w ∈ lw_tbl := (List.forall_mem_cons.mpr ⟨(tb_7 _ (List.mem_of_getElem? (i := 18) rfl)), (List.forall_mem_cons.mpr ⟨(tb_1 _ (List.mem_of_getElem? (i := 12) rfl)), (List.forall_mem_cons.mpr ⟨(tb_7 _ (List.mem_of_getElem? (i := 17) rfl)), (List.forall_mem_cons.mpr ⟨(tb_0 _ (List.mem_of_getElem? (i := 18) rfl)), (fun _ h => absurd h List.not_mem_nil)⟩)⟩)⟩)⟩)
set_option maxRecDepth 20000 in
theorem mw_167 : ∀ w ∈ mm_mw 167, w ∈ lw_tbl := (List.forall_mem_cons.mpr ⟨(tb_7 _ (List.mem_of_getElem? (i := 25) rfl)), (List.forall_mem_cons.mpr ⟨(tb_1 _ (List.mem_of_getElem? (i := 12) rfl)), (List.forall_mem_cons.mpr ⟨(tb_7 _ (List.mem_of_getElem? (i := 24) rfl)), (fun _ h => absurd h List.not_mem_nil)⟩)⟩)⟩)
set_option maxRecDepth 20000 in
theorem mw_168 : ∀ w ∈ mm_mw 168, w ∈ lw_tbl := (List.forall_mem_cons.mpr ⟨(tb_7 _ (List.mem_of_getElem? (i := 14) rfl)), (List.forall_mem_cons.mpr ⟨(tb_1 _ (List.mem_of_getElem? (i := 12) rfl)), (List.forall_mem_cons.mpr ⟨(tb_7 _ (List.mem_of_getElem? (i := 13) rfl)), (List.forall_mem_cons.mpr ⟨(tb_0 _ (List.mem_of_getElem? (i := 17) rfl)), (fun _ h => absurd h List.not_mem_nil)⟩)⟩)⟩)⟩)
set_option maxRecDepth 20000 in
theorem mw_169 : ∀ w ∈ mm_mw 169, w ∈ lw_tbl := (List.forall_mem_cons.mpr ⟨(tb_7 _ (List.mem_of_getElem? (i := 10) rfl)), (List.forall_mem_cons.mpr ⟨(tb_1 _ (List.mem_of_getElem? (i := 12) rfl)), (List.forall_mem_cons.mpr ⟨(tb_7 _ (List.mem_of_getElem? (i := 9) rfl)), (List.forall_mem_cons.mpr ⟨(tb_0 _ (List.mem_of_getElem? (i := 16) rfl)), (fun _ h => absurd h List.not_mem_nil)⟩)⟩)⟩)⟩)
set_option maxRecDepth 20000 in
theorem mw_170 : ∀ w ∈ mm_mw 170, w ∈ lw_tbl := (List.forall_mem_cons.mpr ⟨(tb_7 _ (List.mem_of_getElem? (i := 29) rfl)), (List.forall_mem_cons.mpr ⟨(tb_1 _ (List.mem_of_getElem? (i := 12) rfl)), (List.forall_mem_cons.mpr ⟨(tb_7 _ (List.mem_of_getElem? (i := 28) rfl)), (List.forall_mem_cons.mpr ⟨(tb_0 _ (List.mem_of_getElem? (i := 20) rfl)), (fun _ h => absurd h List.not_mem_nil)⟩)⟩)⟩)⟩)
set_option maxRecDepth 20000 in
theorem mw_171 : ∀ w ∈ mm_mw 171, w ∈ lw_tbl := (List.forall_mem_cons.mpr ⟨(tb_6 _ (List.mem_of_getElem? (i := 238) rfl)), (List.forall_mem_cons.mpr ⟨(tb_1 _ (List.mem_of_getElem? (i := 12) rfl)), (List.forall_mem_cons.mpr ⟨(tb_6 _ (List.mem_of_getElem? (i := 237) rfl)), (List.forall_mem_cons.mpr ⟨(tb_0 _ (List.mem_of_getElem? (i := 13) rfl)), (fun _ h => absurd h List.not_mem_nil)⟩)⟩)⟩)⟩)
set_option maxRecDepth 20000 in
theorem mw_172 : ∀ w ∈ mm_mw 172, w ∈ lw_tbl := (List.forall_mem_cons.mpr ⟨(tb_6 _ (List.mem_of_getElem? (i := 210) rfl)), (List.forall_mem_cons.mpr ⟨(tb_1 _ (List.mem_of_getElem? (i := 12) rfl)), (List.forall_mem_cons.mpr ⟨(tb_6 _ (List.mem_of_getElem? (i := 208) rfl)), (List.forall_mem_cons.mpr ⟨(tb_6 _ (List.mem_of_getElem? (i := 209) rfl)), (fun _ h => absurd h List.not_mem_nil)⟩)⟩)⟩)⟩)
set_option maxRecDepth 20000 in
theorem mw_173 : ∀ w ∈ mm_mw 173, w ∈ lw_tbl := (List.forall_mem_cons.mpr ⟨(tb_7 _ (List.mem_of_getElem? (i := 44) rfl)), (List.forall_mem_cons.mpr ⟨(tb_1 _ (List.mem_of_getElem? (i := 12) rfl)), (List.forall_mem_cons.mpr ⟨(tb_7 _ (List.mem_of_getElem? (i := 42) rfl)), (List.forall_mem_cons.mpr ⟨(tb_7 _ (List.mem_of_getElem? (i := 43) rfl)), (fun _ h => absurd h List.not_mem_nil)⟩)⟩)⟩)⟩)
set_option maxRecDepth 20000 in
theorem mw_174 : ∀ w ∈ mm_mw 174, w ∈ lw_tbl := (List.forall_mem_cons.mpr ⟨(tb_7 _ (List.mem_of_getElem? (i := 52) rfl)), (List.forall_mem_cons.mpr ⟨(tb_1 _ (List.mem_of_getElem? (i := 12) rfl)), (List.forall_mem_cons.mpr ⟨(tb_7 _ (List.mem_of_getElem? (i := 51) rfl)), (List.forall_mem_cons.mpr ⟨(tb_0 _ (List.mem_of_getElem? (i := 23) rfl)), (fun _ h => absurd h List.not_mem_nil)⟩)⟩)⟩)⟩)
set_option maxRecDepth 20000 in
theorem mw_175 : ∀ w ∈ mm_mw 175, w ∈ lw_tbl := (List.forall_mem_cons.mpr ⟨(tb_7 _ (List.mem_of_getElem? (i := 56) rfl)), (List.forall_mem_cons.mpr ⟨(tb_1 _ (List.mem_of_getElem? (i := 12) rfl)), (List.forall_mem_cons.mpr ⟨(tb_7 _ (List.mem_of_getElem? (i := 55) rfl)), (List.forall_mem_cons.mpr ⟨(tb_0 _ (List.mem_of_getElem? (i := 24) rfl)), (fun _ h => absurd h List.not_mem_nil)⟩)⟩)⟩)⟩)
set_option maxRecDepth 20000 in
theorem mw_176 : ∀ w ∈ mm_mw 176, w ∈ lw_tbl := (List.forall_mem_cons.mpr ⟨(tb_7 _ (List.mem_of_getElem? (i := 48) rfl)), (List.forall_mem_cons.mpr ⟨(tb_1 _ (List.mem_of_getElem? (i := 12) rfl)), (List.forall_mem_cons.mpr ⟨(tb_7 _ (List.mem_of_getElem? (i := 46) rfl)), (List.forall_mem_cons.mpr ⟨(tb_7 _ (List.mem_of_getElem? (i := 47) rfl)), (fun _ h => absurd h List.not_mem_nil)⟩)⟩)⟩)⟩)
set_option maxRecDepth 20000 in
theorem mw_177 : ∀ w ∈ mm_mw 177, w ∈ lw_tbl := (List.forall_mem_cons.mpr ⟨(tb_7 _ (List.mem_of_getElem? (i := 64) rfl)), (List.forall_mem_cons.mpr ⟨(tb_1 _ (List.mem_of_getElem? (i := 12) rfl)), (List.forall_mem_cons.mpr ⟨(tb_7 _ (List.mem_of_getElem? (i := 63) rfl)), (List.forall_mem_cons.mpr ⟨(tb_0 _ (List.mem_of_getElem? (i := 25) rfl)), (fun _ h => absurd h List.not_mem_nil)⟩)⟩)⟩)⟩)
set_option maxRecDepth 20000 in
theorem mw_178 : ∀ w ∈ mm_mw 178, w ∈ lw_tbl := (List.forall_mem_cons.mpr ⟨(tb_7 _ (List.mem_of_getElem? (i := 80) rfl)), (List.forall_mem_cons.mpr ⟨(tb_1 _ (List.mem_of_getElem? (i := 12) rfl)), (List.forall_mem_cons.mpr ⟨(tb_7 _ (List.mem_of_getElem? (i := 79) rfl)), (List.forall_mem_cons.mpr ⟨(tb_0 _ (List.mem_of_getElem? (i := 28) rfl)), (fun _ h => absurd h List.not_mem_nil)⟩)⟩)⟩)⟩)
set_option maxRecDepth 20000 in
theorem mw_179 : ∀ w ∈ mm_mw 179, w ∈ lw_tbl := (List.forall_mem_cons.mpr ⟨(tb_7 _ (List.mem_of_getElem? (i := 96) rfl)), (List.forall_mem_cons.mpr ⟨(tb_1 _ (List.mem_of_getElem? (i := 12) rfl)), (List.forall_mem_cons.mpr ⟨(tb_7 _ (List.mem_of_getElem? (i := 95) rfl)), (List.forall_mem_cons.mpr ⟨(tb_0 _ (List.mem_of_getElem? (i := 31) rfl)), (fun _ h => absurd h List.not_mem_nil)⟩)⟩)⟩)⟩)
set_option maxRecDepth 20000 in
theorem mw_180 : ∀ w ∈ mm_mw 180, w ∈ lw_tbl := (List.forall_mem_cons.mpr ⟨(tb_7 _ (List.mem_of_getElem? (i := 68) rfl)), (List.forall_mem_cons.mpr ⟨(tb_1 _ (List.mem_of_getElem? (i := 12) rfl)), (List.forall_mem_cons.mpr ⟨(tb_7 _ (List.mem_of_getElem? (i := 67) rfl)), (List.forall_mem_cons.mpr ⟨(tb_0 _ (List.mem_of_getElem? (i := 26) rfl)), (fun _ h => absurd h List.not_mem_nil)⟩)⟩)⟩)⟩)
set_option maxRecDepth 20000 in
theorem mw_181 : ∀ w ∈ mm_mw 181, w ∈ lw_tbl := (List.forall_mem_cons.mpr ⟨(tb_7 _ (List.mem_of_getElem? (i := 60) rfl)), (List.forall_mem_cons.mpr ⟨(tb_1 _ (List.mem_of_getElem? (i := 12) rfl)), (List.forall_mem_cons.mpr ⟨(tb_7 _ (List.mem_of_getElem? (i := 58) rfl)), (List.forall_mem_cons.mpr ⟨(tb_7 _ (List.mem_of_getElem? (i := 59) rfl)), (fun _ h => absurd h List.not_mem_nil)⟩)⟩)⟩)⟩)
set_option maxRecDepth 20000 in
theorem mw_182 : ∀ w ∈ mm_mw 182, w ∈ lw_tbl := (List.forall_mem_cons.mpr ⟨(tb_7 _ (List.mem_of_getElem? (i := 84) rfl)), (List.forall_mem_cons.mpr ⟨(tb_1 _ (List.mem_of_getElem? (i := 12) rfl)), (List.forall_mem_cons.mpr ⟨(tb_7 _ (List.mem_of_getElem? (i := 83) rfl)), (List.forall_mem_cons.mpr ⟨(tb_0 _ (List.mem_of_getElem? (i := 29) rfl)), (fun _ h => absurd h List.not_mem_nil)⟩)⟩)⟩)⟩)
set_option maxRecDepth 20000 in
theorem mw_183 : ∀ w ∈ mm_mw 183, w ∈ lw_tbl := (List.forall_mem_cons.mpr ⟨(tb_7 _ (List.mem_of_getElem? (i := 76) rfl)), (List.forall_mem_cons.mpr ⟨(tb_1 _ (List.mem_of_getElem? (i := 12) rfl)), (List.forall_mem_cons.mpr ⟨(tb_7 _ (List.mem_of_getElem? (i := 75) rfl)), (List.forall_mem_cons.mpr ⟨(tb_0 _ (List.mem_of_getElem? (i := 27) rfl)), (fun _ h => absurd h List.not_mem_nil)⟩)⟩)⟩)⟩)
set_option maxRecDepth 20000 in
theorem mw_184 : ∀ w ∈ mm_mw 184, w ∈ lw_tbl := (List.forall_mem_cons.mpr ⟨(tb_7 _ (List.mem_of_getElem? (i := 72) rfl)), (List.forall_mem_cons.mpr ⟨(tb_1 _ (List.mem_of_getElem? (i := 12) rfl)), (List.forall_mem_cons.mpr ⟨(tb_7 _ (List.mem_of_getElem? (i := 70) rfl)), (List.forall_mem_cons.mpr ⟨(tb_7 _ (List.mem_of_getElem? (i := 71) rfl)), (fun _ h => absurd h List.not_mem_nil)⟩)⟩)⟩)⟩)
set_option maxRecDepth 20000 in
theorem mw_185 : ∀ w ∈ mm_mw 185, w ∈ lw_tbl := (List.forall_mem_cons.mpr ⟨(tb_7 _ (List.mem_of_getElem? (i := 92) rfl)), (List.forall_mem_cons.mpr ⟨(tb_1 _ (List.mem_of_getElem? (i := 12) rfl)), (List.forall_mem_cons.mpr ⟨(tb_7 _ (List.mem_of_getElem? (i := 91) rfl)), (List.forall_mem_cons.mpr ⟨(tb_0 _ (List.mem_of_getElem? (i := 30) rfl)), (fun _ h => absurd h List.not_mem_nil)⟩)⟩)⟩)⟩)
set_option maxRecDepth 20000 in
theorem mw_186 : ∀ w ∈ mm_mw 186, w ∈ lw_tbl := (List.forall_mem_cons.mpr ⟨(tb_7 _ (List.mem_of_getElem? (i := 121) rfl)), (List.forall_mem_cons.mpr ⟨(tb_1 _ (List.mem_of_getElem? (i := 12) rfl)), (List.forall_mem_cons.mpr ⟨(tb_7 _ (List.mem_of_getElem? (i := 120) rfl)), (List.forall_mem_cons.mpr ⟨(tb_0 _ (List.mem_of_getElem? (i := 35) rfl)), (fun _ h => absurd h List.not_mem_nil)⟩)⟩)⟩)⟩)
set_option maxRecDepth 20000 in
theorem mw_187 : ∀ w ∈ mm_mw 187, w ∈ lw_tbl := (List.forall_mem_cons.mpr ⟨(tb_7 _ (List.mem_of_getElem? (i := 109) rfl)), (List.forall_mem_cons.mpr ⟨(tb_1 _ (List.mem_of_getElem? (i := 12) rfl)), (List.forall_mem_cons.mpr ⟨(tb_7 _ (List.mem_of_getElem? (i := 108) rfl)), (List.forall_mem_cons.mpr ⟨(tb_0 _ (List.mem_of_getElem? (i := 34) rfl)), (fun _ h => absurd h List.not_mem_nil)⟩)⟩)⟩)⟩)
set_option maxRecDepth 20000 in
theorem mw_188 : ∀ w ∈ mm_mw 188, w ∈ lw_tbl := (List.forall_mem_cons.mpr ⟨(tb_7 _ (List.mem_of_getElem? (i := 100) rfl)), (List.forall_mem_cons.mpr ⟨(tb_1 _ (List.mem_of_getElem? (i := 12) rfl)), (List.forall_mem_cons.mpr ⟨(tb_7 _ (List.mem_of_getElem? (i := 99) rfl)), (List.forall_mem_cons.mpr ⟨(tb_0 _ (List.mem_of_getElem? (i := 32) rfl)), (fun _ h => absurd h List.not_mem_nil)⟩)⟩)⟩)⟩)
set_option maxRecDepth 20000 in
theorem mw_189 : ∀ w ∈ mm_mw 189, w ∈ lw_tbl := (List.forall_mem_cons.mpr ⟨(tb_7 _ (List.mem_of_getElem? (i := 104) rfl)), (List.forall_mem_cons.mpr ⟨(tb_1 _ (List.mem_of_getElem? (i := 12) rfl)), (List.forall_mem_cons.mpr ⟨(tb_7 _ (List.mem_of_getElem? (i := 103) rfl)), (List.forall_mem_cons.mpr ⟨(tb_0 _ (List.mem_of_getElem? (i := 33) rfl)), (fun _ h => absurd h List.not_mem_nil)⟩)⟩)⟩)⟩)
set_option maxRecDepth 20000 in
theorem mw_190 : ∀ w ∈ mm_mw 190, w ∈ lw_tbl := (List.forall_mem_cons.mpr ⟨(tb_7 _ (List.mem_of_getElem? (i := 125) rfl)), (List.forall_mem_cons.mpr ⟨(tb_1 _ (List.mem_of_getElem? (i := 12) rfl)), (List.forall_mem_cons.mpr ⟨(tb_7 _ (List.mem_of_getElem? (i := 124) rfl)), (List.forall_mem_cons.mpr ⟨(tb_0 _ (List.mem_of_getElem? (i := 36) rfl)), (fun _ h => absurd h List.not_mem_nil)⟩)⟩)⟩)⟩)
set_option maxRecDepth 20000 in
theorem mw_191 : ∀ w ∈ mm_mw 191, w ∈ lw_tbl := (List.forall_mem_cons.mpr ⟨(tb_7 _ (List.mem_of_getElem? (i := 88) rfl)), (List.forall_mem_cons.mpr ⟨(tb_1 _ (List.mem_of_getElem? (i := 12) rfl)), (List.forall_mem_cons.mpr ⟨(tb_7 _ (List.mem_of_getElem? (i := 86) rfl)), (List.forall_mem_cons.mpr ⟨(tb_7 _ (List.mem_of_getElem? (i := 87) rfl)), (fun _ h => absurd h List.not_mem_nil)⟩)⟩)⟩)⟩)
set_option maxRecDepth 20000 in
theorem mw_192 : ∀ w ∈ mm_mw 192, w ∈ lw_tbl := (List.forall_mem_cons.mpr ⟨(tb_7 _ (List.mem_of_getElem? (i := 113) rfl)), (List.forall_mem_cons.mpr ⟨(tb_1 _ (List.mem_of_getElem? (i := 12) rfl)), (List.forall_mem_cons.mpr ⟨(tb_7 _ (List.mem_of_getElem? (i := 111) rfl)), (List.forall_mem_cons.mpr ⟨(tb_7 _ (List.mem_of_getElem? (i := 112) rfl)), (fun _ h => absurd h List.not_mem_nil)⟩)⟩)⟩)⟩)
set_option maxRecDepth 20000 in
theorem mw_193 : ∀ w ∈ mm_mw 193, w ∈ lw_tbl := (List.forall_mem_cons.mpr ⟨(tb_7 _ (List.mem_of_getElem? (i := 117) rfl)), (List.forall_mem_cons.mpr ⟨(tb_1 _ (List.mem_of_getElem? (i := 12) rfl)), (List.forall_mem_cons.mpr ⟨(tb_7 _ (List.mem_of_getElem? (i := 115) rfl)), (List.forall_mem_cons.mpr ⟨(tb_7 _ (List.mem_of_getElem? (i := 116) rfl)), (fun _ h => absurd h List.not_mem_nil)⟩)⟩)⟩)⟩)
set_option maxRecDepth 20000 in
theorem mw_194 : ∀ w ∈ mm_mw 194, w ∈ lw_tbl := (List.forall_mem_cons.mpr ⟨(tb_7 _ (List.mem_of_getElem? (i := 129) rfl)), (List.forall_mem_cons.mpr ⟨(tb_1 _ (List.mem_of_getElem? (i := 12) rfl)), (List.forall_mem_cons.mpr ⟨(tb_7 _ (List.mem_of_getElem? (i := 127) rfl)), (List.forall_mem_cons.mpr ⟨(tb_7 _ (List.mem_of_getElem? (i := 128) rfl)), (fun _ h => absurd h List.not_mem_nil)⟩)⟩)⟩)⟩)
set_option maxRecDepth 20000 in
theorem mw_195 : ∀ w ∈ mm_mw 195, w ∈ lw_tbl := (List.forall_mem_cons.mpr ⟨(tb_7 _ (List.mem_of_getElem? (i := 133) rfl)), (List.forall_mem_cons.mpr ⟨(tb_1 _ (List.mem_of_getElem? (i := 12) rfl)), (List.forall_mem_cons.mpr ⟨(tb_7 _ (List.mem_of_getElem? (i := 131) rfl)), (List.forall_mem_cons.mpr ⟨(tb_7 _ (List.mem_of_getElem? (i := 132) rfl)), (fun _ h => absurd h List.not_mem_nil)⟩)⟩)⟩)⟩)
set_option maxRecDepth 20000 in
theorem mw_196 : ∀ w ∈ mm_mw 196, w ∈ lw_tbl := (List.forall_mem_cons.mpr ⟨(tb_7 _ (List.mem_of_getElem? (i := 141) rfl)), (List.forall_mem_cons.mpr ⟨(tb_1 _ (List.mem_of_getElem? (i := 12) rfl)), (List.forall_mem_cons.mpr ⟨(tb_7 _ (List.mem_of_getElem? (i := 140) rfl)), (List.forall_mem_cons.mpr ⟨(tb_0 _ (List.mem_of_getElem? (i := 37) rfl)), (fun _ h => absurd h List.not_mem_nil)⟩)⟩)⟩)⟩)
set_option maxRecDepth 20000 in
theorem mw_197 : ∀ w ∈ mm_mw 197, w ∈ lw_tbl := (List.forall_mem_cons.mpr ⟨(tb_7 _ (List.mem_of_getElem? (i := 137) rfl)), (List.forall_mem_cons.mpr ⟨(tb_1 _ (List.mem_of_getElem? (i := 12) rfl)), (List.forall_mem_cons.mpr ⟨(tb_7 _ (List.mem_of_getElem? (i := 135) rfl)), (List.forall_mem_cons.mpr ⟨(tb_7 _ (List.mem_of_getElem? (i := 136) rfl)), (fun _ h => absurd h List.not_mem_nil)⟩)⟩)⟩)⟩)
set_option maxRecDepth 20000 in
theorem mw_198 : ∀ w ∈ mm_mw 198, w ∈ lw_tbl := (List.forall_mem_cons.mpr ⟨(tb_7 _ (List.mem_of_getElem? (i := 148) rfl)), (List.forall_mem_cons.mpr ⟨(tb_1 _ (List.mem_of_getElem? (i := 12) rfl)), (List.forall_mem_cons.mpr ⟨(tb_7 _ (List.mem_of_getElem? (i := 146) rfl)), (List.forall_mem_cons.mpr ⟨(tb_7 _ (List.mem_of_getElem? (i := 147) rfl)), (fun _ h => absurd h List.not_mem_nil)⟩)⟩)⟩)⟩)
set_option maxRecDepth 20000 in
theorem mw_199 : ∀ w ∈ mm_mw 199, w ∈ lw_tbl := (List.forall_mem_cons.mpr ⟨(tb_7 _ (List.mem_of_getElem? (i := 152) rfl)), (List.forall_mem_cons.mpr ⟨(tb_1 _ (List.mem_of_getElem? (i := 12) rfl)), (List.forall_mem_cons.mpr ⟨(tb_7 _ (List.mem_of_getElem? (i := 150) rfl)), (List.forall_mem_cons.mpr ⟨(tb_7 _ (List.mem_of_getElem? (i := 151) rfl)), (fun _ h => absurd h List.not_mem_nil)⟩)⟩)⟩)⟩)
set_option maxRecDepth 20000 in
theorem mw_200 : ∀ w ∈ mm_mw 200, w ∈ lw_tbl := (List.forall_mem_cons.mpr ⟨(tb_7 _ (List.mem_of_getElem? (i := 160) rfl)), (List.forall_mem_cons.mpr ⟨(tb_1 _ (List.mem_of_getElem? (i := 12) rfl)), (List.forall_mem_cons.mpr ⟨(tb_7 _ (List.mem_of_getElem? (i := 159) rfl)), (List.forall_mem_cons.mpr ⟨(tb_0 _ (List.mem_of_getElem? (i := 38) rfl)), (fun _ h => absurd h List.not_mem_nil)⟩)⟩)⟩)⟩)
set_option maxRecDepth 20000 in
theorem mw_201 : ∀ w ∈ mm_mw 201, w ∈ lw_tbl := (List.forall_mem_cons.mpr ⟨(tb_7 _ (List.mem_of_getElem? (i := 156) rfl)), (List.forall_mem_cons.mpr ⟨(tb_1 _ (List.mem_of_getElem? (i := 12) rfl)), (List.forall_mem_cons.mpr ⟨(tb_7 _ (List.mem_of_getElem? (i := 154) rfl)), (List.forall_mem_cons.mpr ⟨(tb_7 _ (List.mem_of_getElem? (i := 155) rfl)), (fun _ h => absurd h List.not_mem_nil)⟩)⟩)⟩)⟩)
set_option maxRecDepth 20000 in
theorem mw_202 : ∀ w ∈ mm_mw 202, w ∈ lw_tbl := (List.forall_mem_cons.mpr ⟨(tb_7 _ (List.mem_of_getElem? (i := 164) rfl)), (List.forall_mem_cons.mpr ⟨(tb_1 _ (List.mem_of_getElem? (i := 12) rfl)), (List.forall_mem_cons.mpr ⟨(tb_7 _ (List.mem_of_getElem? (i := 162) rfl)), (List.forall_mem_cons.mpr ⟨(tb_7 _ (List.mem_of_getElem? (i := 163) rfl)), (fun _ h => absurd h List.not_mem_nil)⟩)⟩)⟩)⟩)
set_option maxRecDepth 20000 in
theorem mw_203 : ∀ w ∈ mm_mw 203, w ∈ lw_tbl := (List.forall_mem_cons.mpr ⟨(tb_7 _ (List.mem_of_getElem? (i := 168) rfl)), (List.forall_mem_cons.mpr ⟨(tb_1 _ (List.mem_of_getElem? (i := 12) rfl)), (List.forall_mem_cons.mpr ⟨(tb_7 _ (List.mem_of_getElem? (i := 166) rfl)), (List.forall_mem_cons.mpr ⟨(tb_7 _ (List.mem_of_getElem? (i := 167) rfl)), (fun _ h => absurd h List.not_mem_nil)⟩)⟩)⟩)⟩)
set_option maxRecDepth 20000 in
theorem mw_204 : ∀ w ∈ mm_mw 204, w ∈ lw_tbl := (List.forall_mem_cons.mpr ⟨(tb_7 _ (List.mem_of_getElem? (i := 175) rfl)), (List.forall_mem_cons.mpr ⟨(tb_1 _ (List.mem_of_getElem? (i := 12) rfl)), (List.forall_mem_cons.mpr ⟨(tb_7 _ (List.mem_of_getElem? (i := 174) rfl)), (fun _ h => absurd h List.not_mem_nil)⟩)⟩)⟩)
set_option maxRecDepth 20000 in
theorem mw_205 : ∀ w ∈ mm_mw 205, w ∈ lw_tbl := (List.forall_mem_cons.mpr ⟨(tb_7 _ (List.mem_of_getElem? (i := 172) rfl)), (List.forall_mem_cons.mpr ⟨(tb_1 _ (List.mem_of_getElem? (i := 12) rfl)), (List.forall_mem_cons.mpr ⟨(tb_7 _ (List.mem_of_getElem? (i := 170) rfl)), (List.forall_mem_cons.mpr ⟨(tb_7 _ (List.mem_of_getElem? (i := 171) rfl)), (fun _ h => absurd h List.not_mem_nil)⟩)⟩)⟩)⟩)
set_option maxRecDepth 20000 in
theorem mw_206 : ∀ w ∈ mm_mw 206, w ∈ lw_tbl := (List.forall_mem_cons.mpr ⟨(tb_7 _ (List.mem_of_getElem? (i := 183) rfl)), (List.forall_mem_cons.mpr ⟨(tb_1 _ (List.mem_of_getElem? (i := 12) rfl)), (List.forall_mem_cons.mpr ⟨(tb_7 _ (List.mem_of_getElem? (i := 182) rfl)), (List.forall_mem_cons.mpr ⟨(tb_0 _ (List.mem_of_getElem? (i := 39) rfl)), (fun _ h => absurd h List.not_mem_nil)⟩)⟩)⟩)⟩)
set_option maxRecDepth 20000 in
theorem mw_207 : ∀ w ∈ mm_mw 207, w ∈ lw_tbl := (List.forall_mem_cons.mpr ⟨(tb_7 _ (List.mem_of_getElem? (i := 179) rfl)), (List.forall_mem_cons.mpr ⟨(tb_1 _ (List.mem_of_getElem? (i := 12) rfl)), (List.forall_mem_cons.mpr ⟨(tb_7 _ (List.mem_of_getElem? (i := 177) rfl)), (List.forall_mem_cons.mpr ⟨(tb_7 _ (List.mem_of_getElem? (i := 178) rfl)), (fun _ h => absurd h List.not_mem_nil)⟩)⟩)⟩)⟩)
set_option maxRecDepth 20000 in
theorem mw_208 : ∀ w ∈ mm_mw 208, w ∈ lw_tbl := (List.forall_mem_cons.mpr ⟨(tb_7 _ (List.mem_of_getElem? (i := 187) rfl)), (List.forall_mem_cons.mpr ⟨(tb_1 _ (List.mem_of_getElem? (i := 12) rfl)), (List.forall_mem_cons.mpr ⟨(tb_7 _ (List.mem_of_getElem? (i := 185) rfl)), (List.forall_mem_cons.mpr ⟨(tb_7 _ (List.mem_of_getElem? (i := 186) rfl)), (fun _ h => absurd h List.not_mem_nil)⟩)⟩)⟩)⟩)
set_option maxRecDepth 20000 in
theorem mw_209 : ∀ w ∈ mm_mw 209, w ∈ lw_tbl := (List.forall_mem_cons.mpr ⟨(tb_7 _ (List.mem_of_getElem? (i := 232) rfl)), (List.forall_mem_cons.mpr ⟨(tb_1 _ (List.mem_of_getElem? (i := 12) rfl)), (List.forall_mem_cons.mpr ⟨(tb_7 _ (List.mem_of_getElem? (i := 231) rfl)), (List.forall_mem_cons.mpr ⟨(tb_0 _ (List.mem_of_getElem? (i := 49) rfl)), (fun _ h => absurd h List.not_mem_nil)⟩)⟩)⟩)⟩)
set_option maxRecDepth 20000 in
theorem mw_210 : ∀ w ∈ mm_mw 210, w ∈ lw_tbl := (List.forall_mem_cons.mpr ⟨(tb_7 _ (List.mem_of_getElem? (i := 203) rfl)), (List.forall_mem_cons.mpr ⟨(tb_1 _ (List.mem_of_getElem? (i := 12) rfl)), (List.forall_mem_cons.mpr ⟨(tb_7 _ (List.mem_of_getElem? (i := 202) rfl)), (List.forall_mem_cons.mpr ⟨(tb_0 _ (List.mem_of_getElem? (i := 42) rfl)), (fun _ h => absurd h List.not_mem_nil)⟩)⟩)⟩)⟩)
set_option maxRecDepth 20000 in
theorem mw_211 : ∀ w ∈ mm_mw 211, w ∈ lw_tbl := (List.forall_mem_cons.mpr ⟨(tb_7 _ (List.mem_of_getElem? (i := 216) rfl)), (List.forall_mem_cons.mpr ⟨(tb_1 _ (List.mem_of_getElem? (i := 12) rfl)), (List.forall_mem_cons.mpr ⟨(tb_7 _ (List.mem_of_getElem? (i := 215) rfl)), (List.forall_mem_cons.mpr ⟨(tb_0 _ (List.mem_of_getElem? (i := 45) rfl)), (fun _ h => absurd h List.not_mem_nil)⟩)⟩)⟩)⟩)
set_option maxRecDepth 20000 in
theorem mw_212 : ∀ w ∈ mm_mw 212, w ∈ lw_tbl := (List.forall_mem_cons.mpr ⟨(tb_7 _ (List.mem_of_getElem? (i := 199) rfl)), (List.forall_mem_cons.mpr ⟨(tb_1 _ (List.mem_of_getElem? (i := 12) rfl)), (List.forall_mem_cons.mpr ⟨(tb_7 _ (List.mem_of_getElem? (i := 198) rfl)), (List.forall_mem_cons.mpr ⟨(tb_0 _ (List.mem_of_getElem? (i := 41) rfl)), (fun _ h => absurd h List.not_mem_nil)⟩)⟩)⟩)⟩)
set_option maxRecDepth 20000 in
theorem mw_213 : ∀ w ∈ mm_mw 213, w ∈ lw_tbl := (List.forall_mem_cons.mpr ⟨(tb_7 _ (List.mem_of_getElem? (i := 220) rfl)), (List.forall_mem_cons.mpr ⟨(tb_1 _ (List.mem_of_getElem? (i := 12) rfl)), (List.forall_mem_cons.mpr ⟨(tb_7 _ (List.mem_of_getElem? (i := 219) rfl)), (List.forall_mem_cons.mpr ⟨(tb_0 _ (List.mem_of_getElem? (i := 46) rfl)), (fun _ h => absurd h List.not_mem_nil)⟩)⟩)⟩)⟩)
set_option maxRecDepth 20000 in
theorem mw_214 : ∀ w ∈ mm_mw 214, w ∈ lw_tbl := (List.forall_mem_cons.mpr ⟨(tb_7 _ (List.mem_of_getElem? (i := 195) rfl)), (List.forall_mem_cons.mpr ⟨(tb_1 _ (List.mem_of_getElem? (i := 12) rfl)), (List.forall_mem_cons.mpr ⟨(tb_7 _ (List.mem_of_getElem? (i := 194) rfl)), (List.forall_mem_cons.mpr ⟨(tb_0 _ (List.mem_of_getElem? (i := 40) rfl)), (fun _ h => absurd h List.not_mem_nil)⟩)⟩)⟩)⟩)
set_option maxRecDepth 20000 in
theorem mw_215 : ∀ w ∈ mm_mw 215, w ∈ lw_tbl := (List.forall_mem_cons.mpr ⟨(tb_7 _ (List.mem_of_getElem? (i := 228) rfl)), (List.forall_mem_cons.mpr ⟨(tb_1 _ (List.mem_of_getElem? (i := 12) rfl)), (List.forall_mem_cons.mpr ⟨(tb_7 _ (List.mem_of_getElem? (i := 227) rfl)), (List.forall_mem_cons.mpr ⟨(tb_0 _ (List.mem_of_getElem? (i := 48) rfl)), (fun _ h => absurd h List.not_mem_nil)⟩)⟩)⟩)⟩)
set_option maxRecDepth 20000 in
theorem mw_216 : ∀ w ∈ mm_mw 216, w ∈ lw_tbl := (List.forall_mem_cons.mpr ⟨(tb_7 _ (List.mem_of_getElem? (i := 236) rfl)), (List.forall_mem_cons.mpr ⟨(tb_1 _ (List.mem_of_getElem? (i := 12) rfl)), (List.forall_mem_cons.mpr ⟨(tb_7 _ (List.mem_of_getElem? (i := 235) rfl)), (List.forall_mem_cons.mpr ⟨(tb_0 _ (List.mem_of_getElem? (i := 50) rfl)), (fun _ h => absurd h List.not_mem_nil)⟩)⟩)⟩)⟩)
set_option maxRecDepth 20000 in
theorem mw_217 : ∀ w ∈ mm_mw 217, w ∈ lw_tbl := (List.forall_mem_cons.mpr ⟨(tb_7 _ (List.mem_of_getElem? (i := 224) rfl)), (List.forall_mem_cons.mpr ⟨(tb_1 _ (List.mem_of_getElem? (i := 12) rfl)), (List.forall_mem_cons.mpr ⟨(tb_7 _ (List.mem_of_getElem? (i := 223) rfl)), (List.forall_mem_cons.mpr ⟨(tb_0 _ (List.mem_of_getElem? (i := 47) rfl)), (fun _ h => absurd h List.not_mem_nil)⟩)⟩)⟩)⟩)
set_option maxRecDepth 20000 in
theorem mw_218 : ∀ w ∈ mm_mw 218, w ∈ lw_tbl := (List.forall_mem_cons.mpr ⟨(tb_7 _ (List.mem_of_getElem? (i := 191) rfl)), (List.forall_mem_cons.mpr ⟨(tb_1 _ (List.mem_of_getElem? (i := 12) rfl)), (List.forall_mem_cons.mpr ⟨(tb_7 _ (List.mem_of_getElem? (i := 189) rfl)), (List.forall_mem_cons.mpr ⟨(tb_7 _ (List.mem_of_getElem? (i := 190) rfl)), (fun _ h => absurd h List.not_mem_nil)⟩)⟩)⟩)⟩)
set_option maxRecDepth 20000 in
theorem mw_219 : ∀ w ∈ mm_mw 219, w ∈ lw_tbl := (List.forall_mem_cons.mpr ⟨(tb_8 _ (List.mem_of_getElem? (i := 20) rfl)), (List.forall_mem_cons.mpr ⟨(tb_1 _ (List.mem_of_getElem? (i := 12) rfl)), (List.forall_mem_cons.mpr ⟨(tb_8 _ (List.mem_of_getElem? (i := 19) rfl)), (List.forall_mem_cons.mpr ⟨(tb_0 _ (List.mem_of_getElem? (i := 55) rfl)), (fun _ h => absurd h List.not_mem_nil)⟩)⟩)⟩)⟩)
set_option maxRecDepth 20000 in
theorem mw_220 : ∀ w ∈ mm_mw 220, w ∈ lw_tbl := (List.forall_mem_cons.mpr ⟨(tb_8 _ (List.mem_of_getElem? (i := 12) rfl)), (List.forall_mem_cons.mpr ⟨(tb_1 _ (List.mem_of_getElem? (i := 12) rfl)), (List.forall_mem_cons.mpr ⟨(tb_8 _ (List.mem_of_getElem? (i := 11) rfl)), (List.forall_mem_cons.mpr ⟨(tb_0 _ (List.mem_of_getElem? (i := 53) rfl)), (fun _ h => absurd h List.not_mem_nil)⟩)⟩)⟩)⟩)
set_option maxRecDepth 20000 in
theorem mw_221 : ∀ w ∈ mm_mw 221, w ∈ lw_tbl := (List.forall_mem_cons.mpr ⟨(tb_8 _ (List.mem_of_getElem? (i := 28) rfl)), (List.forall_mem_cons.mpr ⟨(tb_1 _ (List.mem_of_getElem? (i := 12) rfl)), (List.forall_mem_cons.mpr ⟨(tb_8 _ (List.mem_of_getElem? (i := 27) rfl)), (List.forall_mem_cons.mpr ⟨(tb_0 _ (List.mem_of_getElem? (i := 57) rfl)), (fun _ h => absurd h List.not_mem_nil)⟩)⟩)⟩)⟩)
set_option maxRecDepth 20000 in
theorem mw_222 : ∀ w ∈ mm_mw 222, w ∈ lw_tbl := (List.forall_mem_cons.mpr ⟨(tb_8 _ (List.mem_of_getElem? (i := 24) rfl)), (List.forall_mem_cons.mpr ⟨(tb_1 _ (List.mem_of_getElem? (i := 12) rfl)), (List.forall_mem_cons.mpr ⟨(tb_8 _ (List.mem_of_getElem? (i := 23) rfl)), (List.forall_mem_cons.mpr ⟨(tb_0 _ (List.mem_of_getElem? (i := 56) rfl)), (fun _ h => absurd h List.not_mem_nil)⟩)⟩)⟩)⟩)
set_option maxRecDepth 20000 in
theorem mw_223 : ∀ w ∈ mm_mw 223, w ∈ lw_tbl := (List.forall_mem_cons.mpr ⟨(tb_8 _ (List.mem_of_getElem? (i := 8) rfl)), (List.forall_mem_cons.mpr ⟨(tb_1 _ (List.mem_of_getElem? (i := 12) rfl)), (List.forall_mem_cons.mpr ⟨(tb_8 _ (List.mem_of_getElem? (i := 7) rfl)), (List.forall_mem_cons.mpr ⟨(tb_0 _ (List.mem_of_getElem? (i := 52) rfl)), (fun _ h => absurd h List.not_mem_nil)⟩)⟩)⟩)⟩)
set_option maxRecDepth 20000 in
theorem mw_224 : ∀ w ∈ mm_mw 224, w ∈ lw_tbl := (List.forall_mem_cons.mpr ⟨(tb_8 _ (List.mem_of_getElem? (i := 4) rfl)), (List.forall_mem_cons.mpr ⟨(tb_1 _ (List.mem_of_getElem? (i := 12) rfl)), (List.forall_mem_cons.mpr ⟨(tb_8 _ (List.mem_of_getElem? (i := 3) rfl)), (List.forall_mem_cons.mpr ⟨(tb_0 _ (List.mem_of_getElem? (i := 51) rfl)), (fun _ h => absurd h List.not_mem_nil)⟩)⟩)⟩)⟩)
set_option maxRecDepth 20000 in
theorem mw_225 : ∀ w ∈ mm_mw 225, w ∈ lw_tbl := (List.forall_mem_cons.mpr ⟨(tb_8 _ (List.mem_of_getElem? (i := 16) rfl)), (List.forall_mem_cons.mpr ⟨(tb_1 _ (List.mem_of_getElem? (i := 12) rfl)), (List.forall_mem_cons.mpr ⟨(tb_8 _ (List.mem_of_getElem? (i := 15) rfl)), (List.forall_mem_cons.mpr ⟨(tb_0 _ (List.mem_of_getElem? (i := 54) rfl)), (fun _ h => absurd h List.not_mem_nil)⟩)⟩)⟩)⟩)
set_option maxRecDepth 20000 in
theorem mw_226 : ∀ w ∈ mm_mw 226, w ∈ lw_tbl := (List.forall_mem_cons.mpr ⟨(tb_8 _ (List.mem_of_getElem? (i := 0) rfl)), (List.forall_mem_cons.mpr ⟨(tb_1 _ (List.mem_of_getElem? (i := 12) rfl)), (List.forall_mem_cons.mpr ⟨(tb_7 _ (List.mem_of_getElem? (i := 238) rfl)), (List.forall_mem_cons.mpr ⟨(tb_7 _ (List.mem_of_getElem? (i := 239) rfl)), (fun _ h => absurd h List.not_mem_nil)⟩)⟩)⟩)⟩)
set_option maxRecDepth 20000 in
theorem mw_227 : ∀ w ∈ mm_mw 227, w ∈ lw_tbl := (List.forall_mem_cons.mpr ⟨(tb_8 _ (List.mem_of_getElem? (i := 39) rfl)), (List.forall_mem_cons.mpr ⟨(tb_1 _ (List.mem_of_getElem? (i := 12) rfl)), (List.forall_mem_cons.mpr ⟨(tb_8 _ (List.mem_of_getElem? (i := 38) rfl)), (List.forall_mem_cons.mpr ⟨(tb_0 _ (List.mem_of_getElem? (i := 58) rfl)), (fun _ h => absurd h List.not_mem_nil)⟩)⟩)⟩)⟩)
set_option maxRecDepth 20000 in
theorem mw_228 : ∀ w ∈ mm_mw 228, w ∈ lw_tbl := (List.forall_mem_cons.mpr ⟨(tb_8 _ (List.mem_of_getElem? (i := 32) rfl)), (List.forall_mem_cons.mpr ⟨(tb_1 _ (List.mem_of_getElem? (i := 12) rfl)), (List.forall_mem_cons.mpr ⟨(tb_8 _ (List.mem_of_getElem? (i := 30) rfl)), (List.forall_mem_cons.mpr ⟨(tb_8 _ (List.mem_of_getElem? (i := 31) rfl)), (fun _ h => absurd h List.not_mem_nil)⟩)⟩)⟩)⟩)
set_option maxRecDepth 20000 in
theorem mw_229 : ∀ w ∈ mm_mw 229, w ∈ lw_tbl := (List.forall_mem_cons.mpr ⟨(tb_8 _ (List.mem_of_getElem? (i := 46) rfl)), (List.forall_mem_cons.mpr ⟨(tb_1 _ (List.mem_of_getElem? (i := 12) rfl)), (List.forall_mem_cons.mpr ⟨(tb_8 _ (List.mem_of_getElem? (i := 45) rfl)), (fun _ h => absurd h List.not_mem_nil)⟩)⟩)⟩)
set_option maxRecDepth 20000 in
theorem mw_230 : ∀ w ∈ mm_mw 230, w ∈ lw_tbl := (List.forall_mem_cons.mpr ⟨(tb_8 _ (List.mem_of_getElem? (i := 50) rfl)), (List.forall_mem_cons.mpr ⟨(tb_1 _ (List.mem_of_getElem? (i := 12) rfl)), (List.forall_mem_cons.mpr ⟨(tb_8 _ (List.mem_of_getElem? (i := 49) rfl)), (List.forall_mem_cons.mpr ⟨(tb_0 _ (List.mem_of_getElem? (i := 59) rfl)), (fun _ h => absurd h List.not_mem_nil)⟩)⟩)⟩)⟩)
set_option maxRecDepth 20000 in
theorem mw_231 : ∀ w ∈ mm_mw 231, w ∈ lw_tbl := (List.forall_mem_cons.mpr ⟨(tb_8 _ (List.mem_of_getElem? (i := 54) rfl)), (List.forall_mem_cons.mpr ⟨(tb_1 _ (List.mem_of_getElem? (i := 12) rfl)), (List.forall_mem_cons.mpr ⟨(tb_8 _ (List.mem_of_getElem? (i := 53) rfl)), (List.forall_mem_cons.mpr ⟨(tb_0 _ (List.mem_of_getElem? (i := 60) rfl)), (fun _ h => absurd h List.not_mem_nil)⟩)⟩)⟩)⟩)
set_option maxRecDepth 20000 in
theorem mw_232 : ∀ w ∈ mm_mw 232, w ∈ lw_tbl := (List.forall_mem_cons.mpr ⟨(tb_8 _ (List.mem_of_getElem? (i := 43) rfl)), (List.forall_mem_cons.mpr ⟨(tb_1 _ (List.mem_of_getElem? (i := 12) rfl)), (List.forall_mem_cons.mpr ⟨(tb_8 _ (List.mem_of_getElem? (i := 41) rfl)), (List.forall_mem_cons.mpr ⟨(tb_8 _ (List.mem_of_getElem? (i := 42) rfl)), (fun _ h => absurd h List.not_mem_nil)⟩)⟩)⟩)⟩)
set_option maxRecDepth 20000 in
theorem mw_233 : ∀ w ∈ mm_mw 233, w ∈ lw_tbl := (List.forall_mem_cons.mpr ⟨(tb_8 _ (List.mem_of_getElem? (i := 62) rfl)), (List.forall_mem_cons.mpr ⟨(tb_1 _ (List.mem_of_getElem? (i := 12) rfl)), (List.forall_mem_cons.mpr ⟨(tb_8 _ (List.mem_of_getElem? (i := 61) rfl)), (List.forall_mem_cons.mpr ⟨(tb_0 _ (List.mem_of_getElem? (i := 61) rfl)), (fun _ h => absurd h List.not_mem_nil)⟩)⟩)⟩)⟩)
set_option maxRecDepth 20000 in
theorem mw_234 : ∀ w ∈ mm_mw 234, w ∈ lw_tbl := (List.forall_mem_cons.mpr ⟨(tb_8 _ (List.mem_of_getElem? (i := 58) rfl)), (List.forall_mem_cons.mpr ⟨(tb_1 _ (List.mem_of_getElem? (i := 12) rfl)), (List.forall_mem_cons.mpr ⟨(tb_8 _ (List.mem_of_getElem? (i := 56) rfl)), (List.forall_mem_cons.mpr ⟨(tb_8 _ (List.mem_of_getElem? (i := 57) rfl)), (fun _ h => absurd h List.not_mem_nil)⟩)⟩)⟩)⟩)
set_option maxRecDepth 20000 in
theorem mw_235 : ∀ w ∈ mm_mw 235, w ∈ lw_tbl := (List.forall_mem_cons.mpr ⟨(tb_8 _ (List.mem_of_getElem? (i := 70) rfl)), (List.forall_mem_cons.mpr ⟨(tb_1 _ (List.mem_of_getElem? (i := 12) rfl)), (List.forall_mem_cons.mpr ⟨(tb_8 _ (List.mem_of_getElem? (i := 69) rfl)), (List.forall_mem_cons.mpr ⟨(tb_0 _ (List.mem_of_getElem? (i := 62) rfl)), (fun _ h => absurd h List.not_mem_nil)⟩)⟩)⟩)⟩)
set_option maxRecDepth 20000 in
theorem mw_236 : ∀ w ∈ mm_mw 236, w ∈ lw_tbl := (List.forall_mem_cons.mpr ⟨(tb_8 _ (List.mem_of_getElem? (i := 66) rfl)), (List.forall_mem_cons.mpr ⟨(tb_1 _ (List.mem_of_getElem? (i := 12) rfl)), (List.forall_mem_cons.mpr ⟨(tb_8 _ (List.mem_of_getElem? (i := 64) rfl)), (List.forall_mem_cons.mpr ⟨(tb_8 _ (List.mem_of_getElem? (i := 65) rfl)), (fun _ h => absurd h List.not_mem_nil)⟩)⟩)⟩)⟩)
set_option maxRecDepth 20000 in
theorem mw_237 : ∀ w ∈ mm_mw 237, w ∈ lw_tbl := (List.forall_mem_cons.mpr ⟨(tb_8 _ (List.mem_of_getElem? (i := 74) rfl)), (List.forall_mem_cons.mpr ⟨(tb_1 _ (List.mem_of_getElem? (i := 12) rfl)), (List.forall_mem_cons.mpr ⟨(tb_8 _ (List.mem_of_getElem? (i := 72) rfl)), (List.forall_mem_cons.mpr ⟨(tb_8 _ (List.mem_of_getElem? (i := 73) rfl)), (fun _ h => absurd h List.not_mem_nil)⟩)⟩)⟩)⟩)
set_option maxRecDepth 20000 in
theorem mw_238 : ∀ w ∈ mm_mw 238, w ∈ lw_tbl := (List.forall_mem_cons.mpr ⟨(tb_8 _ (List.mem_of_getElem? (i := 78) rfl)), (List.forall_mem_cons.mpr ⟨(tb_1 _ (List.mem_of_getElem? (i := 12) rfl)), (List.forall_mem_cons.mpr ⟨(tb_8 _ (List.mem_of_getElem? (i := 77) rfl)), (List.forall_mem_cons.mpr ⟨(tb_0 _ (List.mem_of_getElem? (i := 63) rfl)), (fun _ h => absurd h List.not_mem_nil)⟩)⟩)⟩)⟩)
set_option maxRecDepth 20000 in
theorem mw_239 : ∀ w ∈ mm_mw 239, w ∈ lw_tbl := (List.forall_mem_cons.mpr ⟨(tb_8 _ (List.mem_of_getElem? (i := 82) rfl)), (List.forall_mem_cons.mpr ⟨(tb_1 _ (List.mem_of_getElem? (i := 12) rfl)), (List.forall_mem_cons.mpr ⟨(tb_8 _ (List.mem_of_getElem? (i := 81) rfl)), (List.forall_mem_cons.mpr ⟨(tb_0 _ (List.mem_of_getElem? (i := 64) rfl)), (fun _ h => absurd h List.not_mem_nil)⟩)⟩)⟩)⟩)
set_option maxRecDepth 20000 in
theorem mw_240 : ∀ w ∈ mm_mw 240, w ∈ lw_tbl := (List.forall_mem_cons.mpr ⟨(tb_8 _ (List.mem_of_getElem? (i := 90) rfl)), (List.forall_mem_cons.mpr ⟨(tb_1 _ (List.mem_of_getElem? (i := 12) rfl)), (List.forall_mem_cons.mpr ⟨(tb_8 _ (List.mem_of_getElem? (i := 89) rfl)), (List.forall_mem_cons.mpr ⟨(tb_0 _ (List.mem_of_getElem? (i := 65) rfl)), (fun _ h => absurd h List.not_mem_nil)⟩)⟩)⟩)⟩)
set_option maxRecDepth 20000 in
theorem mw_241 : ∀ w ∈ mm_mw 241, w ∈ lw_tbl := (List.forall_mem_cons.mpr ⟨(tb_8 _ (List.mem_of_getElem? (i := 86) rfl)), (List.forall_mem_cons.mpr ⟨(tb_1 _ (List.mem_of_getElem? (i := 12) rfl)), (List.forall_mem_cons.mpr ⟨(tb_8 _ (List.mem_of_getElem? (i := 84) rfl)), (List.forall_mem_cons.mpr ⟨(tb_8 _ (List.mem_of_getElem? (i := 85) rfl)), (fun _ h => absurd h List.not_mem_nil)⟩)⟩)⟩)⟩)
set_option maxRecDepth 20000 in
theorem mw_242 : ∀ w ∈ mm_mw 242, w ∈ lw_tbl := (List.forall_mem_cons.mpr ⟨(tb_8 _ (List.mem_of_getElem? (i := 98) rfl)), (List.forall_mem_cons.mpr ⟨(tb_1 _ (List.mem_of_getElem? (i := 12) rfl)), (List.forall_mem_cons.mpr ⟨(tb_8 _ (List.mem_of_getElem? (i := 97) rfl)), (List.forall_mem_cons.mpr ⟨(tb_0 _ (List.mem_of_getElem? (i := 66) rfl)), (fun _ h => absurd h List.not_mem_nil)⟩)⟩)⟩)⟩)
set_option maxRecDepth 20000 in
theorem mw_243 : ∀ w ∈ mm_mw 243, w ∈ lw_tbl := (List.forall_mem_cons.mpr ⟨(tb_8 _ (List.mem_of_getElem? (i := 102) rfl)), (List.forall_mem_cons.mpr ⟨(tb_1 _ (List.mem_of_getElem? (i := 12) rfl)), (List.forall_mem_cons.mpr ⟨(tb_8 _ (List.mem_of_getElem? (i := 101) rfl)), (List.forall_mem_cons.mpr ⟨(tb_0 _ (List.mem_of_getElem? (i := 67) rfl)), (fun _ h => absurd h List.not_mem_nil)⟩)⟩)⟩)⟩)
set_option maxRecDepth 20000 in
theorem mw_244 : ∀ w ∈ mm_mw 244, w ∈ lw_tbl := (List.forall_mem_cons.mpr ⟨(tb_8 _ (List.mem_of_getElem? (i := 94) rfl)), (List.forall_mem_cons.mpr ⟨(tb_1 _ (List.mem_of_getElem? (i := 12) rfl)), (List.forall_mem_cons.mpr ⟨(tb_8 _ (List.mem_of_getElem? (i := 92) rfl)), (List.forall_mem_cons.mpr ⟨(tb_8 _ (List.mem_of_getElem? (i := 93) rfl)), (fun _ h => absurd h List.not_mem_nil)⟩)⟩)⟩)⟩)
set_option maxRecDepth 20000 in
theorem mw_245 : ∀ w ∈ mm_mw 245, w ∈ lw_tbl := (List.forall_mem_cons.mpr ⟨(tb_8 _ (List.mem_of_getElem? (i := 106) rfl)), (List.forall_mem_cons.mpr ⟨(tb_1 _ (List.mem_of_getElem? (i := 12) rfl)), (List.forall_mem_cons.mpr ⟨(tb_8 _ (List.mem_of_getElem? (i := 104) rfl)), (List.forall_mem_cons.mpr ⟨(tb_8 _ (List.mem_of_getElem? (i := 105) rfl)), (fun _ h => absurd h List.not_mem_nil)⟩)⟩)⟩)⟩)
set_option maxRecDepth 20000 in
theorem mw_246 : ∀ w ∈ mm_mw 246, w ∈ lw_tbl := (List.forall_mem_cons.mpr ⟨(tb_4 _ (List.mem_of_getElem? (i := 144) rfl)), (List.forall_mem_cons.mpr ⟨(tb_1 _ (List.mem_of_getElem? (i := 19) rfl)), (List.forall_mem_cons.mpr ⟨(tb_4 _ (List.mem_of_getElem? (i := 143) rfl)), (fun _ h => absurd h List.not_mem_nil)⟩)⟩)⟩)
set_option maxRecDepth 20000 in
theorem mw_247 : ∀ w ∈ mm_mw 247, w ∈ lw_tbl := (List.forall_mem_cons.mpr ⟨(tb_5 _ (List.mem_of_getElem? (i := 1) rfl)), (List.forall_mem_cons.mpr ⟨(tb_1 _ (List.mem_of_getElem? (i := 20) rfl)), (List.forall_mem_cons.mpr ⟨(tb_5 _ (List.mem_of_getElem? (i := 0) rfl)), (fun _ h => absurd h List.not_mem_nil)⟩)⟩)⟩)
set_option maxRecDepth 20000 in
theorem mw_248 : ∀ w ∈ mm_mw 248, w ∈ lw_tbl := (List.forall_mem_cons.mpr ⟨(tb_5 _ (List.mem_of_getElem? (i := 111) rfl)), (List.forall_mem_cons.mpr ⟨(tb_1 _ (List.mem_of_getElem? (i := 1) rfl)), (List.forall_mem_cons.mpr ⟨(tb_5 _ (List.mem_of_getElem? (i := 109) rfl)), (List.forall_mem_cons.mpr ⟨(tb_5 _ (List.mem_of_getElem? (i := 110) rfl)), (fun _ h => absurd h List.not_mem_nil)⟩)⟩)⟩)⟩)
set_option maxRecDepth 20000 in
theorem lq_0_0 : mm_lc 0 (5, 3, 0, 0) ∈ lw_tbl := (tb_1 _ (List.mem_of_getElem? (i := 223) rfl))
set_option maxRecDepth 20000 in
theorem lq_0_1 : mm_lc 0 (0, 9, 0, 0) ∈ lw_tbl := (tb_1 _ (List.mem_of_getElem? (i := 224) rfl))
set_option maxRecDepth 20000 in
theorem lq_0_2 : mm_lc 0 (0, 15, 0, 1) ∈ lw_tbl := (tb_1 _ (List.mem_of_getElem? (i := 225) rfl))
set_option maxRecDepth 20000 in
theorem lq_0_3 : mm_lc 0 (0, 18, 5, 11) ∈ lw_tbl := (tb_2 _ (List.mem_of_getElem? (i := 105) rfl))
set_option maxRecDepth 20000 in
theorem lq_0_4 : mm_lc 0 (1, 23, 13, 0) ∈ lw_tbl := (tb_5 _ (List.mem_of_getElem? (i := 18) rfl))
set_option maxRecDepth 20000 in
theorem lq_0_5 : mm_lc 0 (1, 29, 47, 0) ∈ lw_tbl := (tb_5 _ (List.mem_of_getElem? (i := 19) rfl))
set_option maxRecDepth 20000 in
theorem lq_0_6 : mm_lc 0 (10, 33, 0, 0) ∈ lw_tbl := (tb_5 _ (List.mem_of_getElem? (i := 20) rfl))
set_option maxRecDepth 20000 in
theorem lq_0_7 : mm_lc 0 (0, 39, 5, 7) ∈ lw_tbl := (tb_2 _ (List.mem_of_getElem? (i := 91) rfl))
set_option maxRecDepth 20000 in
theorem lq_0_8 : mm_lc 0 (1, 42, 3, 0) ∈ lw_tbl := (tb_5 _ (List.mem_of_getElem? (i := 21) rfl))
set_option maxRecDepth 20000 in
theorem lq_0_9 : mm_lc 0 (1, 46, 4, 0) ∈ lw_tbl := (tb_5 _ (List.mem_of_getElem? (i := 24) rfl))
set_option maxRecDepth 20000 in
theorem lq_0_10 : mm_lc 0 (0, 50, 0, 2) ∈ lw_tbl := (tb_1 _ (List.mem_of_getElem? (i := 226) rfl))
set_option maxRecDepth 20000 in
theorem lq_0_11 : mm_lc 0 (0, 54, 5, 9) ∈ lw_tbl := (tb_2 _ (List.mem_of_getElem? (i := 99) rfl))
set_option maxRecDepth 20000 in
theorem lq_0_12 : mm_lc 0 (1, 57, 5, 0) ∈ lw_tbl := (tb_5 _ (List.mem_of_getElem? (i := 27) rfl))
set_option maxRecDepth 20000 in
theorem lq_0_13 : mm_lc 0 (0, 61, 1, 0) ∈ lw_tbl := (tb_1 _ (List.mem_of_getElem? (i := 120) rfl))
set_option maxRecDepth 20000 in
theorem lq_0_14 : mm_lc 0 (0, 65, 5, 3) ∈ lw_tbl := (tb_2 _ (List.mem_of_getElem? (i := 84) rfl))
set_option maxRecDepth 20000 in
theorem lq_0_15 : mm_lc 0 (0, 68, 1, 3) ∈ lw_tbl := (tb_1 _ (List.mem_of_getElem? (i := 128) rfl))
set_option maxRecDepth 20000 in
theorem lq_0_16 : mm_lc 0 (1, 71, 246, 0) ∈ lw_tbl := (tb_5 _ (List.mem_of_getElem? (i := 31) rfl))
set_option maxRecDepth 20000 in
theorem lq_0_17 : mm_lc 0 (1, 76, 6, 0) ∈ lw_tbl := (tb_5 _ (List.mem_of_getElem? (i := 32) rfl))
set_option maxRecDepth 20000 in
theorem lq_0_18 : mm_lc 0 (0, 80, 0, 3) ∈ lw_tbl := (tb_1 _ (List.mem_of_getElem? (i := 227) rfl))
set_option maxRecDepth 20000 in
theorem lq_0_19 : mm_lc 0 (0, 83, 0, 4) ∈ lw_tbl := (tb_1 _ (List.mem_of_getElem? (i := 228) rfl))
set_option maxRecDepth 20000 in
theorem lk_in_0 : ∀ d ∈ ln_0, mm_lc 0 d ∈ lw_tbl := (List.forall_mem_cons.mpr ⟨lq_0_0, (List.forall_mem_cons.mpr ⟨lq_0_1, (List.forall_mem_cons.mpr ⟨lq_0_2, (List.forall_mem_cons.mpr ⟨lq_0_3, (List.forall_mem_cons.mpr ⟨lq_0_4, (List.forall_mem_cons.mpr ⟨lq_0_5, (List.forall_mem_cons.mpr ⟨lq_0_6, (List.forall_mem_cons.mpr ⟨lq_0_7, (List.forall_mem_cons.mpr ⟨lq_0_8, (List.forall_mem_cons.mpr ⟨lq_0_9, (List.forall_mem_cons.mpr ⟨lq_0_10, (List.forall_mem_cons.mpr ⟨lq_0_11, (List.forall_mem_cons.mpr ⟨lq_0_12, (List.forall_mem_cons.mpr ⟨lq_0_13, (List.forall_mem_cons.mpr ⟨lq_0_14, (List.forall_mem_cons.mpr ⟨lq_0_15, (List.forall_mem_cons.mpr ⟨lq_0_16, (List.forall_mem_cons.mpr ⟨lq_0_17, (List.forall_mem_cons.mpr ⟨lq_0_18, (List.forall_mem_cons.mpr ⟨lq_0_19, (fun _ h => absurd h List.not_mem_nil)⟩)⟩)⟩)⟩)⟩)⟩)⟩)⟩)⟩)⟩)⟩)⟩)⟩)⟩)⟩)⟩)⟩)⟩)⟩)⟩)
set_option maxRecDepth 20000 in
theorem lq_1_0 : mm_lc 1 (5, 3, 0, 0) ∈ lw_tbl := (tb_1 _ (List.mem_of_getElem? (i := 117) rfl))
set_option maxRecDepth 20000 in
theorem lq_1_1 : mm_lc 1 (0, 9, 1, 0) ∈ lw_tbl := (tb_1 _ (List.mem_of_getElem? (i := 118) rfl))
set_option maxRecDepth 20000 in
theorem lq_1_2 : mm_lc 1 (0, 15, 1, 1) ∈ lw_tbl := (tb_1 _ (List.mem_of_getElem? (i := 123) rfl))
set_option maxRecDepth 20000 in
theorem lq_1_3 : mm_lc 1 (0, 19, 1, 2) ∈ lw_tbl := (tb_1 _ (List.mem_of_getElem? (i := 125) rfl))
set_option maxRecDepth 20000 in
theorem lq_1_4 : mm_lc 1 (0, 22, 1, 3) ∈ lw_tbl := (tb_1 _ (List.mem_of_getElem? (i := 126) rfl))
set_option maxRecDepth 20000 in
theorem lq_1_5 : mm_lc 1 (0, 25, 1, 4) ∈ lw_tbl := (tb_1 _ (List.mem_of_getElem? (i := 132) rfl))
set_option maxRecDepth 20000 in
theorem lq_1_6 : mm_lc 1 (1, 29, 9, 0) ∈ lw_tbl := (tb_3 _ (List.mem_of_getElem? (i := 150) rfl))
set_option maxRecDepth 20000 in
theorem lq_1_7 : mm_lc 1 (1, 33, 10, 0) ∈ lw_tbl := (tb_3 _ (List.mem_of_getElem? (i := 154) rfl))
set_option maxRecDepth 20000 in
theorem lq_1_8 : mm_lc 1 (1, 37, 11, 0) ∈ lw_tbl := (tb_3 _ (List.mem_of_getElem? (i := 159) rfl))
set_option maxRecDepth 20000 in
theorem lq_1_9 : mm_lc 1 (0, 41, 5, 12) ∈ lw_tbl := (tb_2 _ (List.mem_of_getElem? (i := 110) rfl))
set_option maxRecDepth 20000 in
theorem lq_1_10 : mm_lc 1 (10, 46, 0, 0) ∈ lw_tbl := (tb_3 _ (List.mem_of_getElem? (i := 158) rfl))
set_option maxRecDepth 20000 in
theorem lq_1_11 : mm_lc 1 (0, 52, 3, 1) ∈ lw_tbl := (tb_1 _ (List.mem_of_getElem? (i := 94) rfl))
set_option maxRecDepth 20000 in
theorem lq_1_12 : mm_lc 1 (0, 57, 3, 2) ∈ lw_tbl := (tb_1 _ (List.mem_of_getElem? (i := 96) rfl))
set_option maxRecDepth 20000 in
theorem lq_1_13 : mm_lc 1 (0, 60, 3, 3) ∈ lw_tbl := (tb_1 _ (List.mem_of_getElem? (i := 98) rfl))
set_option maxRecDepth 20000 in
theorem lq_1_14 : mm_lc 1 (0, 63, 3, 4) ∈ lw_tbl := (tb_1 _ (List.mem_of_getElem? (i := 100) rfl))
set_option maxRecDepth 20000 in
theorem lq_1_15 : mm_lc 1 (1, 66, 49, 0) ∈ lw_tbl := (tb_3 _ (List.mem_of_getElem? (i := 163) rfl))
set_option maxRecDepth 20000 in
theorem lq_1_16 : mm_lc 1 (24, 70, 1, 0) ∈ lw_tbl := (tb_3 _ (List.mem_of_getElem? (i := 175) rfl))
set_option maxRecDepth 20000 in
theorem lq_1_17 : mm_lc 1 (0, 72, 5, 7) ∈ lw_tbl := (tb_2 _ (List.mem_of_getElem? (i := 93) rfl))
set_option maxRecDepth 20000 in
theorem lq_1_18 : mm_lc 1 (0, 73, 5, 11) ∈ lw_tbl := (tb_2 _ (List.mem_of_getElem? (i := 107) rfl))
set_option maxRecDepth 20000 in
theorem lk_in_1 : ∀ d ∈ ln_1, mm_lc 1 d ∈ lw_tbl := (List.forall_mem_cons.mpr ⟨lq_1_0, (List.forall_mem_cons.mpr ⟨lq_1_1, (List.forall_mem_cons.mpr ⟨lq_1_2, (List.forall_mem_cons.mpr ⟨lq_1_3, (List.forall_mem_cons.mpr ⟨lq_1_4, (List.forall_mem_cons.mpr ⟨lq_1_5, (List.forall_mem_cons.mpr ⟨lq_1_6, (List.forall_mem_cons.mpr ⟨lq_1_7, (List.forall_mem_cons.mpr ⟨lq_1_8, (List.forall_mem_cons.mpr ⟨lq_1_9, (List.forall_mem_cons.mpr ⟨lq_1_10, (List.forall_mem_cons.mpr ⟨lq_1_11, (List.forall_mem_cons.mpr ⟨lq_1_12, (List.forall_mem_cons.mpr ⟨lq_1_13, (List.forall_mem_cons.mpr ⟨lq_1_14, (List.forall_mem_cons.mpr ⟨lq_1_15, (List.forall_mem_cons.mpr ⟨lq_1_16, (List.forall_mem_cons.mpr ⟨lq_1_17, (List.forall_mem_cons.mpr ⟨lq_1_18, (fun _ h => absurd h List.not_mem_nil)⟩)⟩)⟩)⟩)⟩)⟩)⟩)⟩)⟩)⟩)⟩)⟩)⟩)⟩)⟩)⟩)⟩)⟩)⟩)
set_option maxRecDepth 20000 in
theorem lq_2_0 : mm_lc 2 (5, 3, 0, 0) ∈ lw_tbl := (tb_2 _ (List.mem_of_getElem? (i := 5) rfl))
set_option maxRecDepth 20000 in
theorem lq_2_1 : mm_lc 2 (0, 9, 2, 0) ∈ lw_tbl := (tb_2 _ (List.mem_of_getElem? (i := 6) rfl))
set_option maxRecDepth 20000 in
theorem lq_2_2 : mm_lc 2 (0, 15, 2, 1) ∈ lw_tbl := (tb_2 _ (List.mem_of_getElem? (i := 7) rfl))
set_option maxRecDepth 20000 in
theorem lq_2_3 : mm_lc 2 (0, 19, 1, 0) ∈ lw_tbl := (tb_1 _ (List.mem_of_getElem? (i := 119) rfl))
set_option maxRecDepth 20000 in
theorem lq_2_4 : mm_lc 2 (1, 24, 48, 0) ∈ lw_tbl := (tb_5 _ (List.mem_of_getElem? (i := 44) rfl))
set_option maxRecDepth 20000 in
theorem lq_2_5 : mm_lc 2 (0, 30, 2, 2) ∈ lw_tbl := (tb_2 _ (List.mem_of_getElem? (i := 8) rfl))
set_option maxRecDepth 20000 in
theorem lq_2_6 : mm_lc 2 (0, 34, 5, 3) ∈ lw_tbl := (tb_2 _ (List.mem_of_getElem? (i := 83) rfl))
set_option maxRecDepth 20000 in
theorem lq_2_7 : mm_lc 2 (0, 36, 5, 11) ∈ lw_tbl := (tb_2 _ (List.mem_of_getElem? (i := 106) rfl))
set_option maxRecDepth 20000 in
theorem lq_2_8 : mm_lc 2 (0, 39, 1, 3) ∈ lw_tbl := (tb_1 _ (List.mem_of_getElem? (i := 127) rfl))
set_option maxRecDepth 20000 in
theorem lq_2_9 : mm_lc 2 (1, 40, 14, 0) ∈ lw_tbl := (tb_5 _ (List.mem_of_getElem? (i := 45) rfl))
set_option maxRecDepth 20000 in
theorem lq_2_10 : mm_lc 2 (0, 44, 2, 3) ∈ lw_tbl := (tb_2 _ (List.mem_of_getElem? (i := 9) rfl))
set_option maxRecDepth 20000 in
theorem lq_2_11 : mm_lc 2 (1, 47, 51, 0) ∈ lw_tbl := (tb_5 _ (List.mem_of_getElem? (i := 46) rfl))
set_option maxRecDepth 20000 in
theorem lq_2_12 : mm_lc 2 (0, 51, 2, 4) ∈ lw_tbl := (tb_2 _ (List.mem_of_getElem? (i := 10) rfl))
set_option maxRecDepth 20000 in
theorem lq_2_13 : mm_lc 2 (0, 54, 2, 5) ∈ lw_tbl := (tb_2 _ (List.mem_of_getElem? (i := 12) rfl))
set_option maxRecDepth 20000 in
theorem lq_2_14 : mm_lc 2 (0, 57, 2, 6) ∈ lw_tbl := (tb_2 _ (List.mem_of_getElem? (i := 14) rfl))
set_option maxRecDepth 20000 in
theorem lq_2_15 : mm_lc 2 (1, 60, 17, 0) ∈ lw_tbl := (tb_5 _ (List.mem_of_getElem? (i := 47) rfl))
set_option maxRecDepth 20000 in
theorem lq_2_16 : mm_lc 2 (24, 64, 1, 0) ∈ lw_tbl := (tb_5 _ (List.mem_of_getElem? (i := 51) rfl))
set_option maxRecDepth 20000 in
theorem lq_2_17 : mm_lc 2 (1, 66, 247, 0) ∈ lw_tbl := (tb_5 _ (List.mem_of_getElem? (i := 52) rfl))
set_option maxRecDepth 20000 in
theorem lq_2_18 : mm_lc 2 (0, 72, 5, 9) ∈ lw_tbl := (tb_2 _ (List.mem_of_getElem? (i := 100) rfl))
set_option maxRecDepth 20000 in
theorem lq_2_19 : mm_lc 2 (1, 75, 49, 0) ∈ lw_tbl := (tb_5 _ (List.mem_of_getElem? (i := 57) rfl))
set_option maxRecDepth 20000 in
theorem lk_in_2 : ∀ d ∈ ln_2, mm_lc 2 d ∈ lw_tbl := (List.forall_mem_cons.mpr ⟨lq_2_0, (List.forall_mem_cons.mpr ⟨lq_2_1, (List.forall_mem_cons.mpr ⟨lq_2_2, (List.forall_mem_cons.mpr ⟨lq_2_3, (List.forall_mem_cons.mpr ⟨lq_2_4, (List.forall_mem_cons.mpr ⟨lq_2_5, (List.forall_mem_cons.mpr ⟨lq_2_6, (List.forall_mem_cons.mpr ⟨lq_2_7, (List.forall_mem_cons.mpr ⟨lq_2_8, (List.forall_mem_cons.mpr ⟨lq_2_9, (List.forall_mem_cons.mpr ⟨lq_2_10, (List.forall_mem_cons.mpr ⟨lq_2_11, (List.forall_mem_cons.mpr ⟨lq_2_12, (List.forall_mem_cons.mpr ⟨lq_2_13, (List.forall_mem_cons.mpr ⟨lq_2_14, (List.forall_mem_cons.mpr ⟨lq_2_15, (List.forall_mem_cons.mpr ⟨lq_2_16, (List.forall_mem_cons.mpr ⟨lq_2_17, (List.forall_mem_cons.mpr ⟨lq_2_18, (List.forall_mem_cons.mpr ⟨lq_2_19, (fun _ h => absurd h List.not_mem_nil)⟩)⟩)⟩)⟩)⟩)⟩)⟩)⟩)⟩)⟩)⟩)⟩)⟩)⟩)⟩)⟩)⟩)⟩)⟩)⟩)
set_option maxRecDepth 20000 in
theorem lq_3_0 : mm_lc 3 (5, 3, 0, 0) ∈ lw_tbl := (tb_1 _ (List.mem_of_getElem? (i := 90) rfl))
set_option maxRecDepth 20000 in
theorem lq_3_1 : mm_lc 3 (0, 9, 3, 1) ∈ lw_tbl := (tb_1 _ (List.mem_of_getElem? (i := 93) rfl))
set_option maxRecDepth 20000 in
theorem lq_3_2 : mm_lc 3 (0, 15, 3, 2) ∈ lw_tbl := (tb_1 _ (List.mem_of_getElem? (i := 95) rfl))
set_option maxRecDepth 20000 in
theorem lq_3_3 : mm_lc 3 (0, 18, 3, 3) ∈ lw_tbl := (tb_1 _ (List.mem_of_getElem? (i := 97) rfl))
set_option maxRecDepth 20000 in
theorem lq_3_4 : mm_lc 3 (0, 21, 3, 4) ∈ lw_tbl := (tb_1 _ (List.mem_of_getElem? (i := 99) rfl))
set_option maxRecDepth 20000 in
theorem lq_3_5 : mm_lc 3 (0, 24, 3, 0) ∈ lw_tbl := (tb_1 _ (List.mem_of_getElem? (i := 91) rfl))
set_option maxRecDepth 20000 in
theorem lk_in_3 : ∀ d ∈ ln_3, mm_lc 3 d ∈ lw_tbl := (List.forall_mem_cons.mpr ⟨lq_3_0, (List.forall_mem_cons.mpr ⟨lq_3_1, (List.forall_mem_cons.mpr ⟨lq_3_2, (List.forall_mem_cons.mpr ⟨lq_3_3, (List.forall_mem_cons.mpr ⟨lq_3_4, (List.forall_mem_cons.mpr ⟨lq_3_5, (fun _ h => absurd h List.not_mem_nil)⟩)⟩)⟩)⟩)⟩)⟩)
set_option maxRecDepth 20000 in
theorem lq_4_0 : mm_lc 4 (5, 3, 0, 0) ∈ lw_tbl := (tb_1 _ (List.mem_of_getElem? (i := 151) rfl))
set_option maxRecDepth 20000 in
theorem lq_4_1 : mm_lc 4 (6, 9, 0, 0) ∈ lw_tbl := (tb_1 _ (List.mem_of_getElem? (i := 152) rfl))
set_option maxRecDepth 20000 in
theorem lq_4_2 : mm_lc 4 (0, 11, 4, 0) ∈ lw_tbl := (tb_1 _ (List.mem_of_getElem? (i := 154) rfl))
set_option maxRecDepth 20000 in
theorem lq_4_3 : mm_lc 4 (0, 16, 4, 1) ∈ lw_tbl := (tb_1 _ (List.mem_of_getElem? (i := 157) rfl))
set_option maxRecDepth 20000 in
theorem lq_4_4 : mm_lc 4 (0, 20, 4, 2) ∈ lw_tbl := (tb_1 _ (List.mem_of_getElem? (i := 160) rfl))
set_option maxRecDepth 20000 in
theorem lq_4_5 : mm_lc 4 (0, 23, 4, 3) ∈ lw_tbl := (tb_1 _ (List.mem_of_getElem? (i := 161) rfl))
set_option maxRecDepth 20000 in
theorem lq_4_6 : mm_lc 4 (0, 27, 4, 4) ∈ lw_tbl := (tb_1 _ (List.mem_of_getElem? (i := 163) rfl))
set_option maxRecDepth 20000 in
theorem lq_4_7 : mm_lc 4 (0, 31, 1, 0) ∈ lw_tbl := (tb_1 _ (List.mem_of_getElem? (i := 121) rfl))
set_option maxRecDepth 20000 in
theorem lq_4_8 : mm_lc 4 (1, 36, 25, 0) ∈ lw_tbl := (tb_4 _ (List.mem_of_getElem? (i := 2) rfl))
set_option maxRecDepth 20000 in
theorem lq_4_9 : mm_lc 4 (1, 40, 26, 0) ∈ lw_tbl := (tb_4 _ (List.mem_of_getElem? (i := 21) rfl))
set_option maxRecDepth 20000 in
theorem lq_4_10 : mm_lc 4 (1, 44, 23, 0) ∈ lw_tbl := (tb_4 _ (List.mem_of_getElem? (i := 25) rfl))
set_option maxRecDepth 20000 in
theorem lk_in_4 : ∀ d ∈ ln_4, mm_lc 4 d ∈ lw_tbl := (List.forall_mem_cons.mpr ⟨lq_4_0, (List.forall_mem_cons.mpr ⟨lq_4_1, (List.forall_mem_cons.mpr ⟨lq_4_2, (List.forall_mem_cons.mpr ⟨lq_4_3, (List.forall_mem_cons.mpr ⟨lq_4_4, (List.forall_mem_cons.mpr ⟨lq_4_5, (List.forall_mem_cons.mpr ⟨lq_4_6, (List.forall_mem_cons.mpr ⟨lq_4_7, (List.forall_mem_cons.mpr ⟨lq_4_8, (List.forall_mem_cons.mpr ⟨lq_4_9, (List.forall_mem_cons.mpr ⟨lq_4_10, (fun _ h => absurd h List.not_mem_nil)⟩)⟩)⟩)⟩)⟩)⟩)⟩)⟩)⟩)⟩)⟩)
set_option maxRecDepth 20000 in
theorem lq_5_0 : mm_lc 5 (5, 3, 0, 0) ∈ lw_tbl := (tb_2 _ (List.mem_of_getElem? (i := 74) rfl))
set_option maxRecDepth 20000 in
theorem lq_5_1 : mm_lc 5 (0, 9, 5, 0) ∈ lw_tbl := (tb_2 _ (List.mem_of_getElem? (i := 75) rfl))
set_option maxRecDepth 20000 in
theorem lq_5_2 : mm_lc 5 (0, 15, 5, 5) ∈ lw_tbl := (tb_2 _ (List.mem_of_getElem? (i := 87) rfl))
set_option maxRecDepth 20000 in
theorem lq_5_3 : mm_lc 5 (0, 19, 5, 6) ∈ lw_tbl := (tb_2 _ (List.mem_of_getElem? (i := 88) rfl))
set_option maxRecDepth 20000 in
theorem lq_5_4 : mm_lc 5 (0, 22, 5, 7) ∈ lw_tbl := (tb_2 _ (List.mem_of_getElem? (i := 90) rfl))
set_option maxRecDepth 20000 in
theorem lq_5_5 : mm_lc 5 (0, 25, 5, 8) ∈ lw_tbl := (tb_2 _ (List.mem_of_getElem? (i := 96) rfl))
set_option maxRecDepth 20000 in
theorem lq_5_6 : mm_lc 5 (0, 28, 5, 9) ∈ lw_tbl := (tb_2 _ (List.mem_of_getElem? (i := 98) rfl))
set_option maxRecDepth 20000 in
theorem lq_5_7 : mm_lc 5 (0, 31, 5, 10) ∈ lw_tbl := (tb_2 _ (List.mem_of_getElem? (i := 103) rfl))
set_option maxRecDepth 20000 in
theorem lq_5_8 : mm_lc 5 (0, 34, 5, 11) ∈ lw_tbl := (tb_2 _ (List.mem_of_getElem? (i := 104) rfl))
set_option maxRecDepth 20000 in
theorem lq_5_9 : mm_lc 5 (0, 37, 5, 12) ∈ lw_tbl := (tb_2 _ (List.mem_of_getElem? (i := 109) rfl))
set_option maxRecDepth 20000 in
theorem lq_5_10 : mm_lc 5 (0, 41, 5, 1) ∈ lw_tbl := (tb_2 _ (List.mem_of_getElem? (i := 78) rfl))
set_option maxRecDepth 20000 in
theorem lq_5_11 : mm_lc 5 (0, 44, 5, 2) ∈ lw_tbl := (tb_2 _ (List.mem_of_getElem? (i := 80) rfl))
set_option maxRecDepth 20000 in
theorem lq_5_12 : mm_lc 5 (0, 47, 5, 3) ∈ lw_tbl := (tb_2 _ (List.mem_of_getElem? (i := 82) rfl))
set_option maxRecDepth 20000 in
theorem lq_5_13 : mm_lc 5 (0, 50, 5, 4) ∈ lw_tbl := (tb_2 _ (List.mem_of_getElem? (i := 86) rfl))
set_option maxRecDepth 20000 in
theorem lq_5_14 : mm_lc 5 (0, 54, 8, 7) ∈ lw_tbl := (tb_1 _ (List.mem_of_getElem? (i := 43) rfl))
set_option maxRecDepth 20000 in
theorem lq_5_15 : mm_lc 5 (1, 59, 31, 0) ∈ lw_tbl := (tb_3 _ (List.mem_of_getElem? (i := 31) rfl))
set_option maxRecDepth 20000 in
theorem lq_5_16 : mm_lc 5 (1, 63, 90, 0) ∈ lw_tbl := (tb_3 _ (List.mem_of_getElem? (i := 126) rfl))
set_option maxRecDepth 20000 in
theorem lq_5_17 : mm_lc 5 (3, 67, 284563040, 0) ∈ lw_tbl := (tb_3 _ (List.mem_of_getElem? (i := 35) rfl))
set_option maxRecDepth 20000 in
theorem lq_5_18 : mm_lc 5 (1, 68, 86, 0) ∈ lw_tbl := (tb_3 _ (List.mem_of_getElem? (i := 36) rfl))
set_option maxRecDepth 20000 in
theorem lq_5_19 : mm_lc 5 (1, 72, 32, 0) ∈ lw_tbl := (tb_3 _ (List.mem_of_getElem? (i := 40) rfl))
set_option maxRecDepth 20000 in
theorem lq_5_20 : mm_lc 5 (3, 75, 210940032, 0) ∈ lw_tbl := (tb_3 _ (List.mem_of_getElem? (i := 54) rfl))
set_option maxRecDepth 20000 in
theorem lq_5_21 : mm_lc 5 (1, 76, 33, 0) ∈ lw_tbl := (tb_3 _ (List.mem_of_getElem? (i := 55) rfl))
set_option maxRecDepth 20000 in
theorem lq_5_22 : mm_lc 5 (3, 79, 788074496, 0) ∈ lw_tbl := (tb_3 _ (List.mem_of_getElem? (i := 109) rfl))
set_option maxRecDepth 20000 in
theorem lq_5_23 : mm_lc 5 (1, 80, 41, 0) ∈ lw_tbl := (tb_3 _ (List.mem_of_getElem? (i := 110) rfl))
set_option maxRecDepth 20000 in
theorem lq_5_24 : mm_lc 5 (1, 83, 84, 0) ∈ lw_tbl := (tb_3 _ (List.mem_of_getElem? (i := 44) rfl))
set_option maxRecDepth 20000 in
theorem lq_5_25 : mm_lc 5 (1, 86, 83, 0) ∈ lw_tbl := (tb_3 _ (List.mem_of_getElem? (i := 48) rfl))
set_option maxRecDepth 20000 in
theorem lq_5_26 : mm_lc 5 (1, 89, 88, 0) ∈ lw_tbl := (tb_3 _ (List.mem_of_getElem? (i := 49) rfl))
set_option maxRecDepth 20000 in
theorem lq_5_27 : mm_lc 5 (0, 93, 8, 8) ∈ lw_tbl := (tb_1 _ (List.mem_of_getElem? (i := 48) rfl))
set_option maxRecDepth 20000 in
theorem lq_5_28 : mm_lc 5 (1, 96, 34, 0) ∈ lw_tbl := (tb_3 _ (List.mem_of_getElem? (i := 59) rfl))
set_option maxRecDepth 20000 in
theorem lq_5_29 : mm_lc 5 (1, 99, 35, 0) ∈ lw_tbl := (tb_3 _ (List.mem_of_getElem? (i := 74) rfl))
set_option maxRecDepth 20000 in
theorem lq_5_30 : mm_lc 5 (1, 103, 37, 0) ∈ lw_tbl := (tb_3 _ (List.mem_of_getElem? (i := 81) rfl))
set_option maxRecDepth 20000 in
theorem lq_5_31 : mm_lc 5 (1, 107, 36, 0) ∈ lw_tbl := (tb_3 _ (List.mem_of_getElem? (i := 96) rfl))
set_option maxRecDepth 20000 in
theorem lq_5_32 : mm_lc 5 (1, 110, 38, 0) ∈ lw_tbl := (tb_3 _ (List.mem_of_getElem? (i := 101) rfl))
set_option maxRecDepth 20000 in
theorem lq_5_33 : mm_lc 5 (1, 117, 52, 0) ∈ lw_tbl := (tb_3 _ (List.mem_of_getElem? (i := 63) rfl))
set_option maxRecDepth 20000 in
theorem lq_5_34 : mm_lc 5 (1, 121, 53, 0) ∈ lw_tbl := (tb_3 _ (List.mem_of_getElem? (i := 70) rfl))
set_option maxRecDepth 20000 in
theorem lq_5_35 : mm_lc 5 (3, 124, 518160384, 0) ∈ lw_tbl := (tb_3 _ (List.mem_of_getElem? (i := 77) rfl))
set_option maxRecDepth 20000 in
theorem lq_5_36 : mm_lc 5 (3, 125, 659999744, 0) ∈ lw_tbl := (tb_3 _ (List.mem_of_getElem? (i := 78) rfl))
set_option maxRecDepth 20000 in
theorem lq_5_37 : mm_lc 5 (3, 126, 538233440, 0) ∈ lw_tbl := (tb_3 _ (List.mem_of_getElem? (i := 79) rfl))
set_option maxRecDepth 20000 in
theorem lq_5_38 : mm_lc 5 (3, 127, 404000768, 0) ∈ lw_tbl := (tb_3 _ (List.mem_of_getElem? (i := 80) rfl))
set_option maxRecDepth 20000 in
theorem lq_5_39 : mm_lc 5 (1, 128, 39, 0) ∈ lw_tbl := (tb_3 _ (List.mem_of_getElem? (i := 85) rfl))
set_option maxRecDepth 20000 in
theorem lq_5_40 : mm_lc 5 (10, 132, 0, 0) ∈ lw_tbl := (tb_3 _ (List.mem_of_getElem? (i := 100) rfl))
set_option maxRecDepth 20000 in
theorem lq_5_41 : mm_lc 5 (1, 138, 40, 0) ∈ lw_tbl := (tb_3 _ (List.mem_of_getElem? (i := 92) rfl))
set_option maxRecDepth 20000 in
theorem lq_5_42 : mm_lc 5 (1, 142, 47, 0) ∈ lw_tbl := (tb_3 _ (List.mem_of_getElem? (i := 105) rfl))
set_option maxRecDepth 20000 in
theorem lq_5_43 : mm_lc 5 (1, 145, 43, 0) ∈ lw_tbl := (tb_3 _ (List.mem_of_getElem? (i := 114) rfl))
set_option maxRecDepth 20000 in
theorem lq_5_44 : mm_lc 5 (1, 148, 45, 0) ∈ lw_tbl := (tb_3 _ (List.mem_of_getElem? (i := 118) rfl))
set_option maxRecDepth 20000 in
theorem lq_5_45 : mm_lc 5 (1, 151, 42, 0) ∈ lw_tbl := (tb_3 _ (List.mem_of_getElem? (i := 122) rfl))
set_option maxRecDepth 20000 in
theorem lq_5_46 : mm_lc 5 (1, 154, 46, 0) ∈ lw_tbl := (tb_3 _ (List.mem_of_getElem? (i := 167) rfl))
set_option maxRecDepth 20000 in
theorem lq_5_47 : mm_lc 5 (1, 163, 246, 0) ∈ lw_tbl := (tb_4 _ (List.mem_of_getElem? (i := 142) rfl))
set_option maxRecDepth 20000 in
theorem lq_5_48 : mm_lc 5 (1, 168, 54, 0) ∈ lw_tbl := (tb_3 _ (List.mem_of_getElem? (i := 67) rfl))
set_option maxRecDepth 20000 in
theorem lk_in_5 : ∀ d ∈ ln_5, mm_lc 5 d ∈ lw_tbl := (List.forall_mem_cons.mpr ⟨lq_5_0, (List.forall_mem_cons.mpr ⟨lq_5_1, (List.forall_mem_cons.mpr ⟨lq_5_2, (List.forall_mem_cons.mpr ⟨lq_5_3, (List.forall_mem_cons.mpr ⟨lq_5_4, (List.forall_mem_cons.mpr ⟨lq_5_5, (List.forall_mem_cons.mpr ⟨lq_5_6, (List.forall_mem_cons.mpr ⟨lq_5_7, (List.forall_mem_cons.mpr ⟨lq_5_8, (List.forall_mem_cons.mpr ⟨lq_5_9, (List.forall_mem_cons.mpr ⟨lq_5_10, (List.forall_mem_cons.mpr ⟨lq_5_11, (List.forall_mem_cons.mpr ⟨lq_5_12, (List.forall_mem_cons.mpr ⟨lq_5_13, (List.forall_mem_cons.mpr ⟨lq_5_14, (List.forall_mem_cons.mpr ⟨lq_5_15, (List.forall_mem_cons.mpr ⟨lq_5_16, (List.forall_mem_cons.mpr ⟨lq_5_17, (List.forall_mem_cons.mpr ⟨lq_5_18, (List.forall_mem_cons.mpr ⟨lq_5_19, (List.forall_mem_cons.mpr ⟨lq_5_20, (List.forall_mem_cons.mpr ⟨lq_5_21, (List.forall_mem_cons.mpr ⟨lq_5_22, (List.forall_mem_cons.mpr ⟨lq_5_23, (List.forall_mem_cons.mpr ⟨lq_5_24, (List.forall_mem_cons.mpr ⟨lq_5_25, (List.forall_mem_cons.mpr ⟨lq_5_26, (List.forall_mem_cons.mpr ⟨lq_5_27, (List.forall_mem_cons.mpr ⟨lq_5_28, (List.forall_mem_cons.mpr ⟨lq_5_29, (List.forall_mem_cons.mpr ⟨lq_5_30, (List.forall_mem_cons.mpr ⟨lq_5_31, (List.forall_mem_cons.mpr ⟨lq_5_32, (List.forall_mem_cons.mpr ⟨lq_5_33, (List.forall_mem_cons.mpr ⟨lq_5_34, (List.forall_mem_cons.mpr ⟨lq_5_35, (List.forall_mem_cons.mpr ⟨lq_5_36, (List.forall_mem_cons.mpr ⟨lq_5_37, (List.forall_mem_cons.mpr ⟨lq_5_38, (List.forall_mem_cons.mpr ⟨lq_5_39, (List.forall_mem_cons.mpr ⟨lq_5_40, (List.forall_mem_cons.mpr ⟨lq_5_41, (List.forall_mem_cons.mpr ⟨lq_5_42, (List.forall_mem_cons.mpr ⟨lq_5_43, (List.forall_mem_cons.mpr ⟨lq_5_44, (List.forall_mem_cons.mpr ⟨lq_5_45, (List.forall_mem_cons.mpr ⟨lq_5_46, (List.forall_mem_cons.mpr ⟨lq_5_47, (List.forall_mem_cons.mpr ⟨lq_5_48, (fun _ h => absurd h List.not_mem_nil)⟩)⟩)⟩)⟩)⟩)⟩)⟩)⟩)⟩)⟩)⟩)⟩)⟩)⟩)⟩)⟩)⟩)⟩)⟩)⟩)⟩)⟩)⟩)⟩)⟩)⟩)⟩)⟩)⟩)⟩)⟩)⟩)⟩)⟩)⟩)⟩)⟩)⟩)⟩)⟩)⟩)⟩)⟩)⟩)⟩)⟩)⟩)⟩)⟩)
set_option maxRecDepth 20000 in
theorem lq_6_0 : mm_lc 6 (5, 3, 0, 0) ∈ lw_tbl := (tb_2 _ (List.mem_of_getElem? (i := 143) rfl))
set_option maxRecDepth 20000 in
theorem lq_6_1 : mm_lc 6 (0, 9, 6, 0) ∈ lw_tbl := (tb_2 _ (List.mem_of_getElem? (i := 144) rfl))
set_option maxRecDepth 20000 in
theorem lq_6_2 : mm_lc 6 (0, 15, 6, 1) ∈ lw_tbl := (tb_2 _ (List.mem_of_getElem? (i := 145) rfl))
set_option maxRecDepth 20000 in
theorem lq_6_3 : mm_lc 6 (0, 18, 6, 2) ∈ lw_tbl := (tb_2 _ (List.mem_of_getElem? (i := 146) rfl))
set_option maxRecDepth 20000 in
theorem lq_6_4 : mm_lc 6 (0, 21, 6, 3) ∈ lw_tbl := (tb_2 _ (List.mem_of_getElem? (i := 147) rfl))
set_option maxRecDepth 20000 in
theorem lq_6_5 : mm_lc 6 (0, 24, 6, 4) ∈ lw_tbl := (tb_2 _ (List.mem_of_getElem? (i := 148) rfl))
set_option maxRecDepth 20000 in
theorem lq_6_6 : mm_lc 6 (0, 28, 6, 5) ∈ lw_tbl := (tb_2 _ (List.mem_of_getElem? (i := 150) rfl))
set_option maxRecDepth 20000 in
theorem lq_6_7 : mm_lc 6 (1, 31, 56, 0) ∈ lw_tbl := (tb_4 _ (List.mem_of_getElem? (i := 38) rfl))
set_option maxRecDepth 20000 in
theorem lq_6_8 : mm_lc 6 (1, 34, 58, 0) ∈ lw_tbl := (tb_4 _ (List.mem_of_getElem? (i := 39) rfl))
set_option maxRecDepth 20000 in
theorem lq_6_9 : mm_lc 6 (1, 38, 87, 0) ∈ lw_tbl := (tb_4 _ (List.mem_of_getElem? (i := 79) rfl))
set_option maxRecDepth 20000 in
theorem lq_6_10 : mm_lc 6 (1, 44, 59, 0) ∈ lw_tbl := (tb_4 _ (List.mem_of_getElem? (i := 43) rfl))
set_option maxRecDepth 20000 in
theorem lq_6_11 : mm_lc 6 (3, 47, 522190848, 0) ∈ lw_tbl := (tb_4 _ (List.mem_of_getElem? (i := 78) rfl))
set_option maxRecDepth 20000 in
theorem lq_6_12 : mm_lc 6 (1, 48, 86, 0) ∈ lw_tbl := (tb_4 _ (List.mem_of_getElem? (i := 52) rfl))
set_option maxRecDepth 20000 in
theorem lq_6_13 : mm_lc 6 (1, 52, 63, 0) ∈ lw_tbl := (tb_4 _ (List.mem_of_getElem? (i := 53) rfl))
set_option maxRecDepth 20000 in
theorem lq_6_14 : mm_lc 6 (1, 56, 64, 0) ∈ lw_tbl := (tb_4 _ (List.mem_of_getElem? (i := 72) rfl))
set_option maxRecDepth 20000 in
theorem lq_6_15 : mm_lc 6 (1, 60, 60, 0) ∈ lw_tbl := (tb_4 _ (List.mem_of_getElem? (i := 47) rfl))
set_option maxRecDepth 20000 in
theorem lq_6_16 : mm_lc 6 (3, 63, 48365568, 0) ∈ lw_tbl := (tb_4 _ (List.mem_of_getElem? (i := 77) rfl))
set_option maxRecDepth 20000 in
theorem lq_6_17 : mm_lc 6 (3, 64, 486146048, 0) ∈ lw_tbl := (tb_4 _ (List.mem_of_getElem? (i := 51) rfl))
set_option maxRecDepth 20000 in
theorem lq_6_18 : mm_lc 6 (0, 65, 8, 7) ∈ lw_tbl := (tb_1 _ (List.mem_of_getElem? (i := 45) rfl))
set_option maxRecDepth 20000 in
theorem lq_6_19 : mm_lc 6 (1, 68, 61, 0) ∈ lw_tbl := (tb_4 _ (List.mem_of_getElem? (i := 59) rfl))
set_option maxRecDepth 20000 in
theorem lq_6_20 : mm_lc 6 (1, 71, 62, 0) ∈ lw_tbl := (tb_4 _ (List.mem_of_getElem? (i := 64) rfl))
set_option maxRecDepth 20000 in
theorem lq_6_21 : mm_lc 6 (1, 75, 84, 0) ∈ lw_tbl := (tb_4 _ (List.mem_of_getElem? (i := 57) rfl))
set_option maxRecDepth 20000 in
theorem lq_6_22 : mm_lc 6 (1, 78, 83, 0) ∈ lw_tbl := (tb_4 _ (List.mem_of_getElem? (i := 58) rfl))
set_option maxRecDepth 20000 in
theorem lq_6_23 : mm_lc 6 (1, 81, 90, 0) ∈ lw_tbl := (tb_4 _ (List.mem_of_getElem? (i := 63) rfl))
set_option maxRecDepth 20000 in
theorem lq_6_24 : mm_lc 6 (0, 85, 8, 8) ∈ lw_tbl := (tb_1 _ (List.mem_of_getElem? (i := 49) rfl))
set_option maxRecDepth 20000 in
theorem lq_6_25 : mm_lc 6 (0, 88, 8, 9) ∈ lw_tbl := (tb_1 _ (List.mem_of_getElem? (i := 52) rfl))
set_option maxRecDepth 20000 in
theorem lq_6_26 : mm_lc 6 (1, 91, 52, 0) ∈ lw_tbl := (tb_4 _ (List.mem_of_getElem? (i := 68) rfl))
set_option maxRecDepth 20000 in
theorem lq_6_27 : mm_lc 6 (1, 97, 53, 0) ∈ lw_tbl := (tb_4 _ (List.mem_of_getElem? (i := 69) rfl))
set_option maxRecDepth 20000 in
theorem lq_6_28 : mm_lc 6 (1, 100, 45, 0) ∈ lw_tbl := (tb_4 _ (List.mem_of_getElem? (i := 70) rfl))
set_option maxRecDepth 20000 in
theorem lq_6_29 : mm_lc 6 (1, 103, 85, 0) ∈ lw_tbl := (tb_4 _ (List.mem_of_getElem? (i := 71) rfl))
set_option maxRecDepth 20000 in
theorem lq_6_30 : mm_lc 6 (0, 107, 5, 9) ∈ lw_tbl := (tb_2 _ (List.mem_of_getElem? (i := 102) rfl))
set_option maxRecDepth 20000 in
theorem lq_6_31 : mm_lc 6 (1, 110, 88, 0) ∈ lw_tbl := (tb_4 _ (List.mem_of_getElem? (i := 76) rfl))
set_option maxRecDepth 20000 in
theorem lq_6_32 : mm_lc 6 (1, 117, 67, 0) ∈ lw_tbl := (tb_4 _ (List.mem_of_getElem? (i := 208) rfl))
set_option maxRecDepth 20000 in
theorem lq_6_33 : mm_lc 6 (1, 121, 66, 0) ∈ lw_tbl := (tb_4 _ (List.mem_of_getElem? (i := 217) rfl))
set_option maxRecDepth 20000 in
theorem lq_6_34 : mm_lc 6 (0, 125, 1, 3) ∈ lw_tbl := (tb_1 _ (List.mem_of_getElem? (i := 131) rfl))
set_option maxRecDepth 20000 in
theorem lq_6_35 : mm_lc 6 (1, 131, 49, 0) ∈ lw_tbl := (tb_4 _ (List.mem_of_getElem? (i := 221) rfl))
set_option maxRecDepth 20000 in
theorem lq_6_36 : mm_lc 6 (1, 134, 14, 0) ∈ lw_tbl := (tb_4 _ (List.mem_of_getElem? (i := 222) rfl))
set_option maxRecDepth 20000 in
theorem lq_6_37 : mm_lc 6 (1, 138, 13, 0) ∈ lw_tbl := (tb_4 _ (List.mem_of_getElem? (i := 212) rfl))
set_option maxRecDepth 20000 in
theorem lq_6_38 : mm_lc 6 (1, 141, 12, 0) ∈ lw_tbl := (tb_4 _ (List.mem_of_getElem? (i := 216) rfl))
set_option maxRecDepth 20000 in
theorem lk_in_6 : ∀ d ∈ ln_6, mm_lc 6 d ∈ lw_tbl := (List.forall_mem_cons.mpr ⟨lq_6_0, (List.forall_mem_cons.mpr ⟨lq_6_1, (List.forall_mem_cons.mpr ⟨lq_6_2, (List.forall_mem_cons.mpr ⟨lq_6_3, (List.forall_mem_cons.mpr ⟨lq_6_4, (List.forall_mem_cons.mpr ⟨lq_6_5, (List.forall_mem_cons.mpr ⟨lq_6_6, (List.forall_mem_cons.mpr ⟨lq_6_7, (List.forall_mem_cons.mpr ⟨lq_6_8, (List.forall_mem_cons.mpr ⟨lq_6_9, (List.forall_mem_cons.mpr ⟨lq_6_10, (List.forall_mem_cons.mpr ⟨lq_6_11, (List.forall_mem_cons.mpr ⟨lq_6_12, (List.forall_mem_cons.mpr ⟨lq_6_13, (List.forall_mem_cons.mpr ⟨lq_6_14, (List.forall_mem_cons.mpr ⟨lq_6_15, (List.forall_mem_cons.mpr ⟨lq_6_16, (List.forall_mem_cons.mpr ⟨lq_6_17, (List.forall_mem_cons.mpr ⟨lq_6_18, (List.forall_mem_cons.mpr ⟨lq_6_19, (List.forall_mem_cons.mpr ⟨lq_6_20, (List.forall_mem_cons.mpr ⟨lq_6_21, (List.forall_mem_cons.mpr ⟨lq_6_22, (List.forall_mem_cons.mpr ⟨lq_6_23, (List.forall_mem_cons.mpr ⟨lq_6_24, (List.forall_mem_cons.mpr ⟨lq_6_25, (List.forall_mem_cons.mpr ⟨lq_6_26, (List.forall_mem_cons.mpr ⟨lq_6_27, (List.forall_mem_cons.mpr ⟨lq_6_28, (List.forall_mem_cons.mpr ⟨lq_6_29, (List.forall_mem_cons.mpr ⟨lq_6_30, (List.forall_mem_cons.mpr ⟨lq_6_31, (List.forall_mem_cons.mpr ⟨lq_6_32, (List.forall_mem_cons.mpr ⟨lq_6_33, (List.forall_mem_cons.mpr ⟨lq_6_34, (List.forall_mem_cons.mpr ⟨lq_6_35, (List.forall_mem_cons.mpr ⟨lq_6_36, (List.forall_mem_cons.mpr ⟨lq_6_37, (List.forall_mem_cons.mpr ⟨lq_6_38, (fun _ h => absurd h List.not_mem_nil)⟩)⟩)⟩)⟩)⟩)⟩)⟩)⟩)⟩)⟩)⟩)⟩)⟩)⟩)⟩)⟩)⟩)⟩)⟩)⟩)⟩)⟩)⟩)⟩)⟩)⟩)⟩)⟩)⟩)⟩)⟩)⟩)⟩)⟩)⟩)⟩)⟩)⟩)⟩)
set_option maxRecDepth 20000 in
theorem lq_7_0 : mm_lc 7 (5, 3, 0, 0) ∈ lw_tbl := (tb_2 _ (List.mem_of_getElem? (i := 36) rfl))
set_option maxRecDepth 20000 in
theorem lq_7_1 : mm_lc 7 (0, 9, 7, 2) ∈ lw_tbl := (tb_2 _ (List.mem_of_getElem? (i := 39) rfl))
set_option maxRecDepth 20000 in
theorem lq_7_2 : mm_lc 7 (0, 15, 7, 3) ∈ lw_tbl := (tb_2 _ (List.mem_of_getElem? (i := 40) rfl))
set_option maxRecDepth 20000 in
theorem lq_7_3 : mm_lc 7 (0, 18, 7, 4) ∈ lw_tbl := (tb_2 _ (List.mem_of_getElem? (i := 41) rfl))
set_option maxRecDepth 20000 in
theorem lq_7_4 : mm_lc 7 (0, 21, 7, 5) ∈ lw_tbl := (tb_2 _ (List.mem_of_getElem? (i := 42) rfl))
set_option maxRecDepth 20000 in
theorem lq_7_5 : mm_lc 7 (0, 24, 7, 6) ∈ lw_tbl := (tb_2 _ (List.mem_of_getElem? (i := 43) rfl))
set_option maxRecDepth 20000 in
theorem lq_7_6 : mm_lc 7 (0, 27, 7, 7) ∈ lw_tbl := (tb_2 _ (List.mem_of_getElem? (i := 44) rfl))
set_option maxRecDepth 20000 in
theorem lq_7_7 : mm_lc 7 (0, 30, 4, 1) ∈ lw_tbl := (tb_1 _ (List.mem_of_getElem? (i := 158) rfl))
set_option maxRecDepth 20000 in
theorem lq_7_8 : mm_lc 7 (0, 35, 7, 0) ∈ lw_tbl := (tb_2 _ (List.mem_of_getElem? (i := 37) rfl))
set_option maxRecDepth 20000 in
theorem lq_7_9 : mm_lc 7 (1, 39, 47, 0) ∈ lw_tbl := (tb_5 _ (List.mem_of_getElem? (i := 66) rfl))
set_option maxRecDepth 20000 in
theorem lq_7_10 : mm_lc 7 (10, 45, 0, 0) ∈ lw_tbl := (tb_5 _ (List.mem_of_getElem? (i := 67) rfl))
set_option maxRecDepth 20000 in
theorem lq_7_11 : mm_lc 7 (0, 51, 7, 1) ∈ lw_tbl := (tb_2 _ (List.mem_of_getElem? (i := 38) rfl))
set_option maxRecDepth 20000 in
theorem lq_7_12 : mm_lc 7 (0, 53, 4, 0) ∈ lw_tbl := (tb_1 _ (List.mem_of_getElem? (i := 155) rfl))
set_option maxRecDepth 20000 in
theorem lq_7_13 : mm_lc 7 (1, 57, 12, 0) ∈ lw_tbl := (tb_5 _ (List.mem_of_getElem? (i := 68) rfl))
set_option maxRecDepth 20000 in
theorem lq_7_14 : mm_lc 7 (0, 62, 4, 3) ∈ lw_tbl := (tb_1 _ (List.mem_of_getElem? (i := 162) rfl))
set_option maxRecDepth 20000 in
theorem lq_7_15 : mm_lc 7 (0, 66, 5, 7) ∈ lw_tbl := (tb_2 _ (List.mem_of_getElem? (i := 92) rfl))
set_option maxRecDepth 20000 in
theorem lq_7_16 : mm_lc 7 (11, 69, 0, 0) ∈ lw_tbl := (tb_5 _ (List.mem_of_getElem? (i := 73) rfl))
set_option maxRecDepth 20000 in
theorem lq_7_17 : mm_lc 7 (0, 72, 7, 8) ∈ lw_tbl := (tb_2 _ (List.mem_of_getElem? (i := 45) rfl))
set_option maxRecDepth 20000 in
theorem lq_7_18 : mm_lc 7 (1, 75, 72, 0) ∈ lw_tbl := (tb_5 _ (List.mem_of_getElem? (i := 82) rfl))
set_option maxRecDepth 20000 in
theorem lq_7_19 : mm_lc 7 (1, 78, 246, 0) ∈ lw_tbl := (tb_5 _ (List.mem_of_getElem? (i := 86) rfl))
set_option maxRecDepth 20000 in
theorem lq_7_20 : mm_lc 7 (0, 83, 7, 9) ∈ lw_tbl := (tb_2 _ (List.mem_of_getElem? (i := 47) rfl))
set_option maxRecDepth 20000 in
theorem lq_7_21 : mm_lc 7 (1, 86, 74, 0) ∈ lw_tbl := (tb_5 _ (List.mem_of_getElem? (i := 91) rfl))
set_option maxRecDepth 20000 in
theorem lq_7_22 : mm_lc 7 (1, 90, 73, 0) ∈ lw_tbl := (tb_5 _ (List.mem_of_getElem? (i := 87) rfl))
set_option maxRecDepth 20000 in
theorem lk_in_7 : ∀ d ∈ ln_7, mm_lc 7 d ∈ lw_tbl := (List.forall_mem_cons.mpr ⟨lq_7_0, (List.forall_mem_cons.mpr ⟨lq_7_1, (List.forall_mem_cons.mpr ⟨lq_7_2, (List.forall_mem_cons.mpr ⟨lq_7_3, (List.forall_mem_cons.mpr ⟨lq_7_4, (List.forall_mem_cons.mpr ⟨lq_7_5, (List.forall_mem_cons.mpr ⟨lq_7_6, (List.forall_mem_cons.mpr ⟨lq_7_7, (List.forall_mem_cons.mpr ⟨lq_7_8, (List.forall_mem_cons.mpr ⟨lq_7_9, (List.forall_mem_cons.mpr ⟨lq_7_10, (List.forall_mem_cons.mpr ⟨lq_7_11, (List.forall_mem_cons.mpr ⟨lq_7_12, (List.forall_mem_cons.mpr ⟨lq_7_13, (List.forall_mem_cons.mpr ⟨lq_7_14, (List.forall_mem_cons.mpr ⟨lq_7_15, (List.forall_mem_cons.mpr ⟨lq_7_16, (List.forall_mem_cons.mpr ⟨lq_7_17, (List.forall_mem_cons.mpr ⟨lq_7_18, (List.forall_mem_cons.mpr ⟨lq_7_19, (List.forall_mem_cons.mpr ⟨lq_7_20, (List.forall_mem_cons.mpr ⟨lq_7_21, (List.forall_mem_cons.mpr ⟨lq_7_22, (fun _ h => absurd h List.not_mem_nil)⟩)⟩)⟩)⟩)⟩)⟩)⟩)⟩)⟩)⟩)⟩)⟩)⟩)⟩)⟩)⟩)⟩)⟩)⟩)⟩)⟩)⟩)⟩)
set_option maxRecDepth 20000 in
theorem lq_8_0 : mm_lc 8 (5, 3, 0, 0) ∈ lw_tbl := (tb_1 _ (List.mem_of_getElem? (i := 34) rfl))
set_option maxRecDepth 20000 in
theorem lq_8_1 : mm_lc 8 (0, 9, 8, 0) ∈ lw_tbl := (tb_1 _ (List.mem_of_getElem? (i := 35) rfl))
set_option maxRecDepth 20000 in
theorem lq_8_2 : mm_lc 8 (0, 15, 8, 2) ∈ lw_tbl := (tb_1 _ (List.mem_of_getElem? (i := 38) rfl))
set_option maxRecDepth 20000 in
theorem lq_8_3 : mm_lc 8 (0, 19, 8, 3) ∈ lw_tbl := (tb_1 _ (List.mem_of_getElem? (i := 39) rfl))
set_option maxRecDepth 20000 in
theorem lq_8_4 : mm_lc 8 (0, 22, 8, 4) ∈ lw_tbl := (tb_1 _ (List.mem_of_getElem? (i := 40) rfl))
set_option maxRecDepth 20000 in
theorem lq_8_5 : mm_lc 8 (0, 25, 8, 11) ∈ lw_tbl := (tb_1 _ (List.mem_of_getElem? (i := 56) rfl))
set_option maxRecDepth 20000 in
theorem lq_8_6 : mm_lc 8 (0, 29, 8, 1) ∈ lw_tbl := (tb_1 _ (List.mem_of_getElem? (i := 37) rfl))
set_option maxRecDepth 20000 in
theorem lq_8_7 : mm_lc 8 (0, 32, 8, 10) ∈ lw_tbl := (tb_1 _ (List.mem_of_getElem? (i := 54) rfl))
set_option maxRecDepth 20000 in
theorem lq_8_8 : mm_lc 8 (1, 35, 79, 0) ∈ lw_tbl := (tb_2 _ (List.mem_of_getElem? (i := 220) rfl))
set_option maxRecDepth 20000 in
theorem lq_8_9 : mm_lc 8 (0, 39, 8, 6) ∈ lw_tbl := (tb_1 _ (List.mem_of_getElem? (i := 42) rfl))
set_option maxRecDepth 20000 in
theorem lq_8_10 : mm_lc 8 (1, 42, 83, 0) ∈ lw_tbl := (tb_3 _ (List.mem_of_getElem? (i := 23) rfl))
set_option maxRecDepth 20000 in
theorem lq_8_11 : mm_lc 8 (0, 45, 8, 5) ∈ lw_tbl := (tb_1 _ (List.mem_of_getElem? (i := 41) rfl))
set_option maxRecDepth 20000 in
theorem lq_8_12 : mm_lc 8 (1, 48, 91, 0) ∈ lw_tbl := (tb_2 _ (List.mem_of_getElem? (i := 224) rfl))
set_option maxRecDepth 20000 in
theorem lq_8_13 : mm_lc 8 (1, 52, 93, 0) ∈ lw_tbl := (tb_2 _ (List.mem_of_getElem? (i := 228) rfl))
set_option maxRecDepth 20000 in
theorem lq_8_14 : mm_lc 8 (1, 56, 80, 0) ∈ lw_tbl := (tb_2 _ (List.mem_of_getElem? (i := 231) rfl))
set_option maxRecDepth 20000 in
theorem lq_8_15 : mm_lc 8 (1, 60, 94, 0) ∈ lw_tbl := (tb_3 _ (List.mem_of_getElem? (i := 4) rfl))
set_option maxRecDepth 20000 in
theorem lq_8_16 : mm_lc 8 (1, 63, 81, 0) ∈ lw_tbl := (tb_3 _ (List.mem_of_getElem? (i := 7) rfl))
set_option maxRecDepth 20000 in
theorem lq_8_17 : mm_lc 8 (1, 66, 92, 0) ∈ lw_tbl := (tb_3 _ (List.mem_of_getElem? (i := 14) rfl))
set_option maxRecDepth 20000 in
theorem lq_8_18 : mm_lc 8 (1, 69, 95, 0) ∈ lw_tbl := (tb_3 _ (List.mem_of_getElem? (i := 17) rfl))
set_option maxRecDepth 20000 in
theorem lq_8_19 : mm_lc 8 (1, 72, 82, 0) ∈ lw_tbl := (tb_2 _ (List.mem_of_getElem? (i := 235) rfl))
set_option maxRecDepth 20000 in
theorem lq_8_20 : mm_lc 8 (11, 76, 0, 0) ∈ lw_tbl := (tb_3 _ (List.mem_of_getElem? (i := 20) rfl))
set_option maxRecDepth 20000 in
theorem lq_8_21 : mm_lc 8 (1, 81, 96, 0) ∈ lw_tbl := (tb_2 _ (List.mem_of_getElem? (i := 239) rfl))
set_option maxRecDepth 20000 in
theorem lq_8_22 : mm_lc 8 (10, 84, 0, 0) ∈ lw_tbl := (tb_3 _ (List.mem_of_getElem? (i := 11) rfl))
set_option maxRecDepth 20000 in
theorem lq_8_23 : mm_lc 8 (0, 87, 8, 7) ∈ lw_tbl := (tb_1 _ (List.mem_of_getElem? (i := 46) rfl))
set_option maxRecDepth 20000 in
theorem lq_8_24 : mm_lc 8 (0, 90, 8, 8) ∈ lw_tbl := (tb_1 _ (List.mem_of_getElem? (i := 50) rfl))
set_option maxRecDepth 20000 in
theorem lq_8_25 : mm_lc 8 (0, 93, 8, 9) ∈ lw_tbl := (tb_1 _ (List.mem_of_getElem? (i := 53) rfl))
set_option maxRecDepth 20000 in
theorem lq_8_26 : mm_lc 8 (1, 96, 84, 0) ∈ lw_tbl := (tb_3 _ (List.mem_of_getElem? (i := 53) rfl))
set_option maxRecDepth 20000 in
theorem lq_8_27 : mm_lc 8 (1, 99, 86, 0) ∈ lw_tbl := (tb_3 _ (List.mem_of_getElem? (i := 206) rfl))
set_option maxRecDepth 20000 in
theorem lk_in_8 : ∀ d ∈ ln_8, mm_lc 8 d ∈ lw_tbl := (List.forall_mem_cons.mpr ⟨lq_8_0, (List.forall_mem_cons.mpr ⟨lq_8_1, (List.forall_mem_cons.mpr ⟨lq_8_2, (List.forall_mem_cons.mpr ⟨lq_8_3, (List.forall_mem_cons.mpr ⟨lq_8_4, (List.forall_mem_cons.mpr ⟨lq_8_5, (List.forall_mem_cons.mpr ⟨lq_8_6, (List.forall_mem_cons.mpr ⟨lq_8_7, (List.forall_mem_cons.mpr ⟨lq_8_8, (List.forall_mem_cons.mpr ⟨lq_8_9, (List.forall_mem_cons.mpr ⟨lq_8_10, (List.forall_mem_cons.mpr ⟨lq_8_11, (List.forall_mem_cons.mpr ⟨lq_8_12, (List.forall_mem_cons.mpr ⟨lq_8_13, (List.forall_mem_cons.mpr ⟨lq_8_14, (List.forall_mem_cons.mpr ⟨lq_8_15, (List.forall_mem_cons.mpr ⟨lq_8_16, (List.forall_mem_cons.mpr ⟨lq_8_17, (List.forall_mem_cons.mpr ⟨lq_8_18, (List.forall_mem_cons.mpr ⟨lq_8_19, (List.forall_mem_cons.mpr ⟨lq_8_20, (List.forall_mem_cons.mpr ⟨lq_8_21, (List.forall_mem_cons.mpr ⟨lq_8_22, (List.forall_mem_cons.mpr ⟨lq_8_23, (List.forall_mem_cons.mpr ⟨lq_8_24, (List.forall_mem_cons.mpr ⟨lq_8_25, (List.forall_mem_cons.mpr ⟨lq_8_26, (List.forall_mem_cons.mpr ⟨lq_8_27, (fun _ h => absurd h List.not_mem_nil)⟩)⟩)⟩)⟩)⟩)⟩)⟩)⟩)⟩)⟩)⟩)⟩)⟩)⟩)⟩)⟩)⟩)⟩)⟩)⟩)⟩)⟩)⟩)⟩)⟩)⟩)⟩)⟩)
set_option maxRecDepth 20000 in
theorem lq_9_0 : mm_lc 9 (5, 3, 0, 0) ∈ lw_tbl := (tb_1 _ (List.mem_of_getElem? (i := 181) rfl))
set_option maxRecDepth 20000 in
theorem lq_9_1 : mm_lc 9 (0, 9, 9, 0) ∈ lw_tbl := (tb_1 _ (List.mem_of_getElem? (i := 182) rfl))
set_option maxRecDepth 20000 in
theorem lq_9_2 : mm_lc 9 (0, 15, 9, 1) ∈ lw_tbl := (tb_1 _ (List.mem_of_getElem? (i := 183) rfl))
set_option maxRecDepth 20000 in
theorem lq_9_3 : mm_lc 9 (0, 18, 9, 2) ∈ lw_tbl := (tb_1 _ (List.mem_of_getElem? (i := 184) rfl))
set_option maxRecDepth 20000 in
theorem lq_9_4 : mm_lc 9 (0, 21, 9, 3) ∈ lw_tbl := (tb_1 _ (List.mem_of_getElem? (i := 185) rfl))
set_option maxRecDepth 20000 in
theorem lq_9_5 : mm_lc 9 (0, 24, 9, 4) ∈ lw_tbl := (tb_1 _ (List.mem_of_getElem? (i := 186) rfl))
set_option maxRecDepth 20000 in
theorem lq_9_6 : mm_lc 9 (0, 28, 9, 5) ∈ lw_tbl := (tb_1 _ (List.mem_of_getElem? (i := 187) rfl))
set_option maxRecDepth 20000 in
theorem lq_9_7 : mm_lc 9 (0, 31, 9, 6) ∈ lw_tbl := (tb_1 _ (List.mem_of_getElem? (i := 188) rfl))
set_option maxRecDepth 20000 in
theorem lq_9_8 : mm_lc 9 (0, 34, 9, 7) ∈ lw_tbl := (tb_1 _ (List.mem_of_getElem? (i := 189) rfl))
set_option maxRecDepth 20000 in
theorem lq_9_9 : mm_lc 9 (1, 38, 99, 0) ∈ lw_tbl := (tb_3 _ (List.mem_of_getElem? (i := 180) rfl))
set_option maxRecDepth 20000 in
theorem lq_9_10 : mm_lc 9 (1, 42, 87, 0) ∈ lw_tbl := (tb_3 _ (List.mem_of_getElem? (i := 234) rfl))
set_option maxRecDepth 20000 in
theorem lq_9_11 : mm_lc 9 (0, 48, 8, 7) ∈ lw_tbl := (tb_1 _ (List.mem_of_getElem? (i := 44) rfl))
set_option maxRecDepth 20000 in
theorem lq_9_12 : mm_lc 9 (1, 51, 100, 0) ∈ lw_tbl := (tb_3 _ (List.mem_of_getElem? (i := 184) rfl))
set_option maxRecDepth 20000 in
theorem lq_9_13 : mm_lc 9 (0, 54, 8, 8) ∈ lw_tbl := (tb_1 _ (List.mem_of_getElem? (i := 47) rfl))
set_option maxRecDepth 20000 in
theorem lq_9_14 : mm_lc 9 (3, 57, 538561536, 0) ∈ lw_tbl := (tb_3 _ (List.mem_of_getElem? (i := 188) rfl))
set_option maxRecDepth 20000 in
theorem lq_9_15 : mm_lc 9 (3, 58, 351582208, 0) ∈ lw_tbl := (tb_3 _ (List.mem_of_getElem? (i := 189) rfl))
set_option maxRecDepth 20000 in
theorem lq_9_16 : mm_lc 9 (3, 59, 40936896, 0) ∈ lw_tbl := (tb_3 _ (List.mem_of_getElem? (i := 190) rfl))
set_option maxRecDepth 20000 in
theorem lq_9_17 : mm_lc 9 (1, 60, 84, 0) ∈ lw_tbl := (tb_3 _ (List.mem_of_getElem? (i := 191) rfl))
set_option maxRecDepth 20000 in
theorem lq_9_18 : mm_lc 9 (1, 64, 83, 0) ∈ lw_tbl := (tb_3 _ (List.mem_of_getElem? (i := 192) rfl))
set_option maxRecDepth 20000 in
theorem lq_9_19 : mm_lc 9 (1, 67, 101, 0) ∈ lw_tbl := (tb_3 _ (List.mem_of_getElem? (i := 193) rfl))
set_option maxRecDepth 20000 in
theorem lq_9_20 : mm_lc 9 (1, 70, 104, 0) ∈ lw_tbl := (tb_3 _ (List.mem_of_getElem? (i := 222) rfl))
set_option maxRecDepth 20000 in
theorem lq_9_21 : mm_lc 9 (1, 74, 105, 0) ∈ lw_tbl := (tb_3 _ (List.mem_of_getElem? (i := 230) rfl))
set_option maxRecDepth 20000 in
theorem lq_9_22 : mm_lc 9 (1, 78, 102, 0) ∈ lw_tbl := (tb_3 _ (List.mem_of_getElem? (i := 197) rfl))
set_option maxRecDepth 20000 in
theorem lq_9_23 : mm_lc 9 (3, 82, 686817280, 0) ∈ lw_tbl := (tb_3 _ (List.mem_of_getElem? (i := 201) rfl))
set_option maxRecDepth 20000 in
theorem lq_9_24 : mm_lc 9 (1, 83, 89, 0) ∈ lw_tbl := (tb_3 _ (List.mem_of_getElem? (i := 202) rfl))
set_option maxRecDepth 20000 in
theorem lq_9_25 : mm_lc 9 (3, 86, 93323264, 0) ∈ lw_tbl := (tb_3 _ (List.mem_of_getElem? (i := 207) rfl))
set_option maxRecDepth 20000 in
theorem lq_9_26 : mm_lc 9 (1, 87, 103, 0) ∈ lw_tbl := (tb_3 _ (List.mem_of_getElem? (i := 208) rfl))
set_option maxRecDepth 20000 in
theorem lq_9_27 : mm_lc 9 (1, 90, 90, 0) ∈ lw_tbl := (tb_3 _ (List.mem_of_getElem? (i := 221) rfl))
set_option maxRecDepth 20000 in
theorem lq_9_28 : mm_lc 9 (0, 94, 5, 0) ∈ lw_tbl := (tb_2 _ (List.mem_of_getElem? (i := 77) rfl))
set_option maxRecDepth 20000 in
theorem lq_9_29 : mm_lc 9 (1, 99, 53, 0) ∈ lw_tbl := (tb_3 _ (List.mem_of_getElem? (i := 212) rfl))
set_option maxRecDepth 20000 in
theorem lq_9_30 : mm_lc 9 (1, 103, 44, 0) ∈ lw_tbl := (tb_3 _ (List.mem_of_getElem? (i := 213) rfl))
set_option maxRecDepth 20000 in
theorem lq_9_31 : mm_lc 9 (0, 106, 1, 3) ∈ lw_tbl := (tb_1 _ (List.mem_of_getElem? (i := 129) rfl))
set_option maxRecDepth 20000 in
theorem lq_9_32 : mm_lc 9 (1, 111, 52, 0) ∈ lw_tbl := (tb_3 _ (List.mem_of_getElem? (i := 217) rfl))
set_option maxRecDepth 20000 in
theorem lq_9_33 : mm_lc 9 (1, 114, 43, 0) ∈ lw_tbl := (tb_3 _ (List.mem_of_getElem? (i := 218) rfl))
set_option maxRecDepth 20000 in
theorem lq_9_34 : mm_lc 9 (0, 117, 5, 7) ∈ lw_tbl := (tb_2 _ (List.mem_of_getElem? (i := 94) rfl))
set_option maxRecDepth 20000 in
theorem lq_9_35 : mm_lc 9 (1, 120, 47, 0) ∈ lw_tbl := (tb_3 _ (List.mem_of_getElem? (i := 219) rfl))
set_option maxRecDepth 20000 in
theorem lq_9_36 : mm_lc 9 (1, 123, 88, 0) ∈ lw_tbl := (tb_3 _ (List.mem_of_getElem? (i := 220) rfl))
set_option maxRecDepth 20000 in
theorem lq_9_37 : mm_lc 9 (0, 127, 8, 9) ∈ lw_tbl := (tb_1 _ (List.mem_of_getElem? (i := 51) rfl))
set_option maxRecDepth 20000 in
theorem lq_9_38 : mm_lc 9 (1, 130, 85, 0) ∈ lw_tbl := (tb_3 _ (List.mem_of_getElem? (i := 226) rfl))
set_option maxRecDepth 20000 in
theorem lq_9_39 : mm_lc 9 (0, 133, 9, 8) ∈ lw_tbl := (tb_1 _ (List.mem_of_getElem? (i := 190) rfl))
set_option maxRecDepth 20000 in
theorem lq_9_40 : mm_lc 9 (0, 136, 9, 9) ∈ lw_tbl := (tb_1 _ (List.mem_of_getElem? (i := 192) rfl))
set_option maxRecDepth 20000 in
theorem lq_9_41 : mm_lc 9 (0, 139, 9, 10) ∈ lw_tbl := (tb_1 _ (List.mem_of_getElem? (i := 194) rfl))
set_option maxRecDepth 20000 in
theorem lq_9_42 : mm_lc 9 (1, 143, 107, 0) ∈ lw_tbl := (tb_4 _ (List.mem_of_getElem? (i := 9) rfl))
set_option maxRecDepth 20000 in
theorem lq_9_43 : mm_lc 9 (1, 147, 108, 0) ∈ lw_tbl := (tb_4 _ (List.mem_of_getElem? (i := 13) rfl))
set_option maxRecDepth 20000 in
theorem lq_9_44 : mm_lc 9 (11, 151, 0, 0) ∈ lw_tbl := (tb_4 _ (List.mem_of_getElem? (i := 29) rfl))
set_option maxRecDepth 20000 in
theorem lq_9_45 : mm_lc 9 (1, 157, 28, 0) ∈ lw_tbl := (tb_4 _ (List.mem_of_getElem? (i := 17) rfl))
set_option maxRecDepth 20000 in
theorem lk_in_9 : ∀ d ∈ ln_9, mm_lc 9 d ∈ lw_tbl := (List.forall_mem_cons.mpr ⟨lq_9_0, (List.forall_mem_cons.mpr ⟨lq_9_1, (List.forall_mem_cons.mpr ⟨lq_9_2, (List.forall_mem_cons.mpr ⟨lq_9_3, (List.forall_mem_cons.mpr ⟨lq_9_4, (List.forall_mem_cons.mpr ⟨lq_9_5, (List.forall_mem_cons.mpr ⟨lq_9_6, (List.forall_mem_cons.mpr ⟨lq_9_7, (List.forall_mem_cons.mpr ⟨lq_9_8, (List.forall_mem_cons.mpr ⟨lq_9_9, (List.forall_mem_cons.mpr ⟨lq_9_10, (List.forall_mem_cons.mpr ⟨lq_9_11, (List.forall_mem_cons.mpr ⟨lq_9_12, (List.forall_mem_cons.mpr ⟨lq_9_13, (List.forall_mem_cons.mpr ⟨lq_9_14, (List.forall_mem_cons.mpr ⟨lq_9_15, (List.forall_mem_cons.mpr ⟨lq_9_16, (List.forall_mem_cons.mpr ⟨lq_9_17, (List.forall_mem_cons.mpr ⟨lq_9_18, (List.forall_mem_cons.mpr ⟨lq_9_19, (List.forall_mem_cons.mpr ⟨lq_9_20, (List.forall_mem_cons.mpr ⟨lq_9_21, (List.forall_mem_cons.mpr ⟨lq_9_22, (List.forall_mem_cons.mpr ⟨lq_9_23, (List.forall_mem_cons.mpr ⟨lq_9_24, (List.forall_mem_cons.mpr ⟨lq_9_25, (List.forall_mem_cons.mpr ⟨lq_9_26, (List.forall_mem_cons.mpr ⟨lq_9_27, (List.forall_mem_cons.mpr ⟨lq_9_28, (List.forall_mem_cons.mpr ⟨lq_9_29, (List.forall_mem_cons.mpr ⟨lq_9_30, (List.forall_mem_cons.mpr ⟨lq_9_31, (List.forall_mem_cons.mpr ⟨lq_9_32, (List.forall_mem_cons.mpr ⟨lq_9_33, (List.forall_mem_cons.mpr ⟨lq_9_34, (List.forall_mem_cons.mpr ⟨lq_9_35, (List.forall_mem_cons.mpr ⟨lq_9_36, (List.forall_mem_cons.mpr ⟨lq_9_37, (List.forall_mem_cons.mpr ⟨lq_9_38, (List.forall_mem_cons.mpr ⟨lq_9_39, (List.forall_mem_cons.mpr ⟨lq_9_40, (List.forall_mem_cons.mpr ⟨lq_9_41, (List.forall_mem_cons.mpr ⟨lq_9_42, (List.forall_mem_cons.mpr ⟨lq_9_43, (List.forall_mem_cons.mpr ⟨lq_9_44, (List.forall_mem_cons.mpr ⟨lq_9_45, (fun _ h => absurd h List.not_mem_nil)⟩)⟩)⟩)⟩)⟩)⟩)⟩)⟩)⟩)⟩)⟩)⟩)⟩)⟩)⟩)⟩)⟩)⟩)⟩)⟩)⟩)⟩)⟩)⟩)⟩)⟩)⟩)⟩)⟩)⟩)⟩)⟩)⟩)⟩)⟩)⟩)⟩)⟩)⟩)⟩)⟩)⟩)⟩)⟩)⟩)⟩)
set_option maxRecDepth 20000 in
theorem lq_10_0 : mm_lc 10 (5, 1, 0, 0) ∈ lw_tbl := (tb_1 _ (List.mem_of_getElem? (i := 26) rfl))
set_option maxRecDepth 20000 in
theorem lq_10_1 : mm_lc 10 (2, 7, 8, 0) ∈ lw_tbl := (tb_1 _ (List.mem_of_getElem? (i := 29) rfl))
set_option maxRecDepth 20000 in
theorem lq_10_2 : mm_lc 10 (0, 10, 10, 0) ∈ lw_tbl := (tb_2 _ (List.mem_of_getElem? (i := 164) rfl))
set_option maxRecDepth 20000 in
theorem lq_10_3 : mm_lc 10 (2, 16, 3, 0) ∈ lw_tbl := (tb_1 _ (List.mem_of_getElem? (i := 85) rfl))
set_option maxRecDepth 20000 in
theorem lq_10_4 : mm_lc 10 (0, 19, 10, 1) ∈ lw_tbl := (tb_2 _ (List.mem_of_getElem? (i := 165) rfl))
set_option maxRecDepth 20000 in
theorem lq_10_5 : mm_lc 10 (2, 23, 1, 0) ∈ lw_tbl := (tb_1 _ (List.mem_of_getElem? (i := 112) rfl))
set_option maxRecDepth 20000 in
theorem lq_10_6 : mm_lc 10 (0, 26, 10, 2) ∈ lw_tbl := (tb_2 _ (List.mem_of_getElem? (i := 166) rfl))
set_option maxRecDepth 20000 in
theorem lq_10_7 : mm_lc 10 (2, 30, 4, 0) ∈ lw_tbl := (tb_1 _ (List.mem_of_getElem? (i := 146) rfl))
set_option maxRecDepth 20000 in
theorem lq_10_8 : mm_lc 10 (0, 33, 10, 3) ∈ lw_tbl := (tb_2 _ (List.mem_of_getElem? (i := 167) rfl))
set_option maxRecDepth 20000 in
theorem lq_10_9 : mm_lc 10 (2, 37, 9, 0) ∈ lw_tbl := (tb_1 _ (List.mem_of_getElem? (i := 176) rfl))
set_option maxRecDepth 20000 in
theorem lq_10_10 : mm_lc 10 (0, 40, 10, 4) ∈ lw_tbl := (tb_2 _ (List.mem_of_getElem? (i := 168) rfl))
set_option maxRecDepth 20000 in
theorem lq_10_11 : mm_lc 10 (2, 44, 0, 0) ∈ lw_tbl := (tb_1 _ (List.mem_of_getElem? (i := 218) rfl))
set_option maxRecDepth 20000 in
theorem lq_10_12 : mm_lc 10 (0, 47, 10, 5) ∈ lw_tbl := (tb_2 _ (List.mem_of_getElem? (i := 169) rfl))
set_option maxRecDepth 20000 in
theorem lq_10_13 : mm_lc 10 (2, 51, 2, 0) ∈ lw_tbl := (tb_2 _ (List.mem_of_getElem? (i := 0) rfl))
set_option maxRecDepth 20000 in
theorem lq_10_14 : mm_lc 10 (0, 54, 10, 6) ∈ lw_tbl := (tb_2 _ (List.mem_of_getElem? (i := 170) rfl))
set_option maxRecDepth 20000 in
theorem lq_10_15 : mm_lc 10 (2, 58, 7, 0) ∈ lw_tbl := (tb_2 _ (List.mem_of_getElem? (i := 31) rfl))
set_option maxRecDepth 20000 in
theorem lq_10_16 : mm_lc 10 (0, 61, 10, 7) ∈ lw_tbl := (tb_2 _ (List.mem_of_getElem? (i := 171) rfl))
set_option maxRecDepth 20000 in
theorem lq_10_17 : mm_lc 10 (2, 65, 5, 0) ∈ lw_tbl := (tb_2 _ (List.mem_of_getElem? (i := 69) rfl))
set_option maxRecDepth 20000 in
theorem lq_10_18 : mm_lc 10 (0, 68, 10, 8) ∈ lw_tbl := (tb_2 _ (List.mem_of_getElem? (i := 172) rfl))
set_option maxRecDepth 20000 in
theorem lq_10_19 : mm_lc 10 (0, 72, 10, 9) ∈ lw_tbl := (tb_2 _ (List.mem_of_getElem? (i := 173) rfl))
set_option maxRecDepth 20000 in
theorem lq_10_20 : mm_lc 10 (2, 75, 6, 0) ∈ lw_tbl := (tb_2 _ (List.mem_of_getElem? (i := 138) rfl))
set_option maxRecDepth 20000 in
theorem lq_10_21 : mm_lc 10 (0, 78, 10, 10) ∈ lw_tbl := (tb_2 _ (List.mem_of_getElem? (i := 174) rfl))
set_option maxRecDepth 20000 in
theorem lq_10_22 : mm_lc 10 (0, 82, 10, 11) ∈ lw_tbl := (tb_2 _ (List.mem_of_getElem? (i := 175) rfl))
set_option maxRecDepth 20000 in
theorem lq_10_23 : mm_lc 10 (0, 85, 10, 12) ∈ lw_tbl := (tb_2 _ (List.mem_of_getElem? (i := 176) rfl))
set_option maxRecDepth 20000 in
theorem lq_10_24 : mm_lc 10 (0, 89, 8, 1) ∈ lw_tbl := (tb_1 _ (List.mem_of_getElem? (i := 36) rfl))
set_option maxRecDepth 20000 in
theorem lq_10_25 : mm_lc 10 (1, 92, 77, 0) ∈ lw_tbl := (tb_2 _ (List.mem_of_getElem? (i := 208) rfl))
set_option maxRecDepth 20000 in
theorem lq_10_26 : mm_lc 10 (1, 96, 78, 0) ∈ lw_tbl := (tb_2 _ (List.mem_of_getElem? (i := 216) rfl))
set_option maxRecDepth 20000 in
theorem lq_10_27 : mm_lc 10 (1, 100, 30, 0) ∈ lw_tbl := (tb_3 _ (List.mem_of_getElem? (i := 27) rfl))
set_option maxRecDepth 20000 in
theorem lq_10_28 : mm_lc 10 (0, 104, 3, 0) ∈ lw_tbl := (tb_1 _ (List.mem_of_getElem? (i := 92) rfl))
set_option maxRecDepth 20000 in
theorem lq_10_29 : mm_lc 10 (1, 107, 56, 0) ∈ lw_tbl := (tb_3 _ (List.mem_of_getElem? (i := 130) rfl))
set_option maxRecDepth 20000 in
theorem lq_10_30 : mm_lc 10 (1, 110, 22, 0) ∈ lw_tbl := (tb_3 _ (List.mem_of_getElem? (i := 134) rfl))
set_option maxRecDepth 20000 in
theorem lq_10_31 : mm_lc 10 (0, 111, 5, 1) ∈ lw_tbl := (tb_2 _ (List.mem_of_getElem? (i := 79) rfl))
set_option maxRecDepth 20000 in
theorem lq_10_32 : mm_lc 10 (1, 114, 142, 0) ∈ lw_tbl := (tb_3 _ (List.mem_of_getElem? (i := 142) rfl))
set_option maxRecDepth 20000 in
theorem lq_10_33 : mm_lc 10 (1, 117, 98, 0) ∈ lw_tbl := (tb_3 _ (List.mem_of_getElem? (i := 176) rfl))
set_option maxRecDepth 20000 in
theorem lq_10_34 : mm_lc 10 (0, 120, 5, 0) ∈ lw_tbl := (tb_2 _ (List.mem_of_getElem? (i := 76) rfl))
set_option maxRecDepth 20000 in
theorem lq_10_35 : mm_lc 10 (1, 123, 24, 0) ∈ lw_tbl := (tb_3 _ (List.mem_of_getElem? (i := 238) rfl))
set_option maxRecDepth 20000 in
theorem lq_10_36 : mm_lc 10 (1, 127, 106, 0) ∈ lw_tbl := (tb_4 _ (List.mem_of_getElem? (i := 5) rfl))
set_option maxRecDepth 20000 in
theorem lq_10_37 : mm_lc 10 (1, 131, 57, 0) ∈ lw_tbl := (tb_4 _ (List.mem_of_getElem? (i := 34) rfl))
set_option maxRecDepth 20000 in
theorem lq_10_38 : mm_lc 10 (0, 134, 6, 4) ∈ lw_tbl := (tb_2 _ (List.mem_of_getElem? (i := 149) rfl))
set_option maxRecDepth 20000 in
theorem lq_10_39 : mm_lc 10 (0, 137, 8, 10) ∈ lw_tbl := (tb_1 _ (List.mem_of_getElem? (i := 55) rfl))
set_option maxRecDepth 20000 in
theorem lq_10_40 : mm_lc 10 (0, 140, 8, 11) ∈ lw_tbl := (tb_1 _ (List.mem_of_getElem? (i := 57) rfl))
set_option maxRecDepth 20000 in
theorem lq_10_41 : mm_lc 10 (1, 143, 52, 0) ∈ lw_tbl := (tb_4 _ (List.mem_of_getElem? (i := 88) rfl))
set_option maxRecDepth 20000 in
theorem lq_10_42 : mm_lc 10 (1, 147, 53, 0) ∈ lw_tbl := (tb_4 _ (List.mem_of_getElem? (i := 89) rfl))
set_option maxRecDepth 20000 in
theorem lq_10_43 : mm_lc 10 (1, 178, 49, 0) ∈ lw_tbl := (tb_4 _ (List.mem_of_getElem? (i := 94) rfl))
set_option maxRecDepth 20000 in
theorem lq_10_44 : mm_lc 10 (1, 182, 139, 0) ∈ lw_tbl := (tb_4 _ (List.mem_of_getElem? (i := 99) rfl))
set_option maxRecDepth 20000 in
theorem lq_10_45 : mm_lc 10 (1, 185, 44, 0) ∈ lw_tbl := (tb_4 _ (List.mem_of_getElem? (i := 103) rfl))
set_option maxRecDepth 20000 in
theorem lq_10_46 : mm_lc 10 (1, 188, 141, 0) ∈ lw_tbl := (tb_4 _ (List.mem_of_getElem? (i := 104) rfl))
set_option maxRecDepth 20000 in
theorem lq_10_47 : mm_lc 10 (0, 191, 1, 3) ∈ lw_tbl := (tb_1 _ (List.mem_of_getElem? (i := 130) rfl))
set_option maxRecDepth 20000 in
theorem lq_10_48 : mm_lc 10 (1, 195, 23, 0) ∈ lw_tbl := (tb_4 _ (List.mem_of_getElem? (i := 112) rfl))
set_option maxRecDepth 20000 in
theorem lq_10_49 : mm_lc 10 (1, 198, 140, 0) ∈ lw_tbl := (tb_4 _ (List.mem_of_getElem? (i := 117) rfl))
set_option maxRecDepth 20000 in
theorem lq_10_50 : mm_lc 10 (1, 201, 46, 0) ∈ lw_tbl := (tb_4 _ (List.mem_of_getElem? (i := 121) rfl))
set_option maxRecDepth 20000 in
theorem lq_10_51 : mm_lc 10 (1, 205, 20, 0) ∈ lw_tbl := (tb_4 _ (List.mem_of_getElem? (i := 122) rfl))
set_option maxRecDepth 20000 in
theorem lq_10_52 : mm_lc 10 (1, 209, 50, 0) ∈ lw_tbl := (tb_4 _ (List.mem_of_getElem? (i := 138) rfl))
set_option maxRecDepth 20000 in
theorem lq_10_53 : mm_lc 10 (24, 212, 1, 0) ∈ lw_tbl := (tb_4 _ (List.mem_of_getElem? (i := 156) rfl))
set_option maxRecDepth 20000 in
theorem lq_10_54 : mm_lc 10 (0, 214, 1, 0) ∈ lw_tbl := (tb_1 _ (List.mem_of_getElem? (i := 122) rfl))
set_option maxRecDepth 20000 in
theorem lq_10_55 : mm_lc 10 (1, 150, 43, 0) ∈ lw_tbl := (tb_4 _ (List.mem_of_getElem? (i := 161) rfl))
set_option maxRecDepth 20000 in
theorem lq_10_56 : mm_lc 10 (1, 217, 45, 0) ∈ lw_tbl := (tb_4 _ (List.mem_of_getElem? (i := 162) rfl))
set_option maxRecDepth 20000 in
theorem lq_10_57 : mm_lc 10 (0, 220, 1, 1) ∈ lw_tbl := (tb_1 _ (List.mem_of_getElem? (i := 124) rfl))
set_option maxRecDepth 20000 in
theorem lq_10_58 : mm_lc 10 (1, 223, 51, 0) ∈ lw_tbl := (tb_4 _ (List.mem_of_getElem? (i := 163) rfl))
set_option maxRecDepth 20000 in
theorem lq_10_59 : mm_lc 10 (1, 226, 12, 0) ∈ lw_tbl := (tb_4 _ (List.mem_of_getElem? (i := 167) rfl))
set_option maxRecDepth 20000 in
theorem lq_10_60 : mm_lc 10 (0, 230, 4, 4) ∈ lw_tbl := (tb_1 _ (List.mem_of_getElem? (i := 164) rfl))
set_option maxRecDepth 20000 in
theorem lq_10_61 : mm_lc 10 (1, 233, 143, 0) ∈ lw_tbl := (tb_4 _ (List.mem_of_getElem? (i := 183) rfl))
set_option maxRecDepth 20000 in
theorem lq_10_62 : mm_lc 10 (0, 236, 4, 1) ∈ lw_tbl := (tb_1 _ (List.mem_of_getElem? (i := 159) rfl))
set_option maxRecDepth 20000 in
theorem lq_10_63 : mm_lc 10 (0, 239, 4, 0) ∈ lw_tbl := (tb_1 _ (List.mem_of_getElem? (i := 156) rfl))
set_option maxRecDepth 20000 in
theorem lq_10_64 : mm_lc 10 (1, 243, 144, 0) ∈ lw_tbl := (tb_4 _ (List.mem_of_getElem? (i := 190) rfl))
set_option maxRecDepth 20000 in
theorem lq_10_65 : mm_lc 10 (1, 246, 27, 0) ∈ lw_tbl := (tb_4 _ (List.mem_of_getElem? (i := 191) rfl))
set_option maxRecDepth 20000 in
theorem lq_10_66 : mm_lc 10 (1, 250, 65, 0) ∈ lw_tbl := (tb_4 _ (List.mem_of_getElem? (i := 203) rfl))
set_option maxRecDepth 20000 in
theorem lq_10_67 : mm_lc 10 (0, 254, 5, 11) ∈ lw_tbl := (tb_2 _ (List.mem_of_getElem? (i := 108) rfl))
set_option maxRecDepth 20000 in
theorem lq_10_68 : mm_lc 10 (0, 170, 5, 9) ∈ lw_tbl := (tb_2 _ (List.mem_of_getElem? (i := 101) rfl))
set_option maxRecDepth 20000 in
theorem lq_10_69 : mm_lc 10 (1, 257, 47, 0) ∈ lw_tbl := (tb_4 _ (List.mem_of_getElem? (i := 230) rfl))
set_option maxRecDepth 20000 in
theorem lq_10_70 : mm_lc 10 (1, 260, 145, 0) ∈ lw_tbl := (tb_4 _ (List.mem_of_getElem? (i := 231) rfl))
set_option maxRecDepth 20000 in
theorem lq_10_71 : mm_lc 10 (1, 263, 13, 0) ∈ lw_tbl := (tb_4 _ (List.mem_of_getElem? (i := 234) rfl))
set_option maxRecDepth 20000 in
theorem lq_10_72 : mm_lc 10 (1, 266, 48, 0) ∈ lw_tbl := (tb_4 _ (List.mem_of_getElem? (i := 235) rfl))
set_option maxRecDepth 20000 in
theorem lq_10_73 : mm_lc 10 (1, 270, 247, 0) ∈ lw_tbl := (tb_4 _ (List.mem_of_getElem? (i := 239) rfl))
set_option maxRecDepth 20000 in
theorem lq_10_74 : mm_lc 10 (1, 276, 14, 0) ∈ lw_tbl := (tb_5 _ (List.mem_of_getElem? (i := 9) rfl))
set_option maxRecDepth 20000 in
theorem lq_10_75 : mm_lc 10 (1, 280, 2, 0) ∈ lw_tbl := (tb_5 _ (List.mem_of_getElem? (i := 14) rfl))
set_option maxRecDepth 20000 in
theorem lq_10_76 : mm_lc 10 (1, 284, 16, 0) ∈ lw_tbl := (tb_5 _ (List.mem_of_getElem? (i := 40) rfl))
set_option maxRecDepth 20000 in
theorem lq_10_77 : mm_lc 10 (1, 288, 18, 0) ∈ lw_tbl := (tb_5 _ (List.mem_of_getElem? (i := 53) rfl))
set_option maxRecDepth 20000 in
theorem lq_10_78 : mm_lc 10 (0, 291, 2, 4) ∈ lw_tbl := (tb_2 _ (List.mem_of_getElem? (i := 11) rfl))
set_option maxRecDepth 20000 in
theorem lq_10_79 : mm_lc 10 (0, 294, 2, 5) ∈ lw_tbl := (tb_2 _ (List.mem_of_getElem? (i := 13) rfl))
set_option maxRecDepth 20000 in
theorem lq_10_80 : mm_lc 10 (0, 297, 2, 6) ∈ lw_tbl := (tb_2 _ (List.mem_of_getElem? (i := 15) rfl))
set_option maxRecDepth 20000 in
theorem lq_10_81 : mm_lc 10 (1, 300, 69, 0) ∈ lw_tbl := (tb_5 _ (List.mem_of_getElem? (i := 62) rfl))
set_option maxRecDepth 20000 in
theorem lq_10_82 : mm_lc 10 (1, 304, 70, 0) ∈ lw_tbl := (tb_5 _ (List.mem_of_getElem? (i := 69) rfl))
set_option maxRecDepth 20000 in
theorem lq_10_83 : mm_lc 10 (1, 308, 71, 0) ∈ lw_tbl := (tb_5 _ (List.mem_of_getElem? (i := 78) rfl))
set_option maxRecDepth 20000 in
theorem lq_10_84 : mm_lc 10 (0, 312, 7, 8) ∈ lw_tbl := (tb_2 _ (List.mem_of_getElem? (i := 46) rfl))
set_option maxRecDepth 20000 in
theorem lq_10_85 : mm_lc 10 (0, 164, 5, 7) ∈ lw_tbl := (tb_2 _ (List.mem_of_getElem? (i := 95) rfl))
set_option maxRecDepth 20000 in
theorem lq_10_86 : mm_lc 10 (1, 315, 75, 0) ∈ lw_tbl := (tb_5 _ (List.mem_of_getElem? (i := 95) rfl))
set_option maxRecDepth 20000 in
theorem lq_10_87 : mm_lc 10 (0, 318, 5, 2) ∈ lw_tbl := (tb_2 _ (List.mem_of_getElem? (i := 81) rfl))
set_option maxRecDepth 20000 in
theorem lq_10_88 : mm_lc 10 (0, 321, 5, 3) ∈ lw_tbl := (tb_2 _ (List.mem_of_getElem? (i := 85) rfl))
set_option maxRecDepth 20000 in
theorem lq_10_89 : mm_lc 10 (0, 323, 9, 9) ∈ lw_tbl := (tb_1 _ (List.mem_of_getElem? (i := 193) rfl))
set_option maxRecDepth 20000 in
theorem lq_10_90 : mm_lc 10 (0, 324, 9, 8) ∈ lw_tbl := (tb_1 _ (List.mem_of_getElem? (i := 191) rfl))
set_option maxRecDepth 20000 in
theorem lq_10_91 : mm_lc 10 (1, 327, 8, 0) ∈ lw_tbl := (tb_3 _ (List.mem_of_getElem? (i := 146) rfl))
set_option maxRecDepth 20000 in
theorem lq_10_92 : mm_lc 10 (0, 160, 5, 6) ∈ lw_tbl := (tb_2 _ (List.mem_of_getElem? (i := 89) rfl))
set_option maxRecDepth 20000 in
theorem lq_10_93 : mm_lc 10 (0, 167, 5, 8) ∈ lw_tbl := (tb_2 _ (List.mem_of_getElem? (i := 97) rfl))
set_option maxRecDepth 20000 in
theorem lk_in_10 : ∀ d ∈ ln_10, mm_lc 10 d ∈ lw_tbl := (List.forall_mem_cons.mpr ⟨lq_10_0, (List.forall_mem_cons.mpr ⟨lq_10_1, (List.forall_mem_cons.mpr ⟨lq_10_2, (List.forall_mem_cons.mpr ⟨lq_10_3, (List.forall_mem_cons.mpr ⟨lq_10_4, (List.forall_mem_cons.mpr ⟨lq_10_5, (List.forall_mem_cons.mpr ⟨lq_10_6, (List.forall_mem_cons.mpr ⟨lq_10_7, (List.forall_mem_cons.mpr ⟨lq_10_8, (List.forall_mem_cons.mpr ⟨lq_10_9, (List.forall_mem_cons.mpr ⟨lq_10_10, (List.forall_mem_cons.mpr ⟨lq_10_11, (List.forall_mem_cons.mpr ⟨lq_10_12, (List.forall_mem_cons.mpr ⟨lq_10_13, (List.forall_mem_cons.mpr ⟨lq_10_14, (List.forall_mem_cons.mpr ⟨lq_10_15, (List.forall_mem_cons.mpr ⟨lq_10_16, (List.forall_mem_cons.mpr ⟨lq_10_17, (List.forall_mem_cons.mpr ⟨lq_10_18, (List.forall_mem_cons.mpr ⟨lq_10_19, (List.forall_mem_cons.mpr ⟨lq_10_20, (List.forall_mem_cons.mpr ⟨lq_10_21, (List.forall_mem_cons.mpr ⟨lq_10_22, (List.forall_mem_cons.mpr ⟨lq_10_23, (List.forall_mem_cons.mpr ⟨lq_10_24, (List.forall_mem_cons.mpr ⟨lq_10_25, (List.forall_mem_cons.mpr ⟨lq_10_26, (List.forall_mem_cons.mpr ⟨lq_10_27, (List.forall_mem_cons.mpr ⟨lq_10_28, (List.forall_mem_cons.mpr ⟨lq_10_29, (List.forall_mem_cons.mpr ⟨lq_10_30, (List.forall_mem_cons.mpr ⟨lq_10_31, (List.forall_mem_cons.mpr ⟨lq_10_32, (List.forall_mem_cons.mpr ⟨lq_10_33, (List.forall_mem_cons.mpr ⟨lq_10_34, (List.forall_mem_cons.mpr ⟨lq_10_35, (List.forall_mem_cons.mpr ⟨lq_10_36, (List.forall_mem_cons.mpr ⟨lq_10_37, (List.forall_mem_cons.mpr ⟨lq_10_38, (List.forall_mem_cons.mpr ⟨lq_10_39, (List.forall_mem_cons.mpr ⟨lq_10_40, (List.forall_mem_cons.mpr ⟨lq_10_41, (List.forall_mem_cons.mpr ⟨lq_10_42, (List.forall_mem_cons.mpr ⟨lq_10_43, (List.forall_mem_cons.mpr ⟨lq_10_44, (List.forall_mem_cons.mpr ⟨lq_10_45, (List.forall_mem_cons.mpr ⟨lq_10_46, (List.forall_mem_cons.mpr ⟨lq_10_47, (List.forall_mem_cons.mpr ⟨lq_10_48, (List.forall_mem_cons.mpr ⟨lq_10_49, (List.forall_mem_cons.mpr ⟨lq_10_50, (List.forall_mem_cons.mpr ⟨lq_10_51, (List.forall_mem_cons.mpr ⟨lq_10_52, (List.forall_mem_cons.mpr ⟨lq_10_53, (List.forall_mem_cons.mpr ⟨lq_10_54, (List.forall_mem_cons.mpr ⟨lq_10_55, (List.forall_mem_cons.mpr ⟨lq_10_56, (List.forall_mem_cons.mpr ⟨lq_10_57, (List.forall_mem_cons.mpr ⟨lq_10_58, (List.forall_mem_cons.mpr ⟨lq_10_59, (List.forall_mem_cons.mpr ⟨lq_10_60, (List.forall_mem_cons.mpr ⟨lq_10_61, (List.forall_mem_cons.mpr ⟨lq_10_62, (List.forall_mem_cons.mpr ⟨lq_10_63, (List.forall_mem_cons.mpr ⟨lq_10_64, (List.forall_mem_cons.mpr ⟨lq_10_65, (List.forall_mem_cons.mpr ⟨lq_10_66, (List.forall_mem_cons.mpr ⟨lq_10_67, (List.forall_mem_cons.mpr ⟨lq_10_68, (List.forall_mem_cons.mpr ⟨lq_10_69, (List.forall_mem_cons.mpr ⟨lq_10_70, (List.forall_mem_cons.mpr ⟨lq_10_71, (List.forall_mem_cons.mpr ⟨lq_10_72, (List.forall_mem_cons.mpr ⟨lq_10_73, (List.forall_mem_cons.mpr ⟨lq_10_74, (List.forall_mem_cons.mpr ⟨lq_10_75, (List.forall_mem_cons.mpr ⟨lq_10_76, (List.forall_mem_cons.mpr ⟨lq_10_77, (List.forall_mem_cons.mpr ⟨lq_10_78, (List.forall_mem_cons.mpr ⟨lq_10_79, (List.forall_mem_cons.mpr ⟨lq_10_80, (List.forall_mem_cons.mpr ⟨lq_10_81, (List.forall_mem_cons.mpr ⟨lq_10_82, (List.forall_mem_cons.mpr ⟨lq_10_83, (List.forall_mem_cons.mpr ⟨lq_10_84, (List.forall_mem_cons.mpr ⟨lq_10_85, (List.forall_mem_cons.mpr ⟨lq_10_86, (List.forall_mem_cons.mpr ⟨lq_10_87, (List.forall_mem_cons.mpr ⟨lq_10_88, (List.forall_mem_cons.mpr ⟨lq_10_89, (List.forall_mem_cons.mpr ⟨lq_10_90, (List.forall_mem_cons.mpr ⟨lq_10_91, (List.forall_mem_cons.mpr ⟨lq_10_92, (List.forall_mem_cons.mpr ⟨lq_10_93, (fun _ h => absurd h List.not_mem_nil)⟩)⟩)⟩)⟩)⟩)⟩)⟩)⟩)⟩)⟩)⟩)⟩)⟩)⟩)⟩)⟩)⟩)⟩)⟩)⟩)⟩)⟩)⟩)⟩)⟩)⟩)⟩)⟩)⟩)⟩)⟩)⟩)⟩)⟩)⟩)⟩)⟩)⟩)⟩)⟩)⟩)⟩)⟩)⟩)⟩)⟩)⟩)⟩)⟩)⟩)⟩)⟩)⟩)⟩)⟩)⟩)⟩)⟩)⟩)⟩)⟩)⟩)⟩)⟩)⟩)⟩)⟩)⟩)⟩)⟩)⟩)⟩)⟩)⟩)⟩)⟩)⟩)⟩)⟩)⟩)⟩)⟩)⟩)⟩)⟩)⟩)⟩)⟩)⟩)⟩)⟩)⟩)⟩)⟩)
set_option maxRecDepth 20000 in
theorem lq_11_0 : mm_lc 11 (5, 1, 0, 0) ∈ lw_tbl := (tb_5 _ (List.mem_of_getElem? (i := 199) rfl))
set_option maxRecDepth 20000 in
theorem lq_11_1 : mm_lc 11 (0, 7, 11, 0) ∈ lw_tbl := (tb_5 _ (List.mem_of_getElem? (i := 208) rfl))
set_option maxRecDepth 20000 in
theorem lq_11_2 : mm_lc 11 (0, 13, 11, 3) ∈ lw_tbl := (tb_5 _ (List.mem_of_getElem? (i := 211) rfl))
set_option maxRecDepth 20000 in
theorem lq_11_3 : mm_lc 11 (0, 16, 11, 5) ∈ lw_tbl := (tb_5 _ (List.mem_of_getElem? (i := 213) rfl))
set_option maxRecDepth 20000 in
theorem lq_11_4 : mm_lc 11 (0, 20, 11, 17) ∈ lw_tbl := (tb_5 _ (List.mem_of_getElem? (i := 225) rfl))
set_option maxRecDepth 20000 in
theorem lq_11_5 : mm_lc 11 (0, 23, 11, 18) ∈ lw_tbl := (tb_5 _ (List.mem_of_getElem? (i := 226) rfl))
set_option maxRecDepth 20000 in
theorem lq_11_6 : mm_lc 11 (0, 26, 11, 19) ∈ lw_tbl := (tb_5 _ (List.mem_of_getElem? (i := 227) rfl))
set_option maxRecDepth 20000 in
theorem lq_11_7 : mm_lc 11 (0, 29, 11, 20) ∈ lw_tbl := (tb_5 _ (List.mem_of_getElem? (i := 228) rfl))
set_option maxRecDepth 20000 in
theorem lq_11_8 : mm_lc 11 (0, 32, 11, 21) ∈ lw_tbl := (tb_5 _ (List.mem_of_getElem? (i := 229) rfl))
set_option maxRecDepth 20000 in
theorem lq_11_9 : mm_lc 11 (0, 35, 11, 22) ∈ lw_tbl := (tb_5 _ (List.mem_of_getElem? (i := 230) rfl))
set_option maxRecDepth 20000 in
theorem lq_11_10 : mm_lc 11 (0, 38, 11, 23) ∈ lw_tbl := (tb_5 _ (List.mem_of_getElem? (i := 231) rfl))
set_option maxRecDepth 20000 in
theorem lq_11_11 : mm_lc 11 (0, 41, 11, 24) ∈ lw_tbl := (tb_5 _ (List.mem_of_getElem? (i := 232) rfl))
set_option maxRecDepth 20000 in
theorem lq_11_12 : mm_lc 11 (0, 45, 11, 26) ∈ lw_tbl := (tb_5 _ (List.mem_of_getElem? (i := 234) rfl))
set_option maxRecDepth 20000 in
theorem lq_11_13 : mm_lc 11 (0, 48, 11, 27) ∈ lw_tbl := (tb_5 _ (List.mem_of_getElem? (i := 235) rfl))
set_option maxRecDepth 20000 in
theorem lq_11_14 : mm_lc 11 (0, 51, 11, 30) ∈ lw_tbl := (tb_5 _ (List.mem_of_getElem? (i := 238) rfl))
set_option maxRecDepth 20000 in
theorem lq_11_15 : mm_lc 11 (0, 54, 11, 31) ∈ lw_tbl := (tb_5 _ (List.mem_of_getElem? (i := 239) rfl))
set_option maxRecDepth 20000 in
theorem lq_11_16 : mm_lc 11 (0, 57, 11, 32) ∈ lw_tbl := (tb_6 _ (List.mem_of_getElem? (i := 0) rfl))
set_option maxRecDepth 20000 in
theorem lq_11_17 : mm_lc 11 (0, 60, 11, 33) ∈ lw_tbl := (tb_6 _ (List.mem_of_getElem? (i := 1) rfl))
set_option maxRecDepth 20000 in
theorem lq_11_18 : mm_lc 11 (0, 63, 11, 34) ∈ lw_tbl := (tb_6 _ (List.mem_of_getElem? (i := 2) rfl))
set_option maxRecDepth 20000 in
theorem lq_11_19 : mm_lc 11 (0, 67, 11, 35) ∈ lw_tbl := (tb_6 _ (List.mem_of_getElem? (i := 3) rfl))
set_option maxRecDepth 20000 in
theorem lq_11_20 : mm_lc 11 (0, 70, 11, 36) ∈ lw_tbl := (tb_6 _ (List.mem_of_getElem? (i := 4) rfl))
set_option maxRecDepth 20000 in
theorem lq_11_21 : mm_lc 11 (0, 73, 11, 37) ∈ lw_tbl := (tb_6 _ (List.mem_of_getElem? (i := 5) rfl))
set_option maxRecDepth 20000 in
theorem lq_11_22 : mm_lc 11 (0, 76, 11, 38) ∈ lw_tbl := (tb_6 _ (List.mem_of_getElem? (i := 6) rfl))
set_option maxRecDepth 20000 in
theorem lq_11_23 : mm_lc 11 (0, 79, 11, 39) ∈ lw_tbl := (tb_6 _ (List.mem_of_getElem? (i := 7) rfl))
set_option maxRecDepth 20000 in
theorem lq_11_24 : mm_lc 11 (0, 82, 11, 40) ∈ lw_tbl := (tb_6 _ (List.mem_of_getElem? (i := 8) rfl))
set_option maxRecDepth 20000 in
theorem lq_11_25 : mm_lc 11 (0, 85, 11, 45) ∈ lw_tbl := (tb_6 _ (List.mem_of_getElem? (i := 13) rfl))
set_option maxRecDepth 20000 in
theorem lq_11_26 : mm_lc 11 (0, 88, 11, 46) ∈ lw_tbl := (tb_6 _ (List.mem_of_getElem? (i := 14) rfl))
set_option maxRecDepth 20000 in
theorem lq_11_27 : mm_lc 11 (0, 91, 11, 47) ∈ lw_tbl := (tb_6 _ (List.mem_of_getElem? (i := 15) rfl))
set_option maxRecDepth 20000 in
theorem lq_11_28 : mm_lc 11 (0, 94, 11, 48) ∈ lw_tbl := (tb_6 _ (List.mem_of_getElem? (i := 16) rfl))
set_option maxRecDepth 20000 in
theorem lq_11_29 : mm_lc 11 (0, 97, 11, 49) ∈ lw_tbl := (tb_6 _ (List.mem_of_getElem? (i := 17) rfl))
set_option maxRecDepth 20000 in
theorem lq_11_30 : mm_lc 11 (0, 100, 11, 50) ∈ lw_tbl := (tb_6 _ (List.mem_of_getElem? (i := 18) rfl))
set_option maxRecDepth 20000 in
theorem lq_11_31 : mm_lc 11 (0, 103, 11, 51) ∈ lw_tbl := (tb_6 _ (List.mem_of_getElem? (i := 19) rfl))
set_option maxRecDepth 20000 in
theorem lq_11_32 : mm_lc 11 (0, 106, 11, 53) ∈ lw_tbl := (tb_6 _ (List.mem_of_getElem? (i := 21) rfl))
set_option maxRecDepth 20000 in
theorem lq_11_33 : mm_lc 11 (0, 109, 11, 54) ∈ lw_tbl := (tb_6 _ (List.mem_of_getElem? (i := 22) rfl))
set_option maxRecDepth 20000 in
theorem lq_11_34 : mm_lc 11 (0, 112, 11, 55) ∈ lw_tbl := (tb_6 _ (List.mem_of_getElem? (i := 23) rfl))
set_option maxRecDepth 20000 in
theorem lq_11_35 : mm_lc 11 (0, 115, 11, 56) ∈ lw_tbl := (tb_6 _ (List.mem_of_getElem? (i := 24) rfl))
set_option maxRecDepth 20000 in
theorem lq_11_36 : mm_lc 11 (0, 118, 11, 60) ∈ lw_tbl := (tb_6 _ (List.mem_of_getElem? (i := 28) rfl))
set_option maxRecDepth 20000 in
theorem lq_11_37 : mm_lc 11 (0, 121, 11, 61) ∈ lw_tbl := (tb_6 _ (List.mem_of_getElem? (i := 29) rfl))
set_option maxRecDepth 20000 in
theorem lq_11_38 : mm_lc 11 (0, 124, 11, 62) ∈ lw_tbl := (tb_6 _ (List.mem_of_getElem? (i := 30) rfl))
set_option maxRecDepth 20000 in
theorem lq_11_39 : mm_lc 11 (0, 127, 11, 63) ∈ lw_tbl := (tb_6 _ (List.mem_of_getElem? (i := 31) rfl))
set_option maxRecDepth 20000 in
theorem lq_11_40 : mm_lc 11 (0, 130, 11, 64) ∈ lw_tbl := (tb_6 _ (List.mem_of_getElem? (i := 32) rfl))
set_option maxRecDepth 20000 in
theorem lq_11_41 : mm_lc 11 (0, 133, 11, 70) ∈ lw_tbl := (tb_6 _ (List.mem_of_getElem? (i := 38) rfl))
set_option maxRecDepth 20000 in
theorem lq_11_42 : mm_lc 11 (0, 136, 11, 71) ∈ lw_tbl := (tb_6 _ (List.mem_of_getElem? (i := 39) rfl))
set_option maxRecDepth 20000 in
theorem lq_11_43 : mm_lc 11 (0, 139, 11, 72) ∈ lw_tbl := (tb_6 _ (List.mem_of_getElem? (i := 40) rfl))
set_option maxRecDepth 20000 in
theorem lq_11_44 : mm_lc 11 (0, 142, 11, 73) ∈ lw_tbl := (tb_6 _ (List.mem_of_getElem? (i := 41) rfl))
set_option maxRecDepth 20000 in
theorem lq_11_45 : mm_lc 11 (0, 145, 11, 74) ∈ lw_tbl := (tb_6 _ (List.mem_of_getElem? (i := 42) rfl))
set_option maxRecDepth 20000 in
theorem lq_11_46 : mm_lc 11 (0, 148, 11, 75) ∈ lw_tbl := (tb_6 _ (List.mem_of_getElem? (i := 43) rfl))
set_option maxRecDepth 20000 in
theorem lq_11_47 : mm_lc 11 (0, 151, 11, 76) ∈ lw_tbl := (tb_6 _ (List.mem_of_getElem? (i := 44) rfl))
set_option maxRecDepth 20000 in
theorem lq_11_48 : mm_lc 11 (0, 154, 11, 77) ∈ lw_tbl := (tb_6 _ (List.mem_of_getElem? (i := 45) rfl))
set_option maxRecDepth 20000 in
theorem lq_11_49 : mm_lc 11 (1, 157, 163, 0) ∈ lw_tbl := (tb_5 _ (List.mem_of_getElem? (i := 200) rfl))
set_option maxRecDepth 20000 in
theorem lq_11_50 : mm_lc 11 (1, 160, 164, 0) ∈ lw_tbl := (tb_5 _ (List.mem_of_getElem? (i := 204) rfl))
set_option maxRecDepth 20000 in
theorem lq_11_51 : mm_lc 11 (0, 163, 11, 2) ∈ lw_tbl := (tb_5 _ (List.mem_of_getElem? (i := 210) rfl))
set_option maxRecDepth 20000 in
theorem lq_11_52 : mm_lc 11 (0, 166, 11, 1) ∈ lw_tbl := (tb_5 _ (List.mem_of_getElem? (i := 209) rfl))
set_option maxRecDepth 20000 in
theorem lq_11_53 : mm_lc 11 (1, 169, 149, 0) ∈ lw_tbl := (tb_7 _ (List.mem_of_getElem? (i := 30) rfl))
set_option maxRecDepth 20000 in
theorem lq_11_54 : mm_lc 11 (0, 173, 11, 4) ∈ lw_tbl := (tb_5 _ (List.mem_of_getElem? (i := 212) rfl))
set_option maxRecDepth 20000 in
theorem lq_11_55 : mm_lc 11 (0, 176, 11, 10) ∈ lw_tbl := (tb_5 _ (List.mem_of_getElem? (i := 218) rfl))
set_option maxRecDepth 20000 in
theorem lq_11_56 : mm_lc 11 (0, 179, 11, 6) ∈ lw_tbl := (tb_5 _ (List.mem_of_getElem? (i := 214) rfl))
set_option maxRecDepth 20000 in
theorem lq_11_57 : mm_lc 11 (0, 182, 11, 7) ∈ lw_tbl := (tb_5 _ (List.mem_of_getElem? (i := 215) rfl))
set_option maxRecDepth 20000 in
theorem lq_11_58 : mm_lc 11 (0, 185, 11, 8) ∈ lw_tbl := (tb_5 _ (List.mem_of_getElem? (i := 216) rfl))
set_option maxRecDepth 20000 in
theorem lq_11_59 : mm_lc 11 (1, 188, 153, 0) ∈ lw_tbl := (tb_6 _ (List.mem_of_getElem? (i := 219) rfl))
set_option maxRecDepth 20000 in
theorem lq_11_60 : mm_lc 11 (1, 192, 152, 0) ∈ lw_tbl := (tb_6 _ (List.mem_of_getElem? (i := 223) rfl))
set_option maxRecDepth 20000 in
theorem lq_11_61 : mm_lc 11 (0, 196, 11, 9) ∈ lw_tbl := (tb_5 _ (List.mem_of_getElem? (i := 217) rfl))
set_option maxRecDepth 20000 in
theorem lq_11_62 : mm_lc 11 (1, 199, 156, 0) ∈ lw_tbl := (tb_6 _ (List.mem_of_getElem? (i := 227) rfl))
set_option maxRecDepth 20000 in
theorem lq_11_63 : mm_lc 11 (1, 202, 154, 0) ∈ lw_tbl := (tb_6 _ (List.mem_of_getElem? (i := 231) rfl))
set_option maxRecDepth 20000 in
theorem lq_11_64 : mm_lc 11 (1, 205, 158, 0) ∈ lw_tbl := (tb_7 _ (List.mem_of_getElem? (i := 33) rfl))
set_option maxRecDepth 20000 in
theorem lq_11_65 : mm_lc 11 (1, 208, 151, 0) ∈ lw_tbl := (tb_6 _ (List.mem_of_getElem? (i := 239) rfl))
set_option maxRecDepth 20000 in
theorem lq_11_66 : mm_lc 11 (1, 211, 155, 0) ∈ lw_tbl := (tb_6 _ (List.mem_of_getElem? (i := 215) rfl))
set_option maxRecDepth 20000 in
theorem lq_11_67 : mm_lc 11 (1, 214, 157, 0) ∈ lw_tbl := (tb_7 _ (List.mem_of_getElem? (i := 209) rfl))
set_option maxRecDepth 20000 in
theorem lq_11_68 : mm_lc 11 (0, 217, 11, 14) ∈ lw_tbl := (tb_5 _ (List.mem_of_getElem? (i := 222) rfl))
set_option maxRecDepth 20000 in
theorem lq_11_69 : mm_lc 11 (0, 220, 11, 15) ∈ lw_tbl := (tb_5 _ (List.mem_of_getElem? (i := 223) rfl))
set_option maxRecDepth 20000 in
theorem lq_11_70 : mm_lc 11 (0, 223, 11, 16) ∈ lw_tbl := (tb_5 _ (List.mem_of_getElem? (i := 224) rfl))
set_option maxRecDepth 20000 in
theorem lq_11_71 : mm_lc 11 (0, 226, 11, 25) ∈ lw_tbl := (tb_5 _ (List.mem_of_getElem? (i := 233) rfl))
set_option maxRecDepth 20000 in
theorem lq_11_72 : mm_lc 11 (0, 230, 11, 11) ∈ lw_tbl := (tb_5 _ (List.mem_of_getElem? (i := 219) rfl))
set_option maxRecDepth 20000 in
theorem lq_11_73 : mm_lc 11 (0, 233, 11, 12) ∈ lw_tbl := (tb_5 _ (List.mem_of_getElem? (i := 220) rfl))
set_option maxRecDepth 20000 in
theorem lq_11_74 : mm_lc 11 (0, 236, 11, 13) ∈ lw_tbl := (tb_5 _ (List.mem_of_getElem? (i := 221) rfl))
set_option maxRecDepth 20000 in
theorem lq_11_75 : mm_lc 11 (0, 239, 11, 28) ∈ lw_tbl := (tb_5 _ (List.mem_of_getElem? (i := 236) rfl))
set_option maxRecDepth 20000 in
theorem lq_11_76 : mm_lc 11 (0, 242, 11, 29) ∈ lw_tbl := (tb_5 _ (List.mem_of_getElem? (i := 237) rfl))
set_option maxRecDepth 20000 in
theorem lq_11_77 : mm_lc 11 (0, 245, 11, 58) ∈ lw_tbl := (tb_6 _ (List.mem_of_getElem? (i := 26) rfl))
set_option maxRecDepth 20000 in
theorem lq_11_78 : mm_lc 11 (0, 248, 11, 57) ∈ lw_tbl := (tb_6 _ (List.mem_of_getElem? (i := 25) rfl))
set_option maxRecDepth 20000 in
theorem lq_11_79 : mm_lc 11 (0, 252, 11, 41) ∈ lw_tbl := (tb_6 _ (List.mem_of_getElem? (i := 9) rfl))
set_option maxRecDepth 20000 in
theorem lq_11_80 : mm_lc 11 (1, 255, 165, 0) ∈ lw_tbl := (tb_7 _ (List.mem_of_getElem? (i := 19) rfl))
set_option maxRecDepth 20000 in
theorem lq_11_81 : mm_lc 11 (1, 259, 166, 0) ∈ lw_tbl := (tb_7 _ (List.mem_of_getElem? (i := 15) rfl))
set_option maxRecDepth 20000 in
theorem lq_11_82 : mm_lc 11 (1, 262, 168, 0) ∈ lw_tbl := (tb_7 _ (List.mem_of_getElem? (i := 11) rfl))
set_option maxRecDepth 20000 in
theorem lq_11_83 : mm_lc 11 (1, 266, 161, 0) ∈ lw_tbl := (tb_7 _ (List.mem_of_getElem? (i := 3) rfl))
set_option maxRecDepth 20000 in
theorem lq_11_84 : mm_lc 11 (1, 270, 167, 0) ∈ lw_tbl := (tb_7 _ (List.mem_of_getElem? (i := 23) rfl))
set_option maxRecDepth 20000 in
theorem lq_11_85 : mm_lc 11 (1, 274, 169, 0) ∈ lw_tbl := (tb_7 _ (List.mem_of_getElem? (i := 7) rfl))
set_option maxRecDepth 20000 in
theorem lq_11_86 : mm_lc 11 (1, 277, 170, 0) ∈ lw_tbl := (tb_7 _ (List.mem_of_getElem? (i := 26) rfl))
set_option maxRecDepth 20000 in
theorem lq_11_87 : mm_lc 11 (1, 280, 159, 0) ∈ lw_tbl := (tb_7 _ (List.mem_of_getElem? (i := 37) rfl))
set_option maxRecDepth 20000 in
theorem lq_11_88 : mm_lc 11 (1, 283, 162, 0) ∈ lw_tbl := (tb_6 _ (List.mem_of_getElem? (i := 211) rfl))
set_option maxRecDepth 20000 in
theorem lq_11_89 : mm_lc 11 (1, 286, 171, 0) ∈ lw_tbl := (tb_6 _ (List.mem_of_getElem? (i := 235) rfl))
set_option maxRecDepth 20000 in
theorem lq_11_90 : mm_lc 11 (1, 290, 174, 0) ∈ lw_tbl := (tb_7 _ (List.mem_of_getElem? (i := 49) rfl))
set_option maxRecDepth 20000 in
theorem lq_11_91 : mm_lc 11 (1, 293, 175, 0) ∈ lw_tbl := (tb_7 _ (List.mem_of_getElem? (i := 53) rfl))
set_option maxRecDepth 20000 in
theorem lq_11_92 : mm_lc 11 (1, 296, 177, 0) ∈ lw_tbl := (tb_7 _ (List.mem_of_getElem? (i := 61) rfl))
set_option maxRecDepth 20000 in
theorem lq_11_93 : mm_lc 11 (1, 299, 180, 0) ∈ lw_tbl := (tb_7 _ (List.mem_of_getElem? (i := 65) rfl))
set_option maxRecDepth 20000 in
theorem lq_11_94 : mm_lc 11 (1, 302, 178, 0) ∈ lw_tbl := (tb_7 _ (List.mem_of_getElem? (i := 77) rfl))
set_option maxRecDepth 20000 in
theorem lq_11_95 : mm_lc 11 (1, 305, 183, 0) ∈ lw_tbl := (tb_7 _ (List.mem_of_getElem? (i := 73) rfl))
set_option maxRecDepth 20000 in
theorem lq_11_96 : mm_lc 11 (1, 308, 182, 0) ∈ lw_tbl := (tb_7 _ (List.mem_of_getElem? (i := 81) rfl))
set_option maxRecDepth 20000 in
theorem lq_11_97 : mm_lc 11 (1, 311, 189, 0) ∈ lw_tbl := (tb_7 _ (List.mem_of_getElem? (i := 101) rfl))
set_option maxRecDepth 20000 in
theorem lq_11_98 : mm_lc 11 (24, 315, 1, 0) ∈ lw_tbl := (tb_7 _ (List.mem_of_getElem? (i := 105) rfl))
set_option maxRecDepth 20000 in
theorem lq_11_99 : mm_lc 11 (1, 317, 187, 0) ∈ lw_tbl := (tb_7 _ (List.mem_of_getElem? (i := 106) rfl))
set_option maxRecDepth 20000 in
theorem lq_11_100 : mm_lc 11 (1, 320, 185, 0) ∈ lw_tbl := (tb_7 _ (List.mem_of_getElem? (i := 89) rfl))
set_option maxRecDepth 20000 in
theorem lq_11_101 : mm_lc 11 (1, 323, 179, 0) ∈ lw_tbl := (tb_7 _ (List.mem_of_getElem? (i := 93) rfl))
set_option maxRecDepth 20000 in
theorem lq_11_102 : mm_lc 11 (1, 326, 188, 0) ∈ lw_tbl := (tb_7 _ (List.mem_of_getElem? (i := 97) rfl))
set_option maxRecDepth 20000 in
theorem lq_11_103 : mm_lc 11 (1, 329, 186, 0) ∈ lw_tbl := (tb_7 _ (List.mem_of_getElem? (i := 118) rfl))
set_option maxRecDepth 20000 in
theorem lq_11_104 : mm_lc 11 (1, 332, 190, 0) ∈ lw_tbl := (tb_7 _ (List.mem_of_getElem? (i := 122) rfl))
set_option maxRecDepth 20000 in
theorem lq_11_105 : mm_lc 11 (1, 336, 196, 0) ∈ lw_tbl := (tb_7 _ (List.mem_of_getElem? (i := 138) rfl))
set_option maxRecDepth 20000 in
theorem lq_11_106 : mm_lc 11 (1, 339, 150, 0) ∈ lw_tbl := (tb_7 _ (List.mem_of_getElem? (i := 142) rfl))
set_option maxRecDepth 20000 in
theorem lq_11_107 : mm_lc 11 (1, 343, 200, 0) ∈ lw_tbl := (tb_7 _ (List.mem_of_getElem? (i := 157) rfl))
set_option maxRecDepth 20000 in
theorem lq_11_108 : mm_lc 11 (1, 346, 204, 0) ∈ lw_tbl := (tb_7 _ (List.mem_of_getElem? (i := 173) rfl))
set_option maxRecDepth 20000 in
theorem lq_11_109 : mm_lc 11 (1, 349, 206, 0) ∈ lw_tbl := (tb_7 _ (List.mem_of_getElem? (i := 180) rfl))
set_option maxRecDepth 20000 in
theorem lq_11_110 : mm_lc 11 (3, 353, 33554431, 0) ∈ lw_tbl := (tb_7 _ (List.mem_of_getElem? (i := 204) rfl))
set_option maxRecDepth 20000 in
theorem lq_11_111 : mm_lc 11 (1, 354, 210, 0) ∈ lw_tbl := (tb_7 _ (List.mem_of_getElem? (i := 200) rfl))
set_option maxRecDepth 20000 in
theorem lq_11_112 : mm_lc 11 (1, 358, 160, 0) ∈ lw_tbl := (tb_7 _ (List.mem_of_getElem? (i := 205) rfl))
set_option maxRecDepth 20000 in
theorem lq_11_113 : mm_lc 11 (1, 361, 211, 0) ∈ lw_tbl := (tb_7 _ (List.mem_of_getElem? (i := 213) rfl))
set_option maxRecDepth 20000 in
theorem lq_11_114 : mm_lc 11 (0, 364, 11, 52) ∈ lw_tbl := (tb_6 _ (List.mem_of_getElem? (i := 20) rfl))
set_option maxRecDepth 20000 in
theorem lq_11_115 : mm_lc 11 (0, 367, 11, 44) ∈ lw_tbl := (tb_6 _ (List.mem_of_getElem? (i := 12) rfl))
set_option maxRecDepth 20000 in
theorem lq_11_116 : mm_lc 11 (1, 370, 212, 0) ∈ lw_tbl := (tb_7 _ (List.mem_of_getElem? (i := 196) rfl))
set_option maxRecDepth 20000 in
theorem lq_11_117 : mm_lc 11 (1, 373, 213, 0) ∈ lw_tbl := (tb_7 _ (List.mem_of_getElem? (i := 217) rfl))
set_option maxRecDepth 20000 in
theorem lq_11_118 : mm_lc 11 (1, 376, 209, 0) ∈ lw_tbl := (tb_7 _ (List.mem_of_getElem? (i := 229) rfl))
set_option maxRecDepth 20000 in
theorem lq_11_119 : mm_lc 11 (0, 380, 11, 42) ∈ lw_tbl := (tb_6 _ (List.mem_of_getElem? (i := 10) rfl))
set_option maxRecDepth 20000 in
theorem lq_11_120 : mm_lc 11 (0, 383, 11, 43) ∈ lw_tbl := (tb_6 _ (List.mem_of_getElem? (i := 11) rfl))
set_option maxRecDepth 20000 in
theorem lq_11_121 : mm_lc 11 (1, 386, 215, 0) ∈ lw_tbl := (tb_7 _ (List.mem_of_getElem? (i := 225) rfl))
set_option maxRecDepth 20000 in
theorem lq_11_122 : mm_lc 11 (1, 388, 216, 0) ∈ lw_tbl := (tb_7 _ (List.mem_of_getElem? (i := 233) rfl))
set_option maxRecDepth 20000 in
theorem lq_11_123 : mm_lc 11 (1, 391, 214, 0) ∈ lw_tbl := (tb_7 _ (List.mem_of_getElem? (i := 192) rfl))
set_option maxRecDepth 20000 in
theorem lq_11_124 : mm_lc 11 (1, 394, 217, 0) ∈ lw_tbl := (tb_7 _ (List.mem_of_getElem? (i := 221) rfl))
set_option maxRecDepth 20000 in
theorem lq_11_125 : mm_lc 11 (0, 397, 11, 59) ∈ lw_tbl := (tb_6 _ (List.mem_of_getElem? (i := 27) rfl))
set_option maxRecDepth 20000 in
theorem lq_11_126 : mm_lc 11 (0, 400, 11, 66) ∈ lw_tbl := (tb_6 _ (List.mem_of_getElem? (i := 34) rfl))
set_option maxRecDepth 20000 in
theorem lq_11_127 : mm_lc 11 (0, 403, 11, 65) ∈ lw_tbl := (tb_6 _ (List.mem_of_getElem? (i := 33) rfl))
set_option maxRecDepth 20000 in
theorem lq_11_128 : mm_lc 11 (1, 406, 219, 0) ∈ lw_tbl := (tb_8 _ (List.mem_of_getElem? (i := 17) rfl))
set_option maxRecDepth 20000 in
theorem lq_11_129 : mm_lc 11 (1, 409, 221, 0) ∈ lw_tbl := (tb_8 _ (List.mem_of_getElem? (i := 25) rfl))
set_option maxRecDepth 20000 in
theorem lq_11_130 : mm_lc 11 (1, 412, 220, 0) ∈ lw_tbl := (tb_8 _ (List.mem_of_getElem? (i := 9) rfl))
set_option maxRecDepth 20000 in
theorem lq_11_131 : mm_lc 11 (0, 416, 11, 69) ∈ lw_tbl := (tb_6 _ (List.mem_of_getElem? (i := 37) rfl))
set_option maxRecDepth 20000 in
theorem lq_11_132 : mm_lc 11 (0, 419, 11, 67) ∈ lw_tbl := (tb_6 _ (List.mem_of_getElem? (i := 35) rfl))
set_option maxRecDepth 20000 in
theorem lq_11_133 : mm_lc 11 (1, 422, 223, 0) ∈ lw_tbl := (tb_8 _ (List.mem_of_getElem? (i := 5) rfl))
set_option maxRecDepth 20000 in
theorem lq_11_134 : mm_lc 11 (0, 425, 11, 68) ∈ lw_tbl := (tb_6 _ (List.mem_of_getElem? (i := 36) rfl))
set_option maxRecDepth 20000 in
theorem lq_11_135 : mm_lc 11 (1, 428, 222, 0) ∈ lw_tbl := (tb_8 _ (List.mem_of_getElem? (i := 21) rfl))
set_option maxRecDepth 20000 in
theorem lq_11_136 : mm_lc 11 (1, 431, 224, 0) ∈ lw_tbl := (tb_8 _ (List.mem_of_getElem? (i := 1) rfl))
set_option maxRecDepth 20000 in
theorem lq_11_137 : mm_lc 11 (1, 434, 225, 0) ∈ lw_tbl := (tb_8 _ (List.mem_of_getElem? (i := 13) rfl))
set_option maxRecDepth 20000 in
theorem lq_11_138 : mm_lc 11 (1, 437, 148, 0) ∈ lw_tbl := (tb_8 _ (List.mem_of_getElem? (i := 33) rfl))
set_option maxRecDepth 20000 in
theorem lq_11_139 : mm_lc 11 (1, 441, 227, 0) ∈ lw_tbl := (tb_8 _ (List.mem_of_getElem? (i := 36) rfl))
set_option maxRecDepth 20000 in
theorem lq_11_140 : mm_lc 11 (1, 445, 229, 0) ∈ lw_tbl := (tb_8 _ (List.mem_of_getElem? (i := 44) rfl))
set_option maxRecDepth 20000 in
theorem lq_11_141 : mm_lc 11 (1, 448, 230, 0) ∈ lw_tbl := (tb_8 _ (List.mem_of_getElem? (i := 47) rfl))
set_option maxRecDepth 20000 in
theorem lq_11_142 : mm_lc 11 (1, 451, 231, 0) ∈ lw_tbl := (tb_8 _ (List.mem_of_getElem? (i := 51) rfl))
set_option maxRecDepth 20000 in
theorem lq_11_143 : mm_lc 11 (1, 454, 233, 0) ∈ lw_tbl := (tb_8 _ (List.mem_of_getElem? (i := 59) rfl))
set_option maxRecDepth 20000 in
theorem lq_11_144 : mm_lc 11 (1, 458, 235, 0) ∈ lw_tbl := (tb_8 _ (List.mem_of_getElem? (i := 67) rfl))
set_option maxRecDepth 20000 in
theorem lq_11_145 : mm_lc 11 (1, 461, 238, 0) ∈ lw_tbl := (tb_8 _ (List.mem_of_getElem? (i := 75) rfl))
set_option maxRecDepth 20000 in
theorem lq_11_146 : mm_lc 11 (1, 464, 239, 0) ∈ lw_tbl := (tb_8 _ (List.mem_of_getElem? (i := 79) rfl))
set_option maxRecDepth 20000 in
theorem lq_11_147 : mm_lc 11 (1, 467, 240, 0) ∈ lw_tbl := (tb_8 _ (List.mem_of_getElem? (i := 87) rfl))
set_option maxRecDepth 20000 in
theorem lq_11_148 : mm_lc 11 (1, 470, 242, 0) ∈ lw_tbl := (tb_8 _ (List.mem_of_getElem? (i := 95) rfl))
set_option maxRecDepth 20000 in
theorem lq_11_149 : mm_lc 11 (1, 473, 243, 0) ∈ lw_tbl := (tb_8 _ (List.mem_of_getElem? (i := 99) rfl))
set_option maxRecDepth 20000 in
theorem lk_in_11 : ∀ d ∈ ln_11, mm_lc 11 d ∈ lw_tbl := (List.forall_mem_cons.mpr ⟨lq_11_0, (List.forall_mem_cons.mpr ⟨lq_11_1, (List.forall_mem_cons.mpr ⟨lq_11_2, (List.forall_mem_cons.mpr ⟨lq_11_3, (List.forall_mem_cons.mpr ⟨lq_11_4, (List.forall_mem_cons.mpr ⟨lq_11_5, (List.forall_mem_cons.mpr ⟨lq_11_6, (List.forall_mem_cons.mpr ⟨lq_11_7, (List.forall_mem_cons.mpr ⟨lq_11_8, (List.forall_mem_cons.mpr ⟨lq_11_9, (List.forall_mem_cons.mpr ⟨lq_11_10, (List.forall_mem_cons.mpr ⟨lq_11_11, (List.forall_mem_cons.mpr ⟨lq_11_12, (List.forall_mem_cons.mpr ⟨lq_11_13, (List.forall_mem_cons.mpr ⟨lq_11_14, (List.forall_mem_cons.mpr ⟨lq_11_15, (List.forall_mem_cons.mpr ⟨lq_11_16, (List.forall_mem_cons.mpr ⟨lq_11_17, (List.forall_mem_cons.mpr ⟨lq_11_18, (List.forall_mem_cons.mpr ⟨lq_11_19, (List.forall_mem_cons.mpr ⟨lq_11_20, (List.forall_mem_cons.mpr ⟨lq_11_21, (List.forall_mem_cons.mpr ⟨lq_11_22, (List.forall_mem_cons.mpr ⟨lq_11_23, (List.forall_mem_cons.mpr ⟨lq_11_24, (List.forall_mem_cons.mpr ⟨lq_11_25, (List.forall_mem_cons.mpr ⟨lq_11_26, (List.forall_mem_cons.mpr ⟨lq_11_27, (List.forall_mem_cons.mpr ⟨lq_11_28, (List.forall_mem_cons.mpr ⟨lq_11_29, (List.forall_mem_cons.mpr ⟨lq_11_30, (List.forall_mem_cons.mpr ⟨lq_11_31, (List.forall_mem_cons.mpr ⟨lq_11_32, (List.forall_mem_cons.mpr ⟨lq_11_33, (List.forall_mem_cons.mpr ⟨lq_11_34, (List.forall_mem_cons.mpr ⟨lq_11_35, (List.forall_mem_cons.mpr ⟨lq_11_36, (List.forall_mem_cons.mpr ⟨lq_11_37, (List.forall_mem_cons.mpr ⟨lq_11_38, (List.forall_mem_cons.mpr ⟨lq_11_39, (List.forall_mem_cons.mpr ⟨lq_11_40, (List.forall_mem_cons.mpr ⟨lq_11_41, (List.forall_mem_cons.mpr ⟨lq_11_42, (List.forall_mem_cons.mpr ⟨lq_11_43, (List.forall_mem_cons.mpr ⟨lq_11_44, (List.forall_mem_cons.mpr ⟨lq_11_45, (List.forall_mem_cons.mpr ⟨lq_11_46, (List.forall_mem_cons.mpr ⟨lq_11_47, (List.forall_mem_cons.mpr ⟨lq_11_48, (List.forall_mem_cons.mpr ⟨lq_11_49, (List.forall_mem_cons.mpr ⟨lq_11_50, (List.forall_mem_cons.mpr ⟨lq_11_51, (List.forall_mem_cons.mpr ⟨lq_11_52, (List.forall_mem_cons.mpr ⟨lq_11_53, (List.forall_mem_cons.mpr ⟨lq_11_54, (List.forall_mem_cons.mpr ⟨lq_11_55, (List.forall_mem_cons.mpr ⟨lq_11_56, (List.forall_mem_cons.mpr ⟨lq_11_57, (List.forall_mem_cons.mpr ⟨lq_11_58, (List.forall_mem_cons.mpr ⟨lq_11_59, (List.forall_mem_cons.mpr ⟨lq_11_60, (List.forall_mem_cons.mpr ⟨lq_11_61, (List.forall_mem_cons.mpr ⟨lq_11_62, (List.forall_mem_cons.mpr ⟨lq_11_63, (List.forall_mem_cons.mpr ⟨lq_11_64, (List.forall_mem_cons.mpr ⟨lq_11_65, (List.forall_mem_cons.mpr ⟨lq_11_66, (List.forall_mem_cons.mpr ⟨lq_11_67, (List.forall_mem_cons.mpr ⟨lq_11_68, (List.forall_mem_cons.mpr ⟨lq_11_69, (List.forall_mem_cons.mpr ⟨lq_11_70, (List.forall_mem_cons.mpr ⟨lq_11_71, (List.forall_mem_cons.mpr ⟨lq_11_72, (List.forall_mem_cons.mpr ⟨lq_11_73, (List.forall_mem_cons.mpr ⟨lq_11_74, (List.forall_mem_cons.mpr ⟨lq_11_75, (List.forall_mem_cons.mpr ⟨lq_11_76, (List.forall_mem_cons.mpr ⟨lq_11_77, (List.forall_mem_cons.mpr ⟨lq_11_78, (List.forall_mem_cons.mpr ⟨lq_11_79, (List.forall_mem_cons.mpr ⟨lq_11_80, (List.forall_mem_cons.mpr ⟨lq_11_81, (List.forall_mem_cons.mpr ⟨lq_11_82, (List.forall_mem_cons.mpr ⟨lq_11_83, (List.forall_mem_cons.mpr ⟨lq_11_84, (List.forall_mem_cons.mpr ⟨lq_11_85, (List.forall_mem_cons.mpr ⟨lq_11_86, (List.forall_mem_cons.mpr ⟨lq_11_87, (List.forall_mem_cons.mpr ⟨lq_11_88, (List.forall_mem_cons.mpr ⟨lq_11_89, (List.forall_mem_cons.mpr ⟨lq_11_90, (List.forall_mem_cons.mpr ⟨lq_11_91, (List.forall_mem_cons.mpr ⟨lq_11_92, (List.forall_mem_cons.mpr ⟨lq_11_93, (List.forall_mem_cons.mpr ⟨lq_11_94, (List.forall_mem_cons.mpr ⟨lq_11_95, (List.forall_mem_cons.mpr ⟨lq_11_96, (List.forall_mem_cons.mpr ⟨lq_11_97, (List.forall_mem_cons.mpr ⟨lq_11_98, (List.forall_mem_cons.mpr ⟨lq_11_99, (List.forall_mem_cons.mpr ⟨lq_11_100, (List.forall_mem_cons.mpr ⟨lq_11_101, (List.forall_mem_cons.mpr ⟨lq_11_102, (List.forall_mem_cons.mpr ⟨lq_11_103, (List.forall_mem_cons.mpr ⟨lq_11_104, (List.forall_mem_cons.mpr ⟨lq_11_105, (List.forall_mem_cons.mpr ⟨lq_11_106, (List.forall_mem_cons.mpr ⟨lq_11_107, (List.forall_mem_cons.mpr ⟨lq_11_108, (List.forall_mem_cons.mpr ⟨lq_11_109, (List.forall_mem_cons.mpr ⟨lq_11_110, (List.forall_mem_cons.mpr ⟨lq_11_111, (List.forall_mem_cons.mpr ⟨lq_11_112, (List.forall_mem_cons.mpr ⟨lq_11_113, (List.forall_mem_cons.mpr ⟨lq_11_114, (List.forall_mem_cons.mpr ⟨lq_11_115, (List.forall_mem_cons.mpr ⟨lq_11_116, (List.forall_mem_cons.mpr ⟨lq_11_117, (List.forall_mem_cons.mpr ⟨lq_11_118, (List.forall_mem_cons.mpr ⟨lq_11_119, (List.forall_mem_cons.mpr ⟨lq_11_120, (List.forall_mem_cons.mpr ⟨lq_11_121, (List.forall_mem_cons.mpr ⟨lq_11_122, (List.forall_mem_cons.mpr ⟨lq_11_123, (List.forall_mem_cons.mpr ⟨lq_11_124, (List.forall_mem_cons.mpr ⟨lq_11_125, (List.forall_mem_cons.mpr ⟨lq_11_126, (List.forall_mem_cons.mpr ⟨lq_11_127, (List.forall_mem_cons.mpr ⟨lq_11_128, (List.forall_mem_cons.mpr ⟨lq_11_129, (List.forall_mem_cons.mpr ⟨lq_11_130, (List.forall_mem_cons.mpr ⟨lq_11_131, (List.forall_mem_cons.mpr ⟨lq_11_132, (List.forall_mem_cons.mpr ⟨lq_11_133, (List.forall_mem_cons.mpr ⟨lq_11_134, (List.forall_mem_cons.mpr ⟨lq_11_135, (List.forall_mem_cons.mpr ⟨lq_11_136, (List.forall_mem_cons.mpr ⟨lq_11_137, (List.forall_mem_cons.mpr ⟨lq_11_138, (List.forall_mem_cons.mpr ⟨lq_11_139, (List.forall_mem_cons.mpr ⟨lq_11_140, (List.forall_mem_cons.mpr ⟨lq_11_141, (List.forall_mem_cons.mpr ⟨lq_11_142, (List.forall_mem_cons.mpr ⟨lq_11_143, (List.forall_mem_cons.mpr ⟨lq_11_144, (List.forall_mem_cons.mpr ⟨lq_11_145, (List.forall_mem_cons.mpr ⟨lq_11_146, (List.forall_mem_cons.mpr ⟨lq_11_147, (List.forall_mem_cons.mpr ⟨lq_11_148, (List.forall_mem_cons.mpr ⟨lq_11_149, (fun _ h => absurd h List.not_mem_nil)⟩)⟩)⟩)⟩)⟩)⟩)⟩)⟩)⟩)⟩)⟩)⟩)⟩)⟩)⟩)⟩)⟩)⟩)⟩)⟩)⟩)⟩)⟩)⟩)⟩)⟩)⟩)⟩)⟩)⟩)⟩)⟩)⟩)⟩)⟩)⟩)⟩)⟩)⟩)⟩)⟩)⟩)⟩)⟩)⟩)⟩)⟩)⟩)⟩)⟩)⟩)⟩)⟩)⟩)⟩)⟩)⟩)⟩)⟩)⟩)⟩)⟩)⟩)⟩)⟩)⟩)⟩)⟩)⟩)⟩)⟩)⟩)⟩)⟩)⟩)⟩)⟩)⟩)⟩)⟩)⟩)⟩)⟩)⟩)⟩)⟩)⟩)⟩)⟩)⟩)⟩)⟩)⟩)⟩)⟩)⟩)⟩)⟩)⟩)⟩)⟩)⟩)⟩)⟩)⟩)⟩)⟩)⟩)⟩)⟩)⟩)⟩)⟩)⟩)⟩)⟩)⟩)⟩)⟩)⟩)⟩)⟩)⟩)⟩)⟩)⟩)⟩)⟩)⟩)⟩)⟩)⟩)⟩)⟩)⟩)⟩)⟩)⟩)⟩)⟩)⟩)⟩)⟩)⟩)⟩)⟩)⟩)⟩)⟩)⟩)
set_option maxRecDepth 20000 in
theorem lq_12_0 : mm_lc 12 (2, 8, 10, 0) ∈ lw_tbl := (tb_1 _ (List.mem_of_getElem? (i := 21) rfl))
set_option maxRecDepth 20000 in
theorem lq_12_1 : mm_lc 12 (1, 17, 109, 0) ∈ lw_tbl := (tb_1 _ (List.mem_of_getElem? (i := 23) rfl))
set_option maxRecDepth 20000 in
theorem lq_12_2 : mm_lc 12 (2, 18, 11, 0) ∈ lw_tbl := (tb_5 _ (List.mem_of_getElem? (i := 194) rfl))
set_option maxRecDepth 20000 in
theorem lq_12_3 : mm_lc 12 (1, 20, 146, 0) ∈ lw_tbl := (tb_5 _ (List.mem_of_getElem? (i := 196) rfl))
set_option maxRecDepth 20000 in
theorem lq_12_4 : mm_lc 12 (1, 21, 110, 0) ∈ lw_tbl := (tb_2 _ (List.mem_of_getElem? (i := 204) rfl))
set_option maxRecDepth 20000 in
theorem lq_12_5 : mm_lc 12 (1, 25, 147, 0) ∈ lw_tbl := (tb_6 _ (List.mem_of_getElem? (i := 203) rfl))
set_option maxRecDepth 20000 in
theorem lq_12_6 : mm_lc 12 (1, 26, 111, 0) ∈ lw_tbl := (tb_2 _ (List.mem_of_getElem? (i := 212) rfl))
set_option maxRecDepth 20000 in
theorem lq_12_7 : mm_lc 12 (1, 30, 172, 0) ∈ lw_tbl := (tb_6 _ (List.mem_of_getElem? (i := 207) rfl))
set_option maxRecDepth 20000 in
theorem lq_12_8 : mm_lc 12 (1, 31, 112, 0) ∈ lw_tbl := (tb_3 _ (List.mem_of_getElem? (i := 138) rfl))
set_option maxRecDepth 20000 in
theorem lq_12_9 : mm_lc 12 (1, 34, 218, 0) ∈ lw_tbl := (tb_7 _ (List.mem_of_getElem? (i := 188) rfl))
set_option maxRecDepth 20000 in
theorem lq_12_10 : mm_lc 12 (1, 35, 113, 0) ∈ lw_tbl := (tb_4 _ (List.mem_of_getElem? (i := 30) rfl))
set_option maxRecDepth 20000 in
theorem lq_12_11 : mm_lc 12 (1, 38, 226, 0) ∈ lw_tbl := (tb_7 _ (List.mem_of_getElem? (i := 237) rfl))
set_option maxRecDepth 20000 in
theorem lq_12_12 : mm_lc 12 (1, 39, 114, 0) ∈ lw_tbl := (tb_4 _ (List.mem_of_getElem? (i := 80) rfl))
set_option maxRecDepth 20000 in
theorem lq_12_13 : mm_lc 12 (1, 42, 173, 0) ∈ lw_tbl := (tb_7 _ (List.mem_of_getElem? (i := 41) rfl))
set_option maxRecDepth 20000 in
theorem lq_12_14 : mm_lc 12 (1, 43, 115, 0) ∈ lw_tbl := (tb_4 _ (List.mem_of_getElem? (i := 84) rfl))
set_option maxRecDepth 20000 in
theorem lq_12_15 : mm_lc 12 (1, 46, 176, 0) ∈ lw_tbl := (tb_7 _ (List.mem_of_getElem? (i := 45) rfl))
set_option maxRecDepth 20000 in
theorem lq_12_16 : mm_lc 12 (7, 47, 0, 0) ∈ lw_tbl := (tb_5 _ (List.mem_of_getElem? (i := 103) rfl))
set_option maxRecDepth 20000 in
theorem lq_12_17 : mm_lc 12 (1, 52, 181, 0) ∈ lw_tbl := (tb_7 _ (List.mem_of_getElem? (i := 57) rfl))
set_option maxRecDepth 20000 in
theorem lq_12_18 : mm_lc 12 (1, 53, 116, 0) ∈ lw_tbl := (tb_4 _ (List.mem_of_getElem? (i := 90) rfl))
set_option maxRecDepth 20000 in
theorem lq_12_19 : mm_lc 12 (1, 57, 184, 0) ∈ lw_tbl := (tb_7 _ (List.mem_of_getElem? (i := 69) rfl))
set_option maxRecDepth 20000 in
theorem lq_12_20 : mm_lc 12 (1, 58, 117, 0) ∈ lw_tbl := (tb_4 _ (List.mem_of_getElem? (i := 95) rfl))
set_option maxRecDepth 20000 in
theorem lq_12_21 : mm_lc 12 (1, 61, 191, 0) ∈ lw_tbl := (tb_7 _ (List.mem_of_getElem? (i := 85) rfl))
set_option maxRecDepth 20000 in
theorem lq_12_22 : mm_lc 12 (1, 62, 118, 0) ∈ lw_tbl := (tb_4 _ (List.mem_of_getElem? (i := 108) rfl))
set_option maxRecDepth 20000 in
theorem lq_12_23 : mm_lc 12 (1, 66, 192, 0) ∈ lw_tbl := (tb_7 _ (List.mem_of_getElem? (i := 110) rfl))
set_option maxRecDepth 20000 in
theorem lq_12_24 : mm_lc 12 (1, 67, 119, 0) ∈ lw_tbl := (tb_4 _ (List.mem_of_getElem? (i := 113) rfl))
set_option maxRecDepth 20000 in
theorem lq_12_25 : mm_lc 12 (1, 71, 193, 0) ∈ lw_tbl := (tb_7 _ (List.mem_of_getElem? (i := 114) rfl))
set_option maxRecDepth 20000 in
theorem lq_12_26 : mm_lc 12 (1, 72, 120, 0) ∈ lw_tbl := (tb_4 _ (List.mem_of_getElem? (i := 126) rfl))
set_option maxRecDepth 20000 in
theorem lq_12_27 : mm_lc 12 (1, 75, 194, 0) ∈ lw_tbl := (tb_7 _ (List.mem_of_getElem? (i := 126) rfl))
set_option maxRecDepth 20000 in
theorem lq_12_28 : mm_lc 12 (1, 76, 121, 0) ∈ lw_tbl := (tb_4 _ (List.mem_of_getElem? (i := 130) rfl))
set_option maxRecDepth 20000 in
theorem lq_12_29 : mm_lc 12 (1, 80, 195, 0) ∈ lw_tbl := (tb_7 _ (List.mem_of_getElem? (i := 130) rfl))
set_option maxRecDepth 20000 in
theorem lq_12_30 : mm_lc 12 (1, 81, 122, 0) ∈ lw_tbl := (tb_4 _ (List.mem_of_getElem? (i := 134) rfl))
set_option maxRecDepth 20000 in
theorem lq_12_31 : mm_lc 12 (1, 84, 197, 0) ∈ lw_tbl := (tb_7 _ (List.mem_of_getElem? (i := 134) rfl))
set_option maxRecDepth 20000 in
theorem lq_12_32 : mm_lc 12 (1, 85, 123, 0) ∈ lw_tbl := (tb_4 _ (List.mem_of_getElem? (i := 148) rfl))
set_option maxRecDepth 20000 in
theorem lq_12_33 : mm_lc 12 (1, 88, 198, 0) ∈ lw_tbl := (tb_7 _ (List.mem_of_getElem? (i := 145) rfl))
set_option maxRecDepth 20000 in
theorem lq_12_34 : mm_lc 12 (1, 89, 124, 0) ∈ lw_tbl := (tb_4 _ (List.mem_of_getElem? (i := 152) rfl))
set_option maxRecDepth 20000 in
theorem lq_12_35 : mm_lc 12 (1, 92, 199, 0) ∈ lw_tbl := (tb_7 _ (List.mem_of_getElem? (i := 149) rfl))
set_option maxRecDepth 20000 in
theorem lq_12_36 : mm_lc 12 (1, 93, 125, 0) ∈ lw_tbl := (tb_4 _ (List.mem_of_getElem? (i := 157) rfl))
set_option maxRecDepth 20000 in
theorem lq_12_37 : mm_lc 12 (1, 96, 201, 0) ∈ lw_tbl := (tb_7 _ (List.mem_of_getElem? (i := 153) rfl))
set_option maxRecDepth 20000 in
theorem lq_12_38 : mm_lc 12 (1, 97, 126, 0) ∈ lw_tbl := (tb_4 _ (List.mem_of_getElem? (i := 171) rfl))
set_option maxRecDepth 20000 in
theorem lq_12_39 : mm_lc 12 (1, 101, 202, 0) ∈ lw_tbl := (tb_7 _ (List.mem_of_getElem? (i := 161) rfl))
set_option maxRecDepth 20000 in
theorem lq_12_40 : mm_lc 12 (1, 102, 127, 0) ∈ lw_tbl := (tb_4 _ (List.mem_of_getElem? (i := 175) rfl))
set_option maxRecDepth 20000 in
theorem lq_12_41 : mm_lc 12 (1, 105, 203, 0) ∈ lw_tbl := (tb_7 _ (List.mem_of_getElem? (i := 165) rfl))
set_option maxRecDepth 20000 in
theorem lq_12_42 : mm_lc 12 (1, 106, 128, 0) ∈ lw_tbl := (tb_4 _ (List.mem_of_getElem? (i := 179) rfl))
set_option maxRecDepth 20000 in
theorem lq_12_43 : mm_lc 12 (1, 109, 205, 0) ∈ lw_tbl := (tb_7 _ (List.mem_of_getElem? (i := 169) rfl))
set_option maxRecDepth 20000 in
theorem lq_12_44 : mm_lc 12 (4, 110, 4294967295, 0) ∈ lw_tbl := (tb_8 _ (List.mem_of_getElem? (i := 107) rfl))
set_option maxRecDepth 20000 in
theorem lq_12_45 : mm_lc 12 (1, 112, 129, 0) ∈ lw_tbl := (tb_4 _ (List.mem_of_getElem? (i := 186) rfl))
set_option maxRecDepth 20000 in
theorem lq_12_46 : mm_lc 12 (1, 116, 207, 0) ∈ lw_tbl := (tb_7 _ (List.mem_of_getElem? (i := 176) rfl))
set_option maxRecDepth 20000 in
theorem lq_12_47 : mm_lc 12 (1, 117, 130, 0) ∈ lw_tbl := (tb_4 _ (List.mem_of_getElem? (i := 195) rfl))
set_option maxRecDepth 20000 in
theorem lq_12_48 : mm_lc 12 (1, 120, 208, 0) ∈ lw_tbl := (tb_7 _ (List.mem_of_getElem? (i := 184) rfl))
set_option maxRecDepth 20000 in
theorem lq_12_49 : mm_lc 12 (1, 121, 131, 0) ∈ lw_tbl := (tb_4 _ (List.mem_of_getElem? (i := 199) rfl))
set_option maxRecDepth 20000 in
theorem lq_12_50 : mm_lc 12 (1, 124, 228, 0) ∈ lw_tbl := (tb_8 _ (List.mem_of_getElem? (i := 29) rfl))
set_option maxRecDepth 20000 in
theorem lq_12_51 : mm_lc 12 (1, 125, 132, 0) ∈ lw_tbl := (tb_4 _ (List.mem_of_getElem? (i := 226) rfl))
set_option maxRecDepth 20000 in
theorem lq_12_52 : mm_lc 12 (1, 129, 232, 0) ∈ lw_tbl := (tb_8 _ (List.mem_of_getElem? (i := 40) rfl))
set_option maxRecDepth 20000 in
theorem lq_12_53 : mm_lc 12 (1, 130, 133, 0) ∈ lw_tbl := (tb_5 _ (List.mem_of_getElem? (i := 5) rfl))
set_option maxRecDepth 20000 in
theorem lq_12_54 : mm_lc 12 (1, 133, 234, 0) ∈ lw_tbl := (tb_8 _ (List.mem_of_getElem? (i := 55) rfl))
set_option maxRecDepth 20000 in
theorem lq_12_55 : mm_lc 12 (1, 134, 134, 0) ∈ lw_tbl := (tb_5 _ (List.mem_of_getElem? (i := 10) rfl))
set_option maxRecDepth 20000 in
theorem lq_12_56 : mm_lc 12 (1, 137, 236, 0) ∈ lw_tbl := (tb_8 _ (List.mem_of_getElem? (i := 63) rfl))
set_option maxRecDepth 20000 in
theorem lq_12_57 : mm_lc 12 (1, 138, 135, 0) ∈ lw_tbl := (tb_5 _ (List.mem_of_getElem? (i := 36) rfl))
set_option maxRecDepth 20000 in
theorem lq_12_58 : mm_lc 12 (1, 141, 237, 0) ∈ lw_tbl := (tb_8 _ (List.mem_of_getElem? (i := 71) rfl))
set_option maxRecDepth 20000 in
theorem lq_12_59 : mm_lc 12 (1, 142, 136, 0) ∈ lw_tbl := (tb_5 _ (List.mem_of_getElem? (i := 58) rfl))
set_option maxRecDepth 20000 in
theorem lq_12_60 : mm_lc 12 (1, 145, 241, 0) ∈ lw_tbl := (tb_8 _ (List.mem_of_getElem? (i := 83) rfl))
set_option maxRecDepth 20000 in
theorem lq_12_61 : mm_lc 12 (1, 146, 137, 0) ∈ lw_tbl := (tb_5 _ (List.mem_of_getElem? (i := 74) rfl))
set_option maxRecDepth 20000 in
theorem lq_12_62 : mm_lc 12 (1, 149, 244, 0) ∈ lw_tbl := (tb_8 _ (List.mem_of_getElem? (i := 91) rfl))
set_option maxRecDepth 20000 in
theorem lq_12_63 : mm_lc 12 (1, 150, 138, 0) ∈ lw_tbl := (tb_5 _ (List.mem_of_getElem? (i := 99) rfl))
set_option maxRecDepth 20000 in
theorem lq_12_64 : mm_lc 12 (1, 153, 245, 0) ∈ lw_tbl := (tb_8 _ (List.mem_of_getElem? (i := 103) rfl))
set_option maxRecDepth 20000 in
theorem lk_in_12 : ∀ d ∈ ln_12, mm_lc 12 d ∈ lw_tbl := (List.forall_mem_cons.mpr ⟨lq_12_0, (List.forall_mem_cons.mpr ⟨lq_12_1, (List.forall_mem_cons.mpr ⟨lq_12_2, (List.forall_mem_cons.mpr ⟨lq_12_3, (List.forall_mem_cons.mpr ⟨lq_12_4, (List.forall_mem_cons.mpr ⟨lq_12_5, (List.forall_mem_cons.mpr ⟨lq_12_6, (List.forall_mem_cons.mpr ⟨lq_12_7, (List.forall_mem_cons.mpr ⟨lq_12_8, (List.forall_mem_cons.mpr ⟨lq_12_9, (List.forall_mem_cons.mpr ⟨lq_12_10, (List.forall_mem_cons.mpr ⟨lq_12_11, (List.forall_mem_cons.mpr ⟨lq_12_12, (List.forall_mem_cons.mpr ⟨lq_12_13, (List.forall_mem_cons.mpr ⟨lq_12_14, (List.forall_mem_cons.mpr ⟨lq_12_15, (List.forall_mem_cons.mpr ⟨lq_12_16, (List.forall_mem_cons.mpr ⟨lq_12_17, (List.forall_mem_cons.mpr ⟨lq_12_18, (List.forall_mem_cons.mpr ⟨lq_12_19, (List.forall_mem_cons.mpr ⟨lq_12_20, (List.forall_mem_cons.mpr ⟨lq_12_21, (List.forall_mem_cons.mpr ⟨lq_12_22, (List.forall_mem_cons.mpr ⟨lq_12_23, (List.forall_mem_cons.mpr ⟨lq_12_24, (List.forall_mem_cons.mpr ⟨lq_12_25, (List.forall_mem_cons.mpr ⟨lq_12_26, (List.forall_mem_cons.mpr ⟨lq_12_27, (List.forall_mem_cons.mpr ⟨lq_12_28, (List.forall_mem_cons.mpr ⟨lq_12_29, (List.forall_mem_cons.mpr ⟨lq_12_30, (List.forall_mem_cons.mpr ⟨lq_12_31, (List.forall_mem_cons.mpr ⟨lq_12_32, (List.forall_mem_cons.mpr ⟨lq_12_33, (List.forall_mem_cons.mpr ⟨lq_12_34, (List.forall_mem_cons.mpr ⟨lq_12_35, (List.forall_mem_cons.mpr ⟨lq_12_36, (List.forall_mem_cons.mpr ⟨lq_12_37, (List.forall_mem_cons.mpr ⟨lq_12_38, (List.forall_mem_cons.mpr ⟨lq_12_39, (List.forall_mem_cons.mpr ⟨lq_12_40, (List.forall_mem_cons.mpr ⟨lq_12_41, (List.forall_mem_cons.mpr ⟨lq_12_42, (List.forall_mem_cons.mpr ⟨lq_12_43, (List.forall_mem_cons.mpr ⟨lq_12_44, (List.forall_mem_cons.mpr ⟨lq_12_45, (List.forall_mem_cons.mpr ⟨lq_12_46, (List.forall_mem_cons.mpr ⟨lq_12_47, (List.forall_mem_cons.mpr ⟨lq_12_48, (List.forall_mem_cons.mpr ⟨lq_12_49, (List.forall_mem_cons.mpr ⟨lq_12_50, (List.forall_mem_cons.mpr ⟨lq_12_51, (List.forall_mem_cons.mpr ⟨lq_12_52, (List.forall_mem_cons.mpr ⟨lq_12_53, (List.forall_mem_cons.mpr ⟨lq_12_54, (List.forall_mem_cons.mpr ⟨lq_12_55, (List.forall_mem_cons.mpr ⟨lq_12_56, (List.forall_mem_cons.mpr ⟨lq_12_57, (List.forall_mem_cons.mpr ⟨lq_12_58, (List.forall_mem_cons.mpr ⟨lq_12_59, (List.forall_mem_cons.mpr ⟨lq_12_60, (List.forall_mem_cons.mpr ⟨lq_12_61, (List.forall_mem_cons.mpr ⟨lq_12_62, (List.forall_mem_cons.mpr ⟨lq_12_63, (List.forall_mem_cons.mpr ⟨lq_12_64, (fun _ h => absurd h List.not_mem_nil)⟩)⟩)⟩)⟩)⟩)⟩)⟩)⟩)⟩)⟩)⟩)⟩)⟩)⟩)⟩)⟩)⟩)⟩)⟩)⟩)⟩)⟩)⟩)⟩)⟩)⟩)⟩)⟩)⟩)⟩)⟩)⟩)⟩)⟩)⟩)⟩)⟩)⟩)⟩)⟩)⟩)⟩)⟩)⟩)⟩)⟩)⟩)⟩)⟩)⟩)⟩)⟩)⟩)⟩)⟩)⟩)⟩)⟩)⟩)⟩)⟩)⟩)⟩)⟩)⟩)
set_option maxRecDepth 20000 in
theorem lq_13_0 : mm_lc 13 (3, 265, 1431655765, 0) ∈ lw_tbl := (tb_4 _ (List.mem_of_getElem? (i := 145) rfl))
set_option maxRecDepth 20000 in
theorem lq_13_1 : mm_lc 13 (3, 266, 858993459, 0) ∈ lw_tbl := (tb_4 _ (List.mem_of_getElem? (i := 146) rfl))
set_option maxRecDepth 20000 in
theorem lq_13_2 : mm_lc 13 (3, 267, 252645135, 0) ∈ lw_tbl := (tb_4 _ (List.mem_of_getElem? (i := 147) rfl))
set_option maxRecDepth 20000 in
theorem lk_in_13 : ∀ d ∈ ln_13, mm_lc 13 d ∈ lw_tbl := (List.forall_mem_cons.mpr ⟨lq_13_0, (List.forall_mem_cons.mpr ⟨lq_13_1, (List.forall_mem_cons.mpr ⟨lq_13_2, (fun _ h => absurd h List.not_mem_nil)⟩)⟩)⟩)
set_option maxRecDepth 20000 in
theorem lq_14_0 : mm_lc 14 (4, 314, 6148914691236517205, 0) ∈ lw_tbl := (tb_5 _ (List.mem_of_getElem? (i := 2) rfl))
set_option maxRecDepth 20000 in
theorem lq_14_1 : mm_lc 14 (4, 316, 3689348814741910323, 0) ∈ lw_tbl := (tb_5 _ (List.mem_of_getElem? (i := 3) rfl))
set_option maxRecDepth 20000 in
theorem lq_14_2 : mm_lc 14 (4, 318, 1085102592571150095, 0) ∈ lw_tbl := (tb_5 _ (List.mem_of_getElem? (i := 4) rfl))
set_option maxRecDepth 20000 in
theorem lk_in_14 : ∀ d ∈ ln_14, mm_lc 14 d ∈ lw_tbl := (List.forall_mem_cons.mpr ⟨lq_14_0, (List.forall_mem_cons.mpr ⟨lq_14_1, (List.forall_mem_cons.mpr ⟨lq_14_2, (fun _ h => absurd h List.not_mem_nil)⟩)⟩)⟩)
set_option maxRecDepth 20000 in
theorem nn_in : ∀ d ∈ nn_0, mm_nc d ∈ lw_tbl := (List.forall_mem_cons.mpr ⟨(tb_3 _ (List.mem_of_getElem? (i := 89) rfl)), (List.forall_mem_cons.mpr ⟨(tb_3 _ (List.mem_of_getElem? (i := 171) rfl)), (List.forall_mem_cons.mpr ⟨(tb_3 _ (List.mem_of_getElem? (i := 173) rfl)), (List.forall_mem_cons.mpr ⟨(tb_4 _ (List.mem_of_getElem? (i := 207) rfl)), (List.forall_mem_cons.mpr ⟨(tb_3 _ (List.mem_of_getElem? (i := 2) rfl)), (List.forall_mem_cons.mpr ⟨(tb_1 _ (List.mem_of_getElem? (i := 31) rfl)), (List.forall_mem_cons.mpr ⟨(tb_1 _ (List.mem_of_getElem? (i := 87) rfl)), (List.forall_mem_cons.mpr ⟨(tb_1 _ (List.mem_of_getElem? (i := 114) rfl)), (List.forall_mem_cons.mpr ⟨(tb_1 _ (List.mem_of_getElem? (i := 148) rfl)), (List.forall_mem_cons.mpr ⟨(tb_1 _ (List.mem_of_getElem? (i := 178) rfl)), (List.forall_mem_cons.mpr ⟨(tb_1 _ (List.mem_of_getElem? (i := 220) rfl)), (List.forall_mem_cons.mpr ⟨(tb_2 _ (List.mem_of_getElem? (i := 2) rfl)), (List.forall_mem_cons.mpr ⟨(tb_2 _ (List.mem_of_getElem? (i := 33) rfl)), (List.forall_mem_cons.mpr ⟨(tb_2 _ (List.mem_of_getElem? (i := 71) rfl)), (List.forall_mem_cons.mpr ⟨(tb_2 _ (List.mem_of_getElem? (i := 140) rfl)), (fun _ h => absurd h List.not_mem_nil)⟩)⟩)⟩)⟩)⟩)⟩)⟩)⟩)⟩)⟩)⟩)⟩)⟩)⟩)⟩)
set_option maxRecDepth 20000 in
theorem uw_0 : ∀ w ∈ u_ws (mm_on 0) (mm_tf 0) (mm_tn 0), w ∈ lw_tbl := (List.forall_mem_cons.mpr ⟨(tb_1 _ (List.mem_of_getElem? (i := 229) rfl)), (List.forall_mem_cons.mpr ⟨(tb_1 _ (List.mem_of_getElem? (i := 231) rfl)), (List.forall_mem_cons.mpr ⟨(tb_1 _ (List.mem_of_getElem? (i := 233) rfl)), (List.forall_mem_cons.mpr ⟨(tb_1 _ (List.mem_of_getElem? (i := 235) rfl)), (List.forall_mem_cons.mpr ⟨(tb_1 _ (List.mem_of_getElem? (i := 237) rfl)), (fun _ h => absurd h List.not_mem_nil)⟩)⟩)⟩)⟩)⟩)
set_option maxRecDepth 20000 in
theorem ui_0 : Cond.instantiable (mm_on 0) (mm_tn 0) ∈ lw_tbl ∧ Cond.initialized (mm_on 0) ∈ lw_tbl := ⟨(tb_1 _ (List.mem_of_getElem? (i := 219) rfl)), (tb_1 _ (List.mem_of_getElem? (i := 7) rfl))⟩
set_option maxRecDepth 20000 in
theorem uw_1 : ∀ w ∈ u_ws (mm_on 1) (mm_tf 1) (mm_tn 1), w ∈ lw_tbl := (List.forall_mem_cons.mpr ⟨(tb_1 _ (List.mem_of_getElem? (i := 133) rfl)), (List.forall_mem_cons.mpr ⟨(tb_1 _ (List.mem_of_getElem? (i := 135) rfl)), (List.forall_mem_cons.mpr ⟨(tb_1 _ (List.mem_of_getElem? (i := 137) rfl)), (List.forall_mem_cons.mpr ⟨(tb_1 _ (List.mem_of_getElem? (i := 139) rfl)), (List.forall_mem_cons.mpr ⟨(tb_1 _ (List.mem_of_getElem? (i := 141) rfl)), (fun _ h => absurd h List.not_mem_nil)⟩)⟩)⟩)⟩)⟩)
set_option maxRecDepth 20000 in
theorem ui_1 : Cond.instantiable (mm_on 1) (mm_tn 1) ∈ lw_tbl ∧ Cond.initialized (mm_on 1) ∈ lw_tbl := ⟨(tb_1 _ (List.mem_of_getElem? (i := 113) rfl)), (tb_1 _ (List.mem_of_getElem? (i := 4) rfl))⟩
set_option maxRecDepth 20000 in
theorem uw_2 : ∀ w ∈ u_ws (mm_on 2) (mm_tf 2) (mm_tn 2), w ∈ lw_tbl := (List.forall_mem_cons.mpr ⟨(tb_2 _ (List.mem_of_getElem? (i := 16) rfl)), (List.forall_mem_cons.mpr ⟨(tb_2 _ (List.mem_of_getElem? (i := 18) rfl)), (List.forall_mem_cons.mpr ⟨(tb_2 _ (List.mem_of_getElem? (i := 20) rfl)), (List.forall_mem_cons.mpr ⟨(tb_2 _ (List.mem_of_getElem? (i := 22) rfl)), (List.forall_mem_cons.mpr ⟨(tb_2 _ (List.mem_of_getElem? (i := 24) rfl)), (List.forall_mem_cons.mpr ⟨(tb_2 _ (List.mem_of_getElem? (i := 26) rfl)), (List.forall_mem_cons.mpr ⟨(tb_2 _ (List.mem_of_getElem? (i := 28) rfl)), (fun _ h => absurd h List.not_mem_nil)⟩)⟩)⟩)⟩)⟩)⟩)⟩)
set_option maxRecDepth 20000 in
theorem ui_2 : Cond.instantiable (mm_on 2) (mm_tn 2) ∈ lw_tbl ∧ Cond.initialized (mm_on 2) ∈ lw_tbl := ⟨(tb_2 _ (List.mem_of_getElem? (i := 1) rfl)), (tb_1 _ (List.mem_of_getElem? (i := 8) rfl))⟩
set_option maxRecDepth 20000 in
theorem uw_3 : ∀ w ∈ u_ws (mm_on 3) (mm_tf 3) (mm_tn 3), w ∈ lw_tbl := (List.forall_mem_cons.mpr ⟨(tb_1 _ (List.mem_of_getElem? (i := 101) rfl)), (List.forall_mem_cons.mpr ⟨(tb_1 _ (List.mem_of_getElem? (i := 103) rfl)), (List.forall_mem_cons.mpr ⟨(tb_1 _ (List.mem_of_getElem? (i := 105) rfl)), (List.forall_mem_cons.mpr ⟨(tb_1 _ (List.mem_of_getElem? (i := 107) rfl)), (List.forall_mem_cons.mpr ⟨(tb_1 _ (List.mem_of_getElem? (i := 109) rfl)), (fun _ h => absurd h List.not_mem_nil)⟩)⟩)⟩)⟩)⟩)
set_option maxRecDepth 20000 in
theorem ui_3 : Cond.instantiable (mm_on 3) (mm_tn 3) ∈ lw_tbl ∧ Cond.initialized (mm_on 3) ∈ lw_tbl := ⟨(tb_1 _ (List.mem_of_getElem? (i := 86) rfl)), (tb_1 _ (List.mem_of_getElem? (i := 3) rfl))⟩
set_option maxRecDepth 20000 in
theorem uw_4 : ∀ w ∈ u_ws (mm_on 4) (mm_tf 4) (mm_tn 4), w ∈ lw_tbl := (List.forall_mem_cons.mpr ⟨(tb_1 _ (List.mem_of_getElem? (i := 165) rfl)), (List.forall_mem_cons.mpr ⟨(tb_1 _ (List.mem_of_getElem? (i := 167) rfl)), (List.forall_mem_cons.mpr ⟨(tb_1 _ (List.mem_of_getElem? (i := 169) rfl)), (List.forall_mem_cons.mpr ⟨(tb_1 _ (List.mem_of_getElem? (i := 171) rfl)), (List.forall_mem_cons.mpr ⟨(tb_1 _ (List.mem_of_getElem? (i := 173) rfl)), (fun _ h => absurd h List.not_mem_nil)⟩)⟩)⟩)⟩)⟩)
set_option maxRecDepth 20000 in
theorem ui_4 : Cond.instantiable (mm_on 4) (mm_tn 4) ∈ lw_tbl ∧ Cond.initialized (mm_on 4) ∈ lw_tbl := ⟨(tb_1 _ (List.mem_of_getElem? (i := 147) rfl)), (tb_1 _ (List.mem_of_getElem? (i := 5) rfl))⟩
set_option maxRecDepth 20000 in
theorem uw_5 : ∀ w ∈ u_ws (mm_on 5) (mm_tf 5) (mm_tn 5), w ∈ lw_tbl := (List.forall_mem_cons.mpr ⟨(tb_2 _ (List.mem_of_getElem? (i := 111) rfl)), (List.forall_mem_cons.mpr ⟨(tb_2 _ (List.mem_of_getElem? (i := 113) rfl)), (List.forall_mem_cons.mpr ⟨(tb_2 _ (List.mem_of_getElem? (i := 115) rfl)), (List.forall_mem_cons.mpr ⟨(tb_2 _ (List.mem_of_getElem? (i := 117) rfl)), (List.forall_mem_cons.mpr ⟨(tb_2 _ (List.mem_of_getElem? (i := 119) rfl)), (List.forall_mem_cons.mpr ⟨(tb_2 _ (List.mem_of_getElem? (i := 121) rfl)), (List.forall_mem_cons.mpr ⟨(tb_2 _ (List.mem_of_getElem? (i := 123) rfl)), (List.forall_mem_cons.mpr ⟨(tb_2 _ (List.mem_of_getElem? (i := 125) rfl)), (List.forall_mem_cons.mpr ⟨(tb_2 _ (List.mem_of_getElem? (i := 127) rfl)), (List.forall_mem_cons.mpr ⟨(tb_2 _ (List.mem_of_getElem? (i := 129) rfl)), (List.forall_mem_cons.mpr ⟨(tb_2 _ (List.mem_of_getElem? (i := 131) rfl)), (List.forall_mem_cons.mpr ⟨(tb_2 _ (List.mem_of_getElem? (i := 133) rfl)), (List.forall_mem_cons.mpr ⟨(tb_2 _ (List.mem_of_getElem? (i := 135) rfl)), (fun _ h => absurd h List.not_mem_nil)⟩)⟩)⟩)⟩)⟩)⟩)⟩)⟩)⟩)⟩)⟩)⟩)⟩)
set_option maxRecDepth 20000 in
theorem ui_5 : Cond.instantiable (mm_on 5) (mm_tn 5) ∈ lw_tbl ∧ Cond.initialized (mm_on 5) ∈ lw_tbl := ⟨(tb_2 _ (List.mem_of_getElem? (i := 70) rfl)), (tb_1 _ (List.mem_of_getElem? (i := 10) rfl))⟩
set_option maxRecDepth 20000 in
theorem uw_6 : ∀ w ∈ u_ws (mm_on 6) (mm_tf 6) (mm_tn 6), w ∈ lw_tbl := (List.forall_mem_cons.mpr ⟨(tb_2 _ (List.mem_of_getElem? (i := 151) rfl)), (List.forall_mem_cons.mpr ⟨(tb_2 _ (List.mem_of_getElem? (i := 153) rfl)), (List.forall_mem_cons.mpr ⟨(tb_2 _ (List.mem_of_getElem? (i := 155) rfl)), (List.forall_mem_cons.mpr ⟨(tb_2 _ (List.mem_of_getElem? (i := 157) rfl)), (List.forall_mem_cons.mpr ⟨(tb_2 _ (List.mem_of_getElem? (i := 159) rfl)), (List.forall_mem_cons.mpr ⟨(tb_2 _ (List.mem_of_getElem? (i := 161) rfl)), (fun _ h => absurd h List.not_mem_nil)⟩)⟩)⟩)⟩)⟩)⟩)
set_option maxRecDepth 20000 in
theorem ui_6 : Cond.instantiable (mm_on 6) (mm_tn 6) ∈ lw_tbl ∧ Cond.initialized (mm_on 6) ∈ lw_tbl := ⟨(tb_2 _ (List.mem_of_getElem? (i := 139) rfl)), (tb_1 _ (List.mem_of_getElem? (i := 11) rfl))⟩
set_option maxRecDepth 20000 in
theorem uw_7 : ∀ w ∈ u_ws (mm_on 7) (mm_tf 7) (mm_tn 7), w ∈ lw_tbl := (List.forall_mem_cons.mpr ⟨(tb_2 _ (List.mem_of_getElem? (i := 48) rfl)), (List.forall_mem_cons.mpr ⟨(tb_2 _ (List.mem_of_getElem? (i := 50) rfl)), (List.forall_mem_cons.mpr ⟨(tb_2 _ (List.mem_of_getElem? (i := 52) rfl)), (List.forall_mem_cons.mpr ⟨(tb_2 _ (List.mem_of_getElem? (i := 54) rfl)), (List.forall_mem_cons.mpr ⟨(tb_2 _ (List.mem_of_getElem? (i := 56) rfl)), (List.forall_mem_cons.mpr ⟨(tb_2 _ (List.mem_of_getElem? (i := 58) rfl)), (List.forall_mem_cons.mpr ⟨(tb_2 _ (List.mem_of_getElem? (i := 60) rfl)), (List.forall_mem_cons.mpr ⟨(tb_2 _ (List.mem_of_getElem? (i := 62) rfl)), (List.forall_mem_cons.mpr ⟨(tb_2 _ (List.mem_of_getElem? (i := 64) rfl)), (List.forall_mem_cons.mpr ⟨(tb_2 _ (List.mem_of_getElem? (i := 66) rfl)), (fun _ h => absurd h List.not_mem_nil)⟩)⟩)⟩)⟩)⟩)⟩)⟩)⟩)⟩)⟩)
set_option maxRecDepth 20000 in
theorem ui_7 : Cond.instantiable (mm_on 7) (mm_tn 7) ∈ lw_tbl ∧ Cond.initialized (mm_on 7) ∈ lw_tbl := ⟨(tb_2 _ (List.mem_of_getElem? (i := 32) rfl)), (tb_1 _ (List.mem_of_getElem? (i := 9) rfl))⟩
set_option maxRecDepth 20000 in
theorem uw_8 : ∀ w ∈ u_ws (mm_on 8) (mm_tf 8) (mm_tn 8), w ∈ lw_tbl := (List.forall_mem_cons.mpr ⟨(tb_1 _ (List.mem_of_getElem? (i := 58) rfl)), (List.forall_mem_cons.mpr ⟨(tb_1 _ (List.mem_of_getElem? (i := 60) rfl)), (List.forall_mem_cons.mpr ⟨(tb_1 _ (List.mem_of_getElem? (i := 62) rfl)), (List.forall_mem_cons.mpr ⟨(tb_1 _ (List.mem_of_getElem? (i := 64) rfl)), (List.forall_mem_cons.mpr ⟨(tb_1 _ (List.mem_of_getElem? (i := 66) rfl)), (List.forall_mem_cons.mpr ⟨(tb_1 _ (List.mem_of_getElem? (i := 68) rfl)), (List.forall_mem_cons.mpr ⟨(tb_1 _ (List.mem_of_getElem? (i := 70) rfl)), (List.forall_mem_cons.mpr ⟨(tb_1 _ (List.mem_of_getElem? (i := 72) rfl)), (List.forall_mem_cons.mpr ⟨(tb_1 _ (List.mem_of_getElem? (i := 74) rfl)), (List.forall_mem_cons.mpr ⟨(tb_1 _ (List.mem_of_getElem? (i := 76) rfl)), (List.forall_mem_cons.mpr ⟨(tb_1 _ (List.mem_of_getElem? (i := 78) rfl)), (List.forall_mem_cons.mpr ⟨(tb_1 _ (List.mem_of_getElem? (i := 80) rfl)), (fun _ h => absurd h List.not_mem_nil)⟩)⟩)⟩)⟩)⟩)⟩)⟩)⟩)⟩)⟩)⟩)⟩)
set_option maxRecDepth 20000 in
theorem ui_8 : Cond.instantiable (mm_on 8) (mm_tn 8) ∈ lw_tbl ∧ Cond.initialized (mm_on 8) ∈ lw_tbl := ⟨(tb_1 _ (List.mem_of_getElem? (i := 30) rfl)), (tb_1 _ (List.mem_of_getElem? (i := 2) rfl))⟩
set_option maxRecDepth 20000 in
theorem uw_9 : ∀ w ∈ u_ws (mm_on 9) (mm_tf 9) (mm_tn 9), w ∈ lw_tbl := (List.forall_mem_cons.mpr ⟨(tb_1 _ (List.mem_of_getElem? (i := 195) rfl)), (List.forall_mem_cons.mpr ⟨(tb_1 _ (List.mem_of_getElem? (i := 197) rfl)), (List.forall_mem_cons.mpr ⟨(tb_1 _ (List.mem_of_getElem? (i := 199) rfl)), (List.forall_mem_cons.mpr ⟨(tb_1 _ (List.mem_of_getElem? (i := 201) rfl)), (List.forall_mem_cons.mpr ⟨(tb_1 _ (List.mem_of_getElem? (i := 203) rfl)), (List.forall_mem_cons.mpr ⟨(tb_1 _ (List.mem_of_getElem? (i := 205) rfl)), (List.forall_mem_cons.mpr ⟨(tb_1 _ (List.mem_of_getElem? (i := 207) rfl)), (List.forall_mem_cons.mpr ⟨(tb_1 _ (List.mem_of_getElem? (i := 209) rfl)), (List.forall_mem_cons.mpr ⟨(tb_1 _ (List.mem_of_getElem? (i := 211) rfl)), (List.forall_mem_cons.mpr ⟨(tb_1 _ (List.mem_of_getElem? (i := 213) rfl)), (List.forall_mem_cons.mpr ⟨(tb_1 _ (List.mem_of_getElem? (i := 215) rfl)), (fun _ h => absurd h List.not_mem_nil)⟩)⟩)⟩)⟩)⟩)⟩)⟩)⟩)⟩)⟩)⟩)
set_option maxRecDepth 20000 in
theorem ui_9 : Cond.instantiable (mm_on 9) (mm_tn 9) ∈ lw_tbl ∧ Cond.initialized (mm_on 9) ∈ lw_tbl := ⟨(tb_1 _ (List.mem_of_getElem? (i := 177) rfl)), (tb_1 _ (List.mem_of_getElem? (i := 6) rfl))⟩
set_option maxRecDepth 20000 in
theorem uw_10 : ∀ w ∈ u_ws (mm_on 10) (mm_tf 10) (mm_tn 10), w ∈ lw_tbl := (List.forall_mem_cons.mpr ⟨(tb_2 _ (List.mem_of_getElem? (i := 177) rfl)), (List.forall_mem_cons.mpr ⟨(tb_2 _ (List.mem_of_getElem? (i := 179) rfl)), (List.forall_mem_cons.mpr ⟨(tb_2 _ (List.mem_of_getElem? (i := 181) rfl)), (List.forall_mem_cons.mpr ⟨(tb_2 _ (List.mem_of_getElem? (i := 183) rfl)), (List.forall_mem_cons.mpr ⟨(tb_2 _ (List.mem_of_getElem? (i := 185) rfl)), (List.forall_mem_cons.mpr ⟨(tb_2 _ (List.mem_of_getElem? (i := 187) rfl)), (List.forall_mem_cons.mpr ⟨(tb_2 _ (List.mem_of_getElem? (i := 189) rfl)), (List.forall_mem_cons.mpr ⟨(tb_2 _ (List.mem_of_getElem? (i := 191) rfl)), (List.forall_mem_cons.mpr ⟨(tb_2 _ (List.mem_of_getElem? (i := 193) rfl)), (List.forall_mem_cons.mpr ⟨(tb_2 _ (List.mem_of_getElem? (i := 195) rfl)), (List.forall_mem_cons.mpr ⟨(tb_2 _ (List.mem_of_getElem? (i := 197) rfl)), (List.forall_mem_cons.mpr ⟨(tb_2 _ (List.mem_of_getElem? (i := 199) rfl)), (List.forall_mem_cons.mpr ⟨(tb_2 _ (List.mem_of_getElem? (i := 201) rfl)), (fun _ h => absurd h List.not_mem_nil)⟩)⟩)⟩)⟩)⟩)⟩)⟩)⟩)⟩)⟩)⟩)⟩)⟩)
set_option maxRecDepth 20000 in
theorem ui_10 : Cond.instantiable (mm_on 10) (mm_tn 10) ∈ lw_tbl ∧ Cond.initialized (mm_on 10) ∈ lw_tbl := ⟨(tb_1 _ (List.mem_of_getElem? (i := 22) rfl)), (tb_1 _ (List.mem_of_getElem? (i := 1) rfl))⟩
set_option maxRecDepth 20000 in
theorem uw_11 : ∀ w ∈ u_ws (mm_on 11) (mm_tf 11) (mm_tn 11), w ∈ lw_tbl := (List.forall_mem_cons.mpr ⟨(tb_6 _ (List.mem_of_getElem? (i := 46) rfl)), (List.forall_mem_cons.mpr ⟨(tb_6 _ (List.mem_of_getElem? (i := 48) rfl)), (List.forall_mem_cons.mpr ⟨(tb_6 _ (List.mem_of_getElem? (i := 50) rfl)), (List.forall_mem_cons.mpr ⟨(tb_6 _ (List.mem_of_getElem? (i := 52) rfl)), (List.forall_mem_cons.mpr ⟨(tb_6 _ (List.mem_of_getElem? (i := 54) rfl)), (List.forall_mem_cons.mpr ⟨(tb_6 _ (List.mem_of_getElem? (i := 56) rfl)), (List.forall_mem_cons.mpr ⟨(tb_6 _ (List.mem_of_getElem? (i := 58) rfl)), (List.forall_mem_cons.mpr ⟨(tb_6 _ (List.mem_of_getElem? (i := 60) rfl)), (List.forall_mem_cons.mpr ⟨(tb_6 _ (List.mem_of_getElem? (i := 62) rfl)), (List.forall_mem_cons.mpr ⟨(tb_6 _ (List.mem_of_getElem? (i := 64) rfl)), (List.forall_mem_cons.mpr ⟨(tb_6 _ (List.mem_of_getElem? (i := 66) rfl)), (List.forall_mem_cons.mpr ⟨(tb_6 _ (List.mem_of_getElem? (i := 68) rfl)), (List.forall_mem_cons.mpr ⟨(tb_6 _ (List.mem_of_getElem? (i := 70) rfl)), (List.forall_mem_cons.mpr ⟨(tb_6 _ (List.mem_of_getElem? (i := 72) rfl)), (List.forall_mem_cons.mpr ⟨(tb_6 _ (List.mem_of_getElem? (i := 74) rfl)), (List.forall_mem_cons.mpr ⟨(tb_6 _ (List.mem_of_getElem? (i := 76) rfl)), (List.forall_mem_cons.mpr ⟨(tb_6 _ (List.mem_of_getElem? (i := 78) rfl)), (List.forall_mem_cons.mpr ⟨(tb_6 _ (List.mem_of_getElem? (i := 80) rfl)), (List.forall_mem_cons.mpr ⟨(tb_6 _ (List.mem_of_getElem? (i := 82) rfl)), (List.forall_mem_cons.mpr ⟨(tb_6 _ (List.mem_of_getElem? (i := 84) rfl)), (List.forall_mem_cons.mpr ⟨(tb_6 _ (List.mem_of_getElem? (i := 86) rfl)), (List.forall_mem_cons.mpr ⟨(tb_6 _ (List.mem_of_getElem? (i := 88) rfl)), (List.forall_mem_cons.mpr ⟨(tb_6 _ (List.mem_of_getElem? (i := 90) rfl)), (List.forall_mem_cons.mpr ⟨(tb_6 _ (List.mem_of_getElem? (i := 92) rfl)), (List.forall_mem_cons.mpr ⟨(tb_6 _ (List.mem_of_getElem? (i := 94) rfl)), (List.forall_mem_cons.mpr ⟨(tb_6 _ (List.mem_of_getElem? (i := 96) rfl)), (List.forall_mem_cons.mpr ⟨(tb_6 _ (List.mem_of_getElem? (i := 98) rfl)), (List.forall_mem_cons.mpr ⟨(tb_6 _ (List.mem_of_getElem? (i := 100) rfl)), (List.forall_mem_cons.mpr ⟨(tb_6 _ (List.mem_of_getElem? (i := 102) rfl)), (List.forall_mem_cons.mpr ⟨(tb_6 _ (List.mem_of_getElem? (i := 104) rfl)), (List.forall_mem_cons.mpr ⟨(tb_6 _ (List.mem_of_getElem? (i := 106) rfl)), (List.forall_mem_cons.mpr ⟨(tb_6 _ (List.mem_of_getElem? (i := 108) rfl)), (List.forall_mem_cons.mpr ⟨(tb_6 _ (List.mem_of_getElem? (i := 110) rfl)), (List.forall_mem_cons.mpr ⟨(tb_6 _ (List.mem_of_getElem? (i := 112) rfl)), (List.forall_mem_cons.mpr ⟨(tb_6 _ (List.mem_of_getElem? (i := 114) rfl)), (List.forall_mem_cons.mpr ⟨(tb_6 _ (List.mem_of_getElem? (i := 116) rfl)), (List.forall_mem_cons.mpr ⟨(tb_6 _ (List.mem_of_getElem? (i := 118) rfl)), (List.forall_mem_cons.mpr ⟨(tb_6 _ (List.mem_of_getElem? (i := 120) rfl)), (List.forall_mem_cons.mpr ⟨(tb_6 _ (List.mem_of_getElem? (i := 122) rfl)), (List.forall_mem_cons.mpr ⟨(tb_6 _ (List.mem_of_getElem? (i := 124) rfl)), (List.forall_mem_cons.mpr ⟨(tb_6 _ (List.mem_of_getElem? (i := 126) rfl)), (List.forall_mem_cons.mpr ⟨(tb_6 _ (List.mem_of_getElem? (i := 128) rfl)), (List.forall_mem_cons.mpr ⟨(tb_6 _ (List.mem_of_getElem? (i := 130) rfl)), (List.forall_mem_cons.mpr ⟨(tb_6 _ (List.mem_of_getElem? (i := 132) rfl)), (List.forall_mem_cons.mpr ⟨(tb_6 _ (List.mem_of_getElem? (i := 134) rfl)), (List.forall_mem_cons.mpr ⟨(tb_6 _ (List.mem_of_getElem? (i := 136) rfl)), (List.forall_mem_cons.mpr ⟨(tb_6 _ (List.mem_of_getElem? (i := 138) rfl)), (List.forall_mem_cons.mpr ⟨(tb_6 _ (List.mem_of_getElem? (i := 140) rfl)), (List.forall_mem_cons.mpr ⟨(tb_6 _ (List.mem_of_getElem? (i := 142) rfl)), (List.forall_mem_cons.mpr ⟨(tb_6 _ (List.mem_of_getElem? (i := 144) rfl)), (List.forall_mem_cons.mpr ⟨(tb_6 _ (List.mem_of_getElem? (i := 146) rfl)), (List.forall_mem_cons.mpr ⟨(tb_6 _ (List.mem_of_getElem? (i := 148) rfl)), (List.forall_mem_cons.mpr ⟨(tb_6 _ (List.mem_of_getElem? (i := 150) rfl)), (List.forall_mem_cons.mpr ⟨(tb_6 _ (List.mem_of_getElem? (i := 152) rfl)), (List.forall_mem_cons.mpr ⟨(tb_6 _ (List.mem_of_getElem? (i := 154) rfl)), (List.forall_mem_cons.mpr ⟨(tb_6 _ (List.mem_of_getElem? (i := 156) rfl)), (List.forall_mem_cons.mpr ⟨(tb_6 _ (List.mem_of_getElem? (i := 158) rfl)), (List.forall_mem_cons.mpr ⟨(tb_6 _ (List.mem_of_getElem? (i := 160) rfl)), (List.forall_mem_cons.mpr ⟨(tb_6 _ (List.mem_of_getElem? (i := 162) rfl)), (List.forall_mem_cons.mpr ⟨(tb_6 _ (List.mem_of_getElem? (i := 164) rfl)), (List.forall_mem_cons.mpr ⟨(tb_6 _ (List.mem_of_getElem? (i := 166) rfl)), (List.forall_mem_cons.mpr ⟨(tb_6 _ (List.mem_of_getElem? (i := 168) rfl)), (List.forall_mem_cons.mpr ⟨(tb_6 _ (List.mem_of_getElem? (i := 170) rfl)), (List.forall_mem_cons.mpr ⟨(tb_6 _ (List.mem_of_getElem? (i := 172) rfl)), (List.forall_mem_cons.mpr ⟨(tb_6 _ (List.mem_of_getElem? (i := 174) rfl)), (List.forall_mem_cons.mpr ⟨(tb_6 _ (List.mem_of_getElem? (i := 176) rfl)), (List.forall_mem_cons.mpr ⟨(tb_6 _ (List.mem_of_getElem? (i := 178) rfl)), (List.forall_mem_cons.mpr ⟨(tb_6 _ (List.mem_of_getElem? (i := 180) rfl)), (List.forall_mem_cons.mpr ⟨(tb_6 _ (List.mem_of_getElem? (i := 182) rfl)), (List.forall_mem_cons.mpr ⟨(tb_6 _ (List.mem_of_getElem? (i := 184) rfl)), (List.forall_mem_cons.mpr ⟨(tb_6 _ (List.mem_of_getElem? (i := 186) rfl)), (List.forall_mem_cons.mpr ⟨(tb_6 _ (List.mem_of_getElem? (i := 188) rfl)), (List.forall_mem_cons.mpr ⟨(tb_6 _ (List.mem_of_getElem? (i := 190) rfl)), (List.forall_mem_cons.mpr ⟨(tb_6 _ (List.mem_of_getElem? (i := 192) rfl)), (List.forall_mem_cons.mpr ⟨(tb_6 _ (List.mem_of_getElem? (i := 194) rfl)), (List.forall_mem_cons.mpr ⟨(tb_6 _ (List.mem_of_getElem? (i := 196) rfl)), (List.forall_mem_cons.mpr ⟨(tb_6 _ (List.mem_of_getElem? (i := 198) rfl)), (List.forall_mem_cons.mpr ⟨(tb_6 _ (List.mem_of_getElem? (i := 200) rfl)), (fun _ h => absurd h List.not_mem_nil)⟩)⟩)⟩)⟩)⟩)⟩)⟩)⟩)⟩)⟩)⟩)⟩)⟩)⟩)⟩)⟩)⟩)⟩)⟩)⟩)⟩)⟩)⟩)⟩)⟩)⟩)⟩)⟩)⟩)⟩)⟩)⟩)⟩)⟩)⟩)⟩)⟩)⟩)⟩)⟩)⟩)⟩)⟩)⟩)⟩)⟩)⟩)⟩)⟩)⟩)⟩)⟩)⟩)⟩)⟩)⟩)⟩)⟩)⟩)⟩)⟩)⟩)⟩)⟩)⟩)⟩)⟩)⟩)⟩)⟩)⟩)⟩)⟩)⟩)⟩)⟩)⟩)⟩)
set_option maxRecDepth 20000 in
theorem ui_11 : Cond.instantiable (mm_on 11) (mm_tn 11) ∈ lw_tbl ∧ Cond.initialized (mm_on 11) ∈ lw_tbl := ⟨(tb_5 _ (List.mem_of_getElem? (i := 195) rfl)), (tb_1 _ (List.mem_of_getElem? (i := 12) rfl))⟩
set_option maxRecDepth 20000 in
theorem aw_i : Cond.arrayClass .int ∈ lw_tbl := (tb_1 _ (List.mem_of_getElem? (i := 84) rfl))
set_option maxRecDepth 20000 in
theorem aw_l : Cond.arrayClass .long ∈ lw_tbl := (tb_1 _ (List.mem_of_getElem? (i := 144) rfl))
set_option maxRecDepth 20000 in
theorem aw_z : Cond.arrayClass .boolean ∈ lw_tbl := (tb_1 _ (List.mem_of_getElem? (i := 145) rfl))
set_option maxRecDepth 20000 in
theorem aw_b : Cond.arrayClass .byte ∈ lw_tbl := (tb_1 _ (List.mem_of_getElem? (i := 83) rfl))
set_option maxRecDepth 20000 in
theorem aw_o : Cond.arrayOver (.array .int) ∈ lw_tbl := (tb_1 _ (List.mem_of_getElem? (i := 153) rfl))
set_option maxRecDepth 20000 in
theorem oi_1 : Cond.instanceMethod objectInit ∈ lw_tbl := (tb_1 _ (List.mem_of_getElem? (i := 27) rfl))
set_option maxRecDepth 20000 in
theorem oi_2 : Cond.code objectInit ⟨#[0xb1]⟩ 1 none ∈ lw_tbl := (tb_1 _ (List.mem_of_getElem? (i := 28) rfl))
set_option maxRecDepth 20000 in
theorem mt_min : Cond.static Lib.Math.min.name ∈ lw_tbl ∧ Cond.initialized "java/lang/Math" ∈ lw_tbl ∧ Cond.code Lib.Math.min.name Lib.Math.min.code 2 (some .int) ∈ lw_tbl := ⟨(tb_3 _ (List.mem_of_getElem? (i := 12) rfl)), (tb_1 _ (List.mem_of_getElem? (i := 13) rfl)), (tb_3 _ (List.mem_of_getElem? (i := 13) rfl))⟩
set_option maxRecDepth 20000 in
theorem mt_max : Cond.static Lib.Math.max.name ∈ lw_tbl ∧ Cond.initialized "java/lang/Math" ∈ lw_tbl ∧ Cond.code Lib.Math.max.name Lib.Math.max.code 2 (some .int) ∈ lw_tbl := ⟨(tb_3 _ (List.mem_of_getElem? (i := 21) rfl)), (tb_1 _ (List.mem_of_getElem? (i := 13) rfl)), (tb_3 _ (List.mem_of_getElem? (i := 22) rfl))⟩
